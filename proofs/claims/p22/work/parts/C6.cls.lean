abbrev V93_Br : vV := [(0, 2, [(4, 0), (0, 0), (0, 0)]), (1, 0, [])]
theorem len_V93_Br_oz_C6cls : (V93_Br).length = 2 := by decide +kernel
theorem oz_C6cls_1 : vsub V93_Br V45 [] = true := by decide +kernel
def oz_C6clsl_0 : List (Nat × Nat) := [(0, 0), (0, 1), (0, 2)]
theorem oz_C6cls_2 : (oz_C6clsl_0).all (fun p => !tbz 7 (Nat.add (Nat.mul 32 p.1) p.2)) = true := by decide +kernel
def oz_C6clsl_1 : List Nat := []
theorem oz_C6cls_3 : (oz_C6clsl_1).all (fun p => !tbz 0 p) = true := by decide +kernel
theorem oz_C6cls_4 : okc oz_C6clsl_1 0 = true := by decide +kernel
/-- BitSource.begin: this, #1 -/
theorem C93_Br {σE : rS} {D N : Nat → Nat} {F : hF} {A : hA} {d c s : Nat} {Q : wQ} (H : HW V93_Br σE D N F A) {a2 a3 : Int} (n1 : Int) (en1 : (N 1 : Int) = n1) (u0_1 : Int) (eu0_1 : F 0 1 = u0_1) (u0_2 : Int) (eu0_2 : F 0 2 = u0_2) (h0 : inr (a2)) (h1 : inr (a3)) (h2 : 0 ≤ (a2) ∧ (a3) ≤ (n1) ∧ (n1) ≤ 65536 ∧ 0 ≤ (a3) ∧ (a2) ≤ 200000) (k : ∀ (z : Int) (σ : rS) (Fₚ : hF) (Aₚ : hA), HW V93_Br σ D N Fₚ Aₚ → OUT (V93_Br).length D N σE c s D N σ c s → SF [(0, 0), (0, 1), (0, 2)] F Fₚ → SA [] A Aₚ → ∀ y0_1 : Int, Fₚ 0 1 = y0_1 → ∀ y0_2 : Int, Fₚ 0 2 = y0_2 → Fₚ 0 0 = (D 1 : Int) → ((z) = 0 ∨ (z) = 1) → ((y0_1) = (a2)) → ((z) = 0 ∧ (y0_2) = 0 ∨ (z) = 1 ∧ 0 ≤ (y0_2) ∧ (y0_2) < 8 * ((a3) - (a2))) → Q (some (I z)) σ c s) : Ew 93 (d + 1) 0 (rargs 0 [.ref (D 0), .ref (D 1), I a2, I a3]) [] σE c s Q := by
  have O := OUT_refl (n := (V93_Br).length) (D := D) (N := N) (σ := σE) (c := c) (s := s)
  have HE := H
  have r1 : (-2147483648 : Int) ≤ u0_1 ∧ u0_1 ≤ 2147483647 := rngE (show (-2147483648 : Int) ≤ F 0 1 ∧ F 0 1 ≤ 2147483647 from H.krg 0 1 (ltn len_V93_Br_oz_C6cls rfl)) (show F 0 1 = u0_1 from (eu0_1))
  have r2 : (-2147483648 : Int) ≤ u0_2 ∧ u0_2 ≤ 2147483647 := rngE (show (-2147483648 : Int) ≤ F 0 2 ∧ F 0 2 ≤ 2147483647 from H.krg 0 2 (ltn len_V93_Br_oz_C6cls rfl)) (show F 0 2 = u0_2 from (eu0_2))
  have r3 : (0 : Int) ≤ n1 ∧ n1 ≤ 1000000 := nleE (H.nle 1 (ltn len_V93_Br_oz_C6cls rfl)) (show (N 1 : Int) = n1 from en1)
  refine Ew_of (pcₚ := 1) (fun _ => x_aload_n rfl rfl) ?_
  refine Ew_of (pcₚ := 2) (fun _ => x_aload_n rfl rfl) ?_
  refine v_p H (o := 0) (z := ((D 1 : Nat) : Int)) (v := .ref (D 1)) rfl rfl rfl rfl rfl rfl (vrf rfl) rfl (show (-1 : Int) ≤ ((D 1 : Nat) : Int) by omega) (fun σ H Oₚ => ?_)
  have O := OUT_trans O Oₚ
  have cFu4 : SF oz_C6clsl_0 F (updF F 0 0 ((D 1 : Nat) : Int)) := SF_upd (SF_refl) rfl
  have mFu4 := SFm_of cFu4 oz_C6cls_2
  refine Ew_of (pcₚ := 6) (fun _ => x_aload_n rfl rfl) ?_
  refine Ew_of (pcₚ := 7) (fun _ => x_iload_n rfl rfl) ?_
  refine v_p H (o := 0) (z := a2) (v := I (a2)) rfl rfl rfl rfl rfl rfl rfl rfl (show (-2147483648 : Int) ≤ a2 ∧ a2 ≤ 2147483647 from q_2729 h2) (fun σ H Oₚ => ?_)
  have O := OUT_trans O Oₚ
  have cFu5 : SF oz_C6clsl_0 F (updF (updF F 0 0 ((D 1 : Nat) : Int)) 0 1 (a2)) := SF_upd (cFu4) rfl
  have mFu5 := SFm_of cFu5 oz_C6cls_2
  refine Ew_of (pcₚ := 11) (fun _ => x_aload_n rfl rfl) ?_
  refine Ew_of (pcₚ := 12) (fun _ => x_iconst rfl) ?_
  refine v_p H (o := 0) (z := 0) (v := I (0)) rfl rfl rfl rfl rfl rfl rfl rfl (show (-2147483648 : Int) ≤ 0 ∧ 0 ≤ 2147483647 from q_240) (fun σ H Oₚ => ?_)
  have O := OUT_trans O Oₚ
  have cFu6 : SF oz_C6clsl_0 F (updF (updF (updF F 0 0 ((D 1 : Nat) : Int)) 0 1 (a2)) 0 2 (0)) := SF_upd (cFu5) rfl
  have mFu6 := SFm_of cFu6 oz_C6cls_2
  refine Ew_of (pcₚ := 16) (fun _ => x_iload_n rfl rfl) ?_
  refine Ew_of (pcₚ := 17) (fun _ => x_iload_n rfl rfl) ?_
  refine w_icmple (t := 28) rfl rfl (show inr (a3) from h1) (show inr (a2) from h0) (fun b7 => ?_) (fun b7 => ?_)
  · refine Ew_of (pcₚ := 29) (fun _ => x_iconst rfl) ?_
    exact w_ireturn rfl (k (0) _ _ _ H O (cFu6) (SA_refl) (a2) (rfl) (0) (rfl) ((show (updF F 0 0 ((D 1 : Nat) : Int)) 0 0 = ((D 1 : Nat) : Int) from rfl)) (show (0) = 0 ∨ (0) = 1 by first | exact q_1 | omega) (show (a2) = a2 from q_42) (show (0) = 0 ∧ (0) = 0 ∨ (0) = 1 ∧ 0 ≤ (0) ∧ (0) < 8 * (a3 - a2) by first | exact q_2730 | omega))
  · refine Ew_of (pcₚ := 21) (fun _ => x_aload_n rfl rfl) ?_
    refine Ew_of (pcₚ := 22) (fun _ => x_iload_n rfl rfl) ?_
    refine Ew_of (pcₚ := 23) (fun _ => x_iconst rfl) ?_
    refine w_isub rfl ?_
    refine v_lB H (o := 1) rfl rfl rfl rfl (n := n1) (en1) (show 0 ≤ (a3 - 1) ∧ (a3 - 1) < n1 from q_2731 b7 h2) (fun v8 ev8 qv8 => ?_)
    have ev8 : (A 1) ((a3 - 1)) = v8 := (congrFun (rfl : A 1 = A 1) ((a3 - 1))).symm.trans ev8
    refine w_ifne (t := 30) rfl rfl (show inr (v8) from q_2536 qv8) (fun b9 => ?_) (fun b9 => ?_)
    · refine Ew_of (pcₚ := 31) (fun _ => x_aload_n rfl rfl) ?_
      refine Ew_of (pcₚ := 33) (fun _ => x_bipush (z := 8) rfl (by decide)) ?_
      refine Ew_of (pcₚ := 34) (fun _ => x_iload_n rfl rfl) ?_
      refine Ew_of (pcₚ := 35) (fun _ => x_iload_n rfl rfl) ?_
      refine w_isub rfl ?_
      refine Ew_of (pcₚ := 37) (fun _ => x_iconst rfl) ?_
      refine w_isub rfl ?_
      refine w_imul rfl ?_
      refine Ew_of (pcₚ := 40) (fun _ => x_aload_n rfl rfl) ?_
      refine Ew_of (pcₚ := 41) (fun _ => x_iload_n rfl rfl) ?_
      refine Ew_of (pcₚ := 42) (fun _ => x_iconst rfl) ?_
      refine w_isub rfl ?_
      refine v_lB H (o := 1) rfl rfl rfl rfl (n := n1) (en1) (show 0 ≤ (a3 - 1) ∧ (a3 - 1) < n1 from q_2731 b7 h2) (fun v10 ev10 qv10 => ?_)
      have ev10 : (A 1) ((a3 - 1)) = v10 := (congrFun (rfl : A 1 = A 1) ((a3 - 1))).symm.trans ev10
      refine Ew_of (pcₚ := 47) (fun _ => x_sipush (z := 255) rfl (by decide)) ?_
      refine v_and255 rfl ?_
      refine w_stat25 rfl rfl (by rfl) (C45 (D := puc 0 D) (N := puc 0 N) (HW_subc H oz_C6cls_1 oz_C6cls_4) (show inr ((v10 % 256)) from q_213) (show 1 ≤ ((v10 % 256)) by omega) (fun z11 σ11 F11ₚ A11ₚ Hₚ Oₚ hS11 hA11 pz11_0 pz11_1 pz11_2 => ⟨rfl, ?_⟩))
      refine v_backc (c := c) (s := s) H oz_C6cls_1 oz_C6cls_4 Hₚ Oₚ (fun F11 A11 H Oₚ eF11 eA11 => ?_)
      have O := OUT_trans O Oₚ
      -- PackHouse.highestBit
      have cF11 : SF oz_C6clsl_0 F F11 := SF_trans (cFu6) (SF_gluc (ι := oz_C6clsl_1) oz_C6cls_4 hS11 eF11 (by decide +kernel)) (any_sub (lₚ := []) (by decide +kernel))
      have mF11 := SFm_of cF11 oz_C6cls_2
      have cA11 : SA oz_C6clsl_1 A A11 := SA_trans (SA_refl) (SA_gluc (ι := oz_C6clsl_1) oz_C6cls_4 hA11 eA11 (by decide +kernel)) (any_subA (lₚ := []) (by decide +kernel))
      have mA11 := SAm_of cA11 oz_C6cls_3
      have hh8 : (z11) < 8 := p2_lt (by omega) (by rw [show p2 8 = 256 from by decide]; omega)
      refine w_iadd rfl ?_
      refine v_p H (o := 0) (z := ((8 * ((a3 - a2) - 1)) + z11)) (v := I (((8 * ((a3 - a2) - 1)) + z11))) rfl rfl rfl rfl rfl rfl rfl rfl (show (-2147483648 : Int) ≤ ((8 * ((a3 - a2) - 1)) + z11) ∧ ((8 * ((a3 - a2) - 1)) + z11) ≤ 2147483647 from q_2732 b7 h2 hh8 pz11_1) (fun σ H Oₚ => ?_)
      have O := OUT_trans O Oₚ
      have cFu12 : SF oz_C6clsl_0 F (updF F11 0 2 (((8 * ((a3 - a2) - 1)) + z11))) := SF_upd (cF11) rfl
      have mFu12 := SFm_of cFu12 oz_C6cls_2
      refine Ew_of (pcₚ := 56) (fun _ => x_iconst rfl) ?_
      exact w_ireturn rfl (k (1) _ _ _ H O (cFu12) (cA11) (a2) (((show F11 0 1 = (updF (updF (updF F 0 0 ((D 1 : Nat) : Int)) 0 1 (a2)) 0 2 (0)) 0 1 from (eF11 0 1)))) (((8 * ((a3 - a2) - 1)) + z11)) (rfl) ((((show F11 0 0 = (updF (updF (updF F 0 0 ((D 1 : Nat) : Int)) 0 1 (a2)) 0 2 (0)) 0 0 from (eF11 0 0)))).trans ((show (updF F 0 0 ((D 1 : Nat) : Int)) 0 0 = ((D 1 : Nat) : Int) from rfl))) (show (1) = 0 ∨ (1) = 1 by first | exact q_5 | omega) (show (a2) = a2 from q_42) (show (1) = 0 ∧ (((8 * ((a3 - a2) - 1)) + z11)) = 0 ∨ (1) = 1 ∧ 0 ≤ (((8 * ((a3 - a2) - 1)) + z11)) ∧ (((8 * ((a3 - a2) - 1)) + z11)) < 8 * (a3 - a2) by first | exact q_2733 b7 hh8 pz11_1 | omega))
    · refine Ew_of (pcₚ := 29) (fun _ => x_iconst rfl) ?_
      exact w_ireturn rfl (k (0) _ _ _ H O (cFu6) (SA_refl) (a2) (rfl) (0) (rfl) ((show (updF F 0 0 ((D 1 : Nat) : Int)) 0 0 = ((D 1 : Nat) : Int) from rfl)) (show (0) = 0 ∨ (0) = 1 by first | exact q_1 | omega) (show (a2) = a2 from q_42) (show (0) = 0 ∧ (0) = 0 ∨ (0) = 1 ∧ 0 ≤ (0) ∧ (0) < 8 * (a3 - a2) by first | exact q_2730 | omega))
abbrev V94 : vV := [(0, 2, [(4, 0), (0, 0), (0, 0)]), (1, 0, [])]
theorem len_V94_oz_C6cls : (V94).length = 2 := by decide +kernel
def oz_C6clsl_2 : List (Nat × Nat) := []
theorem oz_C6cls_6 : (oz_C6clsl_2).all (fun p => !tbz 0 (Nat.add (Nat.mul 32 p.1) p.2)) = true := by decide +kernel
/-- BitSource.peek: this, this.in -/
theorem C94 {σE : rS} {D N : Nat → Nat} {F : hF} {A : hA} {d c s : Nat} {Q : wQ} (H : HW V94 σE D N F A) {a1 : Int} (pf1 : F 0 0 = (D 1 : Int)) (n1 : Int) (en1 : (N 1 : Int) = n1) (u0_1 : Int) (eu0_1 : F 0 1 = u0_1) (u0_2 : Int) (eu0_2 : F 0 2 = u0_2) (h0 : inr (a1)) (h1 : 0 ≤ (a1) ∧ (a1) ≤ 31) (h2 : 0 ≤ (u0_1) ∧ (u0_1) ≤ 65536 ∧ (u0_2) ≤ 8 * ((n1) - (u0_1)) ∧ (n1) ≤ 65536) (h3 : -100 ≤ (u0_2)) (k : ∀ (z : Int) (σ : rS) (Fₚ : hF) (Aₚ : hA), HW V94 σ D N Fₚ Aₚ → OUT (V94).length D N σE c s D N σ c s → SF [] F Fₚ → SA [] A Aₚ → (inrJ (z)) → (0 ≤ (z) ∧ (z) < p2 ((a1))) → Q (some (J z)) σ c s) : Ew 94 (d + 0) 0 (rargs 0 [.ref (D 0), I a1]) [] σE c s Q := by
  have O := OUT_refl (n := (V94).length) (D := D) (N := N) (σ := σE) (c := c) (s := s)
  have HE := H
  have r1 : (-2147483648 : Int) ≤ u0_1 ∧ u0_1 ≤ 2147483647 := rngE (show (-2147483648 : Int) ≤ F 0 1 ∧ F 0 1 ≤ 2147483647 from H.krg 0 1 (ltn len_V94_oz_C6cls rfl)) (show F 0 1 = u0_1 from (eu0_1))
  have r2 : (-2147483648 : Int) ≤ u0_2 ∧ u0_2 ≤ 2147483647 := rngE (show (-2147483648 : Int) ≤ F 0 2 ∧ F 0 2 ≤ 2147483647 from H.krg 0 2 (ltn len_V94_oz_C6cls rfl)) (show F 0 2 = u0_2 from (eu0_2))
  have r3 : (0 : Int) ≤ n1 ∧ n1 ≤ 1000000 := nleE (H.nle 1 (ltn len_V94_oz_C6cls rfl)) (show (N 1 : Int) = n1 from en1)
  have hps0 := p2_pos ((a1))
  refine Ew_of (pcₚ := 1) (fun _ => x_aload_n rfl rfl) ?_
  refine v_g H (o := 0) (v := I (u0_2)) rfl rfl rfl rfl rfl (congrArg (fun z : Int => I z) ((eu0_2) : F 0 2 = u0_2)) ?_
  refine Ew_of (pcₚ := 5) (fun _ => x_iload_n rfl rfl) ?_
  have hc18 : ∀ (tc18_0 : Int), ∀ (ls : rO) (σ : rS) (F_c18 : hF) (A_c18 : hA) , rlook ls 0 = some (.ref (D 0)) → rlook ls 1 = some (I (a1)) → HW V94 σ D N F_c18 A_c18 → OUT (V94).length D N σE c s D N σ c s → SF [] F F_c18 → SA [] A A_c18 → (inr (tc18_0)) → (((u0_2) ≤ (a1) ∧ (tc18_0) = (0)) ∨ ((u0_2) > (a1) ∧ (tc18_0) = ((u0_2 - a1)))) → Ew 94 (d + 0) 18 ls [I (tc18_0)] σ c s Q := by
   as_aux_lemma =>
    intro tc18_0 ls σ F_c18 A_c18  lc18_0 lc18_1 H O hS_c18 hA_c18     jc18_0 jc18_1
    have cF_c18 : SF oz_C6clsl_2 F F_c18 := SF_trans (SF_refl) hS_c18 (any_sub (by decide +kernel))
    have mF_c18 := SFm_of cF_c18 oz_C6cls_6
    have cA_c18 : SA oz_C6clsl_1 A A_c18 := SA_trans (SA_refl) hA_c18 (any_subA (by decide +kernel))
    have mA_c18 := SAm_of cA_c18 oz_C6cls_3
    refine Ew_of (pcₚ := 19) (fun _ => x_istore_n rfl) ?_
    refine Ew_of (pcₚ := 20) (fun _ => x_aload_n rfl (rk_o (lc18_0) rfl rfl)) ?_
    refine v_g H (o := 0) (v := I (u0_2)) rfl rfl rfl rfl rfl (congrArg (fun z : Int => I z) (((mF_c18 0 2 rfl).trans (eu0_2)) : F_c18 0 2 = u0_2)) ?_
    refine Ew_of (pcₚ := 24) (fun _ => x_iload_n rfl rk_s) ?_
    refine w_isub rfl ?_
    refine Ew_of (pcₚ := 26) (fun _ => x_istore_n rfl) ?_
    refine Ew_of (pcₚ := 27) (fun _ => x_iload_n rfl rk_s) ?_
    refine w_ifgt (t := 32) rfl rfl (show inr ((u0_2 - tc18_0)) from q_2734 h1 h3 jc18_1) (fun b4 => ?_) (fun b4 => ?_)
    · refine Ew_of (pcₚ := 33) (fun _ => x_iload_n rfl (rk_o (rk_s) rfl rfl)) ?_
      refine Ew_of (pcₚ := 34) (fun _ => x_iconst rfl) ?_
      refine w_ishrK 3 8 (by decide) (by decide) rfl (show inr (tc18_0) from jc18_0) (fun z5 gz5 dz5 => ?_)
      refine Ew_of (pcₚ := 37) (fun _ => x_istore rfl) ?_
      refine Ew_of (pcₚ := 38) (fun _ => x_aload_n rfl (rk_o (rk_o (rk_o (lc18_0) rfl rfl) rfl rfl) rfl rfl)) ?_
      refine v_g H (o := 0) (v := I (u0_2)) rfl rfl rfl rfl rfl (congrArg (fun z : Int => I z) (((mF_c18 0 2 rfl).trans (eu0_2)) : F_c18 0 2 = u0_2)) ?_
      refine Ew_of (pcₚ := 42) (fun _ => x_iconst rfl) ?_
      refine w_isub rfl ?_
      refine Ew_of (pcₚ := 44) (fun _ => x_iconst rfl) ?_
      refine w_ishrK 3 8 (by decide) (by decide) rfl (show inr ((u0_2 - 1)) from q_2735 h2 h3) (fun z6 gz6 dz6 => ?_)
      refine Ew_of (pcₚ := 47) (fun _ => x_istore rfl) ?_
      refine Ew_of (pcₚ := 48) (fun _ => x_lconst (z := 0) rfl (by decide)) ?_
      refine Ew_of (pcₚ := 50) (fun _ => x_lstore rfl) ?_
      refine Ew_of (pcₚ := 52) (fun _ => x_iload rfl (rk2_o (rk_s) rfl rfl)) ?_
      refine Ew_of (pcₚ := 54) (fun _ => x_istore rfl) ?_
      suffices hl54 : ∀ (m : Nat), ∀ (ls : rO) (σ : rS) (F_54 : hF) (A_54 : hA) (x54_6 : Int) (x54_8 : Int), rlook ls 0 = some (.ref (D 0)) → rlook ls 1 = some (I (a1)) → rlook ls 2 = some (I (tc18_0)) → rlook ls 3 = some (I ((u0_2 - tc18_0))) → rlook ls 4 = some (I (z5)) → rlook ls 6 = some (J (x54_6)) → rlook ls 8 = some (I (x54_8)) → HW V94 σ D N F_54 A_54 → OUT (V94).length D N σE c s D N σ c s → SF [] F_c18 F_54 → SA [] A_c18 A_54 → (inrJ (x54_6)) → (inr (x54_8)) → ((z5) - 1 ≤ (x54_8) ∧ (x54_8) ≤ (z6)) → ((x54_8) - (z5) + 1).toNat = m → Ew 94 (d + 0) 54 ls [] σ c s Q from
        hl54 _ _ _ _ _ (0) (z6) (rk_o (rk2_o (rk_o (rk_o (rk_o (rk_o (lc18_0) rfl rfl) rfl rfl) rfl rfl) rfl rfl) rfl rfl) rfl rfl) (rk_o (rk2_o (rk_o (rk_o (rk_o (rk_o (lc18_1) rfl rfl) rfl rfl) rfl rfl) rfl rfl) rfl rfl) rfl rfl) (rk_o (rk2_o (rk_o (rk_o (rk_o (rk_s) rfl rfl) rfl rfl) rfl rfl) rfl rfl) rfl rfl) (rk_o (rk2_o (rk_o (rk_o (rk_s) rfl rfl) rfl rfl) rfl rfl) rfl rfl) (rk_o (rk2_o (rk_o (rk_s) rfl rfl) rfl rfl) rfl rfl) (rk_o (rk2_s) rfl rfl) (rk_s) H O (SF_refl) (SA_refl)     (show inrJ (0) from q_81) (show inr (z6) from gz6) (show (z5) - 1 ≤ (z6) ∧ (z6) ≤ (z6) by omega) rfl
      as_aux_lemma =>
      intro m
      induction m using Nat.strongRecOn with
      | _ m ih54 =>
        intro ls σ F_54 A_54 x54_6 x54_8 l54_0 l54_1 l54_2 l54_3 l54_4 l54_6 l54_8 H O hS_54 hA_54     j54_0 j54_1 j54_2 hm54
        have cF_54 : SF oz_C6clsl_2 F F_54 := SF_trans (cF_c18) hS_54 (any_sub (by decide +kernel))
        have mF_54 := SFm_of cF_54 oz_C6cls_6
        have cA_54 : SA oz_C6clsl_1 A A_54 := SA_trans (cA_c18) hA_54 (any_subA (by decide +kernel))
        have mA_54 := SAm_of cA_54 oz_C6cls_3
        refine Ew_of (pcₚ := 56) (fun _ => x_iload rfl l54_8) ?_
        refine Ew_of (pcₚ := 58) (fun _ => x_iload rfl l54_4) ?_
        refine w_icmplt (t := 92) rfl rfl (show inr (x54_8) from j54_1) (show inr (z5) from gz5) (fun b7 => ?_) (fun b7 => ?_)
        · refine Ew_of (pcₚ := 94) (fun _ => x_lload rfl l54_6) ?_
          refine Ew_of (pcₚ := 95) (fun _ => x_iload_n rfl l54_2) ?_
          refine Ew_of (pcₚ := 97) (fun _ => x_bipush (z := 7) rfl (by decide)) ?_
          refine w_iand rfl (show inr (tc18_0) from jc18_0) (show inr (7) from q_355) (fun z8 gz8 gaz8 gbz8 => ?_)
          refine w_lushrA rfl (fun z9 gz9 => ?_)
          refine Ew_of (pcₚ := 100) (fun _ => x_lconst (z := 1) rfl (by decide)) ?_
          refine Ew_of (pcₚ := 101) (fun _ => x_iload_n rfl l54_3) ?_
          have hp63 : p2 (((u0_2 - tc18_0))) ≤ p2 31 := p2_mono (by omega)
          have : p2 31 = 2147483648 := by decide
          have := p2_pos (((u0_2 - tc18_0)))
          refine w_lshl1 rfl (show 0 ≤ (u0_2 - tc18_0) ∧ (u0_2 - tc18_0) ≤ 63 from q_2736 b4 gaz8 h1 jc18_1) ?_
          refine Ew_of (pcₚ := 103) (fun _ => x_lconst (z := 1) rfl (by decide)) ?_
          refine w_lsub rfl ?_
          refine w_land rfl (show inrJ (z9) from gz9) (show inrJ ((p2 ((u0_2 - tc18_0)) - 1)) by omega) (fun z11 gz11 gaz11 gbz11 => ?_)
          refine Ew_of (pcₚ := 106) (fun _ => x_iload_n rfl l54_1) ?_
          refine Ew_of (pcₚ := 107) (fun _ => x_iload_n rfl l54_3) ?_
          refine w_isub rfl ?_
          have hpk := peek_ok (z := (z11)) (n := (a1)) (b := ((u0_2 - tc18_0))) (by omega) (by omega) (by omega) (by omega)
          have hpm : p2 ((a1)) ≤ p2 31 := p2_mono (by omega)
          have : p2 31 = 2147483648 := by decide
          have hps := p2_pos ((a1))
          refine w_lshlT rfl (show 0 ≤ (a1 - (u0_2 - tc18_0)) ∧ (a1 - (u0_2 - tc18_0)) ≤ 63 from q_2737 b4 gaz8 h1 jc18_1) ?_
          exact w_lreturn rfl (k ((z11 * p2 ((a1 - (u0_2 - tc18_0))))) _ _ _ H O (cF_54) (cA_54) (show inrJ ((z11 * p2 ((a1 - (u0_2 - tc18_0))))) by omega) (show 0 ≤ ((z11 * p2 ((a1 - (u0_2 - tc18_0))))) ∧ ((z11 * p2 ((a1 - (u0_2 - tc18_0))))) < p2 (a1) by omega))
        · refine Ew_of (pcₚ := 63) (fun _ => x_lload rfl l54_6) ?_
          refine Ew_of (pcₚ := 65) (fun _ => x_bipush (z := 8) rfl (by decide)) ?_
          refine w_lshlA rfl (fun z13 gz13 => ?_)
          refine Ew_of (pcₚ := 67) (fun _ => x_aload_n rfl l54_0) ?_
          refine v_g H (o := 0) (v := .ref (D 1)) rfl rfl rfl rfl rfl (vrf ((mF_54 0 0 rfl).trans (pf1))) ?_
          refine Ew_of (pcₚ := 71) (fun _ => x_aload_n rfl l54_0) ?_
          refine v_g H (o := 0) (v := I (u0_1)) rfl rfl rfl rfl rfl (congrArg (fun z : Int => I z) (((mF_54 0 1 rfl).trans (eu0_1)) : F_54 0 1 = u0_1)) ?_
          refine Ew_of (pcₚ := 76) (fun _ => x_iload rfl l54_8) ?_
          refine w_iadd rfl ?_
          refine v_lB H (o := 1) rfl rfl rfl rfl (n := n1) (en1) (show 0 ≤ (u0_1 + x54_8) ∧ (u0_1 + x54_8) < n1 by omega) (fun v14 ev14 qv14 => ?_)
          have ev14 : (A 1) ((u0_1 + x54_8)) = v14 := (congrFun (funext (mA_54 1 rfl)) ((u0_1 + x54_8))).symm.trans ev14
          refine Ew_of (pcₚ := 81) (fun _ => x_sipush (z := 255) rfl (by decide)) ?_
          refine w_iand rfl (show inr (v14) from q_2536 qv14) (show inr (255) from q_36) (fun z15 gz15 gaz15 gbz15 => ?_)
          refine w_i2l rfl (show inr (z15) from gz15) ?_
          refine w_lorA rfl (fun z16 gz16 => ?_)
          refine Ew_of (pcₚ := 86) (fun _ => x_lstore rfl) ?_
          refine Ew_of (pcₚ := 89) (fun _ => x_iinc (len := 3) rfl (rk2_o (l54_8) rfl rfl)) ?_
          refine Ew_of (pcₚ := 54) (fun _ => x_goto rfl rfl) ?_
          exact ih54 _ (msE hm54 q_633 (q_634 b7)) _ _ _ _ (z16) ((x54_8 + (-1))) (rk_o (rk2_o (l54_0) rfl rfl) rfl rfl) (rk_o (rk2_o (l54_1) rfl rfl) rfl rfl) (rk_o (rk2_o (l54_2) rfl rfl) rfl rfl) (rk_o (rk2_o (l54_3) rfl rfl) rfl rfl) (rk_o (rk2_o (l54_4) rfl rfl) rfl rfl) (rk_o (rk2_s) rfl rfl) (rk_s) H O (hS_54) (hA_54)     (show inrJ (z16) from gz16) (show inr ((x54_8 + (-1))) by omega) (show (z5) - 1 ≤ ((x54_8 + (-1))) ∧ ((x54_8 + (-1))) ≤ (z6) from q_2738 b7 j54_2) rfl
    · refine Ew_of (pcₚ := 31) (fun _ => x_lconst (z := 0) rfl (by decide)) ?_
      exact w_lreturn rfl (k (0) _ _ _ H O (cF_c18) (cA_c18) (show inrJ (0) from q_81) (show 0 ≤ (0) ∧ (0) < p2 (a1) by omega))
  refine w_icmple (t := 17) rfl rfl (show inr (u0_2) from q_2739 h2 h3) (show inr (a1) from h0) (fun b17 => ?_) (fun b17 => ?_)
  · refine Ew_of (pcₚ := 18) (fun _ => x_iconst rfl) ?_
    exact hc18 (0) _ _ _ _  (rfl) (rfl) H O (SF_refl) (SA_refl)     (show inr (0) from q_20) (show ((u0_2) ≤ (a1) ∧ (0) = (0)) ∨ ((u0_2) > (a1) ∧ (0) = ((u0_2 - a1))) from q_2740 b17)
  · refine Ew_of (pcₚ := 9) (fun _ => x_aload_n rfl rfl) ?_
    refine v_g H (o := 0) (v := I (u0_2)) rfl rfl rfl rfl rfl (congrArg (fun z : Int => I z) ((eu0_2) : F 0 2 = u0_2)) ?_
    refine Ew_of (pcₚ := 13) (fun _ => x_iload_n rfl rfl) ?_
    refine w_isub rfl ?_
    refine Ew_of (pcₚ := 18) (fun _ => x_goto rfl rfl) ?_
    exact hc18 ((u0_2 - a1)) _ _ _ _  (rfl) (rfl) H O (SF_refl) (SA_refl)     (show inr ((u0_2 - a1)) from q_2742 b17 h1 h2) (show ((u0_2) ≤ (a1) ∧ ((u0_2 - a1)) = (0)) ∨ ((u0_2) > (a1) ∧ ((u0_2 - a1)) = ((u0_2 - a1))) from q_2741 b17)
abbrev V95 : vV := [(0, 2, [(4, 0), (0, 0), (0, 0)]), (1, 0, [])]
theorem len_V95_oz_C6cls : (V95).length = 2 := by decide +kernel
theorem oz_C6cls_8 : vsub V95 V94 [0, 1] = true := by decide +kernel
def oz_C6clsl_3 : List (Nat × Nat) := [(0, 2)]
theorem oz_C6cls_9 : (oz_C6clsl_3).all (fun p => !tbz 4 (Nat.add (Nat.mul 32 p.1) p.2)) = true := by decide +kernel
def oz_C6clsl_4 : List Nat := [0, 1]
theorem oz_C6cls_10 : okc oz_C6clsl_4 512 = true := by decide +kernel
/-- BitSource.take: this, this.in -/
theorem C95 {σE : rS} {D N : Nat → Nat} {F : hF} {A : hA} {d c s : Nat} {Q : wQ} (H : HW V95 σE D N F A) {a1 : Int} (pf1 : F 0 0 = (D 1 : Int)) (n1 : Int) (en1 : (N 1 : Int) = n1) (u0_1 : Int) (eu0_1 : F 0 1 = u0_1) (u0_2 : Int) (eu0_2 : F 0 2 = u0_2) (h0 : inr (a1)) (h1 : 0 ≤ (a1) ∧ (a1) ≤ 31) (h2 : 0 ≤ (u0_1) ∧ (u0_1) ≤ 65536 ∧ (u0_2) ≤ 8 * ((n1) - (u0_1)) ∧ (n1) ≤ 65536) (h3 : -100 ≤ (u0_2)) (k : ∀ (z : Int) (σ : rS) (Fₚ : hF) (Aₚ : hA), HW V95 σ D N Fₚ Aₚ → OUT (V95).length D N σE c s D N σ c s → SF [(0, 2)] F Fₚ → SA [] A Aₚ → ∀ y0_2 : Int, Fₚ 0 2 = y0_2 → (inrJ (z)) → (0 ≤ (z) ∧ (z) < p2 ((a1))) → ((y0_2) = (u0_2) - (a1)) → Q (some (J z)) σ c s) : Ew 95 (d + 1) 0 (rargs 0 [.ref (D 0), I a1]) [] σE c s Q := by
  have O := OUT_refl (n := (V95).length) (D := D) (N := N) (σ := σE) (c := c) (s := s)
  have HE := H
  have r1 : (-2147483648 : Int) ≤ u0_1 ∧ u0_1 ≤ 2147483647 := rngE (show (-2147483648 : Int) ≤ F 0 1 ∧ F 0 1 ≤ 2147483647 from H.krg 0 1 (ltn len_V95_oz_C6cls rfl)) (show F 0 1 = u0_1 from (eu0_1))
  have r2 : (-2147483648 : Int) ≤ u0_2 ∧ u0_2 ≤ 2147483647 := rngE (show (-2147483648 : Int) ≤ F 0 2 ∧ F 0 2 ≤ 2147483647 from H.krg 0 2 (ltn len_V95_oz_C6cls rfl)) (show F 0 2 = u0_2 from (eu0_2))
  have r3 : (0 : Int) ≤ n1 ∧ n1 ≤ 1000000 := nleE (H.nle 1 (ltn len_V95_oz_C6cls rfl)) (show (N 1 : Int) = n1 from en1)
  refine Ew_of (pcₚ := 1) (fun _ => x_aload_n rfl rfl) ?_
  refine Ew_of (pcₚ := 2) (fun _ => x_iload_n rfl rfl) ?_
  refine v_inv H (o := 0) rfl rfl rfl rfl rfl rfl (by rfl) (C94 (D := puc 512 D) (N := puc 512 N) (HW_subc H oz_C6cls_8 oz_C6cls_10) (pf1) (n1) (en1) (u0_1) ((eu0_1)) (u0_2) ((eu0_2)) (show inr (a1) from h0) (show 0 ≤ (a1) ∧ (a1) ≤ 31 from h1) (show 0 ≤ (u0_1) ∧ (u0_1) ≤ 65536 ∧ (u0_2) ≤ 8 * ((n1) - (u0_1)) ∧ (n1) ≤ 65536 from h2) (show -100 ≤ (u0_2) from h3) (fun z4 σ4 F4ₚ A4ₚ Hₚ Oₚ hS4 hA4 pz4_0 pz4_1 => ⟨rfl, ?_⟩))
  refine v_backc (c := c) (s := s) H oz_C6cls_8 oz_C6cls_10 Hₚ Oₚ (fun F4 A4 H Oₚ eF4 eA4 => ?_)
  have O := OUT_trans O Oₚ
  -- BitSource.peek
  have cF4 : SF oz_C6clsl_3 F F4 := SF_trans (SF_refl) (SF_gluc (ι := oz_C6clsl_4) oz_C6cls_10 hS4 eF4 (by decide +kernel)) (any_sub (lₚ := []) (by decide +kernel))
  have mF4 := SFm_of cF4 oz_C6cls_9
  have cA4 : SA oz_C6clsl_1 A A4 := SA_trans (SA_refl) (SA_gluc (ι := oz_C6clsl_4) oz_C6cls_10 hA4 eA4 (by decide +kernel)) (any_subA (lₚ := []) (by decide +kernel))
  have mA4 := SAm_of cA4 oz_C6cls_3
  refine Ew_of (pcₚ := 6) (fun _ => x_lstore_n rfl) ?_
  refine Ew_of (pcₚ := 7) (fun _ => x_aload_n rfl (rk2_o (rfl) rfl rfl)) ?_
  refine Ew_of (pcₚ := 8) (fun _ => x_dup rfl rfl) ?_
  refine v_g H (o := 0) (v := I (u0_2)) rfl rfl rfl rfl rfl (congrArg (fun z : Int => I z) ((((show F4 0 2 = F 0 2 from (eF4 0 2).trans (hS4 0 2 rfl))).trans (eu0_2)) : F4 0 2 = u0_2)) ?_
  refine Ew_of (pcₚ := 12) (fun _ => x_iload_n rfl (rk2_o (rfl) rfl rfl)) ?_
  refine w_isub rfl ?_
  refine v_p H (o := 0) (z := (u0_2 - a1)) (v := I ((u0_2 - a1))) rfl rfl rfl rfl rfl rfl rfl rfl (show (-2147483648 : Int) ≤ (u0_2 - a1) ∧ (u0_2 - a1) ≤ 2147483647 from q_2743 h1 h2 h3) (fun σ H Oₚ => ?_)
  have O := OUT_trans O Oₚ
  have cFu5 : SF oz_C6clsl_3 F (updF F4 0 2 ((u0_2 - a1))) := SF_upd (cF4) rfl
  have mFu5 := SFm_of cFu5 oz_C6cls_9
  refine Ew_of (pcₚ := 17) (fun _ => x_lload_n rfl rk2_s) ?_
  exact w_lreturn rfl (k (z4) _ _ _ H O (cFu5) (cA4) ((u0_2 - a1)) (rfl) (show inrJ (z4) from pz4_0) (show 0 ≤ (z4) ∧ (z4) < p2 (a1) from pz4_1) (show ((u0_2 - a1)) = (u0_2) - a1 from q_1321))
abbrev V188 : vV := [(0, 9, [(4, 0), (4, 0), (4, 0)]), (1, 2, [])]
theorem len_V188_oz_C6cls : (V188).length = 2 := by decide +kernel
/-- Stand.latestBy: this, this.latest -/
theorem C188 {σE : rS} {D N : Nat → Nat} {F : hF} {A : hA} {d c s : Nat} {Q : wQ} (H : HW V188 σE D N F A) {a1 a2 : Int} (pf1 : F 0 2 = (D 1 : Int)) (n1 : Int) (en1 : (N 1 : Int) = n1) (h0 : inr (a1)) (h1 : inr (a2)) (h2 : 1 ≤ (a1) ∧ (a1) ≤ 3) (h3 : (n1) = 3) (k : ∀ (z : Int) (σ : rS) (Fₚ : hF) (Aₚ : hA), HW V188 σ D N Fₚ Aₚ → OUT (V188).length D N σE c s D N σ c s → SF [] F Fₚ → SA [] A Aₚ → (inrJ (z)) → Q (some (J z)) σ c s) : Ew 188 (d + 0) 0 (rargs 0 [.ref (D 0), I a1, I a2]) [] σE c s Q := by
  have O := OUT_refl (n := (V188).length) (D := D) (N := N) (σ := σE) (c := c) (s := s)
  have HE := H
  have r1 : (0 : Int) ≤ n1 ∧ n1 ≤ 1000000 := nleE (H.nle 1 (ltn len_V188_oz_C6cls rfl)) (show (N 1 : Int) = n1 from en1)
  refine Ew_of (pcₚ := 1) (fun _ => x_iload_n rfl rfl) ?_
  have hc11 : ∀ (tc11_0 : Int), ∀ (ls : rO) (σ : rS) (F_c11 : hF) (A_c11 : hA) , rlook ls 0 = some (.ref (D 0)) → HW V188 σ D N F_c11 A_c11 → OUT (V188).length D N σE c s D N σ c s → SF [] F F_c11 → SA [] A A_c11 → (inr (tc11_0)) → (((a2) ≠ (0) ∧ (tc11_0) = (a1)) ∨ ((a2) = (0) ∧ (tc11_0) = ((a1 + 1)))) → Ew 188 (d + 0) 11 ls [I (tc11_0)] σ c s Q := by
   as_aux_lemma =>
    intro tc11_0 ls σ F_c11 A_c11  lc11_0 H O hS_c11 hA_c11     jc11_0 jc11_1
    have cF_c11 : SF oz_C6clsl_2 F F_c11 := SF_trans (SF_refl) hS_c11 (any_sub (by decide +kernel))
    have mF_c11 := SFm_of cF_c11 oz_C6cls_6
    have cA_c11 : SA oz_C6clsl_1 A A_c11 := SA_trans (SA_refl) hA_c11 (any_subA (by decide +kernel))
    have mA_c11 := SAm_of cA_c11 oz_C6cls_3
    refine Ew_of (pcₚ := 12) (fun _ => x_istore_n rfl) ?_
    refine Ew_of (pcₚ := 13) (fun _ => x_iload_n rfl rk_s) ?_
    refine Ew_of (pcₚ := 14) (fun _ => x_iconst rfl) ?_
    refine w_icmple (t := 28) rfl rfl (show inr (tc11_0) from jc11_0) (show inr (3) from q_66) (fun b2 => ?_) (fun b2 => ?_)
    · refine Ew_of (pcₚ := 29) (fun _ => x_aload_n rfl (rk_o (lc11_0) rfl rfl)) ?_
      refine v_g H (o := 0) (v := .ref (D 1)) rfl rfl rfl rfl rfl (vrf ((mF_c11 0 2 rfl).trans (pf1))) ?_
      refine Ew_of (pcₚ := 33) (fun _ => x_iload_n rfl rk_s) ?_
      refine Ew_of (pcₚ := 34) (fun _ => x_iconst rfl) ?_
      refine w_isub rfl ?_
      refine v_lJ H (o := 1) rfl rfl rfl rfl (n := n1) (en1) (show 0 ≤ (tc11_0 - 1) ∧ (tc11_0 - 1) < n1 from q_2744 b2 h2 h3 jc11_1) (fun v3 ev3 qv3 => ?_)
      have ev3 : (A 1) ((tc11_0 - 1)) = v3 := (congrFun (funext (mA_c11 1 rfl)) ((tc11_0 - 1))).symm.trans ev3
      exact w_lreturn rfl (k (v3) _ _ _ H O (cF_c11) (cA_c11) (show inrJ (v3) from qv3))
    · refine Ew_of (pcₚ := 18) (fun _ => x_aload_n rfl (rk_o (lc11_0) rfl rfl)) ?_
      refine v_g H (o := 0) (v := .ref (D 1)) rfl rfl rfl rfl rfl (vrf ((mF_c11 0 2 rfl).trans (pf1))) ?_
      refine Ew_of (pcₚ := 22) (fun _ => x_iconst rfl) ?_
      refine v_lJ H (o := 1) rfl rfl rfl rfl (n := n1) (en1) (show 0 ≤ 0 ∧ 0 < n1 from q_2745 h3 r1) (fun v4 ev4 qv4 => ?_)
      have ev4 : (A 1) (0) = v4 := (congrFun (funext (mA_c11 1 rfl)) (0)).symm.trans ev4
      refine Ew_of (pcₚ := 24) (fun _ => x_lconst (z := 1) rfl (by decide)) ?_
      refine w_lsubA rfl (fun z5 gz5 => ?_)
      refine Ew_of (pcₚ := 36) (fun _ => x_goto rfl rfl) ?_
      exact w_lreturn rfl (k (z5) _ _ _ H O (cF_c11) (cA_c11) (show inrJ (z5) from gz5))
  refine w_ifne (t := 10) rfl rfl (show inr (a2) from h1) (fun b6 => ?_) (fun b6 => ?_)
  · refine Ew_of (pcₚ := 11) (fun _ => x_iload_n rfl rfl) ?_
    exact hc11 (a1) _ _ _ _  (rfl) H O (SF_refl) (SA_refl)     (show inr (a1) from h0) (show ((a2) ≠ (0) ∧ (a1) = (a1)) ∨ ((a2) = (0) ∧ (a1) = ((a1 + 1))) from q_1341 b6)
  · refine Ew_of (pcₚ := 5) (fun _ => x_iload_n rfl rfl) ?_
    refine Ew_of (pcₚ := 6) (fun _ => x_iconst rfl) ?_
    refine w_iadd rfl ?_
    refine Ew_of (pcₚ := 11) (fun _ => x_goto rfl rfl) ?_
    exact hc11 ((a1 + 1)) _ _ _ _  (rfl) H O (SF_refl) (SA_refl)     (show inr ((a1 + 1)) from q_2746 h2) (show ((a2) ≠ (0) ∧ ((a1 + 1)) = (a1)) ∨ ((a2) = (0) ∧ ((a1 + 1)) = ((a1 + 1))) from q_1342 b6)
abbrev V189 : vV := [(0, 9, [(4, 0), (4, 0), (4, 0)]), (1, 2, [])]
theorem len_V189_oz_C6cls : (V189).length = 2 := by decide +kernel
theorem oz_C6cls_13 : vsub V189 V188 [0, 1] = true := by decide +kernel
def oz_C6clsl_5 : List Nat := [1]
theorem oz_C6cls_14 : (oz_C6clsl_5).all (fun p => !tbz 2 p) = true := by decide +kernel
/-- Stand.tellDistance: this, this.latest -/
theorem C189 {σE : rS} {D N : Nat → Nat} {F : hF} {A : hA} {d c s : Nat} {Q : wQ} (H : HW V189 σE D N F A) {a1 a2 : Int} (pf1 : F 0 2 = (D 1 : Int)) (n1 : Int) (en1 : (N 1 : Int) = n1) (h0 : inrJ (a1)) (h1 : inr (a2)) (h2 : 1 ≤ (a1)) (h3 : (n1) = 3) (h4 : (a1) ≤ 9000000000000000000) (k : ∀ (z : Int) (σ : rS) (Fₚ : hF) (Aₚ : hA), HW V189 σ D N Fₚ Aₚ → OUT (V189).length D N σE c s D N σ c s → SF [] F Fₚ → SA [1] A Aₚ → (inrJ (z)) → Q (some (J z)) σ c s) : Ew 189 (d + 1) 0 (rargs 0 [.ref (D 0), J a1, I a2]) [] σE c s Q := by
  have O := OUT_refl (n := (V189).length) (D := D) (N := N) (σ := σE) (c := c) (s := s)
  have HE := H
  have r1 : (0 : Int) ≤ n1 ∧ n1 ≤ 1000000 := nleE (H.nle 1 (ltn len_V189_oz_C6cls rfl)) (show (N 1 : Int) = n1 from en1)
  refine Ew_of (pcₚ := 1) (fun _ => x_lload_n rfl rfl) ?_
  refine Ew_of (pcₚ := 4) (fun _ => x_ldc2 (z := 3) rfl (by decide)) ?_
  refine w_lcmp rfl (show inrJ (a1) from h0) (show inrJ (3) from q_1330) (fun z2 gz2 gaz2 gbz2 => ?_)
  refine w_ifle (t := 16) rfl rfl (show inr (z2) from gz2) (fun b3 => ?_) (fun b3 => ?_)
  · refine Ew_of (pcₚ := 17) (fun _ => x_aload_n rfl rfl) ?_
    refine Ew_of (pcₚ := 18) (fun _ => x_lload_n rfl rfl) ?_
    refine w_l2i rfl ?_
    refine Ew_of (pcₚ := 20) (fun _ => x_iload_n rfl rfl) ?_
    refine v_inv H (o := 0) rfl rfl rfl rfl rfl rfl (by rfl) (C188 (D := puc 512 D) (N := puc 512 N) (HW_subc H oz_C6cls_13 oz_C6cls_10) (pf1) (n1) (en1) (show inr (a1) by omega) (show inr (a2) from h1) (show 1 ≤ (a1) ∧ (a1) ≤ 3 by omega) (show (n1) = 3 from h3) (fun z4 σ4 F4ₚ A4ₚ Hₚ Oₚ hS4 hA4 pz4_0 => ⟨rfl, ?_⟩))
    refine v_backc (c := c) (s := s) H oz_C6cls_13 oz_C6cls_10 Hₚ Oₚ (fun F4 A4 H Oₚ eF4 eA4 => ?_)
    have O := OUT_trans O Oₚ
    -- Stand.latestBy
    have cF4 : SF oz_C6clsl_2 F F4 := SF_trans (SF_refl) (SF_gluc (ι := oz_C6clsl_4) oz_C6cls_10 hS4 eF4 (by decide +kernel)) (any_sub (lₚ := []) (by decide +kernel))
    have mF4 := SFm_of cF4 oz_C6cls_6
    have cA4 : SA oz_C6clsl_5 A A4 := SA_trans (SA_refl) (SA_gluc (ι := oz_C6clsl_4) oz_C6cls_10 hA4 eA4 (by decide +kernel)) (any_subA (lₚ := []) (by decide +kernel))
    have mA4 := SAm_of cA4 oz_C6cls_14
    refine Ew_of (pcₚ := 25) (fun _ => x_lstore rfl) ?_
    refine Ew_of (pcₚ := 26) (fun _ => x_iload_n rfl (rk2_o (rfl) rfl rfl)) ?_
    have hc44 : ∀ (tc44_0 : Int), ∀ (ls : rO) (σ : rS) (F_c44 : hF) (A_c44 : hA) , rlook ls 0 = some (.ref (D 0)) → rlook ls 4 = some (J (z4)) → HW V189 σ D N F_c44 A_c44 → OUT (V189).length D N σE c s D N σ c s → SF [] F4 F_c44 → SA [] A4 A_c44 → (inrJ (tc44_0)) → (((a2) = (0) ∧ (tc44_0) = ((a1 + 1))) ∨ ((a2) ≠ (0) ∧ (a1) ≤ (3) ∧ (tc44_0) = (a1)) ∨ ((a2) ≠ (0) ∧ (a1) > (3) ∧ (tc44_0) = ((a1 + 1)))) → Ew 189 (d + 1) 44 ls [J (tc44_0)] σ c s Q := by
     as_aux_lemma =>
      intro tc44_0 ls σ F_c44 A_c44  lc44_0 lc44_4 H O hS_c44 hA_c44     jc44_0 jc44_1
      have cF_c44 : SF oz_C6clsl_2 F F_c44 := SF_trans (cF4) hS_c44 (any_sub (by decide +kernel))
      have mF_c44 := SFm_of cF_c44 oz_C6cls_6
      have cA_c44 : SA oz_C6clsl_5 A A_c44 := SA_trans (cA4) hA_c44 (any_subA (by decide +kernel))
      have mA_c44 := SAm_of cA_c44 oz_C6cls_14
      refine Ew_of (pcₚ := 46) (fun _ => x_lstore rfl) ?_
      refine Ew_of (pcₚ := 48) (fun _ => x_lload rfl rk2_s) ?_
      refine Ew_of (pcₚ := 51) (fun _ => x_ldc2 (z := 2) rfl (by decide)) ?_
      refine w_lcmp rfl (show inrJ (tc44_0) from jc44_0) (show inrJ (2) from q_1335) (fun z5 gz5 gaz5 gbz5 => ?_)
      refine w_ifle (t := 67) rfl rfl (show inr (z5) from gz5) (fun b6 => ?_) (fun b6 => ?_)
      · refine Ew_of (pcₚ := 69) (fun _ => x_lload rfl rk2_s) ?_
        refine Ew_of (pcₚ := 70) (fun _ => x_lconst (z := 1) rfl (by decide)) ?_
        refine w_lcmp rfl (show inrJ (tc44_0) from jc44_0) (show inrJ (1) from q_1338) (fun z7 gz7 gaz7 gbz7 => ?_)
        refine w_ifle (t := 86) rfl rfl (show inr (z7) from gz7) (fun b8 => ?_) (fun b8 => ?_)
        · refine Ew_of (pcₚ := 87) (fun _ => x_aload_n rfl (rk2_o (lc44_0) rfl rfl)) ?_
          refine v_g H (o := 0) (v := .ref (D 1)) rfl rfl rfl rfl rfl (vrf ((mF_c44 0 2 rfl).trans (pf1))) ?_
          refine Ew_of (pcₚ := 91) (fun _ => x_iconst rfl) ?_
          refine Ew_of (pcₚ := 93) (fun _ => x_lload rfl (rk2_o (lc44_4) rfl rfl)) ?_
          refine v_sJ H (o := 1) (z := z4) rfl rfl rfl rfl (n := n1) (en1) (show 0 ≤ 0 ∧ 0 < n1 from q_2745 h3 r1) (show inrJ (z4) from pz4_0) (fun σ H Oₚ => ?_)
          have O := OUT_trans O Oₚ
          have cAu9 : SA oz_C6clsl_5 A (updA A_c44 1 (0) (z4)) := SA_upd (cA_c44) rfl
          have mAu9 := SAm_of cAu9 oz_C6cls_14
          refine Ew_of (pcₚ := 96) (fun _ => x_lload rfl (rk2_o (lc44_4) rfl rfl)) ?_
          exact w_lreturn rfl (k (z4) _ _ _ H O (cF_c44) (cAu9) (show inrJ (z4) from pz4_0))
        · refine Ew_of (pcₚ := 75) (fun _ => x_aload_n rfl (rk2_o (lc44_0) rfl rfl)) ?_
          refine v_g H (o := 0) (v := .ref (D 1)) rfl rfl rfl rfl rfl (vrf ((mF_c44 0 2 rfl).trans (pf1))) ?_
          refine Ew_of (pcₚ := 79) (fun _ => x_iconst rfl) ?_
          refine Ew_of (pcₚ := 80) (fun _ => x_aload_n rfl (rk2_o (lc44_0) rfl rfl)) ?_
          refine v_g H (o := 0) (v := .ref (D 1)) rfl rfl rfl rfl rfl (vrf ((mF_c44 0 2 rfl).trans (pf1))) ?_
          refine Ew_of (pcₚ := 84) (fun _ => x_iconst rfl) ?_
          refine v_lJ H (o := 1) rfl rfl rfl rfl (n := n1) (en1) (show 0 ≤ 0 ∧ 0 < n1 from q_2745 h3 r1) (fun v10 ev10 qv10 => ?_)
          have ev10 : (A 1) (0) = v10 := (congrFun ((funext (hA_c44 1 rfl)).trans ((show A4 1 = A 1 from (eA4 1).trans (funext (hA4 1 rfl))))) (0)).symm.trans ev10
          refine v_sJ H (o := 1) (z := v10) rfl rfl rfl rfl (n := n1) (en1) (show 0 ≤ 1 ∧ 1 < n1 from q_2747 h3 r1) (show inrJ (v10) from qv10) (fun σ H Oₚ => ?_)
          have O := OUT_trans O Oₚ
          have cAu11 : SA oz_C6clsl_5 A (updA A_c44 1 (1) (v10)) := SA_upd (cA_c44) rfl
          have mAu11 := SAm_of cAu11 oz_C6cls_14
          refine Ew_of (pcₚ := 87) (fun _ => x_aload_n rfl (rk2_o (lc44_0) rfl rfl)) ?_
          refine v_g H (o := 0) (v := .ref (D 1)) rfl rfl rfl rfl rfl (vrf ((mF_c44 0 2 rfl).trans (pf1))) ?_
          refine Ew_of (pcₚ := 91) (fun _ => x_iconst rfl) ?_
          refine Ew_of (pcₚ := 93) (fun _ => x_lload rfl (rk2_o (lc44_4) rfl rfl)) ?_
          refine v_sJ H (o := 1) (z := z4) rfl rfl rfl rfl (n := n1) (en1) (show 0 ≤ 0 ∧ 0 < n1 from q_2745 h3 r1) (show inrJ (z4) from pz4_0) (fun σ H Oₚ => ?_)
          have O := OUT_trans O Oₚ
          have cAu12 : SA oz_C6clsl_5 A (updA (updA A_c44 1 (1) (v10)) 1 (0) (z4)) := SA_upd (cAu11) rfl
          have mAu12 := SAm_of cAu12 oz_C6cls_14
          refine Ew_of (pcₚ := 96) (fun _ => x_lload rfl (rk2_o (lc44_4) rfl rfl)) ?_
          exact w_lreturn rfl (k (z4) _ _ _ H O (cF_c44) (cAu12) (show inrJ (z4) from pz4_0))
      · refine Ew_of (pcₚ := 56) (fun _ => x_aload_n rfl (rk2_o (lc44_0) rfl rfl)) ?_
        refine v_g H (o := 0) (v := .ref (D 1)) rfl rfl rfl rfl rfl (vrf ((mF_c44 0 2 rfl).trans (pf1))) ?_
        refine Ew_of (pcₚ := 60) (fun _ => x_iconst rfl) ?_
        refine Ew_of (pcₚ := 61) (fun _ => x_aload_n rfl (rk2_o (lc44_0) rfl rfl)) ?_
        refine v_g H (o := 0) (v := .ref (D 1)) rfl rfl rfl rfl rfl (vrf ((mF_c44 0 2 rfl).trans (pf1))) ?_
        refine Ew_of (pcₚ := 65) (fun _ => x_iconst rfl) ?_
        refine v_lJ H (o := 1) rfl rfl rfl rfl (n := n1) (en1) (show 0 ≤ 1 ∧ 1 < n1 from q_2747 h3 r1) (fun v13 ev13 qv13 => ?_)
        have ev13 : (A 1) (1) = v13 := (congrFun ((funext (hA_c44 1 rfl)).trans ((show A4 1 = A 1 from (eA4 1).trans (funext (hA4 1 rfl))))) (1)).symm.trans ev13
        refine v_sJ H (o := 1) (z := v13) rfl rfl rfl rfl (n := n1) (en1) (show 0 ≤ 2 ∧ 2 < n1 from q_2748 h3) (show inrJ (v13) from qv13) (fun σ H Oₚ => ?_)
        have O := OUT_trans O Oₚ
        have cAu14 : SA oz_C6clsl_5 A (updA A_c44 1 (2) (v13)) := SA_upd (cA_c44) rfl
        have mAu14 := SAm_of cAu14 oz_C6cls_14
        refine Ew_of (pcₚ := 69) (fun _ => x_lload rfl rk2_s) ?_
        refine Ew_of (pcₚ := 70) (fun _ => x_lconst (z := 1) rfl (by decide)) ?_
        refine w_lcmp rfl (show inrJ (tc44_0) from jc44_0) (show inrJ (1) from q_1338) (fun z15 gz15 gaz15 gbz15 => ?_)
        refine w_ifle (t := 86) rfl rfl (show inr (z15) from gz15) (fun b16 => ?_) (fun b16 => ?_)
        · refine Ew_of (pcₚ := 87) (fun _ => x_aload_n rfl (rk2_o (lc44_0) rfl rfl)) ?_
          refine v_g H (o := 0) (v := .ref (D 1)) rfl rfl rfl rfl rfl (vrf ((mF_c44 0 2 rfl).trans (pf1))) ?_
          refine Ew_of (pcₚ := 91) (fun _ => x_iconst rfl) ?_
          refine Ew_of (pcₚ := 93) (fun _ => x_lload rfl (rk2_o (lc44_4) rfl rfl)) ?_
          refine v_sJ H (o := 1) (z := z4) rfl rfl rfl rfl (n := n1) (en1) (show 0 ≤ 0 ∧ 0 < n1 from q_2745 h3 r1) (show inrJ (z4) from pz4_0) (fun σ H Oₚ => ?_)
          have O := OUT_trans O Oₚ
          have cAu17 : SA oz_C6clsl_5 A (updA (updA A_c44 1 (2) (v13)) 1 (0) (z4)) := SA_upd (cAu14) rfl
          have mAu17 := SAm_of cAu17 oz_C6cls_14
          refine Ew_of (pcₚ := 96) (fun _ => x_lload rfl (rk2_o (lc44_4) rfl rfl)) ?_
          exact w_lreturn rfl (k (z4) _ _ _ H O (cF_c44) (cAu17) (show inrJ (z4) from pz4_0))
        · refine Ew_of (pcₚ := 75) (fun _ => x_aload_n rfl (rk2_o (lc44_0) rfl rfl)) ?_
          refine v_g H (o := 0) (v := .ref (D 1)) rfl rfl rfl rfl rfl (vrf ((mF_c44 0 2 rfl).trans (pf1))) ?_
          refine Ew_of (pcₚ := 79) (fun _ => x_iconst rfl) ?_
          refine Ew_of (pcₚ := 80) (fun _ => x_aload_n rfl (rk2_o (lc44_0) rfl rfl)) ?_
          refine v_g H (o := 0) (v := .ref (D 1)) rfl rfl rfl rfl rfl (vrf ((mF_c44 0 2 rfl).trans (pf1))) ?_
          refine Ew_of (pcₚ := 84) (fun _ => x_iconst rfl) ?_
          refine v_lJ H (o := 1) rfl rfl rfl rfl (n := n1) (en1) (show 0 ≤ 0 ∧ 0 < n1 from q_2745 h3 r1) (fun v18 ev18 qv18 => ?_)
          have ev18 : (upd1 (A 1) (2) (v13)) (0) = v18 := (congrFun (congrArg (fun q => upd1 q (2) (v13)) ((funext (hA_c44 1 rfl)).trans ((show A4 1 = A 1 from (eA4 1).trans (funext (hA4 1 rfl)))))) (0)).symm.trans ev18
          refine v_sJ H (o := 1) (z := v18) rfl rfl rfl rfl (n := n1) (en1) (show 0 ≤ 1 ∧ 1 < n1 from q_2747 h3 r1) (show inrJ (v18) from qv18) (fun σ H Oₚ => ?_)
          have O := OUT_trans O Oₚ
          have cAu19 : SA oz_C6clsl_5 A (updA (updA A_c44 1 (2) (v13)) 1 (1) (v18)) := SA_upd (cAu14) rfl
          have mAu19 := SAm_of cAu19 oz_C6cls_14
          refine Ew_of (pcₚ := 87) (fun _ => x_aload_n rfl (rk2_o (lc44_0) rfl rfl)) ?_
          refine v_g H (o := 0) (v := .ref (D 1)) rfl rfl rfl rfl rfl (vrf ((mF_c44 0 2 rfl).trans (pf1))) ?_
          refine Ew_of (pcₚ := 91) (fun _ => x_iconst rfl) ?_
          refine Ew_of (pcₚ := 93) (fun _ => x_lload rfl (rk2_o (lc44_4) rfl rfl)) ?_
          refine v_sJ H (o := 1) (z := z4) rfl rfl rfl rfl (n := n1) (en1) (show 0 ≤ 0 ∧ 0 < n1 from q_2745 h3 r1) (show inrJ (z4) from pz4_0) (fun σ H Oₚ => ?_)
          have O := OUT_trans O Oₚ
          have cAu20 : SA oz_C6clsl_5 A (updA (updA (updA A_c44 1 (2) (v13)) 1 (1) (v18)) 1 (0) (z4)) := SA_upd (cAu19) rfl
          have mAu20 := SAm_of cAu20 oz_C6cls_14
          refine Ew_of (pcₚ := 96) (fun _ => x_lload rfl (rk2_o (lc44_4) rfl rfl)) ?_
          exact w_lreturn rfl (k (z4) _ _ _ H O (cF_c44) (cAu20) (show inrJ (z4) from pz4_0))
    refine w_ifeq (t := 37) rfl rfl (show inr (a2) from h1) (fun b21 => ?_) (fun b21 => ?_)
    · refine Ew_of (pcₚ := 38) (fun _ => x_lload_n rfl (rk2_o (rfl) rfl rfl)) ?_
      refine Ew_of (pcₚ := 39) (fun _ => x_lconst (z := 1) rfl (by decide)) ?_
      refine w_ladd rfl ?_
      refine Ew_of (pcₚ := 44) (fun _ => x_goto rfl rfl) ?_
      exact hc44 ((a1 + 1)) _ _ _ _  (rk2_o (rfl) rfl rfl) (rk2_s) H O (SF_refl) (SA_refl)     (show inrJ ((a1 + 1)) by omega) (show ((a2) = (0) ∧ ((a1 + 1)) = ((a1 + 1))) ∨ ((a2) ≠ (0) ∧ (a1) ≤ (3) ∧ ((a1 + 1)) = (a1)) ∨ ((a2) ≠ (0) ∧ (a1) > (3) ∧ ((a1 + 1)) = ((a1 + 1))) from q_2749 b21)
    · refine Ew_of (pcₚ := 30) (fun _ => x_lload_n rfl (rk2_o (rfl) rfl rfl)) ?_
      refine Ew_of (pcₚ := 33) (fun _ => x_ldc2 (z := 3) rfl (by decide)) ?_
      refine w_lcmp rfl (show inrJ (a1) from h0) (show inrJ (3) from q_1330) (fun z22 gz22 gaz22 gbz22 => ?_)
      refine w_ifle (t := 43) rfl rfl (show inr (z22) from gz22) (fun b23 => ?_) (fun b23 => ?_)
      · refine Ew_of (pcₚ := 44) (fun _ => x_lload_n rfl (rk2_o (rfl) rfl rfl)) ?_
        exact hc44 (a1) _ _ _ _  (rk2_o (rfl) rfl rfl) (rk2_s) H O (SF_refl) (SA_refl)     (show inrJ (a1) from h0) (show ((a2) = (0) ∧ (a1) = ((a1 + 1))) ∨ ((a2) ≠ (0) ∧ (a1) ≤ (3) ∧ (a1) = (a1)) ∨ ((a2) ≠ (0) ∧ (a1) > (3) ∧ (a1) = ((a1 + 1))) by omega)
      · refine Ew_of (pcₚ := 38) (fun _ => x_lload_n rfl (rk2_o (rfl) rfl rfl)) ?_
        refine Ew_of (pcₚ := 39) (fun _ => x_lconst (z := 1) rfl (by decide)) ?_
        refine w_ladd rfl ?_
        refine Ew_of (pcₚ := 44) (fun _ => x_goto rfl rfl) ?_
        exact hc44 ((a1 + 1)) _ _ _ _  (rk2_o (rfl) rfl rfl) (rk2_s) H O (SF_refl) (SA_refl)     (show inrJ ((a1 + 1)) by omega) (show ((a2) = (0) ∧ ((a1 + 1)) = ((a1 + 1))) ∨ ((a2) ≠ (0) ∧ (a1) ≤ (3) ∧ ((a1 + 1)) = (a1)) ∨ ((a2) ≠ (0) ∧ (a1) > (3) ∧ ((a1 + 1)) = ((a1 + 1))) by omega)
  · refine Ew_of (pcₚ := 9) (fun _ => x_lload_n rfl rfl) ?_
    refine Ew_of (pcₚ := 12) (fun _ => x_ldc2 (z := 3) rfl (by decide)) ?_
    refine w_lsub rfl ?_
    refine Ew_of (pcₚ := 23) (fun _ => x_goto rfl rfl) ?_
    refine Ew_of (pcₚ := 25) (fun _ => x_lstore rfl) ?_
    refine Ew_of (pcₚ := 26) (fun _ => x_iload_n rfl (rk2_o (rfl) rfl rfl)) ?_
    have hc44 : ∀ (tc44_0 : Int), ∀ (ls : rO) (σ : rS) (F_c44 : hF) (A_c44 : hA) , rlook ls 0 = some (.ref (D 0)) → rlook ls 4 = some (J ((a1 - 3))) → HW V189 σ D N F_c44 A_c44 → OUT (V189).length D N σE c s D N σ c s → SF [] F F_c44 → SA [] A A_c44 → (inrJ (tc44_0)) → (((a2) = (0) ∧ (tc44_0) = ((a1 + 1))) ∨ ((a2) ≠ (0) ∧ (a1) ≤ (3) ∧ (tc44_0) = (a1)) ∨ ((a2) ≠ (0) ∧ (a1) > (3) ∧ (tc44_0) = ((a1 + 1)))) → Ew 189 (d + 1) 44 ls [J (tc44_0)] σ c s Q := by
     as_aux_lemma =>
      intro tc44_0 ls σ F_c44 A_c44  lc44_0 lc44_4 H O hS_c44 hA_c44     jc44_0 jc44_1
      have cF_c44 : SF oz_C6clsl_2 F F_c44 := SF_trans (SF_refl) hS_c44 (any_sub (by decide +kernel))
      have mF_c44 := SFm_of cF_c44 oz_C6cls_6
      have cA_c44 : SA oz_C6clsl_5 A A_c44 := SA_trans (SA_refl) hA_c44 (any_subA (by decide +kernel))
      have mA_c44 := SAm_of cA_c44 oz_C6cls_14
      refine Ew_of (pcₚ := 46) (fun _ => x_lstore rfl) ?_
      refine Ew_of (pcₚ := 48) (fun _ => x_lload rfl rk2_s) ?_
      refine Ew_of (pcₚ := 51) (fun _ => x_ldc2 (z := 2) rfl (by decide)) ?_
      refine w_lcmp rfl (show inrJ (tc44_0) from jc44_0) (show inrJ (2) from q_1335) (fun z24 gz24 gaz24 gbz24 => ?_)
      refine w_ifle (t := 67) rfl rfl (show inr (z24) from gz24) (fun b25 => ?_) (fun b25 => ?_)
      · refine Ew_of (pcₚ := 69) (fun _ => x_lload rfl rk2_s) ?_
        refine Ew_of (pcₚ := 70) (fun _ => x_lconst (z := 1) rfl (by decide)) ?_
        refine w_lcmp rfl (show inrJ (tc44_0) from jc44_0) (show inrJ (1) from q_1338) (fun z26 gz26 gaz26 gbz26 => ?_)
        refine w_ifle (t := 86) rfl rfl (show inr (z26) from gz26) (fun b27 => ?_) (fun b27 => ?_)
        · refine Ew_of (pcₚ := 87) (fun _ => x_aload_n rfl (rk2_o (lc44_0) rfl rfl)) ?_
          refine v_g H (o := 0) (v := .ref (D 1)) rfl rfl rfl rfl rfl (vrf ((mF_c44 0 2 rfl).trans (pf1))) ?_
          refine Ew_of (pcₚ := 91) (fun _ => x_iconst rfl) ?_
          refine Ew_of (pcₚ := 93) (fun _ => x_lload rfl (rk2_o (lc44_4) rfl rfl)) ?_
          refine v_sJ H (o := 1) (z := (a1 - 3)) rfl rfl rfl rfl (n := n1) (en1) (show 0 ≤ 0 ∧ 0 < n1 from q_2745 h3 r1) (show inrJ ((a1 - 3)) by omega) (fun σ H Oₚ => ?_)
          have O := OUT_trans O Oₚ
          have cAu28 : SA oz_C6clsl_5 A (updA A_c44 1 (0) ((a1 - 3))) := SA_upd (cA_c44) rfl
          have mAu28 := SAm_of cAu28 oz_C6cls_14
          refine Ew_of (pcₚ := 96) (fun _ => x_lload rfl (rk2_o (lc44_4) rfl rfl)) ?_
          exact w_lreturn rfl (k ((a1 - 3)) _ _ _ H O (cF_c44) (cAu28) (show inrJ ((a1 - 3)) by omega))
        · refine Ew_of (pcₚ := 75) (fun _ => x_aload_n rfl (rk2_o (lc44_0) rfl rfl)) ?_
          refine v_g H (o := 0) (v := .ref (D 1)) rfl rfl rfl rfl rfl (vrf ((mF_c44 0 2 rfl).trans (pf1))) ?_
          refine Ew_of (pcₚ := 79) (fun _ => x_iconst rfl) ?_
          refine Ew_of (pcₚ := 80) (fun _ => x_aload_n rfl (rk2_o (lc44_0) rfl rfl)) ?_
          refine v_g H (o := 0) (v := .ref (D 1)) rfl rfl rfl rfl rfl (vrf ((mF_c44 0 2 rfl).trans (pf1))) ?_
          refine Ew_of (pcₚ := 84) (fun _ => x_iconst rfl) ?_
          refine v_lJ H (o := 1) rfl rfl rfl rfl (n := n1) (en1) (show 0 ≤ 0 ∧ 0 < n1 from q_2745 h3 r1) (fun v29 ev29 qv29 => ?_)
          have ev29 : (A 1) (0) = v29 := (congrFun (funext (hA_c44 1 rfl)) (0)).symm.trans ev29
          refine v_sJ H (o := 1) (z := v29) rfl rfl rfl rfl (n := n1) (en1) (show 0 ≤ 1 ∧ 1 < n1 from q_2747 h3 r1) (show inrJ (v29) from qv29) (fun σ H Oₚ => ?_)
          have O := OUT_trans O Oₚ
          have cAu30 : SA oz_C6clsl_5 A (updA A_c44 1 (1) (v29)) := SA_upd (cA_c44) rfl
          have mAu30 := SAm_of cAu30 oz_C6cls_14
          refine Ew_of (pcₚ := 87) (fun _ => x_aload_n rfl (rk2_o (lc44_0) rfl rfl)) ?_
          refine v_g H (o := 0) (v := .ref (D 1)) rfl rfl rfl rfl rfl (vrf ((mF_c44 0 2 rfl).trans (pf1))) ?_
          refine Ew_of (pcₚ := 91) (fun _ => x_iconst rfl) ?_
          refine Ew_of (pcₚ := 93) (fun _ => x_lload rfl (rk2_o (lc44_4) rfl rfl)) ?_
          refine v_sJ H (o := 1) (z := (a1 - 3)) rfl rfl rfl rfl (n := n1) (en1) (show 0 ≤ 0 ∧ 0 < n1 from q_2745 h3 r1) (show inrJ ((a1 - 3)) by omega) (fun σ H Oₚ => ?_)
          have O := OUT_trans O Oₚ
          have cAu31 : SA oz_C6clsl_5 A (updA (updA A_c44 1 (1) (v29)) 1 (0) ((a1 - 3))) := SA_upd (cAu30) rfl
          have mAu31 := SAm_of cAu31 oz_C6cls_14
          refine Ew_of (pcₚ := 96) (fun _ => x_lload rfl (rk2_o (lc44_4) rfl rfl)) ?_
          exact w_lreturn rfl (k ((a1 - 3)) _ _ _ H O (cF_c44) (cAu31) (show inrJ ((a1 - 3)) by omega))
      · refine Ew_of (pcₚ := 56) (fun _ => x_aload_n rfl (rk2_o (lc44_0) rfl rfl)) ?_
        refine v_g H (o := 0) (v := .ref (D 1)) rfl rfl rfl rfl rfl (vrf ((mF_c44 0 2 rfl).trans (pf1))) ?_
        refine Ew_of (pcₚ := 60) (fun _ => x_iconst rfl) ?_
        refine Ew_of (pcₚ := 61) (fun _ => x_aload_n rfl (rk2_o (lc44_0) rfl rfl)) ?_
        refine v_g H (o := 0) (v := .ref (D 1)) rfl rfl rfl rfl rfl (vrf ((mF_c44 0 2 rfl).trans (pf1))) ?_
        refine Ew_of (pcₚ := 65) (fun _ => x_iconst rfl) ?_
        refine v_lJ H (o := 1) rfl rfl rfl rfl (n := n1) (en1) (show 0 ≤ 1 ∧ 1 < n1 from q_2747 h3 r1) (fun v32 ev32 qv32 => ?_)
        have ev32 : (A 1) (1) = v32 := (congrFun (funext (hA_c44 1 rfl)) (1)).symm.trans ev32
        refine v_sJ H (o := 1) (z := v32) rfl rfl rfl rfl (n := n1) (en1) (show 0 ≤ 2 ∧ 2 < n1 from q_2748 h3) (show inrJ (v32) from qv32) (fun σ H Oₚ => ?_)
        have O := OUT_trans O Oₚ
        have cAu33 : SA oz_C6clsl_5 A (updA A_c44 1 (2) (v32)) := SA_upd (cA_c44) rfl
        have mAu33 := SAm_of cAu33 oz_C6cls_14
        refine Ew_of (pcₚ := 69) (fun _ => x_lload rfl rk2_s) ?_
        refine Ew_of (pcₚ := 70) (fun _ => x_lconst (z := 1) rfl (by decide)) ?_
        refine w_lcmp rfl (show inrJ (tc44_0) from jc44_0) (show inrJ (1) from q_1338) (fun z34 gz34 gaz34 gbz34 => ?_)
        refine w_ifle (t := 86) rfl rfl (show inr (z34) from gz34) (fun b35 => ?_) (fun b35 => ?_)
        · refine Ew_of (pcₚ := 87) (fun _ => x_aload_n rfl (rk2_o (lc44_0) rfl rfl)) ?_
          refine v_g H (o := 0) (v := .ref (D 1)) rfl rfl rfl rfl rfl (vrf ((mF_c44 0 2 rfl).trans (pf1))) ?_
          refine Ew_of (pcₚ := 91) (fun _ => x_iconst rfl) ?_
          refine Ew_of (pcₚ := 93) (fun _ => x_lload rfl (rk2_o (lc44_4) rfl rfl)) ?_
          refine v_sJ H (o := 1) (z := (a1 - 3)) rfl rfl rfl rfl (n := n1) (en1) (show 0 ≤ 0 ∧ 0 < n1 from q_2745 h3 r1) (show inrJ ((a1 - 3)) by omega) (fun σ H Oₚ => ?_)
          have O := OUT_trans O Oₚ
          have cAu36 : SA oz_C6clsl_5 A (updA (updA A_c44 1 (2) (v32)) 1 (0) ((a1 - 3))) := SA_upd (cAu33) rfl
          have mAu36 := SAm_of cAu36 oz_C6cls_14
          refine Ew_of (pcₚ := 96) (fun _ => x_lload rfl (rk2_o (lc44_4) rfl rfl)) ?_
          exact w_lreturn rfl (k ((a1 - 3)) _ _ _ H O (cF_c44) (cAu36) (show inrJ ((a1 - 3)) by omega))
        · refine Ew_of (pcₚ := 75) (fun _ => x_aload_n rfl (rk2_o (lc44_0) rfl rfl)) ?_
          refine v_g H (o := 0) (v := .ref (D 1)) rfl rfl rfl rfl rfl (vrf ((mF_c44 0 2 rfl).trans (pf1))) ?_
          refine Ew_of (pcₚ := 79) (fun _ => x_iconst rfl) ?_
          refine Ew_of (pcₚ := 80) (fun _ => x_aload_n rfl (rk2_o (lc44_0) rfl rfl)) ?_
          refine v_g H (o := 0) (v := .ref (D 1)) rfl rfl rfl rfl rfl (vrf ((mF_c44 0 2 rfl).trans (pf1))) ?_
          refine Ew_of (pcₚ := 84) (fun _ => x_iconst rfl) ?_
          refine v_lJ H (o := 1) rfl rfl rfl rfl (n := n1) (en1) (show 0 ≤ 0 ∧ 0 < n1 from q_2745 h3 r1) (fun v37 ev37 qv37 => ?_)
          have ev37 : (upd1 (A 1) (2) (v32)) (0) = v37 := (congrFun (congrArg (fun q => upd1 q (2) (v32)) (funext (hA_c44 1 rfl))) (0)).symm.trans ev37
          refine v_sJ H (o := 1) (z := v37) rfl rfl rfl rfl (n := n1) (en1) (show 0 ≤ 1 ∧ 1 < n1 from q_2747 h3 r1) (show inrJ (v37) from qv37) (fun σ H Oₚ => ?_)
          have O := OUT_trans O Oₚ
          have cAu38 : SA oz_C6clsl_5 A (updA (updA A_c44 1 (2) (v32)) 1 (1) (v37)) := SA_upd (cAu33) rfl
          have mAu38 := SAm_of cAu38 oz_C6cls_14
          refine Ew_of (pcₚ := 87) (fun _ => x_aload_n rfl (rk2_o (lc44_0) rfl rfl)) ?_
          refine v_g H (o := 0) (v := .ref (D 1)) rfl rfl rfl rfl rfl (vrf ((mF_c44 0 2 rfl).trans (pf1))) ?_
          refine Ew_of (pcₚ := 91) (fun _ => x_iconst rfl) ?_
          refine Ew_of (pcₚ := 93) (fun _ => x_lload rfl (rk2_o (lc44_4) rfl rfl)) ?_
          refine v_sJ H (o := 1) (z := (a1 - 3)) rfl rfl rfl rfl (n := n1) (en1) (show 0 ≤ 0 ∧ 0 < n1 from q_2745 h3 r1) (show inrJ ((a1 - 3)) by omega) (fun σ H Oₚ => ?_)
          have O := OUT_trans O Oₚ
          have cAu39 : SA oz_C6clsl_5 A (updA (updA (updA A_c44 1 (2) (v32)) 1 (1) (v37)) 1 (0) ((a1 - 3))) := SA_upd (cAu38) rfl
          have mAu39 := SAm_of cAu39 oz_C6cls_14
          refine Ew_of (pcₚ := 96) (fun _ => x_lload rfl (rk2_o (lc44_4) rfl rfl)) ?_
          exact w_lreturn rfl (k ((a1 - 3)) _ _ _ H O (cF_c44) (cAu39) (show inrJ ((a1 - 3)) by omega))
    refine w_ifeq (t := 37) rfl rfl (show inr (a2) from h1) (fun b40 => ?_) (fun b40 => ?_)
    · refine Ew_of (pcₚ := 38) (fun _ => x_lload_n rfl (rk2_o (rfl) rfl rfl)) ?_
      refine Ew_of (pcₚ := 39) (fun _ => x_lconst (z := 1) rfl (by decide)) ?_
      refine w_ladd rfl ?_
      refine Ew_of (pcₚ := 44) (fun _ => x_goto rfl rfl) ?_
      exact hc44 ((a1 + 1)) _ _ _ _  (rk2_o (rfl) rfl rfl) (rk2_s) H O (SF_refl) (SA_refl)     (show inrJ ((a1 + 1)) by omega) (show ((a2) = (0) ∧ ((a1 + 1)) = ((a1 + 1))) ∨ ((a2) ≠ (0) ∧ (a1) ≤ (3) ∧ ((a1 + 1)) = (a1)) ∨ ((a2) ≠ (0) ∧ (a1) > (3) ∧ ((a1 + 1)) = ((a1 + 1))) from q_2749 b40)
    · refine Ew_of (pcₚ := 30) (fun _ => x_lload_n rfl (rk2_o (rfl) rfl rfl)) ?_
      refine Ew_of (pcₚ := 33) (fun _ => x_ldc2 (z := 3) rfl (by decide)) ?_
      refine w_lcmp rfl (show inrJ (a1) from h0) (show inrJ (3) from q_1330) (fun z41 gz41 gaz41 gbz41 => ?_)
      refine w_ifle (t := 43) rfl rfl (show inr (z41) from gz41) (fun b42 => ?_) (fun b42 => ?_)
      · refine Ew_of (pcₚ := 44) (fun _ => x_lload_n rfl (rk2_o (rfl) rfl rfl)) ?_
        exact hc44 (a1) _ _ _ _  (rk2_o (rfl) rfl rfl) (rk2_s) H O (SF_refl) (SA_refl)     (show inrJ (a1) from h0) (show ((a2) = (0) ∧ (a1) = ((a1 + 1))) ∨ ((a2) ≠ (0) ∧ (a1) ≤ (3) ∧ (a1) = (a1)) ∨ ((a2) ≠ (0) ∧ (a1) > (3) ∧ (a1) = ((a1 + 1))) by omega)
      · refine Ew_of (pcₚ := 38) (fun _ => x_lload_n rfl (rk2_o (rfl) rfl rfl)) ?_
        refine Ew_of (pcₚ := 39) (fun _ => x_lconst (z := 1) rfl (by decide)) ?_
        refine w_ladd rfl ?_
        refine Ew_of (pcₚ := 44) (fun _ => x_goto rfl rfl) ?_
        exact hc44 ((a1 + 1)) _ _ _ _  (rk2_o (rfl) rfl rfl) (rk2_s) H O (SF_refl) (SA_refl)     (show inrJ ((a1 + 1)) by omega) (show ((a2) = (0) ∧ ((a1 + 1)) = ((a1 + 1))) ∨ ((a2) ≠ (0) ∧ (a1) ≤ (3) ∧ ((a1 + 1)) = (a1)) ∨ ((a2) ≠ (0) ∧ (a1) > (3) ∧ ((a1 + 1)) = ((a1 + 1))) by omega)
abbrev V190 : vV := [(0, 9, [(4, 0), (4, 0), (4, 0)]), (1, 2, [])]
theorem len_V190_oz_C6cls : (V190).length = 2 := by decide +kernel
theorem oz_C6cls_16 : vsub V190 V188 [0, 1] = true := by decide +kernel
/-- Stand.leastFor: this, this.latest -/
theorem C190 {σE : rS} {D N : Nat → Nat} {F : hF} {A : hA} {d c s : Nat} {Q : wQ} (H : HW V190 σE D N F A) {a1 a2 : Int} (pf1 : F 0 2 = (D 1 : Int)) (n1 : Int) (en1 : (N 1 : Int) = n1) (h0 : inr (a1)) (h1 : inr (a2)) (h2 : 1 ≤ (a1) ∧ (a1) ≤ 16384) (h3 : (n1) = 3) (k : ∀ (z : Int) (σ : rS) (Fₚ : hF) (Aₚ : hA), HW V190 σ D N Fₚ Aₚ → OUT (V190).length D N σE c s D N σ c s → SF [] F Fₚ → SA [] A Aₚ → (inr (z)) → (1 ≤ (z) ∧ (z) ≤ (a1) + 3) → Q (some (I z)) σ c s) : Ew 190 (d + 1) 0 (rargs 0 [.ref (D 0), I a1, I a2]) [] σE c s Q := by
  have O := OUT_refl (n := (V190).length) (D := D) (N := N) (σ := σE) (c := c) (s := s)
  have HE := H
  have r1 : (0 : Int) ≤ n1 ∧ n1 ≤ 1000000 := nleE (H.nle 1 (ltn len_V190_oz_C6cls rfl)) (show (N 1 : Int) = n1 from en1)
  refine Ew_of (pcₚ := 1) (fun _ => x_iconst rfl) ?_
  refine Ew_of (pcₚ := 2) (fun _ => x_istore_n rfl) ?_
  suffices hl2 : ∀ (m : Nat), ∀ (ls : rO) (σ : rS) (F_2 : hF) (A_2 : hA) (x2_3 : Int), rlook ls 0 = some (.ref (D 0)) → rlook ls 1 = some (I (a1)) → rlook ls 2 = some (I (a2)) → rlook ls 3 = some (I (x2_3)) → HW V190 σ D N F_2 A_2 → OUT (V190).length D N σE c s D N σ c s → SF [] F F_2 → SA [] A A_2 → (inr (x2_3)) → ((1) ≤ (x2_3)) → ((x2_3) ≤ (1) ∨ (x2_3) ≤ ((3 + 1))) → (((3 + 1)) - (x2_3)).toNat = m → Ew 190 (d + 1) 2 ls [] σ c s Q from
    hl2 _ _ _ _ _ (1) (rk_o (rfl) rfl rfl) (rk_o (rfl) rfl rfl) (rk_o (rfl) rfl rfl) (rk_s) H O (SF_refl) (SA_refl)     (show inr (1) from q_23) (show (1) ≤ (1) from q_1136) (show (1) ≤ (1) ∨ (1) ≤ ((3 + 1)) from q_2750) rfl
  as_aux_lemma =>
  intro m
  induction m using Nat.strongRecOn with
  | _ m ih2 =>
    intro ls σ F_2 A_2 x2_3 l2_0 l2_1 l2_2 l2_3 H O hS_2 hA_2     j2_0 j2_1 j2_2 hm2
    have cF_2 : SF oz_C6clsl_2 F F_2 := SF_trans (SF_refl) hS_2 (any_sub (by decide +kernel))
    have mF_2 := SFm_of cF_2 oz_C6cls_6
    have cA_2 : SA oz_C6clsl_1 A A_2 := SA_trans (SA_refl) hA_2 (any_subA (by decide +kernel))
    have mA_2 := SAm_of cA_2 oz_C6cls_3
    refine Ew_of (pcₚ := 3) (fun _ => x_iload_n rfl l2_3) ?_
    refine Ew_of (pcₚ := 4) (fun _ => x_iconst rfl) ?_
    refine w_icmpgt (t := 27) rfl rfl (show inr (x2_3) from j2_0) (show inr (3) from q_66) (fun b2 => ?_) (fun b2 => ?_)
    · refine Ew_of (pcₚ := 28) (fun _ => x_iload_n rfl l2_1) ?_
      refine Ew_of (pcₚ := 29) (fun _ => x_iconst rfl) ?_
      refine w_iadd rfl ?_
      exact w_ireturn rfl (k ((a1 + 3)) _ _ _ H O (cF_2) (cA_2) (show inr ((a1 + 3)) from q_2752 h2) (show 1 ≤ ((a1 + 3)) ∧ ((a1 + 3)) ≤ a1 + 3 from q_2751 h2))
    · refine Ew_of (pcₚ := 8) (fun _ => x_aload_n rfl l2_0) ?_
      refine Ew_of (pcₚ := 9) (fun _ => x_iload_n rfl l2_3) ?_
      refine Ew_of (pcₚ := 10) (fun _ => x_iload_n rfl l2_2) ?_
      refine v_inv H (o := 0) rfl rfl rfl rfl rfl rfl (by rfl) (C188 (D := puc 512 D) (N := puc 512 N) (HW_subc H oz_C6cls_16 oz_C6cls_10) ((mF_2 0 2 rfl).trans (pf1)) (n1) (en1) (show inr (x2_3) from j2_0) (show inr (a2) from h1) (show 1 ≤ (x2_3) ∧ (x2_3) ≤ 3 from q_2753 b2 j2_1) (show (n1) = 3 from h3) (fun z3 σ3 F3ₚ A3ₚ Hₚ Oₚ hS3 hA3 pz3_0 => ⟨rfl, ?_⟩))
      refine v_backc (c := c) (s := s) H oz_C6cls_16 oz_C6cls_10 Hₚ Oₚ (fun F3 A3 H Oₚ eF3 eA3 => ?_)
      have O := OUT_trans O Oₚ
      -- Stand.latestBy
      have cF3 : SF oz_C6clsl_2 F F3 := SF_trans (cF_2) (SF_gluc (ι := oz_C6clsl_4) oz_C6cls_10 hS3 eF3 (by decide +kernel)) (any_sub (lₚ := []) (by decide +kernel))
      have mF3 := SFm_of cF3 oz_C6cls_6
      have cA3 : SA oz_C6clsl_1 A A3 := SA_trans (cA_2) (SA_gluc (ι := oz_C6clsl_4) oz_C6cls_10 hA3 eA3 (by decide +kernel)) (any_subA (lₚ := []) (by decide +kernel))
      have mA3 := SAm_of cA3 oz_C6cls_3
      refine Ew_of (pcₚ := 14) (fun _ => x_iload_n rfl l2_1) ?_
      refine w_i2l rfl (show inr (a1) from h0) ?_
      refine w_lcmp rfl (show inrJ (z3) from pz3_0) (show inrJ (a1) from q_2754 h2) (fun z4 gz4 gaz4 gbz4 => ?_)
      refine w_ifne (t := 21) rfl rfl (show inr (z4) from gz4) (fun b5 => ?_) (fun b5 => ?_)
      · refine Ew_of (pcₚ := 24) (fun _ => x_iinc (len := 3) rfl (l2_3)) ?_
        refine Ew_of (pcₚ := 2) (fun _ => x_goto rfl rfl) ?_
        exact ih2 _ (msE hm2 q_2757 (q_2758 b2)) _ _ _ _ ((x2_3 + 1)) (rk_o (l2_0) rfl rfl) (rk_o (l2_1) rfl rfl) (rk_o (l2_2) rfl rfl) (rk_s) H O (SF_trans (hS_2) (SF_gluc (ι := oz_C6clsl_4) oz_C6cls_10 hS3 eF3 (by decide +kernel)) (any_sub (lₚ := []) (by decide +kernel))) (SA_trans (hA_2) (SA_gluc (ι := oz_C6clsl_4) oz_C6cls_10 hA3 eA3 (by decide +kernel)) (any_subA (lₚ := []) (by decide +kernel)))     (show inr ((x2_3 + 1)) from q_2756 b2 j2_1) (show (1) ≤ ((x2_3 + 1)) from q_670 j2_1) (show ((x2_3 + 1)) ≤ (1) ∨ ((x2_3 + 1)) ≤ ((3 + 1)) from q_2755 b2) rfl
      · refine Ew_of (pcₚ := 20) (fun _ => x_iload_n rfl l2_3) ?_
        exact w_ireturn rfl (k (x2_3) _ _ _ H O (cF3) (cA3) (show inr (x2_3) from j2_0) (show 1 ≤ (x2_3) ∧ (x2_3) ≤ a1 + 3 from q_2759 b2 h2 j2_1))
