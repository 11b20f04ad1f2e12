abbrev V203 : vV := [(0, 10, [(4, 0), (4, 0), (4, 0), (4, 0), (0, 0), (4, 0), (0, 0), (2, 0), (0, 0)])]
theorem len_V203_oz_D4cls : (V203).length = 1 := by decide +kernel
def oz_D4clsl_0 : List (Nat × Nat) := [(0, 8)]
theorem oz_D4cls_1 : (oz_D4clsl_0).all (fun p => !tbz 256 (Nat.add (Nat.mul 32 p.1) p.2)) = true := by decide +kernel
/-- Tags.fail: this -/
theorem C203 {σE : rS} {D N : Nat → Nat} {F : hF} {A : hA} {d c s : Nat} {Q : wQ} (H : HW V203 σE D N F A) {a1 a2 : Int} (u0_8 : Int) (eu0_8 : F 0 8 = u0_8) (h0 : inr (a1)) (h1 : inr (a2)) (k : ∀ (z : Int) (σ : rS) (Fₚ : hF) (Aₚ : hA), HW V203 σ D N Fₚ Aₚ → OUT (V203).length D N σE c s D N σ c s → SF [(0, 8)] F Fₚ → SA [] A Aₚ → ∀ y0_8 : Int, Fₚ 0 8 = y0_8 → (inr (z)) → ((z) = (a1)) → ((y0_8) = (a2)) → Q (some (I z)) σ c s) : Ew 203 (d + 0) 0 (rargs 0 [.ref (D 0), I a1, I a2]) [] σE c s Q := by
  have O := OUT_refl (n := (V203).length) (D := D) (N := N) (σ := σE) (c := c) (s := s)
  have HE := H
  have r1 : (-2147483648 : Int) ≤ u0_8 ∧ u0_8 ≤ 2147483647 := rngE (show (-2147483648 : Int) ≤ F 0 8 ∧ F 0 8 ≤ 2147483647 from H.krg 0 8 (ltn len_V203_oz_D4cls rfl)) (show F 0 8 = u0_8 from (eu0_8))
  refine Ew_of (pcₚ := 1) (fun _ => x_aload_n rfl rfl) ?_
  refine Ew_of (pcₚ := 2) (fun _ => x_iload_n rfl rfl) ?_
  refine v_p H (o := 0) (z := a2) (v := I (a2)) rfl rfl rfl rfl rfl rfl rfl rfl (show (-2147483648 : Int) ≤ a2 ∧ a2 ≤ 2147483647 from q_61 h1) (fun σ H Oₚ => ?_)
  have O := OUT_trans O Oₚ
  have cFu2 : SF oz_D4clsl_0 F (updF F 0 8 (a2)) := SF_upd (SF_refl) rfl
  have mFu2 := SFm_of cFu2 oz_D4cls_1
  refine Ew_of (pcₚ := 6) (fun _ => x_iload_n rfl rfl) ?_
  exact w_ireturn rfl (k (a1) _ _ _ H O (cFu2) (SA_refl) (a2) (rfl) (show inr (a1) from h0) (show (a1) = a1 from q_42) (show (a2) = a2 from q_42))
abbrev V204_Row_Row : vV := [(0, 10, [(4, 0), (4, 0), (4, 0), (4, 0), (0, 0), (4, 0), (0, 0), (2, 0), (0, 0)]), (0, 7, [(4, 0), (0, 0), (1, 0), (0, 0), (0, 0)]), (0, 7, [(4, 0), (0, 0), (1, 0), (0, 0), (0, 0)]), (1, 0, [])]
theorem len_V204_Row_Row_oz_D4cls : (V204_Row_Row).length = 4 := by decide +kernel
def oz_D4clsl_1 : List (Nat × Nat) := [(0, 3), (0, 4), (0, 5), (0, 6), (0, 8)]
theorem oz_D4cls_3 : (oz_D4clsl_1).all (fun p => !tbz 376 (Nat.add (Nat.mul 32 p.1) p.2)) = true := by decide +kernel
/-- Tags.begin: this, #1, #2, #1.bytes -/
theorem C204_Row_Row {σE : rS} {D N : Nat → Nat} {F : hF} {A : hA} {d c s : Nat} {Q : wQ} (H : HW V204_Row_Row σE D N F A) {a3 : Int} (pf3 : F 1 0 = (D 3 : Int)) (n3 : Int) (en3 : (N 3 : Int) = n3) (u0_4 : Int) (eu0_4 : F 0 4 = u0_4) (u0_6 : Int) (eu0_6 : F 0 6 = u0_6) (u0_8 : Int) (eu0_8 : F 0 8 = u0_8) (u1_1 : Int) (eu1_1 : F 1 1 = u1_1) (h0 : inr (a3)) (k : ∀ (σ : rS) (Fₚ : hF) (Aₚ : hA), HW V204_Row_Row σ D N Fₚ Aₚ → OUT (V204_Row_Row).length D N σE c s D N σ c s → SF [(0, 3), (0, 4), (0, 5), (0, 6), (0, 8)] F Fₚ → SA [] A Aₚ → ∀ y0_4 : Int, Fₚ 0 4 = y0_4 → ∀ y0_6 : Int, Fₚ 0 6 = y0_6 → ∀ y0_8 : Int, Fₚ 0 8 = y0_8 → Fₚ 0 3 = (D 3 : Int) → Fₚ 0 5 = (D 2 : Int) → ((y0_4) = (u1_1) ∧ (y0_6) = (a3) ∧ (y0_8) = (u1_1)) → Q none σ c s) : Ew 204 (d + 0) 0 (rargs 0 [.ref (D 0), .ref (D 1), .ref (D 2), I a3]) [] σE c s Q := by
  have O := OUT_refl (n := (V204_Row_Row).length) (D := D) (N := N) (σ := σE) (c := c) (s := s)
  have HE := H
  have r1 : (-2147483648 : Int) ≤ u0_4 ∧ u0_4 ≤ 2147483647 := rngE (show (-2147483648 : Int) ≤ F 0 4 ∧ F 0 4 ≤ 2147483647 from H.krg 0 4 (ltn len_V204_Row_Row_oz_D4cls rfl)) (show F 0 4 = u0_4 from (eu0_4))
  have r2 : (-2147483648 : Int) ≤ u0_6 ∧ u0_6 ≤ 2147483647 := rngE (show (-2147483648 : Int) ≤ F 0 6 ∧ F 0 6 ≤ 2147483647 from H.krg 0 6 (ltn len_V204_Row_Row_oz_D4cls rfl)) (show F 0 6 = u0_6 from (eu0_6))
  have r3 : (-2147483648 : Int) ≤ u0_8 ∧ u0_8 ≤ 2147483647 := rngE (show (-2147483648 : Int) ≤ F 0 8 ∧ F 0 8 ≤ 2147483647 from H.krg 0 8 (ltn len_V204_Row_Row_oz_D4cls rfl)) (show F 0 8 = u0_8 from (eu0_8))
  have r4 : (-2147483648 : Int) ≤ u1_1 ∧ u1_1 ≤ 2147483647 := rngE (show (-2147483648 : Int) ≤ F 1 1 ∧ F 1 1 ≤ 2147483647 from H.krg 1 1 (ltn len_V204_Row_Row_oz_D4cls rfl)) (show F 1 1 = u1_1 from (eu1_1))
  have r5 : (0 : Int) ≤ n3 ∧ n3 ≤ 1000000 := nleE (H.nle 3 (ltn len_V204_Row_Row_oz_D4cls rfl)) (show (N 3 : Int) = n3 from en3)
  refine Ew_of (pcₚ := 1) (fun _ => x_aload_n rfl rfl) ?_
  refine Ew_of (pcₚ := 2) (fun _ => x_aload_n rfl rfl) ?_
  refine v_g H (o := 1) (v := .ref (D 3)) rfl rfl rfl rfl rfl (vrf (pf3)) ?_
  refine v_p H (o := 0) (z := ((D 3 : Nat) : Int)) (v := .ref (D 3)) rfl rfl rfl rfl rfl rfl (vrf rfl) rfl (show (-1 : Int) ≤ ((D 3 : Nat) : Int) by omega) (fun σ H Oₚ => ?_)
  have O := OUT_trans O Oₚ
  have cFu6 : SF oz_D4clsl_1 F (updF F 0 3 ((D 3 : Nat) : Int)) := SF_upd (SF_refl) rfl
  have mFu6 := SFm_of cFu6 oz_D4cls_3
  refine Ew_of (pcₚ := 9) (fun _ => x_aload_n rfl rfl) ?_
  refine Ew_of (pcₚ := 10) (fun _ => x_aload_n rfl rfl) ?_
  refine v_g H (o := 1) (v := I (u1_1)) rfl rfl rfl rfl rfl (congrArg (fun z : Int => I z) (((mFu6 1 1 rfl).trans (eu1_1)) : (updF F 0 3 ((D 3 : Nat) : Int)) 1 1 = u1_1)) ?_
  refine v_p H (o := 0) (z := u1_1) (v := I (u1_1)) rfl rfl rfl rfl rfl rfl rfl rfl (show (-2147483648 : Int) ≤ u1_1 ∧ u1_1 ≤ 2147483647 from r4) (fun σ H Oₚ => ?_)
  have O := OUT_trans O Oₚ
  have cFu7 : SF oz_D4clsl_1 F (updF (updF F 0 3 ((D 3 : Nat) : Int)) 0 4 (u1_1)) := SF_upd (cFu6) rfl
  have mFu7 := SFm_of cFu7 oz_D4cls_3
  refine Ew_of (pcₚ := 17) (fun _ => x_aload_n rfl rfl) ?_
  refine Ew_of (pcₚ := 18) (fun _ => x_aload_n rfl rfl) ?_
  refine v_p H (o := 0) (z := ((D 2 : Nat) : Int)) (v := .ref (D 2)) rfl rfl rfl rfl rfl rfl (vrf rfl) rfl (show (-1 : Int) ≤ ((D 2 : Nat) : Int) by omega) (fun σ H Oₚ => ?_)
  have O := OUT_trans O Oₚ
  have cFu8 : SF oz_D4clsl_1 F (updF (updF (updF F 0 3 ((D 3 : Nat) : Int)) 0 4 (u1_1)) 0 5 ((D 2 : Nat) : Int)) := SF_upd (cFu7) rfl
  have mFu8 := SFm_of cFu8 oz_D4cls_3
  refine Ew_of (pcₚ := 22) (fun _ => x_aload_n rfl rfl) ?_
  refine Ew_of (pcₚ := 23) (fun _ => x_iload_n rfl rfl) ?_
  refine v_p H (o := 0) (z := a3) (v := I (a3)) rfl rfl rfl rfl rfl rfl rfl rfl (show (-2147483648 : Int) ≤ a3 ∧ a3 ≤ 2147483647 from q_61 h0) (fun σ H Oₚ => ?_)
  have O := OUT_trans O Oₚ
  have cFu9 : SF oz_D4clsl_1 F (updF (updF (updF (updF F 0 3 ((D 3 : Nat) : Int)) 0 4 (u1_1)) 0 5 ((D 2 : Nat) : Int)) 0 6 (a3)) := SF_upd (cFu8) rfl
  have mFu9 := SFm_of cFu9 oz_D4cls_3
  refine Ew_of (pcₚ := 27) (fun _ => x_aload_n rfl rfl) ?_
  refine Ew_of (pcₚ := 28) (fun _ => x_aload_n rfl rfl) ?_
  refine v_g H (o := 0) (v := I (u1_1)) rfl rfl rfl rfl rfl (congrArg (fun z : Int => I z) (rfl : (updF (updF (updF (updF F 0 3 ((D 3 : Nat) : Int)) 0 4 (u1_1)) 0 5 ((D 2 : Nat) : Int)) 0 6 (a3)) 0 4 = u1_1)) ?_
  refine v_p H (o := 0) (z := u1_1) (v := I (u1_1)) rfl rfl rfl rfl rfl rfl rfl rfl (show (-2147483648 : Int) ≤ u1_1 ∧ u1_1 ≤ 2147483647 from r4) (fun σ H Oₚ => ?_)
  have O := OUT_trans O Oₚ
  have cFu10 : SF oz_D4clsl_1 F (updF (updF (updF (updF (updF F 0 3 ((D 3 : Nat) : Int)) 0 4 (u1_1)) 0 5 ((D 2 : Nat) : Int)) 0 6 (a3)) 0 8 (u1_1)) := SF_upd (cFu9) rfl
  have mFu10 := SFm_of cFu10 oz_D4cls_3
  exact w_ret rfl (k _ _ _ H O (cFu10) (SA_refl) (u1_1) (rfl) (a3) (rfl) (u1_1) (rfl) ((show (updF F 0 3 ((D 3 : Nat) : Int)) 0 3 = ((D 3 : Nat) : Int) from rfl)) ((show (updF (updF (updF F 0 3 ((D 3 : Nat) : Int)) 0 4 (u1_1)) 0 5 ((D 2 : Nat) : Int)) 0 5 = ((D 2 : Nat) : Int) from rfl)) (show (u1_1) = (u1_1) ∧ (a3) = a3 ∧ (u1_1) = (u1_1) from q_2831))
abbrev V208 : vV := []
theorem len_V208_oz_D4cls : (V208).length = 0 := by decide +kernel
/-- Tags.bytesBehind:  -/
theorem C208 {σE : rS} {D N : Nat → Nat} {F : hF} {A : hA} {d c s : Nat} {Q : wQ} (H : HW V208 σE D N F A) {a1 : Int} (h0 : inr (a1)) (h1 : 0 ≤ (a1) ∧ (a1) ≤ 255) (k : ∀ (z : Int) (σ : rS) (Fₚ : hF) (Aₚ : hA), HW V208 σ D N Fₚ Aₚ → OUT (V208).length D N σE c s D N σ c s → SF [] F Fₚ → SA [] A Aₚ → (inr (z)) → (0 ≤ (z) ∧ (z) ≤ 4) → Q (some (I z)) σ c s) : Ew 208 (d + 0) 0 (rargs 0 [I a1]) [] σE c s Q := by
  have O := OUT_refl (n := (V208).length) (D := D) (N := N) (σ := σE) (c := c) (s := s)
  have HE := H
  refine Ew_of (pcₚ := 1) (fun _ => x_iload_n rfl rfl) ?_
  refine Ew_of (pcₚ := 2) (fun _ => x_iconst rfl) ?_
  refine w_iand rfl (show inr (a1) from h0) (show inr (3) from q_66) (fun z1 gz1 gaz1 gbz1 => ?_)
  by_cases b2 : z1 = 0
  · refine w_tsk 0 28 rfl (show inr (z1) from gz1) (by omega) (by decide) rfl rfl ?_
    refine Ew_of (pcₚ := 29) (fun _ => x_iconst rfl) ?_
    refine Ew_of (pcₚ := 30) (fun _ => x_iload_n rfl rfl) ?_
    refine Ew_of (pcₚ := 31) (fun _ => x_iconst rfl) ?_
    refine w_ishrK 2 4 (by decide) (by decide) rfl (show inr (a1) from h0) (fun z3 gz3 dz3 => ?_)
    refine Ew_of (pcₚ := 34) (fun _ => x_bipush (z := 59) rfl (by decide)) ?_
    refine w_isub rfl ?_
    refine v_max rfl rfl (show inr (0) from q_20) (show inr ((z3 - 59)) by omega) (fun z4 gz4 => ?_)
    exact w_ireturn rfl (k (z4) _ _ _ H O (SF_refl) (SA_refl) (show inr (z4) from q_2878 gz3 gz4) (show 0 ≤ (z4) ∧ (z4) ≤ 4 by omega))
  ·
    by_cases b5 : z1 = 1
    · refine w_tsk 1 39 rfl (show inr (z1) from gz1) (by omega) (by decide) rfl rfl ?_
      refine Ew_of (pcₚ := 40) (fun _ => x_iconst rfl) ?_
      exact w_ireturn rfl (k (1) _ _ _ H O (SF_refl) (SA_refl) (show inr (1) from q_23) (show 0 ≤ (1) ∧ (1) ≤ 4 by first | exact q_770 | omega))
    ·
      by_cases b6 : z1 = 2
      · refine w_tsk 2 41 rfl (show inr (z1) from gz1) (by omega) (by decide) rfl rfl ?_
        refine Ew_of (pcₚ := 42) (fun _ => x_iconst rfl) ?_
        exact w_ireturn rfl (k (2) _ _ _ H O (SF_refl) (SA_refl) (show inr (2) from q_55) (show 0 ≤ (2) ∧ (2) ≤ 4 by first | exact q_695 | omega))
      ·
        refine w_tsd 43 rfl (show inr (z1) from gz1) (by omega) rfl ?_
        refine Ew_of (pcₚ := 44) (fun _ => x_iconst rfl) ?_
        exact w_ireturn rfl (k (4) _ _ _ H O (SF_refl) (SA_refl) (show inr (4) from q_2) (show 0 ≤ (4) ∧ (4) ≤ 4 by first | exact q_921 | omega))
abbrev V209 : vV := []
theorem len_V209_oz_D4cls : (V209).length = 0 := by decide +kernel
/-- Tags.lengthOf:  -/
theorem C209 {σE : rS} {D N : Nat → Nat} {F : hF} {A : hA} {d c s : Nat} {Q : wQ} (H : HW V209 σE D N F A) {a1 a2 : Int} (h0 : inr (a1)) (h1 : inrJ (a2)) (h2 : 0 ≤ (a1) ∧ (a1) ≤ 255) (h3 : 0 ≤ (a2) ∧ (a2) ≤ 4294967295) (k : ∀ (z : Int) (σ : rS) (Fₚ : hF) (Aₚ : hA), HW V209 σ D N Fₚ Aₚ → OUT (V209).length D N σE c s D N σ c s → SF [] F Fₚ → SA [] A Aₚ → (inrJ (z)) → (1 ≤ (z) ∧ (z) ≤ 4294967296) → Q (some (J z)) σ c s) : Ew 209 (d + 0) 0 (rargs 0 [I a1, J a2]) [] σE c s Q := by
  have O := OUT_refl (n := (V209).length) (D := D) (N := N) (σ := σE) (c := c) (s := s)
  have HE := H
  refine Ew_of (pcₚ := 1) (fun _ => x_iload_n rfl rfl) ?_
  refine Ew_of (pcₚ := 2) (fun _ => x_iconst rfl) ?_
  refine w_ishrK 2 4 (by decide) (by decide) rfl (show inr (a1) from h0) (fun z1 gz1 dz1 => ?_)
  refine Ew_of (pcₚ := 4) (fun _ => x_istore_n rfl) ?_
  refine Ew_of (pcₚ := 5) (fun _ => x_iload_n rfl (rk_o (rfl) rfl rfl)) ?_
  refine Ew_of (pcₚ := 6) (fun _ => x_iconst rfl) ?_
  refine w_iand rfl (show inr (a1) from h0) (show inr (3) from q_66) (fun z2 gz2 gaz2 gbz2 => ?_)
  by_cases b3 : z2 = 0
  · refine w_lsk 32 rfl (show inr (z2) from gz2) b3 rfl rfl ?_
    refine Ew_of (pcₚ := 33) (fun _ => x_iload_n rfl rk_s) ?_
    refine Ew_of (pcₚ := 35) (fun _ => x_bipush (z := 60) rfl (by decide)) ?_
    refine w_icmpge (t := 45) rfl rfl (show inr (z1) from gz1) (show inr (60) from q_715) (fun b4 => ?_) (fun b4 => ?_)
    · refine Ew_of (pcₚ := 46) (fun _ => x_lload_n rfl (rk_o (rfl) rfl rfl)) ?_
      refine Ew_of (pcₚ := 47) (fun _ => x_lconst (z := 1) rfl (by decide)) ?_
      refine w_ladd rfl ?_
      exact w_lreturn rfl (k ((a2 + 1)) _ _ _ H O (SF_refl) (SA_refl) (show inrJ ((a2 + 1)) by omega) (show 1 ≤ ((a2 + 1)) ∧ ((a2 + 1)) ≤ 4294967296 by first | exact q_2879 h3 | omega))
    · refine Ew_of (pcₚ := 39) (fun _ => x_iload_n rfl rk_s) ?_
      refine Ew_of (pcₚ := 40) (fun _ => x_iconst rfl) ?_
      refine w_iadd rfl ?_
      refine w_i2l rfl (show inr ((z1 + 1)) from q_2880 b4 gz1) ?_
      refine Ew_of (pcₚ := 48) (fun _ => x_goto rfl rfl) ?_
      exact w_lreturn rfl (k ((z1 + 1)) _ _ _ H O (SF_refl) (SA_refl) (show inrJ ((z1 + 1)) from q_2881 b4 gz1) (show 1 ≤ ((z1 + 1)) ∧ ((z1 + 1)) ≤ 4294967296 by omega))
  ·
    by_cases b5 : z2 = 1
    · refine w_lsk 49 rfl (show inr (z2) from gz2) b5 rfl rfl ?_
      refine Ew_of (pcₚ := 50) (fun _ => x_iload_n rfl rk_s) ?_
      refine Ew_of (pcₚ := 52) (fun _ => x_bipush (z := 8) rfl (by decide)) ?_
      refine w_irem rfl (show inr (z1) ∧ 0 ≤ z1 by omega) (show inr (8) ∧ 0 < 8 from q_810) ?_
      refine Ew_of (pcₚ := 54) (fun _ => x_iconst rfl) ?_
      refine w_iadd rfl ?_
      refine w_i2l rfl (show inr (((z1 % 8) + 4)) from q_819) ?_
      exact w_lreturn rfl (k (((z1 % 8) + 4)) _ _ _ H O (SF_refl) (SA_refl) (show inrJ (((z1 % 8) + 4)) from q_821) (show 1 ≤ (((z1 % 8) + 4)) ∧ (((z1 % 8) + 4)) ≤ 4294967296 by first | exact q_2882 | omega))
    ·
      refine w_lsd 57 rfl (show inr (z2) from gz2) (by intro q hq; simp at hq; rcases hq with rfl | rfl <;> (first | omega | (simp; omega) | (intro e; simp at e; omega))) rfl ?_
      refine Ew_of (pcₚ := 58) (fun _ => x_iload_n rfl rk_s) ?_
      refine Ew_of (pcₚ := 59) (fun _ => x_iconst rfl) ?_
      refine w_iadd rfl ?_
      refine w_i2l rfl (show inr ((z1 + 1)) by omega) ?_
      exact w_lreturn rfl (k ((z1 + 1)) _ _ _ H O (SF_refl) (SA_refl) (show inrJ ((z1 + 1)) from q_2883 gz1) (show 1 ≤ ((z1 + 1)) ∧ ((z1 + 1)) ≤ 4294967296 by omega))
abbrev V207 : vV := [(0, 10, [(4, 0), (4, 0), (4, 0), (4, 0), (0, 0), (4, 0), (0, 0), (2, 0), (0, 0)]), (1, 0, [])]
theorem len_V207_oz_D4cls : (V207).length = 2 := by decide +kernel
theorem oz_D4cls_7 : vsub V207 V203 [0] = true := by decide +kernel
def oz_D4clsl_2 : List (Nat × Nat) := [(0, 7), (0, 8)]
theorem oz_D4cls_8 : (oz_D4clsl_2).all (fun p => !tbz 384 (Nat.add (Nat.mul 32 p.1) p.2)) = true := by decide +kernel
def oz_D4clsl_3 : List Nat := []
theorem oz_D4cls_9 : (oz_D4clsl_3).all (fun p => !tbz 0 p) = true := by decide +kernel
def oz_D4clsl_4 : List Nat := [0]
theorem oz_D4cls_10 : okc oz_D4clsl_4 0 = true := by decide +kernel
/-- Tags.unpackLength: this, this.in -/
theorem C207 {σE : rS} {D N : Nat → Nat} {F : hF} {A : hA} {d c s : Nat} {Q : wQ} (H : HW V207 σE D N F A) {a1 a2 a3 : Int} (pf1 : F 0 3 = (D 1 : Int)) (n1 : Int) (en1 : (N 1 : Int) = n1) (u0_7 : Int) (eu0_7 : F 0 7 = u0_7) (u0_8 : Int) (eu0_8 : F 0 8 = u0_8) (h0 : inr (a1)) (h1 : inr (a2)) (h2 : inr (a3)) (h3 : 0 ≤ (a1) ∧ (a1) ≤ (a2) ∧ (a2) ≤ (n1) ∧ (n1) ≤ 65536) (k : ∀ (z : Int) (σ : rS) (Fₚ : hF) (Aₚ : hA), HW V207 σ D N Fₚ Aₚ → OUT (V207).length D N σE c s D N σ c s → SF [(0, 7), (0, 8)] F Fₚ → SA [] A Aₚ → ∀ y0_7 : Int, Fₚ 0 7 = y0_7 → ∀ y0_8 : Int, Fₚ 0 8 = y0_8 → (inr (z)) → (0 ≤ (z) ∧ (z) ≤ 3) → ((z) = 0 → (a1) ≤ (y0_8) ∧ (y0_8) ≤ (a2) ∧ 0 ≤ (y0_7) ∧ (y0_7) ≤ (a3)) → Q (some (I z)) σ c s) : Ew 207 (d + 1) 0 (rargs 0 [.ref (D 0), I a1, I a2, I a3]) [] σE c s Q := by
  have O := OUT_refl (n := (V207).length) (D := D) (N := N) (σ := σE) (c := c) (s := s)
  have HE := H
  have r1 : (-9223372036854775808 : Int) ≤ u0_7 ∧ u0_7 ≤ 9223372036854775807 := rngE (show (-9223372036854775808 : Int) ≤ F 0 7 ∧ F 0 7 ≤ 9223372036854775807 from H.krg 0 7 (ltn len_V207_oz_D4cls rfl)) (show F 0 7 = u0_7 from (eu0_7))
  have r2 : (-2147483648 : Int) ≤ u0_8 ∧ u0_8 ≤ 2147483647 := rngE (show (-2147483648 : Int) ≤ F 0 8 ∧ F 0 8 ≤ 2147483647 from H.krg 0 8 (ltn len_V207_oz_D4cls rfl)) (show F 0 8 = u0_8 from (eu0_8))
  have r3 : (0 : Int) ≤ n1 ∧ n1 ≤ 1000000 := nleE (H.nle 1 (ltn len_V207_oz_D4cls rfl)) (show (N 1 : Int) = n1 from en1)
  refine Ew_of (pcₚ := 1) (fun _ => x_aload_n rfl rfl) ?_
  refine Ew_of (pcₚ := 2) (fun _ => x_lconst (z := 0) rfl (by decide)) ?_
  refine v_p H (o := 0) (z := 0) (v := J (0)) rfl rfl rfl rfl rfl rfl rfl rfl (show (-9223372036854775808 : Int) ≤ 0 ∧ 0 ≤ 9223372036854775807 from q_351) (fun σ H Oₚ => ?_)
  have O := OUT_trans O Oₚ
  have cFu4 : SF oz_D4clsl_2 F (updF F 0 7 (0)) := SF_upd (SF_refl) rfl
  have mFu4 := SFm_of cFu4 oz_D4cls_8
  refine Ew_of (pcₚ := 6) (fun _ => x_iload_n rfl rfl) ?_
  refine Ew_of (pcₚ := 8) (fun _ => x_istore rfl) ?_
  refine Ew_of (pcₚ := 9) (fun _ => x_iconst rfl) ?_
  refine Ew_of (pcₚ := 11) (fun _ => x_istore rfl) ?_
  refine Ew_of (pcₚ := 12) (fun _ => x_iconst rfl) ?_
  refine Ew_of (pcₚ := 14) (fun _ => x_istore rfl) ?_
  suffices hl14 : ∀ (m : Nat), ∀ (ls : rO) (σ : rS) (F_14 : hF) (A_14 : hA) (x14_4 : Int) (x14_5 : Int) (x14_6 : Int), rlook ls 0 = some (.ref (D 0)) → rlook ls 1 = some (I (a1)) → rlook ls 2 = some (I (a2)) → rlook ls 3 = some (I (a3)) → rlook ls 4 = some (I (x14_4)) → rlook ls 5 = some (I (x14_5)) → rlook ls 6 = some (I (x14_6)) → HW V207 σ D N F_14 A_14 → OUT (V207).length D N σE c s D N σ c s → SF [(0, 7)] (updF F 0 7 (0)) F_14 → SA [] A A_14 → ∀ y14_0_7 : Int, F_14 0 7 = y14_0_7 → (inr (x14_4)) → (inr (x14_5)) → (inr (x14_6)) → ((0) ≤ (x14_6)) → ((x14_6) ≤ (0) ∨ (x14_6) ≤ (5)) → ((a1) ≤ (x14_4) ∧ (x14_4) ≤ (a2)) → ((x14_5) = 0 ∨ (x14_5) = 1) → (0 ≤ (y14_0_7) ∧ (y14_0_7) ≤ 34091302912 * (x14_6)) → ((5) - (x14_6)).toNat = m → Ew 207 (d + 1) 14 ls [] σ c s Q from
    hl14 _ _ _ _ _ (a1) (1) (0) (rk_o (rk_o (rk_o (rfl) rfl rfl) rfl rfl) rfl rfl) (rk_o (rk_o (rk_o (rfl) rfl rfl) rfl rfl) rfl rfl) (rk_o (rk_o (rk_o (rfl) rfl rfl) rfl rfl) rfl rfl) (rk_o (rk_o (rk_o (rfl) rfl rfl) rfl rfl) rfl rfl) (rk_o (rk_o (rk_s) rfl rfl) rfl rfl) (rk_o (rk_s) rfl rfl) (rk_s) H O (SF_refl) (SA_refl)   (0) (rfl)  (show inr (a1) from h0) (show inr (1) from q_23) (show inr (0) from q_20) (show (0) ≤ (0) from q_25) (show (0) ≤ (0) ∨ (0) ≤ (5) from q_2077) (show (a1) ≤ (a1) ∧ (a1) ≤ (a2) from q_2885 h3) (show (1) = 0 ∨ (1) = 1 from q_5) (show 0 ≤ (0) ∧ (0) ≤ 34091302912 * (0) from q_2884) rfl
  as_aux_lemma =>
  intro m
  induction m using Nat.strongRecOn with
  | _ m ih14 =>
    intro ls σ F_14 A_14 x14_4 x14_5 x14_6 l14_0 l14_1 l14_2 l14_3 l14_4 l14_5 l14_6 H O hS_14 hA_14   y14_0_7 ey14_0_7  j14_0 j14_1 j14_2 j14_3 j14_4 j14_5 j14_6 j14_7 hm14
    have cF_14 : SF oz_D4clsl_2 F F_14 := SF_trans (cFu4) hS_14 (any_sub (by decide +kernel))
    have mF_14 := SFm_of cF_14 oz_D4cls_8
    have cA_14 : SA oz_D4clsl_3 A A_14 := SA_trans (SA_refl) hA_14 (any_subA (by decide +kernel))
    have mA_14 := SAm_of cA_14 oz_D4cls_9
    have r5 : (-9223372036854775808 : Int) ≤ y14_0_7 ∧ y14_0_7 ≤ 9223372036854775807 := rngE (show (-9223372036854775808 : Int) ≤ F_14 0 7 ∧ F_14 0 7 ≤ 9223372036854775807 from H.krg 0 7 (ltn len_V207_oz_D4cls rfl)) (show F_14 0 7 = y14_0_7 from (ey14_0_7))
    refine Ew_of (pcₚ := 16) (fun _ => x_iload rfl l14_6) ?_
    refine Ew_of (pcₚ := 17) (fun _ => x_iconst rfl) ?_
    have hc116 : ∀ (ls : rO) (σ : rS) (F_c116 : hF) (A_c116 : hA) , rlook ls 0 = some (.ref (D 0)) → rlook ls 1 = some (I (a1)) → rlook ls 3 = some (I (a3)) → rlook ls 4 = some (I (x14_4)) → HW V207 σ D N F_c116 A_c116 → OUT (V207).length D N σE c s D N σ c s → SF [] F_14 F_c116 → SA [] A_14 A_c116 → (((x14_6) ≥ (5)) ∨ ((x14_6) < (5) ∧ (x14_5) = (0))) → Ew 207 (d + 1) 116 ls [] σ c s Q := by
     as_aux_lemma =>
      intro  ls σ F_c116 A_c116  lc116_0 lc116_1 lc116_3 lc116_4 H O hS_c116 hA_c116     jc116_0
      have cF_c116 : SF oz_D4clsl_2 F F_c116 := SF_trans (cF_14) hS_c116 (any_sub (by decide +kernel))
      have mF_c116 := SFm_of cF_c116 oz_D4cls_8
      have cA_c116 : SA oz_D4clsl_3 A A_c116 := SA_trans (cA_14) hA_c116 (any_subA (by decide +kernel))
      have mA_c116 := SAm_of cA_c116 oz_D4cls_9
      refine Ew_of (pcₚ := 117) (fun _ => x_aload_n rfl lc116_0) ?_
      refine v_g H (o := 0) (v := J (y14_0_7)) rfl rfl rfl rfl rfl (congrArg (fun z : Int => J z) (((hS_c116 0 7 rfl).trans (ey14_0_7)) : F_c116 0 7 = y14_0_7)) ?_
      refine Ew_of (pcₚ := 121) (fun _ => x_iload_n rfl lc116_3) ?_
      refine w_i2l rfl (show inr (a3) from h2) ?_
      refine w_lcmp rfl (show inrJ (y14_0_7) by omega) (show inrJ (a3) from q_428 h2) (fun z6 gz6 gaz6 gbz6 => ?_)
      refine w_ifle (t := 135) rfl rfl (show inr (z6) from gz6) (fun b7 => ?_) (fun b7 => ?_)
      · refine Ew_of (pcₚ := 136) (fun _ => x_aload_n rfl lc116_0) ?_
        refine Ew_of (pcₚ := 137) (fun _ => x_iconst rfl) ?_
        refine Ew_of (pcₚ := 139) (fun _ => x_iload rfl lc116_4) ?_
        refine v_inv H (o := 0) rfl rfl rfl rfl rfl rfl (by rfl) (C203 (D := puc 0 D) (N := puc 0 N) (HW_subc H oz_D4cls_7 oz_D4cls_10) (u0_8) ((((hS_c116 0 8 rfl).trans (hS_14 0 8 rfl)).trans (eu0_8))) (show inr (0) from q_20) (show inr (x14_4) from j14_0) (fun z8 σ8 F8ₚ A8ₚ Hₚ Oₚ hS8 hA8 y8_0_8 ey8_0_8 pz8_0 pz8_1 pz8_2 => ⟨rfl, ?_⟩))
        refine v_backc (c := c) (s := s) H oz_D4cls_7 oz_D4cls_10 Hₚ Oₚ (fun F8 A8 H Oₚ eF8 eA8 => ?_)
        have O := OUT_trans O Oₚ
        -- Tags.fail
        have cF8 : SF oz_D4clsl_2 F F8 := SF_trans (cF_c116) (SF_gluc (ι := oz_D4clsl_4) oz_D4cls_10 hS8 eF8 (by decide +kernel)) (any_sub (lₚ := [(0, 8)]) (by decide +kernel))
        have mF8 := SFm_of cF8 oz_D4cls_8
        have cA8 : SA oz_D4clsl_3 A A8 := SA_trans (cA_c116) (SA_gluc (ι := oz_D4clsl_4) oz_D4cls_10 hA8 eA8 (by decide +kernel)) (any_subA (lₚ := []) (by decide +kernel))
        have mA8 := SAm_of cA8 oz_D4cls_9
        have r9 : (-2147483648 : Int) ≤ y8_0_8 ∧ y8_0_8 ≤ 2147483647 := rngE (show (-2147483648 : Int) ≤ F8 0 8 ∧ F8 0 8 ≤ 2147483647 from H.krg 0 8 (ltn len_V207_oz_D4cls rfl)) (show F8 0 8 = y8_0_8 from ((eF8 0 8).trans ey8_0_8))
        exact w_ireturn rfl (k (z8) _ _ _ H O (cF8) (cA8) (y14_0_7) (((((show F8 0 7 = F_c116 0 7 from (eF8 0 7).trans (hS8 0 7 rfl))).trans (hS_c116 0 7 rfl)).trans (ey14_0_7))) (y8_0_8) (((eF8 0 8).trans ey8_0_8)) (show inr (z8) from pz8_0) (show 0 ≤ (z8) ∧ (z8) ≤ 3 from q_2886 pz8_1) (show (z8) = 0 → a1 ≤ (y8_0_8) ∧ (y8_0_8) ≤ a2 ∧ 0 ≤ (y14_0_7) ∧ (y14_0_7) ≤ a3 by omega))
      · refine Ew_of (pcₚ := 127) (fun _ => x_aload_n rfl lc116_0) ?_
        refine Ew_of (pcₚ := 128) (fun _ => x_iconst rfl) ?_
        refine Ew_of (pcₚ := 129) (fun _ => x_iload_n rfl lc116_1) ?_
        refine v_inv H (o := 0) rfl rfl rfl rfl rfl rfl (by rfl) (C203 (D := puc 0 D) (N := puc 0 N) (HW_subc H oz_D4cls_7 oz_D4cls_10) (u0_8) ((((hS_c116 0 8 rfl).trans (hS_14 0 8 rfl)).trans (eu0_8))) (show inr (3) from q_66) (show inr (a1) from h0) (fun z10 σ10 F10ₚ A10ₚ Hₚ Oₚ hS10 hA10 y10_0_8 ey10_0_8 pz10_0 pz10_1 pz10_2 => ⟨rfl, ?_⟩))
        refine v_backc (c := c) (s := s) H oz_D4cls_7 oz_D4cls_10 Hₚ Oₚ (fun F10 A10 H Oₚ eF10 eA10 => ?_)
        have O := OUT_trans O Oₚ
        -- Tags.fail
        have cF10 : SF oz_D4clsl_2 F F10 := SF_trans (cF_c116) (SF_gluc (ι := oz_D4clsl_4) oz_D4cls_10 hS10 eF10 (by decide +kernel)) (any_sub (lₚ := [(0, 8)]) (by decide +kernel))
        have mF10 := SFm_of cF10 oz_D4cls_8
        have cA10 : SA oz_D4clsl_3 A A10 := SA_trans (cA_c116) (SA_gluc (ι := oz_D4clsl_4) oz_D4cls_10 hA10 eA10 (by decide +kernel)) (any_subA (lₚ := []) (by decide +kernel))
        have mA10 := SAm_of cA10 oz_D4cls_9
        have r11 : (-2147483648 : Int) ≤ y10_0_8 ∧ y10_0_8 ≤ 2147483647 := rngE (show (-2147483648 : Int) ≤ F10 0 8 ∧ F10 0 8 ≤ 2147483647 from H.krg 0 8 (ltn len_V207_oz_D4cls rfl)) (show F10 0 8 = y10_0_8 from ((eF10 0 8).trans ey10_0_8))
        refine Ew_of (pcₚ := 142) (fun _ => x_goto rfl rfl) ?_
        exact w_ireturn rfl (k (z10) _ _ _ H O (cF10) (cA10) (y14_0_7) (((((show F10 0 7 = F_c116 0 7 from (eF10 0 7).trans (hS10 0 7 rfl))).trans (hS_c116 0 7 rfl)).trans (ey14_0_7))) (y10_0_8) (((eF10 0 8).trans ey10_0_8)) (show inr (z10) from pz10_0) (show 0 ≤ (z10) ∧ (z10) ≤ 3 from q_2809 pz10_1) (show (z10) = 0 → a1 ≤ (y10_0_8) ∧ (y10_0_8) ≤ a2 ∧ 0 ≤ (y14_0_7) ∧ (y14_0_7) ≤ a3 from q_2887 h3 j14_7 pz10_1 pz10_2))
    refine w_icmpge (t := 116) rfl rfl (show inr (x14_6) from j14_2) (show inr (5) from q_509) (fun b12 => ?_) (fun b12 => ?_)
    · exact hc116  _ _ _ _  (l14_0) (l14_1) (l14_3) (l14_4) H O (SF_refl) (SA_refl)     (show ((x14_6) ≥ (5)) ∨ ((x14_6) < (5) ∧ (x14_5) = (0)) from q_2888 b12)
    · refine Ew_of (pcₚ := 22) (fun _ => x_iload rfl l14_5) ?_
      refine w_ifeq (t := 116) rfl rfl (show inr (x14_5) from j14_1) (fun b13 => ?_) (fun b13 => ?_)
      · exact hc116  _ _ _ _  (l14_0) (l14_1) (l14_3) (l14_4) H O (SF_refl) (SA_refl)     (show ((x14_6) ≥ (5)) ∨ ((x14_6) < (5) ∧ (x14_5) = (0)) from q_2889 b12 b13)
      · refine Ew_of (pcₚ := 27) (fun _ => x_iload rfl l14_4) ?_
        refine Ew_of (pcₚ := 28) (fun _ => x_iload_n rfl l14_2) ?_
        refine w_icmplt (t := 38) rfl rfl (show inr (x14_4) from j14_0) (show inr (a2) from h1) (fun b14 => ?_) (fun b14 => ?_)
        · refine Ew_of (pcₚ := 39) (fun _ => x_aload_n rfl l14_0) ?_
          refine v_g H (o := 0) (v := .ref (D 1)) rfl rfl rfl rfl rfl (vrf ((mF_14 0 3 rfl).trans (pf1))) ?_
          refine Ew_of (pcₚ := 44) (fun _ => x_iload rfl l14_4) ?_
          refine Ew_of (pcₚ := 47) (fun _ => x_iinc (len := 3) rfl (l14_4)) ?_
          refine v_lB H (o := 1) rfl rfl rfl rfl (n := n1) (en1) (show 0 ≤ x14_4 ∧ x14_4 < n1 from q_2890 b14 h3 j14_5) (fun v15 ev15 qv15 => ?_)
          have ev15 : (A 1) (x14_4) = v15 := (congrFun (funext (mA_14 1 rfl)) (x14_4)).symm.trans ev15
          refine Ew_of (pcₚ := 51) (fun _ => x_sipush (z := 255) rfl (by decide)) ?_
          refine w_iand rfl (show inr (v15) from q_2536 qv15) (show inr (255) from q_36) (fun z16 gz16 gaz16 gbz16 => ?_)
          refine Ew_of (pcₚ := 54) (fun _ => x_istore rfl) ?_
          refine Ew_of (pcₚ := 56) (fun _ => x_iload rfl (rk_o (rk_o (l14_6) rfl rfl) rfl rfl)) ?_
          refine Ew_of (pcₚ := 57) (fun _ => x_iconst rfl) ?_
          have hc74 : ∀ (ls : rO) (σ : rS) (F_c74 : hF) (A_c74 : hA) , rlook ls 0 = some (.ref (D 0)) → rlook ls 1 = some (I (a1)) → rlook ls 2 = some (I (a2)) → rlook ls 3 = some (I (a3)) → rlook ls 4 = some (I ((x14_4 + 1))) → rlook ls 6 = some (I (x14_6)) → rlook ls 7 = some (I (z16)) → HW V207 σ D N F_c74 A_c74 → OUT (V207).length D N σE c s D N σ c s → SF [] F_14 F_c74 → SA [] A_14 A_c74 → (((x14_6) ≠ (4)) ∨ ((x14_6) = (4) ∧ (z16) ≤ (15))) → Ew 207 (d + 1) 74 ls [] σ c s Q := by
           as_aux_lemma =>
            intro  ls σ F_c74 A_c74  lc74_0 lc74_1 lc74_2 lc74_3 lc74_4 lc74_6 lc74_7 H O hS_c74 hA_c74     jc74_0
            have cF_c74 : SF oz_D4clsl_2 F F_c74 := SF_trans (cF_14) hS_c74 (any_sub (by decide +kernel))
            have mF_c74 := SFm_of cF_c74 oz_D4cls_8
            have cA_c74 : SA oz_D4clsl_3 A A_c74 := SA_trans (cA_14) hA_c74 (any_subA (by decide +kernel))
            have mA_c74 := SAm_of cA_c74 oz_D4cls_9
            refine Ew_of (pcₚ := 75) (fun _ => x_aload_n rfl lc74_0) ?_
            refine Ew_of (pcₚ := 76) (fun _ => x_dup rfl rfl) ?_
            refine v_g H (o := 0) (v := J (y14_0_7)) rfl rfl rfl rfl rfl (congrArg (fun z : Int => J z) (((hS_c74 0 7 rfl).trans (ey14_0_7)) : F_c74 0 7 = y14_0_7)) ?_
            refine Ew_of (pcₚ := 81) (fun _ => x_iload rfl lc74_7) ?_
            refine w_i2l rfl (show inr (z16) from gz16) ?_
            refine Ew_of (pcₚ := 85) (fun _ => x_ldc2 (z := 127) rfl (by decide)) ?_
            refine w_land rfl (show inrJ (z16) from q_428 gz16) (show inrJ (127) from q_771) (fun z17 gz17 gaz17 gbz17 => ?_)
            refine Ew_of (pcₚ := 88) (fun _ => x_bipush (z := 7) rfl (by decide)) ?_
            refine Ew_of (pcₚ := 90) (fun _ => x_iload rfl lc74_6) ?_
            refine w_imul rfl ?_
            have hz1 : 0 ≤ (z17) * p2 (((7 * x14_6))) := Int.mul_nonneg (by omega) (by have := p2_pos (((7 * x14_6))); omega)
            have hz2 : (z17) * p2 (((7 * x14_6))) ≤ 127 * p2 28 := Int.mul_le_mul (by omega) (p2_mono (by omega)) (by have := p2_pos (((7 * x14_6))); omega) (by omega)
            have : p2 28 = 268435456 := by decide
            refine w_lshlT rfl (show 0 ≤ (7 * x14_6) ∧ (7 * x14_6) ≤ 63 by omega) ?_
            have hp28 : p2 (7 * (x14_6)) ≤ p2 28 := p2_mono (by omega)
            have : p2 28 = 268435456 := by decide
            have := p2_pos (7 * (x14_6))
            refine w_lorN rfl (show inrJ (y14_0_7) by omega) (show inrJ ((z17 * p2 ((7 * x14_6)))) by omega) (fun z19 gz19 dz19 => ?_)
            refine v_p H (o := 0) (z := z19) (v := J (z19)) rfl rfl rfl rfl rfl rfl rfl rfl (show (-9223372036854775808 : Int) ≤ z19 ∧ z19 ≤ 9223372036854775807 by omega) (fun σ H Oₚ => ?_)
            have O := OUT_trans O Oₚ
            have cFu20 : SF oz_D4clsl_2 F (updF F_c74 0 7 (z19)) := SF_upd (cF_c74) rfl
            have mFu20 := SFm_of cFu20 oz_D4cls_8
            refine Ew_of (pcₚ := 98) (fun _ => x_iload rfl lc74_7) ?_
            refine Ew_of (pcₚ := 100) (fun _ => x_bipush (z := 127) rfl (by decide)) ?_
            refine w_icmple (t := 107) rfl rfl (show inr (z16) from gz16) (show inr (127) from q_869) (fun b21 => ?_) (fun b21 => ?_)
            · refine Ew_of (pcₚ := 108) (fun _ => x_iconst rfl) ?_
              refine Ew_of (pcₚ := 110) (fun _ => x_istore rfl) ?_
              refine Ew_of (pcₚ := 113) (fun _ => x_iinc (len := 3) rfl (rk_o (lc74_6) rfl rfl)) ?_
              refine Ew_of (pcₚ := 14) (fun _ => x_goto rfl rfl) ?_
              exact ih14 _ (msE hm14 q_775 (q_776 b12)) _ _ _ _ ((x14_4 + 1)) (0) ((x14_6 + 1)) (rk_o (rk_o (lc74_0) rfl rfl) rfl rfl) (rk_o (rk_o (lc74_1) rfl rfl) rfl rfl) (rk_o (rk_o (lc74_2) rfl rfl) rfl rfl) (rk_o (rk_o (lc74_3) rfl rfl) rfl rfl) (rk_o (rk_o (lc74_4) rfl rfl) rfl rfl) (rk_o (rk_s) rfl rfl) (rk_s) H O (SF_upd (SF_trans (hS_14) hS_c74 (any_sub (by decide +kernel))) rfl) (SA_trans (hA_14) hA_c74 (any_subA (by decide +kernel)))   (z19) (rfl)  (show inr ((x14_4 + 1)) from q_2792 b14 h3 j14_0) (show inr (0) from q_20) (show inr ((x14_6 + 1)) by omega) (show (0) ≤ ((x14_6 + 1)) by omega) (show ((x14_6 + 1)) ≤ (0) ∨ ((x14_6 + 1)) ≤ (5) from q_2092 b12) (show (a1) ≤ ((x14_4 + 1)) ∧ ((x14_4 + 1)) ≤ (a2) from q_1251 b14 j14_5) (show (0) = 0 ∨ (0) = 1 from q_1) (show 0 ≤ (z19) ∧ (z19) ≤ 34091302912 * ((x14_6 + 1)) by omega) rfl
            · refine Ew_of (pcₚ := 104) (fun _ => x_iconst rfl) ?_
              refine Ew_of (pcₚ := 108) (fun _ => x_goto rfl rfl) ?_
              refine Ew_of (pcₚ := 110) (fun _ => x_istore rfl) ?_
              refine Ew_of (pcₚ := 113) (fun _ => x_iinc (len := 3) rfl (rk_o (lc74_6) rfl rfl)) ?_
              refine Ew_of (pcₚ := 14) (fun _ => x_goto rfl rfl) ?_
              exact ih14 _ (msE hm14 q_775 (q_776 b12)) _ _ _ _ ((x14_4 + 1)) (1) ((x14_6 + 1)) (rk_o (rk_o (lc74_0) rfl rfl) rfl rfl) (rk_o (rk_o (lc74_1) rfl rfl) rfl rfl) (rk_o (rk_o (lc74_2) rfl rfl) rfl rfl) (rk_o (rk_o (lc74_3) rfl rfl) rfl rfl) (rk_o (rk_o (lc74_4) rfl rfl) rfl rfl) (rk_o (rk_s) rfl rfl) (rk_s) H O (SF_upd (SF_trans (hS_14) hS_c74 (any_sub (by decide +kernel))) rfl) (SA_trans (hA_14) hA_c74 (any_subA (by decide +kernel)))   (z19) (rfl)  (show inr ((x14_4 + 1)) from q_2792 b14 h3 j14_0) (show inr (1) from q_23) (show inr ((x14_6 + 1)) by omega) (show (0) ≤ ((x14_6 + 1)) by omega) (show ((x14_6 + 1)) ≤ (0) ∨ ((x14_6 + 1)) ≤ (5) from q_2092 b12) (show (a1) ≤ ((x14_4 + 1)) ∧ ((x14_4 + 1)) ≤ (a2) from q_1251 b14 j14_5) (show (1) = 0 ∨ (1) = 1 from q_5) (show 0 ≤ (z19) ∧ (z19) ≤ 34091302912 * ((x14_6 + 1)) by omega) rfl
          refine w_icmpne (t := 74) rfl rfl (show inr (x14_6) from j14_2) (show inr (4) from q_2) (fun b22 => ?_) (fun b22 => ?_)
          · exact hc74  _ _ _ _  (rk_o (rk_o (l14_0) rfl rfl) rfl rfl) (rk_o (rk_o (l14_1) rfl rfl) rfl rfl) (rk_o (rk_o (l14_2) rfl rfl) rfl rfl) (rk_o (rk_o (l14_3) rfl rfl) rfl rfl) (rk_o (rk_s) rfl rfl) (rk_o (rk_o (l14_6) rfl rfl) rfl rfl) (rk_s) H O (SF_refl) (SA_refl)     (show ((x14_6) ≠ (4)) ∨ ((x14_6) = (4) ∧ (z16) ≤ (15)) from q_777 b22)
          · refine Ew_of (pcₚ := 62) (fun _ => x_iload rfl rk_s) ?_
            refine Ew_of (pcₚ := 64) (fun _ => x_bipush (z := 15) rfl (by decide)) ?_
            refine w_icmple (t := 74) rfl rfl (show inr (z16) from gz16) (show inr (15) from q_143) (fun b23 => ?_) (fun b23 => ?_)
            · exact hc74  _ _ _ _  (rk_o (rk_o (l14_0) rfl rfl) rfl rfl) (rk_o (rk_o (l14_1) rfl rfl) rfl rfl) (rk_o (rk_o (l14_2) rfl rfl) rfl rfl) (rk_o (rk_o (l14_3) rfl rfl) rfl rfl) (rk_o (rk_s) rfl rfl) (rk_o (rk_o (l14_6) rfl rfl) rfl rfl) (rk_s) H O (SF_refl) (SA_refl)     (show ((x14_6) ≠ (4)) ∨ ((x14_6) = (4) ∧ (z16) ≤ (15)) from q_2891 b22 b23)
            · refine Ew_of (pcₚ := 68) (fun _ => x_aload_n rfl (rk_o (rk_o (l14_0) rfl rfl) rfl rfl)) ?_
              refine Ew_of (pcₚ := 69) (fun _ => x_iconst rfl) ?_
              refine Ew_of (pcₚ := 70) (fun _ => x_iload_n rfl (rk_o (rk_o (l14_1) rfl rfl) rfl rfl)) ?_
              refine v_inv H (o := 0) rfl rfl rfl rfl rfl rfl (by rfl) (C203 (D := puc 0 D) (N := puc 0 N) (HW_subc H oz_D4cls_7 oz_D4cls_10) (u0_8) (((hS_14 0 8 rfl).trans (eu0_8))) (show inr (2) from q_55) (show inr (a1) from h0) (fun z24 σ24 F24ₚ A24ₚ Hₚ Oₚ hS24 hA24 y24_0_8 ey24_0_8 pz24_0 pz24_1 pz24_2 => ⟨rfl, ?_⟩))
              refine v_backc (c := c) (s := s) H oz_D4cls_7 oz_D4cls_10 Hₚ Oₚ (fun F24 A24 H Oₚ eF24 eA24 => ?_)
              have O := OUT_trans O Oₚ
              -- Tags.fail
              have cF24 : SF oz_D4clsl_2 F F24 := SF_trans (cF_14) (SF_gluc (ι := oz_D4clsl_4) oz_D4cls_10 hS24 eF24 (by decide +kernel)) (any_sub (lₚ := [(0, 8)]) (by decide +kernel))
              have mF24 := SFm_of cF24 oz_D4cls_8
              have cA24 : SA oz_D4clsl_3 A A24 := SA_trans (cA_14) (SA_gluc (ι := oz_D4clsl_4) oz_D4cls_10 hA24 eA24 (by decide +kernel)) (any_subA (lₚ := []) (by decide +kernel))
              have mA24 := SAm_of cA24 oz_D4cls_9
              have r25 : (-2147483648 : Int) ≤ y24_0_8 ∧ y24_0_8 ≤ 2147483647 := rngE (show (-2147483648 : Int) ≤ F24 0 8 ∧ F24 0 8 ≤ 2147483647 from H.krg 0 8 (ltn len_V207_oz_D4cls rfl)) (show F24 0 8 = y24_0_8 from ((eF24 0 8).trans ey24_0_8))
              exact w_ireturn rfl (k (z24) _ _ _ H O (cF24) (cA24) (y14_0_7) ((((show F24 0 7 = F_14 0 7 from (eF24 0 7).trans (hS24 0 7 rfl))).trans (ey14_0_7))) (y24_0_8) (((eF24 0 8).trans ey24_0_8)) (show inr (z24) from pz24_0) (show 0 ≤ (z24) ∧ (z24) ≤ 3 from q_2281 pz24_1) (show (z24) = 0 → a1 ≤ (y24_0_8) ∧ (y24_0_8) ≤ a2 ∧ 0 ≤ (y14_0_7) ∧ (y14_0_7) ≤ a3 from q_2892 h3 j14_7 pz24_1 pz24_2))
        · refine Ew_of (pcₚ := 32) (fun _ => x_aload_n rfl l14_0) ?_
          refine Ew_of (pcₚ := 33) (fun _ => x_iconst rfl) ?_
          refine Ew_of (pcₚ := 34) (fun _ => x_iload_n rfl l14_2) ?_
          refine v_inv H (o := 0) rfl rfl rfl rfl rfl rfl (by rfl) (C203 (D := puc 0 D) (N := puc 0 N) (HW_subc H oz_D4cls_7 oz_D4cls_10) (u0_8) (((hS_14 0 8 rfl).trans (eu0_8))) (show inr (1) from q_23) (show inr (a2) from h1) (fun z26 σ26 F26ₚ A26ₚ Hₚ Oₚ hS26 hA26 y26_0_8 ey26_0_8 pz26_0 pz26_1 pz26_2 => ⟨rfl, ?_⟩))
          refine v_backc (c := c) (s := s) H oz_D4cls_7 oz_D4cls_10 Hₚ Oₚ (fun F26 A26 H Oₚ eF26 eA26 => ?_)
          have O := OUT_trans O Oₚ
          -- Tags.fail
          have cF26 : SF oz_D4clsl_2 F F26 := SF_trans (cF_14) (SF_gluc (ι := oz_D4clsl_4) oz_D4cls_10 hS26 eF26 (by decide +kernel)) (any_sub (lₚ := [(0, 8)]) (by decide +kernel))
          have mF26 := SFm_of cF26 oz_D4cls_8
          have cA26 : SA oz_D4clsl_3 A A26 := SA_trans (cA_14) (SA_gluc (ι := oz_D4clsl_4) oz_D4cls_10 hA26 eA26 (by decide +kernel)) (any_subA (lₚ := []) (by decide +kernel))
          have mA26 := SAm_of cA26 oz_D4cls_9
          have r27 : (-2147483648 : Int) ≤ y26_0_8 ∧ y26_0_8 ≤ 2147483647 := rngE (show (-2147483648 : Int) ≤ F26 0 8 ∧ F26 0 8 ≤ 2147483647 from H.krg 0 8 (ltn len_V207_oz_D4cls rfl)) (show F26 0 8 = y26_0_8 from ((eF26 0 8).trans ey26_0_8))
          exact w_ireturn rfl (k (z26) _ _ _ H O (cF26) (cA26) (y14_0_7) ((((show F26 0 7 = F_14 0 7 from (eF26 0 7).trans (hS26 0 7 rfl))).trans (ey14_0_7))) (y26_0_8) (((eF26 0 8).trans ey26_0_8)) (show inr (z26) from pz26_0) (show 0 ≤ (z26) ∧ (z26) ≤ 3 from q_2799 pz26_1) (show (z26) = 0 → a1 ≤ (y26_0_8) ∧ (y26_0_8) ≤ a2 ∧ 0 ≤ (y14_0_7) ∧ (y14_0_7) ≤ a3 from q_2893 h3 j14_7 pz26_1 pz26_2))
abbrev V163_thisa : vV := [(0, 7, [(4, 0), (0, 0), (1, 0), (0, 0), (0, 0)]), (1, 0, [])]
theorem len_V163_thisa_oz_D4cls : (V163_thisa).length = 2 := by decide +kernel
theorem oz_D4cls_12 : vsub V163_thisa V157 [0, 1] = true := by decide +kernel
theorem oz_D4cls_13 : vmov V163_thisa [0, 1] [1] = true := by decide +kernel
def oz_D4clsl_5 : List (Nat × Nat) := [(0, 0), (0, 1), (0, 2)]
theorem oz_D4cls_14 : (oz_D4clsl_5).all (fun p => !tbz 7 (Nat.add (Nat.mul 32 p.1) p.2)) = true := by decide +kernel
def oz_D4clsl_6 : List Nat := [1]
theorem oz_D4cls_15 : (oz_D4clsl_6).all (fun p => !tbz 2 p) = true := by decide +kernel
def oz_D4clsl_7 : List Nat := [0, 1]
theorem oz_D4cls_16 : okc oz_D4clsl_7 512 = true := by decide +kernel
/-- Row.copyBack: this, this.bytes -/
theorem C163_thisa {σE : rS} {D N : Nat → Nat} {F : hF} {A : hA} {d c s : Nat} {Q : wQ} (H : HW V163_thisa σE D N F A) {a1 a2 a3 : Int} (pf1 : F 0 0 = (D 1 : Int)) (n1 : Int) (en1 : (N 1 : Int) = n1) (u0_1 : Int) (eu0_1 : F 0 1 = u0_1) (h0 : inr (a1)) (h1 : inr (a2)) (h2 : inr (a3)) (h3 : 0 ≤ (u0_1) ∧ (u0_1) ≤ (n1) ∧ (n1) ≤ 65536) (h4 : 0 ≤ (u0_1) ∧ (u0_1) ≤ (n1) ∧ (n1) ≤ 65536) (h5 : 0 ≤ (a3) ∧ (a3) ≤ (u0_1)) (h6 : (a2) < 0 ∨ 1 ≤ (a1) ∧ ((a1) ≤ (u0_1) - (a3) ∨ (a1) - ((u0_1) - (a3)) ≤ (u0_1))) (k : ∀ (σ : rS) (Dₚ Nₚ : Nat → Nat) (Fₚ : hF) (Aₚ : hA) (cₚ sₚ : Nat), HW V163_thisa σ Dₚ Nₚ Fₚ Aₚ → OUT (V163_thisa).length D N σE c s Dₚ Nₚ σ cₚ sₚ → SD [1] D Dₚ → SD [1] N Nₚ → SF [(0, 0), (0, 1), (0, 2)] F Fₚ → SA [1] A Aₚ → Fₚ 0 0 = (Dₚ 1 : Int) → ∀ m1 : Int, (Nₚ 1 : Int) = m1 → ∀ y0_1 : Int, Fₚ 0 1 = y0_1 → (0 ≤ (y0_1) ∧ (y0_1) ≤ (m1) ∧ (m1) ≤ 65536) → ((y0_1) = (u0_1) + (a2) ∧ 0 ≤ (a2) ∨ (y0_1) = (u0_1) ∧ ((a2) < 0 ∨ 65536 < (u0_1) + (a2))) → Q none σ cₚ sₚ) : Ew 163 (d + 2) 0 (rargs 0 [.ref (D 0), I a1, I a2, I a3, .ref (D 0)]) [] σE c s Q := by
  have O := OUT_refl (n := (V163_thisa).length) (D := D) (N := N) (σ := σE) (c := c) (s := s)
  have HE := H
  have r1 : (-2147483648 : Int) ≤ u0_1 ∧ u0_1 ≤ 2147483647 := rngE (show (-2147483648 : Int) ≤ F 0 1 ∧ F 0 1 ≤ 2147483647 from H.krg 0 1 (ltn len_V163_thisa_oz_D4cls rfl)) (show F 0 1 = u0_1 from (eu0_1))
  have r2 : (0 : Int) ≤ n1 ∧ n1 ≤ 1000000 := nleE (H.nle 1 (ltn len_V163_thisa_oz_D4cls rfl)) (show (N 1 : Int) = n1 from en1)
  refine Ew_of (pcₚ := 1) (fun _ => x_aload_n rfl rfl) ?_
  refine Ew_of (pcₚ := 2) (fun _ => x_iload_n rfl rfl) ?_
  refine v_inv H (o := 0) rfl rfl rfl rfl rfl rfl (by rfl) (C157 (D := puc 512 D) (N := puc 512 N) (HW_subc H oz_D4cls_12 oz_D4cls_16) (pf1) (n1) (en1) (u0_1) ((eu0_1)) (A 1) (rfl) (show inr (a2) from h1) (show 0 ≤ (u0_1) ∧ (u0_1) ≤ (n1) ∧ (n1) ≤ 65536 from h4) (fun z3 σ3 D3ₚ N3ₚ F3ₚ A3ₚ c3 s3 Hₚ Oₚ hD3 hN3 hS3 hA3 pm3_1 m3_1 em3_1 w3_1 ew3_1 pz3_0 pz3_1 pz3_2 pz3_3 pz3_4 => ⟨rretB rfl pz3_0, ?_⟩))
  refine v_backMc (c := c) (s := s) H oz_D4cls_12 oz_D4cls_16 Hₚ Oₚ hD3 oz_D4cls_13 (fun D3 N3 F3 A3 H Oₚ eD3 eN3 eF3 eA3 => ?_)
  have O := OUT_trans O Oₚ
  -- Row.reserve
  have cF3 : SF oz_D4clsl_5 F F3 := SF_trans (SF_refl) (SF_gluc (ι := oz_D4clsl_7) oz_D4cls_16 hS3 eF3 (by decide +kernel)) (any_sub (lₚ := [(0, 0)]) (by decide +kernel))
  have mF3 := SFm_of cF3 oz_D4cls_14
  have cA3 : SA oz_D4clsl_6 A A3 := SA_trans (SA_refl) (SA_gluc (ι := oz_D4clsl_7) oz_D4cls_16 hA3 eA3 (by decide +kernel)) (any_subA (lₚ := [1]) (by decide +kernel))
  have mA3 := SAm_of cA3 oz_D4cls_15
  have cD3 : SD oz_D4clsl_6 D D3 := SD_trans (SD_refl) (SD_gluc (ι := oz_D4clsl_7) oz_D4cls_16 hD3 eD3 (by decide +kernel)) (any_subA (lₚ := [1]) (by decide +kernel))
  have mD3 := SDm_of cD3 oz_D4cls_15
  have cN3 : SD oz_D4clsl_6 N N3 := SD_trans (SD_refl) (SD_gluc (ι := oz_D4clsl_7) oz_D4cls_16 hN3 eN3 (by decide +kernel)) (any_subA (lₚ := [1]) (by decide +kernel))
  have mN3 := SDm_of cN3 oz_D4cls_15
  have pf3_0_0 : F3 0 0 = (D3 1 : Int) := (eF3 0 0).trans (pm3_1.trans (congrArg (fun q : Nat => (q : Int)) (eD3 1).symm))
  have r4 : (0 : Int) ≤ m3_1 ∧ m3_1 ≤ 1000000 := nleE (H.nle 1 (ltn len_V163_thisa_oz_D4cls rfl)) (show (N3 1 : Int) = m3_1 from (congrArg (fun q : Nat => (q : Int)) (eN3 1)).trans em3_1)
  refine w_ifne (t := 14) rfl rfl (show inr (z3) from q_15 pz3_0) (fun b5 => ?_) (fun b5 => ?_)
  · refine Ew_of (pcₚ := 15) (fun _ => x_iconst rfl) ?_
    refine Ew_of (pcₚ := 17) (fun _ => x_istore rfl) ?_
    suffices hl17 : ∀ (m : Nat), ∀ (ls : rO) (σ : rS) (F_17 : hF) (A_17 : hA) (x17_5 : Int), rlook ls 0 = some (.ref (D3 0)) → rlook ls 1 = some (I (a1)) → rlook ls 2 = some (I (a2)) → rlook ls 3 = some (I (a3)) → rlook ls 4 = some (.ref (D3 0)) → rlook ls 5 = some (I (x17_5)) → HW V163_thisa σ D3 N3 F_17 A_17 → OUT (V163_thisa).length D N σE c s D3 N3 σ (c + c3) (s + s3) → SF [(0, 1)] F3 F_17 → SA [1] A3 A_17 → ∀ y17_0_1 : Int, F_17 0 1 = y17_0_1 → (inr (x17_5)) → ((0) ≤ (x17_5)) → ((x17_5) ≤ (0) ∨ (x17_5) ≤ ((a2))) → ((y17_0_1) = (u0_1) + (x17_5)) → ((u0_1) + (a2) ≤ (m3_1) ∧ (m3_1) ≤ 65536) → (((a2)) - (x17_5)).toNat = m → Ew 163 (d + 2) 17 ls [] σ (c + c3) (s + s3) Q from
      hl17 _ _ _ _ _ (0) ((rk_o (rfl) rfl rfl).trans (congrArg (fun q : Nat => some (Value.ref q)) (mD3 0 rfl).symm)) (rk_o (rfl) rfl rfl) (rk_o (rfl) rfl rfl) (rk_o (rfl) rfl rfl) ((rk_o (rfl) rfl rfl).trans (congrArg (fun q : Nat => some (Value.ref q)) (mD3 0 rfl).symm)) (rk_s) H O (SF_refl) (SA_refl)   (u0_1) ((((show F3 0 1 = F 0 1 from (eF3 0 1).trans (hS3 0 1 rfl))).trans (eu0_1)))  (show inr (0) from q_20) (show (0) ≤ (0) from q_25) (show (0) ≤ (0) ∨ (0) ≤ ((a2)) from q_24) (show (u0_1) = (u0_1) + (0) from q_110) (show (u0_1) + (a2) ≤ (m3_1) ∧ (m3_1) ≤ 65536 by omega) rfl
    as_aux_lemma =>
    intro m
    induction m using Nat.strongRecOn with
    | _ m ih17 =>
      intro ls σ F_17 A_17 x17_5 l17_0 l17_1 l17_2 l17_3 l17_4 l17_5 H O hS_17 hA_17   y17_0_1 ey17_0_1  j17_0 j17_1 j17_2 j17_3 j17_4 hm17
      have cF_17 : SF oz_D4clsl_5 F F_17 := SF_trans (cF3) hS_17 (any_sub (by decide +kernel))
      have mF_17 := SFm_of cF_17 oz_D4cls_14
      have cA_17 : SA oz_D4clsl_6 A A_17 := SA_trans (cA3) hA_17 (any_subA (by decide +kernel))
      have mA_17 := SAm_of cA_17 oz_D4cls_15
      have r6 : (-2147483648 : Int) ≤ y17_0_1 ∧ y17_0_1 ≤ 2147483647 := rngE (show (-2147483648 : Int) ≤ F_17 0 1 ∧ F_17 0 1 ≤ 2147483647 from H.krg 0 1 (ltn len_V163_thisa_oz_D4cls rfl)) (show F_17 0 1 = y17_0_1 from (ey17_0_1))
      refine Ew_of (pcₚ := 19) (fun _ => x_iload rfl l17_5) ?_
      refine Ew_of (pcₚ := 20) (fun _ => x_iload_n rfl l17_2) ?_
      refine w_icmpge (t := 85) rfl rfl (show inr (x17_5) from j17_0) (show inr (a2) from h1) (fun b7 => ?_) (fun b7 => ?_)
      · exact w_ret rfl (k _ _ _ _ _ _ _ H O (cD3) (cN3) (cF_17) (cA_17) (((hS_17 0 0 rfl)).trans (pf3_0_0)) (m3_1) ((congrArg (fun q : Nat => (q : Int)) (eN3 1)).trans em3_1) (y17_0_1) ((ey17_0_1)) (show 0 ≤ (y17_0_1) ∧ (y17_0_1) ≤ (m3_1) ∧ (m3_1) ≤ 65536 by omega) (show (y17_0_1) = (u0_1) + a2 ∧ 0 ≤ a2 ∨ (y17_0_1) = (u0_1) ∧ (a2 < 0 ∨ 65536 < (u0_1) + a2) by omega))
      · refine Ew_of (pcₚ := 24) (fun _ => x_aload_n rfl l17_0) ?_
        refine v_g H (o := 0) (v := I (y17_0_1)) rfl rfl rfl rfl rfl (congrArg (fun z : Int => I z) ((ey17_0_1) : F_17 0 1 = y17_0_1)) ?_
        refine Ew_of (pcₚ := 28) (fun _ => x_iload_n rfl l17_1) ?_
        refine w_isub rfl ?_
        refine Ew_of (pcₚ := 31) (fun _ => x_istore rfl) ?_
        refine Ew_of (pcₚ := 32) (fun _ => x_aload_n rfl (rk_o (l17_0) rfl rfl)) ?_
        refine v_g H (o := 0) (v := .ref (D3 1)) rfl rfl rfl rfl rfl (vrf (((hS_17 0 0 rfl)).trans (pf3_0_0))) ?_
        refine Ew_of (pcₚ := 36) (fun _ => x_aload_n rfl (rk_o (l17_0) rfl rfl)) ?_
        refine Ew_of (pcₚ := 37) (fun _ => x_dup rfl rfl) ?_
        refine v_g H (o := 0) (v := I (y17_0_1)) rfl rfl rfl rfl rfl (congrArg (fun z : Int => I z) ((ey17_0_1) : F_17 0 1 = y17_0_1)) ?_
        refine Ew_of (pcₚ := 41) (fun _ => x_dup_x1 rfl rfl) ?_
        refine Ew_of (pcₚ := 42) (fun _ => x_iconst rfl) ?_
        refine w_iadd rfl ?_
        refine v_p H (o := 0) (z := (y17_0_1 + 1)) (v := I ((y17_0_1 + 1))) rfl rfl rfl rfl rfl rfl rfl rfl (show (-2147483648 : Int) ≤ (y17_0_1 + 1) ∧ (y17_0_1 + 1) ≤ 2147483647 from q_2530 b7 j17_3 j17_4 r6) (fun σ H Oₚ => ?_)
        have O := OUT_trans O Oₚ
        have cFu8 : SF oz_D4clsl_5 F (updF F_17 0 1 ((y17_0_1 + 1))) := SF_upd (cF_17) rfl
        have mFu8 := SFm_of cFu8 oz_D4cls_14
        refine Ew_of (pcₚ := 48) (fun _ => x_iload rfl rk_s) ?_
        refine Ew_of (pcₚ := 49) (fun _ => x_iload_n rfl (rk_o (l17_3) rfl rfl)) ?_
        refine w_icmplt (t := 62) rfl rfl (show inr ((y17_0_1 - a1)) from q_2894 b7 h0 h6 j17_1 j17_3 j17_4 pz3_1 r6) (show inr (a3) from h2) (fun b9 => ?_) (fun b9 => ?_)
        · refine Ew_of (pcₚ := 64) (fun _ => x_aload rfl (rk_o (l17_4) rfl rfl)) ?_
          refine v_g H (o := 0) (v := .ref (D3 1)) rfl rfl rfl rfl rfl (vrf (((hS_17 0 0 rfl)).trans (pf3_0_0))) ?_
          refine Ew_of (pcₚ := 69) (fun _ => x_aload rfl (rk_o (l17_4) rfl rfl)) ?_
          refine v_g H (o := 0) (v := I ((y17_0_1 + 1))) rfl rfl rfl rfl rfl (congrArg (fun z : Int => I z) (rfl : (updF F_17 0 1 ((y17_0_1 + 1))) 0 1 = (y17_0_1 + 1))) ?_
          refine Ew_of (pcₚ := 74) (fun _ => x_iload rfl rk_s) ?_
          refine w_iadd rfl ?_
          refine Ew_of (pcₚ := 76) (fun _ => x_iload_n rfl (rk_o (l17_3) rfl rfl)) ?_
          refine w_isub rfl ?_
          refine v_lB H (o := 1) rfl rfl rfl rfl (n := m3_1) ((congrArg (fun q : Nat => (q : Int)) (eN3 1)).trans em3_1) (show 0 ≤ (((y17_0_1 + 1) + (y17_0_1 - a1)) - a3) ∧ (((y17_0_1 + 1) + (y17_0_1 - a1)) - a3) < m3_1 from q_2895 b7 b9 h0 h5 h6 j17_1 j17_3 j17_4 pz3_1) (fun v10 ev10 qv10 => ?_)
          have ev10 : (A_17 1) ((((y17_0_1 + 1) + (y17_0_1 - a1)) - a3)) = v10 := (congrFun (rfl : A_17 1 = A_17 1) ((((y17_0_1 + 1) + (y17_0_1 - a1)) - a3))).symm.trans ev10
          refine v_sB H (o := 1) rfl rfl rfl rfl (n := m3_1) ((congrArg (fun q : Nat => (q : Int)) (eN3 1)).trans em3_1) (show 0 ≤ y17_0_1 ∧ y17_0_1 < m3_1 from q_2531 b7 j17_1 j17_3 j17_4 pz3_1) (fun z11 σ qz11 H Oₚ => ?_)
          have O := OUT_trans O Oₚ
          have cAu12 : SA oz_D4clsl_6 A (updA A_17 1 (y17_0_1) (z11)) := SA_upd (cA_17) rfl
          have mAu12 := SAm_of cAu12 oz_D4cls_15
          refine Ew_of (pcₚ := 82) (fun _ => x_iinc (len := 3) rfl (rk_o (l17_5) rfl rfl)) ?_
          refine Ew_of (pcₚ := 17) (fun _ => x_goto rfl rfl) ?_
          exact ih17 _ (msE hm17 q_31 (q_34 b7)) _ _ _ _ ((x17_5 + 1)) (rk_o (rk_o (l17_0) rfl rfl) rfl rfl) (rk_o (rk_o (l17_1) rfl rfl) rfl rfl) (rk_o (rk_o (l17_2) rfl rfl) rfl rfl) (rk_o (rk_o (l17_3) rfl rfl) rfl rfl) (rk_o (rk_o (l17_4) rfl rfl) rfl rfl) (rk_s) H O (SF_upd (hS_17) rfl) (SA_upd (hA_17) rfl)   ((y17_0_1 + 1)) (rfl)  (show inr ((x17_5 + 1)) from q_2532 b7 j17_1 j17_4 pz3_1) (show (0) ≤ ((x17_5 + 1)) from q_29 j17_1) (show ((x17_5 + 1)) ≤ (0) ∨ ((x17_5 + 1)) ≤ ((a2)) from q_33 b7) (show ((y17_0_1 + 1)) = (u0_1) + ((x17_5 + 1)) from q_302 j17_3) (show (u0_1) + (a2) ≤ (m3_1) ∧ (m3_1) ≤ 65536 from j17_4) rfl
        · refine Ew_of (pcₚ := 53) (fun _ => x_aload_n rfl (rk_o (l17_0) rfl rfl)) ?_
          refine v_g H (o := 0) (v := .ref (D3 1)) rfl rfl rfl rfl rfl (vrf (((hS_17 0 0 rfl)).trans (pf3_0_0))) ?_
          refine Ew_of (pcₚ := 58) (fun _ => x_iload rfl rk_s) ?_
          refine v_lB H (o := 1) rfl rfl rfl rfl (n := m3_1) ((congrArg (fun q : Nat => (q : Int)) (eN3 1)).trans em3_1) (show 0 ≤ (y17_0_1 - a1) ∧ (y17_0_1 - a1) < m3_1 by omega) (fun v13 ev13 qv13 => ?_)
          have ev13 : (A_17 1) ((y17_0_1 - a1)) = v13 := (congrFun (rfl : A_17 1 = A_17 1) ((y17_0_1 - a1))).symm.trans ev13
          refine Ew_of (pcₚ := 78) (fun _ => x_goto rfl rfl) ?_
          refine v_sB H (o := 1) rfl rfl rfl rfl (n := m3_1) ((congrArg (fun q : Nat => (q : Int)) (eN3 1)).trans em3_1) (show 0 ≤ y17_0_1 ∧ y17_0_1 < m3_1 from q_2531 b7 j17_1 j17_3 j17_4 pz3_1) (fun z14 σ qz14 H Oₚ => ?_)
          have O := OUT_trans O Oₚ
          have cAu15 : SA oz_D4clsl_6 A (updA A_17 1 (y17_0_1) (z14)) := SA_upd (cA_17) rfl
          have mAu15 := SAm_of cAu15 oz_D4cls_15
          refine Ew_of (pcₚ := 82) (fun _ => x_iinc (len := 3) rfl (rk_o (l17_5) rfl rfl)) ?_
          refine Ew_of (pcₚ := 17) (fun _ => x_goto rfl rfl) ?_
          exact ih17 _ (msE hm17 q_31 (q_34 b7)) _ _ _ _ ((x17_5 + 1)) (rk_o (rk_o (l17_0) rfl rfl) rfl rfl) (rk_o (rk_o (l17_1) rfl rfl) rfl rfl) (rk_o (rk_o (l17_2) rfl rfl) rfl rfl) (rk_o (rk_o (l17_3) rfl rfl) rfl rfl) (rk_o (rk_o (l17_4) rfl rfl) rfl rfl) (rk_s) H O (SF_upd (hS_17) rfl) (SA_upd (hA_17) rfl)   ((y17_0_1 + 1)) (rfl)  (show inr ((x17_5 + 1)) from q_2532 b7 j17_1 j17_4 pz3_1) (show (0) ≤ ((x17_5 + 1)) from q_29 j17_1) (show ((x17_5 + 1)) ≤ (0) ∨ ((x17_5 + 1)) ≤ ((a2)) from q_33 b7) (show ((y17_0_1 + 1)) = (u0_1) + ((x17_5 + 1)) from q_302 j17_3) (show (u0_1) + (a2) ≤ (m3_1) ∧ (m3_1) ≤ 65536 from j17_4) rfl
  · refine Ew_of (pcₚ := 9) (fun _ => x_aload_n rfl rfl) ?_
    refine Ew_of (pcₚ := 10) (fun _ => x_iconst rfl) ?_
    refine Ew_stk (congrArg (fun qz : Nat => ([I (1), .ref qz] : List Value)) (show D3 0 = D 0 from mD3 0 rfl).symm) ?_
    refine v_p H (o := 0) (z := 1) (v := I (1)) rfl rfl rfl rfl rfl rfl rfl (rfit_b (by omega)) (show (0 : Int) ≤ 1 ∧ 1 ≤ 1 from q_2146) (fun σ H Oₚ => ?_)
    have O := OUT_trans O Oₚ
    have cFu16 : SF oz_D4clsl_5 F (updF F3 0 2 (1)) := SF_upd (cF3) rfl
    have mFu16 := SFm_of cFu16 oz_D4cls_14
    exact w_ret rfl (k _ _ _ _ _ _ _ H O (cD3) (cN3) (cFu16) (cA3) (pf3_0_0) (m3_1) ((congrArg (fun q : Nat => (q : Int)) (eN3 1)).trans em3_1) (u0_1) ((((show F3 0 1 = F 0 1 from (eF3 0 1).trans (hS3 0 1 rfl))).trans (eu0_1))) (show 0 ≤ (u0_1) ∧ (u0_1) ≤ (m3_1) ∧ (m3_1) ≤ 65536 from pz3_1) (show (u0_1) = (u0_1) + a2 ∧ 0 ≤ a2 ∨ (u0_1) = (u0_1) ∧ (a2 < 0 ∨ 65536 < (u0_1) + a2) by omega))
abbrev V206 : vV := [(0, 10, [(4, 0), (4, 0), (4, 0), (4, 0), (0, 0), (4, 0), (0, 0), (2, 0), (0, 0)]), (1, 0, []), (0, 7, [(4, 0), (0, 0), (1, 0), (0, 0), (0, 0)]), (1, 0, [])]
theorem len_V206_oz_D4cls : (V206).length = 4 := by decide +kernel
theorem oz_D4cls_18 : vsub V206 V207 [0, 1] = true := by decide +kernel
theorem oz_D4cls_19 : vsub V206 V203 [0] = true := by decide +kernel
theorem oz_D4cls_20 : vsub V206 V208 [] = true := by decide +kernel
theorem oz_D4cls_21 : vsub V206 V42_Br [1] = true := by decide +kernel
theorem oz_D4cls_22 : vsub V206 V209 [] = true := by decide +kernel
theorem oz_D4cls_23 : vsub V206 V161_Br [2, 1, 3] = true := by decide +kernel
theorem oz_D4cls_24 : vmov V206 [2, 1, 3] [2] = true := by decide +kernel
theorem oz_D4cls_25 : vsub V206 V163_thisa [2, 3] = true := by decide +kernel
theorem oz_D4cls_26 : vmov V206 [2, 3] [1] = true := by decide +kernel
def oz_D4clsl_8 : List (Nat × Nat) := [(0, 7), (0, 8), (2, 0), (2, 1), (2, 2)]
theorem oz_D4cls_27 : (oz_D4clsl_8).all (fun p => !tbz 129127208515966861696 (Nat.add (Nat.mul 32 p.1) p.2)) = true := by decide +kernel
def oz_D4clsl_9 : List Nat := [3]
theorem oz_D4cls_28 : (oz_D4clsl_9).all (fun p => !tbz 8 p) = true := by decide +kernel
theorem oz_D4cls_29 : okc oz_D4clsl_3 0 = true := by decide +kernel
theorem oz_D4cls_30 : okc oz_D4clsl_6 1 = true := by decide +kernel
def oz_D4clsl_10 : List Nat := [2, 1, 3]
theorem oz_D4cls_31 : okc oz_D4clsl_10 786946 = true := by decide +kernel
def oz_D4clsl_11 : List Nat := [2, 3]
theorem oz_D4cls_32 : okc oz_D4clsl_11 1538 = true := by decide +kernel
/-- Tags.unpackBlock: this, this.in, this.result, this.result.bytes -/
theorem C206 {σE : rS} {D N : Nat → Nat} {F : hF} {A : hA} {d c s : Nat} {Q : wQ} (H : HW V206 σE D N F A) {a1 a2 a3 : Int} (pf1 : F 0 3 = (D 1 : Int)) (pf2 : F 0 5 = (D 2 : Int)) (pf3 : F 2 0 = (D 3 : Int)) (n1 : Int) (en1 : (N 1 : Int) = n1) (n3 : Int) (en3 : (N 3 : Int) = n3) (u2_1 : Int) (eu2_1 : F 2 1 = u2_1) (h0 : inr (a1)) (h1 : inr (a2)) (h2 : inr (a3)) (h3 : 0 ≤ (a1) ∧ (a1) ≤ (a2) ∧ (a2) ≤ (n1) ∧ (n1) ≤ 65536) (h4 : 0 ≤ (u2_1) ∧ (u2_1) ≤ (n3) ∧ (n3) ≤ 65536) (h5 : (a3) ≤ 65536) (k : ∀ (z : Int) (σ : rS) (Dₚ Nₚ : Nat → Nat) (Fₚ : hF) (Aₚ : hA) (cₚ sₚ : Nat), HW V206 σ Dₚ Nₚ Fₚ Aₚ → OUT (V206).length D N σE c s Dₚ Nₚ σ cₚ sₚ → SD [3] D Dₚ → SD [3] N Nₚ → SF [(0, 7), (0, 8), (2, 0), (2, 1), (2, 2)] F Fₚ → SA [3] A Aₚ → Fₚ 2 0 = (Dₚ 3 : Int) → ∀ m3 : Int, (Nₚ 3 : Int) = m3 → ∀ y2_1 : Int, Fₚ 2 1 = y2_1 → (inr (z)) → (0 ≤ (z) ∧ (z) ≤ 6) → (0 ≤ (y2_1) ∧ (y2_1) ≤ (m3) ∧ (m3) ≤ 65536) → ((u2_1) ≤ (y2_1)) → ((y2_1) ≤ (u2_1) + (a3) ∨ (y2_1) = (u2_1)) → Q (some (I z)) σ cₚ sₚ) : Ew 206 (d + 3) 0 (rargs 0 [.ref (D 0), I a1, I a2, I a3]) [] σE c s Q := by
  have O := OUT_refl (n := (V206).length) (D := D) (N := N) (σ := σE) (c := c) (s := s)
  have HE := H
  have r1 : (-2147483648 : Int) ≤ u2_1 ∧ u2_1 ≤ 2147483647 := rngE (show (-2147483648 : Int) ≤ F 2 1 ∧ F 2 1 ≤ 2147483647 from H.krg 2 1 (ltn len_V206_oz_D4cls rfl)) (show F 2 1 = u2_1 from (eu2_1))
  have r2 : (0 : Int) ≤ n1 ∧ n1 ≤ 1000000 := nleE (H.nle 1 (ltn len_V206_oz_D4cls rfl)) (show (N 1 : Int) = n1 from en1)
  have r3 : (0 : Int) ≤ n3 ∧ n3 ≤ 1000000 := nleE (H.nle 3 (ltn len_V206_oz_D4cls rfl)) (show (N 3 : Int) = n3 from en3)
  refine Ew_of (pcₚ := 1) (fun _ => x_aload_n rfl rfl) ?_
  refine Ew_of (pcₚ := 2) (fun _ => x_iload_n rfl rfl) ?_
  refine Ew_of (pcₚ := 3) (fun _ => x_iload_n rfl rfl) ?_
  refine Ew_of (pcₚ := 4) (fun _ => x_iload_n rfl rfl) ?_
  have r4 : (-9223372036854775808 : Int) ≤ F 0 7 ∧ F 0 7 ≤ 9223372036854775807 := H.krg 0 7 (ltn len_V206_oz_D4cls rfl)
  have r5 : (-2147483648 : Int) ≤ F 0 8 ∧ F 0 8 ≤ 2147483647 := H.krg 0 8 (ltn len_V206_oz_D4cls rfl)
  refine v_inv H (o := 0) rfl rfl rfl rfl rfl rfl (by rfl) (C207 (D := puc 512 D) (N := puc 512 N) (HW_subc H oz_D4cls_18 oz_D4cls_16) (pf1) (n1) (en1) (F 0 7) (rfl) (F 0 8) (rfl) (show inr (a1) from h0) (show inr (a2) from h1) (show inr (a3) from h2) (show 0 ≤ (a1) ∧ (a1) ≤ (a2) ∧ (a2) ≤ (n1) ∧ (n1) ≤ 65536 from h3) (fun z6 σ6 F6ₚ A6ₚ Hₚ Oₚ hS6 hA6 y6_0_7 ey6_0_7 y6_0_8 ey6_0_8 pz6_0 pz6_1 pz6_2 => ⟨rfl, ?_⟩))
  refine v_backc (c := c) (s := s) H oz_D4cls_18 oz_D4cls_16 Hₚ Oₚ (fun F6 A6 H Oₚ eF6 eA6 => ?_)
  have O := OUT_trans O Oₚ
  -- Tags.unpackLength
  have cF6 : SF oz_D4clsl_8 F F6 := SF_trans (SF_refl) (SF_gluc (ι := oz_D4clsl_7) oz_D4cls_16 hS6 eF6 (by decide +kernel)) (any_sub (lₚ := [(0, 7), (0, 8)]) (by decide +kernel))
  have mF6 := SFm_of cF6 oz_D4cls_27
  have cA6 : SA oz_D4clsl_9 A A6 := SA_trans (SA_refl) (SA_gluc (ι := oz_D4clsl_7) oz_D4cls_16 hA6 eA6 (by decide +kernel)) (any_subA (lₚ := []) (by decide +kernel))
  have mA6 := SAm_of cA6 oz_D4cls_28
  have r7 : (-9223372036854775808 : Int) ≤ y6_0_7 ∧ y6_0_7 ≤ 9223372036854775807 := rngE (show (-9223372036854775808 : Int) ≤ F6 0 7 ∧ F6 0 7 ≤ 9223372036854775807 from H.krg 0 7 (ltn len_V206_oz_D4cls rfl)) (show F6 0 7 = y6_0_7 from ((eF6 0 7).trans ey6_0_7))
  have r8 : (-2147483648 : Int) ≤ y6_0_8 ∧ y6_0_8 ≤ 2147483647 := rngE (show (-2147483648 : Int) ≤ F6 0 8 ∧ F6 0 8 ≤ 2147483647 from H.krg 0 8 (ltn len_V206_oz_D4cls rfl)) (show F6 0 8 = y6_0_8 from ((eF6 0 8).trans ey6_0_8))
  refine Ew_of (pcₚ := 9) (fun _ => x_istore rfl) ?_
  refine Ew_of (pcₚ := 11) (fun _ => x_iload rfl rk_s) ?_
  refine w_ifeq (t := 17) rfl rfl (show inr (z6) from pz6_0) (fun b9 => ?_) (fun b9 => ?_)
  · refine Ew_of (pcₚ := 18) (fun _ => x_aload_n rfl (rk_o (rfl) rfl rfl)) ?_
    refine v_g H (o := 0) (v := .ref (D 2)) rfl rfl rfl rfl rfl (vrf ((mF6 0 5 rfl).trans (pf2))) ?_
    refine v_g H (o := 2) (v := I (u2_1)) rfl rfl rfl rfl rfl (congrArg (fun z : Int => I z) ((((show F6 2 1 = F 2 1 from (eF6 2 1))).trans (eu2_1)) : F6 2 1 = u2_1)) ?_
    refine Ew_of (pcₚ := 26) (fun _ => x_istore rfl) ?_
    refine Ew_of (pcₚ := 27) (fun _ => x_aload_n rfl (rk_o (rk_o (rfl) rfl rfl) rfl rfl)) ?_
    refine v_g H (o := 0) (v := I (y6_0_8)) rfl rfl rfl rfl rfl (congrArg (fun z : Int => I z) (((eF6 0 8).trans ey6_0_8) : F6 0 8 = y6_0_8)) ?_
    refine Ew_of (pcₚ := 32) (fun _ => x_istore rfl) ?_
    refine Ew_of (pcₚ := 33) (fun _ => x_iload_n rfl (rk_o (rk_o (rk_o (rfl) rfl rfl) rfl rfl) rfl rfl)) ?_
    refine Ew_of (pcₚ := 35) (fun _ => x_istore rfl) ?_
    suffices hl35 : ∀ (m : Nat), ∀ (ls : rO) (σ : rS) (D_35 N_35 : Nat → Nat) (c_35 s_35 : Nat) (F_35 : hF) (A_35 : hA) (x35_6 : Int) (x35_7 : Int), rlook ls 0 = some (.ref (D_35 0)) → rlook ls 2 = some (I (a2)) → rlook ls 5 = some (I (u2_1)) → rlook ls 6 = some (I (x35_6)) → rlook ls 7 = some (I (x35_7)) → HW V206 σ D_35 N_35 F_35 A_35 → OUT (V206).length D N σE c s D_35 N_35 σ c_35 s_35 → SD [3] D D_35 → SD [3] N N_35 → SF [(2, 0), (2, 1), (2, 2)] F6 F_35 → SA [3] A6 A_35 → F_35 2 0 = (D_35 3 : Int) → ∀ m35_3 : Int, (N_35 3 : Int) = m35_3 → ∀ y35_2_1 : Int, F_35 2 1 = y35_2_1 → (inr (x35_6)) → (inr (x35_7)) → ((a1) ≤ (x35_7)) → ((x35_7) ≤ (a1) ∨ (x35_7) ≤ ((a2))) → (0 ≤ (x35_6) ∧ (x35_6) ≤ (a2)) → (0 ≤ (y35_2_1) ∧ (y35_2_1) ≤ (m35_3) ∧ (m35_3) ≤ 65536) → ((u2_1) ≤ (y35_2_1) ∧ (u2_1) = (u2_1)) → ((y35_2_1) - (u2_1) ≤ (y6_0_7)) → (((a2)) - (x35_7)).toNat = m → Ew 206 (d + 3) 35 ls [] σ c_35 s_35 Q from
      hl35 _ _ _ _ _ _ _ _ _ (y6_0_8) (a1) (rk_o (rk_o (rk_o (rk_o (rfl) rfl rfl) rfl rfl) rfl rfl) rfl rfl) (rk_o (rk_o (rk_o (rk_o (rfl) rfl rfl) rfl rfl) rfl rfl) rfl rfl) (rk_o (rk_o (rk_s) rfl rfl) rfl rfl) (rk_o (rk_s) rfl rfl) (rk_s) H O (SD_refl) (SD_refl) (SF_refl) (SA_refl) ((((show F6 2 0 = F 2 0 from (eF6 2 0)))).trans (pf3)) (n3) (en3) (u2_1) ((((show F6 2 1 = F 2 1 from (eF6 2 1))).trans (eu2_1)))  (show inr (y6_0_8) from q_22 r8) (show inr (a1) from h0) (show (a1) ≤ (a1) from q_102) (show (a1) ≤ (a1) ∨ (a1) ≤ ((a2)) from q_101) (show 0 ≤ (y6_0_8) ∧ (y6_0_8) ≤ (a2) from q_2898 b9 h3 pz6_2) (show 0 ≤ (u2_1) ∧ (u2_1) ≤ (n3) ∧ (n3) ≤ 65536 from h4) (show (u2_1) ≤ (u2_1) ∧ (u2_1) = (u2_1) from q_2897) (show (u2_1) - (u2_1) ≤ (y6_0_7) from q_2896 b9 pz6_2) rfl
    as_aux_lemma =>
    intro m
    induction m using Nat.strongRecOn with
    | _ m ih35 =>
      intro ls σ D_35 N_35 c_35 s_35 F_35 A_35 x35_6 x35_7 l35_0 l35_2 l35_5 l35_6 l35_7 H O hD_35 hN_35 hS_35 hA_35 pm35_3 m35_3 em35_3 y35_2_1 ey35_2_1  j35_0 j35_1 j35_2 j35_3 j35_4 j35_5 j35_6 j35_7 hm35
      have cF_35 : SF oz_D4clsl_8 F F_35 := SF_trans (cF6) hS_35 (any_sub (by decide +kernel))
      have mF_35 := SFm_of cF_35 oz_D4cls_27
      have cA_35 : SA oz_D4clsl_9 A A_35 := SA_trans (cA6) hA_35 (any_subA (by decide +kernel))
      have mA_35 := SAm_of cA_35 oz_D4cls_28
      have cD_35 : SD oz_D4clsl_9 D D_35 := SD_trans (SD_refl) hD_35 (any_subA (by decide +kernel))
      have mD_35 := SDm_of cD_35 oz_D4cls_28
      have cN_35 : SD oz_D4clsl_9 N N_35 := SD_trans (SD_refl) hN_35 (any_subA (by decide +kernel))
      have mN_35 := SDm_of cN_35 oz_D4cls_28
      have r10 : (0 : Int) ≤ m35_3 ∧ m35_3 ≤ 1000000 := nleE (H.nle 3 (ltn len_V206_oz_D4cls rfl)) (show (N_35 3 : Int) = m35_3 from em35_3)
      have r11 : (-2147483648 : Int) ≤ y35_2_1 ∧ y35_2_1 ≤ 2147483647 := rngE (show (-2147483648 : Int) ≤ F_35 2 1 ∧ F_35 2 1 ≤ 2147483647 from H.krg 2 1 (ltn len_V206_oz_D4cls rfl)) (show F_35 2 1 = y35_2_1 from (ey35_2_1))
      refine Ew_of (pcₚ := 37) (fun _ => x_iload rfl l35_7) ?_
      refine Ew_of (pcₚ := 38) (fun _ => x_iload_n rfl l35_2) ?_
      have hc300 : ∀ (ls : rO) (σ : rS) (F_c300 : hF) (A_c300 : hA) , rlook ls 0 = some (.ref (D_35 0)) → rlook ls 2 = some (I (a2)) → rlook ls 5 = some (I (u2_1)) → HW V206 σ D_35 N_35 F_c300 A_c300 → OUT (V206).length D N σE c s D_35 N_35 σ c_35 s_35 → SF [] F_35 F_c300 → SA [] A_35 A_c300 → (((x35_7) ≥ (a2)) ∨ ((x35_7) < (a2) ∧ (x35_6) ≥ (a2))) → Ew 206 (d + 3) 300 ls [] σ c_35 s_35 Q := by
       as_aux_lemma =>
        intro  ls σ F_c300 A_c300  lc300_0 lc300_2 lc300_5 H O hS_c300 hA_c300     jc300_0
        have cF_c300 : SF oz_D4clsl_8 F F_c300 := SF_trans (cF_35) hS_c300 (any_sub (by decide +kernel))
        have mF_c300 := SFm_of cF_c300 oz_D4cls_27
        have cA_c300 : SA oz_D4clsl_9 A A_c300 := SA_trans (cA_35) hA_c300 (any_subA (by decide +kernel))
        have mA_c300 := SAm_of cA_c300 oz_D4cls_28
        refine Ew_of (pcₚ := 301) (fun _ => x_aload_n rfl lc300_0) ?_
        refine v_g H (o := 0) (v := .ref (D_35 2)) rfl rfl rfl rfl rfl (vrf ((mF_c300 0 5 rfl).trans ((pf2).trans (congrArg (fun q : Nat => (q : Int)) (mD_35 2 rfl).symm)))) ?_
        refine v_g H (o := 2) (v := I (y35_2_1)) rfl rfl rfl rfl rfl (congrArg (fun z : Int => I z) (((hS_c300 2 1 rfl).trans (ey35_2_1)) : F_c300 2 1 = y35_2_1)) ?_
        refine Ew_of (pcₚ := 309) (fun _ => x_iload rfl lc300_5) ?_
        refine w_isub rfl ?_
        refine w_i2l rfl (show inr ((y35_2_1 - u2_1)) from q_2899 h4 j35_5 j35_6) ?_
        refine Ew_of (pcₚ := 312) (fun _ => x_aload_n rfl lc300_0) ?_
        refine v_g H (o := 0) (v := J (y6_0_7)) rfl rfl rfl rfl rfl (congrArg (fun z : Int => J z) ((((hS_c300 0 7 rfl).trans (hS_35 0 7 rfl)).trans ((eF6 0 7).trans ey6_0_7)) : F_c300 0 7 = y6_0_7)) ?_
        refine w_lcmp rfl (show inrJ ((y35_2_1 - u2_1)) from q_2900 h4 j35_5 j35_6) (show inrJ (y6_0_7) by omega) (fun z12 gz12 gaz12 gbz12 => ?_)
        refine w_ifge (t := 329) rfl rfl (show inr (z12) from gz12) (fun b13 => ?_) (fun b13 => ?_)
        · refine Ew_of (pcₚ := 330) (fun _ => x_aload_n rfl lc300_0) ?_
          refine Ew_of (pcₚ := 331) (fun _ => x_iconst rfl) ?_
          refine Ew_of (pcₚ := 332) (fun _ => x_iload_n rfl lc300_2) ?_
          refine v_inv H (o := 0) rfl rfl rfl rfl rfl rfl (by rfl) (C203 (D := puc 0 D_35) (N := puc 0 N_35) (HW_subc H oz_D4cls_19 oz_D4cls_10) (y6_0_8) ((((hS_c300 0 8 rfl).trans (hS_35 0 8 rfl)).trans ((eF6 0 8).trans ey6_0_8))) (show inr (0) from q_20) (show inr (a2) from h1) (fun z14 σ14 F14ₚ A14ₚ Hₚ Oₚ hS14 hA14 y14_0_8 ey14_0_8 pz14_0 pz14_1 pz14_2 => ⟨rfl, ?_⟩))
          refine v_backc (c := c_35) (s := s_35) H oz_D4cls_19 oz_D4cls_10 Hₚ Oₚ (fun F14 A14 H Oₚ eF14 eA14 => ?_)
          have O := OUT_trans O Oₚ
          -- Tags.fail
          have cF14 : SF oz_D4clsl_8 F F14 := SF_trans (cF_c300) (SF_gluc (ι := oz_D4clsl_4) oz_D4cls_10 hS14 eF14 (by decide +kernel)) (any_sub (lₚ := [(0, 8)]) (by decide +kernel))
          have mF14 := SFm_of cF14 oz_D4cls_27
          have cA14 : SA oz_D4clsl_9 A A14 := SA_trans (cA_c300) (SA_gluc (ι := oz_D4clsl_4) oz_D4cls_10 hA14 eA14 (by decide +kernel)) (any_subA (lₚ := []) (by decide +kernel))
          have mA14 := SAm_of cA14 oz_D4cls_28
          have r15 : (-2147483648 : Int) ≤ y14_0_8 ∧ y14_0_8 ≤ 2147483647 := rngE (show (-2147483648 : Int) ≤ F14 0 8 ∧ F14 0 8 ≤ 2147483647 from H.krg 0 8 (ltn len_V206_oz_D4cls rfl)) (show F14 0 8 = y14_0_8 from ((eF14 0 8).trans ey14_0_8))
          exact w_ireturn rfl (k (z14) _ _ _ _ _ _ _ H O (cD_35) (cN_35) (cF14) (cA14) (((((show F14 2 0 = F_c300 2 0 from (eF14 2 0))).trans (hS_c300 2 0 rfl))).trans (pm35_3)) (m35_3) (em35_3) (y35_2_1) (((((show F14 2 1 = F_c300 2 1 from (eF14 2 1))).trans (hS_c300 2 1 rfl)).trans (ey35_2_1))) (show inr (z14) from pz14_0) (show 0 ≤ (z14) ∧ (z14) ≤ 6 from q_2903 pz14_1) (show 0 ≤ (y35_2_1) ∧ (y35_2_1) ≤ (m35_3) ∧ (m35_3) ≤ 65536 from j35_5) (show (u2_1) ≤ (y35_2_1) from q_2902 j35_6) (show (y35_2_1) ≤ (u2_1) + a3 ∨ (y35_2_1) = (u2_1) from q_2901 b9 j35_7 pz6_2))
        · refine Ew_of (pcₚ := 320) (fun _ => x_aload_n rfl lc300_0) ?_
          refine Ew_of (pcₚ := 322) (fun _ => x_bipush (z := 6) rfl (by decide)) ?_
          refine Ew_of (pcₚ := 323) (fun _ => x_iload_n rfl lc300_2) ?_
          refine v_inv H (o := 0) rfl rfl rfl rfl rfl rfl (by rfl) (C203 (D := puc 0 D_35) (N := puc 0 N_35) (HW_subc H oz_D4cls_19 oz_D4cls_10) (y6_0_8) ((((hS_c300 0 8 rfl).trans (hS_35 0 8 rfl)).trans ((eF6 0 8).trans ey6_0_8))) (show inr (6) from q_545) (show inr (a2) from h1) (fun z16 σ16 F16ₚ A16ₚ Hₚ Oₚ hS16 hA16 y16_0_8 ey16_0_8 pz16_0 pz16_1 pz16_2 => ⟨rfl, ?_⟩))
          refine v_backc (c := c_35) (s := s_35) H oz_D4cls_19 oz_D4cls_10 Hₚ Oₚ (fun F16 A16 H Oₚ eF16 eA16 => ?_)
          have O := OUT_trans O Oₚ
          -- Tags.fail
          have cF16 : SF oz_D4clsl_8 F F16 := SF_trans (cF_c300) (SF_gluc (ι := oz_D4clsl_4) oz_D4cls_10 hS16 eF16 (by decide +kernel)) (any_sub (lₚ := [(0, 8)]) (by decide +kernel))
          have mF16 := SFm_of cF16 oz_D4cls_27
          have cA16 : SA oz_D4clsl_9 A A16 := SA_trans (cA_c300) (SA_gluc (ι := oz_D4clsl_4) oz_D4cls_10 hA16 eA16 (by decide +kernel)) (any_subA (lₚ := []) (by decide +kernel))
          have mA16 := SAm_of cA16 oz_D4cls_28
          have r17 : (-2147483648 : Int) ≤ y16_0_8 ∧ y16_0_8 ≤ 2147483647 := rngE (show (-2147483648 : Int) ≤ F16 0 8 ∧ F16 0 8 ≤ 2147483647 from H.krg 0 8 (ltn len_V206_oz_D4cls rfl)) (show F16 0 8 = y16_0_8 from ((eF16 0 8).trans ey16_0_8))
          refine Ew_of (pcₚ := 335) (fun _ => x_goto rfl rfl) ?_
          exact w_ireturn rfl (k (z16) _ _ _ _ _ _ _ H O (cD_35) (cN_35) (cF16) (cA16) (((((show F16 2 0 = F_c300 2 0 from (eF16 2 0))).trans (hS_c300 2 0 rfl))).trans (pm35_3)) (m35_3) (em35_3) (y35_2_1) (((((show F16 2 1 = F_c300 2 1 from (eF16 2 1))).trans (hS_c300 2 1 rfl)).trans (ey35_2_1))) (show inr (z16) from pz16_0) (show 0 ≤ (z16) ∧ (z16) ≤ 6 from q_2904 pz16_1) (show 0 ≤ (y35_2_1) ∧ (y35_2_1) ≤ (m35_3) ∧ (m35_3) ≤ 65536 from j35_5) (show (u2_1) ≤ (y35_2_1) from q_2902 j35_6) (show (y35_2_1) ≤ (u2_1) + a3 ∨ (y35_2_1) = (u2_1) from q_2901 b9 j35_7 pz6_2))
      refine w_icmpge (t := 300) rfl rfl (show inr (x35_7) from j35_1) (show inr (a2) from h1) (fun b18 => ?_) (fun b18 => ?_)
      · exact hc300  _ _ _ _  (l35_0) (l35_2) (l35_5) H O (SF_refl) (SA_refl)     (show ((x35_7) ≥ (a2)) ∨ ((x35_7) < (a2) ∧ (x35_6) ≥ (a2)) from q_2905 b18)
      · refine Ew_of (pcₚ := 43) (fun _ => x_iload rfl l35_6) ?_
        refine Ew_of (pcₚ := 44) (fun _ => x_iload_n rfl l35_2) ?_
        refine w_icmpge (t := 300) rfl rfl (show inr (x35_6) from j35_0) (show inr (a2) from h1) (fun b19 => ?_) (fun b19 => ?_)
        · exact hc300  _ _ _ _  (l35_0) (l35_2) (l35_5) H O (SF_refl) (SA_refl)     (show ((x35_7) ≥ (a2)) ∨ ((x35_7) < (a2) ∧ (x35_6) ≥ (a2)) from q_2906 b18 b19)
        · refine Ew_of (pcₚ := 48) (fun _ => x_aload_n rfl l35_0) ?_
          refine v_g H (o := 0) (v := .ref (D_35 1)) rfl rfl rfl rfl rfl (vrf ((mF_35 0 3 rfl).trans ((pf1).trans (congrArg (fun q : Nat => (q : Int)) (mD_35 1 rfl).symm)))) ?_
          refine Ew_of (pcₚ := 53) (fun _ => x_iload rfl l35_6) ?_
          refine v_lB H (o := 1) rfl rfl rfl rfl (n := n1) ((congrArg (fun q : Nat => (q : Int)) (mN_35 1 rfl)).trans (en1)) (show 0 ≤ x35_6 ∧ x35_6 < n1 from q_2800 b19 h3 j35_4) (fun v20 ev20 qv20 => ?_)
          have ev20 : (A 1) (x35_6) = v20 := (congrFun (funext (mA_35 1 rfl)) (x35_6)).symm.trans ev20
          refine Ew_of (pcₚ := 57) (fun _ => x_sipush (z := 255) rfl (by decide)) ?_
          refine w_iand rfl (show inr (v20) from q_2536 qv20) (show inr (255) from q_36) (fun z21 gz21 gaz21 gbz21 => ?_)
          refine Ew_of (pcₚ := 60) (fun _ => x_istore rfl) ?_
          refine Ew_of (pcₚ := 62) (fun _ => x_iload rfl rk_s) ?_
          refine w_stat24 rfl rfl (by rfl) (C208 (D := puc 0 D_35) (N := puc 0 N_35) (HW_subc H oz_D4cls_20 oz_D4cls_29) (show inr (z21) from gz21) (show 0 ≤ (z21) ∧ (z21) ≤ 255 by omega) (fun z22 σ22 F22ₚ A22ₚ Hₚ Oₚ hS22 hA22 pz22_0 pz22_1 => ⟨rfl, ?_⟩))
          refine v_backc (c := c_35) (s := s_35) H oz_D4cls_20 oz_D4cls_29 Hₚ Oₚ (fun F22 A22 H Oₚ eF22 eA22 => ?_)
          have O := OUT_trans O Oₚ
          -- Tags.bytesBehind
          have cF22 : SF oz_D4clsl_8 F F22 := SF_trans (cF_35) (SF_gluc (ι := oz_D4clsl_3) oz_D4cls_29 hS22 eF22 (by decide +kernel)) (any_sub (lₚ := []) (by decide +kernel))
          have mF22 := SFm_of cF22 oz_D4cls_27
          have cA22 : SA oz_D4clsl_9 A A22 := SA_trans (cA_35) (SA_gluc (ι := oz_D4clsl_3) oz_D4cls_29 hA22 eA22 (by decide +kernel)) (any_subA (lₚ := []) (by decide +kernel))
          have mA22 := SAm_of cA22 oz_D4cls_28
          refine Ew_of (pcₚ := 67) (fun _ => x_istore rfl) ?_
          refine Ew_of (pcₚ := 68) (fun _ => x_iload_n rfl (rk_o (rk_o (l35_2) rfl rfl) rfl rfl)) ?_
          refine Ew_of (pcₚ := 70) (fun _ => x_iload rfl (rk_o (rk_o (l35_6) rfl rfl) rfl rfl)) ?_
          refine w_isub rfl ?_
          refine Ew_of (pcₚ := 72) (fun _ => x_iconst rfl) ?_
          refine w_isub rfl ?_
          refine Ew_of (pcₚ := 75) (fun _ => x_iload rfl rk_s) ?_
          refine w_icmpge (t := 85) rfl rfl (show inr (((a2 - x35_6) - 1)) from q_2907 b19 h3 j35_4) (show inr (z22) from pz22_0) (fun b23 => ?_) (fun b23 => ?_)
          · refine Ew_of (pcₚ := 86) (fun _ => x_aload_n rfl (rk_o (rk_o (l35_0) rfl rfl) rfl rfl)) ?_
            refine v_g H (o := 0) (v := .ref (D_35 1)) rfl rfl rfl rfl rfl (vrf ((mF22 0 3 rfl).trans ((pf1).trans (congrArg (fun q : Nat => (q : Int)) (mD_35 1 rfl).symm)))) ?_
            refine Ew_of (pcₚ := 91) (fun _ => x_iload rfl (rk_o (rk_o (l35_6) rfl rfl) rfl rfl)) ?_
            refine Ew_of (pcₚ := 92) (fun _ => x_iconst rfl) ?_
            refine w_iadd rfl ?_
            refine Ew_of (pcₚ := 95) (fun _ => x_iload rfl rk_s) ?_
            refine w_stat25 rfl rfl (by rfl) (C42_Br (D := puc 1 D_35) (N := puc 1 N_35) (HW_subc H oz_D4cls_21 oz_D4cls_30) (n1) ((congrArg (fun q : Nat => (q : Int)) (mN_35 1 rfl)).trans (en1)) (show inr ((x35_6 + 1)) from q_2802 b19 h3 j35_4) (show inr (z22) from pz22_0) (show (z22) ≤ 0 ∨ 0 ≤ ((x35_6 + 1)) ∧ ((x35_6 + 1)) + (z22) ≤ (n1) from q_2909 b23 h3 j35_4) (show 0 ≤ (z22) from q_2908 pz22_1) (fun z24 σ24 F24ₚ A24ₚ Hₚ Oₚ hS24 hA24 pz24_0 pz24_1 => ⟨rfl, ?_⟩))
            refine v_backc (c := c_35) (s := s_35) H oz_D4cls_21 oz_D4cls_30 Hₚ Oₚ (fun F24 A24 H Oₚ eF24 eA24 => ?_)
            have O := OUT_trans O Oₚ
            -- PackHouse.number
            have cF24 : SF oz_D4clsl_8 F F24 := SF_trans (cF22) (SF_gluc (ι := oz_D4clsl_6) oz_D4cls_30 hS24 eF24 (by decide +kernel)) (any_sub (lₚ := []) (by decide +kernel))
            have mF24 := SFm_of cF24 oz_D4cls_27
            have cA24 : SA oz_D4clsl_9 A A24 := SA_trans (cA22) (SA_gluc (ι := oz_D4clsl_6) oz_D4cls_30 hA24 eA24 (by decide +kernel)) (any_subA (lₚ := []) (by decide +kernel))
            have mA24 := SAm_of cA24 oz_D4cls_28
            have hnb : 0 ≤ (z24) ∧ (z24) ≤ 4294967295 := nb4 (NBY_up pz24_1 (by omega) (by omega))
            refine Ew_of (pcₚ := 100) (fun _ => x_lstore rfl) ?_
            refine Ew_of (pcₚ := 102) (fun _ => x_iload rfl (rk2_o (rk_o (rk_s) rfl rfl) rfl rfl)) ?_
            refine Ew_of (pcₚ := 104) (fun _ => x_lload rfl rk2_s) ?_
            refine w_stat24 rfl rfl (by rfl) (C209 (D := puc 0 D_35) (N := puc 0 N_35) (HW_subc H oz_D4cls_22 oz_D4cls_29) (show inr (z21) from gz21) (show inrJ (z24) from pz24_0) (show 0 ≤ (z21) ∧ (z21) ≤ 255 by omega) (show 0 ≤ (z24) ∧ (z24) ≤ 4294967295 from hnb) (fun z25 σ25 F25ₚ A25ₚ Hₚ Oₚ hS25 hA25 pz25_0 pz25_1 => ⟨rfl, ?_⟩))
            refine v_backc (c := c_35) (s := s_35) H oz_D4cls_22 oz_D4cls_29 Hₚ Oₚ (fun F25 A25 H Oₚ eF25 eA25 => ?_)
            have O := OUT_trans O Oₚ
            -- Tags.lengthOf
            have cF25 : SF oz_D4clsl_8 F F25 := SF_trans (cF24) (SF_gluc (ι := oz_D4clsl_3) oz_D4cls_29 hS25 eF25 (by decide +kernel)) (any_sub (lₚ := []) (by decide +kernel))
            have mF25 := SFm_of cF25 oz_D4cls_27
            have cA25 : SA oz_D4clsl_9 A A25 := SA_trans (cA24) (SA_gluc (ι := oz_D4clsl_3) oz_D4cls_29 hA25 eA25 (by decide +kernel)) (any_subA (lₚ := []) (by decide +kernel))
            have mA25 := SAm_of cA25 oz_D4cls_28
            refine Ew_of (pcₚ := 109) (fun _ => x_lstore rfl) ?_
            refine Ew_of (pcₚ := 111) (fun _ => x_iload rfl (rk2_o (rk2_o (rk_o (rk_s) rfl rfl) rfl rfl) rfl rfl)) ?_
            refine Ew_of (pcₚ := 112) (fun _ => x_iconst rfl) ?_
            refine w_iand rfl (show inr (z21) from gz21) (show inr (3) from q_66) (fun z26 gz26 gaz26 gbz26 => ?_)
            have hc121 : ∀ (tc121_0 : Int), ∀ (ls : rO) (σ : rS) (F_c121 : hF) (A_c121 : hA) , rlook ls 0 = some (.ref (D_35 0)) → rlook ls 2 = some (I (a2)) → rlook ls 5 = some (I (u2_1)) → rlook ls 6 = some (I (x35_6)) → rlook ls 7 = some (I (x35_7)) → rlook ls 8 = some (I (z21)) → rlook ls 9 = some (I (z22)) → rlook ls 10 = some (J (z24)) → rlook ls 12 = some (J (z25)) → HW V206 σ D_35 N_35 F_c121 A_c121 → OUT (V206).length D N σE c s D_35 N_35 σ c_35 s_35 → SF [] F25 F_c121 → SA [] A25 A_c121 → (inr (tc121_0)) → (((z26) = (0) ∧ (tc121_0) = (0)) ∨ ((z26) ≠ (0) ∧ (tc121_0) = (1))) → Ew 206 (d + 3) 121 ls [I (tc121_0)] σ c_35 s_35 Q := by
             as_aux_lemma =>
              intro tc121_0 ls σ F_c121 A_c121  lc121_0 lc121_2 lc121_5 lc121_6 lc121_7 lc121_8 lc121_9 lc121_10 lc121_12 H O hS_c121 hA_c121     jc121_0 jc121_1
              have cF_c121 : SF oz_D4clsl_8 F F_c121 := SF_trans (cF25) hS_c121 (any_sub (by decide +kernel))
              have mF_c121 := SFm_of cF_c121 oz_D4cls_27
              have cA_c121 : SA oz_D4clsl_9 A A_c121 := SA_trans (cA25) hA_c121 (any_subA (by decide +kernel))
              have mA_c121 := SAm_of cA_c121 oz_D4cls_28
              refine Ew_of (pcₚ := 123) (fun _ => x_istore rfl) ?_
              have hc147 : ∀ (tc147_0 : Int), ∀ (ls : rO) (σ : rS) (F_c147 : hF) (A_c147 : hA) , rlook ls 0 = some (.ref (D_35 0)) → rlook ls 2 = some (I (a2)) → rlook ls 5 = some (I (u2_1)) → rlook ls 6 = some (I (x35_6)) → rlook ls 7 = some (I (x35_7)) → rlook ls 9 = some (I (z22)) → rlook ls 12 = some (J (z25)) → rlook ls 14 = some (I (tc121_0)) → HW V206 σ D_35 N_35 F_c147 A_c147 → OUT (V206).length D N σE c s D_35 N_35 σ c_35 s_35 → SF [] F_c121 F_c147 → SA [] A_c121 A_c147 → (inrJ (tc147_0)) → (0 ≤ (tc147_0) ∧ (tc147_0) ≤ 4294969343) → Ew 206 (d + 3) 147 ls [J (tc147_0)] σ c_35 s_35 Q := by
               as_aux_lemma =>
                intro tc147_0 ls σ F_c147 A_c147  lc147_0 lc147_2 lc147_5 lc147_6 lc147_7 lc147_9 lc147_12 lc147_14 H O hS_c147 hA_c147     jc147_0 jc147_1
                have cF_c147 : SF oz_D4clsl_8 F F_c147 := SF_trans (cF_c121) hS_c147 (any_sub (by decide +kernel))
                have mF_c147 := SFm_of cF_c147 oz_D4cls_27
                have cA_c147 : SA oz_D4clsl_9 A A_c147 := SA_trans (cA_c121) hA_c147 (any_subA (by decide +kernel))
                have mA_c147 := SAm_of cA_c147 oz_D4cls_28
                refine Ew_of (pcₚ := 149) (fun _ => x_lstore rfl) ?_
                refine Ew_of (pcₚ := 151) (fun _ => x_iload rfl (rk2_o (lc147_14) rfl rfl)) ?_
                have hc186 : ∀ (ls : rO) (σ : rS) (F_c186 : hF) (A_c186 : hA) , rlook ls 0 = some (.ref (D_35 0)) → rlook ls 2 = some (I (a2)) → rlook ls 5 = some (I (u2_1)) → rlook ls 6 = some (I (x35_6)) → rlook ls 7 = some (I (x35_7)) → rlook ls 9 = some (I (z22)) → rlook ls 12 = some (J (z25)) → rlook ls 14 = some (I (tc121_0)) → rlook ls 15 = some (J (tc147_0)) → HW V206 σ D_35 N_35 F_c186 A_c186 → OUT (V206).length D N σE c s D_35 N_35 σ c_35 s_35 → SF [] F_c147 F_c186 → SA [] A_c147 A_c186 → (((tc121_0) = (0)) ∨ ((tc121_0) ≠ (0) ∧ (tc147_0) ≠ (0) ∧ (tc147_0) ≤ ((y35_2_1 - u2_1)))) → Ew 206 (d + 3) 186 ls [] σ c_35 s_35 Q := by
                 as_aux_lemma =>
                  intro  ls σ F_c186 A_c186  lc186_0 lc186_2 lc186_5 lc186_6 lc186_7 lc186_9 lc186_12 lc186_14 lc186_15 H O hS_c186 hA_c186     jc186_0
                  have cF_c186 : SF oz_D4clsl_8 F F_c186 := SF_trans (cF_c147) hS_c186 (any_sub (by decide +kernel))
                  have mF_c186 := SFm_of cF_c186 oz_D4cls_27
                  have cA_c186 : SA oz_D4clsl_9 A A_c186 := SA_trans (cA_c147) hA_c186 (any_subA (by decide +kernel))
                  have mA_c186 := SAm_of cA_c186 oz_D4cls_28
                  refine Ew_of (pcₚ := 188) (fun _ => x_lload rfl lc186_12) ?_
                  refine Ew_of (pcₚ := 189) (fun _ => x_aload_n rfl lc186_0) ?_
                  refine v_g H (o := 0) (v := J (y6_0_7)) rfl rfl rfl rfl rfl (congrArg (fun z : Int => J z) (((((((((hS_c186 0 7 rfl).trans (hS_c147 0 7 rfl)).trans (hS_c121 0 7 rfl)).trans ((show F25 0 7 = F24 0 7 from (eF25 0 7)))).trans ((show F24 0 7 = F22 0 7 from (eF24 0 7)))).trans ((show F22 0 7 = F_35 0 7 from (eF22 0 7)))).trans (hS_35 0 7 rfl)).trans ((eF6 0 7).trans ey6_0_7)) : F_c186 0 7 = y6_0_7)) ?_
                  refine Ew_of (pcₚ := 193) (fun _ => x_aload_n rfl lc186_0) ?_
                  refine v_g H (o := 0) (v := .ref (D_35 2)) rfl rfl rfl rfl rfl (vrf ((mF_c186 0 5 rfl).trans ((pf2).trans (congrArg (fun q : Nat => (q : Int)) (mD_35 2 rfl).symm)))) ?_
                  refine v_g H (o := 2) (v := I (y35_2_1)) rfl rfl rfl rfl rfl (congrArg (fun z : Int => I z) ((((((((hS_c186 2 1 rfl).trans (hS_c147 2 1 rfl)).trans (hS_c121 2 1 rfl)).trans ((show F25 2 1 = F24 2 1 from (eF25 2 1)))).trans ((show F24 2 1 = F22 2 1 from (eF24 2 1)))).trans ((show F22 2 1 = F_35 2 1 from (eF22 2 1)))).trans (ey35_2_1)) : F_c186 2 1 = y35_2_1)) ?_
                  refine Ew_of (pcₚ := 201) (fun _ => x_iload rfl lc186_5) ?_
                  refine w_isub rfl ?_
                  refine w_i2l rfl (show inr ((y35_2_1 - u2_1)) from q_2899 h4 j35_5 j35_6) ?_
                  refine w_lsub rfl ?_
                  refine w_lcmp rfl (show inrJ (z25) from pz25_0) (show inrJ ((y6_0_7 - (y35_2_1 - u2_1))) by omega) (fun z27 gz27 gaz27 gbz27 => ?_)
                  refine w_ifle (t := 216) rfl rfl (show inr (z27) from gz27) (fun b28 => ?_) (fun b28 => ?_)
                  · refine Ew_of (pcₚ := 218) (fun _ => x_iload rfl lc186_6) ?_
                    refine Ew_of (pcₚ := 219) (fun _ => x_iconst rfl) ?_
                    refine Ew_of (pcₚ := 221) (fun _ => x_iload rfl lc186_9) ?_
                    refine w_iadd rfl ?_
                    refine w_iadd rfl ?_
                    refine Ew_of (pcₚ := 225) (fun _ => x_istore rfl) ?_
                    have hc294 : ∀ (ls : rO) (σ : rS) (D_c294 N_c294 : Nat → Nat) (c_c294 s_c294 : Nat) (F_c294 : hF) (A_c294 : hA) (xc294_6 : Int), rlook ls 0 = some (.ref (D_c294 0)) → rlook ls 2 = some (I (a2)) → rlook ls 5 = some (I (u2_1)) → rlook ls 6 = some (I (xc294_6)) → rlook ls 7 = some (I (x35_7)) → HW V206 σ D_c294 N_c294 F_c294 A_c294 → OUT (V206).length D N σE c s D_c294 N_c294 σ c_c294 s_c294 → SD [3] D_35 D_c294 → SD [3] N_35 N_c294 → SF [(2, 0), (2, 1), (2, 2)] F_c186 F_c294 → SA [3] A_c186 A_c294 → F_c294 2 0 = (D_c294 3 : Int) → ∀ mc294_3 : Int, (N_c294 3 : Int) = mc294_3 → ∀ yc294_2_1 : Int, F_c294 2 1 = yc294_2_1 → (inr (xc294_6)) → (0 ≤ (xc294_6) ∧ (xc294_6) ≤ (a2)) → (0 ≤ (yc294_2_1) ∧ (yc294_2_1) ≤ (mc294_3) ∧ (mc294_3) ≤ 65536) → ((u2_1) ≤ (yc294_2_1) ∧ (u2_1) = (u2_1)) → ((yc294_2_1) - (u2_1) ≤ (y6_0_7)) → Ew 206 (d + 3) 294 ls [] σ c_c294 s_c294 Q := by
                     as_aux_lemma =>
                      intro  ls σ D_c294 N_c294 c_c294 s_c294 F_c294 A_c294 xc294_6 lc294_0 lc294_2 lc294_5 lc294_6 lc294_7 H O hD_c294 hN_c294 hS_c294 hA_c294 pmc294_3 mc294_3 emc294_3 yc294_2_1 eyc294_2_1  jc294_0 jc294_1 jc294_2 jc294_3 jc294_4
                      have cF_c294 : SF oz_D4clsl_8 F F_c294 := SF_trans (cF_c186) hS_c294 (any_sub (by decide +kernel))
                      have mF_c294 := SFm_of cF_c294 oz_D4cls_27
                      have cA_c294 : SA oz_D4clsl_9 A A_c294 := SA_trans (cA_c186) hA_c294 (any_subA (by decide +kernel))
                      have mA_c294 := SAm_of cA_c294 oz_D4cls_28
                      have cD_c294 : SD oz_D4clsl_9 D D_c294 := SD_trans (cD_35) hD_c294 (any_subA (by decide +kernel))
                      have mD_c294 := SDm_of cD_c294 oz_D4cls_28
                      have cN_c294 : SD oz_D4clsl_9 N N_c294 := SD_trans (cN_35) hN_c294 (any_subA (by decide +kernel))
                      have mN_c294 := SDm_of cN_c294 oz_D4cls_28
                      have r29 : (0 : Int) ≤ mc294_3 ∧ mc294_3 ≤ 1000000 := nleE (H.nle 3 (ltn len_V206_oz_D4cls rfl)) (show (N_c294 3 : Int) = mc294_3 from emc294_3)
                      have r30 : (-2147483648 : Int) ≤ yc294_2_1 ∧ yc294_2_1 ≤ 2147483647 := rngE (show (-2147483648 : Int) ≤ F_c294 2 1 ∧ F_c294 2 1 ≤ 2147483647 from H.krg 2 1 (ltn len_V206_oz_D4cls rfl)) (show F_c294 2 1 = yc294_2_1 from (eyc294_2_1))
                      refine Ew_of (pcₚ := 297) (fun _ => x_iinc (len := 3) rfl (lc294_7)) ?_
                      refine Ew_of (pcₚ := 35) (fun _ => x_goto rfl rfl) ?_
                      exact ih35 _ (msE hm35 q_31 (q_34 b18)) _ _ _ _ _ _ _ _ (xc294_6) ((x35_7 + 1)) (rk_o (lc294_0) rfl rfl) (rk_o (lc294_2) rfl rfl) (rk_o (lc294_5) rfl rfl) (rk_o (lc294_6) rfl rfl) (rk_s) H O (SD_trans (hD_35) hD_c294 (any_subA (by decide +kernel))) (SD_trans (hN_35) hN_c294 (any_subA (by decide +kernel))) (SF_trans (SF_trans (SF_trans (SF_trans (SF_trans (SF_trans (SF_trans (hS_35) (SF_gluc (ι := oz_D4clsl_3) oz_D4cls_29 hS22 eF22 (by decide +kernel)) (any_sub (lₚ := []) (by decide +kernel))) (SF_gluc (ι := oz_D4clsl_6) oz_D4cls_30 hS24 eF24 (by decide +kernel)) (any_sub (lₚ := []) (by decide +kernel))) (SF_gluc (ι := oz_D4clsl_3) oz_D4cls_29 hS25 eF25 (by decide +kernel)) (any_sub (lₚ := []) (by decide +kernel))) hS_c121 (any_sub (by decide +kernel))) hS_c147 (any_sub (by decide +kernel))) hS_c186 (any_sub (by decide +kernel))) hS_c294 (any_sub (by decide +kernel))) (SA_trans (SA_trans (SA_trans (SA_trans (SA_trans (SA_trans (SA_trans (hA_35) (SA_gluc (ι := oz_D4clsl_3) oz_D4cls_29 hA22 eA22 (by decide +kernel)) (any_subA (lₚ := []) (by decide +kernel))) (SA_gluc (ι := oz_D4clsl_6) oz_D4cls_30 hA24 eA24 (by decide +kernel)) (any_subA (lₚ := []) (by decide +kernel))) (SA_gluc (ι := oz_D4clsl_3) oz_D4cls_29 hA25 eA25 (by decide +kernel)) (any_subA (lₚ := []) (by decide +kernel))) hA_c121 (any_subA (by decide +kernel))) hA_c147 (any_subA (by decide +kernel))) hA_c186 (any_subA (by decide +kernel))) hA_c294 (any_subA (by decide +kernel))) (pmc294_3) (mc294_3) (emc294_3) (yc294_2_1) ((eyc294_2_1))  (show inr (xc294_6) from jc294_0) (show inr ((x35_7 + 1)) from q_2792 b18 h3 j35_1) (show (a1) ≤ ((x35_7 + 1)) from q_105 j35_2) (show ((x35_7 + 1)) ≤ (a1) ∨ ((x35_7 + 1)) ≤ ((a2)) from q_104 b18) (show 0 ≤ (xc294_6) ∧ (xc294_6) ≤ (a2) from jc294_1) (show 0 ≤ (yc294_2_1) ∧ (yc294_2_1) ≤ (mc294_3) ∧ (mc294_3) ≤ 65536 from jc294_2) (show (u2_1) ≤ (yc294_2_1) ∧ (u2_1) = (u2_1) from jc294_3) (show (yc294_2_1) - (u2_1) ≤ (y6_0_7) from jc294_4) rfl
                    refine Ew_of (pcₚ := 227) (fun _ => x_iload rfl (rk_o (lc186_14) rfl rfl)) ?_
                    refine w_ifeq (t := 252) rfl rfl (show inr (tc121_0) from jc121_0) (fun b31 => ?_) (fun b31 => ?_)
                    · refine Ew_of (pcₚ := 254) (fun _ => x_lload rfl (rk_o (lc186_12) rfl rfl)) ?_
                      refine Ew_of (pcₚ := 255) (fun _ => x_iload_n rfl (rk_o (lc186_2) rfl rfl)) ?_
                      refine Ew_of (pcₚ := 257) (fun _ => x_iload rfl rk_s) ?_
                      refine w_isub rfl ?_
                      refine w_i2l rfl (show inr ((a2 - (x35_6 + (1 + z22)))) from q_2910 b23 h3 j35_4 pz22_1) ?_
                      refine w_lcmp rfl (show inrJ (z25) from pz25_0) (show inrJ ((a2 - (x35_6 + (1 + z22)))) from q_2911 b23 h3 j35_4 pz22_1) (fun z32 gz32 gaz32 gbz32 => ?_)
                      refine w_ifle (t := 270) rfl rfl (show inr (z32) from gz32) (fun b33 => ?_) (fun b33 => ?_)
                      · refine Ew_of (pcₚ := 271) (fun _ => x_aload_n rfl (rk_o (lc186_0) rfl rfl)) ?_
                        refine v_g H (o := 0) (v := .ref (D_35 2)) rfl rfl rfl rfl rfl (vrf ((mF_c186 0 5 rfl).trans ((pf2).trans (congrArg (fun q : Nat => (q : Int)) (mD_35 2 rfl).symm)))) ?_
                        refine Ew_of (pcₚ := 275) (fun _ => x_aload_n rfl (rk_o (lc186_0) rfl rfl)) ?_
                        refine v_g H (o := 0) (v := .ref (D_35 1)) rfl rfl rfl rfl rfl (vrf ((mF_c186 0 3 rfl).trans ((pf1).trans (congrArg (fun q : Nat => (q : Int)) (mD_35 1 rfl).symm)))) ?_
                        refine Ew_of (pcₚ := 280) (fun _ => x_iload rfl rk_s) ?_
                        refine Ew_of (pcₚ := 282) (fun _ => x_lload rfl (rk_o (lc186_12) rfl rfl)) ?_
                        refine w_l2i rfl ?_
                        refine v_inv H (o := 2) rfl rfl rfl rfl rfl rfl (by rfl) (C161_Br (D := puc 786946 D_35) (N := puc 786946 N_35) (HW_subc H oz_D4cls_23 oz_D4cls_31) ((((((((hS_c186 2 0 rfl).trans (hS_c147 2 0 rfl)).trans (hS_c121 2 0 rfl)).trans ((show F25 2 0 = F24 2 0 from (eF25 2 0)))).trans ((show F24 2 0 = F22 2 0 from (eF24 2 0)))).trans ((show F22 2 0 = F_35 2 0 from (eF22 2 0))))).trans (pm35_3)) (n1) ((congrArg (fun q : Nat => (q : Int)) (mN_35 1 rfl)).trans (en1)) (m35_3) (em35_3) (y35_2_1) ((((((((hS_c186 2 1 rfl).trans (hS_c147 2 1 rfl)).trans (hS_c121 2 1 rfl)).trans ((show F25 2 1 = F24 2 1 from (eF25 2 1)))).trans ((show F24 2 1 = F22 2 1 from (eF24 2 1)))).trans ((show F22 2 1 = F_35 2 1 from (eF22 2 1)))).trans (ey35_2_1))) (A_35 3) ((funext (hA_c186 3 rfl)).trans ((funext (hA_c147 3 rfl)).trans ((funext (hA_c121 3 rfl)).trans (((show A25 3 = A24 3 from (eA25 3))).trans (((show A24 3 = A22 3 from (eA24 3))).trans ((show A22 3 = A_35 3 from (eA22 3)))))))) (show inr ((x35_6 + (1 + z22))) from q_2912 b23 h3 j35_4 pz22_1) (show inr (z25) by omega) (show 0 ≤ (y35_2_1) ∧ (y35_2_1) ≤ (m35_3) ∧ (m35_3) ≤ 65536 from j35_5) (show (z25) < 0 ∨ 0 ≤ ((x35_6 + (1 + z22))) ∧ ((x35_6 + (1 + z22))) + (z25) ≤ (n1) by omega) (fun σ34 D34ₚ N34ₚ F34ₚ A34ₚ c34 s34 Hₚ Oₚ hD34 hN34 hS34 hA34 pm34_2 m34_2 em34_2 y34_0_1 ey34_0_1 w34_2 ew34_2 pz34_0 pz34_1 pz34_2 => ⟨rfl, ?_⟩))
                        refine v_backMc (c := c_35) (s := s_35) H oz_D4cls_23 oz_D4cls_31 Hₚ Oₚ hD34 oz_D4cls_24 (fun D34 N34 F34 A34 H Oₚ eD34 eN34 eF34 eA34 => ?_)
                        have O := OUT_trans O Oₚ
                        -- Row.addPart
                        have cF34 : SF oz_D4clsl_8 F F34 := SF_trans (cF_c186) (SF_gluc (ι := oz_D4clsl_10) oz_D4cls_31 hS34 eF34 (by decide +kernel)) (any_sub (lₚ := [(2, 0), (2, 1), (2, 2)]) (by decide +kernel))
                        have mF34 := SFm_of cF34 oz_D4cls_27
                        have cA34 : SA oz_D4clsl_9 A A34 := SA_trans (cA_c186) (SA_gluc (ι := oz_D4clsl_10) oz_D4cls_31 hA34 eA34 (by decide +kernel)) (any_subA (lₚ := [3]) (by decide +kernel))
                        have mA34 := SAm_of cA34 oz_D4cls_28
                        have cD34 : SD oz_D4clsl_9 D D34 := SD_trans (cD_35) (SD_gluc (ι := oz_D4clsl_10) oz_D4cls_31 hD34 eD34 (by decide +kernel)) (any_subA (lₚ := [3]) (by decide +kernel))
                        have mD34 := SDm_of cD34 oz_D4cls_28
                        have cN34 : SD oz_D4clsl_9 N N34 := SD_trans (cN_35) (SD_gluc (ι := oz_D4clsl_10) oz_D4cls_31 hN34 eN34 (by decide +kernel)) (any_subA (lₚ := [3]) (by decide +kernel))
                        have mN34 := SDm_of cN34 oz_D4cls_28
                        have pf34_2_0 : F34 2 0 = (D34 3 : Int) := (eF34 2 0).trans (pm34_2.trans (congrArg (fun q : Nat => (q : Int)) (eD34 3).symm))
                        have r35 : (0 : Int) ≤ m34_2 ∧ m34_2 ≤ 1000000 := nleE (H.nle 3 (ltn len_V206_oz_D4cls rfl)) (show (N34 3 : Int) = m34_2 from (congrArg (fun q : Nat => (q : Int)) (eN34 3)).trans em34_2)
                        have r36 : (-2147483648 : Int) ≤ y34_0_1 ∧ y34_0_1 ≤ 2147483647 := rngE (show (-2147483648 : Int) ≤ F34 2 1 ∧ F34 2 1 ≤ 2147483647 from H.krg 2 1 (ltn len_V206_oz_D4cls rfl)) (show F34 2 1 = y34_0_1 from ((eF34 2 1).trans ey34_0_1))
                        refine Ew_of (pcₚ := 288) (fun _ => x_iload rfl rk_s) ?_
                        refine Ew_of (pcₚ := 290) (fun _ => x_lload rfl (rk_o (lc186_12) rfl rfl)) ?_
                        refine w_l2i rfl ?_
                        refine w_iadd rfl ?_
                        refine Ew_of (pcₚ := 294) (fun _ => x_istore rfl) ?_
                        exact hc294  _ _ _ _ _ _ _ _ (((x35_6 + (1 + z22)) + z25)) ((rk_o (rk_o (lc186_0) rfl rfl) rfl rfl).trans (congrArg (fun q : Nat => some (Value.ref q)) (((show D34 0 = D_35 0 from (eD34 0)))).symm)) (rk_o (rk_o (lc186_2) rfl rfl) rfl rfl) (rk_o (rk_o (lc186_5) rfl rfl) rfl rfl) (rk_s) (rk_o (rk_o (lc186_7) rfl rfl) rfl rfl) H O (SD_trans (SD_refl) (SD_gluc (ι := oz_D4clsl_10) oz_D4cls_31 hD34 eD34 (by decide +kernel)) (any_subA (lₚ := [3]) (by decide +kernel))) (SD_trans (SD_refl) (SD_gluc (ι := oz_D4clsl_10) oz_D4cls_31 hN34 eN34 (by decide +kernel)) (any_subA (lₚ := [3]) (by decide +kernel))) (SF_trans (SF_refl) (SF_gluc (ι := oz_D4clsl_10) oz_D4cls_31 hS34 eF34 (by decide +kernel)) (any_sub (lₚ := [(2, 0), (2, 1), (2, 2)]) (by decide +kernel))) (SA_trans (SA_refl) (SA_gluc (ι := oz_D4clsl_10) oz_D4cls_31 hA34 eA34 (by decide +kernel)) (any_subA (lₚ := [3]) (by decide +kernel))) (pf34_2_0) (m34_2) ((congrArg (fun q : Nat => (q : Int)) (eN34 3)).trans em34_2) (y34_0_1) (((eF34 2 1).trans ey34_0_1))  (show inr (((x35_6 + (1 + z22)) + z25)) by omega) (show 0 ≤ (((x35_6 + (1 + z22)) + z25)) ∧ (((x35_6 + (1 + z22)) + z25)) ≤ (a2) by omega) (show 0 ≤ (y34_0_1) ∧ (y34_0_1) ≤ (m34_2) ∧ (m34_2) ≤ 65536 from pz34_0) (show (u2_1) ≤ (y34_0_1) ∧ (u2_1) = (u2_1) from q_2913 j35_6 pz25_1 pz34_1) (show (y34_0_1) - (u2_1) ≤ (y6_0_7) by omega)
                      · refine Ew_of (pcₚ := 264) (fun _ => x_aload_n rfl (rk_o (lc186_0) rfl rfl)) ?_
                        refine Ew_of (pcₚ := 265) (fun _ => x_iconst rfl) ?_
                        refine Ew_of (pcₚ := 266) (fun _ => x_iload_n rfl (rk_o (lc186_2) rfl rfl)) ?_
                        refine v_inv H (o := 0) rfl rfl rfl rfl rfl rfl (by rfl) (C203 (D := puc 0 D_35) (N := puc 0 N_35) (HW_subc H oz_D4cls_19 oz_D4cls_10) (y6_0_8) (((((((((hS_c186 0 8 rfl).trans (hS_c147 0 8 rfl)).trans (hS_c121 0 8 rfl)).trans ((show F25 0 8 = F24 0 8 from (eF25 0 8)))).trans ((show F24 0 8 = F22 0 8 from (eF24 0 8)))).trans ((show F22 0 8 = F_35 0 8 from (eF22 0 8)))).trans (hS_35 0 8 rfl)).trans ((eF6 0 8).trans ey6_0_8))) (show inr (1) from q_23) (show inr (a2) from h1) (fun z37 σ37 F37ₚ A37ₚ Hₚ Oₚ hS37 hA37 y37_0_8 ey37_0_8 pz37_0 pz37_1 pz37_2 => ⟨rfl, ?_⟩))
                        refine v_backc (c := c_35) (s := s_35) H oz_D4cls_19 oz_D4cls_10 Hₚ Oₚ (fun F37 A37 H Oₚ eF37 eA37 => ?_)
                        have O := OUT_trans O Oₚ
                        -- Tags.fail
                        have cF37 : SF oz_D4clsl_8 F F37 := SF_trans (cF_c186) (SF_gluc (ι := oz_D4clsl_4) oz_D4cls_10 hS37 eF37 (by decide +kernel)) (any_sub (lₚ := [(0, 8)]) (by decide +kernel))
                        have mF37 := SFm_of cF37 oz_D4cls_27
                        have cA37 : SA oz_D4clsl_9 A A37 := SA_trans (cA_c186) (SA_gluc (ι := oz_D4clsl_4) oz_D4cls_10 hA37 eA37 (by decide +kernel)) (any_subA (lₚ := []) (by decide +kernel))
                        have mA37 := SAm_of cA37 oz_D4cls_28
                        have r38 : (-2147483648 : Int) ≤ y37_0_8 ∧ y37_0_8 ≤ 2147483647 := rngE (show (-2147483648 : Int) ≤ F37 0 8 ∧ F37 0 8 ≤ 2147483647 from H.krg 0 8 (ltn len_V206_oz_D4cls rfl)) (show F37 0 8 = y37_0_8 from ((eF37 0 8).trans ey37_0_8))
                        exact w_ireturn rfl (k (z37) _ _ _ _ _ _ _ H O (cD_35) (cN_35) (cF37) (cA37) ((((((((((show F37 2 0 = F_c186 2 0 from (eF37 2 0))).trans (hS_c186 2 0 rfl)).trans (hS_c147 2 0 rfl)).trans (hS_c121 2 0 rfl)).trans ((show F25 2 0 = F24 2 0 from (eF25 2 0)))).trans ((show F24 2 0 = F22 2 0 from (eF24 2 0)))).trans ((show F22 2 0 = F_35 2 0 from (eF22 2 0))))).trans (pm35_3)) (m35_3) (em35_3) (y35_2_1) ((((((((((show F37 2 1 = F_c186 2 1 from (eF37 2 1))).trans (hS_c186 2 1 rfl)).trans (hS_c147 2 1 rfl)).trans (hS_c121 2 1 rfl)).trans ((show F25 2 1 = F24 2 1 from (eF25 2 1)))).trans ((show F24 2 1 = F22 2 1 from (eF24 2 1)))).trans ((show F22 2 1 = F_35 2 1 from (eF22 2 1)))).trans (ey35_2_1))) (show inr (z37) from pz37_0) (show 0 ≤ (z37) ∧ (z37) ≤ 6 from q_2914 pz37_1) (show 0 ≤ (y35_2_1) ∧ (y35_2_1) ≤ (m35_3) ∧ (m35_3) ≤ 65536 from j35_5) (show (u2_1) ≤ (y35_2_1) from q_2902 j35_6) (show (y35_2_1) ≤ (u2_1) + a3 ∨ (y35_2_1) = (u2_1) from q_2901 b9 j35_7 pz6_2))
                    · refine Ew_of (pcₚ := 231) (fun _ => x_aload_n rfl (rk_o (lc186_0) rfl rfl)) ?_
                      refine v_g H (o := 0) (v := .ref (D_35 2)) rfl rfl rfl rfl rfl (vrf ((mF_c186 0 5 rfl).trans ((pf2).trans (congrArg (fun q : Nat => (q : Int)) (mD_35 2 rfl).symm)))) ?_
                      refine Ew_of (pcₚ := 236) (fun _ => x_lload rfl (rk_o (lc186_15) rfl rfl)) ?_
                      refine w_l2i rfl ?_
                      refine Ew_of (pcₚ := 239) (fun _ => x_lload rfl (rk_o (lc186_12) rfl rfl)) ?_
                      refine w_l2i rfl ?_
                      refine Ew_of (pcₚ := 242) (fun _ => x_iload rfl (rk_o (lc186_5) rfl rfl)) ?_
                      refine Ew_of (pcₚ := 243) (fun _ => x_aload_n rfl (rk_o (lc186_0) rfl rfl)) ?_
                      refine v_g H (o := 0) (v := .ref (D_35 2)) rfl rfl rfl rfl rfl (vrf ((mF_c186 0 5 rfl).trans ((pf2).trans (congrArg (fun q : Nat => (q : Int)) (mD_35 2 rfl).symm)))) ?_
                      refine v_inv H (o := 2) rfl rfl rfl rfl rfl rfl (by rfl) (C163_thisa (D := puc 1538 D_35) (N := puc 1538 N_35) (HW_subc H oz_D4cls_25 oz_D4cls_32) ((((((((hS_c186 2 0 rfl).trans (hS_c147 2 0 rfl)).trans (hS_c121 2 0 rfl)).trans ((show F25 2 0 = F24 2 0 from (eF25 2 0)))).trans ((show F24 2 0 = F22 2 0 from (eF24 2 0)))).trans ((show F22 2 0 = F_35 2 0 from (eF22 2 0))))).trans (pm35_3)) (m35_3) (em35_3) (y35_2_1) ((((((((hS_c186 2 1 rfl).trans (hS_c147 2 1 rfl)).trans (hS_c121 2 1 rfl)).trans ((show F25 2 1 = F24 2 1 from (eF25 2 1)))).trans ((show F24 2 1 = F22 2 1 from (eF24 2 1)))).trans ((show F22 2 1 = F_35 2 1 from (eF22 2 1)))).trans (ey35_2_1))) (show inr (tc147_0) by omega) (show inr (z25) by omega) (show inr (u2_1) from q_884 h4) (show 0 ≤ (y35_2_1) ∧ (y35_2_1) ≤ (m35_3) ∧ (m35_3) ≤ 65536 from j35_5) (show 0 ≤ (y35_2_1) ∧ (y35_2_1) ≤ (m35_3) ∧ (m35_3) ≤ 65536 from j35_5) (show 0 ≤ (u2_1) ∧ (u2_1) ≤ (y35_2_1) from q_2915 h4 j35_6) (show (z25) < 0 ∨ 1 ≤ (tc147_0) ∧ ((tc147_0) ≤ (y35_2_1) - (u2_1) ∨ (tc147_0) - ((y35_2_1) - (u2_1)) ≤ (y35_2_1)) by omega) (fun σ39 D39ₚ N39ₚ F39ₚ A39ₚ c39 s39 Hₚ Oₚ hD39 hN39 hS39 hA39 pm39_1 m39_1 em39_1 y39_0_1 ey39_0_1 pz39_0 pz39_1 => ⟨rfl, ?_⟩))
                      refine v_backMc (c := c_35) (s := s_35) H oz_D4cls_25 oz_D4cls_32 Hₚ Oₚ hD39 oz_D4cls_26 (fun D39 N39 F39 A39 H Oₚ eD39 eN39 eF39 eA39 => ?_)
                      have O := OUT_trans O Oₚ
                      -- Row.copyBack
                      have cF39 : SF oz_D4clsl_8 F F39 := SF_trans (cF_c186) (SF_gluc (ι := oz_D4clsl_11) oz_D4cls_32 hS39 eF39 (by decide +kernel)) (any_sub (lₚ := [(2, 0), (2, 1), (2, 2)]) (by decide +kernel))
                      have mF39 := SFm_of cF39 oz_D4cls_27
                      have cA39 : SA oz_D4clsl_9 A A39 := SA_trans (cA_c186) (SA_gluc (ι := oz_D4clsl_11) oz_D4cls_32 hA39 eA39 (by decide +kernel)) (any_subA (lₚ := [3]) (by decide +kernel))
                      have mA39 := SAm_of cA39 oz_D4cls_28
                      have cD39 : SD oz_D4clsl_9 D D39 := SD_trans (cD_35) (SD_gluc (ι := oz_D4clsl_11) oz_D4cls_32 hD39 eD39 (by decide +kernel)) (any_subA (lₚ := [3]) (by decide +kernel))
                      have mD39 := SDm_of cD39 oz_D4cls_28
                      have cN39 : SD oz_D4clsl_9 N N39 := SD_trans (cN_35) (SD_gluc (ι := oz_D4clsl_11) oz_D4cls_32 hN39 eN39 (by decide +kernel)) (any_subA (lₚ := [3]) (by decide +kernel))
                      have mN39 := SDm_of cN39 oz_D4cls_28
                      have pf39_2_0 : F39 2 0 = (D39 3 : Int) := (eF39 2 0).trans (pm39_1.trans (congrArg (fun q : Nat => (q : Int)) (eD39 3).symm))
                      have r40 : (0 : Int) ≤ m39_1 ∧ m39_1 ≤ 1000000 := nleE (H.nle 3 (ltn len_V206_oz_D4cls rfl)) (show (N39 3 : Int) = m39_1 from (congrArg (fun q : Nat => (q : Int)) (eN39 3)).trans em39_1)
                      have r41 : (-2147483648 : Int) ≤ y39_0_1 ∧ y39_0_1 ≤ 2147483647 := rngE (show (-2147483648 : Int) ≤ F39 2 1 ∧ F39 2 1 ≤ 2147483647 from H.krg 2 1 (ltn len_V206_oz_D4cls rfl)) (show F39 2 1 = y39_0_1 from ((eF39 2 1).trans ey39_0_1))
                      refine Ew_of (pcₚ := 294) (fun _ => x_goto rfl rfl) ?_
                      exact hc294  _ _ _ _ _ _ _ _ ((x35_6 + (1 + z22))) ((rk_o (lc186_0) rfl rfl).trans (congrArg (fun q : Nat => some (Value.ref q)) (((show D39 0 = D_35 0 from (eD39 0)))).symm)) (rk_o (lc186_2) rfl rfl) (rk_o (lc186_5) rfl rfl) (rk_s) (rk_o (lc186_7) rfl rfl) H O (SD_trans (SD_refl) (SD_gluc (ι := oz_D4clsl_11) oz_D4cls_32 hD39 eD39 (by decide +kernel)) (any_subA (lₚ := [3]) (by decide +kernel))) (SD_trans (SD_refl) (SD_gluc (ι := oz_D4clsl_11) oz_D4cls_32 hN39 eN39 (by decide +kernel)) (any_subA (lₚ := [3]) (by decide +kernel))) (SF_trans (SF_refl) (SF_gluc (ι := oz_D4clsl_11) oz_D4cls_32 hS39 eF39 (by decide +kernel)) (any_sub (lₚ := [(2, 0), (2, 1), (2, 2)]) (by decide +kernel))) (SA_trans (SA_refl) (SA_gluc (ι := oz_D4clsl_11) oz_D4cls_32 hA39 eA39 (by decide +kernel)) (any_subA (lₚ := [3]) (by decide +kernel))) (pf39_2_0) (m39_1) ((congrArg (fun q : Nat => (q : Int)) (eN39 3)).trans em39_1) (y39_0_1) (((eF39 2 1).trans ey39_0_1))  (show inr ((x35_6 + (1 + z22))) from q_2912 b23 h3 j35_4 pz22_1) (show 0 ≤ ((x35_6 + (1 + z22))) ∧ ((x35_6 + (1 + z22))) ≤ (a2) from q_2916 b23 j35_4 pz22_1) (show 0 ≤ (y39_0_1) ∧ (y39_0_1) ≤ (m39_1) ∧ (m39_1) ≤ 65536 from pz39_0) (show (u2_1) ≤ (y39_0_1) ∧ (u2_1) = (u2_1) from q_2913 j35_6 pz25_1 pz39_1) (show (y39_0_1) - (u2_1) ≤ (y6_0_7) by omega)
                  · refine Ew_of (pcₚ := 209) (fun _ => x_aload_n rfl lc186_0) ?_
                    refine Ew_of (pcₚ := 210) (fun _ => x_iconst rfl) ?_
                    refine Ew_of (pcₚ := 212) (fun _ => x_iload rfl lc186_6) ?_
                    refine v_inv H (o := 0) rfl rfl rfl rfl rfl rfl (by rfl) (C203 (D := puc 0 D_35) (N := puc 0 N_35) (HW_subc H oz_D4cls_19 oz_D4cls_10) (y6_0_8) (((((((((hS_c186 0 8 rfl).trans (hS_c147 0 8 rfl)).trans (hS_c121 0 8 rfl)).trans ((show F25 0 8 = F24 0 8 from (eF25 0 8)))).trans ((show F24 0 8 = F22 0 8 from (eF24 0 8)))).trans ((show F22 0 8 = F_35 0 8 from (eF22 0 8)))).trans (hS_35 0 8 rfl)).trans ((eF6 0 8).trans ey6_0_8))) (show inr (5) from q_509) (show inr (x35_6) from j35_0) (fun z42 σ42 F42ₚ A42ₚ Hₚ Oₚ hS42 hA42 y42_0_8 ey42_0_8 pz42_0 pz42_1 pz42_2 => ⟨rfl, ?_⟩))
                    refine v_backc (c := c_35) (s := s_35) H oz_D4cls_19 oz_D4cls_10 Hₚ Oₚ (fun F42 A42 H Oₚ eF42 eA42 => ?_)
                    have O := OUT_trans O Oₚ
                    -- Tags.fail
                    have cF42 : SF oz_D4clsl_8 F F42 := SF_trans (cF_c186) (SF_gluc (ι := oz_D4clsl_4) oz_D4cls_10 hS42 eF42 (by decide +kernel)) (any_sub (lₚ := [(0, 8)]) (by decide +kernel))
                    have mF42 := SFm_of cF42 oz_D4cls_27
                    have cA42 : SA oz_D4clsl_9 A A42 := SA_trans (cA_c186) (SA_gluc (ι := oz_D4clsl_4) oz_D4cls_10 hA42 eA42 (by decide +kernel)) (any_subA (lₚ := []) (by decide +kernel))
                    have mA42 := SAm_of cA42 oz_D4cls_28
                    have r43 : (-2147483648 : Int) ≤ y42_0_8 ∧ y42_0_8 ≤ 2147483647 := rngE (show (-2147483648 : Int) ≤ F42 0 8 ∧ F42 0 8 ≤ 2147483647 from H.krg 0 8 (ltn len_V206_oz_D4cls rfl)) (show F42 0 8 = y42_0_8 from ((eF42 0 8).trans ey42_0_8))
                    exact w_ireturn rfl (k (z42) _ _ _ _ _ _ _ H O (cD_35) (cN_35) (cF42) (cA42) ((((((((((show F42 2 0 = F_c186 2 0 from (eF42 2 0))).trans (hS_c186 2 0 rfl)).trans (hS_c147 2 0 rfl)).trans (hS_c121 2 0 rfl)).trans ((show F25 2 0 = F24 2 0 from (eF25 2 0)))).trans ((show F24 2 0 = F22 2 0 from (eF24 2 0)))).trans ((show F22 2 0 = F_35 2 0 from (eF22 2 0))))).trans (pm35_3)) (m35_3) (em35_3) (y35_2_1) ((((((((((show F42 2 1 = F_c186 2 1 from (eF42 2 1))).trans (hS_c186 2 1 rfl)).trans (hS_c147 2 1 rfl)).trans (hS_c121 2 1 rfl)).trans ((show F25 2 1 = F24 2 1 from (eF25 2 1)))).trans ((show F24 2 1 = F22 2 1 from (eF24 2 1)))).trans ((show F22 2 1 = F_35 2 1 from (eF22 2 1)))).trans (ey35_2_1))) (show inr (z42) from pz42_0) (show 0 ≤ (z42) ∧ (z42) ≤ 6 from q_2917 pz42_1) (show 0 ≤ (y35_2_1) ∧ (y35_2_1) ≤ (m35_3) ∧ (m35_3) ≤ 65536 from j35_5) (show (u2_1) ≤ (y35_2_1) from q_2902 j35_6) (show (y35_2_1) ≤ (u2_1) + a3 ∨ (y35_2_1) = (u2_1) from q_2901 b9 j35_7 pz6_2))
                refine w_ifeq (t := 186) rfl rfl (show inr (tc121_0) from jc121_0) (fun b44 => ?_) (fun b44 => ?_)
                · exact hc186  _ _ _ _  (rk2_o (lc147_0) rfl rfl) (rk2_o (lc147_2) rfl rfl) (rk2_o (lc147_5) rfl rfl) (rk2_o (lc147_6) rfl rfl) (rk2_o (lc147_7) rfl rfl) (rk2_o (lc147_9) rfl rfl) (rk2_o (lc147_12) rfl rfl) (rk2_o (lc147_14) rfl rfl) (rk2_s) H O (SF_refl) (SA_refl)     (show ((tc121_0) = (0)) ∨ ((tc121_0) ≠ (0) ∧ (tc147_0) ≠ (0) ∧ (tc147_0) ≤ ((y35_2_1 - u2_1))) from q_2918 b44)
                · refine Ew_of (pcₚ := 156) (fun _ => x_lload rfl rk2_s) ?_
                  refine Ew_of (pcₚ := 157) (fun _ => x_lconst (z := 0) rfl (by decide)) ?_
                  refine w_lcmp rfl (show inrJ (tc147_0) from jc147_0) (show inrJ (0) from q_81) (fun z45 gz45 gaz45 gbz45 => ?_)
                  refine w_ifeq (t := 178) rfl rfl (show inr (z45) from gz45) (fun b46 => ?_) (fun b46 => ?_)
                  · refine Ew_of (pcₚ := 179) (fun _ => x_aload_n rfl (rk2_o (lc147_0) rfl rfl)) ?_
                    refine Ew_of (pcₚ := 180) (fun _ => x_iconst rfl) ?_
                    refine Ew_of (pcₚ := 182) (fun _ => x_iload rfl (rk2_o (lc147_6) rfl rfl)) ?_
                    refine v_inv H (o := 0) rfl rfl rfl rfl rfl rfl (by rfl) (C203 (D := puc 0 D_35) (N := puc 0 N_35) (HW_subc H oz_D4cls_19 oz_D4cls_10) (y6_0_8) ((((((((hS_c147 0 8 rfl).trans (hS_c121 0 8 rfl)).trans ((show F25 0 8 = F24 0 8 from (eF25 0 8)))).trans ((show F24 0 8 = F22 0 8 from (eF24 0 8)))).trans ((show F22 0 8 = F_35 0 8 from (eF22 0 8)))).trans (hS_35 0 8 rfl)).trans ((eF6 0 8).trans ey6_0_8))) (show inr (4) from q_2) (show inr (x35_6) from j35_0) (fun z47 σ47 F47ₚ A47ₚ Hₚ Oₚ hS47 hA47 y47_0_8 ey47_0_8 pz47_0 pz47_1 pz47_2 => ⟨rfl, ?_⟩))
                    refine v_backc (c := c_35) (s := s_35) H oz_D4cls_19 oz_D4cls_10 Hₚ Oₚ (fun F47 A47 H Oₚ eF47 eA47 => ?_)
                    have O := OUT_trans O Oₚ
                    -- Tags.fail
                    have cF47 : SF oz_D4clsl_8 F F47 := SF_trans (cF_c147) (SF_gluc (ι := oz_D4clsl_4) oz_D4cls_10 hS47 eF47 (by decide +kernel)) (any_sub (lₚ := [(0, 8)]) (by decide +kernel))
                    have mF47 := SFm_of cF47 oz_D4cls_27
                    have cA47 : SA oz_D4clsl_9 A A47 := SA_trans (cA_c147) (SA_gluc (ι := oz_D4clsl_4) oz_D4cls_10 hA47 eA47 (by decide +kernel)) (any_subA (lₚ := []) (by decide +kernel))
                    have mA47 := SAm_of cA47 oz_D4cls_28
                    have r48 : (-2147483648 : Int) ≤ y47_0_8 ∧ y47_0_8 ≤ 2147483647 := rngE (show (-2147483648 : Int) ≤ F47 0 8 ∧ F47 0 8 ≤ 2147483647 from H.krg 0 8 (ltn len_V206_oz_D4cls rfl)) (show F47 0 8 = y47_0_8 from ((eF47 0 8).trans ey47_0_8))
                    exact w_ireturn rfl (k (z47) _ _ _ _ _ _ _ H O (cD_35) (cN_35) (cF47) (cA47) (((((((((show F47 2 0 = F_c147 2 0 from (eF47 2 0))).trans (hS_c147 2 0 rfl)).trans (hS_c121 2 0 rfl)).trans ((show F25 2 0 = F24 2 0 from (eF25 2 0)))).trans ((show F24 2 0 = F22 2 0 from (eF24 2 0)))).trans ((show F22 2 0 = F_35 2 0 from (eF22 2 0))))).trans (pm35_3)) (m35_3) (em35_3) (y35_2_1) (((((((((show F47 2 1 = F_c147 2 1 from (eF47 2 1))).trans (hS_c147 2 1 rfl)).trans (hS_c121 2 1 rfl)).trans ((show F25 2 1 = F24 2 1 from (eF25 2 1)))).trans ((show F24 2 1 = F22 2 1 from (eF24 2 1)))).trans ((show F22 2 1 = F_35 2 1 from (eF22 2 1)))).trans (ey35_2_1))) (show inr (z47) from pz47_0) (show 0 ≤ (z47) ∧ (z47) ≤ 6 from q_2919 pz47_1) (show 0 ≤ (y35_2_1) ∧ (y35_2_1) ≤ (m35_3) ∧ (m35_3) ≤ 65536 from j35_5) (show (u2_1) ≤ (y35_2_1) from q_2902 j35_6) (show (y35_2_1) ≤ (u2_1) + a3 ∨ (y35_2_1) = (u2_1) from q_2901 b9 j35_7 pz6_2))
                  · refine Ew_of (pcₚ := 163) (fun _ => x_lload rfl rk2_s) ?_
                    refine Ew_of (pcₚ := 164) (fun _ => x_aload_n rfl (rk2_o (lc147_0) rfl rfl)) ?_
                    refine v_g H (o := 0) (v := .ref (D_35 2)) rfl rfl rfl rfl rfl (vrf ((mF_c147 0 5 rfl).trans ((pf2).trans (congrArg (fun q : Nat => (q : Int)) (mD_35 2 rfl).symm)))) ?_
                    refine v_g H (o := 2) (v := I (y35_2_1)) rfl rfl rfl rfl rfl (congrArg (fun z : Int => I z) (((((((hS_c147 2 1 rfl).trans (hS_c121 2 1 rfl)).trans ((show F25 2 1 = F24 2 1 from (eF25 2 1)))).trans ((show F24 2 1 = F22 2 1 from (eF24 2 1)))).trans ((show F22 2 1 = F_35 2 1 from (eF22 2 1)))).trans (ey35_2_1)) : F_c147 2 1 = y35_2_1)) ?_
                    refine Ew_of (pcₚ := 172) (fun _ => x_iload rfl (rk2_o (lc147_5) rfl rfl)) ?_
                    refine w_isub rfl ?_
                    refine w_i2l rfl (show inr ((y35_2_1 - u2_1)) from q_2899 h4 j35_5 j35_6) ?_
                    refine w_lcmp rfl (show inrJ (tc147_0) from jc147_0) (show inrJ ((y35_2_1 - u2_1)) from q_2900 h4 j35_5 j35_6) (fun z49 gz49 gaz49 gbz49 => ?_)
                    refine w_ifle (t := 186) rfl rfl (show inr (z49) from gz49) (fun b50 => ?_) (fun b50 => ?_)
                    · exact hc186  _ _ _ _  (rk2_o (lc147_0) rfl rfl) (rk2_o (lc147_2) rfl rfl) (rk2_o (lc147_5) rfl rfl) (rk2_o (lc147_6) rfl rfl) (rk2_o (lc147_7) rfl rfl) (rk2_o (lc147_9) rfl rfl) (rk2_o (lc147_12) rfl rfl) (rk2_o (lc147_14) rfl rfl) (rk2_s) H O (SF_refl) (SA_refl)     (show ((tc121_0) = (0)) ∨ ((tc121_0) ≠ (0) ∧ (tc147_0) ≠ (0) ∧ (tc147_0) ≤ ((y35_2_1 - u2_1))) by omega)
                    · refine Ew_of (pcₚ := 179) (fun _ => x_aload_n rfl (rk2_o (lc147_0) rfl rfl)) ?_
                      refine Ew_of (pcₚ := 180) (fun _ => x_iconst rfl) ?_
                      refine Ew_of (pcₚ := 182) (fun _ => x_iload rfl (rk2_o (lc147_6) rfl rfl)) ?_
                      refine v_inv H (o := 0) rfl rfl rfl rfl rfl rfl (by rfl) (C203 (D := puc 0 D_35) (N := puc 0 N_35) (HW_subc H oz_D4cls_19 oz_D4cls_10) (y6_0_8) ((((((((hS_c147 0 8 rfl).trans (hS_c121 0 8 rfl)).trans ((show F25 0 8 = F24 0 8 from (eF25 0 8)))).trans ((show F24 0 8 = F22 0 8 from (eF24 0 8)))).trans ((show F22 0 8 = F_35 0 8 from (eF22 0 8)))).trans (hS_35 0 8 rfl)).trans ((eF6 0 8).trans ey6_0_8))) (show inr (4) from q_2) (show inr (x35_6) from j35_0) (fun z51 σ51 F51ₚ A51ₚ Hₚ Oₚ hS51 hA51 y51_0_8 ey51_0_8 pz51_0 pz51_1 pz51_2 => ⟨rfl, ?_⟩))
                      refine v_backc (c := c_35) (s := s_35) H oz_D4cls_19 oz_D4cls_10 Hₚ Oₚ (fun F51 A51 H Oₚ eF51 eA51 => ?_)
                      have O := OUT_trans O Oₚ
                      -- Tags.fail
                      have cF51 : SF oz_D4clsl_8 F F51 := SF_trans (cF_c147) (SF_gluc (ι := oz_D4clsl_4) oz_D4cls_10 hS51 eF51 (by decide +kernel)) (any_sub (lₚ := [(0, 8)]) (by decide +kernel))
                      have mF51 := SFm_of cF51 oz_D4cls_27
                      have cA51 : SA oz_D4clsl_9 A A51 := SA_trans (cA_c147) (SA_gluc (ι := oz_D4clsl_4) oz_D4cls_10 hA51 eA51 (by decide +kernel)) (any_subA (lₚ := []) (by decide +kernel))
                      have mA51 := SAm_of cA51 oz_D4cls_28
                      have r52 : (-2147483648 : Int) ≤ y51_0_8 ∧ y51_0_8 ≤ 2147483647 := rngE (show (-2147483648 : Int) ≤ F51 0 8 ∧ F51 0 8 ≤ 2147483647 from H.krg 0 8 (ltn len_V206_oz_D4cls rfl)) (show F51 0 8 = y51_0_8 from ((eF51 0 8).trans ey51_0_8))
                      exact w_ireturn rfl (k (z51) _ _ _ _ _ _ _ H O (cD_35) (cN_35) (cF51) (cA51) (((((((((show F51 2 0 = F_c147 2 0 from (eF51 2 0))).trans (hS_c147 2 0 rfl)).trans (hS_c121 2 0 rfl)).trans ((show F25 2 0 = F24 2 0 from (eF25 2 0)))).trans ((show F24 2 0 = F22 2 0 from (eF24 2 0)))).trans ((show F22 2 0 = F_35 2 0 from (eF22 2 0))))).trans (pm35_3)) (m35_3) (em35_3) (y35_2_1) (((((((((show F51 2 1 = F_c147 2 1 from (eF51 2 1))).trans (hS_c147 2 1 rfl)).trans (hS_c121 2 1 rfl)).trans ((show F25 2 1 = F24 2 1 from (eF25 2 1)))).trans ((show F24 2 1 = F22 2 1 from (eF24 2 1)))).trans ((show F22 2 1 = F_35 2 1 from (eF22 2 1)))).trans (ey35_2_1))) (show inr (z51) from pz51_0) (show 0 ≤ (z51) ∧ (z51) ≤ 6 from q_2919 pz51_1) (show 0 ≤ (y35_2_1) ∧ (y35_2_1) ≤ (m35_3) ∧ (m35_3) ≤ 65536 from j35_5) (show (u2_1) ≤ (y35_2_1) from q_2902 j35_6) (show (y35_2_1) ≤ (u2_1) + a3 ∨ (y35_2_1) = (u2_1) from q_2901 b9 j35_7 pz6_2))
              refine Ew_of (pcₚ := 125) (fun _ => x_iload rfl (rk_o (lc121_8) rfl rfl)) ?_
              refine Ew_of (pcₚ := 126) (fun _ => x_iconst rfl) ?_
              refine w_iand rfl (show inr (z21) from gz21) (show inr (3) from q_66) (fun z53 gz53 gaz53 gbz53 => ?_)
              refine Ew_of (pcₚ := 128) (fun _ => x_iconst rfl) ?_
              refine w_icmpne (t := 145) rfl rfl (show inr (z53) from gz53) (show inr (1) from q_23) (fun b54 => ?_) (fun b54 => ?_)
              · refine Ew_of (pcₚ := 147) (fun _ => x_lload rfl (rk_o (lc121_10) rfl rfl)) ?_
                exact hc147 (z24) _ _ _ _  (rk_o (lc121_0) rfl rfl) (rk_o (lc121_2) rfl rfl) (rk_o (lc121_5) rfl rfl) (rk_o (lc121_6) rfl rfl) (rk_o (lc121_7) rfl rfl) (rk_o (lc121_9) rfl rfl) (rk_o (lc121_12) rfl rfl) (rk_s) H O (SF_refl) (SA_refl)     (show inrJ (z24) from pz24_0) (show 0 ≤ (z24) ∧ (z24) ≤ 4294969343 from q_2920 hnb)
              · refine Ew_of (pcₚ := 133) (fun _ => x_lload rfl (rk_o (lc121_10) rfl rfl)) ?_
                refine Ew_of (pcₚ := 135) (fun _ => x_iload rfl (rk_o (lc121_8) rfl rfl)) ?_
                refine Ew_of (pcₚ := 136) (fun _ => x_iconst rfl) ?_
                refine w_ishrK 5 32 (by decide) (by decide) rfl (show inr (z21) from gz21) (fun z55 gz55 dz55 => ?_)
                refine Ew_of (pcₚ := 139) (fun _ => x_bipush (z := 8) rfl (by decide)) ?_
                refine w_ishlK 8 256 (by decide) (by decide) rfl (fun z56 gz56 dz56 => ?_)
                refine w_i2l rfl (show inr (z56) by omega) ?_
                refine w_ladd rfl ?_
                refine Ew_of (pcₚ := 147) (fun _ => x_goto rfl rfl) ?_
                exact hc147 ((z24 + z56)) _ _ _ _  (rk_o (lc121_0) rfl rfl) (rk_o (lc121_2) rfl rfl) (rk_o (lc121_5) rfl rfl) (rk_o (lc121_6) rfl rfl) (rk_o (lc121_7) rfl rfl) (rk_o (lc121_9) rfl rfl) (rk_o (lc121_12) rfl rfl) (rk_s) H O (SF_refl) (SA_refl)     (show inrJ ((z24 + z56)) by omega) (show 0 ≤ ((z24 + z56)) ∧ ((z24 + z56)) ≤ 4294969343 by omega)
            refine w_ifeq (t := 120) rfl rfl (show inr (z26) from gz26) (fun b57 => ?_) (fun b57 => ?_)
            · refine Ew_of (pcₚ := 121) (fun _ => x_iconst rfl) ?_
              exact hc121 (0) _ _ _ _  (rk2_o (rk2_o (rk_o (rk_o (l35_0) rfl rfl) rfl rfl) rfl rfl) rfl rfl) (rk2_o (rk2_o (rk_o (rk_o (l35_2) rfl rfl) rfl rfl) rfl rfl) rfl rfl) (rk2_o (rk2_o (rk_o (rk_o (l35_5) rfl rfl) rfl rfl) rfl rfl) rfl rfl) (rk2_o (rk2_o (rk_o (rk_o (l35_6) rfl rfl) rfl rfl) rfl rfl) rfl rfl) (rk2_o (rk2_o (rk_o (rk_o (l35_7) rfl rfl) rfl rfl) rfl rfl) rfl rfl) (rk2_o (rk2_o (rk_o (rk_s) rfl rfl) rfl rfl) rfl rfl) (rk2_o (rk2_o (rk_s) rfl rfl) rfl rfl) (rk2_o (rk2_s) rfl rfl) (rk2_s) H O (SF_refl) (SA_refl)     (show inr (0) from q_20) (show ((z26) = (0) ∧ (0) = (0)) ∨ ((z26) ≠ (0) ∧ (0) = (1)) from q_654 b57)
            · refine Ew_of (pcₚ := 117) (fun _ => x_iconst rfl) ?_
              refine Ew_of (pcₚ := 121) (fun _ => x_goto rfl rfl) ?_
              exact hc121 (1) _ _ _ _  (rk2_o (rk2_o (rk_o (rk_o (l35_0) rfl rfl) rfl rfl) rfl rfl) rfl rfl) (rk2_o (rk2_o (rk_o (rk_o (l35_2) rfl rfl) rfl rfl) rfl rfl) rfl rfl) (rk2_o (rk2_o (rk_o (rk_o (l35_5) rfl rfl) rfl rfl) rfl rfl) rfl rfl) (rk2_o (rk2_o (rk_o (rk_o (l35_6) rfl rfl) rfl rfl) rfl rfl) rfl rfl) (rk2_o (rk2_o (rk_o (rk_o (l35_7) rfl rfl) rfl rfl) rfl rfl) rfl rfl) (rk2_o (rk2_o (rk_o (rk_s) rfl rfl) rfl rfl) rfl rfl) (rk2_o (rk2_o (rk_s) rfl rfl) rfl rfl) (rk2_o (rk2_s) rfl rfl) (rk2_s) H O (SF_refl) (SA_refl)     (show inr (1) from q_23) (show ((z26) = (0) ∧ (1) = (0)) ∨ ((z26) ≠ (0) ∧ (1) = (1)) from q_655 b57)
          · refine Ew_of (pcₚ := 79) (fun _ => x_aload_n rfl (rk_o (rk_o (l35_0) rfl rfl) rfl rfl)) ?_
            refine Ew_of (pcₚ := 80) (fun _ => x_iconst rfl) ?_
            refine Ew_of (pcₚ := 81) (fun _ => x_iload_n rfl (rk_o (rk_o (l35_2) rfl rfl) rfl rfl)) ?_
            refine v_inv H (o := 0) rfl rfl rfl rfl rfl rfl (by rfl) (C203 (D := puc 0 D_35) (N := puc 0 N_35) (HW_subc H oz_D4cls_19 oz_D4cls_10) (y6_0_8) (((((show F22 0 8 = F_35 0 8 from (eF22 0 8))).trans (hS_35 0 8 rfl)).trans ((eF6 0 8).trans ey6_0_8))) (show inr (1) from q_23) (show inr (a2) from h1) (fun z58 σ58 F58ₚ A58ₚ Hₚ Oₚ hS58 hA58 y58_0_8 ey58_0_8 pz58_0 pz58_1 pz58_2 => ⟨rfl, ?_⟩))
            refine v_backc (c := c_35) (s := s_35) H oz_D4cls_19 oz_D4cls_10 Hₚ Oₚ (fun F58 A58 H Oₚ eF58 eA58 => ?_)
            have O := OUT_trans O Oₚ
            -- Tags.fail
            have cF58 : SF oz_D4clsl_8 F F58 := SF_trans (cF22) (SF_gluc (ι := oz_D4clsl_4) oz_D4cls_10 hS58 eF58 (by decide +kernel)) (any_sub (lₚ := [(0, 8)]) (by decide +kernel))
            have mF58 := SFm_of cF58 oz_D4cls_27
            have cA58 : SA oz_D4clsl_9 A A58 := SA_trans (cA22) (SA_gluc (ι := oz_D4clsl_4) oz_D4cls_10 hA58 eA58 (by decide +kernel)) (any_subA (lₚ := []) (by decide +kernel))
            have mA58 := SAm_of cA58 oz_D4cls_28
            have r59 : (-2147483648 : Int) ≤ y58_0_8 ∧ y58_0_8 ≤ 2147483647 := rngE (show (-2147483648 : Int) ≤ F58 0 8 ∧ F58 0 8 ≤ 2147483647 from H.krg 0 8 (ltn len_V206_oz_D4cls rfl)) (show F58 0 8 = y58_0_8 from ((eF58 0 8).trans ey58_0_8))
            exact w_ireturn rfl (k (z58) _ _ _ _ _ _ _ H O (cD_35) (cN_35) (cF58) (cA58) (((((show F58 2 0 = F22 2 0 from (eF58 2 0))).trans ((show F22 2 0 = F_35 2 0 from (eF22 2 0))))).trans (pm35_3)) (m35_3) (em35_3) (y35_2_1) (((((show F58 2 1 = F22 2 1 from (eF58 2 1))).trans ((show F22 2 1 = F_35 2 1 from (eF22 2 1)))).trans (ey35_2_1))) (show inr (z58) from pz58_0) (show 0 ≤ (z58) ∧ (z58) ≤ 6 from q_2914 pz58_1) (show 0 ≤ (y35_2_1) ∧ (y35_2_1) ≤ (m35_3) ∧ (m35_3) ≤ 65536 from j35_5) (show (u2_1) ≤ (y35_2_1) from q_2902 j35_6) (show (y35_2_1) ≤ (u2_1) + a3 ∨ (y35_2_1) = (u2_1) from q_2901 b9 j35_7 pz6_2))
  · refine Ew_of (pcₚ := 16) (fun _ => x_iload rfl rk_s) ?_
    exact w_ireturn rfl (k (z6) _ _ _ _ _ _ _ H O (SD_refl) (SD_refl) (cF6) (cA6) ((((show F6 2 0 = F 2 0 from (eF6 2 0)))).trans (pf3)) (n3) (en3) (u2_1) ((((show F6 2 1 = F 2 1 from (eF6 2 1))).trans (eu2_1))) (show inr (z6) from pz6_0) (show 0 ≤ (z6) ∧ (z6) ≤ 6 from q_2922 pz6_1) (show 0 ≤ (u2_1) ∧ (u2_1) ≤ (n3) ∧ (n3) ≤ 65536 from h4) (show (u2_1) ≤ (u2_1) from q_102) (show (u2_1) ≤ (u2_1) + a3 ∨ (u2_1) = (u2_1) from q_2921))
abbrev V205_Row_Row : vV := [(0, 10, [(4, 0), (4, 0), (4, 0), (4, 0), (0, 0), (4, 0), (0, 0), (2, 0), (0, 0)]), (0, 7, [(4, 0), (0, 0), (1, 0), (0, 0), (0, 0)]), (0, 7, [(4, 0), (0, 0), (1, 0), (0, 0), (0, 0)]), (1, 0, []), (1, 0, [])]
theorem len_V205_Row_Row_oz_D4cls : (V205_Row_Row).length = 5 := by decide +kernel
theorem oz_D4cls_34 : vsub V205_Row_Row V204_Row_Row [0, 1, 2, 3] = true := by decide +kernel
theorem oz_D4cls_35 : vsub V205_Row_Row V206 [0, 3, 2, 4] = true := by decide +kernel
theorem oz_D4cls_36 : vmov V205_Row_Row [0, 3, 2, 4] [3] = true := by decide +kernel
def oz_D4clsl_12 : List (Nat × Nat) := [(0, 3), (0, 4), (0, 5), (0, 6), (0, 7), (0, 8), (2, 0), (2, 1), (2, 2)]
theorem oz_D4cls_37 : (oz_D4clsl_12).all (fun p => !tbz 129127208515966861816 (Nat.add (Nat.mul 32 p.1) p.2)) = true := by decide +kernel
def oz_D4clsl_13 : List Nat := [4]
theorem oz_D4cls_38 : (oz_D4clsl_13).all (fun p => !tbz 16 p) = true := by decide +kernel
def oz_D4clsl_14 : List Nat := [0, 1, 2, 3]
theorem oz_D4cls_39 : okc oz_D4clsl_14 403177984 = true := by decide +kernel
def oz_D4clsl_15 : List Nat := [0, 3, 2, 4]
theorem oz_D4cls_40 : okc oz_D4clsl_15 537396736 = true := by decide +kernel
/-- Tags.unpackAlone: this, #1, #2, #1.bytes, #2.bytes -/
theorem C205_Row_Row {σE : rS} {D N : Nat → Nat} {F : hF} {A : hA} {d c s : Nat} {Q : wQ} (H : HW V205_Row_Row σE D N F A) {a3 : Int} (pf3 : F 1 0 = (D 3 : Int)) (pf4 : F 2 0 = (D 4 : Int)) (n3 : Int) (en3 : (N 3 : Int) = n3) (n4 : Int) (en4 : (N 4 : Int) = n4) (u1_1 : Int) (eu1_1 : F 1 1 = u1_1) (u2_1 : Int) (eu2_1 : F 2 1 = u2_1) (h0 : inr (a3)) (h1 : 0 ≤ (u1_1) ∧ (u1_1) ≤ (n3) ∧ (n3) ≤ 65536) (h2 : 0 ≤ (u2_1) ∧ (u2_1) ≤ (n4) ∧ (n4) ≤ 65536) (h3 : 0 ≤ (a3) ∧ (a3) ≤ 65536) (k : ∀ (z : Int) (σ : rS) (Dₚ Nₚ : Nat → Nat) (Fₚ : hF) (Aₚ : hA) (cₚ sₚ : Nat), HW V205_Row_Row σ Dₚ Nₚ Fₚ Aₚ → OUT (V205_Row_Row).length D N σE c s Dₚ Nₚ σ cₚ sₚ → SD [4] D Dₚ → SD [4] N Nₚ → SF [(0, 3), (0, 4), (0, 5), (0, 6), (0, 7), (0, 8), (2, 0), (2, 1), (2, 2)] F Fₚ → SA [4] A Aₚ → Fₚ 2 0 = (Dₚ 4 : Int) → ∀ m4 : Int, (Nₚ 4 : Int) = m4 → ∀ y2_1 : Int, Fₚ 2 1 = y2_1 → (inr (z)) → (0 ≤ (z) ∧ (z) ≤ 6) → (0 ≤ (y2_1) ∧ (y2_1) ≤ (m4) ∧ (m4) ≤ 65536) → Q (some (I z)) σ cₚ sₚ) : Ew 205 (d + 4) 0 (rargs 0 [.ref (D 0), .ref (D 1), .ref (D 2), I a3]) [] σE c s Q := by
  have O := OUT_refl (n := (V205_Row_Row).length) (D := D) (N := N) (σ := σE) (c := c) (s := s)
  have HE := H
  have r1 : (-2147483648 : Int) ≤ u1_1 ∧ u1_1 ≤ 2147483647 := rngE (show (-2147483648 : Int) ≤ F 1 1 ∧ F 1 1 ≤ 2147483647 from H.krg 1 1 (ltn len_V205_Row_Row_oz_D4cls rfl)) (show F 1 1 = u1_1 from (eu1_1))
  have r2 : (-2147483648 : Int) ≤ u2_1 ∧ u2_1 ≤ 2147483647 := rngE (show (-2147483648 : Int) ≤ F 2 1 ∧ F 2 1 ≤ 2147483647 from H.krg 2 1 (ltn len_V205_Row_Row_oz_D4cls rfl)) (show F 2 1 = u2_1 from (eu2_1))
  have r3 : (0 : Int) ≤ n3 ∧ n3 ≤ 1000000 := nleE (H.nle 3 (ltn len_V205_Row_Row_oz_D4cls rfl)) (show (N 3 : Int) = n3 from en3)
  have r4 : (0 : Int) ≤ n4 ∧ n4 ≤ 1000000 := nleE (H.nle 4 (ltn len_V205_Row_Row_oz_D4cls rfl)) (show (N 4 : Int) = n4 from en4)
  refine Ew_of (pcₚ := 1) (fun _ => x_aload_n rfl rfl) ?_
  refine Ew_of (pcₚ := 2) (fun _ => x_aload_n rfl rfl) ?_
  refine Ew_of (pcₚ := 3) (fun _ => x_aload_n rfl rfl) ?_
  refine Ew_of (pcₚ := 4) (fun _ => x_iload_n rfl rfl) ?_
  have r5 : (-2147483648 : Int) ≤ F 0 4 ∧ F 0 4 ≤ 2147483647 := H.krg 0 4 (ltn len_V205_Row_Row_oz_D4cls rfl)
  have r6 : (-2147483648 : Int) ≤ F 0 6 ∧ F 0 6 ≤ 2147483647 := H.krg 0 6 (ltn len_V205_Row_Row_oz_D4cls rfl)
  have r7 : (-2147483648 : Int) ≤ F 0 8 ∧ F 0 8 ≤ 2147483647 := H.krg 0 8 (ltn len_V205_Row_Row_oz_D4cls rfl)
  refine v_inv H (o := 0) rfl rfl rfl rfl rfl rfl (by rfl) (C204_Row_Row (D := puc 403177984 D) (N := puc 403177984 N) (HW_subc H oz_D4cls_34 oz_D4cls_39) (pf3) (n3) (en3) (F 0 4) (rfl) (F 0 6) (rfl) (F 0 8) (rfl) (u1_1) ((eu1_1)) (show inr (a3) from h0) (fun σ8 F8ₚ A8ₚ Hₚ Oₚ hS8 hA8 y8_0_4 ey8_0_4 y8_0_6 ey8_0_6 y8_0_8 ey8_0_8 pq8_0 pq8_1 pz8_0 => ⟨rfl, ?_⟩))
  refine v_backc (c := c) (s := s) H oz_D4cls_34 oz_D4cls_39 Hₚ Oₚ (fun F8 A8 H Oₚ eF8 eA8 => ?_)
  have O := OUT_trans O Oₚ
  -- Tags.begin
  have cF8 : SF oz_D4clsl_12 F F8 := SF_trans (SF_refl) (SF_gluc (ι := oz_D4clsl_14) oz_D4cls_39 hS8 eF8 (by decide +kernel)) (any_sub (lₚ := [(0, 3), (0, 4), (0, 5), (0, 6), (0, 8)]) (by decide +kernel))
  have mF8 := SFm_of cF8 oz_D4cls_37
  have cA8 : SA oz_D4clsl_13 A A8 := SA_trans (SA_refl) (SA_gluc (ι := oz_D4clsl_14) oz_D4cls_39 hA8 eA8 (by decide +kernel)) (any_subA (lₚ := []) (by decide +kernel))
  have mA8 := SAm_of cA8 oz_D4cls_38
  have pl8_0 : F8 0 3 = (D 3 : Int) := (eF8 0 3).trans (pq8_0)
  have pl8_1 : F8 0 5 = (D 2 : Int) := (eF8 0 5).trans (pq8_1)
  have r9 : (-2147483648 : Int) ≤ y8_0_4 ∧ y8_0_4 ≤ 2147483647 := rngE (show (-2147483648 : Int) ≤ F8 0 4 ∧ F8 0 4 ≤ 2147483647 from H.krg 0 4 (ltn len_V205_Row_Row_oz_D4cls rfl)) (show F8 0 4 = y8_0_4 from ((eF8 0 4).trans ey8_0_4))
  have r10 : (-2147483648 : Int) ≤ y8_0_6 ∧ y8_0_6 ≤ 2147483647 := rngE (show (-2147483648 : Int) ≤ F8 0 6 ∧ F8 0 6 ≤ 2147483647 from H.krg 0 6 (ltn len_V205_Row_Row_oz_D4cls rfl)) (show F8 0 6 = y8_0_6 from ((eF8 0 6).trans ey8_0_6))
  have r11 : (-2147483648 : Int) ≤ y8_0_8 ∧ y8_0_8 ≤ 2147483647 := rngE (show (-2147483648 : Int) ≤ F8 0 8 ∧ F8 0 8 ≤ 2147483647 from H.krg 0 8 (ltn len_V205_Row_Row_oz_D4cls rfl)) (show F8 0 8 = y8_0_8 from ((eF8 0 8).trans ey8_0_8))
  refine Ew_of (pcₚ := 8) (fun _ => x_aload_n rfl rfl) ?_
  refine Ew_of (pcₚ := 9) (fun _ => x_iconst rfl) ?_
  refine Ew_of (pcₚ := 10) (fun _ => x_aload_n rfl rfl) ?_
  refine v_g H (o := 0) (v := I (y8_0_4)) rfl rfl rfl rfl rfl (congrArg (fun z : Int => I z) (((eF8 0 4).trans ey8_0_4) : F8 0 4 = y8_0_4)) ?_
  refine Ew_of (pcₚ := 14) (fun _ => x_aload_n rfl rfl) ?_
  refine v_g H (o := 0) (v := I (y8_0_6)) rfl rfl rfl rfl rfl (congrArg (fun z : Int => I z) (((eF8 0 6).trans ey8_0_6) : F8 0 6 = y8_0_6)) ?_
  refine v_inv H (o := 0) rfl rfl rfl rfl rfl rfl (by rfl) (C206 (D := puc 537396736 D) (N := puc 537396736 N) (HW_subc H oz_D4cls_35 oz_D4cls_40) (pl8_0) (pl8_1) ((((show F8 2 0 = F 2 0 from (eF8 2 0).trans (hS8 2 0 rfl)))).trans (pf4)) (n3) (en3) (n4) (en4) (u2_1) ((((show F8 2 1 = F 2 1 from (eF8 2 1).trans (hS8 2 1 rfl))).trans (eu2_1))) (show inr (0) from q_20) (show inr (y8_0_4) from q_22 r9) (show inr (y8_0_6) from q_22 r10) (show 0 ≤ (0) ∧ (0) ≤ (y8_0_4) ∧ (y8_0_4) ≤ (n3) ∧ (n3) ≤ 65536 from q_2833 h1 pz8_0) (show 0 ≤ (u2_1) ∧ (u2_1) ≤ (n4) ∧ (n4) ≤ 65536 from h2) (show (y8_0_6) ≤ 65536 from q_2923 h3 pz8_0) (fun z12 σ12 D12ₚ N12ₚ F12ₚ A12ₚ c12 s12 Hₚ Oₚ hD12 hN12 hS12 hA12 pm12_3 m12_3 em12_3 y12_2_1 ey12_2_1 pz12_0 pz12_1 pz12_2 pz12_3 pz12_4 => ⟨rfl, ?_⟩))
  refine v_backMc (c := c) (s := s) H oz_D4cls_35 oz_D4cls_40 Hₚ Oₚ hD12 oz_D4cls_36 (fun D12 N12 F12 A12 H Oₚ eD12 eN12 eF12 eA12 => ?_)
  have O := OUT_trans O Oₚ
  -- Tags.unpackBlock
  have cF12 : SF oz_D4clsl_12 F F12 := SF_trans (cF8) (SF_gluc (ι := oz_D4clsl_15) oz_D4cls_40 hS12 eF12 (by decide +kernel)) (any_sub (lₚ := [(0, 7), (0, 8), (2, 0), (2, 1), (2, 2)]) (by decide +kernel))
  have mF12 := SFm_of cF12 oz_D4cls_37
  have cA12 : SA oz_D4clsl_13 A A12 := SA_trans (cA8) (SA_gluc (ι := oz_D4clsl_15) oz_D4cls_40 hA12 eA12 (by decide +kernel)) (any_subA (lₚ := [4]) (by decide +kernel))
  have mA12 := SAm_of cA12 oz_D4cls_38
  have cD12 : SD oz_D4clsl_13 D D12 := SD_trans (SD_refl) (SD_gluc (ι := oz_D4clsl_15) oz_D4cls_40 hD12 eD12 (by decide +kernel)) (any_subA (lₚ := [4]) (by decide +kernel))
  have mD12 := SDm_of cD12 oz_D4cls_38
  have cN12 : SD oz_D4clsl_13 N N12 := SD_trans (SD_refl) (SD_gluc (ι := oz_D4clsl_15) oz_D4cls_40 hN12 eN12 (by decide +kernel)) (any_subA (lₚ := [4]) (by decide +kernel))
  have mN12 := SDm_of cN12 oz_D4cls_38
  have pf12_0_3 : F12 0 3 = (D12 3 : Int) := ((show F12 0 3 = F8 0 3 from (eF12 0 3).trans (hS12 0 3 rfl))).trans ((pl8_0).trans (congrArg (fun q : Nat => (q : Int)) ((show D12 3 = D 3 from (eD12 3).trans (hD12 1 rfl))).symm))
  have pf12_0_5 : F12 0 5 = (D12 2 : Int) := ((show F12 0 5 = F8 0 5 from (eF12 0 5).trans (hS12 0 5 rfl))).trans ((pl8_1).trans (congrArg (fun q : Nat => (q : Int)) ((show D12 2 = D 2 from (eD12 2).trans (hD12 2 rfl))).symm))
  have pf12_2_0 : F12 2 0 = (D12 4 : Int) := (eF12 2 0).trans (pm12_3.trans (congrArg (fun q : Nat => (q : Int)) (eD12 4).symm))
  have r13 : (0 : Int) ≤ m12_3 ∧ m12_3 ≤ 1000000 := nleE (H.nle 4 (ltn len_V205_Row_Row_oz_D4cls rfl)) (show (N12 4 : Int) = m12_3 from (congrArg (fun q : Nat => (q : Int)) (eN12 4)).trans em12_3)
  have r14 : (-2147483648 : Int) ≤ y12_2_1 ∧ y12_2_1 ≤ 2147483647 := rngE (show (-2147483648 : Int) ≤ F12 2 1 ∧ F12 2 1 ≤ 2147483647 from H.krg 2 1 (ltn len_V205_Row_Row_oz_D4cls rfl)) (show F12 2 1 = y12_2_1 from ((eF12 2 1).trans ey12_2_1))
  exact w_ireturn rfl (k (z12) _ _ _ _ _ _ _ H O (cD12) (cN12) (cF12) (cA12) (pf12_2_0) (m12_3) ((congrArg (fun q : Nat => (q : Int)) (eN12 4)).trans em12_3) (y12_2_1) (((eF12 2 1).trans ey12_2_1)) (show inr (z12) from pz12_0) (show 0 ≤ (z12) ∧ (z12) ≤ 6 from pz12_1) (show 0 ≤ (y12_2_1) ∧ (y12_2_1) ≤ (m12_3) ∧ (m12_3) ≤ 65536 from pz12_2))
