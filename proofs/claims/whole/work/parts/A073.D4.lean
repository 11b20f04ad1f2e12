abbrev V203 : vV := [(0, 10, [(4, 0), (4, 0), (4, 0), (4, 0), (0, 0), (4, 0), (0, 0), (2, 0), (0, 0)])]
theorem len_V203_oz_D4cls : (V203).length = 1 := by decide +kernel
def oz_D4clsl_0 : List (Nat × Nat) := [(0, 8)]
theorem oz_D4cls_1 : (oz_D4clsl_0).all (fun p => !tbz 256 (Nat.add (Nat.mul 32 p.1) p.2)) = true := by decide +kernel

theorem C203 {σE : rS} {D N : Nat → Nat} {F : hF} {A : hA} {d c s : Nat} {Q : wQ} (H : HW V203 σE D N F A) {a1 a2 : Int} (u0_8 : Int) (eu0_8 : F 0 8 = u0_8) (h0 : inr (a1)) (h1 : inr (a2)) (k : ∀ (z : Int) (σ : rS) (Fₚ : hF) (Aₚ : hA), HW V203 σ D N Fₚ Aₚ → OUT (V203).length D N σE c s D N σ c s → SF [(0, 8)] F Fₚ → SA [] A Aₚ → ∀ y0_8 : Int, Fₚ 0 8 = y0_8 → (inr (z)) → ((z) = (a1)) → ((y0_8) = (a2)) → Q (some (I z)) σ c s) : Ew 203 (d + 0) 0 (rargs 0 [.ref (D 0), I a1, I a2]) [] σE c s Q := by
  have O := OUT_refl (n := (V203).length) (D := D) (N := N) (σ := σE) (c := c) (s := s)
  have HE := H
  have r1 : (-2147483648 : Int) ≤ u0_8 ∧ u0_8 ≤ 2147483647 := rngE (show (-2147483648 : Int) ≤ F 0 8 ∧ F 0 8 ≤ 2147483647 from H.krg 0 8 (ltn len_V203_oz_D4cls rfl)) (show F 0 8 = u0_8 from (eu0_8))
  refine Ew_of (pcₚ := 1) (fun _ => x_aload_n rfl rfl) ?_
  refine Ew_of (pcₚ := 2) (fun _ => x_iload_n rfl rfl) ?_
  refine v_p H (o := 0) (z := a2) (v := I (a2)) rfl rfl rfl rfl rfl rfl rfl rfl (show (-2147483648 : Int) ≤ a2 ∧ a2 ≤ 2147483647 from q_31 h1) (fun σ H Oₚ => ?_)
  have O := OUT_trans O Oₚ
  have cFu2 : SF oz_D4clsl_0 F (updF F 0 8 (a2)) := SF_upd (SF_refl) rfl
  have mFu2 := SFm_of cFu2 oz_D4cls_1
  refine Ew_of (pcₚ := 6) (fun _ => x_iload_n rfl rfl) ?_
  exact w_ireturn rfl (k (a1) _ _ _ H O (cFu2) (SA_refl) (a2) (rfl) (show inr (a1) from h0) (show (a1) = a1 from q_303) (show (a2) = a2 from q_303))
abbrev V204_Row_Row : vV := [(0, 10, [(4, 0), (4, 0), (4, 0), (4, 0), (0, 0), (4, 0), (0, 0), (2, 0), (0, 0)]), (0, 7, [(4, 0), (0, 0), (1, 0), (0, 0), (0, 0)]), (0, 7, [(4, 0), (0, 0), (1, 0), (0, 0), (0, 0)]), (1, 0, [])]
theorem len_V204_Row_Row_oz_D4cls : (V204_Row_Row).length = 4 := by decide +kernel
def oz_D4clsl_1 : List (Nat × Nat) := [(0, 3), (0, 4), (0, 5), (0, 6), (0, 8)]
theorem oz_D4cls_3 : (oz_D4clsl_1).all (fun p => !tbz 376 (Nat.add (Nat.mul 32 p.1) p.2)) = true := by decide +kernel

theorem C204_Row_Row {σE : rS} {D N : Nat → Nat} {F : hF} {A : hA} {d c s : Nat} {Q : wQ} (H : HW V204_Row_Row σE D N F A) {a3 : Int} (pf3 : F 1 0 = (D 3 : Int)) (n3 : Int) (en3 : (N 3 : Int) = n3) (u0_4 : Int) (eu0_4 : F 0 4 = u0_4) (u0_6 : Int) (eu0_6 : F 0 6 = u0_6) (u0_8 : Int) (eu0_8 : F 0 8 = u0_8) (u1_1 : Int) (eu1_1 : F 1 1 = u1_1) (h0 : inr (a3)) (k : ∀ (σ : rS) (Fₚ : hF) (Aₚ : hA), HW V204_Row_Row σ D N Fₚ Aₚ → OUT (V204_Row_Row).length D N σE c s D N σ c s → SF [(0, 3), (0, 4), (0, 5), (0, 6), (0, 8)] F Fₚ → SA [] A Aₚ → ∀ y0_4 : Int, Fₚ 0 4 = y0_4 → ∀ y0_6 : Int, Fₚ 0 6 = y0_6 → ∀ y0_8 : Int, Fₚ 0 8 = y0_8 → Fₚ 0 3 = (D 3 : Int) → Fₚ 0 5 = (D 2 : Int) → ((y0_4) = (u1_1) ∧ (y0_6) = (a3) ∧ (y0_8) = (u1_1)) → Q none σ c s) : Ew 204 (d + 0) 0 (rargs 0 [.ref (D 0), .ref (D 1), .ref (D 2), I a3]) [] σE c s Q := by
  have O := OUT_refl (n := (V204_Row_Row).length) (D := D) (N := N) (σ := σE) (c := c) (s := s)
  have HE := H
  have r1 : (-2147483648 : Int) ≤ u0_4 ∧ u0_4 ≤ 2147483647 := rngE (show (-2147483648 : Int) ≤ F 0 4 ∧ F 0 4 ≤ 2147483647 from H.krg 0 4 (ltn len_V204_Row_Row_oz_D4cls rfl)) (show F 0 4 = u0_4 from (eu0_4))
  have r2 : (-2147483648 : Int) ≤ u0_6 ∧ u0_6 ≤ 2147483647 := rngE (show (-2147483648 : Int) ≤ F 0 6 ∧ F 0 6 ≤ 2147483647 from H.krg 0 6 (ltn len_V204_Row_Row_oz_D4cls rfl)) (show F 0 6 = u0_6 from (eu0_6))
  have r3 : (-2147483648 : Int) ≤ u0_8 ∧ u0_8 ≤ 2147483647 := rngE (show (-2147483648 : Int) ≤ F 0 8 ∧ F 0 8 ≤ 2147483647 from H.krg 0 8 (ltn len_V204_Row_Row_oz_D4cls rfl)) (show F 0 8 = u0_8 from (eu0_8))
  have r4 : (-2147483648 : Int) ≤ u1_1 ∧ u1_1 ≤ 2147483647 := rngE (show (-2147483648 : Int) ≤ F 1 1 ∧ F 1 1 ≤ 2147483647 from H.krg 1 1 (ltn len_V204_Row_Row_oz_D4cls rfl)) (show F 1 1 = u1_1 from (eu1_1))
  have r5 : (0 : Int) ≤ n3 ∧ n3 ≤ 1000000 := nleE (H.nle 3 (ltn len_V204_Row_Row_oz_D4cls rfl)) (show (N 3 : Int) = n3 from en3)
  refine Ew_of (pcₚ := 1) (fun _ => x_aload_n rfl rfl) ?_
  refine Ew_of (pcₚ := 2) (fun _ => x_aload_n rfl rfl) ?_
  refine v_g H (o := 1) (v := .ref (D 3)) rfl rfl rfl rfl rfl (vrf (pf3)) ?_
  refine v_p H (o := 0) (z := ((D 3 : Nat) : Int)) (v := .ref (D 3)) rfl rfl rfl rfl rfl rfl (vrf rfl) rfl (show (-1 : Int) ≤ ((D 3 : Nat) : Int) by omega) (fun σ H Oₚ => ?_)
  have O := OUT_trans O Oₚ
  have cFu6 : SF oz_D4clsl_1 F (updF F 0 3 ((D 3 : Nat) : Int)) := SF_upd (SF_refl) rfl
  have mFu6 := SFm_of cFu6 oz_D4cls_3
  refine Ew_of (pcₚ := 9) (fun _ => x_aload_n rfl rfl) ?_
  refine Ew_of (pcₚ := 10) (fun _ => x_aload_n rfl rfl) ?_
  refine v_g H (o := 1) (v := I (u1_1)) rfl rfl rfl rfl rfl (congrArg (fun z : Int => I z) (((mFu6 1 1 rfl).trans (eu1_1)) : (updF F 0 3 ((D 3 : Nat) : Int)) 1 1 = u1_1)) ?_
  refine v_p H (o := 0) (z := u1_1) (v := I (u1_1)) rfl rfl rfl rfl rfl rfl rfl rfl (show (-2147483648 : Int) ≤ u1_1 ∧ u1_1 ≤ 2147483647 from r4) (fun σ H Oₚ => ?_)
  have O := OUT_trans O Oₚ
  have cFu7 : SF oz_D4clsl_1 F (updF (updF F 0 3 ((D 3 : Nat) : Int)) 0 4 (u1_1)) := SF_upd (cFu6) rfl
  have mFu7 := SFm_of cFu7 oz_D4cls_3
  refine Ew_of (pcₚ := 17) (fun _ => x_aload_n rfl rfl) ?_
  refine Ew_of (pcₚ := 18) (fun _ => x_aload_n rfl rfl) ?_
  refine v_p H (o := 0) (z := ((D 2 : Nat) : Int)) (v := .ref (D 2)) rfl rfl rfl rfl rfl rfl (vrf rfl) rfl (show (-1 : Int) ≤ ((D 2 : Nat) : Int) by omega) (fun σ H Oₚ => ?_)
  have O := OUT_trans O Oₚ
  have cFu8 : SF oz_D4clsl_1 F (updF (updF (updF F 0 3 ((D 3 : Nat) : Int)) 0 4 (u1_1)) 0 5 ((D 2 : Nat) : Int)) := SF_upd (cFu7) rfl
  have mFu8 := SFm_of cFu8 oz_D4cls_3
  refine Ew_of (pcₚ := 22) (fun _ => x_aload_n rfl rfl) ?_
  refine Ew_of (pcₚ := 23) (fun _ => x_iload_n rfl rfl) ?_
  refine v_p H (o := 0) (z := a3) (v := I (a3)) rfl rfl rfl rfl rfl rfl rfl rfl (show (-2147483648 : Int) ≤ a3 ∧ a3 ≤ 2147483647 from q_31 h0) (fun σ H Oₚ => ?_)
  have O := OUT_trans O Oₚ
  have cFu9 : SF oz_D4clsl_1 F (updF (updF (updF (updF F 0 3 ((D 3 : Nat) : Int)) 0 4 (u1_1)) 0 5 ((D 2 : Nat) : Int)) 0 6 (a3)) := SF_upd (cFu8) rfl
  have mFu9 := SFm_of cFu9 oz_D4cls_3
  refine Ew_of (pcₚ := 27) (fun _ => x_aload_n rfl rfl) ?_
  refine Ew_of (pcₚ := 28) (fun _ => x_aload_n rfl rfl) ?_
  refine v_g H (o := 0) (v := I (u1_1)) rfl rfl rfl rfl rfl (congrArg (fun z : Int => I z) (rfl : (updF (updF (updF (updF F 0 3 ((D 3 : Nat) : Int)) 0 4 (u1_1)) 0 5 ((D 2 : Nat) : Int)) 0 6 (a3)) 0 4 = u1_1)) ?_
  refine v_p H (o := 0) (z := u1_1) (v := I (u1_1)) rfl rfl rfl rfl rfl rfl rfl rfl (show (-2147483648 : Int) ≤ u1_1 ∧ u1_1 ≤ 2147483647 from r4) (fun σ H Oₚ => ?_)
  have O := OUT_trans O Oₚ
  have cFu10 : SF oz_D4clsl_1 F (updF (updF (updF (updF (updF F 0 3 ((D 3 : Nat) : Int)) 0 4 (u1_1)) 0 5 ((D 2 : Nat) : Int)) 0 6 (a3)) 0 8 (u1_1)) := SF_upd (cFu9) rfl
  have mFu10 := SFm_of cFu10 oz_D4cls_3
  exact w_ret rfl (k _ _ _ H O (cFu10) (SA_refl) (u1_1) (rfl) (a3) (rfl) (u1_1) (rfl) ((show (updF F 0 3 ((D 3 : Nat) : Int)) 0 3 = ((D 3 : Nat) : Int) from rfl)) ((show (updF (updF (updF F 0 3 ((D 3 : Nat) : Int)) 0 4 (u1_1)) 0 5 ((D 2 : Nat) : Int)) 0 5 = ((D 2 : Nat) : Int) from rfl)) (show (u1_1) = (u1_1) ∧ (a3) = a3 ∧ (u1_1) = (u1_1) from q_3141))
abbrev V208 : vV := []
theorem C208 {σE : rS} {D N : Nat → Nat} {F : hF} {A : hA} {d c s : Nat} {Q : wQ} (H : HW V208 σE D N F A) {a1 : Int} (h0 : inr (a1)) (h1 : 0 ≤ (a1) ∧ (a1) ≤ 255) (k : ∀ (z : Int) (σ : rS) (Fₚ : hF) (Aₚ : hA), HW V208 σ D N Fₚ Aₚ → OUT (V208).length D N σE c s D N σ c s → SF [] F Fₚ → SA [] A Aₚ → (inr (z)) → (0 ≤ (z) ∧ (z) ≤ 4) → ((z) = TEb ((a1))) → Q (some (I z)) σ c s) : Ew 208 (d + 0) 0 (rargs 0 [I a1]) [] σE c s Q := by
  have O := OUT_refl (n := (V208).length) (D := D) (N := N) (σ := σE) (c := c) (s := s)
  have HE := H
  refine Ew_of (pcₚ := 1) (fun _ => x_iload_n rfl rfl) ?_
  refine Ew_of (pcₚ := 2) (fun _ => x_iconst rfl) ?_
  refine w_iandE rfl (show inr (a1) from h0) (show inr (3) from q_246) (fun z1 gz1 gaz1 gbz1 gez1 => ?_)
  have hg3 := gez1
  have h3 : (z1) = (a1) % 4 := by rw [← andI_3]; exact hg3.symm
  by_cases b2 : z1 = 0
  · refine w_tsk 0 28 rfl (show inr (z1) from gz1) (by omega) (by decide) rfl rfl ?_
    refine Ew_of (pcₚ := 29) (fun _ => x_iconst rfl) ?_
    refine Ew_of (pcₚ := 30) (fun _ => x_iload_n rfl rfl) ?_
    refine Ew_of (pcₚ := 31) (fun _ => x_iconst rfl) ?_
    refine w_ishrK 2 4 (by decide) (by decide) rfl (show inr (a1) from h0) (fun z3 gz3 dz3 => ?_)
    refine Ew_of (pcₚ := 34) (fun _ => x_bipush (z := 59) rfl (by decide)) ?_
    refine w_isub rfl ?_
    refine v_max rfl rfl (show inr (0) from q_2) (show inr ((z3 - 59)) from q_3196 dz3 gz3 h1) (fun z4 gz4 => ?_)
    have heb := TEb_eq ((a1)) (by omega)
    have : (z4) = TEb ((a1)) := by omega
    exact w_ireturn rfl (k (z4) _ _ _ H O (SF_refl) (SA_refl) (show inr (z4) from q_3198 gz3 gz4) (show 0 ≤ (z4) ∧ (z4) ≤ 4 from q_3197 dz3 gz4 h1) (show (z4) = TEb (a1) by assumption))
  ·
    by_cases b5 : z1 = 1
    · refine w_tsk 1 39 rfl (show inr (z1) from gz1) (by omega) (by decide) rfl rfl ?_
      refine Ew_of (pcₚ := 40) (fun _ => x_iconst rfl) ?_
      have heb := TEb_eq ((a1)) (by omega)
      have : (1) = TEb ((a1)) := by omega
      exact w_ireturn rfl (k (1) _ _ _ H O (SF_refl) (SA_refl) (show inr (1) from q_135) (show 0 ≤ (1) ∧ (1) ≤ 4 by first | exact q_992 | omega) (show (1) = TEb (a1) by assumption))
    ·
      by_cases b6 : z1 = 2
      · refine w_tsk 2 41 rfl (show inr (z1) from gz1) (by omega) (by decide) rfl rfl ?_
        refine Ew_of (pcₚ := 42) (fun _ => x_iconst rfl) ?_
        have heb := TEb_eq ((a1)) (by omega)
        have : (2) = TEb ((a1)) := by omega
        exact w_ireturn rfl (k (2) _ _ _ H O (SF_refl) (SA_refl) (show inr (2) from q_122) (show 0 ≤ (2) ∧ (2) ≤ 4 by first | exact q_911 | omega) (show (2) = TEb (a1) by assumption))
      ·
        refine w_tsd 43 rfl (show inr (z1) from gz1) (by omega) rfl ?_
        refine Ew_of (pcₚ := 44) (fun _ => x_iconst rfl) ?_
        have heb := TEb_eq ((a1)) (by omega)
        have : (4) = TEb ((a1)) := by omega
        exact w_ireturn rfl (k (4) _ _ _ H O (SF_refl) (SA_refl) (show inr (4) from q_216) (show 0 ≤ (4) ∧ (4) ≤ 4 by first | exact q_1183 | omega) (show (4) = TEb (a1) by assumption))
abbrev V209 : vV := []
theorem C209 {σE : rS} {D N : Nat → Nat} {F : hF} {A : hA} {d c s : Nat} {Q : wQ} (H : HW V209 σE D N F A) {a1 a2 : Int} (h0 : inr (a1)) (h1 : inrJ (a2)) (h2 : 0 ≤ (a1) ∧ (a1) ≤ 255) (h3 : 0 ≤ (a2) ∧ (a2) ≤ 4294967295) (k : ∀ (z : Int) (σ : rS) (Fₚ : hF) (Aₚ : hA), HW V209 σ D N Fₚ Aₚ → OUT (V209).length D N σE c s D N σ c s → SF [] F Fₚ → SA [] A Aₚ → (inrJ (z)) → (1 ≤ (z) ∧ (z) ≤ 4294967296) → ((z) = TEl ((a1)) ((a2))) → Q (some (J z)) σ c s) : Ew 209 (d + 0) 0 (rargs 0 [I a1, J a2]) [] σE c s Q := by
  have O := OUT_refl (n := (V209).length) (D := D) (N := N) (σ := σE) (c := c) (s := s)
  have HE := H
  refine Ew_of (pcₚ := 1) (fun _ => x_iload_n rfl rfl) ?_
  refine Ew_of (pcₚ := 2) (fun _ => x_iconst rfl) ?_
  refine w_ishrK 2 4 (by decide) (by decide) rfl (show inr (a1) from h0) (fun z1 gz1 dz1 => ?_)
  refine Ew_of (pcₚ := 4) (fun _ => x_istore_n rfl) ?_
  refine Ew_of (pcₚ := 5) (fun _ => x_iload_n rfl (rk_o (rfl) rfl rfl)) ?_
  refine Ew_of (pcₚ := 6) (fun _ => x_iconst rfl) ?_
  refine w_iandE rfl (show inr (a1) from h0) (show inr (3) from q_246) (fun z2 gz2 gaz2 gbz2 gez2 => ?_)
  have hg3 := gez2
  have h3 : (z2) = (a1) % 4 := by rw [← andI_3]; exact hg3.symm
  by_cases b3 : z2 = 0
  · refine w_lsk 32 rfl (show inr (z2) from gz2) b3 rfl rfl ?_
    refine Ew_of (pcₚ := 33) (fun _ => x_iload_n rfl rk_s) ?_
    refine Ew_of (pcₚ := 35) (fun _ => x_bipush (z := 60) rfl (by decide)) ?_
    refine w_icmpge (t := 45) rfl rfl (show inr (z1) from gz1) (show inr (60) from q_937) (fun b4 => ?_) (fun b4 => ?_)
    · refine Ew_of (pcₚ := 46) (fun _ => x_lload_n rfl (rk_o (rfl) rfl rfl)) ?_
      refine Ew_of (pcₚ := 47) (fun _ => x_lconst (z := 1) rfl (by decide)) ?_
      refine w_ladd rfl ?_
      have hel := TEl_eq ((a1)) ((a2)) (by omega)
      have : ((a2 + 1)) = TEl ((a1)) ((a2)) := by omega
      exact w_lreturn rfl (k ((a2 + 1)) _ _ _ H O (SF_refl) (SA_refl) (show inrJ ((a2 + 1)) by omega) (show 1 ≤ ((a2 + 1)) ∧ ((a2 + 1)) ≤ 4294967296 by omega) (show ((a2 + 1)) = TEl (a1) (a2) by assumption))
    · refine Ew_of (pcₚ := 39) (fun _ => x_iload_n rfl rk_s) ?_
      refine Ew_of (pcₚ := 40) (fun _ => x_iconst rfl) ?_
      refine w_iadd rfl ?_
      refine w_i2l rfl (show inr ((z1 + 1)) from q_3199 b4 gz1) ?_
      refine Ew_of (pcₚ := 48) (fun _ => x_goto rfl rfl) ?_
      have hel := TEl_eq ((a1)) ((a2)) (by omega)
      have : ((z1 + 1)) = TEl ((a1)) ((a2)) := by omega
      exact w_lreturn rfl (k ((z1 + 1)) _ _ _ H O (SF_refl) (SA_refl) (show inrJ ((z1 + 1)) from q_3201 b4 gz1) (show 1 ≤ ((z1 + 1)) ∧ ((z1 + 1)) ≤ 4294967296 by first | exact q_3200 b3 b4 dz1 h2 h3 | omega) (show ((z1 + 1)) = TEl (a1) (a2) by assumption))
  ·
    by_cases b5 : z2 = 1
    · refine w_lsk 49 rfl (show inr (z2) from gz2) b5 rfl rfl ?_
      refine Ew_of (pcₚ := 50) (fun _ => x_iload_n rfl rk_s) ?_
      refine Ew_of (pcₚ := 52) (fun _ => x_bipush (z := 8) rfl (by decide)) ?_
      refine w_irem rfl (show inr (z1) ∧ 0 ≤ z1 from q_3202 dz1 gz1 h2) (show inr (8) ∧ 0 < 8 from q_1054) ?_
      refine Ew_of (pcₚ := 54) (fun _ => x_iconst rfl) ?_
      refine w_iadd rfl ?_
      refine w_i2l rfl (show inr (((z1 % 8) + 4)) from q_1063) ?_
      have hel := TEl_eq ((a1)) ((a2)) (by omega)
      have : (((z1 % 8) + 4)) = TEl ((a1)) ((a2)) := by omega
      exact w_lreturn rfl (k (((z1 % 8) + 4)) _ _ _ H O (SF_refl) (SA_refl) (show inrJ (((z1 % 8) + 4)) from q_1065) (show 1 ≤ (((z1 % 8) + 4)) ∧ (((z1 % 8) + 4)) ≤ 4294967296 by first | exact q_3203 | omega) (show (((z1 % 8) + 4)) = TEl (a1) (a2) by assumption))
    ·
      refine w_lsd 57 rfl (show inr (z2) from gz2) (by intro q hq; simp at hq; rcases hq with rfl | rfl <;> (first | omega | (simp; omega) | (intro e; simp at e; omega))) rfl ?_
      refine Ew_of (pcₚ := 58) (fun _ => x_iload_n rfl rk_s) ?_
      refine Ew_of (pcₚ := 59) (fun _ => x_iconst rfl) ?_
      refine w_iadd rfl ?_
      refine w_i2l rfl (show inr ((z1 + 1)) from q_3204 dz1 gz1 h2) ?_
      have hel := TEl_eq ((a1)) ((a2)) (by omega)
      have : ((z1 + 1)) = TEl ((a1)) ((a2)) := by omega
      exact w_lreturn rfl (k ((z1 + 1)) _ _ _ H O (SF_refl) (SA_refl) (show inrJ ((z1 + 1)) from q_3206 gz1) (show 1 ≤ ((z1 + 1)) ∧ ((z1 + 1)) ≤ 4294967296 by first | exact q_3205 dz1 gz1 h2 | omega) (show ((z1 + 1)) = TEl (a1) (a2) by assumption))
abbrev V207 : vV := [(0, 10, [(4, 0), (4, 0), (4, 0), (4, 0), (0, 0), (4, 0), (0, 0), (2, 0), (0, 0)]), (1, 0, [])]
theorem len_V207_oz_D4cls : (V207).length = 2 := by decide +kernel
theorem oz_D4cls_7 : vsub V207 V203 [0] = true := by decide +kernel
def oz_D4clsl_2 : List (Nat × Nat) := [(0, 7), (0, 8)]
theorem oz_D4cls_8 : (oz_D4clsl_2).all (fun p => !tbz 384 (Nat.add (Nat.mul 32 p.1) p.2)) = true := by decide +kernel
def oz_D4clsl_3 : List Nat := []
theorem oz_D4cls_9 : (oz_D4clsl_3).all (fun p => !tbz 0 p) = true := by decide +kernel
def oz_D4clsl_4 : List Nat := [0]
theorem oz_D4cls_10 : okc oz_D4clsl_4 0 = true := by decide +kernel

theorem C207 {σE : rS} {D N : Nat → Nat} {F : hF} {A : hA} {d c s : Nat} {Q : wQ} (H : HW V207 σE D N F A) {a1 a2 a3 : Int} (pf1 : F 0 3 = (D 1 : Int)) (n1 : Int) (en1 : (N 1 : Int) = n1) (u0_7 : Int) (eu0_7 : F 0 7 = u0_7) (u0_8 : Int) (eu0_8 : F 0 8 = u0_8) (w1 : Int → Int) (ew1 : A 1 = w1) (h0 : inr (a1)) (h1 : inr (a2)) (h2 : inr (a3)) (h3 : 0 ≤ (a1) ∧ (a1) ≤ (a2) ∧ (a2) ≤ (n1) ∧ (n1) ≤ 65536) (k : ∀ (z : Int) (σ : rS) (Fₚ : hF) (Aₚ : hA), HW V207 σ D N Fₚ Aₚ → OUT (V207).length D N σE c s D N σ c s → SF [(0, 7), (0, 8)] F Fₚ → SA [] A Aₚ → ∀ y0_7 : Int, Fₚ 0 7 = y0_7 → ∀ y0_8 : Int, Fₚ 0 8 = y0_8 → (inr (z)) → (0 ≤ (z) ∧ (z) ≤ 3) → ((z) = 0 → (a1) ≤ (y0_8) ∧ (y0_8) ≤ (a2) ∧ 0 ≤ (y0_7) ∧ (y0_7) ≤ (a3)) → (IMP ((z) ≠ 0) (TLQ (ub8 ((w1))) ((a2)) ((a1)) ((a3)) ((z), (y0_8), 0, 0))) → (IMP ((z) = 0) (TLQ (ub8 ((w1))) ((a2)) ((a1)) ((a3)) (0, 0, (y0_7), (y0_8)))) → Q (some (I z)) σ c s) : Ew 207 (d + 1) 0 (rargs 0 [.ref (D 0), I a1, I a2, I a3]) [] σE c s Q := by
  have O := OUT_refl (n := (V207).length) (D := D) (N := N) (σ := σE) (c := c) (s := s)
  have HE := H
  have r1 : (-9223372036854775808 : Int) ≤ u0_7 ∧ u0_7 ≤ 9223372036854775807 := rngE (show (-9223372036854775808 : Int) ≤ F 0 7 ∧ F 0 7 ≤ 9223372036854775807 from H.krg 0 7 (ltn len_V207_oz_D4cls rfl)) (show F 0 7 = u0_7 from (eu0_7))
  have r2 : (-2147483648 : Int) ≤ u0_8 ∧ u0_8 ≤ 2147483647 := rngE (show (-2147483648 : Int) ≤ F 0 8 ∧ F 0 8 ≤ 2147483647 from H.krg 0 8 (ltn len_V207_oz_D4cls rfl)) (show F 0 8 = u0_8 from (eu0_8))
  have r3 : (0 : Int) ≤ n1 ∧ n1 ≤ 1000000 := nleE (H.nle 1 (ltn len_V207_oz_D4cls rfl)) (show (N 1 : Int) = n1 from en1)
  refine Ew_of (pcₚ := 1) (fun _ => x_aload_n rfl rfl) ?_
  refine Ew_of (pcₚ := 2) (fun _ => x_lconst (z := 0) rfl (by decide)) ?_
  refine v_p H (o := 0) (z := 0) (v := J (0)) rfl rfl rfl rfl rfl rfl rfl rfl (show (-9223372036854775808 : Int) ≤ 0 ∧ 0 ≤ 9223372036854775807 from q_592) (fun σ H Oₚ => ?_)
  have O := OUT_trans O Oₚ
  have cFu4 : SF oz_D4clsl_2 F (updF F 0 7 (0)) := SF_upd (SF_refl) rfl
  have mFu4 := SFm_of cFu4 oz_D4cls_8
  refine Ew_of (pcₚ := 6) (fun _ => x_iload_n rfl rfl) ?_
  refine Ew_of (pcₚ := 8) (fun _ => x_istore rfl) ?_
  refine Ew_of (pcₚ := 9) (fun _ => x_iconst rfl) ?_
  refine Ew_of (pcₚ := 11) (fun _ => x_istore rfl) ?_
  refine Ew_of (pcₚ := 12) (fun _ => x_iconst rfl) ?_
  refine Ew_of (pcₚ := 14) (fun _ => x_istore rfl) ?_
  have : p2 (7 * 0) = 1 := by decide
  have : IMP ((1 : Int) = 1) (TLO (ub8 ((w1))) ((a2)) ((a1)) ((a3)) (0) ((0))) := fun _ => TLO_0
  have : IMP ((1 : Int) = 0) (TLz (ub8 ((w1))) ((a2)) ((a1)) ((a3)) ((0)) ((a1))) := fun z => absurd z (by omega)
  suffices hl14 : ∀ (m : Nat), ∀ (ls : rO) (σ : rS) (F_14 : hF) (A_14 : hA) (x14_4 : Int) (x14_5 : Int) (x14_6 : Int), rlook ls 0 = some (.ref (D 0)) → rlook ls 1 = some (I (a1)) → rlook ls 2 = some (I (a2)) → rlook ls 3 = some (I (a3)) → rlook ls 4 = some (I (x14_4)) → rlook ls 5 = some (I (x14_5)) → rlook ls 6 = some (I (x14_6)) → HW V207 σ D N F_14 A_14 → OUT (V207).length D N σE c s D N σ c s → SF [(0, 7)] (updF F 0 7 (0)) F_14 → SA [] A A_14 → ∀ y14_0_7 : Int, F_14 0 7 = y14_0_7 → (inr (x14_4)) → (inr (x14_5)) → (inr (x14_6)) → ((0) ≤ (x14_6)) → ((x14_6) ≤ (0) ∨ (x14_6) ≤ (5)) → ((a1) ≤ (x14_4) ∧ (x14_4) ≤ (a2)) → ((x14_4) = (a1) + (x14_6)) → ((x14_5) = 0 ∨ (x14_5) = 1) → ((x14_6) ≤ 4 ∨ (x14_5) = 0) → (0 ≤ (y14_0_7) ∧ (y14_0_7) < p2 (7 * (x14_6))) → (IMP ((x14_5) = 1) (TLO (ub8 ((w1))) ((a2)) ((a1)) ((a3)) ((x14_6)) ((y14_0_7)))) → (IMP ((x14_5) = 0) (TLz (ub8 ((w1))) ((a2)) ((a1)) ((a3)) ((y14_0_7)) ((x14_4)))) → ((5) - (x14_6)).toNat = m → Ew 207 (d + 1) 14 ls [] σ c s Q from
    hl14 _ _ _ _ _ (a1) (1) (0) (rk_o (rk_o (rk_o (rfl) rfl rfl) rfl rfl) rfl rfl) (rk_o (rk_o (rk_o (rfl) rfl rfl) rfl rfl) rfl rfl) (rk_o (rk_o (rk_o (rfl) rfl rfl) rfl rfl) rfl rfl) (rk_o (rk_o (rk_o (rfl) rfl rfl) rfl rfl) rfl rfl) (rk_o (rk_o (rk_s) rfl rfl) rfl rfl) (rk_o (rk_s) rfl rfl) (rk_s) H O (SF_refl) (SA_refl)   (0) (rfl)  (show inr (a1) from h0) (show inr (1) from q_135) (show inr (0) from q_2) (show (0) ≤ (0) from q_1) (show (0) ≤ (0) ∨ (0) ≤ (5) from q_2371) (show (a1) ≤ (a1) ∧ (a1) ≤ (a2) from q_3208 h3) (show (a1) = (a1) + (0) from q_365) (show (1) = 0 ∨ (1) = 1 from q_49) (show (0) ≤ 4 ∨ (1) = 0 from q_3207) (show 0 ≤ (0) ∧ (0) < p2 (7 * (0)) by omega) (show IMP ((1) = 1) (TLO (ub8 ((w1))) ((a2)) ((a1)) ((a3)) ((0)) ((0))) by assumption) (show IMP ((1) = 0) (TLz (ub8 ((w1))) ((a2)) ((a1)) ((a3)) ((0)) ((a1))) by assumption) rfl
  as_aux_lemma =>
  intro m
  induction m using Nat.strongRecOn with
  | _ m ih14 =>
    intro ls σ F_14 A_14 x14_4 x14_5 x14_6 l14_0 l14_1 l14_2 l14_3 l14_4 l14_5 l14_6 H O hS_14 hA_14   y14_0_7 ey14_0_7  j14_0 j14_1 j14_2 j14_3 j14_4 j14_5 j14_6 j14_7 j14_8 j14_9 j14_10 j14_11 hm14
    have cF_14 : SF oz_D4clsl_2 F F_14 := SF_trans (cFu4) hS_14 (any_sub (by decide +kernel))
    have mF_14 := SFm_of cF_14 oz_D4cls_8
    have cA_14 : SA oz_D4clsl_3 A A_14 := SA_trans (SA_refl) hA_14 (any_subA (by decide +kernel))
    have mA_14 := SAm_of cA_14 oz_D4cls_9
    have r5 : (-9223372036854775808 : Int) ≤ y14_0_7 ∧ y14_0_7 ≤ 9223372036854775807 := rngE (show (-9223372036854775808 : Int) ≤ F_14 0 7 ∧ F_14 0 7 ≤ 9223372036854775807 from H.krg 0 7 (ltn len_V207_oz_D4cls rfl)) (show F_14 0 7 = y14_0_7 from (ey14_0_7))
    have j14_o : IMP ((x14_5) = 1) (TLO (ub8 ((w1))) ((a2)) ((a1)) ((a3)) ((x14_6)) ((y14_0_7))) := j14_10
    have j14_z : IMP ((x14_5) = 0) (TLz (ub8 ((w1))) ((a2)) ((a1)) ((a3)) ((y14_0_7)) ((x14_4))) := j14_11
    refine Ew_of (pcₚ := 16) (fun _ => x_iload rfl l14_6) ?_
    refine Ew_of (pcₚ := 17) (fun _ => x_iconst rfl) ?_
    refine w_icmpge (t := 116) rfl rfl (show inr (x14_6) from j14_2) (show inr (5) from q_727) (fun b6 => ?_) (fun b6 => ?_)
    · have hz := j14_z (by omega)
      refine Ew_of (pcₚ := 117) (fun _ => x_aload_n rfl l14_0) ?_
      refine v_g H (o := 0) (v := J (y14_0_7)) rfl rfl rfl rfl rfl (congrArg (fun z : Int => J z) ((ey14_0_7) : F_14 0 7 = y14_0_7)) ?_
      refine Ew_of (pcₚ := 121) (fun _ => x_iload_n rfl l14_3) ?_
      refine w_i2l rfl (show inr (a3) from h2) ?_
      refine w_lcmp rfl (show inrJ (y14_0_7) by omega) (show inrJ (a3) from q_2579 h2) (fun z7 gz7 gaz7 gbz7 => ?_)
      refine w_ifle (t := 135) rfl rfl (show inr (z7) from gz7) (fun b8 => ?_) (fun b8 => ?_)
      · refine Ew_of (pcₚ := 136) (fun _ => x_aload_n rfl l14_0) ?_
        refine Ew_of (pcₚ := 137) (fun _ => x_iconst rfl) ?_
        refine Ew_of (pcₚ := 139) (fun _ => x_iload rfl l14_4) ?_
        refine v_inv H (o := 0) rfl rfl rfl rfl rfl rfl (by rfl) (C203 (D := puc 0 D) (N := puc 0 N) (HW_subc H oz_D4cls_7 oz_D4cls_10) (u0_8) (((hS_14 0 8 rfl).trans (eu0_8))) (show inr (0) from q_2) (show inr (x14_4) from j14_0) (fun z9 σ9 F9ₚ A9ₚ Hₚ Oₚ hS9 hA9 y9_0_8 ey9_0_8 pz9_0 pz9_1 pz9_2 => ⟨rfl, ?_⟩))
        refine v_backc (c := c) (s := s) H oz_D4cls_7 oz_D4cls_10 Hₚ Oₚ (fun F9 A9 H Oₚ eF9 eA9 => ?_)
        have O := OUT_trans O Oₚ
        -- Tags.fail
        have cF9 : SF oz_D4clsl_2 F F9 := SF_trans (cF_14) (SF_gluc (ι := oz_D4clsl_4) oz_D4cls_10 hS9 eF9 (by decide +kernel)) (any_sub (lₚ := [(0, 8)]) (by decide +kernel))
        have mF9 := SFm_of cF9 oz_D4cls_8
        have cA9 : SA oz_D4clsl_3 A A9 := SA_trans (cA_14) (SA_gluc (ι := oz_D4clsl_4) oz_D4cls_10 hA9 eA9 (by decide +kernel)) (any_subA (lₚ := []) (by decide +kernel))
        have mA9 := SAm_of cA9 oz_D4cls_9
        have r10 : (-2147483648 : Int) ≤ y9_0_8 ∧ y9_0_8 ≤ 2147483647 := rngE (show (-2147483648 : Int) ≤ F9 0 8 ∧ F9 0 8 ≤ 2147483647 from H.krg 0 8 (ltn len_V207_oz_D4cls rfl)) (show F9 0 8 = y9_0_8 from ((eF9 0 8).trans ey9_0_8))
        have : IMP ((z9) ≠ 0) (TLQ (ub8 ((w1))) ((a2)) ((a1)) ((a3)) ((z9), (y9_0_8), 0, 0)) := fun z => by first | exact absurd (by omega) z | (have h := hz.1 (by omega); rw [show ((z9) : Int) = 3 by omega, show (y9_0_8) = (a1) by omega]; exact h)
        have : IMP ((z9) = 0) (TLQ (ub8 ((w1))) ((a2)) ((a1)) ((a3)) (0, 0, (y14_0_7), (y9_0_8))) := fun z => by first | exact absurd z (by omega) | (rw [show (y9_0_8) = (x14_4) by omega]; exact hz.2 (by omega))
        exact w_ireturn rfl (k (z9) _ _ _ H O (cF9) (cA9) (y14_0_7) ((((show F9 0 7 = F_14 0 7 from (eF9 0 7).trans (hS9 0 7 rfl))).trans (ey14_0_7))) (y9_0_8) (((eF9 0 8).trans ey9_0_8)) (show inr (z9) from pz9_0) (show 0 ≤ (z9) ∧ (z9) ≤ 3 from q_3209 pz9_1) (show (z9) = 0 → a1 ≤ (y9_0_8) ∧ (y9_0_8) ≤ a2 ∧ 0 ≤ (y14_0_7) ∧ (y14_0_7) ≤ a3 by omega) (show IMP ((z9) ≠ 0) (TLQ (ub8 ((w1))) (a2) (a1) (a3) ((z9), (y9_0_8), 0, 0)) by assumption) (show IMP ((z9) = 0) (TLQ (ub8 ((w1))) (a2) (a1) (a3) (0, 0, (y14_0_7), (y9_0_8))) by assumption))
      · refine Ew_of (pcₚ := 127) (fun _ => x_aload_n rfl l14_0) ?_
        refine Ew_of (pcₚ := 128) (fun _ => x_iconst rfl) ?_
        refine Ew_of (pcₚ := 129) (fun _ => x_iload_n rfl l14_1) ?_
        refine v_inv H (o := 0) rfl rfl rfl rfl rfl rfl (by rfl) (C203 (D := puc 0 D) (N := puc 0 N) (HW_subc H oz_D4cls_7 oz_D4cls_10) (u0_8) (((hS_14 0 8 rfl).trans (eu0_8))) (show inr (3) from q_246) (show inr (a1) from h0) (fun z11 σ11 F11ₚ A11ₚ Hₚ Oₚ hS11 hA11 y11_0_8 ey11_0_8 pz11_0 pz11_1 pz11_2 => ⟨rfl, ?_⟩))
        refine v_backc (c := c) (s := s) H oz_D4cls_7 oz_D4cls_10 Hₚ Oₚ (fun F11 A11 H Oₚ eF11 eA11 => ?_)
        have O := OUT_trans O Oₚ
        -- Tags.fail
        have cF11 : SF oz_D4clsl_2 F F11 := SF_trans (cF_14) (SF_gluc (ι := oz_D4clsl_4) oz_D4cls_10 hS11 eF11 (by decide +kernel)) (any_sub (lₚ := [(0, 8)]) (by decide +kernel))
        have mF11 := SFm_of cF11 oz_D4cls_8
        have cA11 : SA oz_D4clsl_3 A A11 := SA_trans (cA_14) (SA_gluc (ι := oz_D4clsl_4) oz_D4cls_10 hA11 eA11 (by decide +kernel)) (any_subA (lₚ := []) (by decide +kernel))
        have mA11 := SAm_of cA11 oz_D4cls_9
        have r12 : (-2147483648 : Int) ≤ y11_0_8 ∧ y11_0_8 ≤ 2147483647 := rngE (show (-2147483648 : Int) ≤ F11 0 8 ∧ F11 0 8 ≤ 2147483647 from H.krg 0 8 (ltn len_V207_oz_D4cls rfl)) (show F11 0 8 = y11_0_8 from ((eF11 0 8).trans ey11_0_8))
        refine Ew_of (pcₚ := 142) (fun _ => x_goto rfl rfl) ?_
        have : IMP ((z11) ≠ 0) (TLQ (ub8 ((w1))) ((a2)) ((a1)) ((a3)) ((z11), (y11_0_8), 0, 0)) := fun z => by first | exact absurd (by omega) z | (have h := hz.1 (by omega); rw [show ((z11) : Int) = 3 by omega, show (y11_0_8) = (a1) by omega]; exact h)
        have : IMP ((z11) = 0) (TLQ (ub8 ((w1))) ((a2)) ((a1)) ((a3)) (0, 0, (y14_0_7), (y11_0_8))) := fun z => by first | exact absurd z (by omega) | (rw [show (y11_0_8) = (x14_4) by omega]; exact hz.2 (by omega))
        exact w_ireturn rfl (k (z11) _ _ _ H O (cF11) (cA11) (y14_0_7) ((((show F11 0 7 = F_14 0 7 from (eF11 0 7).trans (hS11 0 7 rfl))).trans (ey14_0_7))) (y11_0_8) (((eF11 0 8).trans ey11_0_8)) (show inr (z11) from pz11_0) (show 0 ≤ (z11) ∧ (z11) ≤ 3 from q_3115 pz11_1) (show (z11) = 0 → a1 ≤ (y11_0_8) ∧ (y11_0_8) ≤ a2 ∧ 0 ≤ (y14_0_7) ∧ (y14_0_7) ≤ a3 from q_3210 h3 j14_9 pz11_1 pz11_2) (show IMP ((z11) ≠ 0) (TLQ (ub8 ((w1))) (a2) (a1) (a3) ((z11), (y11_0_8), 0, 0)) by assumption) (show IMP ((z11) = 0) (TLQ (ub8 ((w1))) (a2) (a1) (a3) (0, 0, (y14_0_7), (y11_0_8))) by assumption))
    · refine Ew_of (pcₚ := 22) (fun _ => x_iload rfl l14_5) ?_
      refine w_ifeq (t := 116) rfl rfl (show inr (x14_5) from j14_1) (fun b13 => ?_) (fun b13 => ?_)
      · have hz := j14_z (by omega)
        refine Ew_of (pcₚ := 117) (fun _ => x_aload_n rfl l14_0) ?_
        refine v_g H (o := 0) (v := J (y14_0_7)) rfl rfl rfl rfl rfl (congrArg (fun z : Int => J z) ((ey14_0_7) : F_14 0 7 = y14_0_7)) ?_
        refine Ew_of (pcₚ := 121) (fun _ => x_iload_n rfl l14_3) ?_
        refine w_i2l rfl (show inr (a3) from h2) ?_
        refine w_lcmp rfl (show inrJ (y14_0_7) by omega) (show inrJ (a3) from q_2579 h2) (fun z14 gz14 gaz14 gbz14 => ?_)
        refine w_ifle (t := 135) rfl rfl (show inr (z14) from gz14) (fun b15 => ?_) (fun b15 => ?_)
        · refine Ew_of (pcₚ := 136) (fun _ => x_aload_n rfl l14_0) ?_
          refine Ew_of (pcₚ := 137) (fun _ => x_iconst rfl) ?_
          refine Ew_of (pcₚ := 139) (fun _ => x_iload rfl l14_4) ?_
          refine v_inv H (o := 0) rfl rfl rfl rfl rfl rfl (by rfl) (C203 (D := puc 0 D) (N := puc 0 N) (HW_subc H oz_D4cls_7 oz_D4cls_10) (u0_8) (((hS_14 0 8 rfl).trans (eu0_8))) (show inr (0) from q_2) (show inr (x14_4) from j14_0) (fun z16 σ16 F16ₚ A16ₚ Hₚ Oₚ hS16 hA16 y16_0_8 ey16_0_8 pz16_0 pz16_1 pz16_2 => ⟨rfl, ?_⟩))
          refine v_backc (c := c) (s := s) H oz_D4cls_7 oz_D4cls_10 Hₚ Oₚ (fun F16 A16 H Oₚ eF16 eA16 => ?_)
          have O := OUT_trans O Oₚ
          -- Tags.fail
          have cF16 : SF oz_D4clsl_2 F F16 := SF_trans (cF_14) (SF_gluc (ι := oz_D4clsl_4) oz_D4cls_10 hS16 eF16 (by decide +kernel)) (any_sub (lₚ := [(0, 8)]) (by decide +kernel))
          have mF16 := SFm_of cF16 oz_D4cls_8
          have cA16 : SA oz_D4clsl_3 A A16 := SA_trans (cA_14) (SA_gluc (ι := oz_D4clsl_4) oz_D4cls_10 hA16 eA16 (by decide +kernel)) (any_subA (lₚ := []) (by decide +kernel))
          have mA16 := SAm_of cA16 oz_D4cls_9
          have r17 : (-2147483648 : Int) ≤ y16_0_8 ∧ y16_0_8 ≤ 2147483647 := rngE (show (-2147483648 : Int) ≤ F16 0 8 ∧ F16 0 8 ≤ 2147483647 from H.krg 0 8 (ltn len_V207_oz_D4cls rfl)) (show F16 0 8 = y16_0_8 from ((eF16 0 8).trans ey16_0_8))
          have : IMP ((z16) ≠ 0) (TLQ (ub8 ((w1))) ((a2)) ((a1)) ((a3)) ((z16), (y16_0_8), 0, 0)) := fun z => by first | exact absurd (by omega) z | (have h := hz.1 (by omega); rw [show ((z16) : Int) = 3 by omega, show (y16_0_8) = (a1) by omega]; exact h)
          have : IMP ((z16) = 0) (TLQ (ub8 ((w1))) ((a2)) ((a1)) ((a3)) (0, 0, (y14_0_7), (y16_0_8))) := fun z => by first | exact absurd z (by omega) | (rw [show (y16_0_8) = (x14_4) by omega]; exact hz.2 (by omega))
          exact w_ireturn rfl (k (z16) _ _ _ H O (cF16) (cA16) (y14_0_7) ((((show F16 0 7 = F_14 0 7 from (eF16 0 7).trans (hS16 0 7 rfl))).trans (ey14_0_7))) (y16_0_8) (((eF16 0 8).trans ey16_0_8)) (show inr (z16) from pz16_0) (show 0 ≤ (z16) ∧ (z16) ≤ 3 from q_3209 pz16_1) (show (z16) = 0 → a1 ≤ (y16_0_8) ∧ (y16_0_8) ≤ a2 ∧ 0 ≤ (y14_0_7) ∧ (y14_0_7) ≤ a3 by omega) (show IMP ((z16) ≠ 0) (TLQ (ub8 ((w1))) (a2) (a1) (a3) ((z16), (y16_0_8), 0, 0)) by assumption) (show IMP ((z16) = 0) (TLQ (ub8 ((w1))) (a2) (a1) (a3) (0, 0, (y14_0_7), (y16_0_8))) by assumption))
        · refine Ew_of (pcₚ := 127) (fun _ => x_aload_n rfl l14_0) ?_
          refine Ew_of (pcₚ := 128) (fun _ => x_iconst rfl) ?_
          refine Ew_of (pcₚ := 129) (fun _ => x_iload_n rfl l14_1) ?_
          refine v_inv H (o := 0) rfl rfl rfl rfl rfl rfl (by rfl) (C203 (D := puc 0 D) (N := puc 0 N) (HW_subc H oz_D4cls_7 oz_D4cls_10) (u0_8) (((hS_14 0 8 rfl).trans (eu0_8))) (show inr (3) from q_246) (show inr (a1) from h0) (fun z18 σ18 F18ₚ A18ₚ Hₚ Oₚ hS18 hA18 y18_0_8 ey18_0_8 pz18_0 pz18_1 pz18_2 => ⟨rfl, ?_⟩))
          refine v_backc (c := c) (s := s) H oz_D4cls_7 oz_D4cls_10 Hₚ Oₚ (fun F18 A18 H Oₚ eF18 eA18 => ?_)
          have O := OUT_trans O Oₚ
          -- Tags.fail
          have cF18 : SF oz_D4clsl_2 F F18 := SF_trans (cF_14) (SF_gluc (ι := oz_D4clsl_4) oz_D4cls_10 hS18 eF18 (by decide +kernel)) (any_sub (lₚ := [(0, 8)]) (by decide +kernel))
          have mF18 := SFm_of cF18 oz_D4cls_8
          have cA18 : SA oz_D4clsl_3 A A18 := SA_trans (cA_14) (SA_gluc (ι := oz_D4clsl_4) oz_D4cls_10 hA18 eA18 (by decide +kernel)) (any_subA (lₚ := []) (by decide +kernel))
          have mA18 := SAm_of cA18 oz_D4cls_9
          have r19 : (-2147483648 : Int) ≤ y18_0_8 ∧ y18_0_8 ≤ 2147483647 := rngE (show (-2147483648 : Int) ≤ F18 0 8 ∧ F18 0 8 ≤ 2147483647 from H.krg 0 8 (ltn len_V207_oz_D4cls rfl)) (show F18 0 8 = y18_0_8 from ((eF18 0 8).trans ey18_0_8))
          refine Ew_of (pcₚ := 142) (fun _ => x_goto rfl rfl) ?_
          have : IMP ((z18) ≠ 0) (TLQ (ub8 ((w1))) ((a2)) ((a1)) ((a3)) ((z18), (y18_0_8), 0, 0)) := fun z => by first | exact absurd (by omega) z | (have h := hz.1 (by omega); rw [show ((z18) : Int) = 3 by omega, show (y18_0_8) = (a1) by omega]; exact h)
          have : IMP ((z18) = 0) (TLQ (ub8 ((w1))) ((a2)) ((a1)) ((a3)) (0, 0, (y14_0_7), (y18_0_8))) := fun z => by first | exact absurd z (by omega) | (rw [show (y18_0_8) = (x14_4) by omega]; exact hz.2 (by omega))
          exact w_ireturn rfl (k (z18) _ _ _ H O (cF18) (cA18) (y14_0_7) ((((show F18 0 7 = F_14 0 7 from (eF18 0 7).trans (hS18 0 7 rfl))).trans (ey14_0_7))) (y18_0_8) (((eF18 0 8).trans ey18_0_8)) (show inr (z18) from pz18_0) (show 0 ≤ (z18) ∧ (z18) ≤ 3 from q_3115 pz18_1) (show (z18) = 0 → a1 ≤ (y18_0_8) ∧ (y18_0_8) ≤ a2 ∧ 0 ≤ (y14_0_7) ∧ (y14_0_7) ≤ a3 from q_3210 h3 j14_9 pz18_1 pz18_2) (show IMP ((z18) ≠ 0) (TLQ (ub8 ((w1))) (a2) (a1) (a3) ((z18), (y18_0_8), 0, 0)) by assumption) (show IMP ((z18) = 0) (TLQ (ub8 ((w1))) (a2) (a1) (a3) (0, 0, (y14_0_7), (y18_0_8))) by assumption))
      · refine Ew_of (pcₚ := 27) (fun _ => x_iload rfl l14_4) ?_
        refine Ew_of (pcₚ := 28) (fun _ => x_iload_n rfl l14_2) ?_
        refine w_icmplt (t := 38) rfl rfl (show inr (x14_4) from j14_0) (show inr (a2) from h1) (fun b20 => ?_) (fun b20 => ?_)
        · have hlo := j14_o (by omega)
          obtain ⟨q6, hq6⟩ : ∃ q : Int, q = (a1) + (x14_6) := ⟨_, rfl⟩
          refine Ew_of (pcₚ := 39) (fun _ => x_aload_n rfl l14_0) ?_
          refine v_g H (o := 0) (v := .ref (D 1)) rfl rfl rfl rfl rfl (vrf ((mF_14 0 3 rfl).trans (pf1))) ?_
          refine Ew_of (pcₚ := 44) (fun _ => x_iload rfl l14_4) ?_
          refine Ew_of (pcₚ := 47) (fun _ => x_iinc (len := 3) rfl (l14_4)) ?_
          refine v_lB H (o := 1) rfl rfl rfl rfl (n := n1) (en1) (show 0 ≤ x14_4 ∧ x14_4 < n1 from q_3211 b20 h3 j14_5) (fun v21 ev21 qv21 => ?_)
          have ev21 : (w1) (x14_4) = v21 := (congrFun ((funext (mA_14 1 rfl)).trans (ew1)) (x14_4)).symm.trans ev21
          have hvb := ev21
          refine Ew_of (pcₚ := 51) (fun _ => x_sipush (z := 255) rfl (by decide)) ?_
          refine v_and255 rfl ?_
          have hv : (ub8 ((w1))) (q6) = ((v21 % 256)) := by rw [hq6, show (a1) + (x14_6) = ((x14_4 + 1)) - 1 by omega]; first | exact ub_eq hvb rfl | (rw [Int.add_sub_cancel]; exact ub_eq hvb rfl)
          refine Ew_of (pcₚ := 54) (fun _ => x_istore rfl) ?_
          refine Ew_of (pcₚ := 56) (fun _ => x_iload rfl (rk_o (rk_o (l14_6) rfl rfl) rfl rfl)) ?_
          refine Ew_of (pcₚ := 57) (fun _ => x_iconst rfl) ?_
          have hc74 : ∀ (ls : rO) (σ : rS) (F_c74 : hF) (A_c74 : hA) , rlook ls 0 = some (.ref (D 0)) → rlook ls 1 = some (I (a1)) → rlook ls 2 = some (I (a2)) → rlook ls 3 = some (I (a3)) → rlook ls 4 = some (I ((x14_4 + 1))) → rlook ls 6 = some (I (x14_6)) → rlook ls 7 = some (I ((v21 % 256))) → HW V207 σ D N F_c74 A_c74 → OUT (V207).length D N σE c s D N σ c s → SF [] F_14 F_c74 → SA [] A_14 A_c74 → (((x14_6) ≠ (4)) ∨ ((x14_6) = (4) ∧ ((v21 % 256)) ≤ (15))) → Ew 207 (d + 1) 74 ls [] σ c s Q := by
           as_aux_lemma =>
            intro  ls σ F_c74 A_c74  lc74_0 lc74_1 lc74_2 lc74_3 lc74_4 lc74_6 lc74_7 H O hS_c74 hA_c74     jc74_0
            have cF_c74 : SF oz_D4clsl_2 F F_c74 := SF_trans (cF_14) hS_c74 (any_sub (by decide +kernel))
            have mF_c74 := SFm_of cF_c74 oz_D4cls_8
            have cA_c74 : SA oz_D4clsl_3 A A_c74 := SA_trans (cA_14) hA_c74 (any_subA (by decide +kernel))
            have mA_c74 := SAm_of cA_c74 oz_D4cls_9
            refine Ew_of (pcₚ := 75) (fun _ => x_aload_n rfl lc74_0) ?_
            refine Ew_of (pcₚ := 76) (fun _ => x_dup rfl rfl) ?_
            refine v_g H (o := 0) (v := J (y14_0_7)) rfl rfl rfl rfl rfl (congrArg (fun z : Int => J z) (((hS_c74 0 7 rfl).trans (ey14_0_7)) : F_c74 0 7 = y14_0_7)) ?_
            refine Ew_of (pcₚ := 81) (fun _ => x_iload rfl lc74_7) ?_
            refine w_i2l rfl (show inr ((v21 % 256)) from q_461) ?_
            refine Ew_of (pcₚ := 85) (fun _ => x_ldc2 (z := 127) rfl (by decide)) ?_
            refine w_landE rfl ?_
            have g22 : inrJ (anJ ((v21 % 256)) (127)) := toJ_inr _
            refine Ew_of (pcₚ := 88) (fun _ => x_bipush (z := 7) rfl (by decide)) ?_
            refine Ew_of (pcₚ := 90) (fun _ => x_iload rfl lc74_6) ?_
            refine w_imul rfl ?_
            refine w_lshlE rfl ?_
            have g23 : inrJ (shlJ ((anJ ((v21 % 256)) (127))) ((7 * x14_6))) := toJ_inr _
            have hp := p2_pos (7 * (x14_6))
            have hpm : p2 (7 * (x14_6)) ≤ p2 28 := p2_mono (by omega)
            have hp28 : p2 28 = 268435456 := by decide
            have hb1 : ((v21 % 256)) % 128 * p2 (7 * (x14_6)) ≤ 127 * p2 (7 * (x14_6)) := Int.mul_le_mul_of_nonneg_right (by omega) (by omega)
            have hb0 : 0 ≤ ((v21 % 256)) % 128 * p2 (7 * (x14_6)) := Int.mul_nonneg (by omega) (by omega)
            refine w_lorE rfl ?_
            have g24 : inrJ (orJ (y14_0_7) ((shlJ ((anJ ((v21 % 256)) (127))) ((7 * x14_6))))) := toJ_inr _
            have hln : ((orJ (y14_0_7) ((shlJ ((anJ ((v21 % 256)) (127))) ((7 * x14_6)))))) = (y14_0_7) + ((v21 % 256)) % 128 * p2 (7 * (x14_6)) := by rw [anJ_127]; exact or_sh (by omega) (by omega) (by omega) (by omega)
            have hp7 := p7 (i := (x14_6)) (by omega)
            refine v_p H (o := 0) (z := (orJ (y14_0_7) ((shlJ ((anJ ((v21 % 256)) (127))) ((7 * x14_6)))))) (v := J ((orJ (y14_0_7) ((shlJ ((anJ ((v21 % 256)) (127))) ((7 * x14_6))))))) rfl rfl rfl rfl rfl rfl rfl rfl (show (-9223372036854775808 : Int) ≤ (orJ (y14_0_7) ((shlJ ((anJ ((v21 % 256)) (127))) ((7 * x14_6))))) ∧ (orJ (y14_0_7) ((shlJ ((anJ ((v21 % 256)) (127))) ((7 * x14_6))))) ≤ 9223372036854775807 by omega) (fun σ H Oₚ => ?_)
            have O := OUT_trans O Oₚ
            have cFu25 : SF oz_D4clsl_2 F (updF F_c74 0 7 ((orJ (y14_0_7) ((shlJ ((anJ ((v21 % 256)) (127))) ((7 * x14_6))))))) := SF_upd (cF_c74) rfl
            have mFu25 := SFm_of cFu25 oz_D4cls_8
            refine Ew_of (pcₚ := 98) (fun _ => x_iload rfl lc74_7) ?_
            refine Ew_of (pcₚ := 100) (fun _ => x_bipush (z := 127) rfl (by decide)) ?_
            refine w_icmple (t := 107) rfl rfl (show inr ((v21 % 256)) from q_461) (show inr (127) from q_1119) (fun b26 => ?_) (fun b26 => ?_)
            · refine Ew_of (pcₚ := 108) (fun _ => x_iconst rfl) ?_
              refine Ew_of (pcₚ := 110) (fun _ => x_istore rfl) ?_
              refine Ew_of (pcₚ := 113) (fun _ => x_iinc (len := 3) rfl (rk_o (lc74_6) rfl rfl)) ?_
              refine Ew_of (pcₚ := 14) (fun _ => x_goto rfl rfl) ?_
              have : IMP (((0) : Int) = 1) (TLO (ub8 ((w1))) ((a2)) ((a1)) ((a3)) (((x14_6 + 1))) (((orJ (y14_0_7) ((shlJ ((anJ ((v21 % 256)) (127))) ((7 * x14_6)))))))) := by first | exact fun z => absurd z (by omega) | exact fun _ => TLO_s hlo (by omega) hq6 (by omega) hv (by omega) (by omega) (by omega)
              have : IMP (((0) : Int) = 0) (TLz (ub8 ((w1))) ((a2)) ((a1)) ((a3)) (((orJ (y14_0_7) ((shlJ ((anJ ((v21 % 256)) (127))) ((7 * x14_6))))))) (((x14_4 + 1)))) := by first | exact fun z => absurd z (by omega) | exact fun _ => TLO_z hlo (by omega) hq6 (by omega) hv (by omega) (by omega) (by omega)
              exact ih14 _ (msE hm14 q_996 (q_997 b6)) _ _ _ _ ((x14_4 + 1)) (0) ((x14_6 + 1)) (rk_o (rk_o (lc74_0) rfl rfl) rfl rfl) (rk_o (rk_o (lc74_1) rfl rfl) rfl rfl) (rk_o (rk_o (lc74_2) rfl rfl) rfl rfl) (rk_o (rk_o (lc74_3) rfl rfl) rfl rfl) (rk_o (rk_o (lc74_4) rfl rfl) rfl rfl) (rk_o (rk_s) rfl rfl) (rk_s) H O (SF_upd (SF_trans (hS_14) hS_c74 (any_sub (by decide +kernel))) rfl) (SA_trans (hA_14) hA_c74 (any_subA (by decide +kernel)))   ((orJ (y14_0_7) ((shlJ ((anJ ((v21 % 256)) (127))) ((7 * x14_6)))))) (rfl)  (show inr ((x14_4 + 1)) from q_3094 b20 h3 j14_0) (show inr (0) from q_2) (show inr ((x14_6 + 1)) from q_2387 b6 j14_3) (show (0) ≤ ((x14_6 + 1)) from q_14 j14_3) (show ((x14_6 + 1)) ≤ (0) ∨ ((x14_6 + 1)) ≤ (5) from q_2386 b6) (show (a1) ≤ ((x14_4 + 1)) ∧ ((x14_4 + 1)) ≤ (a2) from q_1503 b20 j14_5) (show ((x14_4 + 1)) = (a1) + ((x14_6 + 1)) from q_541 j14_6) (show (0) = 0 ∨ (0) = 1 from q_45) (show ((x14_6 + 1)) ≤ 4 ∨ (0) = 0 from q_3212) (show 0 ≤ ((orJ (y14_0_7) ((shlJ ((anJ ((v21 % 256)) (127))) ((7 * x14_6)))))) ∧ ((orJ (y14_0_7) ((shlJ ((anJ ((v21 % 256)) (127))) ((7 * x14_6)))))) < p2 (7 * ((x14_6 + 1))) by omega) (show IMP ((0) = 1) (TLO (ub8 ((w1))) ((a2)) ((a1)) ((a3)) (((x14_6 + 1))) (((orJ (y14_0_7) ((shlJ ((anJ ((v21 % 256)) (127))) ((7 * x14_6)))))))) by assumption) (show IMP ((0) = 0) (TLz (ub8 ((w1))) ((a2)) ((a1)) ((a3)) (((orJ (y14_0_7) ((shlJ ((anJ ((v21 % 256)) (127))) ((7 * x14_6))))))) (((x14_4 + 1)))) by assumption) rfl
            · refine Ew_of (pcₚ := 104) (fun _ => x_iconst rfl) ?_
              refine Ew_of (pcₚ := 108) (fun _ => x_goto rfl rfl) ?_
              refine Ew_of (pcₚ := 110) (fun _ => x_istore rfl) ?_
              refine Ew_of (pcₚ := 113) (fun _ => x_iinc (len := 3) rfl (rk_o (lc74_6) rfl rfl)) ?_
              refine Ew_of (pcₚ := 14) (fun _ => x_goto rfl rfl) ?_
              have : IMP (((1) : Int) = 1) (TLO (ub8 ((w1))) ((a2)) ((a1)) ((a3)) (((x14_6 + 1))) (((orJ (y14_0_7) ((shlJ ((anJ ((v21 % 256)) (127))) ((7 * x14_6)))))))) := by first | exact fun z => absurd z (by omega) | exact fun _ => TLO_s hlo (by omega) hq6 (by omega) hv (by omega) (by omega) (by omega)
              have : IMP (((1) : Int) = 0) (TLz (ub8 ((w1))) ((a2)) ((a1)) ((a3)) (((orJ (y14_0_7) ((shlJ ((anJ ((v21 % 256)) (127))) ((7 * x14_6))))))) (((x14_4 + 1)))) := by first | exact fun z => absurd z (by omega) | exact fun _ => TLO_z hlo (by omega) hq6 (by omega) hv (by omega) (by omega) (by omega)
              exact ih14 _ (msE hm14 q_996 (q_997 b6)) _ _ _ _ ((x14_4 + 1)) (1) ((x14_6 + 1)) (rk_o (rk_o (lc74_0) rfl rfl) rfl rfl) (rk_o (rk_o (lc74_1) rfl rfl) rfl rfl) (rk_o (rk_o (lc74_2) rfl rfl) rfl rfl) (rk_o (rk_o (lc74_3) rfl rfl) rfl rfl) (rk_o (rk_o (lc74_4) rfl rfl) rfl rfl) (rk_o (rk_s) rfl rfl) (rk_s) H O (SF_upd (SF_trans (hS_14) hS_c74 (any_sub (by decide +kernel))) rfl) (SA_trans (hA_14) hA_c74 (any_subA (by decide +kernel)))   ((orJ (y14_0_7) ((shlJ ((anJ ((v21 % 256)) (127))) ((7 * x14_6)))))) (rfl)  (show inr ((x14_4 + 1)) from q_3094 b20 h3 j14_0) (show inr (1) from q_135) (show inr ((x14_6 + 1)) from q_2387 b6 j14_3) (show (0) ≤ ((x14_6 + 1)) from q_14 j14_3) (show ((x14_6 + 1)) ≤ (0) ∨ ((x14_6 + 1)) ≤ (5) from q_2386 b6) (show (a1) ≤ ((x14_4 + 1)) ∧ ((x14_4 + 1)) ≤ (a2) from q_1503 b20 j14_5) (show ((x14_4 + 1)) = (a1) + ((x14_6 + 1)) from q_541 j14_6) (show (1) = 0 ∨ (1) = 1 from q_49) (show ((x14_6 + 1)) ≤ 4 ∨ (1) = 0 by omega) (show 0 ≤ ((orJ (y14_0_7) ((shlJ ((anJ ((v21 % 256)) (127))) ((7 * x14_6)))))) ∧ ((orJ (y14_0_7) ((shlJ ((anJ ((v21 % 256)) (127))) ((7 * x14_6)))))) < p2 (7 * ((x14_6 + 1))) by omega) (show IMP ((1) = 1) (TLO (ub8 ((w1))) ((a2)) ((a1)) ((a3)) (((x14_6 + 1))) (((orJ (y14_0_7) ((shlJ ((anJ ((v21 % 256)) (127))) ((7 * x14_6)))))))) by assumption) (show IMP ((1) = 0) (TLz (ub8 ((w1))) ((a2)) ((a1)) ((a3)) (((orJ (y14_0_7) ((shlJ ((anJ ((v21 % 256)) (127))) ((7 * x14_6))))))) (((x14_4 + 1)))) by assumption) rfl
          refine w_icmpne (t := 74) rfl rfl (show inr (x14_6) from j14_2) (show inr (4) from q_216) (fun b27 => ?_) (fun b27 => ?_)
          · exact hc74  _ _ _ _  (rk_o (rk_o (l14_0) rfl rfl) rfl rfl) (rk_o (rk_o (l14_1) rfl rfl) rfl rfl) (rk_o (rk_o (l14_2) rfl rfl) rfl rfl) (rk_o (rk_o (l14_3) rfl rfl) rfl rfl) (rk_o (rk_s) rfl rfl) (rk_o (rk_o (l14_6) rfl rfl) rfl rfl) (rk_s) H O (SF_refl) (SA_refl)     (show ((x14_6) ≠ (4)) ∨ ((x14_6) = (4) ∧ ((v21 % 256)) ≤ (15)) from q_3213 b27)
          · refine Ew_of (pcₚ := 62) (fun _ => x_iload rfl rk_s) ?_
            refine Ew_of (pcₚ := 64) (fun _ => x_bipush (z := 15) rfl (by decide)) ?_
            refine w_icmple (t := 74) rfl rfl (show inr ((v21 % 256)) from q_461) (show inr (15) from q_399) (fun b28 => ?_) (fun b28 => ?_)
            · exact hc74  _ _ _ _  (rk_o (rk_o (l14_0) rfl rfl) rfl rfl) (rk_o (rk_o (l14_1) rfl rfl) rfl rfl) (rk_o (rk_o (l14_2) rfl rfl) rfl rfl) (rk_o (rk_o (l14_3) rfl rfl) rfl rfl) (rk_o (rk_s) rfl rfl) (rk_o (rk_o (l14_6) rfl rfl) rfl rfl) (rk_s) H O (SF_refl) (SA_refl)     (show ((x14_6) ≠ (4)) ∨ ((x14_6) = (4) ∧ ((v21 % 256)) ≤ (15)) from q_3214 b27 b28)
            · refine Ew_of (pcₚ := 68) (fun _ => x_aload_n rfl (rk_o (rk_o (l14_0) rfl rfl) rfl rfl)) ?_
              refine Ew_of (pcₚ := 69) (fun _ => x_iconst rfl) ?_
              refine Ew_of (pcₚ := 70) (fun _ => x_iload_n rfl (rk_o (rk_o (l14_1) rfl rfl) rfl rfl)) ?_
              refine v_inv H (o := 0) rfl rfl rfl rfl rfl rfl (by rfl) (C203 (D := puc 0 D) (N := puc 0 N) (HW_subc H oz_D4cls_7 oz_D4cls_10) (u0_8) (((hS_14 0 8 rfl).trans (eu0_8))) (show inr (2) from q_122) (show inr (a1) from h0) (fun z29 σ29 F29ₚ A29ₚ Hₚ Oₚ hS29 hA29 y29_0_8 ey29_0_8 pz29_0 pz29_1 pz29_2 => ⟨rfl, ?_⟩))
              refine v_backc (c := c) (s := s) H oz_D4cls_7 oz_D4cls_10 Hₚ Oₚ (fun F29 A29 H Oₚ eF29 eA29 => ?_)
              have O := OUT_trans O Oₚ
              -- Tags.fail
              have cF29 : SF oz_D4clsl_2 F F29 := SF_trans (cF_14) (SF_gluc (ι := oz_D4clsl_4) oz_D4cls_10 hS29 eF29 (by decide +kernel)) (any_sub (lₚ := [(0, 8)]) (by decide +kernel))
              have mF29 := SFm_of cF29 oz_D4cls_8
              have cA29 : SA oz_D4clsl_3 A A29 := SA_trans (cA_14) (SA_gluc (ι := oz_D4clsl_4) oz_D4cls_10 hA29 eA29 (by decide +kernel)) (any_subA (lₚ := []) (by decide +kernel))
              have mA29 := SAm_of cA29 oz_D4cls_9
              have r30 : (-2147483648 : Int) ≤ y29_0_8 ∧ y29_0_8 ≤ 2147483647 := rngE (show (-2147483648 : Int) ≤ F29 0 8 ∧ F29 0 8 ≤ 2147483647 from H.krg 0 8 (ltn len_V207_oz_D4cls rfl)) (show F29 0 8 = y29_0_8 from ((eF29 0 8).trans ey29_0_8))
              have : IMP ((z29) ≠ 0) (TLQ (ub8 ((w1))) ((a2)) ((a1)) ((a3)) ((z29), (y29_0_8), 0, 0)) := fun _ => TLO_2 hlo (by omega) hq6 (by omega) hv (by omega) (by omega) (by omega)
              have : IMP ((z29) = 0) (TLQ (ub8 ((w1))) ((a2)) ((a1)) ((a3)) (0, 0, (y14_0_7), (y29_0_8))) := fun z => absurd z (by omega)
              exact w_ireturn rfl (k (z29) _ _ _ H O (cF29) (cA29) (y14_0_7) ((((show F29 0 7 = F_14 0 7 from (eF29 0 7).trans (hS29 0 7 rfl))).trans (ey14_0_7))) (y29_0_8) (((eF29 0 8).trans ey29_0_8)) (show inr (z29) from pz29_0) (show 0 ≤ (z29) ∧ (z29) ≤ 3 from q_2587 pz29_1) (show (z29) = 0 → a1 ≤ (y29_0_8) ∧ (y29_0_8) ≤ a2 ∧ 0 ≤ (y14_0_7) ∧ (y14_0_7) ≤ a3 from q_3215 h3 j14_9 pz29_1 pz29_2) (show IMP ((z29) ≠ 0) (TLQ (ub8 ((w1))) (a2) (a1) (a3) ((z29), (y29_0_8), 0, 0)) by assumption) (show IMP ((z29) = 0) (TLQ (ub8 ((w1))) (a2) (a1) (a3) (0, 0, (y14_0_7), (y29_0_8))) by assumption))
        · refine Ew_of (pcₚ := 32) (fun _ => x_aload_n rfl l14_0) ?_
          refine Ew_of (pcₚ := 33) (fun _ => x_iconst rfl) ?_
          refine Ew_of (pcₚ := 34) (fun _ => x_iload_n rfl l14_2) ?_
          refine v_inv H (o := 0) rfl rfl rfl rfl rfl rfl (by rfl) (C203 (D := puc 0 D) (N := puc 0 N) (HW_subc H oz_D4cls_7 oz_D4cls_10) (u0_8) (((hS_14 0 8 rfl).trans (eu0_8))) (show inr (1) from q_135) (show inr (a2) from h1) (fun z31 σ31 F31ₚ A31ₚ Hₚ Oₚ hS31 hA31 y31_0_8 ey31_0_8 pz31_0 pz31_1 pz31_2 => ⟨rfl, ?_⟩))
          refine v_backc (c := c) (s := s) H oz_D4cls_7 oz_D4cls_10 Hₚ Oₚ (fun F31 A31 H Oₚ eF31 eA31 => ?_)
          have O := OUT_trans O Oₚ
          -- Tags.fail
          have cF31 : SF oz_D4clsl_2 F F31 := SF_trans (cF_14) (SF_gluc (ι := oz_D4clsl_4) oz_D4cls_10 hS31 eF31 (by decide +kernel)) (any_sub (lₚ := [(0, 8)]) (by decide +kernel))
          have mF31 := SFm_of cF31 oz_D4cls_8
          have cA31 : SA oz_D4clsl_3 A A31 := SA_trans (cA_14) (SA_gluc (ι := oz_D4clsl_4) oz_D4cls_10 hA31 eA31 (by decide +kernel)) (any_subA (lₚ := []) (by decide +kernel))
          have mA31 := SAm_of cA31 oz_D4cls_9
          have r32 : (-2147483648 : Int) ≤ y31_0_8 ∧ y31_0_8 ≤ 2147483647 := rngE (show (-2147483648 : Int) ≤ F31 0 8 ∧ F31 0 8 ≤ 2147483647 from H.krg 0 8 (ltn len_V207_oz_D4cls rfl)) (show F31 0 8 = y31_0_8 from ((eF31 0 8).trans ey31_0_8))
          have : IMP ((z31) ≠ 0) (TLQ (ub8 ((w1))) ((a2)) ((a1)) ((a3)) ((z31), (y31_0_8), 0, 0)) := fun _ => TLO_1 (j14_o (by omega)) (by omega) (by omega) (by omega) (by omega)
          have : IMP ((z31) = 0) (TLQ (ub8 ((w1))) ((a2)) ((a1)) ((a3)) (0, 0, (y14_0_7), (y31_0_8))) := fun z => absurd z (by omega)
          exact w_ireturn rfl (k (z31) _ _ _ H O (cF31) (cA31) (y14_0_7) ((((show F31 0 7 = F_14 0 7 from (eF31 0 7).trans (hS31 0 7 rfl))).trans (ey14_0_7))) (y31_0_8) (((eF31 0 8).trans ey31_0_8)) (show inr (z31) from pz31_0) (show 0 ≤ (z31) ∧ (z31) ≤ 3 from q_3110 pz31_1) (show (z31) = 0 → a1 ≤ (y31_0_8) ∧ (y31_0_8) ≤ a2 ∧ 0 ≤ (y14_0_7) ∧ (y14_0_7) ≤ a3 from q_3216 h3 j14_9 pz31_1 pz31_2) (show IMP ((z31) ≠ 0) (TLQ (ub8 ((w1))) (a2) (a1) (a3) ((z31), (y31_0_8), 0, 0)) by assumption) (show IMP ((z31) = 0) (TLQ (ub8 ((w1))) (a2) (a1) (a3) (0, 0, (y14_0_7), (y31_0_8))) by assumption))
abbrev V206 : vV := [(0, 10, [(4, 0), (4, 0), (4, 0), (4, 0), (0, 0), (4, 0), (0, 0), (2, 0), (0, 0)]), (1, 0, []), (0, 7, [(4, 0), (0, 0), (1, 0), (0, 0), (0, 0)]), (1, 0, [])]
theorem len_V206_oz_D4cls : (V206).length = 4 := by decide +kernel
theorem oz_D4cls_12 : vsub V206 V207 [0, 1] = true := by decide +kernel
theorem oz_D4cls_13 : vsub V206 V203 [0] = true := by decide +kernel
theorem oz_D4cls_14 : vsub V206 V208 [] = true := by decide +kernel
theorem oz_D4cls_15 : vsub V206 V42_Br [1] = true := by decide +kernel
theorem oz_D4cls_16 : vsub V206 V209 [] = true := by decide +kernel
theorem oz_D4cls_17 : vsub V206 V161_Br [2, 1, 3] = true := by decide +kernel
theorem oz_D4cls_18 : vmov V206 [2, 1, 3] [2] = true := by decide +kernel
theorem oz_D4cls_19 : vsub V206 V163_thisa [2, 3] = true := by decide +kernel
theorem oz_D4cls_20 : vmov V206 [2, 3] [1] = true := by decide +kernel
def oz_D4clsl_5 : List (Nat × Nat) := [(0, 7), (0, 8), (2, 0), (2, 1), (2, 2)]
theorem oz_D4cls_21 : (oz_D4clsl_5).all (fun p => !tbz 129127208515966861696 (Nat.add (Nat.mul 32 p.1) p.2)) = true := by decide +kernel
def oz_D4clsl_6 : List Nat := [3]
theorem oz_D4cls_22 : (oz_D4clsl_6).all (fun p => !tbz 8 p) = true := by decide +kernel
def oz_D4clsl_7 : List Nat := [0, 1]
theorem oz_D4cls_23 : okc oz_D4clsl_7 512 = true := by decide +kernel
theorem oz_D4cls_24 : okc oz_D4clsl_3 0 = true := by decide +kernel
def oz_D4clsl_8 : List Nat := [1]
theorem oz_D4cls_25 : okc oz_D4clsl_8 1 = true := by decide +kernel
def oz_D4clsl_9 : List Nat := [2, 1, 3]
theorem oz_D4cls_26 : okc oz_D4clsl_9 786946 = true := by decide +kernel
def oz_D4clsl_10 : List Nat := [2, 3]
theorem oz_D4cls_27 : okc oz_D4clsl_10 1538 = true := by decide +kernel
set_option maxHeartbeats 16000000 in
theorem C206 {σE : rS} {D N : Nat → Nat} {F : hF} {A : hA} {d c s : Nat} {Q : wQ} (H : HW V206 σE D N F A) {a1 a2 a3 : Int} (pf1 : F 0 3 = (D 1 : Int)) (pf2 : F 0 5 = (D 2 : Int)) (pf3 : F 2 0 = (D 3 : Int)) (n1 : Int) (en1 : (N 1 : Int) = n1) (n3 : Int) (en3 : (N 3 : Int) = n3) (u0_8 : Int) (eu0_8 : F 0 8 = u0_8) (u2_1 : Int) (eu2_1 : F 2 1 = u2_1) (u2_2 : Int) (eu2_2 : F 2 2 = u2_2) (w1 : Int → Int) (ew1 : A 1 = w1) (w3 : Int → Int) (ew3 : A 3 = w3) (h0 : inr (a1)) (h1 : inr (a2)) (h2 : inr (a3)) (h3 : 0 ≤ (a1) ∧ (a1) ≤ (a2) ∧ (a2) ≤ (n1) ∧ (n1) ≤ 65536) (h4 : 0 ≤ (u2_1) ∧ (u2_1) ≤ (n3) ∧ (n3) ≤ 65536) (h5 : (a3) ≤ 65536) (h6 : (u2_2) = 0 ∧ (u2_1) + (a3) ≤ 65536) (k : ∀ (z : Int) (σ : rS) (Dₚ Nₚ : Nat → Nat) (Fₚ : hF) (Aₚ : hA) (cₚ sₚ : Nat), HW V206 σ Dₚ Nₚ Fₚ Aₚ → OUT (V206).length D N σE c s Dₚ Nₚ σ cₚ sₚ → SD [3] D Dₚ → SD [3] N Nₚ → SF [(0, 7), (0, 8), (2, 0), (2, 1), (2, 2)] F Fₚ → SA [3] A Aₚ → Fₚ 2 0 = (Dₚ 3 : Int) → ∀ m3 : Int, (Nₚ 3 : Int) = m3 → ∀ y0_8 : Int, Fₚ 0 8 = y0_8 → ∀ y2_1 : Int, Fₚ 2 1 = y2_1 → ∀ y2_2 : Int, Fₚ 2 2 = y2_2 → ∀ v3 : Int → Int, Aₚ 3 = v3 → (inr (z)) → (0 ≤ (z) ∧ (z) ≤ 6) → (0 ≤ (y2_1) ∧ (y2_1) ≤ (m3) ∧ (m3) ≤ 65536) → ((u2_1) ≤ (y2_1)) → ((y2_1) ≤ (u2_1) + (a3) ∨ (y2_1) = (u2_1)) → ((y2_2) = 0) → (IMP ((z) ≠ 0) (TYB (ub8 ((w1))) ((a2)) ((a1)) ((a3)) ((z), (y0_8), []))) → (IMP ((z) = 0) (TYB (ub8 ((w1))) ((a2)) ((a1)) ((a3)) (0, (a2), sc ((v3)) ((u2_1)) ((y2_1))))) → (∀ i, (0 : Int) ≤ i → i < (u2_1) → ((v3)) i = ((w3)) i) → ((z) ≠ 0 ∨ (y0_8) = (a2)) → Q (some (I z)) σ cₚ sₚ) : Ew 206 (d + 3) 0 (rargs 0 [.ref (D 0), I a1, I a2, I a3]) [] σE c s Q := by
  have O := OUT_refl (n := (V206).length) (D := D) (N := N) (σ := σE) (c := c) (s := s)
  have HE := H
  have r1 : (-2147483648 : Int) ≤ u0_8 ∧ u0_8 ≤ 2147483647 := rngE (show (-2147483648 : Int) ≤ F 0 8 ∧ F 0 8 ≤ 2147483647 from H.krg 0 8 (ltn len_V206_oz_D4cls rfl)) (show F 0 8 = u0_8 from (eu0_8))
  have r2 : (-2147483648 : Int) ≤ u2_1 ∧ u2_1 ≤ 2147483647 := rngE (show (-2147483648 : Int) ≤ F 2 1 ∧ F 2 1 ≤ 2147483647 from H.krg 2 1 (ltn len_V206_oz_D4cls rfl)) (show F 2 1 = u2_1 from (eu2_1))
  have r3 : (0 : Int) ≤ u2_2 ∧ u2_2 ≤ 1 := rngE (show (0 : Int) ≤ F 2 2 ∧ F 2 2 ≤ 1 from H.krg 2 2 (ltn len_V206_oz_D4cls rfl)) (show F 2 2 = u2_2 from (eu2_2))
  have r4 : (0 : Int) ≤ n1 ∧ n1 ≤ 1000000 := nleE (H.nle 1 (ltn len_V206_oz_D4cls rfl)) (show (N 1 : Int) = n1 from en1)
  have r5 : (0 : Int) ≤ n3 ∧ n3 ≤ 1000000 := nleE (H.nle 3 (ltn len_V206_oz_D4cls rfl)) (show (N 3 : Int) = n3 from en3)
  refine Ew_of (pcₚ := 1) (fun _ => x_aload_n rfl rfl) ?_
  refine Ew_of (pcₚ := 2) (fun _ => x_iload_n rfl rfl) ?_
  refine Ew_of (pcₚ := 3) (fun _ => x_iload_n rfl rfl) ?_
  refine Ew_of (pcₚ := 4) (fun _ => x_iload_n rfl rfl) ?_
  have r6 : (-9223372036854775808 : Int) ≤ F 0 7 ∧ F 0 7 ≤ 9223372036854775807 := H.krg 0 7 (ltn len_V206_oz_D4cls rfl)
  refine v_inv H (o := 0) rfl rfl rfl rfl rfl rfl (by rfl) (C207 (D := puc 512 D) (N := puc 512 N) (HW_subc H oz_D4cls_12 oz_D4cls_23) (pf1) (n1) (en1) (F 0 7) (rfl) (u0_8) ((eu0_8)) (w1) (ew1) (show inr (a1) from h0) (show inr (a2) from h1) (show inr (a3) from h2) (show 0 ≤ (a1) ∧ (a1) ≤ (a2) ∧ (a2) ≤ (n1) ∧ (n1) ≤ 65536 from h3) (fun z7 σ7 F7ₚ A7ₚ Hₚ Oₚ hS7 hA7 y7_0_7 ey7_0_7 y7_0_8 ey7_0_8 pz7_0 pz7_1 pz7_2 pz7_3 pz7_4 => ⟨rfl, ?_⟩))
  refine v_backc (c := c) (s := s) H oz_D4cls_12 oz_D4cls_23 Hₚ Oₚ (fun F7 A7 H Oₚ eF7 eA7 => ?_)
  have O := OUT_trans O Oₚ
  -- Tags.unpackLength
  have cF7 : SF oz_D4clsl_5 F F7 := SF_trans (SF_refl) (SF_gluc (ι := oz_D4clsl_7) oz_D4cls_23 hS7 eF7 (by decide +kernel)) (any_sub (lₚ := [(0, 7), (0, 8)]) (by decide +kernel))
  have mF7 := SFm_of cF7 oz_D4cls_21
  have cA7 : SA oz_D4clsl_6 A A7 := SA_trans (SA_refl) (SA_gluc (ι := oz_D4clsl_7) oz_D4cls_23 hA7 eA7 (by decide +kernel)) (any_subA (lₚ := []) (by decide +kernel))
  have mA7 := SAm_of cA7 oz_D4cls_22
  have r8 : (-9223372036854775808 : Int) ≤ y7_0_7 ∧ y7_0_7 ≤ 9223372036854775807 := rngE (show (-9223372036854775808 : Int) ≤ F7 0 7 ∧ F7 0 7 ≤ 9223372036854775807 from H.krg 0 7 (ltn len_V206_oz_D4cls rfl)) (show F7 0 7 = y7_0_7 from ((eF7 0 7).trans ey7_0_7))
  have r9 : (-2147483648 : Int) ≤ y7_0_8 ∧ y7_0_8 ≤ 2147483647 := rngE (show (-2147483648 : Int) ≤ F7 0 8 ∧ F7 0 8 ≤ 2147483647 from H.krg 0 8 (ltn len_V206_oz_D4cls rfl)) (show F7 0 8 = y7_0_8 from ((eF7 0 8).trans ey7_0_8))
  have hLf := pz7_3
  have hLy := pz7_4
  refine Ew_of (pcₚ := 9) (fun _ => x_istore rfl) ?_
  refine Ew_of (pcₚ := 11) (fun _ => x_iload rfl rk_s) ?_
  refine w_ifeq (t := 17) rfl rfl (show inr (z7) from pz7_0) (fun b10 => ?_) (fun b10 => ?_)
  · refine Ew_of (pcₚ := 18) (fun _ => x_aload_n rfl (rk_o (rfl) rfl rfl)) ?_
    refine v_g H (o := 0) (v := .ref (D 2)) rfl rfl rfl rfl rfl (vrf ((mF7 0 5 rfl).trans (pf2))) ?_
    refine v_g H (o := 2) (v := I (u2_1)) rfl rfl rfl rfl rfl (congrArg (fun z : Int => I z) ((((show F7 2 1 = F 2 1 from (eF7 2 1))).trans (eu2_1)) : F7 2 1 = u2_1)) ?_
    refine Ew_of (pcₚ := 26) (fun _ => x_istore rfl) ?_
    refine Ew_of (pcₚ := 27) (fun _ => x_aload_n rfl (rk_o (rk_o (rfl) rfl rfl) rfl rfl)) ?_
    refine v_g H (o := 0) (v := I (y7_0_8)) rfl rfl rfl rfl rfl (congrArg (fun z : Int => I z) (((eF7 0 8).trans ey7_0_8) : F7 0 8 = y7_0_8)) ?_
    refine Ew_of (pcₚ := 32) (fun _ => x_istore rfl) ?_
    obtain ⟨q0, hq0⟩ : ∃ q : Int, q = (y7_0_8) := ⟨_, rfl⟩
    have hLQ := hLy (by omega)
    rw [← hq0] at hLQ
    refine Ew_of (pcₚ := 33) (fun _ => x_iload_n rfl (rk_o (rk_o (rk_o (rfl) rfl rfl) rfl rfl) rfl rfl)) ?_
    refine Ew_of (pcₚ := 35) (fun _ => x_istore rfl) ?_
    have : TYO (ub8 ((w1))) ((a2)) ((y7_0_7)) (q0) ((y7_0_8)) (sc ((w3)) ((u2_1)) ((u2_1))) := by rw [hq0, sc_nil (Int.le_refl _)]; exact ITO_0
    have : ∀ i, (0 : Int) ≤ i → i < (u2_1) → ((w3)) i = ((w3)) i := fun i x y => rfl
    suffices hl35 : ∀ (m : Nat), ∀ (ls : rO) (σ : rS) (D_35 N_35 : Nat → Nat) (c_35 s_35 : Nat) (F_35 : hF) (A_35 : hA) (x35_6 : Int) (x35_7 : Int), rlook ls 0 = some (.ref (D_35 0)) → rlook ls 2 = some (I (a2)) → rlook ls 5 = some (I (u2_1)) → rlook ls 6 = some (I (x35_6)) → rlook ls 7 = some (I (x35_7)) → HW V206 σ D_35 N_35 F_35 A_35 → OUT (V206).length D N σE c s D_35 N_35 σ c_35 s_35 → SD [3] D D_35 → SD [3] N N_35 → SF [(2, 0), (2, 1), (2, 2)] F7 F_35 → SA [3] A7 A_35 → F_35 2 0 = (D_35 3 : Int) → ∀ m35_3 : Int, (N_35 3 : Int) = m35_3 → ∀ y35_2_1 : Int, F_35 2 1 = y35_2_1 → ∀ y35_2_2 : Int, F_35 2 2 = y35_2_2 → ∀ w35_3 : Int → Int, A_35 3 = w35_3 → (inr (x35_6)) → (inr (x35_7)) → ((a1) ≤ (x35_7)) → ((x35_7) ≤ (a1) ∨ (x35_7) ≤ ((a2))) → (0 ≤ (x35_6) ∧ (x35_6) ≤ (a2)) → (0 ≤ (y35_2_1) ∧ (y35_2_1) ≤ (m35_3) ∧ (m35_3) ≤ 65536) → ((u2_1) ≤ (y35_2_1) ∧ (u2_1) = (u2_1)) → ((y35_2_1) - (u2_1) ≤ (y7_0_7)) → ((y35_2_2) = 0) → ((x35_7) ≤ (x35_6)) → (TYO (ub8 ((w1))) ((a2)) ((y7_0_7)) (q0) ((x35_6)) (sc ((w35_3)) ((u2_1)) ((y35_2_1)))) → (∀ i, (0 : Int) ≤ i → i < (u2_1) → ((w35_3)) i = ((w3)) i) → (((a2)) - (x35_7)).toNat = m → Ew 206 (d + 3) 35 ls [] σ c_35 s_35 Q from
      hl35 _ _ _ _ _ _ _ _ _ (y7_0_8) (a1) (rk_o (rk_o (rk_o (rk_o (rfl) rfl rfl) rfl rfl) rfl rfl) rfl rfl) (rk_o (rk_o (rk_o (rk_o (rfl) rfl rfl) rfl rfl) rfl rfl) rfl rfl) (rk_o (rk_o (rk_s) rfl rfl) rfl rfl) (rk_o (rk_s) rfl rfl) (rk_s) H O (SD_refl) (SD_refl) (SF_refl) (SA_refl) ((((show F7 2 0 = F 2 0 from (eF7 2 0)))).trans (pf3)) (n3) (en3) (u2_1) ((((show F7 2 1 = F 2 1 from (eF7 2 1))).trans (eu2_1))) (u2_2) ((((show F7 2 2 = F 2 2 from (eF7 2 2))).trans (eu2_2))) (w3) (((show A7 3 = A 3 from (eA7 3))).trans (ew3)) (show inr (y7_0_8) from q_18 r9) (show inr (a1) from h0) (show (a1) ≤ (a1) from q_43) (show (a1) ≤ (a1) ∨ (a1) ≤ ((a2)) from q_156) (show 0 ≤ (y7_0_8) ∧ (y7_0_8) ≤ (a2) from q_3221 b10 h3 pz7_2) (show 0 ≤ (u2_1) ∧ (u2_1) ≤ (n3) ∧ (n3) ≤ 65536 from h4) (show (u2_1) ≤ (u2_1) ∧ (u2_1) = (u2_1) from q_3220) (show (u2_1) - (u2_1) ≤ (y7_0_7) from q_3219 b10 pz7_2) (show (u2_2) = 0 from q_3218 h6) (show (a1) ≤ (y7_0_8) from q_3217 b10 pz7_2) (show TYO (ub8 ((w1))) ((a2)) ((y7_0_7)) (q0) ((y7_0_8)) (sc ((w3)) ((u2_1)) ((u2_1))) by assumption) (show ∀ i, (0 : Int) ≤ i → i < (u2_1) → ((w3)) i = ((w3)) i by assumption) rfl
    as_aux_lemma =>
    intro m
    induction m using Nat.strongRecOn with
    | _ m ih35 =>
      intro ls σ D_35 N_35 c_35 s_35 F_35 A_35 x35_6 x35_7 l35_0 l35_2 l35_5 l35_6 l35_7 H O hD_35 hN_35 hS_35 hA_35 pm35_3 m35_3 em35_3 y35_2_1 ey35_2_1 y35_2_2 ey35_2_2 w35_3 ew35_3 j35_0 j35_1 j35_2 j35_3 j35_4 j35_5 j35_6 j35_7 j35_8 j35_9 j35_10 j35_11 hm35
      have cF_35 : SF oz_D4clsl_5 F F_35 := SF_trans (cF7) hS_35 (any_sub (by decide +kernel))
      have mF_35 := SFm_of cF_35 oz_D4cls_21
      have cA_35 : SA oz_D4clsl_6 A A_35 := SA_trans (cA7) hA_35 (any_subA (by decide +kernel))
      have mA_35 := SAm_of cA_35 oz_D4cls_22
      have cD_35 : SD oz_D4clsl_6 D D_35 := SD_trans (SD_refl) hD_35 (any_subA (by decide +kernel))
      have mD_35 := SDm_of cD_35 oz_D4cls_22
      have cN_35 : SD oz_D4clsl_6 N N_35 := SD_trans (SD_refl) hN_35 (any_subA (by decide +kernel))
      have mN_35 := SDm_of cN_35 oz_D4cls_22
      have r11 : (0 : Int) ≤ m35_3 ∧ m35_3 ≤ 1000000 := nleE (H.nle 3 (ltn len_V206_oz_D4cls rfl)) (show (N_35 3 : Int) = m35_3 from em35_3)
      have r12 : (-2147483648 : Int) ≤ y35_2_1 ∧ y35_2_1 ≤ 2147483647 := rngE (show (-2147483648 : Int) ≤ F_35 2 1 ∧ F_35 2 1 ≤ 2147483647 from H.krg 2 1 (ltn len_V206_oz_D4cls rfl)) (show F_35 2 1 = y35_2_1 from (ey35_2_1))
      have r13 : (0 : Int) ≤ y35_2_2 ∧ y35_2_2 ≤ 1 := rngE (show (0 : Int) ≤ F_35 2 2 ∧ F_35 2 2 ≤ 1 from H.krg 2 2 (ltn len_V206_oz_D4cls rfl)) (show F_35 2 2 = y35_2_2 from (ey35_2_2))
      have j35_o : TYO (ub8 ((w1))) ((a2)) ((y7_0_7)) (q0) ((x35_6)) (sc ((w35_3)) ((u2_1)) ((y35_2_1))) := j35_10
      have j35_s : ∀ i, (0 : Int) ≤ i → i < (u2_1) → ((w35_3)) i = ((w3)) i := by assumption
      obtain ⟨CX, hCX⟩ : ∃ q : List Int, q = sc ((w35_3)) ((u2_1)) ((y35_2_1)) := ⟨_, rfl⟩
      have hCl : (CX.length : Int) = (y35_2_1) - (u2_1) := by first | (rw [hCX, sc_lenI (by omega)]; done) | (rw [hCX, sc_lenI (by omega)]; omega)
      rw [← hCX] at j35_o
      obtain ⟨qp, hqp⟩ : ∃ q : Int, q = (x35_6) := ⟨_, rfl⟩
      rw [← hqp] at j35_o
      refine Ew_of (pcₚ := 37) (fun _ => x_iload rfl l35_7) ?_
      refine Ew_of (pcₚ := 38) (fun _ => x_iload_n rfl l35_2) ?_
      refine w_icmpge (t := 300) rfl rfl (show inr (x35_7) from j35_1) (show inr (a2) from h1) (fun b14 => ?_) (fun b14 => ?_)
      · have j35_e : (x35_6) = (a2) := q_3222 b14 j35_4 j35_9
        refine Ew_of (pcₚ := 301) (fun _ => x_aload_n rfl l35_0) ?_
        refine v_g H (o := 0) (v := .ref (D_35 2)) rfl rfl rfl rfl rfl (vrf ((mF_35 0 5 rfl).trans ((pf2).trans (congrArg (fun q : Nat => (q : Int)) (mD_35 2 rfl).symm)))) ?_
        refine v_g H (o := 2) (v := I (y35_2_1)) rfl rfl rfl rfl rfl (congrArg (fun z : Int => I z) ((ey35_2_1) : F_35 2 1 = y35_2_1)) ?_
        refine Ew_of (pcₚ := 309) (fun _ => x_iload rfl l35_5) ?_
        refine w_isub rfl ?_
        refine w_i2l rfl (show inr ((y35_2_1 - u2_1)) from q_3223 h4 j35_5 j35_6) ?_
        refine Ew_of (pcₚ := 312) (fun _ => x_aload_n rfl l35_0) ?_
        refine v_g H (o := 0) (v := J (y7_0_7)) rfl rfl rfl rfl rfl (congrArg (fun z : Int => J z) (((hS_35 0 7 rfl).trans ((eF7 0 7).trans ey7_0_7)) : F_35 0 7 = y7_0_7)) ?_
        refine w_lcmp rfl (show inrJ ((y35_2_1 - u2_1)) from q_3224 h4 j35_5 j35_6) (show inrJ (y7_0_7) by omega) (fun z15 gz15 gaz15 gbz15 => ?_)
        refine w_ifge (t := 329) rfl rfl (show inr (z15) from gz15) (fun b16 => ?_) (fun b16 => ?_)
        · refine Ew_of (pcₚ := 330) (fun _ => x_aload_n rfl l35_0) ?_
          refine Ew_of (pcₚ := 331) (fun _ => x_iconst rfl) ?_
          refine Ew_of (pcₚ := 332) (fun _ => x_iload_n rfl l35_2) ?_
          refine v_inv H (o := 0) rfl rfl rfl rfl rfl rfl (by rfl) (C203 (D := puc 0 D_35) (N := puc 0 N_35) (HW_subc H oz_D4cls_13 oz_D4cls_10) (y7_0_8) (((hS_35 0 8 rfl).trans ((eF7 0 8).trans ey7_0_8))) (show inr (0) from q_2) (show inr (a2) from h1) (fun z17 σ17 F17ₚ A17ₚ Hₚ Oₚ hS17 hA17 y17_0_8 ey17_0_8 pz17_0 pz17_1 pz17_2 => ⟨rfl, ?_⟩))
          refine v_backc (c := c_35) (s := s_35) H oz_D4cls_13 oz_D4cls_10 Hₚ Oₚ (fun F17 A17 H Oₚ eF17 eA17 => ?_)
          have O := OUT_trans O Oₚ
          -- Tags.fail
          have cF17 : SF oz_D4clsl_5 F F17 := SF_trans (cF_35) (SF_gluc (ι := oz_D4clsl_4) oz_D4cls_10 hS17 eF17 (by decide +kernel)) (any_sub (lₚ := [(0, 8)]) (by decide +kernel))
          have mF17 := SFm_of cF17 oz_D4cls_21
          have cA17 : SA oz_D4clsl_6 A A17 := SA_trans (cA_35) (SA_gluc (ι := oz_D4clsl_4) oz_D4cls_10 hA17 eA17 (by decide +kernel)) (any_subA (lₚ := []) (by decide +kernel))
          have mA17 := SAm_of cA17 oz_D4cls_22
          have r18 : (-2147483648 : Int) ≤ y17_0_8 ∧ y17_0_8 ≤ 2147483647 := rngE (show (-2147483648 : Int) ≤ F17 0 8 ∧ F17 0 8 ≤ 2147483647 from H.krg 0 8 (ltn len_V206_oz_D4cls rfl)) (show F17 0 8 = y17_0_8 from ((eF17 0 8).trans ey17_0_8))
          have : IMP ((z17) ≠ 0) (TYB (ub8 ((w1))) ((a2)) ((a1)) ((a3)) ((z17), (y17_0_8), [])) := fun z => by first | exact ⟨0, 0, _, _, hLQ, .inr ⟨rfl, ITO_e j35_o (TYe_6 (by omega) (by omega) (by omega) (by omega))⟩⟩ | exact absurd (by omega) z
          have : IMP ((z17) = 0) (TYB (ub8 ((w1))) ((a2)) ((a1)) ((a3)) (0, (a2), sc ((w35_3)) ((u2_1)) ((y35_2_1)))) := fun z => by first | exact absurd z (by omega) | (have h := ITO_e j35_o (TYe_0 (by omega) (by omega) rfl rfl); rw [hCX] at h; exact ⟨0, 0, _, _, hLQ, .inr ⟨rfl, h⟩⟩)
          exact w_ireturn rfl (k (z17) _ _ _ _ _ _ _ H O (cD_35) (cN_35) (cF17) (cA17) ((((show F17 2 0 = F_35 2 0 from (eF17 2 0)))).trans (pm35_3)) (m35_3) (em35_3) (y17_0_8) (((eF17 0 8).trans ey17_0_8)) (y35_2_1) ((((show F17 2 1 = F_35 2 1 from (eF17 2 1))).trans (ey35_2_1))) (y35_2_2) ((((show F17 2 2 = F_35 2 2 from (eF17 2 2))).trans (ey35_2_2))) (w35_3) (((show A17 3 = A_35 3 from (eA17 3))).trans (ew35_3)) (show inr (z17) from pz17_0) (show 0 ≤ (z17) ∧ (z17) ≤ 6 from q_3228 pz17_1) (show 0 ≤ (y35_2_1) ∧ (y35_2_1) ≤ (m35_3) ∧ (m35_3) ≤ 65536 from j35_5) (show (u2_1) ≤ (y35_2_1) from q_3227 j35_6) (show (y35_2_1) ≤ (u2_1) + a3 ∨ (y35_2_1) = (u2_1) from q_3226 b10 j35_7 pz7_2) (show (y35_2_2) = 0 from j35_8) (show IMP ((z17) ≠ 0) (TYB (ub8 ((w1))) (a2) (a1) (a3) ((z17), (y17_0_8), [])) by assumption) (show IMP ((z17) = 0) (TYB (ub8 ((w1))) (a2) (a1) (a3) (0, a2, sc ((w35_3)) ((u2_1)) ((y35_2_1)))) by assumption) (j35_s) (show (z17) ≠ 0 ∨ (y17_0_8) = a2 from q_3225 pz17_2))
        · refine Ew_of (pcₚ := 320) (fun _ => x_aload_n rfl l35_0) ?_
          refine Ew_of (pcₚ := 322) (fun _ => x_bipush (z := 6) rfl (by decide)) ?_
          refine Ew_of (pcₚ := 323) (fun _ => x_iload_n rfl l35_2) ?_
          refine v_inv H (o := 0) rfl rfl rfl rfl rfl rfl (by rfl) (C203 (D := puc 0 D_35) (N := puc 0 N_35) (HW_subc H oz_D4cls_13 oz_D4cls_10) (y7_0_8) (((hS_35 0 8 rfl).trans ((eF7 0 8).trans ey7_0_8))) (show inr (6) from q_756) (show inr (a2) from h1) (fun z19 σ19 F19ₚ A19ₚ Hₚ Oₚ hS19 hA19 y19_0_8 ey19_0_8 pz19_0 pz19_1 pz19_2 => ⟨rfl, ?_⟩))
          refine v_backc (c := c_35) (s := s_35) H oz_D4cls_13 oz_D4cls_10 Hₚ Oₚ (fun F19 A19 H Oₚ eF19 eA19 => ?_)
          have O := OUT_trans O Oₚ
          -- Tags.fail
          have cF19 : SF oz_D4clsl_5 F F19 := SF_trans (cF_35) (SF_gluc (ι := oz_D4clsl_4) oz_D4cls_10 hS19 eF19 (by decide +kernel)) (any_sub (lₚ := [(0, 8)]) (by decide +kernel))
          have mF19 := SFm_of cF19 oz_D4cls_21
          have cA19 : SA oz_D4clsl_6 A A19 := SA_trans (cA_35) (SA_gluc (ι := oz_D4clsl_4) oz_D4cls_10 hA19 eA19 (by decide +kernel)) (any_subA (lₚ := []) (by decide +kernel))
          have mA19 := SAm_of cA19 oz_D4cls_22
          have r20 : (-2147483648 : Int) ≤ y19_0_8 ∧ y19_0_8 ≤ 2147483647 := rngE (show (-2147483648 : Int) ≤ F19 0 8 ∧ F19 0 8 ≤ 2147483647 from H.krg 0 8 (ltn len_V206_oz_D4cls rfl)) (show F19 0 8 = y19_0_8 from ((eF19 0 8).trans ey19_0_8))
          refine Ew_of (pcₚ := 335) (fun _ => x_goto rfl rfl) ?_
          have : IMP ((z19) ≠ 0) (TYB (ub8 ((w1))) ((a2)) ((a1)) ((a3)) ((z19), (y19_0_8), [])) := fun z => by first | exact ⟨0, 0, _, _, hLQ, .inr ⟨rfl, ITO_e j35_o (TYe_6 (by omega) (by omega) (by omega) (by omega))⟩⟩ | exact absurd (by omega) z
          have : IMP ((z19) = 0) (TYB (ub8 ((w1))) ((a2)) ((a1)) ((a3)) (0, (a2), sc ((w35_3)) ((u2_1)) ((y35_2_1)))) := fun z => by first | exact absurd z (by omega) | (have h := ITO_e j35_o (TYe_0 (by omega) (by omega) rfl rfl); rw [hCX] at h; exact ⟨0, 0, _, _, hLQ, .inr ⟨rfl, h⟩⟩)
          exact w_ireturn rfl (k (z19) _ _ _ _ _ _ _ H O (cD_35) (cN_35) (cF19) (cA19) ((((show F19 2 0 = F_35 2 0 from (eF19 2 0)))).trans (pm35_3)) (m35_3) (em35_3) (y19_0_8) (((eF19 0 8).trans ey19_0_8)) (y35_2_1) ((((show F19 2 1 = F_35 2 1 from (eF19 2 1))).trans (ey35_2_1))) (y35_2_2) ((((show F19 2 2 = F_35 2 2 from (eF19 2 2))).trans (ey35_2_2))) (w35_3) (((show A19 3 = A_35 3 from (eA19 3))).trans (ew35_3)) (show inr (z19) from pz19_0) (show 0 ≤ (z19) ∧ (z19) ≤ 6 from q_3230 pz19_1) (show 0 ≤ (y35_2_1) ∧ (y35_2_1) ≤ (m35_3) ∧ (m35_3) ≤ 65536 from j35_5) (show (u2_1) ≤ (y35_2_1) from q_3227 j35_6) (show (y35_2_1) ≤ (u2_1) + a3 ∨ (y35_2_1) = (u2_1) from q_3226 b10 j35_7 pz7_2) (show (y35_2_2) = 0 from j35_8) (show IMP ((z19) ≠ 0) (TYB (ub8 ((w1))) (a2) (a1) (a3) ((z19), (y19_0_8), [])) by assumption) (show IMP ((z19) = 0) (TYB (ub8 ((w1))) (a2) (a1) (a3) (0, a2, sc ((w35_3)) ((u2_1)) ((y35_2_1)))) by assumption) (j35_s) (show (z19) ≠ 0 ∨ (y19_0_8) = a2 from q_3229 pz19_1))
      · refine Ew_of (pcₚ := 43) (fun _ => x_iload rfl l35_6) ?_
        refine Ew_of (pcₚ := 44) (fun _ => x_iload_n rfl l35_2) ?_
        refine w_icmpge (t := 300) rfl rfl (show inr (x35_6) from j35_0) (show inr (a2) from h1) (fun b21 => ?_) (fun b21 => ?_)
        · have j35_e : (x35_6) = (a2) := q_3231 b21 j35_4
          refine Ew_of (pcₚ := 301) (fun _ => x_aload_n rfl l35_0) ?_
          refine v_g H (o := 0) (v := .ref (D_35 2)) rfl rfl rfl rfl rfl (vrf ((mF_35 0 5 rfl).trans ((pf2).trans (congrArg (fun q : Nat => (q : Int)) (mD_35 2 rfl).symm)))) ?_
          refine v_g H (o := 2) (v := I (y35_2_1)) rfl rfl rfl rfl rfl (congrArg (fun z : Int => I z) ((ey35_2_1) : F_35 2 1 = y35_2_1)) ?_
          refine Ew_of (pcₚ := 309) (fun _ => x_iload rfl l35_5) ?_
          refine w_isub rfl ?_
          refine w_i2l rfl (show inr ((y35_2_1 - u2_1)) from q_3223 h4 j35_5 j35_6) ?_
          refine Ew_of (pcₚ := 312) (fun _ => x_aload_n rfl l35_0) ?_
          refine v_g H (o := 0) (v := J (y7_0_7)) rfl rfl rfl rfl rfl (congrArg (fun z : Int => J z) (((hS_35 0 7 rfl).trans ((eF7 0 7).trans ey7_0_7)) : F_35 0 7 = y7_0_7)) ?_
          refine w_lcmp rfl (show inrJ ((y35_2_1 - u2_1)) from q_3224 h4 j35_5 j35_6) (show inrJ (y7_0_7) by omega) (fun z22 gz22 gaz22 gbz22 => ?_)
          refine w_ifge (t := 329) rfl rfl (show inr (z22) from gz22) (fun b23 => ?_) (fun b23 => ?_)
          · refine Ew_of (pcₚ := 330) (fun _ => x_aload_n rfl l35_0) ?_
            refine Ew_of (pcₚ := 331) (fun _ => x_iconst rfl) ?_
            refine Ew_of (pcₚ := 332) (fun _ => x_iload_n rfl l35_2) ?_
            refine v_inv H (o := 0) rfl rfl rfl rfl rfl rfl (by rfl) (C203 (D := puc 0 D_35) (N := puc 0 N_35) (HW_subc H oz_D4cls_13 oz_D4cls_10) (y7_0_8) (((hS_35 0 8 rfl).trans ((eF7 0 8).trans ey7_0_8))) (show inr (0) from q_2) (show inr (a2) from h1) (fun z24 σ24 F24ₚ A24ₚ Hₚ Oₚ hS24 hA24 y24_0_8 ey24_0_8 pz24_0 pz24_1 pz24_2 => ⟨rfl, ?_⟩))
            refine v_backc (c := c_35) (s := s_35) H oz_D4cls_13 oz_D4cls_10 Hₚ Oₚ (fun F24 A24 H Oₚ eF24 eA24 => ?_)
            have O := OUT_trans O Oₚ
            -- Tags.fail
            have cF24 : SF oz_D4clsl_5 F F24 := SF_trans (cF_35) (SF_gluc (ι := oz_D4clsl_4) oz_D4cls_10 hS24 eF24 (by decide +kernel)) (any_sub (lₚ := [(0, 8)]) (by decide +kernel))
            have mF24 := SFm_of cF24 oz_D4cls_21
            have cA24 : SA oz_D4clsl_6 A A24 := SA_trans (cA_35) (SA_gluc (ι := oz_D4clsl_4) oz_D4cls_10 hA24 eA24 (by decide +kernel)) (any_subA (lₚ := []) (by decide +kernel))
            have mA24 := SAm_of cA24 oz_D4cls_22
            have r25 : (-2147483648 : Int) ≤ y24_0_8 ∧ y24_0_8 ≤ 2147483647 := rngE (show (-2147483648 : Int) ≤ F24 0 8 ∧ F24 0 8 ≤ 2147483647 from H.krg 0 8 (ltn len_V206_oz_D4cls rfl)) (show F24 0 8 = y24_0_8 from ((eF24 0 8).trans ey24_0_8))
            have : IMP ((z24) ≠ 0) (TYB (ub8 ((w1))) ((a2)) ((a1)) ((a3)) ((z24), (y24_0_8), [])) := fun z => by first | exact ⟨0, 0, _, _, hLQ, .inr ⟨rfl, ITO_e j35_o (TYe_6 (by omega) (by omega) (by omega) (by omega))⟩⟩ | exact absurd (by omega) z
            have : IMP ((z24) = 0) (TYB (ub8 ((w1))) ((a2)) ((a1)) ((a3)) (0, (a2), sc ((w35_3)) ((u2_1)) ((y35_2_1)))) := fun z => by first | exact absurd z (by omega) | (have h := ITO_e j35_o (TYe_0 (by omega) (by omega) rfl rfl); rw [hCX] at h; exact ⟨0, 0, _, _, hLQ, .inr ⟨rfl, h⟩⟩)
            exact w_ireturn rfl (k (z24) _ _ _ _ _ _ _ H O (cD_35) (cN_35) (cF24) (cA24) ((((show F24 2 0 = F_35 2 0 from (eF24 2 0)))).trans (pm35_3)) (m35_3) (em35_3) (y24_0_8) (((eF24 0 8).trans ey24_0_8)) (y35_2_1) ((((show F24 2 1 = F_35 2 1 from (eF24 2 1))).trans (ey35_2_1))) (y35_2_2) ((((show F24 2 2 = F_35 2 2 from (eF24 2 2))).trans (ey35_2_2))) (w35_3) (((show A24 3 = A_35 3 from (eA24 3))).trans (ew35_3)) (show inr (z24) from pz24_0) (show 0 ≤ (z24) ∧ (z24) ≤ 6 from q_3228 pz24_1) (show 0 ≤ (y35_2_1) ∧ (y35_2_1) ≤ (m35_3) ∧ (m35_3) ≤ 65536 from j35_5) (show (u2_1) ≤ (y35_2_1) from q_3227 j35_6) (show (y35_2_1) ≤ (u2_1) + a3 ∨ (y35_2_1) = (u2_1) from q_3226 b10 j35_7 pz7_2) (show (y35_2_2) = 0 from j35_8) (show IMP ((z24) ≠ 0) (TYB (ub8 ((w1))) (a2) (a1) (a3) ((z24), (y24_0_8), [])) by assumption) (show IMP ((z24) = 0) (TYB (ub8 ((w1))) (a2) (a1) (a3) (0, a2, sc ((w35_3)) ((u2_1)) ((y35_2_1)))) by assumption) (j35_s) (show (z24) ≠ 0 ∨ (y24_0_8) = a2 from q_3225 pz24_2))
          · refine Ew_of (pcₚ := 320) (fun _ => x_aload_n rfl l35_0) ?_
            refine Ew_of (pcₚ := 322) (fun _ => x_bipush (z := 6) rfl (by decide)) ?_
            refine Ew_of (pcₚ := 323) (fun _ => x_iload_n rfl l35_2) ?_
            refine v_inv H (o := 0) rfl rfl rfl rfl rfl rfl (by rfl) (C203 (D := puc 0 D_35) (N := puc 0 N_35) (HW_subc H oz_D4cls_13 oz_D4cls_10) (y7_0_8) (((hS_35 0 8 rfl).trans ((eF7 0 8).trans ey7_0_8))) (show inr (6) from q_756) (show inr (a2) from h1) (fun z26 σ26 F26ₚ A26ₚ Hₚ Oₚ hS26 hA26 y26_0_8 ey26_0_8 pz26_0 pz26_1 pz26_2 => ⟨rfl, ?_⟩))
            refine v_backc (c := c_35) (s := s_35) H oz_D4cls_13 oz_D4cls_10 Hₚ Oₚ (fun F26 A26 H Oₚ eF26 eA26 => ?_)
            have O := OUT_trans O Oₚ
            -- Tags.fail
            have cF26 : SF oz_D4clsl_5 F F26 := SF_trans (cF_35) (SF_gluc (ι := oz_D4clsl_4) oz_D4cls_10 hS26 eF26 (by decide +kernel)) (any_sub (lₚ := [(0, 8)]) (by decide +kernel))
            have mF26 := SFm_of cF26 oz_D4cls_21
            have cA26 : SA oz_D4clsl_6 A A26 := SA_trans (cA_35) (SA_gluc (ι := oz_D4clsl_4) oz_D4cls_10 hA26 eA26 (by decide +kernel)) (any_subA (lₚ := []) (by decide +kernel))
            have mA26 := SAm_of cA26 oz_D4cls_22
            have r27 : (-2147483648 : Int) ≤ y26_0_8 ∧ y26_0_8 ≤ 2147483647 := rngE (show (-2147483648 : Int) ≤ F26 0 8 ∧ F26 0 8 ≤ 2147483647 from H.krg 0 8 (ltn len_V206_oz_D4cls rfl)) (show F26 0 8 = y26_0_8 from ((eF26 0 8).trans ey26_0_8))
            refine Ew_of (pcₚ := 335) (fun _ => x_goto rfl rfl) ?_
            have : IMP ((z26) ≠ 0) (TYB (ub8 ((w1))) ((a2)) ((a1)) ((a3)) ((z26), (y26_0_8), [])) := fun z => by first | exact ⟨0, 0, _, _, hLQ, .inr ⟨rfl, ITO_e j35_o (TYe_6 (by omega) (by omega) (by omega) (by omega))⟩⟩ | exact absurd (by omega) z
            have : IMP ((z26) = 0) (TYB (ub8 ((w1))) ((a2)) ((a1)) ((a3)) (0, (a2), sc ((w35_3)) ((u2_1)) ((y35_2_1)))) := fun z => by first | exact absurd z (by omega) | (have h := ITO_e j35_o (TYe_0 (by omega) (by omega) rfl rfl); rw [hCX] at h; exact ⟨0, 0, _, _, hLQ, .inr ⟨rfl, h⟩⟩)
            exact w_ireturn rfl (k (z26) _ _ _ _ _ _ _ H O (cD_35) (cN_35) (cF26) (cA26) ((((show F26 2 0 = F_35 2 0 from (eF26 2 0)))).trans (pm35_3)) (m35_3) (em35_3) (y26_0_8) (((eF26 0 8).trans ey26_0_8)) (y35_2_1) ((((show F26 2 1 = F_35 2 1 from (eF26 2 1))).trans (ey35_2_1))) (y35_2_2) ((((show F26 2 2 = F_35 2 2 from (eF26 2 2))).trans (ey35_2_2))) (w35_3) (((show A26 3 = A_35 3 from (eA26 3))).trans (ew35_3)) (show inr (z26) from pz26_0) (show 0 ≤ (z26) ∧ (z26) ≤ 6 from q_3230 pz26_1) (show 0 ≤ (y35_2_1) ∧ (y35_2_1) ≤ (m35_3) ∧ (m35_3) ≤ 65536 from j35_5) (show (u2_1) ≤ (y35_2_1) from q_3227 j35_6) (show (y35_2_1) ≤ (u2_1) + a3 ∨ (y35_2_1) = (u2_1) from q_3226 b10 j35_7 pz7_2) (show (y35_2_2) = 0 from j35_8) (show IMP ((z26) ≠ 0) (TYB (ub8 ((w1))) (a2) (a1) (a3) ((z26), (y26_0_8), [])) by assumption) (show IMP ((z26) = 0) (TYB (ub8 ((w1))) (a2) (a1) (a3) (0, a2, sc ((w35_3)) ((u2_1)) ((y35_2_1)))) by assumption) (j35_s) (show (z26) ≠ 0 ∨ (y26_0_8) = a2 from q_3229 pz26_1))
        · refine Ew_of (pcₚ := 48) (fun _ => x_aload_n rfl l35_0) ?_
          refine v_g H (o := 0) (v := .ref (D_35 1)) rfl rfl rfl rfl rfl (vrf ((mF_35 0 3 rfl).trans ((pf1).trans (congrArg (fun q : Nat => (q : Int)) (mD_35 1 rfl).symm)))) ?_
          refine Ew_of (pcₚ := 53) (fun _ => x_iload rfl l35_6) ?_
          refine v_lB H (o := 1) rfl rfl rfl rfl (n := n1) ((congrArg (fun q : Nat => (q : Int)) (mN_35 1 rfl)).trans (en1)) (show 0 ≤ x35_6 ∧ x35_6 < n1 from q_3102 b21 h3 j35_4) (fun v28 ev28 qv28 => ?_)
          have ev28 : (w1) (x35_6) = v28 := (congrFun ((funext (mA_35 1 rfl)).trans (ew1)) (x35_6)).symm.trans ev28
          have hvb := ev28
          refine Ew_of (pcₚ := 57) (fun _ => x_sipush (z := 255) rfl (by decide)) ?_
          refine v_and255 rfl ?_
          have htg : (ub8 ((w1))) (qp) = ((v28 % 256)) := by rw [hqp]; exact ub_eq hvb rfl
          refine Ew_of (pcₚ := 60) (fun _ => x_istore rfl) ?_
          obtain ⟨q8, hq8⟩ : ∃ q : Int, q = ((v28 % 256)) := ⟨_, rfl⟩
          refine Ew_of (pcₚ := 62) (fun _ => x_iload rfl rk_s) ?_
          refine w_stat24 rfl rfl (by rfl) (C208 (D := puc 0 D_35) (N := puc 0 N_35) (HW_subc H oz_D4cls_14 oz_D4cls_24) (show inr ((v28 % 256)) from q_461) (show 0 ≤ ((v28 % 256)) ∧ ((v28 % 256)) ≤ 255 from q_460) (fun z29 σ29 F29ₚ A29ₚ Hₚ Oₚ hS29 hA29 pz29_0 pz29_1 pz29_2 => ⟨rfl, ?_⟩))
          refine v_backc (c := c_35) (s := s_35) H oz_D4cls_14 oz_D4cls_24 Hₚ Oₚ (fun F29 A29 H Oₚ eF29 eA29 => ?_)
          have O := OUT_trans O Oₚ
          -- Tags.bytesBehind
          have cF29 : SF oz_D4clsl_5 F F29 := SF_trans (cF_35) (SF_gluc (ι := oz_D4clsl_3) oz_D4cls_24 hS29 eF29 (by decide +kernel)) (any_sub (lₚ := []) (by decide +kernel))
          have mF29 := SFm_of cF29 oz_D4cls_21
          have cA29 : SA oz_D4clsl_6 A A29 := SA_trans (cA_35) (SA_gluc (ι := oz_D4clsl_3) oz_D4cls_24 hA29 eA29 (by decide +kernel)) (any_subA (lₚ := []) (by decide +kernel))
          have mA29 := SAm_of cA29 oz_D4cls_22
          have hbh := pz29_2
          refine Ew_of (pcₚ := 67) (fun _ => x_istore rfl) ?_
          refine Ew_of (pcₚ := 68) (fun _ => x_iload_n rfl (rk_o (rk_o (l35_2) rfl rfl) rfl rfl)) ?_
          refine Ew_of (pcₚ := 70) (fun _ => x_iload rfl (rk_o (rk_o (l35_6) rfl rfl) rfl rfl)) ?_
          refine w_isub rfl ?_
          refine Ew_of (pcₚ := 72) (fun _ => x_iconst rfl) ?_
          refine w_isub rfl ?_
          refine Ew_of (pcₚ := 75) (fun _ => x_iload rfl rk_s) ?_
          refine w_icmpge (t := 85) rfl rfl (show inr (((a2 - x35_6) - 1)) from q_3232 b21 h3 j35_4) (show inr (z29) from pz29_0) (fun b30 => ?_) (fun b30 => ?_)
          · refine Ew_of (pcₚ := 86) (fun _ => x_aload_n rfl (rk_o (rk_o (l35_0) rfl rfl) rfl rfl)) ?_
            refine v_g H (o := 0) (v := .ref (D_35 1)) rfl rfl rfl rfl rfl (vrf ((mF29 0 3 rfl).trans ((pf1).trans (congrArg (fun q : Nat => (q : Int)) (mD_35 1 rfl).symm)))) ?_
            refine Ew_of (pcₚ := 91) (fun _ => x_iload rfl (rk_o (rk_o (l35_6) rfl rfl) rfl rfl)) ?_
            refine Ew_of (pcₚ := 92) (fun _ => x_iconst rfl) ?_
            refine w_iadd rfl ?_
            refine Ew_of (pcₚ := 95) (fun _ => x_iload rfl rk_s) ?_
            refine w_stat25 rfl rfl (by rfl) (C42_Br (D := puc 1 D_35) (N := puc 1 N_35) (HW_subc H oz_D4cls_15 oz_D4cls_25) (n1) ((congrArg (fun q : Nat => (q : Int)) (mN_35 1 rfl)).trans (en1)) (w1) ((funext (mA29 1 rfl)).trans (ew1)) (show inr ((x35_6 + 1)) from q_3105 b21 h3 j35_4) (show inr (z29) from pz29_0) (show (z29) ≤ 0 ∨ 0 ≤ ((x35_6 + 1)) ∧ ((x35_6 + 1)) + (z29) ≤ (n1) from q_3234 b30 h3 j35_4) (show 0 ≤ (z29) ∧ (z29) ≤ 8 from q_3233 pz29_1) (fun z31 σ31 F31ₚ A31ₚ Hₚ Oₚ hS31 hA31 pz31_0 pz31_1 pz31_2 => ⟨rfl, ?_⟩))
            refine v_backc (c := c_35) (s := s_35) H oz_D4cls_15 oz_D4cls_25 Hₚ Oₚ (fun F31 A31 H Oₚ eF31 eA31 => ?_)
            have O := OUT_trans O Oₚ
            -- PackHouse.number
            have cF31 : SF oz_D4clsl_5 F F31 := SF_trans (cF29) (SF_gluc (ι := oz_D4clsl_8) oz_D4cls_25 hS31 eF31 (by decide +kernel)) (any_sub (lₚ := []) (by decide +kernel))
            have mF31 := SFm_of cF31 oz_D4cls_21
            have cA31 : SA oz_D4clsl_6 A A31 := SA_trans (cA29) (SA_gluc (ι := oz_D4clsl_8) oz_D4cls_25 hA31 eA31 (by decide +kernel)) (any_subA (lₚ := []) (by decide +kernel))
            have mA31 := SAm_of cA31 oz_D4cls_22
            have hnb : 0 ≤ (z31) ∧ (z31) ≤ 4294967295 := nb4 (NBY_up pz31_1 (by omega) (by omega))
            have htd : (z31) = nvl (ub8 ((w1))) (qp + 1) ((z29) : Int).toNat := by rw [nvl_ub, hqp]; exact nmb_nn pz31_2 (by omega) pz31_0
            refine Ew_of (pcₚ := 100) (fun _ => x_lstore rfl) ?_
            refine Ew_of (pcₚ := 102) (fun _ => x_iload rfl (rk2_o (rk_o (rk_s) rfl rfl) rfl rfl)) ?_
            refine Ew_of (pcₚ := 104) (fun _ => x_lload rfl rk2_s) ?_
            refine w_stat24 rfl rfl (by rfl) (C209 (D := puc 0 D_35) (N := puc 0 N_35) (HW_subc H oz_D4cls_16 oz_D4cls_24) (show inr ((v28 % 256)) from q_461) (show inrJ (z31) from pz31_0) (show 0 ≤ ((v28 % 256)) ∧ ((v28 % 256)) ≤ 255 from q_460) (show 0 ≤ (z31) ∧ (z31) ≤ 4294967295 from hnb) (fun z32 σ32 F32ₚ A32ₚ Hₚ Oₚ hS32 hA32 pz32_0 pz32_1 pz32_2 => ⟨rfl, ?_⟩))
            refine v_backc (c := c_35) (s := s_35) H oz_D4cls_16 oz_D4cls_24 Hₚ Oₚ (fun F32 A32 H Oₚ eF32 eA32 => ?_)
            have O := OUT_trans O Oₚ
            -- Tags.lengthOf
            have cF32 : SF oz_D4clsl_5 F F32 := SF_trans (cF31) (SF_gluc (ι := oz_D4clsl_3) oz_D4cls_24 hS32 eF32 (by decide +kernel)) (any_sub (lₚ := []) (by decide +kernel))
            have mF32 := SFm_of cF32 oz_D4cls_21
            have cA32 : SA oz_D4clsl_6 A A32 := SA_trans (cA31) (SA_gluc (ι := oz_D4clsl_3) oz_D4cls_24 hA32 eA32 (by decide +kernel)) (any_subA (lₚ := []) (by decide +kernel))
            have mA32 := SAm_of cA32 oz_D4cls_22
            have hnl := pz32_2
            obtain ⟨q10, hq10⟩ : ∃ q : Int, q = (z31) := ⟨_, rfl⟩
            refine Ew_of (pcₚ := 109) (fun _ => x_lstore rfl) ?_
            have hc121 : ∀ (tc121_0 : Int), ∀ (ls : rO) (σ : rS) (F_c121 : hF) (A_c121 : hA) , rlook ls 0 = some (.ref (D_35 0)) → rlook ls 2 = some (I (a2)) → rlook ls 5 = some (I (u2_1)) → rlook ls 6 = some (I (x35_6)) → rlook ls 7 = some (I (x35_7)) → rlook ls 8 = some (I ((v28 % 256))) → rlook ls 9 = some (I (z29)) → rlook ls 10 = some (J (z31)) → rlook ls 12 = some (J (z32)) → HW V206 σ D_35 N_35 F_c121 A_c121 → OUT (V206).length D N σE c s D_35 N_35 σ c_35 s_35 → SF [] F32 F_c121 → SA [] A32 A_c121 → (inr (tc121_0)) → ((tc121_0) = 1 ∧ ((v28 % 256)) % 4 ≠ 0 ∨ (tc121_0) = 0 ∧ ((v28 % 256)) % 4 = 0) → Ew 206 (d + 3) 121 ls [I (tc121_0)] σ c_35 s_35 Q := by
             as_aux_lemma =>
              intro tc121_0 ls σ F_c121 A_c121  lc121_0 lc121_2 lc121_5 lc121_6 lc121_7 lc121_8 lc121_9 lc121_10 lc121_12 H O hS_c121 hA_c121     jc121_0 jc121_1
              have cF_c121 : SF oz_D4clsl_5 F F_c121 := SF_trans (cF32) hS_c121 (any_sub (by decide +kernel))
              have mF_c121 := SFm_of cF_c121 oz_D4cls_21
              have cA_c121 : SA oz_D4clsl_6 A A_c121 := SA_trans (cA32) hA_c121 (any_subA (by decide +kernel))
              have mA_c121 := SAm_of cA_c121 oz_D4cls_22
              refine Ew_of (pcₚ := 123) (fun _ => x_istore rfl) ?_
              have hc147 : ∀ (tc147_0 : Int), ∀ (ls : rO) (σ : rS) (F_c147 : hF) (A_c147 : hA) , rlook ls 0 = some (.ref (D_35 0)) → rlook ls 2 = some (I (a2)) → rlook ls 5 = some (I (u2_1)) → rlook ls 6 = some (I (x35_6)) → rlook ls 7 = some (I (x35_7)) → rlook ls 9 = some (I (z29)) → rlook ls 12 = some (J (z32)) → rlook ls 14 = some (I (tc121_0)) → HW V206 σ D_35 N_35 F_c147 A_c147 → OUT (V206).length D N σE c s D_35 N_35 σ c_35 s_35 → SF [] F_c121 F_c147 → SA [] A_c121 A_c147 → (inrJ (tc147_0)) → (0 ≤ (tc147_0) ∧ (tc147_0) ≤ 4294969343) → ((tc147_0) = TEd (q8) (q10)) → Ew 206 (d + 3) 147 ls [J (tc147_0)] σ c_35 s_35 Q := by
               as_aux_lemma =>
                intro tc147_0 ls σ F_c147 A_c147  lc147_0 lc147_2 lc147_5 lc147_6 lc147_7 lc147_9 lc147_12 lc147_14 H O hS_c147 hA_c147     jc147_0 jc147_1 jc147_2
                have cF_c147 : SF oz_D4clsl_5 F F_c147 := SF_trans (cF_c121) hS_c147 (any_sub (by decide +kernel))
                have mF_c147 := SFm_of cF_c147 oz_D4cls_21
                have cA_c147 : SA oz_D4clsl_6 A A_c147 := SA_trans (cA_c121) hA_c147 (any_subA (by decide +kernel))
                have mA_c147 := SAm_of cA_c147 oz_D4cls_22
                have hdd : (tc147_0) = TEd (q8) (q10) := jc147_2
                refine Ew_of (pcₚ := 149) (fun _ => x_lstore rfl) ?_
                have hTY : TYt (ub8 ((w1))) (qp) (q8) ((z29)) (q10) ((z32)) ((tc147_0)) := by rw [hq10] at hdd ⊢; rw [hq8] at hdd ⊢; exact ⟨htg, hbh.symm, htd.symm, hnl.symm, hdd.symm⟩
                refine Ew_of (pcₚ := 151) (fun _ => x_iload rfl (rk2_o (lc147_14) rfl rfl)) ?_
                refine w_ifeq (t := 186) rfl rfl (show inr (tc121_0) from jc121_0) (fun b33 => ?_) (fun b33 => ?_)
                · refine Ew_of (pcₚ := 188) (fun _ => x_lload rfl (rk2_o (lc147_12) rfl rfl)) ?_
                  refine Ew_of (pcₚ := 189) (fun _ => x_aload_n rfl (rk2_o (lc147_0) rfl rfl)) ?_
                  refine v_g H (o := 0) (v := J (y7_0_7)) rfl rfl rfl rfl rfl (congrArg (fun z : Int => J z) ((((((((hS_c147 0 7 rfl).trans (hS_c121 0 7 rfl)).trans ((show F32 0 7 = F31 0 7 from (eF32 0 7)))).trans ((show F31 0 7 = F29 0 7 from (eF31 0 7)))).trans ((show F29 0 7 = F_35 0 7 from (eF29 0 7)))).trans (hS_35 0 7 rfl)).trans ((eF7 0 7).trans ey7_0_7)) : F_c147 0 7 = y7_0_7)) ?_
                  refine Ew_of (pcₚ := 193) (fun _ => x_aload_n rfl (rk2_o (lc147_0) rfl rfl)) ?_
                  refine v_g H (o := 0) (v := .ref (D_35 2)) rfl rfl rfl rfl rfl (vrf ((mF_c147 0 5 rfl).trans ((pf2).trans (congrArg (fun q : Nat => (q : Int)) (mD_35 2 rfl).symm)))) ?_
                  refine v_g H (o := 2) (v := I (y35_2_1)) rfl rfl rfl rfl rfl (congrArg (fun z : Int => I z) (((((((hS_c147 2 1 rfl).trans (hS_c121 2 1 rfl)).trans ((show F32 2 1 = F31 2 1 from (eF32 2 1)))).trans ((show F31 2 1 = F29 2 1 from (eF31 2 1)))).trans ((show F29 2 1 = F_35 2 1 from (eF29 2 1)))).trans (ey35_2_1)) : F_c147 2 1 = y35_2_1)) ?_
                  refine Ew_of (pcₚ := 201) (fun _ => x_iload rfl (rk2_o (lc147_5) rfl rfl)) ?_
                  refine w_isub rfl ?_
                  refine w_i2l rfl (show inr ((y35_2_1 - u2_1)) from q_3223 h4 j35_5 j35_6) ?_
                  refine w_lsub rfl ?_
                  refine w_lcmp rfl (show inrJ (z32) from pz32_0) (show inrJ ((y7_0_7 - (y35_2_1 - u2_1))) by omega) (fun z34 gz34 gaz34 gbz34 => ?_)
                  refine w_ifle (t := 216) rfl rfl (show inr (z34) from gz34) (fun b35 => ?_) (fun b35 => ?_)
                  · refine Ew_of (pcₚ := 218) (fun _ => x_iload rfl (rk2_o (lc147_6) rfl rfl)) ?_
                    refine Ew_of (pcₚ := 219) (fun _ => x_iconst rfl) ?_
                    refine Ew_of (pcₚ := 221) (fun _ => x_iload rfl (rk2_o (lc147_9) rfl rfl)) ?_
                    refine w_iadd rfl ?_
                    refine w_iadd rfl ?_
                    refine Ew_of (pcₚ := 225) (fun _ => x_istore rfl) ?_
                    have hc294 : ∀ (ls : rO) (σ : rS) (D_c294 N_c294 : Nat → Nat) (c_c294 s_c294 : Nat) (F_c294 : hF) (A_c294 : hA) (xc294_6 : Int), rlook ls 0 = some (.ref (D_c294 0)) → rlook ls 2 = some (I (a2)) → rlook ls 5 = some (I (u2_1)) → rlook ls 6 = some (I (xc294_6)) → rlook ls 7 = some (I (x35_7)) → HW V206 σ D_c294 N_c294 F_c294 A_c294 → OUT (V206).length D N σE c s D_c294 N_c294 σ c_c294 s_c294 → SD [3] D_35 D_c294 → SD [3] N_35 N_c294 → SF [(2, 0), (2, 1), (2, 2)] F_c147 F_c294 → SA [3] A_c147 A_c294 → F_c294 2 0 = (D_c294 3 : Int) → ∀ mc294_3 : Int, (N_c294 3 : Int) = mc294_3 → ∀ yc294_2_1 : Int, F_c294 2 1 = yc294_2_1 → ∀ yc294_2_2 : Int, F_c294 2 2 = yc294_2_2 → ∀ wc294_3 : Int → Int, A_c294 3 = wc294_3 → (inr (xc294_6)) → (0 ≤ (xc294_6) ∧ (xc294_6) ≤ (a2)) → (0 ≤ (yc294_2_1) ∧ (yc294_2_1) ≤ (mc294_3) ∧ (mc294_3) ≤ 65536) → ((u2_1) ≤ (yc294_2_1) ∧ (u2_1) = (u2_1)) → ((yc294_2_1) - (u2_1) ≤ (y7_0_7)) → ((yc294_2_2) = 0) → ((x35_7) + 1 ≤ (xc294_6)) → (TYO (ub8 ((w1))) ((a2)) ((y7_0_7)) (q0) ((xc294_6)) (sc ((wc294_3)) ((u2_1)) ((yc294_2_1)))) → (∀ i, (0 : Int) ≤ i → i < (u2_1) → ((wc294_3)) i = ((w3)) i) → Ew 206 (d + 3) 294 ls [] σ c_c294 s_c294 Q := by
                     as_aux_lemma =>
                      intro  ls σ D_c294 N_c294 c_c294 s_c294 F_c294 A_c294 xc294_6 lc294_0 lc294_2 lc294_5 lc294_6 lc294_7 H O hD_c294 hN_c294 hS_c294 hA_c294 pmc294_3 mc294_3 emc294_3 yc294_2_1 eyc294_2_1 yc294_2_2 eyc294_2_2 wc294_3 ewc294_3 jc294_0 jc294_1 jc294_2 jc294_3 jc294_4 jc294_5 jc294_6 jc294_7 jc294_8
                      have cF_c294 : SF oz_D4clsl_5 F F_c294 := SF_trans (cF_c147) hS_c294 (any_sub (by decide +kernel))
                      have mF_c294 := SFm_of cF_c294 oz_D4cls_21
                      have cA_c294 : SA oz_D4clsl_6 A A_c294 := SA_trans (cA_c147) hA_c294 (any_subA (by decide +kernel))
                      have mA_c294 := SAm_of cA_c294 oz_D4cls_22
                      have cD_c294 : SD oz_D4clsl_6 D D_c294 := SD_trans (cD_35) hD_c294 (any_subA (by decide +kernel))
                      have mD_c294 := SDm_of cD_c294 oz_D4cls_22
                      have cN_c294 : SD oz_D4clsl_6 N N_c294 := SD_trans (cN_35) hN_c294 (any_subA (by decide +kernel))
                      have mN_c294 := SDm_of cN_c294 oz_D4cls_22
                      have r36 : (0 : Int) ≤ mc294_3 ∧ mc294_3 ≤ 1000000 := nleE (H.nle 3 (ltn len_V206_oz_D4cls rfl)) (show (N_c294 3 : Int) = mc294_3 from emc294_3)
                      have r37 : (-2147483648 : Int) ≤ yc294_2_1 ∧ yc294_2_1 ≤ 2147483647 := rngE (show (-2147483648 : Int) ≤ F_c294 2 1 ∧ F_c294 2 1 ≤ 2147483647 from H.krg 2 1 (ltn len_V206_oz_D4cls rfl)) (show F_c294 2 1 = yc294_2_1 from (eyc294_2_1))
                      have r38 : (0 : Int) ≤ yc294_2_2 ∧ yc294_2_2 ≤ 1 := rngE (show (0 : Int) ≤ F_c294 2 2 ∧ F_c294 2 2 ≤ 1 from H.krg 2 2 (ltn len_V206_oz_D4cls rfl)) (show F_c294 2 2 = yc294_2_2 from (eyc294_2_2))
                      refine Ew_of (pcₚ := 297) (fun _ => x_iinc (len := 3) rfl (lc294_7)) ?_
                      refine Ew_of (pcₚ := 35) (fun _ => x_goto rfl rfl) ?_
                      exact ih35 _ (msE hm35 q_16 (q_17 b14)) _ _ _ _ _ _ _ _ (xc294_6) ((x35_7 + 1)) (rk_o (lc294_0) rfl rfl) (rk_o (lc294_2) rfl rfl) (rk_o (lc294_5) rfl rfl) (rk_o (lc294_6) rfl rfl) (rk_s) H O (SD_trans (hD_35) hD_c294 (any_subA (by decide +kernel))) (SD_trans (hN_35) hN_c294 (any_subA (by decide +kernel))) (SF_trans (SF_trans (SF_trans (SF_trans (SF_trans (SF_trans (hS_35) (SF_gluc (ι := oz_D4clsl_3) oz_D4cls_24 hS29 eF29 (by decide +kernel)) (any_sub (lₚ := []) (by decide +kernel))) (SF_gluc (ι := oz_D4clsl_8) oz_D4cls_25 hS31 eF31 (by decide +kernel)) (any_sub (lₚ := []) (by decide +kernel))) (SF_gluc (ι := oz_D4clsl_3) oz_D4cls_24 hS32 eF32 (by decide +kernel)) (any_sub (lₚ := []) (by decide +kernel))) hS_c121 (any_sub (by decide +kernel))) hS_c147 (any_sub (by decide +kernel))) hS_c294 (any_sub (by decide +kernel))) (SA_trans (SA_trans (SA_trans (SA_trans (SA_trans (SA_trans (hA_35) (SA_gluc (ι := oz_D4clsl_3) oz_D4cls_24 hA29 eA29 (by decide +kernel)) (any_subA (lₚ := []) (by decide +kernel))) (SA_gluc (ι := oz_D4clsl_8) oz_D4cls_25 hA31 eA31 (by decide +kernel)) (any_subA (lₚ := []) (by decide +kernel))) (SA_gluc (ι := oz_D4clsl_3) oz_D4cls_24 hA32 eA32 (by decide +kernel)) (any_subA (lₚ := []) (by decide +kernel))) hA_c121 (any_subA (by decide +kernel))) hA_c147 (any_subA (by decide +kernel))) hA_c294 (any_subA (by decide +kernel))) (pmc294_3) (mc294_3) (emc294_3) (yc294_2_1) ((eyc294_2_1)) (yc294_2_2) ((eyc294_2_2)) (wc294_3) (ewc294_3) (show inr (xc294_6) from jc294_0) (show inr ((x35_7 + 1)) from q_3094 b14 h3 j35_1) (show (a1) ≤ ((x35_7 + 1)) from q_161 j35_2) (show ((x35_7 + 1)) ≤ (a1) ∨ ((x35_7 + 1)) ≤ ((a2)) from q_160 b14) (show 0 ≤ (xc294_6) ∧ (xc294_6) ≤ (a2) from jc294_1) (show 0 ≤ (yc294_2_1) ∧ (yc294_2_1) ≤ (mc294_3) ∧ (mc294_3) ≤ 65536 from jc294_2) (show (u2_1) ≤ (yc294_2_1) ∧ (u2_1) = (u2_1) from jc294_3) (show (yc294_2_1) - (u2_1) ≤ (y7_0_7) from jc294_4) (show (yc294_2_2) = 0 from jc294_5) (show ((x35_7 + 1)) ≤ (xc294_6) from jc294_6) (jc294_7) (jc294_8) rfl
                    refine Ew_of (pcₚ := 227) (fun _ => x_iload rfl (rk_o (rk2_o (lc147_14) rfl rfl) rfl rfl)) ?_
                    refine w_ifeq (t := 252) rfl rfl (show inr (tc121_0) from jc121_0) (fun b39 => ?_) (fun b39 => ?_)
                    · refine Ew_of (pcₚ := 254) (fun _ => x_lload rfl (rk_o (rk2_o (lc147_12) rfl rfl) rfl rfl)) ?_
                      refine Ew_of (pcₚ := 255) (fun _ => x_iload_n rfl (rk_o (rk2_o (lc147_2) rfl rfl) rfl rfl)) ?_
                      refine Ew_of (pcₚ := 257) (fun _ => x_iload rfl rk_s) ?_
                      refine w_isub rfl ?_
                      refine w_i2l rfl (show inr ((a2 - (x35_6 + (1 + z29)))) from q_3235 b30 h3 j35_4 pz29_1) ?_
                      refine w_lcmp rfl (show inrJ (z32) from pz32_0) (show inrJ ((a2 - (x35_6 + (1 + z29)))) from q_3236 b30 h3 j35_4 pz29_1) (fun z40 gz40 gaz40 gbz40 => ?_)
                      refine w_ifle (t := 270) rfl rfl (show inr (z40) from gz40) (fun b41 => ?_) (fun b41 => ?_)
                      · refine Ew_of (pcₚ := 271) (fun _ => x_aload_n rfl (rk_o (rk2_o (lc147_0) rfl rfl) rfl rfl)) ?_
                        refine v_g H (o := 0) (v := .ref (D_35 2)) rfl rfl rfl rfl rfl (vrf ((mF_c147 0 5 rfl).trans ((pf2).trans (congrArg (fun q : Nat => (q : Int)) (mD_35 2 rfl).symm)))) ?_
                        refine Ew_of (pcₚ := 275) (fun _ => x_aload_n rfl (rk_o (rk2_o (lc147_0) rfl rfl) rfl rfl)) ?_
                        refine v_g H (o := 0) (v := .ref (D_35 1)) rfl rfl rfl rfl rfl (vrf ((mF_c147 0 3 rfl).trans ((pf1).trans (congrArg (fun q : Nat => (q : Int)) (mD_35 1 rfl).symm)))) ?_
                        refine Ew_of (pcₚ := 280) (fun _ => x_iload rfl rk_s) ?_
                        refine Ew_of (pcₚ := 282) (fun _ => x_lload rfl (rk_o (rk2_o (lc147_12) rfl rfl) rfl rfl)) ?_
                        refine w_l2i rfl ?_
                        refine v_inv H (o := 2) rfl rfl rfl rfl rfl rfl (by rfl) (C161_Br (D := puc 786946 D_35) (N := puc 786946 N_35) (HW_subc H oz_D4cls_17 oz_D4cls_26) (((((((hS_c147 2 0 rfl).trans (hS_c121 2 0 rfl)).trans ((show F32 2 0 = F31 2 0 from (eF32 2 0)))).trans ((show F31 2 0 = F29 2 0 from (eF31 2 0)))).trans ((show F29 2 0 = F_35 2 0 from (eF29 2 0))))).trans (pm35_3)) (n1) ((congrArg (fun q : Nat => (q : Int)) (mN_35 1 rfl)).trans (en1)) (m35_3) (em35_3) (y35_2_1) (((((((hS_c147 2 1 rfl).trans (hS_c121 2 1 rfl)).trans ((show F32 2 1 = F31 2 1 from (eF32 2 1)))).trans ((show F31 2 1 = F29 2 1 from (eF31 2 1)))).trans ((show F29 2 1 = F_35 2 1 from (eF29 2 1)))).trans (ey35_2_1))) (y35_2_2) (((((((hS_c147 2 2 rfl).trans (hS_c121 2 2 rfl)).trans ((show F32 2 2 = F31 2 2 from (eF32 2 2)))).trans ((show F31 2 2 = F29 2 2 from (eF31 2 2)))).trans ((show F29 2 2 = F_35 2 2 from (eF29 2 2)))).trans (ey35_2_2))) (w1) ((funext (mA_c147 1 rfl)).trans (ew1)) (w35_3) ((funext (hA_c147 3 rfl)).trans ((funext (hA_c121 3 rfl)).trans (((show A32 3 = A31 3 from (eA32 3))).trans (((show A31 3 = A29 3 from (eA31 3))).trans (((show A29 3 = A_35 3 from (eA29 3))).trans (ew35_3)))))) (show inr ((x35_6 + (1 + z29))) from q_3237 b30 h3 j35_4 pz29_1) (show inr (z32) by omega) (show 0 ≤ (y35_2_1) ∧ (y35_2_1) ≤ (m35_3) ∧ (m35_3) ≤ 65536 from j35_5) (show (z32) < 0 ∨ 0 ≤ ((x35_6 + (1 + z29))) ∧ ((x35_6 + (1 + z29))) + (z32) ≤ (n1) by omega) (fun σ42 D42ₚ N42ₚ F42ₚ A42ₚ c42 s42 Hₚ Oₚ hD42 hN42 hS42 hA42 pm42_2 m42_2 em42_2 y42_0_1 ey42_0_1 y42_0_2 ey42_0_2 w42_2 ew42_2 pz42_0 pz42_1 pz42_2 pz42_3 => ⟨rfl, ?_⟩))
                        refine v_backMc (c := c_35) (s := s_35) H oz_D4cls_17 oz_D4cls_26 Hₚ Oₚ hD42 oz_D4cls_18 (fun D42 N42 F42 A42 H Oₚ eD42 eN42 eF42 eA42 => ?_)
                        have O := OUT_trans O Oₚ
                        -- Row.addPart
                        have cF42 : SF oz_D4clsl_5 F F42 := SF_trans (cF_c147) (SF_gluc (ι := oz_D4clsl_9) oz_D4cls_26 hS42 eF42 (by decide +kernel)) (any_sub (lₚ := [(2, 0), (2, 1), (2, 2)]) (by decide +kernel))
                        have mF42 := SFm_of cF42 oz_D4cls_21
                        have cA42 : SA oz_D4clsl_6 A A42 := SA_trans (cA_c147) (SA_gluc (ι := oz_D4clsl_9) oz_D4cls_26 hA42 eA42 (by decide +kernel)) (any_subA (lₚ := [3]) (by decide +kernel))
                        have mA42 := SAm_of cA42 oz_D4cls_22
                        have cD42 : SD oz_D4clsl_6 D D42 := SD_trans (cD_35) (SD_gluc (ι := oz_D4clsl_9) oz_D4cls_26 hD42 eD42 (by decide +kernel)) (any_subA (lₚ := [3]) (by decide +kernel))
                        have mD42 := SDm_of cD42 oz_D4cls_22
                        have cN42 : SD oz_D4clsl_6 N N42 := SD_trans (cN_35) (SD_gluc (ι := oz_D4clsl_9) oz_D4cls_26 hN42 eN42 (by decide +kernel)) (any_subA (lₚ := [3]) (by decide +kernel))
                        have mN42 := SDm_of cN42 oz_D4cls_22
                        have pf42_2_0 : F42 2 0 = (D42 3 : Int) := (eF42 2 0).trans (pm42_2.trans (congrArg (fun q : Nat => (q : Int)) (eD42 3).symm))
                        have r43 : (0 : Int) ≤ m42_2 ∧ m42_2 ≤ 1000000 := nleE (H.nle 3 (ltn len_V206_oz_D4cls rfl)) (show (N42 3 : Int) = m42_2 from (congrArg (fun q : Nat => (q : Int)) (eN42 3)).trans em42_2)
                        have r44 : (-2147483648 : Int) ≤ y42_0_1 ∧ y42_0_1 ≤ 2147483647 := rngE (show (-2147483648 : Int) ≤ F42 2 1 ∧ F42 2 1 ≤ 2147483647 from H.krg 2 1 (ltn len_V206_oz_D4cls rfl)) (show F42 2 1 = y42_0_1 from ((eF42 2 1).trans ey42_0_1))
                        have r45 : (0 : Int) ≤ y42_0_2 ∧ y42_0_2 ≤ 1 := rngE (show (0 : Int) ≤ F42 2 2 ∧ F42 2 2 ≤ 1 from H.krg 2 2 (ltn len_V206_oz_D4cls rfl)) (show F42 2 2 = y42_0_2 from ((eF42 2 2).trans ey42_0_2))
                        have hap := RAP_from (a := (u2_1)) (pz42_3 (by omega)) (by omega) (by omega) (by rw [sc_lenI (by omega)]; omega) (by omega)
                        have hbu := hap.1
                        have hsm1 : ∀ i, (0 : Int) ≤ i → i < (u2_1) → ((w42_2)) i = ((w3)) i := fun i x y => (pz42_2 i x (by omega)).trans (j35_s i x y)
                        refine Ew_of (pcₚ := 288) (fun _ => x_iload rfl rk_s) ?_
                        refine Ew_of (pcₚ := 290) (fun _ => x_lload rfl (rk_o (rk2_o (lc147_12) rfl rfl) rfl rfl)) ?_
                        refine w_l2i rfl ?_
                        refine w_iadd rfl ?_
                        have : TYO (ub8 ((w1))) ((a2)) ((y7_0_7)) (q0) ((((x35_6 + (1 + z29)) + z32))) (sc ((w42_2)) ((u2_1)) ((y42_0_1))) := ITO_s j35_o (TYs_l (q0 := ((x35_6 + (1 + z29)))) hTY (by omega) (by omega) (by omega) (by omega) (by omega) (by omega) rfl (by rw [hCX, show (u2_1) = (u2_1) by omega, hap.2, sc_ub8]))
                        refine Ew_of (pcₚ := 294) (fun _ => x_istore rfl) ?_
                        exact hc294  _ _ _ _ _ _ _ _ (((x35_6 + (1 + z29)) + z32)) ((rk_o (rk_o (rk2_o (lc147_0) rfl rfl) rfl rfl) rfl rfl).trans (congrArg (fun q : Nat => some (Value.ref q)) (((show D42 0 = D_35 0 from (eD42 0)))).symm)) (rk_o (rk_o (rk2_o (lc147_2) rfl rfl) rfl rfl) rfl rfl) (rk_o (rk_o (rk2_o (lc147_5) rfl rfl) rfl rfl) rfl rfl) (rk_s) (rk_o (rk_o (rk2_o (lc147_7) rfl rfl) rfl rfl) rfl rfl) H O (SD_trans (SD_refl) (SD_gluc (ι := oz_D4clsl_9) oz_D4cls_26 hD42 eD42 (by decide +kernel)) (any_subA (lₚ := [3]) (by decide +kernel))) (SD_trans (SD_refl) (SD_gluc (ι := oz_D4clsl_9) oz_D4cls_26 hN42 eN42 (by decide +kernel)) (any_subA (lₚ := [3]) (by decide +kernel))) (SF_trans (SF_refl) (SF_gluc (ι := oz_D4clsl_9) oz_D4cls_26 hS42 eF42 (by decide +kernel)) (any_sub (lₚ := [(2, 0), (2, 1), (2, 2)]) (by decide +kernel))) (SA_trans (SA_refl) (SA_gluc (ι := oz_D4clsl_9) oz_D4cls_26 hA42 eA42 (by decide +kernel)) (any_subA (lₚ := [3]) (by decide +kernel))) (pf42_2_0) (m42_2) ((congrArg (fun q : Nat => (q : Int)) (eN42 3)).trans em42_2) (y42_0_1) (((eF42 2 1).trans ey42_0_1)) (y42_0_2) (((eF42 2 2).trans ey42_0_2)) (w42_2) ((eA42 3).trans ew42_2) (show inr (((x35_6 + (1 + z29)) + z32)) by omega) (show 0 ≤ (((x35_6 + (1 + z29)) + z32)) ∧ (((x35_6 + (1 + z29)) + z32)) ≤ (a2) by omega) (show 0 ≤ (y42_0_1) ∧ (y42_0_1) ≤ (m42_2) ∧ (m42_2) ≤ 65536 from pz42_0) (show (u2_1) ≤ (y42_0_1) ∧ (u2_1) = (u2_1) from q_3239 j35_6 pz32_1 pz42_1) (show (y42_0_1) - (u2_1) ≤ (y7_0_7) by omega) (show (y42_0_2) = 0 by omega) (show (x35_7) + 1 ≤ (((x35_6 + (1 + z29)) + z32)) from q_3238 j35_9 pz29_1 pz32_1) (show TYO (ub8 ((w1))) ((a2)) ((y7_0_7)) (q0) ((((x35_6 + (1 + z29)) + z32))) (sc ((w42_2)) ((u2_1)) ((y42_0_1))) by assumption) (hsm1)
                      · refine Ew_of (pcₚ := 264) (fun _ => x_aload_n rfl (rk_o (rk2_o (lc147_0) rfl rfl) rfl rfl)) ?_
                        refine Ew_of (pcₚ := 265) (fun _ => x_iconst rfl) ?_
                        refine Ew_of (pcₚ := 266) (fun _ => x_iload_n rfl (rk_o (rk2_o (lc147_2) rfl rfl) rfl rfl)) ?_
                        refine v_inv H (o := 0) rfl rfl rfl rfl rfl rfl (by rfl) (C203 (D := puc 0 D_35) (N := puc 0 N_35) (HW_subc H oz_D4cls_13 oz_D4cls_10) (y7_0_8) ((((((((hS_c147 0 8 rfl).trans (hS_c121 0 8 rfl)).trans ((show F32 0 8 = F31 0 8 from (eF32 0 8)))).trans ((show F31 0 8 = F29 0 8 from (eF31 0 8)))).trans ((show F29 0 8 = F_35 0 8 from (eF29 0 8)))).trans (hS_35 0 8 rfl)).trans ((eF7 0 8).trans ey7_0_8))) (show inr (1) from q_135) (show inr (a2) from h1) (fun z46 σ46 F46ₚ A46ₚ Hₚ Oₚ hS46 hA46 y46_0_8 ey46_0_8 pz46_0 pz46_1 pz46_2 => ⟨rfl, ?_⟩))
                        refine v_backc (c := c_35) (s := s_35) H oz_D4cls_13 oz_D4cls_10 Hₚ Oₚ (fun F46 A46 H Oₚ eF46 eA46 => ?_)
                        have O := OUT_trans O Oₚ
                        -- Tags.fail
                        have cF46 : SF oz_D4clsl_5 F F46 := SF_trans (cF_c147) (SF_gluc (ι := oz_D4clsl_4) oz_D4cls_10 hS46 eF46 (by decide +kernel)) (any_sub (lₚ := [(0, 8)]) (by decide +kernel))
                        have mF46 := SFm_of cF46 oz_D4cls_21
                        have cA46 : SA oz_D4clsl_6 A A46 := SA_trans (cA_c147) (SA_gluc (ι := oz_D4clsl_4) oz_D4cls_10 hA46 eA46 (by decide +kernel)) (any_subA (lₚ := []) (by decide +kernel))
                        have mA46 := SAm_of cA46 oz_D4cls_22
                        have r47 : (-2147483648 : Int) ≤ y46_0_8 ∧ y46_0_8 ≤ 2147483647 := rngE (show (-2147483648 : Int) ≤ F46 0 8 ∧ F46 0 8 ≤ 2147483647 from H.krg 0 8 (ltn len_V206_oz_D4cls rfl)) (show F46 0 8 = y46_0_8 from ((eF46 0 8).trans ey46_0_8))
                        have : IMP ((z46) ≠ 0) (TYB (ub8 ((w1))) ((a2)) ((a1)) ((a3)) ((z46), (y46_0_8), [])) := fun z => ⟨0, 0, _, _, hLQ, .inr ⟨rfl, ITO_e j35_o (TYt_l hTY (by omega) (by omega) (by omega) (by omega) (by omega) (by omega) (by omega))⟩⟩
                        have : IMP ((z46) = 0) (TYB (ub8 ((w1))) ((a2)) ((a1)) ((a3)) (0, (a2), sc ((w35_3)) ((u2_1)) ((y35_2_1)))) := fun z => absurd z (by omega)
                        exact w_ireturn rfl (k (z46) _ _ _ _ _ _ _ H O (cD_35) (cN_35) (cF46) (cA46) (((((((((show F46 2 0 = F_c147 2 0 from (eF46 2 0))).trans (hS_c147 2 0 rfl)).trans (hS_c121 2 0 rfl)).trans ((show F32 2 0 = F31 2 0 from (eF32 2 0)))).trans ((show F31 2 0 = F29 2 0 from (eF31 2 0)))).trans ((show F29 2 0 = F_35 2 0 from (eF29 2 0))))).trans (pm35_3)) (m35_3) (em35_3) (y46_0_8) (((eF46 0 8).trans ey46_0_8)) (y35_2_1) (((((((((show F46 2 1 = F_c147 2 1 from (eF46 2 1))).trans (hS_c147 2 1 rfl)).trans (hS_c121 2 1 rfl)).trans ((show F32 2 1 = F31 2 1 from (eF32 2 1)))).trans ((show F31 2 1 = F29 2 1 from (eF31 2 1)))).trans ((show F29 2 1 = F_35 2 1 from (eF29 2 1)))).trans (ey35_2_1))) (y35_2_2) (((((((((show F46 2 2 = F_c147 2 2 from (eF46 2 2))).trans (hS_c147 2 2 rfl)).trans (hS_c121 2 2 rfl)).trans ((show F32 2 2 = F31 2 2 from (eF32 2 2)))).trans ((show F31 2 2 = F29 2 2 from (eF31 2 2)))).trans ((show F29 2 2 = F_35 2 2 from (eF29 2 2)))).trans (ey35_2_2))) (w35_3) (((show A46 3 = A_c147 3 from (eA46 3))).trans ((funext (hA_c147 3 rfl)).trans ((funext (hA_c121 3 rfl)).trans (((show A32 3 = A31 3 from (eA32 3))).trans (((show A31 3 = A29 3 from (eA31 3))).trans (((show A29 3 = A_35 3 from (eA29 3))).trans (ew35_3))))))) (show inr (z46) from pz46_0) (show 0 ≤ (z46) ∧ (z46) ≤ 6 from q_3240 pz46_1) (show 0 ≤ (y35_2_1) ∧ (y35_2_1) ≤ (m35_3) ∧ (m35_3) ≤ 65536 from j35_5) (show (u2_1) ≤ (y35_2_1) from q_3227 j35_6) (show (y35_2_1) ≤ (u2_1) + a3 ∨ (y35_2_1) = (u2_1) from q_3226 b10 j35_7 pz7_2) (show (y35_2_2) = 0 from j35_8) (show IMP ((z46) ≠ 0) (TYB (ub8 ((w1))) (a2) (a1) (a3) ((z46), (y46_0_8), [])) by assumption) (show IMP ((z46) = 0) (TYB (ub8 ((w1))) (a2) (a1) (a3) (0, a2, sc ((w35_3)) ((u2_1)) ((y35_2_1)))) by assumption) (j35_s) (show (z46) ≠ 0 ∨ (y46_0_8) = a2 from q_3108 pz46_1))
                    · refine Ew_of (pcₚ := 231) (fun _ => x_aload_n rfl (rk_o (rk2_o (lc147_0) rfl rfl) rfl rfl)) ?_
                      refine v_g H (o := 0) (v := .ref (D_35 2)) rfl rfl rfl rfl rfl (vrf ((mF_c147 0 5 rfl).trans ((pf2).trans (congrArg (fun q : Nat => (q : Int)) (mD_35 2 rfl).symm)))) ?_
                      refine Ew_of (pcₚ := 236) (fun _ => x_lload rfl (rk_o (rk2_s) rfl rfl)) ?_
                      refine w_l2i rfl ?_
                      refine Ew_of (pcₚ := 239) (fun _ => x_lload rfl (rk_o (rk2_o (lc147_12) rfl rfl) rfl rfl)) ?_
                      refine w_l2i rfl ?_
                      refine Ew_of (pcₚ := 242) (fun _ => x_iload rfl (rk_o (rk2_o (lc147_5) rfl rfl) rfl rfl)) ?_
                      refine Ew_of (pcₚ := 243) (fun _ => x_aload_n rfl (rk_o (rk2_o (lc147_0) rfl rfl) rfl rfl)) ?_
                      refine v_g H (o := 0) (v := .ref (D_35 2)) rfl rfl rfl rfl rfl (vrf ((mF_c147 0 5 rfl).trans ((pf2).trans (congrArg (fun q : Nat => (q : Int)) (mD_35 2 rfl).symm)))) ?_
                      refine v_inv H (o := 2) rfl rfl rfl rfl rfl rfl (by rfl) (C163_thisa (D := puc 1538 D_35) (N := puc 1538 N_35) (HW_subc H oz_D4cls_19 oz_D4cls_27) (((((((hS_c147 2 0 rfl).trans (hS_c121 2 0 rfl)).trans ((show F32 2 0 = F31 2 0 from (eF32 2 0)))).trans ((show F31 2 0 = F29 2 0 from (eF31 2 0)))).trans ((show F29 2 0 = F_35 2 0 from (eF29 2 0))))).trans (pm35_3)) (m35_3) (em35_3) (y35_2_1) (((((((hS_c147 2 1 rfl).trans (hS_c121 2 1 rfl)).trans ((show F32 2 1 = F31 2 1 from (eF32 2 1)))).trans ((show F31 2 1 = F29 2 1 from (eF31 2 1)))).trans ((show F29 2 1 = F_35 2 1 from (eF29 2 1)))).trans (ey35_2_1))) (y35_2_2) (((((((hS_c147 2 2 rfl).trans (hS_c121 2 2 rfl)).trans ((show F32 2 2 = F31 2 2 from (eF32 2 2)))).trans ((show F31 2 2 = F29 2 2 from (eF31 2 2)))).trans ((show F29 2 2 = F_35 2 2 from (eF29 2 2)))).trans (ey35_2_2))) (w35_3) ((funext (hA_c147 3 rfl)).trans ((funext (hA_c121 3 rfl)).trans (((show A32 3 = A31 3 from (eA32 3))).trans (((show A31 3 = A29 3 from (eA31 3))).trans (((show A29 3 = A_35 3 from (eA29 3))).trans (ew35_3)))))) (show inr (tc147_0) by omega) (show inr (z32) by omega) (show inr (u2_1) from q_38 h4) (show 0 ≤ (y35_2_1) ∧ (y35_2_1) ≤ (m35_3) ∧ (m35_3) ≤ 65536 from j35_5) (show 0 ≤ (u2_1) ∧ (u2_1) ≤ (y35_2_1) from q_3241 h4 j35_6) (show (z32) < 0 ∨ 1 ≤ (tc147_0) ∧ (tc147_0) ≤ (y35_2_1) - (u2_1) by omega) (fun σ48 D48ₚ N48ₚ F48ₚ A48ₚ c48 s48 Hₚ Oₚ hD48 hN48 hS48 hA48 pm48_1 m48_1 em48_1 y48_0_1 ey48_0_1 y48_0_2 ey48_0_2 w48_1 ew48_1 pz48_0 pz48_1 pz48_2 pz48_3 pz48_4 => ⟨rfl, ?_⟩))
                      refine v_backMc (c := c_35) (s := s_35) H oz_D4cls_19 oz_D4cls_27 Hₚ Oₚ hD48 oz_D4cls_20 (fun D48 N48 F48 A48 H Oₚ eD48 eN48 eF48 eA48 => ?_)
                      have O := OUT_trans O Oₚ
                      -- Row.copyBack
                      have cF48 : SF oz_D4clsl_5 F F48 := SF_trans (cF_c147) (SF_gluc (ι := oz_D4clsl_10) oz_D4cls_27 hS48 eF48 (by decide +kernel)) (any_sub (lₚ := [(2, 0), (2, 1), (2, 2)]) (by decide +kernel))
                      have mF48 := SFm_of cF48 oz_D4cls_21
                      have cA48 : SA oz_D4clsl_6 A A48 := SA_trans (cA_c147) (SA_gluc (ι := oz_D4clsl_10) oz_D4cls_27 hA48 eA48 (by decide +kernel)) (any_subA (lₚ := [3]) (by decide +kernel))
                      have mA48 := SAm_of cA48 oz_D4cls_22
                      have cD48 : SD oz_D4clsl_6 D D48 := SD_trans (cD_35) (SD_gluc (ι := oz_D4clsl_10) oz_D4cls_27 hD48 eD48 (by decide +kernel)) (any_subA (lₚ := [3]) (by decide +kernel))
                      have mD48 := SDm_of cD48 oz_D4cls_22
                      have cN48 : SD oz_D4clsl_6 N N48 := SD_trans (cN_35) (SD_gluc (ι := oz_D4clsl_10) oz_D4cls_27 hN48 eN48 (by decide +kernel)) (any_subA (lₚ := [3]) (by decide +kernel))
                      have mN48 := SDm_of cN48 oz_D4cls_22
                      have pf48_2_0 : F48 2 0 = (D48 3 : Int) := (eF48 2 0).trans (pm48_1.trans (congrArg (fun q : Nat => (q : Int)) (eD48 3).symm))
                      have r49 : (0 : Int) ≤ m48_1 ∧ m48_1 ≤ 1000000 := nleE (H.nle 3 (ltn len_V206_oz_D4cls rfl)) (show (N48 3 : Int) = m48_1 from (congrArg (fun q : Nat => (q : Int)) (eN48 3)).trans em48_1)
                      have r50 : (-2147483648 : Int) ≤ y48_0_1 ∧ y48_0_1 ≤ 2147483647 := rngE (show (-2147483648 : Int) ≤ F48 2 1 ∧ F48 2 1 ≤ 2147483647 from H.krg 2 1 (ltn len_V206_oz_D4cls rfl)) (show F48 2 1 = y48_0_1 from ((eF48 2 1).trans ey48_0_1))
                      have r51 : (0 : Int) ≤ y48_0_2 ∧ y48_0_2 ≤ 1 := rngE (show (0 : Int) ≤ F48 2 2 ∧ F48 2 2 ≤ 1 from H.krg 2 2 (ltn len_V206_oz_D4cls rfl)) (show F48 2 2 = y48_0_2 from ((eF48 2 2).trans ey48_0_2))
                      have hcb := pz48_4 (by omega)
                      have hsm1 : ∀ i, (0 : Int) ≤ i → i < (u2_1) → ((w48_1)) i = ((w3)) i := fun i x y => (pz48_2 i x (by omega)).trans (j35_s i x y)
                      have hbu := pz48_3
                      have : TYO (ub8 ((w1))) ((a2)) ((y7_0_7)) (q0) (((x35_6 + (1 + z29)))) (sc ((w48_1)) ((u2_1)) ((y48_0_1))) := ITO_s j35_o (TYs_c hTY (by omega) (by omega) (by omega) (by omega) (by omega) (by omega) (by rw [hCX, show (u2_1) = (u2_1) by omega]; exact hcb))
                      refine Ew_of (pcₚ := 294) (fun _ => x_goto rfl rfl) ?_
                      exact hc294  _ _ _ _ _ _ _ _ ((x35_6 + (1 + z29))) ((rk_o (rk2_o (lc147_0) rfl rfl) rfl rfl).trans (congrArg (fun q : Nat => some (Value.ref q)) (((show D48 0 = D_35 0 from (eD48 0)))).symm)) (rk_o (rk2_o (lc147_2) rfl rfl) rfl rfl) (rk_o (rk2_o (lc147_5) rfl rfl) rfl rfl) (rk_s) (rk_o (rk2_o (lc147_7) rfl rfl) rfl rfl) H O (SD_trans (SD_refl) (SD_gluc (ι := oz_D4clsl_10) oz_D4cls_27 hD48 eD48 (by decide +kernel)) (any_subA (lₚ := [3]) (by decide +kernel))) (SD_trans (SD_refl) (SD_gluc (ι := oz_D4clsl_10) oz_D4cls_27 hN48 eN48 (by decide +kernel)) (any_subA (lₚ := [3]) (by decide +kernel))) (SF_trans (SF_refl) (SF_gluc (ι := oz_D4clsl_10) oz_D4cls_27 hS48 eF48 (by decide +kernel)) (any_sub (lₚ := [(2, 0), (2, 1), (2, 2)]) (by decide +kernel))) (SA_trans (SA_refl) (SA_gluc (ι := oz_D4clsl_10) oz_D4cls_27 hA48 eA48 (by decide +kernel)) (any_subA (lₚ := [3]) (by decide +kernel))) (pf48_2_0) (m48_1) ((congrArg (fun q : Nat => (q : Int)) (eN48 3)).trans em48_1) (y48_0_1) (((eF48 2 1).trans ey48_0_1)) (y48_0_2) (((eF48 2 2).trans ey48_0_2)) (w48_1) ((eA48 3).trans ew48_1) (show inr ((x35_6 + (1 + z29))) from q_3237 b30 h3 j35_4 pz29_1) (show 0 ≤ ((x35_6 + (1 + z29))) ∧ ((x35_6 + (1 + z29))) ≤ (a2) from q_3243 b30 j35_4 pz29_1) (show 0 ≤ (y48_0_1) ∧ (y48_0_1) ≤ (m48_1) ∧ (m48_1) ≤ 65536 from pz48_0) (show (u2_1) ≤ (y48_0_1) ∧ (u2_1) = (u2_1) from q_3239 j35_6 pz32_1 pz48_1) (show (y48_0_1) - (u2_1) ≤ (y7_0_7) by omega) (show (y48_0_2) = 0 by omega) (show (x35_7) + 1 ≤ ((x35_6 + (1 + z29))) from q_3242 j35_9 pz29_1) (show TYO (ub8 ((w1))) ((a2)) ((y7_0_7)) (q0) (((x35_6 + (1 + z29)))) (sc ((w48_1)) ((u2_1)) ((y48_0_1))) by assumption) (hsm1)
                  · refine Ew_of (pcₚ := 209) (fun _ => x_aload_n rfl (rk2_o (lc147_0) rfl rfl)) ?_
                    refine Ew_of (pcₚ := 210) (fun _ => x_iconst rfl) ?_
                    refine Ew_of (pcₚ := 212) (fun _ => x_iload rfl (rk2_o (lc147_6) rfl rfl)) ?_
                    refine v_inv H (o := 0) rfl rfl rfl rfl rfl rfl (by rfl) (C203 (D := puc 0 D_35) (N := puc 0 N_35) (HW_subc H oz_D4cls_13 oz_D4cls_10) (y7_0_8) ((((((((hS_c147 0 8 rfl).trans (hS_c121 0 8 rfl)).trans ((show F32 0 8 = F31 0 8 from (eF32 0 8)))).trans ((show F31 0 8 = F29 0 8 from (eF31 0 8)))).trans ((show F29 0 8 = F_35 0 8 from (eF29 0 8)))).trans (hS_35 0 8 rfl)).trans ((eF7 0 8).trans ey7_0_8))) (show inr (5) from q_727) (show inr (x35_6) from j35_0) (fun z52 σ52 F52ₚ A52ₚ Hₚ Oₚ hS52 hA52 y52_0_8 ey52_0_8 pz52_0 pz52_1 pz52_2 => ⟨rfl, ?_⟩))
                    refine v_backc (c := c_35) (s := s_35) H oz_D4cls_13 oz_D4cls_10 Hₚ Oₚ (fun F52 A52 H Oₚ eF52 eA52 => ?_)
                    have O := OUT_trans O Oₚ
                    -- Tags.fail
                    have cF52 : SF oz_D4clsl_5 F F52 := SF_trans (cF_c147) (SF_gluc (ι := oz_D4clsl_4) oz_D4cls_10 hS52 eF52 (by decide +kernel)) (any_sub (lₚ := [(0, 8)]) (by decide +kernel))
                    have mF52 := SFm_of cF52 oz_D4cls_21
                    have cA52 : SA oz_D4clsl_6 A A52 := SA_trans (cA_c147) (SA_gluc (ι := oz_D4clsl_4) oz_D4cls_10 hA52 eA52 (by decide +kernel)) (any_subA (lₚ := []) (by decide +kernel))
                    have mA52 := SAm_of cA52 oz_D4cls_22
                    have r53 : (-2147483648 : Int) ≤ y52_0_8 ∧ y52_0_8 ≤ 2147483647 := rngE (show (-2147483648 : Int) ≤ F52 0 8 ∧ F52 0 8 ≤ 2147483647 from H.krg 0 8 (ltn len_V206_oz_D4cls rfl)) (show F52 0 8 = y52_0_8 from ((eF52 0 8).trans ey52_0_8))
                    have : IMP ((z52) ≠ 0) (TYB (ub8 ((w1))) ((a2)) ((a1)) ((a3)) ((z52), (y52_0_8), [])) := fun z => ⟨0, 0, _, _, hLQ, .inr ⟨rfl, ITO_e j35_o (TYt_5 hTY (by omega) (by omega) (by omega) (by omega) (by omega) (by omega))⟩⟩
                    have : IMP ((z52) = 0) (TYB (ub8 ((w1))) ((a2)) ((a1)) ((a3)) (0, (a2), sc ((w35_3)) ((u2_1)) ((y35_2_1)))) := fun z => absurd z (by omega)
                    exact w_ireturn rfl (k (z52) _ _ _ _ _ _ _ H O (cD_35) (cN_35) (cF52) (cA52) (((((((((show F52 2 0 = F_c147 2 0 from (eF52 2 0))).trans (hS_c147 2 0 rfl)).trans (hS_c121 2 0 rfl)).trans ((show F32 2 0 = F31 2 0 from (eF32 2 0)))).trans ((show F31 2 0 = F29 2 0 from (eF31 2 0)))).trans ((show F29 2 0 = F_35 2 0 from (eF29 2 0))))).trans (pm35_3)) (m35_3) (em35_3) (y52_0_8) (((eF52 0 8).trans ey52_0_8)) (y35_2_1) (((((((((show F52 2 1 = F_c147 2 1 from (eF52 2 1))).trans (hS_c147 2 1 rfl)).trans (hS_c121 2 1 rfl)).trans ((show F32 2 1 = F31 2 1 from (eF32 2 1)))).trans ((show F31 2 1 = F29 2 1 from (eF31 2 1)))).trans ((show F29 2 1 = F_35 2 1 from (eF29 2 1)))).trans (ey35_2_1))) (y35_2_2) (((((((((show F52 2 2 = F_c147 2 2 from (eF52 2 2))).trans (hS_c147 2 2 rfl)).trans (hS_c121 2 2 rfl)).trans ((show F32 2 2 = F31 2 2 from (eF32 2 2)))).trans ((show F31 2 2 = F29 2 2 from (eF31 2 2)))).trans ((show F29 2 2 = F_35 2 2 from (eF29 2 2)))).trans (ey35_2_2))) (w35_3) (((show A52 3 = A_c147 3 from (eA52 3))).trans ((funext (hA_c147 3 rfl)).trans ((funext (hA_c121 3 rfl)).trans (((show A32 3 = A31 3 from (eA32 3))).trans (((show A31 3 = A29 3 from (eA31 3))).trans (((show A29 3 = A_35 3 from (eA29 3))).trans (ew35_3))))))) (show inr (z52) from pz52_0) (show 0 ≤ (z52) ∧ (z52) ≤ 6 from q_3245 pz52_1) (show 0 ≤ (y35_2_1) ∧ (y35_2_1) ≤ (m35_3) ∧ (m35_3) ≤ 65536 from j35_5) (show (u2_1) ≤ (y35_2_1) from q_3227 j35_6) (show (y35_2_1) ≤ (u2_1) + a3 ∨ (y35_2_1) = (u2_1) from q_3226 b10 j35_7 pz7_2) (show (y35_2_2) = 0 from j35_8) (show IMP ((z52) ≠ 0) (TYB (ub8 ((w1))) (a2) (a1) (a3) ((z52), (y52_0_8), [])) by assumption) (show IMP ((z52) = 0) (TYB (ub8 ((w1))) (a2) (a1) (a3) (0, a2, sc ((w35_3)) ((u2_1)) ((y35_2_1)))) by assumption) (j35_s) (show (z52) ≠ 0 ∨ (y52_0_8) = a2 from q_3244 pz52_1))
                · refine Ew_of (pcₚ := 156) (fun _ => x_lload rfl rk2_s) ?_
                  refine Ew_of (pcₚ := 157) (fun _ => x_lconst (z := 0) rfl (by decide)) ?_
                  refine w_lcmp rfl (show inrJ (tc147_0) from jc147_0) (show inrJ (0) from q_340) (fun z54 gz54 gaz54 gbz54 => ?_)
                  refine w_ifeq (t := 178) rfl rfl (show inr (z54) from gz54) (fun b55 => ?_) (fun b55 => ?_)
                  · refine Ew_of (pcₚ := 179) (fun _ => x_aload_n rfl (rk2_o (lc147_0) rfl rfl)) ?_
                    refine Ew_of (pcₚ := 180) (fun _ => x_iconst rfl) ?_
                    refine Ew_of (pcₚ := 182) (fun _ => x_iload rfl (rk2_o (lc147_6) rfl rfl)) ?_
                    refine v_inv H (o := 0) rfl rfl rfl rfl rfl rfl (by rfl) (C203 (D := puc 0 D_35) (N := puc 0 N_35) (HW_subc H oz_D4cls_13 oz_D4cls_10) (y7_0_8) ((((((((hS_c147 0 8 rfl).trans (hS_c121 0 8 rfl)).trans ((show F32 0 8 = F31 0 8 from (eF32 0 8)))).trans ((show F31 0 8 = F29 0 8 from (eF31 0 8)))).trans ((show F29 0 8 = F_35 0 8 from (eF29 0 8)))).trans (hS_35 0 8 rfl)).trans ((eF7 0 8).trans ey7_0_8))) (show inr (4) from q_216) (show inr (x35_6) from j35_0) (fun z56 σ56 F56ₚ A56ₚ Hₚ Oₚ hS56 hA56 y56_0_8 ey56_0_8 pz56_0 pz56_1 pz56_2 => ⟨rfl, ?_⟩))
                    refine v_backc (c := c_35) (s := s_35) H oz_D4cls_13 oz_D4cls_10 Hₚ Oₚ (fun F56 A56 H Oₚ eF56 eA56 => ?_)
                    have O := OUT_trans O Oₚ
                    -- Tags.fail
                    have cF56 : SF oz_D4clsl_5 F F56 := SF_trans (cF_c147) (SF_gluc (ι := oz_D4clsl_4) oz_D4cls_10 hS56 eF56 (by decide +kernel)) (any_sub (lₚ := [(0, 8)]) (by decide +kernel))
                    have mF56 := SFm_of cF56 oz_D4cls_21
                    have cA56 : SA oz_D4clsl_6 A A56 := SA_trans (cA_c147) (SA_gluc (ι := oz_D4clsl_4) oz_D4cls_10 hA56 eA56 (by decide +kernel)) (any_subA (lₚ := []) (by decide +kernel))
                    have mA56 := SAm_of cA56 oz_D4cls_22
                    have r57 : (-2147483648 : Int) ≤ y56_0_8 ∧ y56_0_8 ≤ 2147483647 := rngE (show (-2147483648 : Int) ≤ F56 0 8 ∧ F56 0 8 ≤ 2147483647 from H.krg 0 8 (ltn len_V206_oz_D4cls rfl)) (show F56 0 8 = y56_0_8 from ((eF56 0 8).trans ey56_0_8))
                    have : IMP ((z56) ≠ 0) (TYB (ub8 ((w1))) ((a2)) ((a1)) ((a3)) ((z56), (y56_0_8), [])) := fun z => ⟨0, 0, _, _, hLQ, .inr ⟨rfl, ITO_e j35_o (TYt_4 hTY (by omega) (by omega) (by omega) (by omega) (by omega) (by omega))⟩⟩
                    have : IMP ((z56) = 0) (TYB (ub8 ((w1))) ((a2)) ((a1)) ((a3)) (0, (a2), sc ((w35_3)) ((u2_1)) ((y35_2_1)))) := fun z => absurd z (by omega)
                    exact w_ireturn rfl (k (z56) _ _ _ _ _ _ _ H O (cD_35) (cN_35) (cF56) (cA56) (((((((((show F56 2 0 = F_c147 2 0 from (eF56 2 0))).trans (hS_c147 2 0 rfl)).trans (hS_c121 2 0 rfl)).trans ((show F32 2 0 = F31 2 0 from (eF32 2 0)))).trans ((show F31 2 0 = F29 2 0 from (eF31 2 0)))).trans ((show F29 2 0 = F_35 2 0 from (eF29 2 0))))).trans (pm35_3)) (m35_3) (em35_3) (y56_0_8) (((eF56 0 8).trans ey56_0_8)) (y35_2_1) (((((((((show F56 2 1 = F_c147 2 1 from (eF56 2 1))).trans (hS_c147 2 1 rfl)).trans (hS_c121 2 1 rfl)).trans ((show F32 2 1 = F31 2 1 from (eF32 2 1)))).trans ((show F31 2 1 = F29 2 1 from (eF31 2 1)))).trans ((show F29 2 1 = F_35 2 1 from (eF29 2 1)))).trans (ey35_2_1))) (y35_2_2) (((((((((show F56 2 2 = F_c147 2 2 from (eF56 2 2))).trans (hS_c147 2 2 rfl)).trans (hS_c121 2 2 rfl)).trans ((show F32 2 2 = F31 2 2 from (eF32 2 2)))).trans ((show F31 2 2 = F29 2 2 from (eF31 2 2)))).trans ((show F29 2 2 = F_35 2 2 from (eF29 2 2)))).trans (ey35_2_2))) (w35_3) (((show A56 3 = A_c147 3 from (eA56 3))).trans ((funext (hA_c147 3 rfl)).trans ((funext (hA_c121 3 rfl)).trans (((show A32 3 = A31 3 from (eA32 3))).trans (((show A31 3 = A29 3 from (eA31 3))).trans (((show A29 3 = A_35 3 from (eA29 3))).trans (ew35_3))))))) (show inr (z56) from pz56_0) (show 0 ≤ (z56) ∧ (z56) ≤ 6 from q_3247 pz56_1) (show 0 ≤ (y35_2_1) ∧ (y35_2_1) ≤ (m35_3) ∧ (m35_3) ≤ 65536 from j35_5) (show (u2_1) ≤ (y35_2_1) from q_3227 j35_6) (show (y35_2_1) ≤ (u2_1) + a3 ∨ (y35_2_1) = (u2_1) from q_3226 b10 j35_7 pz7_2) (show (y35_2_2) = 0 from j35_8) (show IMP ((z56) ≠ 0) (TYB (ub8 ((w1))) (a2) (a1) (a3) ((z56), (y56_0_8), [])) by assumption) (show IMP ((z56) = 0) (TYB (ub8 ((w1))) (a2) (a1) (a3) (0, a2, sc ((w35_3)) ((u2_1)) ((y35_2_1)))) by assumption) (j35_s) (show (z56) ≠ 0 ∨ (y56_0_8) = a2 from q_3246 pz56_1))
                  · refine Ew_of (pcₚ := 163) (fun _ => x_lload rfl rk2_s) ?_
                    refine Ew_of (pcₚ := 164) (fun _ => x_aload_n rfl (rk2_o (lc147_0) rfl rfl)) ?_
                    refine v_g H (o := 0) (v := .ref (D_35 2)) rfl rfl rfl rfl rfl (vrf ((mF_c147 0 5 rfl).trans ((pf2).trans (congrArg (fun q : Nat => (q : Int)) (mD_35 2 rfl).symm)))) ?_
                    refine v_g H (o := 2) (v := I (y35_2_1)) rfl rfl rfl rfl rfl (congrArg (fun z : Int => I z) (((((((hS_c147 2 1 rfl).trans (hS_c121 2 1 rfl)).trans ((show F32 2 1 = F31 2 1 from (eF32 2 1)))).trans ((show F31 2 1 = F29 2 1 from (eF31 2 1)))).trans ((show F29 2 1 = F_35 2 1 from (eF29 2 1)))).trans (ey35_2_1)) : F_c147 2 1 = y35_2_1)) ?_
                    refine Ew_of (pcₚ := 172) (fun _ => x_iload rfl (rk2_o (lc147_5) rfl rfl)) ?_
                    refine w_isub rfl ?_
                    refine w_i2l rfl (show inr ((y35_2_1 - u2_1)) from q_3223 h4 j35_5 j35_6) ?_
                    refine w_lcmp rfl (show inrJ (tc147_0) from jc147_0) (show inrJ ((y35_2_1 - u2_1)) from q_3224 h4 j35_5 j35_6) (fun z58 gz58 gaz58 gbz58 => ?_)
                    refine w_ifle (t := 186) rfl rfl (show inr (z58) from gz58) (fun b59 => ?_) (fun b59 => ?_)
                    · refine Ew_of (pcₚ := 188) (fun _ => x_lload rfl (rk2_o (lc147_12) rfl rfl)) ?_
                      refine Ew_of (pcₚ := 189) (fun _ => x_aload_n rfl (rk2_o (lc147_0) rfl rfl)) ?_
                      refine v_g H (o := 0) (v := J (y7_0_7)) rfl rfl rfl rfl rfl (congrArg (fun z : Int => J z) ((((((((hS_c147 0 7 rfl).trans (hS_c121 0 7 rfl)).trans ((show F32 0 7 = F31 0 7 from (eF32 0 7)))).trans ((show F31 0 7 = F29 0 7 from (eF31 0 7)))).trans ((show F29 0 7 = F_35 0 7 from (eF29 0 7)))).trans (hS_35 0 7 rfl)).trans ((eF7 0 7).trans ey7_0_7)) : F_c147 0 7 = y7_0_7)) ?_
                      refine Ew_of (pcₚ := 193) (fun _ => x_aload_n rfl (rk2_o (lc147_0) rfl rfl)) ?_
                      refine v_g H (o := 0) (v := .ref (D_35 2)) rfl rfl rfl rfl rfl (vrf ((mF_c147 0 5 rfl).trans ((pf2).trans (congrArg (fun q : Nat => (q : Int)) (mD_35 2 rfl).symm)))) ?_
                      refine v_g H (o := 2) (v := I (y35_2_1)) rfl rfl rfl rfl rfl (congrArg (fun z : Int => I z) (((((((hS_c147 2 1 rfl).trans (hS_c121 2 1 rfl)).trans ((show F32 2 1 = F31 2 1 from (eF32 2 1)))).trans ((show F31 2 1 = F29 2 1 from (eF31 2 1)))).trans ((show F29 2 1 = F_35 2 1 from (eF29 2 1)))).trans (ey35_2_1)) : F_c147 2 1 = y35_2_1)) ?_
                      refine Ew_of (pcₚ := 201) (fun _ => x_iload rfl (rk2_o (lc147_5) rfl rfl)) ?_
                      refine w_isub rfl ?_
                      refine w_i2l rfl (show inr ((y35_2_1 - u2_1)) from q_3223 h4 j35_5 j35_6) ?_
                      refine w_lsub rfl ?_
                      refine w_lcmp rfl (show inrJ (z32) from pz32_0) (show inrJ ((y7_0_7 - (y35_2_1 - u2_1))) by omega) (fun z60 gz60 gaz60 gbz60 => ?_)
                      refine w_ifle (t := 216) rfl rfl (show inr (z60) from gz60) (fun b61 => ?_) (fun b61 => ?_)
                      · refine Ew_of (pcₚ := 218) (fun _ => x_iload rfl (rk2_o (lc147_6) rfl rfl)) ?_
                        refine Ew_of (pcₚ := 219) (fun _ => x_iconst rfl) ?_
                        refine Ew_of (pcₚ := 221) (fun _ => x_iload rfl (rk2_o (lc147_9) rfl rfl)) ?_
                        refine w_iadd rfl ?_
                        refine w_iadd rfl ?_
                        refine Ew_of (pcₚ := 225) (fun _ => x_istore rfl) ?_
                        have hc294 : ∀ (ls : rO) (σ : rS) (D_c294 N_c294 : Nat → Nat) (c_c294 s_c294 : Nat) (F_c294 : hF) (A_c294 : hA) (xc294_6 : Int), rlook ls 0 = some (.ref (D_c294 0)) → rlook ls 2 = some (I (a2)) → rlook ls 5 = some (I (u2_1)) → rlook ls 6 = some (I (xc294_6)) → rlook ls 7 = some (I (x35_7)) → HW V206 σ D_c294 N_c294 F_c294 A_c294 → OUT (V206).length D N σE c s D_c294 N_c294 σ c_c294 s_c294 → SD [3] D_35 D_c294 → SD [3] N_35 N_c294 → SF [(2, 0), (2, 1), (2, 2)] F_c147 F_c294 → SA [3] A_c147 A_c294 → F_c294 2 0 = (D_c294 3 : Int) → ∀ mc294_3 : Int, (N_c294 3 : Int) = mc294_3 → ∀ yc294_2_1 : Int, F_c294 2 1 = yc294_2_1 → ∀ yc294_2_2 : Int, F_c294 2 2 = yc294_2_2 → ∀ wc294_3 : Int → Int, A_c294 3 = wc294_3 → (inr (xc294_6)) → (0 ≤ (xc294_6) ∧ (xc294_6) ≤ (a2)) → (0 ≤ (yc294_2_1) ∧ (yc294_2_1) ≤ (mc294_3) ∧ (mc294_3) ≤ 65536) → ((u2_1) ≤ (yc294_2_1) ∧ (u2_1) = (u2_1)) → ((yc294_2_1) - (u2_1) ≤ (y7_0_7)) → ((yc294_2_2) = 0) → ((x35_7) + 1 ≤ (xc294_6)) → (TYO (ub8 ((w1))) ((a2)) ((y7_0_7)) (q0) ((xc294_6)) (sc ((wc294_3)) ((u2_1)) ((yc294_2_1)))) → (∀ i, (0 : Int) ≤ i → i < (u2_1) → ((wc294_3)) i = ((w3)) i) → Ew 206 (d + 3) 294 ls [] σ c_c294 s_c294 Q := by
                         as_aux_lemma =>
                          intro  ls σ D_c294 N_c294 c_c294 s_c294 F_c294 A_c294 xc294_6 lc294_0 lc294_2 lc294_5 lc294_6 lc294_7 H O hD_c294 hN_c294 hS_c294 hA_c294 pmc294_3 mc294_3 emc294_3 yc294_2_1 eyc294_2_1 yc294_2_2 eyc294_2_2 wc294_3 ewc294_3 jc294_0 jc294_1 jc294_2 jc294_3 jc294_4 jc294_5 jc294_6 jc294_7 jc294_8
                          have cF_c294 : SF oz_D4clsl_5 F F_c294 := SF_trans (cF_c147) hS_c294 (any_sub (by decide +kernel))
                          have mF_c294 := SFm_of cF_c294 oz_D4cls_21
                          have cA_c294 : SA oz_D4clsl_6 A A_c294 := SA_trans (cA_c147) hA_c294 (any_subA (by decide +kernel))
                          have mA_c294 := SAm_of cA_c294 oz_D4cls_22
                          have cD_c294 : SD oz_D4clsl_6 D D_c294 := SD_trans (cD_35) hD_c294 (any_subA (by decide +kernel))
                          have mD_c294 := SDm_of cD_c294 oz_D4cls_22
                          have cN_c294 : SD oz_D4clsl_6 N N_c294 := SD_trans (cN_35) hN_c294 (any_subA (by decide +kernel))
                          have mN_c294 := SDm_of cN_c294 oz_D4cls_22
                          have r62 : (0 : Int) ≤ mc294_3 ∧ mc294_3 ≤ 1000000 := nleE (H.nle 3 (ltn len_V206_oz_D4cls rfl)) (show (N_c294 3 : Int) = mc294_3 from emc294_3)
                          have r63 : (-2147483648 : Int) ≤ yc294_2_1 ∧ yc294_2_1 ≤ 2147483647 := rngE (show (-2147483648 : Int) ≤ F_c294 2 1 ∧ F_c294 2 1 ≤ 2147483647 from H.krg 2 1 (ltn len_V206_oz_D4cls rfl)) (show F_c294 2 1 = yc294_2_1 from (eyc294_2_1))
                          have r64 : (0 : Int) ≤ yc294_2_2 ∧ yc294_2_2 ≤ 1 := rngE (show (0 : Int) ≤ F_c294 2 2 ∧ F_c294 2 2 ≤ 1 from H.krg 2 2 (ltn len_V206_oz_D4cls rfl)) (show F_c294 2 2 = yc294_2_2 from (eyc294_2_2))
                          refine Ew_of (pcₚ := 297) (fun _ => x_iinc (len := 3) rfl (lc294_7)) ?_
                          refine Ew_of (pcₚ := 35) (fun _ => x_goto rfl rfl) ?_
                          exact ih35 _ (msE hm35 q_16 (q_17 b14)) _ _ _ _ _ _ _ _ (xc294_6) ((x35_7 + 1)) (rk_o (lc294_0) rfl rfl) (rk_o (lc294_2) rfl rfl) (rk_o (lc294_5) rfl rfl) (rk_o (lc294_6) rfl rfl) (rk_s) H O (SD_trans (hD_35) hD_c294 (any_subA (by decide +kernel))) (SD_trans (hN_35) hN_c294 (any_subA (by decide +kernel))) (SF_trans (SF_trans (SF_trans (SF_trans (SF_trans (SF_trans (hS_35) (SF_gluc (ι := oz_D4clsl_3) oz_D4cls_24 hS29 eF29 (by decide +kernel)) (any_sub (lₚ := []) (by decide +kernel))) (SF_gluc (ι := oz_D4clsl_8) oz_D4cls_25 hS31 eF31 (by decide +kernel)) (any_sub (lₚ := []) (by decide +kernel))) (SF_gluc (ι := oz_D4clsl_3) oz_D4cls_24 hS32 eF32 (by decide +kernel)) (any_sub (lₚ := []) (by decide +kernel))) hS_c121 (any_sub (by decide +kernel))) hS_c147 (any_sub (by decide +kernel))) hS_c294 (any_sub (by decide +kernel))) (SA_trans (SA_trans (SA_trans (SA_trans (SA_trans (SA_trans (hA_35) (SA_gluc (ι := oz_D4clsl_3) oz_D4cls_24 hA29 eA29 (by decide +kernel)) (any_subA (lₚ := []) (by decide +kernel))) (SA_gluc (ι := oz_D4clsl_8) oz_D4cls_25 hA31 eA31 (by decide +kernel)) (any_subA (lₚ := []) (by decide +kernel))) (SA_gluc (ι := oz_D4clsl_3) oz_D4cls_24 hA32 eA32 (by decide +kernel)) (any_subA (lₚ := []) (by decide +kernel))) hA_c121 (any_subA (by decide +kernel))) hA_c147 (any_subA (by decide +kernel))) hA_c294 (any_subA (by decide +kernel))) (pmc294_3) (mc294_3) (emc294_3) (yc294_2_1) ((eyc294_2_1)) (yc294_2_2) ((eyc294_2_2)) (wc294_3) (ewc294_3) (show inr (xc294_6) from jc294_0) (show inr ((x35_7 + 1)) from q_3094 b14 h3 j35_1) (show (a1) ≤ ((x35_7 + 1)) from q_161 j35_2) (show ((x35_7 + 1)) ≤ (a1) ∨ ((x35_7 + 1)) ≤ ((a2)) from q_160 b14) (show 0 ≤ (xc294_6) ∧ (xc294_6) ≤ (a2) from jc294_1) (show 0 ≤ (yc294_2_1) ∧ (yc294_2_1) ≤ (mc294_3) ∧ (mc294_3) ≤ 65536 from jc294_2) (show (u2_1) ≤ (yc294_2_1) ∧ (u2_1) = (u2_1) from jc294_3) (show (yc294_2_1) - (u2_1) ≤ (y7_0_7) from jc294_4) (show (yc294_2_2) = 0 from jc294_5) (show ((x35_7 + 1)) ≤ (xc294_6) from jc294_6) (jc294_7) (jc294_8) rfl
                        refine Ew_of (pcₚ := 227) (fun _ => x_iload rfl (rk_o (rk2_o (lc147_14) rfl rfl) rfl rfl)) ?_
                        refine w_ifeq (t := 252) rfl rfl (show inr (tc121_0) from jc121_0) (fun b65 => ?_) (fun b65 => ?_)
                        · refine Ew_of (pcₚ := 254) (fun _ => x_lload rfl (rk_o (rk2_o (lc147_12) rfl rfl) rfl rfl)) ?_
                          refine Ew_of (pcₚ := 255) (fun _ => x_iload_n rfl (rk_o (rk2_o (lc147_2) rfl rfl) rfl rfl)) ?_
                          refine Ew_of (pcₚ := 257) (fun _ => x_iload rfl rk_s) ?_
                          refine w_isub rfl ?_
                          refine w_i2l rfl (show inr ((a2 - (x35_6 + (1 + z29)))) from q_3235 b30 h3 j35_4 pz29_1) ?_
                          refine w_lcmp rfl (show inrJ (z32) from pz32_0) (show inrJ ((a2 - (x35_6 + (1 + z29)))) from q_3236 b30 h3 j35_4 pz29_1) (fun z66 gz66 gaz66 gbz66 => ?_)
                          refine w_ifle (t := 270) rfl rfl (show inr (z66) from gz66) (fun b67 => ?_) (fun b67 => ?_)
                          · refine Ew_of (pcₚ := 271) (fun _ => x_aload_n rfl (rk_o (rk2_o (lc147_0) rfl rfl) rfl rfl)) ?_
                            refine v_g H (o := 0) (v := .ref (D_35 2)) rfl rfl rfl rfl rfl (vrf ((mF_c147 0 5 rfl).trans ((pf2).trans (congrArg (fun q : Nat => (q : Int)) (mD_35 2 rfl).symm)))) ?_
                            refine Ew_of (pcₚ := 275) (fun _ => x_aload_n rfl (rk_o (rk2_o (lc147_0) rfl rfl) rfl rfl)) ?_
                            refine v_g H (o := 0) (v := .ref (D_35 1)) rfl rfl rfl rfl rfl (vrf ((mF_c147 0 3 rfl).trans ((pf1).trans (congrArg (fun q : Nat => (q : Int)) (mD_35 1 rfl).symm)))) ?_
                            refine Ew_of (pcₚ := 280) (fun _ => x_iload rfl rk_s) ?_
                            refine Ew_of (pcₚ := 282) (fun _ => x_lload rfl (rk_o (rk2_o (lc147_12) rfl rfl) rfl rfl)) ?_
                            refine w_l2i rfl ?_
                            refine v_inv H (o := 2) rfl rfl rfl rfl rfl rfl (by rfl) (C161_Br (D := puc 786946 D_35) (N := puc 786946 N_35) (HW_subc H oz_D4cls_17 oz_D4cls_26) (((((((hS_c147 2 0 rfl).trans (hS_c121 2 0 rfl)).trans ((show F32 2 0 = F31 2 0 from (eF32 2 0)))).trans ((show F31 2 0 = F29 2 0 from (eF31 2 0)))).trans ((show F29 2 0 = F_35 2 0 from (eF29 2 0))))).trans (pm35_3)) (n1) ((congrArg (fun q : Nat => (q : Int)) (mN_35 1 rfl)).trans (en1)) (m35_3) (em35_3) (y35_2_1) (((((((hS_c147 2 1 rfl).trans (hS_c121 2 1 rfl)).trans ((show F32 2 1 = F31 2 1 from (eF32 2 1)))).trans ((show F31 2 1 = F29 2 1 from (eF31 2 1)))).trans ((show F29 2 1 = F_35 2 1 from (eF29 2 1)))).trans (ey35_2_1))) (y35_2_2) (((((((hS_c147 2 2 rfl).trans (hS_c121 2 2 rfl)).trans ((show F32 2 2 = F31 2 2 from (eF32 2 2)))).trans ((show F31 2 2 = F29 2 2 from (eF31 2 2)))).trans ((show F29 2 2 = F_35 2 2 from (eF29 2 2)))).trans (ey35_2_2))) (w1) ((funext (mA_c147 1 rfl)).trans (ew1)) (w35_3) ((funext (hA_c147 3 rfl)).trans ((funext (hA_c121 3 rfl)).trans (((show A32 3 = A31 3 from (eA32 3))).trans (((show A31 3 = A29 3 from (eA31 3))).trans (((show A29 3 = A_35 3 from (eA29 3))).trans (ew35_3)))))) (show inr ((x35_6 + (1 + z29))) from q_3237 b30 h3 j35_4 pz29_1) (show inr (z32) by omega) (show 0 ≤ (y35_2_1) ∧ (y35_2_1) ≤ (m35_3) ∧ (m35_3) ≤ 65536 from j35_5) (show (z32) < 0 ∨ 0 ≤ ((x35_6 + (1 + z29))) ∧ ((x35_6 + (1 + z29))) + (z32) ≤ (n1) by omega) (fun σ68 D68ₚ N68ₚ F68ₚ A68ₚ c68 s68 Hₚ Oₚ hD68 hN68 hS68 hA68 pm68_2 m68_2 em68_2 y68_0_1 ey68_0_1 y68_0_2 ey68_0_2 w68_2 ew68_2 pz68_0 pz68_1 pz68_2 pz68_3 => ⟨rfl, ?_⟩))
                            refine v_backMc (c := c_35) (s := s_35) H oz_D4cls_17 oz_D4cls_26 Hₚ Oₚ hD68 oz_D4cls_18 (fun D68 N68 F68 A68 H Oₚ eD68 eN68 eF68 eA68 => ?_)
                            have O := OUT_trans O Oₚ
                            -- Row.addPart
                            have cF68 : SF oz_D4clsl_5 F F68 := SF_trans (cF_c147) (SF_gluc (ι := oz_D4clsl_9) oz_D4cls_26 hS68 eF68 (by decide +kernel)) (any_sub (lₚ := [(2, 0), (2, 1), (2, 2)]) (by decide +kernel))
                            have mF68 := SFm_of cF68 oz_D4cls_21
                            have cA68 : SA oz_D4clsl_6 A A68 := SA_trans (cA_c147) (SA_gluc (ι := oz_D4clsl_9) oz_D4cls_26 hA68 eA68 (by decide +kernel)) (any_subA (lₚ := [3]) (by decide +kernel))
                            have mA68 := SAm_of cA68 oz_D4cls_22
                            have cD68 : SD oz_D4clsl_6 D D68 := SD_trans (cD_35) (SD_gluc (ι := oz_D4clsl_9) oz_D4cls_26 hD68 eD68 (by decide +kernel)) (any_subA (lₚ := [3]) (by decide +kernel))
                            have mD68 := SDm_of cD68 oz_D4cls_22
                            have cN68 : SD oz_D4clsl_6 N N68 := SD_trans (cN_35) (SD_gluc (ι := oz_D4clsl_9) oz_D4cls_26 hN68 eN68 (by decide +kernel)) (any_subA (lₚ := [3]) (by decide +kernel))
                            have mN68 := SDm_of cN68 oz_D4cls_22
                            have pf68_2_0 : F68 2 0 = (D68 3 : Int) := (eF68 2 0).trans (pm68_2.trans (congrArg (fun q : Nat => (q : Int)) (eD68 3).symm))
                            have r69 : (0 : Int) ≤ m68_2 ∧ m68_2 ≤ 1000000 := nleE (H.nle 3 (ltn len_V206_oz_D4cls rfl)) (show (N68 3 : Int) = m68_2 from (congrArg (fun q : Nat => (q : Int)) (eN68 3)).trans em68_2)
                            have r70 : (-2147483648 : Int) ≤ y68_0_1 ∧ y68_0_1 ≤ 2147483647 := rngE (show (-2147483648 : Int) ≤ F68 2 1 ∧ F68 2 1 ≤ 2147483647 from H.krg 2 1 (ltn len_V206_oz_D4cls rfl)) (show F68 2 1 = y68_0_1 from ((eF68 2 1).trans ey68_0_1))
                            have r71 : (0 : Int) ≤ y68_0_2 ∧ y68_0_2 ≤ 1 := rngE (show (0 : Int) ≤ F68 2 2 ∧ F68 2 2 ≤ 1 from H.krg 2 2 (ltn len_V206_oz_D4cls rfl)) (show F68 2 2 = y68_0_2 from ((eF68 2 2).trans ey68_0_2))
                            have hap := RAP_from (a := (u2_1)) (pz68_3 (by omega)) (by omega) (by omega) (by rw [sc_lenI (by omega)]; omega) (by omega)
                            have hbu := hap.1
                            have hsm1 : ∀ i, (0 : Int) ≤ i → i < (u2_1) → ((w68_2)) i = ((w3)) i := fun i x y => (pz68_2 i x (by omega)).trans (j35_s i x y)
                            refine Ew_of (pcₚ := 288) (fun _ => x_iload rfl rk_s) ?_
                            refine Ew_of (pcₚ := 290) (fun _ => x_lload rfl (rk_o (rk2_o (lc147_12) rfl rfl) rfl rfl)) ?_
                            refine w_l2i rfl ?_
                            refine w_iadd rfl ?_
                            have : TYO (ub8 ((w1))) ((a2)) ((y7_0_7)) (q0) ((((x35_6 + (1 + z29)) + z32))) (sc ((w68_2)) ((u2_1)) ((y68_0_1))) := ITO_s j35_o (TYs_l (q0 := ((x35_6 + (1 + z29)))) hTY (by omega) (by omega) (by omega) (by omega) (by omega) (by omega) rfl (by rw [hCX, show (u2_1) = (u2_1) by omega, hap.2, sc_ub8]))
                            refine Ew_of (pcₚ := 294) (fun _ => x_istore rfl) ?_
                            exact hc294  _ _ _ _ _ _ _ _ (((x35_6 + (1 + z29)) + z32)) ((rk_o (rk_o (rk2_o (lc147_0) rfl rfl) rfl rfl) rfl rfl).trans (congrArg (fun q : Nat => some (Value.ref q)) (((show D68 0 = D_35 0 from (eD68 0)))).symm)) (rk_o (rk_o (rk2_o (lc147_2) rfl rfl) rfl rfl) rfl rfl) (rk_o (rk_o (rk2_o (lc147_5) rfl rfl) rfl rfl) rfl rfl) (rk_s) (rk_o (rk_o (rk2_o (lc147_7) rfl rfl) rfl rfl) rfl rfl) H O (SD_trans (SD_refl) (SD_gluc (ι := oz_D4clsl_9) oz_D4cls_26 hD68 eD68 (by decide +kernel)) (any_subA (lₚ := [3]) (by decide +kernel))) (SD_trans (SD_refl) (SD_gluc (ι := oz_D4clsl_9) oz_D4cls_26 hN68 eN68 (by decide +kernel)) (any_subA (lₚ := [3]) (by decide +kernel))) (SF_trans (SF_refl) (SF_gluc (ι := oz_D4clsl_9) oz_D4cls_26 hS68 eF68 (by decide +kernel)) (any_sub (lₚ := [(2, 0), (2, 1), (2, 2)]) (by decide +kernel))) (SA_trans (SA_refl) (SA_gluc (ι := oz_D4clsl_9) oz_D4cls_26 hA68 eA68 (by decide +kernel)) (any_subA (lₚ := [3]) (by decide +kernel))) (pf68_2_0) (m68_2) ((congrArg (fun q : Nat => (q : Int)) (eN68 3)).trans em68_2) (y68_0_1) (((eF68 2 1).trans ey68_0_1)) (y68_0_2) (((eF68 2 2).trans ey68_0_2)) (w68_2) ((eA68 3).trans ew68_2) (show inr (((x35_6 + (1 + z29)) + z32)) by omega) (show 0 ≤ (((x35_6 + (1 + z29)) + z32)) ∧ (((x35_6 + (1 + z29)) + z32)) ≤ (a2) by omega) (show 0 ≤ (y68_0_1) ∧ (y68_0_1) ≤ (m68_2) ∧ (m68_2) ≤ 65536 from pz68_0) (show (u2_1) ≤ (y68_0_1) ∧ (u2_1) = (u2_1) from q_3239 j35_6 pz32_1 pz68_1) (show (y68_0_1) - (u2_1) ≤ (y7_0_7) by omega) (show (y68_0_2) = 0 by omega) (show (x35_7) + 1 ≤ (((x35_6 + (1 + z29)) + z32)) from q_3238 j35_9 pz29_1 pz32_1) (show TYO (ub8 ((w1))) ((a2)) ((y7_0_7)) (q0) ((((x35_6 + (1 + z29)) + z32))) (sc ((w68_2)) ((u2_1)) ((y68_0_1))) by assumption) (hsm1)
                          · refine Ew_of (pcₚ := 264) (fun _ => x_aload_n rfl (rk_o (rk2_o (lc147_0) rfl rfl) rfl rfl)) ?_
                            refine Ew_of (pcₚ := 265) (fun _ => x_iconst rfl) ?_
                            refine Ew_of (pcₚ := 266) (fun _ => x_iload_n rfl (rk_o (rk2_o (lc147_2) rfl rfl) rfl rfl)) ?_
                            refine v_inv H (o := 0) rfl rfl rfl rfl rfl rfl (by rfl) (C203 (D := puc 0 D_35) (N := puc 0 N_35) (HW_subc H oz_D4cls_13 oz_D4cls_10) (y7_0_8) ((((((((hS_c147 0 8 rfl).trans (hS_c121 0 8 rfl)).trans ((show F32 0 8 = F31 0 8 from (eF32 0 8)))).trans ((show F31 0 8 = F29 0 8 from (eF31 0 8)))).trans ((show F29 0 8 = F_35 0 8 from (eF29 0 8)))).trans (hS_35 0 8 rfl)).trans ((eF7 0 8).trans ey7_0_8))) (show inr (1) from q_135) (show inr (a2) from h1) (fun z72 σ72 F72ₚ A72ₚ Hₚ Oₚ hS72 hA72 y72_0_8 ey72_0_8 pz72_0 pz72_1 pz72_2 => ⟨rfl, ?_⟩))
                            refine v_backc (c := c_35) (s := s_35) H oz_D4cls_13 oz_D4cls_10 Hₚ Oₚ (fun F72 A72 H Oₚ eF72 eA72 => ?_)
                            have O := OUT_trans O Oₚ
                            -- Tags.fail
                            have cF72 : SF oz_D4clsl_5 F F72 := SF_trans (cF_c147) (SF_gluc (ι := oz_D4clsl_4) oz_D4cls_10 hS72 eF72 (by decide +kernel)) (any_sub (lₚ := [(0, 8)]) (by decide +kernel))
                            have mF72 := SFm_of cF72 oz_D4cls_21
                            have cA72 : SA oz_D4clsl_6 A A72 := SA_trans (cA_c147) (SA_gluc (ι := oz_D4clsl_4) oz_D4cls_10 hA72 eA72 (by decide +kernel)) (any_subA (lₚ := []) (by decide +kernel))
                            have mA72 := SAm_of cA72 oz_D4cls_22
                            have r73 : (-2147483648 : Int) ≤ y72_0_8 ∧ y72_0_8 ≤ 2147483647 := rngE (show (-2147483648 : Int) ≤ F72 0 8 ∧ F72 0 8 ≤ 2147483647 from H.krg 0 8 (ltn len_V206_oz_D4cls rfl)) (show F72 0 8 = y72_0_8 from ((eF72 0 8).trans ey72_0_8))
                            have : IMP ((z72) ≠ 0) (TYB (ub8 ((w1))) ((a2)) ((a1)) ((a3)) ((z72), (y72_0_8), [])) := fun z => ⟨0, 0, _, _, hLQ, .inr ⟨rfl, ITO_e j35_o (TYt_l hTY (by omega) (by omega) (by omega) (by omega) (by omega) (by omega) (by omega))⟩⟩
                            have : IMP ((z72) = 0) (TYB (ub8 ((w1))) ((a2)) ((a1)) ((a3)) (0, (a2), sc ((w35_3)) ((u2_1)) ((y35_2_1)))) := fun z => absurd z (by omega)
                            exact w_ireturn rfl (k (z72) _ _ _ _ _ _ _ H O (cD_35) (cN_35) (cF72) (cA72) (((((((((show F72 2 0 = F_c147 2 0 from (eF72 2 0))).trans (hS_c147 2 0 rfl)).trans (hS_c121 2 0 rfl)).trans ((show F32 2 0 = F31 2 0 from (eF32 2 0)))).trans ((show F31 2 0 = F29 2 0 from (eF31 2 0)))).trans ((show F29 2 0 = F_35 2 0 from (eF29 2 0))))).trans (pm35_3)) (m35_3) (em35_3) (y72_0_8) (((eF72 0 8).trans ey72_0_8)) (y35_2_1) (((((((((show F72 2 1 = F_c147 2 1 from (eF72 2 1))).trans (hS_c147 2 1 rfl)).trans (hS_c121 2 1 rfl)).trans ((show F32 2 1 = F31 2 1 from (eF32 2 1)))).trans ((show F31 2 1 = F29 2 1 from (eF31 2 1)))).trans ((show F29 2 1 = F_35 2 1 from (eF29 2 1)))).trans (ey35_2_1))) (y35_2_2) (((((((((show F72 2 2 = F_c147 2 2 from (eF72 2 2))).trans (hS_c147 2 2 rfl)).trans (hS_c121 2 2 rfl)).trans ((show F32 2 2 = F31 2 2 from (eF32 2 2)))).trans ((show F31 2 2 = F29 2 2 from (eF31 2 2)))).trans ((show F29 2 2 = F_35 2 2 from (eF29 2 2)))).trans (ey35_2_2))) (w35_3) (((show A72 3 = A_c147 3 from (eA72 3))).trans ((funext (hA_c147 3 rfl)).trans ((funext (hA_c121 3 rfl)).trans (((show A32 3 = A31 3 from (eA32 3))).trans (((show A31 3 = A29 3 from (eA31 3))).trans (((show A29 3 = A_35 3 from (eA29 3))).trans (ew35_3))))))) (show inr (z72) from pz72_0) (show 0 ≤ (z72) ∧ (z72) ≤ 6 from q_3240 pz72_1) (show 0 ≤ (y35_2_1) ∧ (y35_2_1) ≤ (m35_3) ∧ (m35_3) ≤ 65536 from j35_5) (show (u2_1) ≤ (y35_2_1) from q_3227 j35_6) (show (y35_2_1) ≤ (u2_1) + a3 ∨ (y35_2_1) = (u2_1) from q_3226 b10 j35_7 pz7_2) (show (y35_2_2) = 0 from j35_8) (show IMP ((z72) ≠ 0) (TYB (ub8 ((w1))) (a2) (a1) (a3) ((z72), (y72_0_8), [])) by assumption) (show IMP ((z72) = 0) (TYB (ub8 ((w1))) (a2) (a1) (a3) (0, a2, sc ((w35_3)) ((u2_1)) ((y35_2_1)))) by assumption) (j35_s) (show (z72) ≠ 0 ∨ (y72_0_8) = a2 from q_3108 pz72_1))
                        · refine Ew_of (pcₚ := 231) (fun _ => x_aload_n rfl (rk_o (rk2_o (lc147_0) rfl rfl) rfl rfl)) ?_
                          refine v_g H (o := 0) (v := .ref (D_35 2)) rfl rfl rfl rfl rfl (vrf ((mF_c147 0 5 rfl).trans ((pf2).trans (congrArg (fun q : Nat => (q : Int)) (mD_35 2 rfl).symm)))) ?_
                          refine Ew_of (pcₚ := 236) (fun _ => x_lload rfl (rk_o (rk2_s) rfl rfl)) ?_
                          refine w_l2i rfl ?_
                          refine Ew_of (pcₚ := 239) (fun _ => x_lload rfl (rk_o (rk2_o (lc147_12) rfl rfl) rfl rfl)) ?_
                          refine w_l2i rfl ?_
                          refine Ew_of (pcₚ := 242) (fun _ => x_iload rfl (rk_o (rk2_o (lc147_5) rfl rfl) rfl rfl)) ?_
                          refine Ew_of (pcₚ := 243) (fun _ => x_aload_n rfl (rk_o (rk2_o (lc147_0) rfl rfl) rfl rfl)) ?_
                          refine v_g H (o := 0) (v := .ref (D_35 2)) rfl rfl rfl rfl rfl (vrf ((mF_c147 0 5 rfl).trans ((pf2).trans (congrArg (fun q : Nat => (q : Int)) (mD_35 2 rfl).symm)))) ?_
                          refine v_inv H (o := 2) rfl rfl rfl rfl rfl rfl (by rfl) (C163_thisa (D := puc 1538 D_35) (N := puc 1538 N_35) (HW_subc H oz_D4cls_19 oz_D4cls_27) (((((((hS_c147 2 0 rfl).trans (hS_c121 2 0 rfl)).trans ((show F32 2 0 = F31 2 0 from (eF32 2 0)))).trans ((show F31 2 0 = F29 2 0 from (eF31 2 0)))).trans ((show F29 2 0 = F_35 2 0 from (eF29 2 0))))).trans (pm35_3)) (m35_3) (em35_3) (y35_2_1) (((((((hS_c147 2 1 rfl).trans (hS_c121 2 1 rfl)).trans ((show F32 2 1 = F31 2 1 from (eF32 2 1)))).trans ((show F31 2 1 = F29 2 1 from (eF31 2 1)))).trans ((show F29 2 1 = F_35 2 1 from (eF29 2 1)))).trans (ey35_2_1))) (y35_2_2) (((((((hS_c147 2 2 rfl).trans (hS_c121 2 2 rfl)).trans ((show F32 2 2 = F31 2 2 from (eF32 2 2)))).trans ((show F31 2 2 = F29 2 2 from (eF31 2 2)))).trans ((show F29 2 2 = F_35 2 2 from (eF29 2 2)))).trans (ey35_2_2))) (w35_3) ((funext (hA_c147 3 rfl)).trans ((funext (hA_c121 3 rfl)).trans (((show A32 3 = A31 3 from (eA32 3))).trans (((show A31 3 = A29 3 from (eA31 3))).trans (((show A29 3 = A_35 3 from (eA29 3))).trans (ew35_3)))))) (show inr (tc147_0) by omega) (show inr (z32) by omega) (show inr (u2_1) from q_38 h4) (show 0 ≤ (y35_2_1) ∧ (y35_2_1) ≤ (m35_3) ∧ (m35_3) ≤ 65536 from j35_5) (show 0 ≤ (u2_1) ∧ (u2_1) ≤ (y35_2_1) from q_3241 h4 j35_6) (show (z32) < 0 ∨ 1 ≤ (tc147_0) ∧ (tc147_0) ≤ (y35_2_1) - (u2_1) by omega) (fun σ74 D74ₚ N74ₚ F74ₚ A74ₚ c74 s74 Hₚ Oₚ hD74 hN74 hS74 hA74 pm74_1 m74_1 em74_1 y74_0_1 ey74_0_1 y74_0_2 ey74_0_2 w74_1 ew74_1 pz74_0 pz74_1 pz74_2 pz74_3 pz74_4 => ⟨rfl, ?_⟩))
                          refine v_backMc (c := c_35) (s := s_35) H oz_D4cls_19 oz_D4cls_27 Hₚ Oₚ hD74 oz_D4cls_20 (fun D74 N74 F74 A74 H Oₚ eD74 eN74 eF74 eA74 => ?_)
                          have O := OUT_trans O Oₚ
                          -- Row.copyBack
                          have cF74 : SF oz_D4clsl_5 F F74 := SF_trans (cF_c147) (SF_gluc (ι := oz_D4clsl_10) oz_D4cls_27 hS74 eF74 (by decide +kernel)) (any_sub (lₚ := [(2, 0), (2, 1), (2, 2)]) (by decide +kernel))
                          have mF74 := SFm_of cF74 oz_D4cls_21
                          have cA74 : SA oz_D4clsl_6 A A74 := SA_trans (cA_c147) (SA_gluc (ι := oz_D4clsl_10) oz_D4cls_27 hA74 eA74 (by decide +kernel)) (any_subA (lₚ := [3]) (by decide +kernel))
                          have mA74 := SAm_of cA74 oz_D4cls_22
                          have cD74 : SD oz_D4clsl_6 D D74 := SD_trans (cD_35) (SD_gluc (ι := oz_D4clsl_10) oz_D4cls_27 hD74 eD74 (by decide +kernel)) (any_subA (lₚ := [3]) (by decide +kernel))
                          have mD74 := SDm_of cD74 oz_D4cls_22
                          have cN74 : SD oz_D4clsl_6 N N74 := SD_trans (cN_35) (SD_gluc (ι := oz_D4clsl_10) oz_D4cls_27 hN74 eN74 (by decide +kernel)) (any_subA (lₚ := [3]) (by decide +kernel))
                          have mN74 := SDm_of cN74 oz_D4cls_22
                          have pf74_2_0 : F74 2 0 = (D74 3 : Int) := (eF74 2 0).trans (pm74_1.trans (congrArg (fun q : Nat => (q : Int)) (eD74 3).symm))
                          have r75 : (0 : Int) ≤ m74_1 ∧ m74_1 ≤ 1000000 := nleE (H.nle 3 (ltn len_V206_oz_D4cls rfl)) (show (N74 3 : Int) = m74_1 from (congrArg (fun q : Nat => (q : Int)) (eN74 3)).trans em74_1)
                          have r76 : (-2147483648 : Int) ≤ y74_0_1 ∧ y74_0_1 ≤ 2147483647 := rngE (show (-2147483648 : Int) ≤ F74 2 1 ∧ F74 2 1 ≤ 2147483647 from H.krg 2 1 (ltn len_V206_oz_D4cls rfl)) (show F74 2 1 = y74_0_1 from ((eF74 2 1).trans ey74_0_1))
                          have r77 : (0 : Int) ≤ y74_0_2 ∧ y74_0_2 ≤ 1 := rngE (show (0 : Int) ≤ F74 2 2 ∧ F74 2 2 ≤ 1 from H.krg 2 2 (ltn len_V206_oz_D4cls rfl)) (show F74 2 2 = y74_0_2 from ((eF74 2 2).trans ey74_0_2))
                          have hcb := pz74_4 (by omega)
                          have hsm1 : ∀ i, (0 : Int) ≤ i → i < (u2_1) → ((w74_1)) i = ((w3)) i := fun i x y => (pz74_2 i x (by omega)).trans (j35_s i x y)
                          have hbu := pz74_3
                          have : TYO (ub8 ((w1))) ((a2)) ((y7_0_7)) (q0) (((x35_6 + (1 + z29)))) (sc ((w74_1)) ((u2_1)) ((y74_0_1))) := ITO_s j35_o (TYs_c hTY (by omega) (by omega) (by omega) (by omega) (by omega) (by omega) (by rw [hCX, show (u2_1) = (u2_1) by omega]; exact hcb))
                          refine Ew_of (pcₚ := 294) (fun _ => x_goto rfl rfl) ?_
                          exact hc294  _ _ _ _ _ _ _ _ ((x35_6 + (1 + z29))) ((rk_o (rk2_o (lc147_0) rfl rfl) rfl rfl).trans (congrArg (fun q : Nat => some (Value.ref q)) (((show D74 0 = D_35 0 from (eD74 0)))).symm)) (rk_o (rk2_o (lc147_2) rfl rfl) rfl rfl) (rk_o (rk2_o (lc147_5) rfl rfl) rfl rfl) (rk_s) (rk_o (rk2_o (lc147_7) rfl rfl) rfl rfl) H O (SD_trans (SD_refl) (SD_gluc (ι := oz_D4clsl_10) oz_D4cls_27 hD74 eD74 (by decide +kernel)) (any_subA (lₚ := [3]) (by decide +kernel))) (SD_trans (SD_refl) (SD_gluc (ι := oz_D4clsl_10) oz_D4cls_27 hN74 eN74 (by decide +kernel)) (any_subA (lₚ := [3]) (by decide +kernel))) (SF_trans (SF_refl) (SF_gluc (ι := oz_D4clsl_10) oz_D4cls_27 hS74 eF74 (by decide +kernel)) (any_sub (lₚ := [(2, 0), (2, 1), (2, 2)]) (by decide +kernel))) (SA_trans (SA_refl) (SA_gluc (ι := oz_D4clsl_10) oz_D4cls_27 hA74 eA74 (by decide +kernel)) (any_subA (lₚ := [3]) (by decide +kernel))) (pf74_2_0) (m74_1) ((congrArg (fun q : Nat => (q : Int)) (eN74 3)).trans em74_1) (y74_0_1) (((eF74 2 1).trans ey74_0_1)) (y74_0_2) (((eF74 2 2).trans ey74_0_2)) (w74_1) ((eA74 3).trans ew74_1) (show inr ((x35_6 + (1 + z29))) from q_3237 b30 h3 j35_4 pz29_1) (show 0 ≤ ((x35_6 + (1 + z29))) ∧ ((x35_6 + (1 + z29))) ≤ (a2) from q_3243 b30 j35_4 pz29_1) (show 0 ≤ (y74_0_1) ∧ (y74_0_1) ≤ (m74_1) ∧ (m74_1) ≤ 65536 from pz74_0) (show (u2_1) ≤ (y74_0_1) ∧ (u2_1) = (u2_1) from q_3239 j35_6 pz32_1 pz74_1) (show (y74_0_1) - (u2_1) ≤ (y7_0_7) by omega) (show (y74_0_2) = 0 by omega) (show (x35_7) + 1 ≤ ((x35_6 + (1 + z29))) from q_3242 j35_9 pz29_1) (show TYO (ub8 ((w1))) ((a2)) ((y7_0_7)) (q0) (((x35_6 + (1 + z29)))) (sc ((w74_1)) ((u2_1)) ((y74_0_1))) by assumption) (hsm1)
                      · refine Ew_of (pcₚ := 209) (fun _ => x_aload_n rfl (rk2_o (lc147_0) rfl rfl)) ?_
                        refine Ew_of (pcₚ := 210) (fun _ => x_iconst rfl) ?_
                        refine Ew_of (pcₚ := 212) (fun _ => x_iload rfl (rk2_o (lc147_6) rfl rfl)) ?_
                        refine v_inv H (o := 0) rfl rfl rfl rfl rfl rfl (by rfl) (C203 (D := puc 0 D_35) (N := puc 0 N_35) (HW_subc H oz_D4cls_13 oz_D4cls_10) (y7_0_8) ((((((((hS_c147 0 8 rfl).trans (hS_c121 0 8 rfl)).trans ((show F32 0 8 = F31 0 8 from (eF32 0 8)))).trans ((show F31 0 8 = F29 0 8 from (eF31 0 8)))).trans ((show F29 0 8 = F_35 0 8 from (eF29 0 8)))).trans (hS_35 0 8 rfl)).trans ((eF7 0 8).trans ey7_0_8))) (show inr (5) from q_727) (show inr (x35_6) from j35_0) (fun z78 σ78 F78ₚ A78ₚ Hₚ Oₚ hS78 hA78 y78_0_8 ey78_0_8 pz78_0 pz78_1 pz78_2 => ⟨rfl, ?_⟩))
                        refine v_backc (c := c_35) (s := s_35) H oz_D4cls_13 oz_D4cls_10 Hₚ Oₚ (fun F78 A78 H Oₚ eF78 eA78 => ?_)
                        have O := OUT_trans O Oₚ
                        -- Tags.fail
                        have cF78 : SF oz_D4clsl_5 F F78 := SF_trans (cF_c147) (SF_gluc (ι := oz_D4clsl_4) oz_D4cls_10 hS78 eF78 (by decide +kernel)) (any_sub (lₚ := [(0, 8)]) (by decide +kernel))
                        have mF78 := SFm_of cF78 oz_D4cls_21
                        have cA78 : SA oz_D4clsl_6 A A78 := SA_trans (cA_c147) (SA_gluc (ι := oz_D4clsl_4) oz_D4cls_10 hA78 eA78 (by decide +kernel)) (any_subA (lₚ := []) (by decide +kernel))
                        have mA78 := SAm_of cA78 oz_D4cls_22
                        have r79 : (-2147483648 : Int) ≤ y78_0_8 ∧ y78_0_8 ≤ 2147483647 := rngE (show (-2147483648 : Int) ≤ F78 0 8 ∧ F78 0 8 ≤ 2147483647 from H.krg 0 8 (ltn len_V206_oz_D4cls rfl)) (show F78 0 8 = y78_0_8 from ((eF78 0 8).trans ey78_0_8))
                        have : IMP ((z78) ≠ 0) (TYB (ub8 ((w1))) ((a2)) ((a1)) ((a3)) ((z78), (y78_0_8), [])) := fun z => ⟨0, 0, _, _, hLQ, .inr ⟨rfl, ITO_e j35_o (TYt_5 hTY (by omega) (by omega) (by omega) (by omega) (by omega) (by omega))⟩⟩
                        have : IMP ((z78) = 0) (TYB (ub8 ((w1))) ((a2)) ((a1)) ((a3)) (0, (a2), sc ((w35_3)) ((u2_1)) ((y35_2_1)))) := fun z => absurd z (by omega)
                        exact w_ireturn rfl (k (z78) _ _ _ _ _ _ _ H O (cD_35) (cN_35) (cF78) (cA78) (((((((((show F78 2 0 = F_c147 2 0 from (eF78 2 0))).trans (hS_c147 2 0 rfl)).trans (hS_c121 2 0 rfl)).trans ((show F32 2 0 = F31 2 0 from (eF32 2 0)))).trans ((show F31 2 0 = F29 2 0 from (eF31 2 0)))).trans ((show F29 2 0 = F_35 2 0 from (eF29 2 0))))).trans (pm35_3)) (m35_3) (em35_3) (y78_0_8) (((eF78 0 8).trans ey78_0_8)) (y35_2_1) (((((((((show F78 2 1 = F_c147 2 1 from (eF78 2 1))).trans (hS_c147 2 1 rfl)).trans (hS_c121 2 1 rfl)).trans ((show F32 2 1 = F31 2 1 from (eF32 2 1)))).trans ((show F31 2 1 = F29 2 1 from (eF31 2 1)))).trans ((show F29 2 1 = F_35 2 1 from (eF29 2 1)))).trans (ey35_2_1))) (y35_2_2) (((((((((show F78 2 2 = F_c147 2 2 from (eF78 2 2))).trans (hS_c147 2 2 rfl)).trans (hS_c121 2 2 rfl)).trans ((show F32 2 2 = F31 2 2 from (eF32 2 2)))).trans ((show F31 2 2 = F29 2 2 from (eF31 2 2)))).trans ((show F29 2 2 = F_35 2 2 from (eF29 2 2)))).trans (ey35_2_2))) (w35_3) (((show A78 3 = A_c147 3 from (eA78 3))).trans ((funext (hA_c147 3 rfl)).trans ((funext (hA_c121 3 rfl)).trans (((show A32 3 = A31 3 from (eA32 3))).trans (((show A31 3 = A29 3 from (eA31 3))).trans (((show A29 3 = A_35 3 from (eA29 3))).trans (ew35_3))))))) (show inr (z78) from pz78_0) (show 0 ≤ (z78) ∧ (z78) ≤ 6 from q_3245 pz78_1) (show 0 ≤ (y35_2_1) ∧ (y35_2_1) ≤ (m35_3) ∧ (m35_3) ≤ 65536 from j35_5) (show (u2_1) ≤ (y35_2_1) from q_3227 j35_6) (show (y35_2_1) ≤ (u2_1) + a3 ∨ (y35_2_1) = (u2_1) from q_3226 b10 j35_7 pz7_2) (show (y35_2_2) = 0 from j35_8) (show IMP ((z78) ≠ 0) (TYB (ub8 ((w1))) (a2) (a1) (a3) ((z78), (y78_0_8), [])) by assumption) (show IMP ((z78) = 0) (TYB (ub8 ((w1))) (a2) (a1) (a3) (0, a2, sc ((w35_3)) ((u2_1)) ((y35_2_1)))) by assumption) (j35_s) (show (z78) ≠ 0 ∨ (y78_0_8) = a2 from q_3244 pz78_1))
                    · refine Ew_of (pcₚ := 179) (fun _ => x_aload_n rfl (rk2_o (lc147_0) rfl rfl)) ?_
                      refine Ew_of (pcₚ := 180) (fun _ => x_iconst rfl) ?_
                      refine Ew_of (pcₚ := 182) (fun _ => x_iload rfl (rk2_o (lc147_6) rfl rfl)) ?_
                      refine v_inv H (o := 0) rfl rfl rfl rfl rfl rfl (by rfl) (C203 (D := puc 0 D_35) (N := puc 0 N_35) (HW_subc H oz_D4cls_13 oz_D4cls_10) (y7_0_8) ((((((((hS_c147 0 8 rfl).trans (hS_c121 0 8 rfl)).trans ((show F32 0 8 = F31 0 8 from (eF32 0 8)))).trans ((show F31 0 8 = F29 0 8 from (eF31 0 8)))).trans ((show F29 0 8 = F_35 0 8 from (eF29 0 8)))).trans (hS_35 0 8 rfl)).trans ((eF7 0 8).trans ey7_0_8))) (show inr (4) from q_216) (show inr (x35_6) from j35_0) (fun z80 σ80 F80ₚ A80ₚ Hₚ Oₚ hS80 hA80 y80_0_8 ey80_0_8 pz80_0 pz80_1 pz80_2 => ⟨rfl, ?_⟩))
                      refine v_backc (c := c_35) (s := s_35) H oz_D4cls_13 oz_D4cls_10 Hₚ Oₚ (fun F80 A80 H Oₚ eF80 eA80 => ?_)
                      have O := OUT_trans O Oₚ
                      -- Tags.fail
                      have cF80 : SF oz_D4clsl_5 F F80 := SF_trans (cF_c147) (SF_gluc (ι := oz_D4clsl_4) oz_D4cls_10 hS80 eF80 (by decide +kernel)) (any_sub (lₚ := [(0, 8)]) (by decide +kernel))
                      have mF80 := SFm_of cF80 oz_D4cls_21
                      have cA80 : SA oz_D4clsl_6 A A80 := SA_trans (cA_c147) (SA_gluc (ι := oz_D4clsl_4) oz_D4cls_10 hA80 eA80 (by decide +kernel)) (any_subA (lₚ := []) (by decide +kernel))
                      have mA80 := SAm_of cA80 oz_D4cls_22
                      have r81 : (-2147483648 : Int) ≤ y80_0_8 ∧ y80_0_8 ≤ 2147483647 := rngE (show (-2147483648 : Int) ≤ F80 0 8 ∧ F80 0 8 ≤ 2147483647 from H.krg 0 8 (ltn len_V206_oz_D4cls rfl)) (show F80 0 8 = y80_0_8 from ((eF80 0 8).trans ey80_0_8))
                      have : IMP ((z80) ≠ 0) (TYB (ub8 ((w1))) ((a2)) ((a1)) ((a3)) ((z80), (y80_0_8), [])) := fun z => ⟨0, 0, _, _, hLQ, .inr ⟨rfl, ITO_e j35_o (TYt_4 hTY (by omega) (by omega) (by omega) (by omega) (by omega) (by omega))⟩⟩
                      have : IMP ((z80) = 0) (TYB (ub8 ((w1))) ((a2)) ((a1)) ((a3)) (0, (a2), sc ((w35_3)) ((u2_1)) ((y35_2_1)))) := fun z => absurd z (by omega)
                      exact w_ireturn rfl (k (z80) _ _ _ _ _ _ _ H O (cD_35) (cN_35) (cF80) (cA80) (((((((((show F80 2 0 = F_c147 2 0 from (eF80 2 0))).trans (hS_c147 2 0 rfl)).trans (hS_c121 2 0 rfl)).trans ((show F32 2 0 = F31 2 0 from (eF32 2 0)))).trans ((show F31 2 0 = F29 2 0 from (eF31 2 0)))).trans ((show F29 2 0 = F_35 2 0 from (eF29 2 0))))).trans (pm35_3)) (m35_3) (em35_3) (y80_0_8) (((eF80 0 8).trans ey80_0_8)) (y35_2_1) (((((((((show F80 2 1 = F_c147 2 1 from (eF80 2 1))).trans (hS_c147 2 1 rfl)).trans (hS_c121 2 1 rfl)).trans ((show F32 2 1 = F31 2 1 from (eF32 2 1)))).trans ((show F31 2 1 = F29 2 1 from (eF31 2 1)))).trans ((show F29 2 1 = F_35 2 1 from (eF29 2 1)))).trans (ey35_2_1))) (y35_2_2) (((((((((show F80 2 2 = F_c147 2 2 from (eF80 2 2))).trans (hS_c147 2 2 rfl)).trans (hS_c121 2 2 rfl)).trans ((show F32 2 2 = F31 2 2 from (eF32 2 2)))).trans ((show F31 2 2 = F29 2 2 from (eF31 2 2)))).trans ((show F29 2 2 = F_35 2 2 from (eF29 2 2)))).trans (ey35_2_2))) (w35_3) (((show A80 3 = A_c147 3 from (eA80 3))).trans ((funext (hA_c147 3 rfl)).trans ((funext (hA_c121 3 rfl)).trans (((show A32 3 = A31 3 from (eA32 3))).trans (((show A31 3 = A29 3 from (eA31 3))).trans (((show A29 3 = A_35 3 from (eA29 3))).trans (ew35_3))))))) (show inr (z80) from pz80_0) (show 0 ≤ (z80) ∧ (z80) ≤ 6 from q_3247 pz80_1) (show 0 ≤ (y35_2_1) ∧ (y35_2_1) ≤ (m35_3) ∧ (m35_3) ≤ 65536 from j35_5) (show (u2_1) ≤ (y35_2_1) from q_3227 j35_6) (show (y35_2_1) ≤ (u2_1) + a3 ∨ (y35_2_1) = (u2_1) from q_3226 b10 j35_7 pz7_2) (show (y35_2_2) = 0 from j35_8) (show IMP ((z80) ≠ 0) (TYB (ub8 ((w1))) (a2) (a1) (a3) ((z80), (y80_0_8), [])) by assumption) (show IMP ((z80) = 0) (TYB (ub8 ((w1))) (a2) (a1) (a3) (0, a2, sc ((w35_3)) ((u2_1)) ((y35_2_1)))) by assumption) (j35_s) (show (z80) ≠ 0 ∨ (y80_0_8) = a2 from q_3246 pz80_1))
              refine Ew_of (pcₚ := 125) (fun _ => x_iload rfl (rk_o (lc121_8) rfl rfl)) ?_
              refine Ew_of (pcₚ := 126) (fun _ => x_iconst rfl) ?_
              refine w_iandE rfl (show inr ((v28 % 256)) from q_461) (show inr (3) from q_246) (fun z82 gz82 gaz82 gbz82 gez82 => ?_)
              have hg4 := gez82
              have h4 : (z82) = ((v28 % 256)) % 4 := by rw [← andI_3]; exact hg4.symm
              refine Ew_of (pcₚ := 128) (fun _ => x_iconst rfl) ?_
              refine w_icmpne (t := 145) rfl rfl (show inr (z82) from gz82) (show inr (1) from q_135) (fun b83 => ?_) (fun b83 => ?_)
              · refine Ew_of (pcₚ := 147) (fun _ => x_lload rfl (rk_o (lc121_10) rfl rfl)) ?_
                have hed := TEd_eq (q8) (q10)
                have : (z31) = TEd (q8) (q10) := by omega
                exact hc147 (z31) _ _ _ _  (rk_o (lc121_0) rfl rfl) (rk_o (lc121_2) rfl rfl) (rk_o (lc121_5) rfl rfl) (rk_o (lc121_6) rfl rfl) (rk_o (lc121_7) rfl rfl) (rk_o (lc121_9) rfl rfl) (rk_o (lc121_12) rfl rfl) (rk_s) H O (SF_refl) (SA_refl)     (show inrJ (z31) from pz31_0) (show 0 ≤ (z31) ∧ (z31) ≤ 4294969343 from q_3248 hnb) (show (z31) = TEd (q8) (q10) by assumption)
              · refine Ew_of (pcₚ := 133) (fun _ => x_lload rfl (rk_o (lc121_10) rfl rfl)) ?_
                refine Ew_of (pcₚ := 135) (fun _ => x_iload rfl (rk_o (lc121_8) rfl rfl)) ?_
                refine Ew_of (pcₚ := 136) (fun _ => x_iconst rfl) ?_
                refine w_ishrK 5 32 (by decide) (by decide) rfl (show inr ((v28 % 256)) from q_461) (fun z84 gz84 dz84 => ?_)
                refine Ew_of (pcₚ := 139) (fun _ => x_bipush (z := 8) rfl (by decide)) ?_
                refine w_ishlK 8 256 (by decide) (by decide) rfl (fun z85 gz85 dz85 => ?_)
                refine w_i2l rfl (show inr (z85) by omega) ?_
                refine w_ladd rfl ?_
                refine Ew_of (pcₚ := 147) (fun _ => x_goto rfl rfl) ?_
                have hed := TEd_eq (q8) (q10)
                have : ((z31 + z85)) = TEd (q8) (q10) := by omega
                exact hc147 ((z31 + z85)) _ _ _ _  (rk_o (lc121_0) rfl rfl) (rk_o (lc121_2) rfl rfl) (rk_o (lc121_5) rfl rfl) (rk_o (lc121_6) rfl rfl) (rk_o (lc121_7) rfl rfl) (rk_o (lc121_9) rfl rfl) (rk_o (lc121_12) rfl rfl) (rk_s) H O (SF_refl) (SA_refl)     (show inrJ ((z31 + z85)) by omega) (show 0 ≤ ((z31 + z85)) ∧ ((z31 + z85)) ≤ 4294969343 by omega) (show ((z31 + z85)) = TEd (q8) (q10) by assumption)
            refine Ew_of (pcₚ := 111) (fun _ => x_iload rfl (rk2_o (rk2_o (rk_o (rk_s) rfl rfl) rfl rfl) rfl rfl)) ?_
            refine Ew_of (pcₚ := 112) (fun _ => x_iconst rfl) ?_
            refine w_iandE rfl (show inr ((v28 % 256)) from q_461) (show inr (3) from q_246) (fun z86 gz86 gaz86 gbz86 gez86 => ?_)
            have hg3 := gez86
            have h3 : (z86) = ((v28 % 256)) % 4 := by rw [← andI_3]; exact hg3.symm
            refine w_ifeq (t := 120) rfl rfl (show inr (z86) from gz86) (fun b87 => ?_) (fun b87 => ?_)
            · refine Ew_of (pcₚ := 121) (fun _ => x_iconst rfl) ?_
              exact hc121 (0) _ _ _ _  (rk2_o (rk2_o (rk_o (rk_o (l35_0) rfl rfl) rfl rfl) rfl rfl) rfl rfl) (rk2_o (rk2_o (rk_o (rk_o (l35_2) rfl rfl) rfl rfl) rfl rfl) rfl rfl) (rk2_o (rk2_o (rk_o (rk_o (l35_5) rfl rfl) rfl rfl) rfl rfl) rfl rfl) (rk2_o (rk2_o (rk_o (rk_o (l35_6) rfl rfl) rfl rfl) rfl rfl) rfl rfl) (rk2_o (rk2_o (rk_o (rk_o (l35_7) rfl rfl) rfl rfl) rfl rfl) rfl rfl) (rk2_o (rk2_o (rk_o (rk_s) rfl rfl) rfl rfl) rfl rfl) (rk2_o (rk2_o (rk_s) rfl rfl) rfl rfl) (rk2_o (rk2_s) rfl rfl) (rk2_s) H O (SF_refl) (SA_refl)     (show inr (0) from q_2) (show (0) = 1 ∧ ((v28 % 256)) % 4 ≠ 0 ∨ (0) = 0 ∧ ((v28 % 256)) % 4 = 0 from q_3249 b87 h3)
            · refine Ew_of (pcₚ := 117) (fun _ => x_iconst rfl) ?_
              refine Ew_of (pcₚ := 121) (fun _ => x_goto rfl rfl) ?_
              exact hc121 (1) _ _ _ _  (rk2_o (rk2_o (rk_o (rk_o (l35_0) rfl rfl) rfl rfl) rfl rfl) rfl rfl) (rk2_o (rk2_o (rk_o (rk_o (l35_2) rfl rfl) rfl rfl) rfl rfl) rfl rfl) (rk2_o (rk2_o (rk_o (rk_o (l35_5) rfl rfl) rfl rfl) rfl rfl) rfl rfl) (rk2_o (rk2_o (rk_o (rk_o (l35_6) rfl rfl) rfl rfl) rfl rfl) rfl rfl) (rk2_o (rk2_o (rk_o (rk_o (l35_7) rfl rfl) rfl rfl) rfl rfl) rfl rfl) (rk2_o (rk2_o (rk_o (rk_s) rfl rfl) rfl rfl) rfl rfl) (rk2_o (rk2_o (rk_s) rfl rfl) rfl rfl) (rk2_o (rk2_s) rfl rfl) (rk2_s) H O (SF_refl) (SA_refl)     (show inr (1) from q_135) (show (1) = 1 ∧ ((v28 % 256)) % 4 ≠ 0 ∨ (1) = 0 ∧ ((v28 % 256)) % 4 = 0 by omega)
          · refine Ew_of (pcₚ := 79) (fun _ => x_aload_n rfl (rk_o (rk_o (l35_0) rfl rfl) rfl rfl)) ?_
            refine Ew_of (pcₚ := 80) (fun _ => x_iconst rfl) ?_
            refine Ew_of (pcₚ := 81) (fun _ => x_iload_n rfl (rk_o (rk_o (l35_2) rfl rfl) rfl rfl)) ?_
            refine v_inv H (o := 0) rfl rfl rfl rfl rfl rfl (by rfl) (C203 (D := puc 0 D_35) (N := puc 0 N_35) (HW_subc H oz_D4cls_13 oz_D4cls_10) (y7_0_8) (((((show F29 0 8 = F_35 0 8 from (eF29 0 8))).trans (hS_35 0 8 rfl)).trans ((eF7 0 8).trans ey7_0_8))) (show inr (1) from q_135) (show inr (a2) from h1) (fun z88 σ88 F88ₚ A88ₚ Hₚ Oₚ hS88 hA88 y88_0_8 ey88_0_8 pz88_0 pz88_1 pz88_2 => ⟨rfl, ?_⟩))
            refine v_backc (c := c_35) (s := s_35) H oz_D4cls_13 oz_D4cls_10 Hₚ Oₚ (fun F88 A88 H Oₚ eF88 eA88 => ?_)
            have O := OUT_trans O Oₚ
            -- Tags.fail
            have cF88 : SF oz_D4clsl_5 F F88 := SF_trans (cF29) (SF_gluc (ι := oz_D4clsl_4) oz_D4cls_10 hS88 eF88 (by decide +kernel)) (any_sub (lₚ := [(0, 8)]) (by decide +kernel))
            have mF88 := SFm_of cF88 oz_D4cls_21
            have cA88 : SA oz_D4clsl_6 A A88 := SA_trans (cA29) (SA_gluc (ι := oz_D4clsl_4) oz_D4cls_10 hA88 eA88 (by decide +kernel)) (any_subA (lₚ := []) (by decide +kernel))
            have mA88 := SAm_of cA88 oz_D4cls_22
            have r89 : (-2147483648 : Int) ≤ y88_0_8 ∧ y88_0_8 ≤ 2147483647 := rngE (show (-2147483648 : Int) ≤ F88 0 8 ∧ F88 0 8 ≤ 2147483647 from H.krg 0 8 (ltn len_V206_oz_D4cls rfl)) (show F88 0 8 = y88_0_8 from ((eF88 0 8).trans ey88_0_8))
            have : IMP ((z88) ≠ 0) (TYB (ub8 ((w1))) ((a2)) ((a1)) ((a3)) ((z88), (y88_0_8), [])) := fun z => ⟨0, 0, _, _, hLQ, .inr ⟨rfl, ITO_e j35_o (TYt_1 htg hbh.symm (by omega) (by omega) (by omega) (by omega))⟩⟩
            have : IMP ((z88) = 0) (TYB (ub8 ((w1))) ((a2)) ((a1)) ((a3)) (0, (a2), sc ((w35_3)) ((u2_1)) ((y35_2_1)))) := fun z => absurd z (by omega)
            exact w_ireturn rfl (k (z88) _ _ _ _ _ _ _ H O (cD_35) (cN_35) (cF88) (cA88) (((((show F88 2 0 = F29 2 0 from (eF88 2 0))).trans ((show F29 2 0 = F_35 2 0 from (eF29 2 0))))).trans (pm35_3)) (m35_3) (em35_3) (y88_0_8) (((eF88 0 8).trans ey88_0_8)) (y35_2_1) (((((show F88 2 1 = F29 2 1 from (eF88 2 1))).trans ((show F29 2 1 = F_35 2 1 from (eF29 2 1)))).trans (ey35_2_1))) (y35_2_2) (((((show F88 2 2 = F29 2 2 from (eF88 2 2))).trans ((show F29 2 2 = F_35 2 2 from (eF29 2 2)))).trans (ey35_2_2))) (w35_3) (((show A88 3 = A29 3 from (eA88 3))).trans (((show A29 3 = A_35 3 from (eA29 3))).trans (ew35_3))) (show inr (z88) from pz88_0) (show 0 ≤ (z88) ∧ (z88) ≤ 6 from q_3240 pz88_1) (show 0 ≤ (y35_2_1) ∧ (y35_2_1) ≤ (m35_3) ∧ (m35_3) ≤ 65536 from j35_5) (show (u2_1) ≤ (y35_2_1) from q_3227 j35_6) (show (y35_2_1) ≤ (u2_1) + a3 ∨ (y35_2_1) = (u2_1) from q_3226 b10 j35_7 pz7_2) (show (y35_2_2) = 0 from j35_8) (show IMP ((z88) ≠ 0) (TYB (ub8 ((w1))) (a2) (a1) (a3) ((z88), (y88_0_8), [])) by assumption) (show IMP ((z88) = 0) (TYB (ub8 ((w1))) (a2) (a1) (a3) (0, a2, sc ((w35_3)) ((u2_1)) ((y35_2_1)))) by assumption) (j35_s) (show (z88) ≠ 0 ∨ (y88_0_8) = a2 from q_3108 pz88_1))
  · refine Ew_of (pcₚ := 16) (fun _ => x_iload rfl rk_s) ?_
    have : IMP ((z7) ≠ 0) (TYB (ub8 ((w1))) ((a2)) ((a1)) ((a3)) ((z7), (y7_0_8), [])) := fun z => ⟨_, _, _, _, hLf z, .inl ⟨z, rfl⟩⟩
    have : IMP ((z7) = 0) (TYB (ub8 ((w1))) ((a2)) ((a1)) ((a3)) (0, (a2), sc ((w3)) ((u2_1)) ((u2_1)))) := fun z => absurd z (by omega)
    have : ∀ i, (0 : Int) ≤ i → i < (u2_1) → ((w3)) i = ((w3)) i := fun i x y => rfl
    exact w_ireturn rfl (k (z7) _ _ _ _ _ _ _ H O (SD_refl) (SD_refl) (cF7) (cA7) ((((show F7 2 0 = F 2 0 from (eF7 2 0)))).trans (pf3)) (n3) (en3) (y7_0_8) (((eF7 0 8).trans ey7_0_8)) (u2_1) ((((show F7 2 1 = F 2 1 from (eF7 2 1))).trans (eu2_1))) (u2_2) ((((show F7 2 2 = F 2 2 from (eF7 2 2))).trans (eu2_2))) (w3) (((show A7 3 = A 3 from (eA7 3))).trans (ew3)) (show inr (z7) from pz7_0) (show 0 ≤ (z7) ∧ (z7) ≤ 6 from q_3252 pz7_1) (show 0 ≤ (u2_1) ∧ (u2_1) ≤ (n3) ∧ (n3) ≤ 65536 from h4) (show (u2_1) ≤ (u2_1) from q_43) (show (u2_1) ≤ (u2_1) + a3 ∨ (u2_1) = (u2_1) from q_3251) (show (u2_2) = 0 from q_3218 h6) (show IMP ((z7) ≠ 0) (TYB (ub8 ((w1))) (a2) (a1) (a3) ((z7), (y7_0_8), [])) by assumption) (show IMP ((z7) = 0) (TYB (ub8 ((w1))) (a2) (a1) (a3) (0, a2, sc ((w3)) ((u2_1)) ((u2_1)))) by assumption) (show ∀ i, (0 : Int) ≤ i → i < (u2_1) → ((w3)) i = ((w3)) i by assumption) (show (z7) ≠ 0 ∨ (y7_0_8) = a2 from q_3250 b10))
abbrev V205_Row_Row : vV := [(0, 10, [(4, 0), (4, 0), (4, 0), (4, 0), (0, 0), (4, 0), (0, 0), (2, 0), (0, 0)]), (0, 7, [(4, 0), (0, 0), (1, 0), (0, 0), (0, 0)]), (0, 7, [(4, 0), (0, 0), (1, 0), (0, 0), (0, 0)]), (1, 0, []), (1, 0, [])]
theorem len_V205_Row_Row_oz_D4cls : (V205_Row_Row).length = 5 := by decide +kernel
theorem oz_D4cls_29 : vsub V205_Row_Row V204_Row_Row [0, 1, 2, 3] = true := by decide +kernel
theorem oz_D4cls_30 : vsub V205_Row_Row V206 [0, 3, 2, 4] = true := by decide +kernel
theorem oz_D4cls_31 : vmov V205_Row_Row [0, 3, 2, 4] [3] = true := by decide +kernel
def oz_D4clsl_11 : List (Nat × Nat) := [(0, 3), (0, 4), (0, 5), (0, 6), (0, 7), (0, 8), (2, 0), (2, 1), (2, 2)]
theorem oz_D4cls_32 : (oz_D4clsl_11).all (fun p => !tbz 129127208515966861816 (Nat.add (Nat.mul 32 p.1) p.2)) = true := by decide +kernel
def oz_D4clsl_12 : List Nat := [4]
theorem oz_D4cls_33 : (oz_D4clsl_12).all (fun p => !tbz 16 p) = true := by decide +kernel
def oz_D4clsl_13 : List Nat := [0, 1, 2, 3]
theorem oz_D4cls_34 : okc oz_D4clsl_13 403177984 = true := by decide +kernel
def oz_D4clsl_14 : List Nat := [0, 3, 2, 4]
theorem oz_D4cls_35 : okc oz_D4clsl_14 537396736 = true := by decide +kernel

theorem C205_Row_Row {σE : rS} {D N : Nat → Nat} {F : hF} {A : hA} {d c s : Nat} {Q : wQ} (H : HW V205_Row_Row σE D N F A) {a3 : Int} (pf3 : F 1 0 = (D 3 : Int)) (pf4 : F 2 0 = (D 4 : Int)) (n3 : Int) (en3 : (N 3 : Int) = n3) (n4 : Int) (en4 : (N 4 : Int) = n4) (u0_8 : Int) (eu0_8 : F 0 8 = u0_8) (u1_1 : Int) (eu1_1 : F 1 1 = u1_1) (u2_1 : Int) (eu2_1 : F 2 1 = u2_1) (u2_2 : Int) (eu2_2 : F 2 2 = u2_2) (w3 : Int → Int) (ew3 : A 3 = w3) (w4 : Int → Int) (ew4 : A 4 = w4) (h0 : inr (a3)) (h1 : 0 ≤ (u1_1) ∧ (u1_1) ≤ (n3) ∧ (n3) ≤ 65536) (h2 : 0 ≤ (u2_1) ∧ (u2_1) ≤ (n4) ∧ (n4) ≤ 65536) (h3 : 0 ≤ (a3) ∧ (a3) ≤ 65536) (h4 : (u2_1) = 0 ∧ (u2_2) = 0) (k : ∀ (z : Int) (σ : rS) (Dₚ Nₚ : Nat → Nat) (Fₚ : hF) (Aₚ : hA) (cₚ sₚ : Nat), HW V205_Row_Row σ Dₚ Nₚ Fₚ Aₚ → OUT (V205_Row_Row).length D N σE c s Dₚ Nₚ σ cₚ sₚ → SD [4] D Dₚ → SD [4] N Nₚ → SF [(0, 3), (0, 4), (0, 5), (0, 6), (0, 7), (0, 8), (2, 0), (2, 1), (2, 2)] F Fₚ → SA [4] A Aₚ → Fₚ 2 0 = (Dₚ 4 : Int) → ∀ m4 : Int, (Nₚ 4 : Int) = m4 → ∀ y0_8 : Int, Fₚ 0 8 = y0_8 → ∀ y2_1 : Int, Fₚ 2 1 = y2_1 → ∀ y2_2 : Int, Fₚ 2 2 = y2_2 → ∀ v4 : Int → Int, Aₚ 4 = v4 → (inr (z)) → (0 ≤ (z) ∧ (z) ≤ 6) → (0 ≤ (y2_1) ∧ (y2_1) ≤ (m4) ∧ (m4) ≤ 65536) → ((y2_2) = 0) → (IMP ((z) ≠ 0) (TYB (ub8 ((w3))) ((u1_1)) 0 ((a3)) ((z), (y0_8), []))) → (IMP ((z) = 0) (TYB (ub8 ((w3))) ((u1_1)) 0 ((a3)) (0, (u1_1), sc ((v4)) 0 ((y2_1))))) → ((z) ≠ 0 ∨ (y0_8) = (u1_1)) → Q (some (I z)) σ cₚ sₚ) : Ew 205 (d + 4) 0 (rargs 0 [.ref (D 0), .ref (D 1), .ref (D 2), I a3]) [] σE c s Q := by
  have O := OUT_refl (n := (V205_Row_Row).length) (D := D) (N := N) (σ := σE) (c := c) (s := s)
  have HE := H
  have r1 : (-2147483648 : Int) ≤ u0_8 ∧ u0_8 ≤ 2147483647 := rngE (show (-2147483648 : Int) ≤ F 0 8 ∧ F 0 8 ≤ 2147483647 from H.krg 0 8 (ltn len_V205_Row_Row_oz_D4cls rfl)) (show F 0 8 = u0_8 from (eu0_8))
  have r2 : (-2147483648 : Int) ≤ u1_1 ∧ u1_1 ≤ 2147483647 := rngE (show (-2147483648 : Int) ≤ F 1 1 ∧ F 1 1 ≤ 2147483647 from H.krg 1 1 (ltn len_V205_Row_Row_oz_D4cls rfl)) (show F 1 1 = u1_1 from (eu1_1))
  have r3 : (-2147483648 : Int) ≤ u2_1 ∧ u2_1 ≤ 2147483647 := rngE (show (-2147483648 : Int) ≤ F 2 1 ∧ F 2 1 ≤ 2147483647 from H.krg 2 1 (ltn len_V205_Row_Row_oz_D4cls rfl)) (show F 2 1 = u2_1 from (eu2_1))
  have r4 : (0 : Int) ≤ u2_2 ∧ u2_2 ≤ 1 := rngE (show (0 : Int) ≤ F 2 2 ∧ F 2 2 ≤ 1 from H.krg 2 2 (ltn len_V205_Row_Row_oz_D4cls rfl)) (show F 2 2 = u2_2 from (eu2_2))
  have r5 : (0 : Int) ≤ n3 ∧ n3 ≤ 1000000 := nleE (H.nle 3 (ltn len_V205_Row_Row_oz_D4cls rfl)) (show (N 3 : Int) = n3 from en3)
  have r6 : (0 : Int) ≤ n4 ∧ n4 ≤ 1000000 := nleE (H.nle 4 (ltn len_V205_Row_Row_oz_D4cls rfl)) (show (N 4 : Int) = n4 from en4)
  refine Ew_of (pcₚ := 1) (fun _ => x_aload_n rfl rfl) ?_
  refine Ew_of (pcₚ := 2) (fun _ => x_aload_n rfl rfl) ?_
  refine Ew_of (pcₚ := 3) (fun _ => x_aload_n rfl rfl) ?_
  refine Ew_of (pcₚ := 4) (fun _ => x_iload_n rfl rfl) ?_
  have r7 : (-2147483648 : Int) ≤ F 0 4 ∧ F 0 4 ≤ 2147483647 := H.krg 0 4 (ltn len_V205_Row_Row_oz_D4cls rfl)
  have r8 : (-2147483648 : Int) ≤ F 0 6 ∧ F 0 6 ≤ 2147483647 := H.krg 0 6 (ltn len_V205_Row_Row_oz_D4cls rfl)
  refine v_inv H (o := 0) rfl rfl rfl rfl rfl rfl (by rfl) (C204_Row_Row (D := puc 403177984 D) (N := puc 403177984 N) (HW_subc H oz_D4cls_29 oz_D4cls_34) (pf3) (n3) (en3) (F 0 4) (rfl) (F 0 6) (rfl) (u0_8) ((eu0_8)) (u1_1) ((eu1_1)) (show inr (a3) from h0) (fun σ9 F9ₚ A9ₚ Hₚ Oₚ hS9 hA9 y9_0_4 ey9_0_4 y9_0_6 ey9_0_6 y9_0_8 ey9_0_8 pq9_0 pq9_1 pz9_0 => ⟨rfl, ?_⟩))
  refine v_backc (c := c) (s := s) H oz_D4cls_29 oz_D4cls_34 Hₚ Oₚ (fun F9 A9 H Oₚ eF9 eA9 => ?_)
  have O := OUT_trans O Oₚ
  -- Tags.begin
  have cF9 : SF oz_D4clsl_11 F F9 := SF_trans (SF_refl) (SF_gluc (ι := oz_D4clsl_13) oz_D4cls_34 hS9 eF9 (by decide +kernel)) (any_sub (lₚ := [(0, 3), (0, 4), (0, 5), (0, 6), (0, 8)]) (by decide +kernel))
  have mF9 := SFm_of cF9 oz_D4cls_32
  have cA9 : SA oz_D4clsl_12 A A9 := SA_trans (SA_refl) (SA_gluc (ι := oz_D4clsl_13) oz_D4cls_34 hA9 eA9 (by decide +kernel)) (any_subA (lₚ := []) (by decide +kernel))
  have mA9 := SAm_of cA9 oz_D4cls_33
  have pl9_0 : F9 0 3 = (D 3 : Int) := (eF9 0 3).trans (pq9_0)
  have pl9_1 : F9 0 5 = (D 2 : Int) := (eF9 0 5).trans (pq9_1)
  have r10 : (-2147483648 : Int) ≤ y9_0_4 ∧ y9_0_4 ≤ 2147483647 := rngE (show (-2147483648 : Int) ≤ F9 0 4 ∧ F9 0 4 ≤ 2147483647 from H.krg 0 4 (ltn len_V205_Row_Row_oz_D4cls rfl)) (show F9 0 4 = y9_0_4 from ((eF9 0 4).trans ey9_0_4))
  have r11 : (-2147483648 : Int) ≤ y9_0_6 ∧ y9_0_6 ≤ 2147483647 := rngE (show (-2147483648 : Int) ≤ F9 0 6 ∧ F9 0 6 ≤ 2147483647 from H.krg 0 6 (ltn len_V205_Row_Row_oz_D4cls rfl)) (show F9 0 6 = y9_0_6 from ((eF9 0 6).trans ey9_0_6))
  have r12 : (-2147483648 : Int) ≤ y9_0_8 ∧ y9_0_8 ≤ 2147483647 := rngE (show (-2147483648 : Int) ≤ F9 0 8 ∧ F9 0 8 ≤ 2147483647 from H.krg 0 8 (ltn len_V205_Row_Row_oz_D4cls rfl)) (show F9 0 8 = y9_0_8 from ((eF9 0 8).trans ey9_0_8))
  refine Ew_of (pcₚ := 8) (fun _ => x_aload_n rfl rfl) ?_
  refine Ew_of (pcₚ := 9) (fun _ => x_iconst rfl) ?_
  refine Ew_of (pcₚ := 10) (fun _ => x_aload_n rfl rfl) ?_
  refine v_g H (o := 0) (v := I (y9_0_4)) rfl rfl rfl rfl rfl (congrArg (fun z : Int => I z) (((eF9 0 4).trans ey9_0_4) : F9 0 4 = y9_0_4)) ?_
  refine Ew_of (pcₚ := 14) (fun _ => x_aload_n rfl rfl) ?_
  refine v_g H (o := 0) (v := I (y9_0_6)) rfl rfl rfl rfl rfl (congrArg (fun z : Int => I z) (((eF9 0 6).trans ey9_0_6) : F9 0 6 = y9_0_6)) ?_
  refine v_inv H (o := 0) rfl rfl rfl rfl rfl rfl (by rfl) (C206 (D := puc 537396736 D) (N := puc 537396736 N) (HW_subc H oz_D4cls_30 oz_D4cls_35) (pl9_0) (pl9_1) ((((show F9 2 0 = F 2 0 from (eF9 2 0).trans (hS9 2 0 rfl)))).trans (pf4)) (n3) (en3) (n4) (en4) (y9_0_8) (((eF9 0 8).trans ey9_0_8)) (u2_1) ((((show F9 2 1 = F 2 1 from (eF9 2 1).trans (hS9 2 1 rfl))).trans (eu2_1))) (u2_2) ((((show F9 2 2 = F 2 2 from (eF9 2 2).trans (hS9 2 2 rfl))).trans (eu2_2))) (w3) ((funext (mA9 3 rfl)).trans (ew3)) (w4) (((show A9 4 = A 4 from (eA9 4))).trans (ew4)) (show inr (0) from q_2) (show inr (y9_0_4) from q_18 r10) (show inr (y9_0_6) from q_18 r11) (show 0 ≤ (0) ∧ (0) ≤ (y9_0_4) ∧ (y9_0_4) ≤ (n3) ∧ (n3) ≤ 65536 from q_3144 h1 pz9_0) (show 0 ≤ (u2_1) ∧ (u2_1) ≤ (n4) ∧ (n4) ≤ 65536 from h2) (show (y9_0_6) ≤ 65536 from q_3254 h3 pz9_0) (show (u2_2) = 0 ∧ (u2_1) + (y9_0_6) ≤ 65536 from q_3253 h3 h4 pz9_0) (fun z13 σ13 D13ₚ N13ₚ F13ₚ A13ₚ c13 s13 Hₚ Oₚ hD13 hN13 hS13 hA13 pm13_3 m13_3 em13_3 y13_0_8 ey13_0_8 y13_2_1 ey13_2_1 y13_2_2 ey13_2_2 w13_3 ew13_3 pz13_0 pz13_1 pz13_2 pz13_3 pz13_4 pz13_5 pz13_6 pz13_7 pz13_8 pz13_9 => ⟨rfl, ?_⟩))
  refine v_backMc (c := c) (s := s) H oz_D4cls_30 oz_D4cls_35 Hₚ Oₚ hD13 oz_D4cls_31 (fun D13 N13 F13 A13 H Oₚ eD13 eN13 eF13 eA13 => ?_)
  have O := OUT_trans O Oₚ
  -- Tags.unpackBlock
  have cF13 : SF oz_D4clsl_11 F F13 := SF_trans (cF9) (SF_gluc (ι := oz_D4clsl_14) oz_D4cls_35 hS13 eF13 (by decide +kernel)) (any_sub (lₚ := [(0, 7), (0, 8), (2, 0), (2, 1), (2, 2)]) (by decide +kernel))
  have mF13 := SFm_of cF13 oz_D4cls_32
  have cA13 : SA oz_D4clsl_12 A A13 := SA_trans (cA9) (SA_gluc (ι := oz_D4clsl_14) oz_D4cls_35 hA13 eA13 (by decide +kernel)) (any_subA (lₚ := [4]) (by decide +kernel))
  have mA13 := SAm_of cA13 oz_D4cls_33
  have cD13 : SD oz_D4clsl_12 D D13 := SD_trans (SD_refl) (SD_gluc (ι := oz_D4clsl_14) oz_D4cls_35 hD13 eD13 (by decide +kernel)) (any_subA (lₚ := [4]) (by decide +kernel))
  have mD13 := SDm_of cD13 oz_D4cls_33
  have cN13 : SD oz_D4clsl_12 N N13 := SD_trans (SD_refl) (SD_gluc (ι := oz_D4clsl_14) oz_D4cls_35 hN13 eN13 (by decide +kernel)) (any_subA (lₚ := [4]) (by decide +kernel))
  have mN13 := SDm_of cN13 oz_D4cls_33
  have pf13_0_3 : F13 0 3 = (D13 3 : Int) := ((show F13 0 3 = F9 0 3 from (eF13 0 3).trans (hS13 0 3 rfl))).trans ((pl9_0).trans (congrArg (fun q : Nat => (q : Int)) ((show D13 3 = D 3 from (eD13 3).trans (hD13 1 rfl))).symm))
  have pf13_0_5 : F13 0 5 = (D13 2 : Int) := ((show F13 0 5 = F9 0 5 from (eF13 0 5).trans (hS13 0 5 rfl))).trans ((pl9_1).trans (congrArg (fun q : Nat => (q : Int)) ((show D13 2 = D 2 from (eD13 2).trans (hD13 2 rfl))).symm))
  have pf13_2_0 : F13 2 0 = (D13 4 : Int) := (eF13 2 0).trans (pm13_3.trans (congrArg (fun q : Nat => (q : Int)) (eD13 4).symm))
  have r14 : (0 : Int) ≤ m13_3 ∧ m13_3 ≤ 1000000 := nleE (H.nle 4 (ltn len_V205_Row_Row_oz_D4cls rfl)) (show (N13 4 : Int) = m13_3 from (congrArg (fun q : Nat => (q : Int)) (eN13 4)).trans em13_3)
  have r15 : (-2147483648 : Int) ≤ y13_0_8 ∧ y13_0_8 ≤ 2147483647 := rngE (show (-2147483648 : Int) ≤ F13 0 8 ∧ F13 0 8 ≤ 2147483647 from H.krg 0 8 (ltn len_V205_Row_Row_oz_D4cls rfl)) (show F13 0 8 = y13_0_8 from ((eF13 0 8).trans ey13_0_8))
  have r16 : (-2147483648 : Int) ≤ y13_2_1 ∧ y13_2_1 ≤ 2147483647 := rngE (show (-2147483648 : Int) ≤ F13 2 1 ∧ F13 2 1 ≤ 2147483647 from H.krg 2 1 (ltn len_V205_Row_Row_oz_D4cls rfl)) (show F13 2 1 = y13_2_1 from ((eF13 2 1).trans ey13_2_1))
  have r17 : (0 : Int) ≤ y13_2_2 ∧ y13_2_2 ≤ 1 := rngE (show (0 : Int) ≤ F13 2 2 ∧ F13 2 2 ≤ 1 from H.krg 2 2 (ltn len_V205_Row_Row_oz_D4cls rfl)) (show F13 2 2 = y13_2_2 from ((eF13 2 2).trans ey13_2_2))
  have : IMP ((z13) ≠ 0) (TYB (ub8 ((w3))) ((u1_1)) 0 ((a3)) ((z13), (y13_0_8), [])) := fun z => by have h := pz13_6 z; rw [pz9_0.1, pz9_0.2.1] at h; exact h
  have : IMP ((z13) = 0) (TYB (ub8 ((w3))) ((u1_1)) 0 ((a3)) (0, (u1_1), sc ((w13_3)) 0 ((y13_2_1)))) := fun z => by have h := pz13_7 z; rw [pz9_0.1, pz9_0.2.1, show (u2_1) = 0 by omega] at h; exact h
  exact w_ireturn rfl (k (z13) _ _ _ _ _ _ _ H O (cD13) (cN13) (cF13) (cA13) (pf13_2_0) (m13_3) ((congrArg (fun q : Nat => (q : Int)) (eN13 4)).trans em13_3) (y13_0_8) (((eF13 0 8).trans ey13_0_8)) (y13_2_1) (((eF13 2 1).trans ey13_2_1)) (y13_2_2) (((eF13 2 2).trans ey13_2_2)) (w13_3) ((eA13 4).trans ew13_3) (show inr (z13) from pz13_0) (show 0 ≤ (z13) ∧ (z13) ≤ 6 from pz13_1) (show 0 ≤ (y13_2_1) ∧ (y13_2_1) ≤ (m13_3) ∧ (m13_3) ≤ 65536 from pz13_2) (show (y13_2_2) = 0 from pz13_5) (show IMP ((z13) ≠ 0) (TYB (ub8 ((w3))) ((u1_1)) 0 (a3) ((z13), (y13_0_8), [])) by assumption) (show IMP ((z13) = 0) (TYB (ub8 ((w3))) ((u1_1)) 0 (a3) (0, (u1_1), sc ((w13_3)) 0 ((y13_2_1)))) by assumption) (show (z13) ≠ 0 ∨ (y13_0_8) = (u1_1) by omega))

