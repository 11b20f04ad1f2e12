abbrev V203 : vV := [(0, 10, [(4, 0), (4, 0), (4, 0), (4, 0), (0, 0), (4, 0), (0, 0), (2, 0), (0, 0)])]
/-- Tags.fail: this -/
theorem C203 {σE : rS} {D N : Nat → Nat} {F : hF} {A : hA} {d c s : Nat} {Q : wQ} (H : HW V203 σE D N F A) {a1 a2 : Int} (u0_8 : Int) (eu0_8 : F 0 8 = u0_8) (h0 : inr (a1)) (h1 : inr (a2)) (k : ∀ (z : Int) (σ : rS) (F' : hF) (A' : hA), HW V203 σ D N F' A' → OUT (V203).length D N σE c s D N σ c s → SF [(0, 8)] F F' → SA [] A A' → ∀ y0_8 : Int, F' 0 8 = y0_8 → (inr (z)) → ((z) = (a1)) → ((y0_8) = (a2)) → Q (some (I z)) σ c s) : Ew 203 (d + 0) 0 (rargs 0 [.ref (D 0), I a1, I a2]) [] σE c s Q := by
  have O := OUT_refl (n := (V203).length) (D := D) (N := N) (σ := σE) (c := c) (s := s)
  have HE := H
  have r1 : (-2147483648 : Int) ≤ u0_8 ∧ u0_8 ≤ 2147483647 := by have h1 : (-2147483648 : Int) ≤ F 0 8 ∧ F 0 8 ≤ 2147483647 := H.krg 0 8 (by decide); rw [show F 0 8 = u0_8 from (eu0_8)] at h1; exact h1
  refine Ew_of (pc' := 1) (fun _ => x_aload_n rfl rfl) ?_
  refine Ew_of (pc' := 2) (fun _ => x_iload_n rfl rfl) ?_
  refine v_p H (o := 0) (z := a2) (v := I (a2)) rfl rfl rfl rfl rfl rfl rfl rfl (show (-2147483648 : Int) ≤ a2 ∧ a2 ≤ 2147483647 by omega) (fun σ H O' => ?_)
  have O := OUT_trans O O'
  refine Ew_of (pc' := 6) (fun _ => x_iload_n rfl rfl) ?_
  exact w_ireturn rfl (k (a1) _ _ _ H O (SF_upd (SF_refl) rfl) (SA_refl) (a2) (rfl) (show inr (a1) by omega) (show (a1) = a1 by omega) (show (a2) = a2 by omega))
abbrev V204_Row_Row : vV := [(0, 10, [(4, 0), (4, 0), (4, 0), (4, 0), (0, 0), (4, 0), (0, 0), (2, 0), (0, 0)]), (0, 7, [(4, 0), (0, 0), (1, 0), (0, 0), (0, 0)]), (0, 7, [(4, 0), (0, 0), (1, 0), (0, 0), (0, 0)]), (1, 0, [])]
/-- Tags.begin: this, #1, #2, #1.bytes -/
theorem C204_Row_Row {σE : rS} {D N : Nat → Nat} {F : hF} {A : hA} {d c s : Nat} {Q : wQ} (H : HW V204_Row_Row σE D N F A) {a3 : Int} (pf3 : F 1 0 = (D 3 : Int)) (n3 : Int) (en3 : (N 3 : Int) = n3) (u0_4 : Int) (eu0_4 : F 0 4 = u0_4) (u0_6 : Int) (eu0_6 : F 0 6 = u0_6) (u0_8 : Int) (eu0_8 : F 0 8 = u0_8) (u1_1 : Int) (eu1_1 : F 1 1 = u1_1) (h0 : inr (a3)) (k : ∀ (σ : rS) (F' : hF) (A' : hA), HW V204_Row_Row σ D N F' A' → OUT (V204_Row_Row).length D N σE c s D N σ c s → SF [(0, 3), (0, 4), (0, 5), (0, 6), (0, 8)] F F' → SA [] A A' → ∀ y0_4 : Int, F' 0 4 = y0_4 → ∀ y0_6 : Int, F' 0 6 = y0_6 → ∀ y0_8 : Int, F' 0 8 = y0_8 → F' 0 3 = (D 3 : Int) → F' 0 5 = (D 2 : Int) → ((y0_4) = (u1_1) ∧ (y0_6) = (a3) ∧ (y0_8) = (u1_1)) → Q none σ c s) : Ew 204 (d + 0) 0 (rargs 0 [.ref (D 0), .ref (D 1), .ref (D 2), I a3]) [] σE c s Q := by
  have O := OUT_refl (n := (V204_Row_Row).length) (D := D) (N := N) (σ := σE) (c := c) (s := s)
  have HE := H
  have r1 : (-2147483648 : Int) ≤ u0_4 ∧ u0_4 ≤ 2147483647 := by have h1 : (-2147483648 : Int) ≤ F 0 4 ∧ F 0 4 ≤ 2147483647 := H.krg 0 4 (by decide); rw [show F 0 4 = u0_4 from (eu0_4)] at h1; exact h1
  have r2 : (-2147483648 : Int) ≤ u0_6 ∧ u0_6 ≤ 2147483647 := by have h1 : (-2147483648 : Int) ≤ F 0 6 ∧ F 0 6 ≤ 2147483647 := H.krg 0 6 (by decide); rw [show F 0 6 = u0_6 from (eu0_6)] at h1; exact h1
  have r3 : (-2147483648 : Int) ≤ u0_8 ∧ u0_8 ≤ 2147483647 := by have h1 : (-2147483648 : Int) ≤ F 0 8 ∧ F 0 8 ≤ 2147483647 := H.krg 0 8 (by decide); rw [show F 0 8 = u0_8 from (eu0_8)] at h1; exact h1
  have r4 : (-2147483648 : Int) ≤ u1_1 ∧ u1_1 ≤ 2147483647 := by have h1 : (-2147483648 : Int) ≤ F 1 1 ∧ F 1 1 ≤ 2147483647 := H.krg 1 1 (by decide); rw [show F 1 1 = u1_1 from (eu1_1)] at h1; exact h1
  have r5 : (0 : Int) ≤ n3 ∧ n3 ≤ 1000000 := by have h1 := H.nle 3 (by decide); have h2 : (N 3 : Int) = n3 := en3; omega
  refine Ew_of (pc' := 1) (fun _ => x_aload_n rfl rfl) ?_
  refine Ew_of (pc' := 2) (fun _ => x_aload_n rfl rfl) ?_
  refine v_g H (o := 1) (v := .ref (D 3)) rfl rfl rfl rfl rfl (vrf (pf3)) ?_
  refine v_p H (o := 0) (z := ((D 3 : Nat) : Int)) (v := .ref (D 3)) rfl rfl rfl rfl rfl rfl (vrf rfl) rfl (show (-1 : Int) ≤ ((D 3 : Nat) : Int) by omega) (fun σ H O' => ?_)
  have O := OUT_trans O O'
  refine Ew_of (pc' := 9) (fun _ => x_aload_n rfl rfl) ?_
  refine Ew_of (pc' := 10) (fun _ => x_aload_n rfl rfl) ?_
  refine v_g H (o := 1) (v := I (u1_1)) rfl rfl rfl rfl rfl (congrArg (fun z : Int => I z) ((eu1_1) : (updF F 0 3 ((D 3 : Nat) : Int)) 1 1 = u1_1)) ?_
  refine v_p H (o := 0) (z := u1_1) (v := I (u1_1)) rfl rfl rfl rfl rfl rfl rfl rfl (show (-2147483648 : Int) ≤ u1_1 ∧ u1_1 ≤ 2147483647 by omega) (fun σ H O' => ?_)
  have O := OUT_trans O O'
  refine Ew_of (pc' := 17) (fun _ => x_aload_n rfl rfl) ?_
  refine Ew_of (pc' := 18) (fun _ => x_aload_n rfl rfl) ?_
  refine v_p H (o := 0) (z := ((D 2 : Nat) : Int)) (v := .ref (D 2)) rfl rfl rfl rfl rfl rfl (vrf rfl) rfl (show (-1 : Int) ≤ ((D 2 : Nat) : Int) by omega) (fun σ H O' => ?_)
  have O := OUT_trans O O'
  refine Ew_of (pc' := 22) (fun _ => x_aload_n rfl rfl) ?_
  refine Ew_of (pc' := 23) (fun _ => x_iload_n rfl rfl) ?_
  refine v_p H (o := 0) (z := a3) (v := I (a3)) rfl rfl rfl rfl rfl rfl rfl rfl (show (-2147483648 : Int) ≤ a3 ∧ a3 ≤ 2147483647 by omega) (fun σ H O' => ?_)
  have O := OUT_trans O O'
  refine Ew_of (pc' := 27) (fun _ => x_aload_n rfl rfl) ?_
  refine Ew_of (pc' := 28) (fun _ => x_aload_n rfl rfl) ?_
  refine v_g H (o := 0) (v := I (u1_1)) rfl rfl rfl rfl rfl (congrArg (fun z : Int => I z) (rfl : (updF (updF (updF (updF F 0 3 ((D 3 : Nat) : Int)) 0 4 (u1_1)) 0 5 ((D 2 : Nat) : Int)) 0 6 (a3)) 0 4 = u1_1)) ?_
  refine v_p H (o := 0) (z := u1_1) (v := I (u1_1)) rfl rfl rfl rfl rfl rfl rfl rfl (show (-2147483648 : Int) ≤ u1_1 ∧ u1_1 ≤ 2147483647 by omega) (fun σ H O' => ?_)
  have O := OUT_trans O O'
  exact w_ret rfl (k _ _ _ H O (SF_upd (SF_upd (SF_upd (SF_upd (SF_upd (SF_refl) rfl) rfl) rfl) rfl) rfl) (SA_refl) (u1_1) (rfl) (a3) (rfl) (u1_1) (rfl) ((show (updF F 0 3 ((D 3 : Nat) : Int)) 0 3 = ((D 3 : Nat) : Int) from rfl)) ((show (updF (updF (updF F 0 3 ((D 3 : Nat) : Int)) 0 4 (u1_1)) 0 5 ((D 2 : Nat) : Int)) 0 5 = ((D 2 : Nat) : Int) from rfl)) (show (u1_1) = (u1_1) ∧ (a3) = a3 ∧ (u1_1) = (u1_1) by omega))
abbrev V208 : vV := []
/-- Tags.bytesBehind:  -/
theorem C208 {σE : rS} {D N : Nat → Nat} {F : hF} {A : hA} {d c s : Nat} {Q : wQ} (H : HW V208 σE D N F A) {a1 : Int} (h0 : inr (a1)) (h1 : 0 ≤ (a1) ∧ (a1) ≤ 255) (k : ∀ (z : Int) (σ : rS) (F' : hF) (A' : hA), HW V208 σ D N F' A' → OUT (V208).length D N σE c s D N σ c s → SF [] F F' → SA [] A A' → (inr (z)) → (0 ≤ (z) ∧ (z) ≤ 4) → Q (some (I z)) σ c s) : Ew 208 (d + 0) 0 (rargs 0 [I a1]) [] σE c s Q := by
  have O := OUT_refl (n := (V208).length) (D := D) (N := N) (σ := σE) (c := c) (s := s)
  have HE := H
  refine Ew_of (pc' := 1) (fun _ => x_iload_n rfl rfl) ?_
  refine Ew_of (pc' := 2) (fun _ => x_iconst rfl) ?_
  refine w_iand rfl (show inr (a1) by omega) (show inr (3) by omega) (fun z1 gz1 gaz1 gbz1 => ?_)
  by_cases b2 : z1 = 0
  · refine w_tsk 0 28 rfl (show inr (z1) by omega) (by omega) (by decide) rfl rfl ?_
    refine Ew_of (pc' := 29) (fun _ => x_iconst rfl) ?_
    refine Ew_of (pc' := 30) (fun _ => x_iload_n rfl rfl) ?_
    refine Ew_of (pc' := 31) (fun _ => x_iconst rfl) ?_
    refine w_ishrK 2 4 (by decide) (by decide) rfl (show inr (a1) by omega) (fun z3 gz3 dz3 => ?_)
    refine Ew_of (pc' := 34) (fun _ => x_bipush (z := 59) rfl (by decide)) ?_
    refine w_isub rfl ?_
    refine v_max rfl rfl (show inr (0) by omega) (show inr ((z3 - 59)) by omega) (fun z4 gz4 => ?_)
    exact w_ireturn rfl (k (z4) _ _ _ H O (SF_refl) (SA_refl) (show inr (z4) by omega) (show 0 ≤ (z4) ∧ (z4) ≤ 4 by omega))
  ·
    by_cases b5 : z1 = 1
    · refine w_tsk 1 39 rfl (show inr (z1) by omega) (by omega) (by decide) rfl rfl ?_
      refine Ew_of (pc' := 40) (fun _ => x_iconst rfl) ?_
      exact w_ireturn rfl (k (1) _ _ _ H O (SF_refl) (SA_refl) (show inr (1) by omega) (show 0 ≤ (1) ∧ (1) ≤ 4 by omega))
    ·
      by_cases b6 : z1 = 2
      · refine w_tsk 2 41 rfl (show inr (z1) by omega) (by omega) (by decide) rfl rfl ?_
        refine Ew_of (pc' := 42) (fun _ => x_iconst rfl) ?_
        exact w_ireturn rfl (k (2) _ _ _ H O (SF_refl) (SA_refl) (show inr (2) by omega) (show 0 ≤ (2) ∧ (2) ≤ 4 by omega))
      ·
        refine w_tsd 43 rfl (show inr (z1) by omega) (by omega) rfl ?_
        refine Ew_of (pc' := 44) (fun _ => x_iconst rfl) ?_
        exact w_ireturn rfl (k (4) _ _ _ H O (SF_refl) (SA_refl) (show inr (4) by omega) (show 0 ≤ (4) ∧ (4) ≤ 4 by omega))
abbrev V209 : vV := []
/-- Tags.lengthOf:  -/
theorem C209 {σE : rS} {D N : Nat → Nat} {F : hF} {A : hA} {d c s : Nat} {Q : wQ} (H : HW V209 σE D N F A) {a1 a2 : Int} (h0 : inr (a1)) (h1 : inrJ (a2)) (h2 : 0 ≤ (a1) ∧ (a1) ≤ 255) (h3 : 0 ≤ (a2) ∧ (a2) ≤ 4294967295) (k : ∀ (z : Int) (σ : rS) (F' : hF) (A' : hA), HW V209 σ D N F' A' → OUT (V209).length D N σE c s D N σ c s → SF [] F F' → SA [] A A' → (inrJ (z)) → (1 ≤ (z) ∧ (z) ≤ 4294967296) → Q (some (J z)) σ c s) : Ew 209 (d + 0) 0 (rargs 0 [I a1, J a2]) [] σE c s Q := by
  have O := OUT_refl (n := (V209).length) (D := D) (N := N) (σ := σE) (c := c) (s := s)
  have HE := H
  refine Ew_of (pc' := 1) (fun _ => x_iload_n rfl rfl) ?_
  refine Ew_of (pc' := 2) (fun _ => x_iconst rfl) ?_
  refine w_ishrK 2 4 (by decide) (by decide) rfl (show inr (a1) by omega) (fun z1 gz1 dz1 => ?_)
  refine Ew_of (pc' := 4) (fun _ => x_istore_n rfl) ?_
  refine Ew_of (pc' := 5) (fun _ => x_iload_n rfl (rk_o (rfl) rfl rfl)) ?_
  refine Ew_of (pc' := 6) (fun _ => x_iconst rfl) ?_
  refine w_iand rfl (show inr (a1) by omega) (show inr (3) by omega) (fun z2 gz2 gaz2 gbz2 => ?_)
  by_cases b3 : z2 = 0
  · refine w_lsk 32 rfl (show inr (z2) by omega) b3 rfl rfl ?_
    refine Ew_of (pc' := 33) (fun _ => x_iload_n rfl rk_s) ?_
    refine Ew_of (pc' := 35) (fun _ => x_bipush (z := 60) rfl (by decide)) ?_
    refine w_icmpge (t := 45) rfl rfl (show inr (z1) by omega) (show inr (60) by omega) (fun b4 => ?_) (fun b4 => ?_)
    · refine Ew_of (pc' := 46) (fun _ => x_lload_n rfl (rk_o (rfl) rfl rfl)) ?_
      refine Ew_of (pc' := 47) (fun _ => x_lconst (z := 1) rfl (by decide)) ?_
      refine w_ladd rfl ?_
      exact w_lreturn rfl (k ((a2 + 1)) _ _ _ H O (SF_refl) (SA_refl) (show inrJ ((a2 + 1)) by omega) (show 1 ≤ ((a2 + 1)) ∧ ((a2 + 1)) ≤ 4294967296 by omega))
    · refine Ew_of (pc' := 39) (fun _ => x_iload_n rfl rk_s) ?_
      refine Ew_of (pc' := 40) (fun _ => x_iconst rfl) ?_
      refine w_iadd rfl ?_
      refine w_i2l rfl (show inr ((z1 + 1)) by omega) ?_
      refine Ew_of (pc' := 48) (fun _ => x_goto rfl rfl) ?_
      exact w_lreturn rfl (k ((z1 + 1)) _ _ _ H O (SF_refl) (SA_refl) (show inrJ ((z1 + 1)) by omega) (show 1 ≤ ((z1 + 1)) ∧ ((z1 + 1)) ≤ 4294967296 by omega))
  ·
    by_cases b5 : z2 = 1
    · refine w_lsk 49 rfl (show inr (z2) by omega) b5 rfl rfl ?_
      refine Ew_of (pc' := 50) (fun _ => x_iload_n rfl rk_s) ?_
      refine Ew_of (pc' := 52) (fun _ => x_bipush (z := 8) rfl (by decide)) ?_
      refine w_irem rfl (show inr (z1) ∧ 0 ≤ z1 by omega) (show inr (8) ∧ 0 < 8 by omega) ?_
      refine Ew_of (pc' := 54) (fun _ => x_iconst rfl) ?_
      refine w_iadd rfl ?_
      refine w_i2l rfl (show inr (((z1 % 8) + 4)) by omega) ?_
      exact w_lreturn rfl (k (((z1 % 8) + 4)) _ _ _ H O (SF_refl) (SA_refl) (show inrJ (((z1 % 8) + 4)) by omega) (show 1 ≤ (((z1 % 8) + 4)) ∧ (((z1 % 8) + 4)) ≤ 4294967296 by omega))
    ·
      refine w_lsd 57 rfl (show inr (z2) by omega) (by intro q hq; simp at hq; rcases hq with rfl | rfl <;> (first | omega | (simp; omega) | (intro e; simp at e; omega))) rfl ?_
      refine Ew_of (pc' := 58) (fun _ => x_iload_n rfl rk_s) ?_
      refine Ew_of (pc' := 59) (fun _ => x_iconst rfl) ?_
      refine w_iadd rfl ?_
      refine w_i2l rfl (show inr ((z1 + 1)) by omega) ?_
      exact w_lreturn rfl (k ((z1 + 1)) _ _ _ H O (SF_refl) (SA_refl) (show inrJ ((z1 + 1)) by omega) (show 1 ≤ ((z1 + 1)) ∧ ((z1 + 1)) ≤ 4294967296 by omega))
abbrev V207 : vV := [(0, 10, [(4, 0), (4, 0), (4, 0), (4, 0), (0, 0), (4, 0), (0, 0), (2, 0), (0, 0)]), (1, 0, [])]
/-- Tags.unpackLength: this, this.in -/
theorem C207 {σE : rS} {D N : Nat → Nat} {F : hF} {A : hA} {d c s : Nat} {Q : wQ} (H : HW V207 σE D N F A) {a1 a2 a3 : Int} (pf1 : F 0 3 = (D 1 : Int)) (n1 : Int) (en1 : (N 1 : Int) = n1) (u0_7 : Int) (eu0_7 : F 0 7 = u0_7) (u0_8 : Int) (eu0_8 : F 0 8 = u0_8) (h0 : inr (a1)) (h1 : inr (a2)) (h2 : inr (a3)) (h3 : 0 ≤ (a1) ∧ (a1) ≤ (a2) ∧ (a2) ≤ (n1) ∧ (n1) ≤ 65536) (k : ∀ (z : Int) (σ : rS) (F' : hF) (A' : hA), HW V207 σ D N F' A' → OUT (V207).length D N σE c s D N σ c s → SF [(0, 7), (0, 8)] F F' → SA [] A A' → ∀ y0_7 : Int, F' 0 7 = y0_7 → ∀ y0_8 : Int, F' 0 8 = y0_8 → (inr (z)) → (0 ≤ (z) ∧ (z) ≤ 3) → ((z) = 0 → (a1) ≤ (y0_8) ∧ (y0_8) ≤ (a2) ∧ 0 ≤ (y0_7) ∧ (y0_7) ≤ (a3)) → Q (some (I z)) σ c s) : Ew 207 (d + 1) 0 (rargs 0 [.ref (D 0), I a1, I a2, I a3]) [] σE c s Q := by
  have O := OUT_refl (n := (V207).length) (D := D) (N := N) (σ := σE) (c := c) (s := s)
  have HE := H
  have r1 : (-9223372036854775808 : Int) ≤ u0_7 ∧ u0_7 ≤ 9223372036854775807 := by have h1 : (-9223372036854775808 : Int) ≤ F 0 7 ∧ F 0 7 ≤ 9223372036854775807 := H.krg 0 7 (by decide); rw [show F 0 7 = u0_7 from (eu0_7)] at h1; exact h1
  have r2 : (-2147483648 : Int) ≤ u0_8 ∧ u0_8 ≤ 2147483647 := by have h1 : (-2147483648 : Int) ≤ F 0 8 ∧ F 0 8 ≤ 2147483647 := H.krg 0 8 (by decide); rw [show F 0 8 = u0_8 from (eu0_8)] at h1; exact h1
  have r3 : (0 : Int) ≤ n1 ∧ n1 ≤ 1000000 := by have h1 := H.nle 1 (by decide); have h2 : (N 1 : Int) = n1 := en1; omega
  refine Ew_of (pc' := 1) (fun _ => x_aload_n rfl rfl) ?_
  refine Ew_of (pc' := 2) (fun _ => x_lconst (z := 0) rfl (by decide)) ?_
  refine v_p H (o := 0) (z := 0) (v := J (0)) rfl rfl rfl rfl rfl rfl rfl rfl (show (-9223372036854775808 : Int) ≤ 0 ∧ 0 ≤ 9223372036854775807 by omega) (fun σ H O' => ?_)
  have O := OUT_trans O O'
  refine Ew_of (pc' := 6) (fun _ => x_iload_n rfl rfl) ?_
  refine Ew_of (pc' := 8) (fun _ => x_istore rfl) ?_
  refine Ew_of (pc' := 9) (fun _ => x_iconst rfl) ?_
  refine Ew_of (pc' := 11) (fun _ => x_istore rfl) ?_
  refine Ew_of (pc' := 12) (fun _ => x_iconst rfl) ?_
  refine Ew_of (pc' := 14) (fun _ => x_istore rfl) ?_
  suffices hl14 : ∀ (m : Nat), ∀ (ls : rO) (σ : rS) (F_14 : hF) (A_14 : hA) (x14_4 : Int) (x14_5 : Int) (x14_6 : Int), rlook ls 0 = some (.ref (D 0)) → rlook ls 1 = some (I (a1)) → rlook ls 2 = some (I (a2)) → rlook ls 3 = some (I (a3)) → rlook ls 4 = some (I (x14_4)) → rlook ls 5 = some (I (x14_5)) → rlook ls 6 = some (I (x14_6)) → HW V207 σ D N F_14 A_14 → OUT (V207).length D N σE c s D N σ c s → SF [(0, 7)] (updF F 0 7 (0)) F_14 → SA [] A A_14 → ∀ y14_0_7 : Int, F_14 0 7 = y14_0_7 → (inr (x14_4)) → (inr (x14_5)) → (inr (x14_6)) → ((0) ≤ (x14_6)) → ((x14_6) ≤ (0) ∨ (x14_6) ≤ (5)) → ((a1) ≤ (x14_4) ∧ (x14_4) ≤ (a2)) → ((x14_5) = 0 ∨ (x14_5) = 1) → (0 ≤ (y14_0_7) ∧ (y14_0_7) ≤ 34091302912 * (x14_6)) → ((5) - (x14_6)).toNat = m → Ew 207 (d + 1) 14 ls [] σ c s Q from
    hl14 _ _ _ _ _ (a1) (1) (0) (rk_o (rk_o (rk_o (rfl) rfl rfl) rfl rfl) rfl rfl) (rk_o (rk_o (rk_o (rfl) rfl rfl) rfl rfl) rfl rfl) (rk_o (rk_o (rk_o (rfl) rfl rfl) rfl rfl) rfl rfl) (rk_o (rk_o (rk_o (rfl) rfl rfl) rfl rfl) rfl rfl) (rk_o (rk_o (rk_s) rfl rfl) rfl rfl) (rk_o (rk_s) rfl rfl) (rk_s) H O (SF_refl) (SA_refl)   (0) (rfl)  (show inr (a1) by omega) (show inr (1) by omega) (show inr (0) by omega) (show (0) ≤ (0) by omega) (show (0) ≤ (0) ∨ (0) ≤ (5) by omega) (show (a1) ≤ (a1) ∧ (a1) ≤ (a2) by omega) (show (1) = 0 ∨ (1) = 1 by omega) (show 0 ≤ (0) ∧ (0) ≤ 34091302912 * (0) by omega) rfl
  as_aux_lemma =>
  intro m
  induction m using Nat.strongRecOn with
  | _ m ih14 =>
    intro ls σ F_14 A_14 x14_4 x14_5 x14_6 l14_0 l14_1 l14_2 l14_3 l14_4 l14_5 l14_6 H O hS_14 hA_14   y14_0_7 ey14_0_7  j14_0 j14_1 j14_2 j14_3 j14_4 j14_5 j14_6 j14_7 hm14
    have r4 : (-9223372036854775808 : Int) ≤ y14_0_7 ∧ y14_0_7 ≤ 9223372036854775807 := by have h1 : (-9223372036854775808 : Int) ≤ F_14 0 7 ∧ F_14 0 7 ≤ 9223372036854775807 := H.krg 0 7 (by decide); rw [show F_14 0 7 = y14_0_7 from (ey14_0_7)] at h1; exact h1
    refine Ew_of (pc' := 16) (fun _ => x_iload rfl l14_6) ?_
    refine Ew_of (pc' := 17) (fun _ => x_iconst rfl) ?_
    have hc116 : ∀ (ls : rO) (σ : rS) (F_c116 : hF) (A_c116 : hA) , rlook ls 0 = some (.ref (D 0)) → rlook ls 1 = some (I (a1)) → rlook ls 3 = some (I (a3)) → rlook ls 4 = some (I (x14_4)) → HW V207 σ D N F_c116 A_c116 → OUT (V207).length D N σE c s D N σ c s → SF [] F_14 F_c116 → SA [] A_14 A_c116 → (((x14_6) ≥ (5)) ∨ ((x14_6) < (5) ∧ (x14_5) = (0))) → Ew 207 (d + 1) 116 ls [] σ c s Q := by
     as_aux_lemma =>
      intro  ls σ F_c116 A_c116  lc116_0 lc116_1 lc116_3 lc116_4 H O hS_c116 hA_c116     jc116_0
      refine Ew_of (pc' := 117) (fun _ => x_aload_n rfl lc116_0) ?_
      refine v_g H (o := 0) (v := J (y14_0_7)) rfl rfl rfl rfl rfl (congrArg (fun z : Int => J z) (((hS_c116 0 7 rfl).trans (ey14_0_7)) : F_c116 0 7 = y14_0_7)) ?_
      refine Ew_of (pc' := 121) (fun _ => x_iload_n rfl lc116_3) ?_
      refine w_i2l rfl (show inr (a3) by omega) ?_
      refine w_lcmp rfl (show inrJ (y14_0_7) by omega) (show inrJ (a3) by omega) (fun z5 gz5 gaz5 gbz5 => ?_)
      refine w_ifle (t := 135) rfl rfl (show inr (z5) by omega) (fun b6 => ?_) (fun b6 => ?_)
      · refine Ew_of (pc' := 136) (fun _ => x_aload_n rfl lc116_0) ?_
        refine Ew_of (pc' := 137) (fun _ => x_iconst rfl) ?_
        refine Ew_of (pc' := 139) (fun _ => x_iload rfl lc116_4) ?_
        refine v_inv H (o := 0) rfl rfl rfl rfl rfl rfl (by rfl) (C203 (D := pul [0] D) (N := pul [0] N) (HW_sub H (VS_of (show vsub V207 V203 [0] = true by decide +kernel))) (u0_8) ((((hS_c116 0 8 rfl).trans (hS_14 0 8 rfl)).trans (eu0_8))) (show inr (0) by omega) (show inr (x14_4) by omega) (fun z7 σ7 F7' A7' H' O' hS7 hA7 y7_0_8 ey7_0_8 pz7_0 pz7_1 pz7_2 => ⟨rfl, ?_⟩))
        refine v_back (c := c) (s := s) H (show vsub V207 V203 [0] = true by decide +kernel) H' O' (fun F7 A7 H O' eF7 eA7 => ?_)
        have O := OUT_trans O O'
        -- Tags.fail
        have r8 : (-2147483648 : Int) ≤ y7_0_8 ∧ y7_0_8 ≤ 2147483647 := by have h1 : (-2147483648 : Int) ≤ F7 0 8 ∧ F7 0 8 ≤ 2147483647 := H.krg 0 8 (by decide); rw [show F7 0 8 = y7_0_8 from ((eF7 0 8).trans ey7_0_8)] at h1; exact h1
        exact w_ireturn rfl (k (z7) _ _ _ H O (SF_trans (SF_trans (SF_trans (SF_upd (SF_refl) rfl) hS_14 (any_sub rfl)) hS_c116 (any_sub rfl)) (SF_glu (ι := [0]) hS7 eF7 (by decide +kernel)) (any_sub (l' := [(0, 8)]) rfl)) (SA_trans (SA_trans (SA_trans (SA_refl) hA_14 (any_subA rfl)) hA_c116 (any_subA rfl)) (SA_glu (ι := [0]) hA7 eA7 (by decide +kernel)) (any_subA (l' := []) rfl)) (y14_0_7) (((((show F7 0 7 = F_c116 0 7 from (eF7 0 7).trans (hS7 0 7 rfl))).trans (hS_c116 0 7 rfl)).trans (ey14_0_7))) (y7_0_8) (((eF7 0 8).trans ey7_0_8)) (show inr (z7) by omega) (show 0 ≤ (z7) ∧ (z7) ≤ 3 by omega) (show (z7) = 0 → a1 ≤ (y7_0_8) ∧ (y7_0_8) ≤ a2 ∧ 0 ≤ (y14_0_7) ∧ (y14_0_7) ≤ a3 by omega))
      · refine Ew_of (pc' := 127) (fun _ => x_aload_n rfl lc116_0) ?_
        refine Ew_of (pc' := 128) (fun _ => x_iconst rfl) ?_
        refine Ew_of (pc' := 129) (fun _ => x_iload_n rfl lc116_1) ?_
        refine v_inv H (o := 0) rfl rfl rfl rfl rfl rfl (by rfl) (C203 (D := pul [0] D) (N := pul [0] N) (HW_sub H (VS_of (show vsub V207 V203 [0] = true by decide +kernel))) (u0_8) ((((hS_c116 0 8 rfl).trans (hS_14 0 8 rfl)).trans (eu0_8))) (show inr (3) by omega) (show inr (a1) by omega) (fun z9 σ9 F9' A9' H' O' hS9 hA9 y9_0_8 ey9_0_8 pz9_0 pz9_1 pz9_2 => ⟨rfl, ?_⟩))
        refine v_back (c := c) (s := s) H (show vsub V207 V203 [0] = true by decide +kernel) H' O' (fun F9 A9 H O' eF9 eA9 => ?_)
        have O := OUT_trans O O'
        -- Tags.fail
        have r10 : (-2147483648 : Int) ≤ y9_0_8 ∧ y9_0_8 ≤ 2147483647 := by have h1 : (-2147483648 : Int) ≤ F9 0 8 ∧ F9 0 8 ≤ 2147483647 := H.krg 0 8 (by decide); rw [show F9 0 8 = y9_0_8 from ((eF9 0 8).trans ey9_0_8)] at h1; exact h1
        refine Ew_of (pc' := 142) (fun _ => x_goto rfl rfl) ?_
        exact w_ireturn rfl (k (z9) _ _ _ H O (SF_trans (SF_trans (SF_trans (SF_upd (SF_refl) rfl) hS_14 (any_sub rfl)) hS_c116 (any_sub rfl)) (SF_glu (ι := [0]) hS9 eF9 (by decide +kernel)) (any_sub (l' := [(0, 8)]) rfl)) (SA_trans (SA_trans (SA_trans (SA_refl) hA_14 (any_subA rfl)) hA_c116 (any_subA rfl)) (SA_glu (ι := [0]) hA9 eA9 (by decide +kernel)) (any_subA (l' := []) rfl)) (y14_0_7) (((((show F9 0 7 = F_c116 0 7 from (eF9 0 7).trans (hS9 0 7 rfl))).trans (hS_c116 0 7 rfl)).trans (ey14_0_7))) (y9_0_8) (((eF9 0 8).trans ey9_0_8)) (show inr (z9) by omega) (show 0 ≤ (z9) ∧ (z9) ≤ 3 by omega) (show (z9) = 0 → a1 ≤ (y9_0_8) ∧ (y9_0_8) ≤ a2 ∧ 0 ≤ (y14_0_7) ∧ (y14_0_7) ≤ a3 by omega))
    refine w_icmpge (t := 116) rfl rfl (show inr (x14_6) by omega) (show inr (5) by omega) (fun b11 => ?_) (fun b11 => ?_)
    · exact hc116  _ _ _ _  (l14_0) (l14_1) (l14_3) (l14_4) H O (SF_refl) (SA_refl)     (show ((x14_6) ≥ (5)) ∨ ((x14_6) < (5) ∧ (x14_5) = (0)) by omega)
    · refine Ew_of (pc' := 22) (fun _ => x_iload rfl l14_5) ?_
      refine w_ifeq (t := 116) rfl rfl (show inr (x14_5) by omega) (fun b12 => ?_) (fun b12 => ?_)
      · exact hc116  _ _ _ _  (l14_0) (l14_1) (l14_3) (l14_4) H O (SF_refl) (SA_refl)     (show ((x14_6) ≥ (5)) ∨ ((x14_6) < (5) ∧ (x14_5) = (0)) by omega)
      · refine Ew_of (pc' := 27) (fun _ => x_iload rfl l14_4) ?_
        refine Ew_of (pc' := 28) (fun _ => x_iload_n rfl l14_2) ?_
        refine w_icmplt (t := 38) rfl rfl (show inr (x14_4) by omega) (show inr (a2) by omega) (fun b13 => ?_) (fun b13 => ?_)
        · refine Ew_of (pc' := 39) (fun _ => x_aload_n rfl l14_0) ?_
          refine v_g H (o := 0) (v := .ref (D 1)) rfl rfl rfl rfl rfl (vrf (((hS_14 0 3 rfl)).trans (pf1))) ?_
          refine Ew_of (pc' := 44) (fun _ => x_iload rfl l14_4) ?_
          refine Ew_of (pc' := 47) (fun _ => x_iinc (len := 3) rfl (l14_4)) ?_
          refine v_lB H (o := 1) rfl rfl rfl rfl (n := n1) (en1) (show 0 ≤ x14_4 ∧ x14_4 < n1 by omega) (fun v14 ev14 qv14 => ?_)
          have ev14 : (A 1) (x14_4) = v14 := (congrFun (funext (hA_14 1 rfl)) (x14_4)).symm.trans ev14
          refine Ew_of (pc' := 51) (fun _ => x_sipush (z := 255) rfl (by decide)) ?_
          refine w_iand rfl (show inr (v14) by omega) (show inr (255) by omega) (fun z15 gz15 gaz15 gbz15 => ?_)
          refine Ew_of (pc' := 54) (fun _ => x_istore rfl) ?_
          refine Ew_of (pc' := 56) (fun _ => x_iload rfl (rk_o (rk_o (l14_6) rfl rfl) rfl rfl)) ?_
          refine Ew_of (pc' := 57) (fun _ => x_iconst rfl) ?_
          have hc74 : ∀ (ls : rO) (σ : rS) (F_c74 : hF) (A_c74 : hA) , rlook ls 0 = some (.ref (D 0)) → rlook ls 1 = some (I (a1)) → rlook ls 2 = some (I (a2)) → rlook ls 3 = some (I (a3)) → rlook ls 4 = some (I ((x14_4 + 1))) → rlook ls 6 = some (I (x14_6)) → rlook ls 7 = some (I (z15)) → HW V207 σ D N F_c74 A_c74 → OUT (V207).length D N σE c s D N σ c s → SF [] F_14 F_c74 → SA [] A_14 A_c74 → (((x14_6) ≠ (4)) ∨ ((x14_6) = (4) ∧ (z15) ≤ (15))) → Ew 207 (d + 1) 74 ls [] σ c s Q := by
           as_aux_lemma =>
            intro  ls σ F_c74 A_c74  lc74_0 lc74_1 lc74_2 lc74_3 lc74_4 lc74_6 lc74_7 H O hS_c74 hA_c74     jc74_0
            refine Ew_of (pc' := 75) (fun _ => x_aload_n rfl lc74_0) ?_
            refine Ew_of (pc' := 76) (fun _ => x_dup rfl rfl) ?_
            refine v_g H (o := 0) (v := J (y14_0_7)) rfl rfl rfl rfl rfl (congrArg (fun z : Int => J z) (((hS_c74 0 7 rfl).trans (ey14_0_7)) : F_c74 0 7 = y14_0_7)) ?_
            refine Ew_of (pc' := 81) (fun _ => x_iload rfl lc74_7) ?_
            refine w_i2l rfl (show inr (z15) by omega) ?_
            refine Ew_of (pc' := 85) (fun _ => x_ldc2 (z := 127) rfl (by decide)) ?_
            refine w_land rfl (show inrJ (z15) by omega) (show inrJ (127) by omega) (fun z16 gz16 gaz16 gbz16 => ?_)
            refine Ew_of (pc' := 88) (fun _ => x_bipush (z := 7) rfl (by decide)) ?_
            refine Ew_of (pc' := 90) (fun _ => x_iload rfl lc74_6) ?_
            refine w_imul rfl ?_
            have hz1 : 0 ≤ (z16) * p2 (((7 * x14_6))) := Int.mul_nonneg (by omega) (by have := p2_pos (((7 * x14_6))); omega)
            have hz2 : (z16) * p2 (((7 * x14_6))) ≤ 127 * p2 28 := Int.mul_le_mul (by omega) (p2_mono (by omega)) (by have := p2_pos (((7 * x14_6))); omega) (by omega)
            have : p2 28 = 268435456 := by decide
            refine w_lshlT rfl (show 0 ≤ (7 * x14_6) ∧ (7 * x14_6) ≤ 63 by omega) ?_
            have hp28 : p2 (7 * (x14_6)) ≤ p2 28 := p2_mono (by omega)
            have : p2 28 = 268435456 := by decide
            have := p2_pos (7 * (x14_6))
            refine w_lorN rfl (show inrJ (y14_0_7) by omega) (show inrJ ((z16 * p2 ((7 * x14_6)))) by omega) (fun z18 gz18 dz18 => ?_)
            refine v_p H (o := 0) (z := z18) (v := J (z18)) rfl rfl rfl rfl rfl rfl rfl rfl (show (-9223372036854775808 : Int) ≤ z18 ∧ z18 ≤ 9223372036854775807 by omega) (fun σ H O' => ?_)
            have O := OUT_trans O O'
            refine Ew_of (pc' := 98) (fun _ => x_iload rfl lc74_7) ?_
            refine Ew_of (pc' := 100) (fun _ => x_bipush (z := 127) rfl (by decide)) ?_
            refine w_icmple (t := 107) rfl rfl (show inr (z15) by omega) (show inr (127) by omega) (fun b19 => ?_) (fun b19 => ?_)
            · refine Ew_of (pc' := 108) (fun _ => x_iconst rfl) ?_
              refine Ew_of (pc' := 110) (fun _ => x_istore rfl) ?_
              refine Ew_of (pc' := 113) (fun _ => x_iinc (len := 3) rfl (rk_o (lc74_6) rfl rfl)) ?_
              refine Ew_of (pc' := 14) (fun _ => x_goto rfl rfl) ?_
              exact ih14 _ (by omega) _ _ _ _ ((x14_4 + 1)) (0) ((x14_6 + 1)) (rk_o (rk_o (lc74_0) rfl rfl) rfl rfl) (rk_o (rk_o (lc74_1) rfl rfl) rfl rfl) (rk_o (rk_o (lc74_2) rfl rfl) rfl rfl) (rk_o (rk_o (lc74_3) rfl rfl) rfl rfl) (rk_o (rk_o (lc74_4) rfl rfl) rfl rfl) (rk_o (rk_s) rfl rfl) (rk_s) H O (SF_upd (SF_trans (hS_14) hS_c74 (any_sub rfl)) rfl) (SA_trans (hA_14) hA_c74 (any_subA rfl))   (z18) (rfl)  (show inr ((x14_4 + 1)) by omega) (show inr (0) by omega) (show inr ((x14_6 + 1)) by omega) (show (0) ≤ ((x14_6 + 1)) by omega) (show ((x14_6 + 1)) ≤ (0) ∨ ((x14_6 + 1)) ≤ (5) by omega) (show (a1) ≤ ((x14_4 + 1)) ∧ ((x14_4 + 1)) ≤ (a2) by omega) (show (0) = 0 ∨ (0) = 1 by omega) (show 0 ≤ (z18) ∧ (z18) ≤ 34091302912 * ((x14_6 + 1)) by omega) rfl
            · refine Ew_of (pc' := 104) (fun _ => x_iconst rfl) ?_
              refine Ew_of (pc' := 108) (fun _ => x_goto rfl rfl) ?_
              refine Ew_of (pc' := 110) (fun _ => x_istore rfl) ?_
              refine Ew_of (pc' := 113) (fun _ => x_iinc (len := 3) rfl (rk_o (lc74_6) rfl rfl)) ?_
              refine Ew_of (pc' := 14) (fun _ => x_goto rfl rfl) ?_
              exact ih14 _ (by omega) _ _ _ _ ((x14_4 + 1)) (1) ((x14_6 + 1)) (rk_o (rk_o (lc74_0) rfl rfl) rfl rfl) (rk_o (rk_o (lc74_1) rfl rfl) rfl rfl) (rk_o (rk_o (lc74_2) rfl rfl) rfl rfl) (rk_o (rk_o (lc74_3) rfl rfl) rfl rfl) (rk_o (rk_o (lc74_4) rfl rfl) rfl rfl) (rk_o (rk_s) rfl rfl) (rk_s) H O (SF_upd (SF_trans (hS_14) hS_c74 (any_sub rfl)) rfl) (SA_trans (hA_14) hA_c74 (any_subA rfl))   (z18) (rfl)  (show inr ((x14_4 + 1)) by omega) (show inr (1) by omega) (show inr ((x14_6 + 1)) by omega) (show (0) ≤ ((x14_6 + 1)) by omega) (show ((x14_6 + 1)) ≤ (0) ∨ ((x14_6 + 1)) ≤ (5) by omega) (show (a1) ≤ ((x14_4 + 1)) ∧ ((x14_4 + 1)) ≤ (a2) by omega) (show (1) = 0 ∨ (1) = 1 by omega) (show 0 ≤ (z18) ∧ (z18) ≤ 34091302912 * ((x14_6 + 1)) by omega) rfl
          refine w_icmpne (t := 74) rfl rfl (show inr (x14_6) by omega) (show inr (4) by omega) (fun b20 => ?_) (fun b20 => ?_)
          · exact hc74  _ _ _ _  (rk_o (rk_o (l14_0) rfl rfl) rfl rfl) (rk_o (rk_o (l14_1) rfl rfl) rfl rfl) (rk_o (rk_o (l14_2) rfl rfl) rfl rfl) (rk_o (rk_o (l14_3) rfl rfl) rfl rfl) (rk_o (rk_s) rfl rfl) (rk_o (rk_o (l14_6) rfl rfl) rfl rfl) (rk_s) H O (SF_refl) (SA_refl)     (show ((x14_6) ≠ (4)) ∨ ((x14_6) = (4) ∧ (z15) ≤ (15)) by omega)
          · refine Ew_of (pc' := 62) (fun _ => x_iload rfl rk_s) ?_
            refine Ew_of (pc' := 64) (fun _ => x_bipush (z := 15) rfl (by decide)) ?_
            refine w_icmple (t := 74) rfl rfl (show inr (z15) by omega) (show inr (15) by omega) (fun b21 => ?_) (fun b21 => ?_)
            · exact hc74  _ _ _ _  (rk_o (rk_o (l14_0) rfl rfl) rfl rfl) (rk_o (rk_o (l14_1) rfl rfl) rfl rfl) (rk_o (rk_o (l14_2) rfl rfl) rfl rfl) (rk_o (rk_o (l14_3) rfl rfl) rfl rfl) (rk_o (rk_s) rfl rfl) (rk_o (rk_o (l14_6) rfl rfl) rfl rfl) (rk_s) H O (SF_refl) (SA_refl)     (show ((x14_6) ≠ (4)) ∨ ((x14_6) = (4) ∧ (z15) ≤ (15)) by omega)
            · refine Ew_of (pc' := 68) (fun _ => x_aload_n rfl (rk_o (rk_o (l14_0) rfl rfl) rfl rfl)) ?_
              refine Ew_of (pc' := 69) (fun _ => x_iconst rfl) ?_
              refine Ew_of (pc' := 70) (fun _ => x_iload_n rfl (rk_o (rk_o (l14_1) rfl rfl) rfl rfl)) ?_
              refine v_inv H (o := 0) rfl rfl rfl rfl rfl rfl (by rfl) (C203 (D := pul [0] D) (N := pul [0] N) (HW_sub H (VS_of (show vsub V207 V203 [0] = true by decide +kernel))) (u0_8) (((hS_14 0 8 rfl).trans (eu0_8))) (show inr (2) by omega) (show inr (a1) by omega) (fun z22 σ22 F22' A22' H' O' hS22 hA22 y22_0_8 ey22_0_8 pz22_0 pz22_1 pz22_2 => ⟨rfl, ?_⟩))
              refine v_back (c := c) (s := s) H (show vsub V207 V203 [0] = true by decide +kernel) H' O' (fun F22 A22 H O' eF22 eA22 => ?_)
              have O := OUT_trans O O'
              -- Tags.fail
              have r23 : (-2147483648 : Int) ≤ y22_0_8 ∧ y22_0_8 ≤ 2147483647 := by have h1 : (-2147483648 : Int) ≤ F22 0 8 ∧ F22 0 8 ≤ 2147483647 := H.krg 0 8 (by decide); rw [show F22 0 8 = y22_0_8 from ((eF22 0 8).trans ey22_0_8)] at h1; exact h1
              exact w_ireturn rfl (k (z22) _ _ _ H O (SF_trans (SF_trans (SF_upd (SF_refl) rfl) hS_14 (any_sub rfl)) (SF_glu (ι := [0]) hS22 eF22 (by decide +kernel)) (any_sub (l' := [(0, 8)]) rfl)) (SA_trans (SA_trans (SA_refl) hA_14 (any_subA rfl)) (SA_glu (ι := [0]) hA22 eA22 (by decide +kernel)) (any_subA (l' := []) rfl)) (y14_0_7) ((((show F22 0 7 = F_14 0 7 from (eF22 0 7).trans (hS22 0 7 rfl))).trans (ey14_0_7))) (y22_0_8) (((eF22 0 8).trans ey22_0_8)) (show inr (z22) by omega) (show 0 ≤ (z22) ∧ (z22) ≤ 3 by omega) (show (z22) = 0 → a1 ≤ (y22_0_8) ∧ (y22_0_8) ≤ a2 ∧ 0 ≤ (y14_0_7) ∧ (y14_0_7) ≤ a3 by omega))
        · refine Ew_of (pc' := 32) (fun _ => x_aload_n rfl l14_0) ?_
          refine Ew_of (pc' := 33) (fun _ => x_iconst rfl) ?_
          refine Ew_of (pc' := 34) (fun _ => x_iload_n rfl l14_2) ?_
          refine v_inv H (o := 0) rfl rfl rfl rfl rfl rfl (by rfl) (C203 (D := pul [0] D) (N := pul [0] N) (HW_sub H (VS_of (show vsub V207 V203 [0] = true by decide +kernel))) (u0_8) (((hS_14 0 8 rfl).trans (eu0_8))) (show inr (1) by omega) (show inr (a2) by omega) (fun z24 σ24 F24' A24' H' O' hS24 hA24 y24_0_8 ey24_0_8 pz24_0 pz24_1 pz24_2 => ⟨rfl, ?_⟩))
          refine v_back (c := c) (s := s) H (show vsub V207 V203 [0] = true by decide +kernel) H' O' (fun F24 A24 H O' eF24 eA24 => ?_)
          have O := OUT_trans O O'
          -- Tags.fail
          have r25 : (-2147483648 : Int) ≤ y24_0_8 ∧ y24_0_8 ≤ 2147483647 := by have h1 : (-2147483648 : Int) ≤ F24 0 8 ∧ F24 0 8 ≤ 2147483647 := H.krg 0 8 (by decide); rw [show F24 0 8 = y24_0_8 from ((eF24 0 8).trans ey24_0_8)] at h1; exact h1
          exact w_ireturn rfl (k (z24) _ _ _ H O (SF_trans (SF_trans (SF_upd (SF_refl) rfl) hS_14 (any_sub rfl)) (SF_glu (ι := [0]) hS24 eF24 (by decide +kernel)) (any_sub (l' := [(0, 8)]) rfl)) (SA_trans (SA_trans (SA_refl) hA_14 (any_subA rfl)) (SA_glu (ι := [0]) hA24 eA24 (by decide +kernel)) (any_subA (l' := []) rfl)) (y14_0_7) ((((show F24 0 7 = F_14 0 7 from (eF24 0 7).trans (hS24 0 7 rfl))).trans (ey14_0_7))) (y24_0_8) (((eF24 0 8).trans ey24_0_8)) (show inr (z24) by omega) (show 0 ≤ (z24) ∧ (z24) ≤ 3 by omega) (show (z24) = 0 → a1 ≤ (y24_0_8) ∧ (y24_0_8) ≤ a2 ∧ 0 ≤ (y14_0_7) ∧ (y14_0_7) ≤ a3 by omega))
abbrev V163_thisa : vV := [(0, 7, [(4, 0), (0, 0), (1, 0), (0, 0), (0, 0)]), (1, 0, [])]
/-- Row.copyBack: this, this.bytes -/
theorem C163_thisa {σE : rS} {D N : Nat → Nat} {F : hF} {A : hA} {d c s : Nat} {Q : wQ} (H : HW V163_thisa σE D N F A) {a1 a2 a3 : Int} (pf1 : F 0 0 = (D 1 : Int)) (n1 : Int) (en1 : (N 1 : Int) = n1) (u0_1 : Int) (eu0_1 : F 0 1 = u0_1) (h0 : inr (a1)) (h1 : inr (a2)) (h2 : inr (a3)) (h3 : 0 ≤ (u0_1) ∧ (u0_1) ≤ (n1) ∧ (n1) ≤ 65536) (h4 : 0 ≤ (u0_1) ∧ (u0_1) ≤ (n1) ∧ (n1) ≤ 65536) (h5 : 0 ≤ (a3) ∧ (a3) ≤ (u0_1)) (h6 : (a2) < 0 ∨ 1 ≤ (a1) ∧ ((a1) ≤ (u0_1) - (a3) ∨ (a1) - ((u0_1) - (a3)) ≤ (u0_1))) (k : ∀ (σ : rS) (D' N' : Nat → Nat) (F' : hF) (A' : hA) (c' s' : Nat), HW V163_thisa σ D' N' F' A' → OUT (V163_thisa).length D N σE c s D' N' σ c' s' → SD [1] D D' → SD [1] N N' → SF [(0, 0), (0, 1), (0, 2)] F F' → SA [1] A A' → F' 0 0 = (D' 1 : Int) → ∀ m1 : Int, (N' 1 : Int) = m1 → ∀ y0_1 : Int, F' 0 1 = y0_1 → (0 ≤ (y0_1) ∧ (y0_1) ≤ (m1) ∧ (m1) ≤ 65536) → ((y0_1) = (u0_1) + (a2) ∧ 0 ≤ (a2) ∨ (y0_1) = (u0_1) ∧ ((a2) < 0 ∨ 65536 < (u0_1) + (a2))) → Q none σ c' s') : Ew 163 (d + 2) 0 (rargs 0 [.ref (D 0), I a1, I a2, I a3, .ref (D 0)]) [] σE c s Q := by
  have O := OUT_refl (n := (V163_thisa).length) (D := D) (N := N) (σ := σE) (c := c) (s := s)
  have HE := H
  have r1 : (-2147483648 : Int) ≤ u0_1 ∧ u0_1 ≤ 2147483647 := by have h1 : (-2147483648 : Int) ≤ F 0 1 ∧ F 0 1 ≤ 2147483647 := H.krg 0 1 (by decide); rw [show F 0 1 = u0_1 from (eu0_1)] at h1; exact h1
  have r2 : (0 : Int) ≤ n1 ∧ n1 ≤ 1000000 := by have h1 := H.nle 1 (by decide); have h2 : (N 1 : Int) = n1 := en1; omega
  refine Ew_of (pc' := 1) (fun _ => x_aload_n rfl rfl) ?_
  refine Ew_of (pc' := 2) (fun _ => x_iload_n rfl rfl) ?_
  refine v_inv H (o := 0) rfl rfl rfl rfl rfl rfl (by rfl) (C157 (D := pul [0, 1] D) (N := pul [0, 1] N) (HW_sub H (VS_of (show vsub V163_thisa V157 [0, 1] = true by decide +kernel))) (pf1) (n1) (en1) (u0_1) ((eu0_1)) (A 1) (rfl) (show inr (a2) by omega) (show 0 ≤ (u0_1) ∧ (u0_1) ≤ (n1) ∧ (n1) ≤ 65536 by omega) (fun z3 σ3 D3' N3' F3' A3' c3 s3 H' O' hD3 hN3 hS3 hA3 pm3_1 m3_1 em3_1 w3_1 ew3_1 pz3_0 pz3_1 pz3_2 pz3_3 pz3_4 => ⟨rretB rfl pz3_0, ?_⟩))
  refine v_backM (c := c) (s := s) H (show vsub V163_thisa V157 [0, 1] = true by decide +kernel) H' O' hD3 (show vmov V163_thisa [0, 1] [1] = true by decide +kernel) (fun D3 N3 F3 A3 H O' eD3 eN3 eF3 eA3 => ?_)
  have O := OUT_trans O O'
  -- Row.reserve
  have pf3_0_0 : F3 0 0 = (D3 1 : Int) := (eF3 0 0).trans (pm3_1.trans (congrArg (fun q : Nat => (q : Int)) (eD3 1).symm))
  have r4 : (0 : Int) ≤ m3_1 ∧ m3_1 ≤ 1000000 := by have h1 := H.nle 1 (by decide); have h2 : (N3 1 : Int) = m3_1 := (congrArg (fun q : Nat => (q : Int)) (eN3 1)).trans em3_1; omega
  refine w_ifne (t := 14) rfl rfl (show inr (z3) by omega) (fun b5 => ?_) (fun b5 => ?_)
  · refine Ew_of (pc' := 15) (fun _ => x_iconst rfl) ?_
    refine Ew_of (pc' := 17) (fun _ => x_istore rfl) ?_
    suffices hl17 : ∀ (m : Nat), ∀ (ls : rO) (σ : rS) (F_17 : hF) (A_17 : hA) (x17_5 : Int), rlook ls 0 = some (.ref (D3 0)) → rlook ls 1 = some (I (a1)) → rlook ls 2 = some (I (a2)) → rlook ls 3 = some (I (a3)) → rlook ls 4 = some (.ref (D3 0)) → rlook ls 5 = some (I (x17_5)) → HW V163_thisa σ D3 N3 F_17 A_17 → OUT (V163_thisa).length D N σE c s D3 N3 σ (c + c3) (s + s3) → SF [(0, 1)] F3 F_17 → SA [1] A3 A_17 → ∀ y17_0_1 : Int, F_17 0 1 = y17_0_1 → (inr (x17_5)) → ((0) ≤ (x17_5)) → ((x17_5) ≤ (0) ∨ (x17_5) ≤ ((a2))) → ((y17_0_1) = (u0_1) + (x17_5)) → ((u0_1) + (a2) ≤ (m3_1) ∧ (m3_1) ≤ 65536) → (((a2)) - (x17_5)).toNat = m → Ew 163 (d + 2) 17 ls [] σ (c + c3) (s + s3) Q from
      hl17 _ _ _ _ _ (0) ((rk_o (rfl) rfl rfl).trans (congrArg (fun q : Nat => some (Value.ref q)) (((show D3 0 = D 0 from (eD3 0).trans (hD3 0 rfl)))).symm)) (rk_o (rfl) rfl rfl) (rk_o (rfl) rfl rfl) (rk_o (rfl) rfl rfl) ((rk_o (rfl) rfl rfl).trans (congrArg (fun q : Nat => some (Value.ref q)) (((show D3 0 = D 0 from (eD3 0).trans (hD3 0 rfl)))).symm)) (rk_s) H O (SF_refl) (SA_refl)   (u0_1) ((((show F3 0 1 = F 0 1 from (eF3 0 1).trans (hS3 0 1 rfl))).trans (eu0_1)))  (show inr (0) by omega) (show (0) ≤ (0) by omega) (show (0) ≤ (0) ∨ (0) ≤ ((a2)) by omega) (show (u0_1) = (u0_1) + (0) by omega) (show (u0_1) + (a2) ≤ (m3_1) ∧ (m3_1) ≤ 65536 by omega) rfl
    as_aux_lemma =>
    intro m
    induction m using Nat.strongRecOn with
    | _ m ih17 =>
      intro ls σ F_17 A_17 x17_5 l17_0 l17_1 l17_2 l17_3 l17_4 l17_5 H O hS_17 hA_17   y17_0_1 ey17_0_1  j17_0 j17_1 j17_2 j17_3 j17_4 hm17
      have r6 : (-2147483648 : Int) ≤ y17_0_1 ∧ y17_0_1 ≤ 2147483647 := by have h1 : (-2147483648 : Int) ≤ F_17 0 1 ∧ F_17 0 1 ≤ 2147483647 := H.krg 0 1 (by decide); rw [show F_17 0 1 = y17_0_1 from (ey17_0_1)] at h1; exact h1
      refine Ew_of (pc' := 19) (fun _ => x_iload rfl l17_5) ?_
      refine Ew_of (pc' := 20) (fun _ => x_iload_n rfl l17_2) ?_
      refine w_icmpge (t := 85) rfl rfl (show inr (x17_5) by omega) (show inr (a2) by omega) (fun b7 => ?_) (fun b7 => ?_)
      · exact w_ret rfl (k _ _ _ _ _ _ _ H O (SD_trans (SD_refl) (SD_glu (ι := [0, 1]) hD3 eD3 (by decide +kernel)) (any_subA (l' := [1]) rfl)) (SD_trans (SD_refl) (SD_glu (ι := [0, 1]) hN3 eN3 (by decide +kernel)) (any_subA (l' := [1]) rfl)) (SF_trans (SF_trans (SF_refl) (SF_glu (ι := [0, 1]) hS3 eF3 (by decide +kernel)) (any_sub (l' := [(0, 0)]) rfl)) hS_17 (any_sub rfl)) (SA_trans (SA_trans (SA_refl) (SA_glu (ι := [0, 1]) hA3 eA3 (by decide +kernel)) (any_subA (l' := [1]) rfl)) hA_17 (any_subA rfl)) (((hS_17 0 0 rfl)).trans (pf3_0_0)) (m3_1) ((congrArg (fun q : Nat => (q : Int)) (eN3 1)).trans em3_1) (y17_0_1) ((ey17_0_1)) (show 0 ≤ (y17_0_1) ∧ (y17_0_1) ≤ (m3_1) ∧ (m3_1) ≤ 65536 by omega) (show (y17_0_1) = (u0_1) + a2 ∧ 0 ≤ a2 ∨ (y17_0_1) = (u0_1) ∧ (a2 < 0 ∨ 65536 < (u0_1) + a2) by omega))
      · refine Ew_of (pc' := 24) (fun _ => x_aload_n rfl l17_0) ?_
        refine v_g H (o := 0) (v := I (y17_0_1)) rfl rfl rfl rfl rfl (congrArg (fun z : Int => I z) ((ey17_0_1) : F_17 0 1 = y17_0_1)) ?_
        refine Ew_of (pc' := 28) (fun _ => x_iload_n rfl l17_1) ?_
        refine w_isub rfl ?_
        refine Ew_of (pc' := 31) (fun _ => x_istore rfl) ?_
        refine Ew_of (pc' := 32) (fun _ => x_aload_n rfl (rk_o (l17_0) rfl rfl)) ?_
        refine v_g H (o := 0) (v := .ref (D3 1)) rfl rfl rfl rfl rfl (vrf (((hS_17 0 0 rfl)).trans (pf3_0_0))) ?_
        refine Ew_of (pc' := 36) (fun _ => x_aload_n rfl (rk_o (l17_0) rfl rfl)) ?_
        refine Ew_of (pc' := 37) (fun _ => x_dup rfl rfl) ?_
        refine v_g H (o := 0) (v := I (y17_0_1)) rfl rfl rfl rfl rfl (congrArg (fun z : Int => I z) ((ey17_0_1) : F_17 0 1 = y17_0_1)) ?_
        refine Ew_of (pc' := 41) (fun _ => x_dup_x1 rfl rfl) ?_
        refine Ew_of (pc' := 42) (fun _ => x_iconst rfl) ?_
        refine w_iadd rfl ?_
        refine v_p H (o := 0) (z := (y17_0_1 + 1)) (v := I ((y17_0_1 + 1))) rfl rfl rfl rfl rfl rfl rfl rfl (show (-2147483648 : Int) ≤ (y17_0_1 + 1) ∧ (y17_0_1 + 1) ≤ 2147483647 by omega) (fun σ H O' => ?_)
        have O := OUT_trans O O'
        refine Ew_of (pc' := 48) (fun _ => x_iload rfl rk_s) ?_
        refine Ew_of (pc' := 49) (fun _ => x_iload_n rfl (rk_o (l17_3) rfl rfl)) ?_
        refine w_icmplt (t := 62) rfl rfl (show inr ((y17_0_1 - a1)) by omega) (show inr (a3) by omega) (fun b8 => ?_) (fun b8 => ?_)
        · refine Ew_of (pc' := 64) (fun _ => x_aload rfl (rk_o (l17_4) rfl rfl)) ?_
          refine v_g H (o := 0) (v := .ref (D3 1)) rfl rfl rfl rfl rfl (vrf (((hS_17 0 0 rfl)).trans (pf3_0_0))) ?_
          refine Ew_of (pc' := 69) (fun _ => x_aload rfl (rk_o (l17_4) rfl rfl)) ?_
          refine v_g H (o := 0) (v := I ((y17_0_1 + 1))) rfl rfl rfl rfl rfl (congrArg (fun z : Int => I z) (rfl : (updF F_17 0 1 ((y17_0_1 + 1))) 0 1 = (y17_0_1 + 1))) ?_
          refine Ew_of (pc' := 74) (fun _ => x_iload rfl rk_s) ?_
          refine w_iadd rfl ?_
          refine Ew_of (pc' := 76) (fun _ => x_iload_n rfl (rk_o (l17_3) rfl rfl)) ?_
          refine w_isub rfl ?_
          refine v_lB H (o := 1) rfl rfl rfl rfl (n := m3_1) ((congrArg (fun q : Nat => (q : Int)) (eN3 1)).trans em3_1) (show 0 ≤ (((y17_0_1 + 1) + (y17_0_1 - a1)) - a3) ∧ (((y17_0_1 + 1) + (y17_0_1 - a1)) - a3) < m3_1 by omega) (fun v9 ev9 qv9 => ?_)
          have ev9 : (A_17 1) ((((y17_0_1 + 1) + (y17_0_1 - a1)) - a3)) = v9 := (congrFun (rfl : A_17 1 = A_17 1) ((((y17_0_1 + 1) + (y17_0_1 - a1)) - a3))).symm.trans ev9
          refine v_sB H (o := 1) rfl rfl rfl rfl (n := m3_1) ((congrArg (fun q : Nat => (q : Int)) (eN3 1)).trans em3_1) (show 0 ≤ y17_0_1 ∧ y17_0_1 < m3_1 by omega) (fun z10 σ qz10 H O' => ?_)
          have O := OUT_trans O O'
          refine Ew_of (pc' := 82) (fun _ => x_iinc (len := 3) rfl (rk_o (l17_5) rfl rfl)) ?_
          refine Ew_of (pc' := 17) (fun _ => x_goto rfl rfl) ?_
          exact ih17 _ (by omega) _ _ _ _ ((x17_5 + 1)) (rk_o (rk_o (l17_0) rfl rfl) rfl rfl) (rk_o (rk_o (l17_1) rfl rfl) rfl rfl) (rk_o (rk_o (l17_2) rfl rfl) rfl rfl) (rk_o (rk_o (l17_3) rfl rfl) rfl rfl) (rk_o (rk_o (l17_4) rfl rfl) rfl rfl) (rk_s) H O (SF_upd (hS_17) rfl) (SA_upd (hA_17) rfl)   ((y17_0_1 + 1)) (rfl)  (show inr ((x17_5 + 1)) by omega) (show (0) ≤ ((x17_5 + 1)) by omega) (show ((x17_5 + 1)) ≤ (0) ∨ ((x17_5 + 1)) ≤ ((a2)) by omega) (show ((y17_0_1 + 1)) = (u0_1) + ((x17_5 + 1)) by omega) (show (u0_1) + (a2) ≤ (m3_1) ∧ (m3_1) ≤ 65536 by omega) rfl
        · refine Ew_of (pc' := 53) (fun _ => x_aload_n rfl (rk_o (l17_0) rfl rfl)) ?_
          refine v_g H (o := 0) (v := .ref (D3 1)) rfl rfl rfl rfl rfl (vrf (((hS_17 0 0 rfl)).trans (pf3_0_0))) ?_
          refine Ew_of (pc' := 58) (fun _ => x_iload rfl rk_s) ?_
          refine v_lB H (o := 1) rfl rfl rfl rfl (n := m3_1) ((congrArg (fun q : Nat => (q : Int)) (eN3 1)).trans em3_1) (show 0 ≤ (y17_0_1 - a1) ∧ (y17_0_1 - a1) < m3_1 by omega) (fun v11 ev11 qv11 => ?_)
          have ev11 : (A_17 1) ((y17_0_1 - a1)) = v11 := (congrFun (rfl : A_17 1 = A_17 1) ((y17_0_1 - a1))).symm.trans ev11
          refine Ew_of (pc' := 78) (fun _ => x_goto rfl rfl) ?_
          refine v_sB H (o := 1) rfl rfl rfl rfl (n := m3_1) ((congrArg (fun q : Nat => (q : Int)) (eN3 1)).trans em3_1) (show 0 ≤ y17_0_1 ∧ y17_0_1 < m3_1 by omega) (fun z12 σ qz12 H O' => ?_)
          have O := OUT_trans O O'
          refine Ew_of (pc' := 82) (fun _ => x_iinc (len := 3) rfl (rk_o (l17_5) rfl rfl)) ?_
          refine Ew_of (pc' := 17) (fun _ => x_goto rfl rfl) ?_
          exact ih17 _ (by omega) _ _ _ _ ((x17_5 + 1)) (rk_o (rk_o (l17_0) rfl rfl) rfl rfl) (rk_o (rk_o (l17_1) rfl rfl) rfl rfl) (rk_o (rk_o (l17_2) rfl rfl) rfl rfl) (rk_o (rk_o (l17_3) rfl rfl) rfl rfl) (rk_o (rk_o (l17_4) rfl rfl) rfl rfl) (rk_s) H O (SF_upd (hS_17) rfl) (SA_upd (hA_17) rfl)   ((y17_0_1 + 1)) (rfl)  (show inr ((x17_5 + 1)) by omega) (show (0) ≤ ((x17_5 + 1)) by omega) (show ((x17_5 + 1)) ≤ (0) ∨ ((x17_5 + 1)) ≤ ((a2)) by omega) (show ((y17_0_1 + 1)) = (u0_1) + ((x17_5 + 1)) by omega) (show (u0_1) + (a2) ≤ (m3_1) ∧ (m3_1) ≤ 65536 by omega) rfl
  · refine Ew_of (pc' := 9) (fun _ => x_aload_n rfl rfl) ?_
    refine Ew_of (pc' := 10) (fun _ => x_iconst rfl) ?_
    refine Ew_stk (show ([I (1), .ref (D 0)] : List Value) = [I (1), .ref (D3 0)] by rw [show D3 0 = D 0 from ((show D3 0 = D 0 from (eD3 0).trans (hD3 0 rfl)))]) ?_
    refine v_p H (o := 0) (z := 1) (v := I (1)) rfl rfl rfl rfl rfl rfl rfl (rfit_b (by omega)) (show (0 : Int) ≤ 1 ∧ 1 ≤ 1 by omega) (fun σ H O' => ?_)
    have O := OUT_trans O O'
    exact w_ret rfl (k _ _ _ _ _ _ _ H O (SD_trans (SD_refl) (SD_glu (ι := [0, 1]) hD3 eD3 (by decide +kernel)) (any_subA (l' := [1]) rfl)) (SD_trans (SD_refl) (SD_glu (ι := [0, 1]) hN3 eN3 (by decide +kernel)) (any_subA (l' := [1]) rfl)) (SF_upd (SF_trans (SF_refl) (SF_glu (ι := [0, 1]) hS3 eF3 (by decide +kernel)) (any_sub (l' := [(0, 0)]) rfl)) rfl) (SA_trans (SA_refl) (SA_glu (ι := [0, 1]) hA3 eA3 (by decide +kernel)) (any_subA (l' := [1]) rfl)) (pf3_0_0) (m3_1) ((congrArg (fun q : Nat => (q : Int)) (eN3 1)).trans em3_1) (u0_1) ((((show F3 0 1 = F 0 1 from (eF3 0 1).trans (hS3 0 1 rfl))).trans (eu0_1))) (show 0 ≤ (u0_1) ∧ (u0_1) ≤ (m3_1) ∧ (m3_1) ≤ 65536 by omega) (show (u0_1) = (u0_1) + a2 ∧ 0 ≤ a2 ∨ (u0_1) = (u0_1) ∧ (a2 < 0 ∨ 65536 < (u0_1) + a2) by omega))
abbrev V206 : vV := [(0, 10, [(4, 0), (4, 0), (4, 0), (4, 0), (0, 0), (4, 0), (0, 0), (2, 0), (0, 0)]), (1, 0, []), (0, 7, [(4, 0), (0, 0), (1, 0), (0, 0), (0, 0)]), (1, 0, [])]
/-- Tags.unpackBlock: this, this.in, this.result, this.result.bytes -/
theorem C206 {σE : rS} {D N : Nat → Nat} {F : hF} {A : hA} {d c s : Nat} {Q : wQ} (H : HW V206 σE D N F A) {a1 a2 a3 : Int} (pf1 : F 0 3 = (D 1 : Int)) (pf2 : F 0 5 = (D 2 : Int)) (pf3 : F 2 0 = (D 3 : Int)) (n1 : Int) (en1 : (N 1 : Int) = n1) (n3 : Int) (en3 : (N 3 : Int) = n3) (u2_1 : Int) (eu2_1 : F 2 1 = u2_1) (h0 : inr (a1)) (h1 : inr (a2)) (h2 : inr (a3)) (h3 : 0 ≤ (a1) ∧ (a1) ≤ (a2) ∧ (a2) ≤ (n1) ∧ (n1) ≤ 65536) (h4 : 0 ≤ (u2_1) ∧ (u2_1) ≤ (n3) ∧ (n3) ≤ 65536) (h5 : (a3) ≤ 65536) (k : ∀ (z : Int) (σ : rS) (D' N' : Nat → Nat) (F' : hF) (A' : hA) (c' s' : Nat), HW V206 σ D' N' F' A' → OUT (V206).length D N σE c s D' N' σ c' s' → SD [3] D D' → SD [3] N N' → SF [(0, 7), (0, 8), (2, 0), (2, 1), (2, 2)] F F' → SA [3] A A' → F' 2 0 = (D' 3 : Int) → ∀ m3 : Int, (N' 3 : Int) = m3 → ∀ y2_1 : Int, F' 2 1 = y2_1 → (inr (z)) → (0 ≤ (z) ∧ (z) ≤ 6) → (0 ≤ (y2_1) ∧ (y2_1) ≤ (m3) ∧ (m3) ≤ 65536) → ((u2_1) ≤ (y2_1)) → ((y2_1) ≤ (u2_1) + (a3) ∨ (y2_1) = (u2_1)) → Q (some (I z)) σ c' s') : Ew 206 (d + 3) 0 (rargs 0 [.ref (D 0), I a1, I a2, I a3]) [] σE c s Q := by
  have O := OUT_refl (n := (V206).length) (D := D) (N := N) (σ := σE) (c := c) (s := s)
  have HE := H
  have r1 : (-2147483648 : Int) ≤ u2_1 ∧ u2_1 ≤ 2147483647 := by have h1 : (-2147483648 : Int) ≤ F 2 1 ∧ F 2 1 ≤ 2147483647 := H.krg 2 1 (by decide); rw [show F 2 1 = u2_1 from (eu2_1)] at h1; exact h1
  have r2 : (0 : Int) ≤ n1 ∧ n1 ≤ 1000000 := by have h1 := H.nle 1 (by decide); have h2 : (N 1 : Int) = n1 := en1; omega
  have r3 : (0 : Int) ≤ n3 ∧ n3 ≤ 1000000 := by have h1 := H.nle 3 (by decide); have h2 : (N 3 : Int) = n3 := en3; omega
  refine Ew_of (pc' := 1) (fun _ => x_aload_n rfl rfl) ?_
  refine Ew_of (pc' := 2) (fun _ => x_iload_n rfl rfl) ?_
  refine Ew_of (pc' := 3) (fun _ => x_iload_n rfl rfl) ?_
  refine Ew_of (pc' := 4) (fun _ => x_iload_n rfl rfl) ?_
  have r4 : (-9223372036854775808 : Int) ≤ F 0 7 ∧ F 0 7 ≤ 9223372036854775807 := by have h1 : (-9223372036854775808 : Int) ≤ F 0 7 ∧ F 0 7 ≤ 9223372036854775807 := H.krg 0 7 (by decide); rw [show F 0 7 = F 0 7 from rfl] at h1; exact h1
  have r5 : (-2147483648 : Int) ≤ F 0 8 ∧ F 0 8 ≤ 2147483647 := by have h1 : (-2147483648 : Int) ≤ F 0 8 ∧ F 0 8 ≤ 2147483647 := H.krg 0 8 (by decide); rw [show F 0 8 = F 0 8 from rfl] at h1; exact h1
  refine v_inv H (o := 0) rfl rfl rfl rfl rfl rfl (by rfl) (C207 (D := pul [0, 1] D) (N := pul [0, 1] N) (HW_sub H (VS_of (show vsub V206 V207 [0, 1] = true by decide +kernel))) (pf1) (n1) (en1) (F 0 7) (rfl) (F 0 8) (rfl) (show inr (a1) by omega) (show inr (a2) by omega) (show inr (a3) by omega) (show 0 ≤ (a1) ∧ (a1) ≤ (a2) ∧ (a2) ≤ (n1) ∧ (n1) ≤ 65536 by omega) (fun z6 σ6 F6' A6' H' O' hS6 hA6 y6_0_7 ey6_0_7 y6_0_8 ey6_0_8 pz6_0 pz6_1 pz6_2 => ⟨rfl, ?_⟩))
  refine v_back (c := c) (s := s) H (show vsub V206 V207 [0, 1] = true by decide +kernel) H' O' (fun F6 A6 H O' eF6 eA6 => ?_)
  have O := OUT_trans O O'
  -- Tags.unpackLength
  have r7 : (-9223372036854775808 : Int) ≤ y6_0_7 ∧ y6_0_7 ≤ 9223372036854775807 := by have h1 : (-9223372036854775808 : Int) ≤ F6 0 7 ∧ F6 0 7 ≤ 9223372036854775807 := H.krg 0 7 (by decide); rw [show F6 0 7 = y6_0_7 from ((eF6 0 7).trans ey6_0_7)] at h1; exact h1
  have r8 : (-2147483648 : Int) ≤ y6_0_8 ∧ y6_0_8 ≤ 2147483647 := by have h1 : (-2147483648 : Int) ≤ F6 0 8 ∧ F6 0 8 ≤ 2147483647 := H.krg 0 8 (by decide); rw [show F6 0 8 = y6_0_8 from ((eF6 0 8).trans ey6_0_8)] at h1; exact h1
  refine Ew_of (pc' := 9) (fun _ => x_istore rfl) ?_
  refine Ew_of (pc' := 11) (fun _ => x_iload rfl rk_s) ?_
  refine w_ifeq (t := 17) rfl rfl (show inr (z6) by omega) (fun b9 => ?_) (fun b9 => ?_)
  · refine Ew_of (pc' := 18) (fun _ => x_aload_n rfl (rk_o (rfl) rfl rfl)) ?_
    refine v_g H (o := 0) (v := .ref (D 2)) rfl rfl rfl rfl rfl (vrf ((((show F6 0 5 = F 0 5 from (eF6 0 5).trans (hS6 0 5 rfl)))).trans (pf2))) ?_
    refine v_g H (o := 2) (v := I (u2_1)) rfl rfl rfl rfl rfl (congrArg (fun z : Int => I z) ((((show F6 2 1 = F 2 1 from (eF6 2 1))).trans (eu2_1)) : F6 2 1 = u2_1)) ?_
    refine Ew_of (pc' := 26) (fun _ => x_istore rfl) ?_
    refine Ew_of (pc' := 27) (fun _ => x_aload_n rfl (rk_o (rk_o (rfl) rfl rfl) rfl rfl)) ?_
    refine v_g H (o := 0) (v := I (y6_0_8)) rfl rfl rfl rfl rfl (congrArg (fun z : Int => I z) (((eF6 0 8).trans ey6_0_8) : F6 0 8 = y6_0_8)) ?_
    refine Ew_of (pc' := 32) (fun _ => x_istore rfl) ?_
    refine Ew_of (pc' := 33) (fun _ => x_iload_n rfl (rk_o (rk_o (rk_o (rfl) rfl rfl) rfl rfl) rfl rfl)) ?_
    refine Ew_of (pc' := 35) (fun _ => x_istore rfl) ?_
    suffices hl35 : ∀ (m : Nat), ∀ (ls : rO) (σ : rS) (D_35 N_35 : Nat → Nat) (c_35 s_35 : Nat) (F_35 : hF) (A_35 : hA) (x35_6 : Int) (x35_7 : Int), rlook ls 0 = some (.ref (D_35 0)) → rlook ls 2 = some (I (a2)) → rlook ls 5 = some (I (u2_1)) → rlook ls 6 = some (I (x35_6)) → rlook ls 7 = some (I (x35_7)) → HW V206 σ D_35 N_35 F_35 A_35 → OUT (V206).length D N σE c s D_35 N_35 σ c_35 s_35 → SD [3] D D_35 → SD [3] N N_35 → SF [(2, 0), (2, 1), (2, 2)] F6 F_35 → SA [3] A6 A_35 → F_35 2 0 = (D_35 3 : Int) → ∀ m35_3 : Int, (N_35 3 : Int) = m35_3 → ∀ y35_2_1 : Int, F_35 2 1 = y35_2_1 → (inr (x35_6)) → (inr (x35_7)) → ((a1) ≤ (x35_7)) → ((x35_7) ≤ (a1) ∨ (x35_7) ≤ ((a2))) → (0 ≤ (x35_6) ∧ (x35_6) ≤ (a2)) → (0 ≤ (y35_2_1) ∧ (y35_2_1) ≤ (m35_3) ∧ (m35_3) ≤ 65536) → ((u2_1) ≤ (y35_2_1) ∧ (u2_1) = (u2_1)) → ((y35_2_1) - (u2_1) ≤ (y6_0_7)) → (((a2)) - (x35_7)).toNat = m → Ew 206 (d + 3) 35 ls [] σ c_35 s_35 Q from
      hl35 _ _ _ _ _ _ _ _ _ (y6_0_8) (a1) (rk_o (rk_o (rk_o (rk_o (rfl) rfl rfl) rfl rfl) rfl rfl) rfl rfl) (rk_o (rk_o (rk_o (rk_o (rfl) rfl rfl) rfl rfl) rfl rfl) rfl rfl) (rk_o (rk_o (rk_s) rfl rfl) rfl rfl) (rk_o (rk_s) rfl rfl) (rk_s) H O (SD_refl) (SD_refl) (SF_refl) (SA_refl) ((((show F6 2 0 = F 2 0 from (eF6 2 0)))).trans (pf3)) (n3) (en3) (u2_1) ((((show F6 2 1 = F 2 1 from (eF6 2 1))).trans (eu2_1)))  (show inr (y6_0_8) by omega) (show inr (a1) by omega) (show (a1) ≤ (a1) by omega) (show (a1) ≤ (a1) ∨ (a1) ≤ ((a2)) by omega) (show 0 ≤ (y6_0_8) ∧ (y6_0_8) ≤ (a2) by omega) (show 0 ≤ (u2_1) ∧ (u2_1) ≤ (n3) ∧ (n3) ≤ 65536 by omega) (show (u2_1) ≤ (u2_1) ∧ (u2_1) = (u2_1) by omega) (show (u2_1) - (u2_1) ≤ (y6_0_7) by omega) rfl
    as_aux_lemma =>
    intro m
    induction m using Nat.strongRecOn with
    | _ m ih35 =>
      intro ls σ D_35 N_35 c_35 s_35 F_35 A_35 x35_6 x35_7 l35_0 l35_2 l35_5 l35_6 l35_7 H O hD_35 hN_35 hS_35 hA_35 pm35_3 m35_3 em35_3 y35_2_1 ey35_2_1  j35_0 j35_1 j35_2 j35_3 j35_4 j35_5 j35_6 j35_7 hm35
      have pf_35_0_3 : F_35 0 3 = (D_35 1 : Int) := (hS_35 0 3 rfl).trans (((((show F6 0 3 = F 0 3 from (eF6 0 3).trans (hS6 0 3 rfl)))).trans (pf1)).trans (congrArg (fun q : Nat => (q : Int)) (hD_35 1 rfl).symm))
      have pf_35_0_5 : F_35 0 5 = (D_35 2 : Int) := (hS_35 0 5 rfl).trans (((((show F6 0 5 = F 0 5 from (eF6 0 5).trans (hS6 0 5 rfl)))).trans (pf2)).trans (congrArg (fun q : Nat => (q : Int)) (hD_35 2 rfl).symm))
      have r10 : (0 : Int) ≤ m35_3 ∧ m35_3 ≤ 1000000 := by have h1 := H.nle 3 (by decide); have h2 : (N_35 3 : Int) = m35_3 := em35_3; omega
      have r11 : (-2147483648 : Int) ≤ y35_2_1 ∧ y35_2_1 ≤ 2147483647 := by have h1 : (-2147483648 : Int) ≤ F_35 2 1 ∧ F_35 2 1 ≤ 2147483647 := H.krg 2 1 (by decide); rw [show F_35 2 1 = y35_2_1 from (ey35_2_1)] at h1; exact h1
      refine Ew_of (pc' := 37) (fun _ => x_iload rfl l35_7) ?_
      refine Ew_of (pc' := 38) (fun _ => x_iload_n rfl l35_2) ?_
      have hc300 : ∀ (ls : rO) (σ : rS) (F_c300 : hF) (A_c300 : hA) , rlook ls 0 = some (.ref (D_35 0)) → rlook ls 2 = some (I (a2)) → rlook ls 5 = some (I (u2_1)) → HW V206 σ D_35 N_35 F_c300 A_c300 → OUT (V206).length D N σE c s D_35 N_35 σ c_35 s_35 → SF [] F_35 F_c300 → SA [] A_35 A_c300 → (((x35_7) ≥ (a2)) ∨ ((x35_7) < (a2) ∧ (x35_6) ≥ (a2))) → Ew 206 (d + 3) 300 ls [] σ c_35 s_35 Q := by
       as_aux_lemma =>
        intro  ls σ F_c300 A_c300  lc300_0 lc300_2 lc300_5 H O hS_c300 hA_c300     jc300_0
        refine Ew_of (pc' := 301) (fun _ => x_aload_n rfl lc300_0) ?_
        refine v_g H (o := 0) (v := .ref (D_35 2)) rfl rfl rfl rfl rfl (vrf (((hS_c300 0 5 rfl)).trans (pf_35_0_5))) ?_
        refine v_g H (o := 2) (v := I (y35_2_1)) rfl rfl rfl rfl rfl (congrArg (fun z : Int => I z) (((hS_c300 2 1 rfl).trans (ey35_2_1)) : F_c300 2 1 = y35_2_1)) ?_
        refine Ew_of (pc' := 309) (fun _ => x_iload rfl lc300_5) ?_
        refine w_isub rfl ?_
        refine w_i2l rfl (show inr ((y35_2_1 - u2_1)) by omega) ?_
        refine Ew_of (pc' := 312) (fun _ => x_aload_n rfl lc300_0) ?_
        refine v_g H (o := 0) (v := J (y6_0_7)) rfl rfl rfl rfl rfl (congrArg (fun z : Int => J z) ((((hS_c300 0 7 rfl).trans (hS_35 0 7 rfl)).trans ((eF6 0 7).trans ey6_0_7)) : F_c300 0 7 = y6_0_7)) ?_
        refine w_lcmp rfl (show inrJ ((y35_2_1 - u2_1)) by omega) (show inrJ (y6_0_7) by omega) (fun z12 gz12 gaz12 gbz12 => ?_)
        refine w_ifge (t := 329) rfl rfl (show inr (z12) by omega) (fun b13 => ?_) (fun b13 => ?_)
        · refine Ew_of (pc' := 330) (fun _ => x_aload_n rfl lc300_0) ?_
          refine Ew_of (pc' := 331) (fun _ => x_iconst rfl) ?_
          refine Ew_of (pc' := 332) (fun _ => x_iload_n rfl lc300_2) ?_
          refine v_inv H (o := 0) rfl rfl rfl rfl rfl rfl (by rfl) (C203 (D := pul [0] D_35) (N := pul [0] N_35) (HW_sub H (VS_of (show vsub V206 V203 [0] = true by decide +kernel))) (y6_0_8) ((((hS_c300 0 8 rfl).trans (hS_35 0 8 rfl)).trans ((eF6 0 8).trans ey6_0_8))) (show inr (0) by omega) (show inr (a2) by omega) (fun z14 σ14 F14' A14' H' O' hS14 hA14 y14_0_8 ey14_0_8 pz14_0 pz14_1 pz14_2 => ⟨rfl, ?_⟩))
          refine v_back (c := c_35) (s := s_35) H (show vsub V206 V203 [0] = true by decide +kernel) H' O' (fun F14 A14 H O' eF14 eA14 => ?_)
          have O := OUT_trans O O'
          -- Tags.fail
          have r15 : (-2147483648 : Int) ≤ y14_0_8 ∧ y14_0_8 ≤ 2147483647 := by have h1 : (-2147483648 : Int) ≤ F14 0 8 ∧ F14 0 8 ≤ 2147483647 := H.krg 0 8 (by decide); rw [show F14 0 8 = y14_0_8 from ((eF14 0 8).trans ey14_0_8)] at h1; exact h1
          exact w_ireturn rfl (k (z14) _ _ _ _ _ _ _ H O (SD_trans (SD_refl) hD_35 (any_subA rfl)) (SD_trans (SD_refl) hN_35 (any_subA rfl)) (SF_trans (SF_trans (SF_trans (SF_trans (SF_refl) (SF_glu (ι := [0, 1]) hS6 eF6 (by decide +kernel)) (any_sub (l' := [(0, 7), (0, 8)]) rfl)) hS_35 (any_sub rfl)) hS_c300 (any_sub rfl)) (SF_glu (ι := [0]) hS14 eF14 (by decide +kernel)) (any_sub (l' := [(0, 8)]) rfl)) (SA_trans (SA_trans (SA_trans (SA_trans (SA_refl) (SA_glu (ι := [0, 1]) hA6 eA6 (by decide +kernel)) (any_subA (l' := []) rfl)) hA_35 (any_subA rfl)) hA_c300 (any_subA rfl)) (SA_glu (ι := [0]) hA14 eA14 (by decide +kernel)) (any_subA (l' := []) rfl)) (((((show F14 2 0 = F_c300 2 0 from (eF14 2 0))).trans (hS_c300 2 0 rfl))).trans (pm35_3)) (m35_3) (em35_3) (y35_2_1) (((((show F14 2 1 = F_c300 2 1 from (eF14 2 1))).trans (hS_c300 2 1 rfl)).trans (ey35_2_1))) (show inr (z14) by omega) (show 0 ≤ (z14) ∧ (z14) ≤ 6 by omega) (show 0 ≤ (y35_2_1) ∧ (y35_2_1) ≤ (m35_3) ∧ (m35_3) ≤ 65536 by omega) (show (u2_1) ≤ (y35_2_1) by omega) (show (y35_2_1) ≤ (u2_1) + a3 ∨ (y35_2_1) = (u2_1) by omega))
        · refine Ew_of (pc' := 320) (fun _ => x_aload_n rfl lc300_0) ?_
          refine Ew_of (pc' := 322) (fun _ => x_bipush (z := 6) rfl (by decide)) ?_
          refine Ew_of (pc' := 323) (fun _ => x_iload_n rfl lc300_2) ?_
          refine v_inv H (o := 0) rfl rfl rfl rfl rfl rfl (by rfl) (C203 (D := pul [0] D_35) (N := pul [0] N_35) (HW_sub H (VS_of (show vsub V206 V203 [0] = true by decide +kernel))) (y6_0_8) ((((hS_c300 0 8 rfl).trans (hS_35 0 8 rfl)).trans ((eF6 0 8).trans ey6_0_8))) (show inr (6) by omega) (show inr (a2) by omega) (fun z16 σ16 F16' A16' H' O' hS16 hA16 y16_0_8 ey16_0_8 pz16_0 pz16_1 pz16_2 => ⟨rfl, ?_⟩))
          refine v_back (c := c_35) (s := s_35) H (show vsub V206 V203 [0] = true by decide +kernel) H' O' (fun F16 A16 H O' eF16 eA16 => ?_)
          have O := OUT_trans O O'
          -- Tags.fail
          have r17 : (-2147483648 : Int) ≤ y16_0_8 ∧ y16_0_8 ≤ 2147483647 := by have h1 : (-2147483648 : Int) ≤ F16 0 8 ∧ F16 0 8 ≤ 2147483647 := H.krg 0 8 (by decide); rw [show F16 0 8 = y16_0_8 from ((eF16 0 8).trans ey16_0_8)] at h1; exact h1
          refine Ew_of (pc' := 335) (fun _ => x_goto rfl rfl) ?_
          exact w_ireturn rfl (k (z16) _ _ _ _ _ _ _ H O (SD_trans (SD_refl) hD_35 (any_subA rfl)) (SD_trans (SD_refl) hN_35 (any_subA rfl)) (SF_trans (SF_trans (SF_trans (SF_trans (SF_refl) (SF_glu (ι := [0, 1]) hS6 eF6 (by decide +kernel)) (any_sub (l' := [(0, 7), (0, 8)]) rfl)) hS_35 (any_sub rfl)) hS_c300 (any_sub rfl)) (SF_glu (ι := [0]) hS16 eF16 (by decide +kernel)) (any_sub (l' := [(0, 8)]) rfl)) (SA_trans (SA_trans (SA_trans (SA_trans (SA_refl) (SA_glu (ι := [0, 1]) hA6 eA6 (by decide +kernel)) (any_subA (l' := []) rfl)) hA_35 (any_subA rfl)) hA_c300 (any_subA rfl)) (SA_glu (ι := [0]) hA16 eA16 (by decide +kernel)) (any_subA (l' := []) rfl)) (((((show F16 2 0 = F_c300 2 0 from (eF16 2 0))).trans (hS_c300 2 0 rfl))).trans (pm35_3)) (m35_3) (em35_3) (y35_2_1) (((((show F16 2 1 = F_c300 2 1 from (eF16 2 1))).trans (hS_c300 2 1 rfl)).trans (ey35_2_1))) (show inr (z16) by omega) (show 0 ≤ (z16) ∧ (z16) ≤ 6 by omega) (show 0 ≤ (y35_2_1) ∧ (y35_2_1) ≤ (m35_3) ∧ (m35_3) ≤ 65536 by omega) (show (u2_1) ≤ (y35_2_1) by omega) (show (y35_2_1) ≤ (u2_1) + a3 ∨ (y35_2_1) = (u2_1) by omega))
      refine w_icmpge (t := 300) rfl rfl (show inr (x35_7) by omega) (show inr (a2) by omega) (fun b18 => ?_) (fun b18 => ?_)
      · exact hc300  _ _ _ _  (l35_0) (l35_2) (l35_5) H O (SF_refl) (SA_refl)     (show ((x35_7) ≥ (a2)) ∨ ((x35_7) < (a2) ∧ (x35_6) ≥ (a2)) by omega)
      · refine Ew_of (pc' := 43) (fun _ => x_iload rfl l35_6) ?_
        refine Ew_of (pc' := 44) (fun _ => x_iload_n rfl l35_2) ?_
        refine w_icmpge (t := 300) rfl rfl (show inr (x35_6) by omega) (show inr (a2) by omega) (fun b19 => ?_) (fun b19 => ?_)
        · exact hc300  _ _ _ _  (l35_0) (l35_2) (l35_5) H O (SF_refl) (SA_refl)     (show ((x35_7) ≥ (a2)) ∨ ((x35_7) < (a2) ∧ (x35_6) ≥ (a2)) by omega)
        · refine Ew_of (pc' := 48) (fun _ => x_aload_n rfl l35_0) ?_
          refine v_g H (o := 0) (v := .ref (D_35 1)) rfl rfl rfl rfl rfl (vrf (pf_35_0_3)) ?_
          refine Ew_of (pc' := 53) (fun _ => x_iload rfl l35_6) ?_
          refine v_lB H (o := 1) rfl rfl rfl rfl (n := n1) ((congrArg (fun q : Nat => (q : Int)) (hN_35 1 rfl)).trans (en1)) (show 0 ≤ x35_6 ∧ x35_6 < n1 by omega) (fun v20 ev20 qv20 => ?_)
          have ev20 : (A 1) (x35_6) = v20 := (congrFun ((funext (hA_35 1 rfl)).trans ((show A6 1 = A 1 from (eA6 1).trans (funext (hA6 1 rfl))))) (x35_6)).symm.trans ev20
          refine Ew_of (pc' := 57) (fun _ => x_sipush (z := 255) rfl (by decide)) ?_
          refine w_iand rfl (show inr (v20) by omega) (show inr (255) by omega) (fun z21 gz21 gaz21 gbz21 => ?_)
          refine Ew_of (pc' := 60) (fun _ => x_istore rfl) ?_
          refine Ew_of (pc' := 62) (fun _ => x_iload rfl rk_s) ?_
          refine w_stat24 rfl rfl (by rfl) (C208 (D := pul [] D_35) (N := pul [] N_35) (HW_sub H (VS_of (show vsub V206 V208 [] = true by decide +kernel))) (show inr (z21) by omega) (show 0 ≤ (z21) ∧ (z21) ≤ 255 by omega) (fun z22 σ22 F22' A22' H' O' hS22 hA22 pz22_0 pz22_1 => ⟨rfl, ?_⟩))
          refine v_back (c := c_35) (s := s_35) H (show vsub V206 V208 [] = true by decide +kernel) H' O' (fun F22 A22 H O' eF22 eA22 => ?_)
          have O := OUT_trans O O'
          -- Tags.bytesBehind
          refine Ew_of (pc' := 67) (fun _ => x_istore rfl) ?_
          refine Ew_of (pc' := 68) (fun _ => x_iload_n rfl (rk_o (rk_o (l35_2) rfl rfl) rfl rfl)) ?_
          refine Ew_of (pc' := 70) (fun _ => x_iload rfl (rk_o (rk_o (l35_6) rfl rfl) rfl rfl)) ?_
          refine w_isub rfl ?_
          refine Ew_of (pc' := 72) (fun _ => x_iconst rfl) ?_
          refine w_isub rfl ?_
          refine Ew_of (pc' := 75) (fun _ => x_iload rfl rk_s) ?_
          refine w_icmpge (t := 85) rfl rfl (show inr (((a2 - x35_6) - 1)) by omega) (show inr (z22) by omega) (fun b23 => ?_) (fun b23 => ?_)
          · refine Ew_of (pc' := 86) (fun _ => x_aload_n rfl (rk_o (rk_o (l35_0) rfl rfl) rfl rfl)) ?_
            refine v_g H (o := 0) (v := .ref (D_35 1)) rfl rfl rfl rfl rfl (vrf ((((show F22 0 3 = F_35 0 3 from (eF22 0 3)))).trans (pf_35_0_3))) ?_
            refine Ew_of (pc' := 91) (fun _ => x_iload rfl (rk_o (rk_o (l35_6) rfl rfl) rfl rfl)) ?_
            refine Ew_of (pc' := 92) (fun _ => x_iconst rfl) ?_
            refine w_iadd rfl ?_
            refine Ew_of (pc' := 95) (fun _ => x_iload rfl rk_s) ?_
            refine w_stat25 rfl rfl (by rfl) (C42_Br (D := pul [1] D_35) (N := pul [1] N_35) (HW_sub H (VS_of (show vsub V206 V42_Br [1] = true by decide +kernel))) (n1) ((congrArg (fun q : Nat => (q : Int)) (hN_35 1 rfl)).trans (en1)) (show inr ((x35_6 + 1)) by omega) (show inr (z22) by omega) (show (z22) ≤ 0 ∨ 0 ≤ ((x35_6 + 1)) ∧ ((x35_6 + 1)) + (z22) ≤ (n1) by omega) (show 0 ≤ (z22) by omega) (fun z24 σ24 F24' A24' H' O' hS24 hA24 pz24_0 pz24_1 => ⟨rfl, ?_⟩))
            refine v_back (c := c_35) (s := s_35) H (show vsub V206 V42_Br [1] = true by decide +kernel) H' O' (fun F24 A24 H O' eF24 eA24 => ?_)
            have O := OUT_trans O O'
            -- PackHouse.number
            have hnb : 0 ≤ (z24) ∧ (z24) ≤ 4294967295 := nb4 (NBY_up pz24_1 (by omega) (by omega))
            refine Ew_of (pc' := 100) (fun _ => x_lstore rfl) ?_
            refine Ew_of (pc' := 102) (fun _ => x_iload rfl (rk2_o (rk_o (rk_s) rfl rfl) rfl rfl)) ?_
            refine Ew_of (pc' := 104) (fun _ => x_lload rfl rk2_s) ?_
            refine w_stat24 rfl rfl (by rfl) (C209 (D := pul [] D_35) (N := pul [] N_35) (HW_sub H (VS_of (show vsub V206 V209 [] = true by decide +kernel))) (show inr (z21) by omega) (show inrJ (z24) by omega) (show 0 ≤ (z21) ∧ (z21) ≤ 255 by omega) (show 0 ≤ (z24) ∧ (z24) ≤ 4294967295 by omega) (fun z25 σ25 F25' A25' H' O' hS25 hA25 pz25_0 pz25_1 => ⟨rfl, ?_⟩))
            refine v_back (c := c_35) (s := s_35) H (show vsub V206 V209 [] = true by decide +kernel) H' O' (fun F25 A25 H O' eF25 eA25 => ?_)
            have O := OUT_trans O O'
            -- Tags.lengthOf
            refine Ew_of (pc' := 109) (fun _ => x_lstore rfl) ?_
            refine Ew_of (pc' := 111) (fun _ => x_iload rfl (rk2_o (rk2_o (rk_o (rk_s) rfl rfl) rfl rfl) rfl rfl)) ?_
            refine Ew_of (pc' := 112) (fun _ => x_iconst rfl) ?_
            refine w_iand rfl (show inr (z21) by omega) (show inr (3) by omega) (fun z26 gz26 gaz26 gbz26 => ?_)
            have hc121 : ∀ (tc121_0 : Int), ∀ (ls : rO) (σ : rS) (F_c121 : hF) (A_c121 : hA) , rlook ls 0 = some (.ref (D_35 0)) → rlook ls 2 = some (I (a2)) → rlook ls 5 = some (I (u2_1)) → rlook ls 6 = some (I (x35_6)) → rlook ls 7 = some (I (x35_7)) → rlook ls 8 = some (I (z21)) → rlook ls 9 = some (I (z22)) → rlook ls 10 = some (J (z24)) → rlook ls 12 = some (J (z25)) → HW V206 σ D_35 N_35 F_c121 A_c121 → OUT (V206).length D N σE c s D_35 N_35 σ c_35 s_35 → SF [] F25 F_c121 → SA [] A25 A_c121 → (inr (tc121_0)) → (((z26) = (0) ∧ (tc121_0) = (0)) ∨ ((z26) ≠ (0) ∧ (tc121_0) = (1))) → Ew 206 (d + 3) 121 ls [I (tc121_0)] σ c_35 s_35 Q := by
             as_aux_lemma =>
              intro tc121_0 ls σ F_c121 A_c121  lc121_0 lc121_2 lc121_5 lc121_6 lc121_7 lc121_8 lc121_9 lc121_10 lc121_12 H O hS_c121 hA_c121     jc121_0 jc121_1
              refine Ew_of (pc' := 123) (fun _ => x_istore rfl) ?_
              have hc147 : ∀ (tc147_0 : Int), ∀ (ls : rO) (σ : rS) (F_c147 : hF) (A_c147 : hA) , rlook ls 0 = some (.ref (D_35 0)) → rlook ls 2 = some (I (a2)) → rlook ls 5 = some (I (u2_1)) → rlook ls 6 = some (I (x35_6)) → rlook ls 7 = some (I (x35_7)) → rlook ls 9 = some (I (z22)) → rlook ls 12 = some (J (z25)) → rlook ls 14 = some (I (tc121_0)) → HW V206 σ D_35 N_35 F_c147 A_c147 → OUT (V206).length D N σE c s D_35 N_35 σ c_35 s_35 → SF [] F_c121 F_c147 → SA [] A_c121 A_c147 → (inrJ (tc147_0)) → (0 ≤ (tc147_0) ∧ (tc147_0) ≤ 4294969343) → Ew 206 (d + 3) 147 ls [J (tc147_0)] σ c_35 s_35 Q := by
               as_aux_lemma =>
                intro tc147_0 ls σ F_c147 A_c147  lc147_0 lc147_2 lc147_5 lc147_6 lc147_7 lc147_9 lc147_12 lc147_14 H O hS_c147 hA_c147     jc147_0 jc147_1
                refine Ew_of (pc' := 149) (fun _ => x_lstore rfl) ?_
                refine Ew_of (pc' := 151) (fun _ => x_iload rfl (rk2_o (lc147_14) rfl rfl)) ?_
                have hc186 : ∀ (ls : rO) (σ : rS) (F_c186 : hF) (A_c186 : hA) , rlook ls 0 = some (.ref (D_35 0)) → rlook ls 2 = some (I (a2)) → rlook ls 5 = some (I (u2_1)) → rlook ls 6 = some (I (x35_6)) → rlook ls 7 = some (I (x35_7)) → rlook ls 9 = some (I (z22)) → rlook ls 12 = some (J (z25)) → rlook ls 14 = some (I (tc121_0)) → rlook ls 15 = some (J (tc147_0)) → HW V206 σ D_35 N_35 F_c186 A_c186 → OUT (V206).length D N σE c s D_35 N_35 σ c_35 s_35 → SF [] F_c147 F_c186 → SA [] A_c147 A_c186 → (((tc121_0) = (0)) ∨ ((tc121_0) ≠ (0) ∧ (tc147_0) ≠ (0) ∧ (tc147_0) ≤ ((y35_2_1 - u2_1)))) → Ew 206 (d + 3) 186 ls [] σ c_35 s_35 Q := by
                 as_aux_lemma =>
                  intro  ls σ F_c186 A_c186  lc186_0 lc186_2 lc186_5 lc186_6 lc186_7 lc186_9 lc186_12 lc186_14 lc186_15 H O hS_c186 hA_c186     jc186_0
                  refine Ew_of (pc' := 188) (fun _ => x_lload rfl lc186_12) ?_
                  refine Ew_of (pc' := 189) (fun _ => x_aload_n rfl lc186_0) ?_
                  refine v_g H (o := 0) (v := J (y6_0_7)) rfl rfl rfl rfl rfl (congrArg (fun z : Int => J z) (((((((((hS_c186 0 7 rfl).trans (hS_c147 0 7 rfl)).trans (hS_c121 0 7 rfl)).trans ((show F25 0 7 = F24 0 7 from (eF25 0 7)))).trans ((show F24 0 7 = F22 0 7 from (eF24 0 7)))).trans ((show F22 0 7 = F_35 0 7 from (eF22 0 7)))).trans (hS_35 0 7 rfl)).trans ((eF6 0 7).trans ey6_0_7)) : F_c186 0 7 = y6_0_7)) ?_
                  refine Ew_of (pc' := 193) (fun _ => x_aload_n rfl lc186_0) ?_
                  refine v_g H (o := 0) (v := .ref (D_35 2)) rfl rfl rfl rfl rfl (vrf ((((((((hS_c186 0 5 rfl).trans (hS_c147 0 5 rfl)).trans (hS_c121 0 5 rfl)).trans ((show F25 0 5 = F24 0 5 from (eF25 0 5)))).trans ((show F24 0 5 = F22 0 5 from (eF24 0 5)))).trans ((show F22 0 5 = F_35 0 5 from (eF22 0 5))))).trans (pf_35_0_5))) ?_
                  refine v_g H (o := 2) (v := I (y35_2_1)) rfl rfl rfl rfl rfl (congrArg (fun z : Int => I z) ((((((((hS_c186 2 1 rfl).trans (hS_c147 2 1 rfl)).trans (hS_c121 2 1 rfl)).trans ((show F25 2 1 = F24 2 1 from (eF25 2 1)))).trans ((show F24 2 1 = F22 2 1 from (eF24 2 1)))).trans ((show F22 2 1 = F_35 2 1 from (eF22 2 1)))).trans (ey35_2_1)) : F_c186 2 1 = y35_2_1)) ?_
                  refine Ew_of (pc' := 201) (fun _ => x_iload rfl lc186_5) ?_
                  refine w_isub rfl ?_
                  refine w_i2l rfl (show inr ((y35_2_1 - u2_1)) by omega) ?_
                  refine w_lsub rfl ?_
                  refine w_lcmp rfl (show inrJ (z25) by omega) (show inrJ ((y6_0_7 - (y35_2_1 - u2_1))) by omega) (fun z27 gz27 gaz27 gbz27 => ?_)
                  refine w_ifle (t := 216) rfl rfl (show inr (z27) by omega) (fun b28 => ?_) (fun b28 => ?_)
                  · refine Ew_of (pc' := 218) (fun _ => x_iload rfl lc186_6) ?_
                    refine Ew_of (pc' := 219) (fun _ => x_iconst rfl) ?_
                    refine Ew_of (pc' := 221) (fun _ => x_iload rfl lc186_9) ?_
                    refine w_iadd rfl ?_
                    refine w_iadd rfl ?_
                    refine Ew_of (pc' := 225) (fun _ => x_istore rfl) ?_
                    have hc294 : ∀ (ls : rO) (σ : rS) (D_c294 N_c294 : Nat → Nat) (c_c294 s_c294 : Nat) (F_c294 : hF) (A_c294 : hA) (xc294_6 : Int), rlook ls 0 = some (.ref (D_c294 0)) → rlook ls 2 = some (I (a2)) → rlook ls 5 = some (I (u2_1)) → rlook ls 6 = some (I (xc294_6)) → rlook ls 7 = some (I (x35_7)) → HW V206 σ D_c294 N_c294 F_c294 A_c294 → OUT (V206).length D N σE c s D_c294 N_c294 σ c_c294 s_c294 → SD [3] D_35 D_c294 → SD [3] N_35 N_c294 → SF [(2, 0), (2, 1), (2, 2)] F_c186 F_c294 → SA [3] A_c186 A_c294 → F_c294 2 0 = (D_c294 3 : Int) → ∀ mc294_3 : Int, (N_c294 3 : Int) = mc294_3 → ∀ yc294_2_1 : Int, F_c294 2 1 = yc294_2_1 → (inr (xc294_6)) → (0 ≤ (xc294_6) ∧ (xc294_6) ≤ (a2)) → (0 ≤ (yc294_2_1) ∧ (yc294_2_1) ≤ (mc294_3) ∧ (mc294_3) ≤ 65536) → ((u2_1) ≤ (yc294_2_1) ∧ (u2_1) = (u2_1)) → ((yc294_2_1) - (u2_1) ≤ (y6_0_7)) → Ew 206 (d + 3) 294 ls [] σ c_c294 s_c294 Q := by
                     as_aux_lemma =>
                      intro  ls σ D_c294 N_c294 c_c294 s_c294 F_c294 A_c294 xc294_6 lc294_0 lc294_2 lc294_5 lc294_6 lc294_7 H O hD_c294 hN_c294 hS_c294 hA_c294 pmc294_3 mc294_3 emc294_3 yc294_2_1 eyc294_2_1  jc294_0 jc294_1 jc294_2 jc294_3 jc294_4
                      have pf_c294_0_3 : F_c294 0 3 = (D_c294 1 : Int) := (hS_c294 0 3 rfl).trans (((((((((hS_c186 0 3 rfl).trans (hS_c147 0 3 rfl)).trans (hS_c121 0 3 rfl)).trans ((show F25 0 3 = F24 0 3 from (eF25 0 3)))).trans ((show F24 0 3 = F22 0 3 from (eF24 0 3)))).trans ((show F22 0 3 = F_35 0 3 from (eF22 0 3))))).trans (pf_35_0_3)).trans (congrArg (fun q : Nat => (q : Int)) (hD_c294 1 rfl).symm))
                      have pf_c294_0_5 : F_c294 0 5 = (D_c294 2 : Int) := (hS_c294 0 5 rfl).trans (((((((((hS_c186 0 5 rfl).trans (hS_c147 0 5 rfl)).trans (hS_c121 0 5 rfl)).trans ((show F25 0 5 = F24 0 5 from (eF25 0 5)))).trans ((show F24 0 5 = F22 0 5 from (eF24 0 5)))).trans ((show F22 0 5 = F_35 0 5 from (eF22 0 5))))).trans (pf_35_0_5)).trans (congrArg (fun q : Nat => (q : Int)) (hD_c294 2 rfl).symm))
                      have r29 : (0 : Int) ≤ mc294_3 ∧ mc294_3 ≤ 1000000 := by have h1 := H.nle 3 (by decide); have h2 : (N_c294 3 : Int) = mc294_3 := emc294_3; omega
                      have r30 : (-2147483648 : Int) ≤ yc294_2_1 ∧ yc294_2_1 ≤ 2147483647 := by have h1 : (-2147483648 : Int) ≤ F_c294 2 1 ∧ F_c294 2 1 ≤ 2147483647 := H.krg 2 1 (by decide); rw [show F_c294 2 1 = yc294_2_1 from (eyc294_2_1)] at h1; exact h1
                      refine Ew_of (pc' := 297) (fun _ => x_iinc (len := 3) rfl (lc294_7)) ?_
                      refine Ew_of (pc' := 35) (fun _ => x_goto rfl rfl) ?_
                      exact ih35 _ (by omega) _ _ _ _ _ _ _ _ (xc294_6) ((x35_7 + 1)) (rk_o (lc294_0) rfl rfl) (rk_o (lc294_2) rfl rfl) (rk_o (lc294_5) rfl rfl) (rk_o (lc294_6) rfl rfl) (rk_s) H O (SD_trans (hD_35) hD_c294 (any_subA rfl)) (SD_trans (hN_35) hN_c294 (any_subA rfl)) (SF_trans (SF_trans (SF_trans (SF_trans (SF_trans (SF_trans (SF_trans (hS_35) (SF_glu (ι := []) hS22 eF22 (by decide +kernel)) (any_sub (l' := []) rfl)) (SF_glu (ι := [1]) hS24 eF24 (by decide +kernel)) (any_sub (l' := []) rfl)) (SF_glu (ι := []) hS25 eF25 (by decide +kernel)) (any_sub (l' := []) rfl)) hS_c121 (any_sub rfl)) hS_c147 (any_sub rfl)) hS_c186 (any_sub rfl)) hS_c294 (any_sub rfl)) (SA_trans (SA_trans (SA_trans (SA_trans (SA_trans (SA_trans (SA_trans (hA_35) (SA_glu (ι := []) hA22 eA22 (by decide +kernel)) (any_subA (l' := []) rfl)) (SA_glu (ι := [1]) hA24 eA24 (by decide +kernel)) (any_subA (l' := []) rfl)) (SA_glu (ι := []) hA25 eA25 (by decide +kernel)) (any_subA (l' := []) rfl)) hA_c121 (any_subA rfl)) hA_c147 (any_subA rfl)) hA_c186 (any_subA rfl)) hA_c294 (any_subA rfl)) (pmc294_3) (mc294_3) (emc294_3) (yc294_2_1) ((eyc294_2_1))  (show inr (xc294_6) by omega) (show inr ((x35_7 + 1)) by omega) (show (a1) ≤ ((x35_7 + 1)) by omega) (show ((x35_7 + 1)) ≤ (a1) ∨ ((x35_7 + 1)) ≤ ((a2)) by omega) (show 0 ≤ (xc294_6) ∧ (xc294_6) ≤ (a2) by omega) (show 0 ≤ (yc294_2_1) ∧ (yc294_2_1) ≤ (mc294_3) ∧ (mc294_3) ≤ 65536 by omega) (show (u2_1) ≤ (yc294_2_1) ∧ (u2_1) = (u2_1) by omega) (show (yc294_2_1) - (u2_1) ≤ (y6_0_7) by omega) rfl
                    refine Ew_of (pc' := 227) (fun _ => x_iload rfl (rk_o (lc186_14) rfl rfl)) ?_
                    refine w_ifeq (t := 252) rfl rfl (show inr (tc121_0) by omega) (fun b31 => ?_) (fun b31 => ?_)
                    · refine Ew_of (pc' := 254) (fun _ => x_lload rfl (rk_o (lc186_12) rfl rfl)) ?_
                      refine Ew_of (pc' := 255) (fun _ => x_iload_n rfl (rk_o (lc186_2) rfl rfl)) ?_
                      refine Ew_of (pc' := 257) (fun _ => x_iload rfl rk_s) ?_
                      refine w_isub rfl ?_
                      refine w_i2l rfl (show inr ((a2 - (x35_6 + (1 + z22)))) by omega) ?_
                      refine w_lcmp rfl (show inrJ (z25) by omega) (show inrJ ((a2 - (x35_6 + (1 + z22)))) by omega) (fun z32 gz32 gaz32 gbz32 => ?_)
                      refine w_ifle (t := 270) rfl rfl (show inr (z32) by omega) (fun b33 => ?_) (fun b33 => ?_)
                      · refine Ew_of (pc' := 271) (fun _ => x_aload_n rfl (rk_o (lc186_0) rfl rfl)) ?_
                        refine v_g H (o := 0) (v := .ref (D_35 2)) rfl rfl rfl rfl rfl (vrf ((((((((hS_c186 0 5 rfl).trans (hS_c147 0 5 rfl)).trans (hS_c121 0 5 rfl)).trans ((show F25 0 5 = F24 0 5 from (eF25 0 5)))).trans ((show F24 0 5 = F22 0 5 from (eF24 0 5)))).trans ((show F22 0 5 = F_35 0 5 from (eF22 0 5))))).trans (pf_35_0_5))) ?_
                        refine Ew_of (pc' := 275) (fun _ => x_aload_n rfl (rk_o (lc186_0) rfl rfl)) ?_
                        refine v_g H (o := 0) (v := .ref (D_35 1)) rfl rfl rfl rfl rfl (vrf ((((((((hS_c186 0 3 rfl).trans (hS_c147 0 3 rfl)).trans (hS_c121 0 3 rfl)).trans ((show F25 0 3 = F24 0 3 from (eF25 0 3)))).trans ((show F24 0 3 = F22 0 3 from (eF24 0 3)))).trans ((show F22 0 3 = F_35 0 3 from (eF22 0 3))))).trans (pf_35_0_3))) ?_
                        refine Ew_of (pc' := 280) (fun _ => x_iload rfl rk_s) ?_
                        refine Ew_of (pc' := 282) (fun _ => x_lload rfl (rk_o (lc186_12) rfl rfl)) ?_
                        refine w_l2i rfl ?_
                        refine v_inv H (o := 2) rfl rfl rfl rfl rfl rfl (by rfl) (C161_Br (D := pul [2, 1, 3] D_35) (N := pul [2, 1, 3] N_35) (HW_sub H (VS_of (show vsub V206 V161_Br [2, 1, 3] = true by decide +kernel))) ((((((((hS_c186 2 0 rfl).trans (hS_c147 2 0 rfl)).trans (hS_c121 2 0 rfl)).trans ((show F25 2 0 = F24 2 0 from (eF25 2 0)))).trans ((show F24 2 0 = F22 2 0 from (eF24 2 0)))).trans ((show F22 2 0 = F_35 2 0 from (eF22 2 0))))).trans (pm35_3)) (n1) ((congrArg (fun q : Nat => (q : Int)) (hN_35 1 rfl)).trans (en1)) (m35_3) (em35_3) (y35_2_1) ((((((((hS_c186 2 1 rfl).trans (hS_c147 2 1 rfl)).trans (hS_c121 2 1 rfl)).trans ((show F25 2 1 = F24 2 1 from (eF25 2 1)))).trans ((show F24 2 1 = F22 2 1 from (eF24 2 1)))).trans ((show F22 2 1 = F_35 2 1 from (eF22 2 1)))).trans (ey35_2_1))) (A_35 3) ((funext (hA_c186 3 rfl)).trans ((funext (hA_c147 3 rfl)).trans ((funext (hA_c121 3 rfl)).trans (((show A25 3 = A24 3 from (eA25 3))).trans (((show A24 3 = A22 3 from (eA24 3))).trans ((show A22 3 = A_35 3 from (eA22 3)))))))) (show inr ((x35_6 + (1 + z22))) by omega) (show inr (z25) by omega) (show 0 ≤ (y35_2_1) ∧ (y35_2_1) ≤ (m35_3) ∧ (m35_3) ≤ 65536 by omega) (show (z25) < 0 ∨ 0 ≤ ((x35_6 + (1 + z22))) ∧ ((x35_6 + (1 + z22))) + (z25) ≤ (n1) by omega) (fun σ34 D34' N34' F34' A34' c34 s34 H' O' hD34 hN34 hS34 hA34 pm34_2 m34_2 em34_2 y34_0_1 ey34_0_1 w34_2 ew34_2 pz34_0 pz34_1 pz34_2 => ⟨rfl, ?_⟩))
                        refine v_backM (c := c_35) (s := s_35) H (show vsub V206 V161_Br [2, 1, 3] = true by decide +kernel) H' O' hD34 (show vmov V206 [2, 1, 3] [2] = true by decide +kernel) (fun D34 N34 F34 A34 H O' eD34 eN34 eF34 eA34 => ?_)
                        have O := OUT_trans O O'
                        -- Row.addPart
                        have pf34_0_3 : F34 0 3 = (D34 1 : Int) := ((show F34 0 3 = F_c186 0 3 from (eF34 0 3))).trans (((((((((hS_c186 0 3 rfl).trans (hS_c147 0 3 rfl)).trans (hS_c121 0 3 rfl)).trans ((show F25 0 3 = F24 0 3 from (eF25 0 3)))).trans ((show F24 0 3 = F22 0 3 from (eF24 0 3)))).trans ((show F22 0 3 = F_35 0 3 from (eF22 0 3))))).trans (pf_35_0_3)).trans (congrArg (fun q : Nat => (q : Int)) ((show D34 1 = D_35 1 from (eD34 1).trans (hD34 1 rfl))).symm))
                        have pf34_0_5 : F34 0 5 = (D34 2 : Int) := ((show F34 0 5 = F_c186 0 5 from (eF34 0 5))).trans (((((((((hS_c186 0 5 rfl).trans (hS_c147 0 5 rfl)).trans (hS_c121 0 5 rfl)).trans ((show F25 0 5 = F24 0 5 from (eF25 0 5)))).trans ((show F24 0 5 = F22 0 5 from (eF24 0 5)))).trans ((show F22 0 5 = F_35 0 5 from (eF22 0 5))))).trans (pf_35_0_5)).trans (congrArg (fun q : Nat => (q : Int)) ((show D34 2 = D_35 2 from (eD34 2).trans (hD34 0 rfl))).symm))
                        have pf34_2_0 : F34 2 0 = (D34 3 : Int) := (eF34 2 0).trans (pm34_2.trans (congrArg (fun q : Nat => (q : Int)) (eD34 3).symm))
                        have r35 : (0 : Int) ≤ m34_2 ∧ m34_2 ≤ 1000000 := by have h1 := H.nle 3 (by decide); have h2 : (N34 3 : Int) = m34_2 := (congrArg (fun q : Nat => (q : Int)) (eN34 3)).trans em34_2; omega
                        have r36 : (-2147483648 : Int) ≤ y34_0_1 ∧ y34_0_1 ≤ 2147483647 := by have h1 : (-2147483648 : Int) ≤ F34 2 1 ∧ F34 2 1 ≤ 2147483647 := H.krg 2 1 (by decide); rw [show F34 2 1 = y34_0_1 from ((eF34 2 1).trans ey34_0_1)] at h1; exact h1
                        refine Ew_of (pc' := 288) (fun _ => x_iload rfl rk_s) ?_
                        refine Ew_of (pc' := 290) (fun _ => x_lload rfl (rk_o (lc186_12) rfl rfl)) ?_
                        refine w_l2i rfl ?_
                        refine w_iadd rfl ?_
                        refine Ew_of (pc' := 294) (fun _ => x_istore rfl) ?_
                        exact hc294  _ _ _ _ _ _ _ _ (((x35_6 + (1 + z22)) + z25)) ((rk_o (rk_o (lc186_0) rfl rfl) rfl rfl).trans (congrArg (fun q : Nat => some (Value.ref q)) (((show D34 0 = D_35 0 from (eD34 0)))).symm)) (rk_o (rk_o (lc186_2) rfl rfl) rfl rfl) (rk_o (rk_o (lc186_5) rfl rfl) rfl rfl) (rk_s) (rk_o (rk_o (lc186_7) rfl rfl) rfl rfl) H O (SD_trans (SD_refl) (SD_glu (ι := [2, 1, 3]) hD34 eD34 (by decide +kernel)) (any_subA (l' := [3]) rfl)) (SD_trans (SD_refl) (SD_glu (ι := [2, 1, 3]) hN34 eN34 (by decide +kernel)) (any_subA (l' := [3]) rfl)) (SF_trans (SF_refl) (SF_glu (ι := [2, 1, 3]) hS34 eF34 (by decide +kernel)) (any_sub (l' := [(2, 0), (2, 1), (2, 2)]) rfl)) (SA_trans (SA_refl) (SA_glu (ι := [2, 1, 3]) hA34 eA34 (by decide +kernel)) (any_subA (l' := [3]) rfl)) (pf34_2_0) (m34_2) ((congrArg (fun q : Nat => (q : Int)) (eN34 3)).trans em34_2) (y34_0_1) (((eF34 2 1).trans ey34_0_1))  (show inr (((x35_6 + (1 + z22)) + z25)) by omega) (show 0 ≤ (((x35_6 + (1 + z22)) + z25)) ∧ (((x35_6 + (1 + z22)) + z25)) ≤ (a2) by omega) (show 0 ≤ (y34_0_1) ∧ (y34_0_1) ≤ (m34_2) ∧ (m34_2) ≤ 65536 by omega) (show (u2_1) ≤ (y34_0_1) ∧ (u2_1) = (u2_1) by omega) (show (y34_0_1) - (u2_1) ≤ (y6_0_7) by omega)
                      · refine Ew_of (pc' := 264) (fun _ => x_aload_n rfl (rk_o (lc186_0) rfl rfl)) ?_
                        refine Ew_of (pc' := 265) (fun _ => x_iconst rfl) ?_
                        refine Ew_of (pc' := 266) (fun _ => x_iload_n rfl (rk_o (lc186_2) rfl rfl)) ?_
                        refine v_inv H (o := 0) rfl rfl rfl rfl rfl rfl (by rfl) (C203 (D := pul [0] D_35) (N := pul [0] N_35) (HW_sub H (VS_of (show vsub V206 V203 [0] = true by decide +kernel))) (y6_0_8) (((((((((hS_c186 0 8 rfl).trans (hS_c147 0 8 rfl)).trans (hS_c121 0 8 rfl)).trans ((show F25 0 8 = F24 0 8 from (eF25 0 8)))).trans ((show F24 0 8 = F22 0 8 from (eF24 0 8)))).trans ((show F22 0 8 = F_35 0 8 from (eF22 0 8)))).trans (hS_35 0 8 rfl)).trans ((eF6 0 8).trans ey6_0_8))) (show inr (1) by omega) (show inr (a2) by omega) (fun z37 σ37 F37' A37' H' O' hS37 hA37 y37_0_8 ey37_0_8 pz37_0 pz37_1 pz37_2 => ⟨rfl, ?_⟩))
                        refine v_back (c := c_35) (s := s_35) H (show vsub V206 V203 [0] = true by decide +kernel) H' O' (fun F37 A37 H O' eF37 eA37 => ?_)
                        have O := OUT_trans O O'
                        -- Tags.fail
                        have r38 : (-2147483648 : Int) ≤ y37_0_8 ∧ y37_0_8 ≤ 2147483647 := by have h1 : (-2147483648 : Int) ≤ F37 0 8 ∧ F37 0 8 ≤ 2147483647 := H.krg 0 8 (by decide); rw [show F37 0 8 = y37_0_8 from ((eF37 0 8).trans ey37_0_8)] at h1; exact h1
                        exact w_ireturn rfl (k (z37) _ _ _ _ _ _ _ H O (SD_trans (SD_refl) hD_35 (any_subA rfl)) (SD_trans (SD_refl) hN_35 (any_subA rfl)) (SF_trans (SF_trans (SF_trans (SF_trans (SF_trans (SF_trans (SF_trans (SF_trans (SF_trans (SF_refl) (SF_glu (ι := [0, 1]) hS6 eF6 (by decide +kernel)) (any_sub (l' := [(0, 7), (0, 8)]) rfl)) hS_35 (any_sub rfl)) (SF_glu (ι := []) hS22 eF22 (by decide +kernel)) (any_sub (l' := []) rfl)) (SF_glu (ι := [1]) hS24 eF24 (by decide +kernel)) (any_sub (l' := []) rfl)) (SF_glu (ι := []) hS25 eF25 (by decide +kernel)) (any_sub (l' := []) rfl)) hS_c121 (any_sub rfl)) hS_c147 (any_sub rfl)) hS_c186 (any_sub rfl)) (SF_glu (ι := [0]) hS37 eF37 (by decide +kernel)) (any_sub (l' := [(0, 8)]) rfl)) (SA_trans (SA_trans (SA_trans (SA_trans (SA_trans (SA_trans (SA_trans (SA_trans (SA_trans (SA_refl) (SA_glu (ι := [0, 1]) hA6 eA6 (by decide +kernel)) (any_subA (l' := []) rfl)) hA_35 (any_subA rfl)) (SA_glu (ι := []) hA22 eA22 (by decide +kernel)) (any_subA (l' := []) rfl)) (SA_glu (ι := [1]) hA24 eA24 (by decide +kernel)) (any_subA (l' := []) rfl)) (SA_glu (ι := []) hA25 eA25 (by decide +kernel)) (any_subA (l' := []) rfl)) hA_c121 (any_subA rfl)) hA_c147 (any_subA rfl)) hA_c186 (any_subA rfl)) (SA_glu (ι := [0]) hA37 eA37 (by decide +kernel)) (any_subA (l' := []) rfl)) ((((((((((show F37 2 0 = F_c186 2 0 from (eF37 2 0))).trans (hS_c186 2 0 rfl)).trans (hS_c147 2 0 rfl)).trans (hS_c121 2 0 rfl)).trans ((show F25 2 0 = F24 2 0 from (eF25 2 0)))).trans ((show F24 2 0 = F22 2 0 from (eF24 2 0)))).trans ((show F22 2 0 = F_35 2 0 from (eF22 2 0))))).trans (pm35_3)) (m35_3) (em35_3) (y35_2_1) ((((((((((show F37 2 1 = F_c186 2 1 from (eF37 2 1))).trans (hS_c186 2 1 rfl)).trans (hS_c147 2 1 rfl)).trans (hS_c121 2 1 rfl)).trans ((show F25 2 1 = F24 2 1 from (eF25 2 1)))).trans ((show F24 2 1 = F22 2 1 from (eF24 2 1)))).trans ((show F22 2 1 = F_35 2 1 from (eF22 2 1)))).trans (ey35_2_1))) (show inr (z37) by omega) (show 0 ≤ (z37) ∧ (z37) ≤ 6 by omega) (show 0 ≤ (y35_2_1) ∧ (y35_2_1) ≤ (m35_3) ∧ (m35_3) ≤ 65536 by omega) (show (u2_1) ≤ (y35_2_1) by omega) (show (y35_2_1) ≤ (u2_1) + a3 ∨ (y35_2_1) = (u2_1) by omega))
                    · refine Ew_of (pc' := 231) (fun _ => x_aload_n rfl (rk_o (lc186_0) rfl rfl)) ?_
                      refine v_g H (o := 0) (v := .ref (D_35 2)) rfl rfl rfl rfl rfl (vrf ((((((((hS_c186 0 5 rfl).trans (hS_c147 0 5 rfl)).trans (hS_c121 0 5 rfl)).trans ((show F25 0 5 = F24 0 5 from (eF25 0 5)))).trans ((show F24 0 5 = F22 0 5 from (eF24 0 5)))).trans ((show F22 0 5 = F_35 0 5 from (eF22 0 5))))).trans (pf_35_0_5))) ?_
                      refine Ew_of (pc' := 236) (fun _ => x_lload rfl (rk_o (lc186_15) rfl rfl)) ?_
                      refine w_l2i rfl ?_
                      refine Ew_of (pc' := 239) (fun _ => x_lload rfl (rk_o (lc186_12) rfl rfl)) ?_
                      refine w_l2i rfl ?_
                      refine Ew_of (pc' := 242) (fun _ => x_iload rfl (rk_o (lc186_5) rfl rfl)) ?_
                      refine Ew_of (pc' := 243) (fun _ => x_aload_n rfl (rk_o (lc186_0) rfl rfl)) ?_
                      refine v_g H (o := 0) (v := .ref (D_35 2)) rfl rfl rfl rfl rfl (vrf ((((((((hS_c186 0 5 rfl).trans (hS_c147 0 5 rfl)).trans (hS_c121 0 5 rfl)).trans ((show F25 0 5 = F24 0 5 from (eF25 0 5)))).trans ((show F24 0 5 = F22 0 5 from (eF24 0 5)))).trans ((show F22 0 5 = F_35 0 5 from (eF22 0 5))))).trans (pf_35_0_5))) ?_
                      refine v_inv H (o := 2) rfl rfl rfl rfl rfl rfl (by rfl) (C163_thisa (D := pul [2, 3] D_35) (N := pul [2, 3] N_35) (HW_sub H (VS_of (show vsub V206 V163_thisa [2, 3] = true by decide +kernel))) ((((((((hS_c186 2 0 rfl).trans (hS_c147 2 0 rfl)).trans (hS_c121 2 0 rfl)).trans ((show F25 2 0 = F24 2 0 from (eF25 2 0)))).trans ((show F24 2 0 = F22 2 0 from (eF24 2 0)))).trans ((show F22 2 0 = F_35 2 0 from (eF22 2 0))))).trans (pm35_3)) (m35_3) (em35_3) (y35_2_1) ((((((((hS_c186 2 1 rfl).trans (hS_c147 2 1 rfl)).trans (hS_c121 2 1 rfl)).trans ((show F25 2 1 = F24 2 1 from (eF25 2 1)))).trans ((show F24 2 1 = F22 2 1 from (eF24 2 1)))).trans ((show F22 2 1 = F_35 2 1 from (eF22 2 1)))).trans (ey35_2_1))) (show inr (tc147_0) by omega) (show inr (z25) by omega) (show inr (u2_1) by omega) (show 0 ≤ (y35_2_1) ∧ (y35_2_1) ≤ (m35_3) ∧ (m35_3) ≤ 65536 by omega) (show 0 ≤ (y35_2_1) ∧ (y35_2_1) ≤ (m35_3) ∧ (m35_3) ≤ 65536 by omega) (show 0 ≤ (u2_1) ∧ (u2_1) ≤ (y35_2_1) by omega) (show (z25) < 0 ∨ 1 ≤ (tc147_0) ∧ ((tc147_0) ≤ (y35_2_1) - (u2_1) ∨ (tc147_0) - ((y35_2_1) - (u2_1)) ≤ (y35_2_1)) by omega) (fun σ39 D39' N39' F39' A39' c39 s39 H' O' hD39 hN39 hS39 hA39 pm39_1 m39_1 em39_1 y39_0_1 ey39_0_1 pz39_0 pz39_1 => ⟨rfl, ?_⟩))
                      refine v_backM (c := c_35) (s := s_35) H (show vsub V206 V163_thisa [2, 3] = true by decide +kernel) H' O' hD39 (show vmov V206 [2, 3] [1] = true by decide +kernel) (fun D39 N39 F39 A39 H O' eD39 eN39 eF39 eA39 => ?_)
                      have O := OUT_trans O O'
                      -- Row.copyBack
                      have pf39_0_3 : F39 0 3 = (D39 1 : Int) := ((show F39 0 3 = F_c186 0 3 from (eF39 0 3))).trans (((((((((hS_c186 0 3 rfl).trans (hS_c147 0 3 rfl)).trans (hS_c121 0 3 rfl)).trans ((show F25 0 3 = F24 0 3 from (eF25 0 3)))).trans ((show F24 0 3 = F22 0 3 from (eF24 0 3)))).trans ((show F22 0 3 = F_35 0 3 from (eF22 0 3))))).trans (pf_35_0_3)).trans (congrArg (fun q : Nat => (q : Int)) ((show D39 1 = D_35 1 from (eD39 1))).symm))
                      have pf39_0_5 : F39 0 5 = (D39 2 : Int) := ((show F39 0 5 = F_c186 0 5 from (eF39 0 5))).trans (((((((((hS_c186 0 5 rfl).trans (hS_c147 0 5 rfl)).trans (hS_c121 0 5 rfl)).trans ((show F25 0 5 = F24 0 5 from (eF25 0 5)))).trans ((show F24 0 5 = F22 0 5 from (eF24 0 5)))).trans ((show F22 0 5 = F_35 0 5 from (eF22 0 5))))).trans (pf_35_0_5)).trans (congrArg (fun q : Nat => (q : Int)) ((show D39 2 = D_35 2 from (eD39 2).trans (hD39 0 rfl))).symm))
                      have pf39_2_0 : F39 2 0 = (D39 3 : Int) := (eF39 2 0).trans (pm39_1.trans (congrArg (fun q : Nat => (q : Int)) (eD39 3).symm))
                      have r40 : (0 : Int) ≤ m39_1 ∧ m39_1 ≤ 1000000 := by have h1 := H.nle 3 (by decide); have h2 : (N39 3 : Int) = m39_1 := (congrArg (fun q : Nat => (q : Int)) (eN39 3)).trans em39_1; omega
                      have r41 : (-2147483648 : Int) ≤ y39_0_1 ∧ y39_0_1 ≤ 2147483647 := by have h1 : (-2147483648 : Int) ≤ F39 2 1 ∧ F39 2 1 ≤ 2147483647 := H.krg 2 1 (by decide); rw [show F39 2 1 = y39_0_1 from ((eF39 2 1).trans ey39_0_1)] at h1; exact h1
                      refine Ew_of (pc' := 294) (fun _ => x_goto rfl rfl) ?_
                      exact hc294  _ _ _ _ _ _ _ _ ((x35_6 + (1 + z22))) ((rk_o (lc186_0) rfl rfl).trans (congrArg (fun q : Nat => some (Value.ref q)) (((show D39 0 = D_35 0 from (eD39 0)))).symm)) (rk_o (lc186_2) rfl rfl) (rk_o (lc186_5) rfl rfl) (rk_s) (rk_o (lc186_7) rfl rfl) H O (SD_trans (SD_refl) (SD_glu (ι := [2, 3]) hD39 eD39 (by decide +kernel)) (any_subA (l' := [3]) rfl)) (SD_trans (SD_refl) (SD_glu (ι := [2, 3]) hN39 eN39 (by decide +kernel)) (any_subA (l' := [3]) rfl)) (SF_trans (SF_refl) (SF_glu (ι := [2, 3]) hS39 eF39 (by decide +kernel)) (any_sub (l' := [(2, 0), (2, 1), (2, 2)]) rfl)) (SA_trans (SA_refl) (SA_glu (ι := [2, 3]) hA39 eA39 (by decide +kernel)) (any_subA (l' := [3]) rfl)) (pf39_2_0) (m39_1) ((congrArg (fun q : Nat => (q : Int)) (eN39 3)).trans em39_1) (y39_0_1) (((eF39 2 1).trans ey39_0_1))  (show inr ((x35_6 + (1 + z22))) by omega) (show 0 ≤ ((x35_6 + (1 + z22))) ∧ ((x35_6 + (1 + z22))) ≤ (a2) by omega) (show 0 ≤ (y39_0_1) ∧ (y39_0_1) ≤ (m39_1) ∧ (m39_1) ≤ 65536 by omega) (show (u2_1) ≤ (y39_0_1) ∧ (u2_1) = (u2_1) by omega) (show (y39_0_1) - (u2_1) ≤ (y6_0_7) by omega)
                  · refine Ew_of (pc' := 209) (fun _ => x_aload_n rfl lc186_0) ?_
                    refine Ew_of (pc' := 210) (fun _ => x_iconst rfl) ?_
                    refine Ew_of (pc' := 212) (fun _ => x_iload rfl lc186_6) ?_
                    refine v_inv H (o := 0) rfl rfl rfl rfl rfl rfl (by rfl) (C203 (D := pul [0] D_35) (N := pul [0] N_35) (HW_sub H (VS_of (show vsub V206 V203 [0] = true by decide +kernel))) (y6_0_8) (((((((((hS_c186 0 8 rfl).trans (hS_c147 0 8 rfl)).trans (hS_c121 0 8 rfl)).trans ((show F25 0 8 = F24 0 8 from (eF25 0 8)))).trans ((show F24 0 8 = F22 0 8 from (eF24 0 8)))).trans ((show F22 0 8 = F_35 0 8 from (eF22 0 8)))).trans (hS_35 0 8 rfl)).trans ((eF6 0 8).trans ey6_0_8))) (show inr (5) by omega) (show inr (x35_6) by omega) (fun z42 σ42 F42' A42' H' O' hS42 hA42 y42_0_8 ey42_0_8 pz42_0 pz42_1 pz42_2 => ⟨rfl, ?_⟩))
                    refine v_back (c := c_35) (s := s_35) H (show vsub V206 V203 [0] = true by decide +kernel) H' O' (fun F42 A42 H O' eF42 eA42 => ?_)
                    have O := OUT_trans O O'
                    -- Tags.fail
                    have r43 : (-2147483648 : Int) ≤ y42_0_8 ∧ y42_0_8 ≤ 2147483647 := by have h1 : (-2147483648 : Int) ≤ F42 0 8 ∧ F42 0 8 ≤ 2147483647 := H.krg 0 8 (by decide); rw [show F42 0 8 = y42_0_8 from ((eF42 0 8).trans ey42_0_8)] at h1; exact h1
                    exact w_ireturn rfl (k (z42) _ _ _ _ _ _ _ H O (SD_trans (SD_refl) hD_35 (any_subA rfl)) (SD_trans (SD_refl) hN_35 (any_subA rfl)) (SF_trans (SF_trans (SF_trans (SF_trans (SF_trans (SF_trans (SF_trans (SF_trans (SF_trans (SF_refl) (SF_glu (ι := [0, 1]) hS6 eF6 (by decide +kernel)) (any_sub (l' := [(0, 7), (0, 8)]) rfl)) hS_35 (any_sub rfl)) (SF_glu (ι := []) hS22 eF22 (by decide +kernel)) (any_sub (l' := []) rfl)) (SF_glu (ι := [1]) hS24 eF24 (by decide +kernel)) (any_sub (l' := []) rfl)) (SF_glu (ι := []) hS25 eF25 (by decide +kernel)) (any_sub (l' := []) rfl)) hS_c121 (any_sub rfl)) hS_c147 (any_sub rfl)) hS_c186 (any_sub rfl)) (SF_glu (ι := [0]) hS42 eF42 (by decide +kernel)) (any_sub (l' := [(0, 8)]) rfl)) (SA_trans (SA_trans (SA_trans (SA_trans (SA_trans (SA_trans (SA_trans (SA_trans (SA_trans (SA_refl) (SA_glu (ι := [0, 1]) hA6 eA6 (by decide +kernel)) (any_subA (l' := []) rfl)) hA_35 (any_subA rfl)) (SA_glu (ι := []) hA22 eA22 (by decide +kernel)) (any_subA (l' := []) rfl)) (SA_glu (ι := [1]) hA24 eA24 (by decide +kernel)) (any_subA (l' := []) rfl)) (SA_glu (ι := []) hA25 eA25 (by decide +kernel)) (any_subA (l' := []) rfl)) hA_c121 (any_subA rfl)) hA_c147 (any_subA rfl)) hA_c186 (any_subA rfl)) (SA_glu (ι := [0]) hA42 eA42 (by decide +kernel)) (any_subA (l' := []) rfl)) ((((((((((show F42 2 0 = F_c186 2 0 from (eF42 2 0))).trans (hS_c186 2 0 rfl)).trans (hS_c147 2 0 rfl)).trans (hS_c121 2 0 rfl)).trans ((show F25 2 0 = F24 2 0 from (eF25 2 0)))).trans ((show F24 2 0 = F22 2 0 from (eF24 2 0)))).trans ((show F22 2 0 = F_35 2 0 from (eF22 2 0))))).trans (pm35_3)) (m35_3) (em35_3) (y35_2_1) ((((((((((show F42 2 1 = F_c186 2 1 from (eF42 2 1))).trans (hS_c186 2 1 rfl)).trans (hS_c147 2 1 rfl)).trans (hS_c121 2 1 rfl)).trans ((show F25 2 1 = F24 2 1 from (eF25 2 1)))).trans ((show F24 2 1 = F22 2 1 from (eF24 2 1)))).trans ((show F22 2 1 = F_35 2 1 from (eF22 2 1)))).trans (ey35_2_1))) (show inr (z42) by omega) (show 0 ≤ (z42) ∧ (z42) ≤ 6 by omega) (show 0 ≤ (y35_2_1) ∧ (y35_2_1) ≤ (m35_3) ∧ (m35_3) ≤ 65536 by omega) (show (u2_1) ≤ (y35_2_1) by omega) (show (y35_2_1) ≤ (u2_1) + a3 ∨ (y35_2_1) = (u2_1) by omega))
                refine w_ifeq (t := 186) rfl rfl (show inr (tc121_0) by omega) (fun b44 => ?_) (fun b44 => ?_)
                · exact hc186  _ _ _ _  (rk2_o (lc147_0) rfl rfl) (rk2_o (lc147_2) rfl rfl) (rk2_o (lc147_5) rfl rfl) (rk2_o (lc147_6) rfl rfl) (rk2_o (lc147_7) rfl rfl) (rk2_o (lc147_9) rfl rfl) (rk2_o (lc147_12) rfl rfl) (rk2_o (lc147_14) rfl rfl) (rk2_s) H O (SF_refl) (SA_refl)     (show ((tc121_0) = (0)) ∨ ((tc121_0) ≠ (0) ∧ (tc147_0) ≠ (0) ∧ (tc147_0) ≤ ((y35_2_1 - u2_1))) by omega)
                · refine Ew_of (pc' := 156) (fun _ => x_lload rfl rk2_s) ?_
                  refine Ew_of (pc' := 157) (fun _ => x_lconst (z := 0) rfl (by decide)) ?_
                  refine w_lcmp rfl (show inrJ (tc147_0) by omega) (show inrJ (0) by omega) (fun z45 gz45 gaz45 gbz45 => ?_)
                  refine w_ifeq (t := 178) rfl rfl (show inr (z45) by omega) (fun b46 => ?_) (fun b46 => ?_)
                  · refine Ew_of (pc' := 179) (fun _ => x_aload_n rfl (rk2_o (lc147_0) rfl rfl)) ?_
                    refine Ew_of (pc' := 180) (fun _ => x_iconst rfl) ?_
                    refine Ew_of (pc' := 182) (fun _ => x_iload rfl (rk2_o (lc147_6) rfl rfl)) ?_
                    refine v_inv H (o := 0) rfl rfl rfl rfl rfl rfl (by rfl) (C203 (D := pul [0] D_35) (N := pul [0] N_35) (HW_sub H (VS_of (show vsub V206 V203 [0] = true by decide +kernel))) (y6_0_8) ((((((((hS_c147 0 8 rfl).trans (hS_c121 0 8 rfl)).trans ((show F25 0 8 = F24 0 8 from (eF25 0 8)))).trans ((show F24 0 8 = F22 0 8 from (eF24 0 8)))).trans ((show F22 0 8 = F_35 0 8 from (eF22 0 8)))).trans (hS_35 0 8 rfl)).trans ((eF6 0 8).trans ey6_0_8))) (show inr (4) by omega) (show inr (x35_6) by omega) (fun z47 σ47 F47' A47' H' O' hS47 hA47 y47_0_8 ey47_0_8 pz47_0 pz47_1 pz47_2 => ⟨rfl, ?_⟩))
                    refine v_back (c := c_35) (s := s_35) H (show vsub V206 V203 [0] = true by decide +kernel) H' O' (fun F47 A47 H O' eF47 eA47 => ?_)
                    have O := OUT_trans O O'
                    -- Tags.fail
                    have r48 : (-2147483648 : Int) ≤ y47_0_8 ∧ y47_0_8 ≤ 2147483647 := by have h1 : (-2147483648 : Int) ≤ F47 0 8 ∧ F47 0 8 ≤ 2147483647 := H.krg 0 8 (by decide); rw [show F47 0 8 = y47_0_8 from ((eF47 0 8).trans ey47_0_8)] at h1; exact h1
                    exact w_ireturn rfl (k (z47) _ _ _ _ _ _ _ H O (SD_trans (SD_refl) hD_35 (any_subA rfl)) (SD_trans (SD_refl) hN_35 (any_subA rfl)) (SF_trans (SF_trans (SF_trans (SF_trans (SF_trans (SF_trans (SF_trans (SF_trans (SF_refl) (SF_glu (ι := [0, 1]) hS6 eF6 (by decide +kernel)) (any_sub (l' := [(0, 7), (0, 8)]) rfl)) hS_35 (any_sub rfl)) (SF_glu (ι := []) hS22 eF22 (by decide +kernel)) (any_sub (l' := []) rfl)) (SF_glu (ι := [1]) hS24 eF24 (by decide +kernel)) (any_sub (l' := []) rfl)) (SF_glu (ι := []) hS25 eF25 (by decide +kernel)) (any_sub (l' := []) rfl)) hS_c121 (any_sub rfl)) hS_c147 (any_sub rfl)) (SF_glu (ι := [0]) hS47 eF47 (by decide +kernel)) (any_sub (l' := [(0, 8)]) rfl)) (SA_trans (SA_trans (SA_trans (SA_trans (SA_trans (SA_trans (SA_trans (SA_trans (SA_refl) (SA_glu (ι := [0, 1]) hA6 eA6 (by decide +kernel)) (any_subA (l' := []) rfl)) hA_35 (any_subA rfl)) (SA_glu (ι := []) hA22 eA22 (by decide +kernel)) (any_subA (l' := []) rfl)) (SA_glu (ι := [1]) hA24 eA24 (by decide +kernel)) (any_subA (l' := []) rfl)) (SA_glu (ι := []) hA25 eA25 (by decide +kernel)) (any_subA (l' := []) rfl)) hA_c121 (any_subA rfl)) hA_c147 (any_subA rfl)) (SA_glu (ι := [0]) hA47 eA47 (by decide +kernel)) (any_subA (l' := []) rfl)) (((((((((show F47 2 0 = F_c147 2 0 from (eF47 2 0))).trans (hS_c147 2 0 rfl)).trans (hS_c121 2 0 rfl)).trans ((show F25 2 0 = F24 2 0 from (eF25 2 0)))).trans ((show F24 2 0 = F22 2 0 from (eF24 2 0)))).trans ((show F22 2 0 = F_35 2 0 from (eF22 2 0))))).trans (pm35_3)) (m35_3) (em35_3) (y35_2_1) (((((((((show F47 2 1 = F_c147 2 1 from (eF47 2 1))).trans (hS_c147 2 1 rfl)).trans (hS_c121 2 1 rfl)).trans ((show F25 2 1 = F24 2 1 from (eF25 2 1)))).trans ((show F24 2 1 = F22 2 1 from (eF24 2 1)))).trans ((show F22 2 1 = F_35 2 1 from (eF22 2 1)))).trans (ey35_2_1))) (show inr (z47) by omega) (show 0 ≤ (z47) ∧ (z47) ≤ 6 by omega) (show 0 ≤ (y35_2_1) ∧ (y35_2_1) ≤ (m35_3) ∧ (m35_3) ≤ 65536 by omega) (show (u2_1) ≤ (y35_2_1) by omega) (show (y35_2_1) ≤ (u2_1) + a3 ∨ (y35_2_1) = (u2_1) by omega))
                  · refine Ew_of (pc' := 163) (fun _ => x_lload rfl rk2_s) ?_
                    refine Ew_of (pc' := 164) (fun _ => x_aload_n rfl (rk2_o (lc147_0) rfl rfl)) ?_
                    refine v_g H (o := 0) (v := .ref (D_35 2)) rfl rfl rfl rfl rfl (vrf (((((((hS_c147 0 5 rfl).trans (hS_c121 0 5 rfl)).trans ((show F25 0 5 = F24 0 5 from (eF25 0 5)))).trans ((show F24 0 5 = F22 0 5 from (eF24 0 5)))).trans ((show F22 0 5 = F_35 0 5 from (eF22 0 5))))).trans (pf_35_0_5))) ?_
                    refine v_g H (o := 2) (v := I (y35_2_1)) rfl rfl rfl rfl rfl (congrArg (fun z : Int => I z) (((((((hS_c147 2 1 rfl).trans (hS_c121 2 1 rfl)).trans ((show F25 2 1 = F24 2 1 from (eF25 2 1)))).trans ((show F24 2 1 = F22 2 1 from (eF24 2 1)))).trans ((show F22 2 1 = F_35 2 1 from (eF22 2 1)))).trans (ey35_2_1)) : F_c147 2 1 = y35_2_1)) ?_
                    refine Ew_of (pc' := 172) (fun _ => x_iload rfl (rk2_o (lc147_5) rfl rfl)) ?_
                    refine w_isub rfl ?_
                    refine w_i2l rfl (show inr ((y35_2_1 - u2_1)) by omega) ?_
                    refine w_lcmp rfl (show inrJ (tc147_0) by omega) (show inrJ ((y35_2_1 - u2_1)) by omega) (fun z49 gz49 gaz49 gbz49 => ?_)
                    refine w_ifle (t := 186) rfl rfl (show inr (z49) by omega) (fun b50 => ?_) (fun b50 => ?_)
                    · exact hc186  _ _ _ _  (rk2_o (lc147_0) rfl rfl) (rk2_o (lc147_2) rfl rfl) (rk2_o (lc147_5) rfl rfl) (rk2_o (lc147_6) rfl rfl) (rk2_o (lc147_7) rfl rfl) (rk2_o (lc147_9) rfl rfl) (rk2_o (lc147_12) rfl rfl) (rk2_o (lc147_14) rfl rfl) (rk2_s) H O (SF_refl) (SA_refl)     (show ((tc121_0) = (0)) ∨ ((tc121_0) ≠ (0) ∧ (tc147_0) ≠ (0) ∧ (tc147_0) ≤ ((y35_2_1 - u2_1))) by omega)
                    · refine Ew_of (pc' := 179) (fun _ => x_aload_n rfl (rk2_o (lc147_0) rfl rfl)) ?_
                      refine Ew_of (pc' := 180) (fun _ => x_iconst rfl) ?_
                      refine Ew_of (pc' := 182) (fun _ => x_iload rfl (rk2_o (lc147_6) rfl rfl)) ?_
                      refine v_inv H (o := 0) rfl rfl rfl rfl rfl rfl (by rfl) (C203 (D := pul [0] D_35) (N := pul [0] N_35) (HW_sub H (VS_of (show vsub V206 V203 [0] = true by decide +kernel))) (y6_0_8) ((((((((hS_c147 0 8 rfl).trans (hS_c121 0 8 rfl)).trans ((show F25 0 8 = F24 0 8 from (eF25 0 8)))).trans ((show F24 0 8 = F22 0 8 from (eF24 0 8)))).trans ((show F22 0 8 = F_35 0 8 from (eF22 0 8)))).trans (hS_35 0 8 rfl)).trans ((eF6 0 8).trans ey6_0_8))) (show inr (4) by omega) (show inr (x35_6) by omega) (fun z51 σ51 F51' A51' H' O' hS51 hA51 y51_0_8 ey51_0_8 pz51_0 pz51_1 pz51_2 => ⟨rfl, ?_⟩))
                      refine v_back (c := c_35) (s := s_35) H (show vsub V206 V203 [0] = true by decide +kernel) H' O' (fun F51 A51 H O' eF51 eA51 => ?_)
                      have O := OUT_trans O O'
                      -- Tags.fail
                      have r52 : (-2147483648 : Int) ≤ y51_0_8 ∧ y51_0_8 ≤ 2147483647 := by have h1 : (-2147483648 : Int) ≤ F51 0 8 ∧ F51 0 8 ≤ 2147483647 := H.krg 0 8 (by decide); rw [show F51 0 8 = y51_0_8 from ((eF51 0 8).trans ey51_0_8)] at h1; exact h1
                      exact w_ireturn rfl (k (z51) _ _ _ _ _ _ _ H O (SD_trans (SD_refl) hD_35 (any_subA rfl)) (SD_trans (SD_refl) hN_35 (any_subA rfl)) (SF_trans (SF_trans (SF_trans (SF_trans (SF_trans (SF_trans (SF_trans (SF_trans (SF_refl) (SF_glu (ι := [0, 1]) hS6 eF6 (by decide +kernel)) (any_sub (l' := [(0, 7), (0, 8)]) rfl)) hS_35 (any_sub rfl)) (SF_glu (ι := []) hS22 eF22 (by decide +kernel)) (any_sub (l' := []) rfl)) (SF_glu (ι := [1]) hS24 eF24 (by decide +kernel)) (any_sub (l' := []) rfl)) (SF_glu (ι := []) hS25 eF25 (by decide +kernel)) (any_sub (l' := []) rfl)) hS_c121 (any_sub rfl)) hS_c147 (any_sub rfl)) (SF_glu (ι := [0]) hS51 eF51 (by decide +kernel)) (any_sub (l' := [(0, 8)]) rfl)) (SA_trans (SA_trans (SA_trans (SA_trans (SA_trans (SA_trans (SA_trans (SA_trans (SA_refl) (SA_glu (ι := [0, 1]) hA6 eA6 (by decide +kernel)) (any_subA (l' := []) rfl)) hA_35 (any_subA rfl)) (SA_glu (ι := []) hA22 eA22 (by decide +kernel)) (any_subA (l' := []) rfl)) (SA_glu (ι := [1]) hA24 eA24 (by decide +kernel)) (any_subA (l' := []) rfl)) (SA_glu (ι := []) hA25 eA25 (by decide +kernel)) (any_subA (l' := []) rfl)) hA_c121 (any_subA rfl)) hA_c147 (any_subA rfl)) (SA_glu (ι := [0]) hA51 eA51 (by decide +kernel)) (any_subA (l' := []) rfl)) (((((((((show F51 2 0 = F_c147 2 0 from (eF51 2 0))).trans (hS_c147 2 0 rfl)).trans (hS_c121 2 0 rfl)).trans ((show F25 2 0 = F24 2 0 from (eF25 2 0)))).trans ((show F24 2 0 = F22 2 0 from (eF24 2 0)))).trans ((show F22 2 0 = F_35 2 0 from (eF22 2 0))))).trans (pm35_3)) (m35_3) (em35_3) (y35_2_1) (((((((((show F51 2 1 = F_c147 2 1 from (eF51 2 1))).trans (hS_c147 2 1 rfl)).trans (hS_c121 2 1 rfl)).trans ((show F25 2 1 = F24 2 1 from (eF25 2 1)))).trans ((show F24 2 1 = F22 2 1 from (eF24 2 1)))).trans ((show F22 2 1 = F_35 2 1 from (eF22 2 1)))).trans (ey35_2_1))) (show inr (z51) by omega) (show 0 ≤ (z51) ∧ (z51) ≤ 6 by omega) (show 0 ≤ (y35_2_1) ∧ (y35_2_1) ≤ (m35_3) ∧ (m35_3) ≤ 65536 by omega) (show (u2_1) ≤ (y35_2_1) by omega) (show (y35_2_1) ≤ (u2_1) + a3 ∨ (y35_2_1) = (u2_1) by omega))
              refine Ew_of (pc' := 125) (fun _ => x_iload rfl (rk_o (lc121_8) rfl rfl)) ?_
              refine Ew_of (pc' := 126) (fun _ => x_iconst rfl) ?_
              refine w_iand rfl (show inr (z21) by omega) (show inr (3) by omega) (fun z53 gz53 gaz53 gbz53 => ?_)
              refine Ew_of (pc' := 128) (fun _ => x_iconst rfl) ?_
              refine w_icmpne (t := 145) rfl rfl (show inr (z53) by omega) (show inr (1) by omega) (fun b54 => ?_) (fun b54 => ?_)
              · refine Ew_of (pc' := 147) (fun _ => x_lload rfl (rk_o (lc121_10) rfl rfl)) ?_
                exact hc147 (z24) _ _ _ _  (rk_o (lc121_0) rfl rfl) (rk_o (lc121_2) rfl rfl) (rk_o (lc121_5) rfl rfl) (rk_o (lc121_6) rfl rfl) (rk_o (lc121_7) rfl rfl) (rk_o (lc121_9) rfl rfl) (rk_o (lc121_12) rfl rfl) (rk_s) H O (SF_refl) (SA_refl)     (show inrJ (z24) by omega) (show 0 ≤ (z24) ∧ (z24) ≤ 4294969343 by omega)
              · refine Ew_of (pc' := 133) (fun _ => x_lload rfl (rk_o (lc121_10) rfl rfl)) ?_
                refine Ew_of (pc' := 135) (fun _ => x_iload rfl (rk_o (lc121_8) rfl rfl)) ?_
                refine Ew_of (pc' := 136) (fun _ => x_iconst rfl) ?_
                refine w_ishrK 5 32 (by decide) (by decide) rfl (show inr (z21) by omega) (fun z55 gz55 dz55 => ?_)
                refine Ew_of (pc' := 139) (fun _ => x_bipush (z := 8) rfl (by decide)) ?_
                refine w_ishlK 8 256 (by decide) (by decide) rfl (fun z56 gz56 dz56 => ?_)
                refine w_i2l rfl (show inr (z56) by omega) ?_
                refine w_ladd rfl ?_
                refine Ew_of (pc' := 147) (fun _ => x_goto rfl rfl) ?_
                exact hc147 ((z24 + z56)) _ _ _ _  (rk_o (lc121_0) rfl rfl) (rk_o (lc121_2) rfl rfl) (rk_o (lc121_5) rfl rfl) (rk_o (lc121_6) rfl rfl) (rk_o (lc121_7) rfl rfl) (rk_o (lc121_9) rfl rfl) (rk_o (lc121_12) rfl rfl) (rk_s) H O (SF_refl) (SA_refl)     (show inrJ ((z24 + z56)) by omega) (show 0 ≤ ((z24 + z56)) ∧ ((z24 + z56)) ≤ 4294969343 by omega)
            refine w_ifeq (t := 120) rfl rfl (show inr (z26) by omega) (fun b57 => ?_) (fun b57 => ?_)
            · refine Ew_of (pc' := 121) (fun _ => x_iconst rfl) ?_
              exact hc121 (0) _ _ _ _  (rk2_o (rk2_o (rk_o (rk_o (l35_0) rfl rfl) rfl rfl) rfl rfl) rfl rfl) (rk2_o (rk2_o (rk_o (rk_o (l35_2) rfl rfl) rfl rfl) rfl rfl) rfl rfl) (rk2_o (rk2_o (rk_o (rk_o (l35_5) rfl rfl) rfl rfl) rfl rfl) rfl rfl) (rk2_o (rk2_o (rk_o (rk_o (l35_6) rfl rfl) rfl rfl) rfl rfl) rfl rfl) (rk2_o (rk2_o (rk_o (rk_o (l35_7) rfl rfl) rfl rfl) rfl rfl) rfl rfl) (rk2_o (rk2_o (rk_o (rk_s) rfl rfl) rfl rfl) rfl rfl) (rk2_o (rk2_o (rk_s) rfl rfl) rfl rfl) (rk2_o (rk2_s) rfl rfl) (rk2_s) H O (SF_refl) (SA_refl)     (show inr (0) by omega) (show ((z26) = (0) ∧ (0) = (0)) ∨ ((z26) ≠ (0) ∧ (0) = (1)) by omega)
            · refine Ew_of (pc' := 117) (fun _ => x_iconst rfl) ?_
              refine Ew_of (pc' := 121) (fun _ => x_goto rfl rfl) ?_
              exact hc121 (1) _ _ _ _  (rk2_o (rk2_o (rk_o (rk_o (l35_0) rfl rfl) rfl rfl) rfl rfl) rfl rfl) (rk2_o (rk2_o (rk_o (rk_o (l35_2) rfl rfl) rfl rfl) rfl rfl) rfl rfl) (rk2_o (rk2_o (rk_o (rk_o (l35_5) rfl rfl) rfl rfl) rfl rfl) rfl rfl) (rk2_o (rk2_o (rk_o (rk_o (l35_6) rfl rfl) rfl rfl) rfl rfl) rfl rfl) (rk2_o (rk2_o (rk_o (rk_o (l35_7) rfl rfl) rfl rfl) rfl rfl) rfl rfl) (rk2_o (rk2_o (rk_o (rk_s) rfl rfl) rfl rfl) rfl rfl) (rk2_o (rk2_o (rk_s) rfl rfl) rfl rfl) (rk2_o (rk2_s) rfl rfl) (rk2_s) H O (SF_refl) (SA_refl)     (show inr (1) by omega) (show ((z26) = (0) ∧ (1) = (0)) ∨ ((z26) ≠ (0) ∧ (1) = (1)) by omega)
          · refine Ew_of (pc' := 79) (fun _ => x_aload_n rfl (rk_o (rk_o (l35_0) rfl rfl) rfl rfl)) ?_
            refine Ew_of (pc' := 80) (fun _ => x_iconst rfl) ?_
            refine Ew_of (pc' := 81) (fun _ => x_iload_n rfl (rk_o (rk_o (l35_2) rfl rfl) rfl rfl)) ?_
            refine v_inv H (o := 0) rfl rfl rfl rfl rfl rfl (by rfl) (C203 (D := pul [0] D_35) (N := pul [0] N_35) (HW_sub H (VS_of (show vsub V206 V203 [0] = true by decide +kernel))) (y6_0_8) (((((show F22 0 8 = F_35 0 8 from (eF22 0 8))).trans (hS_35 0 8 rfl)).trans ((eF6 0 8).trans ey6_0_8))) (show inr (1) by omega) (show inr (a2) by omega) (fun z58 σ58 F58' A58' H' O' hS58 hA58 y58_0_8 ey58_0_8 pz58_0 pz58_1 pz58_2 => ⟨rfl, ?_⟩))
            refine v_back (c := c_35) (s := s_35) H (show vsub V206 V203 [0] = true by decide +kernel) H' O' (fun F58 A58 H O' eF58 eA58 => ?_)
            have O := OUT_trans O O'
            -- Tags.fail
            have r59 : (-2147483648 : Int) ≤ y58_0_8 ∧ y58_0_8 ≤ 2147483647 := by have h1 : (-2147483648 : Int) ≤ F58 0 8 ∧ F58 0 8 ≤ 2147483647 := H.krg 0 8 (by decide); rw [show F58 0 8 = y58_0_8 from ((eF58 0 8).trans ey58_0_8)] at h1; exact h1
            exact w_ireturn rfl (k (z58) _ _ _ _ _ _ _ H O (SD_trans (SD_refl) hD_35 (any_subA rfl)) (SD_trans (SD_refl) hN_35 (any_subA rfl)) (SF_trans (SF_trans (SF_trans (SF_trans (SF_refl) (SF_glu (ι := [0, 1]) hS6 eF6 (by decide +kernel)) (any_sub (l' := [(0, 7), (0, 8)]) rfl)) hS_35 (any_sub rfl)) (SF_glu (ι := []) hS22 eF22 (by decide +kernel)) (any_sub (l' := []) rfl)) (SF_glu (ι := [0]) hS58 eF58 (by decide +kernel)) (any_sub (l' := [(0, 8)]) rfl)) (SA_trans (SA_trans (SA_trans (SA_trans (SA_refl) (SA_glu (ι := [0, 1]) hA6 eA6 (by decide +kernel)) (any_subA (l' := []) rfl)) hA_35 (any_subA rfl)) (SA_glu (ι := []) hA22 eA22 (by decide +kernel)) (any_subA (l' := []) rfl)) (SA_glu (ι := [0]) hA58 eA58 (by decide +kernel)) (any_subA (l' := []) rfl)) (((((show F58 2 0 = F22 2 0 from (eF58 2 0))).trans ((show F22 2 0 = F_35 2 0 from (eF22 2 0))))).trans (pm35_3)) (m35_3) (em35_3) (y35_2_1) (((((show F58 2 1 = F22 2 1 from (eF58 2 1))).trans ((show F22 2 1 = F_35 2 1 from (eF22 2 1)))).trans (ey35_2_1))) (show inr (z58) by omega) (show 0 ≤ (z58) ∧ (z58) ≤ 6 by omega) (show 0 ≤ (y35_2_1) ∧ (y35_2_1) ≤ (m35_3) ∧ (m35_3) ≤ 65536 by omega) (show (u2_1) ≤ (y35_2_1) by omega) (show (y35_2_1) ≤ (u2_1) + a3 ∨ (y35_2_1) = (u2_1) by omega))
  · refine Ew_of (pc' := 16) (fun _ => x_iload rfl rk_s) ?_
    exact w_ireturn rfl (k (z6) _ _ _ _ _ _ _ H O (SD_refl) (SD_refl) (SF_trans (SF_refl) (SF_glu (ι := [0, 1]) hS6 eF6 (by decide +kernel)) (any_sub (l' := [(0, 7), (0, 8)]) rfl)) (SA_trans (SA_refl) (SA_glu (ι := [0, 1]) hA6 eA6 (by decide +kernel)) (any_subA (l' := []) rfl)) ((((show F6 2 0 = F 2 0 from (eF6 2 0)))).trans (pf3)) (n3) (en3) (u2_1) ((((show F6 2 1 = F 2 1 from (eF6 2 1))).trans (eu2_1))) (show inr (z6) by omega) (show 0 ≤ (z6) ∧ (z6) ≤ 6 by omega) (show 0 ≤ (u2_1) ∧ (u2_1) ≤ (n3) ∧ (n3) ≤ 65536 by omega) (show (u2_1) ≤ (u2_1) by omega) (show (u2_1) ≤ (u2_1) + a3 ∨ (u2_1) = (u2_1) by omega))
abbrev V205_Row_Row : vV := [(0, 10, [(4, 0), (4, 0), (4, 0), (4, 0), (0, 0), (4, 0), (0, 0), (2, 0), (0, 0)]), (0, 7, [(4, 0), (0, 0), (1, 0), (0, 0), (0, 0)]), (0, 7, [(4, 0), (0, 0), (1, 0), (0, 0), (0, 0)]), (1, 0, []), (1, 0, [])]
/-- Tags.unpackAlone: this, #1, #2, #1.bytes, #2.bytes -/
theorem C205_Row_Row {σE : rS} {D N : Nat → Nat} {F : hF} {A : hA} {d c s : Nat} {Q : wQ} (H : HW V205_Row_Row σE D N F A) {a3 : Int} (pf3 : F 1 0 = (D 3 : Int)) (pf4 : F 2 0 = (D 4 : Int)) (n3 : Int) (en3 : (N 3 : Int) = n3) (n4 : Int) (en4 : (N 4 : Int) = n4) (u1_1 : Int) (eu1_1 : F 1 1 = u1_1) (u2_1 : Int) (eu2_1 : F 2 1 = u2_1) (h0 : inr (a3)) (h1 : 0 ≤ (u1_1) ∧ (u1_1) ≤ (n3) ∧ (n3) ≤ 65536) (h2 : 0 ≤ (u2_1) ∧ (u2_1) ≤ (n4) ∧ (n4) ≤ 65536) (h3 : 0 ≤ (a3) ∧ (a3) ≤ 65536) (k : ∀ (z : Int) (σ : rS) (D' N' : Nat → Nat) (F' : hF) (A' : hA) (c' s' : Nat), HW V205_Row_Row σ D' N' F' A' → OUT (V205_Row_Row).length D N σE c s D' N' σ c' s' → SD [4] D D' → SD [4] N N' → SF [(0, 3), (0, 4), (0, 5), (0, 6), (0, 7), (0, 8), (2, 0), (2, 1), (2, 2)] F F' → SA [4] A A' → F' 2 0 = (D' 4 : Int) → ∀ m4 : Int, (N' 4 : Int) = m4 → ∀ y2_1 : Int, F' 2 1 = y2_1 → (inr (z)) → (0 ≤ (z) ∧ (z) ≤ 6) → (0 ≤ (y2_1) ∧ (y2_1) ≤ (m4) ∧ (m4) ≤ 65536) → Q (some (I z)) σ c' s') : Ew 205 (d + 4) 0 (rargs 0 [.ref (D 0), .ref (D 1), .ref (D 2), I a3]) [] σE c s Q := by
  have O := OUT_refl (n := (V205_Row_Row).length) (D := D) (N := N) (σ := σE) (c := c) (s := s)
  have HE := H
  have r1 : (-2147483648 : Int) ≤ u1_1 ∧ u1_1 ≤ 2147483647 := by have h1 : (-2147483648 : Int) ≤ F 1 1 ∧ F 1 1 ≤ 2147483647 := H.krg 1 1 (by decide); rw [show F 1 1 = u1_1 from (eu1_1)] at h1; exact h1
  have r2 : (-2147483648 : Int) ≤ u2_1 ∧ u2_1 ≤ 2147483647 := by have h1 : (-2147483648 : Int) ≤ F 2 1 ∧ F 2 1 ≤ 2147483647 := H.krg 2 1 (by decide); rw [show F 2 1 = u2_1 from (eu2_1)] at h1; exact h1
  have r3 : (0 : Int) ≤ n3 ∧ n3 ≤ 1000000 := by have h1 := H.nle 3 (by decide); have h2 : (N 3 : Int) = n3 := en3; omega
  have r4 : (0 : Int) ≤ n4 ∧ n4 ≤ 1000000 := by have h1 := H.nle 4 (by decide); have h2 : (N 4 : Int) = n4 := en4; omega
  refine Ew_of (pc' := 1) (fun _ => x_aload_n rfl rfl) ?_
  refine Ew_of (pc' := 2) (fun _ => x_aload_n rfl rfl) ?_
  refine Ew_of (pc' := 3) (fun _ => x_aload_n rfl rfl) ?_
  refine Ew_of (pc' := 4) (fun _ => x_iload_n rfl rfl) ?_
  have r5 : (-2147483648 : Int) ≤ F 0 4 ∧ F 0 4 ≤ 2147483647 := by have h1 : (-2147483648 : Int) ≤ F 0 4 ∧ F 0 4 ≤ 2147483647 := H.krg 0 4 (by decide); rw [show F 0 4 = F 0 4 from rfl] at h1; exact h1
  have r6 : (-2147483648 : Int) ≤ F 0 6 ∧ F 0 6 ≤ 2147483647 := by have h1 : (-2147483648 : Int) ≤ F 0 6 ∧ F 0 6 ≤ 2147483647 := H.krg 0 6 (by decide); rw [show F 0 6 = F 0 6 from rfl] at h1; exact h1
  have r7 : (-2147483648 : Int) ≤ F 0 8 ∧ F 0 8 ≤ 2147483647 := by have h1 : (-2147483648 : Int) ≤ F 0 8 ∧ F 0 8 ≤ 2147483647 := H.krg 0 8 (by decide); rw [show F 0 8 = F 0 8 from rfl] at h1; exact h1
  refine v_inv H (o := 0) rfl rfl rfl rfl rfl rfl (by rfl) (C204_Row_Row (D := pul [0, 1, 2, 3] D) (N := pul [0, 1, 2, 3] N) (HW_sub H (VS_of (show vsub V205_Row_Row V204_Row_Row [0, 1, 2, 3] = true by decide +kernel))) (pf3) (n3) (en3) (F 0 4) (rfl) (F 0 6) (rfl) (F 0 8) (rfl) (u1_1) ((eu1_1)) (show inr (a3) by omega) (fun σ8 F8' A8' H' O' hS8 hA8 y8_0_4 ey8_0_4 y8_0_6 ey8_0_6 y8_0_8 ey8_0_8 pq8_0 pq8_1 pz8_0 => ⟨rfl, ?_⟩))
  refine v_back (c := c) (s := s) H (show vsub V205_Row_Row V204_Row_Row [0, 1, 2, 3] = true by decide +kernel) H' O' (fun F8 A8 H O' eF8 eA8 => ?_)
  have O := OUT_trans O O'
  -- Tags.begin
  have pl8_0 : F8 0 3 = (D 3 : Int) := (eF8 0 3).trans (pq8_0)
  have pl8_1 : F8 0 5 = (D 2 : Int) := (eF8 0 5).trans (pq8_1)
  have r9 : (-2147483648 : Int) ≤ y8_0_4 ∧ y8_0_4 ≤ 2147483647 := by have h1 : (-2147483648 : Int) ≤ F8 0 4 ∧ F8 0 4 ≤ 2147483647 := H.krg 0 4 (by decide); rw [show F8 0 4 = y8_0_4 from ((eF8 0 4).trans ey8_0_4)] at h1; exact h1
  have r10 : (-2147483648 : Int) ≤ y8_0_6 ∧ y8_0_6 ≤ 2147483647 := by have h1 : (-2147483648 : Int) ≤ F8 0 6 ∧ F8 0 6 ≤ 2147483647 := H.krg 0 6 (by decide); rw [show F8 0 6 = y8_0_6 from ((eF8 0 6).trans ey8_0_6)] at h1; exact h1
  have r11 : (-2147483648 : Int) ≤ y8_0_8 ∧ y8_0_8 ≤ 2147483647 := by have h1 : (-2147483648 : Int) ≤ F8 0 8 ∧ F8 0 8 ≤ 2147483647 := H.krg 0 8 (by decide); rw [show F8 0 8 = y8_0_8 from ((eF8 0 8).trans ey8_0_8)] at h1; exact h1
  refine Ew_of (pc' := 8) (fun _ => x_aload_n rfl rfl) ?_
  refine Ew_of (pc' := 9) (fun _ => x_iconst rfl) ?_
  refine Ew_of (pc' := 10) (fun _ => x_aload_n rfl rfl) ?_
  refine v_g H (o := 0) (v := I (y8_0_4)) rfl rfl rfl rfl rfl (congrArg (fun z : Int => I z) (((eF8 0 4).trans ey8_0_4) : F8 0 4 = y8_0_4)) ?_
  refine Ew_of (pc' := 14) (fun _ => x_aload_n rfl rfl) ?_
  refine v_g H (o := 0) (v := I (y8_0_6)) rfl rfl rfl rfl rfl (congrArg (fun z : Int => I z) (((eF8 0 6).trans ey8_0_6) : F8 0 6 = y8_0_6)) ?_
  refine v_inv H (o := 0) rfl rfl rfl rfl rfl rfl (by rfl) (C206 (D := pul [0, 3, 2, 4] D) (N := pul [0, 3, 2, 4] N) (HW_sub H (VS_of (show vsub V205_Row_Row V206 [0, 3, 2, 4] = true by decide +kernel))) (pl8_0) (pl8_1) ((((show F8 2 0 = F 2 0 from (eF8 2 0).trans (hS8 2 0 rfl)))).trans (pf4)) (n3) (en3) (n4) (en4) (u2_1) ((((show F8 2 1 = F 2 1 from (eF8 2 1).trans (hS8 2 1 rfl))).trans (eu2_1))) (show inr (0) by omega) (show inr (y8_0_4) by omega) (show inr (y8_0_6) by omega) (show 0 ≤ (0) ∧ (0) ≤ (y8_0_4) ∧ (y8_0_4) ≤ (n3) ∧ (n3) ≤ 65536 by omega) (show 0 ≤ (u2_1) ∧ (u2_1) ≤ (n4) ∧ (n4) ≤ 65536 by omega) (show (y8_0_6) ≤ 65536 by omega) (fun z12 σ12 D12' N12' F12' A12' c12 s12 H' O' hD12 hN12 hS12 hA12 pm12_3 m12_3 em12_3 y12_2_1 ey12_2_1 pz12_0 pz12_1 pz12_2 pz12_3 pz12_4 => ⟨rfl, ?_⟩))
  refine v_backM (c := c) (s := s) H (show vsub V205_Row_Row V206 [0, 3, 2, 4] = true by decide +kernel) H' O' hD12 (show vmov V205_Row_Row [0, 3, 2, 4] [3] = true by decide +kernel) (fun D12 N12 F12 A12 H O' eD12 eN12 eF12 eA12 => ?_)
  have O := OUT_trans O O'
  -- Tags.unpackBlock
  have pf12_0_3 : F12 0 3 = (D12 3 : Int) := ((show F12 0 3 = F8 0 3 from (eF12 0 3).trans (hS12 0 3 rfl))).trans ((pl8_0).trans (congrArg (fun q : Nat => (q : Int)) ((show D12 3 = D 3 from (eD12 3).trans (hD12 1 rfl))).symm))
  have pf12_0_5 : F12 0 5 = (D12 2 : Int) := ((show F12 0 5 = F8 0 5 from (eF12 0 5).trans (hS12 0 5 rfl))).trans ((pl8_1).trans (congrArg (fun q : Nat => (q : Int)) ((show D12 2 = D 2 from (eD12 2).trans (hD12 2 rfl))).symm))
  have pf12_1_0 : F12 1 0 = (D12 3 : Int) := ((show F12 1 0 = F8 1 0 from (eF12 1 0))).trans (((((show F8 1 0 = F 1 0 from (eF8 1 0).trans (hS8 1 0 rfl)))).trans (pf3)).trans (congrArg (fun q : Nat => (q : Int)) ((show D12 3 = D 3 from (eD12 3).trans (hD12 1 rfl))).symm))
  have pf12_2_0 : F12 2 0 = (D12 4 : Int) := (eF12 2 0).trans (pm12_3.trans (congrArg (fun q : Nat => (q : Int)) (eD12 4).symm))
  have r13 : (0 : Int) ≤ m12_3 ∧ m12_3 ≤ 1000000 := by have h1 := H.nle 4 (by decide); have h2 : (N12 4 : Int) = m12_3 := (congrArg (fun q : Nat => (q : Int)) (eN12 4)).trans em12_3; omega
  have r14 : (-2147483648 : Int) ≤ y12_2_1 ∧ y12_2_1 ≤ 2147483647 := by have h1 : (-2147483648 : Int) ≤ F12 2 1 ∧ F12 2 1 ≤ 2147483647 := H.krg 2 1 (by decide); rw [show F12 2 1 = y12_2_1 from ((eF12 2 1).trans ey12_2_1)] at h1; exact h1
  exact w_ireturn rfl (k (z12) _ _ _ _ _ _ _ H O (SD_trans (SD_refl) (SD_glu (ι := [0, 3, 2, 4]) hD12 eD12 (by decide +kernel)) (any_subA (l' := [4]) rfl)) (SD_trans (SD_refl) (SD_glu (ι := [0, 3, 2, 4]) hN12 eN12 (by decide +kernel)) (any_subA (l' := [4]) rfl)) (SF_trans (SF_trans (SF_refl) (SF_glu (ι := [0, 1, 2, 3]) hS8 eF8 (by decide +kernel)) (any_sub (l' := [(0, 3), (0, 4), (0, 5), (0, 6), (0, 8)]) rfl)) (SF_glu (ι := [0, 3, 2, 4]) hS12 eF12 (by decide +kernel)) (any_sub (l' := [(0, 7), (0, 8), (2, 0), (2, 1), (2, 2)]) rfl)) (SA_trans (SA_trans (SA_refl) (SA_glu (ι := [0, 1, 2, 3]) hA8 eA8 (by decide +kernel)) (any_subA (l' := []) rfl)) (SA_glu (ι := [0, 3, 2, 4]) hA12 eA12 (by decide +kernel)) (any_subA (l' := [4]) rfl)) (pf12_2_0) (m12_3) ((congrArg (fun q : Nat => (q : Int)) (eN12 4)).trans em12_3) (y12_2_1) (((eF12 2 1).trans ey12_2_1)) (show inr (z12) by omega) (show 0 ≤ (z12) ∧ (z12) ≤ 6 by omega) (show 0 ≤ (y12_2_1) ∧ (y12_2_1) ≤ (m12_3) ∧ (m12_3) ≤ 65536 by omega))
