abbrev V203 : vV := [(0, 10, [(4, 0), (4, 0), (4, 0), (4, 0), (0, 0), (4, 0), (0, 0), (2, 0), (0, 0)])]
/-- Tags.fail: this -/
theorem C203 {σE : rS} {D N : Nat → Nat} {F : hF} {A : hA} {d c s : Nat} {Q : wQ} (H : HW V203 σE D N F A) {a1 a2 : Int} (u0_8 : Int) (eu0_8 : F 0 8 = u0_8) (h0 : inr (a1)) (h1 : inr (a2)) (k : ∀ (z : Int) (σ : rS) (F' : hF) (A' : hA), HW V203 σ D N F' A' → OUT (V203).length D N σE c s D N σ c s → SF [(0, 8)] F F' → SA [] A A' → ∀ y0_8 : Int, F' 0 8 = y0_8 → (inr (z)) → ((z) = (a1)) → ((y0_8) = (a2)) → Q (some (I z)) σ c s) : Ew 203 (d + 0) 0 (rargs 0 [.ref (D 0), I a1, I a2]) [] σE c s Q := by
  have O := OUT_refl (n := (V203).length) (D := D) (N := N) (σ := σE) (c := c) (s := s)
  have HE := H
  have r1 : (-2147483648 : Int) ≤ u0_8 ∧ u0_8 ≤ 2147483647 := by have h1 : (-2147483648 : Int) ≤ F 0 8 ∧ F 0 8 ≤ 2147483647 := H.krg 0 8 (by decide); rw [show F 0 8 = u0_8 from (eu0_8)] at h1; exact h1
  refine Ew_of (pc' := 1) (fun _ => x_aload_n rfl rfl) ?_
  refine Ew_of (pc' := 2) (fun _ => x_iload_n rfl rfl) ?_
  refine v_p H (o := 0) (z := a2) (v := I (a2)) rfl rfl rfl rfl rfl rfl rfl rfl (show (-2147483648 : Int) ≤ a2 ∧ a2 ≤ 2147483647 by omega) (fun σ H O' => ?_)
  have O := OUT_trans O O'
  refine Ew_of (pc' := 6) (fun _ => x_iload_n rfl rfl) ?_
  exact w_ireturn rfl (k (a1) _ _ _ H O (SF_upd (SF_refl) rfl) (SA_refl) (a2) (rfl) (show inr (a1) by omega) (show (a1) = a1 by omega) (show (a2) = a2 by omega))
abbrev V204_Row_Row : vV := [(0, 10, [(4, 0), (4, 0), (4, 0), (4, 0), (0, 0), (4, 0), (0, 0), (2, 0), (0, 0)]), (0, 7, [(4, 0), (0, 0), (1, 0), (0, 0), (0, 0)]), (0, 7, [(4, 0), (0, 0), (1, 0), (0, 0), (0, 0)]), (1, 0, [])]
/-- Tags.begin: this, #1, #2, #1.bytes -/
theorem C204_Row_Row {σE : rS} {D N : Nat → Nat} {F : hF} {A : hA} {d c s : Nat} {Q : wQ} (H : HW V204_Row_Row σE D N F A) {a3 : Int} (pf3 : F 1 0 = (D 3 : Int)) (n3 : Int) (en3 : (N 3 : Int) = n3) (u0_4 : Int) (eu0_4 : F 0 4 = u0_4) (u0_6 : Int) (eu0_6 : F 0 6 = u0_6) (u0_8 : Int) (eu0_8 : F 0 8 = u0_8) (u1_1 : Int) (eu1_1 : F 1 1 = u1_1) (h0 : inr (a3)) (k : ∀ (σ : rS) (F' : hF) (A' : hA), HW V204_Row_Row σ D N F' A' → OUT (V204_Row_Row).length D N σE c s D N σ c s → SF [(0, 3), (0, 4), (0, 5), (0, 6), (0, 8)] F F' → SA [] A A' → ∀ y0_4 : Int, F' 0 4 = y0_4 → ∀ y0_6 : Int, F' 0 6 = y0_6 → ∀ y0_8 : Int, F' 0 8 = y0_8 → F' 0 3 = (D 3 : Int) → F' 0 5 = (D 2 : Int) → ((y0_4) = (u1_1) ∧ (y0_6) = (a3) ∧ (y0_8) = (u1_1)) → Q none σ c s) : Ew 204 (d + 0) 0 (rargs 0 [.ref (D 0), .ref (D 1), .ref (D 2), I a3]) [] σE c s Q := by
  have O := OUT_refl (n := (V204_Row_Row).length) (D := D) (N := N) (σ := σE) (c := c) (s := s)
  have HE := H
  have r1 : (-2147483648 : Int) ≤ u0_4 ∧ u0_4 ≤ 2147483647 := by have h1 : (-2147483648 : Int) ≤ F 0 4 ∧ F 0 4 ≤ 2147483647 := H.krg 0 4 (by decide); rw [show F 0 4 = u0_4 from (eu0_4)] at h1; exact h1
  have r2 : (-2147483648 : Int) ≤ u0_6 ∧ u0_6 ≤ 2147483647 := by have h1 : (-2147483648 : Int) ≤ F 0 6 ∧ F 0 6 ≤ 2147483647 := H.krg 0 6 (by decide); rw [show F 0 6 = u0_6 from (eu0_6)] at h1; exact h1
  have r3 : (-2147483648 : Int) ≤ u0_8 ∧ u0_8 ≤ 2147483647 := by have h1 : (-2147483648 : Int) ≤ F 0 8 ∧ F 0 8 ≤ 2147483647 := H.krg 0 8 (by decide); rw [show F 0 8 = u0_8 from (eu0_8)] at h1; exact h1
  have r4 : (-2147483648 : Int) ≤ u1_1 ∧ u1_1 ≤ 2147483647 := by have h1 : (-2147483648 : Int) ≤ F 1 1 ∧ F 1 1 ≤ 2147483647 := H.krg 1 1 (by decide); rw [show F 1 1 = u1_1 from (eu1_1)] at h1; exact h1
  have r5 : (0 : Int) ≤ n3 ∧ n3 ≤ 1000000 := by have h1 := H.nle 3 (by decide); have h2 : (N 3 : Int) = n3 := en3; omega
  refine Ew_of (pc' := 1) (fun _ => x_aload_n rfl rfl) ?_
  refine Ew_of (pc' := 2) (fun _ => x_aload_n rfl rfl) ?_
  refine v_g H (o := 1) (v := .ref (D 3)) rfl rfl rfl rfl rfl (vrf (pf3)) ?_
  refine v_p H (o := 0) (z := ((D 3 : Nat) : Int)) (v := .ref (D 3)) rfl rfl rfl rfl rfl rfl (vrf rfl) rfl (show (-1 : Int) ≤ ((D 3 : Nat) : Int) by omega) (fun σ H O' => ?_)
  have O := OUT_trans O O'
  refine Ew_of (pc' := 9) (fun _ => x_aload_n rfl rfl) ?_
  refine Ew_of (pc' := 10) (fun _ => x_aload_n rfl rfl) ?_
  refine v_g H (o := 1) (v := I (u1_1)) rfl rfl rfl rfl rfl (congrArg (fun z : Int => I z) ((eu1_1) : (updF F 0 3 ((D 3 : Nat) : Int)) 1 1 = u1_1)) ?_
  refine v_p H (o := 0) (z := u1_1) (v := I (u1_1)) rfl rfl rfl rfl rfl rfl rfl rfl (show (-2147483648 : Int) ≤ u1_1 ∧ u1_1 ≤ 2147483647 by omega) (fun σ H O' => ?_)
  have O := OUT_trans O O'
  refine Ew_of (pc' := 17) (fun _ => x_aload_n rfl rfl) ?_
  refine Ew_of (pc' := 18) (fun _ => x_aload_n rfl rfl) ?_
  refine v_p H (o := 0) (z := ((D 2 : Nat) : Int)) (v := .ref (D 2)) rfl rfl rfl rfl rfl rfl (vrf rfl) rfl (show (-1 : Int) ≤ ((D 2 : Nat) : Int) by omega) (fun σ H O' => ?_)
  have O := OUT_trans O O'
  refine Ew_of (pc' := 22) (fun _ => x_aload_n rfl rfl) ?_
  refine Ew_of (pc' := 23) (fun _ => x_iload_n rfl rfl) ?_
  refine v_p H (o := 0) (z := a3) (v := I (a3)) rfl rfl rfl rfl rfl rfl rfl rfl (show (-2147483648 : Int) ≤ a3 ∧ a3 ≤ 2147483647 by omega) (fun σ H O' => ?_)
  have O := OUT_trans O O'
  refine Ew_of (pc' := 27) (fun _ => x_aload_n rfl rfl) ?_
  refine Ew_of (pc' := 28) (fun _ => x_aload_n rfl rfl) ?_
  refine v_g H (o := 0) (v := I (u1_1)) rfl rfl rfl rfl rfl (congrArg (fun z : Int => I z) (rfl : (updF (updF (updF (updF F 0 3 ((D 3 : Nat) : Int)) 0 4 (u1_1)) 0 5 ((D 2 : Nat) : Int)) 0 6 (a3)) 0 4 = u1_1)) ?_
  refine v_p H (o := 0) (z := u1_1) (v := I (u1_1)) rfl rfl rfl rfl rfl rfl rfl rfl (show (-2147483648 : Int) ≤ u1_1 ∧ u1_1 ≤ 2147483647 by omega) (fun σ H O' => ?_)
  have O := OUT_trans O O'
  exact w_ret rfl (k _ _ _ H O (SF_upd (SF_upd (SF_upd (SF_upd (SF_upd (SF_refl) rfl) rfl) rfl) rfl) rfl) (SA_refl) (u1_1) (rfl) (a3) (rfl) (u1_1) (rfl) ((show (updF F 0 3 ((D 3 : Nat) : Int)) 0 3 = ((D 3 : Nat) : Int) from rfl)) ((show (updF (updF (updF F 0 3 ((D 3 : Nat) : Int)) 0 4 (u1_1)) 0 5 ((D 2 : Nat) : Int)) 0 5 = ((D 2 : Nat) : Int) from rfl)) (show (u1_1) = (u1_1) ∧ (a3) = a3 ∧ (u1_1) = (u1_1) by omega))
abbrev V208 : vV := []
/-- Tags.bytesBehind:  -/
theorem C208 {σE : rS} {D N : Nat → Nat} {F : hF} {A : hA} {d c s : Nat} {Q : wQ} (H : HW V208 σE D N F A) {a1 : Int} (h0 : inr (a1)) (h1 : 0 ≤ (a1) ∧ (a1) ≤ 255) (k : ∀ (z : Int) (σ : rS) (F' : hF) (A' : hA), HW V208 σ D N F' A' → OUT (V208).length D N σE c s D N σ c s → SF [] F F' → SA [] A A' → (inr (z)) → (0 ≤ (z) ∧ (z) ≤ 4) → ((z) = TEb ((a1))) → Q (some (I z)) σ c s) : Ew 208 (d + 0) 0 (rargs 0 [I a1]) [] σE c s Q := by
  have O := OUT_refl (n := (V208).length) (D := D) (N := N) (σ := σE) (c := c) (s := s)
  have HE := H
  refine Ew_of (pc' := 1) (fun _ => x_iload_n rfl rfl) ?_
  refine Ew_of (pc' := 2) (fun _ => x_iconst rfl) ?_
  refine w_iandE rfl (show inr (a1) by omega) (show inr (3) by omega) (fun z1 gz1 gaz1 gbz1 gez1 => ?_)
  have hg3 := gez1
  have h3 : (z1) = (a1) % 4 := by rw [← andI_3]; exact hg3.symm
  by_cases b2 : z1 = 0
  · refine w_tsk 0 28 rfl (show inr (z1) by omega) (by omega) (by decide) rfl rfl ?_
    refine Ew_of (pc' := 29) (fun _ => x_iconst rfl) ?_
    refine Ew_of (pc' := 30) (fun _ => x_iload_n rfl rfl) ?_
    refine Ew_of (pc' := 31) (fun _ => x_iconst rfl) ?_
    refine w_ishrK 2 4 (by decide) (by decide) rfl (show inr (a1) by omega) (fun z3 gz3 dz3 => ?_)
    refine Ew_of (pc' := 34) (fun _ => x_bipush (z := 59) rfl (by decide)) ?_
    refine w_isub rfl ?_
    refine v_max rfl rfl (show inr (0) by omega) (show inr ((z3 - 59)) by omega) (fun z4 gz4 => ?_)
    have heb := TEb_eq ((a1)) (by omega)
    have : (z4) = TEb ((a1)) := by omega
    exact w_ireturn rfl (k (z4) _ _ _ H O (SF_refl) (SA_refl) (show inr (z4) by omega) (show 0 ≤ (z4) ∧ (z4) ≤ 4 by omega) (show (z4) = TEb (a1) by assumption))
  ·
    by_cases b5 : z1 = 1
    · refine w_tsk 1 39 rfl (show inr (z1) by omega) (by omega) (by decide) rfl rfl ?_
      refine Ew_of (pc' := 40) (fun _ => x_iconst rfl) ?_
      have heb := TEb_eq ((a1)) (by omega)
      have : (1) = TEb ((a1)) := by omega
      exact w_ireturn rfl (k (1) _ _ _ H O (SF_refl) (SA_refl) (show inr (1) by omega) (show 0 ≤ (1) ∧ (1) ≤ 4 by omega) (show (1) = TEb (a1) by assumption))
    ·
      by_cases b6 : z1 = 2
      · refine w_tsk 2 41 rfl (show inr (z1) by omega) (by omega) (by decide) rfl rfl ?_
        refine Ew_of (pc' := 42) (fun _ => x_iconst rfl) ?_
        have heb := TEb_eq ((a1)) (by omega)
        have : (2) = TEb ((a1)) := by omega
        exact w_ireturn rfl (k (2) _ _ _ H O (SF_refl) (SA_refl) (show inr (2) by omega) (show 0 ≤ (2) ∧ (2) ≤ 4 by omega) (show (2) = TEb (a1) by assumption))
      ·
        refine w_tsd 43 rfl (show inr (z1) by omega) (by omega) rfl ?_
        refine Ew_of (pc' := 44) (fun _ => x_iconst rfl) ?_
        have heb := TEb_eq ((a1)) (by omega)
        have : (4) = TEb ((a1)) := by omega
        exact w_ireturn rfl (k (4) _ _ _ H O (SF_refl) (SA_refl) (show inr (4) by omega) (show 0 ≤ (4) ∧ (4) ≤ 4 by omega) (show (4) = TEb (a1) by assumption))
abbrev V209 : vV := []
/-- Tags.lengthOf:  -/
theorem C209 {σE : rS} {D N : Nat → Nat} {F : hF} {A : hA} {d c s : Nat} {Q : wQ} (H : HW V209 σE D N F A) {a1 a2 : Int} (h0 : inr (a1)) (h1 : inrJ (a2)) (h2 : 0 ≤ (a1) ∧ (a1) ≤ 255) (h3 : 0 ≤ (a2) ∧ (a2) ≤ 4294967295) (k : ∀ (z : Int) (σ : rS) (F' : hF) (A' : hA), HW V209 σ D N F' A' → OUT (V209).length D N σE c s D N σ c s → SF [] F F' → SA [] A A' → (inrJ (z)) → (1 ≤ (z) ∧ (z) ≤ 4294967296) → ((z) = TEl ((a1)) ((a2))) → Q (some (J z)) σ c s) : Ew 209 (d + 0) 0 (rargs 0 [I a1, J a2]) [] σE c s Q := by
  have O := OUT_refl (n := (V209).length) (D := D) (N := N) (σ := σE) (c := c) (s := s)
  have HE := H
  refine Ew_of (pc' := 1) (fun _ => x_iload_n rfl rfl) ?_
  refine Ew_of (pc' := 2) (fun _ => x_iconst rfl) ?_
  refine w_ishrK 2 4 (by decide) (by decide) rfl (show inr (a1) by omega) (fun z1 gz1 dz1 => ?_)
  refine Ew_of (pc' := 4) (fun _ => x_istore_n rfl) ?_
  refine Ew_of (pc' := 5) (fun _ => x_iload_n rfl (rk_o (rfl) rfl rfl)) ?_
  refine Ew_of (pc' := 6) (fun _ => x_iconst rfl) ?_
  refine w_iandE rfl (show inr (a1) by omega) (show inr (3) by omega) (fun z2 gz2 gaz2 gbz2 gez2 => ?_)
  have hg3 := gez2
  have h3 : (z2) = (a1) % 4 := by rw [← andI_3]; exact hg3.symm
  by_cases b3 : z2 = 0
  · refine w_lsk 32 rfl (show inr (z2) by omega) b3 rfl rfl ?_
    refine Ew_of (pc' := 33) (fun _ => x_iload_n rfl rk_s) ?_
    refine Ew_of (pc' := 35) (fun _ => x_bipush (z := 60) rfl (by decide)) ?_
    refine w_icmpge (t := 45) rfl rfl (show inr (z1) by omega) (show inr (60) by omega) (fun b4 => ?_) (fun b4 => ?_)
    · refine Ew_of (pc' := 46) (fun _ => x_lload_n rfl (rk_o (rfl) rfl rfl)) ?_
      refine Ew_of (pc' := 47) (fun _ => x_lconst (z := 1) rfl (by decide)) ?_
      refine w_ladd rfl ?_
      have hel := TEl_eq ((a1)) ((a2)) (by omega)
      have : ((a2 + 1)) = TEl ((a1)) ((a2)) := by omega
      exact w_lreturn rfl (k ((a2 + 1)) _ _ _ H O (SF_refl) (SA_refl) (show inrJ ((a2 + 1)) by omega) (show 1 ≤ ((a2 + 1)) ∧ ((a2 + 1)) ≤ 4294967296 by omega) (show ((a2 + 1)) = TEl (a1) (a2) by assumption))
    · refine Ew_of (pc' := 39) (fun _ => x_iload_n rfl rk_s) ?_
      refine Ew_of (pc' := 40) (fun _ => x_iconst rfl) ?_
      refine w_iadd rfl ?_
      refine w_i2l rfl (show inr ((z1 + 1)) by omega) ?_
      refine Ew_of (pc' := 48) (fun _ => x_goto rfl rfl) ?_
      have hel := TEl_eq ((a1)) ((a2)) (by omega)
      have : ((z1 + 1)) = TEl ((a1)) ((a2)) := by omega
      exact w_lreturn rfl (k ((z1 + 1)) _ _ _ H O (SF_refl) (SA_refl) (show inrJ ((z1 + 1)) by omega) (show 1 ≤ ((z1 + 1)) ∧ ((z1 + 1)) ≤ 4294967296 by omega) (show ((z1 + 1)) = TEl (a1) (a2) by assumption))
  ·
    by_cases b5 : z2 = 1
    · refine w_lsk 49 rfl (show inr (z2) by omega) b5 rfl rfl ?_
      refine Ew_of (pc' := 50) (fun _ => x_iload_n rfl rk_s) ?_
      refine Ew_of (pc' := 52) (fun _ => x_bipush (z := 8) rfl (by decide)) ?_
      refine w_irem rfl (show inr (z1) ∧ 0 ≤ z1 by omega) (show inr (8) ∧ 0 < 8 by omega) ?_
      refine Ew_of (pc' := 54) (fun _ => x_iconst rfl) ?_
      refine w_iadd rfl ?_
      refine w_i2l rfl (show inr (((z1 % 8) + 4)) by omega) ?_
      have hel := TEl_eq ((a1)) ((a2)) (by omega)
      have : (((z1 % 8) + 4)) = TEl ((a1)) ((a2)) := by omega
      exact w_lreturn rfl (k (((z1 % 8) + 4)) _ _ _ H O (SF_refl) (SA_refl) (show inrJ (((z1 % 8) + 4)) by omega) (show 1 ≤ (((z1 % 8) + 4)) ∧ (((z1 % 8) + 4)) ≤ 4294967296 by omega) (show (((z1 % 8) + 4)) = TEl (a1) (a2) by assumption))
    ·
      refine w_lsd 57 rfl (show inr (z2) by omega) (by intro q hq; simp at hq; rcases hq with rfl | rfl <;> (first | omega | (simp; omega) | (intro e; simp at e; omega))) rfl ?_
      refine Ew_of (pc' := 58) (fun _ => x_iload_n rfl rk_s) ?_
      refine Ew_of (pc' := 59) (fun _ => x_iconst rfl) ?_
      refine w_iadd rfl ?_
      refine w_i2l rfl (show inr ((z1 + 1)) by omega) ?_
      have hel := TEl_eq ((a1)) ((a2)) (by omega)
      have : ((z1 + 1)) = TEl ((a1)) ((a2)) := by omega
      exact w_lreturn rfl (k ((z1 + 1)) _ _ _ H O (SF_refl) (SA_refl) (show inrJ ((z1 + 1)) by omega) (show 1 ≤ ((z1 + 1)) ∧ ((z1 + 1)) ≤ 4294967296 by omega) (show ((z1 + 1)) = TEl (a1) (a2) by assumption))
abbrev V207 : vV := [(0, 10, [(4, 0), (4, 0), (4, 0), (4, 0), (0, 0), (4, 0), (0, 0), (2, 0), (0, 0)]), (1, 0, [])]
/-- Tags.unpackLength: this, this.in -/
theorem C207 {σE : rS} {D N : Nat → Nat} {F : hF} {A : hA} {d c s : Nat} {Q : wQ} (H : HW V207 σE D N F A) {a1 a2 a3 : Int} (pf1 : F 0 3 = (D 1 : Int)) (n1 : Int) (en1 : (N 1 : Int) = n1) (u0_7 : Int) (eu0_7 : F 0 7 = u0_7) (u0_8 : Int) (eu0_8 : F 0 8 = u0_8) (w1 : Int → Int) (ew1 : A 1 = w1) (h0 : inr (a1)) (h1 : inr (a2)) (h2 : inr (a3)) (h3 : 0 ≤ (a1) ∧ (a1) ≤ (a2) ∧ (a2) ≤ (n1) ∧ (n1) ≤ 65536) (k : ∀ (z : Int) (σ : rS) (F' : hF) (A' : hA), HW V207 σ D N F' A' → OUT (V207).length D N σE c s D N σ c s → SF [(0, 7), (0, 8)] F F' → SA [] A A' → ∀ y0_7 : Int, F' 0 7 = y0_7 → ∀ y0_8 : Int, F' 0 8 = y0_8 → (inr (z)) → (0 ≤ (z) ∧ (z) ≤ 3) → ((z) = 0 → (a1) ≤ (y0_8) ∧ (y0_8) ≤ (a2) ∧ 0 ≤ (y0_7) ∧ (y0_7) ≤ (a3)) → (IMP ((z) ≠ 0) (TLQ (ub8 ((w1))) ((a2)) ((a1)) ((a3)) ((z), (y0_8), 0, 0))) → (IMP ((z) = 0) (TLQ (ub8 ((w1))) ((a2)) ((a1)) ((a3)) (0, 0, (y0_7), (y0_8)))) → Q (some (I z)) σ c s) : Ew 207 (d + 1) 0 (rargs 0 [.ref (D 0), I a1, I a2, I a3]) [] σE c s Q := by
  have O := OUT_refl (n := (V207).length) (D := D) (N := N) (σ := σE) (c := c) (s := s)
  have HE := H
  have r1 : (-9223372036854775808 : Int) ≤ u0_7 ∧ u0_7 ≤ 9223372036854775807 := by have h1 : (-9223372036854775808 : Int) ≤ F 0 7 ∧ F 0 7 ≤ 9223372036854775807 := H.krg 0 7 (by decide); rw [show F 0 7 = u0_7 from (eu0_7)] at h1; exact h1
  have r2 : (-2147483648 : Int) ≤ u0_8 ∧ u0_8 ≤ 2147483647 := by have h1 : (-2147483648 : Int) ≤ F 0 8 ∧ F 0 8 ≤ 2147483647 := H.krg 0 8 (by decide); rw [show F 0 8 = u0_8 from (eu0_8)] at h1; exact h1
  have r3 : (0 : Int) ≤ n1 ∧ n1 ≤ 1000000 := by have h1 := H.nle 1 (by decide); have h2 : (N 1 : Int) = n1 := en1; omega
  refine Ew_of (pc' := 1) (fun _ => x_aload_n rfl rfl) ?_
  refine Ew_of (pc' := 2) (fun _ => x_lconst (z := 0) rfl (by decide)) ?_
  refine v_p H (o := 0) (z := 0) (v := J (0)) rfl rfl rfl rfl rfl rfl rfl rfl (show (-9223372036854775808 : Int) ≤ 0 ∧ 0 ≤ 9223372036854775807 by omega) (fun σ H O' => ?_)
  have O := OUT_trans O O'
  refine Ew_of (pc' := 6) (fun _ => x_iload_n rfl rfl) ?_
  refine Ew_of (pc' := 8) (fun _ => x_istore rfl) ?_
  refine Ew_of (pc' := 9) (fun _ => x_iconst rfl) ?_
  refine Ew_of (pc' := 11) (fun _ => x_istore rfl) ?_
  refine Ew_of (pc' := 12) (fun _ => x_iconst rfl) ?_
  refine Ew_of (pc' := 14) (fun _ => x_istore rfl) ?_
  have : p2 (7 * 0) = 1 := by decide
  have : IMP ((1 : Int) = 1) (TLO (ub8 ((w1))) ((a2)) ((a1)) ((a3)) (0) ((0))) := fun _ => TLO_0
  have : IMP ((1 : Int) = 0) (TLz (ub8 ((w1))) ((a2)) ((a1)) ((a3)) ((0)) ((a1))) := fun z => absurd z (by omega)
  suffices hl14 : ∀ (m : Nat), ∀ (ls : rO) (σ : rS) (F_14 : hF) (A_14 : hA) (x14_4 : Int) (x14_5 : Int) (x14_6 : Int), rlook ls 0 = some (.ref (D 0)) → rlook ls 1 = some (I (a1)) → rlook ls 2 = some (I (a2)) → rlook ls 3 = some (I (a3)) → rlook ls 4 = some (I (x14_4)) → rlook ls 5 = some (I (x14_5)) → rlook ls 6 = some (I (x14_6)) → HW V207 σ D N F_14 A_14 → OUT (V207).length D N σE c s D N σ c s → SF [(0, 7)] (updF F 0 7 (0)) F_14 → SA [] A A_14 → ∀ y14_0_7 : Int, F_14 0 7 = y14_0_7 → (inr (x14_4)) → (inr (x14_5)) → (inr (x14_6)) → ((0) ≤ (x14_6)) → ((x14_6) ≤ (0) ∨ (x14_6) ≤ (5)) → ((a1) ≤ (x14_4) ∧ (x14_4) ≤ (a2)) → ((x14_4) = (a1) + (x14_6)) → ((x14_5) = 0 ∨ (x14_5) = 1) → ((x14_6) ≤ 4 ∨ (x14_5) = 0) → (0 ≤ (y14_0_7) ∧ (y14_0_7) < p2 (7 * (x14_6))) → (IMP ((x14_5) = 1) (TLO (ub8 ((w1))) ((a2)) ((a1)) ((a3)) ((x14_6)) ((y14_0_7)))) → (IMP ((x14_5) = 0) (TLz (ub8 ((w1))) ((a2)) ((a1)) ((a3)) ((y14_0_7)) ((x14_4)))) → ((5) - (x14_6)).toNat = m → Ew 207 (d + 1) 14 ls [] σ c s Q from
    hl14 _ _ _ _ _ (a1) (1) (0) (rk_o (rk_o (rk_o (rfl) rfl rfl) rfl rfl) rfl rfl) (rk_o (rk_o (rk_o (rfl) rfl rfl) rfl rfl) rfl rfl) (rk_o (rk_o (rk_o (rfl) rfl rfl) rfl rfl) rfl rfl) (rk_o (rk_o (rk_o (rfl) rfl rfl) rfl rfl) rfl rfl) (rk_o (rk_o (rk_s) rfl rfl) rfl rfl) (rk_o (rk_s) rfl rfl) (rk_s) H O (SF_refl) (SA_refl)   (0) (rfl)  (show inr (a1) by omega) (show inr (1) by omega) (show inr (0) by omega) (show (0) ≤ (0) by omega) (show (0) ≤ (0) ∨ (0) ≤ (5) by omega) (show (a1) ≤ (a1) ∧ (a1) ≤ (a2) by omega) (show (a1) = (a1) + (0) by omega) (show (1) = 0 ∨ (1) = 1 by omega) (show (0) ≤ 4 ∨ (1) = 0 by omega) (show 0 ≤ (0) ∧ (0) < p2 (7 * (0)) by omega) (show IMP ((1) = 1) (TLO (ub8 ((w1))) ((a2)) ((a1)) ((a3)) ((0)) ((0))) by assumption) (show IMP ((1) = 0) (TLz (ub8 ((w1))) ((a2)) ((a1)) ((a3)) ((0)) ((a1))) by assumption) rfl
  as_aux_lemma =>
  intro m
  induction m using Nat.strongRecOn with
  | _ m ih14 =>
    intro ls σ F_14 A_14 x14_4 x14_5 x14_6 l14_0 l14_1 l14_2 l14_3 l14_4 l14_5 l14_6 H O hS_14 hA_14   y14_0_7 ey14_0_7  j14_0 j14_1 j14_2 j14_3 j14_4 j14_5 j14_6 j14_7 j14_8 j14_9 j14_10 j14_11 hm14
    have r4 : (-9223372036854775808 : Int) ≤ y14_0_7 ∧ y14_0_7 ≤ 9223372036854775807 := by have h1 : (-9223372036854775808 : Int) ≤ F_14 0 7 ∧ F_14 0 7 ≤ 9223372036854775807 := H.krg 0 7 (by decide); rw [show F_14 0 7 = y14_0_7 from (ey14_0_7)] at h1; exact h1
    have j14_o : IMP ((x14_5) = 1) (TLO (ub8 ((w1))) ((a2)) ((a1)) ((a3)) ((x14_6)) ((y14_0_7))) := by assumption
    have j14_z : IMP ((x14_5) = 0) (TLz (ub8 ((w1))) ((a2)) ((a1)) ((a3)) ((y14_0_7)) ((x14_4))) := by assumption
    refine Ew_of (pc' := 16) (fun _ => x_iload rfl l14_6) ?_
    refine Ew_of (pc' := 17) (fun _ => x_iconst rfl) ?_
    refine w_icmpge (t := 116) rfl rfl (show inr (x14_6) by omega) (show inr (5) by omega) (fun b5 => ?_) (fun b5 => ?_)
    · have hz := j14_z (by omega)
      refine Ew_of (pc' := 117) (fun _ => x_aload_n rfl l14_0) ?_
      refine v_g H (o := 0) (v := J (y14_0_7)) rfl rfl rfl rfl rfl (congrArg (fun z : Int => J z) ((ey14_0_7) : F_14 0 7 = y14_0_7)) ?_
      refine Ew_of (pc' := 121) (fun _ => x_iload_n rfl l14_3) ?_
      refine w_i2l rfl (show inr (a3) by omega) ?_
      refine w_lcmp rfl (show inrJ (y14_0_7) by omega) (show inrJ (a3) by omega) (fun z6 gz6 gaz6 gbz6 => ?_)
      refine w_ifle (t := 135) rfl rfl (show inr (z6) by omega) (fun b7 => ?_) (fun b7 => ?_)
      · refine Ew_of (pc' := 136) (fun _ => x_aload_n rfl l14_0) ?_
        refine Ew_of (pc' := 137) (fun _ => x_iconst rfl) ?_
        refine Ew_of (pc' := 139) (fun _ => x_iload rfl l14_4) ?_
        refine v_inv H (o := 0) rfl rfl rfl rfl rfl rfl (by rfl) (C203 (D := pul [0] D) (N := pul [0] N) (HW_sub H (VS_of (show vsub V207 V203 [0] = true by decide +kernel))) (u0_8) (((hS_14 0 8 rfl).trans (eu0_8))) (show inr (0) by omega) (show inr (x14_4) by omega) (fun z8 σ8 F8' A8' H' O' hS8 hA8 y8_0_8 ey8_0_8 pz8_0 pz8_1 pz8_2 => ⟨rfl, ?_⟩))
        refine v_back (c := c) (s := s) H (show vsub V207 V203 [0] = true by decide +kernel) H' O' (fun F8 A8 H O' eF8 eA8 => ?_)
        have O := OUT_trans O O'
        -- Tags.fail
        have r9 : (-2147483648 : Int) ≤ y8_0_8 ∧ y8_0_8 ≤ 2147483647 := by have h1 : (-2147483648 : Int) ≤ F8 0 8 ∧ F8 0 8 ≤ 2147483647 := H.krg 0 8 (by decide); rw [show F8 0 8 = y8_0_8 from ((eF8 0 8).trans ey8_0_8)] at h1; exact h1
        have : IMP ((z8) ≠ 0) (TLQ (ub8 ((w1))) ((a2)) ((a1)) ((a3)) ((z8), (y8_0_8), 0, 0)) := fun z => by first | exact absurd (by omega) z | (have h := hz.1 (by omega); rw [show ((z8) : Int) = 3 by omega, show (y8_0_8) = (a1) by omega]; exact h)
        have : IMP ((z8) = 0) (TLQ (ub8 ((w1))) ((a2)) ((a1)) ((a3)) (0, 0, (y14_0_7), (y8_0_8))) := fun z => by first | exact absurd z (by omega) | (rw [show (y8_0_8) = (x14_4) by omega]; exact hz.2 (by omega))
        exact w_ireturn rfl (k (z8) _ _ _ H O (SF_trans (SF_trans (SF_upd (SF_refl) rfl) hS_14 (any_sub rfl)) (SF_glu (ι := [0]) hS8 eF8 (by decide +kernel)) (any_sub (l' := [(0, 8)]) rfl)) (SA_trans (SA_trans (SA_refl) hA_14 (any_subA rfl)) (SA_glu (ι := [0]) hA8 eA8 (by decide +kernel)) (any_subA (l' := []) rfl)) (y14_0_7) ((((show F8 0 7 = F_14 0 7 from (eF8 0 7).trans (hS8 0 7 rfl))).trans (ey14_0_7))) (y8_0_8) (((eF8 0 8).trans ey8_0_8)) (show inr (z8) by omega) (show 0 ≤ (z8) ∧ (z8) ≤ 3 by omega) (show (z8) = 0 → a1 ≤ (y8_0_8) ∧ (y8_0_8) ≤ a2 ∧ 0 ≤ (y14_0_7) ∧ (y14_0_7) ≤ a3 by omega) (show IMP ((z8) ≠ 0) (TLQ (ub8 ((w1))) (a2) (a1) (a3) ((z8), (y8_0_8), 0, 0)) by assumption) (show IMP ((z8) = 0) (TLQ (ub8 ((w1))) (a2) (a1) (a3) (0, 0, (y14_0_7), (y8_0_8))) by assumption))
      · refine Ew_of (pc' := 127) (fun _ => x_aload_n rfl l14_0) ?_
        refine Ew_of (pc' := 128) (fun _ => x_iconst rfl) ?_
        refine Ew_of (pc' := 129) (fun _ => x_iload_n rfl l14_1) ?_
        refine v_inv H (o := 0) rfl rfl rfl rfl rfl rfl (by rfl) (C203 (D := pul [0] D) (N := pul [0] N) (HW_sub H (VS_of (show vsub V207 V203 [0] = true by decide +kernel))) (u0_8) (((hS_14 0 8 rfl).trans (eu0_8))) (show inr (3) by omega) (show inr (a1) by omega) (fun z10 σ10 F10' A10' H' O' hS10 hA10 y10_0_8 ey10_0_8 pz10_0 pz10_1 pz10_2 => ⟨rfl, ?_⟩))
        refine v_back (c := c) (s := s) H (show vsub V207 V203 [0] = true by decide +kernel) H' O' (fun F10 A10 H O' eF10 eA10 => ?_)
        have O := OUT_trans O O'
        -- Tags.fail
        have r11 : (-2147483648 : Int) ≤ y10_0_8 ∧ y10_0_8 ≤ 2147483647 := by have h1 : (-2147483648 : Int) ≤ F10 0 8 ∧ F10 0 8 ≤ 2147483647 := H.krg 0 8 (by decide); rw [show F10 0 8 = y10_0_8 from ((eF10 0 8).trans ey10_0_8)] at h1; exact h1
        refine Ew_of (pc' := 142) (fun _ => x_goto rfl rfl) ?_
        have : IMP ((z10) ≠ 0) (TLQ (ub8 ((w1))) ((a2)) ((a1)) ((a3)) ((z10), (y10_0_8), 0, 0)) := fun z => by first | exact absurd (by omega) z | (have h := hz.1 (by omega); rw [show ((z10) : Int) = 3 by omega, show (y10_0_8) = (a1) by omega]; exact h)
        have : IMP ((z10) = 0) (TLQ (ub8 ((w1))) ((a2)) ((a1)) ((a3)) (0, 0, (y14_0_7), (y10_0_8))) := fun z => by first | exact absurd z (by omega) | (rw [show (y10_0_8) = (x14_4) by omega]; exact hz.2 (by omega))
        exact w_ireturn rfl (k (z10) _ _ _ H O (SF_trans (SF_trans (SF_upd (SF_refl) rfl) hS_14 (any_sub rfl)) (SF_glu (ι := [0]) hS10 eF10 (by decide +kernel)) (any_sub (l' := [(0, 8)]) rfl)) (SA_trans (SA_trans (SA_refl) hA_14 (any_subA rfl)) (SA_glu (ι := [0]) hA10 eA10 (by decide +kernel)) (any_subA (l' := []) rfl)) (y14_0_7) ((((show F10 0 7 = F_14 0 7 from (eF10 0 7).trans (hS10 0 7 rfl))).trans (ey14_0_7))) (y10_0_8) (((eF10 0 8).trans ey10_0_8)) (show inr (z10) by omega) (show 0 ≤ (z10) ∧ (z10) ≤ 3 by omega) (show (z10) = 0 → a1 ≤ (y10_0_8) ∧ (y10_0_8) ≤ a2 ∧ 0 ≤ (y14_0_7) ∧ (y14_0_7) ≤ a3 by omega) (show IMP ((z10) ≠ 0) (TLQ (ub8 ((w1))) (a2) (a1) (a3) ((z10), (y10_0_8), 0, 0)) by assumption) (show IMP ((z10) = 0) (TLQ (ub8 ((w1))) (a2) (a1) (a3) (0, 0, (y14_0_7), (y10_0_8))) by assumption))
    · refine Ew_of (pc' := 22) (fun _ => x_iload rfl l14_5) ?_
      refine w_ifeq (t := 116) rfl rfl (show inr (x14_5) by omega) (fun b12 => ?_) (fun b12 => ?_)
      · have hz := j14_z (by omega)
        refine Ew_of (pc' := 117) (fun _ => x_aload_n rfl l14_0) ?_
        refine v_g H (o := 0) (v := J (y14_0_7)) rfl rfl rfl rfl rfl (congrArg (fun z : Int => J z) ((ey14_0_7) : F_14 0 7 = y14_0_7)) ?_
        refine Ew_of (pc' := 121) (fun _ => x_iload_n rfl l14_3) ?_
        refine w_i2l rfl (show inr (a3) by omega) ?_
        refine w_lcmp rfl (show inrJ (y14_0_7) by omega) (show inrJ (a3) by omega) (fun z13 gz13 gaz13 gbz13 => ?_)
        refine w_ifle (t := 135) rfl rfl (show inr (z13) by omega) (fun b14 => ?_) (fun b14 => ?_)
        · refine Ew_of (pc' := 136) (fun _ => x_aload_n rfl l14_0) ?_
          refine Ew_of (pc' := 137) (fun _ => x_iconst rfl) ?_
          refine Ew_of (pc' := 139) (fun _ => x_iload rfl l14_4) ?_
          refine v_inv H (o := 0) rfl rfl rfl rfl rfl rfl (by rfl) (C203 (D := pul [0] D) (N := pul [0] N) (HW_sub H (VS_of (show vsub V207 V203 [0] = true by decide +kernel))) (u0_8) (((hS_14 0 8 rfl).trans (eu0_8))) (show inr (0) by omega) (show inr (x14_4) by omega) (fun z15 σ15 F15' A15' H' O' hS15 hA15 y15_0_8 ey15_0_8 pz15_0 pz15_1 pz15_2 => ⟨rfl, ?_⟩))
          refine v_back (c := c) (s := s) H (show vsub V207 V203 [0] = true by decide +kernel) H' O' (fun F15 A15 H O' eF15 eA15 => ?_)
          have O := OUT_trans O O'
          -- Tags.fail
          have r16 : (-2147483648 : Int) ≤ y15_0_8 ∧ y15_0_8 ≤ 2147483647 := by have h1 : (-2147483648 : Int) ≤ F15 0 8 ∧ F15 0 8 ≤ 2147483647 := H.krg 0 8 (by decide); rw [show F15 0 8 = y15_0_8 from ((eF15 0 8).trans ey15_0_8)] at h1; exact h1
          have : IMP ((z15) ≠ 0) (TLQ (ub8 ((w1))) ((a2)) ((a1)) ((a3)) ((z15), (y15_0_8), 0, 0)) := fun z => by first | exact absurd (by omega) z | (have h := hz.1 (by omega); rw [show ((z15) : Int) = 3 by omega, show (y15_0_8) = (a1) by omega]; exact h)
          have : IMP ((z15) = 0) (TLQ (ub8 ((w1))) ((a2)) ((a1)) ((a3)) (0, 0, (y14_0_7), (y15_0_8))) := fun z => by first | exact absurd z (by omega) | (rw [show (y15_0_8) = (x14_4) by omega]; exact hz.2 (by omega))
          exact w_ireturn rfl (k (z15) _ _ _ H O (SF_trans (SF_trans (SF_upd (SF_refl) rfl) hS_14 (any_sub rfl)) (SF_glu (ι := [0]) hS15 eF15 (by decide +kernel)) (any_sub (l' := [(0, 8)]) rfl)) (SA_trans (SA_trans (SA_refl) hA_14 (any_subA rfl)) (SA_glu (ι := [0]) hA15 eA15 (by decide +kernel)) (any_subA (l' := []) rfl)) (y14_0_7) ((((show F15 0 7 = F_14 0 7 from (eF15 0 7).trans (hS15 0 7 rfl))).trans (ey14_0_7))) (y15_0_8) (((eF15 0 8).trans ey15_0_8)) (show inr (z15) by omega) (show 0 ≤ (z15) ∧ (z15) ≤ 3 by omega) (show (z15) = 0 → a1 ≤ (y15_0_8) ∧ (y15_0_8) ≤ a2 ∧ 0 ≤ (y14_0_7) ∧ (y14_0_7) ≤ a3 by omega) (show IMP ((z15) ≠ 0) (TLQ (ub8 ((w1))) (a2) (a1) (a3) ((z15), (y15_0_8), 0, 0)) by assumption) (show IMP ((z15) = 0) (TLQ (ub8 ((w1))) (a2) (a1) (a3) (0, 0, (y14_0_7), (y15_0_8))) by assumption))
        · refine Ew_of (pc' := 127) (fun _ => x_aload_n rfl l14_0) ?_
          refine Ew_of (pc' := 128) (fun _ => x_iconst rfl) ?_
          refine Ew_of (pc' := 129) (fun _ => x_iload_n rfl l14_1) ?_
          refine v_inv H (o := 0) rfl rfl rfl rfl rfl rfl (by rfl) (C203 (D := pul [0] D) (N := pul [0] N) (HW_sub H (VS_of (show vsub V207 V203 [0] = true by decide +kernel))) (u0_8) (((hS_14 0 8 rfl).trans (eu0_8))) (show inr (3) by omega) (show inr (a1) by omega) (fun z17 σ17 F17' A17' H' O' hS17 hA17 y17_0_8 ey17_0_8 pz17_0 pz17_1 pz17_2 => ⟨rfl, ?_⟩))
          refine v_back (c := c) (s := s) H (show vsub V207 V203 [0] = true by decide +kernel) H' O' (fun F17 A17 H O' eF17 eA17 => ?_)
          have O := OUT_trans O O'
          -- Tags.fail
          have r18 : (-2147483648 : Int) ≤ y17_0_8 ∧ y17_0_8 ≤ 2147483647 := by have h1 : (-2147483648 : Int) ≤ F17 0 8 ∧ F17 0 8 ≤ 2147483647 := H.krg 0 8 (by decide); rw [show F17 0 8 = y17_0_8 from ((eF17 0 8).trans ey17_0_8)] at h1; exact h1
          refine Ew_of (pc' := 142) (fun _ => x_goto rfl rfl) ?_
          have : IMP ((z17) ≠ 0) (TLQ (ub8 ((w1))) ((a2)) ((a1)) ((a3)) ((z17), (y17_0_8), 0, 0)) := fun z => by first | exact absurd (by omega) z | (have h := hz.1 (by omega); rw [show ((z17) : Int) = 3 by omega, show (y17_0_8) = (a1) by omega]; exact h)
          have : IMP ((z17) = 0) (TLQ (ub8 ((w1))) ((a2)) ((a1)) ((a3)) (0, 0, (y14_0_7), (y17_0_8))) := fun z => by first | exact absurd z (by omega) | (rw [show (y17_0_8) = (x14_4) by omega]; exact hz.2 (by omega))
          exact w_ireturn rfl (k (z17) _ _ _ H O (SF_trans (SF_trans (SF_upd (SF_refl) rfl) hS_14 (any_sub rfl)) (SF_glu (ι := [0]) hS17 eF17 (by decide +kernel)) (any_sub (l' := [(0, 8)]) rfl)) (SA_trans (SA_trans (SA_refl) hA_14 (any_subA rfl)) (SA_glu (ι := [0]) hA17 eA17 (by decide +kernel)) (any_subA (l' := []) rfl)) (y14_0_7) ((((show F17 0 7 = F_14 0 7 from (eF17 0 7).trans (hS17 0 7 rfl))).trans (ey14_0_7))) (y17_0_8) (((eF17 0 8).trans ey17_0_8)) (show inr (z17) by omega) (show 0 ≤ (z17) ∧ (z17) ≤ 3 by omega) (show (z17) = 0 → a1 ≤ (y17_0_8) ∧ (y17_0_8) ≤ a2 ∧ 0 ≤ (y14_0_7) ∧ (y14_0_7) ≤ a3 by omega) (show IMP ((z17) ≠ 0) (TLQ (ub8 ((w1))) (a2) (a1) (a3) ((z17), (y17_0_8), 0, 0)) by assumption) (show IMP ((z17) = 0) (TLQ (ub8 ((w1))) (a2) (a1) (a3) (0, 0, (y14_0_7), (y17_0_8))) by assumption))
      · refine Ew_of (pc' := 27) (fun _ => x_iload rfl l14_4) ?_
        refine Ew_of (pc' := 28) (fun _ => x_iload_n rfl l14_2) ?_
        refine w_icmplt (t := 38) rfl rfl (show inr (x14_4) by omega) (show inr (a2) by omega) (fun b19 => ?_) (fun b19 => ?_)
        · have hlo := j14_o (by omega)
          obtain ⟨q6, hq6⟩ : ∃ q : Int, q = (a1) + (x14_6) := ⟨_, rfl⟩
          refine Ew_of (pc' := 39) (fun _ => x_aload_n rfl l14_0) ?_
          refine v_g H (o := 0) (v := .ref (D 1)) rfl rfl rfl rfl rfl (vrf (((hS_14 0 3 rfl)).trans (pf1))) ?_
          refine Ew_of (pc' := 44) (fun _ => x_iload rfl l14_4) ?_
          refine Ew_of (pc' := 47) (fun _ => x_iinc (len := 3) rfl (l14_4)) ?_
          refine v_lB H (o := 1) rfl rfl rfl rfl (n := n1) (en1) (show 0 ≤ x14_4 ∧ x14_4 < n1 by omega) (fun v20 ev20 qv20 => ?_)
          have ev20 : (w1) (x14_4) = v20 := (congrFun ((funext (hA_14 1 rfl)).trans (ew1)) (x14_4)).symm.trans ev20
          have hvb := ev20
          refine Ew_of (pc' := 51) (fun _ => x_sipush (z := 255) rfl (by decide)) ?_
          refine v_and255 rfl ?_
          have hv : (ub8 ((w1))) (q6) = ((v20 % 256)) := by rw [hq6, show (a1) + (x14_6) = ((x14_4 + 1)) - 1 by omega]; first | exact ub_eq hvb rfl | (have h := ub_eq hvb rfl; exact h)
          refine Ew_of (pc' := 54) (fun _ => x_istore rfl) ?_
          refine Ew_of (pc' := 56) (fun _ => x_iload rfl (rk_o (rk_o (l14_6) rfl rfl) rfl rfl)) ?_
          refine Ew_of (pc' := 57) (fun _ => x_iconst rfl) ?_
          have hc74 : ∀ (ls : rO) (σ : rS) (F_c74 : hF) (A_c74 : hA) , rlook ls 0 = some (.ref (D 0)) → rlook ls 1 = some (I (a1)) → rlook ls 2 = some (I (a2)) → rlook ls 3 = some (I (a3)) → rlook ls 4 = some (I ((x14_4 + 1))) → rlook ls 6 = some (I (x14_6)) → rlook ls 7 = some (I ((v20 % 256))) → HW V207 σ D N F_c74 A_c74 → OUT (V207).length D N σE c s D N σ c s → SF [] F_14 F_c74 → SA [] A_14 A_c74 → (((x14_6) ≠ (4)) ∨ ((x14_6) = (4) ∧ ((v20 % 256)) ≤ (15))) → Ew 207 (d + 1) 74 ls [] σ c s Q := by
           as_aux_lemma =>
            intro  ls σ F_c74 A_c74  lc74_0 lc74_1 lc74_2 lc74_3 lc74_4 lc74_6 lc74_7 H O hS_c74 hA_c74     jc74_0
            refine Ew_of (pc' := 75) (fun _ => x_aload_n rfl lc74_0) ?_
            refine Ew_of (pc' := 76) (fun _ => x_dup rfl rfl) ?_
            refine v_g H (o := 0) (v := J (y14_0_7)) rfl rfl rfl rfl rfl (congrArg (fun z : Int => J z) (((hS_c74 0 7 rfl).trans (ey14_0_7)) : F_c74 0 7 = y14_0_7)) ?_
            refine Ew_of (pc' := 81) (fun _ => x_iload rfl lc74_7) ?_
            refine w_i2l rfl (show inr ((v20 % 256)) by omega) ?_
            refine Ew_of (pc' := 85) (fun _ => x_ldc2 (z := 127) rfl (by decide)) ?_
            refine w_landE rfl ?_
            have g21 : inrJ (anJ ((v20 % 256)) (127)) := toJ_inr _
            refine Ew_of (pc' := 88) (fun _ => x_bipush (z := 7) rfl (by decide)) ?_
            refine Ew_of (pc' := 90) (fun _ => x_iload rfl lc74_6) ?_
            refine w_imul rfl ?_
            refine w_lshlE rfl ?_
            have g22 : inrJ (shlJ ((anJ ((v20 % 256)) (127))) ((7 * x14_6))) := toJ_inr _
            have hp := p2_pos (7 * (x14_6))
            have hpm : p2 (7 * (x14_6)) ≤ p2 28 := p2_mono (by omega)
            have hp28 : p2 28 = 268435456 := by decide
            have hb1 : ((v20 % 256)) % 128 * p2 (7 * (x14_6)) ≤ 127 * p2 (7 * (x14_6)) := Int.mul_le_mul_of_nonneg_right (by omega) (by omega)
            have hb0 : 0 ≤ ((v20 % 256)) % 128 * p2 (7 * (x14_6)) := Int.mul_nonneg (by omega) (by omega)
            refine w_lorE rfl ?_
            have g23 : inrJ (orJ (y14_0_7) ((shlJ ((anJ ((v20 % 256)) (127))) ((7 * x14_6))))) := toJ_inr _
            have hln : ((orJ (y14_0_7) ((shlJ ((anJ ((v20 % 256)) (127))) ((7 * x14_6)))))) = (y14_0_7) + ((v20 % 256)) % 128 * p2 (7 * (x14_6)) := by rw [anJ_127]; exact or_sh (by omega) (by omega) (by omega) (by omega)
            have hp7 := p7 (i := (x14_6)) (by omega)
            refine v_p H (o := 0) (z := (orJ (y14_0_7) ((shlJ ((anJ ((v20 % 256)) (127))) ((7 * x14_6)))))) (v := J ((orJ (y14_0_7) ((shlJ ((anJ ((v20 % 256)) (127))) ((7 * x14_6))))))) rfl rfl rfl rfl rfl rfl rfl rfl (show (-9223372036854775808 : Int) ≤ (orJ (y14_0_7) ((shlJ ((anJ ((v20 % 256)) (127))) ((7 * x14_6))))) ∧ (orJ (y14_0_7) ((shlJ ((anJ ((v20 % 256)) (127))) ((7 * x14_6))))) ≤ 9223372036854775807 by omega) (fun σ H O' => ?_)
            have O := OUT_trans O O'
            refine Ew_of (pc' := 98) (fun _ => x_iload rfl lc74_7) ?_
            refine Ew_of (pc' := 100) (fun _ => x_bipush (z := 127) rfl (by decide)) ?_
            refine w_icmple (t := 107) rfl rfl (show inr ((v20 % 256)) by omega) (show inr (127) by omega) (fun b24 => ?_) (fun b24 => ?_)
            · refine Ew_of (pc' := 108) (fun _ => x_iconst rfl) ?_
              refine Ew_of (pc' := 110) (fun _ => x_istore rfl) ?_
              refine Ew_of (pc' := 113) (fun _ => x_iinc (len := 3) rfl (rk_o (lc74_6) rfl rfl)) ?_
              refine Ew_of (pc' := 14) (fun _ => x_goto rfl rfl) ?_
              have : IMP ((0) = 1) (TLO (ub8 ((w1))) ((a2)) ((a1)) ((a3)) (((x14_6 + 1))) (((orJ (y14_0_7) ((shlJ ((anJ ((v20 % 256)) (127))) ((7 * x14_6)))))))) := by first | exact fun z => absurd z (by omega) | exact fun _ => TLO_s hlo (by omega) hq6 (by omega) hv (by omega) (by omega) (by omega)
              have : IMP ((0) = 0) (TLz (ub8 ((w1))) ((a2)) ((a1)) ((a3)) (((orJ (y14_0_7) ((shlJ ((anJ ((v20 % 256)) (127))) ((7 * x14_6))))))) (((x14_4 + 1)))) := by first | exact fun z => absurd z (by omega) | exact fun _ => TLO_z hlo (by omega) hq6 (by omega) hv (by omega) (by omega) (by omega)
              exact ih14 _ (by omega) _ _ _ _ ((x14_4 + 1)) (0) ((x14_6 + 1)) (rk_o (rk_o (lc74_0) rfl rfl) rfl rfl) (rk_o (rk_o (lc74_1) rfl rfl) rfl rfl) (rk_o (rk_o (lc74_2) rfl rfl) rfl rfl) (rk_o (rk_o (lc74_3) rfl rfl) rfl rfl) (rk_o (rk_o (lc74_4) rfl rfl) rfl rfl) (rk_o (rk_s) rfl rfl) (rk_s) H O (SF_upd (SF_trans (hS_14) hS_c74 (any_sub rfl)) rfl) (SA_trans (hA_14) hA_c74 (any_subA rfl))   ((orJ (y14_0_7) ((shlJ ((anJ ((v20 % 256)) (127))) ((7 * x14_6)))))) (rfl)  (show inr ((x14_4 + 1)) by omega) (show inr (0) by omega) (show inr ((x14_6 + 1)) by omega) (show (0) ≤ ((x14_6 + 1)) by omega) (show ((x14_6 + 1)) ≤ (0) ∨ ((x14_6 + 1)) ≤ (5) by omega) (show (a1) ≤ ((x14_4 + 1)) ∧ ((x14_4 + 1)) ≤ (a2) by omega) (show ((x14_4 + 1)) = (a1) + ((x14_6 + 1)) by omega) (show (0) = 0 ∨ (0) = 1 by omega) (show ((x14_6 + 1)) ≤ 4 ∨ (0) = 0 by omega) (show 0 ≤ ((orJ (y14_0_7) ((shlJ ((anJ ((v20 % 256)) (127))) ((7 * x14_6)))))) ∧ ((orJ (y14_0_7) ((shlJ ((anJ ((v20 % 256)) (127))) ((7 * x14_6)))))) < p2 (7 * ((x14_6 + 1))) by omega) (show IMP ((0) = 1) (TLO (ub8 ((w1))) ((a2)) ((a1)) ((a3)) (((x14_6 + 1))) (((orJ (y14_0_7) ((shlJ ((anJ ((v20 % 256)) (127))) ((7 * x14_6)))))))) by assumption) (show IMP ((0) = 0) (TLz (ub8 ((w1))) ((a2)) ((a1)) ((a3)) (((orJ (y14_0_7) ((shlJ ((anJ ((v20 % 256)) (127))) ((7 * x14_6))))))) (((x14_4 + 1)))) by assumption) rfl
            · refine Ew_of (pc' := 104) (fun _ => x_iconst rfl) ?_
              refine Ew_of (pc' := 108) (fun _ => x_goto rfl rfl) ?_
              refine Ew_of (pc' := 110) (fun _ => x_istore rfl) ?_
              refine Ew_of (pc' := 113) (fun _ => x_iinc (len := 3) rfl (rk_o (lc74_6) rfl rfl)) ?_
              refine Ew_of (pc' := 14) (fun _ => x_goto rfl rfl) ?_
              have : IMP ((1) = 1) (TLO (ub8 ((w1))) ((a2)) ((a1)) ((a3)) (((x14_6 + 1))) (((orJ (y14_0_7) ((shlJ ((anJ ((v20 % 256)) (127))) ((7 * x14_6)))))))) := by first | exact fun z => absurd z (by omega) | exact fun _ => TLO_s hlo (by omega) hq6 (by omega) hv (by omega) (by omega) (by omega)
              have : IMP ((1) = 0) (TLz (ub8 ((w1))) ((a2)) ((a1)) ((a3)) (((orJ (y14_0_7) ((shlJ ((anJ ((v20 % 256)) (127))) ((7 * x14_6))))))) (((x14_4 + 1)))) := by first | exact fun z => absurd z (by omega) | exact fun _ => TLO_z hlo (by omega) hq6 (by omega) hv (by omega) (by omega) (by omega)
              exact ih14 _ (by omega) _ _ _ _ ((x14_4 + 1)) (1) ((x14_6 + 1)) (rk_o (rk_o (lc74_0) rfl rfl) rfl rfl) (rk_o (rk_o (lc74_1) rfl rfl) rfl rfl) (rk_o (rk_o (lc74_2) rfl rfl) rfl rfl) (rk_o (rk_o (lc74_3) rfl rfl) rfl rfl) (rk_o (rk_o (lc74_4) rfl rfl) rfl rfl) (rk_o (rk_s) rfl rfl) (rk_s) H O (SF_upd (SF_trans (hS_14) hS_c74 (any_sub rfl)) rfl) (SA_trans (hA_14) hA_c74 (any_subA rfl))   ((orJ (y14_0_7) ((shlJ ((anJ ((v20 % 256)) (127))) ((7 * x14_6)))))) (rfl)  (show inr ((x14_4 + 1)) by omega) (show inr (1) by omega) (show inr ((x14_6 + 1)) by omega) (show (0) ≤ ((x14_6 + 1)) by omega) (show ((x14_6 + 1)) ≤ (0) ∨ ((x14_6 + 1)) ≤ (5) by omega) (show (a1) ≤ ((x14_4 + 1)) ∧ ((x14_4 + 1)) ≤ (a2) by omega) (show ((x14_4 + 1)) = (a1) + ((x14_6 + 1)) by omega) (show (1) = 0 ∨ (1) = 1 by omega) (show ((x14_6 + 1)) ≤ 4 ∨ (1) = 0 by omega) (show 0 ≤ ((orJ (y14_0_7) ((shlJ ((anJ ((v20 % 256)) (127))) ((7 * x14_6)))))) ∧ ((orJ (y14_0_7) ((shlJ ((anJ ((v20 % 256)) (127))) ((7 * x14_6)))))) < p2 (7 * ((x14_6 + 1))) by omega) (show IMP ((1) = 1) (TLO (ub8 ((w1))) ((a2)) ((a1)) ((a3)) (((x14_6 + 1))) (((orJ (y14_0_7) ((shlJ ((anJ ((v20 % 256)) (127))) ((7 * x14_6)))))))) by assumption) (show IMP ((1) = 0) (TLz (ub8 ((w1))) ((a2)) ((a1)) ((a3)) (((orJ (y14_0_7) ((shlJ ((anJ ((v20 % 256)) (127))) ((7 * x14_6))))))) (((x14_4 + 1)))) by assumption) rfl
          refine w_icmpne (t := 74) rfl rfl (show inr (x14_6) by omega) (show inr (4) by omega) (fun b25 => ?_) (fun b25 => ?_)
          · exact hc74  _ _ _ _  (rk_o (rk_o (l14_0) rfl rfl) rfl rfl) (rk_o (rk_o (l14_1) rfl rfl) rfl rfl) (rk_o (rk_o (l14_2) rfl rfl) rfl rfl) (rk_o (rk_o (l14_3) rfl rfl) rfl rfl) (rk_o (rk_s) rfl rfl) (rk_o (rk_o (l14_6) rfl rfl) rfl rfl) (rk_s) H O (SF_refl) (SA_refl)     (show ((x14_6) ≠ (4)) ∨ ((x14_6) = (4) ∧ ((v20 % 256)) ≤ (15)) by omega)
          · refine Ew_of (pc' := 62) (fun _ => x_iload rfl rk_s) ?_
            refine Ew_of (pc' := 64) (fun _ => x_bipush (z := 15) rfl (by decide)) ?_
            refine w_icmple (t := 74) rfl rfl (show inr ((v20 % 256)) by omega) (show inr (15) by omega) (fun b26 => ?_) (fun b26 => ?_)
            · exact hc74  _ _ _ _  (rk_o (rk_o (l14_0) rfl rfl) rfl rfl) (rk_o (rk_o (l14_1) rfl rfl) rfl rfl) (rk_o (rk_o (l14_2) rfl rfl) rfl rfl) (rk_o (rk_o (l14_3) rfl rfl) rfl rfl) (rk_o (rk_s) rfl rfl) (rk_o (rk_o (l14_6) rfl rfl) rfl rfl) (rk_s) H O (SF_refl) (SA_refl)     (show ((x14_6) ≠ (4)) ∨ ((x14_6) = (4) ∧ ((v20 % 256)) ≤ (15)) by omega)
            · refine Ew_of (pc' := 68) (fun _ => x_aload_n rfl (rk_o (rk_o (l14_0) rfl rfl) rfl rfl)) ?_
              refine Ew_of (pc' := 69) (fun _ => x_iconst rfl) ?_
              refine Ew_of (pc' := 70) (fun _ => x_iload_n rfl (rk_o (rk_o (l14_1) rfl rfl) rfl rfl)) ?_
              refine v_inv H (o := 0) rfl rfl rfl rfl rfl rfl (by rfl) (C203 (D := pul [0] D) (N := pul [0] N) (HW_sub H (VS_of (show vsub V207 V203 [0] = true by decide +kernel))) (u0_8) (((hS_14 0 8 rfl).trans (eu0_8))) (show inr (2) by omega) (show inr (a1) by omega) (fun z27 σ27 F27' A27' H' O' hS27 hA27 y27_0_8 ey27_0_8 pz27_0 pz27_1 pz27_2 => ⟨rfl, ?_⟩))
              refine v_back (c := c) (s := s) H (show vsub V207 V203 [0] = true by decide +kernel) H' O' (fun F27 A27 H O' eF27 eA27 => ?_)
              have O := OUT_trans O O'
              -- Tags.fail
              have r28 : (-2147483648 : Int) ≤ y27_0_8 ∧ y27_0_8 ≤ 2147483647 := by have h1 : (-2147483648 : Int) ≤ F27 0 8 ∧ F27 0 8 ≤ 2147483647 := H.krg 0 8 (by decide); rw [show F27 0 8 = y27_0_8 from ((eF27 0 8).trans ey27_0_8)] at h1; exact h1
              have : IMP ((z27) ≠ 0) (TLQ (ub8 ((w1))) ((a2)) ((a1)) ((a3)) ((z27), (y27_0_8), 0, 0)) := fun _ => TLO_2 hlo (by omega) hq6 (by omega) hv (by omega) (by omega) (by omega)
              have : IMP ((z27) = 0) (TLQ (ub8 ((w1))) ((a2)) ((a1)) ((a3)) (0, 0, (y14_0_7), (y27_0_8))) := fun z => absurd z (by omega)
              exact w_ireturn rfl (k (z27) _ _ _ H O (SF_trans (SF_trans (SF_upd (SF_refl) rfl) hS_14 (any_sub rfl)) (SF_glu (ι := [0]) hS27 eF27 (by decide +kernel)) (any_sub (l' := [(0, 8)]) rfl)) (SA_trans (SA_trans (SA_refl) hA_14 (any_subA rfl)) (SA_glu (ι := [0]) hA27 eA27 (by decide +kernel)) (any_subA (l' := []) rfl)) (y14_0_7) ((((show F27 0 7 = F_14 0 7 from (eF27 0 7).trans (hS27 0 7 rfl))).trans (ey14_0_7))) (y27_0_8) (((eF27 0 8).trans ey27_0_8)) (show inr (z27) by omega) (show 0 ≤ (z27) ∧ (z27) ≤ 3 by omega) (show (z27) = 0 → a1 ≤ (y27_0_8) ∧ (y27_0_8) ≤ a2 ∧ 0 ≤ (y14_0_7) ∧ (y14_0_7) ≤ a3 by omega) (show IMP ((z27) ≠ 0) (TLQ (ub8 ((w1))) (a2) (a1) (a3) ((z27), (y27_0_8), 0, 0)) by assumption) (show IMP ((z27) = 0) (TLQ (ub8 ((w1))) (a2) (a1) (a3) (0, 0, (y14_0_7), (y27_0_8))) by assumption))
        · refine Ew_of (pc' := 32) (fun _ => x_aload_n rfl l14_0) ?_
          refine Ew_of (pc' := 33) (fun _ => x_iconst rfl) ?_
          refine Ew_of (pc' := 34) (fun _ => x_iload_n rfl l14_2) ?_
          refine v_inv H (o := 0) rfl rfl rfl rfl rfl rfl (by rfl) (C203 (D := pul [0] D) (N := pul [0] N) (HW_sub H (VS_of (show vsub V207 V203 [0] = true by decide +kernel))) (u0_8) (((hS_14 0 8 rfl).trans (eu0_8))) (show inr (1) by omega) (show inr (a2) by omega) (fun z29 σ29 F29' A29' H' O' hS29 hA29 y29_0_8 ey29_0_8 pz29_0 pz29_1 pz29_2 => ⟨rfl, ?_⟩))
          refine v_back (c := c) (s := s) H (show vsub V207 V203 [0] = true by decide +kernel) H' O' (fun F29 A29 H O' eF29 eA29 => ?_)
          have O := OUT_trans O O'
          -- Tags.fail
          have r30 : (-2147483648 : Int) ≤ y29_0_8 ∧ y29_0_8 ≤ 2147483647 := by have h1 : (-2147483648 : Int) ≤ F29 0 8 ∧ F29 0 8 ≤ 2147483647 := H.krg 0 8 (by decide); rw [show F29 0 8 = y29_0_8 from ((eF29 0 8).trans ey29_0_8)] at h1; exact h1
          have : IMP ((z29) ≠ 0) (TLQ (ub8 ((w1))) ((a2)) ((a1)) ((a3)) ((z29), (y29_0_8), 0, 0)) := fun _ => TLO_1 (j14_o (by omega)) (by omega) (by omega) (by omega) (by omega)
          have : IMP ((z29) = 0) (TLQ (ub8 ((w1))) ((a2)) ((a1)) ((a3)) (0, 0, (y14_0_7), (y29_0_8))) := fun z => absurd z (by omega)
          exact w_ireturn rfl (k (z29) _ _ _ H O (SF_trans (SF_trans (SF_upd (SF_refl) rfl) hS_14 (any_sub rfl)) (SF_glu (ι := [0]) hS29 eF29 (by decide +kernel)) (any_sub (l' := [(0, 8)]) rfl)) (SA_trans (SA_trans (SA_refl) hA_14 (any_subA rfl)) (SA_glu (ι := [0]) hA29 eA29 (by decide +kernel)) (any_subA (l' := []) rfl)) (y14_0_7) ((((show F29 0 7 = F_14 0 7 from (eF29 0 7).trans (hS29 0 7 rfl))).trans (ey14_0_7))) (y29_0_8) (((eF29 0 8).trans ey29_0_8)) (show inr (z29) by omega) (show 0 ≤ (z29) ∧ (z29) ≤ 3 by omega) (show (z29) = 0 → a1 ≤ (y29_0_8) ∧ (y29_0_8) ≤ a2 ∧ 0 ≤ (y14_0_7) ∧ (y14_0_7) ≤ a3 by omega) (show IMP ((z29) ≠ 0) (TLQ (ub8 ((w1))) (a2) (a1) (a3) ((z29), (y29_0_8), 0, 0)) by assumption) (show IMP ((z29) = 0) (TLQ (ub8 ((w1))) (a2) (a1) (a3) (0, 0, (y14_0_7), (y29_0_8))) by assumption))
abbrev V206 : vV := [(0, 10, [(4, 0), (4, 0), (4, 0), (4, 0), (0, 0), (4, 0), (0, 0), (2, 0), (0, 0)]), (1, 0, []), (0, 7, [(4, 0), (0, 0), (1, 0), (0, 0), (0, 0)]), (1, 0, [])]
/-- Tags.unpackBlock: this, this.in, this.result, this.result.bytes -/
theorem C206 {σE : rS} {D N : Nat → Nat} {F : hF} {A : hA} {d c s : Nat} {Q : wQ} (H : HW V206 σE D N F A) {a1 a2 a3 : Int} (pf1 : F 0 3 = (D 1 : Int)) (pf2 : F 0 5 = (D 2 : Int)) (pf3 : F 2 0 = (D 3 : Int)) (n1 : Int) (en1 : (N 1 : Int) = n1) (n3 : Int) (en3 : (N 3 : Int) = n3) (u0_8 : Int) (eu0_8 : F 0 8 = u0_8) (u2_1 : Int) (eu2_1 : F 2 1 = u2_1) (u2_2 : Int) (eu2_2 : F 2 2 = u2_2) (w1 : Int → Int) (ew1 : A 1 = w1) (w3 : Int → Int) (ew3 : A 3 = w3) (h0 : inr (a1)) (h1 : inr (a2)) (h2 : inr (a3)) (h3 : 0 ≤ (a1) ∧ (a1) ≤ (a2) ∧ (a2) ≤ (n1) ∧ (n1) ≤ 65536) (h4 : 0 ≤ (u2_1) ∧ (u2_1) ≤ (n3) ∧ (n3) ≤ 65536) (h5 : (a3) ≤ 65536) (h6 : (u2_2) = 0 ∧ (u2_1) + (a3) ≤ 65536) (k : ∀ (z : Int) (σ : rS) (D' N' : Nat → Nat) (F' : hF) (A' : hA) (c' s' : Nat), HW V206 σ D' N' F' A' → OUT (V206).length D N σE c s D' N' σ c' s' → SD [3] D D' → SD [3] N N' → SF [(0, 7), (0, 8), (2, 0), (2, 1), (2, 2)] F F' → SA [3] A A' → F' 2 0 = (D' 3 : Int) → ∀ m3 : Int, (N' 3 : Int) = m3 → ∀ y0_8 : Int, F' 0 8 = y0_8 → ∀ y2_1 : Int, F' 2 1 = y2_1 → ∀ y2_2 : Int, F' 2 2 = y2_2 → ∀ v3 : Int → Int, A' 3 = v3 → (inr (z)) → (0 ≤ (z) ∧ (z) ≤ 6) → (0 ≤ (y2_1) ∧ (y2_1) ≤ (m3) ∧ (m3) ≤ 65536) → ((u2_1) ≤ (y2_1)) → ((y2_1) ≤ (u2_1) + (a3) ∨ (y2_1) = (u2_1)) → ((y2_2) = 0) → (IMP ((z) ≠ 0) (TYB (ub8 ((w1))) ((a2)) ((a1)) ((a3)) ((z), (y0_8), []))) → (IMP ((z) = 0) (TYB (ub8 ((w1))) ((a2)) ((a1)) ((a3)) (0, (a2), sc ((v3)) ((u2_1)) ((y2_1))))) → (∀ i, (0 : Int) ≤ i → i < (u2_1) → ((v3)) i = ((w3)) i) → ((z) ≠ 0 ∨ (y0_8) = (a2)) → Q (some (I z)) σ c' s') : Ew 206 (d + 3) 0 (rargs 0 [.ref (D 0), I a1, I a2, I a3]) [] σE c s Q := by
  have O := OUT_refl (n := (V206).length) (D := D) (N := N) (σ := σE) (c := c) (s := s)
  have HE := H
  have r1 : (-2147483648 : Int) ≤ u0_8 ∧ u0_8 ≤ 2147483647 := by have h1 : (-2147483648 : Int) ≤ F 0 8 ∧ F 0 8 ≤ 2147483647 := H.krg 0 8 (by decide); rw [show F 0 8 = u0_8 from (eu0_8)] at h1; exact h1
  have r2 : (-2147483648 : Int) ≤ u2_1 ∧ u2_1 ≤ 2147483647 := by have h1 : (-2147483648 : Int) ≤ F 2 1 ∧ F 2 1 ≤ 2147483647 := H.krg 2 1 (by decide); rw [show F 2 1 = u2_1 from (eu2_1)] at h1; exact h1
  have r3 : (0 : Int) ≤ u2_2 ∧ u2_2 ≤ 1 := by have h1 : (0 : Int) ≤ F 2 2 ∧ F 2 2 ≤ 1 := H.krg 2 2 (by decide); rw [show F 2 2 = u2_2 from (eu2_2)] at h1; exact h1
  have r4 : (0 : Int) ≤ n1 ∧ n1 ≤ 1000000 := by have h1 := H.nle 1 (by decide); have h2 : (N 1 : Int) = n1 := en1; omega
  have r5 : (0 : Int) ≤ n3 ∧ n3 ≤ 1000000 := by have h1 := H.nle 3 (by decide); have h2 : (N 3 : Int) = n3 := en3; omega
  refine Ew_of (pc' := 1) (fun _ => x_aload_n rfl rfl) ?_
  refine Ew_of (pc' := 2) (fun _ => x_iload_n rfl rfl) ?_
  refine Ew_of (pc' := 3) (fun _ => x_iload_n rfl rfl) ?_
  refine Ew_of (pc' := 4) (fun _ => x_iload_n rfl rfl) ?_
  have r6 : (-9223372036854775808 : Int) ≤ F 0 7 ∧ F 0 7 ≤ 9223372036854775807 := by have h1 : (-9223372036854775808 : Int) ≤ F 0 7 ∧ F 0 7 ≤ 9223372036854775807 := H.krg 0 7 (by decide); rw [show F 0 7 = F 0 7 from rfl] at h1; exact h1
  refine v_inv H (o := 0) rfl rfl rfl rfl rfl rfl (by rfl) (C207 (D := pul [0, 1] D) (N := pul [0, 1] N) (HW_sub H (VS_of (show vsub V206 V207 [0, 1] = true by decide +kernel))) (pf1) (n1) (en1) (F 0 7) (rfl) (u0_8) ((eu0_8)) (w1) (ew1) (show inr (a1) by omega) (show inr (a2) by omega) (show inr (a3) by omega) (show 0 ≤ (a1) ∧ (a1) ≤ (a2) ∧ (a2) ≤ (n1) ∧ (n1) ≤ 65536 by omega) (fun z7 σ7 F7' A7' H' O' hS7 hA7 y7_0_7 ey7_0_7 y7_0_8 ey7_0_8 pz7_0 pz7_1 pz7_2 pz7_3 pz7_4 => ⟨rfl, ?_⟩))
  refine v_back (c := c) (s := s) H (show vsub V206 V207 [0, 1] = true by decide +kernel) H' O' (fun F7 A7 H O' eF7 eA7 => ?_)
  have O := OUT_trans O O'
  -- Tags.unpackLength
  have r8 : (-9223372036854775808 : Int) ≤ y7_0_7 ∧ y7_0_7 ≤ 9223372036854775807 := by have h1 : (-9223372036854775808 : Int) ≤ F7 0 7 ∧ F7 0 7 ≤ 9223372036854775807 := H.krg 0 7 (by decide); rw [show F7 0 7 = y7_0_7 from ((eF7 0 7).trans ey7_0_7)] at h1; exact h1
  have r9 : (-2147483648 : Int) ≤ y7_0_8 ∧ y7_0_8 ≤ 2147483647 := by have h1 : (-2147483648 : Int) ≤ F7 0 8 ∧ F7 0 8 ≤ 2147483647 := H.krg 0 8 (by decide); rw [show F7 0 8 = y7_0_8 from ((eF7 0 8).trans ey7_0_8)] at h1; exact h1
  have hLf := pz7_3
  have hLy := pz7_4
  refine Ew_of (pc' := 9) (fun _ => x_istore rfl) ?_
  refine Ew_of (pc' := 11) (fun _ => x_iload rfl rk_s) ?_
  refine w_ifeq (t := 17) rfl rfl (show inr (z7) by omega) (fun b10 => ?_) (fun b10 => ?_)
  · refine Ew_of (pc' := 18) (fun _ => x_aload_n rfl (rk_o (rfl) rfl rfl)) ?_
    refine v_g H (o := 0) (v := .ref (D 2)) rfl rfl rfl rfl rfl (vrf ((((show F7 0 5 = F 0 5 from (eF7 0 5).trans (hS7 0 5 rfl)))).trans (pf2))) ?_
    refine v_g H (o := 2) (v := I (u2_1)) rfl rfl rfl rfl rfl (congrArg (fun z : Int => I z) ((((show F7 2 1 = F 2 1 from (eF7 2 1))).trans (eu2_1)) : F7 2 1 = u2_1)) ?_
    refine Ew_of (pc' := 26) (fun _ => x_istore rfl) ?_
    refine Ew_of (pc' := 27) (fun _ => x_aload_n rfl (rk_o (rk_o (rfl) rfl rfl) rfl rfl)) ?_
    refine v_g H (o := 0) (v := I (y7_0_8)) rfl rfl rfl rfl rfl (congrArg (fun z : Int => I z) (((eF7 0 8).trans ey7_0_8) : F7 0 8 = y7_0_8)) ?_
    refine Ew_of (pc' := 32) (fun _ => x_istore rfl) ?_
    obtain ⟨q0, hq0⟩ : ∃ q : Int, q = (y7_0_8) := ⟨_, rfl⟩
    have hLQ := hLy (by omega)
    rw [← hq0] at hLQ
    refine Ew_of (pc' := 33) (fun _ => x_iload_n rfl (rk_o (rk_o (rk_o (rfl) rfl rfl) rfl rfl) rfl rfl)) ?_
    refine Ew_of (pc' := 35) (fun _ => x_istore rfl) ?_
    have : TYO (ub8 ((w1))) ((a2)) ((y7_0_7)) (q0) ((y7_0_8)) (sc ((w3)) ((u2_1)) ((u2_1))) := by rw [hq0, sc_nil (Int.le_refl _)]; exact ITO_0
    have : ∀ i, (0 : Int) ≤ i → i < (u2_1) → ((w3)) i = ((w3)) i := fun i x y => rfl
    suffices hl35 : ∀ (m : Nat), ∀ (ls : rO) (σ : rS) (D_35 N_35 : Nat → Nat) (c_35 s_35 : Nat) (F_35 : hF) (A_35 : hA) (x35_6 : Int) (x35_7 : Int), rlook ls 0 = some (.ref (D_35 0)) → rlook ls 2 = some (I (a2)) → rlook ls 5 = some (I (u2_1)) → rlook ls 6 = some (I (x35_6)) → rlook ls 7 = some (I (x35_7)) → HW V206 σ D_35 N_35 F_35 A_35 → OUT (V206).length D N σE c s D_35 N_35 σ c_35 s_35 → SD [3] D D_35 → SD [3] N N_35 → SF [(2, 0), (2, 1), (2, 2)] F7 F_35 → SA [3] A7 A_35 → F_35 2 0 = (D_35 3 : Int) → ∀ m35_3 : Int, (N_35 3 : Int) = m35_3 → ∀ y35_2_1 : Int, F_35 2 1 = y35_2_1 → ∀ y35_2_2 : Int, F_35 2 2 = y35_2_2 → ∀ w35_3 : Int → Int, A_35 3 = w35_3 → (inr (x35_6)) → (inr (x35_7)) → ((a1) ≤ (x35_7)) → ((x35_7) ≤ (a1) ∨ (x35_7) ≤ ((a2))) → (0 ≤ (x35_6) ∧ (x35_6) ≤ (a2)) → (0 ≤ (y35_2_1) ∧ (y35_2_1) ≤ (m35_3) ∧ (m35_3) ≤ 65536) → ((u2_1) ≤ (y35_2_1) ∧ (u2_1) = (u2_1)) → ((y35_2_1) - (u2_1) ≤ (y7_0_7)) → ((y35_2_2) = 0) → ((x35_7) ≤ (x35_6)) → (TYO (ub8 ((w1))) ((a2)) ((y7_0_7)) (q0) ((x35_6)) (sc ((w35_3)) ((u2_1)) ((y35_2_1)))) → (∀ i, (0 : Int) ≤ i → i < (u2_1) → ((w35_3)) i = ((w3)) i) → (((a2)) - (x35_7)).toNat = m → Ew 206 (d + 3) 35 ls [] σ c_35 s_35 Q from
      hl35 _ _ _ _ _ _ _ _ _ (y7_0_8) (a1) (rk_o (rk_o (rk_o (rk_o (rfl) rfl rfl) rfl rfl) rfl rfl) rfl rfl) (rk_o (rk_o (rk_o (rk_o (rfl) rfl rfl) rfl rfl) rfl rfl) rfl rfl) (rk_o (rk_o (rk_s) rfl rfl) rfl rfl) (rk_o (rk_s) rfl rfl) (rk_s) H O (SD_refl) (SD_refl) (SF_refl) (SA_refl) ((((show F7 2 0 = F 2 0 from (eF7 2 0)))).trans (pf3)) (n3) (en3) (u2_1) ((((show F7 2 1 = F 2 1 from (eF7 2 1))).trans (eu2_1))) (u2_2) ((((show F7 2 2 = F 2 2 from (eF7 2 2))).trans (eu2_2))) (w3) (((show A7 3 = A 3 from (eA7 3))).trans (ew3)) (show inr (y7_0_8) by omega) (show inr (a1) by omega) (show (a1) ≤ (a1) by omega) (show (a1) ≤ (a1) ∨ (a1) ≤ ((a2)) by omega) (show 0 ≤ (y7_0_8) ∧ (y7_0_8) ≤ (a2) by omega) (show 0 ≤ (u2_1) ∧ (u2_1) ≤ (n3) ∧ (n3) ≤ 65536 by omega) (show (u2_1) ≤ (u2_1) ∧ (u2_1) = (u2_1) by omega) (show (u2_1) - (u2_1) ≤ (y7_0_7) by omega) (show (u2_2) = 0 by omega) (show (a1) ≤ (y7_0_8) by omega) (show TYO (ub8 ((w1))) ((a2)) ((y7_0_7)) (q0) ((y7_0_8)) (sc ((w3)) ((u2_1)) ((u2_1))) by assumption) (show ∀ i, (0 : Int) ≤ i → i < (u2_1) → ((w3)) i = ((w3)) i by assumption) rfl
    as_aux_lemma =>
    intro m
    induction m using Nat.strongRecOn with
    | _ m ih35 =>
      intro ls σ D_35 N_35 c_35 s_35 F_35 A_35 x35_6 x35_7 l35_0 l35_2 l35_5 l35_6 l35_7 H O hD_35 hN_35 hS_35 hA_35 pm35_3 m35_3 em35_3 y35_2_1 ey35_2_1 y35_2_2 ey35_2_2 w35_3 ew35_3 j35_0 j35_1 j35_2 j35_3 j35_4 j35_5 j35_6 j35_7 j35_8 j35_9 j35_10 j35_11 hm35
      have pf_35_0_3 : F_35 0 3 = (D_35 1 : Int) := (hS_35 0 3 rfl).trans (((((show F7 0 3 = F 0 3 from (eF7 0 3).trans (hS7 0 3 rfl)))).trans (pf1)).trans (congrArg (fun q : Nat => (q : Int)) (hD_35 1 rfl).symm))
      have pf_35_0_5 : F_35 0 5 = (D_35 2 : Int) := (hS_35 0 5 rfl).trans (((((show F7 0 5 = F 0 5 from (eF7 0 5).trans (hS7 0 5 rfl)))).trans (pf2)).trans (congrArg (fun q : Nat => (q : Int)) (hD_35 2 rfl).symm))
      have r11 : (0 : Int) ≤ m35_3 ∧ m35_3 ≤ 1000000 := by have h1 := H.nle 3 (by decide); have h2 : (N_35 3 : Int) = m35_3 := em35_3; omega
      have r12 : (-2147483648 : Int) ≤ y35_2_1 ∧ y35_2_1 ≤ 2147483647 := by have h1 : (-2147483648 : Int) ≤ F_35 2 1 ∧ F_35 2 1 ≤ 2147483647 := H.krg 2 1 (by decide); rw [show F_35 2 1 = y35_2_1 from (ey35_2_1)] at h1; exact h1
      have r13 : (0 : Int) ≤ y35_2_2 ∧ y35_2_2 ≤ 1 := by have h1 : (0 : Int) ≤ F_35 2 2 ∧ F_35 2 2 ≤ 1 := H.krg 2 2 (by decide); rw [show F_35 2 2 = y35_2_2 from (ey35_2_2)] at h1; exact h1
      have j35_o : TYO (ub8 ((w1))) ((a2)) ((y7_0_7)) (q0) ((x35_6)) (sc ((w35_3)) ((u2_1)) ((y35_2_1))) := by assumption
      have j35_s : ∀ i, (0 : Int) ≤ i → i < (u2_1) → ((w35_3)) i = ((w3)) i := by assumption
      obtain ⟨CX, hCX⟩ : ∃ q : List Int, q = sc ((w35_3)) ((u2_1)) ((y35_2_1)) := ⟨_, rfl⟩
      have hCl : (CX.length : Int) = (y35_2_1) - (u2_1) := by rw [hCX, sc_lenI (by omega)]; omega
      rw [← hCX] at j35_o
      obtain ⟨qp, hqp⟩ : ∃ q : Int, q = (x35_6) := ⟨_, rfl⟩
      rw [← hqp] at j35_o
      refine Ew_of (pc' := 37) (fun _ => x_iload rfl l35_7) ?_
      refine Ew_of (pc' := 38) (fun _ => x_iload_n rfl l35_2) ?_
      refine w_icmpge (t := 300) rfl rfl (show inr (x35_7) by omega) (show inr (a2) by omega) (fun b14 => ?_) (fun b14 => ?_)
      · have j35_e : (x35_6) = (a2) := by omega
        refine Ew_of (pc' := 301) (fun _ => x_aload_n rfl l35_0) ?_
        refine v_g H (o := 0) (v := .ref (D_35 2)) rfl rfl rfl rfl rfl (vrf (pf_35_0_5)) ?_
        refine v_g H (o := 2) (v := I (y35_2_1)) rfl rfl rfl rfl rfl (congrArg (fun z : Int => I z) ((ey35_2_1) : F_35 2 1 = y35_2_1)) ?_
        refine Ew_of (pc' := 309) (fun _ => x_iload rfl l35_5) ?_
        refine w_isub rfl ?_
        refine w_i2l rfl (show inr ((y35_2_1 - u2_1)) by omega) ?_
        refine Ew_of (pc' := 312) (fun _ => x_aload_n rfl l35_0) ?_
        refine v_g H (o := 0) (v := J (y7_0_7)) rfl rfl rfl rfl rfl (congrArg (fun z : Int => J z) (((hS_35 0 7 rfl).trans ((eF7 0 7).trans ey7_0_7)) : F_35 0 7 = y7_0_7)) ?_
        refine w_lcmp rfl (show inrJ ((y35_2_1 - u2_1)) by omega) (show inrJ (y7_0_7) by omega) (fun z15 gz15 gaz15 gbz15 => ?_)
        refine w_ifge (t := 329) rfl rfl (show inr (z15) by omega) (fun b16 => ?_) (fun b16 => ?_)
        · refine Ew_of (pc' := 330) (fun _ => x_aload_n rfl l35_0) ?_
          refine Ew_of (pc' := 331) (fun _ => x_iconst rfl) ?_
          refine Ew_of (pc' := 332) (fun _ => x_iload_n rfl l35_2) ?_
          refine v_inv H (o := 0) rfl rfl rfl rfl rfl rfl (by rfl) (C203 (D := pul [0] D_35) (N := pul [0] N_35) (HW_sub H (VS_of (show vsub V206 V203 [0] = true by decide +kernel))) (y7_0_8) (((hS_35 0 8 rfl).trans ((eF7 0 8).trans ey7_0_8))) (show inr (0) by omega) (show inr (a2) by omega) (fun z17 σ17 F17' A17' H' O' hS17 hA17 y17_0_8 ey17_0_8 pz17_0 pz17_1 pz17_2 => ⟨rfl, ?_⟩))
          refine v_back (c := c_35) (s := s_35) H (show vsub V206 V203 [0] = true by decide +kernel) H' O' (fun F17 A17 H O' eF17 eA17 => ?_)
          have O := OUT_trans O O'
          -- Tags.fail
          have r18 : (-2147483648 : Int) ≤ y17_0_8 ∧ y17_0_8 ≤ 2147483647 := by have h1 : (-2147483648 : Int) ≤ F17 0 8 ∧ F17 0 8 ≤ 2147483647 := H.krg 0 8 (by decide); rw [show F17 0 8 = y17_0_8 from ((eF17 0 8).trans ey17_0_8)] at h1; exact h1
          have : IMP ((z17) ≠ 0) (TYB (ub8 ((w1))) ((a2)) ((a1)) ((a3)) ((z17), (y17_0_8), [])) := fun z => by first | exact ⟨0, 0, _, _, hLQ, .inr ⟨rfl, ITO_e j35_o (TYe_6 (by omega) (by omega) (by omega) (by omega))⟩⟩ | exact absurd (by omega) z
          have : IMP ((z17) = 0) (TYB (ub8 ((w1))) ((a2)) ((a1)) ((a3)) (0, (a2), sc ((w35_3)) ((u2_1)) ((y35_2_1)))) := fun z => by first | exact absurd z (by omega) | (have h := ITO_e j35_o (TYe_0 (by omega) (by omega) rfl rfl); rw [hCX] at h; exact ⟨0, 0, _, _, hLQ, .inr ⟨rfl, h⟩⟩)
          exact w_ireturn rfl (k (z17) _ _ _ _ _ _ _ H O (SD_trans (SD_refl) hD_35 (any_subA rfl)) (SD_trans (SD_refl) hN_35 (any_subA rfl)) (SF_trans (SF_trans (SF_trans (SF_refl) (SF_glu (ι := [0, 1]) hS7 eF7 (by decide +kernel)) (any_sub (l' := [(0, 7), (0, 8)]) rfl)) hS_35 (any_sub rfl)) (SF_glu (ι := [0]) hS17 eF17 (by decide +kernel)) (any_sub (l' := [(0, 8)]) rfl)) (SA_trans (SA_trans (SA_trans (SA_refl) (SA_glu (ι := [0, 1]) hA7 eA7 (by decide +kernel)) (any_subA (l' := []) rfl)) hA_35 (any_subA rfl)) (SA_glu (ι := [0]) hA17 eA17 (by decide +kernel)) (any_subA (l' := []) rfl)) ((((show F17 2 0 = F_35 2 0 from (eF17 2 0)))).trans (pm35_3)) (m35_3) (em35_3) (y17_0_8) (((eF17 0 8).trans ey17_0_8)) (y35_2_1) ((((show F17 2 1 = F_35 2 1 from (eF17 2 1))).trans (ey35_2_1))) (y35_2_2) ((((show F17 2 2 = F_35 2 2 from (eF17 2 2))).trans (ey35_2_2))) (w35_3) (((show A17 3 = A_35 3 from (eA17 3))).trans (ew35_3)) (show inr (z17) by omega) (show 0 ≤ (z17) ∧ (z17) ≤ 6 by omega) (show 0 ≤ (y35_2_1) ∧ (y35_2_1) ≤ (m35_3) ∧ (m35_3) ≤ 65536 by omega) (show (u2_1) ≤ (y35_2_1) by omega) (show (y35_2_1) ≤ (u2_1) + a3 ∨ (y35_2_1) = (u2_1) by omega) (show (y35_2_2) = 0 by omega) (show IMP ((z17) ≠ 0) (TYB (ub8 ((w1))) (a2) (a1) (a3) ((z17), (y17_0_8), [])) by assumption) (show IMP ((z17) = 0) (TYB (ub8 ((w1))) (a2) (a1) (a3) (0, a2, sc ((w35_3)) ((u2_1)) ((y35_2_1)))) by assumption) (show ∀ i, (0 : Int) ≤ i → i < (u2_1) → ((w35_3)) i = ((w3)) i by assumption) (show (z17) ≠ 0 ∨ (y17_0_8) = a2 by omega))
        · refine Ew_of (pc' := 320) (fun _ => x_aload_n rfl l35_0) ?_
          refine Ew_of (pc' := 322) (fun _ => x_bipush (z := 6) rfl (by decide)) ?_
          refine Ew_of (pc' := 323) (fun _ => x_iload_n rfl l35_2) ?_
          refine v_inv H (o := 0) rfl rfl rfl rfl rfl rfl (by rfl) (C203 (D := pul [0] D_35) (N := pul [0] N_35) (HW_sub H (VS_of (show vsub V206 V203 [0] = true by decide +kernel))) (y7_0_8) (((hS_35 0 8 rfl).trans ((eF7 0 8).trans ey7_0_8))) (show inr (6) by omega) (show inr (a2) by omega) (fun z19 σ19 F19' A19' H' O' hS19 hA19 y19_0_8 ey19_0_8 pz19_0 pz19_1 pz19_2 => ⟨rfl, ?_⟩))
          refine v_back (c := c_35) (s := s_35) H (show vsub V206 V203 [0] = true by decide +kernel) H' O' (fun F19 A19 H O' eF19 eA19 => ?_)
          have O := OUT_trans O O'
          -- Tags.fail
          have r20 : (-2147483648 : Int) ≤ y19_0_8 ∧ y19_0_8 ≤ 2147483647 := by have h1 : (-2147483648 : Int) ≤ F19 0 8 ∧ F19 0 8 ≤ 2147483647 := H.krg 0 8 (by decide); rw [show F19 0 8 = y19_0_8 from ((eF19 0 8).trans ey19_0_8)] at h1; exact h1
          refine Ew_of (pc' := 335) (fun _ => x_goto rfl rfl) ?_
          have : IMP ((z19) ≠ 0) (TYB (ub8 ((w1))) ((a2)) ((a1)) ((a3)) ((z19), (y19_0_8), [])) := fun z => by first | exact ⟨0, 0, _, _, hLQ, .inr ⟨rfl, ITO_e j35_o (TYe_6 (by omega) (by omega) (by omega) (by omega))⟩⟩ | exact absurd (by omega) z
          have : IMP ((z19) = 0) (TYB (ub8 ((w1))) ((a2)) ((a1)) ((a3)) (0, (a2), sc ((w35_3)) ((u2_1)) ((y35_2_1)))) := fun z => by first | exact absurd z (by omega) | (have h := ITO_e j35_o (TYe_0 (by omega) (by omega) rfl rfl); rw [hCX] at h; exact ⟨0, 0, _, _, hLQ, .inr ⟨rfl, h⟩⟩)
          exact w_ireturn rfl (k (z19) _ _ _ _ _ _ _ H O (SD_trans (SD_refl) hD_35 (any_subA rfl)) (SD_trans (SD_refl) hN_35 (any_subA rfl)) (SF_trans (SF_trans (SF_trans (SF_refl) (SF_glu (ι := [0, 1]) hS7 eF7 (by decide +kernel)) (any_sub (l' := [(0, 7), (0, 8)]) rfl)) hS_35 (any_sub rfl)) (SF_glu (ι := [0]) hS19 eF19 (by decide +kernel)) (any_sub (l' := [(0, 8)]) rfl)) (SA_trans (SA_trans (SA_trans (SA_refl) (SA_glu (ι := [0, 1]) hA7 eA7 (by decide +kernel)) (any_subA (l' := []) rfl)) hA_35 (any_subA rfl)) (SA_glu (ι := [0]) hA19 eA19 (by decide +kernel)) (any_subA (l' := []) rfl)) ((((show F19 2 0 = F_35 2 0 from (eF19 2 0)))).trans (pm35_3)) (m35_3) (em35_3) (y19_0_8) (((eF19 0 8).trans ey19_0_8)) (y35_2_1) ((((show F19 2 1 = F_35 2 1 from (eF19 2 1))).trans (ey35_2_1))) (y35_2_2) ((((show F19 2 2 = F_35 2 2 from (eF19 2 2))).trans (ey35_2_2))) (w35_3) (((show A19 3 = A_35 3 from (eA19 3))).trans (ew35_3)) (show inr (z19) by omega) (show 0 ≤ (z19) ∧ (z19) ≤ 6 by omega) (show 0 ≤ (y35_2_1) ∧ (y35_2_1) ≤ (m35_3) ∧ (m35_3) ≤ 65536 by omega) (show (u2_1) ≤ (y35_2_1) by omega) (show (y35_2_1) ≤ (u2_1) + a3 ∨ (y35_2_1) = (u2_1) by omega) (show (y35_2_2) = 0 by omega) (show IMP ((z19) ≠ 0) (TYB (ub8 ((w1))) (a2) (a1) (a3) ((z19), (y19_0_8), [])) by assumption) (show IMP ((z19) = 0) (TYB (ub8 ((w1))) (a2) (a1) (a3) (0, a2, sc ((w35_3)) ((u2_1)) ((y35_2_1)))) by assumption) (show ∀ i, (0 : Int) ≤ i → i < (u2_1) → ((w35_3)) i = ((w3)) i by assumption) (show (z19) ≠ 0 ∨ (y19_0_8) = a2 by omega))
      · refine Ew_of (pc' := 43) (fun _ => x_iload rfl l35_6) ?_
        refine Ew_of (pc' := 44) (fun _ => x_iload_n rfl l35_2) ?_
        refine w_icmpge (t := 300) rfl rfl (show inr (x35_6) by omega) (show inr (a2) by omega) (fun b21 => ?_) (fun b21 => ?_)
        · have j35_e : (x35_6) = (a2) := by omega
          refine Ew_of (pc' := 301) (fun _ => x_aload_n rfl l35_0) ?_
          refine v_g H (o := 0) (v := .ref (D_35 2)) rfl rfl rfl rfl rfl (vrf (pf_35_0_5)) ?_
          refine v_g H (o := 2) (v := I (y35_2_1)) rfl rfl rfl rfl rfl (congrArg (fun z : Int => I z) ((ey35_2_1) : F_35 2 1 = y35_2_1)) ?_
          refine Ew_of (pc' := 309) (fun _ => x_iload rfl l35_5) ?_
          refine w_isub rfl ?_
          refine w_i2l rfl (show inr ((y35_2_1 - u2_1)) by omega) ?_
          refine Ew_of (pc' := 312) (fun _ => x_aload_n rfl l35_0) ?_
          refine v_g H (o := 0) (v := J (y7_0_7)) rfl rfl rfl rfl rfl (congrArg (fun z : Int => J z) (((hS_35 0 7 rfl).trans ((eF7 0 7).trans ey7_0_7)) : F_35 0 7 = y7_0_7)) ?_
          refine w_lcmp rfl (show inrJ ((y35_2_1 - u2_1)) by omega) (show inrJ (y7_0_7) by omega) (fun z22 gz22 gaz22 gbz22 => ?_)
          refine w_ifge (t := 329) rfl rfl (show inr (z22) by omega) (fun b23 => ?_) (fun b23 => ?_)
          · refine Ew_of (pc' := 330) (fun _ => x_aload_n rfl l35_0) ?_
            refine Ew_of (pc' := 331) (fun _ => x_iconst rfl) ?_
            refine Ew_of (pc' := 332) (fun _ => x_iload_n rfl l35_2) ?_
            refine v_inv H (o := 0) rfl rfl rfl rfl rfl rfl (by rfl) (C203 (D := pul [0] D_35) (N := pul [0] N_35) (HW_sub H (VS_of (show vsub V206 V203 [0] = true by decide +kernel))) (y7_0_8) (((hS_35 0 8 rfl).trans ((eF7 0 8).trans ey7_0_8))) (show inr (0) by omega) (show inr (a2) by omega) (fun z24 σ24 F24' A24' H' O' hS24 hA24 y24_0_8 ey24_0_8 pz24_0 pz24_1 pz24_2 => ⟨rfl, ?_⟩))
            refine v_back (c := c_35) (s := s_35) H (show vsub V206 V203 [0] = true by decide +kernel) H' O' (fun F24 A24 H O' eF24 eA24 => ?_)
            have O := OUT_trans O O'
            -- Tags.fail
            have r25 : (-2147483648 : Int) ≤ y24_0_8 ∧ y24_0_8 ≤ 2147483647 := by have h1 : (-2147483648 : Int) ≤ F24 0 8 ∧ F24 0 8 ≤ 2147483647 := H.krg 0 8 (by decide); rw [show F24 0 8 = y24_0_8 from ((eF24 0 8).trans ey24_0_8)] at h1; exact h1
            have : IMP ((z24) ≠ 0) (TYB (ub8 ((w1))) ((a2)) ((a1)) ((a3)) ((z24), (y24_0_8), [])) := fun z => by first | exact ⟨0, 0, _, _, hLQ, .inr ⟨rfl, ITO_e j35_o (TYe_6 (by omega) (by omega) (by omega) (by omega))⟩⟩ | exact absurd (by omega) z
            have : IMP ((z24) = 0) (TYB (ub8 ((w1))) ((a2)) ((a1)) ((a3)) (0, (a2), sc ((w35_3)) ((u2_1)) ((y35_2_1)))) := fun z => by first | exact absurd z (by omega) | (have h := ITO_e j35_o (TYe_0 (by omega) (by omega) rfl rfl); rw [hCX] at h; exact ⟨0, 0, _, _, hLQ, .inr ⟨rfl, h⟩⟩)
            exact w_ireturn rfl (k (z24) _ _ _ _ _ _ _ H O (SD_trans (SD_refl) hD_35 (any_subA rfl)) (SD_trans (SD_refl) hN_35 (any_subA rfl)) (SF_trans (SF_trans (SF_trans (SF_refl) (SF_glu (ι := [0, 1]) hS7 eF7 (by decide +kernel)) (any_sub (l' := [(0, 7), (0, 8)]) rfl)) hS_35 (any_sub rfl)) (SF_glu (ι := [0]) hS24 eF24 (by decide +kernel)) (any_sub (l' := [(0, 8)]) rfl)) (SA_trans (SA_trans (SA_trans (SA_refl) (SA_glu (ι := [0, 1]) hA7 eA7 (by decide +kernel)) (any_subA (l' := []) rfl)) hA_35 (any_subA rfl)) (SA_glu (ι := [0]) hA24 eA24 (by decide +kernel)) (any_subA (l' := []) rfl)) ((((show F24 2 0 = F_35 2 0 from (eF24 2 0)))).trans (pm35_3)) (m35_3) (em35_3) (y24_0_8) (((eF24 0 8).trans ey24_0_8)) (y35_2_1) ((((show F24 2 1 = F_35 2 1 from (eF24 2 1))).trans (ey35_2_1))) (y35_2_2) ((((show F24 2 2 = F_35 2 2 from (eF24 2 2))).trans (ey35_2_2))) (w35_3) (((show A24 3 = A_35 3 from (eA24 3))).trans (ew35_3)) (show inr (z24) by omega) (show 0 ≤ (z24) ∧ (z24) ≤ 6 by omega) (show 0 ≤ (y35_2_1) ∧ (y35_2_1) ≤ (m35_3) ∧ (m35_3) ≤ 65536 by omega) (show (u2_1) ≤ (y35_2_1) by omega) (show (y35_2_1) ≤ (u2_1) + a3 ∨ (y35_2_1) = (u2_1) by omega) (show (y35_2_2) = 0 by omega) (show IMP ((z24) ≠ 0) (TYB (ub8 ((w1))) (a2) (a1) (a3) ((z24), (y24_0_8), [])) by assumption) (show IMP ((z24) = 0) (TYB (ub8 ((w1))) (a2) (a1) (a3) (0, a2, sc ((w35_3)) ((u2_1)) ((y35_2_1)))) by assumption) (show ∀ i, (0 : Int) ≤ i → i < (u2_1) → ((w35_3)) i = ((w3)) i by assumption) (show (z24) ≠ 0 ∨ (y24_0_8) = a2 by omega))
          · refine Ew_of (pc' := 320) (fun _ => x_aload_n rfl l35_0) ?_
            refine Ew_of (pc' := 322) (fun _ => x_bipush (z := 6) rfl (by decide)) ?_
            refine Ew_of (pc' := 323) (fun _ => x_iload_n rfl l35_2) ?_
            refine v_inv H (o := 0) rfl rfl rfl rfl rfl rfl (by rfl) (C203 (D := pul [0] D_35) (N := pul [0] N_35) (HW_sub H (VS_of (show vsub V206 V203 [0] = true by decide +kernel))) (y7_0_8) (((hS_35 0 8 rfl).trans ((eF7 0 8).trans ey7_0_8))) (show inr (6) by omega) (show inr (a2) by omega) (fun z26 σ26 F26' A26' H' O' hS26 hA26 y26_0_8 ey26_0_8 pz26_0 pz26_1 pz26_2 => ⟨rfl, ?_⟩))
            refine v_back (c := c_35) (s := s_35) H (show vsub V206 V203 [0] = true by decide +kernel) H' O' (fun F26 A26 H O' eF26 eA26 => ?_)
            have O := OUT_trans O O'
            -- Tags.fail
            have r27 : (-2147483648 : Int) ≤ y26_0_8 ∧ y26_0_8 ≤ 2147483647 := by have h1 : (-2147483648 : Int) ≤ F26 0 8 ∧ F26 0 8 ≤ 2147483647 := H.krg 0 8 (by decide); rw [show F26 0 8 = y26_0_8 from ((eF26 0 8).trans ey26_0_8)] at h1; exact h1
            refine Ew_of (pc' := 335) (fun _ => x_goto rfl rfl) ?_
            have : IMP ((z26) ≠ 0) (TYB (ub8 ((w1))) ((a2)) ((a1)) ((a3)) ((z26), (y26_0_8), [])) := fun z => by first | exact ⟨0, 0, _, _, hLQ, .inr ⟨rfl, ITO_e j35_o (TYe_6 (by omega) (by omega) (by omega) (by omega))⟩⟩ | exact absurd (by omega) z
            have : IMP ((z26) = 0) (TYB (ub8 ((w1))) ((a2)) ((a1)) ((a3)) (0, (a2), sc ((w35_3)) ((u2_1)) ((y35_2_1)))) := fun z => by first | exact absurd z (by omega) | (have h := ITO_e j35_o (TYe_0 (by omega) (by omega) rfl rfl); rw [hCX] at h; exact ⟨0, 0, _, _, hLQ, .inr ⟨rfl, h⟩⟩)
            exact w_ireturn rfl (k (z26) _ _ _ _ _ _ _ H O (SD_trans (SD_refl) hD_35 (any_subA rfl)) (SD_trans (SD_refl) hN_35 (any_subA rfl)) (SF_trans (SF_trans (SF_trans (SF_refl) (SF_glu (ι := [0, 1]) hS7 eF7 (by decide +kernel)) (any_sub (l' := [(0, 7), (0, 8)]) rfl)) hS_35 (any_sub rfl)) (SF_glu (ι := [0]) hS26 eF26 (by decide +kernel)) (any_sub (l' := [(0, 8)]) rfl)) (SA_trans (SA_trans (SA_trans (SA_refl) (SA_glu (ι := [0, 1]) hA7 eA7 (by decide +kernel)) (any_subA (l' := []) rfl)) hA_35 (any_subA rfl)) (SA_glu (ι := [0]) hA26 eA26 (by decide +kernel)) (any_subA (l' := []) rfl)) ((((show F26 2 0 = F_35 2 0 from (eF26 2 0)))).trans (pm35_3)) (m35_3) (em35_3) (y26_0_8) (((eF26 0 8).trans ey26_0_8)) (y35_2_1) ((((show F26 2 1 = F_35 2 1 from (eF26 2 1))).trans (ey35_2_1))) (y35_2_2) ((((show F26 2 2 = F_35 2 2 from (eF26 2 2))).trans (ey35_2_2))) (w35_3) (((show A26 3 = A_35 3 from (eA26 3))).trans (ew35_3)) (show inr (z26) by omega) (show 0 ≤ (z26) ∧ (z26) ≤ 6 by omega) (show 0 ≤ (y35_2_1) ∧ (y35_2_1) ≤ (m35_3) ∧ (m35_3) ≤ 65536 by omega) (show (u2_1) ≤ (y35_2_1) by omega) (show (y35_2_1) ≤ (u2_1) + a3 ∨ (y35_2_1) = (u2_1) by omega) (show (y35_2_2) = 0 by omega) (show IMP ((z26) ≠ 0) (TYB (ub8 ((w1))) (a2) (a1) (a3) ((z26), (y26_0_8), [])) by assumption) (show IMP ((z26) = 0) (TYB (ub8 ((w1))) (a2) (a1) (a3) (0, a2, sc ((w35_3)) ((u2_1)) ((y35_2_1)))) by assumption) (show ∀ i, (0 : Int) ≤ i → i < (u2_1) → ((w35_3)) i = ((w3)) i by assumption) (show (z26) ≠ 0 ∨ (y26_0_8) = a2 by omega))
        · refine Ew_of (pc' := 48) (fun _ => x_aload_n rfl l35_0) ?_
          refine v_g H (o := 0) (v := .ref (D_35 1)) rfl rfl rfl rfl rfl (vrf (pf_35_0_3)) ?_
          refine Ew_of (pc' := 53) (fun _ => x_iload rfl l35_6) ?_
          refine v_lB H (o := 1) rfl rfl rfl rfl (n := n1) ((congrArg (fun q : Nat => (q : Int)) (hN_35 1 rfl)).trans (en1)) (show 0 ≤ x35_6 ∧ x35_6 < n1 by omega) (fun v28 ev28 qv28 => ?_)
          have ev28 : (w1) (x35_6) = v28 := (congrFun ((funext (hA_35 1 rfl)).trans (((show A7 1 = A 1 from (eA7 1).trans (funext (hA7 1 rfl)))).trans (ew1))) (x35_6)).symm.trans ev28
          have hvb := ev28
          refine Ew_of (pc' := 57) (fun _ => x_sipush (z := 255) rfl (by decide)) ?_
          refine v_and255 rfl ?_
          have htg : (ub8 ((w1))) (qp) = ((v28 % 256)) := by rw [hqp]; exact ub_eq hvb rfl
          refine Ew_of (pc' := 60) (fun _ => x_istore rfl) ?_
          obtain ⟨q8, hq8⟩ : ∃ q : Int, q = ((v28 % 256)) := ⟨_, rfl⟩
          refine Ew_of (pc' := 62) (fun _ => x_iload rfl rk_s) ?_
          refine w_stat24 rfl rfl (by rfl) (C208 (D := pul [] D_35) (N := pul [] N_35) (HW_sub H (VS_of (show vsub V206 V208 [] = true by decide +kernel))) (show inr ((v28 % 256)) by omega) (show 0 ≤ ((v28 % 256)) ∧ ((v28 % 256)) ≤ 255 by omega) (fun z29 σ29 F29' A29' H' O' hS29 hA29 pz29_0 pz29_1 pz29_2 => ⟨rfl, ?_⟩))
          refine v_back (c := c_35) (s := s_35) H (show vsub V206 V208 [] = true by decide +kernel) H' O' (fun F29 A29 H O' eF29 eA29 => ?_)
          have O := OUT_trans O O'
          -- Tags.bytesBehind
          have hbh := pz29_2
          refine Ew_of (pc' := 67) (fun _ => x_istore rfl) ?_
          refine Ew_of (pc' := 68) (fun _ => x_iload_n rfl (rk_o (rk_o (l35_2) rfl rfl) rfl rfl)) ?_
          refine Ew_of (pc' := 70) (fun _ => x_iload rfl (rk_o (rk_o (l35_6) rfl rfl) rfl rfl)) ?_
          refine w_isub rfl ?_
          refine Ew_of (pc' := 72) (fun _ => x_iconst rfl) ?_
          refine w_isub rfl ?_
          refine Ew_of (pc' := 75) (fun _ => x_iload rfl rk_s) ?_
          refine w_icmpge (t := 85) rfl rfl (show inr (((a2 - x35_6) - 1)) by omega) (show inr (z29) by omega) (fun b30 => ?_) (fun b30 => ?_)
          · refine Ew_of (pc' := 86) (fun _ => x_aload_n rfl (rk_o (rk_o (l35_0) rfl rfl) rfl rfl)) ?_
            refine v_g H (o := 0) (v := .ref (D_35 1)) rfl rfl rfl rfl rfl (vrf ((((show F29 0 3 = F_35 0 3 from (eF29 0 3)))).trans (pf_35_0_3))) ?_
            refine Ew_of (pc' := 91) (fun _ => x_iload rfl (rk_o (rk_o (l35_6) rfl rfl) rfl rfl)) ?_
            refine Ew_of (pc' := 92) (fun _ => x_iconst rfl) ?_
            refine w_iadd rfl ?_
            refine Ew_of (pc' := 95) (fun _ => x_iload rfl rk_s) ?_
            refine w_stat25 rfl rfl (by rfl) (C42_Br (D := pul [1] D_35) (N := pul [1] N_35) (HW_sub H (VS_of (show vsub V206 V42_Br [1] = true by decide +kernel))) (n1) ((congrArg (fun q : Nat => (q : Int)) (hN_35 1 rfl)).trans (en1)) (w1) (((show A29 1 = A_35 1 from (eA29 1))).trans ((funext (hA_35 1 rfl)).trans (((show A7 1 = A 1 from (eA7 1).trans (funext (hA7 1 rfl)))).trans (ew1)))) (show inr ((x35_6 + 1)) by omega) (show inr (z29) by omega) (show (z29) ≤ 0 ∨ 0 ≤ ((x35_6 + 1)) ∧ ((x35_6 + 1)) + (z29) ≤ (n1) by omega) (show 0 ≤ (z29) ∧ (z29) ≤ 8 by omega) (fun z31 σ31 F31' A31' H' O' hS31 hA31 pz31_0 pz31_1 pz31_2 => ⟨rfl, ?_⟩))
            refine v_back (c := c_35) (s := s_35) H (show vsub V206 V42_Br [1] = true by decide +kernel) H' O' (fun F31 A31 H O' eF31 eA31 => ?_)
            have O := OUT_trans O O'
            -- PackHouse.number
            have hnb : 0 ≤ (z31) ∧ (z31) ≤ 4294967295 := nb4 (NBY_up pz31_1 (by omega) (by omega))
            have htd : (z31) = nvl (ub8 ((w1))) (qp + 1) ((z29) : Int).toNat := by rw [nvl_ub, hqp]; exact nmb_nn pz31_2 (by omega) pz31_0
            refine Ew_of (pc' := 100) (fun _ => x_lstore rfl) ?_
            refine Ew_of (pc' := 102) (fun _ => x_iload rfl (rk2_o (rk_o (rk_s) rfl rfl) rfl rfl)) ?_
            refine Ew_of (pc' := 104) (fun _ => x_lload rfl rk2_s) ?_
            refine w_stat24 rfl rfl (by rfl) (C209 (D := pul [] D_35) (N := pul [] N_35) (HW_sub H (VS_of (show vsub V206 V209 [] = true by decide +kernel))) (show inr ((v28 % 256)) by omega) (show inrJ (z31) by omega) (show 0 ≤ ((v28 % 256)) ∧ ((v28 % 256)) ≤ 255 by omega) (show 0 ≤ (z31) ∧ (z31) ≤ 4294967295 by omega) (fun z32 σ32 F32' A32' H' O' hS32 hA32 pz32_0 pz32_1 pz32_2 => ⟨rfl, ?_⟩))
            refine v_back (c := c_35) (s := s_35) H (show vsub V206 V209 [] = true by decide +kernel) H' O' (fun F32 A32 H O' eF32 eA32 => ?_)
            have O := OUT_trans O O'
            -- Tags.lengthOf
            have hnl := pz32_2
            obtain ⟨q10, hq10⟩ : ∃ q : Int, q = (z31) := ⟨_, rfl⟩
            refine Ew_of (pc' := 109) (fun _ => x_lstore rfl) ?_
            have hc121 : ∀ (tc121_0 : Int), ∀ (ls : rO) (σ : rS) (F_c121 : hF) (A_c121 : hA) , rlook ls 0 = some (.ref (D_35 0)) → rlook ls 2 = some (I (a2)) → rlook ls 5 = some (I (u2_1)) → rlook ls 6 = some (I (x35_6)) → rlook ls 7 = some (I (x35_7)) → rlook ls 8 = some (I ((v28 % 256))) → rlook ls 9 = some (I (z29)) → rlook ls 10 = some (J (z31)) → rlook ls 12 = some (J (z32)) → HW V206 σ D_35 N_35 F_c121 A_c121 → OUT (V206).length D N σE c s D_35 N_35 σ c_35 s_35 → SF [] F32 F_c121 → SA [] A32 A_c121 → (inr (tc121_0)) → ((tc121_0) = 1 ∧ ((v28 % 256)) % 4 ≠ 0 ∨ (tc121_0) = 0 ∧ ((v28 % 256)) % 4 = 0) → Ew 206 (d + 3) 121 ls [I (tc121_0)] σ c_35 s_35 Q := by
             as_aux_lemma =>
              intro tc121_0 ls σ F_c121 A_c121  lc121_0 lc121_2 lc121_5 lc121_6 lc121_7 lc121_8 lc121_9 lc121_10 lc121_12 H O hS_c121 hA_c121     jc121_0 jc121_1
              refine Ew_of (pc' := 123) (fun _ => x_istore rfl) ?_
              have hc147 : ∀ (tc147_0 : Int), ∀ (ls : rO) (σ : rS) (F_c147 : hF) (A_c147 : hA) , rlook ls 0 = some (.ref (D_35 0)) → rlook ls 2 = some (I (a2)) → rlook ls 5 = some (I (u2_1)) → rlook ls 6 = some (I (x35_6)) → rlook ls 7 = some (I (x35_7)) → rlook ls 9 = some (I (z29)) → rlook ls 12 = some (J (z32)) → rlook ls 14 = some (I (tc121_0)) → HW V206 σ D_35 N_35 F_c147 A_c147 → OUT (V206).length D N σE c s D_35 N_35 σ c_35 s_35 → SF [] F_c121 F_c147 → SA [] A_c121 A_c147 → (inrJ (tc147_0)) → (0 ≤ (tc147_0) ∧ (tc147_0) ≤ 4294969343) → ((tc147_0) = TEd (q8) (q10)) → Ew 206 (d + 3) 147 ls [J (tc147_0)] σ c_35 s_35 Q := by
               as_aux_lemma =>
                intro tc147_0 ls σ F_c147 A_c147  lc147_0 lc147_2 lc147_5 lc147_6 lc147_7 lc147_9 lc147_12 lc147_14 H O hS_c147 hA_c147     jc147_0 jc147_1 jc147_2
                have hdd : (tc147_0) = TEd (q8) (q10) := by assumption
                refine Ew_of (pc' := 149) (fun _ => x_lstore rfl) ?_
                have hTY : TYt (ub8 ((w1))) (qp) (q8) ((z29)) (q10) ((z32)) ((tc147_0)) := by rw [hq10] at hdd ⊢; rw [hq8] at hdd ⊢; exact ⟨htg, hbh.symm, htd.symm, hnl.symm, hdd.symm⟩
                refine Ew_of (pc' := 151) (fun _ => x_iload rfl (rk2_o (lc147_14) rfl rfl)) ?_
                refine w_ifeq (t := 186) rfl rfl (show inr (tc121_0) by omega) (fun b33 => ?_) (fun b33 => ?_)
                · refine Ew_of (pc' := 188) (fun _ => x_lload rfl (rk2_o (lc147_12) rfl rfl)) ?_
                  refine Ew_of (pc' := 189) (fun _ => x_aload_n rfl (rk2_o (lc147_0) rfl rfl)) ?_
                  refine v_g H (o := 0) (v := J (y7_0_7)) rfl rfl rfl rfl rfl (congrArg (fun z : Int => J z) ((((((((hS_c147 0 7 rfl).trans (hS_c121 0 7 rfl)).trans ((show F32 0 7 = F31 0 7 from (eF32 0 7)))).trans ((show F31 0 7 = F29 0 7 from (eF31 0 7)))).trans ((show F29 0 7 = F_35 0 7 from (eF29 0 7)))).trans (hS_35 0 7 rfl)).trans ((eF7 0 7).trans ey7_0_7)) : F_c147 0 7 = y7_0_7)) ?_
                  refine Ew_of (pc' := 193) (fun _ => x_aload_n rfl (rk2_o (lc147_0) rfl rfl)) ?_
                  refine v_g H (o := 0) (v := .ref (D_35 2)) rfl rfl rfl rfl rfl (vrf (((((((hS_c147 0 5 rfl).trans (hS_c121 0 5 rfl)).trans ((show F32 0 5 = F31 0 5 from (eF32 0 5)))).trans ((show F31 0 5 = F29 0 5 from (eF31 0 5)))).trans ((show F29 0 5 = F_35 0 5 from (eF29 0 5))))).trans (pf_35_0_5))) ?_
                  refine v_g H (o := 2) (v := I (y35_2_1)) rfl rfl rfl rfl rfl (congrArg (fun z : Int => I z) (((((((hS_c147 2 1 rfl).trans (hS_c121 2 1 rfl)).trans ((show F32 2 1 = F31 2 1 from (eF32 2 1)))).trans ((show F31 2 1 = F29 2 1 from (eF31 2 1)))).trans ((show F29 2 1 = F_35 2 1 from (eF29 2 1)))).trans (ey35_2_1)) : F_c147 2 1 = y35_2_1)) ?_
                  refine Ew_of (pc' := 201) (fun _ => x_iload rfl (rk2_o (lc147_5) rfl rfl)) ?_
                  refine w_isub rfl ?_
                  refine w_i2l rfl (show inr ((y35_2_1 - u2_1)) by omega) ?_
                  refine w_lsub rfl ?_
                  refine w_lcmp rfl (show inrJ (z32) by omega) (show inrJ ((y7_0_7 - (y35_2_1 - u2_1))) by omega) (fun z34 gz34 gaz34 gbz34 => ?_)
                  refine w_ifle (t := 216) rfl rfl (show inr (z34) by omega) (fun b35 => ?_) (fun b35 => ?_)
                  · refine Ew_of (pc' := 218) (fun _ => x_iload rfl (rk2_o (lc147_6) rfl rfl)) ?_
                    refine Ew_of (pc' := 219) (fun _ => x_iconst rfl) ?_
                    refine Ew_of (pc' := 221) (fun _ => x_iload rfl (rk2_o (lc147_9) rfl rfl)) ?_
                    refine w_iadd rfl ?_
                    refine w_iadd rfl ?_
                    refine Ew_of (pc' := 225) (fun _ => x_istore rfl) ?_
                    have hc294 : ∀ (ls : rO) (σ : rS) (D_c294 N_c294 : Nat → Nat) (c_c294 s_c294 : Nat) (F_c294 : hF) (A_c294 : hA) (xc294_6 : Int), rlook ls 0 = some (.ref (D_c294 0)) → rlook ls 2 = some (I (a2)) → rlook ls 5 = some (I (u2_1)) → rlook ls 6 = some (I (xc294_6)) → rlook ls 7 = some (I (x35_7)) → HW V206 σ D_c294 N_c294 F_c294 A_c294 → OUT (V206).length D N σE c s D_c294 N_c294 σ c_c294 s_c294 → SD [3] D_35 D_c294 → SD [3] N_35 N_c294 → SF [(2, 0), (2, 1), (2, 2)] F_c147 F_c294 → SA [3] A_c147 A_c294 → F_c294 2 0 = (D_c294 3 : Int) → ∀ mc294_3 : Int, (N_c294 3 : Int) = mc294_3 → ∀ yc294_2_1 : Int, F_c294 2 1 = yc294_2_1 → ∀ yc294_2_2 : Int, F_c294 2 2 = yc294_2_2 → ∀ wc294_3 : Int → Int, A_c294 3 = wc294_3 → (inr (xc294_6)) → (0 ≤ (xc294_6) ∧ (xc294_6) ≤ (a2)) → (0 ≤ (yc294_2_1) ∧ (yc294_2_1) ≤ (mc294_3) ∧ (mc294_3) ≤ 65536) → ((u2_1) ≤ (yc294_2_1) ∧ (u2_1) = (u2_1)) → ((yc294_2_1) - (u2_1) ≤ (y7_0_7)) → ((yc294_2_2) = 0) → ((x35_7) + 1 ≤ (xc294_6)) → (TYO (ub8 ((w1))) ((a2)) ((y7_0_7)) (q0) ((xc294_6)) (sc ((wc294_3)) ((u2_1)) ((yc294_2_1)))) → (∀ i, (0 : Int) ≤ i → i < (u2_1) → ((wc294_3)) i = ((w3)) i) → Ew 206 (d + 3) 294 ls [] σ c_c294 s_c294 Q := by
                     as_aux_lemma =>
                      intro  ls σ D_c294 N_c294 c_c294 s_c294 F_c294 A_c294 xc294_6 lc294_0 lc294_2 lc294_5 lc294_6 lc294_7 H O hD_c294 hN_c294 hS_c294 hA_c294 pmc294_3 mc294_3 emc294_3 yc294_2_1 eyc294_2_1 yc294_2_2 eyc294_2_2 wc294_3 ewc294_3 jc294_0 jc294_1 jc294_2 jc294_3 jc294_4 jc294_5 jc294_6 jc294_7 jc294_8
                      have pf_c294_0_3 : F_c294 0 3 = (D_c294 1 : Int) := (hS_c294 0 3 rfl).trans ((((((((hS_c147 0 3 rfl).trans (hS_c121 0 3 rfl)).trans ((show F32 0 3 = F31 0 3 from (eF32 0 3)))).trans ((show F31 0 3 = F29 0 3 from (eF31 0 3)))).trans ((show F29 0 3 = F_35 0 3 from (eF29 0 3))))).trans (pf_35_0_3)).trans (congrArg (fun q : Nat => (q : Int)) (hD_c294 1 rfl).symm))
                      have pf_c294_0_5 : F_c294 0 5 = (D_c294 2 : Int) := (hS_c294 0 5 rfl).trans ((((((((hS_c147 0 5 rfl).trans (hS_c121 0 5 rfl)).trans ((show F32 0 5 = F31 0 5 from (eF32 0 5)))).trans ((show F31 0 5 = F29 0 5 from (eF31 0 5)))).trans ((show F29 0 5 = F_35 0 5 from (eF29 0 5))))).trans (pf_35_0_5)).trans (congrArg (fun q : Nat => (q : Int)) (hD_c294 2 rfl).symm))
                      have r36 : (0 : Int) ≤ mc294_3 ∧ mc294_3 ≤ 1000000 := by have h1 := H.nle 3 (by decide); have h2 : (N_c294 3 : Int) = mc294_3 := emc294_3; omega
                      have r37 : (-2147483648 : Int) ≤ yc294_2_1 ∧ yc294_2_1 ≤ 2147483647 := by have h1 : (-2147483648 : Int) ≤ F_c294 2 1 ∧ F_c294 2 1 ≤ 2147483647 := H.krg 2 1 (by decide); rw [show F_c294 2 1 = yc294_2_1 from (eyc294_2_1)] at h1; exact h1
                      have r38 : (0 : Int) ≤ yc294_2_2 ∧ yc294_2_2 ≤ 1 := by have h1 : (0 : Int) ≤ F_c294 2 2 ∧ F_c294 2 2 ≤ 1 := H.krg 2 2 (by decide); rw [show F_c294 2 2 = yc294_2_2 from (eyc294_2_2)] at h1; exact h1
                      refine Ew_of (pc' := 297) (fun _ => x_iinc (len := 3) rfl (lc294_7)) ?_
                      refine Ew_of (pc' := 35) (fun _ => x_goto rfl rfl) ?_
                      exact ih35 _ (by omega) _ _ _ _ _ _ _ _ (xc294_6) ((x35_7 + 1)) (rk_o (lc294_0) rfl rfl) (rk_o (lc294_2) rfl rfl) (rk_o (lc294_5) rfl rfl) (rk_o (lc294_6) rfl rfl) (rk_s) H O (SD_trans (hD_35) hD_c294 (any_subA rfl)) (SD_trans (hN_35) hN_c294 (any_subA rfl)) (SF_trans (SF_trans (SF_trans (SF_trans (SF_trans (SF_trans (hS_35) (SF_glu (ι := []) hS29 eF29 (by decide +kernel)) (any_sub (l' := []) rfl)) (SF_glu (ι := [1]) hS31 eF31 (by decide +kernel)) (any_sub (l' := []) rfl)) (SF_glu (ι := []) hS32 eF32 (by decide +kernel)) (any_sub (l' := []) rfl)) hS_c121 (any_sub rfl)) hS_c147 (any_sub rfl)) hS_c294 (any_sub rfl)) (SA_trans (SA_trans (SA_trans (SA_trans (SA_trans (SA_trans (hA_35) (SA_glu (ι := []) hA29 eA29 (by decide +kernel)) (any_subA (l' := []) rfl)) (SA_glu (ι := [1]) hA31 eA31 (by decide +kernel)) (any_subA (l' := []) rfl)) (SA_glu (ι := []) hA32 eA32 (by decide +kernel)) (any_subA (l' := []) rfl)) hA_c121 (any_subA rfl)) hA_c147 (any_subA rfl)) hA_c294 (any_subA rfl)) (pmc294_3) (mc294_3) (emc294_3) (yc294_2_1) ((eyc294_2_1)) (yc294_2_2) ((eyc294_2_2)) (wc294_3) (ewc294_3) (show inr (xc294_6) by omega) (show inr ((x35_7 + 1)) by omega) (show (a1) ≤ ((x35_7 + 1)) by omega) (show ((x35_7 + 1)) ≤ (a1) ∨ ((x35_7 + 1)) ≤ ((a2)) by omega) (show 0 ≤ (xc294_6) ∧ (xc294_6) ≤ (a2) by omega) (show 0 ≤ (yc294_2_1) ∧ (yc294_2_1) ≤ (mc294_3) ∧ (mc294_3) ≤ 65536 by omega) (show (u2_1) ≤ (yc294_2_1) ∧ (u2_1) = (u2_1) by omega) (show (yc294_2_1) - (u2_1) ≤ (y7_0_7) by omega) (show (yc294_2_2) = 0 by omega) (show ((x35_7 + 1)) ≤ (xc294_6) by omega) (show TYO (ub8 ((w1))) ((a2)) ((y7_0_7)) (q0) ((xc294_6)) (sc ((wc294_3)) ((u2_1)) ((yc294_2_1))) by assumption) (show ∀ i, (0 : Int) ≤ i → i < (u2_1) → ((wc294_3)) i = ((w3)) i by assumption) rfl
                    refine Ew_of (pc' := 227) (fun _ => x_iload rfl (rk_o (rk2_o (lc147_14) rfl rfl) rfl rfl)) ?_
                    refine w_ifeq (t := 252) rfl rfl (show inr (tc121_0) by omega) (fun b39 => ?_) (fun b39 => ?_)
                    · refine Ew_of (pc' := 254) (fun _ => x_lload rfl (rk_o (rk2_o (lc147_12) rfl rfl) rfl rfl)) ?_
                      refine Ew_of (pc' := 255) (fun _ => x_iload_n rfl (rk_o (rk2_o (lc147_2) rfl rfl) rfl rfl)) ?_
                      refine Ew_of (pc' := 257) (fun _ => x_iload rfl rk_s) ?_
                      refine w_isub rfl ?_
                      refine w_i2l rfl (show inr ((a2 - (x35_6 + (1 + z29)))) by omega) ?_
                      refine w_lcmp rfl (show inrJ (z32) by omega) (show inrJ ((a2 - (x35_6 + (1 + z29)))) by omega) (fun z40 gz40 gaz40 gbz40 => ?_)
                      refine w_ifle (t := 270) rfl rfl (show inr (z40) by omega) (fun b41 => ?_) (fun b41 => ?_)
                      · refine Ew_of (pc' := 271) (fun _ => x_aload_n rfl (rk_o (rk2_o (lc147_0) rfl rfl) rfl rfl)) ?_
                        refine v_g H (o := 0) (v := .ref (D_35 2)) rfl rfl rfl rfl rfl (vrf (((((((hS_c147 0 5 rfl).trans (hS_c121 0 5 rfl)).trans ((show F32 0 5 = F31 0 5 from (eF32 0 5)))).trans ((show F31 0 5 = F29 0 5 from (eF31 0 5)))).trans ((show F29 0 5 = F_35 0 5 from (eF29 0 5))))).trans (pf_35_0_5))) ?_
                        refine Ew_of (pc' := 275) (fun _ => x_aload_n rfl (rk_o (rk2_o (lc147_0) rfl rfl) rfl rfl)) ?_
                        refine v_g H (o := 0) (v := .ref (D_35 1)) rfl rfl rfl rfl rfl (vrf (((((((hS_c147 0 3 rfl).trans (hS_c121 0 3 rfl)).trans ((show F32 0 3 = F31 0 3 from (eF32 0 3)))).trans ((show F31 0 3 = F29 0 3 from (eF31 0 3)))).trans ((show F29 0 3 = F_35 0 3 from (eF29 0 3))))).trans (pf_35_0_3))) ?_
                        refine Ew_of (pc' := 280) (fun _ => x_iload rfl rk_s) ?_
                        refine Ew_of (pc' := 282) (fun _ => x_lload rfl (rk_o (rk2_o (lc147_12) rfl rfl) rfl rfl)) ?_
                        refine w_l2i rfl ?_
                        refine v_inv H (o := 2) rfl rfl rfl rfl rfl rfl (by rfl) (C161_Br (D := pul [2, 1, 3] D_35) (N := pul [2, 1, 3] N_35) (HW_sub H (VS_of (show vsub V206 V161_Br [2, 1, 3] = true by decide +kernel))) (((((((hS_c147 2 0 rfl).trans (hS_c121 2 0 rfl)).trans ((show F32 2 0 = F31 2 0 from (eF32 2 0)))).trans ((show F31 2 0 = F29 2 0 from (eF31 2 0)))).trans ((show F29 2 0 = F_35 2 0 from (eF29 2 0))))).trans (pm35_3)) (n1) ((congrArg (fun q : Nat => (q : Int)) (hN_35 1 rfl)).trans (en1)) (m35_3) (em35_3) (y35_2_1) (((((((hS_c147 2 1 rfl).trans (hS_c121 2 1 rfl)).trans ((show F32 2 1 = F31 2 1 from (eF32 2 1)))).trans ((show F31 2 1 = F29 2 1 from (eF31 2 1)))).trans ((show F29 2 1 = F_35 2 1 from (eF29 2 1)))).trans (ey35_2_1))) (y35_2_2) (((((((hS_c147 2 2 rfl).trans (hS_c121 2 2 rfl)).trans ((show F32 2 2 = F31 2 2 from (eF32 2 2)))).trans ((show F31 2 2 = F29 2 2 from (eF31 2 2)))).trans ((show F29 2 2 = F_35 2 2 from (eF29 2 2)))).trans (ey35_2_2))) (w1) ((funext (hA_c147 1 rfl)).trans ((funext (hA_c121 1 rfl)).trans (((show A32 1 = A31 1 from (eA32 1))).trans (((show A31 1 = A29 1 from (eA31 1).trans (funext (hA31 0 rfl)))).trans (((show A29 1 = A_35 1 from (eA29 1))).trans ((funext (hA_35 1 rfl)).trans (((show A7 1 = A 1 from (eA7 1).trans (funext (hA7 1 rfl)))).trans (ew1)))))))) (w35_3) ((funext (hA_c147 3 rfl)).trans ((funext (hA_c121 3 rfl)).trans (((show A32 3 = A31 3 from (eA32 3))).trans (((show A31 3 = A29 3 from (eA31 3))).trans (((show A29 3 = A_35 3 from (eA29 3))).trans (ew35_3)))))) (show inr ((x35_6 + (1 + z29))) by omega) (show inr (z32) by omega) (show 0 ≤ (y35_2_1) ∧ (y35_2_1) ≤ (m35_3) ∧ (m35_3) ≤ 65536 by omega) (show (z32) < 0 ∨ 0 ≤ ((x35_6 + (1 + z29))) ∧ ((x35_6 + (1 + z29))) + (z32) ≤ (n1) by omega) (fun σ42 D42' N42' F42' A42' c42 s42 H' O' hD42 hN42 hS42 hA42 pm42_2 m42_2 em42_2 y42_0_1 ey42_0_1 y42_0_2 ey42_0_2 w42_2 ew42_2 pz42_0 pz42_1 pz42_2 pz42_3 => ⟨rfl, ?_⟩))
                        refine v_backM (c := c_35) (s := s_35) H (show vsub V206 V161_Br [2, 1, 3] = true by decide +kernel) H' O' hD42 (show vmov V206 [2, 1, 3] [2] = true by decide +kernel) (fun D42 N42 F42 A42 H O' eD42 eN42 eF42 eA42 => ?_)
                        have O := OUT_trans O O'
                        -- Row.addPart
                        have pf42_0_3 : F42 0 3 = (D42 1 : Int) := ((show F42 0 3 = F_c147 0 3 from (eF42 0 3))).trans ((((((((hS_c147 0 3 rfl).trans (hS_c121 0 3 rfl)).trans ((show F32 0 3 = F31 0 3 from (eF32 0 3)))).trans ((show F31 0 3 = F29 0 3 from (eF31 0 3)))).trans ((show F29 0 3 = F_35 0 3 from (eF29 0 3))))).trans (pf_35_0_3)).trans (congrArg (fun q : Nat => (q : Int)) ((show D42 1 = D_35 1 from (eD42 1).trans (hD42 1 rfl))).symm))
                        have pf42_0_5 : F42 0 5 = (D42 2 : Int) := ((show F42 0 5 = F_c147 0 5 from (eF42 0 5))).trans ((((((((hS_c147 0 5 rfl).trans (hS_c121 0 5 rfl)).trans ((show F32 0 5 = F31 0 5 from (eF32 0 5)))).trans ((show F31 0 5 = F29 0 5 from (eF31 0 5)))).trans ((show F29 0 5 = F_35 0 5 from (eF29 0 5))))).trans (pf_35_0_5)).trans (congrArg (fun q : Nat => (q : Int)) ((show D42 2 = D_35 2 from (eD42 2).trans (hD42 0 rfl))).symm))
                        have pf42_2_0 : F42 2 0 = (D42 3 : Int) := (eF42 2 0).trans (pm42_2.trans (congrArg (fun q : Nat => (q : Int)) (eD42 3).symm))
                        have r43 : (0 : Int) ≤ m42_2 ∧ m42_2 ≤ 1000000 := by have h1 := H.nle 3 (by decide); have h2 : (N42 3 : Int) = m42_2 := (congrArg (fun q : Nat => (q : Int)) (eN42 3)).trans em42_2; omega
                        have r44 : (-2147483648 : Int) ≤ y42_0_1 ∧ y42_0_1 ≤ 2147483647 := by have h1 : (-2147483648 : Int) ≤ F42 2 1 ∧ F42 2 1 ≤ 2147483647 := H.krg 2 1 (by decide); rw [show F42 2 1 = y42_0_1 from ((eF42 2 1).trans ey42_0_1)] at h1; exact h1
                        have r45 : (0 : Int) ≤ y42_0_2 ∧ y42_0_2 ≤ 1 := by have h1 : (0 : Int) ≤ F42 2 2 ∧ F42 2 2 ≤ 1 := H.krg 2 2 (by decide); rw [show F42 2 2 = y42_0_2 from ((eF42 2 2).trans ey42_0_2)] at h1; exact h1
                        have hap := RAP_from (a := (u2_1)) (pz42_3 (by omega)) (by omega) (by omega) (by rw [sc_lenI (by omega)]; omega) (by omega)
                        have hbu := hap.1
                        have hsm1 : ∀ i, (0 : Int) ≤ i → i < (u2_1) → ((w42_2)) i = ((w3)) i := fun i x y => (pz42_2 i x (by omega)).trans (j35_s i x y)
                        refine Ew_of (pc' := 288) (fun _ => x_iload rfl rk_s) ?_
                        refine Ew_of (pc' := 290) (fun _ => x_lload rfl (rk_o (rk2_o (lc147_12) rfl rfl) rfl rfl)) ?_
                        refine w_l2i rfl ?_
                        refine w_iadd rfl ?_
                        have : TYO (ub8 ((w1))) ((a2)) ((y7_0_7)) (q0) ((((x35_6 + (1 + z29)) + z32))) (sc ((w42_2)) ((u2_1)) ((y42_0_1))) := ITO_s j35_o (TYs_l (q0 := ((x35_6 + (1 + z29)))) hTY (by omega) (by omega) (by omega) (by omega) (by omega) (by omega) rfl (by rw [hCX, show (u2_1) = (u2_1) by omega, hap.2, sc_ub8]))
                        refine Ew_of (pc' := 294) (fun _ => x_istore rfl) ?_
                        exact hc294  _ _ _ _ _ _ _ _ (((x35_6 + (1 + z29)) + z32)) ((rk_o (rk_o (rk2_o (lc147_0) rfl rfl) rfl rfl) rfl rfl).trans (congrArg (fun q : Nat => some (Value.ref q)) (((show D42 0 = D_35 0 from (eD42 0)))).symm)) (rk_o (rk_o (rk2_o (lc147_2) rfl rfl) rfl rfl) rfl rfl) (rk_o (rk_o (rk2_o (lc147_5) rfl rfl) rfl rfl) rfl rfl) (rk_s) (rk_o (rk_o (rk2_o (lc147_7) rfl rfl) rfl rfl) rfl rfl) H O (SD_trans (SD_refl) (SD_glu (ι := [2, 1, 3]) hD42 eD42 (by decide +kernel)) (any_subA (l' := [3]) rfl)) (SD_trans (SD_refl) (SD_glu (ι := [2, 1, 3]) hN42 eN42 (by decide +kernel)) (any_subA (l' := [3]) rfl)) (SF_trans (SF_refl) (SF_glu (ι := [2, 1, 3]) hS42 eF42 (by decide +kernel)) (any_sub (l' := [(2, 0), (2, 1), (2, 2)]) rfl)) (SA_trans (SA_refl) (SA_glu (ι := [2, 1, 3]) hA42 eA42 (by decide +kernel)) (any_subA (l' := [3]) rfl)) (pf42_2_0) (m42_2) ((congrArg (fun q : Nat => (q : Int)) (eN42 3)).trans em42_2) (y42_0_1) (((eF42 2 1).trans ey42_0_1)) (y42_0_2) (((eF42 2 2).trans ey42_0_2)) (w42_2) ((eA42 3).trans ew42_2) (show inr (((x35_6 + (1 + z29)) + z32)) by omega) (show 0 ≤ (((x35_6 + (1 + z29)) + z32)) ∧ (((x35_6 + (1 + z29)) + z32)) ≤ (a2) by omega) (show 0 ≤ (y42_0_1) ∧ (y42_0_1) ≤ (m42_2) ∧ (m42_2) ≤ 65536 by omega) (show (u2_1) ≤ (y42_0_1) ∧ (u2_1) = (u2_1) by omega) (show (y42_0_1) - (u2_1) ≤ (y7_0_7) by omega) (show (y42_0_2) = 0 by omega) (show (x35_7) + 1 ≤ (((x35_6 + (1 + z29)) + z32)) by omega) (show TYO (ub8 ((w1))) ((a2)) ((y7_0_7)) (q0) ((((x35_6 + (1 + z29)) + z32))) (sc ((w42_2)) ((u2_1)) ((y42_0_1))) by assumption) (show ∀ i, (0 : Int) ≤ i → i < (u2_1) → ((w42_2)) i = ((w3)) i by assumption)
                      · refine Ew_of (pc' := 264) (fun _ => x_aload_n rfl (rk_o (rk2_o (lc147_0) rfl rfl) rfl rfl)) ?_
                        refine Ew_of (pc' := 265) (fun _ => x_iconst rfl) ?_
                        refine Ew_of (pc' := 266) (fun _ => x_iload_n rfl (rk_o (rk2_o (lc147_2) rfl rfl) rfl rfl)) ?_
                        refine v_inv H (o := 0) rfl rfl rfl rfl rfl rfl (by rfl) (C203 (D := pul [0] D_35) (N := pul [0] N_35) (HW_sub H (VS_of (show vsub V206 V203 [0] = true by decide +kernel))) (y7_0_8) ((((((((hS_c147 0 8 rfl).trans (hS_c121 0 8 rfl)).trans ((show F32 0 8 = F31 0 8 from (eF32 0 8)))).trans ((show F31 0 8 = F29 0 8 from (eF31 0 8)))).trans ((show F29 0 8 = F_35 0 8 from (eF29 0 8)))).trans (hS_35 0 8 rfl)).trans ((eF7 0 8).trans ey7_0_8))) (show inr (1) by omega) (show inr (a2) by omega) (fun z46 σ46 F46' A46' H' O' hS46 hA46 y46_0_8 ey46_0_8 pz46_0 pz46_1 pz46_2 => ⟨rfl, ?_⟩))
                        refine v_back (c := c_35) (s := s_35) H (show vsub V206 V203 [0] = true by decide +kernel) H' O' (fun F46 A46 H O' eF46 eA46 => ?_)
                        have O := OUT_trans O O'
                        -- Tags.fail
                        have r47 : (-2147483648 : Int) ≤ y46_0_8 ∧ y46_0_8 ≤ 2147483647 := by have h1 : (-2147483648 : Int) ≤ F46 0 8 ∧ F46 0 8 ≤ 2147483647 := H.krg 0 8 (by decide); rw [show F46 0 8 = y46_0_8 from ((eF46 0 8).trans ey46_0_8)] at h1; exact h1
                        have : IMP ((z46) ≠ 0) (TYB (ub8 ((w1))) ((a2)) ((a1)) ((a3)) ((z46), (y46_0_8), [])) := fun z => ⟨0, 0, _, _, hLQ, .inr ⟨rfl, ITO_e j35_o (TYt_l hTY (by omega) (by omega) (by omega) (by omega) (by omega) (by omega) (by omega))⟩⟩
                        have : IMP ((z46) = 0) (TYB (ub8 ((w1))) ((a2)) ((a1)) ((a3)) (0, (a2), sc ((w35_3)) ((u2_1)) ((y35_2_1)))) := fun z => absurd z (by omega)
                        exact w_ireturn rfl (k (z46) _ _ _ _ _ _ _ H O (SD_trans (SD_refl) hD_35 (any_subA rfl)) (SD_trans (SD_refl) hN_35 (any_subA rfl)) (SF_trans (SF_trans (SF_trans (SF_trans (SF_trans (SF_trans (SF_trans (SF_trans (SF_refl) (SF_glu (ι := [0, 1]) hS7 eF7 (by decide +kernel)) (any_sub (l' := [(0, 7), (0, 8)]) rfl)) hS_35 (any_sub rfl)) (SF_glu (ι := []) hS29 eF29 (by decide +kernel)) (any_sub (l' := []) rfl)) (SF_glu (ι := [1]) hS31 eF31 (by decide +kernel)) (any_sub (l' := []) rfl)) (SF_glu (ι := []) hS32 eF32 (by decide +kernel)) (any_sub (l' := []) rfl)) hS_c121 (any_sub rfl)) hS_c147 (any_sub rfl)) (SF_glu (ι := [0]) hS46 eF46 (by decide +kernel)) (any_sub (l' := [(0, 8)]) rfl)) (SA_trans (SA_trans (SA_trans (SA_trans (SA_trans (SA_trans (SA_trans (SA_trans (SA_refl) (SA_glu (ι := [0, 1]) hA7 eA7 (by decide +kernel)) (any_subA (l' := []) rfl)) hA_35 (any_subA rfl)) (SA_glu (ι := []) hA29 eA29 (by decide +kernel)) (any_subA (l' := []) rfl)) (SA_glu (ι := [1]) hA31 eA31 (by decide +kernel)) (any_subA (l' := []) rfl)) (SA_glu (ι := []) hA32 eA32 (by decide +kernel)) (any_subA (l' := []) rfl)) hA_c121 (any_subA rfl)) hA_c147 (any_subA rfl)) (SA_glu (ι := [0]) hA46 eA46 (by decide +kernel)) (any_subA (l' := []) rfl)) (((((((((show F46 2 0 = F_c147 2 0 from (eF46 2 0))).trans (hS_c147 2 0 rfl)).trans (hS_c121 2 0 rfl)).trans ((show F32 2 0 = F31 2 0 from (eF32 2 0)))).trans ((show F31 2 0 = F29 2 0 from (eF31 2 0)))).trans ((show F29 2 0 = F_35 2 0 from (eF29 2 0))))).trans (pm35_3)) (m35_3) (em35_3) (y46_0_8) (((eF46 0 8).trans ey46_0_8)) (y35_2_1) (((((((((show F46 2 1 = F_c147 2 1 from (eF46 2 1))).trans (hS_c147 2 1 rfl)).trans (hS_c121 2 1 rfl)).trans ((show F32 2 1 = F31 2 1 from (eF32 2 1)))).trans ((show F31 2 1 = F29 2 1 from (eF31 2 1)))).trans ((show F29 2 1 = F_35 2 1 from (eF29 2 1)))).trans (ey35_2_1))) (y35_2_2) (((((((((show F46 2 2 = F_c147 2 2 from (eF46 2 2))).trans (hS_c147 2 2 rfl)).trans (hS_c121 2 2 rfl)).trans ((show F32 2 2 = F31 2 2 from (eF32 2 2)))).trans ((show F31 2 2 = F29 2 2 from (eF31 2 2)))).trans ((show F29 2 2 = F_35 2 2 from (eF29 2 2)))).trans (ey35_2_2))) (w35_3) (((show A46 3 = A_c147 3 from (eA46 3))).trans ((funext (hA_c147 3 rfl)).trans ((funext (hA_c121 3 rfl)).trans (((show A32 3 = A31 3 from (eA32 3))).trans (((show A31 3 = A29 3 from (eA31 3))).trans (((show A29 3 = A_35 3 from (eA29 3))).trans (ew35_3))))))) (show inr (z46) by omega) (show 0 ≤ (z46) ∧ (z46) ≤ 6 by omega) (show 0 ≤ (y35_2_1) ∧ (y35_2_1) ≤ (m35_3) ∧ (m35_3) ≤ 65536 by omega) (show (u2_1) ≤ (y35_2_1) by omega) (show (y35_2_1) ≤ (u2_1) + a3 ∨ (y35_2_1) = (u2_1) by omega) (show (y35_2_2) = 0 by omega) (show IMP ((z46) ≠ 0) (TYB (ub8 ((w1))) (a2) (a1) (a3) ((z46), (y46_0_8), [])) by assumption) (show IMP ((z46) = 0) (TYB (ub8 ((w1))) (a2) (a1) (a3) (0, a2, sc ((w35_3)) ((u2_1)) ((y35_2_1)))) by assumption) (show ∀ i, (0 : Int) ≤ i → i < (u2_1) → ((w35_3)) i = ((w3)) i by assumption) (show (z46) ≠ 0 ∨ (y46_0_8) = a2 by omega))
                    · refine Ew_of (pc' := 231) (fun _ => x_aload_n rfl (rk_o (rk2_o (lc147_0) rfl rfl) rfl rfl)) ?_
                      refine v_g H (o := 0) (v := .ref (D_35 2)) rfl rfl rfl rfl rfl (vrf (((((((hS_c147 0 5 rfl).trans (hS_c121 0 5 rfl)).trans ((show F32 0 5 = F31 0 5 from (eF32 0 5)))).trans ((show F31 0 5 = F29 0 5 from (eF31 0 5)))).trans ((show F29 0 5 = F_35 0 5 from (eF29 0 5))))).trans (pf_35_0_5))) ?_
                      refine Ew_of (pc' := 236) (fun _ => x_lload rfl (rk_o (rk2_s) rfl rfl)) ?_
                      refine w_l2i rfl ?_
                      refine Ew_of (pc' := 239) (fun _ => x_lload rfl (rk_o (rk2_o (lc147_12) rfl rfl) rfl rfl)) ?_
                      refine w_l2i rfl ?_
                      refine Ew_of (pc' := 242) (fun _ => x_iload rfl (rk_o (rk2_o (lc147_5) rfl rfl) rfl rfl)) ?_
                      refine Ew_of (pc' := 243) (fun _ => x_aload_n rfl (rk_o (rk2_o (lc147_0) rfl rfl) rfl rfl)) ?_
                      refine v_g H (o := 0) (v := .ref (D_35 2)) rfl rfl rfl rfl rfl (vrf (((((((hS_c147 0 5 rfl).trans (hS_c121 0 5 rfl)).trans ((show F32 0 5 = F31 0 5 from (eF32 0 5)))).trans ((show F31 0 5 = F29 0 5 from (eF31 0 5)))).trans ((show F29 0 5 = F_35 0 5 from (eF29 0 5))))).trans (pf_35_0_5))) ?_
                      refine v_inv H (o := 2) rfl rfl rfl rfl rfl rfl (by rfl) (C163_thisa (D := pul [2, 3] D_35) (N := pul [2, 3] N_35) (HW_sub H (VS_of (show vsub V206 V163_thisa [2, 3] = true by decide +kernel))) (((((((hS_c147 2 0 rfl).trans (hS_c121 2 0 rfl)).trans ((show F32 2 0 = F31 2 0 from (eF32 2 0)))).trans ((show F31 2 0 = F29 2 0 from (eF31 2 0)))).trans ((show F29 2 0 = F_35 2 0 from (eF29 2 0))))).trans (pm35_3)) (m35_3) (em35_3) (y35_2_1) (((((((hS_c147 2 1 rfl).trans (hS_c121 2 1 rfl)).trans ((show F32 2 1 = F31 2 1 from (eF32 2 1)))).trans ((show F31 2 1 = F29 2 1 from (eF31 2 1)))).trans ((show F29 2 1 = F_35 2 1 from (eF29 2 1)))).trans (ey35_2_1))) (y35_2_2) (((((((hS_c147 2 2 rfl).trans (hS_c121 2 2 rfl)).trans ((show F32 2 2 = F31 2 2 from (eF32 2 2)))).trans ((show F31 2 2 = F29 2 2 from (eF31 2 2)))).trans ((show F29 2 2 = F_35 2 2 from (eF29 2 2)))).trans (ey35_2_2))) (w35_3) ((funext (hA_c147 3 rfl)).trans ((funext (hA_c121 3 rfl)).trans (((show A32 3 = A31 3 from (eA32 3))).trans (((show A31 3 = A29 3 from (eA31 3))).trans (((show A29 3 = A_35 3 from (eA29 3))).trans (ew35_3)))))) (show inr (tc147_0) by omega) (show inr (z32) by omega) (show inr (u2_1) by omega) (show 0 ≤ (y35_2_1) ∧ (y35_2_1) ≤ (m35_3) ∧ (m35_3) ≤ 65536 by omega) (show 0 ≤ (u2_1) ∧ (u2_1) ≤ (y35_2_1) by omega) (show (z32) < 0 ∨ 1 ≤ (tc147_0) ∧ (tc147_0) ≤ (y35_2_1) - (u2_1) by omega) (fun σ48 D48' N48' F48' A48' c48 s48 H' O' hD48 hN48 hS48 hA48 pm48_1 m48_1 em48_1 y48_0_1 ey48_0_1 y48_0_2 ey48_0_2 w48_1 ew48_1 pz48_0 pz48_1 pz48_2 pz48_3 pz48_4 => ⟨rfl, ?_⟩))
                      refine v_backM (c := c_35) (s := s_35) H (show vsub V206 V163_thisa [2, 3] = true by decide +kernel) H' O' hD48 (show vmov V206 [2, 3] [1] = true by decide +kernel) (fun D48 N48 F48 A48 H O' eD48 eN48 eF48 eA48 => ?_)
                      have O := OUT_trans O O'
                      -- Row.copyBack
                      have pf48_0_3 : F48 0 3 = (D48 1 : Int) := ((show F48 0 3 = F_c147 0 3 from (eF48 0 3))).trans ((((((((hS_c147 0 3 rfl).trans (hS_c121 0 3 rfl)).trans ((show F32 0 3 = F31 0 3 from (eF32 0 3)))).trans ((show F31 0 3 = F29 0 3 from (eF31 0 3)))).trans ((show F29 0 3 = F_35 0 3 from (eF29 0 3))))).trans (pf_35_0_3)).trans (congrArg (fun q : Nat => (q : Int)) ((show D48 1 = D_35 1 from (eD48 1))).symm))
                      have pf48_0_5 : F48 0 5 = (D48 2 : Int) := ((show F48 0 5 = F_c147 0 5 from (eF48 0 5))).trans ((((((((hS_c147 0 5 rfl).trans (hS_c121 0 5 rfl)).trans ((show F32 0 5 = F31 0 5 from (eF32 0 5)))).trans ((show F31 0 5 = F29 0 5 from (eF31 0 5)))).trans ((show F29 0 5 = F_35 0 5 from (eF29 0 5))))).trans (pf_35_0_5)).trans (congrArg (fun q : Nat => (q : Int)) ((show D48 2 = D_35 2 from (eD48 2).trans (hD48 0 rfl))).symm))
                      have pf48_2_0 : F48 2 0 = (D48 3 : Int) := (eF48 2 0).trans (pm48_1.trans (congrArg (fun q : Nat => (q : Int)) (eD48 3).symm))
                      have r49 : (0 : Int) ≤ m48_1 ∧ m48_1 ≤ 1000000 := by have h1 := H.nle 3 (by decide); have h2 : (N48 3 : Int) = m48_1 := (congrArg (fun q : Nat => (q : Int)) (eN48 3)).trans em48_1; omega
                      have r50 : (-2147483648 : Int) ≤ y48_0_1 ∧ y48_0_1 ≤ 2147483647 := by have h1 : (-2147483648 : Int) ≤ F48 2 1 ∧ F48 2 1 ≤ 2147483647 := H.krg 2 1 (by decide); rw [show F48 2 1 = y48_0_1 from ((eF48 2 1).trans ey48_0_1)] at h1; exact h1
                      have r51 : (0 : Int) ≤ y48_0_2 ∧ y48_0_2 ≤ 1 := by have h1 : (0 : Int) ≤ F48 2 2 ∧ F48 2 2 ≤ 1 := H.krg 2 2 (by decide); rw [show F48 2 2 = y48_0_2 from ((eF48 2 2).trans ey48_0_2)] at h1; exact h1
                      have hcb := pz48_4 (by omega)
                      have hsm1 : ∀ i, (0 : Int) ≤ i → i < (u2_1) → ((w48_1)) i = ((w3)) i := fun i x y => (pz48_2 i x (by omega)).trans (j35_s i x y)
                      have hbu := pz48_3
                      have : TYO (ub8 ((w1))) ((a2)) ((y7_0_7)) (q0) (((x35_6 + (1 + z29)))) (sc ((w48_1)) ((u2_1)) ((y48_0_1))) := ITO_s j35_o (TYs_c hTY (by omega) (by omega) (by omega) (by omega) (by omega) (by omega) (by rw [hCX, show (u2_1) = (u2_1) by omega]; exact hcb))
                      refine Ew_of (pc' := 294) (fun _ => x_goto rfl rfl) ?_
                      exact hc294  _ _ _ _ _ _ _ _ ((x35_6 + (1 + z29))) ((rk_o (rk2_o (lc147_0) rfl rfl) rfl rfl).trans (congrArg (fun q : Nat => some (Value.ref q)) (((show D48 0 = D_35 0 from (eD48 0)))).symm)) (rk_o (rk2_o (lc147_2) rfl rfl) rfl rfl) (rk_o (rk2_o (lc147_5) rfl rfl) rfl rfl) (rk_s) (rk_o (rk2_o (lc147_7) rfl rfl) rfl rfl) H O (SD_trans (SD_refl) (SD_glu (ι := [2, 3]) hD48 eD48 (by decide +kernel)) (any_subA (l' := [3]) rfl)) (SD_trans (SD_refl) (SD_glu (ι := [2, 3]) hN48 eN48 (by decide +kernel)) (any_subA (l' := [3]) rfl)) (SF_trans (SF_refl) (SF_glu (ι := [2, 3]) hS48 eF48 (by decide +kernel)) (any_sub (l' := [(2, 0), (2, 1), (2, 2)]) rfl)) (SA_trans (SA_refl) (SA_glu (ι := [2, 3]) hA48 eA48 (by decide +kernel)) (any_subA (l' := [3]) rfl)) (pf48_2_0) (m48_1) ((congrArg (fun q : Nat => (q : Int)) (eN48 3)).trans em48_1) (y48_0_1) (((eF48 2 1).trans ey48_0_1)) (y48_0_2) (((eF48 2 2).trans ey48_0_2)) (w48_1) ((eA48 3).trans ew48_1) (show inr ((x35_6 + (1 + z29))) by omega) (show 0 ≤ ((x35_6 + (1 + z29))) ∧ ((x35_6 + (1 + z29))) ≤ (a2) by omega) (show 0 ≤ (y48_0_1) ∧ (y48_0_1) ≤ (m48_1) ∧ (m48_1) ≤ 65536 by omega) (show (u2_1) ≤ (y48_0_1) ∧ (u2_1) = (u2_1) by omega) (show (y48_0_1) - (u2_1) ≤ (y7_0_7) by omega) (show (y48_0_2) = 0 by omega) (show (x35_7) + 1 ≤ ((x35_6 + (1 + z29))) by omega) (show TYO (ub8 ((w1))) ((a2)) ((y7_0_7)) (q0) (((x35_6 + (1 + z29)))) (sc ((w48_1)) ((u2_1)) ((y48_0_1))) by assumption) (show ∀ i, (0 : Int) ≤ i → i < (u2_1) → ((w48_1)) i = ((w3)) i by assumption)
                  · refine Ew_of (pc' := 209) (fun _ => x_aload_n rfl (rk2_o (lc147_0) rfl rfl)) ?_
                    refine Ew_of (pc' := 210) (fun _ => x_iconst rfl) ?_
                    refine Ew_of (pc' := 212) (fun _ => x_iload rfl (rk2_o (lc147_6) rfl rfl)) ?_
                    refine v_inv H (o := 0) rfl rfl rfl rfl rfl rfl (by rfl) (C203 (D := pul [0] D_35) (N := pul [0] N_35) (HW_sub H (VS_of (show vsub V206 V203 [0] = true by decide +kernel))) (y7_0_8) ((((((((hS_c147 0 8 rfl).trans (hS_c121 0 8 rfl)).trans ((show F32 0 8 = F31 0 8 from (eF32 0 8)))).trans ((show F31 0 8 = F29 0 8 from (eF31 0 8)))).trans ((show F29 0 8 = F_35 0 8 from (eF29 0 8)))).trans (hS_35 0 8 rfl)).trans ((eF7 0 8).trans ey7_0_8))) (show inr (5) by omega) (show inr (x35_6) by omega) (fun z52 σ52 F52' A52' H' O' hS52 hA52 y52_0_8 ey52_0_8 pz52_0 pz52_1 pz52_2 => ⟨rfl, ?_⟩))
                    refine v_back (c := c_35) (s := s_35) H (show vsub V206 V203 [0] = true by decide +kernel) H' O' (fun F52 A52 H O' eF52 eA52 => ?_)
                    have O := OUT_trans O O'
                    -- Tags.fail
                    have r53 : (-2147483648 : Int) ≤ y52_0_8 ∧ y52_0_8 ≤ 2147483647 := by have h1 : (-2147483648 : Int) ≤ F52 0 8 ∧ F52 0 8 ≤ 2147483647 := H.krg 0 8 (by decide); rw [show F52 0 8 = y52_0_8 from ((eF52 0 8).trans ey52_0_8)] at h1; exact h1
                    have : IMP ((z52) ≠ 0) (TYB (ub8 ((w1))) ((a2)) ((a1)) ((a3)) ((z52), (y52_0_8), [])) := fun z => ⟨0, 0, _, _, hLQ, .inr ⟨rfl, ITO_e j35_o (TYt_5 hTY (by omega) (by omega) (by omega) (by omega) (by omega) (by omega))⟩⟩
                    have : IMP ((z52) = 0) (TYB (ub8 ((w1))) ((a2)) ((a1)) ((a3)) (0, (a2), sc ((w35_3)) ((u2_1)) ((y35_2_1)))) := fun z => absurd z (by omega)
                    exact w_ireturn rfl (k (z52) _ _ _ _ _ _ _ H O (SD_trans (SD_refl) hD_35 (any_subA rfl)) (SD_trans (SD_refl) hN_35 (any_subA rfl)) (SF_trans (SF_trans (SF_trans (SF_trans (SF_trans (SF_trans (SF_trans (SF_trans (SF_refl) (SF_glu (ι := [0, 1]) hS7 eF7 (by decide +kernel)) (any_sub (l' := [(0, 7), (0, 8)]) rfl)) hS_35 (any_sub rfl)) (SF_glu (ι := []) hS29 eF29 (by decide +kernel)) (any_sub (l' := []) rfl)) (SF_glu (ι := [1]) hS31 eF31 (by decide +kernel)) (any_sub (l' := []) rfl)) (SF_glu (ι := []) hS32 eF32 (by decide +kernel)) (any_sub (l' := []) rfl)) hS_c121 (any_sub rfl)) hS_c147 (any_sub rfl)) (SF_glu (ι := [0]) hS52 eF52 (by decide +kernel)) (any_sub (l' := [(0, 8)]) rfl)) (SA_trans (SA_trans (SA_trans (SA_trans (SA_trans (SA_trans (SA_trans (SA_trans (SA_refl) (SA_glu (ι := [0, 1]) hA7 eA7 (by decide +kernel)) (any_subA (l' := []) rfl)) hA_35 (any_subA rfl)) (SA_glu (ι := []) hA29 eA29 (by decide +kernel)) (any_subA (l' := []) rfl)) (SA_glu (ι := [1]) hA31 eA31 (by decide +kernel)) (any_subA (l' := []) rfl)) (SA_glu (ι := []) hA32 eA32 (by decide +kernel)) (any_subA (l' := []) rfl)) hA_c121 (any_subA rfl)) hA_c147 (any_subA rfl)) (SA_glu (ι := [0]) hA52 eA52 (by decide +kernel)) (any_subA (l' := []) rfl)) (((((((((show F52 2 0 = F_c147 2 0 from (eF52 2 0))).trans (hS_c147 2 0 rfl)).trans (hS_c121 2 0 rfl)).trans ((show F32 2 0 = F31 2 0 from (eF32 2 0)))).trans ((show F31 2 0 = F29 2 0 from (eF31 2 0)))).trans ((show F29 2 0 = F_35 2 0 from (eF29 2 0))))).trans (pm35_3)) (m35_3) (em35_3) (y52_0_8) (((eF52 0 8).trans ey52_0_8)) (y35_2_1) (((((((((show F52 2 1 = F_c147 2 1 from (eF52 2 1))).trans (hS_c147 2 1 rfl)).trans (hS_c121 2 1 rfl)).trans ((show F32 2 1 = F31 2 1 from (eF32 2 1)))).trans ((show F31 2 1 = F29 2 1 from (eF31 2 1)))).trans ((show F29 2 1 = F_35 2 1 from (eF29 2 1)))).trans (ey35_2_1))) (y35_2_2) (((((((((show F52 2 2 = F_c147 2 2 from (eF52 2 2))).trans (hS_c147 2 2 rfl)).trans (hS_c121 2 2 rfl)).trans ((show F32 2 2 = F31 2 2 from (eF32 2 2)))).trans ((show F31 2 2 = F29 2 2 from (eF31 2 2)))).trans ((show F29 2 2 = F_35 2 2 from (eF29 2 2)))).trans (ey35_2_2))) (w35_3) (((show A52 3 = A_c147 3 from (eA52 3))).trans ((funext (hA_c147 3 rfl)).trans ((funext (hA_c121 3 rfl)).trans (((show A32 3 = A31 3 from (eA32 3))).trans (((show A31 3 = A29 3 from (eA31 3))).trans (((show A29 3 = A_35 3 from (eA29 3))).trans (ew35_3))))))) (show inr (z52) by omega) (show 0 ≤ (z52) ∧ (z52) ≤ 6 by omega) (show 0 ≤ (y35_2_1) ∧ (y35_2_1) ≤ (m35_3) ∧ (m35_3) ≤ 65536 by omega) (show (u2_1) ≤ (y35_2_1) by omega) (show (y35_2_1) ≤ (u2_1) + a3 ∨ (y35_2_1) = (u2_1) by omega) (show (y35_2_2) = 0 by omega) (show IMP ((z52) ≠ 0) (TYB (ub8 ((w1))) (a2) (a1) (a3) ((z52), (y52_0_8), [])) by assumption) (show IMP ((z52) = 0) (TYB (ub8 ((w1))) (a2) (a1) (a3) (0, a2, sc ((w35_3)) ((u2_1)) ((y35_2_1)))) by assumption) (show ∀ i, (0 : Int) ≤ i → i < (u2_1) → ((w35_3)) i = ((w3)) i by assumption) (show (z52) ≠ 0 ∨ (y52_0_8) = a2 by omega))
                · refine Ew_of (pc' := 156) (fun _ => x_lload rfl rk2_s) ?_
                  refine Ew_of (pc' := 157) (fun _ => x_lconst (z := 0) rfl (by decide)) ?_
                  refine w_lcmp rfl (show inrJ (tc147_0) by omega) (show inrJ (0) by omega) (fun z54 gz54 gaz54 gbz54 => ?_)
                  refine w_ifeq (t := 178) rfl rfl (show inr (z54) by omega) (fun b55 => ?_) (fun b55 => ?_)
                  · refine Ew_of (pc' := 179) (fun _ => x_aload_n rfl (rk2_o (lc147_0) rfl rfl)) ?_
                    refine Ew_of (pc' := 180) (fun _ => x_iconst rfl) ?_
                    refine Ew_of (pc' := 182) (fun _ => x_iload rfl (rk2_o (lc147_6) rfl rfl)) ?_
                    refine v_inv H (o := 0) rfl rfl rfl rfl rfl rfl (by rfl) (C203 (D := pul [0] D_35) (N := pul [0] N_35) (HW_sub H (VS_of (show vsub V206 V203 [0] = true by decide +kernel))) (y7_0_8) ((((((((hS_c147 0 8 rfl).trans (hS_c121 0 8 rfl)).trans ((show F32 0 8 = F31 0 8 from (eF32 0 8)))).trans ((show F31 0 8 = F29 0 8 from (eF31 0 8)))).trans ((show F29 0 8 = F_35 0 8 from (eF29 0 8)))).trans (hS_35 0 8 rfl)).trans ((eF7 0 8).trans ey7_0_8))) (show inr (4) by omega) (show inr (x35_6) by omega) (fun z56 σ56 F56' A56' H' O' hS56 hA56 y56_0_8 ey56_0_8 pz56_0 pz56_1 pz56_2 => ⟨rfl, ?_⟩))
                    refine v_back (c := c_35) (s := s_35) H (show vsub V206 V203 [0] = true by decide +kernel) H' O' (fun F56 A56 H O' eF56 eA56 => ?_)
                    have O := OUT_trans O O'
                    -- Tags.fail
                    have r57 : (-2147483648 : Int) ≤ y56_0_8 ∧ y56_0_8 ≤ 2147483647 := by have h1 : (-2147483648 : Int) ≤ F56 0 8 ∧ F56 0 8 ≤ 2147483647 := H.krg 0 8 (by decide); rw [show F56 0 8 = y56_0_8 from ((eF56 0 8).trans ey56_0_8)] at h1; exact h1
                    have : IMP ((z56) ≠ 0) (TYB (ub8 ((w1))) ((a2)) ((a1)) ((a3)) ((z56), (y56_0_8), [])) := fun z => ⟨0, 0, _, _, hLQ, .inr ⟨rfl, ITO_e j35_o (TYt_4 hTY (by omega) (by omega) (by omega) (by omega) (by omega) (by omega))⟩⟩
                    have : IMP ((z56) = 0) (TYB (ub8 ((w1))) ((a2)) ((a1)) ((a3)) (0, (a2), sc ((w35_3)) ((u2_1)) ((y35_2_1)))) := fun z => absurd z (by omega)
                    exact w_ireturn rfl (k (z56) _ _ _ _ _ _ _ H O (SD_trans (SD_refl) hD_35 (any_subA rfl)) (SD_trans (SD_refl) hN_35 (any_subA rfl)) (SF_trans (SF_trans (SF_trans (SF_trans (SF_trans (SF_trans (SF_trans (SF_trans (SF_refl) (SF_glu (ι := [0, 1]) hS7 eF7 (by decide +kernel)) (any_sub (l' := [(0, 7), (0, 8)]) rfl)) hS_35 (any_sub rfl)) (SF_glu (ι := []) hS29 eF29 (by decide +kernel)) (any_sub (l' := []) rfl)) (SF_glu (ι := [1]) hS31 eF31 (by decide +kernel)) (any_sub (l' := []) rfl)) (SF_glu (ι := []) hS32 eF32 (by decide +kernel)) (any_sub (l' := []) rfl)) hS_c121 (any_sub rfl)) hS_c147 (any_sub rfl)) (SF_glu (ι := [0]) hS56 eF56 (by decide +kernel)) (any_sub (l' := [(0, 8)]) rfl)) (SA_trans (SA_trans (SA_trans (SA_trans (SA_trans (SA_trans (SA_trans (SA_trans (SA_refl) (SA_glu (ι := [0, 1]) hA7 eA7 (by decide +kernel)) (any_subA (l' := []) rfl)) hA_35 (any_subA rfl)) (SA_glu (ι := []) hA29 eA29 (by decide +kernel)) (any_subA (l' := []) rfl)) (SA_glu (ι := [1]) hA31 eA31 (by decide +kernel)) (any_subA (l' := []) rfl)) (SA_glu (ι := []) hA32 eA32 (by decide +kernel)) (any_subA (l' := []) rfl)) hA_c121 (any_subA rfl)) hA_c147 (any_subA rfl)) (SA_glu (ι := [0]) hA56 eA56 (by decide +kernel)) (any_subA (l' := []) rfl)) (((((((((show F56 2 0 = F_c147 2 0 from (eF56 2 0))).trans (hS_c147 2 0 rfl)).trans (hS_c121 2 0 rfl)).trans ((show F32 2 0 = F31 2 0 from (eF32 2 0)))).trans ((show F31 2 0 = F29 2 0 from (eF31 2 0)))).trans ((show F29 2 0 = F_35 2 0 from (eF29 2 0))))).trans (pm35_3)) (m35_3) (em35_3) (y56_0_8) (((eF56 0 8).trans ey56_0_8)) (y35_2_1) (((((((((show F56 2 1 = F_c147 2 1 from (eF56 2 1))).trans (hS_c147 2 1 rfl)).trans (hS_c121 2 1 rfl)).trans ((show F32 2 1 = F31 2 1 from (eF32 2 1)))).trans ((show F31 2 1 = F29 2 1 from (eF31 2 1)))).trans ((show F29 2 1 = F_35 2 1 from (eF29 2 1)))).trans (ey35_2_1))) (y35_2_2) (((((((((show F56 2 2 = F_c147 2 2 from (eF56 2 2))).trans (hS_c147 2 2 rfl)).trans (hS_c121 2 2 rfl)).trans ((show F32 2 2 = F31 2 2 from (eF32 2 2)))).trans ((show F31 2 2 = F29 2 2 from (eF31 2 2)))).trans ((show F29 2 2 = F_35 2 2 from (eF29 2 2)))).trans (ey35_2_2))) (w35_3) (((show A56 3 = A_c147 3 from (eA56 3))).trans ((funext (hA_c147 3 rfl)).trans ((funext (hA_c121 3 rfl)).trans (((show A32 3 = A31 3 from (eA32 3))).trans (((show A31 3 = A29 3 from (eA31 3))).trans (((show A29 3 = A_35 3 from (eA29 3))).trans (ew35_3))))))) (show inr (z56) by omega) (show 0 ≤ (z56) ∧ (z56) ≤ 6 by omega) (show 0 ≤ (y35_2_1) ∧ (y35_2_1) ≤ (m35_3) ∧ (m35_3) ≤ 65536 by omega) (show (u2_1) ≤ (y35_2_1) by omega) (show (y35_2_1) ≤ (u2_1) + a3 ∨ (y35_2_1) = (u2_1) by omega) (show (y35_2_2) = 0 by omega) (show IMP ((z56) ≠ 0) (TYB (ub8 ((w1))) (a2) (a1) (a3) ((z56), (y56_0_8), [])) by assumption) (show IMP ((z56) = 0) (TYB (ub8 ((w1))) (a2) (a1) (a3) (0, a2, sc ((w35_3)) ((u2_1)) ((y35_2_1)))) by assumption) (show ∀ i, (0 : Int) ≤ i → i < (u2_1) → ((w35_3)) i = ((w3)) i by assumption) (show (z56) ≠ 0 ∨ (y56_0_8) = a2 by omega))
                  · refine Ew_of (pc' := 163) (fun _ => x_lload rfl rk2_s) ?_
                    refine Ew_of (pc' := 164) (fun _ => x_aload_n rfl (rk2_o (lc147_0) rfl rfl)) ?_
                    refine v_g H (o := 0) (v := .ref (D_35 2)) rfl rfl rfl rfl rfl (vrf (((((((hS_c147 0 5 rfl).trans (hS_c121 0 5 rfl)).trans ((show F32 0 5 = F31 0 5 from (eF32 0 5)))).trans ((show F31 0 5 = F29 0 5 from (eF31 0 5)))).trans ((show F29 0 5 = F_35 0 5 from (eF29 0 5))))).trans (pf_35_0_5))) ?_
                    refine v_g H (o := 2) (v := I (y35_2_1)) rfl rfl rfl rfl rfl (congrArg (fun z : Int => I z) (((((((hS_c147 2 1 rfl).trans (hS_c121 2 1 rfl)).trans ((show F32 2 1 = F31 2 1 from (eF32 2 1)))).trans ((show F31 2 1 = F29 2 1 from (eF31 2 1)))).trans ((show F29 2 1 = F_35 2 1 from (eF29 2 1)))).trans (ey35_2_1)) : F_c147 2 1 = y35_2_1)) ?_
                    refine Ew_of (pc' := 172) (fun _ => x_iload rfl (rk2_o (lc147_5) rfl rfl)) ?_
                    refine w_isub rfl ?_
                    refine w_i2l rfl (show inr ((y35_2_1 - u2_1)) by omega) ?_
                    refine w_lcmp rfl (show inrJ (tc147_0) by omega) (show inrJ ((y35_2_1 - u2_1)) by omega) (fun z58 gz58 gaz58 gbz58 => ?_)
                    refine w_ifle (t := 186) rfl rfl (show inr (z58) by omega) (fun b59 => ?_) (fun b59 => ?_)
                    · refine Ew_of (pc' := 188) (fun _ => x_lload rfl (rk2_o (lc147_12) rfl rfl)) ?_
                      refine Ew_of (pc' := 189) (fun _ => x_aload_n rfl (rk2_o (lc147_0) rfl rfl)) ?_
                      refine v_g H (o := 0) (v := J (y7_0_7)) rfl rfl rfl rfl rfl (congrArg (fun z : Int => J z) ((((((((hS_c147 0 7 rfl).trans (hS_c121 0 7 rfl)).trans ((show F32 0 7 = F31 0 7 from (eF32 0 7)))).trans ((show F31 0 7 = F29 0 7 from (eF31 0 7)))).trans ((show F29 0 7 = F_35 0 7 from (eF29 0 7)))).trans (hS_35 0 7 rfl)).trans ((eF7 0 7).trans ey7_0_7)) : F_c147 0 7 = y7_0_7)) ?_
                      refine Ew_of (pc' := 193) (fun _ => x_aload_n rfl (rk2_o (lc147_0) rfl rfl)) ?_
                      refine v_g H (o := 0) (v := .ref (D_35 2)) rfl rfl rfl rfl rfl (vrf (((((((hS_c147 0 5 rfl).trans (hS_c121 0 5 rfl)).trans ((show F32 0 5 = F31 0 5 from (eF32 0 5)))).trans ((show F31 0 5 = F29 0 5 from (eF31 0 5)))).trans ((show F29 0 5 = F_35 0 5 from (eF29 0 5))))).trans (pf_35_0_5))) ?_
                      refine v_g H (o := 2) (v := I (y35_2_1)) rfl rfl rfl rfl rfl (congrArg (fun z : Int => I z) (((((((hS_c147 2 1 rfl).trans (hS_c121 2 1 rfl)).trans ((show F32 2 1 = F31 2 1 from (eF32 2 1)))).trans ((show F31 2 1 = F29 2 1 from (eF31 2 1)))).trans ((show F29 2 1 = F_35 2 1 from (eF29 2 1)))).trans (ey35_2_1)) : F_c147 2 1 = y35_2_1)) ?_
                      refine Ew_of (pc' := 201) (fun _ => x_iload rfl (rk2_o (lc147_5) rfl rfl)) ?_
                      refine w_isub rfl ?_
                      refine w_i2l rfl (show inr ((y35_2_1 - u2_1)) by omega) ?_
                      refine w_lsub rfl ?_
                      refine w_lcmp rfl (show inrJ (z32) by omega) (show inrJ ((y7_0_7 - (y35_2_1 - u2_1))) by omega) (fun z60 gz60 gaz60 gbz60 => ?_)
                      refine w_ifle (t := 216) rfl rfl (show inr (z60) by omega) (fun b61 => ?_) (fun b61 => ?_)
                      · refine Ew_of (pc' := 218) (fun _ => x_iload rfl (rk2_o (lc147_6) rfl rfl)) ?_
                        refine Ew_of (pc' := 219) (fun _ => x_iconst rfl) ?_
                        refine Ew_of (pc' := 221) (fun _ => x_iload rfl (rk2_o (lc147_9) rfl rfl)) ?_
                        refine w_iadd rfl ?_
                        refine w_iadd rfl ?_
                        refine Ew_of (pc' := 225) (fun _ => x_istore rfl) ?_
                        have hc294 : ∀ (ls : rO) (σ : rS) (D_c294 N_c294 : Nat → Nat) (c_c294 s_c294 : Nat) (F_c294 : hF) (A_c294 : hA) (xc294_6 : Int), rlook ls 0 = some (.ref (D_c294 0)) → rlook ls 2 = some (I (a2)) → rlook ls 5 = some (I (u2_1)) → rlook ls 6 = some (I (xc294_6)) → rlook ls 7 = some (I (x35_7)) → HW V206 σ D_c294 N_c294 F_c294 A_c294 → OUT (V206).length D N σE c s D_c294 N_c294 σ c_c294 s_c294 → SD [3] D_35 D_c294 → SD [3] N_35 N_c294 → SF [(2, 0), (2, 1), (2, 2)] F_c147 F_c294 → SA [3] A_c147 A_c294 → F_c294 2 0 = (D_c294 3 : Int) → ∀ mc294_3 : Int, (N_c294 3 : Int) = mc294_3 → ∀ yc294_2_1 : Int, F_c294 2 1 = yc294_2_1 → ∀ yc294_2_2 : Int, F_c294 2 2 = yc294_2_2 → ∀ wc294_3 : Int → Int, A_c294 3 = wc294_3 → (inr (xc294_6)) → (0 ≤ (xc294_6) ∧ (xc294_6) ≤ (a2)) → (0 ≤ (yc294_2_1) ∧ (yc294_2_1) ≤ (mc294_3) ∧ (mc294_3) ≤ 65536) → ((u2_1) ≤ (yc294_2_1) ∧ (u2_1) = (u2_1)) → ((yc294_2_1) - (u2_1) ≤ (y7_0_7)) → ((yc294_2_2) = 0) → ((x35_7) + 1 ≤ (xc294_6)) → (TYO (ub8 ((w1))) ((a2)) ((y7_0_7)) (q0) ((xc294_6)) (sc ((wc294_3)) ((u2_1)) ((yc294_2_1)))) → (∀ i, (0 : Int) ≤ i → i < (u2_1) → ((wc294_3)) i = ((w3)) i) → Ew 206 (d + 3) 294 ls [] σ c_c294 s_c294 Q := by
                         as_aux_lemma =>
                          intro  ls σ D_c294 N_c294 c_c294 s_c294 F_c294 A_c294 xc294_6 lc294_0 lc294_2 lc294_5 lc294_6 lc294_7 H O hD_c294 hN_c294 hS_c294 hA_c294 pmc294_3 mc294_3 emc294_3 yc294_2_1 eyc294_2_1 yc294_2_2 eyc294_2_2 wc294_3 ewc294_3 jc294_0 jc294_1 jc294_2 jc294_3 jc294_4 jc294_5 jc294_6 jc294_7 jc294_8
                          have pf_c294_0_3 : F_c294 0 3 = (D_c294 1 : Int) := (hS_c294 0 3 rfl).trans ((((((((hS_c147 0 3 rfl).trans (hS_c121 0 3 rfl)).trans ((show F32 0 3 = F31 0 3 from (eF32 0 3)))).trans ((show F31 0 3 = F29 0 3 from (eF31 0 3)))).trans ((show F29 0 3 = F_35 0 3 from (eF29 0 3))))).trans (pf_35_0_3)).trans (congrArg (fun q : Nat => (q : Int)) (hD_c294 1 rfl).symm))
                          have pf_c294_0_5 : F_c294 0 5 = (D_c294 2 : Int) := (hS_c294 0 5 rfl).trans ((((((((hS_c147 0 5 rfl).trans (hS_c121 0 5 rfl)).trans ((show F32 0 5 = F31 0 5 from (eF32 0 5)))).trans ((show F31 0 5 = F29 0 5 from (eF31 0 5)))).trans ((show F29 0 5 = F_35 0 5 from (eF29 0 5))))).trans (pf_35_0_5)).trans (congrArg (fun q : Nat => (q : Int)) (hD_c294 2 rfl).symm))
                          have r62 : (0 : Int) ≤ mc294_3 ∧ mc294_3 ≤ 1000000 := by have h1 := H.nle 3 (by decide); have h2 : (N_c294 3 : Int) = mc294_3 := emc294_3; omega
                          have r63 : (-2147483648 : Int) ≤ yc294_2_1 ∧ yc294_2_1 ≤ 2147483647 := by have h1 : (-2147483648 : Int) ≤ F_c294 2 1 ∧ F_c294 2 1 ≤ 2147483647 := H.krg 2 1 (by decide); rw [show F_c294 2 1 = yc294_2_1 from (eyc294_2_1)] at h1; exact h1
                          have r64 : (0 : Int) ≤ yc294_2_2 ∧ yc294_2_2 ≤ 1 := by have h1 : (0 : Int) ≤ F_c294 2 2 ∧ F_c294 2 2 ≤ 1 := H.krg 2 2 (by decide); rw [show F_c294 2 2 = yc294_2_2 from (eyc294_2_2)] at h1; exact h1
                          refine Ew_of (pc' := 297) (fun _ => x_iinc (len := 3) rfl (lc294_7)) ?_
                          refine Ew_of (pc' := 35) (fun _ => x_goto rfl rfl) ?_
                          exact ih35 _ (by omega) _ _ _ _ _ _ _ _ (xc294_6) ((x35_7 + 1)) (rk_o (lc294_0) rfl rfl) (rk_o (lc294_2) rfl rfl) (rk_o (lc294_5) rfl rfl) (rk_o (lc294_6) rfl rfl) (rk_s) H O (SD_trans (hD_35) hD_c294 (any_subA rfl)) (SD_trans (hN_35) hN_c294 (any_subA rfl)) (SF_trans (SF_trans (SF_trans (SF_trans (SF_trans (SF_trans (hS_35) (SF_glu (ι := []) hS29 eF29 (by decide +kernel)) (any_sub (l' := []) rfl)) (SF_glu (ι := [1]) hS31 eF31 (by decide +kernel)) (any_sub (l' := []) rfl)) (SF_glu (ι := []) hS32 eF32 (by decide +kernel)) (any_sub (l' := []) rfl)) hS_c121 (any_sub rfl)) hS_c147 (any_sub rfl)) hS_c294 (any_sub rfl)) (SA_trans (SA_trans (SA_trans (SA_trans (SA_trans (SA_trans (hA_35) (SA_glu (ι := []) hA29 eA29 (by decide +kernel)) (any_subA (l' := []) rfl)) (SA_glu (ι := [1]) hA31 eA31 (by decide +kernel)) (any_subA (l' := []) rfl)) (SA_glu (ι := []) hA32 eA32 (by decide +kernel)) (any_subA (l' := []) rfl)) hA_c121 (any_subA rfl)) hA_c147 (any_subA rfl)) hA_c294 (any_subA rfl)) (pmc294_3) (mc294_3) (emc294_3) (yc294_2_1) ((eyc294_2_1)) (yc294_2_2) ((eyc294_2_2)) (wc294_3) (ewc294_3) (show inr (xc294_6) by omega) (show inr ((x35_7 + 1)) by omega) (show (a1) ≤ ((x35_7 + 1)) by omega) (show ((x35_7 + 1)) ≤ (a1) ∨ ((x35_7 + 1)) ≤ ((a2)) by omega) (show 0 ≤ (xc294_6) ∧ (xc294_6) ≤ (a2) by omega) (show 0 ≤ (yc294_2_1) ∧ (yc294_2_1) ≤ (mc294_3) ∧ (mc294_3) ≤ 65536 by omega) (show (u2_1) ≤ (yc294_2_1) ∧ (u2_1) = (u2_1) by omega) (show (yc294_2_1) - (u2_1) ≤ (y7_0_7) by omega) (show (yc294_2_2) = 0 by omega) (show ((x35_7 + 1)) ≤ (xc294_6) by omega) (show TYO (ub8 ((w1))) ((a2)) ((y7_0_7)) (q0) ((xc294_6)) (sc ((wc294_3)) ((u2_1)) ((yc294_2_1))) by assumption) (show ∀ i, (0 : Int) ≤ i → i < (u2_1) → ((wc294_3)) i = ((w3)) i by assumption) rfl
                        refine Ew_of (pc' := 227) (fun _ => x_iload rfl (rk_o (rk2_o (lc147_14) rfl rfl) rfl rfl)) ?_
                        refine w_ifeq (t := 252) rfl rfl (show inr (tc121_0) by omega) (fun b65 => ?_) (fun b65 => ?_)
                        · refine Ew_of (pc' := 254) (fun _ => x_lload rfl (rk_o (rk2_o (lc147_12) rfl rfl) rfl rfl)) ?_
                          refine Ew_of (pc' := 255) (fun _ => x_iload_n rfl (rk_o (rk2_o (lc147_2) rfl rfl) rfl rfl)) ?_
                          refine Ew_of (pc' := 257) (fun _ => x_iload rfl rk_s) ?_
                          refine w_isub rfl ?_
                          refine w_i2l rfl (show inr ((a2 - (x35_6 + (1 + z29)))) by omega) ?_
                          refine w_lcmp rfl (show inrJ (z32) by omega) (show inrJ ((a2 - (x35_6 + (1 + z29)))) by omega) (fun z66 gz66 gaz66 gbz66 => ?_)
                          refine w_ifle (t := 270) rfl rfl (show inr (z66) by omega) (fun b67 => ?_) (fun b67 => ?_)
                          · refine Ew_of (pc' := 271) (fun _ => x_aload_n rfl (rk_o (rk2_o (lc147_0) rfl rfl) rfl rfl)) ?_
                            refine v_g H (o := 0) (v := .ref (D_35 2)) rfl rfl rfl rfl rfl (vrf (((((((hS_c147 0 5 rfl).trans (hS_c121 0 5 rfl)).trans ((show F32 0 5 = F31 0 5 from (eF32 0 5)))).trans ((show F31 0 5 = F29 0 5 from (eF31 0 5)))).trans ((show F29 0 5 = F_35 0 5 from (eF29 0 5))))).trans (pf_35_0_5))) ?_
                            refine Ew_of (pc' := 275) (fun _ => x_aload_n rfl (rk_o (rk2_o (lc147_0) rfl rfl) rfl rfl)) ?_
                            refine v_g H (o := 0) (v := .ref (D_35 1)) rfl rfl rfl rfl rfl (vrf (((((((hS_c147 0 3 rfl).trans (hS_c121 0 3 rfl)).trans ((show F32 0 3 = F31 0 3 from (eF32 0 3)))).trans ((show F31 0 3 = F29 0 3 from (eF31 0 3)))).trans ((show F29 0 3 = F_35 0 3 from (eF29 0 3))))).trans (pf_35_0_3))) ?_
                            refine Ew_of (pc' := 280) (fun _ => x_iload rfl rk_s) ?_
                            refine Ew_of (pc' := 282) (fun _ => x_lload rfl (rk_o (rk2_o (lc147_12) rfl rfl) rfl rfl)) ?_
                            refine w_l2i rfl ?_
                            refine v_inv H (o := 2) rfl rfl rfl rfl rfl rfl (by rfl) (C161_Br (D := pul [2, 1, 3] D_35) (N := pul [2, 1, 3] N_35) (HW_sub H (VS_of (show vsub V206 V161_Br [2, 1, 3] = true by decide +kernel))) (((((((hS_c147 2 0 rfl).trans (hS_c121 2 0 rfl)).trans ((show F32 2 0 = F31 2 0 from (eF32 2 0)))).trans ((show F31 2 0 = F29 2 0 from (eF31 2 0)))).trans ((show F29 2 0 = F_35 2 0 from (eF29 2 0))))).trans (pm35_3)) (n1) ((congrArg (fun q : Nat => (q : Int)) (hN_35 1 rfl)).trans (en1)) (m35_3) (em35_3) (y35_2_1) (((((((hS_c147 2 1 rfl).trans (hS_c121 2 1 rfl)).trans ((show F32 2 1 = F31 2 1 from (eF32 2 1)))).trans ((show F31 2 1 = F29 2 1 from (eF31 2 1)))).trans ((show F29 2 1 = F_35 2 1 from (eF29 2 1)))).trans (ey35_2_1))) (y35_2_2) (((((((hS_c147 2 2 rfl).trans (hS_c121 2 2 rfl)).trans ((show F32 2 2 = F31 2 2 from (eF32 2 2)))).trans ((show F31 2 2 = F29 2 2 from (eF31 2 2)))).trans ((show F29 2 2 = F_35 2 2 from (eF29 2 2)))).trans (ey35_2_2))) (w1) ((funext (hA_c147 1 rfl)).trans ((funext (hA_c121 1 rfl)).trans (((show A32 1 = A31 1 from (eA32 1))).trans (((show A31 1 = A29 1 from (eA31 1).trans (funext (hA31 0 rfl)))).trans (((show A29 1 = A_35 1 from (eA29 1))).trans ((funext (hA_35 1 rfl)).trans (((show A7 1 = A 1 from (eA7 1).trans (funext (hA7 1 rfl)))).trans (ew1)))))))) (w35_3) ((funext (hA_c147 3 rfl)).trans ((funext (hA_c121 3 rfl)).trans (((show A32 3 = A31 3 from (eA32 3))).trans (((show A31 3 = A29 3 from (eA31 3))).trans (((show A29 3 = A_35 3 from (eA29 3))).trans (ew35_3)))))) (show inr ((x35_6 + (1 + z29))) by omega) (show inr (z32) by omega) (show 0 ≤ (y35_2_1) ∧ (y35_2_1) ≤ (m35_3) ∧ (m35_3) ≤ 65536 by omega) (show (z32) < 0 ∨ 0 ≤ ((x35_6 + (1 + z29))) ∧ ((x35_6 + (1 + z29))) + (z32) ≤ (n1) by omega) (fun σ68 D68' N68' F68' A68' c68 s68 H' O' hD68 hN68 hS68 hA68 pm68_2 m68_2 em68_2 y68_0_1 ey68_0_1 y68_0_2 ey68_0_2 w68_2 ew68_2 pz68_0 pz68_1 pz68_2 pz68_3 => ⟨rfl, ?_⟩))
                            refine v_backM (c := c_35) (s := s_35) H (show vsub V206 V161_Br [2, 1, 3] = true by decide +kernel) H' O' hD68 (show vmov V206 [2, 1, 3] [2] = true by decide +kernel) (fun D68 N68 F68 A68 H O' eD68 eN68 eF68 eA68 => ?_)
                            have O := OUT_trans O O'
                            -- Row.addPart
                            have pf68_0_3 : F68 0 3 = (D68 1 : Int) := ((show F68 0 3 = F_c147 0 3 from (eF68 0 3))).trans ((((((((hS_c147 0 3 rfl).trans (hS_c121 0 3 rfl)).trans ((show F32 0 3 = F31 0 3 from (eF32 0 3)))).trans ((show F31 0 3 = F29 0 3 from (eF31 0 3)))).trans ((show F29 0 3 = F_35 0 3 from (eF29 0 3))))).trans (pf_35_0_3)).trans (congrArg (fun q : Nat => (q : Int)) ((show D68 1 = D_35 1 from (eD68 1).trans (hD68 1 rfl))).symm))
                            have pf68_0_5 : F68 0 5 = (D68 2 : Int) := ((show F68 0 5 = F_c147 0 5 from (eF68 0 5))).trans ((((((((hS_c147 0 5 rfl).trans (hS_c121 0 5 rfl)).trans ((show F32 0 5 = F31 0 5 from (eF32 0 5)))).trans ((show F31 0 5 = F29 0 5 from (eF31 0 5)))).trans ((show F29 0 5 = F_35 0 5 from (eF29 0 5))))).trans (pf_35_0_5)).trans (congrArg (fun q : Nat => (q : Int)) ((show D68 2 = D_35 2 from (eD68 2).trans (hD68 0 rfl))).symm))
                            have pf68_2_0 : F68 2 0 = (D68 3 : Int) := (eF68 2 0).trans (pm68_2.trans (congrArg (fun q : Nat => (q : Int)) (eD68 3).symm))
                            have r69 : (0 : Int) ≤ m68_2 ∧ m68_2 ≤ 1000000 := by have h1 := H.nle 3 (by decide); have h2 : (N68 3 : Int) = m68_2 := (congrArg (fun q : Nat => (q : Int)) (eN68 3)).trans em68_2; omega
                            have r70 : (-2147483648 : Int) ≤ y68_0_1 ∧ y68_0_1 ≤ 2147483647 := by have h1 : (-2147483648 : Int) ≤ F68 2 1 ∧ F68 2 1 ≤ 2147483647 := H.krg 2 1 (by decide); rw [show F68 2 1 = y68_0_1 from ((eF68 2 1).trans ey68_0_1)] at h1; exact h1
                            have r71 : (0 : Int) ≤ y68_0_2 ∧ y68_0_2 ≤ 1 := by have h1 : (0 : Int) ≤ F68 2 2 ∧ F68 2 2 ≤ 1 := H.krg 2 2 (by decide); rw [show F68 2 2 = y68_0_2 from ((eF68 2 2).trans ey68_0_2)] at h1; exact h1
                            have hap := RAP_from (a := (u2_1)) (pz68_3 (by omega)) (by omega) (by omega) (by rw [sc_lenI (by omega)]; omega) (by omega)
                            have hbu := hap.1
                            have hsm1 : ∀ i, (0 : Int) ≤ i → i < (u2_1) → ((w68_2)) i = ((w3)) i := fun i x y => (pz68_2 i x (by omega)).trans (j35_s i x y)
                            refine Ew_of (pc' := 288) (fun _ => x_iload rfl rk_s) ?_
                            refine Ew_of (pc' := 290) (fun _ => x_lload rfl (rk_o (rk2_o (lc147_12) rfl rfl) rfl rfl)) ?_
                            refine w_l2i rfl ?_
                            refine w_iadd rfl ?_
                            have : TYO (ub8 ((w1))) ((a2)) ((y7_0_7)) (q0) ((((x35_6 + (1 + z29)) + z32))) (sc ((w68_2)) ((u2_1)) ((y68_0_1))) := ITO_s j35_o (TYs_l (q0 := ((x35_6 + (1 + z29)))) hTY (by omega) (by omega) (by omega) (by omega) (by omega) (by omega) rfl (by rw [hCX, show (u2_1) = (u2_1) by omega, hap.2, sc_ub8]))
                            refine Ew_of (pc' := 294) (fun _ => x_istore rfl) ?_
                            exact hc294  _ _ _ _ _ _ _ _ (((x35_6 + (1 + z29)) + z32)) ((rk_o (rk_o (rk2_o (lc147_0) rfl rfl) rfl rfl) rfl rfl).trans (congrArg (fun q : Nat => some (Value.ref q)) (((show D68 0 = D_35 0 from (eD68 0)))).symm)) (rk_o (rk_o (rk2_o (lc147_2) rfl rfl) rfl rfl) rfl rfl) (rk_o (rk_o (rk2_o (lc147_5) rfl rfl) rfl rfl) rfl rfl) (rk_s) (rk_o (rk_o (rk2_o (lc147_7) rfl rfl) rfl rfl) rfl rfl) H O (SD_trans (SD_refl) (SD_glu (ι := [2, 1, 3]) hD68 eD68 (by decide +kernel)) (any_subA (l' := [3]) rfl)) (SD_trans (SD_refl) (SD_glu (ι := [2, 1, 3]) hN68 eN68 (by decide +kernel)) (any_subA (l' := [3]) rfl)) (SF_trans (SF_refl) (SF_glu (ι := [2, 1, 3]) hS68 eF68 (by decide +kernel)) (any_sub (l' := [(2, 0), (2, 1), (2, 2)]) rfl)) (SA_trans (SA_refl) (SA_glu (ι := [2, 1, 3]) hA68 eA68 (by decide +kernel)) (any_subA (l' := [3]) rfl)) (pf68_2_0) (m68_2) ((congrArg (fun q : Nat => (q : Int)) (eN68 3)).trans em68_2) (y68_0_1) (((eF68 2 1).trans ey68_0_1)) (y68_0_2) (((eF68 2 2).trans ey68_0_2)) (w68_2) ((eA68 3).trans ew68_2) (show inr (((x35_6 + (1 + z29)) + z32)) by omega) (show 0 ≤ (((x35_6 + (1 + z29)) + z32)) ∧ (((x35_6 + (1 + z29)) + z32)) ≤ (a2) by omega) (show 0 ≤ (y68_0_1) ∧ (y68_0_1) ≤ (m68_2) ∧ (m68_2) ≤ 65536 by omega) (show (u2_1) ≤ (y68_0_1) ∧ (u2_1) = (u2_1) by omega) (show (y68_0_1) - (u2_1) ≤ (y7_0_7) by omega) (show (y68_0_2) = 0 by omega) (show (x35_7) + 1 ≤ (((x35_6 + (1 + z29)) + z32)) by omega) (show TYO (ub8 ((w1))) ((a2)) ((y7_0_7)) (q0) ((((x35_6 + (1 + z29)) + z32))) (sc ((w68_2)) ((u2_1)) ((y68_0_1))) by assumption) (show ∀ i, (0 : Int) ≤ i → i < (u2_1) → ((w68_2)) i = ((w3)) i by assumption)
                          · refine Ew_of (pc' := 264) (fun _ => x_aload_n rfl (rk_o (rk2_o (lc147_0) rfl rfl) rfl rfl)) ?_
                            refine Ew_of (pc' := 265) (fun _ => x_iconst rfl) ?_
                            refine Ew_of (pc' := 266) (fun _ => x_iload_n rfl (rk_o (rk2_o (lc147_2) rfl rfl) rfl rfl)) ?_
                            refine v_inv H (o := 0) rfl rfl rfl rfl rfl rfl (by rfl) (C203 (D := pul [0] D_35) (N := pul [0] N_35) (HW_sub H (VS_of (show vsub V206 V203 [0] = true by decide +kernel))) (y7_0_8) ((((((((hS_c147 0 8 rfl).trans (hS_c121 0 8 rfl)).trans ((show F32 0 8 = F31 0 8 from (eF32 0 8)))).trans ((show F31 0 8 = F29 0 8 from (eF31 0 8)))).trans ((show F29 0 8 = F_35 0 8 from (eF29 0 8)))).trans (hS_35 0 8 rfl)).trans ((eF7 0 8).trans ey7_0_8))) (show inr (1) by omega) (show inr (a2) by omega) (fun z72 σ72 F72' A72' H' O' hS72 hA72 y72_0_8 ey72_0_8 pz72_0 pz72_1 pz72_2 => ⟨rfl, ?_⟩))
                            refine v_back (c := c_35) (s := s_35) H (show vsub V206 V203 [0] = true by decide +kernel) H' O' (fun F72 A72 H O' eF72 eA72 => ?_)
                            have O := OUT_trans O O'
                            -- Tags.fail
                            have r73 : (-2147483648 : Int) ≤ y72_0_8 ∧ y72_0_8 ≤ 2147483647 := by have h1 : (-2147483648 : Int) ≤ F72 0 8 ∧ F72 0 8 ≤ 2147483647 := H.krg 0 8 (by decide); rw [show F72 0 8 = y72_0_8 from ((eF72 0 8).trans ey72_0_8)] at h1; exact h1
                            have : IMP ((z72) ≠ 0) (TYB (ub8 ((w1))) ((a2)) ((a1)) ((a3)) ((z72), (y72_0_8), [])) := fun z => ⟨0, 0, _, _, hLQ, .inr ⟨rfl, ITO_e j35_o (TYt_l hTY (by omega) (by omega) (by omega) (by omega) (by omega) (by omega) (by omega))⟩⟩
                            have : IMP ((z72) = 0) (TYB (ub8 ((w1))) ((a2)) ((a1)) ((a3)) (0, (a2), sc ((w35_3)) ((u2_1)) ((y35_2_1)))) := fun z => absurd z (by omega)
                            exact w_ireturn rfl (k (z72) _ _ _ _ _ _ _ H O (SD_trans (SD_refl) hD_35 (any_subA rfl)) (SD_trans (SD_refl) hN_35 (any_subA rfl)) (SF_trans (SF_trans (SF_trans (SF_trans (SF_trans (SF_trans (SF_trans (SF_trans (SF_refl) (SF_glu (ι := [0, 1]) hS7 eF7 (by decide +kernel)) (any_sub (l' := [(0, 7), (0, 8)]) rfl)) hS_35 (any_sub rfl)) (SF_glu (ι := []) hS29 eF29 (by decide +kernel)) (any_sub (l' := []) rfl)) (SF_glu (ι := [1]) hS31 eF31 (by decide +kernel)) (any_sub (l' := []) rfl)) (SF_glu (ι := []) hS32 eF32 (by decide +kernel)) (any_sub (l' := []) rfl)) hS_c121 (any_sub rfl)) hS_c147 (any_sub rfl)) (SF_glu (ι := [0]) hS72 eF72 (by decide +kernel)) (any_sub (l' := [(0, 8)]) rfl)) (SA_trans (SA_trans (SA_trans (SA_trans (SA_trans (SA_trans (SA_trans (SA_trans (SA_refl) (SA_glu (ι := [0, 1]) hA7 eA7 (by decide +kernel)) (any_subA (l' := []) rfl)) hA_35 (any_subA rfl)) (SA_glu (ι := []) hA29 eA29 (by decide +kernel)) (any_subA (l' := []) rfl)) (SA_glu (ι := [1]) hA31 eA31 (by decide +kernel)) (any_subA (l' := []) rfl)) (SA_glu (ι := []) hA32 eA32 (by decide +kernel)) (any_subA (l' := []) rfl)) hA_c121 (any_subA rfl)) hA_c147 (any_subA rfl)) (SA_glu (ι := [0]) hA72 eA72 (by decide +kernel)) (any_subA (l' := []) rfl)) (((((((((show F72 2 0 = F_c147 2 0 from (eF72 2 0))).trans (hS_c147 2 0 rfl)).trans (hS_c121 2 0 rfl)).trans ((show F32 2 0 = F31 2 0 from (eF32 2 0)))).trans ((show F31 2 0 = F29 2 0 from (eF31 2 0)))).trans ((show F29 2 0 = F_35 2 0 from (eF29 2 0))))).trans (pm35_3)) (m35_3) (em35_3) (y72_0_8) (((eF72 0 8).trans ey72_0_8)) (y35_2_1) (((((((((show F72 2 1 = F_c147 2 1 from (eF72 2 1))).trans (hS_c147 2 1 rfl)).trans (hS_c121 2 1 rfl)).trans ((show F32 2 1 = F31 2 1 from (eF32 2 1)))).trans ((show F31 2 1 = F29 2 1 from (eF31 2 1)))).trans ((show F29 2 1 = F_35 2 1 from (eF29 2 1)))).trans (ey35_2_1))) (y35_2_2) (((((((((show F72 2 2 = F_c147 2 2 from (eF72 2 2))).trans (hS_c147 2 2 rfl)).trans (hS_c121 2 2 rfl)).trans ((show F32 2 2 = F31 2 2 from (eF32 2 2)))).trans ((show F31 2 2 = F29 2 2 from (eF31 2 2)))).trans ((show F29 2 2 = F_35 2 2 from (eF29 2 2)))).trans (ey35_2_2))) (w35_3) (((show A72 3 = A_c147 3 from (eA72 3))).trans ((funext (hA_c147 3 rfl)).trans ((funext (hA_c121 3 rfl)).trans (((show A32 3 = A31 3 from (eA32 3))).trans (((show A31 3 = A29 3 from (eA31 3))).trans (((show A29 3 = A_35 3 from (eA29 3))).trans (ew35_3))))))) (show inr (z72) by omega) (show 0 ≤ (z72) ∧ (z72) ≤ 6 by omega) (show 0 ≤ (y35_2_1) ∧ (y35_2_1) ≤ (m35_3) ∧ (m35_3) ≤ 65536 by omega) (show (u2_1) ≤ (y35_2_1) by omega) (show (y35_2_1) ≤ (u2_1) + a3 ∨ (y35_2_1) = (u2_1) by omega) (show (y35_2_2) = 0 by omega) (show IMP ((z72) ≠ 0) (TYB (ub8 ((w1))) (a2) (a1) (a3) ((z72), (y72_0_8), [])) by assumption) (show IMP ((z72) = 0) (TYB (ub8 ((w1))) (a2) (a1) (a3) (0, a2, sc ((w35_3)) ((u2_1)) ((y35_2_1)))) by assumption) (show ∀ i, (0 : Int) ≤ i → i < (u2_1) → ((w35_3)) i = ((w3)) i by assumption) (show (z72) ≠ 0 ∨ (y72_0_8) = a2 by omega))
                        · refine Ew_of (pc' := 231) (fun _ => x_aload_n rfl (rk_o (rk2_o (lc147_0) rfl rfl) rfl rfl)) ?_
                          refine v_g H (o := 0) (v := .ref (D_35 2)) rfl rfl rfl rfl rfl (vrf (((((((hS_c147 0 5 rfl).trans (hS_c121 0 5 rfl)).trans ((show F32 0 5 = F31 0 5 from (eF32 0 5)))).trans ((show F31 0 5 = F29 0 5 from (eF31 0 5)))).trans ((show F29 0 5 = F_35 0 5 from (eF29 0 5))))).trans (pf_35_0_5))) ?_
                          refine Ew_of (pc' := 236) (fun _ => x_lload rfl (rk_o (rk2_s) rfl rfl)) ?_
                          refine w_l2i rfl ?_
                          refine Ew_of (pc' := 239) (fun _ => x_lload rfl (rk_o (rk2_o (lc147_12) rfl rfl) rfl rfl)) ?_
                          refine w_l2i rfl ?_
                          refine Ew_of (pc' := 242) (fun _ => x_iload rfl (rk_o (rk2_o (lc147_5) rfl rfl) rfl rfl)) ?_
                          refine Ew_of (pc' := 243) (fun _ => x_aload_n rfl (rk_o (rk2_o (lc147_0) rfl rfl) rfl rfl)) ?_
                          refine v_g H (o := 0) (v := .ref (D_35 2)) rfl rfl rfl rfl rfl (vrf (((((((hS_c147 0 5 rfl).trans (hS_c121 0 5 rfl)).trans ((show F32 0 5 = F31 0 5 from (eF32 0 5)))).trans ((show F31 0 5 = F29 0 5 from (eF31 0 5)))).trans ((show F29 0 5 = F_35 0 5 from (eF29 0 5))))).trans (pf_35_0_5))) ?_
                          refine v_inv H (o := 2) rfl rfl rfl rfl rfl rfl (by rfl) (C163_thisa (D := pul [2, 3] D_35) (N := pul [2, 3] N_35) (HW_sub H (VS_of (show vsub V206 V163_thisa [2, 3] = true by decide +kernel))) (((((((hS_c147 2 0 rfl).trans (hS_c121 2 0 rfl)).trans ((show F32 2 0 = F31 2 0 from (eF32 2 0)))).trans ((show F31 2 0 = F29 2 0 from (eF31 2 0)))).trans ((show F29 2 0 = F_35 2 0 from (eF29 2 0))))).trans (pm35_3)) (m35_3) (em35_3) (y35_2_1) (((((((hS_c147 2 1 rfl).trans (hS_c121 2 1 rfl)).trans ((show F32 2 1 = F31 2 1 from (eF32 2 1)))).trans ((show F31 2 1 = F29 2 1 from (eF31 2 1)))).trans ((show F29 2 1 = F_35 2 1 from (eF29 2 1)))).trans (ey35_2_1))) (y35_2_2) (((((((hS_c147 2 2 rfl).trans (hS_c121 2 2 rfl)).trans ((show F32 2 2 = F31 2 2 from (eF32 2 2)))).trans ((show F31 2 2 = F29 2 2 from (eF31 2 2)))).trans ((show F29 2 2 = F_35 2 2 from (eF29 2 2)))).trans (ey35_2_2))) (w35_3) ((funext (hA_c147 3 rfl)).trans ((funext (hA_c121 3 rfl)).trans (((show A32 3 = A31 3 from (eA32 3))).trans (((show A31 3 = A29 3 from (eA31 3))).trans (((show A29 3 = A_35 3 from (eA29 3))).trans (ew35_3)))))) (show inr (tc147_0) by omega) (show inr (z32) by omega) (show inr (u2_1) by omega) (show 0 ≤ (y35_2_1) ∧ (y35_2_1) ≤ (m35_3) ∧ (m35_3) ≤ 65536 by omega) (show 0 ≤ (u2_1) ∧ (u2_1) ≤ (y35_2_1) by omega) (show (z32) < 0 ∨ 1 ≤ (tc147_0) ∧ (tc147_0) ≤ (y35_2_1) - (u2_1) by omega) (fun σ74 D74' N74' F74' A74' c74 s74 H' O' hD74 hN74 hS74 hA74 pm74_1 m74_1 em74_1 y74_0_1 ey74_0_1 y74_0_2 ey74_0_2 w74_1 ew74_1 pz74_0 pz74_1 pz74_2 pz74_3 pz74_4 => ⟨rfl, ?_⟩))
                          refine v_backM (c := c_35) (s := s_35) H (show vsub V206 V163_thisa [2, 3] = true by decide +kernel) H' O' hD74 (show vmov V206 [2, 3] [1] = true by decide +kernel) (fun D74 N74 F74 A74 H O' eD74 eN74 eF74 eA74 => ?_)
                          have O := OUT_trans O O'
                          -- Row.copyBack
                          have pf74_0_3 : F74 0 3 = (D74 1 : Int) := ((show F74 0 3 = F_c147 0 3 from (eF74 0 3))).trans ((((((((hS_c147 0 3 rfl).trans (hS_c121 0 3 rfl)).trans ((show F32 0 3 = F31 0 3 from (eF32 0 3)))).trans ((show F31 0 3 = F29 0 3 from (eF31 0 3)))).trans ((show F29 0 3 = F_35 0 3 from (eF29 0 3))))).trans (pf_35_0_3)).trans (congrArg (fun q : Nat => (q : Int)) ((show D74 1 = D_35 1 from (eD74 1))).symm))
                          have pf74_0_5 : F74 0 5 = (D74 2 : Int) := ((show F74 0 5 = F_c147 0 5 from (eF74 0 5))).trans ((((((((hS_c147 0 5 rfl).trans (hS_c121 0 5 rfl)).trans ((show F32 0 5 = F31 0 5 from (eF32 0 5)))).trans ((show F31 0 5 = F29 0 5 from (eF31 0 5)))).trans ((show F29 0 5 = F_35 0 5 from (eF29 0 5))))).trans (pf_35_0_5)).trans (congrArg (fun q : Nat => (q : Int)) ((show D74 2 = D_35 2 from (eD74 2).trans (hD74 0 rfl))).symm))
                          have pf74_2_0 : F74 2 0 = (D74 3 : Int) := (eF74 2 0).trans (pm74_1.trans (congrArg (fun q : Nat => (q : Int)) (eD74 3).symm))
                          have r75 : (0 : Int) ≤ m74_1 ∧ m74_1 ≤ 1000000 := by have h1 := H.nle 3 (by decide); have h2 : (N74 3 : Int) = m74_1 := (congrArg (fun q : Nat => (q : Int)) (eN74 3)).trans em74_1; omega
                          have r76 : (-2147483648 : Int) ≤ y74_0_1 ∧ y74_0_1 ≤ 2147483647 := by have h1 : (-2147483648 : Int) ≤ F74 2 1 ∧ F74 2 1 ≤ 2147483647 := H.krg 2 1 (by decide); rw [show F74 2 1 = y74_0_1 from ((eF74 2 1).trans ey74_0_1)] at h1; exact h1
                          have r77 : (0 : Int) ≤ y74_0_2 ∧ y74_0_2 ≤ 1 := by have h1 : (0 : Int) ≤ F74 2 2 ∧ F74 2 2 ≤ 1 := H.krg 2 2 (by decide); rw [show F74 2 2 = y74_0_2 from ((eF74 2 2).trans ey74_0_2)] at h1; exact h1
                          have hcb := pz74_4 (by omega)
                          have hsm1 : ∀ i, (0 : Int) ≤ i → i < (u2_1) → ((w74_1)) i = ((w3)) i := fun i x y => (pz74_2 i x (by omega)).trans (j35_s i x y)
                          have hbu := pz74_3
                          have : TYO (ub8 ((w1))) ((a2)) ((y7_0_7)) (q0) (((x35_6 + (1 + z29)))) (sc ((w74_1)) ((u2_1)) ((y74_0_1))) := ITO_s j35_o (TYs_c hTY (by omega) (by omega) (by omega) (by omega) (by omega) (by omega) (by rw [hCX, show (u2_1) = (u2_1) by omega]; exact hcb))
                          refine Ew_of (pc' := 294) (fun _ => x_goto rfl rfl) ?_
                          exact hc294  _ _ _ _ _ _ _ _ ((x35_6 + (1 + z29))) ((rk_o (rk2_o (lc147_0) rfl rfl) rfl rfl).trans (congrArg (fun q : Nat => some (Value.ref q)) (((show D74 0 = D_35 0 from (eD74 0)))).symm)) (rk_o (rk2_o (lc147_2) rfl rfl) rfl rfl) (rk_o (rk2_o (lc147_5) rfl rfl) rfl rfl) (rk_s) (rk_o (rk2_o (lc147_7) rfl rfl) rfl rfl) H O (SD_trans (SD_refl) (SD_glu (ι := [2, 3]) hD74 eD74 (by decide +kernel)) (any_subA (l' := [3]) rfl)) (SD_trans (SD_refl) (SD_glu (ι := [2, 3]) hN74 eN74 (by decide +kernel)) (any_subA (l' := [3]) rfl)) (SF_trans (SF_refl) (SF_glu (ι := [2, 3]) hS74 eF74 (by decide +kernel)) (any_sub (l' := [(2, 0), (2, 1), (2, 2)]) rfl)) (SA_trans (SA_refl) (SA_glu (ι := [2, 3]) hA74 eA74 (by decide +kernel)) (any_subA (l' := [3]) rfl)) (pf74_2_0) (m74_1) ((congrArg (fun q : Nat => (q : Int)) (eN74 3)).trans em74_1) (y74_0_1) (((eF74 2 1).trans ey74_0_1)) (y74_0_2) (((eF74 2 2).trans ey74_0_2)) (w74_1) ((eA74 3).trans ew74_1) (show inr ((x35_6 + (1 + z29))) by omega) (show 0 ≤ ((x35_6 + (1 + z29))) ∧ ((x35_6 + (1 + z29))) ≤ (a2) by omega) (show 0 ≤ (y74_0_1) ∧ (y74_0_1) ≤ (m74_1) ∧ (m74_1) ≤ 65536 by omega) (show (u2_1) ≤ (y74_0_1) ∧ (u2_1) = (u2_1) by omega) (show (y74_0_1) - (u2_1) ≤ (y7_0_7) by omega) (show (y74_0_2) = 0 by omega) (show (x35_7) + 1 ≤ ((x35_6 + (1 + z29))) by omega) (show TYO (ub8 ((w1))) ((a2)) ((y7_0_7)) (q0) (((x35_6 + (1 + z29)))) (sc ((w74_1)) ((u2_1)) ((y74_0_1))) by assumption) (show ∀ i, (0 : Int) ≤ i → i < (u2_1) → ((w74_1)) i = ((w3)) i by assumption)
                      · refine Ew_of (pc' := 209) (fun _ => x_aload_n rfl (rk2_o (lc147_0) rfl rfl)) ?_
                        refine Ew_of (pc' := 210) (fun _ => x_iconst rfl) ?_
                        refine Ew_of (pc' := 212) (fun _ => x_iload rfl (rk2_o (lc147_6) rfl rfl)) ?_
                        refine v_inv H (o := 0) rfl rfl rfl rfl rfl rfl (by rfl) (C203 (D := pul [0] D_35) (N := pul [0] N_35) (HW_sub H (VS_of (show vsub V206 V203 [0] = true by decide +kernel))) (y7_0_8) ((((((((hS_c147 0 8 rfl).trans (hS_c121 0 8 rfl)).trans ((show F32 0 8 = F31 0 8 from (eF32 0 8)))).trans ((show F31 0 8 = F29 0 8 from (eF31 0 8)))).trans ((show F29 0 8 = F_35 0 8 from (eF29 0 8)))).trans (hS_35 0 8 rfl)).trans ((eF7 0 8).trans ey7_0_8))) (show inr (5) by omega) (show inr (x35_6) by omega) (fun z78 σ78 F78' A78' H' O' hS78 hA78 y78_0_8 ey78_0_8 pz78_0 pz78_1 pz78_2 => ⟨rfl, ?_⟩))
                        refine v_back (c := c_35) (s := s_35) H (show vsub V206 V203 [0] = true by decide +kernel) H' O' (fun F78 A78 H O' eF78 eA78 => ?_)
                        have O := OUT_trans O O'
                        -- Tags.fail
                        have r79 : (-2147483648 : Int) ≤ y78_0_8 ∧ y78_0_8 ≤ 2147483647 := by have h1 : (-2147483648 : Int) ≤ F78 0 8 ∧ F78 0 8 ≤ 2147483647 := H.krg 0 8 (by decide); rw [show F78 0 8 = y78_0_8 from ((eF78 0 8).trans ey78_0_8)] at h1; exact h1
                        have : IMP ((z78) ≠ 0) (TYB (ub8 ((w1))) ((a2)) ((a1)) ((a3)) ((z78), (y78_0_8), [])) := fun z => ⟨0, 0, _, _, hLQ, .inr ⟨rfl, ITO_e j35_o (TYt_5 hTY (by omega) (by omega) (by omega) (by omega) (by omega) (by omega))⟩⟩
                        have : IMP ((z78) = 0) (TYB (ub8 ((w1))) ((a2)) ((a1)) ((a3)) (0, (a2), sc ((w35_3)) ((u2_1)) ((y35_2_1)))) := fun z => absurd z (by omega)
                        exact w_ireturn rfl (k (z78) _ _ _ _ _ _ _ H O (SD_trans (SD_refl) hD_35 (any_subA rfl)) (SD_trans (SD_refl) hN_35 (any_subA rfl)) (SF_trans (SF_trans (SF_trans (SF_trans (SF_trans (SF_trans (SF_trans (SF_trans (SF_refl) (SF_glu (ι := [0, 1]) hS7 eF7 (by decide +kernel)) (any_sub (l' := [(0, 7), (0, 8)]) rfl)) hS_35 (any_sub rfl)) (SF_glu (ι := []) hS29 eF29 (by decide +kernel)) (any_sub (l' := []) rfl)) (SF_glu (ι := [1]) hS31 eF31 (by decide +kernel)) (any_sub (l' := []) rfl)) (SF_glu (ι := []) hS32 eF32 (by decide +kernel)) (any_sub (l' := []) rfl)) hS_c121 (any_sub rfl)) hS_c147 (any_sub rfl)) (SF_glu (ι := [0]) hS78 eF78 (by decide +kernel)) (any_sub (l' := [(0, 8)]) rfl)) (SA_trans (SA_trans (SA_trans (SA_trans (SA_trans (SA_trans (SA_trans (SA_trans (SA_refl) (SA_glu (ι := [0, 1]) hA7 eA7 (by decide +kernel)) (any_subA (l' := []) rfl)) hA_35 (any_subA rfl)) (SA_glu (ι := []) hA29 eA29 (by decide +kernel)) (any_subA (l' := []) rfl)) (SA_glu (ι := [1]) hA31 eA31 (by decide +kernel)) (any_subA (l' := []) rfl)) (SA_glu (ι := []) hA32 eA32 (by decide +kernel)) (any_subA (l' := []) rfl)) hA_c121 (any_subA rfl)) hA_c147 (any_subA rfl)) (SA_glu (ι := [0]) hA78 eA78 (by decide +kernel)) (any_subA (l' := []) rfl)) (((((((((show F78 2 0 = F_c147 2 0 from (eF78 2 0))).trans (hS_c147 2 0 rfl)).trans (hS_c121 2 0 rfl)).trans ((show F32 2 0 = F31 2 0 from (eF32 2 0)))).trans ((show F31 2 0 = F29 2 0 from (eF31 2 0)))).trans ((show F29 2 0 = F_35 2 0 from (eF29 2 0))))).trans (pm35_3)) (m35_3) (em35_3) (y78_0_8) (((eF78 0 8).trans ey78_0_8)) (y35_2_1) (((((((((show F78 2 1 = F_c147 2 1 from (eF78 2 1))).trans (hS_c147 2 1 rfl)).trans (hS_c121 2 1 rfl)).trans ((show F32 2 1 = F31 2 1 from (eF32 2 1)))).trans ((show F31 2 1 = F29 2 1 from (eF31 2 1)))).trans ((show F29 2 1 = F_35 2 1 from (eF29 2 1)))).trans (ey35_2_1))) (y35_2_2) (((((((((show F78 2 2 = F_c147 2 2 from (eF78 2 2))).trans (hS_c147 2 2 rfl)).trans (hS_c121 2 2 rfl)).trans ((show F32 2 2 = F31 2 2 from (eF32 2 2)))).trans ((show F31 2 2 = F29 2 2 from (eF31 2 2)))).trans ((show F29 2 2 = F_35 2 2 from (eF29 2 2)))).trans (ey35_2_2))) (w35_3) (((show A78 3 = A_c147 3 from (eA78 3))).trans ((funext (hA_c147 3 rfl)).trans ((funext (hA_c121 3 rfl)).trans (((show A32 3 = A31 3 from (eA32 3))).trans (((show A31 3 = A29 3 from (eA31 3))).trans (((show A29 3 = A_35 3 from (eA29 3))).trans (ew35_3))))))) (show inr (z78) by omega) (show 0 ≤ (z78) ∧ (z78) ≤ 6 by omega) (show 0 ≤ (y35_2_1) ∧ (y35_2_1) ≤ (m35_3) ∧ (m35_3) ≤ 65536 by omega) (show (u2_1) ≤ (y35_2_1) by omega) (show (y35_2_1) ≤ (u2_1) + a3 ∨ (y35_2_1) = (u2_1) by omega) (show (y35_2_2) = 0 by omega) (show IMP ((z78) ≠ 0) (TYB (ub8 ((w1))) (a2) (a1) (a3) ((z78), (y78_0_8), [])) by assumption) (show IMP ((z78) = 0) (TYB (ub8 ((w1))) (a2) (a1) (a3) (0, a2, sc ((w35_3)) ((u2_1)) ((y35_2_1)))) by assumption) (show ∀ i, (0 : Int) ≤ i → i < (u2_1) → ((w35_3)) i = ((w3)) i by assumption) (show (z78) ≠ 0 ∨ (y78_0_8) = a2 by omega))
                    · refine Ew_of (pc' := 179) (fun _ => x_aload_n rfl (rk2_o (lc147_0) rfl rfl)) ?_
                      refine Ew_of (pc' := 180) (fun _ => x_iconst rfl) ?_
                      refine Ew_of (pc' := 182) (fun _ => x_iload rfl (rk2_o (lc147_6) rfl rfl)) ?_
                      refine v_inv H (o := 0) rfl rfl rfl rfl rfl rfl (by rfl) (C203 (D := pul [0] D_35) (N := pul [0] N_35) (HW_sub H (VS_of (show vsub V206 V203 [0] = true by decide +kernel))) (y7_0_8) ((((((((hS_c147 0 8 rfl).trans (hS_c121 0 8 rfl)).trans ((show F32 0 8 = F31 0 8 from (eF32 0 8)))).trans ((show F31 0 8 = F29 0 8 from (eF31 0 8)))).trans ((show F29 0 8 = F_35 0 8 from (eF29 0 8)))).trans (hS_35 0 8 rfl)).trans ((eF7 0 8).trans ey7_0_8))) (show inr (4) by omega) (show inr (x35_6) by omega) (fun z80 σ80 F80' A80' H' O' hS80 hA80 y80_0_8 ey80_0_8 pz80_0 pz80_1 pz80_2 => ⟨rfl, ?_⟩))
                      refine v_back (c := c_35) (s := s_35) H (show vsub V206 V203 [0] = true by decide +kernel) H' O' (fun F80 A80 H O' eF80 eA80 => ?_)
                      have O := OUT_trans O O'
                      -- Tags.fail
                      have r81 : (-2147483648 : Int) ≤ y80_0_8 ∧ y80_0_8 ≤ 2147483647 := by have h1 : (-2147483648 : Int) ≤ F80 0 8 ∧ F80 0 8 ≤ 2147483647 := H.krg 0 8 (by decide); rw [show F80 0 8 = y80_0_8 from ((eF80 0 8).trans ey80_0_8)] at h1; exact h1
                      have : IMP ((z80) ≠ 0) (TYB (ub8 ((w1))) ((a2)) ((a1)) ((a3)) ((z80), (y80_0_8), [])) := fun z => ⟨0, 0, _, _, hLQ, .inr ⟨rfl, ITO_e j35_o (TYt_4 hTY (by omega) (by omega) (by omega) (by omega) (by omega) (by omega))⟩⟩
                      have : IMP ((z80) = 0) (TYB (ub8 ((w1))) ((a2)) ((a1)) ((a3)) (0, (a2), sc ((w35_3)) ((u2_1)) ((y35_2_1)))) := fun z => absurd z (by omega)
                      exact w_ireturn rfl (k (z80) _ _ _ _ _ _ _ H O (SD_trans (SD_refl) hD_35 (any_subA rfl)) (SD_trans (SD_refl) hN_35 (any_subA rfl)) (SF_trans (SF_trans (SF_trans (SF_trans (SF_trans (SF_trans (SF_trans (SF_trans (SF_refl) (SF_glu (ι := [0, 1]) hS7 eF7 (by decide +kernel)) (any_sub (l' := [(0, 7), (0, 8)]) rfl)) hS_35 (any_sub rfl)) (SF_glu (ι := []) hS29 eF29 (by decide +kernel)) (any_sub (l' := []) rfl)) (SF_glu (ι := [1]) hS31 eF31 (by decide +kernel)) (any_sub (l' := []) rfl)) (SF_glu (ι := []) hS32 eF32 (by decide +kernel)) (any_sub (l' := []) rfl)) hS_c121 (any_sub rfl)) hS_c147 (any_sub rfl)) (SF_glu (ι := [0]) hS80 eF80 (by decide +kernel)) (any_sub (l' := [(0, 8)]) rfl)) (SA_trans (SA_trans (SA_trans (SA_trans (SA_trans (SA_trans (SA_trans (SA_trans (SA_refl) (SA_glu (ι := [0, 1]) hA7 eA7 (by decide +kernel)) (any_subA (l' := []) rfl)) hA_35 (any_subA rfl)) (SA_glu (ι := []) hA29 eA29 (by decide +kernel)) (any_subA (l' := []) rfl)) (SA_glu (ι := [1]) hA31 eA31 (by decide +kernel)) (any_subA (l' := []) rfl)) (SA_glu (ι := []) hA32 eA32 (by decide +kernel)) (any_subA (l' := []) rfl)) hA_c121 (any_subA rfl)) hA_c147 (any_subA rfl)) (SA_glu (ι := [0]) hA80 eA80 (by decide +kernel)) (any_subA (l' := []) rfl)) (((((((((show F80 2 0 = F_c147 2 0 from (eF80 2 0))).trans (hS_c147 2 0 rfl)).trans (hS_c121 2 0 rfl)).trans ((show F32 2 0 = F31 2 0 from (eF32 2 0)))).trans ((show F31 2 0 = F29 2 0 from (eF31 2 0)))).trans ((show F29 2 0 = F_35 2 0 from (eF29 2 0))))).trans (pm35_3)) (m35_3) (em35_3) (y80_0_8) (((eF80 0 8).trans ey80_0_8)) (y35_2_1) (((((((((show F80 2 1 = F_c147 2 1 from (eF80 2 1))).trans (hS_c147 2 1 rfl)).trans (hS_c121 2 1 rfl)).trans ((show F32 2 1 = F31 2 1 from (eF32 2 1)))).trans ((show F31 2 1 = F29 2 1 from (eF31 2 1)))).trans ((show F29 2 1 = F_35 2 1 from (eF29 2 1)))).trans (ey35_2_1))) (y35_2_2) (((((((((show F80 2 2 = F_c147 2 2 from (eF80 2 2))).trans (hS_c147 2 2 rfl)).trans (hS_c121 2 2 rfl)).trans ((show F32 2 2 = F31 2 2 from (eF32 2 2)))).trans ((show F31 2 2 = F29 2 2 from (eF31 2 2)))).trans ((show F29 2 2 = F_35 2 2 from (eF29 2 2)))).trans (ey35_2_2))) (w35_3) (((show A80 3 = A_c147 3 from (eA80 3))).trans ((funext (hA_c147 3 rfl)).trans ((funext (hA_c121 3 rfl)).trans (((show A32 3 = A31 3 from (eA32 3))).trans (((show A31 3 = A29 3 from (eA31 3))).trans (((show A29 3 = A_35 3 from (eA29 3))).trans (ew35_3))))))) (show inr (z80) by omega) (show 0 ≤ (z80) ∧ (z80) ≤ 6 by omega) (show 0 ≤ (y35_2_1) ∧ (y35_2_1) ≤ (m35_3) ∧ (m35_3) ≤ 65536 by omega) (show (u2_1) ≤ (y35_2_1) by omega) (show (y35_2_1) ≤ (u2_1) + a3 ∨ (y35_2_1) = (u2_1) by omega) (show (y35_2_2) = 0 by omega) (show IMP ((z80) ≠ 0) (TYB (ub8 ((w1))) (a2) (a1) (a3) ((z80), (y80_0_8), [])) by assumption) (show IMP ((z80) = 0) (TYB (ub8 ((w1))) (a2) (a1) (a3) (0, a2, sc ((w35_3)) ((u2_1)) ((y35_2_1)))) by assumption) (show ∀ i, (0 : Int) ≤ i → i < (u2_1) → ((w35_3)) i = ((w3)) i by assumption) (show (z80) ≠ 0 ∨ (y80_0_8) = a2 by omega))
              refine Ew_of (pc' := 125) (fun _ => x_iload rfl (rk_o (lc121_8) rfl rfl)) ?_
              refine Ew_of (pc' := 126) (fun _ => x_iconst rfl) ?_
              refine w_iandE rfl (show inr ((v28 % 256)) by omega) (show inr (3) by omega) (fun z82 gz82 gaz82 gbz82 gez82 => ?_)
              have hg4 := gez82
              have h4 : (z82) = ((v28 % 256)) % 4 := by rw [← andI_3]; exact hg4.symm
              refine Ew_of (pc' := 128) (fun _ => x_iconst rfl) ?_
              refine w_icmpne (t := 145) rfl rfl (show inr (z82) by omega) (show inr (1) by omega) (fun b83 => ?_) (fun b83 => ?_)
              · refine Ew_of (pc' := 147) (fun _ => x_lload rfl (rk_o (lc121_10) rfl rfl)) ?_
                have hed := TEd_eq (q8) (q10)
                have : (z31) = TEd (q8) (q10) := by omega
                exact hc147 (z31) _ _ _ _  (rk_o (lc121_0) rfl rfl) (rk_o (lc121_2) rfl rfl) (rk_o (lc121_5) rfl rfl) (rk_o (lc121_6) rfl rfl) (rk_o (lc121_7) rfl rfl) (rk_o (lc121_9) rfl rfl) (rk_o (lc121_12) rfl rfl) (rk_s) H O (SF_refl) (SA_refl)     (show inrJ (z31) by omega) (show 0 ≤ (z31) ∧ (z31) ≤ 4294969343 by omega) (show (z31) = TEd (q8) (q10) by assumption)
              · refine Ew_of (pc' := 133) (fun _ => x_lload rfl (rk_o (lc121_10) rfl rfl)) ?_
                refine Ew_of (pc' := 135) (fun _ => x_iload rfl (rk_o (lc121_8) rfl rfl)) ?_
                refine Ew_of (pc' := 136) (fun _ => x_iconst rfl) ?_
                refine w_ishrK 5 32 (by decide) (by decide) rfl (show inr ((v28 % 256)) by omega) (fun z84 gz84 dz84 => ?_)
                refine Ew_of (pc' := 139) (fun _ => x_bipush (z := 8) rfl (by decide)) ?_
                refine w_ishlK 8 256 (by decide) (by decide) rfl (fun z85 gz85 dz85 => ?_)
                refine w_i2l rfl (show inr (z85) by omega) ?_
                refine w_ladd rfl ?_
                refine Ew_of (pc' := 147) (fun _ => x_goto rfl rfl) ?_
                have hed := TEd_eq (q8) (q10)
                have : ((z31 + z85)) = TEd (q8) (q10) := by omega
                exact hc147 ((z31 + z85)) _ _ _ _  (rk_o (lc121_0) rfl rfl) (rk_o (lc121_2) rfl rfl) (rk_o (lc121_5) rfl rfl) (rk_o (lc121_6) rfl rfl) (rk_o (lc121_7) rfl rfl) (rk_o (lc121_9) rfl rfl) (rk_o (lc121_12) rfl rfl) (rk_s) H O (SF_refl) (SA_refl)     (show inrJ ((z31 + z85)) by omega) (show 0 ≤ ((z31 + z85)) ∧ ((z31 + z85)) ≤ 4294969343 by omega) (show ((z31 + z85)) = TEd (q8) (q10) by assumption)
            refine Ew_of (pc' := 111) (fun _ => x_iload rfl (rk2_o (rk2_o (rk_o (rk_s) rfl rfl) rfl rfl) rfl rfl)) ?_
            refine Ew_of (pc' := 112) (fun _ => x_iconst rfl) ?_
            refine w_iandE rfl (show inr ((v28 % 256)) by omega) (show inr (3) by omega) (fun z86 gz86 gaz86 gbz86 gez86 => ?_)
            have hg3 := gez86
            have h3 : (z86) = ((v28 % 256)) % 4 := by rw [← andI_3]; exact hg3.symm
            refine w_ifeq (t := 120) rfl rfl (show inr (z86) by omega) (fun b87 => ?_) (fun b87 => ?_)
            · refine Ew_of (pc' := 121) (fun _ => x_iconst rfl) ?_
              exact hc121 (0) _ _ _ _  (rk2_o (rk2_o (rk_o (rk_o (l35_0) rfl rfl) rfl rfl) rfl rfl) rfl rfl) (rk2_o (rk2_o (rk_o (rk_o (l35_2) rfl rfl) rfl rfl) rfl rfl) rfl rfl) (rk2_o (rk2_o (rk_o (rk_o (l35_5) rfl rfl) rfl rfl) rfl rfl) rfl rfl) (rk2_o (rk2_o (rk_o (rk_o (l35_6) rfl rfl) rfl rfl) rfl rfl) rfl rfl) (rk2_o (rk2_o (rk_o (rk_o (l35_7) rfl rfl) rfl rfl) rfl rfl) rfl rfl) (rk2_o (rk2_o (rk_o (rk_s) rfl rfl) rfl rfl) rfl rfl) (rk2_o (rk2_o (rk_s) rfl rfl) rfl rfl) (rk2_o (rk2_s) rfl rfl) (rk2_s) H O (SF_refl) (SA_refl)     (show inr (0) by omega) (show (0) = 1 ∧ ((v28 % 256)) % 4 ≠ 0 ∨ (0) = 0 ∧ ((v28 % 256)) % 4 = 0 by omega)
            · refine Ew_of (pc' := 117) (fun _ => x_iconst rfl) ?_
              refine Ew_of (pc' := 121) (fun _ => x_goto rfl rfl) ?_
              exact hc121 (1) _ _ _ _  (rk2_o (rk2_o (rk_o (rk_o (l35_0) rfl rfl) rfl rfl) rfl rfl) rfl rfl) (rk2_o (rk2_o (rk_o (rk_o (l35_2) rfl rfl) rfl rfl) rfl rfl) rfl rfl) (rk2_o (rk2_o (rk_o (rk_o (l35_5) rfl rfl) rfl rfl) rfl rfl) rfl rfl) (rk2_o (rk2_o (rk_o (rk_o (l35_6) rfl rfl) rfl rfl) rfl rfl) rfl rfl) (rk2_o (rk2_o (rk_o (rk_o (l35_7) rfl rfl) rfl rfl) rfl rfl) rfl rfl) (rk2_o (rk2_o (rk_o (rk_s) rfl rfl) rfl rfl) rfl rfl) (rk2_o (rk2_o (rk_s) rfl rfl) rfl rfl) (rk2_o (rk2_s) rfl rfl) (rk2_s) H O (SF_refl) (SA_refl)     (show inr (1) by omega) (show (1) = 1 ∧ ((v28 % 256)) % 4 ≠ 0 ∨ (1) = 0 ∧ ((v28 % 256)) % 4 = 0 by omega)
          · refine Ew_of (pc' := 79) (fun _ => x_aload_n rfl (rk_o (rk_o (l35_0) rfl rfl) rfl rfl)) ?_
            refine Ew_of (pc' := 80) (fun _ => x_iconst rfl) ?_
            refine Ew_of (pc' := 81) (fun _ => x_iload_n rfl (rk_o (rk_o (l35_2) rfl rfl) rfl rfl)) ?_
            refine v_inv H (o := 0) rfl rfl rfl rfl rfl rfl (by rfl) (C203 (D := pul [0] D_35) (N := pul [0] N_35) (HW_sub H (VS_of (show vsub V206 V203 [0] = true by decide +kernel))) (y7_0_8) (((((show F29 0 8 = F_35 0 8 from (eF29 0 8))).trans (hS_35 0 8 rfl)).trans ((eF7 0 8).trans ey7_0_8))) (show inr (1) by omega) (show inr (a2) by omega) (fun z88 σ88 F88' A88' H' O' hS88 hA88 y88_0_8 ey88_0_8 pz88_0 pz88_1 pz88_2 => ⟨rfl, ?_⟩))
            refine v_back (c := c_35) (s := s_35) H (show vsub V206 V203 [0] = true by decide +kernel) H' O' (fun F88 A88 H O' eF88 eA88 => ?_)
            have O := OUT_trans O O'
            -- Tags.fail
            have r89 : (-2147483648 : Int) ≤ y88_0_8 ∧ y88_0_8 ≤ 2147483647 := by have h1 : (-2147483648 : Int) ≤ F88 0 8 ∧ F88 0 8 ≤ 2147483647 := H.krg 0 8 (by decide); rw [show F88 0 8 = y88_0_8 from ((eF88 0 8).trans ey88_0_8)] at h1; exact h1
            have : IMP ((z88) ≠ 0) (TYB (ub8 ((w1))) ((a2)) ((a1)) ((a3)) ((z88), (y88_0_8), [])) := fun z => ⟨0, 0, _, _, hLQ, .inr ⟨rfl, ITO_e j35_o (TYt_1 htg hbh.symm (by omega) (by omega) (by omega) (by omega))⟩⟩
            have : IMP ((z88) = 0) (TYB (ub8 ((w1))) ((a2)) ((a1)) ((a3)) (0, (a2), sc ((w35_3)) ((u2_1)) ((y35_2_1)))) := fun z => absurd z (by omega)
            exact w_ireturn rfl (k (z88) _ _ _ _ _ _ _ H O (SD_trans (SD_refl) hD_35 (any_subA rfl)) (SD_trans (SD_refl) hN_35 (any_subA rfl)) (SF_trans (SF_trans (SF_trans (SF_trans (SF_refl) (SF_glu (ι := [0, 1]) hS7 eF7 (by decide +kernel)) (any_sub (l' := [(0, 7), (0, 8)]) rfl)) hS_35 (any_sub rfl)) (SF_glu (ι := []) hS29 eF29 (by decide +kernel)) (any_sub (l' := []) rfl)) (SF_glu (ι := [0]) hS88 eF88 (by decide +kernel)) (any_sub (l' := [(0, 8)]) rfl)) (SA_trans (SA_trans (SA_trans (SA_trans (SA_refl) (SA_glu (ι := [0, 1]) hA7 eA7 (by decide +kernel)) (any_subA (l' := []) rfl)) hA_35 (any_subA rfl)) (SA_glu (ι := []) hA29 eA29 (by decide +kernel)) (any_subA (l' := []) rfl)) (SA_glu (ι := [0]) hA88 eA88 (by decide +kernel)) (any_subA (l' := []) rfl)) (((((show F88 2 0 = F29 2 0 from (eF88 2 0))).trans ((show F29 2 0 = F_35 2 0 from (eF29 2 0))))).trans (pm35_3)) (m35_3) (em35_3) (y88_0_8) (((eF88 0 8).trans ey88_0_8)) (y35_2_1) (((((show F88 2 1 = F29 2 1 from (eF88 2 1))).trans ((show F29 2 1 = F_35 2 1 from (eF29 2 1)))).trans (ey35_2_1))) (y35_2_2) (((((show F88 2 2 = F29 2 2 from (eF88 2 2))).trans ((show F29 2 2 = F_35 2 2 from (eF29 2 2)))).trans (ey35_2_2))) (w35_3) (((show A88 3 = A29 3 from (eA88 3))).trans (((show A29 3 = A_35 3 from (eA29 3))).trans (ew35_3))) (show inr (z88) by omega) (show 0 ≤ (z88) ∧ (z88) ≤ 6 by omega) (show 0 ≤ (y35_2_1) ∧ (y35_2_1) ≤ (m35_3) ∧ (m35_3) ≤ 65536 by omega) (show (u2_1) ≤ (y35_2_1) by omega) (show (y35_2_1) ≤ (u2_1) + a3 ∨ (y35_2_1) = (u2_1) by omega) (show (y35_2_2) = 0 by omega) (show IMP ((z88) ≠ 0) (TYB (ub8 ((w1))) (a2) (a1) (a3) ((z88), (y88_0_8), [])) by assumption) (show IMP ((z88) = 0) (TYB (ub8 ((w1))) (a2) (a1) (a3) (0, a2, sc ((w35_3)) ((u2_1)) ((y35_2_1)))) by assumption) (show ∀ i, (0 : Int) ≤ i → i < (u2_1) → ((w35_3)) i = ((w3)) i by assumption) (show (z88) ≠ 0 ∨ (y88_0_8) = a2 by omega))
  · refine Ew_of (pc' := 16) (fun _ => x_iload rfl rk_s) ?_
    have : IMP ((z7) ≠ 0) (TYB (ub8 ((w1))) ((a2)) ((a1)) ((a3)) ((z7), (y7_0_8), [])) := fun z => ⟨_, _, _, _, hLf z, .inl ⟨z, rfl⟩⟩
    have : IMP ((z7) = 0) (TYB (ub8 ((w1))) ((a2)) ((a1)) ((a3)) (0, (a2), sc ((w3)) ((u2_1)) ((u2_1)))) := fun z => absurd z (by omega)
    have : ∀ i, (0 : Int) ≤ i → i < (u2_1) → ((w3)) i = ((w3)) i := fun i x y => rfl
    exact w_ireturn rfl (k (z7) _ _ _ _ _ _ _ H O (SD_refl) (SD_refl) (SF_trans (SF_refl) (SF_glu (ι := [0, 1]) hS7 eF7 (by decide +kernel)) (any_sub (l' := [(0, 7), (0, 8)]) rfl)) (SA_trans (SA_refl) (SA_glu (ι := [0, 1]) hA7 eA7 (by decide +kernel)) (any_subA (l' := []) rfl)) ((((show F7 2 0 = F 2 0 from (eF7 2 0)))).trans (pf3)) (n3) (en3) (y7_0_8) (((eF7 0 8).trans ey7_0_8)) (u2_1) ((((show F7 2 1 = F 2 1 from (eF7 2 1))).trans (eu2_1))) (u2_2) ((((show F7 2 2 = F 2 2 from (eF7 2 2))).trans (eu2_2))) (w3) (((show A7 3 = A 3 from (eA7 3))).trans (ew3)) (show inr (z7) by omega) (show 0 ≤ (z7) ∧ (z7) ≤ 6 by omega) (show 0 ≤ (u2_1) ∧ (u2_1) ≤ (n3) ∧ (n3) ≤ 65536 by omega) (show (u2_1) ≤ (u2_1) by omega) (show (u2_1) ≤ (u2_1) + a3 ∨ (u2_1) = (u2_1) by omega) (show (u2_2) = 0 by omega) (show IMP ((z7) ≠ 0) (TYB (ub8 ((w1))) (a2) (a1) (a3) ((z7), (y7_0_8), [])) by assumption) (show IMP ((z7) = 0) (TYB (ub8 ((w1))) (a2) (a1) (a3) (0, a2, sc ((w3)) ((u2_1)) ((u2_1)))) by assumption) (show ∀ i, (0 : Int) ≤ i → i < (u2_1) → ((w3)) i = ((w3)) i by assumption) (show (z7) ≠ 0 ∨ (y7_0_8) = a2 by omega))
abbrev V205_Row_Row : vV := [(0, 10, [(4, 0), (4, 0), (4, 0), (4, 0), (0, 0), (4, 0), (0, 0), (2, 0), (0, 0)]), (0, 7, [(4, 0), (0, 0), (1, 0), (0, 0), (0, 0)]), (0, 7, [(4, 0), (0, 0), (1, 0), (0, 0), (0, 0)]), (1, 0, []), (1, 0, [])]
/-- Tags.unpackAlone: this, #1, #2, #1.bytes, #2.bytes -/
theorem C205_Row_Row {σE : rS} {D N : Nat → Nat} {F : hF} {A : hA} {d c s : Nat} {Q : wQ} (H : HW V205_Row_Row σE D N F A) {a3 : Int} (pf3 : F 1 0 = (D 3 : Int)) (pf4 : F 2 0 = (D 4 : Int)) (n3 : Int) (en3 : (N 3 : Int) = n3) (n4 : Int) (en4 : (N 4 : Int) = n4) (u0_8 : Int) (eu0_8 : F 0 8 = u0_8) (u1_1 : Int) (eu1_1 : F 1 1 = u1_1) (u2_1 : Int) (eu2_1 : F 2 1 = u2_1) (u2_2 : Int) (eu2_2 : F 2 2 = u2_2) (w3 : Int → Int) (ew3 : A 3 = w3) (w4 : Int → Int) (ew4 : A 4 = w4) (h0 : inr (a3)) (h1 : 0 ≤ (u1_1) ∧ (u1_1) ≤ (n3) ∧ (n3) ≤ 65536) (h2 : 0 ≤ (u2_1) ∧ (u2_1) ≤ (n4) ∧ (n4) ≤ 65536) (h3 : 0 ≤ (a3) ∧ (a3) ≤ 65536) (h4 : (u2_1) = 0 ∧ (u2_2) = 0) (k : ∀ (z : Int) (σ : rS) (D' N' : Nat → Nat) (F' : hF) (A' : hA) (c' s' : Nat), HW V205_Row_Row σ D' N' F' A' → OUT (V205_Row_Row).length D N σE c s D' N' σ c' s' → SD [4] D D' → SD [4] N N' → SF [(0, 3), (0, 4), (0, 5), (0, 6), (0, 7), (0, 8), (2, 0), (2, 1), (2, 2)] F F' → SA [4] A A' → F' 2 0 = (D' 4 : Int) → ∀ m4 : Int, (N' 4 : Int) = m4 → ∀ y0_8 : Int, F' 0 8 = y0_8 → ∀ y2_1 : Int, F' 2 1 = y2_1 → ∀ y2_2 : Int, F' 2 2 = y2_2 → ∀ v4 : Int → Int, A' 4 = v4 → (inr (z)) → (0 ≤ (z) ∧ (z) ≤ 6) → (0 ≤ (y2_1) ∧ (y2_1) ≤ (m4) ∧ (m4) ≤ 65536) → ((y2_2) = 0) → (IMP ((z) ≠ 0) (TYB (ub8 ((w3))) ((u1_1)) 0 ((a3)) ((z), (y0_8), []))) → (IMP ((z) = 0) (TYB (ub8 ((w3))) ((u1_1)) 0 ((a3)) (0, (u1_1), sc ((v4)) 0 ((y2_1))))) → ((z) ≠ 0 ∨ (y0_8) = (u1_1)) → Q (some (I z)) σ c' s') : Ew 205 (d + 4) 0 (rargs 0 [.ref (D 0), .ref (D 1), .ref (D 2), I a3]) [] σE c s Q := by
  have O := OUT_refl (n := (V205_Row_Row).length) (D := D) (N := N) (σ := σE) (c := c) (s := s)
  have HE := H
  have r1 : (-2147483648 : Int) ≤ u0_8 ∧ u0_8 ≤ 2147483647 := by have h1 : (-2147483648 : Int) ≤ F 0 8 ∧ F 0 8 ≤ 2147483647 := H.krg 0 8 (by decide); rw [show F 0 8 = u0_8 from (eu0_8)] at h1; exact h1
  have r2 : (-2147483648 : Int) ≤ u1_1 ∧ u1_1 ≤ 2147483647 := by have h1 : (-2147483648 : Int) ≤ F 1 1 ∧ F 1 1 ≤ 2147483647 := H.krg 1 1 (by decide); rw [show F 1 1 = u1_1 from (eu1_1)] at h1; exact h1
  have r3 : (-2147483648 : Int) ≤ u2_1 ∧ u2_1 ≤ 2147483647 := by have h1 : (-2147483648 : Int) ≤ F 2 1 ∧ F 2 1 ≤ 2147483647 := H.krg 2 1 (by decide); rw [show F 2 1 = u2_1 from (eu2_1)] at h1; exact h1
  have r4 : (0 : Int) ≤ u2_2 ∧ u2_2 ≤ 1 := by have h1 : (0 : Int) ≤ F 2 2 ∧ F 2 2 ≤ 1 := H.krg 2 2 (by decide); rw [show F 2 2 = u2_2 from (eu2_2)] at h1; exact h1
  have r5 : (0 : Int) ≤ n3 ∧ n3 ≤ 1000000 := by have h1 := H.nle 3 (by decide); have h2 : (N 3 : Int) = n3 := en3; omega
  have r6 : (0 : Int) ≤ n4 ∧ n4 ≤ 1000000 := by have h1 := H.nle 4 (by decide); have h2 : (N 4 : Int) = n4 := en4; omega
  refine Ew_of (pc' := 1) (fun _ => x_aload_n rfl rfl) ?_
  refine Ew_of (pc' := 2) (fun _ => x_aload_n rfl rfl) ?_
  refine Ew_of (pc' := 3) (fun _ => x_aload_n rfl rfl) ?_
  refine Ew_of (pc' := 4) (fun _ => x_iload_n rfl rfl) ?_
  have r7 : (-2147483648 : Int) ≤ F 0 4 ∧ F 0 4 ≤ 2147483647 := by have h1 : (-2147483648 : Int) ≤ F 0 4 ∧ F 0 4 ≤ 2147483647 := H.krg 0 4 (by decide); rw [show F 0 4 = F 0 4 from rfl] at h1; exact h1
  have r8 : (-2147483648 : Int) ≤ F 0 6 ∧ F 0 6 ≤ 2147483647 := by have h1 : (-2147483648 : Int) ≤ F 0 6 ∧ F 0 6 ≤ 2147483647 := H.krg 0 6 (by decide); rw [show F 0 6 = F 0 6 from rfl] at h1; exact h1
  refine v_inv H (o := 0) rfl rfl rfl rfl rfl rfl (by rfl) (C204_Row_Row (D := pul [0, 1, 2, 3] D) (N := pul [0, 1, 2, 3] N) (HW_sub H (VS_of (show vsub V205_Row_Row V204_Row_Row [0, 1, 2, 3] = true by decide +kernel))) (pf3) (n3) (en3) (F 0 4) (rfl) (F 0 6) (rfl) (u0_8) ((eu0_8)) (u1_1) ((eu1_1)) (show inr (a3) by omega) (fun σ9 F9' A9' H' O' hS9 hA9 y9_0_4 ey9_0_4 y9_0_6 ey9_0_6 y9_0_8 ey9_0_8 pq9_0 pq9_1 pz9_0 => ⟨rfl, ?_⟩))
  refine v_back (c := c) (s := s) H (show vsub V205_Row_Row V204_Row_Row [0, 1, 2, 3] = true by decide +kernel) H' O' (fun F9 A9 H O' eF9 eA9 => ?_)
  have O := OUT_trans O O'
  -- Tags.begin
  have pl9_0 : F9 0 3 = (D 3 : Int) := (eF9 0 3).trans (pq9_0)
  have pl9_1 : F9 0 5 = (D 2 : Int) := (eF9 0 5).trans (pq9_1)
  have r10 : (-2147483648 : Int) ≤ y9_0_4 ∧ y9_0_4 ≤ 2147483647 := by have h1 : (-2147483648 : Int) ≤ F9 0 4 ∧ F9 0 4 ≤ 2147483647 := H.krg 0 4 (by decide); rw [show F9 0 4 = y9_0_4 from ((eF9 0 4).trans ey9_0_4)] at h1; exact h1
  have r11 : (-2147483648 : Int) ≤ y9_0_6 ∧ y9_0_6 ≤ 2147483647 := by have h1 : (-2147483648 : Int) ≤ F9 0 6 ∧ F9 0 6 ≤ 2147483647 := H.krg 0 6 (by decide); rw [show F9 0 6 = y9_0_6 from ((eF9 0 6).trans ey9_0_6)] at h1; exact h1
  have r12 : (-2147483648 : Int) ≤ y9_0_8 ∧ y9_0_8 ≤ 2147483647 := by have h1 : (-2147483648 : Int) ≤ F9 0 8 ∧ F9 0 8 ≤ 2147483647 := H.krg 0 8 (by decide); rw [show F9 0 8 = y9_0_8 from ((eF9 0 8).trans ey9_0_8)] at h1; exact h1
  refine Ew_of (pc' := 8) (fun _ => x_aload_n rfl rfl) ?_
  refine Ew_of (pc' := 9) (fun _ => x_iconst rfl) ?_
  refine Ew_of (pc' := 10) (fun _ => x_aload_n rfl rfl) ?_
  refine v_g H (o := 0) (v := I (y9_0_4)) rfl rfl rfl rfl rfl (congrArg (fun z : Int => I z) (((eF9 0 4).trans ey9_0_4) : F9 0 4 = y9_0_4)) ?_
  refine Ew_of (pc' := 14) (fun _ => x_aload_n rfl rfl) ?_
  refine v_g H (o := 0) (v := I (y9_0_6)) rfl rfl rfl rfl rfl (congrArg (fun z : Int => I z) (((eF9 0 6).trans ey9_0_6) : F9 0 6 = y9_0_6)) ?_
  refine v_inv H (o := 0) rfl rfl rfl rfl rfl rfl (by rfl) (C206 (D := pul [0, 3, 2, 4] D) (N := pul [0, 3, 2, 4] N) (HW_sub H (VS_of (show vsub V205_Row_Row V206 [0, 3, 2, 4] = true by decide +kernel))) (pl9_0) (pl9_1) ((((show F9 2 0 = F 2 0 from (eF9 2 0).trans (hS9 2 0 rfl)))).trans (pf4)) (n3) (en3) (n4) (en4) (y9_0_8) (((eF9 0 8).trans ey9_0_8)) (u2_1) ((((show F9 2 1 = F 2 1 from (eF9 2 1).trans (hS9 2 1 rfl))).trans (eu2_1))) (u2_2) ((((show F9 2 2 = F 2 2 from (eF9 2 2).trans (hS9 2 2 rfl))).trans (eu2_2))) (w3) (((show A9 3 = A 3 from (eA9 3).trans (funext (hA9 3 rfl)))).trans (ew3)) (w4) (((show A9 4 = A 4 from (eA9 4))).trans (ew4)) (show inr (0) by omega) (show inr (y9_0_4) by omega) (show inr (y9_0_6) by omega) (show 0 ≤ (0) ∧ (0) ≤ (y9_0_4) ∧ (y9_0_4) ≤ (n3) ∧ (n3) ≤ 65536 by omega) (show 0 ≤ (u2_1) ∧ (u2_1) ≤ (n4) ∧ (n4) ≤ 65536 by omega) (show (y9_0_6) ≤ 65536 by omega) (show (u2_2) = 0 ∧ (u2_1) + (y9_0_6) ≤ 65536 by omega) (fun z13 σ13 D13' N13' F13' A13' c13 s13 H' O' hD13 hN13 hS13 hA13 pm13_3 m13_3 em13_3 y13_0_8 ey13_0_8 y13_2_1 ey13_2_1 y13_2_2 ey13_2_2 w13_3 ew13_3 pz13_0 pz13_1 pz13_2 pz13_3 pz13_4 pz13_5 pz13_6 pz13_7 pz13_8 pz13_9 => ⟨rfl, ?_⟩))
  refine v_backM (c := c) (s := s) H (show vsub V205_Row_Row V206 [0, 3, 2, 4] = true by decide +kernel) H' O' hD13 (show vmov V205_Row_Row [0, 3, 2, 4] [3] = true by decide +kernel) (fun D13 N13 F13 A13 H O' eD13 eN13 eF13 eA13 => ?_)
  have O := OUT_trans O O'
  -- Tags.unpackBlock
  have pf13_0_3 : F13 0 3 = (D13 3 : Int) := ((show F13 0 3 = F9 0 3 from (eF13 0 3).trans (hS13 0 3 rfl))).trans ((pl9_0).trans (congrArg (fun q : Nat => (q : Int)) ((show D13 3 = D 3 from (eD13 3).trans (hD13 1 rfl))).symm))
  have pf13_0_5 : F13 0 5 = (D13 2 : Int) := ((show F13 0 5 = F9 0 5 from (eF13 0 5).trans (hS13 0 5 rfl))).trans ((pl9_1).trans (congrArg (fun q : Nat => (q : Int)) ((show D13 2 = D 2 from (eD13 2).trans (hD13 2 rfl))).symm))
  have pf13_1_0 : F13 1 0 = (D13 3 : Int) := ((show F13 1 0 = F9 1 0 from (eF13 1 0))).trans (((((show F9 1 0 = F 1 0 from (eF9 1 0).trans (hS9 1 0 rfl)))).trans (pf3)).trans (congrArg (fun q : Nat => (q : Int)) ((show D13 3 = D 3 from (eD13 3).trans (hD13 1 rfl))).symm))
  have pf13_2_0 : F13 2 0 = (D13 4 : Int) := (eF13 2 0).trans (pm13_3.trans (congrArg (fun q : Nat => (q : Int)) (eD13 4).symm))
  have r14 : (0 : Int) ≤ m13_3 ∧ m13_3 ≤ 1000000 := by have h1 := H.nle 4 (by decide); have h2 : (N13 4 : Int) = m13_3 := (congrArg (fun q : Nat => (q : Int)) (eN13 4)).trans em13_3; omega
  have r15 : (-2147483648 : Int) ≤ y13_0_8 ∧ y13_0_8 ≤ 2147483647 := by have h1 : (-2147483648 : Int) ≤ F13 0 8 ∧ F13 0 8 ≤ 2147483647 := H.krg 0 8 (by decide); rw [show F13 0 8 = y13_0_8 from ((eF13 0 8).trans ey13_0_8)] at h1; exact h1
  have r16 : (-2147483648 : Int) ≤ y13_2_1 ∧ y13_2_1 ≤ 2147483647 := by have h1 : (-2147483648 : Int) ≤ F13 2 1 ∧ F13 2 1 ≤ 2147483647 := H.krg 2 1 (by decide); rw [show F13 2 1 = y13_2_1 from ((eF13 2 1).trans ey13_2_1)] at h1; exact h1
  have r17 : (0 : Int) ≤ y13_2_2 ∧ y13_2_2 ≤ 1 := by have h1 : (0 : Int) ≤ F13 2 2 ∧ F13 2 2 ≤ 1 := H.krg 2 2 (by decide); rw [show F13 2 2 = y13_2_2 from ((eF13 2 2).trans ey13_2_2)] at h1; exact h1
  have : IMP ((z13) ≠ 0) (TYB (ub8 ((w3))) ((u1_1)) 0 ((a3)) ((z13), (y13_0_8), [])) := fun z => by have h := pz13_6 z; rw [pz9_0.1, pz9_0.2.1] at h; exact h
  have : IMP ((z13) = 0) (TYB (ub8 ((w3))) ((u1_1)) 0 ((a3)) (0, (u1_1), sc ((w13_3)) 0 ((y13_2_1)))) := fun z => by have h := pz13_7 z; rw [pz9_0.1, pz9_0.2.1, show (u2_1) = 0 by omega] at h; exact h
  exact w_ireturn rfl (k (z13) _ _ _ _ _ _ _ H O (SD_trans (SD_refl) (SD_glu (ι := [0, 3, 2, 4]) hD13 eD13 (by decide +kernel)) (any_subA (l' := [4]) rfl)) (SD_trans (SD_refl) (SD_glu (ι := [0, 3, 2, 4]) hN13 eN13 (by decide +kernel)) (any_subA (l' := [4]) rfl)) (SF_trans (SF_trans (SF_refl) (SF_glu (ι := [0, 1, 2, 3]) hS9 eF9 (by decide +kernel)) (any_sub (l' := [(0, 3), (0, 4), (0, 5), (0, 6), (0, 8)]) rfl)) (SF_glu (ι := [0, 3, 2, 4]) hS13 eF13 (by decide +kernel)) (any_sub (l' := [(0, 7), (0, 8), (2, 0), (2, 1), (2, 2)]) rfl)) (SA_trans (SA_trans (SA_refl) (SA_glu (ι := [0, 1, 2, 3]) hA9 eA9 (by decide +kernel)) (any_subA (l' := []) rfl)) (SA_glu (ι := [0, 3, 2, 4]) hA13 eA13 (by decide +kernel)) (any_subA (l' := [4]) rfl)) (pf13_2_0) (m13_3) ((congrArg (fun q : Nat => (q : Int)) (eN13 4)).trans em13_3) (y13_0_8) (((eF13 0 8).trans ey13_0_8)) (y13_2_1) (((eF13 2 1).trans ey13_2_1)) (y13_2_2) (((eF13 2 2).trans ey13_2_2)) (w13_3) ((eA13 4).trans ew13_3) (show inr (z13) by omega) (show 0 ≤ (z13) ∧ (z13) ≤ 6 by omega) (show 0 ≤ (y13_2_1) ∧ (y13_2_1) ≤ (m13_3) ∧ (m13_3) ≤ 65536 by omega) (show (y13_2_2) = 0 by omega) (show IMP ((z13) ≠ 0) (TYB (ub8 ((w3))) ((u1_1)) 0 (a3) ((z13), (y13_0_8), [])) by assumption) (show IMP ((z13) = 0) (TYB (ub8 ((w3))) ((u1_1)) 0 (a3) (0, (u1_1), sc ((w13_3)) 0 ((y13_2_1)))) by assumption) (show (z13) ≠ 0 ∨ (y13_0_8) = (u1_1) by omega))
