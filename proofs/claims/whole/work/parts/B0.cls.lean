abbrev V156 : vV := [(0, 7, [(4, 0), (0, 0), (1, 0), (0, 0), (0, 0)])]
/-- Row.clear: this -/
theorem C156 {σE : rS} {D N : Nat → Nat} {F : hF} {A : hA} {d c s : Nat} {Q : wQ} (H : HW V156 σE D N F A)  (u0_1 : Int) (eu0_1 : F 0 1 = u0_1) (u0_2 : Int) (eu0_2 : F 0 2 = u0_2) (u0_3 : Int) (eu0_3 : F 0 3 = u0_3) (u0_4 : Int) (eu0_4 : F 0 4 = u0_4) (k : ∀ (σ : rS) (F' : hF) (A' : hA), HW V156 σ D N F' A' → OUT (V156).length D N σE c s D N σ c s → SF [(0, 1), (0, 2), (0, 3), (0, 4)] F F' → SA [] A A' → ∀ y0_1 : Int, F' 0 1 = y0_1 → ∀ y0_2 : Int, F' 0 2 = y0_2 → ∀ y0_3 : Int, F' 0 3 = y0_3 → ∀ y0_4 : Int, F' 0 4 = y0_4 → ((y0_1) = 0) → ((y0_2) = 0) → ((y0_3) = 0 ∧ (y0_4) = 0) → Q none σ c s) : Ew 156 (d + 0) 0 (rargs 0 [.ref (D 0)]) [] σE c s Q := by
  have O := OUT_refl (n := (V156).length) (D := D) (N := N) (σ := σE) (c := c) (s := s)
  have HE := H
  have r1 : (-2147483648 : Int) ≤ u0_1 ∧ u0_1 ≤ 2147483647 := by have h1 : (-2147483648 : Int) ≤ F 0 1 ∧ F 0 1 ≤ 2147483647 := H.krg 0 1 (by decide); rw [show F 0 1 = u0_1 from (eu0_1)] at h1; exact h1
  have r2 : (0 : Int) ≤ u0_2 ∧ u0_2 ≤ 1 := by have h1 : (0 : Int) ≤ F 0 2 ∧ F 0 2 ≤ 1 := H.krg 0 2 (by decide); rw [show F 0 2 = u0_2 from (eu0_2)] at h1; exact h1
  have r3 : (-2147483648 : Int) ≤ u0_3 ∧ u0_3 ≤ 2147483647 := by have h1 : (-2147483648 : Int) ≤ F 0 3 ∧ F 0 3 ≤ 2147483647 := H.krg 0 3 (by decide); rw [show F 0 3 = u0_3 from (eu0_3)] at h1; exact h1
  have r4 : (-2147483648 : Int) ≤ u0_4 ∧ u0_4 ≤ 2147483647 := by have h1 : (-2147483648 : Int) ≤ F 0 4 ∧ F 0 4 ≤ 2147483647 := H.krg 0 4 (by decide); rw [show F 0 4 = u0_4 from (eu0_4)] at h1; exact h1
  refine Ew_of (pc' := 1) (fun _ => x_aload_n rfl rfl) ?_
  refine Ew_of (pc' := 2) (fun _ => x_iconst rfl) ?_
  refine v_p H (o := 0) (z := 0) (v := I (0)) rfl rfl rfl rfl rfl rfl rfl rfl (show (-2147483648 : Int) ≤ 0 ∧ 0 ≤ 2147483647 by omega) (fun σ H O' => ?_)
  have O := OUT_trans O O'
  refine Ew_of (pc' := 6) (fun _ => x_aload_n rfl rfl) ?_
  refine Ew_of (pc' := 7) (fun _ => x_iconst rfl) ?_
  refine v_p H (o := 0) (z := 0) (v := I (0)) rfl rfl rfl rfl rfl rfl rfl (rfit_b (by omega)) (show (0 : Int) ≤ 0 ∧ 0 ≤ 1 by omega) (fun σ H O' => ?_)
  have O := OUT_trans O O'
  refine Ew_of (pc' := 11) (fun _ => x_aload_n rfl rfl) ?_
  refine Ew_of (pc' := 12) (fun _ => x_iconst rfl) ?_
  refine v_p H (o := 0) (z := 0) (v := I (0)) rfl rfl rfl rfl rfl rfl rfl rfl (show (-2147483648 : Int) ≤ 0 ∧ 0 ≤ 2147483647 by omega) (fun σ H O' => ?_)
  have O := OUT_trans O O'
  refine Ew_of (pc' := 16) (fun _ => x_aload_n rfl rfl) ?_
  refine Ew_of (pc' := 17) (fun _ => x_iconst rfl) ?_
  refine v_p H (o := 0) (z := 0) (v := I (0)) rfl rfl rfl rfl rfl rfl rfl rfl (show (-2147483648 : Int) ≤ 0 ∧ 0 ≤ 2147483647 by omega) (fun σ H O' => ?_)
  have O := OUT_trans O O'
  exact w_ret rfl (k _ _ _ H O (SF_upd (SF_upd (SF_upd (SF_upd (SF_refl) rfl) rfl) rfl) rfl) (SA_refl) (0) (rfl) (0) (rfl) (0) (rfl) (0) (rfl) (show (0) = 0 by omega) (show (0) = 0 by omega) (show (0) = 0 ∧ (0) = 0 by omega))
abbrev V165 : vV := [(0, 7, [(4, 0), (0, 0), (1, 0), (0, 0), (0, 0)]), (1, 0, [])]
/-- Row.endBits: this, this.bytes -/
theorem C165 {σE : rS} {D N : Nat → Nat} {F : hF} {A : hA} {d c s : Nat} {Q : wQ} (H : HW V165 σE D N F A)  (pf1 : F 0 0 = (D 1 : Int)) (n1 : Int) (en1 : (N 1 : Int) = n1) (u0_1 : Int) (eu0_1 : F 0 1 = u0_1) (h0 : 0 ≤ (u0_1) ∧ (u0_1) ≤ (n1) ∧ (n1) ≤ 65536) (k : ∀ (σ : rS) (F' : hF) (A' : hA), HW V165 σ D N F' A' → OUT (V165).length D N σE c s D N σ c s → SF [(0, 1), (0, 2), (0, 3), (0, 4)] F F' → SA [1] A A' → ∀ y0_1 : Int, F' 0 1 = y0_1 → (0 ≤ (y0_1) ∧ (y0_1) ≤ (n1) ∧ (n1) ≤ 65536) → Q none σ c s) : Ew 165 (d + 0) 0 (rargs 0 [.ref (D 0)]) [] σE c s Q := by
  have O := OUT_refl (n := (V165).length) (D := D) (N := N) (σ := σE) (c := c) (s := s)
  have HE := H
  have r1 : (-2147483648 : Int) ≤ u0_1 ∧ u0_1 ≤ 2147483647 := by have h1 : (-2147483648 : Int) ≤ F 0 1 ∧ F 0 1 ≤ 2147483647 := H.krg 0 1 (by decide); rw [show F 0 1 = u0_1 from (eu0_1)] at h1; exact h1
  have r2 : (0 : Int) ≤ n1 ∧ n1 ≤ 1000000 := by have h1 := H.nle 1 (by decide); have h2 : (N 1 : Int) = n1 := en1; omega
  refine Ew_of (pc' := 1) (fun _ => x_aload_n rfl rfl) ?_
  have r3 : (-2147483648 : Int) ≤ F 0 4 ∧ F 0 4 ≤ 2147483647 := by have h1 : (-2147483648 : Int) ≤ F 0 4 ∧ F 0 4 ≤ 2147483647 := H.krg 0 4 (by decide); rw [show F 0 4 = F 0 4 from rfl] at h1; exact h1
  refine v_g H (o := 0) (v := I (F 0 4)) rfl rfl rfl rfl rfl (congrArg (fun z : Int => I z) (rfl : F 0 4 = F 0 4)) ?_
  have hc43 : ∀ (ls : rO) (σ : rS) (F_c43 : hF) (A_c43 : hA) , rlook ls 0 = some (.ref (D 0)) → HW V165 σ D N F_c43 A_c43 → OUT (V165).length D N σE c s D N σ c s → SF [] F F_c43 → SA [] A A_c43 → (((F 0 4) ≤ (0)) ∨ ((F 0 4) > (0) ∧ 0 ≤ (n1) ∧ (n1) ≤ 1000000 ∧ (u0_1) ≥ (n1))) → Ew 165 (d + 0) 43 ls [] σ c s Q := by
   as_aux_lemma =>
    intro  ls σ F_c43 A_c43  lc43_0 H O hS_c43 hA_c43     jc43_0
    refine Ew_of (pc' := 44) (fun _ => x_aload_n rfl lc43_0) ?_
    refine v_g H (o := 0) (v := I (F 0 4)) rfl rfl rfl rfl rfl (congrArg (fun z : Int => I z) ((hS_c43 0 4 rfl) : F_c43 0 4 = F 0 4)) ?_
    refine w_ifle (t := 55) rfl rfl (show inr (F 0 4) by omega) (fun b4 => ?_) (fun b4 => ?_)
    · refine Ew_of (pc' := 56) (fun _ => x_aload_n rfl lc43_0) ?_
      refine Ew_of (pc' := 57) (fun _ => x_iconst rfl) ?_
      refine v_p H (o := 0) (z := 0) (v := I (0)) rfl rfl rfl rfl rfl rfl rfl rfl (show (-2147483648 : Int) ≤ 0 ∧ 0 ≤ 2147483647 by omega) (fun σ H O' => ?_)
      have O := OUT_trans O O'
      refine Ew_of (pc' := 61) (fun _ => x_aload_n rfl lc43_0) ?_
      refine Ew_of (pc' := 62) (fun _ => x_iconst rfl) ?_
      refine v_p H (o := 0) (z := 0) (v := I (0)) rfl rfl rfl rfl rfl rfl rfl rfl (show (-2147483648 : Int) ≤ 0 ∧ 0 ≤ 2147483647 by omega) (fun σ H O' => ?_)
      have O := OUT_trans O O'
      exact w_ret rfl (k _ _ _ H O (SF_upd (SF_upd (SF_trans (SF_refl) hS_c43 (any_sub rfl)) rfl) rfl) (SA_trans (SA_refl) hA_c43 (any_subA rfl)) (u0_1) (((hS_c43 0 1 rfl).trans (eu0_1))) (show 0 ≤ (u0_1) ∧ (u0_1) ≤ (n1) ∧ (n1) ≤ 65536 by omega))
    · refine Ew_of (pc' := 51) (fun _ => x_aload_n rfl lc43_0) ?_
      refine Ew_of (pc' := 52) (fun _ => x_iconst rfl) ?_
      refine v_p H (o := 0) (z := 1) (v := I (1)) rfl rfl rfl rfl rfl rfl rfl (rfit_b (by omega)) (show (0 : Int) ≤ 1 ∧ 1 ≤ 1 by omega) (fun σ H O' => ?_)
      have O := OUT_trans O O'
      refine Ew_of (pc' := 56) (fun _ => x_aload_n rfl lc43_0) ?_
      refine Ew_of (pc' := 57) (fun _ => x_iconst rfl) ?_
      refine v_p H (o := 0) (z := 0) (v := I (0)) rfl rfl rfl rfl rfl rfl rfl rfl (show (-2147483648 : Int) ≤ 0 ∧ 0 ≤ 2147483647 by omega) (fun σ H O' => ?_)
      have O := OUT_trans O O'
      refine Ew_of (pc' := 61) (fun _ => x_aload_n rfl lc43_0) ?_
      refine Ew_of (pc' := 62) (fun _ => x_iconst rfl) ?_
      refine v_p H (o := 0) (z := 0) (v := I (0)) rfl rfl rfl rfl rfl rfl rfl rfl (show (-2147483648 : Int) ≤ 0 ∧ 0 ≤ 2147483647 by omega) (fun σ H O' => ?_)
      have O := OUT_trans O O'
      exact w_ret rfl (k _ _ _ H O (SF_upd (SF_upd (SF_upd (SF_trans (SF_refl) hS_c43 (any_sub rfl)) rfl) rfl) rfl) (SA_trans (SA_refl) hA_c43 (any_subA rfl)) (u0_1) (((hS_c43 0 1 rfl).trans (eu0_1))) (show 0 ≤ (u0_1) ∧ (u0_1) ≤ (n1) ∧ (n1) ≤ 65536 by omega))
  refine w_ifle (t := 43) rfl rfl (show inr (F 0 4) by omega) (fun b5 => ?_) (fun b5 => ?_)
  · exact hc43  _ _ _ _  (rfl) H O (SF_refl) (SA_refl)     (show ((F 0 4) ≤ (0)) ∨ ((F 0 4) > (0) ∧ 0 ≤ (n1) ∧ (n1) ≤ 1000000 ∧ (u0_1) ≥ (n1)) by omega)
  · refine Ew_of (pc' := 8) (fun _ => x_aload_n rfl rfl) ?_
    refine v_g H (o := 0) (v := I (u0_1)) rfl rfl rfl rfl rfl (congrArg (fun z : Int => I z) ((eu0_1) : F 0 1 = u0_1)) ?_
    refine Ew_of (pc' := 12) (fun _ => x_aload_n rfl rfl) ?_
    refine v_g H (o := 0) (v := .ref (D 1)) rfl rfl rfl rfl rfl (vrf (pf1)) ?_
    refine v_len H (o := 1) rfl rfl rfl rfl (n := n1) (en1) ?_
    refine w_icmpge (t := 43) rfl rfl (show inr (u0_1) by omega) (show inr (n1) by omega) (fun b6 => ?_) (fun b6 => ?_)
    · exact hc43  _ _ _ _  (rfl) H O (SF_refl) (SA_refl)     (show ((F 0 4) ≤ (0)) ∨ ((F 0 4) > (0) ∧ 0 ≤ (n1) ∧ (n1) ≤ 1000000 ∧ (u0_1) ≥ (n1)) by omega)
    · refine Ew_of (pc' := 20) (fun _ => x_aload_n rfl rfl) ?_
      refine v_g H (o := 0) (v := .ref (D 1)) rfl rfl rfl rfl rfl (vrf (pf1)) ?_
      refine Ew_of (pc' := 24) (fun _ => x_aload_n rfl rfl) ?_
      refine Ew_of (pc' := 25) (fun _ => x_dup rfl rfl) ?_
      refine v_g H (o := 0) (v := I (u0_1)) rfl rfl rfl rfl rfl (congrArg (fun z : Int => I z) ((eu0_1) : F 0 1 = u0_1)) ?_
      refine Ew_of (pc' := 29) (fun _ => x_dup_x1 rfl rfl) ?_
      refine Ew_of (pc' := 30) (fun _ => x_iconst rfl) ?_
      refine w_iadd rfl ?_
      refine v_p H (o := 0) (z := (u0_1 + 1)) (v := I ((u0_1 + 1))) rfl rfl rfl rfl rfl rfl rfl rfl (show (-2147483648 : Int) ≤ (u0_1 + 1) ∧ (u0_1 + 1) ≤ 2147483647 by omega) (fun σ H O' => ?_)
      have O := OUT_trans O O'
      refine Ew_of (pc' := 35) (fun _ => x_aload_n rfl rfl) ?_
      have r7 : (-2147483648 : Int) ≤ F 0 3 ∧ F 0 3 ≤ 2147483647 := by have h1 : (-2147483648 : Int) ≤ (updF F 0 1 ((u0_1 + 1))) 0 3 ∧ (updF F 0 1 ((u0_1 + 1))) 0 3 ≤ 2147483647 := H.krg 0 3 (by decide); rw [show (updF F 0 1 ((u0_1 + 1))) 0 3 = F 0 3 from rfl] at h1; exact h1
      refine v_g H (o := 0) (v := I (F 0 3)) rfl rfl rfl rfl rfl (congrArg (fun z : Int => I z) (rfl : (updF F 0 1 ((u0_1 + 1))) 0 3 = F 0 3)) ?_
      refine v_i2b rfl (fun z8 gz8 uz8 => ?_)
      refine v_sB H (o := 1) rfl rfl rfl rfl (n := n1) (en1) (show 0 ≤ u0_1 ∧ u0_1 < n1 by omega) (fun z9 σ qz9 uz9 H O' => ?_)
      have O := OUT_trans O O'
      refine Ew_of (pc' := 55) (fun _ => x_goto rfl rfl) ?_
      refine Ew_of (pc' := 56) (fun _ => x_aload_n rfl rfl) ?_
      refine Ew_of (pc' := 57) (fun _ => x_iconst rfl) ?_
      refine v_p H (o := 0) (z := 0) (v := I (0)) rfl rfl rfl rfl rfl rfl rfl rfl (show (-2147483648 : Int) ≤ 0 ∧ 0 ≤ 2147483647 by omega) (fun σ H O' => ?_)
      have O := OUT_trans O O'
      refine Ew_of (pc' := 61) (fun _ => x_aload_n rfl rfl) ?_
      refine Ew_of (pc' := 62) (fun _ => x_iconst rfl) ?_
      refine v_p H (o := 0) (z := 0) (v := I (0)) rfl rfl rfl rfl rfl rfl rfl rfl (show (-2147483648 : Int) ≤ 0 ∧ 0 ≤ 2147483647 by omega) (fun σ H O' => ?_)
      have O := OUT_trans O O'
      exact w_ret rfl (k _ _ _ H O (SF_upd (SF_upd (SF_upd (SF_refl) rfl) rfl) rfl) (SA_upd (SA_refl) rfl) ((u0_1 + 1)) (rfl) (show 0 ≤ ((u0_1 + 1)) ∧ ((u0_1 + 1)) ≤ (n1) ∧ (n1) ≤ 65536 by omega))
abbrev V157 : vV := [(0, 7, [(4, 0), (0, 0), (1, 0), (0, 0), (0, 0)]), (1, 0, [])]
/-- Row.reserve: this, this.bytes -/
theorem C157 {σE : rS} {D N : Nat → Nat} {F : hF} {A : hA} {d c s : Nat} {Q : wQ} (H : HW V157 σE D N F A) {a1 : Int} (pf1 : F 0 0 = (D 1 : Int)) (n1 : Int) (en1 : (N 1 : Int) = n1) (u0_1 : Int) (eu0_1 : F 0 1 = u0_1) (w1 : Int → Int) (ew1 : A 1 = w1) (h0 : inr (a1)) (h1 : 0 ≤ (u0_1) ∧ (u0_1) ≤ (n1) ∧ (n1) ≤ 65536) (k : ∀ (z : Int) (σ : rS) (D' N' : Nat → Nat) (F' : hF) (A' : hA) (c' s' : Nat), HW V157 σ D' N' F' A' → OUT (V157).length D N σE c s D' N' σ c' s' → SD [1] D D' → SD [1] N N' → SF [(0, 0)] F F' → SA [1] A A' → F' 0 0 = (D' 1 : Int) → ∀ m1 : Int, (N' 1 : Int) = m1 → ∀ v1 : Int → Int, A' 1 = v1 → ((z) = 0 ∨ (z) = 1) → (0 ≤ (u0_1) ∧ (u0_1) ≤ (m1) ∧ (m1) ≤ 65536) → ((z) = 1 ∧ 0 ≤ (a1) ∧ (u0_1) + (a1) ≤ (m1) ∨ (z) = 0 ∧ ((a1) < 0 ∨ 65536 < (u0_1) + (a1))) → ((n1) ≤ (m1)) → (∀ i, (0 : Int) ≤ i → i < (u0_1) → ((v1)) i = ((w1)) i) → Q (some (I z)) σ c' s') : Ew 157 (d + 1) 0 (rargs 0 [.ref (D 0), I a1]) [] σE c s Q := by
  have O := OUT_refl (n := (V157).length) (D := D) (N := N) (σ := σE) (c := c) (s := s)
  have HE := H
  have r1 : (-2147483648 : Int) ≤ u0_1 ∧ u0_1 ≤ 2147483647 := by have h1 : (-2147483648 : Int) ≤ F 0 1 ∧ F 0 1 ≤ 2147483647 := H.krg 0 1 (by decide); rw [show F 0 1 = u0_1 from (eu0_1)] at h1; exact h1
  have r2 : (0 : Int) ≤ n1 ∧ n1 ≤ 1000000 := by have h1 := H.nle 1 (by decide); have h2 : (N 1 : Int) = n1 := en1; omega
  refine Ew_of (pc' := 1) (fun _ => x_iload_n rfl rfl) ?_
  refine w_iflt (t := 15) rfl rfl (show inr (a1) by omega) (fun b3 => ?_) (fun b3 => ?_)
  · have : ∀ i, (0 : Int) ≤ i → i < (u0_1) → ((w1)) i = ((w1)) i := fun i a b => rfl
    refine Ew_of (pc' := 16) (fun _ => x_iconst rfl) ?_
    exact w_ireturn rfl (k (0) _ _ _ _ _ _ _ H O (SD_refl) (SD_refl) (SF_refl) (SA_refl) (pf1) (n1) (en1) (w1) (ew1) (show (0) = 0 ∨ (0) = 1 by omega) (show 0 ≤ (u0_1) ∧ (u0_1) ≤ (n1) ∧ (n1) ≤ 65536 by omega) (show (0) = 1 ∧ 0 ≤ a1 ∧ (u0_1) + a1 ≤ (n1) ∨ (0) = 0 ∧ (a1 < 0 ∨ 65536 < (u0_1) + a1) by omega) (show (n1) ≤ (n1) by omega) (show ∀ i, (0 : Int) ≤ i → i < (u0_1) → ((w1)) i = ((w1)) i by assumption))
  · refine Ew_of (pc' := 5) (fun _ => x_iload_n rfl rfl) ?_
    refine Ew_of (pc' := 7) (fun _ => x_ldc (z := 65536) rfl (by decide)) ?_
    refine Ew_of (pc' := 8) (fun _ => x_aload_n rfl rfl) ?_
    refine v_g H (o := 0) (v := I (u0_1)) rfl rfl rfl rfl rfl (congrArg (fun z : Int => I z) ((eu0_1) : F 0 1 = u0_1)) ?_
    refine w_isub rfl ?_
    refine w_icmple (t := 17) rfl rfl (show inr (a1) by omega) (show inr ((65536 - u0_1)) by omega) (fun b4 => ?_) (fun b4 => ?_)
    · refine Ew_of (pc' := 18) (fun _ => x_iload_n rfl rfl) ?_
      refine Ew_of (pc' := 19) (fun _ => x_aload_n rfl rfl) ?_
      refine v_g H (o := 0) (v := .ref (D 1)) rfl rfl rfl rfl rfl (vrf (pf1)) ?_
      refine v_len H (o := 1) rfl rfl rfl rfl (n := n1) (en1) ?_
      refine Ew_of (pc' := 24) (fun _ => x_aload_n rfl rfl) ?_
      refine v_g H (o := 0) (v := I (u0_1)) rfl rfl rfl rfl rfl (congrArg (fun z : Int => I z) ((eu0_1) : F 0 1 = u0_1)) ?_
      refine w_isub rfl ?_
      refine w_icmple (t := 71) rfl rfl (show inr (a1) by omega) (show inr ((n1 - u0_1)) by omega) (fun b5 => ?_) (fun b5 => ?_)
      · have : ∀ i, (0 : Int) ≤ i → i < (u0_1) → ((w1)) i = ((w1)) i := by first | assumption | exact fun i a b => rfl
        refine Ew_of (pc' := 72) (fun _ => x_iconst rfl) ?_
        exact w_ireturn rfl (k (1) _ _ _ _ _ _ _ H O (SD_refl) (SD_refl) (SF_refl) (SA_refl) (pf1) (n1) (en1) (w1) (ew1) (show (1) = 0 ∨ (1) = 1 by omega) (show 0 ≤ (u0_1) ∧ (u0_1) ≤ (n1) ∧ (n1) ≤ 65536 by omega) (show (1) = 1 ∧ 0 ≤ a1 ∧ (u0_1) + a1 ≤ (n1) ∨ (1) = 0 ∧ (a1 < 0 ∨ 65536 < (u0_1) + a1) by omega) (show (n1) ≤ (n1) by omega) (show ∀ i, (0 : Int) ≤ i → i < (u0_1) → ((w1)) i = ((w1)) i by assumption))
      · refine Ew_of (pc' := 33) (fun _ => x_ldc (z := 65536) rfl (by decide)) ?_
        refine Ew_of (pc' := 36) (fun _ => x_sipush (z := 256) rfl (by decide)) ?_
        refine Ew_of (pc' := 37) (fun _ => x_iconst rfl) ?_
        refine Ew_of (pc' := 38) (fun _ => x_aload_n rfl rfl) ?_
        refine v_g H (o := 0) (v := .ref (D 1)) rfl rfl rfl rfl rfl (vrf (pf1)) ?_
        refine v_len H (o := 1) rfl rfl rfl rfl (n := n1) (en1) ?_
        refine w_imul rfl ?_
        refine v_max rfl rfl (show inr (256) by omega) (show inr ((4 * n1)) by omega) (fun z6 gz6 => ?_)
        refine v_min rfl rfl (show inr (65536) by omega) (show inr (z6) by omega) (fun z7 gz7 => ?_)
        refine Ew_of (pc' := 50) (fun _ => x_istore_n rfl) ?_
        refine Ew_of (pc' := 51) (fun _ => x_aload_n rfl (rk_o (rfl) rfl rfl)) ?_
        refine Ew_of (pc' := 52) (fun _ => x_aload_n rfl (rk_o (rfl) rfl rfl)) ?_
        refine v_g H (o := 0) (v := .ref (D 1)) rfl rfl rfl rfl rfl (vrf (pf1)) ?_
        refine Ew_of (pc' := 56) (fun _ => x_aload_n rfl (rk_o (rfl) rfl rfl)) ?_
        refine v_g H (o := 0) (v := I (u0_1)) rfl rfl rfl rfl rfl (congrArg (fun z : Int => I z) ((eu0_1) : F 0 1 = u0_1)) ?_
        refine Ew_of (pc' := 60) (fun _ => x_iload_n rfl (rk_o (rfl) rfl rfl)) ?_
        refine w_iadd rfl ?_
        refine Ew_of (pc' := 62) (fun _ => x_iload_n rfl rk_s) ?_
        refine v_max rfl rfl (show inr ((u0_1 + a1)) by omega) (show inr (z7) by omega) (fun z8 gz8 => ?_)
        have hg := grow_ok (m := (n1)) (n := (z8)) (by omega) (by omega) (by omega)
        have hgC := hg.1
        have hgS := hg.2
        refine v_growB H (p := 0) (k := 0) (t := 1) (n := z8) rfl (by rfl) rfl rfl (fun _ => rfl) rfl rfl rfl rfl (fun z => vrf (z := (z : Int)) rfl) rfl rfl rfl rfl (by decide +kernel) rfl (m := n1) (en1) (show n1 < z8 ∧ z8 ≤ 1000000 by omega) (show pC (n1 : Int).toNat + 1 ≤ pC (z8 : Int).toNat by assumption) (show pS (n1 : Int).toNat + z8 ≤ pS (z8 : Int).toNat by assumption) (fun σ D9 N9 F9 A9 H O' hD9 hN9 em9 hS9 pm9 hA9 ga9 => ?_)
        have O := OUT_trans O O'
        have ga9 : ∀ i, 0 ≤ i → i < n1 → A9 1 i = (w1) i := fun i a b => (ga9 i a b).trans (congrFun (ew1) i)
        have pf9_0_0 : F9 0 0 = (D9 1 : Int) := pm9
        have : ∀ i, (0 : Int) ≤ i → i < (u0_1) → ((A9 1)) i = ((w1)) i := fun i a b => ga9 i a (by omega)
        have : ∀ i, (0 : Int) ≤ i → i < (u0_1) → ((A9 1)) i = ((w1)) i := by first | assumption | exact fun i a b => rfl
        refine Ew_of (pc' := 72) (fun _ => x_iconst rfl) ?_
        have r10 : (0 : Int) ≤ z8 ∧ z8 ≤ 1000000 := by have h1 := H.nle 1 (by decide); have h2 : (N9 1 : Int) = z8 := em9; omega
        exact w_ireturn rfl (k (1) _ _ _ _ _ _ _ H O (SD_trans (SD_refl) hD9 (any_subA rfl)) (SD_trans (SD_refl) hN9 (any_subA rfl)) (SF_trans (SF_refl) hS9 (any_sub rfl)) (SA_trans (SA_refl) hA9 (any_subA rfl)) (pf9_0_0) (z8) (em9) (A9 1) (rfl) (show (1) = 0 ∨ (1) = 1 by omega) (show 0 ≤ (u0_1) ∧ (u0_1) ≤ (z8) ∧ (z8) ≤ 65536 by omega) (show (1) = 1 ∧ 0 ≤ a1 ∧ (u0_1) + a1 ≤ (z8) ∨ (1) = 0 ∧ (a1 < 0 ∨ 65536 < (u0_1) + a1) by omega) (show (n1) ≤ (z8) by omega) (show ∀ i, (0 : Int) ≤ i → i < (u0_1) → ((A9 1)) i = ((w1)) i by assumption))
    · have : ∀ i, (0 : Int) ≤ i → i < (u0_1) → ((w1)) i = ((w1)) i := fun i a b => rfl
      refine Ew_of (pc' := 16) (fun _ => x_iconst rfl) ?_
      exact w_ireturn rfl (k (0) _ _ _ _ _ _ _ H O (SD_refl) (SD_refl) (SF_refl) (SA_refl) (pf1) (n1) (en1) (w1) (ew1) (show (0) = 0 ∨ (0) = 1 by omega) (show 0 ≤ (u0_1) ∧ (u0_1) ≤ (n1) ∧ (n1) ≤ 65536 by omega) (show (0) = 1 ∧ 0 ≤ a1 ∧ (u0_1) + a1 ≤ (n1) ∨ (0) = 0 ∧ (a1 < 0 ∨ 65536 < (u0_1) + a1) by omega) (show (n1) ≤ (n1) by omega) (show ∀ i, (0 : Int) ≤ i → i < (u0_1) → ((w1)) i = ((w1)) i by assumption))
