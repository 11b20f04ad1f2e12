abbrev V156 : vV := [(0, 7, [(4, 0), (0, 0), (1, 0), (0, 0), (0, 0)])]
theorem len_V156_oz_B0cls : (V156).length = 1 := by decide +kernel
def oz_B0clsl_0 : List (Nat × Nat) := [(0, 1), (0, 2), (0, 3), (0, 4)]
theorem oz_B0cls_1 : (oz_B0clsl_0).all (fun p => !tbz 30 (Nat.add (Nat.mul 32 p.1) p.2)) = true := by decide +kernel
/-- Row.clear: this -/
theorem C156 {σE : rS} {D N : Nat → Nat} {F : hF} {A : hA} {d c s : Nat} {Q : wQ} (H : HW V156 σE D N F A)  (u0_1 : Int) (eu0_1 : F 0 1 = u0_1) (k : ∀ (σ : rS) (Fₚ : hF) (Aₚ : hA), HW V156 σ D N Fₚ Aₚ → OUT (V156).length D N σE c s D N σ c s → SF [(0, 1), (0, 2), (0, 3), (0, 4)] F Fₚ → SA [] A Aₚ → ∀ y0_1 : Int, Fₚ 0 1 = y0_1 → ((y0_1) = 0) → Q none σ c s) : Ew 156 (d + 0) 0 (rargs 0 [.ref (D 0)]) [] σE c s Q := by
  have O := OUT_refl (n := (V156).length) (D := D) (N := N) (σ := σE) (c := c) (s := s)
  have HE := H
  have r1 : (-2147483648 : Int) ≤ u0_1 ∧ u0_1 ≤ 2147483647 := rngE (show (-2147483648 : Int) ≤ F 0 1 ∧ F 0 1 ≤ 2147483647 from H.krg 0 1 (ltn len_V156_oz_B0cls rfl)) (show F 0 1 = u0_1 from (eu0_1))
  refine Ew_of (pcₚ := 1) (fun _ => x_aload_n rfl rfl) ?_
  refine Ew_of (pcₚ := 2) (fun _ => x_iconst rfl) ?_
  refine v_p H (o := 0) (z := 0) (v := I (0)) rfl rfl rfl rfl rfl rfl rfl rfl (show (-2147483648 : Int) ≤ 0 ∧ 0 ≤ 2147483647 from q_240) (fun σ H Oₚ => ?_)
  have O := OUT_trans O Oₚ
  have cFu2 : SF oz_B0clsl_0 F (updF F 0 1 (0)) := SF_upd (SF_refl) rfl
  have mFu2 := SFm_of cFu2 oz_B0cls_1
  refine Ew_of (pcₚ := 6) (fun _ => x_aload_n rfl rfl) ?_
  refine Ew_of (pcₚ := 7) (fun _ => x_iconst rfl) ?_
  refine v_p H (o := 0) (z := 0) (v := I (0)) rfl rfl rfl rfl rfl rfl rfl (rfit_b (by omega)) (show (0 : Int) ≤ 0 ∧ 0 ≤ 1 from q_1193) (fun σ H Oₚ => ?_)
  have O := OUT_trans O Oₚ
  have cFu3 : SF oz_B0clsl_0 F (updF (updF F 0 1 (0)) 0 2 (0)) := SF_upd (cFu2) rfl
  have mFu3 := SFm_of cFu3 oz_B0cls_1
  refine Ew_of (pcₚ := 11) (fun _ => x_aload_n rfl rfl) ?_
  refine Ew_of (pcₚ := 12) (fun _ => x_iconst rfl) ?_
  refine v_p H (o := 0) (z := 0) (v := I (0)) rfl rfl rfl rfl rfl rfl rfl rfl (show (-2147483648 : Int) ≤ 0 ∧ 0 ≤ 2147483647 from q_240) (fun σ H Oₚ => ?_)
  have O := OUT_trans O Oₚ
  have cFu4 : SF oz_B0clsl_0 F (updF (updF (updF F 0 1 (0)) 0 2 (0)) 0 3 (0)) := SF_upd (cFu3) rfl
  have mFu4 := SFm_of cFu4 oz_B0cls_1
  refine Ew_of (pcₚ := 16) (fun _ => x_aload_n rfl rfl) ?_
  refine Ew_of (pcₚ := 17) (fun _ => x_iconst rfl) ?_
  refine v_p H (o := 0) (z := 0) (v := I (0)) rfl rfl rfl rfl rfl rfl rfl rfl (show (-2147483648 : Int) ≤ 0 ∧ 0 ≤ 2147483647 from q_240) (fun σ H Oₚ => ?_)
  have O := OUT_trans O Oₚ
  have cFu5 : SF oz_B0clsl_0 F (updF (updF (updF (updF F 0 1 (0)) 0 2 (0)) 0 3 (0)) 0 4 (0)) := SF_upd (cFu4) rfl
  have mFu5 := SFm_of cFu5 oz_B0cls_1
  exact w_ret rfl (k _ _ _ H O (cFu5) (SA_refl) (0) (rfl) (show (0) = 0 by first | exact q_64 | omega))
abbrev V165 : vV := [(0, 7, [(4, 0), (0, 0), (1, 0), (0, 0), (0, 0)]), (1, 0, [])]
theorem len_V165_oz_B0cls : (V165).length = 2 := by decide +kernel
def oz_B0clsl_1 : List Nat := [1]
theorem oz_B0cls_3 : (oz_B0clsl_1).all (fun p => !tbz 2 p) = true := by decide +kernel
/-- Row.endBits: this, this.bytes -/
theorem C165 {σE : rS} {D N : Nat → Nat} {F : hF} {A : hA} {d c s : Nat} {Q : wQ} (H : HW V165 σE D N F A)  (pf1 : F 0 0 = (D 1 : Int)) (n1 : Int) (en1 : (N 1 : Int) = n1) (u0_1 : Int) (eu0_1 : F 0 1 = u0_1) (h0 : 0 ≤ (u0_1) ∧ (u0_1) ≤ (n1) ∧ (n1) ≤ 65536) (k : ∀ (σ : rS) (Fₚ : hF) (Aₚ : hA), HW V165 σ D N Fₚ Aₚ → OUT (V165).length D N σE c s D N σ c s → SF [(0, 1), (0, 2), (0, 3), (0, 4)] F Fₚ → SA [1] A Aₚ → ∀ y0_1 : Int, Fₚ 0 1 = y0_1 → (0 ≤ (y0_1) ∧ (y0_1) ≤ (n1) ∧ (n1) ≤ 65536) → Q none σ c s) : Ew 165 (d + 0) 0 (rargs 0 [.ref (D 0)]) [] σE c s Q := by
  have O := OUT_refl (n := (V165).length) (D := D) (N := N) (σ := σE) (c := c) (s := s)
  have HE := H
  have r1 : (-2147483648 : Int) ≤ u0_1 ∧ u0_1 ≤ 2147483647 := rngE (show (-2147483648 : Int) ≤ F 0 1 ∧ F 0 1 ≤ 2147483647 from H.krg 0 1 (ltn len_V165_oz_B0cls rfl)) (show F 0 1 = u0_1 from (eu0_1))
  have r2 : (0 : Int) ≤ n1 ∧ n1 ≤ 1000000 := nleE (H.nle 1 (ltn len_V165_oz_B0cls rfl)) (show (N 1 : Int) = n1 from en1)
  refine Ew_of (pcₚ := 1) (fun _ => x_aload_n rfl rfl) ?_
  have r3 : (-2147483648 : Int) ≤ F 0 4 ∧ F 0 4 ≤ 2147483647 := H.krg 0 4 (ltn len_V165_oz_B0cls rfl)
  refine v_g H (o := 0) (v := I (F 0 4)) rfl rfl rfl rfl rfl (congrArg (fun z : Int => I z) (rfl : F 0 4 = F 0 4)) ?_
  have hc43 : ∀ (ls : rO) (σ : rS) (F_c43 : hF) (A_c43 : hA) , rlook ls 0 = some (.ref (D 0)) → HW V165 σ D N F_c43 A_c43 → OUT (V165).length D N σE c s D N σ c s → SF [] F F_c43 → SA [] A A_c43 → (((F 0 4) ≤ (0)) ∨ ((F 0 4) > (0) ∧ 0 ≤ (n1) ∧ (n1) ≤ 1000000 ∧ (u0_1) ≥ (n1))) → Ew 165 (d + 0) 43 ls [] σ c s Q := by
   as_aux_lemma =>
    intro  ls σ F_c43 A_c43  lc43_0 H O hS_c43 hA_c43     jc43_0
    have cF_c43 : SF oz_B0clsl_0 F F_c43 := SF_trans (SF_refl) hS_c43 (any_sub (by decide +kernel))
    have mF_c43 := SFm_of cF_c43 oz_B0cls_1
    have cA_c43 : SA oz_B0clsl_1 A A_c43 := SA_trans (SA_refl) hA_c43 (any_subA (by decide +kernel))
    have mA_c43 := SAm_of cA_c43 oz_B0cls_3
    refine Ew_of (pcₚ := 44) (fun _ => x_aload_n rfl lc43_0) ?_
    refine v_g H (o := 0) (v := I (F 0 4)) rfl rfl rfl rfl rfl (congrArg (fun z : Int => I z) ((hS_c43 0 4 rfl) : F_c43 0 4 = F 0 4)) ?_
    refine w_ifle (t := 55) rfl rfl (show inr (F 0 4) from q_22 r3) (fun b4 => ?_) (fun b4 => ?_)
    · refine Ew_of (pcₚ := 56) (fun _ => x_aload_n rfl lc43_0) ?_
      refine Ew_of (pcₚ := 57) (fun _ => x_iconst rfl) ?_
      refine v_p H (o := 0) (z := 0) (v := I (0)) rfl rfl rfl rfl rfl rfl rfl rfl (show (-2147483648 : Int) ≤ 0 ∧ 0 ≤ 2147483647 from q_240) (fun σ H Oₚ => ?_)
      have O := OUT_trans O Oₚ
      have cFu5 : SF oz_B0clsl_0 F (updF F_c43 0 3 (0)) := SF_upd (cF_c43) rfl
      have mFu5 := SFm_of cFu5 oz_B0cls_1
      refine Ew_of (pcₚ := 61) (fun _ => x_aload_n rfl lc43_0) ?_
      refine Ew_of (pcₚ := 62) (fun _ => x_iconst rfl) ?_
      refine v_p H (o := 0) (z := 0) (v := I (0)) rfl rfl rfl rfl rfl rfl rfl rfl (show (-2147483648 : Int) ≤ 0 ∧ 0 ≤ 2147483647 from q_240) (fun σ H Oₚ => ?_)
      have O := OUT_trans O Oₚ
      have cFu6 : SF oz_B0clsl_0 F (updF (updF F_c43 0 3 (0)) 0 4 (0)) := SF_upd (cFu5) rfl
      have mFu6 := SFm_of cFu6 oz_B0cls_1
      exact w_ret rfl (k _ _ _ H O (cFu6) (cA_c43) (u0_1) (((hS_c43 0 1 rfl).trans (eu0_1))) (show 0 ≤ (u0_1) ∧ (u0_1) ≤ (n1) ∧ (n1) ≤ 65536 from h0))
    · refine Ew_of (pcₚ := 51) (fun _ => x_aload_n rfl lc43_0) ?_
      refine Ew_of (pcₚ := 52) (fun _ => x_iconst rfl) ?_
      refine v_p H (o := 0) (z := 1) (v := I (1)) rfl rfl rfl rfl rfl rfl rfl (rfit_b (by omega)) (show (0 : Int) ≤ 1 ∧ 1 ≤ 1 from q_2146) (fun σ H Oₚ => ?_)
      have O := OUT_trans O Oₚ
      have cFu7 : SF oz_B0clsl_0 F (updF F_c43 0 2 (1)) := SF_upd (cF_c43) rfl
      have mFu7 := SFm_of cFu7 oz_B0cls_1
      refine Ew_of (pcₚ := 56) (fun _ => x_aload_n rfl lc43_0) ?_
      refine Ew_of (pcₚ := 57) (fun _ => x_iconst rfl) ?_
      refine v_p H (o := 0) (z := 0) (v := I (0)) rfl rfl rfl rfl rfl rfl rfl rfl (show (-2147483648 : Int) ≤ 0 ∧ 0 ≤ 2147483647 from q_240) (fun σ H Oₚ => ?_)
      have O := OUT_trans O Oₚ
      have cFu8 : SF oz_B0clsl_0 F (updF (updF F_c43 0 2 (1)) 0 3 (0)) := SF_upd (cFu7) rfl
      have mFu8 := SFm_of cFu8 oz_B0cls_1
      refine Ew_of (pcₚ := 61) (fun _ => x_aload_n rfl lc43_0) ?_
      refine Ew_of (pcₚ := 62) (fun _ => x_iconst rfl) ?_
      refine v_p H (o := 0) (z := 0) (v := I (0)) rfl rfl rfl rfl rfl rfl rfl rfl (show (-2147483648 : Int) ≤ 0 ∧ 0 ≤ 2147483647 from q_240) (fun σ H Oₚ => ?_)
      have O := OUT_trans O Oₚ
      have cFu9 : SF oz_B0clsl_0 F (updF (updF (updF F_c43 0 2 (1)) 0 3 (0)) 0 4 (0)) := SF_upd (cFu8) rfl
      have mFu9 := SFm_of cFu9 oz_B0cls_1
      exact w_ret rfl (k _ _ _ H O (cFu9) (cA_c43) (u0_1) (((hS_c43 0 1 rfl).trans (eu0_1))) (show 0 ≤ (u0_1) ∧ (u0_1) ≤ (n1) ∧ (n1) ≤ 65536 from h0))
  refine w_ifle (t := 43) rfl rfl (show inr (F 0 4) from q_22 r3) (fun b10 => ?_) (fun b10 => ?_)
  · exact hc43  _ _ _ _  (rfl) H O (SF_refl) (SA_refl)     (show ((F 0 4) ≤ (0)) ∨ ((F 0 4) > (0) ∧ 0 ≤ (n1) ∧ (n1) ≤ 1000000 ∧ (u0_1) ≥ (n1)) from q_2510 b10)
  · refine Ew_of (pcₚ := 8) (fun _ => x_aload_n rfl rfl) ?_
    refine v_g H (o := 0) (v := I (u0_1)) rfl rfl rfl rfl rfl (congrArg (fun z : Int => I z) ((eu0_1) : F 0 1 = u0_1)) ?_
    refine Ew_of (pcₚ := 12) (fun _ => x_aload_n rfl rfl) ?_
    refine v_g H (o := 0) (v := .ref (D 1)) rfl rfl rfl rfl rfl (vrf (pf1)) ?_
    refine v_len H (o := 1) rfl rfl rfl rfl (n := n1) (en1) ?_
    refine w_icmpge (t := 43) rfl rfl (show inr (u0_1) from q_884 h0) (show inr (n1) from q_2511 r2) (fun b11 => ?_) (fun b11 => ?_)
    · exact hc43  _ _ _ _  (rfl) H O (SF_refl) (SA_refl)     (show ((F 0 4) ≤ (0)) ∨ ((F 0 4) > (0) ∧ 0 ≤ (n1) ∧ (n1) ≤ 1000000 ∧ (u0_1) ≥ (n1)) from q_2512 b10 b11 r2)
    · refine Ew_of (pcₚ := 20) (fun _ => x_aload_n rfl rfl) ?_
      refine v_g H (o := 0) (v := .ref (D 1)) rfl rfl rfl rfl rfl (vrf (pf1)) ?_
      refine Ew_of (pcₚ := 24) (fun _ => x_aload_n rfl rfl) ?_
      refine Ew_of (pcₚ := 25) (fun _ => x_dup rfl rfl) ?_
      refine v_g H (o := 0) (v := I (u0_1)) rfl rfl rfl rfl rfl (congrArg (fun z : Int => I z) ((eu0_1) : F 0 1 = u0_1)) ?_
      refine Ew_of (pcₚ := 29) (fun _ => x_dup_x1 rfl rfl) ?_
      refine Ew_of (pcₚ := 30) (fun _ => x_iconst rfl) ?_
      refine w_iadd rfl ?_
      refine v_p H (o := 0) (z := (u0_1 + 1)) (v := I ((u0_1 + 1))) rfl rfl rfl rfl rfl rfl rfl rfl (show (-2147483648 : Int) ≤ (u0_1 + 1) ∧ (u0_1 + 1) ≤ 2147483647 from q_2513 b11 h0) (fun σ H Oₚ => ?_)
      have O := OUT_trans O Oₚ
      have cFu12 : SF oz_B0clsl_0 F (updF F 0 1 ((u0_1 + 1))) := SF_upd (SF_refl) rfl
      have mFu12 := SFm_of cFu12 oz_B0cls_1
      refine Ew_of (pcₚ := 35) (fun _ => x_aload_n rfl rfl) ?_
      have r13 : (-2147483648 : Int) ≤ F 0 3 ∧ F 0 3 ≤ 2147483647 := H.krg 0 3 (ltn len_V165_oz_B0cls rfl)
      refine v_g H (o := 0) (v := I (F 0 3)) rfl rfl rfl rfl rfl (congrArg (fun z : Int => I z) (rfl : (updF F 0 1 ((u0_1 + 1))) 0 3 = F 0 3)) ?_
      refine v_i2b rfl (fun z14 gz14 => ?_)
      refine v_sB H (o := 1) rfl rfl rfl rfl (n := n1) (en1) (show 0 ≤ u0_1 ∧ u0_1 < n1 from q_2514 b11 h0) (fun z15 σ qz15 H Oₚ => ?_)
      have O := OUT_trans O Oₚ
      have cAu16 : SA oz_B0clsl_1 A (updA A 1 (u0_1) (z15)) := SA_upd (SA_refl) rfl
      have mAu16 := SAm_of cAu16 oz_B0cls_3
      refine Ew_of (pcₚ := 55) (fun _ => x_goto rfl rfl) ?_
      refine Ew_of (pcₚ := 56) (fun _ => x_aload_n rfl rfl) ?_
      refine Ew_of (pcₚ := 57) (fun _ => x_iconst rfl) ?_
      refine v_p H (o := 0) (z := 0) (v := I (0)) rfl rfl rfl rfl rfl rfl rfl rfl (show (-2147483648 : Int) ≤ 0 ∧ 0 ≤ 2147483647 from q_240) (fun σ H Oₚ => ?_)
      have O := OUT_trans O Oₚ
      have cFu17 : SF oz_B0clsl_0 F (updF (updF F 0 1 ((u0_1 + 1))) 0 3 (0)) := SF_upd (cFu12) rfl
      have mFu17 := SFm_of cFu17 oz_B0cls_1
      refine Ew_of (pcₚ := 61) (fun _ => x_aload_n rfl rfl) ?_
      refine Ew_of (pcₚ := 62) (fun _ => x_iconst rfl) ?_
      refine v_p H (o := 0) (z := 0) (v := I (0)) rfl rfl rfl rfl rfl rfl rfl rfl (show (-2147483648 : Int) ≤ 0 ∧ 0 ≤ 2147483647 from q_240) (fun σ H Oₚ => ?_)
      have O := OUT_trans O Oₚ
      have cFu18 : SF oz_B0clsl_0 F (updF (updF (updF F 0 1 ((u0_1 + 1))) 0 3 (0)) 0 4 (0)) := SF_upd (cFu17) rfl
      have mFu18 := SFm_of cFu18 oz_B0cls_1
      exact w_ret rfl (k _ _ _ H O (cFu18) (cAu16) ((u0_1 + 1)) (rfl) (show 0 ≤ ((u0_1 + 1)) ∧ ((u0_1 + 1)) ≤ (n1) ∧ (n1) ≤ 65536 from q_2515 b11 h0))
abbrev V157 : vV := [(0, 7, [(4, 0), (0, 0), (1, 0), (0, 0), (0, 0)]), (1, 0, [])]
theorem len_V157_oz_B0cls : (V157).length = 2 := by decide +kernel
def oz_B0clsl_2 : List (Nat × Nat) := [(0, 0)]
theorem oz_B0cls_5 : (oz_B0clsl_2).all (fun p => !tbz 1 (Nat.add (Nat.mul 32 p.1) p.2)) = true := by decide +kernel
/-- Row.reserve: this, this.bytes -/
theorem C157 {σE : rS} {D N : Nat → Nat} {F : hF} {A : hA} {d c s : Nat} {Q : wQ} (H : HW V157 σE D N F A) {a1 : Int} (pf1 : F 0 0 = (D 1 : Int)) (n1 : Int) (en1 : (N 1 : Int) = n1) (u0_1 : Int) (eu0_1 : F 0 1 = u0_1) (w1 : Int → Int) (ew1 : A 1 = w1) (h0 : inr (a1)) (h1 : 0 ≤ (u0_1) ∧ (u0_1) ≤ (n1) ∧ (n1) ≤ 65536) (k : ∀ (z : Int) (σ : rS) (Dₚ Nₚ : Nat → Nat) (Fₚ : hF) (Aₚ : hA) (cₚ sₚ : Nat), HW V157 σ Dₚ Nₚ Fₚ Aₚ → OUT (V157).length D N σE c s Dₚ Nₚ σ cₚ sₚ → SD [1] D Dₚ → SD [1] N Nₚ → SF [(0, 0)] F Fₚ → SA [1] A Aₚ → Fₚ 0 0 = (Dₚ 1 : Int) → ∀ m1 : Int, (Nₚ 1 : Int) = m1 → ∀ v1 : Int → Int, Aₚ 1 = v1 → ((z) = 0 ∨ (z) = 1) → (0 ≤ (u0_1) ∧ (u0_1) ≤ (m1) ∧ (m1) ≤ 65536) → ((z) = 1 ∧ 0 ≤ (a1) ∧ (u0_1) + (a1) ≤ (m1) ∨ (z) = 0 ∧ ((a1) < 0 ∨ 65536 < (u0_1) + (a1))) → ((n1) ≤ (m1)) → (∀ i, (0 : Int) ≤ i → i < (u0_1) → ((v1)) i = ((w1)) i) → Q (some (I z)) σ cₚ sₚ) : Ew 157 (d + 1) 0 (rargs 0 [.ref (D 0), I a1]) [] σE c s Q := by
  have O := OUT_refl (n := (V157).length) (D := D) (N := N) (σ := σE) (c := c) (s := s)
  have HE := H
  have r1 : (-2147483648 : Int) ≤ u0_1 ∧ u0_1 ≤ 2147483647 := rngE (show (-2147483648 : Int) ≤ F 0 1 ∧ F 0 1 ≤ 2147483647 from H.krg 0 1 (ltn len_V157_oz_B0cls rfl)) (show F 0 1 = u0_1 from (eu0_1))
  have r2 : (0 : Int) ≤ n1 ∧ n1 ≤ 1000000 := nleE (H.nle 1 (ltn len_V157_oz_B0cls rfl)) (show (N 1 : Int) = n1 from en1)
  refine Ew_of (pcₚ := 1) (fun _ => x_iload_n rfl rfl) ?_
  refine w_iflt (t := 15) rfl rfl (show inr (a1) from h0) (fun b3 => ?_) (fun b3 => ?_)
  · have : ∀ i, (0 : Int) ≤ i → i < (u0_1) → ((w1)) i = ((w1)) i := fun i a b => rfl
    refine Ew_of (pcₚ := 16) (fun _ => x_iconst rfl) ?_
    exact w_ireturn rfl (k (0) _ _ _ _ _ _ _ H O (SD_refl) (SD_refl) (SF_refl) (SA_refl) (pf1) (n1) (en1) (w1) (ew1) (show (0) = 0 ∨ (0) = 1 by first | exact q_1 | omega) (show 0 ≤ (u0_1) ∧ (u0_1) ≤ (n1) ∧ (n1) ≤ 65536 from h1) (show (0) = 1 ∧ 0 ≤ a1 ∧ (u0_1) + a1 ≤ (n1) ∨ (0) = 0 ∧ (a1 < 0 ∨ 65536 < (u0_1) + a1) by first | exact q_2516 b3 | omega) (show (n1) ≤ (n1) from q_102) (show ∀ i, (0 : Int) ≤ i → i < (u0_1) → ((w1)) i = ((w1)) i by assumption))
  · refine Ew_of (pcₚ := 5) (fun _ => x_iload_n rfl rfl) ?_
    refine Ew_of (pcₚ := 7) (fun _ => x_ldc (z := 65536) rfl (by decide)) ?_
    refine Ew_of (pcₚ := 8) (fun _ => x_aload_n rfl rfl) ?_
    refine v_g H (o := 0) (v := I (u0_1)) rfl rfl rfl rfl rfl (congrArg (fun z : Int => I z) ((eu0_1) : F 0 1 = u0_1)) ?_
    refine w_isub rfl ?_
    refine w_icmple (t := 17) rfl rfl (show inr (a1) from h0) (show inr ((65536 - u0_1)) from q_2517 h1) (fun b4 => ?_) (fun b4 => ?_)
    · refine Ew_of (pcₚ := 18) (fun _ => x_iload_n rfl rfl) ?_
      refine Ew_of (pcₚ := 19) (fun _ => x_aload_n rfl rfl) ?_
      refine v_g H (o := 0) (v := .ref (D 1)) rfl rfl rfl rfl rfl (vrf (pf1)) ?_
      refine v_len H (o := 1) rfl rfl rfl rfl (n := n1) (en1) ?_
      refine Ew_of (pcₚ := 24) (fun _ => x_aload_n rfl rfl) ?_
      refine v_g H (o := 0) (v := I (u0_1)) rfl rfl rfl rfl rfl (congrArg (fun z : Int => I z) ((eu0_1) : F 0 1 = u0_1)) ?_
      refine w_isub rfl ?_
      refine w_icmple (t := 71) rfl rfl (show inr (a1) from h0) (show inr ((n1 - u0_1)) from q_2518 h1 r2) (fun b5 => ?_) (fun b5 => ?_)
      · have : ∀ i, (0 : Int) ≤ i → i < (u0_1) → ((w1)) i = ((w1)) i := by first | assumption | exact fun i a b => rfl
        refine Ew_of (pcₚ := 72) (fun _ => x_iconst rfl) ?_
        exact w_ireturn rfl (k (1) _ _ _ _ _ _ _ H O (SD_refl) (SD_refl) (SF_refl) (SA_refl) (pf1) (n1) (en1) (w1) (ew1) (show (1) = 0 ∨ (1) = 1 by first | exact q_5 | omega) (show 0 ≤ (u0_1) ∧ (u0_1) ≤ (n1) ∧ (n1) ≤ 65536 from h1) (show (1) = 1 ∧ 0 ≤ a1 ∧ (u0_1) + a1 ≤ (n1) ∨ (1) = 0 ∧ (a1 < 0 ∨ 65536 < (u0_1) + a1) by first | exact q_2519 b3 b5 | omega) (show (n1) ≤ (n1) from q_102) (show ∀ i, (0 : Int) ≤ i → i < (u0_1) → ((w1)) i = ((w1)) i by assumption))
      · refine Ew_of (pcₚ := 33) (fun _ => x_ldc (z := 65536) rfl (by decide)) ?_
        refine Ew_of (pcₚ := 36) (fun _ => x_sipush (z := 256) rfl (by decide)) ?_
        refine Ew_of (pcₚ := 37) (fun _ => x_iconst rfl) ?_
        refine Ew_of (pcₚ := 38) (fun _ => x_aload_n rfl rfl) ?_
        refine v_g H (o := 0) (v := .ref (D 1)) rfl rfl rfl rfl rfl (vrf (pf1)) ?_
        refine v_len H (o := 1) rfl rfl rfl rfl (n := n1) (en1) ?_
        refine w_imul rfl ?_
        refine v_max rfl rfl (show inr (256) from q_716) (show inr ((4 * n1)) from q_2520 r2) (fun z6 gz6 => ?_)
        refine v_min rfl rfl (show inr (65536) from q_35) (show inr (z6) from q_2521 gz6 r2) (fun z7 gz7 => ?_)
        refine Ew_of (pcₚ := 50) (fun _ => x_istore_n rfl) ?_
        refine Ew_of (pcₚ := 51) (fun _ => x_aload_n rfl (rk_o (rfl) rfl rfl)) ?_
        refine Ew_of (pcₚ := 52) (fun _ => x_aload_n rfl (rk_o (rfl) rfl rfl)) ?_
        refine v_g H (o := 0) (v := .ref (D 1)) rfl rfl rfl rfl rfl (vrf (pf1)) ?_
        refine Ew_of (pcₚ := 56) (fun _ => x_aload_n rfl (rk_o (rfl) rfl rfl)) ?_
        refine v_g H (o := 0) (v := I (u0_1)) rfl rfl rfl rfl rfl (congrArg (fun z : Int => I z) ((eu0_1) : F 0 1 = u0_1)) ?_
        refine Ew_of (pcₚ := 60) (fun _ => x_iload_n rfl (rk_o (rfl) rfl rfl)) ?_
        refine w_iadd rfl ?_
        refine Ew_of (pcₚ := 62) (fun _ => x_iload_n rfl rk_s) ?_
        refine v_max rfl rfl (show inr ((u0_1 + a1)) from q_2523 b3 b4 h1) (show inr (z7) from q_2522 gz6 gz7) (fun z8 gz8 => ?_)
        have hg := grow_ok (m := (n1)) (n := (z8)) (by omega) (by omega) (by omega)
        have hgC := hg.1
        have hgS := hg.2
        refine v_growB H (p := 0) (k := 0) (t := 1) (n := z8) rfl (by rfl) rfl rfl (fun _ => rfl) rfl rfl rfl rfl (fun z => vrf (z := (z : Int)) rfl) rfl rfl rfl rfl (by decide +kernel) rfl (m := n1) (en1) (show n1 < z8 ∧ z8 ≤ 1000000 from q_2524 b4 b5 gz7 gz8) (show pC (n1 : Int).toNat + 1 ≤ pC (z8 : Int).toNat by assumption) (show pS (n1 : Int).toNat + z8 ≤ pS (z8 : Int).toNat by assumption) (fun σ D9 N9 F9 A9 H Oₚ hD9 hN9 em9 hS9 pm9 hA9 ga9 => ?_)
        have O := OUT_trans O Oₚ
        have ga9 : ∀ i, 0 ≤ i → i < n1 → A9 1 i = (w1) i := fun i a b => (ga9 i a b).trans (congrFun (ew1) i)
        have cF9 : SF oz_B0clsl_2 F F9 := SF_trans (SF_refl) hS9 (any_sub (by decide +kernel))
        have mF9 := SFm_of cF9 oz_B0cls_5
        have cA9 : SA oz_B0clsl_1 A A9 := SA_trans (SA_refl) hA9 (any_subA (by decide +kernel))
        have mA9 := SAm_of cA9 oz_B0cls_3
        have cD9 : SD oz_B0clsl_1 D D9 := SD_trans (SD_refl) hD9 (any_subA (by decide +kernel))
        have mD9 := SDm_of cD9 oz_B0cls_3
        have cN9 : SD oz_B0clsl_1 N N9 := SD_trans (SD_refl) hN9 (any_subA (by decide +kernel))
        have mN9 := SDm_of cN9 oz_B0cls_3
        have pf9_0_0 : F9 0 0 = (D9 1 : Int) := pm9
        have : ∀ i, (0 : Int) ≤ i → i < (u0_1) → ((A9 1)) i = ((w1)) i := fun i a b => ga9 i a (by omega)
        have : ∀ i, (0 : Int) ≤ i → i < (u0_1) → ((A9 1)) i = ((w1)) i := by first | assumption | exact fun i a b => rfl
        refine Ew_of (pcₚ := 72) (fun _ => x_iconst rfl) ?_
        have r10 : (0 : Int) ≤ z8 ∧ z8 ≤ 1000000 := nleE (H.nle 1 (ltn len_V157_oz_B0cls rfl)) (show (N9 1 : Int) = z8 from em9)
        exact w_ireturn rfl (k (1) _ _ _ _ _ _ _ H O (cD9) (cN9) (cF9) (cA9) (pf9_0_0) (z8) (em9) (A9 1) (rfl) (show (1) = 0 ∨ (1) = 1 by first | exact q_5 | omega) (show 0 ≤ (u0_1) ∧ (u0_1) ≤ (z8) ∧ (z8) ≤ 65536 from q_2526 b3 b4 gz7 gz8 h1 r10) (show (1) = 1 ∧ 0 ≤ a1 ∧ (u0_1) + a1 ≤ (z8) ∨ (1) = 0 ∧ (a1 < 0 ∨ 65536 < (u0_1) + a1) by omega) (show (n1) ≤ (z8) from q_2525 b5 gz8 h1 r10) (show ∀ i, (0 : Int) ≤ i → i < (u0_1) → ((A9 1)) i = ((w1)) i by assumption))
    · have : ∀ i, (0 : Int) ≤ i → i < (u0_1) → ((w1)) i = ((w1)) i := fun i a b => rfl
      refine Ew_of (pcₚ := 16) (fun _ => x_iconst rfl) ?_
      exact w_ireturn rfl (k (0) _ _ _ _ _ _ _ H O (SD_refl) (SD_refl) (SF_refl) (SA_refl) (pf1) (n1) (en1) (w1) (ew1) (show (0) = 0 ∨ (0) = 1 by first | exact q_1 | omega) (show 0 ≤ (u0_1) ∧ (u0_1) ≤ (n1) ∧ (n1) ≤ 65536 from h1) (show (0) = 1 ∧ 0 ≤ a1 ∧ (u0_1) + a1 ≤ (n1) ∨ (0) = 0 ∧ (a1 < 0 ∨ 65536 < (u0_1) + a1) by first | exact q_2527 b4 | omega) (show (n1) ≤ (n1) from q_102) (show ∀ i, (0 : Int) ≤ i → i < (u0_1) → ((w1)) i = ((w1)) i by assumption))
