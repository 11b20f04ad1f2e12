abbrev V183 : vV := [(0, 8, [(0, 0), (0, 0), (4, 0), (4, 0), (4, 0), (4, 0), (4, 0), (4, 0), (4, 0), (4, 0), (4, 0), (0, 0), (0, 0)]), (1, 0, [])]
theorem len_V183_oz_E5cls : (V183).length = 2 := by decide +kernel
def oz_E5clsl_0 : List (Nat × Nat) := [(0, 11)]
theorem oz_E5cls_1 : (oz_E5clsl_0).all (fun p => !tbz 2048 (Nat.add (Nat.mul 32 p.1) p.2)) = true := by decide +kernel
def oz_E5clsl_1 : List Nat := []
theorem oz_E5cls_2 : (oz_E5clsl_1).all (fun p => !tbz 0 p) = true := by decide +kernel
/-- Share.takeBits: this, this.in -/
theorem C183 {σE : rS} {D N : Nat → Nat} {F : hF} {A : hA} {d c s : Nat} {Q : wQ} (H : HW V183 σE D N F A) {a1 : Int} (pf1 : F 0 10 = (D 1 : Int)) (n1 : Int) (en1 : (N 1 : Int) = n1) (u0_11 : Int) (eu0_11 : F 0 11 = u0_11) (u0_12 : Int) (eu0_12 : F 0 12 = u0_12) (h0 : inr (a1)) (h1 : 0 ≤ (u0_11) ∧ (u0_11) ≤ (u0_12) ∧ (u0_12) ≤ 8 * (n1) ∧ (n1) ≤ 65536) (h2 : 0 ≤ (a1) ∧ (a1) ≤ 16) (k : ∀ (z : Int) (σ : rS) (Fₚ : hF) (Aₚ : hA), HW V183 σ D N Fₚ Aₚ → OUT (V183).length D N σE c s D N σ c s → SF [(0, 11)] F Fₚ → SA [] A Aₚ → ∀ y0_11 : Int, Fₚ 0 11 = y0_11 → (inr (z)) → ((z) = -1 ∧ (y0_11) = (u0_11) ∨ 0 ≤ (z) ∧ (z) < p2 (a1) ∧ (y0_11) = (u0_11) + (a1) ∧ (y0_11) ≤ (u0_12)) → Q (some (I z)) σ c s) : Ew 183 (d + 0) 0 (rargs 0 [.ref (D 0), I a1]) [] σE c s Q := by
  have O := OUT_refl (n := (V183).length) (D := D) (N := N) (σ := σE) (c := c) (s := s)
  have HE := H
  have r1 : (-2147483648 : Int) ≤ u0_11 ∧ u0_11 ≤ 2147483647 := rngE (show (-2147483648 : Int) ≤ F 0 11 ∧ F 0 11 ≤ 2147483647 from H.krg 0 11 (ltn len_V183_oz_E5cls rfl)) (show F 0 11 = u0_11 from (eu0_11))
  have r2 : (-2147483648 : Int) ≤ u0_12 ∧ u0_12 ≤ 2147483647 := rngE (show (-2147483648 : Int) ≤ F 0 12 ∧ F 0 12 ≤ 2147483647 from H.krg 0 12 (ltn len_V183_oz_E5cls rfl)) (show F 0 12 = u0_12 from (eu0_12))
  have r3 : (0 : Int) ≤ n1 ∧ n1 ≤ 1000000 := nleE (H.nle 1 (ltn len_V183_oz_E5cls rfl)) (show (N 1 : Int) = n1 from en1)
  refine Ew_of (pcₚ := 1) (fun _ => x_aload_n rfl rfl) ?_
  refine v_g H (o := 0) (v := I (u0_12)) rfl rfl rfl rfl rfl (congrArg (fun z : Int => I z) ((eu0_12) : F 0 12 = u0_12)) ?_
  refine Ew_of (pcₚ := 5) (fun _ => x_aload_n rfl rfl) ?_
  refine v_g H (o := 0) (v := I (u0_11)) rfl rfl rfl rfl rfl (congrArg (fun z : Int => I z) ((eu0_11) : F 0 11 = u0_11)) ?_
  refine w_isub rfl ?_
  refine Ew_of (pcₚ := 10) (fun _ => x_iload_n rfl rfl) ?_
  refine w_icmpge (t := 15) rfl rfl (show inr ((u0_12 - u0_11)) from q_3181 h1) (show inr (a1) from h0) (fun b4 => ?_) (fun b4 => ?_)
  · refine Ew_of (pcₚ := 16) (fun _ => x_iconst rfl) ?_
    refine Ew_of (pcₚ := 17) (fun _ => x_istore_n rfl) ?_
    refine Ew_of (pcₚ := 18) (fun _ => x_iconst rfl) ?_
    refine Ew_of (pcₚ := 19) (fun _ => x_istore_n rfl) ?_
    have : p2 0 = 1 := by decide
    suffices hl19 : ∀ (m : Nat), ∀ (ls : rO) (σ : rS) (F_19 : hF) (A_19 : hA) (x19_2 : Int) (x19_3 : Int), rlook ls 0 = some (.ref (D 0)) → rlook ls 1 = some (I (a1)) → rlook ls 2 = some (I (x19_2)) → rlook ls 3 = some (I (x19_3)) → HW V183 σ D N F_19 A_19 → OUT (V183).length D N σE c s D N σ c s → SF [] F F_19 → SA [] A A_19 → (inr (x19_2)) → (inr (x19_3)) → ((0) ≤ (x19_3)) → ((x19_3) ≤ (0) ∨ (x19_3) ≤ ((a1))) → (0 ≤ (x19_2) ∧ (x19_2) < p2 (x19_3)) → (((a1)) - (x19_3)).toNat = m → Ew 183 (d + 0) 19 ls [] σ c s Q from
      hl19 _ _ _ _ _ (0) (0) (rk_o (rk_o (rfl) rfl rfl) rfl rfl) (rk_o (rk_o (rfl) rfl rfl) rfl rfl) (rk_o (rk_s) rfl rfl) (rk_s) H O (SF_refl) (SA_refl)     (show inr (0) from q_20) (show inr (0) from q_20) (show (0) ≤ (0) from q_25) (show (0) ≤ (0) ∨ (0) ≤ ((a1)) from q_24) (show 0 ≤ (0) ∧ (0) < p2 (0) by omega) rfl
    as_aux_lemma =>
    intro m
    induction m using Nat.strongRecOn with
    | _ m ih19 =>
      intro ls σ F_19 A_19 x19_2 x19_3 l19_0 l19_1 l19_2 l19_3 H O hS_19 hA_19     j19_0 j19_1 j19_2 j19_3 j19_4 hm19
      have cF_19 : SF oz_E5clsl_0 F F_19 := SF_trans (SF_refl) hS_19 (any_sub (by decide +kernel))
      have mF_19 := SFm_of cF_19 oz_E5cls_1
      have cA_19 : SA oz_E5clsl_1 A A_19 := SA_trans (SA_refl) hA_19 (any_subA (by decide +kernel))
      have mA_19 := SAm_of cA_19 oz_E5cls_2
      refine Ew_of (pcₚ := 20) (fun _ => x_iload_n rfl l19_3) ?_
      refine Ew_of (pcₚ := 21) (fun _ => x_iload_n rfl l19_1) ?_
      refine w_icmpge (t := 60) rfl rfl (show inr (x19_3) from j19_1) (show inr (a1) from h0) (fun b5 => ?_) (fun b5 => ?_)
      · have hle : (x19_3) = (a1) := q_3182 b5 h2 j19_3
        have hl2 : (x19_2) < p2 (a1) := by rw [← hle]; omega
        refine Ew_of (pcₚ := 61) (fun _ => x_aload_n rfl l19_0) ?_
        refine Ew_of (pcₚ := 62) (fun _ => x_dup rfl rfl) ?_
        refine v_g H (o := 0) (v := I (u0_11)) rfl rfl rfl rfl rfl (congrArg (fun z : Int => I z) (((hS_19 0 11 rfl).trans (eu0_11)) : F_19 0 11 = u0_11)) ?_
        refine Ew_of (pcₚ := 66) (fun _ => x_iload_n rfl l19_1) ?_
        refine w_iadd rfl ?_
        refine v_p H (o := 0) (z := (u0_11 + a1)) (v := I ((u0_11 + a1))) rfl rfl rfl rfl rfl rfl rfl rfl (show (-2147483648 : Int) ≤ (u0_11 + a1) ∧ (u0_11 + a1) ≤ 2147483647 from q_3183 b4 h1 h2) (fun σ H Oₚ => ?_)
        have O := OUT_trans O Oₚ
        have cFu6 : SF oz_E5clsl_0 F (updF F_19 0 11 ((u0_11 + a1))) := SF_upd (cF_19) rfl
        have mFu6 := SFm_of cFu6 oz_E5cls_1
        refine Ew_of (pcₚ := 71) (fun _ => x_iload_n rfl l19_2) ?_
        exact w_ireturn rfl (k (x19_2) _ _ _ H O (cFu6) (cA_19) ((u0_11 + a1)) (rfl) (show inr (x19_2) from j19_0) (show (x19_2) = -1 ∧ ((u0_11 + a1)) = (u0_11) ∨ 0 ≤ (x19_2) ∧ (x19_2) < p2 a1 ∧ ((u0_11 + a1)) = (u0_11) + a1 ∧ ((u0_11 + a1)) ≤ (u0_12) from q_3184 b4 hl2 j19_4))
      · refine Ew_of (pcₚ := 25) (fun _ => x_aload_n rfl l19_0) ?_
        refine v_g H (o := 0) (v := I (u0_11)) rfl rfl rfl rfl rfl (congrArg (fun z : Int => I z) (((hS_19 0 11 rfl).trans (eu0_11)) : F_19 0 11 = u0_11)) ?_
        refine Ew_of (pcₚ := 29) (fun _ => x_iload_n rfl l19_3) ?_
        refine w_iadd rfl ?_
        refine Ew_of (pcₚ := 32) (fun _ => x_istore rfl) ?_
        refine Ew_of (pcₚ := 33) (fun _ => x_iload_n rfl (rk_o (l19_2) rfl rfl)) ?_
        refine Ew_of (pcₚ := 34) (fun _ => x_aload_n rfl (rk_o (l19_0) rfl rfl)) ?_
        refine v_g H (o := 0) (v := .ref (D 1)) rfl rfl rfl rfl rfl (vrf ((mF_19 0 10 rfl).trans (pf1))) ?_
        refine Ew_of (pcₚ := 39) (fun _ => x_iload rfl rk_s) ?_
        refine Ew_of (pcₚ := 40) (fun _ => x_iconst rfl) ?_
        refine w_ishrK 3 8 (by decide) (by decide) rfl (show inr ((u0_11 + x19_3)) from q_3185 b4 b5 h1 j19_2) (fun z7 gz7 dz7 => ?_)
        refine v_lB H (o := 1) rfl rfl rfl rfl (n := n1) (en1) (show 0 ≤ z7 ∧ z7 < n1 by omega) (fun v8 ev8 qv8 => ?_)
        have ev8 : (A 1) (z7) = v8 := (congrFun (funext (mA_19 1 rfl)) (z7)).symm.trans ev8
        refine Ew_of (pcₚ := 44) (fun _ => x_iload rfl rk_s) ?_
        refine Ew_of (pcₚ := 46) (fun _ => x_bipush (z := 7) rfl (by decide)) ?_
        refine w_iand rfl (show inr ((u0_11 + x19_3)) from q_3185 b4 b5 h1 j19_2) (show inr (7) from q_355) (fun z9 gz9 gaz9 gbz9 => ?_)
        refine w_ishrA rfl (fun z10 gz10 => ?_)
        refine Ew_of (pcₚ := 49) (fun _ => x_iconst rfl) ?_
        refine w_iand rfl (show inr (z10) from gz10) (show inr (1) from q_23) (fun z11 gz11 gaz11 gbz11 => ?_)
        refine Ew_of (pcₚ := 51) (fun _ => x_iload_n rfl (rk_o (l19_3) rfl rfl)) ?_
        have hbt : ((z11) : Int) = 0 ∨ ((z11) : Int) = 1 := by omega
        have hml : ((z11) : Int) * p2 ((x19_3)) = 0 ∨ ((z11) : Int) * p2 ((x19_3)) = p2 ((x19_3)) := by rcases hbt with q | q <;> rw [q] <;> omega
        refine w_ishlT rfl (show 0 ≤ x19_3 ∧ x19_3 ≤ 31 from q_3186 b5 h2 j19_2) ?_
        have hps := p2_s (y := (x19_3)) (by omega)
        have hp16 : p2 ((x19_3)) ≤ p2 16 := p2_mono (by omega)
        have hp17 : p2 16 = 65536 := by decide
        have hpp := p2_pos ((x19_3))
        refine w_iorN rfl (show inr (x19_2) from j19_0) (show inr ((z11 * p2 (x19_3))) from q_3187 hml hp16 hp17 j19_4) (fun z13 gz13 dz13 => ?_)
        refine Ew_of (pcₚ := 54) (fun _ => x_istore_n rfl) ?_
        refine Ew_of (pcₚ := 57) (fun _ => x_iinc (len := 3) rfl (rk_o (rk_o (l19_3) rfl rfl) rfl rfl)) ?_
        refine Ew_of (pcₚ := 19) (fun _ => x_goto rfl rfl) ?_
        exact ih19 _ (msE hm19 q_31 (q_34 b5)) _ _ _ _ (z13) ((x19_3 + 1)) (rk_o (rk_o (rk_o (l19_0) rfl rfl) rfl rfl) rfl rfl) (rk_o (rk_o (rk_o (l19_1) rfl rfl) rfl rfl) rfl rfl) (rk_o (rk_s) rfl rfl) (rk_s) H O (hS_19) (hA_19)     (show inr (z13) by omega) (show inr ((x19_3 + 1)) from q_3188 b5 h2 j19_2) (show (0) ≤ ((x19_3 + 1)) from q_29 j19_2) (show ((x19_3 + 1)) ≤ (0) ∨ ((x19_3 + 1)) ≤ ((a1)) from q_33 b5) (show 0 ≤ (z13) ∧ (z13) < p2 ((x19_3 + 1)) by omega) rfl
  · refine Ew_of (pcₚ := 14) (fun _ => x_iconst rfl) ?_
    exact w_ireturn rfl (k ((-1)) _ _ _ H O (SF_refl) (SA_refl) (u0_11) ((eu0_11)) (show inr ((-1)) from q_16) (show ((-1)) = -1 ∧ (u0_11) = (u0_11) ∨ 0 ≤ ((-1)) ∧ ((-1)) < p2 a1 ∧ (u0_11) = (u0_11) + a1 ∧ (u0_11) ≤ (u0_12) by first | exact q_3189 | omega))
