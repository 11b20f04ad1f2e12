abbrev V93_Br : vV := [(0, 2, [(4, 0), (0, 0), (0, 0)]), (1, 0, [])]
theorem len_V93_Br_oz_C6cls : (V93_Br).length = 2 := by decide +kernel
theorem oz_C6cls_1 : vsub V93_Br V45 [] = true := by decide +kernel
def oz_C6clsl_0 : List (Nat × Nat) := [(0, 0), (0, 1), (0, 2)]
theorem oz_C6cls_2 : (oz_C6clsl_0).all (fun p => !tbz 7 (Nat.add (Nat.mul 32 p.1) p.2)) = true := by decide +kernel
def oz_C6clsl_1 : List Nat := []
theorem oz_C6cls_3 : (oz_C6clsl_1).all (fun p => !tbz 0 p) = true := by decide +kernel
theorem oz_C6cls_4 : okc oz_C6clsl_1 0 = true := by decide +kernel

theorem C93_Br {σE : rS} {D N : Nat → Nat} {F : hF} {A : hA} {d c s : Nat} {Q : wQ} (H : HW V93_Br σE D N F A) {a2 a3 : Int} (n1 : Int) (en1 : (N 1 : Int) = n1) (u0_1 : Int) (eu0_1 : F 0 1 = u0_1) (u0_2 : Int) (eu0_2 : F 0 2 = u0_2) (w1 : Int → Int) (ew1 : A 1 = w1) (h0 : inr (a2)) (h1 : inr (a3)) (h2 : 0 ≤ (a2) ∧ (a3) ≤ (n1) ∧ (n1) ≤ 65536 ∧ 0 ≤ (a3) ∧ (a2) ≤ 200000) (k : ∀ (z : Int) (σ : rS) (Fₚ : hF) (Aₚ : hA), HW V93_Br σ D N Fₚ Aₚ → OUT (V93_Br).length D N σE c s D N σ c s → SF [(0, 0), (0, 1), (0, 2)] F Fₚ → SA [] A Aₚ → ∀ y0_1 : Int, Fₚ 0 1 = y0_1 → ∀ y0_2 : Int, Fₚ 0 2 = y0_2 → Fₚ 0 0 = (D 1 : Int) → ((z) = 0 ∨ (z) = 1) → ((y0_1) = (a2)) → ((z) = 0 ∧ (y0_2) = 0 ∨ (z) = 1 ∧ 0 ≤ (y0_2) ∧ (y0_2) < 8 * ((a3) - (a2))) → (OPS (ub8 ((w1))) ((a2)) ((a3)) ((z)) ((y0_2))) → Q (some (I z)) σ c s) : Ew 93 (d + 1) 0 (rargs 0 [.ref (D 0), .ref (D 1), I a2, I a3]) [] σE c s Q := by
  have O := OUT_refl (n := (V93_Br).length) (D := D) (N := N) (σ := σE) (c := c) (s := s)
  have HE := H
  have r1 : (-2147483648 : Int) ≤ u0_1 ∧ u0_1 ≤ 2147483647 := rngE (show (-2147483648 : Int) ≤ F 0 1 ∧ F 0 1 ≤ 2147483647 from H.krg 0 1 (ltn len_V93_Br_oz_C6cls rfl)) (show F 0 1 = u0_1 from (eu0_1))
  have r2 : (-2147483648 : Int) ≤ u0_2 ∧ u0_2 ≤ 2147483647 := rngE (show (-2147483648 : Int) ≤ F 0 2 ∧ F 0 2 ≤ 2147483647 from H.krg 0 2 (ltn len_V93_Br_oz_C6cls rfl)) (show F 0 2 = u0_2 from (eu0_2))
  have r3 : (0 : Int) ≤ n1 ∧ n1 ≤ 1000000 := nleE (H.nle 1 (ltn len_V93_Br_oz_C6cls rfl)) (show (N 1 : Int) = n1 from en1)
  refine Ew_of (pcₚ := 1) (fun _ => x_aload_n rfl rfl) ?_
  refine Ew_of (pcₚ := 2) (fun _ => x_aload_n rfl rfl) ?_
  refine v_p H (o := 0) (z := ((D 1 : Nat) : Int)) (v := .ref (D 1)) rfl rfl rfl rfl rfl rfl (vrf rfl) rfl (show (-1 : Int) ≤ ((D 1 : Nat) : Int) by omega) (fun σ H Oₚ => ?_)
  have O := OUT_trans O Oₚ
  have cFu4 : SF oz_C6clsl_0 F (updF F 0 0 ((D 1 : Nat) : Int)) := SF_upd (SF_refl) rfl
  have mFu4 := SFm_of cFu4 oz_C6cls_2
  refine Ew_of (pcₚ := 6) (fun _ => x_aload_n rfl rfl) ?_
  refine Ew_of (pcₚ := 7) (fun _ => x_iload_n rfl rfl) ?_
  refine v_p H (o := 0) (z := a2) (v := I (a2)) rfl rfl rfl rfl rfl rfl rfl rfl (show (-2147483648 : Int) ≤ a2 ∧ a2 ≤ 2147483647 from q_3027 h2) (fun σ H Oₚ => ?_)
  have O := OUT_trans O Oₚ
  have cFu5 : SF oz_C6clsl_0 F (updF (updF F 0 0 ((D 1 : Nat) : Int)) 0 1 (a2)) := SF_upd (cFu4) rfl
  have mFu5 := SFm_of cFu5 oz_C6cls_2
  refine Ew_of (pcₚ := 11) (fun _ => x_aload_n rfl rfl) ?_
  refine Ew_of (pcₚ := 12) (fun _ => x_iconst rfl) ?_
  refine v_p H (o := 0) (z := 0) (v := I (0)) rfl rfl rfl rfl rfl rfl rfl rfl (show (-2147483648 : Int) ≤ 0 ∧ 0 ≤ 2147483647 from q_22) (fun σ H Oₚ => ?_)
  have O := OUT_trans O Oₚ
  have cFu6 : SF oz_C6clsl_0 F (updF (updF (updF F 0 0 ((D 1 : Nat) : Int)) 0 1 (a2)) 0 2 (0)) := SF_upd (cFu5) rfl
  have mFu6 := SFm_of cFu6 oz_C6cls_2
  refine Ew_of (pcₚ := 16) (fun _ => x_iload_n rfl rfl) ?_
  refine Ew_of (pcₚ := 17) (fun _ => x_iload_n rfl rfl) ?_
  refine w_icmple (t := 28) rfl rfl (show inr (a3) from h1) (show inr (a2) from h0) (fun b7 => ?_) (fun b7 => ?_)
  · refine Ew_of (pcₚ := 29) (fun _ => x_iconst rfl) ?_
    have : OPS (ub8 ((w1))) ((a2)) ((a3)) 0 ((0)) := by first | exact .inl ⟨rfl, .inl (by omega)⟩ | exact .inl ⟨rfl, .inr (by show u8 _ = 0; rw [hv]; unfold u8; omega)⟩
    exact w_ireturn rfl (k (0) _ _ _ H O (cFu6) (SA_refl) (a2) (rfl) (0) (rfl) ((show (updF F 0 0 ((D 1 : Nat) : Int)) 0 0 = ((D 1 : Nat) : Int) from rfl)) (show (0) = 0 ∨ (0) = 1 by first | exact q_45 | omega) (show (a2) = a2 from q_303) (show (0) = 0 ∧ (0) = 0 ∨ (0) = 1 ∧ 0 ≤ (0) ∧ (0) < 8 * (a3 - a2) by first | exact q_3028 | omega) (show OPS (ub8 ((w1))) (a2) (a3) ((0)) ((0)) by assumption))
  · refine Ew_of (pcₚ := 21) (fun _ => x_aload_n rfl rfl) ?_
    refine Ew_of (pcₚ := 22) (fun _ => x_iload_n rfl rfl) ?_
    refine Ew_of (pcₚ := 23) (fun _ => x_iconst rfl) ?_
    refine w_isub rfl ?_
    refine v_lB H (o := 1) rfl rfl rfl rfl (n := n1) (en1) (show 0 ≤ (a3 - 1) ∧ (a3 - 1) < n1 from q_3029 b7 h2) (fun v8 ev8 qv8 => ?_)
    have ev8 : (w1) ((a3 - 1)) = v8 := (congrFun (ew1) ((a3 - 1))).symm.trans ev8
    have hv := ev8
    refine w_ifne (t := 30) rfl rfl (show inr (v8) from q_97 qv8) (fun b9 => ?_) (fun b9 => ?_)
    · refine Ew_of (pcₚ := 31) (fun _ => x_aload_n rfl rfl) ?_
      refine Ew_of (pcₚ := 33) (fun _ => x_bipush (z := 8) rfl (by decide)) ?_
      refine Ew_of (pcₚ := 34) (fun _ => x_iload_n rfl rfl) ?_
      refine Ew_of (pcₚ := 35) (fun _ => x_iload_n rfl rfl) ?_
      refine w_isub rfl ?_
      refine Ew_of (pcₚ := 37) (fun _ => x_iconst rfl) ?_
      refine w_isub rfl ?_
      refine w_imul rfl ?_
      refine Ew_of (pcₚ := 40) (fun _ => x_aload_n rfl rfl) ?_
      refine Ew_of (pcₚ := 41) (fun _ => x_iload_n rfl rfl) ?_
      refine Ew_of (pcₚ := 42) (fun _ => x_iconst rfl) ?_
      refine w_isub rfl ?_
      refine v_lB H (o := 1) rfl rfl rfl rfl (n := n1) (en1) (show 0 ≤ (a3 - 1) ∧ (a3 - 1) < n1 from q_3029 b7 h2) (fun v10 ev10 qv10 => ?_)
      have ev10 : (w1) ((a3 - 1)) = v10 := (congrFun (ew1) ((a3 - 1))).symm.trans ev10
      have hv2 : ub8 ((w1)) ((a3) - 1) = (v10) % 256 := by show u8 _ = _; rw [ev10]; rfl
      refine Ew_of (pcₚ := 47) (fun _ => x_sipush (z := 255) rfl (by decide)) ?_
      refine v_and255 rfl ?_
      refine w_stat25 rfl rfl (by rfl) (C45 (D := puc 0 D) (N := puc 0 N) (HW_subc H oz_C6cls_1 oz_C6cls_4) (show inr ((v10 % 256)) from q_461) (show 1 ≤ ((v10 % 256)) by omega) (fun z11 σ11 F11ₚ A11ₚ Hₚ Oₚ hS11 hA11 pz11_0 pz11_1 pz11_2 => ⟨rfl, ?_⟩))
      refine v_backc (c := c) (s := s) H oz_C6cls_1 oz_C6cls_4 Hₚ Oₚ (fun F11 A11 H Oₚ eF11 eA11 => ?_)
      have O := OUT_trans O Oₚ
      -- PackHouse.highestBit
      have cF11 : SF oz_C6clsl_0 F F11 := SF_trans (cFu6) (SF_gluc (ι := oz_C6clsl_1) oz_C6cls_4 hS11 eF11 (by decide +kernel)) (any_sub (lₚ := []) (by decide +kernel))
      have mF11 := SFm_of cF11 oz_C6cls_2
      have cA11 : SA oz_C6clsl_1 A A11 := SA_trans (SA_refl) (SA_gluc (ι := oz_C6clsl_1) oz_C6cls_4 hA11 eA11 (by decide +kernel)) (any_subA (lₚ := []) (by decide +kernel))
      have mA11 := SAm_of cA11 oz_C6cls_3
      have hh8 : (z11) < 8 := p2_lt (by omega) (by rw [show p2 8 = 256 from by decide]; omega)
      refine w_iadd rfl ?_
      refine v_p H (o := 0) (z := ((8 * ((a3 - a2) - 1)) + z11)) (v := I (((8 * ((a3 - a2) - 1)) + z11))) rfl rfl rfl rfl rfl rfl rfl rfl (show (-2147483648 : Int) ≤ ((8 * ((a3 - a2) - 1)) + z11) ∧ ((8 * ((a3 - a2) - 1)) + z11) ≤ 2147483647 from q_3030 b7 h2 hh8 pz11_1) (fun σ H Oₚ => ?_)
      have O := OUT_trans O Oₚ
      have cFu12 : SF oz_C6clsl_0 F (updF F11 0 2 (((8 * ((a3 - a2) - 1)) + z11))) := SF_upd (cF11) rfl
      have mFu12 := SFm_of cFu12 oz_C6cls_2
      refine Ew_of (pcₚ := 56) (fun _ => x_iconst rfl) ?_
      have : OPS (ub8 ((w1))) ((a2)) ((a3)) 1 ((((8 * ((a3 - a2) - 1)) + z11))) := .inr ⟨rfl, by omega, by rw [hv2]; omega, z11, by omega, by rw [hv2]; omega, by rw [hv2]; omega, by omega⟩
      exact w_ireturn rfl (k (1) _ _ _ H O (cFu12) (cA11) (a2) (((show F11 0 1 = (updF (updF (updF F 0 0 ((D 1 : Nat) : Int)) 0 1 (a2)) 0 2 (0)) 0 1 from (eF11 0 1)))) (((8 * ((a3 - a2) - 1)) + z11)) (rfl) ((((show F11 0 0 = (updF (updF (updF F 0 0 ((D 1 : Nat) : Int)) 0 1 (a2)) 0 2 (0)) 0 0 from (eF11 0 0)))).trans ((show (updF F 0 0 ((D 1 : Nat) : Int)) 0 0 = ((D 1 : Nat) : Int) from rfl))) (show (1) = 0 ∨ (1) = 1 by first | exact q_49 | omega) (show (a2) = a2 from q_303) (show (1) = 0 ∧ (((8 * ((a3 - a2) - 1)) + z11)) = 0 ∨ (1) = 1 ∧ 0 ≤ (((8 * ((a3 - a2) - 1)) + z11)) ∧ (((8 * ((a3 - a2) - 1)) + z11)) < 8 * (a3 - a2) by first | exact q_3031 b7 hh8 pz11_1 | omega) (show OPS (ub8 ((w1))) (a2) (a3) ((1)) ((((8 * ((a3 - a2) - 1)) + z11))) by assumption))
    · refine Ew_of (pcₚ := 29) (fun _ => x_iconst rfl) ?_
      have : OPS (ub8 ((w1))) ((a2)) ((a3)) 0 ((0)) := by first | exact .inl ⟨rfl, .inl (by omega)⟩ | exact .inl ⟨rfl, .inr (by show u8 _ = 0; rw [hv]; unfold u8; omega)⟩
      exact w_ireturn rfl (k (0) _ _ _ H O (cFu6) (SA_refl) (a2) (rfl) (0) (rfl) ((show (updF F 0 0 ((D 1 : Nat) : Int)) 0 0 = ((D 1 : Nat) : Int) from rfl)) (show (0) = 0 ∨ (0) = 1 by first | exact q_45 | omega) (show (a2) = a2 from q_303) (show (0) = 0 ∧ (0) = 0 ∨ (0) = 1 ∧ 0 ≤ (0) ∧ (0) < 8 * (a3 - a2) by first | exact q_3028 | omega) (show OPS (ub8 ((w1))) (a2) (a3) ((0)) ((0)) by assumption))
abbrev V94 : vV := [(0, 2, [(4, 0), (0, 0), (0, 0)]), (1, 0, [])]
theorem len_V94_oz_C6cls : (V94).length = 2 := by decide +kernel
def oz_C6clsl_2 : List (Nat × Nat) := []
theorem oz_C6cls_6 : (oz_C6clsl_2).all (fun p => !tbz 0 (Nat.add (Nat.mul 32 p.1) p.2)) = true := by decide +kernel

theorem C94 {σE : rS} {D N : Nat → Nat} {F : hF} {A : hA} {d c s : Nat} {Q : wQ} (H : HW V94 σE D N F A) {a1 : Int} (pf1 : F 0 0 = (D 1 : Int)) (n1 : Int) (en1 : (N 1 : Int) = n1) (u0_1 : Int) (eu0_1 : F 0 1 = u0_1) (u0_2 : Int) (eu0_2 : F 0 2 = u0_2) (w1 : Int → Int) (ew1 : A 1 = w1) (h0 : inr (a1)) (h1 : 0 ≤ (a1) ∧ (a1) ≤ 31) (h2 : 0 ≤ (u0_1) ∧ (u0_1) ≤ 65536 ∧ (u0_2) ≤ 8 * ((n1) - (u0_1)) ∧ (n1) ≤ 65536) (h3 : -100 ≤ (u0_2)) (k : ∀ (z : Int) (σ : rS) (Fₚ : hF) (Aₚ : hA), HW V94 σ D N Fₚ Aₚ → OUT (V94).length D N σE c s D N σ c s → SF [] F Fₚ → SA [] A Aₚ → (inrJ (z)) → (0 ≤ (z) ∧ (z) < p2 ((a1))) → ((z) = pk (ub8 ((w1))) (8 * (u0_1)) ((u0_2)) ((a1))) → Q (some (J z)) σ c s) : Ew 94 (d + 0) 0 (rargs 0 [.ref (D 0), I a1]) [] σE c s Q := by
  have O := OUT_refl (n := (V94).length) (D := D) (N := N) (σ := σE) (c := c) (s := s)
  have HE := H
  have r1 : (-2147483648 : Int) ≤ u0_1 ∧ u0_1 ≤ 2147483647 := rngE (show (-2147483648 : Int) ≤ F 0 1 ∧ F 0 1 ≤ 2147483647 from H.krg 0 1 (ltn len_V94_oz_C6cls rfl)) (show F 0 1 = u0_1 from (eu0_1))
  have r2 : (-2147483648 : Int) ≤ u0_2 ∧ u0_2 ≤ 2147483647 := rngE (show (-2147483648 : Int) ≤ F 0 2 ∧ F 0 2 ≤ 2147483647 from H.krg 0 2 (ltn len_V94_oz_C6cls rfl)) (show F 0 2 = u0_2 from (eu0_2))
  have r3 : (0 : Int) ≤ n1 ∧ n1 ≤ 1000000 := nleE (H.nle 1 (ltn len_V94_oz_C6cls rfl)) (show (N 1 : Int) = n1 from en1)
  have hps0 := p2_pos ((a1))
  refine Ew_of (pcₚ := 1) (fun _ => x_aload_n rfl rfl) ?_
  refine v_g H (o := 0) (v := I (u0_2)) rfl rfl rfl rfl rfl (congrArg (fun z : Int => I z) ((eu0_2) : F 0 2 = u0_2)) ?_
  refine Ew_of (pcₚ := 5) (fun _ => x_iload_n rfl rfl) ?_
  have hc18 : ∀ (tc18_0 : Int), ∀ (ls : rO) (σ : rS) (F_c18 : hF) (A_c18 : hA) , rlook ls 0 = some (.ref (D 0)) → rlook ls 1 = some (I (a1)) → HW V94 σ D N F_c18 A_c18 → OUT (V94).length D N σE c s D N σ c s → SF [] F F_c18 → SA [] A A_c18 → (inr (tc18_0)) → (((u0_2) ≤ (a1) ∧ (tc18_0) = (0)) ∨ ((u0_2) > (a1) ∧ (tc18_0) = ((u0_2 - a1)))) → Ew 94 (d + 0) 18 ls [I (tc18_0)] σ c s Q := by
   as_aux_lemma =>
    intro tc18_0 ls σ F_c18 A_c18  lc18_0 lc18_1 H O hS_c18 hA_c18     jc18_0 jc18_1
    have cF_c18 : SF oz_C6clsl_2 F F_c18 := SF_trans (SF_refl) hS_c18 (any_sub (by decide +kernel))
    have mF_c18 := SFm_of cF_c18 oz_C6cls_6
    have cA_c18 : SA oz_C6clsl_1 A A_c18 := SA_trans (SA_refl) hA_c18 (any_subA (by decide +kernel))
    have mA_c18 := SAm_of cA_c18 oz_C6cls_3
    refine Ew_of (pcₚ := 19) (fun _ => x_istore_n rfl) ?_
    refine Ew_of (pcₚ := 20) (fun _ => x_aload_n rfl (rk_o (lc18_0) rfl rfl)) ?_
    refine v_g H (o := 0) (v := I (u0_2)) rfl rfl rfl rfl rfl (congrArg (fun z : Int => I z) (((mF_c18 0 2 rfl).trans (eu0_2)) : F_c18 0 2 = u0_2)) ?_
    refine Ew_of (pcₚ := 24) (fun _ => x_iload_n rfl rk_s) ?_
    refine w_isub rfl ?_
    refine Ew_of (pcₚ := 26) (fun _ => x_istore_n rfl) ?_
    refine Ew_of (pcₚ := 27) (fun _ => x_iload_n rfl rk_s) ?_
    refine w_ifgt (t := 32) rfl rfl (show inr ((u0_2 - tc18_0)) from q_3032 h1 h3 jc18_1) (fun b4 => ?_) (fun b4 => ?_)
    · refine Ew_of (pcₚ := 33) (fun _ => x_iload_n rfl (rk_o (rk_s) rfl rfl)) ?_
      refine Ew_of (pcₚ := 34) (fun _ => x_iconst rfl) ?_
      refine w_ishrK 3 8 (by decide) (by decide) rfl (show inr (tc18_0) from jc18_0) (fun z5 gz5 dz5 => ?_)
      refine Ew_of (pcₚ := 37) (fun _ => x_istore rfl) ?_
      refine Ew_of (pcₚ := 38) (fun _ => x_aload_n rfl (rk_o (rk_o (rk_o (lc18_0) rfl rfl) rfl rfl) rfl rfl)) ?_
      refine v_g H (o := 0) (v := I (u0_2)) rfl rfl rfl rfl rfl (congrArg (fun z : Int => I z) (((mF_c18 0 2 rfl).trans (eu0_2)) : F_c18 0 2 = u0_2)) ?_
      refine Ew_of (pcₚ := 42) (fun _ => x_iconst rfl) ?_
      refine w_isub rfl ?_
      refine Ew_of (pcₚ := 44) (fun _ => x_iconst rfl) ?_
      refine w_ishrK 3 8 (by decide) (by decide) rfl (show inr ((u0_2 - 1)) from q_3033 h2 h3) (fun z6 gz6 dz6 => ?_)
      refine Ew_of (pcₚ := 47) (fun _ => x_istore rfl) ?_
      obtain ⟨q5, hq5⟩ : ∃ q : Int, q = (z6) := ⟨_, rfl⟩
      refine Ew_of (pcₚ := 48) (fun _ => x_lconst (z := 0) rfl (by decide)) ?_
      refine Ew_of (pcₚ := 50) (fun _ => x_lstore rfl) ?_
      refine Ew_of (pcₚ := 52) (fun _ => x_iload rfl (rk2_o (rk_s) rfl rfl)) ?_
      refine Ew_of (pcₚ := 54) (fun _ => x_istore rfl) ?_
      have : (0 : Int) = nvl (ub8 ((w1))) ((u0_1) + (z6) + 1) (q5 - (z6) : Int).toNat := by rw [show q5 - (z6) = 0 by omega]; rfl
      suffices hl54 : ∀ (m : Nat), ∀ (ls : rO) (σ : rS) (F_54 : hF) (A_54 : hA) (x54_6 : Int) (x54_8 : Int), rlook ls 0 = some (.ref (D 0)) → rlook ls 1 = some (I (a1)) → rlook ls 2 = some (I (tc18_0)) → rlook ls 3 = some (I ((u0_2 - tc18_0))) → rlook ls 4 = some (I (z5)) → rlook ls 6 = some (J (x54_6)) → rlook ls 8 = some (I (x54_8)) → HW V94 σ D N F_54 A_54 → OUT (V94).length D N σE c s D N σ c s → SF [] F_c18 F_54 → SA [] A_c18 A_54 → (inrJ (x54_6)) → (inr (x54_8)) → ((z5) - 1 ≤ (x54_8) ∧ (x54_8) ≤ q5) → ((x54_6) = nvl (ub8 ((w1))) ((u0_1) + (x54_8) + 1) (q5 - (x54_8) : Int).toNat) → ((x54_8) - (z5) + 1).toNat = m → Ew 94 (d + 0) 54 ls [] σ c s Q from
        hl54 _ _ _ _ _ (0) (z6) (rk_o (rk2_o (rk_o (rk_o (rk_o (rk_o (lc18_0) rfl rfl) rfl rfl) rfl rfl) rfl rfl) rfl rfl) rfl rfl) (rk_o (rk2_o (rk_o (rk_o (rk_o (rk_o (lc18_1) rfl rfl) rfl rfl) rfl rfl) rfl rfl) rfl rfl) rfl rfl) (rk_o (rk2_o (rk_o (rk_o (rk_o (rk_s) rfl rfl) rfl rfl) rfl rfl) rfl rfl) rfl rfl) (rk_o (rk2_o (rk_o (rk_o (rk_s) rfl rfl) rfl rfl) rfl rfl) rfl rfl) (rk_o (rk2_o (rk_o (rk_s) rfl rfl) rfl rfl) rfl rfl) (rk_o (rk2_s) rfl rfl) (rk_s) H O (SF_refl) (SA_refl)     (show inrJ (0) from q_340) (show inr (z6) from gz6) (show (z5) - 1 ≤ (z6) ∧ (z6) ≤ q5 by omega) (show (0) = nvl (ub8 ((w1))) ((u0_1) + (z6) + 1) (q5 - (z6) : Int).toNat by assumption) rfl
      as_aux_lemma =>
      intro m
      induction m using Nat.strongRecOn with
      | _ m ih54 =>
        intro ls σ F_54 A_54 x54_6 x54_8 l54_0 l54_1 l54_2 l54_3 l54_4 l54_6 l54_8 H O hS_54 hA_54     j54_0 j54_1 j54_2 j54_3 hm54
        have cF_54 : SF oz_C6clsl_2 F F_54 := SF_trans (cF_c18) hS_54 (any_sub (by decide +kernel))
        have mF_54 := SFm_of cF_54 oz_C6cls_6
        have cA_54 : SA oz_C6clsl_1 A A_54 := SA_trans (cA_c18) hA_54 (any_subA (by decide +kernel))
        have mA_54 := SAm_of cA_54 oz_C6cls_3
        have j54_v : (x54_6) = nvl (ub8 ((w1))) ((u0_1) + (x54_8) + 1) (q5 - (x54_8) : Int).toNat := by assumption
        refine Ew_of (pcₚ := 56) (fun _ => x_iload rfl l54_8) ?_
        refine Ew_of (pcₚ := 58) (fun _ => x_iload rfl l54_4) ?_
        refine w_icmplt (t := 92) rfl rfl (show inr (x54_8) from j54_1) (show inr (z5) from gz5) (fun b7 => ?_) (fun b7 => ?_)
        · refine Ew_of (pcₚ := 94) (fun _ => x_lload rfl l54_6) ?_
          refine Ew_of (pcₚ := 95) (fun _ => x_iload_n rfl l54_2) ?_
          refine Ew_of (pcₚ := 97) (fun _ => x_bipush (z := 7) rfl (by decide)) ?_
          refine w_iandG rfl ?_
          have g8 : inr (andI (tc18_0) (7)) := toI_inr _
          refine w_lushrE rfl ?_
          have g9 : inrJ (usJ (x54_6) ((andI (tc18_0) (7)))) := toJ_inr _
          refine Ew_of (pcₚ := 100) (fun _ => x_lconst (z := 1) rfl (by decide)) ?_
          refine Ew_of (pcₚ := 101) (fun _ => x_iload_n rfl l54_3) ?_
          have hp63 : p2 (((u0_2 - tc18_0))) ≤ p2 31 := p2_mono (by omega)
          have : p2 31 = 2147483648 := by decide
          have := p2_pos (((u0_2 - tc18_0)))
          refine w_lshl1 rfl (show 0 ≤ (u0_2 - tc18_0) ∧ (u0_2 - tc18_0) ≤ 63 from q_3034 b4 h1 jc18_1) ?_
          refine Ew_of (pcₚ := 103) (fun _ => x_lconst (z := 1) rfl (by decide)) ?_
          refine w_lsub rfl ?_
          refine w_landE rfl ?_
          have g11 : inrJ (anJ ((usJ (x54_6) ((andI (tc18_0) (7))))) ((p2 ((u0_2 - tc18_0)) - 1))) := toJ_inr _
          have hmod : ((anJ ((usJ (x54_6) ((andI (tc18_0) (7))))) ((p2 ((u0_2 - tc18_0)) - 1)))) = usJ ((x54_6)) (andI ((tc18_0)) 7) % p2 (((u0_2 - tc18_0))) := anJ_m (by have := nvl_5 (I := ub8 ((w1))) (a := (u0_1) + (x54_8) + 1) (n := q5 - (x54_8)) (by omega); rw [← j54_v] at this; rw [andI_7, usJ_d (by omega) (by omega)]; exact ⟨Int.ediv_nonneg (by omega) (by have := p2_pos ((tc18_0) % 8); omega), Int.lt_of_le_of_lt (Int.ediv_le_self _ (by omega)) (by omega)⟩) (by omega)
          have hmr : 0 ≤ ((anJ ((usJ (x54_6) ((andI (tc18_0) (7))))) ((p2 ((u0_2 - tc18_0)) - 1)))) ∧ ((anJ ((usJ (x54_6) ((andI (tc18_0) (7))))) ((p2 ((u0_2 - tc18_0)) - 1)))) < p2 (((u0_2 - tc18_0))) := by rw [hmod]; exact ⟨Int.emod_nonneg _ (by omega), Int.emod_lt_of_pos _ (by omega)⟩
          refine Ew_of (pcₚ := 106) (fun _ => x_iload_n rfl l54_1) ?_
          refine Ew_of (pcₚ := 107) (fun _ => x_iload_n rfl l54_3) ?_
          refine w_isub rfl ?_
          have hpk := peek_ok (z := ((anJ ((usJ (x54_6) ((andI (tc18_0) (7))))) ((p2 ((u0_2 - tc18_0)) - 1))))) (n := (a1)) (b := ((u0_2 - tc18_0))) (by omega) (by omega) (by omega) (by omega)
          have hpm : p2 ((a1)) ≤ p2 31 := p2_mono (by omega)
          have : p2 31 = 2147483648 := by decide
          have hps := p2_pos ((a1))
          refine w_lshlT rfl (show 0 ≤ (a1 - (u0_2 - tc18_0)) ∧ (a1 - (u0_2 - tc18_0)) ≤ 63 from q_3035 b4 h1 jc18_1) ?_
          have : (((anJ ((usJ (x54_6) ((andI (tc18_0) (7))))) ((p2 ((u0_2 - tc18_0)) - 1))) * p2 ((a1 - (u0_2 - tc18_0))))) = pk (ub8 ((w1))) (8 * (u0_1)) ((u0_2)) ((a1)) := pk_c (fun i => u8_rng _) (first := (x54_8) + 1) (m := q5 - (x54_8)) j54_v (by omega) (by omega) rfl (by omega) (by omega) (by omega) (by omega) rfl
          exact w_lreturn rfl (k (((anJ ((usJ (x54_6) ((andI (tc18_0) (7))))) ((p2 ((u0_2 - tc18_0)) - 1))) * p2 ((a1 - (u0_2 - tc18_0))))) _ _ _ H O (cF_54) (cA_54) (show inrJ (((anJ ((usJ (x54_6) ((andI (tc18_0) (7))))) ((p2 ((u0_2 - tc18_0)) - 1))) * p2 ((a1 - (u0_2 - tc18_0))))) by omega) (show 0 ≤ (((anJ ((usJ (x54_6) ((andI (tc18_0) (7))))) ((p2 ((u0_2 - tc18_0)) - 1))) * p2 ((a1 - (u0_2 - tc18_0))))) ∧ (((anJ ((usJ (x54_6) ((andI (tc18_0) (7))))) ((p2 ((u0_2 - tc18_0)) - 1))) * p2 ((a1 - (u0_2 - tc18_0))))) < p2 (a1) by omega) (show (((anJ ((usJ (x54_6) ((andI (tc18_0) (7))))) ((p2 ((u0_2 - tc18_0)) - 1))) * p2 ((a1 - (u0_2 - tc18_0))))) = pk (ub8 ((w1))) (8 * (u0_1)) ((u0_2)) (a1) by assumption))
        · refine Ew_of (pcₚ := 63) (fun _ => x_lload rfl l54_6) ?_
          refine Ew_of (pcₚ := 65) (fun _ => x_bipush (z := 8) rfl (by decide)) ?_
          refine w_lshlE rfl ?_
          have g13 : inrJ (shlJ (x54_6) (8)) := toJ_inr _
          refine Ew_of (pcₚ := 67) (fun _ => x_aload_n rfl l54_0) ?_
          refine v_g H (o := 0) (v := .ref (D 1)) rfl rfl rfl rfl rfl (vrf ((mF_54 0 0 rfl).trans (pf1))) ?_
          refine Ew_of (pcₚ := 71) (fun _ => x_aload_n rfl l54_0) ?_
          refine v_g H (o := 0) (v := I (u0_1)) rfl rfl rfl rfl rfl (congrArg (fun z : Int => I z) (((mF_54 0 1 rfl).trans (eu0_1)) : F_54 0 1 = u0_1)) ?_
          refine Ew_of (pcₚ := 76) (fun _ => x_iload rfl l54_8) ?_
          refine w_iadd rfl ?_
          refine v_lB H (o := 1) rfl rfl rfl rfl (n := n1) (en1) (show 0 ≤ (u0_1 + x54_8) ∧ (u0_1 + x54_8) < n1 by omega) (fun v14 ev14 qv14 => ?_)
          have ev14 : (w1) ((u0_1 + x54_8)) = v14 := (congrFun ((funext (mA_54 1 rfl)).trans (ew1)) ((u0_1 + x54_8))).symm.trans ev14
          have hv := ev14
          refine Ew_of (pcₚ := 81) (fun _ => x_sipush (z := 255) rfl (by decide)) ?_
          refine w_iandG rfl ?_
          have g15 : inr (andI (v14) (255)) := toI_inr _
          refine w_i2l rfl (show inr ((andI (v14) (255))) from g15) ?_
          refine w_lorE rfl ?_
          have g16 : inrJ (orJ ((shlJ (x54_6) (8))) ((andI (v14) (255)))) := toJ_inr _
          have : ((orJ ((shlJ (x54_6) (8))) ((andI (v14) (255))))) = nvl (ub8 ((w1))) ((u0_1) + ((x54_8) + (-1)) + 1) (q5 - ((x54_8) + (-1)) : Int).toNat := pk_s j54_v (by omega) (by omega) hv (by omega) (by omega)
          refine Ew_of (pcₚ := 86) (fun _ => x_lstore rfl) ?_
          refine Ew_of (pcₚ := 89) (fun _ => x_iinc (len := 3) rfl (rk2_o (l54_8) rfl rfl)) ?_
          refine Ew_of (pcₚ := 54) (fun _ => x_goto rfl rfl) ?_
          exact ih54 _ (msE hm54 q_851 (q_852 b7)) _ _ _ _ ((orJ ((shlJ (x54_6) (8))) ((andI (v14) (255))))) ((x54_8 + (-1))) (rk_o (rk2_o (l54_0) rfl rfl) rfl rfl) (rk_o (rk2_o (l54_1) rfl rfl) rfl rfl) (rk_o (rk2_o (l54_2) rfl rfl) rfl rfl) (rk_o (rk2_o (l54_3) rfl rfl) rfl rfl) (rk_o (rk2_o (l54_4) rfl rfl) rfl rfl) (rk_o (rk2_s) rfl rfl) (rk_s) H O (hS_54) (hA_54)     (show inrJ ((orJ ((shlJ (x54_6) (8))) ((andI (v14) (255))))) from g16) (show inr ((x54_8 + (-1))) by omega) (show (z5) - 1 ≤ ((x54_8 + (-1))) ∧ ((x54_8 + (-1))) ≤ q5 from q_3036 b7 j54_2) (show ((orJ ((shlJ (x54_6) (8))) ((andI (v14) (255))))) = nvl (ub8 ((w1))) ((u0_1) + ((x54_8 + (-1))) + 1) (q5 - ((x54_8 + (-1))) : Int).toNat by assumption) rfl
    · refine Ew_of (pcₚ := 31) (fun _ => x_lconst (z := 0) rfl (by decide)) ?_
      have : (0 : Int) = pk (ub8 ((w1))) (8 * (u0_1)) ((u0_2)) ((a1)) := by by_cases hz : (u0_2) ≤ 0; exact Eq.symm (pk_0 hz (show (0 : Int) ≤ (a1) from q_3037 h1)); exact Eq.symm (pk_z0 (show ((a1) : Int) = 0 by omega) (show 0 ≤ (u0_2) by omega))
      exact w_lreturn rfl (k (0) _ _ _ H O (cF_c18) (cA_c18) (show inrJ (0) from q_340) (show 0 ≤ (0) ∧ (0) < p2 (a1) by omega) (show (0) = pk (ub8 ((w1))) (8 * (u0_1)) ((u0_2)) (a1) by assumption))
  refine w_icmple (t := 17) rfl rfl (show inr (u0_2) from q_3038 h2 h3) (show inr (a1) from h0) (fun b17 => ?_) (fun b17 => ?_)
  · refine Ew_of (pcₚ := 18) (fun _ => x_iconst rfl) ?_
    exact hc18 (0) _ _ _ _  (rfl) (rfl) H O (SF_refl) (SA_refl)     (show inr (0) from q_2) (show ((u0_2) ≤ (a1) ∧ (0) = (0)) ∨ ((u0_2) > (a1) ∧ (0) = ((u0_2 - a1))) from q_3039 b17)
  · refine Ew_of (pcₚ := 9) (fun _ => x_aload_n rfl rfl) ?_
    refine v_g H (o := 0) (v := I (u0_2)) rfl rfl rfl rfl rfl (congrArg (fun z : Int => I z) ((eu0_2) : F 0 2 = u0_2)) ?_
    refine Ew_of (pcₚ := 13) (fun _ => x_iload_n rfl rfl) ?_
    refine w_isub rfl ?_
    refine Ew_of (pcₚ := 18) (fun _ => x_goto rfl rfl) ?_
    exact hc18 ((u0_2 - a1)) _ _ _ _  (rfl) (rfl) H O (SF_refl) (SA_refl)     (show inr ((u0_2 - a1)) from q_3041 b17 h1 h2) (show ((u0_2) ≤ (a1) ∧ ((u0_2 - a1)) = (0)) ∨ ((u0_2) > (a1) ∧ ((u0_2 - a1)) = ((u0_2 - a1))) from q_3040 b17)
abbrev V95 : vV := [(0, 2, [(4, 0), (0, 0), (0, 0)]), (1, 0, [])]
theorem len_V95_oz_C6cls : (V95).length = 2 := by decide +kernel
theorem oz_C6cls_8 : vsub V95 V94 [0, 1] = true := by decide +kernel
def oz_C6clsl_3 : List (Nat × Nat) := [(0, 2)]
theorem oz_C6cls_9 : (oz_C6clsl_3).all (fun p => !tbz 4 (Nat.add (Nat.mul 32 p.1) p.2)) = true := by decide +kernel
def oz_C6clsl_4 : List Nat := [0, 1]
theorem oz_C6cls_10 : okc oz_C6clsl_4 512 = true := by decide +kernel

theorem C95 {σE : rS} {D N : Nat → Nat} {F : hF} {A : hA} {d c s : Nat} {Q : wQ} (H : HW V95 σE D N F A) {a1 : Int} (pf1 : F 0 0 = (D 1 : Int)) (n1 : Int) (en1 : (N 1 : Int) = n1) (u0_1 : Int) (eu0_1 : F 0 1 = u0_1) (u0_2 : Int) (eu0_2 : F 0 2 = u0_2) (w1 : Int → Int) (ew1 : A 1 = w1) (h0 : inr (a1)) (h1 : 0 ≤ (a1) ∧ (a1) ≤ 31) (h2 : 0 ≤ (u0_1) ∧ (u0_1) ≤ 65536 ∧ (u0_2) ≤ 8 * ((n1) - (u0_1)) ∧ (n1) ≤ 65536) (h3 : -100 ≤ (u0_2)) (k : ∀ (z : Int) (σ : rS) (Fₚ : hF) (Aₚ : hA), HW V95 σ D N Fₚ Aₚ → OUT (V95).length D N σE c s D N σ c s → SF [(0, 2)] F Fₚ → SA [] A Aₚ → ∀ y0_2 : Int, Fₚ 0 2 = y0_2 → (inrJ (z)) → (0 ≤ (z) ∧ (z) < p2 ((a1))) → ((y0_2) = (u0_2) - (a1)) → ((z) = pk (ub8 ((w1))) (8 * (u0_1)) ((u0_2)) ((a1))) → Q (some (J z)) σ c s) : Ew 95 (d + 1) 0 (rargs 0 [.ref (D 0), I a1]) [] σE c s Q := by
  have O := OUT_refl (n := (V95).length) (D := D) (N := N) (σ := σE) (c := c) (s := s)
  have HE := H
  have r1 : (-2147483648 : Int) ≤ u0_1 ∧ u0_1 ≤ 2147483647 := rngE (show (-2147483648 : Int) ≤ F 0 1 ∧ F 0 1 ≤ 2147483647 from H.krg 0 1 (ltn len_V95_oz_C6cls rfl)) (show F 0 1 = u0_1 from (eu0_1))
  have r2 : (-2147483648 : Int) ≤ u0_2 ∧ u0_2 ≤ 2147483647 := rngE (show (-2147483648 : Int) ≤ F 0 2 ∧ F 0 2 ≤ 2147483647 from H.krg 0 2 (ltn len_V95_oz_C6cls rfl)) (show F 0 2 = u0_2 from (eu0_2))
  have r3 : (0 : Int) ≤ n1 ∧ n1 ≤ 1000000 := nleE (H.nle 1 (ltn len_V95_oz_C6cls rfl)) (show (N 1 : Int) = n1 from en1)
  refine Ew_of (pcₚ := 1) (fun _ => x_aload_n rfl rfl) ?_
  refine Ew_of (pcₚ := 2) (fun _ => x_iload_n rfl rfl) ?_
  refine v_inv H (o := 0) rfl rfl rfl rfl rfl rfl (by rfl) (C94 (D := puc 512 D) (N := puc 512 N) (HW_subc H oz_C6cls_8 oz_C6cls_10) (pf1) (n1) (en1) (u0_1) ((eu0_1)) (u0_2) ((eu0_2)) (w1) (ew1) (show inr (a1) from h0) (show 0 ≤ (a1) ∧ (a1) ≤ 31 from h1) (show 0 ≤ (u0_1) ∧ (u0_1) ≤ 65536 ∧ (u0_2) ≤ 8 * ((n1) - (u0_1)) ∧ (n1) ≤ 65536 from h2) (show -100 ≤ (u0_2) from h3) (fun z4 σ4 F4ₚ A4ₚ Hₚ Oₚ hS4 hA4 pz4_0 pz4_1 pz4_2 => ⟨rfl, ?_⟩))
  refine v_backc (c := c) (s := s) H oz_C6cls_8 oz_C6cls_10 Hₚ Oₚ (fun F4 A4 H Oₚ eF4 eA4 => ?_)
  have O := OUT_trans O Oₚ
  -- BitSource.peek
  have cF4 : SF oz_C6clsl_3 F F4 := SF_trans (SF_refl) (SF_gluc (ι := oz_C6clsl_4) oz_C6cls_10 hS4 eF4 (by decide +kernel)) (any_sub (lₚ := []) (by decide +kernel))
  have mF4 := SFm_of cF4 oz_C6cls_9
  have cA4 : SA oz_C6clsl_1 A A4 := SA_trans (SA_refl) (SA_gluc (ι := oz_C6clsl_4) oz_C6cls_10 hA4 eA4 (by decide +kernel)) (any_subA (lₚ := []) (by decide +kernel))
  have mA4 := SAm_of cA4 oz_C6cls_3
  have hpk := pz4_2
  refine Ew_of (pcₚ := 6) (fun _ => x_lstore_n rfl) ?_
  refine Ew_of (pcₚ := 7) (fun _ => x_aload_n rfl (rk2_o (rfl) rfl rfl)) ?_
  refine Ew_of (pcₚ := 8) (fun _ => x_dup rfl rfl) ?_
  refine v_g H (o := 0) (v := I (u0_2)) rfl rfl rfl rfl rfl (congrArg (fun z : Int => I z) ((((show F4 0 2 = F 0 2 from (eF4 0 2).trans (hS4 0 2 rfl))).trans (eu0_2)) : F4 0 2 = u0_2)) ?_
  refine Ew_of (pcₚ := 12) (fun _ => x_iload_n rfl (rk2_o (rfl) rfl rfl)) ?_
  refine w_isub rfl ?_
  refine v_p H (o := 0) (z := (u0_2 - a1)) (v := I ((u0_2 - a1))) rfl rfl rfl rfl rfl rfl rfl rfl (show (-2147483648 : Int) ≤ (u0_2 - a1) ∧ (u0_2 - a1) ≤ 2147483647 from q_3042 h1 h2 h3) (fun σ H Oₚ => ?_)
  have O := OUT_trans O Oₚ
  have cFu5 : SF oz_C6clsl_3 F (updF F4 0 2 ((u0_2 - a1))) := SF_upd (cF4) rfl
  have mFu5 := SFm_of cFu5 oz_C6cls_9
  refine Ew_of (pcₚ := 17) (fun _ => x_lload_n rfl rk2_s) ?_
  have : (z4) = pk (ub8 ((w1))) (8 * (u0_1)) ((u0_2)) ((a1)) := hpk
  exact w_lreturn rfl (k (z4) _ _ _ H O (cFu5) (cA4) ((u0_2 - a1)) (rfl) (show inrJ (z4) from pz4_0) (show 0 ≤ (z4) ∧ (z4) < p2 (a1) from pz4_1) (show ((u0_2 - a1)) = (u0_2) - a1 from q_1568) (pz4_2))
abbrev V188 : vV := [(0, 9, [(4, 0), (4, 0), (4, 0)]), (1, 2, [])]
theorem len_V188_oz_C6cls : (V188).length = 2 := by decide +kernel

theorem C188 {σE : rS} {D N : Nat → Nat} {F : hF} {A : hA} {d c s : Nat} {Q : wQ} (H : HW V188 σE D N F A) {a1 a2 : Int} (pf1 : F 0 2 = (D 1 : Int)) (n1 : Int) (en1 : (N 1 : Int) = n1) (w1 : Int → Int) (ew1 : A 1 = w1) (h0 : inr (a1)) (h1 : inr (a2)) (h2 : 1 ≤ (a1) ∧ (a1) ≤ 3) (h3 : (n1) = 3) (k : ∀ (z : Int) (σ : rS) (Fₚ : hF) (Aₚ : hA), HW V188 σ D N Fₚ Aₚ → OUT (V188).length D N σE c s D N σ c s → SF [] F Fₚ → SA [] A Aₚ → (inrJ (z)) → (LBY ((a1)) ((a2)) ((w1)) ((z))) → Q (some (J z)) σ c s) : Ew 188 (d + 0) 0 (rargs 0 [.ref (D 0), I a1, I a2]) [] σE c s Q := by
  have O := OUT_refl (n := (V188).length) (D := D) (N := N) (σ := σE) (c := c) (s := s)
  have HE := H
  have r1 : (0 : Int) ≤ n1 ∧ n1 ≤ 1000000 := nleE (H.nle 1 (ltn len_V188_oz_C6cls rfl)) (show (N 1 : Int) = n1 from en1)
  refine Ew_of (pcₚ := 1) (fun _ => x_iload_n rfl rfl) ?_
  have hc11 : ∀ (tc11_0 : Int), ∀ (ls : rO) (σ : rS) (F_c11 : hF) (A_c11 : hA) , rlook ls 0 = some (.ref (D 0)) → HW V188 σ D N F_c11 A_c11 → OUT (V188).length D N σE c s D N σ c s → SF [] F F_c11 → SA [] A A_c11 → (inr (tc11_0)) → (((a2) ≠ (0) ∧ (tc11_0) = (a1)) ∨ ((a2) = (0) ∧ (tc11_0) = ((a1 + 1)))) → Ew 188 (d + 0) 11 ls [I (tc11_0)] σ c s Q := by
   as_aux_lemma =>
    intro tc11_0 ls σ F_c11 A_c11  lc11_0 H O hS_c11 hA_c11     jc11_0 jc11_1
    have cF_c11 : SF oz_C6clsl_2 F F_c11 := SF_trans (SF_refl) hS_c11 (any_sub (by decide +kernel))
    have mF_c11 := SFm_of cF_c11 oz_C6cls_6
    have cA_c11 : SA oz_C6clsl_1 A A_c11 := SA_trans (SA_refl) hA_c11 (any_subA (by decide +kernel))
    have mA_c11 := SAm_of cA_c11 oz_C6cls_3
    refine Ew_of (pcₚ := 12) (fun _ => x_istore_n rfl) ?_
    obtain ⟨qw, hqw⟩ : ∃ q : Int, q = (tc11_0) := ⟨_, rfl⟩
    refine Ew_of (pcₚ := 13) (fun _ => x_iload_n rfl rk_s) ?_
    refine Ew_of (pcₚ := 14) (fun _ => x_iconst rfl) ?_
    refine w_icmple (t := 28) rfl rfl (show inr (tc11_0) from jc11_0) (show inr (3) from q_246) (fun b2 => ?_) (fun b2 => ?_)
    · refine Ew_of (pcₚ := 29) (fun _ => x_aload_n rfl (rk_o (lc11_0) rfl rfl)) ?_
      refine v_g H (o := 0) (v := .ref (D 1)) rfl rfl rfl rfl rfl (vrf ((mF_c11 0 2 rfl).trans (pf1))) ?_
      refine Ew_of (pcₚ := 33) (fun _ => x_iload_n rfl rk_s) ?_
      refine Ew_of (pcₚ := 34) (fun _ => x_iconst rfl) ?_
      refine w_isub rfl ?_
      refine v_lJ H (o := 1) rfl rfl rfl rfl (n := n1) (en1) (show 0 ≤ (tc11_0 - 1) ∧ (tc11_0 - 1) < n1 from q_3043 b2 h2 h3 jc11_1) (fun v3 ev3 qv3 => ?_)
      have ev3 : (w1) ((tc11_0 - 1)) = v3 := (congrFun ((funext (mA_c11 1 rfl)).trans (ew1)) ((tc11_0 - 1))).symm.trans ev3
      have : LBY ((a1)) ((a2)) ((w1)) ((v3)) := LBY_y (w := qw) (by omega) (by first | exact .inr ⟨by omega, by rw [hv0]⟩ | exact .inl ⟨by omega, by rw [hqw]; symm; assumption⟩)
      exact w_lreturn rfl (k (v3) _ _ _ H O (cF_c11) (cA_c11) (show inrJ (v3) from qv3) (show LBY (a1) (a2) ((w1)) ((v3)) by assumption))
    · refine Ew_of (pcₚ := 18) (fun _ => x_aload_n rfl (rk_o (lc11_0) rfl rfl)) ?_
      refine v_g H (o := 0) (v := .ref (D 1)) rfl rfl rfl rfl rfl (vrf ((mF_c11 0 2 rfl).trans (pf1))) ?_
      refine Ew_of (pcₚ := 22) (fun _ => x_iconst rfl) ?_
      refine v_lJ H (o := 1) rfl rfl rfl rfl (n := n1) (en1) (show 0 ≤ 0 ∧ 0 < n1 from q_3044 h3 r1) (fun v4 ev4 qv4 => ?_)
      have ev4 : (w1) (0) = v4 := (congrFun ((funext (mA_c11 1 rfl)).trans (ew1)) (0)).symm.trans ev4
      have hv0 := ev4
      refine Ew_of (pcₚ := 24) (fun _ => x_lconst (z := 1) rfl (by decide)) ?_
      refine w_lsubE rfl ?_
      have g5 : inrJ (sbJ (v4) (1)) := toJ_inr _
      refine Ew_of (pcₚ := 36) (fun _ => x_goto rfl rfl) ?_
      have : LBY ((a1)) ((a2)) ((w1)) (((sbJ (v4) (1)))) := LBY_y (w := qw) (by omega) (by first | exact .inr ⟨by omega, by rw [hv0]⟩ | exact .inl ⟨by omega, by rw [hqw]; symm; assumption⟩)
      exact w_lreturn rfl (k ((sbJ (v4) (1))) _ _ _ H O (cF_c11) (cA_c11) (show inrJ ((sbJ (v4) (1))) from g5) (show LBY (a1) (a2) ((w1)) (((sbJ (v4) (1)))) by assumption))
  refine w_ifne (t := 10) rfl rfl (show inr (a2) from h1) (fun b6 => ?_) (fun b6 => ?_)
  · refine Ew_of (pcₚ := 11) (fun _ => x_iload_n rfl rfl) ?_
    exact hc11 (a1) _ _ _ _  (rfl) H O (SF_refl) (SA_refl)     (show inr (a1) from h0) (show ((a2) ≠ (0) ∧ (a1) = (a1)) ∨ ((a2) = (0) ∧ (a1) = ((a1 + 1))) from q_19 b6)
  · refine Ew_of (pcₚ := 5) (fun _ => x_iload_n rfl rfl) ?_
    refine Ew_of (pcₚ := 6) (fun _ => x_iconst rfl) ?_
    refine w_iadd rfl ?_
    refine Ew_of (pcₚ := 11) (fun _ => x_goto rfl rfl) ?_
    exact hc11 ((a1 + 1)) _ _ _ _  (rfl) H O (SF_refl) (SA_refl)     (show inr ((a1 + 1)) from q_2685 h2) (show ((a2) ≠ (0) ∧ ((a1 + 1)) = (a1)) ∨ ((a2) = (0) ∧ ((a1 + 1)) = ((a1 + 1))) from q_20 b6)
abbrev V189 : vV := [(0, 9, [(4, 0), (4, 0), (4, 0)]), (1, 2, [])]
theorem len_V189_oz_C6cls : (V189).length = 2 := by decide +kernel
theorem oz_C6cls_13 : vsub V189 V188 [0, 1] = true := by decide +kernel
def oz_C6clsl_5 : List Nat := [1]
theorem oz_C6cls_14 : (oz_C6clsl_5).all (fun p => !tbz 2 p) = true := by decide +kernel

theorem C189 {σE : rS} {D N : Nat → Nat} {F : hF} {A : hA} {d c s : Nat} {Q : wQ} (H : HW V189 σE D N F A) {a1 a2 : Int} (pf1 : F 0 2 = (D 1 : Int)) (n1 : Int) (en1 : (N 1 : Int) = n1) (w1 : Int → Int) (ew1 : A 1 = w1) (h0 : inrJ (a1)) (h1 : inr (a2)) (h2 : 1 ≤ (a1)) (h3 : (n1) = 3) (h4 : (a1) ≤ 9000000000000000000) (k : ∀ (z : Int) (σ : rS) (Fₚ : hF) (Aₚ : hA), HW V189 σ D N Fₚ Aₚ → OUT (V189).length D N σE c s D N σ c s → SF [] F Fₚ → SA [1] A Aₚ → ∀ v1 : Int → Int, Aₚ 1 = v1 → (inrJ (z)) → (IMP (1 ≤ ((w1)) 0 ∧ 1 ≤ ((w1)) 1 ∧ 1 ≤ ((w1)) 2) (dsF ((a1)) ((a2)) (((w1)) 0) (((w1)) 1) (((w1)) 2) = ((z), ((v1)) 0, ((v1)) 1, ((v1)) 2))) → Q (some (J z)) σ c s) : Ew 189 (d + 1) 0 (rargs 0 [.ref (D 0), J a1, I a2]) [] σE c s Q := by
  have O := OUT_refl (n := (V189).length) (D := D) (N := N) (σ := σE) (c := c) (s := s)
  have HE := H
  have r1 : (0 : Int) ≤ n1 ∧ n1 ≤ 1000000 := nleE (H.nle 1 (ltn len_V189_oz_C6cls rfl)) (show (N 1 : Int) = n1 from en1)
  have hlr : ∀ i, (-9223372036854775808 : Int) ≤ (w1) i ∧ (w1) i ≤ 9223372036854775807 := fun i => by have h1 : (-9223372036854775808 : Int) ≤ A 1 i ∧ A 1 i ≤ 9223372036854775807 := H.arg 1 i (by decide) rfl; rw [show A 1 = w1 from ew1] at h1; exact h1
  have hlr0 := hlr 0
  obtain ⟨qw, hqw⟩ : ∃ q : Int, ((a2) = 0 ∧ q = (a1) + 1 ∨ (a2) ≠ 0 ∧ q = (a1)) := by by_cases z : ((a2) : Int) = 0; (exact ⟨(a1) + 1, .inl ⟨z, rfl⟩⟩); (exact ⟨(a1), .inr ⟨z, rfl⟩⟩)
  refine Ew_of (pcₚ := 1) (fun _ => x_lload_n rfl rfl) ?_
  refine Ew_of (pcₚ := 4) (fun _ => x_ldc2 (z := 3) rfl (by decide)) ?_
  refine w_lcmp rfl (show inrJ (a1) from h0) (show inrJ (3) from q_1577) (fun z2 gz2 gaz2 gbz2 => ?_)
  refine w_ifle (t := 16) rfl rfl (show inr (z2) from gz2) (fun b3 => ?_) (fun b3 => ?_)
  · refine Ew_of (pcₚ := 17) (fun _ => x_aload_n rfl rfl) ?_
    refine Ew_of (pcₚ := 18) (fun _ => x_lload_n rfl rfl) ?_
    refine w_l2i rfl ?_
    refine Ew_of (pcₚ := 20) (fun _ => x_iload_n rfl rfl) ?_
    refine v_inv H (o := 0) rfl rfl rfl rfl rfl rfl (by rfl) (C188 (D := puc 512 D) (N := puc 512 N) (HW_subc H oz_C6cls_13 oz_C6cls_10) (pf1) (n1) (en1) (w1) (ew1) (show inr (a1) by omega) (show inr (a2) from h1) (show 1 ≤ (a1) ∧ (a1) ≤ 3 by omega) (show (n1) = 3 from h3) (fun z4 σ4 F4ₚ A4ₚ Hₚ Oₚ hS4 hA4 pz4_0 pz4_1 => ⟨rfl, ?_⟩))
    refine v_backc (c := c) (s := s) H oz_C6cls_13 oz_C6cls_10 Hₚ Oₚ (fun F4 A4 H Oₚ eF4 eA4 => ?_)
    have O := OUT_trans O Oₚ
    -- Stand.latestBy
    have cF4 : SF oz_C6clsl_2 F F4 := SF_trans (SF_refl) (SF_gluc (ι := oz_C6clsl_4) oz_C6cls_10 hS4 eF4 (by decide +kernel)) (any_sub (lₚ := []) (by decide +kernel))
    have mF4 := SFm_of cF4 oz_C6cls_6
    have cA4 : SA oz_C6clsl_5 A A4 := SA_trans (SA_refl) (SA_gluc (ι := oz_C6clsl_4) oz_C6cls_10 hA4 eA4 (by decide +kernel)) (any_subA (lₚ := []) (by decide +kernel))
    have mA4 := SAm_of cA4 oz_C6cls_14
    have hdd : IMP (1 ≤ ((w1)) 0) (3 < (a1) ∧ (z4) = (a1) - 3 ∨ (a1) ≤ 3 ∧ (qw = 1 ∧ (z4) = ((w1)) 0 ∨ qw = 2 ∧ (z4) = ((w1)) 1 ∨ qw = 3 ∧ (z4) = ((w1)) 2 ∨ 3 < qw ∧ (z4) = ((w1)) 0 - 1)) := by first | exact fun _ => .inl ⟨by omega, by omega⟩ | exact fun z => .inr ⟨by omega, LBY_x pz4_1 (by omega) hqw z hlr0⟩
    refine Ew_of (pcₚ := 25) (fun _ => x_lstore rfl) ?_
    refine Ew_of (pcₚ := 26) (fun _ => x_iload_n rfl (rk2_o (rfl) rfl rfl)) ?_
    have hc37 : ∀ (ls : rO) (σ : rS) (F_c37 : hF) (A_c37 : hA) , rlook ls 0 = some (.ref (D 0)) → rlook ls 1 = some (J (a1)) → rlook ls 4 = some (J (z4)) → HW V189 σ D N F_c37 A_c37 → OUT (V189).length D N σE c s D N σ c s → SF [] F4 F_c37 → SA [] A4 A_c37 → (((a2) = (0)) ∨ ((a2) ≠ (0) ∧ (a1) > (3))) → Ew 189 (d + 1) 37 ls [] σ c s Q := by
     as_aux_lemma =>
      intro  ls σ F_c37 A_c37  lc37_0 lc37_1 lc37_4 H O hS_c37 hA_c37     jc37_0
      have cF_c37 : SF oz_C6clsl_2 F F_c37 := SF_trans (cF4) hS_c37 (any_sub (by decide +kernel))
      have mF_c37 := SFm_of cF_c37 oz_C6cls_6
      have cA_c37 : SA oz_C6clsl_5 A A_c37 := SA_trans (cA4) hA_c37 (any_subA (by decide +kernel))
      have mA_c37 := SAm_of cA_c37 oz_C6cls_14
      refine Ew_of (pcₚ := 38) (fun _ => x_lload_n rfl lc37_1) ?_
      refine Ew_of (pcₚ := 39) (fun _ => x_lconst (z := 1) rfl (by decide)) ?_
      refine w_ladd rfl ?_
      refine Ew_of (pcₚ := 44) (fun _ => x_goto rfl rfl) ?_
      refine Ew_of (pcₚ := 46) (fun _ => x_lstore rfl) ?_
      refine Ew_of (pcₚ := 48) (fun _ => x_lload rfl rk2_s) ?_
      refine Ew_of (pcₚ := 51) (fun _ => x_ldc2 (z := 2) rfl (by decide)) ?_
      refine w_lcmp rfl (show inrJ ((a1 + 1)) by omega) (show inrJ (2) from q_1578) (fun z5 gz5 gaz5 gbz5 => ?_)
      refine w_ifle (t := 67) rfl rfl (show inr (z5) from gz5) (fun b6 => ?_) (fun b6 => ?_)
      · refine Ew_of (pcₚ := 69) (fun _ => x_lload rfl rk2_s) ?_
        refine Ew_of (pcₚ := 70) (fun _ => x_lconst (z := 1) rfl (by decide)) ?_
        refine w_lcmp rfl (show inrJ ((a1 + 1)) by omega) (show inrJ (1) from q_1587) (fun z7 gz7 gaz7 gbz7 => ?_)
        refine w_ifle (t := 86) rfl rfl (show inr (z7) from gz7) (fun b8 => ?_) (fun b8 => ?_)
        · refine Ew_of (pcₚ := 87) (fun _ => x_aload_n rfl (rk2_o (lc37_0) rfl rfl)) ?_
          refine v_g H (o := 0) (v := .ref (D 1)) rfl rfl rfl rfl rfl (vrf ((mF_c37 0 2 rfl).trans (pf1))) ?_
          refine Ew_of (pcₚ := 91) (fun _ => x_iconst rfl) ?_
          refine Ew_of (pcₚ := 93) (fun _ => x_lload rfl (rk2_o (lc37_4) rfl rfl)) ?_
          refine v_sJ H (o := 1) (z := z4) rfl rfl rfl rfl (n := n1) (en1) (show 0 ≤ 0 ∧ 0 < n1 from q_3044 h3 r1) (show inrJ (z4) from pz4_0) (fun σ H Oₚ => ?_)
          have O := OUT_trans O Oₚ
          have cAu9 : SA oz_C6clsl_5 A (updA A_c37 1 (0) (z4)) := SA_upd (cA_c37) rfl
          have mAu9 := SAm_of cAu9 oz_C6cls_14
          refine Ew_of (pcₚ := 96) (fun _ => x_lload rfl (rk2_o (lc37_4) rfl rfl)) ?_
          have : IMP (1 ≤ ((w1)) 0 ∧ 1 ≤ ((w1)) 1 ∧ 1 ≤ ((w1)) 2) (dsF ((a1)) ((a2)) (((w1)) 0) (((w1)) 1) (((w1)) 2) = ((z4), ((upd1 (w1) (0) (z4))) 0, ((upd1 (w1) (0) (z4))) 1, ((upd1 (w1) (0) (z4))) 2)) := fun hL => by have hx := hdd hL.1; have hL1 := hL.1; have hL2 := hL.2.1; have hL3 := hL.2.2; exact dsF_i (w := qw) hqw (by simp only [upd1, n01_, n02_, n10_, n12_, n20_, n21_, eq_self, if_true, if_false]; rcases hx with ⟨a, b⟩ | ⟨a, ⟨b, c⟩ | ⟨b, c⟩ | ⟨b, c⟩ | ⟨b, c⟩⟩; (exact .inl ⟨by first | exact True.intro | omega, by first | exact True.intro | omega, by first | exact True.intro | omega, by first | exact True.intro | omega, by first | exact True.intro | omega⟩); (exact .inr (.inl ⟨by first | exact True.intro | omega, by first | exact True.intro | omega, by first | exact True.intro | omega, by first | exact True.intro | omega, by first | exact True.intro | omega, by first | exact True.intro | omega⟩)); (exact .inr (.inr (.inl ⟨by first | exact True.intro | omega, by first | exact True.intro | omega, by first | exact True.intro | omega, by first | exact True.intro | omega, by first | exact True.intro | omega, by first | exact True.intro | omega⟩))); (exact .inr (.inr (.inr (.inl ⟨by first | exact True.intro | omega, by first | exact True.intro | omega, by first | exact True.intro | omega, by first | exact True.intro | omega, by first | exact True.intro | omega, by first | exact True.intro | omega⟩)))); (exact .inr (.inr (.inr (.inr ⟨by first | exact True.intro | omega, by first | exact True.intro | omega, by first | exact True.intro | omega, by first | exact True.intro | omega, by first | exact True.intro | omega, by first | exact True.intro | omega⟩)))))
          exact w_lreturn rfl (k (z4) _ _ _ H O (cF_c37) (cAu9) (upd1 (w1) (0) (z4)) (congrArg (fun q => upd1 q (0) (z4)) ((funext (hA_c37 1 rfl)).trans (((show A4 1 = A 1 from (eA4 1).trans (funext (hA4 1 rfl)))).trans (ew1)))) (show inrJ (z4) from pz4_0) (show IMP (1 ≤ ((w1)) 0 ∧ 1 ≤ ((w1)) 1 ∧ 1 ≤ ((w1)) 2) (dsF (a1) (a2) (((w1)) 0) (((w1)) 1) (((w1)) 2) = ((z4), ((upd1 (w1) (0) (z4))) 0, ((upd1 (w1) (0) (z4))) 1, ((upd1 (w1) (0) (z4))) 2)) by assumption))
        · refine Ew_of (pcₚ := 75) (fun _ => x_aload_n rfl (rk2_o (lc37_0) rfl rfl)) ?_
          refine v_g H (o := 0) (v := .ref (D 1)) rfl rfl rfl rfl rfl (vrf ((mF_c37 0 2 rfl).trans (pf1))) ?_
          refine Ew_of (pcₚ := 79) (fun _ => x_iconst rfl) ?_
          refine Ew_of (pcₚ := 80) (fun _ => x_aload_n rfl (rk2_o (lc37_0) rfl rfl)) ?_
          refine v_g H (o := 0) (v := .ref (D 1)) rfl rfl rfl rfl rfl (vrf ((mF_c37 0 2 rfl).trans (pf1))) ?_
          refine Ew_of (pcₚ := 84) (fun _ => x_iconst rfl) ?_
          refine v_lJ H (o := 1) rfl rfl rfl rfl (n := n1) (en1) (show 0 ≤ 0 ∧ 0 < n1 from q_3044 h3 r1) (fun v10 ev10 qv10 => ?_)
          have ev10 : (w1) (0) = v10 := (congrFun ((funext (hA_c37 1 rfl)).trans (((show A4 1 = A 1 from (eA4 1).trans (funext (hA4 1 rfl)))).trans (ew1))) (0)).symm.trans ev10
          have hv0 := ev10
          try simp only [upd1, n01_, n02_, n10_, n12_, n20_, n21_, eq_self, if_true, if_false] at hv0
          refine v_sJ H (o := 1) (z := v10) rfl rfl rfl rfl (n := n1) (en1) (show 0 ≤ 1 ∧ 1 < n1 from q_3045 h3 r1) (show inrJ (v10) from qv10) (fun σ H Oₚ => ?_)
          have O := OUT_trans O Oₚ
          have cAu11 : SA oz_C6clsl_5 A (updA A_c37 1 (1) (v10)) := SA_upd (cA_c37) rfl
          have mAu11 := SAm_of cAu11 oz_C6cls_14
          refine Ew_of (pcₚ := 87) (fun _ => x_aload_n rfl (rk2_o (lc37_0) rfl rfl)) ?_
          refine v_g H (o := 0) (v := .ref (D 1)) rfl rfl rfl rfl rfl (vrf ((mF_c37 0 2 rfl).trans (pf1))) ?_
          refine Ew_of (pcₚ := 91) (fun _ => x_iconst rfl) ?_
          refine Ew_of (pcₚ := 93) (fun _ => x_lload rfl (rk2_o (lc37_4) rfl rfl)) ?_
          refine v_sJ H (o := 1) (z := z4) rfl rfl rfl rfl (n := n1) (en1) (show 0 ≤ 0 ∧ 0 < n1 from q_3044 h3 r1) (show inrJ (z4) from pz4_0) (fun σ H Oₚ => ?_)
          have O := OUT_trans O Oₚ
          have cAu12 : SA oz_C6clsl_5 A (updA (updA A_c37 1 (1) (v10)) 1 (0) (z4)) := SA_upd (cAu11) rfl
          have mAu12 := SAm_of cAu12 oz_C6cls_14
          refine Ew_of (pcₚ := 96) (fun _ => x_lload rfl (rk2_o (lc37_4) rfl rfl)) ?_
          have : IMP (1 ≤ ((w1)) 0 ∧ 1 ≤ ((w1)) 1 ∧ 1 ≤ ((w1)) 2) (dsF ((a1)) ((a2)) (((w1)) 0) (((w1)) 1) (((w1)) 2) = ((z4), ((upd1 (upd1 (w1) (1) (v10)) (0) (z4))) 0, ((upd1 (upd1 (w1) (1) (v10)) (0) (z4))) 1, ((upd1 (upd1 (w1) (1) (v10)) (0) (z4))) 2)) := fun hL => by have hx := hdd hL.1; have hL1 := hL.1; have hL2 := hL.2.1; have hL3 := hL.2.2; exact dsF_i (w := qw) hqw (by simp only [upd1, n01_, n02_, n10_, n12_, n20_, n21_, eq_self, if_true, if_false]; rcases hx with ⟨a, b⟩ | ⟨a, ⟨b, c⟩ | ⟨b, c⟩ | ⟨b, c⟩ | ⟨b, c⟩⟩; (exact .inl ⟨by first | exact True.intro | omega, by first | exact True.intro | omega, by first | exact True.intro | omega, by first | exact True.intro | omega, by first | exact True.intro | omega⟩); (exact .inr (.inl ⟨by first | exact True.intro | omega, by first | exact True.intro | omega, by first | exact True.intro | omega, by first | exact True.intro | omega, by first | exact True.intro | omega, by first | exact True.intro | omega⟩)); (exact .inr (.inr (.inl ⟨by first | exact True.intro | omega, by first | exact True.intro | omega, by first | exact True.intro | omega, by first | exact True.intro | omega, by first | exact True.intro | omega, by first | exact True.intro | omega⟩))); (exact .inr (.inr (.inr (.inl ⟨by first | exact True.intro | omega, by first | exact True.intro | omega, by first | exact True.intro | omega, by first | exact True.intro | omega, by first | exact True.intro | omega, by first | exact True.intro | omega⟩)))); (exact .inr (.inr (.inr (.inr ⟨by first | exact True.intro | omega, by first | exact True.intro | omega, by first | exact True.intro | omega, by first | exact True.intro | omega, by first | exact True.intro | omega, by first | exact True.intro | omega⟩)))))
          exact w_lreturn rfl (k (z4) _ _ _ H O (cF_c37) (cAu12) (upd1 (upd1 (w1) (1) (v10)) (0) (z4)) (congrArg (fun q => upd1 q (0) (z4)) (congrArg (fun q => upd1 q (1) (v10)) ((funext (hA_c37 1 rfl)).trans (((show A4 1 = A 1 from (eA4 1).trans (funext (hA4 1 rfl)))).trans (ew1))))) (show inrJ (z4) from pz4_0) (show IMP (1 ≤ ((w1)) 0 ∧ 1 ≤ ((w1)) 1 ∧ 1 ≤ ((w1)) 2) (dsF (a1) (a2) (((w1)) 0) (((w1)) 1) (((w1)) 2) = ((z4), ((upd1 (upd1 (w1) (1) (v10)) (0) (z4))) 0, ((upd1 (upd1 (w1) (1) (v10)) (0) (z4))) 1, ((upd1 (upd1 (w1) (1) (v10)) (0) (z4))) 2)) by assumption))
      · refine Ew_of (pcₚ := 56) (fun _ => x_aload_n rfl (rk2_o (lc37_0) rfl rfl)) ?_
        refine v_g H (o := 0) (v := .ref (D 1)) rfl rfl rfl rfl rfl (vrf ((mF_c37 0 2 rfl).trans (pf1))) ?_
        refine Ew_of (pcₚ := 60) (fun _ => x_iconst rfl) ?_
        refine Ew_of (pcₚ := 61) (fun _ => x_aload_n rfl (rk2_o (lc37_0) rfl rfl)) ?_
        refine v_g H (o := 0) (v := .ref (D 1)) rfl rfl rfl rfl rfl (vrf ((mF_c37 0 2 rfl).trans (pf1))) ?_
        refine Ew_of (pcₚ := 65) (fun _ => x_iconst rfl) ?_
        refine v_lJ H (o := 1) rfl rfl rfl rfl (n := n1) (en1) (show 0 ≤ 1 ∧ 1 < n1 from q_3045 h3 r1) (fun v13 ev13 qv13 => ?_)
        have ev13 : (w1) (1) = v13 := (congrFun ((funext (hA_c37 1 rfl)).trans (((show A4 1 = A 1 from (eA4 1).trans (funext (hA4 1 rfl)))).trans (ew1))) (1)).symm.trans ev13
        have hv1 := ev13
        refine v_sJ H (o := 1) (z := v13) rfl rfl rfl rfl (n := n1) (en1) (show 0 ≤ 2 ∧ 2 < n1 from q_3046 h3) (show inrJ (v13) from qv13) (fun σ H Oₚ => ?_)
        have O := OUT_trans O Oₚ
        have cAu14 : SA oz_C6clsl_5 A (updA A_c37 1 (2) (v13)) := SA_upd (cA_c37) rfl
        have mAu14 := SAm_of cAu14 oz_C6cls_14
        refine Ew_of (pcₚ := 69) (fun _ => x_lload rfl rk2_s) ?_
        refine Ew_of (pcₚ := 70) (fun _ => x_lconst (z := 1) rfl (by decide)) ?_
        refine w_lcmp rfl (show inrJ ((a1 + 1)) by omega) (show inrJ (1) from q_1587) (fun z15 gz15 gaz15 gbz15 => ?_)
        refine w_ifle (t := 86) rfl rfl (show inr (z15) from gz15) (fun b16 => ?_) (fun b16 => ?_)
        · refine Ew_of (pcₚ := 87) (fun _ => x_aload_n rfl (rk2_o (lc37_0) rfl rfl)) ?_
          refine v_g H (o := 0) (v := .ref (D 1)) rfl rfl rfl rfl rfl (vrf ((mF_c37 0 2 rfl).trans (pf1))) ?_
          refine Ew_of (pcₚ := 91) (fun _ => x_iconst rfl) ?_
          refine Ew_of (pcₚ := 93) (fun _ => x_lload rfl (rk2_o (lc37_4) rfl rfl)) ?_
          refine v_sJ H (o := 1) (z := z4) rfl rfl rfl rfl (n := n1) (en1) (show 0 ≤ 0 ∧ 0 < n1 from q_3044 h3 r1) (show inrJ (z4) from pz4_0) (fun σ H Oₚ => ?_)
          have O := OUT_trans O Oₚ
          have cAu17 : SA oz_C6clsl_5 A (updA (updA A_c37 1 (2) (v13)) 1 (0) (z4)) := SA_upd (cAu14) rfl
          have mAu17 := SAm_of cAu17 oz_C6cls_14
          refine Ew_of (pcₚ := 96) (fun _ => x_lload rfl (rk2_o (lc37_4) rfl rfl)) ?_
          have : IMP (1 ≤ ((w1)) 0 ∧ 1 ≤ ((w1)) 1 ∧ 1 ≤ ((w1)) 2) (dsF ((a1)) ((a2)) (((w1)) 0) (((w1)) 1) (((w1)) 2) = ((z4), ((upd1 (upd1 (w1) (2) (v13)) (0) (z4))) 0, ((upd1 (upd1 (w1) (2) (v13)) (0) (z4))) 1, ((upd1 (upd1 (w1) (2) (v13)) (0) (z4))) 2)) := fun hL => by have hx := hdd hL.1; have hL1 := hL.1; have hL2 := hL.2.1; have hL3 := hL.2.2; exact dsF_i (w := qw) hqw (by simp only [upd1, n01_, n02_, n10_, n12_, n20_, n21_, eq_self, if_true, if_false]; rcases hx with ⟨a, b⟩ | ⟨a, ⟨b, c⟩ | ⟨b, c⟩ | ⟨b, c⟩ | ⟨b, c⟩⟩; (exact .inl ⟨by first | exact True.intro | omega, by first | exact True.intro | omega, by first | exact True.intro | omega, by first | exact True.intro | omega, by first | exact True.intro | omega⟩); (exact .inr (.inl ⟨by first | exact True.intro | omega, by first | exact True.intro | omega, by first | exact True.intro | omega, by first | exact True.intro | omega, by first | exact True.intro | omega, by first | exact True.intro | omega⟩)); (exact .inr (.inr (.inl ⟨by first | exact True.intro | omega, by first | exact True.intro | omega, by first | exact True.intro | omega, by first | exact True.intro | omega, by first | exact True.intro | omega, by first | exact True.intro | omega⟩))); (exact .inr (.inr (.inr (.inl ⟨by first | exact True.intro | omega, by first | exact True.intro | omega, by first | exact True.intro | omega, by first | exact True.intro | omega, by first | exact True.intro | omega, by first | exact True.intro | omega⟩)))); (exact .inr (.inr (.inr (.inr ⟨by first | exact True.intro | omega, by first | exact True.intro | omega, by first | exact True.intro | omega, by first | exact True.intro | omega, by first | exact True.intro | omega, by first | exact True.intro | omega⟩)))))
          exact w_lreturn rfl (k (z4) _ _ _ H O (cF_c37) (cAu17) (upd1 (upd1 (w1) (2) (v13)) (0) (z4)) (congrArg (fun q => upd1 q (0) (z4)) (congrArg (fun q => upd1 q (2) (v13)) ((funext (hA_c37 1 rfl)).trans (((show A4 1 = A 1 from (eA4 1).trans (funext (hA4 1 rfl)))).trans (ew1))))) (show inrJ (z4) from pz4_0) (show IMP (1 ≤ ((w1)) 0 ∧ 1 ≤ ((w1)) 1 ∧ 1 ≤ ((w1)) 2) (dsF (a1) (a2) (((w1)) 0) (((w1)) 1) (((w1)) 2) = ((z4), ((upd1 (upd1 (w1) (2) (v13)) (0) (z4))) 0, ((upd1 (upd1 (w1) (2) (v13)) (0) (z4))) 1, ((upd1 (upd1 (w1) (2) (v13)) (0) (z4))) 2)) by assumption))
        · refine Ew_of (pcₚ := 75) (fun _ => x_aload_n rfl (rk2_o (lc37_0) rfl rfl)) ?_
          refine v_g H (o := 0) (v := .ref (D 1)) rfl rfl rfl rfl rfl (vrf ((mF_c37 0 2 rfl).trans (pf1))) ?_
          refine Ew_of (pcₚ := 79) (fun _ => x_iconst rfl) ?_
          refine Ew_of (pcₚ := 80) (fun _ => x_aload_n rfl (rk2_o (lc37_0) rfl rfl)) ?_
          refine v_g H (o := 0) (v := .ref (D 1)) rfl rfl rfl rfl rfl (vrf ((mF_c37 0 2 rfl).trans (pf1))) ?_
          refine Ew_of (pcₚ := 84) (fun _ => x_iconst rfl) ?_
          refine v_lJ H (o := 1) rfl rfl rfl rfl (n := n1) (en1) (show 0 ≤ 0 ∧ 0 < n1 from q_3044 h3 r1) (fun v18 ev18 qv18 => ?_)
          have ev18 : (upd1 (w1) (2) (v13)) (0) = v18 := (congrFun (congrArg (fun q => upd1 q (2) (v13)) ((funext (hA_c37 1 rfl)).trans (((show A4 1 = A 1 from (eA4 1).trans (funext (hA4 1 rfl)))).trans (ew1)))) (0)).symm.trans ev18
          have hv0 := ev18
          try simp only [upd1, n01_, n02_, n10_, n12_, n20_, n21_, eq_self, if_true, if_false] at hv0
          refine v_sJ H (o := 1) (z := v18) rfl rfl rfl rfl (n := n1) (en1) (show 0 ≤ 1 ∧ 1 < n1 from q_3045 h3 r1) (show inrJ (v18) from qv18) (fun σ H Oₚ => ?_)
          have O := OUT_trans O Oₚ
          have cAu19 : SA oz_C6clsl_5 A (updA (updA A_c37 1 (2) (v13)) 1 (1) (v18)) := SA_upd (cAu14) rfl
          have mAu19 := SAm_of cAu19 oz_C6cls_14
          refine Ew_of (pcₚ := 87) (fun _ => x_aload_n rfl (rk2_o (lc37_0) rfl rfl)) ?_
          refine v_g H (o := 0) (v := .ref (D 1)) rfl rfl rfl rfl rfl (vrf ((mF_c37 0 2 rfl).trans (pf1))) ?_
          refine Ew_of (pcₚ := 91) (fun _ => x_iconst rfl) ?_
          refine Ew_of (pcₚ := 93) (fun _ => x_lload rfl (rk2_o (lc37_4) rfl rfl)) ?_
          refine v_sJ H (o := 1) (z := z4) rfl rfl rfl rfl (n := n1) (en1) (show 0 ≤ 0 ∧ 0 < n1 from q_3044 h3 r1) (show inrJ (z4) from pz4_0) (fun σ H Oₚ => ?_)
          have O := OUT_trans O Oₚ
          have cAu20 : SA oz_C6clsl_5 A (updA (updA (updA A_c37 1 (2) (v13)) 1 (1) (v18)) 1 (0) (z4)) := SA_upd (cAu19) rfl
          have mAu20 := SAm_of cAu20 oz_C6cls_14
          refine Ew_of (pcₚ := 96) (fun _ => x_lload rfl (rk2_o (lc37_4) rfl rfl)) ?_
          have : IMP (1 ≤ ((w1)) 0 ∧ 1 ≤ ((w1)) 1 ∧ 1 ≤ ((w1)) 2) (dsF ((a1)) ((a2)) (((w1)) 0) (((w1)) 1) (((w1)) 2) = ((z4), ((upd1 (upd1 (upd1 (w1) (2) (v13)) (1) (v18)) (0) (z4))) 0, ((upd1 (upd1 (upd1 (w1) (2) (v13)) (1) (v18)) (0) (z4))) 1, ((upd1 (upd1 (upd1 (w1) (2) (v13)) (1) (v18)) (0) (z4))) 2)) := fun hL => by have hx := hdd hL.1; have hL1 := hL.1; have hL2 := hL.2.1; have hL3 := hL.2.2; exact dsF_i (w := qw) hqw (by simp only [upd1, n01_, n02_, n10_, n12_, n20_, n21_, eq_self, if_true, if_false]; rcases hx with ⟨a, b⟩ | ⟨a, ⟨b, c⟩ | ⟨b, c⟩ | ⟨b, c⟩ | ⟨b, c⟩⟩; (exact .inl ⟨by first | exact True.intro | omega, by first | exact True.intro | omega, by first | exact True.intro | omega, by first | exact True.intro | omega, by first | exact True.intro | omega⟩); (exact .inr (.inl ⟨by first | exact True.intro | omega, by first | exact True.intro | omega, by first | exact True.intro | omega, by first | exact True.intro | omega, by first | exact True.intro | omega, by first | exact True.intro | omega⟩)); (exact .inr (.inr (.inl ⟨by first | exact True.intro | omega, by first | exact True.intro | omega, by first | exact True.intro | omega, by first | exact True.intro | omega, by first | exact True.intro | omega, by first | exact True.intro | omega⟩))); (exact .inr (.inr (.inr (.inl ⟨by first | exact True.intro | omega, by first | exact True.intro | omega, by first | exact True.intro | omega, by first | exact True.intro | omega, by first | exact True.intro | omega, by first | exact True.intro | omega⟩)))); (exact .inr (.inr (.inr (.inr ⟨by first | exact True.intro | omega, by first | exact True.intro | omega, by first | exact True.intro | omega, by first | exact True.intro | omega, by first | exact True.intro | omega, by first | exact True.intro | omega⟩)))))
          exact w_lreturn rfl (k (z4) _ _ _ H O (cF_c37) (cAu20) (upd1 (upd1 (upd1 (w1) (2) (v13)) (1) (v18)) (0) (z4)) (congrArg (fun q => upd1 q (0) (z4)) (congrArg (fun q => upd1 q (1) (v18)) (congrArg (fun q => upd1 q (2) (v13)) ((funext (hA_c37 1 rfl)).trans (((show A4 1 = A 1 from (eA4 1).trans (funext (hA4 1 rfl)))).trans (ew1)))))) (show inrJ (z4) from pz4_0) (show IMP (1 ≤ ((w1)) 0 ∧ 1 ≤ ((w1)) 1 ∧ 1 ≤ ((w1)) 2) (dsF (a1) (a2) (((w1)) 0) (((w1)) 1) (((w1)) 2) = ((z4), ((upd1 (upd1 (upd1 (w1) (2) (v13)) (1) (v18)) (0) (z4))) 0, ((upd1 (upd1 (upd1 (w1) (2) (v13)) (1) (v18)) (0) (z4))) 1, ((upd1 (upd1 (upd1 (w1) (2) (v13)) (1) (v18)) (0) (z4))) 2)) by assumption))
    refine w_ifeq (t := 37) rfl rfl (show inr (a2) from h1) (fun b21 => ?_) (fun b21 => ?_)
    · exact hc37  _ _ _ _  (rk2_o (rfl) rfl rfl) (rk2_o (rfl) rfl rfl) (rk2_s) H O (SF_refl) (SA_refl)     (show ((a2) = (0)) ∨ ((a2) ≠ (0) ∧ (a1) > (3)) from q_3047 b21)
    · refine Ew_of (pcₚ := 30) (fun _ => x_lload_n rfl (rk2_o (rfl) rfl rfl)) ?_
      refine Ew_of (pcₚ := 33) (fun _ => x_ldc2 (z := 3) rfl (by decide)) ?_
      refine w_lcmp rfl (show inrJ (a1) from h0) (show inrJ (3) from q_1577) (fun z22 gz22 gaz22 gbz22 => ?_)
      refine w_ifle (t := 43) rfl rfl (show inr (z22) from gz22) (fun b23 => ?_) (fun b23 => ?_)
      · refine Ew_of (pcₚ := 44) (fun _ => x_lload_n rfl (rk2_o (rfl) rfl rfl)) ?_
        refine Ew_of (pcₚ := 46) (fun _ => x_lstore rfl) ?_
        refine Ew_of (pcₚ := 48) (fun _ => x_lload rfl rk2_s) ?_
        refine Ew_of (pcₚ := 51) (fun _ => x_ldc2 (z := 2) rfl (by decide)) ?_
        refine w_lcmp rfl (show inrJ (a1) from h0) (show inrJ (2) from q_1578) (fun z24 gz24 gaz24 gbz24 => ?_)
        refine w_ifle (t := 67) rfl rfl (show inr (z24) from gz24) (fun b25 => ?_) (fun b25 => ?_)
        · refine Ew_of (pcₚ := 69) (fun _ => x_lload rfl rk2_s) ?_
          refine Ew_of (pcₚ := 70) (fun _ => x_lconst (z := 1) rfl (by decide)) ?_
          refine w_lcmp rfl (show inrJ (a1) from h0) (show inrJ (1) from q_1587) (fun z26 gz26 gaz26 gbz26 => ?_)
          refine w_ifle (t := 86) rfl rfl (show inr (z26) from gz26) (fun b27 => ?_) (fun b27 => ?_)
          · refine Ew_of (pcₚ := 87) (fun _ => x_aload_n rfl (rk2_o (rk2_o (rfl) rfl rfl) rfl rfl)) ?_
            refine v_g H (o := 0) (v := .ref (D 1)) rfl rfl rfl rfl rfl (vrf ((mF4 0 2 rfl).trans (pf1))) ?_
            refine Ew_of (pcₚ := 91) (fun _ => x_iconst rfl) ?_
            refine Ew_of (pcₚ := 93) (fun _ => x_lload rfl (rk2_o (rk2_s) rfl rfl)) ?_
            refine v_sJ H (o := 1) (z := z4) rfl rfl rfl rfl (n := n1) (en1) (show 0 ≤ 0 ∧ 0 < n1 from q_3044 h3 r1) (show inrJ (z4) from pz4_0) (fun σ H Oₚ => ?_)
            have O := OUT_trans O Oₚ
            have cAu28 : SA oz_C6clsl_5 A (updA A4 1 (0) (z4)) := SA_upd (cA4) rfl
            have mAu28 := SAm_of cAu28 oz_C6cls_14
            refine Ew_of (pcₚ := 96) (fun _ => x_lload rfl (rk2_o (rk2_s) rfl rfl)) ?_
            have : IMP (1 ≤ ((w1)) 0 ∧ 1 ≤ ((w1)) 1 ∧ 1 ≤ ((w1)) 2) (dsF ((a1)) ((a2)) (((w1)) 0) (((w1)) 1) (((w1)) 2) = ((z4), ((upd1 (w1) (0) (z4))) 0, ((upd1 (w1) (0) (z4))) 1, ((upd1 (w1) (0) (z4))) 2)) := fun hL => by have hx := hdd hL.1; have hL1 := hL.1; have hL2 := hL.2.1; have hL3 := hL.2.2; exact dsF_i (w := qw) hqw (by simp only [upd1, n01_, n02_, n10_, n12_, n20_, n21_, eq_self, if_true, if_false]; rcases hx with ⟨a, b⟩ | ⟨a, ⟨b, c⟩ | ⟨b, c⟩ | ⟨b, c⟩ | ⟨b, c⟩⟩; (exact .inl ⟨by first | exact True.intro | omega, by first | exact True.intro | omega, by first | exact True.intro | omega, by first | exact True.intro | omega, by first | exact True.intro | omega⟩); (exact .inr (.inl ⟨by first | exact True.intro | omega, by first | exact True.intro | omega, by first | exact True.intro | omega, by first | exact True.intro | omega, by first | exact True.intro | omega, by first | exact True.intro | omega⟩)); (exact .inr (.inr (.inl ⟨by first | exact True.intro | omega, by first | exact True.intro | omega, by first | exact True.intro | omega, by first | exact True.intro | omega, by first | exact True.intro | omega, by first | exact True.intro | omega⟩))); (exact .inr (.inr (.inr (.inl ⟨by first | exact True.intro | omega, by first | exact True.intro | omega, by first | exact True.intro | omega, by first | exact True.intro | omega, by first | exact True.intro | omega, by first | exact True.intro | omega⟩)))); (exact .inr (.inr (.inr (.inr ⟨by first | exact True.intro | omega, by first | exact True.intro | omega, by first | exact True.intro | omega, by first | exact True.intro | omega, by first | exact True.intro | omega, by first | exact True.intro | omega⟩)))))
            exact w_lreturn rfl (k (z4) _ _ _ H O (cF4) (cAu28) (upd1 (w1) (0) (z4)) (congrArg (fun q => upd1 q (0) (z4)) (((show A4 1 = A 1 from (eA4 1).trans (funext (hA4 1 rfl)))).trans (ew1))) (show inrJ (z4) from pz4_0) (show IMP (1 ≤ ((w1)) 0 ∧ 1 ≤ ((w1)) 1 ∧ 1 ≤ ((w1)) 2) (dsF (a1) (a2) (((w1)) 0) (((w1)) 1) (((w1)) 2) = ((z4), ((upd1 (w1) (0) (z4))) 0, ((upd1 (w1) (0) (z4))) 1, ((upd1 (w1) (0) (z4))) 2)) by assumption))
          · refine Ew_of (pcₚ := 75) (fun _ => x_aload_n rfl (rk2_o (rk2_o (rfl) rfl rfl) rfl rfl)) ?_
            refine v_g H (o := 0) (v := .ref (D 1)) rfl rfl rfl rfl rfl (vrf ((mF4 0 2 rfl).trans (pf1))) ?_
            refine Ew_of (pcₚ := 79) (fun _ => x_iconst rfl) ?_
            refine Ew_of (pcₚ := 80) (fun _ => x_aload_n rfl (rk2_o (rk2_o (rfl) rfl rfl) rfl rfl)) ?_
            refine v_g H (o := 0) (v := .ref (D 1)) rfl rfl rfl rfl rfl (vrf ((mF4 0 2 rfl).trans (pf1))) ?_
            refine Ew_of (pcₚ := 84) (fun _ => x_iconst rfl) ?_
            refine v_lJ H (o := 1) rfl rfl rfl rfl (n := n1) (en1) (show 0 ≤ 0 ∧ 0 < n1 from q_3044 h3 r1) (fun v29 ev29 qv29 => ?_)
            have ev29 : (w1) (0) = v29 := (congrFun (((show A4 1 = A 1 from (eA4 1).trans (funext (hA4 1 rfl)))).trans (ew1)) (0)).symm.trans ev29
            have hv0 := ev29
            try simp only [upd1, n01_, n02_, n10_, n12_, n20_, n21_, eq_self, if_true, if_false] at hv0
            refine v_sJ H (o := 1) (z := v29) rfl rfl rfl rfl (n := n1) (en1) (show 0 ≤ 1 ∧ 1 < n1 from q_3045 h3 r1) (show inrJ (v29) from qv29) (fun σ H Oₚ => ?_)
            have O := OUT_trans O Oₚ
            have cAu30 : SA oz_C6clsl_5 A (updA A4 1 (1) (v29)) := SA_upd (cA4) rfl
            have mAu30 := SAm_of cAu30 oz_C6cls_14
            refine Ew_of (pcₚ := 87) (fun _ => x_aload_n rfl (rk2_o (rk2_o (rfl) rfl rfl) rfl rfl)) ?_
            refine v_g H (o := 0) (v := .ref (D 1)) rfl rfl rfl rfl rfl (vrf ((mF4 0 2 rfl).trans (pf1))) ?_
            refine Ew_of (pcₚ := 91) (fun _ => x_iconst rfl) ?_
            refine Ew_of (pcₚ := 93) (fun _ => x_lload rfl (rk2_o (rk2_s) rfl rfl)) ?_
            refine v_sJ H (o := 1) (z := z4) rfl rfl rfl rfl (n := n1) (en1) (show 0 ≤ 0 ∧ 0 < n1 from q_3044 h3 r1) (show inrJ (z4) from pz4_0) (fun σ H Oₚ => ?_)
            have O := OUT_trans O Oₚ
            have cAu31 : SA oz_C6clsl_5 A (updA (updA A4 1 (1) (v29)) 1 (0) (z4)) := SA_upd (cAu30) rfl
            have mAu31 := SAm_of cAu31 oz_C6cls_14
            refine Ew_of (pcₚ := 96) (fun _ => x_lload rfl (rk2_o (rk2_s) rfl rfl)) ?_
            have : IMP (1 ≤ ((w1)) 0 ∧ 1 ≤ ((w1)) 1 ∧ 1 ≤ ((w1)) 2) (dsF ((a1)) ((a2)) (((w1)) 0) (((w1)) 1) (((w1)) 2) = ((z4), ((upd1 (upd1 (w1) (1) (v29)) (0) (z4))) 0, ((upd1 (upd1 (w1) (1) (v29)) (0) (z4))) 1, ((upd1 (upd1 (w1) (1) (v29)) (0) (z4))) 2)) := fun hL => by have hx := hdd hL.1; have hL1 := hL.1; have hL2 := hL.2.1; have hL3 := hL.2.2; exact dsF_i (w := qw) hqw (by simp only [upd1, n01_, n02_, n10_, n12_, n20_, n21_, eq_self, if_true, if_false]; rcases hx with ⟨a, b⟩ | ⟨a, ⟨b, c⟩ | ⟨b, c⟩ | ⟨b, c⟩ | ⟨b, c⟩⟩; (exact .inl ⟨by first | exact True.intro | omega, by first | exact True.intro | omega, by first | exact True.intro | omega, by first | exact True.intro | omega, by first | exact True.intro | omega⟩); (exact .inr (.inl ⟨by first | exact True.intro | omega, by first | exact True.intro | omega, by first | exact True.intro | omega, by first | exact True.intro | omega, by first | exact True.intro | omega, by first | exact True.intro | omega⟩)); (exact .inr (.inr (.inl ⟨by first | exact True.intro | omega, by first | exact True.intro | omega, by first | exact True.intro | omega, by first | exact True.intro | omega, by first | exact True.intro | omega, by first | exact True.intro | omega⟩))); (exact .inr (.inr (.inr (.inl ⟨by first | exact True.intro | omega, by first | exact True.intro | omega, by first | exact True.intro | omega, by first | exact True.intro | omega, by first | exact True.intro | omega, by first | exact True.intro | omega⟩)))); (exact .inr (.inr (.inr (.inr ⟨by first | exact True.intro | omega, by first | exact True.intro | omega, by first | exact True.intro | omega, by first | exact True.intro | omega, by first | exact True.intro | omega, by first | exact True.intro | omega⟩)))))
            exact w_lreturn rfl (k (z4) _ _ _ H O (cF4) (cAu31) (upd1 (upd1 (w1) (1) (v29)) (0) (z4)) (congrArg (fun q => upd1 q (0) (z4)) (congrArg (fun q => upd1 q (1) (v29)) (((show A4 1 = A 1 from (eA4 1).trans (funext (hA4 1 rfl)))).trans (ew1)))) (show inrJ (z4) from pz4_0) (show IMP (1 ≤ ((w1)) 0 ∧ 1 ≤ ((w1)) 1 ∧ 1 ≤ ((w1)) 2) (dsF (a1) (a2) (((w1)) 0) (((w1)) 1) (((w1)) 2) = ((z4), ((upd1 (upd1 (w1) (1) (v29)) (0) (z4))) 0, ((upd1 (upd1 (w1) (1) (v29)) (0) (z4))) 1, ((upd1 (upd1 (w1) (1) (v29)) (0) (z4))) 2)) by assumption))
        · refine Ew_of (pcₚ := 56) (fun _ => x_aload_n rfl (rk2_o (rk2_o (rfl) rfl rfl) rfl rfl)) ?_
          refine v_g H (o := 0) (v := .ref (D 1)) rfl rfl rfl rfl rfl (vrf ((mF4 0 2 rfl).trans (pf1))) ?_
          refine Ew_of (pcₚ := 60) (fun _ => x_iconst rfl) ?_
          refine Ew_of (pcₚ := 61) (fun _ => x_aload_n rfl (rk2_o (rk2_o (rfl) rfl rfl) rfl rfl)) ?_
          refine v_g H (o := 0) (v := .ref (D 1)) rfl rfl rfl rfl rfl (vrf ((mF4 0 2 rfl).trans (pf1))) ?_
          refine Ew_of (pcₚ := 65) (fun _ => x_iconst rfl) ?_
          refine v_lJ H (o := 1) rfl rfl rfl rfl (n := n1) (en1) (show 0 ≤ 1 ∧ 1 < n1 from q_3045 h3 r1) (fun v32 ev32 qv32 => ?_)
          have ev32 : (w1) (1) = v32 := (congrFun (((show A4 1 = A 1 from (eA4 1).trans (funext (hA4 1 rfl)))).trans (ew1)) (1)).symm.trans ev32
          have hv1 := ev32
          refine v_sJ H (o := 1) (z := v32) rfl rfl rfl rfl (n := n1) (en1) (show 0 ≤ 2 ∧ 2 < n1 from q_3046 h3) (show inrJ (v32) from qv32) (fun σ H Oₚ => ?_)
          have O := OUT_trans O Oₚ
          have cAu33 : SA oz_C6clsl_5 A (updA A4 1 (2) (v32)) := SA_upd (cA4) rfl
          have mAu33 := SAm_of cAu33 oz_C6cls_14
          refine Ew_of (pcₚ := 69) (fun _ => x_lload rfl rk2_s) ?_
          refine Ew_of (pcₚ := 70) (fun _ => x_lconst (z := 1) rfl (by decide)) ?_
          refine w_lcmp rfl (show inrJ (a1) from h0) (show inrJ (1) from q_1587) (fun z34 gz34 gaz34 gbz34 => ?_)
          refine w_ifle (t := 86) rfl rfl (show inr (z34) from gz34) (fun b35 => ?_) (fun b35 => ?_)
          · refine Ew_of (pcₚ := 87) (fun _ => x_aload_n rfl (rk2_o (rk2_o (rfl) rfl rfl) rfl rfl)) ?_
            refine v_g H (o := 0) (v := .ref (D 1)) rfl rfl rfl rfl rfl (vrf ((mF4 0 2 rfl).trans (pf1))) ?_
            refine Ew_of (pcₚ := 91) (fun _ => x_iconst rfl) ?_
            refine Ew_of (pcₚ := 93) (fun _ => x_lload rfl (rk2_o (rk2_s) rfl rfl)) ?_
            refine v_sJ H (o := 1) (z := z4) rfl rfl rfl rfl (n := n1) (en1) (show 0 ≤ 0 ∧ 0 < n1 from q_3044 h3 r1) (show inrJ (z4) from pz4_0) (fun σ H Oₚ => ?_)
            have O := OUT_trans O Oₚ
            have cAu36 : SA oz_C6clsl_5 A (updA (updA A4 1 (2) (v32)) 1 (0) (z4)) := SA_upd (cAu33) rfl
            have mAu36 := SAm_of cAu36 oz_C6cls_14
            refine Ew_of (pcₚ := 96) (fun _ => x_lload rfl (rk2_o (rk2_s) rfl rfl)) ?_
            have : IMP (1 ≤ ((w1)) 0 ∧ 1 ≤ ((w1)) 1 ∧ 1 ≤ ((w1)) 2) (dsF ((a1)) ((a2)) (((w1)) 0) (((w1)) 1) (((w1)) 2) = ((z4), ((upd1 (upd1 (w1) (2) (v32)) (0) (z4))) 0, ((upd1 (upd1 (w1) (2) (v32)) (0) (z4))) 1, ((upd1 (upd1 (w1) (2) (v32)) (0) (z4))) 2)) := fun hL => by have hx := hdd hL.1; have hL1 := hL.1; have hL2 := hL.2.1; have hL3 := hL.2.2; exact dsF_i (w := qw) hqw (by simp only [upd1, n01_, n02_, n10_, n12_, n20_, n21_, eq_self, if_true, if_false]; rcases hx with ⟨a, b⟩ | ⟨a, ⟨b, c⟩ | ⟨b, c⟩ | ⟨b, c⟩ | ⟨b, c⟩⟩; (exact .inl ⟨by first | exact True.intro | omega, by first | exact True.intro | omega, by first | exact True.intro | omega, by first | exact True.intro | omega, by first | exact True.intro | omega⟩); (exact .inr (.inl ⟨by first | exact True.intro | omega, by first | exact True.intro | omega, by first | exact True.intro | omega, by first | exact True.intro | omega, by first | exact True.intro | omega, by first | exact True.intro | omega⟩)); (exact .inr (.inr (.inl ⟨by first | exact True.intro | omega, by first | exact True.intro | omega, by first | exact True.intro | omega, by first | exact True.intro | omega, by first | exact True.intro | omega, by first | exact True.intro | omega⟩))); (exact .inr (.inr (.inr (.inl ⟨by first | exact True.intro | omega, by first | exact True.intro | omega, by first | exact True.intro | omega, by first | exact True.intro | omega, by first | exact True.intro | omega, by first | exact True.intro | omega⟩)))); (exact .inr (.inr (.inr (.inr ⟨by first | exact True.intro | omega, by first | exact True.intro | omega, by first | exact True.intro | omega, by first | exact True.intro | omega, by first | exact True.intro | omega, by first | exact True.intro | omega⟩)))))
            exact w_lreturn rfl (k (z4) _ _ _ H O (cF4) (cAu36) (upd1 (upd1 (w1) (2) (v32)) (0) (z4)) (congrArg (fun q => upd1 q (0) (z4)) (congrArg (fun q => upd1 q (2) (v32)) (((show A4 1 = A 1 from (eA4 1).trans (funext (hA4 1 rfl)))).trans (ew1)))) (show inrJ (z4) from pz4_0) (show IMP (1 ≤ ((w1)) 0 ∧ 1 ≤ ((w1)) 1 ∧ 1 ≤ ((w1)) 2) (dsF (a1) (a2) (((w1)) 0) (((w1)) 1) (((w1)) 2) = ((z4), ((upd1 (upd1 (w1) (2) (v32)) (0) (z4))) 0, ((upd1 (upd1 (w1) (2) (v32)) (0) (z4))) 1, ((upd1 (upd1 (w1) (2) (v32)) (0) (z4))) 2)) by assumption))
          · refine Ew_of (pcₚ := 75) (fun _ => x_aload_n rfl (rk2_o (rk2_o (rfl) rfl rfl) rfl rfl)) ?_
            refine v_g H (o := 0) (v := .ref (D 1)) rfl rfl rfl rfl rfl (vrf ((mF4 0 2 rfl).trans (pf1))) ?_
            refine Ew_of (pcₚ := 79) (fun _ => x_iconst rfl) ?_
            refine Ew_of (pcₚ := 80) (fun _ => x_aload_n rfl (rk2_o (rk2_o (rfl) rfl rfl) rfl rfl)) ?_
            refine v_g H (o := 0) (v := .ref (D 1)) rfl rfl rfl rfl rfl (vrf ((mF4 0 2 rfl).trans (pf1))) ?_
            refine Ew_of (pcₚ := 84) (fun _ => x_iconst rfl) ?_
            refine v_lJ H (o := 1) rfl rfl rfl rfl (n := n1) (en1) (show 0 ≤ 0 ∧ 0 < n1 from q_3044 h3 r1) (fun v37 ev37 qv37 => ?_)
            have ev37 : (upd1 (w1) (2) (v32)) (0) = v37 := (congrFun (congrArg (fun q => upd1 q (2) (v32)) (((show A4 1 = A 1 from (eA4 1).trans (funext (hA4 1 rfl)))).trans (ew1))) (0)).symm.trans ev37
            have hv0 := ev37
            try simp only [upd1, n01_, n02_, n10_, n12_, n20_, n21_, eq_self, if_true, if_false] at hv0
            refine v_sJ H (o := 1) (z := v37) rfl rfl rfl rfl (n := n1) (en1) (show 0 ≤ 1 ∧ 1 < n1 from q_3045 h3 r1) (show inrJ (v37) from qv37) (fun σ H Oₚ => ?_)
            have O := OUT_trans O Oₚ
            have cAu38 : SA oz_C6clsl_5 A (updA (updA A4 1 (2) (v32)) 1 (1) (v37)) := SA_upd (cAu33) rfl
            have mAu38 := SAm_of cAu38 oz_C6cls_14
            refine Ew_of (pcₚ := 87) (fun _ => x_aload_n rfl (rk2_o (rk2_o (rfl) rfl rfl) rfl rfl)) ?_
            refine v_g H (o := 0) (v := .ref (D 1)) rfl rfl rfl rfl rfl (vrf ((mF4 0 2 rfl).trans (pf1))) ?_
            refine Ew_of (pcₚ := 91) (fun _ => x_iconst rfl) ?_
            refine Ew_of (pcₚ := 93) (fun _ => x_lload rfl (rk2_o (rk2_s) rfl rfl)) ?_
            refine v_sJ H (o := 1) (z := z4) rfl rfl rfl rfl (n := n1) (en1) (show 0 ≤ 0 ∧ 0 < n1 from q_3044 h3 r1) (show inrJ (z4) from pz4_0) (fun σ H Oₚ => ?_)
            have O := OUT_trans O Oₚ
            have cAu39 : SA oz_C6clsl_5 A (updA (updA (updA A4 1 (2) (v32)) 1 (1) (v37)) 1 (0) (z4)) := SA_upd (cAu38) rfl
            have mAu39 := SAm_of cAu39 oz_C6cls_14
            refine Ew_of (pcₚ := 96) (fun _ => x_lload rfl (rk2_o (rk2_s) rfl rfl)) ?_
            have : IMP (1 ≤ ((w1)) 0 ∧ 1 ≤ ((w1)) 1 ∧ 1 ≤ ((w1)) 2) (dsF ((a1)) ((a2)) (((w1)) 0) (((w1)) 1) (((w1)) 2) = ((z4), ((upd1 (upd1 (upd1 (w1) (2) (v32)) (1) (v37)) (0) (z4))) 0, ((upd1 (upd1 (upd1 (w1) (2) (v32)) (1) (v37)) (0) (z4))) 1, ((upd1 (upd1 (upd1 (w1) (2) (v32)) (1) (v37)) (0) (z4))) 2)) := fun hL => by have hx := hdd hL.1; have hL1 := hL.1; have hL2 := hL.2.1; have hL3 := hL.2.2; exact dsF_i (w := qw) hqw (by simp only [upd1, n01_, n02_, n10_, n12_, n20_, n21_, eq_self, if_true, if_false]; rcases hx with ⟨a, b⟩ | ⟨a, ⟨b, c⟩ | ⟨b, c⟩ | ⟨b, c⟩ | ⟨b, c⟩⟩; (exact .inl ⟨by first | exact True.intro | omega, by first | exact True.intro | omega, by first | exact True.intro | omega, by first | exact True.intro | omega, by first | exact True.intro | omega⟩); (exact .inr (.inl ⟨by first | exact True.intro | omega, by first | exact True.intro | omega, by first | exact True.intro | omega, by first | exact True.intro | omega, by first | exact True.intro | omega, by first | exact True.intro | omega⟩)); (exact .inr (.inr (.inl ⟨by first | exact True.intro | omega, by first | exact True.intro | omega, by first | exact True.intro | omega, by first | exact True.intro | omega, by first | exact True.intro | omega, by first | exact True.intro | omega⟩))); (exact .inr (.inr (.inr (.inl ⟨by first | exact True.intro | omega, by first | exact True.intro | omega, by first | exact True.intro | omega, by first | exact True.intro | omega, by first | exact True.intro | omega, by first | exact True.intro | omega⟩)))); (exact .inr (.inr (.inr (.inr ⟨by first | exact True.intro | omega, by first | exact True.intro | omega, by first | exact True.intro | omega, by first | exact True.intro | omega, by first | exact True.intro | omega, by first | exact True.intro | omega⟩)))))
            exact w_lreturn rfl (k (z4) _ _ _ H O (cF4) (cAu39) (upd1 (upd1 (upd1 (w1) (2) (v32)) (1) (v37)) (0) (z4)) (congrArg (fun q => upd1 q (0) (z4)) (congrArg (fun q => upd1 q (1) (v37)) (congrArg (fun q => upd1 q (2) (v32)) (((show A4 1 = A 1 from (eA4 1).trans (funext (hA4 1 rfl)))).trans (ew1))))) (show inrJ (z4) from pz4_0) (show IMP (1 ≤ ((w1)) 0 ∧ 1 ≤ ((w1)) 1 ∧ 1 ≤ ((w1)) 2) (dsF (a1) (a2) (((w1)) 0) (((w1)) 1) (((w1)) 2) = ((z4), ((upd1 (upd1 (upd1 (w1) (2) (v32)) (1) (v37)) (0) (z4))) 0, ((upd1 (upd1 (upd1 (w1) (2) (v32)) (1) (v37)) (0) (z4))) 1, ((upd1 (upd1 (upd1 (w1) (2) (v32)) (1) (v37)) (0) (z4))) 2)) by assumption))
      · exact hc37  _ _ _ _  (rk2_o (rfl) rfl rfl) (rk2_o (rfl) rfl rfl) (rk2_s) H O (SF_refl) (SA_refl)     (show ((a2) = (0)) ∨ ((a2) ≠ (0) ∧ (a1) > (3)) by omega)
  · refine Ew_of (pcₚ := 9) (fun _ => x_lload_n rfl rfl) ?_
    refine Ew_of (pcₚ := 12) (fun _ => x_ldc2 (z := 3) rfl (by decide)) ?_
    refine w_lsub rfl ?_
    refine Ew_of (pcₚ := 23) (fun _ => x_goto rfl rfl) ?_
    have hdd : IMP (1 ≤ ((w1)) 0) (3 < (a1) ∧ ((a1 - 3)) = (a1) - 3 ∨ (a1) ≤ 3 ∧ (qw = 1 ∧ ((a1 - 3)) = ((w1)) 0 ∨ qw = 2 ∧ ((a1 - 3)) = ((w1)) 1 ∨ qw = 3 ∧ ((a1 - 3)) = ((w1)) 2 ∨ 3 < qw ∧ ((a1 - 3)) = ((w1)) 0 - 1)) := by first | exact fun _ => .inl ⟨by omega, by omega⟩ | exact fun z => .inr ⟨by omega, LBY_x pz4_1 (by omega) hqw z hlr0⟩
    refine Ew_of (pcₚ := 25) (fun _ => x_lstore rfl) ?_
    refine Ew_of (pcₚ := 26) (fun _ => x_iload_n rfl (rk2_o (rfl) rfl rfl)) ?_
    have hc37 : ∀ (ls : rO) (σ : rS) (F_c37 : hF) (A_c37 : hA) , rlook ls 0 = some (.ref (D 0)) → rlook ls 1 = some (J (a1)) → rlook ls 4 = some (J ((a1 - 3))) → HW V189 σ D N F_c37 A_c37 → OUT (V189).length D N σE c s D N σ c s → SF [] F F_c37 → SA [] A A_c37 → (((a2) = (0)) ∨ ((a2) ≠ (0) ∧ (a1) > (3))) → Ew 189 (d + 1) 37 ls [] σ c s Q := by
     as_aux_lemma =>
      intro  ls σ F_c37 A_c37  lc37_0 lc37_1 lc37_4 H O hS_c37 hA_c37     jc37_0
      have cF_c37 : SF oz_C6clsl_2 F F_c37 := SF_trans (SF_refl) hS_c37 (any_sub (by decide +kernel))
      have mF_c37 := SFm_of cF_c37 oz_C6cls_6
      have cA_c37 : SA oz_C6clsl_5 A A_c37 := SA_trans (SA_refl) hA_c37 (any_subA (by decide +kernel))
      have mA_c37 := SAm_of cA_c37 oz_C6cls_14
      refine Ew_of (pcₚ := 38) (fun _ => x_lload_n rfl lc37_1) ?_
      refine Ew_of (pcₚ := 39) (fun _ => x_lconst (z := 1) rfl (by decide)) ?_
      refine w_ladd rfl ?_
      refine Ew_of (pcₚ := 44) (fun _ => x_goto rfl rfl) ?_
      refine Ew_of (pcₚ := 46) (fun _ => x_lstore rfl) ?_
      refine Ew_of (pcₚ := 48) (fun _ => x_lload rfl rk2_s) ?_
      refine Ew_of (pcₚ := 51) (fun _ => x_ldc2 (z := 2) rfl (by decide)) ?_
      refine w_lcmp rfl (show inrJ ((a1 + 1)) by omega) (show inrJ (2) from q_1578) (fun z40 gz40 gaz40 gbz40 => ?_)
      refine w_ifle (t := 67) rfl rfl (show inr (z40) from gz40) (fun b41 => ?_) (fun b41 => ?_)
      · refine Ew_of (pcₚ := 69) (fun _ => x_lload rfl rk2_s) ?_
        refine Ew_of (pcₚ := 70) (fun _ => x_lconst (z := 1) rfl (by decide)) ?_
        refine w_lcmp rfl (show inrJ ((a1 + 1)) by omega) (show inrJ (1) from q_1587) (fun z42 gz42 gaz42 gbz42 => ?_)
        refine w_ifle (t := 86) rfl rfl (show inr (z42) from gz42) (fun b43 => ?_) (fun b43 => ?_)
        · refine Ew_of (pcₚ := 87) (fun _ => x_aload_n rfl (rk2_o (lc37_0) rfl rfl)) ?_
          refine v_g H (o := 0) (v := .ref (D 1)) rfl rfl rfl rfl rfl (vrf ((mF_c37 0 2 rfl).trans (pf1))) ?_
          refine Ew_of (pcₚ := 91) (fun _ => x_iconst rfl) ?_
          refine Ew_of (pcₚ := 93) (fun _ => x_lload rfl (rk2_o (lc37_4) rfl rfl)) ?_
          refine v_sJ H (o := 1) (z := (a1 - 3)) rfl rfl rfl rfl (n := n1) (en1) (show 0 ≤ 0 ∧ 0 < n1 from q_3044 h3 r1) (show inrJ ((a1 - 3)) by omega) (fun σ H Oₚ => ?_)
          have O := OUT_trans O Oₚ
          have cAu44 : SA oz_C6clsl_5 A (updA A_c37 1 (0) ((a1 - 3))) := SA_upd (cA_c37) rfl
          have mAu44 := SAm_of cAu44 oz_C6cls_14
          refine Ew_of (pcₚ := 96) (fun _ => x_lload rfl (rk2_o (lc37_4) rfl rfl)) ?_
          have : IMP (1 ≤ ((w1)) 0 ∧ 1 ≤ ((w1)) 1 ∧ 1 ≤ ((w1)) 2) (dsF ((a1)) ((a2)) (((w1)) 0) (((w1)) 1) (((w1)) 2) = (((a1 - 3)), ((upd1 (w1) (0) ((a1 - 3)))) 0, ((upd1 (w1) (0) ((a1 - 3)))) 1, ((upd1 (w1) (0) ((a1 - 3)))) 2)) := fun hL => by have hx := hdd hL.1; have hL1 := hL.1; have hL2 := hL.2.1; have hL3 := hL.2.2; exact dsF_i (w := qw) hqw (by simp only [upd1, n01_, n02_, n10_, n12_, n20_, n21_, eq_self, if_true, if_false]; rcases hx with ⟨a, b⟩ | ⟨a, ⟨b, c⟩ | ⟨b, c⟩ | ⟨b, c⟩ | ⟨b, c⟩⟩; (exact .inl ⟨by first | exact True.intro | omega, by first | exact True.intro | omega, by first | exact True.intro | omega, by first | exact True.intro | omega, by first | exact True.intro | omega⟩); (exact .inr (.inl ⟨by first | exact True.intro | omega, by first | exact True.intro | omega, by first | exact True.intro | omega, by first | exact True.intro | omega, by first | exact True.intro | omega, by first | exact True.intro | omega⟩)); (exact .inr (.inr (.inl ⟨by first | exact True.intro | omega, by first | exact True.intro | omega, by first | exact True.intro | omega, by first | exact True.intro | omega, by first | exact True.intro | omega, by first | exact True.intro | omega⟩))); (exact .inr (.inr (.inr (.inl ⟨by first | exact True.intro | omega, by first | exact True.intro | omega, by first | exact True.intro | omega, by first | exact True.intro | omega, by first | exact True.intro | omega, by first | exact True.intro | omega⟩)))); (exact .inr (.inr (.inr (.inr ⟨by first | exact True.intro | omega, by first | exact True.intro | omega, by first | exact True.intro | omega, by first | exact True.intro | omega, by first | exact True.intro | omega, by first | exact True.intro | omega⟩)))))
          exact w_lreturn rfl (k ((a1 - 3)) _ _ _ H O (cF_c37) (cAu44) (upd1 (w1) (0) ((a1 - 3))) (congrArg (fun q => upd1 q (0) ((a1 - 3))) ((funext (hA_c37 1 rfl)).trans (ew1))) (show inrJ ((a1 - 3)) by omega) (show IMP (1 ≤ ((w1)) 0 ∧ 1 ≤ ((w1)) 1 ∧ 1 ≤ ((w1)) 2) (dsF (a1) (a2) (((w1)) 0) (((w1)) 1) (((w1)) 2) = (((a1 - 3)), ((upd1 (w1) (0) ((a1 - 3)))) 0, ((upd1 (w1) (0) ((a1 - 3)))) 1, ((upd1 (w1) (0) ((a1 - 3)))) 2)) by assumption))
        · refine Ew_of (pcₚ := 75) (fun _ => x_aload_n rfl (rk2_o (lc37_0) rfl rfl)) ?_
          refine v_g H (o := 0) (v := .ref (D 1)) rfl rfl rfl rfl rfl (vrf ((mF_c37 0 2 rfl).trans (pf1))) ?_
          refine Ew_of (pcₚ := 79) (fun _ => x_iconst rfl) ?_
          refine Ew_of (pcₚ := 80) (fun _ => x_aload_n rfl (rk2_o (lc37_0) rfl rfl)) ?_
          refine v_g H (o := 0) (v := .ref (D 1)) rfl rfl rfl rfl rfl (vrf ((mF_c37 0 2 rfl).trans (pf1))) ?_
          refine Ew_of (pcₚ := 84) (fun _ => x_iconst rfl) ?_
          refine v_lJ H (o := 1) rfl rfl rfl rfl (n := n1) (en1) (show 0 ≤ 0 ∧ 0 < n1 from q_3044 h3 r1) (fun v45 ev45 qv45 => ?_)
          have ev45 : (w1) (0) = v45 := (congrFun ((funext (hA_c37 1 rfl)).trans (ew1)) (0)).symm.trans ev45
          have hv0 := ev45
          try simp only [upd1, n01_, n02_, n10_, n12_, n20_, n21_, eq_self, if_true, if_false] at hv0
          refine v_sJ H (o := 1) (z := v45) rfl rfl rfl rfl (n := n1) (en1) (show 0 ≤ 1 ∧ 1 < n1 from q_3045 h3 r1) (show inrJ (v45) from qv45) (fun σ H Oₚ => ?_)
          have O := OUT_trans O Oₚ
          have cAu46 : SA oz_C6clsl_5 A (updA A_c37 1 (1) (v45)) := SA_upd (cA_c37) rfl
          have mAu46 := SAm_of cAu46 oz_C6cls_14
          refine Ew_of (pcₚ := 87) (fun _ => x_aload_n rfl (rk2_o (lc37_0) rfl rfl)) ?_
          refine v_g H (o := 0) (v := .ref (D 1)) rfl rfl rfl rfl rfl (vrf ((mF_c37 0 2 rfl).trans (pf1))) ?_
          refine Ew_of (pcₚ := 91) (fun _ => x_iconst rfl) ?_
          refine Ew_of (pcₚ := 93) (fun _ => x_lload rfl (rk2_o (lc37_4) rfl rfl)) ?_
          refine v_sJ H (o := 1) (z := (a1 - 3)) rfl rfl rfl rfl (n := n1) (en1) (show 0 ≤ 0 ∧ 0 < n1 from q_3044 h3 r1) (show inrJ ((a1 - 3)) by omega) (fun σ H Oₚ => ?_)
          have O := OUT_trans O Oₚ
          have cAu47 : SA oz_C6clsl_5 A (updA (updA A_c37 1 (1) (v45)) 1 (0) ((a1 - 3))) := SA_upd (cAu46) rfl
          have mAu47 := SAm_of cAu47 oz_C6cls_14
          refine Ew_of (pcₚ := 96) (fun _ => x_lload rfl (rk2_o (lc37_4) rfl rfl)) ?_
          have : IMP (1 ≤ ((w1)) 0 ∧ 1 ≤ ((w1)) 1 ∧ 1 ≤ ((w1)) 2) (dsF ((a1)) ((a2)) (((w1)) 0) (((w1)) 1) (((w1)) 2) = (((a1 - 3)), ((upd1 (upd1 (w1) (1) (v45)) (0) ((a1 - 3)))) 0, ((upd1 (upd1 (w1) (1) (v45)) (0) ((a1 - 3)))) 1, ((upd1 (upd1 (w1) (1) (v45)) (0) ((a1 - 3)))) 2)) := fun hL => by have hx := hdd hL.1; have hL1 := hL.1; have hL2 := hL.2.1; have hL3 := hL.2.2; exact dsF_i (w := qw) hqw (by simp only [upd1, n01_, n02_, n10_, n12_, n20_, n21_, eq_self, if_true, if_false]; rcases hx with ⟨a, b⟩ | ⟨a, ⟨b, c⟩ | ⟨b, c⟩ | ⟨b, c⟩ | ⟨b, c⟩⟩; (exact .inl ⟨by first | exact True.intro | omega, by first | exact True.intro | omega, by first | exact True.intro | omega, by first | exact True.intro | omega, by first | exact True.intro | omega⟩); (exact .inr (.inl ⟨by first | exact True.intro | omega, by first | exact True.intro | omega, by first | exact True.intro | omega, by first | exact True.intro | omega, by first | exact True.intro | omega, by first | exact True.intro | omega⟩)); (exact .inr (.inr (.inl ⟨by first | exact True.intro | omega, by first | exact True.intro | omega, by first | exact True.intro | omega, by first | exact True.intro | omega, by first | exact True.intro | omega, by first | exact True.intro | omega⟩))); (exact .inr (.inr (.inr (.inl ⟨by first | exact True.intro | omega, by first | exact True.intro | omega, by first | exact True.intro | omega, by first | exact True.intro | omega, by first | exact True.intro | omega, by first | exact True.intro | omega⟩)))); (exact .inr (.inr (.inr (.inr ⟨by first | exact True.intro | omega, by first | exact True.intro | omega, by first | exact True.intro | omega, by first | exact True.intro | omega, by first | exact True.intro | omega, by first | exact True.intro | omega⟩)))))
          exact w_lreturn rfl (k ((a1 - 3)) _ _ _ H O (cF_c37) (cAu47) (upd1 (upd1 (w1) (1) (v45)) (0) ((a1 - 3))) (congrArg (fun q => upd1 q (0) ((a1 - 3))) (congrArg (fun q => upd1 q (1) (v45)) ((funext (hA_c37 1 rfl)).trans (ew1)))) (show inrJ ((a1 - 3)) by omega) (show IMP (1 ≤ ((w1)) 0 ∧ 1 ≤ ((w1)) 1 ∧ 1 ≤ ((w1)) 2) (dsF (a1) (a2) (((w1)) 0) (((w1)) 1) (((w1)) 2) = (((a1 - 3)), ((upd1 (upd1 (w1) (1) (v45)) (0) ((a1 - 3)))) 0, ((upd1 (upd1 (w1) (1) (v45)) (0) ((a1 - 3)))) 1, ((upd1 (upd1 (w1) (1) (v45)) (0) ((a1 - 3)))) 2)) by assumption))
      · refine Ew_of (pcₚ := 56) (fun _ => x_aload_n rfl (rk2_o (lc37_0) rfl rfl)) ?_
        refine v_g H (o := 0) (v := .ref (D 1)) rfl rfl rfl rfl rfl (vrf ((mF_c37 0 2 rfl).trans (pf1))) ?_
        refine Ew_of (pcₚ := 60) (fun _ => x_iconst rfl) ?_
        refine Ew_of (pcₚ := 61) (fun _ => x_aload_n rfl (rk2_o (lc37_0) rfl rfl)) ?_
        refine v_g H (o := 0) (v := .ref (D 1)) rfl rfl rfl rfl rfl (vrf ((mF_c37 0 2 rfl).trans (pf1))) ?_
        refine Ew_of (pcₚ := 65) (fun _ => x_iconst rfl) ?_
        refine v_lJ H (o := 1) rfl rfl rfl rfl (n := n1) (en1) (show 0 ≤ 1 ∧ 1 < n1 from q_3045 h3 r1) (fun v48 ev48 qv48 => ?_)
        have ev48 : (w1) (1) = v48 := (congrFun ((funext (hA_c37 1 rfl)).trans (ew1)) (1)).symm.trans ev48
        have hv1 := ev48
        refine v_sJ H (o := 1) (z := v48) rfl rfl rfl rfl (n := n1) (en1) (show 0 ≤ 2 ∧ 2 < n1 from q_3046 h3) (show inrJ (v48) from qv48) (fun σ H Oₚ => ?_)
        have O := OUT_trans O Oₚ
        have cAu49 : SA oz_C6clsl_5 A (updA A_c37 1 (2) (v48)) := SA_upd (cA_c37) rfl
        have mAu49 := SAm_of cAu49 oz_C6cls_14
        refine Ew_of (pcₚ := 69) (fun _ => x_lload rfl rk2_s) ?_
        refine Ew_of (pcₚ := 70) (fun _ => x_lconst (z := 1) rfl (by decide)) ?_
        refine w_lcmp rfl (show inrJ ((a1 + 1)) by omega) (show inrJ (1) from q_1587) (fun z50 gz50 gaz50 gbz50 => ?_)
        refine w_ifle (t := 86) rfl rfl (show inr (z50) from gz50) (fun b51 => ?_) (fun b51 => ?_)
        · refine Ew_of (pcₚ := 87) (fun _ => x_aload_n rfl (rk2_o (lc37_0) rfl rfl)) ?_
          refine v_g H (o := 0) (v := .ref (D 1)) rfl rfl rfl rfl rfl (vrf ((mF_c37 0 2 rfl).trans (pf1))) ?_
          refine Ew_of (pcₚ := 91) (fun _ => x_iconst rfl) ?_
          refine Ew_of (pcₚ := 93) (fun _ => x_lload rfl (rk2_o (lc37_4) rfl rfl)) ?_
          refine v_sJ H (o := 1) (z := (a1 - 3)) rfl rfl rfl rfl (n := n1) (en1) (show 0 ≤ 0 ∧ 0 < n1 from q_3044 h3 r1) (show inrJ ((a1 - 3)) by omega) (fun σ H Oₚ => ?_)
          have O := OUT_trans O Oₚ
          have cAu52 : SA oz_C6clsl_5 A (updA (updA A_c37 1 (2) (v48)) 1 (0) ((a1 - 3))) := SA_upd (cAu49) rfl
          have mAu52 := SAm_of cAu52 oz_C6cls_14
          refine Ew_of (pcₚ := 96) (fun _ => x_lload rfl (rk2_o (lc37_4) rfl rfl)) ?_
          have : IMP (1 ≤ ((w1)) 0 ∧ 1 ≤ ((w1)) 1 ∧ 1 ≤ ((w1)) 2) (dsF ((a1)) ((a2)) (((w1)) 0) (((w1)) 1) (((w1)) 2) = (((a1 - 3)), ((upd1 (upd1 (w1) (2) (v48)) (0) ((a1 - 3)))) 0, ((upd1 (upd1 (w1) (2) (v48)) (0) ((a1 - 3)))) 1, ((upd1 (upd1 (w1) (2) (v48)) (0) ((a1 - 3)))) 2)) := fun hL => by have hx := hdd hL.1; have hL1 := hL.1; have hL2 := hL.2.1; have hL3 := hL.2.2; exact dsF_i (w := qw) hqw (by simp only [upd1, n01_, n02_, n10_, n12_, n20_, n21_, eq_self, if_true, if_false]; rcases hx with ⟨a, b⟩ | ⟨a, ⟨b, c⟩ | ⟨b, c⟩ | ⟨b, c⟩ | ⟨b, c⟩⟩; (exact .inl ⟨by first | exact True.intro | omega, by first | exact True.intro | omega, by first | exact True.intro | omega, by first | exact True.intro | omega, by first | exact True.intro | omega⟩); (exact .inr (.inl ⟨by first | exact True.intro | omega, by first | exact True.intro | omega, by first | exact True.intro | omega, by first | exact True.intro | omega, by first | exact True.intro | omega, by first | exact True.intro | omega⟩)); (exact .inr (.inr (.inl ⟨by first | exact True.intro | omega, by first | exact True.intro | omega, by first | exact True.intro | omega, by first | exact True.intro | omega, by first | exact True.intro | omega, by first | exact True.intro | omega⟩))); (exact .inr (.inr (.inr (.inl ⟨by first | exact True.intro | omega, by first | exact True.intro | omega, by first | exact True.intro | omega, by first | exact True.intro | omega, by first | exact True.intro | omega, by first | exact True.intro | omega⟩)))); (exact .inr (.inr (.inr (.inr ⟨by first | exact True.intro | omega, by first | exact True.intro | omega, by first | exact True.intro | omega, by first | exact True.intro | omega, by first | exact True.intro | omega, by first | exact True.intro | omega⟩)))))
          exact w_lreturn rfl (k ((a1 - 3)) _ _ _ H O (cF_c37) (cAu52) (upd1 (upd1 (w1) (2) (v48)) (0) ((a1 - 3))) (congrArg (fun q => upd1 q (0) ((a1 - 3))) (congrArg (fun q => upd1 q (2) (v48)) ((funext (hA_c37 1 rfl)).trans (ew1)))) (show inrJ ((a1 - 3)) by omega) (show IMP (1 ≤ ((w1)) 0 ∧ 1 ≤ ((w1)) 1 ∧ 1 ≤ ((w1)) 2) (dsF (a1) (a2) (((w1)) 0) (((w1)) 1) (((w1)) 2) = (((a1 - 3)), ((upd1 (upd1 (w1) (2) (v48)) (0) ((a1 - 3)))) 0, ((upd1 (upd1 (w1) (2) (v48)) (0) ((a1 - 3)))) 1, ((upd1 (upd1 (w1) (2) (v48)) (0) ((a1 - 3)))) 2)) by assumption))
        · refine Ew_of (pcₚ := 75) (fun _ => x_aload_n rfl (rk2_o (lc37_0) rfl rfl)) ?_
          refine v_g H (o := 0) (v := .ref (D 1)) rfl rfl rfl rfl rfl (vrf ((mF_c37 0 2 rfl).trans (pf1))) ?_
          refine Ew_of (pcₚ := 79) (fun _ => x_iconst rfl) ?_
          refine Ew_of (pcₚ := 80) (fun _ => x_aload_n rfl (rk2_o (lc37_0) rfl rfl)) ?_
          refine v_g H (o := 0) (v := .ref (D 1)) rfl rfl rfl rfl rfl (vrf ((mF_c37 0 2 rfl).trans (pf1))) ?_
          refine Ew_of (pcₚ := 84) (fun _ => x_iconst rfl) ?_
          refine v_lJ H (o := 1) rfl rfl rfl rfl (n := n1) (en1) (show 0 ≤ 0 ∧ 0 < n1 from q_3044 h3 r1) (fun v53 ev53 qv53 => ?_)
          have ev53 : (upd1 (w1) (2) (v48)) (0) = v53 := (congrFun (congrArg (fun q => upd1 q (2) (v48)) ((funext (hA_c37 1 rfl)).trans (ew1))) (0)).symm.trans ev53
          have hv0 := ev53
          try simp only [upd1, n01_, n02_, n10_, n12_, n20_, n21_, eq_self, if_true, if_false] at hv0
          refine v_sJ H (o := 1) (z := v53) rfl rfl rfl rfl (n := n1) (en1) (show 0 ≤ 1 ∧ 1 < n1 from q_3045 h3 r1) (show inrJ (v53) from qv53) (fun σ H Oₚ => ?_)
          have O := OUT_trans O Oₚ
          have cAu54 : SA oz_C6clsl_5 A (updA (updA A_c37 1 (2) (v48)) 1 (1) (v53)) := SA_upd (cAu49) rfl
          have mAu54 := SAm_of cAu54 oz_C6cls_14
          refine Ew_of (pcₚ := 87) (fun _ => x_aload_n rfl (rk2_o (lc37_0) rfl rfl)) ?_
          refine v_g H (o := 0) (v := .ref (D 1)) rfl rfl rfl rfl rfl (vrf ((mF_c37 0 2 rfl).trans (pf1))) ?_
          refine Ew_of (pcₚ := 91) (fun _ => x_iconst rfl) ?_
          refine Ew_of (pcₚ := 93) (fun _ => x_lload rfl (rk2_o (lc37_4) rfl rfl)) ?_
          refine v_sJ H (o := 1) (z := (a1 - 3)) rfl rfl rfl rfl (n := n1) (en1) (show 0 ≤ 0 ∧ 0 < n1 from q_3044 h3 r1) (show inrJ ((a1 - 3)) by omega) (fun σ H Oₚ => ?_)
          have O := OUT_trans O Oₚ
          have cAu55 : SA oz_C6clsl_5 A (updA (updA (updA A_c37 1 (2) (v48)) 1 (1) (v53)) 1 (0) ((a1 - 3))) := SA_upd (cAu54) rfl
          have mAu55 := SAm_of cAu55 oz_C6cls_14
          refine Ew_of (pcₚ := 96) (fun _ => x_lload rfl (rk2_o (lc37_4) rfl rfl)) ?_
          have : IMP (1 ≤ ((w1)) 0 ∧ 1 ≤ ((w1)) 1 ∧ 1 ≤ ((w1)) 2) (dsF ((a1)) ((a2)) (((w1)) 0) (((w1)) 1) (((w1)) 2) = (((a1 - 3)), ((upd1 (upd1 (upd1 (w1) (2) (v48)) (1) (v53)) (0) ((a1 - 3)))) 0, ((upd1 (upd1 (upd1 (w1) (2) (v48)) (1) (v53)) (0) ((a1 - 3)))) 1, ((upd1 (upd1 (upd1 (w1) (2) (v48)) (1) (v53)) (0) ((a1 - 3)))) 2)) := fun hL => by have hx := hdd hL.1; have hL1 := hL.1; have hL2 := hL.2.1; have hL3 := hL.2.2; exact dsF_i (w := qw) hqw (by simp only [upd1, n01_, n02_, n10_, n12_, n20_, n21_, eq_self, if_true, if_false]; rcases hx with ⟨a, b⟩ | ⟨a, ⟨b, c⟩ | ⟨b, c⟩ | ⟨b, c⟩ | ⟨b, c⟩⟩; (exact .inl ⟨by first | exact True.intro | omega, by first | exact True.intro | omega, by first | exact True.intro | omega, by first | exact True.intro | omega, by first | exact True.intro | omega⟩); (exact .inr (.inl ⟨by first | exact True.intro | omega, by first | exact True.intro | omega, by first | exact True.intro | omega, by first | exact True.intro | omega, by first | exact True.intro | omega, by first | exact True.intro | omega⟩)); (exact .inr (.inr (.inl ⟨by first | exact True.intro | omega, by first | exact True.intro | omega, by first | exact True.intro | omega, by first | exact True.intro | omega, by first | exact True.intro | omega, by first | exact True.intro | omega⟩))); (exact .inr (.inr (.inr (.inl ⟨by first | exact True.intro | omega, by first | exact True.intro | omega, by first | exact True.intro | omega, by first | exact True.intro | omega, by first | exact True.intro | omega, by first | exact True.intro | omega⟩)))); (exact .inr (.inr (.inr (.inr ⟨by first | exact True.intro | omega, by first | exact True.intro | omega, by first | exact True.intro | omega, by first | exact True.intro | omega, by first | exact True.intro | omega, by first | exact True.intro | omega⟩)))))
          exact w_lreturn rfl (k ((a1 - 3)) _ _ _ H O (cF_c37) (cAu55) (upd1 (upd1 (upd1 (w1) (2) (v48)) (1) (v53)) (0) ((a1 - 3))) (congrArg (fun q => upd1 q (0) ((a1 - 3))) (congrArg (fun q => upd1 q (1) (v53)) (congrArg (fun q => upd1 q (2) (v48)) ((funext (hA_c37 1 rfl)).trans (ew1))))) (show inrJ ((a1 - 3)) by omega) (show IMP (1 ≤ ((w1)) 0 ∧ 1 ≤ ((w1)) 1 ∧ 1 ≤ ((w1)) 2) (dsF (a1) (a2) (((w1)) 0) (((w1)) 1) (((w1)) 2) = (((a1 - 3)), ((upd1 (upd1 (upd1 (w1) (2) (v48)) (1) (v53)) (0) ((a1 - 3)))) 0, ((upd1 (upd1 (upd1 (w1) (2) (v48)) (1) (v53)) (0) ((a1 - 3)))) 1, ((upd1 (upd1 (upd1 (w1) (2) (v48)) (1) (v53)) (0) ((a1 - 3)))) 2)) by assumption))
    refine w_ifeq (t := 37) rfl rfl (show inr (a2) from h1) (fun b56 => ?_) (fun b56 => ?_)
    · exact hc37  _ _ _ _  (rk2_o (rfl) rfl rfl) (rk2_o (rfl) rfl rfl) (rk2_s) H O (SF_refl) (SA_refl)     (show ((a2) = (0)) ∨ ((a2) ≠ (0) ∧ (a1) > (3)) from q_3047 b56)
    · refine Ew_of (pcₚ := 30) (fun _ => x_lload_n rfl (rk2_o (rfl) rfl rfl)) ?_
      refine Ew_of (pcₚ := 33) (fun _ => x_ldc2 (z := 3) rfl (by decide)) ?_
      refine w_lcmp rfl (show inrJ (a1) from h0) (show inrJ (3) from q_1577) (fun z57 gz57 gaz57 gbz57 => ?_)
      refine w_ifle (t := 43) rfl rfl (show inr (z57) from gz57) (fun b58 => ?_) (fun b58 => ?_)
      · refine Ew_of (pcₚ := 44) (fun _ => x_lload_n rfl (rk2_o (rfl) rfl rfl)) ?_
        refine Ew_of (pcₚ := 46) (fun _ => x_lstore rfl) ?_
        refine Ew_of (pcₚ := 48) (fun _ => x_lload rfl rk2_s) ?_
        refine Ew_of (pcₚ := 51) (fun _ => x_ldc2 (z := 2) rfl (by decide)) ?_
        refine w_lcmp rfl (show inrJ (a1) from h0) (show inrJ (2) from q_1578) (fun z59 gz59 gaz59 gbz59 => ?_)
        refine w_ifle (t := 67) rfl rfl (show inr (z59) from gz59) (fun b60 => ?_) (fun b60 => ?_)
        · refine Ew_of (pcₚ := 69) (fun _ => x_lload rfl rk2_s) ?_
          refine Ew_of (pcₚ := 70) (fun _ => x_lconst (z := 1) rfl (by decide)) ?_
          refine w_lcmp rfl (show inrJ (a1) from h0) (show inrJ (1) from q_1587) (fun z61 gz61 gaz61 gbz61 => ?_)
          refine w_ifle (t := 86) rfl rfl (show inr (z61) from gz61) (fun b62 => ?_) (fun b62 => ?_)
          · refine Ew_of (pcₚ := 87) (fun _ => x_aload_n rfl (rk2_o (rk2_o (rfl) rfl rfl) rfl rfl)) ?_
            refine v_g H (o := 0) (v := .ref (D 1)) rfl rfl rfl rfl rfl (vrf (pf1)) ?_
            refine Ew_of (pcₚ := 91) (fun _ => x_iconst rfl) ?_
            refine Ew_of (pcₚ := 93) (fun _ => x_lload rfl (rk2_o (rk2_s) rfl rfl)) ?_
            refine v_sJ H (o := 1) (z := (a1 - 3)) rfl rfl rfl rfl (n := n1) (en1) (show 0 ≤ 0 ∧ 0 < n1 from q_3044 h3 r1) (show inrJ ((a1 - 3)) by omega) (fun σ H Oₚ => ?_)
            have O := OUT_trans O Oₚ
            have cAu63 : SA oz_C6clsl_5 A (updA A 1 (0) ((a1 - 3))) := SA_upd (SA_refl) rfl
            have mAu63 := SAm_of cAu63 oz_C6cls_14
            refine Ew_of (pcₚ := 96) (fun _ => x_lload rfl (rk2_o (rk2_s) rfl rfl)) ?_
            have : IMP (1 ≤ ((w1)) 0 ∧ 1 ≤ ((w1)) 1 ∧ 1 ≤ ((w1)) 2) (dsF ((a1)) ((a2)) (((w1)) 0) (((w1)) 1) (((w1)) 2) = (((a1 - 3)), ((upd1 (w1) (0) ((a1 - 3)))) 0, ((upd1 (w1) (0) ((a1 - 3)))) 1, ((upd1 (w1) (0) ((a1 - 3)))) 2)) := fun hL => by have hx := hdd hL.1; have hL1 := hL.1; have hL2 := hL.2.1; have hL3 := hL.2.2; exact dsF_i (w := qw) hqw (by simp only [upd1, n01_, n02_, n10_, n12_, n20_, n21_, eq_self, if_true, if_false]; rcases hx with ⟨a, b⟩ | ⟨a, ⟨b, c⟩ | ⟨b, c⟩ | ⟨b, c⟩ | ⟨b, c⟩⟩; (exact .inl ⟨by first | exact True.intro | omega, by first | exact True.intro | omega, by first | exact True.intro | omega, by first | exact True.intro | omega, by first | exact True.intro | omega⟩); (exact .inr (.inl ⟨by first | exact True.intro | omega, by first | exact True.intro | omega, by first | exact True.intro | omega, by first | exact True.intro | omega, by first | exact True.intro | omega, by first | exact True.intro | omega⟩)); (exact .inr (.inr (.inl ⟨by first | exact True.intro | omega, by first | exact True.intro | omega, by first | exact True.intro | omega, by first | exact True.intro | omega, by first | exact True.intro | omega, by first | exact True.intro | omega⟩))); (exact .inr (.inr (.inr (.inl ⟨by first | exact True.intro | omega, by first | exact True.intro | omega, by first | exact True.intro | omega, by first | exact True.intro | omega, by first | exact True.intro | omega, by first | exact True.intro | omega⟩)))); (exact .inr (.inr (.inr (.inr ⟨by first | exact True.intro | omega, by first | exact True.intro | omega, by first | exact True.intro | omega, by first | exact True.intro | omega, by first | exact True.intro | omega, by first | exact True.intro | omega⟩)))))
            exact w_lreturn rfl (k ((a1 - 3)) _ _ _ H O (SF_refl) (cAu63) (upd1 (w1) (0) ((a1 - 3))) (congrArg (fun q => upd1 q (0) ((a1 - 3))) (ew1)) (show inrJ ((a1 - 3)) by omega) (show IMP (1 ≤ ((w1)) 0 ∧ 1 ≤ ((w1)) 1 ∧ 1 ≤ ((w1)) 2) (dsF (a1) (a2) (((w1)) 0) (((w1)) 1) (((w1)) 2) = (((a1 - 3)), ((upd1 (w1) (0) ((a1 - 3)))) 0, ((upd1 (w1) (0) ((a1 - 3)))) 1, ((upd1 (w1) (0) ((a1 - 3)))) 2)) by assumption))
          · refine Ew_of (pcₚ := 75) (fun _ => x_aload_n rfl (rk2_o (rk2_o (rfl) rfl rfl) rfl rfl)) ?_
            refine v_g H (o := 0) (v := .ref (D 1)) rfl rfl rfl rfl rfl (vrf (pf1)) ?_
            refine Ew_of (pcₚ := 79) (fun _ => x_iconst rfl) ?_
            refine Ew_of (pcₚ := 80) (fun _ => x_aload_n rfl (rk2_o (rk2_o (rfl) rfl rfl) rfl rfl)) ?_
            refine v_g H (o := 0) (v := .ref (D 1)) rfl rfl rfl rfl rfl (vrf (pf1)) ?_
            refine Ew_of (pcₚ := 84) (fun _ => x_iconst rfl) ?_
            refine v_lJ H (o := 1) rfl rfl rfl rfl (n := n1) (en1) (show 0 ≤ 0 ∧ 0 < n1 from q_3044 h3 r1) (fun v64 ev64 qv64 => ?_)
            have ev64 : (w1) (0) = v64 := (congrFun (ew1) (0)).symm.trans ev64
            have hv0 := ev64
            try simp only [upd1, n01_, n02_, n10_, n12_, n20_, n21_, eq_self, if_true, if_false] at hv0
            refine v_sJ H (o := 1) (z := v64) rfl rfl rfl rfl (n := n1) (en1) (show 0 ≤ 1 ∧ 1 < n1 from q_3045 h3 r1) (show inrJ (v64) from qv64) (fun σ H Oₚ => ?_)
            have O := OUT_trans O Oₚ
            have cAu65 : SA oz_C6clsl_5 A (updA A 1 (1) (v64)) := SA_upd (SA_refl) rfl
            have mAu65 := SAm_of cAu65 oz_C6cls_14
            refine Ew_of (pcₚ := 87) (fun _ => x_aload_n rfl (rk2_o (rk2_o (rfl) rfl rfl) rfl rfl)) ?_
            refine v_g H (o := 0) (v := .ref (D 1)) rfl rfl rfl rfl rfl (vrf (pf1)) ?_
            refine Ew_of (pcₚ := 91) (fun _ => x_iconst rfl) ?_
            refine Ew_of (pcₚ := 93) (fun _ => x_lload rfl (rk2_o (rk2_s) rfl rfl)) ?_
            refine v_sJ H (o := 1) (z := (a1 - 3)) rfl rfl rfl rfl (n := n1) (en1) (show 0 ≤ 0 ∧ 0 < n1 from q_3044 h3 r1) (show inrJ ((a1 - 3)) by omega) (fun σ H Oₚ => ?_)
            have O := OUT_trans O Oₚ
            have cAu66 : SA oz_C6clsl_5 A (updA (updA A 1 (1) (v64)) 1 (0) ((a1 - 3))) := SA_upd (cAu65) rfl
            have mAu66 := SAm_of cAu66 oz_C6cls_14
            refine Ew_of (pcₚ := 96) (fun _ => x_lload rfl (rk2_o (rk2_s) rfl rfl)) ?_
            have : IMP (1 ≤ ((w1)) 0 ∧ 1 ≤ ((w1)) 1 ∧ 1 ≤ ((w1)) 2) (dsF ((a1)) ((a2)) (((w1)) 0) (((w1)) 1) (((w1)) 2) = (((a1 - 3)), ((upd1 (upd1 (w1) (1) (v64)) (0) ((a1 - 3)))) 0, ((upd1 (upd1 (w1) (1) (v64)) (0) ((a1 - 3)))) 1, ((upd1 (upd1 (w1) (1) (v64)) (0) ((a1 - 3)))) 2)) := fun hL => by have hx := hdd hL.1; have hL1 := hL.1; have hL2 := hL.2.1; have hL3 := hL.2.2; exact dsF_i (w := qw) hqw (by simp only [upd1, n01_, n02_, n10_, n12_, n20_, n21_, eq_self, if_true, if_false]; rcases hx with ⟨a, b⟩ | ⟨a, ⟨b, c⟩ | ⟨b, c⟩ | ⟨b, c⟩ | ⟨b, c⟩⟩; (exact .inl ⟨by first | exact True.intro | omega, by first | exact True.intro | omega, by first | exact True.intro | omega, by first | exact True.intro | omega, by first | exact True.intro | omega⟩); (exact .inr (.inl ⟨by first | exact True.intro | omega, by first | exact True.intro | omega, by first | exact True.intro | omega, by first | exact True.intro | omega, by first | exact True.intro | omega, by first | exact True.intro | omega⟩)); (exact .inr (.inr (.inl ⟨by first | exact True.intro | omega, by first | exact True.intro | omega, by first | exact True.intro | omega, by first | exact True.intro | omega, by first | exact True.intro | omega, by first | exact True.intro | omega⟩))); (exact .inr (.inr (.inr (.inl ⟨by first | exact True.intro | omega, by first | exact True.intro | omega, by first | exact True.intro | omega, by first | exact True.intro | omega, by first | exact True.intro | omega, by first | exact True.intro | omega⟩)))); (exact .inr (.inr (.inr (.inr ⟨by first | exact True.intro | omega, by first | exact True.intro | omega, by first | exact True.intro | omega, by first | exact True.intro | omega, by first | exact True.intro | omega, by first | exact True.intro | omega⟩)))))
            exact w_lreturn rfl (k ((a1 - 3)) _ _ _ H O (SF_refl) (cAu66) (upd1 (upd1 (w1) (1) (v64)) (0) ((a1 - 3))) (congrArg (fun q => upd1 q (0) ((a1 - 3))) (congrArg (fun q => upd1 q (1) (v64)) (ew1))) (show inrJ ((a1 - 3)) by omega) (show IMP (1 ≤ ((w1)) 0 ∧ 1 ≤ ((w1)) 1 ∧ 1 ≤ ((w1)) 2) (dsF (a1) (a2) (((w1)) 0) (((w1)) 1) (((w1)) 2) = (((a1 - 3)), ((upd1 (upd1 (w1) (1) (v64)) (0) ((a1 - 3)))) 0, ((upd1 (upd1 (w1) (1) (v64)) (0) ((a1 - 3)))) 1, ((upd1 (upd1 (w1) (1) (v64)) (0) ((a1 - 3)))) 2)) by assumption))
        · refine Ew_of (pcₚ := 56) (fun _ => x_aload_n rfl (rk2_o (rk2_o (rfl) rfl rfl) rfl rfl)) ?_
          refine v_g H (o := 0) (v := .ref (D 1)) rfl rfl rfl rfl rfl (vrf (pf1)) ?_
          refine Ew_of (pcₚ := 60) (fun _ => x_iconst rfl) ?_
          refine Ew_of (pcₚ := 61) (fun _ => x_aload_n rfl (rk2_o (rk2_o (rfl) rfl rfl) rfl rfl)) ?_
          refine v_g H (o := 0) (v := .ref (D 1)) rfl rfl rfl rfl rfl (vrf (pf1)) ?_
          refine Ew_of (pcₚ := 65) (fun _ => x_iconst rfl) ?_
          refine v_lJ H (o := 1) rfl rfl rfl rfl (n := n1) (en1) (show 0 ≤ 1 ∧ 1 < n1 from q_3045 h3 r1) (fun v67 ev67 qv67 => ?_)
          have ev67 : (w1) (1) = v67 := (congrFun (ew1) (1)).symm.trans ev67
          have hv1 := ev67
          refine v_sJ H (o := 1) (z := v67) rfl rfl rfl rfl (n := n1) (en1) (show 0 ≤ 2 ∧ 2 < n1 from q_3046 h3) (show inrJ (v67) from qv67) (fun σ H Oₚ => ?_)
          have O := OUT_trans O Oₚ
          have cAu68 : SA oz_C6clsl_5 A (updA A 1 (2) (v67)) := SA_upd (SA_refl) rfl
          have mAu68 := SAm_of cAu68 oz_C6cls_14
          refine Ew_of (pcₚ := 69) (fun _ => x_lload rfl rk2_s) ?_
          refine Ew_of (pcₚ := 70) (fun _ => x_lconst (z := 1) rfl (by decide)) ?_
          refine w_lcmp rfl (show inrJ (a1) from h0) (show inrJ (1) from q_1587) (fun z69 gz69 gaz69 gbz69 => ?_)
          refine w_ifle (t := 86) rfl rfl (show inr (z69) from gz69) (fun b70 => ?_) (fun b70 => ?_)
          · refine Ew_of (pcₚ := 87) (fun _ => x_aload_n rfl (rk2_o (rk2_o (rfl) rfl rfl) rfl rfl)) ?_
            refine v_g H (o := 0) (v := .ref (D 1)) rfl rfl rfl rfl rfl (vrf (pf1)) ?_
            refine Ew_of (pcₚ := 91) (fun _ => x_iconst rfl) ?_
            refine Ew_of (pcₚ := 93) (fun _ => x_lload rfl (rk2_o (rk2_s) rfl rfl)) ?_
            refine v_sJ H (o := 1) (z := (a1 - 3)) rfl rfl rfl rfl (n := n1) (en1) (show 0 ≤ 0 ∧ 0 < n1 from q_3044 h3 r1) (show inrJ ((a1 - 3)) by omega) (fun σ H Oₚ => ?_)
            have O := OUT_trans O Oₚ
            have cAu71 : SA oz_C6clsl_5 A (updA (updA A 1 (2) (v67)) 1 (0) ((a1 - 3))) := SA_upd (cAu68) rfl
            have mAu71 := SAm_of cAu71 oz_C6cls_14
            refine Ew_of (pcₚ := 96) (fun _ => x_lload rfl (rk2_o (rk2_s) rfl rfl)) ?_
            have : IMP (1 ≤ ((w1)) 0 ∧ 1 ≤ ((w1)) 1 ∧ 1 ≤ ((w1)) 2) (dsF ((a1)) ((a2)) (((w1)) 0) (((w1)) 1) (((w1)) 2) = (((a1 - 3)), ((upd1 (upd1 (w1) (2) (v67)) (0) ((a1 - 3)))) 0, ((upd1 (upd1 (w1) (2) (v67)) (0) ((a1 - 3)))) 1, ((upd1 (upd1 (w1) (2) (v67)) (0) ((a1 - 3)))) 2)) := fun hL => by have hx := hdd hL.1; have hL1 := hL.1; have hL2 := hL.2.1; have hL3 := hL.2.2; exact dsF_i (w := qw) hqw (by simp only [upd1, n01_, n02_, n10_, n12_, n20_, n21_, eq_self, if_true, if_false]; rcases hx with ⟨a, b⟩ | ⟨a, ⟨b, c⟩ | ⟨b, c⟩ | ⟨b, c⟩ | ⟨b, c⟩⟩; (exact .inl ⟨by first | exact True.intro | omega, by first | exact True.intro | omega, by first | exact True.intro | omega, by first | exact True.intro | omega, by first | exact True.intro | omega⟩); (exact .inr (.inl ⟨by first | exact True.intro | omega, by first | exact True.intro | omega, by first | exact True.intro | omega, by first | exact True.intro | omega, by first | exact True.intro | omega, by first | exact True.intro | omega⟩)); (exact .inr (.inr (.inl ⟨by first | exact True.intro | omega, by first | exact True.intro | omega, by first | exact True.intro | omega, by first | exact True.intro | omega, by first | exact True.intro | omega, by first | exact True.intro | omega⟩))); (exact .inr (.inr (.inr (.inl ⟨by first | exact True.intro | omega, by first | exact True.intro | omega, by first | exact True.intro | omega, by first | exact True.intro | omega, by first | exact True.intro | omega, by first | exact True.intro | omega⟩)))); (exact .inr (.inr (.inr (.inr ⟨by first | exact True.intro | omega, by first | exact True.intro | omega, by first | exact True.intro | omega, by first | exact True.intro | omega, by first | exact True.intro | omega, by first | exact True.intro | omega⟩)))))
            exact w_lreturn rfl (k ((a1 - 3)) _ _ _ H O (SF_refl) (cAu71) (upd1 (upd1 (w1) (2) (v67)) (0) ((a1 - 3))) (congrArg (fun q => upd1 q (0) ((a1 - 3))) (congrArg (fun q => upd1 q (2) (v67)) (ew1))) (show inrJ ((a1 - 3)) by omega) (show IMP (1 ≤ ((w1)) 0 ∧ 1 ≤ ((w1)) 1 ∧ 1 ≤ ((w1)) 2) (dsF (a1) (a2) (((w1)) 0) (((w1)) 1) (((w1)) 2) = (((a1 - 3)), ((upd1 (upd1 (w1) (2) (v67)) (0) ((a1 - 3)))) 0, ((upd1 (upd1 (w1) (2) (v67)) (0) ((a1 - 3)))) 1, ((upd1 (upd1 (w1) (2) (v67)) (0) ((a1 - 3)))) 2)) by assumption))
          · refine Ew_of (pcₚ := 75) (fun _ => x_aload_n rfl (rk2_o (rk2_o (rfl) rfl rfl) rfl rfl)) ?_
            refine v_g H (o := 0) (v := .ref (D 1)) rfl rfl rfl rfl rfl (vrf (pf1)) ?_
            refine Ew_of (pcₚ := 79) (fun _ => x_iconst rfl) ?_
            refine Ew_of (pcₚ := 80) (fun _ => x_aload_n rfl (rk2_o (rk2_o (rfl) rfl rfl) rfl rfl)) ?_
            refine v_g H (o := 0) (v := .ref (D 1)) rfl rfl rfl rfl rfl (vrf (pf1)) ?_
            refine Ew_of (pcₚ := 84) (fun _ => x_iconst rfl) ?_
            refine v_lJ H (o := 1) rfl rfl rfl rfl (n := n1) (en1) (show 0 ≤ 0 ∧ 0 < n1 from q_3044 h3 r1) (fun v72 ev72 qv72 => ?_)
            have ev72 : (upd1 (w1) (2) (v67)) (0) = v72 := (congrFun (congrArg (fun q => upd1 q (2) (v67)) (ew1)) (0)).symm.trans ev72
            have hv0 := ev72
            try simp only [upd1, n01_, n02_, n10_, n12_, n20_, n21_, eq_self, if_true, if_false] at hv0
            refine v_sJ H (o := 1) (z := v72) rfl rfl rfl rfl (n := n1) (en1) (show 0 ≤ 1 ∧ 1 < n1 from q_3045 h3 r1) (show inrJ (v72) from qv72) (fun σ H Oₚ => ?_)
            have O := OUT_trans O Oₚ
            have cAu73 : SA oz_C6clsl_5 A (updA (updA A 1 (2) (v67)) 1 (1) (v72)) := SA_upd (cAu68) rfl
            have mAu73 := SAm_of cAu73 oz_C6cls_14
            refine Ew_of (pcₚ := 87) (fun _ => x_aload_n rfl (rk2_o (rk2_o (rfl) rfl rfl) rfl rfl)) ?_
            refine v_g H (o := 0) (v := .ref (D 1)) rfl rfl rfl rfl rfl (vrf (pf1)) ?_
            refine Ew_of (pcₚ := 91) (fun _ => x_iconst rfl) ?_
            refine Ew_of (pcₚ := 93) (fun _ => x_lload rfl (rk2_o (rk2_s) rfl rfl)) ?_
            refine v_sJ H (o := 1) (z := (a1 - 3)) rfl rfl rfl rfl (n := n1) (en1) (show 0 ≤ 0 ∧ 0 < n1 from q_3044 h3 r1) (show inrJ ((a1 - 3)) by omega) (fun σ H Oₚ => ?_)
            have O := OUT_trans O Oₚ
            have cAu74 : SA oz_C6clsl_5 A (updA (updA (updA A 1 (2) (v67)) 1 (1) (v72)) 1 (0) ((a1 - 3))) := SA_upd (cAu73) rfl
            have mAu74 := SAm_of cAu74 oz_C6cls_14
            refine Ew_of (pcₚ := 96) (fun _ => x_lload rfl (rk2_o (rk2_s) rfl rfl)) ?_
            have : IMP (1 ≤ ((w1)) 0 ∧ 1 ≤ ((w1)) 1 ∧ 1 ≤ ((w1)) 2) (dsF ((a1)) ((a2)) (((w1)) 0) (((w1)) 1) (((w1)) 2) = (((a1 - 3)), ((upd1 (upd1 (upd1 (w1) (2) (v67)) (1) (v72)) (0) ((a1 - 3)))) 0, ((upd1 (upd1 (upd1 (w1) (2) (v67)) (1) (v72)) (0) ((a1 - 3)))) 1, ((upd1 (upd1 (upd1 (w1) (2) (v67)) (1) (v72)) (0) ((a1 - 3)))) 2)) := fun hL => by have hx := hdd hL.1; have hL1 := hL.1; have hL2 := hL.2.1; have hL3 := hL.2.2; exact dsF_i (w := qw) hqw (by simp only [upd1, n01_, n02_, n10_, n12_, n20_, n21_, eq_self, if_true, if_false]; rcases hx with ⟨a, b⟩ | ⟨a, ⟨b, c⟩ | ⟨b, c⟩ | ⟨b, c⟩ | ⟨b, c⟩⟩; (exact .inl ⟨by first | exact True.intro | omega, by first | exact True.intro | omega, by first | exact True.intro | omega, by first | exact True.intro | omega, by first | exact True.intro | omega⟩); (exact .inr (.inl ⟨by first | exact True.intro | omega, by first | exact True.intro | omega, by first | exact True.intro | omega, by first | exact True.intro | omega, by first | exact True.intro | omega, by first | exact True.intro | omega⟩)); (exact .inr (.inr (.inl ⟨by first | exact True.intro | omega, by first | exact True.intro | omega, by first | exact True.intro | omega, by first | exact True.intro | omega, by first | exact True.intro | omega, by first | exact True.intro | omega⟩))); (exact .inr (.inr (.inr (.inl ⟨by first | exact True.intro | omega, by first | exact True.intro | omega, by first | exact True.intro | omega, by first | exact True.intro | omega, by first | exact True.intro | omega, by first | exact True.intro | omega⟩)))); (exact .inr (.inr (.inr (.inr ⟨by first | exact True.intro | omega, by first | exact True.intro | omega, by first | exact True.intro | omega, by first | exact True.intro | omega, by first | exact True.intro | omega, by first | exact True.intro | omega⟩)))))
            exact w_lreturn rfl (k ((a1 - 3)) _ _ _ H O (SF_refl) (cAu74) (upd1 (upd1 (upd1 (w1) (2) (v67)) (1) (v72)) (0) ((a1 - 3))) (congrArg (fun q => upd1 q (0) ((a1 - 3))) (congrArg (fun q => upd1 q (1) (v72)) (congrArg (fun q => upd1 q (2) (v67)) (ew1)))) (show inrJ ((a1 - 3)) by omega) (show IMP (1 ≤ ((w1)) 0 ∧ 1 ≤ ((w1)) 1 ∧ 1 ≤ ((w1)) 2) (dsF (a1) (a2) (((w1)) 0) (((w1)) 1) (((w1)) 2) = (((a1 - 3)), ((upd1 (upd1 (upd1 (w1) (2) (v67)) (1) (v72)) (0) ((a1 - 3)))) 0, ((upd1 (upd1 (upd1 (w1) (2) (v67)) (1) (v72)) (0) ((a1 - 3)))) 1, ((upd1 (upd1 (upd1 (w1) (2) (v67)) (1) (v72)) (0) ((a1 - 3)))) 2)) by assumption))
      · exact hc37  _ _ _ _  (rk2_o (rfl) rfl rfl) (rk2_o (rfl) rfl rfl) (rk2_s) H O (SF_refl) (SA_refl)     (show ((a2) = (0)) ∨ ((a2) ≠ (0) ∧ (a1) > (3)) by omega)
abbrev V190 : vV := [(0, 9, [(4, 0), (4, 0), (4, 0)]), (1, 2, [])]
theorem len_V190_oz_C6cls : (V190).length = 2 := by decide +kernel
theorem oz_C6cls_16 : vsub V190 V188 [0, 1] = true := by decide +kernel

theorem C190 {σE : rS} {D N : Nat → Nat} {F : hF} {A : hA} {d c s : Nat} {Q : wQ} (H : HW V190 σE D N F A) {a1 a2 : Int} (pf1 : F 0 2 = (D 1 : Int)) (n1 : Int) (en1 : (N 1 : Int) = n1) (w1 : Int → Int) (ew1 : A 1 = w1) (h0 : inr (a1)) (h1 : inr (a2)) (h2 : 1 ≤ (a1) ∧ (a1) ≤ 16384) (h3 : (n1) = 3) (k : ∀ (z : Int) (σ : rS) (Fₚ : hF) (Aₚ : hA), HW V190 σ D N Fₚ Aₚ → OUT (V190).length D N σE c s D N σ c s → SF [] F Fₚ → SA [] A Aₚ → (inr (z)) → (1 ≤ (z) ∧ (z) ≤ (a1) + 3) → (IMP (1 ≤ ((w1)) 0) ((z) = nuG (((w1)) 0) (((w1)) 1) (((w1)) 2) ((a1)) ((a2)) (1))) → Q (some (I z)) σ c s) : Ew 190 (d + 1) 0 (rargs 0 [.ref (D 0), I a1, I a2]) [] σE c s Q := by
  have O := OUT_refl (n := (V190).length) (D := D) (N := N) (σ := σE) (c := c) (s := s)
  have HE := H
  have r1 : (0 : Int) ≤ n1 ∧ n1 ≤ 1000000 := nleE (H.nle 1 (ltn len_V190_oz_C6cls rfl)) (show (N 1 : Int) = n1 from en1)
  have hlr : ∀ i, (-9223372036854775808 : Int) ≤ (w1) i ∧ (w1) i ≤ 9223372036854775807 := fun i => by have h1 : (-9223372036854775808 : Int) ≤ A 1 i ∧ A 1 i ≤ 9223372036854775807 := H.arg 1 i (by decide) rfl; rw [show A 1 = w1 from ew1] at h1; exact h1
  have hlr0 := hlr 0
  refine Ew_of (pcₚ := 1) (fun _ => x_iconst rfl) ?_
  refine Ew_of (pcₚ := 2) (fun _ => x_istore_n rfl) ?_
  have : IMP (1 ≤ ((w1)) 0) (nuG (((w1)) 0) (((w1)) 1) (((w1)) 2) ((a1)) ((a2)) (1) = nuG (((w1)) 0) (((w1)) 1) (((w1)) 2) ((a1)) ((a2)) (1)) := fun _ => rfl
  suffices hl2 : ∀ (m : Nat), ∀ (ls : rO) (σ : rS) (F_2 : hF) (A_2 : hA) (x2_3 : Int), rlook ls 0 = some (.ref (D 0)) → rlook ls 1 = some (I (a1)) → rlook ls 2 = some (I (a2)) → rlook ls 3 = some (I (x2_3)) → HW V190 σ D N F_2 A_2 → OUT (V190).length D N σE c s D N σ c s → SF [] F F_2 → SA [] A A_2 → (inr (x2_3)) → ((1) ≤ (x2_3)) → ((x2_3) ≤ (1) ∨ (x2_3) ≤ ((3 + 1))) → (1 ≤ (x2_3) ∧ (x2_3) ≤ 4) → (IMP (1 ≤ ((w1)) 0) (nuG (((w1)) 0) (((w1)) 1) (((w1)) 2) ((a1)) ((a2)) (1) = nuG (((w1)) 0) (((w1)) 1) (((w1)) 2) ((a1)) ((a2)) ((x2_3)))) → (((3 + 1)) - (x2_3)).toNat = m → Ew 190 (d + 1) 2 ls [] σ c s Q from
    hl2 _ _ _ _ _ (1) (rk_o (rfl) rfl rfl) (rk_o (rfl) rfl rfl) (rk_o (rfl) rfl rfl) (rk_s) H O (SF_refl) (SA_refl)     (show inr (1) from q_135) (show (1) ≤ (1) from q_1387) (show (1) ≤ (1) ∨ (1) ≤ ((3 + 1)) from q_3048) (show 1 ≤ (1) ∧ (1) ≤ 4 from q_2147) (show IMP (1 ≤ ((w1)) 0) (nuG (((w1)) 0) (((w1)) 1) (((w1)) 2) ((a1)) ((a2)) (1) = nuG (((w1)) 0) (((w1)) 1) (((w1)) 2) ((a1)) ((a2)) ((1))) by assumption) rfl
  as_aux_lemma =>
  intro m
  induction m using Nat.strongRecOn with
  | _ m ih2 =>
    intro ls σ F_2 A_2 x2_3 l2_0 l2_1 l2_2 l2_3 H O hS_2 hA_2     j2_0 j2_1 j2_2 j2_3 j2_4 hm2
    have cF_2 : SF oz_C6clsl_2 F F_2 := SF_trans (SF_refl) hS_2 (any_sub (by decide +kernel))
    have mF_2 := SFm_of cF_2 oz_C6cls_6
    have cA_2 : SA oz_C6clsl_1 A A_2 := SA_trans (SA_refl) hA_2 (any_subA (by decide +kernel))
    have mA_2 := SAm_of cA_2 oz_C6cls_3
    have j2_g : IMP (1 ≤ ((w1)) 0) (nuG (((w1)) 0) (((w1)) 1) (((w1)) 2) ((a1)) ((a2)) (1) = nuG (((w1)) 0) (((w1)) 1) (((w1)) 2) ((a1)) ((a2)) ((x2_3))) := j2_4
    refine Ew_of (pcₚ := 3) (fun _ => x_iload_n rfl l2_3) ?_
    refine Ew_of (pcₚ := 4) (fun _ => x_iconst rfl) ?_
    refine w_icmpgt (t := 27) rfl rfl (show inr (x2_3) from j2_0) (show inr (3) from q_246) (fun b2 => ?_) (fun b2 => ?_)
    · refine Ew_of (pcₚ := 28) (fun _ => x_iload_n rfl l2_1) ?_
      refine Ew_of (pcₚ := 29) (fun _ => x_iconst rfl) ?_
      refine w_iadd rfl ?_
      have : IMP (1 ≤ ((w1)) 0) (((a1 + 3)) = nuG (((w1)) 0) (((w1)) 1) (((w1)) 2) ((a1)) ((a2)) (1)) := fun q => by rw [j2_g q, nuG_4 (by omega)]
      exact w_ireturn rfl (k ((a1 + 3)) _ _ _ H O (cF_2) (cA_2) (show inr ((a1 + 3)) from q_3050 h2) (show 1 ≤ ((a1 + 3)) ∧ ((a1 + 3)) ≤ a1 + 3 from q_3049 h2) (show IMP (1 ≤ ((w1)) 0) (((a1 + 3)) = nuG (((w1)) 0) (((w1)) 1) (((w1)) 2) (a1) (a2) (1)) by assumption))
    · refine Ew_of (pcₚ := 8) (fun _ => x_aload_n rfl l2_0) ?_
      refine Ew_of (pcₚ := 9) (fun _ => x_iload_n rfl l2_3) ?_
      refine Ew_of (pcₚ := 10) (fun _ => x_iload_n rfl l2_2) ?_
      refine v_inv H (o := 0) rfl rfl rfl rfl rfl rfl (by rfl) (C188 (D := puc 512 D) (N := puc 512 N) (HW_subc H oz_C6cls_16 oz_C6cls_10) ((mF_2 0 2 rfl).trans (pf1)) (n1) (en1) (w1) ((funext (mA_2 1 rfl)).trans (ew1)) (show inr (x2_3) from j2_0) (show inr (a2) from h1) (show 1 ≤ (x2_3) ∧ (x2_3) ≤ 3 from q_3051 b2 j2_3) (show (n1) = 3 from h3) (fun z3 σ3 F3ₚ A3ₚ Hₚ Oₚ hS3 hA3 pz3_0 pz3_1 => ⟨rfl, ?_⟩))
      refine v_backc (c := c) (s := s) H oz_C6cls_16 oz_C6cls_10 Hₚ Oₚ (fun F3 A3 H Oₚ eF3 eA3 => ?_)
      have O := OUT_trans O Oₚ
      -- Stand.latestBy
      have cF3 : SF oz_C6clsl_2 F F3 := SF_trans (cF_2) (SF_gluc (ι := oz_C6clsl_4) oz_C6cls_10 hS3 eF3 (by decide +kernel)) (any_sub (lₚ := []) (by decide +kernel))
      have mF3 := SFm_of cF3 oz_C6cls_6
      have cA3 : SA oz_C6clsl_1 A A3 := SA_trans (cA_2) (SA_gluc (ι := oz_C6clsl_4) oz_C6cls_10 hA3 eA3 (by decide +kernel)) (any_subA (lₚ := []) (by decide +kernel))
      have mA3 := SAm_of cA3 oz_C6cls_3
      have hLB := pz3_1
      refine Ew_of (pcₚ := 14) (fun _ => x_iload_n rfl l2_1) ?_
      refine w_i2l rfl (show inr (a1) from h0) ?_
      refine w_lcmp rfl (show inrJ (z3) from pz3_0) (show inrJ (a1) from q_3052 h2) (fun z4 gz4 gaz4 gbz4 => ?_)
      refine w_ifne (t := 21) rfl rfl (show inr (z4) from gz4) (fun b5 => ?_) (fun b5 => ?_)
      · refine Ew_of (pcₚ := 24) (fun _ => x_iinc (len := 3) rfl (l2_3)) ?_
        refine Ew_of (pcₚ := 2) (fun _ => x_goto rfl rfl) ?_
        have : IMP (1 ≤ ((w1)) 0) (nuG (((w1)) 0) (((w1)) 1) (((w1)) 2) ((a1)) ((a2)) (1) = nuG (((w1)) 0) (((w1)) 1) (((w1)) 2) ((a1)) ((a2)) (((x2_3 + 1)))) := fun q => (j2_g q).trans (nuG_n (by omega) (by rw [LBY_nu hLB (by omega) q hlr0]; omega) (by omega))
        exact ih2 _ (msE hm2 q_3057 (q_3058 b2)) _ _ _ _ ((x2_3 + 1)) (rk_o (l2_0) rfl rfl) (rk_o (l2_1) rfl rfl) (rk_o (l2_2) rfl rfl) (rk_s) H O (SF_trans (hS_2) (SF_gluc (ι := oz_C6clsl_4) oz_C6cls_10 hS3 eF3 (by decide +kernel)) (any_sub (lₚ := []) (by decide +kernel))) (SA_trans (hA_2) (SA_gluc (ι := oz_C6clsl_4) oz_C6cls_10 hA3 eA3 (by decide +kernel)) (any_subA (lₚ := []) (by decide +kernel)))     (show inr ((x2_3 + 1)) from q_3056 b2 j2_3) (show (1) ≤ ((x2_3 + 1)) from q_3055 j2_3) (show ((x2_3 + 1)) ≤ (1) ∨ ((x2_3 + 1)) ≤ ((3 + 1)) from q_3054 b2) (show 1 ≤ ((x2_3 + 1)) ∧ ((x2_3 + 1)) ≤ 4 from q_3053 b2 j2_3) (show IMP (1 ≤ ((w1)) 0) (nuG (((w1)) 0) (((w1)) 1) (((w1)) 2) ((a1)) ((a2)) (1) = nuG (((w1)) 0) (((w1)) 1) (((w1)) 2) ((a1)) ((a2)) (((x2_3 + 1)))) by assumption) rfl
      · refine Ew_of (pcₚ := 20) (fun _ => x_iload_n rfl l2_3) ?_
        have : IMP (1 ≤ ((w1)) 0) ((x2_3) = nuG (((w1)) 0) (((w1)) 1) (((w1)) 2) ((a1)) ((a2)) (1)) := fun q => by rw [j2_g q]; exact (nuG_y (by omega) (by rw [LBY_nu hLB (by omega) q hlr0]; omega)).symm
        exact w_ireturn rfl (k (x2_3) _ _ _ H O (cF3) (cA3) (show inr (x2_3) from j2_0) (show 1 ≤ (x2_3) ∧ (x2_3) ≤ a1 + 3 from q_3059 b2 h2 j2_3) (show IMP (1 ≤ ((w1)) 0) ((x2_3) = nuG (((w1)) 0) (((w1)) 1) (((w1)) 2) (a1) (a2) (1)) by assumption))

