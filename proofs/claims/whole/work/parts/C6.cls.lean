abbrev V93_Br : vV := [(0, 2, [(4, 0), (0, 0), (0, 0)]), (1, 0, [])]
/-- BitSource.begin: this, #1 -/
theorem C93_Br {σE : rS} {D N : Nat → Nat} {F : hF} {A : hA} {d c s : Nat} {Q : wQ} (H : HW V93_Br σE D N F A) {a2 a3 : Int} (n1 : Int) (en1 : (N 1 : Int) = n1) (u0_1 : Int) (eu0_1 : F 0 1 = u0_1) (u0_2 : Int) (eu0_2 : F 0 2 = u0_2) (w1 : Int → Int) (ew1 : A 1 = w1) (h0 : inr (a2)) (h1 : inr (a3)) (h2 : 0 ≤ (a2) ∧ (a3) ≤ (n1) ∧ (n1) ≤ 65536 ∧ 0 ≤ (a3) ∧ (a2) ≤ 200000) (k : ∀ (z : Int) (σ : rS) (F' : hF) (A' : hA), HW V93_Br σ D N F' A' → OUT (V93_Br).length D N σE c s D N σ c s → SF [(0, 0), (0, 1), (0, 2)] F F' → SA [] A A' → ∀ y0_1 : Int, F' 0 1 = y0_1 → ∀ y0_2 : Int, F' 0 2 = y0_2 → F' 0 0 = (D 1 : Int) → ((z) = 0 ∨ (z) = 1) → ((y0_1) = (a2)) → ((z) = 0 ∧ (y0_2) = 0 ∨ (z) = 1 ∧ 0 ≤ (y0_2) ∧ (y0_2) < 8 * ((a3) - (a2))) → (OPS (ub8 ((w1))) ((a2)) ((a3)) ((z)) ((y0_2))) → Q (some (I z)) σ c s) : Ew 93 (d + 1) 0 (rargs 0 [.ref (D 0), .ref (D 1), I a2, I a3]) [] σE c s Q := by
  have O := OUT_refl (n := (V93_Br).length) (D := D) (N := N) (σ := σE) (c := c) (s := s)
  have HE := H
  have r1 : (-2147483648 : Int) ≤ u0_1 ∧ u0_1 ≤ 2147483647 := by have h1 : (-2147483648 : Int) ≤ F 0 1 ∧ F 0 1 ≤ 2147483647 := H.krg 0 1 (by decide); rw [show F 0 1 = u0_1 from (eu0_1)] at h1; exact h1
  have r2 : (-2147483648 : Int) ≤ u0_2 ∧ u0_2 ≤ 2147483647 := by have h1 : (-2147483648 : Int) ≤ F 0 2 ∧ F 0 2 ≤ 2147483647 := H.krg 0 2 (by decide); rw [show F 0 2 = u0_2 from (eu0_2)] at h1; exact h1
  have r3 : (0 : Int) ≤ n1 ∧ n1 ≤ 1000000 := by have h1 := H.nle 1 (by decide); have h2 : (N 1 : Int) = n1 := en1; omega
  refine Ew_of (pc' := 1) (fun _ => x_aload_n rfl rfl) ?_
  refine Ew_of (pc' := 2) (fun _ => x_aload_n rfl rfl) ?_
  refine v_p H (o := 0) (z := ((D 1 : Nat) : Int)) (v := .ref (D 1)) rfl rfl rfl rfl rfl rfl (vrf rfl) rfl (show (-1 : Int) ≤ ((D 1 : Nat) : Int) by omega) (fun σ H O' => ?_)
  have O := OUT_trans O O'
  refine Ew_of (pc' := 6) (fun _ => x_aload_n rfl rfl) ?_
  refine Ew_of (pc' := 7) (fun _ => x_iload_n rfl rfl) ?_
  refine v_p H (o := 0) (z := a2) (v := I (a2)) rfl rfl rfl rfl rfl rfl rfl rfl (show (-2147483648 : Int) ≤ a2 ∧ a2 ≤ 2147483647 by omega) (fun σ H O' => ?_)
  have O := OUT_trans O O'
  refine Ew_of (pc' := 11) (fun _ => x_aload_n rfl rfl) ?_
  refine Ew_of (pc' := 12) (fun _ => x_iconst rfl) ?_
  refine v_p H (o := 0) (z := 0) (v := I (0)) rfl rfl rfl rfl rfl rfl rfl rfl (show (-2147483648 : Int) ≤ 0 ∧ 0 ≤ 2147483647 by omega) (fun σ H O' => ?_)
  have O := OUT_trans O O'
  refine Ew_of (pc' := 16) (fun _ => x_iload_n rfl rfl) ?_
  refine Ew_of (pc' := 17) (fun _ => x_iload_n rfl rfl) ?_
  refine w_icmple (t := 28) rfl rfl (show inr (a3) by omega) (show inr (a2) by omega) (fun b4 => ?_) (fun b4 => ?_)
  · refine Ew_of (pc' := 29) (fun _ => x_iconst rfl) ?_
    have : OPS (ub8 ((w1))) ((a2)) ((a3)) 0 ((0)) := by first | exact .inl ⟨rfl, .inl (by omega)⟩ | exact .inl ⟨rfl, .inr (by show u8 _ = 0; rw [hv]; unfold u8; omega)⟩
    exact w_ireturn rfl (k (0) _ _ _ H O (SF_upd (SF_upd (SF_upd (SF_refl) rfl) rfl) rfl) (SA_refl) (a2) (rfl) (0) (rfl) ((show (updF F 0 0 ((D 1 : Nat) : Int)) 0 0 = ((D 1 : Nat) : Int) from rfl)) (show (0) = 0 ∨ (0) = 1 by omega) (show (a2) = a2 by omega) (show (0) = 0 ∧ (0) = 0 ∨ (0) = 1 ∧ 0 ≤ (0) ∧ (0) < 8 * (a3 - a2) by omega) (show OPS (ub8 ((w1))) (a2) (a3) ((0)) ((0)) by assumption))
  · refine Ew_of (pc' := 21) (fun _ => x_aload_n rfl rfl) ?_
    refine Ew_of (pc' := 22) (fun _ => x_iload_n rfl rfl) ?_
    refine Ew_of (pc' := 23) (fun _ => x_iconst rfl) ?_
    refine w_isub rfl ?_
    refine v_lB H (o := 1) rfl rfl rfl rfl (n := n1) (en1) (show 0 ≤ (a3 - 1) ∧ (a3 - 1) < n1 by omega) (fun v5 ev5 qv5 => ?_)
    have ev5 : (w1) ((a3 - 1)) = v5 := (congrFun (ew1) ((a3 - 1))).symm.trans ev5
    have hv := ev5
    refine w_ifne (t := 30) rfl rfl (show inr (v5) by omega) (fun b6 => ?_) (fun b6 => ?_)
    · refine Ew_of (pc' := 31) (fun _ => x_aload_n rfl rfl) ?_
      refine Ew_of (pc' := 33) (fun _ => x_bipush (z := 8) rfl (by decide)) ?_
      refine Ew_of (pc' := 34) (fun _ => x_iload_n rfl rfl) ?_
      refine Ew_of (pc' := 35) (fun _ => x_iload_n rfl rfl) ?_
      refine w_isub rfl ?_
      refine Ew_of (pc' := 37) (fun _ => x_iconst rfl) ?_
      refine w_isub rfl ?_
      refine w_imul rfl ?_
      refine Ew_of (pc' := 40) (fun _ => x_aload_n rfl rfl) ?_
      refine Ew_of (pc' := 41) (fun _ => x_iload_n rfl rfl) ?_
      refine Ew_of (pc' := 42) (fun _ => x_iconst rfl) ?_
      refine w_isub rfl ?_
      refine v_lB H (o := 1) rfl rfl rfl rfl (n := n1) (en1) (show 0 ≤ (a3 - 1) ∧ (a3 - 1) < n1 by omega) (fun v7 ev7 qv7 => ?_)
      have ev7 : (w1) ((a3 - 1)) = v7 := (congrFun (ew1) ((a3 - 1))).symm.trans ev7
      have hv2 : ub8 ((w1)) ((a3) - 1) = (v7) % 256 := by show u8 _ = _; rw [ev7]; rfl
      refine Ew_of (pc' := 47) (fun _ => x_sipush (z := 255) rfl (by decide)) ?_
      refine v_and255 rfl ?_
      refine w_stat25 rfl rfl (by rfl) (C45 (D := pul [] D) (N := pul [] N) (HW_sub H (VS_of (show vsub V93_Br V45 [] = true by decide +kernel))) (show inr ((v7 % 256)) by omega) (show 1 ≤ ((v7 % 256)) by omega) (fun z8 σ8 F8' A8' H' O' hS8 hA8 pz8_0 pz8_1 pz8_2 => ⟨rfl, ?_⟩))
      refine v_back (c := c) (s := s) H (show vsub V93_Br V45 [] = true by decide +kernel) H' O' (fun F8 A8 H O' eF8 eA8 => ?_)
      have O := OUT_trans O O'
      -- PackHouse.highestBit
      have hh8 : (z8) < 8 := p2_lt (by omega) (by rw [show p2 8 = 256 from by decide]; omega)
      refine w_iadd rfl ?_
      refine v_p H (o := 0) (z := ((8 * ((a3 - a2) - 1)) + z8)) (v := I (((8 * ((a3 - a2) - 1)) + z8))) rfl rfl rfl rfl rfl rfl rfl rfl (show (-2147483648 : Int) ≤ ((8 * ((a3 - a2) - 1)) + z8) ∧ ((8 * ((a3 - a2) - 1)) + z8) ≤ 2147483647 by omega) (fun σ H O' => ?_)
      have O := OUT_trans O O'
      refine Ew_of (pc' := 56) (fun _ => x_iconst rfl) ?_
      have : OPS (ub8 ((w1))) ((a2)) ((a3)) 1 ((((8 * ((a3 - a2) - 1)) + z8))) := .inr ⟨rfl, by omega, by rw [hv2]; omega, z8, by omega, by rw [hv2]; omega, by rw [hv2]; omega, by omega⟩
      exact w_ireturn rfl (k (1) _ _ _ H O (SF_upd (SF_trans (SF_upd (SF_upd (SF_upd (SF_refl) rfl) rfl) rfl) (SF_glu (ι := []) hS8 eF8 (by decide +kernel)) (any_sub (l' := []) rfl)) rfl) (SA_trans (SA_refl) (SA_glu (ι := []) hA8 eA8 (by decide +kernel)) (any_subA (l' := []) rfl)) (a2) (((show F8 0 1 = (updF (updF (updF F 0 0 ((D 1 : Nat) : Int)) 0 1 (a2)) 0 2 (0)) 0 1 from (eF8 0 1)))) (((8 * ((a3 - a2) - 1)) + z8)) (rfl) ((((show F8 0 0 = (updF (updF (updF F 0 0 ((D 1 : Nat) : Int)) 0 1 (a2)) 0 2 (0)) 0 0 from (eF8 0 0)))).trans ((show (updF F 0 0 ((D 1 : Nat) : Int)) 0 0 = ((D 1 : Nat) : Int) from rfl))) (show (1) = 0 ∨ (1) = 1 by omega) (show (a2) = a2 by omega) (show (1) = 0 ∧ (((8 * ((a3 - a2) - 1)) + z8)) = 0 ∨ (1) = 1 ∧ 0 ≤ (((8 * ((a3 - a2) - 1)) + z8)) ∧ (((8 * ((a3 - a2) - 1)) + z8)) < 8 * (a3 - a2) by omega) (show OPS (ub8 ((w1))) (a2) (a3) ((1)) ((((8 * ((a3 - a2) - 1)) + z8))) by assumption))
    · refine Ew_of (pc' := 29) (fun _ => x_iconst rfl) ?_
      have : OPS (ub8 ((w1))) ((a2)) ((a3)) 0 ((0)) := by first | exact .inl ⟨rfl, .inl (by omega)⟩ | exact .inl ⟨rfl, .inr (by show u8 _ = 0; rw [hv]; unfold u8; omega)⟩
      exact w_ireturn rfl (k (0) _ _ _ H O (SF_upd (SF_upd (SF_upd (SF_refl) rfl) rfl) rfl) (SA_refl) (a2) (rfl) (0) (rfl) ((show (updF F 0 0 ((D 1 : Nat) : Int)) 0 0 = ((D 1 : Nat) : Int) from rfl)) (show (0) = 0 ∨ (0) = 1 by omega) (show (a2) = a2 by omega) (show (0) = 0 ∧ (0) = 0 ∨ (0) = 1 ∧ 0 ≤ (0) ∧ (0) < 8 * (a3 - a2) by omega) (show OPS (ub8 ((w1))) (a2) (a3) ((0)) ((0)) by assumption))
abbrev V94 : vV := [(0, 2, [(4, 0), (0, 0), (0, 0)]), (1, 0, [])]
/-- BitSource.peek: this, this.in -/
theorem C94 {σE : rS} {D N : Nat → Nat} {F : hF} {A : hA} {d c s : Nat} {Q : wQ} (H : HW V94 σE D N F A) {a1 : Int} (pf1 : F 0 0 = (D 1 : Int)) (n1 : Int) (en1 : (N 1 : Int) = n1) (u0_1 : Int) (eu0_1 : F 0 1 = u0_1) (u0_2 : Int) (eu0_2 : F 0 2 = u0_2) (w1 : Int → Int) (ew1 : A 1 = w1) (h0 : inr (a1)) (h1 : 0 ≤ (a1) ∧ (a1) ≤ 31) (h2 : 0 ≤ (u0_1) ∧ (u0_1) ≤ 65536 ∧ (u0_2) ≤ 8 * ((n1) - (u0_1)) ∧ (n1) ≤ 65536) (h3 : -100 ≤ (u0_2)) (k : ∀ (z : Int) (σ : rS) (F' : hF) (A' : hA), HW V94 σ D N F' A' → OUT (V94).length D N σE c s D N σ c s → SF [] F F' → SA [] A A' → (inrJ (z)) → (0 ≤ (z) ∧ (z) < p2 ((a1))) → ((z) = pk (ub8 ((w1))) (8 * (u0_1)) ((u0_2)) ((a1))) → Q (some (J z)) σ c s) : Ew 94 (d + 0) 0 (rargs 0 [.ref (D 0), I a1]) [] σE c s Q := by
  have O := OUT_refl (n := (V94).length) (D := D) (N := N) (σ := σE) (c := c) (s := s)
  have HE := H
  have r1 : (-2147483648 : Int) ≤ u0_1 ∧ u0_1 ≤ 2147483647 := by have h1 : (-2147483648 : Int) ≤ F 0 1 ∧ F 0 1 ≤ 2147483647 := H.krg 0 1 (by decide); rw [show F 0 1 = u0_1 from (eu0_1)] at h1; exact h1
  have r2 : (-2147483648 : Int) ≤ u0_2 ∧ u0_2 ≤ 2147483647 := by have h1 : (-2147483648 : Int) ≤ F 0 2 ∧ F 0 2 ≤ 2147483647 := H.krg 0 2 (by decide); rw [show F 0 2 = u0_2 from (eu0_2)] at h1; exact h1
  have r3 : (0 : Int) ≤ n1 ∧ n1 ≤ 1000000 := by have h1 := H.nle 1 (by decide); have h2 : (N 1 : Int) = n1 := en1; omega
  have hps0 := p2_pos ((a1))
  refine Ew_of (pc' := 1) (fun _ => x_aload_n rfl rfl) ?_
  refine v_g H (o := 0) (v := I (u0_2)) rfl rfl rfl rfl rfl (congrArg (fun z : Int => I z) ((eu0_2) : F 0 2 = u0_2)) ?_
  refine Ew_of (pc' := 5) (fun _ => x_iload_n rfl rfl) ?_
  have hc18 : ∀ (tc18_0 : Int), ∀ (ls : rO) (σ : rS) (F_c18 : hF) (A_c18 : hA) , rlook ls 0 = some (.ref (D 0)) → rlook ls 1 = some (I (a1)) → HW V94 σ D N F_c18 A_c18 → OUT (V94).length D N σE c s D N σ c s → SF [] F F_c18 → SA [] A A_c18 → (inr (tc18_0)) → (((u0_2) ≤ (a1) ∧ (tc18_0) = (0)) ∨ ((u0_2) > (a1) ∧ (tc18_0) = ((u0_2 - a1)))) → Ew 94 (d + 0) 18 ls [I (tc18_0)] σ c s Q := by
   as_aux_lemma =>
    intro tc18_0 ls σ F_c18 A_c18  lc18_0 lc18_1 H O hS_c18 hA_c18     jc18_0 jc18_1
    refine Ew_of (pc' := 19) (fun _ => x_istore_n rfl) ?_
    refine Ew_of (pc' := 20) (fun _ => x_aload_n rfl (rk_o (lc18_0) rfl rfl)) ?_
    refine v_g H (o := 0) (v := I (u0_2)) rfl rfl rfl rfl rfl (congrArg (fun z : Int => I z) (((hS_c18 0 2 rfl).trans (eu0_2)) : F_c18 0 2 = u0_2)) ?_
    refine Ew_of (pc' := 24) (fun _ => x_iload_n rfl rk_s) ?_
    refine w_isub rfl ?_
    refine Ew_of (pc' := 26) (fun _ => x_istore_n rfl) ?_
    refine Ew_of (pc' := 27) (fun _ => x_iload_n rfl rk_s) ?_
    refine w_ifgt (t := 32) rfl rfl (show inr ((u0_2 - tc18_0)) by omega) (fun b4 => ?_) (fun b4 => ?_)
    · refine Ew_of (pc' := 33) (fun _ => x_iload_n rfl (rk_o (rk_s) rfl rfl)) ?_
      refine Ew_of (pc' := 34) (fun _ => x_iconst rfl) ?_
      refine w_ishrK 3 8 (by decide) (by decide) rfl (show inr (tc18_0) by omega) (fun z5 gz5 dz5 => ?_)
      refine Ew_of (pc' := 37) (fun _ => x_istore rfl) ?_
      refine Ew_of (pc' := 38) (fun _ => x_aload_n rfl (rk_o (rk_o (rk_o (lc18_0) rfl rfl) rfl rfl) rfl rfl)) ?_
      refine v_g H (o := 0) (v := I (u0_2)) rfl rfl rfl rfl rfl (congrArg (fun z : Int => I z) (((hS_c18 0 2 rfl).trans (eu0_2)) : F_c18 0 2 = u0_2)) ?_
      refine Ew_of (pc' := 42) (fun _ => x_iconst rfl) ?_
      refine w_isub rfl ?_
      refine Ew_of (pc' := 44) (fun _ => x_iconst rfl) ?_
      refine w_ishrK 3 8 (by decide) (by decide) rfl (show inr ((u0_2 - 1)) by omega) (fun z6 gz6 dz6 => ?_)
      refine Ew_of (pc' := 47) (fun _ => x_istore rfl) ?_
      obtain ⟨q5, hq5⟩ : ∃ q : Int, q = (z6) := ⟨_, rfl⟩
      refine Ew_of (pc' := 48) (fun _ => x_lconst (z := 0) rfl (by decide)) ?_
      refine Ew_of (pc' := 50) (fun _ => x_lstore rfl) ?_
      refine Ew_of (pc' := 52) (fun _ => x_iload rfl (rk2_o (rk_s) rfl rfl)) ?_
      refine Ew_of (pc' := 54) (fun _ => x_istore rfl) ?_
      have : (0 : Int) = nvl (ub8 ((w1))) ((u0_1) + (z6) + 1) (q5 - (z6) : Int).toNat := by rw [show q5 - (z6) = 0 by omega]; rfl
      suffices hl54 : ∀ (m : Nat), ∀ (ls : rO) (σ : rS) (F_54 : hF) (A_54 : hA) (x54_6 : Int) (x54_8 : Int), rlook ls 0 = some (.ref (D 0)) → rlook ls 1 = some (I (a1)) → rlook ls 2 = some (I (tc18_0)) → rlook ls 3 = some (I ((u0_2 - tc18_0))) → rlook ls 4 = some (I (z5)) → rlook ls 6 = some (J (x54_6)) → rlook ls 8 = some (I (x54_8)) → HW V94 σ D N F_54 A_54 → OUT (V94).length D N σE c s D N σ c s → SF [] F_c18 F_54 → SA [] A_c18 A_54 → (inrJ (x54_6)) → (inr (x54_8)) → ((z5) - 1 ≤ (x54_8) ∧ (x54_8) ≤ q5) → ((x54_6) = nvl (ub8 ((w1))) ((u0_1) + (x54_8) + 1) (q5 - (x54_8) : Int).toNat) → ((x54_8) - (z5) + 1).toNat = m → Ew 94 (d + 0) 54 ls [] σ c s Q from
        hl54 _ _ _ _ _ (0) (z6) (rk_o (rk2_o (rk_o (rk_o (rk_o (rk_o (lc18_0) rfl rfl) rfl rfl) rfl rfl) rfl rfl) rfl rfl) rfl rfl) (rk_o (rk2_o (rk_o (rk_o (rk_o (rk_o (lc18_1) rfl rfl) rfl rfl) rfl rfl) rfl rfl) rfl rfl) rfl rfl) (rk_o (rk2_o (rk_o (rk_o (rk_o (rk_s) rfl rfl) rfl rfl) rfl rfl) rfl rfl) rfl rfl) (rk_o (rk2_o (rk_o (rk_o (rk_s) rfl rfl) rfl rfl) rfl rfl) rfl rfl) (rk_o (rk2_o (rk_o (rk_s) rfl rfl) rfl rfl) rfl rfl) (rk_o (rk2_s) rfl rfl) (rk_s) H O (SF_refl) (SA_refl)     (show inrJ (0) by omega) (show inr (z6) by omega) (show (z5) - 1 ≤ (z6) ∧ (z6) ≤ q5 by omega) (show (0) = nvl (ub8 ((w1))) ((u0_1) + (z6) + 1) (q5 - (z6) : Int).toNat by assumption) rfl
      as_aux_lemma =>
      intro m
      induction m using Nat.strongRecOn with
      | _ m ih54 =>
        intro ls σ F_54 A_54 x54_6 x54_8 l54_0 l54_1 l54_2 l54_3 l54_4 l54_6 l54_8 H O hS_54 hA_54     j54_0 j54_1 j54_2 j54_3 hm54
        have j54_v : (x54_6) = nvl (ub8 ((w1))) ((u0_1) + (x54_8) + 1) (q5 - (x54_8) : Int).toNat := by assumption
        refine Ew_of (pc' := 56) (fun _ => x_iload rfl l54_8) ?_
        refine Ew_of (pc' := 58) (fun _ => x_iload rfl l54_4) ?_
        refine w_icmplt (t := 92) rfl rfl (show inr (x54_8) by omega) (show inr (z5) by omega) (fun b7 => ?_) (fun b7 => ?_)
        · refine Ew_of (pc' := 94) (fun _ => x_lload rfl l54_6) ?_
          refine Ew_of (pc' := 95) (fun _ => x_iload_n rfl l54_2) ?_
          refine Ew_of (pc' := 97) (fun _ => x_bipush (z := 7) rfl (by decide)) ?_
          refine w_iandG rfl ?_
          have g8 : inr (andI (tc18_0) (7)) := toI_inr _
          refine w_lushrE rfl ?_
          have g9 : inrJ (usJ (x54_6) ((andI (tc18_0) (7)))) := toJ_inr _
          refine Ew_of (pc' := 100) (fun _ => x_lconst (z := 1) rfl (by decide)) ?_
          refine Ew_of (pc' := 101) (fun _ => x_iload_n rfl l54_3) ?_
          have hp63 : p2 (((u0_2 - tc18_0))) ≤ p2 31 := p2_mono (by omega)
          have : p2 31 = 2147483648 := by decide
          have := p2_pos (((u0_2 - tc18_0)))
          refine w_lshl1 rfl (show 0 ≤ (u0_2 - tc18_0) ∧ (u0_2 - tc18_0) ≤ 63 by omega) ?_
          refine Ew_of (pc' := 103) (fun _ => x_lconst (z := 1) rfl (by decide)) ?_
          refine w_lsub rfl ?_
          refine w_landE rfl ?_
          have g11 : inrJ (anJ ((usJ (x54_6) ((andI (tc18_0) (7))))) ((p2 ((u0_2 - tc18_0)) - 1))) := toJ_inr _
          have hmod : ((anJ ((usJ (x54_6) ((andI (tc18_0) (7))))) ((p2 ((u0_2 - tc18_0)) - 1)))) = usJ ((x54_6)) (andI ((tc18_0)) 7) % p2 (((u0_2 - tc18_0))) := anJ_m (by have := nvl_5 (I := ub8 ((w1))) (a := (u0_1) + (x54_8) + 1) (n := q5 - (x54_8)) (by omega); rw [← j54_v] at this; rw [andI_7, usJ_d (by omega) (by omega)]; exact ⟨Int.ediv_nonneg (by omega) (by have := p2_pos ((tc18_0) % 8); omega), Int.lt_of_le_of_lt (Int.ediv_le_self _ (by omega)) (by omega)⟩) (by omega)
          have hmr : 0 ≤ ((anJ ((usJ (x54_6) ((andI (tc18_0) (7))))) ((p2 ((u0_2 - tc18_0)) - 1)))) ∧ ((anJ ((usJ (x54_6) ((andI (tc18_0) (7))))) ((p2 ((u0_2 - tc18_0)) - 1)))) < p2 (((u0_2 - tc18_0))) := by rw [hmod]; exact ⟨Int.emod_nonneg _ (by omega), Int.emod_lt_of_pos _ (by omega)⟩
          refine Ew_of (pc' := 106) (fun _ => x_iload_n rfl l54_1) ?_
          refine Ew_of (pc' := 107) (fun _ => x_iload_n rfl l54_3) ?_
          refine w_isub rfl ?_
          have hpk := peek_ok (z := ((anJ ((usJ (x54_6) ((andI (tc18_0) (7))))) ((p2 ((u0_2 - tc18_0)) - 1))))) (n := (a1)) (b := ((u0_2 - tc18_0))) (by omega) (by omega) (by omega) (by omega)
          have hpm : p2 ((a1)) ≤ p2 31 := p2_mono (by omega)
          have : p2 31 = 2147483648 := by decide
          have hps := p2_pos ((a1))
          refine w_lshlT rfl (show 0 ≤ (a1 - (u0_2 - tc18_0)) ∧ (a1 - (u0_2 - tc18_0)) ≤ 63 by omega) ?_
          have : (((anJ ((usJ (x54_6) ((andI (tc18_0) (7))))) ((p2 ((u0_2 - tc18_0)) - 1))) * p2 ((a1 - (u0_2 - tc18_0))))) = pk (ub8 ((w1))) (8 * (u0_1)) ((u0_2)) ((a1)) := pk_c (fun i => u8_rng _) (first := (x54_8) + 1) (m := q5 - (x54_8)) j54_v (by omega) (by omega) rfl (by omega) (by omega) (by omega) (by omega) rfl
          exact w_lreturn rfl (k (((anJ ((usJ (x54_6) ((andI (tc18_0) (7))))) ((p2 ((u0_2 - tc18_0)) - 1))) * p2 ((a1 - (u0_2 - tc18_0))))) _ _ _ H O (SF_trans (SF_trans (SF_refl) hS_c18 (any_sub rfl)) hS_54 (any_sub rfl)) (SA_trans (SA_trans (SA_refl) hA_c18 (any_subA rfl)) hA_54 (any_subA rfl)) (show inrJ (((anJ ((usJ (x54_6) ((andI (tc18_0) (7))))) ((p2 ((u0_2 - tc18_0)) - 1))) * p2 ((a1 - (u0_2 - tc18_0))))) by omega) (show 0 ≤ (((anJ ((usJ (x54_6) ((andI (tc18_0) (7))))) ((p2 ((u0_2 - tc18_0)) - 1))) * p2 ((a1 - (u0_2 - tc18_0))))) ∧ (((anJ ((usJ (x54_6) ((andI (tc18_0) (7))))) ((p2 ((u0_2 - tc18_0)) - 1))) * p2 ((a1 - (u0_2 - tc18_0))))) < p2 (a1) by omega) (show (((anJ ((usJ (x54_6) ((andI (tc18_0) (7))))) ((p2 ((u0_2 - tc18_0)) - 1))) * p2 ((a1 - (u0_2 - tc18_0))))) = pk (ub8 ((w1))) (8 * (u0_1)) ((u0_2)) (a1) by assumption))
        · refine Ew_of (pc' := 63) (fun _ => x_lload rfl l54_6) ?_
          refine Ew_of (pc' := 65) (fun _ => x_bipush (z := 8) rfl (by decide)) ?_
          refine w_lshlE rfl ?_
          have g13 : inrJ (shlJ (x54_6) (8)) := toJ_inr _
          refine Ew_of (pc' := 67) (fun _ => x_aload_n rfl l54_0) ?_
          refine v_g H (o := 0) (v := .ref (D 1)) rfl rfl rfl rfl rfl (vrf ((((hS_54 0 0 rfl).trans (hS_c18 0 0 rfl))).trans (pf1))) ?_
          refine Ew_of (pc' := 71) (fun _ => x_aload_n rfl l54_0) ?_
          refine v_g H (o := 0) (v := I (u0_1)) rfl rfl rfl rfl rfl (congrArg (fun z : Int => I z) ((((hS_54 0 1 rfl).trans (hS_c18 0 1 rfl)).trans (eu0_1)) : F_54 0 1 = u0_1)) ?_
          refine Ew_of (pc' := 76) (fun _ => x_iload rfl l54_8) ?_
          refine w_iadd rfl ?_
          refine v_lB H (o := 1) rfl rfl rfl rfl (n := n1) (en1) (show 0 ≤ (u0_1 + x54_8) ∧ (u0_1 + x54_8) < n1 by omega) (fun v14 ev14 qv14 => ?_)
          have ev14 : (w1) ((u0_1 + x54_8)) = v14 := (congrFun ((funext (hA_54 1 rfl)).trans ((funext (hA_c18 1 rfl)).trans (ew1))) ((u0_1 + x54_8))).symm.trans ev14
          have hv := ev14
          refine Ew_of (pc' := 81) (fun _ => x_sipush (z := 255) rfl (by decide)) ?_
          refine w_iandG rfl ?_
          have g15 : inr (andI (v14) (255)) := toI_inr _
          refine w_i2l rfl (show inr ((andI (v14) (255))) by omega) ?_
          refine w_lorE rfl ?_
          have g16 : inrJ (orJ ((shlJ (x54_6) (8))) ((andI (v14) (255)))) := toJ_inr _
          have : ((orJ ((shlJ (x54_6) (8))) ((andI (v14) (255))))) = nvl (ub8 ((w1))) ((u0_1) + ((x54_8) + (-1)) + 1) (q5 - ((x54_8) + (-1)) : Int).toNat := pk_s j54_v (by omega) (by omega) hv (by omega) (by omega)
          refine Ew_of (pc' := 86) (fun _ => x_lstore rfl) ?_
          refine Ew_of (pc' := 89) (fun _ => x_iinc (len := 3) rfl (rk2_o (l54_8) rfl rfl)) ?_
          refine Ew_of (pc' := 54) (fun _ => x_goto rfl rfl) ?_
          exact ih54 _ (by omega) _ _ _ _ ((orJ ((shlJ (x54_6) (8))) ((andI (v14) (255))))) ((x54_8 + (-1))) (rk_o (rk2_o (l54_0) rfl rfl) rfl rfl) (rk_o (rk2_o (l54_1) rfl rfl) rfl rfl) (rk_o (rk2_o (l54_2) rfl rfl) rfl rfl) (rk_o (rk2_o (l54_3) rfl rfl) rfl rfl) (rk_o (rk2_o (l54_4) rfl rfl) rfl rfl) (rk_o (rk2_s) rfl rfl) (rk_s) H O (hS_54) (hA_54)     (show inrJ ((orJ ((shlJ (x54_6) (8))) ((andI (v14) (255))))) by omega) (show inr ((x54_8 + (-1))) by omega) (show (z5) - 1 ≤ ((x54_8 + (-1))) ∧ ((x54_8 + (-1))) ≤ q5 by omega) (show ((orJ ((shlJ (x54_6) (8))) ((andI (v14) (255))))) = nvl (ub8 ((w1))) ((u0_1) + ((x54_8 + (-1))) + 1) (q5 - ((x54_8 + (-1))) : Int).toNat by assumption) rfl
    · refine Ew_of (pc' := 31) (fun _ => x_lconst (z := 0) rfl (by decide)) ?_
      have : (0 : Int) = pk (ub8 ((w1))) (8 * (u0_1)) ((u0_2)) ((a1)) := by first | exact Eq.symm (pk_0 (left := (u0_2)) (n := (a1)) (by omega) (by omega)) | exact Eq.symm (pk_z0 (left := (u0_2)) (n := (a1)) (by omega) (by omega))
      exact w_lreturn rfl (k (0) _ _ _ H O (SF_trans (SF_refl) hS_c18 (any_sub rfl)) (SA_trans (SA_refl) hA_c18 (any_subA rfl)) (show inrJ (0) by omega) (show 0 ≤ (0) ∧ (0) < p2 (a1) by omega) (show (0) = pk (ub8 ((w1))) (8 * (u0_1)) ((u0_2)) (a1) by assumption))
  refine w_icmple (t := 17) rfl rfl (show inr (u0_2) by omega) (show inr (a1) by omega) (fun b17 => ?_) (fun b17 => ?_)
  · refine Ew_of (pc' := 18) (fun _ => x_iconst rfl) ?_
    exact hc18 (0) _ _ _ _  (rfl) (rfl) H O (SF_refl) (SA_refl)     (show inr (0) by omega) (show ((u0_2) ≤ (a1) ∧ (0) = (0)) ∨ ((u0_2) > (a1) ∧ (0) = ((u0_2 - a1))) by omega)
  · refine Ew_of (pc' := 9) (fun _ => x_aload_n rfl rfl) ?_
    refine v_g H (o := 0) (v := I (u0_2)) rfl rfl rfl rfl rfl (congrArg (fun z : Int => I z) ((eu0_2) : F 0 2 = u0_2)) ?_
    refine Ew_of (pc' := 13) (fun _ => x_iload_n rfl rfl) ?_
    refine w_isub rfl ?_
    refine Ew_of (pc' := 18) (fun _ => x_goto rfl rfl) ?_
    exact hc18 ((u0_2 - a1)) _ _ _ _  (rfl) (rfl) H O (SF_refl) (SA_refl)     (show inr ((u0_2 - a1)) by omega) (show ((u0_2) ≤ (a1) ∧ ((u0_2 - a1)) = (0)) ∨ ((u0_2) > (a1) ∧ ((u0_2 - a1)) = ((u0_2 - a1))) by omega)
abbrev V95 : vV := [(0, 2, [(4, 0), (0, 0), (0, 0)]), (1, 0, [])]
/-- BitSource.take: this, this.in -/
theorem C95 {σE : rS} {D N : Nat → Nat} {F : hF} {A : hA} {d c s : Nat} {Q : wQ} (H : HW V95 σE D N F A) {a1 : Int} (pf1 : F 0 0 = (D 1 : Int)) (n1 : Int) (en1 : (N 1 : Int) = n1) (u0_1 : Int) (eu0_1 : F 0 1 = u0_1) (u0_2 : Int) (eu0_2 : F 0 2 = u0_2) (w1 : Int → Int) (ew1 : A 1 = w1) (h0 : inr (a1)) (h1 : 0 ≤ (a1) ∧ (a1) ≤ 31) (h2 : 0 ≤ (u0_1) ∧ (u0_1) ≤ 65536 ∧ (u0_2) ≤ 8 * ((n1) - (u0_1)) ∧ (n1) ≤ 65536) (h3 : -100 ≤ (u0_2)) (k : ∀ (z : Int) (σ : rS) (F' : hF) (A' : hA), HW V95 σ D N F' A' → OUT (V95).length D N σE c s D N σ c s → SF [(0, 2)] F F' → SA [] A A' → ∀ y0_2 : Int, F' 0 2 = y0_2 → (inrJ (z)) → (0 ≤ (z) ∧ (z) < p2 ((a1))) → ((y0_2) = (u0_2) - (a1)) → ((z) = pk (ub8 ((w1))) (8 * (u0_1)) ((u0_2)) ((a1))) → Q (some (J z)) σ c s) : Ew 95 (d + 1) 0 (rargs 0 [.ref (D 0), I a1]) [] σE c s Q := by
  have O := OUT_refl (n := (V95).length) (D := D) (N := N) (σ := σE) (c := c) (s := s)
  have HE := H
  have r1 : (-2147483648 : Int) ≤ u0_1 ∧ u0_1 ≤ 2147483647 := by have h1 : (-2147483648 : Int) ≤ F 0 1 ∧ F 0 1 ≤ 2147483647 := H.krg 0 1 (by decide); rw [show F 0 1 = u0_1 from (eu0_1)] at h1; exact h1
  have r2 : (-2147483648 : Int) ≤ u0_2 ∧ u0_2 ≤ 2147483647 := by have h1 : (-2147483648 : Int) ≤ F 0 2 ∧ F 0 2 ≤ 2147483647 := H.krg 0 2 (by decide); rw [show F 0 2 = u0_2 from (eu0_2)] at h1; exact h1
  have r3 : (0 : Int) ≤ n1 ∧ n1 ≤ 1000000 := by have h1 := H.nle 1 (by decide); have h2 : (N 1 : Int) = n1 := en1; omega
  refine Ew_of (pc' := 1) (fun _ => x_aload_n rfl rfl) ?_
  refine Ew_of (pc' := 2) (fun _ => x_iload_n rfl rfl) ?_
  refine v_inv H (o := 0) rfl rfl rfl rfl rfl rfl (by rfl) (C94 (D := pul [0, 1] D) (N := pul [0, 1] N) (HW_sub H (VS_of (show vsub V95 V94 [0, 1] = true by decide +kernel))) (pf1) (n1) (en1) (u0_1) ((eu0_1)) (u0_2) ((eu0_2)) (w1) (ew1) (show inr (a1) by omega) (show 0 ≤ (a1) ∧ (a1) ≤ 31 by omega) (show 0 ≤ (u0_1) ∧ (u0_1) ≤ 65536 ∧ (u0_2) ≤ 8 * ((n1) - (u0_1)) ∧ (n1) ≤ 65536 by omega) (show -100 ≤ (u0_2) by omega) (fun z4 σ4 F4' A4' H' O' hS4 hA4 pz4_0 pz4_1 pz4_2 => ⟨rfl, ?_⟩))
  refine v_back (c := c) (s := s) H (show vsub V95 V94 [0, 1] = true by decide +kernel) H' O' (fun F4 A4 H O' eF4 eA4 => ?_)
  have O := OUT_trans O O'
  -- BitSource.peek
  have hpk := pz4_2
  refine Ew_of (pc' := 6) (fun _ => x_lstore_n rfl) ?_
  refine Ew_of (pc' := 7) (fun _ => x_aload_n rfl (rk2_o (rfl) rfl rfl)) ?_
  refine Ew_of (pc' := 8) (fun _ => x_dup rfl rfl) ?_
  refine v_g H (o := 0) (v := I (u0_2)) rfl rfl rfl rfl rfl (congrArg (fun z : Int => I z) ((((show F4 0 2 = F 0 2 from (eF4 0 2).trans (hS4 0 2 rfl))).trans (eu0_2)) : F4 0 2 = u0_2)) ?_
  refine Ew_of (pc' := 12) (fun _ => x_iload_n rfl (rk2_o (rfl) rfl rfl)) ?_
  refine w_isub rfl ?_
  refine v_p H (o := 0) (z := (u0_2 - a1)) (v := I ((u0_2 - a1))) rfl rfl rfl rfl rfl rfl rfl rfl (show (-2147483648 : Int) ≤ (u0_2 - a1) ∧ (u0_2 - a1) ≤ 2147483647 by omega) (fun σ H O' => ?_)
  have O := OUT_trans O O'
  refine Ew_of (pc' := 17) (fun _ => x_lload_n rfl rk2_s) ?_
  have : (z4) = pk (ub8 ((w1))) (8 * (u0_1)) ((u0_2)) ((a1)) := hpk
  exact w_lreturn rfl (k (z4) _ _ _ H O (SF_upd (SF_trans (SF_refl) (SF_glu (ι := [0, 1]) hS4 eF4 (by decide +kernel)) (any_sub (l' := []) rfl)) rfl) (SA_trans (SA_refl) (SA_glu (ι := [0, 1]) hA4 eA4 (by decide +kernel)) (any_subA (l' := []) rfl)) ((u0_2 - a1)) (rfl) (show inrJ (z4) by omega) (show 0 ≤ (z4) ∧ (z4) < p2 (a1) by omega) (show ((u0_2 - a1)) = (u0_2) - a1 by omega) (show (z4) = pk (ub8 ((w1))) (8 * (u0_1)) ((u0_2)) (a1) by assumption))
abbrev V188 : vV := [(0, 9, [(4, 0), (4, 0), (4, 0)]), (1, 2, [])]
/-- Stand.latestBy: this, this.latest -/
theorem C188 {σE : rS} {D N : Nat → Nat} {F : hF} {A : hA} {d c s : Nat} {Q : wQ} (H : HW V188 σE D N F A) {a1 a2 : Int} (pf1 : F 0 2 = (D 1 : Int)) (n1 : Int) (en1 : (N 1 : Int) = n1) (w1 : Int → Int) (ew1 : A 1 = w1) (h0 : inr (a1)) (h1 : inr (a2)) (h2 : 1 ≤ (a1) ∧ (a1) ≤ 3) (h3 : (n1) = 3) (k : ∀ (z : Int) (σ : rS) (F' : hF) (A' : hA), HW V188 σ D N F' A' → OUT (V188).length D N σE c s D N σ c s → SF [] F F' → SA [] A A' → (inrJ (z)) → (LBY ((a1)) ((a2)) ((w1)) ((z))) → Q (some (J z)) σ c s) : Ew 188 (d + 0) 0 (rargs 0 [.ref (D 0), I a1, I a2]) [] σE c s Q := by
  have O := OUT_refl (n := (V188).length) (D := D) (N := N) (σ := σE) (c := c) (s := s)
  have HE := H
  have r1 : (0 : Int) ≤ n1 ∧ n1 ≤ 1000000 := by have h1 := H.nle 1 (by decide); have h2 : (N 1 : Int) = n1 := en1; omega
  refine Ew_of (pc' := 1) (fun _ => x_iload_n rfl rfl) ?_
  have hc11 : ∀ (tc11_0 : Int), ∀ (ls : rO) (σ : rS) (F_c11 : hF) (A_c11 : hA) , rlook ls 0 = some (.ref (D 0)) → HW V188 σ D N F_c11 A_c11 → OUT (V188).length D N σE c s D N σ c s → SF [] F F_c11 → SA [] A A_c11 → (inr (tc11_0)) → (((a2) ≠ (0) ∧ (tc11_0) = (a1)) ∨ ((a2) = (0) ∧ (tc11_0) = ((a1 + 1)))) → Ew 188 (d + 0) 11 ls [I (tc11_0)] σ c s Q := by
   as_aux_lemma =>
    intro tc11_0 ls σ F_c11 A_c11  lc11_0 H O hS_c11 hA_c11     jc11_0 jc11_1
    refine Ew_of (pc' := 12) (fun _ => x_istore_n rfl) ?_
    obtain ⟨qw, hqw⟩ : ∃ q : Int, q = (tc11_0) := ⟨_, rfl⟩
    refine Ew_of (pc' := 13) (fun _ => x_iload_n rfl rk_s) ?_
    refine Ew_of (pc' := 14) (fun _ => x_iconst rfl) ?_
    refine w_icmple (t := 28) rfl rfl (show inr (tc11_0) by omega) (show inr (3) by omega) (fun b2 => ?_) (fun b2 => ?_)
    · refine Ew_of (pc' := 29) (fun _ => x_aload_n rfl (rk_o (lc11_0) rfl rfl)) ?_
      refine v_g H (o := 0) (v := .ref (D 1)) rfl rfl rfl rfl rfl (vrf (((hS_c11 0 2 rfl)).trans (pf1))) ?_
      refine Ew_of (pc' := 33) (fun _ => x_iload_n rfl rk_s) ?_
      refine Ew_of (pc' := 34) (fun _ => x_iconst rfl) ?_
      refine w_isub rfl ?_
      refine v_lJ H (o := 1) rfl rfl rfl rfl (n := n1) (en1) (show 0 ≤ (tc11_0 - 1) ∧ (tc11_0 - 1) < n1 by omega) (fun v3 ev3 qv3 => ?_)
      have ev3 : (w1) ((tc11_0 - 1)) = v3 := (congrFun ((funext (hA_c11 1 rfl)).trans (ew1)) ((tc11_0 - 1))).symm.trans ev3
      have : LBY ((a1)) ((a2)) ((w1)) ((v3)) := LBY_y (w := qw) (by omega) (by first | exact .inr ⟨by omega, by rw [hv0]⟩ | exact .inl ⟨by omega, by rw [hqw]; symm; assumption⟩)
      exact w_lreturn rfl (k (v3) _ _ _ H O (SF_trans (SF_refl) hS_c11 (any_sub rfl)) (SA_trans (SA_refl) hA_c11 (any_subA rfl)) (show inrJ (v3) by omega) (show LBY (a1) (a2) ((w1)) ((v3)) by assumption))
    · refine Ew_of (pc' := 18) (fun _ => x_aload_n rfl (rk_o (lc11_0) rfl rfl)) ?_
      refine v_g H (o := 0) (v := .ref (D 1)) rfl rfl rfl rfl rfl (vrf (((hS_c11 0 2 rfl)).trans (pf1))) ?_
      refine Ew_of (pc' := 22) (fun _ => x_iconst rfl) ?_
      refine v_lJ H (o := 1) rfl rfl rfl rfl (n := n1) (en1) (show 0 ≤ 0 ∧ 0 < n1 by omega) (fun v4 ev4 qv4 => ?_)
      have ev4 : (w1) (0) = v4 := (congrFun ((funext (hA_c11 1 rfl)).trans (ew1)) (0)).symm.trans ev4
      have hv0 := ev4
      refine Ew_of (pc' := 24) (fun _ => x_lconst (z := 1) rfl (by decide)) ?_
      refine w_lsubE rfl ?_
      have g5 : inrJ (sbJ (v4) (1)) := toJ_inr _
      refine Ew_of (pc' := 36) (fun _ => x_goto rfl rfl) ?_
      have : LBY ((a1)) ((a2)) ((w1)) (((sbJ (v4) (1)))) := LBY_y (w := qw) (by omega) (by first | exact .inr ⟨by omega, by rw [hv0]⟩ | exact .inl ⟨by omega, by rw [hqw]; symm; assumption⟩)
      exact w_lreturn rfl (k ((sbJ (v4) (1))) _ _ _ H O (SF_trans (SF_refl) hS_c11 (any_sub rfl)) (SA_trans (SA_refl) hA_c11 (any_subA rfl)) (show inrJ ((sbJ (v4) (1))) by omega) (show LBY (a1) (a2) ((w1)) (((sbJ (v4) (1)))) by assumption))
  refine w_ifne (t := 10) rfl rfl (show inr (a2) by omega) (fun b6 => ?_) (fun b6 => ?_)
  · refine Ew_of (pc' := 11) (fun _ => x_iload_n rfl rfl) ?_
    exact hc11 (a1) _ _ _ _  (rfl) H O (SF_refl) (SA_refl)     (show inr (a1) by omega) (show ((a2) ≠ (0) ∧ (a1) = (a1)) ∨ ((a2) = (0) ∧ (a1) = ((a1 + 1))) by omega)
  · refine Ew_of (pc' := 5) (fun _ => x_iload_n rfl rfl) ?_
    refine Ew_of (pc' := 6) (fun _ => x_iconst rfl) ?_
    refine w_iadd rfl ?_
    refine Ew_of (pc' := 11) (fun _ => x_goto rfl rfl) ?_
    exact hc11 ((a1 + 1)) _ _ _ _  (rfl) H O (SF_refl) (SA_refl)     (show inr ((a1 + 1)) by omega) (show ((a2) ≠ (0) ∧ ((a1 + 1)) = (a1)) ∨ ((a2) = (0) ∧ ((a1 + 1)) = ((a1 + 1))) by omega)
abbrev V189 : vV := [(0, 9, [(4, 0), (4, 0), (4, 0)]), (1, 2, [])]
/-- Stand.tellDistance: this, this.latest -/
theorem C189 {σE : rS} {D N : Nat → Nat} {F : hF} {A : hA} {d c s : Nat} {Q : wQ} (H : HW V189 σE D N F A) {a1 a2 : Int} (pf1 : F 0 2 = (D 1 : Int)) (n1 : Int) (en1 : (N 1 : Int) = n1) (w1 : Int → Int) (ew1 : A 1 = w1) (h0 : inrJ (a1)) (h1 : inr (a2)) (h2 : 1 ≤ (a1)) (h3 : (n1) = 3) (h4 : (a1) ≤ 9000000000000000000) (k : ∀ (z : Int) (σ : rS) (F' : hF) (A' : hA), HW V189 σ D N F' A' → OUT (V189).length D N σE c s D N σ c s → SF [] F F' → SA [1] A A' → ∀ v1 : Int → Int, A' 1 = v1 → (inrJ (z)) → (IMP (1 ≤ ((w1)) 0 ∧ 1 ≤ ((w1)) 1 ∧ 1 ≤ ((w1)) 2) (dsF ((a1)) ((a2)) (((w1)) 0) (((w1)) 1) (((w1)) 2) = ((z), ((v1)) 0, ((v1)) 1, ((v1)) 2))) → Q (some (J z)) σ c s) : Ew 189 (d + 1) 0 (rargs 0 [.ref (D 0), J a1, I a2]) [] σE c s Q := by
  have O := OUT_refl (n := (V189).length) (D := D) (N := N) (σ := σE) (c := c) (s := s)
  have HE := H
  have r1 : (0 : Int) ≤ n1 ∧ n1 ≤ 1000000 := by have h1 := H.nle 1 (by decide); have h2 : (N 1 : Int) = n1 := en1; omega
  have hlr : ∀ i, (-9223372036854775808 : Int) ≤ (w1) i ∧ (w1) i ≤ 9223372036854775807 := fun i => by have h1 : (-9223372036854775808 : Int) ≤ A 1 i ∧ A 1 i ≤ 9223372036854775807 := H.arg 1 i (by decide) rfl; rw [show A 1 = w1 from ew1] at h1; exact h1
  have hlr0 := hlr 0
  obtain ⟨qw, hqw⟩ : ∃ q : Int, ((a2) = 0 ∧ q = (a1) + 1 ∨ (a2) ≠ 0 ∧ q = (a1)) := by by_cases z : ((a2) : Int) = 0; (exact ⟨(a1) + 1, .inl ⟨z, rfl⟩⟩); (exact ⟨(a1), .inr ⟨z, rfl⟩⟩)
  refine Ew_of (pc' := 1) (fun _ => x_lload_n rfl rfl) ?_
  refine Ew_of (pc' := 4) (fun _ => x_ldc2 (z := 3) rfl (by decide)) ?_
  refine w_lcmp rfl (show inrJ (a1) by omega) (show inrJ (3) by omega) (fun z2 gz2 gaz2 gbz2 => ?_)
  refine w_ifle (t := 16) rfl rfl (show inr (z2) by omega) (fun b3 => ?_) (fun b3 => ?_)
  · refine Ew_of (pc' := 17) (fun _ => x_aload_n rfl rfl) ?_
    refine Ew_of (pc' := 18) (fun _ => x_lload_n rfl rfl) ?_
    refine w_l2i rfl ?_
    refine Ew_of (pc' := 20) (fun _ => x_iload_n rfl rfl) ?_
    refine v_inv H (o := 0) rfl rfl rfl rfl rfl rfl (by rfl) (C188 (D := pul [0, 1] D) (N := pul [0, 1] N) (HW_sub H (VS_of (show vsub V189 V188 [0, 1] = true by decide +kernel))) (pf1) (n1) (en1) (w1) (ew1) (show inr (a1) by omega) (show inr (a2) by omega) (show 1 ≤ (a1) ∧ (a1) ≤ 3 by omega) (show (n1) = 3 by omega) (fun z4 σ4 F4' A4' H' O' hS4 hA4 pz4_0 pz4_1 => ⟨rfl, ?_⟩))
    refine v_back (c := c) (s := s) H (show vsub V189 V188 [0, 1] = true by decide +kernel) H' O' (fun F4 A4 H O' eF4 eA4 => ?_)
    have O := OUT_trans O O'
    -- Stand.latestBy
    have hdd : IMP (1 ≤ ((w1)) 0) (3 < (a1) ∧ (z4) = (a1) - 3 ∨ (a1) ≤ 3 ∧ (qw = 1 ∧ (z4) = ((w1)) 0 ∨ qw = 2 ∧ (z4) = ((w1)) 1 ∨ qw = 3 ∧ (z4) = ((w1)) 2 ∨ 3 < qw ∧ (z4) = ((w1)) 0 - 1)) := by first | exact fun _ => .inl ⟨by omega, by omega⟩ | exact fun z => .inr ⟨by omega, LBY_x pz4_1 (by omega) hqw z hlr0⟩
    refine Ew_of (pc' := 25) (fun _ => x_lstore rfl) ?_
    refine Ew_of (pc' := 26) (fun _ => x_iload_n rfl (rk2_o (rfl) rfl rfl)) ?_
    have hc37 : ∀ (ls : rO) (σ : rS) (F_c37 : hF) (A_c37 : hA) , rlook ls 0 = some (.ref (D 0)) → rlook ls 1 = some (J (a1)) → rlook ls 4 = some (J (z4)) → HW V189 σ D N F_c37 A_c37 → OUT (V189).length D N σE c s D N σ c s → SF [] F4 F_c37 → SA [] A4 A_c37 → (((a2) = (0)) ∨ ((a2) ≠ (0) ∧ (a1) > (3))) → Ew 189 (d + 1) 37 ls [] σ c s Q := by
     as_aux_lemma =>
      intro  ls σ F_c37 A_c37  lc37_0 lc37_1 lc37_4 H O hS_c37 hA_c37     jc37_0
      refine Ew_of (pc' := 38) (fun _ => x_lload_n rfl lc37_1) ?_
      refine Ew_of (pc' := 39) (fun _ => x_lconst (z := 1) rfl (by decide)) ?_
      refine w_ladd rfl ?_
      refine Ew_of (pc' := 44) (fun _ => x_goto rfl rfl) ?_
      refine Ew_of (pc' := 46) (fun _ => x_lstore rfl) ?_
      refine Ew_of (pc' := 48) (fun _ => x_lload rfl rk2_s) ?_
      refine Ew_of (pc' := 51) (fun _ => x_ldc2 (z := 2) rfl (by decide)) ?_
      refine w_lcmp rfl (show inrJ ((a1 + 1)) by omega) (show inrJ (2) by omega) (fun z5 gz5 gaz5 gbz5 => ?_)
      refine w_ifle (t := 67) rfl rfl (show inr (z5) by omega) (fun b6 => ?_) (fun b6 => ?_)
      · refine Ew_of (pc' := 69) (fun _ => x_lload rfl rk2_s) ?_
        refine Ew_of (pc' := 70) (fun _ => x_lconst (z := 1) rfl (by decide)) ?_
        refine w_lcmp rfl (show inrJ ((a1 + 1)) by omega) (show inrJ (1) by omega) (fun z7 gz7 gaz7 gbz7 => ?_)
        refine w_ifle (t := 86) rfl rfl (show inr (z7) by omega) (fun b8 => ?_) (fun b8 => ?_)
        · refine Ew_of (pc' := 87) (fun _ => x_aload_n rfl (rk2_o (lc37_0) rfl rfl)) ?_
          refine v_g H (o := 0) (v := .ref (D 1)) rfl rfl rfl rfl rfl (vrf ((((hS_c37 0 2 rfl).trans ((show F4 0 2 = F 0 2 from (eF4 0 2).trans (hS4 0 2 rfl))))).trans (pf1))) ?_
          refine Ew_of (pc' := 91) (fun _ => x_iconst rfl) ?_
          refine Ew_of (pc' := 93) (fun _ => x_lload rfl (rk2_o (lc37_4) rfl rfl)) ?_
          refine v_sJ H (o := 1) (z := z4) rfl rfl rfl rfl (n := n1) (en1) (show 0 ≤ 0 ∧ 0 < n1 by omega) (show inrJ (z4) by omega) (fun σ H O' => ?_)
          have O := OUT_trans O O'
          refine Ew_of (pc' := 96) (fun _ => x_lload rfl (rk2_o (lc37_4) rfl rfl)) ?_
          have : IMP (1 ≤ ((w1)) 0 ∧ 1 ≤ ((w1)) 1 ∧ 1 ≤ ((w1)) 2) (dsF ((a1)) ((a2)) (((w1)) 0) (((w1)) 1) (((w1)) 2) = ((z4), ((upd1 (w1) (0) (z4))) 0, ((upd1 (w1) (0) (z4))) 1, ((upd1 (w1) (0) (z4))) 2)) := fun hL => by have hx := hdd hL.1; have hL1 := hL.1; have hL2 := hL.2.1; have hL3 := hL.2.2; exact dsF_i (w := qw) hqw (by simp only [upd1, n01_, n02_, n10_, n12_, n20_, n21_, eq_self, if_true, if_false]; rcases hx with ⟨a, b⟩ | ⟨a, ⟨b, c⟩ | ⟨b, c⟩ | ⟨b, c⟩ | ⟨b, c⟩⟩; (exact .inl ⟨by first | exact True.intro | omega, by first | exact True.intro | omega, by first | exact True.intro | omega, by first | exact True.intro | omega, by first | exact True.intro | omega⟩); (exact .inr (.inl ⟨by first | exact True.intro | omega, by first | exact True.intro | omega, by first | exact True.intro | omega, by first | exact True.intro | omega, by first | exact True.intro | omega, by first | exact True.intro | omega⟩)); (exact .inr (.inr (.inl ⟨by first | exact True.intro | omega, by first | exact True.intro | omega, by first | exact True.intro | omega, by first | exact True.intro | omega, by first | exact True.intro | omega, by first | exact True.intro | omega⟩))); (exact .inr (.inr (.inr (.inl ⟨by first | exact True.intro | omega, by first | exact True.intro | omega, by first | exact True.intro | omega, by first | exact True.intro | omega, by first | exact True.intro | omega, by first | exact True.intro | omega⟩)))); (exact .inr (.inr (.inr (.inr ⟨by first | exact True.intro | omega, by first | exact True.intro | omega, by first | exact True.intro | omega, by first | exact True.intro | omega, by first | exact True.intro | omega, by first | exact True.intro | omega⟩)))))
          exact w_lreturn rfl (k (z4) _ _ _ H O (SF_trans (SF_trans (SF_refl) (SF_glu (ι := [0, 1]) hS4 eF4 (by decide +kernel)) (any_sub (l' := []) rfl)) hS_c37 (any_sub rfl)) (SA_upd (SA_trans (SA_trans (SA_refl) (SA_glu (ι := [0, 1]) hA4 eA4 (by decide +kernel)) (any_subA (l' := []) rfl)) hA_c37 (any_subA rfl)) rfl) (upd1 (w1) (0) (z4)) (congrArg (fun q => upd1 q (0) (z4)) ((funext (hA_c37 1 rfl)).trans (((show A4 1 = A 1 from (eA4 1).trans (funext (hA4 1 rfl)))).trans (ew1)))) (show inrJ (z4) by omega) (show IMP (1 ≤ ((w1)) 0 ∧ 1 ≤ ((w1)) 1 ∧ 1 ≤ ((w1)) 2) (dsF (a1) (a2) (((w1)) 0) (((w1)) 1) (((w1)) 2) = ((z4), ((upd1 (w1) (0) (z4))) 0, ((upd1 (w1) (0) (z4))) 1, ((upd1 (w1) (0) (z4))) 2)) by assumption))
        · refine Ew_of (pc' := 75) (fun _ => x_aload_n rfl (rk2_o (lc37_0) rfl rfl)) ?_
          refine v_g H (o := 0) (v := .ref (D 1)) rfl rfl rfl rfl rfl (vrf ((((hS_c37 0 2 rfl).trans ((show F4 0 2 = F 0 2 from (eF4 0 2).trans (hS4 0 2 rfl))))).trans (pf1))) ?_
          refine Ew_of (pc' := 79) (fun _ => x_iconst rfl) ?_
          refine Ew_of (pc' := 80) (fun _ => x_aload_n rfl (rk2_o (lc37_0) rfl rfl)) ?_
          refine v_g H (o := 0) (v := .ref (D 1)) rfl rfl rfl rfl rfl (vrf ((((hS_c37 0 2 rfl).trans ((show F4 0 2 = F 0 2 from (eF4 0 2).trans (hS4 0 2 rfl))))).trans (pf1))) ?_
          refine Ew_of (pc' := 84) (fun _ => x_iconst rfl) ?_
          refine v_lJ H (o := 1) rfl rfl rfl rfl (n := n1) (en1) (show 0 ≤ 0 ∧ 0 < n1 by omega) (fun v9 ev9 qv9 => ?_)
          have ev9 : (w1) (0) = v9 := (congrFun ((funext (hA_c37 1 rfl)).trans (((show A4 1 = A 1 from (eA4 1).trans (funext (hA4 1 rfl)))).trans (ew1))) (0)).symm.trans ev9
          have hv0 := ev9
          try simp only [upd1, n01_, n02_, n10_, n12_, n20_, n21_, eq_self, if_true, if_false] at hv0
          refine v_sJ H (o := 1) (z := v9) rfl rfl rfl rfl (n := n1) (en1) (show 0 ≤ 1 ∧ 1 < n1 by omega) (show inrJ (v9) by omega) (fun σ H O' => ?_)
          have O := OUT_trans O O'
          refine Ew_of (pc' := 87) (fun _ => x_aload_n rfl (rk2_o (lc37_0) rfl rfl)) ?_
          refine v_g H (o := 0) (v := .ref (D 1)) rfl rfl rfl rfl rfl (vrf ((((hS_c37 0 2 rfl).trans ((show F4 0 2 = F 0 2 from (eF4 0 2).trans (hS4 0 2 rfl))))).trans (pf1))) ?_
          refine Ew_of (pc' := 91) (fun _ => x_iconst rfl) ?_
          refine Ew_of (pc' := 93) (fun _ => x_lload rfl (rk2_o (lc37_4) rfl rfl)) ?_
          refine v_sJ H (o := 1) (z := z4) rfl rfl rfl rfl (n := n1) (en1) (show 0 ≤ 0 ∧ 0 < n1 by omega) (show inrJ (z4) by omega) (fun σ H O' => ?_)
          have O := OUT_trans O O'
          refine Ew_of (pc' := 96) (fun _ => x_lload rfl (rk2_o (lc37_4) rfl rfl)) ?_
          have : IMP (1 ≤ ((w1)) 0 ∧ 1 ≤ ((w1)) 1 ∧ 1 ≤ ((w1)) 2) (dsF ((a1)) ((a2)) (((w1)) 0) (((w1)) 1) (((w1)) 2) = ((z4), ((upd1 (upd1 (w1) (1) (v9)) (0) (z4))) 0, ((upd1 (upd1 (w1) (1) (v9)) (0) (z4))) 1, ((upd1 (upd1 (w1) (1) (v9)) (0) (z4))) 2)) := fun hL => by have hx := hdd hL.1; have hL1 := hL.1; have hL2 := hL.2.1; have hL3 := hL.2.2; exact dsF_i (w := qw) hqw (by simp only [upd1, n01_, n02_, n10_, n12_, n20_, n21_, eq_self, if_true, if_false]; rcases hx with ⟨a, b⟩ | ⟨a, ⟨b, c⟩ | ⟨b, c⟩ | ⟨b, c⟩ | ⟨b, c⟩⟩; (exact .inl ⟨by first | exact True.intro | omega, by first | exact True.intro | omega, by first | exact True.intro | omega, by first | exact True.intro | omega, by first | exact True.intro | omega⟩); (exact .inr (.inl ⟨by first | exact True.intro | omega, by first | exact True.intro | omega, by first | exact True.intro | omega, by first | exact True.intro | omega, by first | exact True.intro | omega, by first | exact True.intro | omega⟩)); (exact .inr (.inr (.inl ⟨by first | exact True.intro | omega, by first | exact True.intro | omega, by first | exact True.intro | omega, by first | exact True.intro | omega, by first | exact True.intro | omega, by first | exact True.intro | omega⟩))); (exact .inr (.inr (.inr (.inl ⟨by first | exact True.intro | omega, by first | exact True.intro | omega, by first | exact True.intro | omega, by first | exact True.intro | omega, by first | exact True.intro | omega, by first | exact True.intro | omega⟩)))); (exact .inr (.inr (.inr (.inr ⟨by first | exact True.intro | omega, by first | exact True.intro | omega, by first | exact True.intro | omega, by first | exact True.intro | omega, by first | exact True.intro | omega, by first | exact True.intro | omega⟩)))))
          exact w_lreturn rfl (k (z4) _ _ _ H O (SF_trans (SF_trans (SF_refl) (SF_glu (ι := [0, 1]) hS4 eF4 (by decide +kernel)) (any_sub (l' := []) rfl)) hS_c37 (any_sub rfl)) (SA_upd (SA_upd (SA_trans (SA_trans (SA_refl) (SA_glu (ι := [0, 1]) hA4 eA4 (by decide +kernel)) (any_subA (l' := []) rfl)) hA_c37 (any_subA rfl)) rfl) rfl) (upd1 (upd1 (w1) (1) (v9)) (0) (z4)) (congrArg (fun q => upd1 q (0) (z4)) (congrArg (fun q => upd1 q (1) (v9)) ((funext (hA_c37 1 rfl)).trans (((show A4 1 = A 1 from (eA4 1).trans (funext (hA4 1 rfl)))).trans (ew1))))) (show inrJ (z4) by omega) (show IMP (1 ≤ ((w1)) 0 ∧ 1 ≤ ((w1)) 1 ∧ 1 ≤ ((w1)) 2) (dsF (a1) (a2) (((w1)) 0) (((w1)) 1) (((w1)) 2) = ((z4), ((upd1 (upd1 (w1) (1) (v9)) (0) (z4))) 0, ((upd1 (upd1 (w1) (1) (v9)) (0) (z4))) 1, ((upd1 (upd1 (w1) (1) (v9)) (0) (z4))) 2)) by assumption))
      · refine Ew_of (pc' := 56) (fun _ => x_aload_n rfl (rk2_o (lc37_0) rfl rfl)) ?_
        refine v_g H (o := 0) (v := .ref (D 1)) rfl rfl rfl rfl rfl (vrf ((((hS_c37 0 2 rfl).trans ((show F4 0 2 = F 0 2 from (eF4 0 2).trans (hS4 0 2 rfl))))).trans (pf1))) ?_
        refine Ew_of (pc' := 60) (fun _ => x_iconst rfl) ?_
        refine Ew_of (pc' := 61) (fun _ => x_aload_n rfl (rk2_o (lc37_0) rfl rfl)) ?_
        refine v_g H (o := 0) (v := .ref (D 1)) rfl rfl rfl rfl rfl (vrf ((((hS_c37 0 2 rfl).trans ((show F4 0 2 = F 0 2 from (eF4 0 2).trans (hS4 0 2 rfl))))).trans (pf1))) ?_
        refine Ew_of (pc' := 65) (fun _ => x_iconst rfl) ?_
        refine v_lJ H (o := 1) rfl rfl rfl rfl (n := n1) (en1) (show 0 ≤ 1 ∧ 1 < n1 by omega) (fun v10 ev10 qv10 => ?_)
        have ev10 : (w1) (1) = v10 := (congrFun ((funext (hA_c37 1 rfl)).trans (((show A4 1 = A 1 from (eA4 1).trans (funext (hA4 1 rfl)))).trans (ew1))) (1)).symm.trans ev10
        have hv1 := ev10
        refine v_sJ H (o := 1) (z := v10) rfl rfl rfl rfl (n := n1) (en1) (show 0 ≤ 2 ∧ 2 < n1 by omega) (show inrJ (v10) by omega) (fun σ H O' => ?_)
        have O := OUT_trans O O'
        refine Ew_of (pc' := 69) (fun _ => x_lload rfl rk2_s) ?_
        refine Ew_of (pc' := 70) (fun _ => x_lconst (z := 1) rfl (by decide)) ?_
        refine w_lcmp rfl (show inrJ ((a1 + 1)) by omega) (show inrJ (1) by omega) (fun z11 gz11 gaz11 gbz11 => ?_)
        refine w_ifle (t := 86) rfl rfl (show inr (z11) by omega) (fun b12 => ?_) (fun b12 => ?_)
        · refine Ew_of (pc' := 87) (fun _ => x_aload_n rfl (rk2_o (lc37_0) rfl rfl)) ?_
          refine v_g H (o := 0) (v := .ref (D 1)) rfl rfl rfl rfl rfl (vrf ((((hS_c37 0 2 rfl).trans ((show F4 0 2 = F 0 2 from (eF4 0 2).trans (hS4 0 2 rfl))))).trans (pf1))) ?_
          refine Ew_of (pc' := 91) (fun _ => x_iconst rfl) ?_
          refine Ew_of (pc' := 93) (fun _ => x_lload rfl (rk2_o (lc37_4) rfl rfl)) ?_
          refine v_sJ H (o := 1) (z := z4) rfl rfl rfl rfl (n := n1) (en1) (show 0 ≤ 0 ∧ 0 < n1 by omega) (show inrJ (z4) by omega) (fun σ H O' => ?_)
          have O := OUT_trans O O'
          refine Ew_of (pc' := 96) (fun _ => x_lload rfl (rk2_o (lc37_4) rfl rfl)) ?_
          have : IMP (1 ≤ ((w1)) 0 ∧ 1 ≤ ((w1)) 1 ∧ 1 ≤ ((w1)) 2) (dsF ((a1)) ((a2)) (((w1)) 0) (((w1)) 1) (((w1)) 2) = ((z4), ((upd1 (upd1 (w1) (2) (v10)) (0) (z4))) 0, ((upd1 (upd1 (w1) (2) (v10)) (0) (z4))) 1, ((upd1 (upd1 (w1) (2) (v10)) (0) (z4))) 2)) := fun hL => by have hx := hdd hL.1; have hL1 := hL.1; have hL2 := hL.2.1; have hL3 := hL.2.2; exact dsF_i (w := qw) hqw (by simp only [upd1, n01_, n02_, n10_, n12_, n20_, n21_, eq_self, if_true, if_false]; rcases hx with ⟨a, b⟩ | ⟨a, ⟨b, c⟩ | ⟨b, c⟩ | ⟨b, c⟩ | ⟨b, c⟩⟩; (exact .inl ⟨by first | exact True.intro | omega, by first | exact True.intro | omega, by first | exact True.intro | omega, by first | exact True.intro | omega, by first | exact True.intro | omega⟩); (exact .inr (.inl ⟨by first | exact True.intro | omega, by first | exact True.intro | omega, by first | exact True.intro | omega, by first | exact True.intro | omega, by first | exact True.intro | omega, by first | exact True.intro | omega⟩)); (exact .inr (.inr (.inl ⟨by first | exact True.intro | omega, by first | exact True.intro | omega, by first | exact True.intro | omega, by first | exact True.intro | omega, by first | exact True.intro | omega, by first | exact True.intro | omega⟩))); (exact .inr (.inr (.inr (.inl ⟨by first | exact True.intro | omega, by first | exact True.intro | omega, by first | exact True.intro | omega, by first | exact True.intro | omega, by first | exact True.intro | omega, by first | exact True.intro | omega⟩)))); (exact .inr (.inr (.inr (.inr ⟨by first | exact True.intro | omega, by first | exact True.intro | omega, by first | exact True.intro | omega, by first | exact True.intro | omega, by first | exact True.intro | omega, by first | exact True.intro | omega⟩)))))
          exact w_lreturn rfl (k (z4) _ _ _ H O (SF_trans (SF_trans (SF_refl) (SF_glu (ι := [0, 1]) hS4 eF4 (by decide +kernel)) (any_sub (l' := []) rfl)) hS_c37 (any_sub rfl)) (SA_upd (SA_upd (SA_trans (SA_trans (SA_refl) (SA_glu (ι := [0, 1]) hA4 eA4 (by decide +kernel)) (any_subA (l' := []) rfl)) hA_c37 (any_subA rfl)) rfl) rfl) (upd1 (upd1 (w1) (2) (v10)) (0) (z4)) (congrArg (fun q => upd1 q (0) (z4)) (congrArg (fun q => upd1 q (2) (v10)) ((funext (hA_c37 1 rfl)).trans (((show A4 1 = A 1 from (eA4 1).trans (funext (hA4 1 rfl)))).trans (ew1))))) (show inrJ (z4) by omega) (show IMP (1 ≤ ((w1)) 0 ∧ 1 ≤ ((w1)) 1 ∧ 1 ≤ ((w1)) 2) (dsF (a1) (a2) (((w1)) 0) (((w1)) 1) (((w1)) 2) = ((z4), ((upd1 (upd1 (w1) (2) (v10)) (0) (z4))) 0, ((upd1 (upd1 (w1) (2) (v10)) (0) (z4))) 1, ((upd1 (upd1 (w1) (2) (v10)) (0) (z4))) 2)) by assumption))
        · refine Ew_of (pc' := 75) (fun _ => x_aload_n rfl (rk2_o (lc37_0) rfl rfl)) ?_
          refine v_g H (o := 0) (v := .ref (D 1)) rfl rfl rfl rfl rfl (vrf ((((hS_c37 0 2 rfl).trans ((show F4 0 2 = F 0 2 from (eF4 0 2).trans (hS4 0 2 rfl))))).trans (pf1))) ?_
          refine Ew_of (pc' := 79) (fun _ => x_iconst rfl) ?_
          refine Ew_of (pc' := 80) (fun _ => x_aload_n rfl (rk2_o (lc37_0) rfl rfl)) ?_
          refine v_g H (o := 0) (v := .ref (D 1)) rfl rfl rfl rfl rfl (vrf ((((hS_c37 0 2 rfl).trans ((show F4 0 2 = F 0 2 from (eF4 0 2).trans (hS4 0 2 rfl))))).trans (pf1))) ?_
          refine Ew_of (pc' := 84) (fun _ => x_iconst rfl) ?_
          refine v_lJ H (o := 1) rfl rfl rfl rfl (n := n1) (en1) (show 0 ≤ 0 ∧ 0 < n1 by omega) (fun v13 ev13 qv13 => ?_)
          have ev13 : (upd1 (w1) (2) (v10)) (0) = v13 := (congrFun (congrArg (fun q => upd1 q (2) (v10)) ((funext (hA_c37 1 rfl)).trans (((show A4 1 = A 1 from (eA4 1).trans (funext (hA4 1 rfl)))).trans (ew1)))) (0)).symm.trans ev13
          have hv0 := ev13
          try simp only [upd1, n01_, n02_, n10_, n12_, n20_, n21_, eq_self, if_true, if_false] at hv0
          refine v_sJ H (o := 1) (z := v13) rfl rfl rfl rfl (n := n1) (en1) (show 0 ≤ 1 ∧ 1 < n1 by omega) (show inrJ (v13) by omega) (fun σ H O' => ?_)
          have O := OUT_trans O O'
          refine Ew_of (pc' := 87) (fun _ => x_aload_n rfl (rk2_o (lc37_0) rfl rfl)) ?_
          refine v_g H (o := 0) (v := .ref (D 1)) rfl rfl rfl rfl rfl (vrf ((((hS_c37 0 2 rfl).trans ((show F4 0 2 = F 0 2 from (eF4 0 2).trans (hS4 0 2 rfl))))).trans (pf1))) ?_
          refine Ew_of (pc' := 91) (fun _ => x_iconst rfl) ?_
          refine Ew_of (pc' := 93) (fun _ => x_lload rfl (rk2_o (lc37_4) rfl rfl)) ?_
          refine v_sJ H (o := 1) (z := z4) rfl rfl rfl rfl (n := n1) (en1) (show 0 ≤ 0 ∧ 0 < n1 by omega) (show inrJ (z4) by omega) (fun σ H O' => ?_)
          have O := OUT_trans O O'
          refine Ew_of (pc' := 96) (fun _ => x_lload rfl (rk2_o (lc37_4) rfl rfl)) ?_
          have : IMP (1 ≤ ((w1)) 0 ∧ 1 ≤ ((w1)) 1 ∧ 1 ≤ ((w1)) 2) (dsF ((a1)) ((a2)) (((w1)) 0) (((w1)) 1) (((w1)) 2) = ((z4), ((upd1 (upd1 (upd1 (w1) (2) (v10)) (1) (v13)) (0) (z4))) 0, ((upd1 (upd1 (upd1 (w1) (2) (v10)) (1) (v13)) (0) (z4))) 1, ((upd1 (upd1 (upd1 (w1) (2) (v10)) (1) (v13)) (0) (z4))) 2)) := fun hL => by have hx := hdd hL.1; have hL1 := hL.1; have hL2 := hL.2.1; have hL3 := hL.2.2; exact dsF_i (w := qw) hqw (by simp only [upd1, n01_, n02_, n10_, n12_, n20_, n21_, eq_self, if_true, if_false]; rcases hx with ⟨a, b⟩ | ⟨a, ⟨b, c⟩ | ⟨b, c⟩ | ⟨b, c⟩ | ⟨b, c⟩⟩; (exact .inl ⟨by first | exact True.intro | omega, by first | exact True.intro | omega, by first | exact True.intro | omega, by first | exact True.intro | omega, by first | exact True.intro | omega⟩); (exact .inr (.inl ⟨by first | exact True.intro | omega, by first | exact True.intro | omega, by first | exact True.intro | omega, by first | exact True.intro | omega, by first | exact True.intro | omega, by first | exact True.intro | omega⟩)); (exact .inr (.inr (.inl ⟨by first | exact True.intro | omega, by first | exact True.intro | omega, by first | exact True.intro | omega, by first | exact True.intro | omega, by first | exact True.intro | omega, by first | exact True.intro | omega⟩))); (exact .inr (.inr (.inr (.inl ⟨by first | exact True.intro | omega, by first | exact True.intro | omega, by first | exact True.intro | omega, by first | exact True.intro | omega, by first | exact True.intro | omega, by first | exact True.intro | omega⟩)))); (exact .inr (.inr (.inr (.inr ⟨by first | exact True.intro | omega, by first | exact True.intro | omega, by first | exact True.intro | omega, by first | exact True.intro | omega, by first | exact True.intro | omega, by first | exact True.intro | omega⟩)))))
          exact w_lreturn rfl (k (z4) _ _ _ H O (SF_trans (SF_trans (SF_refl) (SF_glu (ι := [0, 1]) hS4 eF4 (by decide +kernel)) (any_sub (l' := []) rfl)) hS_c37 (any_sub rfl)) (SA_upd (SA_upd (SA_upd (SA_trans (SA_trans (SA_refl) (SA_glu (ι := [0, 1]) hA4 eA4 (by decide +kernel)) (any_subA (l' := []) rfl)) hA_c37 (any_subA rfl)) rfl) rfl) rfl) (upd1 (upd1 (upd1 (w1) (2) (v10)) (1) (v13)) (0) (z4)) (congrArg (fun q => upd1 q (0) (z4)) (congrArg (fun q => upd1 q (1) (v13)) (congrArg (fun q => upd1 q (2) (v10)) ((funext (hA_c37 1 rfl)).trans (((show A4 1 = A 1 from (eA4 1).trans (funext (hA4 1 rfl)))).trans (ew1)))))) (show inrJ (z4) by omega) (show IMP (1 ≤ ((w1)) 0 ∧ 1 ≤ ((w1)) 1 ∧ 1 ≤ ((w1)) 2) (dsF (a1) (a2) (((w1)) 0) (((w1)) 1) (((w1)) 2) = ((z4), ((upd1 (upd1 (upd1 (w1) (2) (v10)) (1) (v13)) (0) (z4))) 0, ((upd1 (upd1 (upd1 (w1) (2) (v10)) (1) (v13)) (0) (z4))) 1, ((upd1 (upd1 (upd1 (w1) (2) (v10)) (1) (v13)) (0) (z4))) 2)) by assumption))
    refine w_ifeq (t := 37) rfl rfl (show inr (a2) by omega) (fun b14 => ?_) (fun b14 => ?_)
    · exact hc37  _ _ _ _  (rk2_o (rfl) rfl rfl) (rk2_o (rfl) rfl rfl) (rk2_s) H O (SF_refl) (SA_refl)     (show ((a2) = (0)) ∨ ((a2) ≠ (0) ∧ (a1) > (3)) by omega)
    · refine Ew_of (pc' := 30) (fun _ => x_lload_n rfl (rk2_o (rfl) rfl rfl)) ?_
      refine Ew_of (pc' := 33) (fun _ => x_ldc2 (z := 3) rfl (by decide)) ?_
      refine w_lcmp rfl (show inrJ (a1) by omega) (show inrJ (3) by omega) (fun z15 gz15 gaz15 gbz15 => ?_)
      refine w_ifle (t := 43) rfl rfl (show inr (z15) by omega) (fun b16 => ?_) (fun b16 => ?_)
      · refine Ew_of (pc' := 44) (fun _ => x_lload_n rfl (rk2_o (rfl) rfl rfl)) ?_
        refine Ew_of (pc' := 46) (fun _ => x_lstore rfl) ?_
        refine Ew_of (pc' := 48) (fun _ => x_lload rfl rk2_s) ?_
        refine Ew_of (pc' := 51) (fun _ => x_ldc2 (z := 2) rfl (by decide)) ?_
        refine w_lcmp rfl (show inrJ (a1) by omega) (show inrJ (2) by omega) (fun z17 gz17 gaz17 gbz17 => ?_)
        refine w_ifle (t := 67) rfl rfl (show inr (z17) by omega) (fun b18 => ?_) (fun b18 => ?_)
        · refine Ew_of (pc' := 69) (fun _ => x_lload rfl rk2_s) ?_
          refine Ew_of (pc' := 70) (fun _ => x_lconst (z := 1) rfl (by decide)) ?_
          refine w_lcmp rfl (show inrJ (a1) by omega) (show inrJ (1) by omega) (fun z19 gz19 gaz19 gbz19 => ?_)
          refine w_ifle (t := 86) rfl rfl (show inr (z19) by omega) (fun b20 => ?_) (fun b20 => ?_)
          · refine Ew_of (pc' := 87) (fun _ => x_aload_n rfl (rk2_o (rk2_o (rfl) rfl rfl) rfl rfl)) ?_
            refine v_g H (o := 0) (v := .ref (D 1)) rfl rfl rfl rfl rfl (vrf ((((show F4 0 2 = F 0 2 from (eF4 0 2).trans (hS4 0 2 rfl)))).trans (pf1))) ?_
            refine Ew_of (pc' := 91) (fun _ => x_iconst rfl) ?_
            refine Ew_of (pc' := 93) (fun _ => x_lload rfl (rk2_o (rk2_s) rfl rfl)) ?_
            refine v_sJ H (o := 1) (z := z4) rfl rfl rfl rfl (n := n1) (en1) (show 0 ≤ 0 ∧ 0 < n1 by omega) (show inrJ (z4) by omega) (fun σ H O' => ?_)
            have O := OUT_trans O O'
            refine Ew_of (pc' := 96) (fun _ => x_lload rfl (rk2_o (rk2_s) rfl rfl)) ?_
            have : IMP (1 ≤ ((w1)) 0 ∧ 1 ≤ ((w1)) 1 ∧ 1 ≤ ((w1)) 2) (dsF ((a1)) ((a2)) (((w1)) 0) (((w1)) 1) (((w1)) 2) = ((z4), ((upd1 (w1) (0) (z4))) 0, ((upd1 (w1) (0) (z4))) 1, ((upd1 (w1) (0) (z4))) 2)) := fun hL => by have hx := hdd hL.1; have hL1 := hL.1; have hL2 := hL.2.1; have hL3 := hL.2.2; exact dsF_i (w := qw) hqw (by simp only [upd1, n01_, n02_, n10_, n12_, n20_, n21_, eq_self, if_true, if_false]; rcases hx with ⟨a, b⟩ | ⟨a, ⟨b, c⟩ | ⟨b, c⟩ | ⟨b, c⟩ | ⟨b, c⟩⟩; (exact .inl ⟨by first | exact True.intro | omega, by first | exact True.intro | omega, by first | exact True.intro | omega, by first | exact True.intro | omega, by first | exact True.intro | omega⟩); (exact .inr (.inl ⟨by first | exact True.intro | omega, by first | exact True.intro | omega, by first | exact True.intro | omega, by first | exact True.intro | omega, by first | exact True.intro | omega, by first | exact True.intro | omega⟩)); (exact .inr (.inr (.inl ⟨by first | exact True.intro | omega, by first | exact True.intro | omega, by first | exact True.intro | omega, by first | exact True.intro | omega, by first | exact True.intro | omega, by first | exact True.intro | omega⟩))); (exact .inr (.inr (.inr (.inl ⟨by first | exact True.intro | omega, by first | exact True.intro | omega, by first | exact True.intro | omega, by first | exact True.intro | omega, by first | exact True.intro | omega, by first | exact True.intro | omega⟩)))); (exact .inr (.inr (.inr (.inr ⟨by first | exact True.intro | omega, by first | exact True.intro | omega, by first | exact True.intro | omega, by first | exact True.intro | omega, by first | exact True.intro | omega, by first | exact True.intro | omega⟩)))))
            exact w_lreturn rfl (k (z4) _ _ _ H O (SF_trans (SF_refl) (SF_glu (ι := [0, 1]) hS4 eF4 (by decide +kernel)) (any_sub (l' := []) rfl)) (SA_upd (SA_trans (SA_refl) (SA_glu (ι := [0, 1]) hA4 eA4 (by decide +kernel)) (any_subA (l' := []) rfl)) rfl) (upd1 (w1) (0) (z4)) (congrArg (fun q => upd1 q (0) (z4)) (((show A4 1 = A 1 from (eA4 1).trans (funext (hA4 1 rfl)))).trans (ew1))) (show inrJ (z4) by omega) (show IMP (1 ≤ ((w1)) 0 ∧ 1 ≤ ((w1)) 1 ∧ 1 ≤ ((w1)) 2) (dsF (a1) (a2) (((w1)) 0) (((w1)) 1) (((w1)) 2) = ((z4), ((upd1 (w1) (0) (z4))) 0, ((upd1 (w1) (0) (z4))) 1, ((upd1 (w1) (0) (z4))) 2)) by assumption))
          · refine Ew_of (pc' := 75) (fun _ => x_aload_n rfl (rk2_o (rk2_o (rfl) rfl rfl) rfl rfl)) ?_
            refine v_g H (o := 0) (v := .ref (D 1)) rfl rfl rfl rfl rfl (vrf ((((show F4 0 2 = F 0 2 from (eF4 0 2).trans (hS4 0 2 rfl)))).trans (pf1))) ?_
            refine Ew_of (pc' := 79) (fun _ => x_iconst rfl) ?_
            refine Ew_of (pc' := 80) (fun _ => x_aload_n rfl (rk2_o (rk2_o (rfl) rfl rfl) rfl rfl)) ?_
            refine v_g H (o := 0) (v := .ref (D 1)) rfl rfl rfl rfl rfl (vrf ((((show F4 0 2 = F 0 2 from (eF4 0 2).trans (hS4 0 2 rfl)))).trans (pf1))) ?_
            refine Ew_of (pc' := 84) (fun _ => x_iconst rfl) ?_
            refine v_lJ H (o := 1) rfl rfl rfl rfl (n := n1) (en1) (show 0 ≤ 0 ∧ 0 < n1 by omega) (fun v21 ev21 qv21 => ?_)
            have ev21 : (w1) (0) = v21 := (congrFun (((show A4 1 = A 1 from (eA4 1).trans (funext (hA4 1 rfl)))).trans (ew1)) (0)).symm.trans ev21
            have hv0 := ev21
            try simp only [upd1, n01_, n02_, n10_, n12_, n20_, n21_, eq_self, if_true, if_false] at hv0
            refine v_sJ H (o := 1) (z := v21) rfl rfl rfl rfl (n := n1) (en1) (show 0 ≤ 1 ∧ 1 < n1 by omega) (show inrJ (v21) by omega) (fun σ H O' => ?_)
            have O := OUT_trans O O'
            refine Ew_of (pc' := 87) (fun _ => x_aload_n rfl (rk2_o (rk2_o (rfl) rfl rfl) rfl rfl)) ?_
            refine v_g H (o := 0) (v := .ref (D 1)) rfl rfl rfl rfl rfl (vrf ((((show F4 0 2 = F 0 2 from (eF4 0 2).trans (hS4 0 2 rfl)))).trans (pf1))) ?_
            refine Ew_of (pc' := 91) (fun _ => x_iconst rfl) ?_
            refine Ew_of (pc' := 93) (fun _ => x_lload rfl (rk2_o (rk2_s) rfl rfl)) ?_
            refine v_sJ H (o := 1) (z := z4) rfl rfl rfl rfl (n := n1) (en1) (show 0 ≤ 0 ∧ 0 < n1 by omega) (show inrJ (z4) by omega) (fun σ H O' => ?_)
            have O := OUT_trans O O'
            refine Ew_of (pc' := 96) (fun _ => x_lload rfl (rk2_o (rk2_s) rfl rfl)) ?_
            have : IMP (1 ≤ ((w1)) 0 ∧ 1 ≤ ((w1)) 1 ∧ 1 ≤ ((w1)) 2) (dsF ((a1)) ((a2)) (((w1)) 0) (((w1)) 1) (((w1)) 2) = ((z4), ((upd1 (upd1 (w1) (1) (v21)) (0) (z4))) 0, ((upd1 (upd1 (w1) (1) (v21)) (0) (z4))) 1, ((upd1 (upd1 (w1) (1) (v21)) (0) (z4))) 2)) := fun hL => by have hx := hdd hL.1; have hL1 := hL.1; have hL2 := hL.2.1; have hL3 := hL.2.2; exact dsF_i (w := qw) hqw (by simp only [upd1, n01_, n02_, n10_, n12_, n20_, n21_, eq_self, if_true, if_false]; rcases hx with ⟨a, b⟩ | ⟨a, ⟨b, c⟩ | ⟨b, c⟩ | ⟨b, c⟩ | ⟨b, c⟩⟩; (exact .inl ⟨by first | exact True.intro | omega, by first | exact True.intro | omega, by first | exact True.intro | omega, by first | exact True.intro | omega, by first | exact True.intro | omega⟩); (exact .inr (.inl ⟨by first | exact True.intro | omega, by first | exact True.intro | omega, by first | exact True.intro | omega, by first | exact True.intro | omega, by first | exact True.intro | omega, by first | exact True.intro | omega⟩)); (exact .inr (.inr (.inl ⟨by first | exact True.intro | omega, by first | exact True.intro | omega, by first | exact True.intro | omega, by first | exact True.intro | omega, by first | exact True.intro | omega, by first | exact True.intro | omega⟩))); (exact .inr (.inr (.inr (.inl ⟨by first | exact True.intro | omega, by first | exact True.intro | omega, by first | exact True.intro | omega, by first | exact True.intro | omega, by first | exact True.intro | omega, by first | exact True.intro | omega⟩)))); (exact .inr (.inr (.inr (.inr ⟨by first | exact True.intro | omega, by first | exact True.intro | omega, by first | exact True.intro | omega, by first | exact True.intro | omega, by first | exact True.intro | omega, by first | exact True.intro | omega⟩)))))
            exact w_lreturn rfl (k (z4) _ _ _ H O (SF_trans (SF_refl) (SF_glu (ι := [0, 1]) hS4 eF4 (by decide +kernel)) (any_sub (l' := []) rfl)) (SA_upd (SA_upd (SA_trans (SA_refl) (SA_glu (ι := [0, 1]) hA4 eA4 (by decide +kernel)) (any_subA (l' := []) rfl)) rfl) rfl) (upd1 (upd1 (w1) (1) (v21)) (0) (z4)) (congrArg (fun q => upd1 q (0) (z4)) (congrArg (fun q => upd1 q (1) (v21)) (((show A4 1 = A 1 from (eA4 1).trans (funext (hA4 1 rfl)))).trans (ew1)))) (show inrJ (z4) by omega) (show IMP (1 ≤ ((w1)) 0 ∧ 1 ≤ ((w1)) 1 ∧ 1 ≤ ((w1)) 2) (dsF (a1) (a2) (((w1)) 0) (((w1)) 1) (((w1)) 2) = ((z4), ((upd1 (upd1 (w1) (1) (v21)) (0) (z4))) 0, ((upd1 (upd1 (w1) (1) (v21)) (0) (z4))) 1, ((upd1 (upd1 (w1) (1) (v21)) (0) (z4))) 2)) by assumption))
        · refine Ew_of (pc' := 56) (fun _ => x_aload_n rfl (rk2_o (rk2_o (rfl) rfl rfl) rfl rfl)) ?_
          refine v_g H (o := 0) (v := .ref (D 1)) rfl rfl rfl rfl rfl (vrf ((((show F4 0 2 = F 0 2 from (eF4 0 2).trans (hS4 0 2 rfl)))).trans (pf1))) ?_
          refine Ew_of (pc' := 60) (fun _ => x_iconst rfl) ?_
          refine Ew_of (pc' := 61) (fun _ => x_aload_n rfl (rk2_o (rk2_o (rfl) rfl rfl) rfl rfl)) ?_
          refine v_g H (o := 0) (v := .ref (D 1)) rfl rfl rfl rfl rfl (vrf ((((show F4 0 2 = F 0 2 from (eF4 0 2).trans (hS4 0 2 rfl)))).trans (pf1))) ?_
          refine Ew_of (pc' := 65) (fun _ => x_iconst rfl) ?_
          refine v_lJ H (o := 1) rfl rfl rfl rfl (n := n1) (en1) (show 0 ≤ 1 ∧ 1 < n1 by omega) (fun v22 ev22 qv22 => ?_)
          have ev22 : (w1) (1) = v22 := (congrFun (((show A4 1 = A 1 from (eA4 1).trans (funext (hA4 1 rfl)))).trans (ew1)) (1)).symm.trans ev22
          have hv1 := ev22
          refine v_sJ H (o := 1) (z := v22) rfl rfl rfl rfl (n := n1) (en1) (show 0 ≤ 2 ∧ 2 < n1 by omega) (show inrJ (v22) by omega) (fun σ H O' => ?_)
          have O := OUT_trans O O'
          refine Ew_of (pc' := 69) (fun _ => x_lload rfl rk2_s) ?_
          refine Ew_of (pc' := 70) (fun _ => x_lconst (z := 1) rfl (by decide)) ?_
          refine w_lcmp rfl (show inrJ (a1) by omega) (show inrJ (1) by omega) (fun z23 gz23 gaz23 gbz23 => ?_)
          refine w_ifle (t := 86) rfl rfl (show inr (z23) by omega) (fun b24 => ?_) (fun b24 => ?_)
          · refine Ew_of (pc' := 87) (fun _ => x_aload_n rfl (rk2_o (rk2_o (rfl) rfl rfl) rfl rfl)) ?_
            refine v_g H (o := 0) (v := .ref (D 1)) rfl rfl rfl rfl rfl (vrf ((((show F4 0 2 = F 0 2 from (eF4 0 2).trans (hS4 0 2 rfl)))).trans (pf1))) ?_
            refine Ew_of (pc' := 91) (fun _ => x_iconst rfl) ?_
            refine Ew_of (pc' := 93) (fun _ => x_lload rfl (rk2_o (rk2_s) rfl rfl)) ?_
            refine v_sJ H (o := 1) (z := z4) rfl rfl rfl rfl (n := n1) (en1) (show 0 ≤ 0 ∧ 0 < n1 by omega) (show inrJ (z4) by omega) (fun σ H O' => ?_)
            have O := OUT_trans O O'
            refine Ew_of (pc' := 96) (fun _ => x_lload rfl (rk2_o (rk2_s) rfl rfl)) ?_
            have : IMP (1 ≤ ((w1)) 0 ∧ 1 ≤ ((w1)) 1 ∧ 1 ≤ ((w1)) 2) (dsF ((a1)) ((a2)) (((w1)) 0) (((w1)) 1) (((w1)) 2) = ((z4), ((upd1 (upd1 (w1) (2) (v22)) (0) (z4))) 0, ((upd1 (upd1 (w1) (2) (v22)) (0) (z4))) 1, ((upd1 (upd1 (w1) (2) (v22)) (0) (z4))) 2)) := fun hL => by have hx := hdd hL.1; have hL1 := hL.1; have hL2 := hL.2.1; have hL3 := hL.2.2; exact dsF_i (w := qw) hqw (by simp only [upd1, n01_, n02_, n10_, n12_, n20_, n21_, eq_self, if_true, if_false]; rcases hx with ⟨a, b⟩ | ⟨a, ⟨b, c⟩ | ⟨b, c⟩ | ⟨b, c⟩ | ⟨b, c⟩⟩; (exact .inl ⟨by first | exact True.intro | omega, by first | exact True.intro | omega, by first | exact True.intro | omega, by first | exact True.intro | omega, by first | exact True.intro | omega⟩); (exact .inr (.inl ⟨by first | exact True.intro | omega, by first | exact True.intro | omega, by first | exact True.intro | omega, by first | exact True.intro | omega, by first | exact True.intro | omega, by first | exact True.intro | omega⟩)); (exact .inr (.inr (.inl ⟨by first | exact True.intro | omega, by first | exact True.intro | omega, by first | exact True.intro | omega, by first | exact True.intro | omega, by first | exact True.intro | omega, by first | exact True.intro | omega⟩))); (exact .inr (.inr (.inr (.inl ⟨by first | exact True.intro | omega, by first | exact True.intro | omega, by first | exact True.intro | omega, by first | exact True.intro | omega, by first | exact True.intro | omega, by first | exact True.intro | omega⟩)))); (exact .inr (.inr (.inr (.inr ⟨by first | exact True.intro | omega, by first | exact True.intro | omega, by first | exact True.intro | omega, by first | exact True.intro | omega, by first | exact True.intro | omega, by first | exact True.intro | omega⟩)))))
            exact w_lreturn rfl (k (z4) _ _ _ H O (SF_trans (SF_refl) (SF_glu (ι := [0, 1]) hS4 eF4 (by decide +kernel)) (any_sub (l' := []) rfl)) (SA_upd (SA_upd (SA_trans (SA_refl) (SA_glu (ι := [0, 1]) hA4 eA4 (by decide +kernel)) (any_subA (l' := []) rfl)) rfl) rfl) (upd1 (upd1 (w1) (2) (v22)) (0) (z4)) (congrArg (fun q => upd1 q (0) (z4)) (congrArg (fun q => upd1 q (2) (v22)) (((show A4 1 = A 1 from (eA4 1).trans (funext (hA4 1 rfl)))).trans (ew1)))) (show inrJ (z4) by omega) (show IMP (1 ≤ ((w1)) 0 ∧ 1 ≤ ((w1)) 1 ∧ 1 ≤ ((w1)) 2) (dsF (a1) (a2) (((w1)) 0) (((w1)) 1) (((w1)) 2) = ((z4), ((upd1 (upd1 (w1) (2) (v22)) (0) (z4))) 0, ((upd1 (upd1 (w1) (2) (v22)) (0) (z4))) 1, ((upd1 (upd1 (w1) (2) (v22)) (0) (z4))) 2)) by assumption))
          · refine Ew_of (pc' := 75) (fun _ => x_aload_n rfl (rk2_o (rk2_o (rfl) rfl rfl) rfl rfl)) ?_
            refine v_g H (o := 0) (v := .ref (D 1)) rfl rfl rfl rfl rfl (vrf ((((show F4 0 2 = F 0 2 from (eF4 0 2).trans (hS4 0 2 rfl)))).trans (pf1))) ?_
            refine Ew_of (pc' := 79) (fun _ => x_iconst rfl) ?_
            refine Ew_of (pc' := 80) (fun _ => x_aload_n rfl (rk2_o (rk2_o (rfl) rfl rfl) rfl rfl)) ?_
            refine v_g H (o := 0) (v := .ref (D 1)) rfl rfl rfl rfl rfl (vrf ((((show F4 0 2 = F 0 2 from (eF4 0 2).trans (hS4 0 2 rfl)))).trans (pf1))) ?_
            refine Ew_of (pc' := 84) (fun _ => x_iconst rfl) ?_
            refine v_lJ H (o := 1) rfl rfl rfl rfl (n := n1) (en1) (show 0 ≤ 0 ∧ 0 < n1 by omega) (fun v25 ev25 qv25 => ?_)
            have ev25 : (upd1 (w1) (2) (v22)) (0) = v25 := (congrFun (congrArg (fun q => upd1 q (2) (v22)) (((show A4 1 = A 1 from (eA4 1).trans (funext (hA4 1 rfl)))).trans (ew1))) (0)).symm.trans ev25
            have hv0 := ev25
            try simp only [upd1, n01_, n02_, n10_, n12_, n20_, n21_, eq_self, if_true, if_false] at hv0
            refine v_sJ H (o := 1) (z := v25) rfl rfl rfl rfl (n := n1) (en1) (show 0 ≤ 1 ∧ 1 < n1 by omega) (show inrJ (v25) by omega) (fun σ H O' => ?_)
            have O := OUT_trans O O'
            refine Ew_of (pc' := 87) (fun _ => x_aload_n rfl (rk2_o (rk2_o (rfl) rfl rfl) rfl rfl)) ?_
            refine v_g H (o := 0) (v := .ref (D 1)) rfl rfl rfl rfl rfl (vrf ((((show F4 0 2 = F 0 2 from (eF4 0 2).trans (hS4 0 2 rfl)))).trans (pf1))) ?_
            refine Ew_of (pc' := 91) (fun _ => x_iconst rfl) ?_
            refine Ew_of (pc' := 93) (fun _ => x_lload rfl (rk2_o (rk2_s) rfl rfl)) ?_
            refine v_sJ H (o := 1) (z := z4) rfl rfl rfl rfl (n := n1) (en1) (show 0 ≤ 0 ∧ 0 < n1 by omega) (show inrJ (z4) by omega) (fun σ H O' => ?_)
            have O := OUT_trans O O'
            refine Ew_of (pc' := 96) (fun _ => x_lload rfl (rk2_o (rk2_s) rfl rfl)) ?_
            have : IMP (1 ≤ ((w1)) 0 ∧ 1 ≤ ((w1)) 1 ∧ 1 ≤ ((w1)) 2) (dsF ((a1)) ((a2)) (((w1)) 0) (((w1)) 1) (((w1)) 2) = ((z4), ((upd1 (upd1 (upd1 (w1) (2) (v22)) (1) (v25)) (0) (z4))) 0, ((upd1 (upd1 (upd1 (w1) (2) (v22)) (1) (v25)) (0) (z4))) 1, ((upd1 (upd1 (upd1 (w1) (2) (v22)) (1) (v25)) (0) (z4))) 2)) := fun hL => by have hx := hdd hL.1; have hL1 := hL.1; have hL2 := hL.2.1; have hL3 := hL.2.2; exact dsF_i (w := qw) hqw (by simp only [upd1, n01_, n02_, n10_, n12_, n20_, n21_, eq_self, if_true, if_false]; rcases hx with ⟨a, b⟩ | ⟨a, ⟨b, c⟩ | ⟨b, c⟩ | ⟨b, c⟩ | ⟨b, c⟩⟩; (exact .inl ⟨by first | exact True.intro | omega, by first | exact True.intro | omega, by first | exact True.intro | omega, by first | exact True.intro | omega, by first | exact True.intro | omega⟩); (exact .inr (.inl ⟨by first | exact True.intro | omega, by first | exact True.intro | omega, by first | exact True.intro | omega, by first | exact True.intro | omega, by first | exact True.intro | omega, by first | exact True.intro | omega⟩)); (exact .inr (.inr (.inl ⟨by first | exact True.intro | omega, by first | exact True.intro | omega, by first | exact True.intro | omega, by first | exact True.intro | omega, by first | exact True.intro | omega, by first | exact True.intro | omega⟩))); (exact .inr (.inr (.inr (.inl ⟨by first | exact True.intro | omega, by first | exact True.intro | omega, by first | exact True.intro | omega, by first | exact True.intro | omega, by first | exact True.intro | omega, by first | exact True.intro | omega⟩)))); (exact .inr (.inr (.inr (.inr ⟨by first | exact True.intro | omega, by first | exact True.intro | omega, by first | exact True.intro | omega, by first | exact True.intro | omega, by first | exact True.intro | omega, by first | exact True.intro | omega⟩)))))
            exact w_lreturn rfl (k (z4) _ _ _ H O (SF_trans (SF_refl) (SF_glu (ι := [0, 1]) hS4 eF4 (by decide +kernel)) (any_sub (l' := []) rfl)) (SA_upd (SA_upd (SA_upd (SA_trans (SA_refl) (SA_glu (ι := [0, 1]) hA4 eA4 (by decide +kernel)) (any_subA (l' := []) rfl)) rfl) rfl) rfl) (upd1 (upd1 (upd1 (w1) (2) (v22)) (1) (v25)) (0) (z4)) (congrArg (fun q => upd1 q (0) (z4)) (congrArg (fun q => upd1 q (1) (v25)) (congrArg (fun q => upd1 q (2) (v22)) (((show A4 1 = A 1 from (eA4 1).trans (funext (hA4 1 rfl)))).trans (ew1))))) (show inrJ (z4) by omega) (show IMP (1 ≤ ((w1)) 0 ∧ 1 ≤ ((w1)) 1 ∧ 1 ≤ ((w1)) 2) (dsF (a1) (a2) (((w1)) 0) (((w1)) 1) (((w1)) 2) = ((z4), ((upd1 (upd1 (upd1 (w1) (2) (v22)) (1) (v25)) (0) (z4))) 0, ((upd1 (upd1 (upd1 (w1) (2) (v22)) (1) (v25)) (0) (z4))) 1, ((upd1 (upd1 (upd1 (w1) (2) (v22)) (1) (v25)) (0) (z4))) 2)) by assumption))
      · exact hc37  _ _ _ _  (rk2_o (rfl) rfl rfl) (rk2_o (rfl) rfl rfl) (rk2_s) H O (SF_refl) (SA_refl)     (show ((a2) = (0)) ∨ ((a2) ≠ (0) ∧ (a1) > (3)) by omega)
  · refine Ew_of (pc' := 9) (fun _ => x_lload_n rfl rfl) ?_
    refine Ew_of (pc' := 12) (fun _ => x_ldc2 (z := 3) rfl (by decide)) ?_
    refine w_lsub rfl ?_
    refine Ew_of (pc' := 23) (fun _ => x_goto rfl rfl) ?_
    have hdd : IMP (1 ≤ ((w1)) 0) (3 < (a1) ∧ ((a1 - 3)) = (a1) - 3 ∨ (a1) ≤ 3 ∧ (qw = 1 ∧ ((a1 - 3)) = ((w1)) 0 ∨ qw = 2 ∧ ((a1 - 3)) = ((w1)) 1 ∨ qw = 3 ∧ ((a1 - 3)) = ((w1)) 2 ∨ 3 < qw ∧ ((a1 - 3)) = ((w1)) 0 - 1)) := by first | exact fun _ => .inl ⟨by omega, by omega⟩ | exact fun z => .inr ⟨by omega, LBY_x pz4_1 (by omega) hqw z hlr0⟩
    refine Ew_of (pc' := 25) (fun _ => x_lstore rfl) ?_
    refine Ew_of (pc' := 26) (fun _ => x_iload_n rfl (rk2_o (rfl) rfl rfl)) ?_
    have hc37 : ∀ (ls : rO) (σ : rS) (F_c37 : hF) (A_c37 : hA) , rlook ls 0 = some (.ref (D 0)) → rlook ls 1 = some (J (a1)) → rlook ls 4 = some (J ((a1 - 3))) → HW V189 σ D N F_c37 A_c37 → OUT (V189).length D N σE c s D N σ c s → SF [] F F_c37 → SA [] A A_c37 → (((a2) = (0)) ∨ ((a2) ≠ (0) ∧ (a1) > (3))) → Ew 189 (d + 1) 37 ls [] σ c s Q := by
     as_aux_lemma =>
      intro  ls σ F_c37 A_c37  lc37_0 lc37_1 lc37_4 H O hS_c37 hA_c37     jc37_0
      refine Ew_of (pc' := 38) (fun _ => x_lload_n rfl lc37_1) ?_
      refine Ew_of (pc' := 39) (fun _ => x_lconst (z := 1) rfl (by decide)) ?_
      refine w_ladd rfl ?_
      refine Ew_of (pc' := 44) (fun _ => x_goto rfl rfl) ?_
      refine Ew_of (pc' := 46) (fun _ => x_lstore rfl) ?_
      refine Ew_of (pc' := 48) (fun _ => x_lload rfl rk2_s) ?_
      refine Ew_of (pc' := 51) (fun _ => x_ldc2 (z := 2) rfl (by decide)) ?_
      refine w_lcmp rfl (show inrJ ((a1 + 1)) by omega) (show inrJ (2) by omega) (fun z26 gz26 gaz26 gbz26 => ?_)
      refine w_ifle (t := 67) rfl rfl (show inr (z26) by omega) (fun b27 => ?_) (fun b27 => ?_)
      · refine Ew_of (pc' := 69) (fun _ => x_lload rfl rk2_s) ?_
        refine Ew_of (pc' := 70) (fun _ => x_lconst (z := 1) rfl (by decide)) ?_
        refine w_lcmp rfl (show inrJ ((a1 + 1)) by omega) (show inrJ (1) by omega) (fun z28 gz28 gaz28 gbz28 => ?_)
        refine w_ifle (t := 86) rfl rfl (show inr (z28) by omega) (fun b29 => ?_) (fun b29 => ?_)
        · refine Ew_of (pc' := 87) (fun _ => x_aload_n rfl (rk2_o (lc37_0) rfl rfl)) ?_
          refine v_g H (o := 0) (v := .ref (D 1)) rfl rfl rfl rfl rfl (vrf (((hS_c37 0 2 rfl)).trans (pf1))) ?_
          refine Ew_of (pc' := 91) (fun _ => x_iconst rfl) ?_
          refine Ew_of (pc' := 93) (fun _ => x_lload rfl (rk2_o (lc37_4) rfl rfl)) ?_
          refine v_sJ H (o := 1) (z := (a1 - 3)) rfl rfl rfl rfl (n := n1) (en1) (show 0 ≤ 0 ∧ 0 < n1 by omega) (show inrJ ((a1 - 3)) by omega) (fun σ H O' => ?_)
          have O := OUT_trans O O'
          refine Ew_of (pc' := 96) (fun _ => x_lload rfl (rk2_o (lc37_4) rfl rfl)) ?_
          have : IMP (1 ≤ ((w1)) 0 ∧ 1 ≤ ((w1)) 1 ∧ 1 ≤ ((w1)) 2) (dsF ((a1)) ((a2)) (((w1)) 0) (((w1)) 1) (((w1)) 2) = (((a1 - 3)), ((upd1 (w1) (0) ((a1 - 3)))) 0, ((upd1 (w1) (0) ((a1 - 3)))) 1, ((upd1 (w1) (0) ((a1 - 3)))) 2)) := fun hL => by have hx := hdd hL.1; have hL1 := hL.1; have hL2 := hL.2.1; have hL3 := hL.2.2; exact dsF_i (w := qw) hqw (by simp only [upd1, n01_, n02_, n10_, n12_, n20_, n21_, eq_self, if_true, if_false]; rcases hx with ⟨a, b⟩ | ⟨a, ⟨b, c⟩ | ⟨b, c⟩ | ⟨b, c⟩ | ⟨b, c⟩⟩; (exact .inl ⟨by first | exact True.intro | omega, by first | exact True.intro | omega, by first | exact True.intro | omega, by first | exact True.intro | omega, by first | exact True.intro | omega⟩); (exact .inr (.inl ⟨by first | exact True.intro | omega, by first | exact True.intro | omega, by first | exact True.intro | omega, by first | exact True.intro | omega, by first | exact True.intro | omega, by first | exact True.intro | omega⟩)); (exact .inr (.inr (.inl ⟨by first | exact True.intro | omega, by first | exact True.intro | omega, by first | exact True.intro | omega, by first | exact True.intro | omega, by first | exact True.intro | omega, by first | exact True.intro | omega⟩))); (exact .inr (.inr (.inr (.inl ⟨by first | exact True.intro | omega, by first | exact True.intro | omega, by first | exact True.intro | omega, by first | exact True.intro | omega, by first | exact True.intro | omega, by first | exact True.intro | omega⟩)))); (exact .inr (.inr (.inr (.inr ⟨by first | exact True.intro | omega, by first | exact True.intro | omega, by first | exact True.intro | omega, by first | exact True.intro | omega, by first | exact True.intro | omega, by first | exact True.intro | omega⟩)))))
          exact w_lreturn rfl (k ((a1 - 3)) _ _ _ H O (SF_trans (SF_refl) hS_c37 (any_sub rfl)) (SA_upd (SA_trans (SA_refl) hA_c37 (any_subA rfl)) rfl) (upd1 (w1) (0) ((a1 - 3))) (congrArg (fun q => upd1 q (0) ((a1 - 3))) ((funext (hA_c37 1 rfl)).trans (ew1))) (show inrJ ((a1 - 3)) by omega) (show IMP (1 ≤ ((w1)) 0 ∧ 1 ≤ ((w1)) 1 ∧ 1 ≤ ((w1)) 2) (dsF (a1) (a2) (((w1)) 0) (((w1)) 1) (((w1)) 2) = (((a1 - 3)), ((upd1 (w1) (0) ((a1 - 3)))) 0, ((upd1 (w1) (0) ((a1 - 3)))) 1, ((upd1 (w1) (0) ((a1 - 3)))) 2)) by assumption))
        · refine Ew_of (pc' := 75) (fun _ => x_aload_n rfl (rk2_o (lc37_0) rfl rfl)) ?_
          refine v_g H (o := 0) (v := .ref (D 1)) rfl rfl rfl rfl rfl (vrf (((hS_c37 0 2 rfl)).trans (pf1))) ?_
          refine Ew_of (pc' := 79) (fun _ => x_iconst rfl) ?_
          refine Ew_of (pc' := 80) (fun _ => x_aload_n rfl (rk2_o (lc37_0) rfl rfl)) ?_
          refine v_g H (o := 0) (v := .ref (D 1)) rfl rfl rfl rfl rfl (vrf (((hS_c37 0 2 rfl)).trans (pf1))) ?_
          refine Ew_of (pc' := 84) (fun _ => x_iconst rfl) ?_
          refine v_lJ H (o := 1) rfl rfl rfl rfl (n := n1) (en1) (show 0 ≤ 0 ∧ 0 < n1 by omega) (fun v30 ev30 qv30 => ?_)
          have ev30 : (w1) (0) = v30 := (congrFun ((funext (hA_c37 1 rfl)).trans (ew1)) (0)).symm.trans ev30
          have hv0 := ev30
          try simp only [upd1, n01_, n02_, n10_, n12_, n20_, n21_, eq_self, if_true, if_false] at hv0
          refine v_sJ H (o := 1) (z := v30) rfl rfl rfl rfl (n := n1) (en1) (show 0 ≤ 1 ∧ 1 < n1 by omega) (show inrJ (v30) by omega) (fun σ H O' => ?_)
          have O := OUT_trans O O'
          refine Ew_of (pc' := 87) (fun _ => x_aload_n rfl (rk2_o (lc37_0) rfl rfl)) ?_
          refine v_g H (o := 0) (v := .ref (D 1)) rfl rfl rfl rfl rfl (vrf (((hS_c37 0 2 rfl)).trans (pf1))) ?_
          refine Ew_of (pc' := 91) (fun _ => x_iconst rfl) ?_
          refine Ew_of (pc' := 93) (fun _ => x_lload rfl (rk2_o (lc37_4) rfl rfl)) ?_
          refine v_sJ H (o := 1) (z := (a1 - 3)) rfl rfl rfl rfl (n := n1) (en1) (show 0 ≤ 0 ∧ 0 < n1 by omega) (show inrJ ((a1 - 3)) by omega) (fun σ H O' => ?_)
          have O := OUT_trans O O'
          refine Ew_of (pc' := 96) (fun _ => x_lload rfl (rk2_o (lc37_4) rfl rfl)) ?_
          have : IMP (1 ≤ ((w1)) 0 ∧ 1 ≤ ((w1)) 1 ∧ 1 ≤ ((w1)) 2) (dsF ((a1)) ((a2)) (((w1)) 0) (((w1)) 1) (((w1)) 2) = (((a1 - 3)), ((upd1 (upd1 (w1) (1) (v30)) (0) ((a1 - 3)))) 0, ((upd1 (upd1 (w1) (1) (v30)) (0) ((a1 - 3)))) 1, ((upd1 (upd1 (w1) (1) (v30)) (0) ((a1 - 3)))) 2)) := fun hL => by have hx := hdd hL.1; have hL1 := hL.1; have hL2 := hL.2.1; have hL3 := hL.2.2; exact dsF_i (w := qw) hqw (by simp only [upd1, n01_, n02_, n10_, n12_, n20_, n21_, eq_self, if_true, if_false]; rcases hx with ⟨a, b⟩ | ⟨a, ⟨b, c⟩ | ⟨b, c⟩ | ⟨b, c⟩ | ⟨b, c⟩⟩; (exact .inl ⟨by first | exact True.intro | omega, by first | exact True.intro | omega, by first | exact True.intro | omega, by first | exact True.intro | omega, by first | exact True.intro | omega⟩); (exact .inr (.inl ⟨by first | exact True.intro | omega, by first | exact True.intro | omega, by first | exact True.intro | omega, by first | exact True.intro | omega, by first | exact True.intro | omega, by first | exact True.intro | omega⟩)); (exact .inr (.inr (.inl ⟨by first | exact True.intro | omega, by first | exact True.intro | omega, by first | exact True.intro | omega, by first | exact True.intro | omega, by first | exact True.intro | omega, by first | exact True.intro | omega⟩))); (exact .inr (.inr (.inr (.inl ⟨by first | exact True.intro | omega, by first | exact True.intro | omega, by first | exact True.intro | omega, by first | exact True.intro | omega, by first | exact True.intro | omega, by first | exact True.intro | omega⟩)))); (exact .inr (.inr (.inr (.inr ⟨by first | exact True.intro | omega, by first | exact True.intro | omega, by first | exact True.intro | omega, by first | exact True.intro | omega, by first | exact True.intro | omega, by first | exact True.intro | omega⟩)))))
          exact w_lreturn rfl (k ((a1 - 3)) _ _ _ H O (SF_trans (SF_refl) hS_c37 (any_sub rfl)) (SA_upd (SA_upd (SA_trans (SA_refl) hA_c37 (any_subA rfl)) rfl) rfl) (upd1 (upd1 (w1) (1) (v30)) (0) ((a1 - 3))) (congrArg (fun q => upd1 q (0) ((a1 - 3))) (congrArg (fun q => upd1 q (1) (v30)) ((funext (hA_c37 1 rfl)).trans (ew1)))) (show inrJ ((a1 - 3)) by omega) (show IMP (1 ≤ ((w1)) 0 ∧ 1 ≤ ((w1)) 1 ∧ 1 ≤ ((w1)) 2) (dsF (a1) (a2) (((w1)) 0) (((w1)) 1) (((w1)) 2) = (((a1 - 3)), ((upd1 (upd1 (w1) (1) (v30)) (0) ((a1 - 3)))) 0, ((upd1 (upd1 (w1) (1) (v30)) (0) ((a1 - 3)))) 1, ((upd1 (upd1 (w1) (1) (v30)) (0) ((a1 - 3)))) 2)) by assumption))
      · refine Ew_of (pc' := 56) (fun _ => x_aload_n rfl (rk2_o (lc37_0) rfl rfl)) ?_
        refine v_g H (o := 0) (v := .ref (D 1)) rfl rfl rfl rfl rfl (vrf (((hS_c37 0 2 rfl)).trans (pf1))) ?_
        refine Ew_of (pc' := 60) (fun _ => x_iconst rfl) ?_
        refine Ew_of (pc' := 61) (fun _ => x_aload_n rfl (rk2_o (lc37_0) rfl rfl)) ?_
        refine v_g H (o := 0) (v := .ref (D 1)) rfl rfl rfl rfl rfl (vrf (((hS_c37 0 2 rfl)).trans (pf1))) ?_
        refine Ew_of (pc' := 65) (fun _ => x_iconst rfl) ?_
        refine v_lJ H (o := 1) rfl rfl rfl rfl (n := n1) (en1) (show 0 ≤ 1 ∧ 1 < n1 by omega) (fun v31 ev31 qv31 => ?_)
        have ev31 : (w1) (1) = v31 := (congrFun ((funext (hA_c37 1 rfl)).trans (ew1)) (1)).symm.trans ev31
        have hv1 := ev31
        refine v_sJ H (o := 1) (z := v31) rfl rfl rfl rfl (n := n1) (en1) (show 0 ≤ 2 ∧ 2 < n1 by omega) (show inrJ (v31) by omega) (fun σ H O' => ?_)
        have O := OUT_trans O O'
        refine Ew_of (pc' := 69) (fun _ => x_lload rfl rk2_s) ?_
        refine Ew_of (pc' := 70) (fun _ => x_lconst (z := 1) rfl (by decide)) ?_
        refine w_lcmp rfl (show inrJ ((a1 + 1)) by omega) (show inrJ (1) by omega) (fun z32 gz32 gaz32 gbz32 => ?_)
        refine w_ifle (t := 86) rfl rfl (show inr (z32) by omega) (fun b33 => ?_) (fun b33 => ?_)
        · refine Ew_of (pc' := 87) (fun _ => x_aload_n rfl (rk2_o (lc37_0) rfl rfl)) ?_
          refine v_g H (o := 0) (v := .ref (D 1)) rfl rfl rfl rfl rfl (vrf (((hS_c37 0 2 rfl)).trans (pf1))) ?_
          refine Ew_of (pc' := 91) (fun _ => x_iconst rfl) ?_
          refine Ew_of (pc' := 93) (fun _ => x_lload rfl (rk2_o (lc37_4) rfl rfl)) ?_
          refine v_sJ H (o := 1) (z := (a1 - 3)) rfl rfl rfl rfl (n := n1) (en1) (show 0 ≤ 0 ∧ 0 < n1 by omega) (show inrJ ((a1 - 3)) by omega) (fun σ H O' => ?_)
          have O := OUT_trans O O'
          refine Ew_of (pc' := 96) (fun _ => x_lload rfl (rk2_o (lc37_4) rfl rfl)) ?_
          have : IMP (1 ≤ ((w1)) 0 ∧ 1 ≤ ((w1)) 1 ∧ 1 ≤ ((w1)) 2) (dsF ((a1)) ((a2)) (((w1)) 0) (((w1)) 1) (((w1)) 2) = (((a1 - 3)), ((upd1 (upd1 (w1) (2) (v31)) (0) ((a1 - 3)))) 0, ((upd1 (upd1 (w1) (2) (v31)) (0) ((a1 - 3)))) 1, ((upd1 (upd1 (w1) (2) (v31)) (0) ((a1 - 3)))) 2)) := fun hL => by have hx := hdd hL.1; have hL1 := hL.1; have hL2 := hL.2.1; have hL3 := hL.2.2; exact dsF_i (w := qw) hqw (by simp only [upd1, n01_, n02_, n10_, n12_, n20_, n21_, eq_self, if_true, if_false]; rcases hx with ⟨a, b⟩ | ⟨a, ⟨b, c⟩ | ⟨b, c⟩ | ⟨b, c⟩ | ⟨b, c⟩⟩; (exact .inl ⟨by first | exact True.intro | omega, by first | exact True.intro | omega, by first | exact True.intro | omega, by first | exact True.intro | omega, by first | exact True.intro | omega⟩); (exact .inr (.inl ⟨by first | exact True.intro | omega, by first | exact True.intro | omega, by first | exact True.intro | omega, by first | exact True.intro | omega, by first | exact True.intro | omega, by first | exact True.intro | omega⟩)); (exact .inr (.inr (.inl ⟨by first | exact True.intro | omega, by first | exact True.intro | omega, by first | exact True.intro | omega, by first | exact True.intro | omega, by first | exact True.intro | omega, by first | exact True.intro | omega⟩))); (exact .inr (.inr (.inr (.inl ⟨by first | exact True.intro | omega, by first | exact True.intro | omega, by first | exact True.intro | omega, by first | exact True.intro | omega, by first | exact True.intro | omega, by first | exact True.intro | omega⟩)))); (exact .inr (.inr (.inr (.inr ⟨by first | exact True.intro | omega, by first | exact True.intro | omega, by first | exact True.intro | omega, by first | exact True.intro | omega, by first | exact True.intro | omega, by first | exact True.intro | omega⟩)))))
          exact w_lreturn rfl (k ((a1 - 3)) _ _ _ H O (SF_trans (SF_refl) hS_c37 (any_sub rfl)) (SA_upd (SA_upd (SA_trans (SA_refl) hA_c37 (any_subA rfl)) rfl) rfl) (upd1 (upd1 (w1) (2) (v31)) (0) ((a1 - 3))) (congrArg (fun q => upd1 q (0) ((a1 - 3))) (congrArg (fun q => upd1 q (2) (v31)) ((funext (hA_c37 1 rfl)).trans (ew1)))) (show inrJ ((a1 - 3)) by omega) (show IMP (1 ≤ ((w1)) 0 ∧ 1 ≤ ((w1)) 1 ∧ 1 ≤ ((w1)) 2) (dsF (a1) (a2) (((w1)) 0) (((w1)) 1) (((w1)) 2) = (((a1 - 3)), ((upd1 (upd1 (w1) (2) (v31)) (0) ((a1 - 3)))) 0, ((upd1 (upd1 (w1) (2) (v31)) (0) ((a1 - 3)))) 1, ((upd1 (upd1 (w1) (2) (v31)) (0) ((a1 - 3)))) 2)) by assumption))
        · refine Ew_of (pc' := 75) (fun _ => x_aload_n rfl (rk2_o (lc37_0) rfl rfl)) ?_
          refine v_g H (o := 0) (v := .ref (D 1)) rfl rfl rfl rfl rfl (vrf (((hS_c37 0 2 rfl)).trans (pf1))) ?_
          refine Ew_of (pc' := 79) (fun _ => x_iconst rfl) ?_
          refine Ew_of (pc' := 80) (fun _ => x_aload_n rfl (rk2_o (lc37_0) rfl rfl)) ?_
          refine v_g H (o := 0) (v := .ref (D 1)) rfl rfl rfl rfl rfl (vrf (((hS_c37 0 2 rfl)).trans (pf1))) ?_
          refine Ew_of (pc' := 84) (fun _ => x_iconst rfl) ?_
          refine v_lJ H (o := 1) rfl rfl rfl rfl (n := n1) (en1) (show 0 ≤ 0 ∧ 0 < n1 by omega) (fun v34 ev34 qv34 => ?_)
          have ev34 : (upd1 (w1) (2) (v31)) (0) = v34 := (congrFun (congrArg (fun q => upd1 q (2) (v31)) ((funext (hA_c37 1 rfl)).trans (ew1))) (0)).symm.trans ev34
          have hv0 := ev34
          try simp only [upd1, n01_, n02_, n10_, n12_, n20_, n21_, eq_self, if_true, if_false] at hv0
          refine v_sJ H (o := 1) (z := v34) rfl rfl rfl rfl (n := n1) (en1) (show 0 ≤ 1 ∧ 1 < n1 by omega) (show inrJ (v34) by omega) (fun σ H O' => ?_)
          have O := OUT_trans O O'
          refine Ew_of (pc' := 87) (fun _ => x_aload_n rfl (rk2_o (lc37_0) rfl rfl)) ?_
          refine v_g H (o := 0) (v := .ref (D 1)) rfl rfl rfl rfl rfl (vrf (((hS_c37 0 2 rfl)).trans (pf1))) ?_
          refine Ew_of (pc' := 91) (fun _ => x_iconst rfl) ?_
          refine Ew_of (pc' := 93) (fun _ => x_lload rfl (rk2_o (lc37_4) rfl rfl)) ?_
          refine v_sJ H (o := 1) (z := (a1 - 3)) rfl rfl rfl rfl (n := n1) (en1) (show 0 ≤ 0 ∧ 0 < n1 by omega) (show inrJ ((a1 - 3)) by omega) (fun σ H O' => ?_)
          have O := OUT_trans O O'
          refine Ew_of (pc' := 96) (fun _ => x_lload rfl (rk2_o (lc37_4) rfl rfl)) ?_
          have : IMP (1 ≤ ((w1)) 0 ∧ 1 ≤ ((w1)) 1 ∧ 1 ≤ ((w1)) 2) (dsF ((a1)) ((a2)) (((w1)) 0) (((w1)) 1) (((w1)) 2) = (((a1 - 3)), ((upd1 (upd1 (upd1 (w1) (2) (v31)) (1) (v34)) (0) ((a1 - 3)))) 0, ((upd1 (upd1 (upd1 (w1) (2) (v31)) (1) (v34)) (0) ((a1 - 3)))) 1, ((upd1 (upd1 (upd1 (w1) (2) (v31)) (1) (v34)) (0) ((a1 - 3)))) 2)) := fun hL => by have hx := hdd hL.1; have hL1 := hL.1; have hL2 := hL.2.1; have hL3 := hL.2.2; exact dsF_i (w := qw) hqw (by simp only [upd1, n01_, n02_, n10_, n12_, n20_, n21_, eq_self, if_true, if_false]; rcases hx with ⟨a, b⟩ | ⟨a, ⟨b, c⟩ | ⟨b, c⟩ | ⟨b, c⟩ | ⟨b, c⟩⟩; (exact .inl ⟨by first | exact True.intro | omega, by first | exact True.intro | omega, by first | exact True.intro | omega, by first | exact True.intro | omega, by first | exact True.intro | omega⟩); (exact .inr (.inl ⟨by first | exact True.intro | omega, by first | exact True.intro | omega, by first | exact True.intro | omega, by first | exact True.intro | omega, by first | exact True.intro | omega, by first | exact True.intro | omega⟩)); (exact .inr (.inr (.inl ⟨by first | exact True.intro | omega, by first | exact True.intro | omega, by first | exact True.intro | omega, by first | exact True.intro | omega, by first | exact True.intro | omega, by first | exact True.intro | omega⟩))); (exact .inr (.inr (.inr (.inl ⟨by first | exact True.intro | omega, by first | exact True.intro | omega, by first | exact True.intro | omega, by first | exact True.intro | omega, by first | exact True.intro | omega, by first | exact True.intro | omega⟩)))); (exact .inr (.inr (.inr (.inr ⟨by first | exact True.intro | omega, by first | exact True.intro | omega, by first | exact True.intro | omega, by first | exact True.intro | omega, by first | exact True.intro | omega, by first | exact True.intro | omega⟩)))))
          exact w_lreturn rfl (k ((a1 - 3)) _ _ _ H O (SF_trans (SF_refl) hS_c37 (any_sub rfl)) (SA_upd (SA_upd (SA_upd (SA_trans (SA_refl) hA_c37 (any_subA rfl)) rfl) rfl) rfl) (upd1 (upd1 (upd1 (w1) (2) (v31)) (1) (v34)) (0) ((a1 - 3))) (congrArg (fun q => upd1 q (0) ((a1 - 3))) (congrArg (fun q => upd1 q (1) (v34)) (congrArg (fun q => upd1 q (2) (v31)) ((funext (hA_c37 1 rfl)).trans (ew1))))) (show inrJ ((a1 - 3)) by omega) (show IMP (1 ≤ ((w1)) 0 ∧ 1 ≤ ((w1)) 1 ∧ 1 ≤ ((w1)) 2) (dsF (a1) (a2) (((w1)) 0) (((w1)) 1) (((w1)) 2) = (((a1 - 3)), ((upd1 (upd1 (upd1 (w1) (2) (v31)) (1) (v34)) (0) ((a1 - 3)))) 0, ((upd1 (upd1 (upd1 (w1) (2) (v31)) (1) (v34)) (0) ((a1 - 3)))) 1, ((upd1 (upd1 (upd1 (w1) (2) (v31)) (1) (v34)) (0) ((a1 - 3)))) 2)) by assumption))
    refine w_ifeq (t := 37) rfl rfl (show inr (a2) by omega) (fun b35 => ?_) (fun b35 => ?_)
    · exact hc37  _ _ _ _  (rk2_o (rfl) rfl rfl) (rk2_o (rfl) rfl rfl) (rk2_s) H O (SF_refl) (SA_refl)     (show ((a2) = (0)) ∨ ((a2) ≠ (0) ∧ (a1) > (3)) by omega)
    · refine Ew_of (pc' := 30) (fun _ => x_lload_n rfl (rk2_o (rfl) rfl rfl)) ?_
      refine Ew_of (pc' := 33) (fun _ => x_ldc2 (z := 3) rfl (by decide)) ?_
      refine w_lcmp rfl (show inrJ (a1) by omega) (show inrJ (3) by omega) (fun z36 gz36 gaz36 gbz36 => ?_)
      refine w_ifle (t := 43) rfl rfl (show inr (z36) by omega) (fun b37 => ?_) (fun b37 => ?_)
      · refine Ew_of (pc' := 44) (fun _ => x_lload_n rfl (rk2_o (rfl) rfl rfl)) ?_
        refine Ew_of (pc' := 46) (fun _ => x_lstore rfl) ?_
        refine Ew_of (pc' := 48) (fun _ => x_lload rfl rk2_s) ?_
        refine Ew_of (pc' := 51) (fun _ => x_ldc2 (z := 2) rfl (by decide)) ?_
        refine w_lcmp rfl (show inrJ (a1) by omega) (show inrJ (2) by omega) (fun z38 gz38 gaz38 gbz38 => ?_)
        refine w_ifle (t := 67) rfl rfl (show inr (z38) by omega) (fun b39 => ?_) (fun b39 => ?_)
        · refine Ew_of (pc' := 69) (fun _ => x_lload rfl rk2_s) ?_
          refine Ew_of (pc' := 70) (fun _ => x_lconst (z := 1) rfl (by decide)) ?_
          refine w_lcmp rfl (show inrJ (a1) by omega) (show inrJ (1) by omega) (fun z40 gz40 gaz40 gbz40 => ?_)
          refine w_ifle (t := 86) rfl rfl (show inr (z40) by omega) (fun b41 => ?_) (fun b41 => ?_)
          · refine Ew_of (pc' := 87) (fun _ => x_aload_n rfl (rk2_o (rk2_o (rfl) rfl rfl) rfl rfl)) ?_
            refine v_g H (o := 0) (v := .ref (D 1)) rfl rfl rfl rfl rfl (vrf (pf1)) ?_
            refine Ew_of (pc' := 91) (fun _ => x_iconst rfl) ?_
            refine Ew_of (pc' := 93) (fun _ => x_lload rfl (rk2_o (rk2_s) rfl rfl)) ?_
            refine v_sJ H (o := 1) (z := (a1 - 3)) rfl rfl rfl rfl (n := n1) (en1) (show 0 ≤ 0 ∧ 0 < n1 by omega) (show inrJ ((a1 - 3)) by omega) (fun σ H O' => ?_)
            have O := OUT_trans O O'
            refine Ew_of (pc' := 96) (fun _ => x_lload rfl (rk2_o (rk2_s) rfl rfl)) ?_
            have : IMP (1 ≤ ((w1)) 0 ∧ 1 ≤ ((w1)) 1 ∧ 1 ≤ ((w1)) 2) (dsF ((a1)) ((a2)) (((w1)) 0) (((w1)) 1) (((w1)) 2) = (((a1 - 3)), ((upd1 (w1) (0) ((a1 - 3)))) 0, ((upd1 (w1) (0) ((a1 - 3)))) 1, ((upd1 (w1) (0) ((a1 - 3)))) 2)) := fun hL => by have hx := hdd hL.1; have hL1 := hL.1; have hL2 := hL.2.1; have hL3 := hL.2.2; exact dsF_i (w := qw) hqw (by simp only [upd1, n01_, n02_, n10_, n12_, n20_, n21_, eq_self, if_true, if_false]; rcases hx with ⟨a, b⟩ | ⟨a, ⟨b, c⟩ | ⟨b, c⟩ | ⟨b, c⟩ | ⟨b, c⟩⟩; (exact .inl ⟨by first | exact True.intro | omega, by first | exact True.intro | omega, by first | exact True.intro | omega, by first | exact True.intro | omega, by first | exact True.intro | omega⟩); (exact .inr (.inl ⟨by first | exact True.intro | omega, by first | exact True.intro | omega, by first | exact True.intro | omega, by first | exact True.intro | omega, by first | exact True.intro | omega, by first | exact True.intro | omega⟩)); (exact .inr (.inr (.inl ⟨by first | exact True.intro | omega, by first | exact True.intro | omega, by first | exact True.intro | omega, by first | exact True.intro | omega, by first | exact True.intro | omega, by first | exact True.intro | omega⟩))); (exact .inr (.inr (.inr (.inl ⟨by first | exact True.intro | omega, by first | exact True.intro | omega, by first | exact True.intro | omega, by first | exact True.intro | omega, by first | exact True.intro | omega, by first | exact True.intro | omega⟩)))); (exact .inr (.inr (.inr (.inr ⟨by first | exact True.intro | omega, by first | exact True.intro | omega, by first | exact True.intro | omega, by first | exact True.intro | omega, by first | exact True.intro | omega, by first | exact True.intro | omega⟩)))))
            exact w_lreturn rfl (k ((a1 - 3)) _ _ _ H O (SF_refl) (SA_upd (SA_refl) rfl) (upd1 (w1) (0) ((a1 - 3))) (congrArg (fun q => upd1 q (0) ((a1 - 3))) (ew1)) (show inrJ ((a1 - 3)) by omega) (show IMP (1 ≤ ((w1)) 0 ∧ 1 ≤ ((w1)) 1 ∧ 1 ≤ ((w1)) 2) (dsF (a1) (a2) (((w1)) 0) (((w1)) 1) (((w1)) 2) = (((a1 - 3)), ((upd1 (w1) (0) ((a1 - 3)))) 0, ((upd1 (w1) (0) ((a1 - 3)))) 1, ((upd1 (w1) (0) ((a1 - 3)))) 2)) by assumption))
          · refine Ew_of (pc' := 75) (fun _ => x_aload_n rfl (rk2_o (rk2_o (rfl) rfl rfl) rfl rfl)) ?_
            refine v_g H (o := 0) (v := .ref (D 1)) rfl rfl rfl rfl rfl (vrf (pf1)) ?_
            refine Ew_of (pc' := 79) (fun _ => x_iconst rfl) ?_
            refine Ew_of (pc' := 80) (fun _ => x_aload_n rfl (rk2_o (rk2_o (rfl) rfl rfl) rfl rfl)) ?_
            refine v_g H (o := 0) (v := .ref (D 1)) rfl rfl rfl rfl rfl (vrf (pf1)) ?_
            refine Ew_of (pc' := 84) (fun _ => x_iconst rfl) ?_
            refine v_lJ H (o := 1) rfl rfl rfl rfl (n := n1) (en1) (show 0 ≤ 0 ∧ 0 < n1 by omega) (fun v42 ev42 qv42 => ?_)
            have ev42 : (w1) (0) = v42 := (congrFun (ew1) (0)).symm.trans ev42
            have hv0 := ev42
            try simp only [upd1, n01_, n02_, n10_, n12_, n20_, n21_, eq_self, if_true, if_false] at hv0
            refine v_sJ H (o := 1) (z := v42) rfl rfl rfl rfl (n := n1) (en1) (show 0 ≤ 1 ∧ 1 < n1 by omega) (show inrJ (v42) by omega) (fun σ H O' => ?_)
            have O := OUT_trans O O'
            refine Ew_of (pc' := 87) (fun _ => x_aload_n rfl (rk2_o (rk2_o (rfl) rfl rfl) rfl rfl)) ?_
            refine v_g H (o := 0) (v := .ref (D 1)) rfl rfl rfl rfl rfl (vrf (pf1)) ?_
            refine Ew_of (pc' := 91) (fun _ => x_iconst rfl) ?_
            refine Ew_of (pc' := 93) (fun _ => x_lload rfl (rk2_o (rk2_s) rfl rfl)) ?_
            refine v_sJ H (o := 1) (z := (a1 - 3)) rfl rfl rfl rfl (n := n1) (en1) (show 0 ≤ 0 ∧ 0 < n1 by omega) (show inrJ ((a1 - 3)) by omega) (fun σ H O' => ?_)
            have O := OUT_trans O O'
            refine Ew_of (pc' := 96) (fun _ => x_lload rfl (rk2_o (rk2_s) rfl rfl)) ?_
            have : IMP (1 ≤ ((w1)) 0 ∧ 1 ≤ ((w1)) 1 ∧ 1 ≤ ((w1)) 2) (dsF ((a1)) ((a2)) (((w1)) 0) (((w1)) 1) (((w1)) 2) = (((a1 - 3)), ((upd1 (upd1 (w1) (1) (v42)) (0) ((a1 - 3)))) 0, ((upd1 (upd1 (w1) (1) (v42)) (0) ((a1 - 3)))) 1, ((upd1 (upd1 (w1) (1) (v42)) (0) ((a1 - 3)))) 2)) := fun hL => by have hx := hdd hL.1; have hL1 := hL.1; have hL2 := hL.2.1; have hL3 := hL.2.2; exact dsF_i (w := qw) hqw (by simp only [upd1, n01_, n02_, n10_, n12_, n20_, n21_, eq_self, if_true, if_false]; rcases hx with ⟨a, b⟩ | ⟨a, ⟨b, c⟩ | ⟨b, c⟩ | ⟨b, c⟩ | ⟨b, c⟩⟩; (exact .inl ⟨by first | exact True.intro | omega, by first | exact True.intro | omega, by first | exact True.intro | omega, by first | exact True.intro | omega, by first | exact True.intro | omega⟩); (exact .inr (.inl ⟨by first | exact True.intro | omega, by first | exact True.intro | omega, by first | exact True.intro | omega, by first | exact True.intro | omega, by first | exact True.intro | omega, by first | exact True.intro | omega⟩)); (exact .inr (.inr (.inl ⟨by first | exact True.intro | omega, by first | exact True.intro | omega, by first | exact True.intro | omega, by first | exact True.intro | omega, by first | exact True.intro | omega, by first | exact True.intro | omega⟩))); (exact .inr (.inr (.inr (.inl ⟨by first | exact True.intro | omega, by first | exact True.intro | omega, by first | exact True.intro | omega, by first | exact True.intro | omega, by first | exact True.intro | omega, by first | exact True.intro | omega⟩)))); (exact .inr (.inr (.inr (.inr ⟨by first | exact True.intro | omega, by first | exact True.intro | omega, by first | exact True.intro | omega, by first | exact True.intro | omega, by first | exact True.intro | omega, by first | exact True.intro | omega⟩)))))
            exact w_lreturn rfl (k ((a1 - 3)) _ _ _ H O (SF_refl) (SA_upd (SA_upd (SA_refl) rfl) rfl) (upd1 (upd1 (w1) (1) (v42)) (0) ((a1 - 3))) (congrArg (fun q => upd1 q (0) ((a1 - 3))) (congrArg (fun q => upd1 q (1) (v42)) (ew1))) (show inrJ ((a1 - 3)) by omega) (show IMP (1 ≤ ((w1)) 0 ∧ 1 ≤ ((w1)) 1 ∧ 1 ≤ ((w1)) 2) (dsF (a1) (a2) (((w1)) 0) (((w1)) 1) (((w1)) 2) = (((a1 - 3)), ((upd1 (upd1 (w1) (1) (v42)) (0) ((a1 - 3)))) 0, ((upd1 (upd1 (w1) (1) (v42)) (0) ((a1 - 3)))) 1, ((upd1 (upd1 (w1) (1) (v42)) (0) ((a1 - 3)))) 2)) by assumption))
        · refine Ew_of (pc' := 56) (fun _ => x_aload_n rfl (rk2_o (rk2_o (rfl) rfl rfl) rfl rfl)) ?_
          refine v_g H (o := 0) (v := .ref (D 1)) rfl rfl rfl rfl rfl (vrf (pf1)) ?_
          refine Ew_of (pc' := 60) (fun _ => x_iconst rfl) ?_
          refine Ew_of (pc' := 61) (fun _ => x_aload_n rfl (rk2_o (rk2_o (rfl) rfl rfl) rfl rfl)) ?_
          refine v_g H (o := 0) (v := .ref (D 1)) rfl rfl rfl rfl rfl (vrf (pf1)) ?_
          refine Ew_of (pc' := 65) (fun _ => x_iconst rfl) ?_
          refine v_lJ H (o := 1) rfl rfl rfl rfl (n := n1) (en1) (show 0 ≤ 1 ∧ 1 < n1 by omega) (fun v43 ev43 qv43 => ?_)
          have ev43 : (w1) (1) = v43 := (congrFun (ew1) (1)).symm.trans ev43
          have hv1 := ev43
          refine v_sJ H (o := 1) (z := v43) rfl rfl rfl rfl (n := n1) (en1) (show 0 ≤ 2 ∧ 2 < n1 by omega) (show inrJ (v43) by omega) (fun σ H O' => ?_)
          have O := OUT_trans O O'
          refine Ew_of (pc' := 69) (fun _ => x_lload rfl rk2_s) ?_
          refine Ew_of (pc' := 70) (fun _ => x_lconst (z := 1) rfl (by decide)) ?_
          refine w_lcmp rfl (show inrJ (a1) by omega) (show inrJ (1) by omega) (fun z44 gz44 gaz44 gbz44 => ?_)
          refine w_ifle (t := 86) rfl rfl (show inr (z44) by omega) (fun b45 => ?_) (fun b45 => ?_)
          · refine Ew_of (pc' := 87) (fun _ => x_aload_n rfl (rk2_o (rk2_o (rfl) rfl rfl) rfl rfl)) ?_
            refine v_g H (o := 0) (v := .ref (D 1)) rfl rfl rfl rfl rfl (vrf (pf1)) ?_
            refine Ew_of (pc' := 91) (fun _ => x_iconst rfl) ?_
            refine Ew_of (pc' := 93) (fun _ => x_lload rfl (rk2_o (rk2_s) rfl rfl)) ?_
            refine v_sJ H (o := 1) (z := (a1 - 3)) rfl rfl rfl rfl (n := n1) (en1) (show 0 ≤ 0 ∧ 0 < n1 by omega) (show inrJ ((a1 - 3)) by omega) (fun σ H O' => ?_)
            have O := OUT_trans O O'
            refine Ew_of (pc' := 96) (fun _ => x_lload rfl (rk2_o (rk2_s) rfl rfl)) ?_
            have : IMP (1 ≤ ((w1)) 0 ∧ 1 ≤ ((w1)) 1 ∧ 1 ≤ ((w1)) 2) (dsF ((a1)) ((a2)) (((w1)) 0) (((w1)) 1) (((w1)) 2) = (((a1 - 3)), ((upd1 (upd1 (w1) (2) (v43)) (0) ((a1 - 3)))) 0, ((upd1 (upd1 (w1) (2) (v43)) (0) ((a1 - 3)))) 1, ((upd1 (upd1 (w1) (2) (v43)) (0) ((a1 - 3)))) 2)) := fun hL => by have hx := hdd hL.1; have hL1 := hL.1; have hL2 := hL.2.1; have hL3 := hL.2.2; exact dsF_i (w := qw) hqw (by simp only [upd1, n01_, n02_, n10_, n12_, n20_, n21_, eq_self, if_true, if_false]; rcases hx with ⟨a, b⟩ | ⟨a, ⟨b, c⟩ | ⟨b, c⟩ | ⟨b, c⟩ | ⟨b, c⟩⟩; (exact .inl ⟨by first | exact True.intro | omega, by first | exact True.intro | omega, by first | exact True.intro | omega, by first | exact True.intro | omega, by first | exact True.intro | omega⟩); (exact .inr (.inl ⟨by first | exact True.intro | omega, by first | exact True.intro | omega, by first | exact True.intro | omega, by first | exact True.intro | omega, by first | exact True.intro | omega, by first | exact True.intro | omega⟩)); (exact .inr (.inr (.inl ⟨by first | exact True.intro | omega, by first | exact True.intro | omega, by first | exact True.intro | omega, by first | exact True.intro | omega, by first | exact True.intro | omega, by first | exact True.intro | omega⟩))); (exact .inr (.inr (.inr (.inl ⟨by first | exact True.intro | omega, by first | exact True.intro | omega, by first | exact True.intro | omega, by first | exact True.intro | omega, by first | exact True.intro | omega, by first | exact True.intro | omega⟩)))); (exact .inr (.inr (.inr (.inr ⟨by first | exact True.intro | omega, by first | exact True.intro | omega, by first | exact True.intro | omega, by first | exact True.intro | omega, by first | exact True.intro | omega, by first | exact True.intro | omega⟩)))))
            exact w_lreturn rfl (k ((a1 - 3)) _ _ _ H O (SF_refl) (SA_upd (SA_upd (SA_refl) rfl) rfl) (upd1 (upd1 (w1) (2) (v43)) (0) ((a1 - 3))) (congrArg (fun q => upd1 q (0) ((a1 - 3))) (congrArg (fun q => upd1 q (2) (v43)) (ew1))) (show inrJ ((a1 - 3)) by omega) (show IMP (1 ≤ ((w1)) 0 ∧ 1 ≤ ((w1)) 1 ∧ 1 ≤ ((w1)) 2) (dsF (a1) (a2) (((w1)) 0) (((w1)) 1) (((w1)) 2) = (((a1 - 3)), ((upd1 (upd1 (w1) (2) (v43)) (0) ((a1 - 3)))) 0, ((upd1 (upd1 (w1) (2) (v43)) (0) ((a1 - 3)))) 1, ((upd1 (upd1 (w1) (2) (v43)) (0) ((a1 - 3)))) 2)) by assumption))
          · refine Ew_of (pc' := 75) (fun _ => x_aload_n rfl (rk2_o (rk2_o (rfl) rfl rfl) rfl rfl)) ?_
            refine v_g H (o := 0) (v := .ref (D 1)) rfl rfl rfl rfl rfl (vrf (pf1)) ?_
            refine Ew_of (pc' := 79) (fun _ => x_iconst rfl) ?_
            refine Ew_of (pc' := 80) (fun _ => x_aload_n rfl (rk2_o (rk2_o (rfl) rfl rfl) rfl rfl)) ?_
            refine v_g H (o := 0) (v := .ref (D 1)) rfl rfl rfl rfl rfl (vrf (pf1)) ?_
            refine Ew_of (pc' := 84) (fun _ => x_iconst rfl) ?_
            refine v_lJ H (o := 1) rfl rfl rfl rfl (n := n1) (en1) (show 0 ≤ 0 ∧ 0 < n1 by omega) (fun v46 ev46 qv46 => ?_)
            have ev46 : (upd1 (w1) (2) (v43)) (0) = v46 := (congrFun (congrArg (fun q => upd1 q (2) (v43)) (ew1)) (0)).symm.trans ev46
            have hv0 := ev46
            try simp only [upd1, n01_, n02_, n10_, n12_, n20_, n21_, eq_self, if_true, if_false] at hv0
            refine v_sJ H (o := 1) (z := v46) rfl rfl rfl rfl (n := n1) (en1) (show 0 ≤ 1 ∧ 1 < n1 by omega) (show inrJ (v46) by omega) (fun σ H O' => ?_)
            have O := OUT_trans O O'
            refine Ew_of (pc' := 87) (fun _ => x_aload_n rfl (rk2_o (rk2_o (rfl) rfl rfl) rfl rfl)) ?_
            refine v_g H (o := 0) (v := .ref (D 1)) rfl rfl rfl rfl rfl (vrf (pf1)) ?_
            refine Ew_of (pc' := 91) (fun _ => x_iconst rfl) ?_
            refine Ew_of (pc' := 93) (fun _ => x_lload rfl (rk2_o (rk2_s) rfl rfl)) ?_
            refine v_sJ H (o := 1) (z := (a1 - 3)) rfl rfl rfl rfl (n := n1) (en1) (show 0 ≤ 0 ∧ 0 < n1 by omega) (show inrJ ((a1 - 3)) by omega) (fun σ H O' => ?_)
            have O := OUT_trans O O'
            refine Ew_of (pc' := 96) (fun _ => x_lload rfl (rk2_o (rk2_s) rfl rfl)) ?_
            have : IMP (1 ≤ ((w1)) 0 ∧ 1 ≤ ((w1)) 1 ∧ 1 ≤ ((w1)) 2) (dsF ((a1)) ((a2)) (((w1)) 0) (((w1)) 1) (((w1)) 2) = (((a1 - 3)), ((upd1 (upd1 (upd1 (w1) (2) (v43)) (1) (v46)) (0) ((a1 - 3)))) 0, ((upd1 (upd1 (upd1 (w1) (2) (v43)) (1) (v46)) (0) ((a1 - 3)))) 1, ((upd1 (upd1 (upd1 (w1) (2) (v43)) (1) (v46)) (0) ((a1 - 3)))) 2)) := fun hL => by have hx := hdd hL.1; have hL1 := hL.1; have hL2 := hL.2.1; have hL3 := hL.2.2; exact dsF_i (w := qw) hqw (by simp only [upd1, n01_, n02_, n10_, n12_, n20_, n21_, eq_self, if_true, if_false]; rcases hx with ⟨a, b⟩ | ⟨a, ⟨b, c⟩ | ⟨b, c⟩ | ⟨b, c⟩ | ⟨b, c⟩⟩; (exact .inl ⟨by first | exact True.intro | omega, by first | exact True.intro | omega, by first | exact True.intro | omega, by first | exact True.intro | omega, by first | exact True.intro | omega⟩); (exact .inr (.inl ⟨by first | exact True.intro | omega, by first | exact True.intro | omega, by first | exact True.intro | omega, by first | exact True.intro | omega, by first | exact True.intro | omega, by first | exact True.intro | omega⟩)); (exact .inr (.inr (.inl ⟨by first | exact True.intro | omega, by first | exact True.intro | omega, by first | exact True.intro | omega, by first | exact True.intro | omega, by first | exact True.intro | omega, by first | exact True.intro | omega⟩))); (exact .inr (.inr (.inr (.inl ⟨by first | exact True.intro | omega, by first | exact True.intro | omega, by first | exact True.intro | omega, by first | exact True.intro | omega, by first | exact True.intro | omega, by first | exact True.intro | omega⟩)))); (exact .inr (.inr (.inr (.inr ⟨by first | exact True.intro | omega, by first | exact True.intro | omega, by first | exact True.intro | omega, by first | exact True.intro | omega, by first | exact True.intro | omega, by first | exact True.intro | omega⟩)))))
            exact w_lreturn rfl (k ((a1 - 3)) _ _ _ H O (SF_refl) (SA_upd (SA_upd (SA_upd (SA_refl) rfl) rfl) rfl) (upd1 (upd1 (upd1 (w1) (2) (v43)) (1) (v46)) (0) ((a1 - 3))) (congrArg (fun q => upd1 q (0) ((a1 - 3))) (congrArg (fun q => upd1 q (1) (v46)) (congrArg (fun q => upd1 q (2) (v43)) (ew1)))) (show inrJ ((a1 - 3)) by omega) (show IMP (1 ≤ ((w1)) 0 ∧ 1 ≤ ((w1)) 1 ∧ 1 ≤ ((w1)) 2) (dsF (a1) (a2) (((w1)) 0) (((w1)) 1) (((w1)) 2) = (((a1 - 3)), ((upd1 (upd1 (upd1 (w1) (2) (v43)) (1) (v46)) (0) ((a1 - 3)))) 0, ((upd1 (upd1 (upd1 (w1) (2) (v43)) (1) (v46)) (0) ((a1 - 3)))) 1, ((upd1 (upd1 (upd1 (w1) (2) (v43)) (1) (v46)) (0) ((a1 - 3)))) 2)) by assumption))
      · exact hc37  _ _ _ _  (rk2_o (rfl) rfl rfl) (rk2_o (rfl) rfl rfl) (rk2_s) H O (SF_refl) (SA_refl)     (show ((a2) = (0)) ∨ ((a2) ≠ (0) ∧ (a1) > (3)) by omega)
abbrev V190 : vV := [(0, 9, [(4, 0), (4, 0), (4, 0)]), (1, 2, [])]
/-- Stand.leastFor: this, this.latest -/
theorem C190 {σE : rS} {D N : Nat → Nat} {F : hF} {A : hA} {d c s : Nat} {Q : wQ} (H : HW V190 σE D N F A) {a1 a2 : Int} (pf1 : F 0 2 = (D 1 : Int)) (n1 : Int) (en1 : (N 1 : Int) = n1) (w1 : Int → Int) (ew1 : A 1 = w1) (h0 : inr (a1)) (h1 : inr (a2)) (h2 : 1 ≤ (a1) ∧ (a1) ≤ 16384) (h3 : (n1) = 3) (k : ∀ (z : Int) (σ : rS) (F' : hF) (A' : hA), HW V190 σ D N F' A' → OUT (V190).length D N σE c s D N σ c s → SF [] F F' → SA [] A A' → (inr (z)) → (1 ≤ (z) ∧ (z) ≤ (a1) + 3) → (IMP (1 ≤ ((w1)) 0) ((z) = nuG (((w1)) 0) (((w1)) 1) (((w1)) 2) ((a1)) ((a2)) (1))) → Q (some (I z)) σ c s) : Ew 190 (d + 1) 0 (rargs 0 [.ref (D 0), I a1, I a2]) [] σE c s Q := by
  have O := OUT_refl (n := (V190).length) (D := D) (N := N) (σ := σE) (c := c) (s := s)
  have HE := H
  have r1 : (0 : Int) ≤ n1 ∧ n1 ≤ 1000000 := by have h1 := H.nle 1 (by decide); have h2 : (N 1 : Int) = n1 := en1; omega
  have hlr : ∀ i, (-9223372036854775808 : Int) ≤ (w1) i ∧ (w1) i ≤ 9223372036854775807 := fun i => by have h1 : (-9223372036854775808 : Int) ≤ A 1 i ∧ A 1 i ≤ 9223372036854775807 := H.arg 1 i (by decide) rfl; rw [show A 1 = w1 from ew1] at h1; exact h1
  have hlr0 := hlr 0
  refine Ew_of (pc' := 1) (fun _ => x_iconst rfl) ?_
  refine Ew_of (pc' := 2) (fun _ => x_istore_n rfl) ?_
  have : IMP (1 ≤ ((w1)) 0) (nuG (((w1)) 0) (((w1)) 1) (((w1)) 2) ((a1)) ((a2)) (1) = nuG (((w1)) 0) (((w1)) 1) (((w1)) 2) ((a1)) ((a2)) (1)) := fun _ => rfl
  suffices hl2 : ∀ (m : Nat), ∀ (ls : rO) (σ : rS) (F_2 : hF) (A_2 : hA) (x2_3 : Int), rlook ls 0 = some (.ref (D 0)) → rlook ls 1 = some (I (a1)) → rlook ls 2 = some (I (a2)) → rlook ls 3 = some (I (x2_3)) → HW V190 σ D N F_2 A_2 → OUT (V190).length D N σE c s D N σ c s → SF [] F F_2 → SA [] A A_2 → (inr (x2_3)) → ((1) ≤ (x2_3)) → ((x2_3) ≤ (1) ∨ (x2_3) ≤ ((3 + 1))) → (1 ≤ (x2_3) ∧ (x2_3) ≤ 4) → (IMP (1 ≤ ((w1)) 0) (nuG (((w1)) 0) (((w1)) 1) (((w1)) 2) ((a1)) ((a2)) (1) = nuG (((w1)) 0) (((w1)) 1) (((w1)) 2) ((a1)) ((a2)) ((x2_3)))) → (((3 + 1)) - (x2_3)).toNat = m → Ew 190 (d + 1) 2 ls [] σ c s Q from
    hl2 _ _ _ _ _ (1) (rk_o (rfl) rfl rfl) (rk_o (rfl) rfl rfl) (rk_o (rfl) rfl rfl) (rk_s) H O (SF_refl) (SA_refl)     (show inr (1) by omega) (show (1) ≤ (1) by omega) (show (1) ≤ (1) ∨ (1) ≤ ((3 + 1)) by omega) (show 1 ≤ (1) ∧ (1) ≤ 4 by omega) (show IMP (1 ≤ ((w1)) 0) (nuG (((w1)) 0) (((w1)) 1) (((w1)) 2) ((a1)) ((a2)) (1) = nuG (((w1)) 0) (((w1)) 1) (((w1)) 2) ((a1)) ((a2)) ((1))) by assumption) rfl
  as_aux_lemma =>
  intro m
  induction m using Nat.strongRecOn with
  | _ m ih2 =>
    intro ls σ F_2 A_2 x2_3 l2_0 l2_1 l2_2 l2_3 H O hS_2 hA_2     j2_0 j2_1 j2_2 j2_3 j2_4 hm2
    have j2_g : IMP (1 ≤ ((w1)) 0) (nuG (((w1)) 0) (((w1)) 1) (((w1)) 2) ((a1)) ((a2)) (1) = nuG (((w1)) 0) (((w1)) 1) (((w1)) 2) ((a1)) ((a2)) ((x2_3))) := by assumption
    refine Ew_of (pc' := 3) (fun _ => x_iload_n rfl l2_3) ?_
    refine Ew_of (pc' := 4) (fun _ => x_iconst rfl) ?_
    refine w_icmpgt (t := 27) rfl rfl (show inr (x2_3) by omega) (show inr (3) by omega) (fun b2 => ?_) (fun b2 => ?_)
    · refine Ew_of (pc' := 28) (fun _ => x_iload_n rfl l2_1) ?_
      refine Ew_of (pc' := 29) (fun _ => x_iconst rfl) ?_
      refine w_iadd rfl ?_
      have : IMP (1 ≤ ((w1)) 0) (((a1 + 3)) = nuG (((w1)) 0) (((w1)) 1) (((w1)) 2) ((a1)) ((a2)) (1)) := fun q => by rw [j2_g q, nuG_4 (by omega)]
      exact w_ireturn rfl (k ((a1 + 3)) _ _ _ H O (SF_trans (SF_refl) hS_2 (any_sub rfl)) (SA_trans (SA_refl) hA_2 (any_subA rfl)) (show inr ((a1 + 3)) by omega) (show 1 ≤ ((a1 + 3)) ∧ ((a1 + 3)) ≤ a1 + 3 by omega) (show IMP (1 ≤ ((w1)) 0) (((a1 + 3)) = nuG (((w1)) 0) (((w1)) 1) (((w1)) 2) (a1) (a2) (1)) by assumption))
    · refine Ew_of (pc' := 8) (fun _ => x_aload_n rfl l2_0) ?_
      refine Ew_of (pc' := 9) (fun _ => x_iload_n rfl l2_3) ?_
      refine Ew_of (pc' := 10) (fun _ => x_iload_n rfl l2_2) ?_
      refine v_inv H (o := 0) rfl rfl rfl rfl rfl rfl (by rfl) (C188 (D := pul [0, 1] D) (N := pul [0, 1] N) (HW_sub H (VS_of (show vsub V190 V188 [0, 1] = true by decide +kernel))) (((hS_2 0 2 rfl)).trans (pf1)) (n1) (en1) (w1) ((funext (hA_2 1 rfl)).trans (ew1)) (show inr (x2_3) by omega) (show inr (a2) by omega) (show 1 ≤ (x2_3) ∧ (x2_3) ≤ 3 by omega) (show (n1) = 3 by omega) (fun z3 σ3 F3' A3' H' O' hS3 hA3 pz3_0 pz3_1 => ⟨rfl, ?_⟩))
      refine v_back (c := c) (s := s) H (show vsub V190 V188 [0, 1] = true by decide +kernel) H' O' (fun F3 A3 H O' eF3 eA3 => ?_)
      have O := OUT_trans O O'
      -- Stand.latestBy
      have hLB := pz3_1
      refine Ew_of (pc' := 14) (fun _ => x_iload_n rfl l2_1) ?_
      refine w_i2l rfl (show inr (a1) by omega) ?_
      refine w_lcmp rfl (show inrJ (z3) by omega) (show inrJ (a1) by omega) (fun z4 gz4 gaz4 gbz4 => ?_)
      refine w_ifne (t := 21) rfl rfl (show inr (z4) by omega) (fun b5 => ?_) (fun b5 => ?_)
      · refine Ew_of (pc' := 24) (fun _ => x_iinc (len := 3) rfl (l2_3)) ?_
        refine Ew_of (pc' := 2) (fun _ => x_goto rfl rfl) ?_
        have : IMP (1 ≤ ((w1)) 0) (nuG (((w1)) 0) (((w1)) 1) (((w1)) 2) ((a1)) ((a2)) (1) = nuG (((w1)) 0) (((w1)) 1) (((w1)) 2) ((a1)) ((a2)) (((x2_3 + 1)))) := fun q => (j2_g q).trans (nuG_n (by omega) (by rw [LBY_nu hLB (by omega) q hlr0]; omega) (by omega))
        exact ih2 _ (by omega) _ _ _ _ ((x2_3 + 1)) (rk_o (l2_0) rfl rfl) (rk_o (l2_1) rfl rfl) (rk_o (l2_2) rfl rfl) (rk_s) H O (SF_trans (hS_2) (SF_glu (ι := [0, 1]) hS3 eF3 (by decide +kernel)) (any_sub (l' := []) rfl)) (SA_trans (hA_2) (SA_glu (ι := [0, 1]) hA3 eA3 (by decide +kernel)) (any_subA (l' := []) rfl))     (show inr ((x2_3 + 1)) by omega) (show (1) ≤ ((x2_3 + 1)) by omega) (show ((x2_3 + 1)) ≤ (1) ∨ ((x2_3 + 1)) ≤ ((3 + 1)) by omega) (show 1 ≤ ((x2_3 + 1)) ∧ ((x2_3 + 1)) ≤ 4 by omega) (show IMP (1 ≤ ((w1)) 0) (nuG (((w1)) 0) (((w1)) 1) (((w1)) 2) ((a1)) ((a2)) (1) = nuG (((w1)) 0) (((w1)) 1) (((w1)) 2) ((a1)) ((a2)) (((x2_3 + 1)))) by assumption) rfl
      · refine Ew_of (pc' := 20) (fun _ => x_iload_n rfl l2_3) ?_
        have : IMP (1 ≤ ((w1)) 0) ((x2_3) = nuG (((w1)) 0) (((w1)) 1) (((w1)) 2) ((a1)) ((a2)) (1)) := fun q => by rw [j2_g q]; exact (nuG_y (by omega) (by rw [LBY_nu hLB (by omega) q hlr0]; omega)).symm
        exact w_ireturn rfl (k (x2_3) _ _ _ H O (SF_trans (SF_trans (SF_refl) hS_2 (any_sub rfl)) (SF_glu (ι := [0, 1]) hS3 eF3 (by decide +kernel)) (any_sub (l' := []) rfl)) (SA_trans (SA_trans (SA_refl) hA_2 (any_subA rfl)) (SA_glu (ι := [0, 1]) hA3 eA3 (by decide +kernel)) (any_subA (l' := []) rfl)) (show inr (x2_3) by omega) (show 1 ≤ (x2_3) ∧ (x2_3) ≤ a1 + 3 by omega) (show IMP (1 ≤ ((w1)) 0) ((x2_3) = nuG (((w1)) 0) (((w1)) 1) (((w1)) 2) (a1) (a2) (1)) by assumption))
