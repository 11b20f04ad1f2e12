abbrev V43_Br : vV := [(1, 0, [])]
/-- PackHouse.isSpare: #1 -/
theorem C43_Br {σE : rS} {D N : Nat → Nat} {F : hF} {A : hA} {d c s : Nat} {Q : wQ} (H : HW V43_Br σE D N F A) {a2 a3 : Int} (n0 : Int) (en0 : (N 0 : Int) = n0) (w0 : Int → Int) (ew0 : A 0 = w0) (h0 : inr (a2)) (h1 : inr (a3)) (h2 : 0 ≤ (a2) ∧ 0 ≤ (a3) ∧ (a3) ≤ (n0) ∧ (n0) ≤ 65536 ∧ (a2) ≤ 200000) (k : ∀ (z : Int) (σ : rS) (F' : hF) (A' : hA), HW V43_Br σ D N F' A' → OUT (V43_Br).length D N σE c s D N σ c s → SF [] F F' → SA [] A A' → ((z) = 0 ∨ (z) = 1) → ((z) = 1 → (a2) + 4 ≤ (a3)) → (SPQ ((w0)) ((a2)) ((a3)) ((z))) → Q (some (I z)) σ c s) : Ew 43 (d + 1) 0 (rargs 0 [.ref (D 0), I a2, I a3]) [] σE c s Q := by
  have O := OUT_refl (n := (V43_Br).length) (D := D) (N := N) (σ := σE) (c := c) (s := s)
  have HE := H
  have r1 : (0 : Int) ≤ n0 ∧ n0 ≤ 1000000 := by have h1 := H.nle 0 (by decide); have h2 : (N 0 : Int) = n0 := en0; omega
  refine Ew_of (pc' := 1) (fun _ => x_iload_n rfl rfl) ?_
  refine Ew_of (pc' := 2) (fun _ => x_iload_n rfl rfl) ?_
  refine w_isub rfl ?_
  refine Ew_of (pc' := 4) (fun _ => x_iconst rfl) ?_
  refine w_icmplt (t := 25) rfl rfl (show inr ((a3 - a2)) by omega) (show inr (4) by omega) (fun b2 => ?_) (fun b2 => ?_)
  · refine Ew_of (pc' := 26) (fun _ => x_iconst rfl) ?_
    have : SPQ ((w0)) ((a2)) ((a3)) ((0)) := by first | exact SPQ_n (by omega) | exact SPQ_y (by omega) hwd hz16 (by omega) | exact SPQ_z hwd hz16 (by omega)
    exact w_ireturn rfl (k (0) _ _ _ H O (SF_refl) (SA_refl) (show (0) = 0 ∨ (0) = 1 by omega) (show (0) = 1 → a2 + 4 ≤ a3 by omega) (show SPQ ((w0)) (a2) (a3) ((0)) by assumption))
  · refine Ew_of (pc' := 8) (fun _ => x_aload_n rfl rfl) ?_
    refine Ew_of (pc' := 9) (fun _ => x_iload_n rfl rfl) ?_
    refine w_stat24 rfl rfl (by rfl) (C41_Br (D := pul [0] D) (N := pul [0] N) (HW_sub H (VS_of (show vsub V43_Br V41_Br [0] = true by decide +kernel))) (n0) (en0) (w0) (ew0) (show inr (a2) by omega) (show 0 ≤ (a2) ∧ (a2) + 4 ≤ (n0) by omega) (fun z3 σ3 F3' A3' H' O' hS3 hA3 pz3_0 pz3_1 => ⟨rfl, ?_⟩))
    refine v_back (c := c) (s := s) H (show vsub V43_Br V41_Br [0] = true by decide +kernel) H' O' (fun F3 A3 H O' eF3 eA3 => ?_)
    have O := OUT_trans O O'
    -- PackHouse.word
    have hwd := pz3_1
    refine Ew_of (pc' := 14) (fun _ => x_bipush (z := -16) rfl (by decide)) ?_
    refine w_iandE rfl (show inr (z3) by omega) (show inr ((-16)) by omega) (fun z4 gz4 gaz4 gbz4 gez4 => ?_)
    have hz16 := gez4
    refine Ew_of (pc' := 18) (fun _ => x_ldc_w (z := 407710288) rfl (by decide)) ?_
    refine w_icmpne (t := 25) rfl rfl (show inr (z4) by omega) (show inr (407710288) by omega) (fun b5 => ?_) (fun b5 => ?_)
    · refine Ew_of (pc' := 26) (fun _ => x_iconst rfl) ?_
      have : SPQ ((w0)) ((a2)) ((a3)) ((0)) := by first | exact SPQ_n (by omega) | exact SPQ_y (by omega) hwd hz16 (by omega) | exact SPQ_z hwd hz16 (by omega)
      exact w_ireturn rfl (k (0) _ _ _ H O (SF_trans (SF_refl) (SF_glu (ι := [0]) hS3 eF3 (by decide +kernel)) (any_sub (l' := []) rfl)) (SA_trans (SA_refl) (SA_glu (ι := [0]) hA3 eA3 (by decide +kernel)) (any_subA (l' := []) rfl)) (show (0) = 0 ∨ (0) = 1 by omega) (show (0) = 1 → a2 + 4 ≤ a3 by omega) (show SPQ ((w0)) (a2) (a3) ((0)) by assumption))
    · refine Ew_of (pc' := 22) (fun _ => x_iconst rfl) ?_
      refine Ew_of (pc' := 26) (fun _ => x_goto rfl rfl) ?_
      have : SPQ ((w0)) ((a2)) ((a3)) ((1)) := by first | exact SPQ_n (by omega) | exact SPQ_y (by omega) hwd hz16 (by omega) | exact SPQ_z hwd hz16 (by omega)
      exact w_ireturn rfl (k (1) _ _ _ H O (SF_trans (SF_refl) (SF_glu (ι := [0]) hS3 eF3 (by decide +kernel)) (any_sub (l' := []) rfl)) (SA_trans (SA_refl) (SA_glu (ι := [0]) hA3 eA3 (by decide +kernel)) (any_subA (l' := []) rfl)) (show (1) = 0 ∨ (1) = 1 by omega) (show (1) = 1 → a2 + 4 ≤ a3 by omega) (show SPQ ((w0)) (a2) (a3) ((1)) by assumption))
abbrev V44_Br : vV := [(1, 0, [])]
/-- PackHouse.afterSpare: #1 -/
theorem C44_Br {σE : rS} {D N : Nat → Nat} {F : hF} {A : hA} {d c s : Nat} {Q : wQ} (H : HW V44_Br σE D N F A) {a2 a3 : Int} (n0 : Int) (en0 : (N 0 : Int) = n0) (w0 : Int → Int) (ew0 : A 0 = w0) (h0 : inr (a2)) (h1 : inr (a3)) (h2 : 0 ≤ (a2) ∧ 0 ≤ (a3) ∧ (a3) ≤ (n0) ∧ (n0) ≤ 65536 ∧ (a2) ≤ 200000) (k : ∀ (z : Int) (σ : rS) (F' : hF) (A' : hA), HW V44_Br σ D N F' A' → OUT (V44_Br).length D N σE c s D N σ c s → SF [] F F' → SA [] A A' → (inr (z)) → ((z) = -1 ∨ (a2) + 8 ≤ (z) ∧ (z) ≤ (a3)) → (ASQ ((w0)) ((a2)) ((a3)) ((z))) → Q (some (I z)) σ c s) : Ew 44 (d + 1) 0 (rargs 0 [.ref (D 0), I a2, I a3]) [] σE c s Q := by
  have O := OUT_refl (n := (V44_Br).length) (D := D) (N := N) (σ := σE) (c := c) (s := s)
  have HE := H
  have r1 : (0 : Int) ≤ n0 ∧ n0 ≤ 1000000 := by have h1 := H.nle 0 (by decide); have h2 : (N 0 : Int) = n0 := en0; omega
  refine Ew_of (pc' := 1) (fun _ => x_iload_n rfl rfl) ?_
  refine Ew_of (pc' := 2) (fun _ => x_iload_n rfl rfl) ?_
  refine w_isub rfl ?_
  refine Ew_of (pc' := 5) (fun _ => x_bipush (z := 8) rfl (by decide)) ?_
  refine w_icmpge (t := 10) rfl rfl (show inr ((a3 - a2)) by omega) (show inr (8) by omega) (fun b2 => ?_) (fun b2 => ?_)
  · refine Ew_of (pc' := 11) (fun _ => x_iload_n rfl rfl) ?_
    refine Ew_of (pc' := 13) (fun _ => x_bipush (z := 8) rfl (by decide)) ?_
    refine w_iadd rfl ?_
    refine w_i2l rfl (show inr ((a2 + 8)) by omega) ?_
    refine Ew_of (pc' := 16) (fun _ => x_aload_n rfl rfl) ?_
    refine Ew_of (pc' := 17) (fun _ => x_iload_n rfl rfl) ?_
    refine Ew_of (pc' := 18) (fun _ => x_iconst rfl) ?_
    refine w_iadd rfl ?_
    refine Ew_of (pc' := 20) (fun _ => x_iconst rfl) ?_
    refine w_stat24 rfl rfl (by rfl) (C42_Br (D := pul [0] D) (N := pul [0] N) (HW_sub H (VS_of (show vsub V44_Br V42_Br [0] = true by decide +kernel))) (n0) (en0) (w0) (ew0) (show inr ((a2 + 4)) by omega) (show inr (4) by omega) (show (4) ≤ 0 ∨ 0 ≤ ((a2 + 4)) ∧ ((a2 + 4)) + (4) ≤ (n0) by omega) (show 0 ≤ (4) ∧ (4) ≤ 8 by omega) (fun z3 σ3 F3' A3' H' O' hS3 hA3 pz3_0 pz3_1 pz3_2 => ⟨rfl, ?_⟩))
    refine v_back (c := c) (s := s) H (show vsub V44_Br V42_Br [0] = true by decide +kernel) H' O' (fun F3 A3 H O' eF3 eA3 => ?_)
    have O := OUT_trans O O'
    -- PackHouse.number
    have hnb := nb4 pz3_1
    have hn4 := nmb_4 pz3_2 pz3_0
    refine w_ladd rfl ?_
    refine Ew_of (pc' := 25) (fun _ => x_lstore_n rfl) ?_
    refine Ew_of (pc' := 26) (fun _ => x_lload_n rfl rk2_s) ?_
    refine Ew_of (pc' := 27) (fun _ => x_iload_n rfl (rk2_o (rfl) rfl rfl)) ?_
    refine w_i2l rfl (show inr (a3) by omega) ?_
    refine w_lcmp rfl (show inrJ (((a2 + 8) + z3)) by omega) (show inrJ (a3) by omega) (fun z4 gz4 gaz4 gbz4 => ?_)
    refine w_ifle (t := 36) rfl rfl (show inr (z4) by omega) (fun b5 => ?_) (fun b5 => ?_)
    · refine Ew_of (pc' := 37) (fun _ => x_lload_n rfl rk2_s) ?_
      refine w_l2i rfl ?_
      have : ASQ ((w0)) ((a2)) ((a3)) ((((a2 + 8) + z3))) := by first | exact .inr ⟨by omega, by omega, by omega⟩ | exact .inl ⟨rfl, .inr (by omega)⟩
      exact w_ireturn rfl (k (((a2 + 8) + z3)) _ _ _ H O (SF_trans (SF_refl) (SF_glu (ι := [0]) hS3 eF3 (by decide +kernel)) (any_sub (l' := []) rfl)) (SA_trans (SA_refl) (SA_glu (ι := [0]) hA3 eA3 (by decide +kernel)) (any_subA (l' := []) rfl)) (show inr (((a2 + 8) + z3)) by omega) (show (((a2 + 8) + z3)) = -1 ∨ a2 + 8 ≤ (((a2 + 8) + z3)) ∧ (((a2 + 8) + z3)) ≤ a3 by omega) (show ASQ ((w0)) (a2) (a3) ((((a2 + 8) + z3))) by assumption))
    · refine Ew_of (pc' := 33) (fun _ => x_iconst rfl) ?_
      refine Ew_of (pc' := 38) (fun _ => x_goto rfl rfl) ?_
      have : ASQ ((w0)) ((a2)) ((a3)) (((-1))) := by first | exact .inr ⟨by omega, by omega, by omega⟩ | exact .inl ⟨rfl, .inr (by omega)⟩
      exact w_ireturn rfl (k ((-1)) _ _ _ H O (SF_trans (SF_refl) (SF_glu (ι := [0]) hS3 eF3 (by decide +kernel)) (any_sub (l' := []) rfl)) (SA_trans (SA_refl) (SA_glu (ι := [0]) hA3 eA3 (by decide +kernel)) (any_subA (l' := []) rfl)) (show inr ((-1)) by omega) (show ((-1)) = -1 ∨ a2 + 8 ≤ ((-1)) ∧ ((-1)) ≤ a3 by omega) (show ASQ ((w0)) (a2) (a3) (((-1))) by assumption))
  · refine Ew_of (pc' := 9) (fun _ => x_iconst rfl) ?_
    have : ASQ ((w0)) ((a2)) ((a3)) (((-1))) := .inl ⟨rfl, .inl (by omega)⟩
    exact w_ireturn rfl (k ((-1)) _ _ _ H O (SF_refl) (SA_refl) (show inr ((-1)) by omega) (show ((-1)) = -1 ∨ a2 + 8 ≤ ((-1)) ∧ ((-1)) ≤ a3 by omega) (show ASQ ((w0)) (a2) (a3) (((-1))) by assumption))
abbrev V45 : vV := []
/-- PackHouse.highestBit:  -/
theorem C45 {σE : rS} {D N : Nat → Nat} {F : hF} {A : hA} {d c s : Nat} {Q : wQ} (H : HW V45 σE D N F A) {a1 : Int} (h0 : inr (a1)) (h1 : 1 ≤ (a1)) (k : ∀ (z : Int) (σ : rS) (F' : hF) (A' : hA), HW V45 σ D N F' A' → OUT (V45).length D N σE c s D N σ c s → SF [] F F' → SA [] A A' → (inr (z)) → (0 ≤ (z) ∧ (z) ≤ 30) → (p2 (z) ≤ (a1) ∧ (a1) < 2 * p2 (z)) → Q (some (I z)) σ c s) : Ew 45 (d + 0) 0 (rargs 0 [I a1]) [] σE c s Q := by
  have O := OUT_refl (n := (V45).length) (D := D) (N := N) (σ := σE) (c := c) (s := s)
  have HE := H
  refine Ew_of (pc' := 1) (fun _ => x_iconst rfl) ?_
  refine Ew_of (pc' := 2) (fun _ => x_istore_n rfl) ?_
  refine Ew_of (pc' := 3) (fun _ => x_iload_n rfl (rk_o (rfl) rfl rfl)) ?_
  refine Ew_of (pc' := 4) (fun _ => x_iconst rfl) ?_
  refine w_ishrK 1 2 (by decide) (by decide) rfl (show inr (a1) by omega) (fun z1 gz1 dz1 => ?_)
  have h0 := HI_s (HI_0 (a := (a1))) (by omega) (by omega) (by omega)
  have : HI ((a1)) 0 ((z1)) := by have e : (z1) = (a1) / 2 := (by omega); rw [e]; exact h0.1
  refine Ew_of (pc' := 6) (fun _ => x_istore_n rfl) ?_
  suffices hl6 : ∀ (m : Nat), ∀ (ls : rO) (σ : rS) (F_6 : hF) (A_6 : hA) (x6_1 : Int) (x6_2 : Int), rlook ls 1 = some (I (x6_1)) → rlook ls 2 = some (I (x6_2)) → HW V45 σ D N F_6 A_6 → OUT (V45).length D N σE c s D N σ c s → SF [] F F_6 → SA [] A A_6 → (inr (x6_1)) → (inr (x6_2)) → (0 ≤ (x6_1) ∧ (x6_1) ≤ 30) → (0 ≤ (x6_2)) → (HI ((a1)) ((x6_1)) ((x6_2))) → ((x6_2)).toNat = m → Ew 45 (d + 0) 6 ls [] σ c s Q from
    hl6 _ _ _ _ _ (0) (z1) (rk_o (rk_s) rfl rfl) (rk_s) H O (SF_refl) (SA_refl)     (show inr (0) by omega) (show inr (z1) by omega) (show 0 ≤ (0) ∧ (0) ≤ 30 by omega) (show 0 ≤ (z1) by omega) (show HI ((a1)) ((0)) ((z1)) by assumption) rfl
  as_aux_lemma =>
  intro m
  induction m using Nat.strongRecOn with
  | _ m ih6 =>
    intro ls σ F_6 A_6 x6_1 x6_2 l6_1 l6_2 H O hS_6 hA_6     j6_0 j6_1 j6_2 j6_3 j6_4 hm6
    refine Ew_of (pc' := 7) (fun _ => x_iload_n rfl l6_2) ?_
    refine w_ifle (t := 20) rfl rfl (show inr (x6_2) by omega) (fun b2 => ?_) (fun b2 => ?_)
    · have h2 := HI_end (show HI ((a1)) ((x6_1)) ((x6_2)) from by assumption) (by omega) (by omega) (by omega)
      refine Ew_of (pc' := 21) (fun _ => x_iload_n rfl l6_1) ?_
      exact w_ireturn rfl (k (x6_1) _ _ _ H O (SF_trans (SF_refl) hS_6 (any_sub rfl)) (SA_trans (SA_refl) hA_6 (any_subA rfl)) (show inr (x6_1) by omega) (show 0 ≤ (x6_1) ∧ (x6_1) ≤ 30 by omega) (show p2 (x6_1) ≤ a1 ∧ a1 < 2 * p2 (x6_1) by omega))
    · refine Ew_of (pc' := 13) (fun _ => x_iinc (len := 3) rfl (l6_1)) ?_
      refine Ew_of (pc' := 14) (fun _ => x_iload_n rfl (rk_o (l6_2) rfl rfl)) ?_
      refine Ew_of (pc' := 15) (fun _ => x_iconst rfl) ?_
      refine w_ishrK 1 2 (by decide) (by decide) rfl (show inr (x6_2) by omega) (fun z3 gz3 dz3 => ?_)
      have h1 := HI_s (show HI ((a1)) _ ((x6_2)) from by assumption) (by omega) (by omega) (by omega)
      have : HI ((a1)) (((x6_1 + 1))) ((z3)) := by have e : (z3) = (x6_2) / 2 := (by omega); rw [e]; exact h1.1
      refine Ew_of (pc' := 17) (fun _ => x_istore_n rfl) ?_
      refine Ew_of (pc' := 6) (fun _ => x_goto rfl rfl) ?_
      exact ih6 _ (by omega) _ _ _ _ ((x6_1 + 1)) (z3) (rk_o (rk_s) rfl rfl) (rk_s) H O (hS_6) (hA_6)     (show inr ((x6_1 + 1)) by omega) (show inr (z3) by omega) (show 0 ≤ ((x6_1 + 1)) ∧ ((x6_1 + 1)) ≤ 30 by omega) (show 0 ≤ (z3) by omega) (show HI ((a1)) (((x6_1 + 1))) ((z3)) by assumption) rfl
abbrev V49_Br : vV := [(1, 0, [])]
/-- PackHouse.narrowSum: #1 -/
theorem C49_Br {σE : rS} {D N : Nat → Nat} {F : hF} {A : hA} {d c s : Nat} {Q : wQ} (H : HW V49_Br σE D N F A) {a2 a3 a4 : Int} (n0 : Int) (en0 : (N 0 : Int) = n0) (w0 : Int → Int) (ew0 : A 0 = w0) (h0 : inr (a2)) (h1 : inr (a3)) (h2 : inr (a4)) (h3 : 0 ≤ (a2) ∧ (a2) ≤ (a3) ∧ (a3) ≤ (n0)) (k : ∀ (z : Int) (σ : rS) (F' : hF) (A' : hA), HW V49_Br σ D N F' A' → OUT (V49_Br).length D N σE c s D N σ c s → SF [] F F' → SA [] A A' → (inr (z)) → ((z) = NSM ((w0)) ((a2)) ((a3) - (a2)) ((a4))) → Q (some (I z)) σ c s) : Ew 49 (d + 2) 0 (rargs 0 [.ref (D 0), I a2, I a3, I a4]) [] σE c s Q := by
  have O := OUT_refl (n := (V49_Br).length) (D := D) (N := N) (σ := σE) (c := c) (s := s)
  have HE := H
  have r1 : (0 : Int) ≤ n0 ∧ n0 ≤ 1000000 := by have h1 := H.nle 0 (by decide); have h2 : (N 0 : Int) = n0 := en0; omega
  refine Ew_of (pc' := 1) (fun _ => x_iload_n rfl rfl) ?_
  refine Ew_of (pc' := 3) (fun _ => x_istore rfl) ?_
  refine Ew_of (pc' := 4) (fun _ => x_iload_n rfl (rk_o (rfl) rfl rfl)) ?_
  refine Ew_of (pc' := 7) (fun _ => x_ldc_w (z := 374761393) rfl (by decide)) ?_
  refine w_iaddE rfl ?_
  have g2 : inr (adI (a4) (374761393)) := toI_inr _
  refine Ew_of (pc' := 10) (fun _ => x_istore rfl) ?_
  have hc153 : ∀ (ls : rO) (σ : rS) (F_c153 : hF) (A_c153 : hA) (xc153_4 : Int) (xc153_5 : Int), rlook ls 0 = some (.ref (D 0)) → rlook ls 1 = some (I (a2)) → rlook ls 2 = some (I (a3)) → rlook ls 4 = some (I (xc153_4)) → rlook ls 5 = some (I (xc153_5)) → HW V49_Br σ D N F_c153 A_c153 → OUT (V49_Br).length D N σE c s D N σ c s → SF [] F F_c153 → SA [] A A_c153 → (inr (xc153_4)) → (inr (xc153_5)) → ((a2) ≤ (xc153_4) ∧ (xc153_4) ≤ (a3)) → (NS1 ((w0)) ((a2)) ((a3) - (a2)) ((a4)) ((xc153_4)) ((xc153_5))) → Ew 49 (d + 2) 153 ls [] σ c s Q := by
   as_aux_lemma =>
    intro  ls σ F_c153 A_c153 xc153_4 xc153_5 lc153_0 lc153_1 lc153_2 lc153_4 lc153_5 H O hS_c153 hA_c153     jc153_0 jc153_1 jc153_2 jc153_3
    have hc1 : NS1 ((w0)) ((a2)) ((a3) - (a2)) ((a4)) ((xc153_4)) ((xc153_5)) := by assumption
    refine Ew_of (pc' := 155) (fun _ => x_iload rfl lc153_5) ?_
    refine Ew_of (pc' := 156) (fun _ => x_iload_n rfl lc153_2) ?_
    refine Ew_of (pc' := 157) (fun _ => x_iload_n rfl lc153_1) ?_
    refine w_isub rfl ?_
    refine w_iaddE rfl ?_
    have g3 : inr (adI (xc153_5) ((a3 - a2))) := toI_inr _
    refine Ew_of (pc' := 161) (fun _ => x_istore rfl) ?_
    have hc1p := hc1.1
    have : ∃ xp xh, NS1 ((w0)) ((a2)) ((a3) - (a2)) ((a4)) xp xh ∧ nS4n ((w0)) xp (((a3) - (a2)) % 16 / 4).toNat (adI xh ((a3) - (a2))) = nS4n ((w0)) ((xc153_4)) (((a3) - (xc153_4)) / 4).toNat (((adI (xc153_5) ((a3 - a2))))) := ⟨(xc153_4), _, hc1, by rw [show ((a3) - (a2)) % 16 / 4 = ((a3) - (xc153_4)) / 4 by omega]⟩
    suffices hl161 : ∀ (m : Nat), ∀ (ls : rO) (σ : rS) (F_161 : hF) (A_161 : hA) (x161_4 : Int) (x161_5 : Int), rlook ls 0 = some (.ref (D 0)) → rlook ls 2 = some (I (a3)) → rlook ls 4 = some (I (x161_4)) → rlook ls 5 = some (I (x161_5)) → HW V49_Br σ D N F_161 A_161 → OUT (V49_Br).length D N σE c s D N σ c s → SF [] F_c153 F_161 → SA [] A_c153 A_161 → (inr (x161_4)) → (inr (x161_5)) → ((a2) ≤ (x161_4) ∧ (x161_4) ≤ (a3)) → (((a3) - (x161_4)) % 4 = ((a3) - (a2)) % 4) → (∃ xp xh, NS1 ((w0)) ((a2)) ((a3) - (a2)) ((a4)) xp xh ∧ nS4n ((w0)) xp (((a3) - (a2)) % 16 / 4).toNat (adI xh ((a3) - (a2))) = nS4n ((w0)) ((x161_4)) (((a3) - (x161_4)) / 4).toNat ((x161_5))) → ((a3) - (x161_4)).toNat = m → Ew 49 (d + 2) 161 ls [] σ c s Q from
      hl161 _ _ _ _ _ (xc153_4) ((adI (xc153_5) ((a3 - a2)))) (rk_o (lc153_0) rfl rfl) (rk_o (lc153_2) rfl rfl) (rk_o (lc153_4) rfl rfl) (rk_s) H O (SF_refl) (SA_refl)     (show inr (xc153_4) by omega) (show inr ((adI (xc153_5) ((a3 - a2)))) by omega) (show (a2) ≤ (xc153_4) ∧ (xc153_4) ≤ (a3) by omega) (show ((a3) - (xc153_4)) % 4 = ((a3) - (a2)) % 4 by omega) (show ∃ xp xh, NS1 ((w0)) ((a2)) ((a3) - (a2)) ((a4)) xp xh ∧ nS4n ((w0)) xp (((a3) - (a2)) % 16 / 4).toNat (adI xh ((a3) - (a2))) = nS4n ((w0)) ((xc153_4)) (((a3) - (xc153_4)) / 4).toNat (((adI (xc153_5) ((a3 - a2))))) by assumption) rfl
    as_aux_lemma =>
    intro m
    induction m using Nat.strongRecOn with
    | _ m ih161 =>
      intro ls σ F_161 A_161 x161_4 x161_5 l161_0 l161_2 l161_4 l161_5 H O hS_161 hA_161     j161_0 j161_1 j161_2 j161_3 j161_4 hm161
      have j161_q : ∃ xp xh, NS1 ((w0)) ((a2)) ((a3) - (a2)) ((a4)) xp xh ∧ nS4n ((w0)) xp (((a3) - (a2)) % 16 / 4).toNat (adI xh ((a3) - (a2))) = nS4n ((w0)) ((x161_4)) (((a3) - (x161_4)) / 4).toNat ((x161_5)) := by assumption
      refine Ew_of (pc' := 162) (fun _ => x_iload_n rfl l161_2) ?_
      refine Ew_of (pc' := 164) (fun _ => x_iload rfl l161_4) ?_
      refine w_isub rfl ?_
      refine Ew_of (pc' := 166) (fun _ => x_iconst rfl) ?_
      refine w_icmplt (t := 199) rfl rfl (show inr ((a3 - x161_4)) by omega) (show inr (4) by omega) (fun b4 => ?_) (fun b4 => ?_)
      · have : ∃ xp xh, NS1 ((w0)) ((a2)) ((a3) - (a2)) ((a4)) xp xh ∧ nS1n ((w0)) ((a3) - ((a3) - (a2)) % 4) (((a3) - (a2)) % 4).toNat (nS4n ((w0)) xp (((a3) - (a2)) % 16 / 4).toNat (adI xh ((a3) - (a2)))) = nS1n ((w0)) ((x161_4)) ((a3) - (x161_4)).toNat ((x161_5)) := by obtain ⟨xp, xh, q1, q2⟩ := j161_q; refine ⟨xp, xh, q1, ?_⟩; rw [q2, nS4n_0 (by omega), show (a3) - ((a3) - (a2)) % 4 = (x161_4) by omega, show ((a3) - (a2)) % 4 = (a3) - (x161_4) by omega]
        suffices hl199 : ∀ (m : Nat), ∀ (ls : rO) (σ : rS) (F_199 : hF) (A_199 : hA) (x199_4 : Int) (x199_5 : Int), rlook ls 0 = some (.ref (D 0)) → rlook ls 2 = some (I (a3)) → rlook ls 4 = some (I (x199_4)) → rlook ls 5 = some (I (x199_5)) → HW V49_Br σ D N F_199 A_199 → OUT (V49_Br).length D N σE c s D N σ c s → SF [] F_161 F_199 → SA [] A_161 A_199 → (inr (x199_4)) → (inr (x199_5)) → ((a2) ≤ (x199_4) ∧ (x199_4) ≤ (a3)) → (∃ xp xh, NS1 ((w0)) ((a2)) ((a3) - (a2)) ((a4)) xp xh ∧ nS1n ((w0)) ((a3) - ((a3) - (a2)) % 4) (((a3) - (a2)) % 4).toNat (nS4n ((w0)) xp (((a3) - (a2)) % 16 / 4).toNat (adI xh ((a3) - (a2)))) = nS1n ((w0)) ((x199_4)) ((a3) - (x199_4)).toNat ((x199_5))) → ((a3) - (x199_4)).toNat = m → Ew 49 (d + 2) 199 ls [] σ c s Q from
          hl199 _ _ _ _ _ (x161_4) (x161_5) (l161_0) (l161_2) (l161_4) (l161_5) H O (SF_refl) (SA_refl)     (show inr (x161_4) by omega) (show inr (x161_5) by omega) (show (a2) ≤ (x161_4) ∧ (x161_4) ≤ (a3) by omega) (show ∃ xp xh, NS1 ((w0)) ((a2)) ((a3) - (a2)) ((a4)) xp xh ∧ nS1n ((w0)) ((a3) - ((a3) - (a2)) % 4) (((a3) - (a2)) % 4).toNat (nS4n ((w0)) xp (((a3) - (a2)) % 16 / 4).toNat (adI xh ((a3) - (a2)))) = nS1n ((w0)) ((x161_4)) ((a3) - (x161_4)).toNat ((x161_5)) by assumption) rfl
        as_aux_lemma =>
        intro m
        induction m using Nat.strongRecOn with
        | _ m ih199 =>
          intro ls σ F_199 A_199 x199_4 x199_5 l199_0 l199_2 l199_4 l199_5 H O hS_199 hA_199     j199_0 j199_1 j199_2 j199_3 hm199
          have j199_q : ∃ xp xh, NS1 ((w0)) ((a2)) ((a3) - (a2)) ((a4)) xp xh ∧ nS1n ((w0)) ((a3) - ((a3) - (a2)) % 4) (((a3) - (a2)) % 4).toNat (nS4n ((w0)) xp (((a3) - (a2)) % 16 / 4).toNat (adI xh ((a3) - (a2)))) = nS1n ((w0)) ((x199_4)) ((a3) - (x199_4)).toNat ((x199_5)) := by assumption
          refine Ew_of (pc' := 201) (fun _ => x_iload rfl l199_4) ?_
          refine Ew_of (pc' := 202) (fun _ => x_iload_n rfl l199_2) ?_
          refine w_icmpge (t := 237) rfl rfl (show inr (x199_4) by omega) (show inr (a3) by omega) (fun b5 => ?_) (fun b5 => ?_)
          · refine Ew_of (pc' := 239) (fun _ => x_iload rfl l199_5) ?_
            refine Ew_of (pc' := 241) (fun _ => x_iload rfl l199_5) ?_
            refine Ew_of (pc' := 243) (fun _ => x_bipush (z := 15) rfl (by decide)) ?_
            refine w_iushrE rfl ?_
            have g6 : inr (usI (x199_5) (15)) := toI_inr _
            refine w_ixorE rfl ?_
            have g7 : inr (xoI (x199_5) ((usI (x199_5) (15)))) := toI_inr _
            refine Ew_of (pc' := 248) (fun _ => x_ldc_w (z := -2048144777) rfl (by decide)) ?_
            refine w_imulE rfl ?_
            have g8 : inr (muI ((xoI (x199_5) ((usI (x199_5) (15))))) ((-2048144777))) := toI_inr _
            refine Ew_of (pc' := 251) (fun _ => x_istore rfl) ?_
            refine Ew_of (pc' := 253) (fun _ => x_iload rfl rk_s) ?_
            refine Ew_of (pc' := 255) (fun _ => x_iload rfl rk_s) ?_
            refine Ew_of (pc' := 257) (fun _ => x_bipush (z := 13) rfl (by decide)) ?_
            refine w_iushrE rfl ?_
            have g9 : inr (usI ((muI ((xoI (x199_5) ((usI (x199_5) (15))))) ((-2048144777)))) (13)) := toI_inr _
            refine w_ixorE rfl ?_
            have g10 : inr (xoI ((muI ((xoI (x199_5) ((usI (x199_5) (15))))) ((-2048144777)))) ((usI ((muI ((xoI (x199_5) ((usI (x199_5) (15))))) ((-2048144777)))) (13)))) := toI_inr _
            refine Ew_of (pc' := 262) (fun _ => x_ldc_w (z := -1028477379) rfl (by decide)) ?_
            refine w_imulE rfl ?_
            have g11 : inr (muI ((xoI ((muI ((xoI (x199_5) ((usI (x199_5) (15))))) ((-2048144777)))) ((usI ((muI ((xoI (x199_5) ((usI (x199_5) (15))))) ((-2048144777)))) (13))))) ((-1028477379))) := toI_inr _
            refine Ew_of (pc' := 265) (fun _ => x_istore rfl) ?_
            refine Ew_of (pc' := 267) (fun _ => x_iload rfl rk_s) ?_
            refine Ew_of (pc' := 269) (fun _ => x_iload rfl rk_s) ?_
            refine Ew_of (pc' := 271) (fun _ => x_bipush (z := 16) rfl (by decide)) ?_
            refine w_iushrE rfl ?_
            have g12 : inr (usI ((muI ((xoI ((muI ((xoI (x199_5) ((usI (x199_5) (15))))) ((-2048144777)))) ((usI ((muI ((xoI (x199_5) ((usI (x199_5) (15))))) ((-2048144777)))) (13))))) ((-1028477379)))) (16)) := toI_inr _
            refine w_ixorE rfl ?_
            have g13 : inr (xoI ((muI ((xoI ((muI ((xoI (x199_5) ((usI (x199_5) (15))))) ((-2048144777)))) ((usI ((muI ((xoI (x199_5) ((usI (x199_5) (15))))) ((-2048144777)))) (13))))) ((-1028477379)))) ((usI ((muI ((xoI ((muI ((xoI (x199_5) ((usI (x199_5) (15))))) ((-2048144777)))) ((usI ((muI ((xoI (x199_5) ((usI (x199_5) (15))))) ((-2048144777)))) (13))))) ((-1028477379)))) (16)))) := toI_inr _
            have : ((xoI ((muI ((xoI ((muI ((xoI (x199_5) ((usI (x199_5) (15))))) ((-2048144777)))) ((usI ((muI ((xoI (x199_5) ((usI (x199_5) (15))))) ((-2048144777)))) (13))))) ((-1028477379)))) ((usI ((muI ((xoI ((muI ((xoI (x199_5) ((usI (x199_5) (15))))) ((-2048144777)))) ((usI ((muI ((xoI (x199_5) ((usI (x199_5) (15))))) ((-2048144777)))) (13))))) ((-1028477379)))) (16))))) = NSM ((w0)) ((a2)) ((a3) - (a2)) ((a4)) := by obtain ⟨xp, xh, q1, q2⟩ := j199_q; rw [nS1n_0 (k := ((a3) - (x199_4)).toNat) (by omega)] at q2; rw [show (a3) - ((a3) - (a2)) % 4 = (a2) + ((a3) - (a2)) - ((a3) - (a2)) % 4 by omega] at q2; exact NSM_of q1 rfl rfl q2
            exact w_ireturn rfl (k ((xoI ((muI ((xoI ((muI ((xoI (x199_5) ((usI (x199_5) (15))))) ((-2048144777)))) ((usI ((muI ((xoI (x199_5) ((usI (x199_5) (15))))) ((-2048144777)))) (13))))) ((-1028477379)))) ((usI ((muI ((xoI ((muI ((xoI (x199_5) ((usI (x199_5) (15))))) ((-2048144777)))) ((usI ((muI ((xoI (x199_5) ((usI (x199_5) (15))))) ((-2048144777)))) (13))))) ((-1028477379)))) (16))))) _ _ _ H O (SF_trans (SF_trans (SF_trans (SF_refl) hS_c153 (any_sub rfl)) hS_161 (any_sub rfl)) hS_199 (any_sub rfl)) (SA_trans (SA_trans (SA_trans (SA_refl) hA_c153 (any_subA rfl)) hA_161 (any_subA rfl)) hA_199 (any_subA rfl)) (show inr ((xoI ((muI ((xoI ((muI ((xoI (x199_5) ((usI (x199_5) (15))))) ((-2048144777)))) ((usI ((muI ((xoI (x199_5) ((usI (x199_5) (15))))) ((-2048144777)))) (13))))) ((-1028477379)))) ((usI ((muI ((xoI ((muI ((xoI (x199_5) ((usI (x199_5) (15))))) ((-2048144777)))) ((usI ((muI ((xoI (x199_5) ((usI (x199_5) (15))))) ((-2048144777)))) (13))))) ((-1028477379)))) (16))))) by omega) (show ((xoI ((muI ((xoI ((muI ((xoI (x199_5) ((usI (x199_5) (15))))) ((-2048144777)))) ((usI ((muI ((xoI (x199_5) ((usI (x199_5) (15))))) ((-2048144777)))) (13))))) ((-1028477379)))) ((usI ((muI ((xoI ((muI ((xoI (x199_5) ((usI (x199_5) (15))))) ((-2048144777)))) ((usI ((muI ((xoI (x199_5) ((usI (x199_5) (15))))) ((-2048144777)))) (13))))) ((-1028477379)))) (16))))) = NSM ((w0)) (a2) (a3 - a2) (a4) by assumption))
          · refine Ew_of (pc' := 207) (fun _ => x_iload rfl l199_5) ?_
            refine Ew_of (pc' := 208) (fun _ => x_aload_n rfl l199_0) ?_
            refine Ew_of (pc' := 210) (fun _ => x_iload rfl l199_4) ?_
            refine v_lB H (o := 0) rfl rfl rfl rfl (n := n0) (en0) (show 0 ≤ x199_4 ∧ x199_4 < n0 by omega) (fun v14 ev14 qv14 => ?_)
            have ev14 : (w0) (x199_4) = v14 := (congrFun ((funext (hA_199 0 rfl)).trans ((funext (hA_161 0 rfl)).trans ((funext (hA_c153 0 rfl)).trans (ew0)))) (x199_4)).symm.trans ev14
            have hvb := ev14
            refine Ew_of (pc' := 214) (fun _ => x_sipush (z := 255) rfl (by decide)) ?_
            refine v_and255 rfl ?_
            refine Ew_of (pc' := 218) (fun _ => x_ldc_w (z := 374761393) rfl (by decide)) ?_
            refine w_imulE rfl ?_
            have g15 : inr (muI ((v14 % 256)) (374761393)) := toI_inr _
            refine w_iaddE rfl ?_
            have g16 : inr (adI (x199_5) ((muI ((v14 % 256)) (374761393)))) := toI_inr _
            refine Ew_of (pc' := 222) (fun _ => x_bipush (z := 11) rfl (by decide)) ?_
            refine w_stat24 rfl rfl (by rfl) (C46 (D := pul [] D) (N := pul [] N) (HW_sub H (VS_of (show vsub V49_Br V46 [] = true by decide +kernel))) (show inr ((adI (x199_5) ((muI ((v14 % 256)) (374761393))))) by omega) (show inr (11) by omega) (show 0 ≤ (11) ∧ (11) ≤ 32 by omega) (fun z17 σ17 F17' A17' H' O' hS17 hA17 pz17_0 pz17_1 => ⟨rfl, ?_⟩))
            refine v_back (c := c) (s := s) H (show vsub V49_Br V46 [] = true by decide +kernel) H' O' (fun F17 A17 H O' eF17 eA17 => ?_)
            have O := OUT_trans O O'
            -- PackHouse.rotated
            have r6_ := pz17_1
            refine Ew_of (pc' := 228) (fun _ => x_ldc_w (z := -1640531535) rfl (by decide)) ?_
            refine w_imulE rfl ?_
            have g18 : inr (muI (z17) ((-1640531535))) := toI_inr _
            refine Ew_of (pc' := 231) (fun _ => x_istore rfl) ?_
            refine Ew_of (pc' := 234) (fun _ => x_iinc (len := 3) rfl (rk_o (l199_4) rfl rfl)) ?_
            refine Ew_of (pc' := 199) (fun _ => x_goto rfl rfl) ?_
            have : ∃ xp xh, NS1 ((w0)) ((a2)) ((a3) - (a2)) ((a4)) xp xh ∧ nS1n ((w0)) ((a3) - ((a3) - (a2)) % 4) (((a3) - (a2)) % 4).toNat (nS4n ((w0)) xp (((a3) - (a2)) % 16 / 4).toNat (adI xh ((a3) - (a2)))) = nS1n ((w0)) (((x199_4 + 1))) ((a3) - ((x199_4 + 1))).toNat (((muI (z17) ((-1640531535))))) := by obtain ⟨xp, xh, q1, q2⟩ := j199_q; exact ⟨xp, xh, q1, q2.trans (nS1n_s (by omega) (by unfold nS1 u8; rw [hvb, ← r6_]) (by omega))⟩
            exact ih199 _ (by omega) _ _ _ _ ((x199_4 + 1)) ((muI (z17) ((-1640531535)))) (rk_o (rk_o (l199_0) rfl rfl) rfl rfl) (rk_o (rk_o (l199_2) rfl rfl) rfl rfl) (rk_s) (rk_o (rk_s) rfl rfl) H O (SF_trans (hS_199) (SF_glu (ι := []) hS17 eF17 (by decide +kernel)) (any_sub (l' := []) rfl)) (SA_trans (hA_199) (SA_glu (ι := []) hA17 eA17 (by decide +kernel)) (any_subA (l' := []) rfl))     (show inr ((x199_4 + 1)) by omega) (show inr ((muI (z17) ((-1640531535)))) by omega) (show (a2) ≤ ((x199_4 + 1)) ∧ ((x199_4 + 1)) ≤ (a3) by omega) (show ∃ xp xh, NS1 ((w0)) ((a2)) ((a3) - (a2)) ((a4)) xp xh ∧ nS1n ((w0)) ((a3) - ((a3) - (a2)) % 4) (((a3) - (a2)) % 4).toNat (nS4n ((w0)) xp (((a3) - (a2)) % 16 / 4).toNat (adI xh ((a3) - (a2)))) = nS1n ((w0)) (((x199_4 + 1))) ((a3) - ((x199_4 + 1))).toNat (((muI (z17) ((-1640531535))))) by assumption) rfl
      · refine Ew_of (pc' := 171) (fun _ => x_iload rfl l161_5) ?_
        refine Ew_of (pc' := 172) (fun _ => x_aload_n rfl l161_0) ?_
        refine Ew_of (pc' := 174) (fun _ => x_iload rfl l161_4) ?_
        refine w_stat24 rfl rfl (by rfl) (C41_Br (D := pul [0] D) (N := pul [0] N) (HW_sub H (VS_of (show vsub V49_Br V41_Br [0] = true by decide +kernel))) (n0) (en0) (w0) ((funext (hA_161 0 rfl)).trans ((funext (hA_c153 0 rfl)).trans (ew0))) (show inr (x161_4) by omega) (show 0 ≤ (x161_4) ∧ (x161_4) + 4 ≤ (n0) by omega) (fun z19 σ19 F19' A19' H' O' hS19 hA19 pz19_0 pz19_1 => ⟨rfl, ?_⟩))
        refine v_back (c := c) (s := s) H (show vsub V49_Br V41_Br [0] = true by decide +kernel) H' O' (fun F19 A19 H O' eF19 eA19 => ?_)
        have O := OUT_trans O O'
        -- PackHouse.word
        have w5 := pz19_1
        refine Ew_of (pc' := 180) (fun _ => x_ldc_w (z := -1028477379) rfl (by decide)) ?_
        refine w_imulE rfl ?_
        have g20 : inr (muI (z19) ((-1028477379))) := toI_inr _
        refine w_iaddE rfl ?_
        have g21 : inr (adI (x161_5) ((muI (z19) ((-1028477379))))) := toI_inr _
        refine Ew_of (pc' := 184) (fun _ => x_bipush (z := 17) rfl (by decide)) ?_
        refine w_stat24 rfl rfl (by rfl) (C46 (D := pul [] D) (N := pul [] N) (HW_sub H (VS_of (show vsub V49_Br V46 [] = true by decide +kernel))) (show inr ((adI (x161_5) ((muI (z19) ((-1028477379)))))) by omega) (show inr (17) by omega) (show 0 ≤ (17) ∧ (17) ≤ 32 by omega) (fun z22 σ22 F22' A22' H' O' hS22 hA22 pz22_0 pz22_1 => ⟨rfl, ?_⟩))
        refine v_back (c := c) (s := s) H (show vsub V49_Br V46 [] = true by decide +kernel) H' O' (fun F22 A22 H O' eF22 eA22 => ?_)
        have O := OUT_trans O O'
        -- PackHouse.rotated
        have r5_ := pz22_1
        refine Ew_of (pc' := 190) (fun _ => x_ldc_w (z := 668265263) rfl (by decide)) ?_
        refine w_imulE rfl ?_
        have g23 : inr (muI (z22) (668265263)) := toI_inr _
        refine Ew_of (pc' := 193) (fun _ => x_istore rfl) ?_
        refine Ew_of (pc' := 196) (fun _ => x_iinc (len := 3) rfl (rk_o (l161_4) rfl rfl)) ?_
        refine Ew_of (pc' := 161) (fun _ => x_goto rfl rfl) ?_
        have : ∃ xp xh, NS1 ((w0)) ((a2)) ((a3) - (a2)) ((a4)) xp xh ∧ nS4n ((w0)) xp (((a3) - (a2)) % 16 / 4).toNat (adI xh ((a3) - (a2))) = nS4n ((w0)) (((x161_4 + 4))) (((a3) - ((x161_4 + 4))) / 4).toNat (((muI (z22) (668265263)))) := by obtain ⟨xp, xh, q1, q2⟩ := j161_q; exact ⟨xp, xh, q1, q2.trans (nS4n_s (by omega) (by unfold nS4; rw [← w5, ← r5_]) (by omega))⟩
        exact ih161 _ (by omega) _ _ _ _ ((x161_4 + 4)) ((muI (z22) (668265263))) (rk_o (rk_o (l161_0) rfl rfl) rfl rfl) (rk_o (rk_o (l161_2) rfl rfl) rfl rfl) (rk_s) (rk_o (rk_s) rfl rfl) H O (SF_trans (SF_trans (hS_161) (SF_glu (ι := [0]) hS19 eF19 (by decide +kernel)) (any_sub (l' := []) rfl)) (SF_glu (ι := []) hS22 eF22 (by decide +kernel)) (any_sub (l' := []) rfl)) (SA_trans (SA_trans (hA_161) (SA_glu (ι := [0]) hA19 eA19 (by decide +kernel)) (any_subA (l' := []) rfl)) (SA_glu (ι := []) hA22 eA22 (by decide +kernel)) (any_subA (l' := []) rfl))     (show inr ((x161_4 + 4)) by omega) (show inr ((muI (z22) (668265263))) by omega) (show (a2) ≤ ((x161_4 + 4)) ∧ ((x161_4 + 4)) ≤ (a3) by omega) (show ((a3) - ((x161_4 + 4))) % 4 = ((a3) - (a2)) % 4 by omega) (show ∃ xp xh, NS1 ((w0)) ((a2)) ((a3) - (a2)) ((a4)) xp xh ∧ nS4n ((w0)) xp (((a3) - (a2)) % 16 / 4).toNat (adI xh ((a3) - (a2))) = nS4n ((w0)) (((x161_4 + 4))) (((a3) - ((x161_4 + 4))) / 4).toNat (((muI (z22) (668265263)))) by assumption) rfl
  refine Ew_of (pc' := 11) (fun _ => x_iload_n rfl (rk_o (rk_o (rfl) rfl rfl) rfl rfl)) ?_
  refine Ew_of (pc' := 12) (fun _ => x_iload_n rfl (rk_o (rk_o (rfl) rfl rfl) rfl rfl)) ?_
  refine w_isub rfl ?_
  refine Ew_of (pc' := 15) (fun _ => x_bipush (z := 16) rfl (by decide)) ?_
  refine w_icmplt (t := 153) rfl rfl (show inr ((a3 - a2)) by omega) (show inr (16) by omega) (fun b24 => ?_) (fun b24 => ?_)
  · have : NS1 ((w0)) ((a2)) ((a3) - (a2)) ((a4)) ((a2)) (((adI (a4) (374761393)))) := by first | exact NS1_n (by omega) (by omega) (by omega) (by rfl) | exact NS1_y (by omega) (by omega) (j46_0.trans (nLn_0 (by omega))) (j46_1.trans (nLn_0 (by omega))) (j46_2.trans (nLn_0 (by omega))) (j46_3.trans (nLn_0 (by omega))) r1_ r2_ r3_ r4_
    exact hc153  _ _ _ _ (a2) ((adI (a4) (374761393))) (rk_o (rk_o (rfl) rfl rfl) rfl rfl) (rk_o (rk_o (rfl) rfl rfl) rfl rfl) (rk_o (rk_o (rfl) rfl rfl) rfl rfl) (rk_o (rk_s) rfl rfl) (rk_s) H O (SF_refl) (SA_refl)     (show inr (a2) by omega) (show inr ((adI (a4) (374761393))) by omega) (show (a2) ≤ (a2) ∧ (a2) ≤ (a3) by omega) (show NS1 ((w0)) ((a2)) ((a3) - (a2)) ((a4)) ((a2)) (((adI (a4) (374761393)))) by assumption)
  · refine Ew_of (pc' := 19) (fun _ => x_iload_n rfl (rk_o (rk_o (rfl) rfl rfl) rfl rfl)) ?_
    refine Ew_of (pc' := 22) (fun _ => x_ldc_w (z := -1640531535) rfl (by decide)) ?_
    refine w_iaddE rfl ?_
    have g25 : inr (adI (a4) ((-1640531535))) := toI_inr _
    refine Ew_of (pc' := 26) (fun _ => x_ldc_w (z := -2048144777) rfl (by decide)) ?_
    refine w_iaddE rfl ?_
    have g26 : inr (adI ((adI (a4) ((-1640531535)))) ((-2048144777))) := toI_inr _
    refine Ew_of (pc' := 29) (fun _ => x_istore rfl) ?_
    refine Ew_of (pc' := 30) (fun _ => x_iload_n rfl (rk_o (rk_o (rk_o (rfl) rfl rfl) rfl rfl) rfl rfl)) ?_
    refine Ew_of (pc' := 33) (fun _ => x_ldc_w (z := -2048144777) rfl (by decide)) ?_
    refine w_iaddE rfl ?_
    have g27 : inr (adI (a4) ((-2048144777))) := toI_inr _
    refine Ew_of (pc' := 36) (fun _ => x_istore rfl) ?_
    refine Ew_of (pc' := 37) (fun _ => x_iload_n rfl (rk_o (rk_o (rk_o (rk_o (rfl) rfl rfl) rfl rfl) rfl rfl) rfl rfl)) ?_
    refine Ew_of (pc' := 39) (fun _ => x_istore rfl) ?_
    refine Ew_of (pc' := 40) (fun _ => x_iload_n rfl (rk_o (rk_o (rk_o (rk_o (rk_o (rfl) rfl rfl) rfl rfl) rfl rfl) rfl rfl) rfl rfl)) ?_
    refine Ew_of (pc' := 43) (fun _ => x_ldc_w (z := -1640531535) rfl (by decide)) ?_
    refine w_isubE rfl ?_
    have g28 : inr (sbI (a4) ((-1640531535))) := toI_inr _
    refine Ew_of (pc' := 46) (fun _ => x_istore rfl) ?_
    have : nLn ((w0)) ((a2)) (((a3) - (a2)) / 16).toNat (adI (adI ((a4)) (-1640531535)) (-2048144777)) = nLn ((w0)) ((a2)) (((a3) - (a2)) / 16).toNat (adI (adI ((a4)) (-1640531535)) (-2048144777)) := rfl
    have : nLn ((w0)) ((a2) + 4) (((a3) - (a2)) / 16).toNat (adI ((a4)) (-2048144777)) = nLn ((w0)) ((a2) + 4) (((a3) - (a2)) / 16).toNat (adI ((a4)) (-2048144777)) := rfl
    have : nLn ((w0)) ((a2) + 8) (((a3) - (a2)) / 16).toNat ((a4)) = nLn ((w0)) ((a2) + 8) (((a3) - (a2)) / 16).toNat ((a4)) := rfl
    have : nLn ((w0)) ((a2) + 12) (((a3) - (a2)) / 16).toNat (sbI ((a4)) (-1640531535)) = nLn ((w0)) ((a2) + 12) (((a3) - (a2)) / 16).toNat (sbI ((a4)) (-1640531535)) := rfl
    suffices hl46 : ∀ (m : Nat), ∀ (ls : rO) (σ : rS) (F_46 : hF) (A_46 : hA) (x46_4 : Int) (x46_6 : Int) (x46_7 : Int) (x46_8 : Int) (x46_9 : Int), rlook ls 0 = some (.ref (D 0)) → rlook ls 1 = some (I (a2)) → rlook ls 2 = some (I (a3)) → rlook ls 4 = some (I (x46_4)) → rlook ls 6 = some (I (x46_6)) → rlook ls 7 = some (I (x46_7)) → rlook ls 8 = some (I (x46_8)) → rlook ls 9 = some (I (x46_9)) → HW V49_Br σ D N F_46 A_46 → OUT (V49_Br).length D N σE c s D N σ c s → SF [] F F_46 → SA [] A A_46 → (inr (x46_4)) → (inr (x46_6)) → (inr (x46_7)) → (inr (x46_8)) → (inr (x46_9)) → ((a2) ≤ (x46_4) ∧ (x46_4) ≤ (a3)) → (((x46_4) - (a2)) % 16 = 0) → (nLn ((w0)) ((a2)) (((a3) - (a2)) / 16).toNat (adI (adI ((a4)) (-1640531535)) (-2048144777)) = nLn ((w0)) ((x46_4)) (((a3) - (x46_4)) / 16).toNat ((x46_6))) → (nLn ((w0)) ((a2) + 4) (((a3) - (a2)) / 16).toNat (adI ((a4)) (-2048144777)) = nLn ((w0)) ((x46_4) + 4) (((a3) - (x46_4)) / 16).toNat ((x46_7))) → (nLn ((w0)) ((a2) + 8) (((a3) - (a2)) / 16).toNat ((a4)) = nLn ((w0)) ((x46_4) + 8) (((a3) - (x46_4)) / 16).toNat ((x46_8))) → (nLn ((w0)) ((a2) + 12) (((a3) - (a2)) / 16).toNat (sbI ((a4)) (-1640531535)) = nLn ((w0)) ((x46_4) + 12) (((a3) - (x46_4)) / 16).toNat ((x46_9))) → ((a3) - (x46_4)).toNat = m → Ew 49 (d + 2) 46 ls [] σ c s Q from
      hl46 _ _ _ _ _ (a2) ((adI ((adI (a4) ((-1640531535)))) ((-2048144777)))) ((adI (a4) ((-2048144777)))) (a4) ((sbI (a4) ((-1640531535)))) (rk_o (rk_o (rk_o (rk_o (rk_o (rk_o (rfl) rfl rfl) rfl rfl) rfl rfl) rfl rfl) rfl rfl) rfl rfl) (rk_o (rk_o (rk_o (rk_o (rk_o (rk_o (rfl) rfl rfl) rfl rfl) rfl rfl) rfl rfl) rfl rfl) rfl rfl) (rk_o (rk_o (rk_o (rk_o (rk_o (rk_o (rfl) rfl rfl) rfl rfl) rfl rfl) rfl rfl) rfl rfl) rfl rfl) (rk_o (rk_o (rk_o (rk_o (rk_o (rk_s) rfl rfl) rfl rfl) rfl rfl) rfl rfl) rfl rfl) (rk_o (rk_o (rk_o (rk_s) rfl rfl) rfl rfl) rfl rfl) (rk_o (rk_o (rk_s) rfl rfl) rfl rfl) (rk_o (rk_s) rfl rfl) (rk_s) H O (SF_refl) (SA_refl)     (show inr (a2) by omega) (show inr ((adI ((adI (a4) ((-1640531535)))) ((-2048144777)))) by omega) (show inr ((adI (a4) ((-2048144777)))) by omega) (show inr (a4) by omega) (show inr ((sbI (a4) ((-1640531535)))) by omega) (show (a2) ≤ (a2) ∧ (a2) ≤ (a3) by omega) (show ((a2) - (a2)) % 16 = 0 by omega) (show nLn ((w0)) ((a2)) (((a3) - (a2)) / 16).toNat (adI (adI ((a4)) (-1640531535)) (-2048144777)) = nLn ((w0)) ((a2)) (((a3) - (a2)) / 16).toNat (((adI ((adI (a4) ((-1640531535)))) ((-2048144777))))) by assumption) (show nLn ((w0)) ((a2) + 4) (((a3) - (a2)) / 16).toNat (adI ((a4)) (-2048144777)) = nLn ((w0)) ((a2) + 4) (((a3) - (a2)) / 16).toNat (((adI (a4) ((-2048144777))))) by assumption) (show nLn ((w0)) ((a2) + 8) (((a3) - (a2)) / 16).toNat ((a4)) = nLn ((w0)) ((a2) + 8) (((a3) - (a2)) / 16).toNat ((a4)) by assumption) (show nLn ((w0)) ((a2) + 12) (((a3) - (a2)) / 16).toNat (sbI ((a4)) (-1640531535)) = nLn ((w0)) ((a2) + 12) (((a3) - (a2)) / 16).toNat (((sbI (a4) ((-1640531535))))) by assumption) rfl
    as_aux_lemma =>
    intro m
    induction m using Nat.strongRecOn with
    | _ m ih46 =>
      intro ls σ F_46 A_46 x46_4 x46_6 x46_7 x46_8 x46_9 l46_0 l46_1 l46_2 l46_4 l46_6 l46_7 l46_8 l46_9 H O hS_46 hA_46     j46_0 j46_1 j46_2 j46_3 j46_4 j46_5 j46_6 j46_7 j46_8 j46_9 j46_10 hm46
      have j46_0 : nLn ((w0)) ((a2)) (((a3) - (a2)) / 16).toNat (adI (adI ((a4)) (-1640531535)) (-2048144777)) = nLn ((w0)) ((x46_4)) (((a3) - (x46_4)) / 16).toNat ((x46_6)) := by assumption
      have j46_1 : nLn ((w0)) ((a2) + 4) (((a3) - (a2)) / 16).toNat (adI ((a4)) (-2048144777)) = nLn ((w0)) ((x46_4) + 4) (((a3) - (x46_4)) / 16).toNat ((x46_7)) := by assumption
      have j46_2 : nLn ((w0)) ((a2) + 8) (((a3) - (a2)) / 16).toNat ((a4)) = nLn ((w0)) ((x46_4) + 8) (((a3) - (x46_4)) / 16).toNat ((x46_8)) := by assumption
      have j46_3 : nLn ((w0)) ((a2) + 12) (((a3) - (a2)) / 16).toNat (sbI ((a4)) (-1640531535)) = nLn ((w0)) ((x46_4) + 12) (((a3) - (x46_4)) / 16).toNat ((x46_9)) := by assumption
      refine Ew_of (pc' := 47) (fun _ => x_iload_n rfl l46_2) ?_
      refine Ew_of (pc' := 49) (fun _ => x_iload rfl l46_4) ?_
      refine w_isub rfl ?_
      refine Ew_of (pc' := 52) (fun _ => x_bipush (z := 16) rfl (by decide)) ?_
      refine w_icmplt (t := 121) rfl rfl (show inr ((a3 - x46_4)) by omega) (show inr (16) by omega) (fun b29 => ?_) (fun b29 => ?_)
      · refine Ew_of (pc' := 123) (fun _ => x_iload rfl l46_6) ?_
        refine Ew_of (pc' := 124) (fun _ => x_iconst rfl) ?_
        refine w_stat24 rfl rfl (by rfl) (C46 (D := pul [] D) (N := pul [] N) (HW_sub H (VS_of (show vsub V49_Br V46 [] = true by decide +kernel))) (show inr (x46_6) by omega) (show inr (1) by omega) (show 0 ≤ (1) ∧ (1) ≤ 32 by omega) (fun z30 σ30 F30' A30' H' O' hS30 hA30 pz30_0 pz30_1 => ⟨rfl, ?_⟩))
        refine v_back (c := c) (s := s) H (show vsub V49_Br V46 [] = true by decide +kernel) H' O' (fun F30 A30 H O' eF30 eA30 => ?_)
        have O := OUT_trans O O'
        -- PackHouse.rotated
        have r1_ := pz30_1
        refine Ew_of (pc' := 129) (fun _ => x_iload rfl l46_7) ?_
        refine Ew_of (pc' := 131) (fun _ => x_bipush (z := 7) rfl (by decide)) ?_
        refine w_stat24 rfl rfl (by rfl) (C46 (D := pul [] D) (N := pul [] N) (HW_sub H (VS_of (show vsub V49_Br V46 [] = true by decide +kernel))) (show inr (x46_7) by omega) (show inr (7) by omega) (show 0 ≤ (7) ∧ (7) ≤ 32 by omega) (fun z31 σ31 F31' A31' H' O' hS31 hA31 pz31_0 pz31_1 => ⟨rfl, ?_⟩))
        refine v_back (c := c) (s := s) H (show vsub V49_Br V46 [] = true by decide +kernel) H' O' (fun F31 A31 H O' eF31 eA31 => ?_)
        have O := OUT_trans O O'
        -- PackHouse.rotated
        have r2_ := pz31_1
        refine w_iaddE rfl ?_
        have g32 : inr (adI (z30) (z31)) := toI_inr _
        refine Ew_of (pc' := 137) (fun _ => x_iload rfl l46_8) ?_
        refine Ew_of (pc' := 139) (fun _ => x_bipush (z := 12) rfl (by decide)) ?_
        refine w_stat24 rfl rfl (by rfl) (C46 (D := pul [] D) (N := pul [] N) (HW_sub H (VS_of (show vsub V49_Br V46 [] = true by decide +kernel))) (show inr (x46_8) by omega) (show inr (12) by omega) (show 0 ≤ (12) ∧ (12) ≤ 32 by omega) (fun z33 σ33 F33' A33' H' O' hS33 hA33 pz33_0 pz33_1 => ⟨rfl, ?_⟩))
        refine v_back (c := c) (s := s) H (show vsub V49_Br V46 [] = true by decide +kernel) H' O' (fun F33 A33 H O' eF33 eA33 => ?_)
        have O := OUT_trans O O'
        -- PackHouse.rotated
        have r3_ := pz33_1
        refine w_iaddE rfl ?_
        have g34 : inr (adI ((adI (z30) (z31))) (z33)) := toI_inr _
        refine Ew_of (pc' := 145) (fun _ => x_iload rfl l46_9) ?_
        refine Ew_of (pc' := 147) (fun _ => x_bipush (z := 18) rfl (by decide)) ?_
        refine w_stat24 rfl rfl (by rfl) (C46 (D := pul [] D) (N := pul [] N) (HW_sub H (VS_of (show vsub V49_Br V46 [] = true by decide +kernel))) (show inr (x46_9) by omega) (show inr (18) by omega) (show 0 ≤ (18) ∧ (18) ≤ 32 by omega) (fun z35 σ35 F35' A35' H' O' hS35 hA35 pz35_0 pz35_1 => ⟨rfl, ?_⟩))
        refine v_back (c := c) (s := s) H (show vsub V49_Br V46 [] = true by decide +kernel) H' O' (fun F35 A35 H O' eF35 eA35 => ?_)
        have O := OUT_trans O O'
        -- PackHouse.rotated
        have r4_ := pz35_1
        refine w_iaddE rfl ?_
        have g36 : inr (adI ((adI ((adI (z30) (z31))) (z33))) (z35)) := toI_inr _
        refine Ew_of (pc' := 153) (fun _ => x_istore rfl) ?_
        have : NS1 ((w0)) ((a2)) ((a3) - (a2)) ((a4)) ((x46_4)) (((adI ((adI ((adI (z30) (z31))) (z33))) (z35)))) := by first | exact NS1_n (by omega) (by omega) (by omega) (by rfl) | exact NS1_y (by omega) (by omega) (j46_0.trans (nLn_0 (by omega))) (j46_1.trans (nLn_0 (by omega))) (j46_2.trans (nLn_0 (by omega))) (j46_3.trans (nLn_0 (by omega))) r1_ r2_ r3_ r4_
        exact hc153  _ _ _ _ (x46_4) ((adI ((adI ((adI (z30) (z31))) (z33))) (z35))) (rk_o (l46_0) rfl rfl) (rk_o (l46_1) rfl rfl) (rk_o (l46_2) rfl rfl) (rk_o (l46_4) rfl rfl) (rk_s) H O (SF_trans (SF_trans (SF_trans (SF_trans (SF_trans (SF_refl) hS_46 (any_sub rfl)) (SF_glu (ι := []) hS30 eF30 (by decide +kernel)) (any_sub (l' := []) rfl)) (SF_glu (ι := []) hS31 eF31 (by decide +kernel)) (any_sub (l' := []) rfl)) (SF_glu (ι := []) hS33 eF33 (by decide +kernel)) (any_sub (l' := []) rfl)) (SF_glu (ι := []) hS35 eF35 (by decide +kernel)) (any_sub (l' := []) rfl)) (SA_trans (SA_trans (SA_trans (SA_trans (SA_trans (SA_refl) hA_46 (any_subA rfl)) (SA_glu (ι := []) hA30 eA30 (by decide +kernel)) (any_subA (l' := []) rfl)) (SA_glu (ι := []) hA31 eA31 (by decide +kernel)) (any_subA (l' := []) rfl)) (SA_glu (ι := []) hA33 eA33 (by decide +kernel)) (any_subA (l' := []) rfl)) (SA_glu (ι := []) hA35 eA35 (by decide +kernel)) (any_subA (l' := []) rfl))     (show inr (x46_4) by omega) (show inr ((adI ((adI ((adI (z30) (z31))) (z33))) (z35))) by omega) (show (a2) ≤ (x46_4) ∧ (x46_4) ≤ (a3) by omega) (show NS1 ((w0)) ((a2)) ((a3) - (a2)) ((a4)) ((x46_4)) (((adI ((adI ((adI (z30) (z31))) (z33))) (z35)))) by assumption)
      · refine Ew_of (pc' := 57) (fun _ => x_iload rfl l46_6) ?_
        refine Ew_of (pc' := 58) (fun _ => x_aload_n rfl l46_0) ?_
        refine Ew_of (pc' := 60) (fun _ => x_iload rfl l46_4) ?_
        refine w_stat24 rfl rfl (by rfl) (C41_Br (D := pul [0] D) (N := pul [0] N) (HW_sub H (VS_of (show vsub V49_Br V41_Br [0] = true by decide +kernel))) (n0) (en0) (w0) ((funext (hA_46 0 rfl)).trans (ew0)) (show inr (x46_4) by omega) (show 0 ≤ (x46_4) ∧ (x46_4) + 4 ≤ (n0) by omega) (fun z37 σ37 F37' A37' H' O' hS37 hA37 pz37_0 pz37_1 => ⟨rfl, ?_⟩))
        refine v_back (c := c) (s := s) H (show vsub V49_Br V41_Br [0] = true by decide +kernel) H' O' (fun F37 A37 H O' eF37 eA37 => ?_)
        have O := OUT_trans O O'
        -- PackHouse.word
        refine w_stat24 rfl rfl (by rfl) (C48 (D := pul [] D) (N := pul [] N) (HW_sub H (VS_of (show vsub V49_Br V48 [] = true by decide +kernel))) (show inr (x46_6) by omega) (show inr (z37) by omega) (fun z38 σ38 F38' A38' H' O' hS38 hA38 pz38_0 pz38_1 => ⟨rfl, ?_⟩))
        refine v_back (c := c) (s := s) H (show vsub V49_Br V48 [] = true by decide +kernel) H' O' (fun F38 A38 H O' eF38 eA38 => ?_)
        have O := OUT_trans O O'
        -- PackHouse.narrowLane
        have w1 := pz37_1
        have n1_ := pz38_1
        refine Ew_of (pc' := 68) (fun _ => x_istore rfl) ?_
        refine Ew_of (pc' := 70) (fun _ => x_iload rfl (rk_o (l46_7) rfl rfl)) ?_
        refine Ew_of (pc' := 71) (fun _ => x_aload_n rfl (rk_o (l46_0) rfl rfl)) ?_
        refine Ew_of (pc' := 73) (fun _ => x_iload rfl (rk_o (l46_4) rfl rfl)) ?_
        refine Ew_of (pc' := 74) (fun _ => x_iconst rfl) ?_
        refine w_iadd rfl ?_
        refine w_stat24 rfl rfl (by rfl) (C41_Br (D := pul [0] D) (N := pul [0] N) (HW_sub H (VS_of (show vsub V49_Br V41_Br [0] = true by decide +kernel))) (n0) (en0) (w0) (((show A38 0 = A37 0 from (eA38 0))).trans (((show A37 0 = A_46 0 from (eA37 0).trans (funext (hA37 0 rfl)))).trans ((funext (hA_46 0 rfl)).trans (ew0)))) (show inr ((x46_4 + 4)) by omega) (show 0 ≤ ((x46_4 + 4)) ∧ ((x46_4 + 4)) + 4 ≤ (n0) by omega) (fun z39 σ39 F39' A39' H' O' hS39 hA39 pz39_0 pz39_1 => ⟨rfl, ?_⟩))
        refine v_back (c := c) (s := s) H (show vsub V49_Br V41_Br [0] = true by decide +kernel) H' O' (fun F39 A39 H O' eF39 eA39 => ?_)
        have O := OUT_trans O O'
        -- PackHouse.word
        refine w_stat24 rfl rfl (by rfl) (C48 (D := pul [] D) (N := pul [] N) (HW_sub H (VS_of (show vsub V49_Br V48 [] = true by decide +kernel))) (show inr (x46_7) by omega) (show inr (z39) by omega) (fun z40 σ40 F40' A40' H' O' hS40 hA40 pz40_0 pz40_1 => ⟨rfl, ?_⟩))
        refine v_back (c := c) (s := s) H (show vsub V49_Br V48 [] = true by decide +kernel) H' O' (fun F40 A40 H O' eF40 eA40 => ?_)
        have O := OUT_trans O O'
        -- PackHouse.narrowLane
        have w2 := pz39_1
        have n2_ := pz40_1
        refine Ew_of (pc' := 83) (fun _ => x_istore rfl) ?_
        refine Ew_of (pc' := 85) (fun _ => x_iload rfl (rk_o (rk_o (l46_8) rfl rfl) rfl rfl)) ?_
        refine Ew_of (pc' := 86) (fun _ => x_aload_n rfl (rk_o (rk_o (l46_0) rfl rfl) rfl rfl)) ?_
        refine Ew_of (pc' := 88) (fun _ => x_iload rfl (rk_o (rk_o (l46_4) rfl rfl) rfl rfl)) ?_
        refine Ew_of (pc' := 90) (fun _ => x_bipush (z := 8) rfl (by decide)) ?_
        refine w_iadd rfl ?_
        refine w_stat24 rfl rfl (by rfl) (C41_Br (D := pul [0] D) (N := pul [0] N) (HW_sub H (VS_of (show vsub V49_Br V41_Br [0] = true by decide +kernel))) (n0) (en0) (w0) (((show A40 0 = A39 0 from (eA40 0))).trans (((show A39 0 = A38 0 from (eA39 0).trans (funext (hA39 0 rfl)))).trans (((show A38 0 = A37 0 from (eA38 0))).trans (((show A37 0 = A_46 0 from (eA37 0).trans (funext (hA37 0 rfl)))).trans ((funext (hA_46 0 rfl)).trans (ew0)))))) (show inr ((x46_4 + 8)) by omega) (show 0 ≤ ((x46_4 + 8)) ∧ ((x46_4 + 8)) + 4 ≤ (n0) by omega) (fun z41 σ41 F41' A41' H' O' hS41 hA41 pz41_0 pz41_1 => ⟨rfl, ?_⟩))
        refine v_back (c := c) (s := s) H (show vsub V49_Br V41_Br [0] = true by decide +kernel) H' O' (fun F41 A41 H O' eF41 eA41 => ?_)
        have O := OUT_trans O O'
        -- PackHouse.word
        refine w_stat24 rfl rfl (by rfl) (C48 (D := pul [] D) (N := pul [] N) (HW_sub H (VS_of (show vsub V49_Br V48 [] = true by decide +kernel))) (show inr (x46_8) by omega) (show inr (z41) by omega) (fun z42 σ42 F42' A42' H' O' hS42 hA42 pz42_0 pz42_1 => ⟨rfl, ?_⟩))
        refine v_back (c := c) (s := s) H (show vsub V49_Br V48 [] = true by decide +kernel) H' O' (fun F42 A42 H O' eF42 eA42 => ?_)
        have O := OUT_trans O O'
        -- PackHouse.narrowLane
        have w3 := pz41_1
        have n3_ := pz42_1
        refine Ew_of (pc' := 99) (fun _ => x_istore rfl) ?_
        refine Ew_of (pc' := 101) (fun _ => x_iload rfl (rk_o (rk_o (rk_o (l46_9) rfl rfl) rfl rfl) rfl rfl)) ?_
        refine Ew_of (pc' := 102) (fun _ => x_aload_n rfl (rk_o (rk_o (rk_o (l46_0) rfl rfl) rfl rfl) rfl rfl)) ?_
        refine Ew_of (pc' := 104) (fun _ => x_iload rfl (rk_o (rk_o (rk_o (l46_4) rfl rfl) rfl rfl) rfl rfl)) ?_
        refine Ew_of (pc' := 106) (fun _ => x_bipush (z := 12) rfl (by decide)) ?_
        refine w_iadd rfl ?_
        refine w_stat24 rfl rfl (by rfl) (C41_Br (D := pul [0] D) (N := pul [0] N) (HW_sub H (VS_of (show vsub V49_Br V41_Br [0] = true by decide +kernel))) (n0) (en0) (w0) (((show A42 0 = A41 0 from (eA42 0))).trans (((show A41 0 = A40 0 from (eA41 0).trans (funext (hA41 0 rfl)))).trans (((show A40 0 = A39 0 from (eA40 0))).trans (((show A39 0 = A38 0 from (eA39 0).trans (funext (hA39 0 rfl)))).trans (((show A38 0 = A37 0 from (eA38 0))).trans (((show A37 0 = A_46 0 from (eA37 0).trans (funext (hA37 0 rfl)))).trans ((funext (hA_46 0 rfl)).trans (ew0)))))))) (show inr ((x46_4 + 12)) by omega) (show 0 ≤ ((x46_4 + 12)) ∧ ((x46_4 + 12)) + 4 ≤ (n0) by omega) (fun z43 σ43 F43' A43' H' O' hS43 hA43 pz43_0 pz43_1 => ⟨rfl, ?_⟩))
        refine v_back (c := c) (s := s) H (show vsub V49_Br V41_Br [0] = true by decide +kernel) H' O' (fun F43 A43 H O' eF43 eA43 => ?_)
        have O := OUT_trans O O'
        -- PackHouse.word
        refine w_stat24 rfl rfl (by rfl) (C48 (D := pul [] D) (N := pul [] N) (HW_sub H (VS_of (show vsub V49_Br V48 [] = true by decide +kernel))) (show inr (x46_9) by omega) (show inr (z43) by omega) (fun z44 σ44 F44' A44' H' O' hS44 hA44 pz44_0 pz44_1 => ⟨rfl, ?_⟩))
        refine v_back (c := c) (s := s) H (show vsub V49_Br V48 [] = true by decide +kernel) H' O' (fun F44 A44 H O' eF44 eA44 => ?_)
        have O := OUT_trans O O'
        -- PackHouse.narrowLane
        have w4 := pz43_1
        have n4_ := pz44_1
        refine Ew_of (pc' := 115) (fun _ => x_istore rfl) ?_
        refine Ew_of (pc' := 118) (fun _ => x_iinc (len := 3) rfl (rk_o (rk_o (rk_o (rk_o (l46_4) rfl rfl) rfl rfl) rfl rfl) rfl rfl)) ?_
        refine Ew_of (pc' := 46) (fun _ => x_goto rfl rfl) ?_
        have : nLn ((w0)) ((a2)) (((a3) - (a2)) / 16).toNat (adI (adI ((a4)) (-1640531535)) (-2048144777)) = nLn ((w0)) (((x46_4 + 16))) (((a3) - ((x46_4 + 16))) / 16).toNat ((z38)) := j46_0.trans (nLn_s (by omega) (by rw [n1_, w1]) (by omega))
        have : nLn ((w0)) ((a2) + 4) (((a3) - (a2)) / 16).toNat (adI ((a4)) (-2048144777)) = nLn ((w0)) (((x46_4 + 16)) + 4) (((a3) - ((x46_4 + 16))) / 16).toNat ((z40)) := j46_1.trans (nLn_s (by omega) (by rw [n2_, w2]) (by omega))
        have : nLn ((w0)) ((a2) + 8) (((a3) - (a2)) / 16).toNat ((a4)) = nLn ((w0)) (((x46_4 + 16)) + 8) (((a3) - ((x46_4 + 16))) / 16).toNat ((z42)) := j46_2.trans (nLn_s (by omega) (by rw [n3_, w3]) (by omega))
        have : nLn ((w0)) ((a2) + 12) (((a3) - (a2)) / 16).toNat (sbI ((a4)) (-1640531535)) = nLn ((w0)) (((x46_4 + 16)) + 12) (((a3) - ((x46_4 + 16))) / 16).toNat ((z44)) := j46_3.trans (nLn_s (by omega) (by rw [n4_, w4]) (by omega))
        exact ih46 _ (by omega) _ _ _ _ ((x46_4 + 16)) (z38) (z40) (z42) (z44) (rk_o (rk_o (rk_o (rk_o (rk_o (l46_0) rfl rfl) rfl rfl) rfl rfl) rfl rfl) rfl rfl) (rk_o (rk_o (rk_o (rk_o (rk_o (l46_1) rfl rfl) rfl rfl) rfl rfl) rfl rfl) rfl rfl) (rk_o (rk_o (rk_o (rk_o (rk_o (l46_2) rfl rfl) rfl rfl) rfl rfl) rfl rfl) rfl rfl) (rk_s) (rk_o (rk_o (rk_o (rk_o (rk_s) rfl rfl) rfl rfl) rfl rfl) rfl rfl) (rk_o (rk_o (rk_o (rk_s) rfl rfl) rfl rfl) rfl rfl) (rk_o (rk_o (rk_s) rfl rfl) rfl rfl) (rk_o (rk_s) rfl rfl) H O (SF_trans (SF_trans (SF_trans (SF_trans (SF_trans (SF_trans (SF_trans (SF_trans (hS_46) (SF_glu (ι := [0]) hS37 eF37 (by decide +kernel)) (any_sub (l' := []) rfl)) (SF_glu (ι := []) hS38 eF38 (by decide +kernel)) (any_sub (l' := []) rfl)) (SF_glu (ι := [0]) hS39 eF39 (by decide +kernel)) (any_sub (l' := []) rfl)) (SF_glu (ι := []) hS40 eF40 (by decide +kernel)) (any_sub (l' := []) rfl)) (SF_glu (ι := [0]) hS41 eF41 (by decide +kernel)) (any_sub (l' := []) rfl)) (SF_glu (ι := []) hS42 eF42 (by decide +kernel)) (any_sub (l' := []) rfl)) (SF_glu (ι := [0]) hS43 eF43 (by decide +kernel)) (any_sub (l' := []) rfl)) (SF_glu (ι := []) hS44 eF44 (by decide +kernel)) (any_sub (l' := []) rfl)) (SA_trans (SA_trans (SA_trans (SA_trans (SA_trans (SA_trans (SA_trans (SA_trans (hA_46) (SA_glu (ι := [0]) hA37 eA37 (by decide +kernel)) (any_subA (l' := []) rfl)) (SA_glu (ι := []) hA38 eA38 (by decide +kernel)) (any_subA (l' := []) rfl)) (SA_glu (ι := [0]) hA39 eA39 (by decide +kernel)) (any_subA (l' := []) rfl)) (SA_glu (ι := []) hA40 eA40 (by decide +kernel)) (any_subA (l' := []) rfl)) (SA_glu (ι := [0]) hA41 eA41 (by decide +kernel)) (any_subA (l' := []) rfl)) (SA_glu (ι := []) hA42 eA42 (by decide +kernel)) (any_subA (l' := []) rfl)) (SA_glu (ι := [0]) hA43 eA43 (by decide +kernel)) (any_subA (l' := []) rfl)) (SA_glu (ι := []) hA44 eA44 (by decide +kernel)) (any_subA (l' := []) rfl))     (show inr ((x46_4 + 16)) by omega) (show inr (z38) by omega) (show inr (z40) by omega) (show inr (z42) by omega) (show inr (z44) by omega) (show (a2) ≤ ((x46_4 + 16)) ∧ ((x46_4 + 16)) ≤ (a3) by omega) (show (((x46_4 + 16)) - (a2)) % 16 = 0 by omega) (show nLn ((w0)) ((a2)) (((a3) - (a2)) / 16).toNat (adI (adI ((a4)) (-1640531535)) (-2048144777)) = nLn ((w0)) (((x46_4 + 16))) (((a3) - ((x46_4 + 16))) / 16).toNat ((z38)) by assumption) (show nLn ((w0)) ((a2) + 4) (((a3) - (a2)) / 16).toNat (adI ((a4)) (-2048144777)) = nLn ((w0)) (((x46_4 + 16)) + 4) (((a3) - ((x46_4 + 16))) / 16).toNat ((z40)) by assumption) (show nLn ((w0)) ((a2) + 8) (((a3) - (a2)) / 16).toNat ((a4)) = nLn ((w0)) (((x46_4 + 16)) + 8) (((a3) - ((x46_4 + 16))) / 16).toNat ((z42)) by assumption) (show nLn ((w0)) ((a2) + 12) (((a3) - (a2)) / 16).toNat (sbI ((a4)) (-1640531535)) = nLn ((w0)) (((x46_4 + 16)) + 12) (((a3) - ((x46_4 + 16))) / 16).toNat ((z44)) by assumption) rfl
abbrev V52_Br : vV := [(1, 0, [])]
/-- PackHouse.wideRest: #1 -/
theorem C52_Br {σE : rS} {D N : Nat → Nat} {F : hF} {A : hA} {d c s : Nat} {Q : wQ} (H : HW V52_Br σE D N F A) {a2 a3 a4 : Int} (n0 : Int) (en0 : (N 0 : Int) = n0) (w0 : Int → Int) (ew0 : A 0 = w0) (h0 : inr (a2)) (h1 : inr (a3)) (h2 : inrJ (a4)) (h3 : 0 ≤ (a2) ∧ (a2) ≤ (a3) ∧ (a3) ≤ (n0)) (k : ∀ (z : Int) (σ : rS) (F' : hF) (A' : hA), HW V52_Br σ D N F' A' → OUT (V52_Br).length D N σE c s D N σ c s → SF [] F F' → SA [] A A' → (inrJ (z)) → ((z) = WRS ((w0)) ((a2)) ((a3)) ((a4))) → Q (some (J z)) σ c s) : Ew 52 (d + 2) 0 (rargs 0 [.ref (D 0), I a2, I a3, J a4]) [] σE c s Q := by
  have O := OUT_refl (n := (V52_Br).length) (D := D) (N := N) (σ := σE) (c := c) (s := s)
  have HE := H
  have r1 : (0 : Int) ≤ n0 ∧ n0 ≤ 1000000 := by have h1 := H.nle 0 (by decide); have h2 : (N 0 : Int) = n0 := en0; omega
  refine Ew_of (pc' := 1) (fun _ => x_iload_n rfl rfl) ?_
  refine Ew_of (pc' := 3) (fun _ => x_istore rfl) ?_
  refine Ew_of (pc' := 4) (fun _ => x_lload_n rfl (rk_o (rfl) rfl rfl)) ?_
  refine Ew_of (pc' := 6) (fun _ => x_lstore rfl) ?_
  have : WRI8 ((w0)) ((a2)) ((a3)) ((a4)) ((a2)) ((a4)) := WRI8_0 (by omega)
  suffices hl6 : ∀ (m : Nat), ∀ (ls : rO) (σ : rS) (F_6 : hF) (A_6 : hA) (x6_5 : Int) (x6_6 : Int), rlook ls 0 = some (.ref (D 0)) → rlook ls 2 = some (I (a3)) → rlook ls 5 = some (I (x6_5)) → rlook ls 6 = some (J (x6_6)) → HW V52_Br σ D N F_6 A_6 → OUT (V52_Br).length D N σE c s D N σ c s → SF [] F F_6 → SA [] A A_6 → (inr (x6_5)) → (inrJ (x6_6)) → ((a2) ≤ (x6_5) ∧ (x6_5) ≤ (a3)) → (WRI8 ((w0)) ((a2)) ((a3)) ((a4)) ((x6_5)) ((x6_6))) → ((a3) - (x6_5)).toNat = m → Ew 52 (d + 2) 6 ls [] σ c s Q from
    hl6 _ _ _ _ _ (a2) (a4) (rk2_o (rk_o (rfl) rfl rfl) rfl rfl) (rk2_o (rk_o (rfl) rfl rfl) rfl rfl) (rk2_o (rk_s) rfl rfl) (rk2_s) H O (SF_refl) (SA_refl)     (show inr (a2) by omega) (show inrJ (a4) by omega) (show (a2) ≤ (a2) ∧ (a2) ≤ (a3) by omega) (show WRI8 ((w0)) ((a2)) ((a3)) ((a4)) ((a2)) ((a4)) by assumption) rfl
  as_aux_lemma =>
  intro m
  induction m using Nat.strongRecOn with
  | _ m ih6 =>
    intro ls σ F_6 A_6 x6_5 x6_6 l6_0 l6_2 l6_5 l6_6 H O hS_6 hA_6     j6_0 j6_1 j6_2 j6_3 hm6
    have j6_q : WRI8 ((w0)) ((a2)) ((a3)) ((a4)) ((x6_5)) ((x6_6)) := by assumption
    refine Ew_of (pc' := 7) (fun _ => x_iload_n rfl l6_2) ?_
    refine Ew_of (pc' := 9) (fun _ => x_iload rfl l6_5) ?_
    refine w_isub rfl ?_
    refine Ew_of (pc' := 12) (fun _ => x_bipush (z := 8) rfl (by decide)) ?_
    refine w_icmplt (t := 51) rfl rfl (show inr ((a3 - x6_5)) by omega) (show inr (8) by omega) (fun b2 => ?_) (fun b2 => ?_)
    · refine Ew_of (pc' := 52) (fun _ => x_iload_n rfl l6_2) ?_
      refine Ew_of (pc' := 54) (fun _ => x_iload rfl l6_5) ?_
      refine w_isub rfl ?_
      refine Ew_of (pc' := 56) (fun _ => x_iconst rfl) ?_
      refine w_icmplt (t := 91) rfl rfl (show inr ((a3 - x6_5)) by omega) (show inr (4) by omega) (fun b3 => ?_) (fun b3 => ?_)
      · have : WRI1 ((w0)) ((a2)) ((a3)) ((a4)) ((x6_5)) ((x6_6)) := by first | exact WRI1_n j6_q (by omega) | exact WRI1_y j6_q (by omega) (w4_c n4_ r4_) (by omega)
        suffices hl91 : ∀ (m : Nat), ∀ (ls : rO) (σ : rS) (F_91 : hF) (A_91 : hA) (x91_5 : Int) (x91_6 : Int), rlook ls 0 = some (.ref (D 0)) → rlook ls 2 = some (I (a3)) → rlook ls 5 = some (I (x91_5)) → rlook ls 6 = some (J (x91_6)) → HW V52_Br σ D N F_91 A_91 → OUT (V52_Br).length D N σE c s D N σ c s → SF [] F_6 F_91 → SA [] A_6 A_91 → (inr (x91_5)) → (inrJ (x91_6)) → ((a2) ≤ (x91_5) ∧ (x91_5) ≤ (a3)) → (WRI1 ((w0)) ((a2)) ((a3)) ((a4)) ((x91_5)) ((x91_6))) → ((a3) - (x91_5)).toNat = m → Ew 52 (d + 2) 91 ls [] σ c s Q from
          hl91 _ _ _ _ _ (x6_5) (x6_6) (l6_0) (l6_2) (l6_5) (l6_6) H O (SF_refl) (SA_refl)     (show inr (x6_5) by omega) (show inrJ (x6_6) by omega) (show (a2) ≤ (x6_5) ∧ (x6_5) ≤ (a3) by omega) (show WRI1 ((w0)) ((a2)) ((a3)) ((a4)) ((x6_5)) ((x6_6)) by assumption) rfl
        as_aux_lemma =>
        intro m
        induction m using Nat.strongRecOn with
        | _ m ih91 =>
          intro ls σ F_91 A_91 x91_5 x91_6 l91_0 l91_2 l91_5 l91_6 H O hS_91 hA_91     j91_0 j91_1 j91_2 j91_3 hm91
          have j91_q : WRI1 ((w0)) ((a2)) ((a3)) ((a4)) ((x91_5)) ((x91_6)) := by assumption
          refine Ew_of (pc' := 93) (fun _ => x_iload rfl l91_5) ?_
          refine Ew_of (pc' := 94) (fun _ => x_iload_n rfl l91_2) ?_
          refine w_icmpge (t := 130) rfl rfl (show inr (x91_5) by omega) (show inr (a3) by omega) (fun b4 => ?_) (fun b4 => ?_)
          · refine Ew_of (pc' := 132) (fun _ => x_lload rfl l91_6) ?_
            refine Ew_of (pc' := 134) (fun _ => x_lload rfl l91_6) ?_
            refine Ew_of (pc' := 136) (fun _ => x_bipush (z := 33) rfl (by decide)) ?_
            refine w_lushrE rfl ?_
            have g5 : inrJ (usJ (x91_6) (33)) := toJ_inr _
            refine w_lxorE rfl ?_
            have g6 : inrJ (xoJ (x91_6) ((usJ (x91_6) (33)))) := toJ_inr _
            refine Ew_of (pc' := 141) (fun _ => x_ldc2 (z := -4417276706812531889) rfl (by decide)) ?_
            refine w_lmulE rfl ?_
            have g7 : inrJ (muJ ((xoJ (x91_6) ((usJ (x91_6) (33))))) ((-4417276706812531889))) := toJ_inr _
            refine Ew_of (pc' := 144) (fun _ => x_lstore rfl) ?_
            refine Ew_of (pc' := 146) (fun _ => x_lload rfl rk2_s) ?_
            refine Ew_of (pc' := 148) (fun _ => x_lload rfl rk2_s) ?_
            refine Ew_of (pc' := 150) (fun _ => x_bipush (z := 29) rfl (by decide)) ?_
            refine w_lushrE rfl ?_
            have g8 : inrJ (usJ ((muJ ((xoJ (x91_6) ((usJ (x91_6) (33))))) ((-4417276706812531889)))) (29)) := toJ_inr _
            refine w_lxorE rfl ?_
            have g9 : inrJ (xoJ ((muJ ((xoJ (x91_6) ((usJ (x91_6) (33))))) ((-4417276706812531889)))) ((usJ ((muJ ((xoJ (x91_6) ((usJ (x91_6) (33))))) ((-4417276706812531889)))) (29)))) := toJ_inr _
            refine Ew_of (pc' := 155) (fun _ => x_ldc2 (z := 1609587929392839161) rfl (by decide)) ?_
            refine w_lmulE rfl ?_
            have g10 : inrJ (muJ ((xoJ ((muJ ((xoJ (x91_6) ((usJ (x91_6) (33))))) ((-4417276706812531889)))) ((usJ ((muJ ((xoJ (x91_6) ((usJ (x91_6) (33))))) ((-4417276706812531889)))) (29))))) (1609587929392839161)) := toJ_inr _
            refine Ew_of (pc' := 158) (fun _ => x_lstore rfl) ?_
            refine Ew_of (pc' := 160) (fun _ => x_lload rfl rk2_s) ?_
            refine Ew_of (pc' := 162) (fun _ => x_lload rfl rk2_s) ?_
            refine Ew_of (pc' := 164) (fun _ => x_bipush (z := 32) rfl (by decide)) ?_
            refine w_lushrE rfl ?_
            have g11 : inrJ (usJ ((muJ ((xoJ ((muJ ((xoJ (x91_6) ((usJ (x91_6) (33))))) ((-4417276706812531889)))) ((usJ ((muJ ((xoJ (x91_6) ((usJ (x91_6) (33))))) ((-4417276706812531889)))) (29))))) (1609587929392839161))) (32)) := toJ_inr _
            refine w_lxorE rfl ?_
            have g12 : inrJ (xoJ ((muJ ((xoJ ((muJ ((xoJ (x91_6) ((usJ (x91_6) (33))))) ((-4417276706812531889)))) ((usJ ((muJ ((xoJ (x91_6) ((usJ (x91_6) (33))))) ((-4417276706812531889)))) (29))))) (1609587929392839161))) ((usJ ((muJ ((xoJ ((muJ ((xoJ (x91_6) ((usJ (x91_6) (33))))) ((-4417276706812531889)))) ((usJ ((muJ ((xoJ (x91_6) ((usJ (x91_6) (33))))) ((-4417276706812531889)))) (29))))) (1609587929392839161))) (32)))) := toJ_inr _
            have : ((xoJ ((muJ ((xoJ ((muJ ((xoJ (x91_6) ((usJ (x91_6) (33))))) ((-4417276706812531889)))) ((usJ ((muJ ((xoJ (x91_6) ((usJ (x91_6) (33))))) ((-4417276706812531889)))) (29))))) (1609587929392839161))) ((usJ ((muJ ((xoJ ((muJ ((xoJ (x91_6) ((usJ (x91_6) (33))))) ((-4417276706812531889)))) ((usJ ((muJ ((xoJ (x91_6) ((usJ (x91_6) (33))))) ((-4417276706812531889)))) (29))))) (1609587929392839161))) (32))))) = WRS ((w0)) ((a2)) ((a3)) ((a4)) := WRI1_e j91_q (by omega)
            exact w_lreturn rfl (k ((xoJ ((muJ ((xoJ ((muJ ((xoJ (x91_6) ((usJ (x91_6) (33))))) ((-4417276706812531889)))) ((usJ ((muJ ((xoJ (x91_6) ((usJ (x91_6) (33))))) ((-4417276706812531889)))) (29))))) (1609587929392839161))) ((usJ ((muJ ((xoJ ((muJ ((xoJ (x91_6) ((usJ (x91_6) (33))))) ((-4417276706812531889)))) ((usJ ((muJ ((xoJ (x91_6) ((usJ (x91_6) (33))))) ((-4417276706812531889)))) (29))))) (1609587929392839161))) (32))))) _ _ _ H O (SF_trans (SF_trans (SF_refl) hS_6 (any_sub rfl)) hS_91 (any_sub rfl)) (SA_trans (SA_trans (SA_refl) hA_6 (any_subA rfl)) hA_91 (any_subA rfl)) (show inrJ ((xoJ ((muJ ((xoJ ((muJ ((xoJ (x91_6) ((usJ (x91_6) (33))))) ((-4417276706812531889)))) ((usJ ((muJ ((xoJ (x91_6) ((usJ (x91_6) (33))))) ((-4417276706812531889)))) (29))))) (1609587929392839161))) ((usJ ((muJ ((xoJ ((muJ ((xoJ (x91_6) ((usJ (x91_6) (33))))) ((-4417276706812531889)))) ((usJ ((muJ ((xoJ (x91_6) ((usJ (x91_6) (33))))) ((-4417276706812531889)))) (29))))) (1609587929392839161))) (32))))) by omega) (show ((xoJ ((muJ ((xoJ ((muJ ((xoJ (x91_6) ((usJ (x91_6) (33))))) ((-4417276706812531889)))) ((usJ ((muJ ((xoJ (x91_6) ((usJ (x91_6) (33))))) ((-4417276706812531889)))) (29))))) (1609587929392839161))) ((usJ ((muJ ((xoJ ((muJ ((xoJ (x91_6) ((usJ (x91_6) (33))))) ((-4417276706812531889)))) ((usJ ((muJ ((xoJ (x91_6) ((usJ (x91_6) (33))))) ((-4417276706812531889)))) (29))))) (1609587929392839161))) (32))))) = WRS ((w0)) (a2) (a3) (a4) by assumption))
          · refine Ew_of (pc' := 99) (fun _ => x_lload rfl l91_6) ?_
            refine Ew_of (pc' := 100) (fun _ => x_aload_n rfl l91_0) ?_
            refine Ew_of (pc' := 102) (fun _ => x_iload rfl l91_5) ?_
            refine v_lB H (o := 0) rfl rfl rfl rfl (n := n0) (en0) (show 0 ≤ x91_5 ∧ x91_5 < n0 by omega) (fun v13 ev13 qv13 => ?_)
            have ev13 : (w0) (x91_5) = v13 := (congrFun ((funext (hA_91 0 rfl)).trans ((funext (hA_6 0 rfl)).trans (ew0))) (x91_5)).symm.trans ev13
            have hvb := ev13
            refine Ew_of (pc' := 106) (fun _ => x_sipush (z := 255) rfl (by decide)) ?_
            refine v_and255 rfl ?_
            refine w_i2l rfl (show inr ((v13 % 256)) by omega) ?_
            refine Ew_of (pc' := 111) (fun _ => x_ldc2 (z := 2870177450012600261) rfl (by decide)) ?_
            refine w_lmulE rfl ?_
            have g14 : inrJ (muJ ((v13 % 256)) (2870177450012600261)) := toJ_inr _
            refine w_lxorE rfl ?_
            have g15 : inrJ (xoJ (x91_6) ((muJ ((v13 % 256)) (2870177450012600261)))) := toJ_inr _
            refine Ew_of (pc' := 115) (fun _ => x_bipush (z := 11) rfl (by decide)) ?_
            refine w_stat24 rfl rfl (by rfl) (C47 (D := pul [] D) (N := pul [] N) (HW_sub H (VS_of (show vsub V52_Br V47 [] = true by decide +kernel))) (show inrJ ((xoJ (x91_6) ((muJ ((v13 % 256)) (2870177450012600261))))) by omega) (show inr (11) by omega) (show 0 ≤ (11) ∧ (11) ≤ 64 by omega) (fun z16 σ16 F16' A16' H' O' hS16 hA16 pz16_0 pz16_1 => ⟨rfl, ?_⟩))
            refine v_back (c := c) (s := s) H (show vsub V52_Br V47 [] = true by decide +kernel) H' O' (fun F16 A16 H O' eF16 eA16 => ?_)
            have O := OUT_trans O O'
            -- PackHouse.rotated
            have r1_ := pz16_1
            refine Ew_of (pc' := 121) (fun _ => x_ldc2 (z := -7046029288634856825) rfl (by decide)) ?_
            refine w_lmulE rfl ?_
            have g17 : inrJ (muJ (z16) ((-7046029288634856825))) := toJ_inr _
            refine Ew_of (pc' := 124) (fun _ => x_lstore rfl) ?_
            refine Ew_of (pc' := 127) (fun _ => x_iinc (len := 3) rfl (rk2_o (l91_5) rfl rfl)) ?_
            refine Ew_of (pc' := 91) (fun _ => x_goto rfl rfl) ?_
            have : WRI1 ((w0)) ((a2)) ((a3)) ((a4)) (((x91_5 + 1))) (((muJ (z16) ((-7046029288634856825))))) := WRI1_s j91_q (by omega) (w1_c hvb r1_) (by omega)
            exact ih91 _ (by omega) _ _ _ _ ((x91_5 + 1)) ((muJ (z16) ((-7046029288634856825)))) (rk_o (rk2_o (l91_0) rfl rfl) rfl rfl) (rk_o (rk2_o (l91_2) rfl rfl) rfl rfl) (rk_s) (rk_o (rk2_s) rfl rfl) H O (SF_trans (hS_91) (SF_glu (ι := []) hS16 eF16 (by decide +kernel)) (any_sub (l' := []) rfl)) (SA_trans (hA_91) (SA_glu (ι := []) hA16 eA16 (by decide +kernel)) (any_subA (l' := []) rfl))     (show inr ((x91_5 + 1)) by omega) (show inrJ ((muJ (z16) ((-7046029288634856825)))) by omega) (show (a2) ≤ ((x91_5 + 1)) ∧ ((x91_5 + 1)) ≤ (a3) by omega) (show WRI1 ((w0)) ((a2)) ((a3)) ((a4)) (((x91_5 + 1))) (((muJ (z16) ((-7046029288634856825))))) by assumption) rfl
      · refine Ew_of (pc' := 61) (fun _ => x_lload rfl l6_6) ?_
        refine Ew_of (pc' := 62) (fun _ => x_aload_n rfl l6_0) ?_
        refine Ew_of (pc' := 64) (fun _ => x_iload rfl l6_5) ?_
        refine Ew_of (pc' := 65) (fun _ => x_iconst rfl) ?_
        refine w_stat24 rfl rfl (by rfl) (C42_Br (D := pul [0] D) (N := pul [0] N) (HW_sub H (VS_of (show vsub V52_Br V42_Br [0] = true by decide +kernel))) (n0) (en0) (w0) ((funext (hA_6 0 rfl)).trans (ew0)) (show inr (x6_5) by omega) (show inr (4) by omega) (show (4) ≤ 0 ∨ 0 ≤ (x6_5) ∧ (x6_5) + (4) ≤ (n0) by omega) (show 0 ≤ (4) ∧ (4) ≤ 8 by omega) (fun z18 σ18 F18' A18' H' O' hS18 hA18 pz18_0 pz18_1 pz18_2 => ⟨rfl, ?_⟩))
        refine v_back (c := c) (s := s) H (show vsub V52_Br V42_Br [0] = true by decide +kernel) H' O' (fun F18 A18 H O' eF18 eA18 => ?_)
        have O := OUT_trans O O'
        -- PackHouse.number
        have n4_ := nmb_4 pz18_2 pz18_0
        refine Ew_of (pc' := 71) (fun _ => x_ldc2 (z := -7046029288634856825) rfl (by decide)) ?_
        refine w_lmulE rfl ?_
        have g19 : inrJ (muJ (z18) ((-7046029288634856825))) := toJ_inr _
        refine w_lxorE rfl ?_
        have g20 : inrJ (xoJ (x6_6) ((muJ (z18) ((-7046029288634856825))))) := toJ_inr _
        refine Ew_of (pc' := 75) (fun _ => x_bipush (z := 23) rfl (by decide)) ?_
        refine w_stat24 rfl rfl (by rfl) (C47 (D := pul [] D) (N := pul [] N) (HW_sub H (VS_of (show vsub V52_Br V47 [] = true by decide +kernel))) (show inrJ ((xoJ (x6_6) ((muJ (z18) ((-7046029288634856825)))))) by omega) (show inr (23) by omega) (show 0 ≤ (23) ∧ (23) ≤ 64 by omega) (fun z21 σ21 F21' A21' H' O' hS21 hA21 pz21_0 pz21_1 => ⟨rfl, ?_⟩))
        refine v_back (c := c) (s := s) H (show vsub V52_Br V47 [] = true by decide +kernel) H' O' (fun F21 A21 H O' eF21 eA21 => ?_)
        have O := OUT_trans O O'
        -- PackHouse.rotated
        have r4_ := pz21_1
        refine Ew_of (pc' := 81) (fun _ => x_ldc2 (z := -4417276706812531889) rfl (by decide)) ?_
        refine w_lmulE rfl ?_
        have g22 : inrJ (muJ (z21) ((-4417276706812531889))) := toJ_inr _
        refine Ew_of (pc' := 85) (fun _ => x_ldc2 (z := 1609587929392839161) rfl (by decide)) ?_
        refine w_laddE rfl ?_
        have g23 : inrJ (adJ ((muJ (z21) ((-4417276706812531889)))) (1609587929392839161)) := toJ_inr _
        refine Ew_of (pc' := 88) (fun _ => x_lstore rfl) ?_
        refine Ew_of (pc' := 91) (fun _ => x_iinc (len := 3) rfl (rk2_o (l6_5) rfl rfl)) ?_
        have : WRI1 ((w0)) ((a2)) ((a3)) ((a4)) (((x6_5 + 4))) (((adJ ((muJ (z21) ((-4417276706812531889)))) (1609587929392839161)))) := by first | exact WRI1_n j6_q (by omega) | exact WRI1_y j6_q (by omega) (w4_c n4_ r4_) (by omega)
        suffices hl91 : ∀ (m : Nat), ∀ (ls : rO) (σ : rS) (F_91 : hF) (A_91 : hA) (x91_5 : Int) (x91_6 : Int), rlook ls 0 = some (.ref (D 0)) → rlook ls 2 = some (I (a3)) → rlook ls 5 = some (I (x91_5)) → rlook ls 6 = some (J (x91_6)) → HW V52_Br σ D N F_91 A_91 → OUT (V52_Br).length D N σE c s D N σ c s → SF [] F21 F_91 → SA [] A21 A_91 → (inr (x91_5)) → (inrJ (x91_6)) → ((a2) ≤ (x91_5) ∧ (x91_5) ≤ (a3)) → (WRI1 ((w0)) ((a2)) ((a3)) ((a4)) ((x91_5)) ((x91_6))) → ((a3) - (x91_5)).toNat = m → Ew 52 (d + 2) 91 ls [] σ c s Q from
          hl91 _ _ _ _ _ ((x6_5 + 4)) ((adJ ((muJ (z21) ((-4417276706812531889)))) (1609587929392839161))) (rk_o (rk2_o (l6_0) rfl rfl) rfl rfl) (rk_o (rk2_o (l6_2) rfl rfl) rfl rfl) (rk_s) (rk_o (rk2_s) rfl rfl) H O (SF_refl) (SA_refl)     (show inr ((x6_5 + 4)) by omega) (show inrJ ((adJ ((muJ (z21) ((-4417276706812531889)))) (1609587929392839161))) by omega) (show (a2) ≤ ((x6_5 + 4)) ∧ ((x6_5 + 4)) ≤ (a3) by omega) (show WRI1 ((w0)) ((a2)) ((a3)) ((a4)) (((x6_5 + 4))) (((adJ ((muJ (z21) ((-4417276706812531889)))) (1609587929392839161)))) by assumption) rfl
        as_aux_lemma =>
        intro m
        induction m using Nat.strongRecOn with
        | _ m ih91 =>
          intro ls σ F_91 A_91 x91_5 x91_6 l91_0 l91_2 l91_5 l91_6 H O hS_91 hA_91     j91_0 j91_1 j91_2 j91_3 hm91
          have j91_q : WRI1 ((w0)) ((a2)) ((a3)) ((a4)) ((x91_5)) ((x91_6)) := by assumption
          refine Ew_of (pc' := 93) (fun _ => x_iload rfl l91_5) ?_
          refine Ew_of (pc' := 94) (fun _ => x_iload_n rfl l91_2) ?_
          refine w_icmpge (t := 130) rfl rfl (show inr (x91_5) by omega) (show inr (a3) by omega) (fun b24 => ?_) (fun b24 => ?_)
          · refine Ew_of (pc' := 132) (fun _ => x_lload rfl l91_6) ?_
            refine Ew_of (pc' := 134) (fun _ => x_lload rfl l91_6) ?_
            refine Ew_of (pc' := 136) (fun _ => x_bipush (z := 33) rfl (by decide)) ?_
            refine w_lushrE rfl ?_
            have g25 : inrJ (usJ (x91_6) (33)) := toJ_inr _
            refine w_lxorE rfl ?_
            have g26 : inrJ (xoJ (x91_6) ((usJ (x91_6) (33)))) := toJ_inr _
            refine Ew_of (pc' := 141) (fun _ => x_ldc2 (z := -4417276706812531889) rfl (by decide)) ?_
            refine w_lmulE rfl ?_
            have g27 : inrJ (muJ ((xoJ (x91_6) ((usJ (x91_6) (33))))) ((-4417276706812531889))) := toJ_inr _
            refine Ew_of (pc' := 144) (fun _ => x_lstore rfl) ?_
            refine Ew_of (pc' := 146) (fun _ => x_lload rfl rk2_s) ?_
            refine Ew_of (pc' := 148) (fun _ => x_lload rfl rk2_s) ?_
            refine Ew_of (pc' := 150) (fun _ => x_bipush (z := 29) rfl (by decide)) ?_
            refine w_lushrE rfl ?_
            have g28 : inrJ (usJ ((muJ ((xoJ (x91_6) ((usJ (x91_6) (33))))) ((-4417276706812531889)))) (29)) := toJ_inr _
            refine w_lxorE rfl ?_
            have g29 : inrJ (xoJ ((muJ ((xoJ (x91_6) ((usJ (x91_6) (33))))) ((-4417276706812531889)))) ((usJ ((muJ ((xoJ (x91_6) ((usJ (x91_6) (33))))) ((-4417276706812531889)))) (29)))) := toJ_inr _
            refine Ew_of (pc' := 155) (fun _ => x_ldc2 (z := 1609587929392839161) rfl (by decide)) ?_
            refine w_lmulE rfl ?_
            have g30 : inrJ (muJ ((xoJ ((muJ ((xoJ (x91_6) ((usJ (x91_6) (33))))) ((-4417276706812531889)))) ((usJ ((muJ ((xoJ (x91_6) ((usJ (x91_6) (33))))) ((-4417276706812531889)))) (29))))) (1609587929392839161)) := toJ_inr _
            refine Ew_of (pc' := 158) (fun _ => x_lstore rfl) ?_
            refine Ew_of (pc' := 160) (fun _ => x_lload rfl rk2_s) ?_
            refine Ew_of (pc' := 162) (fun _ => x_lload rfl rk2_s) ?_
            refine Ew_of (pc' := 164) (fun _ => x_bipush (z := 32) rfl (by decide)) ?_
            refine w_lushrE rfl ?_
            have g31 : inrJ (usJ ((muJ ((xoJ ((muJ ((xoJ (x91_6) ((usJ (x91_6) (33))))) ((-4417276706812531889)))) ((usJ ((muJ ((xoJ (x91_6) ((usJ (x91_6) (33))))) ((-4417276706812531889)))) (29))))) (1609587929392839161))) (32)) := toJ_inr _
            refine w_lxorE rfl ?_
            have g32 : inrJ (xoJ ((muJ ((xoJ ((muJ ((xoJ (x91_6) ((usJ (x91_6) (33))))) ((-4417276706812531889)))) ((usJ ((muJ ((xoJ (x91_6) ((usJ (x91_6) (33))))) ((-4417276706812531889)))) (29))))) (1609587929392839161))) ((usJ ((muJ ((xoJ ((muJ ((xoJ (x91_6) ((usJ (x91_6) (33))))) ((-4417276706812531889)))) ((usJ ((muJ ((xoJ (x91_6) ((usJ (x91_6) (33))))) ((-4417276706812531889)))) (29))))) (1609587929392839161))) (32)))) := toJ_inr _
            have : ((xoJ ((muJ ((xoJ ((muJ ((xoJ (x91_6) ((usJ (x91_6) (33))))) ((-4417276706812531889)))) ((usJ ((muJ ((xoJ (x91_6) ((usJ (x91_6) (33))))) ((-4417276706812531889)))) (29))))) (1609587929392839161))) ((usJ ((muJ ((xoJ ((muJ ((xoJ (x91_6) ((usJ (x91_6) (33))))) ((-4417276706812531889)))) ((usJ ((muJ ((xoJ (x91_6) ((usJ (x91_6) (33))))) ((-4417276706812531889)))) (29))))) (1609587929392839161))) (32))))) = WRS ((w0)) ((a2)) ((a3)) ((a4)) := WRI1_e j91_q (by omega)
            exact w_lreturn rfl (k ((xoJ ((muJ ((xoJ ((muJ ((xoJ (x91_6) ((usJ (x91_6) (33))))) ((-4417276706812531889)))) ((usJ ((muJ ((xoJ (x91_6) ((usJ (x91_6) (33))))) ((-4417276706812531889)))) (29))))) (1609587929392839161))) ((usJ ((muJ ((xoJ ((muJ ((xoJ (x91_6) ((usJ (x91_6) (33))))) ((-4417276706812531889)))) ((usJ ((muJ ((xoJ (x91_6) ((usJ (x91_6) (33))))) ((-4417276706812531889)))) (29))))) (1609587929392839161))) (32))))) _ _ _ H O (SF_trans (SF_trans (SF_trans (SF_trans (SF_refl) hS_6 (any_sub rfl)) (SF_glu (ι := [0]) hS18 eF18 (by decide +kernel)) (any_sub (l' := []) rfl)) (SF_glu (ι := []) hS21 eF21 (by decide +kernel)) (any_sub (l' := []) rfl)) hS_91 (any_sub rfl)) (SA_trans (SA_trans (SA_trans (SA_trans (SA_refl) hA_6 (any_subA rfl)) (SA_glu (ι := [0]) hA18 eA18 (by decide +kernel)) (any_subA (l' := []) rfl)) (SA_glu (ι := []) hA21 eA21 (by decide +kernel)) (any_subA (l' := []) rfl)) hA_91 (any_subA rfl)) (show inrJ ((xoJ ((muJ ((xoJ ((muJ ((xoJ (x91_6) ((usJ (x91_6) (33))))) ((-4417276706812531889)))) ((usJ ((muJ ((xoJ (x91_6) ((usJ (x91_6) (33))))) ((-4417276706812531889)))) (29))))) (1609587929392839161))) ((usJ ((muJ ((xoJ ((muJ ((xoJ (x91_6) ((usJ (x91_6) (33))))) ((-4417276706812531889)))) ((usJ ((muJ ((xoJ (x91_6) ((usJ (x91_6) (33))))) ((-4417276706812531889)))) (29))))) (1609587929392839161))) (32))))) by omega) (show ((xoJ ((muJ ((xoJ ((muJ ((xoJ (x91_6) ((usJ (x91_6) (33))))) ((-4417276706812531889)))) ((usJ ((muJ ((xoJ (x91_6) ((usJ (x91_6) (33))))) ((-4417276706812531889)))) (29))))) (1609587929392839161))) ((usJ ((muJ ((xoJ ((muJ ((xoJ (x91_6) ((usJ (x91_6) (33))))) ((-4417276706812531889)))) ((usJ ((muJ ((xoJ (x91_6) ((usJ (x91_6) (33))))) ((-4417276706812531889)))) (29))))) (1609587929392839161))) (32))))) = WRS ((w0)) (a2) (a3) (a4) by assumption))
          · refine Ew_of (pc' := 99) (fun _ => x_lload rfl l91_6) ?_
            refine Ew_of (pc' := 100) (fun _ => x_aload_n rfl l91_0) ?_
            refine Ew_of (pc' := 102) (fun _ => x_iload rfl l91_5) ?_
            refine v_lB H (o := 0) rfl rfl rfl rfl (n := n0) (en0) (show 0 ≤ x91_5 ∧ x91_5 < n0 by omega) (fun v33 ev33 qv33 => ?_)
            have ev33 : (w0) (x91_5) = v33 := (congrFun ((funext (hA_91 0 rfl)).trans (((show A21 0 = A18 0 from (eA21 0))).trans (((show A18 0 = A_6 0 from (eA18 0).trans (funext (hA18 0 rfl)))).trans ((funext (hA_6 0 rfl)).trans (ew0))))) (x91_5)).symm.trans ev33
            have hvb := ev33
            refine Ew_of (pc' := 106) (fun _ => x_sipush (z := 255) rfl (by decide)) ?_
            refine v_and255 rfl ?_
            refine w_i2l rfl (show inr ((v33 % 256)) by omega) ?_
            refine Ew_of (pc' := 111) (fun _ => x_ldc2 (z := 2870177450012600261) rfl (by decide)) ?_
            refine w_lmulE rfl ?_
            have g34 : inrJ (muJ ((v33 % 256)) (2870177450012600261)) := toJ_inr _
            refine w_lxorE rfl ?_
            have g35 : inrJ (xoJ (x91_6) ((muJ ((v33 % 256)) (2870177450012600261)))) := toJ_inr _
            refine Ew_of (pc' := 115) (fun _ => x_bipush (z := 11) rfl (by decide)) ?_
            refine w_stat24 rfl rfl (by rfl) (C47 (D := pul [] D) (N := pul [] N) (HW_sub H (VS_of (show vsub V52_Br V47 [] = true by decide +kernel))) (show inrJ ((xoJ (x91_6) ((muJ ((v33 % 256)) (2870177450012600261))))) by omega) (show inr (11) by omega) (show 0 ≤ (11) ∧ (11) ≤ 64 by omega) (fun z36 σ36 F36' A36' H' O' hS36 hA36 pz36_0 pz36_1 => ⟨rfl, ?_⟩))
            refine v_back (c := c) (s := s) H (show vsub V52_Br V47 [] = true by decide +kernel) H' O' (fun F36 A36 H O' eF36 eA36 => ?_)
            have O := OUT_trans O O'
            -- PackHouse.rotated
            have r1_ := pz36_1
            refine Ew_of (pc' := 121) (fun _ => x_ldc2 (z := -7046029288634856825) rfl (by decide)) ?_
            refine w_lmulE rfl ?_
            have g37 : inrJ (muJ (z36) ((-7046029288634856825))) := toJ_inr _
            refine Ew_of (pc' := 124) (fun _ => x_lstore rfl) ?_
            refine Ew_of (pc' := 127) (fun _ => x_iinc (len := 3) rfl (rk2_o (l91_5) rfl rfl)) ?_
            refine Ew_of (pc' := 91) (fun _ => x_goto rfl rfl) ?_
            have : WRI1 ((w0)) ((a2)) ((a3)) ((a4)) (((x91_5 + 1))) (((muJ (z36) ((-7046029288634856825))))) := WRI1_s j91_q (by omega) (w1_c hvb r1_) (by omega)
            exact ih91 _ (by omega) _ _ _ _ ((x91_5 + 1)) ((muJ (z36) ((-7046029288634856825)))) (rk_o (rk2_o (l91_0) rfl rfl) rfl rfl) (rk_o (rk2_o (l91_2) rfl rfl) rfl rfl) (rk_s) (rk_o (rk2_s) rfl rfl) H O (SF_trans (hS_91) (SF_glu (ι := []) hS36 eF36 (by decide +kernel)) (any_sub (l' := []) rfl)) (SA_trans (hA_91) (SA_glu (ι := []) hA36 eA36 (by decide +kernel)) (any_subA (l' := []) rfl))     (show inr ((x91_5 + 1)) by omega) (show inrJ ((muJ (z36) ((-7046029288634856825)))) by omega) (show (a2) ≤ ((x91_5 + 1)) ∧ ((x91_5 + 1)) ≤ (a3) by omega) (show WRI1 ((w0)) ((a2)) ((a3)) ((a4)) (((x91_5 + 1))) (((muJ (z36) ((-7046029288634856825))))) by assumption) rfl
    · refine Ew_of (pc' := 17) (fun _ => x_lload rfl l6_6) ?_
      refine Ew_of (pc' := 18) (fun _ => x_lconst (z := 0) rfl (by decide)) ?_
      refine Ew_of (pc' := 19) (fun _ => x_aload_n rfl l6_0) ?_
      refine Ew_of (pc' := 21) (fun _ => x_iload rfl l6_5) ?_
      refine Ew_of (pc' := 23) (fun _ => x_bipush (z := 8) rfl (by decide)) ?_
      refine w_stat24 rfl rfl (by rfl) (C42_Br (D := pul [0] D) (N := pul [0] N) (HW_sub H (VS_of (show vsub V52_Br V42_Br [0] = true by decide +kernel))) (n0) (en0) (w0) ((funext (hA_6 0 rfl)).trans (ew0)) (show inr (x6_5) by omega) (show inr (8) by omega) (show (8) ≤ 0 ∨ 0 ≤ (x6_5) ∧ (x6_5) + (8) ≤ (n0) by omega) (show 0 ≤ (8) ∧ (8) ≤ 8 by omega) (fun z38 σ38 F38' A38' H' O' hS38 hA38 pz38_0 pz38_1 pz38_2 => ⟨rfl, ?_⟩))
      refine v_back (c := c) (s := s) H (show vsub V52_Br V42_Br [0] = true by decide +kernel) H' O' (fun F38 A38 H O' eF38 eA38 => ?_)
      have O := OUT_trans O O'
      -- PackHouse.number
      have n8_ := nmb_8 pz38_2 pz38_0
      refine w_stat24 rfl rfl (by rfl) (C50 (D := pul [] D) (N := pul [] N) (HW_sub H (VS_of (show vsub V52_Br V50 [] = true by decide +kernel))) (show inrJ (0) by omega) (show inrJ (z38) by omega) (fun z39 σ39 F39' A39' H' O' hS39 hA39 pz39_0 pz39_1 => ⟨rfl, ?_⟩))
      refine v_back (c := c) (s := s) H (show vsub V52_Br V50 [] = true by decide +kernel) H' O' (fun F39 A39 H O' eF39 eA39 => ?_)
      have O := OUT_trans O O'
      -- PackHouse.wideLane
      have z8_ := pz39_1
      refine w_lxorE rfl ?_
      have g40 : inrJ (xoJ (x6_6) (z39)) := toJ_inr _
      refine Ew_of (pc' := 32) (fun _ => x_bipush (z := 27) rfl (by decide)) ?_
      refine w_stat24 rfl rfl (by rfl) (C47 (D := pul [] D) (N := pul [] N) (HW_sub H (VS_of (show vsub V52_Br V47 [] = true by decide +kernel))) (show inrJ ((xoJ (x6_6) (z39))) by omega) (show inr (27) by omega) (show 0 ≤ (27) ∧ (27) ≤ 64 by omega) (fun z41 σ41 F41' A41' H' O' hS41 hA41 pz41_0 pz41_1 => ⟨rfl, ?_⟩))
      refine v_back (c := c) (s := s) H (show vsub V52_Br V47 [] = true by decide +kernel) H' O' (fun F41 A41 H O' eF41 eA41 => ?_)
      have O := OUT_trans O O'
      -- PackHouse.rotated
      have r8_ := pz41_1
      refine Ew_of (pc' := 38) (fun _ => x_ldc2 (z := -7046029288634856825) rfl (by decide)) ?_
      refine w_lmulE rfl ?_
      have g42 : inrJ (muJ (z41) ((-7046029288634856825))) := toJ_inr _
      refine Ew_of (pc' := 42) (fun _ => x_ldc2 (z := -8796714831421723037) rfl (by decide)) ?_
      refine w_laddE rfl ?_
      have g43 : inrJ (adJ ((muJ (z41) ((-7046029288634856825)))) ((-8796714831421723037))) := toJ_inr _
      refine Ew_of (pc' := 45) (fun _ => x_lstore rfl) ?_
      refine Ew_of (pc' := 48) (fun _ => x_iinc (len := 3) rfl (rk2_o (l6_5) rfl rfl)) ?_
      refine Ew_of (pc' := 6) (fun _ => x_goto rfl rfl) ?_
      have : WRI8 ((w0)) ((a2)) ((a3)) ((a4)) (((x6_5 + 8))) (((adJ ((muJ (z41) ((-7046029288634856825)))) ((-8796714831421723037))))) := WRI8_s j6_q (by omega) (w8_c n8_ z8_ r8_) (by omega)
      exact ih6 _ (by omega) _ _ _ _ ((x6_5 + 8)) ((adJ ((muJ (z41) ((-7046029288634856825)))) ((-8796714831421723037)))) (rk_o (rk2_o (l6_0) rfl rfl) rfl rfl) (rk_o (rk2_o (l6_2) rfl rfl) rfl rfl) (rk_s) (rk_o (rk2_s) rfl rfl) H O (SF_trans (SF_trans (SF_trans (hS_6) (SF_glu (ι := [0]) hS38 eF38 (by decide +kernel)) (any_sub (l' := []) rfl)) (SF_glu (ι := []) hS39 eF39 (by decide +kernel)) (any_sub (l' := []) rfl)) (SF_glu (ι := []) hS41 eF41 (by decide +kernel)) (any_sub (l' := []) rfl)) (SA_trans (SA_trans (SA_trans (hA_6) (SA_glu (ι := [0]) hA38 eA38 (by decide +kernel)) (any_subA (l' := []) rfl)) (SA_glu (ι := []) hA39 eA39 (by decide +kernel)) (any_subA (l' := []) rfl)) (SA_glu (ι := []) hA41 eA41 (by decide +kernel)) (any_subA (l' := []) rfl))     (show inr ((x6_5 + 8)) by omega) (show inrJ ((adJ ((muJ (z41) ((-7046029288634856825)))) ((-8796714831421723037)))) by omega) (show (a2) ≤ ((x6_5 + 8)) ∧ ((x6_5 + 8)) ≤ (a3) by omega) (show WRI8 ((w0)) ((a2)) ((a3)) ((a4)) (((x6_5 + 8))) (((adJ ((muJ (z41) ((-7046029288634856825)))) ((-8796714831421723037))))) by assumption) rfl
abbrev V51_Br : vV := [(1, 0, [])]
/-- PackHouse.wideSum: #1 -/
theorem C51_Br {σE : rS} {D N : Nat → Nat} {F : hF} {A : hA} {d c s : Nat} {Q : wQ} (H : HW V51_Br σE D N F A) {a2 a3 a4 : Int} (n0 : Int) (en0 : (N 0 : Int) = n0) (w0 : Int → Int) (ew0 : A 0 = w0) (h0 : inr (a2)) (h1 : inr (a3)) (h2 : inrJ (a4)) (h3 : 0 ≤ (a2) ∧ (a2) ≤ (a3) ∧ (a3) ≤ (n0)) (k : ∀ (z : Int) (σ : rS) (F' : hF) (A' : hA), HW V51_Br σ D N F' A' → OUT (V51_Br).length D N σE c s D N σ c s → SF [] F F' → SA [] A A' → (inrJ (z)) → ((z) = WDS ((w0)) ((a2)) ((a3) - (a2)) ((a4))) → Q (some (J z)) σ c s) : Ew 51 (d + 3) 0 (rargs 0 [.ref (D 0), I a2, I a3, J a4]) [] σE c s Q := by
  have O := OUT_refl (n := (V51_Br).length) (D := D) (N := N) (σ := σE) (c := c) (s := s)
  have HE := H
  have r1 : (0 : Int) ≤ n0 ∧ n0 ≤ 1000000 := by have h1 := H.nle 0 (by decide); have h2 : (N 0 : Int) = n0 := en0; omega
  refine Ew_of (pc' := 1) (fun _ => x_iload_n rfl rfl) ?_
  refine Ew_of (pc' := 3) (fun _ => x_istore rfl) ?_
  refine Ew_of (pc' := 4) (fun _ => x_lload_n rfl (rk_o (rfl) rfl rfl)) ?_
  refine Ew_of (pc' := 7) (fun _ => x_ldc2 (z := 2870177450012600261) rfl (by decide)) ?_
  refine w_laddE rfl ?_
  have g2 : inrJ (adJ (a4) (2870177450012600261)) := toJ_inr _
  refine Ew_of (pc' := 10) (fun _ => x_lstore rfl) ?_
  have hc238 : ∀ (ls : rO) (σ : rS) (F_c238 : hF) (A_c238 : hA) (xc238_5 : Int) (xc238_6 : Int), rlook ls 0 = some (.ref (D 0)) → rlook ls 1 = some (I (a2)) → rlook ls 2 = some (I (a3)) → rlook ls 5 = some (I (xc238_5)) → rlook ls 6 = some (J (xc238_6)) → HW V51_Br σ D N F_c238 A_c238 → OUT (V51_Br).length D N σE c s D N σ c s → SF [] F F_c238 → SA [] A A_c238 → (inr (xc238_5)) → (inrJ (xc238_6)) → ((a2) ≤ (xc238_5) ∧ (xc238_5) ≤ (a3)) → (WS1 ((w0)) ((a2)) ((a3) - (a2)) ((a4)) ((xc238_5)) ((xc238_6))) → Ew 51 (d + 3) 238 ls [] σ c s Q := by
   as_aux_lemma =>
    intro  ls σ F_c238 A_c238 xc238_5 xc238_6 lc238_0 lc238_1 lc238_2 lc238_5 lc238_6 H O hS_c238 hA_c238     jc238_0 jc238_1 jc238_2 jc238_3
    have hc1 : WS1 ((w0)) ((a2)) ((a3) - (a2)) ((a4)) ((xc238_5)) ((xc238_6)) := by assumption
    refine Ew_of (pc' := 239) (fun _ => x_aload_n rfl lc238_0) ?_
    refine Ew_of (pc' := 241) (fun _ => x_iload rfl lc238_5) ?_
    refine Ew_of (pc' := 242) (fun _ => x_iload_n rfl lc238_2) ?_
    refine Ew_of (pc' := 244) (fun _ => x_lload rfl lc238_6) ?_
    refine Ew_of (pc' := 245) (fun _ => x_iload_n rfl lc238_2) ?_
    refine Ew_of (pc' := 246) (fun _ => x_iload_n rfl lc238_1) ?_
    refine w_isub rfl ?_
    refine w_i2l rfl (show inr ((a3 - a2)) by omega) ?_
    refine w_laddE rfl ?_
    have g3 : inrJ (adJ (xc238_6) ((a3 - a2))) := toJ_inr _
    refine w_stat24 rfl rfl (by rfl) (C52_Br (D := pul [0] D) (N := pul [0] N) (HW_sub H (VS_of (show vsub V51_Br V52_Br [0] = true by decide +kernel))) (n0) (en0) (w0) ((funext (hA_c238 0 rfl)).trans (ew0)) (show inr (xc238_5) by omega) (show inr (a3) by omega) (show inrJ ((adJ (xc238_6) ((a3 - a2)))) by omega) (show 0 ≤ (xc238_5) ∧ (xc238_5) ≤ (a3) ∧ (a3) ≤ (n0) by omega) (fun z4 σ4 F4' A4' H' O' hS4 hA4 pz4_0 pz4_1 => ⟨rfl, ?_⟩))
    refine v_back (c := c) (s := s) H (show vsub V51_Br V52_Br [0] = true by decide +kernel) H' O' (fun F4 A4 H O' eF4 eA4 => ?_)
    have O := OUT_trans O O'
    -- PackHouse.wideRest
    have : (z4) = WDS ((w0)) ((a2)) ((a3) - (a2)) ((a4)) := WDS_of hc1 pz4_1 (by omega)
    exact w_lreturn rfl (k (z4) _ _ _ H O (SF_trans (SF_trans (SF_refl) hS_c238 (any_sub rfl)) (SF_glu (ι := [0]) hS4 eF4 (by decide +kernel)) (any_sub (l' := []) rfl)) (SA_trans (SA_trans (SA_refl) hA_c238 (any_subA rfl)) (SA_glu (ι := [0]) hA4 eA4 (by decide +kernel)) (any_subA (l' := []) rfl)) (show inrJ (z4) by omega) (show (z4) = WDS ((w0)) (a2) (a3 - a2) (a4) by assumption))
  refine Ew_of (pc' := 11) (fun _ => x_iload_n rfl (rk2_o (rk_o (rfl) rfl rfl) rfl rfl)) ?_
  refine Ew_of (pc' := 12) (fun _ => x_iload_n rfl (rk2_o (rk_o (rfl) rfl rfl) rfl rfl)) ?_
  refine w_isub rfl ?_
  refine Ew_of (pc' := 15) (fun _ => x_bipush (z := 32) rfl (by decide)) ?_
  refine w_icmplt (t := 238) rfl rfl (show inr ((a3 - a2)) by omega) (show inr (32) by omega) (fun b5 => ?_) (fun b5 => ?_)
  · have : WS1 ((w0)) ((a2)) ((a3) - (a2)) ((a4)) ((a2)) (((adJ (a4) (2870177450012600261)))) := by first | exact WS1_n (by omega) (by omega) (by omega) (by rfl) | exact WS1_y (by omega) (by omega) (j46_0.trans (wLn_0 (by omega))) (j46_1.trans (wLn_0 (by omega))) (j46_2.trans (wLn_0 (by omega))) (j46_3.trans (wLn_0 (by omega))) r1_ r2_ r3_ r4_ i1_ i2_ i3_ i4_
    exact hc238  _ _ _ _ (a2) ((adJ (a4) (2870177450012600261))) (rk2_o (rk_o (rfl) rfl rfl) rfl rfl) (rk2_o (rk_o (rfl) rfl rfl) rfl rfl) (rk2_o (rk_o (rfl) rfl rfl) rfl rfl) (rk2_o (rk_s) rfl rfl) (rk2_s) H O (SF_refl) (SA_refl)     (show inr (a2) by omega) (show inrJ ((adJ (a4) (2870177450012600261))) by omega) (show (a2) ≤ (a2) ∧ (a2) ≤ (a3) by omega) (show WS1 ((w0)) ((a2)) ((a3) - (a2)) ((a4)) ((a2)) (((adJ (a4) (2870177450012600261)))) by assumption)
  · refine Ew_of (pc' := 19) (fun _ => x_lload_n rfl (rk2_o (rk_o (rfl) rfl rfl) rfl rfl)) ?_
    refine Ew_of (pc' := 22) (fun _ => x_ldc2 (z := -7046029288634856825) rfl (by decide)) ?_
    refine w_laddE rfl ?_
    have g6 : inrJ (adJ (a4) ((-7046029288634856825))) := toJ_inr _
    refine Ew_of (pc' := 26) (fun _ => x_ldc2 (z := -4417276706812531889) rfl (by decide)) ?_
    refine w_laddE rfl ?_
    have g7 : inrJ (adJ ((adJ (a4) ((-7046029288634856825)))) ((-4417276706812531889))) := toJ_inr _
    refine Ew_of (pc' := 29) (fun _ => x_lstore rfl) ?_
    refine Ew_of (pc' := 30) (fun _ => x_lload_n rfl (rk2_o (rk2_o (rk_o (rfl) rfl rfl) rfl rfl) rfl rfl)) ?_
    refine Ew_of (pc' := 33) (fun _ => x_ldc2 (z := -4417276706812531889) rfl (by decide)) ?_
    refine w_laddE rfl ?_
    have g8 : inrJ (adJ (a4) ((-4417276706812531889))) := toJ_inr _
    refine Ew_of (pc' := 36) (fun _ => x_lstore rfl) ?_
    refine Ew_of (pc' := 37) (fun _ => x_lload_n rfl (rk2_o (rk2_o (rk2_o (rk_o (rfl) rfl rfl) rfl rfl) rfl rfl) rfl rfl)) ?_
    refine Ew_of (pc' := 39) (fun _ => x_lstore rfl) ?_
    refine Ew_of (pc' := 40) (fun _ => x_lload_n rfl (rk2_o (rk2_o (rk2_o (rk2_o (rk_o (rfl) rfl rfl) rfl rfl) rfl rfl) rfl rfl) rfl rfl)) ?_
    refine Ew_of (pc' := 43) (fun _ => x_ldc2 (z := -7046029288634856825) rfl (by decide)) ?_
    refine w_lsubE rfl ?_
    have g9 : inrJ (sbJ (a4) ((-7046029288634856825))) := toJ_inr _
    refine Ew_of (pc' := 46) (fun _ => x_lstore rfl) ?_
    have : wLn ((w0)) ((a2)) (((a3) - (a2)) / 32).toNat (adJ (adJ ((a4)) (-7046029288634856825)) (-4417276706812531889)) = wLn ((w0)) ((a2)) (((a3) - (a2)) / 32).toNat (adJ (adJ ((a4)) (-7046029288634856825)) (-4417276706812531889)) := rfl
    have : wLn ((w0)) ((a2) + 8) (((a3) - (a2)) / 32).toNat (adJ ((a4)) (-4417276706812531889)) = wLn ((w0)) ((a2) + 8) (((a3) - (a2)) / 32).toNat (adJ ((a4)) (-4417276706812531889)) := rfl
    have : wLn ((w0)) ((a2) + 16) (((a3) - (a2)) / 32).toNat ((a4)) = wLn ((w0)) ((a2) + 16) (((a3) - (a2)) / 32).toNat ((a4)) := rfl
    have : wLn ((w0)) ((a2) + 24) (((a3) - (a2)) / 32).toNat (sbJ ((a4)) (-7046029288634856825)) = wLn ((w0)) ((a2) + 24) (((a3) - (a2)) / 32).toNat (sbJ ((a4)) (-7046029288634856825)) := rfl
    suffices hl46 : ∀ (m : Nat), ∀ (ls : rO) (σ : rS) (F_46 : hF) (A_46 : hA) (x46_5 : Int) (x46_8 : Int) (x46_10 : Int) (x46_12 : Int) (x46_14 : Int), rlook ls 0 = some (.ref (D 0)) → rlook ls 1 = some (I (a2)) → rlook ls 2 = some (I (a3)) → rlook ls 5 = some (I (x46_5)) → rlook ls 8 = some (J (x46_8)) → rlook ls 10 = some (J (x46_10)) → rlook ls 12 = some (J (x46_12)) → rlook ls 14 = some (J (x46_14)) → HW V51_Br σ D N F_46 A_46 → OUT (V51_Br).length D N σE c s D N σ c s → SF [] F F_46 → SA [] A A_46 → (inr (x46_5)) → (inrJ (x46_8)) → (inrJ (x46_10)) → (inrJ (x46_12)) → (inrJ (x46_14)) → ((a2) ≤ (x46_5) ∧ (x46_5) ≤ (a3)) → (((x46_5) - (a2)) % 32 = 0) → (wLn ((w0)) ((a2)) (((a3) - (a2)) / 32).toNat (adJ (adJ ((a4)) (-7046029288634856825)) (-4417276706812531889)) = wLn ((w0)) ((x46_5)) (((a3) - (x46_5)) / 32).toNat ((x46_8))) → (wLn ((w0)) ((a2) + 8) (((a3) - (a2)) / 32).toNat (adJ ((a4)) (-4417276706812531889)) = wLn ((w0)) ((x46_5) + 8) (((a3) - (x46_5)) / 32).toNat ((x46_10))) → (wLn ((w0)) ((a2) + 16) (((a3) - (a2)) / 32).toNat ((a4)) = wLn ((w0)) ((x46_5) + 16) (((a3) - (x46_5)) / 32).toNat ((x46_12))) → (wLn ((w0)) ((a2) + 24) (((a3) - (a2)) / 32).toNat (sbJ ((a4)) (-7046029288634856825)) = wLn ((w0)) ((x46_5) + 24) (((a3) - (x46_5)) / 32).toNat ((x46_14))) → ((a3) - (x46_5)).toNat = m → Ew 51 (d + 3) 46 ls [] σ c s Q from
      hl46 _ _ _ _ _ (a2) ((adJ ((adJ (a4) ((-7046029288634856825)))) ((-4417276706812531889)))) ((adJ (a4) ((-4417276706812531889)))) (a4) ((sbJ (a4) ((-7046029288634856825)))) (rk2_o (rk2_o (rk2_o (rk2_o (rk2_o (rk_o (rfl) rfl rfl) rfl rfl) rfl rfl) rfl rfl) rfl rfl) rfl rfl) (rk2_o (rk2_o (rk2_o (rk2_o (rk2_o (rk_o (rfl) rfl rfl) rfl rfl) rfl rfl) rfl rfl) rfl rfl) rfl rfl) (rk2_o (rk2_o (rk2_o (rk2_o (rk2_o (rk_o (rfl) rfl rfl) rfl rfl) rfl rfl) rfl rfl) rfl rfl) rfl rfl) (rk2_o (rk2_o (rk2_o (rk2_o (rk2_o (rk_s) rfl rfl) rfl rfl) rfl rfl) rfl rfl) rfl rfl) (rk2_o (rk2_o (rk2_o (rk2_s) rfl rfl) rfl rfl) rfl rfl) (rk2_o (rk2_o (rk2_s) rfl rfl) rfl rfl) (rk2_o (rk2_s) rfl rfl) (rk2_s) H O (SF_refl) (SA_refl)     (show inr (a2) by omega) (show inrJ ((adJ ((adJ (a4) ((-7046029288634856825)))) ((-4417276706812531889)))) by omega) (show inrJ ((adJ (a4) ((-4417276706812531889)))) by omega) (show inrJ (a4) by omega) (show inrJ ((sbJ (a4) ((-7046029288634856825)))) by omega) (show (a2) ≤ (a2) ∧ (a2) ≤ (a3) by omega) (show ((a2) - (a2)) % 32 = 0 by omega) (show wLn ((w0)) ((a2)) (((a3) - (a2)) / 32).toNat (adJ (adJ ((a4)) (-7046029288634856825)) (-4417276706812531889)) = wLn ((w0)) ((a2)) (((a3) - (a2)) / 32).toNat (((adJ ((adJ (a4) ((-7046029288634856825)))) ((-4417276706812531889))))) by assumption) (show wLn ((w0)) ((a2) + 8) (((a3) - (a2)) / 32).toNat (adJ ((a4)) (-4417276706812531889)) = wLn ((w0)) ((a2) + 8) (((a3) - (a2)) / 32).toNat (((adJ (a4) ((-4417276706812531889))))) by assumption) (show wLn ((w0)) ((a2) + 16) (((a3) - (a2)) / 32).toNat ((a4)) = wLn ((w0)) ((a2) + 16) (((a3) - (a2)) / 32).toNat ((a4)) by assumption) (show wLn ((w0)) ((a2) + 24) (((a3) - (a2)) / 32).toNat (sbJ ((a4)) (-7046029288634856825)) = wLn ((w0)) ((a2) + 24) (((a3) - (a2)) / 32).toNat (((sbJ (a4) ((-7046029288634856825))))) by assumption) rfl
    as_aux_lemma =>
    intro m
    induction m using Nat.strongRecOn with
    | _ m ih46 =>
      intro ls σ F_46 A_46 x46_5 x46_8 x46_10 x46_12 x46_14 l46_0 l46_1 l46_2 l46_5 l46_8 l46_10 l46_12 l46_14 H O hS_46 hA_46     j46_0 j46_1 j46_2 j46_3 j46_4 j46_5 j46_6 j46_7 j46_8 j46_9 j46_10 hm46
      have j46_0 : wLn ((w0)) ((a2)) (((a3) - (a2)) / 32).toNat (adJ (adJ ((a4)) (-7046029288634856825)) (-4417276706812531889)) = wLn ((w0)) ((x46_5)) (((a3) - (x46_5)) / 32).toNat ((x46_8)) := by assumption
      have j46_1 : wLn ((w0)) ((a2) + 8) (((a3) - (a2)) / 32).toNat (adJ ((a4)) (-4417276706812531889)) = wLn ((w0)) ((x46_5) + 8) (((a3) - (x46_5)) / 32).toNat ((x46_10)) := by assumption
      have j46_2 : wLn ((w0)) ((a2) + 16) (((a3) - (a2)) / 32).toNat ((a4)) = wLn ((w0)) ((x46_5) + 16) (((a3) - (x46_5)) / 32).toNat ((x46_12)) := by assumption
      have j46_3 : wLn ((w0)) ((a2) + 24) (((a3) - (a2)) / 32).toNat (sbJ ((a4)) (-7046029288634856825)) = wLn ((w0)) ((x46_5) + 24) (((a3) - (x46_5)) / 32).toNat ((x46_14)) := by assumption
      refine Ew_of (pc' := 47) (fun _ => x_iload_n rfl l46_2) ?_
      refine Ew_of (pc' := 49) (fun _ => x_iload rfl l46_5) ?_
      refine w_isub rfl ?_
      refine Ew_of (pc' := 52) (fun _ => x_bipush (z := 32) rfl (by decide)) ?_
      refine w_icmplt (t := 130) rfl rfl (show inr ((a3 - x46_5)) by omega) (show inr (32) by omega) (fun b10 => ?_) (fun b10 => ?_)
      · refine Ew_of (pc' := 132) (fun _ => x_lload rfl l46_8) ?_
        refine Ew_of (pc' := 133) (fun _ => x_iconst rfl) ?_
        refine w_stat24 rfl rfl (by rfl) (C47 (D := pul [] D) (N := pul [] N) (HW_sub H (VS_of (show vsub V51_Br V47 [] = true by decide +kernel))) (show inrJ (x46_8) by omega) (show inr (1) by omega) (show 0 ≤ (1) ∧ (1) ≤ 64 by omega) (fun z11 σ11 F11' A11' H' O' hS11 hA11 pz11_0 pz11_1 => ⟨rfl, ?_⟩))
        refine v_back (c := c) (s := s) H (show vsub V51_Br V47 [] = true by decide +kernel) H' O' (fun F11 A11 H O' eF11 eA11 => ?_)
        have O := OUT_trans O O'
        -- PackHouse.rotated
        have r1_ := pz11_1
        refine Ew_of (pc' := 138) (fun _ => x_lload rfl l46_10) ?_
        refine Ew_of (pc' := 140) (fun _ => x_bipush (z := 7) rfl (by decide)) ?_
        refine w_stat24 rfl rfl (by rfl) (C47 (D := pul [] D) (N := pul [] N) (HW_sub H (VS_of (show vsub V51_Br V47 [] = true by decide +kernel))) (show inrJ (x46_10) by omega) (show inr (7) by omega) (show 0 ≤ (7) ∧ (7) ≤ 64 by omega) (fun z12 σ12 F12' A12' H' O' hS12 hA12 pz12_0 pz12_1 => ⟨rfl, ?_⟩))
        refine v_back (c := c) (s := s) H (show vsub V51_Br V47 [] = true by decide +kernel) H' O' (fun F12 A12 H O' eF12 eA12 => ?_)
        have O := OUT_trans O O'
        -- PackHouse.rotated
        have r2_ := pz12_1
        refine w_laddE rfl ?_
        have g13 : inrJ (adJ (z11) (z12)) := toJ_inr _
        refine Ew_of (pc' := 146) (fun _ => x_lload rfl l46_12) ?_
        refine Ew_of (pc' := 148) (fun _ => x_bipush (z := 12) rfl (by decide)) ?_
        refine w_stat24 rfl rfl (by rfl) (C47 (D := pul [] D) (N := pul [] N) (HW_sub H (VS_of (show vsub V51_Br V47 [] = true by decide +kernel))) (show inrJ (x46_12) by omega) (show inr (12) by omega) (show 0 ≤ (12) ∧ (12) ≤ 64 by omega) (fun z14 σ14 F14' A14' H' O' hS14 hA14 pz14_0 pz14_1 => ⟨rfl, ?_⟩))
        refine v_back (c := c) (s := s) H (show vsub V51_Br V47 [] = true by decide +kernel) H' O' (fun F14 A14 H O' eF14 eA14 => ?_)
        have O := OUT_trans O O'
        -- PackHouse.rotated
        have r3_ := pz14_1
        refine w_laddE rfl ?_
        have g15 : inrJ (adJ ((adJ (z11) (z12))) (z14)) := toJ_inr _
        refine Ew_of (pc' := 154) (fun _ => x_lload rfl l46_14) ?_
        refine Ew_of (pc' := 156) (fun _ => x_bipush (z := 18) rfl (by decide)) ?_
        refine w_stat24 rfl rfl (by rfl) (C47 (D := pul [] D) (N := pul [] N) (HW_sub H (VS_of (show vsub V51_Br V47 [] = true by decide +kernel))) (show inrJ (x46_14) by omega) (show inr (18) by omega) (show 0 ≤ (18) ∧ (18) ≤ 64 by omega) (fun z16 σ16 F16' A16' H' O' hS16 hA16 pz16_0 pz16_1 => ⟨rfl, ?_⟩))
        refine v_back (c := c) (s := s) H (show vsub V51_Br V47 [] = true by decide +kernel) H' O' (fun F16 A16 H O' eF16 eA16 => ?_)
        have O := OUT_trans O O'
        -- PackHouse.rotated
        have r4_ := pz16_1
        refine w_laddE rfl ?_
        have g17 : inrJ (adJ ((adJ ((adJ (z11) (z12))) (z14))) (z16)) := toJ_inr _
        refine Ew_of (pc' := 162) (fun _ => x_lstore rfl) ?_
        refine Ew_of (pc' := 164) (fun _ => x_lload rfl rk2_s) ?_
        refine Ew_of (pc' := 165) (fun _ => x_lconst (z := 0) rfl (by decide)) ?_
        refine Ew_of (pc' := 167) (fun _ => x_lload rfl (rk2_o (l46_8) rfl rfl)) ?_
        refine w_stat24 rfl rfl (by rfl) (C50 (D := pul [] D) (N := pul [] N) (HW_sub H (VS_of (show vsub V51_Br V50 [] = true by decide +kernel))) (show inrJ (0) by omega) (show inrJ (x46_8) by omega) (fun z18 σ18 F18' A18' H' O' hS18 hA18 pz18_0 pz18_1 => ⟨rfl, ?_⟩))
        refine v_back (c := c) (s := s) H (show vsub V51_Br V50 [] = true by decide +kernel) H' O' (fun F18 A18 H O' eF18 eA18 => ?_)
        have O := OUT_trans O O'
        -- PackHouse.wideLane
        have i1_ := pz18_1
        refine w_lxorE rfl ?_
        have g19 : inrJ (xoJ ((adJ ((adJ ((adJ (z11) (z12))) (z14))) (z16))) (z18)) := toJ_inr _
        refine Ew_of (pc' := 174) (fun _ => x_ldc2 (z := -7046029288634856825) rfl (by decide)) ?_
        refine w_lmulE rfl ?_
        have g20 : inrJ (muJ ((xoJ ((adJ ((adJ ((adJ (z11) (z12))) (z14))) (z16))) (z18))) ((-7046029288634856825))) := toJ_inr _
        refine Ew_of (pc' := 178) (fun _ => x_ldc2 (z := -8796714831421723037) rfl (by decide)) ?_
        refine w_laddE rfl ?_
        have g21 : inrJ (adJ ((muJ ((xoJ ((adJ ((adJ ((adJ (z11) (z12))) (z14))) (z16))) (z18))) ((-7046029288634856825)))) ((-8796714831421723037))) := toJ_inr _
        refine Ew_of (pc' := 181) (fun _ => x_lstore rfl) ?_
        refine Ew_of (pc' := 183) (fun _ => x_lload rfl rk2_s) ?_
        refine Ew_of (pc' := 184) (fun _ => x_lconst (z := 0) rfl (by decide)) ?_
        refine Ew_of (pc' := 186) (fun _ => x_lload rfl (rk2_o (rk2_o (l46_10) rfl rfl) rfl rfl)) ?_
        refine w_stat24 rfl rfl (by rfl) (C50 (D := pul [] D) (N := pul [] N) (HW_sub H (VS_of (show vsub V51_Br V50 [] = true by decide +kernel))) (show inrJ (0) by omega) (show inrJ (x46_10) by omega) (fun z22 σ22 F22' A22' H' O' hS22 hA22 pz22_0 pz22_1 => ⟨rfl, ?_⟩))
        refine v_back (c := c) (s := s) H (show vsub V51_Br V50 [] = true by decide +kernel) H' O' (fun F22 A22 H O' eF22 eA22 => ?_)
        have O := OUT_trans O O'
        -- PackHouse.wideLane
        have i2_ := pz22_1
        refine w_lxorE rfl ?_
        have g23 : inrJ (xoJ ((adJ ((muJ ((xoJ ((adJ ((adJ ((adJ (z11) (z12))) (z14))) (z16))) (z18))) ((-7046029288634856825)))) ((-8796714831421723037)))) (z22)) := toJ_inr _
        refine Ew_of (pc' := 193) (fun _ => x_ldc2 (z := -7046029288634856825) rfl (by decide)) ?_
        refine w_lmulE rfl ?_
        have g24 : inrJ (muJ ((xoJ ((adJ ((muJ ((xoJ ((adJ ((adJ ((adJ (z11) (z12))) (z14))) (z16))) (z18))) ((-7046029288634856825)))) ((-8796714831421723037)))) (z22))) ((-7046029288634856825))) := toJ_inr _
        refine Ew_of (pc' := 197) (fun _ => x_ldc2 (z := -8796714831421723037) rfl (by decide)) ?_
        refine w_laddE rfl ?_
        have g25 : inrJ (adJ ((muJ ((xoJ ((adJ ((muJ ((xoJ ((adJ ((adJ ((adJ (z11) (z12))) (z14))) (z16))) (z18))) ((-7046029288634856825)))) ((-8796714831421723037)))) (z22))) ((-7046029288634856825)))) ((-8796714831421723037))) := toJ_inr _
        refine Ew_of (pc' := 200) (fun _ => x_lstore rfl) ?_
        refine Ew_of (pc' := 202) (fun _ => x_lload rfl rk2_s) ?_
        refine Ew_of (pc' := 203) (fun _ => x_lconst (z := 0) rfl (by decide)) ?_
        refine Ew_of (pc' := 205) (fun _ => x_lload rfl (rk2_o (rk2_o (rk2_o (l46_12) rfl rfl) rfl rfl) rfl rfl)) ?_
        refine w_stat24 rfl rfl (by rfl) (C50 (D := pul [] D) (N := pul [] N) (HW_sub H (VS_of (show vsub V51_Br V50 [] = true by decide +kernel))) (show inrJ (0) by omega) (show inrJ (x46_12) by omega) (fun z26 σ26 F26' A26' H' O' hS26 hA26 pz26_0 pz26_1 => ⟨rfl, ?_⟩))
        refine v_back (c := c) (s := s) H (show vsub V51_Br V50 [] = true by decide +kernel) H' O' (fun F26 A26 H O' eF26 eA26 => ?_)
        have O := OUT_trans O O'
        -- PackHouse.wideLane
        have i3_ := pz26_1
        refine w_lxorE rfl ?_
        have g27 : inrJ (xoJ ((adJ ((muJ ((xoJ ((adJ ((muJ ((xoJ ((adJ ((adJ ((adJ (z11) (z12))) (z14))) (z16))) (z18))) ((-7046029288634856825)))) ((-8796714831421723037)))) (z22))) ((-7046029288634856825)))) ((-8796714831421723037)))) (z26)) := toJ_inr _
        refine Ew_of (pc' := 212) (fun _ => x_ldc2 (z := -7046029288634856825) rfl (by decide)) ?_
        refine w_lmulE rfl ?_
        have g28 : inrJ (muJ ((xoJ ((adJ ((muJ ((xoJ ((adJ ((muJ ((xoJ ((adJ ((adJ ((adJ (z11) (z12))) (z14))) (z16))) (z18))) ((-7046029288634856825)))) ((-8796714831421723037)))) (z22))) ((-7046029288634856825)))) ((-8796714831421723037)))) (z26))) ((-7046029288634856825))) := toJ_inr _
        refine Ew_of (pc' := 216) (fun _ => x_ldc2 (z := -8796714831421723037) rfl (by decide)) ?_
        refine w_laddE rfl ?_
        have g29 : inrJ (adJ ((muJ ((xoJ ((adJ ((muJ ((xoJ ((adJ ((muJ ((xoJ ((adJ ((adJ ((adJ (z11) (z12))) (z14))) (z16))) (z18))) ((-7046029288634856825)))) ((-8796714831421723037)))) (z22))) ((-7046029288634856825)))) ((-8796714831421723037)))) (z26))) ((-7046029288634856825)))) ((-8796714831421723037))) := toJ_inr _
        refine Ew_of (pc' := 219) (fun _ => x_lstore rfl) ?_
        refine Ew_of (pc' := 221) (fun _ => x_lload rfl rk2_s) ?_
        refine Ew_of (pc' := 222) (fun _ => x_lconst (z := 0) rfl (by decide)) ?_
        refine Ew_of (pc' := 224) (fun _ => x_lload rfl (rk2_o (rk2_o (rk2_o (rk2_o (l46_14) rfl rfl) rfl rfl) rfl rfl) rfl rfl)) ?_
        refine w_stat24 rfl rfl (by rfl) (C50 (D := pul [] D) (N := pul [] N) (HW_sub H (VS_of (show vsub V51_Br V50 [] = true by decide +kernel))) (show inrJ (0) by omega) (show inrJ (x46_14) by omega) (fun z30 σ30 F30' A30' H' O' hS30 hA30 pz30_0 pz30_1 => ⟨rfl, ?_⟩))
        refine v_back (c := c) (s := s) H (show vsub V51_Br V50 [] = true by decide +kernel) H' O' (fun F30 A30 H O' eF30 eA30 => ?_)
        have O := OUT_trans O O'
        -- PackHouse.wideLane
        have i4_ := pz30_1
        refine w_lxorE rfl ?_
        have g31 : inrJ (xoJ ((adJ ((muJ ((xoJ ((adJ ((muJ ((xoJ ((adJ ((muJ ((xoJ ((adJ ((adJ ((adJ (z11) (z12))) (z14))) (z16))) (z18))) ((-7046029288634856825)))) ((-8796714831421723037)))) (z22))) ((-7046029288634856825)))) ((-8796714831421723037)))) (z26))) ((-7046029288634856825)))) ((-8796714831421723037)))) (z30)) := toJ_inr _
        refine Ew_of (pc' := 231) (fun _ => x_ldc2 (z := -7046029288634856825) rfl (by decide)) ?_
        refine w_lmulE rfl ?_
        have g32 : inrJ (muJ ((xoJ ((adJ ((muJ ((xoJ ((adJ ((muJ ((xoJ ((adJ ((muJ ((xoJ ((adJ ((adJ ((adJ (z11) (z12))) (z14))) (z16))) (z18))) ((-7046029288634856825)))) ((-8796714831421723037)))) (z22))) ((-7046029288634856825)))) ((-8796714831421723037)))) (z26))) ((-7046029288634856825)))) ((-8796714831421723037)))) (z30))) ((-7046029288634856825))) := toJ_inr _
        refine Ew_of (pc' := 235) (fun _ => x_ldc2 (z := -8796714831421723037) rfl (by decide)) ?_
        refine w_laddE rfl ?_
        have g33 : inrJ (adJ ((muJ ((xoJ ((adJ ((muJ ((xoJ ((adJ ((muJ ((xoJ ((adJ ((muJ ((xoJ ((adJ ((adJ ((adJ (z11) (z12))) (z14))) (z16))) (z18))) ((-7046029288634856825)))) ((-8796714831421723037)))) (z22))) ((-7046029288634856825)))) ((-8796714831421723037)))) (z26))) ((-7046029288634856825)))) ((-8796714831421723037)))) (z30))) ((-7046029288634856825)))) ((-8796714831421723037))) := toJ_inr _
        refine Ew_of (pc' := 238) (fun _ => x_lstore rfl) ?_
        have : WS1 ((w0)) ((a2)) ((a3) - (a2)) ((a4)) ((x46_5)) (((adJ ((muJ ((xoJ ((adJ ((muJ ((xoJ ((adJ ((muJ ((xoJ ((adJ ((muJ ((xoJ ((adJ ((adJ ((adJ (z11) (z12))) (z14))) (z16))) (z18))) ((-7046029288634856825)))) ((-8796714831421723037)))) (z22))) ((-7046029288634856825)))) ((-8796714831421723037)))) (z26))) ((-7046029288634856825)))) ((-8796714831421723037)))) (z30))) ((-7046029288634856825)))) ((-8796714831421723037))))) := by first | exact WS1_n (by omega) (by omega) (by omega) (by rfl) | exact WS1_y (by omega) (by omega) (j46_0.trans (wLn_0 (by omega))) (j46_1.trans (wLn_0 (by omega))) (j46_2.trans (wLn_0 (by omega))) (j46_3.trans (wLn_0 (by omega))) r1_ r2_ r3_ r4_ i1_ i2_ i3_ i4_
        exact hc238  _ _ _ _ (x46_5) ((adJ ((muJ ((xoJ ((adJ ((muJ ((xoJ ((adJ ((muJ ((xoJ ((adJ ((muJ ((xoJ ((adJ ((adJ ((adJ (z11) (z12))) (z14))) (z16))) (z18))) ((-7046029288634856825)))) ((-8796714831421723037)))) (z22))) ((-7046029288634856825)))) ((-8796714831421723037)))) (z26))) ((-7046029288634856825)))) ((-8796714831421723037)))) (z30))) ((-7046029288634856825)))) ((-8796714831421723037)))) (rk2_o (rk2_o (rk2_o (rk2_o (rk2_o (l46_0) rfl rfl) rfl rfl) rfl rfl) rfl rfl) rfl rfl) (rk2_o (rk2_o (rk2_o (rk2_o (rk2_o (l46_1) rfl rfl) rfl rfl) rfl rfl) rfl rfl) rfl rfl) (rk2_o (rk2_o (rk2_o (rk2_o (rk2_o (l46_2) rfl rfl) rfl rfl) rfl rfl) rfl rfl) rfl rfl) (rk2_o (rk2_o (rk2_o (rk2_o (rk2_o (l46_5) rfl rfl) rfl rfl) rfl rfl) rfl rfl) rfl rfl) (rk2_s) H O (SF_trans (SF_trans (SF_trans (SF_trans (SF_trans (SF_trans (SF_trans (SF_trans (SF_trans (SF_refl) hS_46 (any_sub rfl)) (SF_glu (ι := []) hS11 eF11 (by decide +kernel)) (any_sub (l' := []) rfl)) (SF_glu (ι := []) hS12 eF12 (by decide +kernel)) (any_sub (l' := []) rfl)) (SF_glu (ι := []) hS14 eF14 (by decide +kernel)) (any_sub (l' := []) rfl)) (SF_glu (ι := []) hS16 eF16 (by decide +kernel)) (any_sub (l' := []) rfl)) (SF_glu (ι := []) hS18 eF18 (by decide +kernel)) (any_sub (l' := []) rfl)) (SF_glu (ι := []) hS22 eF22 (by decide +kernel)) (any_sub (l' := []) rfl)) (SF_glu (ι := []) hS26 eF26 (by decide +kernel)) (any_sub (l' := []) rfl)) (SF_glu (ι := []) hS30 eF30 (by decide +kernel)) (any_sub (l' := []) rfl)) (SA_trans (SA_trans (SA_trans (SA_trans (SA_trans (SA_trans (SA_trans (SA_trans (SA_trans (SA_refl) hA_46 (any_subA rfl)) (SA_glu (ι := []) hA11 eA11 (by decide +kernel)) (any_subA (l' := []) rfl)) (SA_glu (ι := []) hA12 eA12 (by decide +kernel)) (any_subA (l' := []) rfl)) (SA_glu (ι := []) hA14 eA14 (by decide +kernel)) (any_subA (l' := []) rfl)) (SA_glu (ι := []) hA16 eA16 (by decide +kernel)) (any_subA (l' := []) rfl)) (SA_glu (ι := []) hA18 eA18 (by decide +kernel)) (any_subA (l' := []) rfl)) (SA_glu (ι := []) hA22 eA22 (by decide +kernel)) (any_subA (l' := []) rfl)) (SA_glu (ι := []) hA26 eA26 (by decide +kernel)) (any_subA (l' := []) rfl)) (SA_glu (ι := []) hA30 eA30 (by decide +kernel)) (any_subA (l' := []) rfl))     (show inr (x46_5) by omega) (show inrJ ((adJ ((muJ ((xoJ ((adJ ((muJ ((xoJ ((adJ ((muJ ((xoJ ((adJ ((muJ ((xoJ ((adJ ((adJ ((adJ (z11) (z12))) (z14))) (z16))) (z18))) ((-7046029288634856825)))) ((-8796714831421723037)))) (z22))) ((-7046029288634856825)))) ((-8796714831421723037)))) (z26))) ((-7046029288634856825)))) ((-8796714831421723037)))) (z30))) ((-7046029288634856825)))) ((-8796714831421723037)))) by omega) (show (a2) ≤ (x46_5) ∧ (x46_5) ≤ (a3) by omega) (show WS1 ((w0)) ((a2)) ((a3) - (a2)) ((a4)) ((x46_5)) (((adJ ((muJ ((xoJ ((adJ ((muJ ((xoJ ((adJ ((muJ ((xoJ ((adJ ((muJ ((xoJ ((adJ ((adJ ((adJ (z11) (z12))) (z14))) (z16))) (z18))) ((-7046029288634856825)))) ((-8796714831421723037)))) (z22))) ((-7046029288634856825)))) ((-8796714831421723037)))) (z26))) ((-7046029288634856825)))) ((-8796714831421723037)))) (z30))) ((-7046029288634856825)))) ((-8796714831421723037))))) by assumption)
      · refine Ew_of (pc' := 57) (fun _ => x_lload rfl l46_8) ?_
        refine Ew_of (pc' := 58) (fun _ => x_aload_n rfl l46_0) ?_
        refine Ew_of (pc' := 60) (fun _ => x_iload rfl l46_5) ?_
        refine Ew_of (pc' := 62) (fun _ => x_bipush (z := 8) rfl (by decide)) ?_
        refine w_stat24 rfl rfl (by rfl) (C42_Br (D := pul [0] D) (N := pul [0] N) (HW_sub H (VS_of (show vsub V51_Br V42_Br [0] = true by decide +kernel))) (n0) (en0) (w0) ((funext (hA_46 0 rfl)).trans (ew0)) (show inr (x46_5) by omega) (show inr (8) by omega) (show (8) ≤ 0 ∨ 0 ≤ (x46_5) ∧ (x46_5) + (8) ≤ (n0) by omega) (show 0 ≤ (8) ∧ (8) ≤ 8 by omega) (fun z34 σ34 F34' A34' H' O' hS34 hA34 pz34_0 pz34_1 pz34_2 => ⟨rfl, ?_⟩))
        refine v_back (c := c) (s := s) H (show vsub V51_Br V42_Br [0] = true by decide +kernel) H' O' (fun F34 A34 H O' eF34 eA34 => ?_)
        have O := OUT_trans O O'
        -- PackHouse.number
        have n1_ := nmb_8 pz34_2 pz34_0
        refine w_stat24 rfl rfl (by rfl) (C50 (D := pul [] D) (N := pul [] N) (HW_sub H (VS_of (show vsub V51_Br V50 [] = true by decide +kernel))) (show inrJ (x46_8) by omega) (show inrJ (z34) by omega) (fun z35 σ35 F35' A35' H' O' hS35 hA35 pz35_0 pz35_1 => ⟨rfl, ?_⟩))
        refine v_back (c := c) (s := s) H (show vsub V51_Br V50 [] = true by decide +kernel) H' O' (fun F35 A35 H O' eF35 eA35 => ?_)
        have O := OUT_trans O O'
        -- PackHouse.wideLane
        have k1_ := pz35_1
        refine Ew_of (pc' := 70) (fun _ => x_lstore rfl) ?_
        refine Ew_of (pc' := 72) (fun _ => x_lload rfl (rk2_o (l46_10) rfl rfl)) ?_
        refine Ew_of (pc' := 73) (fun _ => x_aload_n rfl (rk2_o (l46_0) rfl rfl)) ?_
        refine Ew_of (pc' := 75) (fun _ => x_iload rfl (rk2_o (l46_5) rfl rfl)) ?_
        refine Ew_of (pc' := 77) (fun _ => x_bipush (z := 8) rfl (by decide)) ?_
        refine w_iadd rfl ?_
        refine Ew_of (pc' := 80) (fun _ => x_bipush (z := 8) rfl (by decide)) ?_
        refine w_stat24 rfl rfl (by rfl) (C42_Br (D := pul [0] D) (N := pul [0] N) (HW_sub H (VS_of (show vsub V51_Br V42_Br [0] = true by decide +kernel))) (n0) (en0) (w0) (((show A35 0 = A34 0 from (eA35 0))).trans (((show A34 0 = A_46 0 from (eA34 0).trans (funext (hA34 0 rfl)))).trans ((funext (hA_46 0 rfl)).trans (ew0)))) (show inr ((x46_5 + 8)) by omega) (show inr (8) by omega) (show (8) ≤ 0 ∨ 0 ≤ ((x46_5 + 8)) ∧ ((x46_5 + 8)) + (8) ≤ (n0) by omega) (show 0 ≤ (8) ∧ (8) ≤ 8 by omega) (fun z36 σ36 F36' A36' H' O' hS36 hA36 pz36_0 pz36_1 pz36_2 => ⟨rfl, ?_⟩))
        refine v_back (c := c) (s := s) H (show vsub V51_Br V42_Br [0] = true by decide +kernel) H' O' (fun F36 A36 H O' eF36 eA36 => ?_)
        have O := OUT_trans O O'
        -- PackHouse.number
        have n2_ := nmb_8 pz36_2 pz36_0
        refine w_stat24 rfl rfl (by rfl) (C50 (D := pul [] D) (N := pul [] N) (HW_sub H (VS_of (show vsub V51_Br V50 [] = true by decide +kernel))) (show inrJ (x46_10) by omega) (show inrJ (z36) by omega) (fun z37 σ37 F37' A37' H' O' hS37 hA37 pz37_0 pz37_1 => ⟨rfl, ?_⟩))
        refine v_back (c := c) (s := s) H (show vsub V51_Br V50 [] = true by decide +kernel) H' O' (fun F37 A37 H O' eF37 eA37 => ?_)
        have O := OUT_trans O O'
        -- PackHouse.wideLane
        have k2_ := pz37_1
        refine Ew_of (pc' := 88) (fun _ => x_lstore rfl) ?_
        refine Ew_of (pc' := 90) (fun _ => x_lload rfl (rk2_o (rk2_o (l46_12) rfl rfl) rfl rfl)) ?_
        refine Ew_of (pc' := 91) (fun _ => x_aload_n rfl (rk2_o (rk2_o (l46_0) rfl rfl) rfl rfl)) ?_
        refine Ew_of (pc' := 93) (fun _ => x_iload rfl (rk2_o (rk2_o (l46_5) rfl rfl) rfl rfl)) ?_
        refine Ew_of (pc' := 95) (fun _ => x_bipush (z := 16) rfl (by decide)) ?_
        refine w_iadd rfl ?_
        refine Ew_of (pc' := 98) (fun _ => x_bipush (z := 8) rfl (by decide)) ?_
        refine w_stat24 rfl rfl (by rfl) (C42_Br (D := pul [0] D) (N := pul [0] N) (HW_sub H (VS_of (show vsub V51_Br V42_Br [0] = true by decide +kernel))) (n0) (en0) (w0) (((show A37 0 = A36 0 from (eA37 0))).trans (((show A36 0 = A35 0 from (eA36 0).trans (funext (hA36 0 rfl)))).trans (((show A35 0 = A34 0 from (eA35 0))).trans (((show A34 0 = A_46 0 from (eA34 0).trans (funext (hA34 0 rfl)))).trans ((funext (hA_46 0 rfl)).trans (ew0)))))) (show inr ((x46_5 + 16)) by omega) (show inr (8) by omega) (show (8) ≤ 0 ∨ 0 ≤ ((x46_5 + 16)) ∧ ((x46_5 + 16)) + (8) ≤ (n0) by omega) (show 0 ≤ (8) ∧ (8) ≤ 8 by omega) (fun z38 σ38 F38' A38' H' O' hS38 hA38 pz38_0 pz38_1 pz38_2 => ⟨rfl, ?_⟩))
        refine v_back (c := c) (s := s) H (show vsub V51_Br V42_Br [0] = true by decide +kernel) H' O' (fun F38 A38 H O' eF38 eA38 => ?_)
        have O := OUT_trans O O'
        -- PackHouse.number
        have n3_ := nmb_8 pz38_2 pz38_0
        refine w_stat24 rfl rfl (by rfl) (C50 (D := pul [] D) (N := pul [] N) (HW_sub H (VS_of (show vsub V51_Br V50 [] = true by decide +kernel))) (show inrJ (x46_12) by omega) (show inrJ (z38) by omega) (fun z39 σ39 F39' A39' H' O' hS39 hA39 pz39_0 pz39_1 => ⟨rfl, ?_⟩))
        refine v_back (c := c) (s := s) H (show vsub V51_Br V50 [] = true by decide +kernel) H' O' (fun F39 A39 H O' eF39 eA39 => ?_)
        have O := OUT_trans O O'
        -- PackHouse.wideLane
        have k3_ := pz39_1
        refine Ew_of (pc' := 106) (fun _ => x_lstore rfl) ?_
        refine Ew_of (pc' := 108) (fun _ => x_lload rfl (rk2_o (rk2_o (rk2_o (l46_14) rfl rfl) rfl rfl) rfl rfl)) ?_
        refine Ew_of (pc' := 109) (fun _ => x_aload_n rfl (rk2_o (rk2_o (rk2_o (l46_0) rfl rfl) rfl rfl) rfl rfl)) ?_
        refine Ew_of (pc' := 111) (fun _ => x_iload rfl (rk2_o (rk2_o (rk2_o (l46_5) rfl rfl) rfl rfl) rfl rfl)) ?_
        refine Ew_of (pc' := 113) (fun _ => x_bipush (z := 24) rfl (by decide)) ?_
        refine w_iadd rfl ?_
        refine Ew_of (pc' := 116) (fun _ => x_bipush (z := 8) rfl (by decide)) ?_
        refine w_stat24 rfl rfl (by rfl) (C42_Br (D := pul [0] D) (N := pul [0] N) (HW_sub H (VS_of (show vsub V51_Br V42_Br [0] = true by decide +kernel))) (n0) (en0) (w0) (((show A39 0 = A38 0 from (eA39 0))).trans (((show A38 0 = A37 0 from (eA38 0).trans (funext (hA38 0 rfl)))).trans (((show A37 0 = A36 0 from (eA37 0))).trans (((show A36 0 = A35 0 from (eA36 0).trans (funext (hA36 0 rfl)))).trans (((show A35 0 = A34 0 from (eA35 0))).trans (((show A34 0 = A_46 0 from (eA34 0).trans (funext (hA34 0 rfl)))).trans ((funext (hA_46 0 rfl)).trans (ew0)))))))) (show inr ((x46_5 + 24)) by omega) (show inr (8) by omega) (show (8) ≤ 0 ∨ 0 ≤ ((x46_5 + 24)) ∧ ((x46_5 + 24)) + (8) ≤ (n0) by omega) (show 0 ≤ (8) ∧ (8) ≤ 8 by omega) (fun z40 σ40 F40' A40' H' O' hS40 hA40 pz40_0 pz40_1 pz40_2 => ⟨rfl, ?_⟩))
        refine v_back (c := c) (s := s) H (show vsub V51_Br V42_Br [0] = true by decide +kernel) H' O' (fun F40 A40 H O' eF40 eA40 => ?_)
        have O := OUT_trans O O'
        -- PackHouse.number
        have n4_ := nmb_8 pz40_2 pz40_0
        refine w_stat24 rfl rfl (by rfl) (C50 (D := pul [] D) (N := pul [] N) (HW_sub H (VS_of (show vsub V51_Br V50 [] = true by decide +kernel))) (show inrJ (x46_14) by omega) (show inrJ (z40) by omega) (fun z41 σ41 F41' A41' H' O' hS41 hA41 pz41_0 pz41_1 => ⟨rfl, ?_⟩))
        refine v_back (c := c) (s := s) H (show vsub V51_Br V50 [] = true by decide +kernel) H' O' (fun F41 A41 H O' eF41 eA41 => ?_)
        have O := OUT_trans O O'
        -- PackHouse.wideLane
        have k4_ := pz41_1
        refine Ew_of (pc' := 124) (fun _ => x_lstore rfl) ?_
        refine Ew_of (pc' := 127) (fun _ => x_iinc (len := 3) rfl (rk2_o (rk2_o (rk2_o (rk2_o (l46_5) rfl rfl) rfl rfl) rfl rfl) rfl rfl)) ?_
        refine Ew_of (pc' := 46) (fun _ => x_goto rfl rfl) ?_
        have : wLn ((w0)) ((a2)) (((a3) - (a2)) / 32).toNat (adJ (adJ ((a4)) (-7046029288634856825)) (-4417276706812531889)) = wLn ((w0)) (((x46_5 + 32))) (((a3) - ((x46_5 + 32))) / 32).toNat ((z35)) := j46_0.trans (wLn_s (by omega) (by rw [k1_, n1_]) (by omega))
        have : wLn ((w0)) ((a2) + 8) (((a3) - (a2)) / 32).toNat (adJ ((a4)) (-4417276706812531889)) = wLn ((w0)) (((x46_5 + 32)) + 8) (((a3) - ((x46_5 + 32))) / 32).toNat ((z37)) := j46_1.trans (wLn_s (by omega) (by rw [k2_, n2_]) (by omega))
        have : wLn ((w0)) ((a2) + 16) (((a3) - (a2)) / 32).toNat ((a4)) = wLn ((w0)) (((x46_5 + 32)) + 16) (((a3) - ((x46_5 + 32))) / 32).toNat ((z39)) := j46_2.trans (wLn_s (by omega) (by rw [k3_, n3_]) (by omega))
        have : wLn ((w0)) ((a2) + 24) (((a3) - (a2)) / 32).toNat (sbJ ((a4)) (-7046029288634856825)) = wLn ((w0)) (((x46_5 + 32)) + 24) (((a3) - ((x46_5 + 32))) / 32).toNat ((z41)) := j46_3.trans (wLn_s (by omega) (by rw [k4_, n4_]) (by omega))
        exact ih46 _ (by omega) _ _ _ _ ((x46_5 + 32)) (z35) (z37) (z39) (z41) (rk_o (rk2_o (rk2_o (rk2_o (rk2_o (l46_0) rfl rfl) rfl rfl) rfl rfl) rfl rfl) rfl rfl) (rk_o (rk2_o (rk2_o (rk2_o (rk2_o (l46_1) rfl rfl) rfl rfl) rfl rfl) rfl rfl) rfl rfl) (rk_o (rk2_o (rk2_o (rk2_o (rk2_o (l46_2) rfl rfl) rfl rfl) rfl rfl) rfl rfl) rfl rfl) (rk_s) (rk_o (rk2_o (rk2_o (rk2_o (rk2_s) rfl rfl) rfl rfl) rfl rfl) rfl rfl) (rk_o (rk2_o (rk2_o (rk2_s) rfl rfl) rfl rfl) rfl rfl) (rk_o (rk2_o (rk2_s) rfl rfl) rfl rfl) (rk_o (rk2_s) rfl rfl) H O (SF_trans (SF_trans (SF_trans (SF_trans (SF_trans (SF_trans (SF_trans (SF_trans (hS_46) (SF_glu (ι := [0]) hS34 eF34 (by decide +kernel)) (any_sub (l' := []) rfl)) (SF_glu (ι := []) hS35 eF35 (by decide +kernel)) (any_sub (l' := []) rfl)) (SF_glu (ι := [0]) hS36 eF36 (by decide +kernel)) (any_sub (l' := []) rfl)) (SF_glu (ι := []) hS37 eF37 (by decide +kernel)) (any_sub (l' := []) rfl)) (SF_glu (ι := [0]) hS38 eF38 (by decide +kernel)) (any_sub (l' := []) rfl)) (SF_glu (ι := []) hS39 eF39 (by decide +kernel)) (any_sub (l' := []) rfl)) (SF_glu (ι := [0]) hS40 eF40 (by decide +kernel)) (any_sub (l' := []) rfl)) (SF_glu (ι := []) hS41 eF41 (by decide +kernel)) (any_sub (l' := []) rfl)) (SA_trans (SA_trans (SA_trans (SA_trans (SA_trans (SA_trans (SA_trans (SA_trans (hA_46) (SA_glu (ι := [0]) hA34 eA34 (by decide +kernel)) (any_subA (l' := []) rfl)) (SA_glu (ι := []) hA35 eA35 (by decide +kernel)) (any_subA (l' := []) rfl)) (SA_glu (ι := [0]) hA36 eA36 (by decide +kernel)) (any_subA (l' := []) rfl)) (SA_glu (ι := []) hA37 eA37 (by decide +kernel)) (any_subA (l' := []) rfl)) (SA_glu (ι := [0]) hA38 eA38 (by decide +kernel)) (any_subA (l' := []) rfl)) (SA_glu (ι := []) hA39 eA39 (by decide +kernel)) (any_subA (l' := []) rfl)) (SA_glu (ι := [0]) hA40 eA40 (by decide +kernel)) (any_subA (l' := []) rfl)) (SA_glu (ι := []) hA41 eA41 (by decide +kernel)) (any_subA (l' := []) rfl))     (show inr ((x46_5 + 32)) by omega) (show inrJ (z35) by omega) (show inrJ (z37) by omega) (show inrJ (z39) by omega) (show inrJ (z41) by omega) (show (a2) ≤ ((x46_5 + 32)) ∧ ((x46_5 + 32)) ≤ (a3) by omega) (show (((x46_5 + 32)) - (a2)) % 32 = 0 by omega) (show wLn ((w0)) ((a2)) (((a3) - (a2)) / 32).toNat (adJ (adJ ((a4)) (-7046029288634856825)) (-4417276706812531889)) = wLn ((w0)) (((x46_5 + 32))) (((a3) - ((x46_5 + 32))) / 32).toNat ((z35)) by assumption) (show wLn ((w0)) ((a2) + 8) (((a3) - (a2)) / 32).toNat (adJ ((a4)) (-4417276706812531889)) = wLn ((w0)) (((x46_5 + 32)) + 8) (((a3) - ((x46_5 + 32))) / 32).toNat ((z37)) by assumption) (show wLn ((w0)) ((a2) + 16) (((a3) - (a2)) / 32).toNat ((a4)) = wLn ((w0)) (((x46_5 + 32)) + 16) (((a3) - ((x46_5 + 32))) / 32).toNat ((z39)) by assumption) (show wLn ((w0)) ((a2) + 24) (((a3) - (a2)) / 32).toNat (sbJ ((a4)) (-7046029288634856825)) = wLn ((w0)) (((x46_5 + 32)) + 24) (((a3) - ((x46_5 + 32))) / 32).toNat ((z41)) by assumption) rfl
abbrev V53_Br : vV := [(1, 0, [])]
/-- PackHouse.polynomialSum: #1 -/
theorem C53_Br {σE : rS} {D N : Nat → Nat} {F : hF} {A : hA} {d c s : Nat} {Q : wQ} (H : HW V53_Br σE D N F A) (HT : STC σE) {a2 a3 : Int} (n0 : Int) (en0 : (N 0 : Int) = n0) (w0 : Int → Int) (ew0 : A 0 = w0) (h0 : inr (a2)) (h1 : inr (a3)) (h2 : 0 ≤ (a2) ∧ (a2) ≤ (a3) ∧ (a3) ≤ (n0)) (k : ∀ (z : Int) (σ : rS) (F' : hF) (A' : hA), HW V53_Br σ D N F' A' → OUT (V53_Br).length D N σE c s D N σ c s → SF [] F F' → SA [] A A' → (inr (z)) → ((z) = POL ((w0)) ((a2)) ((a3) - (a2))) → Q (some (I z)) σ c s) : Ew 53 (d + 0) 0 (rargs 0 [.ref (D 0), I a2, I a3]) [] σE c s Q := by
  have O := OUT_refl (n := (V53_Br).length) (D := D) (N := N) (σ := σE) (c := c) (s := s)
  have HE := H
  have r1 : (0 : Int) ≤ n0 ∧ n0 ≤ 1000000 := by have h1 := H.nle 0 (by decide); have h2 : (N 0 : Int) = n0 := en0; omega
  refine Ew_of (pc' := 1) (fun _ => x_iconst rfl) ?_
  refine Ew_of (pc' := 2) (fun _ => x_istore_n rfl) ?_
  refine Ew_of (pc' := 3) (fun _ => x_iload_n rfl (rk_o (rfl) rfl rfl)) ?_
  refine Ew_of (pc' := 5) (fun _ => x_istore rfl) ?_
  have : PRI ((w0)) ((a2)) ((a3)) ((a2)) (-1) := PRI_0
  suffices hl5 : ∀ (m : Nat), ∀ (ls : rO) (σ : rS) (F_5 : hF) (A_5 : hA) (x5_3 : Int) (x5_4 : Int), rlook ls 0 = some (.ref (D 0)) → rlook ls 2 = some (I (a3)) → rlook ls 3 = some (I (x5_3)) → rlook ls 4 = some (I (x5_4)) → HW V53_Br σ D N F_5 A_5 → OUT (V53_Br).length D N σE c s D N σ c s → SF [] F F_5 → SA [] A A_5 → (inr (x5_3)) → (inr (x5_4)) → ((a2) ≤ (x5_4)) → ((x5_4) ≤ (a2) ∨ (x5_4) ≤ ((a3))) → (PRI ((w0)) ((a2)) ((a3)) ((x5_4)) ((x5_3))) → (((a3)) - (x5_4)).toNat = m → Ew 53 (d + 0) 5 ls [] σ c s Q from
    hl5 _ _ _ _ _ ((-1)) (a2) (rk_o (rk_o (rfl) rfl rfl) rfl rfl) (rk_o (rk_o (rfl) rfl rfl) rfl rfl) (rk_o (rk_s) rfl rfl) (rk_s) H O (SF_refl) (SA_refl)     (show inr ((-1)) by omega) (show inr (a2) by omega) (show (a2) ≤ (a2) by omega) (show (a2) ≤ (a2) ∨ (a2) ≤ ((a3)) by omega) (show PRI ((w0)) ((a2)) ((a3)) ((a2)) (((-1))) by assumption) rfl
  as_aux_lemma =>
  intro m
  induction m using Nat.strongRecOn with
  | _ m ih5 =>
    intro ls σ F_5 A_5 x5_3 x5_4 l5_0 l5_2 l5_3 l5_4 H O hS_5 hA_5     j5_0 j5_1 j5_2 j5_3 j5_4 hm5
    have j5_q : PRI ((w0)) ((a2)) ((a3)) ((x5_4)) ((x5_3)) := by assumption
    refine Ew_of (pc' := 7) (fun _ => x_iload rfl l5_4) ?_
    refine Ew_of (pc' := 8) (fun _ => x_iload_n rfl l5_2) ?_
    refine w_icmpge (t := 54) rfl rfl (show inr (x5_4) by omega) (show inr (a3) by omega) (fun b2 => ?_) (fun b2 => ?_)
    · refine Ew_of (pc' := 55) (fun _ => x_iload_n rfl l5_3) ?_
      refine Ew_of (pc' := 56) (fun _ => x_iconst rfl) ?_
      refine w_ixorE rfl ?_
      have g3 : inr (xoI (x5_3) ((-1))) := toI_inr _
      have : ((xoI (x5_3) ((-1)))) = POL ((w0)) ((a2)) ((a3) - (a2)) := PRI_e j5_q (by omega)
      exact w_ireturn rfl (k ((xoI (x5_3) ((-1)))) _ _ _ H O (SF_trans (SF_refl) hS_5 (any_sub rfl)) (SA_trans (SA_refl) hA_5 (any_subA rfl)) (show inr ((xoI (x5_3) ((-1)))) by omega) (show ((xoI (x5_3) ((-1)))) = POL ((w0)) (a2) (a3 - a2) by assumption))
    · refine Ew_of (pc' := 12) (fun _ => x_iload_n rfl l5_3) ?_
      refine Ew_of (pc' := 13) (fun _ => x_aload_n rfl l5_0) ?_
      refine Ew_of (pc' := 15) (fun _ => x_iload rfl l5_4) ?_
      refine v_lB H (o := 0) rfl rfl rfl rfl (n := n0) (en0) (show 0 ≤ x5_4 ∧ x5_4 < n0 by omega) (fun v4 ev4 qv4 => ?_)
      have ev4 : (w0) (x5_4) = v4 := (congrFun ((funext (hA_5 0 rfl)).trans (ew0)) (x5_4)).symm.trans ev4
      have hvb := ev4
      refine Ew_of (pc' := 19) (fun _ => x_sipush (z := 255) rfl (by decide)) ?_
      refine v_and255 rfl ?_
      refine w_ixorE rfl ?_
      have g5 : inr (xoI (x5_3) ((v4 % 256))) := toI_inr _
      refine Ew_of (pc' := 22) (fun _ => x_istore_n rfl) ?_
      refine Ew_of (pc' := 23) (fun _ => x_iload_n rfl rk_s) ?_
      refine Ew_of (pc' := 24) (fun _ => x_iconst rfl) ?_
      refine w_iushrE rfl ?_
      have g6 : inr (usI ((xoI (x5_3) ((v4 % 256)))) (4)) := toI_inr _
      refine Ew_of (pc' := 28) (fun _ => x_getstatic rfl) ?_
      refine Ew_of (pc' := 29) (fun _ => x_iload_n rfl rk_s) ?_
      refine Ew_of (pc' := 31) (fun _ => x_bipush (z := 15) rfl (by decide)) ?_
      refine w_iandG rfl ?_
      have g7 : inr (andI ((xoI (x5_3) ((v4 % 256)))) (15)) := toI_inr _
      have hx1 := and15r (((xoI (x5_3) ((v4 % 256)))))
      refine v_stI (STC_out HT HE O) (b := 1) (n := 16) rfl rfl rfl rfl (show 0 ≤ (andI ((xoI (x5_3) ((v4 % 256)))) (15)) ∧ (andI ((xoI (x5_3) ((v4 % 256)))) (15)) < 16 by omega) (fun v8 ev8 qv8 => ?_)
      have ht1 := ev8
      refine w_ixorE rfl ?_
      have g9 : inr (xoI ((usI ((xoI (x5_3) ((v4 % 256)))) (4))) (v8)) := toI_inr _
      refine Ew_of (pc' := 35) (fun _ => x_istore_n rfl) ?_
      refine Ew_of (pc' := 36) (fun _ => x_iload_n rfl rk_s) ?_
      refine Ew_of (pc' := 37) (fun _ => x_iconst rfl) ?_
      refine w_iushrE rfl ?_
      have g10 : inr (usI ((xoI ((usI ((xoI (x5_3) ((v4 % 256)))) (4))) (v8))) (4)) := toI_inr _
      refine Ew_of (pc' := 41) (fun _ => x_getstatic rfl) ?_
      refine Ew_of (pc' := 42) (fun _ => x_iload_n rfl rk_s) ?_
      refine Ew_of (pc' := 44) (fun _ => x_bipush (z := 15) rfl (by decide)) ?_
      refine w_iandG rfl ?_
      have g11 : inr (andI ((xoI ((usI ((xoI (x5_3) ((v4 % 256)))) (4))) (v8))) (15)) := toI_inr _
      have hx2 := and15r (((xoI ((usI ((xoI (x5_3) ((v4 % 256)))) (4))) (v8))))
      refine v_stI (STC_out HT HE O) (b := 1) (n := 16) rfl rfl rfl rfl (show 0 ≤ (andI ((xoI ((usI ((xoI (x5_3) ((v4 % 256)))) (4))) (v8))) (15)) ∧ (andI ((xoI ((usI ((xoI (x5_3) ((v4 % 256)))) (4))) (v8))) (15)) < 16 by omega) (fun v12 ev12 qv12 => ?_)
      have ht2 := ev12
      refine w_ixorE rfl ?_
      have g13 : inr (xoI ((usI ((xoI ((usI ((xoI (x5_3) ((v4 % 256)))) (4))) (v8))) (4))) (v12)) := toI_inr _
      refine Ew_of (pc' := 48) (fun _ => x_istore_n rfl) ?_
      refine Ew_of (pc' := 51) (fun _ => x_iinc (len := 3) rfl (rk_o (rk_o (rk_o (l5_4) rfl rfl) rfl rfl) rfl rfl)) ?_
      refine Ew_of (pc' := 5) (fun _ => x_goto rfl rfl) ?_
      have : PRI ((w0)) ((a2)) ((a3)) (((x5_4 + 1))) (((xoI ((usI ((xoI ((usI ((xoI (x5_3) ((v4 % 256)))) (4))) (v8))) (4))) (v12)))) := PRI_s j5_q (by omega) (pol_c hvb ht1 ht2) (by omega)
      exact ih5 _ (by omega) _ _ _ _ ((xoI ((usI ((xoI ((usI ((xoI (x5_3) ((v4 % 256)))) (4))) (v8))) (4))) (v12))) ((x5_4 + 1)) (rk_o (rk_o (rk_o (rk_o (l5_0) rfl rfl) rfl rfl) rfl rfl) rfl rfl) (rk_o (rk_o (rk_o (rk_o (l5_2) rfl rfl) rfl rfl) rfl rfl) rfl rfl) (rk_o (rk_s) rfl rfl) (rk_s) H O (hS_5) (hA_5)     (show inr ((xoI ((usI ((xoI ((usI ((xoI (x5_3) ((v4 % 256)))) (4))) (v8))) (4))) (v12))) by omega) (show inr ((x5_4 + 1)) by omega) (show (a2) ≤ ((x5_4 + 1)) by omega) (show ((x5_4 + 1)) ≤ (a2) ∨ ((x5_4 + 1)) ≤ ((a3)) by omega) (show PRI ((w0)) ((a2)) ((a3)) (((x5_4 + 1))) (((xoI ((usI ((xoI ((usI ((xoI (x5_3) ((v4 % 256)))) (4))) (v8))) (4))) (v12)))) by assumption) rfl
abbrev V27_Row : vV := [(0, 7, [(4, 0), (0, 0), (1, 0), (0, 0), (0, 0)])]
/-- PackHouse.isPart: #1 -/
theorem C27_Row {σE : rS} {D N : Nat → Nat} {F : hF} {A : hA} {d c s : Nat} {Q : wQ} (H : HW V27_Row σE D N F A) {a2 a3 : Int} (u0_1 : Int) (eu0_1 : F 0 1 = u0_1) (h0 : inr (a2)) (h1 : inr (a3)) (k : ∀ (z : Int) (σ : rS) (F' : hF) (A' : hA), HW V27_Row σ D N F' A' → OUT (V27_Row).length D N σE c s D N σ c s → SF [] F F' → SA [] A A' → ((z) = 0 ∨ (z) = 1) → ((z) = 1 → 0 ≤ (a2) ∧ (a2) ≤ (a3) ∧ (a3) ≤ (u0_1)) → Q (some (I z)) σ c s) : Ew 27 (d + 0) 0 (rargs 0 [.ref (D 0), I a2, I a3]) [] σE c s Q := by
  have O := OUT_refl (n := (V27_Row).length) (D := D) (N := N) (σ := σE) (c := c) (s := s)
  have HE := H
  have r1 : (-2147483648 : Int) ≤ u0_1 ∧ u0_1 ≤ 2147483647 := by have h1 : (-2147483648 : Int) ≤ F 0 1 ∧ F 0 1 ≤ 2147483647 := H.krg 0 1 (by decide); rw [show F 0 1 = u0_1 from (eu0_1)] at h1; exact h1
  refine Ew_of (pc' := 1) (fun _ => x_iconst rfl) ?_
  refine Ew_of (pc' := 2) (fun _ => x_iload_n rfl rfl) ?_
  refine w_icmpgt (t := 22) rfl rfl (show inr (0) by omega) (show inr (a2) by omega) (fun b2 => ?_) (fun b2 => ?_)
  · refine Ew_of (pc' := 23) (fun _ => x_iconst rfl) ?_
    exact w_ireturn rfl (k (0) _ _ _ H O (SF_refl) (SA_refl) (show (0) = 0 ∨ (0) = 1 by omega) (show (0) = 1 → 0 ≤ a2 ∧ a2 ≤ a3 ∧ a3 ≤ (u0_1) by omega))
  · refine Ew_of (pc' := 6) (fun _ => x_iload_n rfl rfl) ?_
    refine Ew_of (pc' := 7) (fun _ => x_iload_n rfl rfl) ?_
    refine w_icmpgt (t := 22) rfl rfl (show inr (a2) by omega) (show inr (a3) by omega) (fun b3 => ?_) (fun b3 => ?_)
    · refine Ew_of (pc' := 23) (fun _ => x_iconst rfl) ?_
      exact w_ireturn rfl (k (0) _ _ _ H O (SF_refl) (SA_refl) (show (0) = 0 ∨ (0) = 1 by omega) (show (0) = 1 → 0 ≤ a2 ∧ a2 ≤ a3 ∧ a3 ≤ (u0_1) by omega))
    · refine Ew_of (pc' := 11) (fun _ => x_iload_n rfl rfl) ?_
      refine Ew_of (pc' := 12) (fun _ => x_aload_n rfl rfl) ?_
      refine v_g H (o := 0) (v := I (u0_1)) rfl rfl rfl rfl rfl (congrArg (fun z : Int => I z) ((eu0_1) : F 0 1 = u0_1)) ?_
      refine w_icmpgt (t := 22) rfl rfl (show inr (a3) by omega) (show inr (u0_1) by omega) (fun b4 => ?_) (fun b4 => ?_)
      · refine Ew_of (pc' := 23) (fun _ => x_iconst rfl) ?_
        exact w_ireturn rfl (k (0) _ _ _ H O (SF_refl) (SA_refl) (show (0) = 0 ∨ (0) = 1 by omega) (show (0) = 1 → 0 ≤ a2 ∧ a2 ≤ a3 ∧ a3 ≤ (u0_1) by omega))
      · refine Ew_of (pc' := 19) (fun _ => x_iconst rfl) ?_
        refine Ew_of (pc' := 23) (fun _ => x_goto rfl rfl) ?_
        exact w_ireturn rfl (k (1) _ _ _ H O (SF_refl) (SA_refl) (show (1) = 0 ∨ (1) = 1 by omega) (show (1) = 1 → 0 ≤ a2 ∧ a2 ≤ a3 ∧ a3 ≤ (u0_1) by omega))
abbrev V28_Row : vV := [(0, 7, [(4, 0), (0, 0), (1, 0), (0, 0), (0, 0)]), (1, 0, [])]
/-- PackHouse.addHighestFirst: #1, #1.bytes -/
theorem C28_Row {σE : rS} {D N : Nat → Nat} {F : hF} {A : hA} {d c s : Nat} {Q : wQ} (H : HW V28_Row σE D N F A) {a2 a3 : Int} (pf1 : F 0 0 = (D 1 : Int)) (n1 : Int) (en1 : (N 1 : Int) = n1) (u0_1 : Int) (eu0_1 : F 0 1 = u0_1) (h0 : inrJ (a2)) (h1 : inr (a3)) (h2 : 0 ≤ (u0_1) ∧ (u0_1) ≤ (n1) ∧ (n1) ≤ 65536) (h3 : (a3) ≤ 8) (k : ∀ (σ : rS) (D' N' : Nat → Nat) (F' : hF) (A' : hA) (c' s' : Nat), HW V28_Row σ D' N' F' A' → OUT (V28_Row).length D N σE c s D' N' σ c' s' → SD [1] D D' → SD [1] N N' → SF [(0, 0), (0, 1), (0, 2)] F F' → SA [1] A A' → F' 0 0 = (D' 1 : Int) → ∀ m1 : Int, (N' 1 : Int) = m1 → ∀ y0_1 : Int, F' 0 1 = y0_1 → (0 ≤ (y0_1) ∧ (y0_1) ≤ (m1) ∧ (m1) ≤ 65536) → Q none σ c' s') : Ew 28 (d + 3) 0 (rargs 0 [.ref (D 0), J a2, I a3]) [] σE c s Q := by
  have O := OUT_refl (n := (V28_Row).length) (D := D) (N := N) (σ := σE) (c := c) (s := s)
  have HE := H
  have r1 : (-2147483648 : Int) ≤ u0_1 ∧ u0_1 ≤ 2147483647 := by have h1 : (-2147483648 : Int) ≤ F 0 1 ∧ F 0 1 ≤ 2147483647 := H.krg 0 1 (by decide); rw [show F 0 1 = u0_1 from (eu0_1)] at h1; exact h1
  have r2 : (0 : Int) ≤ n1 ∧ n1 ≤ 1000000 := by have h1 := H.nle 1 (by decide); have h2 : (N 1 : Int) = n1 := en1; omega
  refine Ew_of (pc' := 1) (fun _ => x_iconst rfl) ?_
  refine Ew_of (pc' := 3) (fun _ => x_istore rfl) ?_
  suffices hl3 : ∀ (m : Nat), ∀ (ls : rO) (σ : rS) (D_3 N_3 : Nat → Nat) (c_3 s_3 : Nat) (F_3 : hF) (A_3 : hA) (x3_4 : Int), rlook ls 0 = some (.ref (D_3 0)) → rlook ls 1 = some (J (a2)) → rlook ls 3 = some (I (a3)) → rlook ls 4 = some (I (x3_4)) → HW V28_Row σ D_3 N_3 F_3 A_3 → OUT (V28_Row).length D N σE c s D_3 N_3 σ c_3 s_3 → SD [1] D D_3 → SD [1] N N_3 → SF [(0, 0), (0, 1), (0, 2)] F F_3 → SA [1] A A_3 → F_3 0 0 = (D_3 1 : Int) → ∀ m3_1 : Int, (N_3 1 : Int) = m3_1 → ∀ y3_0_1 : Int, F_3 0 1 = y3_0_1 → (inr (x3_4)) → ((0) ≤ (x3_4)) → ((x3_4) ≤ (0) ∨ (x3_4) ≤ ((a3))) → (0 ≤ (y3_0_1) ∧ (y3_0_1) ≤ (m3_1) ∧ (m3_1) ≤ 65536) → (((a3)) - (x3_4)).toNat = m → Ew 28 (d + 3) 3 ls [] σ c_3 s_3 Q from
    hl3 _ _ _ _ _ _ _ _ _ (0) (rk_o (rfl) rfl rfl) (rk_o (rfl) rfl rfl) (rk_o (rfl) rfl rfl) (rk_s) H O (SD_refl) (SD_refl) (SF_refl) (SA_refl) (pf1) (n1) (en1) (u0_1) ((eu0_1))  (show inr (0) by omega) (show (0) ≤ (0) by omega) (show (0) ≤ (0) ∨ (0) ≤ ((a3)) by omega) (show 0 ≤ (u0_1) ∧ (u0_1) ≤ (n1) ∧ (n1) ≤ 65536 by omega) rfl
  as_aux_lemma =>
  intro m
  induction m using Nat.strongRecOn with
  | _ m ih3 =>
    intro ls σ D_3 N_3 c_3 s_3 F_3 A_3 x3_4 l3_0 l3_1 l3_3 l3_4 H O hD_3 hN_3 hS_3 hA_3 pm3_1 m3_1 em3_1 y3_0_1 ey3_0_1  j3_0 j3_1 j3_2 j3_3 hm3
    have r3 : (0 : Int) ≤ m3_1 ∧ m3_1 ≤ 1000000 := by have h1 := H.nle 1 (by decide); have h2 : (N_3 1 : Int) = m3_1 := em3_1; omega
    have r4 : (-2147483648 : Int) ≤ y3_0_1 ∧ y3_0_1 ≤ 2147483647 := by have h1 : (-2147483648 : Int) ≤ F_3 0 1 ∧ F_3 0 1 ≤ 2147483647 := H.krg 0 1 (by decide); rw [show F_3 0 1 = y3_0_1 from (ey3_0_1)] at h1; exact h1
    refine Ew_of (pc' := 5) (fun _ => x_iload rfl l3_4) ?_
    refine Ew_of (pc' := 6) (fun _ => x_iload_n rfl l3_3) ?_
    refine w_icmpge (t := 30) rfl rfl (show inr (x3_4) by omega) (show inr (a3) by omega) (fun b5 => ?_) (fun b5 => ?_)
    · exact w_ret rfl (k _ _ _ _ _ _ _ H O (SD_trans (SD_refl) hD_3 (any_subA rfl)) (SD_trans (SD_refl) hN_3 (any_subA rfl)) (SF_trans (SF_refl) hS_3 (any_sub rfl)) (SA_trans (SA_refl) hA_3 (any_subA rfl)) (pm3_1) (m3_1) (em3_1) (y3_0_1) ((ey3_0_1)) (show 0 ≤ (y3_0_1) ∧ (y3_0_1) ≤ (m3_1) ∧ (m3_1) ≤ 65536 by omega))
    · refine Ew_of (pc' := 10) (fun _ => x_aload_n rfl l3_0) ?_
      refine Ew_of (pc' := 11) (fun _ => x_lload_n rfl l3_1) ?_
      refine Ew_of (pc' := 13) (fun _ => x_bipush (z := 56) rfl (by decide)) ?_
      refine Ew_of (pc' := 15) (fun _ => x_bipush (z := 8) rfl (by decide)) ?_
      refine Ew_of (pc' := 17) (fun _ => x_iload rfl l3_4) ?_
      refine w_imul rfl ?_
      refine w_isub rfl ?_
      refine w_lushrA rfl (fun z6 gz6 => ?_)
      refine w_l2iA rfl (fun z7 gz7 => ?_)
      have r8 : (0 : Int) ≤ F_3 0 2 ∧ F_3 0 2 ≤ 1 := by have h1 : (0 : Int) ≤ F_3 0 2 ∧ F_3 0 2 ≤ 1 := H.krg 0 2 (by decide); rw [show F_3 0 2 = F_3 0 2 from rfl] at h1; exact h1
      refine v_inv H (o := 0) rfl rfl rfl rfl rfl rfl (by rfl) (C159 (D := pul [0, 1] D_3) (N := pul [0, 1] N_3) (HW_sub H (VS_of (show vsub V28_Row V159 [0, 1] = true by decide +kernel))) (pm3_1) (m3_1) (em3_1) (y3_0_1) ((ey3_0_1)) (F_3 0 2) (rfl) (A_3 1) (rfl) (show inr (z7) by omega) (show 0 ≤ (y3_0_1) ∧ (y3_0_1) ≤ (m3_1) ∧ (m3_1) ≤ 65536 by omega) (fun σ9 D9' N9' F9' A9' c9 s9 H' O' hD9 hN9 hS9 hA9 pm9_1 m9_1 em9_1 y9_0_1 ey9_0_1 y9_0_2 ey9_0_2 w9_1 ew9_1 pz9_0 pz9_1 pz9_2 pz9_3 => ⟨rfl, ?_⟩))
      refine v_backM (c := c_3) (s := s_3) H (show vsub V28_Row V159 [0, 1] = true by decide +kernel) H' O' hD9 (show vmov V28_Row [0, 1] [1] = true by decide +kernel) (fun D9 N9 F9 A9 H O' eD9 eN9 eF9 eA9 => ?_)
      have O := OUT_trans O O'
      -- Row.add
      have pf9_0_0 : F9 0 0 = (D9 1 : Int) := (eF9 0 0).trans (pm9_1.trans (congrArg (fun q : Nat => (q : Int)) (eD9 1).symm))
      have r10 : (0 : Int) ≤ m9_1 ∧ m9_1 ≤ 1000000 := by have h1 := H.nle 1 (by decide); have h2 : (N9 1 : Int) = m9_1 := (congrArg (fun q : Nat => (q : Int)) (eN9 1)).trans em9_1; omega
      have r11 : (-2147483648 : Int) ≤ y9_0_1 ∧ y9_0_1 ≤ 2147483647 := by have h1 : (-2147483648 : Int) ≤ F9 0 1 ∧ F9 0 1 ≤ 2147483647 := H.krg 0 1 (by decide); rw [show F9 0 1 = y9_0_1 from ((eF9 0 1).trans ey9_0_1)] at h1; exact h1
      have r12 : (0 : Int) ≤ y9_0_2 ∧ y9_0_2 ≤ 1 := by have h1 : (0 : Int) ≤ F9 0 2 ∧ F9 0 2 ≤ 1 := H.krg 0 2 (by decide); rw [show F9 0 2 = y9_0_2 from ((eF9 0 2).trans ey9_0_2)] at h1; exact h1
      refine Ew_of (pc' := 27) (fun _ => x_iinc (len := 3) rfl (l3_4)) ?_
      refine Ew_of (pc' := 3) (fun _ => x_goto rfl rfl) ?_
      exact ih3 _ (by omega) _ _ _ _ _ _ _ _ ((x3_4 + 1)) ((rk_o (l3_0) rfl rfl).trans (congrArg (fun q : Nat => some (Value.ref q)) (((show D9 0 = D_3 0 from (eD9 0).trans (hD9 0 rfl)))).symm)) (rk_o (l3_1) rfl rfl) (rk_o (l3_3) rfl rfl) (rk_s) H O (SD_trans (hD_3) (SD_glu (ι := [0, 1]) hD9 eD9 (by decide +kernel)) (any_subA (l' := [1]) rfl)) (SD_trans (hN_3) (SD_glu (ι := [0, 1]) hN9 eN9 (by decide +kernel)) (any_subA (l' := [1]) rfl)) (SF_trans (hS_3) (SF_glu (ι := [0, 1]) hS9 eF9 (by decide +kernel)) (any_sub (l' := [(0, 0), (0, 1), (0, 2)]) rfl)) (SA_trans (hA_3) (SA_glu (ι := [0, 1]) hA9 eA9 (by decide +kernel)) (any_subA (l' := [1]) rfl)) (pf9_0_0) (m9_1) ((congrArg (fun q : Nat => (q : Int)) (eN9 1)).trans em9_1) (y9_0_1) (((eF9 0 1).trans ey9_0_1))  (show inr ((x3_4 + 1)) by omega) (show (0) ≤ ((x3_4 + 1)) by omega) (show ((x3_4 + 1)) ≤ (0) ∨ ((x3_4 + 1)) ≤ ((a3)) by omega) (show 0 ≤ (y9_0_1) ∧ (y9_0_1) ≤ (m9_1) ∧ (m9_1) ≤ 65536 by omega) rfl
abbrev V29_Row_Row : vV := [(0, 7, [(4, 0), (0, 0), (1, 0), (0, 0), (0, 0)]), (0, 7, [(4, 0), (0, 0), (1, 0), (0, 0), (0, 0)]), (1, 0, []), (1, 0, [])]
/-- PackHouse.firstUnlike: #1, #2, #1.bytes, #2.bytes -/
theorem C29_Row_Row {σE : rS} {D N : Nat → Nat} {F : hF} {A : hA} {d c s : Nat} {Q : wQ} (H : HW V29_Row_Row σE D N F A)  (pf2 : F 0 0 = (D 2 : Int)) (pf3 : F 1 0 = (D 3 : Int)) (n2 : Int) (en2 : (N 2 : Int) = n2) (n3 : Int) (en3 : (N 3 : Int) = n3) (u0_1 : Int) (eu0_1 : F 0 1 = u0_1) (u1_1 : Int) (eu1_1 : F 1 1 = u1_1) (h0 : 0 ≤ (u0_1) ∧ (u0_1) ≤ (n2) ∧ (n2) ≤ 65536) (h1 : 0 ≤ (u1_1) ∧ (u1_1) ≤ (n3) ∧ (n3) ≤ 65536) (k : ∀ (z : Int) (σ : rS) (F' : hF) (A' : hA), HW V29_Row_Row σ D N F' A' → OUT (V29_Row_Row).length D N σE c s D N σ c s → SF [] F F' → SA [] A A' → (inr (z)) → Q (some (I z)) σ c s) : Ew 29 (d + 0) 0 (rargs 0 [.ref (D 0), .ref (D 1)]) [] σE c s Q := by
  have O := OUT_refl (n := (V29_Row_Row).length) (D := D) (N := N) (σ := σE) (c := c) (s := s)
  have HE := H
  have r1 : (-2147483648 : Int) ≤ u0_1 ∧ u0_1 ≤ 2147483647 := by have h1 : (-2147483648 : Int) ≤ F 0 1 ∧ F 0 1 ≤ 2147483647 := H.krg 0 1 (by decide); rw [show F 0 1 = u0_1 from (eu0_1)] at h1; exact h1
  have r2 : (-2147483648 : Int) ≤ u1_1 ∧ u1_1 ≤ 2147483647 := by have h1 : (-2147483648 : Int) ≤ F 1 1 ∧ F 1 1 ≤ 2147483647 := H.krg 1 1 (by decide); rw [show F 1 1 = u1_1 from (eu1_1)] at h1; exact h1
  have r3 : (0 : Int) ≤ n2 ∧ n2 ≤ 1000000 := by have h1 := H.nle 2 (by decide); have h2 : (N 2 : Int) = n2 := en2; omega
  have r4 : (0 : Int) ≤ n3 ∧ n3 ≤ 1000000 := by have h1 := H.nle 3 (by decide); have h2 : (N 3 : Int) = n3 := en3; omega
  refine Ew_of (pc' := 1) (fun _ => x_aload_n rfl rfl) ?_
  refine v_g H (o := 0) (v := I (u0_1)) rfl rfl rfl rfl rfl (congrArg (fun z : Int => I z) ((eu0_1) : F 0 1 = u0_1)) ?_
  refine Ew_of (pc' := 5) (fun _ => x_aload_n rfl rfl) ?_
  refine v_g H (o := 1) (v := I (u1_1)) rfl rfl rfl rfl rfl (congrArg (fun z : Int => I z) ((eu1_1) : F 1 1 = u1_1)) ?_
  refine v_min rfl rfl (show inr (u0_1) by omega) (show inr (u1_1) by omega) (fun z5 gz5 => ?_)
  refine Ew_of (pc' := 12) (fun _ => x_istore_n rfl) ?_
  refine Ew_of (pc' := 13) (fun _ => x_iconst rfl) ?_
  refine Ew_of (pc' := 14) (fun _ => x_istore_n rfl) ?_
  suffices hl14 : ∀ (m : Nat), ∀ (ls : rO) (σ : rS) (F_14 : hF) (A_14 : hA) (x14_3 : Int), rlook ls 0 = some (.ref (D 0)) → rlook ls 1 = some (.ref (D 1)) → rlook ls 2 = some (I (z5)) → rlook ls 3 = some (I (x14_3)) → HW V29_Row_Row σ D N F_14 A_14 → OUT (V29_Row_Row).length D N σE c s D N σ c s → SF [] F F_14 → SA [] A A_14 → (inr (x14_3)) → ((0) ≤ (x14_3)) → ((x14_3) ≤ (0) ∨ (x14_3) ≤ ((z5))) → (((z5)) - (x14_3)).toNat = m → Ew 29 (d + 0) 14 ls [] σ c s Q from
    hl14 _ _ _ _ _ (0) (rk_o (rk_o (rfl) rfl rfl) rfl rfl) (rk_o (rk_o (rfl) rfl rfl) rfl rfl) (rk_o (rk_s) rfl rfl) (rk_s) H O (SF_refl) (SA_refl)     (show inr (0) by omega) (show (0) ≤ (0) by omega) (show (0) ≤ (0) ∨ (0) ≤ ((z5)) by omega) rfl
  as_aux_lemma =>
  intro m
  induction m using Nat.strongRecOn with
  | _ m ih14 =>
    intro ls σ F_14 A_14 x14_3 l14_0 l14_1 l14_2 l14_3 H O hS_14 hA_14     j14_0 j14_1 j14_2 hm14
    refine Ew_of (pc' := 15) (fun _ => x_iload_n rfl l14_3) ?_
    refine Ew_of (pc' := 16) (fun _ => x_iload_n rfl l14_2) ?_
    refine w_icmpge (t := 42) rfl rfl (show inr (x14_3) by omega) (show inr (z5) by omega) (fun b6 => ?_) (fun b6 => ?_)
    · refine Ew_of (pc' := 43) (fun _ => x_aload_n rfl l14_0) ?_
      refine v_g H (o := 0) (v := I (u0_1)) rfl rfl rfl rfl rfl (congrArg (fun z : Int => I z) (((hS_14 0 1 rfl).trans (eu0_1)) : F_14 0 1 = u0_1)) ?_
      refine Ew_of (pc' := 47) (fun _ => x_aload_n rfl l14_1) ?_
      refine v_g H (o := 1) (v := I (u1_1)) rfl rfl rfl rfl rfl (congrArg (fun z : Int => I z) (((hS_14 1 1 rfl).trans (eu1_1)) : F_14 1 1 = u1_1)) ?_
      refine w_icmpne (t := 57) rfl rfl (show inr (u0_1) by omega) (show inr (u1_1) by omega) (fun b7 => ?_) (fun b7 => ?_)
      · refine Ew_of (pc' := 58) (fun _ => x_iload_n rfl l14_2) ?_
        exact w_ireturn rfl (k (z5) _ _ _ H O (SF_trans (SF_refl) hS_14 (any_sub rfl)) (SA_trans (SA_refl) hA_14 (any_subA rfl)) (show inr (z5) by omega))
      · refine Ew_of (pc' := 54) (fun _ => x_iconst rfl) ?_
        refine Ew_of (pc' := 58) (fun _ => x_goto rfl rfl) ?_
        exact w_ireturn rfl (k ((-1)) _ _ _ H O (SF_trans (SF_refl) hS_14 (any_sub rfl)) (SA_trans (SA_refl) hA_14 (any_subA rfl)) (show inr ((-1)) by omega))
    · refine Ew_of (pc' := 20) (fun _ => x_aload_n rfl l14_0) ?_
      refine v_g H (o := 0) (v := .ref (D 2)) rfl rfl rfl rfl rfl (vrf (((hS_14 0 0 rfl)).trans (pf2))) ?_
      refine Ew_of (pc' := 24) (fun _ => x_iload_n rfl l14_3) ?_
      refine v_lB H (o := 2) rfl rfl rfl rfl (n := n2) (en2) (show 0 ≤ x14_3 ∧ x14_3 < n2 by omega) (fun v8 ev8 qv8 => ?_)
      have ev8 : (A 2) (x14_3) = v8 := (congrFun (funext (hA_14 2 rfl)) (x14_3)).symm.trans ev8
      refine Ew_of (pc' := 26) (fun _ => x_aload_n rfl l14_1) ?_
      refine v_g H (o := 1) (v := .ref (D 3)) rfl rfl rfl rfl rfl (vrf (((hS_14 1 0 rfl)).trans (pf3))) ?_
      refine Ew_of (pc' := 30) (fun _ => x_iload_n rfl l14_3) ?_
      refine v_lB H (o := 3) rfl rfl rfl rfl (n := n3) (en3) (show 0 ≤ x14_3 ∧ x14_3 < n3 by omega) (fun v9 ev9 qv9 => ?_)
      have ev9 : (A 3) (x14_3) = v9 := (congrFun (funext (hA_14 3 rfl)) (x14_3)).symm.trans ev9
      refine w_icmpeq (t := 36) rfl rfl (show inr (v8) by omega) (show inr (v9) by omega) (fun b10 => ?_) (fun b10 => ?_)
      · refine Ew_of (pc' := 39) (fun _ => x_iinc (len := 3) rfl (l14_3)) ?_
        refine Ew_of (pc' := 14) (fun _ => x_goto rfl rfl) ?_
        exact ih14 _ (by omega) _ _ _ _ ((x14_3 + 1)) (rk_o (l14_0) rfl rfl) (rk_o (l14_1) rfl rfl) (rk_o (l14_2) rfl rfl) (rk_s) H O (hS_14) (hA_14)     (show inr ((x14_3 + 1)) by omega) (show (0) ≤ ((x14_3 + 1)) by omega) (show ((x14_3 + 1)) ≤ (0) ∨ ((x14_3 + 1)) ≤ ((z5)) by omega) rfl
      · refine Ew_of (pc' := 35) (fun _ => x_iload_n rfl l14_3) ?_
        exact w_ireturn rfl (k (x14_3) _ _ _ H O (SF_trans (SF_refl) hS_14 (any_sub rfl)) (SA_trans (SA_refl) hA_14 (any_subA rfl)) (show inr (x14_3) by omega))
abbrev V29_Row_1a : vV := [(0, 7, [(4, 0), (0, 0), (1, 0), (0, 0), (0, 0)]), (1, 0, [])]
/-- PackHouse.firstUnlike: #1, #1.bytes -/
theorem C29_Row_1a {σE : rS} {D N : Nat → Nat} {F : hF} {A : hA} {d c s : Nat} {Q : wQ} (H : HW V29_Row_1a σE D N F A)  (pf1 : F 0 0 = (D 1 : Int)) (n1 : Int) (en1 : (N 1 : Int) = n1) (u0_1 : Int) (eu0_1 : F 0 1 = u0_1) (h0 : 0 ≤ (u0_1) ∧ (u0_1) ≤ (n1) ∧ (n1) ≤ 65536) (h1 : 0 ≤ (u0_1) ∧ (u0_1) ≤ (n1) ∧ (n1) ≤ 65536) (k : ∀ (z : Int) (σ : rS) (F' : hF) (A' : hA), HW V29_Row_1a σ D N F' A' → OUT (V29_Row_1a).length D N σE c s D N σ c s → SF [] F F' → SA [] A A' → (inr (z)) → Q (some (I z)) σ c s) : Ew 29 (d + 0) 0 (rargs 0 [.ref (D 0), .ref (D 0)]) [] σE c s Q := by
  have O := OUT_refl (n := (V29_Row_1a).length) (D := D) (N := N) (σ := σE) (c := c) (s := s)
  have HE := H
  have r1 : (-2147483648 : Int) ≤ u0_1 ∧ u0_1 ≤ 2147483647 := by have h1 : (-2147483648 : Int) ≤ F 0 1 ∧ F 0 1 ≤ 2147483647 := H.krg 0 1 (by decide); rw [show F 0 1 = u0_1 from (eu0_1)] at h1; exact h1
  have r2 : (0 : Int) ≤ n1 ∧ n1 ≤ 1000000 := by have h1 := H.nle 1 (by decide); have h2 : (N 1 : Int) = n1 := en1; omega
  refine Ew_of (pc' := 1) (fun _ => x_aload_n rfl rfl) ?_
  refine v_g H (o := 0) (v := I (u0_1)) rfl rfl rfl rfl rfl (congrArg (fun z : Int => I z) ((eu0_1) : F 0 1 = u0_1)) ?_
  refine Ew_of (pc' := 5) (fun _ => x_aload_n rfl rfl) ?_
  refine v_g H (o := 0) (v := I (u0_1)) rfl rfl rfl rfl rfl (congrArg (fun z : Int => I z) ((eu0_1) : F 0 1 = u0_1)) ?_
  refine v_min rfl rfl (show inr (u0_1) by omega) (show inr (u0_1) by omega) (fun z3 gz3 => ?_)
  refine Ew_of (pc' := 12) (fun _ => x_istore_n rfl) ?_
  refine Ew_of (pc' := 13) (fun _ => x_iconst rfl) ?_
  refine Ew_of (pc' := 14) (fun _ => x_istore_n rfl) ?_
  suffices hl14 : ∀ (m : Nat), ∀ (ls : rO) (σ : rS) (F_14 : hF) (A_14 : hA) (x14_3 : Int), rlook ls 0 = some (.ref (D 0)) → rlook ls 1 = some (.ref (D 0)) → rlook ls 2 = some (I (z3)) → rlook ls 3 = some (I (x14_3)) → HW V29_Row_1a σ D N F_14 A_14 → OUT (V29_Row_1a).length D N σE c s D N σ c s → SF [] F F_14 → SA [] A A_14 → (inr (x14_3)) → ((0) ≤ (x14_3)) → ((x14_3) ≤ (0) ∨ (x14_3) ≤ ((z3))) → (((z3)) - (x14_3)).toNat = m → Ew 29 (d + 0) 14 ls [] σ c s Q from
    hl14 _ _ _ _ _ (0) (rk_o (rk_o (rfl) rfl rfl) rfl rfl) (rk_o (rk_o (rfl) rfl rfl) rfl rfl) (rk_o (rk_s) rfl rfl) (rk_s) H O (SF_refl) (SA_refl)     (show inr (0) by omega) (show (0) ≤ (0) by omega) (show (0) ≤ (0) ∨ (0) ≤ ((z3)) by omega) rfl
  as_aux_lemma =>
  intro m
  induction m using Nat.strongRecOn with
  | _ m ih14 =>
    intro ls σ F_14 A_14 x14_3 l14_0 l14_1 l14_2 l14_3 H O hS_14 hA_14     j14_0 j14_1 j14_2 hm14
    refine Ew_of (pc' := 15) (fun _ => x_iload_n rfl l14_3) ?_
    refine Ew_of (pc' := 16) (fun _ => x_iload_n rfl l14_2) ?_
    refine w_icmpge (t := 42) rfl rfl (show inr (x14_3) by omega) (show inr (z3) by omega) (fun b4 => ?_) (fun b4 => ?_)
    · refine Ew_of (pc' := 43) (fun _ => x_aload_n rfl l14_0) ?_
      refine v_g H (o := 0) (v := I (u0_1)) rfl rfl rfl rfl rfl (congrArg (fun z : Int => I z) (((hS_14 0 1 rfl).trans (eu0_1)) : F_14 0 1 = u0_1)) ?_
      refine Ew_of (pc' := 47) (fun _ => x_aload_n rfl l14_1) ?_
      refine v_g H (o := 0) (v := I (u0_1)) rfl rfl rfl rfl rfl (congrArg (fun z : Int => I z) (((hS_14 0 1 rfl).trans (eu0_1)) : F_14 0 1 = u0_1)) ?_
      refine w_icmpne (t := 57) rfl rfl (show inr (u0_1) by omega) (show inr (u0_1) by omega) (fun b5 => ?_) (fun b5 => ?_)
      · refine Ew_of (pc' := 58) (fun _ => x_iload_n rfl l14_2) ?_
        exact w_ireturn rfl (k (z3) _ _ _ H O (SF_trans (SF_refl) hS_14 (any_sub rfl)) (SA_trans (SA_refl) hA_14 (any_subA rfl)) (show inr (z3) by omega))
      · refine Ew_of (pc' := 54) (fun _ => x_iconst rfl) ?_
        refine Ew_of (pc' := 58) (fun _ => x_goto rfl rfl) ?_
        exact w_ireturn rfl (k ((-1)) _ _ _ H O (SF_trans (SF_refl) hS_14 (any_sub rfl)) (SA_trans (SA_refl) hA_14 (any_subA rfl)) (show inr ((-1)) by omega))
    · refine Ew_of (pc' := 20) (fun _ => x_aload_n rfl l14_0) ?_
      refine v_g H (o := 0) (v := .ref (D 1)) rfl rfl rfl rfl rfl (vrf (((hS_14 0 0 rfl)).trans (pf1))) ?_
      refine Ew_of (pc' := 24) (fun _ => x_iload_n rfl l14_3) ?_
      refine v_lB H (o := 1) rfl rfl rfl rfl (n := n1) (en1) (show 0 ≤ x14_3 ∧ x14_3 < n1 by omega) (fun v6 ev6 qv6 => ?_)
      have ev6 : (A 1) (x14_3) = v6 := (congrFun (funext (hA_14 1 rfl)) (x14_3)).symm.trans ev6
      refine Ew_of (pc' := 26) (fun _ => x_aload_n rfl l14_1) ?_
      refine v_g H (o := 0) (v := .ref (D 1)) rfl rfl rfl rfl rfl (vrf (((hS_14 0 0 rfl)).trans (pf1))) ?_
      refine Ew_of (pc' := 30) (fun _ => x_iload_n rfl l14_3) ?_
      refine v_lB H (o := 1) rfl rfl rfl rfl (n := n1) (en1) (show 0 ≤ x14_3 ∧ x14_3 < n1 by omega) (fun v7 ev7 qv7 => ?_)
      have ev7 : (A 1) (x14_3) = v7 := (congrFun (funext (hA_14 1 rfl)) (x14_3)).symm.trans ev7
      refine w_icmpeq (t := 36) rfl rfl (show inr (v6) by omega) (show inr (v7) by omega) (fun b8 => ?_) (fun b8 => ?_)
      · refine Ew_of (pc' := 39) (fun _ => x_iinc (len := 3) rfl (l14_3)) ?_
        refine Ew_of (pc' := 14) (fun _ => x_goto rfl rfl) ?_
        exact ih14 _ (by omega) _ _ _ _ ((x14_3 + 1)) (rk_o (l14_0) rfl rfl) (rk_o (l14_1) rfl rfl) (rk_o (l14_2) rfl rfl) (rk_s) H O (hS_14) (hA_14)     (show inr ((x14_3 + 1)) by omega) (show (0) ≤ ((x14_3 + 1)) by omega) (show ((x14_3 + 1)) ≤ (0) ∨ ((x14_3 + 1)) ≤ ((z3)) by omega) rfl
      · refine Ew_of (pc' := 35) (fun _ => x_iload_n rfl l14_3) ?_
        exact w_ireturn rfl (k (x14_3) _ _ _ H O (SF_trans (SF_refl) hS_14 (any_sub rfl)) (SA_trans (SA_refl) hA_14 (any_subA rfl)) (show inr (x14_3) by omega))
abbrev V192_Br : vV := [(1, 0, [])]
/-- Tags.isMark: #1 -/
theorem C192_Br {σE : rS} {D N : Nat → Nat} {F : hF} {A : hA} {d c s : Nat} {Q : wQ} (H : HW V192_Br σE D N F A) (HT : STC σE) {a2 a3 : Int} (n0 : Int) (en0 : (N 0 : Int) = n0) (w0 : Int → Int) (ew0 : A 0 = w0) (h0 : inr (a2)) (h1 : inr (a3)) (h2 : 0 ≤ (a2) ∧ 0 ≤ (a3) ∧ (a3) ≤ (n0) ∧ (n0) ≤ 65536 ∧ (a2) ≤ 200000) (k : ∀ (z : Int) (σ : rS) (F' : hF) (A' : hA), HW V192_Br σ D N F' A' → OUT (V192_Br).length D N σE c s D N σ c s → SF [] F F' → SA [] A A' → ((z) = 0 ∨ (z) = 1) → (ISM ((w0)) ((a2)) ((a3)) ((z))) → Q (some (I z)) σ c s) : Ew 192 (d + 0) 0 (rargs 0 [.ref (D 0), I a2, I a3]) [] σE c s Q := by
  have O := OUT_refl (n := (V192_Br).length) (D := D) (N := N) (σ := σE) (c := c) (s := s)
  have HE := H
  have r1 : (0 : Int) ≤ n0 ∧ n0 ≤ 1000000 := by have h1 := H.nle 0 (by decide); have h2 : (N 0 : Int) = n0 := en0; omega
  refine Ew_of (pc' := 1) (fun _ => x_iload_n rfl rfl) ?_
  refine Ew_of (pc' := 2) (fun _ => x_iload_n rfl rfl) ?_
  refine w_isub rfl ?_
  refine Ew_of (pc' := 6) (fun _ => x_getstatic rfl) ?_
  refine v_stL (STC_out HT HE O) (b := 0) (n := 10) rfl rfl rfl ?_
  refine w_icmpge (t := 12) rfl rfl (show inr ((a3 - a2)) by omega) (show inr (10) by omega) (fun b2 => ?_) (fun b2 => ?_)
  · refine Ew_of (pc' := 13) (fun _ => x_iconst rfl) ?_
    refine Ew_of (pc' := 14) (fun _ => x_istore_n rfl) ?_
    have : ISI ((w0)) ((a2)) (0) := ISI_0
    suffices hl14 : ∀ (m : Nat), ∀ (ls : rO) (σ : rS) (F_14 : hF) (A_14 : hA) (x14_3 : Int), rlook ls 0 = some (.ref (D 0)) → rlook ls 1 = some (I (a2)) → rlook ls 3 = some (I (x14_3)) → HW V192_Br σ D N F_14 A_14 → OUT (V192_Br).length D N σE c s D N σ c s → SF [] F F_14 → SA [] A A_14 → (inr (x14_3)) → ((0) ≤ (x14_3)) → ((x14_3) ≤ (0) ∨ (x14_3) ≤ ((10))) → (ISI ((w0)) ((a2)) ((x14_3))) → (((10)) - (x14_3)).toNat = m → Ew 192 (d + 0) 14 ls [] σ c s Q from
      hl14 _ _ _ _ _ (0) (rk_o (rfl) rfl rfl) (rk_o (rfl) rfl rfl) (rk_s) H O (SF_refl) (SA_refl)     (show inr (0) by omega) (show (0) ≤ (0) by omega) (show (0) ≤ (0) ∨ (0) ≤ ((10)) by omega) (show ISI ((w0)) ((a2)) ((0)) by assumption) rfl
    as_aux_lemma =>
    intro m
    induction m using Nat.strongRecOn with
    | _ m ih14 =>
      intro ls σ F_14 A_14 x14_3 l14_0 l14_1 l14_3 H O hS_14 hA_14     j14_0 j14_1 j14_2 j14_3 hm14
      have j14_q : ISI ((w0)) ((a2)) ((x14_3)) := by assumption
      refine Ew_of (pc' := 15) (fun _ => x_iload_n rfl l14_3) ?_
      refine Ew_of (pc' := 18) (fun _ => x_getstatic rfl) ?_
      refine v_stL (STC_out HT HE O) (b := 0) (n := 10) rfl rfl rfl ?_
      refine w_icmpge (t := 43) rfl rfl (show inr (x14_3) by omega) (show inr (10) by omega) (fun b3 => ?_) (fun b3 => ?_)
      · refine Ew_of (pc' := 44) (fun _ => x_iconst rfl) ?_
        have : ISM ((w0)) ((a2)) ((a3)) ((1)) := .inl ⟨rfl, by omega, fun k x y => j14_q k x (by omega)⟩
        exact w_ireturn rfl (k (1) _ _ _ H O (SF_trans (SF_refl) hS_14 (any_sub rfl)) (SA_trans (SA_refl) hA_14 (any_subA rfl)) (show (1) = 0 ∨ (1) = 1 by omega) (show ISM ((w0)) (a2) (a3) ((1)) by assumption))
      · refine Ew_of (pc' := 23) (fun _ => x_aload_n rfl l14_0) ?_
        refine Ew_of (pc' := 24) (fun _ => x_iload_n rfl l14_1) ?_
        refine Ew_of (pc' := 25) (fun _ => x_iload_n rfl l14_3) ?_
        refine w_iadd rfl ?_
        refine v_lB H (o := 0) rfl rfl rfl rfl (n := n0) (en0) (show 0 ≤ (a2 + x14_3) ∧ (a2 + x14_3) < n0 by omega) (fun v4 ev4 qv4 => ?_)
        have ev4 : (w0) ((a2 + x14_3)) = v4 := (congrFun ((funext (hA_14 0 rfl)).trans (ew0)) ((a2 + x14_3))).symm.trans ev4
        have hv1 := ev4
        have hBr : ∀ i, (-128 : Int) ≤ (w0) i ∧ (w0) i ≤ 127 := fun i => by have h1 : (-128 : Int) ≤ A_14 0 i ∧ A_14 0 i ≤ 127 := H.arg 0 i (by decide) rfl; rw [show A_14 0 = w0 from (funext (hA_14 0 rfl)).trans (ew0)] at h1; exact h1
        have hvr := hBr ((a2) + (x14_3))
        rw [hv1] at hvr
        refine Ew_of (pc' := 30) (fun _ => x_getstatic rfl) ?_
        refine Ew_of (pc' := 31) (fun _ => x_iload_n rfl l14_3) ?_
        refine v_stB (STC_out HT HE O) (b := 0) (n := 10) rfl rfl rfl rfl (show 0 ≤ x14_3 ∧ x14_3 < 10 by omega) (fun v5 ev5 qv5 => ?_)
        have hmk := mk_u8 (i := (x14_3)) (by omega) ev5
        refine w_icmpeq (t := 37) rfl rfl (show inr (v4) by omega) (show inr (v5) by omega) (fun b6 => ?_) (fun b6 => ?_)
        · have : ISI ((w0)) ((a2)) ((x14_3) + 1) := ISI_s j14_q (by rw [hv1]; first | exact hmk.1 | (rw [← hmk.1]; congr 1)) rfl
          refine Ew_of (pc' := 40) (fun _ => x_iinc (len := 3) rfl (l14_3)) ?_
          refine Ew_of (pc' := 14) (fun _ => x_goto rfl rfl) ?_
          exact ih14 _ (by omega) _ _ _ _ ((x14_3 + 1)) (rk_o (l14_0) rfl rfl) (rk_o (l14_1) rfl rfl) (rk_s) H O (hS_14) (hA_14)     (show inr ((x14_3 + 1)) by omega) (show (0) ≤ ((x14_3 + 1)) by omega) (show ((x14_3 + 1)) ≤ (0) ∨ ((x14_3 + 1)) ≤ ((10)) by omega) (show ISI ((w0)) ((a2)) (((x14_3 + 1))) by assumption) rfl
        · refine Ew_of (pc' := 36) (fun _ => x_iconst rfl) ?_
          have : ISM ((w0)) ((a2)) ((a3)) ((0)) := ISM_n (by omega) hv1 hmk.1 hmk.2 hvr (by omega)
          exact w_ireturn rfl (k (0) _ _ _ H O (SF_trans (SF_refl) hS_14 (any_sub rfl)) (SA_trans (SA_refl) hA_14 (any_subA rfl)) (show (0) = 0 ∨ (0) = 1 by omega) (show ISM ((w0)) (a2) (a3) ((0)) by assumption))
  · refine Ew_of (pc' := 11) (fun _ => x_iconst rfl) ?_
    have : ISM ((w0)) ((a2)) ((a3)) ((0)) := .inr ⟨rfl, fun z => absurd z.1 (by omega)⟩
    exact w_ireturn rfl (k (0) _ _ _ H O (SF_refl) (SA_refl) (show (0) = 0 ∨ (0) = 1 by omega) (show ISM ((w0)) (a2) (a3) ((0)) by assumption))
abbrev V33_Row : vV := [(0, 7, [(4, 0), (0, 0), (1, 0), (0, 0), (0, 0)]), (1, 0, [])]
/-- PackHouse.formatOf: #1, #1.bytes -/
theorem C33_Row {σE : rS} {D N : Nat → Nat} {F : hF} {A : hA} {d c s : Nat} {Q : wQ} (H : HW V33_Row σE D N F A) (HT : STC σE)  (pf1 : F 0 0 = (D 1 : Int)) (n1 : Int) (en1 : (N 1 : Int) = n1) (u0_1 : Int) (eu0_1 : F 0 1 = u0_1) (h0 : 0 ≤ (u0_1) ∧ (u0_1) ≤ (n1) ∧ (n1) ≤ 65536) (k : ∀ (z : Int) (σ : rS) (F' : hF) (A' : hA), HW V33_Row σ D N F' A' → OUT (V33_Row).length D N σE c s D N σ c s → SF [] F F' → SA [] A A' → (inr (z)) → ((z) = 0 ∨ (z) = 1 ∨ 3 ≤ (z) ∧ (z) ≤ 5) → Q (some (I z)) σ c s) : Ew 33 (d + 2) 0 (rargs 0 [.ref (D 0)]) [] σE c s Q := by
  have O := OUT_refl (n := (V33_Row).length) (D := D) (N := N) (σ := σE) (c := c) (s := s)
  have HE := H
  have r1 : (-2147483648 : Int) ≤ u0_1 ∧ u0_1 ≤ 2147483647 := by have h1 : (-2147483648 : Int) ≤ F 0 1 ∧ F 0 1 ≤ 2147483647 := H.krg 0 1 (by decide); rw [show F 0 1 = u0_1 from (eu0_1)] at h1; exact h1
  have r2 : (0 : Int) ≤ n1 ∧ n1 ≤ 1000000 := by have h1 := H.nle 1 (by decide); have h2 : (N 1 : Int) = n1 := en1; omega
  refine Ew_of (pc' := 1) (fun _ => x_aload_n rfl rfl) ?_
  refine v_g H (o := 0) (v := .ref (D 1)) rfl rfl rfl rfl rfl (vrf (pf1)) ?_
  refine Ew_of (pc' := 5) (fun _ => x_astore_n rfl) ?_
  refine Ew_of (pc' := 6) (fun _ => x_iconst rfl) ?_
  refine Ew_of (pc' := 7) (fun _ => x_istore_n rfl) ?_
  refine Ew_of (pc' := 8) (fun _ => x_iconst rfl) ?_
  refine Ew_of (pc' := 9) (fun _ => x_istore_n rfl) ?_
  suffices hl9 : ∀ (m : Nat), ∀ (ls : rO) (σ : rS) (F_9 : hF) (A_9 : hA) (x9_2 : Int) (x9_3 : Int), rlook ls 0 = some (.ref (D 0)) → rlook ls 1 = some (.ref (D 1)) → rlook ls 2 = some (I (x9_2)) → rlook ls 3 = some (I (x9_3)) → HW V33_Row σ D N F_9 A_9 → OUT (V33_Row).length D N σE c s D N σ c s → SF [] F F_9 → SA [] A A_9 → (inr (x9_2)) → (inr (x9_3)) → (0 ≤ (x9_2) ∧ (x9_2) ≤ (u0_1)) → (0 ≤ (x9_3) ∧ (x9_3) ≤ (u0_1) + 1) → ((u0_1) + 2 - (x9_3)).toNat = m → Ew 33 (d + 2) 9 ls [] σ c s Q from
    hl9 _ _ _ _ _ (0) (0) (rk_o (rk_o (rk_o (rfl) rfl rfl) rfl rfl) rfl rfl) (rk_o (rk_o (rk_s) rfl rfl) rfl rfl) (rk_o (rk_s) rfl rfl) (rk_s) H O (SF_refl) (SA_refl)     (show inr (0) by omega) (show inr (0) by omega) (show 0 ≤ (0) ∧ (0) ≤ (u0_1) by omega) (show 0 ≤ (0) ∧ (0) ≤ (u0_1) + 1 by omega) rfl
  as_aux_lemma =>
  intro m
  induction m using Nat.strongRecOn with
  | _ m ih9 =>
    intro ls σ F_9 A_9 x9_2 x9_3 l9_0 l9_1 l9_2 l9_3 H O hS_9 hA_9     j9_0 j9_1 j9_2 j9_3 hm9
    refine Ew_of (pc' := 10) (fun _ => x_iload_n rfl l9_3) ?_
    refine Ew_of (pc' := 11) (fun _ => x_aload_n rfl l9_0) ?_
    refine v_g H (o := 0) (v := I (u0_1)) rfl rfl rfl rfl rfl (congrArg (fun z : Int => I z) (((hS_9 0 1 rfl).trans (eu0_1)) : F_9 0 1 = u0_1)) ?_
    refine w_icmpgt (t := 56) rfl rfl (show inr (x9_3) by omega) (show inr (u0_1) by omega) (fun b3 => ?_) (fun b3 => ?_)
    · refine Ew_of (pc' := 57) (fun _ => x_aload_n rfl l9_0) ?_
      refine v_g H (o := 0) (v := I (u0_1)) rfl rfl rfl rfl rfl (congrArg (fun z : Int => I z) (((hS_9 0 1 rfl).trans (eu0_1)) : F_9 0 1 = u0_1)) ?_
      refine Ew_of (pc' := 61) (fun _ => x_iload_n rfl l9_2) ?_
      refine w_isub rfl ?_
      refine Ew_of (pc' := 63) (fun _ => x_iconst rfl) ?_
      refine w_icmpge (t := 68) rfl rfl (show inr ((u0_1 - x9_2)) by omega) (show inr (4) by omega) (fun b4 => ?_) (fun b4 => ?_)
      · refine Ew_of (pc' := 69) (fun _ => x_aload_n rfl l9_1) ?_
        refine Ew_of (pc' := 70) (fun _ => x_iload_n rfl l9_2) ?_
        refine w_stat24 rfl rfl (by rfl) (C41_Br (D := pul [1] D) (N := pul [1] N) (HW_sub H (VS_of (show vsub V33_Row V41_Br [1] = true by decide +kernel))) (n1) (en1) (A 1) (funext (hA_9 1 rfl)) (show inr (x9_2) by omega) (show 0 ≤ (x9_2) ∧ (x9_2) + 4 ≤ (n1) by omega) (fun z5 σ5 F5' A5' H' O' hS5 hA5 pz5_0 pz5_1 => ⟨rfl, ?_⟩))
        refine v_back (c := c) (s := s) H (show vsub V33_Row V41_Br [1] = true by decide +kernel) H' O' (fun F5 A5 H O' eF5 eA5 => ?_)
        have O := OUT_trans O O'
        -- PackHouse.word
        by_cases b6 : z5 = (-332356553)
        · refine w_lsk 112 rfl (show inr (z5) by omega) b6 rfl rfl ?_
          refine Ew_of (pc' := 113) (fun _ => x_iconst rfl) ?_
          exact w_ireturn rfl (k (5) _ _ _ H O (SF_trans (SF_trans (SF_refl) hS_9 (any_sub rfl)) (SF_glu (ι := [1]) hS5 eF5 (by decide +kernel)) (any_sub (l' := []) rfl)) (SA_trans (SA_trans (SA_refl) hA_9 (any_subA rfl)) (SA_glu (ι := [1]) hA5 eA5 (by decide +kernel)) (any_subA (l' := []) rfl)) (show inr (5) by omega) (show (5) = 0 ∨ (5) = 1 ∨ 3 ≤ (5) ∧ (5) ≤ 5 by omega))
        ·
          by_cases b7 : z5 = (-47205080)
          · refine w_lsk 110 rfl (show inr (z5) by omega) b7 rfl rfl ?_
            refine Ew_of (pc' := 111) (fun _ => x_iconst rfl) ?_
            exact w_ireturn rfl (k (4) _ _ _ H O (SF_trans (SF_trans (SF_refl) hS_9 (any_sub rfl)) (SF_glu (ι := [1]) hS5 eF5 (by decide +kernel)) (any_sub (l' := []) rfl)) (SA_trans (SA_trans (SA_refl) hA_9 (any_subA rfl)) (SA_glu (ι := [1]) hA5 eA5 (by decide +kernel)) (any_subA (l' := []) rfl)) (show inr (4) by omega) (show (4) = 0 ∨ (4) = 1 ∨ 3 ≤ (4) ∧ (4) ≤ 5 by omega))
          ·
            by_cases b8 : z5 = 407708164
            · refine w_lsk 108 rfl (show inr (z5) by omega) b8 rfl rfl ?_
              refine Ew_of (pc' := 109) (fun _ => x_iconst rfl) ?_
              exact w_ireturn rfl (k (1) _ _ _ H O (SF_trans (SF_trans (SF_refl) hS_9 (any_sub rfl)) (SF_glu (ι := [1]) hS5 eF5 (by decide +kernel)) (any_sub (l' := []) rfl)) (SA_trans (SA_trans (SA_refl) hA_9 (any_subA rfl)) (SA_glu (ι := [1]) hA5 eA5 (by decide +kernel)) (any_subA (l' := []) rfl)) (show inr (1) by omega) (show (1) = 0 ∨ (1) = 1 ∨ 3 ≤ (1) ∧ (1) ≤ 5 by omega))
            ·
              refine w_lsd 114 rfl (show inr (z5) by omega) (by intro q hq; simp at hq; rcases hq with rfl | rfl | rfl <;> (first | omega | (simp; omega) | (intro e; simp at e; omega))) rfl ?_
              refine Ew_of (pc' := 115) (fun _ => x_aload_n rfl l9_1) ?_
              refine Ew_of (pc' := 116) (fun _ => x_iload_n rfl l9_2) ?_
              refine Ew_of (pc' := 117) (fun _ => x_aload_n rfl l9_0) ?_
              refine v_g H (o := 0) (v := I (u0_1)) rfl rfl rfl rfl rfl (congrArg (fun z : Int => I z) (((((show F5 0 1 = F_9 0 1 from (eF5 0 1))).trans (hS_9 0 1 rfl)).trans (eu0_1)) : F5 0 1 = u0_1)) ?_
              refine w_stat24 rfl rfl (by rfl) (C192_Br (D := pul [1] D) (N := pul [1] N) (HW_sub H (VS_of (show vsub V33_Row V192_Br [1] = true by decide +kernel))) (STC_out HT HE O) (n1) (en1) (A 1) (((show A5 1 = A_9 1 from (eA5 1).trans (funext (hA5 0 rfl)))).trans (funext (hA_9 1 rfl))) (show inr (x9_2) by omega) (show inr (u0_1) by omega) (show 0 ≤ (x9_2) ∧ 0 ≤ (u0_1) ∧ (u0_1) ≤ (n1) ∧ (n1) ≤ 65536 ∧ (x9_2) ≤ 200000 by omega) (fun z9 σ9 F9' A9' H' O' hS9 hA9 pz9_0 pz9_1 => ⟨rretB rfl pz9_0, ?_⟩))
              refine v_back (c := c) (s := s) H (show vsub V33_Row V192_Br [1] = true by decide +kernel) H' O' (fun F9 A9 H O' eF9 eA9 => ?_)
              have O := OUT_trans O O'
              -- Tags.isMark
              refine w_ifeq (t := 130) rfl rfl (show inr (z9) by omega) (fun b10 => ?_) (fun b10 => ?_)
              · refine Ew_of (pc' := 131) (fun _ => x_iconst rfl) ?_
                exact w_ireturn rfl (k (0) _ _ _ H O (SF_trans (SF_trans (SF_trans (SF_refl) hS_9 (any_sub rfl)) (SF_glu (ι := [1]) hS5 eF5 (by decide +kernel)) (any_sub (l' := []) rfl)) (SF_glu (ι := [1]) hS9 eF9 (by decide +kernel)) (any_sub (l' := []) rfl)) (SA_trans (SA_trans (SA_trans (SA_refl) hA_9 (any_subA rfl)) (SA_glu (ι := [1]) hA5 eA5 (by decide +kernel)) (any_subA (l' := []) rfl)) (SA_glu (ι := [1]) hA9 eA9 (by decide +kernel)) (any_subA (l' := []) rfl)) (show inr (0) by omega) (show (0) = 0 ∨ (0) = 1 ∨ 3 ≤ (0) ∧ (0) ≤ 5 by omega))
              · refine Ew_of (pc' := 127) (fun _ => x_iconst rfl) ?_
                refine Ew_of (pc' := 131) (fun _ => x_goto rfl rfl) ?_
                exact w_ireturn rfl (k (3) _ _ _ H O (SF_trans (SF_trans (SF_trans (SF_refl) hS_9 (any_sub rfl)) (SF_glu (ι := [1]) hS5 eF5 (by decide +kernel)) (any_sub (l' := []) rfl)) (SF_glu (ι := [1]) hS9 eF9 (by decide +kernel)) (any_sub (l' := []) rfl)) (SA_trans (SA_trans (SA_trans (SA_refl) hA_9 (any_subA rfl)) (SA_glu (ι := [1]) hA5 eA5 (by decide +kernel)) (any_subA (l' := []) rfl)) (SA_glu (ι := [1]) hA9 eA9 (by decide +kernel)) (any_subA (l' := []) rfl)) (show inr (3) by omega) (show (3) = 0 ∨ (3) = 1 ∨ 3 ≤ (3) ∧ (3) ≤ 5 by omega))
      · refine Ew_of (pc' := 67) (fun _ => x_iconst rfl) ?_
        exact w_ireturn rfl (k (0) _ _ _ H O (SF_trans (SF_refl) hS_9 (any_sub rfl)) (SA_trans (SA_refl) hA_9 (any_subA rfl)) (show inr (0) by omega) (show (0) = 0 ∨ (0) = 1 ∨ 3 ≤ (0) ∧ (0) ≤ 5 by omega))
    · refine Ew_of (pc' := 18) (fun _ => x_aload_n rfl l9_1) ?_
      refine Ew_of (pc' := 19) (fun _ => x_iload_n rfl l9_2) ?_
      refine Ew_of (pc' := 20) (fun _ => x_aload_n rfl l9_0) ?_
      refine v_g H (o := 0) (v := I (u0_1)) rfl rfl rfl rfl rfl (congrArg (fun z : Int => I z) (((hS_9 0 1 rfl).trans (eu0_1)) : F_9 0 1 = u0_1)) ?_
      refine w_stat24 rfl rfl (by rfl) (C43_Br (D := pul [1] D) (N := pul [1] N) (HW_sub H (VS_of (show vsub V33_Row V43_Br [1] = true by decide +kernel))) (n1) (en1) (A 1) (funext (hA_9 1 rfl)) (show inr (x9_2) by omega) (show inr (u0_1) by omega) (show 0 ≤ (x9_2) ∧ 0 ≤ (u0_1) ∧ (u0_1) ≤ (n1) ∧ (n1) ≤ 65536 ∧ (x9_2) ≤ 200000 by omega) (fun z11 σ11 F11' A11' H' O' hS11 hA11 pz11_0 pz11_1 pz11_2 => ⟨rretB rfl pz11_0, ?_⟩))
      refine v_back (c := c) (s := s) H (show vsub V33_Row V43_Br [1] = true by decide +kernel) H' O' (fun F11 A11 H O' eF11 eA11 => ?_)
      have O := OUT_trans O O'
      -- PackHouse.isSpare
      refine w_ifeq (t := 56) rfl rfl (show inr (z11) by omega) (fun b12 => ?_) (fun b12 => ?_)
      · refine Ew_of (pc' := 57) (fun _ => x_aload_n rfl l9_0) ?_
        refine v_g H (o := 0) (v := I (u0_1)) rfl rfl rfl rfl rfl (congrArg (fun z : Int => I z) (((((show F11 0 1 = F_9 0 1 from (eF11 0 1))).trans (hS_9 0 1 rfl)).trans (eu0_1)) : F11 0 1 = u0_1)) ?_
        refine Ew_of (pc' := 61) (fun _ => x_iload_n rfl l9_2) ?_
        refine w_isub rfl ?_
        refine Ew_of (pc' := 63) (fun _ => x_iconst rfl) ?_
        refine w_icmpge (t := 68) rfl rfl (show inr ((u0_1 - x9_2)) by omega) (show inr (4) by omega) (fun b13 => ?_) (fun b13 => ?_)
        · refine Ew_of (pc' := 69) (fun _ => x_aload_n rfl l9_1) ?_
          refine Ew_of (pc' := 70) (fun _ => x_iload_n rfl l9_2) ?_
          refine w_stat24 rfl rfl (by rfl) (C41_Br (D := pul [1] D) (N := pul [1] N) (HW_sub H (VS_of (show vsub V33_Row V41_Br [1] = true by decide +kernel))) (n1) (en1) (A 1) (((show A11 1 = A_9 1 from (eA11 1).trans (funext (hA11 0 rfl)))).trans (funext (hA_9 1 rfl))) (show inr (x9_2) by omega) (show 0 ≤ (x9_2) ∧ (x9_2) + 4 ≤ (n1) by omega) (fun z14 σ14 F14' A14' H' O' hS14 hA14 pz14_0 pz14_1 => ⟨rfl, ?_⟩))
          refine v_back (c := c) (s := s) H (show vsub V33_Row V41_Br [1] = true by decide +kernel) H' O' (fun F14 A14 H O' eF14 eA14 => ?_)
          have O := OUT_trans O O'
          -- PackHouse.word
          by_cases b15 : z14 = (-332356553)
          · refine w_lsk 112 rfl (show inr (z14) by omega) b15 rfl rfl ?_
            refine Ew_of (pc' := 113) (fun _ => x_iconst rfl) ?_
            exact w_ireturn rfl (k (5) _ _ _ H O (SF_trans (SF_trans (SF_trans (SF_refl) hS_9 (any_sub rfl)) (SF_glu (ι := [1]) hS11 eF11 (by decide +kernel)) (any_sub (l' := []) rfl)) (SF_glu (ι := [1]) hS14 eF14 (by decide +kernel)) (any_sub (l' := []) rfl)) (SA_trans (SA_trans (SA_trans (SA_refl) hA_9 (any_subA rfl)) (SA_glu (ι := [1]) hA11 eA11 (by decide +kernel)) (any_subA (l' := []) rfl)) (SA_glu (ι := [1]) hA14 eA14 (by decide +kernel)) (any_subA (l' := []) rfl)) (show inr (5) by omega) (show (5) = 0 ∨ (5) = 1 ∨ 3 ≤ (5) ∧ (5) ≤ 5 by omega))
          ·
            by_cases b16 : z14 = (-47205080)
            · refine w_lsk 110 rfl (show inr (z14) by omega) b16 rfl rfl ?_
              refine Ew_of (pc' := 111) (fun _ => x_iconst rfl) ?_
              exact w_ireturn rfl (k (4) _ _ _ H O (SF_trans (SF_trans (SF_trans (SF_refl) hS_9 (any_sub rfl)) (SF_glu (ι := [1]) hS11 eF11 (by decide +kernel)) (any_sub (l' := []) rfl)) (SF_glu (ι := [1]) hS14 eF14 (by decide +kernel)) (any_sub (l' := []) rfl)) (SA_trans (SA_trans (SA_trans (SA_refl) hA_9 (any_subA rfl)) (SA_glu (ι := [1]) hA11 eA11 (by decide +kernel)) (any_subA (l' := []) rfl)) (SA_glu (ι := [1]) hA14 eA14 (by decide +kernel)) (any_subA (l' := []) rfl)) (show inr (4) by omega) (show (4) = 0 ∨ (4) = 1 ∨ 3 ≤ (4) ∧ (4) ≤ 5 by omega))
            ·
              by_cases b17 : z14 = 407708164
              · refine w_lsk 108 rfl (show inr (z14) by omega) b17 rfl rfl ?_
                refine Ew_of (pc' := 109) (fun _ => x_iconst rfl) ?_
                exact w_ireturn rfl (k (1) _ _ _ H O (SF_trans (SF_trans (SF_trans (SF_refl) hS_9 (any_sub rfl)) (SF_glu (ι := [1]) hS11 eF11 (by decide +kernel)) (any_sub (l' := []) rfl)) (SF_glu (ι := [1]) hS14 eF14 (by decide +kernel)) (any_sub (l' := []) rfl)) (SA_trans (SA_trans (SA_trans (SA_refl) hA_9 (any_subA rfl)) (SA_glu (ι := [1]) hA11 eA11 (by decide +kernel)) (any_subA (l' := []) rfl)) (SA_glu (ι := [1]) hA14 eA14 (by decide +kernel)) (any_subA (l' := []) rfl)) (show inr (1) by omega) (show (1) = 0 ∨ (1) = 1 ∨ 3 ≤ (1) ∧ (1) ≤ 5 by omega))
              ·
                refine w_lsd 114 rfl (show inr (z14) by omega) (by intro q hq; simp at hq; rcases hq with rfl | rfl | rfl <;> (first | omega | (simp; omega) | (intro e; simp at e; omega))) rfl ?_
                refine Ew_of (pc' := 115) (fun _ => x_aload_n rfl l9_1) ?_
                refine Ew_of (pc' := 116) (fun _ => x_iload_n rfl l9_2) ?_
                refine Ew_of (pc' := 117) (fun _ => x_aload_n rfl l9_0) ?_
                refine v_g H (o := 0) (v := I (u0_1)) rfl rfl rfl rfl rfl (congrArg (fun z : Int => I z) ((((((show F14 0 1 = F11 0 1 from (eF14 0 1))).trans ((show F11 0 1 = F_9 0 1 from (eF11 0 1)))).trans (hS_9 0 1 rfl)).trans (eu0_1)) : F14 0 1 = u0_1)) ?_
                refine w_stat24 rfl rfl (by rfl) (C192_Br (D := pul [1] D) (N := pul [1] N) (HW_sub H (VS_of (show vsub V33_Row V192_Br [1] = true by decide +kernel))) (STC_out HT HE O) (n1) (en1) (A 1) (((show A14 1 = A11 1 from (eA14 1).trans (funext (hA14 0 rfl)))).trans (((show A11 1 = A_9 1 from (eA11 1).trans (funext (hA11 0 rfl)))).trans (funext (hA_9 1 rfl)))) (show inr (x9_2) by omega) (show inr (u0_1) by omega) (show 0 ≤ (x9_2) ∧ 0 ≤ (u0_1) ∧ (u0_1) ≤ (n1) ∧ (n1) ≤ 65536 ∧ (x9_2) ≤ 200000 by omega) (fun z18 σ18 F18' A18' H' O' hS18 hA18 pz18_0 pz18_1 => ⟨rretB rfl pz18_0, ?_⟩))
                refine v_back (c := c) (s := s) H (show vsub V33_Row V192_Br [1] = true by decide +kernel) H' O' (fun F18 A18 H O' eF18 eA18 => ?_)
                have O := OUT_trans O O'
                -- Tags.isMark
                refine w_ifeq (t := 130) rfl rfl (show inr (z18) by omega) (fun b19 => ?_) (fun b19 => ?_)
                · refine Ew_of (pc' := 131) (fun _ => x_iconst rfl) ?_
                  exact w_ireturn rfl (k (0) _ _ _ H O (SF_trans (SF_trans (SF_trans (SF_trans (SF_refl) hS_9 (any_sub rfl)) (SF_glu (ι := [1]) hS11 eF11 (by decide +kernel)) (any_sub (l' := []) rfl)) (SF_glu (ι := [1]) hS14 eF14 (by decide +kernel)) (any_sub (l' := []) rfl)) (SF_glu (ι := [1]) hS18 eF18 (by decide +kernel)) (any_sub (l' := []) rfl)) (SA_trans (SA_trans (SA_trans (SA_trans (SA_refl) hA_9 (any_subA rfl)) (SA_glu (ι := [1]) hA11 eA11 (by decide +kernel)) (any_subA (l' := []) rfl)) (SA_glu (ι := [1]) hA14 eA14 (by decide +kernel)) (any_subA (l' := []) rfl)) (SA_glu (ι := [1]) hA18 eA18 (by decide +kernel)) (any_subA (l' := []) rfl)) (show inr (0) by omega) (show (0) = 0 ∨ (0) = 1 ∨ 3 ≤ (0) ∧ (0) ≤ 5 by omega))
                · refine Ew_of (pc' := 127) (fun _ => x_iconst rfl) ?_
                  refine Ew_of (pc' := 131) (fun _ => x_goto rfl rfl) ?_
                  exact w_ireturn rfl (k (3) _ _ _ H O (SF_trans (SF_trans (SF_trans (SF_trans (SF_refl) hS_9 (any_sub rfl)) (SF_glu (ι := [1]) hS11 eF11 (by decide +kernel)) (any_sub (l' := []) rfl)) (SF_glu (ι := [1]) hS14 eF14 (by decide +kernel)) (any_sub (l' := []) rfl)) (SF_glu (ι := [1]) hS18 eF18 (by decide +kernel)) (any_sub (l' := []) rfl)) (SA_trans (SA_trans (SA_trans (SA_trans (SA_refl) hA_9 (any_subA rfl)) (SA_glu (ι := [1]) hA11 eA11 (by decide +kernel)) (any_subA (l' := []) rfl)) (SA_glu (ι := [1]) hA14 eA14 (by decide +kernel)) (any_subA (l' := []) rfl)) (SA_glu (ι := [1]) hA18 eA18 (by decide +kernel)) (any_subA (l' := []) rfl)) (show inr (3) by omega) (show (3) = 0 ∨ (3) = 1 ∨ 3 ≤ (3) ∧ (3) ≤ 5 by omega))
        · refine Ew_of (pc' := 67) (fun _ => x_iconst rfl) ?_
          exact w_ireturn rfl (k (0) _ _ _ H O (SF_trans (SF_trans (SF_refl) hS_9 (any_sub rfl)) (SF_glu (ι := [1]) hS11 eF11 (by decide +kernel)) (any_sub (l' := []) rfl)) (SA_trans (SA_trans (SA_refl) hA_9 (any_subA rfl)) (SA_glu (ι := [1]) hA11 eA11 (by decide +kernel)) (any_subA (l' := []) rfl)) (show inr (0) by omega) (show (0) = 0 ∨ (0) = 1 ∨ 3 ≤ (0) ∧ (0) ≤ 5 by omega))
      · refine Ew_of (pc' := 30) (fun _ => x_aload_n rfl l9_1) ?_
        refine Ew_of (pc' := 31) (fun _ => x_iload_n rfl l9_2) ?_
        refine Ew_of (pc' := 32) (fun _ => x_aload_n rfl l9_0) ?_
        refine v_g H (o := 0) (v := I (u0_1)) rfl rfl rfl rfl rfl (congrArg (fun z : Int => I z) (((((show F11 0 1 = F_9 0 1 from (eF11 0 1))).trans (hS_9 0 1 rfl)).trans (eu0_1)) : F11 0 1 = u0_1)) ?_
        refine w_stat24 rfl rfl (by rfl) (C44_Br (D := pul [1] D) (N := pul [1] N) (HW_sub H (VS_of (show vsub V33_Row V44_Br [1] = true by decide +kernel))) (n1) (en1) (A 1) (((show A11 1 = A_9 1 from (eA11 1).trans (funext (hA11 0 rfl)))).trans (funext (hA_9 1 rfl))) (show inr (x9_2) by omega) (show inr (u0_1) by omega) (show 0 ≤ (x9_2) ∧ 0 ≤ (u0_1) ∧ (u0_1) ≤ (n1) ∧ (n1) ≤ 65536 ∧ (x9_2) ≤ 200000 by omega) (fun z20 σ20 F20' A20' H' O' hS20 hA20 pz20_0 pz20_1 pz20_2 => ⟨rfl, ?_⟩))
        refine v_back (c := c) (s := s) H (show vsub V33_Row V44_Br [1] = true by decide +kernel) H' O' (fun F20 A20 H O' eF20 eA20 => ?_)
        have O := OUT_trans O O'
        -- PackHouse.afterSpare
        refine Ew_of (pc' := 40) (fun _ => x_istore rfl) ?_
        refine Ew_of (pc' := 42) (fun _ => x_iload rfl rk_s) ?_
        refine w_ifge (t := 47) rfl rfl (show inr (z20) by omega) (fun b21 => ?_) (fun b21 => ?_)
        · refine Ew_of (pc' := 49) (fun _ => x_iload rfl rk_s) ?_
          refine Ew_of (pc' := 50) (fun _ => x_istore_n rfl) ?_
          refine Ew_of (pc' := 53) (fun _ => x_iinc (len := 3) rfl (rk_o (rk_o (l9_3) rfl rfl) rfl rfl)) ?_
          refine Ew_of (pc' := 9) (fun _ => x_goto rfl rfl) ?_
          exact ih9 _ (by omega) _ _ _ _ (z20) ((x9_3 + 1)) (rk_o (rk_o (rk_o (l9_0) rfl rfl) rfl rfl) rfl rfl) (rk_o (rk_o (rk_o (l9_1) rfl rfl) rfl rfl) rfl rfl) (rk_o (rk_s) rfl rfl) (rk_s) H O (SF_trans (SF_trans (hS_9) (SF_glu (ι := [1]) hS11 eF11 (by decide +kernel)) (any_sub (l' := []) rfl)) (SF_glu (ι := [1]) hS20 eF20 (by decide +kernel)) (any_sub (l' := []) rfl)) (SA_trans (SA_trans (hA_9) (SA_glu (ι := [1]) hA11 eA11 (by decide +kernel)) (any_subA (l' := []) rfl)) (SA_glu (ι := [1]) hA20 eA20 (by decide +kernel)) (any_subA (l' := []) rfl))     (show inr (z20) by omega) (show inr ((x9_3 + 1)) by omega) (show 0 ≤ (z20) ∧ (z20) ≤ (u0_1) by omega) (show 0 ≤ ((x9_3 + 1)) ∧ ((x9_3 + 1)) ≤ (u0_1) + 1 by omega) rfl
        · refine Ew_of (pc' := 46) (fun _ => x_iconst rfl) ?_
          exact w_ireturn rfl (k (0) _ _ _ H O (SF_trans (SF_trans (SF_trans (SF_refl) hS_9 (any_sub rfl)) (SF_glu (ι := [1]) hS11 eF11 (by decide +kernel)) (any_sub (l' := []) rfl)) (SF_glu (ι := [1]) hS20 eF20 (by decide +kernel)) (any_sub (l' := []) rfl)) (SA_trans (SA_trans (SA_trans (SA_refl) hA_9 (any_subA rfl)) (SA_glu (ι := [1]) hA11 eA11 (by decide +kernel)) (any_subA (l' := []) rfl)) (SA_glu (ι := [1]) hA20 eA20 (by decide +kernel)) (any_subA (l' := []) rfl)) (show inr (0) by omega) (show (0) = 0 ∨ (0) = 1 ∨ 3 ≤ (0) ∧ (0) ≤ 5 by omega))
