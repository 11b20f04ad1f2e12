abbrev V43_Br : vV := [(1, 0, [])]
/-- PackHouse.isSpare: #1 -/
theorem C43_Br {σE : rS} {D N : Nat → Nat} {F : hF} {A : hA} {d c s : Nat} {Q : wQ} (H : HW V43_Br σE D N F A) {a2 a3 : Int} (n0 : Int) (en0 : (N 0 : Int) = n0) (h0 : inr (a2)) (h1 : inr (a3)) (h2 : 0 ≤ (a2) ∧ 0 ≤ (a3) ∧ (a3) ≤ (n0) ∧ (n0) ≤ 65536 ∧ (a2) ≤ 200000) (k : ∀ (z : Int) (σ : rS) (F' : hF) (A' : hA), HW V43_Br σ D N F' A' → OUT (V43_Br).length D N σE c s D N σ c s → SF [] F F' → SA [] A A' → ((z) = 0 ∨ (z) = 1) → ((z) = 1 → (a2) + 4 ≤ (a3)) → Q (some (I z)) σ c s) : Ew 43 (d + 1) 0 (rargs 0 [.ref (D 0), I a2, I a3]) [] σE c s Q := by
  have O := OUT_refl (n := (V43_Br).length) (D := D) (N := N) (σ := σE) (c := c) (s := s)
  have HE := H
  have r1 : (0 : Int) ≤ n0 ∧ n0 ≤ 1000000 := by have h1 := H.nle 0 (by decide); have h2 : (N 0 : Int) = n0 := en0; omega
  refine Ew_of (pc' := 1) (fun _ => x_iload_n rfl rfl) ?_
  refine Ew_of (pc' := 2) (fun _ => x_iload_n rfl rfl) ?_
  refine w_isub rfl ?_
  refine Ew_of (pc' := 4) (fun _ => x_iconst rfl) ?_
  refine w_icmplt (t := 25) rfl rfl (show inr ((a3 - a2)) by omega) (show inr (4) by omega) (fun b2 => ?_) (fun b2 => ?_)
  · refine Ew_of (pc' := 26) (fun _ => x_iconst rfl) ?_
    exact w_ireturn rfl (k (0) _ _ _ H O (SF_refl) (SA_refl) (show (0) = 0 ∨ (0) = 1 by omega) (show (0) = 1 → a2 + 4 ≤ a3 by omega))
  · refine Ew_of (pc' := 8) (fun _ => x_aload_n rfl rfl) ?_
    refine Ew_of (pc' := 9) (fun _ => x_iload_n rfl rfl) ?_
    refine w_stat24 rfl rfl (by rfl) (C41_Br (D := pul [0] D) (N := pul [0] N) (HW_sub H (VS_of (show vsub V43_Br V41_Br [0] = true by decide +kernel))) (n0) (en0) (show inr (a2) by omega) (show 0 ≤ (a2) ∧ (a2) + 4 ≤ (n0) by omega) (fun z3 σ3 F3' A3' H' O' hS3 hA3 pz3_0 => ⟨rfl, ?_⟩))
    refine v_back (c := c) (s := s) H (show vsub V43_Br V41_Br [0] = true by decide +kernel) H' O' (fun F3 A3 H O' eF3 eA3 => ?_)
    have O := OUT_trans O O'
    -- PackHouse.word
    refine Ew_of (pc' := 14) (fun _ => x_bipush (z := -16) rfl (by decide)) ?_
    refine w_iand rfl (show inr (z3) by omega) (show inr ((-16)) by omega) (fun z4 gz4 gaz4 gbz4 => ?_)
    refine Ew_of (pc' := 18) (fun _ => x_ldc_w (z := 407710288) rfl (by decide)) ?_
    refine w_icmpne (t := 25) rfl rfl (show inr (z4) by omega) (show inr (407710288) by omega) (fun b5 => ?_) (fun b5 => ?_)
    · refine Ew_of (pc' := 26) (fun _ => x_iconst rfl) ?_
      exact w_ireturn rfl (k (0) _ _ _ H O (SF_trans (SF_refl) (SF_glu (ι := [0]) hS3 eF3 (by decide +kernel)) (any_sub (l' := []) rfl)) (SA_trans (SA_refl) (SA_glu (ι := [0]) hA3 eA3 (by decide +kernel)) (any_subA (l' := []) rfl)) (show (0) = 0 ∨ (0) = 1 by omega) (show (0) = 1 → a2 + 4 ≤ a3 by omega))
    · refine Ew_of (pc' := 22) (fun _ => x_iconst rfl) ?_
      refine Ew_of (pc' := 26) (fun _ => x_goto rfl rfl) ?_
      exact w_ireturn rfl (k (1) _ _ _ H O (SF_trans (SF_refl) (SF_glu (ι := [0]) hS3 eF3 (by decide +kernel)) (any_sub (l' := []) rfl)) (SA_trans (SA_refl) (SA_glu (ι := [0]) hA3 eA3 (by decide +kernel)) (any_subA (l' := []) rfl)) (show (1) = 0 ∨ (1) = 1 by omega) (show (1) = 1 → a2 + 4 ≤ a3 by omega))
abbrev V44_Br : vV := [(1, 0, [])]
/-- PackHouse.afterSpare: #1 -/
theorem C44_Br {σE : rS} {D N : Nat → Nat} {F : hF} {A : hA} {d c s : Nat} {Q : wQ} (H : HW V44_Br σE D N F A) {a2 a3 : Int} (n0 : Int) (en0 : (N 0 : Int) = n0) (h0 : inr (a2)) (h1 : inr (a3)) (h2 : 0 ≤ (a2) ∧ 0 ≤ (a3) ∧ (a3) ≤ (n0) ∧ (n0) ≤ 65536 ∧ (a2) ≤ 200000) (k : ∀ (z : Int) (σ : rS) (F' : hF) (A' : hA), HW V44_Br σ D N F' A' → OUT (V44_Br).length D N σE c s D N σ c s → SF [] F F' → SA [] A A' → (inr (z)) → ((z) = -1 ∨ (a2) + 8 ≤ (z) ∧ (z) ≤ (a3)) → Q (some (I z)) σ c s) : Ew 44 (d + 1) 0 (rargs 0 [.ref (D 0), I a2, I a3]) [] σE c s Q := by
  have O := OUT_refl (n := (V44_Br).length) (D := D) (N := N) (σ := σE) (c := c) (s := s)
  have HE := H
  have r1 : (0 : Int) ≤ n0 ∧ n0 ≤ 1000000 := by have h1 := H.nle 0 (by decide); have h2 : (N 0 : Int) = n0 := en0; omega
  refine Ew_of (pc' := 1) (fun _ => x_iload_n rfl rfl) ?_
  refine Ew_of (pc' := 2) (fun _ => x_iload_n rfl rfl) ?_
  refine w_isub rfl ?_
  refine Ew_of (pc' := 5) (fun _ => x_bipush (z := 8) rfl (by decide)) ?_
  refine w_icmpge (t := 10) rfl rfl (show inr ((a3 - a2)) by omega) (show inr (8) by omega) (fun b2 => ?_) (fun b2 => ?_)
  · refine Ew_of (pc' := 11) (fun _ => x_iload_n rfl rfl) ?_
    refine Ew_of (pc' := 13) (fun _ => x_bipush (z := 8) rfl (by decide)) ?_
    refine w_iadd rfl ?_
    refine w_i2l rfl (show inr ((a2 + 8)) by omega) ?_
    refine Ew_of (pc' := 16) (fun _ => x_aload_n rfl rfl) ?_
    refine Ew_of (pc' := 17) (fun _ => x_iload_n rfl rfl) ?_
    refine Ew_of (pc' := 18) (fun _ => x_iconst rfl) ?_
    refine w_iadd rfl ?_
    refine Ew_of (pc' := 20) (fun _ => x_iconst rfl) ?_
    refine w_stat24 rfl rfl (by rfl) (C42_Br (D := pul [0] D) (N := pul [0] N) (HW_sub H (VS_of (show vsub V44_Br V42_Br [0] = true by decide +kernel))) (n0) (en0) (show inr ((a2 + 4)) by omega) (show inr (4) by omega) (show (4) ≤ 0 ∨ 0 ≤ ((a2 + 4)) ∧ ((a2 + 4)) + (4) ≤ (n0) by omega) (show 0 ≤ (4) by omega) (fun z3 σ3 F3' A3' H' O' hS3 hA3 pz3_0 pz3_1 => ⟨rfl, ?_⟩))
    refine v_back (c := c) (s := s) H (show vsub V44_Br V42_Br [0] = true by decide +kernel) H' O' (fun F3 A3 H O' eF3 eA3 => ?_)
    have O := OUT_trans O O'
    -- PackHouse.number
    have hnb := nb4 pz3_1
    refine w_ladd rfl ?_
    refine Ew_of (pc' := 25) (fun _ => x_lstore_n rfl) ?_
    refine Ew_of (pc' := 26) (fun _ => x_lload_n rfl rk2_s) ?_
    refine Ew_of (pc' := 27) (fun _ => x_iload_n rfl (rk2_o (rfl) rfl rfl)) ?_
    refine w_i2l rfl (show inr (a3) by omega) ?_
    refine w_lcmp rfl (show inrJ (((a2 + 8) + z3)) by omega) (show inrJ (a3) by omega) (fun z4 gz4 gaz4 gbz4 => ?_)
    refine w_ifle (t := 36) rfl rfl (show inr (z4) by omega) (fun b5 => ?_) (fun b5 => ?_)
    · refine Ew_of (pc' := 37) (fun _ => x_lload_n rfl rk2_s) ?_
      refine w_l2i rfl ?_
      exact w_ireturn rfl (k (((a2 + 8) + z3)) _ _ _ H O (SF_trans (SF_refl) (SF_glu (ι := [0]) hS3 eF3 (by decide +kernel)) (any_sub (l' := []) rfl)) (SA_trans (SA_refl) (SA_glu (ι := [0]) hA3 eA3 (by decide +kernel)) (any_subA (l' := []) rfl)) (show inr (((a2 + 8) + z3)) by omega) (show (((a2 + 8) + z3)) = -1 ∨ a2 + 8 ≤ (((a2 + 8) + z3)) ∧ (((a2 + 8) + z3)) ≤ a3 by omega))
    · refine Ew_of (pc' := 33) (fun _ => x_iconst rfl) ?_
      refine Ew_of (pc' := 38) (fun _ => x_goto rfl rfl) ?_
      exact w_ireturn rfl (k ((-1)) _ _ _ H O (SF_trans (SF_refl) (SF_glu (ι := [0]) hS3 eF3 (by decide +kernel)) (any_sub (l' := []) rfl)) (SA_trans (SA_refl) (SA_glu (ι := [0]) hA3 eA3 (by decide +kernel)) (any_subA (l' := []) rfl)) (show inr ((-1)) by omega) (show ((-1)) = -1 ∨ a2 + 8 ≤ ((-1)) ∧ ((-1)) ≤ a3 by omega))
  · refine Ew_of (pc' := 9) (fun _ => x_iconst rfl) ?_
    exact w_ireturn rfl (k ((-1)) _ _ _ H O (SF_refl) (SA_refl) (show inr ((-1)) by omega) (show ((-1)) = -1 ∨ a2 + 8 ≤ ((-1)) ∧ ((-1)) ≤ a3 by omega))
abbrev V45 : vV := []
/-- PackHouse.highestBit:  -/
theorem C45 {σE : rS} {D N : Nat → Nat} {F : hF} {A : hA} {d c s : Nat} {Q : wQ} (H : HW V45 σE D N F A) {a1 : Int} (h0 : inr (a1)) (h1 : 1 ≤ (a1)) (k : ∀ (z : Int) (σ : rS) (F' : hF) (A' : hA), HW V45 σ D N F' A' → OUT (V45).length D N σE c s D N σ c s → SF [] F F' → SA [] A A' → (inr (z)) → (0 ≤ (z) ∧ (z) ≤ 30) → (p2 (z) ≤ (a1) ∧ (a1) < 2 * p2 (z)) → Q (some (I z)) σ c s) : Ew 45 (d + 0) 0 (rargs 0 [I a1]) [] σE c s Q := by
  have O := OUT_refl (n := (V45).length) (D := D) (N := N) (σ := σE) (c := c) (s := s)
  have HE := H
  refine Ew_of (pc' := 1) (fun _ => x_iconst rfl) ?_
  refine Ew_of (pc' := 2) (fun _ => x_istore_n rfl) ?_
  refine Ew_of (pc' := 3) (fun _ => x_iload_n rfl (rk_o (rfl) rfl rfl)) ?_
  refine Ew_of (pc' := 4) (fun _ => x_iconst rfl) ?_
  refine w_ishrK 1 2 (by decide) (by decide) rfl (show inr (a1) by omega) (fun z1 gz1 dz1 => ?_)
  have h0 := HI_s (HI_0 (a := (a1))) (by omega) (by omega) (by omega)
  have : HI ((a1)) 0 ((z1)) := by have e : (z1) = (a1) / 2 := (by omega); rw [e]; exact h0.1
  refine Ew_of (pc' := 6) (fun _ => x_istore_n rfl) ?_
  suffices hl6 : ∀ (m : Nat), ∀ (ls : rO) (σ : rS) (F_6 : hF) (A_6 : hA) (x6_1 : Int) (x6_2 : Int), rlook ls 1 = some (I (x6_1)) → rlook ls 2 = some (I (x6_2)) → HW V45 σ D N F_6 A_6 → OUT (V45).length D N σE c s D N σ c s → SF [] F F_6 → SA [] A A_6 → (inr (x6_1)) → (inr (x6_2)) → (0 ≤ (x6_1) ∧ (x6_1) ≤ 30) → (0 ≤ (x6_2)) → (HI ((a1)) ((x6_1)) ((x6_2))) → ((x6_2)).toNat = m → Ew 45 (d + 0) 6 ls [] σ c s Q from
    hl6 _ _ _ _ _ (0) (z1) (rk_o (rk_s) rfl rfl) (rk_s) H O (SF_refl) (SA_refl)     (show inr (0) by omega) (show inr (z1) by omega) (show 0 ≤ (0) ∧ (0) ≤ 30 by omega) (show 0 ≤ (z1) by omega) (show HI ((a1)) ((0)) ((z1)) by assumption) rfl
  as_aux_lemma =>
  intro m
  induction m using Nat.strongRecOn with
  | _ m ih6 =>
    intro ls σ F_6 A_6 x6_1 x6_2 l6_1 l6_2 H O hS_6 hA_6     j6_0 j6_1 j6_2 j6_3 j6_4 hm6
    refine Ew_of (pc' := 7) (fun _ => x_iload_n rfl l6_2) ?_
    refine w_ifle (t := 20) rfl rfl (show inr (x6_2) by omega) (fun b2 => ?_) (fun b2 => ?_)
    · have h2 := HI_end (show HI ((a1)) ((x6_1)) ((x6_2)) from by assumption) (by omega) (by omega) (by omega)
      refine Ew_of (pc' := 21) (fun _ => x_iload_n rfl l6_1) ?_
      exact w_ireturn rfl (k (x6_1) _ _ _ H O (SF_trans (SF_refl) hS_6 (any_sub rfl)) (SA_trans (SA_refl) hA_6 (any_subA rfl)) (show inr (x6_1) by omega) (show 0 ≤ (x6_1) ∧ (x6_1) ≤ 30 by omega) (show p2 (x6_1) ≤ a1 ∧ a1 < 2 * p2 (x6_1) by omega))
    · refine Ew_of (pc' := 13) (fun _ => x_iinc (len := 3) rfl (l6_1)) ?_
      refine Ew_of (pc' := 14) (fun _ => x_iload_n rfl (rk_o (l6_2) rfl rfl)) ?_
      refine Ew_of (pc' := 15) (fun _ => x_iconst rfl) ?_
      refine w_ishrK 1 2 (by decide) (by decide) rfl (show inr (x6_2) by omega) (fun z3 gz3 dz3 => ?_)
      have h1 := HI_s (show HI ((a1)) _ ((x6_2)) from by assumption) (by omega) (by omega) (by omega)
      have : HI ((a1)) (((x6_1 + 1))) ((z3)) := by have e : (z3) = (x6_2) / 2 := (by omega); rw [e]; exact h1.1
      refine Ew_of (pc' := 17) (fun _ => x_istore_n rfl) ?_
      refine Ew_of (pc' := 6) (fun _ => x_goto rfl rfl) ?_
      exact ih6 _ (by omega) _ _ _ _ ((x6_1 + 1)) (z3) (rk_o (rk_s) rfl rfl) (rk_s) H O (hS_6) (hA_6)     (show inr ((x6_1 + 1)) by omega) (show inr (z3) by omega) (show 0 ≤ ((x6_1 + 1)) ∧ ((x6_1 + 1)) ≤ 30 by omega) (show 0 ≤ (z3) by omega) (show HI ((a1)) (((x6_1 + 1))) ((z3)) by assumption) rfl
abbrev V49_Br : vV := [(1, 0, [])]
/-- PackHouse.narrowSum: #1 -/
theorem C49_Br {σE : rS} {D N : Nat → Nat} {F : hF} {A : hA} {d c s : Nat} {Q : wQ} (H : HW V49_Br σE D N F A) {a2 a3 a4 : Int} (n0 : Int) (en0 : (N 0 : Int) = n0) (h0 : inr (a2)) (h1 : inr (a3)) (h2 : inr (a4)) (h3 : 0 ≤ (a2) ∧ (a2) ≤ (a3) ∧ (a3) ≤ (n0)) (k : ∀ (z : Int) (σ : rS) (F' : hF) (A' : hA), HW V49_Br σ D N F' A' → OUT (V49_Br).length D N σE c s D N σ c s → SF [] F F' → SA [] A A' → (inr (z)) → Q (some (I z)) σ c s) : Ew 49 (d + 2) 0 (rargs 0 [.ref (D 0), I a2, I a3, I a4]) [] σE c s Q := by
  have O := OUT_refl (n := (V49_Br).length) (D := D) (N := N) (σ := σE) (c := c) (s := s)
  have HE := H
  have r1 : (0 : Int) ≤ n0 ∧ n0 ≤ 1000000 := by have h1 := H.nle 0 (by decide); have h2 : (N 0 : Int) = n0 := en0; omega
  refine Ew_of (pc' := 1) (fun _ => x_iload_n rfl rfl) ?_
  refine Ew_of (pc' := 3) (fun _ => x_istore rfl) ?_
  refine Ew_of (pc' := 4) (fun _ => x_iload_n rfl (rk_o (rfl) rfl rfl)) ?_
  refine Ew_of (pc' := 7) (fun _ => x_ldc_w (z := 374761393) rfl (by decide)) ?_
  refine w_iaddA rfl (fun z2 gz2 => ?_)
  refine Ew_of (pc' := 10) (fun _ => x_istore rfl) ?_
  have hc153 : ∀ (ls : rO) (σ : rS) (F_c153 : hF) (A_c153 : hA) (xc153_4 : Int) (xc153_5 : Int), rlook ls 0 = some (.ref (D 0)) → rlook ls 1 = some (I (a2)) → rlook ls 2 = some (I (a3)) → rlook ls 4 = some (I (xc153_4)) → rlook ls 5 = some (I (xc153_5)) → HW V49_Br σ D N F_c153 A_c153 → OUT (V49_Br).length D N σE c s D N σ c s → SF [] F F_c153 → SA [] A A_c153 → (inr (xc153_4)) → (inr (xc153_5)) → ((a2) ≤ (xc153_4) ∧ (xc153_4) ≤ (a3)) → Ew 49 (d + 2) 153 ls [] σ c s Q := by
   as_aux_lemma =>
    intro  ls σ F_c153 A_c153 xc153_4 xc153_5 lc153_0 lc153_1 lc153_2 lc153_4 lc153_5 H O hS_c153 hA_c153     jc153_0 jc153_1 jc153_2
    refine Ew_of (pc' := 155) (fun _ => x_iload rfl lc153_5) ?_
    refine Ew_of (pc' := 156) (fun _ => x_iload_n rfl lc153_2) ?_
    refine Ew_of (pc' := 157) (fun _ => x_iload_n rfl lc153_1) ?_
    refine w_isub rfl ?_
    refine w_iaddA rfl (fun z3 gz3 => ?_)
    refine Ew_of (pc' := 161) (fun _ => x_istore rfl) ?_
    suffices hl161 : ∀ (m : Nat), ∀ (ls : rO) (σ : rS) (F_161 : hF) (A_161 : hA) (x161_4 : Int) (x161_5 : Int), rlook ls 0 = some (.ref (D 0)) → rlook ls 2 = some (I (a3)) → rlook ls 4 = some (I (x161_4)) → rlook ls 5 = some (I (x161_5)) → HW V49_Br σ D N F_161 A_161 → OUT (V49_Br).length D N σE c s D N σ c s → SF [] F_c153 F_161 → SA [] A_c153 A_161 → (inr (x161_4)) → (inr (x161_5)) → ((a2) ≤ (x161_4) ∧ (x161_4) ≤ (a3)) → ((a3) - (x161_4)).toNat = m → Ew 49 (d + 2) 161 ls [] σ c s Q from
      hl161 _ _ _ _ _ (xc153_4) (z3) (rk_o (lc153_0) rfl rfl) (rk_o (lc153_2) rfl rfl) (rk_o (lc153_4) rfl rfl) (rk_s) H O (SF_refl) (SA_refl)     (show inr (xc153_4) by omega) (show inr (z3) by omega) (show (a2) ≤ (xc153_4) ∧ (xc153_4) ≤ (a3) by omega) rfl
    as_aux_lemma =>
    intro m
    induction m using Nat.strongRecOn with
    | _ m ih161 =>
      intro ls σ F_161 A_161 x161_4 x161_5 l161_0 l161_2 l161_4 l161_5 H O hS_161 hA_161     j161_0 j161_1 j161_2 hm161
      refine Ew_of (pc' := 162) (fun _ => x_iload_n rfl l161_2) ?_
      refine Ew_of (pc' := 164) (fun _ => x_iload rfl l161_4) ?_
      refine w_isub rfl ?_
      refine Ew_of (pc' := 166) (fun _ => x_iconst rfl) ?_
      refine w_icmplt (t := 199) rfl rfl (show inr ((a3 - x161_4)) by omega) (show inr (4) by omega) (fun b4 => ?_) (fun b4 => ?_)
      · suffices hl199 : ∀ (m : Nat), ∀ (ls : rO) (σ : rS) (F_199 : hF) (A_199 : hA) (x199_4 : Int) (x199_5 : Int), rlook ls 0 = some (.ref (D 0)) → rlook ls 2 = some (I (a3)) → rlook ls 4 = some (I (x199_4)) → rlook ls 5 = some (I (x199_5)) → HW V49_Br σ D N F_199 A_199 → OUT (V49_Br).length D N σE c s D N σ c s → SF [] F_161 F_199 → SA [] A_161 A_199 → (inr (x199_4)) → (inr (x199_5)) → ((a2) ≤ (x199_4) ∧ (x199_4) ≤ (a3)) → ((a3) - (x199_4)).toNat = m → Ew 49 (d + 2) 199 ls [] σ c s Q from
          hl199 _ _ _ _ _ (x161_4) (x161_5) (l161_0) (l161_2) (l161_4) (l161_5) H O (SF_refl) (SA_refl)     (show inr (x161_4) by omega) (show inr (x161_5) by omega) (show (a2) ≤ (x161_4) ∧ (x161_4) ≤ (a3) by omega) rfl
        as_aux_lemma =>
        intro m
        induction m using Nat.strongRecOn with
        | _ m ih199 =>
          intro ls σ F_199 A_199 x199_4 x199_5 l199_0 l199_2 l199_4 l199_5 H O hS_199 hA_199     j199_0 j199_1 j199_2 hm199
          refine Ew_of (pc' := 201) (fun _ => x_iload rfl l199_4) ?_
          refine Ew_of (pc' := 202) (fun _ => x_iload_n rfl l199_2) ?_
          refine w_icmpge (t := 237) rfl rfl (show inr (x199_4) by omega) (show inr (a3) by omega) (fun b5 => ?_) (fun b5 => ?_)
          · refine Ew_of (pc' := 239) (fun _ => x_iload rfl l199_5) ?_
            refine Ew_of (pc' := 241) (fun _ => x_iload rfl l199_5) ?_
            refine Ew_of (pc' := 243) (fun _ => x_bipush (z := 15) rfl (by decide)) ?_
            refine w_iushrA rfl (fun z6 gz6 => ?_)
            refine w_ixor rfl (fun z7 gz7 => ?_)
            refine Ew_of (pc' := 248) (fun _ => x_ldc_w (z := -2048144777) rfl (by decide)) ?_
            refine w_imulA rfl (fun z8 gz8 => ?_)
            refine Ew_of (pc' := 251) (fun _ => x_istore rfl) ?_
            refine Ew_of (pc' := 253) (fun _ => x_iload rfl rk_s) ?_
            refine Ew_of (pc' := 255) (fun _ => x_iload rfl rk_s) ?_
            refine Ew_of (pc' := 257) (fun _ => x_bipush (z := 13) rfl (by decide)) ?_
            refine w_iushrA rfl (fun z9 gz9 => ?_)
            refine w_ixor rfl (fun z10 gz10 => ?_)
            refine Ew_of (pc' := 262) (fun _ => x_ldc_w (z := -1028477379) rfl (by decide)) ?_
            refine w_imulA rfl (fun z11 gz11 => ?_)
            refine Ew_of (pc' := 265) (fun _ => x_istore rfl) ?_
            refine Ew_of (pc' := 267) (fun _ => x_iload rfl rk_s) ?_
            refine Ew_of (pc' := 269) (fun _ => x_iload rfl rk_s) ?_
            refine Ew_of (pc' := 271) (fun _ => x_bipush (z := 16) rfl (by decide)) ?_
            refine w_iushrA rfl (fun z12 gz12 => ?_)
            refine w_ixor rfl (fun z13 gz13 => ?_)
            exact w_ireturn rfl (k (z13) _ _ _ H O (SF_trans (SF_trans (SF_trans (SF_refl) hS_c153 (any_sub rfl)) hS_161 (any_sub rfl)) hS_199 (any_sub rfl)) (SA_trans (SA_trans (SA_trans (SA_refl) hA_c153 (any_subA rfl)) hA_161 (any_subA rfl)) hA_199 (any_subA rfl)) (show inr (z13) by omega))
          · refine Ew_of (pc' := 207) (fun _ => x_iload rfl l199_5) ?_
            refine Ew_of (pc' := 208) (fun _ => x_aload_n rfl l199_0) ?_
            refine Ew_of (pc' := 210) (fun _ => x_iload rfl l199_4) ?_
            refine v_lB H (o := 0) rfl rfl rfl rfl (n := n0) (en0) (show 0 ≤ x199_4 ∧ x199_4 < n0 by omega) (fun v14 ev14 qv14 => ?_)
            have ev14 : (A 0) (x199_4) = v14 := (congrFun ((funext (hA_199 0 rfl)).trans ((funext (hA_161 0 rfl)).trans (funext (hA_c153 0 rfl)))) (x199_4)).symm.trans ev14
            refine Ew_of (pc' := 214) (fun _ => x_sipush (z := 255) rfl (by decide)) ?_
            refine w_iand rfl (show inr (v14) by omega) (show inr (255) by omega) (fun z15 gz15 gaz15 gbz15 => ?_)
            refine Ew_of (pc' := 218) (fun _ => x_ldc_w (z := 374761393) rfl (by decide)) ?_
            refine w_imulA rfl (fun z16 gz16 => ?_)
            refine w_iaddA rfl (fun z17 gz17 => ?_)
            refine Ew_of (pc' := 222) (fun _ => x_bipush (z := 11) rfl (by decide)) ?_
            refine w_stat24 rfl rfl (by rfl) (C46 (D := pul [] D) (N := pul [] N) (HW_sub H (VS_of (show vsub V49_Br V46 [] = true by decide +kernel))) (show inr (z17) by omega) (show inr (11) by omega) (fun z18 σ18 F18' A18' H' O' hS18 hA18 pz18_0 => ⟨rfl, ?_⟩))
            refine v_back (c := c) (s := s) H (show vsub V49_Br V46 [] = true by decide +kernel) H' O' (fun F18 A18 H O' eF18 eA18 => ?_)
            have O := OUT_trans O O'
            -- PackHouse.rotated
            refine Ew_of (pc' := 228) (fun _ => x_ldc_w (z := -1640531535) rfl (by decide)) ?_
            refine w_imulA rfl (fun z19 gz19 => ?_)
            refine Ew_of (pc' := 231) (fun _ => x_istore rfl) ?_
            refine Ew_of (pc' := 234) (fun _ => x_iinc (len := 3) rfl (rk_o (l199_4) rfl rfl)) ?_
            refine Ew_of (pc' := 199) (fun _ => x_goto rfl rfl) ?_
            exact ih199 _ (by omega) _ _ _ _ ((x199_4 + 1)) (z19) (rk_o (rk_o (l199_0) rfl rfl) rfl rfl) (rk_o (rk_o (l199_2) rfl rfl) rfl rfl) (rk_s) (rk_o (rk_s) rfl rfl) H O (SF_trans (hS_199) (SF_glu (ι := []) hS18 eF18 (by decide +kernel)) (any_sub (l' := []) rfl)) (SA_trans (hA_199) (SA_glu (ι := []) hA18 eA18 (by decide +kernel)) (any_subA (l' := []) rfl))     (show inr ((x199_4 + 1)) by omega) (show inr (z19) by omega) (show (a2) ≤ ((x199_4 + 1)) ∧ ((x199_4 + 1)) ≤ (a3) by omega) rfl
      · refine Ew_of (pc' := 171) (fun _ => x_iload rfl l161_5) ?_
        refine Ew_of (pc' := 172) (fun _ => x_aload_n rfl l161_0) ?_
        refine Ew_of (pc' := 174) (fun _ => x_iload rfl l161_4) ?_
        refine w_stat24 rfl rfl (by rfl) (C41_Br (D := pul [0] D) (N := pul [0] N) (HW_sub H (VS_of (show vsub V49_Br V41_Br [0] = true by decide +kernel))) (n0) (en0) (show inr (x161_4) by omega) (show 0 ≤ (x161_4) ∧ (x161_4) + 4 ≤ (n0) by omega) (fun z20 σ20 F20' A20' H' O' hS20 hA20 pz20_0 => ⟨rfl, ?_⟩))
        refine v_back (c := c) (s := s) H (show vsub V49_Br V41_Br [0] = true by decide +kernel) H' O' (fun F20 A20 H O' eF20 eA20 => ?_)
        have O := OUT_trans O O'
        -- PackHouse.word
        refine Ew_of (pc' := 180) (fun _ => x_ldc_w (z := -1028477379) rfl (by decide)) ?_
        refine w_imulA rfl (fun z21 gz21 => ?_)
        refine w_iaddA rfl (fun z22 gz22 => ?_)
        refine Ew_of (pc' := 184) (fun _ => x_bipush (z := 17) rfl (by decide)) ?_
        refine w_stat24 rfl rfl (by rfl) (C46 (D := pul [] D) (N := pul [] N) (HW_sub H (VS_of (show vsub V49_Br V46 [] = true by decide +kernel))) (show inr (z22) by omega) (show inr (17) by omega) (fun z23 σ23 F23' A23' H' O' hS23 hA23 pz23_0 => ⟨rfl, ?_⟩))
        refine v_back (c := c) (s := s) H (show vsub V49_Br V46 [] = true by decide +kernel) H' O' (fun F23 A23 H O' eF23 eA23 => ?_)
        have O := OUT_trans O O'
        -- PackHouse.rotated
        refine Ew_of (pc' := 190) (fun _ => x_ldc_w (z := 668265263) rfl (by decide)) ?_
        refine w_imulA rfl (fun z24 gz24 => ?_)
        refine Ew_of (pc' := 193) (fun _ => x_istore rfl) ?_
        refine Ew_of (pc' := 196) (fun _ => x_iinc (len := 3) rfl (rk_o (l161_4) rfl rfl)) ?_
        refine Ew_of (pc' := 161) (fun _ => x_goto rfl rfl) ?_
        exact ih161 _ (by omega) _ _ _ _ ((x161_4 + 4)) (z24) (rk_o (rk_o (l161_0) rfl rfl) rfl rfl) (rk_o (rk_o (l161_2) rfl rfl) rfl rfl) (rk_s) (rk_o (rk_s) rfl rfl) H O (SF_trans (SF_trans (hS_161) (SF_glu (ι := [0]) hS20 eF20 (by decide +kernel)) (any_sub (l' := []) rfl)) (SF_glu (ι := []) hS23 eF23 (by decide +kernel)) (any_sub (l' := []) rfl)) (SA_trans (SA_trans (hA_161) (SA_glu (ι := [0]) hA20 eA20 (by decide +kernel)) (any_subA (l' := []) rfl)) (SA_glu (ι := []) hA23 eA23 (by decide +kernel)) (any_subA (l' := []) rfl))     (show inr ((x161_4 + 4)) by omega) (show inr (z24) by omega) (show (a2) ≤ ((x161_4 + 4)) ∧ ((x161_4 + 4)) ≤ (a3) by omega) rfl
  refine Ew_of (pc' := 11) (fun _ => x_iload_n rfl (rk_o (rk_o (rfl) rfl rfl) rfl rfl)) ?_
  refine Ew_of (pc' := 12) (fun _ => x_iload_n rfl (rk_o (rk_o (rfl) rfl rfl) rfl rfl)) ?_
  refine w_isub rfl ?_
  refine Ew_of (pc' := 15) (fun _ => x_bipush (z := 16) rfl (by decide)) ?_
  refine w_icmplt (t := 153) rfl rfl (show inr ((a3 - a2)) by omega) (show inr (16) by omega) (fun b25 => ?_) (fun b25 => ?_)
  · exact hc153  _ _ _ _ (a2) (z2) (rk_o (rk_o (rfl) rfl rfl) rfl rfl) (rk_o (rk_o (rfl) rfl rfl) rfl rfl) (rk_o (rk_o (rfl) rfl rfl) rfl rfl) (rk_o (rk_s) rfl rfl) (rk_s) H O (SF_refl) (SA_refl)     (show inr (a2) by omega) (show inr (z2) by omega) (show (a2) ≤ (a2) ∧ (a2) ≤ (a3) by omega)
  · refine Ew_of (pc' := 19) (fun _ => x_iload_n rfl (rk_o (rk_o (rfl) rfl rfl) rfl rfl)) ?_
    refine Ew_of (pc' := 22) (fun _ => x_ldc_w (z := -1640531535) rfl (by decide)) ?_
    refine w_iaddA rfl (fun z26 gz26 => ?_)
    refine Ew_of (pc' := 26) (fun _ => x_ldc_w (z := -2048144777) rfl (by decide)) ?_
    refine w_iaddA rfl (fun z27 gz27 => ?_)
    refine Ew_of (pc' := 29) (fun _ => x_istore rfl) ?_
    refine Ew_of (pc' := 30) (fun _ => x_iload_n rfl (rk_o (rk_o (rk_o (rfl) rfl rfl) rfl rfl) rfl rfl)) ?_
    refine Ew_of (pc' := 33) (fun _ => x_ldc_w (z := -2048144777) rfl (by decide)) ?_
    refine w_iaddA rfl (fun z28 gz28 => ?_)
    refine Ew_of (pc' := 36) (fun _ => x_istore rfl) ?_
    refine Ew_of (pc' := 37) (fun _ => x_iload_n rfl (rk_o (rk_o (rk_o (rk_o (rfl) rfl rfl) rfl rfl) rfl rfl) rfl rfl)) ?_
    refine Ew_of (pc' := 39) (fun _ => x_istore rfl) ?_
    refine Ew_of (pc' := 40) (fun _ => x_iload_n rfl (rk_o (rk_o (rk_o (rk_o (rk_o (rfl) rfl rfl) rfl rfl) rfl rfl) rfl rfl) rfl rfl)) ?_
    refine Ew_of (pc' := 43) (fun _ => x_ldc_w (z := -1640531535) rfl (by decide)) ?_
    refine w_isubA rfl (fun z29 gz29 => ?_)
    refine Ew_of (pc' := 46) (fun _ => x_istore rfl) ?_
    suffices hl46 : ∀ (m : Nat), ∀ (ls : rO) (σ : rS) (F_46 : hF) (A_46 : hA) (x46_4 : Int) (x46_6 : Int) (x46_7 : Int) (x46_8 : Int) (x46_9 : Int), rlook ls 0 = some (.ref (D 0)) → rlook ls 1 = some (I (a2)) → rlook ls 2 = some (I (a3)) → rlook ls 4 = some (I (x46_4)) → rlook ls 6 = some (I (x46_6)) → rlook ls 7 = some (I (x46_7)) → rlook ls 8 = some (I (x46_8)) → rlook ls 9 = some (I (x46_9)) → HW V49_Br σ D N F_46 A_46 → OUT (V49_Br).length D N σE c s D N σ c s → SF [] F F_46 → SA [] A A_46 → (inr (x46_4)) → (inr (x46_6)) → (inr (x46_7)) → (inr (x46_8)) → (inr (x46_9)) → ((a2) ≤ (x46_4) ∧ (x46_4) ≤ (a3)) → ((a3) - (x46_4)).toNat = m → Ew 49 (d + 2) 46 ls [] σ c s Q from
      hl46 _ _ _ _ _ (a2) (z27) (z28) (a4) (z29) (rk_o (rk_o (rk_o (rk_o (rk_o (rk_o (rfl) rfl rfl) rfl rfl) rfl rfl) rfl rfl) rfl rfl) rfl rfl) (rk_o (rk_o (rk_o (rk_o (rk_o (rk_o (rfl) rfl rfl) rfl rfl) rfl rfl) rfl rfl) rfl rfl) rfl rfl) (rk_o (rk_o (rk_o (rk_o (rk_o (rk_o (rfl) rfl rfl) rfl rfl) rfl rfl) rfl rfl) rfl rfl) rfl rfl) (rk_o (rk_o (rk_o (rk_o (rk_o (rk_s) rfl rfl) rfl rfl) rfl rfl) rfl rfl) rfl rfl) (rk_o (rk_o (rk_o (rk_s) rfl rfl) rfl rfl) rfl rfl) (rk_o (rk_o (rk_s) rfl rfl) rfl rfl) (rk_o (rk_s) rfl rfl) (rk_s) H O (SF_refl) (SA_refl)     (show inr (a2) by omega) (show inr (z27) by omega) (show inr (z28) by omega) (show inr (a4) by omega) (show inr (z29) by omega) (show (a2) ≤ (a2) ∧ (a2) ≤ (a3) by omega) rfl
    as_aux_lemma =>
    intro m
    induction m using Nat.strongRecOn with
    | _ m ih46 =>
      intro ls σ F_46 A_46 x46_4 x46_6 x46_7 x46_8 x46_9 l46_0 l46_1 l46_2 l46_4 l46_6 l46_7 l46_8 l46_9 H O hS_46 hA_46     j46_0 j46_1 j46_2 j46_3 j46_4 j46_5 hm46
      refine Ew_of (pc' := 47) (fun _ => x_iload_n rfl l46_2) ?_
      refine Ew_of (pc' := 49) (fun _ => x_iload rfl l46_4) ?_
      refine w_isub rfl ?_
      refine Ew_of (pc' := 52) (fun _ => x_bipush (z := 16) rfl (by decide)) ?_
      refine w_icmplt (t := 121) rfl rfl (show inr ((a3 - x46_4)) by omega) (show inr (16) by omega) (fun b30 => ?_) (fun b30 => ?_)
      · refine Ew_of (pc' := 123) (fun _ => x_iload rfl l46_6) ?_
        refine Ew_of (pc' := 124) (fun _ => x_iconst rfl) ?_
        refine w_stat24 rfl rfl (by rfl) (C46 (D := pul [] D) (N := pul [] N) (HW_sub H (VS_of (show vsub V49_Br V46 [] = true by decide +kernel))) (show inr (x46_6) by omega) (show inr (1) by omega) (fun z31 σ31 F31' A31' H' O' hS31 hA31 pz31_0 => ⟨rfl, ?_⟩))
        refine v_back (c := c) (s := s) H (show vsub V49_Br V46 [] = true by decide +kernel) H' O' (fun F31 A31 H O' eF31 eA31 => ?_)
        have O := OUT_trans O O'
        -- PackHouse.rotated
        refine Ew_of (pc' := 129) (fun _ => x_iload rfl l46_7) ?_
        refine Ew_of (pc' := 131) (fun _ => x_bipush (z := 7) rfl (by decide)) ?_
        refine w_stat24 rfl rfl (by rfl) (C46 (D := pul [] D) (N := pul [] N) (HW_sub H (VS_of (show vsub V49_Br V46 [] = true by decide +kernel))) (show inr (x46_7) by omega) (show inr (7) by omega) (fun z32 σ32 F32' A32' H' O' hS32 hA32 pz32_0 => ⟨rfl, ?_⟩))
        refine v_back (c := c) (s := s) H (show vsub V49_Br V46 [] = true by decide +kernel) H' O' (fun F32 A32 H O' eF32 eA32 => ?_)
        have O := OUT_trans O O'
        -- PackHouse.rotated
        refine w_iaddA rfl (fun z33 gz33 => ?_)
        refine Ew_of (pc' := 137) (fun _ => x_iload rfl l46_8) ?_
        refine Ew_of (pc' := 139) (fun _ => x_bipush (z := 12) rfl (by decide)) ?_
        refine w_stat24 rfl rfl (by rfl) (C46 (D := pul [] D) (N := pul [] N) (HW_sub H (VS_of (show vsub V49_Br V46 [] = true by decide +kernel))) (show inr (x46_8) by omega) (show inr (12) by omega) (fun z34 σ34 F34' A34' H' O' hS34 hA34 pz34_0 => ⟨rfl, ?_⟩))
        refine v_back (c := c) (s := s) H (show vsub V49_Br V46 [] = true by decide +kernel) H' O' (fun F34 A34 H O' eF34 eA34 => ?_)
        have O := OUT_trans O O'
        -- PackHouse.rotated
        refine w_iaddA rfl (fun z35 gz35 => ?_)
        refine Ew_of (pc' := 145) (fun _ => x_iload rfl l46_9) ?_
        refine Ew_of (pc' := 147) (fun _ => x_bipush (z := 18) rfl (by decide)) ?_
        refine w_stat24 rfl rfl (by rfl) (C46 (D := pul [] D) (N := pul [] N) (HW_sub H (VS_of (show vsub V49_Br V46 [] = true by decide +kernel))) (show inr (x46_9) by omega) (show inr (18) by omega) (fun z36 σ36 F36' A36' H' O' hS36 hA36 pz36_0 => ⟨rfl, ?_⟩))
        refine v_back (c := c) (s := s) H (show vsub V49_Br V46 [] = true by decide +kernel) H' O' (fun F36 A36 H O' eF36 eA36 => ?_)
        have O := OUT_trans O O'
        -- PackHouse.rotated
        refine w_iaddA rfl (fun z37 gz37 => ?_)
        refine Ew_of (pc' := 153) (fun _ => x_istore rfl) ?_
        exact hc153  _ _ _ _ (x46_4) (z37) (rk_o (l46_0) rfl rfl) (rk_o (l46_1) rfl rfl) (rk_o (l46_2) rfl rfl) (rk_o (l46_4) rfl rfl) (rk_s) H O (SF_trans (SF_trans (SF_trans (SF_trans (SF_trans (SF_refl) hS_46 (any_sub rfl)) (SF_glu (ι := []) hS31 eF31 (by decide +kernel)) (any_sub (l' := []) rfl)) (SF_glu (ι := []) hS32 eF32 (by decide +kernel)) (any_sub (l' := []) rfl)) (SF_glu (ι := []) hS34 eF34 (by decide +kernel)) (any_sub (l' := []) rfl)) (SF_glu (ι := []) hS36 eF36 (by decide +kernel)) (any_sub (l' := []) rfl)) (SA_trans (SA_trans (SA_trans (SA_trans (SA_trans (SA_refl) hA_46 (any_subA rfl)) (SA_glu (ι := []) hA31 eA31 (by decide +kernel)) (any_subA (l' := []) rfl)) (SA_glu (ι := []) hA32 eA32 (by decide +kernel)) (any_subA (l' := []) rfl)) (SA_glu (ι := []) hA34 eA34 (by decide +kernel)) (any_subA (l' := []) rfl)) (SA_glu (ι := []) hA36 eA36 (by decide +kernel)) (any_subA (l' := []) rfl))     (show inr (x46_4) by omega) (show inr (z37) by omega) (show (a2) ≤ (x46_4) ∧ (x46_4) ≤ (a3) by omega)
      · refine Ew_of (pc' := 57) (fun _ => x_iload rfl l46_6) ?_
        refine Ew_of (pc' := 58) (fun _ => x_aload_n rfl l46_0) ?_
        refine Ew_of (pc' := 60) (fun _ => x_iload rfl l46_4) ?_
        refine w_stat24 rfl rfl (by rfl) (C41_Br (D := pul [0] D) (N := pul [0] N) (HW_sub H (VS_of (show vsub V49_Br V41_Br [0] = true by decide +kernel))) (n0) (en0) (show inr (x46_4) by omega) (show 0 ≤ (x46_4) ∧ (x46_4) + 4 ≤ (n0) by omega) (fun z38 σ38 F38' A38' H' O' hS38 hA38 pz38_0 => ⟨rfl, ?_⟩))
        refine v_back (c := c) (s := s) H (show vsub V49_Br V41_Br [0] = true by decide +kernel) H' O' (fun F38 A38 H O' eF38 eA38 => ?_)
        have O := OUT_trans O O'
        -- PackHouse.word
        refine w_stat24 rfl rfl (by rfl) (C48 (D := pul [] D) (N := pul [] N) (HW_sub H (VS_of (show vsub V49_Br V48 [] = true by decide +kernel))) (show inr (x46_6) by omega) (show inr (z38) by omega) (fun z39 σ39 F39' A39' H' O' hS39 hA39 pz39_0 => ⟨rfl, ?_⟩))
        refine v_back (c := c) (s := s) H (show vsub V49_Br V48 [] = true by decide +kernel) H' O' (fun F39 A39 H O' eF39 eA39 => ?_)
        have O := OUT_trans O O'
        -- PackHouse.narrowLane
        refine Ew_of (pc' := 68) (fun _ => x_istore rfl) ?_
        refine Ew_of (pc' := 70) (fun _ => x_iload rfl (rk_o (l46_7) rfl rfl)) ?_
        refine Ew_of (pc' := 71) (fun _ => x_aload_n rfl (rk_o (l46_0) rfl rfl)) ?_
        refine Ew_of (pc' := 73) (fun _ => x_iload rfl (rk_o (l46_4) rfl rfl)) ?_
        refine Ew_of (pc' := 74) (fun _ => x_iconst rfl) ?_
        refine w_iadd rfl ?_
        refine w_stat24 rfl rfl (by rfl) (C41_Br (D := pul [0] D) (N := pul [0] N) (HW_sub H (VS_of (show vsub V49_Br V41_Br [0] = true by decide +kernel))) (n0) (en0) (show inr ((x46_4 + 4)) by omega) (show 0 ≤ ((x46_4 + 4)) ∧ ((x46_4 + 4)) + 4 ≤ (n0) by omega) (fun z40 σ40 F40' A40' H' O' hS40 hA40 pz40_0 => ⟨rfl, ?_⟩))
        refine v_back (c := c) (s := s) H (show vsub V49_Br V41_Br [0] = true by decide +kernel) H' O' (fun F40 A40 H O' eF40 eA40 => ?_)
        have O := OUT_trans O O'
        -- PackHouse.word
        refine w_stat24 rfl rfl (by rfl) (C48 (D := pul [] D) (N := pul [] N) (HW_sub H (VS_of (show vsub V49_Br V48 [] = true by decide +kernel))) (show inr (x46_7) by omega) (show inr (z40) by omega) (fun z41 σ41 F41' A41' H' O' hS41 hA41 pz41_0 => ⟨rfl, ?_⟩))
        refine v_back (c := c) (s := s) H (show vsub V49_Br V48 [] = true by decide +kernel) H' O' (fun F41 A41 H O' eF41 eA41 => ?_)
        have O := OUT_trans O O'
        -- PackHouse.narrowLane
        refine Ew_of (pc' := 83) (fun _ => x_istore rfl) ?_
        refine Ew_of (pc' := 85) (fun _ => x_iload rfl (rk_o (rk_o (l46_8) rfl rfl) rfl rfl)) ?_
        refine Ew_of (pc' := 86) (fun _ => x_aload_n rfl (rk_o (rk_o (l46_0) rfl rfl) rfl rfl)) ?_
        refine Ew_of (pc' := 88) (fun _ => x_iload rfl (rk_o (rk_o (l46_4) rfl rfl) rfl rfl)) ?_
        refine Ew_of (pc' := 90) (fun _ => x_bipush (z := 8) rfl (by decide)) ?_
        refine w_iadd rfl ?_
        refine w_stat24 rfl rfl (by rfl) (C41_Br (D := pul [0] D) (N := pul [0] N) (HW_sub H (VS_of (show vsub V49_Br V41_Br [0] = true by decide +kernel))) (n0) (en0) (show inr ((x46_4 + 8)) by omega) (show 0 ≤ ((x46_4 + 8)) ∧ ((x46_4 + 8)) + 4 ≤ (n0) by omega) (fun z42 σ42 F42' A42' H' O' hS42 hA42 pz42_0 => ⟨rfl, ?_⟩))
        refine v_back (c := c) (s := s) H (show vsub V49_Br V41_Br [0] = true by decide +kernel) H' O' (fun F42 A42 H O' eF42 eA42 => ?_)
        have O := OUT_trans O O'
        -- PackHouse.word
        refine w_stat24 rfl rfl (by rfl) (C48 (D := pul [] D) (N := pul [] N) (HW_sub H (VS_of (show vsub V49_Br V48 [] = true by decide +kernel))) (show inr (x46_8) by omega) (show inr (z42) by omega) (fun z43 σ43 F43' A43' H' O' hS43 hA43 pz43_0 => ⟨rfl, ?_⟩))
        refine v_back (c := c) (s := s) H (show vsub V49_Br V48 [] = true by decide +kernel) H' O' (fun F43 A43 H O' eF43 eA43 => ?_)
        have O := OUT_trans O O'
        -- PackHouse.narrowLane
        refine Ew_of (pc' := 99) (fun _ => x_istore rfl) ?_
        refine Ew_of (pc' := 101) (fun _ => x_iload rfl (rk_o (rk_o (rk_o (l46_9) rfl rfl) rfl rfl) rfl rfl)) ?_
        refine Ew_of (pc' := 102) (fun _ => x_aload_n rfl (rk_o (rk_o (rk_o (l46_0) rfl rfl) rfl rfl) rfl rfl)) ?_
        refine Ew_of (pc' := 104) (fun _ => x_iload rfl (rk_o (rk_o (rk_o (l46_4) rfl rfl) rfl rfl) rfl rfl)) ?_
        refine Ew_of (pc' := 106) (fun _ => x_bipush (z := 12) rfl (by decide)) ?_
        refine w_iadd rfl ?_
        refine w_stat24 rfl rfl (by rfl) (C41_Br (D := pul [0] D) (N := pul [0] N) (HW_sub H (VS_of (show vsub V49_Br V41_Br [0] = true by decide +kernel))) (n0) (en0) (show inr ((x46_4 + 12)) by omega) (show 0 ≤ ((x46_4 + 12)) ∧ ((x46_4 + 12)) + 4 ≤ (n0) by omega) (fun z44 σ44 F44' A44' H' O' hS44 hA44 pz44_0 => ⟨rfl, ?_⟩))
        refine v_back (c := c) (s := s) H (show vsub V49_Br V41_Br [0] = true by decide +kernel) H' O' (fun F44 A44 H O' eF44 eA44 => ?_)
        have O := OUT_trans O O'
        -- PackHouse.word
        refine w_stat24 rfl rfl (by rfl) (C48 (D := pul [] D) (N := pul [] N) (HW_sub H (VS_of (show vsub V49_Br V48 [] = true by decide +kernel))) (show inr (x46_9) by omega) (show inr (z44) by omega) (fun z45 σ45 F45' A45' H' O' hS45 hA45 pz45_0 => ⟨rfl, ?_⟩))
        refine v_back (c := c) (s := s) H (show vsub V49_Br V48 [] = true by decide +kernel) H' O' (fun F45 A45 H O' eF45 eA45 => ?_)
        have O := OUT_trans O O'
        -- PackHouse.narrowLane
        refine Ew_of (pc' := 115) (fun _ => x_istore rfl) ?_
        refine Ew_of (pc' := 118) (fun _ => x_iinc (len := 3) rfl (rk_o (rk_o (rk_o (rk_o (l46_4) rfl rfl) rfl rfl) rfl rfl) rfl rfl)) ?_
        refine Ew_of (pc' := 46) (fun _ => x_goto rfl rfl) ?_
        exact ih46 _ (by omega) _ _ _ _ ((x46_4 + 16)) (z39) (z41) (z43) (z45) (rk_o (rk_o (rk_o (rk_o (rk_o (l46_0) rfl rfl) rfl rfl) rfl rfl) rfl rfl) rfl rfl) (rk_o (rk_o (rk_o (rk_o (rk_o (l46_1) rfl rfl) rfl rfl) rfl rfl) rfl rfl) rfl rfl) (rk_o (rk_o (rk_o (rk_o (rk_o (l46_2) rfl rfl) rfl rfl) rfl rfl) rfl rfl) rfl rfl) (rk_s) (rk_o (rk_o (rk_o (rk_o (rk_s) rfl rfl) rfl rfl) rfl rfl) rfl rfl) (rk_o (rk_o (rk_o (rk_s) rfl rfl) rfl rfl) rfl rfl) (rk_o (rk_o (rk_s) rfl rfl) rfl rfl) (rk_o (rk_s) rfl rfl) H O (SF_trans (SF_trans (SF_trans (SF_trans (SF_trans (SF_trans (SF_trans (SF_trans (hS_46) (SF_glu (ι := [0]) hS38 eF38 (by decide +kernel)) (any_sub (l' := []) rfl)) (SF_glu (ι := []) hS39 eF39 (by decide +kernel)) (any_sub (l' := []) rfl)) (SF_glu (ι := [0]) hS40 eF40 (by decide +kernel)) (any_sub (l' := []) rfl)) (SF_glu (ι := []) hS41 eF41 (by decide +kernel)) (any_sub (l' := []) rfl)) (SF_glu (ι := [0]) hS42 eF42 (by decide +kernel)) (any_sub (l' := []) rfl)) (SF_glu (ι := []) hS43 eF43 (by decide +kernel)) (any_sub (l' := []) rfl)) (SF_glu (ι := [0]) hS44 eF44 (by decide +kernel)) (any_sub (l' := []) rfl)) (SF_glu (ι := []) hS45 eF45 (by decide +kernel)) (any_sub (l' := []) rfl)) (SA_trans (SA_trans (SA_trans (SA_trans (SA_trans (SA_trans (SA_trans (SA_trans (hA_46) (SA_glu (ι := [0]) hA38 eA38 (by decide +kernel)) (any_subA (l' := []) rfl)) (SA_glu (ι := []) hA39 eA39 (by decide +kernel)) (any_subA (l' := []) rfl)) (SA_glu (ι := [0]) hA40 eA40 (by decide +kernel)) (any_subA (l' := []) rfl)) (SA_glu (ι := []) hA41 eA41 (by decide +kernel)) (any_subA (l' := []) rfl)) (SA_glu (ι := [0]) hA42 eA42 (by decide +kernel)) (any_subA (l' := []) rfl)) (SA_glu (ι := []) hA43 eA43 (by decide +kernel)) (any_subA (l' := []) rfl)) (SA_glu (ι := [0]) hA44 eA44 (by decide +kernel)) (any_subA (l' := []) rfl)) (SA_glu (ι := []) hA45 eA45 (by decide +kernel)) (any_subA (l' := []) rfl))     (show inr ((x46_4 + 16)) by omega) (show inr (z39) by omega) (show inr (z41) by omega) (show inr (z43) by omega) (show inr (z45) by omega) (show (a2) ≤ ((x46_4 + 16)) ∧ ((x46_4 + 16)) ≤ (a3) by omega) rfl
abbrev V52_Br : vV := [(1, 0, [])]
/-- PackHouse.wideRest: #1 -/
theorem C52_Br {σE : rS} {D N : Nat → Nat} {F : hF} {A : hA} {d c s : Nat} {Q : wQ} (H : HW V52_Br σE D N F A) {a2 a3 a4 : Int} (n0 : Int) (en0 : (N 0 : Int) = n0) (h0 : inr (a2)) (h1 : inr (a3)) (h2 : inrJ (a4)) (h3 : 0 ≤ (a2) ∧ (a2) ≤ (a3) ∧ (a3) ≤ (n0)) (k : ∀ (z : Int) (σ : rS) (F' : hF) (A' : hA), HW V52_Br σ D N F' A' → OUT (V52_Br).length D N σE c s D N σ c s → SF [] F F' → SA [] A A' → (inrJ (z)) → Q (some (J z)) σ c s) : Ew 52 (d + 2) 0 (rargs 0 [.ref (D 0), I a2, I a3, J a4]) [] σE c s Q := by
  have O := OUT_refl (n := (V52_Br).length) (D := D) (N := N) (σ := σE) (c := c) (s := s)
  have HE := H
  have r1 : (0 : Int) ≤ n0 ∧ n0 ≤ 1000000 := by have h1 := H.nle 0 (by decide); have h2 : (N 0 : Int) = n0 := en0; omega
  refine Ew_of (pc' := 1) (fun _ => x_iload_n rfl rfl) ?_
  refine Ew_of (pc' := 3) (fun _ => x_istore rfl) ?_
  refine Ew_of (pc' := 4) (fun _ => x_lload_n rfl (rk_o (rfl) rfl rfl)) ?_
  refine Ew_of (pc' := 6) (fun _ => x_lstore rfl) ?_
  suffices hl6 : ∀ (m : Nat), ∀ (ls : rO) (σ : rS) (F_6 : hF) (A_6 : hA) (x6_5 : Int) (x6_6 : Int), rlook ls 0 = some (.ref (D 0)) → rlook ls 2 = some (I (a3)) → rlook ls 5 = some (I (x6_5)) → rlook ls 6 = some (J (x6_6)) → HW V52_Br σ D N F_6 A_6 → OUT (V52_Br).length D N σE c s D N σ c s → SF [] F F_6 → SA [] A A_6 → (inr (x6_5)) → (inrJ (x6_6)) → ((a2) ≤ (x6_5) ∧ (x6_5) ≤ (a3)) → ((a3) - (x6_5)).toNat = m → Ew 52 (d + 2) 6 ls [] σ c s Q from
    hl6 _ _ _ _ _ (a2) (a4) (rk2_o (rk_o (rfl) rfl rfl) rfl rfl) (rk2_o (rk_o (rfl) rfl rfl) rfl rfl) (rk2_o (rk_s) rfl rfl) (rk2_s) H O (SF_refl) (SA_refl)     (show inr (a2) by omega) (show inrJ (a4) by omega) (show (a2) ≤ (a2) ∧ (a2) ≤ (a3) by omega) rfl
  as_aux_lemma =>
  intro m
  induction m using Nat.strongRecOn with
  | _ m ih6 =>
    intro ls σ F_6 A_6 x6_5 x6_6 l6_0 l6_2 l6_5 l6_6 H O hS_6 hA_6     j6_0 j6_1 j6_2 hm6
    refine Ew_of (pc' := 7) (fun _ => x_iload_n rfl l6_2) ?_
    refine Ew_of (pc' := 9) (fun _ => x_iload rfl l6_5) ?_
    refine w_isub rfl ?_
    refine Ew_of (pc' := 12) (fun _ => x_bipush (z := 8) rfl (by decide)) ?_
    refine w_icmplt (t := 51) rfl rfl (show inr ((a3 - x6_5)) by omega) (show inr (8) by omega) (fun b2 => ?_) (fun b2 => ?_)
    · refine Ew_of (pc' := 52) (fun _ => x_iload_n rfl l6_2) ?_
      refine Ew_of (pc' := 54) (fun _ => x_iload rfl l6_5) ?_
      refine w_isub rfl ?_
      refine Ew_of (pc' := 56) (fun _ => x_iconst rfl) ?_
      refine w_icmplt (t := 91) rfl rfl (show inr ((a3 - x6_5)) by omega) (show inr (4) by omega) (fun b3 => ?_) (fun b3 => ?_)
      · suffices hl91 : ∀ (m : Nat), ∀ (ls : rO) (σ : rS) (F_91 : hF) (A_91 : hA) (x91_5 : Int) (x91_6 : Int), rlook ls 0 = some (.ref (D 0)) → rlook ls 2 = some (I (a3)) → rlook ls 5 = some (I (x91_5)) → rlook ls 6 = some (J (x91_6)) → HW V52_Br σ D N F_91 A_91 → OUT (V52_Br).length D N σE c s D N σ c s → SF [] F_6 F_91 → SA [] A_6 A_91 → (inr (x91_5)) → (inrJ (x91_6)) → ((a2) ≤ (x91_5) ∧ (x91_5) ≤ (a3)) → ((a3) - (x91_5)).toNat = m → Ew 52 (d + 2) 91 ls [] σ c s Q from
          hl91 _ _ _ _ _ (x6_5) (x6_6) (l6_0) (l6_2) (l6_5) (l6_6) H O (SF_refl) (SA_refl)     (show inr (x6_5) by omega) (show inrJ (x6_6) by omega) (show (a2) ≤ (x6_5) ∧ (x6_5) ≤ (a3) by omega) rfl
        as_aux_lemma =>
        intro m
        induction m using Nat.strongRecOn with
        | _ m ih91 =>
          intro ls σ F_91 A_91 x91_5 x91_6 l91_0 l91_2 l91_5 l91_6 H O hS_91 hA_91     j91_0 j91_1 j91_2 hm91
          refine Ew_of (pc' := 93) (fun _ => x_iload rfl l91_5) ?_
          refine Ew_of (pc' := 94) (fun _ => x_iload_n rfl l91_2) ?_
          refine w_icmpge (t := 130) rfl rfl (show inr (x91_5) by omega) (show inr (a3) by omega) (fun b4 => ?_) (fun b4 => ?_)
          · refine Ew_of (pc' := 132) (fun _ => x_lload rfl l91_6) ?_
            refine Ew_of (pc' := 134) (fun _ => x_lload rfl l91_6) ?_
            refine Ew_of (pc' := 136) (fun _ => x_bipush (z := 33) rfl (by decide)) ?_
            refine w_lushrA rfl (fun z5 gz5 => ?_)
            refine w_lxorA rfl (fun z6 gz6 => ?_)
            refine Ew_of (pc' := 141) (fun _ => x_ldc2 (z := -4417276706812531889) rfl (by decide)) ?_
            refine w_lmulA rfl (fun z7 gz7 => ?_)
            refine Ew_of (pc' := 144) (fun _ => x_lstore rfl) ?_
            refine Ew_of (pc' := 146) (fun _ => x_lload rfl rk2_s) ?_
            refine Ew_of (pc' := 148) (fun _ => x_lload rfl rk2_s) ?_
            refine Ew_of (pc' := 150) (fun _ => x_bipush (z := 29) rfl (by decide)) ?_
            refine w_lushrA rfl (fun z8 gz8 => ?_)
            refine w_lxorA rfl (fun z9 gz9 => ?_)
            refine Ew_of (pc' := 155) (fun _ => x_ldc2 (z := 1609587929392839161) rfl (by decide)) ?_
            refine w_lmulA rfl (fun z10 gz10 => ?_)
            refine Ew_of (pc' := 158) (fun _ => x_lstore rfl) ?_
            refine Ew_of (pc' := 160) (fun _ => x_lload rfl rk2_s) ?_
            refine Ew_of (pc' := 162) (fun _ => x_lload rfl rk2_s) ?_
            refine Ew_of (pc' := 164) (fun _ => x_bipush (z := 32) rfl (by decide)) ?_
            refine w_lushrA rfl (fun z11 gz11 => ?_)
            refine w_lxorA rfl (fun z12 gz12 => ?_)
            exact w_lreturn rfl (k (z12) _ _ _ H O (SF_trans (SF_trans (SF_refl) hS_6 (any_sub rfl)) hS_91 (any_sub rfl)) (SA_trans (SA_trans (SA_refl) hA_6 (any_subA rfl)) hA_91 (any_subA rfl)) (show inrJ (z12) by omega))
          · refine Ew_of (pc' := 99) (fun _ => x_lload rfl l91_6) ?_
            refine Ew_of (pc' := 100) (fun _ => x_aload_n rfl l91_0) ?_
            refine Ew_of (pc' := 102) (fun _ => x_iload rfl l91_5) ?_
            refine v_lB H (o := 0) rfl rfl rfl rfl (n := n0) (en0) (show 0 ≤ x91_5 ∧ x91_5 < n0 by omega) (fun v13 ev13 qv13 => ?_)
            have ev13 : (A 0) (x91_5) = v13 := (congrFun ((funext (hA_91 0 rfl)).trans (funext (hA_6 0 rfl))) (x91_5)).symm.trans ev13
            refine Ew_of (pc' := 106) (fun _ => x_sipush (z := 255) rfl (by decide)) ?_
            refine w_iand rfl (show inr (v13) by omega) (show inr (255) by omega) (fun z14 gz14 gaz14 gbz14 => ?_)
            refine w_i2l rfl (show inr (z14) by omega) ?_
            refine Ew_of (pc' := 111) (fun _ => x_ldc2 (z := 2870177450012600261) rfl (by decide)) ?_
            refine w_lmulA rfl (fun z15 gz15 => ?_)
            refine w_lxorA rfl (fun z16 gz16 => ?_)
            refine Ew_of (pc' := 115) (fun _ => x_bipush (z := 11) rfl (by decide)) ?_
            refine w_stat24 rfl rfl (by rfl) (C47 (D := pul [] D) (N := pul [] N) (HW_sub H (VS_of (show vsub V52_Br V47 [] = true by decide +kernel))) (show inrJ (z16) by omega) (show inr (11) by omega) (fun z17 σ17 F17' A17' H' O' hS17 hA17 pz17_0 => ⟨rfl, ?_⟩))
            refine v_back (c := c) (s := s) H (show vsub V52_Br V47 [] = true by decide +kernel) H' O' (fun F17 A17 H O' eF17 eA17 => ?_)
            have O := OUT_trans O O'
            -- PackHouse.rotated
            refine Ew_of (pc' := 121) (fun _ => x_ldc2 (z := -7046029288634856825) rfl (by decide)) ?_
            refine w_lmulA rfl (fun z18 gz18 => ?_)
            refine Ew_of (pc' := 124) (fun _ => x_lstore rfl) ?_
            refine Ew_of (pc' := 127) (fun _ => x_iinc (len := 3) rfl (rk2_o (l91_5) rfl rfl)) ?_
            refine Ew_of (pc' := 91) (fun _ => x_goto rfl rfl) ?_
            exact ih91 _ (by omega) _ _ _ _ ((x91_5 + 1)) (z18) (rk_o (rk2_o (l91_0) rfl rfl) rfl rfl) (rk_o (rk2_o (l91_2) rfl rfl) rfl rfl) (rk_s) (rk_o (rk2_s) rfl rfl) H O (SF_trans (hS_91) (SF_glu (ι := []) hS17 eF17 (by decide +kernel)) (any_sub (l' := []) rfl)) (SA_trans (hA_91) (SA_glu (ι := []) hA17 eA17 (by decide +kernel)) (any_subA (l' := []) rfl))     (show inr ((x91_5 + 1)) by omega) (show inrJ (z18) by omega) (show (a2) ≤ ((x91_5 + 1)) ∧ ((x91_5 + 1)) ≤ (a3) by omega) rfl
      · refine Ew_of (pc' := 61) (fun _ => x_lload rfl l6_6) ?_
        refine Ew_of (pc' := 62) (fun _ => x_aload_n rfl l6_0) ?_
        refine Ew_of (pc' := 64) (fun _ => x_iload rfl l6_5) ?_
        refine Ew_of (pc' := 65) (fun _ => x_iconst rfl) ?_
        refine w_stat24 rfl rfl (by rfl) (C42_Br (D := pul [0] D) (N := pul [0] N) (HW_sub H (VS_of (show vsub V52_Br V42_Br [0] = true by decide +kernel))) (n0) (en0) (show inr (x6_5) by omega) (show inr (4) by omega) (show (4) ≤ 0 ∨ 0 ≤ (x6_5) ∧ (x6_5) + (4) ≤ (n0) by omega) (show 0 ≤ (4) by omega) (fun z19 σ19 F19' A19' H' O' hS19 hA19 pz19_0 pz19_1 => ⟨rfl, ?_⟩))
        refine v_back (c := c) (s := s) H (show vsub V52_Br V42_Br [0] = true by decide +kernel) H' O' (fun F19 A19 H O' eF19 eA19 => ?_)
        have O := OUT_trans O O'
        -- PackHouse.number
        refine Ew_of (pc' := 71) (fun _ => x_ldc2 (z := -7046029288634856825) rfl (by decide)) ?_
        refine w_lmulA rfl (fun z20 gz20 => ?_)
        refine w_lxorA rfl (fun z21 gz21 => ?_)
        refine Ew_of (pc' := 75) (fun _ => x_bipush (z := 23) rfl (by decide)) ?_
        refine w_stat24 rfl rfl (by rfl) (C47 (D := pul [] D) (N := pul [] N) (HW_sub H (VS_of (show vsub V52_Br V47 [] = true by decide +kernel))) (show inrJ (z21) by omega) (show inr (23) by omega) (fun z22 σ22 F22' A22' H' O' hS22 hA22 pz22_0 => ⟨rfl, ?_⟩))
        refine v_back (c := c) (s := s) H (show vsub V52_Br V47 [] = true by decide +kernel) H' O' (fun F22 A22 H O' eF22 eA22 => ?_)
        have O := OUT_trans O O'
        -- PackHouse.rotated
        refine Ew_of (pc' := 81) (fun _ => x_ldc2 (z := -4417276706812531889) rfl (by decide)) ?_
        refine w_lmulA rfl (fun z23 gz23 => ?_)
        refine Ew_of (pc' := 85) (fun _ => x_ldc2 (z := 1609587929392839161) rfl (by decide)) ?_
        refine w_laddA rfl (fun z24 gz24 => ?_)
        refine Ew_of (pc' := 88) (fun _ => x_lstore rfl) ?_
        refine Ew_of (pc' := 91) (fun _ => x_iinc (len := 3) rfl (rk2_o (l6_5) rfl rfl)) ?_
        suffices hl91 : ∀ (m : Nat), ∀ (ls : rO) (σ : rS) (F_91 : hF) (A_91 : hA) (x91_5 : Int) (x91_6 : Int), rlook ls 0 = some (.ref (D 0)) → rlook ls 2 = some (I (a3)) → rlook ls 5 = some (I (x91_5)) → rlook ls 6 = some (J (x91_6)) → HW V52_Br σ D N F_91 A_91 → OUT (V52_Br).length D N σE c s D N σ c s → SF [] F22 F_91 → SA [] A22 A_91 → (inr (x91_5)) → (inrJ (x91_6)) → ((a2) ≤ (x91_5) ∧ (x91_5) ≤ (a3)) → ((a3) - (x91_5)).toNat = m → Ew 52 (d + 2) 91 ls [] σ c s Q from
          hl91 _ _ _ _ _ ((x6_5 + 4)) (z24) (rk_o (rk2_o (l6_0) rfl rfl) rfl rfl) (rk_o (rk2_o (l6_2) rfl rfl) rfl rfl) (rk_s) (rk_o (rk2_s) rfl rfl) H O (SF_refl) (SA_refl)     (show inr ((x6_5 + 4)) by omega) (show inrJ (z24) by omega) (show (a2) ≤ ((x6_5 + 4)) ∧ ((x6_5 + 4)) ≤ (a3) by omega) rfl
        as_aux_lemma =>
        intro m
        induction m using Nat.strongRecOn with
        | _ m ih91 =>
          intro ls σ F_91 A_91 x91_5 x91_6 l91_0 l91_2 l91_5 l91_6 H O hS_91 hA_91     j91_0 j91_1 j91_2 hm91
          refine Ew_of (pc' := 93) (fun _ => x_iload rfl l91_5) ?_
          refine Ew_of (pc' := 94) (fun _ => x_iload_n rfl l91_2) ?_
          refine w_icmpge (t := 130) rfl rfl (show inr (x91_5) by omega) (show inr (a3) by omega) (fun b25 => ?_) (fun b25 => ?_)
          · refine Ew_of (pc' := 132) (fun _ => x_lload rfl l91_6) ?_
            refine Ew_of (pc' := 134) (fun _ => x_lload rfl l91_6) ?_
            refine Ew_of (pc' := 136) (fun _ => x_bipush (z := 33) rfl (by decide)) ?_
            refine w_lushrA rfl (fun z26 gz26 => ?_)
            refine w_lxorA rfl (fun z27 gz27 => ?_)
            refine Ew_of (pc' := 141) (fun _ => x_ldc2 (z := -4417276706812531889) rfl (by decide)) ?_
            refine w_lmulA rfl (fun z28 gz28 => ?_)
            refine Ew_of (pc' := 144) (fun _ => x_lstore rfl) ?_
            refine Ew_of (pc' := 146) (fun _ => x_lload rfl rk2_s) ?_
            refine Ew_of (pc' := 148) (fun _ => x_lload rfl rk2_s) ?_
            refine Ew_of (pc' := 150) (fun _ => x_bipush (z := 29) rfl (by decide)) ?_
            refine w_lushrA rfl (fun z29 gz29 => ?_)
            refine w_lxorA rfl (fun z30 gz30 => ?_)
            refine Ew_of (pc' := 155) (fun _ => x_ldc2 (z := 1609587929392839161) rfl (by decide)) ?_
            refine w_lmulA rfl (fun z31 gz31 => ?_)
            refine Ew_of (pc' := 158) (fun _ => x_lstore rfl) ?_
            refine Ew_of (pc' := 160) (fun _ => x_lload rfl rk2_s) ?_
            refine Ew_of (pc' := 162) (fun _ => x_lload rfl rk2_s) ?_
            refine Ew_of (pc' := 164) (fun _ => x_bipush (z := 32) rfl (by decide)) ?_
            refine w_lushrA rfl (fun z32 gz32 => ?_)
            refine w_lxorA rfl (fun z33 gz33 => ?_)
            exact w_lreturn rfl (k (z33) _ _ _ H O (SF_trans (SF_trans (SF_trans (SF_trans (SF_refl) hS_6 (any_sub rfl)) (SF_glu (ι := [0]) hS19 eF19 (by decide +kernel)) (any_sub (l' := []) rfl)) (SF_glu (ι := []) hS22 eF22 (by decide +kernel)) (any_sub (l' := []) rfl)) hS_91 (any_sub rfl)) (SA_trans (SA_trans (SA_trans (SA_trans (SA_refl) hA_6 (any_subA rfl)) (SA_glu (ι := [0]) hA19 eA19 (by decide +kernel)) (any_subA (l' := []) rfl)) (SA_glu (ι := []) hA22 eA22 (by decide +kernel)) (any_subA (l' := []) rfl)) hA_91 (any_subA rfl)) (show inrJ (z33) by omega))
          · refine Ew_of (pc' := 99) (fun _ => x_lload rfl l91_6) ?_
            refine Ew_of (pc' := 100) (fun _ => x_aload_n rfl l91_0) ?_
            refine Ew_of (pc' := 102) (fun _ => x_iload rfl l91_5) ?_
            refine v_lB H (o := 0) rfl rfl rfl rfl (n := n0) (en0) (show 0 ≤ x91_5 ∧ x91_5 < n0 by omega) (fun v34 ev34 qv34 => ?_)
            have ev34 : (A 0) (x91_5) = v34 := (congrFun ((funext (hA_91 0 rfl)).trans (((show A22 0 = A19 0 from (eA22 0))).trans (((show A19 0 = A_6 0 from (eA19 0).trans (funext (hA19 0 rfl)))).trans (funext (hA_6 0 rfl))))) (x91_5)).symm.trans ev34
            refine Ew_of (pc' := 106) (fun _ => x_sipush (z := 255) rfl (by decide)) ?_
            refine w_iand rfl (show inr (v34) by omega) (show inr (255) by omega) (fun z35 gz35 gaz35 gbz35 => ?_)
            refine w_i2l rfl (show inr (z35) by omega) ?_
            refine Ew_of (pc' := 111) (fun _ => x_ldc2 (z := 2870177450012600261) rfl (by decide)) ?_
            refine w_lmulA rfl (fun z36 gz36 => ?_)
            refine w_lxorA rfl (fun z37 gz37 => ?_)
            refine Ew_of (pc' := 115) (fun _ => x_bipush (z := 11) rfl (by decide)) ?_
            refine w_stat24 rfl rfl (by rfl) (C47 (D := pul [] D) (N := pul [] N) (HW_sub H (VS_of (show vsub V52_Br V47 [] = true by decide +kernel))) (show inrJ (z37) by omega) (show inr (11) by omega) (fun z38 σ38 F38' A38' H' O' hS38 hA38 pz38_0 => ⟨rfl, ?_⟩))
            refine v_back (c := c) (s := s) H (show vsub V52_Br V47 [] = true by decide +kernel) H' O' (fun F38 A38 H O' eF38 eA38 => ?_)
            have O := OUT_trans O O'
            -- PackHouse.rotated
            refine Ew_of (pc' := 121) (fun _ => x_ldc2 (z := -7046029288634856825) rfl (by decide)) ?_
            refine w_lmulA rfl (fun z39 gz39 => ?_)
            refine Ew_of (pc' := 124) (fun _ => x_lstore rfl) ?_
            refine Ew_of (pc' := 127) (fun _ => x_iinc (len := 3) rfl (rk2_o (l91_5) rfl rfl)) ?_
            refine Ew_of (pc' := 91) (fun _ => x_goto rfl rfl) ?_
            exact ih91 _ (by omega) _ _ _ _ ((x91_5 + 1)) (z39) (rk_o (rk2_o (l91_0) rfl rfl) rfl rfl) (rk_o (rk2_o (l91_2) rfl rfl) rfl rfl) (rk_s) (rk_o (rk2_s) rfl rfl) H O (SF_trans (hS_91) (SF_glu (ι := []) hS38 eF38 (by decide +kernel)) (any_sub (l' := []) rfl)) (SA_trans (hA_91) (SA_glu (ι := []) hA38 eA38 (by decide +kernel)) (any_subA (l' := []) rfl))     (show inr ((x91_5 + 1)) by omega) (show inrJ (z39) by omega) (show (a2) ≤ ((x91_5 + 1)) ∧ ((x91_5 + 1)) ≤ (a3) by omega) rfl
    · refine Ew_of (pc' := 17) (fun _ => x_lload rfl l6_6) ?_
      refine Ew_of (pc' := 18) (fun _ => x_lconst (z := 0) rfl (by decide)) ?_
      refine Ew_of (pc' := 19) (fun _ => x_aload_n rfl l6_0) ?_
      refine Ew_of (pc' := 21) (fun _ => x_iload rfl l6_5) ?_
      refine Ew_of (pc' := 23) (fun _ => x_bipush (z := 8) rfl (by decide)) ?_
      refine w_stat24 rfl rfl (by rfl) (C42_Br (D := pul [0] D) (N := pul [0] N) (HW_sub H (VS_of (show vsub V52_Br V42_Br [0] = true by decide +kernel))) (n0) (en0) (show inr (x6_5) by omega) (show inr (8) by omega) (show (8) ≤ 0 ∨ 0 ≤ (x6_5) ∧ (x6_5) + (8) ≤ (n0) by omega) (show 0 ≤ (8) by omega) (fun z40 σ40 F40' A40' H' O' hS40 hA40 pz40_0 pz40_1 => ⟨rfl, ?_⟩))
      refine v_back (c := c) (s := s) H (show vsub V52_Br V42_Br [0] = true by decide +kernel) H' O' (fun F40 A40 H O' eF40 eA40 => ?_)
      have O := OUT_trans O O'
      -- PackHouse.number
      refine w_stat24 rfl rfl (by rfl) (C50 (D := pul [] D) (N := pul [] N) (HW_sub H (VS_of (show vsub V52_Br V50 [] = true by decide +kernel))) (show inrJ (0) by omega) (show inrJ (z40) by omega) (fun z41 σ41 F41' A41' H' O' hS41 hA41 pz41_0 => ⟨rfl, ?_⟩))
      refine v_back (c := c) (s := s) H (show vsub V52_Br V50 [] = true by decide +kernel) H' O' (fun F41 A41 H O' eF41 eA41 => ?_)
      have O := OUT_trans O O'
      -- PackHouse.wideLane
      refine w_lxorA rfl (fun z42 gz42 => ?_)
      refine Ew_of (pc' := 32) (fun _ => x_bipush (z := 27) rfl (by decide)) ?_
      refine w_stat24 rfl rfl (by rfl) (C47 (D := pul [] D) (N := pul [] N) (HW_sub H (VS_of (show vsub V52_Br V47 [] = true by decide +kernel))) (show inrJ (z42) by omega) (show inr (27) by omega) (fun z43 σ43 F43' A43' H' O' hS43 hA43 pz43_0 => ⟨rfl, ?_⟩))
      refine v_back (c := c) (s := s) H (show vsub V52_Br V47 [] = true by decide +kernel) H' O' (fun F43 A43 H O' eF43 eA43 => ?_)
      have O := OUT_trans O O'
      -- PackHouse.rotated
      refine Ew_of (pc' := 38) (fun _ => x_ldc2 (z := -7046029288634856825) rfl (by decide)) ?_
      refine w_lmulA rfl (fun z44 gz44 => ?_)
      refine Ew_of (pc' := 42) (fun _ => x_ldc2 (z := -8796714831421723037) rfl (by decide)) ?_
      refine w_laddA rfl (fun z45 gz45 => ?_)
      refine Ew_of (pc' := 45) (fun _ => x_lstore rfl) ?_
      refine Ew_of (pc' := 48) (fun _ => x_iinc (len := 3) rfl (rk2_o (l6_5) rfl rfl)) ?_
      refine Ew_of (pc' := 6) (fun _ => x_goto rfl rfl) ?_
      exact ih6 _ (by omega) _ _ _ _ ((x6_5 + 8)) (z45) (rk_o (rk2_o (l6_0) rfl rfl) rfl rfl) (rk_o (rk2_o (l6_2) rfl rfl) rfl rfl) (rk_s) (rk_o (rk2_s) rfl rfl) H O (SF_trans (SF_trans (SF_trans (hS_6) (SF_glu (ι := [0]) hS40 eF40 (by decide +kernel)) (any_sub (l' := []) rfl)) (SF_glu (ι := []) hS41 eF41 (by decide +kernel)) (any_sub (l' := []) rfl)) (SF_glu (ι := []) hS43 eF43 (by decide +kernel)) (any_sub (l' := []) rfl)) (SA_trans (SA_trans (SA_trans (hA_6) (SA_glu (ι := [0]) hA40 eA40 (by decide +kernel)) (any_subA (l' := []) rfl)) (SA_glu (ι := []) hA41 eA41 (by decide +kernel)) (any_subA (l' := []) rfl)) (SA_glu (ι := []) hA43 eA43 (by decide +kernel)) (any_subA (l' := []) rfl))     (show inr ((x6_5 + 8)) by omega) (show inrJ (z45) by omega) (show (a2) ≤ ((x6_5 + 8)) ∧ ((x6_5 + 8)) ≤ (a3) by omega) rfl
abbrev V51_Br : vV := [(1, 0, [])]
/-- PackHouse.wideSum: #1 -/
theorem C51_Br {σE : rS} {D N : Nat → Nat} {F : hF} {A : hA} {d c s : Nat} {Q : wQ} (H : HW V51_Br σE D N F A) {a2 a3 a4 : Int} (n0 : Int) (en0 : (N 0 : Int) = n0) (h0 : inr (a2)) (h1 : inr (a3)) (h2 : inrJ (a4)) (h3 : 0 ≤ (a2) ∧ (a2) ≤ (a3) ∧ (a3) ≤ (n0)) (k : ∀ (z : Int) (σ : rS) (F' : hF) (A' : hA), HW V51_Br σ D N F' A' → OUT (V51_Br).length D N σE c s D N σ c s → SF [] F F' → SA [] A A' → (inrJ (z)) → Q (some (J z)) σ c s) : Ew 51 (d + 3) 0 (rargs 0 [.ref (D 0), I a2, I a3, J a4]) [] σE c s Q := by
  have O := OUT_refl (n := (V51_Br).length) (D := D) (N := N) (σ := σE) (c := c) (s := s)
  have HE := H
  have r1 : (0 : Int) ≤ n0 ∧ n0 ≤ 1000000 := by have h1 := H.nle 0 (by decide); have h2 : (N 0 : Int) = n0 := en0; omega
  refine Ew_of (pc' := 1) (fun _ => x_iload_n rfl rfl) ?_
  refine Ew_of (pc' := 3) (fun _ => x_istore rfl) ?_
  refine Ew_of (pc' := 4) (fun _ => x_lload_n rfl (rk_o (rfl) rfl rfl)) ?_
  refine Ew_of (pc' := 7) (fun _ => x_ldc2 (z := 2870177450012600261) rfl (by decide)) ?_
  refine w_laddA rfl (fun z2 gz2 => ?_)
  refine Ew_of (pc' := 10) (fun _ => x_lstore rfl) ?_
  have hc238 : ∀ (ls : rO) (σ : rS) (F_c238 : hF) (A_c238 : hA) (xc238_5 : Int) (xc238_6 : Int), rlook ls 0 = some (.ref (D 0)) → rlook ls 1 = some (I (a2)) → rlook ls 2 = some (I (a3)) → rlook ls 5 = some (I (xc238_5)) → rlook ls 6 = some (J (xc238_6)) → HW V51_Br σ D N F_c238 A_c238 → OUT (V51_Br).length D N σE c s D N σ c s → SF [] F F_c238 → SA [] A A_c238 → (inr (xc238_5)) → (inrJ (xc238_6)) → ((a2) ≤ (xc238_5) ∧ (xc238_5) ≤ (a3)) → Ew 51 (d + 3) 238 ls [] σ c s Q := by
   as_aux_lemma =>
    intro  ls σ F_c238 A_c238 xc238_5 xc238_6 lc238_0 lc238_1 lc238_2 lc238_5 lc238_6 H O hS_c238 hA_c238     jc238_0 jc238_1 jc238_2
    refine Ew_of (pc' := 239) (fun _ => x_aload_n rfl lc238_0) ?_
    refine Ew_of (pc' := 241) (fun _ => x_iload rfl lc238_5) ?_
    refine Ew_of (pc' := 242) (fun _ => x_iload_n rfl lc238_2) ?_
    refine Ew_of (pc' := 244) (fun _ => x_lload rfl lc238_6) ?_
    refine Ew_of (pc' := 245) (fun _ => x_iload_n rfl lc238_2) ?_
    refine Ew_of (pc' := 246) (fun _ => x_iload_n rfl lc238_1) ?_
    refine w_isub rfl ?_
    refine w_i2l rfl (show inr ((a3 - a2)) by omega) ?_
    refine w_laddA rfl (fun z3 gz3 => ?_)
    refine w_stat24 rfl rfl (by rfl) (C52_Br (D := pul [0] D) (N := pul [0] N) (HW_sub H (VS_of (show vsub V51_Br V52_Br [0] = true by decide +kernel))) (n0) (en0) (show inr (xc238_5) by omega) (show inr (a3) by omega) (show inrJ (z3) by omega) (show 0 ≤ (xc238_5) ∧ (xc238_5) ≤ (a3) ∧ (a3) ≤ (n0) by omega) (fun z4 σ4 F4' A4' H' O' hS4 hA4 pz4_0 => ⟨rfl, ?_⟩))
    refine v_back (c := c) (s := s) H (show vsub V51_Br V52_Br [0] = true by decide +kernel) H' O' (fun F4 A4 H O' eF4 eA4 => ?_)
    have O := OUT_trans O O'
    -- PackHouse.wideRest
    exact w_lreturn rfl (k (z4) _ _ _ H O (SF_trans (SF_trans (SF_refl) hS_c238 (any_sub rfl)) (SF_glu (ι := [0]) hS4 eF4 (by decide +kernel)) (any_sub (l' := []) rfl)) (SA_trans (SA_trans (SA_refl) hA_c238 (any_subA rfl)) (SA_glu (ι := [0]) hA4 eA4 (by decide +kernel)) (any_subA (l' := []) rfl)) (show inrJ (z4) by omega))
  refine Ew_of (pc' := 11) (fun _ => x_iload_n rfl (rk2_o (rk_o (rfl) rfl rfl) rfl rfl)) ?_
  refine Ew_of (pc' := 12) (fun _ => x_iload_n rfl (rk2_o (rk_o (rfl) rfl rfl) rfl rfl)) ?_
  refine w_isub rfl ?_
  refine Ew_of (pc' := 15) (fun _ => x_bipush (z := 32) rfl (by decide)) ?_
  refine w_icmplt (t := 238) rfl rfl (show inr ((a3 - a2)) by omega) (show inr (32) by omega) (fun b5 => ?_) (fun b5 => ?_)
  · exact hc238  _ _ _ _ (a2) (z2) (rk2_o (rk_o (rfl) rfl rfl) rfl rfl) (rk2_o (rk_o (rfl) rfl rfl) rfl rfl) (rk2_o (rk_o (rfl) rfl rfl) rfl rfl) (rk2_o (rk_s) rfl rfl) (rk2_s) H O (SF_refl) (SA_refl)     (show inr (a2) by omega) (show inrJ (z2) by omega) (show (a2) ≤ (a2) ∧ (a2) ≤ (a3) by omega)
  · refine Ew_of (pc' := 19) (fun _ => x_lload_n rfl (rk2_o (rk_o (rfl) rfl rfl) rfl rfl)) ?_
    refine Ew_of (pc' := 22) (fun _ => x_ldc2 (z := -7046029288634856825) rfl (by decide)) ?_
    refine w_laddA rfl (fun z6 gz6 => ?_)
    refine Ew_of (pc' := 26) (fun _ => x_ldc2 (z := -4417276706812531889) rfl (by decide)) ?_
    refine w_laddA rfl (fun z7 gz7 => ?_)
    refine Ew_of (pc' := 29) (fun _ => x_lstore rfl) ?_
    refine Ew_of (pc' := 30) (fun _ => x_lload_n rfl (rk2_o (rk2_o (rk_o (rfl) rfl rfl) rfl rfl) rfl rfl)) ?_
    refine Ew_of (pc' := 33) (fun _ => x_ldc2 (z := -4417276706812531889) rfl (by decide)) ?_
    refine w_laddA rfl (fun z8 gz8 => ?_)
    refine Ew_of (pc' := 36) (fun _ => x_lstore rfl) ?_
    refine Ew_of (pc' := 37) (fun _ => x_lload_n rfl (rk2_o (rk2_o (rk2_o (rk_o (rfl) rfl rfl) rfl rfl) rfl rfl) rfl rfl)) ?_
    refine Ew_of (pc' := 39) (fun _ => x_lstore rfl) ?_
    refine Ew_of (pc' := 40) (fun _ => x_lload_n rfl (rk2_o (rk2_o (rk2_o (rk2_o (rk_o (rfl) rfl rfl) rfl rfl) rfl rfl) rfl rfl) rfl rfl)) ?_
    refine Ew_of (pc' := 43) (fun _ => x_ldc2 (z := -7046029288634856825) rfl (by decide)) ?_
    refine w_lsubA rfl (fun z9 gz9 => ?_)
    refine Ew_of (pc' := 46) (fun _ => x_lstore rfl) ?_
    suffices hl46 : ∀ (m : Nat), ∀ (ls : rO) (σ : rS) (F_46 : hF) (A_46 : hA) (x46_5 : Int) (x46_8 : Int) (x46_10 : Int) (x46_12 : Int) (x46_14 : Int), rlook ls 0 = some (.ref (D 0)) → rlook ls 1 = some (I (a2)) → rlook ls 2 = some (I (a3)) → rlook ls 5 = some (I (x46_5)) → rlook ls 8 = some (J (x46_8)) → rlook ls 10 = some (J (x46_10)) → rlook ls 12 = some (J (x46_12)) → rlook ls 14 = some (J (x46_14)) → HW V51_Br σ D N F_46 A_46 → OUT (V51_Br).length D N σE c s D N σ c s → SF [] F F_46 → SA [] A A_46 → (inr (x46_5)) → (inrJ (x46_8)) → (inrJ (x46_10)) → (inrJ (x46_12)) → (inrJ (x46_14)) → ((a2) ≤ (x46_5) ∧ (x46_5) ≤ (a3)) → ((a3) - (x46_5)).toNat = m → Ew 51 (d + 3) 46 ls [] σ c s Q from
      hl46 _ _ _ _ _ (a2) (z7) (z8) (a4) (z9) (rk2_o (rk2_o (rk2_o (rk2_o (rk2_o (rk_o (rfl) rfl rfl) rfl rfl) rfl rfl) rfl rfl) rfl rfl) rfl rfl) (rk2_o (rk2_o (rk2_o (rk2_o (rk2_o (rk_o (rfl) rfl rfl) rfl rfl) rfl rfl) rfl rfl) rfl rfl) rfl rfl) (rk2_o (rk2_o (rk2_o (rk2_o (rk2_o (rk_o (rfl) rfl rfl) rfl rfl) rfl rfl) rfl rfl) rfl rfl) rfl rfl) (rk2_o (rk2_o (rk2_o (rk2_o (rk2_o (rk_s) rfl rfl) rfl rfl) rfl rfl) rfl rfl) rfl rfl) (rk2_o (rk2_o (rk2_o (rk2_s) rfl rfl) rfl rfl) rfl rfl) (rk2_o (rk2_o (rk2_s) rfl rfl) rfl rfl) (rk2_o (rk2_s) rfl rfl) (rk2_s) H O (SF_refl) (SA_refl)     (show inr (a2) by omega) (show inrJ (z7) by omega) (show inrJ (z8) by omega) (show inrJ (a4) by omega) (show inrJ (z9) by omega) (show (a2) ≤ (a2) ∧ (a2) ≤ (a3) by omega) rfl
    as_aux_lemma =>
    intro m
    induction m using Nat.strongRecOn with
    | _ m ih46 =>
      intro ls σ F_46 A_46 x46_5 x46_8 x46_10 x46_12 x46_14 l46_0 l46_1 l46_2 l46_5 l46_8 l46_10 l46_12 l46_14 H O hS_46 hA_46     j46_0 j46_1 j46_2 j46_3 j46_4 j46_5 hm46
      refine Ew_of (pc' := 47) (fun _ => x_iload_n rfl l46_2) ?_
      refine Ew_of (pc' := 49) (fun _ => x_iload rfl l46_5) ?_
      refine w_isub rfl ?_
      refine Ew_of (pc' := 52) (fun _ => x_bipush (z := 32) rfl (by decide)) ?_
      refine w_icmplt (t := 130) rfl rfl (show inr ((a3 - x46_5)) by omega) (show inr (32) by omega) (fun b10 => ?_) (fun b10 => ?_)
      · refine Ew_of (pc' := 132) (fun _ => x_lload rfl l46_8) ?_
        refine Ew_of (pc' := 133) (fun _ => x_iconst rfl) ?_
        refine w_stat24 rfl rfl (by rfl) (C47 (D := pul [] D) (N := pul [] N) (HW_sub H (VS_of (show vsub V51_Br V47 [] = true by decide +kernel))) (show inrJ (x46_8) by omega) (show inr (1) by omega) (fun z11 σ11 F11' A11' H' O' hS11 hA11 pz11_0 => ⟨rfl, ?_⟩))
        refine v_back (c := c) (s := s) H (show vsub V51_Br V47 [] = true by decide +kernel) H' O' (fun F11 A11 H O' eF11 eA11 => ?_)
        have O := OUT_trans O O'
        -- PackHouse.rotated
        refine Ew_of (pc' := 138) (fun _ => x_lload rfl l46_10) ?_
        refine Ew_of (pc' := 140) (fun _ => x_bipush (z := 7) rfl (by decide)) ?_
        refine w_stat24 rfl rfl (by rfl) (C47 (D := pul [] D) (N := pul [] N) (HW_sub H (VS_of (show vsub V51_Br V47 [] = true by decide +kernel))) (show inrJ (x46_10) by omega) (show inr (7) by omega) (fun z12 σ12 F12' A12' H' O' hS12 hA12 pz12_0 => ⟨rfl, ?_⟩))
        refine v_back (c := c) (s := s) H (show vsub V51_Br V47 [] = true by decide +kernel) H' O' (fun F12 A12 H O' eF12 eA12 => ?_)
        have O := OUT_trans O O'
        -- PackHouse.rotated
        refine w_laddA rfl (fun z13 gz13 => ?_)
        refine Ew_of (pc' := 146) (fun _ => x_lload rfl l46_12) ?_
        refine Ew_of (pc' := 148) (fun _ => x_bipush (z := 12) rfl (by decide)) ?_
        refine w_stat24 rfl rfl (by rfl) (C47 (D := pul [] D) (N := pul [] N) (HW_sub H (VS_of (show vsub V51_Br V47 [] = true by decide +kernel))) (show inrJ (x46_12) by omega) (show inr (12) by omega) (fun z14 σ14 F14' A14' H' O' hS14 hA14 pz14_0 => ⟨rfl, ?_⟩))
        refine v_back (c := c) (s := s) H (show vsub V51_Br V47 [] = true by decide +kernel) H' O' (fun F14 A14 H O' eF14 eA14 => ?_)
        have O := OUT_trans O O'
        -- PackHouse.rotated
        refine w_laddA rfl (fun z15 gz15 => ?_)
        refine Ew_of (pc' := 154) (fun _ => x_lload rfl l46_14) ?_
        refine Ew_of (pc' := 156) (fun _ => x_bipush (z := 18) rfl (by decide)) ?_
        refine w_stat24 rfl rfl (by rfl) (C47 (D := pul [] D) (N := pul [] N) (HW_sub H (VS_of (show vsub V51_Br V47 [] = true by decide +kernel))) (show inrJ (x46_14) by omega) (show inr (18) by omega) (fun z16 σ16 F16' A16' H' O' hS16 hA16 pz16_0 => ⟨rfl, ?_⟩))
        refine v_back (c := c) (s := s) H (show vsub V51_Br V47 [] = true by decide +kernel) H' O' (fun F16 A16 H O' eF16 eA16 => ?_)
        have O := OUT_trans O O'
        -- PackHouse.rotated
        refine w_laddA rfl (fun z17 gz17 => ?_)
        refine Ew_of (pc' := 162) (fun _ => x_lstore rfl) ?_
        refine Ew_of (pc' := 164) (fun _ => x_lload rfl rk2_s) ?_
        refine Ew_of (pc' := 165) (fun _ => x_lconst (z := 0) rfl (by decide)) ?_
        refine Ew_of (pc' := 167) (fun _ => x_lload rfl (rk2_o (l46_8) rfl rfl)) ?_
        refine w_stat24 rfl rfl (by rfl) (C50 (D := pul [] D) (N := pul [] N) (HW_sub H (VS_of (show vsub V51_Br V50 [] = true by decide +kernel))) (show inrJ (0) by omega) (show inrJ (x46_8) by omega) (fun z18 σ18 F18' A18' H' O' hS18 hA18 pz18_0 => ⟨rfl, ?_⟩))
        refine v_back (c := c) (s := s) H (show vsub V51_Br V50 [] = true by decide +kernel) H' O' (fun F18 A18 H O' eF18 eA18 => ?_)
        have O := OUT_trans O O'
        -- PackHouse.wideLane
        refine w_lxorA rfl (fun z19 gz19 => ?_)
        refine Ew_of (pc' := 174) (fun _ => x_ldc2 (z := -7046029288634856825) rfl (by decide)) ?_
        refine w_lmulA rfl (fun z20 gz20 => ?_)
        refine Ew_of (pc' := 178) (fun _ => x_ldc2 (z := -8796714831421723037) rfl (by decide)) ?_
        refine w_laddA rfl (fun z21 gz21 => ?_)
        refine Ew_of (pc' := 181) (fun _ => x_lstore rfl) ?_
        refine Ew_of (pc' := 183) (fun _ => x_lload rfl rk2_s) ?_
        refine Ew_of (pc' := 184) (fun _ => x_lconst (z := 0) rfl (by decide)) ?_
        refine Ew_of (pc' := 186) (fun _ => x_lload rfl (rk2_o (rk2_o (l46_10) rfl rfl) rfl rfl)) ?_
        refine w_stat24 rfl rfl (by rfl) (C50 (D := pul [] D) (N := pul [] N) (HW_sub H (VS_of (show vsub V51_Br V50 [] = true by decide +kernel))) (show inrJ (0) by omega) (show inrJ (x46_10) by omega) (fun z22 σ22 F22' A22' H' O' hS22 hA22 pz22_0 => ⟨rfl, ?_⟩))
        refine v_back (c := c) (s := s) H (show vsub V51_Br V50 [] = true by decide +kernel) H' O' (fun F22 A22 H O' eF22 eA22 => ?_)
        have O := OUT_trans O O'
        -- PackHouse.wideLane
        refine w_lxorA rfl (fun z23 gz23 => ?_)
        refine Ew_of (pc' := 193) (fun _ => x_ldc2 (z := -7046029288634856825) rfl (by decide)) ?_
        refine w_lmulA rfl (fun z24 gz24 => ?_)
        refine Ew_of (pc' := 197) (fun _ => x_ldc2 (z := -8796714831421723037) rfl (by decide)) ?_
        refine w_laddA rfl (fun z25 gz25 => ?_)
        refine Ew_of (pc' := 200) (fun _ => x_lstore rfl) ?_
        refine Ew_of (pc' := 202) (fun _ => x_lload rfl rk2_s) ?_
        refine Ew_of (pc' := 203) (fun _ => x_lconst (z := 0) rfl (by decide)) ?_
        refine Ew_of (pc' := 205) (fun _ => x_lload rfl (rk2_o (rk2_o (rk2_o (l46_12) rfl rfl) rfl rfl) rfl rfl)) ?_
        refine w_stat24 rfl rfl (by rfl) (C50 (D := pul [] D) (N := pul [] N) (HW_sub H (VS_of (show vsub V51_Br V50 [] = true by decide +kernel))) (show inrJ (0) by omega) (show inrJ (x46_12) by omega) (fun z26 σ26 F26' A26' H' O' hS26 hA26 pz26_0 => ⟨rfl, ?_⟩))
        refine v_back (c := c) (s := s) H (show vsub V51_Br V50 [] = true by decide +kernel) H' O' (fun F26 A26 H O' eF26 eA26 => ?_)
        have O := OUT_trans O O'
        -- PackHouse.wideLane
        refine w_lxorA rfl (fun z27 gz27 => ?_)
        refine Ew_of (pc' := 212) (fun _ => x_ldc2 (z := -7046029288634856825) rfl (by decide)) ?_
        refine w_lmulA rfl (fun z28 gz28 => ?_)
        refine Ew_of (pc' := 216) (fun _ => x_ldc2 (z := -8796714831421723037) rfl (by decide)) ?_
        refine w_laddA rfl (fun z29 gz29 => ?_)
        refine Ew_of (pc' := 219) (fun _ => x_lstore rfl) ?_
        refine Ew_of (pc' := 221) (fun _ => x_lload rfl rk2_s) ?_
        refine Ew_of (pc' := 222) (fun _ => x_lconst (z := 0) rfl (by decide)) ?_
        refine Ew_of (pc' := 224) (fun _ => x_lload rfl (rk2_o (rk2_o (rk2_o (rk2_o (l46_14) rfl rfl) rfl rfl) rfl rfl) rfl rfl)) ?_
        refine w_stat24 rfl rfl (by rfl) (C50 (D := pul [] D) (N := pul [] N) (HW_sub H (VS_of (show vsub V51_Br V50 [] = true by decide +kernel))) (show inrJ (0) by omega) (show inrJ (x46_14) by omega) (fun z30 σ30 F30' A30' H' O' hS30 hA30 pz30_0 => ⟨rfl, ?_⟩))
        refine v_back (c := c) (s := s) H (show vsub V51_Br V50 [] = true by decide +kernel) H' O' (fun F30 A30 H O' eF30 eA30 => ?_)
        have O := OUT_trans O O'
        -- PackHouse.wideLane
        refine w_lxorA rfl (fun z31 gz31 => ?_)
        refine Ew_of (pc' := 231) (fun _ => x_ldc2 (z := -7046029288634856825) rfl (by decide)) ?_
        refine w_lmulA rfl (fun z32 gz32 => ?_)
        refine Ew_of (pc' := 235) (fun _ => x_ldc2 (z := -8796714831421723037) rfl (by decide)) ?_
        refine w_laddA rfl (fun z33 gz33 => ?_)
        refine Ew_of (pc' := 238) (fun _ => x_lstore rfl) ?_
        exact hc238  _ _ _ _ (x46_5) (z33) (rk2_o (rk2_o (rk2_o (rk2_o (rk2_o (l46_0) rfl rfl) rfl rfl) rfl rfl) rfl rfl) rfl rfl) (rk2_o (rk2_o (rk2_o (rk2_o (rk2_o (l46_1) rfl rfl) rfl rfl) rfl rfl) rfl rfl) rfl rfl) (rk2_o (rk2_o (rk2_o (rk2_o (rk2_o (l46_2) rfl rfl) rfl rfl) rfl rfl) rfl rfl) rfl rfl) (rk2_o (rk2_o (rk2_o (rk2_o (rk2_o (l46_5) rfl rfl) rfl rfl) rfl rfl) rfl rfl) rfl rfl) (rk2_s) H O (SF_trans (SF_trans (SF_trans (SF_trans (SF_trans (SF_trans (SF_trans (SF_trans (SF_trans (SF_refl) hS_46 (any_sub rfl)) (SF_glu (ι := []) hS11 eF11 (by decide +kernel)) (any_sub (l' := []) rfl)) (SF_glu (ι := []) hS12 eF12 (by decide +kernel)) (any_sub (l' := []) rfl)) (SF_glu (ι := []) hS14 eF14 (by decide +kernel)) (any_sub (l' := []) rfl)) (SF_glu (ι := []) hS16 eF16 (by decide +kernel)) (any_sub (l' := []) rfl)) (SF_glu (ι := []) hS18 eF18 (by decide +kernel)) (any_sub (l' := []) rfl)) (SF_glu (ι := []) hS22 eF22 (by decide +kernel)) (any_sub (l' := []) rfl)) (SF_glu (ι := []) hS26 eF26 (by decide +kernel)) (any_sub (l' := []) rfl)) (SF_glu (ι := []) hS30 eF30 (by decide +kernel)) (any_sub (l' := []) rfl)) (SA_trans (SA_trans (SA_trans (SA_trans (SA_trans (SA_trans (SA_trans (SA_trans (SA_trans (SA_refl) hA_46 (any_subA rfl)) (SA_glu (ι := []) hA11 eA11 (by decide +kernel)) (any_subA (l' := []) rfl)) (SA_glu (ι := []) hA12 eA12 (by decide +kernel)) (any_subA (l' := []) rfl)) (SA_glu (ι := []) hA14 eA14 (by decide +kernel)) (any_subA (l' := []) rfl)) (SA_glu (ι := []) hA16 eA16 (by decide +kernel)) (any_subA (l' := []) rfl)) (SA_glu (ι := []) hA18 eA18 (by decide +kernel)) (any_subA (l' := []) rfl)) (SA_glu (ι := []) hA22 eA22 (by decide +kernel)) (any_subA (l' := []) rfl)) (SA_glu (ι := []) hA26 eA26 (by decide +kernel)) (any_subA (l' := []) rfl)) (SA_glu (ι := []) hA30 eA30 (by decide +kernel)) (any_subA (l' := []) rfl))     (show inr (x46_5) by omega) (show inrJ (z33) by omega) (show (a2) ≤ (x46_5) ∧ (x46_5) ≤ (a3) by omega)
      · refine Ew_of (pc' := 57) (fun _ => x_lload rfl l46_8) ?_
        refine Ew_of (pc' := 58) (fun _ => x_aload_n rfl l46_0) ?_
        refine Ew_of (pc' := 60) (fun _ => x_iload rfl l46_5) ?_
        refine Ew_of (pc' := 62) (fun _ => x_bipush (z := 8) rfl (by decide)) ?_
        refine w_stat24 rfl rfl (by rfl) (C42_Br (D := pul [0] D) (N := pul [0] N) (HW_sub H (VS_of (show vsub V51_Br V42_Br [0] = true by decide +kernel))) (n0) (en0) (show inr (x46_5) by omega) (show inr (8) by omega) (show (8) ≤ 0 ∨ 0 ≤ (x46_5) ∧ (x46_5) + (8) ≤ (n0) by omega) (show 0 ≤ (8) by omega) (fun z34 σ34 F34' A34' H' O' hS34 hA34 pz34_0 pz34_1 => ⟨rfl, ?_⟩))
        refine v_back (c := c) (s := s) H (show vsub V51_Br V42_Br [0] = true by decide +kernel) H' O' (fun F34 A34 H O' eF34 eA34 => ?_)
        have O := OUT_trans O O'
        -- PackHouse.number
        refine w_stat24 rfl rfl (by rfl) (C50 (D := pul [] D) (N := pul [] N) (HW_sub H (VS_of (show vsub V51_Br V50 [] = true by decide +kernel))) (show inrJ (x46_8) by omega) (show inrJ (z34) by omega) (fun z35 σ35 F35' A35' H' O' hS35 hA35 pz35_0 => ⟨rfl, ?_⟩))
        refine v_back (c := c) (s := s) H (show vsub V51_Br V50 [] = true by decide +kernel) H' O' (fun F35 A35 H O' eF35 eA35 => ?_)
        have O := OUT_trans O O'
        -- PackHouse.wideLane
        refine Ew_of (pc' := 70) (fun _ => x_lstore rfl) ?_
        refine Ew_of (pc' := 72) (fun _ => x_lload rfl (rk2_o (l46_10) rfl rfl)) ?_
        refine Ew_of (pc' := 73) (fun _ => x_aload_n rfl (rk2_o (l46_0) rfl rfl)) ?_
        refine Ew_of (pc' := 75) (fun _ => x_iload rfl (rk2_o (l46_5) rfl rfl)) ?_
        refine Ew_of (pc' := 77) (fun _ => x_bipush (z := 8) rfl (by decide)) ?_
        refine w_iadd rfl ?_
        refine Ew_of (pc' := 80) (fun _ => x_bipush (z := 8) rfl (by decide)) ?_
        refine w_stat24 rfl rfl (by rfl) (C42_Br (D := pul [0] D) (N := pul [0] N) (HW_sub H (VS_of (show vsub V51_Br V42_Br [0] = true by decide +kernel))) (n0) (en0) (show inr ((x46_5 + 8)) by omega) (show inr (8) by omega) (show (8) ≤ 0 ∨ 0 ≤ ((x46_5 + 8)) ∧ ((x46_5 + 8)) + (8) ≤ (n0) by omega) (show 0 ≤ (8) by omega) (fun z36 σ36 F36' A36' H' O' hS36 hA36 pz36_0 pz36_1 => ⟨rfl, ?_⟩))
        refine v_back (c := c) (s := s) H (show vsub V51_Br V42_Br [0] = true by decide +kernel) H' O' (fun F36 A36 H O' eF36 eA36 => ?_)
        have O := OUT_trans O O'
        -- PackHouse.number
        refine w_stat24 rfl rfl (by rfl) (C50 (D := pul [] D) (N := pul [] N) (HW_sub H (VS_of (show vsub V51_Br V50 [] = true by decide +kernel))) (show inrJ (x46_10) by omega) (show inrJ (z36) by omega) (fun z37 σ37 F37' A37' H' O' hS37 hA37 pz37_0 => ⟨rfl, ?_⟩))
        refine v_back (c := c) (s := s) H (show vsub V51_Br V50 [] = true by decide +kernel) H' O' (fun F37 A37 H O' eF37 eA37 => ?_)
        have O := OUT_trans O O'
        -- PackHouse.wideLane
        refine Ew_of (pc' := 88) (fun _ => x_lstore rfl) ?_
        refine Ew_of (pc' := 90) (fun _ => x_lload rfl (rk2_o (rk2_o (l46_12) rfl rfl) rfl rfl)) ?_
        refine Ew_of (pc' := 91) (fun _ => x_aload_n rfl (rk2_o (rk2_o (l46_0) rfl rfl) rfl rfl)) ?_
        refine Ew_of (pc' := 93) (fun _ => x_iload rfl (rk2_o (rk2_o (l46_5) rfl rfl) rfl rfl)) ?_
        refine Ew_of (pc' := 95) (fun _ => x_bipush (z := 16) rfl (by decide)) ?_
        refine w_iadd rfl ?_
        refine Ew_of (pc' := 98) (fun _ => x_bipush (z := 8) rfl (by decide)) ?_
        refine w_stat24 rfl rfl (by rfl) (C42_Br (D := pul [0] D) (N := pul [0] N) (HW_sub H (VS_of (show vsub V51_Br V42_Br [0] = true by decide +kernel))) (n0) (en0) (show inr ((x46_5 + 16)) by omega) (show inr (8) by omega) (show (8) ≤ 0 ∨ 0 ≤ ((x46_5 + 16)) ∧ ((x46_5 + 16)) + (8) ≤ (n0) by omega) (show 0 ≤ (8) by omega) (fun z38 σ38 F38' A38' H' O' hS38 hA38 pz38_0 pz38_1 => ⟨rfl, ?_⟩))
        refine v_back (c := c) (s := s) H (show vsub V51_Br V42_Br [0] = true by decide +kernel) H' O' (fun F38 A38 H O' eF38 eA38 => ?_)
        have O := OUT_trans O O'
        -- PackHouse.number
        refine w_stat24 rfl rfl (by rfl) (C50 (D := pul [] D) (N := pul [] N) (HW_sub H (VS_of (show vsub V51_Br V50 [] = true by decide +kernel))) (show inrJ (x46_12) by omega) (show inrJ (z38) by omega) (fun z39 σ39 F39' A39' H' O' hS39 hA39 pz39_0 => ⟨rfl, ?_⟩))
        refine v_back (c := c) (s := s) H (show vsub V51_Br V50 [] = true by decide +kernel) H' O' (fun F39 A39 H O' eF39 eA39 => ?_)
        have O := OUT_trans O O'
        -- PackHouse.wideLane
        refine Ew_of (pc' := 106) (fun _ => x_lstore rfl) ?_
        refine Ew_of (pc' := 108) (fun _ => x_lload rfl (rk2_o (rk2_o (rk2_o (l46_14) rfl rfl) rfl rfl) rfl rfl)) ?_
        refine Ew_of (pc' := 109) (fun _ => x_aload_n rfl (rk2_o (rk2_o (rk2_o (l46_0) rfl rfl) rfl rfl) rfl rfl)) ?_
        refine Ew_of (pc' := 111) (fun _ => x_iload rfl (rk2_o (rk2_o (rk2_o (l46_5) rfl rfl) rfl rfl) rfl rfl)) ?_
        refine Ew_of (pc' := 113) (fun _ => x_bipush (z := 24) rfl (by decide)) ?_
        refine w_iadd rfl ?_
        refine Ew_of (pc' := 116) (fun _ => x_bipush (z := 8) rfl (by decide)) ?_
        refine w_stat24 rfl rfl (by rfl) (C42_Br (D := pul [0] D) (N := pul [0] N) (HW_sub H (VS_of (show vsub V51_Br V42_Br [0] = true by decide +kernel))) (n0) (en0) (show inr ((x46_5 + 24)) by omega) (show inr (8) by omega) (show (8) ≤ 0 ∨ 0 ≤ ((x46_5 + 24)) ∧ ((x46_5 + 24)) + (8) ≤ (n0) by omega) (show 0 ≤ (8) by omega) (fun z40 σ40 F40' A40' H' O' hS40 hA40 pz40_0 pz40_1 => ⟨rfl, ?_⟩))
        refine v_back (c := c) (s := s) H (show vsub V51_Br V42_Br [0] = true by decide +kernel) H' O' (fun F40 A40 H O' eF40 eA40 => ?_)
        have O := OUT_trans O O'
        -- PackHouse.number
        refine w_stat24 rfl rfl (by rfl) (C50 (D := pul [] D) (N := pul [] N) (HW_sub H (VS_of (show vsub V51_Br V50 [] = true by decide +kernel))) (show inrJ (x46_14) by omega) (show inrJ (z40) by omega) (fun z41 σ41 F41' A41' H' O' hS41 hA41 pz41_0 => ⟨rfl, ?_⟩))
        refine v_back (c := c) (s := s) H (show vsub V51_Br V50 [] = true by decide +kernel) H' O' (fun F41 A41 H O' eF41 eA41 => ?_)
        have O := OUT_trans O O'
        -- PackHouse.wideLane
        refine Ew_of (pc' := 124) (fun _ => x_lstore rfl) ?_
        refine Ew_of (pc' := 127) (fun _ => x_iinc (len := 3) rfl (rk2_o (rk2_o (rk2_o (rk2_o (l46_5) rfl rfl) rfl rfl) rfl rfl) rfl rfl)) ?_
        refine Ew_of (pc' := 46) (fun _ => x_goto rfl rfl) ?_
        exact ih46 _ (by omega) _ _ _ _ ((x46_5 + 32)) (z35) (z37) (z39) (z41) (rk_o (rk2_o (rk2_o (rk2_o (rk2_o (l46_0) rfl rfl) rfl rfl) rfl rfl) rfl rfl) rfl rfl) (rk_o (rk2_o (rk2_o (rk2_o (rk2_o (l46_1) rfl rfl) rfl rfl) rfl rfl) rfl rfl) rfl rfl) (rk_o (rk2_o (rk2_o (rk2_o (rk2_o (l46_2) rfl rfl) rfl rfl) rfl rfl) rfl rfl) rfl rfl) (rk_s) (rk_o (rk2_o (rk2_o (rk2_o (rk2_s) rfl rfl) rfl rfl) rfl rfl) rfl rfl) (rk_o (rk2_o (rk2_o (rk2_s) rfl rfl) rfl rfl) rfl rfl) (rk_o (rk2_o (rk2_s) rfl rfl) rfl rfl) (rk_o (rk2_s) rfl rfl) H O (SF_trans (SF_trans (SF_trans (SF_trans (SF_trans (SF_trans (SF_trans (SF_trans (hS_46) (SF_glu (ι := [0]) hS34 eF34 (by decide +kernel)) (any_sub (l' := []) rfl)) (SF_glu (ι := []) hS35 eF35 (by decide +kernel)) (any_sub (l' := []) rfl)) (SF_glu (ι := [0]) hS36 eF36 (by decide +kernel)) (any_sub (l' := []) rfl)) (SF_glu (ι := []) hS37 eF37 (by decide +kernel)) (any_sub (l' := []) rfl)) (SF_glu (ι := [0]) hS38 eF38 (by decide +kernel)) (any_sub (l' := []) rfl)) (SF_glu (ι := []) hS39 eF39 (by decide +kernel)) (any_sub (l' := []) rfl)) (SF_glu (ι := [0]) hS40 eF40 (by decide +kernel)) (any_sub (l' := []) rfl)) (SF_glu (ι := []) hS41 eF41 (by decide +kernel)) (any_sub (l' := []) rfl)) (SA_trans (SA_trans (SA_trans (SA_trans (SA_trans (SA_trans (SA_trans (SA_trans (hA_46) (SA_glu (ι := [0]) hA34 eA34 (by decide +kernel)) (any_subA (l' := []) rfl)) (SA_glu (ι := []) hA35 eA35 (by decide +kernel)) (any_subA (l' := []) rfl)) (SA_glu (ι := [0]) hA36 eA36 (by decide +kernel)) (any_subA (l' := []) rfl)) (SA_glu (ι := []) hA37 eA37 (by decide +kernel)) (any_subA (l' := []) rfl)) (SA_glu (ι := [0]) hA38 eA38 (by decide +kernel)) (any_subA (l' := []) rfl)) (SA_glu (ι := []) hA39 eA39 (by decide +kernel)) (any_subA (l' := []) rfl)) (SA_glu (ι := [0]) hA40 eA40 (by decide +kernel)) (any_subA (l' := []) rfl)) (SA_glu (ι := []) hA41 eA41 (by decide +kernel)) (any_subA (l' := []) rfl))     (show inr ((x46_5 + 32)) by omega) (show inrJ (z35) by omega) (show inrJ (z37) by omega) (show inrJ (z39) by omega) (show inrJ (z41) by omega) (show (a2) ≤ ((x46_5 + 32)) ∧ ((x46_5 + 32)) ≤ (a3) by omega) rfl
abbrev V53_Br : vV := [(1, 0, [])]
/-- PackHouse.polynomialSum: #1 -/
theorem C53_Br {σE : rS} {D N : Nat → Nat} {F : hF} {A : hA} {d c s : Nat} {Q : wQ} (H : HW V53_Br σE D N F A) (HT : STC σE) {a2 a3 : Int} (n0 : Int) (en0 : (N 0 : Int) = n0) (h0 : inr (a2)) (h1 : inr (a3)) (h2 : 0 ≤ (a2) ∧ (a2) ≤ (a3) ∧ (a3) ≤ (n0)) (k : ∀ (z : Int) (σ : rS) (F' : hF) (A' : hA), HW V53_Br σ D N F' A' → OUT (V53_Br).length D N σE c s D N σ c s → SF [] F F' → SA [] A A' → (inr (z)) → Q (some (I z)) σ c s) : Ew 53 (d + 0) 0 (rargs 0 [.ref (D 0), I a2, I a3]) [] σE c s Q := by
  have O := OUT_refl (n := (V53_Br).length) (D := D) (N := N) (σ := σE) (c := c) (s := s)
  have HE := H
  have r1 : (0 : Int) ≤ n0 ∧ n0 ≤ 1000000 := by have h1 := H.nle 0 (by decide); have h2 : (N 0 : Int) = n0 := en0; omega
  refine Ew_of (pc' := 1) (fun _ => x_iconst rfl) ?_
  refine Ew_of (pc' := 2) (fun _ => x_istore_n rfl) ?_
  refine Ew_of (pc' := 3) (fun _ => x_iload_n rfl (rk_o (rfl) rfl rfl)) ?_
  refine Ew_of (pc' := 5) (fun _ => x_istore rfl) ?_
  suffices hl5 : ∀ (m : Nat), ∀ (ls : rO) (σ : rS) (F_5 : hF) (A_5 : hA) (x5_3 : Int) (x5_4 : Int), rlook ls 0 = some (.ref (D 0)) → rlook ls 2 = some (I (a3)) → rlook ls 3 = some (I (x5_3)) → rlook ls 4 = some (I (x5_4)) → HW V53_Br σ D N F_5 A_5 → OUT (V53_Br).length D N σE c s D N σ c s → SF [] F F_5 → SA [] A A_5 → (inr (x5_3)) → (inr (x5_4)) → ((a2) ≤ (x5_4)) → ((x5_4) ≤ (a2) ∨ (x5_4) ≤ ((a3))) → (((a3)) - (x5_4)).toNat = m → Ew 53 (d + 0) 5 ls [] σ c s Q from
    hl5 _ _ _ _ _ ((-1)) (a2) (rk_o (rk_o (rfl) rfl rfl) rfl rfl) (rk_o (rk_o (rfl) rfl rfl) rfl rfl) (rk_o (rk_s) rfl rfl) (rk_s) H O (SF_refl) (SA_refl)     (show inr ((-1)) by omega) (show inr (a2) by omega) (show (a2) ≤ (a2) by omega) (show (a2) ≤ (a2) ∨ (a2) ≤ ((a3)) by omega) rfl
  as_aux_lemma =>
  intro m
  induction m using Nat.strongRecOn with
  | _ m ih5 =>
    intro ls σ F_5 A_5 x5_3 x5_4 l5_0 l5_2 l5_3 l5_4 H O hS_5 hA_5     j5_0 j5_1 j5_2 j5_3 hm5
    refine Ew_of (pc' := 7) (fun _ => x_iload rfl l5_4) ?_
    refine Ew_of (pc' := 8) (fun _ => x_iload_n rfl l5_2) ?_
    refine w_icmpge (t := 54) rfl rfl (show inr (x5_4) by omega) (show inr (a3) by omega) (fun b2 => ?_) (fun b2 => ?_)
    · refine Ew_of (pc' := 55) (fun _ => x_iload_n rfl l5_3) ?_
      refine Ew_of (pc' := 56) (fun _ => x_iconst rfl) ?_
      refine w_ixor rfl (fun z3 gz3 => ?_)
      exact w_ireturn rfl (k (z3) _ _ _ H O (SF_trans (SF_refl) hS_5 (any_sub rfl)) (SA_trans (SA_refl) hA_5 (any_subA rfl)) (show inr (z3) by omega))
    · refine Ew_of (pc' := 12) (fun _ => x_iload_n rfl l5_3) ?_
      refine Ew_of (pc' := 13) (fun _ => x_aload_n rfl l5_0) ?_
      refine Ew_of (pc' := 15) (fun _ => x_iload rfl l5_4) ?_
      refine v_lB H (o := 0) rfl rfl rfl rfl (n := n0) (en0) (show 0 ≤ x5_4 ∧ x5_4 < n0 by omega) (fun v4 ev4 qv4 => ?_)
      have ev4 : (A 0) (x5_4) = v4 := (congrFun (funext (hA_5 0 rfl)) (x5_4)).symm.trans ev4
      refine Ew_of (pc' := 19) (fun _ => x_sipush (z := 255) rfl (by decide)) ?_
      refine w_iand rfl (show inr (v4) by omega) (show inr (255) by omega) (fun z5 gz5 gaz5 gbz5 => ?_)
      refine w_ixor rfl (fun z6 gz6 => ?_)
      refine Ew_of (pc' := 22) (fun _ => x_istore_n rfl) ?_
      refine Ew_of (pc' := 23) (fun _ => x_iload_n rfl rk_s) ?_
      refine Ew_of (pc' := 24) (fun _ => x_iconst rfl) ?_
      refine w_iushrA rfl (fun z7 gz7 => ?_)
      refine Ew_of (pc' := 28) (fun _ => x_getstatic rfl) ?_
      refine Ew_of (pc' := 29) (fun _ => x_iload_n rfl rk_s) ?_
      refine Ew_of (pc' := 31) (fun _ => x_bipush (z := 15) rfl (by decide)) ?_
      refine w_iand rfl (show inr (z6) by omega) (show inr (15) by omega) (fun z8 gz8 gaz8 gbz8 => ?_)
      refine v_stI (STC_out HT HE O) (b := 1) (n := 16) rfl rfl rfl rfl (show 0 ≤ z8 ∧ z8 < 16 by omega) (fun v9 ev9 qv9 => ?_)
      refine w_ixor rfl (fun z10 gz10 => ?_)
      refine Ew_of (pc' := 35) (fun _ => x_istore_n rfl) ?_
      refine Ew_of (pc' := 36) (fun _ => x_iload_n rfl rk_s) ?_
      refine Ew_of (pc' := 37) (fun _ => x_iconst rfl) ?_
      refine w_iushrA rfl (fun z11 gz11 => ?_)
      refine Ew_of (pc' := 41) (fun _ => x_getstatic rfl) ?_
      refine Ew_of (pc' := 42) (fun _ => x_iload_n rfl rk_s) ?_
      refine Ew_of (pc' := 44) (fun _ => x_bipush (z := 15) rfl (by decide)) ?_
      refine w_iand rfl (show inr (z10) by omega) (show inr (15) by omega) (fun z12 gz12 gaz12 gbz12 => ?_)
      refine v_stI (STC_out HT HE O) (b := 1) (n := 16) rfl rfl rfl rfl (show 0 ≤ z12 ∧ z12 < 16 by omega) (fun v13 ev13 qv13 => ?_)
      refine w_ixor rfl (fun z14 gz14 => ?_)
      refine Ew_of (pc' := 48) (fun _ => x_istore_n rfl) ?_
      refine Ew_of (pc' := 51) (fun _ => x_iinc (len := 3) rfl (rk_o (rk_o (rk_o (l5_4) rfl rfl) rfl rfl) rfl rfl)) ?_
      refine Ew_of (pc' := 5) (fun _ => x_goto rfl rfl) ?_
      exact ih5 _ (by omega) _ _ _ _ (z14) ((x5_4 + 1)) (rk_o (rk_o (rk_o (rk_o (l5_0) rfl rfl) rfl rfl) rfl rfl) rfl rfl) (rk_o (rk_o (rk_o (rk_o (l5_2) rfl rfl) rfl rfl) rfl rfl) rfl rfl) (rk_o (rk_s) rfl rfl) (rk_s) H O (hS_5) (hA_5)     (show inr (z14) by omega) (show inr ((x5_4 + 1)) by omega) (show (a2) ≤ ((x5_4 + 1)) by omega) (show ((x5_4 + 1)) ≤ (a2) ∨ ((x5_4 + 1)) ≤ ((a3)) by omega) rfl
abbrev V27_Row : vV := [(0, 7, [(4, 0), (0, 0), (1, 0), (0, 0), (0, 0)])]
/-- PackHouse.isPart: #1 -/
theorem C27_Row {σE : rS} {D N : Nat → Nat} {F : hF} {A : hA} {d c s : Nat} {Q : wQ} (H : HW V27_Row σE D N F A) {a2 a3 : Int} (u0_1 : Int) (eu0_1 : F 0 1 = u0_1) (h0 : inr (a2)) (h1 : inr (a3)) (k : ∀ (z : Int) (σ : rS) (F' : hF) (A' : hA), HW V27_Row σ D N F' A' → OUT (V27_Row).length D N σE c s D N σ c s → SF [] F F' → SA [] A A' → ((z) = 0 ∨ (z) = 1) → ((z) = 1 → 0 ≤ (a2) ∧ (a2) ≤ (a3) ∧ (a3) ≤ (u0_1)) → Q (some (I z)) σ c s) : Ew 27 (d + 0) 0 (rargs 0 [.ref (D 0), I a2, I a3]) [] σE c s Q := by
  have O := OUT_refl (n := (V27_Row).length) (D := D) (N := N) (σ := σE) (c := c) (s := s)
  have HE := H
  have r1 : (-2147483648 : Int) ≤ u0_1 ∧ u0_1 ≤ 2147483647 := by have h1 : (-2147483648 : Int) ≤ F 0 1 ∧ F 0 1 ≤ 2147483647 := H.krg 0 1 (by decide); rw [show F 0 1 = u0_1 from (eu0_1)] at h1; exact h1
  refine Ew_of (pc' := 1) (fun _ => x_iconst rfl) ?_
  refine Ew_of (pc' := 2) (fun _ => x_iload_n rfl rfl) ?_
  refine w_icmpgt (t := 22) rfl rfl (show inr (0) by omega) (show inr (a2) by omega) (fun b2 => ?_) (fun b2 => ?_)
  · refine Ew_of (pc' := 23) (fun _ => x_iconst rfl) ?_
    exact w_ireturn rfl (k (0) _ _ _ H O (SF_refl) (SA_refl) (show (0) = 0 ∨ (0) = 1 by omega) (show (0) = 1 → 0 ≤ a2 ∧ a2 ≤ a3 ∧ a3 ≤ (u0_1) by omega))
  · refine Ew_of (pc' := 6) (fun _ => x_iload_n rfl rfl) ?_
    refine Ew_of (pc' := 7) (fun _ => x_iload_n rfl rfl) ?_
    refine w_icmpgt (t := 22) rfl rfl (show inr (a2) by omega) (show inr (a3) by omega) (fun b3 => ?_) (fun b3 => ?_)
    · refine Ew_of (pc' := 23) (fun _ => x_iconst rfl) ?_
      exact w_ireturn rfl (k (0) _ _ _ H O (SF_refl) (SA_refl) (show (0) = 0 ∨ (0) = 1 by omega) (show (0) = 1 → 0 ≤ a2 ∧ a2 ≤ a3 ∧ a3 ≤ (u0_1) by omega))
    · refine Ew_of (pc' := 11) (fun _ => x_iload_n rfl rfl) ?_
      refine Ew_of (pc' := 12) (fun _ => x_aload_n rfl rfl) ?_
      refine v_g H (o := 0) (v := I (u0_1)) rfl rfl rfl rfl rfl (congrArg (fun z : Int => I z) ((eu0_1) : F 0 1 = u0_1)) ?_
      refine w_icmpgt (t := 22) rfl rfl (show inr (a3) by omega) (show inr (u0_1) by omega) (fun b4 => ?_) (fun b4 => ?_)
      · refine Ew_of (pc' := 23) (fun _ => x_iconst rfl) ?_
        exact w_ireturn rfl (k (0) _ _ _ H O (SF_refl) (SA_refl) (show (0) = 0 ∨ (0) = 1 by omega) (show (0) = 1 → 0 ≤ a2 ∧ a2 ≤ a3 ∧ a3 ≤ (u0_1) by omega))
      · refine Ew_of (pc' := 19) (fun _ => x_iconst rfl) ?_
        refine Ew_of (pc' := 23) (fun _ => x_goto rfl rfl) ?_
        exact w_ireturn rfl (k (1) _ _ _ H O (SF_refl) (SA_refl) (show (1) = 0 ∨ (1) = 1 by omega) (show (1) = 1 → 0 ≤ a2 ∧ a2 ≤ a3 ∧ a3 ≤ (u0_1) by omega))
abbrev V28_Row : vV := [(0, 7, [(4, 0), (0, 0), (1, 0), (0, 0), (0, 0)]), (1, 0, [])]
/-- PackHouse.addHighestFirst: #1, #1.bytes -/
theorem C28_Row {σE : rS} {D N : Nat → Nat} {F : hF} {A : hA} {d c s : Nat} {Q : wQ} (H : HW V28_Row σE D N F A) {a2 a3 : Int} (pf1 : F 0 0 = (D 1 : Int)) (n1 : Int) (en1 : (N 1 : Int) = n1) (u0_1 : Int) (eu0_1 : F 0 1 = u0_1) (h0 : inrJ (a2)) (h1 : inr (a3)) (h2 : 0 ≤ (u0_1) ∧ (u0_1) ≤ (n1) ∧ (n1) ≤ 65536) (h3 : (a3) ≤ 8) (k : ∀ (σ : rS) (D' N' : Nat → Nat) (F' : hF) (A' : hA) (c' s' : Nat), HW V28_Row σ D' N' F' A' → OUT (V28_Row).length D N σE c s D' N' σ c' s' → SD [1] D D' → SD [1] N N' → SF [(0, 0), (0, 1), (0, 2)] F F' → SA [1] A A' → F' 0 0 = (D' 1 : Int) → ∀ m1 : Int, (N' 1 : Int) = m1 → ∀ y0_1 : Int, F' 0 1 = y0_1 → (0 ≤ (y0_1) ∧ (y0_1) ≤ (m1) ∧ (m1) ≤ 65536) → Q none σ c' s') : Ew 28 (d + 3) 0 (rargs 0 [.ref (D 0), J a2, I a3]) [] σE c s Q := by
  have O := OUT_refl (n := (V28_Row).length) (D := D) (N := N) (σ := σE) (c := c) (s := s)
  have HE := H
  have r1 : (-2147483648 : Int) ≤ u0_1 ∧ u0_1 ≤ 2147483647 := by have h1 : (-2147483648 : Int) ≤ F 0 1 ∧ F 0 1 ≤ 2147483647 := H.krg 0 1 (by decide); rw [show F 0 1 = u0_1 from (eu0_1)] at h1; exact h1
  have r2 : (0 : Int) ≤ n1 ∧ n1 ≤ 1000000 := by have h1 := H.nle 1 (by decide); have h2 : (N 1 : Int) = n1 := en1; omega
  refine Ew_of (pc' := 1) (fun _ => x_iconst rfl) ?_
  refine Ew_of (pc' := 3) (fun _ => x_istore rfl) ?_
  suffices hl3 : ∀ (m : Nat), ∀ (ls : rO) (σ : rS) (D_3 N_3 : Nat → Nat) (c_3 s_3 : Nat) (F_3 : hF) (A_3 : hA) (x3_4 : Int), rlook ls 0 = some (.ref (D_3 0)) → rlook ls 1 = some (J (a2)) → rlook ls 3 = some (I (a3)) → rlook ls 4 = some (I (x3_4)) → HW V28_Row σ D_3 N_3 F_3 A_3 → OUT (V28_Row).length D N σE c s D_3 N_3 σ c_3 s_3 → SD [1] D D_3 → SD [1] N N_3 → SF [(0, 0), (0, 1), (0, 2)] F F_3 → SA [1] A A_3 → F_3 0 0 = (D_3 1 : Int) → ∀ m3_1 : Int, (N_3 1 : Int) = m3_1 → ∀ y3_0_1 : Int, F_3 0 1 = y3_0_1 → (inr (x3_4)) → ((0) ≤ (x3_4)) → ((x3_4) ≤ (0) ∨ (x3_4) ≤ ((a3))) → (0 ≤ (y3_0_1) ∧ (y3_0_1) ≤ (m3_1) ∧ (m3_1) ≤ 65536) → (((a3)) - (x3_4)).toNat = m → Ew 28 (d + 3) 3 ls [] σ c_3 s_3 Q from
    hl3 _ _ _ _ _ _ _ _ _ (0) (rk_o (rfl) rfl rfl) (rk_o (rfl) rfl rfl) (rk_o (rfl) rfl rfl) (rk_s) H O (SD_refl) (SD_refl) (SF_refl) (SA_refl) (pf1) (n1) (en1) (u0_1) ((eu0_1))  (show inr (0) by omega) (show (0) ≤ (0) by omega) (show (0) ≤ (0) ∨ (0) ≤ ((a3)) by omega) (show 0 ≤ (u0_1) ∧ (u0_1) ≤ (n1) ∧ (n1) ≤ 65536 by omega) rfl
  as_aux_lemma =>
  intro m
  induction m using Nat.strongRecOn with
  | _ m ih3 =>
    intro ls σ D_3 N_3 c_3 s_3 F_3 A_3 x3_4 l3_0 l3_1 l3_3 l3_4 H O hD_3 hN_3 hS_3 hA_3 pm3_1 m3_1 em3_1 y3_0_1 ey3_0_1  j3_0 j3_1 j3_2 j3_3 hm3
    have r3 : (0 : Int) ≤ m3_1 ∧ m3_1 ≤ 1000000 := by have h1 := H.nle 1 (by decide); have h2 : (N_3 1 : Int) = m3_1 := em3_1; omega
    have r4 : (-2147483648 : Int) ≤ y3_0_1 ∧ y3_0_1 ≤ 2147483647 := by have h1 : (-2147483648 : Int) ≤ F_3 0 1 ∧ F_3 0 1 ≤ 2147483647 := H.krg 0 1 (by decide); rw [show F_3 0 1 = y3_0_1 from (ey3_0_1)] at h1; exact h1
    refine Ew_of (pc' := 5) (fun _ => x_iload rfl l3_4) ?_
    refine Ew_of (pc' := 6) (fun _ => x_iload_n rfl l3_3) ?_
    refine w_icmpge (t := 30) rfl rfl (show inr (x3_4) by omega) (show inr (a3) by omega) (fun b5 => ?_) (fun b5 => ?_)
    · exact w_ret rfl (k _ _ _ _ _ _ _ H O (SD_trans (SD_refl) hD_3 (any_subA rfl)) (SD_trans (SD_refl) hN_3 (any_subA rfl)) (SF_trans (SF_refl) hS_3 (any_sub rfl)) (SA_trans (SA_refl) hA_3 (any_subA rfl)) (pm3_1) (m3_1) (em3_1) (y3_0_1) ((ey3_0_1)) (show 0 ≤ (y3_0_1) ∧ (y3_0_1) ≤ (m3_1) ∧ (m3_1) ≤ 65536 by omega))
    · refine Ew_of (pc' := 10) (fun _ => x_aload_n rfl l3_0) ?_
      refine Ew_of (pc' := 11) (fun _ => x_lload_n rfl l3_1) ?_
      refine Ew_of (pc' := 13) (fun _ => x_bipush (z := 56) rfl (by decide)) ?_
      refine Ew_of (pc' := 15) (fun _ => x_bipush (z := 8) rfl (by decide)) ?_
      refine Ew_of (pc' := 17) (fun _ => x_iload rfl l3_4) ?_
      refine w_imul rfl ?_
      refine w_isub rfl ?_
      refine w_lushrA rfl (fun z6 gz6 => ?_)
      refine w_l2iA rfl (fun z7 gz7 => ?_)
      refine v_inv H (o := 0) rfl rfl rfl rfl rfl rfl (by rfl) (C159 (D := pul [0, 1] D_3) (N := pul [0, 1] N_3) (HW_sub H (VS_of (show vsub V28_Row V159 [0, 1] = true by decide +kernel))) (pm3_1) (m3_1) (em3_1) (y3_0_1) ((ey3_0_1)) (show inr (z7) by omega) (show 0 ≤ (y3_0_1) ∧ (y3_0_1) ≤ (m3_1) ∧ (m3_1) ≤ 65536 by omega) (fun σ8 D8' N8' F8' A8' c8 s8 H' O' hD8 hN8 hS8 hA8 pm8_1 m8_1 em8_1 y8_0_1 ey8_0_1 pz8_0 pz8_1 pz8_2 => ⟨rfl, ?_⟩))
      refine v_backM (c := c_3) (s := s_3) H (show vsub V28_Row V159 [0, 1] = true by decide +kernel) H' O' hD8 (show vmov V28_Row [0, 1] [1] = true by decide +kernel) (fun D8 N8 F8 A8 H O' eD8 eN8 eF8 eA8 => ?_)
      have O := OUT_trans O O'
      -- Row.add
      have pf8_0_0 : F8 0 0 = (D8 1 : Int) := (eF8 0 0).trans (pm8_1.trans (congrArg (fun q : Nat => (q : Int)) (eD8 1).symm))
      have r9 : (0 : Int) ≤ m8_1 ∧ m8_1 ≤ 1000000 := by have h1 := H.nle 1 (by decide); have h2 : (N8 1 : Int) = m8_1 := (congrArg (fun q : Nat => (q : Int)) (eN8 1)).trans em8_1; omega
      have r10 : (-2147483648 : Int) ≤ y8_0_1 ∧ y8_0_1 ≤ 2147483647 := by have h1 : (-2147483648 : Int) ≤ F8 0 1 ∧ F8 0 1 ≤ 2147483647 := H.krg 0 1 (by decide); rw [show F8 0 1 = y8_0_1 from ((eF8 0 1).trans ey8_0_1)] at h1; exact h1
      refine Ew_of (pc' := 27) (fun _ => x_iinc (len := 3) rfl (l3_4)) ?_
      refine Ew_of (pc' := 3) (fun _ => x_goto rfl rfl) ?_
      exact ih3 _ (by omega) _ _ _ _ _ _ _ _ ((x3_4 + 1)) ((rk_o (l3_0) rfl rfl).trans (congrArg (fun q : Nat => some (Value.ref q)) (((show D8 0 = D_3 0 from (eD8 0).trans (hD8 0 rfl)))).symm)) (rk_o (l3_1) rfl rfl) (rk_o (l3_3) rfl rfl) (rk_s) H O (SD_trans (hD_3) (SD_glu (ι := [0, 1]) hD8 eD8 (by decide +kernel)) (any_subA (l' := [1]) rfl)) (SD_trans (hN_3) (SD_glu (ι := [0, 1]) hN8 eN8 (by decide +kernel)) (any_subA (l' := [1]) rfl)) (SF_trans (hS_3) (SF_glu (ι := [0, 1]) hS8 eF8 (by decide +kernel)) (any_sub (l' := [(0, 0), (0, 1), (0, 2)]) rfl)) (SA_trans (hA_3) (SA_glu (ι := [0, 1]) hA8 eA8 (by decide +kernel)) (any_subA (l' := [1]) rfl)) (pf8_0_0) (m8_1) ((congrArg (fun q : Nat => (q : Int)) (eN8 1)).trans em8_1) (y8_0_1) (((eF8 0 1).trans ey8_0_1))  (show inr ((x3_4 + 1)) by omega) (show (0) ≤ ((x3_4 + 1)) by omega) (show ((x3_4 + 1)) ≤ (0) ∨ ((x3_4 + 1)) ≤ ((a3)) by omega) (show 0 ≤ (y8_0_1) ∧ (y8_0_1) ≤ (m8_1) ∧ (m8_1) ≤ 65536 by omega) rfl
abbrev V29_Row_Row : vV := [(0, 7, [(4, 0), (0, 0), (1, 0), (0, 0), (0, 0)]), (0, 7, [(4, 0), (0, 0), (1, 0), (0, 0), (0, 0)]), (1, 0, []), (1, 0, [])]
/-- PackHouse.firstUnlike: #1, #2, #1.bytes, #2.bytes -/
theorem C29_Row_Row {σE : rS} {D N : Nat → Nat} {F : hF} {A : hA} {d c s : Nat} {Q : wQ} (H : HW V29_Row_Row σE D N F A)  (pf2 : F 0 0 = (D 2 : Int)) (pf3 : F 1 0 = (D 3 : Int)) (n2 : Int) (en2 : (N 2 : Int) = n2) (n3 : Int) (en3 : (N 3 : Int) = n3) (u0_1 : Int) (eu0_1 : F 0 1 = u0_1) (u1_1 : Int) (eu1_1 : F 1 1 = u1_1) (h0 : 0 ≤ (u0_1) ∧ (u0_1) ≤ (n2) ∧ (n2) ≤ 65536) (h1 : 0 ≤ (u1_1) ∧ (u1_1) ≤ (n3) ∧ (n3) ≤ 65536) (k : ∀ (z : Int) (σ : rS) (F' : hF) (A' : hA), HW V29_Row_Row σ D N F' A' → OUT (V29_Row_Row).length D N σE c s D N σ c s → SF [] F F' → SA [] A A' → (inr (z)) → Q (some (I z)) σ c s) : Ew 29 (d + 0) 0 (rargs 0 [.ref (D 0), .ref (D 1)]) [] σE c s Q := by
  have O := OUT_refl (n := (V29_Row_Row).length) (D := D) (N := N) (σ := σE) (c := c) (s := s)
  have HE := H
  have r1 : (-2147483648 : Int) ≤ u0_1 ∧ u0_1 ≤ 2147483647 := by have h1 : (-2147483648 : Int) ≤ F 0 1 ∧ F 0 1 ≤ 2147483647 := H.krg 0 1 (by decide); rw [show F 0 1 = u0_1 from (eu0_1)] at h1; exact h1
  have r2 : (-2147483648 : Int) ≤ u1_1 ∧ u1_1 ≤ 2147483647 := by have h1 : (-2147483648 : Int) ≤ F 1 1 ∧ F 1 1 ≤ 2147483647 := H.krg 1 1 (by decide); rw [show F 1 1 = u1_1 from (eu1_1)] at h1; exact h1
  have r3 : (0 : Int) ≤ n2 ∧ n2 ≤ 1000000 := by have h1 := H.nle 2 (by decide); have h2 : (N 2 : Int) = n2 := en2; omega
  have r4 : (0 : Int) ≤ n3 ∧ n3 ≤ 1000000 := by have h1 := H.nle 3 (by decide); have h2 : (N 3 : Int) = n3 := en3; omega
  refine Ew_of (pc' := 1) (fun _ => x_aload_n rfl rfl) ?_
  refine v_g H (o := 0) (v := I (u0_1)) rfl rfl rfl rfl rfl (congrArg (fun z : Int => I z) ((eu0_1) : F 0 1 = u0_1)) ?_
  refine Ew_of (pc' := 5) (fun _ => x_aload_n rfl rfl) ?_
  refine v_g H (o := 1) (v := I (u1_1)) rfl rfl rfl rfl rfl (congrArg (fun z : Int => I z) ((eu1_1) : F 1 1 = u1_1)) ?_
  refine v_min rfl rfl (show inr (u0_1) by omega) (show inr (u1_1) by omega) (fun z5 gz5 => ?_)
  refine Ew_of (pc' := 12) (fun _ => x_istore_n rfl) ?_
  refine Ew_of (pc' := 13) (fun _ => x_iconst rfl) ?_
  refine Ew_of (pc' := 14) (fun _ => x_istore_n rfl) ?_
  suffices hl14 : ∀ (m : Nat), ∀ (ls : rO) (σ : rS) (F_14 : hF) (A_14 : hA) (x14_3 : Int), rlook ls 0 = some (.ref (D 0)) → rlook ls 1 = some (.ref (D 1)) → rlook ls 2 = some (I (z5)) → rlook ls 3 = some (I (x14_3)) → HW V29_Row_Row σ D N F_14 A_14 → OUT (V29_Row_Row).length D N σE c s D N σ c s → SF [] F F_14 → SA [] A A_14 → (inr (x14_3)) → ((0) ≤ (x14_3)) → ((x14_3) ≤ (0) ∨ (x14_3) ≤ ((z5))) → (((z5)) - (x14_3)).toNat = m → Ew 29 (d + 0) 14 ls [] σ c s Q from
    hl14 _ _ _ _ _ (0) (rk_o (rk_o (rfl) rfl rfl) rfl rfl) (rk_o (rk_o (rfl) rfl rfl) rfl rfl) (rk_o (rk_s) rfl rfl) (rk_s) H O (SF_refl) (SA_refl)     (show inr (0) by omega) (show (0) ≤ (0) by omega) (show (0) ≤ (0) ∨ (0) ≤ ((z5)) by omega) rfl
  as_aux_lemma =>
  intro m
  induction m using Nat.strongRecOn with
  | _ m ih14 =>
    intro ls σ F_14 A_14 x14_3 l14_0 l14_1 l14_2 l14_3 H O hS_14 hA_14     j14_0 j14_1 j14_2 hm14
    refine Ew_of (pc' := 15) (fun _ => x_iload_n rfl l14_3) ?_
    refine Ew_of (pc' := 16) (fun _ => x_iload_n rfl l14_2) ?_
    refine w_icmpge (t := 42) rfl rfl (show inr (x14_3) by omega) (show inr (z5) by omega) (fun b6 => ?_) (fun b6 => ?_)
    · refine Ew_of (pc' := 43) (fun _ => x_aload_n rfl l14_0) ?_
      refine v_g H (o := 0) (v := I (u0_1)) rfl rfl rfl rfl rfl (congrArg (fun z : Int => I z) (((hS_14 0 1 rfl).trans (eu0_1)) : F_14 0 1 = u0_1)) ?_
      refine Ew_of (pc' := 47) (fun _ => x_aload_n rfl l14_1) ?_
      refine v_g H (o := 1) (v := I (u1_1)) rfl rfl rfl rfl rfl (congrArg (fun z : Int => I z) (((hS_14 1 1 rfl).trans (eu1_1)) : F_14 1 1 = u1_1)) ?_
      refine w_icmpne (t := 57) rfl rfl (show inr (u0_1) by omega) (show inr (u1_1) by omega) (fun b7 => ?_) (fun b7 => ?_)
      · refine Ew_of (pc' := 58) (fun _ => x_iload_n rfl l14_2) ?_
        exact w_ireturn rfl (k (z5) _ _ _ H O (SF_trans (SF_refl) hS_14 (any_sub rfl)) (SA_trans (SA_refl) hA_14 (any_subA rfl)) (show inr (z5) by omega))
      · refine Ew_of (pc' := 54) (fun _ => x_iconst rfl) ?_
        refine Ew_of (pc' := 58) (fun _ => x_goto rfl rfl) ?_
        exact w_ireturn rfl (k ((-1)) _ _ _ H O (SF_trans (SF_refl) hS_14 (any_sub rfl)) (SA_trans (SA_refl) hA_14 (any_subA rfl)) (show inr ((-1)) by omega))
    · refine Ew_of (pc' := 20) (fun _ => x_aload_n rfl l14_0) ?_
      refine v_g H (o := 0) (v := .ref (D 2)) rfl rfl rfl rfl rfl (vrf (((hS_14 0 0 rfl)).trans (pf2))) ?_
      refine Ew_of (pc' := 24) (fun _ => x_iload_n rfl l14_3) ?_
      refine v_lB H (o := 2) rfl rfl rfl rfl (n := n2) (en2) (show 0 ≤ x14_3 ∧ x14_3 < n2 by omega) (fun v8 ev8 qv8 => ?_)
      have ev8 : (A 2) (x14_3) = v8 := (congrFun (funext (hA_14 2 rfl)) (x14_3)).symm.trans ev8
      refine Ew_of (pc' := 26) (fun _ => x_aload_n rfl l14_1) ?_
      refine v_g H (o := 1) (v := .ref (D 3)) rfl rfl rfl rfl rfl (vrf (((hS_14 1 0 rfl)).trans (pf3))) ?_
      refine Ew_of (pc' := 30) (fun _ => x_iload_n rfl l14_3) ?_
      refine v_lB H (o := 3) rfl rfl rfl rfl (n := n3) (en3) (show 0 ≤ x14_3 ∧ x14_3 < n3 by omega) (fun v9 ev9 qv9 => ?_)
      have ev9 : (A 3) (x14_3) = v9 := (congrFun (funext (hA_14 3 rfl)) (x14_3)).symm.trans ev9
      refine w_icmpeq (t := 36) rfl rfl (show inr (v8) by omega) (show inr (v9) by omega) (fun b10 => ?_) (fun b10 => ?_)
      · refine Ew_of (pc' := 39) (fun _ => x_iinc (len := 3) rfl (l14_3)) ?_
        refine Ew_of (pc' := 14) (fun _ => x_goto rfl rfl) ?_
        exact ih14 _ (by omega) _ _ _ _ ((x14_3 + 1)) (rk_o (l14_0) rfl rfl) (rk_o (l14_1) rfl rfl) (rk_o (l14_2) rfl rfl) (rk_s) H O (hS_14) (hA_14)     (show inr ((x14_3 + 1)) by omega) (show (0) ≤ ((x14_3 + 1)) by omega) (show ((x14_3 + 1)) ≤ (0) ∨ ((x14_3 + 1)) ≤ ((z5)) by omega) rfl
      · refine Ew_of (pc' := 35) (fun _ => x_iload_n rfl l14_3) ?_
        exact w_ireturn rfl (k (x14_3) _ _ _ H O (SF_trans (SF_refl) hS_14 (any_sub rfl)) (SA_trans (SA_refl) hA_14 (any_subA rfl)) (show inr (x14_3) by omega))
abbrev V29_Row_1a : vV := [(0, 7, [(4, 0), (0, 0), (1, 0), (0, 0), (0, 0)]), (1, 0, [])]
/-- PackHouse.firstUnlike: #1, #1.bytes -/
theorem C29_Row_1a {σE : rS} {D N : Nat → Nat} {F : hF} {A : hA} {d c s : Nat} {Q : wQ} (H : HW V29_Row_1a σE D N F A)  (pf1 : F 0 0 = (D 1 : Int)) (n1 : Int) (en1 : (N 1 : Int) = n1) (u0_1 : Int) (eu0_1 : F 0 1 = u0_1) (h0 : 0 ≤ (u0_1) ∧ (u0_1) ≤ (n1) ∧ (n1) ≤ 65536) (h1 : 0 ≤ (u0_1) ∧ (u0_1) ≤ (n1) ∧ (n1) ≤ 65536) (k : ∀ (z : Int) (σ : rS) (F' : hF) (A' : hA), HW V29_Row_1a σ D N F' A' → OUT (V29_Row_1a).length D N σE c s D N σ c s → SF [] F F' → SA [] A A' → (inr (z)) → Q (some (I z)) σ c s) : Ew 29 (d + 0) 0 (rargs 0 [.ref (D 0), .ref (D 0)]) [] σE c s Q := by
  have O := OUT_refl (n := (V29_Row_1a).length) (D := D) (N := N) (σ := σE) (c := c) (s := s)
  have HE := H
  have r1 : (-2147483648 : Int) ≤ u0_1 ∧ u0_1 ≤ 2147483647 := by have h1 : (-2147483648 : Int) ≤ F 0 1 ∧ F 0 1 ≤ 2147483647 := H.krg 0 1 (by decide); rw [show F 0 1 = u0_1 from (eu0_1)] at h1; exact h1
  have r2 : (0 : Int) ≤ n1 ∧ n1 ≤ 1000000 := by have h1 := H.nle 1 (by decide); have h2 : (N 1 : Int) = n1 := en1; omega
  refine Ew_of (pc' := 1) (fun _ => x_aload_n rfl rfl) ?_
  refine v_g H (o := 0) (v := I (u0_1)) rfl rfl rfl rfl rfl (congrArg (fun z : Int => I z) ((eu0_1) : F 0 1 = u0_1)) ?_
  refine Ew_of (pc' := 5) (fun _ => x_aload_n rfl rfl) ?_
  refine v_g H (o := 0) (v := I (u0_1)) rfl rfl rfl rfl rfl (congrArg (fun z : Int => I z) ((eu0_1) : F 0 1 = u0_1)) ?_
  refine v_min rfl rfl (show inr (u0_1) by omega) (show inr (u0_1) by omega) (fun z3 gz3 => ?_)
  refine Ew_of (pc' := 12) (fun _ => x_istore_n rfl) ?_
  refine Ew_of (pc' := 13) (fun _ => x_iconst rfl) ?_
  refine Ew_of (pc' := 14) (fun _ => x_istore_n rfl) ?_
  suffices hl14 : ∀ (m : Nat), ∀ (ls : rO) (σ : rS) (F_14 : hF) (A_14 : hA) (x14_3 : Int), rlook ls 0 = some (.ref (D 0)) → rlook ls 1 = some (.ref (D 0)) → rlook ls 2 = some (I (z3)) → rlook ls 3 = some (I (x14_3)) → HW V29_Row_1a σ D N F_14 A_14 → OUT (V29_Row_1a).length D N σE c s D N σ c s → SF [] F F_14 → SA [] A A_14 → (inr (x14_3)) → ((0) ≤ (x14_3)) → ((x14_3) ≤ (0) ∨ (x14_3) ≤ ((z3))) → (((z3)) - (x14_3)).toNat = m → Ew 29 (d + 0) 14 ls [] σ c s Q from
    hl14 _ _ _ _ _ (0) (rk_o (rk_o (rfl) rfl rfl) rfl rfl) (rk_o (rk_o (rfl) rfl rfl) rfl rfl) (rk_o (rk_s) rfl rfl) (rk_s) H O (SF_refl) (SA_refl)     (show inr (0) by omega) (show (0) ≤ (0) by omega) (show (0) ≤ (0) ∨ (0) ≤ ((z3)) by omega) rfl
  as_aux_lemma =>
  intro m
  induction m using Nat.strongRecOn with
  | _ m ih14 =>
    intro ls σ F_14 A_14 x14_3 l14_0 l14_1 l14_2 l14_3 H O hS_14 hA_14     j14_0 j14_1 j14_2 hm14
    refine Ew_of (pc' := 15) (fun _ => x_iload_n rfl l14_3) ?_
    refine Ew_of (pc' := 16) (fun _ => x_iload_n rfl l14_2) ?_
    refine w_icmpge (t := 42) rfl rfl (show inr (x14_3) by omega) (show inr (z3) by omega) (fun b4 => ?_) (fun b4 => ?_)
    · refine Ew_of (pc' := 43) (fun _ => x_aload_n rfl l14_0) ?_
      refine v_g H (o := 0) (v := I (u0_1)) rfl rfl rfl rfl rfl (congrArg (fun z : Int => I z) (((hS_14 0 1 rfl).trans (eu0_1)) : F_14 0 1 = u0_1)) ?_
      refine Ew_of (pc' := 47) (fun _ => x_aload_n rfl l14_1) ?_
      refine v_g H (o := 0) (v := I (u0_1)) rfl rfl rfl rfl rfl (congrArg (fun z : Int => I z) (((hS_14 0 1 rfl).trans (eu0_1)) : F_14 0 1 = u0_1)) ?_
      refine w_icmpne (t := 57) rfl rfl (show inr (u0_1) by omega) (show inr (u0_1) by omega) (fun b5 => ?_) (fun b5 => ?_)
      · refine Ew_of (pc' := 58) (fun _ => x_iload_n rfl l14_2) ?_
        exact w_ireturn rfl (k (z3) _ _ _ H O (SF_trans (SF_refl) hS_14 (any_sub rfl)) (SA_trans (SA_refl) hA_14 (any_subA rfl)) (show inr (z3) by omega))
      · refine Ew_of (pc' := 54) (fun _ => x_iconst rfl) ?_
        refine Ew_of (pc' := 58) (fun _ => x_goto rfl rfl) ?_
        exact w_ireturn rfl (k ((-1)) _ _ _ H O (SF_trans (SF_refl) hS_14 (any_sub rfl)) (SA_trans (SA_refl) hA_14 (any_subA rfl)) (show inr ((-1)) by omega))
    · refine Ew_of (pc' := 20) (fun _ => x_aload_n rfl l14_0) ?_
      refine v_g H (o := 0) (v := .ref (D 1)) rfl rfl rfl rfl rfl (vrf (((hS_14 0 0 rfl)).trans (pf1))) ?_
      refine Ew_of (pc' := 24) (fun _ => x_iload_n rfl l14_3) ?_
      refine v_lB H (o := 1) rfl rfl rfl rfl (n := n1) (en1) (show 0 ≤ x14_3 ∧ x14_3 < n1 by omega) (fun v6 ev6 qv6 => ?_)
      have ev6 : (A 1) (x14_3) = v6 := (congrFun (funext (hA_14 1 rfl)) (x14_3)).symm.trans ev6
      refine Ew_of (pc' := 26) (fun _ => x_aload_n rfl l14_1) ?_
      refine v_g H (o := 0) (v := .ref (D 1)) rfl rfl rfl rfl rfl (vrf (((hS_14 0 0 rfl)).trans (pf1))) ?_
      refine Ew_of (pc' := 30) (fun _ => x_iload_n rfl l14_3) ?_
      refine v_lB H (o := 1) rfl rfl rfl rfl (n := n1) (en1) (show 0 ≤ x14_3 ∧ x14_3 < n1 by omega) (fun v7 ev7 qv7 => ?_)
      have ev7 : (A 1) (x14_3) = v7 := (congrFun (funext (hA_14 1 rfl)) (x14_3)).symm.trans ev7
      refine w_icmpeq (t := 36) rfl rfl (show inr (v6) by omega) (show inr (v7) by omega) (fun b8 => ?_) (fun b8 => ?_)
      · refine Ew_of (pc' := 39) (fun _ => x_iinc (len := 3) rfl (l14_3)) ?_
        refine Ew_of (pc' := 14) (fun _ => x_goto rfl rfl) ?_
        exact ih14 _ (by omega) _ _ _ _ ((x14_3 + 1)) (rk_o (l14_0) rfl rfl) (rk_o (l14_1) rfl rfl) (rk_o (l14_2) rfl rfl) (rk_s) H O (hS_14) (hA_14)     (show inr ((x14_3 + 1)) by omega) (show (0) ≤ ((x14_3 + 1)) by omega) (show ((x14_3 + 1)) ≤ (0) ∨ ((x14_3 + 1)) ≤ ((z3)) by omega) rfl
      · refine Ew_of (pc' := 35) (fun _ => x_iload_n rfl l14_3) ?_
        exact w_ireturn rfl (k (x14_3) _ _ _ H O (SF_trans (SF_refl) hS_14 (any_sub rfl)) (SA_trans (SA_refl) hA_14 (any_subA rfl)) (show inr (x14_3) by omega))
abbrev V192_Br : vV := [(1, 0, [])]
/-- Tags.isMark: #1 -/
theorem C192_Br {σE : rS} {D N : Nat → Nat} {F : hF} {A : hA} {d c s : Nat} {Q : wQ} (H : HW V192_Br σE D N F A) (HT : STC σE) {a2 a3 : Int} (n0 : Int) (en0 : (N 0 : Int) = n0) (h0 : inr (a2)) (h1 : inr (a3)) (h2 : 0 ≤ (a2) ∧ 0 ≤ (a3) ∧ (a3) ≤ (n0) ∧ (n0) ≤ 65536 ∧ (a2) ≤ 200000) (k : ∀ (z : Int) (σ : rS) (F' : hF) (A' : hA), HW V192_Br σ D N F' A' → OUT (V192_Br).length D N σE c s D N σ c s → SF [] F F' → SA [] A A' → ((z) = 0 ∨ (z) = 1) → Q (some (I z)) σ c s) : Ew 192 (d + 0) 0 (rargs 0 [.ref (D 0), I a2, I a3]) [] σE c s Q := by
  have O := OUT_refl (n := (V192_Br).length) (D := D) (N := N) (σ := σE) (c := c) (s := s)
  have HE := H
  have r1 : (0 : Int) ≤ n0 ∧ n0 ≤ 1000000 := by have h1 := H.nle 0 (by decide); have h2 : (N 0 : Int) = n0 := en0; omega
  refine Ew_of (pc' := 1) (fun _ => x_iload_n rfl rfl) ?_
  refine Ew_of (pc' := 2) (fun _ => x_iload_n rfl rfl) ?_
  refine w_isub rfl ?_
  refine Ew_of (pc' := 6) (fun _ => x_getstatic rfl) ?_
  refine v_stL (STC_out HT HE O) (b := 0) (n := 10) rfl rfl rfl ?_
  refine w_icmpge (t := 12) rfl rfl (show inr ((a3 - a2)) by omega) (show inr (10) by omega) (fun b2 => ?_) (fun b2 => ?_)
  · refine Ew_of (pc' := 13) (fun _ => x_iconst rfl) ?_
    refine Ew_of (pc' := 14) (fun _ => x_istore_n rfl) ?_
    suffices hl14 : ∀ (m : Nat), ∀ (ls : rO) (σ : rS) (F_14 : hF) (A_14 : hA) (x14_3 : Int), rlook ls 0 = some (.ref (D 0)) → rlook ls 1 = some (I (a2)) → rlook ls 3 = some (I (x14_3)) → HW V192_Br σ D N F_14 A_14 → OUT (V192_Br).length D N σE c s D N σ c s → SF [] F F_14 → SA [] A A_14 → (inr (x14_3)) → ((0) ≤ (x14_3)) → ((x14_3) ≤ (0) ∨ (x14_3) ≤ ((10))) → (((10)) - (x14_3)).toNat = m → Ew 192 (d + 0) 14 ls [] σ c s Q from
      hl14 _ _ _ _ _ (0) (rk_o (rfl) rfl rfl) (rk_o (rfl) rfl rfl) (rk_s) H O (SF_refl) (SA_refl)     (show inr (0) by omega) (show (0) ≤ (0) by omega) (show (0) ≤ (0) ∨ (0) ≤ ((10)) by omega) rfl
    as_aux_lemma =>
    intro m
    induction m using Nat.strongRecOn with
    | _ m ih14 =>
      intro ls σ F_14 A_14 x14_3 l14_0 l14_1 l14_3 H O hS_14 hA_14     j14_0 j14_1 j14_2 hm14
      refine Ew_of (pc' := 15) (fun _ => x_iload_n rfl l14_3) ?_
      refine Ew_of (pc' := 18) (fun _ => x_getstatic rfl) ?_
      refine v_stL (STC_out HT HE O) (b := 0) (n := 10) rfl rfl rfl ?_
      refine w_icmpge (t := 43) rfl rfl (show inr (x14_3) by omega) (show inr (10) by omega) (fun b3 => ?_) (fun b3 => ?_)
      · refine Ew_of (pc' := 44) (fun _ => x_iconst rfl) ?_
        exact w_ireturn rfl (k (1) _ _ _ H O (SF_trans (SF_refl) hS_14 (any_sub rfl)) (SA_trans (SA_refl) hA_14 (any_subA rfl)) (show (1) = 0 ∨ (1) = 1 by omega))
      · refine Ew_of (pc' := 23) (fun _ => x_aload_n rfl l14_0) ?_
        refine Ew_of (pc' := 24) (fun _ => x_iload_n rfl l14_1) ?_
        refine Ew_of (pc' := 25) (fun _ => x_iload_n rfl l14_3) ?_
        refine w_iadd rfl ?_
        refine v_lB H (o := 0) rfl rfl rfl rfl (n := n0) (en0) (show 0 ≤ (a2 + x14_3) ∧ (a2 + x14_3) < n0 by omega) (fun v4 ev4 qv4 => ?_)
        have ev4 : (A 0) ((a2 + x14_3)) = v4 := (congrFun (funext (hA_14 0 rfl)) ((a2 + x14_3))).symm.trans ev4
        refine Ew_of (pc' := 30) (fun _ => x_getstatic rfl) ?_
        refine Ew_of (pc' := 31) (fun _ => x_iload_n rfl l14_3) ?_
        refine v_stB (STC_out HT HE O) (b := 0) (n := 10) rfl rfl rfl rfl (show 0 ≤ x14_3 ∧ x14_3 < 10 by omega) (fun v5 ev5 qv5 => ?_)
        refine w_icmpeq (t := 37) rfl rfl (show inr (v4) by omega) (show inr (v5) by omega) (fun b6 => ?_) (fun b6 => ?_)
        · refine Ew_of (pc' := 40) (fun _ => x_iinc (len := 3) rfl (l14_3)) ?_
          refine Ew_of (pc' := 14) (fun _ => x_goto rfl rfl) ?_
          exact ih14 _ (by omega) _ _ _ _ ((x14_3 + 1)) (rk_o (l14_0) rfl rfl) (rk_o (l14_1) rfl rfl) (rk_s) H O (hS_14) (hA_14)     (show inr ((x14_3 + 1)) by omega) (show (0) ≤ ((x14_3 + 1)) by omega) (show ((x14_3 + 1)) ≤ (0) ∨ ((x14_3 + 1)) ≤ ((10)) by omega) rfl
        · refine Ew_of (pc' := 36) (fun _ => x_iconst rfl) ?_
          exact w_ireturn rfl (k (0) _ _ _ H O (SF_trans (SF_refl) hS_14 (any_sub rfl)) (SA_trans (SA_refl) hA_14 (any_subA rfl)) (show (0) = 0 ∨ (0) = 1 by omega))
  · refine Ew_of (pc' := 11) (fun _ => x_iconst rfl) ?_
    exact w_ireturn rfl (k (0) _ _ _ H O (SF_refl) (SA_refl) (show (0) = 0 ∨ (0) = 1 by omega))
abbrev V33_Row : vV := [(0, 7, [(4, 0), (0, 0), (1, 0), (0, 0), (0, 0)]), (1, 0, [])]
/-- PackHouse.formatOf: #1, #1.bytes -/
theorem C33_Row {σE : rS} {D N : Nat → Nat} {F : hF} {A : hA} {d c s : Nat} {Q : wQ} (H : HW V33_Row σE D N F A) (HT : STC σE)  (pf1 : F 0 0 = (D 1 : Int)) (n1 : Int) (en1 : (N 1 : Int) = n1) (u0_1 : Int) (eu0_1 : F 0 1 = u0_1) (h0 : 0 ≤ (u0_1) ∧ (u0_1) ≤ (n1) ∧ (n1) ≤ 65536) (k : ∀ (z : Int) (σ : rS) (F' : hF) (A' : hA), HW V33_Row σ D N F' A' → OUT (V33_Row).length D N σE c s D N σ c s → SF [] F F' → SA [] A A' → (inr (z)) → ((z) = 0 ∨ (z) = 1 ∨ 3 ≤ (z) ∧ (z) ≤ 5) → Q (some (I z)) σ c s) : Ew 33 (d + 2) 0 (rargs 0 [.ref (D 0)]) [] σE c s Q := by
  have O := OUT_refl (n := (V33_Row).length) (D := D) (N := N) (σ := σE) (c := c) (s := s)
  have HE := H
  have r1 : (-2147483648 : Int) ≤ u0_1 ∧ u0_1 ≤ 2147483647 := by have h1 : (-2147483648 : Int) ≤ F 0 1 ∧ F 0 1 ≤ 2147483647 := H.krg 0 1 (by decide); rw [show F 0 1 = u0_1 from (eu0_1)] at h1; exact h1
  have r2 : (0 : Int) ≤ n1 ∧ n1 ≤ 1000000 := by have h1 := H.nle 1 (by decide); have h2 : (N 1 : Int) = n1 := en1; omega
  refine Ew_of (pc' := 1) (fun _ => x_aload_n rfl rfl) ?_
  refine v_g H (o := 0) (v := .ref (D 1)) rfl rfl rfl rfl rfl (vrf (pf1)) ?_
  refine Ew_of (pc' := 5) (fun _ => x_astore_n rfl) ?_
  refine Ew_of (pc' := 6) (fun _ => x_iconst rfl) ?_
  refine Ew_of (pc' := 7) (fun _ => x_istore_n rfl) ?_
  refine Ew_of (pc' := 8) (fun _ => x_iconst rfl) ?_
  refine Ew_of (pc' := 9) (fun _ => x_istore_n rfl) ?_
  suffices hl9 : ∀ (m : Nat), ∀ (ls : rO) (σ : rS) (F_9 : hF) (A_9 : hA) (x9_2 : Int) (x9_3 : Int), rlook ls 0 = some (.ref (D 0)) → rlook ls 1 = some (.ref (D 1)) → rlook ls 2 = some (I (x9_2)) → rlook ls 3 = some (I (x9_3)) → HW V33_Row σ D N F_9 A_9 → OUT (V33_Row).length D N σE c s D N σ c s → SF [] F F_9 → SA [] A A_9 → (inr (x9_2)) → (inr (x9_3)) → (0 ≤ (x9_2) ∧ (x9_2) ≤ (u0_1)) → (0 ≤ (x9_3) ∧ (x9_3) ≤ (u0_1) + 1) → ((u0_1) + 2 - (x9_3)).toNat = m → Ew 33 (d + 2) 9 ls [] σ c s Q from
    hl9 _ _ _ _ _ (0) (0) (rk_o (rk_o (rk_o (rfl) rfl rfl) rfl rfl) rfl rfl) (rk_o (rk_o (rk_s) rfl rfl) rfl rfl) (rk_o (rk_s) rfl rfl) (rk_s) H O (SF_refl) (SA_refl)     (show inr (0) by omega) (show inr (0) by omega) (show 0 ≤ (0) ∧ (0) ≤ (u0_1) by omega) (show 0 ≤ (0) ∧ (0) ≤ (u0_1) + 1 by omega) rfl
  as_aux_lemma =>
  intro m
  induction m using Nat.strongRecOn with
  | _ m ih9 =>
    intro ls σ F_9 A_9 x9_2 x9_3 l9_0 l9_1 l9_2 l9_3 H O hS_9 hA_9     j9_0 j9_1 j9_2 j9_3 hm9
    refine Ew_of (pc' := 10) (fun _ => x_iload_n rfl l9_3) ?_
    refine Ew_of (pc' := 11) (fun _ => x_aload_n rfl l9_0) ?_
    refine v_g H (o := 0) (v := I (u0_1)) rfl rfl rfl rfl rfl (congrArg (fun z : Int => I z) (((hS_9 0 1 rfl).trans (eu0_1)) : F_9 0 1 = u0_1)) ?_
    refine w_icmpgt (t := 56) rfl rfl (show inr (x9_3) by omega) (show inr (u0_1) by omega) (fun b3 => ?_) (fun b3 => ?_)
    · refine Ew_of (pc' := 57) (fun _ => x_aload_n rfl l9_0) ?_
      refine v_g H (o := 0) (v := I (u0_1)) rfl rfl rfl rfl rfl (congrArg (fun z : Int => I z) (((hS_9 0 1 rfl).trans (eu0_1)) : F_9 0 1 = u0_1)) ?_
      refine Ew_of (pc' := 61) (fun _ => x_iload_n rfl l9_2) ?_
      refine w_isub rfl ?_
      refine Ew_of (pc' := 63) (fun _ => x_iconst rfl) ?_
      refine w_icmpge (t := 68) rfl rfl (show inr ((u0_1 - x9_2)) by omega) (show inr (4) by omega) (fun b4 => ?_) (fun b4 => ?_)
      · refine Ew_of (pc' := 69) (fun _ => x_aload_n rfl l9_1) ?_
        refine Ew_of (pc' := 70) (fun _ => x_iload_n rfl l9_2) ?_
        refine w_stat24 rfl rfl (by rfl) (C41_Br (D := pul [1] D) (N := pul [1] N) (HW_sub H (VS_of (show vsub V33_Row V41_Br [1] = true by decide +kernel))) (n1) (en1) (show inr (x9_2) by omega) (show 0 ≤ (x9_2) ∧ (x9_2) + 4 ≤ (n1) by omega) (fun z5 σ5 F5' A5' H' O' hS5 hA5 pz5_0 => ⟨rfl, ?_⟩))
        refine v_back (c := c) (s := s) H (show vsub V33_Row V41_Br [1] = true by decide +kernel) H' O' (fun F5 A5 H O' eF5 eA5 => ?_)
        have O := OUT_trans O O'
        -- PackHouse.word
        by_cases b6 : z5 = (-332356553)
        · refine w_lsk 112 rfl (show inr (z5) by omega) b6 rfl rfl ?_
          refine Ew_of (pc' := 113) (fun _ => x_iconst rfl) ?_
          exact w_ireturn rfl (k (5) _ _ _ H O (SF_trans (SF_trans (SF_refl) hS_9 (any_sub rfl)) (SF_glu (ι := [1]) hS5 eF5 (by decide +kernel)) (any_sub (l' := []) rfl)) (SA_trans (SA_trans (SA_refl) hA_9 (any_subA rfl)) (SA_glu (ι := [1]) hA5 eA5 (by decide +kernel)) (any_subA (l' := []) rfl)) (show inr (5) by omega) (show (5) = 0 ∨ (5) = 1 ∨ 3 ≤ (5) ∧ (5) ≤ 5 by omega))
        ·
          by_cases b7 : z5 = (-47205080)
          · refine w_lsk 110 rfl (show inr (z5) by omega) b7 rfl rfl ?_
            refine Ew_of (pc' := 111) (fun _ => x_iconst rfl) ?_
            exact w_ireturn rfl (k (4) _ _ _ H O (SF_trans (SF_trans (SF_refl) hS_9 (any_sub rfl)) (SF_glu (ι := [1]) hS5 eF5 (by decide +kernel)) (any_sub (l' := []) rfl)) (SA_trans (SA_trans (SA_refl) hA_9 (any_subA rfl)) (SA_glu (ι := [1]) hA5 eA5 (by decide +kernel)) (any_subA (l' := []) rfl)) (show inr (4) by omega) (show (4) = 0 ∨ (4) = 1 ∨ 3 ≤ (4) ∧ (4) ≤ 5 by omega))
          ·
            by_cases b8 : z5 = 407708164
            · refine w_lsk 108 rfl (show inr (z5) by omega) b8 rfl rfl ?_
              refine Ew_of (pc' := 109) (fun _ => x_iconst rfl) ?_
              exact w_ireturn rfl (k (1) _ _ _ H O (SF_trans (SF_trans (SF_refl) hS_9 (any_sub rfl)) (SF_glu (ι := [1]) hS5 eF5 (by decide +kernel)) (any_sub (l' := []) rfl)) (SA_trans (SA_trans (SA_refl) hA_9 (any_subA rfl)) (SA_glu (ι := [1]) hA5 eA5 (by decide +kernel)) (any_subA (l' := []) rfl)) (show inr (1) by omega) (show (1) = 0 ∨ (1) = 1 ∨ 3 ≤ (1) ∧ (1) ≤ 5 by omega))
            ·
              refine w_lsd 114 rfl (show inr (z5) by omega) (by intro q hq; simp at hq; rcases hq with rfl | rfl | rfl <;> (first | omega | (simp; omega) | (intro e; simp at e; omega))) rfl ?_
              refine Ew_of (pc' := 115) (fun _ => x_aload_n rfl l9_1) ?_
              refine Ew_of (pc' := 116) (fun _ => x_iload_n rfl l9_2) ?_
              refine Ew_of (pc' := 117) (fun _ => x_aload_n rfl l9_0) ?_
              refine v_g H (o := 0) (v := I (u0_1)) rfl rfl rfl rfl rfl (congrArg (fun z : Int => I z) (((((show F5 0 1 = F_9 0 1 from (eF5 0 1))).trans (hS_9 0 1 rfl)).trans (eu0_1)) : F5 0 1 = u0_1)) ?_
              refine w_stat24 rfl rfl (by rfl) (C192_Br (D := pul [1] D) (N := pul [1] N) (HW_sub H (VS_of (show vsub V33_Row V192_Br [1] = true by decide +kernel))) (STC_out HT HE O) (n1) (en1) (show inr (x9_2) by omega) (show inr (u0_1) by omega) (show 0 ≤ (x9_2) ∧ 0 ≤ (u0_1) ∧ (u0_1) ≤ (n1) ∧ (n1) ≤ 65536 ∧ (x9_2) ≤ 200000 by omega) (fun z9 σ9 F9' A9' H' O' hS9 hA9 pz9_0 => ⟨rretB rfl pz9_0, ?_⟩))
              refine v_back (c := c) (s := s) H (show vsub V33_Row V192_Br [1] = true by decide +kernel) H' O' (fun F9 A9 H O' eF9 eA9 => ?_)
              have O := OUT_trans O O'
              -- Tags.isMark
              refine w_ifeq (t := 130) rfl rfl (show inr (z9) by omega) (fun b10 => ?_) (fun b10 => ?_)
              · refine Ew_of (pc' := 131) (fun _ => x_iconst rfl) ?_
                exact w_ireturn rfl (k (0) _ _ _ H O (SF_trans (SF_trans (SF_trans (SF_refl) hS_9 (any_sub rfl)) (SF_glu (ι := [1]) hS5 eF5 (by decide +kernel)) (any_sub (l' := []) rfl)) (SF_glu (ι := [1]) hS9 eF9 (by decide +kernel)) (any_sub (l' := []) rfl)) (SA_trans (SA_trans (SA_trans (SA_refl) hA_9 (any_subA rfl)) (SA_glu (ι := [1]) hA5 eA5 (by decide +kernel)) (any_subA (l' := []) rfl)) (SA_glu (ι := [1]) hA9 eA9 (by decide +kernel)) (any_subA (l' := []) rfl)) (show inr (0) by omega) (show (0) = 0 ∨ (0) = 1 ∨ 3 ≤ (0) ∧ (0) ≤ 5 by omega))
              · refine Ew_of (pc' := 127) (fun _ => x_iconst rfl) ?_
                refine Ew_of (pc' := 131) (fun _ => x_goto rfl rfl) ?_
                exact w_ireturn rfl (k (3) _ _ _ H O (SF_trans (SF_trans (SF_trans (SF_refl) hS_9 (any_sub rfl)) (SF_glu (ι := [1]) hS5 eF5 (by decide +kernel)) (any_sub (l' := []) rfl)) (SF_glu (ι := [1]) hS9 eF9 (by decide +kernel)) (any_sub (l' := []) rfl)) (SA_trans (SA_trans (SA_trans (SA_refl) hA_9 (any_subA rfl)) (SA_glu (ι := [1]) hA5 eA5 (by decide +kernel)) (any_subA (l' := []) rfl)) (SA_glu (ι := [1]) hA9 eA9 (by decide +kernel)) (any_subA (l' := []) rfl)) (show inr (3) by omega) (show (3) = 0 ∨ (3) = 1 ∨ 3 ≤ (3) ∧ (3) ≤ 5 by omega))
      · refine Ew_of (pc' := 67) (fun _ => x_iconst rfl) ?_
        exact w_ireturn rfl (k (0) _ _ _ H O (SF_trans (SF_refl) hS_9 (any_sub rfl)) (SA_trans (SA_refl) hA_9 (any_subA rfl)) (show inr (0) by omega) (show (0) = 0 ∨ (0) = 1 ∨ 3 ≤ (0) ∧ (0) ≤ 5 by omega))
    · refine Ew_of (pc' := 18) (fun _ => x_aload_n rfl l9_1) ?_
      refine Ew_of (pc' := 19) (fun _ => x_iload_n rfl l9_2) ?_
      refine Ew_of (pc' := 20) (fun _ => x_aload_n rfl l9_0) ?_
      refine v_g H (o := 0) (v := I (u0_1)) rfl rfl rfl rfl rfl (congrArg (fun z : Int => I z) (((hS_9 0 1 rfl).trans (eu0_1)) : F_9 0 1 = u0_1)) ?_
      refine w_stat24 rfl rfl (by rfl) (C43_Br (D := pul [1] D) (N := pul [1] N) (HW_sub H (VS_of (show vsub V33_Row V43_Br [1] = true by decide +kernel))) (n1) (en1) (show inr (x9_2) by omega) (show inr (u0_1) by omega) (show 0 ≤ (x9_2) ∧ 0 ≤ (u0_1) ∧ (u0_1) ≤ (n1) ∧ (n1) ≤ 65536 ∧ (x9_2) ≤ 200000 by omega) (fun z11 σ11 F11' A11' H' O' hS11 hA11 pz11_0 pz11_1 => ⟨rretB rfl pz11_0, ?_⟩))
      refine v_back (c := c) (s := s) H (show vsub V33_Row V43_Br [1] = true by decide +kernel) H' O' (fun F11 A11 H O' eF11 eA11 => ?_)
      have O := OUT_trans O O'
      -- PackHouse.isSpare
      refine w_ifeq (t := 56) rfl rfl (show inr (z11) by omega) (fun b12 => ?_) (fun b12 => ?_)
      · refine Ew_of (pc' := 57) (fun _ => x_aload_n rfl l9_0) ?_
        refine v_g H (o := 0) (v := I (u0_1)) rfl rfl rfl rfl rfl (congrArg (fun z : Int => I z) (((((show F11 0 1 = F_9 0 1 from (eF11 0 1))).trans (hS_9 0 1 rfl)).trans (eu0_1)) : F11 0 1 = u0_1)) ?_
        refine Ew_of (pc' := 61) (fun _ => x_iload_n rfl l9_2) ?_
        refine w_isub rfl ?_
        refine Ew_of (pc' := 63) (fun _ => x_iconst rfl) ?_
        refine w_icmpge (t := 68) rfl rfl (show inr ((u0_1 - x9_2)) by omega) (show inr (4) by omega) (fun b13 => ?_) (fun b13 => ?_)
        · refine Ew_of (pc' := 69) (fun _ => x_aload_n rfl l9_1) ?_
          refine Ew_of (pc' := 70) (fun _ => x_iload_n rfl l9_2) ?_
          refine w_stat24 rfl rfl (by rfl) (C41_Br (D := pul [1] D) (N := pul [1] N) (HW_sub H (VS_of (show vsub V33_Row V41_Br [1] = true by decide +kernel))) (n1) (en1) (show inr (x9_2) by omega) (show 0 ≤ (x9_2) ∧ (x9_2) + 4 ≤ (n1) by omega) (fun z14 σ14 F14' A14' H' O' hS14 hA14 pz14_0 => ⟨rfl, ?_⟩))
          refine v_back (c := c) (s := s) H (show vsub V33_Row V41_Br [1] = true by decide +kernel) H' O' (fun F14 A14 H O' eF14 eA14 => ?_)
          have O := OUT_trans O O'
          -- PackHouse.word
          by_cases b15 : z14 = (-332356553)
          · refine w_lsk 112 rfl (show inr (z14) by omega) b15 rfl rfl ?_
            refine Ew_of (pc' := 113) (fun _ => x_iconst rfl) ?_
            exact w_ireturn rfl (k (5) _ _ _ H O (SF_trans (SF_trans (SF_trans (SF_refl) hS_9 (any_sub rfl)) (SF_glu (ι := [1]) hS11 eF11 (by decide +kernel)) (any_sub (l' := []) rfl)) (SF_glu (ι := [1]) hS14 eF14 (by decide +kernel)) (any_sub (l' := []) rfl)) (SA_trans (SA_trans (SA_trans (SA_refl) hA_9 (any_subA rfl)) (SA_glu (ι := [1]) hA11 eA11 (by decide +kernel)) (any_subA (l' := []) rfl)) (SA_glu (ι := [1]) hA14 eA14 (by decide +kernel)) (any_subA (l' := []) rfl)) (show inr (5) by omega) (show (5) = 0 ∨ (5) = 1 ∨ 3 ≤ (5) ∧ (5) ≤ 5 by omega))
          ·
            by_cases b16 : z14 = (-47205080)
            · refine w_lsk 110 rfl (show inr (z14) by omega) b16 rfl rfl ?_
              refine Ew_of (pc' := 111) (fun _ => x_iconst rfl) ?_
              exact w_ireturn rfl (k (4) _ _ _ H O (SF_trans (SF_trans (SF_trans (SF_refl) hS_9 (any_sub rfl)) (SF_glu (ι := [1]) hS11 eF11 (by decide +kernel)) (any_sub (l' := []) rfl)) (SF_glu (ι := [1]) hS14 eF14 (by decide +kernel)) (any_sub (l' := []) rfl)) (SA_trans (SA_trans (SA_trans (SA_refl) hA_9 (any_subA rfl)) (SA_glu (ι := [1]) hA11 eA11 (by decide +kernel)) (any_subA (l' := []) rfl)) (SA_glu (ι := [1]) hA14 eA14 (by decide +kernel)) (any_subA (l' := []) rfl)) (show inr (4) by omega) (show (4) = 0 ∨ (4) = 1 ∨ 3 ≤ (4) ∧ (4) ≤ 5 by omega))
            ·
              by_cases b17 : z14 = 407708164
              · refine w_lsk 108 rfl (show inr (z14) by omega) b17 rfl rfl ?_
                refine Ew_of (pc' := 109) (fun _ => x_iconst rfl) ?_
                exact w_ireturn rfl (k (1) _ _ _ H O (SF_trans (SF_trans (SF_trans (SF_refl) hS_9 (any_sub rfl)) (SF_glu (ι := [1]) hS11 eF11 (by decide +kernel)) (any_sub (l' := []) rfl)) (SF_glu (ι := [1]) hS14 eF14 (by decide +kernel)) (any_sub (l' := []) rfl)) (SA_trans (SA_trans (SA_trans (SA_refl) hA_9 (any_subA rfl)) (SA_glu (ι := [1]) hA11 eA11 (by decide +kernel)) (any_subA (l' := []) rfl)) (SA_glu (ι := [1]) hA14 eA14 (by decide +kernel)) (any_subA (l' := []) rfl)) (show inr (1) by omega) (show (1) = 0 ∨ (1) = 1 ∨ 3 ≤ (1) ∧ (1) ≤ 5 by omega))
              ·
                refine w_lsd 114 rfl (show inr (z14) by omega) (by intro q hq; simp at hq; rcases hq with rfl | rfl | rfl <;> (first | omega | (simp; omega) | (intro e; simp at e; omega))) rfl ?_
                refine Ew_of (pc' := 115) (fun _ => x_aload_n rfl l9_1) ?_
                refine Ew_of (pc' := 116) (fun _ => x_iload_n rfl l9_2) ?_
                refine Ew_of (pc' := 117) (fun _ => x_aload_n rfl l9_0) ?_
                refine v_g H (o := 0) (v := I (u0_1)) rfl rfl rfl rfl rfl (congrArg (fun z : Int => I z) ((((((show F14 0 1 = F11 0 1 from (eF14 0 1))).trans ((show F11 0 1 = F_9 0 1 from (eF11 0 1)))).trans (hS_9 0 1 rfl)).trans (eu0_1)) : F14 0 1 = u0_1)) ?_
                refine w_stat24 rfl rfl (by rfl) (C192_Br (D := pul [1] D) (N := pul [1] N) (HW_sub H (VS_of (show vsub V33_Row V192_Br [1] = true by decide +kernel))) (STC_out HT HE O) (n1) (en1) (show inr (x9_2) by omega) (show inr (u0_1) by omega) (show 0 ≤ (x9_2) ∧ 0 ≤ (u0_1) ∧ (u0_1) ≤ (n1) ∧ (n1) ≤ 65536 ∧ (x9_2) ≤ 200000 by omega) (fun z18 σ18 F18' A18' H' O' hS18 hA18 pz18_0 => ⟨rretB rfl pz18_0, ?_⟩))
                refine v_back (c := c) (s := s) H (show vsub V33_Row V192_Br [1] = true by decide +kernel) H' O' (fun F18 A18 H O' eF18 eA18 => ?_)
                have O := OUT_trans O O'
                -- Tags.isMark
                refine w_ifeq (t := 130) rfl rfl (show inr (z18) by omega) (fun b19 => ?_) (fun b19 => ?_)
                · refine Ew_of (pc' := 131) (fun _ => x_iconst rfl) ?_
                  exact w_ireturn rfl (k (0) _ _ _ H O (SF_trans (SF_trans (SF_trans (SF_trans (SF_refl) hS_9 (any_sub rfl)) (SF_glu (ι := [1]) hS11 eF11 (by decide +kernel)) (any_sub (l' := []) rfl)) (SF_glu (ι := [1]) hS14 eF14 (by decide +kernel)) (any_sub (l' := []) rfl)) (SF_glu (ι := [1]) hS18 eF18 (by decide +kernel)) (any_sub (l' := []) rfl)) (SA_trans (SA_trans (SA_trans (SA_trans (SA_refl) hA_9 (any_subA rfl)) (SA_glu (ι := [1]) hA11 eA11 (by decide +kernel)) (any_subA (l' := []) rfl)) (SA_glu (ι := [1]) hA14 eA14 (by decide +kernel)) (any_subA (l' := []) rfl)) (SA_glu (ι := [1]) hA18 eA18 (by decide +kernel)) (any_subA (l' := []) rfl)) (show inr (0) by omega) (show (0) = 0 ∨ (0) = 1 ∨ 3 ≤ (0) ∧ (0) ≤ 5 by omega))
                · refine Ew_of (pc' := 127) (fun _ => x_iconst rfl) ?_
                  refine Ew_of (pc' := 131) (fun _ => x_goto rfl rfl) ?_
                  exact w_ireturn rfl (k (3) _ _ _ H O (SF_trans (SF_trans (SF_trans (SF_trans (SF_refl) hS_9 (any_sub rfl)) (SF_glu (ι := [1]) hS11 eF11 (by decide +kernel)) (any_sub (l' := []) rfl)) (SF_glu (ι := [1]) hS14 eF14 (by decide +kernel)) (any_sub (l' := []) rfl)) (SF_glu (ι := [1]) hS18 eF18 (by decide +kernel)) (any_sub (l' := []) rfl)) (SA_trans (SA_trans (SA_trans (SA_trans (SA_refl) hA_9 (any_subA rfl)) (SA_glu (ι := [1]) hA11 eA11 (by decide +kernel)) (any_subA (l' := []) rfl)) (SA_glu (ι := [1]) hA14 eA14 (by decide +kernel)) (any_subA (l' := []) rfl)) (SA_glu (ι := [1]) hA18 eA18 (by decide +kernel)) (any_subA (l' := []) rfl)) (show inr (3) by omega) (show (3) = 0 ∨ (3) = 1 ∨ 3 ≤ (3) ∧ (3) ≤ 5 by omega))
        · refine Ew_of (pc' := 67) (fun _ => x_iconst rfl) ?_
          exact w_ireturn rfl (k (0) _ _ _ H O (SF_trans (SF_trans (SF_refl) hS_9 (any_sub rfl)) (SF_glu (ι := [1]) hS11 eF11 (by decide +kernel)) (any_sub (l' := []) rfl)) (SA_trans (SA_trans (SA_refl) hA_9 (any_subA rfl)) (SA_glu (ι := [1]) hA11 eA11 (by decide +kernel)) (any_subA (l' := []) rfl)) (show inr (0) by omega) (show (0) = 0 ∨ (0) = 1 ∨ 3 ≤ (0) ∧ (0) ≤ 5 by omega))
      · refine Ew_of (pc' := 30) (fun _ => x_aload_n rfl l9_1) ?_
        refine Ew_of (pc' := 31) (fun _ => x_iload_n rfl l9_2) ?_
        refine Ew_of (pc' := 32) (fun _ => x_aload_n rfl l9_0) ?_
        refine v_g H (o := 0) (v := I (u0_1)) rfl rfl rfl rfl rfl (congrArg (fun z : Int => I z) (((((show F11 0 1 = F_9 0 1 from (eF11 0 1))).trans (hS_9 0 1 rfl)).trans (eu0_1)) : F11 0 1 = u0_1)) ?_
        refine w_stat24 rfl rfl (by rfl) (C44_Br (D := pul [1] D) (N := pul [1] N) (HW_sub H (VS_of (show vsub V33_Row V44_Br [1] = true by decide +kernel))) (n1) (en1) (show inr (x9_2) by omega) (show inr (u0_1) by omega) (show 0 ≤ (x9_2) ∧ 0 ≤ (u0_1) ∧ (u0_1) ≤ (n1) ∧ (n1) ≤ 65536 ∧ (x9_2) ≤ 200000 by omega) (fun z20 σ20 F20' A20' H' O' hS20 hA20 pz20_0 pz20_1 => ⟨rfl, ?_⟩))
        refine v_back (c := c) (s := s) H (show vsub V33_Row V44_Br [1] = true by decide +kernel) H' O' (fun F20 A20 H O' eF20 eA20 => ?_)
        have O := OUT_trans O O'
        -- PackHouse.afterSpare
        refine Ew_of (pc' := 40) (fun _ => x_istore rfl) ?_
        refine Ew_of (pc' := 42) (fun _ => x_iload rfl rk_s) ?_
        refine w_ifge (t := 47) rfl rfl (show inr (z20) by omega) (fun b21 => ?_) (fun b21 => ?_)
        · refine Ew_of (pc' := 49) (fun _ => x_iload rfl rk_s) ?_
          refine Ew_of (pc' := 50) (fun _ => x_istore_n rfl) ?_
          refine Ew_of (pc' := 53) (fun _ => x_iinc (len := 3) rfl (rk_o (rk_o (l9_3) rfl rfl) rfl rfl)) ?_
          refine Ew_of (pc' := 9) (fun _ => x_goto rfl rfl) ?_
          exact ih9 _ (by omega) _ _ _ _ (z20) ((x9_3 + 1)) (rk_o (rk_o (rk_o (l9_0) rfl rfl) rfl rfl) rfl rfl) (rk_o (rk_o (rk_o (l9_1) rfl rfl) rfl rfl) rfl rfl) (rk_o (rk_s) rfl rfl) (rk_s) H O (SF_trans (SF_trans (hS_9) (SF_glu (ι := [1]) hS11 eF11 (by decide +kernel)) (any_sub (l' := []) rfl)) (SF_glu (ι := [1]) hS20 eF20 (by decide +kernel)) (any_sub (l' := []) rfl)) (SA_trans (SA_trans (hA_9) (SA_glu (ι := [1]) hA11 eA11 (by decide +kernel)) (any_subA (l' := []) rfl)) (SA_glu (ι := [1]) hA20 eA20 (by decide +kernel)) (any_subA (l' := []) rfl))     (show inr (z20) by omega) (show inr ((x9_3 + 1)) by omega) (show 0 ≤ (z20) ∧ (z20) ≤ (u0_1) by omega) (show 0 ≤ ((x9_3 + 1)) ∧ ((x9_3 + 1)) ≤ (u0_1) + 1 by omega) rfl
        · refine Ew_of (pc' := 46) (fun _ => x_iconst rfl) ?_
          exact w_ireturn rfl (k (0) _ _ _ H O (SF_trans (SF_trans (SF_trans (SF_refl) hS_9 (any_sub rfl)) (SF_glu (ι := [1]) hS11 eF11 (by decide +kernel)) (any_sub (l' := []) rfl)) (SF_glu (ι := [1]) hS20 eF20 (by decide +kernel)) (any_sub (l' := []) rfl)) (SA_trans (SA_trans (SA_trans (SA_refl) hA_9 (any_subA rfl)) (SA_glu (ι := [1]) hA11 eA11 (by decide +kernel)) (any_subA (l' := []) rfl)) (SA_glu (ι := [1]) hA20 eA20 (by decide +kernel)) (any_subA (l' := []) rfl)) (show inr (0) by omega) (show (0) = 0 ∨ (0) = 1 ∨ 3 ≤ (0) ∧ (0) ≤ 5 by omega))
