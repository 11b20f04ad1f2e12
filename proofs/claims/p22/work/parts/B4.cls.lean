abbrev V43_Br : vV := [(1, 0, [])]
theorem len_V43_Br_oz_B4cls : (V43_Br).length = 1 := by decide +kernel
theorem oz_B4cls_1 : vsub V43_Br V41_Br [0] = true := by decide +kernel
def oz_B4clsl_0 : List (Nat × Nat) := []
theorem oz_B4cls_2 : (oz_B4clsl_0).all (fun p => !tbz 0 (Nat.add (Nat.mul 32 p.1) p.2)) = true := by decide +kernel
def oz_B4clsl_1 : List Nat := []
theorem oz_B4cls_3 : (oz_B4clsl_1).all (fun p => !tbz 0 p) = true := by decide +kernel
def oz_B4clsl_2 : List Nat := [0]
theorem oz_B4cls_4 : okc oz_B4clsl_2 0 = true := by decide +kernel
/-- PackHouse.isSpare: #1 -/
theorem C43_Br {σE : rS} {D N : Nat → Nat} {F : hF} {A : hA} {d c s : Nat} {Q : wQ} (H : HW V43_Br σE D N F A) {a2 a3 : Int} (n0 : Int) (en0 : (N 0 : Int) = n0) (h0 : inr (a2)) (h1 : inr (a3)) (h2 : 0 ≤ (a2) ∧ 0 ≤ (a3) ∧ (a3) ≤ (n0) ∧ (n0) ≤ 65536 ∧ (a2) ≤ 200000) (k : ∀ (z : Int) (σ : rS) (Fₚ : hF) (Aₚ : hA), HW V43_Br σ D N Fₚ Aₚ → OUT (V43_Br).length D N σE c s D N σ c s → SF [] F Fₚ → SA [] A Aₚ → ((z) = 0 ∨ (z) = 1) → ((z) = 1 → (a2) + 4 ≤ (a3)) → Q (some (I z)) σ c s) : Ew 43 (d + 1) 0 (rargs 0 [.ref (D 0), I a2, I a3]) [] σE c s Q := by
  have O := OUT_refl (n := (V43_Br).length) (D := D) (N := N) (σ := σE) (c := c) (s := s)
  have HE := H
  have r1 : (0 : Int) ≤ n0 ∧ n0 ≤ 1000000 := nleE (H.nle 0 (ltn len_V43_Br_oz_B4cls rfl)) (show (N 0 : Int) = n0 from en0)
  refine Ew_of (pcₚ := 1) (fun _ => x_iload_n rfl rfl) ?_
  refine Ew_of (pcₚ := 2) (fun _ => x_iload_n rfl rfl) ?_
  refine w_isub rfl ?_
  refine Ew_of (pcₚ := 4) (fun _ => x_iconst rfl) ?_
  refine w_icmplt (t := 25) rfl rfl (show inr ((a3 - a2)) from q_2557 h2) (show inr (4) from q_2) (fun b2 => ?_) (fun b2 => ?_)
  · refine Ew_of (pcₚ := 26) (fun _ => x_iconst rfl) ?_
    exact w_ireturn rfl (k (0) _ _ _ H O (SF_refl) (SA_refl) (show (0) = 0 ∨ (0) = 1 by first | exact q_1 | omega) (show (0) = 1 → a2 + 4 ≤ a3 by first | exact q_2558 h2 | omega))
  · refine Ew_of (pcₚ := 8) (fun _ => x_aload_n rfl rfl) ?_
    refine Ew_of (pcₚ := 9) (fun _ => x_iload_n rfl rfl) ?_
    refine w_stat24 rfl rfl (by rfl) (C41_Br (D := puc 0 D) (N := puc 0 N) (HW_subc H oz_B4cls_1 oz_B4cls_4) (n0) (en0) (show inr (a2) from h0) (show 0 ≤ (a2) ∧ (a2) + 4 ≤ (n0) from q_2559 b2 h2) (fun z3 σ3 F3ₚ A3ₚ Hₚ Oₚ hS3 hA3 pz3_0 => ⟨rfl, ?_⟩))
    refine v_backc (c := c) (s := s) H oz_B4cls_1 oz_B4cls_4 Hₚ Oₚ (fun F3 A3 H Oₚ eF3 eA3 => ?_)
    have O := OUT_trans O Oₚ
    -- PackHouse.word
    have cF3 : SF oz_B4clsl_0 F F3 := SF_trans (SF_refl) (SF_gluc (ι := oz_B4clsl_2) oz_B4cls_4 hS3 eF3 (by decide +kernel)) (any_sub (lₚ := []) (by decide +kernel))
    have mF3 := SFm_of cF3 oz_B4cls_2
    have cA3 : SA oz_B4clsl_1 A A3 := SA_trans (SA_refl) (SA_gluc (ι := oz_B4clsl_2) oz_B4cls_4 hA3 eA3 (by decide +kernel)) (any_subA (lₚ := []) (by decide +kernel))
    have mA3 := SAm_of cA3 oz_B4cls_3
    refine Ew_of (pcₚ := 14) (fun _ => x_bipush (z := -16) rfl (by decide)) ?_
    refine w_iand rfl (show inr (z3) from pz3_0) (show inr ((-16)) from q_2560) (fun z4 gz4 gaz4 gbz4 => ?_)
    refine Ew_of (pcₚ := 18) (fun _ => x_ldc_w (z := 407710288) rfl (by decide)) ?_
    refine w_icmpne (t := 25) rfl rfl (show inr (z4) from gz4) (show inr (407710288) from q_2561) (fun b5 => ?_) (fun b5 => ?_)
    · refine Ew_of (pcₚ := 26) (fun _ => x_iconst rfl) ?_
      exact w_ireturn rfl (k (0) _ _ _ H O (cF3) (cA3) (show (0) = 0 ∨ (0) = 1 by first | exact q_1 | omega) (show (0) = 1 → a2 + 4 ≤ a3 by first | exact q_2562 b2 | omega))
    · refine Ew_of (pcₚ := 22) (fun _ => x_iconst rfl) ?_
      refine Ew_of (pcₚ := 26) (fun _ => x_goto rfl rfl) ?_
      exact w_ireturn rfl (k (1) _ _ _ H O (cF3) (cA3) (show (1) = 0 ∨ (1) = 1 by first | exact q_5 | omega) (show (1) = 1 → a2 + 4 ≤ a3 by first | exact q_2563 b2 | omega))
abbrev V44_Br : vV := [(1, 0, [])]
theorem len_V44_Br_oz_B4cls : (V44_Br).length = 1 := by decide +kernel
theorem oz_B4cls_6 : vsub V44_Br V42_Br [0] = true := by decide +kernel
/-- PackHouse.afterSpare: #1 -/
theorem C44_Br {σE : rS} {D N : Nat → Nat} {F : hF} {A : hA} {d c s : Nat} {Q : wQ} (H : HW V44_Br σE D N F A) {a2 a3 : Int} (n0 : Int) (en0 : (N 0 : Int) = n0) (h0 : inr (a2)) (h1 : inr (a3)) (h2 : 0 ≤ (a2) ∧ 0 ≤ (a3) ∧ (a3) ≤ (n0) ∧ (n0) ≤ 65536 ∧ (a2) ≤ 200000) (k : ∀ (z : Int) (σ : rS) (Fₚ : hF) (Aₚ : hA), HW V44_Br σ D N Fₚ Aₚ → OUT (V44_Br).length D N σE c s D N σ c s → SF [] F Fₚ → SA [] A Aₚ → (inr (z)) → ((z) = -1 ∨ (a2) + 8 ≤ (z) ∧ (z) ≤ (a3)) → Q (some (I z)) σ c s) : Ew 44 (d + 1) 0 (rargs 0 [.ref (D 0), I a2, I a3]) [] σE c s Q := by
  have O := OUT_refl (n := (V44_Br).length) (D := D) (N := N) (σ := σE) (c := c) (s := s)
  have HE := H
  have r1 : (0 : Int) ≤ n0 ∧ n0 ≤ 1000000 := nleE (H.nle 0 (ltn len_V44_Br_oz_B4cls rfl)) (show (N 0 : Int) = n0 from en0)
  refine Ew_of (pcₚ := 1) (fun _ => x_iload_n rfl rfl) ?_
  refine Ew_of (pcₚ := 2) (fun _ => x_iload_n rfl rfl) ?_
  refine w_isub rfl ?_
  refine Ew_of (pcₚ := 5) (fun _ => x_bipush (z := 8) rfl (by decide)) ?_
  refine w_icmpge (t := 10) rfl rfl (show inr ((a3 - a2)) from q_2557 h2) (show inr (8) from q_96) (fun b2 => ?_) (fun b2 => ?_)
  · refine Ew_of (pcₚ := 11) (fun _ => x_iload_n rfl rfl) ?_
    refine Ew_of (pcₚ := 13) (fun _ => x_bipush (z := 8) rfl (by decide)) ?_
    refine w_iadd rfl ?_
    refine w_i2l rfl (show inr ((a2 + 8)) from q_2564 h2) ?_
    refine Ew_of (pcₚ := 16) (fun _ => x_aload_n rfl rfl) ?_
    refine Ew_of (pcₚ := 17) (fun _ => x_iload_n rfl rfl) ?_
    refine Ew_of (pcₚ := 18) (fun _ => x_iconst rfl) ?_
    refine w_iadd rfl ?_
    refine Ew_of (pcₚ := 20) (fun _ => x_iconst rfl) ?_
    refine w_stat24 rfl rfl (by rfl) (C42_Br (D := puc 0 D) (N := puc 0 N) (HW_subc H oz_B4cls_6 oz_B4cls_4) (n0) (en0) (show inr ((a2 + 4)) from q_2567 h2) (show inr (4) from q_2) (show (4) ≤ 0 ∨ 0 ≤ ((a2 + 4)) ∧ ((a2 + 4)) + (4) ≤ (n0) from q_2566 b2 h2) (show 0 ≤ (4) from q_2565) (fun z3 σ3 F3ₚ A3ₚ Hₚ Oₚ hS3 hA3 pz3_0 pz3_1 => ⟨rfl, ?_⟩))
    refine v_backc (c := c) (s := s) H oz_B4cls_6 oz_B4cls_4 Hₚ Oₚ (fun F3 A3 H Oₚ eF3 eA3 => ?_)
    have O := OUT_trans O Oₚ
    -- PackHouse.number
    have cF3 : SF oz_B4clsl_0 F F3 := SF_trans (SF_refl) (SF_gluc (ι := oz_B4clsl_2) oz_B4cls_4 hS3 eF3 (by decide +kernel)) (any_sub (lₚ := []) (by decide +kernel))
    have mF3 := SFm_of cF3 oz_B4cls_2
    have cA3 : SA oz_B4clsl_1 A A3 := SA_trans (SA_refl) (SA_gluc (ι := oz_B4clsl_2) oz_B4cls_4 hA3 eA3 (by decide +kernel)) (any_subA (lₚ := []) (by decide +kernel))
    have mA3 := SAm_of cA3 oz_B4cls_3
    have hnb := nb4 pz3_1
    refine w_ladd rfl ?_
    refine Ew_of (pcₚ := 25) (fun _ => x_lstore_n rfl) ?_
    refine Ew_of (pcₚ := 26) (fun _ => x_lload_n rfl rk2_s) ?_
    refine Ew_of (pcₚ := 27) (fun _ => x_iload_n rfl (rk2_o (rfl) rfl rfl)) ?_
    refine w_i2l rfl (show inr (a3) from h1) ?_
    refine w_lcmp rfl (show inrJ (((a2 + 8) + z3)) by omega) (show inrJ (a3) from q_2568 h2) (fun z4 gz4 gaz4 gbz4 => ?_)
    refine w_ifle (t := 36) rfl rfl (show inr (z4) from gz4) (fun b5 => ?_) (fun b5 => ?_)
    · refine Ew_of (pcₚ := 37) (fun _ => x_lload_n rfl rk2_s) ?_
      refine w_l2i rfl ?_
      exact w_ireturn rfl (k (((a2 + 8) + z3)) _ _ _ H O (cF3) (cA3) (show inr (((a2 + 8) + z3)) by omega) (show (((a2 + 8) + z3)) = -1 ∨ a2 + 8 ≤ (((a2 + 8) + z3)) ∧ (((a2 + 8) + z3)) ≤ a3 by omega))
    · refine Ew_of (pcₚ := 33) (fun _ => x_iconst rfl) ?_
      refine Ew_of (pcₚ := 38) (fun _ => x_goto rfl rfl) ?_
      exact w_ireturn rfl (k ((-1)) _ _ _ H O (cF3) (cA3) (show inr ((-1)) from q_16) (show ((-1)) = -1 ∨ a2 + 8 ≤ ((-1)) ∧ ((-1)) ≤ a3 by first | exact q_2569 | omega))
  · refine Ew_of (pcₚ := 9) (fun _ => x_iconst rfl) ?_
    exact w_ireturn rfl (k ((-1)) _ _ _ H O (SF_refl) (SA_refl) (show inr ((-1)) from q_16) (show ((-1)) = -1 ∨ a2 + 8 ≤ ((-1)) ∧ ((-1)) ≤ a3 by first | exact q_2569 | omega))
abbrev V45 : vV := []
theorem len_V45_oz_B4cls : (V45).length = 0 := by decide +kernel
/-- PackHouse.highestBit:  -/
theorem C45 {σE : rS} {D N : Nat → Nat} {F : hF} {A : hA} {d c s : Nat} {Q : wQ} (H : HW V45 σE D N F A) {a1 : Int} (h0 : inr (a1)) (h1 : 1 ≤ (a1)) (k : ∀ (z : Int) (σ : rS) (Fₚ : hF) (Aₚ : hA), HW V45 σ D N Fₚ Aₚ → OUT (V45).length D N σE c s D N σ c s → SF [] F Fₚ → SA [] A Aₚ → (inr (z)) → (0 ≤ (z) ∧ (z) ≤ 30) → (p2 (z) ≤ (a1) ∧ (a1) < 2 * p2 (z)) → Q (some (I z)) σ c s) : Ew 45 (d + 0) 0 (rargs 0 [I a1]) [] σE c s Q := by
  have O := OUT_refl (n := (V45).length) (D := D) (N := N) (σ := σE) (c := c) (s := s)
  have HE := H
  refine Ew_of (pcₚ := 1) (fun _ => x_iconst rfl) ?_
  refine Ew_of (pcₚ := 2) (fun _ => x_istore_n rfl) ?_
  refine Ew_of (pcₚ := 3) (fun _ => x_iload_n rfl (rk_o (rfl) rfl rfl)) ?_
  refine Ew_of (pcₚ := 4) (fun _ => x_iconst rfl) ?_
  refine w_ishrK 1 2 (by decide) (by decide) rfl (show inr (a1) from h0) (fun z1 gz1 dz1 => ?_)
  have h0 := HI_s (HI_0 (a := (a1))) (by omega) (by omega) (by omega)
  have : HI ((a1)) 0 ((z1)) := by have e : (z1) = (a1) / 2 := (by omega); rw [e]; exact h0.1
  refine Ew_of (pcₚ := 6) (fun _ => x_istore_n rfl) ?_
  suffices hl6 : ∀ (m : Nat), ∀ (ls : rO) (σ : rS) (F_6 : hF) (A_6 : hA) (x6_1 : Int) (x6_2 : Int), rlook ls 1 = some (I (x6_1)) → rlook ls 2 = some (I (x6_2)) → HW V45 σ D N F_6 A_6 → OUT (V45).length D N σE c s D N σ c s → SF [] F F_6 → SA [] A A_6 → (inr (x6_1)) → (inr (x6_2)) → (0 ≤ (x6_1) ∧ (x6_1) ≤ 30) → (0 ≤ (x6_2)) → (HI ((a1)) ((x6_1)) ((x6_2))) → ((x6_2)).toNat = m → Ew 45 (d + 0) 6 ls [] σ c s Q from
    hl6 _ _ _ _ _ (0) (z1) (rk_o (rk_s) rfl rfl) (rk_s) H O (SF_refl) (SA_refl)     (show inr (0) from q_20) (show inr (z1) from gz1) (show 0 ≤ (0) ∧ (0) ≤ 30 from q_1768) (show 0 ≤ (z1) by omega) (show HI ((a1)) ((0)) ((z1)) by assumption) rfl
  as_aux_lemma =>
  intro m
  induction m using Nat.strongRecOn with
  | _ m ih6 =>
    intro ls σ F_6 A_6 x6_1 x6_2 l6_1 l6_2 H O hS_6 hA_6     j6_0 j6_1 j6_2 j6_3 j6_4 hm6
    have cF_6 : SF oz_B4clsl_0 F F_6 := SF_trans (SF_refl) hS_6 (any_sub (by decide +kernel))
    have mF_6 := SFm_of cF_6 oz_B4cls_2
    have cA_6 : SA oz_B4clsl_1 A A_6 := SA_trans (SA_refl) hA_6 (any_subA (by decide +kernel))
    have mA_6 := SAm_of cA_6 oz_B4cls_3
    refine Ew_of (pcₚ := 7) (fun _ => x_iload_n rfl l6_2) ?_
    refine w_ifle (t := 20) rfl rfl (show inr (x6_2) from j6_1) (fun b2 => ?_) (fun b2 => ?_)
    · have h2 := HI_end (show HI ((a1)) ((x6_1)) ((x6_2)) from j6_4) (by omega) (by omega) (by omega)
      refine Ew_of (pcₚ := 21) (fun _ => x_iload_n rfl l6_1) ?_
      exact w_ireturn rfl (k (x6_1) _ _ _ H O (cF_6) (cA_6) (show inr (x6_1) from j6_0) (show 0 ≤ (x6_1) ∧ (x6_1) ≤ 30 from j6_2) (show p2 (x6_1) ≤ a1 ∧ a1 < 2 * p2 (x6_1) by omega))
    · refine Ew_of (pcₚ := 13) (fun _ => x_iinc (len := 3) rfl (l6_1)) ?_
      refine Ew_of (pcₚ := 14) (fun _ => x_iload_n rfl (rk_o (l6_2) rfl rfl)) ?_
      refine Ew_of (pcₚ := 15) (fun _ => x_iconst rfl) ?_
      refine w_ishrK 1 2 (by decide) (by decide) rfl (show inr (x6_2) from j6_1) (fun z3 gz3 dz3 => ?_)
      have h1 := HI_s (show HI ((a1)) _ ((x6_2)) from by assumption) (by omega) (by omega) (by omega)
      have : HI ((a1)) (((x6_1 + 1))) ((z3)) := by have e : (z3) = (x6_2) / 2 := (by omega); rw [e]; exact h1.1
      refine Ew_of (pcₚ := 17) (fun _ => x_istore_n rfl) ?_
      refine Ew_of (pcₚ := 6) (fun _ => x_goto rfl rfl) ?_
      exact ih6 _ (msE hm6 (q_2570 b2 dz3) (q_692 b2)) _ _ _ _ ((x6_1 + 1)) (z3) (rk_o (rk_s) rfl rfl) (rk_s) H O (hS_6) (hA_6)     (show inr ((x6_1 + 1)) from q_1769 j6_2) (show inr (z3) from gz3) (show 0 ≤ ((x6_1 + 1)) ∧ ((x6_1 + 1)) ≤ 30 by omega) (show 0 ≤ (z3) by omega) (show HI ((a1)) (((x6_1 + 1))) ((z3)) by assumption) rfl
abbrev V49_Br : vV := [(1, 0, [])]
theorem len_V49_Br_oz_B4cls : (V49_Br).length = 1 := by decide +kernel
theorem oz_B4cls_9 : vsub V49_Br V46 [] = true := by decide +kernel
theorem oz_B4cls_10 : vsub V49_Br V41_Br [0] = true := by decide +kernel
theorem oz_B4cls_11 : vsub V49_Br V48 [] = true := by decide +kernel
theorem oz_B4cls_12 : okc oz_B4clsl_1 0 = true := by decide +kernel
/-- PackHouse.narrowSum: #1 -/
theorem C49_Br {σE : rS} {D N : Nat → Nat} {F : hF} {A : hA} {d c s : Nat} {Q : wQ} (H : HW V49_Br σE D N F A) {a2 a3 a4 : Int} (n0 : Int) (en0 : (N 0 : Int) = n0) (h0 : inr (a2)) (h1 : inr (a3)) (h2 : inr (a4)) (h3 : 0 ≤ (a2) ∧ (a2) ≤ (a3) ∧ (a3) ≤ (n0)) (k : ∀ (z : Int) (σ : rS) (Fₚ : hF) (Aₚ : hA), HW V49_Br σ D N Fₚ Aₚ → OUT (V49_Br).length D N σE c s D N σ c s → SF [] F Fₚ → SA [] A Aₚ → (inr (z)) → Q (some (I z)) σ c s) : Ew 49 (d + 2) 0 (rargs 0 [.ref (D 0), I a2, I a3, I a4]) [] σE c s Q := by
  have O := OUT_refl (n := (V49_Br).length) (D := D) (N := N) (σ := σE) (c := c) (s := s)
  have HE := H
  have r1 : (0 : Int) ≤ n0 ∧ n0 ≤ 1000000 := nleE (H.nle 0 (ltn len_V49_Br_oz_B4cls rfl)) (show (N 0 : Int) = n0 from en0)
  refine Ew_of (pcₚ := 1) (fun _ => x_iload_n rfl rfl) ?_
  refine Ew_of (pcₚ := 3) (fun _ => x_istore rfl) ?_
  refine Ew_of (pcₚ := 4) (fun _ => x_iload_n rfl (rk_o (rfl) rfl rfl)) ?_
  refine Ew_of (pcₚ := 7) (fun _ => x_ldc_w (z := 374761393) rfl (by decide)) ?_
  refine w_iaddA rfl (fun z2 gz2 => ?_)
  refine Ew_of (pcₚ := 10) (fun _ => x_istore rfl) ?_
  have hc153 : ∀ (ls : rO) (σ : rS) (F_c153 : hF) (A_c153 : hA) (xc153_4 : Int) (xc153_5 : Int), rlook ls 0 = some (.ref (D 0)) → rlook ls 1 = some (I (a2)) → rlook ls 2 = some (I (a3)) → rlook ls 4 = some (I (xc153_4)) → rlook ls 5 = some (I (xc153_5)) → HW V49_Br σ D N F_c153 A_c153 → OUT (V49_Br).length D N σE c s D N σ c s → SF [] F F_c153 → SA [] A A_c153 → (inr (xc153_4)) → (inr (xc153_5)) → ((a2) ≤ (xc153_4) ∧ (xc153_4) ≤ (a3)) → Ew 49 (d + 2) 153 ls [] σ c s Q := by
   as_aux_lemma =>
    intro  ls σ F_c153 A_c153 xc153_4 xc153_5 lc153_0 lc153_1 lc153_2 lc153_4 lc153_5 H O hS_c153 hA_c153     jc153_0 jc153_1 jc153_2
    have cF_c153 : SF oz_B4clsl_0 F F_c153 := SF_trans (SF_refl) hS_c153 (any_sub (by decide +kernel))
    have mF_c153 := SFm_of cF_c153 oz_B4cls_2
    have cA_c153 : SA oz_B4clsl_1 A A_c153 := SA_trans (SA_refl) hA_c153 (any_subA (by decide +kernel))
    have mA_c153 := SAm_of cA_c153 oz_B4cls_3
    refine Ew_of (pcₚ := 155) (fun _ => x_iload rfl lc153_5) ?_
    refine Ew_of (pcₚ := 156) (fun _ => x_iload_n rfl lc153_2) ?_
    refine Ew_of (pcₚ := 157) (fun _ => x_iload_n rfl lc153_1) ?_
    refine w_isub rfl ?_
    refine w_iaddA rfl (fun z3 gz3 => ?_)
    refine Ew_of (pcₚ := 161) (fun _ => x_istore rfl) ?_
    suffices hl161 : ∀ (m : Nat), ∀ (ls : rO) (σ : rS) (F_161 : hF) (A_161 : hA) (x161_4 : Int) (x161_5 : Int), rlook ls 0 = some (.ref (D 0)) → rlook ls 2 = some (I (a3)) → rlook ls 4 = some (I (x161_4)) → rlook ls 5 = some (I (x161_5)) → HW V49_Br σ D N F_161 A_161 → OUT (V49_Br).length D N σE c s D N σ c s → SF [] F_c153 F_161 → SA [] A_c153 A_161 → (inr (x161_4)) → (inr (x161_5)) → ((a2) ≤ (x161_4) ∧ (x161_4) ≤ (a3)) → ((a3) - (x161_4)).toNat = m → Ew 49 (d + 2) 161 ls [] σ c s Q from
      hl161 _ _ _ _ _ (xc153_4) (z3) (rk_o (lc153_0) rfl rfl) (rk_o (lc153_2) rfl rfl) (rk_o (lc153_4) rfl rfl) (rk_s) H O (SF_refl) (SA_refl)     (show inr (xc153_4) from jc153_0) (show inr (z3) from gz3) (show (a2) ≤ (xc153_4) ∧ (xc153_4) ≤ (a3) from jc153_2) rfl
    as_aux_lemma =>
    intro m
    induction m using Nat.strongRecOn with
    | _ m ih161 =>
      intro ls σ F_161 A_161 x161_4 x161_5 l161_0 l161_2 l161_4 l161_5 H O hS_161 hA_161     j161_0 j161_1 j161_2 hm161
      have cF_161 : SF oz_B4clsl_0 F F_161 := SF_trans (cF_c153) hS_161 (any_sub (by decide +kernel))
      have mF_161 := SFm_of cF_161 oz_B4cls_2
      have cA_161 : SA oz_B4clsl_1 A A_161 := SA_trans (cA_c153) hA_161 (any_subA (by decide +kernel))
      have mA_161 := SAm_of cA_161 oz_B4cls_3
      refine Ew_of (pcₚ := 162) (fun _ => x_iload_n rfl l161_2) ?_
      refine Ew_of (pcₚ := 164) (fun _ => x_iload rfl l161_4) ?_
      refine w_isub rfl ?_
      refine Ew_of (pcₚ := 166) (fun _ => x_iconst rfl) ?_
      refine w_icmplt (t := 199) rfl rfl (show inr ((a3 - x161_4)) from q_2571 h1 h3 j161_2) (show inr (4) from q_2) (fun b4 => ?_) (fun b4 => ?_)
      · suffices hl199 : ∀ (m : Nat), ∀ (ls : rO) (σ : rS) (F_199 : hF) (A_199 : hA) (x199_4 : Int) (x199_5 : Int), rlook ls 0 = some (.ref (D 0)) → rlook ls 2 = some (I (a3)) → rlook ls 4 = some (I (x199_4)) → rlook ls 5 = some (I (x199_5)) → HW V49_Br σ D N F_199 A_199 → OUT (V49_Br).length D N σE c s D N σ c s → SF [] F_161 F_199 → SA [] A_161 A_199 → (inr (x199_4)) → (inr (x199_5)) → ((a2) ≤ (x199_4) ∧ (x199_4) ≤ (a3)) → ((a3) - (x199_4)).toNat = m → Ew 49 (d + 2) 199 ls [] σ c s Q from
          hl199 _ _ _ _ _ (x161_4) (x161_5) (l161_0) (l161_2) (l161_4) (l161_5) H O (SF_refl) (SA_refl)     (show inr (x161_4) from j161_0) (show inr (x161_5) from j161_1) (show (a2) ≤ (x161_4) ∧ (x161_4) ≤ (a3) from j161_2) rfl
        as_aux_lemma =>
        intro m
        induction m using Nat.strongRecOn with
        | _ m ih199 =>
          intro ls σ F_199 A_199 x199_4 x199_5 l199_0 l199_2 l199_4 l199_5 H O hS_199 hA_199     j199_0 j199_1 j199_2 hm199
          have cF_199 : SF oz_B4clsl_0 F F_199 := SF_trans (cF_161) hS_199 (any_sub (by decide +kernel))
          have mF_199 := SFm_of cF_199 oz_B4cls_2
          have cA_199 : SA oz_B4clsl_1 A A_199 := SA_trans (cA_161) hA_199 (any_subA (by decide +kernel))
          have mA_199 := SAm_of cA_199 oz_B4cls_3
          refine Ew_of (pcₚ := 201) (fun _ => x_iload rfl l199_4) ?_
          refine Ew_of (pcₚ := 202) (fun _ => x_iload_n rfl l199_2) ?_
          refine w_icmpge (t := 237) rfl rfl (show inr (x199_4) from j199_0) (show inr (a3) from h1) (fun b5 => ?_) (fun b5 => ?_)
          · refine Ew_of (pcₚ := 239) (fun _ => x_iload rfl l199_5) ?_
            refine Ew_of (pcₚ := 241) (fun _ => x_iload rfl l199_5) ?_
            refine Ew_of (pcₚ := 243) (fun _ => x_bipush (z := 15) rfl (by decide)) ?_
            refine w_iushrA rfl (fun z6 gz6 => ?_)
            refine w_ixor rfl (fun z7 gz7 => ?_)
            refine Ew_of (pcₚ := 248) (fun _ => x_ldc_w (z := -2048144777) rfl (by decide)) ?_
            refine w_imulA rfl (fun z8 gz8 => ?_)
            refine Ew_of (pcₚ := 251) (fun _ => x_istore rfl) ?_
            refine Ew_of (pcₚ := 253) (fun _ => x_iload rfl rk_s) ?_
            refine Ew_of (pcₚ := 255) (fun _ => x_iload rfl rk_s) ?_
            refine Ew_of (pcₚ := 257) (fun _ => x_bipush (z := 13) rfl (by decide)) ?_
            refine w_iushrA rfl (fun z9 gz9 => ?_)
            refine w_ixor rfl (fun z10 gz10 => ?_)
            refine Ew_of (pcₚ := 262) (fun _ => x_ldc_w (z := -1028477379) rfl (by decide)) ?_
            refine w_imulA rfl (fun z11 gz11 => ?_)
            refine Ew_of (pcₚ := 265) (fun _ => x_istore rfl) ?_
            refine Ew_of (pcₚ := 267) (fun _ => x_iload rfl rk_s) ?_
            refine Ew_of (pcₚ := 269) (fun _ => x_iload rfl rk_s) ?_
            refine Ew_of (pcₚ := 271) (fun _ => x_bipush (z := 16) rfl (by decide)) ?_
            refine w_iushrA rfl (fun z12 gz12 => ?_)
            refine w_ixor rfl (fun z13 gz13 => ?_)
            exact w_ireturn rfl (k (z13) _ _ _ H O (cF_199) (cA_199) (show inr (z13) from gz13))
          · refine Ew_of (pcₚ := 207) (fun _ => x_iload rfl l199_5) ?_
            refine Ew_of (pcₚ := 208) (fun _ => x_aload_n rfl l199_0) ?_
            refine Ew_of (pcₚ := 210) (fun _ => x_iload rfl l199_4) ?_
            refine v_lB H (o := 0) rfl rfl rfl rfl (n := n0) (en0) (show 0 ≤ x199_4 ∧ x199_4 < n0 from q_2572 b5 h3 j199_2) (fun v14 ev14 qv14 => ?_)
            have ev14 : (A 0) (x199_4) = v14 := (congrFun (funext (mA_199 0 rfl)) (x199_4)).symm.trans ev14
            refine Ew_of (pcₚ := 214) (fun _ => x_sipush (z := 255) rfl (by decide)) ?_
            refine w_iand rfl (show inr (v14) from q_2536 qv14) (show inr (255) from q_36) (fun z15 gz15 gaz15 gbz15 => ?_)
            refine Ew_of (pcₚ := 218) (fun _ => x_ldc_w (z := 374761393) rfl (by decide)) ?_
            refine w_imulA rfl (fun z16 gz16 => ?_)
            refine w_iaddA rfl (fun z17 gz17 => ?_)
            refine Ew_of (pcₚ := 222) (fun _ => x_bipush (z := 11) rfl (by decide)) ?_
            refine w_stat24 rfl rfl (by rfl) (C46 (D := puc 0 D) (N := puc 0 N) (HW_subc H oz_B4cls_9 oz_B4cls_12) (show inr (z17) from gz17) (show inr (11) from q_67) (fun z18 σ18 F18ₚ A18ₚ Hₚ Oₚ hS18 hA18 pz18_0 => ⟨rfl, ?_⟩))
            refine v_backc (c := c) (s := s) H oz_B4cls_9 oz_B4cls_12 Hₚ Oₚ (fun F18 A18 H Oₚ eF18 eA18 => ?_)
            have O := OUT_trans O Oₚ
            -- PackHouse.rotated
            have cF18 : SF oz_B4clsl_0 F F18 := SF_trans (cF_199) (SF_gluc (ι := oz_B4clsl_1) oz_B4cls_12 hS18 eF18 (by decide +kernel)) (any_sub (lₚ := []) (by decide +kernel))
            have mF18 := SFm_of cF18 oz_B4cls_2
            have cA18 : SA oz_B4clsl_1 A A18 := SA_trans (cA_199) (SA_gluc (ι := oz_B4clsl_1) oz_B4cls_12 hA18 eA18 (by decide +kernel)) (any_subA (lₚ := []) (by decide +kernel))
            have mA18 := SAm_of cA18 oz_B4cls_3
            refine Ew_of (pcₚ := 228) (fun _ => x_ldc_w (z := -1640531535) rfl (by decide)) ?_
            refine w_imulA rfl (fun z19 gz19 => ?_)
            refine Ew_of (pcₚ := 231) (fun _ => x_istore rfl) ?_
            refine Ew_of (pcₚ := 234) (fun _ => x_iinc (len := 3) rfl (rk_o (l199_4) rfl rfl)) ?_
            refine Ew_of (pcₚ := 199) (fun _ => x_goto rfl rfl) ?_
            exact ih199 _ (msE hm199 q_31 (q_34 b5)) _ _ _ _ ((x199_4 + 1)) (z19) (rk_o (rk_o (l199_0) rfl rfl) rfl rfl) (rk_o (rk_o (l199_2) rfl rfl) rfl rfl) (rk_s) (rk_o (rk_s) rfl rfl) H O (SF_trans (hS_199) (SF_gluc (ι := oz_B4clsl_1) oz_B4cls_12 hS18 eF18 (by decide +kernel)) (any_sub (lₚ := []) (by decide +kernel))) (SA_trans (hA_199) (SA_gluc (ι := oz_B4clsl_1) oz_B4cls_12 hA18 eA18 (by decide +kernel)) (any_subA (lₚ := []) (by decide +kernel)))     (show inr ((x199_4 + 1)) from q_2573 b5 h1 j199_0) (show inr (z19) from gz19) (show (a2) ≤ ((x199_4 + 1)) ∧ ((x199_4 + 1)) ≤ (a3) from q_1251 b5 j199_2) rfl
      · refine Ew_of (pcₚ := 171) (fun _ => x_iload rfl l161_5) ?_
        refine Ew_of (pcₚ := 172) (fun _ => x_aload_n rfl l161_0) ?_
        refine Ew_of (pcₚ := 174) (fun _ => x_iload rfl l161_4) ?_
        refine w_stat24 rfl rfl (by rfl) (C41_Br (D := puc 0 D) (N := puc 0 N) (HW_subc H oz_B4cls_10 oz_B4cls_4) (n0) (en0) (show inr (x161_4) from j161_0) (show 0 ≤ (x161_4) ∧ (x161_4) + 4 ≤ (n0) from q_2574 b4 h3 j161_2) (fun z20 σ20 F20ₚ A20ₚ Hₚ Oₚ hS20 hA20 pz20_0 => ⟨rfl, ?_⟩))
        refine v_backc (c := c) (s := s) H oz_B4cls_10 oz_B4cls_4 Hₚ Oₚ (fun F20 A20 H Oₚ eF20 eA20 => ?_)
        have O := OUT_trans O Oₚ
        -- PackHouse.word
        have cF20 : SF oz_B4clsl_0 F F20 := SF_trans (cF_161) (SF_gluc (ι := oz_B4clsl_2) oz_B4cls_4 hS20 eF20 (by decide +kernel)) (any_sub (lₚ := []) (by decide +kernel))
        have mF20 := SFm_of cF20 oz_B4cls_2
        have cA20 : SA oz_B4clsl_1 A A20 := SA_trans (cA_161) (SA_gluc (ι := oz_B4clsl_2) oz_B4cls_4 hA20 eA20 (by decide +kernel)) (any_subA (lₚ := []) (by decide +kernel))
        have mA20 := SAm_of cA20 oz_B4cls_3
        refine Ew_of (pcₚ := 180) (fun _ => x_ldc_w (z := -1028477379) rfl (by decide)) ?_
        refine w_imulA rfl (fun z21 gz21 => ?_)
        refine w_iaddA rfl (fun z22 gz22 => ?_)
        refine Ew_of (pcₚ := 184) (fun _ => x_bipush (z := 17) rfl (by decide)) ?_
        refine w_stat24 rfl rfl (by rfl) (C46 (D := puc 0 D) (N := puc 0 N) (HW_subc H oz_B4cls_9 oz_B4cls_12) (show inr (z22) from gz22) (show inr (17) from q_342) (fun z23 σ23 F23ₚ A23ₚ Hₚ Oₚ hS23 hA23 pz23_0 => ⟨rfl, ?_⟩))
        refine v_backc (c := c) (s := s) H oz_B4cls_9 oz_B4cls_12 Hₚ Oₚ (fun F23 A23 H Oₚ eF23 eA23 => ?_)
        have O := OUT_trans O Oₚ
        -- PackHouse.rotated
        have cF23 : SF oz_B4clsl_0 F F23 := SF_trans (cF20) (SF_gluc (ι := oz_B4clsl_1) oz_B4cls_12 hS23 eF23 (by decide +kernel)) (any_sub (lₚ := []) (by decide +kernel))
        have mF23 := SFm_of cF23 oz_B4cls_2
        have cA23 : SA oz_B4clsl_1 A A23 := SA_trans (cA20) (SA_gluc (ι := oz_B4clsl_1) oz_B4cls_12 hA23 eA23 (by decide +kernel)) (any_subA (lₚ := []) (by decide +kernel))
        have mA23 := SAm_of cA23 oz_B4cls_3
        refine Ew_of (pcₚ := 190) (fun _ => x_ldc_w (z := 668265263) rfl (by decide)) ?_
        refine w_imulA rfl (fun z24 gz24 => ?_)
        refine Ew_of (pcₚ := 193) (fun _ => x_istore rfl) ?_
        refine Ew_of (pcₚ := 196) (fun _ => x_iinc (len := 3) rfl (rk_o (l161_4) rfl rfl)) ?_
        refine Ew_of (pcₚ := 161) (fun _ => x_goto rfl rfl) ?_
        exact ih161 _ (msE hm161 q_346 (q_347 b4)) _ _ _ _ ((x161_4 + 4)) (z24) (rk_o (rk_o (l161_0) rfl rfl) rfl rfl) (rk_o (rk_o (l161_2) rfl rfl) rfl rfl) (rk_s) (rk_o (rk_s) rfl rfl) H O (SF_trans (SF_trans (hS_161) (SF_gluc (ι := oz_B4clsl_2) oz_B4cls_4 hS20 eF20 (by decide +kernel)) (any_sub (lₚ := []) (by decide +kernel))) (SF_gluc (ι := oz_B4clsl_1) oz_B4cls_12 hS23 eF23 (by decide +kernel)) (any_sub (lₚ := []) (by decide +kernel))) (SA_trans (SA_trans (hA_161) (SA_gluc (ι := oz_B4clsl_2) oz_B4cls_4 hA20 eA20 (by decide +kernel)) (any_subA (lₚ := []) (by decide +kernel))) (SA_gluc (ι := oz_B4clsl_1) oz_B4cls_12 hA23 eA23 (by decide +kernel)) (any_subA (lₚ := []) (by decide +kernel)))     (show inr ((x161_4 + 4)) from q_2575 b4 h3 j161_0 r1) (show inr (z24) from gz24) (show (a2) ≤ ((x161_4 + 4)) ∧ ((x161_4 + 4)) ≤ (a3) from q_344 b4 j161_2) rfl
  refine Ew_of (pcₚ := 11) (fun _ => x_iload_n rfl (rk_o (rk_o (rfl) rfl rfl) rfl rfl)) ?_
  refine Ew_of (pcₚ := 12) (fun _ => x_iload_n rfl (rk_o (rk_o (rfl) rfl rfl) rfl rfl)) ?_
  refine w_isub rfl ?_
  refine Ew_of (pcₚ := 15) (fun _ => x_bipush (z := 16) rfl (by decide)) ?_
  refine w_icmplt (t := 153) rfl rfl (show inr ((a3 - a2)) from q_2392 h1 h3) (show inr (16) from q_86) (fun b25 => ?_) (fun b25 => ?_)
  · exact hc153  _ _ _ _ (a2) (z2) (rk_o (rk_o (rfl) rfl rfl) rfl rfl) (rk_o (rk_o (rfl) rfl rfl) rfl rfl) (rk_o (rk_o (rfl) rfl rfl) rfl rfl) (rk_o (rk_s) rfl rfl) (rk_s) H O (SF_refl) (SA_refl)     (show inr (a2) from h0) (show inr (z2) from gz2) (show (a2) ≤ (a2) ∧ (a2) ≤ (a3) from q_2385 h3)
  · refine Ew_of (pcₚ := 19) (fun _ => x_iload_n rfl (rk_o (rk_o (rfl) rfl rfl) rfl rfl)) ?_
    refine Ew_of (pcₚ := 22) (fun _ => x_ldc_w (z := -1640531535) rfl (by decide)) ?_
    refine w_iaddA rfl (fun z26 gz26 => ?_)
    refine Ew_of (pcₚ := 26) (fun _ => x_ldc_w (z := -2048144777) rfl (by decide)) ?_
    refine w_iaddA rfl (fun z27 gz27 => ?_)
    refine Ew_of (pcₚ := 29) (fun _ => x_istore rfl) ?_
    refine Ew_of (pcₚ := 30) (fun _ => x_iload_n rfl (rk_o (rk_o (rk_o (rfl) rfl rfl) rfl rfl) rfl rfl)) ?_
    refine Ew_of (pcₚ := 33) (fun _ => x_ldc_w (z := -2048144777) rfl (by decide)) ?_
    refine w_iaddA rfl (fun z28 gz28 => ?_)
    refine Ew_of (pcₚ := 36) (fun _ => x_istore rfl) ?_
    refine Ew_of (pcₚ := 37) (fun _ => x_iload_n rfl (rk_o (rk_o (rk_o (rk_o (rfl) rfl rfl) rfl rfl) rfl rfl) rfl rfl)) ?_
    refine Ew_of (pcₚ := 39) (fun _ => x_istore rfl) ?_
    refine Ew_of (pcₚ := 40) (fun _ => x_iload_n rfl (rk_o (rk_o (rk_o (rk_o (rk_o (rfl) rfl rfl) rfl rfl) rfl rfl) rfl rfl) rfl rfl)) ?_
    refine Ew_of (pcₚ := 43) (fun _ => x_ldc_w (z := -1640531535) rfl (by decide)) ?_
    refine w_isubA rfl (fun z29 gz29 => ?_)
    refine Ew_of (pcₚ := 46) (fun _ => x_istore rfl) ?_
    suffices hl46 : ∀ (m : Nat), ∀ (ls : rO) (σ : rS) (F_46 : hF) (A_46 : hA) (x46_4 : Int) (x46_6 : Int) (x46_7 : Int) (x46_8 : Int) (x46_9 : Int), rlook ls 0 = some (.ref (D 0)) → rlook ls 1 = some (I (a2)) → rlook ls 2 = some (I (a3)) → rlook ls 4 = some (I (x46_4)) → rlook ls 6 = some (I (x46_6)) → rlook ls 7 = some (I (x46_7)) → rlook ls 8 = some (I (x46_8)) → rlook ls 9 = some (I (x46_9)) → HW V49_Br σ D N F_46 A_46 → OUT (V49_Br).length D N σE c s D N σ c s → SF [] F F_46 → SA [] A A_46 → (inr (x46_4)) → (inr (x46_6)) → (inr (x46_7)) → (inr (x46_8)) → (inr (x46_9)) → ((a2) ≤ (x46_4) ∧ (x46_4) ≤ (a3)) → ((a3) - (x46_4)).toNat = m → Ew 49 (d + 2) 46 ls [] σ c s Q from
      hl46 _ _ _ _ _ (a2) (z27) (z28) (a4) (z29) (rk_o (rk_o (rk_o (rk_o (rk_o (rk_o (rfl) rfl rfl) rfl rfl) rfl rfl) rfl rfl) rfl rfl) rfl rfl) (rk_o (rk_o (rk_o (rk_o (rk_o (rk_o (rfl) rfl rfl) rfl rfl) rfl rfl) rfl rfl) rfl rfl) rfl rfl) (rk_o (rk_o (rk_o (rk_o (rk_o (rk_o (rfl) rfl rfl) rfl rfl) rfl rfl) rfl rfl) rfl rfl) rfl rfl) (rk_o (rk_o (rk_o (rk_o (rk_o (rk_s) rfl rfl) rfl rfl) rfl rfl) rfl rfl) rfl rfl) (rk_o (rk_o (rk_o (rk_s) rfl rfl) rfl rfl) rfl rfl) (rk_o (rk_o (rk_s) rfl rfl) rfl rfl) (rk_o (rk_s) rfl rfl) (rk_s) H O (SF_refl) (SA_refl)     (show inr (a2) from h0) (show inr (z27) from gz27) (show inr (z28) from gz28) (show inr (a4) from h2) (show inr (z29) from gz29) (show (a2) ≤ (a2) ∧ (a2) ≤ (a3) from q_2385 h3) rfl
    as_aux_lemma =>
    intro m
    induction m using Nat.strongRecOn with
    | _ m ih46 =>
      intro ls σ F_46 A_46 x46_4 x46_6 x46_7 x46_8 x46_9 l46_0 l46_1 l46_2 l46_4 l46_6 l46_7 l46_8 l46_9 H O hS_46 hA_46     j46_0 j46_1 j46_2 j46_3 j46_4 j46_5 hm46
      have cF_46 : SF oz_B4clsl_0 F F_46 := SF_trans (SF_refl) hS_46 (any_sub (by decide +kernel))
      have mF_46 := SFm_of cF_46 oz_B4cls_2
      have cA_46 : SA oz_B4clsl_1 A A_46 := SA_trans (SA_refl) hA_46 (any_subA (by decide +kernel))
      have mA_46 := SAm_of cA_46 oz_B4cls_3
      refine Ew_of (pcₚ := 47) (fun _ => x_iload_n rfl l46_2) ?_
      refine Ew_of (pcₚ := 49) (fun _ => x_iload rfl l46_4) ?_
      refine w_isub rfl ?_
      refine Ew_of (pcₚ := 52) (fun _ => x_bipush (z := 16) rfl (by decide)) ?_
      refine w_icmplt (t := 121) rfl rfl (show inr ((a3 - x46_4)) from q_2571 h1 h3 j46_5) (show inr (16) from q_86) (fun b30 => ?_) (fun b30 => ?_)
      · refine Ew_of (pcₚ := 123) (fun _ => x_iload rfl l46_6) ?_
        refine Ew_of (pcₚ := 124) (fun _ => x_iconst rfl) ?_
        refine w_stat24 rfl rfl (by rfl) (C46 (D := puc 0 D) (N := puc 0 N) (HW_subc H oz_B4cls_9 oz_B4cls_12) (show inr (x46_6) from j46_1) (show inr (1) from q_23) (fun z31 σ31 F31ₚ A31ₚ Hₚ Oₚ hS31 hA31 pz31_0 => ⟨rfl, ?_⟩))
        refine v_backc (c := c) (s := s) H oz_B4cls_9 oz_B4cls_12 Hₚ Oₚ (fun F31 A31 H Oₚ eF31 eA31 => ?_)
        have O := OUT_trans O Oₚ
        -- PackHouse.rotated
        have cF31 : SF oz_B4clsl_0 F F31 := SF_trans (cF_46) (SF_gluc (ι := oz_B4clsl_1) oz_B4cls_12 hS31 eF31 (by decide +kernel)) (any_sub (lₚ := []) (by decide +kernel))
        have mF31 := SFm_of cF31 oz_B4cls_2
        have cA31 : SA oz_B4clsl_1 A A31 := SA_trans (cA_46) (SA_gluc (ι := oz_B4clsl_1) oz_B4cls_12 hA31 eA31 (by decide +kernel)) (any_subA (lₚ := []) (by decide +kernel))
        have mA31 := SAm_of cA31 oz_B4cls_3
        refine Ew_of (pcₚ := 129) (fun _ => x_iload rfl l46_7) ?_
        refine Ew_of (pcₚ := 131) (fun _ => x_bipush (z := 7) rfl (by decide)) ?_
        refine w_stat24 rfl rfl (by rfl) (C46 (D := puc 0 D) (N := puc 0 N) (HW_subc H oz_B4cls_9 oz_B4cls_12) (show inr (x46_7) from j46_2) (show inr (7) from q_355) (fun z32 σ32 F32ₚ A32ₚ Hₚ Oₚ hS32 hA32 pz32_0 => ⟨rfl, ?_⟩))
        refine v_backc (c := c) (s := s) H oz_B4cls_9 oz_B4cls_12 Hₚ Oₚ (fun F32 A32 H Oₚ eF32 eA32 => ?_)
        have O := OUT_trans O Oₚ
        -- PackHouse.rotated
        have cF32 : SF oz_B4clsl_0 F F32 := SF_trans (cF31) (SF_gluc (ι := oz_B4clsl_1) oz_B4cls_12 hS32 eF32 (by decide +kernel)) (any_sub (lₚ := []) (by decide +kernel))
        have mF32 := SFm_of cF32 oz_B4cls_2
        have cA32 : SA oz_B4clsl_1 A A32 := SA_trans (cA31) (SA_gluc (ι := oz_B4clsl_1) oz_B4cls_12 hA32 eA32 (by decide +kernel)) (any_subA (lₚ := []) (by decide +kernel))
        have mA32 := SAm_of cA32 oz_B4cls_3
        refine w_iaddA rfl (fun z33 gz33 => ?_)
        refine Ew_of (pcₚ := 137) (fun _ => x_iload rfl l46_8) ?_
        refine Ew_of (pcₚ := 139) (fun _ => x_bipush (z := 12) rfl (by decide)) ?_
        refine w_stat24 rfl rfl (by rfl) (C46 (D := puc 0 D) (N := puc 0 N) (HW_subc H oz_B4cls_9 oz_B4cls_12) (show inr (x46_8) from j46_3) (show inr (12) from q_356) (fun z34 σ34 F34ₚ A34ₚ Hₚ Oₚ hS34 hA34 pz34_0 => ⟨rfl, ?_⟩))
        refine v_backc (c := c) (s := s) H oz_B4cls_9 oz_B4cls_12 Hₚ Oₚ (fun F34 A34 H Oₚ eF34 eA34 => ?_)
        have O := OUT_trans O Oₚ
        -- PackHouse.rotated
        have cF34 : SF oz_B4clsl_0 F F34 := SF_trans (cF32) (SF_gluc (ι := oz_B4clsl_1) oz_B4cls_12 hS34 eF34 (by decide +kernel)) (any_sub (lₚ := []) (by decide +kernel))
        have mF34 := SFm_of cF34 oz_B4cls_2
        have cA34 : SA oz_B4clsl_1 A A34 := SA_trans (cA32) (SA_gluc (ι := oz_B4clsl_1) oz_B4cls_12 hA34 eA34 (by decide +kernel)) (any_subA (lₚ := []) (by decide +kernel))
        have mA34 := SAm_of cA34 oz_B4cls_3
        refine w_iaddA rfl (fun z35 gz35 => ?_)
        refine Ew_of (pcₚ := 145) (fun _ => x_iload rfl l46_9) ?_
        refine Ew_of (pcₚ := 147) (fun _ => x_bipush (z := 18) rfl (by decide)) ?_
        refine w_stat24 rfl rfl (by rfl) (C46 (D := puc 0 D) (N := puc 0 N) (HW_subc H oz_B4cls_9 oz_B4cls_12) (show inr (x46_9) from j46_4) (show inr (18) from q_357) (fun z36 σ36 F36ₚ A36ₚ Hₚ Oₚ hS36 hA36 pz36_0 => ⟨rfl, ?_⟩))
        refine v_backc (c := c) (s := s) H oz_B4cls_9 oz_B4cls_12 Hₚ Oₚ (fun F36 A36 H Oₚ eF36 eA36 => ?_)
        have O := OUT_trans O Oₚ
        -- PackHouse.rotated
        have cF36 : SF oz_B4clsl_0 F F36 := SF_trans (cF34) (SF_gluc (ι := oz_B4clsl_1) oz_B4cls_12 hS36 eF36 (by decide +kernel)) (any_sub (lₚ := []) (by decide +kernel))
        have mF36 := SFm_of cF36 oz_B4cls_2
        have cA36 : SA oz_B4clsl_1 A A36 := SA_trans (cA34) (SA_gluc (ι := oz_B4clsl_1) oz_B4cls_12 hA36 eA36 (by decide +kernel)) (any_subA (lₚ := []) (by decide +kernel))
        have mA36 := SAm_of cA36 oz_B4cls_3
        refine w_iaddA rfl (fun z37 gz37 => ?_)
        refine Ew_of (pcₚ := 153) (fun _ => x_istore rfl) ?_
        exact hc153  _ _ _ _ (x46_4) (z37) (rk_o (l46_0) rfl rfl) (rk_o (l46_1) rfl rfl) (rk_o (l46_2) rfl rfl) (rk_o (l46_4) rfl rfl) (rk_s) H O (SF_trans (SF_trans (SF_trans (SF_trans (SF_trans (SF_refl) hS_46 (any_sub (by decide +kernel))) (SF_gluc (ι := oz_B4clsl_1) oz_B4cls_12 hS31 eF31 (by decide +kernel)) (any_sub (lₚ := []) (by decide +kernel))) (SF_gluc (ι := oz_B4clsl_1) oz_B4cls_12 hS32 eF32 (by decide +kernel)) (any_sub (lₚ := []) (by decide +kernel))) (SF_gluc (ι := oz_B4clsl_1) oz_B4cls_12 hS34 eF34 (by decide +kernel)) (any_sub (lₚ := []) (by decide +kernel))) (SF_gluc (ι := oz_B4clsl_1) oz_B4cls_12 hS36 eF36 (by decide +kernel)) (any_sub (lₚ := []) (by decide +kernel))) (SA_trans (SA_trans (SA_trans (SA_trans (SA_trans (SA_refl) hA_46 (any_subA (by decide +kernel))) (SA_gluc (ι := oz_B4clsl_1) oz_B4cls_12 hA31 eA31 (by decide +kernel)) (any_subA (lₚ := []) (by decide +kernel))) (SA_gluc (ι := oz_B4clsl_1) oz_B4cls_12 hA32 eA32 (by decide +kernel)) (any_subA (lₚ := []) (by decide +kernel))) (SA_gluc (ι := oz_B4clsl_1) oz_B4cls_12 hA34 eA34 (by decide +kernel)) (any_subA (lₚ := []) (by decide +kernel))) (SA_gluc (ι := oz_B4clsl_1) oz_B4cls_12 hA36 eA36 (by decide +kernel)) (any_subA (lₚ := []) (by decide +kernel)))     (show inr (x46_4) from j46_0) (show inr (z37) from gz37) (show (a2) ≤ (x46_4) ∧ (x46_4) ≤ (a3) from j46_5)
      · refine Ew_of (pcₚ := 57) (fun _ => x_iload rfl l46_6) ?_
        refine Ew_of (pcₚ := 58) (fun _ => x_aload_n rfl l46_0) ?_
        refine Ew_of (pcₚ := 60) (fun _ => x_iload rfl l46_4) ?_
        refine w_stat24 rfl rfl (by rfl) (C41_Br (D := puc 0 D) (N := puc 0 N) (HW_subc H oz_B4cls_10 oz_B4cls_4) (n0) (en0) (show inr (x46_4) from j46_0) (show 0 ≤ (x46_4) ∧ (x46_4) + 4 ≤ (n0) from q_2576 b30 h3 j46_5) (fun z38 σ38 F38ₚ A38ₚ Hₚ Oₚ hS38 hA38 pz38_0 => ⟨rfl, ?_⟩))
        refine v_backc (c := c) (s := s) H oz_B4cls_10 oz_B4cls_4 Hₚ Oₚ (fun F38 A38 H Oₚ eF38 eA38 => ?_)
        have O := OUT_trans O Oₚ
        -- PackHouse.word
        have cF38 : SF oz_B4clsl_0 F F38 := SF_trans (cF_46) (SF_gluc (ι := oz_B4clsl_2) oz_B4cls_4 hS38 eF38 (by decide +kernel)) (any_sub (lₚ := []) (by decide +kernel))
        have mF38 := SFm_of cF38 oz_B4cls_2
        have cA38 : SA oz_B4clsl_1 A A38 := SA_trans (cA_46) (SA_gluc (ι := oz_B4clsl_2) oz_B4cls_4 hA38 eA38 (by decide +kernel)) (any_subA (lₚ := []) (by decide +kernel))
        have mA38 := SAm_of cA38 oz_B4cls_3
        refine w_stat24 rfl rfl (by rfl) (C48 (D := puc 0 D) (N := puc 0 N) (HW_subc H oz_B4cls_11 oz_B4cls_12) (show inr (x46_6) from j46_1) (show inr (z38) from pz38_0) (fun z39 σ39 F39ₚ A39ₚ Hₚ Oₚ hS39 hA39 pz39_0 => ⟨rfl, ?_⟩))
        refine v_backc (c := c) (s := s) H oz_B4cls_11 oz_B4cls_12 Hₚ Oₚ (fun F39 A39 H Oₚ eF39 eA39 => ?_)
        have O := OUT_trans O Oₚ
        -- PackHouse.narrowLane
        have cF39 : SF oz_B4clsl_0 F F39 := SF_trans (cF38) (SF_gluc (ι := oz_B4clsl_1) oz_B4cls_12 hS39 eF39 (by decide +kernel)) (any_sub (lₚ := []) (by decide +kernel))
        have mF39 := SFm_of cF39 oz_B4cls_2
        have cA39 : SA oz_B4clsl_1 A A39 := SA_trans (cA38) (SA_gluc (ι := oz_B4clsl_1) oz_B4cls_12 hA39 eA39 (by decide +kernel)) (any_subA (lₚ := []) (by decide +kernel))
        have mA39 := SAm_of cA39 oz_B4cls_3
        refine Ew_of (pcₚ := 68) (fun _ => x_istore rfl) ?_
        refine Ew_of (pcₚ := 70) (fun _ => x_iload rfl (rk_o (l46_7) rfl rfl)) ?_
        refine Ew_of (pcₚ := 71) (fun _ => x_aload_n rfl (rk_o (l46_0) rfl rfl)) ?_
        refine Ew_of (pcₚ := 73) (fun _ => x_iload rfl (rk_o (l46_4) rfl rfl)) ?_
        refine Ew_of (pcₚ := 74) (fun _ => x_iconst rfl) ?_
        refine w_iadd rfl ?_
        refine w_stat24 rfl rfl (by rfl) (C41_Br (D := puc 0 D) (N := puc 0 N) (HW_subc H oz_B4cls_10 oz_B4cls_4) (n0) (en0) (show inr ((x46_4 + 4)) from q_2578 b30 h1 j46_0) (show 0 ≤ ((x46_4 + 4)) ∧ ((x46_4 + 4)) + 4 ≤ (n0) from q_2577 b30 h3 j46_5) (fun z40 σ40 F40ₚ A40ₚ Hₚ Oₚ hS40 hA40 pz40_0 => ⟨rfl, ?_⟩))
        refine v_backc (c := c) (s := s) H oz_B4cls_10 oz_B4cls_4 Hₚ Oₚ (fun F40 A40 H Oₚ eF40 eA40 => ?_)
        have O := OUT_trans O Oₚ
        -- PackHouse.word
        have cF40 : SF oz_B4clsl_0 F F40 := SF_trans (cF39) (SF_gluc (ι := oz_B4clsl_2) oz_B4cls_4 hS40 eF40 (by decide +kernel)) (any_sub (lₚ := []) (by decide +kernel))
        have mF40 := SFm_of cF40 oz_B4cls_2
        have cA40 : SA oz_B4clsl_1 A A40 := SA_trans (cA39) (SA_gluc (ι := oz_B4clsl_2) oz_B4cls_4 hA40 eA40 (by decide +kernel)) (any_subA (lₚ := []) (by decide +kernel))
        have mA40 := SAm_of cA40 oz_B4cls_3
        refine w_stat24 rfl rfl (by rfl) (C48 (D := puc 0 D) (N := puc 0 N) (HW_subc H oz_B4cls_11 oz_B4cls_12) (show inr (x46_7) from j46_2) (show inr (z40) from pz40_0) (fun z41 σ41 F41ₚ A41ₚ Hₚ Oₚ hS41 hA41 pz41_0 => ⟨rfl, ?_⟩))
        refine v_backc (c := c) (s := s) H oz_B4cls_11 oz_B4cls_12 Hₚ Oₚ (fun F41 A41 H Oₚ eF41 eA41 => ?_)
        have O := OUT_trans O Oₚ
        -- PackHouse.narrowLane
        have cF41 : SF oz_B4clsl_0 F F41 := SF_trans (cF40) (SF_gluc (ι := oz_B4clsl_1) oz_B4cls_12 hS41 eF41 (by decide +kernel)) (any_sub (lₚ := []) (by decide +kernel))
        have mF41 := SFm_of cF41 oz_B4cls_2
        have cA41 : SA oz_B4clsl_1 A A41 := SA_trans (cA40) (SA_gluc (ι := oz_B4clsl_1) oz_B4cls_12 hA41 eA41 (by decide +kernel)) (any_subA (lₚ := []) (by decide +kernel))
        have mA41 := SAm_of cA41 oz_B4cls_3
        refine Ew_of (pcₚ := 83) (fun _ => x_istore rfl) ?_
        refine Ew_of (pcₚ := 85) (fun _ => x_iload rfl (rk_o (rk_o (l46_8) rfl rfl) rfl rfl)) ?_
        refine Ew_of (pcₚ := 86) (fun _ => x_aload_n rfl (rk_o (rk_o (l46_0) rfl rfl) rfl rfl)) ?_
        refine Ew_of (pcₚ := 88) (fun _ => x_iload rfl (rk_o (rk_o (l46_4) rfl rfl) rfl rfl)) ?_
        refine Ew_of (pcₚ := 90) (fun _ => x_bipush (z := 8) rfl (by decide)) ?_
        refine w_iadd rfl ?_
        refine w_stat24 rfl rfl (by rfl) (C41_Br (D := puc 0 D) (N := puc 0 N) (HW_subc H oz_B4cls_10 oz_B4cls_4) (n0) (en0) (show inr ((x46_4 + 8)) from q_2580 b30 h1 j46_0) (show 0 ≤ ((x46_4 + 8)) ∧ ((x46_4 + 8)) + 4 ≤ (n0) from q_2579 b30 h3 j46_5) (fun z42 σ42 F42ₚ A42ₚ Hₚ Oₚ hS42 hA42 pz42_0 => ⟨rfl, ?_⟩))
        refine v_backc (c := c) (s := s) H oz_B4cls_10 oz_B4cls_4 Hₚ Oₚ (fun F42 A42 H Oₚ eF42 eA42 => ?_)
        have O := OUT_trans O Oₚ
        -- PackHouse.word
        have cF42 : SF oz_B4clsl_0 F F42 := SF_trans (cF41) (SF_gluc (ι := oz_B4clsl_2) oz_B4cls_4 hS42 eF42 (by decide +kernel)) (any_sub (lₚ := []) (by decide +kernel))
        have mF42 := SFm_of cF42 oz_B4cls_2
        have cA42 : SA oz_B4clsl_1 A A42 := SA_trans (cA41) (SA_gluc (ι := oz_B4clsl_2) oz_B4cls_4 hA42 eA42 (by decide +kernel)) (any_subA (lₚ := []) (by decide +kernel))
        have mA42 := SAm_of cA42 oz_B4cls_3
        refine w_stat24 rfl rfl (by rfl) (C48 (D := puc 0 D) (N := puc 0 N) (HW_subc H oz_B4cls_11 oz_B4cls_12) (show inr (x46_8) from j46_3) (show inr (z42) from pz42_0) (fun z43 σ43 F43ₚ A43ₚ Hₚ Oₚ hS43 hA43 pz43_0 => ⟨rfl, ?_⟩))
        refine v_backc (c := c) (s := s) H oz_B4cls_11 oz_B4cls_12 Hₚ Oₚ (fun F43 A43 H Oₚ eF43 eA43 => ?_)
        have O := OUT_trans O Oₚ
        -- PackHouse.narrowLane
        have cF43 : SF oz_B4clsl_0 F F43 := SF_trans (cF42) (SF_gluc (ι := oz_B4clsl_1) oz_B4cls_12 hS43 eF43 (by decide +kernel)) (any_sub (lₚ := []) (by decide +kernel))
        have mF43 := SFm_of cF43 oz_B4cls_2
        have cA43 : SA oz_B4clsl_1 A A43 := SA_trans (cA42) (SA_gluc (ι := oz_B4clsl_1) oz_B4cls_12 hA43 eA43 (by decide +kernel)) (any_subA (lₚ := []) (by decide +kernel))
        have mA43 := SAm_of cA43 oz_B4cls_3
        refine Ew_of (pcₚ := 99) (fun _ => x_istore rfl) ?_
        refine Ew_of (pcₚ := 101) (fun _ => x_iload rfl (rk_o (rk_o (rk_o (l46_9) rfl rfl) rfl rfl) rfl rfl)) ?_
        refine Ew_of (pcₚ := 102) (fun _ => x_aload_n rfl (rk_o (rk_o (rk_o (l46_0) rfl rfl) rfl rfl) rfl rfl)) ?_
        refine Ew_of (pcₚ := 104) (fun _ => x_iload rfl (rk_o (rk_o (rk_o (l46_4) rfl rfl) rfl rfl) rfl rfl)) ?_
        refine Ew_of (pcₚ := 106) (fun _ => x_bipush (z := 12) rfl (by decide)) ?_
        refine w_iadd rfl ?_
        refine w_stat24 rfl rfl (by rfl) (C41_Br (D := puc 0 D) (N := puc 0 N) (HW_subc H oz_B4cls_10 oz_B4cls_4) (n0) (en0) (show inr ((x46_4 + 12)) from q_2582 b30 h1 j46_0) (show 0 ≤ ((x46_4 + 12)) ∧ ((x46_4 + 12)) + 4 ≤ (n0) from q_2581 b30 h3 j46_5) (fun z44 σ44 F44ₚ A44ₚ Hₚ Oₚ hS44 hA44 pz44_0 => ⟨rfl, ?_⟩))
        refine v_backc (c := c) (s := s) H oz_B4cls_10 oz_B4cls_4 Hₚ Oₚ (fun F44 A44 H Oₚ eF44 eA44 => ?_)
        have O := OUT_trans O Oₚ
        -- PackHouse.word
        have cF44 : SF oz_B4clsl_0 F F44 := SF_trans (cF43) (SF_gluc (ι := oz_B4clsl_2) oz_B4cls_4 hS44 eF44 (by decide +kernel)) (any_sub (lₚ := []) (by decide +kernel))
        have mF44 := SFm_of cF44 oz_B4cls_2
        have cA44 : SA oz_B4clsl_1 A A44 := SA_trans (cA43) (SA_gluc (ι := oz_B4clsl_2) oz_B4cls_4 hA44 eA44 (by decide +kernel)) (any_subA (lₚ := []) (by decide +kernel))
        have mA44 := SAm_of cA44 oz_B4cls_3
        refine w_stat24 rfl rfl (by rfl) (C48 (D := puc 0 D) (N := puc 0 N) (HW_subc H oz_B4cls_11 oz_B4cls_12) (show inr (x46_9) from j46_4) (show inr (z44) from pz44_0) (fun z45 σ45 F45ₚ A45ₚ Hₚ Oₚ hS45 hA45 pz45_0 => ⟨rfl, ?_⟩))
        refine v_backc (c := c) (s := s) H oz_B4cls_11 oz_B4cls_12 Hₚ Oₚ (fun F45 A45 H Oₚ eF45 eA45 => ?_)
        have O := OUT_trans O Oₚ
        -- PackHouse.narrowLane
        have cF45 : SF oz_B4clsl_0 F F45 := SF_trans (cF44) (SF_gluc (ι := oz_B4clsl_1) oz_B4cls_12 hS45 eF45 (by decide +kernel)) (any_sub (lₚ := []) (by decide +kernel))
        have mF45 := SFm_of cF45 oz_B4cls_2
        have cA45 : SA oz_B4clsl_1 A A45 := SA_trans (cA44) (SA_gluc (ι := oz_B4clsl_1) oz_B4cls_12 hA45 eA45 (by decide +kernel)) (any_subA (lₚ := []) (by decide +kernel))
        have mA45 := SAm_of cA45 oz_B4cls_3
        refine Ew_of (pcₚ := 115) (fun _ => x_istore rfl) ?_
        refine Ew_of (pcₚ := 118) (fun _ => x_iinc (len := 3) rfl (rk_o (rk_o (rk_o (rk_o (l46_4) rfl rfl) rfl rfl) rfl rfl) rfl rfl)) ?_
        refine Ew_of (pcₚ := 46) (fun _ => x_goto rfl rfl) ?_
        exact ih46 _ (msE hm46 q_93 (q_94 b30)) _ _ _ _ ((x46_4 + 16)) (z39) (z41) (z43) (z45) (rk_o (rk_o (rk_o (rk_o (rk_o (l46_0) rfl rfl) rfl rfl) rfl rfl) rfl rfl) rfl rfl) (rk_o (rk_o (rk_o (rk_o (rk_o (l46_1) rfl rfl) rfl rfl) rfl rfl) rfl rfl) rfl rfl) (rk_o (rk_o (rk_o (rk_o (rk_o (l46_2) rfl rfl) rfl rfl) rfl rfl) rfl rfl) rfl rfl) (rk_s) (rk_o (rk_o (rk_o (rk_o (rk_s) rfl rfl) rfl rfl) rfl rfl) rfl rfl) (rk_o (rk_o (rk_o (rk_s) rfl rfl) rfl rfl) rfl rfl) (rk_o (rk_o (rk_s) rfl rfl) rfl rfl) (rk_o (rk_s) rfl rfl) H O (SF_trans (SF_trans (SF_trans (SF_trans (SF_trans (SF_trans (SF_trans (SF_trans (hS_46) (SF_gluc (ι := oz_B4clsl_2) oz_B4cls_4 hS38 eF38 (by decide +kernel)) (any_sub (lₚ := []) (by decide +kernel))) (SF_gluc (ι := oz_B4clsl_1) oz_B4cls_12 hS39 eF39 (by decide +kernel)) (any_sub (lₚ := []) (by decide +kernel))) (SF_gluc (ι := oz_B4clsl_2) oz_B4cls_4 hS40 eF40 (by decide +kernel)) (any_sub (lₚ := []) (by decide +kernel))) (SF_gluc (ι := oz_B4clsl_1) oz_B4cls_12 hS41 eF41 (by decide +kernel)) (any_sub (lₚ := []) (by decide +kernel))) (SF_gluc (ι := oz_B4clsl_2) oz_B4cls_4 hS42 eF42 (by decide +kernel)) (any_sub (lₚ := []) (by decide +kernel))) (SF_gluc (ι := oz_B4clsl_1) oz_B4cls_12 hS43 eF43 (by decide +kernel)) (any_sub (lₚ := []) (by decide +kernel))) (SF_gluc (ι := oz_B4clsl_2) oz_B4cls_4 hS44 eF44 (by decide +kernel)) (any_sub (lₚ := []) (by decide +kernel))) (SF_gluc (ι := oz_B4clsl_1) oz_B4cls_12 hS45 eF45 (by decide +kernel)) (any_sub (lₚ := []) (by decide +kernel))) (SA_trans (SA_trans (SA_trans (SA_trans (SA_trans (SA_trans (SA_trans (SA_trans (hA_46) (SA_gluc (ι := oz_B4clsl_2) oz_B4cls_4 hA38 eA38 (by decide +kernel)) (any_subA (lₚ := []) (by decide +kernel))) (SA_gluc (ι := oz_B4clsl_1) oz_B4cls_12 hA39 eA39 (by decide +kernel)) (any_subA (lₚ := []) (by decide +kernel))) (SA_gluc (ι := oz_B4clsl_2) oz_B4cls_4 hA40 eA40 (by decide +kernel)) (any_subA (lₚ := []) (by decide +kernel))) (SA_gluc (ι := oz_B4clsl_1) oz_B4cls_12 hA41 eA41 (by decide +kernel)) (any_subA (lₚ := []) (by decide +kernel))) (SA_gluc (ι := oz_B4clsl_2) oz_B4cls_4 hA42 eA42 (by decide +kernel)) (any_subA (lₚ := []) (by decide +kernel))) (SA_gluc (ι := oz_B4clsl_1) oz_B4cls_12 hA43 eA43 (by decide +kernel)) (any_subA (lₚ := []) (by decide +kernel))) (SA_gluc (ι := oz_B4clsl_2) oz_B4cls_4 hA44 eA44 (by decide +kernel)) (any_subA (lₚ := []) (by decide +kernel))) (SA_gluc (ι := oz_B4clsl_1) oz_B4cls_12 hA45 eA45 (by decide +kernel)) (any_subA (lₚ := []) (by decide +kernel)))     (show inr ((x46_4 + 16)) from q_2583 b30 h3 j46_0 r1) (show inr (z39) from pz39_0) (show inr (z41) from pz41_0) (show inr (z43) from pz43_0) (show inr (z45) from pz45_0) (show (a2) ≤ ((x46_4 + 16)) ∧ ((x46_4 + 16)) ≤ (a3) from q_91 b30 j46_5) rfl
abbrev V52_Br : vV := [(1, 0, [])]
theorem len_V52_Br_oz_B4cls : (V52_Br).length = 1 := by decide +kernel
theorem oz_B4cls_14 : vsub V52_Br V47 [] = true := by decide +kernel
theorem oz_B4cls_15 : vsub V52_Br V42_Br [0] = true := by decide +kernel
theorem oz_B4cls_16 : vsub V52_Br V50 [] = true := by decide +kernel
/-- PackHouse.wideRest: #1 -/
theorem C52_Br {σE : rS} {D N : Nat → Nat} {F : hF} {A : hA} {d c s : Nat} {Q : wQ} (H : HW V52_Br σE D N F A) {a2 a3 a4 : Int} (n0 : Int) (en0 : (N 0 : Int) = n0) (h0 : inr (a2)) (h1 : inr (a3)) (h2 : inrJ (a4)) (h3 : 0 ≤ (a2) ∧ (a2) ≤ (a3) ∧ (a3) ≤ (n0)) (k : ∀ (z : Int) (σ : rS) (Fₚ : hF) (Aₚ : hA), HW V52_Br σ D N Fₚ Aₚ → OUT (V52_Br).length D N σE c s D N σ c s → SF [] F Fₚ → SA [] A Aₚ → (inrJ (z)) → Q (some (J z)) σ c s) : Ew 52 (d + 2) 0 (rargs 0 [.ref (D 0), I a2, I a3, J a4]) [] σE c s Q := by
  have O := OUT_refl (n := (V52_Br).length) (D := D) (N := N) (σ := σE) (c := c) (s := s)
  have HE := H
  have r1 : (0 : Int) ≤ n0 ∧ n0 ≤ 1000000 := nleE (H.nle 0 (ltn len_V52_Br_oz_B4cls rfl)) (show (N 0 : Int) = n0 from en0)
  refine Ew_of (pcₚ := 1) (fun _ => x_iload_n rfl rfl) ?_
  refine Ew_of (pcₚ := 3) (fun _ => x_istore rfl) ?_
  refine Ew_of (pcₚ := 4) (fun _ => x_lload_n rfl (rk_o (rfl) rfl rfl)) ?_
  refine Ew_of (pcₚ := 6) (fun _ => x_lstore rfl) ?_
  suffices hl6 : ∀ (m : Nat), ∀ (ls : rO) (σ : rS) (F_6 : hF) (A_6 : hA) (x6_5 : Int) (x6_6 : Int), rlook ls 0 = some (.ref (D 0)) → rlook ls 2 = some (I (a3)) → rlook ls 5 = some (I (x6_5)) → rlook ls 6 = some (J (x6_6)) → HW V52_Br σ D N F_6 A_6 → OUT (V52_Br).length D N σE c s D N σ c s → SF [] F F_6 → SA [] A A_6 → (inr (x6_5)) → (inrJ (x6_6)) → ((a2) ≤ (x6_5) ∧ (x6_5) ≤ (a3)) → ((a3) - (x6_5)).toNat = m → Ew 52 (d + 2) 6 ls [] σ c s Q from
    hl6 _ _ _ _ _ (a2) (a4) (rk2_o (rk_o (rfl) rfl rfl) rfl rfl) (rk2_o (rk_o (rfl) rfl rfl) rfl rfl) (rk2_o (rk_s) rfl rfl) (rk2_s) H O (SF_refl) (SA_refl)     (show inr (a2) from h0) (show inrJ (a4) from h2) (show (a2) ≤ (a2) ∧ (a2) ≤ (a3) from q_2385 h3) rfl
  as_aux_lemma =>
  intro m
  induction m using Nat.strongRecOn with
  | _ m ih6 =>
    intro ls σ F_6 A_6 x6_5 x6_6 l6_0 l6_2 l6_5 l6_6 H O hS_6 hA_6     j6_0 j6_1 j6_2 hm6
    have cF_6 : SF oz_B4clsl_0 F F_6 := SF_trans (SF_refl) hS_6 (any_sub (by decide +kernel))
    have mF_6 := SFm_of cF_6 oz_B4cls_2
    have cA_6 : SA oz_B4clsl_1 A A_6 := SA_trans (SA_refl) hA_6 (any_subA (by decide +kernel))
    have mA_6 := SAm_of cA_6 oz_B4cls_3
    refine Ew_of (pcₚ := 7) (fun _ => x_iload_n rfl l6_2) ?_
    refine Ew_of (pcₚ := 9) (fun _ => x_iload rfl l6_5) ?_
    refine w_isub rfl ?_
    refine Ew_of (pcₚ := 12) (fun _ => x_bipush (z := 8) rfl (by decide)) ?_
    refine w_icmplt (t := 51) rfl rfl (show inr ((a3 - x6_5)) from q_2571 h1 h3 j6_2) (show inr (8) from q_96) (fun b2 => ?_) (fun b2 => ?_)
    · refine Ew_of (pcₚ := 52) (fun _ => x_iload_n rfl l6_2) ?_
      refine Ew_of (pcₚ := 54) (fun _ => x_iload rfl l6_5) ?_
      refine w_isub rfl ?_
      refine Ew_of (pcₚ := 56) (fun _ => x_iconst rfl) ?_
      refine w_icmplt (t := 91) rfl rfl (show inr ((a3 - x6_5)) from q_1249 b2 j6_2) (show inr (4) from q_2) (fun b3 => ?_) (fun b3 => ?_)
      · suffices hl91 : ∀ (m : Nat), ∀ (ls : rO) (σ : rS) (F_91 : hF) (A_91 : hA) (x91_5 : Int) (x91_6 : Int), rlook ls 0 = some (.ref (D 0)) → rlook ls 2 = some (I (a3)) → rlook ls 5 = some (I (x91_5)) → rlook ls 6 = some (J (x91_6)) → HW V52_Br σ D N F_91 A_91 → OUT (V52_Br).length D N σE c s D N σ c s → SF [] F_6 F_91 → SA [] A_6 A_91 → (inr (x91_5)) → (inrJ (x91_6)) → ((a2) ≤ (x91_5) ∧ (x91_5) ≤ (a3)) → ((a3) - (x91_5)).toNat = m → Ew 52 (d + 2) 91 ls [] σ c s Q from
          hl91 _ _ _ _ _ (x6_5) (x6_6) (l6_0) (l6_2) (l6_5) (l6_6) H O (SF_refl) (SA_refl)     (show inr (x6_5) from j6_0) (show inrJ (x6_6) from j6_1) (show (a2) ≤ (x6_5) ∧ (x6_5) ≤ (a3) from j6_2) rfl
        as_aux_lemma =>
        intro m
        induction m using Nat.strongRecOn with
        | _ m ih91 =>
          intro ls σ F_91 A_91 x91_5 x91_6 l91_0 l91_2 l91_5 l91_6 H O hS_91 hA_91     j91_0 j91_1 j91_2 hm91
          have cF_91 : SF oz_B4clsl_0 F F_91 := SF_trans (cF_6) hS_91 (any_sub (by decide +kernel))
          have mF_91 := SFm_of cF_91 oz_B4cls_2
          have cA_91 : SA oz_B4clsl_1 A A_91 := SA_trans (cA_6) hA_91 (any_subA (by decide +kernel))
          have mA_91 := SAm_of cA_91 oz_B4cls_3
          refine Ew_of (pcₚ := 93) (fun _ => x_iload rfl l91_5) ?_
          refine Ew_of (pcₚ := 94) (fun _ => x_iload_n rfl l91_2) ?_
          refine w_icmpge (t := 130) rfl rfl (show inr (x91_5) from j91_0) (show inr (a3) from h1) (fun b4 => ?_) (fun b4 => ?_)
          · refine Ew_of (pcₚ := 132) (fun _ => x_lload rfl l91_6) ?_
            refine Ew_of (pcₚ := 134) (fun _ => x_lload rfl l91_6) ?_
            refine Ew_of (pcₚ := 136) (fun _ => x_bipush (z := 33) rfl (by decide)) ?_
            refine w_lushrA rfl (fun z5 gz5 => ?_)
            refine w_lxorA rfl (fun z6 gz6 => ?_)
            refine Ew_of (pcₚ := 141) (fun _ => x_ldc2 (z := -4417276706812531889) rfl (by decide)) ?_
            refine w_lmulA rfl (fun z7 gz7 => ?_)
            refine Ew_of (pcₚ := 144) (fun _ => x_lstore rfl) ?_
            refine Ew_of (pcₚ := 146) (fun _ => x_lload rfl rk2_s) ?_
            refine Ew_of (pcₚ := 148) (fun _ => x_lload rfl rk2_s) ?_
            refine Ew_of (pcₚ := 150) (fun _ => x_bipush (z := 29) rfl (by decide)) ?_
            refine w_lushrA rfl (fun z8 gz8 => ?_)
            refine w_lxorA rfl (fun z9 gz9 => ?_)
            refine Ew_of (pcₚ := 155) (fun _ => x_ldc2 (z := 1609587929392839161) rfl (by decide)) ?_
            refine w_lmulA rfl (fun z10 gz10 => ?_)
            refine Ew_of (pcₚ := 158) (fun _ => x_lstore rfl) ?_
            refine Ew_of (pcₚ := 160) (fun _ => x_lload rfl rk2_s) ?_
            refine Ew_of (pcₚ := 162) (fun _ => x_lload rfl rk2_s) ?_
            refine Ew_of (pcₚ := 164) (fun _ => x_bipush (z := 32) rfl (by decide)) ?_
            refine w_lushrA rfl (fun z11 gz11 => ?_)
            refine w_lxorA rfl (fun z12 gz12 => ?_)
            exact w_lreturn rfl (k (z12) _ _ _ H O (cF_91) (cA_91) (show inrJ (z12) from gz12))
          · refine Ew_of (pcₚ := 99) (fun _ => x_lload rfl l91_6) ?_
            refine Ew_of (pcₚ := 100) (fun _ => x_aload_n rfl l91_0) ?_
            refine Ew_of (pcₚ := 102) (fun _ => x_iload rfl l91_5) ?_
            refine v_lB H (o := 0) rfl rfl rfl rfl (n := n0) (en0) (show 0 ≤ x91_5 ∧ x91_5 < n0 from q_2572 b4 h3 j91_2) (fun v13 ev13 qv13 => ?_)
            have ev13 : (A 0) (x91_5) = v13 := (congrFun (funext (mA_91 0 rfl)) (x91_5)).symm.trans ev13
            refine Ew_of (pcₚ := 106) (fun _ => x_sipush (z := 255) rfl (by decide)) ?_
            refine w_iand rfl (show inr (v13) from q_2536 qv13) (show inr (255) from q_36) (fun z14 gz14 gaz14 gbz14 => ?_)
            refine w_i2l rfl (show inr (z14) from gz14) ?_
            refine Ew_of (pcₚ := 111) (fun _ => x_ldc2 (z := 2870177450012600261) rfl (by decide)) ?_
            refine w_lmulA rfl (fun z15 gz15 => ?_)
            refine w_lxorA rfl (fun z16 gz16 => ?_)
            refine Ew_of (pcₚ := 115) (fun _ => x_bipush (z := 11) rfl (by decide)) ?_
            refine w_stat24 rfl rfl (by rfl) (C47 (D := puc 0 D) (N := puc 0 N) (HW_subc H oz_B4cls_14 oz_B4cls_12) (show inrJ (z16) from gz16) (show inr (11) from q_67) (fun z17 σ17 F17ₚ A17ₚ Hₚ Oₚ hS17 hA17 pz17_0 => ⟨rfl, ?_⟩))
            refine v_backc (c := c) (s := s) H oz_B4cls_14 oz_B4cls_12 Hₚ Oₚ (fun F17 A17 H Oₚ eF17 eA17 => ?_)
            have O := OUT_trans O Oₚ
            -- PackHouse.rotated
            have cF17 : SF oz_B4clsl_0 F F17 := SF_trans (cF_91) (SF_gluc (ι := oz_B4clsl_1) oz_B4cls_12 hS17 eF17 (by decide +kernel)) (any_sub (lₚ := []) (by decide +kernel))
            have mF17 := SFm_of cF17 oz_B4cls_2
            have cA17 : SA oz_B4clsl_1 A A17 := SA_trans (cA_91) (SA_gluc (ι := oz_B4clsl_1) oz_B4cls_12 hA17 eA17 (by decide +kernel)) (any_subA (lₚ := []) (by decide +kernel))
            have mA17 := SAm_of cA17 oz_B4cls_3
            refine Ew_of (pcₚ := 121) (fun _ => x_ldc2 (z := -7046029288634856825) rfl (by decide)) ?_
            refine w_lmulA rfl (fun z18 gz18 => ?_)
            refine Ew_of (pcₚ := 124) (fun _ => x_lstore rfl) ?_
            refine Ew_of (pcₚ := 127) (fun _ => x_iinc (len := 3) rfl (rk2_o (l91_5) rfl rfl)) ?_
            refine Ew_of (pcₚ := 91) (fun _ => x_goto rfl rfl) ?_
            exact ih91 _ (msE hm91 q_31 (q_34 b4)) _ _ _ _ ((x91_5 + 1)) (z18) (rk_o (rk2_o (l91_0) rfl rfl) rfl rfl) (rk_o (rk2_o (l91_2) rfl rfl) rfl rfl) (rk_s) (rk_o (rk2_s) rfl rfl) H O (SF_trans (hS_91) (SF_gluc (ι := oz_B4clsl_1) oz_B4cls_12 hS17 eF17 (by decide +kernel)) (any_sub (lₚ := []) (by decide +kernel))) (SA_trans (hA_91) (SA_gluc (ι := oz_B4clsl_1) oz_B4cls_12 hA17 eA17 (by decide +kernel)) (any_subA (lₚ := []) (by decide +kernel)))     (show inr ((x91_5 + 1)) from q_2573 b4 h1 j91_0) (show inrJ (z18) from gz18) (show (a2) ≤ ((x91_5 + 1)) ∧ ((x91_5 + 1)) ≤ (a3) from q_1251 b4 j91_2) rfl
      · refine Ew_of (pcₚ := 61) (fun _ => x_lload rfl l6_6) ?_
        refine Ew_of (pcₚ := 62) (fun _ => x_aload_n rfl l6_0) ?_
        refine Ew_of (pcₚ := 64) (fun _ => x_iload rfl l6_5) ?_
        refine Ew_of (pcₚ := 65) (fun _ => x_iconst rfl) ?_
        refine w_stat24 rfl rfl (by rfl) (C42_Br (D := puc 0 D) (N := puc 0 N) (HW_subc H oz_B4cls_15 oz_B4cls_4) (n0) (en0) (show inr (x6_5) from j6_0) (show inr (4) from q_2) (show (4) ≤ 0 ∨ 0 ≤ (x6_5) ∧ (x6_5) + (4) ≤ (n0) from q_2584 b3 h3 j6_2) (show 0 ≤ (4) from q_2565) (fun z19 σ19 F19ₚ A19ₚ Hₚ Oₚ hS19 hA19 pz19_0 pz19_1 => ⟨rfl, ?_⟩))
        refine v_backc (c := c) (s := s) H oz_B4cls_15 oz_B4cls_4 Hₚ Oₚ (fun F19 A19 H Oₚ eF19 eA19 => ?_)
        have O := OUT_trans O Oₚ
        -- PackHouse.number
        have cF19 : SF oz_B4clsl_0 F F19 := SF_trans (cF_6) (SF_gluc (ι := oz_B4clsl_2) oz_B4cls_4 hS19 eF19 (by decide +kernel)) (any_sub (lₚ := []) (by decide +kernel))
        have mF19 := SFm_of cF19 oz_B4cls_2
        have cA19 : SA oz_B4clsl_1 A A19 := SA_trans (cA_6) (SA_gluc (ι := oz_B4clsl_2) oz_B4cls_4 hA19 eA19 (by decide +kernel)) (any_subA (lₚ := []) (by decide +kernel))
        have mA19 := SAm_of cA19 oz_B4cls_3
        refine Ew_of (pcₚ := 71) (fun _ => x_ldc2 (z := -7046029288634856825) rfl (by decide)) ?_
        refine w_lmulA rfl (fun z20 gz20 => ?_)
        refine w_lxorA rfl (fun z21 gz21 => ?_)
        refine Ew_of (pcₚ := 75) (fun _ => x_bipush (z := 23) rfl (by decide)) ?_
        refine w_stat24 rfl rfl (by rfl) (C47 (D := puc 0 D) (N := puc 0 N) (HW_subc H oz_B4cls_14 oz_B4cls_12) (show inrJ (z21) from gz21) (show inr (23) from q_604) (fun z22 σ22 F22ₚ A22ₚ Hₚ Oₚ hS22 hA22 pz22_0 => ⟨rfl, ?_⟩))
        refine v_backc (c := c) (s := s) H oz_B4cls_14 oz_B4cls_12 Hₚ Oₚ (fun F22 A22 H Oₚ eF22 eA22 => ?_)
        have O := OUT_trans O Oₚ
        -- PackHouse.rotated
        have cF22 : SF oz_B4clsl_0 F F22 := SF_trans (cF19) (SF_gluc (ι := oz_B4clsl_1) oz_B4cls_12 hS22 eF22 (by decide +kernel)) (any_sub (lₚ := []) (by decide +kernel))
        have mF22 := SFm_of cF22 oz_B4cls_2
        have cA22 : SA oz_B4clsl_1 A A22 := SA_trans (cA19) (SA_gluc (ι := oz_B4clsl_1) oz_B4cls_12 hA22 eA22 (by decide +kernel)) (any_subA (lₚ := []) (by decide +kernel))
        have mA22 := SAm_of cA22 oz_B4cls_3
        refine Ew_of (pcₚ := 81) (fun _ => x_ldc2 (z := -4417276706812531889) rfl (by decide)) ?_
        refine w_lmulA rfl (fun z23 gz23 => ?_)
        refine Ew_of (pcₚ := 85) (fun _ => x_ldc2 (z := 1609587929392839161) rfl (by decide)) ?_
        refine w_laddA rfl (fun z24 gz24 => ?_)
        refine Ew_of (pcₚ := 88) (fun _ => x_lstore rfl) ?_
        refine Ew_of (pcₚ := 91) (fun _ => x_iinc (len := 3) rfl (rk2_o (l6_5) rfl rfl)) ?_
        suffices hl91 : ∀ (m : Nat), ∀ (ls : rO) (σ : rS) (F_91 : hF) (A_91 : hA) (x91_5 : Int) (x91_6 : Int), rlook ls 0 = some (.ref (D 0)) → rlook ls 2 = some (I (a3)) → rlook ls 5 = some (I (x91_5)) → rlook ls 6 = some (J (x91_6)) → HW V52_Br σ D N F_91 A_91 → OUT (V52_Br).length D N σE c s D N σ c s → SF [] F22 F_91 → SA [] A22 A_91 → (inr (x91_5)) → (inrJ (x91_6)) → ((a2) ≤ (x91_5) ∧ (x91_5) ≤ (a3)) → ((a3) - (x91_5)).toNat = m → Ew 52 (d + 2) 91 ls [] σ c s Q from
          hl91 _ _ _ _ _ ((x6_5 + 4)) (z24) (rk_o (rk2_o (l6_0) rfl rfl) rfl rfl) (rk_o (rk2_o (l6_2) rfl rfl) rfl rfl) (rk_s) (rk_o (rk2_s) rfl rfl) H O (SF_refl) (SA_refl)     (show inr ((x6_5 + 4)) from q_2575 b3 h3 j6_0 r1) (show inrJ (z24) from gz24) (show (a2) ≤ ((x6_5 + 4)) ∧ ((x6_5 + 4)) ≤ (a3) from q_344 b3 j6_2) rfl
        as_aux_lemma =>
        intro m
        induction m using Nat.strongRecOn with
        | _ m ih91 =>
          intro ls σ F_91 A_91 x91_5 x91_6 l91_0 l91_2 l91_5 l91_6 H O hS_91 hA_91     j91_0 j91_1 j91_2 hm91
          have cF_91 : SF oz_B4clsl_0 F F_91 := SF_trans (cF22) hS_91 (any_sub (by decide +kernel))
          have mF_91 := SFm_of cF_91 oz_B4cls_2
          have cA_91 : SA oz_B4clsl_1 A A_91 := SA_trans (cA22) hA_91 (any_subA (by decide +kernel))
          have mA_91 := SAm_of cA_91 oz_B4cls_3
          refine Ew_of (pcₚ := 93) (fun _ => x_iload rfl l91_5) ?_
          refine Ew_of (pcₚ := 94) (fun _ => x_iload_n rfl l91_2) ?_
          refine w_icmpge (t := 130) rfl rfl (show inr (x91_5) from j91_0) (show inr (a3) from h1) (fun b25 => ?_) (fun b25 => ?_)
          · refine Ew_of (pcₚ := 132) (fun _ => x_lload rfl l91_6) ?_
            refine Ew_of (pcₚ := 134) (fun _ => x_lload rfl l91_6) ?_
            refine Ew_of (pcₚ := 136) (fun _ => x_bipush (z := 33) rfl (by decide)) ?_
            refine w_lushrA rfl (fun z26 gz26 => ?_)
            refine w_lxorA rfl (fun z27 gz27 => ?_)
            refine Ew_of (pcₚ := 141) (fun _ => x_ldc2 (z := -4417276706812531889) rfl (by decide)) ?_
            refine w_lmulA rfl (fun z28 gz28 => ?_)
            refine Ew_of (pcₚ := 144) (fun _ => x_lstore rfl) ?_
            refine Ew_of (pcₚ := 146) (fun _ => x_lload rfl rk2_s) ?_
            refine Ew_of (pcₚ := 148) (fun _ => x_lload rfl rk2_s) ?_
            refine Ew_of (pcₚ := 150) (fun _ => x_bipush (z := 29) rfl (by decide)) ?_
            refine w_lushrA rfl (fun z29 gz29 => ?_)
            refine w_lxorA rfl (fun z30 gz30 => ?_)
            refine Ew_of (pcₚ := 155) (fun _ => x_ldc2 (z := 1609587929392839161) rfl (by decide)) ?_
            refine w_lmulA rfl (fun z31 gz31 => ?_)
            refine Ew_of (pcₚ := 158) (fun _ => x_lstore rfl) ?_
            refine Ew_of (pcₚ := 160) (fun _ => x_lload rfl rk2_s) ?_
            refine Ew_of (pcₚ := 162) (fun _ => x_lload rfl rk2_s) ?_
            refine Ew_of (pcₚ := 164) (fun _ => x_bipush (z := 32) rfl (by decide)) ?_
            refine w_lushrA rfl (fun z32 gz32 => ?_)
            refine w_lxorA rfl (fun z33 gz33 => ?_)
            exact w_lreturn rfl (k (z33) _ _ _ H O (cF_91) (cA_91) (show inrJ (z33) from gz33))
          · refine Ew_of (pcₚ := 99) (fun _ => x_lload rfl l91_6) ?_
            refine Ew_of (pcₚ := 100) (fun _ => x_aload_n rfl l91_0) ?_
            refine Ew_of (pcₚ := 102) (fun _ => x_iload rfl l91_5) ?_
            refine v_lB H (o := 0) rfl rfl rfl rfl (n := n0) (en0) (show 0 ≤ x91_5 ∧ x91_5 < n0 from q_2572 b25 h3 j91_2) (fun v34 ev34 qv34 => ?_)
            have ev34 : (A 0) (x91_5) = v34 := (congrFun (funext (mA_91 0 rfl)) (x91_5)).symm.trans ev34
            refine Ew_of (pcₚ := 106) (fun _ => x_sipush (z := 255) rfl (by decide)) ?_
            refine w_iand rfl (show inr (v34) from q_2536 qv34) (show inr (255) from q_36) (fun z35 gz35 gaz35 gbz35 => ?_)
            refine w_i2l rfl (show inr (z35) from gz35) ?_
            refine Ew_of (pcₚ := 111) (fun _ => x_ldc2 (z := 2870177450012600261) rfl (by decide)) ?_
            refine w_lmulA rfl (fun z36 gz36 => ?_)
            refine w_lxorA rfl (fun z37 gz37 => ?_)
            refine Ew_of (pcₚ := 115) (fun _ => x_bipush (z := 11) rfl (by decide)) ?_
            refine w_stat24 rfl rfl (by rfl) (C47 (D := puc 0 D) (N := puc 0 N) (HW_subc H oz_B4cls_14 oz_B4cls_12) (show inrJ (z37) from gz37) (show inr (11) from q_67) (fun z38 σ38 F38ₚ A38ₚ Hₚ Oₚ hS38 hA38 pz38_0 => ⟨rfl, ?_⟩))
            refine v_backc (c := c) (s := s) H oz_B4cls_14 oz_B4cls_12 Hₚ Oₚ (fun F38 A38 H Oₚ eF38 eA38 => ?_)
            have O := OUT_trans O Oₚ
            -- PackHouse.rotated
            have cF38 : SF oz_B4clsl_0 F F38 := SF_trans (cF_91) (SF_gluc (ι := oz_B4clsl_1) oz_B4cls_12 hS38 eF38 (by decide +kernel)) (any_sub (lₚ := []) (by decide +kernel))
            have mF38 := SFm_of cF38 oz_B4cls_2
            have cA38 : SA oz_B4clsl_1 A A38 := SA_trans (cA_91) (SA_gluc (ι := oz_B4clsl_1) oz_B4cls_12 hA38 eA38 (by decide +kernel)) (any_subA (lₚ := []) (by decide +kernel))
            have mA38 := SAm_of cA38 oz_B4cls_3
            refine Ew_of (pcₚ := 121) (fun _ => x_ldc2 (z := -7046029288634856825) rfl (by decide)) ?_
            refine w_lmulA rfl (fun z39 gz39 => ?_)
            refine Ew_of (pcₚ := 124) (fun _ => x_lstore rfl) ?_
            refine Ew_of (pcₚ := 127) (fun _ => x_iinc (len := 3) rfl (rk2_o (l91_5) rfl rfl)) ?_
            refine Ew_of (pcₚ := 91) (fun _ => x_goto rfl rfl) ?_
            exact ih91 _ (msE hm91 q_31 (q_34 b25)) _ _ _ _ ((x91_5 + 1)) (z39) (rk_o (rk2_o (l91_0) rfl rfl) rfl rfl) (rk_o (rk2_o (l91_2) rfl rfl) rfl rfl) (rk_s) (rk_o (rk2_s) rfl rfl) H O (SF_trans (hS_91) (SF_gluc (ι := oz_B4clsl_1) oz_B4cls_12 hS38 eF38 (by decide +kernel)) (any_sub (lₚ := []) (by decide +kernel))) (SA_trans (hA_91) (SA_gluc (ι := oz_B4clsl_1) oz_B4cls_12 hA38 eA38 (by decide +kernel)) (any_subA (lₚ := []) (by decide +kernel)))     (show inr ((x91_5 + 1)) from q_2535 b25 h3 j91_0 r1) (show inrJ (z39) from gz39) (show (a2) ≤ ((x91_5 + 1)) ∧ ((x91_5 + 1)) ≤ (a3) from q_1251 b25 j91_2) rfl
    · refine Ew_of (pcₚ := 17) (fun _ => x_lload rfl l6_6) ?_
      refine Ew_of (pcₚ := 18) (fun _ => x_lconst (z := 0) rfl (by decide)) ?_
      refine Ew_of (pcₚ := 19) (fun _ => x_aload_n rfl l6_0) ?_
      refine Ew_of (pcₚ := 21) (fun _ => x_iload rfl l6_5) ?_
      refine Ew_of (pcₚ := 23) (fun _ => x_bipush (z := 8) rfl (by decide)) ?_
      refine w_stat24 rfl rfl (by rfl) (C42_Br (D := puc 0 D) (N := puc 0 N) (HW_subc H oz_B4cls_15 oz_B4cls_4) (n0) (en0) (show inr (x6_5) from j6_0) (show inr (8) from q_96) (show (8) ≤ 0 ∨ 0 ≤ (x6_5) ∧ (x6_5) + (8) ≤ (n0) from q_2586 b2 h3 j6_2) (show 0 ≤ (8) from q_2585) (fun z40 σ40 F40ₚ A40ₚ Hₚ Oₚ hS40 hA40 pz40_0 pz40_1 => ⟨rfl, ?_⟩))
      refine v_backc (c := c) (s := s) H oz_B4cls_15 oz_B4cls_4 Hₚ Oₚ (fun F40 A40 H Oₚ eF40 eA40 => ?_)
      have O := OUT_trans O Oₚ
      -- PackHouse.number
      have cF40 : SF oz_B4clsl_0 F F40 := SF_trans (cF_6) (SF_gluc (ι := oz_B4clsl_2) oz_B4cls_4 hS40 eF40 (by decide +kernel)) (any_sub (lₚ := []) (by decide +kernel))
      have mF40 := SFm_of cF40 oz_B4cls_2
      have cA40 : SA oz_B4clsl_1 A A40 := SA_trans (cA_6) (SA_gluc (ι := oz_B4clsl_2) oz_B4cls_4 hA40 eA40 (by decide +kernel)) (any_subA (lₚ := []) (by decide +kernel))
      have mA40 := SAm_of cA40 oz_B4cls_3
      refine w_stat24 rfl rfl (by rfl) (C50 (D := puc 0 D) (N := puc 0 N) (HW_subc H oz_B4cls_16 oz_B4cls_12) (show inrJ (0) from q_81) (show inrJ (z40) from pz40_0) (fun z41 σ41 F41ₚ A41ₚ Hₚ Oₚ hS41 hA41 pz41_0 => ⟨rfl, ?_⟩))
      refine v_backc (c := c) (s := s) H oz_B4cls_16 oz_B4cls_12 Hₚ Oₚ (fun F41 A41 H Oₚ eF41 eA41 => ?_)
      have O := OUT_trans O Oₚ
      -- PackHouse.wideLane
      have cF41 : SF oz_B4clsl_0 F F41 := SF_trans (cF40) (SF_gluc (ι := oz_B4clsl_1) oz_B4cls_12 hS41 eF41 (by decide +kernel)) (any_sub (lₚ := []) (by decide +kernel))
      have mF41 := SFm_of cF41 oz_B4cls_2
      have cA41 : SA oz_B4clsl_1 A A41 := SA_trans (cA40) (SA_gluc (ι := oz_B4clsl_1) oz_B4cls_12 hA41 eA41 (by decide +kernel)) (any_subA (lₚ := []) (by decide +kernel))
      have mA41 := SAm_of cA41 oz_B4cls_3
      refine w_lxorA rfl (fun z42 gz42 => ?_)
      refine Ew_of (pcₚ := 32) (fun _ => x_bipush (z := 27) rfl (by decide)) ?_
      refine w_stat24 rfl rfl (by rfl) (C47 (D := puc 0 D) (N := puc 0 N) (HW_subc H oz_B4cls_14 oz_B4cls_12) (show inrJ (z42) from gz42) (show inr (27) from q_608) (fun z43 σ43 F43ₚ A43ₚ Hₚ Oₚ hS43 hA43 pz43_0 => ⟨rfl, ?_⟩))
      refine v_backc (c := c) (s := s) H oz_B4cls_14 oz_B4cls_12 Hₚ Oₚ (fun F43 A43 H Oₚ eF43 eA43 => ?_)
      have O := OUT_trans O Oₚ
      -- PackHouse.rotated
      have cF43 : SF oz_B4clsl_0 F F43 := SF_trans (cF41) (SF_gluc (ι := oz_B4clsl_1) oz_B4cls_12 hS43 eF43 (by decide +kernel)) (any_sub (lₚ := []) (by decide +kernel))
      have mF43 := SFm_of cF43 oz_B4cls_2
      have cA43 : SA oz_B4clsl_1 A A43 := SA_trans (cA41) (SA_gluc (ι := oz_B4clsl_1) oz_B4cls_12 hA43 eA43 (by decide +kernel)) (any_subA (lₚ := []) (by decide +kernel))
      have mA43 := SAm_of cA43 oz_B4cls_3
      refine Ew_of (pcₚ := 38) (fun _ => x_ldc2 (z := -7046029288634856825) rfl (by decide)) ?_
      refine w_lmulA rfl (fun z44 gz44 => ?_)
      refine Ew_of (pcₚ := 42) (fun _ => x_ldc2 (z := -8796714831421723037) rfl (by decide)) ?_
      refine w_laddA rfl (fun z45 gz45 => ?_)
      refine Ew_of (pcₚ := 45) (fun _ => x_lstore rfl) ?_
      refine Ew_of (pcₚ := 48) (fun _ => x_iinc (len := 3) rfl (rk2_o (l6_5) rfl rfl)) ?_
      refine Ew_of (pcₚ := 6) (fun _ => x_goto rfl rfl) ?_
      exact ih6 _ (msE hm6 q_1252 (q_1253 b2)) _ _ _ _ ((x6_5 + 8)) (z45) (rk_o (rk2_o (l6_0) rfl rfl) rfl rfl) (rk_o (rk2_o (l6_2) rfl rfl) rfl rfl) (rk_s) (rk_o (rk2_s) rfl rfl) H O (SF_trans (SF_trans (SF_trans (hS_6) (SF_gluc (ι := oz_B4clsl_2) oz_B4cls_4 hS40 eF40 (by decide +kernel)) (any_sub (lₚ := []) (by decide +kernel))) (SF_gluc (ι := oz_B4clsl_1) oz_B4cls_12 hS41 eF41 (by decide +kernel)) (any_sub (lₚ := []) (by decide +kernel))) (SF_gluc (ι := oz_B4clsl_1) oz_B4cls_12 hS43 eF43 (by decide +kernel)) (any_sub (lₚ := []) (by decide +kernel))) (SA_trans (SA_trans (SA_trans (hA_6) (SA_gluc (ι := oz_B4clsl_2) oz_B4cls_4 hA40 eA40 (by decide +kernel)) (any_subA (lₚ := []) (by decide +kernel))) (SA_gluc (ι := oz_B4clsl_1) oz_B4cls_12 hA41 eA41 (by decide +kernel)) (any_subA (lₚ := []) (by decide +kernel))) (SA_gluc (ι := oz_B4clsl_1) oz_B4cls_12 hA43 eA43 (by decide +kernel)) (any_subA (lₚ := []) (by decide +kernel)))     (show inr ((x6_5 + 8)) from q_2587 b2 h3 j6_0 r1) (show inrJ (z45) from gz45) (show (a2) ≤ ((x6_5 + 8)) ∧ ((x6_5 + 8)) ≤ (a3) from q_609 b2 j6_2) rfl
abbrev V51_Br : vV := [(1, 0, [])]
theorem len_V51_Br_oz_B4cls : (V51_Br).length = 1 := by decide +kernel
theorem oz_B4cls_18 : vsub V51_Br V52_Br [0] = true := by decide +kernel
theorem oz_B4cls_19 : vsub V51_Br V47 [] = true := by decide +kernel
theorem oz_B4cls_20 : vsub V51_Br V50 [] = true := by decide +kernel
theorem oz_B4cls_21 : vsub V51_Br V42_Br [0] = true := by decide +kernel
/-- PackHouse.wideSum: #1 -/
theorem C51_Br {σE : rS} {D N : Nat → Nat} {F : hF} {A : hA} {d c s : Nat} {Q : wQ} (H : HW V51_Br σE D N F A) {a2 a3 a4 : Int} (n0 : Int) (en0 : (N 0 : Int) = n0) (h0 : inr (a2)) (h1 : inr (a3)) (h2 : inrJ (a4)) (h3 : 0 ≤ (a2) ∧ (a2) ≤ (a3) ∧ (a3) ≤ (n0)) (k : ∀ (z : Int) (σ : rS) (Fₚ : hF) (Aₚ : hA), HW V51_Br σ D N Fₚ Aₚ → OUT (V51_Br).length D N σE c s D N σ c s → SF [] F Fₚ → SA [] A Aₚ → (inrJ (z)) → Q (some (J z)) σ c s) : Ew 51 (d + 3) 0 (rargs 0 [.ref (D 0), I a2, I a3, J a4]) [] σE c s Q := by
  have O := OUT_refl (n := (V51_Br).length) (D := D) (N := N) (σ := σE) (c := c) (s := s)
  have HE := H
  have r1 : (0 : Int) ≤ n0 ∧ n0 ≤ 1000000 := nleE (H.nle 0 (ltn len_V51_Br_oz_B4cls rfl)) (show (N 0 : Int) = n0 from en0)
  refine Ew_of (pcₚ := 1) (fun _ => x_iload_n rfl rfl) ?_
  refine Ew_of (pcₚ := 3) (fun _ => x_istore rfl) ?_
  refine Ew_of (pcₚ := 4) (fun _ => x_lload_n rfl (rk_o (rfl) rfl rfl)) ?_
  refine Ew_of (pcₚ := 7) (fun _ => x_ldc2 (z := 2870177450012600261) rfl (by decide)) ?_
  refine w_laddA rfl (fun z2 gz2 => ?_)
  refine Ew_of (pcₚ := 10) (fun _ => x_lstore rfl) ?_
  have hc238 : ∀ (ls : rO) (σ : rS) (F_c238 : hF) (A_c238 : hA) (xc238_5 : Int) (xc238_6 : Int), rlook ls 0 = some (.ref (D 0)) → rlook ls 1 = some (I (a2)) → rlook ls 2 = some (I (a3)) → rlook ls 5 = some (I (xc238_5)) → rlook ls 6 = some (J (xc238_6)) → HW V51_Br σ D N F_c238 A_c238 → OUT (V51_Br).length D N σE c s D N σ c s → SF [] F F_c238 → SA [] A A_c238 → (inr (xc238_5)) → (inrJ (xc238_6)) → ((a2) ≤ (xc238_5) ∧ (xc238_5) ≤ (a3)) → Ew 51 (d + 3) 238 ls [] σ c s Q := by
   as_aux_lemma =>
    intro  ls σ F_c238 A_c238 xc238_5 xc238_6 lc238_0 lc238_1 lc238_2 lc238_5 lc238_6 H O hS_c238 hA_c238     jc238_0 jc238_1 jc238_2
    have cF_c238 : SF oz_B4clsl_0 F F_c238 := SF_trans (SF_refl) hS_c238 (any_sub (by decide +kernel))
    have mF_c238 := SFm_of cF_c238 oz_B4cls_2
    have cA_c238 : SA oz_B4clsl_1 A A_c238 := SA_trans (SA_refl) hA_c238 (any_subA (by decide +kernel))
    have mA_c238 := SAm_of cA_c238 oz_B4cls_3
    refine Ew_of (pcₚ := 239) (fun _ => x_aload_n rfl lc238_0) ?_
    refine Ew_of (pcₚ := 241) (fun _ => x_iload rfl lc238_5) ?_
    refine Ew_of (pcₚ := 242) (fun _ => x_iload_n rfl lc238_2) ?_
    refine Ew_of (pcₚ := 244) (fun _ => x_lload rfl lc238_6) ?_
    refine Ew_of (pcₚ := 245) (fun _ => x_iload_n rfl lc238_2) ?_
    refine Ew_of (pcₚ := 246) (fun _ => x_iload_n rfl lc238_1) ?_
    refine w_isub rfl ?_
    refine w_i2l rfl (show inr ((a3 - a2)) from q_2392 h1 h3) ?_
    refine w_laddA rfl (fun z3 gz3 => ?_)
    refine w_stat24 rfl rfl (by rfl) (C52_Br (D := puc 0 D) (N := puc 0 N) (HW_subc H oz_B4cls_18 oz_B4cls_4) (n0) (en0) (show inr (xc238_5) from jc238_0) (show inr (a3) from h1) (show inrJ (z3) from gz3) (show 0 ≤ (xc238_5) ∧ (xc238_5) ≤ (a3) ∧ (a3) ≤ (n0) from q_2588 h3 jc238_2) (fun z4 σ4 F4ₚ A4ₚ Hₚ Oₚ hS4 hA4 pz4_0 => ⟨rfl, ?_⟩))
    refine v_backc (c := c) (s := s) H oz_B4cls_18 oz_B4cls_4 Hₚ Oₚ (fun F4 A4 H Oₚ eF4 eA4 => ?_)
    have O := OUT_trans O Oₚ
    -- PackHouse.wideRest
    have cF4 : SF oz_B4clsl_0 F F4 := SF_trans (cF_c238) (SF_gluc (ι := oz_B4clsl_2) oz_B4cls_4 hS4 eF4 (by decide +kernel)) (any_sub (lₚ := []) (by decide +kernel))
    have mF4 := SFm_of cF4 oz_B4cls_2
    have cA4 : SA oz_B4clsl_1 A A4 := SA_trans (cA_c238) (SA_gluc (ι := oz_B4clsl_2) oz_B4cls_4 hA4 eA4 (by decide +kernel)) (any_subA (lₚ := []) (by decide +kernel))
    have mA4 := SAm_of cA4 oz_B4cls_3
    exact w_lreturn rfl (k (z4) _ _ _ H O (cF4) (cA4) (show inrJ (z4) from pz4_0))
  refine Ew_of (pcₚ := 11) (fun _ => x_iload_n rfl (rk2_o (rk_o (rfl) rfl rfl) rfl rfl)) ?_
  refine Ew_of (pcₚ := 12) (fun _ => x_iload_n rfl (rk2_o (rk_o (rfl) rfl rfl) rfl rfl)) ?_
  refine w_isub rfl ?_
  refine Ew_of (pcₚ := 15) (fun _ => x_bipush (z := 32) rfl (by decide)) ?_
  refine w_icmplt (t := 238) rfl rfl (show inr ((a3 - a2)) from q_2392 h1 h3) (show inr (32) from q_417) (fun b5 => ?_) (fun b5 => ?_)
  · exact hc238  _ _ _ _ (a2) (z2) (rk2_o (rk_o (rfl) rfl rfl) rfl rfl) (rk2_o (rk_o (rfl) rfl rfl) rfl rfl) (rk2_o (rk_o (rfl) rfl rfl) rfl rfl) (rk2_o (rk_s) rfl rfl) (rk2_s) H O (SF_refl) (SA_refl)     (show inr (a2) from h0) (show inrJ (z2) from gz2) (show (a2) ≤ (a2) ∧ (a2) ≤ (a3) from q_2385 h3)
  · refine Ew_of (pcₚ := 19) (fun _ => x_lload_n rfl (rk2_o (rk_o (rfl) rfl rfl) rfl rfl)) ?_
    refine Ew_of (pcₚ := 22) (fun _ => x_ldc2 (z := -7046029288634856825) rfl (by decide)) ?_
    refine w_laddA rfl (fun z6 gz6 => ?_)
    refine Ew_of (pcₚ := 26) (fun _ => x_ldc2 (z := -4417276706812531889) rfl (by decide)) ?_
    refine w_laddA rfl (fun z7 gz7 => ?_)
    refine Ew_of (pcₚ := 29) (fun _ => x_lstore rfl) ?_
    refine Ew_of (pcₚ := 30) (fun _ => x_lload_n rfl (rk2_o (rk2_o (rk_o (rfl) rfl rfl) rfl rfl) rfl rfl)) ?_
    refine Ew_of (pcₚ := 33) (fun _ => x_ldc2 (z := -4417276706812531889) rfl (by decide)) ?_
    refine w_laddA rfl (fun z8 gz8 => ?_)
    refine Ew_of (pcₚ := 36) (fun _ => x_lstore rfl) ?_
    refine Ew_of (pcₚ := 37) (fun _ => x_lload_n rfl (rk2_o (rk2_o (rk2_o (rk_o (rfl) rfl rfl) rfl rfl) rfl rfl) rfl rfl)) ?_
    refine Ew_of (pcₚ := 39) (fun _ => x_lstore rfl) ?_
    refine Ew_of (pcₚ := 40) (fun _ => x_lload_n rfl (rk2_o (rk2_o (rk2_o (rk2_o (rk_o (rfl) rfl rfl) rfl rfl) rfl rfl) rfl rfl) rfl rfl)) ?_
    refine Ew_of (pcₚ := 43) (fun _ => x_ldc2 (z := -7046029288634856825) rfl (by decide)) ?_
    refine w_lsubA rfl (fun z9 gz9 => ?_)
    refine Ew_of (pcₚ := 46) (fun _ => x_lstore rfl) ?_
    suffices hl46 : ∀ (m : Nat), ∀ (ls : rO) (σ : rS) (F_46 : hF) (A_46 : hA) (x46_5 : Int) (x46_8 : Int) (x46_10 : Int) (x46_12 : Int) (x46_14 : Int), rlook ls 0 = some (.ref (D 0)) → rlook ls 1 = some (I (a2)) → rlook ls 2 = some (I (a3)) → rlook ls 5 = some (I (x46_5)) → rlook ls 8 = some (J (x46_8)) → rlook ls 10 = some (J (x46_10)) → rlook ls 12 = some (J (x46_12)) → rlook ls 14 = some (J (x46_14)) → HW V51_Br σ D N F_46 A_46 → OUT (V51_Br).length D N σE c s D N σ c s → SF [] F F_46 → SA [] A A_46 → (inr (x46_5)) → (inrJ (x46_8)) → (inrJ (x46_10)) → (inrJ (x46_12)) → (inrJ (x46_14)) → ((a2) ≤ (x46_5) ∧ (x46_5) ≤ (a3)) → ((a3) - (x46_5)).toNat = m → Ew 51 (d + 3) 46 ls [] σ c s Q from
      hl46 _ _ _ _ _ (a2) (z7) (z8) (a4) (z9) (rk2_o (rk2_o (rk2_o (rk2_o (rk2_o (rk_o (rfl) rfl rfl) rfl rfl) rfl rfl) rfl rfl) rfl rfl) rfl rfl) (rk2_o (rk2_o (rk2_o (rk2_o (rk2_o (rk_o (rfl) rfl rfl) rfl rfl) rfl rfl) rfl rfl) rfl rfl) rfl rfl) (rk2_o (rk2_o (rk2_o (rk2_o (rk2_o (rk_o (rfl) rfl rfl) rfl rfl) rfl rfl) rfl rfl) rfl rfl) rfl rfl) (rk2_o (rk2_o (rk2_o (rk2_o (rk2_o (rk_s) rfl rfl) rfl rfl) rfl rfl) rfl rfl) rfl rfl) (rk2_o (rk2_o (rk2_o (rk2_s) rfl rfl) rfl rfl) rfl rfl) (rk2_o (rk2_o (rk2_s) rfl rfl) rfl rfl) (rk2_o (rk2_s) rfl rfl) (rk2_s) H O (SF_refl) (SA_refl)     (show inr (a2) from h0) (show inrJ (z7) from gz7) (show inrJ (z8) from gz8) (show inrJ (a4) from h2) (show inrJ (z9) from gz9) (show (a2) ≤ (a2) ∧ (a2) ≤ (a3) from q_2385 h3) rfl
    as_aux_lemma =>
    intro m
    induction m using Nat.strongRecOn with
    | _ m ih46 =>
      intro ls σ F_46 A_46 x46_5 x46_8 x46_10 x46_12 x46_14 l46_0 l46_1 l46_2 l46_5 l46_8 l46_10 l46_12 l46_14 H O hS_46 hA_46     j46_0 j46_1 j46_2 j46_3 j46_4 j46_5 hm46
      have cF_46 : SF oz_B4clsl_0 F F_46 := SF_trans (SF_refl) hS_46 (any_sub (by decide +kernel))
      have mF_46 := SFm_of cF_46 oz_B4cls_2
      have cA_46 : SA oz_B4clsl_1 A A_46 := SA_trans (SA_refl) hA_46 (any_subA (by decide +kernel))
      have mA_46 := SAm_of cA_46 oz_B4cls_3
      refine Ew_of (pcₚ := 47) (fun _ => x_iload_n rfl l46_2) ?_
      refine Ew_of (pcₚ := 49) (fun _ => x_iload rfl l46_5) ?_
      refine w_isub rfl ?_
      refine Ew_of (pcₚ := 52) (fun _ => x_bipush (z := 32) rfl (by decide)) ?_
      refine w_icmplt (t := 130) rfl rfl (show inr ((a3 - x46_5)) from q_2571 h1 h3 j46_5) (show inr (32) from q_417) (fun b10 => ?_) (fun b10 => ?_)
      · refine Ew_of (pcₚ := 132) (fun _ => x_lload rfl l46_8) ?_
        refine Ew_of (pcₚ := 133) (fun _ => x_iconst rfl) ?_
        refine w_stat24 rfl rfl (by rfl) (C47 (D := puc 0 D) (N := puc 0 N) (HW_subc H oz_B4cls_19 oz_B4cls_12) (show inrJ (x46_8) from j46_1) (show inr (1) from q_23) (fun z11 σ11 F11ₚ A11ₚ Hₚ Oₚ hS11 hA11 pz11_0 => ⟨rfl, ?_⟩))
        refine v_backc (c := c) (s := s) H oz_B4cls_19 oz_B4cls_12 Hₚ Oₚ (fun F11 A11 H Oₚ eF11 eA11 => ?_)
        have O := OUT_trans O Oₚ
        -- PackHouse.rotated
        have cF11 : SF oz_B4clsl_0 F F11 := SF_trans (cF_46) (SF_gluc (ι := oz_B4clsl_1) oz_B4cls_12 hS11 eF11 (by decide +kernel)) (any_sub (lₚ := []) (by decide +kernel))
        have mF11 := SFm_of cF11 oz_B4cls_2
        have cA11 : SA oz_B4clsl_1 A A11 := SA_trans (cA_46) (SA_gluc (ι := oz_B4clsl_1) oz_B4cls_12 hA11 eA11 (by decide +kernel)) (any_subA (lₚ := []) (by decide +kernel))
        have mA11 := SAm_of cA11 oz_B4cls_3
        refine Ew_of (pcₚ := 138) (fun _ => x_lload rfl l46_10) ?_
        refine Ew_of (pcₚ := 140) (fun _ => x_bipush (z := 7) rfl (by decide)) ?_
        refine w_stat24 rfl rfl (by rfl) (C47 (D := puc 0 D) (N := puc 0 N) (HW_subc H oz_B4cls_19 oz_B4cls_12) (show inrJ (x46_10) from j46_2) (show inr (7) from q_355) (fun z12 σ12 F12ₚ A12ₚ Hₚ Oₚ hS12 hA12 pz12_0 => ⟨rfl, ?_⟩))
        refine v_backc (c := c) (s := s) H oz_B4cls_19 oz_B4cls_12 Hₚ Oₚ (fun F12 A12 H Oₚ eF12 eA12 => ?_)
        have O := OUT_trans O Oₚ
        -- PackHouse.rotated
        have cF12 : SF oz_B4clsl_0 F F12 := SF_trans (cF11) (SF_gluc (ι := oz_B4clsl_1) oz_B4cls_12 hS12 eF12 (by decide +kernel)) (any_sub (lₚ := []) (by decide +kernel))
        have mF12 := SFm_of cF12 oz_B4cls_2
        have cA12 : SA oz_B4clsl_1 A A12 := SA_trans (cA11) (SA_gluc (ι := oz_B4clsl_1) oz_B4cls_12 hA12 eA12 (by decide +kernel)) (any_subA (lₚ := []) (by decide +kernel))
        have mA12 := SAm_of cA12 oz_B4cls_3
        refine w_laddA rfl (fun z13 gz13 => ?_)
        refine Ew_of (pcₚ := 146) (fun _ => x_lload rfl l46_12) ?_
        refine Ew_of (pcₚ := 148) (fun _ => x_bipush (z := 12) rfl (by decide)) ?_
        refine w_stat24 rfl rfl (by rfl) (C47 (D := puc 0 D) (N := puc 0 N) (HW_subc H oz_B4cls_19 oz_B4cls_12) (show inrJ (x46_12) from j46_3) (show inr (12) from q_356) (fun z14 σ14 F14ₚ A14ₚ Hₚ Oₚ hS14 hA14 pz14_0 => ⟨rfl, ?_⟩))
        refine v_backc (c := c) (s := s) H oz_B4cls_19 oz_B4cls_12 Hₚ Oₚ (fun F14 A14 H Oₚ eF14 eA14 => ?_)
        have O := OUT_trans O Oₚ
        -- PackHouse.rotated
        have cF14 : SF oz_B4clsl_0 F F14 := SF_trans (cF12) (SF_gluc (ι := oz_B4clsl_1) oz_B4cls_12 hS14 eF14 (by decide +kernel)) (any_sub (lₚ := []) (by decide +kernel))
        have mF14 := SFm_of cF14 oz_B4cls_2
        have cA14 : SA oz_B4clsl_1 A A14 := SA_trans (cA12) (SA_gluc (ι := oz_B4clsl_1) oz_B4cls_12 hA14 eA14 (by decide +kernel)) (any_subA (lₚ := []) (by decide +kernel))
        have mA14 := SAm_of cA14 oz_B4cls_3
        refine w_laddA rfl (fun z15 gz15 => ?_)
        refine Ew_of (pcₚ := 154) (fun _ => x_lload rfl l46_14) ?_
        refine Ew_of (pcₚ := 156) (fun _ => x_bipush (z := 18) rfl (by decide)) ?_
        refine w_stat24 rfl rfl (by rfl) (C47 (D := puc 0 D) (N := puc 0 N) (HW_subc H oz_B4cls_19 oz_B4cls_12) (show inrJ (x46_14) from j46_4) (show inr (18) from q_357) (fun z16 σ16 F16ₚ A16ₚ Hₚ Oₚ hS16 hA16 pz16_0 => ⟨rfl, ?_⟩))
        refine v_backc (c := c) (s := s) H oz_B4cls_19 oz_B4cls_12 Hₚ Oₚ (fun F16 A16 H Oₚ eF16 eA16 => ?_)
        have O := OUT_trans O Oₚ
        -- PackHouse.rotated
        have cF16 : SF oz_B4clsl_0 F F16 := SF_trans (cF14) (SF_gluc (ι := oz_B4clsl_1) oz_B4cls_12 hS16 eF16 (by decide +kernel)) (any_sub (lₚ := []) (by decide +kernel))
        have mF16 := SFm_of cF16 oz_B4cls_2
        have cA16 : SA oz_B4clsl_1 A A16 := SA_trans (cA14) (SA_gluc (ι := oz_B4clsl_1) oz_B4cls_12 hA16 eA16 (by decide +kernel)) (any_subA (lₚ := []) (by decide +kernel))
        have mA16 := SAm_of cA16 oz_B4cls_3
        refine w_laddA rfl (fun z17 gz17 => ?_)
        refine Ew_of (pcₚ := 162) (fun _ => x_lstore rfl) ?_
        refine Ew_of (pcₚ := 164) (fun _ => x_lload rfl rk2_s) ?_
        refine Ew_of (pcₚ := 165) (fun _ => x_lconst (z := 0) rfl (by decide)) ?_
        refine Ew_of (pcₚ := 167) (fun _ => x_lload rfl (rk2_o (l46_8) rfl rfl)) ?_
        refine w_stat24 rfl rfl (by rfl) (C50 (D := puc 0 D) (N := puc 0 N) (HW_subc H oz_B4cls_20 oz_B4cls_12) (show inrJ (0) from q_81) (show inrJ (x46_8) from j46_1) (fun z18 σ18 F18ₚ A18ₚ Hₚ Oₚ hS18 hA18 pz18_0 => ⟨rfl, ?_⟩))
        refine v_backc (c := c) (s := s) H oz_B4cls_20 oz_B4cls_12 Hₚ Oₚ (fun F18 A18 H Oₚ eF18 eA18 => ?_)
        have O := OUT_trans O Oₚ
        -- PackHouse.wideLane
        have cF18 : SF oz_B4clsl_0 F F18 := SF_trans (cF16) (SF_gluc (ι := oz_B4clsl_1) oz_B4cls_12 hS18 eF18 (by decide +kernel)) (any_sub (lₚ := []) (by decide +kernel))
        have mF18 := SFm_of cF18 oz_B4cls_2
        have cA18 : SA oz_B4clsl_1 A A18 := SA_trans (cA16) (SA_gluc (ι := oz_B4clsl_1) oz_B4cls_12 hA18 eA18 (by decide +kernel)) (any_subA (lₚ := []) (by decide +kernel))
        have mA18 := SAm_of cA18 oz_B4cls_3
        refine w_lxorA rfl (fun z19 gz19 => ?_)
        refine Ew_of (pcₚ := 174) (fun _ => x_ldc2 (z := -7046029288634856825) rfl (by decide)) ?_
        refine w_lmulA rfl (fun z20 gz20 => ?_)
        refine Ew_of (pcₚ := 178) (fun _ => x_ldc2 (z := -8796714831421723037) rfl (by decide)) ?_
        refine w_laddA rfl (fun z21 gz21 => ?_)
        refine Ew_of (pcₚ := 181) (fun _ => x_lstore rfl) ?_
        refine Ew_of (pcₚ := 183) (fun _ => x_lload rfl rk2_s) ?_
        refine Ew_of (pcₚ := 184) (fun _ => x_lconst (z := 0) rfl (by decide)) ?_
        refine Ew_of (pcₚ := 186) (fun _ => x_lload rfl (rk2_o (rk2_o (l46_10) rfl rfl) rfl rfl)) ?_
        refine w_stat24 rfl rfl (by rfl) (C50 (D := puc 0 D) (N := puc 0 N) (HW_subc H oz_B4cls_20 oz_B4cls_12) (show inrJ (0) from q_81) (show inrJ (x46_10) from j46_2) (fun z22 σ22 F22ₚ A22ₚ Hₚ Oₚ hS22 hA22 pz22_0 => ⟨rfl, ?_⟩))
        refine v_backc (c := c) (s := s) H oz_B4cls_20 oz_B4cls_12 Hₚ Oₚ (fun F22 A22 H Oₚ eF22 eA22 => ?_)
        have O := OUT_trans O Oₚ
        -- PackHouse.wideLane
        have cF22 : SF oz_B4clsl_0 F F22 := SF_trans (cF18) (SF_gluc (ι := oz_B4clsl_1) oz_B4cls_12 hS22 eF22 (by decide +kernel)) (any_sub (lₚ := []) (by decide +kernel))
        have mF22 := SFm_of cF22 oz_B4cls_2
        have cA22 : SA oz_B4clsl_1 A A22 := SA_trans (cA18) (SA_gluc (ι := oz_B4clsl_1) oz_B4cls_12 hA22 eA22 (by decide +kernel)) (any_subA (lₚ := []) (by decide +kernel))
        have mA22 := SAm_of cA22 oz_B4cls_3
        refine w_lxorA rfl (fun z23 gz23 => ?_)
        refine Ew_of (pcₚ := 193) (fun _ => x_ldc2 (z := -7046029288634856825) rfl (by decide)) ?_
        refine w_lmulA rfl (fun z24 gz24 => ?_)
        refine Ew_of (pcₚ := 197) (fun _ => x_ldc2 (z := -8796714831421723037) rfl (by decide)) ?_
        refine w_laddA rfl (fun z25 gz25 => ?_)
        refine Ew_of (pcₚ := 200) (fun _ => x_lstore rfl) ?_
        refine Ew_of (pcₚ := 202) (fun _ => x_lload rfl rk2_s) ?_
        refine Ew_of (pcₚ := 203) (fun _ => x_lconst (z := 0) rfl (by decide)) ?_
        refine Ew_of (pcₚ := 205) (fun _ => x_lload rfl (rk2_o (rk2_o (rk2_o (l46_12) rfl rfl) rfl rfl) rfl rfl)) ?_
        refine w_stat24 rfl rfl (by rfl) (C50 (D := puc 0 D) (N := puc 0 N) (HW_subc H oz_B4cls_20 oz_B4cls_12) (show inrJ (0) from q_81) (show inrJ (x46_12) from j46_3) (fun z26 σ26 F26ₚ A26ₚ Hₚ Oₚ hS26 hA26 pz26_0 => ⟨rfl, ?_⟩))
        refine v_backc (c := c) (s := s) H oz_B4cls_20 oz_B4cls_12 Hₚ Oₚ (fun F26 A26 H Oₚ eF26 eA26 => ?_)
        have O := OUT_trans O Oₚ
        -- PackHouse.wideLane
        have cF26 : SF oz_B4clsl_0 F F26 := SF_trans (cF22) (SF_gluc (ι := oz_B4clsl_1) oz_B4cls_12 hS26 eF26 (by decide +kernel)) (any_sub (lₚ := []) (by decide +kernel))
        have mF26 := SFm_of cF26 oz_B4cls_2
        have cA26 : SA oz_B4clsl_1 A A26 := SA_trans (cA22) (SA_gluc (ι := oz_B4clsl_1) oz_B4cls_12 hA26 eA26 (by decide +kernel)) (any_subA (lₚ := []) (by decide +kernel))
        have mA26 := SAm_of cA26 oz_B4cls_3
        refine w_lxorA rfl (fun z27 gz27 => ?_)
        refine Ew_of (pcₚ := 212) (fun _ => x_ldc2 (z := -7046029288634856825) rfl (by decide)) ?_
        refine w_lmulA rfl (fun z28 gz28 => ?_)
        refine Ew_of (pcₚ := 216) (fun _ => x_ldc2 (z := -8796714831421723037) rfl (by decide)) ?_
        refine w_laddA rfl (fun z29 gz29 => ?_)
        refine Ew_of (pcₚ := 219) (fun _ => x_lstore rfl) ?_
        refine Ew_of (pcₚ := 221) (fun _ => x_lload rfl rk2_s) ?_
        refine Ew_of (pcₚ := 222) (fun _ => x_lconst (z := 0) rfl (by decide)) ?_
        refine Ew_of (pcₚ := 224) (fun _ => x_lload rfl (rk2_o (rk2_o (rk2_o (rk2_o (l46_14) rfl rfl) rfl rfl) rfl rfl) rfl rfl)) ?_
        refine w_stat24 rfl rfl (by rfl) (C50 (D := puc 0 D) (N := puc 0 N) (HW_subc H oz_B4cls_20 oz_B4cls_12) (show inrJ (0) from q_81) (show inrJ (x46_14) from j46_4) (fun z30 σ30 F30ₚ A30ₚ Hₚ Oₚ hS30 hA30 pz30_0 => ⟨rfl, ?_⟩))
        refine v_backc (c := c) (s := s) H oz_B4cls_20 oz_B4cls_12 Hₚ Oₚ (fun F30 A30 H Oₚ eF30 eA30 => ?_)
        have O := OUT_trans O Oₚ
        -- PackHouse.wideLane
        have cF30 : SF oz_B4clsl_0 F F30 := SF_trans (cF26) (SF_gluc (ι := oz_B4clsl_1) oz_B4cls_12 hS30 eF30 (by decide +kernel)) (any_sub (lₚ := []) (by decide +kernel))
        have mF30 := SFm_of cF30 oz_B4cls_2
        have cA30 : SA oz_B4clsl_1 A A30 := SA_trans (cA26) (SA_gluc (ι := oz_B4clsl_1) oz_B4cls_12 hA30 eA30 (by decide +kernel)) (any_subA (lₚ := []) (by decide +kernel))
        have mA30 := SAm_of cA30 oz_B4cls_3
        refine w_lxorA rfl (fun z31 gz31 => ?_)
        refine Ew_of (pcₚ := 231) (fun _ => x_ldc2 (z := -7046029288634856825) rfl (by decide)) ?_
        refine w_lmulA rfl (fun z32 gz32 => ?_)
        refine Ew_of (pcₚ := 235) (fun _ => x_ldc2 (z := -8796714831421723037) rfl (by decide)) ?_
        refine w_laddA rfl (fun z33 gz33 => ?_)
        refine Ew_of (pcₚ := 238) (fun _ => x_lstore rfl) ?_
        exact hc238  _ _ _ _ (x46_5) (z33) (rk2_o (rk2_o (rk2_o (rk2_o (rk2_o (l46_0) rfl rfl) rfl rfl) rfl rfl) rfl rfl) rfl rfl) (rk2_o (rk2_o (rk2_o (rk2_o (rk2_o (l46_1) rfl rfl) rfl rfl) rfl rfl) rfl rfl) rfl rfl) (rk2_o (rk2_o (rk2_o (rk2_o (rk2_o (l46_2) rfl rfl) rfl rfl) rfl rfl) rfl rfl) rfl rfl) (rk2_o (rk2_o (rk2_o (rk2_o (rk2_o (l46_5) rfl rfl) rfl rfl) rfl rfl) rfl rfl) rfl rfl) (rk2_s) H O (SF_trans (SF_trans (SF_trans (SF_trans (SF_trans (SF_trans (SF_trans (SF_trans (SF_trans (SF_refl) hS_46 (any_sub (by decide +kernel))) (SF_gluc (ι := oz_B4clsl_1) oz_B4cls_12 hS11 eF11 (by decide +kernel)) (any_sub (lₚ := []) (by decide +kernel))) (SF_gluc (ι := oz_B4clsl_1) oz_B4cls_12 hS12 eF12 (by decide +kernel)) (any_sub (lₚ := []) (by decide +kernel))) (SF_gluc (ι := oz_B4clsl_1) oz_B4cls_12 hS14 eF14 (by decide +kernel)) (any_sub (lₚ := []) (by decide +kernel))) (SF_gluc (ι := oz_B4clsl_1) oz_B4cls_12 hS16 eF16 (by decide +kernel)) (any_sub (lₚ := []) (by decide +kernel))) (SF_gluc (ι := oz_B4clsl_1) oz_B4cls_12 hS18 eF18 (by decide +kernel)) (any_sub (lₚ := []) (by decide +kernel))) (SF_gluc (ι := oz_B4clsl_1) oz_B4cls_12 hS22 eF22 (by decide +kernel)) (any_sub (lₚ := []) (by decide +kernel))) (SF_gluc (ι := oz_B4clsl_1) oz_B4cls_12 hS26 eF26 (by decide +kernel)) (any_sub (lₚ := []) (by decide +kernel))) (SF_gluc (ι := oz_B4clsl_1) oz_B4cls_12 hS30 eF30 (by decide +kernel)) (any_sub (lₚ := []) (by decide +kernel))) (SA_trans (SA_trans (SA_trans (SA_trans (SA_trans (SA_trans (SA_trans (SA_trans (SA_trans (SA_refl) hA_46 (any_subA (by decide +kernel))) (SA_gluc (ι := oz_B4clsl_1) oz_B4cls_12 hA11 eA11 (by decide +kernel)) (any_subA (lₚ := []) (by decide +kernel))) (SA_gluc (ι := oz_B4clsl_1) oz_B4cls_12 hA12 eA12 (by decide +kernel)) (any_subA (lₚ := []) (by decide +kernel))) (SA_gluc (ι := oz_B4clsl_1) oz_B4cls_12 hA14 eA14 (by decide +kernel)) (any_subA (lₚ := []) (by decide +kernel))) (SA_gluc (ι := oz_B4clsl_1) oz_B4cls_12 hA16 eA16 (by decide +kernel)) (any_subA (lₚ := []) (by decide +kernel))) (SA_gluc (ι := oz_B4clsl_1) oz_B4cls_12 hA18 eA18 (by decide +kernel)) (any_subA (lₚ := []) (by decide +kernel))) (SA_gluc (ι := oz_B4clsl_1) oz_B4cls_12 hA22 eA22 (by decide +kernel)) (any_subA (lₚ := []) (by decide +kernel))) (SA_gluc (ι := oz_B4clsl_1) oz_B4cls_12 hA26 eA26 (by decide +kernel)) (any_subA (lₚ := []) (by decide +kernel))) (SA_gluc (ι := oz_B4clsl_1) oz_B4cls_12 hA30 eA30 (by decide +kernel)) (any_subA (lₚ := []) (by decide +kernel)))     (show inr (x46_5) from j46_0) (show inrJ (z33) from gz33) (show (a2) ≤ (x46_5) ∧ (x46_5) ≤ (a3) from j46_5)
      · refine Ew_of (pcₚ := 57) (fun _ => x_lload rfl l46_8) ?_
        refine Ew_of (pcₚ := 58) (fun _ => x_aload_n rfl l46_0) ?_
        refine Ew_of (pcₚ := 60) (fun _ => x_iload rfl l46_5) ?_
        refine Ew_of (pcₚ := 62) (fun _ => x_bipush (z := 8) rfl (by decide)) ?_
        refine w_stat24 rfl rfl (by rfl) (C42_Br (D := puc 0 D) (N := puc 0 N) (HW_subc H oz_B4cls_21 oz_B4cls_4) (n0) (en0) (show inr (x46_5) from j46_0) (show inr (8) from q_96) (show (8) ≤ 0 ∨ 0 ≤ (x46_5) ∧ (x46_5) + (8) ≤ (n0) from q_2589 b10 h3 j46_5) (show 0 ≤ (8) from q_2585) (fun z34 σ34 F34ₚ A34ₚ Hₚ Oₚ hS34 hA34 pz34_0 pz34_1 => ⟨rfl, ?_⟩))
        refine v_backc (c := c) (s := s) H oz_B4cls_21 oz_B4cls_4 Hₚ Oₚ (fun F34 A34 H Oₚ eF34 eA34 => ?_)
        have O := OUT_trans O Oₚ
        -- PackHouse.number
        have cF34 : SF oz_B4clsl_0 F F34 := SF_trans (cF_46) (SF_gluc (ι := oz_B4clsl_2) oz_B4cls_4 hS34 eF34 (by decide +kernel)) (any_sub (lₚ := []) (by decide +kernel))
        have mF34 := SFm_of cF34 oz_B4cls_2
        have cA34 : SA oz_B4clsl_1 A A34 := SA_trans (cA_46) (SA_gluc (ι := oz_B4clsl_2) oz_B4cls_4 hA34 eA34 (by decide +kernel)) (any_subA (lₚ := []) (by decide +kernel))
        have mA34 := SAm_of cA34 oz_B4cls_3
        refine w_stat24 rfl rfl (by rfl) (C50 (D := puc 0 D) (N := puc 0 N) (HW_subc H oz_B4cls_20 oz_B4cls_12) (show inrJ (x46_8) from j46_1) (show inrJ (z34) from pz34_0) (fun z35 σ35 F35ₚ A35ₚ Hₚ Oₚ hS35 hA35 pz35_0 => ⟨rfl, ?_⟩))
        refine v_backc (c := c) (s := s) H oz_B4cls_20 oz_B4cls_12 Hₚ Oₚ (fun F35 A35 H Oₚ eF35 eA35 => ?_)
        have O := OUT_trans O Oₚ
        -- PackHouse.wideLane
        have cF35 : SF oz_B4clsl_0 F F35 := SF_trans (cF34) (SF_gluc (ι := oz_B4clsl_1) oz_B4cls_12 hS35 eF35 (by decide +kernel)) (any_sub (lₚ := []) (by decide +kernel))
        have mF35 := SFm_of cF35 oz_B4cls_2
        have cA35 : SA oz_B4clsl_1 A A35 := SA_trans (cA34) (SA_gluc (ι := oz_B4clsl_1) oz_B4cls_12 hA35 eA35 (by decide +kernel)) (any_subA (lₚ := []) (by decide +kernel))
        have mA35 := SAm_of cA35 oz_B4cls_3
        refine Ew_of (pcₚ := 70) (fun _ => x_lstore rfl) ?_
        refine Ew_of (pcₚ := 72) (fun _ => x_lload rfl (rk2_o (l46_10) rfl rfl)) ?_
        refine Ew_of (pcₚ := 73) (fun _ => x_aload_n rfl (rk2_o (l46_0) rfl rfl)) ?_
        refine Ew_of (pcₚ := 75) (fun _ => x_iload rfl (rk2_o (l46_5) rfl rfl)) ?_
        refine Ew_of (pcₚ := 77) (fun _ => x_bipush (z := 8) rfl (by decide)) ?_
        refine w_iadd rfl ?_
        refine Ew_of (pcₚ := 80) (fun _ => x_bipush (z := 8) rfl (by decide)) ?_
        refine w_stat24 rfl rfl (by rfl) (C42_Br (D := puc 0 D) (N := puc 0 N) (HW_subc H oz_B4cls_21 oz_B4cls_4) (n0) (en0) (show inr ((x46_5 + 8)) from q_2591 b10 h1 j46_0) (show inr (8) from q_96) (show (8) ≤ 0 ∨ 0 ≤ ((x46_5 + 8)) ∧ ((x46_5 + 8)) + (8) ≤ (n0) from q_2590 b10 h3 j46_5) (show 0 ≤ (8) from q_2585) (fun z36 σ36 F36ₚ A36ₚ Hₚ Oₚ hS36 hA36 pz36_0 pz36_1 => ⟨rfl, ?_⟩))
        refine v_backc (c := c) (s := s) H oz_B4cls_21 oz_B4cls_4 Hₚ Oₚ (fun F36 A36 H Oₚ eF36 eA36 => ?_)
        have O := OUT_trans O Oₚ
        -- PackHouse.number
        have cF36 : SF oz_B4clsl_0 F F36 := SF_trans (cF35) (SF_gluc (ι := oz_B4clsl_2) oz_B4cls_4 hS36 eF36 (by decide +kernel)) (any_sub (lₚ := []) (by decide +kernel))
        have mF36 := SFm_of cF36 oz_B4cls_2
        have cA36 : SA oz_B4clsl_1 A A36 := SA_trans (cA35) (SA_gluc (ι := oz_B4clsl_2) oz_B4cls_4 hA36 eA36 (by decide +kernel)) (any_subA (lₚ := []) (by decide +kernel))
        have mA36 := SAm_of cA36 oz_B4cls_3
        refine w_stat24 rfl rfl (by rfl) (C50 (D := puc 0 D) (N := puc 0 N) (HW_subc H oz_B4cls_20 oz_B4cls_12) (show inrJ (x46_10) from j46_2) (show inrJ (z36) from pz36_0) (fun z37 σ37 F37ₚ A37ₚ Hₚ Oₚ hS37 hA37 pz37_0 => ⟨rfl, ?_⟩))
        refine v_backc (c := c) (s := s) H oz_B4cls_20 oz_B4cls_12 Hₚ Oₚ (fun F37 A37 H Oₚ eF37 eA37 => ?_)
        have O := OUT_trans O Oₚ
        -- PackHouse.wideLane
        have cF37 : SF oz_B4clsl_0 F F37 := SF_trans (cF36) (SF_gluc (ι := oz_B4clsl_1) oz_B4cls_12 hS37 eF37 (by decide +kernel)) (any_sub (lₚ := []) (by decide +kernel))
        have mF37 := SFm_of cF37 oz_B4cls_2
        have cA37 : SA oz_B4clsl_1 A A37 := SA_trans (cA36) (SA_gluc (ι := oz_B4clsl_1) oz_B4cls_12 hA37 eA37 (by decide +kernel)) (any_subA (lₚ := []) (by decide +kernel))
        have mA37 := SAm_of cA37 oz_B4cls_3
        refine Ew_of (pcₚ := 88) (fun _ => x_lstore rfl) ?_
        refine Ew_of (pcₚ := 90) (fun _ => x_lload rfl (rk2_o (rk2_o (l46_12) rfl rfl) rfl rfl)) ?_
        refine Ew_of (pcₚ := 91) (fun _ => x_aload_n rfl (rk2_o (rk2_o (l46_0) rfl rfl) rfl rfl)) ?_
        refine Ew_of (pcₚ := 93) (fun _ => x_iload rfl (rk2_o (rk2_o (l46_5) rfl rfl) rfl rfl)) ?_
        refine Ew_of (pcₚ := 95) (fun _ => x_bipush (z := 16) rfl (by decide)) ?_
        refine w_iadd rfl ?_
        refine Ew_of (pcₚ := 98) (fun _ => x_bipush (z := 8) rfl (by decide)) ?_
        refine w_stat24 rfl rfl (by rfl) (C42_Br (D := puc 0 D) (N := puc 0 N) (HW_subc H oz_B4cls_21 oz_B4cls_4) (n0) (en0) (show inr ((x46_5 + 16)) from q_2593 b10 h1 j46_0) (show inr (8) from q_96) (show (8) ≤ 0 ∨ 0 ≤ ((x46_5 + 16)) ∧ ((x46_5 + 16)) + (8) ≤ (n0) from q_2592 b10 h3 j46_5) (show 0 ≤ (8) from q_2585) (fun z38 σ38 F38ₚ A38ₚ Hₚ Oₚ hS38 hA38 pz38_0 pz38_1 => ⟨rfl, ?_⟩))
        refine v_backc (c := c) (s := s) H oz_B4cls_21 oz_B4cls_4 Hₚ Oₚ (fun F38 A38 H Oₚ eF38 eA38 => ?_)
        have O := OUT_trans O Oₚ
        -- PackHouse.number
        have cF38 : SF oz_B4clsl_0 F F38 := SF_trans (cF37) (SF_gluc (ι := oz_B4clsl_2) oz_B4cls_4 hS38 eF38 (by decide +kernel)) (any_sub (lₚ := []) (by decide +kernel))
        have mF38 := SFm_of cF38 oz_B4cls_2
        have cA38 : SA oz_B4clsl_1 A A38 := SA_trans (cA37) (SA_gluc (ι := oz_B4clsl_2) oz_B4cls_4 hA38 eA38 (by decide +kernel)) (any_subA (lₚ := []) (by decide +kernel))
        have mA38 := SAm_of cA38 oz_B4cls_3
        refine w_stat24 rfl rfl (by rfl) (C50 (D := puc 0 D) (N := puc 0 N) (HW_subc H oz_B4cls_20 oz_B4cls_12) (show inrJ (x46_12) from j46_3) (show inrJ (z38) from pz38_0) (fun z39 σ39 F39ₚ A39ₚ Hₚ Oₚ hS39 hA39 pz39_0 => ⟨rfl, ?_⟩))
        refine v_backc (c := c) (s := s) H oz_B4cls_20 oz_B4cls_12 Hₚ Oₚ (fun F39 A39 H Oₚ eF39 eA39 => ?_)
        have O := OUT_trans O Oₚ
        -- PackHouse.wideLane
        have cF39 : SF oz_B4clsl_0 F F39 := SF_trans (cF38) (SF_gluc (ι := oz_B4clsl_1) oz_B4cls_12 hS39 eF39 (by decide +kernel)) (any_sub (lₚ := []) (by decide +kernel))
        have mF39 := SFm_of cF39 oz_B4cls_2
        have cA39 : SA oz_B4clsl_1 A A39 := SA_trans (cA38) (SA_gluc (ι := oz_B4clsl_1) oz_B4cls_12 hA39 eA39 (by decide +kernel)) (any_subA (lₚ := []) (by decide +kernel))
        have mA39 := SAm_of cA39 oz_B4cls_3
        refine Ew_of (pcₚ := 106) (fun _ => x_lstore rfl) ?_
        refine Ew_of (pcₚ := 108) (fun _ => x_lload rfl (rk2_o (rk2_o (rk2_o (l46_14) rfl rfl) rfl rfl) rfl rfl)) ?_
        refine Ew_of (pcₚ := 109) (fun _ => x_aload_n rfl (rk2_o (rk2_o (rk2_o (l46_0) rfl rfl) rfl rfl) rfl rfl)) ?_
        refine Ew_of (pcₚ := 111) (fun _ => x_iload rfl (rk2_o (rk2_o (rk2_o (l46_5) rfl rfl) rfl rfl) rfl rfl)) ?_
        refine Ew_of (pcₚ := 113) (fun _ => x_bipush (z := 24) rfl (by decide)) ?_
        refine w_iadd rfl ?_
        refine Ew_of (pcₚ := 116) (fun _ => x_bipush (z := 8) rfl (by decide)) ?_
        refine w_stat24 rfl rfl (by rfl) (C42_Br (D := puc 0 D) (N := puc 0 N) (HW_subc H oz_B4cls_21 oz_B4cls_4) (n0) (en0) (show inr ((x46_5 + 24)) from q_2595 b10 h1 j46_0) (show inr (8) from q_96) (show (8) ≤ 0 ∨ 0 ≤ ((x46_5 + 24)) ∧ ((x46_5 + 24)) + (8) ≤ (n0) from q_2594 b10 h3 j46_5) (show 0 ≤ (8) from q_2585) (fun z40 σ40 F40ₚ A40ₚ Hₚ Oₚ hS40 hA40 pz40_0 pz40_1 => ⟨rfl, ?_⟩))
        refine v_backc (c := c) (s := s) H oz_B4cls_21 oz_B4cls_4 Hₚ Oₚ (fun F40 A40 H Oₚ eF40 eA40 => ?_)
        have O := OUT_trans O Oₚ
        -- PackHouse.number
        have cF40 : SF oz_B4clsl_0 F F40 := SF_trans (cF39) (SF_gluc (ι := oz_B4clsl_2) oz_B4cls_4 hS40 eF40 (by decide +kernel)) (any_sub (lₚ := []) (by decide +kernel))
        have mF40 := SFm_of cF40 oz_B4cls_2
        have cA40 : SA oz_B4clsl_1 A A40 := SA_trans (cA39) (SA_gluc (ι := oz_B4clsl_2) oz_B4cls_4 hA40 eA40 (by decide +kernel)) (any_subA (lₚ := []) (by decide +kernel))
        have mA40 := SAm_of cA40 oz_B4cls_3
        refine w_stat24 rfl rfl (by rfl) (C50 (D := puc 0 D) (N := puc 0 N) (HW_subc H oz_B4cls_20 oz_B4cls_12) (show inrJ (x46_14) from j46_4) (show inrJ (z40) from pz40_0) (fun z41 σ41 F41ₚ A41ₚ Hₚ Oₚ hS41 hA41 pz41_0 => ⟨rfl, ?_⟩))
        refine v_backc (c := c) (s := s) H oz_B4cls_20 oz_B4cls_12 Hₚ Oₚ (fun F41 A41 H Oₚ eF41 eA41 => ?_)
        have O := OUT_trans O Oₚ
        -- PackHouse.wideLane
        have cF41 : SF oz_B4clsl_0 F F41 := SF_trans (cF40) (SF_gluc (ι := oz_B4clsl_1) oz_B4cls_12 hS41 eF41 (by decide +kernel)) (any_sub (lₚ := []) (by decide +kernel))
        have mF41 := SFm_of cF41 oz_B4cls_2
        have cA41 : SA oz_B4clsl_1 A A41 := SA_trans (cA40) (SA_gluc (ι := oz_B4clsl_1) oz_B4cls_12 hA41 eA41 (by decide +kernel)) (any_subA (lₚ := []) (by decide +kernel))
        have mA41 := SAm_of cA41 oz_B4cls_3
        refine Ew_of (pcₚ := 124) (fun _ => x_lstore rfl) ?_
        refine Ew_of (pcₚ := 127) (fun _ => x_iinc (len := 3) rfl (rk2_o (rk2_o (rk2_o (rk2_o (l46_5) rfl rfl) rfl rfl) rfl rfl) rfl rfl)) ?_
        refine Ew_of (pcₚ := 46) (fun _ => x_goto rfl rfl) ?_
        exact ih46 _ (msE hm46 q_583 (q_584 b10)) _ _ _ _ ((x46_5 + 32)) (z35) (z37) (z39) (z41) (rk_o (rk2_o (rk2_o (rk2_o (rk2_o (l46_0) rfl rfl) rfl rfl) rfl rfl) rfl rfl) rfl rfl) (rk_o (rk2_o (rk2_o (rk2_o (rk2_o (l46_1) rfl rfl) rfl rfl) rfl rfl) rfl rfl) rfl rfl) (rk_o (rk2_o (rk2_o (rk2_o (rk2_o (l46_2) rfl rfl) rfl rfl) rfl rfl) rfl rfl) rfl rfl) (rk_s) (rk_o (rk2_o (rk2_o (rk2_o (rk2_s) rfl rfl) rfl rfl) rfl rfl) rfl rfl) (rk_o (rk2_o (rk2_o (rk2_s) rfl rfl) rfl rfl) rfl rfl) (rk_o (rk2_o (rk2_s) rfl rfl) rfl rfl) (rk_o (rk2_s) rfl rfl) H O (SF_trans (SF_trans (SF_trans (SF_trans (SF_trans (SF_trans (SF_trans (SF_trans (hS_46) (SF_gluc (ι := oz_B4clsl_2) oz_B4cls_4 hS34 eF34 (by decide +kernel)) (any_sub (lₚ := []) (by decide +kernel))) (SF_gluc (ι := oz_B4clsl_1) oz_B4cls_12 hS35 eF35 (by decide +kernel)) (any_sub (lₚ := []) (by decide +kernel))) (SF_gluc (ι := oz_B4clsl_2) oz_B4cls_4 hS36 eF36 (by decide +kernel)) (any_sub (lₚ := []) (by decide +kernel))) (SF_gluc (ι := oz_B4clsl_1) oz_B4cls_12 hS37 eF37 (by decide +kernel)) (any_sub (lₚ := []) (by decide +kernel))) (SF_gluc (ι := oz_B4clsl_2) oz_B4cls_4 hS38 eF38 (by decide +kernel)) (any_sub (lₚ := []) (by decide +kernel))) (SF_gluc (ι := oz_B4clsl_1) oz_B4cls_12 hS39 eF39 (by decide +kernel)) (any_sub (lₚ := []) (by decide +kernel))) (SF_gluc (ι := oz_B4clsl_2) oz_B4cls_4 hS40 eF40 (by decide +kernel)) (any_sub (lₚ := []) (by decide +kernel))) (SF_gluc (ι := oz_B4clsl_1) oz_B4cls_12 hS41 eF41 (by decide +kernel)) (any_sub (lₚ := []) (by decide +kernel))) (SA_trans (SA_trans (SA_trans (SA_trans (SA_trans (SA_trans (SA_trans (SA_trans (hA_46) (SA_gluc (ι := oz_B4clsl_2) oz_B4cls_4 hA34 eA34 (by decide +kernel)) (any_subA (lₚ := []) (by decide +kernel))) (SA_gluc (ι := oz_B4clsl_1) oz_B4cls_12 hA35 eA35 (by decide +kernel)) (any_subA (lₚ := []) (by decide +kernel))) (SA_gluc (ι := oz_B4clsl_2) oz_B4cls_4 hA36 eA36 (by decide +kernel)) (any_subA (lₚ := []) (by decide +kernel))) (SA_gluc (ι := oz_B4clsl_1) oz_B4cls_12 hA37 eA37 (by decide +kernel)) (any_subA (lₚ := []) (by decide +kernel))) (SA_gluc (ι := oz_B4clsl_2) oz_B4cls_4 hA38 eA38 (by decide +kernel)) (any_subA (lₚ := []) (by decide +kernel))) (SA_gluc (ι := oz_B4clsl_1) oz_B4cls_12 hA39 eA39 (by decide +kernel)) (any_subA (lₚ := []) (by decide +kernel))) (SA_gluc (ι := oz_B4clsl_2) oz_B4cls_4 hA40 eA40 (by decide +kernel)) (any_subA (lₚ := []) (by decide +kernel))) (SA_gluc (ι := oz_B4clsl_1) oz_B4cls_12 hA41 eA41 (by decide +kernel)) (any_subA (lₚ := []) (by decide +kernel)))     (show inr ((x46_5 + 32)) from q_2596 b10 h1 j46_0) (show inrJ (z35) from pz35_0) (show inrJ (z37) from pz37_0) (show inrJ (z39) from pz39_0) (show inrJ (z41) from pz41_0) (show (a2) ≤ ((x46_5 + 32)) ∧ ((x46_5 + 32)) ≤ (a3) from q_581 b10 j46_5) rfl
abbrev V53_Br : vV := [(1, 0, [])]
theorem len_V53_Br_oz_B4cls : (V53_Br).length = 1 := by decide +kernel
/-- PackHouse.polynomialSum: #1 -/
theorem C53_Br {σE : rS} {D N : Nat → Nat} {F : hF} {A : hA} {d c s : Nat} {Q : wQ} (H : HW V53_Br σE D N F A) (HT : STC σE) {a2 a3 : Int} (n0 : Int) (en0 : (N 0 : Int) = n0) (h0 : inr (a2)) (h1 : inr (a3)) (h2 : 0 ≤ (a2) ∧ (a2) ≤ (a3) ∧ (a3) ≤ (n0)) (k : ∀ (z : Int) (σ : rS) (Fₚ : hF) (Aₚ : hA), HW V53_Br σ D N Fₚ Aₚ → OUT (V53_Br).length D N σE c s D N σ c s → SF [] F Fₚ → SA [] A Aₚ → (inr (z)) → Q (some (I z)) σ c s) : Ew 53 (d + 0) 0 (rargs 0 [.ref (D 0), I a2, I a3]) [] σE c s Q := by
  have O := OUT_refl (n := (V53_Br).length) (D := D) (N := N) (σ := σE) (c := c) (s := s)
  have HE := H
  have r1 : (0 : Int) ≤ n0 ∧ n0 ≤ 1000000 := nleE (H.nle 0 (ltn len_V53_Br_oz_B4cls rfl)) (show (N 0 : Int) = n0 from en0)
  refine Ew_of (pcₚ := 1) (fun _ => x_iconst rfl) ?_
  refine Ew_of (pcₚ := 2) (fun _ => x_istore_n rfl) ?_
  refine Ew_of (pcₚ := 3) (fun _ => x_iload_n rfl (rk_o (rfl) rfl rfl)) ?_
  refine Ew_of (pcₚ := 5) (fun _ => x_istore rfl) ?_
  suffices hl5 : ∀ (m : Nat), ∀ (ls : rO) (σ : rS) (F_5 : hF) (A_5 : hA) (x5_3 : Int) (x5_4 : Int), rlook ls 0 = some (.ref (D 0)) → rlook ls 2 = some (I (a3)) → rlook ls 3 = some (I (x5_3)) → rlook ls 4 = some (I (x5_4)) → HW V53_Br σ D N F_5 A_5 → OUT (V53_Br).length D N σE c s D N σ c s → SF [] F F_5 → SA [] A A_5 → (inr (x5_3)) → (inr (x5_4)) → ((a2) ≤ (x5_4)) → ((x5_4) ≤ (a2) ∨ (x5_4) ≤ ((a3))) → (((a3)) - (x5_4)).toNat = m → Ew 53 (d + 0) 5 ls [] σ c s Q from
    hl5 _ _ _ _ _ ((-1)) (a2) (rk_o (rk_o (rfl) rfl rfl) rfl rfl) (rk_o (rk_o (rfl) rfl rfl) rfl rfl) (rk_o (rk_s) rfl rfl) (rk_s) H O (SF_refl) (SA_refl)     (show inr ((-1)) from q_16) (show inr (a2) from h0) (show (a2) ≤ (a2) from q_102) (show (a2) ≤ (a2) ∨ (a2) ≤ ((a3)) from q_101) rfl
  as_aux_lemma =>
  intro m
  induction m using Nat.strongRecOn with
  | _ m ih5 =>
    intro ls σ F_5 A_5 x5_3 x5_4 l5_0 l5_2 l5_3 l5_4 H O hS_5 hA_5     j5_0 j5_1 j5_2 j5_3 hm5
    have cF_5 : SF oz_B4clsl_0 F F_5 := SF_trans (SF_refl) hS_5 (any_sub (by decide +kernel))
    have mF_5 := SFm_of cF_5 oz_B4cls_2
    have cA_5 : SA oz_B4clsl_1 A A_5 := SA_trans (SA_refl) hA_5 (any_subA (by decide +kernel))
    have mA_5 := SAm_of cA_5 oz_B4cls_3
    refine Ew_of (pcₚ := 7) (fun _ => x_iload rfl l5_4) ?_
    refine Ew_of (pcₚ := 8) (fun _ => x_iload_n rfl l5_2) ?_
    refine w_icmpge (t := 54) rfl rfl (show inr (x5_4) from j5_1) (show inr (a3) from h1) (fun b2 => ?_) (fun b2 => ?_)
    · refine Ew_of (pcₚ := 55) (fun _ => x_iload_n rfl l5_3) ?_
      refine Ew_of (pcₚ := 56) (fun _ => x_iconst rfl) ?_
      refine w_ixor rfl (fun z3 gz3 => ?_)
      exact w_ireturn rfl (k (z3) _ _ _ H O (cF_5) (cA_5) (show inr (z3) from gz3))
    · refine Ew_of (pcₚ := 12) (fun _ => x_iload_n rfl l5_3) ?_
      refine Ew_of (pcₚ := 13) (fun _ => x_aload_n rfl l5_0) ?_
      refine Ew_of (pcₚ := 15) (fun _ => x_iload rfl l5_4) ?_
      refine v_lB H (o := 0) rfl rfl rfl rfl (n := n0) (en0) (show 0 ≤ x5_4 ∧ x5_4 < n0 from q_2534 b2 h2 j5_2) (fun v4 ev4 qv4 => ?_)
      have ev4 : (A 0) (x5_4) = v4 := (congrFun (funext (mA_5 0 rfl)) (x5_4)).symm.trans ev4
      refine Ew_of (pcₚ := 19) (fun _ => x_sipush (z := 255) rfl (by decide)) ?_
      refine w_iand rfl (show inr (v4) from q_2536 qv4) (show inr (255) from q_36) (fun z5 gz5 gaz5 gbz5 => ?_)
      refine w_ixor rfl (fun z6 gz6 => ?_)
      refine Ew_of (pcₚ := 22) (fun _ => x_istore_n rfl) ?_
      refine Ew_of (pcₚ := 23) (fun _ => x_iload_n rfl rk_s) ?_
      refine Ew_of (pcₚ := 24) (fun _ => x_iconst rfl) ?_
      refine w_iushrA rfl (fun z7 gz7 => ?_)
      refine Ew_of (pcₚ := 28) (fun _ => x_getstatic rfl) ?_
      refine Ew_of (pcₚ := 29) (fun _ => x_iload_n rfl rk_s) ?_
      refine Ew_of (pcₚ := 31) (fun _ => x_bipush (z := 15) rfl (by decide)) ?_
      refine w_iand rfl (show inr (z6) from gz6) (show inr (15) from q_143) (fun z8 gz8 gaz8 gbz8 => ?_)
      refine v_stI (STC_out HT HE O) (b := 1) (n := 16) rfl rfl rfl rfl (show 0 ≤ z8 ∧ z8 < 16 by omega) (fun v9 ev9 qv9 => ?_)
      refine w_ixor rfl (fun z10 gz10 => ?_)
      refine Ew_of (pcₚ := 35) (fun _ => x_istore_n rfl) ?_
      refine Ew_of (pcₚ := 36) (fun _ => x_iload_n rfl rk_s) ?_
      refine Ew_of (pcₚ := 37) (fun _ => x_iconst rfl) ?_
      refine w_iushrA rfl (fun z11 gz11 => ?_)
      refine Ew_of (pcₚ := 41) (fun _ => x_getstatic rfl) ?_
      refine Ew_of (pcₚ := 42) (fun _ => x_iload_n rfl rk_s) ?_
      refine Ew_of (pcₚ := 44) (fun _ => x_bipush (z := 15) rfl (by decide)) ?_
      refine w_iand rfl (show inr (z10) from gz10) (show inr (15) from q_143) (fun z12 gz12 gaz12 gbz12 => ?_)
      refine v_stI (STC_out HT HE O) (b := 1) (n := 16) rfl rfl rfl rfl (show 0 ≤ z12 ∧ z12 < 16 by omega) (fun v13 ev13 qv13 => ?_)
      refine w_ixor rfl (fun z14 gz14 => ?_)
      refine Ew_of (pcₚ := 48) (fun _ => x_istore_n rfl) ?_
      refine Ew_of (pcₚ := 51) (fun _ => x_iinc (len := 3) rfl (rk_o (rk_o (rk_o (l5_4) rfl rfl) rfl rfl) rfl rfl)) ?_
      refine Ew_of (pcₚ := 5) (fun _ => x_goto rfl rfl) ?_
      exact ih5 _ (msE hm5 q_31 (q_34 b2)) _ _ _ _ (z14) ((x5_4 + 1)) (rk_o (rk_o (rk_o (rk_o (l5_0) rfl rfl) rfl rfl) rfl rfl) rfl rfl) (rk_o (rk_o (rk_o (rk_o (l5_2) rfl rfl) rfl rfl) rfl rfl) rfl rfl) (rk_o (rk_s) rfl rfl) (rk_s) H O (hS_5) (hA_5)     (show inr (z14) from gz14) (show inr ((x5_4 + 1)) from q_2535 b2 h2 j5_1 r1) (show (a2) ≤ ((x5_4 + 1)) from q_105 j5_2) (show ((x5_4 + 1)) ≤ (a2) ∨ ((x5_4 + 1)) ≤ ((a3)) from q_104 b2) rfl
abbrev V27_Row : vV := [(0, 7, [(4, 0), (0, 0), (1, 0), (0, 0), (0, 0)])]
theorem len_V27_Row_oz_B4cls : (V27_Row).length = 1 := by decide +kernel
/-- PackHouse.isPart: #1 -/
theorem C27_Row {σE : rS} {D N : Nat → Nat} {F : hF} {A : hA} {d c s : Nat} {Q : wQ} (H : HW V27_Row σE D N F A) {a2 a3 : Int} (u0_1 : Int) (eu0_1 : F 0 1 = u0_1) (h0 : inr (a2)) (h1 : inr (a3)) (k : ∀ (z : Int) (σ : rS) (Fₚ : hF) (Aₚ : hA), HW V27_Row σ D N Fₚ Aₚ → OUT (V27_Row).length D N σE c s D N σ c s → SF [] F Fₚ → SA [] A Aₚ → ((z) = 0 ∨ (z) = 1) → ((z) = 1 → 0 ≤ (a2) ∧ (a2) ≤ (a3) ∧ (a3) ≤ (u0_1)) → Q (some (I z)) σ c s) : Ew 27 (d + 0) 0 (rargs 0 [.ref (D 0), I a2, I a3]) [] σE c s Q := by
  have O := OUT_refl (n := (V27_Row).length) (D := D) (N := N) (σ := σE) (c := c) (s := s)
  have HE := H
  have r1 : (-2147483648 : Int) ≤ u0_1 ∧ u0_1 ≤ 2147483647 := rngE (show (-2147483648 : Int) ≤ F 0 1 ∧ F 0 1 ≤ 2147483647 from H.krg 0 1 (ltn len_V27_Row_oz_B4cls rfl)) (show F 0 1 = u0_1 from (eu0_1))
  refine Ew_of (pcₚ := 1) (fun _ => x_iconst rfl) ?_
  refine Ew_of (pcₚ := 2) (fun _ => x_iload_n rfl rfl) ?_
  refine w_icmpgt (t := 22) rfl rfl (show inr (0) from q_20) (show inr (a2) from h0) (fun b2 => ?_) (fun b2 => ?_)
  · refine Ew_of (pcₚ := 23) (fun _ => x_iconst rfl) ?_
    exact w_ireturn rfl (k (0) _ _ _ H O (SF_refl) (SA_refl) (show (0) = 0 ∨ (0) = 1 by first | exact q_1 | omega) (show (0) = 1 → 0 ≤ a2 ∧ a2 ≤ a3 ∧ a3 ≤ (u0_1) by first | exact q_2597 b2 h0 h1 r1 | omega))
  · refine Ew_of (pcₚ := 6) (fun _ => x_iload_n rfl rfl) ?_
    refine Ew_of (pcₚ := 7) (fun _ => x_iload_n rfl rfl) ?_
    refine w_icmpgt (t := 22) rfl rfl (show inr (a2) from h0) (show inr (a3) from h1) (fun b3 => ?_) (fun b3 => ?_)
    · refine Ew_of (pcₚ := 23) (fun _ => x_iconst rfl) ?_
      exact w_ireturn rfl (k (0) _ _ _ H O (SF_refl) (SA_refl) (show (0) = 0 ∨ (0) = 1 by first | exact q_1 | omega) (show (0) = 1 → 0 ≤ a2 ∧ a2 ≤ a3 ∧ a3 ≤ (u0_1) by first | exact q_2598 b2 h0 h1 r1 | omega))
    · refine Ew_of (pcₚ := 11) (fun _ => x_iload_n rfl rfl) ?_
      refine Ew_of (pcₚ := 12) (fun _ => x_aload_n rfl rfl) ?_
      refine v_g H (o := 0) (v := I (u0_1)) rfl rfl rfl rfl rfl (congrArg (fun z : Int => I z) ((eu0_1) : F 0 1 = u0_1)) ?_
      refine w_icmpgt (t := 22) rfl rfl (show inr (a3) from h1) (show inr (u0_1) from q_22 r1) (fun b4 => ?_) (fun b4 => ?_)
      · refine Ew_of (pcₚ := 23) (fun _ => x_iconst rfl) ?_
        exact w_ireturn rfl (k (0) _ _ _ H O (SF_refl) (SA_refl) (show (0) = 0 ∨ (0) = 1 by first | exact q_1 | omega) (show (0) = 1 → 0 ≤ a2 ∧ a2 ≤ a3 ∧ a3 ≤ (u0_1) by first | exact q_2599 b2 b3 h1 r1 | omega))
      · refine Ew_of (pcₚ := 19) (fun _ => x_iconst rfl) ?_
        refine Ew_of (pcₚ := 23) (fun _ => x_goto rfl rfl) ?_
        exact w_ireturn rfl (k (1) _ _ _ H O (SF_refl) (SA_refl) (show (1) = 0 ∨ (1) = 1 by first | exact q_5 | omega) (show (1) = 1 → 0 ≤ a2 ∧ a2 ≤ a3 ∧ a3 ≤ (u0_1) by first | exact q_2600 b2 b3 b4 | omega))
abbrev V28_Row : vV := [(0, 7, [(4, 0), (0, 0), (1, 0), (0, 0), (0, 0)]), (1, 0, [])]
theorem len_V28_Row_oz_B4cls : (V28_Row).length = 2 := by decide +kernel
theorem oz_B4cls_25 : vsub V28_Row V159 [0, 1] = true := by decide +kernel
theorem oz_B4cls_26 : vmov V28_Row [0, 1] [1] = true := by decide +kernel
def oz_B4clsl_3 : List (Nat × Nat) := [(0, 0), (0, 1), (0, 2)]
theorem oz_B4cls_27 : (oz_B4clsl_3).all (fun p => !tbz 7 (Nat.add (Nat.mul 32 p.1) p.2)) = true := by decide +kernel
def oz_B4clsl_4 : List Nat := [1]
theorem oz_B4cls_28 : (oz_B4clsl_4).all (fun p => !tbz 2 p) = true := by decide +kernel
def oz_B4clsl_5 : List Nat := [0, 1]
theorem oz_B4cls_29 : okc oz_B4clsl_5 512 = true := by decide +kernel
/-- PackHouse.addHighestFirst: #1, #1.bytes -/
theorem C28_Row {σE : rS} {D N : Nat → Nat} {F : hF} {A : hA} {d c s : Nat} {Q : wQ} (H : HW V28_Row σE D N F A) {a2 a3 : Int} (pf1 : F 0 0 = (D 1 : Int)) (n1 : Int) (en1 : (N 1 : Int) = n1) (u0_1 : Int) (eu0_1 : F 0 1 = u0_1) (h0 : inrJ (a2)) (h1 : inr (a3)) (h2 : 0 ≤ (u0_1) ∧ (u0_1) ≤ (n1) ∧ (n1) ≤ 65536) (h3 : (a3) ≤ 8) (k : ∀ (σ : rS) (Dₚ Nₚ : Nat → Nat) (Fₚ : hF) (Aₚ : hA) (cₚ sₚ : Nat), HW V28_Row σ Dₚ Nₚ Fₚ Aₚ → OUT (V28_Row).length D N σE c s Dₚ Nₚ σ cₚ sₚ → SD [1] D Dₚ → SD [1] N Nₚ → SF [(0, 0), (0, 1), (0, 2)] F Fₚ → SA [1] A Aₚ → Fₚ 0 0 = (Dₚ 1 : Int) → ∀ m1 : Int, (Nₚ 1 : Int) = m1 → ∀ y0_1 : Int, Fₚ 0 1 = y0_1 → (0 ≤ (y0_1) ∧ (y0_1) ≤ (m1) ∧ (m1) ≤ 65536) → Q none σ cₚ sₚ) : Ew 28 (d + 3) 0 (rargs 0 [.ref (D 0), J a2, I a3]) [] σE c s Q := by
  have O := OUT_refl (n := (V28_Row).length) (D := D) (N := N) (σ := σE) (c := c) (s := s)
  have HE := H
  have r1 : (-2147483648 : Int) ≤ u0_1 ∧ u0_1 ≤ 2147483647 := rngE (show (-2147483648 : Int) ≤ F 0 1 ∧ F 0 1 ≤ 2147483647 from H.krg 0 1 (ltn len_V28_Row_oz_B4cls rfl)) (show F 0 1 = u0_1 from (eu0_1))
  have r2 : (0 : Int) ≤ n1 ∧ n1 ≤ 1000000 := nleE (H.nle 1 (ltn len_V28_Row_oz_B4cls rfl)) (show (N 1 : Int) = n1 from en1)
  refine Ew_of (pcₚ := 1) (fun _ => x_iconst rfl) ?_
  refine Ew_of (pcₚ := 3) (fun _ => x_istore rfl) ?_
  suffices hl3 : ∀ (m : Nat), ∀ (ls : rO) (σ : rS) (D_3 N_3 : Nat → Nat) (c_3 s_3 : Nat) (F_3 : hF) (A_3 : hA) (x3_4 : Int), rlook ls 0 = some (.ref (D_3 0)) → rlook ls 1 = some (J (a2)) → rlook ls 3 = some (I (a3)) → rlook ls 4 = some (I (x3_4)) → HW V28_Row σ D_3 N_3 F_3 A_3 → OUT (V28_Row).length D N σE c s D_3 N_3 σ c_3 s_3 → SD [1] D D_3 → SD [1] N N_3 → SF [(0, 0), (0, 1), (0, 2)] F F_3 → SA [1] A A_3 → F_3 0 0 = (D_3 1 : Int) → ∀ m3_1 : Int, (N_3 1 : Int) = m3_1 → ∀ y3_0_1 : Int, F_3 0 1 = y3_0_1 → (inr (x3_4)) → ((0) ≤ (x3_4)) → ((x3_4) ≤ (0) ∨ (x3_4) ≤ ((a3))) → (0 ≤ (y3_0_1) ∧ (y3_0_1) ≤ (m3_1) ∧ (m3_1) ≤ 65536) → (((a3)) - (x3_4)).toNat = m → Ew 28 (d + 3) 3 ls [] σ c_3 s_3 Q from
    hl3 _ _ _ _ _ _ _ _ _ (0) (rk_o (rfl) rfl rfl) (rk_o (rfl) rfl rfl) (rk_o (rfl) rfl rfl) (rk_s) H O (SD_refl) (SD_refl) (SF_refl) (SA_refl) (pf1) (n1) (en1) (u0_1) ((eu0_1))  (show inr (0) from q_20) (show (0) ≤ (0) from q_25) (show (0) ≤ (0) ∨ (0) ≤ ((a3)) from q_24) (show 0 ≤ (u0_1) ∧ (u0_1) ≤ (n1) ∧ (n1) ≤ 65536 from h2) rfl
  as_aux_lemma =>
  intro m
  induction m using Nat.strongRecOn with
  | _ m ih3 =>
    intro ls σ D_3 N_3 c_3 s_3 F_3 A_3 x3_4 l3_0 l3_1 l3_3 l3_4 H O hD_3 hN_3 hS_3 hA_3 pm3_1 m3_1 em3_1 y3_0_1 ey3_0_1  j3_0 j3_1 j3_2 j3_3 hm3
    have cF_3 : SF oz_B4clsl_3 F F_3 := SF_trans (SF_refl) hS_3 (any_sub (by decide +kernel))
    have mF_3 := SFm_of cF_3 oz_B4cls_27
    have cA_3 : SA oz_B4clsl_4 A A_3 := SA_trans (SA_refl) hA_3 (any_subA (by decide +kernel))
    have mA_3 := SAm_of cA_3 oz_B4cls_28
    have cD_3 : SD oz_B4clsl_4 D D_3 := SD_trans (SD_refl) hD_3 (any_subA (by decide +kernel))
    have mD_3 := SDm_of cD_3 oz_B4cls_28
    have cN_3 : SD oz_B4clsl_4 N N_3 := SD_trans (SD_refl) hN_3 (any_subA (by decide +kernel))
    have mN_3 := SDm_of cN_3 oz_B4cls_28
    have r3 : (0 : Int) ≤ m3_1 ∧ m3_1 ≤ 1000000 := nleE (H.nle 1 (ltn len_V28_Row_oz_B4cls rfl)) (show (N_3 1 : Int) = m3_1 from em3_1)
    have r4 : (-2147483648 : Int) ≤ y3_0_1 ∧ y3_0_1 ≤ 2147483647 := rngE (show (-2147483648 : Int) ≤ F_3 0 1 ∧ F_3 0 1 ≤ 2147483647 from H.krg 0 1 (ltn len_V28_Row_oz_B4cls rfl)) (show F_3 0 1 = y3_0_1 from (ey3_0_1))
    refine Ew_of (pcₚ := 5) (fun _ => x_iload rfl l3_4) ?_
    refine Ew_of (pcₚ := 6) (fun _ => x_iload_n rfl l3_3) ?_
    refine w_icmpge (t := 30) rfl rfl (show inr (x3_4) from j3_0) (show inr (a3) from h1) (fun b5 => ?_) (fun b5 => ?_)
    · exact w_ret rfl (k _ _ _ _ _ _ _ H O (cD_3) (cN_3) (cF_3) (cA_3) (pm3_1) (m3_1) (em3_1) (y3_0_1) ((ey3_0_1)) (show 0 ≤ (y3_0_1) ∧ (y3_0_1) ≤ (m3_1) ∧ (m3_1) ≤ 65536 from j3_3))
    · refine Ew_of (pcₚ := 10) (fun _ => x_aload_n rfl l3_0) ?_
      refine Ew_of (pcₚ := 11) (fun _ => x_lload_n rfl l3_1) ?_
      refine Ew_of (pcₚ := 13) (fun _ => x_bipush (z := 56) rfl (by decide)) ?_
      refine Ew_of (pcₚ := 15) (fun _ => x_bipush (z := 8) rfl (by decide)) ?_
      refine Ew_of (pcₚ := 17) (fun _ => x_iload rfl l3_4) ?_
      refine w_imul rfl ?_
      refine w_isub rfl ?_
      refine w_lushrA rfl (fun z6 gz6 => ?_)
      refine w_l2iA rfl (fun z7 gz7 => ?_)
      refine v_inv H (o := 0) rfl rfl rfl rfl rfl rfl (by rfl) (C159 (D := puc 512 D_3) (N := puc 512 N_3) (HW_subc H oz_B4cls_25 oz_B4cls_29) (pm3_1) (m3_1) (em3_1) (y3_0_1) ((ey3_0_1)) (show inr (z7) from gz7) (show 0 ≤ (y3_0_1) ∧ (y3_0_1) ≤ (m3_1) ∧ (m3_1) ≤ 65536 from j3_3) (fun σ8 D8ₚ N8ₚ F8ₚ A8ₚ c8 s8 Hₚ Oₚ hD8 hN8 hS8 hA8 pm8_1 m8_1 em8_1 y8_0_1 ey8_0_1 pz8_0 pz8_1 pz8_2 => ⟨rfl, ?_⟩))
      refine v_backMc (c := c_3) (s := s_3) H oz_B4cls_25 oz_B4cls_29 Hₚ Oₚ hD8 oz_B4cls_26 (fun D8 N8 F8 A8 H Oₚ eD8 eN8 eF8 eA8 => ?_)
      have O := OUT_trans O Oₚ
      -- Row.add
      have cF8 : SF oz_B4clsl_3 F F8 := SF_trans (cF_3) (SF_gluc (ι := oz_B4clsl_5) oz_B4cls_29 hS8 eF8 (by decide +kernel)) (any_sub (lₚ := [(0, 0), (0, 1), (0, 2)]) (by decide +kernel))
      have mF8 := SFm_of cF8 oz_B4cls_27
      have cA8 : SA oz_B4clsl_4 A A8 := SA_trans (cA_3) (SA_gluc (ι := oz_B4clsl_5) oz_B4cls_29 hA8 eA8 (by decide +kernel)) (any_subA (lₚ := [1]) (by decide +kernel))
      have mA8 := SAm_of cA8 oz_B4cls_28
      have cD8 : SD oz_B4clsl_4 D D8 := SD_trans (cD_3) (SD_gluc (ι := oz_B4clsl_5) oz_B4cls_29 hD8 eD8 (by decide +kernel)) (any_subA (lₚ := [1]) (by decide +kernel))
      have mD8 := SDm_of cD8 oz_B4cls_28
      have cN8 : SD oz_B4clsl_4 N N8 := SD_trans (cN_3) (SD_gluc (ι := oz_B4clsl_5) oz_B4cls_29 hN8 eN8 (by decide +kernel)) (any_subA (lₚ := [1]) (by decide +kernel))
      have mN8 := SDm_of cN8 oz_B4cls_28
      have pf8_0_0 : F8 0 0 = (D8 1 : Int) := (eF8 0 0).trans (pm8_1.trans (congrArg (fun q : Nat => (q : Int)) (eD8 1).symm))
      have r9 : (0 : Int) ≤ m8_1 ∧ m8_1 ≤ 1000000 := nleE (H.nle 1 (ltn len_V28_Row_oz_B4cls rfl)) (show (N8 1 : Int) = m8_1 from (congrArg (fun q : Nat => (q : Int)) (eN8 1)).trans em8_1)
      have r10 : (-2147483648 : Int) ≤ y8_0_1 ∧ y8_0_1 ≤ 2147483647 := rngE (show (-2147483648 : Int) ≤ F8 0 1 ∧ F8 0 1 ≤ 2147483647 from H.krg 0 1 (ltn len_V28_Row_oz_B4cls rfl)) (show F8 0 1 = y8_0_1 from ((eF8 0 1).trans ey8_0_1))
      refine Ew_of (pcₚ := 27) (fun _ => x_iinc (len := 3) rfl (l3_4)) ?_
      refine Ew_of (pcₚ := 3) (fun _ => x_goto rfl rfl) ?_
      exact ih3 _ (msE hm3 q_31 (q_34 b5)) _ _ _ _ _ _ _ _ ((x3_4 + 1)) ((rk_o (l3_0) rfl rfl).trans (congrArg (fun q : Nat => some (Value.ref q)) (((show D8 0 = D_3 0 from (eD8 0).trans (hD8 0 rfl)))).symm)) (rk_o (l3_1) rfl rfl) (rk_o (l3_3) rfl rfl) (rk_s) H O (SD_trans (hD_3) (SD_gluc (ι := oz_B4clsl_5) oz_B4cls_29 hD8 eD8 (by decide +kernel)) (any_subA (lₚ := [1]) (by decide +kernel))) (SD_trans (hN_3) (SD_gluc (ι := oz_B4clsl_5) oz_B4cls_29 hN8 eN8 (by decide +kernel)) (any_subA (lₚ := [1]) (by decide +kernel))) (SF_trans (hS_3) (SF_gluc (ι := oz_B4clsl_5) oz_B4cls_29 hS8 eF8 (by decide +kernel)) (any_sub (lₚ := [(0, 0), (0, 1), (0, 2)]) (by decide +kernel))) (SA_trans (hA_3) (SA_gluc (ι := oz_B4clsl_5) oz_B4cls_29 hA8 eA8 (by decide +kernel)) (any_subA (lₚ := [1]) (by decide +kernel))) (pf8_0_0) (m8_1) ((congrArg (fun q : Nat => (q : Int)) (eN8 1)).trans em8_1) (y8_0_1) (((eF8 0 1).trans ey8_0_1))  (show inr ((x3_4 + 1)) from q_1969 b5 h3 j3_1) (show (0) ≤ ((x3_4 + 1)) from q_29 j3_1) (show ((x3_4 + 1)) ≤ (0) ∨ ((x3_4 + 1)) ≤ ((a3)) from q_33 b5) (show 0 ≤ (y8_0_1) ∧ (y8_0_1) ≤ (m8_1) ∧ (m8_1) ≤ 65536 from pz8_0) rfl
abbrev V29_Row_Row : vV := [(0, 7, [(4, 0), (0, 0), (1, 0), (0, 0), (0, 0)]), (0, 7, [(4, 0), (0, 0), (1, 0), (0, 0), (0, 0)]), (1, 0, []), (1, 0, [])]
theorem len_V29_Row_Row_oz_B4cls : (V29_Row_Row).length = 4 := by decide +kernel
/-- PackHouse.firstUnlike: #1, #2, #1.bytes, #2.bytes -/
theorem C29_Row_Row {σE : rS} {D N : Nat → Nat} {F : hF} {A : hA} {d c s : Nat} {Q : wQ} (H : HW V29_Row_Row σE D N F A)  (pf2 : F 0 0 = (D 2 : Int)) (pf3 : F 1 0 = (D 3 : Int)) (n2 : Int) (en2 : (N 2 : Int) = n2) (n3 : Int) (en3 : (N 3 : Int) = n3) (u0_1 : Int) (eu0_1 : F 0 1 = u0_1) (u1_1 : Int) (eu1_1 : F 1 1 = u1_1) (h0 : 0 ≤ (u0_1) ∧ (u0_1) ≤ (n2) ∧ (n2) ≤ 65536) (h1 : 0 ≤ (u1_1) ∧ (u1_1) ≤ (n3) ∧ (n3) ≤ 65536) (k : ∀ (z : Int) (σ : rS) (Fₚ : hF) (Aₚ : hA), HW V29_Row_Row σ D N Fₚ Aₚ → OUT (V29_Row_Row).length D N σE c s D N σ c s → SF [] F Fₚ → SA [] A Aₚ → (inr (z)) → Q (some (I z)) σ c s) : Ew 29 (d + 0) 0 (rargs 0 [.ref (D 0), .ref (D 1)]) [] σE c s Q := by
  have O := OUT_refl (n := (V29_Row_Row).length) (D := D) (N := N) (σ := σE) (c := c) (s := s)
  have HE := H
  have r1 : (-2147483648 : Int) ≤ u0_1 ∧ u0_1 ≤ 2147483647 := rngE (show (-2147483648 : Int) ≤ F 0 1 ∧ F 0 1 ≤ 2147483647 from H.krg 0 1 (ltn len_V29_Row_Row_oz_B4cls rfl)) (show F 0 1 = u0_1 from (eu0_1))
  have r2 : (-2147483648 : Int) ≤ u1_1 ∧ u1_1 ≤ 2147483647 := rngE (show (-2147483648 : Int) ≤ F 1 1 ∧ F 1 1 ≤ 2147483647 from H.krg 1 1 (ltn len_V29_Row_Row_oz_B4cls rfl)) (show F 1 1 = u1_1 from (eu1_1))
  have r3 : (0 : Int) ≤ n2 ∧ n2 ≤ 1000000 := nleE (H.nle 2 (ltn len_V29_Row_Row_oz_B4cls rfl)) (show (N 2 : Int) = n2 from en2)
  have r4 : (0 : Int) ≤ n3 ∧ n3 ≤ 1000000 := nleE (H.nle 3 (ltn len_V29_Row_Row_oz_B4cls rfl)) (show (N 3 : Int) = n3 from en3)
  refine Ew_of (pcₚ := 1) (fun _ => x_aload_n rfl rfl) ?_
  refine v_g H (o := 0) (v := I (u0_1)) rfl rfl rfl rfl rfl (congrArg (fun z : Int => I z) ((eu0_1) : F 0 1 = u0_1)) ?_
  refine Ew_of (pcₚ := 5) (fun _ => x_aload_n rfl rfl) ?_
  refine v_g H (o := 1) (v := I (u1_1)) rfl rfl rfl rfl rfl (congrArg (fun z : Int => I z) ((eu1_1) : F 1 1 = u1_1)) ?_
  refine v_min rfl rfl (show inr (u0_1) from q_884 h0) (show inr (u1_1) from q_884 h1) (fun z5 gz5 => ?_)
  refine Ew_of (pcₚ := 12) (fun _ => x_istore_n rfl) ?_
  refine Ew_of (pcₚ := 13) (fun _ => x_iconst rfl) ?_
  refine Ew_of (pcₚ := 14) (fun _ => x_istore_n rfl) ?_
  suffices hl14 : ∀ (m : Nat), ∀ (ls : rO) (σ : rS) (F_14 : hF) (A_14 : hA) (x14_3 : Int), rlook ls 0 = some (.ref (D 0)) → rlook ls 1 = some (.ref (D 1)) → rlook ls 2 = some (I (z5)) → rlook ls 3 = some (I (x14_3)) → HW V29_Row_Row σ D N F_14 A_14 → OUT (V29_Row_Row).length D N σE c s D N σ c s → SF [] F F_14 → SA [] A A_14 → (inr (x14_3)) → ((0) ≤ (x14_3)) → ((x14_3) ≤ (0) ∨ (x14_3) ≤ ((z5))) → (((z5)) - (x14_3)).toNat = m → Ew 29 (d + 0) 14 ls [] σ c s Q from
    hl14 _ _ _ _ _ (0) (rk_o (rk_o (rfl) rfl rfl) rfl rfl) (rk_o (rk_o (rfl) rfl rfl) rfl rfl) (rk_o (rk_s) rfl rfl) (rk_s) H O (SF_refl) (SA_refl)     (show inr (0) from q_20) (show (0) ≤ (0) from q_25) (show (0) ≤ (0) ∨ (0) ≤ ((z5)) from q_24) rfl
  as_aux_lemma =>
  intro m
  induction m using Nat.strongRecOn with
  | _ m ih14 =>
    intro ls σ F_14 A_14 x14_3 l14_0 l14_1 l14_2 l14_3 H O hS_14 hA_14     j14_0 j14_1 j14_2 hm14
    have cF_14 : SF oz_B4clsl_0 F F_14 := SF_trans (SF_refl) hS_14 (any_sub (by decide +kernel))
    have mF_14 := SFm_of cF_14 oz_B4cls_2
    have cA_14 : SA oz_B4clsl_1 A A_14 := SA_trans (SA_refl) hA_14 (any_subA (by decide +kernel))
    have mA_14 := SAm_of cA_14 oz_B4cls_3
    refine Ew_of (pcₚ := 15) (fun _ => x_iload_n rfl l14_3) ?_
    refine Ew_of (pcₚ := 16) (fun _ => x_iload_n rfl l14_2) ?_
    refine w_icmpge (t := 42) rfl rfl (show inr (x14_3) from j14_0) (show inr (z5) from q_2601 gz5 h0 h1 j14_1 j14_2) (fun b6 => ?_) (fun b6 => ?_)
    · refine Ew_of (pcₚ := 43) (fun _ => x_aload_n rfl l14_0) ?_
      refine v_g H (o := 0) (v := I (u0_1)) rfl rfl rfl rfl rfl (congrArg (fun z : Int => I z) (((mF_14 0 1 rfl).trans (eu0_1)) : F_14 0 1 = u0_1)) ?_
      refine Ew_of (pcₚ := 47) (fun _ => x_aload_n rfl l14_1) ?_
      refine v_g H (o := 1) (v := I (u1_1)) rfl rfl rfl rfl rfl (congrArg (fun z : Int => I z) (((mF_14 1 1 rfl).trans (eu1_1)) : F_14 1 1 = u1_1)) ?_
      refine w_icmpne (t := 57) rfl rfl (show inr (u0_1) from q_884 h0) (show inr (u1_1) from q_884 h1) (fun b7 => ?_) (fun b7 => ?_)
      · refine Ew_of (pcₚ := 58) (fun _ => x_iload_n rfl l14_2) ?_
        exact w_ireturn rfl (k (z5) _ _ _ H O (cF_14) (cA_14) (show inr (z5) from q_2602 b6 gz5 h0 h1 j14_0 j14_1 j14_2))
      · refine Ew_of (pcₚ := 54) (fun _ => x_iconst rfl) ?_
        refine Ew_of (pcₚ := 58) (fun _ => x_goto rfl rfl) ?_
        exact w_ireturn rfl (k ((-1)) _ _ _ H O (cF_14) (cA_14) (show inr ((-1)) from q_16))
    · refine Ew_of (pcₚ := 20) (fun _ => x_aload_n rfl l14_0) ?_
      refine v_g H (o := 0) (v := .ref (D 2)) rfl rfl rfl rfl rfl (vrf ((mF_14 0 0 rfl).trans (pf2))) ?_
      refine Ew_of (pcₚ := 24) (fun _ => x_iload_n rfl l14_3) ?_
      refine v_lB H (o := 2) rfl rfl rfl rfl (n := n2) (en2) (show 0 ≤ x14_3 ∧ x14_3 < n2 by omega) (fun v8 ev8 qv8 => ?_)
      have ev8 : (A 2) (x14_3) = v8 := (congrFun (funext (mA_14 2 rfl)) (x14_3)).symm.trans ev8
      refine Ew_of (pcₚ := 26) (fun _ => x_aload_n rfl l14_1) ?_
      refine v_g H (o := 1) (v := .ref (D 3)) rfl rfl rfl rfl rfl (vrf ((mF_14 1 0 rfl).trans (pf3))) ?_
      refine Ew_of (pcₚ := 30) (fun _ => x_iload_n rfl l14_3) ?_
      refine v_lB H (o := 3) rfl rfl rfl rfl (n := n3) (en3) (show 0 ≤ x14_3 ∧ x14_3 < n3 by omega) (fun v9 ev9 qv9 => ?_)
      have ev9 : (A 3) (x14_3) = v9 := (congrFun (funext (mA_14 3 rfl)) (x14_3)).symm.trans ev9
      refine w_icmpeq (t := 36) rfl rfl (show inr (v8) from q_2536 qv8) (show inr (v9) from q_2536 qv9) (fun b10 => ?_) (fun b10 => ?_)
      · refine Ew_of (pcₚ := 39) (fun _ => x_iinc (len := 3) rfl (l14_3)) ?_
        refine Ew_of (pcₚ := 14) (fun _ => x_goto rfl rfl) ?_
        exact ih14 _ (msE hm14 q_31 (q_34 b6)) _ _ _ _ ((x14_3 + 1)) (rk_o (l14_0) rfl rfl) (rk_o (l14_1) rfl rfl) (rk_o (l14_2) rfl rfl) (rk_s) H O (hS_14) (hA_14)     (show inr ((x14_3 + 1)) from q_2603 b6 gz5 h0 h1 j14_1 j14_2) (show (0) ≤ ((x14_3 + 1)) from q_29 j14_1) (show ((x14_3 + 1)) ≤ (0) ∨ ((x14_3 + 1)) ≤ ((z5)) from q_33 b6) rfl
      · refine Ew_of (pcₚ := 35) (fun _ => x_iload_n rfl l14_3) ?_
        exact w_ireturn rfl (k (x14_3) _ _ _ H O (cF_14) (cA_14) (show inr (x14_3) from j14_0))
abbrev V29_Row_1a : vV := [(0, 7, [(4, 0), (0, 0), (1, 0), (0, 0), (0, 0)]), (1, 0, [])]
theorem len_V29_Row_1a_oz_B4cls : (V29_Row_1a).length = 2 := by decide +kernel
/-- PackHouse.firstUnlike: #1, #1.bytes -/
theorem C29_Row_1a {σE : rS} {D N : Nat → Nat} {F : hF} {A : hA} {d c s : Nat} {Q : wQ} (H : HW V29_Row_1a σE D N F A)  (pf1 : F 0 0 = (D 1 : Int)) (n1 : Int) (en1 : (N 1 : Int) = n1) (u0_1 : Int) (eu0_1 : F 0 1 = u0_1) (h0 : 0 ≤ (u0_1) ∧ (u0_1) ≤ (n1) ∧ (n1) ≤ 65536) (h1 : 0 ≤ (u0_1) ∧ (u0_1) ≤ (n1) ∧ (n1) ≤ 65536) (k : ∀ (z : Int) (σ : rS) (Fₚ : hF) (Aₚ : hA), HW V29_Row_1a σ D N Fₚ Aₚ → OUT (V29_Row_1a).length D N σE c s D N σ c s → SF [] F Fₚ → SA [] A Aₚ → (inr (z)) → Q (some (I z)) σ c s) : Ew 29 (d + 0) 0 (rargs 0 [.ref (D 0), .ref (D 0)]) [] σE c s Q := by
  have O := OUT_refl (n := (V29_Row_1a).length) (D := D) (N := N) (σ := σE) (c := c) (s := s)
  have HE := H
  have r1 : (-2147483648 : Int) ≤ u0_1 ∧ u0_1 ≤ 2147483647 := rngE (show (-2147483648 : Int) ≤ F 0 1 ∧ F 0 1 ≤ 2147483647 from H.krg 0 1 (ltn len_V29_Row_1a_oz_B4cls rfl)) (show F 0 1 = u0_1 from (eu0_1))
  have r2 : (0 : Int) ≤ n1 ∧ n1 ≤ 1000000 := nleE (H.nle 1 (ltn len_V29_Row_1a_oz_B4cls rfl)) (show (N 1 : Int) = n1 from en1)
  refine Ew_of (pcₚ := 1) (fun _ => x_aload_n rfl rfl) ?_
  refine v_g H (o := 0) (v := I (u0_1)) rfl rfl rfl rfl rfl (congrArg (fun z : Int => I z) ((eu0_1) : F 0 1 = u0_1)) ?_
  refine Ew_of (pcₚ := 5) (fun _ => x_aload_n rfl rfl) ?_
  refine v_g H (o := 0) (v := I (u0_1)) rfl rfl rfl rfl rfl (congrArg (fun z : Int => I z) ((eu0_1) : F 0 1 = u0_1)) ?_
  refine v_min rfl rfl (show inr (u0_1) from q_884 h1) (show inr (u0_1) from q_884 h1) (fun z3 gz3 => ?_)
  refine Ew_of (pcₚ := 12) (fun _ => x_istore_n rfl) ?_
  refine Ew_of (pcₚ := 13) (fun _ => x_iconst rfl) ?_
  refine Ew_of (pcₚ := 14) (fun _ => x_istore_n rfl) ?_
  suffices hl14 : ∀ (m : Nat), ∀ (ls : rO) (σ : rS) (F_14 : hF) (A_14 : hA) (x14_3 : Int), rlook ls 0 = some (.ref (D 0)) → rlook ls 1 = some (.ref (D 0)) → rlook ls 2 = some (I (z3)) → rlook ls 3 = some (I (x14_3)) → HW V29_Row_1a σ D N F_14 A_14 → OUT (V29_Row_1a).length D N σE c s D N σ c s → SF [] F F_14 → SA [] A A_14 → (inr (x14_3)) → ((0) ≤ (x14_3)) → ((x14_3) ≤ (0) ∨ (x14_3) ≤ ((z3))) → (((z3)) - (x14_3)).toNat = m → Ew 29 (d + 0) 14 ls [] σ c s Q from
    hl14 _ _ _ _ _ (0) (rk_o (rk_o (rfl) rfl rfl) rfl rfl) (rk_o (rk_o (rfl) rfl rfl) rfl rfl) (rk_o (rk_s) rfl rfl) (rk_s) H O (SF_refl) (SA_refl)     (show inr (0) from q_20) (show (0) ≤ (0) from q_25) (show (0) ≤ (0) ∨ (0) ≤ ((z3)) from q_24) rfl
  as_aux_lemma =>
  intro m
  induction m using Nat.strongRecOn with
  | _ m ih14 =>
    intro ls σ F_14 A_14 x14_3 l14_0 l14_1 l14_2 l14_3 H O hS_14 hA_14     j14_0 j14_1 j14_2 hm14
    have cF_14 : SF oz_B4clsl_0 F F_14 := SF_trans (SF_refl) hS_14 (any_sub (by decide +kernel))
    have mF_14 := SFm_of cF_14 oz_B4cls_2
    have cA_14 : SA oz_B4clsl_1 A A_14 := SA_trans (SA_refl) hA_14 (any_subA (by decide +kernel))
    have mA_14 := SAm_of cA_14 oz_B4cls_3
    refine Ew_of (pcₚ := 15) (fun _ => x_iload_n rfl l14_3) ?_
    refine Ew_of (pcₚ := 16) (fun _ => x_iload_n rfl l14_2) ?_
    refine w_icmpge (t := 42) rfl rfl (show inr (x14_3) from j14_0) (show inr (z3) from q_2604 gz3 h1 j14_1 j14_2) (fun b4 => ?_) (fun b4 => ?_)
    · refine Ew_of (pcₚ := 43) (fun _ => x_aload_n rfl l14_0) ?_
      refine v_g H (o := 0) (v := I (u0_1)) rfl rfl rfl rfl rfl (congrArg (fun z : Int => I z) (((mF_14 0 1 rfl).trans (eu0_1)) : F_14 0 1 = u0_1)) ?_
      refine Ew_of (pcₚ := 47) (fun _ => x_aload_n rfl l14_1) ?_
      refine v_g H (o := 0) (v := I (u0_1)) rfl rfl rfl rfl rfl (congrArg (fun z : Int => I z) (((mF_14 0 1 rfl).trans (eu0_1)) : F_14 0 1 = u0_1)) ?_
      refine w_icmpne (t := 57) rfl rfl (show inr (u0_1) from q_884 h1) (show inr (u0_1) from q_884 h1) (fun b5 => ?_) (fun b5 => ?_)
      · refine Ew_of (pcₚ := 58) (fun _ => x_iload_n rfl l14_2) ?_
        exact w_ireturn rfl (k (z3) _ _ _ H O (cF_14) (cA_14) (show inr (z3) from q_2605 b4 gz3 h1 j14_0 j14_1 j14_2))
      · refine Ew_of (pcₚ := 54) (fun _ => x_iconst rfl) ?_
        refine Ew_of (pcₚ := 58) (fun _ => x_goto rfl rfl) ?_
        exact w_ireturn rfl (k ((-1)) _ _ _ H O (cF_14) (cA_14) (show inr ((-1)) from q_16))
    · refine Ew_of (pcₚ := 20) (fun _ => x_aload_n rfl l14_0) ?_
      refine v_g H (o := 0) (v := .ref (D 1)) rfl rfl rfl rfl rfl (vrf ((mF_14 0 0 rfl).trans (pf1))) ?_
      refine Ew_of (pcₚ := 24) (fun _ => x_iload_n rfl l14_3) ?_
      refine v_lB H (o := 1) rfl rfl rfl rfl (n := n1) (en1) (show 0 ≤ x14_3 ∧ x14_3 < n1 by omega) (fun v6 ev6 qv6 => ?_)
      have ev6 : (A 1) (x14_3) = v6 := (congrFun (funext (mA_14 1 rfl)) (x14_3)).symm.trans ev6
      refine Ew_of (pcₚ := 26) (fun _ => x_aload_n rfl l14_1) ?_
      refine v_g H (o := 0) (v := .ref (D 1)) rfl rfl rfl rfl rfl (vrf ((mF_14 0 0 rfl).trans (pf1))) ?_
      refine Ew_of (pcₚ := 30) (fun _ => x_iload_n rfl l14_3) ?_
      refine v_lB H (o := 1) rfl rfl rfl rfl (n := n1) (en1) (show 0 ≤ x14_3 ∧ x14_3 < n1 by omega) (fun v7 ev7 qv7 => ?_)
      have ev7 : (A 1) (x14_3) = v7 := (congrFun (funext (mA_14 1 rfl)) (x14_3)).symm.trans ev7
      refine w_icmpeq (t := 36) rfl rfl (show inr (v6) from q_2536 qv6) (show inr (v7) from q_2536 qv7) (fun b8 => ?_) (fun b8 => ?_)
      · refine Ew_of (pcₚ := 39) (fun _ => x_iinc (len := 3) rfl (l14_3)) ?_
        refine Ew_of (pcₚ := 14) (fun _ => x_goto rfl rfl) ?_
        exact ih14 _ (msE hm14 q_31 (q_34 b4)) _ _ _ _ ((x14_3 + 1)) (rk_o (l14_0) rfl rfl) (rk_o (l14_1) rfl rfl) (rk_o (l14_2) rfl rfl) (rk_s) H O (hS_14) (hA_14)     (show inr ((x14_3 + 1)) from q_2606 b4 gz3 h1 j14_1 j14_2) (show (0) ≤ ((x14_3 + 1)) from q_29 j14_1) (show ((x14_3 + 1)) ≤ (0) ∨ ((x14_3 + 1)) ≤ ((z3)) from q_33 b4) rfl
      · refine Ew_of (pcₚ := 35) (fun _ => x_iload_n rfl l14_3) ?_
        exact w_ireturn rfl (k (x14_3) _ _ _ H O (cF_14) (cA_14) (show inr (x14_3) from j14_0))
abbrev V192_Br : vV := [(1, 0, [])]
theorem len_V192_Br_oz_B4cls : (V192_Br).length = 1 := by decide +kernel
/-- Tags.isMark: #1 -/
theorem C192_Br {σE : rS} {D N : Nat → Nat} {F : hF} {A : hA} {d c s : Nat} {Q : wQ} (H : HW V192_Br σE D N F A) (HT : STC σE) {a2 a3 : Int} (n0 : Int) (en0 : (N 0 : Int) = n0) (h0 : inr (a2)) (h1 : inr (a3)) (h2 : 0 ≤ (a2) ∧ 0 ≤ (a3) ∧ (a3) ≤ (n0) ∧ (n0) ≤ 65536 ∧ (a2) ≤ 200000) (k : ∀ (z : Int) (σ : rS) (Fₚ : hF) (Aₚ : hA), HW V192_Br σ D N Fₚ Aₚ → OUT (V192_Br).length D N σE c s D N σ c s → SF [] F Fₚ → SA [] A Aₚ → ((z) = 0 ∨ (z) = 1) → Q (some (I z)) σ c s) : Ew 192 (d + 0) 0 (rargs 0 [.ref (D 0), I a2, I a3]) [] σE c s Q := by
  have O := OUT_refl (n := (V192_Br).length) (D := D) (N := N) (σ := σE) (c := c) (s := s)
  have HE := H
  have r1 : (0 : Int) ≤ n0 ∧ n0 ≤ 1000000 := nleE (H.nle 0 (ltn len_V192_Br_oz_B4cls rfl)) (show (N 0 : Int) = n0 from en0)
  refine Ew_of (pcₚ := 1) (fun _ => x_iload_n rfl rfl) ?_
  refine Ew_of (pcₚ := 2) (fun _ => x_iload_n rfl rfl) ?_
  refine w_isub rfl ?_
  refine Ew_of (pcₚ := 6) (fun _ => x_getstatic rfl) ?_
  refine v_stL (STC_out HT HE O) (b := 0) (n := 10) rfl rfl rfl ?_
  refine w_icmpge (t := 12) rfl rfl (show inr ((a3 - a2)) from q_2557 h2) (show inr (10) from q_532) (fun b2 => ?_) (fun b2 => ?_)
  · refine Ew_of (pcₚ := 13) (fun _ => x_iconst rfl) ?_
    refine Ew_of (pcₚ := 14) (fun _ => x_istore_n rfl) ?_
    suffices hl14 : ∀ (m : Nat), ∀ (ls : rO) (σ : rS) (F_14 : hF) (A_14 : hA) (x14_3 : Int), rlook ls 0 = some (.ref (D 0)) → rlook ls 1 = some (I (a2)) → rlook ls 3 = some (I (x14_3)) → HW V192_Br σ D N F_14 A_14 → OUT (V192_Br).length D N σE c s D N σ c s → SF [] F F_14 → SA [] A A_14 → (inr (x14_3)) → ((0) ≤ (x14_3)) → ((x14_3) ≤ (0) ∨ (x14_3) ≤ ((10))) → (((10)) - (x14_3)).toNat = m → Ew 192 (d + 0) 14 ls [] σ c s Q from
      hl14 _ _ _ _ _ (0) (rk_o (rfl) rfl rfl) (rk_o (rfl) rfl rfl) (rk_s) H O (SF_refl) (SA_refl)     (show inr (0) from q_20) (show (0) ≤ (0) from q_25) (show (0) ≤ (0) ∨ (0) ≤ ((10)) from q_2607) rfl
    as_aux_lemma =>
    intro m
    induction m using Nat.strongRecOn with
    | _ m ih14 =>
      intro ls σ F_14 A_14 x14_3 l14_0 l14_1 l14_3 H O hS_14 hA_14     j14_0 j14_1 j14_2 hm14
      have cF_14 : SF oz_B4clsl_0 F F_14 := SF_trans (SF_refl) hS_14 (any_sub (by decide +kernel))
      have mF_14 := SFm_of cF_14 oz_B4cls_2
      have cA_14 : SA oz_B4clsl_1 A A_14 := SA_trans (SA_refl) hA_14 (any_subA (by decide +kernel))
      have mA_14 := SAm_of cA_14 oz_B4cls_3
      refine Ew_of (pcₚ := 15) (fun _ => x_iload_n rfl l14_3) ?_
      refine Ew_of (pcₚ := 18) (fun _ => x_getstatic rfl) ?_
      refine v_stL (STC_out HT HE O) (b := 0) (n := 10) rfl rfl rfl ?_
      refine w_icmpge (t := 43) rfl rfl (show inr (x14_3) from j14_0) (show inr (10) from q_532) (fun b3 => ?_) (fun b3 => ?_)
      · refine Ew_of (pcₚ := 44) (fun _ => x_iconst rfl) ?_
        exact w_ireturn rfl (k (1) _ _ _ H O (cF_14) (cA_14) (show (1) = 0 ∨ (1) = 1 by first | exact q_5 | omega))
      · refine Ew_of (pcₚ := 23) (fun _ => x_aload_n rfl l14_0) ?_
        refine Ew_of (pcₚ := 24) (fun _ => x_iload_n rfl l14_1) ?_
        refine Ew_of (pcₚ := 25) (fun _ => x_iload_n rfl l14_3) ?_
        refine w_iadd rfl ?_
        refine v_lB H (o := 0) rfl rfl rfl rfl (n := n0) (en0) (show 0 ≤ (a2 + x14_3) ∧ (a2 + x14_3) < n0 from q_2608 b2 b3 h2 j14_1) (fun v4 ev4 qv4 => ?_)
        have ev4 : (A 0) ((a2 + x14_3)) = v4 := (congrFun (funext (mA_14 0 rfl)) ((a2 + x14_3))).symm.trans ev4
        refine Ew_of (pcₚ := 30) (fun _ => x_getstatic rfl) ?_
        refine Ew_of (pcₚ := 31) (fun _ => x_iload_n rfl l14_3) ?_
        refine v_stB (STC_out HT HE O) (b := 0) (n := 10) rfl rfl rfl rfl (show 0 ≤ x14_3 ∧ x14_3 < 10 from q_2609 b3 j14_1) (fun v5 ev5 qv5 => ?_)
        refine w_icmpeq (t := 37) rfl rfl (show inr (v4) from q_2536 qv4) (show inr (v5) by omega) (fun b6 => ?_) (fun b6 => ?_)
        · refine Ew_of (pcₚ := 40) (fun _ => x_iinc (len := 3) rfl (l14_3)) ?_
          refine Ew_of (pcₚ := 14) (fun _ => x_goto rfl rfl) ?_
          exact ih14 _ (msE hm14 q_2612 (q_2613 b3)) _ _ _ _ ((x14_3 + 1)) (rk_o (l14_0) rfl rfl) (rk_o (l14_1) rfl rfl) (rk_s) H O (hS_14) (hA_14)     (show inr ((x14_3 + 1)) from q_2611 b3 j14_1) (show (0) ≤ ((x14_3 + 1)) from q_29 j14_1) (show ((x14_3 + 1)) ≤ (0) ∨ ((x14_3 + 1)) ≤ ((10)) from q_2610 b3) rfl
        · refine Ew_of (pcₚ := 36) (fun _ => x_iconst rfl) ?_
          exact w_ireturn rfl (k (0) _ _ _ H O (cF_14) (cA_14) (show (0) = 0 ∨ (0) = 1 by first | exact q_1 | omega))
  · refine Ew_of (pcₚ := 11) (fun _ => x_iconst rfl) ?_
    exact w_ireturn rfl (k (0) _ _ _ H O (SF_refl) (SA_refl) (show (0) = 0 ∨ (0) = 1 by first | exact q_1 | omega))
abbrev V33_Row : vV := [(0, 7, [(4, 0), (0, 0), (1, 0), (0, 0), (0, 0)]), (1, 0, [])]
theorem len_V33_Row_oz_B4cls : (V33_Row).length = 2 := by decide +kernel
theorem oz_B4cls_34 : vsub V33_Row V41_Br [1] = true := by decide +kernel
theorem oz_B4cls_35 : vsub V33_Row V192_Br [1] = true := by decide +kernel
theorem oz_B4cls_36 : vsub V33_Row V43_Br [1] = true := by decide +kernel
theorem oz_B4cls_37 : vsub V33_Row V44_Br [1] = true := by decide +kernel
theorem oz_B4cls_38 : okc oz_B4clsl_4 1 = true := by decide +kernel
/-- PackHouse.formatOf: #1, #1.bytes -/
theorem C33_Row {σE : rS} {D N : Nat → Nat} {F : hF} {A : hA} {d c s : Nat} {Q : wQ} (H : HW V33_Row σE D N F A) (HT : STC σE)  (pf1 : F 0 0 = (D 1 : Int)) (n1 : Int) (en1 : (N 1 : Int) = n1) (u0_1 : Int) (eu0_1 : F 0 1 = u0_1) (h0 : 0 ≤ (u0_1) ∧ (u0_1) ≤ (n1) ∧ (n1) ≤ 65536) (k : ∀ (z : Int) (σ : rS) (Fₚ : hF) (Aₚ : hA), HW V33_Row σ D N Fₚ Aₚ → OUT (V33_Row).length D N σE c s D N σ c s → SF [] F Fₚ → SA [] A Aₚ → (inr (z)) → ((z) = 0 ∨ (z) = 1 ∨ 3 ≤ (z) ∧ (z) ≤ 5) → Q (some (I z)) σ c s) : Ew 33 (d + 2) 0 (rargs 0 [.ref (D 0)]) [] σE c s Q := by
  have O := OUT_refl (n := (V33_Row).length) (D := D) (N := N) (σ := σE) (c := c) (s := s)
  have HE := H
  have r1 : (-2147483648 : Int) ≤ u0_1 ∧ u0_1 ≤ 2147483647 := rngE (show (-2147483648 : Int) ≤ F 0 1 ∧ F 0 1 ≤ 2147483647 from H.krg 0 1 (ltn len_V33_Row_oz_B4cls rfl)) (show F 0 1 = u0_1 from (eu0_1))
  have r2 : (0 : Int) ≤ n1 ∧ n1 ≤ 1000000 := nleE (H.nle 1 (ltn len_V33_Row_oz_B4cls rfl)) (show (N 1 : Int) = n1 from en1)
  refine Ew_of (pcₚ := 1) (fun _ => x_aload_n rfl rfl) ?_
  refine v_g H (o := 0) (v := .ref (D 1)) rfl rfl rfl rfl rfl (vrf (pf1)) ?_
  refine Ew_of (pcₚ := 5) (fun _ => x_astore_n rfl) ?_
  refine Ew_of (pcₚ := 6) (fun _ => x_iconst rfl) ?_
  refine Ew_of (pcₚ := 7) (fun _ => x_istore_n rfl) ?_
  refine Ew_of (pcₚ := 8) (fun _ => x_iconst rfl) ?_
  refine Ew_of (pcₚ := 9) (fun _ => x_istore_n rfl) ?_
  suffices hl9 : ∀ (m : Nat), ∀ (ls : rO) (σ : rS) (F_9 : hF) (A_9 : hA) (x9_2 : Int) (x9_3 : Int), rlook ls 0 = some (.ref (D 0)) → rlook ls 1 = some (.ref (D 1)) → rlook ls 2 = some (I (x9_2)) → rlook ls 3 = some (I (x9_3)) → HW V33_Row σ D N F_9 A_9 → OUT (V33_Row).length D N σE c s D N σ c s → SF [] F F_9 → SA [] A A_9 → (inr (x9_2)) → (inr (x9_3)) → (0 ≤ (x9_2) ∧ (x9_2) ≤ (u0_1)) → (0 ≤ (x9_3) ∧ (x9_3) ≤ (u0_1) + 1) → ((u0_1) + 2 - (x9_3)).toNat = m → Ew 33 (d + 2) 9 ls [] σ c s Q from
    hl9 _ _ _ _ _ (0) (0) (rk_o (rk_o (rk_o (rfl) rfl rfl) rfl rfl) rfl rfl) (rk_o (rk_o (rk_s) rfl rfl) rfl rfl) (rk_o (rk_s) rfl rfl) (rk_s) H O (SF_refl) (SA_refl)     (show inr (0) from q_20) (show inr (0) from q_20) (show 0 ≤ (0) ∧ (0) ≤ (u0_1) from q_2615 h0) (show 0 ≤ (0) ∧ (0) ≤ (u0_1) + 1 from q_2614 h0) rfl
  as_aux_lemma =>
  intro m
  induction m using Nat.strongRecOn with
  | _ m ih9 =>
    intro ls σ F_9 A_9 x9_2 x9_3 l9_0 l9_1 l9_2 l9_3 H O hS_9 hA_9     j9_0 j9_1 j9_2 j9_3 hm9
    have cF_9 : SF oz_B4clsl_0 F F_9 := SF_trans (SF_refl) hS_9 (any_sub (by decide +kernel))
    have mF_9 := SFm_of cF_9 oz_B4cls_2
    have cA_9 : SA oz_B4clsl_1 A A_9 := SA_trans (SA_refl) hA_9 (any_subA (by decide +kernel))
    have mA_9 := SAm_of cA_9 oz_B4cls_3
    refine Ew_of (pcₚ := 10) (fun _ => x_iload_n rfl l9_3) ?_
    refine Ew_of (pcₚ := 11) (fun _ => x_aload_n rfl l9_0) ?_
    refine v_g H (o := 0) (v := I (u0_1)) rfl rfl rfl rfl rfl (congrArg (fun z : Int => I z) (((mF_9 0 1 rfl).trans (eu0_1)) : F_9 0 1 = u0_1)) ?_
    refine w_icmpgt (t := 56) rfl rfl (show inr (x9_3) from j9_1) (show inr (u0_1) from q_884 h0) (fun b3 => ?_) (fun b3 => ?_)
    · refine Ew_of (pcₚ := 57) (fun _ => x_aload_n rfl l9_0) ?_
      refine v_g H (o := 0) (v := I (u0_1)) rfl rfl rfl rfl rfl (congrArg (fun z : Int => I z) (((mF_9 0 1 rfl).trans (eu0_1)) : F_9 0 1 = u0_1)) ?_
      refine Ew_of (pcₚ := 61) (fun _ => x_iload_n rfl l9_2) ?_
      refine w_isub rfl ?_
      refine Ew_of (pcₚ := 63) (fun _ => x_iconst rfl) ?_
      refine w_icmpge (t := 68) rfl rfl (show inr ((u0_1 - x9_2)) from q_2616 h0 j9_2) (show inr (4) from q_2) (fun b4 => ?_) (fun b4 => ?_)
      · refine Ew_of (pcₚ := 69) (fun _ => x_aload_n rfl l9_1) ?_
        refine Ew_of (pcₚ := 70) (fun _ => x_iload_n rfl l9_2) ?_
        refine w_stat24 rfl rfl (by rfl) (C41_Br (D := puc 1 D) (N := puc 1 N) (HW_subc H oz_B4cls_34 oz_B4cls_38) (n1) (en1) (show inr (x9_2) from j9_0) (show 0 ≤ (x9_2) ∧ (x9_2) + 4 ≤ (n1) from q_2617 b4 h0 j9_2) (fun z5 σ5 F5ₚ A5ₚ Hₚ Oₚ hS5 hA5 pz5_0 => ⟨rfl, ?_⟩))
        refine v_backc (c := c) (s := s) H oz_B4cls_34 oz_B4cls_38 Hₚ Oₚ (fun F5 A5 H Oₚ eF5 eA5 => ?_)
        have O := OUT_trans O Oₚ
        -- PackHouse.word
        have cF5 : SF oz_B4clsl_0 F F5 := SF_trans (cF_9) (SF_gluc (ι := oz_B4clsl_4) oz_B4cls_38 hS5 eF5 (by decide +kernel)) (any_sub (lₚ := []) (by decide +kernel))
        have mF5 := SFm_of cF5 oz_B4cls_2
        have cA5 : SA oz_B4clsl_1 A A5 := SA_trans (cA_9) (SA_gluc (ι := oz_B4clsl_4) oz_B4cls_38 hA5 eA5 (by decide +kernel)) (any_subA (lₚ := []) (by decide +kernel))
        have mA5 := SAm_of cA5 oz_B4cls_3
        by_cases b6 : z5 = (-332356553)
        · refine w_lsk 112 rfl (show inr (z5) from pz5_0) b6 rfl rfl ?_
          refine Ew_of (pcₚ := 113) (fun _ => x_iconst rfl) ?_
          exact w_ireturn rfl (k (5) _ _ _ H O (cF5) (cA5) (show inr (5) from q_509) (show (5) = 0 ∨ (5) = 1 ∨ 3 ≤ (5) ∧ (5) ≤ 5 by first | exact q_2618 | omega))
        ·
          by_cases b7 : z5 = (-47205080)
          · refine w_lsk 110 rfl (show inr (z5) from pz5_0) b7 rfl rfl ?_
            refine Ew_of (pcₚ := 111) (fun _ => x_iconst rfl) ?_
            exact w_ireturn rfl (k (4) _ _ _ H O (cF5) (cA5) (show inr (4) from q_2) (show (4) = 0 ∨ (4) = 1 ∨ 3 ≤ (4) ∧ (4) ≤ 5 by first | exact q_2619 | omega))
          ·
            by_cases b8 : z5 = 407708164
            · refine w_lsk 108 rfl (show inr (z5) from pz5_0) b8 rfl rfl ?_
              refine Ew_of (pcₚ := 109) (fun _ => x_iconst rfl) ?_
              exact w_ireturn rfl (k (1) _ _ _ H O (cF5) (cA5) (show inr (1) from q_23) (show (1) = 0 ∨ (1) = 1 ∨ 3 ≤ (1) ∧ (1) ≤ 5 by first | exact q_2620 | omega))
            ·
              refine w_lsd 114 rfl (show inr (z5) from pz5_0) (by intro q hq; simp at hq; rcases hq with rfl | rfl | rfl <;> (first | omega | (simp; omega) | (intro e; simp at e; omega))) rfl ?_
              refine Ew_of (pcₚ := 115) (fun _ => x_aload_n rfl l9_1) ?_
              refine Ew_of (pcₚ := 116) (fun _ => x_iload_n rfl l9_2) ?_
              refine Ew_of (pcₚ := 117) (fun _ => x_aload_n rfl l9_0) ?_
              refine v_g H (o := 0) (v := I (u0_1)) rfl rfl rfl rfl rfl (congrArg (fun z : Int => I z) (((mF5 0 1 rfl).trans (eu0_1)) : F5 0 1 = u0_1)) ?_
              refine w_stat24 rfl rfl (by rfl) (C192_Br (D := puc 1 D) (N := puc 1 N) (HW_subc H oz_B4cls_35 oz_B4cls_38) (STC_out HT HE O) (n1) (en1) (show inr (x9_2) from j9_0) (show inr (u0_1) from q_884 h0) (show 0 ≤ (x9_2) ∧ 0 ≤ (u0_1) ∧ (u0_1) ≤ (n1) ∧ (n1) ≤ 65536 ∧ (x9_2) ≤ 200000 from q_2621 b4 h0 j9_2) (fun z9 σ9 F9ₚ A9ₚ Hₚ Oₚ hS9 hA9 pz9_0 => ⟨rretB rfl pz9_0, ?_⟩))
              refine v_backc (c := c) (s := s) H oz_B4cls_35 oz_B4cls_38 Hₚ Oₚ (fun F9 A9 H Oₚ eF9 eA9 => ?_)
              have O := OUT_trans O Oₚ
              -- Tags.isMark
              have cF9 : SF oz_B4clsl_0 F F9 := SF_trans (cF5) (SF_gluc (ι := oz_B4clsl_4) oz_B4cls_38 hS9 eF9 (by decide +kernel)) (any_sub (lₚ := []) (by decide +kernel))
              have mF9 := SFm_of cF9 oz_B4cls_2
              have cA9 : SA oz_B4clsl_1 A A9 := SA_trans (cA5) (SA_gluc (ι := oz_B4clsl_4) oz_B4cls_38 hA9 eA9 (by decide +kernel)) (any_subA (lₚ := []) (by decide +kernel))
              have mA9 := SAm_of cA9 oz_B4cls_3
              refine w_ifeq (t := 130) rfl rfl (show inr (z9) from q_15 pz9_0) (fun b10 => ?_) (fun b10 => ?_)
              · refine Ew_of (pcₚ := 131) (fun _ => x_iconst rfl) ?_
                exact w_ireturn rfl (k (0) _ _ _ H O (cF9) (cA9) (show inr (0) from q_20) (show (0) = 0 ∨ (0) = 1 ∨ 3 ≤ (0) ∧ (0) ≤ 5 by first | exact q_2622 | omega))
              · refine Ew_of (pcₚ := 127) (fun _ => x_iconst rfl) ?_
                refine Ew_of (pcₚ := 131) (fun _ => x_goto rfl rfl) ?_
                exact w_ireturn rfl (k (3) _ _ _ H O (cF9) (cA9) (show inr (3) from q_66) (show (3) = 0 ∨ (3) = 1 ∨ 3 ≤ (3) ∧ (3) ≤ 5 by first | exact q_2623 | omega))
      · refine Ew_of (pcₚ := 67) (fun _ => x_iconst rfl) ?_
        exact w_ireturn rfl (k (0) _ _ _ H O (cF_9) (cA_9) (show inr (0) from q_20) (show (0) = 0 ∨ (0) = 1 ∨ 3 ≤ (0) ∧ (0) ≤ 5 by first | exact q_2622 | omega))
    · refine Ew_of (pcₚ := 18) (fun _ => x_aload_n rfl l9_1) ?_
      refine Ew_of (pcₚ := 19) (fun _ => x_iload_n rfl l9_2) ?_
      refine Ew_of (pcₚ := 20) (fun _ => x_aload_n rfl l9_0) ?_
      refine v_g H (o := 0) (v := I (u0_1)) rfl rfl rfl rfl rfl (congrArg (fun z : Int => I z) (((mF_9 0 1 rfl).trans (eu0_1)) : F_9 0 1 = u0_1)) ?_
      refine w_stat24 rfl rfl (by rfl) (C43_Br (D := puc 1 D) (N := puc 1 N) (HW_subc H oz_B4cls_36 oz_B4cls_38) (n1) (en1) (show inr (x9_2) from j9_0) (show inr (u0_1) from q_884 h0) (show 0 ≤ (x9_2) ∧ 0 ≤ (u0_1) ∧ (u0_1) ≤ (n1) ∧ (n1) ≤ 65536 ∧ (x9_2) ≤ 200000 from q_2624 h0 j9_2) (fun z11 σ11 F11ₚ A11ₚ Hₚ Oₚ hS11 hA11 pz11_0 pz11_1 => ⟨rretB rfl pz11_0, ?_⟩))
      refine v_backc (c := c) (s := s) H oz_B4cls_36 oz_B4cls_38 Hₚ Oₚ (fun F11 A11 H Oₚ eF11 eA11 => ?_)
      have O := OUT_trans O Oₚ
      -- PackHouse.isSpare
      have cF11 : SF oz_B4clsl_0 F F11 := SF_trans (cF_9) (SF_gluc (ι := oz_B4clsl_4) oz_B4cls_38 hS11 eF11 (by decide +kernel)) (any_sub (lₚ := []) (by decide +kernel))
      have mF11 := SFm_of cF11 oz_B4cls_2
      have cA11 : SA oz_B4clsl_1 A A11 := SA_trans (cA_9) (SA_gluc (ι := oz_B4clsl_4) oz_B4cls_38 hA11 eA11 (by decide +kernel)) (any_subA (lₚ := []) (by decide +kernel))
      have mA11 := SAm_of cA11 oz_B4cls_3
      refine w_ifeq (t := 56) rfl rfl (show inr (z11) from q_15 pz11_0) (fun b12 => ?_) (fun b12 => ?_)
      · refine Ew_of (pcₚ := 57) (fun _ => x_aload_n rfl l9_0) ?_
        refine v_g H (o := 0) (v := I (u0_1)) rfl rfl rfl rfl rfl (congrArg (fun z : Int => I z) (((mF11 0 1 rfl).trans (eu0_1)) : F11 0 1 = u0_1)) ?_
        refine Ew_of (pcₚ := 61) (fun _ => x_iload_n rfl l9_2) ?_
        refine w_isub rfl ?_
        refine Ew_of (pcₚ := 63) (fun _ => x_iconst rfl) ?_
        refine w_icmpge (t := 68) rfl rfl (show inr ((u0_1 - x9_2)) from q_2616 h0 j9_2) (show inr (4) from q_2) (fun b13 => ?_) (fun b13 => ?_)
        · refine Ew_of (pcₚ := 69) (fun _ => x_aload_n rfl l9_1) ?_
          refine Ew_of (pcₚ := 70) (fun _ => x_iload_n rfl l9_2) ?_
          refine w_stat24 rfl rfl (by rfl) (C41_Br (D := puc 1 D) (N := puc 1 N) (HW_subc H oz_B4cls_34 oz_B4cls_38) (n1) (en1) (show inr (x9_2) from j9_0) (show 0 ≤ (x9_2) ∧ (x9_2) + 4 ≤ (n1) from q_2617 b13 h0 j9_2) (fun z14 σ14 F14ₚ A14ₚ Hₚ Oₚ hS14 hA14 pz14_0 => ⟨rfl, ?_⟩))
          refine v_backc (c := c) (s := s) H oz_B4cls_34 oz_B4cls_38 Hₚ Oₚ (fun F14 A14 H Oₚ eF14 eA14 => ?_)
          have O := OUT_trans O Oₚ
          -- PackHouse.word
          have cF14 : SF oz_B4clsl_0 F F14 := SF_trans (cF11) (SF_gluc (ι := oz_B4clsl_4) oz_B4cls_38 hS14 eF14 (by decide +kernel)) (any_sub (lₚ := []) (by decide +kernel))
          have mF14 := SFm_of cF14 oz_B4cls_2
          have cA14 : SA oz_B4clsl_1 A A14 := SA_trans (cA11) (SA_gluc (ι := oz_B4clsl_4) oz_B4cls_38 hA14 eA14 (by decide +kernel)) (any_subA (lₚ := []) (by decide +kernel))
          have mA14 := SAm_of cA14 oz_B4cls_3
          by_cases b15 : z14 = (-332356553)
          · refine w_lsk 112 rfl (show inr (z14) from pz14_0) b15 rfl rfl ?_
            refine Ew_of (pcₚ := 113) (fun _ => x_iconst rfl) ?_
            exact w_ireturn rfl (k (5) _ _ _ H O (cF14) (cA14) (show inr (5) from q_509) (show (5) = 0 ∨ (5) = 1 ∨ 3 ≤ (5) ∧ (5) ≤ 5 by first | exact q_2618 | omega))
          ·
            by_cases b16 : z14 = (-47205080)
            · refine w_lsk 110 rfl (show inr (z14) from pz14_0) b16 rfl rfl ?_
              refine Ew_of (pcₚ := 111) (fun _ => x_iconst rfl) ?_
              exact w_ireturn rfl (k (4) _ _ _ H O (cF14) (cA14) (show inr (4) from q_2) (show (4) = 0 ∨ (4) = 1 ∨ 3 ≤ (4) ∧ (4) ≤ 5 by first | exact q_2619 | omega))
            ·
              by_cases b17 : z14 = 407708164
              · refine w_lsk 108 rfl (show inr (z14) from pz14_0) b17 rfl rfl ?_
                refine Ew_of (pcₚ := 109) (fun _ => x_iconst rfl) ?_
                exact w_ireturn rfl (k (1) _ _ _ H O (cF14) (cA14) (show inr (1) from q_23) (show (1) = 0 ∨ (1) = 1 ∨ 3 ≤ (1) ∧ (1) ≤ 5 by first | exact q_2620 | omega))
              ·
                refine w_lsd 114 rfl (show inr (z14) from pz14_0) (by intro q hq; simp at hq; rcases hq with rfl | rfl | rfl <;> (first | omega | (simp; omega) | (intro e; simp at e; omega))) rfl ?_
                refine Ew_of (pcₚ := 115) (fun _ => x_aload_n rfl l9_1) ?_
                refine Ew_of (pcₚ := 116) (fun _ => x_iload_n rfl l9_2) ?_
                refine Ew_of (pcₚ := 117) (fun _ => x_aload_n rfl l9_0) ?_
                refine v_g H (o := 0) (v := I (u0_1)) rfl rfl rfl rfl rfl (congrArg (fun z : Int => I z) (((mF14 0 1 rfl).trans (eu0_1)) : F14 0 1 = u0_1)) ?_
                refine w_stat24 rfl rfl (by rfl) (C192_Br (D := puc 1 D) (N := puc 1 N) (HW_subc H oz_B4cls_35 oz_B4cls_38) (STC_out HT HE O) (n1) (en1) (show inr (x9_2) from j9_0) (show inr (u0_1) from q_884 h0) (show 0 ≤ (x9_2) ∧ 0 ≤ (u0_1) ∧ (u0_1) ≤ (n1) ∧ (n1) ≤ 65536 ∧ (x9_2) ≤ 200000 from q_2621 b13 h0 j9_2) (fun z18 σ18 F18ₚ A18ₚ Hₚ Oₚ hS18 hA18 pz18_0 => ⟨rretB rfl pz18_0, ?_⟩))
                refine v_backc (c := c) (s := s) H oz_B4cls_35 oz_B4cls_38 Hₚ Oₚ (fun F18 A18 H Oₚ eF18 eA18 => ?_)
                have O := OUT_trans O Oₚ
                -- Tags.isMark
                have cF18 : SF oz_B4clsl_0 F F18 := SF_trans (cF14) (SF_gluc (ι := oz_B4clsl_4) oz_B4cls_38 hS18 eF18 (by decide +kernel)) (any_sub (lₚ := []) (by decide +kernel))
                have mF18 := SFm_of cF18 oz_B4cls_2
                have cA18 : SA oz_B4clsl_1 A A18 := SA_trans (cA14) (SA_gluc (ι := oz_B4clsl_4) oz_B4cls_38 hA18 eA18 (by decide +kernel)) (any_subA (lₚ := []) (by decide +kernel))
                have mA18 := SAm_of cA18 oz_B4cls_3
                refine w_ifeq (t := 130) rfl rfl (show inr (z18) from q_15 pz18_0) (fun b19 => ?_) (fun b19 => ?_)
                · refine Ew_of (pcₚ := 131) (fun _ => x_iconst rfl) ?_
                  exact w_ireturn rfl (k (0) _ _ _ H O (cF18) (cA18) (show inr (0) from q_20) (show (0) = 0 ∨ (0) = 1 ∨ 3 ≤ (0) ∧ (0) ≤ 5 by first | exact q_2622 | omega))
                · refine Ew_of (pcₚ := 127) (fun _ => x_iconst rfl) ?_
                  refine Ew_of (pcₚ := 131) (fun _ => x_goto rfl rfl) ?_
                  exact w_ireturn rfl (k (3) _ _ _ H O (cF18) (cA18) (show inr (3) from q_66) (show (3) = 0 ∨ (3) = 1 ∨ 3 ≤ (3) ∧ (3) ≤ 5 by first | exact q_2623 | omega))
        · refine Ew_of (pcₚ := 67) (fun _ => x_iconst rfl) ?_
          exact w_ireturn rfl (k (0) _ _ _ H O (cF11) (cA11) (show inr (0) from q_20) (show (0) = 0 ∨ (0) = 1 ∨ 3 ≤ (0) ∧ (0) ≤ 5 by first | exact q_2622 | omega))
      · refine Ew_of (pcₚ := 30) (fun _ => x_aload_n rfl l9_1) ?_
        refine Ew_of (pcₚ := 31) (fun _ => x_iload_n rfl l9_2) ?_
        refine Ew_of (pcₚ := 32) (fun _ => x_aload_n rfl l9_0) ?_
        refine v_g H (o := 0) (v := I (u0_1)) rfl rfl rfl rfl rfl (congrArg (fun z : Int => I z) (((mF11 0 1 rfl).trans (eu0_1)) : F11 0 1 = u0_1)) ?_
        refine w_stat24 rfl rfl (by rfl) (C44_Br (D := puc 1 D) (N := puc 1 N) (HW_subc H oz_B4cls_37 oz_B4cls_38) (n1) (en1) (show inr (x9_2) from j9_0) (show inr (u0_1) from q_884 h0) (show 0 ≤ (x9_2) ∧ 0 ≤ (u0_1) ∧ (u0_1) ≤ (n1) ∧ (n1) ≤ 65536 ∧ (x9_2) ≤ 200000 from q_2624 h0 j9_2) (fun z20 σ20 F20ₚ A20ₚ Hₚ Oₚ hS20 hA20 pz20_0 pz20_1 => ⟨rfl, ?_⟩))
        refine v_backc (c := c) (s := s) H oz_B4cls_37 oz_B4cls_38 Hₚ Oₚ (fun F20 A20 H Oₚ eF20 eA20 => ?_)
        have O := OUT_trans O Oₚ
        -- PackHouse.afterSpare
        have cF20 : SF oz_B4clsl_0 F F20 := SF_trans (cF11) (SF_gluc (ι := oz_B4clsl_4) oz_B4cls_38 hS20 eF20 (by decide +kernel)) (any_sub (lₚ := []) (by decide +kernel))
        have mF20 := SFm_of cF20 oz_B4cls_2
        have cA20 : SA oz_B4clsl_1 A A20 := SA_trans (cA11) (SA_gluc (ι := oz_B4clsl_4) oz_B4cls_38 hA20 eA20 (by decide +kernel)) (any_subA (lₚ := []) (by decide +kernel))
        have mA20 := SAm_of cA20 oz_B4cls_3
        refine Ew_of (pcₚ := 40) (fun _ => x_istore rfl) ?_
        refine Ew_of (pcₚ := 42) (fun _ => x_iload rfl rk_s) ?_
        refine w_ifge (t := 47) rfl rfl (show inr (z20) from pz20_0) (fun b21 => ?_) (fun b21 => ?_)
        · refine Ew_of (pcₚ := 49) (fun _ => x_iload rfl rk_s) ?_
          refine Ew_of (pcₚ := 50) (fun _ => x_istore_n rfl) ?_
          refine Ew_of (pcₚ := 53) (fun _ => x_iinc (len := 3) rfl (rk_o (rk_o (l9_3) rfl rfl) rfl rfl)) ?_
          refine Ew_of (pcₚ := 9) (fun _ => x_goto rfl rfl) ?_
          exact ih9 _ (msE hm9 q_2270 (q_2628 b3)) _ _ _ _ (z20) ((x9_3 + 1)) (rk_o (rk_o (rk_o (l9_0) rfl rfl) rfl rfl) rfl rfl) (rk_o (rk_o (rk_o (l9_1) rfl rfl) rfl rfl) rfl rfl) (rk_o (rk_s) rfl rfl) (rk_s) H O (SF_trans (SF_trans (hS_9) (SF_gluc (ι := oz_B4clsl_4) oz_B4cls_38 hS11 eF11 (by decide +kernel)) (any_sub (lₚ := []) (by decide +kernel))) (SF_gluc (ι := oz_B4clsl_4) oz_B4cls_38 hS20 eF20 (by decide +kernel)) (any_sub (lₚ := []) (by decide +kernel))) (SA_trans (SA_trans (hA_9) (SA_gluc (ι := oz_B4clsl_4) oz_B4cls_38 hA11 eA11 (by decide +kernel)) (any_subA (lₚ := []) (by decide +kernel))) (SA_gluc (ι := oz_B4clsl_4) oz_B4cls_38 hA20 eA20 (by decide +kernel)) (any_subA (lₚ := []) (by decide +kernel)))     (show inr (z20) from pz20_0) (show inr ((x9_3 + 1)) from q_2627 b3 h0 j9_3) (show 0 ≤ (z20) ∧ (z20) ≤ (u0_1) from q_2626 b21 h0 pz20_1) (show 0 ≤ ((x9_3 + 1)) ∧ ((x9_3 + 1)) ≤ (u0_1) + 1 from q_2625 b3 j9_3) rfl
        · refine Ew_of (pcₚ := 46) (fun _ => x_iconst rfl) ?_
          exact w_ireturn rfl (k (0) _ _ _ H O (cF20) (cA20) (show inr (0) from q_20) (show (0) = 0 ∨ (0) = 1 ∨ 3 ≤ (0) ∧ (0) ≤ 5 by first | exact q_2622 | omega))
