abbrev V43_Br : vV := [(1, 0, [])]
theorem len_V43_Br_oz_B4cls : (V43_Br).length = 1 := by decide +kernel
theorem oz_B4cls_1 : vsub V43_Br V41_Br [0] = true := by decide +kernel
def oz_B4clsl_0 : List (Nat × Nat) := []
theorem oz_B4cls_2 : (oz_B4clsl_0).all (fun p => !tbz 0 (Nat.add (Nat.mul 32 p.1) p.2)) = true := by decide +kernel
def oz_B4clsl_1 : List Nat := []
theorem oz_B4cls_3 : (oz_B4clsl_1).all (fun p => !tbz 0 p) = true := by decide +kernel
def oz_B4clsl_2 : List Nat := [0]
theorem oz_B4cls_4 : okc oz_B4clsl_2 0 = true := by decide +kernel

theorem C43_Br {σE : rS} {D N : Nat → Nat} {F : hF} {A : hA} {d c s : Nat} {Q : wQ} (H : HW V43_Br σE D N F A) {a2 a3 : Int} (n0 : Int) (en0 : (N 0 : Int) = n0) (w0 : Int → Int) (ew0 : A 0 = w0) (h0 : inr (a2)) (h1 : inr (a3)) (h2 : 0 ≤ (a2) ∧ 0 ≤ (a3) ∧ (a3) ≤ (n0) ∧ (n0) ≤ 65536 ∧ (a2) ≤ 200000) (k : ∀ (z : Int) (σ : rS) (Fₚ : hF) (Aₚ : hA), HW V43_Br σ D N Fₚ Aₚ → OUT (V43_Br).length D N σE c s D N σ c s → SF [] F Fₚ → SA [] A Aₚ → ((z) = 0 ∨ (z) = 1) → ((z) = 1 → (a2) + 4 ≤ (a3)) → (SPQ ((w0)) ((a2)) ((a3)) ((z))) → Q (some (I z)) σ c s) : Ew 43 (d + 1) 0 (rargs 0 [.ref (D 0), I a2, I a3]) [] σE c s Q := by
  have O := OUT_refl (n := (V43_Br).length) (D := D) (N := N) (σ := σE) (c := c) (s := s)
  have HE := H
  have r1 : (0 : Int) ≤ n0 ∧ n0 ≤ 1000000 := nleE (H.nle 0 (ltn len_V43_Br_oz_B4cls rfl)) (show (N 0 : Int) = n0 from en0)
  refine Ew_of (pcₚ := 1) (fun _ => x_iload_n rfl rfl) ?_
  refine Ew_of (pcₚ := 2) (fun _ => x_iload_n rfl rfl) ?_
  refine w_isub rfl ?_
  refine Ew_of (pcₚ := 4) (fun _ => x_iconst rfl) ?_
  refine w_icmplt (t := 25) rfl rfl (show inr ((a3 - a2)) from q_2955 h2) (show inr (4) from q_216) (fun b2 => ?_) (fun b2 => ?_)
  · refine Ew_of (pcₚ := 26) (fun _ => x_iconst rfl) ?_
    have : SPQ ((w0)) ((a2)) ((a3)) ((0)) := by first | exact SPQ_n (by omega) | exact SPQ_y (by omega) hwd hz16 (by omega) | exact SPQ_z hwd hz16 (by omega)
    exact w_ireturn rfl (k (0) _ _ _ H O (SF_refl) (SA_refl) (show (0) = 0 ∨ (0) = 1 by first | exact q_45 | omega) (show (0) = 1 → a2 + 4 ≤ a3 by first | exact q_2956 h2 | omega) (show SPQ ((w0)) (a2) (a3) ((0)) by assumption))
  · refine Ew_of (pcₚ := 8) (fun _ => x_aload_n rfl rfl) ?_
    refine Ew_of (pcₚ := 9) (fun _ => x_iload_n rfl rfl) ?_
    refine w_stat24 rfl rfl (by rfl) (C41_Br (D := puc 0 D) (N := puc 0 N) (HW_subc H oz_B4cls_1 oz_B4cls_4) (n0) (en0) (w0) (ew0) (show inr (a2) from h0) (show 0 ≤ (a2) ∧ (a2) + 4 ≤ (n0) from q_2957 b2 h2) (fun z3 σ3 F3ₚ A3ₚ Hₚ Oₚ hS3 hA3 pz3_0 pz3_1 => ⟨rfl, ?_⟩))
    refine v_backc (c := c) (s := s) H oz_B4cls_1 oz_B4cls_4 Hₚ Oₚ (fun F3 A3 H Oₚ eF3 eA3 => ?_)
    have O := OUT_trans O Oₚ
    -- PackHouse.word
    have cF3 : SF oz_B4clsl_0 F F3 := SF_trans (SF_refl) (SF_gluc (ι := oz_B4clsl_2) oz_B4cls_4 hS3 eF3 (by decide +kernel)) (any_sub (lₚ := []) (by decide +kernel))
    have mF3 := SFm_of cF3 oz_B4cls_2
    have cA3 : SA oz_B4clsl_1 A A3 := SA_trans (SA_refl) (SA_gluc (ι := oz_B4clsl_2) oz_B4cls_4 hA3 eA3 (by decide +kernel)) (any_subA (lₚ := []) (by decide +kernel))
    have mA3 := SAm_of cA3 oz_B4cls_3
    have hwd := pz3_1
    refine Ew_of (pcₚ := 14) (fun _ => x_bipush (z := -16) rfl (by decide)) ?_
    refine w_iandE rfl (show inr (z3) from pz3_0) (show inr ((-16)) from q_2958) (fun z4 gz4 gaz4 gbz4 gez4 => ?_)
    have hz16 := gez4
    refine Ew_of (pcₚ := 18) (fun _ => x_ldc_w (z := 407710288) rfl (by decide)) ?_
    refine w_icmpne (t := 25) rfl rfl (show inr (z4) from gz4) (show inr (407710288) from q_2959) (fun b5 => ?_) (fun b5 => ?_)
    · refine Ew_of (pcₚ := 26) (fun _ => x_iconst rfl) ?_
      have : SPQ ((w0)) ((a2)) ((a3)) ((0)) := by first | exact SPQ_n (by omega) | exact SPQ_y (by omega) hwd hz16 (by omega) | exact SPQ_z hwd hz16 (by omega)
      exact w_ireturn rfl (k (0) _ _ _ H O (cF3) (cA3) (show (0) = 0 ∨ (0) = 1 by first | exact q_45 | omega) (show (0) = 1 → a2 + 4 ≤ a3 by first | exact q_2960 b2 | omega) (show SPQ ((w0)) (a2) (a3) ((0)) by assumption))
    · refine Ew_of (pcₚ := 22) (fun _ => x_iconst rfl) ?_
      refine Ew_of (pcₚ := 26) (fun _ => x_goto rfl rfl) ?_
      have : SPQ ((w0)) ((a2)) ((a3)) ((1)) := by first | exact SPQ_n (by omega) | exact SPQ_y (by omega) hwd hz16 (by omega) | exact SPQ_z hwd hz16 (by omega)
      exact w_ireturn rfl (k (1) _ _ _ H O (cF3) (cA3) (show (1) = 0 ∨ (1) = 1 by first | exact q_49 | omega) (show (1) = 1 → a2 + 4 ≤ a3 by first | exact q_2961 b2 | omega) (show SPQ ((w0)) (a2) (a3) ((1)) by assumption))
abbrev V44_Br : vV := [(1, 0, [])]
theorem len_V44_Br_oz_B4cls : (V44_Br).length = 1 := by decide +kernel
theorem oz_B4cls_6 : vsub V44_Br V42_Br [0] = true := by decide +kernel

theorem C44_Br {σE : rS} {D N : Nat → Nat} {F : hF} {A : hA} {d c s : Nat} {Q : wQ} (H : HW V44_Br σE D N F A) {a2 a3 : Int} (n0 : Int) (en0 : (N 0 : Int) = n0) (w0 : Int → Int) (ew0 : A 0 = w0) (h0 : inr (a2)) (h1 : inr (a3)) (h2 : 0 ≤ (a2) ∧ 0 ≤ (a3) ∧ (a3) ≤ (n0) ∧ (n0) ≤ 65536 ∧ (a2) ≤ 200000) (k : ∀ (z : Int) (σ : rS) (Fₚ : hF) (Aₚ : hA), HW V44_Br σ D N Fₚ Aₚ → OUT (V44_Br).length D N σE c s D N σ c s → SF [] F Fₚ → SA [] A Aₚ → (inr (z)) → ((z) = -1 ∨ (a2) + 8 ≤ (z) ∧ (z) ≤ (a3)) → (ASQ ((w0)) ((a2)) ((a3)) ((z))) → Q (some (I z)) σ c s) : Ew 44 (d + 1) 0 (rargs 0 [.ref (D 0), I a2, I a3]) [] σE c s Q := by
  have O := OUT_refl (n := (V44_Br).length) (D := D) (N := N) (σ := σE) (c := c) (s := s)
  have HE := H
  have r1 : (0 : Int) ≤ n0 ∧ n0 ≤ 1000000 := nleE (H.nle 0 (ltn len_V44_Br_oz_B4cls rfl)) (show (N 0 : Int) = n0 from en0)
  refine Ew_of (pcₚ := 1) (fun _ => x_iload_n rfl rfl) ?_
  refine Ew_of (pcₚ := 2) (fun _ => x_iload_n rfl rfl) ?_
  refine w_isub rfl ?_
  refine Ew_of (pcₚ := 5) (fun _ => x_bipush (z := 8) rfl (by decide)) ?_
  refine w_icmpge (t := 10) rfl rfl (show inr ((a3 - a2)) from q_2955 h2) (show inr (8) from q_141) (fun b2 => ?_) (fun b2 => ?_)
  · refine Ew_of (pcₚ := 11) (fun _ => x_iload_n rfl rfl) ?_
    refine Ew_of (pcₚ := 13) (fun _ => x_bipush (z := 8) rfl (by decide)) ?_
    refine w_iadd rfl ?_
    refine w_i2l rfl (show inr ((a2 + 8)) from q_2962 h2) ?_
    refine Ew_of (pcₚ := 16) (fun _ => x_aload_n rfl rfl) ?_
    refine Ew_of (pcₚ := 17) (fun _ => x_iload_n rfl rfl) ?_
    refine Ew_of (pcₚ := 18) (fun _ => x_iconst rfl) ?_
    refine w_iadd rfl ?_
    refine Ew_of (pcₚ := 20) (fun _ => x_iconst rfl) ?_
    refine w_stat24 rfl rfl (by rfl) (C42_Br (D := puc 0 D) (N := puc 0 N) (HW_subc H oz_B4cls_6 oz_B4cls_4) (n0) (en0) (w0) (ew0) (show inr ((a2 + 4)) from q_2964 h2) (show inr (4) from q_216) (show (4) ≤ 0 ∨ 0 ≤ ((a2 + 4)) ∧ ((a2 + 4)) + (4) ≤ (n0) from q_2963 b2 h2) (show 0 ≤ (4) ∧ (4) ≤ 8 from q_623) (fun z3 σ3 F3ₚ A3ₚ Hₚ Oₚ hS3 hA3 pz3_0 pz3_1 pz3_2 => ⟨rfl, ?_⟩))
    refine v_backc (c := c) (s := s) H oz_B4cls_6 oz_B4cls_4 Hₚ Oₚ (fun F3 A3 H Oₚ eF3 eA3 => ?_)
    have O := OUT_trans O Oₚ
    -- PackHouse.number
    have cF3 : SF oz_B4clsl_0 F F3 := SF_trans (SF_refl) (SF_gluc (ι := oz_B4clsl_2) oz_B4cls_4 hS3 eF3 (by decide +kernel)) (any_sub (lₚ := []) (by decide +kernel))
    have mF3 := SFm_of cF3 oz_B4cls_2
    have cA3 : SA oz_B4clsl_1 A A3 := SA_trans (SA_refl) (SA_gluc (ι := oz_B4clsl_2) oz_B4cls_4 hA3 eA3 (by decide +kernel)) (any_subA (lₚ := []) (by decide +kernel))
    have mA3 := SAm_of cA3 oz_B4cls_3
    have hnb := nb4 pz3_1
    have hn4 := nmb_4 pz3_2 pz3_0
    refine w_ladd rfl ?_
    refine Ew_of (pcₚ := 25) (fun _ => x_lstore_n rfl) ?_
    refine Ew_of (pcₚ := 26) (fun _ => x_lload_n rfl rk2_s) ?_
    refine Ew_of (pcₚ := 27) (fun _ => x_iload_n rfl (rk2_o (rfl) rfl rfl)) ?_
    refine w_i2l rfl (show inr (a3) from h1) ?_
    refine w_lcmp rfl (show inrJ (((a2 + 8) + z3)) by omega) (show inrJ (a3) from q_2965 h2) (fun z4 gz4 gaz4 gbz4 => ?_)
    refine w_ifle (t := 36) rfl rfl (show inr (z4) from gz4) (fun b5 => ?_) (fun b5 => ?_)
    · refine Ew_of (pcₚ := 37) (fun _ => x_lload_n rfl rk2_s) ?_
      refine w_l2i rfl ?_
      have : ASQ ((w0)) ((a2)) ((a3)) ((((a2 + 8) + z3))) := by first | exact .inr ⟨by omega, by omega, by omega⟩ | exact .inl ⟨rfl, .inr (by omega)⟩
      exact w_ireturn rfl (k (((a2 + 8) + z3)) _ _ _ H O (cF3) (cA3) (show inr (((a2 + 8) + z3)) by omega) (show (((a2 + 8) + z3)) = -1 ∨ a2 + 8 ≤ (((a2 + 8) + z3)) ∧ (((a2 + 8) + z3)) ≤ a3 by omega) (show ASQ ((w0)) (a2) (a3) ((((a2 + 8) + z3))) by assumption))
    · refine Ew_of (pcₚ := 33) (fun _ => x_iconst rfl) ?_
      refine Ew_of (pcₚ := 38) (fun _ => x_goto rfl rfl) ?_
      have : ASQ ((w0)) ((a2)) ((a3)) (((-1))) := by first | exact .inr ⟨by omega, by omega, by omega⟩ | exact .inl ⟨rfl, .inr (by omega)⟩
      exact w_ireturn rfl (k ((-1)) _ _ _ H O (cF3) (cA3) (show inr ((-1)) from q_63) (show ((-1)) = -1 ∨ a2 + 8 ≤ ((-1)) ∧ ((-1)) ≤ a3 by first | exact q_2966 | omega) (show ASQ ((w0)) (a2) (a3) (((-1))) by assumption))
  · refine Ew_of (pcₚ := 9) (fun _ => x_iconst rfl) ?_
    have : ASQ ((w0)) ((a2)) ((a3)) (((-1))) := .inl ⟨rfl, .inl (by omega)⟩
    exact w_ireturn rfl (k ((-1)) _ _ _ H O (SF_refl) (SA_refl) (show inr ((-1)) from q_63) (show ((-1)) = -1 ∨ a2 + 8 ≤ ((-1)) ∧ ((-1)) ≤ a3 by first | exact q_2966 | omega) (show ASQ ((w0)) (a2) (a3) (((-1))) by assumption))
abbrev V45 : vV := []
theorem C45 {σE : rS} {D N : Nat → Nat} {F : hF} {A : hA} {d c s : Nat} {Q : wQ} (H : HW V45 σE D N F A) {a1 : Int} (h0 : inr (a1)) (h1 : 1 ≤ (a1)) (k : ∀ (z : Int) (σ : rS) (Fₚ : hF) (Aₚ : hA), HW V45 σ D N Fₚ Aₚ → OUT (V45).length D N σE c s D N σ c s → SF [] F Fₚ → SA [] A Aₚ → (inr (z)) → (0 ≤ (z) ∧ (z) ≤ 30) → (p2 (z) ≤ (a1) ∧ (a1) < 2 * p2 (z)) → Q (some (I z)) σ c s) : Ew 45 (d + 0) 0 (rargs 0 [I a1]) [] σE c s Q := by
  have O := OUT_refl (n := (V45).length) (D := D) (N := N) (σ := σE) (c := c) (s := s)
  have HE := H
  refine Ew_of (pcₚ := 1) (fun _ => x_iconst rfl) ?_
  refine Ew_of (pcₚ := 2) (fun _ => x_istore_n rfl) ?_
  refine Ew_of (pcₚ := 3) (fun _ => x_iload_n rfl (rk_o (rfl) rfl rfl)) ?_
  refine Ew_of (pcₚ := 4) (fun _ => x_iconst rfl) ?_
  refine w_ishrK 1 2 (by decide) (by decide) rfl (show inr (a1) from h0) (fun z1 gz1 dz1 => ?_)
  have h0 := HI_s (HI_0 (a := (a1))) (by omega) (by omega) (by omega)
  have : HI ((a1)) 0 ((z1)) := by have e : (z1) = (a1) / 2 := (by omega); rw [e]; exact h0.1
  refine Ew_of (pcₚ := 6) (fun _ => x_istore_n rfl) ?_
  suffices hl6 : ∀ (m : Nat), ∀ (ls : rO) (σ : rS) (F_6 : hF) (A_6 : hA) (x6_1 : Int) (x6_2 : Int), rlook ls 1 = some (I (x6_1)) → rlook ls 2 = some (I (x6_2)) → HW V45 σ D N F_6 A_6 → OUT (V45).length D N σE c s D N σ c s → SF [] F F_6 → SA [] A A_6 → (inr (x6_1)) → (inr (x6_2)) → (0 ≤ (x6_1) ∧ (x6_1) ≤ 30) → (0 ≤ (x6_2)) → (HI ((a1)) ((x6_1)) ((x6_2))) → ((x6_2)).toNat = m → Ew 45 (d + 0) 6 ls [] σ c s Q from
    hl6 _ _ _ _ _ (0) (z1) (rk_o (rk_s) rfl rfl) (rk_s) H O (SF_refl) (SA_refl)     (show inr (0) from q_2) (show inr (z1) from gz1) (show 0 ≤ (0) ∧ (0) ≤ 30 from q_2056) (show 0 ≤ (z1) by omega) (show HI ((a1)) ((0)) ((z1)) by assumption) rfl
  as_aux_lemma =>
  intro m
  induction m using Nat.strongRecOn with
  | _ m ih6 =>
    intro ls σ F_6 A_6 x6_1 x6_2 l6_1 l6_2 H O hS_6 hA_6     j6_0 j6_1 j6_2 j6_3 j6_4 hm6
    have cF_6 : SF oz_B4clsl_0 F F_6 := SF_trans (SF_refl) hS_6 (any_sub (by decide +kernel))
    have mF_6 := SFm_of cF_6 oz_B4cls_2
    have cA_6 : SA oz_B4clsl_1 A A_6 := SA_trans (SA_refl) hA_6 (any_subA (by decide +kernel))
    have mA_6 := SAm_of cA_6 oz_B4cls_3
    refine Ew_of (pcₚ := 7) (fun _ => x_iload_n rfl l6_2) ?_
    refine w_ifle (t := 20) rfl rfl (show inr (x6_2) from j6_1) (fun b2 => ?_) (fun b2 => ?_)
    · have h2 := HI_end (j6_4) (by omega) (by omega) (by omega)
      refine Ew_of (pcₚ := 21) (fun _ => x_iload_n rfl l6_1) ?_
      exact w_ireturn rfl (k (x6_1) _ _ _ H O (cF_6) (cA_6) (show inr (x6_1) from j6_0) (show 0 ≤ (x6_1) ∧ (x6_1) ≤ 30 from j6_2) (show p2 (x6_1) ≤ a1 ∧ a1 < 2 * p2 (x6_1) by omega))
    · refine Ew_of (pcₚ := 13) (fun _ => x_iinc (len := 3) rfl (l6_1)) ?_
      refine Ew_of (pcₚ := 14) (fun _ => x_iload_n rfl (rk_o (l6_2) rfl rfl)) ?_
      refine Ew_of (pcₚ := 15) (fun _ => x_iconst rfl) ?_
      refine w_ishrK 1 2 (by decide) (by decide) rfl (show inr (x6_2) from j6_1) (fun z3 gz3 dz3 => ?_)
      have h1 := HI_s (show HI ((a1)) _ ((x6_2)) from by assumption) (by omega) (by omega) (by omega)
      have : HI ((a1)) (((x6_1 + 1))) ((z3)) := by have e : (z3) = (x6_2) / 2 := (by omega); rw [e]; exact h1.1
      refine Ew_of (pcₚ := 17) (fun _ => x_istore_n rfl) ?_
      refine Ew_of (pcₚ := 6) (fun _ => x_goto rfl rfl) ?_
      exact ih6 _ (msE hm6 (q_199 b2 dz3) (q_200 b2)) _ _ _ _ ((x6_1 + 1)) (z3) (rk_o (rk_s) rfl rfl) (rk_s) H O (hS_6) (hA_6)     (show inr ((x6_1 + 1)) from q_2057 j6_2) (show inr (z3) from gz3) (show 0 ≤ ((x6_1 + 1)) ∧ ((x6_1 + 1)) ≤ 30 by omega) (show 0 ≤ (z3) by omega) (show HI ((a1)) (((x6_1 + 1))) ((z3)) by assumption) rfl
abbrev V49_Br : vV := [(1, 0, [])]
theorem len_V49_Br_oz_B4cls : (V49_Br).length = 1 := by decide +kernel
theorem oz_B4cls_9 : vsub V49_Br V46 [] = true := by decide +kernel
theorem oz_B4cls_10 : vsub V49_Br V41_Br [0] = true := by decide +kernel
theorem oz_B4cls_11 : vsub V49_Br V48 [] = true := by decide +kernel
theorem oz_B4cls_12 : okc oz_B4clsl_1 0 = true := by decide +kernel

theorem C49_Br {σE : rS} {D N : Nat → Nat} {F : hF} {A : hA} {d c s : Nat} {Q : wQ} (H : HW V49_Br σE D N F A) {a2 a3 a4 : Int} (n0 : Int) (en0 : (N 0 : Int) = n0) (w0 : Int → Int) (ew0 : A 0 = w0) (h0 : inr (a2)) (h1 : inr (a3)) (h2 : inr (a4)) (h3 : 0 ≤ (a2) ∧ (a2) ≤ (a3) ∧ (a3) ≤ (n0)) (k : ∀ (z : Int) (σ : rS) (Fₚ : hF) (Aₚ : hA), HW V49_Br σ D N Fₚ Aₚ → OUT (V49_Br).length D N σE c s D N σ c s → SF [] F Fₚ → SA [] A Aₚ → (inr (z)) → ((z) = NSM ((w0)) ((a2)) ((a3) - (a2)) ((a4))) → Q (some (I z)) σ c s) : Ew 49 (d + 2) 0 (rargs 0 [.ref (D 0), I a2, I a3, I a4]) [] σE c s Q := by
  have O := OUT_refl (n := (V49_Br).length) (D := D) (N := N) (σ := σE) (c := c) (s := s)
  have HE := H
  have r1 : (0 : Int) ≤ n0 ∧ n0 ≤ 1000000 := nleE (H.nle 0 (ltn len_V49_Br_oz_B4cls rfl)) (show (N 0 : Int) = n0 from en0)
  refine Ew_of (pcₚ := 1) (fun _ => x_iload_n rfl rfl) ?_
  refine Ew_of (pcₚ := 3) (fun _ => x_istore rfl) ?_
  refine Ew_of (pcₚ := 4) (fun _ => x_iload_n rfl (rk_o (rfl) rfl rfl)) ?_
  refine Ew_of (pcₚ := 7) (fun _ => x_ldc_w (z := 374761393) rfl (by decide)) ?_
  refine w_iaddE rfl ?_
  have g2 : inr (adI (a4) (374761393)) := toI_inr _
  refine Ew_of (pcₚ := 10) (fun _ => x_istore rfl) ?_
  have hc153 : ∀ (ls : rO) (σ : rS) (F_c153 : hF) (A_c153 : hA) (xc153_4 : Int) (xc153_5 : Int), rlook ls 0 = some (.ref (D 0)) → rlook ls 1 = some (I (a2)) → rlook ls 2 = some (I (a3)) → rlook ls 4 = some (I (xc153_4)) → rlook ls 5 = some (I (xc153_5)) → HW V49_Br σ D N F_c153 A_c153 → OUT (V49_Br).length D N σE c s D N σ c s → SF [] F F_c153 → SA [] A A_c153 → (inr (xc153_4)) → (inr (xc153_5)) → ((a2) ≤ (xc153_4) ∧ (xc153_4) ≤ (a3)) → (NS1 ((w0)) ((a2)) ((a3) - (a2)) ((a4)) ((xc153_4)) ((xc153_5))) → Ew 49 (d + 2) 153 ls [] σ c s Q := by
   as_aux_lemma =>
    intro  ls σ F_c153 A_c153 xc153_4 xc153_5 lc153_0 lc153_1 lc153_2 lc153_4 lc153_5 H O hS_c153 hA_c153     jc153_0 jc153_1 jc153_2 jc153_3
    have cF_c153 : SF oz_B4clsl_0 F F_c153 := SF_trans (SF_refl) hS_c153 (any_sub (by decide +kernel))
    have mF_c153 := SFm_of cF_c153 oz_B4cls_2
    have cA_c153 : SA oz_B4clsl_1 A A_c153 := SA_trans (SA_refl) hA_c153 (any_subA (by decide +kernel))
    have mA_c153 := SAm_of cA_c153 oz_B4cls_3
    have hc1 : NS1 ((w0)) ((a2)) ((a3) - (a2)) ((a4)) ((xc153_4)) ((xc153_5)) := jc153_3
    refine Ew_of (pcₚ := 155) (fun _ => x_iload rfl lc153_5) ?_
    refine Ew_of (pcₚ := 156) (fun _ => x_iload_n rfl lc153_2) ?_
    refine Ew_of (pcₚ := 157) (fun _ => x_iload_n rfl lc153_1) ?_
    refine w_isub rfl ?_
    refine w_iaddE rfl ?_
    have g3 : inr (adI (xc153_5) ((a3 - a2))) := toI_inr _
    refine Ew_of (pcₚ := 161) (fun _ => x_istore rfl) ?_
    have hc1p := hc1.1
    have : ∃ xp xh, NS1 ((w0)) ((a2)) ((a3) - (a2)) ((a4)) xp xh ∧ nS4n ((w0)) xp (((a3) - (a2)) % 16 / 4).toNat (adI xh ((a3) - (a2))) = nS4n ((w0)) ((xc153_4)) (((a3) - (xc153_4)) / 4).toNat (((adI (xc153_5) ((a3 - a2))))) := ⟨(xc153_4), _, hc1, by rw [show ((a3) - (a2)) % 16 / 4 = ((a3) - (xc153_4)) / 4 by omega]⟩
    suffices hl161 : ∀ (m : Nat), ∀ (ls : rO) (σ : rS) (F_161 : hF) (A_161 : hA) (x161_4 : Int) (x161_5 : Int), rlook ls 0 = some (.ref (D 0)) → rlook ls 2 = some (I (a3)) → rlook ls 4 = some (I (x161_4)) → rlook ls 5 = some (I (x161_5)) → HW V49_Br σ D N F_161 A_161 → OUT (V49_Br).length D N σE c s D N σ c s → SF [] F_c153 F_161 → SA [] A_c153 A_161 → (inr (x161_4)) → (inr (x161_5)) → ((a2) ≤ (x161_4) ∧ (x161_4) ≤ (a3)) → (((a3) - (x161_4)) % 4 = ((a3) - (a2)) % 4) → (∃ xp xh, NS1 ((w0)) ((a2)) ((a3) - (a2)) ((a4)) xp xh ∧ nS4n ((w0)) xp (((a3) - (a2)) % 16 / 4).toNat (adI xh ((a3) - (a2))) = nS4n ((w0)) ((x161_4)) (((a3) - (x161_4)) / 4).toNat ((x161_5))) → ((a3) - (x161_4)).toNat = m → Ew 49 (d + 2) 161 ls [] σ c s Q from
      hl161 _ _ _ _ _ (xc153_4) ((adI (xc153_5) ((a3 - a2)))) (rk_o (lc153_0) rfl rfl) (rk_o (lc153_2) rfl rfl) (rk_o (lc153_4) rfl rfl) (rk_s) H O (SF_refl) (SA_refl)     (show inr (xc153_4) from jc153_0) (show inr ((adI (xc153_5) ((a3 - a2)))) from g3) (show (a2) ≤ (xc153_4) ∧ (xc153_4) ≤ (a3) from jc153_2) (show ((a3) - (xc153_4)) % 4 = ((a3) - (a2)) % 4 by omega) (show ∃ xp xh, NS1 ((w0)) ((a2)) ((a3) - (a2)) ((a4)) xp xh ∧ nS4n ((w0)) xp (((a3) - (a2)) % 16 / 4).toNat (adI xh ((a3) - (a2))) = nS4n ((w0)) ((xc153_4)) (((a3) - (xc153_4)) / 4).toNat (((adI (xc153_5) ((a3 - a2))))) by assumption) rfl
    as_aux_lemma =>
    intro m
    induction m using Nat.strongRecOn with
    | _ m ih161 =>
      intro ls σ F_161 A_161 x161_4 x161_5 l161_0 l161_2 l161_4 l161_5 H O hS_161 hA_161     j161_0 j161_1 j161_2 j161_3 j161_4 hm161
      have cF_161 : SF oz_B4clsl_0 F F_161 := SF_trans (cF_c153) hS_161 (any_sub (by decide +kernel))
      have mF_161 := SFm_of cF_161 oz_B4cls_2
      have cA_161 : SA oz_B4clsl_1 A A_161 := SA_trans (cA_c153) hA_161 (any_subA (by decide +kernel))
      have mA_161 := SAm_of cA_161 oz_B4cls_3
      have j161_q : ∃ xp xh, NS1 ((w0)) ((a2)) ((a3) - (a2)) ((a4)) xp xh ∧ nS4n ((w0)) xp (((a3) - (a2)) % 16 / 4).toNat (adI xh ((a3) - (a2))) = nS4n ((w0)) ((x161_4)) (((a3) - (x161_4)) / 4).toNat ((x161_5)) := by assumption
      refine Ew_of (pcₚ := 162) (fun _ => x_iload_n rfl l161_2) ?_
      refine Ew_of (pcₚ := 164) (fun _ => x_iload rfl l161_4) ?_
      refine w_isub rfl ?_
      refine Ew_of (pcₚ := 166) (fun _ => x_iconst rfl) ?_
      refine w_icmplt (t := 199) rfl rfl (show inr ((a3 - x161_4)) from q_2967 h1 h3 j161_2) (show inr (4) from q_216) (fun b4 => ?_) (fun b4 => ?_)
      · have : ∃ xp xh, NS1 ((w0)) ((a2)) ((a3) - (a2)) ((a4)) xp xh ∧ nS1n ((w0)) ((a3) - ((a3) - (a2)) % 4) (((a3) - (a2)) % 4).toNat (nS4n ((w0)) xp (((a3) - (a2)) % 16 / 4).toNat (adI xh ((a3) - (a2)))) = nS1n ((w0)) ((x161_4)) ((a3) - (x161_4)).toNat ((x161_5)) := by obtain ⟨xp, xh, q1, q2⟩ := j161_q; refine ⟨xp, xh, q1, ?_⟩; rw [q2, nS4n_0 (by omega), show (a3) - ((a3) - (a2)) % 4 = (x161_4) by omega, show ((a3) - (a2)) % 4 = (a3) - (x161_4) by omega]
        suffices hl199 : ∀ (m : Nat), ∀ (ls : rO) (σ : rS) (F_199 : hF) (A_199 : hA) (x199_4 : Int) (x199_5 : Int), rlook ls 0 = some (.ref (D 0)) → rlook ls 2 = some (I (a3)) → rlook ls 4 = some (I (x199_4)) → rlook ls 5 = some (I (x199_5)) → HW V49_Br σ D N F_199 A_199 → OUT (V49_Br).length D N σE c s D N σ c s → SF [] F_161 F_199 → SA [] A_161 A_199 → (inr (x199_4)) → (inr (x199_5)) → ((a2) ≤ (x199_4) ∧ (x199_4) ≤ (a3)) → (∃ xp xh, NS1 ((w0)) ((a2)) ((a3) - (a2)) ((a4)) xp xh ∧ nS1n ((w0)) ((a3) - ((a3) - (a2)) % 4) (((a3) - (a2)) % 4).toNat (nS4n ((w0)) xp (((a3) - (a2)) % 16 / 4).toNat (adI xh ((a3) - (a2)))) = nS1n ((w0)) ((x199_4)) ((a3) - (x199_4)).toNat ((x199_5))) → ((a3) - (x199_4)).toNat = m → Ew 49 (d + 2) 199 ls [] σ c s Q from
          hl199 _ _ _ _ _ (x161_4) (x161_5) (l161_0) (l161_2) (l161_4) (l161_5) H O (SF_refl) (SA_refl)     (show inr (x161_4) from j161_0) (show inr (x161_5) from j161_1) (show (a2) ≤ (x161_4) ∧ (x161_4) ≤ (a3) from j161_2) (show ∃ xp xh, NS1 ((w0)) ((a2)) ((a3) - (a2)) ((a4)) xp xh ∧ nS1n ((w0)) ((a3) - ((a3) - (a2)) % 4) (((a3) - (a2)) % 4).toNat (nS4n ((w0)) xp (((a3) - (a2)) % 16 / 4).toNat (adI xh ((a3) - (a2)))) = nS1n ((w0)) ((x161_4)) ((a3) - (x161_4)).toNat ((x161_5)) by assumption) rfl
        as_aux_lemma =>
        intro m
        induction m using Nat.strongRecOn with
        | _ m ih199 =>
          intro ls σ F_199 A_199 x199_4 x199_5 l199_0 l199_2 l199_4 l199_5 H O hS_199 hA_199     j199_0 j199_1 j199_2 j199_3 hm199
          have cF_199 : SF oz_B4clsl_0 F F_199 := SF_trans (cF_161) hS_199 (any_sub (by decide +kernel))
          have mF_199 := SFm_of cF_199 oz_B4cls_2
          have cA_199 : SA oz_B4clsl_1 A A_199 := SA_trans (cA_161) hA_199 (any_subA (by decide +kernel))
          have mA_199 := SAm_of cA_199 oz_B4cls_3
          have j199_q : ∃ xp xh, NS1 ((w0)) ((a2)) ((a3) - (a2)) ((a4)) xp xh ∧ nS1n ((w0)) ((a3) - ((a3) - (a2)) % 4) (((a3) - (a2)) % 4).toNat (nS4n ((w0)) xp (((a3) - (a2)) % 16 / 4).toNat (adI xh ((a3) - (a2)))) = nS1n ((w0)) ((x199_4)) ((a3) - (x199_4)).toNat ((x199_5)) := by assumption
          refine Ew_of (pcₚ := 201) (fun _ => x_iload rfl l199_4) ?_
          refine Ew_of (pcₚ := 202) (fun _ => x_iload_n rfl l199_2) ?_
          refine w_icmpge (t := 237) rfl rfl (show inr (x199_4) from j199_0) (show inr (a3) from h1) (fun b5 => ?_) (fun b5 => ?_)
          · refine Ew_of (pcₚ := 239) (fun _ => x_iload rfl l199_5) ?_
            refine Ew_of (pcₚ := 241) (fun _ => x_iload rfl l199_5) ?_
            refine Ew_of (pcₚ := 243) (fun _ => x_bipush (z := 15) rfl (by decide)) ?_
            refine w_iushrE rfl ?_
            have g6 : inr (usI (x199_5) (15)) := toI_inr _
            refine w_ixorE rfl ?_
            have g7 : inr (xoI (x199_5) ((usI (x199_5) (15)))) := toI_inr _
            refine Ew_of (pcₚ := 248) (fun _ => x_ldc_w (z := -2048144777) rfl (by decide)) ?_
            refine w_imulE rfl ?_
            have g8 : inr (muI ((xoI (x199_5) ((usI (x199_5) (15))))) ((-2048144777))) := toI_inr _
            refine Ew_of (pcₚ := 251) (fun _ => x_istore rfl) ?_
            refine Ew_of (pcₚ := 253) (fun _ => x_iload rfl rk_s) ?_
            refine Ew_of (pcₚ := 255) (fun _ => x_iload rfl rk_s) ?_
            refine Ew_of (pcₚ := 257) (fun _ => x_bipush (z := 13) rfl (by decide)) ?_
            refine w_iushrE rfl ?_
            have g9 : inr (usI ((muI ((xoI (x199_5) ((usI (x199_5) (15))))) ((-2048144777)))) (13)) := toI_inr _
            refine w_ixorE rfl ?_
            have g10 : inr (xoI ((muI ((xoI (x199_5) ((usI (x199_5) (15))))) ((-2048144777)))) ((usI ((muI ((xoI (x199_5) ((usI (x199_5) (15))))) ((-2048144777)))) (13)))) := toI_inr _
            refine Ew_of (pcₚ := 262) (fun _ => x_ldc_w (z := -1028477379) rfl (by decide)) ?_
            refine w_imulE rfl ?_
            have g11 : inr (muI ((xoI ((muI ((xoI (x199_5) ((usI (x199_5) (15))))) ((-2048144777)))) ((usI ((muI ((xoI (x199_5) ((usI (x199_5) (15))))) ((-2048144777)))) (13))))) ((-1028477379))) := toI_inr _
            refine Ew_of (pcₚ := 265) (fun _ => x_istore rfl) ?_
            refine Ew_of (pcₚ := 267) (fun _ => x_iload rfl rk_s) ?_
            refine Ew_of (pcₚ := 269) (fun _ => x_iload rfl rk_s) ?_
            refine Ew_of (pcₚ := 271) (fun _ => x_bipush (z := 16) rfl (by decide)) ?_
            refine w_iushrE rfl ?_
            have g12 : inr (usI ((muI ((xoI ((muI ((xoI (x199_5) ((usI (x199_5) (15))))) ((-2048144777)))) ((usI ((muI ((xoI (x199_5) ((usI (x199_5) (15))))) ((-2048144777)))) (13))))) ((-1028477379)))) (16)) := toI_inr _
            refine w_ixorE rfl ?_
            have g13 : inr (xoI ((muI ((xoI ((muI ((xoI (x199_5) ((usI (x199_5) (15))))) ((-2048144777)))) ((usI ((muI ((xoI (x199_5) ((usI (x199_5) (15))))) ((-2048144777)))) (13))))) ((-1028477379)))) ((usI ((muI ((xoI ((muI ((xoI (x199_5) ((usI (x199_5) (15))))) ((-2048144777)))) ((usI ((muI ((xoI (x199_5) ((usI (x199_5) (15))))) ((-2048144777)))) (13))))) ((-1028477379)))) (16)))) := toI_inr _
            have : ((xoI ((muI ((xoI ((muI ((xoI (x199_5) ((usI (x199_5) (15))))) ((-2048144777)))) ((usI ((muI ((xoI (x199_5) ((usI (x199_5) (15))))) ((-2048144777)))) (13))))) ((-1028477379)))) ((usI ((muI ((xoI ((muI ((xoI (x199_5) ((usI (x199_5) (15))))) ((-2048144777)))) ((usI ((muI ((xoI (x199_5) ((usI (x199_5) (15))))) ((-2048144777)))) (13))))) ((-1028477379)))) (16))))) = NSM ((w0)) ((a2)) ((a3) - (a2)) ((a4)) := by obtain ⟨xp, xh, q1, q2⟩ := j199_q; rw [nS1n_0 (k := ((a3) - (x199_4)).toNat) (by omega)] at q2; rw [show (a3) - ((a3) - (a2)) % 4 = (a2) + ((a3) - (a2)) - ((a3) - (a2)) % 4 by omega] at q2; exact NSM_of q1 rfl rfl q2
            exact w_ireturn rfl (k ((xoI ((muI ((xoI ((muI ((xoI (x199_5) ((usI (x199_5) (15))))) ((-2048144777)))) ((usI ((muI ((xoI (x199_5) ((usI (x199_5) (15))))) ((-2048144777)))) (13))))) ((-1028477379)))) ((usI ((muI ((xoI ((muI ((xoI (x199_5) ((usI (x199_5) (15))))) ((-2048144777)))) ((usI ((muI ((xoI (x199_5) ((usI (x199_5) (15))))) ((-2048144777)))) (13))))) ((-1028477379)))) (16))))) _ _ _ H O (cF_199) (cA_199) (show inr ((xoI ((muI ((xoI ((muI ((xoI (x199_5) ((usI (x199_5) (15))))) ((-2048144777)))) ((usI ((muI ((xoI (x199_5) ((usI (x199_5) (15))))) ((-2048144777)))) (13))))) ((-1028477379)))) ((usI ((muI ((xoI ((muI ((xoI (x199_5) ((usI (x199_5) (15))))) ((-2048144777)))) ((usI ((muI ((xoI (x199_5) ((usI (x199_5) (15))))) ((-2048144777)))) (13))))) ((-1028477379)))) (16))))) from g13) (show ((xoI ((muI ((xoI ((muI ((xoI (x199_5) ((usI (x199_5) (15))))) ((-2048144777)))) ((usI ((muI ((xoI (x199_5) ((usI (x199_5) (15))))) ((-2048144777)))) (13))))) ((-1028477379)))) ((usI ((muI ((xoI ((muI ((xoI (x199_5) ((usI (x199_5) (15))))) ((-2048144777)))) ((usI ((muI ((xoI (x199_5) ((usI (x199_5) (15))))) ((-2048144777)))) (13))))) ((-1028477379)))) (16))))) = NSM ((w0)) (a2) (a3 - a2) (a4) by assumption))
          · refine Ew_of (pcₚ := 207) (fun _ => x_iload rfl l199_5) ?_
            refine Ew_of (pcₚ := 208) (fun _ => x_aload_n rfl l199_0) ?_
            refine Ew_of (pcₚ := 210) (fun _ => x_iload rfl l199_4) ?_
            refine v_lB H (o := 0) rfl rfl rfl rfl (n := n0) (en0) (show 0 ≤ x199_4 ∧ x199_4 < n0 from q_2968 b5 h3 j199_2) (fun v14 ev14 qv14 => ?_)
            have ev14 : (w0) (x199_4) = v14 := (congrFun ((funext (mA_199 0 rfl)).trans (ew0)) (x199_4)).symm.trans ev14
            have hvb := ev14
            refine Ew_of (pcₚ := 214) (fun _ => x_sipush (z := 255) rfl (by decide)) ?_
            refine v_and255 rfl ?_
            refine Ew_of (pcₚ := 218) (fun _ => x_ldc_w (z := 374761393) rfl (by decide)) ?_
            refine w_imulE rfl ?_
            have g15 : inr (muI ((v14 % 256)) (374761393)) := toI_inr _
            refine w_iaddE rfl ?_
            have g16 : inr (adI (x199_5) ((muI ((v14 % 256)) (374761393)))) := toI_inr _
            refine Ew_of (pcₚ := 222) (fun _ => x_bipush (z := 11) rfl (by decide)) ?_
            refine w_stat24 rfl rfl (by rfl) (C46 (D := puc 0 D) (N := puc 0 N) (HW_subc H oz_B4cls_9 oz_B4cls_12) (show inr ((adI (x199_5) ((muI ((v14 % 256)) (374761393))))) from g16) (show inr (11) from q_326) (show 0 ≤ (11) ∧ (11) ≤ 32 from q_805) (fun z17 σ17 F17ₚ A17ₚ Hₚ Oₚ hS17 hA17 pz17_0 pz17_1 => ⟨rfl, ?_⟩))
            refine v_backc (c := c) (s := s) H oz_B4cls_9 oz_B4cls_12 Hₚ Oₚ (fun F17 A17 H Oₚ eF17 eA17 => ?_)
            have O := OUT_trans O Oₚ
            -- PackHouse.rotated
            have cF17 : SF oz_B4clsl_0 F F17 := SF_trans (cF_199) (SF_gluc (ι := oz_B4clsl_1) oz_B4cls_12 hS17 eF17 (by decide +kernel)) (any_sub (lₚ := []) (by decide +kernel))
            have mF17 := SFm_of cF17 oz_B4cls_2
            have cA17 : SA oz_B4clsl_1 A A17 := SA_trans (cA_199) (SA_gluc (ι := oz_B4clsl_1) oz_B4cls_12 hA17 eA17 (by decide +kernel)) (any_subA (lₚ := []) (by decide +kernel))
            have mA17 := SAm_of cA17 oz_B4cls_3
            have r6_ := pz17_1
            refine Ew_of (pcₚ := 228) (fun _ => x_ldc_w (z := -1640531535) rfl (by decide)) ?_
            refine w_imulE rfl ?_
            have g18 : inr (muI (z17) ((-1640531535))) := toI_inr _
            refine Ew_of (pcₚ := 231) (fun _ => x_istore rfl) ?_
            refine Ew_of (pcₚ := 234) (fun _ => x_iinc (len := 3) rfl (rk_o (l199_4) rfl rfl)) ?_
            refine Ew_of (pcₚ := 199) (fun _ => x_goto rfl rfl) ?_
            have : ∃ xp xh, NS1 ((w0)) ((a2)) ((a3) - (a2)) ((a4)) xp xh ∧ nS1n ((w0)) ((a3) - ((a3) - (a2)) % 4) (((a3) - (a2)) % 4).toNat (nS4n ((w0)) xp (((a3) - (a2)) % 16 / 4).toNat (adI xh ((a3) - (a2)))) = nS1n ((w0)) (((x199_4 + 1))) ((a3) - ((x199_4 + 1))).toNat (((muI (z17) ((-1640531535))))) := by obtain ⟨xp, xh, q1, q2⟩ := j199_q; exact ⟨xp, xh, q1, q2.trans (nS1n_s (by omega) (by unfold nS1 u8; rw [hvb, ← r6_]) (by omega))⟩
            exact ih199 _ (msE hm199 q_16 (q_17 b5)) _ _ _ _ ((x199_4 + 1)) ((muI (z17) ((-1640531535)))) (rk_o (rk_o (l199_0) rfl rfl) rfl rfl) (rk_o (rk_o (l199_2) rfl rfl) rfl rfl) (rk_s) (rk_o (rk_s) rfl rfl) H O (SF_trans (hS_199) (SF_gluc (ι := oz_B4clsl_1) oz_B4cls_12 hS17 eF17 (by decide +kernel)) (any_sub (lₚ := []) (by decide +kernel))) (SA_trans (hA_199) (SA_gluc (ι := oz_B4clsl_1) oz_B4cls_12 hA17 eA17 (by decide +kernel)) (any_subA (lₚ := []) (by decide +kernel)))     (show inr ((x199_4 + 1)) from q_2929 b5 h3 j199_0 r1) (show inr ((muI (z17) ((-1640531535)))) from g18) (show (a2) ≤ ((x199_4 + 1)) ∧ ((x199_4 + 1)) ≤ (a3) from q_1503 b5 j199_2) (show ∃ xp xh, NS1 ((w0)) ((a2)) ((a3) - (a2)) ((a4)) xp xh ∧ nS1n ((w0)) ((a3) - ((a3) - (a2)) % 4) (((a3) - (a2)) % 4).toNat (nS4n ((w0)) xp (((a3) - (a2)) % 16 / 4).toNat (adI xh ((a3) - (a2)))) = nS1n ((w0)) (((x199_4 + 1))) ((a3) - ((x199_4 + 1))).toNat (((muI (z17) ((-1640531535))))) by assumption) rfl
      · refine Ew_of (pcₚ := 171) (fun _ => x_iload rfl l161_5) ?_
        refine Ew_of (pcₚ := 172) (fun _ => x_aload_n rfl l161_0) ?_
        refine Ew_of (pcₚ := 174) (fun _ => x_iload rfl l161_4) ?_
        refine w_stat24 rfl rfl (by rfl) (C41_Br (D := puc 0 D) (N := puc 0 N) (HW_subc H oz_B4cls_10 oz_B4cls_4) (n0) (en0) (w0) ((funext (mA_161 0 rfl)).trans (ew0)) (show inr (x161_4) from j161_0) (show 0 ≤ (x161_4) ∧ (x161_4) + 4 ≤ (n0) from q_2969 b4 h3 j161_2) (fun z19 σ19 F19ₚ A19ₚ Hₚ Oₚ hS19 hA19 pz19_0 pz19_1 => ⟨rfl, ?_⟩))
        refine v_backc (c := c) (s := s) H oz_B4cls_10 oz_B4cls_4 Hₚ Oₚ (fun F19 A19 H Oₚ eF19 eA19 => ?_)
        have O := OUT_trans O Oₚ
        -- PackHouse.word
        have cF19 : SF oz_B4clsl_0 F F19 := SF_trans (cF_161) (SF_gluc (ι := oz_B4clsl_2) oz_B4cls_4 hS19 eF19 (by decide +kernel)) (any_sub (lₚ := []) (by decide +kernel))
        have mF19 := SFm_of cF19 oz_B4cls_2
        have cA19 : SA oz_B4clsl_1 A A19 := SA_trans (cA_161) (SA_gluc (ι := oz_B4clsl_2) oz_B4cls_4 hA19 eA19 (by decide +kernel)) (any_subA (lₚ := []) (by decide +kernel))
        have mA19 := SAm_of cA19 oz_B4cls_3
        have w5 := pz19_1
        refine Ew_of (pcₚ := 180) (fun _ => x_ldc_w (z := -1028477379) rfl (by decide)) ?_
        refine w_imulE rfl ?_
        have g20 : inr (muI (z19) ((-1028477379))) := toI_inr _
        refine w_iaddE rfl ?_
        have g21 : inr (adI (x161_5) ((muI (z19) ((-1028477379))))) := toI_inr _
        refine Ew_of (pcₚ := 184) (fun _ => x_bipush (z := 17) rfl (by decide)) ?_
        refine w_stat24 rfl rfl (by rfl) (C46 (D := puc 0 D) (N := puc 0 N) (HW_subc H oz_B4cls_9 oz_B4cls_12) (show inr ((adI (x161_5) ((muI (z19) ((-1028477379)))))) from g21) (show inr (17) from q_582) (show 0 ≤ (17) ∧ (17) ≤ 32 from q_809) (fun z22 σ22 F22ₚ A22ₚ Hₚ Oₚ hS22 hA22 pz22_0 pz22_1 => ⟨rfl, ?_⟩))
        refine v_backc (c := c) (s := s) H oz_B4cls_9 oz_B4cls_12 Hₚ Oₚ (fun F22 A22 H Oₚ eF22 eA22 => ?_)
        have O := OUT_trans O Oₚ
        -- PackHouse.rotated
        have cF22 : SF oz_B4clsl_0 F F22 := SF_trans (cF19) (SF_gluc (ι := oz_B4clsl_1) oz_B4cls_12 hS22 eF22 (by decide +kernel)) (any_sub (lₚ := []) (by decide +kernel))
        have mF22 := SFm_of cF22 oz_B4cls_2
        have cA22 : SA oz_B4clsl_1 A A22 := SA_trans (cA19) (SA_gluc (ι := oz_B4clsl_1) oz_B4cls_12 hA22 eA22 (by decide +kernel)) (any_subA (lₚ := []) (by decide +kernel))
        have mA22 := SAm_of cA22 oz_B4cls_3
        have r5_ := pz22_1
        refine Ew_of (pcₚ := 190) (fun _ => x_ldc_w (z := 668265263) rfl (by decide)) ?_
        refine w_imulE rfl ?_
        have g23 : inr (muI (z22) (668265263)) := toI_inr _
        refine Ew_of (pcₚ := 193) (fun _ => x_istore rfl) ?_
        refine Ew_of (pcₚ := 196) (fun _ => x_iinc (len := 3) rfl (rk_o (l161_4) rfl rfl)) ?_
        refine Ew_of (pcₚ := 161) (fun _ => x_goto rfl rfl) ?_
        have : ∃ xp xh, NS1 ((w0)) ((a2)) ((a3) - (a2)) ((a4)) xp xh ∧ nS4n ((w0)) xp (((a3) - (a2)) % 16 / 4).toNat (adI xh ((a3) - (a2))) = nS4n ((w0)) (((x161_4 + 4))) (((a3) - ((x161_4 + 4))) / 4).toNat (((muI (z22) (668265263)))) := by obtain ⟨xp, xh, q1, q2⟩ := j161_q; exact ⟨xp, xh, q1, q2.trans (nS4n_s (by omega) (by unfold nS4; rw [← w5, ← r5_]) (by omega))⟩
        exact ih161 _ (msE hm161 q_586 (q_587 b4)) _ _ _ _ ((x161_4 + 4)) ((muI (z22) (668265263))) (rk_o (rk_o (l161_0) rfl rfl) rfl rfl) (rk_o (rk_o (l161_2) rfl rfl) rfl rfl) (rk_s) (rk_o (rk_s) rfl rfl) H O (SF_trans (SF_trans (hS_161) (SF_gluc (ι := oz_B4clsl_2) oz_B4cls_4 hS19 eF19 (by decide +kernel)) (any_sub (lₚ := []) (by decide +kernel))) (SF_gluc (ι := oz_B4clsl_1) oz_B4cls_12 hS22 eF22 (by decide +kernel)) (any_sub (lₚ := []) (by decide +kernel))) (SA_trans (SA_trans (hA_161) (SA_gluc (ι := oz_B4clsl_2) oz_B4cls_4 hA19 eA19 (by decide +kernel)) (any_subA (lₚ := []) (by decide +kernel))) (SA_gluc (ι := oz_B4clsl_1) oz_B4cls_12 hA22 eA22 (by decide +kernel)) (any_subA (lₚ := []) (by decide +kernel)))     (show inr ((x161_4 + 4)) from q_2970 b4 h3 j161_0 r1) (show inr ((muI (z22) (668265263))) from g23) (show (a2) ≤ ((x161_4 + 4)) ∧ ((x161_4 + 4)) ≤ (a3) from q_584 b4 j161_2) (show ((a3) - ((x161_4 + 4))) % 4 = ((a3) - (a2)) % 4 by omega) (show ∃ xp xh, NS1 ((w0)) ((a2)) ((a3) - (a2)) ((a4)) xp xh ∧ nS4n ((w0)) xp (((a3) - (a2)) % 16 / 4).toNat (adI xh ((a3) - (a2))) = nS4n ((w0)) (((x161_4 + 4))) (((a3) - ((x161_4 + 4))) / 4).toNat (((muI (z22) (668265263)))) by assumption) rfl
  refine Ew_of (pcₚ := 11) (fun _ => x_iload_n rfl (rk_o (rk_o (rfl) rfl rfl) rfl rfl)) ?_
  refine Ew_of (pcₚ := 12) (fun _ => x_iload_n rfl (rk_o (rk_o (rfl) rfl rfl) rfl rfl)) ?_
  refine w_isub rfl ?_
  refine Ew_of (pcₚ := 15) (fun _ => x_bipush (z := 16) rfl (by decide)) ?_
  refine w_icmplt (t := 153) rfl rfl (show inr ((a3 - a2)) from q_2769 h1 h3) (show inr (16) from q_345) (fun b24 => ?_) (fun b24 => ?_)
  · have : NS1 ((w0)) ((a2)) ((a3) - (a2)) ((a4)) ((a2)) (((adI (a4) (374761393)))) := by first | exact NS1_n (by omega) (by omega) (by omega) (by rfl) | exact NS1_y (by omega) (by omega) (j46_0.trans (nLn_0 (by omega))) (j46_1.trans (nLn_0 (by omega))) (j46_2.trans (nLn_0 (by omega))) (j46_3.trans (nLn_0 (by omega))) r1_ r2_ r3_ r4_
    exact hc153  _ _ _ _ (a2) ((adI (a4) (374761393))) (rk_o (rk_o (rfl) rfl rfl) rfl rfl) (rk_o (rk_o (rfl) rfl rfl) rfl rfl) (rk_o (rk_o (rfl) rfl rfl) rfl rfl) (rk_o (rk_s) rfl rfl) (rk_s) H O (SF_refl) (SA_refl)     (show inr (a2) from h0) (show inr ((adI (a4) (374761393))) from g2) (show (a2) ≤ (a2) ∧ (a2) ≤ (a3) from q_2760 h3) (show NS1 ((w0)) ((a2)) ((a3) - (a2)) ((a4)) ((a2)) (((adI (a4) (374761393)))) by assumption)
  · refine Ew_of (pcₚ := 19) (fun _ => x_iload_n rfl (rk_o (rk_o (rfl) rfl rfl) rfl rfl)) ?_
    refine Ew_of (pcₚ := 22) (fun _ => x_ldc_w (z := -1640531535) rfl (by decide)) ?_
    refine w_iaddE rfl ?_
    have g25 : inr (adI (a4) ((-1640531535))) := toI_inr _
    refine Ew_of (pcₚ := 26) (fun _ => x_ldc_w (z := -2048144777) rfl (by decide)) ?_
    refine w_iaddE rfl ?_
    have g26 : inr (adI ((adI (a4) ((-1640531535)))) ((-2048144777))) := toI_inr _
    refine Ew_of (pcₚ := 29) (fun _ => x_istore rfl) ?_
    refine Ew_of (pcₚ := 30) (fun _ => x_iload_n rfl (rk_o (rk_o (rk_o (rfl) rfl rfl) rfl rfl) rfl rfl)) ?_
    refine Ew_of (pcₚ := 33) (fun _ => x_ldc_w (z := -2048144777) rfl (by decide)) ?_
    refine w_iaddE rfl ?_
    have g27 : inr (adI (a4) ((-2048144777))) := toI_inr _
    refine Ew_of (pcₚ := 36) (fun _ => x_istore rfl) ?_
    refine Ew_of (pcₚ := 37) (fun _ => x_iload_n rfl (rk_o (rk_o (rk_o (rk_o (rfl) rfl rfl) rfl rfl) rfl rfl) rfl rfl)) ?_
    refine Ew_of (pcₚ := 39) (fun _ => x_istore rfl) ?_
    refine Ew_of (pcₚ := 40) (fun _ => x_iload_n rfl (rk_o (rk_o (rk_o (rk_o (rk_o (rfl) rfl rfl) rfl rfl) rfl rfl) rfl rfl) rfl rfl)) ?_
    refine Ew_of (pcₚ := 43) (fun _ => x_ldc_w (z := -1640531535) rfl (by decide)) ?_
    refine w_isubE rfl ?_
    have g28 : inr (sbI (a4) ((-1640531535))) := toI_inr _
    refine Ew_of (pcₚ := 46) (fun _ => x_istore rfl) ?_
    have : nLn ((w0)) ((a2)) (((a3) - (a2)) / 16).toNat (adI (adI ((a4)) (-1640531535)) (-2048144777)) = nLn ((w0)) ((a2)) (((a3) - (a2)) / 16).toNat (adI (adI ((a4)) (-1640531535)) (-2048144777)) := rfl
    have : nLn ((w0)) ((a2) + 4) (((a3) - (a2)) / 16).toNat (adI ((a4)) (-2048144777)) = nLn ((w0)) ((a2) + 4) (((a3) - (a2)) / 16).toNat (adI ((a4)) (-2048144777)) := rfl
    have : nLn ((w0)) ((a2) + 8) (((a3) - (a2)) / 16).toNat ((a4)) = nLn ((w0)) ((a2) + 8) (((a3) - (a2)) / 16).toNat ((a4)) := rfl
    have : nLn ((w0)) ((a2) + 12) (((a3) - (a2)) / 16).toNat (sbI ((a4)) (-1640531535)) = nLn ((w0)) ((a2) + 12) (((a3) - (a2)) / 16).toNat (sbI ((a4)) (-1640531535)) := rfl
    suffices hl46 : ∀ (m : Nat), ∀ (ls : rO) (σ : rS) (F_46 : hF) (A_46 : hA) (x46_4 : Int) (x46_6 : Int) (x46_7 : Int) (x46_8 : Int) (x46_9 : Int), rlook ls 0 = some (.ref (D 0)) → rlook ls 1 = some (I (a2)) → rlook ls 2 = some (I (a3)) → rlook ls 4 = some (I (x46_4)) → rlook ls 6 = some (I (x46_6)) → rlook ls 7 = some (I (x46_7)) → rlook ls 8 = some (I (x46_8)) → rlook ls 9 = some (I (x46_9)) → HW V49_Br σ D N F_46 A_46 → OUT (V49_Br).length D N σE c s D N σ c s → SF [] F F_46 → SA [] A A_46 → (inr (x46_4)) → (inr (x46_6)) → (inr (x46_7)) → (inr (x46_8)) → (inr (x46_9)) → ((a2) ≤ (x46_4) ∧ (x46_4) ≤ (a3)) → (((x46_4) - (a2)) % 16 = 0) → (nLn ((w0)) ((a2)) (((a3) - (a2)) / 16).toNat (adI (adI ((a4)) (-1640531535)) (-2048144777)) = nLn ((w0)) ((x46_4)) (((a3) - (x46_4)) / 16).toNat ((x46_6))) → (nLn ((w0)) ((a2) + 4) (((a3) - (a2)) / 16).toNat (adI ((a4)) (-2048144777)) = nLn ((w0)) ((x46_4) + 4) (((a3) - (x46_4)) / 16).toNat ((x46_7))) → (nLn ((w0)) ((a2) + 8) (((a3) - (a2)) / 16).toNat ((a4)) = nLn ((w0)) ((x46_4) + 8) (((a3) - (x46_4)) / 16).toNat ((x46_8))) → (nLn ((w0)) ((a2) + 12) (((a3) - (a2)) / 16).toNat (sbI ((a4)) (-1640531535)) = nLn ((w0)) ((x46_4) + 12) (((a3) - (x46_4)) / 16).toNat ((x46_9))) → ((a3) - (x46_4)).toNat = m → Ew 49 (d + 2) 46 ls [] σ c s Q from
      hl46 _ _ _ _ _ (a2) ((adI ((adI (a4) ((-1640531535)))) ((-2048144777)))) ((adI (a4) ((-2048144777)))) (a4) ((sbI (a4) ((-1640531535)))) (rk_o (rk_o (rk_o (rk_o (rk_o (rk_o (rfl) rfl rfl) rfl rfl) rfl rfl) rfl rfl) rfl rfl) rfl rfl) (rk_o (rk_o (rk_o (rk_o (rk_o (rk_o (rfl) rfl rfl) rfl rfl) rfl rfl) rfl rfl) rfl rfl) rfl rfl) (rk_o (rk_o (rk_o (rk_o (rk_o (rk_o (rfl) rfl rfl) rfl rfl) rfl rfl) rfl rfl) rfl rfl) rfl rfl) (rk_o (rk_o (rk_o (rk_o (rk_o (rk_s) rfl rfl) rfl rfl) rfl rfl) rfl rfl) rfl rfl) (rk_o (rk_o (rk_o (rk_s) rfl rfl) rfl rfl) rfl rfl) (rk_o (rk_o (rk_s) rfl rfl) rfl rfl) (rk_o (rk_s) rfl rfl) (rk_s) H O (SF_refl) (SA_refl)     (show inr (a2) from h0) (show inr ((adI ((adI (a4) ((-1640531535)))) ((-2048144777)))) from g26) (show inr ((adI (a4) ((-2048144777)))) from g27) (show inr (a4) from h2) (show inr ((sbI (a4) ((-1640531535)))) from g28) (show (a2) ≤ (a2) ∧ (a2) ≤ (a3) from q_2760 h3) (show ((a2) - (a2)) % 16 = 0 by omega) (show nLn ((w0)) ((a2)) (((a3) - (a2)) / 16).toNat (adI (adI ((a4)) (-1640531535)) (-2048144777)) = nLn ((w0)) ((a2)) (((a3) - (a2)) / 16).toNat (((adI ((adI (a4) ((-1640531535)))) ((-2048144777))))) by assumption) (show nLn ((w0)) ((a2) + 4) (((a3) - (a2)) / 16).toNat (adI ((a4)) (-2048144777)) = nLn ((w0)) ((a2) + 4) (((a3) - (a2)) / 16).toNat (((adI (a4) ((-2048144777))))) by assumption) (show nLn ((w0)) ((a2) + 8) (((a3) - (a2)) / 16).toNat ((a4)) = nLn ((w0)) ((a2) + 8) (((a3) - (a2)) / 16).toNat ((a4)) by assumption) (show nLn ((w0)) ((a2) + 12) (((a3) - (a2)) / 16).toNat (sbI ((a4)) (-1640531535)) = nLn ((w0)) ((a2) + 12) (((a3) - (a2)) / 16).toNat (((sbI (a4) ((-1640531535))))) by assumption) rfl
    as_aux_lemma =>
    intro m
    induction m using Nat.strongRecOn with
    | _ m ih46 =>
      intro ls σ F_46 A_46 x46_4 x46_6 x46_7 x46_8 x46_9 l46_0 l46_1 l46_2 l46_4 l46_6 l46_7 l46_8 l46_9 H O hS_46 hA_46     j46_0 j46_1 j46_2 j46_3 j46_4 j46_5 j46_6 j46_7 j46_8 j46_9 j46_10 hm46
      have cF_46 : SF oz_B4clsl_0 F F_46 := SF_trans (SF_refl) hS_46 (any_sub (by decide +kernel))
      have mF_46 := SFm_of cF_46 oz_B4cls_2
      have cA_46 : SA oz_B4clsl_1 A A_46 := SA_trans (SA_refl) hA_46 (any_subA (by decide +kernel))
      have mA_46 := SAm_of cA_46 oz_B4cls_3
      have j46_0 : nLn ((w0)) ((a2)) (((a3) - (a2)) / 16).toNat (adI (adI ((a4)) (-1640531535)) (-2048144777)) = nLn ((w0)) ((x46_4)) (((a3) - (x46_4)) / 16).toNat ((x46_6)) := by assumption
      have j46_1 : nLn ((w0)) ((a2) + 4) (((a3) - (a2)) / 16).toNat (adI ((a4)) (-2048144777)) = nLn ((w0)) ((x46_4) + 4) (((a3) - (x46_4)) / 16).toNat ((x46_7)) := by assumption
      have j46_2 : nLn ((w0)) ((a2) + 8) (((a3) - (a2)) / 16).toNat ((a4)) = nLn ((w0)) ((x46_4) + 8) (((a3) - (x46_4)) / 16).toNat ((x46_8)) := by assumption
      have j46_3 : nLn ((w0)) ((a2) + 12) (((a3) - (a2)) / 16).toNat (sbI ((a4)) (-1640531535)) = nLn ((w0)) ((x46_4) + 12) (((a3) - (x46_4)) / 16).toNat ((x46_9)) := by assumption
      refine Ew_of (pcₚ := 47) (fun _ => x_iload_n rfl l46_2) ?_
      refine Ew_of (pcₚ := 49) (fun _ => x_iload rfl l46_4) ?_
      refine w_isub rfl ?_
      refine Ew_of (pcₚ := 52) (fun _ => x_bipush (z := 16) rfl (by decide)) ?_
      refine w_icmplt (t := 121) rfl rfl (show inr ((a3 - x46_4)) from q_2967 h1 h3 j46_5) (show inr (16) from q_345) (fun b29 => ?_) (fun b29 => ?_)
      · refine Ew_of (pcₚ := 123) (fun _ => x_iload rfl l46_6) ?_
        refine Ew_of (pcₚ := 124) (fun _ => x_iconst rfl) ?_
        refine w_stat24 rfl rfl (by rfl) (C46 (D := puc 0 D) (N := puc 0 N) (HW_subc H oz_B4cls_9 oz_B4cls_12) (show inr (x46_6) by omega) (show inr (1) from q_135) (show 0 ≤ (1) ∧ (1) ≤ 32 from q_815) (fun z30 σ30 F30ₚ A30ₚ Hₚ Oₚ hS30 hA30 pz30_0 pz30_1 => ⟨rfl, ?_⟩))
        refine v_backc (c := c) (s := s) H oz_B4cls_9 oz_B4cls_12 Hₚ Oₚ (fun F30 A30 H Oₚ eF30 eA30 => ?_)
        have O := OUT_trans O Oₚ
        -- PackHouse.rotated
        have cF30 : SF oz_B4clsl_0 F F30 := SF_trans (cF_46) (SF_gluc (ι := oz_B4clsl_1) oz_B4cls_12 hS30 eF30 (by decide +kernel)) (any_sub (lₚ := []) (by decide +kernel))
        have mF30 := SFm_of cF30 oz_B4cls_2
        have cA30 : SA oz_B4clsl_1 A A30 := SA_trans (cA_46) (SA_gluc (ι := oz_B4clsl_1) oz_B4cls_12 hA30 eA30 (by decide +kernel)) (any_subA (lₚ := []) (by decide +kernel))
        have mA30 := SAm_of cA30 oz_B4cls_3
        have r1_ := pz30_1
        refine Ew_of (pcₚ := 129) (fun _ => x_iload rfl l46_7) ?_
        refine Ew_of (pcₚ := 131) (fun _ => x_bipush (z := 7) rfl (by decide)) ?_
        refine w_stat24 rfl rfl (by rfl) (C46 (D := puc 0 D) (N := puc 0 N) (HW_subc H oz_B4cls_9 oz_B4cls_12) (show inr (x46_7) by omega) (show inr (7) from q_597) (show 0 ≤ (7) ∧ (7) ≤ 32 from q_816) (fun z31 σ31 F31ₚ A31ₚ Hₚ Oₚ hS31 hA31 pz31_0 pz31_1 => ⟨rfl, ?_⟩))
        refine v_backc (c := c) (s := s) H oz_B4cls_9 oz_B4cls_12 Hₚ Oₚ (fun F31 A31 H Oₚ eF31 eA31 => ?_)
        have O := OUT_trans O Oₚ
        -- PackHouse.rotated
        have cF31 : SF oz_B4clsl_0 F F31 := SF_trans (cF30) (SF_gluc (ι := oz_B4clsl_1) oz_B4cls_12 hS31 eF31 (by decide +kernel)) (any_sub (lₚ := []) (by decide +kernel))
        have mF31 := SFm_of cF31 oz_B4cls_2
        have cA31 : SA oz_B4clsl_1 A A31 := SA_trans (cA30) (SA_gluc (ι := oz_B4clsl_1) oz_B4cls_12 hA31 eA31 (by decide +kernel)) (any_subA (lₚ := []) (by decide +kernel))
        have mA31 := SAm_of cA31 oz_B4cls_3
        have r2_ := pz31_1
        refine w_iaddE rfl ?_
        have g32 : inr (adI (z30) (z31)) := toI_inr _
        refine Ew_of (pcₚ := 137) (fun _ => x_iload rfl l46_8) ?_
        refine Ew_of (pcₚ := 139) (fun _ => x_bipush (z := 12) rfl (by decide)) ?_
        refine w_stat24 rfl rfl (by rfl) (C46 (D := puc 0 D) (N := puc 0 N) (HW_subc H oz_B4cls_9 oz_B4cls_12) (show inr (x46_8) by omega) (show inr (12) from q_599) (show 0 ≤ (12) ∧ (12) ≤ 32 from q_817) (fun z33 σ33 F33ₚ A33ₚ Hₚ Oₚ hS33 hA33 pz33_0 pz33_1 => ⟨rfl, ?_⟩))
        refine v_backc (c := c) (s := s) H oz_B4cls_9 oz_B4cls_12 Hₚ Oₚ (fun F33 A33 H Oₚ eF33 eA33 => ?_)
        have O := OUT_trans O Oₚ
        -- PackHouse.rotated
        have cF33 : SF oz_B4clsl_0 F F33 := SF_trans (cF31) (SF_gluc (ι := oz_B4clsl_1) oz_B4cls_12 hS33 eF33 (by decide +kernel)) (any_sub (lₚ := []) (by decide +kernel))
        have mF33 := SFm_of cF33 oz_B4cls_2
        have cA33 : SA oz_B4clsl_1 A A33 := SA_trans (cA31) (SA_gluc (ι := oz_B4clsl_1) oz_B4cls_12 hA33 eA33 (by decide +kernel)) (any_subA (lₚ := []) (by decide +kernel))
        have mA33 := SAm_of cA33 oz_B4cls_3
        have r3_ := pz33_1
        refine w_iaddE rfl ?_
        have g34 : inr (adI ((adI (z30) (z31))) (z33)) := toI_inr _
        refine Ew_of (pcₚ := 145) (fun _ => x_iload rfl l46_9) ?_
        refine Ew_of (pcₚ := 147) (fun _ => x_bipush (z := 18) rfl (by decide)) ?_
        refine w_stat24 rfl rfl (by rfl) (C46 (D := puc 0 D) (N := puc 0 N) (HW_subc H oz_B4cls_9 oz_B4cls_12) (show inr (x46_9) from j46_4) (show inr (18) from q_601) (show 0 ≤ (18) ∧ (18) ≤ 32 from q_818) (fun z35 σ35 F35ₚ A35ₚ Hₚ Oₚ hS35 hA35 pz35_0 pz35_1 => ⟨rfl, ?_⟩))
        refine v_backc (c := c) (s := s) H oz_B4cls_9 oz_B4cls_12 Hₚ Oₚ (fun F35 A35 H Oₚ eF35 eA35 => ?_)
        have O := OUT_trans O Oₚ
        -- PackHouse.rotated
        have cF35 : SF oz_B4clsl_0 F F35 := SF_trans (cF33) (SF_gluc (ι := oz_B4clsl_1) oz_B4cls_12 hS35 eF35 (by decide +kernel)) (any_sub (lₚ := []) (by decide +kernel))
        have mF35 := SFm_of cF35 oz_B4cls_2
        have cA35 : SA oz_B4clsl_1 A A35 := SA_trans (cA33) (SA_gluc (ι := oz_B4clsl_1) oz_B4cls_12 hA35 eA35 (by decide +kernel)) (any_subA (lₚ := []) (by decide +kernel))
        have mA35 := SAm_of cA35 oz_B4cls_3
        have r4_ := pz35_1
        refine w_iaddE rfl ?_
        have g36 : inr (adI ((adI ((adI (z30) (z31))) (z33))) (z35)) := toI_inr _
        refine Ew_of (pcₚ := 153) (fun _ => x_istore rfl) ?_
        have : NS1 ((w0)) ((a2)) ((a3) - (a2)) ((a4)) ((x46_4)) (((adI ((adI ((adI (z30) (z31))) (z33))) (z35)))) := by first | exact NS1_n (by omega) (by omega) (by omega) (by rfl) | exact NS1_y (by omega) (by omega) (j46_0.trans (nLn_0 (by omega))) (j46_1.trans (nLn_0 (by omega))) (j46_2.trans (nLn_0 (by omega))) (j46_3.trans (nLn_0 (by omega))) r1_ r2_ r3_ r4_
        exact hc153  _ _ _ _ (x46_4) ((adI ((adI ((adI (z30) (z31))) (z33))) (z35))) (rk_o (l46_0) rfl rfl) (rk_o (l46_1) rfl rfl) (rk_o (l46_2) rfl rfl) (rk_o (l46_4) rfl rfl) (rk_s) H O (SF_trans (SF_trans (SF_trans (SF_trans (SF_trans (SF_refl) hS_46 (any_sub (by decide +kernel))) (SF_gluc (ι := oz_B4clsl_1) oz_B4cls_12 hS30 eF30 (by decide +kernel)) (any_sub (lₚ := []) (by decide +kernel))) (SF_gluc (ι := oz_B4clsl_1) oz_B4cls_12 hS31 eF31 (by decide +kernel)) (any_sub (lₚ := []) (by decide +kernel))) (SF_gluc (ι := oz_B4clsl_1) oz_B4cls_12 hS33 eF33 (by decide +kernel)) (any_sub (lₚ := []) (by decide +kernel))) (SF_gluc (ι := oz_B4clsl_1) oz_B4cls_12 hS35 eF35 (by decide +kernel)) (any_sub (lₚ := []) (by decide +kernel))) (SA_trans (SA_trans (SA_trans (SA_trans (SA_trans (SA_refl) hA_46 (any_subA (by decide +kernel))) (SA_gluc (ι := oz_B4clsl_1) oz_B4cls_12 hA30 eA30 (by decide +kernel)) (any_subA (lₚ := []) (by decide +kernel))) (SA_gluc (ι := oz_B4clsl_1) oz_B4cls_12 hA31 eA31 (by decide +kernel)) (any_subA (lₚ := []) (by decide +kernel))) (SA_gluc (ι := oz_B4clsl_1) oz_B4cls_12 hA33 eA33 (by decide +kernel)) (any_subA (lₚ := []) (by decide +kernel))) (SA_gluc (ι := oz_B4clsl_1) oz_B4cls_12 hA35 eA35 (by decide +kernel)) (any_subA (lₚ := []) (by decide +kernel)))     (show inr (x46_4) from q_2971 h1 h3 j46_5) (show inr ((adI ((adI ((adI (z30) (z31))) (z33))) (z35))) from g36) (show (a2) ≤ (x46_4) ∧ (x46_4) ≤ (a3) from j46_5) (show NS1 ((w0)) ((a2)) ((a3) - (a2)) ((a4)) ((x46_4)) (((adI ((adI ((adI (z30) (z31))) (z33))) (z35)))) by assumption)
      · refine Ew_of (pcₚ := 57) (fun _ => x_iload rfl l46_6) ?_
        refine Ew_of (pcₚ := 58) (fun _ => x_aload_n rfl l46_0) ?_
        refine Ew_of (pcₚ := 60) (fun _ => x_iload rfl l46_4) ?_
        refine w_stat24 rfl rfl (by rfl) (C41_Br (D := puc 0 D) (N := puc 0 N) (HW_subc H oz_B4cls_10 oz_B4cls_4) (n0) (en0) (w0) ((funext (mA_46 0 rfl)).trans (ew0)) (show inr (x46_4) from q_2973 b29 h1 h3 j46_5) (show 0 ≤ (x46_4) ∧ (x46_4) + 4 ≤ (n0) from q_2972 b29 h3 j46_5) (fun z37 σ37 F37ₚ A37ₚ Hₚ Oₚ hS37 hA37 pz37_0 pz37_1 => ⟨rfl, ?_⟩))
        refine v_backc (c := c) (s := s) H oz_B4cls_10 oz_B4cls_4 Hₚ Oₚ (fun F37 A37 H Oₚ eF37 eA37 => ?_)
        have O := OUT_trans O Oₚ
        -- PackHouse.word
        have cF37 : SF oz_B4clsl_0 F F37 := SF_trans (cF_46) (SF_gluc (ι := oz_B4clsl_2) oz_B4cls_4 hS37 eF37 (by decide +kernel)) (any_sub (lₚ := []) (by decide +kernel))
        have mF37 := SFm_of cF37 oz_B4cls_2
        have cA37 : SA oz_B4clsl_1 A A37 := SA_trans (cA_46) (SA_gluc (ι := oz_B4clsl_2) oz_B4cls_4 hA37 eA37 (by decide +kernel)) (any_subA (lₚ := []) (by decide +kernel))
        have mA37 := SAm_of cA37 oz_B4cls_3
        refine w_stat24 rfl rfl (by rfl) (C48 (D := puc 0 D) (N := puc 0 N) (HW_subc H oz_B4cls_11 oz_B4cls_12) (show inr (x46_6) by omega) (show inr (z37) from pz37_0) (fun z38 σ38 F38ₚ A38ₚ Hₚ Oₚ hS38 hA38 pz38_0 pz38_1 => ⟨rfl, ?_⟩))
        refine v_backc (c := c) (s := s) H oz_B4cls_11 oz_B4cls_12 Hₚ Oₚ (fun F38 A38 H Oₚ eF38 eA38 => ?_)
        have O := OUT_trans O Oₚ
        -- PackHouse.narrowLane
        have cF38 : SF oz_B4clsl_0 F F38 := SF_trans (cF37) (SF_gluc (ι := oz_B4clsl_1) oz_B4cls_12 hS38 eF38 (by decide +kernel)) (any_sub (lₚ := []) (by decide +kernel))
        have mF38 := SFm_of cF38 oz_B4cls_2
        have cA38 : SA oz_B4clsl_1 A A38 := SA_trans (cA37) (SA_gluc (ι := oz_B4clsl_1) oz_B4cls_12 hA38 eA38 (by decide +kernel)) (any_subA (lₚ := []) (by decide +kernel))
        have mA38 := SAm_of cA38 oz_B4cls_3
        have w1 := pz37_1
        have n1_ := pz38_1
        refine Ew_of (pcₚ := 68) (fun _ => x_istore rfl) ?_
        refine Ew_of (pcₚ := 70) (fun _ => x_iload rfl (rk_o (l46_7) rfl rfl)) ?_
        refine Ew_of (pcₚ := 71) (fun _ => x_aload_n rfl (rk_o (l46_0) rfl rfl)) ?_
        refine Ew_of (pcₚ := 73) (fun _ => x_iload rfl (rk_o (l46_4) rfl rfl)) ?_
        refine Ew_of (pcₚ := 74) (fun _ => x_iconst rfl) ?_
        refine w_iadd rfl ?_
        refine w_stat24 rfl rfl (by rfl) (C41_Br (D := puc 0 D) (N := puc 0 N) (HW_subc H oz_B4cls_10 oz_B4cls_4) (n0) (en0) (w0) ((funext (mA38 0 rfl)).trans (ew0)) (show inr ((x46_4 + 4)) from q_2975 b29 h1 h3 j46_5) (show 0 ≤ ((x46_4 + 4)) ∧ ((x46_4 + 4)) + 4 ≤ (n0) from q_2974 b29 h3 j46_5) (fun z39 σ39 F39ₚ A39ₚ Hₚ Oₚ hS39 hA39 pz39_0 pz39_1 => ⟨rfl, ?_⟩))
        refine v_backc (c := c) (s := s) H oz_B4cls_10 oz_B4cls_4 Hₚ Oₚ (fun F39 A39 H Oₚ eF39 eA39 => ?_)
        have O := OUT_trans O Oₚ
        -- PackHouse.word
        have cF39 : SF oz_B4clsl_0 F F39 := SF_trans (cF38) (SF_gluc (ι := oz_B4clsl_2) oz_B4cls_4 hS39 eF39 (by decide +kernel)) (any_sub (lₚ := []) (by decide +kernel))
        have mF39 := SFm_of cF39 oz_B4cls_2
        have cA39 : SA oz_B4clsl_1 A A39 := SA_trans (cA38) (SA_gluc (ι := oz_B4clsl_2) oz_B4cls_4 hA39 eA39 (by decide +kernel)) (any_subA (lₚ := []) (by decide +kernel))
        have mA39 := SAm_of cA39 oz_B4cls_3
        refine w_stat24 rfl rfl (by rfl) (C48 (D := puc 0 D) (N := puc 0 N) (HW_subc H oz_B4cls_11 oz_B4cls_12) (show inr (x46_7) by omega) (show inr (z39) from pz39_0) (fun z40 σ40 F40ₚ A40ₚ Hₚ Oₚ hS40 hA40 pz40_0 pz40_1 => ⟨rfl, ?_⟩))
        refine v_backc (c := c) (s := s) H oz_B4cls_11 oz_B4cls_12 Hₚ Oₚ (fun F40 A40 H Oₚ eF40 eA40 => ?_)
        have O := OUT_trans O Oₚ
        -- PackHouse.narrowLane
        have cF40 : SF oz_B4clsl_0 F F40 := SF_trans (cF39) (SF_gluc (ι := oz_B4clsl_1) oz_B4cls_12 hS40 eF40 (by decide +kernel)) (any_sub (lₚ := []) (by decide +kernel))
        have mF40 := SFm_of cF40 oz_B4cls_2
        have cA40 : SA oz_B4clsl_1 A A40 := SA_trans (cA39) (SA_gluc (ι := oz_B4clsl_1) oz_B4cls_12 hA40 eA40 (by decide +kernel)) (any_subA (lₚ := []) (by decide +kernel))
        have mA40 := SAm_of cA40 oz_B4cls_3
        have w2 := pz39_1
        have n2_ := pz40_1
        refine Ew_of (pcₚ := 83) (fun _ => x_istore rfl) ?_
        refine Ew_of (pcₚ := 85) (fun _ => x_iload rfl (rk_o (rk_o (l46_8) rfl rfl) rfl rfl)) ?_
        refine Ew_of (pcₚ := 86) (fun _ => x_aload_n rfl (rk_o (rk_o (l46_0) rfl rfl) rfl rfl)) ?_
        refine Ew_of (pcₚ := 88) (fun _ => x_iload rfl (rk_o (rk_o (l46_4) rfl rfl) rfl rfl)) ?_
        refine Ew_of (pcₚ := 90) (fun _ => x_bipush (z := 8) rfl (by decide)) ?_
        refine w_iadd rfl ?_
        refine w_stat24 rfl rfl (by rfl) (C41_Br (D := puc 0 D) (N := puc 0 N) (HW_subc H oz_B4cls_10 oz_B4cls_4) (n0) (en0) (w0) ((funext (mA40 0 rfl)).trans (ew0)) (show inr ((x46_4 + 8)) from q_2977 b29 h1 h3 j46_5) (show 0 ≤ ((x46_4 + 8)) ∧ ((x46_4 + 8)) + 4 ≤ (n0) from q_2976 b29 h3 j46_5) (fun z41 σ41 F41ₚ A41ₚ Hₚ Oₚ hS41 hA41 pz41_0 pz41_1 => ⟨rfl, ?_⟩))
        refine v_backc (c := c) (s := s) H oz_B4cls_10 oz_B4cls_4 Hₚ Oₚ (fun F41 A41 H Oₚ eF41 eA41 => ?_)
        have O := OUT_trans O Oₚ
        -- PackHouse.word
        have cF41 : SF oz_B4clsl_0 F F41 := SF_trans (cF40) (SF_gluc (ι := oz_B4clsl_2) oz_B4cls_4 hS41 eF41 (by decide +kernel)) (any_sub (lₚ := []) (by decide +kernel))
        have mF41 := SFm_of cF41 oz_B4cls_2
        have cA41 : SA oz_B4clsl_1 A A41 := SA_trans (cA40) (SA_gluc (ι := oz_B4clsl_2) oz_B4cls_4 hA41 eA41 (by decide +kernel)) (any_subA (lₚ := []) (by decide +kernel))
        have mA41 := SAm_of cA41 oz_B4cls_3
        refine w_stat24 rfl rfl (by rfl) (C48 (D := puc 0 D) (N := puc 0 N) (HW_subc H oz_B4cls_11 oz_B4cls_12) (show inr (x46_8) by omega) (show inr (z41) from pz41_0) (fun z42 σ42 F42ₚ A42ₚ Hₚ Oₚ hS42 hA42 pz42_0 pz42_1 => ⟨rfl, ?_⟩))
        refine v_backc (c := c) (s := s) H oz_B4cls_11 oz_B4cls_12 Hₚ Oₚ (fun F42 A42 H Oₚ eF42 eA42 => ?_)
        have O := OUT_trans O Oₚ
        -- PackHouse.narrowLane
        have cF42 : SF oz_B4clsl_0 F F42 := SF_trans (cF41) (SF_gluc (ι := oz_B4clsl_1) oz_B4cls_12 hS42 eF42 (by decide +kernel)) (any_sub (lₚ := []) (by decide +kernel))
        have mF42 := SFm_of cF42 oz_B4cls_2
        have cA42 : SA oz_B4clsl_1 A A42 := SA_trans (cA41) (SA_gluc (ι := oz_B4clsl_1) oz_B4cls_12 hA42 eA42 (by decide +kernel)) (any_subA (lₚ := []) (by decide +kernel))
        have mA42 := SAm_of cA42 oz_B4cls_3
        have w3 := pz41_1
        have n3_ := pz42_1
        refine Ew_of (pcₚ := 99) (fun _ => x_istore rfl) ?_
        refine Ew_of (pcₚ := 101) (fun _ => x_iload rfl (rk_o (rk_o (rk_o (l46_9) rfl rfl) rfl rfl) rfl rfl)) ?_
        refine Ew_of (pcₚ := 102) (fun _ => x_aload_n rfl (rk_o (rk_o (rk_o (l46_0) rfl rfl) rfl rfl) rfl rfl)) ?_
        refine Ew_of (pcₚ := 104) (fun _ => x_iload rfl (rk_o (rk_o (rk_o (l46_4) rfl rfl) rfl rfl) rfl rfl)) ?_
        refine Ew_of (pcₚ := 106) (fun _ => x_bipush (z := 12) rfl (by decide)) ?_
        refine w_iadd rfl ?_
        refine w_stat24 rfl rfl (by rfl) (C41_Br (D := puc 0 D) (N := puc 0 N) (HW_subc H oz_B4cls_10 oz_B4cls_4) (n0) (en0) (w0) ((funext (mA42 0 rfl)).trans (ew0)) (show inr ((x46_4 + 12)) from q_2979 b29 h1 h3 j46_5) (show 0 ≤ ((x46_4 + 12)) ∧ ((x46_4 + 12)) + 4 ≤ (n0) from q_2978 b29 h3 j46_5) (fun z43 σ43 F43ₚ A43ₚ Hₚ Oₚ hS43 hA43 pz43_0 pz43_1 => ⟨rfl, ?_⟩))
        refine v_backc (c := c) (s := s) H oz_B4cls_10 oz_B4cls_4 Hₚ Oₚ (fun F43 A43 H Oₚ eF43 eA43 => ?_)
        have O := OUT_trans O Oₚ
        -- PackHouse.word
        have cF43 : SF oz_B4clsl_0 F F43 := SF_trans (cF42) (SF_gluc (ι := oz_B4clsl_2) oz_B4cls_4 hS43 eF43 (by decide +kernel)) (any_sub (lₚ := []) (by decide +kernel))
        have mF43 := SFm_of cF43 oz_B4cls_2
        have cA43 : SA oz_B4clsl_1 A A43 := SA_trans (cA42) (SA_gluc (ι := oz_B4clsl_2) oz_B4cls_4 hA43 eA43 (by decide +kernel)) (any_subA (lₚ := []) (by decide +kernel))
        have mA43 := SAm_of cA43 oz_B4cls_3
        refine w_stat24 rfl rfl (by rfl) (C48 (D := puc 0 D) (N := puc 0 N) (HW_subc H oz_B4cls_11 oz_B4cls_12) (show inr (x46_9) from j46_4) (show inr (z43) from pz43_0) (fun z44 σ44 F44ₚ A44ₚ Hₚ Oₚ hS44 hA44 pz44_0 pz44_1 => ⟨rfl, ?_⟩))
        refine v_backc (c := c) (s := s) H oz_B4cls_11 oz_B4cls_12 Hₚ Oₚ (fun F44 A44 H Oₚ eF44 eA44 => ?_)
        have O := OUT_trans O Oₚ
        -- PackHouse.narrowLane
        have cF44 : SF oz_B4clsl_0 F F44 := SF_trans (cF43) (SF_gluc (ι := oz_B4clsl_1) oz_B4cls_12 hS44 eF44 (by decide +kernel)) (any_sub (lₚ := []) (by decide +kernel))
        have mF44 := SFm_of cF44 oz_B4cls_2
        have cA44 : SA oz_B4clsl_1 A A44 := SA_trans (cA43) (SA_gluc (ι := oz_B4clsl_1) oz_B4cls_12 hA44 eA44 (by decide +kernel)) (any_subA (lₚ := []) (by decide +kernel))
        have mA44 := SAm_of cA44 oz_B4cls_3
        have w4 := pz43_1
        have n4_ := pz44_1
        refine Ew_of (pcₚ := 115) (fun _ => x_istore rfl) ?_
        refine Ew_of (pcₚ := 118) (fun _ => x_iinc (len := 3) rfl (rk_o (rk_o (rk_o (rk_o (l46_4) rfl rfl) rfl rfl) rfl rfl) rfl rfl)) ?_
        refine Ew_of (pcₚ := 46) (fun _ => x_goto rfl rfl) ?_
        have : nLn ((w0)) ((a2)) (((a3) - (a2)) / 16).toNat (adI (adI ((a4)) (-1640531535)) (-2048144777)) = nLn ((w0)) (((x46_4 + 16))) (((a3) - ((x46_4 + 16))) / 16).toNat ((z38)) := j46_0.trans (nLn_s (by omega) (by rw [n1_, w1]) (by omega))
        have : nLn ((w0)) ((a2) + 4) (((a3) - (a2)) / 16).toNat (adI ((a4)) (-2048144777)) = nLn ((w0)) (((x46_4 + 16)) + 4) (((a3) - ((x46_4 + 16))) / 16).toNat ((z40)) := j46_1.trans (nLn_s (by omega) (by rw [n2_, w2]) (by omega))
        have : nLn ((w0)) ((a2) + 8) (((a3) - (a2)) / 16).toNat ((a4)) = nLn ((w0)) (((x46_4 + 16)) + 8) (((a3) - ((x46_4 + 16))) / 16).toNat ((z42)) := j46_2.trans (nLn_s (by omega) (by rw [n3_, w3]) (by omega))
        have : nLn ((w0)) ((a2) + 12) (((a3) - (a2)) / 16).toNat (sbI ((a4)) (-1640531535)) = nLn ((w0)) (((x46_4 + 16)) + 12) (((a3) - ((x46_4 + 16))) / 16).toNat ((z44)) := j46_3.trans (nLn_s (by omega) (by rw [n4_, w4]) (by omega))
        exact ih46 _ (msE hm46 q_353 (q_354 b29)) _ _ _ _ ((x46_4 + 16)) (z38) (z40) (z42) (z44) (rk_o (rk_o (rk_o (rk_o (rk_o (l46_0) rfl rfl) rfl rfl) rfl rfl) rfl rfl) rfl rfl) (rk_o (rk_o (rk_o (rk_o (rk_o (l46_1) rfl rfl) rfl rfl) rfl rfl) rfl rfl) rfl rfl) (rk_o (rk_o (rk_o (rk_o (rk_o (l46_2) rfl rfl) rfl rfl) rfl rfl) rfl rfl) rfl rfl) (rk_s) (rk_o (rk_o (rk_o (rk_o (rk_s) rfl rfl) rfl rfl) rfl rfl) rfl rfl) (rk_o (rk_o (rk_o (rk_s) rfl rfl) rfl rfl) rfl rfl) (rk_o (rk_o (rk_s) rfl rfl) rfl rfl) (rk_o (rk_s) rfl rfl) H O (SF_trans (SF_trans (SF_trans (SF_trans (SF_trans (SF_trans (SF_trans (SF_trans (hS_46) (SF_gluc (ι := oz_B4clsl_2) oz_B4cls_4 hS37 eF37 (by decide +kernel)) (any_sub (lₚ := []) (by decide +kernel))) (SF_gluc (ι := oz_B4clsl_1) oz_B4cls_12 hS38 eF38 (by decide +kernel)) (any_sub (lₚ := []) (by decide +kernel))) (SF_gluc (ι := oz_B4clsl_2) oz_B4cls_4 hS39 eF39 (by decide +kernel)) (any_sub (lₚ := []) (by decide +kernel))) (SF_gluc (ι := oz_B4clsl_1) oz_B4cls_12 hS40 eF40 (by decide +kernel)) (any_sub (lₚ := []) (by decide +kernel))) (SF_gluc (ι := oz_B4clsl_2) oz_B4cls_4 hS41 eF41 (by decide +kernel)) (any_sub (lₚ := []) (by decide +kernel))) (SF_gluc (ι := oz_B4clsl_1) oz_B4cls_12 hS42 eF42 (by decide +kernel)) (any_sub (lₚ := []) (by decide +kernel))) (SF_gluc (ι := oz_B4clsl_2) oz_B4cls_4 hS43 eF43 (by decide +kernel)) (any_sub (lₚ := []) (by decide +kernel))) (SF_gluc (ι := oz_B4clsl_1) oz_B4cls_12 hS44 eF44 (by decide +kernel)) (any_sub (lₚ := []) (by decide +kernel))) (SA_trans (SA_trans (SA_trans (SA_trans (SA_trans (SA_trans (SA_trans (SA_trans (hA_46) (SA_gluc (ι := oz_B4clsl_2) oz_B4cls_4 hA37 eA37 (by decide +kernel)) (any_subA (lₚ := []) (by decide +kernel))) (SA_gluc (ι := oz_B4clsl_1) oz_B4cls_12 hA38 eA38 (by decide +kernel)) (any_subA (lₚ := []) (by decide +kernel))) (SA_gluc (ι := oz_B4clsl_2) oz_B4cls_4 hA39 eA39 (by decide +kernel)) (any_subA (lₚ := []) (by decide +kernel))) (SA_gluc (ι := oz_B4clsl_1) oz_B4cls_12 hA40 eA40 (by decide +kernel)) (any_subA (lₚ := []) (by decide +kernel))) (SA_gluc (ι := oz_B4clsl_2) oz_B4cls_4 hA41 eA41 (by decide +kernel)) (any_subA (lₚ := []) (by decide +kernel))) (SA_gluc (ι := oz_B4clsl_1) oz_B4cls_12 hA42 eA42 (by decide +kernel)) (any_subA (lₚ := []) (by decide +kernel))) (SA_gluc (ι := oz_B4clsl_2) oz_B4cls_4 hA43 eA43 (by decide +kernel)) (any_subA (lₚ := []) (by decide +kernel))) (SA_gluc (ι := oz_B4clsl_1) oz_B4cls_12 hA44 eA44 (by decide +kernel)) (any_subA (lₚ := []) (by decide +kernel)))     (show inr ((x46_4 + 16)) from q_2980 b29 h1 h3 j46_5) (show inr (z38) from pz38_0) (show inr (z40) from pz40_0) (show inr (z42) from pz42_0) (show inr (z44) from pz44_0) (show (a2) ≤ ((x46_4 + 16)) ∧ ((x46_4 + 16)) ≤ (a3) from q_351 b29 j46_5) (show (((x46_4 + 16)) - (a2)) % 16 = 0 by omega) (show nLn ((w0)) ((a2)) (((a3) - (a2)) / 16).toNat (adI (adI ((a4)) (-1640531535)) (-2048144777)) = nLn ((w0)) (((x46_4 + 16))) (((a3) - ((x46_4 + 16))) / 16).toNat ((z38)) by assumption) (show nLn ((w0)) ((a2) + 4) (((a3) - (a2)) / 16).toNat (adI ((a4)) (-2048144777)) = nLn ((w0)) (((x46_4 + 16)) + 4) (((a3) - ((x46_4 + 16))) / 16).toNat ((z40)) by assumption) (show nLn ((w0)) ((a2) + 8) (((a3) - (a2)) / 16).toNat ((a4)) = nLn ((w0)) (((x46_4 + 16)) + 8) (((a3) - ((x46_4 + 16))) / 16).toNat ((z42)) by assumption) (show nLn ((w0)) ((a2) + 12) (((a3) - (a2)) / 16).toNat (sbI ((a4)) (-1640531535)) = nLn ((w0)) (((x46_4 + 16)) + 12) (((a3) - ((x46_4 + 16))) / 16).toNat ((z44)) by assumption) rfl
abbrev V52_Br : vV := [(1, 0, [])]
theorem len_V52_Br_oz_B4cls : (V52_Br).length = 1 := by decide +kernel
theorem oz_B4cls_14 : vsub V52_Br V47 [] = true := by decide +kernel
theorem oz_B4cls_15 : vsub V52_Br V42_Br [0] = true := by decide +kernel
theorem oz_B4cls_16 : vsub V52_Br V50 [] = true := by decide +kernel

theorem C52_Br {σE : rS} {D N : Nat → Nat} {F : hF} {A : hA} {d c s : Nat} {Q : wQ} (H : HW V52_Br σE D N F A) {a2 a3 a4 : Int} (n0 : Int) (en0 : (N 0 : Int) = n0) (w0 : Int → Int) (ew0 : A 0 = w0) (h0 : inr (a2)) (h1 : inr (a3)) (h2 : inrJ (a4)) (h3 : 0 ≤ (a2) ∧ (a2) ≤ (a3) ∧ (a3) ≤ (n0)) (k : ∀ (z : Int) (σ : rS) (Fₚ : hF) (Aₚ : hA), HW V52_Br σ D N Fₚ Aₚ → OUT (V52_Br).length D N σE c s D N σ c s → SF [] F Fₚ → SA [] A Aₚ → (inrJ (z)) → ((z) = WRS ((w0)) ((a2)) ((a3)) ((a4))) → Q (some (J z)) σ c s) : Ew 52 (d + 2) 0 (rargs 0 [.ref (D 0), I a2, I a3, J a4]) [] σE c s Q := by
  have O := OUT_refl (n := (V52_Br).length) (D := D) (N := N) (σ := σE) (c := c) (s := s)
  have HE := H
  have r1 : (0 : Int) ≤ n0 ∧ n0 ≤ 1000000 := nleE (H.nle 0 (ltn len_V52_Br_oz_B4cls rfl)) (show (N 0 : Int) = n0 from en0)
  refine Ew_of (pcₚ := 1) (fun _ => x_iload_n rfl rfl) ?_
  refine Ew_of (pcₚ := 3) (fun _ => x_istore rfl) ?_
  refine Ew_of (pcₚ := 4) (fun _ => x_lload_n rfl (rk_o (rfl) rfl rfl)) ?_
  refine Ew_of (pcₚ := 6) (fun _ => x_lstore rfl) ?_
  have : WRI8 ((w0)) ((a2)) ((a3)) ((a4)) ((a2)) ((a4)) := WRI8_0 (by omega)
  suffices hl6 : ∀ (m : Nat), ∀ (ls : rO) (σ : rS) (F_6 : hF) (A_6 : hA) (x6_5 : Int) (x6_6 : Int), rlook ls 0 = some (.ref (D 0)) → rlook ls 2 = some (I (a3)) → rlook ls 5 = some (I (x6_5)) → rlook ls 6 = some (J (x6_6)) → HW V52_Br σ D N F_6 A_6 → OUT (V52_Br).length D N σE c s D N σ c s → SF [] F F_6 → SA [] A A_6 → (inr (x6_5)) → (inrJ (x6_6)) → ((a2) ≤ (x6_5) ∧ (x6_5) ≤ (a3)) → (WRI8 ((w0)) ((a2)) ((a3)) ((a4)) ((x6_5)) ((x6_6))) → ((a3) - (x6_5)).toNat = m → Ew 52 (d + 2) 6 ls [] σ c s Q from
    hl6 _ _ _ _ _ (a2) (a4) (rk2_o (rk_o (rfl) rfl rfl) rfl rfl) (rk2_o (rk_o (rfl) rfl rfl) rfl rfl) (rk2_o (rk_s) rfl rfl) (rk2_s) H O (SF_refl) (SA_refl)     (show inr (a2) from h0) (show inrJ (a4) from h2) (show (a2) ≤ (a2) ∧ (a2) ≤ (a3) from q_2760 h3) (show WRI8 ((w0)) ((a2)) ((a3)) ((a4)) ((a2)) ((a4)) by assumption) rfl
  as_aux_lemma =>
  intro m
  induction m using Nat.strongRecOn with
  | _ m ih6 =>
    intro ls σ F_6 A_6 x6_5 x6_6 l6_0 l6_2 l6_5 l6_6 H O hS_6 hA_6     j6_0 j6_1 j6_2 j6_3 hm6
    have cF_6 : SF oz_B4clsl_0 F F_6 := SF_trans (SF_refl) hS_6 (any_sub (by decide +kernel))
    have mF_6 := SFm_of cF_6 oz_B4cls_2
    have cA_6 : SA oz_B4clsl_1 A A_6 := SA_trans (SA_refl) hA_6 (any_subA (by decide +kernel))
    have mA_6 := SAm_of cA_6 oz_B4cls_3
    have j6_q : WRI8 ((w0)) ((a2)) ((a3)) ((a4)) ((x6_5)) ((x6_6)) := j6_3
    refine Ew_of (pcₚ := 7) (fun _ => x_iload_n rfl l6_2) ?_
    refine Ew_of (pcₚ := 9) (fun _ => x_iload rfl l6_5) ?_
    refine w_isub rfl ?_
    refine Ew_of (pcₚ := 12) (fun _ => x_bipush (z := 8) rfl (by decide)) ?_
    refine w_icmplt (t := 51) rfl rfl (show inr ((a3 - x6_5)) from q_2967 h1 h3 j6_2) (show inr (8) from q_141) (fun b2 => ?_) (fun b2 => ?_)
    · refine Ew_of (pcₚ := 52) (fun _ => x_iload_n rfl l6_2) ?_
      refine Ew_of (pcₚ := 54) (fun _ => x_iload rfl l6_5) ?_
      refine w_isub rfl ?_
      refine Ew_of (pcₚ := 56) (fun _ => x_iconst rfl) ?_
      refine w_icmplt (t := 91) rfl rfl (show inr ((a3 - x6_5)) from q_1501 b2 j6_2) (show inr (4) from q_216) (fun b3 => ?_) (fun b3 => ?_)
      · have : WRI1 ((w0)) ((a2)) ((a3)) ((a4)) ((x6_5)) ((x6_6)) := by first | exact WRI1_n j6_q (by omega) | exact WRI1_y j6_q (by omega) (w4_c n4_ r4_) (by omega)
        suffices hl91 : ∀ (m : Nat), ∀ (ls : rO) (σ : rS) (F_91 : hF) (A_91 : hA) (x91_5 : Int) (x91_6 : Int), rlook ls 0 = some (.ref (D 0)) → rlook ls 2 = some (I (a3)) → rlook ls 5 = some (I (x91_5)) → rlook ls 6 = some (J (x91_6)) → HW V52_Br σ D N F_91 A_91 → OUT (V52_Br).length D N σE c s D N σ c s → SF [] F_6 F_91 → SA [] A_6 A_91 → (inr (x91_5)) → (inrJ (x91_6)) → ((a2) ≤ (x91_5) ∧ (x91_5) ≤ (a3)) → (WRI1 ((w0)) ((a2)) ((a3)) ((a4)) ((x91_5)) ((x91_6))) → ((a3) - (x91_5)).toNat = m → Ew 52 (d + 2) 91 ls [] σ c s Q from
          hl91 _ _ _ _ _ (x6_5) (x6_6) (l6_0) (l6_2) (l6_5) (l6_6) H O (SF_refl) (SA_refl)     (show inr (x6_5) from j6_0) (show inrJ (x6_6) from j6_1) (show (a2) ≤ (x6_5) ∧ (x6_5) ≤ (a3) from j6_2) (show WRI1 ((w0)) ((a2)) ((a3)) ((a4)) ((x6_5)) ((x6_6)) by assumption) rfl
        as_aux_lemma =>
        intro m
        induction m using Nat.strongRecOn with
        | _ m ih91 =>
          intro ls σ F_91 A_91 x91_5 x91_6 l91_0 l91_2 l91_5 l91_6 H O hS_91 hA_91     j91_0 j91_1 j91_2 j91_3 hm91
          have cF_91 : SF oz_B4clsl_0 F F_91 := SF_trans (cF_6) hS_91 (any_sub (by decide +kernel))
          have mF_91 := SFm_of cF_91 oz_B4cls_2
          have cA_91 : SA oz_B4clsl_1 A A_91 := SA_trans (cA_6) hA_91 (any_subA (by decide +kernel))
          have mA_91 := SAm_of cA_91 oz_B4cls_3
          have j91_q : WRI1 ((w0)) ((a2)) ((a3)) ((a4)) ((x91_5)) ((x91_6)) := j91_3
          refine Ew_of (pcₚ := 93) (fun _ => x_iload rfl l91_5) ?_
          refine Ew_of (pcₚ := 94) (fun _ => x_iload_n rfl l91_2) ?_
          refine w_icmpge (t := 130) rfl rfl (show inr (x91_5) from j91_0) (show inr (a3) from h1) (fun b4 => ?_) (fun b4 => ?_)
          · refine Ew_of (pcₚ := 132) (fun _ => x_lload rfl l91_6) ?_
            refine Ew_of (pcₚ := 134) (fun _ => x_lload rfl l91_6) ?_
            refine Ew_of (pcₚ := 136) (fun _ => x_bipush (z := 33) rfl (by decide)) ?_
            refine w_lushrE rfl ?_
            have g5 : inrJ (usJ (x91_6) (33)) := toJ_inr _
            refine w_lxorE rfl ?_
            have g6 : inrJ (xoJ (x91_6) ((usJ (x91_6) (33)))) := toJ_inr _
            refine Ew_of (pcₚ := 141) (fun _ => x_ldc2 (z := -4417276706812531889) rfl (by decide)) ?_
            refine w_lmulE rfl ?_
            have g7 : inrJ (muJ ((xoJ (x91_6) ((usJ (x91_6) (33))))) ((-4417276706812531889))) := toJ_inr _
            refine Ew_of (pcₚ := 144) (fun _ => x_lstore rfl) ?_
            refine Ew_of (pcₚ := 146) (fun _ => x_lload rfl rk2_s) ?_
            refine Ew_of (pcₚ := 148) (fun _ => x_lload rfl rk2_s) ?_
            refine Ew_of (pcₚ := 150) (fun _ => x_bipush (z := 29) rfl (by decide)) ?_
            refine w_lushrE rfl ?_
            have g8 : inrJ (usJ ((muJ ((xoJ (x91_6) ((usJ (x91_6) (33))))) ((-4417276706812531889)))) (29)) := toJ_inr _
            refine w_lxorE rfl ?_
            have g9 : inrJ (xoJ ((muJ ((xoJ (x91_6) ((usJ (x91_6) (33))))) ((-4417276706812531889)))) ((usJ ((muJ ((xoJ (x91_6) ((usJ (x91_6) (33))))) ((-4417276706812531889)))) (29)))) := toJ_inr _
            refine Ew_of (pcₚ := 155) (fun _ => x_ldc2 (z := 1609587929392839161) rfl (by decide)) ?_
            refine w_lmulE rfl ?_
            have g10 : inrJ (muJ ((xoJ ((muJ ((xoJ (x91_6) ((usJ (x91_6) (33))))) ((-4417276706812531889)))) ((usJ ((muJ ((xoJ (x91_6) ((usJ (x91_6) (33))))) ((-4417276706812531889)))) (29))))) (1609587929392839161)) := toJ_inr _
            refine Ew_of (pcₚ := 158) (fun _ => x_lstore rfl) ?_
            refine Ew_of (pcₚ := 160) (fun _ => x_lload rfl rk2_s) ?_
            refine Ew_of (pcₚ := 162) (fun _ => x_lload rfl rk2_s) ?_
            refine Ew_of (pcₚ := 164) (fun _ => x_bipush (z := 32) rfl (by decide)) ?_
            refine w_lushrE rfl ?_
            have g11 : inrJ (usJ ((muJ ((xoJ ((muJ ((xoJ (x91_6) ((usJ (x91_6) (33))))) ((-4417276706812531889)))) ((usJ ((muJ ((xoJ (x91_6) ((usJ (x91_6) (33))))) ((-4417276706812531889)))) (29))))) (1609587929392839161))) (32)) := toJ_inr _
            refine w_lxorE rfl ?_
            have g12 : inrJ (xoJ ((muJ ((xoJ ((muJ ((xoJ (x91_6) ((usJ (x91_6) (33))))) ((-4417276706812531889)))) ((usJ ((muJ ((xoJ (x91_6) ((usJ (x91_6) (33))))) ((-4417276706812531889)))) (29))))) (1609587929392839161))) ((usJ ((muJ ((xoJ ((muJ ((xoJ (x91_6) ((usJ (x91_6) (33))))) ((-4417276706812531889)))) ((usJ ((muJ ((xoJ (x91_6) ((usJ (x91_6) (33))))) ((-4417276706812531889)))) (29))))) (1609587929392839161))) (32)))) := toJ_inr _
            have : ((xoJ ((muJ ((xoJ ((muJ ((xoJ (x91_6) ((usJ (x91_6) (33))))) ((-4417276706812531889)))) ((usJ ((muJ ((xoJ (x91_6) ((usJ (x91_6) (33))))) ((-4417276706812531889)))) (29))))) (1609587929392839161))) ((usJ ((muJ ((xoJ ((muJ ((xoJ (x91_6) ((usJ (x91_6) (33))))) ((-4417276706812531889)))) ((usJ ((muJ ((xoJ (x91_6) ((usJ (x91_6) (33))))) ((-4417276706812531889)))) (29))))) (1609587929392839161))) (32))))) = WRS ((w0)) ((a2)) ((a3)) ((a4)) := WRI1_e j91_q (by omega)
            exact w_lreturn rfl (k ((xoJ ((muJ ((xoJ ((muJ ((xoJ (x91_6) ((usJ (x91_6) (33))))) ((-4417276706812531889)))) ((usJ ((muJ ((xoJ (x91_6) ((usJ (x91_6) (33))))) ((-4417276706812531889)))) (29))))) (1609587929392839161))) ((usJ ((muJ ((xoJ ((muJ ((xoJ (x91_6) ((usJ (x91_6) (33))))) ((-4417276706812531889)))) ((usJ ((muJ ((xoJ (x91_6) ((usJ (x91_6) (33))))) ((-4417276706812531889)))) (29))))) (1609587929392839161))) (32))))) _ _ _ H O (cF_91) (cA_91) (show inrJ ((xoJ ((muJ ((xoJ ((muJ ((xoJ (x91_6) ((usJ (x91_6) (33))))) ((-4417276706812531889)))) ((usJ ((muJ ((xoJ (x91_6) ((usJ (x91_6) (33))))) ((-4417276706812531889)))) (29))))) (1609587929392839161))) ((usJ ((muJ ((xoJ ((muJ ((xoJ (x91_6) ((usJ (x91_6) (33))))) ((-4417276706812531889)))) ((usJ ((muJ ((xoJ (x91_6) ((usJ (x91_6) (33))))) ((-4417276706812531889)))) (29))))) (1609587929392839161))) (32))))) from g12) (show ((xoJ ((muJ ((xoJ ((muJ ((xoJ (x91_6) ((usJ (x91_6) (33))))) ((-4417276706812531889)))) ((usJ ((muJ ((xoJ (x91_6) ((usJ (x91_6) (33))))) ((-4417276706812531889)))) (29))))) (1609587929392839161))) ((usJ ((muJ ((xoJ ((muJ ((xoJ (x91_6) ((usJ (x91_6) (33))))) ((-4417276706812531889)))) ((usJ ((muJ ((xoJ (x91_6) ((usJ (x91_6) (33))))) ((-4417276706812531889)))) (29))))) (1609587929392839161))) (32))))) = WRS ((w0)) (a2) (a3) (a4) by assumption))
          · refine Ew_of (pcₚ := 99) (fun _ => x_lload rfl l91_6) ?_
            refine Ew_of (pcₚ := 100) (fun _ => x_aload_n rfl l91_0) ?_
            refine Ew_of (pcₚ := 102) (fun _ => x_iload rfl l91_5) ?_
            refine v_lB H (o := 0) rfl rfl rfl rfl (n := n0) (en0) (show 0 ≤ x91_5 ∧ x91_5 < n0 from q_2968 b4 h3 j91_2) (fun v13 ev13 qv13 => ?_)
            have ev13 : (w0) (x91_5) = v13 := (congrFun ((funext (mA_91 0 rfl)).trans (ew0)) (x91_5)).symm.trans ev13
            have hvb := ev13
            refine Ew_of (pcₚ := 106) (fun _ => x_sipush (z := 255) rfl (by decide)) ?_
            refine v_and255 rfl ?_
            refine w_i2l rfl (show inr ((v13 % 256)) from q_461) ?_
            refine Ew_of (pcₚ := 111) (fun _ => x_ldc2 (z := 2870177450012600261) rfl (by decide)) ?_
            refine w_lmulE rfl ?_
            have g14 : inrJ (muJ ((v13 % 256)) (2870177450012600261)) := toJ_inr _
            refine w_lxorE rfl ?_
            have g15 : inrJ (xoJ (x91_6) ((muJ ((v13 % 256)) (2870177450012600261)))) := toJ_inr _
            refine Ew_of (pcₚ := 115) (fun _ => x_bipush (z := 11) rfl (by decide)) ?_
            refine w_stat24 rfl rfl (by rfl) (C47 (D := puc 0 D) (N := puc 0 N) (HW_subc H oz_B4cls_14 oz_B4cls_12) (show inrJ ((xoJ (x91_6) ((muJ ((v13 % 256)) (2870177450012600261))))) from g15) (show inr (11) from q_326) (show 0 ≤ (11) ∧ (11) ≤ 64 from q_824) (fun z16 σ16 F16ₚ A16ₚ Hₚ Oₚ hS16 hA16 pz16_0 pz16_1 => ⟨rfl, ?_⟩))
            refine v_backc (c := c) (s := s) H oz_B4cls_14 oz_B4cls_12 Hₚ Oₚ (fun F16 A16 H Oₚ eF16 eA16 => ?_)
            have O := OUT_trans O Oₚ
            -- PackHouse.rotated
            have cF16 : SF oz_B4clsl_0 F F16 := SF_trans (cF_91) (SF_gluc (ι := oz_B4clsl_1) oz_B4cls_12 hS16 eF16 (by decide +kernel)) (any_sub (lₚ := []) (by decide +kernel))
            have mF16 := SFm_of cF16 oz_B4cls_2
            have cA16 : SA oz_B4clsl_1 A A16 := SA_trans (cA_91) (SA_gluc (ι := oz_B4clsl_1) oz_B4cls_12 hA16 eA16 (by decide +kernel)) (any_subA (lₚ := []) (by decide +kernel))
            have mA16 := SAm_of cA16 oz_B4cls_3
            have r1_ := pz16_1
            refine Ew_of (pcₚ := 121) (fun _ => x_ldc2 (z := -7046029288634856825) rfl (by decide)) ?_
            refine w_lmulE rfl ?_
            have g17 : inrJ (muJ (z16) ((-7046029288634856825))) := toJ_inr _
            refine Ew_of (pcₚ := 124) (fun _ => x_lstore rfl) ?_
            refine Ew_of (pcₚ := 127) (fun _ => x_iinc (len := 3) rfl (rk2_o (l91_5) rfl rfl)) ?_
            refine Ew_of (pcₚ := 91) (fun _ => x_goto rfl rfl) ?_
            have : WRI1 ((w0)) ((a2)) ((a3)) ((a4)) (((x91_5 + 1))) (((muJ (z16) ((-7046029288634856825))))) := WRI1_s j91_q (by omega) (w1_c hvb r1_) (by omega)
            exact ih91 _ (msE hm91 q_16 (q_17 b4)) _ _ _ _ ((x91_5 + 1)) ((muJ (z16) ((-7046029288634856825)))) (rk_o (rk2_o (l91_0) rfl rfl) rfl rfl) (rk_o (rk2_o (l91_2) rfl rfl) rfl rfl) (rk_s) (rk_o (rk2_s) rfl rfl) H O (SF_trans (hS_91) (SF_gluc (ι := oz_B4clsl_1) oz_B4cls_12 hS16 eF16 (by decide +kernel)) (any_sub (lₚ := []) (by decide +kernel))) (SA_trans (hA_91) (SA_gluc (ι := oz_B4clsl_1) oz_B4cls_12 hA16 eA16 (by decide +kernel)) (any_subA (lₚ := []) (by decide +kernel)))     (show inr ((x91_5 + 1)) from q_2981 b4 h1 j91_0) (show inrJ ((muJ (z16) ((-7046029288634856825)))) from g17) (show (a2) ≤ ((x91_5 + 1)) ∧ ((x91_5 + 1)) ≤ (a3) from q_1503 b4 j91_2) (show WRI1 ((w0)) ((a2)) ((a3)) ((a4)) (((x91_5 + 1))) (((muJ (z16) ((-7046029288634856825))))) by assumption) rfl
      · refine Ew_of (pcₚ := 61) (fun _ => x_lload rfl l6_6) ?_
        refine Ew_of (pcₚ := 62) (fun _ => x_aload_n rfl l6_0) ?_
        refine Ew_of (pcₚ := 64) (fun _ => x_iload rfl l6_5) ?_
        refine Ew_of (pcₚ := 65) (fun _ => x_iconst rfl) ?_
        refine w_stat24 rfl rfl (by rfl) (C42_Br (D := puc 0 D) (N := puc 0 N) (HW_subc H oz_B4cls_15 oz_B4cls_4) (n0) (en0) (w0) ((funext (mA_6 0 rfl)).trans (ew0)) (show inr (x6_5) from j6_0) (show inr (4) from q_216) (show (4) ≤ 0 ∨ 0 ≤ (x6_5) ∧ (x6_5) + (4) ≤ (n0) from q_2982 b3 h3 j6_2) (show 0 ≤ (4) ∧ (4) ≤ 8 from q_623) (fun z18 σ18 F18ₚ A18ₚ Hₚ Oₚ hS18 hA18 pz18_0 pz18_1 pz18_2 => ⟨rfl, ?_⟩))
        refine v_backc (c := c) (s := s) H oz_B4cls_15 oz_B4cls_4 Hₚ Oₚ (fun F18 A18 H Oₚ eF18 eA18 => ?_)
        have O := OUT_trans O Oₚ
        -- PackHouse.number
        have cF18 : SF oz_B4clsl_0 F F18 := SF_trans (cF_6) (SF_gluc (ι := oz_B4clsl_2) oz_B4cls_4 hS18 eF18 (by decide +kernel)) (any_sub (lₚ := []) (by decide +kernel))
        have mF18 := SFm_of cF18 oz_B4cls_2
        have cA18 : SA oz_B4clsl_1 A A18 := SA_trans (cA_6) (SA_gluc (ι := oz_B4clsl_2) oz_B4cls_4 hA18 eA18 (by decide +kernel)) (any_subA (lₚ := []) (by decide +kernel))
        have mA18 := SAm_of cA18 oz_B4cls_3
        have n4_ := nmb_4 pz18_2 pz18_0
        refine Ew_of (pcₚ := 71) (fun _ => x_ldc2 (z := -7046029288634856825) rfl (by decide)) ?_
        refine w_lmulE rfl ?_
        have g19 : inrJ (muJ (z18) ((-7046029288634856825))) := toJ_inr _
        refine w_lxorE rfl ?_
        have g20 : inrJ (xoJ (x6_6) ((muJ (z18) ((-7046029288634856825))))) := toJ_inr _
        refine Ew_of (pcₚ := 75) (fun _ => x_bipush (z := 23) rfl (by decide)) ?_
        refine w_stat24 rfl rfl (by rfl) (C47 (D := puc 0 D) (N := puc 0 N) (HW_subc H oz_B4cls_14 oz_B4cls_12) (show inrJ ((xoJ (x6_6) ((muJ (z18) ((-7046029288634856825)))))) from g20) (show inr (23) from q_826) (show 0 ≤ (23) ∧ (23) ≤ 64 from q_825) (fun z21 σ21 F21ₚ A21ₚ Hₚ Oₚ hS21 hA21 pz21_0 pz21_1 => ⟨rfl, ?_⟩))
        refine v_backc (c := c) (s := s) H oz_B4cls_14 oz_B4cls_12 Hₚ Oₚ (fun F21 A21 H Oₚ eF21 eA21 => ?_)
        have O := OUT_trans O Oₚ
        -- PackHouse.rotated
        have cF21 : SF oz_B4clsl_0 F F21 := SF_trans (cF18) (SF_gluc (ι := oz_B4clsl_1) oz_B4cls_12 hS21 eF21 (by decide +kernel)) (any_sub (lₚ := []) (by decide +kernel))
        have mF21 := SFm_of cF21 oz_B4cls_2
        have cA21 : SA oz_B4clsl_1 A A21 := SA_trans (cA18) (SA_gluc (ι := oz_B4clsl_1) oz_B4cls_12 hA21 eA21 (by decide +kernel)) (any_subA (lₚ := []) (by decide +kernel))
        have mA21 := SAm_of cA21 oz_B4cls_3
        have r4_ := pz21_1
        refine Ew_of (pcₚ := 81) (fun _ => x_ldc2 (z := -4417276706812531889) rfl (by decide)) ?_
        refine w_lmulE rfl ?_
        have g22 : inrJ (muJ (z21) ((-4417276706812531889))) := toJ_inr _
        refine Ew_of (pcₚ := 85) (fun _ => x_ldc2 (z := 1609587929392839161) rfl (by decide)) ?_
        refine w_laddE rfl ?_
        have g23 : inrJ (adJ ((muJ (z21) ((-4417276706812531889)))) (1609587929392839161)) := toJ_inr _
        refine Ew_of (pcₚ := 88) (fun _ => x_lstore rfl) ?_
        refine Ew_of (pcₚ := 91) (fun _ => x_iinc (len := 3) rfl (rk2_o (l6_5) rfl rfl)) ?_
        have : WRI1 ((w0)) ((a2)) ((a3)) ((a4)) (((x6_5 + 4))) (((adJ ((muJ (z21) ((-4417276706812531889)))) (1609587929392839161)))) := by first | exact WRI1_n j6_q (by omega) | exact WRI1_y j6_q (by omega) (w4_c n4_ r4_) (by omega)
        suffices hl91 : ∀ (m : Nat), ∀ (ls : rO) (σ : rS) (F_91 : hF) (A_91 : hA) (x91_5 : Int) (x91_6 : Int), rlook ls 0 = some (.ref (D 0)) → rlook ls 2 = some (I (a3)) → rlook ls 5 = some (I (x91_5)) → rlook ls 6 = some (J (x91_6)) → HW V52_Br σ D N F_91 A_91 → OUT (V52_Br).length D N σE c s D N σ c s → SF [] F21 F_91 → SA [] A21 A_91 → (inr (x91_5)) → (inrJ (x91_6)) → ((a2) ≤ (x91_5) ∧ (x91_5) ≤ (a3)) → (WRI1 ((w0)) ((a2)) ((a3)) ((a4)) ((x91_5)) ((x91_6))) → ((a3) - (x91_5)).toNat = m → Ew 52 (d + 2) 91 ls [] σ c s Q from
          hl91 _ _ _ _ _ ((x6_5 + 4)) ((adJ ((muJ (z21) ((-4417276706812531889)))) (1609587929392839161))) (rk_o (rk2_o (l6_0) rfl rfl) rfl rfl) (rk_o (rk2_o (l6_2) rfl rfl) rfl rfl) (rk_s) (rk_o (rk2_s) rfl rfl) H O (SF_refl) (SA_refl)     (show inr ((x6_5 + 4)) from q_2970 b3 h3 j6_0 r1) (show inrJ ((adJ ((muJ (z21) ((-4417276706812531889)))) (1609587929392839161))) from g23) (show (a2) ≤ ((x6_5 + 4)) ∧ ((x6_5 + 4)) ≤ (a3) from q_584 b3 j6_2) (show WRI1 ((w0)) ((a2)) ((a3)) ((a4)) (((x6_5 + 4))) (((adJ ((muJ (z21) ((-4417276706812531889)))) (1609587929392839161)))) by assumption) rfl
        as_aux_lemma =>
        intro m
        induction m using Nat.strongRecOn with
        | _ m ih91 =>
          intro ls σ F_91 A_91 x91_5 x91_6 l91_0 l91_2 l91_5 l91_6 H O hS_91 hA_91     j91_0 j91_1 j91_2 j91_3 hm91
          have cF_91 : SF oz_B4clsl_0 F F_91 := SF_trans (cF21) hS_91 (any_sub (by decide +kernel))
          have mF_91 := SFm_of cF_91 oz_B4cls_2
          have cA_91 : SA oz_B4clsl_1 A A_91 := SA_trans (cA21) hA_91 (any_subA (by decide +kernel))
          have mA_91 := SAm_of cA_91 oz_B4cls_3
          have j91_q : WRI1 ((w0)) ((a2)) ((a3)) ((a4)) ((x91_5)) ((x91_6)) := j91_3
          refine Ew_of (pcₚ := 93) (fun _ => x_iload rfl l91_5) ?_
          refine Ew_of (pcₚ := 94) (fun _ => x_iload_n rfl l91_2) ?_
          refine w_icmpge (t := 130) rfl rfl (show inr (x91_5) from j91_0) (show inr (a3) from h1) (fun b24 => ?_) (fun b24 => ?_)
          · refine Ew_of (pcₚ := 132) (fun _ => x_lload rfl l91_6) ?_
            refine Ew_of (pcₚ := 134) (fun _ => x_lload rfl l91_6) ?_
            refine Ew_of (pcₚ := 136) (fun _ => x_bipush (z := 33) rfl (by decide)) ?_
            refine w_lushrE rfl ?_
            have g25 : inrJ (usJ (x91_6) (33)) := toJ_inr _
            refine w_lxorE rfl ?_
            have g26 : inrJ (xoJ (x91_6) ((usJ (x91_6) (33)))) := toJ_inr _
            refine Ew_of (pcₚ := 141) (fun _ => x_ldc2 (z := -4417276706812531889) rfl (by decide)) ?_
            refine w_lmulE rfl ?_
            have g27 : inrJ (muJ ((xoJ (x91_6) ((usJ (x91_6) (33))))) ((-4417276706812531889))) := toJ_inr _
            refine Ew_of (pcₚ := 144) (fun _ => x_lstore rfl) ?_
            refine Ew_of (pcₚ := 146) (fun _ => x_lload rfl rk2_s) ?_
            refine Ew_of (pcₚ := 148) (fun _ => x_lload rfl rk2_s) ?_
            refine Ew_of (pcₚ := 150) (fun _ => x_bipush (z := 29) rfl (by decide)) ?_
            refine w_lushrE rfl ?_
            have g28 : inrJ (usJ ((muJ ((xoJ (x91_6) ((usJ (x91_6) (33))))) ((-4417276706812531889)))) (29)) := toJ_inr _
            refine w_lxorE rfl ?_
            have g29 : inrJ (xoJ ((muJ ((xoJ (x91_6) ((usJ (x91_6) (33))))) ((-4417276706812531889)))) ((usJ ((muJ ((xoJ (x91_6) ((usJ (x91_6) (33))))) ((-4417276706812531889)))) (29)))) := toJ_inr _
            refine Ew_of (pcₚ := 155) (fun _ => x_ldc2 (z := 1609587929392839161) rfl (by decide)) ?_
            refine w_lmulE rfl ?_
            have g30 : inrJ (muJ ((xoJ ((muJ ((xoJ (x91_6) ((usJ (x91_6) (33))))) ((-4417276706812531889)))) ((usJ ((muJ ((xoJ (x91_6) ((usJ (x91_6) (33))))) ((-4417276706812531889)))) (29))))) (1609587929392839161)) := toJ_inr _
            refine Ew_of (pcₚ := 158) (fun _ => x_lstore rfl) ?_
            refine Ew_of (pcₚ := 160) (fun _ => x_lload rfl rk2_s) ?_
            refine Ew_of (pcₚ := 162) (fun _ => x_lload rfl rk2_s) ?_
            refine Ew_of (pcₚ := 164) (fun _ => x_bipush (z := 32) rfl (by decide)) ?_
            refine w_lushrE rfl ?_
            have g31 : inrJ (usJ ((muJ ((xoJ ((muJ ((xoJ (x91_6) ((usJ (x91_6) (33))))) ((-4417276706812531889)))) ((usJ ((muJ ((xoJ (x91_6) ((usJ (x91_6) (33))))) ((-4417276706812531889)))) (29))))) (1609587929392839161))) (32)) := toJ_inr _
            refine w_lxorE rfl ?_
            have g32 : inrJ (xoJ ((muJ ((xoJ ((muJ ((xoJ (x91_6) ((usJ (x91_6) (33))))) ((-4417276706812531889)))) ((usJ ((muJ ((xoJ (x91_6) ((usJ (x91_6) (33))))) ((-4417276706812531889)))) (29))))) (1609587929392839161))) ((usJ ((muJ ((xoJ ((muJ ((xoJ (x91_6) ((usJ (x91_6) (33))))) ((-4417276706812531889)))) ((usJ ((muJ ((xoJ (x91_6) ((usJ (x91_6) (33))))) ((-4417276706812531889)))) (29))))) (1609587929392839161))) (32)))) := toJ_inr _
            have : ((xoJ ((muJ ((xoJ ((muJ ((xoJ (x91_6) ((usJ (x91_6) (33))))) ((-4417276706812531889)))) ((usJ ((muJ ((xoJ (x91_6) ((usJ (x91_6) (33))))) ((-4417276706812531889)))) (29))))) (1609587929392839161))) ((usJ ((muJ ((xoJ ((muJ ((xoJ (x91_6) ((usJ (x91_6) (33))))) ((-4417276706812531889)))) ((usJ ((muJ ((xoJ (x91_6) ((usJ (x91_6) (33))))) ((-4417276706812531889)))) (29))))) (1609587929392839161))) (32))))) = WRS ((w0)) ((a2)) ((a3)) ((a4)) := WRI1_e j91_q (by omega)
            exact w_lreturn rfl (k ((xoJ ((muJ ((xoJ ((muJ ((xoJ (x91_6) ((usJ (x91_6) (33))))) ((-4417276706812531889)))) ((usJ ((muJ ((xoJ (x91_6) ((usJ (x91_6) (33))))) ((-4417276706812531889)))) (29))))) (1609587929392839161))) ((usJ ((muJ ((xoJ ((muJ ((xoJ (x91_6) ((usJ (x91_6) (33))))) ((-4417276706812531889)))) ((usJ ((muJ ((xoJ (x91_6) ((usJ (x91_6) (33))))) ((-4417276706812531889)))) (29))))) (1609587929392839161))) (32))))) _ _ _ H O (cF_91) (cA_91) (show inrJ ((xoJ ((muJ ((xoJ ((muJ ((xoJ (x91_6) ((usJ (x91_6) (33))))) ((-4417276706812531889)))) ((usJ ((muJ ((xoJ (x91_6) ((usJ (x91_6) (33))))) ((-4417276706812531889)))) (29))))) (1609587929392839161))) ((usJ ((muJ ((xoJ ((muJ ((xoJ (x91_6) ((usJ (x91_6) (33))))) ((-4417276706812531889)))) ((usJ ((muJ ((xoJ (x91_6) ((usJ (x91_6) (33))))) ((-4417276706812531889)))) (29))))) (1609587929392839161))) (32))))) from g32) (show ((xoJ ((muJ ((xoJ ((muJ ((xoJ (x91_6) ((usJ (x91_6) (33))))) ((-4417276706812531889)))) ((usJ ((muJ ((xoJ (x91_6) ((usJ (x91_6) (33))))) ((-4417276706812531889)))) (29))))) (1609587929392839161))) ((usJ ((muJ ((xoJ ((muJ ((xoJ (x91_6) ((usJ (x91_6) (33))))) ((-4417276706812531889)))) ((usJ ((muJ ((xoJ (x91_6) ((usJ (x91_6) (33))))) ((-4417276706812531889)))) (29))))) (1609587929392839161))) (32))))) = WRS ((w0)) (a2) (a3) (a4) by assumption))
          · refine Ew_of (pcₚ := 99) (fun _ => x_lload rfl l91_6) ?_
            refine Ew_of (pcₚ := 100) (fun _ => x_aload_n rfl l91_0) ?_
            refine Ew_of (pcₚ := 102) (fun _ => x_iload rfl l91_5) ?_
            refine v_lB H (o := 0) rfl rfl rfl rfl (n := n0) (en0) (show 0 ≤ x91_5 ∧ x91_5 < n0 from q_2968 b24 h3 j91_2) (fun v33 ev33 qv33 => ?_)
            have ev33 : (w0) (x91_5) = v33 := (congrFun ((funext (mA_91 0 rfl)).trans (ew0)) (x91_5)).symm.trans ev33
            have hvb := ev33
            refine Ew_of (pcₚ := 106) (fun _ => x_sipush (z := 255) rfl (by decide)) ?_
            refine v_and255 rfl ?_
            refine w_i2l rfl (show inr ((v33 % 256)) from q_461) ?_
            refine Ew_of (pcₚ := 111) (fun _ => x_ldc2 (z := 2870177450012600261) rfl (by decide)) ?_
            refine w_lmulE rfl ?_
            have g34 : inrJ (muJ ((v33 % 256)) (2870177450012600261)) := toJ_inr _
            refine w_lxorE rfl ?_
            have g35 : inrJ (xoJ (x91_6) ((muJ ((v33 % 256)) (2870177450012600261)))) := toJ_inr _
            refine Ew_of (pcₚ := 115) (fun _ => x_bipush (z := 11) rfl (by decide)) ?_
            refine w_stat24 rfl rfl (by rfl) (C47 (D := puc 0 D) (N := puc 0 N) (HW_subc H oz_B4cls_14 oz_B4cls_12) (show inrJ ((xoJ (x91_6) ((muJ ((v33 % 256)) (2870177450012600261))))) from g35) (show inr (11) from q_326) (show 0 ≤ (11) ∧ (11) ≤ 64 from q_824) (fun z36 σ36 F36ₚ A36ₚ Hₚ Oₚ hS36 hA36 pz36_0 pz36_1 => ⟨rfl, ?_⟩))
            refine v_backc (c := c) (s := s) H oz_B4cls_14 oz_B4cls_12 Hₚ Oₚ (fun F36 A36 H Oₚ eF36 eA36 => ?_)
            have O := OUT_trans O Oₚ
            -- PackHouse.rotated
            have cF36 : SF oz_B4clsl_0 F F36 := SF_trans (cF_91) (SF_gluc (ι := oz_B4clsl_1) oz_B4cls_12 hS36 eF36 (by decide +kernel)) (any_sub (lₚ := []) (by decide +kernel))
            have mF36 := SFm_of cF36 oz_B4cls_2
            have cA36 : SA oz_B4clsl_1 A A36 := SA_trans (cA_91) (SA_gluc (ι := oz_B4clsl_1) oz_B4cls_12 hA36 eA36 (by decide +kernel)) (any_subA (lₚ := []) (by decide +kernel))
            have mA36 := SAm_of cA36 oz_B4cls_3
            have r1_ := pz36_1
            refine Ew_of (pcₚ := 121) (fun _ => x_ldc2 (z := -7046029288634856825) rfl (by decide)) ?_
            refine w_lmulE rfl ?_
            have g37 : inrJ (muJ (z36) ((-7046029288634856825))) := toJ_inr _
            refine Ew_of (pcₚ := 124) (fun _ => x_lstore rfl) ?_
            refine Ew_of (pcₚ := 127) (fun _ => x_iinc (len := 3) rfl (rk2_o (l91_5) rfl rfl)) ?_
            refine Ew_of (pcₚ := 91) (fun _ => x_goto rfl rfl) ?_
            have : WRI1 ((w0)) ((a2)) ((a3)) ((a4)) (((x91_5 + 1))) (((muJ (z36) ((-7046029288634856825))))) := WRI1_s j91_q (by omega) (w1_c hvb r1_) (by omega)
            exact ih91 _ (msE hm91 q_16 (q_17 b24)) _ _ _ _ ((x91_5 + 1)) ((muJ (z36) ((-7046029288634856825)))) (rk_o (rk2_o (l91_0) rfl rfl) rfl rfl) (rk_o (rk2_o (l91_2) rfl rfl) rfl rfl) (rk_s) (rk_o (rk2_s) rfl rfl) H O (SF_trans (hS_91) (SF_gluc (ι := oz_B4clsl_1) oz_B4cls_12 hS36 eF36 (by decide +kernel)) (any_sub (lₚ := []) (by decide +kernel))) (SA_trans (hA_91) (SA_gluc (ι := oz_B4clsl_1) oz_B4cls_12 hA36 eA36 (by decide +kernel)) (any_subA (lₚ := []) (by decide +kernel)))     (show inr ((x91_5 + 1)) from q_2929 b24 h3 j91_0 r1) (show inrJ ((muJ (z36) ((-7046029288634856825)))) from g37) (show (a2) ≤ ((x91_5 + 1)) ∧ ((x91_5 + 1)) ≤ (a3) from q_1503 b24 j91_2) (show WRI1 ((w0)) ((a2)) ((a3)) ((a4)) (((x91_5 + 1))) (((muJ (z36) ((-7046029288634856825))))) by assumption) rfl
    · refine Ew_of (pcₚ := 17) (fun _ => x_lload rfl l6_6) ?_
      refine Ew_of (pcₚ := 18) (fun _ => x_lconst (z := 0) rfl (by decide)) ?_
      refine Ew_of (pcₚ := 19) (fun _ => x_aload_n rfl l6_0) ?_
      refine Ew_of (pcₚ := 21) (fun _ => x_iload rfl l6_5) ?_
      refine Ew_of (pcₚ := 23) (fun _ => x_bipush (z := 8) rfl (by decide)) ?_
      refine w_stat24 rfl rfl (by rfl) (C42_Br (D := puc 0 D) (N := puc 0 N) (HW_subc H oz_B4cls_15 oz_B4cls_4) (n0) (en0) (w0) ((funext (mA_6 0 rfl)).trans (ew0)) (show inr (x6_5) from j6_0) (show inr (8) from q_141) (show (8) ≤ 0 ∨ 0 ≤ (x6_5) ∧ (x6_5) + (8) ≤ (n0) from q_2983 b2 h3 j6_2) (show 0 ≤ (8) ∧ (8) ≤ 8 from q_669) (fun z38 σ38 F38ₚ A38ₚ Hₚ Oₚ hS38 hA38 pz38_0 pz38_1 pz38_2 => ⟨rfl, ?_⟩))
      refine v_backc (c := c) (s := s) H oz_B4cls_15 oz_B4cls_4 Hₚ Oₚ (fun F38 A38 H Oₚ eF38 eA38 => ?_)
      have O := OUT_trans O Oₚ
      -- PackHouse.number
      have cF38 : SF oz_B4clsl_0 F F38 := SF_trans (cF_6) (SF_gluc (ι := oz_B4clsl_2) oz_B4cls_4 hS38 eF38 (by decide +kernel)) (any_sub (lₚ := []) (by decide +kernel))
      have mF38 := SFm_of cF38 oz_B4cls_2
      have cA38 : SA oz_B4clsl_1 A A38 := SA_trans (cA_6) (SA_gluc (ι := oz_B4clsl_2) oz_B4cls_4 hA38 eA38 (by decide +kernel)) (any_subA (lₚ := []) (by decide +kernel))
      have mA38 := SAm_of cA38 oz_B4cls_3
      have n8_ := nmb_8 pz38_2 pz38_0
      refine w_stat24 rfl rfl (by rfl) (C50 (D := puc 0 D) (N := puc 0 N) (HW_subc H oz_B4cls_16 oz_B4cls_12) (show inrJ (0) from q_340) (show inrJ (z38) from pz38_0) (fun z39 σ39 F39ₚ A39ₚ Hₚ Oₚ hS39 hA39 pz39_0 pz39_1 => ⟨rfl, ?_⟩))
      refine v_backc (c := c) (s := s) H oz_B4cls_16 oz_B4cls_12 Hₚ Oₚ (fun F39 A39 H Oₚ eF39 eA39 => ?_)
      have O := OUT_trans O Oₚ
      -- PackHouse.wideLane
      have cF39 : SF oz_B4clsl_0 F F39 := SF_trans (cF38) (SF_gluc (ι := oz_B4clsl_1) oz_B4cls_12 hS39 eF39 (by decide +kernel)) (any_sub (lₚ := []) (by decide +kernel))
      have mF39 := SFm_of cF39 oz_B4cls_2
      have cA39 : SA oz_B4clsl_1 A A39 := SA_trans (cA38) (SA_gluc (ι := oz_B4clsl_1) oz_B4cls_12 hA39 eA39 (by decide +kernel)) (any_subA (lₚ := []) (by decide +kernel))
      have mA39 := SAm_of cA39 oz_B4cls_3
      have z8_ := pz39_1
      refine w_lxorE rfl ?_
      have g40 : inrJ (xoJ (x6_6) (z39)) := toJ_inr _
      refine Ew_of (pcₚ := 32) (fun _ => x_bipush (z := 27) rfl (by decide)) ?_
      refine w_stat24 rfl rfl (by rfl) (C47 (D := puc 0 D) (N := puc 0 N) (HW_subc H oz_B4cls_14 oz_B4cls_12) (show inrJ ((xoJ (x6_6) (z39))) from g40) (show inr (27) from q_831) (show 0 ≤ (27) ∧ (27) ≤ 64 from q_830) (fun z41 σ41 F41ₚ A41ₚ Hₚ Oₚ hS41 hA41 pz41_0 pz41_1 => ⟨rfl, ?_⟩))
      refine v_backc (c := c) (s := s) H oz_B4cls_14 oz_B4cls_12 Hₚ Oₚ (fun F41 A41 H Oₚ eF41 eA41 => ?_)
      have O := OUT_trans O Oₚ
      -- PackHouse.rotated
      have cF41 : SF oz_B4clsl_0 F F41 := SF_trans (cF39) (SF_gluc (ι := oz_B4clsl_1) oz_B4cls_12 hS41 eF41 (by decide +kernel)) (any_sub (lₚ := []) (by decide +kernel))
      have mF41 := SFm_of cF41 oz_B4cls_2
      have cA41 : SA oz_B4clsl_1 A A41 := SA_trans (cA39) (SA_gluc (ι := oz_B4clsl_1) oz_B4cls_12 hA41 eA41 (by decide +kernel)) (any_subA (lₚ := []) (by decide +kernel))
      have mA41 := SAm_of cA41 oz_B4cls_3
      have r8_ := pz41_1
      refine Ew_of (pcₚ := 38) (fun _ => x_ldc2 (z := -7046029288634856825) rfl (by decide)) ?_
      refine w_lmulE rfl ?_
      have g42 : inrJ (muJ (z41) ((-7046029288634856825))) := toJ_inr _
      refine Ew_of (pcₚ := 42) (fun _ => x_ldc2 (z := -8796714831421723037) rfl (by decide)) ?_
      refine w_laddE rfl ?_
      have g43 : inrJ (adJ ((muJ (z41) ((-7046029288634856825)))) ((-8796714831421723037))) := toJ_inr _
      refine Ew_of (pcₚ := 45) (fun _ => x_lstore rfl) ?_
      refine Ew_of (pcₚ := 48) (fun _ => x_iinc (len := 3) rfl (rk2_o (l6_5) rfl rfl)) ?_
      refine Ew_of (pcₚ := 6) (fun _ => x_goto rfl rfl) ?_
      have : WRI8 ((w0)) ((a2)) ((a3)) ((a4)) (((x6_5 + 8))) (((adJ ((muJ (z41) ((-7046029288634856825)))) ((-8796714831421723037))))) := WRI8_s j6_q (by omega) (w8_c n8_ z8_ r8_) (by omega)
      exact ih6 _ (msE hm6 q_1504 (q_1505 b2)) _ _ _ _ ((x6_5 + 8)) ((adJ ((muJ (z41) ((-7046029288634856825)))) ((-8796714831421723037)))) (rk_o (rk2_o (l6_0) rfl rfl) rfl rfl) (rk_o (rk2_o (l6_2) rfl rfl) rfl rfl) (rk_s) (rk_o (rk2_s) rfl rfl) H O (SF_trans (SF_trans (SF_trans (hS_6) (SF_gluc (ι := oz_B4clsl_2) oz_B4cls_4 hS38 eF38 (by decide +kernel)) (any_sub (lₚ := []) (by decide +kernel))) (SF_gluc (ι := oz_B4clsl_1) oz_B4cls_12 hS39 eF39 (by decide +kernel)) (any_sub (lₚ := []) (by decide +kernel))) (SF_gluc (ι := oz_B4clsl_1) oz_B4cls_12 hS41 eF41 (by decide +kernel)) (any_sub (lₚ := []) (by decide +kernel))) (SA_trans (SA_trans (SA_trans (hA_6) (SA_gluc (ι := oz_B4clsl_2) oz_B4cls_4 hA38 eA38 (by decide +kernel)) (any_subA (lₚ := []) (by decide +kernel))) (SA_gluc (ι := oz_B4clsl_1) oz_B4cls_12 hA39 eA39 (by decide +kernel)) (any_subA (lₚ := []) (by decide +kernel))) (SA_gluc (ι := oz_B4clsl_1) oz_B4cls_12 hA41 eA41 (by decide +kernel)) (any_subA (lₚ := []) (by decide +kernel)))     (show inr ((x6_5 + 8)) from q_2984 b2 h3 j6_0 r1) (show inrJ ((adJ ((muJ (z41) ((-7046029288634856825)))) ((-8796714831421723037)))) from g43) (show (a2) ≤ ((x6_5 + 8)) ∧ ((x6_5 + 8)) ≤ (a3) from q_833 b2 j6_2) (show WRI8 ((w0)) ((a2)) ((a3)) ((a4)) (((x6_5 + 8))) (((adJ ((muJ (z41) ((-7046029288634856825)))) ((-8796714831421723037))))) by assumption) rfl
abbrev V51_Br : vV := [(1, 0, [])]
theorem len_V51_Br_oz_B4cls : (V51_Br).length = 1 := by decide +kernel
theorem oz_B4cls_18 : vsub V51_Br V52_Br [0] = true := by decide +kernel
theorem oz_B4cls_19 : vsub V51_Br V47 [] = true := by decide +kernel
theorem oz_B4cls_20 : vsub V51_Br V50 [] = true := by decide +kernel
theorem oz_B4cls_21 : vsub V51_Br V42_Br [0] = true := by decide +kernel

theorem C51_Br {σE : rS} {D N : Nat → Nat} {F : hF} {A : hA} {d c s : Nat} {Q : wQ} (H : HW V51_Br σE D N F A) {a2 a3 a4 : Int} (n0 : Int) (en0 : (N 0 : Int) = n0) (w0 : Int → Int) (ew0 : A 0 = w0) (h0 : inr (a2)) (h1 : inr (a3)) (h2 : inrJ (a4)) (h3 : 0 ≤ (a2) ∧ (a2) ≤ (a3) ∧ (a3) ≤ (n0)) (k : ∀ (z : Int) (σ : rS) (Fₚ : hF) (Aₚ : hA), HW V51_Br σ D N Fₚ Aₚ → OUT (V51_Br).length D N σE c s D N σ c s → SF [] F Fₚ → SA [] A Aₚ → (inrJ (z)) → ((z) = WDS ((w0)) ((a2)) ((a3) - (a2)) ((a4))) → Q (some (J z)) σ c s) : Ew 51 (d + 3) 0 (rargs 0 [.ref (D 0), I a2, I a3, J a4]) [] σE c s Q := by
  have O := OUT_refl (n := (V51_Br).length) (D := D) (N := N) (σ := σE) (c := c) (s := s)
  have HE := H
  have r1 : (0 : Int) ≤ n0 ∧ n0 ≤ 1000000 := nleE (H.nle 0 (ltn len_V51_Br_oz_B4cls rfl)) (show (N 0 : Int) = n0 from en0)
  refine Ew_of (pcₚ := 1) (fun _ => x_iload_n rfl rfl) ?_
  refine Ew_of (pcₚ := 3) (fun _ => x_istore rfl) ?_
  refine Ew_of (pcₚ := 4) (fun _ => x_lload_n rfl (rk_o (rfl) rfl rfl)) ?_
  refine Ew_of (pcₚ := 7) (fun _ => x_ldc2 (z := 2870177450012600261) rfl (by decide)) ?_
  refine w_laddE rfl ?_
  have g2 : inrJ (adJ (a4) (2870177450012600261)) := toJ_inr _
  refine Ew_of (pcₚ := 10) (fun _ => x_lstore rfl) ?_
  have hc238 : ∀ (ls : rO) (σ : rS) (F_c238 : hF) (A_c238 : hA) (xc238_5 : Int) (xc238_6 : Int), rlook ls 0 = some (.ref (D 0)) → rlook ls 1 = some (I (a2)) → rlook ls 2 = some (I (a3)) → rlook ls 5 = some (I (xc238_5)) → rlook ls 6 = some (J (xc238_6)) → HW V51_Br σ D N F_c238 A_c238 → OUT (V51_Br).length D N σE c s D N σ c s → SF [] F F_c238 → SA [] A A_c238 → (inr (xc238_5)) → (inrJ (xc238_6)) → ((a2) ≤ (xc238_5) ∧ (xc238_5) ≤ (a3)) → (WS1 ((w0)) ((a2)) ((a3) - (a2)) ((a4)) ((xc238_5)) ((xc238_6))) → Ew 51 (d + 3) 238 ls [] σ c s Q := by
   as_aux_lemma =>
    intro  ls σ F_c238 A_c238 xc238_5 xc238_6 lc238_0 lc238_1 lc238_2 lc238_5 lc238_6 H O hS_c238 hA_c238     jc238_0 jc238_1 jc238_2 jc238_3
    have cF_c238 : SF oz_B4clsl_0 F F_c238 := SF_trans (SF_refl) hS_c238 (any_sub (by decide +kernel))
    have mF_c238 := SFm_of cF_c238 oz_B4cls_2
    have cA_c238 : SA oz_B4clsl_1 A A_c238 := SA_trans (SA_refl) hA_c238 (any_subA (by decide +kernel))
    have mA_c238 := SAm_of cA_c238 oz_B4cls_3
    have hc1 : WS1 ((w0)) ((a2)) ((a3) - (a2)) ((a4)) ((xc238_5)) ((xc238_6)) := jc238_3
    refine Ew_of (pcₚ := 239) (fun _ => x_aload_n rfl lc238_0) ?_
    refine Ew_of (pcₚ := 241) (fun _ => x_iload rfl lc238_5) ?_
    refine Ew_of (pcₚ := 242) (fun _ => x_iload_n rfl lc238_2) ?_
    refine Ew_of (pcₚ := 244) (fun _ => x_lload rfl lc238_6) ?_
    refine Ew_of (pcₚ := 245) (fun _ => x_iload_n rfl lc238_2) ?_
    refine Ew_of (pcₚ := 246) (fun _ => x_iload_n rfl lc238_1) ?_
    refine w_isub rfl ?_
    refine w_i2l rfl (show inr ((a3 - a2)) from q_2769 h1 h3) ?_
    refine w_laddE rfl ?_
    have g3 : inrJ (adJ (xc238_6) ((a3 - a2))) := toJ_inr _
    refine w_stat24 rfl rfl (by rfl) (C52_Br (D := puc 0 D) (N := puc 0 N) (HW_subc H oz_B4cls_18 oz_B4cls_4) (n0) (en0) (w0) ((funext (mA_c238 0 rfl)).trans (ew0)) (show inr (xc238_5) from jc238_0) (show inr (a3) from h1) (show inrJ ((adJ (xc238_6) ((a3 - a2)))) from g3) (show 0 ≤ (xc238_5) ∧ (xc238_5) ≤ (a3) ∧ (a3) ≤ (n0) from q_2985 h3 jc238_2) (fun z4 σ4 F4ₚ A4ₚ Hₚ Oₚ hS4 hA4 pz4_0 pz4_1 => ⟨rfl, ?_⟩))
    refine v_backc (c := c) (s := s) H oz_B4cls_18 oz_B4cls_4 Hₚ Oₚ (fun F4 A4 H Oₚ eF4 eA4 => ?_)
    have O := OUT_trans O Oₚ
    -- PackHouse.wideRest
    have cF4 : SF oz_B4clsl_0 F F4 := SF_trans (cF_c238) (SF_gluc (ι := oz_B4clsl_2) oz_B4cls_4 hS4 eF4 (by decide +kernel)) (any_sub (lₚ := []) (by decide +kernel))
    have mF4 := SFm_of cF4 oz_B4cls_2
    have cA4 : SA oz_B4clsl_1 A A4 := SA_trans (cA_c238) (SA_gluc (ι := oz_B4clsl_2) oz_B4cls_4 hA4 eA4 (by decide +kernel)) (any_subA (lₚ := []) (by decide +kernel))
    have mA4 := SAm_of cA4 oz_B4cls_3
    have : (z4) = WDS ((w0)) ((a2)) ((a3) - (a2)) ((a4)) := WDS_of hc1 pz4_1 (by omega)
    exact w_lreturn rfl (k (z4) _ _ _ H O (cF4) (cA4) (show inrJ (z4) from pz4_0) (show (z4) = WDS ((w0)) (a2) (a3 - a2) (a4) by assumption))
  refine Ew_of (pcₚ := 11) (fun _ => x_iload_n rfl (rk2_o (rk_o (rfl) rfl rfl) rfl rfl)) ?_
  refine Ew_of (pcₚ := 12) (fun _ => x_iload_n rfl (rk2_o (rk_o (rfl) rfl rfl) rfl rfl)) ?_
  refine w_isub rfl ?_
  refine Ew_of (pcₚ := 15) (fun _ => x_bipush (z := 32) rfl (by decide)) ?_
  refine w_icmplt (t := 238) rfl rfl (show inr ((a3 - a2)) from q_2769 h1 h3) (show inr (32) from q_655) (fun b5 => ?_) (fun b5 => ?_)
  · have : WS1 ((w0)) ((a2)) ((a3) - (a2)) ((a4)) ((a2)) (((adJ (a4) (2870177450012600261)))) := by first | exact WS1_n (by omega) (by omega) (by omega) (by rfl) | exact WS1_y (by omega) (by omega) (j46_0.trans (wLn_0 (by omega))) (j46_1.trans (wLn_0 (by omega))) (j46_2.trans (wLn_0 (by omega))) (j46_3.trans (wLn_0 (by omega))) r1_ r2_ r3_ r4_ i1_ i2_ i3_ i4_
    exact hc238  _ _ _ _ (a2) ((adJ (a4) (2870177450012600261))) (rk2_o (rk_o (rfl) rfl rfl) rfl rfl) (rk2_o (rk_o (rfl) rfl rfl) rfl rfl) (rk2_o (rk_o (rfl) rfl rfl) rfl rfl) (rk2_o (rk_s) rfl rfl) (rk2_s) H O (SF_refl) (SA_refl)     (show inr (a2) from h0) (show inrJ ((adJ (a4) (2870177450012600261))) from g2) (show (a2) ≤ (a2) ∧ (a2) ≤ (a3) from q_2760 h3) (show WS1 ((w0)) ((a2)) ((a3) - (a2)) ((a4)) ((a2)) (((adJ (a4) (2870177450012600261)))) by assumption)
  · refine Ew_of (pcₚ := 19) (fun _ => x_lload_n rfl (rk2_o (rk_o (rfl) rfl rfl) rfl rfl)) ?_
    refine Ew_of (pcₚ := 22) (fun _ => x_ldc2 (z := -7046029288634856825) rfl (by decide)) ?_
    refine w_laddE rfl ?_
    have g6 : inrJ (adJ (a4) ((-7046029288634856825))) := toJ_inr _
    refine Ew_of (pcₚ := 26) (fun _ => x_ldc2 (z := -4417276706812531889) rfl (by decide)) ?_
    refine w_laddE rfl ?_
    have g7 : inrJ (adJ ((adJ (a4) ((-7046029288634856825)))) ((-4417276706812531889))) := toJ_inr _
    refine Ew_of (pcₚ := 29) (fun _ => x_lstore rfl) ?_
    refine Ew_of (pcₚ := 30) (fun _ => x_lload_n rfl (rk2_o (rk2_o (rk_o (rfl) rfl rfl) rfl rfl) rfl rfl)) ?_
    refine Ew_of (pcₚ := 33) (fun _ => x_ldc2 (z := -4417276706812531889) rfl (by decide)) ?_
    refine w_laddE rfl ?_
    have g8 : inrJ (adJ (a4) ((-4417276706812531889))) := toJ_inr _
    refine Ew_of (pcₚ := 36) (fun _ => x_lstore rfl) ?_
    refine Ew_of (pcₚ := 37) (fun _ => x_lload_n rfl (rk2_o (rk2_o (rk2_o (rk_o (rfl) rfl rfl) rfl rfl) rfl rfl) rfl rfl)) ?_
    refine Ew_of (pcₚ := 39) (fun _ => x_lstore rfl) ?_
    refine Ew_of (pcₚ := 40) (fun _ => x_lload_n rfl (rk2_o (rk2_o (rk2_o (rk2_o (rk_o (rfl) rfl rfl) rfl rfl) rfl rfl) rfl rfl) rfl rfl)) ?_
    refine Ew_of (pcₚ := 43) (fun _ => x_ldc2 (z := -7046029288634856825) rfl (by decide)) ?_
    refine w_lsubE rfl ?_
    have g9 : inrJ (sbJ (a4) ((-7046029288634856825))) := toJ_inr _
    refine Ew_of (pcₚ := 46) (fun _ => x_lstore rfl) ?_
    have : wLn ((w0)) ((a2)) (((a3) - (a2)) / 32).toNat (adJ (adJ ((a4)) (-7046029288634856825)) (-4417276706812531889)) = wLn ((w0)) ((a2)) (((a3) - (a2)) / 32).toNat (adJ (adJ ((a4)) (-7046029288634856825)) (-4417276706812531889)) := rfl
    have : wLn ((w0)) ((a2) + 8) (((a3) - (a2)) / 32).toNat (adJ ((a4)) (-4417276706812531889)) = wLn ((w0)) ((a2) + 8) (((a3) - (a2)) / 32).toNat (adJ ((a4)) (-4417276706812531889)) := rfl
    have : wLn ((w0)) ((a2) + 16) (((a3) - (a2)) / 32).toNat ((a4)) = wLn ((w0)) ((a2) + 16) (((a3) - (a2)) / 32).toNat ((a4)) := rfl
    have : wLn ((w0)) ((a2) + 24) (((a3) - (a2)) / 32).toNat (sbJ ((a4)) (-7046029288634856825)) = wLn ((w0)) ((a2) + 24) (((a3) - (a2)) / 32).toNat (sbJ ((a4)) (-7046029288634856825)) := rfl
    suffices hl46 : ∀ (m : Nat), ∀ (ls : rO) (σ : rS) (F_46 : hF) (A_46 : hA) (x46_5 : Int) (x46_8 : Int) (x46_10 : Int) (x46_12 : Int) (x46_14 : Int), rlook ls 0 = some (.ref (D 0)) → rlook ls 1 = some (I (a2)) → rlook ls 2 = some (I (a3)) → rlook ls 5 = some (I (x46_5)) → rlook ls 8 = some (J (x46_8)) → rlook ls 10 = some (J (x46_10)) → rlook ls 12 = some (J (x46_12)) → rlook ls 14 = some (J (x46_14)) → HW V51_Br σ D N F_46 A_46 → OUT (V51_Br).length D N σE c s D N σ c s → SF [] F F_46 → SA [] A A_46 → (inr (x46_5)) → (inrJ (x46_8)) → (inrJ (x46_10)) → (inrJ (x46_12)) → (inrJ (x46_14)) → ((a2) ≤ (x46_5) ∧ (x46_5) ≤ (a3)) → (((x46_5) - (a2)) % 32 = 0) → (wLn ((w0)) ((a2)) (((a3) - (a2)) / 32).toNat (adJ (adJ ((a4)) (-7046029288634856825)) (-4417276706812531889)) = wLn ((w0)) ((x46_5)) (((a3) - (x46_5)) / 32).toNat ((x46_8))) → (wLn ((w0)) ((a2) + 8) (((a3) - (a2)) / 32).toNat (adJ ((a4)) (-4417276706812531889)) = wLn ((w0)) ((x46_5) + 8) (((a3) - (x46_5)) / 32).toNat ((x46_10))) → (wLn ((w0)) ((a2) + 16) (((a3) - (a2)) / 32).toNat ((a4)) = wLn ((w0)) ((x46_5) + 16) (((a3) - (x46_5)) / 32).toNat ((x46_12))) → (wLn ((w0)) ((a2) + 24) (((a3) - (a2)) / 32).toNat (sbJ ((a4)) (-7046029288634856825)) = wLn ((w0)) ((x46_5) + 24) (((a3) - (x46_5)) / 32).toNat ((x46_14))) → ((a3) - (x46_5)).toNat = m → Ew 51 (d + 3) 46 ls [] σ c s Q from
      hl46 _ _ _ _ _ (a2) ((adJ ((adJ (a4) ((-7046029288634856825)))) ((-4417276706812531889)))) ((adJ (a4) ((-4417276706812531889)))) (a4) ((sbJ (a4) ((-7046029288634856825)))) (rk2_o (rk2_o (rk2_o (rk2_o (rk2_o (rk_o (rfl) rfl rfl) rfl rfl) rfl rfl) rfl rfl) rfl rfl) rfl rfl) (rk2_o (rk2_o (rk2_o (rk2_o (rk2_o (rk_o (rfl) rfl rfl) rfl rfl) rfl rfl) rfl rfl) rfl rfl) rfl rfl) (rk2_o (rk2_o (rk2_o (rk2_o (rk2_o (rk_o (rfl) rfl rfl) rfl rfl) rfl rfl) rfl rfl) rfl rfl) rfl rfl) (rk2_o (rk2_o (rk2_o (rk2_o (rk2_o (rk_s) rfl rfl) rfl rfl) rfl rfl) rfl rfl) rfl rfl) (rk2_o (rk2_o (rk2_o (rk2_s) rfl rfl) rfl rfl) rfl rfl) (rk2_o (rk2_o (rk2_s) rfl rfl) rfl rfl) (rk2_o (rk2_s) rfl rfl) (rk2_s) H O (SF_refl) (SA_refl)     (show inr (a2) from h0) (show inrJ ((adJ ((adJ (a4) ((-7046029288634856825)))) ((-4417276706812531889)))) from g7) (show inrJ ((adJ (a4) ((-4417276706812531889)))) from g8) (show inrJ (a4) from h2) (show inrJ ((sbJ (a4) ((-7046029288634856825)))) from g9) (show (a2) ≤ (a2) ∧ (a2) ≤ (a3) from q_2760 h3) (show ((a2) - (a2)) % 32 = 0 by omega) (show wLn ((w0)) ((a2)) (((a3) - (a2)) / 32).toNat (adJ (adJ ((a4)) (-7046029288634856825)) (-4417276706812531889)) = wLn ((w0)) ((a2)) (((a3) - (a2)) / 32).toNat (((adJ ((adJ (a4) ((-7046029288634856825)))) ((-4417276706812531889))))) by assumption) (show wLn ((w0)) ((a2) + 8) (((a3) - (a2)) / 32).toNat (adJ ((a4)) (-4417276706812531889)) = wLn ((w0)) ((a2) + 8) (((a3) - (a2)) / 32).toNat (((adJ (a4) ((-4417276706812531889))))) by assumption) (show wLn ((w0)) ((a2) + 16) (((a3) - (a2)) / 32).toNat ((a4)) = wLn ((w0)) ((a2) + 16) (((a3) - (a2)) / 32).toNat ((a4)) by assumption) (show wLn ((w0)) ((a2) + 24) (((a3) - (a2)) / 32).toNat (sbJ ((a4)) (-7046029288634856825)) = wLn ((w0)) ((a2) + 24) (((a3) - (a2)) / 32).toNat (((sbJ (a4) ((-7046029288634856825))))) by assumption) rfl
    as_aux_lemma =>
    intro m
    induction m using Nat.strongRecOn with
    | _ m ih46 =>
      intro ls σ F_46 A_46 x46_5 x46_8 x46_10 x46_12 x46_14 l46_0 l46_1 l46_2 l46_5 l46_8 l46_10 l46_12 l46_14 H O hS_46 hA_46     j46_0 j46_1 j46_2 j46_3 j46_4 j46_5 j46_6 j46_7 j46_8 j46_9 j46_10 hm46
      have cF_46 : SF oz_B4clsl_0 F F_46 := SF_trans (SF_refl) hS_46 (any_sub (by decide +kernel))
      have mF_46 := SFm_of cF_46 oz_B4cls_2
      have cA_46 : SA oz_B4clsl_1 A A_46 := SA_trans (SA_refl) hA_46 (any_subA (by decide +kernel))
      have mA_46 := SAm_of cA_46 oz_B4cls_3
      have j46_0 : wLn ((w0)) ((a2)) (((a3) - (a2)) / 32).toNat (adJ (adJ ((a4)) (-7046029288634856825)) (-4417276706812531889)) = wLn ((w0)) ((x46_5)) (((a3) - (x46_5)) / 32).toNat ((x46_8)) := by assumption
      have j46_1 : wLn ((w0)) ((a2) + 8) (((a3) - (a2)) / 32).toNat (adJ ((a4)) (-4417276706812531889)) = wLn ((w0)) ((x46_5) + 8) (((a3) - (x46_5)) / 32).toNat ((x46_10)) := by assumption
      have j46_2 : wLn ((w0)) ((a2) + 16) (((a3) - (a2)) / 32).toNat ((a4)) = wLn ((w0)) ((x46_5) + 16) (((a3) - (x46_5)) / 32).toNat ((x46_12)) := by assumption
      have j46_3 : wLn ((w0)) ((a2) + 24) (((a3) - (a2)) / 32).toNat (sbJ ((a4)) (-7046029288634856825)) = wLn ((w0)) ((x46_5) + 24) (((a3) - (x46_5)) / 32).toNat ((x46_14)) := by assumption
      refine Ew_of (pcₚ := 47) (fun _ => x_iload_n rfl l46_2) ?_
      refine Ew_of (pcₚ := 49) (fun _ => x_iload rfl l46_5) ?_
      refine w_isub rfl ?_
      refine Ew_of (pcₚ := 52) (fun _ => x_bipush (z := 32) rfl (by decide)) ?_
      refine w_icmplt (t := 130) rfl rfl (show inr ((a3 - x46_5)) from q_2967 h1 h3 j46_5) (show inr (32) from q_655) (fun b10 => ?_) (fun b10 => ?_)
      · refine Ew_of (pcₚ := 132) (fun _ => x_lload rfl l46_8) ?_
        refine Ew_of (pcₚ := 133) (fun _ => x_iconst rfl) ?_
        refine w_stat24 rfl rfl (by rfl) (C47 (D := puc 0 D) (N := puc 0 N) (HW_subc H oz_B4cls_19 oz_B4cls_12) (show inrJ (x46_8) by omega) (show inr (1) from q_135) (show 0 ≤ (1) ∧ (1) ≤ 64 from q_800) (fun z11 σ11 F11ₚ A11ₚ Hₚ Oₚ hS11 hA11 pz11_0 pz11_1 => ⟨rfl, ?_⟩))
        refine v_backc (c := c) (s := s) H oz_B4cls_19 oz_B4cls_12 Hₚ Oₚ (fun F11 A11 H Oₚ eF11 eA11 => ?_)
        have O := OUT_trans O Oₚ
        -- PackHouse.rotated
        have cF11 : SF oz_B4clsl_0 F F11 := SF_trans (cF_46) (SF_gluc (ι := oz_B4clsl_1) oz_B4cls_12 hS11 eF11 (by decide +kernel)) (any_sub (lₚ := []) (by decide +kernel))
        have mF11 := SFm_of cF11 oz_B4cls_2
        have cA11 : SA oz_B4clsl_1 A A11 := SA_trans (cA_46) (SA_gluc (ι := oz_B4clsl_1) oz_B4cls_12 hA11 eA11 (by decide +kernel)) (any_subA (lₚ := []) (by decide +kernel))
        have mA11 := SAm_of cA11 oz_B4cls_3
        have r1_ := pz11_1
        refine Ew_of (pcₚ := 138) (fun _ => x_lload rfl l46_10) ?_
        refine Ew_of (pcₚ := 140) (fun _ => x_bipush (z := 7) rfl (by decide)) ?_
        refine w_stat24 rfl rfl (by rfl) (C47 (D := puc 0 D) (N := puc 0 N) (HW_subc H oz_B4cls_19 oz_B4cls_12) (show inrJ (x46_10) by omega) (show inr (7) from q_597) (show 0 ≤ (7) ∧ (7) ≤ 64 from q_801) (fun z12 σ12 F12ₚ A12ₚ Hₚ Oₚ hS12 hA12 pz12_0 pz12_1 => ⟨rfl, ?_⟩))
        refine v_backc (c := c) (s := s) H oz_B4cls_19 oz_B4cls_12 Hₚ Oₚ (fun F12 A12 H Oₚ eF12 eA12 => ?_)
        have O := OUT_trans O Oₚ
        -- PackHouse.rotated
        have cF12 : SF oz_B4clsl_0 F F12 := SF_trans (cF11) (SF_gluc (ι := oz_B4clsl_1) oz_B4cls_12 hS12 eF12 (by decide +kernel)) (any_sub (lₚ := []) (by decide +kernel))
        have mF12 := SFm_of cF12 oz_B4cls_2
        have cA12 : SA oz_B4clsl_1 A A12 := SA_trans (cA11) (SA_gluc (ι := oz_B4clsl_1) oz_B4cls_12 hA12 eA12 (by decide +kernel)) (any_subA (lₚ := []) (by decide +kernel))
        have mA12 := SAm_of cA12 oz_B4cls_3
        have r2_ := pz12_1
        refine w_laddE rfl ?_
        have g13 : inrJ (adJ (z11) (z12)) := toJ_inr _
        refine Ew_of (pcₚ := 146) (fun _ => x_lload rfl l46_12) ?_
        refine Ew_of (pcₚ := 148) (fun _ => x_bipush (z := 12) rfl (by decide)) ?_
        refine w_stat24 rfl rfl (by rfl) (C47 (D := puc 0 D) (N := puc 0 N) (HW_subc H oz_B4cls_19 oz_B4cls_12) (show inrJ (x46_12) by omega) (show inr (12) from q_599) (show 0 ≤ (12) ∧ (12) ≤ 64 from q_802) (fun z14 σ14 F14ₚ A14ₚ Hₚ Oₚ hS14 hA14 pz14_0 pz14_1 => ⟨rfl, ?_⟩))
        refine v_backc (c := c) (s := s) H oz_B4cls_19 oz_B4cls_12 Hₚ Oₚ (fun F14 A14 H Oₚ eF14 eA14 => ?_)
        have O := OUT_trans O Oₚ
        -- PackHouse.rotated
        have cF14 : SF oz_B4clsl_0 F F14 := SF_trans (cF12) (SF_gluc (ι := oz_B4clsl_1) oz_B4cls_12 hS14 eF14 (by decide +kernel)) (any_sub (lₚ := []) (by decide +kernel))
        have mF14 := SFm_of cF14 oz_B4cls_2
        have cA14 : SA oz_B4clsl_1 A A14 := SA_trans (cA12) (SA_gluc (ι := oz_B4clsl_1) oz_B4cls_12 hA14 eA14 (by decide +kernel)) (any_subA (lₚ := []) (by decide +kernel))
        have mA14 := SAm_of cA14 oz_B4cls_3
        have r3_ := pz14_1
        refine w_laddE rfl ?_
        have g15 : inrJ (adJ ((adJ (z11) (z12))) (z14)) := toJ_inr _
        refine Ew_of (pcₚ := 154) (fun _ => x_lload rfl l46_14) ?_
        refine Ew_of (pcₚ := 156) (fun _ => x_bipush (z := 18) rfl (by decide)) ?_
        refine w_stat24 rfl rfl (by rfl) (C47 (D := puc 0 D) (N := puc 0 N) (HW_subc H oz_B4cls_19 oz_B4cls_12) (show inrJ (x46_14) from j46_4) (show inr (18) from q_601) (show 0 ≤ (18) ∧ (18) ≤ 64 from q_803) (fun z16 σ16 F16ₚ A16ₚ Hₚ Oₚ hS16 hA16 pz16_0 pz16_1 => ⟨rfl, ?_⟩))
        refine v_backc (c := c) (s := s) H oz_B4cls_19 oz_B4cls_12 Hₚ Oₚ (fun F16 A16 H Oₚ eF16 eA16 => ?_)
        have O := OUT_trans O Oₚ
        -- PackHouse.rotated
        have cF16 : SF oz_B4clsl_0 F F16 := SF_trans (cF14) (SF_gluc (ι := oz_B4clsl_1) oz_B4cls_12 hS16 eF16 (by decide +kernel)) (any_sub (lₚ := []) (by decide +kernel))
        have mF16 := SFm_of cF16 oz_B4cls_2
        have cA16 : SA oz_B4clsl_1 A A16 := SA_trans (cA14) (SA_gluc (ι := oz_B4clsl_1) oz_B4cls_12 hA16 eA16 (by decide +kernel)) (any_subA (lₚ := []) (by decide +kernel))
        have mA16 := SAm_of cA16 oz_B4cls_3
        have r4_ := pz16_1
        refine w_laddE rfl ?_
        have g17 : inrJ (adJ ((adJ ((adJ (z11) (z12))) (z14))) (z16)) := toJ_inr _
        refine Ew_of (pcₚ := 162) (fun _ => x_lstore rfl) ?_
        refine Ew_of (pcₚ := 164) (fun _ => x_lload rfl rk2_s) ?_
        refine Ew_of (pcₚ := 165) (fun _ => x_lconst (z := 0) rfl (by decide)) ?_
        refine Ew_of (pcₚ := 167) (fun _ => x_lload rfl (rk2_o (l46_8) rfl rfl)) ?_
        refine w_stat24 rfl rfl (by rfl) (C50 (D := puc 0 D) (N := puc 0 N) (HW_subc H oz_B4cls_20 oz_B4cls_12) (show inrJ (0) from q_340) (show inrJ (x46_8) by omega) (fun z18 σ18 F18ₚ A18ₚ Hₚ Oₚ hS18 hA18 pz18_0 pz18_1 => ⟨rfl, ?_⟩))
        refine v_backc (c := c) (s := s) H oz_B4cls_20 oz_B4cls_12 Hₚ Oₚ (fun F18 A18 H Oₚ eF18 eA18 => ?_)
        have O := OUT_trans O Oₚ
        -- PackHouse.wideLane
        have cF18 : SF oz_B4clsl_0 F F18 := SF_trans (cF16) (SF_gluc (ι := oz_B4clsl_1) oz_B4cls_12 hS18 eF18 (by decide +kernel)) (any_sub (lₚ := []) (by decide +kernel))
        have mF18 := SFm_of cF18 oz_B4cls_2
        have cA18 : SA oz_B4clsl_1 A A18 := SA_trans (cA16) (SA_gluc (ι := oz_B4clsl_1) oz_B4cls_12 hA18 eA18 (by decide +kernel)) (any_subA (lₚ := []) (by decide +kernel))
        have mA18 := SAm_of cA18 oz_B4cls_3
        have i1_ := pz18_1
        refine w_lxorE rfl ?_
        have g19 : inrJ (xoJ ((adJ ((adJ ((adJ (z11) (z12))) (z14))) (z16))) (z18)) := toJ_inr _
        refine Ew_of (pcₚ := 174) (fun _ => x_ldc2 (z := -7046029288634856825) rfl (by decide)) ?_
        refine w_lmulE rfl ?_
        have g20 : inrJ (muJ ((xoJ ((adJ ((adJ ((adJ (z11) (z12))) (z14))) (z16))) (z18))) ((-7046029288634856825))) := toJ_inr _
        refine Ew_of (pcₚ := 178) (fun _ => x_ldc2 (z := -8796714831421723037) rfl (by decide)) ?_
        refine w_laddE rfl ?_
        have g21 : inrJ (adJ ((muJ ((xoJ ((adJ ((adJ ((adJ (z11) (z12))) (z14))) (z16))) (z18))) ((-7046029288634856825)))) ((-8796714831421723037))) := toJ_inr _
        refine Ew_of (pcₚ := 181) (fun _ => x_lstore rfl) ?_
        refine Ew_of (pcₚ := 183) (fun _ => x_lload rfl rk2_s) ?_
        refine Ew_of (pcₚ := 184) (fun _ => x_lconst (z := 0) rfl (by decide)) ?_
        refine Ew_of (pcₚ := 186) (fun _ => x_lload rfl (rk2_o (rk2_o (l46_10) rfl rfl) rfl rfl)) ?_
        refine w_stat24 rfl rfl (by rfl) (C50 (D := puc 0 D) (N := puc 0 N) (HW_subc H oz_B4cls_20 oz_B4cls_12) (show inrJ (0) from q_340) (show inrJ (x46_10) by omega) (fun z22 σ22 F22ₚ A22ₚ Hₚ Oₚ hS22 hA22 pz22_0 pz22_1 => ⟨rfl, ?_⟩))
        refine v_backc (c := c) (s := s) H oz_B4cls_20 oz_B4cls_12 Hₚ Oₚ (fun F22 A22 H Oₚ eF22 eA22 => ?_)
        have O := OUT_trans O Oₚ
        -- PackHouse.wideLane
        have cF22 : SF oz_B4clsl_0 F F22 := SF_trans (cF18) (SF_gluc (ι := oz_B4clsl_1) oz_B4cls_12 hS22 eF22 (by decide +kernel)) (any_sub (lₚ := []) (by decide +kernel))
        have mF22 := SFm_of cF22 oz_B4cls_2
        have cA22 : SA oz_B4clsl_1 A A22 := SA_trans (cA18) (SA_gluc (ι := oz_B4clsl_1) oz_B4cls_12 hA22 eA22 (by decide +kernel)) (any_subA (lₚ := []) (by decide +kernel))
        have mA22 := SAm_of cA22 oz_B4cls_3
        have i2_ := pz22_1
        refine w_lxorE rfl ?_
        have g23 : inrJ (xoJ ((adJ ((muJ ((xoJ ((adJ ((adJ ((adJ (z11) (z12))) (z14))) (z16))) (z18))) ((-7046029288634856825)))) ((-8796714831421723037)))) (z22)) := toJ_inr _
        refine Ew_of (pcₚ := 193) (fun _ => x_ldc2 (z := -7046029288634856825) rfl (by decide)) ?_
        refine w_lmulE rfl ?_
        have g24 : inrJ (muJ ((xoJ ((adJ ((muJ ((xoJ ((adJ ((adJ ((adJ (z11) (z12))) (z14))) (z16))) (z18))) ((-7046029288634856825)))) ((-8796714831421723037)))) (z22))) ((-7046029288634856825))) := toJ_inr _
        refine Ew_of (pcₚ := 197) (fun _ => x_ldc2 (z := -8796714831421723037) rfl (by decide)) ?_
        refine w_laddE rfl ?_
        have g25 : inrJ (adJ ((muJ ((xoJ ((adJ ((muJ ((xoJ ((adJ ((adJ ((adJ (z11) (z12))) (z14))) (z16))) (z18))) ((-7046029288634856825)))) ((-8796714831421723037)))) (z22))) ((-7046029288634856825)))) ((-8796714831421723037))) := toJ_inr _
        refine Ew_of (pcₚ := 200) (fun _ => x_lstore rfl) ?_
        refine Ew_of (pcₚ := 202) (fun _ => x_lload rfl rk2_s) ?_
        refine Ew_of (pcₚ := 203) (fun _ => x_lconst (z := 0) rfl (by decide)) ?_
        refine Ew_of (pcₚ := 205) (fun _ => x_lload rfl (rk2_o (rk2_o (rk2_o (l46_12) rfl rfl) rfl rfl) rfl rfl)) ?_
        refine w_stat24 rfl rfl (by rfl) (C50 (D := puc 0 D) (N := puc 0 N) (HW_subc H oz_B4cls_20 oz_B4cls_12) (show inrJ (0) from q_340) (show inrJ (x46_12) by omega) (fun z26 σ26 F26ₚ A26ₚ Hₚ Oₚ hS26 hA26 pz26_0 pz26_1 => ⟨rfl, ?_⟩))
        refine v_backc (c := c) (s := s) H oz_B4cls_20 oz_B4cls_12 Hₚ Oₚ (fun F26 A26 H Oₚ eF26 eA26 => ?_)
        have O := OUT_trans O Oₚ
        -- PackHouse.wideLane
        have cF26 : SF oz_B4clsl_0 F F26 := SF_trans (cF22) (SF_gluc (ι := oz_B4clsl_1) oz_B4cls_12 hS26 eF26 (by decide +kernel)) (any_sub (lₚ := []) (by decide +kernel))
        have mF26 := SFm_of cF26 oz_B4cls_2
        have cA26 : SA oz_B4clsl_1 A A26 := SA_trans (cA22) (SA_gluc (ι := oz_B4clsl_1) oz_B4cls_12 hA26 eA26 (by decide +kernel)) (any_subA (lₚ := []) (by decide +kernel))
        have mA26 := SAm_of cA26 oz_B4cls_3
        have i3_ := pz26_1
        refine w_lxorE rfl ?_
        have g27 : inrJ (xoJ ((adJ ((muJ ((xoJ ((adJ ((muJ ((xoJ ((adJ ((adJ ((adJ (z11) (z12))) (z14))) (z16))) (z18))) ((-7046029288634856825)))) ((-8796714831421723037)))) (z22))) ((-7046029288634856825)))) ((-8796714831421723037)))) (z26)) := toJ_inr _
        refine Ew_of (pcₚ := 212) (fun _ => x_ldc2 (z := -7046029288634856825) rfl (by decide)) ?_
        refine w_lmulE rfl ?_
        have g28 : inrJ (muJ ((xoJ ((adJ ((muJ ((xoJ ((adJ ((muJ ((xoJ ((adJ ((adJ ((adJ (z11) (z12))) (z14))) (z16))) (z18))) ((-7046029288634856825)))) ((-8796714831421723037)))) (z22))) ((-7046029288634856825)))) ((-8796714831421723037)))) (z26))) ((-7046029288634856825))) := toJ_inr _
        refine Ew_of (pcₚ := 216) (fun _ => x_ldc2 (z := -8796714831421723037) rfl (by decide)) ?_
        refine w_laddE rfl ?_
        have g29 : inrJ (adJ ((muJ ((xoJ ((adJ ((muJ ((xoJ ((adJ ((muJ ((xoJ ((adJ ((adJ ((adJ (z11) (z12))) (z14))) (z16))) (z18))) ((-7046029288634856825)))) ((-8796714831421723037)))) (z22))) ((-7046029288634856825)))) ((-8796714831421723037)))) (z26))) ((-7046029288634856825)))) ((-8796714831421723037))) := toJ_inr _
        refine Ew_of (pcₚ := 219) (fun _ => x_lstore rfl) ?_
        refine Ew_of (pcₚ := 221) (fun _ => x_lload rfl rk2_s) ?_
        refine Ew_of (pcₚ := 222) (fun _ => x_lconst (z := 0) rfl (by decide)) ?_
        refine Ew_of (pcₚ := 224) (fun _ => x_lload rfl (rk2_o (rk2_o (rk2_o (rk2_o (l46_14) rfl rfl) rfl rfl) rfl rfl) rfl rfl)) ?_
        refine w_stat24 rfl rfl (by rfl) (C50 (D := puc 0 D) (N := puc 0 N) (HW_subc H oz_B4cls_20 oz_B4cls_12) (show inrJ (0) from q_340) (show inrJ (x46_14) from j46_4) (fun z30 σ30 F30ₚ A30ₚ Hₚ Oₚ hS30 hA30 pz30_0 pz30_1 => ⟨rfl, ?_⟩))
        refine v_backc (c := c) (s := s) H oz_B4cls_20 oz_B4cls_12 Hₚ Oₚ (fun F30 A30 H Oₚ eF30 eA30 => ?_)
        have O := OUT_trans O Oₚ
        -- PackHouse.wideLane
        have cF30 : SF oz_B4clsl_0 F F30 := SF_trans (cF26) (SF_gluc (ι := oz_B4clsl_1) oz_B4cls_12 hS30 eF30 (by decide +kernel)) (any_sub (lₚ := []) (by decide +kernel))
        have mF30 := SFm_of cF30 oz_B4cls_2
        have cA30 : SA oz_B4clsl_1 A A30 := SA_trans (cA26) (SA_gluc (ι := oz_B4clsl_1) oz_B4cls_12 hA30 eA30 (by decide +kernel)) (any_subA (lₚ := []) (by decide +kernel))
        have mA30 := SAm_of cA30 oz_B4cls_3
        have i4_ := pz30_1
        refine w_lxorE rfl ?_
        have g31 : inrJ (xoJ ((adJ ((muJ ((xoJ ((adJ ((muJ ((xoJ ((adJ ((muJ ((xoJ ((adJ ((adJ ((adJ (z11) (z12))) (z14))) (z16))) (z18))) ((-7046029288634856825)))) ((-8796714831421723037)))) (z22))) ((-7046029288634856825)))) ((-8796714831421723037)))) (z26))) ((-7046029288634856825)))) ((-8796714831421723037)))) (z30)) := toJ_inr _
        refine Ew_of (pcₚ := 231) (fun _ => x_ldc2 (z := -7046029288634856825) rfl (by decide)) ?_
        refine w_lmulE rfl ?_
        have g32 : inrJ (muJ ((xoJ ((adJ ((muJ ((xoJ ((adJ ((muJ ((xoJ ((adJ ((muJ ((xoJ ((adJ ((adJ ((adJ (z11) (z12))) (z14))) (z16))) (z18))) ((-7046029288634856825)))) ((-8796714831421723037)))) (z22))) ((-7046029288634856825)))) ((-8796714831421723037)))) (z26))) ((-7046029288634856825)))) ((-8796714831421723037)))) (z30))) ((-7046029288634856825))) := toJ_inr _
        refine Ew_of (pcₚ := 235) (fun _ => x_ldc2 (z := -8796714831421723037) rfl (by decide)) ?_
        refine w_laddE rfl ?_
        have g33 : inrJ (adJ ((muJ ((xoJ ((adJ ((muJ ((xoJ ((adJ ((muJ ((xoJ ((adJ ((muJ ((xoJ ((adJ ((adJ ((adJ (z11) (z12))) (z14))) (z16))) (z18))) ((-7046029288634856825)))) ((-8796714831421723037)))) (z22))) ((-7046029288634856825)))) ((-8796714831421723037)))) (z26))) ((-7046029288634856825)))) ((-8796714831421723037)))) (z30))) ((-7046029288634856825)))) ((-8796714831421723037))) := toJ_inr _
        refine Ew_of (pcₚ := 238) (fun _ => x_lstore rfl) ?_
        have : WS1 ((w0)) ((a2)) ((a3) - (a2)) ((a4)) ((x46_5)) (((adJ ((muJ ((xoJ ((adJ ((muJ ((xoJ ((adJ ((muJ ((xoJ ((adJ ((muJ ((xoJ ((adJ ((adJ ((adJ (z11) (z12))) (z14))) (z16))) (z18))) ((-7046029288634856825)))) ((-8796714831421723037)))) (z22))) ((-7046029288634856825)))) ((-8796714831421723037)))) (z26))) ((-7046029288634856825)))) ((-8796714831421723037)))) (z30))) ((-7046029288634856825)))) ((-8796714831421723037))))) := by first | exact WS1_n (by omega) (by omega) (by omega) (by rfl) | exact WS1_y (by omega) (by omega) (j46_0.trans (wLn_0 (by omega))) (j46_1.trans (wLn_0 (by omega))) (j46_2.trans (wLn_0 (by omega))) (j46_3.trans (wLn_0 (by omega))) r1_ r2_ r3_ r4_ i1_ i2_ i3_ i4_
        exact hc238  _ _ _ _ (x46_5) ((adJ ((muJ ((xoJ ((adJ ((muJ ((xoJ ((adJ ((muJ ((xoJ ((adJ ((muJ ((xoJ ((adJ ((adJ ((adJ (z11) (z12))) (z14))) (z16))) (z18))) ((-7046029288634856825)))) ((-8796714831421723037)))) (z22))) ((-7046029288634856825)))) ((-8796714831421723037)))) (z26))) ((-7046029288634856825)))) ((-8796714831421723037)))) (z30))) ((-7046029288634856825)))) ((-8796714831421723037)))) (rk2_o (rk2_o (rk2_o (rk2_o (rk2_o (l46_0) rfl rfl) rfl rfl) rfl rfl) rfl rfl) rfl rfl) (rk2_o (rk2_o (rk2_o (rk2_o (rk2_o (l46_1) rfl rfl) rfl rfl) rfl rfl) rfl rfl) rfl rfl) (rk2_o (rk2_o (rk2_o (rk2_o (rk2_o (l46_2) rfl rfl) rfl rfl) rfl rfl) rfl rfl) rfl rfl) (rk2_o (rk2_o (rk2_o (rk2_o (rk2_o (l46_5) rfl rfl) rfl rfl) rfl rfl) rfl rfl) rfl rfl) (rk2_s) H O (SF_trans (SF_trans (SF_trans (SF_trans (SF_trans (SF_trans (SF_trans (SF_trans (SF_trans (SF_refl) hS_46 (any_sub (by decide +kernel))) (SF_gluc (ι := oz_B4clsl_1) oz_B4cls_12 hS11 eF11 (by decide +kernel)) (any_sub (lₚ := []) (by decide +kernel))) (SF_gluc (ι := oz_B4clsl_1) oz_B4cls_12 hS12 eF12 (by decide +kernel)) (any_sub (lₚ := []) (by decide +kernel))) (SF_gluc (ι := oz_B4clsl_1) oz_B4cls_12 hS14 eF14 (by decide +kernel)) (any_sub (lₚ := []) (by decide +kernel))) (SF_gluc (ι := oz_B4clsl_1) oz_B4cls_12 hS16 eF16 (by decide +kernel)) (any_sub (lₚ := []) (by decide +kernel))) (SF_gluc (ι := oz_B4clsl_1) oz_B4cls_12 hS18 eF18 (by decide +kernel)) (any_sub (lₚ := []) (by decide +kernel))) (SF_gluc (ι := oz_B4clsl_1) oz_B4cls_12 hS22 eF22 (by decide +kernel)) (any_sub (lₚ := []) (by decide +kernel))) (SF_gluc (ι := oz_B4clsl_1) oz_B4cls_12 hS26 eF26 (by decide +kernel)) (any_sub (lₚ := []) (by decide +kernel))) (SF_gluc (ι := oz_B4clsl_1) oz_B4cls_12 hS30 eF30 (by decide +kernel)) (any_sub (lₚ := []) (by decide +kernel))) (SA_trans (SA_trans (SA_trans (SA_trans (SA_trans (SA_trans (SA_trans (SA_trans (SA_trans (SA_refl) hA_46 (any_subA (by decide +kernel))) (SA_gluc (ι := oz_B4clsl_1) oz_B4cls_12 hA11 eA11 (by decide +kernel)) (any_subA (lₚ := []) (by decide +kernel))) (SA_gluc (ι := oz_B4clsl_1) oz_B4cls_12 hA12 eA12 (by decide +kernel)) (any_subA (lₚ := []) (by decide +kernel))) (SA_gluc (ι := oz_B4clsl_1) oz_B4cls_12 hA14 eA14 (by decide +kernel)) (any_subA (lₚ := []) (by decide +kernel))) (SA_gluc (ι := oz_B4clsl_1) oz_B4cls_12 hA16 eA16 (by decide +kernel)) (any_subA (lₚ := []) (by decide +kernel))) (SA_gluc (ι := oz_B4clsl_1) oz_B4cls_12 hA18 eA18 (by decide +kernel)) (any_subA (lₚ := []) (by decide +kernel))) (SA_gluc (ι := oz_B4clsl_1) oz_B4cls_12 hA22 eA22 (by decide +kernel)) (any_subA (lₚ := []) (by decide +kernel))) (SA_gluc (ι := oz_B4clsl_1) oz_B4cls_12 hA26 eA26 (by decide +kernel)) (any_subA (lₚ := []) (by decide +kernel))) (SA_gluc (ι := oz_B4clsl_1) oz_B4cls_12 hA30 eA30 (by decide +kernel)) (any_subA (lₚ := []) (by decide +kernel)))     (show inr (x46_5) from q_2971 h1 h3 j46_5) (show inrJ ((adJ ((muJ ((xoJ ((adJ ((muJ ((xoJ ((adJ ((muJ ((xoJ ((adJ ((muJ ((xoJ ((adJ ((adJ ((adJ (z11) (z12))) (z14))) (z16))) (z18))) ((-7046029288634856825)))) ((-8796714831421723037)))) (z22))) ((-7046029288634856825)))) ((-8796714831421723037)))) (z26))) ((-7046029288634856825)))) ((-8796714831421723037)))) (z30))) ((-7046029288634856825)))) ((-8796714831421723037)))) from g33) (show (a2) ≤ (x46_5) ∧ (x46_5) ≤ (a3) from j46_5) (show WS1 ((w0)) ((a2)) ((a3) - (a2)) ((a4)) ((x46_5)) (((adJ ((muJ ((xoJ ((adJ ((muJ ((xoJ ((adJ ((muJ ((xoJ ((adJ ((muJ ((xoJ ((adJ ((adJ ((adJ (z11) (z12))) (z14))) (z16))) (z18))) ((-7046029288634856825)))) ((-8796714831421723037)))) (z22))) ((-7046029288634856825)))) ((-8796714831421723037)))) (z26))) ((-7046029288634856825)))) ((-8796714831421723037)))) (z30))) ((-7046029288634856825)))) ((-8796714831421723037))))) by assumption)
      · refine Ew_of (pcₚ := 57) (fun _ => x_lload rfl l46_8) ?_
        refine Ew_of (pcₚ := 58) (fun _ => x_aload_n rfl l46_0) ?_
        refine Ew_of (pcₚ := 60) (fun _ => x_iload rfl l46_5) ?_
        refine Ew_of (pcₚ := 62) (fun _ => x_bipush (z := 8) rfl (by decide)) ?_
        refine w_stat24 rfl rfl (by rfl) (C42_Br (D := puc 0 D) (N := puc 0 N) (HW_subc H oz_B4cls_21 oz_B4cls_4) (n0) (en0) (w0) ((funext (mA_46 0 rfl)).trans (ew0)) (show inr (x46_5) from q_2987 b10 h1 h3 j46_5) (show inr (8) from q_141) (show (8) ≤ 0 ∨ 0 ≤ (x46_5) ∧ (x46_5) + (8) ≤ (n0) from q_2986 b10 h3 j46_5) (show 0 ≤ (8) ∧ (8) ≤ 8 from q_669) (fun z34 σ34 F34ₚ A34ₚ Hₚ Oₚ hS34 hA34 pz34_0 pz34_1 pz34_2 => ⟨rfl, ?_⟩))
        refine v_backc (c := c) (s := s) H oz_B4cls_21 oz_B4cls_4 Hₚ Oₚ (fun F34 A34 H Oₚ eF34 eA34 => ?_)
        have O := OUT_trans O Oₚ
        -- PackHouse.number
        have cF34 : SF oz_B4clsl_0 F F34 := SF_trans (cF_46) (SF_gluc (ι := oz_B4clsl_2) oz_B4cls_4 hS34 eF34 (by decide +kernel)) (any_sub (lₚ := []) (by decide +kernel))
        have mF34 := SFm_of cF34 oz_B4cls_2
        have cA34 : SA oz_B4clsl_1 A A34 := SA_trans (cA_46) (SA_gluc (ι := oz_B4clsl_2) oz_B4cls_4 hA34 eA34 (by decide +kernel)) (any_subA (lₚ := []) (by decide +kernel))
        have mA34 := SAm_of cA34 oz_B4cls_3
        have n1_ := nmb_8 pz34_2 pz34_0
        refine w_stat24 rfl rfl (by rfl) (C50 (D := puc 0 D) (N := puc 0 N) (HW_subc H oz_B4cls_20 oz_B4cls_12) (show inrJ (x46_8) by omega) (show inrJ (z34) from pz34_0) (fun z35 σ35 F35ₚ A35ₚ Hₚ Oₚ hS35 hA35 pz35_0 pz35_1 => ⟨rfl, ?_⟩))
        refine v_backc (c := c) (s := s) H oz_B4cls_20 oz_B4cls_12 Hₚ Oₚ (fun F35 A35 H Oₚ eF35 eA35 => ?_)
        have O := OUT_trans O Oₚ
        -- PackHouse.wideLane
        have cF35 : SF oz_B4clsl_0 F F35 := SF_trans (cF34) (SF_gluc (ι := oz_B4clsl_1) oz_B4cls_12 hS35 eF35 (by decide +kernel)) (any_sub (lₚ := []) (by decide +kernel))
        have mF35 := SFm_of cF35 oz_B4cls_2
        have cA35 : SA oz_B4clsl_1 A A35 := SA_trans (cA34) (SA_gluc (ι := oz_B4clsl_1) oz_B4cls_12 hA35 eA35 (by decide +kernel)) (any_subA (lₚ := []) (by decide +kernel))
        have mA35 := SAm_of cA35 oz_B4cls_3
        have k1_ := pz35_1
        refine Ew_of (pcₚ := 70) (fun _ => x_lstore rfl) ?_
        refine Ew_of (pcₚ := 72) (fun _ => x_lload rfl (rk2_o (l46_10) rfl rfl)) ?_
        refine Ew_of (pcₚ := 73) (fun _ => x_aload_n rfl (rk2_o (l46_0) rfl rfl)) ?_
        refine Ew_of (pcₚ := 75) (fun _ => x_iload rfl (rk2_o (l46_5) rfl rfl)) ?_
        refine Ew_of (pcₚ := 77) (fun _ => x_bipush (z := 8) rfl (by decide)) ?_
        refine w_iadd rfl ?_
        refine Ew_of (pcₚ := 80) (fun _ => x_bipush (z := 8) rfl (by decide)) ?_
        refine w_stat24 rfl rfl (by rfl) (C42_Br (D := puc 0 D) (N := puc 0 N) (HW_subc H oz_B4cls_21 oz_B4cls_4) (n0) (en0) (w0) ((funext (mA35 0 rfl)).trans (ew0)) (show inr ((x46_5 + 8)) from q_2989 b10 h1 h3 j46_5) (show inr (8) from q_141) (show (8) ≤ 0 ∨ 0 ≤ ((x46_5 + 8)) ∧ ((x46_5 + 8)) + (8) ≤ (n0) from q_2988 b10 h3 j46_5) (show 0 ≤ (8) ∧ (8) ≤ 8 from q_669) (fun z36 σ36 F36ₚ A36ₚ Hₚ Oₚ hS36 hA36 pz36_0 pz36_1 pz36_2 => ⟨rfl, ?_⟩))
        refine v_backc (c := c) (s := s) H oz_B4cls_21 oz_B4cls_4 Hₚ Oₚ (fun F36 A36 H Oₚ eF36 eA36 => ?_)
        have O := OUT_trans O Oₚ
        -- PackHouse.number
        have cF36 : SF oz_B4clsl_0 F F36 := SF_trans (cF35) (SF_gluc (ι := oz_B4clsl_2) oz_B4cls_4 hS36 eF36 (by decide +kernel)) (any_sub (lₚ := []) (by decide +kernel))
        have mF36 := SFm_of cF36 oz_B4cls_2
        have cA36 : SA oz_B4clsl_1 A A36 := SA_trans (cA35) (SA_gluc (ι := oz_B4clsl_2) oz_B4cls_4 hA36 eA36 (by decide +kernel)) (any_subA (lₚ := []) (by decide +kernel))
        have mA36 := SAm_of cA36 oz_B4cls_3
        have n2_ := nmb_8 pz36_2 pz36_0
        refine w_stat24 rfl rfl (by rfl) (C50 (D := puc 0 D) (N := puc 0 N) (HW_subc H oz_B4cls_20 oz_B4cls_12) (show inrJ (x46_10) by omega) (show inrJ (z36) from pz36_0) (fun z37 σ37 F37ₚ A37ₚ Hₚ Oₚ hS37 hA37 pz37_0 pz37_1 => ⟨rfl, ?_⟩))
        refine v_backc (c := c) (s := s) H oz_B4cls_20 oz_B4cls_12 Hₚ Oₚ (fun F37 A37 H Oₚ eF37 eA37 => ?_)
        have O := OUT_trans O Oₚ
        -- PackHouse.wideLane
        have cF37 : SF oz_B4clsl_0 F F37 := SF_trans (cF36) (SF_gluc (ι := oz_B4clsl_1) oz_B4cls_12 hS37 eF37 (by decide +kernel)) (any_sub (lₚ := []) (by decide +kernel))
        have mF37 := SFm_of cF37 oz_B4cls_2
        have cA37 : SA oz_B4clsl_1 A A37 := SA_trans (cA36) (SA_gluc (ι := oz_B4clsl_1) oz_B4cls_12 hA37 eA37 (by decide +kernel)) (any_subA (lₚ := []) (by decide +kernel))
        have mA37 := SAm_of cA37 oz_B4cls_3
        have k2_ := pz37_1
        refine Ew_of (pcₚ := 88) (fun _ => x_lstore rfl) ?_
        refine Ew_of (pcₚ := 90) (fun _ => x_lload rfl (rk2_o (rk2_o (l46_12) rfl rfl) rfl rfl)) ?_
        refine Ew_of (pcₚ := 91) (fun _ => x_aload_n rfl (rk2_o (rk2_o (l46_0) rfl rfl) rfl rfl)) ?_
        refine Ew_of (pcₚ := 93) (fun _ => x_iload rfl (rk2_o (rk2_o (l46_5) rfl rfl) rfl rfl)) ?_
        refine Ew_of (pcₚ := 95) (fun _ => x_bipush (z := 16) rfl (by decide)) ?_
        refine w_iadd rfl ?_
        refine Ew_of (pcₚ := 98) (fun _ => x_bipush (z := 8) rfl (by decide)) ?_
        refine w_stat24 rfl rfl (by rfl) (C42_Br (D := puc 0 D) (N := puc 0 N) (HW_subc H oz_B4cls_21 oz_B4cls_4) (n0) (en0) (w0) ((funext (mA37 0 rfl)).trans (ew0)) (show inr ((x46_5 + 16)) from q_2991 b10 h1 h3 j46_5) (show inr (8) from q_141) (show (8) ≤ 0 ∨ 0 ≤ ((x46_5 + 16)) ∧ ((x46_5 + 16)) + (8) ≤ (n0) from q_2990 b10 h3 j46_5) (show 0 ≤ (8) ∧ (8) ≤ 8 from q_669) (fun z38 σ38 F38ₚ A38ₚ Hₚ Oₚ hS38 hA38 pz38_0 pz38_1 pz38_2 => ⟨rfl, ?_⟩))
        refine v_backc (c := c) (s := s) H oz_B4cls_21 oz_B4cls_4 Hₚ Oₚ (fun F38 A38 H Oₚ eF38 eA38 => ?_)
        have O := OUT_trans O Oₚ
        -- PackHouse.number
        have cF38 : SF oz_B4clsl_0 F F38 := SF_trans (cF37) (SF_gluc (ι := oz_B4clsl_2) oz_B4cls_4 hS38 eF38 (by decide +kernel)) (any_sub (lₚ := []) (by decide +kernel))
        have mF38 := SFm_of cF38 oz_B4cls_2
        have cA38 : SA oz_B4clsl_1 A A38 := SA_trans (cA37) (SA_gluc (ι := oz_B4clsl_2) oz_B4cls_4 hA38 eA38 (by decide +kernel)) (any_subA (lₚ := []) (by decide +kernel))
        have mA38 := SAm_of cA38 oz_B4cls_3
        have n3_ := nmb_8 pz38_2 pz38_0
        refine w_stat24 rfl rfl (by rfl) (C50 (D := puc 0 D) (N := puc 0 N) (HW_subc H oz_B4cls_20 oz_B4cls_12) (show inrJ (x46_12) by omega) (show inrJ (z38) from pz38_0) (fun z39 σ39 F39ₚ A39ₚ Hₚ Oₚ hS39 hA39 pz39_0 pz39_1 => ⟨rfl, ?_⟩))
        refine v_backc (c := c) (s := s) H oz_B4cls_20 oz_B4cls_12 Hₚ Oₚ (fun F39 A39 H Oₚ eF39 eA39 => ?_)
        have O := OUT_trans O Oₚ
        -- PackHouse.wideLane
        have cF39 : SF oz_B4clsl_0 F F39 := SF_trans (cF38) (SF_gluc (ι := oz_B4clsl_1) oz_B4cls_12 hS39 eF39 (by decide +kernel)) (any_sub (lₚ := []) (by decide +kernel))
        have mF39 := SFm_of cF39 oz_B4cls_2
        have cA39 : SA oz_B4clsl_1 A A39 := SA_trans (cA38) (SA_gluc (ι := oz_B4clsl_1) oz_B4cls_12 hA39 eA39 (by decide +kernel)) (any_subA (lₚ := []) (by decide +kernel))
        have mA39 := SAm_of cA39 oz_B4cls_3
        have k3_ := pz39_1
        refine Ew_of (pcₚ := 106) (fun _ => x_lstore rfl) ?_
        refine Ew_of (pcₚ := 108) (fun _ => x_lload rfl (rk2_o (rk2_o (rk2_o (l46_14) rfl rfl) rfl rfl) rfl rfl)) ?_
        refine Ew_of (pcₚ := 109) (fun _ => x_aload_n rfl (rk2_o (rk2_o (rk2_o (l46_0) rfl rfl) rfl rfl) rfl rfl)) ?_
        refine Ew_of (pcₚ := 111) (fun _ => x_iload rfl (rk2_o (rk2_o (rk2_o (l46_5) rfl rfl) rfl rfl) rfl rfl)) ?_
        refine Ew_of (pcₚ := 113) (fun _ => x_bipush (z := 24) rfl (by decide)) ?_
        refine w_iadd rfl ?_
        refine Ew_of (pcₚ := 116) (fun _ => x_bipush (z := 8) rfl (by decide)) ?_
        refine w_stat24 rfl rfl (by rfl) (C42_Br (D := puc 0 D) (N := puc 0 N) (HW_subc H oz_B4cls_21 oz_B4cls_4) (n0) (en0) (w0) ((funext (mA39 0 rfl)).trans (ew0)) (show inr ((x46_5 + 24)) from q_2993 b10 h1 h3 j46_5) (show inr (8) from q_141) (show (8) ≤ 0 ∨ 0 ≤ ((x46_5 + 24)) ∧ ((x46_5 + 24)) + (8) ≤ (n0) from q_2992 b10 h3 j46_5) (show 0 ≤ (8) ∧ (8) ≤ 8 from q_669) (fun z40 σ40 F40ₚ A40ₚ Hₚ Oₚ hS40 hA40 pz40_0 pz40_1 pz40_2 => ⟨rfl, ?_⟩))
        refine v_backc (c := c) (s := s) H oz_B4cls_21 oz_B4cls_4 Hₚ Oₚ (fun F40 A40 H Oₚ eF40 eA40 => ?_)
        have O := OUT_trans O Oₚ
        -- PackHouse.number
        have cF40 : SF oz_B4clsl_0 F F40 := SF_trans (cF39) (SF_gluc (ι := oz_B4clsl_2) oz_B4cls_4 hS40 eF40 (by decide +kernel)) (any_sub (lₚ := []) (by decide +kernel))
        have mF40 := SFm_of cF40 oz_B4cls_2
        have cA40 : SA oz_B4clsl_1 A A40 := SA_trans (cA39) (SA_gluc (ι := oz_B4clsl_2) oz_B4cls_4 hA40 eA40 (by decide +kernel)) (any_subA (lₚ := []) (by decide +kernel))
        have mA40 := SAm_of cA40 oz_B4cls_3
        have n4_ := nmb_8 pz40_2 pz40_0
        refine w_stat24 rfl rfl (by rfl) (C50 (D := puc 0 D) (N := puc 0 N) (HW_subc H oz_B4cls_20 oz_B4cls_12) (show inrJ (x46_14) from j46_4) (show inrJ (z40) from pz40_0) (fun z41 σ41 F41ₚ A41ₚ Hₚ Oₚ hS41 hA41 pz41_0 pz41_1 => ⟨rfl, ?_⟩))
        refine v_backc (c := c) (s := s) H oz_B4cls_20 oz_B4cls_12 Hₚ Oₚ (fun F41 A41 H Oₚ eF41 eA41 => ?_)
        have O := OUT_trans O Oₚ
        -- PackHouse.wideLane
        have cF41 : SF oz_B4clsl_0 F F41 := SF_trans (cF40) (SF_gluc (ι := oz_B4clsl_1) oz_B4cls_12 hS41 eF41 (by decide +kernel)) (any_sub (lₚ := []) (by decide +kernel))
        have mF41 := SFm_of cF41 oz_B4cls_2
        have cA41 : SA oz_B4clsl_1 A A41 := SA_trans (cA40) (SA_gluc (ι := oz_B4clsl_1) oz_B4cls_12 hA41 eA41 (by decide +kernel)) (any_subA (lₚ := []) (by decide +kernel))
        have mA41 := SAm_of cA41 oz_B4cls_3
        have k4_ := pz41_1
        refine Ew_of (pcₚ := 124) (fun _ => x_lstore rfl) ?_
        refine Ew_of (pcₚ := 127) (fun _ => x_iinc (len := 3) rfl (rk2_o (rk2_o (rk2_o (rk2_o (l46_5) rfl rfl) rfl rfl) rfl rfl) rfl rfl)) ?_
        refine Ew_of (pcₚ := 46) (fun _ => x_goto rfl rfl) ?_
        have : wLn ((w0)) ((a2)) (((a3) - (a2)) / 32).toNat (adJ (adJ ((a4)) (-7046029288634856825)) (-4417276706812531889)) = wLn ((w0)) (((x46_5 + 32))) (((a3) - ((x46_5 + 32))) / 32).toNat ((z35)) := j46_0.trans (wLn_s (by omega) (by rw [k1_, n1_]) (by omega))
        have : wLn ((w0)) ((a2) + 8) (((a3) - (a2)) / 32).toNat (adJ ((a4)) (-4417276706812531889)) = wLn ((w0)) (((x46_5 + 32)) + 8) (((a3) - ((x46_5 + 32))) / 32).toNat ((z37)) := j46_1.trans (wLn_s (by omega) (by rw [k2_, n2_]) (by omega))
        have : wLn ((w0)) ((a2) + 16) (((a3) - (a2)) / 32).toNat ((a4)) = wLn ((w0)) (((x46_5 + 32)) + 16) (((a3) - ((x46_5 + 32))) / 32).toNat ((z39)) := j46_2.trans (wLn_s (by omega) (by rw [k3_, n3_]) (by omega))
        have : wLn ((w0)) ((a2) + 24) (((a3) - (a2)) / 32).toNat (sbJ ((a4)) (-7046029288634856825)) = wLn ((w0)) (((x46_5 + 32)) + 24) (((a3) - ((x46_5 + 32))) / 32).toNat ((z41)) := j46_3.trans (wLn_s (by omega) (by rw [k4_, n4_]) (by omega))
        exact ih46 _ (msE hm46 q_794 (q_795 b10)) _ _ _ _ ((x46_5 + 32)) (z35) (z37) (z39) (z41) (rk_o (rk2_o (rk2_o (rk2_o (rk2_o (l46_0) rfl rfl) rfl rfl) rfl rfl) rfl rfl) rfl rfl) (rk_o (rk2_o (rk2_o (rk2_o (rk2_o (l46_1) rfl rfl) rfl rfl) rfl rfl) rfl rfl) rfl rfl) (rk_o (rk2_o (rk2_o (rk2_o (rk2_o (l46_2) rfl rfl) rfl rfl) rfl rfl) rfl rfl) rfl rfl) (rk_s) (rk_o (rk2_o (rk2_o (rk2_o (rk2_s) rfl rfl) rfl rfl) rfl rfl) rfl rfl) (rk_o (rk2_o (rk2_o (rk2_s) rfl rfl) rfl rfl) rfl rfl) (rk_o (rk2_o (rk2_s) rfl rfl) rfl rfl) (rk_o (rk2_s) rfl rfl) H O (SF_trans (SF_trans (SF_trans (SF_trans (SF_trans (SF_trans (SF_trans (SF_trans (hS_46) (SF_gluc (ι := oz_B4clsl_2) oz_B4cls_4 hS34 eF34 (by decide +kernel)) (any_sub (lₚ := []) (by decide +kernel))) (SF_gluc (ι := oz_B4clsl_1) oz_B4cls_12 hS35 eF35 (by decide +kernel)) (any_sub (lₚ := []) (by decide +kernel))) (SF_gluc (ι := oz_B4clsl_2) oz_B4cls_4 hS36 eF36 (by decide +kernel)) (any_sub (lₚ := []) (by decide +kernel))) (SF_gluc (ι := oz_B4clsl_1) oz_B4cls_12 hS37 eF37 (by decide +kernel)) (any_sub (lₚ := []) (by decide +kernel))) (SF_gluc (ι := oz_B4clsl_2) oz_B4cls_4 hS38 eF38 (by decide +kernel)) (any_sub (lₚ := []) (by decide +kernel))) (SF_gluc (ι := oz_B4clsl_1) oz_B4cls_12 hS39 eF39 (by decide +kernel)) (any_sub (lₚ := []) (by decide +kernel))) (SF_gluc (ι := oz_B4clsl_2) oz_B4cls_4 hS40 eF40 (by decide +kernel)) (any_sub (lₚ := []) (by decide +kernel))) (SF_gluc (ι := oz_B4clsl_1) oz_B4cls_12 hS41 eF41 (by decide +kernel)) (any_sub (lₚ := []) (by decide +kernel))) (SA_trans (SA_trans (SA_trans (SA_trans (SA_trans (SA_trans (SA_trans (SA_trans (hA_46) (SA_gluc (ι := oz_B4clsl_2) oz_B4cls_4 hA34 eA34 (by decide +kernel)) (any_subA (lₚ := []) (by decide +kernel))) (SA_gluc (ι := oz_B4clsl_1) oz_B4cls_12 hA35 eA35 (by decide +kernel)) (any_subA (lₚ := []) (by decide +kernel))) (SA_gluc (ι := oz_B4clsl_2) oz_B4cls_4 hA36 eA36 (by decide +kernel)) (any_subA (lₚ := []) (by decide +kernel))) (SA_gluc (ι := oz_B4clsl_1) oz_B4cls_12 hA37 eA37 (by decide +kernel)) (any_subA (lₚ := []) (by decide +kernel))) (SA_gluc (ι := oz_B4clsl_2) oz_B4cls_4 hA38 eA38 (by decide +kernel)) (any_subA (lₚ := []) (by decide +kernel))) (SA_gluc (ι := oz_B4clsl_1) oz_B4cls_12 hA39 eA39 (by decide +kernel)) (any_subA (lₚ := []) (by decide +kernel))) (SA_gluc (ι := oz_B4clsl_2) oz_B4cls_4 hA40 eA40 (by decide +kernel)) (any_subA (lₚ := []) (by decide +kernel))) (SA_gluc (ι := oz_B4clsl_1) oz_B4cls_12 hA41 eA41 (by decide +kernel)) (any_subA (lₚ := []) (by decide +kernel)))     (show inr ((x46_5 + 32)) from q_2994 b10 h1 h3 j46_5) (show inrJ (z35) from pz35_0) (show inrJ (z37) from pz37_0) (show inrJ (z39) from pz39_0) (show inrJ (z41) from pz41_0) (show (a2) ≤ ((x46_5 + 32)) ∧ ((x46_5 + 32)) ≤ (a3) from q_792 b10 j46_5) (show (((x46_5 + 32)) - (a2)) % 32 = 0 by omega) (show wLn ((w0)) ((a2)) (((a3) - (a2)) / 32).toNat (adJ (adJ ((a4)) (-7046029288634856825)) (-4417276706812531889)) = wLn ((w0)) (((x46_5 + 32))) (((a3) - ((x46_5 + 32))) / 32).toNat ((z35)) by assumption) (show wLn ((w0)) ((a2) + 8) (((a3) - (a2)) / 32).toNat (adJ ((a4)) (-4417276706812531889)) = wLn ((w0)) (((x46_5 + 32)) + 8) (((a3) - ((x46_5 + 32))) / 32).toNat ((z37)) by assumption) (show wLn ((w0)) ((a2) + 16) (((a3) - (a2)) / 32).toNat ((a4)) = wLn ((w0)) (((x46_5 + 32)) + 16) (((a3) - ((x46_5 + 32))) / 32).toNat ((z39)) by assumption) (show wLn ((w0)) ((a2) + 24) (((a3) - (a2)) / 32).toNat (sbJ ((a4)) (-7046029288634856825)) = wLn ((w0)) (((x46_5 + 32)) + 24) (((a3) - ((x46_5 + 32))) / 32).toNat ((z41)) by assumption) rfl
abbrev V53_Br : vV := [(1, 0, [])]
theorem len_V53_Br_oz_B4cls : (V53_Br).length = 1 := by decide +kernel

theorem C53_Br {σE : rS} {D N : Nat → Nat} {F : hF} {A : hA} {d c s : Nat} {Q : wQ} (H : HW V53_Br σE D N F A) (HT : STC σE) {a2 a3 : Int} (n0 : Int) (en0 : (N 0 : Int) = n0) (w0 : Int → Int) (ew0 : A 0 = w0) (h0 : inr (a2)) (h1 : inr (a3)) (h2 : 0 ≤ (a2) ∧ (a2) ≤ (a3) ∧ (a3) ≤ (n0)) (k : ∀ (z : Int) (σ : rS) (Fₚ : hF) (Aₚ : hA), HW V53_Br σ D N Fₚ Aₚ → OUT (V53_Br).length D N σE c s D N σ c s → SF [] F Fₚ → SA [] A Aₚ → (inr (z)) → ((z) = POL ((w0)) ((a2)) ((a3) - (a2))) → Q (some (I z)) σ c s) : Ew 53 (d + 0) 0 (rargs 0 [.ref (D 0), I a2, I a3]) [] σE c s Q := by
  have O := OUT_refl (n := (V53_Br).length) (D := D) (N := N) (σ := σE) (c := c) (s := s)
  have HE := H
  have r1 : (0 : Int) ≤ n0 ∧ n0 ≤ 1000000 := nleE (H.nle 0 (ltn len_V53_Br_oz_B4cls rfl)) (show (N 0 : Int) = n0 from en0)
  refine Ew_of (pcₚ := 1) (fun _ => x_iconst rfl) ?_
  refine Ew_of (pcₚ := 2) (fun _ => x_istore_n rfl) ?_
  refine Ew_of (pcₚ := 3) (fun _ => x_iload_n rfl (rk_o (rfl) rfl rfl)) ?_
  refine Ew_of (pcₚ := 5) (fun _ => x_istore rfl) ?_
  have : PRI ((w0)) ((a2)) ((a3)) ((a2)) (-1) := PRI_0
  suffices hl5 : ∀ (m : Nat), ∀ (ls : rO) (σ : rS) (F_5 : hF) (A_5 : hA) (x5_3 : Int) (x5_4 : Int), rlook ls 0 = some (.ref (D 0)) → rlook ls 2 = some (I (a3)) → rlook ls 3 = some (I (x5_3)) → rlook ls 4 = some (I (x5_4)) → HW V53_Br σ D N F_5 A_5 → OUT (V53_Br).length D N σE c s D N σ c s → SF [] F F_5 → SA [] A A_5 → (inr (x5_3)) → (inr (x5_4)) → ((a2) ≤ (x5_4)) → ((x5_4) ≤ (a2) ∨ (x5_4) ≤ ((a3))) → (PRI ((w0)) ((a2)) ((a3)) ((x5_4)) ((x5_3))) → (((a3)) - (x5_4)).toNat = m → Ew 53 (d + 0) 5 ls [] σ c s Q from
    hl5 _ _ _ _ _ ((-1)) (a2) (rk_o (rk_o (rfl) rfl rfl) rfl rfl) (rk_o (rk_o (rfl) rfl rfl) rfl rfl) (rk_o (rk_s) rfl rfl) (rk_s) H O (SF_refl) (SA_refl)     (show inr ((-1)) from q_63) (show inr (a2) from h0) (show (a2) ≤ (a2) from q_43) (show (a2) ≤ (a2) ∨ (a2) ≤ ((a3)) from q_156) (show PRI ((w0)) ((a2)) ((a3)) ((a2)) (((-1))) by assumption) rfl
  as_aux_lemma =>
  intro m
  induction m using Nat.strongRecOn with
  | _ m ih5 =>
    intro ls σ F_5 A_5 x5_3 x5_4 l5_0 l5_2 l5_3 l5_4 H O hS_5 hA_5     j5_0 j5_1 j5_2 j5_3 j5_4 hm5
    have cF_5 : SF oz_B4clsl_0 F F_5 := SF_trans (SF_refl) hS_5 (any_sub (by decide +kernel))
    have mF_5 := SFm_of cF_5 oz_B4cls_2
    have cA_5 : SA oz_B4clsl_1 A A_5 := SA_trans (SA_refl) hA_5 (any_subA (by decide +kernel))
    have mA_5 := SAm_of cA_5 oz_B4cls_3
    have j5_q : PRI ((w0)) ((a2)) ((a3)) ((x5_4)) ((x5_3)) := j5_4
    refine Ew_of (pcₚ := 7) (fun _ => x_iload rfl l5_4) ?_
    refine Ew_of (pcₚ := 8) (fun _ => x_iload_n rfl l5_2) ?_
    refine w_icmpge (t := 54) rfl rfl (show inr (x5_4) from j5_1) (show inr (a3) from h1) (fun b2 => ?_) (fun b2 => ?_)
    · refine Ew_of (pcₚ := 55) (fun _ => x_iload_n rfl l5_3) ?_
      refine Ew_of (pcₚ := 56) (fun _ => x_iconst rfl) ?_
      refine w_ixorE rfl ?_
      have g3 : inr (xoI (x5_3) ((-1))) := toI_inr _
      have : ((xoI (x5_3) ((-1)))) = POL ((w0)) ((a2)) ((a3) - (a2)) := PRI_e j5_q (by omega)
      exact w_ireturn rfl (k ((xoI (x5_3) ((-1)))) _ _ _ H O (cF_5) (cA_5) (show inr ((xoI (x5_3) ((-1)))) from g3) (show ((xoI (x5_3) ((-1)))) = POL ((w0)) (a2) (a3 - a2) by assumption))
    · refine Ew_of (pcₚ := 12) (fun _ => x_iload_n rfl l5_3) ?_
      refine Ew_of (pcₚ := 13) (fun _ => x_aload_n rfl l5_0) ?_
      refine Ew_of (pcₚ := 15) (fun _ => x_iload rfl l5_4) ?_
      refine v_lB H (o := 0) rfl rfl rfl rfl (n := n0) (en0) (show 0 ≤ x5_4 ∧ x5_4 < n0 from q_2928 b2 h2 j5_2) (fun v4 ev4 qv4 => ?_)
      have ev4 : (w0) (x5_4) = v4 := (congrFun ((funext (mA_5 0 rfl)).trans (ew0)) (x5_4)).symm.trans ev4
      have hvb := ev4
      refine Ew_of (pcₚ := 19) (fun _ => x_sipush (z := 255) rfl (by decide)) ?_
      refine v_and255 rfl ?_
      refine w_ixorE rfl ?_
      have g5 : inr (xoI (x5_3) ((v4 % 256))) := toI_inr _
      refine Ew_of (pcₚ := 22) (fun _ => x_istore_n rfl) ?_
      refine Ew_of (pcₚ := 23) (fun _ => x_iload_n rfl rk_s) ?_
      refine Ew_of (pcₚ := 24) (fun _ => x_iconst rfl) ?_
      refine w_iushrE rfl ?_
      have g6 : inr (usI ((xoI (x5_3) ((v4 % 256)))) (4)) := toI_inr _
      refine Ew_of (pcₚ := 28) (fun _ => x_getstatic rfl) ?_
      refine Ew_of (pcₚ := 29) (fun _ => x_iload_n rfl rk_s) ?_
      refine Ew_of (pcₚ := 31) (fun _ => x_bipush (z := 15) rfl (by decide)) ?_
      refine w_iandG rfl ?_
      have g7 : inr (andI ((xoI (x5_3) ((v4 % 256)))) (15)) := toI_inr _
      have hx1 := and15r (((xoI (x5_3) ((v4 % 256)))))
      refine v_stI (STC_out HT HE O) (b := 1) (n := 16) rfl rfl rfl rfl (show 0 ≤ (andI ((xoI (x5_3) ((v4 % 256)))) (15)) ∧ (andI ((xoI (x5_3) ((v4 % 256)))) (15)) < 16 by omega) (fun v8 ev8 qv8 => ?_)
      have ht1 := ev8
      refine w_ixorE rfl ?_
      have g9 : inr (xoI ((usI ((xoI (x5_3) ((v4 % 256)))) (4))) (v8)) := toI_inr _
      refine Ew_of (pcₚ := 35) (fun _ => x_istore_n rfl) ?_
      refine Ew_of (pcₚ := 36) (fun _ => x_iload_n rfl rk_s) ?_
      refine Ew_of (pcₚ := 37) (fun _ => x_iconst rfl) ?_
      refine w_iushrE rfl ?_
      have g10 : inr (usI ((xoI ((usI ((xoI (x5_3) ((v4 % 256)))) (4))) (v8))) (4)) := toI_inr _
      refine Ew_of (pcₚ := 41) (fun _ => x_getstatic rfl) ?_
      refine Ew_of (pcₚ := 42) (fun _ => x_iload_n rfl rk_s) ?_
      refine Ew_of (pcₚ := 44) (fun _ => x_bipush (z := 15) rfl (by decide)) ?_
      refine w_iandG rfl ?_
      have g11 : inr (andI ((xoI ((usI ((xoI (x5_3) ((v4 % 256)))) (4))) (v8))) (15)) := toI_inr _
      have hx2 := and15r (((xoI ((usI ((xoI (x5_3) ((v4 % 256)))) (4))) (v8))))
      refine v_stI (STC_out HT HE O) (b := 1) (n := 16) rfl rfl rfl rfl (show 0 ≤ (andI ((xoI ((usI ((xoI (x5_3) ((v4 % 256)))) (4))) (v8))) (15)) ∧ (andI ((xoI ((usI ((xoI (x5_3) ((v4 % 256)))) (4))) (v8))) (15)) < 16 by omega) (fun v12 ev12 qv12 => ?_)
      have ht2 := ev12
      refine w_ixorE rfl ?_
      have g13 : inr (xoI ((usI ((xoI ((usI ((xoI (x5_3) ((v4 % 256)))) (4))) (v8))) (4))) (v12)) := toI_inr _
      refine Ew_of (pcₚ := 48) (fun _ => x_istore_n rfl) ?_
      refine Ew_of (pcₚ := 51) (fun _ => x_iinc (len := 3) rfl (rk_o (rk_o (rk_o (l5_4) rfl rfl) rfl rfl) rfl rfl)) ?_
      refine Ew_of (pcₚ := 5) (fun _ => x_goto rfl rfl) ?_
      have : PRI ((w0)) ((a2)) ((a3)) (((x5_4 + 1))) (((xoI ((usI ((xoI ((usI ((xoI (x5_3) ((v4 % 256)))) (4))) (v8))) (4))) (v12)))) := PRI_s j5_q (by omega) (pol_c hvb ht1 ht2) (by omega)
      exact ih5 _ (msE hm5 q_16 (q_17 b2)) _ _ _ _ ((xoI ((usI ((xoI ((usI ((xoI (x5_3) ((v4 % 256)))) (4))) (v8))) (4))) (v12))) ((x5_4 + 1)) (rk_o (rk_o (rk_o (rk_o (l5_0) rfl rfl) rfl rfl) rfl rfl) rfl rfl) (rk_o (rk_o (rk_o (rk_o (l5_2) rfl rfl) rfl rfl) rfl rfl) rfl rfl) (rk_o (rk_s) rfl rfl) (rk_s) H O (hS_5) (hA_5)     (show inr ((xoI ((usI ((xoI ((usI ((xoI (x5_3) ((v4 % 256)))) (4))) (v8))) (4))) (v12))) from g13) (show inr ((x5_4 + 1)) from q_2929 b2 h2 j5_1 r1) (show (a2) ≤ ((x5_4 + 1)) from q_161 j5_2) (show ((x5_4 + 1)) ≤ (a2) ∨ ((x5_4 + 1)) ≤ ((a3)) from q_160 b2) (show PRI ((w0)) ((a2)) ((a3)) (((x5_4 + 1))) (((xoI ((usI ((xoI ((usI ((xoI (x5_3) ((v4 % 256)))) (4))) (v8))) (4))) (v12)))) by assumption) rfl
abbrev V27_Row : vV := [(0, 7, [(4, 0), (0, 0), (1, 0), (0, 0), (0, 0)])]
abbrev V28_Row : vV := [(0, 7, [(4, 0), (0, 0), (1, 0), (0, 0), (0, 0)]), (1, 0, [])]
theorem len_V28_Row_oz_B4cls : (V28_Row).length = 2 := by decide +kernel
theorem oz_B4cls_25 : vsub V28_Row V159 [0, 1] = true := by decide +kernel
theorem oz_B4cls_26 : vmov V28_Row [0, 1] [1] = true := by decide +kernel
def oz_B4clsl_3 : List (Nat × Nat) := [(0, 0), (0, 1), (0, 2)]
theorem oz_B4cls_27 : (oz_B4clsl_3).all (fun p => !tbz 7 (Nat.add (Nat.mul 32 p.1) p.2)) = true := by decide +kernel
def oz_B4clsl_4 : List Nat := [1]
theorem oz_B4cls_28 : (oz_B4clsl_4).all (fun p => !tbz 2 p) = true := by decide +kernel
def oz_B4clsl_5 : List Nat := [0, 1]
theorem oz_B4cls_29 : okc oz_B4clsl_5 512 = true := by decide +kernel

theorem C28_Row {σE : rS} {D N : Nat → Nat} {F : hF} {A : hA} {d c s : Nat} {Q : wQ} (H : HW V28_Row σE D N F A) {a2 a3 : Int} (pf1 : F 0 0 = (D 1 : Int)) (n1 : Int) (en1 : (N 1 : Int) = n1) (u0_1 : Int) (eu0_1 : F 0 1 = u0_1) (h0 : inrJ (a2)) (h1 : inr (a3)) (h2 : 0 ≤ (u0_1) ∧ (u0_1) ≤ (n1) ∧ (n1) ≤ 65536) (h3 : (a3) ≤ 8) (k : ∀ (σ : rS) (Dₚ Nₚ : Nat → Nat) (Fₚ : hF) (Aₚ : hA) (cₚ sₚ : Nat), HW V28_Row σ Dₚ Nₚ Fₚ Aₚ → OUT (V28_Row).length D N σE c s Dₚ Nₚ σ cₚ sₚ → SD [1] D Dₚ → SD [1] N Nₚ → SF [(0, 0), (0, 1), (0, 2)] F Fₚ → SA [1] A Aₚ → Fₚ 0 0 = (Dₚ 1 : Int) → ∀ m1 : Int, (Nₚ 1 : Int) = m1 → ∀ y0_1 : Int, Fₚ 0 1 = y0_1 → (0 ≤ (y0_1) ∧ (y0_1) ≤ (m1) ∧ (m1) ≤ 65536) → Q none σ cₚ sₚ) : Ew 28 (d + 3) 0 (rargs 0 [.ref (D 0), J a2, I a3]) [] σE c s Q := by
  have O := OUT_refl (n := (V28_Row).length) (D := D) (N := N) (σ := σE) (c := c) (s := s)
  have HE := H
  have r1 : (-2147483648 : Int) ≤ u0_1 ∧ u0_1 ≤ 2147483647 := rngE (show (-2147483648 : Int) ≤ F 0 1 ∧ F 0 1 ≤ 2147483647 from H.krg 0 1 (ltn len_V28_Row_oz_B4cls rfl)) (show F 0 1 = u0_1 from (eu0_1))
  have r2 : (0 : Int) ≤ n1 ∧ n1 ≤ 1000000 := nleE (H.nle 1 (ltn len_V28_Row_oz_B4cls rfl)) (show (N 1 : Int) = n1 from en1)
  refine Ew_of (pcₚ := 1) (fun _ => x_iconst rfl) ?_
  refine Ew_of (pcₚ := 3) (fun _ => x_istore rfl) ?_
  suffices hl3 : ∀ (m : Nat), ∀ (ls : rO) (σ : rS) (D_3 N_3 : Nat → Nat) (c_3 s_3 : Nat) (F_3 : hF) (A_3 : hA) (x3_4 : Int), rlook ls 0 = some (.ref (D_3 0)) → rlook ls 1 = some (J (a2)) → rlook ls 3 = some (I (a3)) → rlook ls 4 = some (I (x3_4)) → HW V28_Row σ D_3 N_3 F_3 A_3 → OUT (V28_Row).length D N σE c s D_3 N_3 σ c_3 s_3 → SD [1] D D_3 → SD [1] N N_3 → SF [(0, 0), (0, 1), (0, 2)] F F_3 → SA [1] A A_3 → F_3 0 0 = (D_3 1 : Int) → ∀ m3_1 : Int, (N_3 1 : Int) = m3_1 → ∀ y3_0_1 : Int, F_3 0 1 = y3_0_1 → (inr (x3_4)) → ((0) ≤ (x3_4)) → ((x3_4) ≤ (0) ∨ (x3_4) ≤ ((a3))) → (0 ≤ (y3_0_1) ∧ (y3_0_1) ≤ (m3_1) ∧ (m3_1) ≤ 65536) → (((a3)) - (x3_4)).toNat = m → Ew 28 (d + 3) 3 ls [] σ c_3 s_3 Q from
    hl3 _ _ _ _ _ _ _ _ _ (0) (rk_o (rfl) rfl rfl) (rk_o (rfl) rfl rfl) (rk_o (rfl) rfl rfl) (rk_s) H O (SD_refl) (SD_refl) (SF_refl) (SA_refl) (pf1) (n1) (en1) (u0_1) ((eu0_1))  (show inr (0) from q_2) (show (0) ≤ (0) from q_1) (show (0) ≤ (0) ∨ (0) ≤ ((a3)) from q_5) (show 0 ≤ (u0_1) ∧ (u0_1) ≤ (n1) ∧ (n1) ≤ 65536 from h2) rfl
  as_aux_lemma =>
  intro m
  induction m using Nat.strongRecOn with
  | _ m ih3 =>
    intro ls σ D_3 N_3 c_3 s_3 F_3 A_3 x3_4 l3_0 l3_1 l3_3 l3_4 H O hD_3 hN_3 hS_3 hA_3 pm3_1 m3_1 em3_1 y3_0_1 ey3_0_1  j3_0 j3_1 j3_2 j3_3 hm3
    have cF_3 : SF oz_B4clsl_3 F F_3 := SF_trans (SF_refl) hS_3 (any_sub (by decide +kernel))
    have mF_3 := SFm_of cF_3 oz_B4cls_27
    have cA_3 : SA oz_B4clsl_4 A A_3 := SA_trans (SA_refl) hA_3 (any_subA (by decide +kernel))
    have mA_3 := SAm_of cA_3 oz_B4cls_28
    have cD_3 : SD oz_B4clsl_4 D D_3 := SD_trans (SD_refl) hD_3 (any_subA (by decide +kernel))
    have mD_3 := SDm_of cD_3 oz_B4cls_28
    have cN_3 : SD oz_B4clsl_4 N N_3 := SD_trans (SD_refl) hN_3 (any_subA (by decide +kernel))
    have mN_3 := SDm_of cN_3 oz_B4cls_28
    have r3 : (0 : Int) ≤ m3_1 ∧ m3_1 ≤ 1000000 := nleE (H.nle 1 (ltn len_V28_Row_oz_B4cls rfl)) (show (N_3 1 : Int) = m3_1 from em3_1)
    have r4 : (-2147483648 : Int) ≤ y3_0_1 ∧ y3_0_1 ≤ 2147483647 := rngE (show (-2147483648 : Int) ≤ F_3 0 1 ∧ F_3 0 1 ≤ 2147483647 from H.krg 0 1 (ltn len_V28_Row_oz_B4cls rfl)) (show F_3 0 1 = y3_0_1 from (ey3_0_1))
    refine Ew_of (pcₚ := 5) (fun _ => x_iload rfl l3_4) ?_
    refine Ew_of (pcₚ := 6) (fun _ => x_iload_n rfl l3_3) ?_
    refine w_icmpge (t := 30) rfl rfl (show inr (x3_4) from j3_0) (show inr (a3) from h1) (fun b5 => ?_) (fun b5 => ?_)
    · exact w_ret rfl (k _ _ _ _ _ _ _ H O (cD_3) (cN_3) (cF_3) (cA_3) (pm3_1) (m3_1) (em3_1) (y3_0_1) ((ey3_0_1)) (show 0 ≤ (y3_0_1) ∧ (y3_0_1) ≤ (m3_1) ∧ (m3_1) ≤ 65536 from j3_3))
    · refine Ew_of (pcₚ := 10) (fun _ => x_aload_n rfl l3_0) ?_
      refine Ew_of (pcₚ := 11) (fun _ => x_lload_n rfl l3_1) ?_
      refine Ew_of (pcₚ := 13) (fun _ => x_bipush (z := 56) rfl (by decide)) ?_
      refine Ew_of (pcₚ := 15) (fun _ => x_bipush (z := 8) rfl (by decide)) ?_
      refine Ew_of (pcₚ := 17) (fun _ => x_iload rfl l3_4) ?_
      refine w_imul rfl ?_
      refine w_isub rfl ?_
      refine w_lushrA rfl (fun z6 gz6 => ?_)
      refine w_l2iA rfl (fun z7 gz7 => ?_)
      have r8 : (0 : Int) ≤ F_3 0 2 ∧ F_3 0 2 ≤ 1 := H.krg 0 2 (ltn len_V28_Row_oz_B4cls rfl)
      refine v_inv H (o := 0) rfl rfl rfl rfl rfl rfl (by rfl) (C159 (D := puc 512 D_3) (N := puc 512 N_3) (HW_subc H oz_B4cls_25 oz_B4cls_29) (pm3_1) (m3_1) (em3_1) (y3_0_1) ((ey3_0_1)) (F_3 0 2) (rfl) (A_3 1) (rfl) (show inr (z7) from gz7) (show 0 ≤ (y3_0_1) ∧ (y3_0_1) ≤ (m3_1) ∧ (m3_1) ≤ 65536 from j3_3) (fun σ9 D9ₚ N9ₚ F9ₚ A9ₚ c9 s9 Hₚ Oₚ hD9 hN9 hS9 hA9 pm9_1 m9_1 em9_1 y9_0_1 ey9_0_1 y9_0_2 ey9_0_2 w9_1 ew9_1 pz9_0 pz9_1 pz9_2 pz9_3 => ⟨rfl, ?_⟩))
      refine v_backMc (c := c_3) (s := s_3) H oz_B4cls_25 oz_B4cls_29 Hₚ Oₚ hD9 oz_B4cls_26 (fun D9 N9 F9 A9 H Oₚ eD9 eN9 eF9 eA9 => ?_)
      have O := OUT_trans O Oₚ
      -- Row.add
      have cF9 : SF oz_B4clsl_3 F F9 := SF_trans (cF_3) (SF_gluc (ι := oz_B4clsl_5) oz_B4cls_29 hS9 eF9 (by decide +kernel)) (any_sub (lₚ := [(0, 0), (0, 1), (0, 2)]) (by decide +kernel))
      have mF9 := SFm_of cF9 oz_B4cls_27
      have cA9 : SA oz_B4clsl_4 A A9 := SA_trans (cA_3) (SA_gluc (ι := oz_B4clsl_5) oz_B4cls_29 hA9 eA9 (by decide +kernel)) (any_subA (lₚ := [1]) (by decide +kernel))
      have mA9 := SAm_of cA9 oz_B4cls_28
      have cD9 : SD oz_B4clsl_4 D D9 := SD_trans (cD_3) (SD_gluc (ι := oz_B4clsl_5) oz_B4cls_29 hD9 eD9 (by decide +kernel)) (any_subA (lₚ := [1]) (by decide +kernel))
      have mD9 := SDm_of cD9 oz_B4cls_28
      have cN9 : SD oz_B4clsl_4 N N9 := SD_trans (cN_3) (SD_gluc (ι := oz_B4clsl_5) oz_B4cls_29 hN9 eN9 (by decide +kernel)) (any_subA (lₚ := [1]) (by decide +kernel))
      have mN9 := SDm_of cN9 oz_B4cls_28
      have pf9_0_0 : F9 0 0 = (D9 1 : Int) := (eF9 0 0).trans (pm9_1.trans (congrArg (fun q : Nat => (q : Int)) (eD9 1).symm))
      have r10 : (0 : Int) ≤ m9_1 ∧ m9_1 ≤ 1000000 := nleE (H.nle 1 (ltn len_V28_Row_oz_B4cls rfl)) (show (N9 1 : Int) = m9_1 from (congrArg (fun q : Nat => (q : Int)) (eN9 1)).trans em9_1)
      have r11 : (-2147483648 : Int) ≤ y9_0_1 ∧ y9_0_1 ≤ 2147483647 := rngE (show (-2147483648 : Int) ≤ F9 0 1 ∧ F9 0 1 ≤ 2147483647 from H.krg 0 1 (ltn len_V28_Row_oz_B4cls rfl)) (show F9 0 1 = y9_0_1 from ((eF9 0 1).trans ey9_0_1))
      have r12 : (0 : Int) ≤ y9_0_2 ∧ y9_0_2 ≤ 1 := rngE (show (0 : Int) ≤ F9 0 2 ∧ F9 0 2 ≤ 1 from H.krg 0 2 (ltn len_V28_Row_oz_B4cls rfl)) (show F9 0 2 = y9_0_2 from ((eF9 0 2).trans ey9_0_2))
      refine Ew_of (pcₚ := 27) (fun _ => x_iinc (len := 3) rfl (l3_4)) ?_
      refine Ew_of (pcₚ := 3) (fun _ => x_goto rfl rfl) ?_
      exact ih3 _ (msE hm3 q_16 (q_17 b5)) _ _ _ _ _ _ _ _ ((x3_4 + 1)) ((rk_o (l3_0) rfl rfl).trans (congrArg (fun q : Nat => some (Value.ref q)) (((show D9 0 = D_3 0 from (eD9 0).trans (hD9 0 rfl)))).symm)) (rk_o (l3_1) rfl rfl) (rk_o (l3_3) rfl rfl) (rk_s) H O (SD_trans (hD_3) (SD_gluc (ι := oz_B4clsl_5) oz_B4cls_29 hD9 eD9 (by decide +kernel)) (any_subA (lₚ := [1]) (by decide +kernel))) (SD_trans (hN_3) (SD_gluc (ι := oz_B4clsl_5) oz_B4cls_29 hN9 eN9 (by decide +kernel)) (any_subA (lₚ := [1]) (by decide +kernel))) (SF_trans (hS_3) (SF_gluc (ι := oz_B4clsl_5) oz_B4cls_29 hS9 eF9 (by decide +kernel)) (any_sub (lₚ := [(0, 0), (0, 1), (0, 2)]) (by decide +kernel))) (SA_trans (hA_3) (SA_gluc (ι := oz_B4clsl_5) oz_B4cls_29 hA9 eA9 (by decide +kernel)) (any_subA (lₚ := [1]) (by decide +kernel))) (pf9_0_0) (m9_1) ((congrArg (fun q : Nat => (q : Int)) (eN9 1)).trans em9_1) (y9_0_1) (((eF9 0 1).trans ey9_0_1))  (show inr ((x3_4 + 1)) from q_2264 b5 h3 j3_1) (show (0) ≤ ((x3_4 + 1)) from q_14 j3_1) (show ((x3_4 + 1)) ≤ (0) ∨ ((x3_4 + 1)) ≤ ((a3)) from q_13 b5) (show 0 ≤ (y9_0_1) ∧ (y9_0_1) ≤ (m9_1) ∧ (m9_1) ≤ 65536 from pz9_0) rfl
abbrev V29_Row_Row : vV := [(0, 7, [(4, 0), (0, 0), (1, 0), (0, 0), (0, 0)]), (0, 7, [(4, 0), (0, 0), (1, 0), (0, 0), (0, 0)]), (1, 0, []), (1, 0, [])]
abbrev V29_Row_1a : vV := [(0, 7, [(4, 0), (0, 0), (1, 0), (0, 0), (0, 0)]), (1, 0, [])]
abbrev V192_Br : vV := [(1, 0, [])]
theorem len_V192_Br_oz_B4cls : (V192_Br).length = 1 := by decide +kernel

theorem C192_Br {σE : rS} {D N : Nat → Nat} {F : hF} {A : hA} {d c s : Nat} {Q : wQ} (H : HW V192_Br σE D N F A) (HT : STC σE) {a2 a3 : Int} (n0 : Int) (en0 : (N 0 : Int) = n0) (w0 : Int → Int) (ew0 : A 0 = w0) (h0 : inr (a2)) (h1 : inr (a3)) (h2 : 0 ≤ (a2) ∧ 0 ≤ (a3) ∧ (a3) ≤ (n0) ∧ (n0) ≤ 65536 ∧ (a2) ≤ 200000) (k : ∀ (z : Int) (σ : rS) (Fₚ : hF) (Aₚ : hA), HW V192_Br σ D N Fₚ Aₚ → OUT (V192_Br).length D N σE c s D N σ c s → SF [] F Fₚ → SA [] A Aₚ → ((z) = 0 ∨ (z) = 1) → (ISM ((w0)) ((a2)) ((a3)) ((z))) → Q (some (I z)) σ c s) : Ew 192 (d + 0) 0 (rargs 0 [.ref (D 0), I a2, I a3]) [] σE c s Q := by
  have O := OUT_refl (n := (V192_Br).length) (D := D) (N := N) (σ := σE) (c := c) (s := s)
  have HE := H
  have r1 : (0 : Int) ≤ n0 ∧ n0 ≤ 1000000 := nleE (H.nle 0 (ltn len_V192_Br_oz_B4cls rfl)) (show (N 0 : Int) = n0 from en0)
  refine Ew_of (pcₚ := 1) (fun _ => x_iload_n rfl rfl) ?_
  refine Ew_of (pcₚ := 2) (fun _ => x_iload_n rfl rfl) ?_
  refine w_isub rfl ?_
  refine Ew_of (pcₚ := 6) (fun _ => x_getstatic rfl) ?_
  refine v_stL (STC_out HT HE O) (b := 0) (n := 10) rfl rfl rfl ?_
  refine w_icmpge (t := 12) rfl rfl (show inr ((a3 - a2)) from q_2955 h2) (show inr (10) from q_746) (fun b2 => ?_) (fun b2 => ?_)
  · refine Ew_of (pcₚ := 13) (fun _ => x_iconst rfl) ?_
    refine Ew_of (pcₚ := 14) (fun _ => x_istore_n rfl) ?_
    have : ISI ((w0)) ((a2)) (0) := ISI_0
    suffices hl14 : ∀ (m : Nat), ∀ (ls : rO) (σ : rS) (F_14 : hF) (A_14 : hA) (x14_3 : Int), rlook ls 0 = some (.ref (D 0)) → rlook ls 1 = some (I (a2)) → rlook ls 3 = some (I (x14_3)) → HW V192_Br σ D N F_14 A_14 → OUT (V192_Br).length D N σE c s D N σ c s → SF [] F F_14 → SA [] A A_14 → (inr (x14_3)) → ((0) ≤ (x14_3)) → ((x14_3) ≤ (0) ∨ (x14_3) ≤ ((10))) → (ISI ((w0)) ((a2)) ((x14_3))) → (((10)) - (x14_3)).toNat = m → Ew 192 (d + 0) 14 ls [] σ c s Q from
      hl14 _ _ _ _ _ (0) (rk_o (rfl) rfl rfl) (rk_o (rfl) rfl rfl) (rk_s) H O (SF_refl) (SA_refl)     (show inr (0) from q_2) (show (0) ≤ (0) from q_1) (show (0) ≤ (0) ∨ (0) ≤ ((10)) from q_3005) (show ISI ((w0)) ((a2)) ((0)) by assumption) rfl
    as_aux_lemma =>
    intro m
    induction m using Nat.strongRecOn with
    | _ m ih14 =>
      intro ls σ F_14 A_14 x14_3 l14_0 l14_1 l14_3 H O hS_14 hA_14     j14_0 j14_1 j14_2 j14_3 hm14
      have cF_14 : SF oz_B4clsl_0 F F_14 := SF_trans (SF_refl) hS_14 (any_sub (by decide +kernel))
      have mF_14 := SFm_of cF_14 oz_B4cls_2
      have cA_14 : SA oz_B4clsl_1 A A_14 := SA_trans (SA_refl) hA_14 (any_subA (by decide +kernel))
      have mA_14 := SAm_of cA_14 oz_B4cls_3
      have j14_q : ISI ((w0)) ((a2)) ((x14_3)) := j14_3
      refine Ew_of (pcₚ := 15) (fun _ => x_iload_n rfl l14_3) ?_
      refine Ew_of (pcₚ := 18) (fun _ => x_getstatic rfl) ?_
      refine v_stL (STC_out HT HE O) (b := 0) (n := 10) rfl rfl rfl ?_
      refine w_icmpge (t := 43) rfl rfl (show inr (x14_3) from j14_0) (show inr (10) from q_746) (fun b3 => ?_) (fun b3 => ?_)
      · refine Ew_of (pcₚ := 44) (fun _ => x_iconst rfl) ?_
        have : ISM ((w0)) ((a2)) ((a3)) ((1)) := .inl ⟨rfl, by omega, fun k x y => j14_q k x (by omega)⟩
        exact w_ireturn rfl (k (1) _ _ _ H O (cF_14) (cA_14) (show (1) = 0 ∨ (1) = 1 by first | exact q_49 | omega) (show ISM ((w0)) (a2) (a3) ((1)) by assumption))
      · refine Ew_of (pcₚ := 23) (fun _ => x_aload_n rfl l14_0) ?_
        refine Ew_of (pcₚ := 24) (fun _ => x_iload_n rfl l14_1) ?_
        refine Ew_of (pcₚ := 25) (fun _ => x_iload_n rfl l14_3) ?_
        refine w_iadd rfl ?_
        refine v_lB H (o := 0) rfl rfl rfl rfl (n := n0) (en0) (show 0 ≤ (a2 + x14_3) ∧ (a2 + x14_3) < n0 from q_3006 b2 b3 h2 j14_1) (fun v4 ev4 qv4 => ?_)
        have ev4 : (w0) ((a2 + x14_3)) = v4 := (congrFun ((funext (mA_14 0 rfl)).trans (ew0)) ((a2 + x14_3))).symm.trans ev4
        have hv1 := ev4
        have hBr : ∀ i, (-128 : Int) ≤ (w0) i ∧ (w0) i ≤ 127 := fun i => by have h1 : (-128 : Int) ≤ A_14 0 i ∧ A_14 0 i ≤ 127 := H.arg 0 i (by decide) rfl; rw [show A_14 0 = w0 from (funext (mA_14 0 rfl)).trans (ew0)] at h1; exact h1
        have hvr := hBr ((a2) + (x14_3))
        rw [hv1] at hvr
        refine Ew_of (pcₚ := 30) (fun _ => x_getstatic rfl) ?_
        refine Ew_of (pcₚ := 31) (fun _ => x_iload_n rfl l14_3) ?_
        refine v_stB (STC_out HT HE O) (b := 0) (n := 10) rfl rfl rfl rfl (show 0 ≤ x14_3 ∧ x14_3 < 10 from q_3007 b3 j14_1) (fun v5 ev5 qv5 => ?_)
        have hmk := mk_u8 (i := (x14_3)) (by omega) ev5
        refine w_icmpeq (t := 37) rfl rfl (show inr (v4) from q_97 qv4) (show inr (v5) by omega) (fun b6 => ?_) (fun b6 => ?_)
        · have : ISI ((w0)) ((a2)) ((x14_3) + 1) := ISI_s j14_q (by rw [hv1]; first | exact hmk.1 | (rw [← hmk.1]; congr 1)) rfl
          refine Ew_of (pcₚ := 40) (fun _ => x_iinc (len := 3) rfl (l14_3)) ?_
          refine Ew_of (pcₚ := 14) (fun _ => x_goto rfl rfl) ?_
          exact ih14 _ (msE hm14 q_3010 (q_3011 b3)) _ _ _ _ ((x14_3 + 1)) (rk_o (l14_0) rfl rfl) (rk_o (l14_1) rfl rfl) (rk_s) H O (hS_14) (hA_14)     (show inr ((x14_3 + 1)) from q_3009 b3 j14_1) (show (0) ≤ ((x14_3 + 1)) from q_14 j14_1) (show ((x14_3 + 1)) ≤ (0) ∨ ((x14_3 + 1)) ≤ ((10)) from q_3008 b3) (show ISI ((w0)) ((a2)) (((x14_3 + 1))) by assumption) rfl
        · refine Ew_of (pcₚ := 36) (fun _ => x_iconst rfl) ?_
          have : ISM ((w0)) ((a2)) ((a3)) ((0)) := ISM_n (by omega) hv1 hmk.1 hmk.2 hvr (by omega)
          exact w_ireturn rfl (k (0) _ _ _ H O (cF_14) (cA_14) (show (0) = 0 ∨ (0) = 1 by first | exact q_45 | omega) (show ISM ((w0)) (a2) (a3) ((0)) by assumption))
  · refine Ew_of (pcₚ := 11) (fun _ => x_iconst rfl) ?_
    have : ISM ((w0)) ((a2)) ((a3)) ((0)) := .inr ⟨rfl, fun z => absurd z.1 (by omega)⟩
    exact w_ireturn rfl (k (0) _ _ _ H O (SF_refl) (SA_refl) (show (0) = 0 ∨ (0) = 1 by first | exact q_45 | omega) (show ISM ((w0)) (a2) (a3) ((0)) by assumption))
abbrev V33_Row : vV := [(0, 7, [(4, 0), (0, 0), (1, 0), (0, 0), (0, 0)]), (1, 0, [])]
