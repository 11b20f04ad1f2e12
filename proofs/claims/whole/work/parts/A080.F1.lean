abbrev V98 : vV := []
theorem C98 {σE : rS} {D N : Nat → Nat} {F : hF} {A : hA} {d c s : Nat} {Q : wQ} (H : HW V98 σE D N F A) {a1 a2 : Int} (h0 : inr (a1)) (h1 : inr (a2)) (h2 : 1 ≤ (a1) ∧ (a1) ≤ 65536) (h3 : 0 ≤ (a2) ∧ (a2) ≤ 30) (k : ∀ (z : Int) (σ : rS) (Fₚ : hF) (Aₚ : hA), HW V98 σ D N Fₚ Aₚ → OUT (V98).length D N σE c s D N σ c s → SF [] F Fₚ → SA [] A Aₚ → (inr (z)) → (1 ≤ (z) ∧ (z) ≤ 65536) → ((a2) = 30 → (z) = 1) → ((z) = ((a1) + p2 (a2) - 1) / p2 (a2)) → Q (some (I z)) σ c s) : Ew 98 (d + 0) 0 (rargs 0 [I a1, I a2]) [] σE c s Q := by
  have O := OUT_refl (n := (V98).length) (D := D) (N := N) (σ := σE) (c := c) (s := s)
  have HE := H
  have hp := p2_pos (a2)
  have hp30 : p2 (a2) ≤ p2 30 := p2_mono (by omega)
  have hq30 : p2 30 = 1073741824 := by decide
  refine Ew_of (pcₚ := 1) (fun _ => x_iload_n rfl rfl) ?_
  refine Ew_of (pcₚ := 2) (fun _ => x_iconst rfl) ?_
  refine Ew_of (pcₚ := 3) (fun _ => x_iload_n rfl rfl) ?_
  refine w_ishl1 rfl (show 0 ≤ a2 ∧ a2 ≤ 31 from q_2091 h3) ?_
  refine w_iadd rfl ?_
  refine Ew_of (pcₚ := 6) (fun _ => x_iconst rfl) ?_
  refine w_isub rfl ?_
  refine Ew_of (pcₚ := 8) (fun _ => x_iload_n rfl rfl) ?_
  refine w_ishrX rfl (show inr (((a1 + p2 (a2)) - 1)) by omega) (fun z2 gz2 dz2 => ?_)
  have hz : ((z2) : Int) = ((a1) + p2 (a2) - 1) / p2 (a2) := by omega
  have hh := halv (by omega) (by omega) (by omega) (by omega) hz
  exact w_ireturn rfl (k (z2) _ _ _ H O (SF_refl) (SA_refl) (show inr (z2) by omega) (show 1 ≤ (z2) ∧ (z2) ≤ 65536 by omega) (show a2 = 30 → (z2) = 1 by omega) (show (z2) = (a1 + p2 a2 - 1) / p2 a2 from hz))
abbrev V99_Ir : vV := [(0, 3, [(4, 0), (4, 0), (4, 0), (0, 0), (4, 0), (4, 0), (4, 0), (4, 0), (4, 0), (4, 0), (4, 0), (4, 0), (4, 0), (0, 0), (0, 0), (0, 0), (0, 0)]), (1, 1, []), (1, 1, []), (1, 1, [])]
theorem len_V99_Ir_oz_F1cls : (V99_Ir).length = 4 := by decide +kernel
theorem oz_F1cls_2 : vsub V99_Ir V98 [] = true := by decide +kernel
def oz_F1clsl_0 : List (Nat × Nat) := [(0, 14)]
theorem oz_F1cls_3 : (oz_F1clsl_0).all (fun p => !tbz 16384 (Nat.add (Nat.mul 32 p.1) p.2)) = true := by decide +kernel
def oz_F1clsl_1 : List Nat := [2, 3]
theorem oz_F1cls_4 : (oz_F1clsl_1).all (fun p => !tbz 12 p) = true := by decide +kernel
def oz_F1clsl_2 : List Nat := []
theorem oz_F1cls_5 : okc oz_F1clsl_2 0 = true := by decide +kernel

theorem C99_Ir {σE : rS} {D N : Nat → Nat} {F : hF} {A : hA} {d c s : Nat} {Q : wQ} (H : HW V99_Ir σE D N F A) {a2 : Int} (pf2 : F 0 11 = (D 2 : Int)) (pf3 : F 0 10 = (D 3 : Int)) (n1 : Int) (en1 : (N 1 : Int) = n1) (n2 : Int) (en2 : (N 2 : Int) = n2) (n3 : Int) (en3 : (N 3 : Int) = n3) (u0_14 : Int) (eu0_14 : F 0 14 = u0_14) (w1 : Int → Int) (ew1 : A 1 = w1) (w2 : Int → Int) (ew2 : A 2 = w2) (w3 : Int → Int) (ew3 : A 3 = w3) (h0 : inr (a2)) (h1 : (n2) = 512 ∧ (n3) = 256 ∧ (n1) = 256) (h2 : CTS ((w1))) (h3 : 0 ≤ (a2) ∧ (a2) ≤ 30) (k : ∀ (σ : rS) (Fₚ : hF) (Aₚ : hA), HW V99_Ir σ D N Fₚ Aₚ → OUT (V99_Ir).length D N σE c s D N σ c s → SF [(0, 14)] F Fₚ → SA [2, 3] A Aₚ → ∀ y0_14 : Int, Fₚ 0 14 = y0_14 → ∀ v2 : Int → Int, Aₚ 2 = v2 → ∀ v3 : Int → Int, Aₚ 3 = v3 → (SRT ((v2)) 0 ((y0_14))) → (GEA ((v2)) ((y0_14)) (a2)) → (ORD ((v3)) ((y0_14))) → ((y0_14) = su (fun i => pos1 (((w1)) i)) 256) → (0 ≤ (y0_14) ∧ (y0_14) ≤ 256) → (LSP (hvF ((w1)) ((a2))) ((v2)) ((v3)) ((y0_14)) (256)) → Q none σ c s) : Ew 99 (d + 1) 0 (rargs 0 [.ref (D 0), .ref (D 1), I a2]) [] σE c s Q := by
  have O := OUT_refl (n := (V99_Ir).length) (D := D) (N := N) (σ := σE) (c := c) (s := s)
  have HE := H
  have r1 : (-2147483648 : Int) ≤ u0_14 ∧ u0_14 ≤ 2147483647 := rngE (show (-2147483648 : Int) ≤ F 0 14 ∧ F 0 14 ≤ 2147483647 from H.krg 0 14 (ltn len_V99_Ir_oz_F1cls rfl)) (show F 0 14 = u0_14 from (eu0_14))
  have r2 : (0 : Int) ≤ n1 ∧ n1 ≤ 1000000 := nleE (H.nle 1 (ltn len_V99_Ir_oz_F1cls rfl)) (show (N 1 : Int) = n1 from en1)
  have r3 : (0 : Int) ≤ n2 ∧ n2 ≤ 1000000 := nleE (H.nle 2 (ltn len_V99_Ir_oz_F1cls rfl)) (show (N 2 : Int) = n2 from en2)
  have r4 : (0 : Int) ≤ n3 ∧ n3 ≤ 1000000 := nleE (H.nle 3 (ltn len_V99_Ir_oz_F1cls rfl)) (show (N 3 : Int) = n3 from en3)
  have hco : CTS ((w1)) := h2
  refine Ew_of (pcₚ := 1) (fun _ => x_aload_n rfl rfl) ?_
  refine Ew_of (pcₚ := 2) (fun _ => x_iconst rfl) ?_
  refine v_p H (o := 0) (z := 0) (v := I (0)) rfl rfl rfl rfl rfl rfl rfl rfl (show (-2147483648 : Int) ≤ 0 ∧ 0 ≤ 2147483647 from q_22) (fun σ H Oₚ => ?_)
  have O := OUT_trans O Oₚ
  have cFu5 : SF oz_F1clsl_0 F (updF F 0 14 (0)) := SF_upd (SF_refl) rfl
  have mFu5 := SFm_of cFu5 oz_F1cls_3
  refine Ew_of (pcₚ := 6) (fun _ => x_iconst rfl) ?_
  refine Ew_of (pcₚ := 7) (fun _ => x_istore_n rfl) ?_
  have hls0 : LSP (hvF ((w1)) ((a2))) ((w2)) ((w3)) 0 (0) := LSP_0
  have hs0 : SRT ((w2)) 0 0 := fun i j a b c => by omega
  have hg0 : GEA ((w2)) 0 (a2) := fun i a b => by omega
  have ho0 : ORD ((w3)) 0 := fun i a b => by omega
  have : su (fun i => pos1 (((w1)) i)) (0 : Int).toNat = 0 := rfl
  suffices hl7 : ∀ (m : Nat), ∀ (ls : rO) (σ : rS) (F_7 : hF) (A_7 : hA) (x7_3 : Int), rlook ls 0 = some (.ref (D 0)) → rlook ls 1 = some (.ref (D 1)) → rlook ls 2 = some (I (a2)) → rlook ls 3 = some (I (x7_3)) → HW V99_Ir σ D N F_7 A_7 → OUT (V99_Ir).length D N σE c s D N σ c s → SF [(0, 14)] (updF F 0 14 (0)) F_7 → SA [2, 3] A A_7 → ∀ y7_0_14 : Int, F_7 0 14 = y7_0_14 → ∀ w7_2 : Int → Int, A_7 2 = w7_2 → ∀ w7_3 : Int → Int, A_7 3 = w7_3 → (inr (x7_3)) → ((0) ≤ (x7_3)) → ((x7_3) ≤ (0) ∨ (x7_3) ≤ ((256))) → (LSP (hvF ((w1)) ((a2))) ((w7_2)) ((w7_3)) ((y7_0_14)) ((x7_3))) → (0 ≤ ((y7_0_14)) ∧ ((y7_0_14)) ≤ (x7_3)) → (SRT ((w7_2)) 0 ((y7_0_14))) → (GEA ((w7_2)) ((y7_0_14)) (a2)) → (ORD ((w7_3)) ((y7_0_14))) → (((y7_0_14)) = su (fun i => pos1 (((w1)) i)) ((x7_3) : Int).toNat) → (((256)) - (x7_3)).toNat = m → Ew 99 (d + 1) 7 ls [] σ c s Q from
    hl7 _ _ _ _ _ (0) (rk_o (rfl) rfl rfl) (rk_o (rfl) rfl rfl) (rk_o (rfl) rfl rfl) (rk_s) H O (SF_refl) (SA_refl)   (0) (rfl) (w2) (ew2) (w3) (ew3) (show inr (0) from q_2) (show (0) ≤ (0) from q_1) (show (0) ≤ (0) ∨ (0) ≤ ((256)) from q_0) (hls0) (show 0 ≤ ((0)) ∧ ((0)) ≤ (0) from q_4) (hs0) (hg0) (ho0) (show ((0)) = su (fun i => pos1 (((w1)) i)) ((0) : Int).toNat by omega) rfl
  as_aux_lemma =>
  intro m
  induction m using Nat.strongRecOn with
  | _ m ih7 =>
    intro ls σ F_7 A_7 x7_3 l7_0 l7_1 l7_2 l7_3 H O hS_7 hA_7   y7_0_14 ey7_0_14 w7_2 ew7_2 w7_3 ew7_3 j7_0 j7_1 j7_2 j7_3 j7_4 j7_5 j7_6 j7_7 j7_8 hm7
    have cF_7 : SF oz_F1clsl_0 F F_7 := SF_trans (cFu5) hS_7 (any_sub (by decide +kernel))
    have mF_7 := SFm_of cF_7 oz_F1cls_3
    have cA_7 : SA oz_F1clsl_1 A A_7 := SA_trans (SA_refl) hA_7 (any_subA (by decide +kernel))
    have mA_7 := SAm_of cA_7 oz_F1cls_4
    have r6 : (-2147483648 : Int) ≤ y7_0_14 ∧ y7_0_14 ≤ 2147483647 := rngE (show (-2147483648 : Int) ≤ F_7 0 14 ∧ F_7 0 14 ≤ 2147483647 from H.krg 0 14 (ltn len_V99_Ir_oz_F1cls rfl)) (show F_7 0 14 = y7_0_14 from (ey7_0_14))
    have j7_l : LSP (hvF ((w1)) ((a2))) ((w7_2)) ((w7_3)) ((y7_0_14)) ((x7_3)) := j7_3
    refine Ew_of (pcₚ := 8) (fun _ => x_iload_n rfl l7_3) ?_
    refine Ew_of (pcₚ := 11) (fun _ => x_sipush (z := 256) rfl (by decide)) ?_
    refine w_icmpge (t := 125) rfl rfl (show inr (x7_3) from j7_0) (show inr (256) from q_3) (fun b7 => ?_) (fun b7 => ?_)
    · have hlsE : LSP (hvF ((w1)) ((a2))) ((w7_2)) ((w7_3)) ((y7_0_14)) (256) := by have h := j7_l; rw [show (x7_3) = 256 by omega] at h; exact h
      have hl3 : (x7_3) = 256 := q_3603 b7 j7_2
      have hfin : ((y7_0_14)) = su (fun i => pos1 (((w1)) i)) 256 := (show ((y7_0_14)) = su (fun i => pos1 (((w1)) i)) ((x7_3) : Int).toNat by omega).trans (by rw [hl3]; rfl)
      exact w_ret rfl (k _ _ _ H O (cF_7) (cA_7) (y7_0_14) ((ey7_0_14)) (w7_2) (ew7_2) (w7_3) (ew7_3) (j7_5) (j7_6) (j7_7) (show (y7_0_14) = su (fun i => pos1 (((w1)) i)) 256 by omega) (show 0 ≤ (y7_0_14) ∧ (y7_0_14) ≤ 256 from q_3604 hl3 j7_4) (hlsE))
    · refine Ew_of (pcₚ := 15) (fun _ => x_aload_n rfl l7_1) ?_
      refine Ew_of (pcₚ := 16) (fun _ => x_iload_n rfl l7_3) ?_
      refine v_lI H (o := 1) rfl rfl rfl rfl (n := n1) (en1) (show 0 ≤ x7_3 ∧ x7_3 < n1 from q_3605 b7 h1 j7_1) (fun v8 ev8 qv8 => ?_)
      have ev8 : (w1) (x7_3) = v8 := (congrFun ((funext (mA_7 1 rfl)).trans (ew1)) (x7_3)).symm.trans ev8
      have hcv := ev8
      have hcb := hco ((x7_3)) (by omega) (by omega)
      have hzl0 : (v8) ≤ 0 → (hvF ((w1)) ((a2))) ((x7_3)) ≤ 0 := fun q => by show (((w1)) ((x7_3)) + p2 (a2) - 1) / p2 (a2) ≤ 0; rw [hcv, show (v8) = 0 by omega, Int.ediv_eq_zero_of_lt (by have := p2_pos (a2); omega) (by omega)]; exact Int.le_refl 0
      have hps := pos1_eq (((w1)) (x7_3))
      have hsu : su (fun i => pos1 (((w1)) i)) ((x7_3) + 1 : Int).toNat = su (fun i => pos1 (((w1)) i)) ((x7_3) : Int).toNat + pos1 (((w1)) (x7_3)) := su_s (f := fun i => pos1 (((w1)) i)) (i := (x7_3)) (by omega)
      refine w_ifle (t := 119) rfl rfl (show inr (v8) from qv8) (fun b9 => ?_) (fun b9 => ?_)
      · refine Ew_of (pcₚ := 122) (fun _ => x_iinc (len := 3) rfl (l7_3)) ?_
        refine Ew_of (pcₚ := 7) (fun _ => x_goto rfl rfl) ?_
        have hls1 : LSP (hvF ((w1)) ((a2))) ((w7_2)) ((w7_3)) ((y7_0_14)) (((x7_3 + 1))) := by first | exact LSP_in j7_l hmvE hmwE (by omega) (by omega) hxl (by omega) hloE hhiE rfl rfl | exact LSP_no j7_l (hzl0 (by omega)) rfl
        exact ih7 _ (msE hm7 q_26 (q_27 b7)) _ _ _ _ ((x7_3 + 1)) (rk_o (l7_0) rfl rfl) (rk_o (l7_1) rfl rfl) (rk_o (l7_2) rfl rfl) (rk_s) H O (hS_7) (hA_7)   (y7_0_14) ((ey7_0_14)) (w7_2) (ew7_2) (w7_3) (ew7_3) (show inr ((x7_3 + 1)) from q_25 b7 j7_1) (show (0) ≤ ((x7_3 + 1)) from q_14 j7_1) (show ((x7_3 + 1)) ≤ (0) ∨ ((x7_3 + 1)) ≤ ((256)) from q_24 b7) (hls1) (show 0 ≤ ((y7_0_14)) ∧ ((y7_0_14)) ≤ ((x7_3 + 1)) from q_2559 j7_4) (j7_5) (j7_6) (j7_7) (show ((y7_0_14)) = su (fun i => pos1 (((w1)) i)) (((x7_3 + 1)) : Int).toNat by omega) rfl
      · refine Ew_of (pcₚ := 21) (fun _ => x_aload_n rfl l7_1) ?_
        refine Ew_of (pcₚ := 22) (fun _ => x_iload_n rfl l7_3) ?_
        refine v_lI H (o := 1) rfl rfl rfl rfl (n := n1) (en1) (show 0 ≤ x7_3 ∧ x7_3 < n1 from q_3605 b7 h1 j7_1) (fun v10 ev10 qv10 => ?_)
        have ev10 : (w1) (x7_3) = v10 := (congrFun ((funext (mA_7 1 rfl)).trans (ew1)) (x7_3)).symm.trans ev10
        have hcw := ev10
        refine Ew_of (pcₚ := 24) (fun _ => x_iload_n rfl l7_2) ?_
        refine w_stat24 rfl rfl (by rfl) (C98 (D := puc 0 D) (N := puc 0 N) (HW_subc H oz_F1cls_2 oz_F1cls_5) (show inr (v10) from qv10) (show inr (a2) from h0) (show 1 ≤ (v10) ∧ (v10) ≤ 65536 by omega) (show 0 ≤ (a2) ∧ (a2) ≤ 30 from h3) (fun z11 σ11 F11ₚ A11ₚ Hₚ Oₚ hS11 hA11 pz11_0 pz11_1 pz11_2 pz11_3 => ⟨rfl, ?_⟩))
        refine v_backc (c := c) (s := s) H oz_F1cls_2 oz_F1cls_5 Hₚ Oₚ (fun F11 A11 H Oₚ eF11 eA11 => ?_)
        have O := OUT_trans O Oₚ
        -- Codes.halvedCount
        have cF11 : SF oz_F1clsl_0 F F11 := SF_trans (cF_7) (SF_gluc (ι := oz_F1clsl_2) oz_F1cls_5 hS11 eF11 (by decide +kernel)) (any_sub (lₚ := []) (by decide +kernel))
        have mF11 := SFm_of cF11 oz_F1cls_3
        have cA11 : SA oz_F1clsl_1 A A11 := SA_trans (cA_7) (SA_gluc (ι := oz_F1clsl_2) oz_F1cls_5 hA11 eA11 (by decide +kernel)) (any_subA (lₚ := []) (by decide +kernel))
        have mA11 := SAm_of cA11 oz_F1cls_4
        refine Ew_of (pcₚ := 29) (fun _ => x_istore rfl) ?_
        have hxl : (z11) = (hvF ((w1)) ((a2))) ((x7_3)) := by show (z11) = (((w1)) ((x7_3)) + p2 (a2) - 1) / p2 (a2); rw [hcw]; exact pz11_3
        obtain ⟨am0, ham0⟩ : ∃ f : Int → Int, f = (w7_2) := ⟨_, rfl⟩
        obtain ⟨od0, hod0⟩ : ∃ f : Int → Int, f = (w7_3) := ⟨_, rfl⟩
        rw [← ham0, ← hod0] at j7_l
        refine Ew_of (pcₚ := 30) (fun _ => x_aload_n rfl (rk_o (l7_0) rfl rfl)) ?_
        refine v_g H (o := 0) (v := I (y7_0_14)) rfl rfl rfl rfl rfl (congrArg (fun z : Int => I z) ((((show F11 0 14 = F_7 0 14 from (eF11 0 14))).trans (ey7_0_14)) : F11 0 14 = y7_0_14)) ?_
        refine Ew_of (pcₚ := 35) (fun _ => x_istore rfl) ?_
        have hmv0 : MVU am0 ((w7_2)) ((y7_0_14)) ((y7_0_14)) := by rw [ham0]; exact MVU_0
        have hmw0 : MVU od0 ((w7_3)) ((y7_0_14)) ((y7_0_14)) := by rw [hod0]; exact MVU_0
        have hhi0 : ∀ i, ((y7_0_14)) ≤ i → i < ((y7_0_14)) → (z11) < am0 i := fun i a b => absurd b (by omega)
        have hi0 : INS ((w7_2)) ((w7_3)) (y7_0_14) ((y7_0_14)) (z11) (a2) := INS_0 (by omega) (by assumption) (by assumption) (by assumption)
        suffices hl35 : ∀ (m : Nat), ∀ (ls : rO) (σ : rS) (F_35 : hF) (A_35 : hA) (x35_5 : Int), rlook ls 0 = some (.ref (D 0)) → rlook ls 1 = some (.ref (D 1)) → rlook ls 2 = some (I (a2)) → rlook ls 3 = some (I (x7_3)) → rlook ls 4 = some (I (z11)) → rlook ls 5 = some (I (x35_5)) → HW V99_Ir σ D N F_35 A_35 → OUT (V99_Ir).length D N σE c s D N σ c s → SF [] F11 F_35 → SA [2, 3] A11 A_35 → ∀ w35_2 : Int → Int, A_35 2 = w35_2 → ∀ w35_3 : Int → Int, A_35 3 = w35_3 → (inr (x35_5)) → (MVU am0 ((w35_2)) ((x35_5)) ((y7_0_14))) → (MVU od0 ((w35_3)) ((x35_5)) ((y7_0_14))) → (∀ i, (x35_5) ≤ i → i < ((y7_0_14)) → (z11) < am0 i) → (INS ((w35_2)) ((w35_3)) (x35_5) ((y7_0_14)) (z11) (a2)) → (0 ≤ (x35_5) ∧ (x35_5) ≤ ((y7_0_14))) → ((x35_5)).toNat = m → Ew 99 (d + 1) 35 ls [] σ c s Q from
          hl35 _ _ _ _ _ (y7_0_14) (rk_o (rk_o (l7_0) rfl rfl) rfl rfl) (rk_o (rk_o (l7_1) rfl rfl) rfl rfl) (rk_o (rk_o (l7_2) rfl rfl) rfl rfl) (rk_o (rk_o (l7_3) rfl rfl) rfl rfl) (rk_o (rk_s) rfl rfl) (rk_s) H O (SF_refl) (SA_refl)    (w7_2) (((show A11 2 = A_7 2 from (eA11 2))).trans (ew7_2)) (w7_3) (((show A11 3 = A_7 3 from (eA11 3))).trans (ew7_3)) (show inr (y7_0_14) from q_512 j7_4 r6) (hmv0) (hmw0) (hhi0) (hi0) (show 0 ≤ (y7_0_14) ∧ (y7_0_14) ≤ ((y7_0_14)) from q_3606 j7_4) rfl
        as_aux_lemma =>
        intro m
        induction m using Nat.strongRecOn with
        | _ m ih35 =>
          intro ls σ F_35 A_35 x35_5 l35_0 l35_1 l35_2 l35_3 l35_4 l35_5 H O hS_35 hA_35    w35_2 ew35_2 w35_3 ew35_3 j35_0 j35_1 j35_2 j35_3 j35_4 j35_5 hm35
          have cF_35 : SF oz_F1clsl_0 F F_35 := SF_trans (cF11) hS_35 (any_sub (by decide +kernel))
          have mF_35 := SFm_of cF_35 oz_F1cls_3
          have cA_35 : SA oz_F1clsl_1 A A_35 := SA_trans (cA11) hA_35 (any_subA (by decide +kernel))
          have mA_35 := SAm_of cA_35 oz_F1cls_4
          have j35_a : MVU am0 ((w35_2)) ((x35_5)) ((y7_0_14)) := j35_1
          have j35_o : MVU od0 ((w35_3)) ((x35_5)) ((y7_0_14)) := j35_2
          have j35_h : ∀ i, (x35_5) ≤ i → i < ((y7_0_14)) → (z11) < am0 i := by assumption
          have hins : INS ((w35_2)) ((w35_3)) (x35_5) ((y7_0_14)) (z11) (a2) := j35_4
          refine Ew_of (pcₚ := 37) (fun _ => x_iload rfl l35_5) ?_
          have hc92 : ∀ (ls : rO) (σ : rS) (F_c92 : hF) (A_c92 : hA) , rlook ls 0 = some (.ref (D 0)) → rlook ls 1 = some (.ref (D 1)) → rlook ls 2 = some (I (a2)) → rlook ls 3 = some (I (x7_3)) → rlook ls 4 = some (I (z11)) → rlook ls 5 = some (I (x35_5)) → HW V99_Ir σ D N F_c92 A_c92 → OUT (V99_Ir).length D N σE c s D N σ c s → SF [] F_35 F_c92 → SA [] A_35 A_c92 → (((x35_5) ≤ (0)) ∨ ((x35_5) > (0) ∧ -2147483648 ≤ ((w35_2) ((x35_5 - 1))) ∧ ((w35_2) ((x35_5 - 1))) ≤ 2147483647 ∧ ((w35_2) ((x35_5 - 1))) ≤ (z11))) → Ew 99 (d + 1) 92 ls [] σ c s Q := by
           as_aux_lemma =>
            intro  ls σ F_c92 A_c92  lc92_0 lc92_1 lc92_2 lc92_3 lc92_4 lc92_5 H O hS_c92 hA_c92     jc92_0
            have cF_c92 : SF oz_F1clsl_0 F F_c92 := SF_trans (cF_35) hS_c92 (any_sub (by decide +kernel))
            have mF_c92 := SFm_of cF_c92 oz_F1cls_3
            have cA_c92 : SA oz_F1clsl_1 A A_c92 := SA_trans (cA_35) hA_c92 (any_subA (by decide +kernel))
            have mA_c92 := SAm_of cA_c92 oz_F1cls_4
            have hmvE := j35_a
            have hmwE := j35_o
            have hhiE := j35_h
            have hloE : ((x35_5) : Int) = 0 ∨ am0 ((x35_5) - 1) ≤ (z11) := by by_cases q : ((x35_5) : Int) = 0; (exact .inl q); ((rw [← j35_a.1 ((x35_5) - 1) (by omega) (by omega)]; exact .inr (by omega)))
            have hxx : ((x35_5) : Int) = 0 ∨ ((w35_2)) ((x35_5) - 1) ≤ (z11) := by omega
            have hie := INS_end (s := (x7_3)) (e2 := ((y7_0_14)) + 1) hins hxx rfl ⟨by omega, by omega, fun q => by omega⟩ ⟨by omega, by omega⟩
            refine Ew_of (pcₚ := 93) (fun _ => x_aload_n rfl lc92_0) ?_
            refine v_g H (o := 0) (v := .ref (D 2)) rfl rfl rfl rfl rfl (vrf ((mF_c92 0 11 rfl).trans (pf2))) ?_
            refine Ew_of (pcₚ := 98) (fun _ => x_iload rfl lc92_5) ?_
            refine Ew_of (pcₚ := 100) (fun _ => x_iload rfl lc92_4) ?_
            refine v_sI H (o := 2) (z := z11) rfl rfl rfl rfl (n := n2) (en2) (show 0 ≤ x35_5 ∧ x35_5 < n2 from q_3607 b7 h1 j35_5 j7_4 r3) (show inr (z11) from pz11_0) (fun σ H Oₚ => ?_)
            have O := OUT_trans O Oₚ
            have cAu12 : SA oz_F1clsl_1 A (updA A_c92 2 (x35_5) (z11)) := SA_upd (cA_c92) rfl
            have mAu12 := SAm_of cAu12 oz_F1cls_4
            refine Ew_of (pcₚ := 102) (fun _ => x_aload_n rfl lc92_0) ?_
            refine v_g H (o := 0) (v := .ref (D 3)) rfl rfl rfl rfl rfl (vrf ((mF_c92 0 10 rfl).trans (pf3))) ?_
            refine Ew_of (pcₚ := 107) (fun _ => x_iload rfl lc92_5) ?_
            refine Ew_of (pcₚ := 108) (fun _ => x_iload_n rfl lc92_3) ?_
            refine v_sI H (o := 3) (z := x7_3) rfl rfl rfl rfl (n := n3) (en3) (show 0 ≤ x35_5 ∧ x35_5 < n3 from q_3608 b7 h1 j35_5 j7_4) (show inr (x7_3) from j7_0) (fun σ H Oₚ => ?_)
            have O := OUT_trans O Oₚ
            have cAu13 : SA oz_F1clsl_1 A (updA (updA A_c92 2 (x35_5) (z11)) 3 (x35_5) (x7_3)) := SA_upd (cAu12) rfl
            have mAu13 := SAm_of cAu13 oz_F1cls_4
            have hq1 := hie.1
            have hq2 := hie.2.1
            have hq3 := hie.2.2
            refine Ew_of (pcₚ := 110) (fun _ => x_aload_n rfl lc92_0) ?_
            refine Ew_of (pcₚ := 111) (fun _ => x_dup rfl rfl) ?_
            refine v_g H (o := 0) (v := I (y7_0_14)) rfl rfl rfl rfl rfl (congrArg (fun z : Int => I z) (((((hS_c92 0 14 rfl).trans (hS_35 0 14 rfl)).trans ((show F11 0 14 = F_7 0 14 from (eF11 0 14)))).trans (ey7_0_14)) : F_c92 0 14 = y7_0_14)) ?_
            refine Ew_of (pcₚ := 115) (fun _ => x_iconst rfl) ?_
            refine w_iadd rfl ?_
            refine v_p H (o := 0) (z := (y7_0_14 + 1)) (v := I ((y7_0_14 + 1))) rfl rfl rfl rfl rfl rfl rfl rfl (show (-2147483648 : Int) ≤ (y7_0_14 + 1) ∧ (y7_0_14 + 1) ≤ 2147483647 from q_3609 b7 j7_4) (fun σ H Oₚ => ?_)
            have O := OUT_trans O Oₚ
            have cFu14 : SF oz_F1clsl_0 F (updF F_c92 0 14 ((y7_0_14 + 1))) := SF_upd (cF_c92) rfl
            have mFu14 := SFm_of cFu14 oz_F1cls_3
            refine Ew_of (pcₚ := 122) (fun _ => x_iinc (len := 3) rfl (lc92_3)) ?_
            refine Ew_of (pcₚ := 7) (fun _ => x_goto rfl rfl) ?_
            have hls1 : LSP (hvF ((w1)) ((a2))) ((upd1 (w35_2) (x35_5) (z11))) ((upd1 (w35_3) (x35_5) (x7_3))) (((y7_0_14 + 1))) (((x7_3 + 1))) := by first | exact LSP_in j7_l hmvE hmwE (by omega) (by omega) hxl (by omega) hloE hhiE rfl rfl | exact LSP_no j7_l (hzl0 (by omega)) rfl
            exact ih7 _ (msE hm7 q_26 (q_27 b7)) _ _ _ _ ((x7_3 + 1)) (rk_o (lc92_0) rfl rfl) (rk_o (lc92_1) rfl rfl) (rk_o (lc92_2) rfl rfl) (rk_s) H O (SF_upd (SF_trans (SF_trans (SF_trans (hS_7) (SF_gluc (ι := oz_F1clsl_2) oz_F1cls_5 hS11 eF11 (by decide +kernel)) (any_sub (lₚ := []) (by decide +kernel))) hS_35 (any_sub (by decide +kernel))) hS_c92 (any_sub (by decide +kernel))) rfl) (SA_upd (SA_upd (SA_trans (SA_trans (SA_trans (hA_7) (SA_gluc (ι := oz_F1clsl_2) oz_F1cls_5 hA11 eA11 (by decide +kernel)) (any_subA (lₚ := []) (by decide +kernel))) hA_35 (any_subA (by decide +kernel))) hA_c92 (any_subA (by decide +kernel))) rfl) rfl)   ((y7_0_14 + 1)) (rfl) (upd1 (w35_2) (x35_5) (z11)) (congrArg (fun q => upd1 q (x35_5) (z11)) ((funext (hA_c92 2 rfl)).trans (ew35_2))) (upd1 (w35_3) (x35_5) (x7_3)) (congrArg (fun q => upd1 q (x35_5) (x7_3)) ((funext (hA_c92 3 rfl)).trans (ew35_3))) (show inr ((x7_3 + 1)) from q_25 b7 j7_1) (show (0) ≤ ((x7_3 + 1)) from q_14 j7_1) (show ((x7_3 + 1)) ≤ (0) ∨ ((x7_3 + 1)) ≤ ((256)) from q_24 b7) (hls1) (show 0 ≤ (((y7_0_14 + 1))) ∧ (((y7_0_14 + 1))) ≤ ((x7_3 + 1)) from q_1465 j7_4) (show SRT ((upd1 (w35_2) (x35_5) (z11))) 0 (((y7_0_14 + 1))) by assumption) (show GEA ((upd1 (w35_2) (x35_5) (z11))) (((y7_0_14 + 1))) (a2) by assumption) (show ORD ((upd1 (w35_3) (x35_5) (x7_3))) (((y7_0_14 + 1))) by assumption) (show (((y7_0_14 + 1))) = su (fun i => pos1 (((w1)) i)) (((x7_3 + 1)) : Int).toNat by omega) rfl
          refine w_ifle (t := 92) rfl rfl (show inr (x35_5) from j35_0) (fun b15 => ?_) (fun b15 => ?_)
          · exact hc92  _ _ _ _  (l35_0) (l35_1) (l35_2) (l35_3) (l35_4) (l35_5) H O (SF_refl) (SA_refl)     (show ((x35_5) ≤ (0)) ∨ ((x35_5) > (0) ∧ -2147483648 ≤ ((w35_2) ((x35_5 - 1))) ∧ ((w35_2) ((x35_5 - 1))) ≤ 2147483647 ∧ ((w35_2) ((x35_5 - 1))) ≤ (z11)) from q_3610 b15)
          · refine Ew_of (pcₚ := 41) (fun _ => x_aload_n rfl l35_0) ?_
            refine v_g H (o := 0) (v := .ref (D 2)) rfl rfl rfl rfl rfl (vrf ((mF_35 0 11 rfl).trans (pf2))) ?_
            refine Ew_of (pcₚ := 46) (fun _ => x_iload rfl l35_5) ?_
            refine Ew_of (pcₚ := 47) (fun _ => x_iconst rfl) ?_
            refine w_isub rfl ?_
            refine v_lI H (o := 2) rfl rfl rfl rfl (n := n2) (en2) (show 0 ≤ (x35_5 - 1) ∧ (x35_5 - 1) < n2 from q_3611 b15 b7 h1 j35_5 j7_4 r3) (fun v16 ev16 qv16 => ?_)
            have ev16 : (w35_2) ((x35_5 - 1)) = v16 := (congrFun (ew35_2) ((x35_5 - 1))).symm.trans ev16
            have hvt : ((w35_2)) ((x35_5) + -1) = (v16) := ev16
            refine Ew_of (pcₚ := 51) (fun _ => x_iload rfl l35_4) ?_
            refine w_icmple (t := 92) rfl rfl (show inr (v16) from qv16) (show inr (z11) from pz11_0) (fun b17 => ?_) (fun b17 => ?_)
            · exact hc92  _ _ _ _  (l35_0) (l35_1) (l35_2) (l35_3) (l35_4) (l35_5) H O (SF_refl) (SA_refl)     (show ((x35_5) ≤ (0)) ∨ ((x35_5) > (0) ∧ -2147483648 ≤ ((w35_2) ((x35_5 - 1))) ∧ ((w35_2) ((x35_5 - 1))) ≤ 2147483647 ∧ ((w35_2) ((x35_5 - 1))) ≤ (z11)) from q_3612 b15 b17 ev16 qv16)
            · refine Ew_of (pcₚ := 55) (fun _ => x_aload_n rfl l35_0) ?_
              refine v_g H (o := 0) (v := .ref (D 2)) rfl rfl rfl rfl rfl (vrf ((mF_35 0 11 rfl).trans (pf2))) ?_
              refine Ew_of (pcₚ := 60) (fun _ => x_iload rfl l35_5) ?_
              refine Ew_of (pcₚ := 61) (fun _ => x_aload_n rfl l35_0) ?_
              refine v_g H (o := 0) (v := .ref (D 2)) rfl rfl rfl rfl rfl (vrf ((mF_35 0 11 rfl).trans (pf2))) ?_
              refine Ew_of (pcₚ := 66) (fun _ => x_iload rfl l35_5) ?_
              refine Ew_of (pcₚ := 67) (fun _ => x_iconst rfl) ?_
              refine w_isub rfl ?_
              refine v_lI H (o := 2) rfl rfl rfl rfl (n := n2) (en2) (show 0 ≤ (x35_5 - 1) ∧ (x35_5 - 1) < n2 from q_3611 b15 b7 h1 j35_5 j7_4 r3) (fun v18 ev18 qv18 => ?_)
              have ev18 : (w35_2) ((x35_5 - 1)) = v18 := (congrFun (ew35_2) ((x35_5 - 1))).symm.trans ev18
              have hva := ev18
              refine v_sI H (o := 2) (z := v18) rfl rfl rfl rfl (n := n2) (en2) (show 0 ≤ x35_5 ∧ x35_5 < n2 from q_3607 b7 h1 j35_5 j7_4 r3) (show inr (v18) from qv18) (fun σ H Oₚ => ?_)
              have O := OUT_trans O Oₚ
              have cAu19 : SA oz_F1clsl_1 A (updA A_35 2 (x35_5) (v18)) := SA_upd (cA_35) rfl
              have mAu19 := SAm_of cAu19 oz_F1cls_4
              refine Ew_of (pcₚ := 71) (fun _ => x_aload_n rfl l35_0) ?_
              refine v_g H (o := 0) (v := .ref (D 3)) rfl rfl rfl rfl rfl (vrf ((mF_35 0 10 rfl).trans (pf3))) ?_
              refine Ew_of (pcₚ := 76) (fun _ => x_iload rfl l35_5) ?_
              refine Ew_of (pcₚ := 77) (fun _ => x_aload_n rfl l35_0) ?_
              refine v_g H (o := 0) (v := .ref (D 3)) rfl rfl rfl rfl rfl (vrf ((mF_35 0 10 rfl).trans (pf3))) ?_
              refine Ew_of (pcₚ := 82) (fun _ => x_iload rfl l35_5) ?_
              refine Ew_of (pcₚ := 83) (fun _ => x_iconst rfl) ?_
              refine w_isub rfl ?_
              refine v_lI H (o := 3) rfl rfl rfl rfl (n := n3) (en3) (show 0 ≤ (x35_5 - 1) ∧ (x35_5 - 1) < n3 from q_3613 b15 b7 h1 j35_5 j7_4 r4) (fun v20 ev20 qv20 => ?_)
              have ev20 : (w35_3) ((x35_5 - 1)) = v20 := (congrFun (ew35_3) ((x35_5 - 1))).symm.trans ev20
              have hvo := ev20
              refine v_sI H (o := 3) (z := v20) rfl rfl rfl rfl (n := n3) (en3) (show 0 ≤ x35_5 ∧ x35_5 < n3 from q_3608 b7 h1 j35_5 j7_4) (show inr (v20) from qv20) (fun σ H Oₚ => ?_)
              have O := OUT_trans O Oₚ
              have cAu21 : SA oz_F1clsl_1 A (updA (updA A_35 2 (x35_5) (v18)) 3 (x35_5) (v20)) := SA_upd (cAu19) rfl
              have mAu21 := SAm_of cAu21 oz_F1cls_4
              refine Ew_of (pcₚ := 89) (fun _ => x_iinc (len := 3) rfl (l35_5)) ?_
              refine Ew_of (pcₚ := 35) (fun _ => x_goto rfl rfl) ?_
              have hmv1 : MVU am0 ((upd1 (w35_2) (x35_5) (v18))) (((x35_5 + (-1)))) ((y7_0_14)) := MVU_s j35_a (by omega) (by omega) hva
              have hmw1 : MVU od0 ((upd1 (w35_3) (x35_5) (v20))) (((x35_5 + (-1)))) ((y7_0_14)) := MVU_s j35_o (by omega) (by omega) hvo
              have hhi1 : ∀ i, ((x35_5 + (-1))) ≤ i → i < ((y7_0_14)) → (z11) < am0 i := fun i a b => by by_cases q : i = ((x35_5 + (-1))); ((rw [q, ← j35_a.1 (((x35_5 + (-1)))) (by omega) (by omega), hvt]; omega)); (exact j35_h i (by omega) b)
              have hi1 : INS ((upd1 (w35_2) (x35_5) (v18))) ((upd1 (w35_3) (x35_5) (v20))) ((x35_5 + (-1))) ((y7_0_14)) (z11) (a2) := INS_s hins (by omega) (by omega) (by omega) (by omega) (by omega)
              exact ih35 _ (msE hm35 q_276 (q_200 b15)) _ _ _ _ ((x35_5 + (-1))) (rk_o (l35_0) rfl rfl) (rk_o (l35_1) rfl rfl) (rk_o (l35_2) rfl rfl) (rk_o (l35_3) rfl rfl) (rk_o (l35_4) rfl rfl) (rk_s) H O (hS_35) (SA_upd (SA_upd (hA_35) rfl) rfl)    (upd1 (w35_2) (x35_5) (v18)) (congrArg (fun q => upd1 q (x35_5) (v18)) (ew35_2)) (upd1 (w35_3) (x35_5) (v20)) (congrArg (fun q => upd1 q (x35_5) (v20)) (ew35_3)) (show inr ((x35_5 + (-1))) from q_555 b15 j35_0) (hmv1) (hmw1) (hhi1) (hi1) (show 0 ≤ ((x35_5 + (-1))) ∧ ((x35_5 + (-1))) ≤ ((y7_0_14)) from q_3602 b15 j35_5) rfl
abbrev V101 : vV := [(0, 3, [(4, 0), (4, 0), (4, 0), (0, 0), (4, 0), (4, 0), (4, 0), (4, 0), (4, 0), (4, 0), (4, 0), (4, 0), (4, 0), (0, 0), (0, 0), (0, 0), (0, 0)]), (1, 1, [])]
theorem len_V101_oz_F1cls : (V101).length = 2 := by decide +kernel
def oz_F1clsl_3 : List (Nat × Nat) := [(0, 13), (0, 15)]
theorem oz_F1cls_7 : (oz_F1clsl_3).all (fun p => !tbz 40960 (Nat.add (Nat.mul 32 p.1) p.2)) = true := by decide +kernel
theorem oz_F1cls_8 : (oz_F1clsl_2).all (fun p => !tbz 0 p) = true := by decide +kernel

theorem C101 {σE : rS} {D N : Nat → Nat} {F : hF} {A : hA} {d c s : Nat} {Q : wQ} (H : HW V101 σE D N F A)  (pf1 : F 0 11 = (D 1 : Int)) (n1 : Int) (en1 : (N 1 : Int) = n1) (u0_13 : Int) (eu0_13 : F 0 13 = u0_13) (u0_14 : Int) (eu0_14 : F 0 14 = u0_14) (u0_15 : Int) (eu0_15 : F 0 15 = u0_15) (u0_16 : Int) (eu0_16 : F 0 16 = u0_16) (w1 : Int → Int) (ew1 : A 1 = w1) (h0 : 0 ≤ ((u0_13)) ∧ ((u0_13)) ≤ ((u0_14)) ∧ ((u0_14)) ≤ ((u0_15)) ∧ ((u0_15)) ≤ ((u0_16)) ∧ ((u0_16)) ≤ 511) (h1 : ((u0_13)) < ((u0_14)) ∨ ((u0_15)) < ((u0_16))) (h2 : (n1) = 512) (k : ∀ (z : Int) (σ : rS) (Fₚ : hF) (Aₚ : hA), HW V101 σ D N Fₚ Aₚ → OUT (V101).length D N σE c s D N σ c s → SF [(0, 13), (0, 15)] F Fₚ → SA [] A Aₚ → ∀ y0_13 : Int, Fₚ 0 13 = y0_13 → ∀ y0_15 : Int, Fₚ 0 15 = y0_15 → (inr (z)) → (TAKE ((w1)) ((u0_14)) ((u0_13)) ((u0_15)) ((u0_16)) (z) ((y0_13)) ((y0_15))) → (0 ≤ (z) ∧ (z) < ((u0_16))) → ((y0_13) + (y0_15) = ((u0_13)) + ((u0_15)) + 1 ∧ 0 ≤ (y0_13) ∧ (y0_13) ≤ ((u0_14)) ∧ ((u0_14)) ≤ (y0_15) ∧ (y0_15) ≤ ((u0_16))) → (((u0_13) < ((u0_14)) ∧ (z) = (u0_13) ∧ ((y0_13)) = (u0_13) + 1 ∧ ((y0_15)) = (u0_15) ∧ (((u0_16)) ≤ (u0_15) ∨ ((w1)) ((u0_13)) ≤ ((w1)) ((u0_15))) ∨ (u0_15) < ((u0_16)) ∧ (z) = (u0_15) ∧ ((y0_13)) = (u0_13) ∧ ((y0_15)) = (u0_15) + 1 ∧ (((u0_14)) ≤ (u0_13) ∨ ((w1)) ((u0_15)) < ((w1)) ((u0_13))))) → Q (some (I z)) σ c s) : Ew 101 (d + 0) 0 (rargs 0 [.ref (D 0)]) [] σE c s Q := by
  have O := OUT_refl (n := (V101).length) (D := D) (N := N) (σ := σE) (c := c) (s := s)
  have HE := H
  have r1 : (-2147483648 : Int) ≤ u0_13 ∧ u0_13 ≤ 2147483647 := rngE (show (-2147483648 : Int) ≤ F 0 13 ∧ F 0 13 ≤ 2147483647 from H.krg 0 13 (ltn len_V101_oz_F1cls rfl)) (show F 0 13 = u0_13 from (eu0_13))
  have r2 : (-2147483648 : Int) ≤ u0_14 ∧ u0_14 ≤ 2147483647 := rngE (show (-2147483648 : Int) ≤ F 0 14 ∧ F 0 14 ≤ 2147483647 from H.krg 0 14 (ltn len_V101_oz_F1cls rfl)) (show F 0 14 = u0_14 from (eu0_14))
  have r3 : (-2147483648 : Int) ≤ u0_15 ∧ u0_15 ≤ 2147483647 := rngE (show (-2147483648 : Int) ≤ F 0 15 ∧ F 0 15 ≤ 2147483647 from H.krg 0 15 (ltn len_V101_oz_F1cls rfl)) (show F 0 15 = u0_15 from (eu0_15))
  have r4 : (-2147483648 : Int) ≤ u0_16 ∧ u0_16 ≤ 2147483647 := rngE (show (-2147483648 : Int) ≤ F 0 16 ∧ F 0 16 ≤ 2147483647 from H.krg 0 16 (ltn len_V101_oz_F1cls rfl)) (show F 0 16 = u0_16 from (eu0_16))
  have r5 : (0 : Int) ≤ n1 ∧ n1 ≤ 1000000 := nleE (H.nle 1 (ltn len_V101_oz_F1cls rfl)) (show (N 1 : Int) = n1 from en1)
  refine Ew_of (pcₚ := 1) (fun _ => x_aload_n rfl rfl) ?_
  refine v_g H (o := 0) (v := I (u0_13)) rfl rfl rfl rfl rfl (congrArg (fun z : Int => I z) ((eu0_13) : F 0 13 = u0_13)) ?_
  refine Ew_of (pcₚ := 5) (fun _ => x_aload_n rfl rfl) ?_
  refine v_g H (o := 0) (v := I (u0_14)) rfl rfl rfl rfl rfl (congrArg (fun z : Int => I z) ((eu0_14) : F 0 14 = u0_14)) ?_
  have hc48 : ∀ (tc48_0 : Int), ∀ (ls : rO) (σ : rS) (F_c48 : hF) (A_c48 : hA) , rlook ls 0 = some (.ref (D 0)) → HW V101 σ D N F_c48 A_c48 → OUT (V101).length D N σE c s D N σ c s → SF [] F F_c48 → SA [] A A_c48 → (inr (tc48_0)) → (((u0_13) ≥ (u0_14) ∧ (tc48_0) = (0)) ∨ ((u0_13) < (u0_14) ∧ (u0_15) ≥ (u0_16) ∧ (tc48_0) = (1)) ∨ ((u0_13) < (u0_14) ∧ (u0_15) < (u0_16) ∧ -2147483648 ≤ ((w1) (u0_13)) ∧ ((w1) (u0_13)) ≤ 2147483647 ∧ -2147483648 ≤ ((w1) (u0_15)) ∧ ((w1) (u0_15)) ≤ 2147483647 ∧ ((w1) (u0_13)) > ((w1) (u0_15)) ∧ (tc48_0) = (0)) ∨ ((u0_13) < (u0_14) ∧ (u0_15) < (u0_16) ∧ -2147483648 ≤ ((w1) (u0_13)) ∧ ((w1) (u0_13)) ≤ 2147483647 ∧ -2147483648 ≤ ((w1) (u0_15)) ∧ ((w1) (u0_15)) ≤ 2147483647 ∧ ((w1) (u0_13)) ≤ ((w1) (u0_15)) ∧ (tc48_0) = (1))) → Ew 101 (d + 0) 48 ls [I (tc48_0)] σ c s Q := by
   as_aux_lemma =>
    intro tc48_0 ls σ F_c48 A_c48  lc48_0 H O hS_c48 hA_c48     jc48_0 jc48_1
    have cF_c48 : SF oz_F1clsl_3 F F_c48 := SF_trans (SF_refl) hS_c48 (any_sub (by decide +kernel))
    have mF_c48 := SFm_of cF_c48 oz_F1cls_7
    have cA_c48 : SA oz_F1clsl_2 A A_c48 := SA_trans (SA_refl) hA_c48 (any_subA (by decide +kernel))
    have mA_c48 := SAm_of cA_c48 oz_F1cls_8
    refine Ew_of (pcₚ := 49) (fun _ => x_istore_n rfl) ?_
    refine Ew_of (pcₚ := 50) (fun _ => x_iload_n rfl rk_s) ?_
    refine w_ifeq (t := 67) rfl rfl (show inr (tc48_0) from jc48_0) (fun b6 => ?_) (fun b6 => ?_)
    · refine Ew_of (pcₚ := 68) (fun _ => x_aload_n rfl (rk_o (lc48_0) rfl rfl)) ?_
      refine Ew_of (pcₚ := 69) (fun _ => x_dup rfl rfl) ?_
      refine v_g H (o := 0) (v := I (u0_15)) rfl rfl rfl rfl rfl (congrArg (fun z : Int => I z) (((hS_c48 0 15 rfl).trans (eu0_15)) : F_c48 0 15 = u0_15)) ?_
      refine Ew_of (pcₚ := 73) (fun _ => x_dup_x1 rfl rfl) ?_
      refine Ew_of (pcₚ := 74) (fun _ => x_iconst rfl) ?_
      refine w_iadd rfl ?_
      refine v_p H (o := 0) (z := (u0_15 + 1)) (v := I ((u0_15 + 1))) rfl rfl rfl rfl rfl rfl rfl rfl (show (-2147483648 : Int) ≤ (u0_15 + 1) ∧ (u0_15 + 1) ≤ 2147483647 from q_3614 h0) (fun σ H Oₚ => ?_)
      have O := OUT_trans O Oₚ
      have cFu7 : SF oz_F1clsl_3 F (updF F_c48 0 15 ((u0_15 + 1))) := SF_upd (cF_c48) rfl
      have mFu7 := SFm_of cFu7 oz_F1cls_7
      have htks : ((u0_13) < ((u0_14)) ∧ (u0_15) = (u0_13) ∧ ((u0_13)) = (u0_13) + 1 ∧ (((u0_15 + 1))) = (u0_15) ∧ (((u0_16)) ≤ (u0_15) ∨ ((w1)) ((u0_13)) ≤ ((w1)) ((u0_15))) ∨ (u0_15) < ((u0_16)) ∧ (u0_15) = (u0_15) ∧ ((u0_13)) = (u0_13) ∧ (((u0_15 + 1))) = (u0_15) + 1 ∧ (((u0_14)) ≤ (u0_13) ∨ ((w1)) ((u0_15)) < ((w1)) ((u0_13)))) := by omega
      have htk : TAKE ((w1)) ((u0_14)) ((u0_13)) ((u0_15)) ((u0_16)) ((u0_15)) ((u0_13)) (((u0_15 + 1))) := by unfold TAKE; omega
      exact w_ireturn rfl (k (u0_15) _ _ _ H O (cFu7) (cA_c48) (u0_13) (((hS_c48 0 13 rfl).trans (eu0_13))) ((u0_15 + 1)) (rfl) (show inr (u0_15) from q_3617 h0) (htk) (show 0 ≤ (u0_15) ∧ (u0_15) < ((u0_16)) from q_3616 h0 htks) (show (u0_13) + ((u0_15 + 1)) = ((u0_13)) + ((u0_15)) + 1 ∧ 0 ≤ (u0_13) ∧ (u0_13) ≤ ((u0_14)) ∧ ((u0_14)) ≤ ((u0_15 + 1)) ∧ ((u0_15 + 1)) ≤ ((u0_16)) from q_3615 h0 htks) (htks))
    · refine Ew_of (pcₚ := 54) (fun _ => x_aload_n rfl (rk_o (lc48_0) rfl rfl)) ?_
      refine Ew_of (pcₚ := 55) (fun _ => x_dup rfl rfl) ?_
      refine v_g H (o := 0) (v := I (u0_13)) rfl rfl rfl rfl rfl (congrArg (fun z : Int => I z) (((hS_c48 0 13 rfl).trans (eu0_13)) : F_c48 0 13 = u0_13)) ?_
      refine Ew_of (pcₚ := 59) (fun _ => x_dup_x1 rfl rfl) ?_
      refine Ew_of (pcₚ := 60) (fun _ => x_iconst rfl) ?_
      refine w_iadd rfl ?_
      refine v_p H (o := 0) (z := (u0_13 + 1)) (v := I ((u0_13 + 1))) rfl rfl rfl rfl rfl rfl rfl rfl (show (-2147483648 : Int) ≤ (u0_13 + 1) ∧ (u0_13 + 1) ≤ 2147483647 from q_3618 h0) (fun σ H Oₚ => ?_)
      have O := OUT_trans O Oₚ
      have cFu8 : SF oz_F1clsl_3 F (updF F_c48 0 13 ((u0_13 + 1))) := SF_upd (cF_c48) rfl
      have mFu8 := SFm_of cFu8 oz_F1cls_7
      refine Ew_of (pcₚ := 78) (fun _ => x_goto rfl rfl) ?_
      have htks : ((u0_13) < ((u0_14)) ∧ (u0_13) = (u0_13) ∧ (((u0_13 + 1))) = (u0_13) + 1 ∧ ((u0_15)) = (u0_15) ∧ (((u0_16)) ≤ (u0_15) ∨ ((w1)) ((u0_13)) ≤ ((w1)) ((u0_15))) ∨ (u0_15) < ((u0_16)) ∧ (u0_13) = (u0_15) ∧ (((u0_13 + 1))) = (u0_13) ∧ ((u0_15)) = (u0_15) + 1 ∧ (((u0_14)) ≤ (u0_13) ∨ ((w1)) ((u0_15)) < ((w1)) ((u0_13)))) := by omega
      have htk : TAKE ((w1)) ((u0_14)) ((u0_13)) ((u0_15)) ((u0_16)) ((u0_13)) (((u0_13 + 1))) ((u0_15)) := by unfold TAKE; omega
      exact w_ireturn rfl (k (u0_13) _ _ _ H O (cFu8) (cA_c48) ((u0_13 + 1)) (rfl) (u0_15) (((hS_c48 0 15 rfl).trans (eu0_15))) (show inr (u0_13) from q_3621 h0) (htk) (show 0 ≤ (u0_13) ∧ (u0_13) < ((u0_16)) from q_3620 h0 htks) (show ((u0_13 + 1)) + (u0_15) = ((u0_13)) + ((u0_15)) + 1 ∧ 0 ≤ ((u0_13 + 1)) ∧ ((u0_13 + 1)) ≤ ((u0_14)) ∧ ((u0_14)) ≤ (u0_15) ∧ (u0_15) ≤ ((u0_16)) from q_3619 h0 htks) (htks))
  refine w_icmpge (t := 47) rfl rfl (show inr (u0_13) from q_3621 h0) (show inr (u0_14) from q_3622 h0) (fun b9 => ?_) (fun b9 => ?_)
  · refine Ew_of (pcₚ := 48) (fun _ => x_iconst rfl) ?_
    exact hc48 (0) _ _ _ _  (rfl) H O (SF_refl) (SA_refl)     (show inr (0) from q_2) (show ((u0_13) ≥ (u0_14) ∧ (0) = (0)) ∨ ((u0_13) < (u0_14) ∧ (u0_15) ≥ (u0_16) ∧ (0) = (1)) ∨ ((u0_13) < (u0_14) ∧ (u0_15) < (u0_16) ∧ -2147483648 ≤ ((w1) (u0_13)) ∧ ((w1) (u0_13)) ≤ 2147483647 ∧ -2147483648 ≤ ((w1) (u0_15)) ∧ ((w1) (u0_15)) ≤ 2147483647 ∧ ((w1) (u0_13)) > ((w1) (u0_15)) ∧ (0) = (0)) ∨ ((u0_13) < (u0_14) ∧ (u0_15) < (u0_16) ∧ -2147483648 ≤ ((w1) (u0_13)) ∧ ((w1) (u0_13)) ≤ 2147483647 ∧ -2147483648 ≤ ((w1) (u0_15)) ∧ ((w1) (u0_15)) ≤ 2147483647 ∧ ((w1) (u0_13)) ≤ ((w1) (u0_15)) ∧ (0) = (1)) from q_3623 b9)
  · refine Ew_of (pcₚ := 12) (fun _ => x_aload_n rfl rfl) ?_
    refine v_g H (o := 0) (v := I (u0_15)) rfl rfl rfl rfl rfl (congrArg (fun z : Int => I z) ((eu0_15) : F 0 15 = u0_15)) ?_
    refine Ew_of (pcₚ := 16) (fun _ => x_aload_n rfl rfl) ?_
    refine v_g H (o := 0) (v := I (u0_16)) rfl rfl rfl rfl rfl (congrArg (fun z : Int => I z) ((eu0_16) : F 0 16 = u0_16)) ?_
    refine w_icmpge (t := 43) rfl rfl (show inr (u0_15) from q_3617 h0) (show inr (u0_16) from q_3624 h0) (fun b10 => ?_) (fun b10 => ?_)
    · refine Ew_of (pcₚ := 44) (fun _ => x_iconst rfl) ?_
      refine Ew_of (pcₚ := 48) (fun _ => x_goto rfl rfl) ?_
      exact hc48 (1) _ _ _ _  (rfl) H O (SF_refl) (SA_refl)     (show inr (1) from q_135) (show ((u0_13) ≥ (u0_14) ∧ (1) = (0)) ∨ ((u0_13) < (u0_14) ∧ (u0_15) ≥ (u0_16) ∧ (1) = (1)) ∨ ((u0_13) < (u0_14) ∧ (u0_15) < (u0_16) ∧ -2147483648 ≤ ((w1) (u0_13)) ∧ ((w1) (u0_13)) ≤ 2147483647 ∧ -2147483648 ≤ ((w1) (u0_15)) ∧ ((w1) (u0_15)) ≤ 2147483647 ∧ ((w1) (u0_13)) > ((w1) (u0_15)) ∧ (1) = (0)) ∨ ((u0_13) < (u0_14) ∧ (u0_15) < (u0_16) ∧ -2147483648 ≤ ((w1) (u0_13)) ∧ ((w1) (u0_13)) ≤ 2147483647 ∧ -2147483648 ≤ ((w1) (u0_15)) ∧ ((w1) (u0_15)) ≤ 2147483647 ∧ ((w1) (u0_13)) ≤ ((w1) (u0_15)) ∧ (1) = (1)) from q_3625 b10 b9)
    · refine Ew_of (pcₚ := 23) (fun _ => x_aload_n rfl rfl) ?_
      refine v_g H (o := 0) (v := .ref (D 1)) rfl rfl rfl rfl rfl (vrf (pf1)) ?_
      refine Ew_of (pcₚ := 27) (fun _ => x_aload_n rfl rfl) ?_
      refine v_g H (o := 0) (v := I (u0_13)) rfl rfl rfl rfl rfl (congrArg (fun z : Int => I z) ((eu0_13) : F 0 13 = u0_13)) ?_
      refine v_lI H (o := 1) rfl rfl rfl rfl (n := n1) (en1) (show 0 ≤ u0_13 ∧ u0_13 < n1 from q_3626 b9 h0 h2 r5) (fun v11 ev11 qv11 => ?_)
      have ev11 : (w1) (u0_13) = v11 := (congrFun (ew1) (u0_13)).symm.trans ev11
      refine Ew_of (pcₚ := 32) (fun _ => x_aload_n rfl rfl) ?_
      refine v_g H (o := 0) (v := .ref (D 1)) rfl rfl rfl rfl rfl (vrf (pf1)) ?_
      refine Ew_of (pcₚ := 36) (fun _ => x_aload_n rfl rfl) ?_
      refine v_g H (o := 0) (v := I (u0_15)) rfl rfl rfl rfl rfl (congrArg (fun z : Int => I z) ((eu0_15) : F 0 15 = u0_15)) ?_
      refine v_lI H (o := 1) rfl rfl rfl rfl (n := n1) (en1) (show 0 ≤ u0_15 ∧ u0_15 < n1 from q_3627 b10 h0 h2 r5) (fun v12 ev12 qv12 => ?_)
      have ev12 : (w1) (u0_15) = v12 := (congrFun (ew1) (u0_15)).symm.trans ev12
      refine w_icmpgt (t := 47) rfl rfl (show inr (v11) from qv11) (show inr (v12) from qv12) (fun b13 => ?_) (fun b13 => ?_)
      · refine Ew_of (pcₚ := 48) (fun _ => x_iconst rfl) ?_
        exact hc48 (0) _ _ _ _  (rfl) H O (SF_refl) (SA_refl)     (show inr (0) from q_2) (show ((u0_13) ≥ (u0_14) ∧ (0) = (0)) ∨ ((u0_13) < (u0_14) ∧ (u0_15) ≥ (u0_16) ∧ (0) = (1)) ∨ ((u0_13) < (u0_14) ∧ (u0_15) < (u0_16) ∧ -2147483648 ≤ ((w1) (u0_13)) ∧ ((w1) (u0_13)) ≤ 2147483647 ∧ -2147483648 ≤ ((w1) (u0_15)) ∧ ((w1) (u0_15)) ≤ 2147483647 ∧ ((w1) (u0_13)) > ((w1) (u0_15)) ∧ (0) = (0)) ∨ ((u0_13) < (u0_14) ∧ (u0_15) < (u0_16) ∧ -2147483648 ≤ ((w1) (u0_13)) ∧ ((w1) (u0_13)) ≤ 2147483647 ∧ -2147483648 ≤ ((w1) (u0_15)) ∧ ((w1) (u0_15)) ≤ 2147483647 ∧ ((w1) (u0_13)) ≤ ((w1) (u0_15)) ∧ (0) = (1)) from q_3628 b10 b13 b9 ev11 ev12 qv11 qv12)
      · refine Ew_of (pcₚ := 44) (fun _ => x_iconst rfl) ?_
        refine Ew_of (pcₚ := 48) (fun _ => x_goto rfl rfl) ?_
        exact hc48 (1) _ _ _ _  (rfl) H O (SF_refl) (SA_refl)     (show inr (1) from q_135) (show ((u0_13) ≥ (u0_14) ∧ (1) = (0)) ∨ ((u0_13) < (u0_14) ∧ (u0_15) ≥ (u0_16) ∧ (1) = (1)) ∨ ((u0_13) < (u0_14) ∧ (u0_15) < (u0_16) ∧ -2147483648 ≤ ((w1) (u0_13)) ∧ ((w1) (u0_13)) ≤ 2147483647 ∧ -2147483648 ≤ ((w1) (u0_15)) ∧ ((w1) (u0_15)) ≤ 2147483647 ∧ ((w1) (u0_13)) > ((w1) (u0_15)) ∧ (1) = (0)) ∨ ((u0_13) < (u0_14) ∧ (u0_15) < (u0_16) ∧ -2147483648 ≤ ((w1) (u0_13)) ∧ ((w1) (u0_13)) ≤ 2147483647 ∧ -2147483648 ≤ ((w1) (u0_15)) ∧ ((w1) (u0_15)) ≤ 2147483647 ∧ ((w1) (u0_13)) ≤ ((w1) (u0_15)) ∧ (1) = (1)) from q_3629 b10 b13 b9 ev11 ev12 qv11 qv12)
abbrev V100 : vV := [(0, 3, [(4, 0), (4, 0), (4, 0), (0, 0), (4, 0), (4, 0), (4, 0), (4, 0), (4, 0), (4, 0), (4, 0), (4, 0), (4, 0), (0, 0), (0, 0), (0, 0), (0, 0)]), (1, 1, []), (1, 1, []), (1, 1, [])]
theorem len_V100_oz_F1cls : (V100).length = 4 := by decide +kernel
theorem oz_F1cls_10 : vsub V100 V101 [0, 1] = true := by decide +kernel
def oz_F1clsl_4 : List (Nat × Nat) := [(0, 13), (0, 15), (0, 16)]
theorem oz_F1cls_11 : (oz_F1clsl_4).all (fun p => !tbz 106496 (Nat.add (Nat.mul 32 p.1) p.2)) = true := by decide +kernel
def oz_F1clsl_5 : List Nat := [1, 3]
theorem oz_F1cls_12 : (oz_F1clsl_5).all (fun p => !tbz 10 p) = true := by decide +kernel
def oz_F1clsl_6 : List Nat := [0, 1]
theorem oz_F1cls_13 : okc oz_F1clsl_6 512 = true := by decide +kernel

theorem C100 {σE : rS} {D N : Nat → Nat} {F : hF} {A : hA} {d c s : Nat} {Q : wQ} (H : HW V100 σE D N F A)  (pf1 : F 0 11 = (D 1 : Int)) (pf2 : F 0 10 = (D 2 : Int)) (pf3 : F 0 12 = (D 3 : Int)) (n1 : Int) (en1 : (N 1 : Int) = n1) (n2 : Int) (en2 : (N 2 : Int) = n2) (n3 : Int) (en3 : (N 3 : Int) = n3) (u0_13 : Int) (eu0_13 : F 0 13 = u0_13) (u0_14 : Int) (eu0_14 : F 0 14 = u0_14) (u0_15 : Int) (eu0_15 : F 0 15 = u0_15) (u0_16 : Int) (eu0_16 : F 0 16 = u0_16) (w1 : Int → Int) (ew1 : A 1 = w1) (w2 : Int → Int) (ew2 : A 2 = w2) (w3 : Int → Int) (ew3 : A 3 = w3) (hh : Int) (hC : Int → Int) (h0 : LSP hC ((w1)) ((w2)) ((u0_14)) 256) (h1 : ∀ s, 0 ≤ s → s < 256 → 0 ≤ hC s) (h2 : (n1) = 512 ∧ (n3) = 512) (h3 : 2 ≤ ((u0_14)) ∧ ((u0_14)) ≤ 256) (h4 : SRT ((w1)) 0 ((u0_14))) (h5 : GEA ((w1)) ((u0_14)) hh) (k : ∀ (σ : rS) (Fₚ : hF) (Aₚ : hA), HW V100 σ D N Fₚ Aₚ → OUT (V100).length D N σE c s D N σ c s → SF [(0, 13), (0, 15), (0, 16)] F Fₚ → SA [1, 3] A Aₚ → ∀ y0_13 : Int, Fₚ 0 13 = y0_13 → ∀ y0_15 : Int, Fₚ 0 15 = y0_15 → ∀ y0_16 : Int, Fₚ 0 16 = y0_16 → ∀ v1 : Int → Int, Aₚ 1 = v1 → ∀ v3 : Int → Int, Aₚ 3 = v3 → ((y0_16) = 2 * ((u0_14)) - 1) → (TW ((v1)) ((v3)) ((u0_14)) ((y0_13)) ((y0_15)) ((y0_16)) (SA2 ((w1)) 0 ((u0_14)))) → (FLP hC ((v3)) ((w2)) ((u0_14)) ((y0_16))) → Q none σ c s) : Ew 100 (d + 1) 0 (rargs 0 [.ref (D 0)]) [] σE c s Q := by
  have O := OUT_refl (n := (V100).length) (D := D) (N := N) (σ := σE) (c := c) (s := s)
  have HE := H
  have r1 : (-2147483648 : Int) ≤ u0_13 ∧ u0_13 ≤ 2147483647 := rngE (show (-2147483648 : Int) ≤ F 0 13 ∧ F 0 13 ≤ 2147483647 from H.krg 0 13 (ltn len_V100_oz_F1cls rfl)) (show F 0 13 = u0_13 from (eu0_13))
  have r2 : (-2147483648 : Int) ≤ u0_14 ∧ u0_14 ≤ 2147483647 := rngE (show (-2147483648 : Int) ≤ F 0 14 ∧ F 0 14 ≤ 2147483647 from H.krg 0 14 (ltn len_V100_oz_F1cls rfl)) (show F 0 14 = u0_14 from (eu0_14))
  have r3 : (-2147483648 : Int) ≤ u0_15 ∧ u0_15 ≤ 2147483647 := rngE (show (-2147483648 : Int) ≤ F 0 15 ∧ F 0 15 ≤ 2147483647 from H.krg 0 15 (ltn len_V100_oz_F1cls rfl)) (show F 0 15 = u0_15 from (eu0_15))
  have r4 : (-2147483648 : Int) ≤ u0_16 ∧ u0_16 ≤ 2147483647 := rngE (show (-2147483648 : Int) ≤ F 0 16 ∧ F 0 16 ≤ 2147483647 from H.krg 0 16 (ltn len_V100_oz_F1cls rfl)) (show F 0 16 = u0_16 from (eu0_16))
  have r5 : (0 : Int) ≤ n1 ∧ n1 ≤ 1000000 := nleE (H.nle 1 (ltn len_V100_oz_F1cls rfl)) (show (N 1 : Int) = n1 from en1)
  have r6 : (0 : Int) ≤ n2 ∧ n2 ≤ 1000000 := nleE (H.nle 2 (ltn len_V100_oz_F1cls rfl)) (show (N 2 : Int) = n2 from en2)
  have r7 : (0 : Int) ≤ n3 ∧ n3 ≤ 1000000 := nleE (H.nle 3 (ltn len_V100_oz_F1cls rfl)) (show (N 3 : Int) = n3 from en3)
  refine Ew_of (pcₚ := 1) (fun _ => x_aload_n rfl rfl) ?_
  refine Ew_of (pcₚ := 2) (fun _ => x_iconst rfl) ?_
  refine v_p H (o := 0) (z := 0) (v := I (0)) rfl rfl rfl rfl rfl rfl rfl rfl (show (-2147483648 : Int) ≤ 0 ∧ 0 ≤ 2147483647 from q_22) (fun σ H Oₚ => ?_)
  have O := OUT_trans O Oₚ
  have cFu8 : SF oz_F1clsl_4 F (updF F 0 13 (0)) := SF_upd (SF_refl) rfl
  have mFu8 := SFm_of cFu8 oz_F1cls_11
  refine Ew_of (pcₚ := 6) (fun _ => x_aload_n rfl rfl) ?_
  refine Ew_of (pcₚ := 7) (fun _ => x_aload_n rfl rfl) ?_
  refine v_g H (o := 0) (v := I (u0_14)) rfl rfl rfl rfl rfl (congrArg (fun z : Int => I z) (((mFu8 0 14 rfl).trans (eu0_14)) : (updF F 0 13 (0)) 0 14 = u0_14)) ?_
  refine v_p H (o := 0) (z := u0_14) (v := I (u0_14)) rfl rfl rfl rfl rfl rfl rfl rfl (show (-2147483648 : Int) ≤ u0_14 ∧ u0_14 ≤ 2147483647 from r2) (fun σ H Oₚ => ?_)
  have O := OUT_trans O Oₚ
  have cFu9 : SF oz_F1clsl_4 F (updF (updF F 0 13 (0)) 0 15 (u0_14)) := SF_upd (cFu8) rfl
  have mFu9 := SFm_of cFu9 oz_F1cls_11
  refine Ew_of (pcₚ := 14) (fun _ => x_aload_n rfl rfl) ?_
  refine Ew_of (pcₚ := 15) (fun _ => x_aload_n rfl rfl) ?_
  refine v_g H (o := 0) (v := I (u0_14)) rfl rfl rfl rfl rfl (congrArg (fun z : Int => I z) (((mFu9 0 14 rfl).trans (eu0_14)) : (updF (updF F 0 13 (0)) 0 15 (u0_14)) 0 14 = u0_14)) ?_
  refine v_p H (o := 0) (z := u0_14) (v := I (u0_14)) rfl rfl rfl rfl rfl rfl rfl rfl (show (-2147483648 : Int) ≤ u0_14 ∧ u0_14 ≤ 2147483647 from r2) (fun σ H Oₚ => ?_)
  have O := OUT_trans O Oₚ
  have cFu10 : SF oz_F1clsl_4 F (updF (updF (updF F 0 13 (0)) 0 15 (u0_14)) 0 16 (u0_14)) := SF_upd (cFu9) rfl
  have mFu10 := SFm_of cFu10 oz_F1cls_11
  refine Ew_of (pcₚ := 22) (fun _ => x_iconst rfl) ?_
  refine Ew_of (pcₚ := 23) (fun _ => x_istore_n rfl) ?_
  have hcl0 : CLS hC ((w1)) ((w3)) ((w2)) ((u0_14)) 0 ((u0_14)) ((u0_14)) := CLS_0 (by assumption) (by omega) (by assumption)
  have hge : GEA ((w1)) ((u0_14)) hh := h5
  have ht0 : TW ((w1)) ((w3)) ((u0_14)) ((0)) ((u0_14)) ((u0_14)) (SA2 ((w1)) 0 ((u0_14))) := TW_0 (by omega) (by assumption) (fun k a b => (hge k a b).1)
  have hbd := SA2_bd (by omega) hge
  suffices hl23 : ∀ (m : Nat), ∀ (ls : rO) (σ : rS) (F_23 : hF) (A_23 : hA) (x23_1 : Int), rlook ls 0 = some (.ref (D 0)) → rlook ls 1 = some (I (x23_1)) → HW V100 σ D N F_23 A_23 → OUT (V100).length D N σE c s D N σ c s → SF [(0, 13), (0, 15), (0, 16)] (updF (updF (updF F 0 13 (0)) 0 15 (u0_14)) 0 16 (u0_14)) F_23 → SA [1, 3] A A_23 → ∀ y23_0_13 : Int, F_23 0 13 = y23_0_13 → ∀ y23_0_15 : Int, F_23 0 15 = y23_0_15 → ∀ y23_0_16 : Int, F_23 0 16 = y23_0_16 → ∀ w23_1 : Int → Int, A_23 1 = w23_1 → ∀ w23_3 : Int → Int, A_23 3 = w23_3 → (inr (x23_1)) → ((1) ≤ (x23_1)) → ((x23_1) ≤ (1) ∨ (x23_1) ≤ ((u0_14))) → (CLS hC ((w23_1)) ((w23_3)) ((w2)) ((u0_14)) ((y23_0_13)) ((y23_0_15)) ((y23_0_16))) → (((y23_0_16)) = ((u0_14)) + (x23_1) - 1) → (TW ((w23_1)) ((w23_3)) ((u0_14)) ((y23_0_13)) ((y23_0_15)) ((y23_0_16)) (SA2 ((w1)) 0 ((u0_14)))) → (0 ≤ ((y23_0_13)) ∧ ((y23_0_13)) ≤ ((u0_14)) ∧ ((u0_14)) ≤ ((y23_0_15)) ∧ ((y23_0_15)) ≤ ((y23_0_16)) ∧ (((u0_14)) - ((y23_0_13))) + (((y23_0_16)) - ((y23_0_15))) + (((y23_0_16)) - ((u0_14))) = ((u0_14))) → (((u0_14)) - (x23_1)).toNat = m → Ew 100 (d + 1) 23 ls [] σ c s Q from
    hl23 _ _ _ _ _ (1) (rk_o (rfl) rfl rfl) (rk_s) H O (SF_refl) (SA_refl)   (0) (rfl) (u0_14) (rfl) (u0_14) (rfl) (w1) (ew1) (w3) (ew3) (show inr (1) from q_135) (show (1) ≤ (1) from q_1387) (show (1) ≤ (1) ∨ (1) ≤ ((u0_14)) from q_3532) (hcl0) (show ((u0_14)) = ((u0_14)) + (1) - 1 from q_3631) (ht0) (show 0 ≤ ((0)) ∧ ((0)) ≤ ((u0_14)) ∧ ((u0_14)) ≤ ((u0_14)) ∧ ((u0_14)) ≤ ((u0_14)) ∧ (((u0_14)) - ((0))) + (((u0_14)) - ((u0_14))) + (((u0_14)) - ((u0_14))) = ((u0_14)) from q_3630 h3) rfl
  as_aux_lemma =>
  intro m
  induction m using Nat.strongRecOn with
  | _ m ih23 =>
    intro ls σ F_23 A_23 x23_1 l23_0 l23_1 H O hS_23 hA_23   y23_0_13 ey23_0_13 y23_0_15 ey23_0_15 y23_0_16 ey23_0_16 w23_1 ew23_1 w23_3 ew23_3 j23_0 j23_1 j23_2 j23_3 j23_4 j23_5 j23_6 hm23
    have cF_23 : SF oz_F1clsl_4 F F_23 := SF_trans (cFu10) hS_23 (any_sub (by decide +kernel))
    have mF_23 := SFm_of cF_23 oz_F1cls_11
    have cA_23 : SA oz_F1clsl_5 A A_23 := SA_trans (SA_refl) hA_23 (any_subA (by decide +kernel))
    have mA_23 := SAm_of cA_23 oz_F1cls_12
    have r11 : (-2147483648 : Int) ≤ y23_0_13 ∧ y23_0_13 ≤ 2147483647 := rngE (show (-2147483648 : Int) ≤ F_23 0 13 ∧ F_23 0 13 ≤ 2147483647 from H.krg 0 13 (ltn len_V100_oz_F1cls rfl)) (show F_23 0 13 = y23_0_13 from (ey23_0_13))
    have r12 : (-2147483648 : Int) ≤ y23_0_15 ∧ y23_0_15 ≤ 2147483647 := rngE (show (-2147483648 : Int) ≤ F_23 0 15 ∧ F_23 0 15 ≤ 2147483647 from H.krg 0 15 (ltn len_V100_oz_F1cls rfl)) (show F_23 0 15 = y23_0_15 from (ey23_0_15))
    have r13 : (-2147483648 : Int) ≤ y23_0_16 ∧ y23_0_16 ≤ 2147483647 := rngE (show (-2147483648 : Int) ≤ F_23 0 16 ∧ F_23 0 16 ≤ 2147483647 from H.krg 0 16 (ltn len_V100_oz_F1cls rfl)) (show F_23 0 16 = y23_0_16 from (ey23_0_16))
    have htw : TW ((w23_1)) ((w23_3)) ((u0_14)) ((y23_0_13)) ((y23_0_15)) ((y23_0_16)) (SA2 ((w1)) 0 ((u0_14))) := j23_5
    have j23_c : CLS hC ((w23_1)) ((w23_3)) ((w2)) ((u0_14)) ((y23_0_13)) ((y23_0_15)) ((y23_0_16)) := j23_3
    refine Ew_of (pcₚ := 24) (fun _ => x_iload_n rfl l23_1) ?_
    refine Ew_of (pcₚ := 25) (fun _ => x_aload_n rfl l23_0) ?_
    refine v_g H (o := 0) (v := I (u0_14)) rfl rfl rfl rfl rfl (congrArg (fun z : Int => I z) (((mF_23 0 14 rfl).trans (eu0_14)) : F_23 0 14 = u0_14)) ?_
    refine w_icmpge (t := 99) rfl rfl (show inr (x23_1) from j23_0) (show inr (u0_14) from q_3632 h3) (fun b14 => ?_) (fun b14 => ?_)
    · have : FLP hC ((w23_3)) ((w2)) ((u0_14)) ((y23_0_16)) := CLS_e j23_c (by omega) (by omega) (by omega)
      exact w_ret rfl (k _ _ _ H O (cF_23) (cA_23) (y23_0_13) ((ey23_0_13)) (y23_0_15) ((ey23_0_15)) (y23_0_16) ((ey23_0_16)) (w23_1) (ew23_1) (w23_3) (ew23_3) (show (y23_0_16) = 2 * ((u0_14)) - 1 from q_3633 b14 h3 j23_2 j23_4 j23_6) (htw) (show FLP hC ((w23_3)) ((w2)) ((u0_14)) ((y23_0_16)) by assumption))
    · refine Ew_of (pcₚ := 32) (fun _ => x_aload_n rfl l23_0) ?_
      refine v_inv H (o := 0) rfl rfl rfl rfl rfl rfl (by rfl) (C101 (D := puc 512 D) (N := puc 512 N) (HW_subc H oz_F1cls_10 oz_F1cls_13) ((mF_23 0 11 rfl).trans (pf1)) (n1) (en1) (y23_0_13) ((ey23_0_13)) (u0_14) (((mF_23 0 14 rfl).trans (eu0_14))) (y23_0_15) ((ey23_0_15)) (y23_0_16) ((ey23_0_16)) (w23_1) (ew23_1) (show 0 ≤ ((y23_0_13)) ∧ ((y23_0_13)) ≤ ((u0_14)) ∧ ((u0_14)) ≤ ((y23_0_15)) ∧ ((y23_0_15)) ≤ ((y23_0_16)) ∧ ((y23_0_16)) ≤ 511 from q_3636 b14 h3 j23_4 j23_6) (show ((y23_0_13)) < ((u0_14)) ∨ ((y23_0_15)) < ((y23_0_16)) from q_3635 b14 j23_4 j23_6) (show (n1) = 512 from q_3634 h2) (fun z15 σ15 F15ₚ A15ₚ Hₚ Oₚ hS15 hA15 y15_0_13 ey15_0_13 y15_0_15 ey15_0_15 pz15_0 pz15_1 pz15_2 pz15_3 pz15_4 => ⟨rfl, ?_⟩))
      refine v_backc (c := c) (s := s) H oz_F1cls_10 oz_F1cls_13 Hₚ Oₚ (fun F15 A15 H Oₚ eF15 eA15 => ?_)
      have O := OUT_trans O Oₚ
      -- Codes.takeLeast
      have cF15 : SF oz_F1clsl_4 F F15 := SF_trans (cF_23) (SF_gluc (ι := oz_F1clsl_6) oz_F1cls_13 hS15 eF15 (by decide +kernel)) (any_sub (lₚ := [(0, 13), (0, 15)]) (by decide +kernel))
      have mF15 := SFm_of cF15 oz_F1cls_11
      have cA15 : SA oz_F1clsl_5 A A15 := SA_trans (cA_23) (SA_gluc (ι := oz_F1clsl_6) oz_F1cls_13 hA15 eA15 (by decide +kernel)) (any_subA (lₚ := []) (by decide +kernel))
      have mA15 := SAm_of cA15 oz_F1cls_12
      have r16 : (-2147483648 : Int) ≤ y15_0_13 ∧ y15_0_13 ≤ 2147483647 := rngE (show (-2147483648 : Int) ≤ F15 0 13 ∧ F15 0 13 ≤ 2147483647 from H.krg 0 13 (ltn len_V100_oz_F1cls rfl)) (show F15 0 13 = y15_0_13 from ((eF15 0 13).trans ey15_0_13))
      have r17 : (-2147483648 : Int) ≤ y15_0_15 ∧ y15_0_15 ≤ 2147483647 := rngE (show (-2147483648 : Int) ≤ F15 0 15 ∧ F15 0 15 ≤ 2147483647 from H.krg 0 15 (ltn len_V100_oz_F1cls rfl)) (show F15 0 15 = y15_0_15 from ((eF15 0 15).trans ey15_0_15))
      have hp1 := pz15_1
      have hts1 := pz15_4
      refine Ew_of (pcₚ := 36) (fun _ => x_istore_n rfl) ?_
      refine Ew_of (pcₚ := 37) (fun _ => x_aload_n rfl (rk_o (l23_0) rfl rfl)) ?_
      refine v_inv H (o := 0) rfl rfl rfl rfl rfl rfl (by rfl) (C101 (D := puc 512 D) (N := puc 512 N) (HW_subc H oz_F1cls_10 oz_F1cls_13) ((mF15 0 11 rfl).trans (pf1)) (n1) (en1) (y15_0_13) (((eF15 0 13).trans ey15_0_13)) (u0_14) (((mF15 0 14 rfl).trans (eu0_14))) (y15_0_15) (((eF15 0 15).trans ey15_0_15)) (y23_0_16) ((((show F15 0 16 = F_23 0 16 from (eF15 0 16).trans (hS15 0 16 rfl))).trans (ey23_0_16))) (w23_1) (((show A15 1 = A_23 1 from (eA15 1).trans (funext (hA15 1 rfl)))).trans (ew23_1)) (show 0 ≤ ((y15_0_13)) ∧ ((y15_0_13)) ≤ ((u0_14)) ∧ ((u0_14)) ≤ ((y15_0_15)) ∧ ((y15_0_15)) ≤ ((y23_0_16)) ∧ ((y23_0_16)) ≤ 511 from q_3638 b14 h3 j23_4 pz15_3) (show ((y15_0_13)) < ((u0_14)) ∨ ((y15_0_15)) < ((y23_0_16)) from q_3637 b14 j23_4 j23_6 pz15_3) (show (n1) = 512 from q_3634 h2) (fun z18 σ18 F18ₚ A18ₚ Hₚ Oₚ hS18 hA18 y18_0_13 ey18_0_13 y18_0_15 ey18_0_15 pz18_0 pz18_1 pz18_2 pz18_3 pz18_4 => ⟨rfl, ?_⟩))
      refine v_backc (c := c) (s := s) H oz_F1cls_10 oz_F1cls_13 Hₚ Oₚ (fun F18 A18 H Oₚ eF18 eA18 => ?_)
      have O := OUT_trans O Oₚ
      -- Codes.takeLeast
      have cF18 : SF oz_F1clsl_4 F F18 := SF_trans (cF15) (SF_gluc (ι := oz_F1clsl_6) oz_F1cls_13 hS18 eF18 (by decide +kernel)) (any_sub (lₚ := [(0, 13), (0, 15)]) (by decide +kernel))
      have mF18 := SFm_of cF18 oz_F1cls_11
      have cA18 : SA oz_F1clsl_5 A A18 := SA_trans (cA15) (SA_gluc (ι := oz_F1clsl_6) oz_F1cls_13 hA18 eA18 (by decide +kernel)) (any_subA (lₚ := []) (by decide +kernel))
      have mA18 := SAm_of cA18 oz_F1cls_12
      have r19 : (-2147483648 : Int) ≤ y18_0_13 ∧ y18_0_13 ≤ 2147483647 := rngE (show (-2147483648 : Int) ≤ F18 0 13 ∧ F18 0 13 ≤ 2147483647 from H.krg 0 13 (ltn len_V100_oz_F1cls rfl)) (show F18 0 13 = y18_0_13 from ((eF18 0 13).trans ey18_0_13))
      have r20 : (-2147483648 : Int) ≤ y18_0_15 ∧ y18_0_15 ≤ 2147483647 := rngE (show (-2147483648 : Int) ≤ F18 0 15 ∧ F18 0 15 ≤ 2147483647 from H.krg 0 15 (ltn len_V100_oz_F1cls rfl)) (show F18 0 15 = y18_0_15 from ((eF18 0 15).trans ey18_0_15))
      have hp2 := pz18_1
      have hts2 := pz18_4
      refine Ew_of (pcₚ := 41) (fun _ => x_istore_n rfl) ?_
      have hst := TW_step (n2 := ((y23_0_16)) + 1) htw hp1 hp2 rfl rfl
      refine Ew_of (pcₚ := 42) (fun _ => x_aload_n rfl (rk_o (rk_o (l23_0) rfl rfl) rfl rfl)) ?_
      refine v_g H (o := 0) (v := .ref (D 3)) rfl rfl rfl rfl rfl (vrf ((mF18 0 12 rfl).trans (pf3))) ?_
      refine Ew_of (pcₚ := 46) (fun _ => x_iload_n rfl (rk_o (rk_s) rfl rfl)) ?_
      refine Ew_of (pcₚ := 47) (fun _ => x_aload_n rfl (rk_o (rk_o (l23_0) rfl rfl) rfl rfl)) ?_
      refine v_g H (o := 0) (v := I (y23_0_16)) rfl rfl rfl rfl rfl (congrArg (fun z : Int => I z) (((((show F18 0 16 = F15 0 16 from (eF18 0 16).trans (hS18 0 16 rfl))).trans ((show F15 0 16 = F_23 0 16 from (eF15 0 16).trans (hS15 0 16 rfl)))).trans (ey23_0_16)) : F18 0 16 = y23_0_16)) ?_
      refine v_sI H (o := 3) (z := y23_0_16) rfl rfl rfl rfl (n := n3) (en3) (show 0 ≤ z15 ∧ z15 < n3 from q_3640 b14 h2 h3 j23_4 pz15_2 r7) (show inr (y23_0_16) from q_3639 pz18_2 r13) (fun σ H Oₚ => ?_)
      have O := OUT_trans O Oₚ
      have cAu21 : SA oz_F1clsl_5 A (updA A18 3 (z15) (y23_0_16)) := SA_upd (cA18) rfl
      have mAu21 := SAm_of cAu21 oz_F1cls_12
      refine Ew_of (pcₚ := 52) (fun _ => x_aload_n rfl (rk_o (rk_o (l23_0) rfl rfl) rfl rfl)) ?_
      refine v_g H (o := 0) (v := .ref (D 3)) rfl rfl rfl rfl rfl (vrf ((mF18 0 12 rfl).trans (pf3))) ?_
      refine Ew_of (pcₚ := 56) (fun _ => x_iload_n rfl rk_s) ?_
      refine Ew_of (pcₚ := 57) (fun _ => x_aload_n rfl (rk_o (rk_o (l23_0) rfl rfl) rfl rfl)) ?_
      refine v_g H (o := 0) (v := I (y23_0_16)) rfl rfl rfl rfl rfl (congrArg (fun z : Int => I z) (((((show F18 0 16 = F15 0 16 from (eF18 0 16).trans (hS18 0 16 rfl))).trans ((show F15 0 16 = F_23 0 16 from (eF15 0 16).trans (hS15 0 16 rfl)))).trans (ey23_0_16)) : F18 0 16 = y23_0_16)) ?_
      refine v_sI H (o := 3) (z := y23_0_16) rfl rfl rfl rfl (n := n3) (en3) (show 0 ≤ z18 ∧ z18 < n3 from q_3640 b14 h2 h3 j23_4 pz18_2 r7) (show inr (y23_0_16) from q_3639 pz18_2 r13) (fun σ H Oₚ => ?_)
      have O := OUT_trans O Oₚ
      have cAu22 : SA oz_F1clsl_5 A (updA (updA A18 3 (z15) (y23_0_16)) 3 (z18) (y23_0_16)) := SA_upd (cAu21) rfl
      have mAu22 := SAm_of cAu22 oz_F1cls_12
      refine Ew_of (pcₚ := 62) (fun _ => x_aload_n rfl (rk_o (rk_o (l23_0) rfl rfl) rfl rfl)) ?_
      refine v_g H (o := 0) (v := .ref (D 1)) rfl rfl rfl rfl rfl (vrf ((mF18 0 11 rfl).trans (pf1))) ?_
      refine Ew_of (pcₚ := 66) (fun _ => x_aload_n rfl (rk_o (rk_o (l23_0) rfl rfl) rfl rfl)) ?_
      refine v_g H (o := 0) (v := I (y23_0_16)) rfl rfl rfl rfl rfl (congrArg (fun z : Int => I z) (((((show F18 0 16 = F15 0 16 from (eF18 0 16).trans (hS18 0 16 rfl))).trans ((show F15 0 16 = F_23 0 16 from (eF15 0 16).trans (hS15 0 16 rfl)))).trans (ey23_0_16)) : F18 0 16 = y23_0_16)) ?_
      refine Ew_of (pcₚ := 70) (fun _ => x_aload_n rfl (rk_o (rk_o (l23_0) rfl rfl) rfl rfl)) ?_
      refine v_g H (o := 0) (v := .ref (D 1)) rfl rfl rfl rfl rfl (vrf ((mF18 0 11 rfl).trans (pf1))) ?_
      refine Ew_of (pcₚ := 74) (fun _ => x_iload_n rfl (rk_o (rk_s) rfl rfl)) ?_
      refine v_lI H (o := 1) rfl rfl rfl rfl (n := n1) (en1) (show 0 ≤ z15 ∧ z15 < n1 from q_3641 b14 h2 h3 j23_4 pz15_2 r5) (fun v23 ev23 qv23 => ?_)
      have ev23 : (w23_1) (z15) = v23 := (congrFun (((show A18 1 = A15 1 from (eA18 1).trans (funext (hA18 1 rfl)))).trans (((show A15 1 = A_23 1 from (eA15 1).trans (funext (hA15 1 rfl)))).trans (ew23_1))) (z15)).symm.trans ev23
      have hvo1 := ev23
      refine Ew_of (pcₚ := 76) (fun _ => x_aload_n rfl (rk_o (rk_o (l23_0) rfl rfl) rfl rfl)) ?_
      refine v_g H (o := 0) (v := .ref (D 1)) rfl rfl rfl rfl rfl (vrf ((mF18 0 11 rfl).trans (pf1))) ?_
      refine Ew_of (pcₚ := 80) (fun _ => x_iload_n rfl rk_s) ?_
      refine v_lI H (o := 1) rfl rfl rfl rfl (n := n1) (en1) (show 0 ≤ z18 ∧ z18 < n1 from q_3641 b14 h2 h3 j23_4 pz18_2 r5) (fun v24 ev24 qv24 => ?_)
      have ev24 : (w23_1) (z18) = v24 := (congrFun (((show A18 1 = A15 1 from (eA18 1).trans (funext (hA18 1 rfl)))).trans (((show A15 1 = A_23 1 from (eA15 1).trans (funext (hA15 1 rfl)))).trans (ew23_1))) (z18)).symm.trans ev24
      have hvo2 := ev24
      refine w_iadd rfl ?_
      refine v_sI H (o := 1) (z := (v23 + v24)) rfl rfl rfl rfl (n := n1) (en1) (show 0 ≤ y23_0_16 ∧ y23_0_16 < n1 from q_3642 b14 h2 h3 j23_4 pz18_2 r5) (show inr ((v23 + v24)) by omega) (fun σ H Oₚ => ?_)
      have O := OUT_trans O Oₚ
      have cAu25 : SA oz_F1clsl_5 A (updA (updA (updA A18 3 (z15) (y23_0_16)) 3 (z18) (y23_0_16)) 1 (y23_0_16) ((v23 + v24))) := SA_upd (cAu22) rfl
      have mAu25 := SAm_of cAu25 oz_F1cls_12
      refine Ew_of (pcₚ := 84) (fun _ => x_aload_n rfl (rk_o (rk_o (l23_0) rfl rfl) rfl rfl)) ?_
      refine Ew_of (pcₚ := 85) (fun _ => x_dup rfl rfl) ?_
      refine v_g H (o := 0) (v := I (y23_0_16)) rfl rfl rfl rfl rfl (congrArg (fun z : Int => I z) (((((show F18 0 16 = F15 0 16 from (eF18 0 16).trans (hS18 0 16 rfl))).trans ((show F15 0 16 = F_23 0 16 from (eF15 0 16).trans (hS15 0 16 rfl)))).trans (ey23_0_16)) : F18 0 16 = y23_0_16)) ?_
      refine Ew_of (pcₚ := 89) (fun _ => x_iconst rfl) ?_
      refine w_iadd rfl ?_
      refine v_p H (o := 0) (z := (y23_0_16 + 1)) (v := I ((y23_0_16 + 1))) rfl rfl rfl rfl rfl rfl rfl rfl (show (-2147483648 : Int) ≤ (y23_0_16 + 1) ∧ (y23_0_16 + 1) ≤ 2147483647 from q_3643 b14 h3 j23_4 pz18_2) (fun σ H Oₚ => ?_)
      have O := OUT_trans O Oₚ
      have cFu26 : SF oz_F1clsl_4 F (updF F18 0 16 ((y23_0_16 + 1))) := SF_upd (cF18) rfl
      have mFu26 := SFm_of cFu26 oz_F1cls_11
      refine Ew_of (pcₚ := 96) (fun _ => x_iinc (len := 3) rfl (rk_o (rk_o (l23_1) rfl rfl) rfl rfl)) ?_
      refine Ew_of (pcₚ := 23) (fun _ => x_goto rfl rfl) ?_
      have hcl1 : CLS hC ((upd1 (w23_1) (y23_0_16) ((v23 + v24)))) ((upd1 (upd1 (w23_3) (z15) (y23_0_16)) (z18) (y23_0_16))) ((w2)) ((u0_14)) ((y18_0_13)) ((y18_0_15)) (((y23_0_16 + 1))) := CLS_s j23_c (TW_srt htw) hts1 hts2 rfl (by rw [hvo1, hvo2])
      have ht1 : TW ((upd1 (w23_1) (y23_0_16) ((v23 + v24)))) ((upd1 (upd1 (w23_3) (z15) (y23_0_16)) (z18) (y23_0_16))) ((u0_14)) ((y18_0_13)) ((y18_0_15)) (((y23_0_16 + 1))) (SA2 ((w1)) 0 ((u0_14))) := (TW_step htw hp1 hp2 rfl (by omega)).2.2.2.2.2.2.2
      have hrr := TW_rng ht1
      exact ih23 _ (msE hm23 q_16 (q_17 b14)) _ _ _ _ ((x23_1 + 1)) (rk_o (rk_o (rk_o (l23_0) rfl rfl) rfl rfl) rfl rfl) (rk_s) H O (SF_upd (SF_trans (SF_trans (hS_23) (SF_gluc (ι := oz_F1clsl_6) oz_F1cls_13 hS15 eF15 (by decide +kernel)) (any_sub (lₚ := [(0, 13), (0, 15)]) (by decide +kernel))) (SF_gluc (ι := oz_F1clsl_6) oz_F1cls_13 hS18 eF18 (by decide +kernel)) (any_sub (lₚ := [(0, 13), (0, 15)]) (by decide +kernel))) rfl) (SA_upd (SA_upd (SA_upd (SA_trans (SA_trans (hA_23) (SA_gluc (ι := oz_F1clsl_6) oz_F1cls_13 hA15 eA15 (by decide +kernel)) (any_subA (lₚ := []) (by decide +kernel))) (SA_gluc (ι := oz_F1clsl_6) oz_F1cls_13 hA18 eA18 (by decide +kernel)) (any_subA (lₚ := []) (by decide +kernel))) rfl) rfl) rfl)   (y18_0_13) (((eF18 0 13).trans ey18_0_13)) (y18_0_15) (((eF18 0 15).trans ey18_0_15)) ((y23_0_16 + 1)) (rfl) (upd1 (w23_1) (y23_0_16) ((v23 + v24))) (congrArg (fun q => upd1 q (y23_0_16) ((v23 + v24))) (((show A18 1 = A15 1 from (eA18 1).trans (funext (hA18 1 rfl)))).trans (((show A15 1 = A_23 1 from (eA15 1).trans (funext (hA15 1 rfl)))).trans (ew23_1)))) (upd1 (upd1 (w23_3) (z15) (y23_0_16)) (z18) (y23_0_16)) (congrArg (fun q => upd1 q (z18) (y23_0_16)) (congrArg (fun q => upd1 q (z15) (y23_0_16)) (((show A18 3 = A15 3 from (eA18 3))).trans (((show A15 3 = A_23 3 from (eA15 3))).trans (ew23_3))))) (show inr ((x23_1 + 1)) from q_3646 b14 h3 j23_1) (show (1) ≤ ((x23_1 + 1)) from q_888 j23_1) (show ((x23_1 + 1)) ≤ (1) ∨ ((x23_1 + 1)) ≤ ((u0_14)) from q_3538 b14) (hcl1) (show (((y23_0_16 + 1))) = ((u0_14)) + ((x23_1 + 1)) - 1 from q_3645 j23_4) (ht1) (show 0 ≤ ((y18_0_13)) ∧ ((y18_0_13)) ≤ ((u0_14)) ∧ ((u0_14)) ≤ ((y18_0_15)) ∧ ((y18_0_15)) ≤ (((y23_0_16 + 1))) ∧ (((u0_14)) - ((y18_0_13))) + ((((y23_0_16 + 1))) - ((y18_0_15))) + ((((y23_0_16 + 1))) - ((u0_14))) = ((u0_14)) from q_3644 j23_6 pz15_3 pz18_3) rfl
abbrev V102 : vV := [(0, 3, [(4, 0), (4, 0), (4, 0), (0, 0), (4, 0), (4, 0), (4, 0), (4, 0), (4, 0), (4, 0), (4, 0), (4, 0), (4, 0), (0, 0), (0, 0), (0, 0), (0, 0)]), (1, 1, []), (1, 1, []), (1, 1, []), (1, 1, [])]
theorem len_V102_oz_F1cls : (V102).length = 5 := by decide +kernel
def oz_F1clsl_7 : List Nat := [3, 4]
theorem oz_F1cls_15 : (oz_F1clsl_7).all (fun p => !tbz 24 p) = true := by decide +kernel
def oz_F1clsl_8 : List (Nat × Nat) := [(0, 3)]
theorem oz_F1cls_16 : (oz_F1clsl_8).all (fun p => !tbz 8 (Nat.add (Nat.mul 32 p.1) p.2)) = true := by decide +kernel

theorem C102 {σE : rS} {D N : Nat → Nat} {F : hF} {A : hA} {d c s : Nat} {Q : wQ} (H : HW V102 σE D N F A)  (pf1 : F 0 12 = (D 1 : Int)) (pf2 : F 0 10 = (D 2 : Int)) (pf3 : F 0 11 = (D 3 : Int)) (pf4 : F 0 0 = (D 4 : Int)) (n1 : Int) (en1 : (N 1 : Int) = n1) (n2 : Int) (en2 : (N 2 : Int) = n2) (n3 : Int) (en3 : (N 3 : Int) = n3) (n4 : Int) (en4 : (N 4 : Int) = n4) (u0_3 : Int) (eu0_3 : F 0 3 = u0_3) (u0_13 : Int) (eu0_13 : F 0 13 = u0_13) (u0_14 : Int) (eu0_14 : F 0 14 = u0_14) (u0_15 : Int) (eu0_15 : F 0 15 = u0_15) (u0_16 : Int) (eu0_16 : F 0 16 = u0_16) (w1 : Int → Int) (ew1 : A 1 = w1) (w2 : Int → Int) (ew2 : A 2 = w2) (w3 : Int → Int) (ew3 : A 3 = w3) (w4 : Int → Int) (ew4 : A 4 = w4) (tot : Int) (hC : Int → Int) (h0 : FLP hC ((w1)) ((w2)) ((u0_14)) ((u0_16))) (h1 : (n3) = 512 ∧ (n1) = 512 ∧ (n2) = 256 ∧ (n4) = 256) (h2 : 2 ≤ ((u0_14)) ∧ ((u0_14)) ≤ 256) (h3 : ((u0_16)) = 2 * ((u0_14)) - 1) (h4 : TW ((w3)) ((w1)) ((u0_14)) ((u0_13)) ((u0_15)) ((u0_16)) tot) (h5 : ORD ((w2)) ((u0_14))) (h6 : tot ≤ 16777216) (k : ∀ (σ : rS) (Fₚ : hF) (Aₚ : hA), HW V102 σ D N Fₚ Aₚ → OUT (V102).length D N σE c s D N σ c s → SF [(0, 3)] F Fₚ → SA [3, 4] A Aₚ → ∀ y0_3 : Int, Fₚ 0 3 = y0_3 → ∀ v4 : Int → Int, Aₚ 4 = v4 → (LGT ((y0_3)) tot) → (LNG ((v4)) ((y0_3))) → (0 ≤ (y0_3)) → (∀ s, 0 ≤ s → s < 256 → ((v4)) s = dpH hC s) → ((y0_3) = mxF hC) → Q none σ c s) : Ew 102 (d + 1) 0 (rargs 0 [.ref (D 0)]) [] σE c s Q := by
  have O := OUT_refl (n := (V102).length) (D := D) (N := N) (σ := σE) (c := c) (s := s)
  have HE := H
  have r1 : (-2147483648 : Int) ≤ u0_3 ∧ u0_3 ≤ 2147483647 := rngE (show (-2147483648 : Int) ≤ F 0 3 ∧ F 0 3 ≤ 2147483647 from H.krg 0 3 (ltn len_V102_oz_F1cls rfl)) (show F 0 3 = u0_3 from (eu0_3))
  have r2 : (-2147483648 : Int) ≤ u0_13 ∧ u0_13 ≤ 2147483647 := rngE (show (-2147483648 : Int) ≤ F 0 13 ∧ F 0 13 ≤ 2147483647 from H.krg 0 13 (ltn len_V102_oz_F1cls rfl)) (show F 0 13 = u0_13 from (eu0_13))
  have r3 : (-2147483648 : Int) ≤ u0_14 ∧ u0_14 ≤ 2147483647 := rngE (show (-2147483648 : Int) ≤ F 0 14 ∧ F 0 14 ≤ 2147483647 from H.krg 0 14 (ltn len_V102_oz_F1cls rfl)) (show F 0 14 = u0_14 from (eu0_14))
  have r4 : (-2147483648 : Int) ≤ u0_15 ∧ u0_15 ≤ 2147483647 := rngE (show (-2147483648 : Int) ≤ F 0 15 ∧ F 0 15 ≤ 2147483647 from H.krg 0 15 (ltn len_V102_oz_F1cls rfl)) (show F 0 15 = u0_15 from (eu0_15))
  have r5 : (-2147483648 : Int) ≤ u0_16 ∧ u0_16 ≤ 2147483647 := rngE (show (-2147483648 : Int) ≤ F 0 16 ∧ F 0 16 ≤ 2147483647 from H.krg 0 16 (ltn len_V102_oz_F1cls rfl)) (show F 0 16 = u0_16 from (eu0_16))
  have r6 : (0 : Int) ≤ n1 ∧ n1 ≤ 1000000 := nleE (H.nle 1 (ltn len_V102_oz_F1cls rfl)) (show (N 1 : Int) = n1 from en1)
  have r7 : (0 : Int) ≤ n2 ∧ n2 ≤ 1000000 := nleE (H.nle 2 (ltn len_V102_oz_F1cls rfl)) (show (N 2 : Int) = n2 from en2)
  have r8 : (0 : Int) ≤ n3 ∧ n3 ≤ 1000000 := nleE (H.nle 3 (ltn len_V102_oz_F1cls rfl)) (show (N 3 : Int) = n3 from en3)
  have r9 : (0 : Int) ≤ n4 ∧ n4 ≤ 1000000 := nleE (H.nle 4 (ltn len_V102_oz_F1cls rfl)) (show (N 4 : Int) = n4 from en4)
  obtain ⟨kc_, ic_, hHT, hFX⟩ := (h0)
  have htw : TW ((w3)) ((w1)) ((u0_14)) ((u0_13)) ((u0_15)) ((u0_16)) tot := h4
  have hord : ORD ((w2)) ((u0_14)) := h5
  refine Ew_of (pcₚ := 1) (fun _ => x_aload_n rfl rfl) ?_
  refine v_g H (o := 0) (v := .ref (D 4)) rfl rfl rfl rfl rfl (vrf (pf4)) ?_
  refine Ew_of (pcₚ := 5) (fun _ => x_iconst rfl) ?_
  refine v_fil H (t := 4) (v := 0) rfl rfl rfl rfl rfl (show inr (0) from q_2) (fun σ A10 H Oₚ hA10 ga10 => ?_)
  have O := OUT_trans O Oₚ
  have cA10 : SA oz_F1clsl_7 A A10 := SA_trans (SA_refl) hA10 (any_subA (by decide +kernel))
  have mA10 := SAm_of cA10 oz_F1cls_15
  refine Ew_of (pcₚ := 9) (fun _ => x_aload_n rfl rfl) ?_
  refine Ew_of (pcₚ := 10) (fun _ => x_iconst rfl) ?_
  refine v_p H (o := 0) (z := 0) (v := I (0)) rfl rfl rfl rfl rfl rfl rfl rfl (show (-2147483648 : Int) ≤ 0 ∧ 0 ≤ 2147483647 from q_22) (fun σ H Oₚ => ?_)
  have O := OUT_trans O Oₚ
  have cFu11 : SF oz_F1clsl_8 F (updF F 0 3 (0)) := SF_upd (SF_refl) rfl
  have mFu11 := SFm_of cFu11 oz_F1cls_16
  refine Ew_of (pcₚ := 14) (fun _ => x_aload_n rfl rfl) ?_
  refine v_g H (o := 0) (v := .ref (D 3)) rfl rfl rfl rfl rfl (vrf ((mFu11 0 11 rfl).trans (pf3))) ?_
  refine Ew_of (pcₚ := 18) (fun _ => x_aload_n rfl rfl) ?_
  refine v_g H (o := 0) (v := I (u0_16)) rfl rfl rfl rfl rfl (congrArg (fun z : Int => I z) (((mFu11 0 16 rfl).trans (eu0_16)) : (updF F 0 3 (0)) 0 16 = u0_16)) ?_
  refine Ew_of (pcₚ := 22) (fun _ => x_iconst rfl) ?_
  refine w_isub rfl ?_
  refine Ew_of (pcₚ := 24) (fun _ => x_iconst rfl) ?_
  refine v_sI H (o := 3) (z := 0) rfl rfl rfl rfl (n := n3) (en3) (show 0 ≤ (u0_16 - 1) ∧ (u0_16 - 1) < n3 from q_3647 h1 h2 h3 r8) (show inr (0) from q_2) (fun σ H Oₚ => ?_)
  have O := OUT_trans O Oₚ
  have cAu12 : SA oz_F1clsl_7 A (updA A10 3 ((u0_16 - 1)) (0)) := SA_upd (cA10) rfl
  have mAu12 := SAm_of cAu12 oz_F1cls_15
  refine Ew_of (pcₚ := 26) (fun _ => x_aload_n rfl rfl) ?_
  refine v_g H (o := 0) (v := I (u0_16)) rfl rfl rfl rfl rfl (congrArg (fun z : Int => I z) (((mFu11 0 16 rfl).trans (eu0_16)) : (updF F 0 3 (0)) 0 16 = u0_16)) ?_
  refine Ew_of (pcₚ := 30) (fun _ => x_iconst rfl) ?_
  refine w_isub rfl ?_
  refine Ew_of (pcₚ := 32) (fun _ => x_istore_n rfl) ?_
  have hdl0 : DLX ic_ ((upd1 (w3) ((u0_16 - 1)) (0))) ((w2)) ((u0_14)) ((u0_16)) (((u0_16 - 2))) := DLX_0 hFX (by omega) (by omega) (by rw [upd1_s])
  have hlg0 : LGX ic_ ((A10 4)) ((w2)) ((u0_14)) (((u0_16 - 2))) := LGX_0 (fun s => ga10 s) (by omega)
  have hgt0 : GTX ((A10 4)) 0 := GTX_0 (fun s => ga10 s)
  have hf0 : FLQ ((upd1 (w3) ((u0_16 - 1)) (0))) ((w1)) (((u0_16 - 2))) ((u0_16)) tot := FLQ_0 htw (by omega) (by omega)
  have hl0 : LNG ((A10 4)) 0 := fun s a b => by rw [ga10 s]; omega
  have hg0 : LGT 0 tot := LGT_0 (FLQ_1 hf0)
  suffices hl32 : ∀ (m : Nat), ∀ (ls : rO) (σ : rS) (F_32 : hF) (A_32 : hA) (x32_1 : Int), rlook ls 0 = some (.ref (D 0)) → rlook ls 1 = some (I (x32_1)) → HW V102 σ D N F_32 A_32 → OUT (V102).length D N σE c s D N σ c s → SF [(0, 3)] (updF F 0 3 (0)) F_32 → SA [3, 4] (updA A10 3 ((u0_16 - 1)) (0)) A_32 → ∀ y32_0_3 : Int, F_32 0 3 = y32_0_3 → ∀ w32_3 : Int → Int, A_32 3 = w32_3 → ∀ w32_4 : Int → Int, A_32 4 = w32_4 → (inr (x32_1)) → ((x32_1) ≤ ((u0_16 - 2))) → (((u0_16 - 2)) ≤ (x32_1) ∨ ((-1)) ≤ (x32_1)) → (DLX ic_ ((w32_3)) ((w2)) ((u0_14)) ((u0_16)) ((x32_1))) → (LGX ic_ ((w32_4)) ((w2)) ((u0_14)) ((x32_1))) → (GTX ((w32_4)) ((y32_0_3))) → (FLQ ((w32_3)) ((w1)) (x32_1) ((u0_16)) tot) → (LNG ((w32_4)) ((y32_0_3))) → (LGT ((y32_0_3)) tot) → (0 ≤ ((y32_0_3))) → ((x32_1) - ((-1))).toNat = m → Ew 102 (d + 1) 32 ls [] σ c s Q from
    hl32 _ _ _ _ _ ((u0_16 - 2)) (rk_o (rfl) rfl rfl) (rk_s) H O (SF_refl) (SA_refl)   (0) (rfl) (upd1 (w3) ((u0_16 - 1)) (0)) (congrArg (fun q => upd1 q ((u0_16 - 1)) (0)) ((funext (hA10 3 rfl)).trans (ew3))) (A10 4) (rfl) (show inr ((u0_16 - 2)) from q_3648 h2 h3 r5) (show ((u0_16 - 2)) ≤ ((u0_16 - 2)) from q_3510) (show ((u0_16 - 2)) ≤ ((u0_16 - 2)) ∨ ((-1)) ≤ ((u0_16 - 2)) from q_3509) (hdl0) (hlg0) (hgt0) (hf0) (hl0) (hg0) (show 0 ≤ ((0)) from q_1) rfl
  as_aux_lemma =>
  intro m
  induction m using Nat.strongRecOn with
  | _ m ih32 =>
    intro ls σ F_32 A_32 x32_1 l32_0 l32_1 H O hS_32 hA_32   y32_0_3 ey32_0_3 w32_3 ew32_3 w32_4 ew32_4 j32_0 j32_1 j32_2 j32_3 j32_4 j32_5 j32_6 j32_7 j32_8 j32_9 hm32
    have cF_32 : SF oz_F1clsl_8 F F_32 := SF_trans (cFu11) hS_32 (any_sub (by decide +kernel))
    have mF_32 := SFm_of cF_32 oz_F1cls_16
    have cA_32 : SA oz_F1clsl_7 A A_32 := SA_trans (cAu12) hA_32 (any_subA (by decide +kernel))
    have mA_32 := SAm_of cA_32 oz_F1cls_15
    have r13 : (-2147483648 : Int) ≤ y32_0_3 ∧ y32_0_3 ≤ 2147483647 := rngE (show (-2147483648 : Int) ≤ F_32 0 3 ∧ F_32 0 3 ≤ 2147483647 from H.krg 0 3 (ltn len_V102_oz_F1cls rfl)) (show F_32 0 3 = y32_0_3 from (ey32_0_3))
    have j32_d : DLX ic_ ((w32_3)) ((w2)) ((u0_14)) ((u0_16)) ((x32_1)) := j32_3
    have j32_l : LGX ic_ ((w32_4)) ((w2)) ((u0_14)) ((x32_1)) := j32_4
    have j32_g : GTX ((w32_4)) ((y32_0_3)) := j32_5
    have hflq : FLQ ((w32_3)) ((w1)) (x32_1) ((u0_16)) tot := j32_6
    have hgo : LGT ((y32_0_3)) tot := j32_8
    refine Ew_of (pcₚ := 33) (fun _ => x_iload_n rfl l32_1) ?_
    refine w_iflt (t := 103) rfl rfl (show inr (x32_1) from j32_0) (fun b14 => ?_) (fun b14 => ?_)
    · have hfin := FLX_e hHT hFX (by omega) j32_l (by omega) j32_g
      have hfin1 := hfin.1
      have hfin2 := hfin.2
      exact w_ret rfl (k _ _ _ H O (cF_32) (cA_32) (y32_0_3) ((ey32_0_3)) (w32_4) (ew32_4) (hgo) (j32_7) (show 0 ≤ (y32_0_3) from j32_9) (show ∀ s, 0 ≤ s → s < 256 → ((w32_4)) s = dpH hC s by assumption) (show (y32_0_3) = mxF hC by assumption))
    · refine Ew_of (pcₚ := 37) (fun _ => x_aload_n rfl l32_0) ?_
      refine v_g H (o := 0) (v := .ref (D 3)) rfl rfl rfl rfl rfl (vrf ((mF_32 0 11 rfl).trans (pf3))) ?_
      refine Ew_of (pcₚ := 41) (fun _ => x_iload_n rfl l32_1) ?_
      refine Ew_of (pcₚ := 42) (fun _ => x_aload_n rfl l32_0) ?_
      refine v_g H (o := 0) (v := .ref (D 3)) rfl rfl rfl rfl rfl (vrf ((mF_32 0 11 rfl).trans (pf3))) ?_
      refine Ew_of (pcₚ := 46) (fun _ => x_aload_n rfl l32_0) ?_
      refine v_g H (o := 0) (v := .ref (D 1)) rfl rfl rfl rfl rfl (vrf ((mF_32 0 12 rfl).trans (pf1))) ?_
      refine Ew_of (pcₚ := 50) (fun _ => x_iload_n rfl l32_1) ?_
      refine v_lI H (o := 1) rfl rfl rfl rfl (n := n1) (en1) (show 0 ≤ x32_1 ∧ x32_1 < n1 from q_3649 b14 h1 h2 h3 j32_1 r6) (fun v15 ev15 qv15 => ?_)
      have ev15 : (w1) (x32_1) = v15 := (congrFun ((funext (mA_32 1 rfl)).trans (ew1)) (x32_1)).symm.trans ev15
      have hpa := FLQ_pa hflq (by omega) (by omega)
      have hpav := ev15
      rw [hpav] at hpa
      refine v_lI H (o := 3) rfl rfl rfl rfl (n := n3) (en3) (show 0 ≤ v15 ∧ v15 < n3 by omega) (fun v16 ev16 qv16 => ?_)
      have ev16 : (w32_3) (v15) = v16 := (congrFun (ew32_3) (v15)).symm.trans ev16
      have hch : ((w32_3)) (((w1)) (x32_1)) = (v16) := by rw [hpav]; exact ev16
      have hamv := ev16
      rw [hamv] at hpa
      refine Ew_of (pcₚ := 53) (fun _ => x_iconst rfl) ?_
      refine w_iadd rfl ?_
      have hDs := DLX_s (v := ((v16 + 1))) (j := (x32_1) - 1) hFX (by omega) j32_d (by omega) (by omega) (by rw [hch]) rfl
      have hdv := hDs.2
      have hfs := (FLQ_s (v := ((v16 + 1))) (i2 := (x32_1) - 1) hflq (by omega) (by omega) rfl (by omega)).2
      have hlw := LGT_le hfs.1
      refine v_sI H (o := 3) (z := (v16 + 1)) rfl rfl rfl rfl (n := n3) (en3) (show 0 ≤ x32_1 ∧ x32_1 < n3 from q_3650 b14 h1 h2 h3 j32_1 r8) (show inr ((v16 + 1)) by omega) (fun σ H Oₚ => ?_)
      have O := OUT_trans O Oₚ
      have cAu17 : SA oz_F1clsl_7 A (updA A_32 3 (x32_1) ((v16 + 1))) := SA_upd (cA_32) rfl
      have mAu17 := SAm_of cAu17 oz_F1cls_15
      refine Ew_of (pcₚ := 56) (fun _ => x_iload_n rfl l32_1) ?_
      refine Ew_of (pcₚ := 57) (fun _ => x_aload_n rfl l32_0) ?_
      refine v_g H (o := 0) (v := I (u0_14)) rfl rfl rfl rfl rfl (congrArg (fun z : Int => I z) (((mF_32 0 14 rfl).trans (eu0_14)) : F_32 0 14 = u0_14)) ?_
      refine w_icmpge (t := 97) rfl rfl (show inr (x32_1) from j32_0) (show inr (u0_14) from q_3632 h2) (fun b18 => ?_) (fun b18 => ?_)
      · refine Ew_of (pcₚ := 100) (fun _ => x_iinc (len := 3) rfl (l32_1)) ?_
        refine Ew_of (pcₚ := 32) (fun _ => x_goto rfl rfl) ?_
        have hdl1 : DLX ic_ ((upd1 (w32_3) (x32_1) ((v16 + 1)))) ((w2)) ((u0_14)) ((u0_16)) (((x32_1 + (-1)))) := hDs.1
        have hlg1 : LGX ic_ ((w32_4)) ((w2)) ((u0_14)) (((x32_1 + (-1)))) := by first | exact LGX_n j32_l (by omega) rfl | (rw [← horv]; exact LGX_s hFX j32_l (by omega) (by omega) (by rw [← hvl]; exact hdv) rfl)
        have hgt1 : GTX ((w32_4)) ((y32_0_3)) := by first | exact j32_g | exact GTX_s j32_g (by omega) (by rw [← horv]; exact LGX_z hFX j32_l (by omega) (by omega)) (by omega) (by omega)
        have hf1 : FLQ ((upd1 (w32_3) (x32_1) ((v16 + 1)))) ((w1)) ((x32_1 + (-1))) ((u0_16)) tot := (FLQ_s hflq (by omega) (by omega) (by omega) (by omega)).1
        have hl1 : LNG ((w32_4)) ((y32_0_3)) := by first | exact LNG_upd (by assumption) (by omega) (by omega) | assumption
        have hg1 : LGT ((y32_0_3)) tot := by first | assumption | exact LGT_max hgo hlv (by omega)
        exact ih32 _ (msE hm32 q_432 (q_433 b14)) _ _ _ _ ((x32_1 + (-1))) (rk_o (l32_0) rfl rfl) (rk_s) H O (hS_32) (SA_upd (hA_32) rfl)   (y32_0_3) ((ey32_0_3)) (upd1 (w32_3) (x32_1) ((v16 + 1))) (congrArg (fun q => upd1 q (x32_1) ((v16 + 1))) (ew32_3)) (w32_4) (ew32_4) (show inr ((x32_1 + (-1))) from q_431 b14 j32_0) (show ((x32_1 + (-1))) ≤ ((u0_16 - 2)) from q_3651 j32_1) (show ((u0_16 - 2)) ≤ ((x32_1 + (-1))) ∨ ((-1)) ≤ ((x32_1 + (-1))) from q_3515 b14) (hdl1) (hlg1) (hgt1) (hf1) (hl1) (hg1) (show 0 ≤ ((y32_0_3)) from j32_9) rfl
      · refine Ew_of (pcₚ := 64) (fun _ => x_aload_n rfl l32_0) ?_
        refine v_g H (o := 0) (v := .ref (D 4)) rfl rfl rfl rfl rfl (vrf ((mF_32 0 0 rfl).trans (pf4))) ?_
        refine Ew_of (pcₚ := 68) (fun _ => x_aload_n rfl l32_0) ?_
        refine v_g H (o := 0) (v := .ref (D 2)) rfl rfl rfl rfl rfl (vrf ((mF_32 0 10 rfl).trans (pf2))) ?_
        refine Ew_of (pcₚ := 72) (fun _ => x_iload_n rfl l32_1) ?_
        refine v_lI H (o := 2) rfl rfl rfl rfl (n := n2) (en2) (show 0 ≤ x32_1 ∧ x32_1 < n2 from q_3652 b14 b18 h1 h2) (fun v19 ev19 qv19 => ?_)
        have ev19 : (w2) (x32_1) = v19 := (congrFun ((funext (mAu17 2 rfl)).trans (ew2)) (x32_1)).symm.trans ev19
        have horv := ev19
        have hor := hord ((x32_1)) (by omega) (by omega)
        rw [ev19] at hor
        refine Ew_of (pcₚ := 74) (fun _ => x_aload_n rfl l32_0) ?_
        refine v_g H (o := 0) (v := .ref (D 3)) rfl rfl rfl rfl rfl (vrf ((mF_32 0 11 rfl).trans (pf3))) ?_
        refine Ew_of (pcₚ := 78) (fun _ => x_iload_n rfl l32_1) ?_
        refine v_lI H (o := 3) rfl rfl rfl rfl (n := n3) (en3) (show 0 ≤ x32_1 ∧ x32_1 < n3 from q_3653 b14 b18 h1 h2 r8) (fun v20 ev20 qv20 => ?_)
        have ev20 : (upd1 (w32_3) (x32_1) ((v16 + 1))) (x32_1) = v20 := (congrFun (congrArg (fun q => upd1 q (x32_1) ((v16 + 1))) (ew32_3)) (x32_1)).symm.trans ev20
        have hvl := ev20
        rw [upd1_s] at hvl
        refine v_sI H (o := 4) (z := v20) rfl rfl rfl rfl (n := n4) (en4) (show 0 ≤ v19 ∧ v19 < n4 by omega) (show inr (v20) from qv20) (fun σ H Oₚ => ?_)
        have O := OUT_trans O Oₚ
        have cAu21 : SA oz_F1clsl_7 A (updA (updA A_32 3 (x32_1) ((v16 + 1))) 4 (v19) (v20)) := SA_upd (cAu17) rfl
        have mAu21 := SAm_of cAu21 oz_F1cls_15
        refine Ew_of (pcₚ := 81) (fun _ => x_aload_n rfl l32_0) ?_
        refine Ew_of (pcₚ := 82) (fun _ => x_aload_n rfl l32_0) ?_
        refine v_g H (o := 0) (v := I (y32_0_3)) rfl rfl rfl rfl rfl (congrArg (fun z : Int => I z) ((ey32_0_3) : F_32 0 3 = y32_0_3)) ?_
        refine Ew_of (pcₚ := 86) (fun _ => x_aload_n rfl l32_0) ?_
        refine v_g H (o := 0) (v := .ref (D 3)) rfl rfl rfl rfl rfl (vrf ((mF_32 0 11 rfl).trans (pf3))) ?_
        refine Ew_of (pcₚ := 90) (fun _ => x_iload_n rfl l32_1) ?_
        refine v_lI H (o := 3) rfl rfl rfl rfl (n := n3) (en3) (show 0 ≤ x32_1 ∧ x32_1 < n3 from q_3653 b14 b18 h1 h2 r8) (fun v22 ev22 qv22 => ?_)
        have ev22 : (upd1 (w32_3) (x32_1) ((v16 + 1))) (x32_1) = v22 := (congrFun (congrArg (fun q => upd1 q (x32_1) ((v16 + 1))) (ew32_3)) (x32_1)).symm.trans ev22
        have hvm := ev22
        rw [upd1_s] at hvm
        have hlv : LGT ((v22)) tot := by rw [← hvm]; exact hfs.1
        refine v_max rfl rfl (show inr (y32_0_3) from q_1207 j32_9 r13) (show inr (v22) from qv22) (fun z23 gz23 => ?_)
        refine v_p H (o := 0) (z := z23) (v := I (z23)) rfl rfl rfl rfl rfl rfl rfl rfl (show (-2147483648 : Int) ≤ z23 ∧ z23 ≤ 2147483647 from q_3654 gz23 j32_9 qv22 r13) (fun σ H Oₚ => ?_)
        have O := OUT_trans O Oₚ
        have cFu24 : SF oz_F1clsl_8 F (updF F_32 0 3 (z23)) := SF_upd (cF_32) rfl
        have mFu24 := SFm_of cFu24 oz_F1cls_16
        refine Ew_of (pcₚ := 100) (fun _ => x_iinc (len := 3) rfl (l32_1)) ?_
        refine Ew_of (pcₚ := 32) (fun _ => x_goto rfl rfl) ?_
        have hdl1 : DLX ic_ ((upd1 (w32_3) (x32_1) ((v16 + 1)))) ((w2)) ((u0_14)) ((u0_16)) (((x32_1 + (-1)))) := hDs.1
        have hlg1 : LGX ic_ ((upd1 (w32_4) (v19) (v20))) ((w2)) ((u0_14)) (((x32_1 + (-1)))) := by first | exact LGX_n j32_l (by omega) rfl | (rw [← horv]; exact LGX_s hFX j32_l (by omega) (by omega) (by rw [← hvl]; exact hdv) rfl)
        have hgt1 : GTX ((upd1 (w32_4) (v19) (v20))) ((z23)) := by first | exact j32_g | exact GTX_s j32_g (by omega) (by rw [← horv]; exact LGX_z hFX j32_l (by omega) (by omega)) (by omega) (by omega)
        have hf1 : FLQ ((upd1 (w32_3) (x32_1) ((v16 + 1)))) ((w1)) ((x32_1 + (-1))) ((u0_16)) tot := (FLQ_s hflq (by omega) (by omega) (by omega) (by omega)).1
        have hl1 : LNG ((upd1 (w32_4) (v19) (v20))) ((z23)) := by first | exact LNG_upd (by assumption) (by omega) (by omega) | assumption
        have hg1 : LGT ((z23)) tot := by first | assumption | exact LGT_max hgo hlv (by omega)
        exact ih32 _ (msE hm32 q_432 (q_433 b14)) _ _ _ _ ((x32_1 + (-1))) (rk_o (l32_0) rfl rfl) (rk_s) H O (SF_upd (hS_32) rfl) (SA_upd (SA_upd (hA_32) rfl) rfl)   (z23) (rfl) (upd1 (w32_3) (x32_1) ((v16 + 1))) (congrArg (fun q => upd1 q (x32_1) ((v16 + 1))) (ew32_3)) (upd1 (w32_4) (v19) (v20)) (congrArg (fun q => upd1 q (v19) (v20)) (ew32_4)) (show inr ((x32_1 + (-1))) from q_431 b14 j32_0) (show ((x32_1 + (-1))) ≤ ((u0_16 - 2)) from q_3651 j32_1) (show ((u0_16 - 2)) ≤ ((x32_1 + (-1))) ∨ ((-1)) ≤ ((x32_1 + (-1))) from q_3515 b14) (hdl1) (hlg1) (hgt1) (hf1) (hl1) (hg1) (show 0 ≤ ((z23)) from q_3655 gz23 j32_9) rfl
abbrev V97_Ir : vV := [(0, 3, [(4, 0), (4, 0), (4, 0), (0, 0), (4, 0), (4, 0), (4, 0), (4, 0), (4, 0), (4, 0), (4, 0), (4, 0), (4, 0), (0, 0), (0, 0), (0, 0), (0, 0)]), (1, 1, []), (1, 1, []), (1, 1, []), (1, 1, []), (1, 1, [])]
theorem len_V97_Ir_oz_F1cls : (V97_Ir).length = 6 := by decide +kernel
theorem oz_F1cls_18 : vsub V97_Ir V99_Ir [0, 1, 2, 4] = true := by decide +kernel
theorem oz_F1cls_19 : vsub V97_Ir V100 [0, 2, 4, 3] = true := by decide +kernel
theorem oz_F1cls_20 : vsub V97_Ir V102 [0, 3, 4, 2, 5] = true := by decide +kernel
def oz_F1clsl_9 : List (Nat × Nat) := [(0, 3), (0, 13), (0, 14), (0, 15), (0, 16)]
theorem oz_F1cls_21 : (oz_F1clsl_9).all (fun p => !tbz 122888 (Nat.add (Nat.mul 32 p.1) p.2)) = true := by decide +kernel
def oz_F1clsl_10 : List Nat := [2, 3, 4, 5]
theorem oz_F1cls_22 : (oz_F1clsl_10).all (fun p => !tbz 60 p) = true := by decide +kernel
def oz_F1clsl_11 : List Nat := [0, 1, 2, 4]
theorem oz_F1cls_23 : okc oz_F1clsl_11 537395712 = true := by decide +kernel
def oz_F1clsl_12 : List Nat := [0, 2, 4, 3]
theorem oz_F1cls_24 : okc oz_F1clsl_12 403702784 = true := by decide +kernel
def oz_F1clsl_13 : List Nat := [0, 3, 4, 2, 5]
theorem oz_F1cls_25 : okc oz_F1clsl_13 343866869248 = true := by decide +kernel

theorem C97_Ir {σE : rS} {D N : Nat → Nat} {F : hF} {A : hA} {d c s : Nat} {Q : wQ} (H : HW V97_Ir σE D N F A)  (pf2 : F 0 11 = (D 2 : Int)) (pf3 : F 0 12 = (D 3 : Int)) (pf4 : F 0 10 = (D 4 : Int)) (pf5 : F 0 0 = (D 5 : Int)) (n1 : Int) (en1 : (N 1 : Int) = n1) (n2 : Int) (en2 : (N 2 : Int) = n2) (n3 : Int) (en3 : (N 3 : Int) = n3) (n4 : Int) (en4 : (N 4 : Int) = n4) (n5 : Int) (en5 : (N 5 : Int) = n5) (u0_3 : Int) (eu0_3 : F 0 3 = u0_3) (w1 : Int → Int) (ew1 : A 1 = w1) (w5 : Int → Int) (ew5 : A 5 = w5) (h0 : (n2) = 512 ∧ (n3) = 512 ∧ (n4) = 256 ∧ (n5) = 256 ∧ (n1) = 256) (h1 : CTS ((w1))) (h2 : 2 ≤ su (fun i => pos1 (((w1)) i)) 256) (k : ∀ (σ : rS) (Fₚ : hF) (Aₚ : hA), HW V97_Ir σ D N Fₚ Aₚ → OUT (V97_Ir).length D N σE c s D N σ c s → SF [(0, 3), (0, 13), (0, 14), (0, 15), (0, 16)] F Fₚ → SA [2, 3, 4, 5] A Aₚ → ∀ y0_3 : Int, Fₚ 0 3 = y0_3 → ∀ v5 : Int → Int, Aₚ 5 = v5 → (0 ≤ (y0_3) ∧ (y0_3) ≤ 11) → (LNG ((v5)) ((y0_3))) → (∀ s, 0 ≤ s → s < 256 → ((v5)) s = dpH (hvF ((w1)) (LBT ((w1)))) s) → ((y0_3) = mxF (hvF ((w1)) (LBT ((w1))))) → Q none σ c s) : Ew 97 (d + 2) 0 (rargs 0 [.ref (D 0), .ref (D 1)]) [] σE c s Q := by
  have O := OUT_refl (n := (V97_Ir).length) (D := D) (N := N) (σ := σE) (c := c) (s := s)
  have HE := H
  have r1 : (-2147483648 : Int) ≤ u0_3 ∧ u0_3 ≤ 2147483647 := rngE (show (-2147483648 : Int) ≤ F 0 3 ∧ F 0 3 ≤ 2147483647 from H.krg 0 3 (ltn len_V97_Ir_oz_F1cls rfl)) (show F 0 3 = u0_3 from (eu0_3))
  have r2 : (0 : Int) ≤ n1 ∧ n1 ≤ 1000000 := nleE (H.nle 1 (ltn len_V97_Ir_oz_F1cls rfl)) (show (N 1 : Int) = n1 from en1)
  have r3 : (0 : Int) ≤ n2 ∧ n2 ≤ 1000000 := nleE (H.nle 2 (ltn len_V97_Ir_oz_F1cls rfl)) (show (N 2 : Int) = n2 from en2)
  have r4 : (0 : Int) ≤ n3 ∧ n3 ≤ 1000000 := nleE (H.nle 3 (ltn len_V97_Ir_oz_F1cls rfl)) (show (N 3 : Int) = n3 from en3)
  have r5 : (0 : Int) ≤ n4 ∧ n4 ≤ 1000000 := nleE (H.nle 4 (ltn len_V97_Ir_oz_F1cls rfl)) (show (N 4 : Int) = n4 from en4)
  have r6 : (0 : Int) ≤ n5 ∧ n5 ≤ 1000000 := nleE (H.nle 5 (ltn len_V97_Ir_oz_F1cls rfl)) (show (N 5 : Int) = n5 from en5)
  refine Ew_of (pcₚ := 1) (fun _ => x_aload_n rfl rfl) ?_
  refine Ew_of (pcₚ := 3) (fun _ => x_bipush (z := 12) rfl (by decide)) ?_
  refine v_p H (o := 0) (z := 12) (v := I (12)) rfl rfl rfl rfl rfl rfl rfl rfl (show (-2147483648 : Int) ≤ 12 ∧ 12 ≤ 2147483647 from q_1153) (fun σ H Oₚ => ?_)
  have O := OUT_trans O Oₚ
  have cFu7 : SF oz_F1clsl_9 F (updF F 0 3 (12)) := SF_upd (SF_refl) rfl
  have mFu7 := SFm_of cFu7 oz_F1cls_21
  refine Ew_of (pcₚ := 7) (fun _ => x_iconst rfl) ?_
  refine Ew_of (pcₚ := 8) (fun _ => x_istore_n rfl) ?_
  have hbx0 : ((0 : Int) = 0 ∧ LBO ((w1)) 0 ∨ LBO ((w1)) (0 - 1) ∧ (∀ s, 0 ≤ s → s < 256 → ((w5)) s = dpH (hvF ((w1)) (0 - 1)) s) ∧ 12 = mxF (hvF ((w1)) (0 - 1))) := .inl ⟨rfl, LBO_0⟩
  have hn0 : LNO 0 ((w5)) 12 := .inl rfl
  suffices hl8 : ∀ (m : Nat), ∀ (ls : rO) (σ : rS) (F_8 : hF) (A_8 : hA) (x8_2 : Int), rlook ls 0 = some (.ref (D 0)) → rlook ls 1 = some (.ref (D 1)) → rlook ls 2 = some (I (x8_2)) → HW V97_Ir σ D N F_8 A_8 → OUT (V97_Ir).length D N σE c s D N σ c s → SF [(0, 3), (0, 13), (0, 14), (0, 15), (0, 16)] (updF F 0 3 (12)) F_8 → SA [2, 3, 4, 5] A A_8 → ∀ y8_0_3 : Int, F_8 0 3 = y8_0_3 → ∀ w8_5 : Int → Int, A_8 5 = w8_5 → (inr (x8_2)) → ((0) ≤ (x8_2)) → ((x8_2) ≤ (0) ∨ (x8_2) ≤ ((31))) → ((((x8_2) : Int) = 0 ∧ LBO ((w1)) 0 ∨ LBO ((w1)) ((x8_2) - 1) ∧ (∀ s, 0 ≤ s → s < 256 → ((w8_5)) s = dpH (hvF ((w1)) ((x8_2) - 1)) s) ∧ ((y8_0_3)) = mxF (hvF ((w1)) ((x8_2) - 1)))) → (((y8_0_3)) ≤ 11 ∨ (x8_2) ≤ 30) → (0 ≤ ((y8_0_3))) → (LNO (x8_2) ((w8_5)) ((y8_0_3))) → (1 ≤ (x8_2) ∨ ((y8_0_3)) = 12) → (((31)) - (x8_2)).toNat = m → Ew 97 (d + 2) 8 ls [] σ c s Q from
    hl8 _ _ _ _ _ (0) (rk_o (rfl) rfl rfl) (rk_o (rfl) rfl rfl) (rk_s) H O (SF_refl) (SA_refl)   (12) (rfl) (w5) (ew5) (show inr (0) from q_2) (show (0) ≤ (0) from q_1) (show (0) ≤ (0) ∨ (0) ≤ ((31)) from q_3659) (hbx0) (show ((12)) ≤ 11 ∨ (0) ≤ 30 from q_3658) (show 0 ≤ ((12)) from q_3657) (hn0) (show 1 ≤ (0) ∨ ((12)) = 12 from q_3656) rfl
  as_aux_lemma =>
  intro m
  induction m using Nat.strongRecOn with
  | _ m ih8 =>
    intro ls σ F_8 A_8 x8_2 l8_0 l8_1 l8_2 H O hS_8 hA_8   y8_0_3 ey8_0_3 w8_5 ew8_5 j8_0 j8_1 j8_2 j8_3 j8_4 j8_5 j8_6 j8_7 hm8
    have cF_8 : SF oz_F1clsl_9 F F_8 := SF_trans (cFu7) hS_8 (any_sub (by decide +kernel))
    have mF_8 := SFm_of cF_8 oz_F1cls_21
    have cA_8 : SA oz_F1clsl_10 A A_8 := SA_trans (SA_refl) hA_8 (any_subA (by decide +kernel))
    have mA_8 := SAm_of cA_8 oz_F1cls_22
    have r8 : (-2147483648 : Int) ≤ y8_0_3 ∧ y8_0_3 ≤ 2147483647 := rngE (show (-2147483648 : Int) ≤ F_8 0 3 ∧ F_8 0 3 ≤ 2147483647 from H.krg 0 3 (ltn len_V97_Ir_oz_F1cls rfl)) (show F_8 0 3 = y8_0_3 from (ey8_0_3))
    have j8_b : (((x8_2) : Int) = 0 ∧ LBO ((w1)) 0 ∨ LBO ((w1)) ((x8_2) - 1) ∧ (∀ s, 0 ≤ s → s < 256 → ((w8_5)) s = dpH (hvF ((w1)) ((x8_2) - 1)) s) ∧ ((y8_0_3)) = mxF (hvF ((w1)) ((x8_2) - 1))) := by assumption
    refine Ew_of (pcₚ := 9) (fun _ => x_iload_n rfl l8_2) ?_
    refine Ew_of (pcₚ := 11) (fun _ => x_bipush (z := 31) rfl (by decide)) ?_
    refine w_icmpge (t := 43) rfl rfl (show inr (x8_2) from j8_0) (show inr (31) from q_323) (fun b9 => ?_) (fun b9 => ?_)
    · have hfin : (∀ s, 0 ≤ s → s < 256 → ((w8_5)) s = dpH (hvF ((w1)) (LBT ((w1)))) s) ∧ ((y8_0_3)) = mxF (hvF ((w1)) (LBT ((w1)))) := by rcases j8_b with ⟨a, _⟩ | ⟨a, b, c⟩; (omega); ((rw [LBO_e (t := (x8_2) - 1) a (by rw [← c]; omega)]; exact ⟨b, c⟩))
      have hfin1 := hfin.1
      have hfin2 := hfin.2
      have hln : LNG ((w8_5)) ((y8_0_3)) := Or.resolve_left (j8_6) (by omega)
      exact w_ret rfl (k _ _ _ H O (cF_8) (cA_8) (y8_0_3) ((ey8_0_3)) (w8_5) (ew8_5) (show 0 ≤ (y8_0_3) ∧ (y8_0_3) ≤ 11 from q_3660 b9 j8_4 j8_5 j8_7 r8) (hln) (show ∀ s, 0 ≤ s → s < 256 → ((w8_5)) s = dpH (hvF ((w1)) (LBT ((w1)))) s by assumption) (show (y8_0_3) = mxF (hvF ((w1)) (LBT ((w1)))) by assumption))
    · refine Ew_of (pcₚ := 15) (fun _ => x_aload_n rfl l8_0) ?_
      refine v_g H (o := 0) (v := I (y8_0_3)) rfl rfl rfl rfl rfl (congrArg (fun z : Int => I z) ((ey8_0_3) : F_8 0 3 = y8_0_3)) ?_
      refine Ew_of (pcₚ := 20) (fun _ => x_bipush (z := 11) rfl (by decide)) ?_
      refine w_icmple (t := 43) rfl rfl (show inr (y8_0_3) from q_1207 j8_5 r8) (show inr (11) from q_326) (fun b10 => ?_) (fun b10 => ?_)
      · have hfin : (∀ s, 0 ≤ s → s < 256 → ((w8_5)) s = dpH (hvF ((w1)) (LBT ((w1)))) s) ∧ ((y8_0_3)) = mxF (hvF ((w1)) (LBT ((w1)))) := by rcases j8_b with ⟨a, _⟩ | ⟨a, b, c⟩; (omega); ((rw [LBO_e (t := (x8_2) - 1) a (by rw [← c]; omega)]; exact ⟨b, c⟩))
        have hfin1 := hfin.1
        have hfin2 := hfin.2
        have hln : LNG ((w8_5)) ((y8_0_3)) := Or.resolve_left (j8_6) (by omega)
        exact w_ret rfl (k _ _ _ H O (cF_8) (cA_8) (y8_0_3) ((ey8_0_3)) (w8_5) (ew8_5) (show 0 ≤ (y8_0_3) ∧ (y8_0_3) ≤ 11 from q_3661 b10 j8_5) (hln) (show ∀ s, 0 ≤ s → s < 256 → ((w8_5)) s = dpH (hvF ((w1)) (LBT ((w1)))) s by assumption) (show (y8_0_3) = mxF (hvF ((w1)) (LBT ((w1)))) by assumption))
      · obtain ⟨q2, hq2⟩ : ∃ q : Int, q = (x8_2) := ⟨_, rfl⟩
        have hLB : LBO ((w1)) q2 := by rcases j8_b with ⟨a, b⟩ | ⟨a, b, c⟩; ((rw [hq2, show (x8_2) = 0 by omega]; exact b)); (exact LBO_s (t := (x8_2) - 1) a (by rw [← c]; omega) (by omega))
        refine Ew_of (pcₚ := 24) (fun _ => x_aload_n rfl l8_0) ?_
        refine Ew_of (pcₚ := 25) (fun _ => x_aload_n rfl l8_1) ?_
        refine Ew_of (pcₚ := 26) (fun _ => x_iload_n rfl l8_2) ?_
        have r11 : (-2147483648 : Int) ≤ F_8 0 14 ∧ F_8 0 14 ≤ 2147483647 := H.krg 0 14 (ltn len_V97_Ir_oz_F1cls rfl)
        refine v_inv H (o := 0) rfl rfl rfl rfl rfl rfl (by rfl) (C99_Ir (D := puc 537395712 D) (N := puc 537395712 N) (HW_subc H oz_F1cls_18 oz_F1cls_23) ((mF_8 0 11 rfl).trans (pf2)) ((mF_8 0 10 rfl).trans (pf4)) (n1) (en1) (n2) (en2) (n4) (en4) (F_8 0 14) (rfl) (w1) ((funext (mA_8 1 rfl)).trans (ew1)) (A_8 2) (rfl) (A_8 4) (rfl) (show inr (x8_2) from j8_0) (show (n2) = 512 ∧ (n4) = 256 ∧ (n1) = 256 from q_3663 h0) (h1) (show 0 ≤ (x8_2) ∧ (x8_2) ≤ 30 from q_3662 b9 j8_1) (fun σ12 F12ₚ A12ₚ Hₚ Oₚ hS12 hA12 y12_0_14 ey12_0_14 w12_2 ew12_2 w12_3 ew12_3 pz12_0 pz12_1 pz12_2 pz12_3 pz12_4 pz12_5 => ⟨rfl, ?_⟩))
        refine v_backc (c := c) (s := s) H oz_F1cls_18 oz_F1cls_23 Hₚ Oₚ (fun F12 A12 H Oₚ eF12 eA12 => ?_)
        have O := OUT_trans O Oₚ
        -- Codes.sortLeaves
        have cF12 : SF oz_F1clsl_9 F F12 := SF_trans (cF_8) (SF_gluc (ι := oz_F1clsl_11) oz_F1cls_23 hS12 eF12 (by decide +kernel)) (any_sub (lₚ := [(0, 14)]) (by decide +kernel))
        have mF12 := SFm_of cF12 oz_F1cls_21
        have cA12 : SA oz_F1clsl_10 A A12 := SA_trans (cA_8) (SA_gluc (ι := oz_F1clsl_11) oz_F1cls_23 hA12 eA12 (by decide +kernel)) (any_subA (lₚ := [2, 4]) (by decide +kernel))
        have mA12 := SAm_of cA12 oz_F1cls_22
        have r13 : (-2147483648 : Int) ≤ y12_0_14 ∧ y12_0_14 ≤ 2147483647 := rngE (show (-2147483648 : Int) ≤ F12 0 14 ∧ F12 0 14 ≤ 2147483647 from H.krg 0 14 (ltn len_V97_Ir_oz_F1cls rfl)) (show F12 0 14 = y12_0_14 from ((eF12 0 14).trans ey12_0_14))
        refine Ew_of (pcₚ := 30) (fun _ => x_aload_n rfl l8_0) ?_
        have hhn : ∀ s, 0 ≤ s → s < 256 → 0 ≤ (hvF ((w1)) ((x8_2))) s := fun s a b => by have := (h1) s a b; exact Int.ediv_nonneg (by have := p2_pos ((x8_2)); omega) (by have := p2_pos ((x8_2)); omega)
        have hlsp := pz12_5
        obtain ⟨tt, htt⟩ : ∃ tt, tt = SA2 ((w12_2)) 0 ((y12_0_14)) := ⟨_, rfl⟩
        have hgea := pz12_1
        have hbd := SA2_bd (by omega) hgea
        have hone : (x8_2) = 30 → tt = ((y12_0_14)) := fun q => by rw [htt]; exact SA2_ones (by omega) (fun i a b => (hgea i a b).2.2 q)
        have r14 : (-2147483648 : Int) ≤ F_8 0 13 ∧ F_8 0 13 ≤ 2147483647 := rngE (show (-2147483648 : Int) ≤ F12 0 13 ∧ F12 0 13 ≤ 2147483647 from H.krg 0 13 (ltn len_V97_Ir_oz_F1cls rfl)) (show F12 0 13 = F_8 0 13 from ((show F12 0 13 = F_8 0 13 from (eF12 0 13).trans (hS12 0 13 rfl))))
        have r15 : (-2147483648 : Int) ≤ F_8 0 15 ∧ F_8 0 15 ≤ 2147483647 := rngE (show (-2147483648 : Int) ≤ F12 0 15 ∧ F12 0 15 ≤ 2147483647 from H.krg 0 15 (ltn len_V97_Ir_oz_F1cls rfl)) (show F12 0 15 = F_8 0 15 from ((show F12 0 15 = F_8 0 15 from (eF12 0 15).trans (hS12 0 15 rfl))))
        have r16 : (-2147483648 : Int) ≤ F_8 0 16 ∧ F_8 0 16 ≤ 2147483647 := rngE (show (-2147483648 : Int) ≤ F12 0 16 ∧ F12 0 16 ≤ 2147483647 from H.krg 0 16 (ltn len_V97_Ir_oz_F1cls rfl)) (show F12 0 16 = F_8 0 16 from ((show F12 0 16 = F_8 0 16 from (eF12 0 16).trans (hS12 0 16 rfl))))
        refine v_inv H (o := 0) rfl rfl rfl rfl rfl rfl (by rfl) (C100 (D := puc 403702784 D) (N := puc 403702784 N) (HW_subc H oz_F1cls_19 oz_F1cls_24) ((mF12 0 11 rfl).trans (pf2)) ((mF12 0 10 rfl).trans (pf4)) ((mF12 0 12 rfl).trans (pf3)) (n2) (en2) (n4) (en4) (n3) (en3) (F_8 0 13) (((show F12 0 13 = F_8 0 13 from (eF12 0 13).trans (hS12 0 13 rfl)))) (y12_0_14) (((eF12 0 14).trans ey12_0_14)) (F_8 0 15) (((show F12 0 15 = F_8 0 15 from (eF12 0 15).trans (hS12 0 15 rfl)))) (F_8 0 16) (((show F12 0 16 = F_8 0 16 from (eF12 0 16).trans (hS12 0 16 rfl)))) (w12_2) ((eA12 2).trans ew12_2) (w12_3) ((eA12 4).trans ew12_3) (A_8 3) ((show A12 3 = A_8 3 from (eA12 3))) ((x8_2)) ((hvF ((w1)) ((x8_2)))) (pz12_5) (hhn) (show (n2) = 512 ∧ (n3) = 512 from q_3664 h0) (show 2 ≤ ((y12_0_14)) ∧ ((y12_0_14)) ≤ 256 by omega) (pz12_0) (pz12_1) (fun σ17 F17ₚ A17ₚ Hₚ Oₚ hS17 hA17 y17_0_13 ey17_0_13 y17_0_15 ey17_0_15 y17_0_16 ey17_0_16 w17_1 ew17_1 w17_3 ew17_3 pz17_0 pz17_1 pz17_2 => ⟨rfl, ?_⟩))
        refine v_backc (c := c) (s := s) H oz_F1cls_19 oz_F1cls_24 Hₚ Oₚ (fun F17 A17 H Oₚ eF17 eA17 => ?_)
        have O := OUT_trans O Oₚ
        -- Codes.joinKnots
        have cF17 : SF oz_F1clsl_9 F F17 := SF_trans (cF12) (SF_gluc (ι := oz_F1clsl_12) oz_F1cls_24 hS17 eF17 (by decide +kernel)) (any_sub (lₚ := [(0, 13), (0, 15), (0, 16)]) (by decide +kernel))
        have mF17 := SFm_of cF17 oz_F1cls_21
        have cA17 : SA oz_F1clsl_10 A A17 := SA_trans (cA12) (SA_gluc (ι := oz_F1clsl_12) oz_F1cls_24 hA17 eA17 (by decide +kernel)) (any_subA (lₚ := [2, 3]) (by decide +kernel))
        have mA17 := SAm_of cA17 oz_F1cls_22
        have r18 : (-2147483648 : Int) ≤ y17_0_13 ∧ y17_0_13 ≤ 2147483647 := rngE (show (-2147483648 : Int) ≤ F17 0 13 ∧ F17 0 13 ≤ 2147483647 from H.krg 0 13 (ltn len_V97_Ir_oz_F1cls rfl)) (show F17 0 13 = y17_0_13 from ((eF17 0 13).trans ey17_0_13))
        have r19 : (-2147483648 : Int) ≤ y17_0_15 ∧ y17_0_15 ≤ 2147483647 := rngE (show (-2147483648 : Int) ≤ F17 0 15 ∧ F17 0 15 ≤ 2147483647 from H.krg 0 15 (ltn len_V97_Ir_oz_F1cls rfl)) (show F17 0 15 = y17_0_15 from ((eF17 0 15).trans ey17_0_15))
        have r20 : (-2147483648 : Int) ≤ y17_0_16 ∧ y17_0_16 ≤ 2147483647 := rngE (show (-2147483648 : Int) ≤ F17 0 16 ∧ F17 0 16 ≤ 2147483647 from H.krg 0 16 (ltn len_V97_Ir_oz_F1cls rfl)) (show F17 0 16 = y17_0_16 from ((eF17 0 16).trans ey17_0_16))
        refine Ew_of (pcₚ := 34) (fun _ => x_aload_n rfl l8_0) ?_
        have htw := pz17_1
        rw [← htt] at htw hbd
        refine v_inv H (o := 0) rfl rfl rfl rfl rfl rfl (by rfl) (C102 (D := puc 343866869248 D) (N := puc 343866869248 N) (HW_subc H oz_F1cls_20 oz_F1cls_25) ((mF17 0 12 rfl).trans (pf3)) ((mF17 0 10 rfl).trans (pf4)) ((mF17 0 11 rfl).trans (pf2)) ((mF17 0 0 rfl).trans (pf5)) (n3) (en3) (n4) (en4) (n2) (en2) (n5) (en5) (y8_0_3) (((((show F17 0 3 = F12 0 3 from (eF17 0 3).trans (hS17 0 3 rfl))).trans ((show F12 0 3 = F_8 0 3 from (eF12 0 3).trans (hS12 0 3 rfl)))).trans (ey8_0_3))) (y17_0_13) (((eF17 0 13).trans ey17_0_13)) (y12_0_14) ((((show F17 0 14 = F12 0 14 from (eF17 0 14).trans (hS17 0 14 rfl))).trans ((eF12 0 14).trans ey12_0_14))) (y17_0_15) (((eF17 0 15).trans ey17_0_15)) (y17_0_16) (((eF17 0 16).trans ey17_0_16)) (w17_3) ((eA17 3).trans ew17_3) (w12_3) (((show A17 4 = A12 4 from (eA17 4).trans (funext (hA17 2 rfl)))).trans ((eA12 4).trans ew12_3)) (w17_1) ((eA17 2).trans ew17_1) (w8_5) (((show A17 5 = A12 5 from (eA17 5))).trans (((show A12 5 = A_8 5 from (eA12 5))).trans (ew8_5))) (tt) ((hvF ((w1)) ((x8_2)))) (pz17_2) (show (n2) = 512 ∧ (n3) = 512 ∧ (n4) = 256 ∧ (n5) = 256 from q_3665 h0) (show 2 ≤ ((y12_0_14)) ∧ ((y12_0_14)) ≤ 256 by omega) (show ((y17_0_16)) = 2 * ((y12_0_14)) - 1 from pz17_0) (show TW ((w17_1)) ((w17_3)) ((y12_0_14)) ((y17_0_13)) ((y17_0_15)) ((y17_0_16)) (tt) by assumption) (pz12_2) (show (tt) ≤ 16777216 by omega) (fun σ21 F21ₚ A21ₚ Hₚ Oₚ hS21 hA21 y21_0_3 ey21_0_3 w21_4 ew21_4 pz21_0 pz21_1 pz21_2 pz21_3 pz21_4 => ⟨rfl, ?_⟩))
        refine v_backc (c := c) (s := s) H oz_F1cls_20 oz_F1cls_25 Hₚ Oₚ (fun F21 A21 H Oₚ eF21 eA21 => ?_)
        have O := OUT_trans O Oₚ
        -- Codes.findLengths
        have cF21 : SF oz_F1clsl_9 F F21 := SF_trans (cF17) (SF_gluc (ι := oz_F1clsl_13) oz_F1cls_25 hS21 eF21 (by decide +kernel)) (any_sub (lₚ := [(0, 3)]) (by decide +kernel))
        have mF21 := SFm_of cF21 oz_F1cls_21
        have cA21 : SA oz_F1clsl_10 A A21 := SA_trans (cA17) (SA_gluc (ι := oz_F1clsl_13) oz_F1cls_25 hA21 eA21 (by decide +kernel)) (any_subA (lₚ := [2, 5]) (by decide +kernel))
        have mA21 := SAm_of cA21 oz_F1cls_22
        have r22 : (-2147483648 : Int) ≤ y21_0_3 ∧ y21_0_3 ≤ 2147483647 := rngE (show (-2147483648 : Int) ≤ F21 0 3 ∧ F21 0 3 ≤ 2147483647 from H.krg 0 3 (ltn len_V97_Ir_oz_F1cls rfl)) (show F21 0 3 = y21_0_3 from ((eF21 0 3).trans ey21_0_3))
        have hel : (x8_2) = 30 → ((y21_0_3)) ≤ 11 := fun q => LGT_11 pz21_0 (by have := hone q; omega)
        refine Ew_of (pcₚ := 40) (fun _ => x_iinc (len := 3) rfl (l8_2)) ?_
        refine Ew_of (pcₚ := 8) (fun _ => x_goto rfl rfl) ?_
        have hbx1 : ((((x8_2 + 1)) : Int) = 0 ∧ LBO ((w1)) 0 ∨ LBO ((w1)) (((x8_2 + 1)) - 1) ∧ (∀ s, 0 ≤ s → s < 256 → ((w21_4)) s = dpH (hvF ((w1)) (((x8_2 + 1)) - 1)) s) ∧ ((y21_0_3)) = mxF (hvF ((w1)) (((x8_2 + 1)) - 1))) := by rw [show ((x8_2 + 1)) - 1 = q2 by omega, hq2]; exact .inr ⟨by rw [← hq2]; exact hLB, pz21_3, pz21_4⟩
        have hn1 : LNO (((x8_2 + 1))) ((w21_4)) ((y21_0_3)) := .inr pz21_1
        exact ih8 _ (msE hm8 q_2058 (q_3669 b9)) _ _ _ _ ((x8_2 + 1)) (rk_o (l8_0) rfl rfl) (rk_o (l8_1) rfl rfl) (rk_s) H O (SF_trans (SF_trans (SF_trans (hS_8) (SF_gluc (ι := oz_F1clsl_11) oz_F1cls_23 hS12 eF12 (by decide +kernel)) (any_sub (lₚ := [(0, 14)]) (by decide +kernel))) (SF_gluc (ι := oz_F1clsl_12) oz_F1cls_24 hS17 eF17 (by decide +kernel)) (any_sub (lₚ := [(0, 13), (0, 15), (0, 16)]) (by decide +kernel))) (SF_gluc (ι := oz_F1clsl_13) oz_F1cls_25 hS21 eF21 (by decide +kernel)) (any_sub (lₚ := [(0, 3)]) (by decide +kernel))) (SA_trans (SA_trans (SA_trans (hA_8) (SA_gluc (ι := oz_F1clsl_11) oz_F1cls_23 hA12 eA12 (by decide +kernel)) (any_subA (lₚ := [2, 4]) (by decide +kernel))) (SA_gluc (ι := oz_F1clsl_12) oz_F1cls_24 hA17 eA17 (by decide +kernel)) (any_subA (lₚ := [2, 3]) (by decide +kernel))) (SA_gluc (ι := oz_F1clsl_13) oz_F1cls_25 hA21 eA21 (by decide +kernel)) (any_subA (lₚ := [2, 5]) (by decide +kernel)))   (y21_0_3) (((eF21 0 3).trans ey21_0_3)) (w21_4) ((eA21 5).trans ew21_4) (show inr ((x8_2 + 1)) from q_3668 b9 j8_1) (show (0) ≤ ((x8_2 + 1)) from q_14 j8_1) (show ((x8_2 + 1)) ≤ (0) ∨ ((x8_2 + 1)) ≤ ((31)) from q_3667 b9) (hbx1) (show ((y21_0_3)) ≤ 11 ∨ ((x8_2 + 1)) ≤ 30 by omega) (show 0 ≤ ((y21_0_3)) from pz21_2) (hn1) (show 1 ≤ ((x8_2 + 1)) ∨ ((y21_0_3)) = 12 from q_3666 j8_1) rfl

