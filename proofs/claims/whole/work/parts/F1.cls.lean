abbrev V98 : vV := []
/-- Codes.halvedCount:  -/
theorem C98 {σE : rS} {D N : Nat → Nat} {F : hF} {A : hA} {d c s : Nat} {Q : wQ} (H : HW V98 σE D N F A) {a1 a2 : Int} (h0 : inr (a1)) (h1 : inr (a2)) (h2 : 1 ≤ (a1) ∧ (a1) ≤ 65536) (h3 : 0 ≤ (a2) ∧ (a2) ≤ 30) (k : ∀ (z : Int) (σ : rS) (F' : hF) (A' : hA), HW V98 σ D N F' A' → OUT (V98).length D N σE c s D N σ c s → SF [] F F' → SA [] A A' → (inr (z)) → (1 ≤ (z) ∧ (z) ≤ 65536) → ((a2) = 30 → (z) = 1) → ((z) = ((a1) + p2 (a2) - 1) / p2 (a2)) → Q (some (I z)) σ c s) : Ew 98 (d + 0) 0 (rargs 0 [I a1, I a2]) [] σE c s Q := by
  have O := OUT_refl (n := (V98).length) (D := D) (N := N) (σ := σE) (c := c) (s := s)
  have HE := H
  have hp := p2_pos (a2)
  have hp30 : p2 (a2) ≤ p2 30 := p2_mono (by omega)
  have hq30 : p2 30 = 1073741824 := by decide
  refine Ew_of (pc' := 1) (fun _ => x_iload_n rfl rfl) ?_
  refine Ew_of (pc' := 2) (fun _ => x_iconst rfl) ?_
  refine Ew_of (pc' := 3) (fun _ => x_iload_n rfl rfl) ?_
  refine w_ishl1 rfl (show 0 ≤ a2 ∧ a2 ≤ 31 by omega) ?_
  refine w_iadd rfl ?_
  refine Ew_of (pc' := 6) (fun _ => x_iconst rfl) ?_
  refine w_isub rfl ?_
  refine Ew_of (pc' := 8) (fun _ => x_iload_n rfl rfl) ?_
  refine w_ishrX rfl (show inr (((a1 + p2 (a2)) - 1)) by omega) (fun z2 gz2 dz2 => ?_)
  have hz : ((z2) : Int) = ((a1) + p2 (a2) - 1) / p2 (a2) := by omega
  have hh := halv (by omega) (by omega) (by omega) (by omega) hz
  exact w_ireturn rfl (k (z2) _ _ _ H O (SF_refl) (SA_refl) (show inr (z2) by omega) (show 1 ≤ (z2) ∧ (z2) ≤ 65536 by omega) (show a2 = 30 → (z2) = 1 by omega) (show (z2) = (a1 + p2 a2 - 1) / p2 a2 by omega))
abbrev V99_Ir : vV := [(0, 3, [(4, 0), (4, 0), (4, 0), (0, 0), (4, 0), (4, 0), (4, 0), (4, 0), (4, 0), (4, 0), (4, 0), (4, 0), (4, 0), (0, 0), (0, 0), (0, 0), (0, 0)]), (1, 1, []), (1, 1, []), (1, 1, [])]
/-- Codes.sortLeaves: this, #1, this.amounts, this.order -/
theorem C99_Ir {σE : rS} {D N : Nat → Nat} {F : hF} {A : hA} {d c s : Nat} {Q : wQ} (H : HW V99_Ir σE D N F A) {a2 : Int} (pf2 : F 0 11 = (D 2 : Int)) (pf3 : F 0 10 = (D 3 : Int)) (n1 : Int) (en1 : (N 1 : Int) = n1) (n2 : Int) (en2 : (N 2 : Int) = n2) (n3 : Int) (en3 : (N 3 : Int) = n3) (u0_14 : Int) (eu0_14 : F 0 14 = u0_14) (w1 : Int → Int) (ew1 : A 1 = w1) (w2 : Int → Int) (ew2 : A 2 = w2) (w3 : Int → Int) (ew3 : A 3 = w3) (h0 : inr (a2)) (h1 : (n2) = 512 ∧ (n3) = 256 ∧ (n1) = 256) (h2 : CTS ((w1))) (h3 : 0 ≤ (a2) ∧ (a2) ≤ 30) (k : ∀ (σ : rS) (F' : hF) (A' : hA), HW V99_Ir σ D N F' A' → OUT (V99_Ir).length D N σE c s D N σ c s → SF [(0, 14)] F F' → SA [2, 3] A A' → ∀ y0_14 : Int, F' 0 14 = y0_14 → ∀ v2 : Int → Int, A' 2 = v2 → ∀ v3 : Int → Int, A' 3 = v3 → (SRT ((v2)) 0 ((y0_14))) → (GEA ((v2)) ((y0_14)) (a2)) → (ORD ((v3)) ((y0_14))) → ((y0_14) = su (fun i => pos1 (((w1)) i)) 256) → (0 ≤ (y0_14) ∧ (y0_14) ≤ 256) → (LSP (hvF ((w1)) ((a2))) ((v2)) ((v3)) ((y0_14)) (256)) → Q none σ c s) : Ew 99 (d + 1) 0 (rargs 0 [.ref (D 0), .ref (D 1), I a2]) [] σE c s Q := by
  have O := OUT_refl (n := (V99_Ir).length) (D := D) (N := N) (σ := σE) (c := c) (s := s)
  have HE := H
  have r1 : (-2147483648 : Int) ≤ u0_14 ∧ u0_14 ≤ 2147483647 := by have h1 : (-2147483648 : Int) ≤ F 0 14 ∧ F 0 14 ≤ 2147483647 := H.krg 0 14 (by decide); rw [show F 0 14 = u0_14 from (eu0_14)] at h1; exact h1
  have r2 : (0 : Int) ≤ n1 ∧ n1 ≤ 1000000 := by have h1 := H.nle 1 (by decide); have h2 : (N 1 : Int) = n1 := en1; omega
  have r3 : (0 : Int) ≤ n2 ∧ n2 ≤ 1000000 := by have h1 := H.nle 2 (by decide); have h2 : (N 2 : Int) = n2 := en2; omega
  have r4 : (0 : Int) ≤ n3 ∧ n3 ≤ 1000000 := by have h1 := H.nle 3 (by decide); have h2 : (N 3 : Int) = n3 := en3; omega
  have hco : CTS ((w1)) := by assumption
  refine Ew_of (pc' := 1) (fun _ => x_aload_n rfl rfl) ?_
  refine Ew_of (pc' := 2) (fun _ => x_iconst rfl) ?_
  refine v_p H (o := 0) (z := 0) (v := I (0)) rfl rfl rfl rfl rfl rfl rfl rfl (show (-2147483648 : Int) ≤ 0 ∧ 0 ≤ 2147483647 by omega) (fun σ H O' => ?_)
  have O := OUT_trans O O'
  refine Ew_of (pc' := 6) (fun _ => x_iconst rfl) ?_
  refine Ew_of (pc' := 7) (fun _ => x_istore_n rfl) ?_
  have hls0 : LSP (hvF ((w1)) ((a2))) ((w2)) ((w3)) 0 (0) := LSP_0
  have hs0 : SRT ((w2)) 0 0 := fun i j a b c => by omega
  have hg0 : GEA ((w2)) 0 (a2) := fun i a b => by omega
  have ho0 : ORD ((w3)) 0 := fun i a b => by omega
  have : su (fun i => pos1 (((w1)) i)) (0 : Int).toNat = 0 := rfl
  suffices hl7 : ∀ (m : Nat), ∀ (ls : rO) (σ : rS) (F_7 : hF) (A_7 : hA) (x7_3 : Int), rlook ls 0 = some (.ref (D 0)) → rlook ls 1 = some (.ref (D 1)) → rlook ls 2 = some (I (a2)) → rlook ls 3 = some (I (x7_3)) → HW V99_Ir σ D N F_7 A_7 → OUT (V99_Ir).length D N σE c s D N σ c s → SF [(0, 14)] (updF F 0 14 (0)) F_7 → SA [2, 3] A A_7 → ∀ y7_0_14 : Int, F_7 0 14 = y7_0_14 → ∀ w7_2 : Int → Int, A_7 2 = w7_2 → ∀ w7_3 : Int → Int, A_7 3 = w7_3 → (inr (x7_3)) → ((0) ≤ (x7_3)) → ((x7_3) ≤ (0) ∨ (x7_3) ≤ ((256))) → (LSP (hvF ((w1)) ((a2))) ((w7_2)) ((w7_3)) ((y7_0_14)) ((x7_3))) → (0 ≤ ((y7_0_14)) ∧ ((y7_0_14)) ≤ (x7_3)) → (SRT ((w7_2)) 0 ((y7_0_14))) → (GEA ((w7_2)) ((y7_0_14)) (a2)) → (ORD ((w7_3)) ((y7_0_14))) → (((y7_0_14)) = su (fun i => pos1 (((w1)) i)) ((x7_3) : Int).toNat) → (((256)) - (x7_3)).toNat = m → Ew 99 (d + 1) 7 ls [] σ c s Q from
    hl7 _ _ _ _ _ (0) (rk_o (rfl) rfl rfl) (rk_o (rfl) rfl rfl) (rk_o (rfl) rfl rfl) (rk_s) H O (SF_refl) (SA_refl)   (0) (rfl) (w2) (ew2) (w3) (ew3) (show inr (0) by omega) (show (0) ≤ (0) by omega) (show (0) ≤ (0) ∨ (0) ≤ ((256)) by omega) (show LSP (hvF ((w1)) ((a2))) ((w2)) ((w3)) ((0)) ((0)) by assumption) (show 0 ≤ ((0)) ∧ ((0)) ≤ (0) by omega) (show SRT ((w2)) 0 ((0)) by assumption) (show GEA ((w2)) ((0)) (a2) by assumption) (show ORD ((w3)) ((0)) by assumption) (show ((0)) = su (fun i => pos1 (((w1)) i)) ((0) : Int).toNat by omega) rfl
  as_aux_lemma =>
  intro m
  induction m using Nat.strongRecOn with
  | _ m ih7 =>
    intro ls σ F_7 A_7 x7_3 l7_0 l7_1 l7_2 l7_3 H O hS_7 hA_7   y7_0_14 ey7_0_14 w7_2 ew7_2 w7_3 ew7_3 j7_0 j7_1 j7_2 j7_3 j7_4 j7_5 j7_6 j7_7 j7_8 hm7
    have r5 : (-2147483648 : Int) ≤ y7_0_14 ∧ y7_0_14 ≤ 2147483647 := by have h1 : (-2147483648 : Int) ≤ F_7 0 14 ∧ F_7 0 14 ≤ 2147483647 := H.krg 0 14 (by decide); rw [show F_7 0 14 = y7_0_14 from (ey7_0_14)] at h1; exact h1
    have j7_l : LSP (hvF ((w1)) ((a2))) ((w7_2)) ((w7_3)) ((y7_0_14)) ((x7_3)) := by assumption
    refine Ew_of (pc' := 8) (fun _ => x_iload_n rfl l7_3) ?_
    refine Ew_of (pc' := 11) (fun _ => x_sipush (z := 256) rfl (by decide)) ?_
    refine w_icmpge (t := 125) rfl rfl (show inr (x7_3) by omega) (show inr (256) by omega) (fun b6 => ?_) (fun b6 => ?_)
    · have hlsE : LSP (hvF ((w1)) ((a2))) ((w7_2)) ((w7_3)) ((y7_0_14)) (256) := by have h := j7_l; rw [show (x7_3) = 256 by omega] at h; exact h
      have hl3 : (x7_3) = 256 := by omega
      have hfin : ((y7_0_14)) = su (fun i => pos1 (((w1)) i)) 256 := (show ((y7_0_14)) = su (fun i => pos1 (((w1)) i)) ((x7_3) : Int).toNat by omega).trans (by rw [hl3]; rfl)
      exact w_ret rfl (k _ _ _ H O (SF_trans (SF_upd (SF_refl) rfl) hS_7 (any_sub rfl)) (SA_trans (SA_refl) hA_7 (any_subA rfl)) (y7_0_14) ((ey7_0_14)) (w7_2) (ew7_2) (w7_3) (ew7_3) (show SRT ((w7_2)) 0 ((y7_0_14)) by assumption) (show GEA ((w7_2)) ((y7_0_14)) a2 by assumption) (show ORD ((w7_3)) ((y7_0_14)) by assumption) (show (y7_0_14) = su (fun i => pos1 (((w1)) i)) 256 by omega) (show 0 ≤ (y7_0_14) ∧ (y7_0_14) ≤ 256 by omega) (show LSP (hvF ((w1)) (a2)) ((w7_2)) ((w7_3)) ((y7_0_14)) (256) by assumption))
    · refine Ew_of (pc' := 15) (fun _ => x_aload_n rfl l7_1) ?_
      refine Ew_of (pc' := 16) (fun _ => x_iload_n rfl l7_3) ?_
      refine v_lI H (o := 1) rfl rfl rfl rfl (n := n1) (en1) (show 0 ≤ x7_3 ∧ x7_3 < n1 by omega) (fun v7 ev7 qv7 => ?_)
      have ev7 : (w1) (x7_3) = v7 := (congrFun ((funext (hA_7 1 rfl)).trans (ew1)) (x7_3)).symm.trans ev7
      have hcv := ev7
      have hcb := hco ((x7_3)) (by omega) (by omega)
      have hzl0 : (v7) ≤ 0 → (hvF ((w1)) ((a2))) ((x7_3)) ≤ 0 := fun q => by show (((w1)) ((x7_3)) + p2 (a2) - 1) / p2 (a2) ≤ 0; rw [hcv, show (v7) = 0 by omega, Int.ediv_eq_zero_of_lt (by have := p2_pos (a2); omega) (by omega)]; exact Int.le_refl 0
      have hps := pos1_eq (((w1)) (x7_3))
      have hsu : su (fun i => pos1 (((w1)) i)) ((x7_3) + 1 : Int).toNat = su (fun i => pos1 (((w1)) i)) ((x7_3) : Int).toNat + pos1 (((w1)) (x7_3)) := su_s (f := fun i => pos1 (((w1)) i)) (i := (x7_3)) (by omega)
      refine w_ifle (t := 119) rfl rfl (show inr (v7) by omega) (fun b8 => ?_) (fun b8 => ?_)
      · refine Ew_of (pc' := 122) (fun _ => x_iinc (len := 3) rfl (l7_3)) ?_
        refine Ew_of (pc' := 7) (fun _ => x_goto rfl rfl) ?_
        have hls1 : LSP (hvF ((w1)) ((a2))) ((w7_2)) ((w7_3)) ((y7_0_14)) (((x7_3 + 1))) := by first | exact LSP_in j7_l hmvE hmwE (by omega) (by omega) hxl (by omega) hloE hhiE rfl rfl | exact LSP_no j7_l (hzl0 (by omega)) rfl
        exact ih7 _ (by omega) _ _ _ _ ((x7_3 + 1)) (rk_o (l7_0) rfl rfl) (rk_o (l7_1) rfl rfl) (rk_o (l7_2) rfl rfl) (rk_s) H O (hS_7) (hA_7)   (y7_0_14) ((ey7_0_14)) (w7_2) (ew7_2) (w7_3) (ew7_3) (show inr ((x7_3 + 1)) by omega) (show (0) ≤ ((x7_3 + 1)) by omega) (show ((x7_3 + 1)) ≤ (0) ∨ ((x7_3 + 1)) ≤ ((256)) by omega) (show LSP (hvF ((w1)) ((a2))) ((w7_2)) ((w7_3)) ((y7_0_14)) (((x7_3 + 1))) by assumption) (show 0 ≤ ((y7_0_14)) ∧ ((y7_0_14)) ≤ ((x7_3 + 1)) by omega) (show SRT ((w7_2)) 0 ((y7_0_14)) by assumption) (show GEA ((w7_2)) ((y7_0_14)) (a2) by assumption) (show ORD ((w7_3)) ((y7_0_14)) by assumption) (show ((y7_0_14)) = su (fun i => pos1 (((w1)) i)) (((x7_3 + 1)) : Int).toNat by omega) rfl
      · refine Ew_of (pc' := 21) (fun _ => x_aload_n rfl l7_1) ?_
        refine Ew_of (pc' := 22) (fun _ => x_iload_n rfl l7_3) ?_
        refine v_lI H (o := 1) rfl rfl rfl rfl (n := n1) (en1) (show 0 ≤ x7_3 ∧ x7_3 < n1 by omega) (fun v9 ev9 qv9 => ?_)
        have ev9 : (w1) (x7_3) = v9 := (congrFun ((funext (hA_7 1 rfl)).trans (ew1)) (x7_3)).symm.trans ev9
        have hcw := ev9
        refine Ew_of (pc' := 24) (fun _ => x_iload_n rfl l7_2) ?_
        refine w_stat24 rfl rfl (by rfl) (C98 (D := pul [] D) (N := pul [] N) (HW_sub H (VS_of (show vsub V99_Ir V98 [] = true by decide +kernel))) (show inr (v9) by omega) (show inr (a2) by omega) (show 1 ≤ (v9) ∧ (v9) ≤ 65536 by omega) (show 0 ≤ (a2) ∧ (a2) ≤ 30 by omega) (fun z10 σ10 F10' A10' H' O' hS10 hA10 pz10_0 pz10_1 pz10_2 pz10_3 => ⟨rfl, ?_⟩))
        refine v_back (c := c) (s := s) H (show vsub V99_Ir V98 [] = true by decide +kernel) H' O' (fun F10 A10 H O' eF10 eA10 => ?_)
        have O := OUT_trans O O'
        -- Codes.halvedCount
        refine Ew_of (pc' := 29) (fun _ => x_istore rfl) ?_
        have hxl : (z10) = (hvF ((w1)) ((a2))) ((x7_3)) := by show (z10) = (((w1)) ((x7_3)) + p2 (a2) - 1) / p2 (a2); rw [hcw]; exact pz10_3
        obtain ⟨am0, ham0⟩ : ∃ f : Int → Int, f = (w7_2) := ⟨_, rfl⟩
        obtain ⟨od0, hod0⟩ : ∃ f : Int → Int, f = (w7_3) := ⟨_, rfl⟩
        rw [← ham0, ← hod0] at j7_l
        refine Ew_of (pc' := 30) (fun _ => x_aload_n rfl (rk_o (l7_0) rfl rfl)) ?_
        refine v_g H (o := 0) (v := I (y7_0_14)) rfl rfl rfl rfl rfl (congrArg (fun z : Int => I z) ((((show F10 0 14 = F_7 0 14 from (eF10 0 14))).trans (ey7_0_14)) : F10 0 14 = y7_0_14)) ?_
        refine Ew_of (pc' := 35) (fun _ => x_istore rfl) ?_
        have hmv0 : MVU am0 ((w7_2)) ((y7_0_14)) ((y7_0_14)) := by rw [ham0]; exact MVU_0
        have hmw0 : MVU od0 ((w7_3)) ((y7_0_14)) ((y7_0_14)) := by rw [hod0]; exact MVU_0
        have hhi0 : ∀ i, ((y7_0_14)) ≤ i → i < ((y7_0_14)) → (z10) < am0 i := fun i a b => absurd b (by omega)
        have hi0 : INS ((w7_2)) ((w7_3)) (y7_0_14) ((y7_0_14)) (z10) (a2) := INS_0 (by omega) (by assumption) (by assumption) (by assumption)
        suffices hl35 : ∀ (m : Nat), ∀ (ls : rO) (σ : rS) (F_35 : hF) (A_35 : hA) (x35_5 : Int), rlook ls 0 = some (.ref (D 0)) → rlook ls 1 = some (.ref (D 1)) → rlook ls 2 = some (I (a2)) → rlook ls 3 = some (I (x7_3)) → rlook ls 4 = some (I (z10)) → rlook ls 5 = some (I (x35_5)) → HW V99_Ir σ D N F_35 A_35 → OUT (V99_Ir).length D N σE c s D N σ c s → SF [] F10 F_35 → SA [2, 3] A10 A_35 → ∀ w35_2 : Int → Int, A_35 2 = w35_2 → ∀ w35_3 : Int → Int, A_35 3 = w35_3 → (inr (x35_5)) → (MVU am0 ((w35_2)) ((x35_5)) ((y7_0_14))) → (MVU od0 ((w35_3)) ((x35_5)) ((y7_0_14))) → (∀ i, (x35_5) ≤ i → i < ((y7_0_14)) → (z10) < am0 i) → (INS ((w35_2)) ((w35_3)) (x35_5) ((y7_0_14)) (z10) (a2)) → (0 ≤ (x35_5) ∧ (x35_5) ≤ ((y7_0_14))) → ((x35_5)).toNat = m → Ew 99 (d + 1) 35 ls [] σ c s Q from
          hl35 _ _ _ _ _ (y7_0_14) (rk_o (rk_o (l7_0) rfl rfl) rfl rfl) (rk_o (rk_o (l7_1) rfl rfl) rfl rfl) (rk_o (rk_o (l7_2) rfl rfl) rfl rfl) (rk_o (rk_o (l7_3) rfl rfl) rfl rfl) (rk_o (rk_s) rfl rfl) (rk_s) H O (SF_refl) (SA_refl)    (w7_2) (((show A10 2 = A_7 2 from (eA10 2))).trans (ew7_2)) (w7_3) (((show A10 3 = A_7 3 from (eA10 3))).trans (ew7_3)) (show inr (y7_0_14) by omega) (show MVU am0 ((w7_2)) ((y7_0_14)) ((y7_0_14)) by assumption) (show MVU od0 ((w7_3)) ((y7_0_14)) ((y7_0_14)) by assumption) (show ∀ i, (y7_0_14) ≤ i → i < ((y7_0_14)) → (z10) < am0 i by assumption) (show INS ((w7_2)) ((w7_3)) (y7_0_14) ((y7_0_14)) (z10) (a2) by assumption) (show 0 ≤ (y7_0_14) ∧ (y7_0_14) ≤ ((y7_0_14)) by omega) rfl
        as_aux_lemma =>
        intro m
        induction m using Nat.strongRecOn with
        | _ m ih35 =>
          intro ls σ F_35 A_35 x35_5 l35_0 l35_1 l35_2 l35_3 l35_4 l35_5 H O hS_35 hA_35    w35_2 ew35_2 w35_3 ew35_3 j35_0 j35_1 j35_2 j35_3 j35_4 j35_5 hm35
          have j35_a : MVU am0 ((w35_2)) ((x35_5)) ((y7_0_14)) := by assumption
          have j35_o : MVU od0 ((w35_3)) ((x35_5)) ((y7_0_14)) := by assumption
          have j35_h : ∀ i, (x35_5) ≤ i → i < ((y7_0_14)) → (z10) < am0 i := by assumption
          have hins : INS ((w35_2)) ((w35_3)) (x35_5) ((y7_0_14)) (z10) (a2) := by assumption
          refine Ew_of (pc' := 37) (fun _ => x_iload rfl l35_5) ?_
          have hc92 : ∀ (ls : rO) (σ : rS) (F_c92 : hF) (A_c92 : hA) , rlook ls 0 = some (.ref (D 0)) → rlook ls 1 = some (.ref (D 1)) → rlook ls 2 = some (I (a2)) → rlook ls 3 = some (I (x7_3)) → rlook ls 4 = some (I (z10)) → rlook ls 5 = some (I (x35_5)) → HW V99_Ir σ D N F_c92 A_c92 → OUT (V99_Ir).length D N σE c s D N σ c s → SF [] F_35 F_c92 → SA [] A_35 A_c92 → (((x35_5) ≤ (0)) ∨ ((x35_5) > (0) ∧ -2147483648 ≤ ((w35_2) ((x35_5 - 1))) ∧ ((w35_2) ((x35_5 - 1))) ≤ 2147483647 ∧ ((w35_2) ((x35_5 - 1))) ≤ (z10))) → Ew 99 (d + 1) 92 ls [] σ c s Q := by
           as_aux_lemma =>
            intro  ls σ F_c92 A_c92  lc92_0 lc92_1 lc92_2 lc92_3 lc92_4 lc92_5 H O hS_c92 hA_c92     jc92_0
            have hmvE := j35_a
            have hmwE := j35_o
            have hhiE := j35_h
            have hloE : ((x35_5) : Int) = 0 ∨ am0 ((x35_5) - 1) ≤ (z10) := by by_cases q : ((x35_5) : Int) = 0; (exact .inl q); ((rw [← j35_a.1 ((x35_5) - 1) (by omega) (by omega)]; exact .inr (by omega)))
            have hxx : ((x35_5) : Int) = 0 ∨ ((w35_2)) ((x35_5) - 1) ≤ (z10) := by omega
            have hie := INS_end (s := (x7_3)) (e2 := ((y7_0_14)) + 1) hins hxx rfl ⟨by omega, by omega, fun q => by omega⟩ ⟨by omega, by omega⟩
            refine Ew_of (pc' := 93) (fun _ => x_aload_n rfl lc92_0) ?_
            refine v_g H (o := 0) (v := .ref (D 2)) rfl rfl rfl rfl rfl (vrf ((((((hS_c92 0 11 rfl).trans (hS_35 0 11 rfl)).trans ((show F10 0 11 = F_7 0 11 from (eF10 0 11)))).trans (hS_7 0 11 rfl))).trans (pf2))) ?_
            refine Ew_of (pc' := 98) (fun _ => x_iload rfl lc92_5) ?_
            refine Ew_of (pc' := 100) (fun _ => x_iload rfl lc92_4) ?_
            refine v_sI H (o := 2) (z := z10) rfl rfl rfl rfl (n := n2) (en2) (show 0 ≤ x35_5 ∧ x35_5 < n2 by omega) (show inr (z10) by omega) (fun σ H O' => ?_)
            have O := OUT_trans O O'
            refine Ew_of (pc' := 102) (fun _ => x_aload_n rfl lc92_0) ?_
            refine v_g H (o := 0) (v := .ref (D 3)) rfl rfl rfl rfl rfl (vrf ((((((hS_c92 0 10 rfl).trans (hS_35 0 10 rfl)).trans ((show F10 0 10 = F_7 0 10 from (eF10 0 10)))).trans (hS_7 0 10 rfl))).trans (pf3))) ?_
            refine Ew_of (pc' := 107) (fun _ => x_iload rfl lc92_5) ?_
            refine Ew_of (pc' := 108) (fun _ => x_iload_n rfl lc92_3) ?_
            refine v_sI H (o := 3) (z := x7_3) rfl rfl rfl rfl (n := n3) (en3) (show 0 ≤ x35_5 ∧ x35_5 < n3 by omega) (show inr (x7_3) by omega) (fun σ H O' => ?_)
            have O := OUT_trans O O'
            have hq1 := hie.1
            have hq2 := hie.2.1
            have hq3 := hie.2.2
            refine Ew_of (pc' := 110) (fun _ => x_aload_n rfl lc92_0) ?_
            refine Ew_of (pc' := 111) (fun _ => x_dup rfl rfl) ?_
            refine v_g H (o := 0) (v := I (y7_0_14)) rfl rfl rfl rfl rfl (congrArg (fun z : Int => I z) (((((hS_c92 0 14 rfl).trans (hS_35 0 14 rfl)).trans ((show F10 0 14 = F_7 0 14 from (eF10 0 14)))).trans (ey7_0_14)) : F_c92 0 14 = y7_0_14)) ?_
            refine Ew_of (pc' := 115) (fun _ => x_iconst rfl) ?_
            refine w_iadd rfl ?_
            refine v_p H (o := 0) (z := (y7_0_14 + 1)) (v := I ((y7_0_14 + 1))) rfl rfl rfl rfl rfl rfl rfl rfl (show (-2147483648 : Int) ≤ (y7_0_14 + 1) ∧ (y7_0_14 + 1) ≤ 2147483647 by omega) (fun σ H O' => ?_)
            have O := OUT_trans O O'
            refine Ew_of (pc' := 122) (fun _ => x_iinc (len := 3) rfl (lc92_3)) ?_
            refine Ew_of (pc' := 7) (fun _ => x_goto rfl rfl) ?_
            have hls1 : LSP (hvF ((w1)) ((a2))) ((upd1 (w35_2) (x35_5) (z10))) ((upd1 (w35_3) (x35_5) (x7_3))) (((y7_0_14 + 1))) (((x7_3 + 1))) := by first | exact LSP_in j7_l hmvE hmwE (by omega) (by omega) hxl (by omega) hloE hhiE rfl rfl | exact LSP_no j7_l (hzl0 (by omega)) rfl
            exact ih7 _ (by omega) _ _ _ _ ((x7_3 + 1)) (rk_o (lc92_0) rfl rfl) (rk_o (lc92_1) rfl rfl) (rk_o (lc92_2) rfl rfl) (rk_s) H O (SF_upd (SF_trans (SF_trans (SF_trans (hS_7) (SF_glu (ι := []) hS10 eF10 (by decide +kernel)) (any_sub (l' := []) rfl)) hS_35 (any_sub rfl)) hS_c92 (any_sub rfl)) rfl) (SA_upd (SA_upd (SA_trans (SA_trans (SA_trans (hA_7) (SA_glu (ι := []) hA10 eA10 (by decide +kernel)) (any_subA (l' := []) rfl)) hA_35 (any_subA rfl)) hA_c92 (any_subA rfl)) rfl) rfl)   ((y7_0_14 + 1)) (rfl) (upd1 (w35_2) (x35_5) (z10)) (congrArg (fun q => upd1 q (x35_5) (z10)) ((funext (hA_c92 2 rfl)).trans (ew35_2))) (upd1 (w35_3) (x35_5) (x7_3)) (congrArg (fun q => upd1 q (x35_5) (x7_3)) ((funext (hA_c92 3 rfl)).trans (ew35_3))) (show inr ((x7_3 + 1)) by omega) (show (0) ≤ ((x7_3 + 1)) by omega) (show ((x7_3 + 1)) ≤ (0) ∨ ((x7_3 + 1)) ≤ ((256)) by omega) (show LSP (hvF ((w1)) ((a2))) ((upd1 (w35_2) (x35_5) (z10))) ((upd1 (w35_3) (x35_5) (x7_3))) (((y7_0_14 + 1))) (((x7_3 + 1))) by assumption) (show 0 ≤ (((y7_0_14 + 1))) ∧ (((y7_0_14 + 1))) ≤ ((x7_3 + 1)) by omega) (show SRT ((upd1 (w35_2) (x35_5) (z10))) 0 (((y7_0_14 + 1))) by assumption) (show GEA ((upd1 (w35_2) (x35_5) (z10))) (((y7_0_14 + 1))) (a2) by assumption) (show ORD ((upd1 (w35_3) (x35_5) (x7_3))) (((y7_0_14 + 1))) by assumption) (show (((y7_0_14 + 1))) = su (fun i => pos1 (((w1)) i)) (((x7_3 + 1)) : Int).toNat by omega) rfl
          refine w_ifle (t := 92) rfl rfl (show inr (x35_5) by omega) (fun b11 => ?_) (fun b11 => ?_)
          · exact hc92  _ _ _ _  (l35_0) (l35_1) (l35_2) (l35_3) (l35_4) (l35_5) H O (SF_refl) (SA_refl)     (show ((x35_5) ≤ (0)) ∨ ((x35_5) > (0) ∧ -2147483648 ≤ ((w35_2) ((x35_5 - 1))) ∧ ((w35_2) ((x35_5 - 1))) ≤ 2147483647 ∧ ((w35_2) ((x35_5 - 1))) ≤ (z10)) by omega)
          · refine Ew_of (pc' := 41) (fun _ => x_aload_n rfl l35_0) ?_
            refine v_g H (o := 0) (v := .ref (D 2)) rfl rfl rfl rfl rfl (vrf (((((hS_35 0 11 rfl).trans ((show F10 0 11 = F_7 0 11 from (eF10 0 11)))).trans (hS_7 0 11 rfl))).trans (pf2))) ?_
            refine Ew_of (pc' := 46) (fun _ => x_iload rfl l35_5) ?_
            refine Ew_of (pc' := 47) (fun _ => x_iconst rfl) ?_
            refine w_isub rfl ?_
            refine v_lI H (o := 2) rfl rfl rfl rfl (n := n2) (en2) (show 0 ≤ (x35_5 - 1) ∧ (x35_5 - 1) < n2 by omega) (fun v12 ev12 qv12 => ?_)
            have ev12 : (w35_2) ((x35_5 - 1)) = v12 := (congrFun (ew35_2) ((x35_5 - 1))).symm.trans ev12
            have hvt : ((w35_2)) ((x35_5) + -1) = (v12) := ev12
            refine Ew_of (pc' := 51) (fun _ => x_iload rfl l35_4) ?_
            refine w_icmple (t := 92) rfl rfl (show inr (v12) by omega) (show inr (z10) by omega) (fun b13 => ?_) (fun b13 => ?_)
            · exact hc92  _ _ _ _  (l35_0) (l35_1) (l35_2) (l35_3) (l35_4) (l35_5) H O (SF_refl) (SA_refl)     (show ((x35_5) ≤ (0)) ∨ ((x35_5) > (0) ∧ -2147483648 ≤ ((w35_2) ((x35_5 - 1))) ∧ ((w35_2) ((x35_5 - 1))) ≤ 2147483647 ∧ ((w35_2) ((x35_5 - 1))) ≤ (z10)) by omega)
            · refine Ew_of (pc' := 55) (fun _ => x_aload_n rfl l35_0) ?_
              refine v_g H (o := 0) (v := .ref (D 2)) rfl rfl rfl rfl rfl (vrf (((((hS_35 0 11 rfl).trans ((show F10 0 11 = F_7 0 11 from (eF10 0 11)))).trans (hS_7 0 11 rfl))).trans (pf2))) ?_
              refine Ew_of (pc' := 60) (fun _ => x_iload rfl l35_5) ?_
              refine Ew_of (pc' := 61) (fun _ => x_aload_n rfl l35_0) ?_
              refine v_g H (o := 0) (v := .ref (D 2)) rfl rfl rfl rfl rfl (vrf (((((hS_35 0 11 rfl).trans ((show F10 0 11 = F_7 0 11 from (eF10 0 11)))).trans (hS_7 0 11 rfl))).trans (pf2))) ?_
              refine Ew_of (pc' := 66) (fun _ => x_iload rfl l35_5) ?_
              refine Ew_of (pc' := 67) (fun _ => x_iconst rfl) ?_
              refine w_isub rfl ?_
              refine v_lI H (o := 2) rfl rfl rfl rfl (n := n2) (en2) (show 0 ≤ (x35_5 - 1) ∧ (x35_5 - 1) < n2 by omega) (fun v14 ev14 qv14 => ?_)
              have ev14 : (w35_2) ((x35_5 - 1)) = v14 := (congrFun (ew35_2) ((x35_5 - 1))).symm.trans ev14
              have hva := ev14
              refine v_sI H (o := 2) (z := v14) rfl rfl rfl rfl (n := n2) (en2) (show 0 ≤ x35_5 ∧ x35_5 < n2 by omega) (show inr (v14) by omega) (fun σ H O' => ?_)
              have O := OUT_trans O O'
              refine Ew_of (pc' := 71) (fun _ => x_aload_n rfl l35_0) ?_
              refine v_g H (o := 0) (v := .ref (D 3)) rfl rfl rfl rfl rfl (vrf (((((hS_35 0 10 rfl).trans ((show F10 0 10 = F_7 0 10 from (eF10 0 10)))).trans (hS_7 0 10 rfl))).trans (pf3))) ?_
              refine Ew_of (pc' := 76) (fun _ => x_iload rfl l35_5) ?_
              refine Ew_of (pc' := 77) (fun _ => x_aload_n rfl l35_0) ?_
              refine v_g H (o := 0) (v := .ref (D 3)) rfl rfl rfl rfl rfl (vrf (((((hS_35 0 10 rfl).trans ((show F10 0 10 = F_7 0 10 from (eF10 0 10)))).trans (hS_7 0 10 rfl))).trans (pf3))) ?_
              refine Ew_of (pc' := 82) (fun _ => x_iload rfl l35_5) ?_
              refine Ew_of (pc' := 83) (fun _ => x_iconst rfl) ?_
              refine w_isub rfl ?_
              refine v_lI H (o := 3) rfl rfl rfl rfl (n := n3) (en3) (show 0 ≤ (x35_5 - 1) ∧ (x35_5 - 1) < n3 by omega) (fun v15 ev15 qv15 => ?_)
              have ev15 : (w35_3) ((x35_5 - 1)) = v15 := (congrFun (ew35_3) ((x35_5 - 1))).symm.trans ev15
              have hvo := ev15
              refine v_sI H (o := 3) (z := v15) rfl rfl rfl rfl (n := n3) (en3) (show 0 ≤ x35_5 ∧ x35_5 < n3 by omega) (show inr (v15) by omega) (fun σ H O' => ?_)
              have O := OUT_trans O O'
              refine Ew_of (pc' := 89) (fun _ => x_iinc (len := 3) rfl (l35_5)) ?_
              refine Ew_of (pc' := 35) (fun _ => x_goto rfl rfl) ?_
              have hmv1 : MVU am0 ((upd1 (w35_2) (x35_5) (v14))) (((x35_5 + (-1)))) ((y7_0_14)) := MVU_s j35_a (by omega) (by omega) hva
              have hmw1 : MVU od0 ((upd1 (w35_3) (x35_5) (v15))) (((x35_5 + (-1)))) ((y7_0_14)) := MVU_s j35_o (by omega) (by omega) hvo
              have hhi1 : ∀ i, ((x35_5 + (-1))) ≤ i → i < ((y7_0_14)) → (z10) < am0 i := fun i a b => by by_cases q : i = ((x35_5 + (-1))); ((rw [q, ← j35_a.1 (((x35_5 + (-1)))) (by omega) (by omega), hvt]; omega)); (exact j35_h i (by omega) b)
              have hi1 : INS ((upd1 (w35_2) (x35_5) (v14))) ((upd1 (w35_3) (x35_5) (v15))) ((x35_5 + (-1))) ((y7_0_14)) (z10) (a2) := INS_s hins (by omega) (by omega) (by omega) (by omega) (by omega)
              exact ih35 _ (by omega) _ _ _ _ ((x35_5 + (-1))) (rk_o (l35_0) rfl rfl) (rk_o (l35_1) rfl rfl) (rk_o (l35_2) rfl rfl) (rk_o (l35_3) rfl rfl) (rk_o (l35_4) rfl rfl) (rk_s) H O (hS_35) (SA_upd (SA_upd (hA_35) rfl) rfl)    (upd1 (w35_2) (x35_5) (v14)) (congrArg (fun q => upd1 q (x35_5) (v14)) (ew35_2)) (upd1 (w35_3) (x35_5) (v15)) (congrArg (fun q => upd1 q (x35_5) (v15)) (ew35_3)) (show inr ((x35_5 + (-1))) by omega) (show MVU am0 ((upd1 (w35_2) (x35_5) (v14))) (((x35_5 + (-1)))) ((y7_0_14)) by assumption) (show MVU od0 ((upd1 (w35_3) (x35_5) (v15))) (((x35_5 + (-1)))) ((y7_0_14)) by assumption) (show ∀ i, ((x35_5 + (-1))) ≤ i → i < ((y7_0_14)) → (z10) < am0 i by assumption) (show INS ((upd1 (w35_2) (x35_5) (v14))) ((upd1 (w35_3) (x35_5) (v15))) ((x35_5 + (-1))) ((y7_0_14)) (z10) (a2) by assumption) (show 0 ≤ ((x35_5 + (-1))) ∧ ((x35_5 + (-1))) ≤ ((y7_0_14)) by omega) rfl
abbrev V101 : vV := [(0, 3, [(4, 0), (4, 0), (4, 0), (0, 0), (4, 0), (4, 0), (4, 0), (4, 0), (4, 0), (4, 0), (4, 0), (4, 0), (4, 0), (0, 0), (0, 0), (0, 0), (0, 0)]), (1, 1, [])]
/-- Codes.takeLeast: this, this.amounts -/
theorem C101 {σE : rS} {D N : Nat → Nat} {F : hF} {A : hA} {d c s : Nat} {Q : wQ} (H : HW V101 σE D N F A)  (pf1 : F 0 11 = (D 1 : Int)) (n1 : Int) (en1 : (N 1 : Int) = n1) (u0_13 : Int) (eu0_13 : F 0 13 = u0_13) (u0_14 : Int) (eu0_14 : F 0 14 = u0_14) (u0_15 : Int) (eu0_15 : F 0 15 = u0_15) (u0_16 : Int) (eu0_16 : F 0 16 = u0_16) (w1 : Int → Int) (ew1 : A 1 = w1) (h0 : 0 ≤ ((u0_13)) ∧ ((u0_13)) ≤ ((u0_14)) ∧ ((u0_14)) ≤ ((u0_15)) ∧ ((u0_15)) ≤ ((u0_16)) ∧ ((u0_16)) ≤ 511) (h1 : ((u0_13)) < ((u0_14)) ∨ ((u0_15)) < ((u0_16))) (h2 : (n1) = 512) (k : ∀ (z : Int) (σ : rS) (F' : hF) (A' : hA), HW V101 σ D N F' A' → OUT (V101).length D N σE c s D N σ c s → SF [(0, 13), (0, 15)] F F' → SA [] A A' → ∀ y0_13 : Int, F' 0 13 = y0_13 → ∀ y0_15 : Int, F' 0 15 = y0_15 → (inr (z)) → (TAKE ((w1)) ((u0_14)) ((u0_13)) ((u0_15)) ((u0_16)) (z) ((y0_13)) ((y0_15))) → (0 ≤ (z) ∧ (z) < ((u0_16))) → ((y0_13) + (y0_15) = ((u0_13)) + ((u0_15)) + 1 ∧ 0 ≤ (y0_13) ∧ (y0_13) ≤ ((u0_14)) ∧ ((u0_14)) ≤ (y0_15) ∧ (y0_15) ≤ ((u0_16))) → (((u0_13) < ((u0_14)) ∧ (z) = (u0_13) ∧ ((y0_13)) = (u0_13) + 1 ∧ ((y0_15)) = (u0_15) ∧ (((u0_16)) ≤ (u0_15) ∨ ((w1)) ((u0_13)) ≤ ((w1)) ((u0_15))) ∨ (u0_15) < ((u0_16)) ∧ (z) = (u0_15) ∧ ((y0_13)) = (u0_13) ∧ ((y0_15)) = (u0_15) + 1 ∧ (((u0_14)) ≤ (u0_13) ∨ ((w1)) ((u0_15)) < ((w1)) ((u0_13))))) → Q (some (I z)) σ c s) : Ew 101 (d + 0) 0 (rargs 0 [.ref (D 0)]) [] σE c s Q := by
  have O := OUT_refl (n := (V101).length) (D := D) (N := N) (σ := σE) (c := c) (s := s)
  have HE := H
  have r1 : (-2147483648 : Int) ≤ u0_13 ∧ u0_13 ≤ 2147483647 := by have h1 : (-2147483648 : Int) ≤ F 0 13 ∧ F 0 13 ≤ 2147483647 := H.krg 0 13 (by decide); rw [show F 0 13 = u0_13 from (eu0_13)] at h1; exact h1
  have r2 : (-2147483648 : Int) ≤ u0_14 ∧ u0_14 ≤ 2147483647 := by have h1 : (-2147483648 : Int) ≤ F 0 14 ∧ F 0 14 ≤ 2147483647 := H.krg 0 14 (by decide); rw [show F 0 14 = u0_14 from (eu0_14)] at h1; exact h1
  have r3 : (-2147483648 : Int) ≤ u0_15 ∧ u0_15 ≤ 2147483647 := by have h1 : (-2147483648 : Int) ≤ F 0 15 ∧ F 0 15 ≤ 2147483647 := H.krg 0 15 (by decide); rw [show F 0 15 = u0_15 from (eu0_15)] at h1; exact h1
  have r4 : (-2147483648 : Int) ≤ u0_16 ∧ u0_16 ≤ 2147483647 := by have h1 : (-2147483648 : Int) ≤ F 0 16 ∧ F 0 16 ≤ 2147483647 := H.krg 0 16 (by decide); rw [show F 0 16 = u0_16 from (eu0_16)] at h1; exact h1
  have r5 : (0 : Int) ≤ n1 ∧ n1 ≤ 1000000 := by have h1 := H.nle 1 (by decide); have h2 : (N 1 : Int) = n1 := en1; omega
  refine Ew_of (pc' := 1) (fun _ => x_aload_n rfl rfl) ?_
  refine v_g H (o := 0) (v := I (u0_13)) rfl rfl rfl rfl rfl (congrArg (fun z : Int => I z) ((eu0_13) : F 0 13 = u0_13)) ?_
  refine Ew_of (pc' := 5) (fun _ => x_aload_n rfl rfl) ?_
  refine v_g H (o := 0) (v := I (u0_14)) rfl rfl rfl rfl rfl (congrArg (fun z : Int => I z) ((eu0_14) : F 0 14 = u0_14)) ?_
  have hc48 : ∀ (tc48_0 : Int), ∀ (ls : rO) (σ : rS) (F_c48 : hF) (A_c48 : hA) , rlook ls 0 = some (.ref (D 0)) → HW V101 σ D N F_c48 A_c48 → OUT (V101).length D N σE c s D N σ c s → SF [] F F_c48 → SA [] A A_c48 → (inr (tc48_0)) → (((u0_13) ≥ (u0_14) ∧ (tc48_0) = (0)) ∨ ((u0_13) < (u0_14) ∧ (u0_15) ≥ (u0_16) ∧ (tc48_0) = (1)) ∨ ((u0_13) < (u0_14) ∧ (u0_15) < (u0_16) ∧ -2147483648 ≤ ((w1) (u0_13)) ∧ ((w1) (u0_13)) ≤ 2147483647 ∧ -2147483648 ≤ ((w1) (u0_15)) ∧ ((w1) (u0_15)) ≤ 2147483647 ∧ ((w1) (u0_13)) > ((w1) (u0_15)) ∧ (tc48_0) = (0)) ∨ ((u0_13) < (u0_14) ∧ (u0_15) < (u0_16) ∧ -2147483648 ≤ ((w1) (u0_13)) ∧ ((w1) (u0_13)) ≤ 2147483647 ∧ -2147483648 ≤ ((w1) (u0_15)) ∧ ((w1) (u0_15)) ≤ 2147483647 ∧ ((w1) (u0_13)) ≤ ((w1) (u0_15)) ∧ (tc48_0) = (1))) → Ew 101 (d + 0) 48 ls [I (tc48_0)] σ c s Q := by
   as_aux_lemma =>
    intro tc48_0 ls σ F_c48 A_c48  lc48_0 H O hS_c48 hA_c48     jc48_0 jc48_1
    refine Ew_of (pc' := 49) (fun _ => x_istore_n rfl) ?_
    refine Ew_of (pc' := 50) (fun _ => x_iload_n rfl rk_s) ?_
    refine w_ifeq (t := 67) rfl rfl (show inr (tc48_0) by omega) (fun b6 => ?_) (fun b6 => ?_)
    · refine Ew_of (pc' := 68) (fun _ => x_aload_n rfl (rk_o (lc48_0) rfl rfl)) ?_
      refine Ew_of (pc' := 69) (fun _ => x_dup rfl rfl) ?_
      refine v_g H (o := 0) (v := I (u0_15)) rfl rfl rfl rfl rfl (congrArg (fun z : Int => I z) (((hS_c48 0 15 rfl).trans (eu0_15)) : F_c48 0 15 = u0_15)) ?_
      refine Ew_of (pc' := 73) (fun _ => x_dup_x1 rfl rfl) ?_
      refine Ew_of (pc' := 74) (fun _ => x_iconst rfl) ?_
      refine w_iadd rfl ?_
      refine v_p H (o := 0) (z := (u0_15 + 1)) (v := I ((u0_15 + 1))) rfl rfl rfl rfl rfl rfl rfl rfl (show (-2147483648 : Int) ≤ (u0_15 + 1) ∧ (u0_15 + 1) ≤ 2147483647 by omega) (fun σ H O' => ?_)
      have O := OUT_trans O O'
      have htks : ((u0_13) < ((u0_14)) ∧ (u0_15) = (u0_13) ∧ ((u0_13)) = (u0_13) + 1 ∧ (((u0_15 + 1))) = (u0_15) ∧ (((u0_16)) ≤ (u0_15) ∨ ((w1)) ((u0_13)) ≤ ((w1)) ((u0_15))) ∨ (u0_15) < ((u0_16)) ∧ (u0_15) = (u0_15) ∧ ((u0_13)) = (u0_13) ∧ (((u0_15 + 1))) = (u0_15) + 1 ∧ (((u0_14)) ≤ (u0_13) ∨ ((w1)) ((u0_15)) < ((w1)) ((u0_13)))) := by omega
      have htk : TAKE ((w1)) ((u0_14)) ((u0_13)) ((u0_15)) ((u0_16)) ((u0_15)) ((u0_13)) (((u0_15 + 1))) := by unfold TAKE; omega
      exact w_ireturn rfl (k (u0_15) _ _ _ H O (SF_upd (SF_trans (SF_refl) hS_c48 (any_sub rfl)) rfl) (SA_trans (SA_refl) hA_c48 (any_subA rfl)) (u0_13) (((hS_c48 0 13 rfl).trans (eu0_13))) ((u0_15 + 1)) (rfl) (show inr (u0_15) by omega) (show TAKE ((w1)) ((u0_14)) ((u0_13)) ((u0_15)) ((u0_16)) (u0_15) ((u0_13)) (((u0_15 + 1))) by assumption) (show 0 ≤ (u0_15) ∧ (u0_15) < ((u0_16)) by omega) (show (u0_13) + ((u0_15 + 1)) = ((u0_13)) + ((u0_15)) + 1 ∧ 0 ≤ (u0_13) ∧ (u0_13) ≤ ((u0_14)) ∧ ((u0_14)) ≤ ((u0_15 + 1)) ∧ ((u0_15 + 1)) ≤ ((u0_16)) by omega) (show ((u0_13) < ((u0_14)) ∧ (u0_15) = (u0_13) ∧ ((u0_13)) = (u0_13) + 1 ∧ (((u0_15 + 1))) = (u0_15) ∧ (((u0_16)) ≤ (u0_15) ∨ ((w1)) ((u0_13)) ≤ ((w1)) ((u0_15))) ∨ (u0_15) < ((u0_16)) ∧ (u0_15) = (u0_15) ∧ ((u0_13)) = (u0_13) ∧ (((u0_15 + 1))) = (u0_15) + 1 ∧ (((u0_14)) ≤ (u0_13) ∨ ((w1)) ((u0_15)) < ((w1)) ((u0_13)))) by assumption))
    · refine Ew_of (pc' := 54) (fun _ => x_aload_n rfl (rk_o (lc48_0) rfl rfl)) ?_
      refine Ew_of (pc' := 55) (fun _ => x_dup rfl rfl) ?_
      refine v_g H (o := 0) (v := I (u0_13)) rfl rfl rfl rfl rfl (congrArg (fun z : Int => I z) (((hS_c48 0 13 rfl).trans (eu0_13)) : F_c48 0 13 = u0_13)) ?_
      refine Ew_of (pc' := 59) (fun _ => x_dup_x1 rfl rfl) ?_
      refine Ew_of (pc' := 60) (fun _ => x_iconst rfl) ?_
      refine w_iadd rfl ?_
      refine v_p H (o := 0) (z := (u0_13 + 1)) (v := I ((u0_13 + 1))) rfl rfl rfl rfl rfl rfl rfl rfl (show (-2147483648 : Int) ≤ (u0_13 + 1) ∧ (u0_13 + 1) ≤ 2147483647 by omega) (fun σ H O' => ?_)
      have O := OUT_trans O O'
      refine Ew_of (pc' := 78) (fun _ => x_goto rfl rfl) ?_
      have htks : ((u0_13) < ((u0_14)) ∧ (u0_13) = (u0_13) ∧ (((u0_13 + 1))) = (u0_13) + 1 ∧ ((u0_15)) = (u0_15) ∧ (((u0_16)) ≤ (u0_15) ∨ ((w1)) ((u0_13)) ≤ ((w1)) ((u0_15))) ∨ (u0_15) < ((u0_16)) ∧ (u0_13) = (u0_15) ∧ (((u0_13 + 1))) = (u0_13) ∧ ((u0_15)) = (u0_15) + 1 ∧ (((u0_14)) ≤ (u0_13) ∨ ((w1)) ((u0_15)) < ((w1)) ((u0_13)))) := by omega
      have htk : TAKE ((w1)) ((u0_14)) ((u0_13)) ((u0_15)) ((u0_16)) ((u0_13)) (((u0_13 + 1))) ((u0_15)) := by unfold TAKE; omega
      exact w_ireturn rfl (k (u0_13) _ _ _ H O (SF_upd (SF_trans (SF_refl) hS_c48 (any_sub rfl)) rfl) (SA_trans (SA_refl) hA_c48 (any_subA rfl)) ((u0_13 + 1)) (rfl) (u0_15) (((hS_c48 0 15 rfl).trans (eu0_15))) (show inr (u0_13) by omega) (show TAKE ((w1)) ((u0_14)) ((u0_13)) ((u0_15)) ((u0_16)) (u0_13) (((u0_13 + 1))) ((u0_15)) by assumption) (show 0 ≤ (u0_13) ∧ (u0_13) < ((u0_16)) by omega) (show ((u0_13 + 1)) + (u0_15) = ((u0_13)) + ((u0_15)) + 1 ∧ 0 ≤ ((u0_13 + 1)) ∧ ((u0_13 + 1)) ≤ ((u0_14)) ∧ ((u0_14)) ≤ (u0_15) ∧ (u0_15) ≤ ((u0_16)) by omega) (show ((u0_13) < ((u0_14)) ∧ (u0_13) = (u0_13) ∧ (((u0_13 + 1))) = (u0_13) + 1 ∧ ((u0_15)) = (u0_15) ∧ (((u0_16)) ≤ (u0_15) ∨ ((w1)) ((u0_13)) ≤ ((w1)) ((u0_15))) ∨ (u0_15) < ((u0_16)) ∧ (u0_13) = (u0_15) ∧ (((u0_13 + 1))) = (u0_13) ∧ ((u0_15)) = (u0_15) + 1 ∧ (((u0_14)) ≤ (u0_13) ∨ ((w1)) ((u0_15)) < ((w1)) ((u0_13)))) by assumption))
  refine w_icmpge (t := 47) rfl rfl (show inr (u0_13) by omega) (show inr (u0_14) by omega) (fun b7 => ?_) (fun b7 => ?_)
  · refine Ew_of (pc' := 48) (fun _ => x_iconst rfl) ?_
    exact hc48 (0) _ _ _ _  (rfl) H O (SF_refl) (SA_refl)     (show inr (0) by omega) (show ((u0_13) ≥ (u0_14) ∧ (0) = (0)) ∨ ((u0_13) < (u0_14) ∧ (u0_15) ≥ (u0_16) ∧ (0) = (1)) ∨ ((u0_13) < (u0_14) ∧ (u0_15) < (u0_16) ∧ -2147483648 ≤ ((w1) (u0_13)) ∧ ((w1) (u0_13)) ≤ 2147483647 ∧ -2147483648 ≤ ((w1) (u0_15)) ∧ ((w1) (u0_15)) ≤ 2147483647 ∧ ((w1) (u0_13)) > ((w1) (u0_15)) ∧ (0) = (0)) ∨ ((u0_13) < (u0_14) ∧ (u0_15) < (u0_16) ∧ -2147483648 ≤ ((w1) (u0_13)) ∧ ((w1) (u0_13)) ≤ 2147483647 ∧ -2147483648 ≤ ((w1) (u0_15)) ∧ ((w1) (u0_15)) ≤ 2147483647 ∧ ((w1) (u0_13)) ≤ ((w1) (u0_15)) ∧ (0) = (1)) by omega)
  · refine Ew_of (pc' := 12) (fun _ => x_aload_n rfl rfl) ?_
    refine v_g H (o := 0) (v := I (u0_15)) rfl rfl rfl rfl rfl (congrArg (fun z : Int => I z) ((eu0_15) : F 0 15 = u0_15)) ?_
    refine Ew_of (pc' := 16) (fun _ => x_aload_n rfl rfl) ?_
    refine v_g H (o := 0) (v := I (u0_16)) rfl rfl rfl rfl rfl (congrArg (fun z : Int => I z) ((eu0_16) : F 0 16 = u0_16)) ?_
    refine w_icmpge (t := 43) rfl rfl (show inr (u0_15) by omega) (show inr (u0_16) by omega) (fun b8 => ?_) (fun b8 => ?_)
    · refine Ew_of (pc' := 44) (fun _ => x_iconst rfl) ?_
      refine Ew_of (pc' := 48) (fun _ => x_goto rfl rfl) ?_
      exact hc48 (1) _ _ _ _  (rfl) H O (SF_refl) (SA_refl)     (show inr (1) by omega) (show ((u0_13) ≥ (u0_14) ∧ (1) = (0)) ∨ ((u0_13) < (u0_14) ∧ (u0_15) ≥ (u0_16) ∧ (1) = (1)) ∨ ((u0_13) < (u0_14) ∧ (u0_15) < (u0_16) ∧ -2147483648 ≤ ((w1) (u0_13)) ∧ ((w1) (u0_13)) ≤ 2147483647 ∧ -2147483648 ≤ ((w1) (u0_15)) ∧ ((w1) (u0_15)) ≤ 2147483647 ∧ ((w1) (u0_13)) > ((w1) (u0_15)) ∧ (1) = (0)) ∨ ((u0_13) < (u0_14) ∧ (u0_15) < (u0_16) ∧ -2147483648 ≤ ((w1) (u0_13)) ∧ ((w1) (u0_13)) ≤ 2147483647 ∧ -2147483648 ≤ ((w1) (u0_15)) ∧ ((w1) (u0_15)) ≤ 2147483647 ∧ ((w1) (u0_13)) ≤ ((w1) (u0_15)) ∧ (1) = (1)) by omega)
    · refine Ew_of (pc' := 23) (fun _ => x_aload_n rfl rfl) ?_
      refine v_g H (o := 0) (v := .ref (D 1)) rfl rfl rfl rfl rfl (vrf (pf1)) ?_
      refine Ew_of (pc' := 27) (fun _ => x_aload_n rfl rfl) ?_
      refine v_g H (o := 0) (v := I (u0_13)) rfl rfl rfl rfl rfl (congrArg (fun z : Int => I z) ((eu0_13) : F 0 13 = u0_13)) ?_
      refine v_lI H (o := 1) rfl rfl rfl rfl (n := n1) (en1) (show 0 ≤ u0_13 ∧ u0_13 < n1 by omega) (fun v9 ev9 qv9 => ?_)
      have ev9 : (w1) (u0_13) = v9 := (congrFun (ew1) (u0_13)).symm.trans ev9
      refine Ew_of (pc' := 32) (fun _ => x_aload_n rfl rfl) ?_
      refine v_g H (o := 0) (v := .ref (D 1)) rfl rfl rfl rfl rfl (vrf (pf1)) ?_
      refine Ew_of (pc' := 36) (fun _ => x_aload_n rfl rfl) ?_
      refine v_g H (o := 0) (v := I (u0_15)) rfl rfl rfl rfl rfl (congrArg (fun z : Int => I z) ((eu0_15) : F 0 15 = u0_15)) ?_
      refine v_lI H (o := 1) rfl rfl rfl rfl (n := n1) (en1) (show 0 ≤ u0_15 ∧ u0_15 < n1 by omega) (fun v10 ev10 qv10 => ?_)
      have ev10 : (w1) (u0_15) = v10 := (congrFun (ew1) (u0_15)).symm.trans ev10
      refine w_icmpgt (t := 47) rfl rfl (show inr (v9) by omega) (show inr (v10) by omega) (fun b11 => ?_) (fun b11 => ?_)
      · refine Ew_of (pc' := 48) (fun _ => x_iconst rfl) ?_
        exact hc48 (0) _ _ _ _  (rfl) H O (SF_refl) (SA_refl)     (show inr (0) by omega) (show ((u0_13) ≥ (u0_14) ∧ (0) = (0)) ∨ ((u0_13) < (u0_14) ∧ (u0_15) ≥ (u0_16) ∧ (0) = (1)) ∨ ((u0_13) < (u0_14) ∧ (u0_15) < (u0_16) ∧ -2147483648 ≤ ((w1) (u0_13)) ∧ ((w1) (u0_13)) ≤ 2147483647 ∧ -2147483648 ≤ ((w1) (u0_15)) ∧ ((w1) (u0_15)) ≤ 2147483647 ∧ ((w1) (u0_13)) > ((w1) (u0_15)) ∧ (0) = (0)) ∨ ((u0_13) < (u0_14) ∧ (u0_15) < (u0_16) ∧ -2147483648 ≤ ((w1) (u0_13)) ∧ ((w1) (u0_13)) ≤ 2147483647 ∧ -2147483648 ≤ ((w1) (u0_15)) ∧ ((w1) (u0_15)) ≤ 2147483647 ∧ ((w1) (u0_13)) ≤ ((w1) (u0_15)) ∧ (0) = (1)) by omega)
      · refine Ew_of (pc' := 44) (fun _ => x_iconst rfl) ?_
        refine Ew_of (pc' := 48) (fun _ => x_goto rfl rfl) ?_
        exact hc48 (1) _ _ _ _  (rfl) H O (SF_refl) (SA_refl)     (show inr (1) by omega) (show ((u0_13) ≥ (u0_14) ∧ (1) = (0)) ∨ ((u0_13) < (u0_14) ∧ (u0_15) ≥ (u0_16) ∧ (1) = (1)) ∨ ((u0_13) < (u0_14) ∧ (u0_15) < (u0_16) ∧ -2147483648 ≤ ((w1) (u0_13)) ∧ ((w1) (u0_13)) ≤ 2147483647 ∧ -2147483648 ≤ ((w1) (u0_15)) ∧ ((w1) (u0_15)) ≤ 2147483647 ∧ ((w1) (u0_13)) > ((w1) (u0_15)) ∧ (1) = (0)) ∨ ((u0_13) < (u0_14) ∧ (u0_15) < (u0_16) ∧ -2147483648 ≤ ((w1) (u0_13)) ∧ ((w1) (u0_13)) ≤ 2147483647 ∧ -2147483648 ≤ ((w1) (u0_15)) ∧ ((w1) (u0_15)) ≤ 2147483647 ∧ ((w1) (u0_13)) ≤ ((w1) (u0_15)) ∧ (1) = (1)) by omega)
abbrev V100 : vV := [(0, 3, [(4, 0), (4, 0), (4, 0), (0, 0), (4, 0), (4, 0), (4, 0), (4, 0), (4, 0), (4, 0), (4, 0), (4, 0), (4, 0), (0, 0), (0, 0), (0, 0), (0, 0)]), (1, 1, []), (1, 1, []), (1, 1, [])]
/-- Codes.joinKnots: this, this.amounts, this.order, this.parents -/
theorem C100 {σE : rS} {D N : Nat → Nat} {F : hF} {A : hA} {d c s : Nat} {Q : wQ} (H : HW V100 σE D N F A)  (pf1 : F 0 11 = (D 1 : Int)) (pf2 : F 0 10 = (D 2 : Int)) (pf3 : F 0 12 = (D 3 : Int)) (n1 : Int) (en1 : (N 1 : Int) = n1) (n2 : Int) (en2 : (N 2 : Int) = n2) (n3 : Int) (en3 : (N 3 : Int) = n3) (u0_13 : Int) (eu0_13 : F 0 13 = u0_13) (u0_14 : Int) (eu0_14 : F 0 14 = u0_14) (u0_15 : Int) (eu0_15 : F 0 15 = u0_15) (u0_16 : Int) (eu0_16 : F 0 16 = u0_16) (w1 : Int → Int) (ew1 : A 1 = w1) (w2 : Int → Int) (ew2 : A 2 = w2) (w3 : Int → Int) (ew3 : A 3 = w3) (hh : Int) (hC : Int → Int) (h0 : LSP hC ((w1)) ((w2)) ((u0_14)) 256) (h1 : ∀ s, 0 ≤ s → s < 256 → 0 ≤ hC s) (h2 : (n1) = 512 ∧ (n3) = 512) (h3 : 2 ≤ ((u0_14)) ∧ ((u0_14)) ≤ 256) (h4 : SRT ((w1)) 0 ((u0_14))) (h5 : GEA ((w1)) ((u0_14)) hh) (k : ∀ (σ : rS) (F' : hF) (A' : hA), HW V100 σ D N F' A' → OUT (V100).length D N σE c s D N σ c s → SF [(0, 13), (0, 15), (0, 16)] F F' → SA [1, 3] A A' → ∀ y0_13 : Int, F' 0 13 = y0_13 → ∀ y0_15 : Int, F' 0 15 = y0_15 → ∀ y0_16 : Int, F' 0 16 = y0_16 → ∀ v1 : Int → Int, A' 1 = v1 → ∀ v3 : Int → Int, A' 3 = v3 → ((y0_16) = 2 * ((u0_14)) - 1) → (TW ((v1)) ((v3)) ((u0_14)) ((y0_13)) ((y0_15)) ((y0_16)) (SA2 ((w1)) 0 ((u0_14)))) → (FLP hC ((v3)) ((w2)) ((u0_14)) ((y0_16))) → Q none σ c s) : Ew 100 (d + 1) 0 (rargs 0 [.ref (D 0)]) [] σE c s Q := by
  have O := OUT_refl (n := (V100).length) (D := D) (N := N) (σ := σE) (c := c) (s := s)
  have HE := H
  have r1 : (-2147483648 : Int) ≤ u0_13 ∧ u0_13 ≤ 2147483647 := by have h1 : (-2147483648 : Int) ≤ F 0 13 ∧ F 0 13 ≤ 2147483647 := H.krg 0 13 (by decide); rw [show F 0 13 = u0_13 from (eu0_13)] at h1; exact h1
  have r2 : (-2147483648 : Int) ≤ u0_14 ∧ u0_14 ≤ 2147483647 := by have h1 : (-2147483648 : Int) ≤ F 0 14 ∧ F 0 14 ≤ 2147483647 := H.krg 0 14 (by decide); rw [show F 0 14 = u0_14 from (eu0_14)] at h1; exact h1
  have r3 : (-2147483648 : Int) ≤ u0_15 ∧ u0_15 ≤ 2147483647 := by have h1 : (-2147483648 : Int) ≤ F 0 15 ∧ F 0 15 ≤ 2147483647 := H.krg 0 15 (by decide); rw [show F 0 15 = u0_15 from (eu0_15)] at h1; exact h1
  have r4 : (-2147483648 : Int) ≤ u0_16 ∧ u0_16 ≤ 2147483647 := by have h1 : (-2147483648 : Int) ≤ F 0 16 ∧ F 0 16 ≤ 2147483647 := H.krg 0 16 (by decide); rw [show F 0 16 = u0_16 from (eu0_16)] at h1; exact h1
  have r5 : (0 : Int) ≤ n1 ∧ n1 ≤ 1000000 := by have h1 := H.nle 1 (by decide); have h2 : (N 1 : Int) = n1 := en1; omega
  have r6 : (0 : Int) ≤ n2 ∧ n2 ≤ 1000000 := by have h1 := H.nle 2 (by decide); have h2 : (N 2 : Int) = n2 := en2; omega
  have r7 : (0 : Int) ≤ n3 ∧ n3 ≤ 1000000 := by have h1 := H.nle 3 (by decide); have h2 : (N 3 : Int) = n3 := en3; omega
  refine Ew_of (pc' := 1) (fun _ => x_aload_n rfl rfl) ?_
  refine Ew_of (pc' := 2) (fun _ => x_iconst rfl) ?_
  refine v_p H (o := 0) (z := 0) (v := I (0)) rfl rfl rfl rfl rfl rfl rfl rfl (show (-2147483648 : Int) ≤ 0 ∧ 0 ≤ 2147483647 by omega) (fun σ H O' => ?_)
  have O := OUT_trans O O'
  refine Ew_of (pc' := 6) (fun _ => x_aload_n rfl rfl) ?_
  refine Ew_of (pc' := 7) (fun _ => x_aload_n rfl rfl) ?_
  refine v_g H (o := 0) (v := I (u0_14)) rfl rfl rfl rfl rfl (congrArg (fun z : Int => I z) ((eu0_14) : (updF F 0 13 (0)) 0 14 = u0_14)) ?_
  refine v_p H (o := 0) (z := u0_14) (v := I (u0_14)) rfl rfl rfl rfl rfl rfl rfl rfl (show (-2147483648 : Int) ≤ u0_14 ∧ u0_14 ≤ 2147483647 by omega) (fun σ H O' => ?_)
  have O := OUT_trans O O'
  refine Ew_of (pc' := 14) (fun _ => x_aload_n rfl rfl) ?_
  refine Ew_of (pc' := 15) (fun _ => x_aload_n rfl rfl) ?_
  refine v_g H (o := 0) (v := I (u0_14)) rfl rfl rfl rfl rfl (congrArg (fun z : Int => I z) ((eu0_14) : (updF (updF F 0 13 (0)) 0 15 (u0_14)) 0 14 = u0_14)) ?_
  refine v_p H (o := 0) (z := u0_14) (v := I (u0_14)) rfl rfl rfl rfl rfl rfl rfl rfl (show (-2147483648 : Int) ≤ u0_14 ∧ u0_14 ≤ 2147483647 by omega) (fun σ H O' => ?_)
  have O := OUT_trans O O'
  refine Ew_of (pc' := 22) (fun _ => x_iconst rfl) ?_
  refine Ew_of (pc' := 23) (fun _ => x_istore_n rfl) ?_
  have hcl0 : CLS hC ((w1)) ((w3)) ((w2)) ((u0_14)) 0 ((u0_14)) ((u0_14)) := CLS_0 (by assumption) (by omega) (by assumption)
  have hge : GEA ((w1)) ((u0_14)) hh := by assumption
  have ht0 : TW ((w1)) ((w3)) ((u0_14)) ((0)) ((u0_14)) ((u0_14)) (SA2 ((w1)) 0 ((u0_14))) := TW_0 (by omega) (by assumption) (fun k a b => (hge k a b).1)
  have hbd := SA2_bd (by omega) hge
  suffices hl23 : ∀ (m : Nat), ∀ (ls : rO) (σ : rS) (F_23 : hF) (A_23 : hA) (x23_1 : Int), rlook ls 0 = some (.ref (D 0)) → rlook ls 1 = some (I (x23_1)) → HW V100 σ D N F_23 A_23 → OUT (V100).length D N σE c s D N σ c s → SF [(0, 13), (0, 15), (0, 16)] (updF (updF (updF F 0 13 (0)) 0 15 (u0_14)) 0 16 (u0_14)) F_23 → SA [1, 3] A A_23 → ∀ y23_0_13 : Int, F_23 0 13 = y23_0_13 → ∀ y23_0_15 : Int, F_23 0 15 = y23_0_15 → ∀ y23_0_16 : Int, F_23 0 16 = y23_0_16 → ∀ w23_1 : Int → Int, A_23 1 = w23_1 → ∀ w23_3 : Int → Int, A_23 3 = w23_3 → (inr (x23_1)) → ((1) ≤ (x23_1)) → ((x23_1) ≤ (1) ∨ (x23_1) ≤ ((u0_14))) → (CLS hC ((w23_1)) ((w23_3)) ((w2)) ((u0_14)) ((y23_0_13)) ((y23_0_15)) ((y23_0_16))) → (((y23_0_16)) = ((u0_14)) + (x23_1) - 1) → (TW ((w23_1)) ((w23_3)) ((u0_14)) ((y23_0_13)) ((y23_0_15)) ((y23_0_16)) (SA2 ((w1)) 0 ((u0_14)))) → (0 ≤ ((y23_0_13)) ∧ ((y23_0_13)) ≤ ((u0_14)) ∧ ((u0_14)) ≤ ((y23_0_15)) ∧ ((y23_0_15)) ≤ ((y23_0_16)) ∧ (((u0_14)) - ((y23_0_13))) + (((y23_0_16)) - ((y23_0_15))) + (((y23_0_16)) - ((u0_14))) = ((u0_14))) → (((u0_14)) - (x23_1)).toNat = m → Ew 100 (d + 1) 23 ls [] σ c s Q from
    hl23 _ _ _ _ _ (1) (rk_o (rfl) rfl rfl) (rk_s) H O (SF_refl) (SA_refl)   (0) (rfl) (u0_14) (rfl) (u0_14) (rfl) (w1) (ew1) (w3) (ew3) (show inr (1) by omega) (show (1) ≤ (1) by omega) (show (1) ≤ (1) ∨ (1) ≤ ((u0_14)) by omega) (show CLS hC ((w1)) ((w3)) ((w2)) ((u0_14)) ((0)) ((u0_14)) ((u0_14)) by assumption) (show ((u0_14)) = ((u0_14)) + (1) - 1 by omega) (show TW ((w1)) ((w3)) ((u0_14)) ((0)) ((u0_14)) ((u0_14)) (SA2 ((w1)) 0 ((u0_14))) by assumption) (show 0 ≤ ((0)) ∧ ((0)) ≤ ((u0_14)) ∧ ((u0_14)) ≤ ((u0_14)) ∧ ((u0_14)) ≤ ((u0_14)) ∧ (((u0_14)) - ((0))) + (((u0_14)) - ((u0_14))) + (((u0_14)) - ((u0_14))) = ((u0_14)) by omega) rfl
  as_aux_lemma =>
  intro m
  induction m using Nat.strongRecOn with
  | _ m ih23 =>
    intro ls σ F_23 A_23 x23_1 l23_0 l23_1 H O hS_23 hA_23   y23_0_13 ey23_0_13 y23_0_15 ey23_0_15 y23_0_16 ey23_0_16 w23_1 ew23_1 w23_3 ew23_3 j23_0 j23_1 j23_2 j23_3 j23_4 j23_5 j23_6 hm23
    have r8 : (-2147483648 : Int) ≤ y23_0_13 ∧ y23_0_13 ≤ 2147483647 := by have h1 : (-2147483648 : Int) ≤ F_23 0 13 ∧ F_23 0 13 ≤ 2147483647 := H.krg 0 13 (by decide); rw [show F_23 0 13 = y23_0_13 from (ey23_0_13)] at h1; exact h1
    have r9 : (-2147483648 : Int) ≤ y23_0_15 ∧ y23_0_15 ≤ 2147483647 := by have h1 : (-2147483648 : Int) ≤ F_23 0 15 ∧ F_23 0 15 ≤ 2147483647 := H.krg 0 15 (by decide); rw [show F_23 0 15 = y23_0_15 from (ey23_0_15)] at h1; exact h1
    have r10 : (-2147483648 : Int) ≤ y23_0_16 ∧ y23_0_16 ≤ 2147483647 := by have h1 : (-2147483648 : Int) ≤ F_23 0 16 ∧ F_23 0 16 ≤ 2147483647 := H.krg 0 16 (by decide); rw [show F_23 0 16 = y23_0_16 from (ey23_0_16)] at h1; exact h1
    have htw : TW ((w23_1)) ((w23_3)) ((u0_14)) ((y23_0_13)) ((y23_0_15)) ((y23_0_16)) (SA2 ((w1)) 0 ((u0_14))) := by assumption
    have j23_c : CLS hC ((w23_1)) ((w23_3)) ((w2)) ((u0_14)) ((y23_0_13)) ((y23_0_15)) ((y23_0_16)) := by assumption
    refine Ew_of (pc' := 24) (fun _ => x_iload_n rfl l23_1) ?_
    refine Ew_of (pc' := 25) (fun _ => x_aload_n rfl l23_0) ?_
    refine v_g H (o := 0) (v := I (u0_14)) rfl rfl rfl rfl rfl (congrArg (fun z : Int => I z) (((hS_23 0 14 rfl).trans (eu0_14)) : F_23 0 14 = u0_14)) ?_
    refine w_icmpge (t := 99) rfl rfl (show inr (x23_1) by omega) (show inr (u0_14) by omega) (fun b11 => ?_) (fun b11 => ?_)
    · have : FLP hC ((w23_3)) ((w2)) ((u0_14)) ((y23_0_16)) := CLS_e j23_c (by omega) (by omega) (by omega)
      exact w_ret rfl (k _ _ _ H O (SF_trans (SF_upd (SF_upd (SF_upd (SF_refl) rfl) rfl) rfl) hS_23 (any_sub rfl)) (SA_trans (SA_refl) hA_23 (any_subA rfl)) (y23_0_13) ((ey23_0_13)) (y23_0_15) ((ey23_0_15)) (y23_0_16) ((ey23_0_16)) (w23_1) (ew23_1) (w23_3) (ew23_3) (show (y23_0_16) = 2 * ((u0_14)) - 1 by omega) (show TW ((w23_1)) ((w23_3)) ((u0_14)) ((y23_0_13)) ((y23_0_15)) ((y23_0_16)) (SA2 ((w1)) 0 ((u0_14))) by assumption) (show FLP hC ((w23_3)) ((w2)) ((u0_14)) ((y23_0_16)) by assumption))
    · refine Ew_of (pc' := 32) (fun _ => x_aload_n rfl l23_0) ?_
      refine v_inv H (o := 0) rfl rfl rfl rfl rfl rfl (by rfl) (C101 (D := pul [0, 1] D) (N := pul [0, 1] N) (HW_sub H (VS_of (show vsub V100 V101 [0, 1] = true by decide +kernel))) (((hS_23 0 11 rfl)).trans (pf1)) (n1) (en1) (y23_0_13) ((ey23_0_13)) (u0_14) (((hS_23 0 14 rfl).trans (eu0_14))) (y23_0_15) ((ey23_0_15)) (y23_0_16) ((ey23_0_16)) (w23_1) (ew23_1) (show 0 ≤ ((y23_0_13)) ∧ ((y23_0_13)) ≤ ((u0_14)) ∧ ((u0_14)) ≤ ((y23_0_15)) ∧ ((y23_0_15)) ≤ ((y23_0_16)) ∧ ((y23_0_16)) ≤ 511 by omega) (show ((y23_0_13)) < ((u0_14)) ∨ ((y23_0_15)) < ((y23_0_16)) by omega) (show (n1) = 512 by omega) (fun z12 σ12 F12' A12' H' O' hS12 hA12 y12_0_13 ey12_0_13 y12_0_15 ey12_0_15 pz12_0 pz12_1 pz12_2 pz12_3 pz12_4 => ⟨rfl, ?_⟩))
      refine v_back (c := c) (s := s) H (show vsub V100 V101 [0, 1] = true by decide +kernel) H' O' (fun F12 A12 H O' eF12 eA12 => ?_)
      have O := OUT_trans O O'
      -- Codes.takeLeast
      have r13 : (-2147483648 : Int) ≤ y12_0_13 ∧ y12_0_13 ≤ 2147483647 := by have h1 : (-2147483648 : Int) ≤ F12 0 13 ∧ F12 0 13 ≤ 2147483647 := H.krg 0 13 (by decide); rw [show F12 0 13 = y12_0_13 from ((eF12 0 13).trans ey12_0_13)] at h1; exact h1
      have r14 : (-2147483648 : Int) ≤ y12_0_15 ∧ y12_0_15 ≤ 2147483647 := by have h1 : (-2147483648 : Int) ≤ F12 0 15 ∧ F12 0 15 ≤ 2147483647 := H.krg 0 15 (by decide); rw [show F12 0 15 = y12_0_15 from ((eF12 0 15).trans ey12_0_15)] at h1; exact h1
      have hp1 := pz12_1
      have hts1 := pz12_4
      refine Ew_of (pc' := 36) (fun _ => x_istore_n rfl) ?_
      refine Ew_of (pc' := 37) (fun _ => x_aload_n rfl (rk_o (l23_0) rfl rfl)) ?_
      refine v_inv H (o := 0) rfl rfl rfl rfl rfl rfl (by rfl) (C101 (D := pul [0, 1] D) (N := pul [0, 1] N) (HW_sub H (VS_of (show vsub V100 V101 [0, 1] = true by decide +kernel))) (((((show F12 0 11 = F_23 0 11 from (eF12 0 11).trans (hS12 0 11 rfl))).trans (hS_23 0 11 rfl))).trans (pf1)) (n1) (en1) (y12_0_13) (((eF12 0 13).trans ey12_0_13)) (u0_14) (((((show F12 0 14 = F_23 0 14 from (eF12 0 14).trans (hS12 0 14 rfl))).trans (hS_23 0 14 rfl)).trans (eu0_14))) (y12_0_15) (((eF12 0 15).trans ey12_0_15)) (y23_0_16) ((((show F12 0 16 = F_23 0 16 from (eF12 0 16).trans (hS12 0 16 rfl))).trans (ey23_0_16))) (w23_1) (((show A12 1 = A_23 1 from (eA12 1).trans (funext (hA12 1 rfl)))).trans (ew23_1)) (show 0 ≤ ((y12_0_13)) ∧ ((y12_0_13)) ≤ ((u0_14)) ∧ ((u0_14)) ≤ ((y12_0_15)) ∧ ((y12_0_15)) ≤ ((y23_0_16)) ∧ ((y23_0_16)) ≤ 511 by omega) (show ((y12_0_13)) < ((u0_14)) ∨ ((y12_0_15)) < ((y23_0_16)) by omega) (show (n1) = 512 by omega) (fun z15 σ15 F15' A15' H' O' hS15 hA15 y15_0_13 ey15_0_13 y15_0_15 ey15_0_15 pz15_0 pz15_1 pz15_2 pz15_3 pz15_4 => ⟨rfl, ?_⟩))
      refine v_back (c := c) (s := s) H (show vsub V100 V101 [0, 1] = true by decide +kernel) H' O' (fun F15 A15 H O' eF15 eA15 => ?_)
      have O := OUT_trans O O'
      -- Codes.takeLeast
      have r16 : (-2147483648 : Int) ≤ y15_0_13 ∧ y15_0_13 ≤ 2147483647 := by have h1 : (-2147483648 : Int) ≤ F15 0 13 ∧ F15 0 13 ≤ 2147483647 := H.krg 0 13 (by decide); rw [show F15 0 13 = y15_0_13 from ((eF15 0 13).trans ey15_0_13)] at h1; exact h1
      have r17 : (-2147483648 : Int) ≤ y15_0_15 ∧ y15_0_15 ≤ 2147483647 := by have h1 : (-2147483648 : Int) ≤ F15 0 15 ∧ F15 0 15 ≤ 2147483647 := H.krg 0 15 (by decide); rw [show F15 0 15 = y15_0_15 from ((eF15 0 15).trans ey15_0_15)] at h1; exact h1
      have hp2 := pz15_1
      have hts2 := pz15_4
      refine Ew_of (pc' := 41) (fun _ => x_istore_n rfl) ?_
      have hst := TW_step (n2 := ((y23_0_16)) + 1) htw hp1 hp2 rfl rfl
      refine Ew_of (pc' := 42) (fun _ => x_aload_n rfl (rk_o (rk_o (l23_0) rfl rfl) rfl rfl)) ?_
      refine v_g H (o := 0) (v := .ref (D 3)) rfl rfl rfl rfl rfl (vrf ((((((show F15 0 12 = F12 0 12 from (eF15 0 12).trans (hS15 0 12 rfl))).trans ((show F12 0 12 = F_23 0 12 from (eF12 0 12).trans (hS12 0 12 rfl)))).trans (hS_23 0 12 rfl))).trans (pf3))) ?_
      refine Ew_of (pc' := 46) (fun _ => x_iload_n rfl (rk_o (rk_s) rfl rfl)) ?_
      refine Ew_of (pc' := 47) (fun _ => x_aload_n rfl (rk_o (rk_o (l23_0) rfl rfl) rfl rfl)) ?_
      refine v_g H (o := 0) (v := I (y23_0_16)) rfl rfl rfl rfl rfl (congrArg (fun z : Int => I z) (((((show F15 0 16 = F12 0 16 from (eF15 0 16).trans (hS15 0 16 rfl))).trans ((show F12 0 16 = F_23 0 16 from (eF12 0 16).trans (hS12 0 16 rfl)))).trans (ey23_0_16)) : F15 0 16 = y23_0_16)) ?_
      refine v_sI H (o := 3) (z := y23_0_16) rfl rfl rfl rfl (n := n3) (en3) (show 0 ≤ z12 ∧ z12 < n3 by omega) (show inr (y23_0_16) by omega) (fun σ H O' => ?_)
      have O := OUT_trans O O'
      refine Ew_of (pc' := 52) (fun _ => x_aload_n rfl (rk_o (rk_o (l23_0) rfl rfl) rfl rfl)) ?_
      refine v_g H (o := 0) (v := .ref (D 3)) rfl rfl rfl rfl rfl (vrf ((((((show F15 0 12 = F12 0 12 from (eF15 0 12).trans (hS15 0 12 rfl))).trans ((show F12 0 12 = F_23 0 12 from (eF12 0 12).trans (hS12 0 12 rfl)))).trans (hS_23 0 12 rfl))).trans (pf3))) ?_
      refine Ew_of (pc' := 56) (fun _ => x_iload_n rfl rk_s) ?_
      refine Ew_of (pc' := 57) (fun _ => x_aload_n rfl (rk_o (rk_o (l23_0) rfl rfl) rfl rfl)) ?_
      refine v_g H (o := 0) (v := I (y23_0_16)) rfl rfl rfl rfl rfl (congrArg (fun z : Int => I z) (((((show F15 0 16 = F12 0 16 from (eF15 0 16).trans (hS15 0 16 rfl))).trans ((show F12 0 16 = F_23 0 16 from (eF12 0 16).trans (hS12 0 16 rfl)))).trans (ey23_0_16)) : F15 0 16 = y23_0_16)) ?_
      refine v_sI H (o := 3) (z := y23_0_16) rfl rfl rfl rfl (n := n3) (en3) (show 0 ≤ z15 ∧ z15 < n3 by omega) (show inr (y23_0_16) by omega) (fun σ H O' => ?_)
      have O := OUT_trans O O'
      refine Ew_of (pc' := 62) (fun _ => x_aload_n rfl (rk_o (rk_o (l23_0) rfl rfl) rfl rfl)) ?_
      refine v_g H (o := 0) (v := .ref (D 1)) rfl rfl rfl rfl rfl (vrf ((((((show F15 0 11 = F12 0 11 from (eF15 0 11).trans (hS15 0 11 rfl))).trans ((show F12 0 11 = F_23 0 11 from (eF12 0 11).trans (hS12 0 11 rfl)))).trans (hS_23 0 11 rfl))).trans (pf1))) ?_
      refine Ew_of (pc' := 66) (fun _ => x_aload_n rfl (rk_o (rk_o (l23_0) rfl rfl) rfl rfl)) ?_
      refine v_g H (o := 0) (v := I (y23_0_16)) rfl rfl rfl rfl rfl (congrArg (fun z : Int => I z) (((((show F15 0 16 = F12 0 16 from (eF15 0 16).trans (hS15 0 16 rfl))).trans ((show F12 0 16 = F_23 0 16 from (eF12 0 16).trans (hS12 0 16 rfl)))).trans (ey23_0_16)) : F15 0 16 = y23_0_16)) ?_
      refine Ew_of (pc' := 70) (fun _ => x_aload_n rfl (rk_o (rk_o (l23_0) rfl rfl) rfl rfl)) ?_
      refine v_g H (o := 0) (v := .ref (D 1)) rfl rfl rfl rfl rfl (vrf ((((((show F15 0 11 = F12 0 11 from (eF15 0 11).trans (hS15 0 11 rfl))).trans ((show F12 0 11 = F_23 0 11 from (eF12 0 11).trans (hS12 0 11 rfl)))).trans (hS_23 0 11 rfl))).trans (pf1))) ?_
      refine Ew_of (pc' := 74) (fun _ => x_iload_n rfl (rk_o (rk_s) rfl rfl)) ?_
      refine v_lI H (o := 1) rfl rfl rfl rfl (n := n1) (en1) (show 0 ≤ z12 ∧ z12 < n1 by omega) (fun v18 ev18 qv18 => ?_)
      have ev18 : (w23_1) (z12) = v18 := (congrFun (((show A15 1 = A12 1 from (eA15 1).trans (funext (hA15 1 rfl)))).trans (((show A12 1 = A_23 1 from (eA12 1).trans (funext (hA12 1 rfl)))).trans (ew23_1))) (z12)).symm.trans ev18
      have hvo1 := ev18
      refine Ew_of (pc' := 76) (fun _ => x_aload_n rfl (rk_o (rk_o (l23_0) rfl rfl) rfl rfl)) ?_
      refine v_g H (o := 0) (v := .ref (D 1)) rfl rfl rfl rfl rfl (vrf ((((((show F15 0 11 = F12 0 11 from (eF15 0 11).trans (hS15 0 11 rfl))).trans ((show F12 0 11 = F_23 0 11 from (eF12 0 11).trans (hS12 0 11 rfl)))).trans (hS_23 0 11 rfl))).trans (pf1))) ?_
      refine Ew_of (pc' := 80) (fun _ => x_iload_n rfl rk_s) ?_
      refine v_lI H (o := 1) rfl rfl rfl rfl (n := n1) (en1) (show 0 ≤ z15 ∧ z15 < n1 by omega) (fun v19 ev19 qv19 => ?_)
      have ev19 : (w23_1) (z15) = v19 := (congrFun (((show A15 1 = A12 1 from (eA15 1).trans (funext (hA15 1 rfl)))).trans (((show A12 1 = A_23 1 from (eA12 1).trans (funext (hA12 1 rfl)))).trans (ew23_1))) (z15)).symm.trans ev19
      have hvo2 := ev19
      refine w_iadd rfl ?_
      refine v_sI H (o := 1) (z := (v18 + v19)) rfl rfl rfl rfl (n := n1) (en1) (show 0 ≤ y23_0_16 ∧ y23_0_16 < n1 by omega) (show inr ((v18 + v19)) by omega) (fun σ H O' => ?_)
      have O := OUT_trans O O'
      refine Ew_of (pc' := 84) (fun _ => x_aload_n rfl (rk_o (rk_o (l23_0) rfl rfl) rfl rfl)) ?_
      refine Ew_of (pc' := 85) (fun _ => x_dup rfl rfl) ?_
      refine v_g H (o := 0) (v := I (y23_0_16)) rfl rfl rfl rfl rfl (congrArg (fun z : Int => I z) (((((show F15 0 16 = F12 0 16 from (eF15 0 16).trans (hS15 0 16 rfl))).trans ((show F12 0 16 = F_23 0 16 from (eF12 0 16).trans (hS12 0 16 rfl)))).trans (ey23_0_16)) : F15 0 16 = y23_0_16)) ?_
      refine Ew_of (pc' := 89) (fun _ => x_iconst rfl) ?_
      refine w_iadd rfl ?_
      refine v_p H (o := 0) (z := (y23_0_16 + 1)) (v := I ((y23_0_16 + 1))) rfl rfl rfl rfl rfl rfl rfl rfl (show (-2147483648 : Int) ≤ (y23_0_16 + 1) ∧ (y23_0_16 + 1) ≤ 2147483647 by omega) (fun σ H O' => ?_)
      have O := OUT_trans O O'
      refine Ew_of (pc' := 96) (fun _ => x_iinc (len := 3) rfl (rk_o (rk_o (l23_1) rfl rfl) rfl rfl)) ?_
      refine Ew_of (pc' := 23) (fun _ => x_goto rfl rfl) ?_
      have hcl1 : CLS hC ((upd1 (w23_1) (y23_0_16) ((v18 + v19)))) ((upd1 (upd1 (w23_3) (z12) (y23_0_16)) (z15) (y23_0_16))) ((w2)) ((u0_14)) ((y15_0_13)) ((y15_0_15)) (((y23_0_16 + 1))) := CLS_s j23_c (TW_srt htw) hts1 hts2 rfl (by rw [hvo1, hvo2])
      have ht1 : TW ((upd1 (w23_1) (y23_0_16) ((v18 + v19)))) ((upd1 (upd1 (w23_3) (z12) (y23_0_16)) (z15) (y23_0_16))) ((u0_14)) ((y15_0_13)) ((y15_0_15)) (((y23_0_16 + 1))) (SA2 ((w1)) 0 ((u0_14))) := (TW_step htw hp1 hp2 rfl (by omega)).2.2.2.2.2.2.2
      have hrr := TW_rng ht1
      exact ih23 _ (by omega) _ _ _ _ ((x23_1 + 1)) (rk_o (rk_o (rk_o (l23_0) rfl rfl) rfl rfl) rfl rfl) (rk_s) H O (SF_upd (SF_trans (SF_trans (hS_23) (SF_glu (ι := [0, 1]) hS12 eF12 (by decide +kernel)) (any_sub (l' := [(0, 13), (0, 15)]) rfl)) (SF_glu (ι := [0, 1]) hS15 eF15 (by decide +kernel)) (any_sub (l' := [(0, 13), (0, 15)]) rfl)) rfl) (SA_upd (SA_upd (SA_upd (SA_trans (SA_trans (hA_23) (SA_glu (ι := [0, 1]) hA12 eA12 (by decide +kernel)) (any_subA (l' := []) rfl)) (SA_glu (ι := [0, 1]) hA15 eA15 (by decide +kernel)) (any_subA (l' := []) rfl)) rfl) rfl) rfl)   (y15_0_13) (((eF15 0 13).trans ey15_0_13)) (y15_0_15) (((eF15 0 15).trans ey15_0_15)) ((y23_0_16 + 1)) (rfl) (upd1 (w23_1) (y23_0_16) ((v18 + v19))) (congrArg (fun q => upd1 q (y23_0_16) ((v18 + v19))) (((show A15 1 = A12 1 from (eA15 1).trans (funext (hA15 1 rfl)))).trans (((show A12 1 = A_23 1 from (eA12 1).trans (funext (hA12 1 rfl)))).trans (ew23_1)))) (upd1 (upd1 (w23_3) (z12) (y23_0_16)) (z15) (y23_0_16)) (congrArg (fun q => upd1 q (z15) (y23_0_16)) (congrArg (fun q => upd1 q (z12) (y23_0_16)) (((show A15 3 = A12 3 from (eA15 3))).trans (((show A12 3 = A_23 3 from (eA12 3))).trans (ew23_3))))) (show inr ((x23_1 + 1)) by omega) (show (1) ≤ ((x23_1 + 1)) by omega) (show ((x23_1 + 1)) ≤ (1) ∨ ((x23_1 + 1)) ≤ ((u0_14)) by omega) (show CLS hC ((upd1 (w23_1) (y23_0_16) ((v18 + v19)))) ((upd1 (upd1 (w23_3) (z12) (y23_0_16)) (z15) (y23_0_16))) ((w2)) ((u0_14)) ((y15_0_13)) ((y15_0_15)) (((y23_0_16 + 1))) by assumption) (show (((y23_0_16 + 1))) = ((u0_14)) + ((x23_1 + 1)) - 1 by omega) (show TW ((upd1 (w23_1) (y23_0_16) ((v18 + v19)))) ((upd1 (upd1 (w23_3) (z12) (y23_0_16)) (z15) (y23_0_16))) ((u0_14)) ((y15_0_13)) ((y15_0_15)) (((y23_0_16 + 1))) (SA2 ((w1)) 0 ((u0_14))) by assumption) (show 0 ≤ ((y15_0_13)) ∧ ((y15_0_13)) ≤ ((u0_14)) ∧ ((u0_14)) ≤ ((y15_0_15)) ∧ ((y15_0_15)) ≤ (((y23_0_16 + 1))) ∧ (((u0_14)) - ((y15_0_13))) + ((((y23_0_16 + 1))) - ((y15_0_15))) + ((((y23_0_16 + 1))) - ((u0_14))) = ((u0_14)) by omega) rfl
abbrev V102 : vV := [(0, 3, [(4, 0), (4, 0), (4, 0), (0, 0), (4, 0), (4, 0), (4, 0), (4, 0), (4, 0), (4, 0), (4, 0), (4, 0), (4, 0), (0, 0), (0, 0), (0, 0), (0, 0)]), (1, 1, []), (1, 1, []), (1, 1, []), (1, 1, [])]
/-- Codes.findLengths: this, this.parents, this.order, this.amounts, this.lengths -/
theorem C102 {σE : rS} {D N : Nat → Nat} {F : hF} {A : hA} {d c s : Nat} {Q : wQ} (H : HW V102 σE D N F A)  (pf1 : F 0 12 = (D 1 : Int)) (pf2 : F 0 10 = (D 2 : Int)) (pf3 : F 0 11 = (D 3 : Int)) (pf4 : F 0 0 = (D 4 : Int)) (n1 : Int) (en1 : (N 1 : Int) = n1) (n2 : Int) (en2 : (N 2 : Int) = n2) (n3 : Int) (en3 : (N 3 : Int) = n3) (n4 : Int) (en4 : (N 4 : Int) = n4) (u0_3 : Int) (eu0_3 : F 0 3 = u0_3) (u0_13 : Int) (eu0_13 : F 0 13 = u0_13) (u0_14 : Int) (eu0_14 : F 0 14 = u0_14) (u0_15 : Int) (eu0_15 : F 0 15 = u0_15) (u0_16 : Int) (eu0_16 : F 0 16 = u0_16) (w1 : Int → Int) (ew1 : A 1 = w1) (w2 : Int → Int) (ew2 : A 2 = w2) (w3 : Int → Int) (ew3 : A 3 = w3) (w4 : Int → Int) (ew4 : A 4 = w4) (tot : Int) (hC : Int → Int) (h0 : FLP hC ((w1)) ((w2)) ((u0_14)) ((u0_16))) (h1 : (n3) = 512 ∧ (n1) = 512 ∧ (n2) = 256 ∧ (n4) = 256) (h2 : 2 ≤ ((u0_14)) ∧ ((u0_14)) ≤ 256) (h3 : ((u0_16)) = 2 * ((u0_14)) - 1) (h4 : TW ((w3)) ((w1)) ((u0_14)) ((u0_13)) ((u0_15)) ((u0_16)) tot) (h5 : ORD ((w2)) ((u0_14))) (h6 : tot ≤ 16777216) (k : ∀ (σ : rS) (F' : hF) (A' : hA), HW V102 σ D N F' A' → OUT (V102).length D N σE c s D N σ c s → SF [(0, 3)] F F' → SA [3, 4] A A' → ∀ y0_3 : Int, F' 0 3 = y0_3 → ∀ v4 : Int → Int, A' 4 = v4 → (LGT ((y0_3)) tot) → (LNG ((v4)) ((y0_3))) → (0 ≤ (y0_3)) → (∀ s, 0 ≤ s → s < 256 → ((v4)) s = dpH hC s) → ((y0_3) = mxF hC) → Q none σ c s) : Ew 102 (d + 1) 0 (rargs 0 [.ref (D 0)]) [] σE c s Q := by
  have O := OUT_refl (n := (V102).length) (D := D) (N := N) (σ := σE) (c := c) (s := s)
  have HE := H
  have r1 : (-2147483648 : Int) ≤ u0_3 ∧ u0_3 ≤ 2147483647 := by have h1 : (-2147483648 : Int) ≤ F 0 3 ∧ F 0 3 ≤ 2147483647 := H.krg 0 3 (by decide); rw [show F 0 3 = u0_3 from (eu0_3)] at h1; exact h1
  have r2 : (-2147483648 : Int) ≤ u0_13 ∧ u0_13 ≤ 2147483647 := by have h1 : (-2147483648 : Int) ≤ F 0 13 ∧ F 0 13 ≤ 2147483647 := H.krg 0 13 (by decide); rw [show F 0 13 = u0_13 from (eu0_13)] at h1; exact h1
  have r3 : (-2147483648 : Int) ≤ u0_14 ∧ u0_14 ≤ 2147483647 := by have h1 : (-2147483648 : Int) ≤ F 0 14 ∧ F 0 14 ≤ 2147483647 := H.krg 0 14 (by decide); rw [show F 0 14 = u0_14 from (eu0_14)] at h1; exact h1
  have r4 : (-2147483648 : Int) ≤ u0_15 ∧ u0_15 ≤ 2147483647 := by have h1 : (-2147483648 : Int) ≤ F 0 15 ∧ F 0 15 ≤ 2147483647 := H.krg 0 15 (by decide); rw [show F 0 15 = u0_15 from (eu0_15)] at h1; exact h1
  have r5 : (-2147483648 : Int) ≤ u0_16 ∧ u0_16 ≤ 2147483647 := by have h1 : (-2147483648 : Int) ≤ F 0 16 ∧ F 0 16 ≤ 2147483647 := H.krg 0 16 (by decide); rw [show F 0 16 = u0_16 from (eu0_16)] at h1; exact h1
  have r6 : (0 : Int) ≤ n1 ∧ n1 ≤ 1000000 := by have h1 := H.nle 1 (by decide); have h2 : (N 1 : Int) = n1 := en1; omega
  have r7 : (0 : Int) ≤ n2 ∧ n2 ≤ 1000000 := by have h1 := H.nle 2 (by decide); have h2 : (N 2 : Int) = n2 := en2; omega
  have r8 : (0 : Int) ≤ n3 ∧ n3 ≤ 1000000 := by have h1 := H.nle 3 (by decide); have h2 : (N 3 : Int) = n3 := en3; omega
  have r9 : (0 : Int) ≤ n4 ∧ n4 ≤ 1000000 := by have h1 := H.nle 4 (by decide); have h2 : (N 4 : Int) = n4 := en4; omega
  obtain ⟨kc_, ic_, hHT, hFX⟩ := (show FLP hC ((w1)) ((w2)) ((u0_14)) ((u0_16)) by assumption)
  have htw : TW ((w3)) ((w1)) ((u0_14)) ((u0_13)) ((u0_15)) ((u0_16)) tot := by assumption
  have hord : ORD ((w2)) ((u0_14)) := by assumption
  refine Ew_of (pc' := 1) (fun _ => x_aload_n rfl rfl) ?_
  refine v_g H (o := 0) (v := .ref (D 4)) rfl rfl rfl rfl rfl (vrf (pf4)) ?_
  refine Ew_of (pc' := 5) (fun _ => x_iconst rfl) ?_
  refine v_fil H (t := 4) (v := 0) rfl rfl rfl rfl rfl (show inr (0) by omega) (fun σ A10 H O' hA10 ga10 => ?_)
  have O := OUT_trans O O'
  refine Ew_of (pc' := 9) (fun _ => x_aload_n rfl rfl) ?_
  refine Ew_of (pc' := 10) (fun _ => x_iconst rfl) ?_
  refine v_p H (o := 0) (z := 0) (v := I (0)) rfl rfl rfl rfl rfl rfl rfl rfl (show (-2147483648 : Int) ≤ 0 ∧ 0 ≤ 2147483647 by omega) (fun σ H O' => ?_)
  have O := OUT_trans O O'
  refine Ew_of (pc' := 14) (fun _ => x_aload_n rfl rfl) ?_
  refine v_g H (o := 0) (v := .ref (D 3)) rfl rfl rfl rfl rfl (vrf (pf3)) ?_
  refine Ew_of (pc' := 18) (fun _ => x_aload_n rfl rfl) ?_
  refine v_g H (o := 0) (v := I (u0_16)) rfl rfl rfl rfl rfl (congrArg (fun z : Int => I z) ((eu0_16) : (updF F 0 3 (0)) 0 16 = u0_16)) ?_
  refine Ew_of (pc' := 22) (fun _ => x_iconst rfl) ?_
  refine w_isub rfl ?_
  refine Ew_of (pc' := 24) (fun _ => x_iconst rfl) ?_
  refine v_sI H (o := 3) (z := 0) rfl rfl rfl rfl (n := n3) (en3) (show 0 ≤ (u0_16 - 1) ∧ (u0_16 - 1) < n3 by omega) (show inr (0) by omega) (fun σ H O' => ?_)
  have O := OUT_trans O O'
  refine Ew_of (pc' := 26) (fun _ => x_aload_n rfl rfl) ?_
  refine v_g H (o := 0) (v := I (u0_16)) rfl rfl rfl rfl rfl (congrArg (fun z : Int => I z) ((eu0_16) : (updF F 0 3 (0)) 0 16 = u0_16)) ?_
  refine Ew_of (pc' := 30) (fun _ => x_iconst rfl) ?_
  refine w_isub rfl ?_
  refine Ew_of (pc' := 32) (fun _ => x_istore_n rfl) ?_
  have hdl0 : DLX ic_ ((upd1 (w3) ((u0_16 - 1)) (0))) ((w2)) ((u0_14)) ((u0_16)) (((u0_16 - 2))) := DLX_0 hFX (by omega) (by omega) (by rw [upd1_s])
  have hlg0 : LGX ic_ ((A10 4)) ((w2)) ((u0_14)) (((u0_16 - 2))) := LGX_0 (fun s => ga10 s) (by omega)
  have hgt0 : GTX ((A10 4)) 0 := GTX_0 (fun s => ga10 s)
  have hf0 : FLQ ((upd1 (w3) ((u0_16 - 1)) (0))) ((w1)) (((u0_16 - 2))) ((u0_16)) tot := FLQ_0 htw (by omega) (by omega)
  have hl0 : LNG ((A10 4)) 0 := fun s a b => by rw [ga10 s]; omega
  have hg0 : LGT 0 tot := LGT_0 (FLQ_1 hf0)
  suffices hl32 : ∀ (m : Nat), ∀ (ls : rO) (σ : rS) (F_32 : hF) (A_32 : hA) (x32_1 : Int), rlook ls 0 = some (.ref (D 0)) → rlook ls 1 = some (I (x32_1)) → HW V102 σ D N F_32 A_32 → OUT (V102).length D N σE c s D N σ c s → SF [(0, 3)] (updF F 0 3 (0)) F_32 → SA [3, 4] (updA A10 3 ((u0_16 - 1)) (0)) A_32 → ∀ y32_0_3 : Int, F_32 0 3 = y32_0_3 → ∀ w32_3 : Int → Int, A_32 3 = w32_3 → ∀ w32_4 : Int → Int, A_32 4 = w32_4 → (inr (x32_1)) → ((x32_1) ≤ ((u0_16 - 2))) → (((u0_16 - 2)) ≤ (x32_1) ∨ ((-1)) ≤ (x32_1)) → (DLX ic_ ((w32_3)) ((w2)) ((u0_14)) ((u0_16)) ((x32_1))) → (LGX ic_ ((w32_4)) ((w2)) ((u0_14)) ((x32_1))) → (GTX ((w32_4)) ((y32_0_3))) → (FLQ ((w32_3)) ((w1)) (x32_1) ((u0_16)) tot) → (LNG ((w32_4)) ((y32_0_3))) → (LGT ((y32_0_3)) tot) → (0 ≤ ((y32_0_3))) → ((x32_1) - ((-1))).toNat = m → Ew 102 (d + 1) 32 ls [] σ c s Q from
    hl32 _ _ _ _ _ ((u0_16 - 2)) (rk_o (rfl) rfl rfl) (rk_s) H O (SF_refl) (SA_refl)   (0) (rfl) (upd1 (w3) ((u0_16 - 1)) (0)) (congrArg (fun q => upd1 q ((u0_16 - 1)) (0)) ((funext (hA10 3 rfl)).trans (ew3))) (A10 4) (rfl) (show inr ((u0_16 - 2)) by omega) (show ((u0_16 - 2)) ≤ ((u0_16 - 2)) by omega) (show ((u0_16 - 2)) ≤ ((u0_16 - 2)) ∨ ((-1)) ≤ ((u0_16 - 2)) by omega) (show DLX ic_ ((upd1 (w3) ((u0_16 - 1)) (0))) ((w2)) ((u0_14)) ((u0_16)) (((u0_16 - 2))) by assumption) (show LGX ic_ ((A10 4)) ((w2)) ((u0_14)) (((u0_16 - 2))) by assumption) (show GTX ((A10 4)) ((0)) by assumption) (show FLQ ((upd1 (w3) ((u0_16 - 1)) (0))) ((w1)) ((u0_16 - 2)) ((u0_16)) tot by assumption) (show LNG ((A10 4)) ((0)) by assumption) (show LGT ((0)) tot by assumption) (show 0 ≤ ((0)) by omega) rfl
  as_aux_lemma =>
  intro m
  induction m using Nat.strongRecOn with
  | _ m ih32 =>
    intro ls σ F_32 A_32 x32_1 l32_0 l32_1 H O hS_32 hA_32   y32_0_3 ey32_0_3 w32_3 ew32_3 w32_4 ew32_4 j32_0 j32_1 j32_2 j32_3 j32_4 j32_5 j32_6 j32_7 j32_8 j32_9 hm32
    have r11 : (-2147483648 : Int) ≤ y32_0_3 ∧ y32_0_3 ≤ 2147483647 := by have h1 : (-2147483648 : Int) ≤ F_32 0 3 ∧ F_32 0 3 ≤ 2147483647 := H.krg 0 3 (by decide); rw [show F_32 0 3 = y32_0_3 from (ey32_0_3)] at h1; exact h1
    have j32_d : DLX ic_ ((w32_3)) ((w2)) ((u0_14)) ((u0_16)) ((x32_1)) := by assumption
    have j32_l : LGX ic_ ((w32_4)) ((w2)) ((u0_14)) ((x32_1)) := by assumption
    have j32_g : GTX ((w32_4)) ((y32_0_3)) := by assumption
    have hflq : FLQ ((w32_3)) ((w1)) (x32_1) ((u0_16)) tot := by assumption
    have hgo : LGT ((y32_0_3)) tot := by assumption
    refine Ew_of (pc' := 33) (fun _ => x_iload_n rfl l32_1) ?_
    refine w_iflt (t := 103) rfl rfl (show inr (x32_1) by omega) (fun b12 => ?_) (fun b12 => ?_)
    · have hfin := FLX_e hHT hFX (by omega) j32_l (by omega) j32_g
      have hfin1 := hfin.1
      have hfin2 := hfin.2
      exact w_ret rfl (k _ _ _ H O (SF_trans (SF_upd (SF_refl) rfl) hS_32 (any_sub rfl)) (SA_trans (SA_upd (SA_trans (SA_refl) hA10 (any_subA rfl)) rfl) hA_32 (any_subA rfl)) (y32_0_3) ((ey32_0_3)) (w32_4) (ew32_4) (show LGT ((y32_0_3)) tot by assumption) (show LNG ((w32_4)) ((y32_0_3)) by assumption) (show 0 ≤ (y32_0_3) by omega) (show ∀ s, 0 ≤ s → s < 256 → ((w32_4)) s = dpH hC s by assumption) (show (y32_0_3) = mxF hC by assumption))
    · refine Ew_of (pc' := 37) (fun _ => x_aload_n rfl l32_0) ?_
      refine v_g H (o := 0) (v := .ref (D 3)) rfl rfl rfl rfl rfl (vrf (((hS_32 0 11 rfl)).trans (pf3))) ?_
      refine Ew_of (pc' := 41) (fun _ => x_iload_n rfl l32_1) ?_
      refine Ew_of (pc' := 42) (fun _ => x_aload_n rfl l32_0) ?_
      refine v_g H (o := 0) (v := .ref (D 3)) rfl rfl rfl rfl rfl (vrf (((hS_32 0 11 rfl)).trans (pf3))) ?_
      refine Ew_of (pc' := 46) (fun _ => x_aload_n rfl l32_0) ?_
      refine v_g H (o := 0) (v := .ref (D 1)) rfl rfl rfl rfl rfl (vrf (((hS_32 0 12 rfl)).trans (pf1))) ?_
      refine Ew_of (pc' := 50) (fun _ => x_iload_n rfl l32_1) ?_
      refine v_lI H (o := 1) rfl rfl rfl rfl (n := n1) (en1) (show 0 ≤ x32_1 ∧ x32_1 < n1 by omega) (fun v13 ev13 qv13 => ?_)
      have ev13 : (w1) (x32_1) = v13 := (congrFun ((funext (hA_32 1 rfl)).trans ((funext (hA10 1 rfl)).trans (ew1))) (x32_1)).symm.trans ev13
      have hpa := FLQ_pa hflq (by omega) (by omega)
      have hpav := ev13
      rw [hpav] at hpa
      refine v_lI H (o := 3) rfl rfl rfl rfl (n := n3) (en3) (show 0 ≤ v13 ∧ v13 < n3 by omega) (fun v14 ev14 qv14 => ?_)
      have ev14 : (w32_3) (v13) = v14 := (congrFun (ew32_3) (v13)).symm.trans ev14
      have hch : ((w32_3)) (((w1)) (x32_1)) = (v14) := by rw [hpav]; exact ev14
      have hamv := ev14
      rw [hamv] at hpa
      refine Ew_of (pc' := 53) (fun _ => x_iconst rfl) ?_
      refine w_iadd rfl ?_
      have hDs := DLX_s (v := ((v14 + 1))) (j := (x32_1) - 1) hFX (by omega) j32_d (by omega) (by omega) (by rw [hch]) rfl
      have hdv := hDs.2
      have hfs := (FLQ_s (v := ((v14 + 1))) (i2 := (x32_1) - 1) hflq (by omega) (by omega) rfl (by omega)).2
      have hlw := LGT_le hfs.1
      refine v_sI H (o := 3) (z := (v14 + 1)) rfl rfl rfl rfl (n := n3) (en3) (show 0 ≤ x32_1 ∧ x32_1 < n3 by omega) (show inr ((v14 + 1)) by omega) (fun σ H O' => ?_)
      have O := OUT_trans O O'
      refine Ew_of (pc' := 56) (fun _ => x_iload_n rfl l32_1) ?_
      refine Ew_of (pc' := 57) (fun _ => x_aload_n rfl l32_0) ?_
      refine v_g H (o := 0) (v := I (u0_14)) rfl rfl rfl rfl rfl (congrArg (fun z : Int => I z) (((hS_32 0 14 rfl).trans (eu0_14)) : F_32 0 14 = u0_14)) ?_
      refine w_icmpge (t := 97) rfl rfl (show inr (x32_1) by omega) (show inr (u0_14) by omega) (fun b15 => ?_) (fun b15 => ?_)
      · refine Ew_of (pc' := 100) (fun _ => x_iinc (len := 3) rfl (l32_1)) ?_
        refine Ew_of (pc' := 32) (fun _ => x_goto rfl rfl) ?_
        have hdl1 : DLX ic_ ((upd1 (w32_3) (x32_1) ((v14 + 1)))) ((w2)) ((u0_14)) ((u0_16)) (((x32_1 + (-1)))) := hDs.1
        have hlg1 : LGX ic_ ((w32_4)) ((w2)) ((u0_14)) (((x32_1 + (-1)))) := by first | exact LGX_n j32_l (by omega) rfl | (rw [← horv]; exact LGX_s hFX j32_l (by omega) (by omega) (by rw [← hvl]; exact hdv) rfl)
        have hgt1 : GTX ((w32_4)) ((y32_0_3)) := by first | exact j32_g | exact GTX_s j32_g (by omega) (by rw [← horv]; exact LGX_z hFX j32_l (by omega) (by omega)) (by omega) (by omega)
        have hf1 : FLQ ((upd1 (w32_3) (x32_1) ((v14 + 1)))) ((w1)) ((x32_1 + (-1))) ((u0_16)) tot := (FLQ_s hflq (by omega) (by omega) (by omega) (by omega)).1
        have hl1 : LNG ((w32_4)) ((y32_0_3)) := by first | exact LNG_upd (by assumption) (by omega) (by omega) | assumption
        have hg1 : LGT ((y32_0_3)) tot := by first | assumption | exact LGT_max hgo hlv (by omega)
        exact ih32 _ (by omega) _ _ _ _ ((x32_1 + (-1))) (rk_o (l32_0) rfl rfl) (rk_s) H O (hS_32) (SA_upd (hA_32) rfl)   (y32_0_3) ((ey32_0_3)) (upd1 (w32_3) (x32_1) ((v14 + 1))) (congrArg (fun q => upd1 q (x32_1) ((v14 + 1))) (ew32_3)) (w32_4) (ew32_4) (show inr ((x32_1 + (-1))) by omega) (show ((x32_1 + (-1))) ≤ ((u0_16 - 2)) by omega) (show ((u0_16 - 2)) ≤ ((x32_1 + (-1))) ∨ ((-1)) ≤ ((x32_1 + (-1))) by omega) (show DLX ic_ ((upd1 (w32_3) (x32_1) ((v14 + 1)))) ((w2)) ((u0_14)) ((u0_16)) (((x32_1 + (-1)))) by assumption) (show LGX ic_ ((w32_4)) ((w2)) ((u0_14)) (((x32_1 + (-1)))) by assumption) (show GTX ((w32_4)) ((y32_0_3)) by assumption) (show FLQ ((upd1 (w32_3) (x32_1) ((v14 + 1)))) ((w1)) ((x32_1 + (-1))) ((u0_16)) tot by assumption) (show LNG ((w32_4)) ((y32_0_3)) by assumption) (show LGT ((y32_0_3)) tot by assumption) (show 0 ≤ ((y32_0_3)) by omega) rfl
      · refine Ew_of (pc' := 64) (fun _ => x_aload_n rfl l32_0) ?_
        refine v_g H (o := 0) (v := .ref (D 4)) rfl rfl rfl rfl rfl (vrf (((hS_32 0 0 rfl)).trans (pf4))) ?_
        refine Ew_of (pc' := 68) (fun _ => x_aload_n rfl l32_0) ?_
        refine v_g H (o := 0) (v := .ref (D 2)) rfl rfl rfl rfl rfl (vrf (((hS_32 0 10 rfl)).trans (pf2))) ?_
        refine Ew_of (pc' := 72) (fun _ => x_iload_n rfl l32_1) ?_
        refine v_lI H (o := 2) rfl rfl rfl rfl (n := n2) (en2) (show 0 ≤ x32_1 ∧ x32_1 < n2 by omega) (fun v16 ev16 qv16 => ?_)
        have ev16 : (w2) (x32_1) = v16 := (congrFun ((funext (hA_32 2 rfl)).trans ((funext (hA10 2 rfl)).trans (ew2))) (x32_1)).symm.trans ev16
        have horv := ev16
        have hor := hord ((x32_1)) (by omega) (by omega)
        rw [ev16] at hor
        refine Ew_of (pc' := 74) (fun _ => x_aload_n rfl l32_0) ?_
        refine v_g H (o := 0) (v := .ref (D 3)) rfl rfl rfl rfl rfl (vrf (((hS_32 0 11 rfl)).trans (pf3))) ?_
        refine Ew_of (pc' := 78) (fun _ => x_iload_n rfl l32_1) ?_
        refine v_lI H (o := 3) rfl rfl rfl rfl (n := n3) (en3) (show 0 ≤ x32_1 ∧ x32_1 < n3 by omega) (fun v17 ev17 qv17 => ?_)
        have ev17 : (upd1 (w32_3) (x32_1) ((v14 + 1))) (x32_1) = v17 := (congrFun (congrArg (fun q => upd1 q (x32_1) ((v14 + 1))) (ew32_3)) (x32_1)).symm.trans ev17
        have hvl := ev17
        rw [upd1_s] at hvl
        refine v_sI H (o := 4) (z := v17) rfl rfl rfl rfl (n := n4) (en4) (show 0 ≤ v16 ∧ v16 < n4 by omega) (show inr (v17) by omega) (fun σ H O' => ?_)
        have O := OUT_trans O O'
        refine Ew_of (pc' := 81) (fun _ => x_aload_n rfl l32_0) ?_
        refine Ew_of (pc' := 82) (fun _ => x_aload_n rfl l32_0) ?_
        refine v_g H (o := 0) (v := I (y32_0_3)) rfl rfl rfl rfl rfl (congrArg (fun z : Int => I z) ((ey32_0_3) : F_32 0 3 = y32_0_3)) ?_
        refine Ew_of (pc' := 86) (fun _ => x_aload_n rfl l32_0) ?_
        refine v_g H (o := 0) (v := .ref (D 3)) rfl rfl rfl rfl rfl (vrf (((hS_32 0 11 rfl)).trans (pf3))) ?_
        refine Ew_of (pc' := 90) (fun _ => x_iload_n rfl l32_1) ?_
        refine v_lI H (o := 3) rfl rfl rfl rfl (n := n3) (en3) (show 0 ≤ x32_1 ∧ x32_1 < n3 by omega) (fun v18 ev18 qv18 => ?_)
        have ev18 : (upd1 (w32_3) (x32_1) ((v14 + 1))) (x32_1) = v18 := (congrFun (congrArg (fun q => upd1 q (x32_1) ((v14 + 1))) (ew32_3)) (x32_1)).symm.trans ev18
        have hvm := ev18
        rw [upd1_s] at hvm
        have hlv : LGT ((v18)) tot := by rw [← hvm]; exact hfs.1
        refine v_max rfl rfl (show inr (y32_0_3) by omega) (show inr (v18) by omega) (fun z19 gz19 => ?_)
        refine v_p H (o := 0) (z := z19) (v := I (z19)) rfl rfl rfl rfl rfl rfl rfl rfl (show (-2147483648 : Int) ≤ z19 ∧ z19 ≤ 2147483647 by omega) (fun σ H O' => ?_)
        have O := OUT_trans O O'
        refine Ew_of (pc' := 100) (fun _ => x_iinc (len := 3) rfl (l32_1)) ?_
        refine Ew_of (pc' := 32) (fun _ => x_goto rfl rfl) ?_
        have hdl1 : DLX ic_ ((upd1 (w32_3) (x32_1) ((v14 + 1)))) ((w2)) ((u0_14)) ((u0_16)) (((x32_1 + (-1)))) := hDs.1
        have hlg1 : LGX ic_ ((upd1 (w32_4) (v16) (v17))) ((w2)) ((u0_14)) (((x32_1 + (-1)))) := by first | exact LGX_n j32_l (by omega) rfl | (rw [← horv]; exact LGX_s hFX j32_l (by omega) (by omega) (by rw [← hvl]; exact hdv) rfl)
        have hgt1 : GTX ((upd1 (w32_4) (v16) (v17))) ((z19)) := by first | exact j32_g | exact GTX_s j32_g (by omega) (by rw [← horv]; exact LGX_z hFX j32_l (by omega) (by omega)) (by omega) (by omega)
        have hf1 : FLQ ((upd1 (w32_3) (x32_1) ((v14 + 1)))) ((w1)) ((x32_1 + (-1))) ((u0_16)) tot := (FLQ_s hflq (by omega) (by omega) (by omega) (by omega)).1
        have hl1 : LNG ((upd1 (w32_4) (v16) (v17))) ((z19)) := by first | exact LNG_upd (by assumption) (by omega) (by omega) | assumption
        have hg1 : LGT ((z19)) tot := by first | assumption | exact LGT_max hgo hlv (by omega)
        exact ih32 _ (by omega) _ _ _ _ ((x32_1 + (-1))) (rk_o (l32_0) rfl rfl) (rk_s) H O (SF_upd (hS_32) rfl) (SA_upd (SA_upd (hA_32) rfl) rfl)   (z19) (rfl) (upd1 (w32_3) (x32_1) ((v14 + 1))) (congrArg (fun q => upd1 q (x32_1) ((v14 + 1))) (ew32_3)) (upd1 (w32_4) (v16) (v17)) (congrArg (fun q => upd1 q (v16) (v17)) (ew32_4)) (show inr ((x32_1 + (-1))) by omega) (show ((x32_1 + (-1))) ≤ ((u0_16 - 2)) by omega) (show ((u0_16 - 2)) ≤ ((x32_1 + (-1))) ∨ ((-1)) ≤ ((x32_1 + (-1))) by omega) (show DLX ic_ ((upd1 (w32_3) (x32_1) ((v14 + 1)))) ((w2)) ((u0_14)) ((u0_16)) (((x32_1 + (-1)))) by assumption) (show LGX ic_ ((upd1 (w32_4) (v16) (v17))) ((w2)) ((u0_14)) (((x32_1 + (-1)))) by assumption) (show GTX ((upd1 (w32_4) (v16) (v17))) ((z19)) by assumption) (show FLQ ((upd1 (w32_3) (x32_1) ((v14 + 1)))) ((w1)) ((x32_1 + (-1))) ((u0_16)) tot by assumption) (show LNG ((upd1 (w32_4) (v16) (v17))) ((z19)) by assumption) (show LGT ((z19)) tot by assumption) (show 0 ≤ ((z19)) by omega) rfl
abbrev V97_Ir : vV := [(0, 3, [(4, 0), (4, 0), (4, 0), (0, 0), (4, 0), (4, 0), (4, 0), (4, 0), (4, 0), (4, 0), (4, 0), (4, 0), (4, 0), (0, 0), (0, 0), (0, 0), (0, 0)]), (1, 1, []), (1, 1, []), (1, 1, []), (1, 1, []), (1, 1, [])]
/-- Codes.becomeByCounts: this, #1, this.amounts, this.parents, this.order, this.lengths -/
theorem C97_Ir {σE : rS} {D N : Nat → Nat} {F : hF} {A : hA} {d c s : Nat} {Q : wQ} (H : HW V97_Ir σE D N F A)  (pf2 : F 0 11 = (D 2 : Int)) (pf3 : F 0 12 = (D 3 : Int)) (pf4 : F 0 10 = (D 4 : Int)) (pf5 : F 0 0 = (D 5 : Int)) (n1 : Int) (en1 : (N 1 : Int) = n1) (n2 : Int) (en2 : (N 2 : Int) = n2) (n3 : Int) (en3 : (N 3 : Int) = n3) (n4 : Int) (en4 : (N 4 : Int) = n4) (n5 : Int) (en5 : (N 5 : Int) = n5) (u0_3 : Int) (eu0_3 : F 0 3 = u0_3) (w1 : Int → Int) (ew1 : A 1 = w1) (w5 : Int → Int) (ew5 : A 5 = w5) (h0 : (n2) = 512 ∧ (n3) = 512 ∧ (n4) = 256 ∧ (n5) = 256 ∧ (n1) = 256) (h1 : CTS ((w1))) (h2 : 2 ≤ su (fun i => pos1 (((w1)) i)) 256) (k : ∀ (σ : rS) (F' : hF) (A' : hA), HW V97_Ir σ D N F' A' → OUT (V97_Ir).length D N σE c s D N σ c s → SF [(0, 3), (0, 13), (0, 14), (0, 15), (0, 16)] F F' → SA [2, 3, 4, 5] A A' → ∀ y0_3 : Int, F' 0 3 = y0_3 → ∀ v5 : Int → Int, A' 5 = v5 → (0 ≤ (y0_3) ∧ (y0_3) ≤ 11) → (LNG ((v5)) ((y0_3))) → (∀ s, 0 ≤ s → s < 256 → ((v5)) s = dpH (hvF ((w1)) (LBT ((w1)))) s) → ((y0_3) = mxF (hvF ((w1)) (LBT ((w1))))) → Q none σ c s) : Ew 97 (d + 2) 0 (rargs 0 [.ref (D 0), .ref (D 1)]) [] σE c s Q := by
  have O := OUT_refl (n := (V97_Ir).length) (D := D) (N := N) (σ := σE) (c := c) (s := s)
  have HE := H
  have r1 : (-2147483648 : Int) ≤ u0_3 ∧ u0_3 ≤ 2147483647 := by have h1 : (-2147483648 : Int) ≤ F 0 3 ∧ F 0 3 ≤ 2147483647 := H.krg 0 3 (by decide); rw [show F 0 3 = u0_3 from (eu0_3)] at h1; exact h1
  have r2 : (0 : Int) ≤ n1 ∧ n1 ≤ 1000000 := by have h1 := H.nle 1 (by decide); have h2 : (N 1 : Int) = n1 := en1; omega
  have r3 : (0 : Int) ≤ n2 ∧ n2 ≤ 1000000 := by have h1 := H.nle 2 (by decide); have h2 : (N 2 : Int) = n2 := en2; omega
  have r4 : (0 : Int) ≤ n3 ∧ n3 ≤ 1000000 := by have h1 := H.nle 3 (by decide); have h2 : (N 3 : Int) = n3 := en3; omega
  have r5 : (0 : Int) ≤ n4 ∧ n4 ≤ 1000000 := by have h1 := H.nle 4 (by decide); have h2 : (N 4 : Int) = n4 := en4; omega
  have r6 : (0 : Int) ≤ n5 ∧ n5 ≤ 1000000 := by have h1 := H.nle 5 (by decide); have h2 : (N 5 : Int) = n5 := en5; omega
  refine Ew_of (pc' := 1) (fun _ => x_aload_n rfl rfl) ?_
  refine Ew_of (pc' := 3) (fun _ => x_bipush (z := 12) rfl (by decide)) ?_
  refine v_p H (o := 0) (z := 12) (v := I (12)) rfl rfl rfl rfl rfl rfl rfl rfl (show (-2147483648 : Int) ≤ 12 ∧ 12 ≤ 2147483647 by omega) (fun σ H O' => ?_)
  have O := OUT_trans O O'
  refine Ew_of (pc' := 7) (fun _ => x_iconst rfl) ?_
  refine Ew_of (pc' := 8) (fun _ => x_istore_n rfl) ?_
  have hbx0 : ((0 : Int) = 0 ∧ LBO ((w1)) 0 ∨ LBO ((w1)) (0 - 1) ∧ (∀ s, 0 ≤ s → s < 256 → ((w5)) s = dpH (hvF ((w1)) (0 - 1)) s) ∧ 12 = mxF (hvF ((w1)) (0 - 1))) := .inl ⟨rfl, LBO_0⟩
  have hn0 : LNO 0 ((w5)) 12 := .inl rfl
  suffices hl8 : ∀ (m : Nat), ∀ (ls : rO) (σ : rS) (F_8 : hF) (A_8 : hA) (x8_2 : Int), rlook ls 0 = some (.ref (D 0)) → rlook ls 1 = some (.ref (D 1)) → rlook ls 2 = some (I (x8_2)) → HW V97_Ir σ D N F_8 A_8 → OUT (V97_Ir).length D N σE c s D N σ c s → SF [(0, 3), (0, 13), (0, 14), (0, 15), (0, 16)] (updF F 0 3 (12)) F_8 → SA [2, 3, 4, 5] A A_8 → ∀ y8_0_3 : Int, F_8 0 3 = y8_0_3 → ∀ w8_5 : Int → Int, A_8 5 = w8_5 → (inr (x8_2)) → ((0) ≤ (x8_2)) → ((x8_2) ≤ (0) ∨ (x8_2) ≤ ((31))) → ((((x8_2) : Int) = 0 ∧ LBO ((w1)) 0 ∨ LBO ((w1)) ((x8_2) - 1) ∧ (∀ s, 0 ≤ s → s < 256 → ((w8_5)) s = dpH (hvF ((w1)) ((x8_2) - 1)) s) ∧ ((y8_0_3)) = mxF (hvF ((w1)) ((x8_2) - 1)))) → (((y8_0_3)) ≤ 11 ∨ (x8_2) ≤ 30) → (0 ≤ ((y8_0_3))) → (LNO (x8_2) ((w8_5)) ((y8_0_3))) → (1 ≤ (x8_2) ∨ ((y8_0_3)) = 12) → (((31)) - (x8_2)).toNat = m → Ew 97 (d + 2) 8 ls [] σ c s Q from
    hl8 _ _ _ _ _ (0) (rk_o (rfl) rfl rfl) (rk_o (rfl) rfl rfl) (rk_s) H O (SF_refl) (SA_refl)   (12) (rfl) (w5) (ew5) (show inr (0) by omega) (show (0) ≤ (0) by omega) (show (0) ≤ (0) ∨ (0) ≤ ((31)) by omega) (show (((0) : Int) = 0 ∧ LBO ((w1)) 0 ∨ LBO ((w1)) ((0) - 1) ∧ (∀ s, 0 ≤ s → s < 256 → ((w5)) s = dpH (hvF ((w1)) ((0) - 1)) s) ∧ ((12)) = mxF (hvF ((w1)) ((0) - 1))) by assumption) (show ((12)) ≤ 11 ∨ (0) ≤ 30 by omega) (show 0 ≤ ((12)) by omega) (show LNO (0) ((w5)) ((12)) by assumption) (show 1 ≤ (0) ∨ ((12)) = 12 by omega) rfl
  as_aux_lemma =>
  intro m
  induction m using Nat.strongRecOn with
  | _ m ih8 =>
    intro ls σ F_8 A_8 x8_2 l8_0 l8_1 l8_2 H O hS_8 hA_8   y8_0_3 ey8_0_3 w8_5 ew8_5 j8_0 j8_1 j8_2 j8_3 j8_4 j8_5 j8_6 j8_7 hm8
    have r7 : (-2147483648 : Int) ≤ y8_0_3 ∧ y8_0_3 ≤ 2147483647 := by have h1 : (-2147483648 : Int) ≤ F_8 0 3 ∧ F_8 0 3 ≤ 2147483647 := H.krg 0 3 (by decide); rw [show F_8 0 3 = y8_0_3 from (ey8_0_3)] at h1; exact h1
    have j8_b : (((x8_2) : Int) = 0 ∧ LBO ((w1)) 0 ∨ LBO ((w1)) ((x8_2) - 1) ∧ (∀ s, 0 ≤ s → s < 256 → ((w8_5)) s = dpH (hvF ((w1)) ((x8_2) - 1)) s) ∧ ((y8_0_3)) = mxF (hvF ((w1)) ((x8_2) - 1))) := by assumption
    refine Ew_of (pc' := 9) (fun _ => x_iload_n rfl l8_2) ?_
    refine Ew_of (pc' := 11) (fun _ => x_bipush (z := 31) rfl (by decide)) ?_
    refine w_icmpge (t := 43) rfl rfl (show inr (x8_2) by omega) (show inr (31) by omega) (fun b8 => ?_) (fun b8 => ?_)
    · have hfin : (∀ s, 0 ≤ s → s < 256 → ((w8_5)) s = dpH (hvF ((w1)) (LBT ((w1)))) s) ∧ ((y8_0_3)) = mxF (hvF ((w1)) (LBT ((w1)))) := by rcases j8_b with ⟨a, _⟩ | ⟨a, b, c⟩; (omega); ((rw [LBO_e (t := (x8_2) - 1) a (by rw [← c]; omega)]; exact ⟨b, c⟩))
      have hfin1 := hfin.1
      have hfin2 := hfin.2
      have hln : LNG ((w8_5)) ((y8_0_3)) := Or.resolve_left (show LNO (x8_2) ((w8_5)) ((y8_0_3)) by assumption) (by omega)
      exact w_ret rfl (k _ _ _ H O (SF_trans (SF_upd (SF_refl) rfl) hS_8 (any_sub rfl)) (SA_trans (SA_refl) hA_8 (any_subA rfl)) (y8_0_3) ((ey8_0_3)) (w8_5) (ew8_5) (show 0 ≤ (y8_0_3) ∧ (y8_0_3) ≤ 11 by omega) (show LNG ((w8_5)) ((y8_0_3)) by assumption) (show ∀ s, 0 ≤ s → s < 256 → ((w8_5)) s = dpH (hvF ((w1)) (LBT ((w1)))) s by assumption) (show (y8_0_3) = mxF (hvF ((w1)) (LBT ((w1)))) by assumption))
    · refine Ew_of (pc' := 15) (fun _ => x_aload_n rfl l8_0) ?_
      refine v_g H (o := 0) (v := I (y8_0_3)) rfl rfl rfl rfl rfl (congrArg (fun z : Int => I z) ((ey8_0_3) : F_8 0 3 = y8_0_3)) ?_
      refine Ew_of (pc' := 20) (fun _ => x_bipush (z := 11) rfl (by decide)) ?_
      refine w_icmple (t := 43) rfl rfl (show inr (y8_0_3) by omega) (show inr (11) by omega) (fun b9 => ?_) (fun b9 => ?_)
      · have hfin : (∀ s, 0 ≤ s → s < 256 → ((w8_5)) s = dpH (hvF ((w1)) (LBT ((w1)))) s) ∧ ((y8_0_3)) = mxF (hvF ((w1)) (LBT ((w1)))) := by rcases j8_b with ⟨a, _⟩ | ⟨a, b, c⟩; (omega); ((rw [LBO_e (t := (x8_2) - 1) a (by rw [← c]; omega)]; exact ⟨b, c⟩))
        have hfin1 := hfin.1
        have hfin2 := hfin.2
        have hln : LNG ((w8_5)) ((y8_0_3)) := Or.resolve_left (show LNO (x8_2) ((w8_5)) ((y8_0_3)) by assumption) (by omega)
        exact w_ret rfl (k _ _ _ H O (SF_trans (SF_upd (SF_refl) rfl) hS_8 (any_sub rfl)) (SA_trans (SA_refl) hA_8 (any_subA rfl)) (y8_0_3) ((ey8_0_3)) (w8_5) (ew8_5) (show 0 ≤ (y8_0_3) ∧ (y8_0_3) ≤ 11 by omega) (show LNG ((w8_5)) ((y8_0_3)) by assumption) (show ∀ s, 0 ≤ s → s < 256 → ((w8_5)) s = dpH (hvF ((w1)) (LBT ((w1)))) s by assumption) (show (y8_0_3) = mxF (hvF ((w1)) (LBT ((w1)))) by assumption))
      · obtain ⟨q2, hq2⟩ : ∃ q : Int, q = (x8_2) := ⟨_, rfl⟩
        have hLB : LBO ((w1)) q2 := by rcases j8_b with ⟨a, b⟩ | ⟨a, b, c⟩; ((rw [hq2, show (x8_2) = 0 by omega]; exact b)); (exact LBO_s (t := (x8_2) - 1) a (by rw [← c]; omega) (by omega))
        refine Ew_of (pc' := 24) (fun _ => x_aload_n rfl l8_0) ?_
        refine Ew_of (pc' := 25) (fun _ => x_aload_n rfl l8_1) ?_
        refine Ew_of (pc' := 26) (fun _ => x_iload_n rfl l8_2) ?_
        have r10 : (-2147483648 : Int) ≤ F_8 0 14 ∧ F_8 0 14 ≤ 2147483647 := by have h1 : (-2147483648 : Int) ≤ F_8 0 14 ∧ F_8 0 14 ≤ 2147483647 := H.krg 0 14 (by decide); rw [show F_8 0 14 = F_8 0 14 from rfl] at h1; exact h1
        refine v_inv H (o := 0) rfl rfl rfl rfl rfl rfl (by rfl) (C99_Ir (D := pul [0, 1, 2, 4] D) (N := pul [0, 1, 2, 4] N) (HW_sub H (VS_of (show vsub V97_Ir V99_Ir [0, 1, 2, 4] = true by decide +kernel))) (((hS_8 0 11 rfl)).trans (pf2)) (((hS_8 0 10 rfl)).trans (pf4)) (n1) (en1) (n2) (en2) (n4) (en4) (F_8 0 14) (rfl) (w1) ((funext (hA_8 1 rfl)).trans (ew1)) (A_8 2) (rfl) (A_8 4) (rfl) (show inr (x8_2) by omega) (show (n2) = 512 ∧ (n4) = 256 ∧ (n1) = 256 by omega) (show CTS ((w1)) by assumption) (show 0 ≤ (x8_2) ∧ (x8_2) ≤ 30 by omega) (fun σ11 F11' A11' H' O' hS11 hA11 y11_0_14 ey11_0_14 w11_2 ew11_2 w11_3 ew11_3 pz11_0 pz11_1 pz11_2 pz11_3 pz11_4 pz11_5 => ⟨rfl, ?_⟩))
        refine v_back (c := c) (s := s) H (show vsub V97_Ir V99_Ir [0, 1, 2, 4] = true by decide +kernel) H' O' (fun F11 A11 H O' eF11 eA11 => ?_)
        have O := OUT_trans O O'
        -- Codes.sortLeaves
        have r12 : (-2147483648 : Int) ≤ y11_0_14 ∧ y11_0_14 ≤ 2147483647 := by have h1 : (-2147483648 : Int) ≤ F11 0 14 ∧ F11 0 14 ≤ 2147483647 := H.krg 0 14 (by decide); rw [show F11 0 14 = y11_0_14 from ((eF11 0 14).trans ey11_0_14)] at h1; exact h1
        refine Ew_of (pc' := 30) (fun _ => x_aload_n rfl l8_0) ?_
        have hhn : ∀ s, 0 ≤ s → s < 256 → 0 ≤ (hvF ((w1)) ((x8_2))) s := fun s a b => by have := (show CTS ((w1)) by assumption) s a b; exact Int.ediv_nonneg (by have := p2_pos ((x8_2)); omega) (by have := p2_pos ((x8_2)); omega)
        have hlsp := pz11_5
        obtain ⟨tt, htt⟩ : ∃ tt, tt = SA2 ((w11_2)) 0 ((y11_0_14)) := ⟨_, rfl⟩
        have hgea := pz11_1
        have hbd := SA2_bd (by omega) hgea
        have hone : (x8_2) = 30 → tt = ((y11_0_14)) := fun q => by rw [htt]; exact SA2_ones (by omega) (fun i a b => (hgea i a b).2.2 q)
        have r13 : (-2147483648 : Int) ≤ F_8 0 13 ∧ F_8 0 13 ≤ 2147483647 := by have h1 : (-2147483648 : Int) ≤ F11 0 13 ∧ F11 0 13 ≤ 2147483647 := H.krg 0 13 (by decide); rw [show F11 0 13 = F_8 0 13 from ((show F11 0 13 = F_8 0 13 from (eF11 0 13).trans (hS11 0 13 rfl)))] at h1; exact h1
        have r14 : (-2147483648 : Int) ≤ F_8 0 15 ∧ F_8 0 15 ≤ 2147483647 := by have h1 : (-2147483648 : Int) ≤ F11 0 15 ∧ F11 0 15 ≤ 2147483647 := H.krg 0 15 (by decide); rw [show F11 0 15 = F_8 0 15 from ((show F11 0 15 = F_8 0 15 from (eF11 0 15).trans (hS11 0 15 rfl)))] at h1; exact h1
        have r15 : (-2147483648 : Int) ≤ F_8 0 16 ∧ F_8 0 16 ≤ 2147483647 := by have h1 : (-2147483648 : Int) ≤ F11 0 16 ∧ F11 0 16 ≤ 2147483647 := H.krg 0 16 (by decide); rw [show F11 0 16 = F_8 0 16 from ((show F11 0 16 = F_8 0 16 from (eF11 0 16).trans (hS11 0 16 rfl)))] at h1; exact h1
        refine v_inv H (o := 0) rfl rfl rfl rfl rfl rfl (by rfl) (C100 (D := pul [0, 2, 4, 3] D) (N := pul [0, 2, 4, 3] N) (HW_sub H (VS_of (show vsub V97_Ir V100 [0, 2, 4, 3] = true by decide +kernel))) (((((show F11 0 11 = F_8 0 11 from (eF11 0 11).trans (hS11 0 11 rfl))).trans (hS_8 0 11 rfl))).trans (pf2)) (((((show F11 0 10 = F_8 0 10 from (eF11 0 10).trans (hS11 0 10 rfl))).trans (hS_8 0 10 rfl))).trans (pf4)) (((((show F11 0 12 = F_8 0 12 from (eF11 0 12).trans (hS11 0 12 rfl))).trans (hS_8 0 12 rfl))).trans (pf3)) (n2) (en2) (n4) (en4) (n3) (en3) (F_8 0 13) (((show F11 0 13 = F_8 0 13 from (eF11 0 13).trans (hS11 0 13 rfl)))) (y11_0_14) (((eF11 0 14).trans ey11_0_14)) (F_8 0 15) (((show F11 0 15 = F_8 0 15 from (eF11 0 15).trans (hS11 0 15 rfl)))) (F_8 0 16) (((show F11 0 16 = F_8 0 16 from (eF11 0 16).trans (hS11 0 16 rfl)))) (w11_2) ((eA11 2).trans ew11_2) (w11_3) ((eA11 4).trans ew11_3) (A_8 3) ((show A11 3 = A_8 3 from (eA11 3))) ((x8_2)) ((hvF ((w1)) ((x8_2)))) (show LSP ((hvF ((w1)) ((x8_2)))) ((w11_2)) ((w11_3)) ((y11_0_14)) 256 by assumption) (show ∀ s, 0 ≤ s → s < 256 → 0 ≤ ((hvF ((w1)) ((x8_2)))) s by assumption) (show (n2) = 512 ∧ (n3) = 512 by omega) (show 2 ≤ ((y11_0_14)) ∧ ((y11_0_14)) ≤ 256 by omega) (show SRT ((w11_2)) 0 ((y11_0_14)) by assumption) (show GEA ((w11_2)) ((y11_0_14)) ((x8_2)) by assumption) (fun σ16 F16' A16' H' O' hS16 hA16 y16_0_13 ey16_0_13 y16_0_15 ey16_0_15 y16_0_16 ey16_0_16 w16_1 ew16_1 w16_3 ew16_3 pz16_0 pz16_1 pz16_2 => ⟨rfl, ?_⟩))
        refine v_back (c := c) (s := s) H (show vsub V97_Ir V100 [0, 2, 4, 3] = true by decide +kernel) H' O' (fun F16 A16 H O' eF16 eA16 => ?_)
        have O := OUT_trans O O'
        -- Codes.joinKnots
        have r17 : (-2147483648 : Int) ≤ y16_0_13 ∧ y16_0_13 ≤ 2147483647 := by have h1 : (-2147483648 : Int) ≤ F16 0 13 ∧ F16 0 13 ≤ 2147483647 := H.krg 0 13 (by decide); rw [show F16 0 13 = y16_0_13 from ((eF16 0 13).trans ey16_0_13)] at h1; exact h1
        have r18 : (-2147483648 : Int) ≤ y16_0_15 ∧ y16_0_15 ≤ 2147483647 := by have h1 : (-2147483648 : Int) ≤ F16 0 15 ∧ F16 0 15 ≤ 2147483647 := H.krg 0 15 (by decide); rw [show F16 0 15 = y16_0_15 from ((eF16 0 15).trans ey16_0_15)] at h1; exact h1
        have r19 : (-2147483648 : Int) ≤ y16_0_16 ∧ y16_0_16 ≤ 2147483647 := by have h1 : (-2147483648 : Int) ≤ F16 0 16 ∧ F16 0 16 ≤ 2147483647 := H.krg 0 16 (by decide); rw [show F16 0 16 = y16_0_16 from ((eF16 0 16).trans ey16_0_16)] at h1; exact h1
        refine Ew_of (pc' := 34) (fun _ => x_aload_n rfl l8_0) ?_
        have htw := pz16_1
        rw [← htt] at htw hbd
        refine v_inv H (o := 0) rfl rfl rfl rfl rfl rfl (by rfl) (C102 (D := pul [0, 3, 4, 2, 5] D) (N := pul [0, 3, 4, 2, 5] N) (HW_sub H (VS_of (show vsub V97_Ir V102 [0, 3, 4, 2, 5] = true by decide +kernel))) ((((((show F16 0 12 = F11 0 12 from (eF16 0 12).trans (hS16 0 12 rfl))).trans ((show F11 0 12 = F_8 0 12 from (eF11 0 12).trans (hS11 0 12 rfl)))).trans (hS_8 0 12 rfl))).trans (pf3)) ((((((show F16 0 10 = F11 0 10 from (eF16 0 10).trans (hS16 0 10 rfl))).trans ((show F11 0 10 = F_8 0 10 from (eF11 0 10).trans (hS11 0 10 rfl)))).trans (hS_8 0 10 rfl))).trans (pf4)) ((((((show F16 0 11 = F11 0 11 from (eF16 0 11).trans (hS16 0 11 rfl))).trans ((show F11 0 11 = F_8 0 11 from (eF11 0 11).trans (hS11 0 11 rfl)))).trans (hS_8 0 11 rfl))).trans (pf2)) ((((((show F16 0 0 = F11 0 0 from (eF16 0 0).trans (hS16 0 0 rfl))).trans ((show F11 0 0 = F_8 0 0 from (eF11 0 0).trans (hS11 0 0 rfl)))).trans (hS_8 0 0 rfl))).trans (pf5)) (n3) (en3) (n4) (en4) (n2) (en2) (n5) (en5) (y8_0_3) (((((show F16 0 3 = F11 0 3 from (eF16 0 3).trans (hS16 0 3 rfl))).trans ((show F11 0 3 = F_8 0 3 from (eF11 0 3).trans (hS11 0 3 rfl)))).trans (ey8_0_3))) (y16_0_13) (((eF16 0 13).trans ey16_0_13)) (y11_0_14) ((((show F16 0 14 = F11 0 14 from (eF16 0 14).trans (hS16 0 14 rfl))).trans ((eF11 0 14).trans ey11_0_14))) (y16_0_15) (((eF16 0 15).trans ey16_0_15)) (y16_0_16) (((eF16 0 16).trans ey16_0_16)) (w16_3) ((eA16 3).trans ew16_3) (w11_3) (((show A16 4 = A11 4 from (eA16 4).trans (funext (hA16 2 rfl)))).trans ((eA11 4).trans ew11_3)) (w16_1) ((eA16 2).trans ew16_1) (w8_5) (((show A16 5 = A11 5 from (eA16 5))).trans (((show A11 5 = A_8 5 from (eA11 5))).trans (ew8_5))) (tt) ((hvF ((w1)) ((x8_2)))) (show FLP ((hvF ((w1)) ((x8_2)))) ((w16_3)) ((w11_3)) ((y11_0_14)) ((y16_0_16)) by assumption) (show (n2) = 512 ∧ (n3) = 512 ∧ (n4) = 256 ∧ (n5) = 256 by omega) (show 2 ≤ ((y11_0_14)) ∧ ((y11_0_14)) ≤ 256 by omega) (show ((y16_0_16)) = 2 * ((y11_0_14)) - 1 by omega) (show TW ((w16_1)) ((w16_3)) ((y11_0_14)) ((y16_0_13)) ((y16_0_15)) ((y16_0_16)) (tt) by assumption) (show ORD ((w11_3)) ((y11_0_14)) by assumption) (show (tt) ≤ 16777216 by omega) (fun σ20 F20' A20' H' O' hS20 hA20 y20_0_3 ey20_0_3 w20_4 ew20_4 pz20_0 pz20_1 pz20_2 pz20_3 pz20_4 => ⟨rfl, ?_⟩))
        refine v_back (c := c) (s := s) H (show vsub V97_Ir V102 [0, 3, 4, 2, 5] = true by decide +kernel) H' O' (fun F20 A20 H O' eF20 eA20 => ?_)
        have O := OUT_trans O O'
        -- Codes.findLengths
        have r21 : (-2147483648 : Int) ≤ y20_0_3 ∧ y20_0_3 ≤ 2147483647 := by have h1 : (-2147483648 : Int) ≤ F20 0 3 ∧ F20 0 3 ≤ 2147483647 := H.krg 0 3 (by decide); rw [show F20 0 3 = y20_0_3 from ((eF20 0 3).trans ey20_0_3)] at h1; exact h1
        have hel : (x8_2) = 30 → ((y20_0_3)) ≤ 11 := fun q => LGT_11 pz20_0 (by have := hone q; omega)
        refine Ew_of (pc' := 40) (fun _ => x_iinc (len := 3) rfl (l8_2)) ?_
        refine Ew_of (pc' := 8) (fun _ => x_goto rfl rfl) ?_
        have hbx1 : ((((x8_2 + 1)) : Int) = 0 ∧ LBO ((w1)) 0 ∨ LBO ((w1)) (((x8_2 + 1)) - 1) ∧ (∀ s, 0 ≤ s → s < 256 → ((w20_4)) s = dpH (hvF ((w1)) (((x8_2 + 1)) - 1)) s) ∧ ((y20_0_3)) = mxF (hvF ((w1)) (((x8_2 + 1)) - 1))) := by rw [show ((x8_2 + 1)) - 1 = q2 by omega, hq2]; exact .inr ⟨by rw [← hq2]; exact hLB, pz20_3, pz20_4⟩
        have hn1 : LNO (((x8_2 + 1))) ((w20_4)) ((y20_0_3)) := .inr pz20_1
        exact ih8 _ (by omega) _ _ _ _ ((x8_2 + 1)) (rk_o (l8_0) rfl rfl) (rk_o (l8_1) rfl rfl) (rk_s) H O (SF_trans (SF_trans (SF_trans (hS_8) (SF_glu (ι := [0, 1, 2, 4]) hS11 eF11 (by decide +kernel)) (any_sub (l' := [(0, 14)]) rfl)) (SF_glu (ι := [0, 2, 4, 3]) hS16 eF16 (by decide +kernel)) (any_sub (l' := [(0, 13), (0, 15), (0, 16)]) rfl)) (SF_glu (ι := [0, 3, 4, 2, 5]) hS20 eF20 (by decide +kernel)) (any_sub (l' := [(0, 3)]) rfl)) (SA_trans (SA_trans (SA_trans (hA_8) (SA_glu (ι := [0, 1, 2, 4]) hA11 eA11 (by decide +kernel)) (any_subA (l' := [2, 4]) rfl)) (SA_glu (ι := [0, 2, 4, 3]) hA16 eA16 (by decide +kernel)) (any_subA (l' := [2, 3]) rfl)) (SA_glu (ι := [0, 3, 4, 2, 5]) hA20 eA20 (by decide +kernel)) (any_subA (l' := [2, 5]) rfl))   (y20_0_3) (((eF20 0 3).trans ey20_0_3)) (w20_4) ((eA20 5).trans ew20_4) (show inr ((x8_2 + 1)) by omega) (show (0) ≤ ((x8_2 + 1)) by omega) (show ((x8_2 + 1)) ≤ (0) ∨ ((x8_2 + 1)) ≤ ((31)) by omega) (show ((((x8_2 + 1)) : Int) = 0 ∧ LBO ((w1)) 0 ∨ LBO ((w1)) (((x8_2 + 1)) - 1) ∧ (∀ s, 0 ≤ s → s < 256 → ((w20_4)) s = dpH (hvF ((w1)) (((x8_2 + 1)) - 1)) s) ∧ ((y20_0_3)) = mxF (hvF ((w1)) (((x8_2 + 1)) - 1))) by assumption) (show ((y20_0_3)) ≤ 11 ∨ ((x8_2 + 1)) ≤ 30 by omega) (show 0 ≤ ((y20_0_3)) by omega) (show LNO ((x8_2 + 1)) ((w20_4)) ((y20_0_3)) by assumption) (show 1 ≤ ((x8_2 + 1)) ∨ ((y20_0_3)) = 12 by omega) rfl
