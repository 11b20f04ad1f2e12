abbrev V169 : vV := [(0, 8, [(0, 0), (0, 0), (4, 0), (4, 0), (4, 0), (4, 0), (4, 0), (4, 0), (4, 0), (4, 0), (4, 0), (0, 0), (0, 0)]), (1, 1, []), (1, 1, []), (1, 1, []), (1, 1, []), (1, 1, []), (1, 1, []), (1, 1, []), (1, 1, [])]
theorem len_V169_oz_E1cls : (V169).length = 9 := by decide +kernel
def oz_E1clsl_0 : List (Nat × Nat) := []
theorem oz_E1cls_1 : (oz_E1clsl_0).all (fun p => !tbz 0 (Nat.add (Nat.mul 32 p.1) p.2)) = true := by decide +kernel
def oz_E1clsl_1 : List Nat := [2, 3, 4, 5, 6, 7, 8]
theorem oz_E1cls_2 : (oz_E1clsl_1).all (fun p => !tbz 508 p) = true := by decide +kernel
set_option maxHeartbeats 16000000 in
/-- Share.lay: this, this.points, this.masses, this.mostBits, this.starts, this.used, this.numberAt, this.symbolAt, this.placeOf -/
theorem C169 {σE : rS} {D N : Nat → Nat} {F : hF} {A : hA} {d c s : Nat} {Q : wQ} (H : HW V169 σE D N F A)  (pf1 : F 0 2 = (D 1 : Int)) (pf2 : F 0 3 = (D 2 : Int)) (pf3 : F 0 4 = (D 3 : Int)) (pf4 : F 0 5 = (D 4 : Int)) (pf5 : F 0 6 = (D 5 : Int)) (pf6 : F 0 8 = (D 6 : Int)) (pf7 : F 0 7 = (D 7 : Int)) (pf8 : F 0 9 = (D 8 : Int)) (n1 : Int) (en1 : (N 1 : Int) = n1) (n2 : Int) (en2 : (N 2 : Int) = n2) (n3 : Int) (en3 : (N 3 : Int) = n3) (n4 : Int) (en4 : (N 4 : Int) = n4) (n5 : Int) (en5 : (N 5 : Int) = n5) (n6 : Int) (en6 : (N 6 : Int) = n6) (n7 : Int) (en7 : (N 7 : Int) = n7) (n8 : Int) (en8 : (N 8 : Int) = n8) (u0_0 : Int) (eu0_0 : F 0 0 = u0_0) (u0_1 : Int) (eu0_1 : F 0 1 = u0_1) (w1 : Int → Int) (ew1 : A 1 = w1) (w2 : Int → Int) (ew2 : A 2 = w2) (w3 : Int → Int) (ew3 : A 3 = w3) (w4 : Int → Int) (ew4 : A 4 = w4) (w6 : Int → Int) (ew6 : A 6 = w6) (w7 : Int → Int) (ew7 : A 7 = w7) (w8 : Int → Int) (ew8 : A 8 = w8) (h0 : SHD ((w1)) ((u0_1)) ((u0_0))) (h1 : (n1) = (u0_1) ∧ (n2) = (u0_1) ∧ (n3) = (u0_1) ∧ (n4) = (u0_1) ∧ (n5) = (u0_1) ∧ (n6) = (n7) ∧ (n8) = (n7) ∧ p2 ((u0_0)) ≤ (n7)) (k : ∀ (σ : rS) (Fₚ : hF) (Aₚ : hA), HW V169 σ D N Fₚ Aₚ → OUT (V169).length D N σE c s D N σ c s → SF [] F Fₚ → SA [2, 3, 4, 5, 6, 7, 8] A Aₚ → ∀ v2 : Int → Int, Aₚ 2 = v2 → ∀ v3 : Int → Int, Aₚ 3 = v3 → ∀ v4 : Int → Int, Aₚ 4 = v4 → ∀ v6 : Int → Int, Aₚ 6 = v6 → ∀ v7 : Int → Int, Aₚ 7 = v7 → ∀ v8 : Int → Int, Aₚ 8 = v8 → (SL ((w1)) ((u0_1)) ((u0_0)) ((v2)) ((v3)) ((v4)) ((v7)) ((v6)) ((v8))) → Q none σ c s) : Ew 169 (d + 0) 0 (rargs 0 [.ref (D 0)]) [] σE c s Q := by
  have O := OUT_refl (n := (V169).length) (D := D) (N := N) (σ := σE) (c := c) (s := s)
  have HE := H
  have r1 : (-2147483648 : Int) ≤ u0_0 ∧ u0_0 ≤ 2147483647 := rngE (show (-2147483648 : Int) ≤ F 0 0 ∧ F 0 0 ≤ 2147483647 from H.krg 0 0 (ltn len_V169_oz_E1cls rfl)) (show F 0 0 = u0_0 from (eu0_0))
  have r2 : (-2147483648 : Int) ≤ u0_1 ∧ u0_1 ≤ 2147483647 := rngE (show (-2147483648 : Int) ≤ F 0 1 ∧ F 0 1 ≤ 2147483647 from H.krg 0 1 (ltn len_V169_oz_E1cls rfl)) (show F 0 1 = u0_1 from (eu0_1))
  have r3 : (0 : Int) ≤ n1 ∧ n1 ≤ 1000000 := nleE (H.nle 1 (ltn len_V169_oz_E1cls rfl)) (show (N 1 : Int) = n1 from en1)
  have r4 : (0 : Int) ≤ n2 ∧ n2 ≤ 1000000 := nleE (H.nle 2 (ltn len_V169_oz_E1cls rfl)) (show (N 2 : Int) = n2 from en2)
  have r5 : (0 : Int) ≤ n3 ∧ n3 ≤ 1000000 := nleE (H.nle 3 (ltn len_V169_oz_E1cls rfl)) (show (N 3 : Int) = n3 from en3)
  have r6 : (0 : Int) ≤ n4 ∧ n4 ≤ 1000000 := nleE (H.nle 4 (ltn len_V169_oz_E1cls rfl)) (show (N 4 : Int) = n4 from en4)
  have r7 : (0 : Int) ≤ n5 ∧ n5 ≤ 1000000 := nleE (H.nle 5 (ltn len_V169_oz_E1cls rfl)) (show (N 5 : Int) = n5 from en5)
  have r8 : (0 : Int) ≤ n6 ∧ n6 ≤ 1000000 := nleE (H.nle 6 (ltn len_V169_oz_E1cls rfl)) (show (N 6 : Int) = n6 from en6)
  have r9 : (0 : Int) ≤ n7 ∧ n7 ≤ 1000000 := nleE (H.nle 7 (ltn len_V169_oz_E1cls rfl)) (show (N 7 : Int) = n7 from en7)
  have r10 : (0 : Int) ≤ n8 ∧ n8 ≤ 1000000 := nleE (H.nle 8 (ltn len_V169_oz_E1cls rfl)) (show (N 8 : Int) = n8 from en8)
  have hS : SHD ((w1)) ((u0_1)) ((u0_0)) := h0
  have hf := SHD_f hS
  refine Ew_of (pcₚ := 1) (fun _ => x_iconst rfl) ?_
  refine Ew_of (pcₚ := 2) (fun _ => x_aload_n rfl rfl) ?_
  refine v_g H (o := 0) (v := I (u0_0)) rfl rfl rfl rfl rfl (congrArg (fun z : Int => I z) ((eu0_0) : F 0 0 = u0_0)) ?_
  refine w_ishl1 rfl (show 0 ≤ u0_0 ∧ u0_0 ≤ 31 by omega) ?_
  refine Ew_of (pcₚ := 7) (fun _ => x_istore_n rfl) ?_
  refine Ew_of (pcₚ := 8) (fun _ => x_iload_n rfl rk_s) ?_
  refine Ew_of (pcₚ := 9) (fun _ => x_iconst rfl) ?_
  refine w_isub rfl ?_
  refine Ew_of (pcₚ := 11) (fun _ => x_istore_n rfl) ?_
  refine Ew_of (pcₚ := 12) (fun _ => x_iconst rfl) ?_
  refine Ew_of (pcₚ := 13) (fun _ => x_istore_n rfl) ?_
  refine Ew_of (pcₚ := 14) (fun _ => x_iconst rfl) ?_
  refine Ew_of (pcₚ := 16) (fun _ => x_istore rfl) ?_
  have hM0 : MSI ((w1)) ((w2)) 0 := MSI_0
  have hS0 : SSC ((w1)) ((w4)) 0 := SSC_0
  have hU0 : USI ((A 5)) 0 := USI_0
  have hB0 : BSI ((w1)) ((w3)) ((u0_0)) 0 := BSI_0
  have hN0 : NGI ((w1)) ((w7)) ((u0_0)) 0 := NGI_0
  have : mp ((w1)) 0 = 0 := rfl
  have : ngs ((w1)) 0 = 0 := rfl
  suffices hl16 : ∀ (m : Nat), ∀ (ls : rO) (σ : rS) (F_16 : hF) (A_16 : hA) (x16_2 : Int) (x16_3 : Int) (x16_4 : Int), rlook ls 0 = some (.ref (D 0)) → rlook ls 1 = some (I (p2 (u0_0))) → rlook ls 2 = some (I (x16_2)) → rlook ls 3 = some (I (x16_3)) → rlook ls 4 = some (I (x16_4)) → HW V169 σ D N F_16 A_16 → OUT (V169).length D N σE c s D N σ c s → SF [] F F_16 → SA [2, 3, 4, 5, 7] A A_16 → ∀ w16_2 : Int → Int, A_16 2 = w16_2 → ∀ w16_3 : Int → Int, A_16 3 = w16_3 → ∀ w16_4 : Int → Int, A_16 4 = w16_4 → ∀ w16_5 : Int → Int, A_16 5 = w16_5 → ∀ w16_7 : Int → Int, A_16 7 = w16_7 → (inr (x16_2)) → (inr (x16_3)) → (inr (x16_4)) → ((0) ≤ (x16_4)) → ((x16_4) ≤ (0) ∨ (x16_4) ≤ ((u0_1))) → ((x16_2) = p2 ((u0_0)) - 1 - ngs ((w1)) (x16_4)) → ((x16_3) = mp ((w1)) (x16_4)) → (MSI ((w1)) ((w16_2)) (x16_4)) → (SSC ((w1)) ((w16_4)) (x16_4)) → (USI ((w16_5)) (x16_4)) → (BSI ((w1)) ((w16_3)) ((u0_0)) (x16_4)) → (NGI ((w1)) ((w16_7)) ((u0_0)) (x16_4)) → (((u0_1)) - (x16_4)).toNat = m → Ew 169 (d + 0) 16 ls [] σ c s Q from
    hl16 _ _ _ _ _ ((p2 (u0_0) - 1)) (0) (0) (rk_o (rk_o (rk_o (rk_o (rfl) rfl rfl) rfl rfl) rfl rfl) rfl rfl) (rk_o (rk_o (rk_o (rk_s) rfl rfl) rfl rfl) rfl rfl) (rk_o (rk_o (rk_s) rfl rfl) rfl rfl) (rk_o (rk_s) rfl rfl) (rk_s) H O (SF_refl) (SA_refl)    (w2) (ew2) (w3) (ew3) (w4) (ew4) (A 5) (rfl) (w7) (ew7) (show inr ((p2 (u0_0) - 1)) by omega) (show inr (0) from q_20) (show inr (0) from q_20) (show (0) ≤ (0) from q_25) (show (0) ≤ (0) ∨ (0) ≤ ((u0_1)) from q_24) (show ((p2 (u0_0) - 1)) = p2 ((u0_0)) - 1 - ngs ((w1)) (0) by omega) (show (0) = mp ((w1)) (0) by omega) (show MSI ((w1)) ((w2)) (0) from hM0) (show SSC ((w1)) ((w4)) (0) from hS0) (show USI ((A 5)) (0) from hU0) (show BSI ((w1)) ((w3)) ((u0_0)) (0) from hB0) (show NGI ((w1)) ((w7)) ((u0_0)) (0) from hN0) rfl
  as_aux_lemma =>
  intro m
  induction m using Nat.strongRecOn with
  | _ m ih16 =>
    intro ls σ F_16 A_16 x16_2 x16_3 x16_4 l16_0 l16_1 l16_2 l16_3 l16_4 H O hS_16 hA_16    w16_2 ew16_2 w16_3 ew16_3 w16_4 ew16_4 w16_5 ew16_5 w16_7 ew16_7 j16_0 j16_1 j16_2 j16_3 j16_4 j16_5 j16_6 j16_7 j16_8 j16_9 j16_10 j16_11 hm16
    have cF_16 : SF oz_E1clsl_0 F F_16 := SF_trans (SF_refl) hS_16 (any_sub (by decide +kernel))
    have mF_16 := SFm_of cF_16 oz_E1cls_1
    have cA_16 : SA oz_E1clsl_1 A A_16 := SA_trans (SA_refl) hA_16 (any_subA (by decide +kernel))
    have mA_16 := SAm_of cA_16 oz_E1cls_2
    refine Ew_of (pcₚ := 18) (fun _ => x_iload rfl l16_4) ?_
    refine Ew_of (pcₚ := 19) (fun _ => x_aload_n rfl l16_0) ?_
    refine v_g H (o := 0) (v := I (u0_1)) rfl rfl rfl rfl rfl (congrArg (fun z : Int => I z) (((mF_16 0 1 rfl).trans (eu0_1)) : F_16 0 1 = u0_1)) ?_
    refine w_icmpge (t := 153) rfl rfl (show inr (x16_4) from j16_2) (show inr (u0_1) from q_22 r2) (fun b12 => ?_) (fun b12 => ?_)
    · have hl4 : (x16_4) = ((u0_1)) := q_3095 b12 h1 j16_4 r4
      have hMn : MSI ((w1)) ((w16_2)) ((u0_1)) := by rw [← hl4]; assumption
      have hSn : SSC ((w1)) ((w16_4)) ((u0_1)) := by rw [← hl4]; assumption
      have hUn : USI ((w16_5)) ((u0_1)) := by rw [← hl4]; assumption
      have hBn : BSI ((w1)) ((w16_3)) ((u0_0)) ((u0_1)) := by rw [← hl4]; assumption
      have hNn : NGI ((w1)) ((w16_7)) ((u0_0)) ((u0_1)) := by rw [← hl4]; assumption
      have hl2 : (x16_2) = p2 ((u0_0)) - 1 - ngs ((w1)) ((u0_1)) := by rw [← hl4]; omega
      refine Ew_of (pcₚ := 154) (fun _ => x_iload_n rfl l16_1) ?_
      refine Ew_of (pcₚ := 155) (fun _ => x_iconst rfl) ?_
      refine w_ishrK 1 2 (by decide) (by decide) rfl (show inr (p2 (u0_0)) by omega) (fun z13 gz13 dz13 => ?_)
      refine Ew_of (pcₚ := 157) (fun _ => x_iload_n rfl l16_1) ?_
      refine Ew_of (pcₚ := 158) (fun _ => x_iconst rfl) ?_
      refine w_ishrK 3 8 (by decide) (by decide) rfl (show inr (p2 (u0_0)) by omega) (fun z14 gz14 dz14 => ?_)
      refine w_iadd rfl ?_
      refine Ew_of (pcₚ := 161) (fun _ => x_iconst rfl) ?_
      refine w_iadd rfl ?_
      refine Ew_of (pcₚ := 164) (fun _ => x_istore rfl) ?_
      refine Ew_of (pcₚ := 165) (fun _ => x_iconst rfl) ?_
      refine Ew_of (pcₚ := 167) (fun _ => x_istore rfl) ?_
      refine Ew_of (pcₚ := 168) (fun _ => x_iconst rfl) ?_
      refine Ew_of (pcₚ := 170) (fun _ => x_istore rfl) ?_
      have hly : LYC ((w1)) ((u0_1)) ((u0_0)) ((w16_7)) 0 (cum ((w1)) (0)) 0 := LYC_0 hNn
      have : cum ((w1)) 0 = 0 := rfl
      suffices hl170 : ∀ (m : Nat), ∀ (ls : rO) (σ : rS) (F_170 : hF) (A_170 : hA) (x170_5 : Int) (x170_6 : Int), rlook ls 0 = some (.ref (D 0)) → rlook ls 1 = some (I (p2 (u0_0))) → rlook ls 2 = some (I (x16_2)) → rlook ls 4 = some (I (((z13 + z14) + 3))) → rlook ls 5 = some (I (x170_5)) → rlook ls 6 = some (I (x170_6)) → HW V169 σ D N F_170 A_170 → OUT (V169).length D N σE c s D N σ c s → SF [] F_16 F_170 → SA [7] A_16 A_170 → ∀ w170_7 : Int → Int, A_170 7 = w170_7 → (inr (x170_5)) → (inr (x170_6)) → ((0) ≤ (x170_6)) → ((x170_6) ≤ (0) ∨ (x170_6) ≤ ((u0_1))) → (LYC ((w1)) ((u0_1)) ((u0_0)) ((w170_7)) (x170_5) (cum ((w1)) ((x170_6))) 0) → (0 ≤ (x170_5) ∧ (x170_5) < p2 ((u0_0))) → (p2 ((u0_0)) - ngs ((w1)) ((u0_1)) ≤ cum ((w1)) ((x170_6)) ∨ (x170_5) ≤ (x16_2)) → (((u0_1)) - (x170_6)).toNat = m → Ew 169 (d + 0) 170 ls [] σ c s Q from
        hl170 _ _ _ _ _ (0) (0) (rk_o (rk_o (rk_o (l16_0) rfl rfl) rfl rfl) rfl rfl) (rk_o (rk_o (rk_o (l16_1) rfl rfl) rfl rfl) rfl rfl) (rk_o (rk_o (rk_o (l16_2) rfl rfl) rfl rfl) rfl rfl) (rk_o (rk_o (rk_s) rfl rfl) rfl rfl) (rk_o (rk_s) rfl rfl) (rk_s) H O (SF_refl) (SA_refl)    (w16_7) (ew16_7) (show inr (0) from q_20) (show inr (0) from q_20) (show (0) ≤ (0) from q_25) (show (0) ≤ (0) ∨ (0) ≤ ((u0_1)) from q_24) (show LYC ((w1)) ((u0_1)) ((u0_0)) ((w16_7)) (0) (cum ((w1)) ((0))) 0 from hly) (show 0 ≤ (0) ∧ (0) < p2 ((u0_0)) by omega) (show p2 ((u0_0)) - ngs ((w1)) ((u0_1)) ≤ cum ((w1)) ((0)) ∨ (0) ≤ (x16_2) by omega) rfl
      as_aux_lemma =>
      intro m
      induction m using Nat.strongRecOn with
      | _ m ih170 =>
        intro ls σ F_170 A_170 x170_5 x170_6 l170_0 l170_1 l170_2 l170_4 l170_5 l170_6 H O hS_170 hA_170    w170_7 ew170_7 j170_0 j170_1 j170_2 j170_3 j170_4 j170_5 j170_6 hm170
        have cF_170 : SF oz_E1clsl_0 F F_170 := SF_trans (cF_16) hS_170 (any_sub (by decide +kernel))
        have mF_170 := SFm_of cF_170 oz_E1cls_1
        have cA_170 : SA oz_E1clsl_1 A A_170 := SA_trans (cA_16) hA_170 (any_subA (by decide +kernel))
        have mA_170 := SAm_of cA_170 oz_E1cls_2
        refine Ew_of (pcₚ := 172) (fun _ => x_iload rfl l170_6) ?_
        refine Ew_of (pcₚ := 173) (fun _ => x_aload_n rfl l170_0) ?_
        refine v_g H (o := 0) (v := I (u0_1)) rfl rfl rfl rfl rfl (congrArg (fun z : Int => I z) (((mF_170 0 1 rfl).trans (eu0_1)) : F_170 0 1 = u0_1)) ?_
        refine w_icmpge (t := 258) rfl rfl (show inr (x170_6) from j170_1) (show inr (u0_1) from q_22 r2) (fun b15 => ?_) (fun b15 => ?_)
        · have hl6 : (x170_6) = ((u0_1)) := q_3096 b15 hl4 j16_3 j170_3
          have hlyE : LYC ((w1)) ((u0_1)) ((u0_0)) ((w170_7)) (x170_5) (cum ((w1)) ((x170_6))) 0 := j170_4
          have hla : LAID ((w1)) ((u0_1)) ((u0_0)) ((w170_7)) := LYC_end hS.1 ⟨by omega, by omega⟩ hlyE (by rw [hl6]; omega)
          have hct : ∀ s, 0 ≤ s → s < ((u0_1)) → su (eqs ((w170_7)) s) (p2 ((u0_0))).toNat = mass (((w1)) s) := fun s a b => LAID_cnt hS.1 (by omega) hla hS.2.2.2.2 a b
          have hrg : ∀ k, 0 ≤ k → k < p2 ((u0_0)) → 0 ≤ ((w170_7)) k ∧ ((w170_7)) k < ((u0_1)) := fun k a b => ⟨(LAID_rngO hS.1 (by omega) hla a b).1, (LAID_rngO hS.1 (by omega) hla a b).2.1⟩
          refine Ew_of (pcₚ := 259) (fun _ => x_iconst rfl) ?_
          refine Ew_of (pcₚ := 261) (fun _ => x_istore rfl) ?_
          have hu0 : UCI ((w170_7)) ((w16_5)) ((u0_1)) 0 := UCI_0 hUn
          have hx0 : XNI ((w1)) ((w170_7)) ((w6)) 0 := XNI_0
          have hp0 : PLI ((w1)) ((w170_7)) ((w8)) 0 := PLI_0
          suffices hl261 : ∀ (m : Nat), ∀ (ls : rO) (σ : rS) (F_261 : hF) (A_261 : hA) (x261_6 : Int), rlook ls 0 = some (.ref (D 0)) → rlook ls 1 = some (I (p2 (u0_0))) → rlook ls 6 = some (I (x261_6)) → HW V169 σ D N F_261 A_261 → OUT (V169).length D N σE c s D N σ c s → SF [] F_170 F_261 → SA [5, 6, 8] A_170 A_261 → ∀ w261_5 : Int → Int, A_261 5 = w261_5 → ∀ w261_6 : Int → Int, A_261 6 = w261_6 → ∀ w261_8 : Int → Int, A_261 8 = w261_8 → (inr (x261_6)) → ((0) ≤ (x261_6)) → ((x261_6) ≤ (0) ∨ (x261_6) ≤ ((p2 (u0_0)))) → (UCI ((w170_7)) ((w261_5)) ((u0_1)) (x261_6)) → (XNI ((w1)) ((w170_7)) ((w261_6)) (x261_6)) → (PLI ((w1)) ((w170_7)) ((w261_8)) (x261_6)) → (((p2 (u0_0))) - (x261_6)).toNat = m → Ew 169 (d + 0) 261 ls [] σ c s Q from
            hl261 _ _ _ _ _ (0) (rk_o (l170_0) rfl rfl) (rk_o (l170_1) rfl rfl) (rk_s) H O (SF_refl) (SA_refl)    (w16_5) ((funext (hA_170 5 rfl)).trans (ew16_5)) (w6) ((funext (hA_170 6 rfl)).trans ((funext (hA_16 6 rfl)).trans (ew6))) (w8) ((funext (hA_170 8 rfl)).trans ((funext (hA_16 8 rfl)).trans (ew8))) (show inr (0) from q_20) (show (0) ≤ (0) from q_25) (show (0) ≤ (0) ∨ (0) ≤ ((p2 (u0_0))) from q_24) (show UCI ((w170_7)) ((w16_5)) ((u0_1)) (0) from hu0) (show XNI ((w1)) ((w170_7)) ((w6)) (0) from hx0) (show PLI ((w1)) ((w170_7)) ((w8)) (0) from hp0) rfl
          as_aux_lemma =>
          intro m
          induction m using Nat.strongRecOn with
          | _ m ih261 =>
            intro ls σ F_261 A_261 x261_6 l261_0 l261_1 l261_6 H O hS_261 hA_261    w261_5 ew261_5 w261_6 ew261_6 w261_8 ew261_8 j261_0 j261_1 j261_2 j261_3 j261_4 j261_5 hm261
            have cF_261 : SF oz_E1clsl_0 F F_261 := SF_trans (cF_170) hS_261 (any_sub (by decide +kernel))
            have mF_261 := SFm_of cF_261 oz_E1cls_1
            have cA_261 : SA oz_E1clsl_1 A A_261 := SA_trans (cA_170) hA_261 (any_subA (by decide +kernel))
            have mA_261 := SAm_of cA_261 oz_E1cls_2
            have huc : UCI ((w170_7)) ((w261_5)) ((u0_1)) (x261_6) := j261_3
            refine Ew_of (pcₚ := 263) (fun _ => x_iload rfl l261_6) ?_
            refine Ew_of (pcₚ := 264) (fun _ => x_iload_n rfl l261_1) ?_
            refine w_icmpge (t := 337) rfl rfl (show inr (x261_6) from j261_0) (show inr (p2 (u0_0)) from q_3097 h1 j170_5 r9) (fun b16 => ?_) (fun b16 => ?_)
            · have hl6e : (x261_6) = p2 ((u0_0)) := q_3098 b16 j170_5 j261_2
              have hXe : XNI ((w1)) ((w170_7)) ((w261_6)) (p2 ((u0_0))) := by rw [← hl6e]; assumption
              have hPe : PLI ((w1)) ((w170_7)) ((w261_8)) (p2 ((u0_0))) := by rw [← hl6e]; assumption
              have hSL : SL ((w1)) ((u0_1)) ((u0_0)) ((w16_2)) ((w16_3)) ((w16_4)) ((w170_7)) ((w261_6)) ((w261_8)) := ⟨hS, hla, hMn, hSn, hBn, hXe, hPe⟩
              exact w_ret rfl (k _ _ _ H O (cF_261) (cA_261) (w16_2) ((funext (hA_261 2 rfl)).trans ((funext (hA_170 2 rfl)).trans (ew16_2))) (w16_3) ((funext (hA_261 3 rfl)).trans ((funext (hA_170 3 rfl)).trans (ew16_3))) (w16_4) ((funext (hA_261 4 rfl)).trans ((funext (hA_170 4 rfl)).trans (ew16_4))) (w261_6) (ew261_6) (w170_7) ((funext (hA_261 7 rfl)).trans (ew170_7)) (w261_8) (ew261_8) (show SL ((w1)) ((u0_1)) ((u0_0)) ((w16_2)) ((w16_3)) ((w16_4)) ((w170_7)) ((w261_6)) ((w261_8)) from hSL))
            · refine Ew_of (pcₚ := 268) (fun _ => x_aload_n rfl l261_0) ?_
              refine v_g H (o := 0) (v := .ref (D 7)) rfl rfl rfl rfl rfl (vrf ((mF_261 0 7 rfl).trans (pf7))) ?_
              refine Ew_of (pcₚ := 273) (fun _ => x_iload rfl l261_6) ?_
              refine v_lI H (o := 7) rfl rfl rfl rfl (n := n7) (en7) (show 0 ≤ x261_6 ∧ x261_6 < n7 from q_3099 b16 h1 j261_1) (fun v17 ev17 qv17 => ?_)
              have ev17 : (w170_7) (x261_6) = v17 := (congrFun ((funext (hA_261 7 rfl)).trans (ew170_7)) (x261_6)).symm.trans ev17
              have hsy := ev17
              have hrg1 := hrg ((x261_6)) (by omega) (by omega)
              rw [hsy] at hrg1
              have hat3 := SHD_at hS (s := (v17)) hrg1.1 hrg1.2
              have hlt := su_eqs_lt hct (by omega) (by omega) hsy hrg1.1 hrg1.2
              have hpx := pl_ix hct hS.2.2.2.2 (by omega) (by omega) hsy hrg1.1 hrg1.2
              refine Ew_of (pcₚ := 276) (fun _ => x_istore rfl) ?_
              refine Ew_of (pcₚ := 277) (fun _ => x_aload_n rfl (rk_o (l261_0) rfl rfl)) ?_
              refine v_g H (o := 0) (v := .ref (D 6)) rfl rfl rfl rfl rfl (vrf ((mF_261 0 8 rfl).trans (pf6))) ?_
              refine Ew_of (pcₚ := 282) (fun _ => x_iload rfl (rk_o (l261_6) rfl rfl)) ?_
              refine Ew_of (pcₚ := 283) (fun _ => x_aload_n rfl (rk_o (l261_0) rfl rfl)) ?_
              refine v_g H (o := 0) (v := .ref (D 2)) rfl rfl rfl rfl rfl (vrf ((mF_261 0 3 rfl).trans (pf2))) ?_
              refine Ew_of (pcₚ := 288) (fun _ => x_iload rfl rk_s) ?_
              refine v_lI H (o := 2) rfl rfl rfl rfl (n := n2) (en2) (show 0 ≤ v17 ∧ v17 < n2 by omega) (fun v18 ev18 qv18 => ?_)
              have ev18 : (w16_2) (v17) = v18 := (congrFun ((funext (hA_261 2 rfl)).trans ((funext (hA_170 2 rfl)).trans (ew16_2))) (v17)).symm.trans ev18
              have hma := (hMn ((v17)) (by omega) (by omega)).symm.trans ev18
              refine Ew_of (pcₚ := 290) (fun _ => x_aload_n rfl (rk_o (l261_0) rfl rfl)) ?_
              refine v_g H (o := 0) (v := .ref (D 5)) rfl rfl rfl rfl rfl (vrf ((mF_261 0 6 rfl).trans (pf5))) ?_
              refine Ew_of (pcₚ := 295) (fun _ => x_iload rfl rk_s) ?_
              refine v_lI H (o := 5) rfl rfl rfl rfl (n := n5) (en5) (show 0 ≤ v17 ∧ v17 < n5 by omega) (fun v19 ev19 qv19 => ?_)
              have ev19 : (w261_5) (v17) = v19 := (congrFun (ew261_5) (v17)).symm.trans ev19
              have hus := (huc ((v17)) (by omega) (by omega)).symm.trans ev19
              refine w_iadd rfl ?_
              refine v_sI H (o := 6) (z := (v18 + v19)) rfl rfl rfl rfl (n := n6) (en6) (show 0 ≤ x261_6 ∧ x261_6 < n6 from q_3100 b16 h1 j261_1) (show inr ((v18 + v19)) by omega) (fun σ H Oₚ => ?_)
              have O := OUT_trans O Oₚ
              have cAu20 : SA oz_E1clsl_1 A (updA A_261 6 (x261_6) ((v18 + v19))) := SA_upd (cA_261) rfl
              have mAu20 := SAm_of cAu20 oz_E1cls_2
              refine Ew_of (pcₚ := 299) (fun _ => x_aload_n rfl (rk_o (l261_0) rfl rfl)) ?_
              refine v_g H (o := 0) (v := .ref (D 8)) rfl rfl rfl rfl rfl (vrf ((mF_261 0 9 rfl).trans (pf8))) ?_
              refine Ew_of (pcₚ := 303) (fun _ => x_aload_n rfl (rk_o (l261_0) rfl rfl)) ?_
              refine v_g H (o := 0) (v := .ref (D 4)) rfl rfl rfl rfl rfl (vrf ((mF_261 0 5 rfl).trans (pf4))) ?_
              refine Ew_of (pcₚ := 308) (fun _ => x_iload rfl rk_s) ?_
              refine v_lI H (o := 4) rfl rfl rfl rfl (n := n4) (en4) (show 0 ≤ v17 ∧ v17 < n4 by omega) (fun v21 ev21 qv21 => ?_)
              have ev21 : (w16_4) (v17) = v21 := (congrFun ((funext (hA_261 4 rfl)).trans ((funext (hA_170 4 rfl)).trans (ew16_4))) (v17)).symm.trans ev21
              have hst := (hSn ((v17)) (by omega) (by omega)).symm.trans ev21
              refine Ew_of (pcₚ := 310) (fun _ => x_aload_n rfl (rk_o (l261_0) rfl rfl)) ?_
              refine v_g H (o := 0) (v := .ref (D 5)) rfl rfl rfl rfl rfl (vrf ((mF_261 0 6 rfl).trans (pf5))) ?_
              refine Ew_of (pcₚ := 315) (fun _ => x_iload rfl rk_s) ?_
              refine v_lI H (o := 5) rfl rfl rfl rfl (n := n5) (en5) (show 0 ≤ v17 ∧ v17 < n5 by omega) (fun v22 ev22 qv22 => ?_)
              have ev22 : (w261_5) (v17) = v22 := (congrFun (ew261_5) (v17)).symm.trans ev22
              have hus2 := (huc ((v17)) (by omega) (by omega)).symm.trans ev22
              refine w_iadd rfl ?_
              refine Ew_of (pcₚ := 319) (fun _ => x_iload rfl (rk_o (l261_6) rfl rfl)) ?_
              refine v_sI H (o := 8) (z := x261_6) rfl rfl rfl rfl (n := n8) (en8) (show 0 ≤ (v21 + v22) ∧ (v21 + v22) < n8 by omega) (show inr (x261_6) from j261_0) (fun σ H Oₚ => ?_)
              have O := OUT_trans O Oₚ
              have cAu23 : SA oz_E1clsl_1 A (updA (updA A_261 6 (x261_6) ((v18 + v19))) 8 ((v21 + v22)) (x261_6)) := SA_upd (cAu20) rfl
              have mAu23 := SAm_of cAu23 oz_E1cls_2
              refine Ew_of (pcₚ := 321) (fun _ => x_aload_n rfl (rk_o (l261_0) rfl rfl)) ?_
              refine v_g H (o := 0) (v := .ref (D 5)) rfl rfl rfl rfl rfl (vrf ((mF_261 0 6 rfl).trans (pf5))) ?_
              refine Ew_of (pcₚ := 326) (fun _ => x_iload rfl rk_s) ?_
              refine Ew_of (pcₚ := 327) (fun _ => x_dup2 rfl rfl rfl) ?_
              refine v_lI H (o := 5) rfl rfl rfl rfl (n := n5) (en5) (show 0 ≤ v17 ∧ v17 < n5 by omega) (fun v24 ev24 qv24 => ?_)
              have ev24 : (w261_5) (v17) = v24 := (congrFun (ew261_5) (v17)).symm.trans ev24
              have hus3 := (huc ((v17)) (by omega) (by omega)).symm.trans ev24
              refine Ew_of (pcₚ := 329) (fun _ => x_iconst rfl) ?_
              refine w_iadd rfl ?_
              refine v_sI H (o := 5) (z := (v24 + 1)) rfl rfl rfl rfl (n := n5) (en5) (show 0 ≤ v17 ∧ v17 < n5 by omega) (show inr ((v24 + 1)) by omega) (fun σ H Oₚ => ?_)
              have O := OUT_trans O Oₚ
              have cAu25 : SA oz_E1clsl_1 A (updA (updA (updA A_261 6 (x261_6) ((v18 + v19))) 8 ((v21 + v22)) (x261_6)) 5 (v17) ((v24 + 1))) := SA_upd (cAu23) rfl
              have mAu25 := SAm_of cAu25 oz_E1cls_2
              refine Ew_of (pcₚ := 334) (fun _ => x_iinc (len := 3) rfl (rk_o (l261_6) rfl rfl)) ?_
              refine Ew_of (pcₚ := 261) (fun _ => x_goto rfl rfl) ?_
              have hu1 : UCI ((w170_7)) ((upd1 (w261_5) (v17) ((v24 + 1)))) ((u0_1)) ((x261_6 + 1)) := UCI_s huc (by omega) rfl hsy (by omega)
              have hx1 : XNI ((w1)) ((w170_7)) ((upd1 (w261_6) (x261_6) ((v18 + v19)))) ((x261_6 + 1)) := XNI_s (by assumption) rfl (by unfold XN; rw [hsy]; omega)
              have hp1 : PLI ((w1)) ((w170_7)) ((upd1 (w261_8) ((v21 + v22)) (x261_6))) ((x261_6 + 1)) := PLI_s hct hrg (by assumption) (by omega) (by omega) rfl hsy (by omega)
              exact ih261 _ (msE hm261 q_31 (q_34 b16)) _ _ _ _ ((x261_6 + 1)) (rk_o (rk_o (l261_0) rfl rfl) rfl rfl) (rk_o (rk_o (l261_1) rfl rfl) rfl rfl) (rk_s) H O (hS_261) (SA_upd (SA_upd (SA_upd (hA_261) rfl) rfl) rfl)    (upd1 (w261_5) (v17) ((v24 + 1))) (congrArg (fun q => upd1 q (v17) ((v24 + 1))) (ew261_5)) (upd1 (w261_6) (x261_6) ((v18 + v19))) (congrArg (fun q => upd1 q (x261_6) ((v18 + v19))) (ew261_6)) (upd1 (w261_8) ((v21 + v22)) (x261_6)) (congrArg (fun q => upd1 q ((v21 + v22)) (x261_6)) (ew261_8)) (show inr ((x261_6 + 1)) from q_3101 b16 h1 j261_1 r9) (show (0) ≤ ((x261_6 + 1)) from q_29 j261_1) (show ((x261_6 + 1)) ≤ (0) ∨ ((x261_6 + 1)) ≤ ((p2 (u0_0))) from q_33 b16) (show UCI ((w170_7)) ((upd1 (w261_5) (v17) ((v24 + 1)))) ((u0_1)) ((x261_6 + 1)) from hu1) (show XNI ((w1)) ((w170_7)) ((upd1 (w261_6) (x261_6) ((v18 + v19)))) ((x261_6 + 1)) from hx1) (show PLI ((w1)) ((w170_7)) ((upd1 (w261_8) ((v21 + v22)) (x261_6))) ((x261_6 + 1)) from hp1) rfl
        · have hat2 := SHD_at hS (s := (x170_6)) (by omega) (by omega)
          have hpo := posi_eq (((w1)) (x170_6))
          refine Ew_of (pcₚ := 180) (fun _ => x_iconst rfl) ?_
          refine Ew_of (pcₚ := 182) (fun _ => x_istore rfl) ?_
          have hly2 : LYC ((w1)) ((u0_1)) ((u0_0)) ((w170_7)) (x170_5) (cum ((w1)) ((x170_6)) + 0) 0 := by rw [Int.add_zero]; assumption
          suffices hl182 : ∀ (m : Nat), ∀ (ls : rO) (σ : rS) (F_182 : hF) (A_182 : hA) (x182_5 : Int) (x182_7 : Int), rlook ls 0 = some (.ref (D 0)) → rlook ls 1 = some (I (p2 (u0_0))) → rlook ls 2 = some (I (x16_2)) → rlook ls 4 = some (I (((z13 + z14) + 3))) → rlook ls 5 = some (I (x182_5)) → rlook ls 6 = some (I (x170_6)) → rlook ls 7 = some (I (x182_7)) → HW V169 σ D N F_182 A_182 → OUT (V169).length D N σE c s D N σ c s → SF [] F_170 F_182 → SA [7] A_170 A_182 → ∀ w182_7 : Int → Int, A_182 7 = w182_7 → (inr (x182_5)) → (inr (x182_7)) → (0 ≤ (x182_7) ∧ (x182_7) ≤ posi (((w1)) (x170_6))) → (LYC ((w1)) ((u0_1)) ((u0_0)) ((w182_7)) (x182_5) (cum ((w1)) ((x170_6)) + (x182_7)) 0) → (0 ≤ (x182_5) ∧ (x182_5) < p2 ((u0_0))) → (p2 ((u0_0)) - ngs ((w1)) ((u0_1)) ≤ cum ((w1)) ((x170_6)) + (x182_7) ∨ (x182_5) ≤ (x16_2)) → (((w1)) (x170_6) - (x182_7)).toNat = m → Ew 169 (d + 0) 182 ls [] σ c s Q from
            hl182 _ _ _ _ _ (x170_5) (0) (rk_o (l170_0) rfl rfl) (rk_o (l170_1) rfl rfl) (rk_o (l170_2) rfl rfl) (rk_o (l170_4) rfl rfl) (rk_o (l170_5) rfl rfl) (rk_o (l170_6) rfl rfl) (rk_s) H O (SF_refl) (SA_refl)    (w170_7) (ew170_7) (show inr (x170_5) from j170_0) (show inr (0) from q_20) (show 0 ≤ (0) ∧ (0) ≤ posi (((w1)) (x170_6)) by omega) (show LYC ((w1)) ((u0_1)) ((u0_0)) ((w170_7)) (x170_5) (cum ((w1)) ((x170_6)) + (0)) 0 from hly2) (show 0 ≤ (x170_5) ∧ (x170_5) < p2 ((u0_0)) from j170_5) (show p2 ((u0_0)) - ngs ((w1)) ((u0_1)) ≤ cum ((w1)) ((x170_6)) + (0) ∨ (x170_5) ≤ (x16_2) from q_3102 j16_0 j170_0 j170_6) rfl
          as_aux_lemma =>
          intro m
          induction m using Nat.strongRecOn with
          | _ m ih182 =>
            intro ls σ F_182 A_182 x182_5 x182_7 l182_0 l182_1 l182_2 l182_4 l182_5 l182_6 l182_7 H O hS_182 hA_182    w182_7 ew182_7 j182_0 j182_1 j182_2 j182_3 j182_4 j182_5 hm182
            have cF_182 : SF oz_E1clsl_0 F F_182 := SF_trans (cF_170) hS_182 (any_sub (by decide +kernel))
            have mF_182 := SFm_of cF_182 oz_E1cls_1
            have cA_182 : SA oz_E1clsl_1 A A_182 := SA_trans (cA_170) hA_182 (any_subA (by decide +kernel))
            have mA_182 := SAm_of cA_182 oz_E1cls_2
            have hlyA : LYC ((w1)) ((u0_1)) ((u0_0)) ((w182_7)) (x182_5) (cum ((w1)) ((x170_6)) + (x182_7)) 0 := j182_3
            refine Ew_of (pcₚ := 184) (fun _ => x_iload rfl l182_7) ?_
            refine Ew_of (pcₚ := 185) (fun _ => x_aload_n rfl l182_0) ?_
            refine v_g H (o := 0) (v := .ref (D 1)) rfl rfl rfl rfl rfl (vrf ((mF_182 0 2 rfl).trans (pf1))) ?_
            refine Ew_of (pcₚ := 190) (fun _ => x_iload rfl l182_6) ?_
            refine v_lI H (o := 1) rfl rfl rfl rfl (n := n1) (en1) (show 0 ≤ x170_6 ∧ x170_6 < n1 from q_3103 b15 h1 j170_2) (fun v26 ev26 qv26 => ?_)
            have ev26 : (w1) (x170_6) = v26 := (congrFun ((funext (mA_182 1 rfl)).trans (ew1)) (x170_6)).symm.trans ev26
            refine w_icmpge (t := 252) rfl rfl (show inr (x182_7) from j182_1) (show inr (v26) from qv26) (fun b27 => ?_) (fun b27 => ?_)
            · have hcs : cum ((w1)) ((x170_6) + 1) = cum ((w1)) ((x170_6)) + (x182_7) := by omega
              have hly6 : LYC ((w1)) ((u0_1)) ((u0_0)) ((w182_7)) (x182_5) (cum ((w1)) ((x170_6) + 1)) 0 := by rw [hcs]; assumption
              refine Ew_of (pcₚ := 255) (fun _ => x_iinc (len := 3) rfl (l182_6)) ?_
              refine Ew_of (pcₚ := 170) (fun _ => x_goto rfl rfl) ?_
              exact ih170 _ (msE hm170 q_31 (q_34 b15)) _ _ _ _ (x182_5) ((x170_6 + 1)) (rk_o (l182_0) rfl rfl) (rk_o (l182_1) rfl rfl) (rk_o (l182_2) rfl rfl) (rk_o (l182_4) rfl rfl) (rk_o (l182_5) rfl rfl) (rk_s) H O (SF_trans (hS_170) hS_182 (any_sub (by decide +kernel))) (SA_trans (hA_170) hA_182 (any_subA (by decide +kernel)))    (w182_7) (ew182_7) (show inr (x182_5) from j182_0) (show inr ((x170_6 + 1)) from q_3105 b15 h1 j170_2 r6) (show (0) ≤ ((x170_6 + 1)) from q_29 j170_2) (show ((x170_6 + 1)) ≤ (0) ∨ ((x170_6 + 1)) ≤ ((u0_1)) from q_33 b15) (show LYC ((w1)) ((u0_1)) ((u0_0)) ((w182_7)) (x182_5) (cum ((w1)) (((x170_6 + 1)))) 0 from hly6) (show 0 ≤ (x182_5) ∧ (x182_5) < p2 ((u0_0)) from j182_4) (show p2 ((u0_0)) - ngs ((w1)) ((u0_1)) ≤ cum ((w1)) (((x170_6 + 1))) ∨ (x182_5) ≤ (x16_2) from q_3104 hcs j16_0 j182_0 j182_5) rfl
            · have hc : cum ((w1)) ((x170_6)) + (x182_7) < p2 ((u0_0)) - ngs ((w1)) ((u0_1)) := by omega
              have ha : (x182_5) < p2 ((u0_0)) - ngs ((w1)) ((u0_1)) := q_3106 hc hl2 j182_5
              refine Ew_of (pcₚ := 195) (fun _ => x_aload_n rfl l182_0) ?_
              refine v_g H (o := 0) (v := .ref (D 7)) rfl rfl rfl rfl rfl (vrf ((mF_182 0 7 rfl).trans (pf7))) ?_
              refine Ew_of (pcₚ := 200) (fun _ => x_iload rfl l182_5) ?_
              refine Ew_of (pcₚ := 202) (fun _ => x_iload rfl l182_6) ?_
              refine v_sI H (o := 7) (z := x170_6) rfl rfl rfl rfl (n := n7) (en7) (show 0 ≤ x182_5 ∧ x182_5 < n7 from q_3107 h1 j182_4) (show inr (x170_6) from j170_1) (fun σ H Oₚ => ?_)
              have O := OUT_trans O Oₚ
              have cAu28 : SA oz_E1clsl_1 A (updA A_182 7 (x182_5) (x170_6)) := SA_upd (cA_182) rfl
              have mAu28 := SAm_of cAu28 oz_E1cls_2
              refine Ew_of (pcₚ := 205) (fun _ => x_iload rfl l182_5) ?_
              refine Ew_of (pcₚ := 207) (fun _ => x_iload rfl l182_4) ?_
              refine w_iadd rfl ?_
              refine Ew_of (pcₚ := 209) (fun _ => x_iload_n rfl l182_1) ?_
              refine Ew_of (pcₚ := 210) (fun _ => x_iconst rfl) ?_
              refine w_isub rfl ?_
              refine w_iandE rfl (show inr ((x182_5 + ((z13 + z14) + 3))) from q_3109 dz13 dz14 h1 j182_4 r9) (show inr ((p2 (u0_0) - 1)) from q_3108 h1 j182_4 r9) (fun z29 gz29 gaz29 gbz29 gez29 => ?_)
              have hz : andI ((x182_5) + (((z13 + z14) + 3))) (p2 ((u0_0)) - 1) = (z29) := gez29
              have hl5 : ((z29) : Int) = ((x182_5) + (p2 ((u0_0)) / 2 + p2 ((u0_0)) / 8 + 3)) % p2 ((u0_0)) := by rw [← hz, andI_mod (by omega) (by omega), show ((((z13 + z14) + 3)) : Int) = p2 ((u0_0)) / 2 + p2 ((u0_0)) / 8 + 3 by omega]
              refine Ew_of (pcₚ := 214) (fun _ => x_istore rfl) ?_
              refine Ew_of (pcₚ := 215) (fun _ => x_iconst rfl) ?_
              refine Ew_of (pcₚ := 217) (fun _ => x_istore rfl) ?_
              have hly3 : LYC ((w1)) ((u0_1)) ((u0_0)) ((upd1 (w182_7) (x182_5) (x170_6))) (z29) (cum ((w1)) ((x170_6)) + (x182_7) + 1) 0 := LYC_put hS.1 ⟨by omega, by omega⟩ hlyA ha hc (by omega) (by omega) (by omega) (by omega) hl5 rfl
              have hr3 := LYC_rng hly3
              suffices hl217 : ∀ (m : Nat), ∀ (ls : rO) (σ : rS) (F_217 : hF) (A_217 : hA) (x217_5 : Int) (x217_8 : Int), rlook ls 0 = some (.ref (D 0)) → rlook ls 1 = some (I (p2 (u0_0))) → rlook ls 2 = some (I (x16_2)) → rlook ls 4 = some (I (((z13 + z14) + 3))) → rlook ls 5 = some (I (x217_5)) → rlook ls 6 = some (I (x170_6)) → rlook ls 7 = some (I (x182_7)) → rlook ls 8 = some (I (x217_8)) → HW V169 σ D N F_217 A_217 → OUT (V169).length D N σE c s D N σ c s → SF [] F_182 F_217 → SA [] (updA A_182 7 (x182_5) (x170_6)) A_217 → (inr (x217_5)) → (inr (x217_8)) → ((0) ≤ (x217_8)) → ((x217_8) ≤ (0) ∨ (x217_8) ≤ ((p2 (u0_0)))) → (LYC ((w1)) ((u0_1)) ((u0_0)) ((upd1 (w182_7) (x182_5) (x170_6))) (x217_5) (cum ((w1)) ((x170_6)) + (x182_7) + 1) (x217_8)) → (0 ≤ (x217_5) ∧ (x217_5) < p2 ((u0_0))) → (((p2 (u0_0))) - (x217_8)).toNat = m → Ew 169 (d + 0) 217 ls [] σ c s Q from
                hl217 _ _ _ _ _ (z29) (0) (rk_o (rk_o (l182_0) rfl rfl) rfl rfl) (rk_o (rk_o (l182_1) rfl rfl) rfl rfl) (rk_o (rk_o (l182_2) rfl rfl) rfl rfl) (rk_o (rk_o (l182_4) rfl rfl) rfl rfl) (rk_o (rk_s) rfl rfl) (rk_o (rk_o (l182_6) rfl rfl) rfl rfl) (rk_o (rk_o (l182_7) rfl rfl) rfl rfl) (rk_s) H O (SF_refl) (SA_refl)     (show inr (z29) from gz29) (show inr (0) from q_20) (show (0) ≤ (0) from q_25) (show (0) ≤ (0) ∨ (0) ≤ ((p2 (u0_0))) from q_24) (show LYC ((w1)) ((u0_1)) ((u0_0)) ((upd1 (w182_7) (x182_5) (x170_6))) (z29) (cum ((w1)) ((x170_6)) + (x182_7) + 1) (0) from hly3) (show 0 ≤ (z29) ∧ (z29) < p2 ((u0_0)) from q_3110 gbz29 j182_4) rfl
              as_aux_lemma =>
              intro m
              induction m using Nat.strongRecOn with
              | _ m ih217 =>
                intro ls σ F_217 A_217 x217_5 x217_8 l217_0 l217_1 l217_2 l217_4 l217_5 l217_6 l217_7 l217_8 H O hS_217 hA_217     j217_0 j217_1 j217_2 j217_3 j217_4 j217_5 hm217
                have cF_217 : SF oz_E1clsl_0 F F_217 := SF_trans (cF_182) hS_217 (any_sub (by decide +kernel))
                have mF_217 := SFm_of cF_217 oz_E1cls_1
                have cA_217 : SA oz_E1clsl_1 A A_217 := SA_trans (cAu28) hA_217 (any_subA (by decide +kernel))
                have mA_217 := SAm_of cA_217 oz_E1cls_2
                have hlyB : LYC ((w1)) ((u0_1)) ((u0_0)) ((upd1 (w182_7) (x182_5) (x170_6))) (x217_5) (cum ((w1)) ((x170_6)) + (x182_7) + 1) (x217_8) := j217_4
                refine Ew_of (pcₚ := 219) (fun _ => x_iload rfl l217_8) ?_
                refine Ew_of (pcₚ := 220) (fun _ => x_iload_n rfl l217_1) ?_
                refine w_icmpge (t := 246) rfl rfl (show inr (x217_8) from j217_1) (show inr (p2 (u0_0)) from q_3097 h1 j217_5 r9) (fun b30 => ?_) (fun b30 => ?_)
                · have hly5 : LYC ((w1)) ((u0_1)) ((u0_0)) ((upd1 (w182_7) (x182_5) (x170_6))) (x217_5) (cum ((w1)) ((x170_6)) + ((x182_7) + 1)) 0 := by rw [← Int.add_assoc]; exact LYC_weak hlyB
                  have hd5 : p2 ((u0_0)) - ngs ((w1)) ((u0_1)) ≤ cum ((w1)) ((x170_6)) + ((x182_7) + 1) ∨ (x217_5) ≤ (x16_2) := by first | omega | (have := LYC_turn hS.1 ⟨by omega, by omega⟩ hlyB (by omega); omega)
                  refine Ew_of (pcₚ := 249) (fun _ => x_iinc (len := 3) rfl (l217_7)) ?_
                  refine Ew_of (pcₚ := 182) (fun _ => x_goto rfl rfl) ?_
                  exact ih182 _ (msE hm182 q_31 (q_32 b27 ev26)) _ _ _ _ (x217_5) ((x182_7 + 1)) (rk_o (l217_0) rfl rfl) (rk_o (l217_1) rfl rfl) (rk_o (l217_2) rfl rfl) (rk_o (l217_4) rfl rfl) (rk_o (l217_5) rfl rfl) (rk_o (l217_6) rfl rfl) (rk_s) H O (SF_trans (hS_182) hS_217 (any_sub (by decide +kernel))) (SA_trans (SA_upd (hA_182) rfl) hA_217 (any_subA (by decide +kernel)))    (upd1 (w182_7) (x182_5) (x170_6)) ((funext (hA_217 7 rfl)).trans (congrArg (fun q => upd1 q (x182_5) (x170_6)) (ew182_7))) (show inr (x217_5) from j217_0) (show inr ((x182_7 + 1)) by omega) (show 0 ≤ ((x182_7 + 1)) ∧ ((x182_7 + 1)) ≤ posi (((w1)) (x170_6)) by omega) (show LYC ((w1)) ((u0_1)) ((u0_0)) ((upd1 (w182_7) (x182_5) (x170_6))) (x217_5) (cum ((w1)) ((x170_6)) + ((x182_7 + 1))) 0 from hly5) (show 0 ≤ (x217_5) ∧ (x217_5) < p2 ((u0_0)) from j217_5) (show p2 ((u0_0)) - ngs ((w1)) ((u0_1)) ≤ cum ((w1)) ((x170_6)) + ((x182_7 + 1)) ∨ (x217_5) ≤ (x16_2) from hd5) rfl
                · refine Ew_of (pcₚ := 225) (fun _ => x_iload rfl l217_5) ?_
                  refine Ew_of (pcₚ := 226) (fun _ => x_iload_n rfl l217_2) ?_
                  refine w_icmple (t := 246) rfl rfl (show inr (x217_5) from j217_0) (show inr (x16_2) from j16_0) (fun b31 => ?_) (fun b31 => ?_)
                  · have hly5 : LYC ((w1)) ((u0_1)) ((u0_0)) ((upd1 (w182_7) (x182_5) (x170_6))) (x217_5) (cum ((w1)) ((x170_6)) + ((x182_7) + 1)) 0 := by rw [← Int.add_assoc]; exact LYC_weak hlyB
                    have hd5 : p2 ((u0_0)) - ngs ((w1)) ((u0_1)) ≤ cum ((w1)) ((x170_6)) + ((x182_7) + 1) ∨ (x217_5) ≤ (x16_2) := by first | omega | (have := LYC_turn hS.1 ⟨by omega, by omega⟩ hlyB (by omega); omega)
                    refine Ew_of (pcₚ := 249) (fun _ => x_iinc (len := 3) rfl (l217_7)) ?_
                    refine Ew_of (pcₚ := 182) (fun _ => x_goto rfl rfl) ?_
                    exact ih182 _ (msE hm182 q_31 (q_32 b27 ev26)) _ _ _ _ (x217_5) ((x182_7 + 1)) (rk_o (l217_0) rfl rfl) (rk_o (l217_1) rfl rfl) (rk_o (l217_2) rfl rfl) (rk_o (l217_4) rfl rfl) (rk_o (l217_5) rfl rfl) (rk_o (l217_6) rfl rfl) (rk_s) H O (SF_trans (hS_182) hS_217 (any_sub (by decide +kernel))) (SA_trans (SA_upd (hA_182) rfl) hA_217 (any_subA (by decide +kernel)))    (upd1 (w182_7) (x182_5) (x170_6)) ((funext (hA_217 7 rfl)).trans (congrArg (fun q => upd1 q (x182_5) (x170_6)) (ew182_7))) (show inr (x217_5) from j217_0) (show inr ((x182_7 + 1)) by omega) (show 0 ≤ ((x182_7 + 1)) ∧ ((x182_7 + 1)) ≤ posi (((w1)) (x170_6)) by omega) (show LYC ((w1)) ((u0_1)) ((u0_0)) ((upd1 (w182_7) (x182_5) (x170_6))) (x217_5) (cum ((w1)) ((x170_6)) + ((x182_7 + 1))) 0 from hly5) (show 0 ≤ (x217_5) ∧ (x217_5) < p2 ((u0_0)) from j217_5) (show p2 ((u0_0)) - ngs ((w1)) ((u0_1)) ≤ cum ((w1)) ((x170_6)) + ((x182_7 + 1)) ∨ (x217_5) ≤ (x16_2) from hd5) rfl
                  · refine Ew_of (pcₚ := 231) (fun _ => x_iload rfl l217_5) ?_
                    refine Ew_of (pcₚ := 233) (fun _ => x_iload rfl l217_4) ?_
                    refine w_iadd rfl ?_
                    refine Ew_of (pcₚ := 235) (fun _ => x_iload_n rfl l217_1) ?_
                    refine Ew_of (pcₚ := 236) (fun _ => x_iconst rfl) ?_
                    refine w_isub rfl ?_
                    refine w_iandE rfl (show inr ((x217_5 + ((z13 + z14) + 3))) from q_3109 dz13 dz14 h1 j217_5 r9) (show inr ((p2 (u0_0) - 1)) from q_3108 h1 j217_5 r9) (fun z32 gz32 gaz32 gbz32 gez32 => ?_)
                    have hz2 : andI ((x217_5) + (((z13 + z14) + 3))) (p2 ((u0_0)) - 1) = (z32) := gez32
                    have hl52 : ((z32) : Int) = ((x217_5) + (p2 ((u0_0)) / 2 + p2 ((u0_0)) / 8 + 3)) % p2 ((u0_0)) := by rw [← hz2, andI_mod (by omega) (by omega), show ((((z13 + z14) + 3)) : Int) = p2 ((u0_0)) / 2 + p2 ((u0_0)) / 8 + 3 by omega]
                    refine Ew_of (pcₚ := 240) (fun _ => x_istore rfl) ?_
                    refine Ew_of (pcₚ := 243) (fun _ => x_iinc (len := 3) rfl (rk_o (l217_8) rfl rfl)) ?_
                    refine Ew_of (pcₚ := 217) (fun _ => x_goto rfl rfl) ?_
                    have hly4 : LYC ((w1)) ((u0_1)) ((u0_0)) ((upd1 (w182_7) (x182_5) (x170_6))) (z32) (cum ((w1)) ((x170_6)) + (x182_7) + 1) ((x217_8 + 1)) := LYC_skip hS.1 ⟨by omega, by omega⟩ hlyB (by omega) hl52 rfl
                    have hr4 := LYC_rng hly4
                    exact ih217 _ (msE hm217 q_31 (q_34 b30)) _ _ _ _ (z32) ((x217_8 + 1)) (rk_o (rk_o (l217_0) rfl rfl) rfl rfl) (rk_o (rk_o (l217_1) rfl rfl) rfl rfl) (rk_o (rk_o (l217_2) rfl rfl) rfl rfl) (rk_o (rk_o (l217_4) rfl rfl) rfl rfl) (rk_o (rk_s) rfl rfl) (rk_o (rk_o (l217_6) rfl rfl) rfl rfl) (rk_o (rk_o (l217_7) rfl rfl) rfl rfl) (rk_s) H O (hS_217) (hA_217)     (show inr (z32) from gz32) (show inr ((x217_8 + 1)) from q_3101 b30 h1 j217_2 r9) (show (0) ≤ ((x217_8 + 1)) from q_29 j217_2) (show ((x217_8 + 1)) ≤ (0) ∨ ((x217_8 + 1)) ≤ ((p2 (u0_0))) from q_33 b30) (show LYC ((w1)) ((u0_1)) ((u0_0)) ((upd1 (w182_7) (x182_5) (x170_6))) (z32) (cum ((w1)) ((x170_6)) + (x182_7) + 1) ((x217_8 + 1)) from hly4) (show 0 ≤ (z32) ∧ (z32) < p2 ((u0_0)) from q_3110 gbz32 j217_5) rfl
    · have hat := SHD_at hS (s := (x16_4)) (by omega) (by omega)
      refine Ew_of (pcₚ := 26) (fun _ => x_aload_n rfl l16_0) ?_
      refine v_g H (o := 0) (v := .ref (D 2)) rfl rfl rfl rfl rfl (vrf ((mF_16 0 3 rfl).trans (pf2))) ?_
      refine Ew_of (pcₚ := 31) (fun _ => x_iload rfl l16_4) ?_
      refine Ew_of (pcₚ := 32) (fun _ => x_aload_n rfl l16_0) ?_
      refine v_g H (o := 0) (v := .ref (D 1)) rfl rfl rfl rfl rfl (vrf ((mF_16 0 2 rfl).trans (pf1))) ?_
      refine Ew_of (pcₚ := 37) (fun _ => x_iload rfl l16_4) ?_
      refine v_lI H (o := 1) rfl rfl rfl rfl (n := n1) (en1) (show 0 ≤ x16_4 ∧ x16_4 < n1 from q_3103 b12 h1 j16_3) (fun v33 ev33 qv33 => ?_)
      have ev33 : (w1) (x16_4) = v33 := (congrFun ((funext (mA_16 1 rfl)).trans (ew1)) (x16_4)).symm.trans ev33
      have hc52 : ∀ (tc52_0 : Int), ∀ (ls : rO) (σ : rS) (F_c52 : hF) (A_c52 : hA) , rlook ls 0 = some (.ref (D 0)) → rlook ls 1 = some (I (p2 (u0_0))) → rlook ls 2 = some (I (x16_2)) → rlook ls 3 = some (I (x16_3)) → rlook ls 4 = some (I (x16_4)) → HW V169 σ D N F_c52 A_c52 → OUT (V169).length D N σE c s D N σ c s → SF [] F_16 F_c52 → SA [] A_16 A_c52 → (inr (tc52_0)) → (((v33) ≥ (0) ∧ -2147483648 ≤ ((w1) (x16_4)) ∧ ((w1) (x16_4)) ≤ 2147483647 ∧ (tc52_0) = ((w1) (x16_4))) ∨ ((v33) < (0) ∧ (tc52_0) = (1))) → Ew 169 (d + 0) 52 ls [I (tc52_0), I (x16_4), .ref (D 2)] σ c s Q := by
       as_aux_lemma =>
        intro tc52_0 ls σ F_c52 A_c52  lc52_0 lc52_1 lc52_2 lc52_3 lc52_4 H O hS_c52 hA_c52     jc52_0 jc52_1
        have cF_c52 : SF oz_E1clsl_0 F F_c52 := SF_trans (cF_16) hS_c52 (any_sub (by decide +kernel))
        have mF_c52 := SFm_of cF_c52 oz_E1cls_1
        have cA_c52 : SA oz_E1clsl_1 A A_c52 := SA_trans (cA_16) hA_c52 (any_subA (by decide +kernel))
        have mA_c52 := SAm_of cA_c52 oz_E1cls_2
        have hm : ((tc52_0) : Int) = mass (((w1)) (x16_4)) := by have := mass_eq (((w1)) (x16_4)); omega
        refine v_sI H (o := 2) (z := tc52_0) rfl rfl rfl rfl (n := n2) (en2) (show 0 ≤ x16_4 ∧ x16_4 < n2 from q_3111 b12 h1 j16_3) (show inr (tc52_0) from jc52_0) (fun σ H Oₚ => ?_)
        have O := OUT_trans O Oₚ
        have cAu34 : SA oz_E1clsl_1 A (updA A_c52 2 (x16_4) (tc52_0)) := SA_upd (cA_c52) rfl
        have mAu34 := SAm_of cAu34 oz_E1cls_2
        refine Ew_of (pcₚ := 54) (fun _ => x_aload_n rfl lc52_0) ?_
        refine v_g H (o := 0) (v := .ref (D 4)) rfl rfl rfl rfl rfl (vrf ((mF_c52 0 5 rfl).trans (pf4))) ?_
        refine Ew_of (pcₚ := 59) (fun _ => x_iload rfl lc52_4) ?_
        refine Ew_of (pcₚ := 60) (fun _ => x_iload_n rfl lc52_3) ?_
        refine v_sI H (o := 4) (z := x16_3) rfl rfl rfl rfl (n := n4) (en4) (show 0 ≤ x16_4 ∧ x16_4 < n4 from q_3112 b12 h1 j16_3) (show inr (x16_3) from j16_1) (fun σ H Oₚ => ?_)
        have O := OUT_trans O Oₚ
        have cAu35 : SA oz_E1clsl_1 A (updA (updA A_c52 2 (x16_4) (tc52_0)) 4 (x16_4) (x16_3)) := SA_upd (cAu34) rfl
        have mAu35 := SAm_of cAu35 oz_E1cls_2
        refine Ew_of (pcₚ := 62) (fun _ => x_aload_n rfl lc52_0) ?_
        refine v_g H (o := 0) (v := .ref (D 5)) rfl rfl rfl rfl rfl (vrf ((mF_c52 0 6 rfl).trans (pf5))) ?_
        refine Ew_of (pcₚ := 67) (fun _ => x_iload rfl lc52_4) ?_
        refine Ew_of (pcₚ := 68) (fun _ => x_iconst rfl) ?_
        refine v_sI H (o := 5) (z := 0) rfl rfl rfl rfl (n := n5) (en5) (show 0 ≤ x16_4 ∧ x16_4 < n5 from q_3113 b12 h1 j16_3) (show inr (0) from q_20) (fun σ H Oₚ => ?_)
        have O := OUT_trans O Oₚ
        have cAu36 : SA oz_E1clsl_1 A (updA (updA (updA A_c52 2 (x16_4) (tc52_0)) 4 (x16_4) (x16_3)) 5 (x16_4) (0)) := SA_upd (cAu35) rfl
        have mAu36 := SAm_of cAu36 oz_E1cls_2
        refine Ew_of (pcₚ := 70) (fun _ => x_aload_n rfl lc52_0) ?_
        refine v_g H (o := 0) (v := .ref (D 3)) rfl rfl rfl rfl rfl (vrf ((mF_c52 0 4 rfl).trans (pf3))) ?_
        refine Ew_of (pcₚ := 75) (fun _ => x_iload rfl lc52_4) ?_
        refine Ew_of (pcₚ := 76) (fun _ => x_aload_n rfl lc52_0) ?_
        refine v_g H (o := 0) (v := I (u0_0)) rfl rfl rfl rfl rfl (congrArg (fun z : Int => I z) (((mF_c52 0 0 rfl).trans (eu0_0)) : F_c52 0 0 = u0_0)) ?_
        refine v_sI H (o := 3) (z := u0_0) rfl rfl rfl rfl (n := n3) (en3) (show 0 ≤ x16_4 ∧ x16_4 < n3 from q_3114 b12 h1 j16_3) (show inr (u0_0) from q_22 r1) (fun σ H Oₚ => ?_)
        have O := OUT_trans O Oₚ
        have cAu37 : SA oz_E1clsl_1 A (updA (updA (updA (updA A_c52 2 (x16_4) (tc52_0)) 4 (x16_4) (x16_3)) 5 (x16_4) (0)) 3 (x16_4) (u0_0)) := SA_upd (cAu36) rfl
        have mAu37 := SAm_of cAu37 oz_E1cls_2
        refine Ew_of (pcₚ := 81) (fun _ => x_aload_n rfl lc52_0) ?_
        refine v_g H (o := 0) (v := .ref (D 2)) rfl rfl rfl rfl rfl (vrf ((mF_c52 0 3 rfl).trans (pf2))) ?_
        refine Ew_of (pcₚ := 86) (fun _ => x_iload rfl lc52_4) ?_
        refine v_lI H (o := 2) rfl rfl rfl rfl (n := n2) (en2) (show 0 ≤ x16_4 ∧ x16_4 < n2 from q_3111 b12 h1 j16_3) (fun v38 ev38 qv38 => ?_)
        have ev38 : (upd1 (w16_2) (x16_4) (tc52_0)) (x16_4) = v38 := (congrFun (congrArg (fun q => upd1 q (x16_4) (tc52_0)) ((funext (hA_c52 2 rfl)).trans (ew16_2))) (x16_4)).symm.trans ev38
        have hx := ev38
        rw [upd1_s] at hx
        refine Ew_of (pcₚ := 88) (fun _ => x_iconst rfl) ?_
        refine w_ishrK 1 2 (by decide) (by decide) rfl (show inr (v38) from qv38) (fun z39 gz39 dz39 => ?_)
        refine Ew_of (pcₚ := 91) (fun _ => x_istore rfl) ?_
        have hb0 : HBI (mass (((w1)) (x16_4))) (((u0_0)) - ((upd1 (w16_3) (x16_4) (u0_0))) (x16_4)) (z39) := by rw [upd1_s, show ((u0_0)) - ((u0_0)) = 0 by omega]; exact HBI_0 (by omega) (by omega)
        have hbs : BSI ((w1)) ((upd1 (w16_3) (x16_4) (u0_0))) ((u0_0)) (x16_4) := BSI_upd (by assumption)
        suffices hl91 : ∀ (m : Nat), ∀ (ls : rO) (σ : rS) (F_91 : hF) (A_91 : hA) (x91_5 : Int), rlook ls 0 = some (.ref (D 0)) → rlook ls 1 = some (I (p2 (u0_0))) → rlook ls 2 = some (I (x16_2)) → rlook ls 3 = some (I (x16_3)) → rlook ls 4 = some (I (x16_4)) → rlook ls 5 = some (I (x91_5)) → HW V169 σ D N F_91 A_91 → OUT (V169).length D N σE c s D N σ c s → SF [] F_c52 F_91 → SA [3] (updA (updA (updA (updA A_c52 2 (x16_4) (tc52_0)) 4 (x16_4) (x16_3)) 5 (x16_4) (0)) 3 (x16_4) (u0_0)) A_91 → ∀ w91_3 : Int → Int, A_91 3 = w91_3 → (inr (x91_5)) → (HBI (mass (((w1)) (x16_4))) (((u0_0)) - ((w91_3)) (x16_4)) (x91_5)) → (BSI ((w1)) ((w91_3)) ((u0_0)) (x16_4)) → (0 ≤ (x91_5)) → ((x91_5)).toNat = m → Ew 169 (d + 0) 91 ls [] σ c s Q from
          hl91 _ _ _ _ _ (z39) (rk_o (lc52_0) rfl rfl) (rk_o (lc52_1) rfl rfl) (rk_o (lc52_2) rfl rfl) (rk_o (lc52_3) rfl rfl) (rk_o (lc52_4) rfl rfl) (rk_s) H O (SF_refl) (SA_refl)    (upd1 (w16_3) (x16_4) (u0_0)) (congrArg (fun q => upd1 q (x16_4) (u0_0)) ((funext (hA_c52 3 rfl)).trans (ew16_3))) (show inr (z39) from gz39) (show HBI (mass (((w1)) (x16_4))) (((u0_0)) - ((upd1 (w16_3) (x16_4) (u0_0))) (x16_4)) (z39) from hb0) (show BSI ((w1)) ((upd1 (w16_3) (x16_4) (u0_0))) ((u0_0)) (x16_4) from hbs) (show 0 ≤ (z39) by omega) rfl
        as_aux_lemma =>
        intro m
        induction m using Nat.strongRecOn with
        | _ m ih91 =>
          intro ls σ F_91 A_91 x91_5 l91_0 l91_1 l91_2 l91_3 l91_4 l91_5 H O hS_91 hA_91    w91_3 ew91_3 j91_0 j91_1 j91_2 j91_3 hm91
          have cF_91 : SF oz_E1clsl_0 F F_91 := SF_trans (cF_c52) hS_91 (any_sub (by decide +kernel))
          have mF_91 := SFm_of cF_91 oz_E1cls_1
          have cA_91 : SA oz_E1clsl_1 A A_91 := SA_trans (cAu37) hA_91 (any_subA (by decide +kernel))
          have mA_91 := SAm_of cA_91 oz_E1cls_2
          have hh : HBI (mass (((w1)) (x16_4))) (((u0_0)) - ((w91_3)) (x16_4)) (x91_5) := j91_1
          refine Ew_of (pcₚ := 93) (fun _ => x_iload rfl l91_5) ?_
          refine w_ifle (t := 116) rfl rfl (show inr (x91_5) from j91_0) (fun b40 => ?_) (fun b40 => ?_)
          · have hbt : BT (mass (((w1)) (x16_4))) (((u0_0)) - ((w91_3)) (x16_4)) := HBI_end hh (by omega)
            refine Ew_of (pcₚ := 117) (fun _ => x_iload_n rfl l91_3) ?_
            refine Ew_of (pcₚ := 118) (fun _ => x_aload_n rfl l91_0) ?_
            refine v_g H (o := 0) (v := .ref (D 2)) rfl rfl rfl rfl rfl (vrf ((mF_91 0 3 rfl).trans (pf2))) ?_
            refine Ew_of (pcₚ := 123) (fun _ => x_iload rfl l91_4) ?_
            refine v_lI H (o := 2) rfl rfl rfl rfl (n := n2) (en2) (show 0 ≤ x16_4 ∧ x16_4 < n2 from q_3111 b12 h1 j16_3) (fun v41 ev41 qv41 => ?_)
            have ev41 : (upd1 (w16_2) (x16_4) (tc52_0)) (x16_4) = v41 := (congrFun ((funext (hA_91 2 rfl)).trans (congrArg (fun q => upd1 q (x16_4) (tc52_0)) ((funext (hA_c52 2 rfl)).trans (ew16_2)))) (x16_4)).symm.trans ev41
            have hx2 := ev41
            rw [upd1_s] at hx2
            refine w_iadd rfl ?_
            refine Ew_of (pcₚ := 126) (fun _ => x_istore_n rfl) ?_
            refine Ew_of (pcₚ := 127) (fun _ => x_aload_n rfl (rk_o (l91_0) rfl rfl)) ?_
            refine v_g H (o := 0) (v := .ref (D 1)) rfl rfl rfl rfl rfl (vrf ((mF_91 0 2 rfl).trans (pf1))) ?_
            refine Ew_of (pcₚ := 132) (fun _ => x_iload rfl (rk_o (l91_4) rfl rfl)) ?_
            refine v_lI H (o := 1) rfl rfl rfl rfl (n := n1) (en1) (show 0 ≤ x16_4 ∧ x16_4 < n1 from q_3103 b12 h1 j16_3) (fun v42 ev42 qv42 => ?_)
            have ev42 : (w1) (x16_4) = v42 := (congrFun ((funext (mA_91 1 rfl)).trans (ew1)) (x16_4)).symm.trans ev42
            refine w_ifge (t := 147) rfl rfl (show inr (v42) from qv42) (fun b43 => ?_) (fun b43 => ?_)
            · have hng2 := neg1_eq (((w1)) (x16_4))
              refine Ew_of (pcₚ := 150) (fun _ => x_iinc (len := 3) rfl (rk_o (l91_4) rfl rfl)) ?_
              refine Ew_of (pcₚ := 16) (fun _ => x_goto rfl rfl) ?_
              have hM1 : MSI ((w1)) ((upd1 (w16_2) (x16_4) (tc52_0))) ((x16_4 + 1)) := MSI_s (by assumption) rfl hm
              have hS1 : SSC ((w1)) ((upd1 (w16_4) (x16_4) (x16_3))) ((x16_4 + 1)) := SSC_s (by assumption) rfl (by omega)
              have hU1 : USI ((upd1 (w16_5) (x16_4) (0))) ((x16_4 + 1)) := USI_s (by assumption) rfl
              have hB1 : BSI ((w1)) ((w91_3)) ((u0_0)) ((x16_4 + 1)) := BSI_s (by assumption) rfl hbt
              have hN1 : NGI ((w1)) ((w16_7)) ((u0_0)) ((x16_4 + 1)) := by first | exact NGI_put (by assumption) rfl (by omega) | exact NGI_skip (by assumption) rfl (by omega)
              exact ih16 _ (msE hm16 q_31 (q_34 b12)) _ _ _ _ (x16_2) ((x16_3 + v41)) ((x16_4 + 1)) (rk_o (rk_o (l91_0) rfl rfl) rfl rfl) (rk_o (rk_o (l91_1) rfl rfl) rfl rfl) (rk_o (rk_o (l91_2) rfl rfl) rfl rfl) (rk_o (rk_s) rfl rfl) (rk_s) H O (SF_trans (SF_trans (hS_16) hS_c52 (any_sub (by decide +kernel))) hS_91 (any_sub (by decide +kernel))) (SA_trans (SA_upd (SA_upd (SA_upd (SA_upd (SA_trans (hA_16) hA_c52 (any_subA (by decide +kernel))) rfl) rfl) rfl) rfl) hA_91 (any_subA (by decide +kernel)))    (upd1 (w16_2) (x16_4) (tc52_0)) ((funext (hA_91 2 rfl)).trans (congrArg (fun q => upd1 q (x16_4) (tc52_0)) ((funext (hA_c52 2 rfl)).trans (ew16_2)))) (w91_3) (ew91_3) (upd1 (w16_4) (x16_4) (x16_3)) ((funext (hA_91 4 rfl)).trans (congrArg (fun q => upd1 q (x16_4) (x16_3)) ((funext (hA_c52 4 rfl)).trans (ew16_4)))) (upd1 (w16_5) (x16_4) (0)) ((funext (hA_91 5 rfl)).trans (congrArg (fun q => upd1 q (x16_4) (0)) ((funext (hA_c52 5 rfl)).trans (ew16_5)))) (w16_7) ((funext (hA_91 7 rfl)).trans ((funext (hA_c52 7 rfl)).trans (ew16_7))) (show inr (x16_2) from j16_0) (show inr ((x16_3 + v41)) by omega) (show inr ((x16_4 + 1)) from q_3105 b12 h1 j16_3 r6) (show (0) ≤ ((x16_4 + 1)) from q_29 j16_3) (show ((x16_4 + 1)) ≤ (0) ∨ ((x16_4 + 1)) ≤ ((u0_1)) from q_33 b12) (show (x16_2) = p2 ((u0_0)) - 1 - ngs ((w1)) ((x16_4 + 1)) by omega) (show ((x16_3 + v41)) = mp ((w1)) ((x16_4 + 1)) by omega) (show MSI ((w1)) ((upd1 (w16_2) (x16_4) (tc52_0))) ((x16_4 + 1)) from hM1) (show SSC ((w1)) ((upd1 (w16_4) (x16_4) (x16_3))) ((x16_4 + 1)) from hS1) (show USI ((upd1 (w16_5) (x16_4) (0))) ((x16_4 + 1)) from hU1) (show BSI ((w1)) ((w91_3)) ((u0_0)) ((x16_4 + 1)) from hB1) (show NGI ((w1)) ((w16_7)) ((u0_0)) ((x16_4 + 1)) from hN1) rfl
            · have hng := neg1_eq (((w1)) (x16_4))
              refine Ew_of (pcₚ := 137) (fun _ => x_aload_n rfl (rk_o (l91_0) rfl rfl)) ?_
              refine v_g H (o := 0) (v := .ref (D 7)) rfl rfl rfl rfl rfl (vrf ((mF_91 0 7 rfl).trans (pf7))) ?_
              refine Ew_of (pcₚ := 141) (fun _ => x_iload_n rfl (rk_o (l91_2) rfl rfl)) ?_
              refine Ew_of (pcₚ := 144) (fun _ => x_iinc (len := 3) rfl (rk_o (l91_2) rfl rfl)) ?_
              refine Ew_of (pcₚ := 146) (fun _ => x_iload rfl (rk_o (rk_o (l91_4) rfl rfl) rfl rfl)) ?_
              refine v_sI H (o := 7) (z := x16_4) rfl rfl rfl rfl (n := n7) (en7) (show 0 ≤ x16_2 ∧ x16_2 < n7 by omega) (show inr (x16_4) from j16_2) (fun σ H Oₚ => ?_)
              have O := OUT_trans O Oₚ
              have cAu44 : SA oz_E1clsl_1 A (updA A_91 7 (x16_2) (x16_4)) := SA_upd (cA_91) rfl
              have mAu44 := SAm_of cAu44 oz_E1cls_2
              have hng2 := neg1_eq (((w1)) (x16_4))
              refine Ew_of (pcₚ := 150) (fun _ => x_iinc (len := 3) rfl (rk_o (rk_o (l91_4) rfl rfl) rfl rfl)) ?_
              refine Ew_of (pcₚ := 16) (fun _ => x_goto rfl rfl) ?_
              have hM1 : MSI ((w1)) ((upd1 (w16_2) (x16_4) (tc52_0))) ((x16_4 + 1)) := MSI_s (by assumption) rfl hm
              have hS1 : SSC ((w1)) ((upd1 (w16_4) (x16_4) (x16_3))) ((x16_4 + 1)) := SSC_s (by assumption) rfl (by omega)
              have hU1 : USI ((upd1 (w16_5) (x16_4) (0))) ((x16_4 + 1)) := USI_s (by assumption) rfl
              have hB1 : BSI ((w1)) ((w91_3)) ((u0_0)) ((x16_4 + 1)) := BSI_s (by assumption) rfl hbt
              have hN1 : NGI ((w1)) ((upd1 (w16_7) (x16_2) (x16_4))) ((u0_0)) ((x16_4 + 1)) := by first | exact NGI_put (by assumption) rfl (by omega) | exact NGI_skip (by assumption) rfl (by omega)
              exact ih16 _ (msE hm16 q_31 (q_34 b12)) _ _ _ _ ((x16_2 + (-1))) ((x16_3 + v41)) ((x16_4 + 1)) (rk_o (rk_o (rk_o (l91_0) rfl rfl) rfl rfl) rfl rfl) (rk_o (rk_o (rk_o (l91_1) rfl rfl) rfl rfl) rfl rfl) (rk_o (rk_s) rfl rfl) (rk_o (rk_o (rk_s) rfl rfl) rfl rfl) (rk_s) H O (SF_trans (SF_trans (hS_16) hS_c52 (any_sub (by decide +kernel))) hS_91 (any_sub (by decide +kernel))) (SA_upd (SA_trans (SA_upd (SA_upd (SA_upd (SA_upd (SA_trans (hA_16) hA_c52 (any_subA (by decide +kernel))) rfl) rfl) rfl) rfl) hA_91 (any_subA (by decide +kernel))) rfl)    (upd1 (w16_2) (x16_4) (tc52_0)) ((funext (hA_91 2 rfl)).trans (congrArg (fun q => upd1 q (x16_4) (tc52_0)) ((funext (hA_c52 2 rfl)).trans (ew16_2)))) (w91_3) (ew91_3) (upd1 (w16_4) (x16_4) (x16_3)) ((funext (hA_91 4 rfl)).trans (congrArg (fun q => upd1 q (x16_4) (x16_3)) ((funext (hA_c52 4 rfl)).trans (ew16_4)))) (upd1 (w16_5) (x16_4) (0)) ((funext (hA_91 5 rfl)).trans (congrArg (fun q => upd1 q (x16_4) (0)) ((funext (hA_c52 5 rfl)).trans (ew16_5)))) (upd1 (w16_7) (x16_2) (x16_4)) (congrArg (fun q => upd1 q (x16_2) (x16_4)) ((funext (hA_91 7 rfl)).trans ((funext (hA_c52 7 rfl)).trans (ew16_7)))) (show inr ((x16_2 + (-1))) by omega) (show inr ((x16_3 + v41)) by omega) (show inr ((x16_4 + 1)) from q_3105 b12 h1 j16_3 r6) (show (0) ≤ ((x16_4 + 1)) from q_29 j16_3) (show ((x16_4 + 1)) ≤ (0) ∨ ((x16_4 + 1)) ≤ ((u0_1)) from q_33 b12) (show ((x16_2 + (-1))) = p2 ((u0_0)) - 1 - ngs ((w1)) ((x16_4 + 1)) by omega) (show ((x16_3 + v41)) = mp ((w1)) ((x16_4 + 1)) by omega) (show MSI ((w1)) ((upd1 (w16_2) (x16_4) (tc52_0))) ((x16_4 + 1)) from hM1) (show SSC ((w1)) ((upd1 (w16_4) (x16_4) (x16_3))) ((x16_4 + 1)) from hS1) (show USI ((upd1 (w16_5) (x16_4) (0))) ((x16_4 + 1)) from hU1) (show BSI ((w1)) ((w91_3)) ((u0_0)) ((x16_4 + 1)) from hB1) (show NGI ((w1)) ((upd1 (w16_7) (x16_2) (x16_4))) ((u0_0)) ((x16_4 + 1)) from hN1) rfl
          · refine Ew_of (pcₚ := 97) (fun _ => x_aload_n rfl l91_0) ?_
            refine v_g H (o := 0) (v := .ref (D 3)) rfl rfl rfl rfl rfl (vrf ((mF_91 0 4 rfl).trans (pf3))) ?_
            refine Ew_of (pcₚ := 102) (fun _ => x_iload rfl l91_4) ?_
            refine Ew_of (pcₚ := 103) (fun _ => x_dup2 rfl rfl rfl) ?_
            refine v_lI H (o := 3) rfl rfl rfl rfl (n := n3) (en3) (show 0 ≤ x16_4 ∧ x16_4 < n3 from q_3114 b12 h1 j16_3) (fun v45 ev45 qv45 => ?_)
            have ev45 : (w91_3) (x16_4) = v45 := (congrFun (ew91_3) (x16_4)).symm.trans ev45
            have hk := HBI_le hh (by omega)
            have hv := ev45
            refine Ew_of (pcₚ := 105) (fun _ => x_iconst rfl) ?_
            refine w_isub rfl ?_
            refine v_sI H (o := 3) (z := (v45 - 1)) rfl rfl rfl rfl (n := n3) (en3) (show 0 ≤ x16_4 ∧ x16_4 < n3 from q_3114 b12 h1 j16_3) (show inr ((v45 - 1)) by omega) (fun σ H Oₚ => ?_)
            have O := OUT_trans O Oₚ
            have cAu46 : SA oz_E1clsl_1 A (updA A_91 3 (x16_4) ((v45 - 1))) := SA_upd (cA_91) rfl
            have mAu46 := SAm_of cAu46 oz_E1cls_2
            refine Ew_of (pcₚ := 109) (fun _ => x_iload rfl l91_5) ?_
            refine Ew_of (pcₚ := 110) (fun _ => x_iconst rfl) ?_
            refine w_ishrK 1 2 (by decide) (by decide) rfl (show inr (x91_5) from j91_0) (fun z47 gz47 dz47 => ?_)
            refine Ew_of (pcₚ := 113) (fun _ => x_istore rfl) ?_
            refine Ew_of (pcₚ := 91) (fun _ => x_goto rfl rfl) ?_
            have hh2 : HBI (mass (((w1)) (x16_4))) (((u0_0)) - ((upd1 (w91_3) (x16_4) ((v45 - 1)))) (x16_4)) (z47) := by rw [upd1_s]; exact HBI_s hh (by omega) (by omega) (by omega)
            have hbs2 : BSI ((w1)) ((upd1 (w91_3) (x16_4) ((v45 - 1)))) ((u0_0)) (x16_4) := BSI_upd (by assumption)
            exact ih91 _ (msE hm91 (q_2570 b40 dz47) (q_692 b40)) _ _ _ _ (z47) (rk_o (l91_0) rfl rfl) (rk_o (l91_1) rfl rfl) (rk_o (l91_2) rfl rfl) (rk_o (l91_3) rfl rfl) (rk_o (l91_4) rfl rfl) (rk_s) H O (hS_91) (SA_upd (hA_91) rfl)    (upd1 (w91_3) (x16_4) ((v45 - 1))) (congrArg (fun q => upd1 q (x16_4) ((v45 - 1))) (ew91_3)) (show inr (z47) from gz47) (show HBI (mass (((w1)) (x16_4))) (((u0_0)) - ((upd1 (w91_3) (x16_4) ((v45 - 1)))) (x16_4)) (z47) from hh2) (show BSI ((w1)) ((upd1 (w91_3) (x16_4) ((v45 - 1)))) ((u0_0)) (x16_4) from hbs2) (show 0 ≤ (z47) by omega) rfl
      refine w_ifge (t := 45) rfl rfl (show inr (v33) from qv33) (fun b48 => ?_) (fun b48 => ?_)
      · refine Ew_of (pcₚ := 46) (fun _ => x_aload_n rfl l16_0) ?_
        refine v_g H (o := 0) (v := .ref (D 1)) rfl rfl rfl rfl rfl (vrf ((mF_16 0 2 rfl).trans (pf1))) ?_
        refine Ew_of (pcₚ := 51) (fun _ => x_iload rfl l16_4) ?_
        refine v_lI H (o := 1) rfl rfl rfl rfl (n := n1) (en1) (show 0 ≤ x16_4 ∧ x16_4 < n1 from q_3103 b12 h1 j16_3) (fun v49 ev49 qv49 => ?_)
        have ev49 : (w1) (x16_4) = v49 := (congrFun ((funext (mA_16 1 rfl)).trans (ew1)) (x16_4)).symm.trans ev49
        exact hc52 (v49) _ _ _ _  (l16_0) (l16_1) (l16_2) (l16_3) (l16_4) H O (SF_refl) (SA_refl)     (show inr (v49) from qv49) (show ((v33) ≥ (0) ∧ -2147483648 ≤ ((w1) (x16_4)) ∧ ((w1) (x16_4)) ≤ 2147483647 ∧ (v49) = ((w1) (x16_4))) ∨ ((v33) < (0) ∧ (v49) = (1)) from q_3115 b48 ev33 ev49 qv49)
      · refine Ew_of (pcₚ := 42) (fun _ => x_iconst rfl) ?_
        refine Ew_of (pcₚ := 52) (fun _ => x_goto rfl rfl) ?_
        exact hc52 (1) _ _ _ _  (l16_0) (l16_1) (l16_2) (l16_3) (l16_4) H O (SF_refl) (SA_refl)     (show inr (1) from q_23) (show ((v33) ≥ (0) ∧ -2147483648 ≤ ((w1) (x16_4)) ∧ ((w1) (x16_4)) ≤ 2147483647 ∧ (1) = ((w1) (x16_4))) ∨ ((v33) < (0) ∧ (1) = (1)) from q_3116 b48)
