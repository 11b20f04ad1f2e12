section
/-! C4.cls -/
abbrev V125 : vV := [(0, 5, [(4, 0), (4, 0), (4, 0), (4, 0), (0, 0), (0, 0), (0, 0), (4, 0), (4, 0), (0, 0), (0, 0), (0, 0), (0, 0), (0, 0), (0, 0), (0, 0), (0, 0), (0, 0), (0, 0)]), (0, 7, [(4, 0), (0, 0), (1, 0), (0, 0), (0, 0)]), (1, 0, []), (1, 1, []), (1, 1, []), (1, 1, []), (1, 1, [])]
theorem len_V125_oz_C4cls : (V125).length = 7 := by decide +kernel
theorem oz_C4cls_1 : vsub V125 V127 [0, 1, 2, 3] = true := by decide +kernel
theorem oz_C4cls_2 : vsub V125 V126 [0, 4, 5, 6] = true := by decide +kernel
theorem oz_C4cls_3 : vmov V125 [0, 4, 5, 6] [1, 2, 3] = true := by decide +kernel
def oz_C4clsl_0 : List (Nat × Nat) := [(0, 1), (0, 2), (0, 3), (0, 4), (0, 5), (0, 12), (0, 13), (0, 14), (0, 15), (0, 16), (0, 17), (0, 18)]
theorem oz_C4cls_4 : (oz_C4clsl_0).all (fun p => !tbz 520254 (Nat.add (Nat.mul 32 p.1) p.2)) = true := by decide +kernel
def oz_C4clsl_1 : List Nat := [4, 5, 6]
theorem oz_C4cls_5 : (oz_C4clsl_1).all (fun p => !tbz 112 p) = true := by decide +kernel
def oz_C4clsl_2 : List Nat := [0, 1, 2, 3]
theorem oz_C4cls_6 : okc oz_C4clsl_2 403177984 = true := by decide +kernel
def oz_C4clsl_3 : List Nat := [0, 4, 5, 6]
theorem oz_C4cls_7 : okc oz_C4clsl_3 806619136 = true := by decide +kernel

theorem C125 {σE : rS} {D N : Nat → Nat} {F : hF} {A : hA} {d c s : Nat} {Q : wQ} (H : HW V125 σE D N F A) {a1 a2 a3 a4 : Int} (pf1 : F 0 0 = (D 1 : Int)) (pf2 : F 1 0 = (D 2 : Int)) (pf3 : F 0 8 = (D 3 : Int)) (pf4 : F 0 1 = (D 4 : Int)) (pf5 : F 0 2 = (D 5 : Int)) (pf6 : F 0 3 = (D 6 : Int)) (n2 : Int) (en2 : (N 2 : Int) = n2) (n3 : Int) (en3 : (N 3 : Int) = n3) (n4 : Int) (en4 : (N 4 : Int) = n4) (n5 : Int) (en5 : (N 5 : Int) = n5) (n6 : Int) (en6 : (N 6 : Int) = n6) (u0_4 : Int) (eu0_4 : F 0 4 = u0_4) (u0_5 : Int) (eu0_5 : F 0 5 = u0_5) (u0_6 : Int) (eu0_6 : F 0 6 = u0_6) (u0_9 : Int) (eu0_9 : F 0 9 = u0_9) (u0_10 : Int) (eu0_10 : F 0 10 = u0_10) (u0_11 : Int) (eu0_11 : F 0 11 = u0_11) (u1_1 : Int) (eu1_1 : F 1 1 = u1_1) (w2 : Int → Int) (ew2 : A 2 = w2) (w3 : Int → Int) (ew3 : A 3 = w3) (w4 : Int → Int) (ew4 : A 4 = w4) (w5 : Int → Int) (ew5 : A 5 = w5) (w6 : Int → Int) (ew6 : A 6 = w6) (h0 : inr (a1)) (h1 : inr (a2)) (h2 : inr (a3)) (h3 : inr (a4)) (h4 : 0 ≤ (u1_1) ∧ (u1_1) ≤ (n2) ∧ (n2) ≤ 65536 ∧ (u1_1) ≤ 16384) (h5 : 1 ≤ (u0_10) ∧ (u0_10) ≤ 8) (h6 : 0 ≤ (a1) ∧ (a1) ≤ (a2) ∧ (a2) ≤ (u1_1)) (h7 : (a3) ≤ (a2) ∧ (a4) < (a2) ∧ (a4) < (u0_6)) (h8 : 0 ≤ (u0_6) ∧ (u0_6) ≤ (n3) ∧ (n3) ≤ 16384) (h9 : BKI ((w2)) ((w3)) ((u0_10)) ((u0_6))) (h10 : (n4) = (n5) ∧ (n6) = (n5) ∧ (n5) ≤ 65536 ∧ ((n5) = 0 ∨ 64 ≤ (n5)) ∧ lgq ((n5)) = 0) (k : ∀ (σ : rS) (Dₚ Nₚ : Nat → Nat) (Fₚ : hF) (Aₚ : hA) (cₚ sₚ : Nat), HW V125 σ Dₚ Nₚ Fₚ Aₚ → OUT (V125).length D N σE c s Dₚ Nₚ σ cₚ sₚ → SD [4, 5, 6] D Dₚ → SD [4, 5, 6] N Nₚ → SF [(0, 1), (0, 2), (0, 3), (0, 4), (0, 5), (0, 12), (0, 13), (0, 14), (0, 15), (0, 16), (0, 17), (0, 18)] F Fₚ → SA [4, 5, 6] A Aₚ → Fₚ 0 1 = (Dₚ 4 : Int) → Fₚ 0 2 = (Dₚ 5 : Int) → Fₚ 0 3 = (Dₚ 6 : Int) → ∀ m4 : Int, (Nₚ 4 : Int) = m4 → ∀ m5 : Int, (Nₚ 5 : Int) = m5 → ∀ m6 : Int, (Nₚ 6 : Int) = m6 → ∀ y0_4 : Int, Fₚ 0 4 = y0_4 → ∀ y0_5 : Int, Fₚ 0 5 = y0_5 → ∀ v4 : Int → Int, Aₚ 4 = v4 → ∀ v5 : Int → Int, Aₚ 5 = v5 → ∀ v6 : Int → Int, Aₚ 6 = v6 → ((m4) = (m5) ∧ (m6) = (m5) ∧ (m5) ≤ 65536 ∧ ((m5) = 0 ∨ 64 ≤ (m5)) ∧ lgq ((m5)) = 0) → (0 ≤ (y0_4) ∧ (y0_4) ≤ (m5) ∧ (y0_4) ≤ (a2) - (a1)) → (0 ≤ (y0_5) ∧ (y0_5) ≤ (a2) - (a1)) → (FDI ((v4)) ((v5)) ((v6)) ((y0_4)) ((a2) - (a1) - (y0_5)) ((u0_10))) → (GOS (MTL ((w2)) ((a3)) ((u0_11)) ((u0_10)) ((u0_9)) ((a4))) ((a2)) ((a1)) ((a1)) (sq ((v4)) ((v5)) ((v6)) ((y0_4))) ((y0_5))) → Q none σ cₚ sₚ) : Ew 125 (d + 3) 0 (rargs 0 [.ref (D 0), I a1, I a2, I a3, I a4]) [] σE c s Q := by
  have O := OUT_refl (n := (V125).length) (D := D) (N := N) (σ := σE) (c := c) (s := s)
  have HE := H
  have r1 : (-2147483648 : Int) ≤ u0_4 ∧ u0_4 ≤ 2147483647 := rngE (show (-2147483648 : Int) ≤ F 0 4 ∧ F 0 4 ≤ 2147483647 from H.krg 0 4 (ltn len_V125_oz_C4cls rfl)) (show F 0 4 = u0_4 from (eu0_4))
  have r2 : (-2147483648 : Int) ≤ u0_5 ∧ u0_5 ≤ 2147483647 := rngE (show (-2147483648 : Int) ≤ F 0 5 ∧ F 0 5 ≤ 2147483647 from H.krg 0 5 (ltn len_V125_oz_C4cls rfl)) (show F 0 5 = u0_5 from (eu0_5))
  have r3 : (-2147483648 : Int) ≤ u0_6 ∧ u0_6 ≤ 2147483647 := rngE (show (-2147483648 : Int) ≤ F 0 6 ∧ F 0 6 ≤ 2147483647 from H.krg 0 6 (ltn len_V125_oz_C4cls rfl)) (show F 0 6 = u0_6 from (eu0_6))
  have r4 : (-2147483648 : Int) ≤ u0_9 ∧ u0_9 ≤ 2147483647 := rngE (show (-2147483648 : Int) ≤ F 0 9 ∧ F 0 9 ≤ 2147483647 from H.krg 0 9 (ltn len_V125_oz_C4cls rfl)) (show F 0 9 = u0_9 from (eu0_9))
  have r5 : (-2147483648 : Int) ≤ u0_10 ∧ u0_10 ≤ 2147483647 := rngE (show (-2147483648 : Int) ≤ F 0 10 ∧ F 0 10 ≤ 2147483647 from H.krg 0 10 (ltn len_V125_oz_C4cls rfl)) (show F 0 10 = u0_10 from (eu0_10))
  have r6 : (-2147483648 : Int) ≤ u0_11 ∧ u0_11 ≤ 2147483647 := rngE (show (-2147483648 : Int) ≤ F 0 11 ∧ F 0 11 ≤ 2147483647 from H.krg 0 11 (ltn len_V125_oz_C4cls rfl)) (show F 0 11 = u0_11 from (eu0_11))
  have r7 : (-2147483648 : Int) ≤ u1_1 ∧ u1_1 ≤ 2147483647 := rngE (show (-2147483648 : Int) ≤ F 1 1 ∧ F 1 1 ≤ 2147483647 from H.krg 1 1 (ltn len_V125_oz_C4cls rfl)) (show F 1 1 = u1_1 from (eu1_1))
  have r8 : (0 : Int) ≤ n2 ∧ n2 ≤ 1000000 := nleE (H.nle 2 (ltn len_V125_oz_C4cls rfl)) (show (N 2 : Int) = n2 from en2)
  have r9 : (0 : Int) ≤ n3 ∧ n3 ≤ 1000000 := nleE (H.nle 3 (ltn len_V125_oz_C4cls rfl)) (show (N 3 : Int) = n3 from en3)
  have r10 : (0 : Int) ≤ n4 ∧ n4 ≤ 1000000 := nleE (H.nle 4 (ltn len_V125_oz_C4cls rfl)) (show (N 4 : Int) = n4 from en4)
  have r11 : (0 : Int) ≤ n5 ∧ n5 ≤ 1000000 := nleE (H.nle 5 (ltn len_V125_oz_C4cls rfl)) (show (N 5 : Int) = n5 from en5)
  have r12 : (0 : Int) ≤ n6 ∧ n6 ≤ 1000000 := nleE (H.nle 6 (ltn len_V125_oz_C4cls rfl)) (show (N 6 : Int) = n6 from en6)
  refine Ew_of (pcₚ := 1) (fun _ => x_aload_n rfl rfl) ?_
  refine Ew_of (pcₚ := 2) (fun _ => x_iload_n rfl rfl) ?_
  refine v_p H (o := 0) (z := a3) (v := I (a3)) rfl rfl rfl rfl rfl rfl rfl rfl (show (-2147483648 : Int) ≤ a3 ∧ a3 ≤ 2147483647 from q_31 h2) (fun σ H Oₚ => ?_)
  have O := OUT_trans O Oₚ
  have cFu13 : SF oz_C4clsl_0 F (updF F 0 12 (a3)) := SF_upd (SF_refl) rfl
  have mFu13 := SFm_of cFu13 oz_C4cls_4
  refine Ew_of (pcₚ := 6) (fun _ => x_aload_n rfl rfl) ?_
  refine Ew_of (pcₚ := 8) (fun _ => x_iload rfl rfl) ?_
  refine v_p H (o := 0) (z := a4) (v := I (a4)) rfl rfl rfl rfl rfl rfl rfl rfl (show (-2147483648 : Int) ≤ a4 ∧ a4 ≤ 2147483647 from q_31 h3) (fun σ H Oₚ => ?_)
  have O := OUT_trans O Oₚ
  have cFu14 : SF oz_C4clsl_0 F (updF (updF F 0 12 (a3)) 0 13 (a4)) := SF_upd (cFu13) rfl
  have mFu14 := SFm_of cFu14 oz_C4cls_4
  refine Ew_of (pcₚ := 12) (fun _ => x_aload_n rfl rfl) ?_
  refine Ew_of (pcₚ := 13) (fun _ => x_iconst rfl) ?_
  refine v_p H (o := 0) (z := 0) (v := I (0)) rfl rfl rfl rfl rfl rfl rfl rfl (show (-2147483648 : Int) ≤ 0 ∧ 0 ≤ 2147483647 from q_22) (fun σ H Oₚ => ?_)
  have O := OUT_trans O Oₚ
  have cFu15 : SF oz_C4clsl_0 F (updF (updF (updF F 0 12 (a3)) 0 13 (a4)) 0 4 (0)) := SF_upd (cFu14) rfl
  have mFu15 := SFm_of cFu15 oz_C4cls_4
  refine Ew_of (pcₚ := 17) (fun _ => x_aload_n rfl rfl) ?_
  refine Ew_of (pcₚ := 18) (fun _ => x_iconst rfl) ?_
  refine v_p H (o := 0) (z := (-1)) (v := I ((-1))) rfl rfl rfl rfl rfl rfl rfl rfl (show (-2147483648 : Int) ≤ (-1) ∧ (-1) ≤ 2147483647 from q_152) (fun σ H Oₚ => ?_)
  have O := OUT_trans O Oₚ
  have cFu16 : SF oz_C4clsl_0 F (updF (updF (updF (updF F 0 12 (a3)) 0 13 (a4)) 0 4 (0)) 0 16 ((-1))) := SF_upd (cFu15) rfl
  have mFu16 := SFm_of cFu16 oz_C4cls_4
  refine Ew_of (pcₚ := 22) (fun _ => x_iload_n rfl rfl) ?_
  refine Ew_of (pcₚ := 24) (fun _ => x_istore rfl) ?_
  refine Ew_of (pcₚ := 25) (fun _ => x_iload_n rfl (rk_o (rfl) rfl rfl)) ?_
  refine Ew_of (pcₚ := 27) (fun _ => x_istore rfl) ?_
  refine Ew_of (pcₚ := 28) (fun _ => x_iload_n rfl (rk_o (rk_o (rfl) rfl rfl) rfl rfl)) ?_
  refine Ew_of (pcₚ := 30) (fun _ => x_istore rfl) ?_
  have : FDI ((w4)) ((w5)) ((w6)) (0) ((a1) - (a1)) ((u0_10)) := by rw [show (a1) - (a1) = 0 by omega]; exact FDI_0
  have : GOP (MTL ((w2)) ((a3)) ((u0_11)) ((u0_10)) ((u0_9)) ((a4))) ((a2)) ((a1)) ((a1)) ((a1)) (sq ((w4)) ((w5)) ((w6)) (0)) := by rw [sq_0]; exact GOP_0
  have r17 : (-2147483648 : Int) ≤ F 0 17 ∧ F 0 17 ≤ 2147483647 := H.krg 0 17 (ltn len_V125_oz_C4cls rfl)
  have r18 : (-2147483648 : Int) ≤ F 0 18 ∧ F 0 18 ≤ 2147483647 := H.krg 0 18 (ltn len_V125_oz_C4cls rfl)
  have : IMP ((0 : Int) ≤ ((-1))) (LGQ ((w2)) ((a3)) ((u0_11)) ((u0_10)) (((-1))) ((F 0 17)) ((F 0 18))) := fun z => absurd z (by omega)
  suffices hl30 : ∀ (m : Nat), ∀ (ls : rO) (σ : rS) (D_30 N_30 : Nat → Nat) (c_30 s_30 : Nat) (F_30 : hF) (A_30 : hA) (x30_5 : Int) (x30_6 : Int) (x30_7 : Int), rlook ls 0 = some (.ref (D_30 0)) → rlook ls 2 = some (I (a2)) → rlook ls 5 = some (I (x30_5)) → rlook ls 6 = some (I (x30_6)) → rlook ls 7 = some (I (x30_7)) → HW V125 σ D_30 N_30 F_30 A_30 → OUT (V125).length D N σE c s D_30 N_30 σ c_30 s_30 → SD [4, 5, 6] D D_30 → SD [4, 5, 6] N N_30 → SF [(0, 1), (0, 2), (0, 3), (0, 4), (0, 14), (0, 15), (0, 16), (0, 17), (0, 18)] (updF (updF (updF (updF F 0 12 (a3)) 0 13 (a4)) 0 4 (0)) 0 16 ((-1))) F_30 → SA [4, 5, 6] A A_30 → F_30 0 1 = (D_30 4 : Int) → F_30 0 2 = (D_30 5 : Int) → F_30 0 3 = (D_30 6 : Int) → ∀ m30_4 : Int, (N_30 4 : Int) = m30_4 → ∀ m30_5 : Int, (N_30 5 : Int) = m30_5 → ∀ m30_6 : Int, (N_30 6 : Int) = m30_6 → ∀ y30_0_4 : Int, F_30 0 4 = y30_0_4 → ∀ y30_0_16 : Int, F_30 0 16 = y30_0_16 → ∀ y30_0_17 : Int, F_30 0 17 = y30_0_17 → ∀ y30_0_18 : Int, F_30 0 18 = y30_0_18 → ∀ w30_4 : Int → Int, A_30 4 = w30_4 → ∀ w30_5 : Int → Int, A_30 5 = w30_5 → ∀ w30_6 : Int → Int, A_30 6 = w30_6 → (inr (x30_5)) → (inr (x30_6)) → (inr (x30_7)) → ((a1) ≤ (x30_7)) → ((x30_7) ≤ (a1) ∨ (x30_7) ≤ ((a2))) → ((a1) ≤ (x30_5) ∧ (x30_5) ≤ (x30_6) ∧ (x30_6) ≤ (a2)) → ((m30_4) = (m30_5) ∧ (m30_6) = (m30_5) ∧ (m30_5) ≤ 65536 ∧ ((m30_5) = 0 ∨ 64 ≤ (m30_5)) ∧ lgq ((m30_5)) = 0) → (0 ≤ (y30_0_4) ∧ (y30_0_4) ≤ (m30_5) ∧ (y30_0_4) ≤ (x30_5) - (a1)) → ((y30_0_16) = -1 ∨ (y30_0_17) = 0 ∨ (u0_10) ≤ (y30_0_17) ∧ (y30_0_16) + (y30_0_17) ≤ (a3) ∧ 1 ≤ (y30_0_18) ∧ (y30_0_18) ≤ (y30_0_16)) → (FDI ((w30_4)) ((w30_5)) ((w30_6)) ((y30_0_4)) ((x30_5) - (a1)) ((u0_10))) → ((x30_7) ≤ (x30_6)) → (GOP (MTL ((w2)) ((a3)) ((u0_11)) ((u0_10)) ((u0_9)) ((a4))) ((a2)) ((a1)) ((x30_6)) ((x30_5)) (sq ((w30_4)) ((w30_5)) ((w30_6)) ((y30_0_4)))) → (IMP ((0 : Int) ≤ (y30_0_16)) (LGQ ((w2)) ((a3)) ((u0_11)) ((u0_10)) ((y30_0_16)) ((y30_0_17)) ((y30_0_18)))) → (((a2)) - (x30_7)).toNat = m → Ew 125 (d + 3) 30 ls [] σ c_30 s_30 Q from
    hl30 _ _ _ _ _ _ _ _ _ (a1) (a1) (a1) (rk_o (rk_o (rk_o (rfl) rfl rfl) rfl rfl) rfl rfl) (rk_o (rk_o (rk_o (rfl) rfl rfl) rfl rfl) rfl rfl) (rk_o (rk_o (rk_s) rfl rfl) rfl rfl) (rk_o (rk_s) rfl rfl) (rk_s) H O (SD_refl) (SD_refl) (SF_refl) (SA_refl) (pf4) (pf5) (pf6) (n4) (en4) (n5) (en5) (n6) (en6) (0) (rfl) ((-1)) (rfl) (F 0 17) (rfl) (F 0 18) (rfl) (w4) (ew4) (w5) (ew5) (w6) (ew6) (show inr (a1) from h0) (show inr (a1) from h0) (show inr (a1) from h0) (show (a1) ≤ (a1) from q_43) (show (a1) ≤ (a1) ∨ (a1) ≤ ((a2)) from q_156) (show (a1) ≤ (a1) ∧ (a1) ≤ (a1) ∧ (a1) ≤ (a2) from q_155 h6) (show (n4) = (n5) ∧ (n6) = (n5) ∧ (n5) ≤ 65536 ∧ ((n5) = 0 ∨ 64 ≤ (n5)) ∧ lgq ((n5)) = 0 from h10) (show 0 ≤ (0) ∧ (0) ≤ (n5) ∧ (0) ≤ (a1) - (a1) from q_154 r11) (show ((-1)) = -1 ∨ (F 0 17) = 0 ∨ (u0_10) ≤ (F 0 17) ∧ ((-1)) + (F 0 17) ≤ (a3) ∧ 1 ≤ (F 0 18) ∧ (F 0 18) ≤ ((-1)) from q_153) (show FDI ((w4)) ((w5)) ((w6)) ((0)) ((a1) - (a1)) ((u0_10)) by assumption) (show (a1) ≤ (a1) from q_43) (show GOP (MTL ((w2)) ((a3)) ((u0_11)) ((u0_10)) ((u0_9)) ((a4))) ((a2)) ((a1)) ((a1)) ((a1)) (sq ((w4)) ((w5)) ((w6)) ((0))) by assumption) (show IMP ((0 : Int) ≤ ((-1))) (LGQ ((w2)) ((a3)) ((u0_11)) ((u0_10)) (((-1))) ((F 0 17)) ((F 0 18))) by assumption) rfl
  as_aux_lemma =>
  intro m
  induction m using Nat.strongRecOn with
  | _ m ih30 =>
    intro ls σ D_30 N_30 c_30 s_30 F_30 A_30 x30_5 x30_6 x30_7 l30_0 l30_2 l30_5 l30_6 l30_7 H O hD_30 hN_30 hS_30 hA_30 pm30_4 pm30_5 pm30_6 m30_4 em30_4 m30_5 em30_5 m30_6 em30_6 y30_0_4 ey30_0_4 y30_0_16 ey30_0_16 y30_0_17 ey30_0_17 y30_0_18 ey30_0_18 w30_4 ew30_4 w30_5 ew30_5 w30_6 ew30_6 j30_0 j30_1 j30_2 j30_3 j30_4 j30_5 j30_6 j30_7 j30_8 j30_9 j30_10 j30_11 j30_12 hm30
    have cF_30 : SF oz_C4clsl_0 F F_30 := SF_trans (cFu16) hS_30 (any_sub (by decide +kernel))
    have mF_30 := SFm_of cF_30 oz_C4cls_4
    have cA_30 : SA oz_C4clsl_1 A A_30 := SA_trans (SA_refl) hA_30 (any_subA (by decide +kernel))
    have mA_30 := SAm_of cA_30 oz_C4cls_5
    have cD_30 : SD oz_C4clsl_1 D D_30 := SD_trans (SD_refl) hD_30 (any_subA (by decide +kernel))
    have mD_30 := SDm_of cD_30 oz_C4cls_5
    have cN_30 : SD oz_C4clsl_1 N N_30 := SD_trans (SD_refl) hN_30 (any_subA (by decide +kernel))
    have mN_30 := SDm_of cN_30 oz_C4cls_5
    have r19 : (0 : Int) ≤ m30_4 ∧ m30_4 ≤ 1000000 := nleE (H.nle 4 (ltn len_V125_oz_C4cls rfl)) (show (N_30 4 : Int) = m30_4 from em30_4)
    have r20 : (0 : Int) ≤ m30_5 ∧ m30_5 ≤ 1000000 := nleE (H.nle 5 (ltn len_V125_oz_C4cls rfl)) (show (N_30 5 : Int) = m30_5 from em30_5)
    have r21 : (0 : Int) ≤ m30_6 ∧ m30_6 ≤ 1000000 := nleE (H.nle 6 (ltn len_V125_oz_C4cls rfl)) (show (N_30 6 : Int) = m30_6 from em30_6)
    have r22 : (-2147483648 : Int) ≤ y30_0_4 ∧ y30_0_4 ≤ 2147483647 := rngE (show (-2147483648 : Int) ≤ F_30 0 4 ∧ F_30 0 4 ≤ 2147483647 from H.krg 0 4 (ltn len_V125_oz_C4cls rfl)) (show F_30 0 4 = y30_0_4 from (ey30_0_4))
    have r23 : (-2147483648 : Int) ≤ y30_0_16 ∧ y30_0_16 ≤ 2147483647 := rngE (show (-2147483648 : Int) ≤ F_30 0 16 ∧ F_30 0 16 ≤ 2147483647 from H.krg 0 16 (ltn len_V125_oz_C4cls rfl)) (show F_30 0 16 = y30_0_16 from (ey30_0_16))
    have r24 : (-2147483648 : Int) ≤ y30_0_17 ∧ y30_0_17 ≤ 2147483647 := rngE (show (-2147483648 : Int) ≤ F_30 0 17 ∧ F_30 0 17 ≤ 2147483647 from H.krg 0 17 (ltn len_V125_oz_C4cls rfl)) (show F_30 0 17 = y30_0_17 from (ey30_0_17))
    have r25 : (-2147483648 : Int) ≤ y30_0_18 ∧ y30_0_18 ≤ 2147483647 := rngE (show (-2147483648 : Int) ≤ F_30 0 18 ∧ F_30 0 18 ≤ 2147483647 from H.krg 0 18 (ltn len_V125_oz_C4cls rfl)) (show F_30 0 18 = y30_0_18 from (ey30_0_18))
    have j30_g : GOP (MTL ((w2)) ((a3)) ((u0_11)) ((u0_10)) ((u0_9)) ((a4))) ((a2)) ((a1)) ((x30_6)) ((x30_5)) (sq ((w30_4)) ((w30_5)) ((w30_6)) ((y30_0_4))) := j30_11
    refine Ew_of (pcₚ := 32) (fun _ => x_iload rfl l30_7) ?_
    refine Ew_of (pcₚ := 33) (fun _ => x_iload_n rfl l30_2) ?_
    refine w_icmpge (t := 88) rfl rfl (show inr (x30_7) from j30_2) (show inr (a2) from h1) (fun b26 => ?_) (fun b26 => ?_)
    · refine Ew_of (pcₚ := 89) (fun _ => x_aload_n rfl l30_0) ?_
      refine Ew_of (pcₚ := 90) (fun _ => x_iload_n rfl l30_2) ?_
      refine Ew_of (pcₚ := 92) (fun _ => x_iload rfl l30_5) ?_
      refine w_isub rfl ?_
      refine v_p H (o := 0) (z := (a2 - x30_5)) (v := I ((a2 - x30_5))) rfl rfl rfl rfl rfl rfl rfl rfl (show (-2147483648 : Int) ≤ (a2 - x30_5) ∧ (a2 - x30_5) ≤ 2147483647 from q_157 h1 h6 j30_5) (fun σ H Oₚ => ?_)
      have O := OUT_trans O Oₚ
      have cFu27 : SF oz_C4clsl_0 F (updF F_30 0 5 ((a2 - x30_5))) := SF_upd (cF_30) rfl
      have mFu27 := SFm_of cFu27 oz_C4cls_4
      have hft : FDI ((w30_4)) ((w30_5)) ((w30_6)) ((y30_0_4)) ((a2) - (a1) - ((a2 - x30_5))) ((u0_10)) := by have e : (a2) - (a1) - ((a2 - x30_5)) = (x30_5) - (a1) := (by omega); rw [e]; assumption
      have : GOS (MTL ((w2)) ((a3)) ((u0_11)) ((u0_10)) ((u0_9)) ((a4))) ((a2)) ((a1)) ((a1)) (sq ((w30_4)) ((w30_5)) ((w30_6)) ((y30_0_4))) (((a2 - x30_5))) := GOP_end j30_g (by omega) (by omega) (MTL_e (by omega))
      exact w_ret rfl (k _ _ _ _ _ _ _ H O (cD_30) (cN_30) (cFu27) (cA_30) (pm30_4) (pm30_5) (pm30_6) (m30_4) (em30_4) (m30_5) (em30_5) (m30_6) (em30_6) (y30_0_4) ((ey30_0_4)) ((a2 - x30_5)) (rfl) (w30_4) (ew30_4) (w30_5) (ew30_5) (w30_6) (ew30_6) (show (m30_4) = (m30_5) ∧ (m30_6) = (m30_5) ∧ (m30_5) ≤ 65536 ∧ ((m30_5) = 0 ∨ 64 ≤ (m30_5)) ∧ lgq ((m30_5)) = 0 from j30_6) (show 0 ≤ (y30_0_4) ∧ (y30_0_4) ≤ (m30_5) ∧ (y30_0_4) ≤ a2 - a1 from q_159 j30_5 j30_7) (show 0 ≤ ((a2 - x30_5)) ∧ ((a2 - x30_5)) ≤ a2 - a1 from q_158 j30_5) (hft) (show GOS (MTL ((w2)) (a3) ((u0_11)) ((u0_10)) ((u0_9)) (a4)) (a2) (a1) (a1) (sq ((w30_4)) ((w30_5)) ((w30_6)) ((y30_0_4))) (((a2 - x30_5))) by assumption))
    · refine Ew_of (pcₚ := 38) (fun _ => x_iload rfl l30_6) ?_
      refine Ew_of (pcₚ := 39) (fun _ => x_aload_n rfl l30_0) ?_
      refine v_g H (o := 0) (v := I (a4)) rfl rfl rfl rfl rfl (congrArg (fun z : Int => I z) ((hS_30 0 13 rfl) : F_30 0 13 = a4)) ?_
      refine w_icmpgt (t := 88) rfl rfl (show inr (x30_6) from j30_1) (show inr (a4) from h3) (fun b28 => ?_) (fun b28 => ?_)
      · refine Ew_of (pcₚ := 89) (fun _ => x_aload_n rfl l30_0) ?_
        refine Ew_of (pcₚ := 90) (fun _ => x_iload_n rfl l30_2) ?_
        refine Ew_of (pcₚ := 92) (fun _ => x_iload rfl l30_5) ?_
        refine w_isub rfl ?_
        refine v_p H (o := 0) (z := (a2 - x30_5)) (v := I ((a2 - x30_5))) rfl rfl rfl rfl rfl rfl rfl rfl (show (-2147483648 : Int) ≤ (a2 - x30_5) ∧ (a2 - x30_5) ≤ 2147483647 from q_157 h1 h6 j30_5) (fun σ H Oₚ => ?_)
        have O := OUT_trans O Oₚ
        have cFu29 : SF oz_C4clsl_0 F (updF F_30 0 5 ((a2 - x30_5))) := SF_upd (cF_30) rfl
        have mFu29 := SFm_of cFu29 oz_C4cls_4
        have hft : FDI ((w30_4)) ((w30_5)) ((w30_6)) ((y30_0_4)) ((a2) - (a1) - ((a2 - x30_5))) ((u0_10)) := by have e : (a2) - (a1) - ((a2 - x30_5)) = (x30_5) - (a1) := (by omega); rw [e]; assumption
        have : GOS (MTL ((w2)) ((a3)) ((u0_11)) ((u0_10)) ((u0_9)) ((a4))) ((a2)) ((a1)) ((a1)) (sq ((w30_4)) ((w30_5)) ((w30_6)) ((y30_0_4))) (((a2 - x30_5))) := GOP_end j30_g (by omega) (by omega) (MTL_e (by omega))
        exact w_ret rfl (k _ _ _ _ _ _ _ H O (cD_30) (cN_30) (cFu29) (cA_30) (pm30_4) (pm30_5) (pm30_6) (m30_4) (em30_4) (m30_5) (em30_5) (m30_6) (em30_6) (y30_0_4) ((ey30_0_4)) ((a2 - x30_5)) (rfl) (w30_4) (ew30_4) (w30_5) (ew30_5) (w30_6) (ew30_6) (show (m30_4) = (m30_5) ∧ (m30_6) = (m30_5) ∧ (m30_5) ≤ 65536 ∧ ((m30_5) = 0 ∨ 64 ≤ (m30_5)) ∧ lgq ((m30_5)) = 0 from j30_6) (show 0 ≤ (y30_0_4) ∧ (y30_0_4) ≤ (m30_5) ∧ (y30_0_4) ≤ a2 - a1 from q_159 j30_5 j30_7) (show 0 ≤ ((a2 - x30_5)) ∧ ((a2 - x30_5)) ≤ a2 - a1 from q_158 j30_5) (hft) (show GOS (MTL ((w2)) (a3) ((u0_11)) ((u0_10)) ((u0_9)) (a4)) (a2) (a1) (a1) (sq ((w30_4)) ((w30_5)) ((w30_6)) ((y30_0_4))) (((a2 - x30_5))) by assumption))
      · have hc82 : ∀ (ls : rO) (σ : rS) (D_c82 N_c82 : Nat → Nat) (c_c82 s_c82 : Nat) (F_c82 : hF) (A_c82 : hA) (xc82_5 : Int) (xc82_6 : Int), rlook ls 0 = some (.ref (D_c82 0)) → rlook ls 2 = some (I (a2)) → rlook ls 5 = some (I (xc82_5)) → rlook ls 6 = some (I (xc82_6)) → rlook ls 7 = some (I (x30_7)) → HW V125 σ D_c82 N_c82 F_c82 A_c82 → OUT (V125).length D N σE c s D_c82 N_c82 σ c_c82 s_c82 → SD [4, 5, 6] D_30 D_c82 → SD [4, 5, 6] N_30 N_c82 → SF [(0, 1), (0, 2), (0, 3), (0, 4), (0, 14), (0, 15), (0, 16), (0, 17), (0, 18)] F_30 F_c82 → SA [4, 5, 6] A_30 A_c82 → F_c82 0 1 = (D_c82 4 : Int) → F_c82 0 2 = (D_c82 5 : Int) → F_c82 0 3 = (D_c82 6 : Int) → ∀ mc82_4 : Int, (N_c82 4 : Int) = mc82_4 → ∀ mc82_5 : Int, (N_c82 5 : Int) = mc82_5 → ∀ mc82_6 : Int, (N_c82 6 : Int) = mc82_6 → ∀ yc82_0_4 : Int, F_c82 0 4 = yc82_0_4 → ∀ yc82_0_16 : Int, F_c82 0 16 = yc82_0_16 → ∀ yc82_0_17 : Int, F_c82 0 17 = yc82_0_17 → ∀ yc82_0_18 : Int, F_c82 0 18 = yc82_0_18 → ∀ wc82_4 : Int → Int, A_c82 4 = wc82_4 → ∀ wc82_5 : Int → Int, A_c82 5 = wc82_5 → ∀ wc82_6 : Int → Int, A_c82 6 = wc82_6 → (inr (xc82_5)) → (inr (xc82_6)) → ((a1) ≤ (xc82_5) ∧ (xc82_5) ≤ (xc82_6) ∧ (xc82_6) ≤ (a2)) → ((mc82_4) = (mc82_5) ∧ (mc82_6) = (mc82_5) ∧ (mc82_5) ≤ 65536 ∧ ((mc82_5) = 0 ∨ 64 ≤ (mc82_5)) ∧ lgq ((mc82_5)) = 0) → (0 ≤ (yc82_0_4) ∧ (yc82_0_4) ≤ (mc82_5) ∧ (yc82_0_4) ≤ (xc82_5) - (a1)) → ((yc82_0_16) = -1 ∨ (yc82_0_17) = 0 ∨ (u0_10) ≤ (yc82_0_17) ∧ (yc82_0_16) + (yc82_0_17) ≤ (a3) ∧ 1 ≤ (yc82_0_18) ∧ (yc82_0_18) ≤ (yc82_0_16)) → (FDI ((wc82_4)) ((wc82_5)) ((wc82_6)) ((yc82_0_4)) ((xc82_5) - (a1)) ((u0_10))) → ((x30_7) + 1 ≤ (xc82_6)) → (GOP (MTL ((w2)) ((a3)) ((u0_11)) ((u0_10)) ((u0_9)) ((a4))) ((a2)) ((a1)) ((xc82_6)) ((xc82_5)) (sq ((wc82_4)) ((wc82_5)) ((wc82_6)) ((yc82_0_4)))) → (IMP ((0 : Int) ≤ (yc82_0_16)) (LGQ ((w2)) ((a3)) ((u0_11)) ((u0_10)) ((yc82_0_16)) ((yc82_0_17)) ((yc82_0_18)))) → Ew 125 (d + 3) 82 ls [] σ c_c82 s_c82 Q := by
         as_aux_lemma =>
          intro  ls σ D_c82 N_c82 c_c82 s_c82 F_c82 A_c82 xc82_5 xc82_6 lc82_0 lc82_2 lc82_5 lc82_6 lc82_7 H O hD_c82 hN_c82 hS_c82 hA_c82 pmc82_4 pmc82_5 pmc82_6 mc82_4 emc82_4 mc82_5 emc82_5 mc82_6 emc82_6 yc82_0_4 eyc82_0_4 yc82_0_16 eyc82_0_16 yc82_0_17 eyc82_0_17 yc82_0_18 eyc82_0_18 wc82_4 ewc82_4 wc82_5 ewc82_5 wc82_6 ewc82_6 jc82_0 jc82_1 jc82_2 jc82_3 jc82_4 jc82_5 jc82_6 jc82_7 jc82_8 jc82_9
          have cF_c82 : SF oz_C4clsl_0 F F_c82 := SF_trans (cF_30) hS_c82 (any_sub (by decide +kernel))
          have mF_c82 := SFm_of cF_c82 oz_C4cls_4
          have cA_c82 : SA oz_C4clsl_1 A A_c82 := SA_trans (cA_30) hA_c82 (any_subA (by decide +kernel))
          have mA_c82 := SAm_of cA_c82 oz_C4cls_5
          have cD_c82 : SD oz_C4clsl_1 D D_c82 := SD_trans (cD_30) hD_c82 (any_subA (by decide +kernel))
          have mD_c82 := SDm_of cD_c82 oz_C4cls_5
          have cN_c82 : SD oz_C4clsl_1 N N_c82 := SD_trans (cN_30) hN_c82 (any_subA (by decide +kernel))
          have mN_c82 := SDm_of cN_c82 oz_C4cls_5
          have r30 : (0 : Int) ≤ mc82_4 ∧ mc82_4 ≤ 1000000 := nleE (H.nle 4 (ltn len_V125_oz_C4cls rfl)) (show (N_c82 4 : Int) = mc82_4 from emc82_4)
          have r31 : (0 : Int) ≤ mc82_5 ∧ mc82_5 ≤ 1000000 := nleE (H.nle 5 (ltn len_V125_oz_C4cls rfl)) (show (N_c82 5 : Int) = mc82_5 from emc82_5)
          have r32 : (0 : Int) ≤ mc82_6 ∧ mc82_6 ≤ 1000000 := nleE (H.nle 6 (ltn len_V125_oz_C4cls rfl)) (show (N_c82 6 : Int) = mc82_6 from emc82_6)
          have r33 : (-2147483648 : Int) ≤ yc82_0_4 ∧ yc82_0_4 ≤ 2147483647 := rngE (show (-2147483648 : Int) ≤ F_c82 0 4 ∧ F_c82 0 4 ≤ 2147483647 from H.krg 0 4 (ltn len_V125_oz_C4cls rfl)) (show F_c82 0 4 = yc82_0_4 from (eyc82_0_4))
          have r34 : (-2147483648 : Int) ≤ yc82_0_16 ∧ yc82_0_16 ≤ 2147483647 := rngE (show (-2147483648 : Int) ≤ F_c82 0 16 ∧ F_c82 0 16 ≤ 2147483647 from H.krg 0 16 (ltn len_V125_oz_C4cls rfl)) (show F_c82 0 16 = yc82_0_16 from (eyc82_0_16))
          have r35 : (-2147483648 : Int) ≤ yc82_0_17 ∧ yc82_0_17 ≤ 2147483647 := rngE (show (-2147483648 : Int) ≤ F_c82 0 17 ∧ F_c82 0 17 ≤ 2147483647 from H.krg 0 17 (ltn len_V125_oz_C4cls rfl)) (show F_c82 0 17 = yc82_0_17 from (eyc82_0_17))
          have r36 : (-2147483648 : Int) ≤ yc82_0_18 ∧ yc82_0_18 ≤ 2147483647 := rngE (show (-2147483648 : Int) ≤ F_c82 0 18 ∧ F_c82 0 18 ≤ 2147483647 from H.krg 0 18 (ltn len_V125_oz_C4cls rfl)) (show F_c82 0 18 = yc82_0_18 from (eyc82_0_18))
          refine Ew_of (pcₚ := 85) (fun _ => x_iinc (len := 3) rfl (lc82_7)) ?_
          refine Ew_of (pcₚ := 30) (fun _ => x_goto rfl rfl) ?_
          exact ih30 _ (msE hm30 q_16 (q_17 b26)) _ _ _ _ _ _ _ _ (xc82_5) (xc82_6) ((x30_7 + 1)) (rk_o (lc82_0) rfl rfl) (rk_o (lc82_2) rfl rfl) (rk_o (lc82_5) rfl rfl) (rk_o (lc82_6) rfl rfl) (rk_s) H O (SD_trans (hD_30) hD_c82 (any_subA (by decide +kernel))) (SD_trans (hN_30) hN_c82 (any_subA (by decide +kernel))) (SF_trans (hS_30) hS_c82 (any_sub (by decide +kernel))) (SA_trans (hA_30) hA_c82 (any_subA (by decide +kernel))) (pmc82_4) (pmc82_5) (pmc82_6) (mc82_4) (emc82_4) (mc82_5) (emc82_5) (mc82_6) (emc82_6) (yc82_0_4) ((eyc82_0_4)) (yc82_0_16) ((eyc82_0_16)) (yc82_0_17) ((eyc82_0_17)) (yc82_0_18) ((eyc82_0_18)) (wc82_4) (ewc82_4) (wc82_5) (ewc82_5) (wc82_6) (ewc82_6) (show inr (xc82_5) from jc82_0) (show inr (xc82_6) from jc82_1) (show inr ((x30_7 + 1)) from q_162 b26 h4 h6 j30_2) (show (a1) ≤ ((x30_7 + 1)) from q_161 j30_3) (show ((x30_7 + 1)) ≤ (a1) ∨ ((x30_7 + 1)) ≤ ((a2)) from q_160 b26) (show (a1) ≤ (xc82_5) ∧ (xc82_5) ≤ (xc82_6) ∧ (xc82_6) ≤ (a2) from jc82_2) (show (mc82_4) = (mc82_5) ∧ (mc82_6) = (mc82_5) ∧ (mc82_5) ≤ 65536 ∧ ((mc82_5) = 0 ∨ 64 ≤ (mc82_5)) ∧ lgq ((mc82_5)) = 0 from jc82_3) (show 0 ≤ (yc82_0_4) ∧ (yc82_0_4) ≤ (mc82_5) ∧ (yc82_0_4) ≤ (xc82_5) - (a1) from jc82_4) (show (yc82_0_16) = -1 ∨ (yc82_0_17) = 0 ∨ (u0_10) ≤ (yc82_0_17) ∧ (yc82_0_16) + (yc82_0_17) ≤ (a3) ∧ 1 ≤ (yc82_0_18) ∧ (yc82_0_18) ≤ (yc82_0_16) from jc82_5) (jc82_6) (show ((x30_7 + 1)) ≤ (xc82_6) from jc82_7) (jc82_8) (jc82_9) rfl
        refine Ew_of (pcₚ := 46) (fun _ => x_aload_n rfl l30_0) ?_
        refine Ew_of (pcₚ := 48) (fun _ => x_iload rfl l30_6) ?_
        have r37 : (-2147483648 : Int) ≤ F_30 0 14 ∧ F_30 0 14 ≤ 2147483647 := H.krg 0 14 (ltn len_V125_oz_C4cls rfl)
        have r38 : (-2147483648 : Int) ≤ F_30 0 15 ∧ F_30 0 15 ≤ 2147483647 := H.krg 0 15 (ltn len_V125_oz_C4cls rfl)
        refine v_inv H (o := 0) rfl rfl rfl rfl rfl rfl (by rfl) (C127 (D := puc 403177984 D_30) (N := puc 403177984 N_30) (HW_subc H oz_C4cls_1 oz_C4cls_6) ((mF_30 0 0 rfl).trans ((pf1).trans (congrArg (fun q : Nat => (q : Int)) (mD_30 1 rfl).symm))) ((mF_30 1 0 rfl).trans ((pf2).trans (congrArg (fun q : Nat => (q : Int)) (mD_30 2 rfl).symm))) ((mF_30 0 8 rfl).trans ((pf3).trans (congrArg (fun q : Nat => (q : Int)) (mD_30 3 rfl).symm))) (n2) ((congrArg (fun q : Nat => (q : Int)) (mN_30 2 rfl)).trans (en2)) (n3) ((congrArg (fun q : Nat => (q : Int)) (mN_30 3 rfl)).trans (en3)) (u0_6) (((mF_30 0 6 rfl).trans (eu0_6))) (u0_9) (((mF_30 0 9 rfl).trans (eu0_9))) (u0_10) (((mF_30 0 10 rfl).trans (eu0_10))) (u0_11) (((mF_30 0 11 rfl).trans (eu0_11))) (a3) ((hS_30 0 12 rfl)) (a4) ((hS_30 0 13 rfl)) (F_30 0 14) (rfl) (F_30 0 15) (rfl) (y30_0_16) ((ey30_0_16)) (y30_0_17) ((ey30_0_17)) (y30_0_18) ((ey30_0_18)) (u1_1) (((mF_30 1 1 rfl).trans (eu1_1))) (w2) ((funext (mA_30 2 rfl)).trans (ew2)) (w3) ((funext (mA_30 3 rfl)).trans (ew3)) (show inr (x30_6) from j30_1) (show 0 ≤ (u1_1) ∧ (u1_1) ≤ (n2) ∧ (n2) ≤ 65536 ∧ (u1_1) ≤ 16384 from h4) (show (a3) ≤ (u1_1) from q_166 h6 h7) (show 1 ≤ (u0_10) ∧ (u0_10) ≤ 8 from h5) (show 0 ≤ (x30_6) ∧ (x30_6) < (u0_6) from q_165 b28 h6 h7 j30_5) (show (u0_6) ≤ (n3) ∧ (n3) ≤ 16384 from q_164 h8) (h9) (show (y30_0_16) = -1 ∨ (y30_0_17) = 0 ∨ (u0_10) ≤ (y30_0_17) ∧ (y30_0_16) + (y30_0_17) ≤ (a3) ∧ 1 ≤ (y30_0_18) ∧ (y30_0_18) ≤ (y30_0_16) from j30_8) (show (a4) < (u0_6) from q_163 h7) (show (x30_6) ≤ (a4) from b28) (j30_12) (fun z39 σ39 F39ₚ A39ₚ Hₚ Oₚ hS39 hA39 y39_0_14 ey39_0_14 y39_0_15 ey39_0_15 y39_0_16 ey39_0_16 y39_0_17 ey39_0_17 y39_0_18 ey39_0_18 pz39_0 pz39_1 pz39_2 pz39_3 pz39_4 => ⟨rretB rfl pz39_0, ?_⟩))
        refine v_backc (c := c_30) (s := s_30) H oz_C4cls_1 oz_C4cls_6 Hₚ Oₚ (fun F39 A39 H Oₚ eF39 eA39 => ?_)
        have O := OUT_trans O Oₚ
        -- Finder.matchAt
        have cF39 : SF oz_C4clsl_0 F F39 := SF_trans (cF_30) (SF_gluc (ι := oz_C4clsl_2) oz_C4cls_6 hS39 eF39 (by decide +kernel)) (any_sub (lₚ := [(0, 14), (0, 15), (0, 16), (0, 17), (0, 18)]) (by decide +kernel))
        have mF39 := SFm_of cF39 oz_C4cls_4
        have cA39 : SA oz_C4clsl_1 A A39 := SA_trans (cA_30) (SA_gluc (ι := oz_C4clsl_2) oz_C4cls_6 hA39 eA39 (by decide +kernel)) (any_subA (lₚ := []) (by decide +kernel))
        have mA39 := SAm_of cA39 oz_C4cls_5
        have r40 : (-2147483648 : Int) ≤ y39_0_14 ∧ y39_0_14 ≤ 2147483647 := rngE (show (-2147483648 : Int) ≤ F39 0 14 ∧ F39 0 14 ≤ 2147483647 from H.krg 0 14 (ltn len_V125_oz_C4cls rfl)) (show F39 0 14 = y39_0_14 from ((eF39 0 14).trans ey39_0_14))
        have r41 : (-2147483648 : Int) ≤ y39_0_15 ∧ y39_0_15 ≤ 2147483647 := rngE (show (-2147483648 : Int) ≤ F39 0 15 ∧ F39 0 15 ≤ 2147483647 from H.krg 0 15 (ltn len_V125_oz_C4cls rfl)) (show F39 0 15 = y39_0_15 from ((eF39 0 15).trans ey39_0_15))
        have r42 : (-2147483648 : Int) ≤ y39_0_16 ∧ y39_0_16 ≤ 2147483647 := rngE (show (-2147483648 : Int) ≤ F39 0 16 ∧ F39 0 16 ≤ 2147483647 from H.krg 0 16 (ltn len_V125_oz_C4cls rfl)) (show F39 0 16 = y39_0_16 from ((eF39 0 16).trans ey39_0_16))
        have r43 : (-2147483648 : Int) ≤ y39_0_17 ∧ y39_0_17 ≤ 2147483647 := rngE (show (-2147483648 : Int) ≤ F39 0 17 ∧ F39 0 17 ≤ 2147483647 from H.krg 0 17 (ltn len_V125_oz_C4cls rfl)) (show F39 0 17 = y39_0_17 from ((eF39 0 17).trans ey39_0_17))
        have r44 : (-2147483648 : Int) ≤ y39_0_18 ∧ y39_0_18 ≤ 2147483647 := rngE (show (-2147483648 : Int) ≤ F39 0 18 ∧ F39 0 18 ≤ 2147483647 from H.krg 0 18 (ltn len_V125_oz_C4cls rfl)) (show F39 0 18 = y39_0_18 from ((eF39 0 18).trans ey39_0_18))
        have hmt : ∀ r, (z39) = r → MT ((w2)) ((a3)) ((u0_11)) ((u0_10)) ((u0_9)) ((a4)) ((x30_6)) (r * (y39_0_14)) ((y39_0_15)) := fun r e => e ▸ pz39_3
        refine w_ifeq (t := 79) rfl rfl (show inr (z39) from q_138 pz39_0) (fun b45 => ?_) (fun b45 => ?_)
        · refine Ew_of (pcₚ := 82) (fun _ => x_iinc (len := 3) rfl (l30_6)) ?_
          have : FDI ((w30_4)) ((w30_5)) ((w30_6)) ((y30_0_4)) ((x30_5) - (a1)) ((u0_10)) := by first | assumption | (have e : (x30_5) - (a1) = (x30_5 - (a1)) + (x30_6 - x30_5) + (y39_0_14) := (by omega); have e2 : (y30_0_4) = y30_0_4 + 1 := (by omega); rw [e, e2]; exact hfn)
          have : GOP (MTL ((w2)) ((a3)) ((u0_11)) ((u0_10)) ((u0_9)) ((a4))) ((a2)) ((a1)) (((x30_6 + 1))) ((x30_5)) (sq ((w30_4)) ((w30_5)) ((w30_6)) ((y30_0_4))) := by first | exact GOP_skip j30_g (by omega) (MTL_z (hmt 0 (by omega)) (by omega)) rfl | exact GOP_take j30_g (a := x30_6 - x30_5) (by omega) (by omega) (by omega) (MTL_o (hmt 1 (by omega)) (by omega)) rfl (by rw [show (y30_0_4) = y30_0_4 + 1 by omega]; exact hsq)
          exact hc82  _ _ _ _ _ _ _ _ (x30_5) ((x30_6 + 1)) (rk_o (l30_0) rfl rfl) (rk_o (l30_2) rfl rfl) (rk_o (l30_5) rfl rfl) (rk_s) (rk_o (l30_7) rfl rfl) H O (SD_refl) (SD_refl) (SF_trans (SF_refl) (SF_gluc (ι := oz_C4clsl_2) oz_C4cls_6 hS39 eF39 (by decide +kernel)) (any_sub (lₚ := [(0, 14), (0, 15), (0, 16), (0, 17), (0, 18)]) (by decide +kernel))) (SA_trans (SA_refl) (SA_gluc (ι := oz_C4clsl_2) oz_C4cls_6 hA39 eA39 (by decide +kernel)) (any_subA (lₚ := []) (by decide +kernel))) ((((show F39 0 1 = F_30 0 1 from (eF39 0 1).trans (hS39 0 1 rfl)))).trans (pm30_4)) ((((show F39 0 2 = F_30 0 2 from (eF39 0 2).trans (hS39 0 2 rfl)))).trans (pm30_5)) ((((show F39 0 3 = F_30 0 3 from (eF39 0 3).trans (hS39 0 3 rfl)))).trans (pm30_6)) (m30_4) (em30_4) (m30_5) (em30_5) (m30_6) (em30_6) (y30_0_4) ((((show F39 0 4 = F_30 0 4 from (eF39 0 4).trans (hS39 0 4 rfl))).trans (ey30_0_4))) (y39_0_16) (((eF39 0 16).trans ey39_0_16)) (y39_0_17) (((eF39 0 17).trans ey39_0_17)) (y39_0_18) (((eF39 0 18).trans ey39_0_18)) (w30_4) (((show A39 4 = A_30 4 from (eA39 4))).trans (ew30_4)) (w30_5) (((show A39 5 = A_30 5 from (eA39 5))).trans (ew30_5)) (w30_6) (((show A39 6 = A_30 6 from (eA39 6))).trans (ew30_6)) (show inr (x30_5) from j30_0) (show inr ((x30_6 + 1)) from q_169 h4 h6 j30_1 j30_5) (show (a1) ≤ (x30_5) ∧ (x30_5) ≤ ((x30_6 + 1)) ∧ ((x30_6 + 1)) ≤ (a2) from q_168 b28 h7 j30_5) (show (m30_4) = (m30_5) ∧ (m30_6) = (m30_5) ∧ (m30_5) ≤ 65536 ∧ ((m30_5) = 0 ∨ 64 ≤ (m30_5)) ∧ lgq ((m30_5)) = 0 from j30_6) (show 0 ≤ (y30_0_4) ∧ (y30_0_4) ≤ (m30_5) ∧ (y30_0_4) ≤ (x30_5) - (a1) from j30_7) (show (y39_0_16) = -1 ∨ (y39_0_17) = 0 ∨ (u0_10) ≤ (y39_0_17) ∧ (y39_0_16) + (y39_0_17) ≤ (a3) ∧ 1 ≤ (y39_0_18) ∧ (y39_0_18) ≤ (y39_0_16) from pz39_2) (j30_9) (show (x30_7) + 1 ≤ ((x30_6 + 1)) from q_167 j30_10) (show GOP (MTL ((w2)) ((a3)) ((u0_11)) ((u0_10)) ((u0_9)) ((a4))) ((a2)) ((a1)) (((x30_6 + 1))) ((x30_5)) (sq ((w30_4)) ((w30_5)) ((w30_6)) ((y30_0_4))) by assumption) (pz39_4)
        · refine Ew_of (pcₚ := 55) (fun _ => x_aload_n rfl l30_0) ?_
          refine Ew_of (pcₚ := 57) (fun _ => x_iload rfl l30_6) ?_
          refine Ew_of (pcₚ := 59) (fun _ => x_iload rfl l30_5) ?_
          refine w_isub rfl ?_
          refine v_inv H (o := 0) rfl rfl rfl rfl rfl rfl (by rfl) (C126 (D := puc 806619136 D_30) (N := puc 806619136 N_30) (HW_subc H oz_C4cls_2 oz_C4cls_7) ((((show F39 0 1 = F_30 0 1 from (eF39 0 1).trans (hS39 0 1 rfl)))).trans (pm30_4)) ((((show F39 0 2 = F_30 0 2 from (eF39 0 2).trans (hS39 0 2 rfl)))).trans (pm30_5)) ((((show F39 0 3 = F_30 0 3 from (eF39 0 3).trans (hS39 0 3 rfl)))).trans (pm30_6)) (m30_4) (em30_4) (m30_5) (em30_5) (m30_6) (em30_6) (y30_0_4) ((((show F39 0 4 = F_30 0 4 from (eF39 0 4).trans (hS39 0 4 rfl))).trans (ey30_0_4))) (u0_10) (((mF39 0 10 rfl).trans (eu0_10))) (y39_0_14) (((eF39 0 14).trans ey39_0_14)) (y39_0_15) (((eF39 0 15).trans ey39_0_15)) (w30_4) (((show A39 4 = A_30 4 from (eA39 4))).trans (ew30_4)) (w30_5) (((show A39 5 = A_30 5 from (eA39 5))).trans (ew30_5)) (w30_6) (((show A39 6 = A_30 6 from (eA39 6))).trans (ew30_6)) ((x30_5) - (a1)) (show inr ((x30_6 - x30_5)) from q_173 h6 j30_1 j30_5) (show (m30_4) = (m30_5) ∧ (m30_6) = (m30_5) ∧ (m30_5) ≤ 65536 ∧ ((m30_5) = 0 ∨ 64 ≤ (m30_5)) ∧ lgq ((m30_5)) = 0 from j30_6) (show 0 ≤ (y30_0_4) ∧ (y30_0_4) ≤ (m30_5) ∧ (y30_0_4) ≤ 16383 from q_172 b28 h4 h6 h7 j30_5 j30_7) (show 0 ≤ ((x30_6 - x30_5)) from q_171 j30_5) (show (u0_10) ≤ (y39_0_14) ∧ 1 ≤ (y39_0_15) ∧ (y39_0_15) ≤ 16384 from q_170 b45 h4 h6 j30_5 pz39_0 pz39_1) (j30_9) (fun σ46 D46ₚ N46ₚ F46ₚ A46ₚ c46 s46 Hₚ Oₚ hD46 hN46 hS46 hA46 pm46_1 pm46_2 pm46_3 m46_1 em46_1 m46_2 em46_2 m46_3 em46_3 y46_0_4 ey46_0_4 w46_1 ew46_1 w46_2 ew46_2 w46_3 ew46_3 pz46_0 pz46_1 pz46_2 pz46_3 => ⟨rfl, ?_⟩))
          refine v_backMc (c := c_30) (s := s_30) H oz_C4cls_2 oz_C4cls_7 Hₚ Oₚ hD46 oz_C4cls_3 (fun D46 N46 F46 A46 H Oₚ eD46 eN46 eF46 eA46 => ?_)
          have O := OUT_trans O Oₚ
          -- Finder.note
          have cF46 : SF oz_C4clsl_0 F F46 := SF_trans (cF39) (SF_gluc (ι := oz_C4clsl_3) oz_C4cls_7 hS46 eF46 (by decide +kernel)) (any_sub (lₚ := [(0, 1), (0, 2), (0, 3), (0, 4)]) (by decide +kernel))
          have mF46 := SFm_of cF46 oz_C4cls_4
          have cA46 : SA oz_C4clsl_1 A A46 := SA_trans (cA39) (SA_gluc (ι := oz_C4clsl_3) oz_C4cls_7 hA46 eA46 (by decide +kernel)) (any_subA (lₚ := [4, 5, 6]) (by decide +kernel))
          have mA46 := SAm_of cA46 oz_C4cls_5
          have cD46 : SD oz_C4clsl_1 D D46 := SD_trans (cD_30) (SD_gluc (ι := oz_C4clsl_3) oz_C4cls_7 hD46 eD46 (by decide +kernel)) (any_subA (lₚ := [4, 5, 6]) (by decide +kernel))
          have mD46 := SDm_of cD46 oz_C4cls_5
          have cN46 : SD oz_C4clsl_1 N N46 := SD_trans (cN_30) (SD_gluc (ι := oz_C4clsl_3) oz_C4cls_7 hN46 eN46 (by decide +kernel)) (any_subA (lₚ := [4, 5, 6]) (by decide +kernel))
          have mN46 := SDm_of cN46 oz_C4cls_5
          have pf46_0_1 : F46 0 1 = (D46 4 : Int) := (eF46 0 1).trans (pm46_1.trans (congrArg (fun q : Nat => (q : Int)) (eD46 4).symm))
          have pf46_0_2 : F46 0 2 = (D46 5 : Int) := (eF46 0 2).trans (pm46_2.trans (congrArg (fun q : Nat => (q : Int)) (eD46 5).symm))
          have pf46_0_3 : F46 0 3 = (D46 6 : Int) := (eF46 0 3).trans (pm46_3.trans (congrArg (fun q : Nat => (q : Int)) (eD46 6).symm))
          have r47 : (0 : Int) ≤ m46_1 ∧ m46_1 ≤ 1000000 := nleE (H.nle 4 (ltn len_V125_oz_C4cls rfl)) (show (N46 4 : Int) = m46_1 from (congrArg (fun q : Nat => (q : Int)) (eN46 4)).trans em46_1)
          have r48 : (0 : Int) ≤ m46_2 ∧ m46_2 ≤ 1000000 := nleE (H.nle 5 (ltn len_V125_oz_C4cls rfl)) (show (N46 5 : Int) = m46_2 from (congrArg (fun q : Nat => (q : Int)) (eN46 5)).trans em46_2)
          have r49 : (0 : Int) ≤ m46_3 ∧ m46_3 ≤ 1000000 := nleE (H.nle 6 (ltn len_V125_oz_C4cls rfl)) (show (N46 6 : Int) = m46_3 from (congrArg (fun q : Nat => (q : Int)) (eN46 6)).trans em46_3)
          have r50 : (-2147483648 : Int) ≤ y46_0_4 ∧ y46_0_4 ≤ 2147483647 := rngE (show (-2147483648 : Int) ≤ F46 0 4 ∧ F46 0 4 ≤ 2147483647 from H.krg 0 4 (ltn len_V125_oz_C4cls rfl)) (show F46 0 4 = y46_0_4 from ((eF46 0 4).trans ey46_0_4))
          have hfn := pz46_2
          have hsq := pz46_3
          refine Ew_of (pcₚ := 65) (fun _ => x_iload rfl l30_6) ?_
          refine Ew_of (pcₚ := 66) (fun _ => x_aload_n rfl l30_0) ?_
          refine Ew_stk (congrArg (fun qz : Nat => ([.ref qz, I (x30_6)] : List Value)) (show D46 0 = D_30 0 from ((show D46 0 = D_30 0 from (eD46 0).trans (hD46 0 rfl)))).symm) ?_
          refine v_g H (o := 0) (v := I (y39_0_14)) rfl rfl rfl rfl rfl (congrArg (fun z : Int => I z) ((((show F46 0 14 = F39 0 14 from (eF46 0 14).trans (hS46 0 14 rfl))).trans ((eF39 0 14).trans ey39_0_14)) : F46 0 14 = y39_0_14)) ?_
          refine w_iadd rfl ?_
          refine Ew_of (pcₚ := 72) (fun _ => x_istore rfl) ?_
          refine Ew_of (pcₚ := 74) (fun _ => x_iload rfl rk_s) ?_
          refine Ew_of (pcₚ := 76) (fun _ => x_istore rfl) ?_
          refine Ew_of (pcₚ := 82) (fun _ => x_goto rfl rfl) ?_
          have : FDI ((w46_1)) ((w46_2)) ((w46_3)) ((y46_0_4)) (((x30_6 + y39_0_14)) - (a1)) ((u0_10)) := by first | assumption | (have e : ((x30_6 + y39_0_14)) - (a1) = (x30_5 - (a1)) + (x30_6 - x30_5) + (y39_0_14) := (by omega); have e2 : (y46_0_4) = y30_0_4 + 1 := (by omega); rw [e, e2]; exact hfn)
          have : GOP (MTL ((w2)) ((a3)) ((u0_11)) ((u0_10)) ((u0_9)) ((a4))) ((a2)) ((a1)) (((x30_6 + y39_0_14))) (((x30_6 + y39_0_14))) (sq ((w46_1)) ((w46_2)) ((w46_3)) ((y46_0_4))) := by first | exact GOP_skip j30_g (by omega) (MTL_z (hmt 0 (by omega)) (by omega)) rfl | exact GOP_take j30_g (a := x30_6 - x30_5) (by omega) (by omega) (by omega) (MTL_o (hmt 1 (by omega)) (by omega)) rfl (by rw [show (y46_0_4) = y30_0_4 + 1 by omega]; exact hsq)
          exact hc82  _ _ _ _ _ _ _ _ ((x30_6 + y39_0_14)) ((x30_6 + y39_0_14)) ((rk_o (rk_o (l30_0) rfl rfl) rfl rfl).trans (congrArg (fun q : Nat => some (Value.ref q)) (((show D46 0 = D_30 0 from (eD46 0).trans (hD46 0 rfl)))).symm)) (rk_o (rk_o (l30_2) rfl rfl) rfl rfl) (rk_s) (rk_o (rk_s) rfl rfl) (rk_o (rk_o (l30_7) rfl rfl) rfl rfl) H O (SD_trans (SD_refl) (SD_gluc (ι := oz_C4clsl_3) oz_C4cls_7 hD46 eD46 (by decide +kernel)) (any_subA (lₚ := [4, 5, 6]) (by decide +kernel))) (SD_trans (SD_refl) (SD_gluc (ι := oz_C4clsl_3) oz_C4cls_7 hN46 eN46 (by decide +kernel)) (any_subA (lₚ := [4, 5, 6]) (by decide +kernel))) (SF_trans (SF_trans (SF_refl) (SF_gluc (ι := oz_C4clsl_2) oz_C4cls_6 hS39 eF39 (by decide +kernel)) (any_sub (lₚ := [(0, 14), (0, 15), (0, 16), (0, 17), (0, 18)]) (by decide +kernel))) (SF_gluc (ι := oz_C4clsl_3) oz_C4cls_7 hS46 eF46 (by decide +kernel)) (any_sub (lₚ := [(0, 1), (0, 2), (0, 3), (0, 4)]) (by decide +kernel))) (SA_trans (SA_trans (SA_refl) (SA_gluc (ι := oz_C4clsl_2) oz_C4cls_6 hA39 eA39 (by decide +kernel)) (any_subA (lₚ := []) (by decide +kernel))) (SA_gluc (ι := oz_C4clsl_3) oz_C4cls_7 hA46 eA46 (by decide +kernel)) (any_subA (lₚ := [4, 5, 6]) (by decide +kernel))) (pf46_0_1) (pf46_0_2) (pf46_0_3) (m46_1) ((congrArg (fun q : Nat => (q : Int)) (eN46 4)).trans em46_1) (m46_2) ((congrArg (fun q : Nat => (q : Int)) (eN46 5)).trans em46_2) (m46_3) ((congrArg (fun q : Nat => (q : Int)) (eN46 6)).trans em46_3) (y46_0_4) (((eF46 0 4).trans ey46_0_4)) (y39_0_16) ((((show F46 0 16 = F39 0 16 from (eF46 0 16).trans (hS46 0 16 rfl))).trans ((eF39 0 16).trans ey39_0_16))) (y39_0_17) ((((show F46 0 17 = F39 0 17 from (eF46 0 17).trans (hS46 0 17 rfl))).trans ((eF39 0 17).trans ey39_0_17))) (y39_0_18) ((((show F46 0 18 = F39 0 18 from (eF46 0 18).trans (hS46 0 18 rfl))).trans ((eF39 0 18).trans ey39_0_18))) (w46_1) ((eA46 4).trans ew46_1) (w46_2) ((eA46 5).trans ew46_2) (w46_3) ((eA46 6).trans ew46_3) (show inr ((x30_6 + y39_0_14)) from q_177 b45 h4 h6 h7 j30_5 pz39_0 pz39_1 r40) (show inr ((x30_6 + y39_0_14)) from q_177 b45 h4 h6 h7 j30_5 pz39_0 pz39_1 r40) (show (a1) ≤ ((x30_6 + y39_0_14)) ∧ ((x30_6 + y39_0_14)) ≤ ((x30_6 + y39_0_14)) ∧ ((x30_6 + y39_0_14)) ≤ (a2) from q_176 b45 h5 h7 j30_10 j30_3 pz39_0 pz39_1) (show (m46_1) = (m46_2) ∧ (m46_3) = (m46_2) ∧ (m46_2) ≤ 65536 ∧ ((m46_2) = 0 ∨ 64 ≤ (m46_2)) ∧ lgq ((m46_2)) = 0 from pz46_0) (show 0 ≤ (y46_0_4) ∧ (y46_0_4) ≤ (m46_2) ∧ (y46_0_4) ≤ ((x30_6 + y39_0_14)) - (a1) from q_175 b45 h5 j30_5 j30_7 pz39_0 pz39_1 pz46_1) (show (y39_0_16) = -1 ∨ (y39_0_17) = 0 ∨ (u0_10) ≤ (y39_0_17) ∧ (y39_0_16) + (y39_0_17) ≤ (a3) ∧ 1 ≤ (y39_0_18) ∧ (y39_0_18) ≤ (y39_0_16) from pz39_2) (show FDI ((w46_1)) ((w46_2)) ((w46_3)) ((y46_0_4)) (((x30_6 + y39_0_14)) - (a1)) ((u0_10)) by assumption) (show (x30_7) + 1 ≤ ((x30_6 + y39_0_14)) from q_174 b45 h5 j30_10 pz39_0 pz39_1) (show GOP (MTL ((w2)) ((a3)) ((u0_11)) ((u0_10)) ((u0_9)) ((a4))) ((a2)) ((a1)) (((x30_6 + y39_0_14))) (((x30_6 + y39_0_14))) (sq ((w46_1)) ((w46_2)) ((w46_3)) ((y46_0_4))) by assumption) (pz39_4)


end
section
/-! E1.cls -/
abbrev V169 : vV := [(0, 8, [(0, 0), (0, 0), (4, 0), (4, 0), (4, 0), (4, 0), (4, 0), (4, 0), (4, 0), (4, 0), (4, 0), (0, 0), (0, 0)]), (1, 1, []), (1, 1, []), (1, 1, []), (1, 1, []), (1, 1, []), (1, 1, []), (1, 1, []), (1, 1, [])]
theorem len_V169_oz_E1cls : (V169).length = 9 := by decide +kernel
def oz_E1clsl_0 : List (Nat × Nat) := []
theorem oz_E1cls_1 : (oz_E1clsl_0).all (fun p => !tbz 0 (Nat.add (Nat.mul 32 p.1) p.2)) = true := by decide +kernel
def oz_E1clsl_1 : List Nat := [2, 3, 4, 5, 6, 7, 8]
theorem oz_E1cls_2 : (oz_E1clsl_1).all (fun p => !tbz 508 p) = true := by decide +kernel
set_option maxHeartbeats 16000000 in
theorem C169 {σE : rS} {D N : Nat → Nat} {F : hF} {A : hA} {d c s : Nat} {Q : wQ} (H : HW V169 σE D N F A)  (pf1 : F 0 2 = (D 1 : Int)) (pf2 : F 0 3 = (D 2 : Int)) (pf3 : F 0 4 = (D 3 : Int)) (pf4 : F 0 5 = (D 4 : Int)) (pf5 : F 0 6 = (D 5 : Int)) (pf6 : F 0 8 = (D 6 : Int)) (pf7 : F 0 7 = (D 7 : Int)) (pf8 : F 0 9 = (D 8 : Int)) (n1 : Int) (en1 : (N 1 : Int) = n1) (n2 : Int) (en2 : (N 2 : Int) = n2) (n3 : Int) (en3 : (N 3 : Int) = n3) (n4 : Int) (en4 : (N 4 : Int) = n4) (n5 : Int) (en5 : (N 5 : Int) = n5) (n6 : Int) (en6 : (N 6 : Int) = n6) (n7 : Int) (en7 : (N 7 : Int) = n7) (n8 : Int) (en8 : (N 8 : Int) = n8) (u0_0 : Int) (eu0_0 : F 0 0 = u0_0) (u0_1 : Int) (eu0_1 : F 0 1 = u0_1) (w1 : Int → Int) (ew1 : A 1 = w1) (w2 : Int → Int) (ew2 : A 2 = w2) (w3 : Int → Int) (ew3 : A 3 = w3) (w4 : Int → Int) (ew4 : A 4 = w4) (w6 : Int → Int) (ew6 : A 6 = w6) (w7 : Int → Int) (ew7 : A 7 = w7) (w8 : Int → Int) (ew8 : A 8 = w8) (h0 : SHD ((w1)) ((u0_1)) ((u0_0))) (h1 : (n1) = (u0_1) ∧ (n2) = (u0_1) ∧ (n3) = (u0_1) ∧ (n4) = (u0_1) ∧ (n5) = (u0_1) ∧ (n6) = (n7) ∧ (n8) = (n7) ∧ p2 ((u0_0)) ≤ (n7)) (k : ∀ (σ : rS) (Fₚ : hF) (Aₚ : hA), HW V169 σ D N Fₚ Aₚ → OUT (V169).length D N σE c s D N σ c s → SF [] F Fₚ → SA [2, 3, 4, 5, 6, 7, 8] A Aₚ → ∀ v2 : Int → Int, Aₚ 2 = v2 → ∀ v3 : Int → Int, Aₚ 3 = v3 → ∀ v4 : Int → Int, Aₚ 4 = v4 → ∀ v6 : Int → Int, Aₚ 6 = v6 → ∀ v7 : Int → Int, Aₚ 7 = v7 → ∀ v8 : Int → Int, Aₚ 8 = v8 → (SL ((w1)) ((u0_1)) ((u0_0)) ((v2)) ((v3)) ((v4)) ((v7)) ((v6)) ((v8))) → Q none σ c s) : Ew 169 (d + 0) 0 (rargs 0 [.ref (D 0)]) [] σE c s Q := by
  have O := OUT_refl (n := (V169).length) (D := D) (N := N) (σ := σE) (c := c) (s := s)
  have HE := H
  have r1 : (-2147483648 : Int) ≤ u0_0 ∧ u0_0 ≤ 2147483647 := rngE (show (-2147483648 : Int) ≤ F 0 0 ∧ F 0 0 ≤ 2147483647 from H.krg 0 0 (ltn len_V169_oz_E1cls rfl)) (show F 0 0 = u0_0 from (eu0_0))
  have r2 : (-2147483648 : Int) ≤ u0_1 ∧ u0_1 ≤ 2147483647 := rngE (show (-2147483648 : Int) ≤ F 0 1 ∧ F 0 1 ≤ 2147483647 from H.krg 0 1 (ltn len_V169_oz_E1cls rfl)) (show F 0 1 = u0_1 from (eu0_1))
  have r3 : (0 : Int) ≤ n1 ∧ n1 ≤ 1000000 := nleE (H.nle 1 (ltn len_V169_oz_E1cls rfl)) (show (N 1 : Int) = n1 from en1)
  have r4 : (0 : Int) ≤ n2 ∧ n2 ≤ 1000000 := nleE (H.nle 2 (ltn len_V169_oz_E1cls rfl)) (show (N 2 : Int) = n2 from en2)
  have r5 : (0 : Int) ≤ n3 ∧ n3 ≤ 1000000 := nleE (H.nle 3 (ltn len_V169_oz_E1cls rfl)) (show (N 3 : Int) = n3 from en3)
  have r6 : (0 : Int) ≤ n4 ∧ n4 ≤ 1000000 := nleE (H.nle 4 (ltn len_V169_oz_E1cls rfl)) (show (N 4 : Int) = n4 from en4)
  have r7 : (0 : Int) ≤ n5 ∧ n5 ≤ 1000000 := nleE (H.nle 5 (ltn len_V169_oz_E1cls rfl)) (show (N 5 : Int) = n5 from en5)
  have r8 : (0 : Int) ≤ n6 ∧ n6 ≤ 1000000 := nleE (H.nle 6 (ltn len_V169_oz_E1cls rfl)) (show (N 6 : Int) = n6 from en6)
  have r9 : (0 : Int) ≤ n7 ∧ n7 ≤ 1000000 := nleE (H.nle 7 (ltn len_V169_oz_E1cls rfl)) (show (N 7 : Int) = n7 from en7)
  have r10 : (0 : Int) ≤ n8 ∧ n8 ≤ 1000000 := nleE (H.nle 8 (ltn len_V169_oz_E1cls rfl)) (show (N 8 : Int) = n8 from en8)
  have hS : SHD ((w1)) ((u0_1)) ((u0_0)) := h0
  have hf := SHD_f hS
  refine Ew_of (pcₚ := 1) (fun _ => x_iconst rfl) ?_
  refine Ew_of (pcₚ := 2) (fun _ => x_aload_n rfl rfl) ?_
  refine v_g H (o := 0) (v := I (u0_0)) rfl rfl rfl rfl rfl (congrArg (fun z : Int => I z) ((eu0_0) : F 0 0 = u0_0)) ?_
  refine w_ishl1 rfl (show 0 ≤ u0_0 ∧ u0_0 ≤ 31 by omega) ?_
  refine Ew_of (pcₚ := 7) (fun _ => x_istore_n rfl) ?_
  refine Ew_of (pcₚ := 8) (fun _ => x_iload_n rfl rk_s) ?_
  refine Ew_of (pcₚ := 9) (fun _ => x_iconst rfl) ?_
  refine w_isub rfl ?_
  refine Ew_of (pcₚ := 11) (fun _ => x_istore_n rfl) ?_
  refine Ew_of (pcₚ := 12) (fun _ => x_iconst rfl) ?_
  refine Ew_of (pcₚ := 13) (fun _ => x_istore_n rfl) ?_
  refine Ew_of (pcₚ := 14) (fun _ => x_iconst rfl) ?_
  refine Ew_of (pcₚ := 16) (fun _ => x_istore rfl) ?_
  have hM0 : MSI ((w1)) ((w2)) 0 := MSI_0
  have hS0 : SSC ((w1)) ((w4)) 0 := SSC_0
  have hU0 : USI ((A 5)) 0 := USI_0
  have hB0 : BSI ((w1)) ((w3)) ((u0_0)) 0 := BSI_0
  have hN0 : NGI ((w1)) ((w7)) ((u0_0)) 0 := NGI_0
  have : mp ((w1)) 0 = 0 := rfl
  have : ngs ((w1)) 0 = 0 := rfl
  suffices hl16 : ∀ (m : Nat), ∀ (ls : rO) (σ : rS) (F_16 : hF) (A_16 : hA) (x16_2 : Int) (x16_3 : Int) (x16_4 : Int), rlook ls 0 = some (.ref (D 0)) → rlook ls 1 = some (I (p2 (u0_0))) → rlook ls 2 = some (I (x16_2)) → rlook ls 3 = some (I (x16_3)) → rlook ls 4 = some (I (x16_4)) → HW V169 σ D N F_16 A_16 → OUT (V169).length D N σE c s D N σ c s → SF [] F F_16 → SA [2, 3, 4, 5, 7] A A_16 → ∀ w16_2 : Int → Int, A_16 2 = w16_2 → ∀ w16_3 : Int → Int, A_16 3 = w16_3 → ∀ w16_4 : Int → Int, A_16 4 = w16_4 → ∀ w16_5 : Int → Int, A_16 5 = w16_5 → ∀ w16_7 : Int → Int, A_16 7 = w16_7 → (inr (x16_2)) → (inr (x16_3)) → (inr (x16_4)) → ((0) ≤ (x16_4)) → ((x16_4) ≤ (0) ∨ (x16_4) ≤ ((u0_1))) → ((x16_2) = p2 ((u0_0)) - 1 - ngs ((w1)) (x16_4)) → ((x16_3) = mp ((w1)) (x16_4)) → (MSI ((w1)) ((w16_2)) (x16_4)) → (SSC ((w1)) ((w16_4)) (x16_4)) → (USI ((w16_5)) (x16_4)) → (BSI ((w1)) ((w16_3)) ((u0_0)) (x16_4)) → (NGI ((w1)) ((w16_7)) ((u0_0)) (x16_4)) → (((u0_1)) - (x16_4)).toNat = m → Ew 169 (d + 0) 16 ls [] σ c s Q from
    hl16 _ _ _ _ _ ((p2 (u0_0) - 1)) (0) (0) (rk_o (rk_o (rk_o (rk_o (rfl) rfl rfl) rfl rfl) rfl rfl) rfl rfl) (rk_o (rk_o (rk_o (rk_s) rfl rfl) rfl rfl) rfl rfl) (rk_o (rk_o (rk_s) rfl rfl) rfl rfl) (rk_o (rk_s) rfl rfl) (rk_s) H O (SF_refl) (SA_refl)    (w2) (ew2) (w3) (ew3) (w4) (ew4) (A 5) (rfl) (w7) (ew7) (show inr ((p2 (u0_0) - 1)) by omega) (show inr (0) from q_2) (show inr (0) from q_2) (show (0) ≤ (0) from q_1) (show (0) ≤ (0) ∨ (0) ≤ ((u0_1)) from q_5) (show ((p2 (u0_0) - 1)) = p2 ((u0_0)) - 1 - ngs ((w1)) (0) by omega) (show (0) = mp ((w1)) (0) by omega) (hM0) (hS0) (hU0) (hB0) (hN0) rfl
  as_aux_lemma =>
  intro m
  induction m using Nat.strongRecOn with
  | _ m ih16 =>
    intro ls σ F_16 A_16 x16_2 x16_3 x16_4 l16_0 l16_1 l16_2 l16_3 l16_4 H O hS_16 hA_16    w16_2 ew16_2 w16_3 ew16_3 w16_4 ew16_4 w16_5 ew16_5 w16_7 ew16_7 j16_0 j16_1 j16_2 j16_3 j16_4 j16_5 j16_6 j16_7 j16_8 j16_9 j16_10 j16_11 hm16
    have cF_16 : SF oz_E1clsl_0 F F_16 := SF_trans (SF_refl) hS_16 (any_sub (by decide +kernel))
    have mF_16 := SFm_of cF_16 oz_E1cls_1
    have cA_16 : SA oz_E1clsl_1 A A_16 := SA_trans (SA_refl) hA_16 (any_subA (by decide +kernel))
    have mA_16 := SAm_of cA_16 oz_E1cls_2
    refine Ew_of (pcₚ := 18) (fun _ => x_iload rfl l16_4) ?_
    refine Ew_of (pcₚ := 19) (fun _ => x_aload_n rfl l16_0) ?_
    refine v_g H (o := 0) (v := I (u0_1)) rfl rfl rfl rfl rfl (congrArg (fun z : Int => I z) (((mF_16 0 1 rfl).trans (eu0_1)) : F_16 0 1 = u0_1)) ?_
    refine w_icmpge (t := 153) rfl rfl (show inr (x16_4) from j16_2) (show inr (u0_1) from q_18 r2) (fun b12 => ?_) (fun b12 => ?_)
    · have hl4 : (x16_4) = ((u0_1)) := q_178 b12 h1 j16_4 r4
      have hMn : MSI ((w1)) ((w16_2)) ((u0_1)) := by rw [← hl4]; assumption
      have hSn : SSC ((w1)) ((w16_4)) ((u0_1)) := by rw [← hl4]; assumption
      have hUn : USI ((w16_5)) ((u0_1)) := by rw [← hl4]; assumption
      have hBn : BSI ((w1)) ((w16_3)) ((u0_0)) ((u0_1)) := by rw [← hl4]; assumption
      have hNn : NGI ((w1)) ((w16_7)) ((u0_0)) ((u0_1)) := by rw [← hl4]; assumption
      have hl2 : (x16_2) = p2 ((u0_0)) - 1 - ngs ((w1)) ((u0_1)) := by rw [← hl4]; omega
      refine Ew_of (pcₚ := 154) (fun _ => x_iload_n rfl l16_1) ?_
      refine Ew_of (pcₚ := 155) (fun _ => x_iconst rfl) ?_
      refine w_ishrK 1 2 (by decide) (by decide) rfl (show inr (p2 (u0_0)) by omega) (fun z13 gz13 dz13 => ?_)
      refine Ew_of (pcₚ := 157) (fun _ => x_iload_n rfl l16_1) ?_
      refine Ew_of (pcₚ := 158) (fun _ => x_iconst rfl) ?_
      refine w_ishrK 3 8 (by decide) (by decide) rfl (show inr (p2 (u0_0)) by omega) (fun z14 gz14 dz14 => ?_)
      refine w_iadd rfl ?_
      refine Ew_of (pcₚ := 161) (fun _ => x_iconst rfl) ?_
      refine w_iadd rfl ?_
      refine Ew_of (pcₚ := 164) (fun _ => x_istore rfl) ?_
      refine Ew_of (pcₚ := 165) (fun _ => x_iconst rfl) ?_
      refine Ew_of (pcₚ := 167) (fun _ => x_istore rfl) ?_
      refine Ew_of (pcₚ := 168) (fun _ => x_iconst rfl) ?_
      refine Ew_of (pcₚ := 170) (fun _ => x_istore rfl) ?_
      have hly : LYC ((w1)) ((u0_1)) ((u0_0)) ((w16_7)) 0 (cum ((w1)) (0)) 0 := LYC_0 hNn
      have : cum ((w1)) 0 = 0 := rfl
      suffices hl170 : ∀ (m : Nat), ∀ (ls : rO) (σ : rS) (F_170 : hF) (A_170 : hA) (x170_5 : Int) (x170_6 : Int), rlook ls 0 = some (.ref (D 0)) → rlook ls 1 = some (I (p2 (u0_0))) → rlook ls 2 = some (I (x16_2)) → rlook ls 4 = some (I (((z13 + z14) + 3))) → rlook ls 5 = some (I (x170_5)) → rlook ls 6 = some (I (x170_6)) → HW V169 σ D N F_170 A_170 → OUT (V169).length D N σE c s D N σ c s → SF [] F_16 F_170 → SA [7] A_16 A_170 → ∀ w170_7 : Int → Int, A_170 7 = w170_7 → (inr (x170_5)) → (inr (x170_6)) → ((0) ≤ (x170_6)) → ((x170_6) ≤ (0) ∨ (x170_6) ≤ ((u0_1))) → (LYC ((w1)) ((u0_1)) ((u0_0)) ((w170_7)) (x170_5) (cum ((w1)) ((x170_6))) 0) → (0 ≤ (x170_5) ∧ (x170_5) < p2 ((u0_0))) → (p2 ((u0_0)) - ngs ((w1)) ((u0_1)) ≤ cum ((w1)) ((x170_6)) ∨ (x170_5) ≤ (x16_2)) → (((u0_1)) - (x170_6)).toNat = m → Ew 169 (d + 0) 170 ls [] σ c s Q from
        hl170 _ _ _ _ _ (0) (0) (rk_o (rk_o (rk_o (l16_0) rfl rfl) rfl rfl) rfl rfl) (rk_o (rk_o (rk_o (l16_1) rfl rfl) rfl rfl) rfl rfl) (rk_o (rk_o (rk_o (l16_2) rfl rfl) rfl rfl) rfl rfl) (rk_o (rk_o (rk_s) rfl rfl) rfl rfl) (rk_o (rk_s) rfl rfl) (rk_s) H O (SF_refl) (SA_refl)    (w16_7) (ew16_7) (show inr (0) from q_2) (show inr (0) from q_2) (show (0) ≤ (0) from q_1) (show (0) ≤ (0) ∨ (0) ≤ ((u0_1)) from q_5) (hly) (show 0 ≤ (0) ∧ (0) < p2 ((u0_0)) by omega) (show p2 ((u0_0)) - ngs ((w1)) ((u0_1)) ≤ cum ((w1)) ((0)) ∨ (0) ≤ (x16_2) by omega) rfl
      as_aux_lemma =>
      intro m
      induction m using Nat.strongRecOn with
      | _ m ih170 =>
        intro ls σ F_170 A_170 x170_5 x170_6 l170_0 l170_1 l170_2 l170_4 l170_5 l170_6 H O hS_170 hA_170    w170_7 ew170_7 j170_0 j170_1 j170_2 j170_3 j170_4 j170_5 j170_6 hm170
        have cF_170 : SF oz_E1clsl_0 F F_170 := SF_trans (cF_16) hS_170 (any_sub (by decide +kernel))
        have mF_170 := SFm_of cF_170 oz_E1cls_1
        have cA_170 : SA oz_E1clsl_1 A A_170 := SA_trans (cA_16) hA_170 (any_subA (by decide +kernel))
        have mA_170 := SAm_of cA_170 oz_E1cls_2
        refine Ew_of (pcₚ := 172) (fun _ => x_iload rfl l170_6) ?_
        refine Ew_of (pcₚ := 173) (fun _ => x_aload_n rfl l170_0) ?_
        refine v_g H (o := 0) (v := I (u0_1)) rfl rfl rfl rfl rfl (congrArg (fun z : Int => I z) (((mF_170 0 1 rfl).trans (eu0_1)) : F_170 0 1 = u0_1)) ?_
        refine w_icmpge (t := 258) rfl rfl (show inr (x170_6) from j170_1) (show inr (u0_1) from q_18 r2) (fun b15 => ?_) (fun b15 => ?_)
        · have hl6 : (x170_6) = ((u0_1)) := q_179 b15 hl4 j16_3 j170_3
          have hlyE : LYC ((w1)) ((u0_1)) ((u0_0)) ((w170_7)) (x170_5) (cum ((w1)) ((x170_6))) 0 := j170_4
          have hla : LAID ((w1)) ((u0_1)) ((u0_0)) ((w170_7)) := LYC_end hS.1 ⟨by omega, by omega⟩ hlyE (by rw [hl6]; omega)
          have hct : ∀ s, 0 ≤ s → s < ((u0_1)) → su (eqs ((w170_7)) s) (p2 ((u0_0))).toNat = mass (((w1)) s) := fun s a b => LAID_cnt hS.1 (by omega) hla hS.2.2.2.2 a b
          have hrg : ∀ k, 0 ≤ k → k < p2 ((u0_0)) → 0 ≤ ((w170_7)) k ∧ ((w170_7)) k < ((u0_1)) := fun k a b => ⟨(LAID_rngO hS.1 (by omega) hla a b).1, (LAID_rngO hS.1 (by omega) hla a b).2.1⟩
          refine Ew_of (pcₚ := 259) (fun _ => x_iconst rfl) ?_
          refine Ew_of (pcₚ := 261) (fun _ => x_istore rfl) ?_
          have hu0 : UCI ((w170_7)) ((w16_5)) ((u0_1)) 0 := UCI_0 hUn
          have hx0 : XNI ((w1)) ((w170_7)) ((w6)) 0 := XNI_0
          have hp0 : PLI ((w1)) ((w170_7)) ((w8)) 0 := PLI_0
          suffices hl261 : ∀ (m : Nat), ∀ (ls : rO) (σ : rS) (F_261 : hF) (A_261 : hA) (x261_6 : Int), rlook ls 0 = some (.ref (D 0)) → rlook ls 1 = some (I (p2 (u0_0))) → rlook ls 6 = some (I (x261_6)) → HW V169 σ D N F_261 A_261 → OUT (V169).length D N σE c s D N σ c s → SF [] F_170 F_261 → SA [5, 6, 8] A_170 A_261 → ∀ w261_5 : Int → Int, A_261 5 = w261_5 → ∀ w261_6 : Int → Int, A_261 6 = w261_6 → ∀ w261_8 : Int → Int, A_261 8 = w261_8 → (inr (x261_6)) → ((0) ≤ (x261_6)) → ((x261_6) ≤ (0) ∨ (x261_6) ≤ ((p2 (u0_0)))) → (UCI ((w170_7)) ((w261_5)) ((u0_1)) (x261_6)) → (XNI ((w1)) ((w170_7)) ((w261_6)) (x261_6)) → (PLI ((w1)) ((w170_7)) ((w261_8)) (x261_6)) → (((p2 (u0_0))) - (x261_6)).toNat = m → Ew 169 (d + 0) 261 ls [] σ c s Q from
            hl261 _ _ _ _ _ (0) (rk_o (l170_0) rfl rfl) (rk_o (l170_1) rfl rfl) (rk_s) H O (SF_refl) (SA_refl)    (w16_5) ((funext (hA_170 5 rfl)).trans (ew16_5)) (w6) ((funext (hA_170 6 rfl)).trans ((funext (hA_16 6 rfl)).trans (ew6))) (w8) ((funext (hA_170 8 rfl)).trans ((funext (hA_16 8 rfl)).trans (ew8))) (show inr (0) from q_2) (show (0) ≤ (0) from q_1) (show (0) ≤ (0) ∨ (0) ≤ ((p2 (u0_0))) from q_5) (hu0) (hx0) (hp0) rfl
          as_aux_lemma =>
          intro m
          induction m using Nat.strongRecOn with
          | _ m ih261 =>
            intro ls σ F_261 A_261 x261_6 l261_0 l261_1 l261_6 H O hS_261 hA_261    w261_5 ew261_5 w261_6 ew261_6 w261_8 ew261_8 j261_0 j261_1 j261_2 j261_3 j261_4 j261_5 hm261
            have cF_261 : SF oz_E1clsl_0 F F_261 := SF_trans (cF_170) hS_261 (any_sub (by decide +kernel))
            have mF_261 := SFm_of cF_261 oz_E1cls_1
            have cA_261 : SA oz_E1clsl_1 A A_261 := SA_trans (cA_170) hA_261 (any_subA (by decide +kernel))
            have mA_261 := SAm_of cA_261 oz_E1cls_2
            have huc : UCI ((w170_7)) ((w261_5)) ((u0_1)) (x261_6) := j261_3
            refine Ew_of (pcₚ := 263) (fun _ => x_iload rfl l261_6) ?_
            refine Ew_of (pcₚ := 264) (fun _ => x_iload_n rfl l261_1) ?_
            refine w_icmpge (t := 337) rfl rfl (show inr (x261_6) from j261_0) (show inr (p2 (u0_0)) from q_180 h1 j170_5 r9) (fun b16 => ?_) (fun b16 => ?_)
            · have hl6e : (x261_6) = p2 ((u0_0)) := q_181 b16 j170_5 j261_2
              have hXe : XNI ((w1)) ((w170_7)) ((w261_6)) (p2 ((u0_0))) := by rw [← hl6e]; assumption
              have hPe : PLI ((w1)) ((w170_7)) ((w261_8)) (p2 ((u0_0))) := by rw [← hl6e]; assumption
              have hSL : SL ((w1)) ((u0_1)) ((u0_0)) ((w16_2)) ((w16_3)) ((w16_4)) ((w170_7)) ((w261_6)) ((w261_8)) := ⟨hS, hla, hMn, hSn, hBn, hXe, hPe⟩
              exact w_ret rfl (k _ _ _ H O (cF_261) (cA_261) (w16_2) ((funext (hA_261 2 rfl)).trans ((funext (hA_170 2 rfl)).trans (ew16_2))) (w16_3) ((funext (hA_261 3 rfl)).trans ((funext (hA_170 3 rfl)).trans (ew16_3))) (w16_4) ((funext (hA_261 4 rfl)).trans ((funext (hA_170 4 rfl)).trans (ew16_4))) (w261_6) (ew261_6) (w170_7) ((funext (hA_261 7 rfl)).trans (ew170_7)) (w261_8) (ew261_8) (hSL))
            · refine Ew_of (pcₚ := 268) (fun _ => x_aload_n rfl l261_0) ?_
              refine v_g H (o := 0) (v := .ref (D 7)) rfl rfl rfl rfl rfl (vrf ((mF_261 0 7 rfl).trans (pf7))) ?_
              refine Ew_of (pcₚ := 273) (fun _ => x_iload rfl l261_6) ?_
              refine v_lI H (o := 7) rfl rfl rfl rfl (n := n7) (en7) (show 0 ≤ x261_6 ∧ x261_6 < n7 from q_182 b16 h1 j261_1) (fun v17 ev17 qv17 => ?_)
              have ev17 : (w170_7) (x261_6) = v17 := (congrFun ((funext (hA_261 7 rfl)).trans (ew170_7)) (x261_6)).symm.trans ev17
              have hsy := ev17
              have hrg1 := hrg ((x261_6)) (by omega) (by omega)
              rw [hsy] at hrg1
              have hat3 := SHD_at hS (s := (v17)) hrg1.1 hrg1.2
              have hlt := su_eqs_lt hct (by omega) (by omega) hsy hrg1.1 hrg1.2
              have hpx := pl_ix hct hS.2.2.2.2 (by omega) (by omega) hsy hrg1.1 hrg1.2
              refine Ew_of (pcₚ := 276) (fun _ => x_istore rfl) ?_
              refine Ew_of (pcₚ := 277) (fun _ => x_aload_n rfl (rk_o (l261_0) rfl rfl)) ?_
              refine v_g H (o := 0) (v := .ref (D 6)) rfl rfl rfl rfl rfl (vrf ((mF_261 0 8 rfl).trans (pf6))) ?_
              refine Ew_of (pcₚ := 282) (fun _ => x_iload rfl (rk_o (l261_6) rfl rfl)) ?_
              refine Ew_of (pcₚ := 283) (fun _ => x_aload_n rfl (rk_o (l261_0) rfl rfl)) ?_
              refine v_g H (o := 0) (v := .ref (D 2)) rfl rfl rfl rfl rfl (vrf ((mF_261 0 3 rfl).trans (pf2))) ?_
              refine Ew_of (pcₚ := 288) (fun _ => x_iload rfl rk_s) ?_
              refine v_lI H (o := 2) rfl rfl rfl rfl (n := n2) (en2) (show 0 ≤ v17 ∧ v17 < n2 by omega) (fun v18 ev18 qv18 => ?_)
              have ev18 : (w16_2) (v17) = v18 := (congrFun ((funext (hA_261 2 rfl)).trans ((funext (hA_170 2 rfl)).trans (ew16_2))) (v17)).symm.trans ev18
              have hma := (hMn ((v17)) (by omega) (by omega)).symm.trans ev18
              refine Ew_of (pcₚ := 290) (fun _ => x_aload_n rfl (rk_o (l261_0) rfl rfl)) ?_
              refine v_g H (o := 0) (v := .ref (D 5)) rfl rfl rfl rfl rfl (vrf ((mF_261 0 6 rfl).trans (pf5))) ?_
              refine Ew_of (pcₚ := 295) (fun _ => x_iload rfl rk_s) ?_
              refine v_lI H (o := 5) rfl rfl rfl rfl (n := n5) (en5) (show 0 ≤ v17 ∧ v17 < n5 by omega) (fun v19 ev19 qv19 => ?_)
              have ev19 : (w261_5) (v17) = v19 := (congrFun (ew261_5) (v17)).symm.trans ev19
              have hus := (huc ((v17)) (by omega) (by omega)).symm.trans ev19
              refine w_iadd rfl ?_
              refine v_sI H (o := 6) (z := (v18 + v19)) rfl rfl rfl rfl (n := n6) (en6) (show 0 ≤ x261_6 ∧ x261_6 < n6 from q_183 b16 h1 j261_1) (show inr ((v18 + v19)) by omega) (fun σ H Oₚ => ?_)
              have O := OUT_trans O Oₚ
              have cAu20 : SA oz_E1clsl_1 A (updA A_261 6 (x261_6) ((v18 + v19))) := SA_upd (cA_261) rfl
              have mAu20 := SAm_of cAu20 oz_E1cls_2
              refine Ew_of (pcₚ := 299) (fun _ => x_aload_n rfl (rk_o (l261_0) rfl rfl)) ?_
              refine v_g H (o := 0) (v := .ref (D 8)) rfl rfl rfl rfl rfl (vrf ((mF_261 0 9 rfl).trans (pf8))) ?_
              refine Ew_of (pcₚ := 303) (fun _ => x_aload_n rfl (rk_o (l261_0) rfl rfl)) ?_
              refine v_g H (o := 0) (v := .ref (D 4)) rfl rfl rfl rfl rfl (vrf ((mF_261 0 5 rfl).trans (pf4))) ?_
              refine Ew_of (pcₚ := 308) (fun _ => x_iload rfl rk_s) ?_
              refine v_lI H (o := 4) rfl rfl rfl rfl (n := n4) (en4) (show 0 ≤ v17 ∧ v17 < n4 by omega) (fun v21 ev21 qv21 => ?_)
              have ev21 : (w16_4) (v17) = v21 := (congrFun ((funext (hA_261 4 rfl)).trans ((funext (hA_170 4 rfl)).trans (ew16_4))) (v17)).symm.trans ev21
              have hst := (hSn ((v17)) (by omega) (by omega)).symm.trans ev21
              refine Ew_of (pcₚ := 310) (fun _ => x_aload_n rfl (rk_o (l261_0) rfl rfl)) ?_
              refine v_g H (o := 0) (v := .ref (D 5)) rfl rfl rfl rfl rfl (vrf ((mF_261 0 6 rfl).trans (pf5))) ?_
              refine Ew_of (pcₚ := 315) (fun _ => x_iload rfl rk_s) ?_
              refine v_lI H (o := 5) rfl rfl rfl rfl (n := n5) (en5) (show 0 ≤ v17 ∧ v17 < n5 by omega) (fun v22 ev22 qv22 => ?_)
              have ev22 : (w261_5) (v17) = v22 := (congrFun (ew261_5) (v17)).symm.trans ev22
              have hus2 := (huc ((v17)) (by omega) (by omega)).symm.trans ev22
              refine w_iadd rfl ?_
              refine Ew_of (pcₚ := 319) (fun _ => x_iload rfl (rk_o (l261_6) rfl rfl)) ?_
              refine v_sI H (o := 8) (z := x261_6) rfl rfl rfl rfl (n := n8) (en8) (show 0 ≤ (v21 + v22) ∧ (v21 + v22) < n8 by omega) (show inr (x261_6) from j261_0) (fun σ H Oₚ => ?_)
              have O := OUT_trans O Oₚ
              have cAu23 : SA oz_E1clsl_1 A (updA (updA A_261 6 (x261_6) ((v18 + v19))) 8 ((v21 + v22)) (x261_6)) := SA_upd (cAu20) rfl
              have mAu23 := SAm_of cAu23 oz_E1cls_2
              refine Ew_of (pcₚ := 321) (fun _ => x_aload_n rfl (rk_o (l261_0) rfl rfl)) ?_
              refine v_g H (o := 0) (v := .ref (D 5)) rfl rfl rfl rfl rfl (vrf ((mF_261 0 6 rfl).trans (pf5))) ?_
              refine Ew_of (pcₚ := 326) (fun _ => x_iload rfl rk_s) ?_
              refine Ew_of (pcₚ := 327) (fun _ => x_dup2 rfl rfl rfl) ?_
              refine v_lI H (o := 5) rfl rfl rfl rfl (n := n5) (en5) (show 0 ≤ v17 ∧ v17 < n5 by omega) (fun v24 ev24 qv24 => ?_)
              have ev24 : (w261_5) (v17) = v24 := (congrFun (ew261_5) (v17)).symm.trans ev24
              have hus3 := (huc ((v17)) (by omega) (by omega)).symm.trans ev24
              refine Ew_of (pcₚ := 329) (fun _ => x_iconst rfl) ?_
              refine w_iadd rfl ?_
              refine v_sI H (o := 5) (z := (v24 + 1)) rfl rfl rfl rfl (n := n5) (en5) (show 0 ≤ v17 ∧ v17 < n5 by omega) (show inr ((v24 + 1)) by omega) (fun σ H Oₚ => ?_)
              have O := OUT_trans O Oₚ
              have cAu25 : SA oz_E1clsl_1 A (updA (updA (updA A_261 6 (x261_6) ((v18 + v19))) 8 ((v21 + v22)) (x261_6)) 5 (v17) ((v24 + 1))) := SA_upd (cAu23) rfl
              have mAu25 := SAm_of cAu25 oz_E1cls_2
              refine Ew_of (pcₚ := 334) (fun _ => x_iinc (len := 3) rfl (rk_o (l261_6) rfl rfl)) ?_
              refine Ew_of (pcₚ := 261) (fun _ => x_goto rfl rfl) ?_
              have hu1 : UCI ((w170_7)) ((upd1 (w261_5) (v17) ((v24 + 1)))) ((u0_1)) ((x261_6 + 1)) := UCI_s huc (by omega) rfl hsy (by omega)
              have hx1 : XNI ((w1)) ((w170_7)) ((upd1 (w261_6) (x261_6) ((v18 + v19)))) ((x261_6 + 1)) := XNI_s (by assumption) rfl (by unfold XN; rw [hsy]; omega)
              have hp1 : PLI ((w1)) ((w170_7)) ((upd1 (w261_8) ((v21 + v22)) (x261_6))) ((x261_6 + 1)) := PLI_s hct hrg (by assumption) (by omega) (by omega) rfl hsy (by omega)
              exact ih261 _ (msE hm261 q_16 (q_17 b16)) _ _ _ _ ((x261_6 + 1)) (rk_o (rk_o (l261_0) rfl rfl) rfl rfl) (rk_o (rk_o (l261_1) rfl rfl) rfl rfl) (rk_s) H O (hS_261) (SA_upd (SA_upd (SA_upd (hA_261) rfl) rfl) rfl)    (upd1 (w261_5) (v17) ((v24 + 1))) (congrArg (fun q => upd1 q (v17) ((v24 + 1))) (ew261_5)) (upd1 (w261_6) (x261_6) ((v18 + v19))) (congrArg (fun q => upd1 q (x261_6) ((v18 + v19))) (ew261_6)) (upd1 (w261_8) ((v21 + v22)) (x261_6)) (congrArg (fun q => upd1 q ((v21 + v22)) (x261_6)) (ew261_8)) (show inr ((x261_6 + 1)) from q_184 b16 h1 j261_1 r9) (show (0) ≤ ((x261_6 + 1)) from q_14 j261_1) (show ((x261_6 + 1)) ≤ (0) ∨ ((x261_6 + 1)) ≤ ((p2 (u0_0))) from q_13 b16) (hu1) (hx1) (hp1) rfl
        · have hat2 := SHD_at hS (s := (x170_6)) (by omega) (by omega)
          have hpo := posi_eq (((w1)) (x170_6))
          refine Ew_of (pcₚ := 180) (fun _ => x_iconst rfl) ?_
          refine Ew_of (pcₚ := 182) (fun _ => x_istore rfl) ?_
          have hly2 : LYC ((w1)) ((u0_1)) ((u0_0)) ((w170_7)) (x170_5) (cum ((w1)) ((x170_6)) + 0) 0 := by rw [Int.add_zero]; assumption
          suffices hl182 : ∀ (m : Nat), ∀ (ls : rO) (σ : rS) (F_182 : hF) (A_182 : hA) (x182_5 : Int) (x182_7 : Int), rlook ls 0 = some (.ref (D 0)) → rlook ls 1 = some (I (p2 (u0_0))) → rlook ls 2 = some (I (x16_2)) → rlook ls 4 = some (I (((z13 + z14) + 3))) → rlook ls 5 = some (I (x182_5)) → rlook ls 6 = some (I (x170_6)) → rlook ls 7 = some (I (x182_7)) → HW V169 σ D N F_182 A_182 → OUT (V169).length D N σE c s D N σ c s → SF [] F_170 F_182 → SA [7] A_170 A_182 → ∀ w182_7 : Int → Int, A_182 7 = w182_7 → (inr (x182_5)) → (inr (x182_7)) → (0 ≤ (x182_7) ∧ (x182_7) ≤ posi (((w1)) (x170_6))) → (LYC ((w1)) ((u0_1)) ((u0_0)) ((w182_7)) (x182_5) (cum ((w1)) ((x170_6)) + (x182_7)) 0) → (0 ≤ (x182_5) ∧ (x182_5) < p2 ((u0_0))) → (p2 ((u0_0)) - ngs ((w1)) ((u0_1)) ≤ cum ((w1)) ((x170_6)) + (x182_7) ∨ (x182_5) ≤ (x16_2)) → (((w1)) (x170_6) - (x182_7)).toNat = m → Ew 169 (d + 0) 182 ls [] σ c s Q from
            hl182 _ _ _ _ _ (x170_5) (0) (rk_o (l170_0) rfl rfl) (rk_o (l170_1) rfl rfl) (rk_o (l170_2) rfl rfl) (rk_o (l170_4) rfl rfl) (rk_o (l170_5) rfl rfl) (rk_o (l170_6) rfl rfl) (rk_s) H O (SF_refl) (SA_refl)    (w170_7) (ew170_7) (show inr (x170_5) from j170_0) (show inr (0) from q_2) (show 0 ≤ (0) ∧ (0) ≤ posi (((w1)) (x170_6)) by omega) (hly2) (show 0 ≤ (x170_5) ∧ (x170_5) < p2 ((u0_0)) from j170_5) (show p2 ((u0_0)) - ngs ((w1)) ((u0_1)) ≤ cum ((w1)) ((x170_6)) + (0) ∨ (x170_5) ≤ (x16_2) from q_185 j16_0 j170_0 j170_6) rfl
          as_aux_lemma =>
          intro m
          induction m using Nat.strongRecOn with
          | _ m ih182 =>
            intro ls σ F_182 A_182 x182_5 x182_7 l182_0 l182_1 l182_2 l182_4 l182_5 l182_6 l182_7 H O hS_182 hA_182    w182_7 ew182_7 j182_0 j182_1 j182_2 j182_3 j182_4 j182_5 hm182
            have cF_182 : SF oz_E1clsl_0 F F_182 := SF_trans (cF_170) hS_182 (any_sub (by decide +kernel))
            have mF_182 := SFm_of cF_182 oz_E1cls_1
            have cA_182 : SA oz_E1clsl_1 A A_182 := SA_trans (cA_170) hA_182 (any_subA (by decide +kernel))
            have mA_182 := SAm_of cA_182 oz_E1cls_2
            have hlyA : LYC ((w1)) ((u0_1)) ((u0_0)) ((w182_7)) (x182_5) (cum ((w1)) ((x170_6)) + (x182_7)) 0 := j182_3
            refine Ew_of (pcₚ := 184) (fun _ => x_iload rfl l182_7) ?_
            refine Ew_of (pcₚ := 185) (fun _ => x_aload_n rfl l182_0) ?_
            refine v_g H (o := 0) (v := .ref (D 1)) rfl rfl rfl rfl rfl (vrf ((mF_182 0 2 rfl).trans (pf1))) ?_
            refine Ew_of (pcₚ := 190) (fun _ => x_iload rfl l182_6) ?_
            refine v_lI H (o := 1) rfl rfl rfl rfl (n := n1) (en1) (show 0 ≤ x170_6 ∧ x170_6 < n1 from q_186 b15 h1 j170_2) (fun v26 ev26 qv26 => ?_)
            have ev26 : (w1) (x170_6) = v26 := (congrFun ((funext (mA_182 1 rfl)).trans (ew1)) (x170_6)).symm.trans ev26
            refine w_icmpge (t := 252) rfl rfl (show inr (x182_7) from j182_1) (show inr (v26) from qv26) (fun b27 => ?_) (fun b27 => ?_)
            · have hcs : cum ((w1)) ((x170_6) + 1) = cum ((w1)) ((x170_6)) + (x182_7) := by omega
              have hly6 : LYC ((w1)) ((u0_1)) ((u0_0)) ((w182_7)) (x182_5) (cum ((w1)) ((x170_6) + 1)) 0 := by rw [hcs]; assumption
              refine Ew_of (pcₚ := 255) (fun _ => x_iinc (len := 3) rfl (l182_6)) ?_
              refine Ew_of (pcₚ := 170) (fun _ => x_goto rfl rfl) ?_
              exact ih170 _ (msE hm170 q_16 (q_17 b15)) _ _ _ _ (x182_5) ((x170_6 + 1)) (rk_o (l182_0) rfl rfl) (rk_o (l182_1) rfl rfl) (rk_o (l182_2) rfl rfl) (rk_o (l182_4) rfl rfl) (rk_o (l182_5) rfl rfl) (rk_s) H O (SF_trans (hS_170) hS_182 (any_sub (by decide +kernel))) (SA_trans (hA_170) hA_182 (any_subA (by decide +kernel)))    (w182_7) (ew182_7) (show inr (x182_5) from j182_0) (show inr ((x170_6 + 1)) from q_188 b15 h1 j170_2 r6) (show (0) ≤ ((x170_6 + 1)) from q_14 j170_2) (show ((x170_6 + 1)) ≤ (0) ∨ ((x170_6 + 1)) ≤ ((u0_1)) from q_13 b15) (hly6) (show 0 ≤ (x182_5) ∧ (x182_5) < p2 ((u0_0)) from j182_4) (show p2 ((u0_0)) - ngs ((w1)) ((u0_1)) ≤ cum ((w1)) (((x170_6 + 1))) ∨ (x182_5) ≤ (x16_2) from q_187 hcs j16_0 j182_0 j182_5) rfl
            · have hc : cum ((w1)) ((x170_6)) + (x182_7) < p2 ((u0_0)) - ngs ((w1)) ((u0_1)) := by omega
              have ha : (x182_5) < p2 ((u0_0)) - ngs ((w1)) ((u0_1)) := q_189 hc hl2 j182_5
              refine Ew_of (pcₚ := 195) (fun _ => x_aload_n rfl l182_0) ?_
              refine v_g H (o := 0) (v := .ref (D 7)) rfl rfl rfl rfl rfl (vrf ((mF_182 0 7 rfl).trans (pf7))) ?_
              refine Ew_of (pcₚ := 200) (fun _ => x_iload rfl l182_5) ?_
              refine Ew_of (pcₚ := 202) (fun _ => x_iload rfl l182_6) ?_
              refine v_sI H (o := 7) (z := x170_6) rfl rfl rfl rfl (n := n7) (en7) (show 0 ≤ x182_5 ∧ x182_5 < n7 from q_190 h1 j182_4) (show inr (x170_6) from j170_1) (fun σ H Oₚ => ?_)
              have O := OUT_trans O Oₚ
              have cAu28 : SA oz_E1clsl_1 A (updA A_182 7 (x182_5) (x170_6)) := SA_upd (cA_182) rfl
              have mAu28 := SAm_of cAu28 oz_E1cls_2
              refine Ew_of (pcₚ := 205) (fun _ => x_iload rfl l182_5) ?_
              refine Ew_of (pcₚ := 207) (fun _ => x_iload rfl l182_4) ?_
              refine w_iadd rfl ?_
              refine Ew_of (pcₚ := 209) (fun _ => x_iload_n rfl l182_1) ?_
              refine Ew_of (pcₚ := 210) (fun _ => x_iconst rfl) ?_
              refine w_isub rfl ?_
              refine w_iandE rfl (show inr ((x182_5 + ((z13 + z14) + 3))) from q_192 dz13 dz14 h1 j182_4 r9) (show inr ((p2 (u0_0) - 1)) from q_191 h1 j182_4 r9) (fun z29 gz29 gaz29 gbz29 gez29 => ?_)
              have hz : andI ((x182_5) + (((z13 + z14) + 3))) (p2 ((u0_0)) - 1) = (z29) := gez29
              have hl5 : ((z29) : Int) = ((x182_5) + (p2 ((u0_0)) / 2 + p2 ((u0_0)) / 8 + 3)) % p2 ((u0_0)) := by rw [← hz, andI_mod (by omega) (by omega), show ((((z13 + z14) + 3)) : Int) = p2 ((u0_0)) / 2 + p2 ((u0_0)) / 8 + 3 by omega]
              refine Ew_of (pcₚ := 214) (fun _ => x_istore rfl) ?_
              refine Ew_of (pcₚ := 215) (fun _ => x_iconst rfl) ?_
              refine Ew_of (pcₚ := 217) (fun _ => x_istore rfl) ?_
              have hly3 : LYC ((w1)) ((u0_1)) ((u0_0)) ((upd1 (w182_7) (x182_5) (x170_6))) (z29) (cum ((w1)) ((x170_6)) + (x182_7) + 1) 0 := LYC_put hS.1 ⟨by omega, by omega⟩ hlyA ha hc (by omega) (by omega) (by omega) (by omega) hl5 rfl
              have hr3 := LYC_rng hly3
              suffices hl217 : ∀ (m : Nat), ∀ (ls : rO) (σ : rS) (F_217 : hF) (A_217 : hA) (x217_5 : Int) (x217_8 : Int), rlook ls 0 = some (.ref (D 0)) → rlook ls 1 = some (I (p2 (u0_0))) → rlook ls 2 = some (I (x16_2)) → rlook ls 4 = some (I (((z13 + z14) + 3))) → rlook ls 5 = some (I (x217_5)) → rlook ls 6 = some (I (x170_6)) → rlook ls 7 = some (I (x182_7)) → rlook ls 8 = some (I (x217_8)) → HW V169 σ D N F_217 A_217 → OUT (V169).length D N σE c s D N σ c s → SF [] F_182 F_217 → SA [] (updA A_182 7 (x182_5) (x170_6)) A_217 → (inr (x217_5)) → (inr (x217_8)) → ((0) ≤ (x217_8)) → ((x217_8) ≤ (0) ∨ (x217_8) ≤ ((p2 (u0_0)))) → (LYC ((w1)) ((u0_1)) ((u0_0)) ((upd1 (w182_7) (x182_5) (x170_6))) (x217_5) (cum ((w1)) ((x170_6)) + (x182_7) + 1) (x217_8)) → (0 ≤ (x217_5) ∧ (x217_5) < p2 ((u0_0))) → (((p2 (u0_0))) - (x217_8)).toNat = m → Ew 169 (d + 0) 217 ls [] σ c s Q from
                hl217 _ _ _ _ _ (z29) (0) (rk_o (rk_o (l182_0) rfl rfl) rfl rfl) (rk_o (rk_o (l182_1) rfl rfl) rfl rfl) (rk_o (rk_o (l182_2) rfl rfl) rfl rfl) (rk_o (rk_o (l182_4) rfl rfl) rfl rfl) (rk_o (rk_s) rfl rfl) (rk_o (rk_o (l182_6) rfl rfl) rfl rfl) (rk_o (rk_o (l182_7) rfl rfl) rfl rfl) (rk_s) H O (SF_refl) (SA_refl)     (show inr (z29) from gz29) (show inr (0) from q_2) (show (0) ≤ (0) from q_1) (show (0) ≤ (0) ∨ (0) ≤ ((p2 (u0_0))) from q_5) (hly3) (show 0 ≤ (z29) ∧ (z29) < p2 ((u0_0)) from q_193 gbz29 j182_4) rfl
              as_aux_lemma =>
              intro m
              induction m using Nat.strongRecOn with
              | _ m ih217 =>
                intro ls σ F_217 A_217 x217_5 x217_8 l217_0 l217_1 l217_2 l217_4 l217_5 l217_6 l217_7 l217_8 H O hS_217 hA_217     j217_0 j217_1 j217_2 j217_3 j217_4 j217_5 hm217
                have cF_217 : SF oz_E1clsl_0 F F_217 := SF_trans (cF_182) hS_217 (any_sub (by decide +kernel))
                have mF_217 := SFm_of cF_217 oz_E1cls_1
                have cA_217 : SA oz_E1clsl_1 A A_217 := SA_trans (cAu28) hA_217 (any_subA (by decide +kernel))
                have mA_217 := SAm_of cA_217 oz_E1cls_2
                have hlyB : LYC ((w1)) ((u0_1)) ((u0_0)) ((upd1 (w182_7) (x182_5) (x170_6))) (x217_5) (cum ((w1)) ((x170_6)) + (x182_7) + 1) (x217_8) := j217_4
                refine Ew_of (pcₚ := 219) (fun _ => x_iload rfl l217_8) ?_
                refine Ew_of (pcₚ := 220) (fun _ => x_iload_n rfl l217_1) ?_
                refine w_icmpge (t := 246) rfl rfl (show inr (x217_8) from j217_1) (show inr (p2 (u0_0)) from q_180 h1 j217_5 r9) (fun b30 => ?_) (fun b30 => ?_)
                · have hly5 : LYC ((w1)) ((u0_1)) ((u0_0)) ((upd1 (w182_7) (x182_5) (x170_6))) (x217_5) (cum ((w1)) ((x170_6)) + ((x182_7) + 1)) 0 := by rw [← Int.add_assoc]; exact LYC_weak hlyB
                  have hd5 : p2 ((u0_0)) - ngs ((w1)) ((u0_1)) ≤ cum ((w1)) ((x170_6)) + ((x182_7) + 1) ∨ (x217_5) ≤ (x16_2) := by first | omega | (have := LYC_turn hS.1 ⟨by omega, by omega⟩ hlyB (by omega); omega)
                  refine Ew_of (pcₚ := 249) (fun _ => x_iinc (len := 3) rfl (l217_7)) ?_
                  refine Ew_of (pcₚ := 182) (fun _ => x_goto rfl rfl) ?_
                  exact ih182 _ (msE hm182 q_16 (q_194 b27 ev26)) _ _ _ _ (x217_5) ((x182_7 + 1)) (rk_o (l217_0) rfl rfl) (rk_o (l217_1) rfl rfl) (rk_o (l217_2) rfl rfl) (rk_o (l217_4) rfl rfl) (rk_o (l217_5) rfl rfl) (rk_o (l217_6) rfl rfl) (rk_s) H O (SF_trans (hS_182) hS_217 (any_sub (by decide +kernel))) (SA_trans (SA_upd (hA_182) rfl) hA_217 (any_subA (by decide +kernel)))    (upd1 (w182_7) (x182_5) (x170_6)) ((funext (hA_217 7 rfl)).trans (congrArg (fun q => upd1 q (x182_5) (x170_6)) (ew182_7))) (show inr (x217_5) from j217_0) (show inr ((x182_7 + 1)) by omega) (show 0 ≤ ((x182_7 + 1)) ∧ ((x182_7 + 1)) ≤ posi (((w1)) (x170_6)) by omega) (hly5) (show 0 ≤ (x217_5) ∧ (x217_5) < p2 ((u0_0)) from j217_5) (show p2 ((u0_0)) - ngs ((w1)) ((u0_1)) ≤ cum ((w1)) ((x170_6)) + ((x182_7 + 1)) ∨ (x217_5) ≤ (x16_2) from hd5) rfl
                · refine Ew_of (pcₚ := 225) (fun _ => x_iload rfl l217_5) ?_
                  refine Ew_of (pcₚ := 226) (fun _ => x_iload_n rfl l217_2) ?_
                  refine w_icmple (t := 246) rfl rfl (show inr (x217_5) from j217_0) (show inr (x16_2) from j16_0) (fun b31 => ?_) (fun b31 => ?_)
                  · have hly5 : LYC ((w1)) ((u0_1)) ((u0_0)) ((upd1 (w182_7) (x182_5) (x170_6))) (x217_5) (cum ((w1)) ((x170_6)) + ((x182_7) + 1)) 0 := by rw [← Int.add_assoc]; exact LYC_weak hlyB
                    have hd5 : p2 ((u0_0)) - ngs ((w1)) ((u0_1)) ≤ cum ((w1)) ((x170_6)) + ((x182_7) + 1) ∨ (x217_5) ≤ (x16_2) := by first | omega | (have := LYC_turn hS.1 ⟨by omega, by omega⟩ hlyB (by omega); omega)
                    refine Ew_of (pcₚ := 249) (fun _ => x_iinc (len := 3) rfl (l217_7)) ?_
                    refine Ew_of (pcₚ := 182) (fun _ => x_goto rfl rfl) ?_
                    exact ih182 _ (msE hm182 q_16 (q_194 b27 ev26)) _ _ _ _ (x217_5) ((x182_7 + 1)) (rk_o (l217_0) rfl rfl) (rk_o (l217_1) rfl rfl) (rk_o (l217_2) rfl rfl) (rk_o (l217_4) rfl rfl) (rk_o (l217_5) rfl rfl) (rk_o (l217_6) rfl rfl) (rk_s) H O (SF_trans (hS_182) hS_217 (any_sub (by decide +kernel))) (SA_trans (SA_upd (hA_182) rfl) hA_217 (any_subA (by decide +kernel)))    (upd1 (w182_7) (x182_5) (x170_6)) ((funext (hA_217 7 rfl)).trans (congrArg (fun q => upd1 q (x182_5) (x170_6)) (ew182_7))) (show inr (x217_5) from j217_0) (show inr ((x182_7 + 1)) by omega) (show 0 ≤ ((x182_7 + 1)) ∧ ((x182_7 + 1)) ≤ posi (((w1)) (x170_6)) by omega) (hly5) (show 0 ≤ (x217_5) ∧ (x217_5) < p2 ((u0_0)) from j217_5) (show p2 ((u0_0)) - ngs ((w1)) ((u0_1)) ≤ cum ((w1)) ((x170_6)) + ((x182_7 + 1)) ∨ (x217_5) ≤ (x16_2) from hd5) rfl
                  · refine Ew_of (pcₚ := 231) (fun _ => x_iload rfl l217_5) ?_
                    refine Ew_of (pcₚ := 233) (fun _ => x_iload rfl l217_4) ?_
                    refine w_iadd rfl ?_
                    refine Ew_of (pcₚ := 235) (fun _ => x_iload_n rfl l217_1) ?_
                    refine Ew_of (pcₚ := 236) (fun _ => x_iconst rfl) ?_
                    refine w_isub rfl ?_
                    refine w_iandE rfl (show inr ((x217_5 + ((z13 + z14) + 3))) from q_192 dz13 dz14 h1 j217_5 r9) (show inr ((p2 (u0_0) - 1)) from q_191 h1 j217_5 r9) (fun z32 gz32 gaz32 gbz32 gez32 => ?_)
                    have hz2 : andI ((x217_5) + (((z13 + z14) + 3))) (p2 ((u0_0)) - 1) = (z32) := gez32
                    have hl52 : ((z32) : Int) = ((x217_5) + (p2 ((u0_0)) / 2 + p2 ((u0_0)) / 8 + 3)) % p2 ((u0_0)) := by rw [← hz2, andI_mod (by omega) (by omega), show ((((z13 + z14) + 3)) : Int) = p2 ((u0_0)) / 2 + p2 ((u0_0)) / 8 + 3 by omega]
                    refine Ew_of (pcₚ := 240) (fun _ => x_istore rfl) ?_
                    refine Ew_of (pcₚ := 243) (fun _ => x_iinc (len := 3) rfl (rk_o (l217_8) rfl rfl)) ?_
                    refine Ew_of (pcₚ := 217) (fun _ => x_goto rfl rfl) ?_
                    have hly4 : LYC ((w1)) ((u0_1)) ((u0_0)) ((upd1 (w182_7) (x182_5) (x170_6))) (z32) (cum ((w1)) ((x170_6)) + (x182_7) + 1) ((x217_8 + 1)) := LYC_skip hS.1 ⟨by omega, by omega⟩ hlyB (by omega) hl52 rfl
                    have hr4 := LYC_rng hly4
                    exact ih217 _ (msE hm217 q_16 (q_17 b30)) _ _ _ _ (z32) ((x217_8 + 1)) (rk_o (rk_o (l217_0) rfl rfl) rfl rfl) (rk_o (rk_o (l217_1) rfl rfl) rfl rfl) (rk_o (rk_o (l217_2) rfl rfl) rfl rfl) (rk_o (rk_o (l217_4) rfl rfl) rfl rfl) (rk_o (rk_s) rfl rfl) (rk_o (rk_o (l217_6) rfl rfl) rfl rfl) (rk_o (rk_o (l217_7) rfl rfl) rfl rfl) (rk_s) H O (hS_217) (hA_217)     (show inr (z32) from gz32) (show inr ((x217_8 + 1)) from q_184 b30 h1 j217_2 r9) (show (0) ≤ ((x217_8 + 1)) from q_14 j217_2) (show ((x217_8 + 1)) ≤ (0) ∨ ((x217_8 + 1)) ≤ ((p2 (u0_0))) from q_13 b30) (hly4) (show 0 ≤ (z32) ∧ (z32) < p2 ((u0_0)) from q_193 gbz32 j217_5) rfl
    · have hat := SHD_at hS (s := (x16_4)) (by omega) (by omega)
      refine Ew_of (pcₚ := 26) (fun _ => x_aload_n rfl l16_0) ?_
      refine v_g H (o := 0) (v := .ref (D 2)) rfl rfl rfl rfl rfl (vrf ((mF_16 0 3 rfl).trans (pf2))) ?_
      refine Ew_of (pcₚ := 31) (fun _ => x_iload rfl l16_4) ?_
      refine Ew_of (pcₚ := 32) (fun _ => x_aload_n rfl l16_0) ?_
      refine v_g H (o := 0) (v := .ref (D 1)) rfl rfl rfl rfl rfl (vrf ((mF_16 0 2 rfl).trans (pf1))) ?_
      refine Ew_of (pcₚ := 37) (fun _ => x_iload rfl l16_4) ?_
      refine v_lI H (o := 1) rfl rfl rfl rfl (n := n1) (en1) (show 0 ≤ x16_4 ∧ x16_4 < n1 from q_186 b12 h1 j16_3) (fun v33 ev33 qv33 => ?_)
      have ev33 : (w1) (x16_4) = v33 := (congrFun ((funext (mA_16 1 rfl)).trans (ew1)) (x16_4)).symm.trans ev33
      have hc52 : ∀ (tc52_0 : Int), ∀ (ls : rO) (σ : rS) (F_c52 : hF) (A_c52 : hA) , rlook ls 0 = some (.ref (D 0)) → rlook ls 1 = some (I (p2 (u0_0))) → rlook ls 2 = some (I (x16_2)) → rlook ls 3 = some (I (x16_3)) → rlook ls 4 = some (I (x16_4)) → HW V169 σ D N F_c52 A_c52 → OUT (V169).length D N σE c s D N σ c s → SF [] F_16 F_c52 → SA [] A_16 A_c52 → (inr (tc52_0)) → (((v33) ≥ (0) ∧ -2147483648 ≤ ((w1) (x16_4)) ∧ ((w1) (x16_4)) ≤ 2147483647 ∧ (tc52_0) = ((w1) (x16_4))) ∨ ((v33) < (0) ∧ (tc52_0) = (1))) → Ew 169 (d + 0) 52 ls [I (tc52_0), I (x16_4), .ref (D 2)] σ c s Q := by
       as_aux_lemma =>
        intro tc52_0 ls σ F_c52 A_c52  lc52_0 lc52_1 lc52_2 lc52_3 lc52_4 H O hS_c52 hA_c52     jc52_0 jc52_1
        have cF_c52 : SF oz_E1clsl_0 F F_c52 := SF_trans (cF_16) hS_c52 (any_sub (by decide +kernel))
        have mF_c52 := SFm_of cF_c52 oz_E1cls_1
        have cA_c52 : SA oz_E1clsl_1 A A_c52 := SA_trans (cA_16) hA_c52 (any_subA (by decide +kernel))
        have mA_c52 := SAm_of cA_c52 oz_E1cls_2
        have hm : ((tc52_0) : Int) = mass (((w1)) (x16_4)) := by have := mass_eq (((w1)) (x16_4)); omega
        refine v_sI H (o := 2) (z := tc52_0) rfl rfl rfl rfl (n := n2) (en2) (show 0 ≤ x16_4 ∧ x16_4 < n2 from q_195 b12 h1 j16_3) (show inr (tc52_0) from jc52_0) (fun σ H Oₚ => ?_)
        have O := OUT_trans O Oₚ
        have cAu34 : SA oz_E1clsl_1 A (updA A_c52 2 (x16_4) (tc52_0)) := SA_upd (cA_c52) rfl
        have mAu34 := SAm_of cAu34 oz_E1cls_2
        refine Ew_of (pcₚ := 54) (fun _ => x_aload_n rfl lc52_0) ?_
        refine v_g H (o := 0) (v := .ref (D 4)) rfl rfl rfl rfl rfl (vrf ((mF_c52 0 5 rfl).trans (pf4))) ?_
        refine Ew_of (pcₚ := 59) (fun _ => x_iload rfl lc52_4) ?_
        refine Ew_of (pcₚ := 60) (fun _ => x_iload_n rfl lc52_3) ?_
        refine v_sI H (o := 4) (z := x16_3) rfl rfl rfl rfl (n := n4) (en4) (show 0 ≤ x16_4 ∧ x16_4 < n4 from q_196 b12 h1 j16_3) (show inr (x16_3) from j16_1) (fun σ H Oₚ => ?_)
        have O := OUT_trans O Oₚ
        have cAu35 : SA oz_E1clsl_1 A (updA (updA A_c52 2 (x16_4) (tc52_0)) 4 (x16_4) (x16_3)) := SA_upd (cAu34) rfl
        have mAu35 := SAm_of cAu35 oz_E1cls_2
        refine Ew_of (pcₚ := 62) (fun _ => x_aload_n rfl lc52_0) ?_
        refine v_g H (o := 0) (v := .ref (D 5)) rfl rfl rfl rfl rfl (vrf ((mF_c52 0 6 rfl).trans (pf5))) ?_
        refine Ew_of (pcₚ := 67) (fun _ => x_iload rfl lc52_4) ?_
        refine Ew_of (pcₚ := 68) (fun _ => x_iconst rfl) ?_
        refine v_sI H (o := 5) (z := 0) rfl rfl rfl rfl (n := n5) (en5) (show 0 ≤ x16_4 ∧ x16_4 < n5 from q_197 b12 h1 j16_3) (show inr (0) from q_2) (fun σ H Oₚ => ?_)
        have O := OUT_trans O Oₚ
        have cAu36 : SA oz_E1clsl_1 A (updA (updA (updA A_c52 2 (x16_4) (tc52_0)) 4 (x16_4) (x16_3)) 5 (x16_4) (0)) := SA_upd (cAu35) rfl
        have mAu36 := SAm_of cAu36 oz_E1cls_2
        refine Ew_of (pcₚ := 70) (fun _ => x_aload_n rfl lc52_0) ?_
        refine v_g H (o := 0) (v := .ref (D 3)) rfl rfl rfl rfl rfl (vrf ((mF_c52 0 4 rfl).trans (pf3))) ?_
        refine Ew_of (pcₚ := 75) (fun _ => x_iload rfl lc52_4) ?_
        refine Ew_of (pcₚ := 76) (fun _ => x_aload_n rfl lc52_0) ?_
        refine v_g H (o := 0) (v := I (u0_0)) rfl rfl rfl rfl rfl (congrArg (fun z : Int => I z) (((mF_c52 0 0 rfl).trans (eu0_0)) : F_c52 0 0 = u0_0)) ?_
        refine v_sI H (o := 3) (z := u0_0) rfl rfl rfl rfl (n := n3) (en3) (show 0 ≤ x16_4 ∧ x16_4 < n3 from q_198 b12 h1 j16_3) (show inr (u0_0) from q_18 r1) (fun σ H Oₚ => ?_)
        have O := OUT_trans O Oₚ
        have cAu37 : SA oz_E1clsl_1 A (updA (updA (updA (updA A_c52 2 (x16_4) (tc52_0)) 4 (x16_4) (x16_3)) 5 (x16_4) (0)) 3 (x16_4) (u0_0)) := SA_upd (cAu36) rfl
        have mAu37 := SAm_of cAu37 oz_E1cls_2
        refine Ew_of (pcₚ := 81) (fun _ => x_aload_n rfl lc52_0) ?_
        refine v_g H (o := 0) (v := .ref (D 2)) rfl rfl rfl rfl rfl (vrf ((mF_c52 0 3 rfl).trans (pf2))) ?_
        refine Ew_of (pcₚ := 86) (fun _ => x_iload rfl lc52_4) ?_
        refine v_lI H (o := 2) rfl rfl rfl rfl (n := n2) (en2) (show 0 ≤ x16_4 ∧ x16_4 < n2 from q_195 b12 h1 j16_3) (fun v38 ev38 qv38 => ?_)
        have ev38 : (upd1 (w16_2) (x16_4) (tc52_0)) (x16_4) = v38 := (congrFun (congrArg (fun q => upd1 q (x16_4) (tc52_0)) ((funext (hA_c52 2 rfl)).trans (ew16_2))) (x16_4)).symm.trans ev38
        have hx := ev38
        rw [upd1_s] at hx
        refine Ew_of (pcₚ := 88) (fun _ => x_iconst rfl) ?_
        refine w_ishrK 1 2 (by decide) (by decide) rfl (show inr (v38) from qv38) (fun z39 gz39 dz39 => ?_)
        refine Ew_of (pcₚ := 91) (fun _ => x_istore rfl) ?_
        have hb0 : HBI (mass (((w1)) (x16_4))) (((u0_0)) - ((upd1 (w16_3) (x16_4) (u0_0))) (x16_4)) (z39) := by rw [upd1_s, show ((u0_0)) - ((u0_0)) = 0 by omega]; exact HBI_0 (by omega) (by omega)
        have hbs : BSI ((w1)) ((upd1 (w16_3) (x16_4) (u0_0))) ((u0_0)) (x16_4) := BSI_upd (by assumption)
        suffices hl91 : ∀ (m : Nat), ∀ (ls : rO) (σ : rS) (F_91 : hF) (A_91 : hA) (x91_5 : Int), rlook ls 0 = some (.ref (D 0)) → rlook ls 1 = some (I (p2 (u0_0))) → rlook ls 2 = some (I (x16_2)) → rlook ls 3 = some (I (x16_3)) → rlook ls 4 = some (I (x16_4)) → rlook ls 5 = some (I (x91_5)) → HW V169 σ D N F_91 A_91 → OUT (V169).length D N σE c s D N σ c s → SF [] F_c52 F_91 → SA [3] (updA (updA (updA (updA A_c52 2 (x16_4) (tc52_0)) 4 (x16_4) (x16_3)) 5 (x16_4) (0)) 3 (x16_4) (u0_0)) A_91 → ∀ w91_3 : Int → Int, A_91 3 = w91_3 → (inr (x91_5)) → (HBI (mass (((w1)) (x16_4))) (((u0_0)) - ((w91_3)) (x16_4)) (x91_5)) → (BSI ((w1)) ((w91_3)) ((u0_0)) (x16_4)) → (0 ≤ (x91_5)) → ((x91_5)).toNat = m → Ew 169 (d + 0) 91 ls [] σ c s Q from
          hl91 _ _ _ _ _ (z39) (rk_o (lc52_0) rfl rfl) (rk_o (lc52_1) rfl rfl) (rk_o (lc52_2) rfl rfl) (rk_o (lc52_3) rfl rfl) (rk_o (lc52_4) rfl rfl) (rk_s) H O (SF_refl) (SA_refl)    (upd1 (w16_3) (x16_4) (u0_0)) (congrArg (fun q => upd1 q (x16_4) (u0_0)) ((funext (hA_c52 3 rfl)).trans (ew16_3))) (show inr (z39) from gz39) (hb0) (hbs) (show 0 ≤ (z39) by omega) rfl
        as_aux_lemma =>
        intro m
        induction m using Nat.strongRecOn with
        | _ m ih91 =>
          intro ls σ F_91 A_91 x91_5 l91_0 l91_1 l91_2 l91_3 l91_4 l91_5 H O hS_91 hA_91    w91_3 ew91_3 j91_0 j91_1 j91_2 j91_3 hm91
          have cF_91 : SF oz_E1clsl_0 F F_91 := SF_trans (cF_c52) hS_91 (any_sub (by decide +kernel))
          have mF_91 := SFm_of cF_91 oz_E1cls_1
          have cA_91 : SA oz_E1clsl_1 A A_91 := SA_trans (cAu37) hA_91 (any_subA (by decide +kernel))
          have mA_91 := SAm_of cA_91 oz_E1cls_2
          have hh : HBI (mass (((w1)) (x16_4))) (((u0_0)) - ((w91_3)) (x16_4)) (x91_5) := j91_1
          refine Ew_of (pcₚ := 93) (fun _ => x_iload rfl l91_5) ?_
          refine w_ifle (t := 116) rfl rfl (show inr (x91_5) from j91_0) (fun b40 => ?_) (fun b40 => ?_)
          · have hbt : BT (mass (((w1)) (x16_4))) (((u0_0)) - ((w91_3)) (x16_4)) := HBI_end hh (by omega)
            refine Ew_of (pcₚ := 117) (fun _ => x_iload_n rfl l91_3) ?_
            refine Ew_of (pcₚ := 118) (fun _ => x_aload_n rfl l91_0) ?_
            refine v_g H (o := 0) (v := .ref (D 2)) rfl rfl rfl rfl rfl (vrf ((mF_91 0 3 rfl).trans (pf2))) ?_
            refine Ew_of (pcₚ := 123) (fun _ => x_iload rfl l91_4) ?_
            refine v_lI H (o := 2) rfl rfl rfl rfl (n := n2) (en2) (show 0 ≤ x16_4 ∧ x16_4 < n2 from q_195 b12 h1 j16_3) (fun v41 ev41 qv41 => ?_)
            have ev41 : (upd1 (w16_2) (x16_4) (tc52_0)) (x16_4) = v41 := (congrFun ((funext (hA_91 2 rfl)).trans (congrArg (fun q => upd1 q (x16_4) (tc52_0)) ((funext (hA_c52 2 rfl)).trans (ew16_2)))) (x16_4)).symm.trans ev41
            have hx2 := ev41
            rw [upd1_s] at hx2
            refine w_iadd rfl ?_
            refine Ew_of (pcₚ := 126) (fun _ => x_istore_n rfl) ?_
            refine Ew_of (pcₚ := 127) (fun _ => x_aload_n rfl (rk_o (l91_0) rfl rfl)) ?_
            refine v_g H (o := 0) (v := .ref (D 1)) rfl rfl rfl rfl rfl (vrf ((mF_91 0 2 rfl).trans (pf1))) ?_
            refine Ew_of (pcₚ := 132) (fun _ => x_iload rfl (rk_o (l91_4) rfl rfl)) ?_
            refine v_lI H (o := 1) rfl rfl rfl rfl (n := n1) (en1) (show 0 ≤ x16_4 ∧ x16_4 < n1 from q_186 b12 h1 j16_3) (fun v42 ev42 qv42 => ?_)
            have ev42 : (w1) (x16_4) = v42 := (congrFun ((funext (mA_91 1 rfl)).trans (ew1)) (x16_4)).symm.trans ev42
            refine w_ifge (t := 147) rfl rfl (show inr (v42) from qv42) (fun b43 => ?_) (fun b43 => ?_)
            · have hng2 := neg1_eq (((w1)) (x16_4))
              refine Ew_of (pcₚ := 150) (fun _ => x_iinc (len := 3) rfl (rk_o (l91_4) rfl rfl)) ?_
              refine Ew_of (pcₚ := 16) (fun _ => x_goto rfl rfl) ?_
              have hM1 : MSI ((w1)) ((upd1 (w16_2) (x16_4) (tc52_0))) ((x16_4 + 1)) := MSI_s (by assumption) rfl hm
              have hS1 : SSC ((w1)) ((upd1 (w16_4) (x16_4) (x16_3))) ((x16_4 + 1)) := SSC_s (by assumption) rfl (by omega)
              have hU1 : USI ((upd1 (w16_5) (x16_4) (0))) ((x16_4 + 1)) := USI_s (by assumption) rfl
              have hB1 : BSI ((w1)) ((w91_3)) ((u0_0)) ((x16_4 + 1)) := BSI_s (by assumption) rfl hbt
              have hN1 : NGI ((w1)) ((w16_7)) ((u0_0)) ((x16_4 + 1)) := by first | exact NGI_put (by assumption) rfl (by omega) | exact NGI_skip (by assumption) rfl (by omega)
              exact ih16 _ (msE hm16 q_16 (q_17 b12)) _ _ _ _ (x16_2) ((x16_3 + v41)) ((x16_4 + 1)) (rk_o (rk_o (l91_0) rfl rfl) rfl rfl) (rk_o (rk_o (l91_1) rfl rfl) rfl rfl) (rk_o (rk_o (l91_2) rfl rfl) rfl rfl) (rk_o (rk_s) rfl rfl) (rk_s) H O (SF_trans (SF_trans (hS_16) hS_c52 (any_sub (by decide +kernel))) hS_91 (any_sub (by decide +kernel))) (SA_trans (SA_upd (SA_upd (SA_upd (SA_upd (SA_trans (hA_16) hA_c52 (any_subA (by decide +kernel))) rfl) rfl) rfl) rfl) hA_91 (any_subA (by decide +kernel)))    (upd1 (w16_2) (x16_4) (tc52_0)) ((funext (hA_91 2 rfl)).trans (congrArg (fun q => upd1 q (x16_4) (tc52_0)) ((funext (hA_c52 2 rfl)).trans (ew16_2)))) (w91_3) (ew91_3) (upd1 (w16_4) (x16_4) (x16_3)) ((funext (hA_91 4 rfl)).trans (congrArg (fun q => upd1 q (x16_4) (x16_3)) ((funext (hA_c52 4 rfl)).trans (ew16_4)))) (upd1 (w16_5) (x16_4) (0)) ((funext (hA_91 5 rfl)).trans (congrArg (fun q => upd1 q (x16_4) (0)) ((funext (hA_c52 5 rfl)).trans (ew16_5)))) (w16_7) ((funext (hA_91 7 rfl)).trans ((funext (hA_c52 7 rfl)).trans (ew16_7))) (show inr (x16_2) from j16_0) (show inr ((x16_3 + v41)) by omega) (show inr ((x16_4 + 1)) from q_188 b12 h1 j16_3 r6) (show (0) ≤ ((x16_4 + 1)) from q_14 j16_3) (show ((x16_4 + 1)) ≤ (0) ∨ ((x16_4 + 1)) ≤ ((u0_1)) from q_13 b12) (show (x16_2) = p2 ((u0_0)) - 1 - ngs ((w1)) ((x16_4 + 1)) by omega) (show ((x16_3 + v41)) = mp ((w1)) ((x16_4 + 1)) by omega) (hM1) (hS1) (hU1) (hB1) (hN1) rfl
            · have hng := neg1_eq (((w1)) (x16_4))
              refine Ew_of (pcₚ := 137) (fun _ => x_aload_n rfl (rk_o (l91_0) rfl rfl)) ?_
              refine v_g H (o := 0) (v := .ref (D 7)) rfl rfl rfl rfl rfl (vrf ((mF_91 0 7 rfl).trans (pf7))) ?_
              refine Ew_of (pcₚ := 141) (fun _ => x_iload_n rfl (rk_o (l91_2) rfl rfl)) ?_
              refine Ew_of (pcₚ := 144) (fun _ => x_iinc (len := 3) rfl (rk_o (l91_2) rfl rfl)) ?_
              refine Ew_of (pcₚ := 146) (fun _ => x_iload rfl (rk_o (rk_o (l91_4) rfl rfl) rfl rfl)) ?_
              refine v_sI H (o := 7) (z := x16_4) rfl rfl rfl rfl (n := n7) (en7) (show 0 ≤ x16_2 ∧ x16_2 < n7 by omega) (show inr (x16_4) from j16_2) (fun σ H Oₚ => ?_)
              have O := OUT_trans O Oₚ
              have cAu44 : SA oz_E1clsl_1 A (updA A_91 7 (x16_2) (x16_4)) := SA_upd (cA_91) rfl
              have mAu44 := SAm_of cAu44 oz_E1cls_2
              have hng2 := neg1_eq (((w1)) (x16_4))
              refine Ew_of (pcₚ := 150) (fun _ => x_iinc (len := 3) rfl (rk_o (rk_o (l91_4) rfl rfl) rfl rfl)) ?_
              refine Ew_of (pcₚ := 16) (fun _ => x_goto rfl rfl) ?_
              have hM1 : MSI ((w1)) ((upd1 (w16_2) (x16_4) (tc52_0))) ((x16_4 + 1)) := MSI_s (by assumption) rfl hm
              have hS1 : SSC ((w1)) ((upd1 (w16_4) (x16_4) (x16_3))) ((x16_4 + 1)) := SSC_s (by assumption) rfl (by omega)
              have hU1 : USI ((upd1 (w16_5) (x16_4) (0))) ((x16_4 + 1)) := USI_s (by assumption) rfl
              have hB1 : BSI ((w1)) ((w91_3)) ((u0_0)) ((x16_4 + 1)) := BSI_s (by assumption) rfl hbt
              have hN1 : NGI ((w1)) ((upd1 (w16_7) (x16_2) (x16_4))) ((u0_0)) ((x16_4 + 1)) := by first | exact NGI_put (by assumption) rfl (by omega) | exact NGI_skip (by assumption) rfl (by omega)
              exact ih16 _ (msE hm16 q_16 (q_17 b12)) _ _ _ _ ((x16_2 + (-1))) ((x16_3 + v41)) ((x16_4 + 1)) (rk_o (rk_o (rk_o (l91_0) rfl rfl) rfl rfl) rfl rfl) (rk_o (rk_o (rk_o (l91_1) rfl rfl) rfl rfl) rfl rfl) (rk_o (rk_s) rfl rfl) (rk_o (rk_o (rk_s) rfl rfl) rfl rfl) (rk_s) H O (SF_trans (SF_trans (hS_16) hS_c52 (any_sub (by decide +kernel))) hS_91 (any_sub (by decide +kernel))) (SA_upd (SA_trans (SA_upd (SA_upd (SA_upd (SA_upd (SA_trans (hA_16) hA_c52 (any_subA (by decide +kernel))) rfl) rfl) rfl) rfl) hA_91 (any_subA (by decide +kernel))) rfl)    (upd1 (w16_2) (x16_4) (tc52_0)) ((funext (hA_91 2 rfl)).trans (congrArg (fun q => upd1 q (x16_4) (tc52_0)) ((funext (hA_c52 2 rfl)).trans (ew16_2)))) (w91_3) (ew91_3) (upd1 (w16_4) (x16_4) (x16_3)) ((funext (hA_91 4 rfl)).trans (congrArg (fun q => upd1 q (x16_4) (x16_3)) ((funext (hA_c52 4 rfl)).trans (ew16_4)))) (upd1 (w16_5) (x16_4) (0)) ((funext (hA_91 5 rfl)).trans (congrArg (fun q => upd1 q (x16_4) (0)) ((funext (hA_c52 5 rfl)).trans (ew16_5)))) (upd1 (w16_7) (x16_2) (x16_4)) (congrArg (fun q => upd1 q (x16_2) (x16_4)) ((funext (hA_91 7 rfl)).trans ((funext (hA_c52 7 rfl)).trans (ew16_7)))) (show inr ((x16_2 + (-1))) by omega) (show inr ((x16_3 + v41)) by omega) (show inr ((x16_4 + 1)) from q_188 b12 h1 j16_3 r6) (show (0) ≤ ((x16_4 + 1)) from q_14 j16_3) (show ((x16_4 + 1)) ≤ (0) ∨ ((x16_4 + 1)) ≤ ((u0_1)) from q_13 b12) (show ((x16_2 + (-1))) = p2 ((u0_0)) - 1 - ngs ((w1)) ((x16_4 + 1)) by omega) (show ((x16_3 + v41)) = mp ((w1)) ((x16_4 + 1)) by omega) (hM1) (hS1) (hU1) (hB1) (hN1) rfl
          · refine Ew_of (pcₚ := 97) (fun _ => x_aload_n rfl l91_0) ?_
            refine v_g H (o := 0) (v := .ref (D 3)) rfl rfl rfl rfl rfl (vrf ((mF_91 0 4 rfl).trans (pf3))) ?_
            refine Ew_of (pcₚ := 102) (fun _ => x_iload rfl l91_4) ?_
            refine Ew_of (pcₚ := 103) (fun _ => x_dup2 rfl rfl rfl) ?_
            refine v_lI H (o := 3) rfl rfl rfl rfl (n := n3) (en3) (show 0 ≤ x16_4 ∧ x16_4 < n3 from q_198 b12 h1 j16_3) (fun v45 ev45 qv45 => ?_)
            have ev45 : (w91_3) (x16_4) = v45 := (congrFun (ew91_3) (x16_4)).symm.trans ev45
            have hk := HBI_le hh (by omega)
            have hv := ev45
            refine Ew_of (pcₚ := 105) (fun _ => x_iconst rfl) ?_
            refine w_isub rfl ?_
            refine v_sI H (o := 3) (z := (v45 - 1)) rfl rfl rfl rfl (n := n3) (en3) (show 0 ≤ x16_4 ∧ x16_4 < n3 from q_198 b12 h1 j16_3) (show inr ((v45 - 1)) by omega) (fun σ H Oₚ => ?_)
            have O := OUT_trans O Oₚ
            have cAu46 : SA oz_E1clsl_1 A (updA A_91 3 (x16_4) ((v45 - 1))) := SA_upd (cA_91) rfl
            have mAu46 := SAm_of cAu46 oz_E1cls_2
            refine Ew_of (pcₚ := 109) (fun _ => x_iload rfl l91_5) ?_
            refine Ew_of (pcₚ := 110) (fun _ => x_iconst rfl) ?_
            refine w_ishrK 1 2 (by decide) (by decide) rfl (show inr (x91_5) from j91_0) (fun z47 gz47 dz47 => ?_)
            refine Ew_of (pcₚ := 113) (fun _ => x_istore rfl) ?_
            refine Ew_of (pcₚ := 91) (fun _ => x_goto rfl rfl) ?_
            have hh2 : HBI (mass (((w1)) (x16_4))) (((u0_0)) - ((upd1 (w91_3) (x16_4) ((v45 - 1)))) (x16_4)) (z47) := by rw [upd1_s]; exact HBI_s hh (by omega) (by omega) (by omega)
            have hbs2 : BSI ((w1)) ((upd1 (w91_3) (x16_4) ((v45 - 1)))) ((u0_0)) (x16_4) := BSI_upd (by assumption)
            exact ih91 _ (msE hm91 (q_199 b40 dz47) (q_200 b40)) _ _ _ _ (z47) (rk_o (l91_0) rfl rfl) (rk_o (l91_1) rfl rfl) (rk_o (l91_2) rfl rfl) (rk_o (l91_3) rfl rfl) (rk_o (l91_4) rfl rfl) (rk_s) H O (hS_91) (SA_upd (hA_91) rfl)    (upd1 (w91_3) (x16_4) ((v45 - 1))) (congrArg (fun q => upd1 q (x16_4) ((v45 - 1))) (ew91_3)) (show inr (z47) from gz47) (hh2) (hbs2) (show 0 ≤ (z47) by omega) rfl
      refine w_ifge (t := 45) rfl rfl (show inr (v33) from qv33) (fun b48 => ?_) (fun b48 => ?_)
      · refine Ew_of (pcₚ := 46) (fun _ => x_aload_n rfl l16_0) ?_
        refine v_g H (o := 0) (v := .ref (D 1)) rfl rfl rfl rfl rfl (vrf ((mF_16 0 2 rfl).trans (pf1))) ?_
        refine Ew_of (pcₚ := 51) (fun _ => x_iload rfl l16_4) ?_
        refine v_lI H (o := 1) rfl rfl rfl rfl (n := n1) (en1) (show 0 ≤ x16_4 ∧ x16_4 < n1 from q_186 b12 h1 j16_3) (fun v49 ev49 qv49 => ?_)
        have ev49 : (w1) (x16_4) = v49 := (congrFun ((funext (mA_16 1 rfl)).trans (ew1)) (x16_4)).symm.trans ev49
        exact hc52 (v49) _ _ _ _  (l16_0) (l16_1) (l16_2) (l16_3) (l16_4) H O (SF_refl) (SA_refl)     (show inr (v49) from qv49) (show ((v33) ≥ (0) ∧ -2147483648 ≤ ((w1) (x16_4)) ∧ ((w1) (x16_4)) ≤ 2147483647 ∧ (v49) = ((w1) (x16_4))) ∨ ((v33) < (0) ∧ (v49) = (1)) from q_201 b48 ev33 ev49 qv49)
      · refine Ew_of (pcₚ := 42) (fun _ => x_iconst rfl) ?_
        refine Ew_of (pcₚ := 52) (fun _ => x_goto rfl rfl) ?_
        exact hc52 (1) _ _ _ _  (l16_0) (l16_1) (l16_2) (l16_3) (l16_4) H O (SF_refl) (SA_refl)     (show inr (1) from q_135) (show ((v33) ≥ (0) ∧ -2147483648 ≤ ((w1) (x16_4)) ∧ ((w1) (x16_4)) ≤ 2147483647 ∧ (1) = ((w1) (x16_4))) ∨ ((v33) < (0) ∧ (1) = (1)) from q_202 b48)


end
section
/-! E5.cls -/
abbrev V183 : vV := [(0, 8, [(0, 0), (0, 0), (4, 0), (4, 0), (4, 0), (4, 0), (4, 0), (4, 0), (4, 0), (4, 0), (4, 0), (0, 0), (0, 0)]), (1, 0, [])]
theorem len_V183_oz_E5cls : (V183).length = 2 := by decide +kernel
def oz_E5clsl_0 : List (Nat × Nat) := [(0, 11)]
theorem oz_E5cls_1 : (oz_E5clsl_0).all (fun p => !tbz 2048 (Nat.add (Nat.mul 32 p.1) p.2)) = true := by decide +kernel
def oz_E5clsl_1 : List Nat := []
theorem oz_E5cls_2 : (oz_E5clsl_1).all (fun p => !tbz 0 p) = true := by decide +kernel

theorem C183 {σE : rS} {D N : Nat → Nat} {F : hF} {A : hA} {d c s : Nat} {Q : wQ} (H : HW V183 σE D N F A) {a1 : Int} (pf1 : F 0 10 = (D 1 : Int)) (n1 : Int) (en1 : (N 1 : Int) = n1) (u0_11 : Int) (eu0_11 : F 0 11 = u0_11) (u0_12 : Int) (eu0_12 : F 0 12 = u0_12) (w1 : Int → Int) (ew1 : A 1 = w1) (h0 : inr (a1)) (h1 : 0 ≤ (u0_11) ∧ (u0_11) ≤ (u0_12) ∧ (u0_12) ≤ 8 * (n1) ∧ (n1) ≤ 65536) (h2 : 0 ≤ (a1) ∧ (a1) ≤ 16) (k : ∀ (z : Int) (σ : rS) (Fₚ : hF) (Aₚ : hA), HW V183 σ D N Fₚ Aₚ → OUT (V183).length D N σE c s D N σ c s → SF [(0, 11)] F Fₚ → SA [] A Aₚ → ∀ y0_11 : Int, Fₚ 0 11 = y0_11 → (inr (z)) → ((z) = -1 ∧ (y0_11) = (u0_11) ∨ 0 ≤ (z) ∧ (z) < p2 (a1) ∧ (y0_11) = (u0_11) + (a1) ∧ (y0_11) ≤ (u0_12)) → (IMP ((0 : Int) ≤ (z)) ((z) = bv (ub8 ((w1))) ((u0_11)) ((a1) : Int).toNat)) → ((z) = -1 → (u0_12) - (u0_11) < (a1)) → Q (some (I z)) σ c s) : Ew 183 (d + 0) 0 (rargs 0 [.ref (D 0), I a1]) [] σE c s Q := by
  have O := OUT_refl (n := (V183).length) (D := D) (N := N) (σ := σE) (c := c) (s := s)
  have HE := H
  have r1 : (-2147483648 : Int) ≤ u0_11 ∧ u0_11 ≤ 2147483647 := rngE (show (-2147483648 : Int) ≤ F 0 11 ∧ F 0 11 ≤ 2147483647 from H.krg 0 11 (ltn len_V183_oz_E5cls rfl)) (show F 0 11 = u0_11 from (eu0_11))
  have r2 : (-2147483648 : Int) ≤ u0_12 ∧ u0_12 ≤ 2147483647 := rngE (show (-2147483648 : Int) ≤ F 0 12 ∧ F 0 12 ≤ 2147483647 from H.krg 0 12 (ltn len_V183_oz_E5cls rfl)) (show F 0 12 = u0_12 from (eu0_12))
  have r3 : (0 : Int) ≤ n1 ∧ n1 ≤ 1000000 := nleE (H.nle 1 (ltn len_V183_oz_E5cls rfl)) (show (N 1 : Int) = n1 from en1)
  refine Ew_of (pcₚ := 1) (fun _ => x_aload_n rfl rfl) ?_
  refine v_g H (o := 0) (v := I (u0_12)) rfl rfl rfl rfl rfl (congrArg (fun z : Int => I z) ((eu0_12) : F 0 12 = u0_12)) ?_
  refine Ew_of (pcₚ := 5) (fun _ => x_aload_n rfl rfl) ?_
  refine v_g H (o := 0) (v := I (u0_11)) rfl rfl rfl rfl rfl (congrArg (fun z : Int => I z) ((eu0_11) : F 0 11 = u0_11)) ?_
  refine w_isub rfl ?_
  refine Ew_of (pcₚ := 10) (fun _ => x_iload_n rfl rfl) ?_
  refine w_icmpge (t := 15) rfl rfl (show inr ((u0_12 - u0_11)) from q_203 h1) (show inr (a1) from h0) (fun b4 => ?_) (fun b4 => ?_)
  · refine Ew_of (pcₚ := 16) (fun _ => x_iconst rfl) ?_
    refine Ew_of (pcₚ := 17) (fun _ => x_istore_n rfl) ?_
    refine Ew_of (pcₚ := 18) (fun _ => x_iconst rfl) ?_
    refine Ew_of (pcₚ := 19) (fun _ => x_istore_n rfl) ?_
    have : p2 0 = 1 := by decide
    have : (0 : Int) = bv (ub8 ((w1))) ((u0_11)) (0 : Int).toNat := rfl
    suffices hl19 : ∀ (m : Nat), ∀ (ls : rO) (σ : rS) (F_19 : hF) (A_19 : hA) (x19_2 : Int) (x19_3 : Int), rlook ls 0 = some (.ref (D 0)) → rlook ls 1 = some (I (a1)) → rlook ls 2 = some (I (x19_2)) → rlook ls 3 = some (I (x19_3)) → HW V183 σ D N F_19 A_19 → OUT (V183).length D N σE c s D N σ c s → SF [] F F_19 → SA [] A A_19 → (inr (x19_2)) → (inr (x19_3)) → ((0) ≤ (x19_3)) → ((x19_3) ≤ (0) ∨ (x19_3) ≤ ((a1))) → (0 ≤ (x19_2) ∧ (x19_2) < p2 (x19_3)) → ((x19_2) = bv (ub8 ((w1))) ((u0_11)) ((x19_3) : Int).toNat) → (((a1)) - (x19_3)).toNat = m → Ew 183 (d + 0) 19 ls [] σ c s Q from
      hl19 _ _ _ _ _ (0) (0) (rk_o (rk_o (rfl) rfl rfl) rfl rfl) (rk_o (rk_o (rfl) rfl rfl) rfl rfl) (rk_o (rk_s) rfl rfl) (rk_s) H O (SF_refl) (SA_refl)     (show inr (0) from q_2) (show inr (0) from q_2) (show (0) ≤ (0) from q_1) (show (0) ≤ (0) ∨ (0) ≤ ((a1)) from q_5) (show 0 ≤ (0) ∧ (0) < p2 (0) by omega) (show (0) = bv (ub8 ((w1))) ((u0_11)) ((0) : Int).toNat by assumption) rfl
    as_aux_lemma =>
    intro m
    induction m using Nat.strongRecOn with
    | _ m ih19 =>
      intro ls σ F_19 A_19 x19_2 x19_3 l19_0 l19_1 l19_2 l19_3 H O hS_19 hA_19     j19_0 j19_1 j19_2 j19_3 j19_4 j19_5 hm19
      have cF_19 : SF oz_E5clsl_0 F F_19 := SF_trans (SF_refl) hS_19 (any_sub (by decide +kernel))
      have mF_19 := SFm_of cF_19 oz_E5cls_1
      have cA_19 : SA oz_E5clsl_1 A A_19 := SA_trans (SA_refl) hA_19 (any_subA (by decide +kernel))
      have mA_19 := SAm_of cA_19 oz_E5cls_2
      have j19_v : (x19_2) = bv (ub8 ((w1))) ((u0_11)) ((x19_3) : Int).toNat := by assumption
      refine Ew_of (pcₚ := 20) (fun _ => x_iload_n rfl l19_3) ?_
      refine Ew_of (pcₚ := 21) (fun _ => x_iload_n rfl l19_1) ?_
      refine w_icmpge (t := 60) rfl rfl (show inr (x19_3) from j19_1) (show inr (a1) from h0) (fun b5 => ?_) (fun b5 => ?_)
      · have hle : (x19_3) = (a1) := q_204 b5 h2 j19_3
        have hl2 : (x19_2) < p2 (a1) := by rw [← hle]; omega
        have : IMP ((0 : Int) ≤ (x19_2)) ((x19_2) = bv (ub8 ((w1))) ((u0_11)) ((a1) : Int).toNat) := fun _ => by rw [← hle]; exact j19_v
        refine Ew_of (pcₚ := 61) (fun _ => x_aload_n rfl l19_0) ?_
        refine Ew_of (pcₚ := 62) (fun _ => x_dup rfl rfl) ?_
        refine v_g H (o := 0) (v := I (u0_11)) rfl rfl rfl rfl rfl (congrArg (fun z : Int => I z) (((hS_19 0 11 rfl).trans (eu0_11)) : F_19 0 11 = u0_11)) ?_
        refine Ew_of (pcₚ := 66) (fun _ => x_iload_n rfl l19_1) ?_
        refine w_iadd rfl ?_
        refine v_p H (o := 0) (z := (u0_11 + a1)) (v := I ((u0_11 + a1))) rfl rfl rfl rfl rfl rfl rfl rfl (show (-2147483648 : Int) ≤ (u0_11 + a1) ∧ (u0_11 + a1) ≤ 2147483647 from q_205 b4 h1 h2) (fun σ H Oₚ => ?_)
        have O := OUT_trans O Oₚ
        have cFu6 : SF oz_E5clsl_0 F (updF F_19 0 11 ((u0_11 + a1))) := SF_upd (cF_19) rfl
        have mFu6 := SFm_of cFu6 oz_E5cls_1
        refine Ew_of (pcₚ := 71) (fun _ => x_iload_n rfl l19_2) ?_
        exact w_ireturn rfl (k (x19_2) _ _ _ H O (cFu6) (cA_19) ((u0_11 + a1)) (rfl) (show inr (x19_2) from j19_0) (show (x19_2) = -1 ∧ ((u0_11 + a1)) = (u0_11) ∨ 0 ≤ (x19_2) ∧ (x19_2) < p2 a1 ∧ ((u0_11 + a1)) = (u0_11) + a1 ∧ ((u0_11 + a1)) ≤ (u0_12) from q_207 b4 hl2 j19_4) (show IMP ((0 : Int) ≤ (x19_2)) ((x19_2) = bv (ub8 ((w1))) ((u0_11)) (a1 : Int).toNat) by assumption) (show (x19_2) = -1 → (u0_12) - (u0_11) < a1 from q_206 h1 h2 j19_4))
      · refine Ew_of (pcₚ := 25) (fun _ => x_aload_n rfl l19_0) ?_
        refine v_g H (o := 0) (v := I (u0_11)) rfl rfl rfl rfl rfl (congrArg (fun z : Int => I z) (((hS_19 0 11 rfl).trans (eu0_11)) : F_19 0 11 = u0_11)) ?_
        refine Ew_of (pcₚ := 29) (fun _ => x_iload_n rfl l19_3) ?_
        refine w_iadd rfl ?_
        refine Ew_of (pcₚ := 32) (fun _ => x_istore rfl) ?_
        refine Ew_of (pcₚ := 33) (fun _ => x_iload_n rfl (rk_o (l19_2) rfl rfl)) ?_
        refine Ew_of (pcₚ := 34) (fun _ => x_aload_n rfl (rk_o (l19_0) rfl rfl)) ?_
        refine v_g H (o := 0) (v := .ref (D 1)) rfl rfl rfl rfl rfl (vrf ((mF_19 0 10 rfl).trans (pf1))) ?_
        refine Ew_of (pcₚ := 39) (fun _ => x_iload rfl rk_s) ?_
        refine Ew_of (pcₚ := 40) (fun _ => x_iconst rfl) ?_
        refine w_ishrK 3 8 (by decide) (by decide) rfl (show inr ((u0_11 + x19_3)) from q_208 b4 b5 h1 j19_2) (fun z7 gz7 dz7 => ?_)
        refine v_lB H (o := 1) rfl rfl rfl rfl (n := n1) (en1) (show 0 ≤ z7 ∧ z7 < n1 by omega) (fun v8 ev8 qv8 => ?_)
        have ev8 : (w1) (z7) = v8 := (congrFun ((funext (mA_19 1 rfl)).trans (ew1)) (z7)).symm.trans ev8
        have hv := ev8
        refine Ew_of (pcₚ := 44) (fun _ => x_iload rfl rk_s) ?_
        refine Ew_of (pcₚ := 46) (fun _ => x_bipush (z := 7) rfl (by decide)) ?_
        refine w_iandG rfl ?_
        have g9 : inr (andI ((u0_11 + x19_3)) (7)) := toI_inr _
        refine w_ishrG rfl ?_
        have g10 : inr (srI (v8) ((andI ((u0_11 + x19_3)) (7)))) := toI_inr _
        refine Ew_of (pcₚ := 49) (fun _ => x_iconst rfl) ?_
        refine w_iandG rfl ?_
        have g11 : inr (andI ((srI (v8) ((andI ((u0_11 + x19_3)) (7))))) (1)) := toI_inr _
        refine Ew_of (pcₚ := 51) (fun _ => x_iload_n rfl (rk_o (l19_3) rfl rfl)) ?_
        refine w_ishlE rfl ?_
        have g12 : inr (slI ((andI ((srI (v8) ((andI ((u0_11 + x19_3)) (7))))) (1))) (x19_3)) := toI_inr _
        refine w_iorE rfl ?_
        have g13 : inr (orI (x19_2) ((slI ((andI ((srI (v8) ((andI ((u0_11 + x19_3)) (7))))) (1))) (x19_3)))) := toI_inr _
        have hps := p2_s (y := (x19_3)) (by omega)
        have hp16 : p2 ((x19_3)) ≤ p2 16 := p2_mono (by omega)
        have hp17 : p2 16 = 65536 := by decide
        have hpp := p2_pos ((x19_3))
        have hbt := bt_c (f := (w1)) (k := ((u0_11 + x19_3))) hv (by omega) (by omega)
        have hbr := bt_rng (ub8 ((w1))) (((u0_11 + x19_3)))
        have hor : ((orI (x19_2) ((slI ((andI ((srI (v8) ((andI ((u0_11 + x19_3)) (7))))) (1))) (x19_3))))) = (x19_2) + bt (ub8 ((w1))) (((u0_11 + x19_3))) * p2 (x19_3) := by rw [hbt]; exact orI_sh (by omega) (by omega) hbr
        have hml : bt (ub8 ((w1))) (((u0_11 + x19_3))) * p2 ((x19_3)) = 0 ∨ bt (ub8 ((w1))) (((u0_11 + x19_3))) * p2 ((x19_3)) = p2 ((x19_3)) := by rcases (show bt (ub8 ((w1))) (((u0_11 + x19_3))) = 0 ∨ bt (ub8 ((w1))) (((u0_11 + x19_3))) = 1 by omega) with q | q <;> rw [q] <;> omega
        have : ((orI (x19_2) ((slI ((andI ((srI (v8) ((andI ((u0_11 + x19_3)) (7))))) (1))) (x19_3))))) = bv (ub8 ((w1))) ((u0_11)) ((x19_3) + 1 : Int).toNat := bv_s (q := ((u0_11 + x19_3))) j19_v (by omega) rfl hor rfl
        refine Ew_of (pcₚ := 54) (fun _ => x_istore_n rfl) ?_
        refine Ew_of (pcₚ := 57) (fun _ => x_iinc (len := 3) rfl (rk_o (rk_o (l19_3) rfl rfl) rfl rfl)) ?_
        refine Ew_of (pcₚ := 19) (fun _ => x_goto rfl rfl) ?_
        exact ih19 _ (msE hm19 q_16 (q_17 b5)) _ _ _ _ ((orI (x19_2) ((slI ((andI ((srI (v8) ((andI ((u0_11 + x19_3)) (7))))) (1))) (x19_3))))) ((x19_3 + 1)) (rk_o (rk_o (rk_o (l19_0) rfl rfl) rfl rfl) rfl rfl) (rk_o (rk_o (rk_o (l19_1) rfl rfl) rfl rfl) rfl rfl) (rk_o (rk_s) rfl rfl) (rk_s) H O (hS_19) (hA_19)     (show inr ((orI (x19_2) ((slI ((andI ((srI (v8) ((andI ((u0_11 + x19_3)) (7))))) (1))) (x19_3))))) from g13) (show inr ((x19_3 + 1)) from q_209 b5 h2 j19_2) (show (0) ≤ ((x19_3 + 1)) from q_14 j19_2) (show ((x19_3 + 1)) ≤ (0) ∨ ((x19_3 + 1)) ≤ ((a1)) from q_13 b5) (show 0 ≤ ((orI (x19_2) ((slI ((andI ((srI (v8) ((andI ((u0_11 + x19_3)) (7))))) (1))) (x19_3))))) ∧ ((orI (x19_2) ((slI ((andI ((srI (v8) ((andI ((u0_11 + x19_3)) (7))))) (1))) (x19_3))))) < p2 ((x19_3 + 1)) by omega) (show ((orI (x19_2) ((slI ((andI ((srI (v8) ((andI ((u0_11 + x19_3)) (7))))) (1))) (x19_3))))) = bv (ub8 ((w1))) ((u0_11)) (((x19_3 + 1)) : Int).toNat by assumption) rfl
  · refine Ew_of (pcₚ := 14) (fun _ => x_iconst rfl) ?_
    have : IMP ((0 : Int) ≤ (-1)) ((-1) = bv (ub8 ((w1))) ((u0_11)) ((a1) : Int).toNat) := fun z => absurd z (by omega)
    exact w_ireturn rfl (k ((-1)) _ _ _ H O (SF_refl) (SA_refl) (u0_11) ((eu0_11)) (show inr ((-1)) from q_63) (show ((-1)) = -1 ∧ (u0_11) = (u0_11) ∨ 0 ≤ ((-1)) ∧ ((-1)) < p2 a1 ∧ (u0_11) = (u0_11) + a1 ∧ (u0_11) ≤ (u0_12) by first | exact q_211 | omega) (show IMP ((0 : Int) ≤ ((-1))) (((-1)) = bv (ub8 ((w1))) ((u0_11)) (a1 : Int).toNat) by assumption) (show ((-1)) = -1 → (u0_12) - (u0_11) < a1 by first | exact q_210 b4 | omega))


end
