abbrev V125 : vV := [(0, 5, [(4, 0), (4, 0), (4, 0), (4, 0), (0, 0), (0, 0), (0, 0), (4, 0), (4, 0), (0, 0), (0, 0), (0, 0), (0, 0), (0, 0), (0, 0), (0, 0), (0, 0), (0, 0), (0, 0)]), (0, 7, [(4, 0), (0, 0), (1, 0), (0, 0), (0, 0)]), (1, 0, []), (1, 1, []), (1, 1, []), (1, 1, []), (1, 1, [])]
theorem len_V125_oz_C4cls : (V125).length = 7 := by decide +kernel
theorem oz_C4cls_1 : vsub V125 V127 [0, 1, 2, 3] = true := by decide +kernel
theorem oz_C4cls_2 : vsub V125 V126 [0, 4, 5, 6] = true := by decide +kernel
theorem oz_C4cls_3 : vmov V125 [0, 4, 5, 6] [1, 2, 3] = true := by decide +kernel
def oz_C4clsl_0 : List (Nat × Nat) := [(0, 1), (0, 2), (0, 3), (0, 4), (0, 5), (0, 12), (0, 13), (0, 14), (0, 15), (0, 16), (0, 17), (0, 18)]
theorem oz_C4cls_4 : (oz_C4clsl_0).all (fun p => !tbz 520254 (Nat.add (Nat.mul 32 p.1) p.2)) = true := by decide +kernel
def oz_C4clsl_1 : List Nat := [4, 5, 6]
theorem oz_C4cls_5 : (oz_C4clsl_1).all (fun p => !tbz 112 p) = true := by decide +kernel
def oz_C4clsl_2 : List Nat := [0, 1, 2, 3]
theorem oz_C4cls_6 : okc oz_C4clsl_2 403177984 = true := by decide +kernel
def oz_C4clsl_3 : List Nat := [0, 4, 5, 6]
theorem oz_C4cls_7 : okc oz_C4clsl_3 806619136 = true := by decide +kernel
/-- Finder.go: this, this.data, this.data.bytes, this.back, this.literals, this.lengths, this.distances -/
theorem C125 {σE : rS} {D N : Nat → Nat} {F : hF} {A : hA} {d c s : Nat} {Q : wQ} (H : HW V125 σE D N F A) {a1 a2 a3 a4 : Int} (pf1 : F 0 0 = (D 1 : Int)) (pf2 : F 1 0 = (D 2 : Int)) (pf3 : F 0 8 = (D 3 : Int)) (pf4 : F 0 1 = (D 4 : Int)) (pf5 : F 0 2 = (D 5 : Int)) (pf6 : F 0 3 = (D 6 : Int)) (n2 : Int) (en2 : (N 2 : Int) = n2) (n3 : Int) (en3 : (N 3 : Int) = n3) (n4 : Int) (en4 : (N 4 : Int) = n4) (n5 : Int) (en5 : (N 5 : Int) = n5) (n6 : Int) (en6 : (N 6 : Int) = n6) (u0_4 : Int) (eu0_4 : F 0 4 = u0_4) (u0_5 : Int) (eu0_5 : F 0 5 = u0_5) (u0_6 : Int) (eu0_6 : F 0 6 = u0_6) (u0_10 : Int) (eu0_10 : F 0 10 = u0_10) (u1_1 : Int) (eu1_1 : F 1 1 = u1_1) (w2 : Int → Int) (ew2 : A 2 = w2) (w3 : Int → Int) (ew3 : A 3 = w3) (w4 : Int → Int) (ew4 : A 4 = w4) (w5 : Int → Int) (ew5 : A 5 = w5) (w6 : Int → Int) (ew6 : A 6 = w6) (h0 : inr (a1)) (h1 : inr (a2)) (h2 : inr (a3)) (h3 : inr (a4)) (h4 : 0 ≤ (u1_1) ∧ (u1_1) ≤ (n2) ∧ (n2) ≤ 65536 ∧ (u1_1) ≤ 16384) (h5 : 1 ≤ (u0_10) ∧ (u0_10) ≤ 8) (h6 : 0 ≤ (a1) ∧ (a1) ≤ (a2) ∧ (a2) ≤ (u1_1)) (h7 : (a3) ≤ (a2) ∧ (a4) < (a2) ∧ (a4) < (u0_6)) (h8 : 0 ≤ (u0_6) ∧ (u0_6) ≤ (n3) ∧ (n3) ≤ 16384) (h9 : BKI ((w2)) ((w3)) ((u0_10)) ((u0_6))) (h10 : (n4) = (n5) ∧ (n6) = (n5) ∧ (n5) ≤ 65536 ∧ ((n5) = 0 ∨ 64 ≤ (n5)) ∧ lgq ((n5)) = 0) (k : ∀ (σ : rS) (Dₚ Nₚ : Nat → Nat) (Fₚ : hF) (Aₚ : hA) (cₚ sₚ : Nat), HW V125 σ Dₚ Nₚ Fₚ Aₚ → OUT (V125).length D N σE c s Dₚ Nₚ σ cₚ sₚ → SD [4, 5, 6] D Dₚ → SD [4, 5, 6] N Nₚ → SF [(0, 1), (0, 2), (0, 3), (0, 4), (0, 5), (0, 12), (0, 13), (0, 14), (0, 15), (0, 16), (0, 17), (0, 18)] F Fₚ → SA [4, 5, 6] A Aₚ → Fₚ 0 1 = (Dₚ 4 : Int) → Fₚ 0 2 = (Dₚ 5 : Int) → Fₚ 0 3 = (Dₚ 6 : Int) → ∀ m4 : Int, (Nₚ 4 : Int) = m4 → ∀ m5 : Int, (Nₚ 5 : Int) = m5 → ∀ m6 : Int, (Nₚ 6 : Int) = m6 → ∀ y0_4 : Int, Fₚ 0 4 = y0_4 → ∀ y0_5 : Int, Fₚ 0 5 = y0_5 → ∀ v4 : Int → Int, Aₚ 4 = v4 → ∀ v5 : Int → Int, Aₚ 5 = v5 → ∀ v6 : Int → Int, Aₚ 6 = v6 → ((m4) = (m5) ∧ (m6) = (m5) ∧ (m5) ≤ 65536 ∧ ((m5) = 0 ∨ 64 ≤ (m5)) ∧ lgq ((m5)) = 0) → (0 ≤ (y0_4) ∧ (y0_4) ≤ (m5) ∧ (y0_4) ≤ (a2) - (a1)) → (0 ≤ (y0_5) ∧ (y0_5) ≤ (a2) - (a1)) → (FDI ((v4)) ((v5)) ((v6)) ((y0_4)) ((a2) - (a1) - (y0_5)) ((u0_10))) → Q none σ cₚ sₚ) : Ew 125 (d + 3) 0 (rargs 0 [.ref (D 0), I a1, I a2, I a3, I a4]) [] σE c s Q := by
  have O := OUT_refl (n := (V125).length) (D := D) (N := N) (σ := σE) (c := c) (s := s)
  have HE := H
  have r1 : (-2147483648 : Int) ≤ u0_4 ∧ u0_4 ≤ 2147483647 := rngE (show (-2147483648 : Int) ≤ F 0 4 ∧ F 0 4 ≤ 2147483647 from H.krg 0 4 (ltn len_V125_oz_C4cls rfl)) (show F 0 4 = u0_4 from (eu0_4))
  have r2 : (-2147483648 : Int) ≤ u0_5 ∧ u0_5 ≤ 2147483647 := rngE (show (-2147483648 : Int) ≤ F 0 5 ∧ F 0 5 ≤ 2147483647 from H.krg 0 5 (ltn len_V125_oz_C4cls rfl)) (show F 0 5 = u0_5 from (eu0_5))
  have r3 : (-2147483648 : Int) ≤ u0_6 ∧ u0_6 ≤ 2147483647 := rngE (show (-2147483648 : Int) ≤ F 0 6 ∧ F 0 6 ≤ 2147483647 from H.krg 0 6 (ltn len_V125_oz_C4cls rfl)) (show F 0 6 = u0_6 from (eu0_6))
  have r4 : (-2147483648 : Int) ≤ u0_10 ∧ u0_10 ≤ 2147483647 := rngE (show (-2147483648 : Int) ≤ F 0 10 ∧ F 0 10 ≤ 2147483647 from H.krg 0 10 (ltn len_V125_oz_C4cls rfl)) (show F 0 10 = u0_10 from (eu0_10))
  have r5 : (-2147483648 : Int) ≤ u1_1 ∧ u1_1 ≤ 2147483647 := rngE (show (-2147483648 : Int) ≤ F 1 1 ∧ F 1 1 ≤ 2147483647 from H.krg 1 1 (ltn len_V125_oz_C4cls rfl)) (show F 1 1 = u1_1 from (eu1_1))
  have r6 : (0 : Int) ≤ n2 ∧ n2 ≤ 1000000 := nleE (H.nle 2 (ltn len_V125_oz_C4cls rfl)) (show (N 2 : Int) = n2 from en2)
  have r7 : (0 : Int) ≤ n3 ∧ n3 ≤ 1000000 := nleE (H.nle 3 (ltn len_V125_oz_C4cls rfl)) (show (N 3 : Int) = n3 from en3)
  have r8 : (0 : Int) ≤ n4 ∧ n4 ≤ 1000000 := nleE (H.nle 4 (ltn len_V125_oz_C4cls rfl)) (show (N 4 : Int) = n4 from en4)
  have r9 : (0 : Int) ≤ n5 ∧ n5 ≤ 1000000 := nleE (H.nle 5 (ltn len_V125_oz_C4cls rfl)) (show (N 5 : Int) = n5 from en5)
  have r10 : (0 : Int) ≤ n6 ∧ n6 ≤ 1000000 := nleE (H.nle 6 (ltn len_V125_oz_C4cls rfl)) (show (N 6 : Int) = n6 from en6)
  refine Ew_of (pcₚ := 1) (fun _ => x_aload_n rfl rfl) ?_
  refine Ew_of (pcₚ := 2) (fun _ => x_iload_n rfl rfl) ?_
  refine v_p H (o := 0) (z := a3) (v := I (a3)) rfl rfl rfl rfl rfl rfl rfl rfl (show (-2147483648 : Int) ≤ a3 ∧ a3 ≤ 2147483647 from q_61 h2) (fun σ H Oₚ => ?_)
  have O := OUT_trans O Oₚ
  have cFu11 : SF oz_C4clsl_0 F (updF F 0 12 (a3)) := SF_upd (SF_refl) rfl
  have mFu11 := SFm_of cFu11 oz_C4cls_4
  refine Ew_of (pcₚ := 6) (fun _ => x_aload_n rfl rfl) ?_
  refine Ew_of (pcₚ := 8) (fun _ => x_iload rfl rfl) ?_
  refine v_p H (o := 0) (z := a4) (v := I (a4)) rfl rfl rfl rfl rfl rfl rfl rfl (show (-2147483648 : Int) ≤ a4 ∧ a4 ≤ 2147483647 from q_61 h3) (fun σ H Oₚ => ?_)
  have O := OUT_trans O Oₚ
  have cFu12 : SF oz_C4clsl_0 F (updF (updF F 0 12 (a3)) 0 13 (a4)) := SF_upd (cFu11) rfl
  have mFu12 := SFm_of cFu12 oz_C4cls_4
  refine Ew_of (pcₚ := 12) (fun _ => x_aload_n rfl rfl) ?_
  refine Ew_of (pcₚ := 13) (fun _ => x_iconst rfl) ?_
  refine v_p H (o := 0) (z := 0) (v := I (0)) rfl rfl rfl rfl rfl rfl rfl rfl (show (-2147483648 : Int) ≤ 0 ∧ 0 ≤ 2147483647 from q_240) (fun σ H Oₚ => ?_)
  have O := OUT_trans O Oₚ
  have cFu13 : SF oz_C4clsl_0 F (updF (updF (updF F 0 12 (a3)) 0 13 (a4)) 0 4 (0)) := SF_upd (cFu12) rfl
  have mFu13 := SFm_of cFu13 oz_C4cls_4
  refine Ew_of (pcₚ := 17) (fun _ => x_aload_n rfl rfl) ?_
  refine Ew_of (pcₚ := 18) (fun _ => x_iconst rfl) ?_
  refine v_p H (o := 0) (z := (-1)) (v := I ((-1))) rfl rfl rfl rfl rfl rfl rfl rfl (show (-2147483648 : Int) ≤ (-1) ∧ (-1) ≤ 2147483647 from q_1949) (fun σ H Oₚ => ?_)
  have O := OUT_trans O Oₚ
  have cFu14 : SF oz_C4clsl_0 F (updF (updF (updF (updF F 0 12 (a3)) 0 13 (a4)) 0 4 (0)) 0 16 ((-1))) := SF_upd (cFu13) rfl
  have mFu14 := SFm_of cFu14 oz_C4cls_4
  refine Ew_of (pcₚ := 22) (fun _ => x_iload_n rfl rfl) ?_
  refine Ew_of (pcₚ := 24) (fun _ => x_istore rfl) ?_
  refine Ew_of (pcₚ := 25) (fun _ => x_iload_n rfl (rk_o (rfl) rfl rfl)) ?_
  refine Ew_of (pcₚ := 27) (fun _ => x_istore rfl) ?_
  refine Ew_of (pcₚ := 28) (fun _ => x_iload_n rfl (rk_o (rk_o (rfl) rfl rfl) rfl rfl)) ?_
  refine Ew_of (pcₚ := 30) (fun _ => x_istore rfl) ?_
  have : FDI ((w4)) ((w5)) ((w6)) (0) ((a1) - (a1)) ((u0_10)) := by rw [show (a1) - (a1) = 0 by omega]; exact FDI_0
  have r15 : (-2147483648 : Int) ≤ F 0 17 ∧ F 0 17 ≤ 2147483647 := H.krg 0 17 (ltn len_V125_oz_C4cls rfl)
  have r16 : (-2147483648 : Int) ≤ F 0 18 ∧ F 0 18 ≤ 2147483647 := H.krg 0 18 (ltn len_V125_oz_C4cls rfl)
  suffices hl30 : ∀ (m : Nat), ∀ (ls : rO) (σ : rS) (D_30 N_30 : Nat → Nat) (c_30 s_30 : Nat) (F_30 : hF) (A_30 : hA) (x30_5 : Int) (x30_6 : Int) (x30_7 : Int), rlook ls 0 = some (.ref (D_30 0)) → rlook ls 2 = some (I (a2)) → rlook ls 5 = some (I (x30_5)) → rlook ls 6 = some (I (x30_6)) → rlook ls 7 = some (I (x30_7)) → HW V125 σ D_30 N_30 F_30 A_30 → OUT (V125).length D N σE c s D_30 N_30 σ c_30 s_30 → SD [4, 5, 6] D D_30 → SD [4, 5, 6] N N_30 → SF [(0, 1), (0, 2), (0, 3), (0, 4), (0, 14), (0, 15), (0, 16), (0, 17), (0, 18)] (updF (updF (updF (updF F 0 12 (a3)) 0 13 (a4)) 0 4 (0)) 0 16 ((-1))) F_30 → SA [4, 5, 6] A A_30 → F_30 0 1 = (D_30 4 : Int) → F_30 0 2 = (D_30 5 : Int) → F_30 0 3 = (D_30 6 : Int) → ∀ m30_4 : Int, (N_30 4 : Int) = m30_4 → ∀ m30_5 : Int, (N_30 5 : Int) = m30_5 → ∀ m30_6 : Int, (N_30 6 : Int) = m30_6 → ∀ y30_0_4 : Int, F_30 0 4 = y30_0_4 → ∀ y30_0_16 : Int, F_30 0 16 = y30_0_16 → ∀ y30_0_17 : Int, F_30 0 17 = y30_0_17 → ∀ y30_0_18 : Int, F_30 0 18 = y30_0_18 → ∀ w30_4 : Int → Int, A_30 4 = w30_4 → ∀ w30_5 : Int → Int, A_30 5 = w30_5 → ∀ w30_6 : Int → Int, A_30 6 = w30_6 → (inr (x30_5)) → (inr (x30_6)) → (inr (x30_7)) → ((a1) ≤ (x30_7)) → ((x30_7) ≤ (a1) ∨ (x30_7) ≤ ((a2))) → ((a1) ≤ (x30_5) ∧ (x30_5) ≤ (x30_6) ∧ (x30_6) ≤ (a2)) → ((m30_4) = (m30_5) ∧ (m30_6) = (m30_5) ∧ (m30_5) ≤ 65536 ∧ ((m30_5) = 0 ∨ 64 ≤ (m30_5)) ∧ lgq ((m30_5)) = 0) → (0 ≤ (y30_0_4) ∧ (y30_0_4) ≤ (m30_5) ∧ (y30_0_4) ≤ (x30_5) - (a1)) → ((y30_0_16) = -1 ∨ (y30_0_17) = 0 ∨ (u0_10) ≤ (y30_0_17) ∧ (y30_0_16) + (y30_0_17) ≤ (a3) ∧ 1 ≤ (y30_0_18) ∧ (y30_0_18) ≤ (y30_0_16)) → (FDI ((w30_4)) ((w30_5)) ((w30_6)) ((y30_0_4)) ((x30_5) - (a1)) ((u0_10))) → (((a2)) - (x30_7)).toNat = m → Ew 125 (d + 3) 30 ls [] σ c_30 s_30 Q from
    hl30 _ _ _ _ _ _ _ _ _ (a1) (a1) (a1) (rk_o (rk_o (rk_o (rfl) rfl rfl) rfl rfl) rfl rfl) (rk_o (rk_o (rk_o (rfl) rfl rfl) rfl rfl) rfl rfl) (rk_o (rk_o (rk_s) rfl rfl) rfl rfl) (rk_o (rk_s) rfl rfl) (rk_s) H O (SD_refl) (SD_refl) (SF_refl) (SA_refl) (pf4) (pf5) (pf6) (n4) (en4) (n5) (en5) (n6) (en6) (0) (rfl) ((-1)) (rfl) (F 0 17) (rfl) (F 0 18) (rfl) (w4) (ew4) (w5) (ew5) (w6) (ew6) (show inr (a1) from h0) (show inr (a1) from h0) (show inr (a1) from h0) (show (a1) ≤ (a1) from q_102) (show (a1) ≤ (a1) ∨ (a1) ≤ ((a2)) from q_101) (show (a1) ≤ (a1) ∧ (a1) ≤ (a1) ∧ (a1) ≤ (a2) from q_2709 h6) (show (n4) = (n5) ∧ (n6) = (n5) ∧ (n5) ≤ 65536 ∧ ((n5) = 0 ∨ 64 ≤ (n5)) ∧ lgq ((n5)) = 0 from h10) (show 0 ≤ (0) ∧ (0) ≤ (n5) ∧ (0) ≤ (a1) - (a1) from q_2708 r9) (show ((-1)) = -1 ∨ (F 0 17) = 0 ∨ (u0_10) ≤ (F 0 17) ∧ ((-1)) + (F 0 17) ≤ (a3) ∧ 1 ≤ (F 0 18) ∧ (F 0 18) ≤ ((-1)) from q_2707) (show FDI ((w4)) ((w5)) ((w6)) ((0)) ((a1) - (a1)) ((u0_10)) by assumption) rfl
  as_aux_lemma =>
  intro m
  induction m using Nat.strongRecOn with
  | _ m ih30 =>
    intro ls σ D_30 N_30 c_30 s_30 F_30 A_30 x30_5 x30_6 x30_7 l30_0 l30_2 l30_5 l30_6 l30_7 H O hD_30 hN_30 hS_30 hA_30 pm30_4 pm30_5 pm30_6 m30_4 em30_4 m30_5 em30_5 m30_6 em30_6 y30_0_4 ey30_0_4 y30_0_16 ey30_0_16 y30_0_17 ey30_0_17 y30_0_18 ey30_0_18 w30_4 ew30_4 w30_5 ew30_5 w30_6 ew30_6 j30_0 j30_1 j30_2 j30_3 j30_4 j30_5 j30_6 j30_7 j30_8 j30_9 hm30
    have cF_30 : SF oz_C4clsl_0 F F_30 := SF_trans (cFu14) hS_30 (any_sub (by decide +kernel))
    have mF_30 := SFm_of cF_30 oz_C4cls_4
    have cA_30 : SA oz_C4clsl_1 A A_30 := SA_trans (SA_refl) hA_30 (any_subA (by decide +kernel))
    have mA_30 := SAm_of cA_30 oz_C4cls_5
    have cD_30 : SD oz_C4clsl_1 D D_30 := SD_trans (SD_refl) hD_30 (any_subA (by decide +kernel))
    have mD_30 := SDm_of cD_30 oz_C4cls_5
    have cN_30 : SD oz_C4clsl_1 N N_30 := SD_trans (SD_refl) hN_30 (any_subA (by decide +kernel))
    have mN_30 := SDm_of cN_30 oz_C4cls_5
    have r17 : (0 : Int) ≤ m30_4 ∧ m30_4 ≤ 1000000 := nleE (H.nle 4 (ltn len_V125_oz_C4cls rfl)) (show (N_30 4 : Int) = m30_4 from em30_4)
    have r18 : (0 : Int) ≤ m30_5 ∧ m30_5 ≤ 1000000 := nleE (H.nle 5 (ltn len_V125_oz_C4cls rfl)) (show (N_30 5 : Int) = m30_5 from em30_5)
    have r19 : (0 : Int) ≤ m30_6 ∧ m30_6 ≤ 1000000 := nleE (H.nle 6 (ltn len_V125_oz_C4cls rfl)) (show (N_30 6 : Int) = m30_6 from em30_6)
    have r20 : (-2147483648 : Int) ≤ y30_0_4 ∧ y30_0_4 ≤ 2147483647 := rngE (show (-2147483648 : Int) ≤ F_30 0 4 ∧ F_30 0 4 ≤ 2147483647 from H.krg 0 4 (ltn len_V125_oz_C4cls rfl)) (show F_30 0 4 = y30_0_4 from (ey30_0_4))
    have r21 : (-2147483648 : Int) ≤ y30_0_16 ∧ y30_0_16 ≤ 2147483647 := rngE (show (-2147483648 : Int) ≤ F_30 0 16 ∧ F_30 0 16 ≤ 2147483647 from H.krg 0 16 (ltn len_V125_oz_C4cls rfl)) (show F_30 0 16 = y30_0_16 from (ey30_0_16))
    have r22 : (-2147483648 : Int) ≤ y30_0_17 ∧ y30_0_17 ≤ 2147483647 := rngE (show (-2147483648 : Int) ≤ F_30 0 17 ∧ F_30 0 17 ≤ 2147483647 from H.krg 0 17 (ltn len_V125_oz_C4cls rfl)) (show F_30 0 17 = y30_0_17 from (ey30_0_17))
    have r23 : (-2147483648 : Int) ≤ y30_0_18 ∧ y30_0_18 ≤ 2147483647 := rngE (show (-2147483648 : Int) ≤ F_30 0 18 ∧ F_30 0 18 ≤ 2147483647 from H.krg 0 18 (ltn len_V125_oz_C4cls rfl)) (show F_30 0 18 = y30_0_18 from (ey30_0_18))
    refine Ew_of (pcₚ := 32) (fun _ => x_iload rfl l30_7) ?_
    refine Ew_of (pcₚ := 33) (fun _ => x_iload_n rfl l30_2) ?_
    have hc88 : ∀ (ls : rO) (σ : rS) (F_c88 : hF) (A_c88 : hA) , rlook ls 0 = some (.ref (D_30 0)) → rlook ls 2 = some (I (a2)) → rlook ls 5 = some (I (x30_5)) → HW V125 σ D_30 N_30 F_c88 A_c88 → OUT (V125).length D N σE c s D_30 N_30 σ c_30 s_30 → SF [] F_30 F_c88 → SA [] A_30 A_c88 → (((x30_7) ≥ (a2)) ∨ ((x30_7) < (a2) ∧ -2147483648 ≤ (a4) ∧ (a4) ≤ 2147483647 ∧ (x30_6) > (a4))) → Ew 125 (d + 3) 88 ls [] σ c_30 s_30 Q := by
     as_aux_lemma =>
      intro  ls σ F_c88 A_c88  lc88_0 lc88_2 lc88_5 H O hS_c88 hA_c88     jc88_0
      have cF_c88 : SF oz_C4clsl_0 F F_c88 := SF_trans (cF_30) hS_c88 (any_sub (by decide +kernel))
      have mF_c88 := SFm_of cF_c88 oz_C4cls_4
      have cA_c88 : SA oz_C4clsl_1 A A_c88 := SA_trans (cA_30) hA_c88 (any_subA (by decide +kernel))
      have mA_c88 := SAm_of cA_c88 oz_C4cls_5
      refine Ew_of (pcₚ := 89) (fun _ => x_aload_n rfl lc88_0) ?_
      refine Ew_of (pcₚ := 90) (fun _ => x_iload_n rfl lc88_2) ?_
      refine Ew_of (pcₚ := 92) (fun _ => x_iload rfl lc88_5) ?_
      refine w_isub rfl ?_
      refine v_p H (o := 0) (z := (a2 - x30_5)) (v := I ((a2 - x30_5))) rfl rfl rfl rfl rfl rfl rfl rfl (show (-2147483648 : Int) ≤ (a2 - x30_5) ∧ (a2 - x30_5) ≤ 2147483647 from q_2710 h1 h6 j30_5) (fun σ H Oₚ => ?_)
      have O := OUT_trans O Oₚ
      have cFu24 : SF oz_C4clsl_0 F (updF F_c88 0 5 ((a2 - x30_5))) := SF_upd (cF_c88) rfl
      have mFu24 := SFm_of cFu24 oz_C4cls_4
      have hft : FDI ((w30_4)) ((w30_5)) ((w30_6)) ((y30_0_4)) ((a2) - (a1) - ((a2 - x30_5))) ((u0_10)) := by have e : (a2) - (a1) - ((a2 - x30_5)) = (x30_5) - (a1) := (by omega); rw [e]; assumption
      exact w_ret rfl (k _ _ _ _ _ _ _ H O (cD_30) (cN_30) (cFu24) (cA_c88) (((hS_c88 0 1 rfl)).trans (pm30_4)) (((hS_c88 0 2 rfl)).trans (pm30_5)) (((hS_c88 0 3 rfl)).trans (pm30_6)) (m30_4) (em30_4) (m30_5) (em30_5) (m30_6) (em30_6) (y30_0_4) (((hS_c88 0 4 rfl).trans (ey30_0_4))) ((a2 - x30_5)) (rfl) (w30_4) ((funext (hA_c88 4 rfl)).trans (ew30_4)) (w30_5) ((funext (hA_c88 5 rfl)).trans (ew30_5)) (w30_6) ((funext (hA_c88 6 rfl)).trans (ew30_6)) (show (m30_4) = (m30_5) ∧ (m30_6) = (m30_5) ∧ (m30_5) ≤ 65536 ∧ ((m30_5) = 0 ∨ 64 ≤ (m30_5)) ∧ lgq ((m30_5)) = 0 from j30_6) (show 0 ≤ (y30_0_4) ∧ (y30_0_4) ≤ (m30_5) ∧ (y30_0_4) ≤ a2 - a1 from q_2712 j30_5 j30_7) (show 0 ≤ ((a2 - x30_5)) ∧ ((a2 - x30_5)) ≤ a2 - a1 from q_2711 j30_5) (show FDI ((w30_4)) ((w30_5)) ((w30_6)) ((y30_0_4)) (a2 - a1 - ((a2 - x30_5))) ((u0_10)) from hft))
    refine w_icmpge (t := 88) rfl rfl (show inr (x30_7) from j30_2) (show inr (a2) from h1) (fun b25 => ?_) (fun b25 => ?_)
    · exact hc88  _ _ _ _  (l30_0) (l30_2) (l30_5) H O (SF_refl) (SA_refl)     (show ((x30_7) ≥ (a2)) ∨ ((x30_7) < (a2) ∧ -2147483648 ≤ (a4) ∧ (a4) ≤ 2147483647 ∧ (x30_6) > (a4)) from q_2713 b25)
    · refine Ew_of (pcₚ := 38) (fun _ => x_iload rfl l30_6) ?_
      refine Ew_of (pcₚ := 39) (fun _ => x_aload_n rfl l30_0) ?_
      refine v_g H (o := 0) (v := I (a4)) rfl rfl rfl rfl rfl (congrArg (fun z : Int => I z) ((hS_30 0 13 rfl) : F_30 0 13 = a4)) ?_
      refine w_icmpgt (t := 88) rfl rfl (show inr (x30_6) from j30_1) (show inr (a4) from h3) (fun b26 => ?_) (fun b26 => ?_)
      · exact hc88  _ _ _ _  (l30_0) (l30_2) (l30_5) H O (SF_refl) (SA_refl)     (show ((x30_7) ≥ (a2)) ∨ ((x30_7) < (a2) ∧ -2147483648 ≤ (a4) ∧ (a4) ≤ 2147483647 ∧ (x30_6) > (a4)) from q_2714 b25 b26 h3)
      · have hc82 : ∀ (ls : rO) (σ : rS) (D_c82 N_c82 : Nat → Nat) (c_c82 s_c82 : Nat) (F_c82 : hF) (A_c82 : hA) (xc82_5 : Int) (xc82_6 : Int), rlook ls 0 = some (.ref (D_c82 0)) → rlook ls 2 = some (I (a2)) → rlook ls 5 = some (I (xc82_5)) → rlook ls 6 = some (I (xc82_6)) → rlook ls 7 = some (I (x30_7)) → HW V125 σ D_c82 N_c82 F_c82 A_c82 → OUT (V125).length D N σE c s D_c82 N_c82 σ c_c82 s_c82 → SD [4, 5, 6] D_30 D_c82 → SD [4, 5, 6] N_30 N_c82 → SF [(0, 1), (0, 2), (0, 3), (0, 4), (0, 14), (0, 15), (0, 16), (0, 17), (0, 18)] F_30 F_c82 → SA [4, 5, 6] A_30 A_c82 → F_c82 0 1 = (D_c82 4 : Int) → F_c82 0 2 = (D_c82 5 : Int) → F_c82 0 3 = (D_c82 6 : Int) → ∀ mc82_4 : Int, (N_c82 4 : Int) = mc82_4 → ∀ mc82_5 : Int, (N_c82 5 : Int) = mc82_5 → ∀ mc82_6 : Int, (N_c82 6 : Int) = mc82_6 → ∀ yc82_0_4 : Int, F_c82 0 4 = yc82_0_4 → ∀ yc82_0_16 : Int, F_c82 0 16 = yc82_0_16 → ∀ yc82_0_17 : Int, F_c82 0 17 = yc82_0_17 → ∀ yc82_0_18 : Int, F_c82 0 18 = yc82_0_18 → ∀ wc82_4 : Int → Int, A_c82 4 = wc82_4 → ∀ wc82_5 : Int → Int, A_c82 5 = wc82_5 → ∀ wc82_6 : Int → Int, A_c82 6 = wc82_6 → (inr (xc82_5)) → (inr (xc82_6)) → ((a1) ≤ (xc82_5) ∧ (xc82_5) ≤ (xc82_6) ∧ (xc82_6) ≤ (a2)) → ((mc82_4) = (mc82_5) ∧ (mc82_6) = (mc82_5) ∧ (mc82_5) ≤ 65536 ∧ ((mc82_5) = 0 ∨ 64 ≤ (mc82_5)) ∧ lgq ((mc82_5)) = 0) → (0 ≤ (yc82_0_4) ∧ (yc82_0_4) ≤ (mc82_5) ∧ (yc82_0_4) ≤ (xc82_5) - (a1)) → ((yc82_0_16) = -1 ∨ (yc82_0_17) = 0 ∨ (u0_10) ≤ (yc82_0_17) ∧ (yc82_0_16) + (yc82_0_17) ≤ (a3) ∧ 1 ≤ (yc82_0_18) ∧ (yc82_0_18) ≤ (yc82_0_16)) → (FDI ((wc82_4)) ((wc82_5)) ((wc82_6)) ((yc82_0_4)) ((xc82_5) - (a1)) ((u0_10))) → Ew 125 (d + 3) 82 ls [] σ c_c82 s_c82 Q := by
         as_aux_lemma =>
          intro  ls σ D_c82 N_c82 c_c82 s_c82 F_c82 A_c82 xc82_5 xc82_6 lc82_0 lc82_2 lc82_5 lc82_6 lc82_7 H O hD_c82 hN_c82 hS_c82 hA_c82 pmc82_4 pmc82_5 pmc82_6 mc82_4 emc82_4 mc82_5 emc82_5 mc82_6 emc82_6 yc82_0_4 eyc82_0_4 yc82_0_16 eyc82_0_16 yc82_0_17 eyc82_0_17 yc82_0_18 eyc82_0_18 wc82_4 ewc82_4 wc82_5 ewc82_5 wc82_6 ewc82_6 jc82_0 jc82_1 jc82_2 jc82_3 jc82_4 jc82_5 jc82_6
          have cF_c82 : SF oz_C4clsl_0 F F_c82 := SF_trans (cF_30) hS_c82 (any_sub (by decide +kernel))
          have mF_c82 := SFm_of cF_c82 oz_C4cls_4
          have cA_c82 : SA oz_C4clsl_1 A A_c82 := SA_trans (cA_30) hA_c82 (any_subA (by decide +kernel))
          have mA_c82 := SAm_of cA_c82 oz_C4cls_5
          have cD_c82 : SD oz_C4clsl_1 D D_c82 := SD_trans (cD_30) hD_c82 (any_subA (by decide +kernel))
          have mD_c82 := SDm_of cD_c82 oz_C4cls_5
          have cN_c82 : SD oz_C4clsl_1 N N_c82 := SD_trans (cN_30) hN_c82 (any_subA (by decide +kernel))
          have mN_c82 := SDm_of cN_c82 oz_C4cls_5
          have r27 : (0 : Int) ≤ mc82_4 ∧ mc82_4 ≤ 1000000 := nleE (H.nle 4 (ltn len_V125_oz_C4cls rfl)) (show (N_c82 4 : Int) = mc82_4 from emc82_4)
          have r28 : (0 : Int) ≤ mc82_5 ∧ mc82_5 ≤ 1000000 := nleE (H.nle 5 (ltn len_V125_oz_C4cls rfl)) (show (N_c82 5 : Int) = mc82_5 from emc82_5)
          have r29 : (0 : Int) ≤ mc82_6 ∧ mc82_6 ≤ 1000000 := nleE (H.nle 6 (ltn len_V125_oz_C4cls rfl)) (show (N_c82 6 : Int) = mc82_6 from emc82_6)
          have r30 : (-2147483648 : Int) ≤ yc82_0_4 ∧ yc82_0_4 ≤ 2147483647 := rngE (show (-2147483648 : Int) ≤ F_c82 0 4 ∧ F_c82 0 4 ≤ 2147483647 from H.krg 0 4 (ltn len_V125_oz_C4cls rfl)) (show F_c82 0 4 = yc82_0_4 from (eyc82_0_4))
          have r31 : (-2147483648 : Int) ≤ yc82_0_16 ∧ yc82_0_16 ≤ 2147483647 := rngE (show (-2147483648 : Int) ≤ F_c82 0 16 ∧ F_c82 0 16 ≤ 2147483647 from H.krg 0 16 (ltn len_V125_oz_C4cls rfl)) (show F_c82 0 16 = yc82_0_16 from (eyc82_0_16))
          have r32 : (-2147483648 : Int) ≤ yc82_0_17 ∧ yc82_0_17 ≤ 2147483647 := rngE (show (-2147483648 : Int) ≤ F_c82 0 17 ∧ F_c82 0 17 ≤ 2147483647 from H.krg 0 17 (ltn len_V125_oz_C4cls rfl)) (show F_c82 0 17 = yc82_0_17 from (eyc82_0_17))
          have r33 : (-2147483648 : Int) ≤ yc82_0_18 ∧ yc82_0_18 ≤ 2147483647 := rngE (show (-2147483648 : Int) ≤ F_c82 0 18 ∧ F_c82 0 18 ≤ 2147483647 from H.krg 0 18 (ltn len_V125_oz_C4cls rfl)) (show F_c82 0 18 = yc82_0_18 from (eyc82_0_18))
          refine Ew_of (pcₚ := 85) (fun _ => x_iinc (len := 3) rfl (lc82_7)) ?_
          refine Ew_of (pcₚ := 30) (fun _ => x_goto rfl rfl) ?_
          exact ih30 _ (msE hm30 q_31 (q_34 b25)) _ _ _ _ _ _ _ _ (xc82_5) (xc82_6) ((x30_7 + 1)) (rk_o (lc82_0) rfl rfl) (rk_o (lc82_2) rfl rfl) (rk_o (lc82_5) rfl rfl) (rk_o (lc82_6) rfl rfl) (rk_s) H O (SD_trans (hD_30) hD_c82 (any_subA (by decide +kernel))) (SD_trans (hN_30) hN_c82 (any_subA (by decide +kernel))) (SF_trans (hS_30) hS_c82 (any_sub (by decide +kernel))) (SA_trans (hA_30) hA_c82 (any_subA (by decide +kernel))) (pmc82_4) (pmc82_5) (pmc82_6) (mc82_4) (emc82_4) (mc82_5) (emc82_5) (mc82_6) (emc82_6) (yc82_0_4) ((eyc82_0_4)) (yc82_0_16) ((eyc82_0_16)) (yc82_0_17) ((eyc82_0_17)) (yc82_0_18) ((eyc82_0_18)) (wc82_4) (ewc82_4) (wc82_5) (ewc82_5) (wc82_6) (ewc82_6) (show inr (xc82_5) from jc82_0) (show inr (xc82_6) from jc82_1) (show inr ((x30_7 + 1)) from q_2715 b25 h4 h6 j30_2) (show (a1) ≤ ((x30_7 + 1)) from q_105 j30_3) (show ((x30_7 + 1)) ≤ (a1) ∨ ((x30_7 + 1)) ≤ ((a2)) from q_104 b25) (show (a1) ≤ (xc82_5) ∧ (xc82_5) ≤ (xc82_6) ∧ (xc82_6) ≤ (a2) from jc82_2) (show (mc82_4) = (mc82_5) ∧ (mc82_6) = (mc82_5) ∧ (mc82_5) ≤ 65536 ∧ ((mc82_5) = 0 ∨ 64 ≤ (mc82_5)) ∧ lgq ((mc82_5)) = 0 from jc82_3) (show 0 ≤ (yc82_0_4) ∧ (yc82_0_4) ≤ (mc82_5) ∧ (yc82_0_4) ≤ (xc82_5) - (a1) from jc82_4) (show (yc82_0_16) = -1 ∨ (yc82_0_17) = 0 ∨ (u0_10) ≤ (yc82_0_17) ∧ (yc82_0_16) + (yc82_0_17) ≤ (a3) ∧ 1 ≤ (yc82_0_18) ∧ (yc82_0_18) ≤ (yc82_0_16) from jc82_5) (show FDI ((wc82_4)) ((wc82_5)) ((wc82_6)) ((yc82_0_4)) ((xc82_5) - (a1)) ((u0_10)) from jc82_6) rfl
        refine Ew_of (pcₚ := 46) (fun _ => x_aload_n rfl l30_0) ?_
        refine Ew_of (pcₚ := 48) (fun _ => x_iload rfl l30_6) ?_
        have r34 : (-2147483648 : Int) ≤ F_30 0 14 ∧ F_30 0 14 ≤ 2147483647 := H.krg 0 14 (ltn len_V125_oz_C4cls rfl)
        have r35 : (-2147483648 : Int) ≤ F_30 0 15 ∧ F_30 0 15 ≤ 2147483647 := H.krg 0 15 (ltn len_V125_oz_C4cls rfl)
        refine v_inv H (o := 0) rfl rfl rfl rfl rfl rfl (by rfl) (C127 (D := puc 403177984 D_30) (N := puc 403177984 N_30) (HW_subc H oz_C4cls_1 oz_C4cls_6) ((mF_30 0 0 rfl).trans ((pf1).trans (congrArg (fun q : Nat => (q : Int)) (mD_30 1 rfl).symm))) ((mF_30 1 0 rfl).trans ((pf2).trans (congrArg (fun q : Nat => (q : Int)) (mD_30 2 rfl).symm))) ((mF_30 0 8 rfl).trans ((pf3).trans (congrArg (fun q : Nat => (q : Int)) (mD_30 3 rfl).symm))) (n2) ((congrArg (fun q : Nat => (q : Int)) (mN_30 2 rfl)).trans (en2)) (n3) ((congrArg (fun q : Nat => (q : Int)) (mN_30 3 rfl)).trans (en3)) (u0_6) (((mF_30 0 6 rfl).trans (eu0_6))) (u0_10) (((mF_30 0 10 rfl).trans (eu0_10))) (a3) ((hS_30 0 12 rfl)) (a4) ((hS_30 0 13 rfl)) (F_30 0 14) (rfl) (F_30 0 15) (rfl) (y30_0_16) ((ey30_0_16)) (y30_0_17) ((ey30_0_17)) (y30_0_18) ((ey30_0_18)) (u1_1) (((mF_30 1 1 rfl).trans (eu1_1))) (w2) ((funext (mA_30 2 rfl)).trans (ew2)) (w3) ((funext (mA_30 3 rfl)).trans (ew3)) (show inr (x30_6) from j30_1) (show 0 ≤ (u1_1) ∧ (u1_1) ≤ (n2) ∧ (n2) ≤ 65536 ∧ (u1_1) ≤ 16384 from h4) (show (a3) ≤ (u1_1) from q_2719 h6 h7) (show 1 ≤ (u0_10) ∧ (u0_10) ≤ 8 from h5) (show 0 ≤ (x30_6) ∧ (x30_6) < (u0_6) from q_2718 b26 h6 h7 j30_5) (show (u0_6) ≤ (n3) ∧ (n3) ≤ 16384 from q_2717 h8) (show BKI ((w2)) ((w3)) ((u0_10)) ((u0_6)) from h9) (show (y30_0_16) = -1 ∨ (y30_0_17) = 0 ∨ (u0_10) ≤ (y30_0_17) ∧ (y30_0_16) + (y30_0_17) ≤ (a3) ∧ 1 ≤ (y30_0_18) ∧ (y30_0_18) ≤ (y30_0_16) from j30_8) (show (a4) < (u0_6) from q_2716 h7) (show (x30_6) ≤ (a4) from b26) (fun z36 σ36 F36ₚ A36ₚ Hₚ Oₚ hS36 hA36 y36_0_14 ey36_0_14 y36_0_15 ey36_0_15 y36_0_16 ey36_0_16 y36_0_17 ey36_0_17 y36_0_18 ey36_0_18 pz36_0 pz36_1 pz36_2 => ⟨rretB rfl pz36_0, ?_⟩))
        refine v_backc (c := c_30) (s := s_30) H oz_C4cls_1 oz_C4cls_6 Hₚ Oₚ (fun F36 A36 H Oₚ eF36 eA36 => ?_)
        have O := OUT_trans O Oₚ
        -- Finder.matchAt
        have cF36 : SF oz_C4clsl_0 F F36 := SF_trans (cF_30) (SF_gluc (ι := oz_C4clsl_2) oz_C4cls_6 hS36 eF36 (by decide +kernel)) (any_sub (lₚ := [(0, 14), (0, 15), (0, 16), (0, 17), (0, 18)]) (by decide +kernel))
        have mF36 := SFm_of cF36 oz_C4cls_4
        have cA36 : SA oz_C4clsl_1 A A36 := SA_trans (cA_30) (SA_gluc (ι := oz_C4clsl_2) oz_C4cls_6 hA36 eA36 (by decide +kernel)) (any_subA (lₚ := []) (by decide +kernel))
        have mA36 := SAm_of cA36 oz_C4cls_5
        have r37 : (-2147483648 : Int) ≤ y36_0_14 ∧ y36_0_14 ≤ 2147483647 := rngE (show (-2147483648 : Int) ≤ F36 0 14 ∧ F36 0 14 ≤ 2147483647 from H.krg 0 14 (ltn len_V125_oz_C4cls rfl)) (show F36 0 14 = y36_0_14 from ((eF36 0 14).trans ey36_0_14))
        have r38 : (-2147483648 : Int) ≤ y36_0_15 ∧ y36_0_15 ≤ 2147483647 := rngE (show (-2147483648 : Int) ≤ F36 0 15 ∧ F36 0 15 ≤ 2147483647 from H.krg 0 15 (ltn len_V125_oz_C4cls rfl)) (show F36 0 15 = y36_0_15 from ((eF36 0 15).trans ey36_0_15))
        have r39 : (-2147483648 : Int) ≤ y36_0_16 ∧ y36_0_16 ≤ 2147483647 := rngE (show (-2147483648 : Int) ≤ F36 0 16 ∧ F36 0 16 ≤ 2147483647 from H.krg 0 16 (ltn len_V125_oz_C4cls rfl)) (show F36 0 16 = y36_0_16 from ((eF36 0 16).trans ey36_0_16))
        have r40 : (-2147483648 : Int) ≤ y36_0_17 ∧ y36_0_17 ≤ 2147483647 := rngE (show (-2147483648 : Int) ≤ F36 0 17 ∧ F36 0 17 ≤ 2147483647 from H.krg 0 17 (ltn len_V125_oz_C4cls rfl)) (show F36 0 17 = y36_0_17 from ((eF36 0 17).trans ey36_0_17))
        have r41 : (-2147483648 : Int) ≤ y36_0_18 ∧ y36_0_18 ≤ 2147483647 := rngE (show (-2147483648 : Int) ≤ F36 0 18 ∧ F36 0 18 ≤ 2147483647 from H.krg 0 18 (ltn len_V125_oz_C4cls rfl)) (show F36 0 18 = y36_0_18 from ((eF36 0 18).trans ey36_0_18))
        refine w_ifeq (t := 79) rfl rfl (show inr (z36) from q_15 pz36_0) (fun b42 => ?_) (fun b42 => ?_)
        · refine Ew_of (pcₚ := 82) (fun _ => x_iinc (len := 3) rfl (l30_6)) ?_
          have : FDI ((w30_4)) ((w30_5)) ((w30_6)) ((y30_0_4)) ((x30_5) - (a1)) ((u0_10)) := by first | assumption | (have e : (x30_5) - (a1) = (x30_5 - (a1)) + (x30_6 - x30_5) + (y36_0_14) := (by omega); have e2 : (y30_0_4) = y30_0_4 + 1 := (by omega); rw [e, e2]; exact hfn)
          exact hc82  _ _ _ _ _ _ _ _ (x30_5) ((x30_6 + 1)) (rk_o (l30_0) rfl rfl) (rk_o (l30_2) rfl rfl) (rk_o (l30_5) rfl rfl) (rk_s) (rk_o (l30_7) rfl rfl) H O (SD_refl) (SD_refl) (SF_trans (SF_refl) (SF_gluc (ι := oz_C4clsl_2) oz_C4cls_6 hS36 eF36 (by decide +kernel)) (any_sub (lₚ := [(0, 14), (0, 15), (0, 16), (0, 17), (0, 18)]) (by decide +kernel))) (SA_trans (SA_refl) (SA_gluc (ι := oz_C4clsl_2) oz_C4cls_6 hA36 eA36 (by decide +kernel)) (any_subA (lₚ := []) (by decide +kernel))) ((((show F36 0 1 = F_30 0 1 from (eF36 0 1).trans (hS36 0 1 rfl)))).trans (pm30_4)) ((((show F36 0 2 = F_30 0 2 from (eF36 0 2).trans (hS36 0 2 rfl)))).trans (pm30_5)) ((((show F36 0 3 = F_30 0 3 from (eF36 0 3).trans (hS36 0 3 rfl)))).trans (pm30_6)) (m30_4) (em30_4) (m30_5) (em30_5) (m30_6) (em30_6) (y30_0_4) ((((show F36 0 4 = F_30 0 4 from (eF36 0 4).trans (hS36 0 4 rfl))).trans (ey30_0_4))) (y36_0_16) (((eF36 0 16).trans ey36_0_16)) (y36_0_17) (((eF36 0 17).trans ey36_0_17)) (y36_0_18) (((eF36 0 18).trans ey36_0_18)) (w30_4) (((show A36 4 = A_30 4 from (eA36 4))).trans (ew30_4)) (w30_5) (((show A36 5 = A_30 5 from (eA36 5))).trans (ew30_5)) (w30_6) (((show A36 6 = A_30 6 from (eA36 6))).trans (ew30_6)) (show inr (x30_5) from j30_0) (show inr ((x30_6 + 1)) from q_2721 h4 h6 j30_1 j30_5) (show (a1) ≤ (x30_5) ∧ (x30_5) ≤ ((x30_6 + 1)) ∧ ((x30_6 + 1)) ≤ (a2) from q_2720 b26 h7 j30_5) (show (m30_4) = (m30_5) ∧ (m30_6) = (m30_5) ∧ (m30_5) ≤ 65536 ∧ ((m30_5) = 0 ∨ 64 ≤ (m30_5)) ∧ lgq ((m30_5)) = 0 from j30_6) (show 0 ≤ (y30_0_4) ∧ (y30_0_4) ≤ (m30_5) ∧ (y30_0_4) ≤ (x30_5) - (a1) from j30_7) (show (y36_0_16) = -1 ∨ (y36_0_17) = 0 ∨ (u0_10) ≤ (y36_0_17) ∧ (y36_0_16) + (y36_0_17) ≤ (a3) ∧ 1 ≤ (y36_0_18) ∧ (y36_0_18) ≤ (y36_0_16) from pz36_2) (show FDI ((w30_4)) ((w30_5)) ((w30_6)) ((y30_0_4)) ((x30_5) - (a1)) ((u0_10)) from j30_9)
        · refine Ew_of (pcₚ := 55) (fun _ => x_aload_n rfl l30_0) ?_
          refine Ew_of (pcₚ := 57) (fun _ => x_iload rfl l30_6) ?_
          refine Ew_of (pcₚ := 59) (fun _ => x_iload rfl l30_5) ?_
          refine w_isub rfl ?_
          refine v_inv H (o := 0) rfl rfl rfl rfl rfl rfl (by rfl) (C126 (D := puc 806619136 D_30) (N := puc 806619136 N_30) (HW_subc H oz_C4cls_2 oz_C4cls_7) ((((show F36 0 1 = F_30 0 1 from (eF36 0 1).trans (hS36 0 1 rfl)))).trans (pm30_4)) ((((show F36 0 2 = F_30 0 2 from (eF36 0 2).trans (hS36 0 2 rfl)))).trans (pm30_5)) ((((show F36 0 3 = F_30 0 3 from (eF36 0 3).trans (hS36 0 3 rfl)))).trans (pm30_6)) (m30_4) (em30_4) (m30_5) (em30_5) (m30_6) (em30_6) (y30_0_4) ((((show F36 0 4 = F_30 0 4 from (eF36 0 4).trans (hS36 0 4 rfl))).trans (ey30_0_4))) (u0_10) (((mF36 0 10 rfl).trans (eu0_10))) (y36_0_14) (((eF36 0 14).trans ey36_0_14)) (y36_0_15) (((eF36 0 15).trans ey36_0_15)) (w30_4) (((show A36 4 = A_30 4 from (eA36 4))).trans (ew30_4)) (w30_5) (((show A36 5 = A_30 5 from (eA36 5))).trans (ew30_5)) (w30_6) (((show A36 6 = A_30 6 from (eA36 6))).trans (ew30_6)) ((x30_5) - (a1)) (show inr ((x30_6 - x30_5)) from q_2725 h6 j30_1 j30_5) (show (m30_4) = (m30_5) ∧ (m30_6) = (m30_5) ∧ (m30_5) ≤ 65536 ∧ ((m30_5) = 0 ∨ 64 ≤ (m30_5)) ∧ lgq ((m30_5)) = 0 from j30_6) (show 0 ≤ (y30_0_4) ∧ (y30_0_4) ≤ (m30_5) ∧ (y30_0_4) ≤ 16383 from q_2724 b26 h4 h6 h7 j30_5 j30_7) (show 0 ≤ ((x30_6 - x30_5)) from q_2723 j30_5) (show (u0_10) ≤ (y36_0_14) ∧ 1 ≤ (y36_0_15) ∧ (y36_0_15) ≤ 16384 from q_2722 b42 h4 h6 j30_5 pz36_0 pz36_1) (show FDI ((w30_4)) ((w30_5)) ((w30_6)) ((y30_0_4)) (((x30_5) - (a1))) ((u0_10)) from j30_9) (fun σ43 D43ₚ N43ₚ F43ₚ A43ₚ c43 s43 Hₚ Oₚ hD43 hN43 hS43 hA43 pm43_1 pm43_2 pm43_3 m43_1 em43_1 m43_2 em43_2 m43_3 em43_3 y43_0_4 ey43_0_4 w43_1 ew43_1 w43_2 ew43_2 w43_3 ew43_3 pz43_0 pz43_1 pz43_2 => ⟨rfl, ?_⟩))
          refine v_backMc (c := c_30) (s := s_30) H oz_C4cls_2 oz_C4cls_7 Hₚ Oₚ hD43 oz_C4cls_3 (fun D43 N43 F43 A43 H Oₚ eD43 eN43 eF43 eA43 => ?_)
          have O := OUT_trans O Oₚ
          -- Finder.note
          have cF43 : SF oz_C4clsl_0 F F43 := SF_trans (cF36) (SF_gluc (ι := oz_C4clsl_3) oz_C4cls_7 hS43 eF43 (by decide +kernel)) (any_sub (lₚ := [(0, 1), (0, 2), (0, 3), (0, 4)]) (by decide +kernel))
          have mF43 := SFm_of cF43 oz_C4cls_4
          have cA43 : SA oz_C4clsl_1 A A43 := SA_trans (cA36) (SA_gluc (ι := oz_C4clsl_3) oz_C4cls_7 hA43 eA43 (by decide +kernel)) (any_subA (lₚ := [4, 5, 6]) (by decide +kernel))
          have mA43 := SAm_of cA43 oz_C4cls_5
          have cD43 : SD oz_C4clsl_1 D D43 := SD_trans (cD_30) (SD_gluc (ι := oz_C4clsl_3) oz_C4cls_7 hD43 eD43 (by decide +kernel)) (any_subA (lₚ := [4, 5, 6]) (by decide +kernel))
          have mD43 := SDm_of cD43 oz_C4cls_5
          have cN43 : SD oz_C4clsl_1 N N43 := SD_trans (cN_30) (SD_gluc (ι := oz_C4clsl_3) oz_C4cls_7 hN43 eN43 (by decide +kernel)) (any_subA (lₚ := [4, 5, 6]) (by decide +kernel))
          have mN43 := SDm_of cN43 oz_C4cls_5
          have pf43_0_1 : F43 0 1 = (D43 4 : Int) := (eF43 0 1).trans (pm43_1.trans (congrArg (fun q : Nat => (q : Int)) (eD43 4).symm))
          have pf43_0_2 : F43 0 2 = (D43 5 : Int) := (eF43 0 2).trans (pm43_2.trans (congrArg (fun q : Nat => (q : Int)) (eD43 5).symm))
          have pf43_0_3 : F43 0 3 = (D43 6 : Int) := (eF43 0 3).trans (pm43_3.trans (congrArg (fun q : Nat => (q : Int)) (eD43 6).symm))
          have r44 : (0 : Int) ≤ m43_1 ∧ m43_1 ≤ 1000000 := nleE (H.nle 4 (ltn len_V125_oz_C4cls rfl)) (show (N43 4 : Int) = m43_1 from (congrArg (fun q : Nat => (q : Int)) (eN43 4)).trans em43_1)
          have r45 : (0 : Int) ≤ m43_2 ∧ m43_2 ≤ 1000000 := nleE (H.nle 5 (ltn len_V125_oz_C4cls rfl)) (show (N43 5 : Int) = m43_2 from (congrArg (fun q : Nat => (q : Int)) (eN43 5)).trans em43_2)
          have r46 : (0 : Int) ≤ m43_3 ∧ m43_3 ≤ 1000000 := nleE (H.nle 6 (ltn len_V125_oz_C4cls rfl)) (show (N43 6 : Int) = m43_3 from (congrArg (fun q : Nat => (q : Int)) (eN43 6)).trans em43_3)
          have r47 : (-2147483648 : Int) ≤ y43_0_4 ∧ y43_0_4 ≤ 2147483647 := rngE (show (-2147483648 : Int) ≤ F43 0 4 ∧ F43 0 4 ≤ 2147483647 from H.krg 0 4 (ltn len_V125_oz_C4cls rfl)) (show F43 0 4 = y43_0_4 from ((eF43 0 4).trans ey43_0_4))
          have hfn := pz43_2
          refine Ew_of (pcₚ := 65) (fun _ => x_iload rfl l30_6) ?_
          refine Ew_of (pcₚ := 66) (fun _ => x_aload_n rfl l30_0) ?_
          refine Ew_stk (congrArg (fun qz : Nat => ([.ref qz, I (x30_6)] : List Value)) (show D43 0 = D_30 0 from ((show D43 0 = D_30 0 from (eD43 0).trans (hD43 0 rfl)))).symm) ?_
          refine v_g H (o := 0) (v := I (y36_0_14)) rfl rfl rfl rfl rfl (congrArg (fun z : Int => I z) ((((show F43 0 14 = F36 0 14 from (eF43 0 14).trans (hS43 0 14 rfl))).trans ((eF36 0 14).trans ey36_0_14)) : F43 0 14 = y36_0_14)) ?_
          refine w_iadd rfl ?_
          refine Ew_of (pcₚ := 72) (fun _ => x_istore rfl) ?_
          refine Ew_of (pcₚ := 74) (fun _ => x_iload rfl rk_s) ?_
          refine Ew_of (pcₚ := 76) (fun _ => x_istore rfl) ?_
          refine Ew_of (pcₚ := 82) (fun _ => x_goto rfl rfl) ?_
          have : FDI ((w43_1)) ((w43_2)) ((w43_3)) ((y43_0_4)) (((x30_6 + y36_0_14)) - (a1)) ((u0_10)) := by first | assumption | (have e : ((x30_6 + y36_0_14)) - (a1) = (x30_5 - (a1)) + (x30_6 - x30_5) + (y36_0_14) := (by omega); have e2 : (y43_0_4) = y30_0_4 + 1 := (by omega); rw [e, e2]; exact hfn)
          exact hc82  _ _ _ _ _ _ _ _ ((x30_6 + y36_0_14)) ((x30_6 + y36_0_14)) ((rk_o (rk_o (l30_0) rfl rfl) rfl rfl).trans (congrArg (fun q : Nat => some (Value.ref q)) (((show D43 0 = D_30 0 from (eD43 0).trans (hD43 0 rfl)))).symm)) (rk_o (rk_o (l30_2) rfl rfl) rfl rfl) (rk_s) (rk_o (rk_s) rfl rfl) (rk_o (rk_o (l30_7) rfl rfl) rfl rfl) H O (SD_trans (SD_refl) (SD_gluc (ι := oz_C4clsl_3) oz_C4cls_7 hD43 eD43 (by decide +kernel)) (any_subA (lₚ := [4, 5, 6]) (by decide +kernel))) (SD_trans (SD_refl) (SD_gluc (ι := oz_C4clsl_3) oz_C4cls_7 hN43 eN43 (by decide +kernel)) (any_subA (lₚ := [4, 5, 6]) (by decide +kernel))) (SF_trans (SF_trans (SF_refl) (SF_gluc (ι := oz_C4clsl_2) oz_C4cls_6 hS36 eF36 (by decide +kernel)) (any_sub (lₚ := [(0, 14), (0, 15), (0, 16), (0, 17), (0, 18)]) (by decide +kernel))) (SF_gluc (ι := oz_C4clsl_3) oz_C4cls_7 hS43 eF43 (by decide +kernel)) (any_sub (lₚ := [(0, 1), (0, 2), (0, 3), (0, 4)]) (by decide +kernel))) (SA_trans (SA_trans (SA_refl) (SA_gluc (ι := oz_C4clsl_2) oz_C4cls_6 hA36 eA36 (by decide +kernel)) (any_subA (lₚ := []) (by decide +kernel))) (SA_gluc (ι := oz_C4clsl_3) oz_C4cls_7 hA43 eA43 (by decide +kernel)) (any_subA (lₚ := [4, 5, 6]) (by decide +kernel))) (pf43_0_1) (pf43_0_2) (pf43_0_3) (m43_1) ((congrArg (fun q : Nat => (q : Int)) (eN43 4)).trans em43_1) (m43_2) ((congrArg (fun q : Nat => (q : Int)) (eN43 5)).trans em43_2) (m43_3) ((congrArg (fun q : Nat => (q : Int)) (eN43 6)).trans em43_3) (y43_0_4) (((eF43 0 4).trans ey43_0_4)) (y36_0_16) ((((show F43 0 16 = F36 0 16 from (eF43 0 16).trans (hS43 0 16 rfl))).trans ((eF36 0 16).trans ey36_0_16))) (y36_0_17) ((((show F43 0 17 = F36 0 17 from (eF43 0 17).trans (hS43 0 17 rfl))).trans ((eF36 0 17).trans ey36_0_17))) (y36_0_18) ((((show F43 0 18 = F36 0 18 from (eF43 0 18).trans (hS43 0 18 rfl))).trans ((eF36 0 18).trans ey36_0_18))) (w43_1) ((eA43 4).trans ew43_1) (w43_2) ((eA43 5).trans ew43_2) (w43_3) ((eA43 6).trans ew43_3) (show inr ((x30_6 + y36_0_14)) from q_2728 b42 h4 h6 h7 j30_5 pz36_0 pz36_1 r37) (show inr ((x30_6 + y36_0_14)) from q_2728 b42 h4 h6 h7 j30_5 pz36_0 pz36_1 r37) (show (a1) ≤ ((x30_6 + y36_0_14)) ∧ ((x30_6 + y36_0_14)) ≤ ((x30_6 + y36_0_14)) ∧ ((x30_6 + y36_0_14)) ≤ (a2) from q_2727 b42 h5 h7 j30_5 pz36_0 pz36_1) (show (m43_1) = (m43_2) ∧ (m43_3) = (m43_2) ∧ (m43_2) ≤ 65536 ∧ ((m43_2) = 0 ∨ 64 ≤ (m43_2)) ∧ lgq ((m43_2)) = 0 from pz43_0) (show 0 ≤ (y43_0_4) ∧ (y43_0_4) ≤ (m43_2) ∧ (y43_0_4) ≤ ((x30_6 + y36_0_14)) - (a1) from q_2726 b42 h5 j30_5 j30_7 pz36_0 pz36_1 pz43_1) (show (y36_0_16) = -1 ∨ (y36_0_17) = 0 ∨ (u0_10) ≤ (y36_0_17) ∧ (y36_0_16) + (y36_0_17) ≤ (a3) ∧ 1 ≤ (y36_0_18) ∧ (y36_0_18) ≤ (y36_0_16) from pz36_2) (show FDI ((w43_1)) ((w43_2)) ((w43_3)) ((y43_0_4)) (((x30_6 + y36_0_14)) - (a1)) ((u0_10)) by assumption)
