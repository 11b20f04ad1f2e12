abbrev V184_Br : vV := [(0, 8, [(0, 0), (0, 0), (4, 0), (4, 0), (4, 0), (4, 0), (4, 0), (4, 0), (4, 0), (4, 0), (4, 0), (0, 0), (0, 0)]), (1, 0, []), (1, 1, []), (1, 1, []), (1, 1, []), (1, 1, []), (1, 1, []), (1, 1, []), (1, 1, []), (1, 1, [])]
theorem len_V184_Br_oz_E6cls : (V184_Br).length = 10 := by decide +kernel
theorem oz_E6cls_1 : vsub V184_Br V183 [0, 1] = true := by decide +kernel
theorem oz_E6cls_2 : vsub V184_Br V169 [0, 3, 4, 5, 6, 7, 8, 2, 9] = true := by decide +kernel
def oz_E6clsl_0 : List (Nat × Nat) := [(0, 0), (0, 10), (0, 11), (0, 12)]
theorem oz_E6cls_3 : (oz_E6clsl_0).all (fun p => !tbz 7169 (Nat.add (Nat.mul 32 p.1) p.2)) = true := by decide +kernel
def oz_E6clsl_1 : List Nat := [2, 3, 4, 5, 6, 7, 8, 9]
theorem oz_E6cls_4 : (oz_E6clsl_1).all (fun p => !tbz 1020 p) = true := by decide +kernel
def oz_E6clsl_2 : List Nat := [0, 1]
theorem oz_E6cls_5 : okc oz_E6clsl_2 512 = true := by decide +kernel
def oz_E6clsl_3 : List Nat := [0, 3, 4, 5, 6, 7, 8, 2, 9]
theorem oz_E6cls_6 : okc oz_E6clsl_3 42519889451792185951744 = true := by decide +kernel
set_option maxHeartbeats 16000000 in
/-- Share.hear: this, #1, this.symbolAt, this.points, this.masses, this.mostBits, this.starts, this.used, this.numberAt, this.placeOf -/
theorem C184_Br {σE : rS} {D N : Nat → Nat} {F : hF} {A : hA} {d c s : Nat} {Q : wQ} (H : HW V184_Br σE D N F A) {a2 a3 a4 : Int} (pf2 : F 0 7 = (D 2 : Int)) (pf3 : F 0 2 = (D 3 : Int)) (pf4 : F 0 3 = (D 4 : Int)) (pf5 : F 0 4 = (D 5 : Int)) (pf6 : F 0 5 = (D 6 : Int)) (pf7 : F 0 6 = (D 7 : Int)) (pf8 : F 0 8 = (D 8 : Int)) (pf9 : F 0 9 = (D 9 : Int)) (n1 : Int) (en1 : (N 1 : Int) = n1) (n2 : Int) (en2 : (N 2 : Int) = n2) (n3 : Int) (en3 : (N 3 : Int) = n3) (n4 : Int) (en4 : (N 4 : Int) = n4) (n5 : Int) (en5 : (N 5 : Int) = n5) (n6 : Int) (en6 : (N 6 : Int) = n6) (n7 : Int) (en7 : (N 7 : Int) = n7) (n8 : Int) (en8 : (N 8 : Int) = n8) (n9 : Int) (en9 : (N 9 : Int) = n9) (u0_0 : Int) (eu0_0 : F 0 0 = u0_0) (u0_1 : Int) (eu0_1 : F 0 1 = u0_1) (w2 : Int → Int) (ew2 : A 2 = w2) (w3 : Int → Int) (ew3 : A 3 = w3) (w4 : Int → Int) (ew4 : A 4 = w4) (w5 : Int → Int) (ew5 : A 5 = w5) (w6 : Int → Int) (ew6 : A 6 = w6) (w8 : Int → Int) (ew8 : A 8 = w8) (w9 : Int → Int) (ew9 : A 9 = w9) (h0 : inr (a2)) (h1 : inr (a3)) (h2 : inr (a4)) (h3 : 0 ≤ (a2) ∧ (a2) ≤ (a3) ∧ (a3) ≤ (n1) ∧ (n1) ≤ 65536) (h4 : 5 ≤ (a4) ∧ (a4) ≤ 9 ∧ p2 (a4) ≤ (n2)) (h5 : (n3) = (u0_1) ∧ (n4) = (u0_1) ∧ (n5) = (u0_1) ∧ (n6) = (u0_1) ∧ (n7) = (u0_1) ∧ (n8) = (n2) ∧ (n9) = (n2) ∧ 1 ≤ (u0_1) ∧ (u0_1) ≤ 64) (k : ∀ (z : Int) (σ : rS) (Fₚ : hF) (Aₚ : hA), HW V184_Br σ D N Fₚ Aₚ → OUT (V184_Br).length D N σE c s D N σ c s → SF [(0, 0), (0, 10), (0, 11), (0, 12)] F Fₚ → SA [2, 3, 4, 5, 6, 7, 8, 9] A Aₚ → ∀ y0_0 : Int, Fₚ 0 0 = y0_0 → ∀ v2 : Int → Int, Aₚ 2 = v2 → ∀ v3 : Int → Int, Aₚ 3 = v3 → ∀ v4 : Int → Int, Aₚ 4 = v4 → ∀ v5 : Int → Int, Aₚ 5 = v5 → ∀ v6 : Int → Int, Aₚ 6 = v6 → ∀ v8 : Int → Int, Aₚ 8 = v8 → ∀ v9 : Int → Int, Aₚ 9 = v9 → Fₚ 0 10 = (D 1 : Int) → (inr (z)) → ((z) = -1 ∨ (a2) ≤ (z) ∧ (z) ≤ (a3)) → ((z) = -1 ∧ (y0_0) = (u0_0) ∨ 5 ≤ (y0_0) ∧ (y0_0) ≤ (a4)) → ((z) = -1 ∨ SL ((v3)) ((u0_1)) ((y0_0)) ((v4)) ((v5)) ((v6)) ((v2)) ((v8)) ((v9))) → Q (some (I z)) σ c s) : Ew 184 (d + 1) 0 (rargs 0 [.ref (D 0), .ref (D 1), I a2, I a3, I a4]) [] σE c s Q := by
  have O := OUT_refl (n := (V184_Br).length) (D := D) (N := N) (σ := σE) (c := c) (s := s)
  have HE := H
  have r1 : (-2147483648 : Int) ≤ u0_0 ∧ u0_0 ≤ 2147483647 := rngE (show (-2147483648 : Int) ≤ F 0 0 ∧ F 0 0 ≤ 2147483647 from H.krg 0 0 (ltn len_V184_Br_oz_E6cls rfl)) (show F 0 0 = u0_0 from (eu0_0))
  have r2 : (-2147483648 : Int) ≤ u0_1 ∧ u0_1 ≤ 2147483647 := rngE (show (-2147483648 : Int) ≤ F 0 1 ∧ F 0 1 ≤ 2147483647 from H.krg 0 1 (ltn len_V184_Br_oz_E6cls rfl)) (show F 0 1 = u0_1 from (eu0_1))
  have r3 : (0 : Int) ≤ n1 ∧ n1 ≤ 1000000 := nleE (H.nle 1 (ltn len_V184_Br_oz_E6cls rfl)) (show (N 1 : Int) = n1 from en1)
  have r4 : (0 : Int) ≤ n2 ∧ n2 ≤ 1000000 := nleE (H.nle 2 (ltn len_V184_Br_oz_E6cls rfl)) (show (N 2 : Int) = n2 from en2)
  have r5 : (0 : Int) ≤ n3 ∧ n3 ≤ 1000000 := nleE (H.nle 3 (ltn len_V184_Br_oz_E6cls rfl)) (show (N 3 : Int) = n3 from en3)
  have r6 : (0 : Int) ≤ n4 ∧ n4 ≤ 1000000 := nleE (H.nle 4 (ltn len_V184_Br_oz_E6cls rfl)) (show (N 4 : Int) = n4 from en4)
  have r7 : (0 : Int) ≤ n5 ∧ n5 ≤ 1000000 := nleE (H.nle 5 (ltn len_V184_Br_oz_E6cls rfl)) (show (N 5 : Int) = n5 from en5)
  have r8 : (0 : Int) ≤ n6 ∧ n6 ≤ 1000000 := nleE (H.nle 6 (ltn len_V184_Br_oz_E6cls rfl)) (show (N 6 : Int) = n6 from en6)
  have r9 : (0 : Int) ≤ n7 ∧ n7 ≤ 1000000 := nleE (H.nle 7 (ltn len_V184_Br_oz_E6cls rfl)) (show (N 7 : Int) = n7 from en7)
  have r10 : (0 : Int) ≤ n8 ∧ n8 ≤ 1000000 := nleE (H.nle 8 (ltn len_V184_Br_oz_E6cls rfl)) (show (N 8 : Int) = n8 from en8)
  have r11 : (0 : Int) ≤ n9 ∧ n9 ≤ 1000000 := nleE (H.nle 9 (ltn len_V184_Br_oz_E6cls rfl)) (show (N 9 : Int) = n9 from en9)
  refine Ew_of (pcₚ := 1) (fun _ => x_aload_n rfl rfl) ?_
  refine Ew_of (pcₚ := 2) (fun _ => x_aload_n rfl rfl) ?_
  refine v_p H (o := 0) (z := ((D 1 : Nat) : Int)) (v := .ref (D 1)) rfl rfl rfl rfl rfl rfl (vrf rfl) rfl (show (-1 : Int) ≤ ((D 1 : Nat) : Int) by omega) (fun σ H Oₚ => ?_)
  have O := OUT_trans O Oₚ
  have cFu12 : SF oz_E6clsl_0 F (updF F 0 10 ((D 1 : Nat) : Int)) := SF_upd (SF_refl) rfl
  have mFu12 := SFm_of cFu12 oz_E6cls_3
  refine Ew_of (pcₚ := 6) (fun _ => x_aload_n rfl rfl) ?_
  refine Ew_of (pcₚ := 8) (fun _ => x_bipush (z := 8) rfl (by decide)) ?_
  refine Ew_of (pcₚ := 9) (fun _ => x_iload_n rfl rfl) ?_
  refine w_imul rfl ?_
  refine v_p H (o := 0) (z := (8 * a2)) (v := I ((8 * a2))) rfl rfl rfl rfl rfl rfl rfl rfl (show (-2147483648 : Int) ≤ (8 * a2) ∧ (8 * a2) ≤ 2147483647 from q_3190 h3) (fun σ H Oₚ => ?_)
  have O := OUT_trans O Oₚ
  have cFu13 : SF oz_E6clsl_0 F (updF (updF F 0 10 ((D 1 : Nat) : Int)) 0 11 ((8 * a2))) := SF_upd (cFu12) rfl
  have mFu13 := SFm_of cFu13 oz_E6cls_3
  refine Ew_of (pcₚ := 14) (fun _ => x_aload_n rfl rfl) ?_
  refine Ew_of (pcₚ := 16) (fun _ => x_bipush (z := 8) rfl (by decide)) ?_
  refine Ew_of (pcₚ := 17) (fun _ => x_iload_n rfl rfl) ?_
  refine w_imul rfl ?_
  refine v_p H (o := 0) (z := (8 * a3)) (v := I ((8 * a3))) rfl rfl rfl rfl rfl rfl rfl rfl (show (-2147483648 : Int) ≤ (8 * a3) ∧ (8 * a3) ≤ 2147483647 from q_3191 h3) (fun σ H Oₚ => ?_)
  have O := OUT_trans O Oₚ
  have cFu14 : SF oz_E6clsl_0 F (updF (updF (updF F 0 10 ((D 1 : Nat) : Int)) 0 11 ((8 * a2))) 0 12 ((8 * a3))) := SF_upd (cFu13) rfl
  have mFu14 := SFm_of cFu14 oz_E6cls_3
  refine Ew_of (pcₚ := 22) (fun _ => x_aload_n rfl rfl) ?_
  refine Ew_of (pcₚ := 23) (fun _ => x_iconst rfl) ?_
  refine v_inv H (o := 0) rfl rfl rfl rfl rfl rfl (by rfl) (C183 (D := puc 512 D) (N := puc 512 N) (HW_subc H oz_E6cls_1 oz_E6cls_5) ((show (updF F 0 10 ((D 1 : Nat) : Int)) 0 10 = ((D 1 : Nat) : Int) from rfl)) (n1) (en1) ((8 * a2)) (rfl) ((8 * a3)) (rfl) (show inr (4) from q_2) (show 0 ≤ ((8 * a2)) ∧ ((8 * a2)) ≤ ((8 * a3)) ∧ ((8 * a3)) ≤ 8 * (n1) ∧ (n1) ≤ 65536 from q_3192 h3) (show 0 ≤ (4) ∧ (4) ≤ 16 from q_1274) (fun z15 σ15 F15ₚ A15ₚ Hₚ Oₚ hS15 hA15 y15_0_11 ey15_0_11 pz15_0 pz15_1 => ⟨rfl, ?_⟩))
  refine v_backc (c := c) (s := s) H oz_E6cls_1 oz_E6cls_5 Hₚ Oₚ (fun F15 A15 H Oₚ eF15 eA15 => ?_)
  have O := OUT_trans O Oₚ
  -- Share.takeBits
  have cF15 : SF oz_E6clsl_0 F F15 := SF_trans (cFu14) (SF_gluc (ι := oz_E6clsl_2) oz_E6cls_5 hS15 eF15 (by decide +kernel)) (any_sub (lₚ := [(0, 11)]) (by decide +kernel))
  have mF15 := SFm_of cF15 oz_E6cls_3
  have cA15 : SA oz_E6clsl_1 A A15 := SA_trans (SA_refl) (SA_gluc (ι := oz_E6clsl_2) oz_E6cls_5 hA15 eA15 (by decide +kernel)) (any_subA (lₚ := []) (by decide +kernel))
  have mA15 := SAm_of cA15 oz_E6cls_4
  have r16 : (-2147483648 : Int) ≤ y15_0_11 ∧ y15_0_11 ≤ 2147483647 := rngE (show (-2147483648 : Int) ≤ F15 0 11 ∧ F15 0 11 ≤ 2147483647 from H.krg 0 11 (ltn len_V184_Br_oz_E6cls rfl)) (show F15 0 11 = y15_0_11 from ((eF15 0 11).trans ey15_0_11))
  have hp4 : p2 4 = 16 := by decide
  have hp1 : p2 1 = 2 := by decide
  have hp22 : p2 2 = 4 := by decide
  have hp0 : p2 0 = 1 := by decide
  refine Ew_of (pcₚ := 28) (fun _ => x_istore rfl) ?_
  refine Ew_of (pcₚ := 30) (fun _ => x_iload rfl rk_s) ?_
  refine w_iflt (t := 42) rfl rfl (show inr (z15) from pz15_0) (fun b17 => ?_) (fun b17 => ?_)
  · have hno : (-1 : Int) = -1 ∨ SL ((w3)) ((u0_1)) ((u0_0)) ((w4)) ((w5)) ((w6)) ((w2)) ((w8)) ((w9)) := .inl rfl
    refine Ew_of (pcₚ := 43) (fun _ => x_iconst rfl) ?_
    exact w_ireturn rfl (k ((-1)) _ _ _ H O (cF15) (cA15) (u0_0) ((((show F15 0 0 = (updF (updF (updF F 0 10 ((D 1 : Nat) : Int)) 0 11 ((8 * a2))) 0 12 ((8 * a3))) 0 0 from (eF15 0 0).trans (hS15 0 0 rfl))).trans (eu0_0))) (w2) (((show A15 2 = A 2 from (eA15 2))).trans (ew2)) (w3) (((show A15 3 = A 3 from (eA15 3))).trans (ew3)) (w4) (((show A15 4 = A 4 from (eA15 4))).trans (ew4)) (w5) (((show A15 5 = A 5 from (eA15 5))).trans (ew5)) (w6) (((show A15 6 = A 6 from (eA15 6))).trans (ew6)) (w8) (((show A15 8 = A 8 from (eA15 8))).trans (ew8)) (w9) (((show A15 9 = A 9 from (eA15 9))).trans (ew9)) ((((show F15 0 10 = (updF (updF (updF F 0 10 ((D 1 : Nat) : Int)) 0 11 ((8 * a2))) 0 12 ((8 * a3))) 0 10 from (eF15 0 10).trans (hS15 0 10 rfl)))).trans ((show (updF F 0 10 ((D 1 : Nat) : Int)) 0 10 = ((D 1 : Nat) : Int) from rfl))) (show inr ((-1)) from q_16) (show ((-1)) = -1 ∨ a2 ≤ ((-1)) ∧ ((-1)) ≤ a3 by first | exact q_2789 | omega) (show ((-1)) = -1 ∧ (u0_0) = (u0_0) ∨ 5 ≤ (u0_0) ∧ (u0_0) ≤ a4 by first | exact q_3193 | omega) (show ((-1)) = -1 ∨ SL ((w3)) ((u0_1)) ((u0_0)) ((w4)) ((w5)) ((w6)) ((w2)) ((w8)) ((w9)) by assumption))
  · refine Ew_of (pcₚ := 35) (fun _ => x_iload rfl rk_s) ?_
    refine Ew_of (pcₚ := 36) (fun _ => x_iconst rfl) ?_
    refine w_iadd rfl ?_
    refine Ew_of (pcₚ := 39) (fun _ => x_iload rfl (rk_o (rfl) rfl rfl)) ?_
    refine w_icmple (t := 44) rfl rfl (show inr ((z15 + 5)) from q_3194 b17 hp4 pz15_1) (show inr (a4) from h2) (fun b18 => ?_) (fun b18 => ?_)
    · have hL5 : 5 ≤ (z15) + 5 ∧ (z15) + 5 ≤ 9 := q_3195 b17 b18 h4
      have hp5 := p2_5 hL5
      have hpm := p2_mono (x := (z15) + 5) (y := (a4)) (by omega)
      refine Ew_of (pcₚ := 45) (fun _ => x_aload_n rfl (rk_o (rfl) rfl rfl)) ?_
      refine Ew_of (pcₚ := 47) (fun _ => x_iload rfl rk_s) ?_
      refine Ew_of (pcₚ := 48) (fun _ => x_iconst rfl) ?_
      refine w_iadd rfl ?_
      refine v_p H (o := 0) (z := (z15 + 5)) (v := I ((z15 + 5))) rfl rfl rfl rfl rfl rfl rfl rfl (show (-2147483648 : Int) ≤ (z15 + 5) ∧ (z15 + 5) ≤ 2147483647 from q_3196 hL5) (fun σ H Oₚ => ?_)
      have O := OUT_trans O Oₚ
      have cFu19 : SF oz_E6clsl_0 F (updF F15 0 0 ((z15 + 5))) := SF_upd (cF15) rfl
      have mFu19 := SFm_of cFu19 oz_E6cls_3
      refine Ew_of (pcₚ := 53) (fun _ => x_aload_n rfl (rk_o (rfl) rfl rfl)) ?_
      refine v_g H (o := 0) (v := .ref (D 3)) rfl rfl rfl rfl rfl (vrf ((mFu19 0 2 rfl).trans (pf3))) ?_
      refine Ew_of (pcₚ := 57) (fun _ => x_iconst rfl) ?_
      refine v_fil H (t := 3) (v := 0) rfl rfl rfl rfl rfl (show inr (0) from q_20) (fun σ A20 H Oₚ hA20 ga20 => ?_)
      have O := OUT_trans O Oₚ
      have cA20 : SA oz_E6clsl_1 A A20 := SA_trans (cA15) hA20 (any_subA (by decide +kernel))
      have mA20 := SAm_of cA20 oz_E6cls_4
      refine Ew_of (pcₚ := 61) (fun _ => x_iconst rfl) ?_
      refine Ew_of (pcₚ := 62) (fun _ => x_aload_n rfl (rk_o (rfl) rfl rfl)) ?_
      refine v_g H (o := 0) (v := I ((z15 + 5))) rfl rfl rfl rfl rfl (congrArg (fun z : Int => I z) (rfl : (updF F15 0 0 ((z15 + 5))) 0 0 = (z15 + 5))) ?_
      refine w_ishl1 rfl (show 0 ≤ (z15 + 5) ∧ (z15 + 5) ≤ 31 from q_3197 hL5) ?_
      refine Ew_of (pcₚ := 68) (fun _ => x_istore rfl) ?_
      refine Ew_of (pcₚ := 69) (fun _ => x_aload_n rfl (rk_o (rk_o (rfl) rfl rfl) rfl rfl)) ?_
      refine v_g H (o := 0) (v := I ((z15 + 5))) rfl rfl rfl rfl rfl (congrArg (fun z : Int => I z) (rfl : (updF F15 0 0 ((z15 + 5))) 0 0 = (z15 + 5))) ?_
      refine Ew_of (pcₚ := 74) (fun _ => x_istore rfl) ?_
      refine Ew_of (pcₚ := 75) (fun _ => x_iconst rfl) ?_
      refine Ew_of (pcₚ := 77) (fun _ => x_istore rfl) ?_
      have hz0 : ZRS ((A20 3)) 0 ((u0_1)) := fun j _ _ => ga20 j
      have hg0 : GE1 ((A20 3)) ((u0_1)) := GE1_z ga20
      have hm0 : mp ((A20 3)) ((u0_1)) = 0 := mp_allz ga20
      suffices hl77 : ∀ (m : Nat), ∀ (ls : rO) (σ : rS) (F_77 : hF) (A_77 : hA) (x77_6 : Int) (x77_7 : Int) (x77_8 : Int), rlook ls 0 = some (.ref (D 0)) → rlook ls 6 = some (I (x77_6)) → rlook ls 7 = some (I (x77_7)) → rlook ls 8 = some (I (x77_8)) → HW V184_Br σ D N F_77 A_77 → OUT (V184_Br).length D N σE c s D N σ c s → SF [(0, 11)] (updF F15 0 0 ((z15 + 5))) F_77 → SA [3] A20 A_77 → ∀ y77_0_11 : Int, F_77 0 11 = y77_0_11 → ∀ w77_3 : Int → Int, A_77 3 = w77_3 → (inr (x77_6)) → (inr (x77_7)) → (inr (x77_8)) → (0 ≤ (x77_8) ∧ (x77_8) ≤ ((u0_1))) → (mp ((w77_3)) ((u0_1)) = p2 (((z15 + 5))) - (x77_6)) → (0 ≤ (x77_6) ∧ (x77_6) ≤ 512) → (0 ≤ (x77_7) ∧ (x77_7) ≤ 9 ∧ (x77_6) + 1 < 2 * p2 (x77_7)) → (ZRS ((w77_3)) (x77_8) ((u0_1))) → (GE1 ((w77_3)) ((u0_1))) → (8 * (a2) ≤ (y77_0_11) ∧ (y77_0_11) ≤ ((8 * a3))) → (((u0_1)) - (x77_8)).toNat = m → Ew 184 (d + 1) 77 ls [] σ c s Q from
        hl77 _ _ _ _ _ (p2 ((z15 + 5))) ((z15 + 5)) (0) (rk_o (rk_o (rk_o (rk_o (rfl) rfl rfl) rfl rfl) rfl rfl) rfl rfl) (rk_o (rk_o (rk_s) rfl rfl) rfl rfl) (rk_o (rk_s) rfl rfl) (rk_s) H O (SF_refl) (SA_refl)   (y15_0_11) (((eF15 0 11).trans ey15_0_11)) (A20 3) (rfl) (show inr (p2 ((z15 + 5))) by omega) (show inr ((z15 + 5)) from q_3201 hL5) (show inr (0) from q_20) (show 0 ≤ (0) ∧ (0) ≤ ((u0_1)) from q_3200 h5) (show mp ((A20 3)) ((u0_1)) = p2 (((z15 + 5))) - (p2 ((z15 + 5))) from q_3199 hm0) (show 0 ≤ (p2 ((z15 + 5))) ∧ (p2 ((z15 + 5))) ≤ 512 by omega) (show 0 ≤ ((z15 + 5)) ∧ ((z15 + 5)) ≤ 9 ∧ (p2 ((z15 + 5))) + 1 < 2 * p2 ((z15 + 5)) by omega) (show ZRS ((A20 3)) (0) ((u0_1)) from hz0) (show GE1 ((A20 3)) ((u0_1)) from hg0) (show 8 * (a2) ≤ (y15_0_11) ∧ (y15_0_11) ≤ ((8 * a3)) from q_3198 h3 pz15_1) rfl
      as_aux_lemma =>
      intro m
      induction m using Nat.strongRecOn with
      | _ m ih77 =>
        intro ls σ F_77 A_77 x77_6 x77_7 x77_8 l77_0 l77_6 l77_7 l77_8 H O hS_77 hA_77   y77_0_11 ey77_0_11 w77_3 ew77_3 j77_0 j77_1 j77_2 j77_3 j77_4 j77_5 j77_6 j77_7 j77_8 j77_9 hm77
        have cF_77 : SF oz_E6clsl_0 F F_77 := SF_trans (cFu19) hS_77 (any_sub (by decide +kernel))
        have mF_77 := SFm_of cF_77 oz_E6cls_3
        have cA_77 : SA oz_E6clsl_1 A A_77 := SA_trans (cA20) hA_77 (any_subA (by decide +kernel))
        have mA_77 := SAm_of cA_77 oz_E6cls_4
        try clear pz15_1
        have r22 : (-2147483648 : Int) ≤ y77_0_11 ∧ y77_0_11 ≤ 2147483647 := rngE (show (-2147483648 : Int) ≤ F_77 0 11 ∧ F_77 0 11 ≤ 2147483647 from H.krg 0 11 (ltn len_V184_Br_oz_E6cls rfl)) (show F_77 0 11 = y77_0_11 from (ey77_0_11))
        refine Ew_of (pcₚ := 79) (fun _ => x_iload rfl l77_8) ?_
        refine Ew_of (pcₚ := 80) (fun _ => x_aload_n rfl l77_0) ?_
        refine v_g H (o := 0) (v := I (u0_1)) rfl rfl rfl rfl rfl (congrArg (fun z : Int => I z) (((mF_77 0 1 rfl).trans (eu0_1)) : F_77 0 1 = u0_1)) ?_
        have hc295 : ∀ (ls : rO) (σ : rS) (F_c295 : hF) (A_c295 : hA) , rlook ls 0 = some (.ref (D 0)) → rlook ls 6 = some (I (x77_6)) → HW V184_Br σ D N F_c295 A_c295 → OUT (V184_Br).length D N σE c s D N σ c s → SF [] F_77 F_c295 → SA [] A_77 A_c295 → (((x77_8) ≥ (u0_1)) ∨ ((x77_8) < (u0_1) ∧ (x77_6) ≤ (0))) → Ew 184 (d + 1) 295 ls [] σ c s Q := by
         as_aux_lemma =>
          intro  ls σ F_c295 A_c295  lc295_0 lc295_6 H O hS_c295 hA_c295     jc295_0
          have cF_c295 : SF oz_E6clsl_0 F F_c295 := SF_trans (cF_77) hS_c295 (any_sub (by decide +kernel))
          have mF_c295 := SFm_of cF_c295 oz_E6cls_3
          have cA_c295 : SA oz_E6clsl_1 A A_c295 := SA_trans (cA_77) hA_c295 (any_subA (by decide +kernel))
          have mA_c295 := SAm_of cA_c295 oz_E6cls_4
          refine Ew_of (pcₚ := 297) (fun _ => x_iload rfl lc295_6) ?_
          refine w_ifle (t := 302) rfl rfl (show inr (x77_6) from j77_0) (fun b23 => ?_) (fun b23 => ?_)
          · have hSD : SHD ((w77_3)) ((u0_1)) (((z15 + 5))) := ⟨.inr hL5, by omega, by omega, by assumption, by omega⟩
            refine Ew_of (pcₚ := 303) (fun _ => x_aload_n rfl lc295_0) ?_
            refine v_inv H (o := 0) rfl rfl rfl rfl rfl rfl (by rfl) (C169 (D := puc 42519889451792185951744 D) (N := puc 42519889451792185951744 N) (HW_subc H oz_E6cls_2 oz_E6cls_6) ((mF_c295 0 2 rfl).trans (pf3)) ((mF_c295 0 3 rfl).trans (pf4)) ((mF_c295 0 4 rfl).trans (pf5)) ((mF_c295 0 5 rfl).trans (pf6)) ((mF_c295 0 6 rfl).trans (pf7)) ((mF_c295 0 8 rfl).trans (pf8)) ((mF_c295 0 7 rfl).trans (pf2)) ((mF_c295 0 9 rfl).trans (pf9)) (n3) (en3) (n4) (en4) (n5) (en5) (n6) (en6) (n7) (en7) (n8) (en8) (n2) (en2) (n9) (en9) ((z15 + 5)) (((hS_c295 0 0 rfl).trans (hS_77 0 0 rfl))) (u0_1) (((mF_c295 0 1 rfl).trans (eu0_1))) (w77_3) ((funext (hA_c295 3 rfl)).trans (ew77_3)) (w4) ((funext (hA_c295 4 rfl)).trans ((funext (hA_77 4 rfl)).trans ((funext (hA20 4 rfl)).trans (((show A15 4 = A 4 from (eA15 4))).trans (ew4))))) (w5) ((funext (hA_c295 5 rfl)).trans ((funext (hA_77 5 rfl)).trans ((funext (hA20 5 rfl)).trans (((show A15 5 = A 5 from (eA15 5))).trans (ew5))))) (w6) ((funext (hA_c295 6 rfl)).trans ((funext (hA_77 6 rfl)).trans ((funext (hA20 6 rfl)).trans (((show A15 6 = A 6 from (eA15 6))).trans (ew6))))) (w8) ((funext (hA_c295 8 rfl)).trans ((funext (hA_77 8 rfl)).trans ((funext (hA20 8 rfl)).trans (((show A15 8 = A 8 from (eA15 8))).trans (ew8))))) (w2) ((funext (hA_c295 2 rfl)).trans ((funext (hA_77 2 rfl)).trans ((funext (hA20 2 rfl)).trans (((show A15 2 = A 2 from (eA15 2))).trans (ew2))))) (w9) ((funext (hA_c295 9 rfl)).trans ((funext (hA_77 9 rfl)).trans ((funext (hA20 9 rfl)).trans (((show A15 9 = A 9 from (eA15 9))).trans (ew9))))) (show SHD ((w77_3)) ((u0_1)) (((z15 + 5))) from hSD) (show (n3) = (u0_1) ∧ (n4) = (u0_1) ∧ (n5) = (u0_1) ∧ (n6) = (u0_1) ∧ (n7) = (u0_1) ∧ (n8) = (n2) ∧ (n9) = (n2) ∧ p2 (((z15 + 5))) ≤ (n2) by omega) (fun σ24 F24ₚ A24ₚ Hₚ Oₚ hS24 hA24 w24_2 ew24_2 w24_3 ew24_3 w24_4 ew24_4 w24_6 ew24_6 w24_7 ew24_7 w24_8 ew24_8 pz24_0 => ⟨rfl, ?_⟩))
            refine v_backc (c := c) (s := s) H oz_E6cls_2 oz_E6cls_6 Hₚ Oₚ (fun F24 A24 H Oₚ eF24 eA24 => ?_)
            have O := OUT_trans O Oₚ
            -- Share.lay
            have cF24 : SF oz_E6clsl_0 F F24 := SF_trans (cF_c295) (SF_gluc (ι := oz_E6clsl_3) oz_E6cls_6 hS24 eF24 (by decide +kernel)) (any_sub (lₚ := []) (by decide +kernel))
            have mF24 := SFm_of cF24 oz_E6cls_3
            have cA24 : SA oz_E6clsl_1 A A24 := SA_trans (cA_c295) (SA_gluc (ι := oz_E6clsl_3) oz_E6cls_6 hA24 eA24 (by decide +kernel)) (any_subA (lₚ := [2, 4, 5, 6, 7, 8, 9]) (by decide +kernel))
            have mA24 := SAm_of cA24 oz_E6cls_4
            refine Ew_of (pcₚ := 307) (fun _ => x_aload_n rfl lc295_0) ?_
            refine v_g H (o := 0) (v := I (y77_0_11)) rfl rfl rfl rfl rfl (congrArg (fun z : Int => I z) (((((show F24 0 11 = F_c295 0 11 from (eF24 0 11).trans (hS24 0 11 rfl))).trans (hS_c295 0 11 rfl)).trans (ey77_0_11)) : F24 0 11 = y77_0_11)) ?_
            refine Ew_of (pcₚ := 312) (fun _ => x_bipush (z := 7) rfl (by decide)) ?_
            refine w_iadd rfl ?_
            refine Ew_of (pcₚ := 314) (fun _ => x_iconst rfl) ?_
            refine w_ishrK 3 8 (by decide) (by decide) rfl (show inr ((y77_0_11 + 7)) from q_3202 h3 j77_9 r22) (fun z25 gz25 dz25 => ?_)
            have hyes : ((z25) : Int) = -1 ∨ SL ((w77_3)) ((u0_1)) (((z15 + 5))) ((w24_2)) ((w24_3)) ((w24_4)) ((w24_7)) ((w24_6)) ((w24_8)) := .inr pz24_0
            exact w_ireturn rfl (k (z25) _ _ _ H O (cF24) (cA24) ((z15 + 5)) (((((show F24 0 0 = F_c295 0 0 from (eF24 0 0).trans (hS24 0 0 rfl))).trans (hS_c295 0 0 rfl)).trans (hS_77 0 0 rfl))) (w24_7) ((eA24 2).trans ew24_7) (w77_3) (((show A24 3 = A_c295 3 from (eA24 3).trans (funext (hA24 1 rfl)))).trans ((funext (hA_c295 3 rfl)).trans (ew77_3))) (w24_2) ((eA24 4).trans ew24_2) (w24_3) ((eA24 5).trans ew24_3) (w24_4) ((eA24 6).trans ew24_4) (w24_6) ((eA24 8).trans ew24_6) (w24_8) ((eA24 9).trans ew24_8) (((((((show F24 0 10 = F_c295 0 10 from (eF24 0 10).trans (hS24 0 10 rfl))).trans (hS_c295 0 10 rfl)).trans (hS_77 0 10 rfl)).trans ((show F15 0 10 = (updF (updF (updF F 0 10 ((D 1 : Nat) : Int)) 0 11 ((8 * a2))) 0 12 ((8 * a3))) 0 10 from (eF15 0 10).trans (hS15 0 10 rfl))))).trans ((show (updF F 0 10 ((D 1 : Nat) : Int)) 0 10 = ((D 1 : Nat) : Int) from rfl))) (show inr (z25) from gz25) (show (z25) = -1 ∨ a2 ≤ (z25) ∧ (z25) ≤ a3 from q_3204 dz25 j77_9) (show (z25) = -1 ∧ ((z15 + 5)) = (u0_0) ∨ 5 ≤ ((z15 + 5)) ∧ ((z15 + 5)) ≤ a4 from q_3203 b18 hL5) (show (z25) = -1 ∨ SL ((w77_3)) ((u0_1)) (((z15 + 5))) ((w24_2)) ((w24_3)) ((w24_4)) ((w24_7)) ((w24_6)) ((w24_8)) from hyes))
          · have hno : (-1 : Int) = -1 ∨ SL ((w77_3)) ((u0_1)) (((z15 + 5))) ((w4)) ((w5)) ((w6)) ((w2)) ((w8)) ((w9)) := .inl rfl
            refine Ew_of (pcₚ := 301) (fun _ => x_iconst rfl) ?_
            exact w_ireturn rfl (k ((-1)) _ _ _ H O (cF_c295) (cA_c295) ((z15 + 5)) (((hS_c295 0 0 rfl).trans (hS_77 0 0 rfl))) (w2) ((funext (hA_c295 2 rfl)).trans ((funext (hA_77 2 rfl)).trans ((funext (hA20 2 rfl)).trans (((show A15 2 = A 2 from (eA15 2))).trans (ew2))))) (w77_3) ((funext (hA_c295 3 rfl)).trans (ew77_3)) (w4) ((funext (hA_c295 4 rfl)).trans ((funext (hA_77 4 rfl)).trans ((funext (hA20 4 rfl)).trans (((show A15 4 = A 4 from (eA15 4))).trans (ew4))))) (w5) ((funext (hA_c295 5 rfl)).trans ((funext (hA_77 5 rfl)).trans ((funext (hA20 5 rfl)).trans (((show A15 5 = A 5 from (eA15 5))).trans (ew5))))) (w6) ((funext (hA_c295 6 rfl)).trans ((funext (hA_77 6 rfl)).trans ((funext (hA20 6 rfl)).trans (((show A15 6 = A 6 from (eA15 6))).trans (ew6))))) (w8) ((funext (hA_c295 8 rfl)).trans ((funext (hA_77 8 rfl)).trans ((funext (hA20 8 rfl)).trans (((show A15 8 = A 8 from (eA15 8))).trans (ew8))))) (w9) ((funext (hA_c295 9 rfl)).trans ((funext (hA_77 9 rfl)).trans ((funext (hA20 9 rfl)).trans (((show A15 9 = A 9 from (eA15 9))).trans (ew9))))) (((((hS_c295 0 10 rfl).trans (hS_77 0 10 rfl)).trans ((show F15 0 10 = (updF (updF (updF F 0 10 ((D 1 : Nat) : Int)) 0 11 ((8 * a2))) 0 12 ((8 * a3))) 0 10 from (eF15 0 10).trans (hS15 0 10 rfl))))).trans ((show (updF F 0 10 ((D 1 : Nat) : Int)) 0 10 = ((D 1 : Nat) : Int) from rfl))) (show inr ((-1)) from q_16) (show ((-1)) = -1 ∨ a2 ≤ ((-1)) ∧ ((-1)) ≤ a3 by first | exact q_2789 | omega) (show ((-1)) = -1 ∧ ((z15 + 5)) = (u0_0) ∨ 5 ≤ ((z15 + 5)) ∧ ((z15 + 5)) ≤ a4 by first | exact q_3205 b18 hL5 | omega) (show ((-1)) = -1 ∨ SL ((w77_3)) ((u0_1)) (((z15 + 5))) ((w4)) ((w5)) ((w6)) ((w2)) ((w8)) ((w9)) by assumption))
        refine w_icmpge (t := 295) rfl rfl (show inr (x77_8) from j77_2) (show inr (u0_1) from q_3206 h5) (fun b26 => ?_) (fun b26 => ?_)
        · exact hc295  _ _ _ _  (l77_0) (l77_6) H O (SF_refl) (SA_refl)     (show ((x77_8) ≥ (u0_1)) ∨ ((x77_8) < (u0_1) ∧ (x77_6) ≤ (0)) from q_3207 b26)
        · refine Ew_of (pcₚ := 88) (fun _ => x_iload rfl l77_6) ?_
          refine w_ifle (t := 295) rfl rfl (show inr (x77_6) from j77_0) (fun b27 => ?_) (fun b27 => ?_)
          · exact hc295  _ _ _ _  (l77_0) (l77_6) H O (SF_refl) (SA_refl)     (show ((x77_8) ≥ (u0_1)) ∨ ((x77_8) < (u0_1) ∧ (x77_6) ≤ (0)) from q_3208 b26 b27)
          · suffices hl91 : ∀ (m : Nat), ∀ (ls : rO) (σ : rS) (F_91 : hF) (A_91 : hA) (x91_7 : Int), rlook ls 0 = some (.ref (D 0)) → rlook ls 6 = some (I (x77_6)) → rlook ls 7 = some (I (x91_7)) → rlook ls 8 = some (I (x77_8)) → HW V184_Br σ D N F_91 A_91 → OUT (V184_Br).length D N σE c s D N σ c s → SF [] F_77 F_91 → SA [] A_77 A_91 → (inr (x91_7)) → (0 ≤ (x91_7) ∧ (x91_7) ≤ 9 ∧ (x77_6) + 1 < 2 * p2 (x91_7)) → ((x91_7)).toNat = m → Ew 184 (d + 1) 91 ls [] σ c s Q from
              hl91 _ _ _ _ _ (x77_7) (l77_0) (l77_6) (l77_7) (l77_8) H O (SF_refl) (SA_refl)     (show inr (x77_7) from j77_1) (show 0 ≤ (x77_7) ∧ (x77_7) ≤ 9 ∧ (x77_6) + 1 < 2 * p2 (x77_7) from j77_6) rfl
            as_aux_lemma =>
            intro m
            induction m using Nat.strongRecOn with
            | _ m ih91 =>
              intro ls σ F_91 A_91 x91_7 l91_0 l91_6 l91_7 l91_8 H O hS_91 hA_91     j91_0 j91_1 hm91
              have cF_91 : SF oz_E6clsl_0 F F_91 := SF_trans (cF_77) hS_91 (any_sub (by decide +kernel))
              have mF_91 := SFm_of cF_91 oz_E6cls_3
              have cA_91 : SA oz_E6clsl_1 A A_91 := SA_trans (cA_77) hA_91 (any_subA (by decide +kernel))
              have mA_91 := SAm_of cA_91 oz_E6cls_4
              refine Ew_of (pcₚ := 93) (fun _ => x_iload rfl l91_7) ?_
              have hc113 : ∀ (ls : rO) (σ : rS) (F_c113 : hF) (A_c113 : hA) , rlook ls 0 = some (.ref (D 0)) → rlook ls 6 = some (I (x77_6)) → rlook ls 7 = some (I (x91_7)) → rlook ls 8 = some (I (x77_8)) → HW V184_Br σ D N F_c113 A_c113 → OUT (V184_Br).length D N σE c s D N σ c s → SF [] F_91 F_c113 → SA [] A_91 A_c113 → (((x91_7) ≤ (0)) ∨ ((x91_7) > (0) ∧ ((x77_6 + 1)) ≥ (p2 (x91_7)))) → Ew 184 (d + 1) 113 ls [] σ c s Q := by
               as_aux_lemma =>
                intro  ls σ F_c113 A_c113  lc113_0 lc113_6 lc113_7 lc113_8 H O hS_c113 hA_c113     jc113_0
                have cF_c113 : SF oz_E6clsl_0 F F_c113 := SF_trans (cF_91) hS_c113 (any_sub (by decide +kernel))
                have mF_c113 := SFm_of cF_c113 oz_E6cls_3
                have cA_c113 : SA oz_E6clsl_1 A A_c113 := SA_trans (cA_91) hA_c113 (any_subA (by decide +kernel))
                have mA_c113 := SAm_of cA_c113 oz_E6cls_4
                have hpp := p2_pos ((x91_7))
                have hp9 := p2_le9 (o := (x91_7)) (by omega)
                have hlo : p2 ((x91_7)) ≤ (x77_6) + 1 := by by_cases q : ((x91_7) : Int) ≤ 0 <;> first | omega | (rw [show ((x91_7) : Int) = 0 by omega]; omega)
                refine Ew_of (pcₚ := 114) (fun _ => x_aload_n rfl lc113_0) ?_
                refine Ew_of (pcₚ := 116) (fun _ => x_iload rfl lc113_7) ?_
                refine v_inv H (o := 0) rfl rfl rfl rfl rfl rfl (by rfl) (C183 (D := puc 512 D) (N := puc 512 N) (HW_subc H oz_E6cls_1 oz_E6cls_5) ((((((hS_c113 0 10 rfl).trans (hS_91 0 10 rfl)).trans (hS_77 0 10 rfl)).trans ((show F15 0 10 = (updF (updF (updF F 0 10 ((D 1 : Nat) : Int)) 0 11 ((8 * a2))) 0 12 ((8 * a3))) 0 10 from (eF15 0 10).trans (hS15 0 10 rfl))))).trans ((show (updF F 0 10 ((D 1 : Nat) : Int)) 0 10 = ((D 1 : Nat) : Int) from rfl))) (n1) (en1) (y77_0_11) ((((hS_c113 0 11 rfl).trans (hS_91 0 11 rfl)).trans (ey77_0_11))) ((8 * a3)) (((((hS_c113 0 12 rfl).trans (hS_91 0 12 rfl)).trans (hS_77 0 12 rfl)).trans ((show F15 0 12 = (updF (updF (updF F 0 10 ((D 1 : Nat) : Int)) 0 11 ((8 * a2))) 0 12 ((8 * a3))) 0 12 from (eF15 0 12).trans (hS15 0 12 rfl))))) (show inr (x91_7) from j91_0) (show 0 ≤ (y77_0_11) ∧ (y77_0_11) ≤ ((8 * a3)) ∧ ((8 * a3)) ≤ 8 * (n1) ∧ (n1) ≤ 65536 from q_3210 h3 j77_9) (show 0 ≤ (x91_7) ∧ (x91_7) ≤ 16 from q_3209 j91_1) (fun z28 σ28 F28ₚ A28ₚ Hₚ Oₚ hS28 hA28 y28_0_11 ey28_0_11 pz28_0 pz28_1 => ⟨rfl, ?_⟩))
                refine v_backc (c := c) (s := s) H oz_E6cls_1 oz_E6cls_5 Hₚ Oₚ (fun F28 A28 H Oₚ eF28 eA28 => ?_)
                have O := OUT_trans O Oₚ
                -- Share.takeBits
                have cF28 : SF oz_E6clsl_0 F F28 := SF_trans (cF_c113) (SF_gluc (ι := oz_E6clsl_2) oz_E6cls_5 hS28 eF28 (by decide +kernel)) (any_sub (lₚ := [(0, 11)]) (by decide +kernel))
                have mF28 := SFm_of cF28 oz_E6cls_3
                have cA28 : SA oz_E6clsl_1 A A28 := SA_trans (cA_c113) (SA_gluc (ι := oz_E6clsl_2) oz_E6cls_5 hA28 eA28 (by decide +kernel)) (any_subA (lₚ := []) (by decide +kernel))
                have mA28 := SAm_of cA28 oz_E6cls_4
                have r29 : (-2147483648 : Int) ≤ y28_0_11 ∧ y28_0_11 ≤ 2147483647 := rngE (show (-2147483648 : Int) ≤ F28 0 11 ∧ F28 0 11 ≤ 2147483647 from H.krg 0 11 (ltn len_V184_Br_oz_E6cls rfl)) (show F28 0 11 = y28_0_11 from ((eF28 0 11).trans ey28_0_11))
                refine Ew_of (pcₚ := 121) (fun _ => x_istore rfl) ?_
                refine Ew_of (pcₚ := 122) (fun _ => x_iconst rfl) ?_
                refine Ew_of (pcₚ := 124) (fun _ => x_iload rfl (rk_o (lc113_7) rfl rfl)) ?_
                refine w_ishlT rfl (show 0 ≤ x91_7 ∧ x91_7 ≤ 31 from q_3211 j91_1) ?_
                refine Ew_of (pcₚ := 126) (fun _ => x_iconst rfl) ?_
                refine w_isub rfl ?_
                refine Ew_of (pcₚ := 129) (fun _ => x_iload rfl (rk_o (lc113_6) rfl rfl)) ?_
                refine w_isub rfl ?_
                refine Ew_of (pcₚ := 132) (fun _ => x_istore rfl) ?_
                have hc186 : ∀ (ls : rO) (σ : rS) (F_c186 : hF) (A_c186 : hA) (xc186_9 : Int), rlook ls 0 = some (.ref (D 0)) → rlook ls 6 = some (I (x77_6)) → rlook ls 7 = some (I (x91_7)) → rlook ls 8 = some (I (x77_8)) → rlook ls 9 = some (I (xc186_9)) → HW V184_Br σ D N F_c186 A_c186 → OUT (V184_Br).length D N σE c s D N σ c s → SF [(0, 11)] F28 F_c186 → SA [] A28 A_c186 → ∀ yc186_0_11 : Int, F_c186 0 11 = yc186_0_11 → (inr (xc186_9)) → (-1 ≤ (xc186_9) ∧ (xc186_9) ≤ (x77_6) + 1) → (8 * (a2) ≤ (yc186_0_11) ∧ (yc186_0_11) ≤ ((8 * a3))) → Ew 184 (d + 1) 186 ls [] σ c s Q := by
                 as_aux_lemma =>
                  intro  ls σ F_c186 A_c186 xc186_9 lc186_0 lc186_6 lc186_7 lc186_8 lc186_9 H O hS_c186 hA_c186   yc186_0_11 eyc186_0_11  jc186_0 jc186_1 jc186_2
                  have cF_c186 : SF oz_E6clsl_0 F F_c186 := SF_trans (cF28) hS_c186 (any_sub (by decide +kernel))
                  have mF_c186 := SFm_of cF_c186 oz_E6cls_3
                  have cA_c186 : SA oz_E6clsl_1 A A_c186 := SA_trans (cA28) hA_c186 (any_subA (by decide +kernel))
                  have mA_c186 := SAm_of cA_c186 oz_E6cls_4
                  try clear pz28_1
                  have r31 : (-2147483648 : Int) ≤ yc186_0_11 ∧ yc186_0_11 ≤ 2147483647 := rngE (show (-2147483648 : Int) ≤ F_c186 0 11 ∧ F_c186 0 11 ≤ 2147483647 from H.krg 0 11 (ltn len_V184_Br_oz_E6cls rfl)) (show F_c186 0 11 = yc186_0_11 from (eyc186_0_11))
                  refine Ew_of (pcₚ := 188) (fun _ => x_iload rfl lc186_9) ?_
                  refine w_ifge (t := 193) rfl rfl (show inr (xc186_9) from jc186_0) (fun b32 => ?_) (fun b32 => ?_)
                  · have hzr : ZRS ((w77_3)) (x77_8) ((u0_1)) := j77_7
                    refine Ew_of (pcₚ := 194) (fun _ => x_aload_n rfl lc186_0) ?_
                    refine v_g H (o := 0) (v := .ref (D 3)) rfl rfl rfl rfl rfl (vrf ((mF_c186 0 2 rfl).trans (pf3))) ?_
                    refine Ew_of (pcₚ := 199) (fun _ => x_iload rfl lc186_8) ?_
                    refine Ew_of (pcₚ := 201) (fun _ => x_iload rfl lc186_9) ?_
                    refine Ew_of (pcₚ := 202) (fun _ => x_iconst rfl) ?_
                    refine w_isub rfl ?_
                    have hmu := mp_updN (g := ((w77_3))) (n := ((u0_1))) (j := (x77_8)) (v := ((xc186_9 - 1))) (by omega) (by omega)
                    have hz8 := hzr ((x77_8)) (by omega) (by omega)
                    have hm8 : mass (((w77_3)) (x77_8)) = 0 := by rw [hz8]; decide
                    have hma := mass_eq (((xc186_9 - 1)))
                    refine v_sI H (o := 3) (z := (xc186_9 - 1)) rfl rfl rfl rfl (n := n3) (en3) (show 0 ≤ x77_8 ∧ x77_8 < n3 from q_3213 b26 h5 j77_3) (show inr ((xc186_9 - 1)) from q_3212 b32 jc186_0) (fun σ H Oₚ => ?_)
                    have O := OUT_trans O Oₚ
                    have cAu33 : SA oz_E6clsl_1 A (updA A_c186 3 (x77_8) ((xc186_9 - 1))) := SA_upd (cA_c186) rfl
                    have mAu33 := SAm_of cAu33 oz_E6cls_4
                    refine Ew_of (pcₚ := 206) (fun _ => x_iload rfl lc186_6) ?_
                    refine Ew_of (pcₚ := 208) (fun _ => x_iload rfl lc186_9) ?_
                    have hc219 : ∀ (tc219_0 : Int), ∀ (ls : rO) (σ : rS) (F_c219 : hF) (A_c219 : hA) , rlook ls 0 = some (.ref (D 0)) → rlook ls 7 = some (I (x91_7)) → rlook ls 8 = some (I (x77_8)) → rlook ls 9 = some (I (xc186_9)) → HW V184_Br σ D N F_c219 A_c219 → OUT (V184_Br).length D N σE c s D N σ c s → SF [] F_c186 F_c219 → SA [] (updA A_c186 3 (x77_8) ((xc186_9 - 1))) A_c219 → (inr (tc219_0)) → (((xc186_9) ≠ (0) ∧ (tc219_0) = ((xc186_9 - 1))) ∨ ((xc186_9) = (0) ∧ (tc219_0) = (1))) → Ew 184 (d + 1) 219 ls [I (tc219_0), I (x77_6)] σ c s Q := by
                     as_aux_lemma =>
                      intro tc219_0 ls σ F_c219 A_c219  lc219_0 lc219_7 lc219_8 lc219_9 H O hS_c219 hA_c219     jc219_0 jc219_1
                      have cF_c219 : SF oz_E6clsl_0 F F_c219 := SF_trans (cF_c186) hS_c219 (any_sub (by decide +kernel))
                      have mF_c219 := SFm_of cF_c219 oz_E6cls_3
                      have cA_c219 : SA oz_E6clsl_1 A A_c219 := SA_trans (cAu33) hA_c219 (any_subA (by decide +kernel))
                      have mA_c219 := SAm_of cA_c219 oz_E6cls_4
                      refine w_isub rfl ?_
                      refine Ew_of (pcₚ := 222) (fun _ => x_istore rfl) ?_
                      refine Ew_of (pcₚ := 224) (fun _ => x_iload rfl (rk_o (lc219_9) rfl rfl)) ?_
                      refine Ew_of (pcₚ := 225) (fun _ => x_iconst rfl) ?_
                      have hc233 : ∀ (tc233_0 : Int), ∀ (ls : rO) (σ : rS) (F_c233 : hF) (A_c233 : hA) , rlook ls 0 = some (.ref (D 0)) → rlook ls 6 = some (I ((x77_6 - tc219_0))) → rlook ls 7 = some (I (x91_7)) → rlook ls 8 = some (I (x77_8)) → HW V184_Br σ D N F_c233 A_c233 → OUT (V184_Br).length D N σE c s D N σ c s → SF [] F_c219 F_c233 → SA [] A_c219 A_c233 → (inr (tc233_0)) → (((xc186_9) ≠ (1) ∧ (tc233_0) = (0)) ∨ ((xc186_9) = (1) ∧ (tc233_0) = (3))) → Ew 184 (d + 1) 233 ls [I (tc233_0)] σ c s Q := by
                       as_aux_lemma =>
                        intro tc233_0 ls σ F_c233 A_c233  lc233_0 lc233_6 lc233_7 lc233_8 H O hS_c233 hA_c233     jc233_0 jc233_1
                        have cF_c233 : SF oz_E6clsl_0 F F_c233 := SF_trans (cF_c219) hS_c233 (any_sub (by decide +kernel))
                        have mF_c233 := SFm_of cF_c233 oz_E6cls_3
                        have cA_c233 : SA oz_E6clsl_1 A A_c233 := SA_trans (cA_c219) hA_c233 (any_subA (by decide +kernel))
                        have mA_c233 := SAm_of cA_c233 oz_E6cls_4
                        refine Ew_of (pcₚ := 235) (fun _ => x_istore rfl) ?_
                        refine Ew_of (pcₚ := 236) (fun _ => x_iconst rfl) ?_
                        refine Ew_of (pcₚ := 238) (fun _ => x_istore rfl) ?_
                        have hzn : ZRS ((upd1 (w77_3) (x77_8) ((xc186_9 - 1)))) ((x77_8) + 1) ((u0_1)) := fun j qa qb => by rw [upd1_o (by omega)]; exact hzr j (by omega) qb
                        have hge1 : GE1 ((upd1 (w77_3) (x77_8) ((xc186_9 - 1)))) ((u0_1)) := GE1_upd (by assumption) (by omega)
                        suffices hl238 : ∀ (m : Nat), ∀ (ls : rO) (σ : rS) (F_238 : hF) (A_238 : hA) (x238_8 : Int) (x238_11 : Int) (x238_12 : Int), rlook ls 0 = some (.ref (D 0)) → rlook ls 6 = some (I ((x77_6 - tc219_0))) → rlook ls 7 = some (I (x91_7)) → rlook ls 8 = some (I (x238_8)) → rlook ls 11 = some (I (x238_11)) → rlook ls 12 = some (I (x238_12)) → HW V184_Br σ D N F_238 A_238 → OUT (V184_Br).length D N σE c s D N σ c s → SF [(0, 11)] F_c233 F_238 → SA [] A_c233 A_238 → ∀ y238_0_11 : Int, F_238 0 11 = y238_0_11 → (inr (x238_8)) → (inr (x238_11)) → (inr (x238_12)) → ((0) ≤ (x238_12)) → ((x238_12) ≤ (0) ∨ (x238_12) ≤ ((u0_1))) → (0 ≤ (x238_8) ∧ (x77_8) ≤ (x238_8) ∧ (x238_8) < ((u0_1))) → (ZRS ((upd1 (w77_3) (x77_8) ((xc186_9 - 1)))) ((x238_8) + 1) ((u0_1))) → (0 ≤ (x238_11) ∧ (x238_11) ≤ 3) → (8 * (a2) ≤ (y238_0_11) ∧ (y238_0_11) ≤ ((8 * a3))) → (((u0_1)) - (x238_12)).toNat = m → Ew 184 (d + 1) 238 ls [] σ c s Q from
                          hl238 _ _ _ _ _ (x77_8) (tc233_0) (0) (rk_o (rk_o (lc233_0) rfl rfl) rfl rfl) (rk_o (rk_o (lc233_6) rfl rfl) rfl rfl) (rk_o (rk_o (lc233_7) rfl rfl) rfl rfl) (rk_o (rk_o (lc233_8) rfl rfl) rfl rfl) (rk_o (rk_s) rfl rfl) (rk_s) H O (SF_refl) (SA_refl)   (yc186_0_11) ((((hS_c233 0 11 rfl).trans (hS_c219 0 11 rfl)).trans (eyc186_0_11)))  (show inr (x77_8) from j77_2) (show inr (tc233_0) from jc233_0) (show inr (0) from q_20) (show (0) ≤ (0) from q_25) (show (0) ≤ (0) ∨ (0) ≤ ((u0_1)) from q_24) (show 0 ≤ (x77_8) ∧ (x77_8) ≤ (x77_8) ∧ (x77_8) < ((u0_1)) from q_3215 b26 j77_3) (show ZRS ((upd1 (w77_3) (x77_8) ((xc186_9 - 1)))) ((x77_8) + 1) ((u0_1)) from hzn) (show 0 ≤ (tc233_0) ∧ (tc233_0) ≤ 3 from q_3214 jc233_1) (show 8 * (a2) ≤ (yc186_0_11) ∧ (yc186_0_11) ≤ ((8 * a3)) from jc186_2) rfl
                        as_aux_lemma =>
                        intro m
                        induction m using Nat.strongRecOn with
                        | _ m ih238 =>
                          intro ls σ F_238 A_238 x238_8 x238_11 x238_12 l238_0 l238_6 l238_7 l238_8 l238_11 l238_12 H O hS_238 hA_238   y238_0_11 ey238_0_11  j238_0 j238_1 j238_2 j238_3 j238_4 j238_5 j238_6 j238_7 j238_8 hm238
                          have cF_238 : SF oz_E6clsl_0 F F_238 := SF_trans (cF_c233) hS_238 (any_sub (by decide +kernel))
                          have mF_238 := SFm_of cF_238 oz_E6cls_3
                          have cA_238 : SA oz_E6clsl_1 A A_238 := SA_trans (cA_c233) hA_238 (any_subA (by decide +kernel))
                          have mA_238 := SAm_of cA_238 oz_E6cls_4
                          have r34 : (-2147483648 : Int) ≤ y238_0_11 ∧ y238_0_11 ≤ 2147483647 := rngE (show (-2147483648 : Int) ≤ F_238 0 11 ∧ F_238 0 11 ≤ 2147483647 from H.krg 0 11 (ltn len_V184_Br_oz_E6cls rfl)) (show F_238 0 11 = y238_0_11 from (ey238_0_11))
                          have hzs : ZRS ((upd1 (w77_3) (x77_8) ((xc186_9 - 1)))) ((x238_8) + 1) ((u0_1)) := j238_6
                          refine Ew_of (pcₚ := 240) (fun _ => x_iload rfl l238_12) ?_
                          refine Ew_of (pcₚ := 241) (fun _ => x_aload_n rfl l238_0) ?_
                          refine v_g H (o := 0) (v := I (u0_1)) rfl rfl rfl rfl rfl (congrArg (fun z : Int => I z) (((mF_238 0 1 rfl).trans (eu0_1)) : F_238 0 1 = u0_1)) ?_
                          refine w_icmpge (t := 289) rfl rfl (show inr (x238_12) from j238_2) (show inr (u0_1) from q_3206 h5) (fun b35 => ?_) (fun b35 => ?_)
                          · refine Ew_of (pcₚ := 292) (fun _ => x_iinc (len := 3) rfl (l238_8)) ?_
                            refine Ew_of (pcₚ := 77) (fun _ => x_goto rfl rfl) ?_
                            exact ih77 _ (msE hm77 (q_3219 j238_5) (q_34 b26)) _ _ _ _ ((x77_6 - tc219_0)) (x91_7) ((x238_8 + 1)) (rk_o (l238_0) rfl rfl) (rk_o (l238_6) rfl rfl) (rk_o (l238_7) rfl rfl) (rk_s) H O (SF_trans (SF_trans (SF_trans (SF_trans (SF_trans (SF_trans (SF_trans (hS_77) hS_91 (any_sub (by decide +kernel))) hS_c113 (any_sub (by decide +kernel))) (SF_gluc (ι := oz_E6clsl_2) oz_E6cls_5 hS28 eF28 (by decide +kernel)) (any_sub (lₚ := [(0, 11)]) (by decide +kernel))) hS_c186 (any_sub (by decide +kernel))) hS_c219 (any_sub (by decide +kernel))) hS_c233 (any_sub (by decide +kernel))) hS_238 (any_sub (by decide +kernel))) (SA_trans (SA_trans (SA_trans (SA_upd (SA_trans (SA_trans (SA_trans (SA_trans (hA_77) hA_91 (any_subA (by decide +kernel))) hA_c113 (any_subA (by decide +kernel))) (SA_gluc (ι := oz_E6clsl_2) oz_E6cls_5 hA28 eA28 (by decide +kernel)) (any_subA (lₚ := []) (by decide +kernel))) hA_c186 (any_subA (by decide +kernel))) rfl) hA_c219 (any_subA (by decide +kernel))) hA_c233 (any_subA (by decide +kernel))) hA_238 (any_subA (by decide +kernel)))   (y238_0_11) ((ey238_0_11)) (upd1 (w77_3) (x77_8) ((xc186_9 - 1))) ((funext (hA_238 3 rfl)).trans ((funext (hA_c233 3 rfl)).trans ((funext (hA_c219 3 rfl)).trans (congrArg (fun q => upd1 q (x77_8) ((xc186_9 - 1))) ((funext (hA_c186 3 rfl)).trans (((show A28 3 = A_c113 3 from (eA28 3))).trans ((funext (hA_c113 3 rfl)).trans ((funext (hA_91 3 rfl)).trans (ew77_3))))))))) (show inr ((x77_6 - tc219_0)) from q_3218 b27 b32 j77_5 jc219_0 jc219_1) (show inr (x91_7) from j91_0) (show inr ((x238_8 + 1)) from q_3217 h5 j238_5) (show 0 ≤ ((x238_8 + 1)) ∧ ((x238_8 + 1)) ≤ ((u0_1)) from q_3216 j238_5) (show mp ((upd1 (w77_3) (x77_8) ((xc186_9 - 1)))) ((u0_1)) = p2 (((z15 + 5))) - ((x77_6 - tc219_0)) by omega) (show 0 ≤ ((x77_6 - tc219_0)) ∧ ((x77_6 - tc219_0)) ≤ 512 by omega) (show 0 ≤ (x91_7) ∧ (x91_7) ≤ 9 ∧ ((x77_6 - tc219_0)) + 1 < 2 * p2 (x91_7) by omega) (show ZRS ((upd1 (w77_3) (x77_8) ((xc186_9 - 1)))) ((x238_8 + 1)) ((u0_1)) from hzs) (show GE1 ((upd1 (w77_3) (x77_8) ((xc186_9 - 1)))) ((u0_1)) from hge1) (show 8 * (a2) ≤ (y238_0_11) ∧ (y238_0_11) ≤ ((8 * a3)) from j238_8) rfl
                          · refine Ew_of (pcₚ := 249) (fun _ => x_iload rfl l238_11) ?_
                            refine Ew_of (pcₚ := 250) (fun _ => x_iconst rfl) ?_
                            refine w_icmpne (t := 289) rfl rfl (show inr (x238_11) from j238_1) (show inr (3) from q_66) (fun b36 => ?_) (fun b36 => ?_)
                            · refine Ew_of (pcₚ := 292) (fun _ => x_iinc (len := 3) rfl (l238_8)) ?_
                              refine Ew_of (pcₚ := 77) (fun _ => x_goto rfl rfl) ?_
                              exact ih77 _ (msE hm77 (q_3219 j238_5) (q_34 b26)) _ _ _ _ ((x77_6 - tc219_0)) (x91_7) ((x238_8 + 1)) (rk_o (l238_0) rfl rfl) (rk_o (l238_6) rfl rfl) (rk_o (l238_7) rfl rfl) (rk_s) H O (SF_trans (SF_trans (SF_trans (SF_trans (SF_trans (SF_trans (SF_trans (hS_77) hS_91 (any_sub (by decide +kernel))) hS_c113 (any_sub (by decide +kernel))) (SF_gluc (ι := oz_E6clsl_2) oz_E6cls_5 hS28 eF28 (by decide +kernel)) (any_sub (lₚ := [(0, 11)]) (by decide +kernel))) hS_c186 (any_sub (by decide +kernel))) hS_c219 (any_sub (by decide +kernel))) hS_c233 (any_sub (by decide +kernel))) hS_238 (any_sub (by decide +kernel))) (SA_trans (SA_trans (SA_trans (SA_upd (SA_trans (SA_trans (SA_trans (SA_trans (hA_77) hA_91 (any_subA (by decide +kernel))) hA_c113 (any_subA (by decide +kernel))) (SA_gluc (ι := oz_E6clsl_2) oz_E6cls_5 hA28 eA28 (by decide +kernel)) (any_subA (lₚ := []) (by decide +kernel))) hA_c186 (any_subA (by decide +kernel))) rfl) hA_c219 (any_subA (by decide +kernel))) hA_c233 (any_subA (by decide +kernel))) hA_238 (any_subA (by decide +kernel)))   (y238_0_11) ((ey238_0_11)) (upd1 (w77_3) (x77_8) ((xc186_9 - 1))) ((funext (hA_238 3 rfl)).trans ((funext (hA_c233 3 rfl)).trans ((funext (hA_c219 3 rfl)).trans (congrArg (fun q => upd1 q (x77_8) ((xc186_9 - 1))) ((funext (hA_c186 3 rfl)).trans (((show A28 3 = A_c113 3 from (eA28 3))).trans ((funext (hA_c113 3 rfl)).trans ((funext (hA_91 3 rfl)).trans (ew77_3))))))))) (show inr ((x77_6 - tc219_0)) from q_3218 b27 b32 j77_5 jc219_0 jc219_1) (show inr (x91_7) from j91_0) (show inr ((x238_8 + 1)) from q_3217 h5 j238_5) (show 0 ≤ ((x238_8 + 1)) ∧ ((x238_8 + 1)) ≤ ((u0_1)) from q_3216 j238_5) (show mp ((upd1 (w77_3) (x77_8) ((xc186_9 - 1)))) ((u0_1)) = p2 (((z15 + 5))) - ((x77_6 - tc219_0)) by omega) (show 0 ≤ ((x77_6 - tc219_0)) ∧ ((x77_6 - tc219_0)) ≤ 512 by omega) (show 0 ≤ (x91_7) ∧ (x91_7) ≤ 9 ∧ ((x77_6 - tc219_0)) + 1 < 2 * p2 (x91_7) by omega) (show ZRS ((upd1 (w77_3) (x77_8) ((xc186_9 - 1)))) ((x238_8 + 1)) ((u0_1)) from hzs) (show GE1 ((upd1 (w77_3) (x77_8) ((xc186_9 - 1)))) ((u0_1)) from hge1) (show 8 * (a2) ≤ (y238_0_11) ∧ (y238_0_11) ≤ ((8 * a3)) from j238_8) rfl
                            · refine Ew_of (pcₚ := 254) (fun _ => x_aload_n rfl l238_0) ?_
                              refine Ew_of (pcₚ := 255) (fun _ => x_iconst rfl) ?_
                              refine v_inv H (o := 0) rfl rfl rfl rfl rfl rfl (by rfl) (C183 (D := puc 512 D) (N := puc 512 N) (HW_subc H oz_E6cls_1 oz_E6cls_5) (((((((((((hS_238 0 10 rfl).trans (hS_c233 0 10 rfl)).trans (hS_c219 0 10 rfl)).trans (hS_c186 0 10 rfl)).trans ((show F28 0 10 = F_c113 0 10 from (eF28 0 10).trans (hS28 0 10 rfl)))).trans (hS_c113 0 10 rfl)).trans (hS_91 0 10 rfl)).trans (hS_77 0 10 rfl)).trans ((show F15 0 10 = (updF (updF (updF F 0 10 ((D 1 : Nat) : Int)) 0 11 ((8 * a2))) 0 12 ((8 * a3))) 0 10 from (eF15 0 10).trans (hS15 0 10 rfl))))).trans ((show (updF F 0 10 ((D 1 : Nat) : Int)) 0 10 = ((D 1 : Nat) : Int) from rfl))) (n1) (en1) (y238_0_11) ((ey238_0_11)) ((8 * a3)) ((((((((((hS_238 0 12 rfl).trans (hS_c233 0 12 rfl)).trans (hS_c219 0 12 rfl)).trans (hS_c186 0 12 rfl)).trans ((show F28 0 12 = F_c113 0 12 from (eF28 0 12).trans (hS28 0 12 rfl)))).trans (hS_c113 0 12 rfl)).trans (hS_91 0 12 rfl)).trans (hS_77 0 12 rfl)).trans ((show F15 0 12 = (updF (updF (updF F 0 10 ((D 1 : Nat) : Int)) 0 11 ((8 * a2))) 0 12 ((8 * a3))) 0 12 from (eF15 0 12).trans (hS15 0 12 rfl))))) (show inr (2) from q_55) (show 0 ≤ (y238_0_11) ∧ (y238_0_11) ≤ ((8 * a3)) ∧ ((8 * a3)) ≤ 8 * (n1) ∧ (n1) ≤ 65536 from q_3210 h3 j238_8) (show 0 ≤ (2) ∧ (2) ≤ 16 from q_1276) (fun z37 σ37 F37ₚ A37ₚ Hₚ Oₚ hS37 hA37 y37_0_11 ey37_0_11 pz37_0 pz37_1 => ⟨rfl, ?_⟩))
                              refine v_backc (c := c) (s := s) H oz_E6cls_1 oz_E6cls_5 Hₚ Oₚ (fun F37 A37 H Oₚ eF37 eA37 => ?_)
                              have O := OUT_trans O Oₚ
                              -- Share.takeBits
                              have cF37 : SF oz_E6clsl_0 F F37 := SF_trans (cF_238) (SF_gluc (ι := oz_E6clsl_2) oz_E6cls_5 hS37 eF37 (by decide +kernel)) (any_sub (lₚ := [(0, 11)]) (by decide +kernel))
                              have mF37 := SFm_of cF37 oz_E6cls_3
                              have cA37 : SA oz_E6clsl_1 A A37 := SA_trans (cA_238) (SA_gluc (ι := oz_E6clsl_2) oz_E6cls_5 hA37 eA37 (by decide +kernel)) (any_subA (lₚ := []) (by decide +kernel))
                              have mA37 := SAm_of cA37 oz_E6cls_4
                              have r38 : (-2147483648 : Int) ≤ y37_0_11 ∧ y37_0_11 ≤ 2147483647 := rngE (show (-2147483648 : Int) ≤ F37 0 11 ∧ F37 0 11 ≤ 2147483647 from H.krg 0 11 (ltn len_V184_Br_oz_E6cls rfl)) (show F37 0 11 = y37_0_11 from ((eF37 0 11).trans ey37_0_11))
                              refine Ew_of (pcₚ := 260) (fun _ => x_istore rfl) ?_
                              refine Ew_of (pcₚ := 262) (fun _ => x_iload rfl (rk_o (l238_8) rfl rfl)) ?_
                              refine Ew_of (pcₚ := 264) (fun _ => x_iload rfl rk_s) ?_
                              refine w_iadd rfl ?_
                              refine Ew_of (pcₚ := 267) (fun _ => x_istore rfl) ?_
                              refine Ew_of (pcₚ := 269) (fun _ => x_iload rfl (rk_o (rk_s) rfl rfl)) ?_
                              refine w_iflt (t := 281) rfl rfl (show inr (z37) from pz37_0) (fun b39 => ?_) (fun b39 => ?_)
                              · have hno : (-1 : Int) = -1 ∨ SL ((upd1 (w77_3) (x77_8) ((xc186_9 - 1)))) ((u0_1)) (((z15 + 5))) ((w4)) ((w5)) ((w6)) ((w2)) ((w8)) ((w9)) := .inl rfl
                                refine Ew_of (pcₚ := 282) (fun _ => x_iconst rfl) ?_
                                exact w_ireturn rfl (k ((-1)) _ _ _ H O (cF37) (cA37) ((z15 + 5)) (((((((((((show F37 0 0 = F_238 0 0 from (eF37 0 0).trans (hS37 0 0 rfl))).trans (hS_238 0 0 rfl)).trans (hS_c233 0 0 rfl)).trans (hS_c219 0 0 rfl)).trans (hS_c186 0 0 rfl)).trans ((show F28 0 0 = F_c113 0 0 from (eF28 0 0).trans (hS28 0 0 rfl)))).trans (hS_c113 0 0 rfl)).trans (hS_91 0 0 rfl)).trans (hS_77 0 0 rfl))) (w2) (((show A37 2 = A_238 2 from (eA37 2))).trans ((funext (hA_238 2 rfl)).trans ((funext (hA_c233 2 rfl)).trans ((funext (hA_c219 2 rfl)).trans ((funext (hA_c186 2 rfl)).trans (((show A28 2 = A_c113 2 from (eA28 2))).trans ((funext (hA_c113 2 rfl)).trans ((funext (hA_91 2 rfl)).trans ((funext (hA_77 2 rfl)).trans ((funext (hA20 2 rfl)).trans (((show A15 2 = A 2 from (eA15 2))).trans (ew2)))))))))))) (upd1 (w77_3) (x77_8) ((xc186_9 - 1))) (((show A37 3 = A_238 3 from (eA37 3))).trans ((funext (hA_238 3 rfl)).trans ((funext (hA_c233 3 rfl)).trans ((funext (hA_c219 3 rfl)).trans (congrArg (fun q => upd1 q (x77_8) ((xc186_9 - 1))) ((funext (hA_c186 3 rfl)).trans (((show A28 3 = A_c113 3 from (eA28 3))).trans ((funext (hA_c113 3 rfl)).trans ((funext (hA_91 3 rfl)).trans (ew77_3)))))))))) (w4) (((show A37 4 = A_238 4 from (eA37 4))).trans ((funext (hA_238 4 rfl)).trans ((funext (hA_c233 4 rfl)).trans ((funext (hA_c219 4 rfl)).trans ((funext (hA_c186 4 rfl)).trans (((show A28 4 = A_c113 4 from (eA28 4))).trans ((funext (hA_c113 4 rfl)).trans ((funext (hA_91 4 rfl)).trans ((funext (hA_77 4 rfl)).trans ((funext (hA20 4 rfl)).trans (((show A15 4 = A 4 from (eA15 4))).trans (ew4)))))))))))) (w5) (((show A37 5 = A_238 5 from (eA37 5))).trans ((funext (hA_238 5 rfl)).trans ((funext (hA_c233 5 rfl)).trans ((funext (hA_c219 5 rfl)).trans ((funext (hA_c186 5 rfl)).trans (((show A28 5 = A_c113 5 from (eA28 5))).trans ((funext (hA_c113 5 rfl)).trans ((funext (hA_91 5 rfl)).trans ((funext (hA_77 5 rfl)).trans ((funext (hA20 5 rfl)).trans (((show A15 5 = A 5 from (eA15 5))).trans (ew5)))))))))))) (w6) (((show A37 6 = A_238 6 from (eA37 6))).trans ((funext (hA_238 6 rfl)).trans ((funext (hA_c233 6 rfl)).trans ((funext (hA_c219 6 rfl)).trans ((funext (hA_c186 6 rfl)).trans (((show A28 6 = A_c113 6 from (eA28 6))).trans ((funext (hA_c113 6 rfl)).trans ((funext (hA_91 6 rfl)).trans ((funext (hA_77 6 rfl)).trans ((funext (hA20 6 rfl)).trans (((show A15 6 = A 6 from (eA15 6))).trans (ew6)))))))))))) (w8) (((show A37 8 = A_238 8 from (eA37 8))).trans ((funext (hA_238 8 rfl)).trans ((funext (hA_c233 8 rfl)).trans ((funext (hA_c219 8 rfl)).trans ((funext (hA_c186 8 rfl)).trans (((show A28 8 = A_c113 8 from (eA28 8))).trans ((funext (hA_c113 8 rfl)).trans ((funext (hA_91 8 rfl)).trans ((funext (hA_77 8 rfl)).trans ((funext (hA20 8 rfl)).trans (((show A15 8 = A 8 from (eA15 8))).trans (ew8)))))))))))) (w9) (((show A37 9 = A_238 9 from (eA37 9))).trans ((funext (hA_238 9 rfl)).trans ((funext (hA_c233 9 rfl)).trans ((funext (hA_c219 9 rfl)).trans ((funext (hA_c186 9 rfl)).trans (((show A28 9 = A_c113 9 from (eA28 9))).trans ((funext (hA_c113 9 rfl)).trans ((funext (hA_91 9 rfl)).trans ((funext (hA_77 9 rfl)).trans ((funext (hA20 9 rfl)).trans (((show A15 9 = A 9 from (eA15 9))).trans (ew9)))))))))))) (((((((((((((show F37 0 10 = F_238 0 10 from (eF37 0 10).trans (hS37 0 10 rfl))).trans (hS_238 0 10 rfl)).trans (hS_c233 0 10 rfl)).trans (hS_c219 0 10 rfl)).trans (hS_c186 0 10 rfl)).trans ((show F28 0 10 = F_c113 0 10 from (eF28 0 10).trans (hS28 0 10 rfl)))).trans (hS_c113 0 10 rfl)).trans (hS_91 0 10 rfl)).trans (hS_77 0 10 rfl)).trans ((show F15 0 10 = (updF (updF (updF F 0 10 ((D 1 : Nat) : Int)) 0 11 ((8 * a2))) 0 12 ((8 * a3))) 0 10 from (eF15 0 10).trans (hS15 0 10 rfl))))).trans ((show (updF F 0 10 ((D 1 : Nat) : Int)) 0 10 = ((D 1 : Nat) : Int) from rfl))) (show inr ((-1)) from q_16) (show ((-1)) = -1 ∨ a2 ≤ ((-1)) ∧ ((-1)) ≤ a3 by first | exact q_2789 | omega) (show ((-1)) = -1 ∧ ((z15 + 5)) = (u0_0) ∨ 5 ≤ ((z15 + 5)) ∧ ((z15 + 5)) ≤ a4 by first | exact q_3205 b18 hL5 | omega) (show ((-1)) = -1 ∨ SL ((upd1 (w77_3) (x77_8) ((xc186_9 - 1)))) ((u0_1)) (((z15 + 5))) ((w4)) ((w5)) ((w6)) ((w2)) ((w8)) ((w9)) by assumption))
                              · refine Ew_of (pcₚ := 274) (fun _ => x_iload rfl rk_s) ?_
                                refine Ew_of (pcₚ := 275) (fun _ => x_aload_n rfl (rk_o (rk_o (l238_0) rfl rfl) rfl rfl)) ?_
                                refine v_g H (o := 0) (v := I (u0_1)) rfl rfl rfl rfl rfl (congrArg (fun z : Int => I z) (((mF37 0 1 rfl).trans (eu0_1)) : F37 0 1 = u0_1)) ?_
                                refine w_icmplt (t := 283) rfl rfl (show inr ((x238_8 + z37)) from q_3220 b39 h5 hp22 j238_0 j238_5 pz37_1) (show inr (u0_1) from q_3206 h5) (fun b40 => ?_) (fun b40 => ?_)
                                · refine Ew_of (pcₚ := 286) (fun _ => x_iinc (len := 3) rfl (rk_o (rk_o (l238_12) rfl rfl) rfl rfl)) ?_
                                  refine Ew_of (pcₚ := 238) (fun _ => x_goto rfl rfl) ?_
                                  have hzw : ZRS ((upd1 (w77_3) (x77_8) ((xc186_9 - 1)))) (((x238_8 + z37)) + 1) ((u0_1)) := fun j qa qb => hzs j (by omega) qb
                                  exact ih238 _ (msE hm238 q_31 (q_34 b35)) _ _ _ _ ((x238_8 + z37)) (z37) ((x238_12 + 1)) (rk_o (rk_o (rk_o (l238_0) rfl rfl) rfl rfl) rfl rfl) (rk_o (rk_o (rk_o (l238_6) rfl rfl) rfl rfl) rfl rfl) (rk_o (rk_o (rk_o (l238_7) rfl rfl) rfl rfl) rfl rfl) (rk_o (rk_s) rfl rfl) (rk_o (rk_o (rk_s) rfl rfl) rfl rfl) (rk_s) H O (SF_trans (hS_238) (SF_gluc (ι := oz_E6clsl_2) oz_E6cls_5 hS37 eF37 (by decide +kernel)) (any_sub (lₚ := [(0, 11)]) (by decide +kernel))) (SA_trans (hA_238) (SA_gluc (ι := oz_E6clsl_2) oz_E6cls_5 hA37 eA37 (by decide +kernel)) (any_subA (lₚ := []) (by decide +kernel)))   (y37_0_11) (((eF37 0 11).trans ey37_0_11))  (show inr ((x238_8 + z37)) from q_3225 b39 b40 h5 j238_5) (show inr (z37) from pz37_0) (show inr ((x238_12 + 1)) from q_3224 b35 h5 j238_3) (show (0) ≤ ((x238_12 + 1)) from q_29 j238_3) (show ((x238_12 + 1)) ≤ (0) ∨ ((x238_12 + 1)) ≤ ((u0_1)) from q_33 b35) (show 0 ≤ ((x238_8 + z37)) ∧ (x77_8) ≤ ((x238_8 + z37)) ∧ ((x238_8 + z37)) < ((u0_1)) from q_3223 b39 b40 j238_5) (show ZRS ((upd1 (w77_3) (x77_8) ((xc186_9 - 1)))) (((x238_8 + z37)) + 1) ((u0_1)) from hzw) (show 0 ≤ (z37) ∧ (z37) ≤ 3 from q_3222 b39 hp22 pz37_1) (show 8 * (a2) ≤ (y37_0_11) ∧ (y37_0_11) ≤ ((8 * a3)) from q_3221 j238_8 pz37_1) rfl
                                · have hno : (-1 : Int) = -1 ∨ SL ((upd1 (w77_3) (x77_8) ((xc186_9 - 1)))) ((u0_1)) (((z15 + 5))) ((w4)) ((w5)) ((w6)) ((w2)) ((w8)) ((w9)) := .inl rfl
                                  refine Ew_of (pcₚ := 282) (fun _ => x_iconst rfl) ?_
                                  exact w_ireturn rfl (k ((-1)) _ _ _ H O (cF37) (cA37) ((z15 + 5)) (((((((((((show F37 0 0 = F_238 0 0 from (eF37 0 0).trans (hS37 0 0 rfl))).trans (hS_238 0 0 rfl)).trans (hS_c233 0 0 rfl)).trans (hS_c219 0 0 rfl)).trans (hS_c186 0 0 rfl)).trans ((show F28 0 0 = F_c113 0 0 from (eF28 0 0).trans (hS28 0 0 rfl)))).trans (hS_c113 0 0 rfl)).trans (hS_91 0 0 rfl)).trans (hS_77 0 0 rfl))) (w2) (((show A37 2 = A_238 2 from (eA37 2))).trans ((funext (hA_238 2 rfl)).trans ((funext (hA_c233 2 rfl)).trans ((funext (hA_c219 2 rfl)).trans ((funext (hA_c186 2 rfl)).trans (((show A28 2 = A_c113 2 from (eA28 2))).trans ((funext (hA_c113 2 rfl)).trans ((funext (hA_91 2 rfl)).trans ((funext (hA_77 2 rfl)).trans ((funext (hA20 2 rfl)).trans (((show A15 2 = A 2 from (eA15 2))).trans (ew2)))))))))))) (upd1 (w77_3) (x77_8) ((xc186_9 - 1))) (((show A37 3 = A_238 3 from (eA37 3))).trans ((funext (hA_238 3 rfl)).trans ((funext (hA_c233 3 rfl)).trans ((funext (hA_c219 3 rfl)).trans (congrArg (fun q => upd1 q (x77_8) ((xc186_9 - 1))) ((funext (hA_c186 3 rfl)).trans (((show A28 3 = A_c113 3 from (eA28 3))).trans ((funext (hA_c113 3 rfl)).trans ((funext (hA_91 3 rfl)).trans (ew77_3)))))))))) (w4) (((show A37 4 = A_238 4 from (eA37 4))).trans ((funext (hA_238 4 rfl)).trans ((funext (hA_c233 4 rfl)).trans ((funext (hA_c219 4 rfl)).trans ((funext (hA_c186 4 rfl)).trans (((show A28 4 = A_c113 4 from (eA28 4))).trans ((funext (hA_c113 4 rfl)).trans ((funext (hA_91 4 rfl)).trans ((funext (hA_77 4 rfl)).trans ((funext (hA20 4 rfl)).trans (((show A15 4 = A 4 from (eA15 4))).trans (ew4)))))))))))) (w5) (((show A37 5 = A_238 5 from (eA37 5))).trans ((funext (hA_238 5 rfl)).trans ((funext (hA_c233 5 rfl)).trans ((funext (hA_c219 5 rfl)).trans ((funext (hA_c186 5 rfl)).trans (((show A28 5 = A_c113 5 from (eA28 5))).trans ((funext (hA_c113 5 rfl)).trans ((funext (hA_91 5 rfl)).trans ((funext (hA_77 5 rfl)).trans ((funext (hA20 5 rfl)).trans (((show A15 5 = A 5 from (eA15 5))).trans (ew5)))))))))))) (w6) (((show A37 6 = A_238 6 from (eA37 6))).trans ((funext (hA_238 6 rfl)).trans ((funext (hA_c233 6 rfl)).trans ((funext (hA_c219 6 rfl)).trans ((funext (hA_c186 6 rfl)).trans (((show A28 6 = A_c113 6 from (eA28 6))).trans ((funext (hA_c113 6 rfl)).trans ((funext (hA_91 6 rfl)).trans ((funext (hA_77 6 rfl)).trans ((funext (hA20 6 rfl)).trans (((show A15 6 = A 6 from (eA15 6))).trans (ew6)))))))))))) (w8) (((show A37 8 = A_238 8 from (eA37 8))).trans ((funext (hA_238 8 rfl)).trans ((funext (hA_c233 8 rfl)).trans ((funext (hA_c219 8 rfl)).trans ((funext (hA_c186 8 rfl)).trans (((show A28 8 = A_c113 8 from (eA28 8))).trans ((funext (hA_c113 8 rfl)).trans ((funext (hA_91 8 rfl)).trans ((funext (hA_77 8 rfl)).trans ((funext (hA20 8 rfl)).trans (((show A15 8 = A 8 from (eA15 8))).trans (ew8)))))))))))) (w9) (((show A37 9 = A_238 9 from (eA37 9))).trans ((funext (hA_238 9 rfl)).trans ((funext (hA_c233 9 rfl)).trans ((funext (hA_c219 9 rfl)).trans ((funext (hA_c186 9 rfl)).trans (((show A28 9 = A_c113 9 from (eA28 9))).trans ((funext (hA_c113 9 rfl)).trans ((funext (hA_91 9 rfl)).trans ((funext (hA_77 9 rfl)).trans ((funext (hA20 9 rfl)).trans (((show A15 9 = A 9 from (eA15 9))).trans (ew9)))))))))))) (((((((((((((show F37 0 10 = F_238 0 10 from (eF37 0 10).trans (hS37 0 10 rfl))).trans (hS_238 0 10 rfl)).trans (hS_c233 0 10 rfl)).trans (hS_c219 0 10 rfl)).trans (hS_c186 0 10 rfl)).trans ((show F28 0 10 = F_c113 0 10 from (eF28 0 10).trans (hS28 0 10 rfl)))).trans (hS_c113 0 10 rfl)).trans (hS_91 0 10 rfl)).trans (hS_77 0 10 rfl)).trans ((show F15 0 10 = (updF (updF (updF F 0 10 ((D 1 : Nat) : Int)) 0 11 ((8 * a2))) 0 12 ((8 * a3))) 0 10 from (eF15 0 10).trans (hS15 0 10 rfl))))).trans ((show (updF F 0 10 ((D 1 : Nat) : Int)) 0 10 = ((D 1 : Nat) : Int) from rfl))) (show inr ((-1)) from q_16) (show ((-1)) = -1 ∨ a2 ≤ ((-1)) ∧ ((-1)) ≤ a3 by first | exact q_2789 | omega) (show ((-1)) = -1 ∧ ((z15 + 5)) = (u0_0) ∨ 5 ≤ ((z15 + 5)) ∧ ((z15 + 5)) ≤ a4 by first | exact q_3205 b18 hL5 | omega) (show ((-1)) = -1 ∨ SL ((upd1 (w77_3) (x77_8) ((xc186_9 - 1)))) ((u0_1)) (((z15 + 5))) ((w4)) ((w5)) ((w6)) ((w2)) ((w8)) ((w9)) by assumption))
                      refine w_icmpne (t := 232) rfl rfl (show inr (xc186_9) from jc186_0) (show inr (1) from q_23) (fun b41 => ?_) (fun b41 => ?_)
                      · refine Ew_of (pcₚ := 233) (fun _ => x_iconst rfl) ?_
                        exact hc233 (0) _ _ _ _  (rk_o (lc219_0) rfl rfl) (rk_s) (rk_o (lc219_7) rfl rfl) (rk_o (lc219_8) rfl rfl) H O (SF_refl) (SA_refl)     (show inr (0) from q_20) (show ((xc186_9) ≠ (1) ∧ (0) = (0)) ∨ ((xc186_9) = (1) ∧ (0) = (3)) from q_3226 b41)
                      · refine Ew_of (pcₚ := 229) (fun _ => x_iconst rfl) ?_
                        refine Ew_of (pcₚ := 233) (fun _ => x_goto rfl rfl) ?_
                        exact hc233 (3) _ _ _ _  (rk_o (lc219_0) rfl rfl) (rk_s) (rk_o (lc219_7) rfl rfl) (rk_o (lc219_8) rfl rfl) H O (SF_refl) (SA_refl)     (show inr (3) from q_66) (show ((xc186_9) ≠ (1) ∧ (3) = (0)) ∨ ((xc186_9) = (1) ∧ (3) = (3)) from q_3227 b41)
                    refine w_ifne (t := 215) rfl rfl (show inr (xc186_9) from jc186_0) (fun b42 => ?_) (fun b42 => ?_)
                    · refine Ew_of (pcₚ := 217) (fun _ => x_iload rfl lc186_9) ?_
                      refine Ew_of (pcₚ := 218) (fun _ => x_iconst rfl) ?_
                      refine w_isub rfl ?_
                      exact hc219 ((xc186_9 - 1)) _ _ _ _  (lc186_0) (lc186_7) (lc186_8) (lc186_9) H O (SF_refl) (SA_refl)     (show inr ((xc186_9 - 1)) from q_3212 b32 jc186_0) (show ((xc186_9) ≠ (0) ∧ ((xc186_9 - 1)) = ((xc186_9 - 1))) ∨ ((xc186_9) = (0) ∧ ((xc186_9 - 1)) = (1)) from q_1011 b42)
                    · refine Ew_of (pcₚ := 212) (fun _ => x_iconst rfl) ?_
                      refine Ew_of (pcₚ := 219) (fun _ => x_goto rfl rfl) ?_
                      exact hc219 (1) _ _ _ _  (lc186_0) (lc186_7) (lc186_8) (lc186_9) H O (SF_refl) (SA_refl)     (show inr (1) from q_23) (show ((xc186_9) ≠ (0) ∧ (1) = ((xc186_9 - 1))) ∨ ((xc186_9) = (0) ∧ (1) = (1)) from q_1013 b42)
                  · have hno : (-1 : Int) = -1 ∨ SL ((w77_3)) ((u0_1)) (((z15 + 5))) ((w4)) ((w5)) ((w6)) ((w2)) ((w8)) ((w9)) := .inl rfl
                    refine Ew_of (pcₚ := 192) (fun _ => x_iconst rfl) ?_
                    exact w_ireturn rfl (k ((-1)) _ _ _ H O (cF_c186) (cA_c186) ((z15 + 5)) ((((((hS_c186 0 0 rfl).trans ((show F28 0 0 = F_c113 0 0 from (eF28 0 0).trans (hS28 0 0 rfl)))).trans (hS_c113 0 0 rfl)).trans (hS_91 0 0 rfl)).trans (hS_77 0 0 rfl))) (w2) ((funext (hA_c186 2 rfl)).trans (((show A28 2 = A_c113 2 from (eA28 2))).trans ((funext (hA_c113 2 rfl)).trans ((funext (hA_91 2 rfl)).trans ((funext (hA_77 2 rfl)).trans ((funext (hA20 2 rfl)).trans (((show A15 2 = A 2 from (eA15 2))).trans (ew2)))))))) (w77_3) ((funext (hA_c186 3 rfl)).trans (((show A28 3 = A_c113 3 from (eA28 3))).trans ((funext (hA_c113 3 rfl)).trans ((funext (hA_91 3 rfl)).trans (ew77_3))))) (w4) ((funext (hA_c186 4 rfl)).trans (((show A28 4 = A_c113 4 from (eA28 4))).trans ((funext (hA_c113 4 rfl)).trans ((funext (hA_91 4 rfl)).trans ((funext (hA_77 4 rfl)).trans ((funext (hA20 4 rfl)).trans (((show A15 4 = A 4 from (eA15 4))).trans (ew4)))))))) (w5) ((funext (hA_c186 5 rfl)).trans (((show A28 5 = A_c113 5 from (eA28 5))).trans ((funext (hA_c113 5 rfl)).trans ((funext (hA_91 5 rfl)).trans ((funext (hA_77 5 rfl)).trans ((funext (hA20 5 rfl)).trans (((show A15 5 = A 5 from (eA15 5))).trans (ew5)))))))) (w6) ((funext (hA_c186 6 rfl)).trans (((show A28 6 = A_c113 6 from (eA28 6))).trans ((funext (hA_c113 6 rfl)).trans ((funext (hA_91 6 rfl)).trans ((funext (hA_77 6 rfl)).trans ((funext (hA20 6 rfl)).trans (((show A15 6 = A 6 from (eA15 6))).trans (ew6)))))))) (w8) ((funext (hA_c186 8 rfl)).trans (((show A28 8 = A_c113 8 from (eA28 8))).trans ((funext (hA_c113 8 rfl)).trans ((funext (hA_91 8 rfl)).trans ((funext (hA_77 8 rfl)).trans ((funext (hA20 8 rfl)).trans (((show A15 8 = A 8 from (eA15 8))).trans (ew8)))))))) (w9) ((funext (hA_c186 9 rfl)).trans (((show A28 9 = A_c113 9 from (eA28 9))).trans ((funext (hA_c113 9 rfl)).trans ((funext (hA_91 9 rfl)).trans ((funext (hA_77 9 rfl)).trans ((funext (hA20 9 rfl)).trans (((show A15 9 = A 9 from (eA15 9))).trans (ew9)))))))) ((((((((hS_c186 0 10 rfl).trans ((show F28 0 10 = F_c113 0 10 from (eF28 0 10).trans (hS28 0 10 rfl)))).trans (hS_c113 0 10 rfl)).trans (hS_91 0 10 rfl)).trans (hS_77 0 10 rfl)).trans ((show F15 0 10 = (updF (updF (updF F 0 10 ((D 1 : Nat) : Int)) 0 11 ((8 * a2))) 0 12 ((8 * a3))) 0 10 from (eF15 0 10).trans (hS15 0 10 rfl))))).trans ((show (updF F 0 10 ((D 1 : Nat) : Int)) 0 10 = ((D 1 : Nat) : Int) from rfl))) (show inr ((-1)) from q_16) (show ((-1)) = -1 ∨ a2 ≤ ((-1)) ∧ ((-1)) ≤ a3 by first | exact q_2789 | omega) (show ((-1)) = -1 ∧ ((z15 + 5)) = (u0_0) ∨ 5 ≤ ((z15 + 5)) ∧ ((z15 + 5)) ≤ a4 by first | exact q_3205 b18 hL5 | omega) (show ((-1)) = -1 ∨ SL ((w77_3)) ((u0_1)) (((z15 + 5))) ((w4)) ((w5)) ((w6)) ((w2)) ((w8)) ((w9)) by assumption))
                refine Ew_of (pcₚ := 134) (fun _ => x_iload rfl (rk_o (rk_s) rfl rfl)) ?_
                refine Ew_of (pcₚ := 136) (fun _ => x_iload rfl rk_s) ?_
                refine w_icmplt (t := 186) rfl rfl (show inr (z28) from pz28_0) (show inr ((((2 * p2 (x91_7)) - 2) - x77_6)) from q_3228 hlo j77_5 j91_1) (fun b43 => ?_) (fun b43 => ?_)
                · exact hc186  _ _ _ _ (z28) (rk_o (rk_o (lc113_0) rfl rfl) rfl rfl) (rk_o (rk_o (lc113_6) rfl rfl) rfl rfl) (rk_o (rk_o (lc113_7) rfl rfl) rfl rfl) (rk_o (rk_o (lc113_8) rfl rfl) rfl rfl) (rk_o (rk_s) rfl rfl) H O (SF_refl) (SA_refl)   (y28_0_11) (((eF28 0 11).trans ey28_0_11))  (show inr (z28) from pz28_0) (show -1 ≤ (z28) ∧ (z28) ≤ (x77_6) + 1 from q_3230 b43 hlo pz28_1) (show 8 * (a2) ≤ (y28_0_11) ∧ (y28_0_11) ≤ ((8 * a3)) from q_3229 j77_9 j91_1 pz28_1)
                · refine Ew_of (pcₚ := 140) (fun _ => x_aload_n rfl (rk_o (rk_o (lc113_0) rfl rfl) rfl rfl)) ?_
                  refine Ew_of (pcₚ := 141) (fun _ => x_iconst rfl) ?_
                  refine v_inv H (o := 0) rfl rfl rfl rfl rfl rfl (by rfl) (C183 (D := puc 512 D) (N := puc 512 N) (HW_subc H oz_E6cls_1 oz_E6cls_5) ((((((((show F28 0 10 = F_c113 0 10 from (eF28 0 10).trans (hS28 0 10 rfl))).trans (hS_c113 0 10 rfl)).trans (hS_91 0 10 rfl)).trans (hS_77 0 10 rfl)).trans ((show F15 0 10 = (updF (updF (updF F 0 10 ((D 1 : Nat) : Int)) 0 11 ((8 * a2))) 0 12 ((8 * a3))) 0 10 from (eF15 0 10).trans (hS15 0 10 rfl))))).trans ((show (updF F 0 10 ((D 1 : Nat) : Int)) 0 10 = ((D 1 : Nat) : Int) from rfl))) (n1) (en1) (y28_0_11) (((eF28 0 11).trans ey28_0_11)) ((8 * a3)) (((((((show F28 0 12 = F_c113 0 12 from (eF28 0 12).trans (hS28 0 12 rfl))).trans (hS_c113 0 12 rfl)).trans (hS_91 0 12 rfl)).trans (hS_77 0 12 rfl)).trans ((show F15 0 12 = (updF (updF (updF F 0 10 ((D 1 : Nat) : Int)) 0 11 ((8 * a2))) 0 12 ((8 * a3))) 0 12 from (eF15 0 12).trans (hS15 0 12 rfl))))) (show inr (1) from q_23) (show 0 ≤ (y28_0_11) ∧ (y28_0_11) ≤ ((8 * a3)) ∧ ((8 * a3)) ≤ 8 * (n1) ∧ (n1) ≤ 65536 from q_3231 h3 j77_9 j91_1 pz28_1) (show 0 ≤ (1) ∧ (1) ≤ 16 from q_1277) (fun z44 σ44 F44ₚ A44ₚ Hₚ Oₚ hS44 hA44 y44_0_11 ey44_0_11 pz44_0 pz44_1 => ⟨rfl, ?_⟩))
                  refine v_backc (c := c) (s := s) H oz_E6cls_1 oz_E6cls_5 Hₚ Oₚ (fun F44 A44 H Oₚ eF44 eA44 => ?_)
                  have O := OUT_trans O Oₚ
                  -- Share.takeBits
                  have cF44 : SF oz_E6clsl_0 F F44 := SF_trans (cF28) (SF_gluc (ι := oz_E6clsl_2) oz_E6cls_5 hS44 eF44 (by decide +kernel)) (any_sub (lₚ := [(0, 11)]) (by decide +kernel))
                  have mF44 := SFm_of cF44 oz_E6cls_3
                  have cA44 : SA oz_E6clsl_1 A A44 := SA_trans (cA28) (SA_gluc (ι := oz_E6clsl_2) oz_E6cls_5 hA44 eA44 (by decide +kernel)) (any_subA (lₚ := []) (by decide +kernel))
                  have mA44 := SAm_of cA44 oz_E6cls_4
                  have r45 : (-2147483648 : Int) ≤ y44_0_11 ∧ y44_0_11 ≤ 2147483647 := rngE (show (-2147483648 : Int) ≤ F44 0 11 ∧ F44 0 11 ≤ 2147483647 from H.krg 0 11 (ltn len_V184_Br_oz_E6cls rfl)) (show F44 0 11 = y44_0_11 from ((eF44 0 11).trans ey44_0_11))
                  refine Ew_of (pcₚ := 146) (fun _ => x_istore rfl) ?_
                  refine Ew_of (pcₚ := 148) (fun _ => x_iload rfl rk_s) ?_
                  refine w_ifge (t := 155) rfl rfl (show inr (z44) from pz44_0) (fun b46 => ?_) (fun b46 => ?_)
                  · refine Ew_of (pcₚ := 157) (fun _ => x_iload rfl (rk_o (rk_o (rk_s) rfl rfl) rfl rfl)) ?_
                    refine Ew_of (pcₚ := 159) (fun _ => x_iload rfl rk_s) ?_
                    refine Ew_of (pcₚ := 161) (fun _ => x_iload rfl (rk_o (rk_o (rk_o (lc113_7) rfl rfl) rfl rfl) rfl rfl)) ?_
                    have hbt : ((z44) : Int) = 0 ∨ ((z44) : Int) = 1 := by omega
                    have hml : ((z44) : Int) * p2 ((x91_7)) = 0 ∨ ((z44) : Int) * p2 ((x91_7)) = p2 ((x91_7)) := by rcases hbt with q | q <;> rw [q] <;> omega
                    refine w_ishlT rfl (show 0 ≤ x91_7 ∧ x91_7 ≤ 31 from q_3211 j91_1) ?_
                    refine w_iorN rfl (show inr (z28) from pz28_0) (show inr ((z44 * p2 (x91_7))) from q_3232 hlo hml j77_5 j91_1) (fun z48 gz48 dz48 => ?_)
                    refine Ew_of (pcₚ := 165) (fun _ => x_istore rfl) ?_
                    refine Ew_of (pcₚ := 167) (fun _ => x_iload rfl rk_s) ?_
                    refine Ew_of (pcₚ := 168) (fun _ => x_iconst rfl) ?_
                    refine Ew_of (pcₚ := 170) (fun _ => x_iload rfl (rk_o (rk_o (rk_o (rk_o (lc113_7) rfl rfl) rfl rfl) rfl rfl) rfl rfl)) ?_
                    refine w_ishl1 rfl (show 0 ≤ x91_7 ∧ x91_7 ≤ 31 from q_3211 j91_1) ?_
                    refine w_icmplt (t := 182) rfl rfl (show inr (z48) by omega) (show inr (p2 (x91_7)) from q_3233 hlo j77_5 j91_1) (fun b50 => ?_) (fun b50 => ?_)
                    · refine Ew_of (pcₚ := 184) (fun _ => x_iload rfl rk_s) ?_
                      refine Ew_of (pcₚ := 186) (fun _ => x_istore rfl) ?_
                      exact hc186  _ _ _ _ (z48) (rk_o (rk_o (rk_o (rk_o (rk_o (lc113_0) rfl rfl) rfl rfl) rfl rfl) rfl rfl) rfl rfl) (rk_o (rk_o (rk_o (rk_o (rk_o (lc113_6) rfl rfl) rfl rfl) rfl rfl) rfl rfl) rfl rfl) (rk_o (rk_o (rk_o (rk_o (rk_o (lc113_7) rfl rfl) rfl rfl) rfl rfl) rfl rfl) rfl rfl) (rk_o (rk_o (rk_o (rk_o (rk_o (lc113_8) rfl rfl) rfl rfl) rfl rfl) rfl rfl) rfl rfl) (rk_s) H O (SF_trans (SF_refl) (SF_gluc (ι := oz_E6clsl_2) oz_E6cls_5 hS44 eF44 (by decide +kernel)) (any_sub (lₚ := [(0, 11)]) (by decide +kernel))) (SA_trans (SA_refl) (SA_gluc (ι := oz_E6clsl_2) oz_E6cls_5 hA44 eA44 (by decide +kernel)) (any_subA (lₚ := []) (by decide +kernel)))   (y44_0_11) (((eF44 0 11).trans ey44_0_11))  (show inr (z48) by omega) (show -1 ≤ (z48) ∧ (z48) ≤ (x77_6) + 1 by omega) (show 8 * (a2) ≤ (y44_0_11) ∧ (y44_0_11) ≤ ((8 * a3)) from q_3234 h3 hbt j77_9 j91_1 pz28_1 pz44_1 r45)
                    · refine Ew_of (pcₚ := 176) (fun _ => x_iload rfl rk_s) ?_
                      refine Ew_of (pcₚ := 178) (fun _ => x_iload rfl (rk_o (rk_o (rk_s) rfl rfl) rfl rfl)) ?_
                      refine w_isub rfl ?_
                      refine Ew_of (pcₚ := 184) (fun _ => x_goto rfl rfl) ?_
                      refine Ew_of (pcₚ := 186) (fun _ => x_istore rfl) ?_
                      exact hc186  _ _ _ _ ((z48 - (((2 * p2 (x91_7)) - 2) - x77_6))) (rk_o (rk_o (rk_o (rk_o (rk_o (lc113_0) rfl rfl) rfl rfl) rfl rfl) rfl rfl) rfl rfl) (rk_o (rk_o (rk_o (rk_o (rk_o (lc113_6) rfl rfl) rfl rfl) rfl rfl) rfl rfl) rfl rfl) (rk_o (rk_o (rk_o (rk_o (rk_o (lc113_7) rfl rfl) rfl rfl) rfl rfl) rfl rfl) rfl rfl) (rk_o (rk_o (rk_o (rk_o (rk_o (lc113_8) rfl rfl) rfl rfl) rfl rfl) rfl rfl) rfl rfl) (rk_s) H O (SF_trans (SF_refl) (SF_gluc (ι := oz_E6clsl_2) oz_E6cls_5 hS44 eF44 (by decide +kernel)) (any_sub (lₚ := [(0, 11)]) (by decide +kernel))) (SA_trans (SA_refl) (SA_gluc (ι := oz_E6clsl_2) oz_E6cls_5 hA44 eA44 (by decide +kernel)) (any_subA (lₚ := []) (by decide +kernel)))   (y44_0_11) (((eF44 0 11).trans ey44_0_11))  (show inr ((z48 - (((2 * p2 (x91_7)) - 2) - x77_6))) by omega) (show -1 ≤ ((z48 - (((2 * p2 (x91_7)) - 2) - x77_6))) ∧ ((z48 - (((2 * p2 (x91_7)) - 2) - x77_6))) ≤ (x77_6) + 1 by omega) (show 8 * (a2) ≤ (y44_0_11) ∧ (y44_0_11) ≤ ((8 * a3)) from q_3234 h3 hbt j77_9 j91_1 pz28_1 pz44_1 r45)
                  · refine Ew_of (pcₚ := 152) (fun _ => x_iconst rfl) ?_
                    refine Ew_of (pcₚ := 163) (fun _ => x_goto rfl rfl) ?_
                    refine Ew_of (pcₚ := 165) (fun _ => x_istore rfl) ?_
                    refine Ew_of (pcₚ := 167) (fun _ => x_iload rfl rk_s) ?_
                    refine Ew_of (pcₚ := 168) (fun _ => x_iconst rfl) ?_
                    refine Ew_of (pcₚ := 170) (fun _ => x_iload rfl (rk_o (rk_o (rk_o (rk_o (lc113_7) rfl rfl) rfl rfl) rfl rfl) rfl rfl)) ?_
                    refine w_ishl1 rfl (show 0 ≤ x91_7 ∧ x91_7 ≤ 31 from q_3211 j91_1) ?_
                    refine w_icmplt (t := 182) rfl rfl (show inr ((-1)) from q_16) (show inr (p2 (x91_7)) from q_3233 hlo j77_5 j91_1) (fun b52 => ?_) (fun b52 => ?_)
                    · refine Ew_of (pcₚ := 184) (fun _ => x_iload rfl rk_s) ?_
                      refine Ew_of (pcₚ := 186) (fun _ => x_istore rfl) ?_
                      exact hc186  _ _ _ _ ((-1)) (rk_o (rk_o (rk_o (rk_o (rk_o (lc113_0) rfl rfl) rfl rfl) rfl rfl) rfl rfl) rfl rfl) (rk_o (rk_o (rk_o (rk_o (rk_o (lc113_6) rfl rfl) rfl rfl) rfl rfl) rfl rfl) rfl rfl) (rk_o (rk_o (rk_o (rk_o (rk_o (lc113_7) rfl rfl) rfl rfl) rfl rfl) rfl rfl) rfl rfl) (rk_o (rk_o (rk_o (rk_o (rk_o (lc113_8) rfl rfl) rfl rfl) rfl rfl) rfl rfl) rfl rfl) (rk_s) H O (SF_trans (SF_refl) (SF_gluc (ι := oz_E6clsl_2) oz_E6cls_5 hS44 eF44 (by decide +kernel)) (any_sub (lₚ := [(0, 11)]) (by decide +kernel))) (SA_trans (SA_refl) (SA_gluc (ι := oz_E6clsl_2) oz_E6cls_5 hA44 eA44 (by decide +kernel)) (any_subA (lₚ := []) (by decide +kernel)))   (y44_0_11) (((eF44 0 11).trans ey44_0_11))  (show inr ((-1)) from q_16) (show -1 ≤ ((-1)) ∧ ((-1)) ≤ (x77_6) + 1 from q_3236 b27) (show 8 * (a2) ≤ (y44_0_11) ∧ (y44_0_11) ≤ ((8 * a3)) from q_3235 b46 h3 j77_9 j91_1 pz28_1 pz44_1 r29)
                    · refine Ew_of (pcₚ := 176) (fun _ => x_iload rfl rk_s) ?_
                      refine Ew_of (pcₚ := 178) (fun _ => x_iload rfl (rk_o (rk_o (rk_s) rfl rfl) rfl rfl)) ?_
                      refine w_isub rfl ?_
                      refine Ew_of (pcₚ := 184) (fun _ => x_goto rfl rfl) ?_
                      refine Ew_of (pcₚ := 186) (fun _ => x_istore rfl) ?_
                      exact hc186  _ _ _ _ (((-1) - (((2 * p2 (x91_7)) - 2) - x77_6))) (rk_o (rk_o (rk_o (rk_o (rk_o (lc113_0) rfl rfl) rfl rfl) rfl rfl) rfl rfl) rfl rfl) (rk_o (rk_o (rk_o (rk_o (rk_o (lc113_6) rfl rfl) rfl rfl) rfl rfl) rfl rfl) rfl rfl) (rk_o (rk_o (rk_o (rk_o (rk_o (lc113_7) rfl rfl) rfl rfl) rfl rfl) rfl rfl) rfl rfl) (rk_o (rk_o (rk_o (rk_o (rk_o (lc113_8) rfl rfl) rfl rfl) rfl rfl) rfl rfl) rfl rfl) (rk_s) H O (SF_trans (SF_refl) (SF_gluc (ι := oz_E6clsl_2) oz_E6cls_5 hS44 eF44 (by decide +kernel)) (any_sub (lₚ := [(0, 11)]) (by decide +kernel))) (SA_trans (SA_refl) (SA_gluc (ι := oz_E6clsl_2) oz_E6cls_5 hA44 eA44 (by decide +kernel)) (any_subA (lₚ := []) (by decide +kernel)))   (y44_0_11) (((eF44 0 11).trans ey44_0_11))  (show inr (((-1) - (((2 * p2 (x91_7)) - 2) - x77_6))) from q_3238 b52 hlo j91_1) (show -1 ≤ (((-1) - (((2 * p2 (x91_7)) - 2) - x77_6))) ∧ (((-1) - (((2 * p2 (x91_7)) - 2) - x77_6))) ≤ (x77_6) + 1 from q_3237 b52 hlo j91_1) (show 8 * (a2) ≤ (y44_0_11) ∧ (y44_0_11) ≤ ((8 * a3)) from q_3235 b46 h3 j77_9 j91_1 pz28_1 pz44_1 r29)
              refine w_ifle (t := 113) rfl rfl (show inr (x91_7) from j91_0) (fun b53 => ?_) (fun b53 => ?_)
              · exact hc113  _ _ _ _  (l91_0) (l91_6) (l91_7) (l91_8) H O (SF_refl) (SA_refl)     (show ((x91_7) ≤ (0)) ∨ ((x91_7) > (0) ∧ ((x77_6 + 1)) ≥ (p2 (x91_7))) from q_3239 b53)
              · have hp9b := p2_le9 (o := (x91_7)) (by omega)
                have hppb := p2_pos ((x91_7))
                refine Ew_of (pcₚ := 98) (fun _ => x_iload rfl l91_6) ?_
                refine Ew_of (pcₚ := 99) (fun _ => x_iconst rfl) ?_
                refine w_iadd rfl ?_
                refine Ew_of (pcₚ := 101) (fun _ => x_iconst rfl) ?_
                refine Ew_of (pcₚ := 103) (fun _ => x_iload rfl l91_7) ?_
                refine w_ishl1 rfl (show 0 ≤ x91_7 ∧ x91_7 ≤ 31 from q_3211 j91_1) ?_
                refine w_icmpge (t := 113) rfl rfl (show inr ((x77_6 + 1)) from q_984 b27 j77_5) (show inr (p2 (x91_7)) by omega) (fun b55 => ?_) (fun b55 => ?_)
                · exact hc113  _ _ _ _  (l91_0) (l91_6) (l91_7) (l91_8) H O (SF_refl) (SA_refl)     (show ((x91_7) ≤ (0)) ∨ ((x91_7) > (0) ∧ ((x77_6 + 1)) ≥ (p2 (x91_7))) from q_3240 b53 b55)
                · have hps := p2_s (y := (x91_7) + (-1)) (by omega)
                  rw [show (x91_7) + (-1) + 1 = (x91_7) by omega] at hps
                  refine Ew_of (pcₚ := 110) (fun _ => x_iinc (len := 3) rfl (l91_7)) ?_
                  refine Ew_of (pcₚ := 91) (fun _ => x_goto rfl rfl) ?_
                  exact ih91 _ (msE hm91 q_702 (q_692 b53)) _ _ _ _ ((x91_7 + (-1))) (rk_o (l91_0) rfl rfl) (rk_o (l91_6) rfl rfl) (rk_s) (rk_o (l91_8) rfl rfl) H O (hS_91) (hA_91)     (show inr ((x91_7 + (-1))) from q_3241 b53 j91_1) (show 0 ≤ ((x91_7 + (-1))) ∧ ((x91_7 + (-1))) ≤ 9 ∧ (x77_6) + 1 < 2 * p2 ((x91_7 + (-1))) by omega) rfl
    · have hno : (-1 : Int) = -1 ∨ SL ((w3)) ((u0_1)) ((u0_0)) ((w4)) ((w5)) ((w6)) ((w2)) ((w8)) ((w9)) := .inl rfl
      refine Ew_of (pcₚ := 43) (fun _ => x_iconst rfl) ?_
      exact w_ireturn rfl (k ((-1)) _ _ _ H O (cF15) (cA15) (u0_0) ((((show F15 0 0 = (updF (updF (updF F 0 10 ((D 1 : Nat) : Int)) 0 11 ((8 * a2))) 0 12 ((8 * a3))) 0 0 from (eF15 0 0).trans (hS15 0 0 rfl))).trans (eu0_0))) (w2) (((show A15 2 = A 2 from (eA15 2))).trans (ew2)) (w3) (((show A15 3 = A 3 from (eA15 3))).trans (ew3)) (w4) (((show A15 4 = A 4 from (eA15 4))).trans (ew4)) (w5) (((show A15 5 = A 5 from (eA15 5))).trans (ew5)) (w6) (((show A15 6 = A 6 from (eA15 6))).trans (ew6)) (w8) (((show A15 8 = A 8 from (eA15 8))).trans (ew8)) (w9) (((show A15 9 = A 9 from (eA15 9))).trans (ew9)) ((((show F15 0 10 = (updF (updF (updF F 0 10 ((D 1 : Nat) : Int)) 0 11 ((8 * a2))) 0 12 ((8 * a3))) 0 10 from (eF15 0 10).trans (hS15 0 10 rfl)))).trans ((show (updF F 0 10 ((D 1 : Nat) : Int)) 0 10 = ((D 1 : Nat) : Int) from rfl))) (show inr ((-1)) from q_16) (show ((-1)) = -1 ∨ a2 ≤ ((-1)) ∧ ((-1)) ≤ a3 by first | exact q_2789 | omega) (show ((-1)) = -1 ∧ (u0_0) = (u0_0) ∨ 5 ≤ (u0_0) ∧ (u0_0) ≤ a4 by first | exact q_3193 | omega) (show ((-1)) = -1 ∨ SL ((w3)) ((u0_1)) ((u0_0)) ((w4)) ((w5)) ((w6)) ((w2)) ((w8)) ((w9)) by assumption))
