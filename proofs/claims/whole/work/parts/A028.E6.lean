section
/-! E6.cls -/
abbrev V184_Br : vV := [(0, 8, [(0, 0), (0, 0), (4, 0), (4, 0), (4, 0), (4, 0), (4, 0), (4, 0), (4, 0), (4, 0), (4, 0), (0, 0), (0, 0)]), (1, 0, []), (1, 1, []), (1, 1, []), (1, 1, []), (1, 1, []), (1, 1, []), (1, 1, []), (1, 1, []), (1, 1, [])]
theorem len_V184_Br_oz_E6cls : (V184_Br).length = 10 := by decide +kernel
theorem oz_E6cls_1 : vsub V184_Br V183 [0, 1] = true := by decide +kernel
theorem oz_E6cls_2 : vsub V184_Br V169 [0, 3, 4, 5, 6, 7, 8, 2, 9] = true := by decide +kernel
def oz_E6clsl_0 : List (Nat × Nat) := [(0, 0), (0, 10), (0, 11), (0, 12)]
theorem oz_E6cls_3 : (oz_E6clsl_0).all (fun p => !tbz 7169 (Nat.add (Nat.mul 32 p.1) p.2)) = true := by decide +kernel
def oz_E6clsl_1 : List Nat := [2, 3, 4, 5, 6, 7, 8, 9]
theorem oz_E6cls_4 : (oz_E6clsl_1).all (fun p => !tbz 1020 p) = true := by decide +kernel
def oz_E6clsl_2 : List Nat := [0, 1]
theorem oz_E6cls_5 : okc oz_E6clsl_2 512 = true := by decide +kernel
def oz_E6clsl_3 : List Nat := [0, 3, 4, 5, 6, 7, 8, 2, 9]
theorem oz_E6cls_6 : okc oz_E6clsl_3 42519889451792185951744 = true := by decide +kernel
set_option maxHeartbeats 16000000 in
theorem C184_Br {σE : rS} {D N : Nat → Nat} {F : hF} {A : hA} {d c s : Nat} {Q : wQ} (H : HW V184_Br σE D N F A) {a2 a3 a4 : Int} (pf2 : F 0 7 = (D 2 : Int)) (pf3 : F 0 2 = (D 3 : Int)) (pf4 : F 0 3 = (D 4 : Int)) (pf5 : F 0 4 = (D 5 : Int)) (pf6 : F 0 5 = (D 6 : Int)) (pf7 : F 0 6 = (D 7 : Int)) (pf8 : F 0 8 = (D 8 : Int)) (pf9 : F 0 9 = (D 9 : Int)) (n1 : Int) (en1 : (N 1 : Int) = n1) (n2 : Int) (en2 : (N 2 : Int) = n2) (n3 : Int) (en3 : (N 3 : Int) = n3) (n4 : Int) (en4 : (N 4 : Int) = n4) (n5 : Int) (en5 : (N 5 : Int) = n5) (n6 : Int) (en6 : (N 6 : Int) = n6) (n7 : Int) (en7 : (N 7 : Int) = n7) (n8 : Int) (en8 : (N 8 : Int) = n8) (n9 : Int) (en9 : (N 9 : Int) = n9) (u0_0 : Int) (eu0_0 : F 0 0 = u0_0) (u0_1 : Int) (eu0_1 : F 0 1 = u0_1) (w1 : Int → Int) (ew1 : A 1 = w1) (w2 : Int → Int) (ew2 : A 2 = w2) (w3 : Int → Int) (ew3 : A 3 = w3) (w4 : Int → Int) (ew4 : A 4 = w4) (w5 : Int → Int) (ew5 : A 5 = w5) (w6 : Int → Int) (ew6 : A 6 = w6) (w8 : Int → Int) (ew8 : A 8 = w8) (w9 : Int → Int) (ew9 : A 9 = w9) (h0 : inr (a2)) (h1 : inr (a3)) (h2 : inr (a4)) (h3 : 0 ≤ (a2) ∧ (a2) ≤ (a3) ∧ (a3) ≤ (n1) ∧ (n1) ≤ 65536) (h4 : 5 ≤ (a4) ∧ (a4) ≤ 9 ∧ p2 (a4) ≤ (n2)) (h5 : (n3) = (u0_1) ∧ (n4) = (u0_1) ∧ (n5) = (u0_1) ∧ (n6) = (u0_1) ∧ (n7) = (u0_1) ∧ (n8) = (n2) ∧ (n9) = (n2) ∧ 1 ≤ (u0_1) ∧ (u0_1) ≤ 64) (k : ∀ (z : Int) (σ : rS) (Fₚ : hF) (Aₚ : hA), HW V184_Br σ D N Fₚ Aₚ → OUT (V184_Br).length D N σE c s D N σ c s → SF [(0, 0), (0, 10), (0, 11), (0, 12)] F Fₚ → SA [2, 3, 4, 5, 6, 7, 8, 9] A Aₚ → ∀ y0_0 : Int, Fₚ 0 0 = y0_0 → ∀ v2 : Int → Int, Aₚ 2 = v2 → ∀ v3 : Int → Int, Aₚ 3 = v3 → ∀ v4 : Int → Int, Aₚ 4 = v4 → ∀ v5 : Int → Int, Aₚ 5 = v5 → ∀ v6 : Int → Int, Aₚ 6 = v6 → ∀ v8 : Int → Int, Aₚ 8 = v8 → ∀ v9 : Int → Int, Aₚ 9 = v9 → Fₚ 0 10 = (D 1 : Int) → (inr (z)) → ((z) = -1 ∨ (a2) ≤ (z) ∧ (z) ≤ (a3)) → ((z) = -1 ∧ (y0_0) = (u0_0) ∨ 5 ≤ (y0_0) ∧ (y0_0) ≤ (a4)) → ((z) = -1 ∨ SL ((v3)) ((u0_1)) ((y0_0)) ((v4)) ((v5)) ((v6)) ((v2)) ((v8)) ((v9))) → (SHA (ub8 ((w1))) ((a2)) ((a3)) ((a4)) (((u0_1)) - 1) ((z)) ((y0_0)) (((u0_1))) ((v3))) → Q (some (I z)) σ c s) : Ew 184 (d + 1) 0 (rargs 0 [.ref (D 0), .ref (D 1), I a2, I a3, I a4]) [] σE c s Q := by
  have O := OUT_refl (n := (V184_Br).length) (D := D) (N := N) (σ := σE) (c := c) (s := s)
  have HE := H
  have r1 : (-2147483648 : Int) ≤ u0_0 ∧ u0_0 ≤ 2147483647 := rngE (show (-2147483648 : Int) ≤ F 0 0 ∧ F 0 0 ≤ 2147483647 from H.krg 0 0 (ltn len_V184_Br_oz_E6cls rfl)) (show F 0 0 = u0_0 from (eu0_0))
  have r2 : (-2147483648 : Int) ≤ u0_1 ∧ u0_1 ≤ 2147483647 := rngE (show (-2147483648 : Int) ≤ F 0 1 ∧ F 0 1 ≤ 2147483647 from H.krg 0 1 (ltn len_V184_Br_oz_E6cls rfl)) (show F 0 1 = u0_1 from (eu0_1))
  have r3 : (0 : Int) ≤ n1 ∧ n1 ≤ 1000000 := nleE (H.nle 1 (ltn len_V184_Br_oz_E6cls rfl)) (show (N 1 : Int) = n1 from en1)
  have r4 : (0 : Int) ≤ n2 ∧ n2 ≤ 1000000 := nleE (H.nle 2 (ltn len_V184_Br_oz_E6cls rfl)) (show (N 2 : Int) = n2 from en2)
  have r5 : (0 : Int) ≤ n3 ∧ n3 ≤ 1000000 := nleE (H.nle 3 (ltn len_V184_Br_oz_E6cls rfl)) (show (N 3 : Int) = n3 from en3)
  have r6 : (0 : Int) ≤ n4 ∧ n4 ≤ 1000000 := nleE (H.nle 4 (ltn len_V184_Br_oz_E6cls rfl)) (show (N 4 : Int) = n4 from en4)
  have r7 : (0 : Int) ≤ n5 ∧ n5 ≤ 1000000 := nleE (H.nle 5 (ltn len_V184_Br_oz_E6cls rfl)) (show (N 5 : Int) = n5 from en5)
  have r8 : (0 : Int) ≤ n6 ∧ n6 ≤ 1000000 := nleE (H.nle 6 (ltn len_V184_Br_oz_E6cls rfl)) (show (N 6 : Int) = n6 from en6)
  have r9 : (0 : Int) ≤ n7 ∧ n7 ≤ 1000000 := nleE (H.nle 7 (ltn len_V184_Br_oz_E6cls rfl)) (show (N 7 : Int) = n7 from en7)
  have r10 : (0 : Int) ≤ n8 ∧ n8 ≤ 1000000 := nleE (H.nle 8 (ltn len_V184_Br_oz_E6cls rfl)) (show (N 8 : Int) = n8 from en8)
  have r11 : (0 : Int) ≤ n9 ∧ n9 ≤ 1000000 := nleE (H.nle 9 (ltn len_V184_Br_oz_E6cls rfl)) (show (N 9 : Int) = n9 from en9)
  refine Ew_of (pcₚ := 1) (fun _ => x_aload_n rfl rfl) ?_
  refine Ew_of (pcₚ := 2) (fun _ => x_aload_n rfl rfl) ?_
  refine v_p H (o := 0) (z := ((D 1 : Nat) : Int)) (v := .ref (D 1)) rfl rfl rfl rfl rfl rfl (vrf rfl) rfl (show (-1 : Int) ≤ ((D 1 : Nat) : Int) by omega) (fun σ H Oₚ => ?_)
  have O := OUT_trans O Oₚ
  have cFu12 : SF oz_E6clsl_0 F (updF F 0 10 ((D 1 : Nat) : Int)) := SF_upd (SF_refl) rfl
  have mFu12 := SFm_of cFu12 oz_E6cls_3
  refine Ew_of (pcₚ := 6) (fun _ => x_aload_n rfl rfl) ?_
  refine Ew_of (pcₚ := 8) (fun _ => x_bipush (z := 8) rfl (by decide)) ?_
  refine Ew_of (pcₚ := 9) (fun _ => x_iload_n rfl rfl) ?_
  refine w_imul rfl ?_
  refine v_p H (o := 0) (z := (8 * a2)) (v := I ((8 * a2))) rfl rfl rfl rfl rfl rfl rfl rfl (show (-2147483648 : Int) ≤ (8 * a2) ∧ (8 * a2) ≤ 2147483647 from q_212 h3) (fun σ H Oₚ => ?_)
  have O := OUT_trans O Oₚ
  have cFu13 : SF oz_E6clsl_0 F (updF (updF F 0 10 ((D 1 : Nat) : Int)) 0 11 ((8 * a2))) := SF_upd (cFu12) rfl
  have mFu13 := SFm_of cFu13 oz_E6cls_3
  refine Ew_of (pcₚ := 14) (fun _ => x_aload_n rfl rfl) ?_
  refine Ew_of (pcₚ := 16) (fun _ => x_bipush (z := 8) rfl (by decide)) ?_
  refine Ew_of (pcₚ := 17) (fun _ => x_iload_n rfl rfl) ?_
  refine w_imul rfl ?_
  refine v_p H (o := 0) (z := (8 * a3)) (v := I ((8 * a3))) rfl rfl rfl rfl rfl rfl rfl rfl (show (-2147483648 : Int) ≤ (8 * a3) ∧ (8 * a3) ≤ 2147483647 from q_213 h3) (fun σ H Oₚ => ?_)
  have O := OUT_trans O Oₚ
  have cFu14 : SF oz_E6clsl_0 F (updF (updF (updF F 0 10 ((D 1 : Nat) : Int)) 0 11 ((8 * a2))) 0 12 ((8 * a3))) := SF_upd (cFu13) rfl
  have mFu14 := SFm_of cFu14 oz_E6cls_3
  refine Ew_of (pcₚ := 22) (fun _ => x_aload_n rfl rfl) ?_
  refine Ew_of (pcₚ := 23) (fun _ => x_iconst rfl) ?_
  refine v_inv H (o := 0) rfl rfl rfl rfl rfl rfl (by rfl) (C183 (D := puc 512 D) (N := puc 512 N) (HW_subc H oz_E6cls_1 oz_E6cls_5) ((show (updF F 0 10 ((D 1 : Nat) : Int)) 0 10 = ((D 1 : Nat) : Int) from rfl)) (n1) (en1) ((8 * a2)) (rfl) ((8 * a3)) (rfl) (w1) (ew1) (show inr (4) from q_216) (show 0 ≤ ((8 * a2)) ∧ ((8 * a2)) ≤ ((8 * a3)) ∧ ((8 * a3)) ≤ 8 * (n1) ∧ (n1) ≤ 65536 from q_215 h3) (show 0 ≤ (4) ∧ (4) ≤ 16 from q_214) (fun z15 σ15 F15ₚ A15ₚ Hₚ Oₚ hS15 hA15 y15_0_11 ey15_0_11 pz15_0 pz15_1 pz15_2 pz15_3 => ⟨rfl, ?_⟩))
  refine v_backc (c := c) (s := s) H oz_E6cls_1 oz_E6cls_5 Hₚ Oₚ (fun F15 A15 H Oₚ eF15 eA15 => ?_)
  have O := OUT_trans O Oₚ
  -- Share.takeBits
  have cF15 : SF oz_E6clsl_0 F F15 := SF_trans (cFu14) (SF_gluc (ι := oz_E6clsl_2) oz_E6cls_5 hS15 eF15 (by decide +kernel)) (any_sub (lₚ := [(0, 11)]) (by decide +kernel))
  have mF15 := SFm_of cF15 oz_E6cls_3
  have cA15 : SA oz_E6clsl_1 A A15 := SA_trans (SA_refl) (SA_gluc (ι := oz_E6clsl_2) oz_E6cls_5 hA15 eA15 (by decide +kernel)) (any_subA (lₚ := []) (by decide +kernel))
  have mA15 := SAm_of cA15 oz_E6cls_4
  have r16 : (-2147483648 : Int) ≤ y15_0_11 ∧ y15_0_11 ≤ 2147483647 := rngE (show (-2147483648 : Int) ≤ F15 0 11 ∧ F15 0 11 ≤ 2147483647 from H.krg 0 11 (ltn len_V184_Br_oz_E6cls rfl)) (show F15 0 11 = y15_0_11 from ((eF15 0 11).trans ey15_0_11))
  have hp4 : p2 4 = 16 := by decide
  have hp1 : p2 1 = 2 := by decide
  have hp22 : p2 2 = 4 := by decide
  have hp0 : p2 0 = 1 := by decide
  refine Ew_of (pcₚ := 28) (fun _ => x_istore rfl) ?_
  have htb := pz15_2
  have htb3 := pz15_3
  refine Ew_of (pcₚ := 30) (fun _ => x_iload rfl rk_s) ?_
  refine w_iflt (t := 42) rfl rfl (show inr (z15) from pz15_0) (fun b17 => ?_) (fun b17 => ?_)
  · have hno : (-1 : Int) = -1 ∨ SL ((w3)) ((u0_1)) ((u0_0)) ((w4)) ((w5)) ((w6)) ((w2)) ((w8)) ((w9)) := .inl rfl
    have : SHA (ub8 ((w1))) ((a2)) ((a3)) ((a4)) (((u0_1)) - 1) (-1) ((u0_0)) (((u0_1))) ((w3)) := by first | exact SHA_0 (by omega) | exact SHA_g (v := (z15)) (by omega) (htb (by omega)) (by omega)
    refine Ew_of (pcₚ := 43) (fun _ => x_iconst rfl) ?_
    exact w_ireturn rfl (k ((-1)) _ _ _ H O (cF15) (cA15) (u0_0) ((((show F15 0 0 = (updF (updF (updF F 0 10 ((D 1 : Nat) : Int)) 0 11 ((8 * a2))) 0 12 ((8 * a3))) 0 0 from (eF15 0 0).trans (hS15 0 0 rfl))).trans (eu0_0))) (w2) (((show A15 2 = A 2 from (eA15 2))).trans (ew2)) (w3) (((show A15 3 = A 3 from (eA15 3))).trans (ew3)) (w4) (((show A15 4 = A 4 from (eA15 4))).trans (ew4)) (w5) (((show A15 5 = A 5 from (eA15 5))).trans (ew5)) (w6) (((show A15 6 = A 6 from (eA15 6))).trans (ew6)) (w8) (((show A15 8 = A 8 from (eA15 8))).trans (ew8)) (w9) (((show A15 9 = A 9 from (eA15 9))).trans (ew9)) ((((show F15 0 10 = (updF (updF (updF F 0 10 ((D 1 : Nat) : Int)) 0 11 ((8 * a2))) 0 12 ((8 * a3))) 0 10 from (eF15 0 10).trans (hS15 0 10 rfl)))).trans ((show (updF F 0 10 ((D 1 : Nat) : Int)) 0 10 = ((D 1 : Nat) : Int) from rfl))) (show inr ((-1)) from q_63) (show ((-1)) = -1 ∨ a2 ≤ ((-1)) ∧ ((-1)) ≤ a3 by first | exact q_218 | omega) (show ((-1)) = -1 ∧ (u0_0) = (u0_0) ∨ 5 ≤ (u0_0) ∧ (u0_0) ≤ a4 by first | exact q_217 | omega) (show ((-1)) = -1 ∨ SL ((w3)) ((u0_1)) ((u0_0)) ((w4)) ((w5)) ((w6)) ((w2)) ((w8)) ((w9)) by assumption) (show SHA (ub8 ((w1))) (a2) (a3) (a4) (((u0_1)) - 1) (((-1))) ((u0_0)) (((u0_1))) ((w3)) by assumption))
  · refine Ew_of (pcₚ := 35) (fun _ => x_iload rfl rk_s) ?_
    refine Ew_of (pcₚ := 36) (fun _ => x_iconst rfl) ?_
    refine w_iadd rfl ?_
    refine Ew_of (pcₚ := 39) (fun _ => x_iload rfl (rk_o (rfl) rfl rfl)) ?_
    refine w_icmple (t := 44) rfl rfl (show inr ((z15 + 5)) from q_219 b17 hp4 pz15_1) (show inr (a4) from h2) (fun b18 => ?_) (fun b18 => ?_)
    · obtain ⟨qt, hqt⟩ : ∃ q : Int, q = (z15) := ⟨_, rfl⟩
      have htq : qt = bv (ub8 ((w1))) (8 * (a2)) 4 := by rw [hqt]; exact htb (by omega)
      have hL5 : 5 ≤ (z15) + 5 ∧ (z15) + 5 ≤ 9 := q_220 b17 b18 h4
      have hp5 := p2_5 hL5
      have hpm := p2_mono (x := (z15) + 5) (y := (a4)) (by omega)
      refine Ew_of (pcₚ := 45) (fun _ => x_aload_n rfl (rk_o (rfl) rfl rfl)) ?_
      refine Ew_of (pcₚ := 47) (fun _ => x_iload rfl rk_s) ?_
      refine Ew_of (pcₚ := 48) (fun _ => x_iconst rfl) ?_
      refine w_iadd rfl ?_
      refine v_p H (o := 0) (z := (z15 + 5)) (v := I ((z15 + 5))) rfl rfl rfl rfl rfl rfl rfl rfl (show (-2147483648 : Int) ≤ (z15 + 5) ∧ (z15 + 5) ≤ 2147483647 from q_221 hL5) (fun σ H Oₚ => ?_)
      have O := OUT_trans O Oₚ
      have cFu19 : SF oz_E6clsl_0 F (updF F15 0 0 ((z15 + 5))) := SF_upd (cF15) rfl
      have mFu19 := SFm_of cFu19 oz_E6cls_3
      refine Ew_of (pcₚ := 53) (fun _ => x_aload_n rfl (rk_o (rfl) rfl rfl)) ?_
      refine v_g H (o := 0) (v := .ref (D 3)) rfl rfl rfl rfl rfl (vrf ((mFu19 0 2 rfl).trans (pf3))) ?_
      refine Ew_of (pcₚ := 57) (fun _ => x_iconst rfl) ?_
      refine v_fil H (t := 3) (v := 0) rfl rfl rfl rfl rfl (show inr (0) from q_2) (fun σ A20 H Oₚ hA20 ga20 => ?_)
      have O := OUT_trans O Oₚ
      have cA20 : SA oz_E6clsl_1 A A20 := SA_trans (cA15) hA20 (any_subA (by decide +kernel))
      have mA20 := SAm_of cA20 oz_E6cls_4
      refine Ew_of (pcₚ := 61) (fun _ => x_iconst rfl) ?_
      refine Ew_of (pcₚ := 62) (fun _ => x_aload_n rfl (rk_o (rfl) rfl rfl)) ?_
      refine v_g H (o := 0) (v := I ((z15 + 5))) rfl rfl rfl rfl rfl (congrArg (fun z : Int => I z) (rfl : (updF F15 0 0 ((z15 + 5))) 0 0 = (z15 + 5))) ?_
      refine w_ishl1 rfl (show 0 ≤ (z15 + 5) ∧ (z15 + 5) ≤ 31 from q_222 hL5) ?_
      refine Ew_of (pcₚ := 68) (fun _ => x_istore rfl) ?_
      refine Ew_of (pcₚ := 69) (fun _ => x_aload_n rfl (rk_o (rk_o (rfl) rfl rfl) rfl rfl)) ?_
      refine v_g H (o := 0) (v := I ((z15 + 5))) rfl rfl rfl rfl rfl (congrArg (fun z : Int => I z) (rfl : (updF F15 0 0 ((z15 + 5))) 0 0 = (z15 + 5))) ?_
      refine Ew_of (pcₚ := 74) (fun _ => x_istore rfl) ?_
      refine Ew_of (pcₚ := 75) (fun _ => x_iconst rfl) ?_
      refine Ew_of (pcₚ := 77) (fun _ => x_istore rfl) ?_
      have hz0 : ZRS ((A20 3)) 0 ((u0_1)) := fun j _ _ => ga20 j
      have hg0 : GE1 ((A20 3)) ((u0_1)) := GE1_z ga20
      have hm0 : mp ((A20 3)) ((u0_1)) = 0 := mp_allz ga20
      have : SHO (ub8 ((w1))) ((a2)) ((a3)) ((a4)) (((u0_1)) - 1) ((((z15 + 5)))) (((u0_1))) ((y15_0_11)) ((p2 ((z15 + 5)))) (0) (0) (((A20 3))) := SHO_0 (v := qt) (by omega) htq (by omega) (by omega) (by omega) rfl rfl rfl (fun i _ _ => ga20 i)
      suffices hl77 : ∀ (m : Nat), ∀ (ls : rO) (σ : rS) (F_77 : hF) (A_77 : hA) (x77_6 : Int) (x77_7 : Int) (x77_8 : Int), rlook ls 0 = some (.ref (D 0)) → rlook ls 6 = some (I (x77_6)) → rlook ls 7 = some (I (x77_7)) → rlook ls 8 = some (I (x77_8)) → HW V184_Br σ D N F_77 A_77 → OUT (V184_Br).length D N σE c s D N σ c s → SF [(0, 11)] (updF F15 0 0 ((z15 + 5))) F_77 → SA [3] A20 A_77 → ∀ y77_0_11 : Int, F_77 0 11 = y77_0_11 → ∀ w77_3 : Int → Int, A_77 3 = w77_3 → (inr (x77_6)) → (inr (x77_7)) → (inr (x77_8)) → (0 ≤ (x77_8) ∧ (x77_8) ≤ ((u0_1))) → (mp ((w77_3)) ((u0_1)) = p2 (((z15 + 5))) - (x77_6)) → (0 ≤ (x77_6) ∧ (x77_6) ≤ 512) → (0 ≤ (x77_7) ∧ (x77_7) ≤ 9 ∧ (x77_6) + 1 < 2 * p2 (x77_7)) → (ZRS ((w77_3)) (x77_8) ((u0_1))) → (GE1 ((w77_3)) ((u0_1))) → (SHO (ub8 ((w1))) ((a2)) ((a3)) ((a4)) (((u0_1)) - 1) ((((z15 + 5)))) (((u0_1))) ((y77_0_11)) ((x77_6)) ((x77_8)) (0) (((w77_3)))) → (8 * (a2) ≤ (y77_0_11) ∧ (y77_0_11) ≤ ((8 * a3))) → (((u0_1)) - (x77_8)).toNat = m → Ew 184 (d + 1) 77 ls [] σ c s Q from
        hl77 _ _ _ _ _ (p2 ((z15 + 5))) ((z15 + 5)) (0) (rk_o (rk_o (rk_o (rk_o (rfl) rfl rfl) rfl rfl) rfl rfl) rfl rfl) (rk_o (rk_o (rk_s) rfl rfl) rfl rfl) (rk_o (rk_s) rfl rfl) (rk_s) H O (SF_refl) (SA_refl)   (y15_0_11) (((eF15 0 11).trans ey15_0_11)) (A20 3) (rfl) (show inr (p2 ((z15 + 5))) by omega) (show inr ((z15 + 5)) from q_226 hL5) (show inr (0) from q_2) (show 0 ≤ (0) ∧ (0) ≤ ((u0_1)) from q_225 h5) (show mp ((A20 3)) ((u0_1)) = p2 (((z15 + 5))) - (p2 ((z15 + 5))) from q_224 hm0) (show 0 ≤ (p2 ((z15 + 5))) ∧ (p2 ((z15 + 5))) ≤ 512 by omega) (show 0 ≤ ((z15 + 5)) ∧ ((z15 + 5)) ≤ 9 ∧ (p2 ((z15 + 5))) + 1 < 2 * p2 ((z15 + 5)) by omega) (hz0) (hg0) (show SHO (ub8 ((w1))) ((a2)) ((a3)) ((a4)) (((u0_1)) - 1) ((((z15 + 5)))) (((u0_1))) ((y15_0_11)) ((p2 ((z15 + 5)))) ((0)) (0) (((A20 3))) by assumption) (show 8 * (a2) ≤ (y15_0_11) ∧ (y15_0_11) ≤ ((8 * a3)) from q_223 h3 pz15_1) rfl
      as_aux_lemma =>
      intro m
      induction m using Nat.strongRecOn with
      | _ m ih77 =>
        intro ls σ F_77 A_77 x77_6 x77_7 x77_8 l77_0 l77_6 l77_7 l77_8 H O hS_77 hA_77   y77_0_11 ey77_0_11 w77_3 ew77_3 j77_0 j77_1 j77_2 j77_3 j77_4 j77_5 j77_6 j77_7 j77_8 j77_9 j77_10 hm77
        have cF_77 : SF oz_E6clsl_0 F F_77 := SF_trans (cFu19) hS_77 (any_sub (by decide +kernel))
        have mF_77 := SFm_of cF_77 oz_E6cls_3
        have cA_77 : SA oz_E6clsl_1 A A_77 := SA_trans (cA20) hA_77 (any_subA (by decide +kernel))
        have mA_77 := SAm_of cA_77 oz_E6cls_4
        try clear pz15_1
        try clear pz15_3
        have r22 : (-2147483648 : Int) ≤ y77_0_11 ∧ y77_0_11 ≤ 2147483647 := rngE (show (-2147483648 : Int) ≤ F_77 0 11 ∧ F_77 0 11 ≤ 2147483647 from H.krg 0 11 (ltn len_V184_Br_oz_E6cls rfl)) (show F_77 0 11 = y77_0_11 from (ey77_0_11))
        have j77_o : SHO (ub8 ((w1))) ((a2)) ((a3)) ((a4)) (((u0_1)) - 1) ((((z15 + 5)))) (((u0_1))) ((y77_0_11)) ((x77_6)) ((x77_8)) (0) (((w77_3))) := j77_9
        refine Ew_of (pcₚ := 79) (fun _ => x_iload rfl l77_8) ?_
        refine Ew_of (pcₚ := 80) (fun _ => x_aload_n rfl l77_0) ?_
        refine v_g H (o := 0) (v := I (u0_1)) rfl rfl rfl rfl rfl (congrArg (fun z : Int => I z) (((mF_77 0 1 rfl).trans (eu0_1)) : F_77 0 1 = u0_1)) ?_
        have hc295 : ∀ (ls : rO) (σ : rS) (F_c295 : hF) (A_c295 : hA) , rlook ls 0 = some (.ref (D 0)) → rlook ls 6 = some (I (x77_6)) → HW V184_Br σ D N F_c295 A_c295 → OUT (V184_Br).length D N σE c s D N σ c s → SF [] F_77 F_c295 → SA [] A_77 A_c295 → (((x77_8) ≥ (u0_1)) ∨ ((x77_8) < (u0_1) ∧ (x77_6) ≤ (0))) → Ew 184 (d + 1) 295 ls [] σ c s Q := by
         as_aux_lemma =>
          intro  ls σ F_c295 A_c295  lc295_0 lc295_6 H O hS_c295 hA_c295     jc295_0
          have cF_c295 : SF oz_E6clsl_0 F F_c295 := SF_trans (cF_77) hS_c295 (any_sub (by decide +kernel))
          have mF_c295 := SFm_of cF_c295 oz_E6cls_3
          have cA_c295 : SA oz_E6clsl_1 A A_c295 := SA_trans (cA_77) hA_c295 (any_subA (by decide +kernel))
          have mA_c295 := SAm_of cA_c295 oz_E6cls_4
          refine Ew_of (pcₚ := 297) (fun _ => x_iload rfl lc295_6) ?_
          refine w_ifle (t := 302) rfl rfl (show inr (x77_6) from j77_0) (fun b23 => ?_) (fun b23 => ?_)
          · have hSD : SHD ((w77_3)) ((u0_1)) (((z15 + 5))) := ⟨.inr hL5, by omega, by omega, by assumption, by omega⟩
            refine Ew_of (pcₚ := 303) (fun _ => x_aload_n rfl lc295_0) ?_
            refine v_inv H (o := 0) rfl rfl rfl rfl rfl rfl (by rfl) (C169 (D := puc 42519889451792185951744 D) (N := puc 42519889451792185951744 N) (HW_subc H oz_E6cls_2 oz_E6cls_6) ((mF_c295 0 2 rfl).trans (pf3)) ((mF_c295 0 3 rfl).trans (pf4)) ((mF_c295 0 4 rfl).trans (pf5)) ((mF_c295 0 5 rfl).trans (pf6)) ((mF_c295 0 6 rfl).trans (pf7)) ((mF_c295 0 8 rfl).trans (pf8)) ((mF_c295 0 7 rfl).trans (pf2)) ((mF_c295 0 9 rfl).trans (pf9)) (n3) (en3) (n4) (en4) (n5) (en5) (n6) (en6) (n7) (en7) (n8) (en8) (n2) (en2) (n9) (en9) ((z15 + 5)) (((hS_c295 0 0 rfl).trans (hS_77 0 0 rfl))) (u0_1) (((mF_c295 0 1 rfl).trans (eu0_1))) (w77_3) ((funext (hA_c295 3 rfl)).trans (ew77_3)) (w4) ((funext (hA_c295 4 rfl)).trans ((funext (hA_77 4 rfl)).trans ((funext (hA20 4 rfl)).trans (((show A15 4 = A 4 from (eA15 4))).trans (ew4))))) (w5) ((funext (hA_c295 5 rfl)).trans ((funext (hA_77 5 rfl)).trans ((funext (hA20 5 rfl)).trans (((show A15 5 = A 5 from (eA15 5))).trans (ew5))))) (w6) ((funext (hA_c295 6 rfl)).trans ((funext (hA_77 6 rfl)).trans ((funext (hA20 6 rfl)).trans (((show A15 6 = A 6 from (eA15 6))).trans (ew6))))) (w8) ((funext (hA_c295 8 rfl)).trans ((funext (hA_77 8 rfl)).trans ((funext (hA20 8 rfl)).trans (((show A15 8 = A 8 from (eA15 8))).trans (ew8))))) (w2) ((funext (hA_c295 2 rfl)).trans ((funext (hA_77 2 rfl)).trans ((funext (hA20 2 rfl)).trans (((show A15 2 = A 2 from (eA15 2))).trans (ew2))))) (w9) ((funext (hA_c295 9 rfl)).trans ((funext (hA_77 9 rfl)).trans ((funext (hA20 9 rfl)).trans (((show A15 9 = A 9 from (eA15 9))).trans (ew9))))) (hSD) (show (n3) = (u0_1) ∧ (n4) = (u0_1) ∧ (n5) = (u0_1) ∧ (n6) = (u0_1) ∧ (n7) = (u0_1) ∧ (n8) = (n2) ∧ (n9) = (n2) ∧ p2 (((z15 + 5))) ≤ (n2) by omega) (fun σ24 F24ₚ A24ₚ Hₚ Oₚ hS24 hA24 w24_2 ew24_2 w24_3 ew24_3 w24_4 ew24_4 w24_6 ew24_6 w24_7 ew24_7 w24_8 ew24_8 pz24_0 => ⟨rfl, ?_⟩))
            refine v_backc (c := c) (s := s) H oz_E6cls_2 oz_E6cls_6 Hₚ Oₚ (fun F24 A24 H Oₚ eF24 eA24 => ?_)
            have O := OUT_trans O Oₚ
            -- Share.lay
            have cF24 : SF oz_E6clsl_0 F F24 := SF_trans (cF_c295) (SF_gluc (ι := oz_E6clsl_3) oz_E6cls_6 hS24 eF24 (by decide +kernel)) (any_sub (lₚ := []) (by decide +kernel))
            have mF24 := SFm_of cF24 oz_E6cls_3
            have cA24 : SA oz_E6clsl_1 A A24 := SA_trans (cA_c295) (SA_gluc (ι := oz_E6clsl_3) oz_E6cls_6 hA24 eA24 (by decide +kernel)) (any_subA (lₚ := [2, 4, 5, 6, 7, 8, 9]) (by decide +kernel))
            have mA24 := SAm_of cA24 oz_E6cls_4
            refine Ew_of (pcₚ := 307) (fun _ => x_aload_n rfl lc295_0) ?_
            refine v_g H (o := 0) (v := I (y77_0_11)) rfl rfl rfl rfl rfl (congrArg (fun z : Int => I z) (((((show F24 0 11 = F_c295 0 11 from (eF24 0 11).trans (hS24 0 11 rfl))).trans (hS_c295 0 11 rfl)).trans (ey77_0_11)) : F24 0 11 = y77_0_11)) ?_
            refine Ew_of (pcₚ := 312) (fun _ => x_bipush (z := 7) rfl (by decide)) ?_
            refine w_iadd rfl ?_
            refine Ew_of (pcₚ := 314) (fun _ => x_iconst rfl) ?_
            refine w_ishrK 3 8 (by decide) (by decide) rfl (show inr ((y77_0_11 + 7)) from q_227 h3 j77_10 r22) (fun z25 gz25 dz25 => ?_)
            have hyes : ((z25) : Int) = -1 ∨ SL ((w77_3)) ((u0_1)) (((z15 + 5))) ((w24_2)) ((w24_3)) ((w24_4)) ((w24_7)) ((w24_6)) ((w24_8)) := .inr pz24_0
            have : SHA (ub8 ((w1))) ((a2)) ((a3)) ((a4)) (((u0_1)) - 1) ((z25)) (((z15 + 5))) (((u0_1))) ((w77_3)) := SHO_y j77_o rfl (by omega) (by omega) (by omega)
            exact w_ireturn rfl (k (z25) _ _ _ H O (cF24) (cA24) ((z15 + 5)) (((((show F24 0 0 = F_c295 0 0 from (eF24 0 0).trans (hS24 0 0 rfl))).trans (hS_c295 0 0 rfl)).trans (hS_77 0 0 rfl))) (w24_7) ((eA24 2).trans ew24_7) (w77_3) (((show A24 3 = A_c295 3 from (eA24 3).trans (funext (hA24 1 rfl)))).trans ((funext (hA_c295 3 rfl)).trans (ew77_3))) (w24_2) ((eA24 4).trans ew24_2) (w24_3) ((eA24 5).trans ew24_3) (w24_4) ((eA24 6).trans ew24_4) (w24_6) ((eA24 8).trans ew24_6) (w24_8) ((eA24 9).trans ew24_8) (((((((show F24 0 10 = F_c295 0 10 from (eF24 0 10).trans (hS24 0 10 rfl))).trans (hS_c295 0 10 rfl)).trans (hS_77 0 10 rfl)).trans ((show F15 0 10 = (updF (updF (updF F 0 10 ((D 1 : Nat) : Int)) 0 11 ((8 * a2))) 0 12 ((8 * a3))) 0 10 from (eF15 0 10).trans (hS15 0 10 rfl))))).trans ((show (updF F 0 10 ((D 1 : Nat) : Int)) 0 10 = ((D 1 : Nat) : Int) from rfl))) (show inr (z25) from gz25) (show (z25) = -1 ∨ a2 ≤ (z25) ∧ (z25) ≤ a3 from q_229 dz25 j77_10) (show (z25) = -1 ∧ ((z15 + 5)) = (u0_0) ∨ 5 ≤ ((z15 + 5)) ∧ ((z15 + 5)) ≤ a4 from q_228 b18 hL5) (hyes) (show SHA (ub8 ((w1))) (a2) (a3) (a4) (((u0_1)) - 1) ((z25)) (((z15 + 5))) (((u0_1))) ((w77_3)) by assumption))
          · have hno : (-1 : Int) = -1 ∨ SL ((w77_3)) ((u0_1)) (((z15 + 5))) ((w4)) ((w5)) ((w6)) ((w2)) ((w8)) ((w9)) := .inl rfl
            have : SHA (ub8 ((w1))) ((a2)) ((a3)) ((a4)) (((u0_1)) - 1) (-1) (((z15 + 5))) (((u0_1))) ((w77_3)) := SHO_f j77_o rfl (.inl ⟨rfl, by omega, .inl (by omega)⟩)
            refine Ew_of (pcₚ := 301) (fun _ => x_iconst rfl) ?_
            exact w_ireturn rfl (k ((-1)) _ _ _ H O (cF_c295) (cA_c295) ((z15 + 5)) (((hS_c295 0 0 rfl).trans (hS_77 0 0 rfl))) (w2) ((funext (hA_c295 2 rfl)).trans ((funext (hA_77 2 rfl)).trans ((funext (hA20 2 rfl)).trans (((show A15 2 = A 2 from (eA15 2))).trans (ew2))))) (w77_3) ((funext (hA_c295 3 rfl)).trans (ew77_3)) (w4) ((funext (hA_c295 4 rfl)).trans ((funext (hA_77 4 rfl)).trans ((funext (hA20 4 rfl)).trans (((show A15 4 = A 4 from (eA15 4))).trans (ew4))))) (w5) ((funext (hA_c295 5 rfl)).trans ((funext (hA_77 5 rfl)).trans ((funext (hA20 5 rfl)).trans (((show A15 5 = A 5 from (eA15 5))).trans (ew5))))) (w6) ((funext (hA_c295 6 rfl)).trans ((funext (hA_77 6 rfl)).trans ((funext (hA20 6 rfl)).trans (((show A15 6 = A 6 from (eA15 6))).trans (ew6))))) (w8) ((funext (hA_c295 8 rfl)).trans ((funext (hA_77 8 rfl)).trans ((funext (hA20 8 rfl)).trans (((show A15 8 = A 8 from (eA15 8))).trans (ew8))))) (w9) ((funext (hA_c295 9 rfl)).trans ((funext (hA_77 9 rfl)).trans ((funext (hA20 9 rfl)).trans (((show A15 9 = A 9 from (eA15 9))).trans (ew9))))) (((((hS_c295 0 10 rfl).trans (hS_77 0 10 rfl)).trans ((show F15 0 10 = (updF (updF (updF F 0 10 ((D 1 : Nat) : Int)) 0 11 ((8 * a2))) 0 12 ((8 * a3))) 0 10 from (eF15 0 10).trans (hS15 0 10 rfl))))).trans ((show (updF F 0 10 ((D 1 : Nat) : Int)) 0 10 = ((D 1 : Nat) : Int) from rfl))) (show inr ((-1)) from q_63) (show ((-1)) = -1 ∨ a2 ≤ ((-1)) ∧ ((-1)) ≤ a3 by first | exact q_218 | omega) (show ((-1)) = -1 ∧ ((z15 + 5)) = (u0_0) ∨ 5 ≤ ((z15 + 5)) ∧ ((z15 + 5)) ≤ a4 by first | exact q_230 b18 hL5 | omega) (show ((-1)) = -1 ∨ SL ((w77_3)) ((u0_1)) (((z15 + 5))) ((w4)) ((w5)) ((w6)) ((w2)) ((w8)) ((w9)) by assumption) (show SHA (ub8 ((w1))) (a2) (a3) (a4) (((u0_1)) - 1) (((-1))) (((z15 + 5))) (((u0_1))) ((w77_3)) by assumption))
        refine w_icmpge (t := 295) rfl rfl (show inr (x77_8) from j77_2) (show inr (u0_1) from q_231 h5) (fun b26 => ?_) (fun b26 => ?_)
        · exact hc295  _ _ _ _  (l77_0) (l77_6) H O (SF_refl) (SA_refl)     (show ((x77_8) ≥ (u0_1)) ∨ ((x77_8) < (u0_1) ∧ (x77_6) ≤ (0)) from q_232 b26)
        · refine Ew_of (pcₚ := 88) (fun _ => x_iload rfl l77_6) ?_
          refine w_ifle (t := 295) rfl rfl (show inr (x77_6) from j77_0) (fun b27 => ?_) (fun b27 => ?_)
          · exact hc295  _ _ _ _  (l77_0) (l77_6) H O (SF_refl) (SA_refl)     (show ((x77_8) ≥ (u0_1)) ∨ ((x77_8) < (u0_1) ∧ (x77_6) ≤ (0)) from q_233 b26 b27)
          · suffices hl91 : ∀ (m : Nat), ∀ (ls : rO) (σ : rS) (F_91 : hF) (A_91 : hA) (x91_7 : Int), rlook ls 0 = some (.ref (D 0)) → rlook ls 6 = some (I (x77_6)) → rlook ls 7 = some (I (x91_7)) → rlook ls 8 = some (I (x77_8)) → HW V184_Br σ D N F_91 A_91 → OUT (V184_Br).length D N σE c s D N σ c s → SF [] F_77 F_91 → SA [] A_77 A_91 → (inr (x91_7)) → (0 ≤ (x91_7) ∧ (x91_7) ≤ 9 ∧ (x77_6) + 1 < 2 * p2 (x91_7)) → ((x91_7)).toNat = m → Ew 184 (d + 1) 91 ls [] σ c s Q from
              hl91 _ _ _ _ _ (x77_7) (l77_0) (l77_6) (l77_7) (l77_8) H O (SF_refl) (SA_refl)     (show inr (x77_7) from j77_1) (show 0 ≤ (x77_7) ∧ (x77_7) ≤ 9 ∧ (x77_6) + 1 < 2 * p2 (x77_7) from j77_6) rfl
            as_aux_lemma =>
            intro m
            induction m using Nat.strongRecOn with
            | _ m ih91 =>
              intro ls σ F_91 A_91 x91_7 l91_0 l91_6 l91_7 l91_8 H O hS_91 hA_91     j91_0 j91_1 hm91
              have cF_91 : SF oz_E6clsl_0 F F_91 := SF_trans (cF_77) hS_91 (any_sub (by decide +kernel))
              have mF_91 := SFm_of cF_91 oz_E6cls_3
              have cA_91 : SA oz_E6clsl_1 A A_91 := SA_trans (cA_77) hA_91 (any_subA (by decide +kernel))
              have mA_91 := SAm_of cA_91 oz_E6cls_4
              refine Ew_of (pcₚ := 93) (fun _ => x_iload rfl l91_7) ?_
              have hc113 : ∀ (ls : rO) (σ : rS) (F_c113 : hF) (A_c113 : hA) , rlook ls 0 = some (.ref (D 0)) → rlook ls 6 = some (I (x77_6)) → rlook ls 7 = some (I (x91_7)) → rlook ls 8 = some (I (x77_8)) → HW V184_Br σ D N F_c113 A_c113 → OUT (V184_Br).length D N σE c s D N σ c s → SF [] F_91 F_c113 → SA [] A_91 A_c113 → (((x91_7) ≤ (0)) ∨ ((x91_7) > (0) ∧ ((x77_6 + 1)) ≥ (p2 (x91_7)))) → Ew 184 (d + 1) 113 ls [] σ c s Q := by
               as_aux_lemma =>
                intro  ls σ F_c113 A_c113  lc113_0 lc113_6 lc113_7 lc113_8 H O hS_c113 hA_c113     jc113_0
                have cF_c113 : SF oz_E6clsl_0 F F_c113 := SF_trans (cF_91) hS_c113 (any_sub (by decide +kernel))
                have mF_c113 := SFm_of cF_c113 oz_E6cls_3
                have cA_c113 : SA oz_E6clsl_1 A A_c113 := SA_trans (cA_91) hA_c113 (any_subA (by decide +kernel))
                have mA_c113 := SAm_of cA_c113 oz_E6cls_4
                obtain ⟨q1, hq1⟩ : ∃ q : Int, q = (y77_0_11) := ⟨_, rfl⟩
                have j77_q := j77_o
                rw [← hq1] at j77_q
                have hpp := p2_pos ((x91_7))
                have hp9 := p2_le9 (o := (x91_7)) (by omega)
                have hlo : p2 ((x91_7)) ≤ (x77_6) + 1 := by by_cases q : ((x91_7) : Int) ≤ 0 <;> first | omega | (rw [show ((x91_7) : Int) = 0 by omega]; omega)
                have hSn : SHn ((x77_6)) ((x91_7)) := ⟨by omega, hlo, by omega⟩
                refine Ew_of (pcₚ := 114) (fun _ => x_aload_n rfl lc113_0) ?_
                refine Ew_of (pcₚ := 116) (fun _ => x_iload rfl lc113_7) ?_
                refine v_inv H (o := 0) rfl rfl rfl rfl rfl rfl (by rfl) (C183 (D := puc 512 D) (N := puc 512 N) (HW_subc H oz_E6cls_1 oz_E6cls_5) ((((((hS_c113 0 10 rfl).trans (hS_91 0 10 rfl)).trans (hS_77 0 10 rfl)).trans ((show F15 0 10 = (updF (updF (updF F 0 10 ((D 1 : Nat) : Int)) 0 11 ((8 * a2))) 0 12 ((8 * a3))) 0 10 from (eF15 0 10).trans (hS15 0 10 rfl))))).trans ((show (updF F 0 10 ((D 1 : Nat) : Int)) 0 10 = ((D 1 : Nat) : Int) from rfl))) (n1) (en1) (y77_0_11) ((((hS_c113 0 11 rfl).trans (hS_91 0 11 rfl)).trans (ey77_0_11))) ((8 * a3)) (((((hS_c113 0 12 rfl).trans (hS_91 0 12 rfl)).trans (hS_77 0 12 rfl)).trans ((show F15 0 12 = (updF (updF (updF F 0 10 ((D 1 : Nat) : Int)) 0 11 ((8 * a2))) 0 12 ((8 * a3))) 0 12 from (eF15 0 12).trans (hS15 0 12 rfl))))) (w1) ((funext (mA_c113 1 rfl)).trans (ew1)) (show inr (x91_7) from j91_0) (show 0 ≤ (y77_0_11) ∧ (y77_0_11) ≤ ((8 * a3)) ∧ ((8 * a3)) ≤ 8 * (n1) ∧ (n1) ≤ 65536 from q_235 h3 j77_10) (show 0 ≤ (x91_7) ∧ (x91_7) ≤ 16 from q_234 j91_1) (fun z28 σ28 F28ₚ A28ₚ Hₚ Oₚ hS28 hA28 y28_0_11 ey28_0_11 pz28_0 pz28_1 pz28_2 pz28_3 => ⟨rfl, ?_⟩))
                refine v_backc (c := c) (s := s) H oz_E6cls_1 oz_E6cls_5 Hₚ Oₚ (fun F28 A28 H Oₚ eF28 eA28 => ?_)
                have O := OUT_trans O Oₚ
                -- Share.takeBits
                have cF28 : SF oz_E6clsl_0 F F28 := SF_trans (cF_c113) (SF_gluc (ι := oz_E6clsl_2) oz_E6cls_5 hS28 eF28 (by decide +kernel)) (any_sub (lₚ := [(0, 11)]) (by decide +kernel))
                have mF28 := SFm_of cF28 oz_E6cls_3
                have cA28 : SA oz_E6clsl_1 A A28 := SA_trans (cA_c113) (SA_gluc (ι := oz_E6clsl_2) oz_E6cls_5 hA28 eA28 (by decide +kernel)) (any_subA (lₚ := []) (by decide +kernel))
                have mA28 := SAm_of cA28 oz_E6cls_4
                have r29 : (-2147483648 : Int) ≤ y28_0_11 ∧ y28_0_11 ≤ 2147483647 := rngE (show (-2147483648 : Int) ≤ F28 0 11 ∧ F28 0 11 ≤ 2147483647 from H.krg 0 11 (ltn len_V184_Br_oz_E6cls rfl)) (show F28 0 11 = y28_0_11 from ((eF28 0 11).trans ey28_0_11))
                refine Ew_of (pcₚ := 121) (fun _ => x_istore rfl) ?_
                have htu := pz28_2
                have htx : (z28) = -1 → ((8 * a3)) - q1 < (x91_7) := fun z => by rw [hq1]; exact pz28_3 z
                obtain ⟨q7, hq7⟩ : ∃ q : Int, q = (x91_7) := ⟨_, rfl⟩
                obtain ⟨q9, hq9⟩ : ∃ q : Int, q = (z28) := ⟨_, rfl⟩
                have hu0 : IMP ((0 : Int) ≤ q9) (q9 = bv (ub8 ((w1))) (q1) (q7 : Int).toNat) := by rw [hq9, hq7, hq1]; exact htu
                have hSq : SHn ((x77_6)) (q7) := by rw [hq7]; exact hSn
                have hpq : p2 q7 = p2 (x91_7) := by rw [hq7]
                refine Ew_of (pcₚ := 122) (fun _ => x_iconst rfl) ?_
                refine Ew_of (pcₚ := 124) (fun _ => x_iload rfl (rk_o (lc113_7) rfl rfl)) ?_
                refine w_ishlT rfl (show 0 ≤ x91_7 ∧ x91_7 ≤ 31 from q_236 j91_1) ?_
                refine Ew_of (pcₚ := 126) (fun _ => x_iconst rfl) ?_
                refine w_isub rfl ?_
                refine Ew_of (pcₚ := 129) (fun _ => x_iload rfl (rk_o (lc113_6) rfl rfl)) ?_
                refine w_isub rfl ?_
                refine Ew_of (pcₚ := 132) (fun _ => x_istore rfl) ?_
                have hc186 : ∀ (ls : rO) (σ : rS) (F_c186 : hF) (A_c186 : hA) (xc186_9 : Int), rlook ls 0 = some (.ref (D 0)) → rlook ls 6 = some (I (x77_6)) → rlook ls 7 = some (I (x91_7)) → rlook ls 8 = some (I (x77_8)) → rlook ls 9 = some (I (xc186_9)) → HW V184_Br σ D N F_c186 A_c186 → OUT (V184_Br).length D N σE c s D N σ c s → SF [(0, 11)] F28 F_c186 → SA [] A28 A_c186 → ∀ yc186_0_11 : Int, F_c186 0 11 = yc186_0_11 → (inr (xc186_9)) → (-1 ≤ (xc186_9) ∧ (xc186_9) ≤ (x77_6) + 1) → (IMP ((0 : Int) ≤ (xc186_9)) (SHu (ub8 ((w1))) (8 * (a3)) (q1) ((x77_6)) ((xc186_9)) ((yc186_0_11)))) → (IMP ((xc186_9) < (0 : Int)) (SHx (ub8 ((w1))) (8 * (a3)) (q1) ((x77_6)))) → (8 * (a2) ≤ (yc186_0_11) ∧ (yc186_0_11) ≤ ((8 * a3))) → Ew 184 (d + 1) 186 ls [] σ c s Q := by
                 as_aux_lemma =>
                  intro  ls σ F_c186 A_c186 xc186_9 lc186_0 lc186_6 lc186_7 lc186_8 lc186_9 H O hS_c186 hA_c186   yc186_0_11 eyc186_0_11  jc186_0 jc186_1 jc186_2 jc186_3 jc186_4
                  have cF_c186 : SF oz_E6clsl_0 F F_c186 := SF_trans (cF28) hS_c186 (any_sub (by decide +kernel))
                  have mF_c186 := SFm_of cF_c186 oz_E6cls_3
                  have cA_c186 : SA oz_E6clsl_1 A A_c186 := SA_trans (cA28) hA_c186 (any_subA (by decide +kernel))
                  have mA_c186 := SAm_of cA_c186 oz_E6cls_4
                  try clear pz28_1
                  try clear pz28_3
                  have r31 : (-2147483648 : Int) ≤ yc186_0_11 ∧ yc186_0_11 ≤ 2147483647 := rngE (show (-2147483648 : Int) ≤ F_c186 0 11 ∧ F_c186 0 11 ≤ 2147483647 from H.krg 0 11 (ltn len_V184_Br_oz_E6cls rfl)) (show F_c186 0 11 = yc186_0_11 from (eyc186_0_11))
                  have k186u : IMP ((0 : Int) ≤ (xc186_9)) (SHu (ub8 ((w1))) (8 * (a3)) (q1) ((x77_6)) ((xc186_9)) ((yc186_0_11))) := jc186_2
                  have k186x : IMP ((xc186_9) < (0 : Int)) (SHx (ub8 ((w1))) (8 * (a3)) (q1) ((x77_6))) := jc186_3
                  refine Ew_of (pcₚ := 188) (fun _ => x_iload rfl lc186_9) ?_
                  refine w_ifge (t := 193) rfl rfl (show inr (xc186_9) from jc186_0) (fun b32 => ?_) (fun b32 => ?_)
                  · have hzr : ZRS ((w77_3)) (x77_8) ((u0_1)) := j77_7
                    refine Ew_of (pcₚ := 194) (fun _ => x_aload_n rfl lc186_0) ?_
                    refine v_g H (o := 0) (v := .ref (D 3)) rfl rfl rfl rfl rfl (vrf ((mF_c186 0 2 rfl).trans (pf3))) ?_
                    refine Ew_of (pcₚ := 199) (fun _ => x_iload rfl lc186_8) ?_
                    refine Ew_of (pcₚ := 201) (fun _ => x_iload rfl lc186_9) ?_
                    refine Ew_of (pcₚ := 202) (fun _ => x_iconst rfl) ?_
                    refine w_isub rfl ?_
                    have hmu := mp_updN (g := ((w77_3))) (n := ((u0_1))) (j := (x77_8)) (v := ((xc186_9 - 1))) (by omega) (by omega)
                    have hz8 := hzr ((x77_8)) (by omega) (by omega)
                    have hm8 : mass (((w77_3)) (x77_8)) = 0 := by rw [hz8]; decide
                    have hma := mass_eq (((xc186_9 - 1)))
                    refine v_sI H (o := 3) (z := (xc186_9 - 1)) rfl rfl rfl rfl (n := n3) (en3) (show 0 ≤ x77_8 ∧ x77_8 < n3 from q_238 b26 h5 j77_3) (show inr ((xc186_9 - 1)) from q_237 b32 jc186_0) (fun σ H Oₚ => ?_)
                    have O := OUT_trans O Oₚ
                    have cAu33 : SA oz_E6clsl_1 A (updA A_c186 3 (x77_8) ((xc186_9 - 1))) := SA_upd (cA_c186) rfl
                    have mAu33 := SAm_of cAu33 oz_E6cls_4
                    refine Ew_of (pcₚ := 206) (fun _ => x_iload rfl lc186_6) ?_
                    refine Ew_of (pcₚ := 208) (fun _ => x_iload rfl lc186_9) ?_
                    have hc219 : ∀ (tc219_0 : Int), ∀ (ls : rO) (σ : rS) (F_c219 : hF) (A_c219 : hA) , rlook ls 0 = some (.ref (D 0)) → rlook ls 7 = some (I (x91_7)) → rlook ls 8 = some (I (x77_8)) → rlook ls 9 = some (I (xc186_9)) → HW V184_Br σ D N F_c219 A_c219 → OUT (V184_Br).length D N σE c s D N σ c s → SF [] F_c186 F_c219 → SA [] (updA A_c186 3 (x77_8) ((xc186_9 - 1))) A_c219 → (inr (tc219_0)) → (((xc186_9) ≠ (0) ∧ (tc219_0) = ((xc186_9 - 1))) ∨ ((xc186_9) = (0) ∧ (tc219_0) = (1))) → Ew 184 (d + 1) 219 ls [I (tc219_0), I (x77_6)] σ c s Q := by
                     as_aux_lemma =>
                      intro tc219_0 ls σ F_c219 A_c219  lc219_0 lc219_7 lc219_8 lc219_9 H O hS_c219 hA_c219     jc219_0 jc219_1
                      have cF_c219 : SF oz_E6clsl_0 F F_c219 := SF_trans (cF_c186) hS_c219 (any_sub (by decide +kernel))
                      have mF_c219 := SFm_of cF_c219 oz_E6cls_3
                      have cA_c219 : SA oz_E6clsl_1 A A_c219 := SA_trans (cAu33) hA_c219 (any_subA (by decide +kernel))
                      have mA_c219 := SAm_of cA_c219 oz_E6cls_4
                      refine w_isub rfl ?_
                      refine Ew_of (pcₚ := 222) (fun _ => x_istore rfl) ?_
                      refine Ew_of (pcₚ := 224) (fun _ => x_iload rfl (rk_o (lc219_9) rfl rfl)) ?_
                      refine Ew_of (pcₚ := 225) (fun _ => x_iconst rfl) ?_
                      have hc233 : ∀ (tc233_0 : Int), ∀ (ls : rO) (σ : rS) (F_c233 : hF) (A_c233 : hA) , rlook ls 0 = some (.ref (D 0)) → rlook ls 6 = some (I ((x77_6 - tc219_0))) → rlook ls 7 = some (I (x91_7)) → rlook ls 8 = some (I (x77_8)) → HW V184_Br σ D N F_c233 A_c233 → OUT (V184_Br).length D N σE c s D N σ c s → SF [] F_c219 F_c233 → SA [] A_c219 A_c233 → (inr (tc233_0)) → (((xc186_9) ≠ (1) ∧ (tc233_0) = (0)) ∨ ((xc186_9) = (1) ∧ (tc233_0) = (3))) → Ew 184 (d + 1) 233 ls [I (tc233_0)] σ c s Q := by
                       as_aux_lemma =>
                        intro tc233_0 ls σ F_c233 A_c233  lc233_0 lc233_6 lc233_7 lc233_8 H O hS_c233 hA_c233     jc233_0 jc233_1
                        have cF_c233 : SF oz_E6clsl_0 F F_c233 := SF_trans (cF_c219) hS_c233 (any_sub (by decide +kernel))
                        have mF_c233 := SFm_of cF_c233 oz_E6cls_3
                        have cA_c233 : SA oz_E6clsl_1 A A_c233 := SA_trans (cA_c219) hA_c233 (any_subA (by decide +kernel))
                        have mA_c233 := SAm_of cA_c233 oz_E6cls_4
                        refine Ew_of (pcₚ := 235) (fun _ => x_istore rfl) ?_
                        refine Ew_of (pcₚ := 236) (fun _ => x_iconst rfl) ?_
                        refine Ew_of (pcₚ := 238) (fun _ => x_istore rfl) ?_
                        have hzn : ZRS ((upd1 (w77_3) (x77_8) ((xc186_9 - 1)))) ((x77_8) + 1) ((u0_1)) := fun j qa qb => by rw [upd1_o (by omega)]; exact hzr j (by omega) qb
                        have hge1 : GE1 ((upd1 (w77_3) (x77_8) ((xc186_9 - 1)))) ((u0_1)) := GE1_upd (by assumption) (by omega)
                        have : SHO (ub8 ((w1))) ((a2)) ((a3)) ((a4)) (((u0_1)) - 1) ((((z15 + 5)))) (((u0_1))) ((yc186_0_11)) (((x77_6 - tc219_0))) ((x77_8) + 1) (zf ((tc233_0))) (((upd1 (w77_3) (x77_8) ((xc186_9 - 1))))) := SHO_u j77_q rfl (by omega) (by omega) (k186u (by omega)) rfl (by omega) (by omega) (by have := zf_eq ((tc233_0)); omega) rfl
                        suffices hl238 : ∀ (m : Nat), ∀ (ls : rO) (σ : rS) (F_238 : hF) (A_238 : hA) (x238_8 : Int) (x238_11 : Int) (x238_12 : Int), rlook ls 0 = some (.ref (D 0)) → rlook ls 6 = some (I ((x77_6 - tc219_0))) → rlook ls 7 = some (I (x91_7)) → rlook ls 8 = some (I (x238_8)) → rlook ls 11 = some (I (x238_11)) → rlook ls 12 = some (I (x238_12)) → HW V184_Br σ D N F_238 A_238 → OUT (V184_Br).length D N σE c s D N σ c s → SF [(0, 11)] F_c233 F_238 → SA [] A_c233 A_238 → ∀ y238_0_11 : Int, F_238 0 11 = y238_0_11 → (inr (x238_8)) → (inr (x238_11)) → (inr (x238_12)) → ((0) ≤ (x238_12)) → ((x238_12) ≤ (0) ∨ (x238_12) ≤ ((u0_1))) → (0 ≤ (x238_8) ∧ (x77_8) ≤ (x238_8) ∧ (x238_8) < ((u0_1))) → (ZRS ((upd1 (w77_3) (x77_8) ((xc186_9 - 1)))) ((x238_8) + 1) ((u0_1))) → (0 ≤ (x238_11) ∧ (x238_11) ≤ 3) → ((x238_11) ≠ 3 ∨ 3 * (x238_12) ≤ (x238_8)) → (SHO (ub8 ((w1))) ((a2)) ((a3)) ((a4)) (((u0_1)) - 1) ((((z15 + 5)))) (((u0_1))) ((y238_0_11)) (((x77_6 - tc219_0))) ((x238_8) + 1) (zf ((x238_11))) (((upd1 (w77_3) (x77_8) ((xc186_9 - 1)))))) → (8 * (a2) ≤ (y238_0_11) ∧ (y238_0_11) ≤ ((8 * a3))) → (((u0_1)) - (x238_12)).toNat = m → Ew 184 (d + 1) 238 ls [] σ c s Q from
                          hl238 _ _ _ _ _ (x77_8) (tc233_0) (0) (rk_o (rk_o (lc233_0) rfl rfl) rfl rfl) (rk_o (rk_o (lc233_6) rfl rfl) rfl rfl) (rk_o (rk_o (lc233_7) rfl rfl) rfl rfl) (rk_o (rk_o (lc233_8) rfl rfl) rfl rfl) (rk_o (rk_s) rfl rfl) (rk_s) H O (SF_refl) (SA_refl)   (yc186_0_11) ((((hS_c233 0 11 rfl).trans (hS_c219 0 11 rfl)).trans (eyc186_0_11)))  (show inr (x77_8) from j77_2) (show inr (tc233_0) from jc233_0) (show inr (0) from q_2) (show (0) ≤ (0) from q_1) (show (0) ≤ (0) ∨ (0) ≤ ((u0_1)) from q_5) (show 0 ≤ (x77_8) ∧ (x77_8) ≤ (x77_8) ∧ (x77_8) < ((u0_1)) from q_241 b26 j77_3) (hzn) (show 0 ≤ (tc233_0) ∧ (tc233_0) ≤ 3 from q_240 jc233_1) (show (tc233_0) ≠ 3 ∨ 3 * (0) ≤ (x77_8) from q_239 j77_3) (show SHO (ub8 ((w1))) ((a2)) ((a3)) ((a4)) (((u0_1)) - 1) ((((z15 + 5)))) (((u0_1))) ((yc186_0_11)) (((x77_6 - tc219_0))) ((x77_8) + 1) (zf ((tc233_0))) (((upd1 (w77_3) (x77_8) ((xc186_9 - 1))))) by assumption) (show 8 * (a2) ≤ (yc186_0_11) ∧ (yc186_0_11) ≤ ((8 * a3)) from jc186_4) rfl
                        as_aux_lemma =>
                        intro m
                        induction m using Nat.strongRecOn with
                        | _ m ih238 =>
                          intro ls σ F_238 A_238 x238_8 x238_11 x238_12 l238_0 l238_6 l238_7 l238_8 l238_11 l238_12 H O hS_238 hA_238   y238_0_11 ey238_0_11  j238_0 j238_1 j238_2 j238_3 j238_4 j238_5 j238_6 j238_7 j238_8 j238_9 j238_10 hm238
                          have cF_238 : SF oz_E6clsl_0 F F_238 := SF_trans (cF_c233) hS_238 (any_sub (by decide +kernel))
                          have mF_238 := SFm_of cF_238 oz_E6cls_3
                          have cA_238 : SA oz_E6clsl_1 A A_238 := SA_trans (cA_c233) hA_238 (any_subA (by decide +kernel))
                          have mA_238 := SAm_of cA_238 oz_E6cls_4
                          have r34 : (-2147483648 : Int) ≤ y238_0_11 ∧ y238_0_11 ≤ 2147483647 := rngE (show (-2147483648 : Int) ≤ F_238 0 11 ∧ F_238 0 11 ≤ 2147483647 from H.krg 0 11 (ltn len_V184_Br_oz_E6cls rfl)) (show F_238 0 11 = y238_0_11 from (ey238_0_11))
                          have hzs : ZRS ((upd1 (w77_3) (x77_8) ((xc186_9 - 1)))) ((x238_8) + 1) ((u0_1)) := j238_6
                          have j238_o : SHO (ub8 ((w1))) ((a2)) ((a3)) ((a4)) (((u0_1)) - 1) ((((z15 + 5)))) (((u0_1))) ((y238_0_11)) (((x77_6 - tc219_0))) ((x238_8) + 1) (zf ((x238_11))) (((upd1 (w77_3) (x77_8) ((xc186_9 - 1))))) := j238_9
                          obtain ⟨q11, hq11⟩ : ∃ q : Int, q = (x238_11) := ⟨_, rfl⟩
                          refine Ew_of (pcₚ := 240) (fun _ => x_iload rfl l238_12) ?_
                          refine Ew_of (pcₚ := 241) (fun _ => x_aload_n rfl l238_0) ?_
                          refine v_g H (o := 0) (v := I (u0_1)) rfl rfl rfl rfl rfl (congrArg (fun z : Int => I z) (((mF_238 0 1 rfl).trans (eu0_1)) : F_238 0 1 = u0_1)) ?_
                          refine w_icmpge (t := 289) rfl rfl (show inr (x238_12) from j238_2) (show inr (u0_1) from q_231 h5) (fun b35 => ?_) (fun b35 => ?_)
                          · have : SHO (ub8 ((w1))) ((a2)) ((a3)) ((a4)) (((u0_1)) - 1) ((((z15 + 5)))) (((u0_1))) ((y238_0_11)) (((x77_6 - tc219_0))) ((x238_8) + 1) (0) (((upd1 (w77_3) (x77_8) ((xc186_9 - 1))))) := by have h := j238_o; rw [show zf ((x238_11)) = 0 from by have := zf_eq ((x238_11)); omega] at h; exact h
                            refine Ew_of (pcₚ := 292) (fun _ => x_iinc (len := 3) rfl (l238_8)) ?_
                            refine Ew_of (pcₚ := 77) (fun _ => x_goto rfl rfl) ?_
                            exact ih77 _ (msE hm77 (q_245 j238_5) (q_17 b26)) _ _ _ _ ((x77_6 - tc219_0)) (x91_7) ((x238_8 + 1)) (rk_o (l238_0) rfl rfl) (rk_o (l238_6) rfl rfl) (rk_o (l238_7) rfl rfl) (rk_s) H O (SF_trans (SF_trans (SF_trans (SF_trans (SF_trans (SF_trans (SF_trans (hS_77) hS_91 (any_sub (by decide +kernel))) hS_c113 (any_sub (by decide +kernel))) (SF_gluc (ι := oz_E6clsl_2) oz_E6cls_5 hS28 eF28 (by decide +kernel)) (any_sub (lₚ := [(0, 11)]) (by decide +kernel))) hS_c186 (any_sub (by decide +kernel))) hS_c219 (any_sub (by decide +kernel))) hS_c233 (any_sub (by decide +kernel))) hS_238 (any_sub (by decide +kernel))) (SA_trans (SA_trans (SA_trans (SA_upd (SA_trans (SA_trans (SA_trans (SA_trans (hA_77) hA_91 (any_subA (by decide +kernel))) hA_c113 (any_subA (by decide +kernel))) (SA_gluc (ι := oz_E6clsl_2) oz_E6cls_5 hA28 eA28 (by decide +kernel)) (any_subA (lₚ := []) (by decide +kernel))) hA_c186 (any_subA (by decide +kernel))) rfl) hA_c219 (any_subA (by decide +kernel))) hA_c233 (any_subA (by decide +kernel))) hA_238 (any_subA (by decide +kernel)))   (y238_0_11) ((ey238_0_11)) (upd1 (w77_3) (x77_8) ((xc186_9 - 1))) ((funext (hA_238 3 rfl)).trans ((funext (hA_c233 3 rfl)).trans ((funext (hA_c219 3 rfl)).trans (congrArg (fun q => upd1 q (x77_8) ((xc186_9 - 1))) ((funext (hA_c186 3 rfl)).trans (((show A28 3 = A_c113 3 from (eA28 3))).trans ((funext (hA_c113 3 rfl)).trans ((funext (hA_91 3 rfl)).trans (ew77_3))))))))) (show inr ((x77_6 - tc219_0)) from q_244 b27 b32 j77_5 jc219_0 jc219_1) (show inr (x91_7) from j91_0) (show inr ((x238_8 + 1)) from q_243 h5 j238_5) (show 0 ≤ ((x238_8 + 1)) ∧ ((x238_8 + 1)) ≤ ((u0_1)) from q_242 j238_5) (show mp ((upd1 (w77_3) (x77_8) ((xc186_9 - 1)))) ((u0_1)) = p2 (((z15 + 5))) - ((x77_6 - tc219_0)) by omega) (show 0 ≤ ((x77_6 - tc219_0)) ∧ ((x77_6 - tc219_0)) ≤ 512 by omega) (show 0 ≤ (x91_7) ∧ (x91_7) ≤ 9 ∧ ((x77_6 - tc219_0)) + 1 < 2 * p2 (x91_7) by omega) (hzs) (hge1) (show SHO (ub8 ((w1))) ((a2)) ((a3)) ((a4)) (((u0_1)) - 1) ((((z15 + 5)))) (((u0_1))) ((y238_0_11)) (((x77_6 - tc219_0))) (((x238_8 + 1))) (0) (((upd1 (w77_3) (x77_8) ((xc186_9 - 1))))) by assumption) (show 8 * (a2) ≤ (y238_0_11) ∧ (y238_0_11) ≤ ((8 * a3)) from j238_10) rfl
                          · refine Ew_of (pcₚ := 249) (fun _ => x_iload rfl l238_11) ?_
                            refine Ew_of (pcₚ := 250) (fun _ => x_iconst rfl) ?_
                            refine w_icmpne (t := 289) rfl rfl (show inr (x238_11) from j238_1) (show inr (3) from q_246) (fun b36 => ?_) (fun b36 => ?_)
                            · have : SHO (ub8 ((w1))) ((a2)) ((a3)) ((a4)) (((u0_1)) - 1) ((((z15 + 5)))) (((u0_1))) ((y238_0_11)) (((x77_6 - tc219_0))) ((x238_8) + 1) (0) (((upd1 (w77_3) (x77_8) ((xc186_9 - 1))))) := by have h := j238_o; rw [show zf ((x238_11)) = 0 from by have := zf_eq ((x238_11)); omega] at h; exact h
                              refine Ew_of (pcₚ := 292) (fun _ => x_iinc (len := 3) rfl (l238_8)) ?_
                              refine Ew_of (pcₚ := 77) (fun _ => x_goto rfl rfl) ?_
                              exact ih77 _ (msE hm77 (q_245 j238_5) (q_17 b26)) _ _ _ _ ((x77_6 - tc219_0)) (x91_7) ((x238_8 + 1)) (rk_o (l238_0) rfl rfl) (rk_o (l238_6) rfl rfl) (rk_o (l238_7) rfl rfl) (rk_s) H O (SF_trans (SF_trans (SF_trans (SF_trans (SF_trans (SF_trans (SF_trans (hS_77) hS_91 (any_sub (by decide +kernel))) hS_c113 (any_sub (by decide +kernel))) (SF_gluc (ι := oz_E6clsl_2) oz_E6cls_5 hS28 eF28 (by decide +kernel)) (any_sub (lₚ := [(0, 11)]) (by decide +kernel))) hS_c186 (any_sub (by decide +kernel))) hS_c219 (any_sub (by decide +kernel))) hS_c233 (any_sub (by decide +kernel))) hS_238 (any_sub (by decide +kernel))) (SA_trans (SA_trans (SA_trans (SA_upd (SA_trans (SA_trans (SA_trans (SA_trans (hA_77) hA_91 (any_subA (by decide +kernel))) hA_c113 (any_subA (by decide +kernel))) (SA_gluc (ι := oz_E6clsl_2) oz_E6cls_5 hA28 eA28 (by decide +kernel)) (any_subA (lₚ := []) (by decide +kernel))) hA_c186 (any_subA (by decide +kernel))) rfl) hA_c219 (any_subA (by decide +kernel))) hA_c233 (any_subA (by decide +kernel))) hA_238 (any_subA (by decide +kernel)))   (y238_0_11) ((ey238_0_11)) (upd1 (w77_3) (x77_8) ((xc186_9 - 1))) ((funext (hA_238 3 rfl)).trans ((funext (hA_c233 3 rfl)).trans ((funext (hA_c219 3 rfl)).trans (congrArg (fun q => upd1 q (x77_8) ((xc186_9 - 1))) ((funext (hA_c186 3 rfl)).trans (((show A28 3 = A_c113 3 from (eA28 3))).trans ((funext (hA_c113 3 rfl)).trans ((funext (hA_91 3 rfl)).trans (ew77_3))))))))) (show inr ((x77_6 - tc219_0)) from q_244 b27 b32 j77_5 jc219_0 jc219_1) (show inr (x91_7) from j91_0) (show inr ((x238_8 + 1)) from q_243 h5 j238_5) (show 0 ≤ ((x238_8 + 1)) ∧ ((x238_8 + 1)) ≤ ((u0_1)) from q_242 j238_5) (show mp ((upd1 (w77_3) (x77_8) ((xc186_9 - 1)))) ((u0_1)) = p2 (((z15 + 5))) - ((x77_6 - tc219_0)) by omega) (show 0 ≤ ((x77_6 - tc219_0)) ∧ ((x77_6 - tc219_0)) ≤ 512 by omega) (show 0 ≤ (x91_7) ∧ (x91_7) ≤ 9 ∧ ((x77_6 - tc219_0)) + 1 < 2 * p2 (x91_7) by omega) (hzs) (hge1) (show SHO (ub8 ((w1))) ((a2)) ((a3)) ((a4)) (((u0_1)) - 1) ((((z15 + 5)))) (((u0_1))) ((y238_0_11)) (((x77_6 - tc219_0))) (((x238_8 + 1))) (0) (((upd1 (w77_3) (x77_8) ((xc186_9 - 1))))) by assumption) (show 8 * (a2) ≤ (y238_0_11) ∧ (y238_0_11) ≤ ((8 * a3)) from j238_10) rfl
                            · refine Ew_of (pcₚ := 254) (fun _ => x_aload_n rfl l238_0) ?_
                              refine Ew_of (pcₚ := 255) (fun _ => x_iconst rfl) ?_
                              refine v_inv H (o := 0) rfl rfl rfl rfl rfl rfl (by rfl) (C183 (D := puc 512 D) (N := puc 512 N) (HW_subc H oz_E6cls_1 oz_E6cls_5) (((((((((((hS_238 0 10 rfl).trans (hS_c233 0 10 rfl)).trans (hS_c219 0 10 rfl)).trans (hS_c186 0 10 rfl)).trans ((show F28 0 10 = F_c113 0 10 from (eF28 0 10).trans (hS28 0 10 rfl)))).trans (hS_c113 0 10 rfl)).trans (hS_91 0 10 rfl)).trans (hS_77 0 10 rfl)).trans ((show F15 0 10 = (updF (updF (updF F 0 10 ((D 1 : Nat) : Int)) 0 11 ((8 * a2))) 0 12 ((8 * a3))) 0 10 from (eF15 0 10).trans (hS15 0 10 rfl))))).trans ((show (updF F 0 10 ((D 1 : Nat) : Int)) 0 10 = ((D 1 : Nat) : Int) from rfl))) (n1) (en1) (y238_0_11) ((ey238_0_11)) ((8 * a3)) ((((((((((hS_238 0 12 rfl).trans (hS_c233 0 12 rfl)).trans (hS_c219 0 12 rfl)).trans (hS_c186 0 12 rfl)).trans ((show F28 0 12 = F_c113 0 12 from (eF28 0 12).trans (hS28 0 12 rfl)))).trans (hS_c113 0 12 rfl)).trans (hS_91 0 12 rfl)).trans (hS_77 0 12 rfl)).trans ((show F15 0 12 = (updF (updF (updF F 0 10 ((D 1 : Nat) : Int)) 0 11 ((8 * a2))) 0 12 ((8 * a3))) 0 12 from (eF15 0 12).trans (hS15 0 12 rfl))))) (w1) ((funext (mA_238 1 rfl)).trans (ew1)) (show inr (2) from q_122) (show 0 ≤ (y238_0_11) ∧ (y238_0_11) ≤ ((8 * a3)) ∧ ((8 * a3)) ≤ 8 * (n1) ∧ (n1) ≤ 65536 from q_235 h3 j238_10) (show 0 ≤ (2) ∧ (2) ≤ 16 from q_247) (fun z37 σ37 F37ₚ A37ₚ Hₚ Oₚ hS37 hA37 y37_0_11 ey37_0_11 pz37_0 pz37_1 pz37_2 pz37_3 => ⟨rfl, ?_⟩))
                              refine v_backc (c := c) (s := s) H oz_E6cls_1 oz_E6cls_5 Hₚ Oₚ (fun F37 A37 H Oₚ eF37 eA37 => ?_)
                              have O := OUT_trans O Oₚ
                              -- Share.takeBits
                              have cF37 : SF oz_E6clsl_0 F F37 := SF_trans (cF_238) (SF_gluc (ι := oz_E6clsl_2) oz_E6cls_5 hS37 eF37 (by decide +kernel)) (any_sub (lₚ := [(0, 11)]) (by decide +kernel))
                              have mF37 := SFm_of cF37 oz_E6cls_3
                              have cA37 : SA oz_E6clsl_1 A A37 := SA_trans (cA_238) (SA_gluc (ι := oz_E6clsl_2) oz_E6cls_5 hA37 eA37 (by decide +kernel)) (any_subA (lₚ := []) (by decide +kernel))
                              have mA37 := SAm_of cA37 oz_E6cls_4
                              have r38 : (-2147483648 : Int) ≤ y37_0_11 ∧ y37_0_11 ≤ 2147483647 := rngE (show (-2147483648 : Int) ≤ F37 0 11 ∧ F37 0 11 ≤ 2147483647 from H.krg 0 11 (ltn len_V184_Br_oz_E6cls rfl)) (show F37 0 11 = y37_0_11 from ((eF37 0 11).trans ey37_0_11))
                              refine Ew_of (pcₚ := 260) (fun _ => x_istore rfl) ?_
                              have hz2 := pz37_2
                              have hz3 := pz37_3
                              refine Ew_of (pcₚ := 262) (fun _ => x_iload rfl (rk_o (l238_8) rfl rfl)) ?_
                              refine Ew_of (pcₚ := 264) (fun _ => x_iload rfl rk_s) ?_
                              refine w_iadd rfl ?_
                              refine Ew_of (pcₚ := 267) (fun _ => x_istore rfl) ?_
                              refine Ew_of (pcₚ := 269) (fun _ => x_iload rfl (rk_o (rk_s) rfl rfl)) ?_
                              refine w_iflt (t := 281) rfl rfl (show inr (z37) from pz37_0) (fun b39 => ?_) (fun b39 => ?_)
                              · have hno : (-1 : Int) = -1 ∨ SL ((upd1 (w77_3) (x77_8) ((xc186_9 - 1)))) ((u0_1)) (((z15 + 5))) ((w4)) ((w5)) ((w6)) ((w2)) ((w8)) ((w9)) := .inl rfl
                                have : SHA (ub8 ((w1))) ((a2)) ((a3)) ((a4)) (((u0_1)) - 1) (-1) (((z15 + 5))) (((u0_1))) ((upd1 (w77_3) (x77_8) ((xc186_9 - 1)))) := by exact SHO_f j238_o rfl (.inr ⟨by have := zf_eq (x238_11); omega, .inl (by omega)⟩)
                                refine Ew_of (pcₚ := 282) (fun _ => x_iconst rfl) ?_
                                exact w_ireturn rfl (k ((-1)) _ _ _ H O (cF37) (cA37) ((z15 + 5)) (((((((((((show F37 0 0 = F_238 0 0 from (eF37 0 0).trans (hS37 0 0 rfl))).trans (hS_238 0 0 rfl)).trans (hS_c233 0 0 rfl)).trans (hS_c219 0 0 rfl)).trans (hS_c186 0 0 rfl)).trans ((show F28 0 0 = F_c113 0 0 from (eF28 0 0).trans (hS28 0 0 rfl)))).trans (hS_c113 0 0 rfl)).trans (hS_91 0 0 rfl)).trans (hS_77 0 0 rfl))) (w2) (((show A37 2 = A_238 2 from (eA37 2))).trans ((funext (hA_238 2 rfl)).trans ((funext (hA_c233 2 rfl)).trans ((funext (hA_c219 2 rfl)).trans ((funext (hA_c186 2 rfl)).trans (((show A28 2 = A_c113 2 from (eA28 2))).trans ((funext (hA_c113 2 rfl)).trans ((funext (hA_91 2 rfl)).trans ((funext (hA_77 2 rfl)).trans ((funext (hA20 2 rfl)).trans (((show A15 2 = A 2 from (eA15 2))).trans (ew2)))))))))))) (upd1 (w77_3) (x77_8) ((xc186_9 - 1))) (((show A37 3 = A_238 3 from (eA37 3))).trans ((funext (hA_238 3 rfl)).trans ((funext (hA_c233 3 rfl)).trans ((funext (hA_c219 3 rfl)).trans (congrArg (fun q => upd1 q (x77_8) ((xc186_9 - 1))) ((funext (hA_c186 3 rfl)).trans (((show A28 3 = A_c113 3 from (eA28 3))).trans ((funext (hA_c113 3 rfl)).trans ((funext (hA_91 3 rfl)).trans (ew77_3)))))))))) (w4) (((show A37 4 = A_238 4 from (eA37 4))).trans ((funext (hA_238 4 rfl)).trans ((funext (hA_c233 4 rfl)).trans ((funext (hA_c219 4 rfl)).trans ((funext (hA_c186 4 rfl)).trans (((show A28 4 = A_c113 4 from (eA28 4))).trans ((funext (hA_c113 4 rfl)).trans ((funext (hA_91 4 rfl)).trans ((funext (hA_77 4 rfl)).trans ((funext (hA20 4 rfl)).trans (((show A15 4 = A 4 from (eA15 4))).trans (ew4)))))))))))) (w5) (((show A37 5 = A_238 5 from (eA37 5))).trans ((funext (hA_238 5 rfl)).trans ((funext (hA_c233 5 rfl)).trans ((funext (hA_c219 5 rfl)).trans ((funext (hA_c186 5 rfl)).trans (((show A28 5 = A_c113 5 from (eA28 5))).trans ((funext (hA_c113 5 rfl)).trans ((funext (hA_91 5 rfl)).trans ((funext (hA_77 5 rfl)).trans ((funext (hA20 5 rfl)).trans (((show A15 5 = A 5 from (eA15 5))).trans (ew5)))))))))))) (w6) (((show A37 6 = A_238 6 from (eA37 6))).trans ((funext (hA_238 6 rfl)).trans ((funext (hA_c233 6 rfl)).trans ((funext (hA_c219 6 rfl)).trans ((funext (hA_c186 6 rfl)).trans (((show A28 6 = A_c113 6 from (eA28 6))).trans ((funext (hA_c113 6 rfl)).trans ((funext (hA_91 6 rfl)).trans ((funext (hA_77 6 rfl)).trans ((funext (hA20 6 rfl)).trans (((show A15 6 = A 6 from (eA15 6))).trans (ew6)))))))))))) (w8) (((show A37 8 = A_238 8 from (eA37 8))).trans ((funext (hA_238 8 rfl)).trans ((funext (hA_c233 8 rfl)).trans ((funext (hA_c219 8 rfl)).trans ((funext (hA_c186 8 rfl)).trans (((show A28 8 = A_c113 8 from (eA28 8))).trans ((funext (hA_c113 8 rfl)).trans ((funext (hA_91 8 rfl)).trans ((funext (hA_77 8 rfl)).trans ((funext (hA20 8 rfl)).trans (((show A15 8 = A 8 from (eA15 8))).trans (ew8)))))))))))) (w9) (((show A37 9 = A_238 9 from (eA37 9))).trans ((funext (hA_238 9 rfl)).trans ((funext (hA_c233 9 rfl)).trans ((funext (hA_c219 9 rfl)).trans ((funext (hA_c186 9 rfl)).trans (((show A28 9 = A_c113 9 from (eA28 9))).trans ((funext (hA_c113 9 rfl)).trans ((funext (hA_91 9 rfl)).trans ((funext (hA_77 9 rfl)).trans ((funext (hA20 9 rfl)).trans (((show A15 9 = A 9 from (eA15 9))).trans (ew9)))))))))))) (((((((((((((show F37 0 10 = F_238 0 10 from (eF37 0 10).trans (hS37 0 10 rfl))).trans (hS_238 0 10 rfl)).trans (hS_c233 0 10 rfl)).trans (hS_c219 0 10 rfl)).trans (hS_c186 0 10 rfl)).trans ((show F28 0 10 = F_c113 0 10 from (eF28 0 10).trans (hS28 0 10 rfl)))).trans (hS_c113 0 10 rfl)).trans (hS_91 0 10 rfl)).trans (hS_77 0 10 rfl)).trans ((show F15 0 10 = (updF (updF (updF F 0 10 ((D 1 : Nat) : Int)) 0 11 ((8 * a2))) 0 12 ((8 * a3))) 0 10 from (eF15 0 10).trans (hS15 0 10 rfl))))).trans ((show (updF F 0 10 ((D 1 : Nat) : Int)) 0 10 = ((D 1 : Nat) : Int) from rfl))) (show inr ((-1)) from q_63) (show ((-1)) = -1 ∨ a2 ≤ ((-1)) ∧ ((-1)) ≤ a3 by first | exact q_218 | omega) (show ((-1)) = -1 ∧ ((z15 + 5)) = (u0_0) ∨ 5 ≤ ((z15 + 5)) ∧ ((z15 + 5)) ≤ a4 by first | exact q_230 b18 hL5 | omega) (show ((-1)) = -1 ∨ SL ((upd1 (w77_3) (x77_8) ((xc186_9 - 1)))) ((u0_1)) (((z15 + 5))) ((w4)) ((w5)) ((w6)) ((w2)) ((w8)) ((w9)) by assumption) (show SHA (ub8 ((w1))) (a2) (a3) (a4) (((u0_1)) - 1) (((-1))) (((z15 + 5))) (((u0_1))) ((upd1 (w77_3) (x77_8) ((xc186_9 - 1)))) by assumption))
                              · refine Ew_of (pcₚ := 274) (fun _ => x_iload rfl rk_s) ?_
                                refine Ew_of (pcₚ := 275) (fun _ => x_aload_n rfl (rk_o (rk_o (l238_0) rfl rfl) rfl rfl)) ?_
                                refine v_g H (o := 0) (v := I (u0_1)) rfl rfl rfl rfl rfl (congrArg (fun z : Int => I z) (((mF37 0 1 rfl).trans (eu0_1)) : F37 0 1 = u0_1)) ?_
                                refine w_icmplt (t := 283) rfl rfl (show inr ((x238_8 + z37)) from q_248 b39 h5 hp22 j238_0 j238_5 pz37_1) (show inr (u0_1) from q_231 h5) (fun b40 => ?_) (fun b40 => ?_)
                                · refine Ew_of (pcₚ := 286) (fun _ => x_iinc (len := 3) rfl (rk_o (rk_o (l238_12) rfl rfl) rfl rfl)) ?_
                                  refine Ew_of (pcₚ := 238) (fun _ => x_goto rfl rfl) ?_
                                  have hzw : ZRS ((upd1 (w77_3) (x77_8) ((xc186_9 - 1)))) (((x238_8 + z37)) + 1) ((u0_1)) := fun j qa qb => hzs j (by omega) qb
                                  have : SHO (ub8 ((w1))) ((a2)) ((a3)) ((a4)) (((u0_1)) - 1) ((((z15 + 5)))) (((u0_1))) ((y37_0_11)) (((x77_6 - tc219_0))) (((x238_8 + z37)) + 1) (zf ((z37))) (((upd1 (w77_3) (x77_8) ((xc186_9 - 1))))) := SHO_z j238_o (by have := zf_eq (x238_11); omega) (by omega) (hz2 (by omega)) (by omega) (by omega) (by omega) (by have := zf_eq ((z37)); omega)
                                  exact ih238 _ (msE hm238 q_16 (q_17 b35)) _ _ _ _ ((x238_8 + z37)) (z37) ((x238_12 + 1)) (rk_o (rk_o (rk_o (l238_0) rfl rfl) rfl rfl) rfl rfl) (rk_o (rk_o (rk_o (l238_6) rfl rfl) rfl rfl) rfl rfl) (rk_o (rk_o (rk_o (l238_7) rfl rfl) rfl rfl) rfl rfl) (rk_o (rk_s) rfl rfl) (rk_o (rk_o (rk_s) rfl rfl) rfl rfl) (rk_s) H O (SF_trans (hS_238) (SF_gluc (ι := oz_E6clsl_2) oz_E6cls_5 hS37 eF37 (by decide +kernel)) (any_sub (lₚ := [(0, 11)]) (by decide +kernel))) (SA_trans (hA_238) (SA_gluc (ι := oz_E6clsl_2) oz_E6cls_5 hA37 eA37 (by decide +kernel)) (any_subA (lₚ := []) (by decide +kernel)))   (y37_0_11) (((eF37 0 11).trans ey37_0_11))  (show inr ((x238_8 + z37)) from q_253 b39 b40 h5 j238_5) (show inr (z37) from pz37_0) (show inr ((x238_12 + 1)) from q_252 b35 h5 j238_3) (show (0) ≤ ((x238_12 + 1)) from q_14 j238_3) (show ((x238_12 + 1)) ≤ (0) ∨ ((x238_12 + 1)) ≤ ((u0_1)) from q_13 b35) (show 0 ≤ ((x238_8 + z37)) ∧ (x77_8) ≤ ((x238_8 + z37)) ∧ ((x238_8 + z37)) < ((u0_1)) from q_251 b39 b40 j238_5) (hzw) (show 0 ≤ (z37) ∧ (z37) ≤ 3 from q_250 b39 hp22 pz37_1) (show (z37) ≠ 3 ∨ 3 * ((x238_12 + 1)) ≤ ((x238_8 + z37)) by omega) (show SHO (ub8 ((w1))) ((a2)) ((a3)) ((a4)) (((u0_1)) - 1) ((((z15 + 5)))) (((u0_1))) ((y37_0_11)) (((x77_6 - tc219_0))) (((x238_8 + z37)) + 1) (zf ((z37))) (((upd1 (w77_3) (x77_8) ((xc186_9 - 1))))) by assumption) (show 8 * (a2) ≤ (y37_0_11) ∧ (y37_0_11) ≤ ((8 * a3)) from q_249 j238_10 pz37_1) rfl
                                · have hno : (-1 : Int) = -1 ∨ SL ((upd1 (w77_3) (x77_8) ((xc186_9 - 1)))) ((u0_1)) (((z15 + 5))) ((w4)) ((w5)) ((w6)) ((w2)) ((w8)) ((w9)) := .inl rfl
                                  have : SHA (ub8 ((w1))) ((a2)) ((a3)) ((a4)) (((u0_1)) - 1) (-1) (((z15 + 5))) (((u0_1))) ((upd1 (w77_3) (x77_8) ((xc186_9 - 1)))) := by exact SHO_f j238_o rfl (.inr ⟨by have := zf_eq (x238_11); omega, .inr ⟨by omega, by have h2 := hz2 (by omega); have h3 : bv _ _ 2 = _ := h2.symm; omega⟩⟩)
                                  refine Ew_of (pcₚ := 282) (fun _ => x_iconst rfl) ?_
                                  exact w_ireturn rfl (k ((-1)) _ _ _ H O (cF37) (cA37) ((z15 + 5)) (((((((((((show F37 0 0 = F_238 0 0 from (eF37 0 0).trans (hS37 0 0 rfl))).trans (hS_238 0 0 rfl)).trans (hS_c233 0 0 rfl)).trans (hS_c219 0 0 rfl)).trans (hS_c186 0 0 rfl)).trans ((show F28 0 0 = F_c113 0 0 from (eF28 0 0).trans (hS28 0 0 rfl)))).trans (hS_c113 0 0 rfl)).trans (hS_91 0 0 rfl)).trans (hS_77 0 0 rfl))) (w2) (((show A37 2 = A_238 2 from (eA37 2))).trans ((funext (hA_238 2 rfl)).trans ((funext (hA_c233 2 rfl)).trans ((funext (hA_c219 2 rfl)).trans ((funext (hA_c186 2 rfl)).trans (((show A28 2 = A_c113 2 from (eA28 2))).trans ((funext (hA_c113 2 rfl)).trans ((funext (hA_91 2 rfl)).trans ((funext (hA_77 2 rfl)).trans ((funext (hA20 2 rfl)).trans (((show A15 2 = A 2 from (eA15 2))).trans (ew2)))))))))))) (upd1 (w77_3) (x77_8) ((xc186_9 - 1))) (((show A37 3 = A_238 3 from (eA37 3))).trans ((funext (hA_238 3 rfl)).trans ((funext (hA_c233 3 rfl)).trans ((funext (hA_c219 3 rfl)).trans (congrArg (fun q => upd1 q (x77_8) ((xc186_9 - 1))) ((funext (hA_c186 3 rfl)).trans (((show A28 3 = A_c113 3 from (eA28 3))).trans ((funext (hA_c113 3 rfl)).trans ((funext (hA_91 3 rfl)).trans (ew77_3)))))))))) (w4) (((show A37 4 = A_238 4 from (eA37 4))).trans ((funext (hA_238 4 rfl)).trans ((funext (hA_c233 4 rfl)).trans ((funext (hA_c219 4 rfl)).trans ((funext (hA_c186 4 rfl)).trans (((show A28 4 = A_c113 4 from (eA28 4))).trans ((funext (hA_c113 4 rfl)).trans ((funext (hA_91 4 rfl)).trans ((funext (hA_77 4 rfl)).trans ((funext (hA20 4 rfl)).trans (((show A15 4 = A 4 from (eA15 4))).trans (ew4)))))))))))) (w5) (((show A37 5 = A_238 5 from (eA37 5))).trans ((funext (hA_238 5 rfl)).trans ((funext (hA_c233 5 rfl)).trans ((funext (hA_c219 5 rfl)).trans ((funext (hA_c186 5 rfl)).trans (((show A28 5 = A_c113 5 from (eA28 5))).trans ((funext (hA_c113 5 rfl)).trans ((funext (hA_91 5 rfl)).trans ((funext (hA_77 5 rfl)).trans ((funext (hA20 5 rfl)).trans (((show A15 5 = A 5 from (eA15 5))).trans (ew5)))))))))))) (w6) (((show A37 6 = A_238 6 from (eA37 6))).trans ((funext (hA_238 6 rfl)).trans ((funext (hA_c233 6 rfl)).trans ((funext (hA_c219 6 rfl)).trans ((funext (hA_c186 6 rfl)).trans (((show A28 6 = A_c113 6 from (eA28 6))).trans ((funext (hA_c113 6 rfl)).trans ((funext (hA_91 6 rfl)).trans ((funext (hA_77 6 rfl)).trans ((funext (hA20 6 rfl)).trans (((show A15 6 = A 6 from (eA15 6))).trans (ew6)))))))))))) (w8) (((show A37 8 = A_238 8 from (eA37 8))).trans ((funext (hA_238 8 rfl)).trans ((funext (hA_c233 8 rfl)).trans ((funext (hA_c219 8 rfl)).trans ((funext (hA_c186 8 rfl)).trans (((show A28 8 = A_c113 8 from (eA28 8))).trans ((funext (hA_c113 8 rfl)).trans ((funext (hA_91 8 rfl)).trans ((funext (hA_77 8 rfl)).trans ((funext (hA20 8 rfl)).trans (((show A15 8 = A 8 from (eA15 8))).trans (ew8)))))))))))) (w9) (((show A37 9 = A_238 9 from (eA37 9))).trans ((funext (hA_238 9 rfl)).trans ((funext (hA_c233 9 rfl)).trans ((funext (hA_c219 9 rfl)).trans ((funext (hA_c186 9 rfl)).trans (((show A28 9 = A_c113 9 from (eA28 9))).trans ((funext (hA_c113 9 rfl)).trans ((funext (hA_91 9 rfl)).trans ((funext (hA_77 9 rfl)).trans ((funext (hA20 9 rfl)).trans (((show A15 9 = A 9 from (eA15 9))).trans (ew9)))))))))))) (((((((((((((show F37 0 10 = F_238 0 10 from (eF37 0 10).trans (hS37 0 10 rfl))).trans (hS_238 0 10 rfl)).trans (hS_c233 0 10 rfl)).trans (hS_c219 0 10 rfl)).trans (hS_c186 0 10 rfl)).trans ((show F28 0 10 = F_c113 0 10 from (eF28 0 10).trans (hS28 0 10 rfl)))).trans (hS_c113 0 10 rfl)).trans (hS_91 0 10 rfl)).trans (hS_77 0 10 rfl)).trans ((show F15 0 10 = (updF (updF (updF F 0 10 ((D 1 : Nat) : Int)) 0 11 ((8 * a2))) 0 12 ((8 * a3))) 0 10 from (eF15 0 10).trans (hS15 0 10 rfl))))).trans ((show (updF F 0 10 ((D 1 : Nat) : Int)) 0 10 = ((D 1 : Nat) : Int) from rfl))) (show inr ((-1)) from q_63) (show ((-1)) = -1 ∨ a2 ≤ ((-1)) ∧ ((-1)) ≤ a3 by first | exact q_218 | omega) (show ((-1)) = -1 ∧ ((z15 + 5)) = (u0_0) ∨ 5 ≤ ((z15 + 5)) ∧ ((z15 + 5)) ≤ a4 by first | exact q_230 b18 hL5 | omega) (show ((-1)) = -1 ∨ SL ((upd1 (w77_3) (x77_8) ((xc186_9 - 1)))) ((u0_1)) (((z15 + 5))) ((w4)) ((w5)) ((w6)) ((w2)) ((w8)) ((w9)) by assumption) (show SHA (ub8 ((w1))) (a2) (a3) (a4) (((u0_1)) - 1) (((-1))) (((z15 + 5))) (((u0_1))) ((upd1 (w77_3) (x77_8) ((xc186_9 - 1)))) by assumption))
                      refine w_icmpne (t := 232) rfl rfl (show inr (xc186_9) from jc186_0) (show inr (1) from q_135) (fun b41 => ?_) (fun b41 => ?_)
                      · refine Ew_of (pcₚ := 233) (fun _ => x_iconst rfl) ?_
                        exact hc233 (0) _ _ _ _  (rk_o (lc219_0) rfl rfl) (rk_s) (rk_o (lc219_7) rfl rfl) (rk_o (lc219_8) rfl rfl) H O (SF_refl) (SA_refl)     (show inr (0) from q_2) (show ((xc186_9) ≠ (1) ∧ (0) = (0)) ∨ ((xc186_9) = (1) ∧ (0) = (3)) from q_254 b41)
                      · refine Ew_of (pcₚ := 229) (fun _ => x_iconst rfl) ?_
                        refine Ew_of (pcₚ := 233) (fun _ => x_goto rfl rfl) ?_
                        exact hc233 (3) _ _ _ _  (rk_o (lc219_0) rfl rfl) (rk_s) (rk_o (lc219_7) rfl rfl) (rk_o (lc219_8) rfl rfl) H O (SF_refl) (SA_refl)     (show inr (3) from q_246) (show ((xc186_9) ≠ (1) ∧ (3) = (0)) ∨ ((xc186_9) = (1) ∧ (3) = (3)) from q_255 b41)
                    refine w_ifne (t := 215) rfl rfl (show inr (xc186_9) from jc186_0) (fun b42 => ?_) (fun b42 => ?_)
                    · refine Ew_of (pcₚ := 217) (fun _ => x_iload rfl lc186_9) ?_
                      refine Ew_of (pcₚ := 218) (fun _ => x_iconst rfl) ?_
                      refine w_isub rfl ?_
                      exact hc219 ((xc186_9 - 1)) _ _ _ _  (lc186_0) (lc186_7) (lc186_8) (lc186_9) H O (SF_refl) (SA_refl)     (show inr ((xc186_9 - 1)) from q_237 b32 jc186_0) (show ((xc186_9) ≠ (0) ∧ ((xc186_9 - 1)) = ((xc186_9 - 1))) ∨ ((xc186_9) = (0) ∧ ((xc186_9 - 1)) = (1)) from q_256 b42)
                    · refine Ew_of (pcₚ := 212) (fun _ => x_iconst rfl) ?_
                      refine Ew_of (pcₚ := 219) (fun _ => x_goto rfl rfl) ?_
                      exact hc219 (1) _ _ _ _  (lc186_0) (lc186_7) (lc186_8) (lc186_9) H O (SF_refl) (SA_refl)     (show inr (1) from q_135) (show ((xc186_9) ≠ (0) ∧ (1) = ((xc186_9 - 1))) ∨ ((xc186_9) = (0) ∧ (1) = (1)) from q_257 b42)
                  · have hno : (-1 : Int) = -1 ∨ SL ((w77_3)) ((u0_1)) (((z15 + 5))) ((w4)) ((w5)) ((w6)) ((w2)) ((w8)) ((w9)) := .inl rfl
                    have : SHA (ub8 ((w1))) ((a2)) ((a3)) ((a4)) (((u0_1)) - 1) (-1) (((z15 + 5))) (((u0_1))) ((w77_3)) := SHO_f j77_q rfl (.inl ⟨rfl, by omega, .inr ⟨by omega, k186x (by omega)⟩⟩)
                    refine Ew_of (pcₚ := 192) (fun _ => x_iconst rfl) ?_
                    exact w_ireturn rfl (k ((-1)) _ _ _ H O (cF_c186) (cA_c186) ((z15 + 5)) ((((((hS_c186 0 0 rfl).trans ((show F28 0 0 = F_c113 0 0 from (eF28 0 0).trans (hS28 0 0 rfl)))).trans (hS_c113 0 0 rfl)).trans (hS_91 0 0 rfl)).trans (hS_77 0 0 rfl))) (w2) ((funext (hA_c186 2 rfl)).trans (((show A28 2 = A_c113 2 from (eA28 2))).trans ((funext (hA_c113 2 rfl)).trans ((funext (hA_91 2 rfl)).trans ((funext (hA_77 2 rfl)).trans ((funext (hA20 2 rfl)).trans (((show A15 2 = A 2 from (eA15 2))).trans (ew2)))))))) (w77_3) ((funext (hA_c186 3 rfl)).trans (((show A28 3 = A_c113 3 from (eA28 3))).trans ((funext (hA_c113 3 rfl)).trans ((funext (hA_91 3 rfl)).trans (ew77_3))))) (w4) ((funext (hA_c186 4 rfl)).trans (((show A28 4 = A_c113 4 from (eA28 4))).trans ((funext (hA_c113 4 rfl)).trans ((funext (hA_91 4 rfl)).trans ((funext (hA_77 4 rfl)).trans ((funext (hA20 4 rfl)).trans (((show A15 4 = A 4 from (eA15 4))).trans (ew4)))))))) (w5) ((funext (hA_c186 5 rfl)).trans (((show A28 5 = A_c113 5 from (eA28 5))).trans ((funext (hA_c113 5 rfl)).trans ((funext (hA_91 5 rfl)).trans ((funext (hA_77 5 rfl)).trans ((funext (hA20 5 rfl)).trans (((show A15 5 = A 5 from (eA15 5))).trans (ew5)))))))) (w6) ((funext (hA_c186 6 rfl)).trans (((show A28 6 = A_c113 6 from (eA28 6))).trans ((funext (hA_c113 6 rfl)).trans ((funext (hA_91 6 rfl)).trans ((funext (hA_77 6 rfl)).trans ((funext (hA20 6 rfl)).trans (((show A15 6 = A 6 from (eA15 6))).trans (ew6)))))))) (w8) ((funext (hA_c186 8 rfl)).trans (((show A28 8 = A_c113 8 from (eA28 8))).trans ((funext (hA_c113 8 rfl)).trans ((funext (hA_91 8 rfl)).trans ((funext (hA_77 8 rfl)).trans ((funext (hA20 8 rfl)).trans (((show A15 8 = A 8 from (eA15 8))).trans (ew8)))))))) (w9) ((funext (hA_c186 9 rfl)).trans (((show A28 9 = A_c113 9 from (eA28 9))).trans ((funext (hA_c113 9 rfl)).trans ((funext (hA_91 9 rfl)).trans ((funext (hA_77 9 rfl)).trans ((funext (hA20 9 rfl)).trans (((show A15 9 = A 9 from (eA15 9))).trans (ew9)))))))) ((((((((hS_c186 0 10 rfl).trans ((show F28 0 10 = F_c113 0 10 from (eF28 0 10).trans (hS28 0 10 rfl)))).trans (hS_c113 0 10 rfl)).trans (hS_91 0 10 rfl)).trans (hS_77 0 10 rfl)).trans ((show F15 0 10 = (updF (updF (updF F 0 10 ((D 1 : Nat) : Int)) 0 11 ((8 * a2))) 0 12 ((8 * a3))) 0 10 from (eF15 0 10).trans (hS15 0 10 rfl))))).trans ((show (updF F 0 10 ((D 1 : Nat) : Int)) 0 10 = ((D 1 : Nat) : Int) from rfl))) (show inr ((-1)) from q_63) (show ((-1)) = -1 ∨ a2 ≤ ((-1)) ∧ ((-1)) ≤ a3 by first | exact q_218 | omega) (show ((-1)) = -1 ∧ ((z15 + 5)) = (u0_0) ∨ 5 ≤ ((z15 + 5)) ∧ ((z15 + 5)) ≤ a4 by first | exact q_230 b18 hL5 | omega) (show ((-1)) = -1 ∨ SL ((w77_3)) ((u0_1)) (((z15 + 5))) ((w4)) ((w5)) ((w6)) ((w2)) ((w8)) ((w9)) by assumption) (show SHA (ub8 ((w1))) (a2) (a3) (a4) (((u0_1)) - 1) (((-1))) (((z15 + 5))) (((u0_1))) ((w77_3)) by assumption))
                refine Ew_of (pcₚ := 134) (fun _ => x_iload rfl (rk_o (rk_s) rfl rfl)) ?_
                refine Ew_of (pcₚ := 136) (fun _ => x_iload rfl rk_s) ?_
                refine w_icmplt (t := 186) rfl rfl (show inr (z28) from pz28_0) (show inr ((((2 * p2 (x91_7)) - 2) - x77_6)) from q_258 hlo j77_5 j91_1) (fun b43 => ?_) (fun b43 => ?_)
                · have : IMP ((0 : Int) ≤ (z28)) (SHu (ub8 ((w1))) (8 * (a3)) (q1) ((x77_6)) ((z28)) ((y28_0_11))) := by exact fun z => SHu_a (m := 2 * p2 q7 - 2 - (x77_6)) hSq (by omega) (by rw [← hq9]; exact hu0 (by omega)) rfl (by omega) (by omega)
                  have : IMP ((z28) < (0 : Int)) (SHx (ub8 ((w1))) (8 * (a3)) (q1) ((x77_6))) := by exact fun z => SHx_a hSq (by omega)
                  exact hc186  _ _ _ _ (z28) (rk_o (rk_o (lc113_0) rfl rfl) rfl rfl) (rk_o (rk_o (lc113_6) rfl rfl) rfl rfl) (rk_o (rk_o (lc113_7) rfl rfl) rfl rfl) (rk_o (rk_o (lc113_8) rfl rfl) rfl rfl) (rk_o (rk_s) rfl rfl) H O (SF_refl) (SA_refl)   (y28_0_11) (((eF28 0 11).trans ey28_0_11))  (show inr (z28) from pz28_0) (show -1 ≤ (z28) ∧ (z28) ≤ (x77_6) + 1 from q_260 b43 hlo pz28_1) (show IMP ((0 : Int) ≤ (z28)) (SHu (ub8 ((w1))) (8 * (a3)) (q1) ((x77_6)) ((z28)) ((y28_0_11))) by assumption) (show IMP ((z28) < (0 : Int)) (SHx (ub8 ((w1))) (8 * (a3)) (q1) ((x77_6))) by assumption) (show 8 * (a2) ≤ (y28_0_11) ∧ (y28_0_11) ≤ ((8 * a3)) from q_259 j77_10 j91_1 pz28_1)
                · refine Ew_of (pcₚ := 140) (fun _ => x_aload_n rfl (rk_o (rk_o (lc113_0) rfl rfl) rfl rfl)) ?_
                  refine Ew_of (pcₚ := 141) (fun _ => x_iconst rfl) ?_
                  refine v_inv H (o := 0) rfl rfl rfl rfl rfl rfl (by rfl) (C183 (D := puc 512 D) (N := puc 512 N) (HW_subc H oz_E6cls_1 oz_E6cls_5) ((((((((show F28 0 10 = F_c113 0 10 from (eF28 0 10).trans (hS28 0 10 rfl))).trans (hS_c113 0 10 rfl)).trans (hS_91 0 10 rfl)).trans (hS_77 0 10 rfl)).trans ((show F15 0 10 = (updF (updF (updF F 0 10 ((D 1 : Nat) : Int)) 0 11 ((8 * a2))) 0 12 ((8 * a3))) 0 10 from (eF15 0 10).trans (hS15 0 10 rfl))))).trans ((show (updF F 0 10 ((D 1 : Nat) : Int)) 0 10 = ((D 1 : Nat) : Int) from rfl))) (n1) (en1) (y28_0_11) (((eF28 0 11).trans ey28_0_11)) ((8 * a3)) (((((((show F28 0 12 = F_c113 0 12 from (eF28 0 12).trans (hS28 0 12 rfl))).trans (hS_c113 0 12 rfl)).trans (hS_91 0 12 rfl)).trans (hS_77 0 12 rfl)).trans ((show F15 0 12 = (updF (updF (updF F 0 10 ((D 1 : Nat) : Int)) 0 11 ((8 * a2))) 0 12 ((8 * a3))) 0 12 from (eF15 0 12).trans (hS15 0 12 rfl))))) (w1) ((funext (mA28 1 rfl)).trans (ew1)) (show inr (1) from q_135) (show 0 ≤ (y28_0_11) ∧ (y28_0_11) ≤ ((8 * a3)) ∧ ((8 * a3)) ≤ 8 * (n1) ∧ (n1) ≤ 65536 from q_262 h3 j77_10 j91_1 pz28_1) (show 0 ≤ (1) ∧ (1) ≤ 16 from q_261) (fun z44 σ44 F44ₚ A44ₚ Hₚ Oₚ hS44 hA44 y44_0_11 ey44_0_11 pz44_0 pz44_1 pz44_2 pz44_3 => ⟨rfl, ?_⟩))
                  refine v_backc (c := c) (s := s) H oz_E6cls_1 oz_E6cls_5 Hₚ Oₚ (fun F44 A44 H Oₚ eF44 eA44 => ?_)
                  have O := OUT_trans O Oₚ
                  -- Share.takeBits
                  have cF44 : SF oz_E6clsl_0 F F44 := SF_trans (cF28) (SF_gluc (ι := oz_E6clsl_2) oz_E6cls_5 hS44 eF44 (by decide +kernel)) (any_sub (lₚ := [(0, 11)]) (by decide +kernel))
                  have mF44 := SFm_of cF44 oz_E6cls_3
                  have cA44 : SA oz_E6clsl_1 A A44 := SA_trans (cA28) (SA_gluc (ι := oz_E6clsl_2) oz_E6cls_5 hA44 eA44 (by decide +kernel)) (any_subA (lₚ := []) (by decide +kernel))
                  have mA44 := SAm_of cA44 oz_E6cls_4
                  have r45 : (-2147483648 : Int) ≤ y44_0_11 ∧ y44_0_11 ≤ 2147483647 := rngE (show (-2147483648 : Int) ≤ F44 0 11 ∧ F44 0 11 ≤ 2147483647 from H.krg 0 11 (ltn len_V184_Br_oz_E6cls rfl)) (show F44 0 11 = y44_0_11 from ((eF44 0 11).trans ey44_0_11))
                  refine Ew_of (pcₚ := 146) (fun _ => x_istore rfl) ?_
                  have hbx : IMP ((0 : Int) ≤ (z44)) ((z44) = bt (ub8 ((w1))) (q1 + q7)) := fun z => by rw [pz44_2 z]; exact (show _ = bv _ _ 1 from by congr 1; omega).trans bv_1
                  have hbx3 := pz44_3
                  refine Ew_of (pcₚ := 148) (fun _ => x_iload rfl rk_s) ?_
                  refine w_ifge (t := 155) rfl rfl (show inr (z44) from pz44_0) (fun b46 => ?_) (fun b46 => ?_)
                  · refine Ew_of (pcₚ := 157) (fun _ => x_iload rfl (rk_o (rk_o (rk_s) rfl rfl) rfl rfl)) ?_
                    refine Ew_of (pcₚ := 159) (fun _ => x_iload rfl rk_s) ?_
                    refine Ew_of (pcₚ := 161) (fun _ => x_iload rfl (rk_o (rk_o (rk_o (lc113_7) rfl rfl) rfl rfl) rfl rfl)) ?_
                    have hbt : ((z44) : Int) = 0 ∨ ((z44) : Int) = 1 := by omega
                    have hml : ((z44) : Int) * p2 ((x91_7)) = 0 ∨ ((z44) : Int) * p2 ((x91_7)) = p2 ((x91_7)) := by rcases hbt with q | q <;> rw [q] <;> omega
                    refine w_ishlE rfl ?_
                    have g47 : inr (slI (z44) (x91_7)) := toI_inr _
                    refine w_iorE rfl ?_
                    have g48 : inr (orI (z28) ((slI (z44) (x91_7)))) := toI_inr _
                    have hor : 0 ≤ (z44) → ((orI (z28) ((slI (z44) (x91_7))))) = (z28) + (z44) * p2 (x91_7) := by exact fun _ => orI_sh (by omega) (by omega) (by omega)
                    have hw1 : IMP (0 ≤ (z44)) (((orI (z28) ((slI (z44) (x91_7))))) = q9 + bt (ub8 ((w1))) (q1 + q7) * p2 q7) := fun z => by rw [← hbx z, hq9, hpq]; exact hor z
                    refine Ew_of (pcₚ := 165) (fun _ => x_istore rfl) ?_
                    refine Ew_of (pcₚ := 167) (fun _ => x_iload rfl rk_s) ?_
                    refine Ew_of (pcₚ := 168) (fun _ => x_iconst rfl) ?_
                    refine Ew_of (pcₚ := 170) (fun _ => x_iload rfl (rk_o (rk_o (rk_o (rk_o (lc113_7) rfl rfl) rfl rfl) rfl rfl) rfl rfl)) ?_
                    refine w_ishl1 rfl (show 0 ≤ x91_7 ∧ x91_7 ≤ 31 from q_236 j91_1) ?_
                    refine w_icmplt (t := 182) rfl rfl (show inr ((orI (z28) ((slI (z44) (x91_7))))) from g48) (show inr (p2 (x91_7)) from q_263 hlo j77_5 j91_1) (fun b50 => ?_) (fun b50 => ?_)
                    · refine Ew_of (pcₚ := 184) (fun _ => x_iload rfl rk_s) ?_
                      refine Ew_of (pcₚ := 186) (fun _ => x_istore rfl) ?_
                      have : IMP ((0 : Int) ≤ ((orI (z28) ((slI (z44) (x91_7)))))) (SHu (ub8 ((w1))) (8 * (a3)) (q1) ((x77_6)) (((orI (z28) ((slI (z44) (x91_7)))))) ((y44_0_11))) := by exact fun z => SHu_b (m := 2 * p2 q7 - 2 - (x77_6)) hSq (hu0 (by omega)) rfl (by omega) (by omega) (hw1 (by omega)) (by omega) (by omega)
                      have : IMP (((orI (z28) ((slI (z44) (x91_7))))) < (0 : Int)) (SHx (ub8 ((w1))) (8 * (a3)) (q1) ((x77_6))) := by exact fun z => absurd z (by omega)
                      exact hc186  _ _ _ _ ((orI (z28) ((slI (z44) (x91_7))))) (rk_o (rk_o (rk_o (rk_o (rk_o (lc113_0) rfl rfl) rfl rfl) rfl rfl) rfl rfl) rfl rfl) (rk_o (rk_o (rk_o (rk_o (rk_o (lc113_6) rfl rfl) rfl rfl) rfl rfl) rfl rfl) rfl rfl) (rk_o (rk_o (rk_o (rk_o (rk_o (lc113_7) rfl rfl) rfl rfl) rfl rfl) rfl rfl) rfl rfl) (rk_o (rk_o (rk_o (rk_o (rk_o (lc113_8) rfl rfl) rfl rfl) rfl rfl) rfl rfl) rfl rfl) (rk_s) H O (SF_trans (SF_refl) (SF_gluc (ι := oz_E6clsl_2) oz_E6cls_5 hS44 eF44 (by decide +kernel)) (any_sub (lₚ := [(0, 11)]) (by decide +kernel))) (SA_trans (SA_refl) (SA_gluc (ι := oz_E6clsl_2) oz_E6cls_5 hA44 eA44 (by decide +kernel)) (any_subA (lₚ := []) (by decide +kernel)))   (y44_0_11) (((eF44 0 11).trans ey44_0_11))  (show inr ((orI (z28) ((slI (z44) (x91_7))))) from g48) (show -1 ≤ ((orI (z28) ((slI (z44) (x91_7))))) ∧ ((orI (z28) ((slI (z44) (x91_7))))) ≤ (x77_6) + 1 from q_265 b43 b50 g48 hbt hlo hml hor j91_1) (show IMP ((0 : Int) ≤ ((orI (z28) ((slI (z44) (x91_7)))))) (SHu (ub8 ((w1))) (8 * (a3)) (q1) ((x77_6)) (((orI (z28) ((slI (z44) (x91_7)))))) ((y44_0_11))) by assumption) (show IMP (((orI (z28) ((slI (z44) (x91_7))))) < (0 : Int)) (SHx (ub8 ((w1))) (8 * (a3)) (q1) ((x77_6))) by assumption) (show 8 * (a2) ≤ (y44_0_11) ∧ (y44_0_11) ≤ ((8 * a3)) from q_264 h3 hbt j77_10 j91_1 pz28_1 pz44_1 r45)
                    · refine Ew_of (pcₚ := 176) (fun _ => x_iload rfl rk_s) ?_
                      refine Ew_of (pcₚ := 178) (fun _ => x_iload rfl (rk_o (rk_o (rk_s) rfl rfl) rfl rfl)) ?_
                      refine w_isub rfl ?_
                      refine Ew_of (pcₚ := 184) (fun _ => x_goto rfl rfl) ?_
                      refine Ew_of (pcₚ := 186) (fun _ => x_istore rfl) ?_
                      have : IMP ((0 : Int) ≤ (((orI (z28) ((slI (z44) (x91_7)))) - (((2 * p2 (x91_7)) - 2) - x77_6)))) (SHu (ub8 ((w1))) (8 * (a3)) (q1) ((x77_6)) ((((orI (z28) ((slI (z44) (x91_7)))) - (((2 * p2 (x91_7)) - 2) - x77_6)))) ((y44_0_11))) := by exact fun z => SHu_c (m := 2 * p2 q7 - 2 - (x77_6)) hSq (hu0 (by omega)) rfl (by omega) (by omega) (hw1 (by omega)) (by omega) (by omega) (by omega)
                      have : IMP ((((orI (z28) ((slI (z44) (x91_7)))) - (((2 * p2 (x91_7)) - 2) - x77_6))) < (0 : Int)) (SHx (ub8 ((w1))) (8 * (a3)) (q1) ((x77_6))) := by exact fun z => absurd z (by omega)
                      exact hc186  _ _ _ _ (((orI (z28) ((slI (z44) (x91_7)))) - (((2 * p2 (x91_7)) - 2) - x77_6))) (rk_o (rk_o (rk_o (rk_o (rk_o (lc113_0) rfl rfl) rfl rfl) rfl rfl) rfl rfl) rfl rfl) (rk_o (rk_o (rk_o (rk_o (rk_o (lc113_6) rfl rfl) rfl rfl) rfl rfl) rfl rfl) rfl rfl) (rk_o (rk_o (rk_o (rk_o (rk_o (lc113_7) rfl rfl) rfl rfl) rfl rfl) rfl rfl) rfl rfl) (rk_o (rk_o (rk_o (rk_o (rk_o (lc113_8) rfl rfl) rfl rfl) rfl rfl) rfl rfl) rfl rfl) (rk_s) H O (SF_trans (SF_refl) (SF_gluc (ι := oz_E6clsl_2) oz_E6cls_5 hS44 eF44 (by decide +kernel)) (any_sub (lₚ := [(0, 11)]) (by decide +kernel))) (SA_trans (SA_refl) (SA_gluc (ι := oz_E6clsl_2) oz_E6cls_5 hA44 eA44 (by decide +kernel)) (any_subA (lₚ := []) (by decide +kernel)))   (y44_0_11) (((eF44 0 11).trans ey44_0_11))  (show inr (((orI (z28) ((slI (z44) (x91_7)))) - (((2 * p2 (x91_7)) - 2) - x77_6))) from q_266 b50 g48 hlo j91_1) (show -1 ≤ (((orI (z28) ((slI (z44) (x91_7)))) - (((2 * p2 (x91_7)) - 2) - x77_6))) ∧ (((orI (z28) ((slI (z44) (x91_7)))) - (((2 * p2 (x91_7)) - 2) - x77_6))) ≤ (x77_6) + 1 by omega) (show IMP ((0 : Int) ≤ (((orI (z28) ((slI (z44) (x91_7)))) - (((2 * p2 (x91_7)) - 2) - x77_6)))) (SHu (ub8 ((w1))) (8 * (a3)) (q1) ((x77_6)) ((((orI (z28) ((slI (z44) (x91_7)))) - (((2 * p2 (x91_7)) - 2) - x77_6)))) ((y44_0_11))) by assumption) (show IMP ((((orI (z28) ((slI (z44) (x91_7)))) - (((2 * p2 (x91_7)) - 2) - x77_6))) < (0 : Int)) (SHx (ub8 ((w1))) (8 * (a3)) (q1) ((x77_6))) by assumption) (show 8 * (a2) ≤ (y44_0_11) ∧ (y44_0_11) ≤ ((8 * a3)) from q_264 h3 hbt j77_10 j91_1 pz28_1 pz44_1 r45)
                  · refine Ew_of (pcₚ := 152) (fun _ => x_iconst rfl) ?_
                    refine Ew_of (pcₚ := 163) (fun _ => x_goto rfl rfl) ?_
                    have hor : 0 ≤ (z44) → ((-1)) = (z28) + (z44) * p2 (x91_7) := by exact fun z => absurd z (by omega)
                    have hw1 : IMP (0 ≤ (z44)) (((-1)) = q9 + bt (ub8 ((w1))) (q1 + q7) * p2 q7) := fun z => by rw [← hbx z, hq9, hpq]; exact hor z
                    refine Ew_of (pcₚ := 165) (fun _ => x_istore rfl) ?_
                    refine Ew_of (pcₚ := 167) (fun _ => x_iload rfl rk_s) ?_
                    refine Ew_of (pcₚ := 168) (fun _ => x_iconst rfl) ?_
                    refine Ew_of (pcₚ := 170) (fun _ => x_iload rfl (rk_o (rk_o (rk_o (rk_o (lc113_7) rfl rfl) rfl rfl) rfl rfl) rfl rfl)) ?_
                    refine w_ishl1 rfl (show 0 ≤ x91_7 ∧ x91_7 ≤ 31 from q_236 j91_1) ?_
                    refine w_icmplt (t := 182) rfl rfl (show inr ((-1)) from q_63) (show inr (p2 (x91_7)) from q_263 hlo j77_5 j91_1) (fun b52 => ?_) (fun b52 => ?_)
                    · refine Ew_of (pcₚ := 184) (fun _ => x_iload rfl rk_s) ?_
                      refine Ew_of (pcₚ := 186) (fun _ => x_istore rfl) ?_
                      have : IMP ((0 : Int) ≤ ((-1))) (SHu (ub8 ((w1))) (8 * (a3)) (q1) ((x77_6)) (((-1))) ((y44_0_11))) := by exact fun z => absurd z (by omega)
                      have : IMP (((-1)) < (0 : Int)) (SHx (ub8 ((w1))) (8 * (a3)) (q1) ((x77_6))) := by exact fun z => SHx_b (m := 2 * p2 q7 - 2 - (x77_6)) hSq (by omega) (hu0 (by omega)) rfl (by omega) (by omega)
                      exact hc186  _ _ _ _ ((-1)) (rk_o (rk_o (rk_o (rk_o (rk_o (lc113_0) rfl rfl) rfl rfl) rfl rfl) rfl rfl) rfl rfl) (rk_o (rk_o (rk_o (rk_o (rk_o (lc113_6) rfl rfl) rfl rfl) rfl rfl) rfl rfl) rfl rfl) (rk_o (rk_o (rk_o (rk_o (rk_o (lc113_7) rfl rfl) rfl rfl) rfl rfl) rfl rfl) rfl rfl) (rk_o (rk_o (rk_o (rk_o (rk_o (lc113_8) rfl rfl) rfl rfl) rfl rfl) rfl rfl) rfl rfl) (rk_s) H O (SF_trans (SF_refl) (SF_gluc (ι := oz_E6clsl_2) oz_E6cls_5 hS44 eF44 (by decide +kernel)) (any_sub (lₚ := [(0, 11)]) (by decide +kernel))) (SA_trans (SA_refl) (SA_gluc (ι := oz_E6clsl_2) oz_E6cls_5 hA44 eA44 (by decide +kernel)) (any_subA (lₚ := []) (by decide +kernel)))   (y44_0_11) (((eF44 0 11).trans ey44_0_11))  (show inr ((-1)) from q_63) (show -1 ≤ ((-1)) ∧ ((-1)) ≤ (x77_6) + 1 from q_268 b27) (show IMP ((0 : Int) ≤ ((-1))) (SHu (ub8 ((w1))) (8 * (a3)) (q1) ((x77_6)) (((-1))) ((y44_0_11))) by assumption) (show IMP (((-1)) < (0 : Int)) (SHx (ub8 ((w1))) (8 * (a3)) (q1) ((x77_6))) by assumption) (show 8 * (a2) ≤ (y44_0_11) ∧ (y44_0_11) ≤ ((8 * a3)) from q_267 b46 h3 j77_10 j91_1 pz28_1 pz44_1 r29)
                    · refine Ew_of (pcₚ := 176) (fun _ => x_iload rfl rk_s) ?_
                      refine Ew_of (pcₚ := 178) (fun _ => x_iload rfl (rk_o (rk_o (rk_s) rfl rfl) rfl rfl)) ?_
                      refine w_isub rfl ?_
                      refine Ew_of (pcₚ := 184) (fun _ => x_goto rfl rfl) ?_
                      refine Ew_of (pcₚ := 186) (fun _ => x_istore rfl) ?_
                      have : IMP ((0 : Int) ≤ (((-1) - (((2 * p2 (x91_7)) - 2) - x77_6)))) (SHu (ub8 ((w1))) (8 * (a3)) (q1) ((x77_6)) ((((-1) - (((2 * p2 (x91_7)) - 2) - x77_6)))) ((y44_0_11))) := by exact fun z => absurd z (by omega)
                      have : IMP ((((-1) - (((2 * p2 (x91_7)) - 2) - x77_6))) < (0 : Int)) (SHx (ub8 ((w1))) (8 * (a3)) (q1) ((x77_6))) := by exact fun z => absurd z (by omega)
                      exact hc186  _ _ _ _ (((-1) - (((2 * p2 (x91_7)) - 2) - x77_6))) (rk_o (rk_o (rk_o (rk_o (rk_o (lc113_0) rfl rfl) rfl rfl) rfl rfl) rfl rfl) rfl rfl) (rk_o (rk_o (rk_o (rk_o (rk_o (lc113_6) rfl rfl) rfl rfl) rfl rfl) rfl rfl) rfl rfl) (rk_o (rk_o (rk_o (rk_o (rk_o (lc113_7) rfl rfl) rfl rfl) rfl rfl) rfl rfl) rfl rfl) (rk_o (rk_o (rk_o (rk_o (rk_o (lc113_8) rfl rfl) rfl rfl) rfl rfl) rfl rfl) rfl rfl) (rk_s) H O (SF_trans (SF_refl) (SF_gluc (ι := oz_E6clsl_2) oz_E6cls_5 hS44 eF44 (by decide +kernel)) (any_sub (lₚ := [(0, 11)]) (by decide +kernel))) (SA_trans (SA_refl) (SA_gluc (ι := oz_E6clsl_2) oz_E6cls_5 hA44 eA44 (by decide +kernel)) (any_subA (lₚ := []) (by decide +kernel)))   (y44_0_11) (((eF44 0 11).trans ey44_0_11))  (show inr (((-1) - (((2 * p2 (x91_7)) - 2) - x77_6))) from q_271 b52 hlo j91_1) (show -1 ≤ (((-1) - (((2 * p2 (x91_7)) - 2) - x77_6))) ∧ (((-1) - (((2 * p2 (x91_7)) - 2) - x77_6))) ≤ (x77_6) + 1 from q_270 b52 hlo j91_1) (show IMP ((0 : Int) ≤ (((-1) - (((2 * p2 (x91_7)) - 2) - x77_6)))) (SHu (ub8 ((w1))) (8 * (a3)) (q1) ((x77_6)) ((((-1) - (((2 * p2 (x91_7)) - 2) - x77_6)))) ((y44_0_11))) by assumption) (show IMP ((((-1) - (((2 * p2 (x91_7)) - 2) - x77_6))) < (0 : Int)) (SHx (ub8 ((w1))) (8 * (a3)) (q1) ((x77_6))) by assumption) (show 8 * (a2) ≤ (y44_0_11) ∧ (y44_0_11) ≤ ((8 * a3)) from q_269 b27 b52 h3 j77_10 j91_1 r45)
              refine w_ifle (t := 113) rfl rfl (show inr (x91_7) from j91_0) (fun b53 => ?_) (fun b53 => ?_)
              · exact hc113  _ _ _ _  (l91_0) (l91_6) (l91_7) (l91_8) H O (SF_refl) (SA_refl)     (show ((x91_7) ≤ (0)) ∨ ((x91_7) > (0) ∧ ((x77_6 + 1)) ≥ (p2 (x91_7))) from q_272 b53)
              · have hp9b := p2_le9 (o := (x91_7)) (by omega)
                have hppb := p2_pos ((x91_7))
                refine Ew_of (pcₚ := 98) (fun _ => x_iload rfl l91_6) ?_
                refine Ew_of (pcₚ := 99) (fun _ => x_iconst rfl) ?_
                refine w_iadd rfl ?_
                refine Ew_of (pcₚ := 101) (fun _ => x_iconst rfl) ?_
                refine Ew_of (pcₚ := 103) (fun _ => x_iload rfl l91_7) ?_
                refine w_ishl1 rfl (show 0 ≤ x91_7 ∧ x91_7 ≤ 31 from q_236 j91_1) ?_
                refine w_icmpge (t := 113) rfl rfl (show inr ((x77_6 + 1)) from q_273 b27 j77_5) (show inr (p2 (x91_7)) by omega) (fun b55 => ?_) (fun b55 => ?_)
                · exact hc113  _ _ _ _  (l91_0) (l91_6) (l91_7) (l91_8) H O (SF_refl) (SA_refl)     (show ((x91_7) ≤ (0)) ∨ ((x91_7) > (0) ∧ ((x77_6 + 1)) ≥ (p2 (x91_7))) from q_274 b53 b55)
                · have hps := p2_s (y := (x91_7) + (-1)) (by omega)
                  rw [show (x91_7) + (-1) + 1 = (x91_7) by omega] at hps
                  refine Ew_of (pcₚ := 110) (fun _ => x_iinc (len := 3) rfl (l91_7)) ?_
                  refine Ew_of (pcₚ := 91) (fun _ => x_goto rfl rfl) ?_
                  exact ih91 _ (msE hm91 q_276 (q_200 b53)) _ _ _ _ ((x91_7 + (-1))) (rk_o (l91_0) rfl rfl) (rk_o (l91_6) rfl rfl) (rk_s) (rk_o (l91_8) rfl rfl) H O (hS_91) (hA_91)     (show inr ((x91_7 + (-1))) from q_275 b53 j91_1) (show 0 ≤ ((x91_7 + (-1))) ∧ ((x91_7 + (-1))) ≤ 9 ∧ (x77_6) + 1 < 2 * p2 ((x91_7 + (-1))) by omega) rfl
    · have hno : (-1 : Int) = -1 ∨ SL ((w3)) ((u0_1)) ((u0_0)) ((w4)) ((w5)) ((w6)) ((w2)) ((w8)) ((w9)) := .inl rfl
      have : SHA (ub8 ((w1))) ((a2)) ((a3)) ((a4)) (((u0_1)) - 1) (-1) ((u0_0)) (((u0_1))) ((w3)) := by first | exact SHA_0 (by omega) | exact SHA_g (v := (z15)) (by omega) (htb (by omega)) (by omega)
      refine Ew_of (pcₚ := 43) (fun _ => x_iconst rfl) ?_
      exact w_ireturn rfl (k ((-1)) _ _ _ H O (cF15) (cA15) (u0_0) ((((show F15 0 0 = (updF (updF (updF F 0 10 ((D 1 : Nat) : Int)) 0 11 ((8 * a2))) 0 12 ((8 * a3))) 0 0 from (eF15 0 0).trans (hS15 0 0 rfl))).trans (eu0_0))) (w2) (((show A15 2 = A 2 from (eA15 2))).trans (ew2)) (w3) (((show A15 3 = A 3 from (eA15 3))).trans (ew3)) (w4) (((show A15 4 = A 4 from (eA15 4))).trans (ew4)) (w5) (((show A15 5 = A 5 from (eA15 5))).trans (ew5)) (w6) (((show A15 6 = A 6 from (eA15 6))).trans (ew6)) (w8) (((show A15 8 = A 8 from (eA15 8))).trans (ew8)) (w9) (((show A15 9 = A 9 from (eA15 9))).trans (ew9)) ((((show F15 0 10 = (updF (updF (updF F 0 10 ((D 1 : Nat) : Int)) 0 11 ((8 * a2))) 0 12 ((8 * a3))) 0 10 from (eF15 0 10).trans (hS15 0 10 rfl)))).trans ((show (updF F 0 10 ((D 1 : Nat) : Int)) 0 10 = ((D 1 : Nat) : Int) from rfl))) (show inr ((-1)) from q_63) (show ((-1)) = -1 ∨ a2 ≤ ((-1)) ∧ ((-1)) ≤ a3 by first | exact q_218 | omega) (show ((-1)) = -1 ∧ (u0_0) = (u0_0) ∨ 5 ≤ (u0_0) ∧ (u0_0) ≤ a4 by first | exact q_217 | omega) (show ((-1)) = -1 ∨ SL ((w3)) ((u0_1)) ((u0_0)) ((w4)) ((w5)) ((w6)) ((w2)) ((w8)) ((w9)) by assumption) (show SHA (ub8 ((w1))) (a2) (a3) (a4) (((u0_1)) - 1) (((-1))) ((u0_0)) (((u0_1))) ((w3)) by assumption))


end
section
/-! G0.refs -/
section REFX
variable {P : rP} {μ d pc c s : Nat} {ls : rO} {st : List Value} {σ : rS} {r : rT} {len : Nat} {act : rA}
theorem x_aaload {a N x t : Nat} {dv v : Value} {ov : rO} {j : Int32} (hf : P.1 μ pc = some (.aaload, len, act)) (hc : rat σ a = some (.inr (t, N, dv, ov))) (ht : (Nat.ble 4 t && Nat.blt t 8) = true) (hj : decide (j < 0) = false) (hx : j.toNatClampNeg = x) (hlt : x < N) (hv : rlk ov dv x = v) (hr : risR v = true) (h : Ev P μ d (pc + 1) ls (v :: st) σ c s r) : Ev P μ d pc ls (.int j :: .ref a :: st) σ c s r := by
  subst hv
  obtain ⟨n0, h⟩ := h
  refine Ev_of hf (n0 := n0) (fun n hn => ?_)
  show ralq σ (.ref a) (.int j) (fun v => rn (pc + 1) (fun pcₚ => rrun P n μ d pcₚ ls (v :: st) σ 0 [] c s)) = _
  unfold ralq
  rw [rplace_eq hc hj hx hlt]
  show (match Nat.ble 4 t && Nat.blt t 8 with | true => (match risR (rlk ov dv x) with | true => _ | false => _) | false => _) = _
  rw [ht]
  show (match risR (rlk ov dv x) with | true => _ | false => _) = _
  rw [hr]
  show rn (pc + 1) _ = _
  rw [rn_eq]
  exact h n hn
theorem x_aastore {a N x t : Nat} {dv v : Value} {ov : rO} {j : Int32} (hf : P.1 μ pc = some (.aastore, len, act)) (hc : rat σ a = some (.inr (t, N, dv, ov))) (ht : (Nat.ble 4 t && Nat.blt t 7) = true) (hj : decide (j < 0) = false) (hx : j.toNatClampNeg = x) (hlt : x < N) (hB : P.2.2.2.2.2.2.1 ≤ a) (hk : rkin P.2.2.2.2.2.1 σ t v = true) (h : Ev P μ d (pc + 1) ls st (rstl σ a (.inr (t, N, dv, rup ov x v))) c s r) : Ev P μ d pc ls (v :: .int j :: .ref a :: st) σ c s r := by
  obtain ⟨n0, h⟩ := h
  refine Ev_of hf (n0 := n0) (fun n hn => ?_)
  show rasq P.2.2.2.2.2.1 P.2.2.2.2.2.2.1 σ (.ref a) (.int j) v (fun σ => rn (pc + 1) (fun pcₚ => rrun P n μ d pcₚ ls st σ 0 [] c s)) = _
  unfold rasq
  rw [rplace_eq hc hj hx hlt]
  show (match Nat.ble 4 t && (Nat.blt t 7 && (Nat.ble P.2.2.2.2.2.2.1 a && rkin P.2.2.2.2.2.1 σ t v)) with | true => _ | false => _) = _
  rw [show Nat.ble P.2.2.2.2.2.2.1 a = true from Nat.ble_eq.mpr hB, hk, show (Nat.ble 4 t && (Nat.blt t 7 && (true && true))) = (Nat.ble 4 t && Nat.blt t 7) by cases Nat.ble 4 t <;> cases Nat.blt t 7 <;> rfl, ht]
  show rn (pc + 1) _ = _
  rw [rn_eq]
  exact h n hn
end REFX
theorem va4 {t : Nat} {z : Int} (h : Nat.ble 4 t = true) : va t z = if z < 0 then .null else .ref z.toNat := by
  have := Nat.le_of_ble_eq_true h
  obtain ⟨k, rfl⟩ : ∃ k, t = k + 4 := ⟨t - 4, by omega⟩
  rfl
theorem arng4 {t : Nat} {z : Int} (h : Nat.ble 4 t = true) : arng t z = (-1 ≤ z) := by
  have := Nat.le_of_ble_eq_true h
  obtain ⟨k, rfl⟩ : ∃ k, t = k + 4 := ⟨t - 4, by omega⟩
  rfl
section VREF
variable {V : vV} {σ : rS} {D N : Nat → Nat} {F : hF} {A : hA} {μ d pc c s : Nat} {ls : rO} {st : List Value} {Q : wQ} {len : Nat} {act : rA}
theorem v_null (hf : PP.1 μ pc = some (.aconst_null, len, act)) (h : Ew μ d (pc + 1) ls (.null :: st) σ c s Q) : Ew μ d pc ls st σ c s Q := Ew_of (fun _ e => x_null hf e) h

theorem v_lR (H : HW V σ D N F A) {o : Nat} {j n z : Int} {v : Value} (hf : PP.1 μ pc = some (.aaload, len, act)) (ho : Nat.blt o V.length = true) (ha : varr V o = true) (hk : Nat.ble 4 (vak V o) = true) (hk8 : Nat.blt (vak V o) 8 = true) (hn : (N o : Int) = n) (h0 : 0 ≤ j ∧ j < n) (hz : A o j = z) (hv : (if z < 0 then Value.null else .ref z.toNat) = v) (h : Ew μ d (pc + 1) ls (v :: st) σ c s Q) : Ew μ d pc ls (I j :: .ref (D o) :: st) σ c s Q := by
  obtain ⟨dv, ov, q1, q2⟩ := H.arr o (blt_of ho) ha
  have hl := H.nle o (blt_of ho)
  subst hz hv
  refine Ew_of (fun _ e => x_aaload hf q1 (by rw [hk, hk8]; rfl) (ofI_nn h0.1 (by omega)) (ofI_nat h0.1 (by omega)) (by omega) ?_ ?_ e) h
  · rw [q2, Int.toNat_of_nonneg h0.1, va4 hk]
  · by_cases w : A o j < 0
    · rw [if_pos w]; rfl
    · rw [if_neg w]; rfl
theorem v_sR (H : HW V σ D N F A) {o : Nat} {j n z : Int} {v : Value} (hf : PP.1 μ pc = some (.aastore, len, act)) (ho : Nat.blt o V.length = true) (ha : varr V o = true) (hk : Nat.ble 4 (vak V o) = true) (hk7 : Nat.blt (vak V o) 7 = true) (hn : (N o : Int) = n) (h0 : 0 ≤ j ∧ j < n) (hz : -1 ≤ z) (hv : (if z < 0 then Value.null else .ref z.toNat) = v) (hc : rkin PP.2.2.2.2.2.1 σ (vak V o) v = true)
    (h : ∀ σₚ, HW V σₚ D N F (updA A o j z) → OUT V.length D N σ c s D N σₚ c s → Ew μ d (pc + 1) ls st σₚ c s Q) : Ew μ d pc ls (v :: I j :: .ref (D o) :: st) σ c s Q := by
  obtain ⟨dv, ov, q1, q2⟩ := H.arr o (blt_of ho) ha
  have hl := H.nle o (blt_of ho)
  have e := HW_sto H (j := j.toNat) (z := z) (blt_of ho) ha (by rw [arng4 hk]; exact hz) q1 q2
  have e2 := OUT_set (D := D) (N := N) (σ := σ) (c := c) (s := s) (q := .inr (vak V o, N o, dv, rup ov j.toNat (va (vak V o) z))) (blt_of ho)
  rw [Int.toNat_of_nonneg h0.1] at e
  obtain ⟨v', σₚ, cₚ, sₚ, h, q⟩ := h _ e e2
  rw [va4 hk, hv] at h
  exact ⟨v', σₚ, cₚ, sₚ, x_aastore hf q1 (by rw [hk, hk7]; rfl) (ofI_nn h0.1 (by omega)) (ofI_nat h0.1 (by omega)) (by omega) (H.lo o (blt_of ho)) hc h, q⟩

theorem rkinN {t : Nat} : rkin PP.2.2.2.2.2.1 σ t .null = true := rfl
theorem rkinR (H : HW V σ D N F A) {x t : Nat} (hx : Nat.blt x V.length = true) (ha : varr V x = false) (hc : Nat.beq (vcls V x) (PP.2.2.2.2.2.1 t) = true) : rkin PP.2.2.2.2.2.1 σ t (.ref (D x)) = true := by
  unfold rkin
  simp only [H.obj x (blt_of hx) ha]
  exact hc
end VREF
section VREF2
variable {V : vV} {σ σE : rS} {D N : Nat → Nat} {F FE : hF} {A AE : hA} {c s cₚ sₚ : Nat}
theorem dne (H : HW V σ D N F A) {x y : Nat} (hx : Nat.blt x V.length = true) (hy : Nat.blt y V.length = true) (h : x ≠ y) : Nat.beq (D x) (D y) = false := by
  cases e : Nat.beq (D x) (D y) with
  | false => rfl
  | true => exact absurd (H.inj x y (blt_of hx) (blt_of hy) (Nat.eq_of_beq_eq_true e)) h
theorem dsb (H : HW V σ D N F A) {x : Nat} (hx : Nat.blt x V.length = true) : Nat.ble PP.2.2.2.2.2.2.1 (D x) = true := Nat.ble_eq.mpr (show 12 ≤ D x from H.lo x (blt_of hx))

theorem rkin_out (HE : HW V σE D N FE AE) (H : HW V σ D N F A) (O : OUT V.length D N σE c s D N σ cₚ sₚ) {t : Nat} {v : Value} (h : rkin PP.2.2.2.2.2.1 σE t v = true) : rkin PP.2.2.2.2.2.1 σ t v = true := by
  cases v with
  | ref b =>
    unfold rkin at h ⊢
    simp only at h ⊢
    by_cases w : ∃ x, x < V.length ∧ D x = b
    · obtain ⟨x, hx, e⟩ := w
      subst e
      cases ha : varr V x with
      | false =>
        rw [HE.obj x hx ha] at h
        rw [H.obj x hx ha]
        exact h
      | true =>
        obtain ⟨dv, ov, q, -⟩ := HE.arr x hx ha
        rw [q] at h
        cases h
    · cases e : rat σE b with
      | none => rw [e] at h; cases h
      | some q =>
        have hl : b < σE.length := by
          rw [rat_eq] at e
          obtain ⟨hl, -⟩ := List.getElem?_eq_some_iff.mp e
          exact hl
        rw [O.1 b hl (fun x hx q => w ⟨x, hx, q⟩)]
        exact h
  | _ => exact h
end VREF2
section KIN
variable {V : vV} {σ : rS} {D N : Nat → Nat} {F : hF} {A : hA} {t : Nat}
theorem kinN {z : Int} (h : z = -1) : rkin PP.2.2.2.2.2.1 σ t (if z < 0 then Value.null else .ref z.toNat) = true := by
  rw [h]; rfl
theorem kinR (H : HW V σ D N F A) {x : Nat} {z : Int} (hx : Nat.blt x V.length = true) (ha : varr V x = false) (hc : Nat.beq (vcls V x) (PP.2.2.2.2.2.1 t) = true) (h : z = (D x : Int)) : rkin PP.2.2.2.2.2.1 σ t (if z < 0 then Value.null else .ref z.toNat) = true := by
  rw [vrf h]
  exact rkinR H hx ha hc
theorem kin3 {K : Int → Prop} {w : Int → Int} (h0 : K (w 0)) (h1 : K (w 1)) (h2 : K (w 2)) : ∀ i, 0 ≤ i → i < 3 → K (w i) := fun i a b => by
  rcases (show i = 0 ∨ i = 1 ∨ i = 2 by omega) with q | q | q
  · rw [q]; exact h0
  · rw [q]; exact h1
  · rw [q]; exact h2
theorem rfitP {z : Int} (h0 : rfit t .null = true) (h1 : ∀ a, rfit t (.ref a) = true) : rfit t (if z < 0 then Value.null else .ref z.toNat) = true := by
  by_cases w : z < 0
  · rw [if_pos w]; exact h0
  · rw [if_neg w]; exact h1 _
end KIN
def SM3 (a b : Int → Int) (k : Int) : Prop := ∀ i, 0 ≤ i → i < k → a i = b i
theorem SM3_s {a b : Int → Int} {k k2 v : Int} (h : SM3 a b k) (e : k2 = k + 1) (hv : v = b k) : SM3 (upd1 a k v) b k2 := fun i x y => by
  by_cases w : i = k
  · subst w; rw [upd1_s]; exact hv
  · rw [upd1_o w]; exact h i x (by omega)
theorem NU_s {t : Int → Int} {k k2 : Int} (h : ∀ i, 0 ≤ i → i < k → t i = -1) (e : k2 = k + 1) : ∀ i, 0 ≤ i → i < k2 → upd1 t k (-1) i = -1 := fun i a b => by
  by_cases w : i = k
  · subst w; exact upd1_s
  · rw [upd1_o w]; exact h i a (by omega)

def HID (p : Prop) : Prop := p
theorem HIDm {p : Prop} (h : p) : HID p := h

def SHZD (po ma mo sa us sy nu pl sym S G : Int) : Prop := po = sym ∧ ma = sym ∧ mo = sym ∧ sa = sym ∧ us = sym ∧ nu = sy ∧ pl = sy ∧ 1 ≤ sym ∧ sym ≤ 64 ∧ sym = S ∧ sy = G
def CDZD (le co ce we wc od am pa : Int) : Prop := le = 256 ∧ co = 256 ∧ ce = 2048 ∧ we = 256 ∧ wc = 12 ∧ od = 256 ∧ am = 512 ∧ pa = 512
def SZD (po ma mo sa us sy nu pl sym L : Int) : Prop := po = sym ∧ ma = sym ∧ mo = sym ∧ sa = sym ∧ us = sym ∧ nu = sy ∧ pl = sy ∧ p2 L ≤ sy


end
section
/-! H0.rows -/
def sbt (h : Int) : Int := if 0 < h / 64 then p2 (h / 64) else if andI h 32 = 0 then 0 else 1
theorem sbt_1 {h z : Int} (e : z = h / 64) (q : 0 < z) : p2 z = sbt h := by
  unfold sbt
  rw [if_pos (by omega), e]
theorem sbt_2 {h : Int} (e : h / 64 ≤ 0) (q : andI h 32 = 0) : 0 = sbt h := by
  unfold sbt
  rw [if_neg (by omega), if_pos q]
theorem sbt_3 {h : Int} (e : h / 64 ≤ 0) (q : andI h 32 ≠ 0) : 1 = sbt h := by
  unfold sbt
  rw [if_neg (by omega), if_neg q]
theorem and23 {x : Int} (h : -128 ≤ x ∧ x ≤ 127) (q : andI x 2 ≠ 0) : andI x 3 = 2 ∨ andI x 3 = 3 := by
  have k : ∀ n : Fin 256, andI ((n.val : Int) - 128) 2 ≠ 0 → andI ((n.val : Int) - 128) 3 = 2 ∨ andI ((n.val : Int) - 128) 3 = 3 := by decide +kernel
  have := k ⟨(x + 128).toNat, by omega⟩
  rw [show (((x + 128).toNat : Nat) : Int) - 128 = x by omega] at this
  exact this q

def BSM (B0 B1 B2 : Int → Prop) (k v : Int) : Prop := ∀ x y z, B0 x → B1 y → B2 z → v = (if 0 < k then x else 0) + (if 1 < k then y else 0) + (if 2 < k then z else 0)
theorem BSM_0 {B0 B1 B2 : Int → Prop} : BSM B0 B1 B2 0 0 := fun x y z _ _ _ => by rw [if_neg (by omega), if_neg (by omega), if_neg (by omega)]; rfl
theorem BSM_a {B0 B1 B2 : Int → Prop} {k k2 v b w : Int} (h : BSM B0 B1 B2 k v) (e : k = 0) (e2 : k2 = k + 1) (hb : B0 b) (u : ∀ x y, B0 x → B0 y → x = y) (ew : w = v + b) : BSM B0 B1 B2 k2 w := fun x y z p q r => by
  have t := h x y z p q r
  have := u x b p hb
  subst e e2 ew
  rw [if_neg (by omega), if_neg (by omega), if_neg (by omega)] at t
  rw [if_pos (by omega), if_neg (by omega), if_neg (by omega)]
  omega
theorem BSM_b {B0 B1 B2 : Int → Prop} {k k2 v b w : Int} (h : BSM B0 B1 B2 k v) (e : k = 1) (e2 : k2 = k + 1) (hb : B1 b) (u : ∀ x y, B1 x → B1 y → x = y) (ew : w = v + b) : BSM B0 B1 B2 k2 w := fun x y z p q r => by
  have t := h x y z p q r
  have := u y b q hb
  subst e e2 ew
  rw [if_pos (by omega), if_neg (by omega), if_neg (by omega)] at t
  rw [if_pos (by omega), if_pos (by omega), if_neg (by omega)]
  omega
theorem BSM_c {B0 B1 B2 : Int → Prop} {k k2 v b w : Int} (h : BSM B0 B1 B2 k v) (e : k = 2) (e2 : k2 = k + 1) (hb : B2 b) (u : ∀ x y, B2 x → B2 y → x = y) (ew : w = v + b) : BSM B0 B1 B2 k2 w := fun x y z p q r => by
  have t := h x y z p q r
  have := u z b r hb
  subst e e2 ew
  rw [if_pos (by omega), if_pos (by omega), if_neg (by omega)] at t
  rw [if_pos (by omega), if_pos (by omega), if_pos (by omega)]
  omega
theorem BSM_3 {B0 B1 B2 : Int → Prop} {v : Int} (h : BSM B0 B1 B2 3 v) : ∀ x y z, B0 x → B1 y → B2 z → v = x + y + z := fun x y z p q r => by
  have t := h x y z p q r
  rw [if_pos (by omega), if_pos (by omega), if_pos (by omega)] at t
  exact t
theorem BB_ex {P M B S sy X pl : Int → Int} {n L k : Int} (h : SL P n L M B S sy X pl) (k0 : 0 ≤ k) (k1 : k < p2 L) : ∃ b, BB P L sy k b ∧ 0 ≤ b ∧ b ≤ L := by
  have q := BB_of h k0 k1 rfl rfl
  by_cases w : 0 < XN P sy k / p2 (L - B (sy k) + 1)
  · have r := q.2.2.1 w
    exact ⟨_, r, r.1, r.2.1⟩
  · have r := q.2.2.2 (by omega)
    exact ⟨_, r, r.1, r.2.1⟩
theorem stl_in (b : Nat) (lo hi : Int) (h : (stl b).all (fun z => decide (lo ≤ z ∧ z ≤ hi)) = true) {j : Nat} (hj : j < (stl b).length) {v : Int} (e : (stl b).getD j 0 = v) : lo ≤ v ∧ v ≤ hi := by
  rw [List.getD_eq_getElem?_getD, List.getElem?_eq_getElem hj] at e
  have := List.all_eq_true.mp h _ (List.getElem_mem hj)
  subst e
  exact of_decide_eq_true this

def STJ (w : Int → Int) (k a b c : Int) : Prop := (0 < k → 0 ≤ w 0 ∧ w 0 < p2 a) ∧ (1 < k → 0 ≤ w 1 ∧ w 1 < p2 b) ∧ (2 < k → 0 ≤ w 2 ∧ w 2 < p2 c)
theorem STJ_0 {w : Int → Int} {a b c : Int} : STJ w 0 a b c := ⟨fun q => by omega, fun q => by omega, fun q => by omega⟩
theorem STJ_3 {w : Int → Int} {k a b c : Int} (h : STJ w k a b c) (e : k = 3) : (0 ≤ w 0 ∧ w 0 < p2 a) ∧ (0 ≤ w 1 ∧ w 1 < p2 b) ∧ (0 ≤ w 2 ∧ w 2 < p2 c) := ⟨h.1 (by omega), h.2.1 (by omega), h.2.2 (by omega)⟩
theorem STJ_s {w : Int → Int} {k k2 a b c v : Int} (h : STJ w k a b c) (e : k2 = k + 1) (hv : k = 0 ∧ 0 ≤ v ∧ v < p2 a ∨ k = 1 ∧ 0 ≤ v ∧ v < p2 b ∨ k = 2 ∧ 0 ≤ v ∧ v < p2 c) : STJ (upd1 w k v) k2 a b c := by
  obtain ⟨x, y, z⟩ := h
  refine ⟨fun q => ?_, fun q => ?_, fun q => ?_⟩
  · by_cases w0 : (0 : Int) = k
    · rw [w0, upd1_s]; omega
    · rw [upd1_o w0]; exact x (by omega)
  · by_cases w0 : (1 : Int) = k
    · rw [w0, upd1_s]; omega
    · rw [upd1_o w0]; exact y (by omega)
  · by_cases w0 : (2 : Int) = k
    · rw [w0, upd1_s]; omega
    · rw [upd1_o w0]; exact z (by omega)

def LRM (l k a b c : Int) : Prop := (if k ≤ 0 then a else 0) + (if k ≤ 1 then b else 0) + (if k ≤ 2 then c else 0) ≤ l
theorem LRM_0 {l a b c : Int} (h : a + b + c ≤ l) : LRM l 0 a b c := by
  unfold LRM
  rw [if_pos (by omega), if_pos (by omega), if_pos (by omega)]
  exact h
theorem LRM_s {l m k kk a b c o : Int} (h : LRM l k a b c) (ab : 0 ≤ a ∧ 0 ≤ b ∧ 0 ≤ c) (e : kk = k + 1) (el : m = l - o) (ho : k = 0 ∧ o = a ∨ k = 1 ∧ o = b ∨ k = 2 ∧ o = c) : LRM m kk a b c ∧ 0 ≤ m := by
  subst e el
  unfold LRM at h ⊢
  rcases ho with ⟨q, w⟩ | ⟨q, w⟩ | ⟨q, w⟩
  · subst q w
    rw [if_pos (by omega), if_pos (by omega), if_pos (by omega)] at h
    rw [if_neg (by omega), if_pos (by omega), if_pos (by omega)]
    omega
  · subst q w
    rw [if_neg (by omega), if_pos (by omega), if_pos (by omega)] at h
    rw [if_neg (by omega), if_neg (by omega), if_pos (by omega)]
    omega
  · subst q w
    rw [if_neg (by omega), if_neg (by omega), if_pos (by omega)] at h
    rw [if_neg (by omega), if_neg (by omega), if_neg (by omega)]
    omega


end
section
/-! H5.rows -/
theorem dneZ {V : vV} {σ : rS} {D N : Nat → Nat} {F : hF} {A : hA} (H : HW V σ D N F A) (x y : Nat) (hx : Nat.blt x V.length = true) (hy : Nat.blt y V.length = true) (h : Nat.beq x y = false) : ((D x : Nat) : Int) ≠ ((D y : Nat) : Int) := fun q => by
  have e := H.inj x y (blt_of hx) (blt_of hy) (by omega)
  subst e
  rw [Nat.beq_refl] at h
  cases h
def NNS (f : Int → Int) (k : Int) : Prop := ∀ j, 0 ≤ j → j < k → 0 ≤ f j ∧ f j ≤ 65535
theorem NNS_s {f : Int → Int} {k k2 : Int} (h : NNS f k) (e : k2 = k + 1) (hk : 0 ≤ f k ∧ f k ≤ 65535) : NNS f k2 := fun j a b => by
  by_cases w : j = k
  · subst w; exact hk
  · exact h j a (by omega)
theorem NNS_at {f : Int → Int} {i : Int} (h : NNS f 3) (a : 0 ≤ i) (b : i < 3) : su f (i + 1).toNat ≤ su f (3 : Int).toNat ∧ 0 ≤ f i ∧ f i ≤ 65535 := by
  refine ⟨?_, h i a b⟩
  have h0 := h 0 (by omega) (by omega)
  have h1 := h 1 (by omega) (by omega)
  have h2 := h 2 (by omega) (by omega)
  have e : su f (3 : Int).toNat = ((0 + f 0) + f 1) + f 2 := rfl
  rcases (show i = 0 ∨ i = 1 ∨ i = 2 by omega) with q | q | q <;> subst q
  · have : su f ((0 : Int) + 1).toNat = 0 + f 0 := rfl
    omega
  · have : su f ((1 : Int) + 1).toNat = (0 + f 0) + f 1 := rfl
    omega
  · have : su f ((2 : Int) + 1).toNat = ((0 + f 0) + f 1) + f 2 := rfl
    omega
theorem SZD_of {po ma mo sa us sy nu pl sym S G L K : Int} (h : SHZD po ma mo sa us sy nu pl sym S G) (hL : L ≤ K) (hK : p2 K = G) : SZD po ma mo sa us sy nu pl sym L ∧ sym = S := by
  obtain ⟨a, b, c, d, e, f, g, i, j, k, l⟩ := h
  have := p2_mono hL
  exact ⟨⟨a, b, c, d, e, f, g, by omega⟩, k⟩


end
section
/-! H6.cls -/
abbrev V249_c10_vd : vV := [(0, 12, [(4, 0), (4, 0), (4, 0), (4, 0), (4, 0), (4, 0), (4, 0), (4, 0), (0, 0), (0, 0), (4, 0), (0, 0), (4, 0), (4, 0), (0, 0), (2, 0), (0, 0), (0, 0), (0, 0), (0, 0), (0, 0), (0, 0)]), (1, 0, []), (1, 5, []), (0, 8, [(0, 0), (0, 0), (4, 0), (4, 0), (4, 0), (4, 0), (4, 0), (4, 0), (4, 0), (4, 0), (4, 0), (0, 0), (0, 0)]), (1, 1, []), (1, 1, []), (1, 1, []), (1, 1, []), (1, 1, []), (1, 1, []), (1, 1, []), (1, 1, []), (0, 9, [(4, 0), (4, 0), (4, 0)]), (1, 5, []), (1, 5, []), (0, 4, [(4, 0), (4, 0), (0, 0), (4, 0), (4, 0)]), (1, 5, []), (0, 8, [(0, 0), (0, 0), (4, 0), (4, 0), (4, 0), (4, 0), (4, 0), (4, 0), (4, 0), (4, 0), (4, 0), (0, 0), (0, 0)]), (1, 1, []), (1, 1, []), (1, 1, []), (1, 1, []), (1, 1, []), (1, 1, []), (1, 1, []), (0, 8, [(0, 0), (0, 0), (4, 0), (4, 0), (4, 0), (4, 0), (4, 0), (4, 0), (4, 0), (4, 0), (4, 0), (0, 0), (0, 0)]), (1, 1, [])]
abbrev V249_c11_vd : vV := [(0, 12, [(4, 0), (4, 0), (4, 0), (4, 0), (4, 0), (4, 0), (4, 0), (4, 0), (0, 0), (0, 0), (4, 0), (0, 0), (4, 0), (4, 0), (0, 0), (2, 0), (0, 0), (0, 0), (0, 0), (0, 0), (0, 0), (0, 0)]), (1, 0, []), (1, 5, []), (0, 8, [(0, 0), (0, 0), (4, 0), (4, 0), (4, 0), (4, 0), (4, 0), (4, 0), (4, 0), (4, 0), (4, 0), (0, 0), (0, 0)]), (1, 1, []), (1, 1, []), (1, 1, []), (1, 1, []), (1, 1, []), (1, 1, []), (1, 1, []), (1, 1, []), (0, 9, [(4, 0), (4, 0), (4, 0)]), (1, 5, []), (1, 5, []), (0, 4, [(4, 0), (4, 0), (0, 0), (4, 0), (4, 0)]), (1, 5, []), (0, 8, [(0, 0), (0, 0), (4, 0), (4, 0), (4, 0), (4, 0), (4, 0), (4, 0), (4, 0), (4, 0), (4, 0), (0, 0), (0, 0)]), (1, 1, []), (1, 1, []), (1, 1, []), (1, 1, []), (1, 1, []), (1, 1, []), (1, 1, []), (0, 8, [(0, 0), (0, 0), (4, 0), (4, 0), (4, 0), (4, 0), (4, 0), (4, 0), (4, 0), (4, 0), (4, 0), (0, 0), (0, 0)]), (1, 1, [])]
abbrev V249_c12_vd : vV := [(0, 12, [(4, 0), (4, 0), (4, 0), (4, 0), (4, 0), (4, 0), (4, 0), (4, 0), (0, 0), (0, 0), (4, 0), (0, 0), (4, 0), (4, 0), (0, 0), (2, 0), (0, 0), (0, 0), (0, 0), (0, 0), (0, 0), (0, 0)]), (1, 0, []), (1, 5, []), (0, 8, [(0, 0), (0, 0), (4, 0), (4, 0), (4, 0), (4, 0), (4, 0), (4, 0), (4, 0), (4, 0), (4, 0), (0, 0), (0, 0)]), (1, 1, []), (1, 1, []), (1, 1, []), (1, 1, []), (1, 1, []), (1, 1, []), (1, 1, []), (1, 1, []), (0, 9, [(4, 0), (4, 0), (4, 0)]), (1, 5, []), (1, 5, []), (0, 4, [(4, 0), (4, 0), (0, 0), (4, 0), (4, 0)]), (1, 5, []), (0, 8, [(0, 0), (0, 0), (4, 0), (4, 0), (4, 0), (4, 0), (4, 0), (4, 0), (4, 0), (4, 0), (4, 0), (0, 0), (0, 0)]), (1, 1, []), (1, 1, []), (1, 1, []), (1, 1, []), (1, 1, []), (1, 1, []), (1, 1, []), (0, 8, [(0, 0), (0, 0), (4, 0), (4, 0), (4, 0), (4, 0), (4, 0), (4, 0), (4, 0), (4, 0), (4, 0), (0, 0), (0, 0)]), (1, 1, [])]
abbrev V249_c10_vn : vV := [(0, 12, [(4, 0), (4, 0), (4, 0), (4, 0), (4, 0), (4, 0), (4, 0), (4, 0), (0, 0), (0, 0), (4, 0), (0, 0), (4, 0), (4, 0), (0, 0), (2, 0), (0, 0), (0, 0), (0, 0), (0, 0), (0, 0), (0, 0)]), (1, 0, []), (1, 5, []), (0, 8, [(0, 0), (0, 0), (4, 0), (4, 0), (4, 0), (4, 0), (4, 0), (4, 0), (4, 0), (4, 0), (4, 0), (0, 0), (0, 0)]), (1, 1, []), (1, 1, []), (1, 1, []), (1, 1, []), (1, 1, []), (1, 1, []), (1, 1, []), (1, 1, []), (0, 9, [(4, 0), (4, 0), (4, 0)]), (1, 5, []), (1, 5, []), (0, 8, [(0, 0), (0, 0), (4, 0), (4, 0), (4, 0), (4, 0), (4, 0), (4, 0), (4, 0), (4, 0), (4, 0), (0, 0), (0, 0)]), (1, 1, [])]
abbrev V249_c11_vn : vV := [(0, 12, [(4, 0), (4, 0), (4, 0), (4, 0), (4, 0), (4, 0), (4, 0), (4, 0), (0, 0), (0, 0), (4, 0), (0, 0), (4, 0), (4, 0), (0, 0), (2, 0), (0, 0), (0, 0), (0, 0), (0, 0), (0, 0), (0, 0)]), (1, 0, []), (1, 5, []), (0, 8, [(0, 0), (0, 0), (4, 0), (4, 0), (4, 0), (4, 0), (4, 0), (4, 0), (4, 0), (4, 0), (4, 0), (0, 0), (0, 0)]), (1, 1, []), (1, 1, []), (1, 1, []), (1, 1, []), (1, 1, []), (1, 1, []), (1, 1, []), (1, 1, []), (0, 9, [(4, 0), (4, 0), (4, 0)]), (1, 5, []), (1, 5, []), (0, 8, [(0, 0), (0, 0), (4, 0), (4, 0), (4, 0), (4, 0), (4, 0), (4, 0), (4, 0), (4, 0), (4, 0), (0, 0), (0, 0)]), (1, 1, [])]
abbrev V249_c12_vn : vV := [(0, 12, [(4, 0), (4, 0), (4, 0), (4, 0), (4, 0), (4, 0), (4, 0), (4, 0), (0, 0), (0, 0), (4, 0), (0, 0), (4, 0), (4, 0), (0, 0), (2, 0), (0, 0), (0, 0), (0, 0), (0, 0), (0, 0), (0, 0)]), (1, 0, []), (1, 5, []), (0, 8, [(0, 0), (0, 0), (4, 0), (4, 0), (4, 0), (4, 0), (4, 0), (4, 0), (4, 0), (4, 0), (4, 0), (0, 0), (0, 0)]), (1, 1, []), (1, 1, []), (1, 1, []), (1, 1, []), (1, 1, []), (1, 1, []), (1, 1, []), (1, 1, []), (0, 9, [(4, 0), (4, 0), (4, 0)]), (1, 5, []), (1, 5, []), (0, 8, [(0, 0), (0, 0), (4, 0), (4, 0), (4, 0), (4, 0), (4, 0), (4, 0), (4, 0), (4, 0), (4, 0), (0, 0), (0, 0)]), (1, 1, [])]


end
section
/-! I0.rows -/
def TI2 (x a b : Int) : Prop := x = -1 ∨ x = a ∨ x = b
def TI3 (x a b c : Int) : Prop := x = -1 ∨ x = a ∨ x = b ∨ x = c
def ORB (x a o g : Int) : Prop := x ≠ a ∨ o ≤ g
def SLB (x a : Int) (p : Prop) : Prop := x ≠ a ∨ p


end
section
/-! 46.math -/
section ORB
variable {σ0 σ : rS} {D N : Nat → Nat} {F : hF} {A : hA} {μ d pc c s : Nat} {ls : rO} {st : List Value} {Q : wQ} {len : Nat} {act : rA}
end ORB
theorem div2 {a p : Int} (hp : 0 < p) : (1 < a / p → 2 * p ≤ a) ∧ (a / p ≤ 1 → a < 2 * p) := by
  constructor
  · intro h
    have := Int.mul_le_of_le_ediv hp (show (2 : Int) ≤ a / p by omega)
    exact this
  · intro h
    have := Int.lt_mul_of_ediv_lt hp (show a / p < 2 by omega)
    exact this
def lBs (s : Int) : Int := if s < 16 then s else if s < 20 then 16 + 2 * (s - 16) else if s < 22 then 24 + 4 * (s - 20) else if s < 24 then 32 + 8 * (s - 22) else if s = 24 then 48 else p2 (s - 19)
def mBs (s : Int) : Int := if s < 32 then s + 3 else if s < 36 then 35 + 2 * (s - 32) else if s < 38 then 43 + 4 * (s - 36) else if s < 40 then 51 + 8 * (s - 38) else if s < 42 then 67 + 16 * (s - 40) else if s = 42 then 99 else p2 (s - 36) + 3
theorem lBs_s {s : Int} (h : 0 ≤ s) (h1 : s ≤ 34) : lBs (s + 1) = lBs s + p2 (lB s) := by
  have q : ∀ n : Nat, n < 35 → lBs ((n : Int) + 1) = lBs n + p2 (lB n) := by decide +kernel
  have := q s.toNat (by omega)
  rw [Int.toNat_of_nonneg h] at this
  exact this
theorem mBs_s {s : Int} (h : 0 ≤ s) (h1 : s ≤ 51) : mBs (s + 1) = mBs s + p2 (mB s) := by
  have q : ∀ n : Nat, n < 52 → mBs ((n : Int) + 1) = mBs n + p2 (mB n) := by decide +kernel
  have := q s.toNat (by omega)
  rw [Int.toNat_of_nonneg h] at this
  exact this
theorem lBs_bd {s : Int} (h : 0 ≤ s) (h1 : s ≤ 35) (h2 : lBs s ≤ 16384) : s ≤ 33 := by
  have q : ∀ n : Nat, n < 36 → lBs (n : Int) ≤ 16384 → n ≤ 33 := by decide +kernel
  have := q s.toNat (by omega) (by rw [Int.toNat_of_nonneg h]; exact h2)
  omega
theorem mBs_bd {s : Int} (h : 0 ≤ s) (h1 : s ≤ 52) (h2 : mBs s ≤ 16384) : s ≤ 49 := by
  have q : ∀ n : Nat, n < 53 → mBs (n : Int) ≤ 16384 → n ≤ 49 := by decide +kernel
  have := q s.toNat (by omega) (by rw [Int.toNat_of_nonneg h]; exact h2)
  omega
def WC (top : Int) (l : Int → Int) : Prop := top = 0 ∨ CI l top
def WO (po or_ : Int → Int) : Prop := ∀ t, 0 ≤ t → t < 3 → or_ t ≤ 0 ∨ PS po or_ t
def BD (g : Int → Int) : Prop := ∀ i, (0 : Int) ≤ i → i < 256 → 0 ≤ g i ∧ g i ≤ 11
theorem WC_congr {t t' : Int} {l lₚ : Int → Int} (h : WC t l) (e : t' = t) (e2 : ∀ i, (0 : Int) ≤ i → i < 256 → lₚ i = l i) : WC t' lₚ := by
  subst e
  rcases h with h | h
  · exact .inl h
  · exact .inr (CI_congr h e2)
theorem WO_congr {po po' or_ or2 : Int → Int} (h : WO po or_) (e : ∀ i, (0 : Int) ≤ i → i < 192 → po' i = po i) (e2 : ∀ i, (0 : Int) ≤ i → i < 3 → or2 i = or_ i) : WO po' or2 := by
  intro t a b
  rw [e2 t a b]
  rcases h t a b with q | q
  · exact .inl q
  · exact .inr (PS_congr q ⟨a, b⟩ e (e2 t a b))


end
section
/-! 56.math -/
def HV (g0 g : Int → Int) (n : Int) : Prop := (∀ i, 0 ≤ i → i < n → g i = (g0 i + 1) / 2) ∧ (∀ i, n ≤ i → g i = g0 i)
theorem HV_0 {g : Int → Int} : HV g g 0 := ⟨fun i a b => by omega, fun _ _ => rfl⟩
theorem HV_next {g0 g : Int → Int} {n n2 v : Int} (h : HV g0 g n) (e : n2 = n + 1) (hv : v = (g n + 1) / 2) : HV g0 (upd1 g n v) n2 := by
  subst e
  refine ⟨fun i a b => ?_, fun i a => ?_⟩
  · by_cases q : i = n
    · subst q; rw [upd1_s, hv, h.2 i (by omega)]
    · rw [upd1_o q]; exact h.1 i a (by omega)
  · rw [upd1_o (by omega)]; exact h.2 i (by omega)
theorem HV_su {g0 g : Int → Int} (h : HV g0 g 256) : 2 * su (fun i => g i) 256 ≤ su (fun i => g0 i) 256 + 256 := by
  have e : ∀ m : Nat, m ≤ 256 → 2 * su (fun i => g i) m ≤ su (fun i => g0 i) m + m := by
    intro m
    induction m with
    | zero => intro _; show 2 * (0 : Int) ≤ 0 + 0; omega
    | succ m ih =>
      intro hm
      have := ih (by omega)
      have := h.1 m (by omega) (by omega)
      show 2 * (su (fun i => g i) m + g m) ≤ su (fun i => g0 i) m + g0 m + ((m + 1 : Nat) : Int)
      omega
  exact e 256 (by omega)
theorem HV_nn {g0 g : Int → Int} (h : HV g0 g 256) (h0 : ∀ i, (0 : Int) ≤ i → i < 256 → 0 ≤ g0 i) : ∀ i, (0 : Int) ≤ i → i < 256 → 0 ≤ g i := fun i a b => by
  have := h.1 i a b
  have := h0 i a b
  omega
theorem HV_pos {g0 g : Int → Int} (h : HV g0 g 256) {i : Int} (a : 0 ≤ i) (b : i < 256) (c : 1 ≤ g0 i) : 1 ≤ g i := by
  have := h.1 i a b
  omega
theorem HV_two {g0 g : Int → Int} (h : HV g0 g 256) (t : TWO g0) : TWO g := by
  obtain ⟨x, y, x0, x1, y0, y1, xy, hx, hy⟩ := t
  exact ⟨x, y, x0, x1, y0, y1, xy, by have := HV_pos h x0 x1 (by omega); omega, by have := HV_pos h y0 y1 (by omega); omega⟩
theorem CI_some {g : Int → Int} {T : Int} (h : CI g T) : ∃ i, 0 ≤ i ∧ i < 256 ∧ g i ≠ 0 := by
  have hp := p2_pos T
  obtain ⟨i, a, b, c⟩ := su_some (f := fun i => kr T (g i)) (n := 256) (by have := h.2.2.2.1; omega)
  have := kr_eq T (g i)
  have c : kr T (g i) ≠ 0 := c
  exact ⟨i, a, by omega, by omega⟩
theorem CI_1 {g : Int → Int} {T : Int} (h : CI g T) : 1 ≤ T := by
  obtain ⟨i, a, b, c⟩ := CI_some h
  have := h.2.2.1 i a b
  omega
theorem CI_BD {g : Int → Int} {T : Int} (h : CI g T) : BD g := fun i a b => by
  have := h.2.2.1 i a b
  have := h.2.1
  omega
theorem su_oneR {f : Int → Int} {i : Int} : ∀ {n : Nat}, (∀ i : Int, 0 ≤ i → i < n → 0 ≤ f i) → 0 ≤ i → i < n → f i ≤ su f n
  | 0, _, _, _ => by omega
  | n + 1, h, h0, h1 => by
    have e1 : su f (n + 1) = su f n + f n := rfl
    by_cases e : i = n
    · have := su_nonneg (f := f) (n := n) (fun i a b => h i a (by omega))
      rw [e]; omega
    · have := su_oneR (n := n) (fun i a b => h i a (by omega)) h0 (by omega)
      have := h n (by omega) (by omega)
      omega
theorem HV_b {g0 g : Int → Int} {n : Int} (h : HV g0 g n) (h0 : ∀ i, (0 : Int) ≤ i → i < 256 → 0 ≤ g0 i) (a : 0 ≤ n) (b : n < 256) : 0 ≤ g n ∧ g n ≤ su (fun i => g0 i) 256 := by
  rw [h.2 n (by omega)]
  exact ⟨h0 n a b, su_oneR (f := fun i => g0 i) (n := 256) (fun i x y => h0 i x (by omega)) a (by omega)⟩


end
section
/-! 70.math -/
theorem mass_lt {co tr : Int → Int} {p s : Int} (h : DVI co tr 64) (hs : su (fun i => mass (tr i)) 64 = p) (hk : 2 ≤ su (fun i => pos1 (co i)) 64) (s0 : 0 ≤ s) (s1 : s < 64) : mass (tr s) < p := by
  have nn : ∀ i : Int, 0 ≤ i → i < (64 : Nat) → 0 ≤ (fun i => mass (tr i) + (0 - pos1 (co i))) i := fun i a b => by
    have := h i a (by omega)
    have := mass_eq (tr i)
    have := pos1_eq (co i)
    show 0 ≤ mass (tr i) + (0 - pos1 (co i))
    omega
  have q := su_oneR (f := fun i => mass (tr i) + (0 - pos1 (co i))) (i := s) (n := 64) nn s0 (by omega)
  rw [su_add (f := fun i => mass (tr i)) (h := fun i => 0 - pos1 (co i))] at q
  have e : su (fun i => 0 - pos1 (co i)) 64 = 0 - su (fun i => pos1 (co i)) 64 := by
    have := su_mull (f := fun i => pos1 (co i)) (p := -1) (n := 64)
    rw [su_congr (h := fun i => -1 * pos1 (co i)) (fun i _ _ => by omega)]
    rw [this]
    omega
  have q : mass (tr s) + (0 - pos1 (co s)) ≤ su (fun i => mass (tr i)) 64 + su (fun i => 0 - pos1 (co i)) 64 := q
  have := pos1_eq (co s)
  omega
theorem DVI_m {co tr : Int → Int} {s : Int} (h : DVI co tr 64) (s0 : 0 ≤ s) (s1 : s < 64) (hc : 1 ≤ co s) : 1 ≤ mass (tr s) ∧ tr s ≠ 0 := by
  have := h s s0 s1
  have := mass_eq (tr s)
  omega
def EXN (d : Int → Int) (n : Int) : Prop := ∃ i, 0 ≤ i ∧ i ≤ n ∧ d i ≠ 0
theorem EXN_less {d : Int → Int} {n m : Int} (h : EXN d n) (h0 : d n = 0) (e : m = n - 1) : EXN d m := by
  subst e
  obtain ⟨i, a, b, c⟩ := h
  refine ⟨i, a, ?_, c⟩
  by_cases q : i = n
  · subst q; exact absurd h0 c
  · omega
theorem EXN_nn {d : Int → Int} {n : Int} (h : EXN d n) : 0 ≤ n := by
  obtain ⟨i, a, b, c⟩ := h
  omega

def CW (co w : Int → Int) (n top : Int) : Prop := ∀ j, 0 ≤ j → j < n → 0 ≤ w j ∧ w j ≤ top ∧ 1 ≤ co (w j)
def CZ (co : Int → Int) (top : Int) : Prop := ∀ i, top < i → i < 64 → 0 ≤ i → co i = 0
theorem CZ_pos {co : Int → Int} {top : Int} (h : CZ co top) (h0 : 0 ≤ top) (h1 : top < 64) : su (fun i => pos1 (co i)) 64 ≤ top + 1 := by
  have s := su_split (f := fun i => pos1 (co i)) (n := (top + 1).toNat) (k := (63 - top).toNat) (fun i a b => by
    have := h i (by omega) (by omega) (by omega)
    show pos1 (co i) = 0
    rw [this]; rfl)
  rw [show (top + 1).toNat + (63 - top).toNat = 64 by omega] at s
  rw [s]
  have := su_ones (f := fun i => pos1 (co i)) (n := (top + 1).toNat) (fun i => by have := pos1_eq (co i); show pos1 (co i) ≤ 1; omega)
  omega
theorem CW_next {co w : Int → Int} {n n2 top x c : Int} (h : CW co w n top) (e : n2 = n + 1) (h0 : 0 ≤ n) (x0 : 0 ≤ x ∧ x ≤ top) (hc : c = co x + 1) (c0 : 0 ≤ co x) : CW (upd1 co x c) (upd1 w n x) n2 top := by
  subst e
  intro j a b
  by_cases q : j = n
  · subst q; rw [upd1_s, upd1_s]; omega
  · rw [upd1_o q]
    have := h j a (by omega)
    by_cases r : w j = x
    · rw [r, upd1_s]; omega
    · rw [upd1_o r]; exact this
theorem CZ_upd {co : Int → Int} {top x c : Int} (h : CZ co top) (hx : x ≤ top) : CZ (upd1 co x c) top := fun i a b d => by
  rw [upd1_o (by omega)]
  exact h i a b d


end
section
/-! 83.math -/
def TLI (sy mb ll ml : Int → Int) (n : Int) : Prop := ∀ j, 0 ≤ j → j < n → sy (8001 * 0 + j) ≤ 35 ∧ sy (8001 * 1 + j) ≤ 14 ∧ sy (8001 * 2 + j) ≤ 52 ∧ 17 + mb (8001 * 0 + j) + mb (8001 * 2 + j) + mb (8001 * 1 + j) ≤ 11 * (ll j + ml j)
theorem upd3 (g : Int → Int) {n j u v w : Int} (h0 : 0 ≤ n) (h1 : n ≤ 8000) (j0 : 0 ≤ j) (j1 : j ≤ 8000) : (j = n → upd1 (upd1 (upd1 g (8001 * 0 + n) u) (8001 * 2 + n) v) (8001 * 1 + n) w (8001 * 0 + j) = u ∧ upd1 (upd1 (upd1 g (8001 * 0 + n) u) (8001 * 2 + n) v) (8001 * 1 + n) w (8001 * 2 + j) = v ∧ upd1 (upd1 (upd1 g (8001 * 0 + n) u) (8001 * 2 + n) v) (8001 * 1 + n) w (8001 * 1 + j) = w) ∧ (j ≠ n → ∀ t, 0 ≤ t → t ≤ 2 → upd1 (upd1 (upd1 g (8001 * 0 + n) u) (8001 * 2 + n) v) (8001 * 1 + n) w (8001 * t + j) = g (8001 * t + j)) := by
  refine ⟨fun e => ⟨?_, ?_, ?_⟩, fun e t t0 t1 => ?_⟩
  · subst e; rw [upd1_o (by omega), upd1_o (by omega), upd1_s]
  · subst e; rw [upd1_o (by omega), upd1_s]
  · subst e; rw [upd1_s]
  · rw [upd1_o (by omega), upd1_o (by omega), upd1_o (by omega)]
theorem TLI_next {sy mb sy1 mb1 sy2 mb2 sy3 mb3 ll ml : Int → Int} {n n2 a b c x y z : Int} (h : TLI sy mb ll ml n) (h0 : 0 ≤ n) (h1 : n ≤ 8000) (e : n2 = n + 1) (e1 : sy1 = upd1 sy (8001 * 0 + n) a) (f1 : mb1 = upd1 mb (8001 * 0 + n) x) (e2 : sy2 = upd1 sy1 (8001 * 2 + n) b) (f2 : mb2 = upd1 mb1 (8001 * 2 + n) y) (e3 : sy3 = upd1 sy2 (8001 * 1 + n) c) (f3 : mb3 = upd1 mb2 (8001 * 1 + n) z) (ha : a ≤ 35) (hb : b ≤ 52) (hc : c ≤ 14) (hs : 17 + x + y + z ≤ 11 * (ll n + ml n)) : TLI sy3 mb3 ll ml n2 := by
  subst e1 f1 e2 f2 e3 f3 e
  intro j j0 j1
  have S := upd3 sy (u := a) (v := b) (w := c) h0 h1 j0 (by omega)
  have M := upd3 mb (u := x) (v := y) (w := z) h0 h1 j0 (by omega)
  by_cases q : j = n
  · obtain ⟨s1, s2, s3⟩ := S.1 q
    obtain ⟨m1, m2, m3⟩ := M.1 q
    rw [s1, s2, s3, m1, m2, m3, q]
    exact ⟨ha, hc, hb, hs⟩
  · rw [S.2 q 0 (by omega) (by omega), S.2 q 1 (by omega) (by omega), S.2 q 2 (by omega) (by omega), M.2 q 0 (by omega) (by omega), M.2 q 1 (by omega) (by omega), M.2 q 2 (by omega) (by omega)]
    exact h j j0 (by omega)
theorem lB_le {s : Int} (h : 0 ≤ s) (h1 : s ≤ 35) : lB s ≤ lBs s := by
  have q : ∀ n : Nat, n < 36 → lB (n : Int) ≤ lBs n := by decide +kernel
  have := q s.toNat (by omega)
  rw [Int.toNat_of_nonneg h] at this
  exact this
theorem mB_le {s : Int} (h : 0 ≤ s) (h1 : s ≤ 52) : mB s ≤ mBs s - 3 := by
  have q : ∀ n : Nat, n < 53 → mB (n : Int) ≤ mBs n - 3 := by decide +kernel
  have := q s.toNat (by omega)
  rw [Int.toNat_of_nonneg h] at this
  exact this

def GOI (ll ml : Int → Int) (n tot : Int) : Prop := (∀ j, 0 ≤ j → j < n → 3 ≤ ml j) ∧ su (fun j => ll j + ml j) n.toNat = tot
def GOE (ll ml : Int → Int) (n M : Int) : Prop := (∀ j, 0 ≤ j → j < n → 3 ≤ ml j) ∧ su (fun j => ll j + ml j) n.toNat ≤ M
theorem GOI_0 {ll ml : Int → Int} : GOI ll ml 0 0 := ⟨fun j a b => absurd b (by omega), rfl⟩
theorem GOI_next {ll ml : Int → Int} {n n2 tot tot2 s l : Int} (h : GOI ll ml n tot) (h0 : 0 ≤ n) (e : n2 = n + 1) (hl : 3 ≤ l) (e2 : tot2 = tot + s + l) : GOI (upd1 ll n s) (upd1 ml n l) n2 tot2 := by
  subst e e2
  refine ⟨fun j a b => ?_, ?_⟩
  · by_cases q : j = n
    · rw [q, upd1_s]; exact hl
    · rw [upd1_o q]; exact h.1 j a (by omega)
  · rw [su_s h0, upd1_s, upd1_s, su_congr (h := fun j => ll j + ml j) (fun i a b => by rw [upd1_o (by omega), upd1_o (by omega)]), h.2]
    omega
theorem GOE_of {ll ml : Int → Int} {n tot M : Int} (h : GOI ll ml n tot) (hm : tot ≤ M) : GOE ll ml n M := ⟨h.1, by rw [h.2]; exact hm⟩

def AG (f g : Int → Int) : Prop := ∀ s, 0 ≤ s → s < 64 → f s = g s
theorem AG_upd {f g : Int → Int} {b v w : Int} (h : AG f g) (e : v = w) : AG (upd1 f b v) (upd1 g b w) := fun s a c => by
  by_cases q : s = b
  · rw [q, upd1_s, upd1_s, e]
  · rw [upd1_o q, upd1_o q]; exact h s a c
def bst (tr hd cu : Int → Int) : Nat → Int
  | 0 => -1
  | n + 1 => if 0 < tr n ∧ hd n = 0 ∧ (bst tr hd cu n < 0 ∨ cu (bst tr hd cu n) < cu n) then n else bst tr hd cu n
theorem bst_s {tr hd cu : Int → Int} {i b : Int} (h0 : 0 ≤ i) (hb : bst tr hd cu i.toNat = b) : (0 < tr i ∧ hd i = 0 ∧ (b < 0 ∨ cu b < cu i)) ∧ bst tr hd cu (i + 1).toNat = i ∨ ¬ (0 < tr i ∧ hd i = 0 ∧ (b < 0 ∨ cu b < cu i)) ∧ bst tr hd cu (i + 1).toNat = b := by
  rw [show (i + 1).toNat = i.toNat + 1 by omega]
  have ei : ((i.toNat : Nat) : Int) = i := by omega
  by_cases q : 0 < tr i ∧ hd i = 0 ∧ (b < 0 ∨ cu b < cu i)
  · left
    refine ⟨q, ?_⟩
    show (if 0 < tr (i.toNat : Int) ∧ hd (i.toNat : Int) = 0 ∧ (bst tr hd cu i.toNat < 0 ∨ cu (bst tr hd cu i.toNat) < cu (i.toNat : Int)) then ((i.toNat : Nat) : Int) else bst tr hd cu i.toNat) = i
    rw [hb, ei, if_pos q]
  · right
    refine ⟨q, ?_⟩
    show (if 0 < tr (i.toNat : Int) ∧ hd (i.toNat : Int) = 0 ∧ (bst tr hd cu i.toNat < 0 ∨ cu (bst tr hd cu i.toNat) < cu (i.toNat : Int)) then ((i.toNat : Nat) : Int) else bst tr hd cu i.toNat) = b
    rw [hb, ei, if_neg q]
theorem bst_rng {tr hd cu : Int → Int} : ∀ n : Nat, -1 ≤ bst tr hd cu n ∧ bst tr hd cu n < n
  | 0 => by show (-1 : Int) ≤ -1 ∧ (-1 : Int) < (0 : Nat); omega
  | n + 1 => by
    have := bst_rng (tr := tr) (hd := hd) (cu := cu) n
    have q := bst_s (tr := tr) (hd := hd) (cu := cu) (i := n) (b := bst tr hd cu n) (by omega) rfl
    rw [show ((n : Int) + 1).toNat = n + 1 by omega] at q
    omega
theorem bst_congr {tr hd cu tr' hd' cu' : Int → Int} (ht : AG tr tr') (hh : AG hd hd') (hc : AG cu cu') : ∀ n : Nat, n ≤ 64 → bst tr hd cu n = bst tr' hd' cu' n
  | 0, _ => rfl
  | n + 1, h => by
    have e := bst_congr ht hh hc n (by omega)
    have r := bst_rng (tr := tr') (hd := hd') (cu := cu') n
    have q := bst_s (tr := tr) (hd := hd) (cu := cu) (i := n) (by omega) e
    have qₚ := bst_s (tr := tr') (hd := hd') (cu := cu') (i := n) (by omega) rfl
    rw [show ((n : Int) + 1).toNat = n + 1 by omega] at q qₚ
    rw [show ((n : Int).toNat) = n by omega] at qₚ
    rw [ht n (by omega) (by omega), hh n (by omega) (by omega), hc n (by omega) (by omega)] at q
    by_cases w : bst tr' hd' cu' n < 0
    · omega
    · rw [hc (bst tr' hd' cu' n) (by omega) (by omega)] at q
      omega
def mst (tr : Int → Int) : Nat → Int
  | 0 => 0
  | n + 1 => if tr (mst tr n) < tr n then n else mst tr n
theorem mst_s {tr : Int → Int} {i b : Int} (h0 : 0 ≤ i) (hb : mst tr i.toNat = b) : tr b < tr i ∧ mst tr (i + 1).toNat = i ∨ tr i ≤ tr b ∧ mst tr (i + 1).toNat = b := by
  rw [show (i + 1).toNat = i.toNat + 1 by omega]
  have ei : ((i.toNat : Nat) : Int) = i := by omega
  by_cases q : tr b < tr i
  · left
    refine ⟨q, ?_⟩
    show (if tr (mst tr i.toNat) < tr (i.toNat : Int) then ((i.toNat : Nat) : Int) else mst tr i.toNat) = i
    rw [hb, ei, if_pos q]
  · right
    refine ⟨by omega, ?_⟩
    show (if tr (mst tr i.toNat) < tr (i.toNat : Int) then ((i.toNat : Nat) : Int) else mst tr i.toNat) = b
    rw [hb, ei, if_neg q]
theorem mst_1 {tr : Int → Int} : mst tr (1 : Int).toNat = 0 := by
  have := mst_s (tr := tr) (i := 0) (b := 0) (by omega) rfl
  rw [show ((0 : Int) + 1) = 1 by omega] at this
  omega
theorem mst_rng {tr : Int → Int} : ∀ n : Nat, 0 ≤ mst tr n ∧ mst tr n ≤ n
  | 0 => by show (0 : Int) ≤ 0 ∧ (0 : Int) ≤ (0 : Nat); omega
  | n + 1 => by
    have := mst_rng (tr := tr) n
    have q := mst_s (tr := tr) (i := n) (b := mst tr n) (by omega) rfl
    rw [show ((n : Int) + 1).toNat = n + 1 by omega] at q
    omega
theorem mst_lt {tr : Int → Int} (n : Nat) : mst tr (n + 1) < n + 1 := by
  have := mst_rng (tr := tr) n
  have q := mst_s (tr := tr) (i := n) (b := mst tr n) (by omega) rfl
  rw [show ((n : Int) + 1).toNat = n + 1 by omega] at q
  omega
theorem mst_congr {tr tr' : Int → Int} (ht : AG tr tr') : ∀ n : Nat, n ≤ 64 → mst tr n = mst tr' n
  | 0, _ => rfl
  | n + 1, h => by
    have e := mst_congr ht n (by omega)
    have r := mst_rng (tr := tr') n
    have q := mst_s (tr := tr) (i := n) (by omega) e
    have qₚ := mst_s (tr := tr') (i := n) (by omega) rfl
    rw [show ((n : Int) + 1).toNat = n + 1 by omega] at q qₚ
    rw [show ((n : Int).toNat) = n by omega] at qₚ
    have l := ht n (by omega) (by omega)
    have l2 := ht (mst tr' n) (by omega) (by omega)
    omega
def dv1 (cu : Int → Int) (x : (Int → Int) × (Int → Int) × Int) : (Int → Int) × (Int → Int) × Int := if x.2.2 ≤ 0 then x else if bst x.1 x.2.1 cu 64 < 0 then (x.1, (fun _ => 0), x.2.2) else (upd1 x.1 (bst x.1 x.2.1 cu 64) (x.1 (bst x.1 x.2.1 cu 64) + 1), upd1 x.2.1 (bst x.1 x.2.1 cu 64) 1, x.2.2 - 1)
def dv2 (x : (Int → Int) × Int) : (Int → Int) × Int := if 0 ≤ x.2 then x else (upd1 x.1 (mst x.1 64) (x.1 (mst x.1 64) - 1), x.2 + 1)
theorem dv1_put {cu : Int → Int} {x : (Int → Int) × (Int → Int) × Int} {b : Int} (hl : ¬ x.2.2 ≤ 0) (hb : bst x.1 x.2.1 cu 64 = b) (b0 : 0 ≤ b) : dv1 cu x = (upd1 x.1 b (x.1 b + 1), upd1 x.2.1 b 1, x.2.2 - 1) := by
  unfold dv1
  rw [if_neg hl, hb, if_neg (by omega)]
theorem dv1_clear {cu : Int → Int} {x : (Int → Int) × (Int → Int) × Int} (hl : ¬ x.2.2 ≤ 0) (hb : bst x.1 x.2.1 cu 64 < 0) : dv1 cu x = (x.1, (fun _ => 0), x.2.2) := by
  unfold dv1
  rw [if_neg hl, if_pos hb]
theorem dv2_s {x : (Int → Int) × Int} {b : Int} (hl : ¬ 0 ≤ x.2) (hb : mst x.1 64 = b) : dv2 x = (upd1 x.1 b (x.1 b - 1), x.2 + 1) := by
  unfold dv2
  rw [if_neg hl, hb]
def itr {α : Type} (f : α → α) : Nat → α → α
  | 0, x => x
  | n + 1, x => f (itr f n x)
theorem itr_fix {α : Type} {f : α → α} {x : α} {m : Nat} (h : f (itr f m x) = itr f m x) : ∀ k, itr f (m + k) x = itr f m x
  | 0 => rfl
  | k + 1 => by
    show f (itr f (m + k) x) = _
    rw [itr_fix h k, h]
theorem itr_end {α : Type} {f : α → α} {x : α} {m m' : Nat} (h : f (itr f m x) = itr f m x) (h' : f (itr f m' x) = itr f m' x) : itr f m x = itr f m' x := by
  by_cases q : m ≤ m'
  · have := itr_fix h (m' - m)
    rw [show m + (m' - m) = m' by omega] at this
    exact this.symm
  · have := itr_fix h' (m - m')
    rw [show m' + (m - m') = m by omega] at this
    exact this
def dv0 (co : Int → Int) (n p : Int) : Int → Int := fun s => if co s * p = 0 then 0 else if co s * p < n then -1 else co s * p / n
def cu0 (co : Int → Int) (n p : Int) : Int → Int := fun s => co s * p % n
def dvs (co : Int → Int) (n p : Int) : (Int → Int) × (Int → Int) × Int := (dv0 co n p, (fun _ => 0), p - su (fun i => mass (dv0 co n p i)) 64)
def DVA (co tr : Int → Int) (n p i : Int) : Prop := ∀ s, 0 ≤ s → s < i → tr s = dv0 co n p s
def DVC (co cu : Int → Int) (n p i : Int) : Prop := ∀ s, 0 ≤ s → s < i → cu s = cu0 co n p s
def DVH (hd : Int → Int) (i : Int) : Prop := ∀ s, 0 ≤ s → s < i → hd s = 0
theorem dv0_eq (co : Int → Int) (n p s q : Int) (e : q = co s * p) : q = 0 ∧ dv0 co n p s = 0 ∨ q ≠ 0 ∧ q < n ∧ dv0 co n p s = -1 ∨ q ≠ 0 ∧ n ≤ q ∧ dv0 co n p s = q / n := by
  subst e
  unfold dv0
  by_cases h : co s * p = 0
  · left; exact ⟨h, if_pos h⟩
  · right
    simp only [if_neg h]
    by_cases w : co s * p < n
    · left; exact ⟨h, w, if_pos w⟩
    · right; exact ⟨h, by omega, if_neg w⟩
def DV1R (co : Int → Int) (n p : Int) (tr hd : Int → Int) (l : Int) : Prop := ∃ m, AG tr (itr (dv1 (cu0 co n p)) m (dvs co n p)).1 ∧ AG hd (itr (dv1 (cu0 co n p)) m (dvs co n p)).2.1 ∧ l = (itr (dv1 (cu0 co n p)) m (dvs co n p)).2.2
theorem DV1R_0 {co tr hd : Int → Int} {n p l : Int} (ht : DVA co tr n p 64) (hh : DVH hd 64) (hl : l = p - su (fun i => mass (tr i)) 64) : DV1R co n p tr hd l :=
  ⟨0, ht, hh, by rw [hl]; show _ = p - su (fun i => mass (dv0 co n p i)) 64; rw [su_congr (f := fun i => mass (tr i)) (h := fun i => mass (dv0 co n p i)) (fun i a b => by rw [ht i a (by omega)])]⟩
theorem DV1R_put {co tr hd cu : Int → Int} {n p l l2 b v : Int} (h : DV1R co n p tr hd l) (hl : 0 < l) (hc : DVC co cu n p 64) (hb : bst tr hd cu 64 = b) (b0 : 0 ≤ b) (hv : v = tr b + 1) (e : l2 = l - 1) : DV1R co n p (upd1 tr b v) (upd1 hd b 1) l2 := by
  obtain ⟨m, h1, h2, h3⟩ := h
  have r := bst_rng (tr := tr) (hd := hd) (cu := cu) 64
  rw [bst_congr h1 h2 hc 64 (by omega)] at hb r
  refine ⟨m + 1, ?_⟩
  show AG _ (dv1 _ (itr (dv1 (cu0 co n p)) m (dvs co n p))).1 ∧ AG _ (dv1 _ (itr (dv1 (cu0 co n p)) m (dvs co n p))).2.1 ∧ l2 = (dv1 _ (itr (dv1 (cu0 co n p)) m (dvs co n p))).2.2
  rw [dv1_put (by omega) hb b0]
  refine ⟨AG_upd h1 ?_, AG_upd h2 rfl, by show l2 = _ - 1; omega⟩
  rw [hv, h1 b b0 (by omega)]
theorem DV1R_clear {co tr hd hd' cu : Int → Int} {n p l : Int} (h : DV1R co n p tr hd l) (hl : 0 < l) (hc : DVC co cu n p 64) (hb : bst tr hd cu 64 < 0) (hz : DVH hd' 64) : DV1R co n p tr hd' l := by
  obtain ⟨m, h1, h2, h3⟩ := h
  rw [bst_congr h1 h2 hc 64 (by omega)] at hb
  refine ⟨m + 1, ?_⟩
  show AG _ (dv1 _ (itr (dv1 (cu0 co n p)) m (dvs co n p))).1 ∧ AG _ (dv1 _ (itr (dv1 (cu0 co n p)) m (dvs co n p))).2.1 ∧ l = (dv1 _ (itr (dv1 (cu0 co n p)) m (dvs co n p))).2.2
  rw [dv1_clear (by omega) hb]
  exact ⟨h1, hz, h3⟩
def dve (co : Int → Int) (n p : Int) (m : Nat) : (Int → Int) × Int := ((itr (dv1 (cu0 co n p)) m (dvs co n p)).1, (itr (dv1 (cu0 co n p)) m (dvs co n p)).2.2)
def DV2R (co : Int → Int) (n p : Int) (tr : Int → Int) (l : Int) : Prop := ∃ m1 m2, (dve co n p m1).2 ≤ 0 ∧ AG tr (itr dv2 m2 (dve co n p m1)).1 ∧ l = (itr dv2 m2 (dve co n p m1)).2
theorem DV2R_0 {co tr hd : Int → Int} {n p l : Int} (h : DV1R co n p tr hd l) (hl : l ≤ 0) : DV2R co n p tr l := by
  obtain ⟨m, h1, h2, h3⟩ := h
  exact ⟨m, 0, by show (itr (dv1 (cu0 co n p)) m (dvs co n p)).2.2 ≤ 0; omega, h1, h3⟩
theorem DV2R_s {co tr : Int → Int} {n p l l2 b v : Int} (h : DV2R co n p tr l) (hl : l < 0) (hb : mst tr 64 = b) (hv : v = tr b - 1) (e : l2 = l + 1) : DV2R co n p (upd1 tr b v) l2 := by
  obtain ⟨m1, m2, h1, h2, h3⟩ := h
  have r := mst_rng (tr := tr) 64
  have r2 := mst_lt (tr := tr) 63
  have e0 := mst_congr h2 64 (by omega)
  refine ⟨m1, m2 + 1, h1, ?_⟩
  show AG _ (dv2 (itr dv2 m2 (dve co n p m1))).1 ∧ l2 = (dv2 (itr dv2 m2 (dve co n p m1))).2
  rw [dv2_s (by omega) (e0.symm.trans hb)]
  refine ⟨AG_upd h2 ?_, by show l2 = _ + 1; omega⟩
  rw [hv, h2 b (by omega) (by show b < 64; have : mst tr (63 + 1) < 64 := r2; rw [hb] at this; exact this)]

def DVF (co : Int → Int) (n p : Int) (tr : Int → Int) : Prop := ∃ l, 0 ≤ l ∧ DV2R co n p tr l
theorem DVF_uniq {co tr tr' : Int → Int} {n p : Int} (h : DVF co n p tr) (h' : DVF co n p tr') : AG tr tr' := by
  obtain ⟨l, l0, m1, m2, a1, a2, a3⟩ := h
  obtain ⟨lₚ, l0', m1', m2', b1, b2, b3⟩ := h'
  have fx : ∀ m, (dve co n p m).2 ≤ 0 → dv1 (cu0 co n p) (itr (dv1 (cu0 co n p)) m (dvs co n p)) = itr (dv1 (cu0 co n p)) m (dvs co n p) := fun m q => by
    show (if _ then _ else _) = _
    exact if_pos q
  have e1 := itr_end (fx m1 a1) (fx m1' b1)
  have e2 : dve co n p m1 = dve co n p m1' := by unfold dve; rw [e1]
  rw [e2] at a2 a3
  have fy : ∀ m, 0 ≤ (itr dv2 m (dve co n p m1')).2 → dv2 (itr dv2 m (dve co n p m1')) = itr dv2 m (dve co n p m1') := fun m q => by
    show (if _ then _ else _) = _
    exact if_pos q
  have e3 := itr_end (fy m2 (by omega)) (fy m2' (by omega))
  rw [e3] at a2
  exact fun s x y => by rw [a2 s x y, b2 s x y]
theorem LD_agree {P P' sy bi ba : Int → Int} {L : Int} (hL : 5 ≤ L ∧ L ≤ 9) (h : LD P 64 L sy bi ba) (e : AG P P') : LD P' 64 L sy bi ba := by
  have hg : ∀ s, 0 ≤ s → s ≤ 64 → ngs P s = ngs P' s := fun s a b => su_congr (fun i c d => by rw [e i c (by omega)])
  have hc : ∀ s, 0 ≤ s → s ≤ 64 → cum P s = cum P' s := fun s a b => su_congr (fun i c d => by rw [e i c (by omega)])
  refine ⟨⟨fun s a b c => ?_, fun j a b c => ?_⟩, fun s a b => ?_, fun k a b => ?_⟩
  · rw [← hg s a (by omega)]; exact h.1.1 s a b (by rw [e s a b]; exact c)
  · rw [← hg 64 (by omega) (by omega)] at c ⊢
    have w := h.1.2 j a b c
    rw [← hc _ w.1 (by omega), ← hc (sy (qs L j) + 1) (by omega) (by omega)]
    exact w
  · rw [h.2.1 s a b, e s a b]
  · obtain ⟨r, q⟩ := h.2.2 k a b
    have w := LAID_rng hL (by omega) h.1 a b
    have x : XN P' sy k = XN P sy k := by unfold XN; rw [e _ w.1 w.2.1]
    exact ⟨r, by rw [x]; exact q⟩
theorem COST_agree {P P' : Int → Int} {L : Int} {row : Int → Int} {n c : Int} (hL : 5 ≤ L ∧ L ≤ 9) (h : COST P L row n c) (e : AG P P') : COST P' L row n c := by
  obtain ⟨sy, bi, ba, st, d1, d2⟩ := h
  exact ⟨sy, bi, ba, st, LD_agree hL d1 e, d2⟩
theorem CHN_rng {sy bi ba : Int → Int} {L : Int} {row : Int → Int} {n : Int} : ∀ {d : Nat} {st c : Int}, CHN sy bi ba L row n d st c → 0 ≤ st ∧ st < p2 L
  | 0, _, _, h => ⟨h.1.1, h.1.2.1⟩
  | _ + 1, _, _, h => by
    obtain ⟨x, y, q1, q2, q3⟩ := h
    exact ⟨q2.1, q2.2.1⟩
theorem CHN_nz {P sy bi ba : Int → Int} {L : Int} {row : Int → Int} {n : Int} (hL : 5 ≤ L ∧ L ≤ 9) (hld : LD P 64 L sy bi ba) : ∀ {d : Nat} {st c : Int}, CHN sy bi ba L row n d st c → ∀ j, n - 1 - d ≤ j → j < n → P (row j) ≠ 0
  | 0, st, c, h, j, a, b => by
    have e : j = n - 1 := by omega
    have w := LAID_rng hL (by omega) hld.1 h.1.1 h.1.2.1
    rw [e, ← h.1.2.2.1.1]
    exact w.2.2
  | d + 1, st, c, h, j, a, b => by
    obtain ⟨x, y, q1, q2, q3⟩ := h
    by_cases e : j = n - 2 - d
    · have w := LAID_rng hL (by omega) hld.1 q2.1 q2.2.1
      rw [e, ← q2.2.2.1.1]
      exact w.2.2
    · exact CHN_nz hL hld q1 j (by omega) b
theorem COST_nz {P : Int → Int} {L : Int} {row : Int → Int} {n c : Int} (hL : 5 ≤ L ∧ L ≤ 9) (h : COST P L row n c) (hn : 1 ≤ n) : ∀ j, 0 ≤ j → j < n → P (row j) ≠ 0 := fun j a b => by
  obtain ⟨sy, bi, ba, st, d1, d2⟩ := h
  exact CHN_nz hL d1 d2 j (by omega) b
theorem KK_nz {t i : Int} (t0 : 0 ≤ t) (t1 : t ≤ 2) (h0 : 0 ≤ i) (h : i ≤ (if t = 0 then 35 else if t = 1 then 14 else 52)) : KK t i ≠ 0 := by
  unfold KK
  by_cases a : t = 0
  · simp only [a] at h ⊢
    have q : ∀ n : Nat, n < 36 → K0 (n : Int) ≠ 0 := by decide +kernel
    have := q i.toNat (by simp at h; omega)
    rw [Int.toNat_of_nonneg h0] at this
    simpa using this
  · by_cases b : t = 1
    · simp only [b] at h ⊢
      have q : ∀ n : Nat, n < 15 → K1 (n : Int) ≠ 0 := by decide +kernel
      have := q i.toNat (by simp at h; omega)
      rw [Int.toNat_of_nonneg h0] at this
      simpa using this
    · simp only [if_neg a, if_neg b] at h ⊢
      have q : ∀ n : Nat, n < 53 → K2 (n : Int) ≠ 0 := by decide +kernel
      have := q i.toNat (by omega)
      rw [Int.toNat_of_nonneg h0] at this
      exact this
theorem GOI_c {ll ml : Int → Int} {n t t2 : Int} (h : GOI ll ml n t) (e : t2 = t) : GOI ll ml n t2 := e ▸ h
theorem DVA_next {co tr : Int → Int} {n p i i2 v : Int} (h : DVA co tr n p i) (hv : v = dv0 co n p i) (e : i2 = i + 1) : DVA co (upd1 tr i v) n p i2 := fun s a b => by
  by_cases q : s = i
  · rw [q, upd1_s]; exact hv
  · rw [upd1_o q]; exact h s a (by omega)
theorem DVC_next {co cu : Int → Int} {n p i i2 v : Int} (h : DVC co cu n p i) (hv : v = cu0 co n p i) (e : i2 = i + 1) : DVC co (upd1 cu i v) n p i2 := fun s a b => by
  by_cases q : s = i
  · rw [q, upd1_s]; exact hv
  · rw [upd1_o q]; exact h s a (by omega)
theorem DVH_next {hd : Int → Int} {i i2 v : Int} (h : DVH hd i) (hv : v = 0) (e : i2 = i + 1) : DVH (upd1 hd i v) i2 := fun s a b => by
  by_cases q : s = i
  · rw [q, upd1_s]; exact hv
  · rw [upd1_o q]; exact h s a (by omega)


end
section
/-! 86.math -/
def kO (t : Int) : Int := if t = 1 then 5 else 6
theorem kO_eq (t : Int) : t = 1 ∧ kO t = 5 ∨ t ≠ 1 ∧ kO t = 6 := by
  unfold kO
  by_cases h : t = 1
  · left; exact ⟨h, if_pos h⟩
  · right; exact ⟨h, if_neg h⟩
def lS (t : Int) : Int := if t = 0 then 35 else if t = 1 then 14 else 52
theorem lS_eq (t : Int) : t = 0 ∧ lS t = 35 ∨ t = 1 ∧ lS t = 14 ∨ t ≠ 0 ∧ t ≠ 1 ∧ lS t = 52 := by
  unfold lS
  by_cases h : t = 0
  · left; exact ⟨h, if_pos h⟩
  · right
    simp only [if_neg h]
    by_cases w : t = 1
    · left; exact ⟨w, if_pos w⟩
    · right; exact ⟨h, w, if_neg w⟩

def TBL (po or_ row : Int → Int) (t n : Int) : Prop := 0 ≤ or_ t ∧ or_ t ≤ 9 ∧ (1 ≤ or_ t → SH po (64 * t) 64 (or_ t) (lastOf t) ∧ ∃ c, c ≤ kO t * n ∧ COST (sh po (64 * t)) (or_ t) row n c)
theorem TBL_new {po or_ row P g : Int → Int} {t n o c : Int} (hs : SH g 0 64 o (lastOf t)) (hp : ∀ k, 0 ≤ k → k < 64 → po (64 * t + k) = g k) (ho : or_ t = o) (hc : COST P o row n c) (e : AG P g) (hb : c ≤ kO t * n) : TBL po or_ row t n := by
  have h5 := hs.1
  have h9 := hs.2.1
  refine ⟨by omega, by omega, fun _ => ⟨?_, c, hb, ?_⟩⟩
  · rw [ho]; exact SH_copy hs (fun k a b => by rw [hp k a b, Int.zero_add])
  · rw [ho]; exact COST_agree ⟨h5, h9⟩ hc (fun s a b => by rw [e s a b, ← hp s a b]; rfl)
theorem TBL_0 {po or_ row : Int → Int} {t n : Int} (ho : or_ t = 0) : TBL po or_ row t n := ⟨by omega, by omega, fun q => absurd q (by omega)⟩
theorem TBL_was {po or_ row : Int → Int} {t n c : Int} (hw : WO po or_) (t0 : 0 ≤ t) (t1 : t < 3) (h0 : 0 ≤ or_ t) (hc : 1 ≤ or_ t → COST (sh po (64 * t)) (or_ t) row n c) (hb : c ≤ kO t * n) : TBL po or_ row t n := by
  by_cases q : 1 ≤ or_ t
  · have hs : SH po (64 * t) 64 (or_ t) (lastOf t) := by
      rcases hw t t0 t1 with w | w
      · omega
      · exact w
    exact ⟨h0, hs.2.1, fun _ => ⟨hs, c, hb, hc q⟩⟩
  · exact TBL_0 (by omega)
theorem TBL_keep {po or_ po' or_' row : Int → Int} {t t' n : Int} (h : TBL po or_ row t n) (hp : FRM po po' (64 * t') (64 * t' + 64)) (ho : FRM or_ or_' t' (t' + 1)) (hn : t ≠ t') : TBL po' or_' row t n := by
  have e : or_' t = or_ t := ho t (by omega)
  refine ⟨by rw [e]; exact h.1, by rw [e]; exact h.2.1, fun q => ?_⟩
  rw [e] at q ⊢
  obtain ⟨a, c, b, d⟩ := h.2.2 q
  have ea : ∀ k, 0 ≤ k → k < 64 → po' (64 * t + k) = po (64 * t + k) := fun k x y => hp _ (by omega)
  exact ⟨SH_copy a ea, c, b, COST_agree ⟨a.1, a.2.1⟩ d (fun s x y => (ea s x y).symm)⟩
theorem WO_new {po or_ po' or_' row : Int → Int} {t n : Int} (hw : WO po or_) (hp : FRM po po' (64 * t) (64 * t + 64)) (ho : FRM or_ or_' t (t + 1)) (h : TBL po' or_' row t n) : WO po' or_' := fun x x0 x1 => by
  by_cases q : x = t
  · subst q
    by_cases w : 1 ≤ or_' x
    · exact .inr (h.2.2 w).1
    · exact .inl (by omega)
  · have e : or_' x = or_ x := ho x (by omega)
    rcases hw x x0 x1 with w | w
    · exact .inl (by omega)
    · refine .inr ?_
      show SH po' (64 * x) 64 (or_' x) (lastOf x)
      rw [e]
      exact SH_copy w (fun k a b => hp _ (by omega))
theorem cp_upd {po tr : Int → Int} {a i i2 v : Int} (h : ∀ k, 0 ≤ k → k < i → po (a + k) = tr k) (hv : v = tr i) (e : i2 = i + 1) : ∀ k, 0 ≤ k → k < i2 → upd1 po (a + i) v (a + k) = tr k := fun k x y => by
  by_cases q : k = i
  · rw [q, upd1_s]; exact hv
  · rw [upd1_o (by omega)]; exact h k x (by omega)
theorem AG_sh {f g : Int → Int} (h : AG f g) : AG (sh f 0) g := fun s a b => by
  show f (0 + s) = g s
  rw [Int.zero_add]
  exact h s a b


end
section
/-! 88.math -/
theorem ngs_le {g : Int → Int} {a o l : Int} (h : SH g a 64 o l) : ngs (sh g a) 64 ≤ p2 o := by
  have q := SH_parts h
  have w : 0 ≤ su (fun i => posi (g (a + i))) (64 : Int).toNat := su_nonneg (fun i _ _ => by have := posi_eq (g (a + i)); omega)
  show su (fun i => neg1 (g (a + i))) (64 : Int).toNat ≤ p2 o
  omega
theorem ngs_in {P : Int → Int} {s L : Int} (h : ngs P 64 ≤ p2 L) (s0 : 0 ≤ s) (s1 : s < 64) (hs : P s < 0) : 0 ≤ p2 L - 1 - ngs P s ∧ p2 L - 1 - ngs P s < p2 L := by
  have a := su_le_all (f := fun i => neg1 (P i)) (i := s + 1) (n := 64) (by omega) (by omega) (fun i _ => by have := neg1_eq (P i); omega)
  have b := su_le_all (f := fun i => neg1 (P i)) (i := s) (n := 64) (by omega) (by omega) (fun i _ => by have := neg1_eq (P i); omega)
  have c := su_s (f := fun i => neg1 (P i)) (i := s) s0
  have d := neg1_eq (P s)
  have e : ngs P s = su (fun i => neg1 (P i)) s.toNat := rfl
  have f : ngs P 64 = su (fun i => neg1 (P i)) (64 : Int).toNat := rfl
  omega
theorem LD_rows {P sy bi ba sy' bi' ba' : Int → Int} {L : Int} (hL : 5 ≤ L ∧ L ≤ 9) (hn : ngs P 64 ≤ p2 L) (h : LD P 64 L sy bi ba) (e : ∀ k, 0 ≤ k → k < p2 L → sy' k = sy k ∧ bi' k = bi k ∧ ba' k = ba k) : LD P 64 L sy' bi' ba' := by
  have pp := p2_pos L
  have ee : ∀ s k, 0 ≤ k → k < p2 L → eqs sy' s k = eqs sy s k := fun s k a b => by unfold eqs; rw [(e k a b).1]
  refine ⟨⟨fun s a b c => ?_, fun j a b c => ?_⟩, fun s a b => ?_, fun k a b => ?_⟩
  · have w := ngs_in hn a b c
    rw [(e _ w.1 w.2).1]; exact h.1.1 s a b c
  · have q0 : 0 ≤ qs L j := Int.emod_nonneg _ (by omega)
    have q1 : qs L j < p2 L := Int.emod_lt_of_pos _ pp
    rw [(e _ q0 q1).1]; exact h.1.2 j a b c
  · rw [← h.2.1 s a b]; exact su_congr (fun i x y => ee s i x (by omega))
  · obtain ⟨r, q⟩ := h.2.2 k a b
    have x : XN P sy' k = XN P sy k := by
      unfold XN
      rw [(e k a b).1, su_congr (f := eqs sy' (sy k)) (h := eqs sy (sy k)) (fun i x y => ee _ i x (by omega))]
    exact ⟨r, by rw [x, (e k a b).2.1, (e k a b).2.2]; exact q⟩
theorem LOW_rows {sy bi sy' bi' : Int → Int} {L s m r : Int} (h : LOW sy bi L s m r) (e : ∀ k, 0 ≤ k → k < p2 L → sy' k = sy k ∧ bi' k = bi k) : LOW sy' bi' L s m r := by
  refine ⟨h.1, h.2.1, ?_, fun k a b => ?_⟩
  · have w := e r h.1 h.2.1
    unfold WQ; rw [w.1, w.2]; exact h.2.2.1
  · have w := e k a (by have := h.2.1; omega)
    unfold WQ; rw [w.1, w.2]; exact h.2.2.2 k a b
def STI (po or_ pS pB pA row : Int → Int) (t n d st x : Int) : Prop := (or_ t ≤ 0 → st = 0 ∧ x = 0) ∧ (1 ≤ or_ t → LD (sh po (64 * t)) 64 (or_ t) (sh pS (512 * t)) (sh pB (512 * t)) (sh pA (512 * t)) ∧ CHN (sh pS (512 * t)) (sh pB (512 * t)) (sh pA (512 * t)) (or_ t) row n d.toNat st (or_ t + x))
theorem STI_0 {po or_ pS pB pA pS' pB' pA' row : Int → Int} {t n st : Int} (hT : TBL po or_ row t n) (h0 : or_ t ≤ 0 → st = 0) (h1 : 1 ≤ or_ t → LD (sh po (64 * t)) 64 (or_ t) (sh pS (512 * t)) (sh pB (512 * t)) (sh pA (512 * t)) ∧ LOW (sh pS (512 * t)) (sh pB (512 * t)) (or_ t) (row (n - 1)) 0 st) (f : ∀ k, 512 * t ≤ k → k < 512 * t + 512 → pS' k = pS k ∧ pB' k = pB k ∧ pA' k = pA k) : STI po or_ pS' pB' pA' row t n 0 st 0 := by
  refine ⟨fun q => ⟨h0 q, rfl⟩, fun q => ?_⟩
  obtain ⟨a, b⟩ := h1 q
  obtain ⟨s, _⟩ := hT.2.2 q
  have p9 := p2_le9 (o := or_ t) s.2.1
  have ff : ∀ k, 0 ≤ k → k < p2 (or_ t) → sh pS' (512 * t) k = sh pS (512 * t) k ∧ sh pB' (512 * t) k = sh pB (512 * t) k ∧ sh pA' (512 * t) k = sh pA (512 * t) k := fun k x y => f (512 * t + k) (by omega) (by omega)
  refine ⟨LD_rows ⟨s.1, s.2.1⟩ (ngs_le s) a ff, ?_⟩
  show CHN _ _ _ _ row n 0 st (or_ t + 0)
  exact ⟨LOW_rows b (fun k x y => ⟨(ff k x y).1, (ff k x y).2.1⟩), by omega⟩
theorem STI_pre {po or_ pS pB pA row : Int → Int} {t n d st x i : Int} (h : STI po or_ pS pB pA row t n d st x) (hT : TBL po or_ row t n) (hn : 1 ≤ n) (i0 : 0 ≤ i) (i1 : i < n) (r : ∀ j, 0 ≤ row j ∧ row j < 64) : 1 ≤ or_ t → 5 ≤ or_ t ∧ LD (sh po (64 * t)) 64 (or_ t) (sh pS (512 * t)) (sh pB (512 * t)) (sh pA (512 * t)) ∧ 1 ≤ mass ((sh po (64 * t)) (row i)) ∧ mass ((sh po (64 * t)) (row i)) ≤ p2 (or_ t) ∧ 0 ≤ st ∧ st < p2 (or_ t) := fun q => by
  obtain ⟨a, b⟩ := h.2 q
  obtain ⟨s, c, hc, hC⟩ := hT.2.2 q
  have nz := COST_nz ⟨s.1, s.2.1⟩ hC hn i i0 i1
  have l := SH_le (row i) s (r i).1 (r i).2
  have m := mass_eq (sh po (64 * t) (row i))
  have e : sh po (64 * t) (row i) = po (64 * t + row i) := rfl
  have rg := CHN_rng b
  refine ⟨s.1, a, by omega, ?_, rg.1, rg.2⟩
  rw [e]; exact l.2.2.1
theorem STI_s {po or_ pS pB pA row : Int → Int} {t n d d2 st st' x i b b' : Int} (h : STI po or_ pS pB pA row t n d st x) (h0 : 0 ≤ d) (hi : i = n - 2 - d) (p0 : or_ t ≤ 0 → st' = 0 ∧ b' = b) (p1 : 1 ≤ or_ t → LEAD (sh pS (512 * t)) (sh pB (512 * t)) (sh pA (512 * t)) (or_ t) (row i) st st' ∧ b' = b + (sh pB (512 * t)) st') (e : d2 = d + 1) : STI po or_ pS pB pA row t n d2 st' (x + (b' - b)) := by
  refine ⟨fun q => ⟨(p0 q).1, by have := (p0 q).2; have := (h.1 q).2; omega⟩, fun q => ?_⟩
  obtain ⟨a, c⟩ := h.2 q
  obtain ⟨l, eb⟩ := p1 q
  exact ⟨a, CHN_s c h0 e hi l (by omega)⟩
theorem STI_end {po or_ pS pB pA row : Int → Int} {t n d st x : Int} (h : STI po or_ pS pB pA row t n d st x) (hT : TBL po or_ row t n) (hn : 1 ≤ n) (hd : d = n - 1) (hk : 0 ≤ kO t * n) : x + or_ t ≤ kO t * n := by
  by_cases q : 1 ≤ or_ t
  · obtain ⟨a, b⟩ := h.2 q
    obtain ⟨s, c, hc, hC⟩ := hT.2.2 q
    rw [hd] at b
    have := COST_uniq ⟨s.1, s.2.1⟩ hC ⟨_, _, _, st, a, b⟩
    omega
  · have := (h.1 (by omega)).2
    have := hT.1
    omega
def mo3 (mb : Int → Int) : Int → Int := fun j => mb (8001 * 0 + j) + mb (8001 * 2 + j) + mb (8001 * 1 + j)
def SSI (po or_ pS pB pA sy mb : Int → Int) (n i a b c bits : Int) : Prop := ∃ x0 x1 x2, STI po or_ pS pB pA (sh sy (8001 * 0)) 0 n (n - 2 - i) a x0 ∧ STI po or_ pS pB pA (sh sy (8001 * 1)) 1 n (n - 2 - i) b x1 ∧ STI po or_ pS pB pA (sh sy (8001 * 2)) 2 n (n - 2 - i) c x2 ∧ bits = x0 + x1 + x2 + (su (mo3 mb) n.toNat - su (mo3 mb) (i + 1).toNat)
theorem su_lin {f g : Int → Int} : ∀ {n : Nat}, (∀ i : Int, 0 ≤ i → i < n → 17 + f i ≤ 11 * g i) → 17 * (n : Int) + su f n ≤ 11 * su g n
  | 0, _ => by show 17 * ((0 : Nat) : Int) + 0 ≤ 11 * 0; omega
  | n + 1, h => by
    have a := su_lin (n := n) (fun i x y => h i x (by omega))
    have b := h n (by omega) (by omega)
    show 17 * ((n + 1 : Nat) : Int) + (su f n + f n) ≤ 11 * (su g n + g n)
    omega

theorem TLI_sum {sy mb ll ml : Int → Int} {n M : Int} (h : TLI sy mb ll ml n) (g : GOE ll ml n M) (hn : 0 ≤ n) : 17 * n + su (mo3 mb) n.toNat ≤ 11 * M := by
  have a := su_lin (f := mo3 mb) (g := fun j => ll j + ml j) (n := n.toNat) (fun i x y => by have := (h i x (by omega)).2.2.2; unfold mo3; omega)
  have b := g.2
  omega
theorem TLI_sy {sy mb ll ml : Int → Int} {n t : Int} (h : TLI sy mb ll ml n) (t0 : 0 ≤ t) (t1 : t ≤ 2) : ∀ j, 0 ≤ j → j < n → (sh sy (8001 * t)) j ≤ lS t := fun j a b => by
  have q := h j a b
  have w := lS_eq t
  show sy (8001 * t + j) ≤ lS t
  rcases (show t = 0 ∨ t = 1 ∨ t = 2 by omega) with e | e | e <;> subst e <;> omega


end
section
/-! D7.math -/
theorem hsf_congr {b b' : Int → Int} {p : Int} : ∀ {k : Nat}, (∀ i, p ≤ i → i < p + k → b' i = b i) → hsf b' p k = hsf b p k
  | 0, _ => rfl
  | k + 1, h => by
    show wr (wr (hsf b' p k * 257) + b' (p + k)) = wr (wr (hsf b p k * 257) + b (p + k))
    rw [hsf_congr (fun i x y => h i x (by omega)), h (p + k) (by omega) (by omega)]
theorem hsh_congr {b b' : Int → Int} {l p : Int} (h : ∀ i, p ≤ i → i < p + l → b' i = b i) : hsh b' l p = hsh b l p := by
  unfold hsh
  rw [hsf_congr (fun i x y => h i x (by omega))]
theorem BKI_data {b b' bk : Int → Int} {l L C : Int} (h : BKI b bk l L) (e : ∀ i, 0 ≤ i → i < C → b' i = b i) (hl : L = 0 ∨ L + l ≤ C + 1) : BKI b' bk l L := fun i a c => by
  have w := h i a c
  refine ⟨w.1, w.2.1, fun q => ?_, fun k x y => ?_⟩
  · rw [hsh_congr (b := b) (fun j x y => e j (by omega) (by omega)), hsh_congr (b := b) (fun j x y => e j (by omega) (by omega))]
    exact w.2.2.1 q
  · rw [hsh_congr (b := b) (p := k) (fun j x y => e j (by omega) (by omega)), hsh_congr (b := b) (p := i) (fun j x y => e j (by omega) (by omega))]
    exact w.2.2.2 k x y
theorem HDI_data {b b' hd : Int → Int} {l L C : Int} (h : HDI b hd l L) (e : ∀ i, 0 ≤ i → i < C → b' i = b i) (hl : L = 0 ∨ L + l ≤ C + 1) : HDI b' hd l L := fun i a c => by
  have w := h i a c
  refine ⟨w.1, w.2.1, fun q => ?_, fun k x y => ?_⟩
  · rw [hsh_congr (b := b) (fun j x y => e j (by omega) (by omega))]
    exact w.2.2.1 q
  · rw [hsh_congr (b := b) (p := k) (fun j x y => e j (by omega) (by omega))]
    exact w.2.2.2 k x y
theorem HDI_any {b b' hd : Int → Int} {l lₚ : Int} (h : HDI b hd l 0) : HDI b' hd lₚ 0 := fun i a c => by
  have w := h i a c
  exact ⟨w.1, w.2.1, fun q => absurd q (by omega), fun j x y => absurd y (by omega)⟩

def stf (b : Nat) : Int → Int := fun i => (stl b).getD i.toNat 0
theorem TGm_eq : sc (stf 0) 0 (0 + 10) = TGm := TGm_sc (fun j hj => by
  show (stl 0).getD ((j : Int)).toNat 0 = _
  rw [Int.toNat_natCast]
  rfl)
section VS7
variable {V : vV} {σ : rS} {D N : Nat → Nat} {F : hF} {A : hA} {μ d pc c s : Nat} {ls : rO} {st : List Value} {Q : wQ} {len : Nat} {act : rA}
theorem v_cpyS (H : HW V σ D N F A) (HT : STC σ) {x b e t b0 : Nat} {z : Value} {m dp sp n : Int} (hf : PP.1 μ pc = some (.invokestatic x, len, (27, b, e, z))) (hw : Nat.ble (rwords st) 8 = true) (ht : Nat.blt t V.length = true) (hb : Nat.beq b0 0 = true) (ha : varr V t = true) (hk : vak V t = 0) (hn : (N t : Int) = n) (hm : 0 ≤ m ∧ 0 ≤ dp ∧ 0 ≤ sp ∧ sp + m ≤ (stl b0).length ∧ dp + m ≤ n)
    (h : ∀ σₚ Aₚ, HW V σₚ D N F Aₚ → OUT V.length D N σ c s D N σₚ c s → SA [t] A Aₚ → (∀ i, dp ≤ i → i < dp + m → Aₚ t i = stf b0 (sp + (i - dp))) → (∀ i, i < dp ∨ dp + m ≤ i → Aₚ t i = A t i) → Ew μ d (pc + 3) ls st σₚ c s Q) : Ew μ d pc ls (I m :: I dp :: .ref (D t) :: I sp :: .ref b0 :: st) σ c s Q := by
  have hb := Nat.eq_of_beq_eq_true hb
  subst hb hn
  have ht := blt_of ht
  have hl := H.nle t ht
  have hl0 := stl_len 0 (by omega)
  obtain ⟨dv, ov, q1, q2⟩ := H.arr t ht ha
  obtain ⟨dv0, ov0, p1, p2⟩ := HT 0 (by omega)
  have hr0 : ∀ j : Nat, -128 ≤ (stl 0).getD j 0 ∧ (stl 0).getD j 0 ≤ 127 := fun j => by
    by_cases w : j < 10
    · have q : ∀ j, j < 10 → -128 ≤ (stl 0).getD j 0 ∧ (stl 0).getD j 0 ≤ 127 := by decide +kernel
      exact q j w
    · rw [List.getD_eq_getElem?_getD, List.getElem?_eq_none (by show (stl 0).length ≤ j; rw [show (stl 0).length = 10 from by decide]; omega)]
      exact ⟨by decide, by decide⟩
  have e := HW_all H (t := t) (dv := dv) (ov := rcpy ov0 dv0 sp.toNat dp.toNat m.toNat ov) (f := fun i => if dp ≤ i ∧ i < dp + m then (stl 0).getD (sp + (i - dp)).toNat 0 else A t i) ht ha (fun j => by
    rw [rcpy_lk]
    by_cases w : dp ≤ (j : Int) ∧ (j : Int) < dp + m
    · rw [if_pos (by omega), if_pos w, p2, hk, show (sp + ((j : Int) - dp)).toNat = sp.toNat + (j - dp.toNat) by omega]
      rfl
    · rw [if_neg (by omega), if_neg w, q2]) (fun i => by
    rw [hk]
    by_cases w : dp ≤ i ∧ i < dp + m
    · rw [if_pos w]; exact hr0 _
    · rw [if_neg w]; have := H.arg t i ht ha; rw [hk] at this; exact this)
  obtain ⟨v', σₚ, cₚ, sₚ, h, q⟩ := h _ _ e (OUT_set ht) (fun x hx i => updR_o (any1 hx)) (fun i a b => by rw [updR_s, if_pos ⟨a, b⟩]; rfl) (fun i a => by rw [updR_s, if_neg (by omega)])
  rw [hk] at q1 h
  refine ⟨v', σₚ, cₚ, sₚ, x_copy hf hw q1 p1 (by decide) (by omega) (by omega) (by omega) (by omega) (by omega) (H.lo t ht) (rcall0_of (fun j hj => ?_)) h, q⟩
  rw [p2]
  exact rcel_B (hr0 _)
end VS7


end
