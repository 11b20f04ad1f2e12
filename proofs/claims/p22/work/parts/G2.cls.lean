abbrev V118_Br_c10 : vV := [(0, 4, [(4, 0), (4, 0), (0, 0), (4, 0), (4, 0)]), (1, 0, []), (0, 9, [(4, 0), (4, 0), (4, 0)]), (1, 5, []), (1, 5, []), (0, 8, [(0, 0), (0, 0), (4, 0), (4, 0), (4, 0), (4, 0), (4, 0), (4, 0), (4, 0), (4, 0), (4, 0), (0, 0), (0, 0)]), (1, 1, []), (1, 1, []), (1, 1, []), (1, 1, []), (1, 1, []), (1, 1, []), (1, 1, []), (1, 1, [])]
theorem len_V118_Br_c10_oz_G2cls : (V118_Br_c10).length = 14 := by decide +kernel
theorem oz_G2cls_1 : vsub V118_Br_c10 V184_Br [5, 1, 11, 6, 7, 8, 9, 10, 12, 13] = true := by decide +kernel
def oz_G2clsl_0 : List Nat := [3, 6, 7, 8, 9, 10, 11, 12, 13]
theorem oz_G2cls_2 : (oz_G2clsl_0).all (fun p => !tbz 16328 p) = true := by decide +kernel
def oz_G2clsl_1 : List (Nat × Nat) := [(5, 0), (5, 10), (5, 11), (5, 12)]
theorem oz_G2cls_3 : (oz_G2clsl_1).all (fun p => !tbz 10477505238025243020602216565743032967913380400594944 (Nat.add (Nat.mul 32 p.1) p.2)) = true := by decide +kernel
def oz_G2clsl_2 : List Nat := [5, 1, 11, 6, 7, 8, 9, 10, 12, 13]
theorem oz_G2cls_4 : okc oz_G2clsl_2 31488832103906706239259141 = true := by decide +kernel
/-- Dictionary.hearTable: this, #1, this.stand, this.stand.tables, this.tables, this.tables.0, this.tables.0.points, this.tables.0.masses, this.tables.0.mostBits, this.tables.0.starts, this.tables.0.used, this.tables.0.symbolAt, this.tables.0.numberAt, this.tables.0.placeOf -/
theorem C118_Br_c10 {σE : rS} {D N : Nat → Nat} {F : hF} {A : hA} {d c s : Nat} {Q : wQ} (H : HW V118_Br_c10 σE D N F A) (HT : STC σE) {a3 a4 : Int} (pf2 : HID (F 0 1 = (D 2 : Int))) (pf3 : HID (F 2 1 = (D 3 : Int))) (pf4 : HID (F 0 4 = (D 4 : Int))) (pf5 : HID (A 4 0 = (D 5 : Int))) (pf6 : HID (F 5 2 = (D 6 : Int))) (pf7 : HID (F 5 3 = (D 7 : Int))) (pf8 : HID (F 5 4 = (D 8 : Int))) (pf9 : HID (F 5 5 = (D 9 : Int))) (pf10 : HID (F 5 6 = (D 10 : Int))) (pf11 : HID (F 5 7 = (D 11 : Int))) (pf12 : HID (F 5 8 = (D 12 : Int))) (pf13 : HID (F 5 9 = (D 13 : Int))) (n1 : Int) (en1 : HID ((N 1 : Int) = n1)) (n3 : Int) (en3 : HID ((N 3 : Int) = n3)) (n4 : Int) (en4 : HID ((N 4 : Int) = n4)) (n6 : Int) (en6 : HID ((N 6 : Int) = n6)) (n7 : Int) (en7 : HID ((N 7 : Int) = n7)) (n8 : Int) (en8 : HID ((N 8 : Int) = n8)) (n9 : Int) (en9 : HID ((N 9 : Int) = n9)) (n10 : Int) (en10 : HID ((N 10 : Int) = n10)) (n11 : Int) (en11 : HID ((N 11 : Int) = n11)) (n12 : Int) (en12 : HID ((N 12 : Int) = n12)) (n13 : Int) (en13 : HID ((N 13 : Int) = n13)) (u5_0 : Int) (eu5_0 : HID (F 5 0 = u5_0)) (u5_1 : Int) (eu5_1 : HID (F 5 1 = u5_1)) (w3 : Int → Int) (ew3 : A 3 = w3) (w6 : Int → Int) (ew6 : A 6 = w6) (w7 : Int → Int) (ew7 : A 7 = w7) (w8 : Int → Int) (ew8 : A 8 = w8) (w9 : Int → Int) (ew9 : A 9 = w9) (w11 : Int → Int) (ew11 : A 11 = w11) (w12 : Int → Int) (ew12 : A 12 = w12) (w13 : Int → Int) (ew13 : A 13 = w13) (h0 : inr (0)) (h1 : inr (a3)) (h2 : inr (a4)) (h3 : (a3) = -1 ∨ 0 ≤ (a3) ∧ (a3) ≤ (a4)) (h4 : 0 ≤ (a4) ∧ (a4) ≤ (n1) ∧ (n1) ≤ 65536) (h5 : (n3) = 3 ∧ (n4) = 3) (h6 : SHZD ((n6)) ((n7)) ((n8)) ((n9)) ((n10)) ((n11)) ((n12)) ((n13)) ((u5_1)) 36 512) (k : ∀ (z : Int) (σ : rS) (Fₚ : hF) (Aₚ : hA), HW V118_Br_c10 σ D N Fₚ Aₚ → OUT (V118_Br_c10).length D N σE c s D N σ c s → SF [(5, 0), (5, 10), (5, 11), (5, 12)] F Fₚ → SA [3, 6, 7, 8, 9, 10, 11, 12, 13] A Aₚ → ∀ y5_0 : Int, Fₚ 5 0 = y5_0 → ∀ v3 : Int → Int, Aₚ 3 = v3 → ∀ v6 : Int → Int, Aₚ 6 = v6 → ∀ v7 : Int → Int, Aₚ 7 = v7 → ∀ v8 : Int → Int, Aₚ 8 = v8 → ∀ v9 : Int → Int, Aₚ 9 = v9 → ∀ v11 : Int → Int, Aₚ 11 = v11 → ∀ v12 : Int → Int, Aₚ 12 = v12 → ∀ v13 : Int → Int, Aₚ 13 = v13 → (inr (z)) → ((z) = -1 ∨ 0 ≤ (a3) ∧ (a3) ≤ (z) ∧ (z) ≤ (a4)) → ((z) = -1 ∨ SL ((v6)) ((u5_1)) ((y5_0)) ((v7)) ((v8)) ((v9)) ((v11)) ((v12)) ((v13))) → (((v3)) 0 = (((D 5 : Nat) : Int))) → ((z) = -1 ∨ (y5_0) ≤ 9) → (0 = 0 ∨ ((v3)) 0 = ((w3)) 0) → (0 = 1 ∨ ((v3)) 1 = ((w3)) 1) → (0 = 2 ∨ ((v3)) 2 = ((w3)) 2) → Q (some (I z)) σ c s) : Ew 118 (d + 2) 0 (rargs 0 [.ref (D 0), I 0, .ref (D 1), I a3, I a4]) [] σE c s Q := by
  have O := OUT_refl (n := (V118_Br_c10).length) (D := D) (N := N) (σ := σE) (c := c) (s := s)
  have HE := H
  have r1 : (-2147483648 : Int) ≤ u5_0 ∧ u5_0 ≤ 2147483647 := rngE (show (-2147483648 : Int) ≤ F 5 0 ∧ F 5 0 ≤ 2147483647 from H.krg 5 0 (ltn len_V118_Br_c10_oz_G2cls rfl)) (show F 5 0 = u5_0 from (eu5_0))
  have r2 : (-2147483648 : Int) ≤ u5_1 ∧ u5_1 ≤ 2147483647 := rngE (show (-2147483648 : Int) ≤ F 5 1 ∧ F 5 1 ≤ 2147483647 from H.krg 5 1 (ltn len_V118_Br_c10_oz_G2cls rfl)) (show F 5 1 = u5_1 from (eu5_1))
  have r3 : (0 : Int) ≤ n1 ∧ n1 ≤ 1000000 := nleE (H.nle 1 (ltn len_V118_Br_c10_oz_G2cls rfl)) (show (N 1 : Int) = n1 from en1)
  have r4 : (0 : Int) ≤ n3 ∧ n3 ≤ 1000000 := nleE (H.nle 3 (ltn len_V118_Br_c10_oz_G2cls rfl)) (show (N 3 : Int) = n3 from en3)
  have r5 : (0 : Int) ≤ n4 ∧ n4 ≤ 1000000 := nleE (H.nle 4 (ltn len_V118_Br_c10_oz_G2cls rfl)) (show (N 4 : Int) = n4 from en4)
  have r6 : (0 : Int) ≤ n6 ∧ n6 ≤ 1000000 := nleE (H.nle 6 (ltn len_V118_Br_c10_oz_G2cls rfl)) (show (N 6 : Int) = n6 from en6)
  have r7 : (0 : Int) ≤ n7 ∧ n7 ≤ 1000000 := nleE (H.nle 7 (ltn len_V118_Br_c10_oz_G2cls rfl)) (show (N 7 : Int) = n7 from en7)
  have r8 : (0 : Int) ≤ n8 ∧ n8 ≤ 1000000 := nleE (H.nle 8 (ltn len_V118_Br_c10_oz_G2cls rfl)) (show (N 8 : Int) = n8 from en8)
  have r9 : (0 : Int) ≤ n9 ∧ n9 ≤ 1000000 := nleE (H.nle 9 (ltn len_V118_Br_c10_oz_G2cls rfl)) (show (N 9 : Int) = n9 from en9)
  have r10 : (0 : Int) ≤ n10 ∧ n10 ≤ 1000000 := nleE (H.nle 10 (ltn len_V118_Br_c10_oz_G2cls rfl)) (show (N 10 : Int) = n10 from en10)
  have r11 : (0 : Int) ≤ n11 ∧ n11 ≤ 1000000 := nleE (H.nle 11 (ltn len_V118_Br_c10_oz_G2cls rfl)) (show (N 11 : Int) = n11 from en11)
  have r12 : (0 : Int) ≤ n12 ∧ n12 ≤ 1000000 := nleE (H.nle 12 (ltn len_V118_Br_c10_oz_G2cls rfl)) (show (N 12 : Int) = n12 from en12)
  have r13 : (0 : Int) ≤ n13 ∧ n13 ≤ 1000000 := nleE (H.nle 13 (ltn len_V118_Br_c10_oz_G2cls rfl)) (show (N 13 : Int) = n13 from en13)
  have hsz : SHZD ((n6)) ((n7)) ((n8)) ((n9)) ((n10)) ((n11)) ((n12)) ((n13)) ((u5_1)) 36 512 := h6
  unfold SHZD at hsz
  refine Ew_of (pcₚ := 1) (fun _ => x_aload_n rfl rfl) ?_
  refine v_g H (o := 0) (v := .ref (D 2)) rfl rfl rfl rfl rfl (vrf (pf2)) ?_
  refine v_g H (o := 2) (v := .ref (D 3)) rfl rfl rfl rfl rfl (vrf (pf3)) ?_
  refine Ew_of (pcₚ := 8) (fun _ => x_iload_n rfl rfl) ?_
  refine Ew_of (pcₚ := 9) (fun _ => x_aload_n rfl rfl) ?_
  refine v_g H (o := 0) (v := .ref (D 4)) rfl rfl rfl rfl rfl (vrf (pf4)) ?_
  refine Ew_of (pcₚ := 13) (fun _ => x_iload_n rfl rfl) ?_
  refine v_lR H (o := 4) rfl rfl rfl rfl rfl (n := n4) (en4) (show 0 ≤ 0 ∧ 0 < n4 from q_3493 h5 r5) (z := ((D 5 : Nat) : Int)) (v := .ref (D 5)) (pf5) (vrf rfl) ?_
  have hu := fun j (hj : j ≠ 0) => upd1_o (a := ((w3))) (j := 0) (z := (((D 5 : Nat) : Int))) (i := j) hj
  have hs := upd1_s (a := ((w3))) (j := 0) (z := (((D 5 : Nat) : Int)))
  have hu0 : (0 : Int) = 0 ∨ upd1 ((w3)) 0 ((((D 5 : Nat) : Int))) 0 = ((w3)) 0 := by by_cases w : (0 : Int) = 0; exact .inl (by omega); exact .inr (hu 0 w)
  have hu1 : (0 : Int) = 1 ∨ upd1 ((w3)) 0 ((((D 5 : Nat) : Int))) 1 = ((w3)) 1 := by by_cases w : (1 : Int) = 0; exact .inl (by omega); exact .inr (hu 1 w)
  have hu2 : (0 : Int) = 2 ∨ upd1 ((w3)) 0 ((((D 5 : Nat) : Int))) 2 = ((w3)) 2 := by by_cases w : (2 : Int) = 0; exact .inl (by omega); exact .inr (hu 2 w)
  refine v_sR H (o := 3) (z := ((D 5 : Nat) : Int)) (v := .ref (D 5)) rfl rfl rfl rfl rfl (n := n3) (en3) (show 0 ≤ 0 ∧ 0 < n3 from q_3494 h5 r4) (show (-1 : Int) ≤ ((D 5 : Nat) : Int) by omega) (vrf rfl) (rkinR H (x := 5) rfl rfl rfl) (fun σ H Oₚ => ?_)
  have O := OUT_trans O Oₚ
  have cAu14 : SA oz_G2clsl_0 A (updA A 3 (0) (((D 5 : Nat) : Int))) := SA_upd (SA_refl) rfl
  have mAu14 := SAm_of cAu14 oz_G2cls_2
  refine Ew_of (pcₚ := 16) (fun _ => x_iload_n rfl rfl) ?_
  refine w_ifge (t := 23) rfl rfl (show inr (a3) from h1) (fun b15 => ?_) (fun b15 => ?_)
  · refine Ew_of (pcₚ := 24) (fun _ => x_aload_n rfl rfl) ?_
    refine v_g H (o := 0) (v := .ref (D 4)) rfl rfl rfl rfl rfl (vrf (pf4)) ?_
    refine Ew_of (pcₚ := 28) (fun _ => x_iload_n rfl rfl) ?_
    refine v_lR H (o := 4) rfl rfl rfl rfl rfl (n := n4) (en4) (show 0 ≤ 0 ∧ 0 < n4 from q_3493 h5 r5) (z := ((D 5 : Nat) : Int)) (v := .ref (D 5)) ((mAu14 4 rfl 0).trans (pf5)) (vrf rfl) ?_
    refine Ew_of (pcₚ := 30) (fun _ => x_aload_n rfl rfl) ?_
    refine Ew_of (pcₚ := 31) (fun _ => x_iload_n rfl rfl) ?_
    refine Ew_of (pcₚ := 33) (fun _ => x_iload rfl rfl) ?_
    refine Ew_of (pcₚ := 36) (fun _ => x_getstatic rfl) ?_
    refine Ew_of (pcₚ := 37) (fun _ => x_iload_n rfl rfl) ?_
    refine v_stI (STC_out HT HE O) (b := 2) (n := 3) rfl rfl rfl rfl (show 0 ≤ 0 ∧ 0 < 3 from q_3495) (fun v16 ev16 qv16 => ?_)
    have hgo := ev16
    have hgv : ((v16) : Int) = 9 := by rw [← hgo]; rfl
    have hpg : p2 ((v16)) = 512 := by rw [hgv]; decide
    refine v_inv H (o := 5) rfl rfl rfl rfl rfl rfl (by rfl) (C184_Br (D := puc 31488832103906706239259141 D) (N := puc 31488832103906706239259141 N) (HW_subc H oz_G2cls_1 oz_G2cls_4) (pf11) (pf6) (pf7) (pf8) (pf9) (pf10) (pf12) (pf13) (n1) (en1) (n11) (en11) (n6) (en6) (n7) (en7) (n8) (en8) (n9) (en9) (n10) (en10) (n12) (en12) (n13) (en13) (u5_0) ((eu5_0)) (u5_1) ((eu5_1)) (w11) (ew11) (w6) (ew6) (w7) (ew7) (w8) (ew8) (w9) (ew9) (w12) (ew12) (w13) (ew13) (show inr (a3) from h1) (show inr (a4) from h2) (show inr (v16) from qv16) (show 0 ≤ (a3) ∧ (a3) ≤ (a4) ∧ (a4) ≤ (n1) ∧ (n1) ≤ 65536 from q_3496 b15 h3 h4) (show 5 ≤ (v16) ∧ (v16) ≤ 9 ∧ p2 (v16) ≤ (n11) by omega) (show (n6) = (u5_1) ∧ (n7) = (u5_1) ∧ (n8) = (u5_1) ∧ (n9) = (u5_1) ∧ (n10) = (u5_1) ∧ (n12) = (n11) ∧ (n13) = (n11) ∧ 1 ≤ (u5_1) ∧ (u5_1) ≤ 64 by omega) (fun z17 σ17 F17ₚ A17ₚ Hₚ Oₚ hS17 hA17 y17_0_0 (ey17_0_0 : HID _) w17_2 ew17_2 w17_3 ew17_3 w17_4 ew17_4 w17_5 ew17_5 w17_6 ew17_6 w17_8 ew17_8 w17_9 ew17_9 (pq17_0 : HID _) pz17_0 pz17_1 pz17_2 pz17_3 => ⟨rfl, ?_⟩))
    refine v_backc (c := c) (s := s) H oz_G2cls_1 oz_G2cls_4 Hₚ Oₚ (fun F17 A17 H Oₚ eF17 eA17 => ?_)
    have O := OUT_trans O Oₚ
    -- Share.hear
    have cF17 : SF oz_G2clsl_1 F F17 := SF_trans (SF_refl) (SF_gluc (ι := oz_G2clsl_2) oz_G2cls_4 hS17 eF17 (by decide +kernel)) (any_sub (lₚ := [(5, 0), (5, 10), (5, 11), (5, 12)]) (by decide +kernel))
    have mF17 := SFm_of cF17 oz_G2cls_3
    have cA17 : SA oz_G2clsl_0 A A17 := SA_trans (cAu14) (SA_gluc (ι := oz_G2clsl_2) oz_G2cls_4 hA17 eA17 (by decide +kernel)) (any_subA (lₚ := [6, 7, 8, 9, 10, 11, 12, 13]) (by decide +kernel))
    have mA17 := SAm_of cA17 oz_G2cls_2
    have pl17_0 : HID (F17 5 10 = (D 1 : Int)) := (eF17 5 10).trans (pq17_0)
    have r18 : (-2147483648 : Int) ≤ y17_0_0 ∧ y17_0_0 ≤ 2147483647 := rngE (show (-2147483648 : Int) ≤ F17 5 0 ∧ F17 5 0 ≤ 2147483647 from H.krg 5 0 (ltn len_V118_Br_c10_oz_G2cls rfl)) (show F17 5 0 = y17_0_0 from ((eF17 5 0).trans ey17_0_0))
    exact w_ireturn rfl (k (z17) _ _ _ H O (cF17) (cA17) (y17_0_0) (((eF17 5 0).trans ey17_0_0)) (upd1 (w3) (0) (((D 5 : Nat) : Int))) (((show A17 3 = (updA A 3 (0) (((D 5 : Nat) : Int))) 3 from (eA17 3))).trans (congrArg (fun q => upd1 q (0) (((D 5 : Nat) : Int))) (ew3))) (w17_3) ((eA17 6).trans ew17_3) (w17_4) ((eA17 7).trans ew17_4) (w17_5) ((eA17 8).trans ew17_5) (w17_6) ((eA17 9).trans ew17_6) (w17_2) ((eA17 11).trans ew17_2) (w17_8) ((eA17 12).trans ew17_8) (w17_9) ((eA17 13).trans ew17_9) (show inr (z17) from pz17_0) (show (z17) = -1 ∨ 0 ≤ (a3) ∧ (a3) ≤ (z17) ∧ (z17) ≤ (a4) by omega) (show (z17) = -1 ∨ SL ((w17_3)) ((u5_1)) ((y17_0_0)) ((w17_4)) ((w17_5)) ((w17_6)) ((w17_2)) ((w17_8)) ((w17_9)) from pz17_3) (show ((upd1 (w3) (0) (((D 5 : Nat) : Int)))) 0 = (((D 5 : Nat) : Int)) by omega) (show (z17) = -1 ∨ (y17_0_0) ≤ 9 by omega) (show 0 = 0 ∨ ((upd1 (w3) (0) (((D 5 : Nat) : Int)))) 0 = ((w3)) 0 by first | exact q_3497 | omega) (show 0 = 1 ∨ ((upd1 (w3) (0) (((D 5 : Nat) : Int)))) 1 = ((w3)) 1 by omega) (show 0 = 2 ∨ ((upd1 (w3) (0) (((D 5 : Nat) : Int)))) 2 = ((w3)) 2 by omega))
  · have hno : (-1 : Int) = -1 ∨ SL ((w6)) ((u5_1)) ((u5_0)) ((w7)) ((w8)) ((w9)) ((w11)) ((w12)) ((w13)) := .inl rfl
    refine Ew_of (pcₚ := 20) (fun _ => x_iconst rfl) ?_
    refine Ew_of (pcₚ := 41) (fun _ => x_goto rfl rfl) ?_
    exact w_ireturn rfl (k ((-1)) _ _ _ H O (SF_refl) (cAu14) (u5_0) ((eu5_0)) (upd1 (w3) (0) (((D 5 : Nat) : Int))) (congrArg (fun q => upd1 q (0) (((D 5 : Nat) : Int))) (ew3)) (w6) (ew6) (w7) (ew7) (w8) (ew8) (w9) (ew9) (w11) (ew11) (w12) (ew12) (w13) (ew13) (show inr ((-1)) from q_16) (show ((-1)) = -1 ∨ 0 ≤ (a3) ∧ (a3) ≤ ((-1)) ∧ ((-1)) ≤ (a4) by first | exact q_3499 | omega) (show ((-1)) = -1 ∨ SL ((w6)) ((u5_1)) ((u5_0)) ((w7)) ((w8)) ((w9)) ((w11)) ((w12)) ((w13)) by assumption) (show ((upd1 (w3) (0) (((D 5 : Nat) : Int)))) 0 = (((D 5 : Nat) : Int)) by omega) (show ((-1)) = -1 ∨ (u5_0) ≤ 9 by first | exact q_3498 | omega) (show 0 = 0 ∨ ((upd1 (w3) (0) (((D 5 : Nat) : Int)))) 0 = ((w3)) 0 by first | exact q_3497 | omega) (show 0 = 1 ∨ ((upd1 (w3) (0) (((D 5 : Nat) : Int)))) 1 = ((w3)) 1 by omega) (show 0 = 2 ∨ ((upd1 (w3) (0) (((D 5 : Nat) : Int)))) 2 = ((w3)) 2 by omega))
abbrev V118_Br_c11 : vV := [(0, 4, [(4, 0), (4, 0), (0, 0), (4, 0), (4, 0)]), (1, 0, []), (0, 9, [(4, 0), (4, 0), (4, 0)]), (1, 5, []), (1, 5, []), (0, 8, [(0, 0), (0, 0), (4, 0), (4, 0), (4, 0), (4, 0), (4, 0), (4, 0), (4, 0), (4, 0), (4, 0), (0, 0), (0, 0)]), (1, 1, []), (1, 1, []), (1, 1, []), (1, 1, []), (1, 1, []), (1, 1, []), (1, 1, []), (1, 1, [])]
theorem len_V118_Br_c11_oz_G2cls : (V118_Br_c11).length = 14 := by decide +kernel
theorem oz_G2cls_6 : vsub V118_Br_c11 V184_Br [5, 1, 11, 6, 7, 8, 9, 10, 12, 13] = true := by decide +kernel
/-- Dictionary.hearTable: this, #1, this.stand, this.stand.tables, this.tables, this.tables.1, this.tables.1.points, this.tables.1.masses, this.tables.1.mostBits, this.tables.1.starts, this.tables.1.used, this.tables.1.symbolAt, this.tables.1.numberAt, this.tables.1.placeOf -/
theorem C118_Br_c11 {σE : rS} {D N : Nat → Nat} {F : hF} {A : hA} {d c s : Nat} {Q : wQ} (H : HW V118_Br_c11 σE D N F A) (HT : STC σE) {a3 a4 : Int} (pf2 : HID (F 0 1 = (D 2 : Int))) (pf3 : HID (F 2 1 = (D 3 : Int))) (pf4 : HID (F 0 4 = (D 4 : Int))) (pf5 : HID (A 4 1 = (D 5 : Int))) (pf6 : HID (F 5 2 = (D 6 : Int))) (pf7 : HID (F 5 3 = (D 7 : Int))) (pf8 : HID (F 5 4 = (D 8 : Int))) (pf9 : HID (F 5 5 = (D 9 : Int))) (pf10 : HID (F 5 6 = (D 10 : Int))) (pf11 : HID (F 5 7 = (D 11 : Int))) (pf12 : HID (F 5 8 = (D 12 : Int))) (pf13 : HID (F 5 9 = (D 13 : Int))) (n1 : Int) (en1 : HID ((N 1 : Int) = n1)) (n3 : Int) (en3 : HID ((N 3 : Int) = n3)) (n4 : Int) (en4 : HID ((N 4 : Int) = n4)) (n6 : Int) (en6 : HID ((N 6 : Int) = n6)) (n7 : Int) (en7 : HID ((N 7 : Int) = n7)) (n8 : Int) (en8 : HID ((N 8 : Int) = n8)) (n9 : Int) (en9 : HID ((N 9 : Int) = n9)) (n10 : Int) (en10 : HID ((N 10 : Int) = n10)) (n11 : Int) (en11 : HID ((N 11 : Int) = n11)) (n12 : Int) (en12 : HID ((N 12 : Int) = n12)) (n13 : Int) (en13 : HID ((N 13 : Int) = n13)) (u5_0 : Int) (eu5_0 : HID (F 5 0 = u5_0)) (u5_1 : Int) (eu5_1 : HID (F 5 1 = u5_1)) (w3 : Int → Int) (ew3 : A 3 = w3) (w6 : Int → Int) (ew6 : A 6 = w6) (w7 : Int → Int) (ew7 : A 7 = w7) (w8 : Int → Int) (ew8 : A 8 = w8) (w9 : Int → Int) (ew9 : A 9 = w9) (w11 : Int → Int) (ew11 : A 11 = w11) (w12 : Int → Int) (ew12 : A 12 = w12) (w13 : Int → Int) (ew13 : A 13 = w13) (h0 : inr (1)) (h1 : inr (a3)) (h2 : inr (a4)) (h3 : (a3) = -1 ∨ 0 ≤ (a3) ∧ (a3) ≤ (a4)) (h4 : 0 ≤ (a4) ∧ (a4) ≤ (n1) ∧ (n1) ≤ 65536) (h5 : (n3) = 3 ∧ (n4) = 3) (h6 : SHZD ((n6)) ((n7)) ((n8)) ((n9)) ((n10)) ((n11)) ((n12)) ((n13)) ((u5_1)) 32 256) (k : ∀ (z : Int) (σ : rS) (Fₚ : hF) (Aₚ : hA), HW V118_Br_c11 σ D N Fₚ Aₚ → OUT (V118_Br_c11).length D N σE c s D N σ c s → SF [(5, 0), (5, 10), (5, 11), (5, 12)] F Fₚ → SA [3, 6, 7, 8, 9, 10, 11, 12, 13] A Aₚ → ∀ y5_0 : Int, Fₚ 5 0 = y5_0 → ∀ v3 : Int → Int, Aₚ 3 = v3 → ∀ v6 : Int → Int, Aₚ 6 = v6 → ∀ v7 : Int → Int, Aₚ 7 = v7 → ∀ v8 : Int → Int, Aₚ 8 = v8 → ∀ v9 : Int → Int, Aₚ 9 = v9 → ∀ v11 : Int → Int, Aₚ 11 = v11 → ∀ v12 : Int → Int, Aₚ 12 = v12 → ∀ v13 : Int → Int, Aₚ 13 = v13 → (inr (z)) → ((z) = -1 ∨ 0 ≤ (a3) ∧ (a3) ≤ (z) ∧ (z) ≤ (a4)) → ((z) = -1 ∨ SL ((v6)) ((u5_1)) ((y5_0)) ((v7)) ((v8)) ((v9)) ((v11)) ((v12)) ((v13))) → (((v3)) 1 = (((D 5 : Nat) : Int))) → ((z) = -1 ∨ (y5_0) ≤ 8) → (1 = 0 ∨ ((v3)) 0 = ((w3)) 0) → (1 = 1 ∨ ((v3)) 1 = ((w3)) 1) → (1 = 2 ∨ ((v3)) 2 = ((w3)) 2) → Q (some (I z)) σ c s) : Ew 118 (d + 2) 0 (rargs 0 [.ref (D 0), I 1, .ref (D 1), I a3, I a4]) [] σE c s Q := by
  have O := OUT_refl (n := (V118_Br_c11).length) (D := D) (N := N) (σ := σE) (c := c) (s := s)
  have HE := H
  have r1 : (-2147483648 : Int) ≤ u5_0 ∧ u5_0 ≤ 2147483647 := rngE (show (-2147483648 : Int) ≤ F 5 0 ∧ F 5 0 ≤ 2147483647 from H.krg 5 0 (ltn len_V118_Br_c11_oz_G2cls rfl)) (show F 5 0 = u5_0 from (eu5_0))
  have r2 : (-2147483648 : Int) ≤ u5_1 ∧ u5_1 ≤ 2147483647 := rngE (show (-2147483648 : Int) ≤ F 5 1 ∧ F 5 1 ≤ 2147483647 from H.krg 5 1 (ltn len_V118_Br_c11_oz_G2cls rfl)) (show F 5 1 = u5_1 from (eu5_1))
  have r3 : (0 : Int) ≤ n1 ∧ n1 ≤ 1000000 := nleE (H.nle 1 (ltn len_V118_Br_c11_oz_G2cls rfl)) (show (N 1 : Int) = n1 from en1)
  have r4 : (0 : Int) ≤ n3 ∧ n3 ≤ 1000000 := nleE (H.nle 3 (ltn len_V118_Br_c11_oz_G2cls rfl)) (show (N 3 : Int) = n3 from en3)
  have r5 : (0 : Int) ≤ n4 ∧ n4 ≤ 1000000 := nleE (H.nle 4 (ltn len_V118_Br_c11_oz_G2cls rfl)) (show (N 4 : Int) = n4 from en4)
  have r6 : (0 : Int) ≤ n6 ∧ n6 ≤ 1000000 := nleE (H.nle 6 (ltn len_V118_Br_c11_oz_G2cls rfl)) (show (N 6 : Int) = n6 from en6)
  have r7 : (0 : Int) ≤ n7 ∧ n7 ≤ 1000000 := nleE (H.nle 7 (ltn len_V118_Br_c11_oz_G2cls rfl)) (show (N 7 : Int) = n7 from en7)
  have r8 : (0 : Int) ≤ n8 ∧ n8 ≤ 1000000 := nleE (H.nle 8 (ltn len_V118_Br_c11_oz_G2cls rfl)) (show (N 8 : Int) = n8 from en8)
  have r9 : (0 : Int) ≤ n9 ∧ n9 ≤ 1000000 := nleE (H.nle 9 (ltn len_V118_Br_c11_oz_G2cls rfl)) (show (N 9 : Int) = n9 from en9)
  have r10 : (0 : Int) ≤ n10 ∧ n10 ≤ 1000000 := nleE (H.nle 10 (ltn len_V118_Br_c11_oz_G2cls rfl)) (show (N 10 : Int) = n10 from en10)
  have r11 : (0 : Int) ≤ n11 ∧ n11 ≤ 1000000 := nleE (H.nle 11 (ltn len_V118_Br_c11_oz_G2cls rfl)) (show (N 11 : Int) = n11 from en11)
  have r12 : (0 : Int) ≤ n12 ∧ n12 ≤ 1000000 := nleE (H.nle 12 (ltn len_V118_Br_c11_oz_G2cls rfl)) (show (N 12 : Int) = n12 from en12)
  have r13 : (0 : Int) ≤ n13 ∧ n13 ≤ 1000000 := nleE (H.nle 13 (ltn len_V118_Br_c11_oz_G2cls rfl)) (show (N 13 : Int) = n13 from en13)
  have hsz : SHZD ((n6)) ((n7)) ((n8)) ((n9)) ((n10)) ((n11)) ((n12)) ((n13)) ((u5_1)) 32 256 := h6
  unfold SHZD at hsz
  refine Ew_of (pcₚ := 1) (fun _ => x_aload_n rfl rfl) ?_
  refine v_g H (o := 0) (v := .ref (D 2)) rfl rfl rfl rfl rfl (vrf (pf2)) ?_
  refine v_g H (o := 2) (v := .ref (D 3)) rfl rfl rfl rfl rfl (vrf (pf3)) ?_
  refine Ew_of (pcₚ := 8) (fun _ => x_iload_n rfl rfl) ?_
  refine Ew_of (pcₚ := 9) (fun _ => x_aload_n rfl rfl) ?_
  refine v_g H (o := 0) (v := .ref (D 4)) rfl rfl rfl rfl rfl (vrf (pf4)) ?_
  refine Ew_of (pcₚ := 13) (fun _ => x_iload_n rfl rfl) ?_
  refine v_lR H (o := 4) rfl rfl rfl rfl rfl (n := n4) (en4) (show 0 ≤ 1 ∧ 1 < n4 from q_3500 h5 r5) (z := ((D 5 : Nat) : Int)) (v := .ref (D 5)) (pf5) (vrf rfl) ?_
  have hu := fun j (hj : j ≠ 1) => upd1_o (a := ((w3))) (j := 1) (z := (((D 5 : Nat) : Int))) (i := j) hj
  have hs := upd1_s (a := ((w3))) (j := 1) (z := (((D 5 : Nat) : Int)))
  have hu0 : (1 : Int) = 0 ∨ upd1 ((w3)) 1 ((((D 5 : Nat) : Int))) 0 = ((w3)) 0 := by by_cases w : (0 : Int) = 1; exact .inl (by omega); exact .inr (hu 0 w)
  have hu1 : (1 : Int) = 1 ∨ upd1 ((w3)) 1 ((((D 5 : Nat) : Int))) 1 = ((w3)) 1 := by by_cases w : (1 : Int) = 1; exact .inl (by omega); exact .inr (hu 1 w)
  have hu2 : (1 : Int) = 2 ∨ upd1 ((w3)) 1 ((((D 5 : Nat) : Int))) 2 = ((w3)) 2 := by by_cases w : (2 : Int) = 1; exact .inl (by omega); exact .inr (hu 2 w)
  refine v_sR H (o := 3) (z := ((D 5 : Nat) : Int)) (v := .ref (D 5)) rfl rfl rfl rfl rfl (n := n3) (en3) (show 0 ≤ 1 ∧ 1 < n3 from q_3501 h5 r4) (show (-1 : Int) ≤ ((D 5 : Nat) : Int) by omega) (vrf rfl) (rkinR H (x := 5) rfl rfl rfl) (fun σ H Oₚ => ?_)
  have O := OUT_trans O Oₚ
  have cAu14 : SA oz_G2clsl_0 A (updA A 3 (1) (((D 5 : Nat) : Int))) := SA_upd (SA_refl) rfl
  have mAu14 := SAm_of cAu14 oz_G2cls_2
  refine Ew_of (pcₚ := 16) (fun _ => x_iload_n rfl rfl) ?_
  refine w_ifge (t := 23) rfl rfl (show inr (a3) from h1) (fun b15 => ?_) (fun b15 => ?_)
  · refine Ew_of (pcₚ := 24) (fun _ => x_aload_n rfl rfl) ?_
    refine v_g H (o := 0) (v := .ref (D 4)) rfl rfl rfl rfl rfl (vrf (pf4)) ?_
    refine Ew_of (pcₚ := 28) (fun _ => x_iload_n rfl rfl) ?_
    refine v_lR H (o := 4) rfl rfl rfl rfl rfl (n := n4) (en4) (show 0 ≤ 1 ∧ 1 < n4 from q_3500 h5 r5) (z := ((D 5 : Nat) : Int)) (v := .ref (D 5)) ((mAu14 4 rfl 1).trans (pf5)) (vrf rfl) ?_
    refine Ew_of (pcₚ := 30) (fun _ => x_aload_n rfl rfl) ?_
    refine Ew_of (pcₚ := 31) (fun _ => x_iload_n rfl rfl) ?_
    refine Ew_of (pcₚ := 33) (fun _ => x_iload rfl rfl) ?_
    refine Ew_of (pcₚ := 36) (fun _ => x_getstatic rfl) ?_
    refine Ew_of (pcₚ := 37) (fun _ => x_iload_n rfl rfl) ?_
    refine v_stI (STC_out HT HE O) (b := 2) (n := 3) rfl rfl rfl rfl (show 0 ≤ 1 ∧ 1 < 3 from q_3502) (fun v16 ev16 qv16 => ?_)
    have hgo := ev16
    have hgv : ((v16) : Int) = 8 := by rw [← hgo]; rfl
    have hpg : p2 ((v16)) = 256 := by rw [hgv]; decide
    refine v_inv H (o := 5) rfl rfl rfl rfl rfl rfl (by rfl) (C184_Br (D := puc 31488832103906706239259141 D) (N := puc 31488832103906706239259141 N) (HW_subc H oz_G2cls_6 oz_G2cls_4) (pf11) (pf6) (pf7) (pf8) (pf9) (pf10) (pf12) (pf13) (n1) (en1) (n11) (en11) (n6) (en6) (n7) (en7) (n8) (en8) (n9) (en9) (n10) (en10) (n12) (en12) (n13) (en13) (u5_0) ((eu5_0)) (u5_1) ((eu5_1)) (w11) (ew11) (w6) (ew6) (w7) (ew7) (w8) (ew8) (w9) (ew9) (w12) (ew12) (w13) (ew13) (show inr (a3) from h1) (show inr (a4) from h2) (show inr (v16) from qv16) (show 0 ≤ (a3) ∧ (a3) ≤ (a4) ∧ (a4) ≤ (n1) ∧ (n1) ≤ 65536 from q_3496 b15 h3 h4) (show 5 ≤ (v16) ∧ (v16) ≤ 9 ∧ p2 (v16) ≤ (n11) by omega) (show (n6) = (u5_1) ∧ (n7) = (u5_1) ∧ (n8) = (u5_1) ∧ (n9) = (u5_1) ∧ (n10) = (u5_1) ∧ (n12) = (n11) ∧ (n13) = (n11) ∧ 1 ≤ (u5_1) ∧ (u5_1) ≤ 64 by omega) (fun z17 σ17 F17ₚ A17ₚ Hₚ Oₚ hS17 hA17 y17_0_0 (ey17_0_0 : HID _) w17_2 ew17_2 w17_3 ew17_3 w17_4 ew17_4 w17_5 ew17_5 w17_6 ew17_6 w17_8 ew17_8 w17_9 ew17_9 (pq17_0 : HID _) pz17_0 pz17_1 pz17_2 pz17_3 => ⟨rfl, ?_⟩))
    refine v_backc (c := c) (s := s) H oz_G2cls_6 oz_G2cls_4 Hₚ Oₚ (fun F17 A17 H Oₚ eF17 eA17 => ?_)
    have O := OUT_trans O Oₚ
    -- Share.hear
    have cF17 : SF oz_G2clsl_1 F F17 := SF_trans (SF_refl) (SF_gluc (ι := oz_G2clsl_2) oz_G2cls_4 hS17 eF17 (by decide +kernel)) (any_sub (lₚ := [(5, 0), (5, 10), (5, 11), (5, 12)]) (by decide +kernel))
    have mF17 := SFm_of cF17 oz_G2cls_3
    have cA17 : SA oz_G2clsl_0 A A17 := SA_trans (cAu14) (SA_gluc (ι := oz_G2clsl_2) oz_G2cls_4 hA17 eA17 (by decide +kernel)) (any_subA (lₚ := [6, 7, 8, 9, 10, 11, 12, 13]) (by decide +kernel))
    have mA17 := SAm_of cA17 oz_G2cls_2
    have pl17_0 : HID (F17 5 10 = (D 1 : Int)) := (eF17 5 10).trans (pq17_0)
    have r18 : (-2147483648 : Int) ≤ y17_0_0 ∧ y17_0_0 ≤ 2147483647 := rngE (show (-2147483648 : Int) ≤ F17 5 0 ∧ F17 5 0 ≤ 2147483647 from H.krg 5 0 (ltn len_V118_Br_c11_oz_G2cls rfl)) (show F17 5 0 = y17_0_0 from ((eF17 5 0).trans ey17_0_0))
    exact w_ireturn rfl (k (z17) _ _ _ H O (cF17) (cA17) (y17_0_0) (((eF17 5 0).trans ey17_0_0)) (upd1 (w3) (1) (((D 5 : Nat) : Int))) (((show A17 3 = (updA A 3 (1) (((D 5 : Nat) : Int))) 3 from (eA17 3))).trans (congrArg (fun q => upd1 q (1) (((D 5 : Nat) : Int))) (ew3))) (w17_3) ((eA17 6).trans ew17_3) (w17_4) ((eA17 7).trans ew17_4) (w17_5) ((eA17 8).trans ew17_5) (w17_6) ((eA17 9).trans ew17_6) (w17_2) ((eA17 11).trans ew17_2) (w17_8) ((eA17 12).trans ew17_8) (w17_9) ((eA17 13).trans ew17_9) (show inr (z17) from pz17_0) (show (z17) = -1 ∨ 0 ≤ (a3) ∧ (a3) ≤ (z17) ∧ (z17) ≤ (a4) by omega) (show (z17) = -1 ∨ SL ((w17_3)) ((u5_1)) ((y17_0_0)) ((w17_4)) ((w17_5)) ((w17_6)) ((w17_2)) ((w17_8)) ((w17_9)) from pz17_3) (show ((upd1 (w3) (1) (((D 5 : Nat) : Int)))) 1 = (((D 5 : Nat) : Int)) by omega) (show (z17) = -1 ∨ (y17_0_0) ≤ 8 by omega) (show 1 = 0 ∨ ((upd1 (w3) (1) (((D 5 : Nat) : Int)))) 0 = ((w3)) 0 by omega) (show 1 = 1 ∨ ((upd1 (w3) (1) (((D 5 : Nat) : Int)))) 1 = ((w3)) 1 by first | exact q_3503 | omega) (show 1 = 2 ∨ ((upd1 (w3) (1) (((D 5 : Nat) : Int)))) 2 = ((w3)) 2 by omega))
  · have hno : (-1 : Int) = -1 ∨ SL ((w6)) ((u5_1)) ((u5_0)) ((w7)) ((w8)) ((w9)) ((w11)) ((w12)) ((w13)) := .inl rfl
    refine Ew_of (pcₚ := 20) (fun _ => x_iconst rfl) ?_
    refine Ew_of (pcₚ := 41) (fun _ => x_goto rfl rfl) ?_
    exact w_ireturn rfl (k ((-1)) _ _ _ H O (SF_refl) (cAu14) (u5_0) ((eu5_0)) (upd1 (w3) (1) (((D 5 : Nat) : Int))) (congrArg (fun q => upd1 q (1) (((D 5 : Nat) : Int))) (ew3)) (w6) (ew6) (w7) (ew7) (w8) (ew8) (w9) (ew9) (w11) (ew11) (w12) (ew12) (w13) (ew13) (show inr ((-1)) from q_16) (show ((-1)) = -1 ∨ 0 ≤ (a3) ∧ (a3) ≤ ((-1)) ∧ ((-1)) ≤ (a4) by first | exact q_3499 | omega) (show ((-1)) = -1 ∨ SL ((w6)) ((u5_1)) ((u5_0)) ((w7)) ((w8)) ((w9)) ((w11)) ((w12)) ((w13)) by assumption) (show ((upd1 (w3) (1) (((D 5 : Nat) : Int)))) 1 = (((D 5 : Nat) : Int)) by omega) (show ((-1)) = -1 ∨ (u5_0) ≤ 8 by first | exact q_3504 | omega) (show 1 = 0 ∨ ((upd1 (w3) (1) (((D 5 : Nat) : Int)))) 0 = ((w3)) 0 by omega) (show 1 = 1 ∨ ((upd1 (w3) (1) (((D 5 : Nat) : Int)))) 1 = ((w3)) 1 by first | exact q_3503 | omega) (show 1 = 2 ∨ ((upd1 (w3) (1) (((D 5 : Nat) : Int)))) 2 = ((w3)) 2 by omega))
abbrev V118_Br_c12 : vV := [(0, 4, [(4, 0), (4, 0), (0, 0), (4, 0), (4, 0)]), (1, 0, []), (0, 9, [(4, 0), (4, 0), (4, 0)]), (1, 5, []), (1, 5, []), (0, 8, [(0, 0), (0, 0), (4, 0), (4, 0), (4, 0), (4, 0), (4, 0), (4, 0), (4, 0), (4, 0), (4, 0), (0, 0), (0, 0)]), (1, 1, []), (1, 1, []), (1, 1, []), (1, 1, []), (1, 1, []), (1, 1, []), (1, 1, []), (1, 1, [])]
theorem len_V118_Br_c12_oz_G2cls : (V118_Br_c12).length = 14 := by decide +kernel
theorem oz_G2cls_8 : vsub V118_Br_c12 V184_Br [5, 1, 11, 6, 7, 8, 9, 10, 12, 13] = true := by decide +kernel
/-- Dictionary.hearTable: this, #1, this.stand, this.stand.tables, this.tables, this.tables.2, this.tables.2.points, this.tables.2.masses, this.tables.2.mostBits, this.tables.2.starts, this.tables.2.used, this.tables.2.symbolAt, this.tables.2.numberAt, this.tables.2.placeOf -/
theorem C118_Br_c12 {σE : rS} {D N : Nat → Nat} {F : hF} {A : hA} {d c s : Nat} {Q : wQ} (H : HW V118_Br_c12 σE D N F A) (HT : STC σE) {a3 a4 : Int} (pf2 : HID (F 0 1 = (D 2 : Int))) (pf3 : HID (F 2 1 = (D 3 : Int))) (pf4 : HID (F 0 4 = (D 4 : Int))) (pf5 : HID (A 4 2 = (D 5 : Int))) (pf6 : HID (F 5 2 = (D 6 : Int))) (pf7 : HID (F 5 3 = (D 7 : Int))) (pf8 : HID (F 5 4 = (D 8 : Int))) (pf9 : HID (F 5 5 = (D 9 : Int))) (pf10 : HID (F 5 6 = (D 10 : Int))) (pf11 : HID (F 5 7 = (D 11 : Int))) (pf12 : HID (F 5 8 = (D 12 : Int))) (pf13 : HID (F 5 9 = (D 13 : Int))) (n1 : Int) (en1 : HID ((N 1 : Int) = n1)) (n3 : Int) (en3 : HID ((N 3 : Int) = n3)) (n4 : Int) (en4 : HID ((N 4 : Int) = n4)) (n6 : Int) (en6 : HID ((N 6 : Int) = n6)) (n7 : Int) (en7 : HID ((N 7 : Int) = n7)) (n8 : Int) (en8 : HID ((N 8 : Int) = n8)) (n9 : Int) (en9 : HID ((N 9 : Int) = n9)) (n10 : Int) (en10 : HID ((N 10 : Int) = n10)) (n11 : Int) (en11 : HID ((N 11 : Int) = n11)) (n12 : Int) (en12 : HID ((N 12 : Int) = n12)) (n13 : Int) (en13 : HID ((N 13 : Int) = n13)) (u5_0 : Int) (eu5_0 : HID (F 5 0 = u5_0)) (u5_1 : Int) (eu5_1 : HID (F 5 1 = u5_1)) (w3 : Int → Int) (ew3 : A 3 = w3) (w6 : Int → Int) (ew6 : A 6 = w6) (w7 : Int → Int) (ew7 : A 7 = w7) (w8 : Int → Int) (ew8 : A 8 = w8) (w9 : Int → Int) (ew9 : A 9 = w9) (w11 : Int → Int) (ew11 : A 11 = w11) (w12 : Int → Int) (ew12 : A 12 = w12) (w13 : Int → Int) (ew13 : A 13 = w13) (h0 : inr (2)) (h1 : inr (a3)) (h2 : inr (a4)) (h3 : (a3) = -1 ∨ 0 ≤ (a3) ∧ (a3) ≤ (a4)) (h4 : 0 ≤ (a4) ∧ (a4) ≤ (n1) ∧ (n1) ≤ 65536) (h5 : (n3) = 3 ∧ (n4) = 3) (h6 : SHZD ((n6)) ((n7)) ((n8)) ((n9)) ((n10)) ((n11)) ((n12)) ((n13)) ((u5_1)) 53 512) (k : ∀ (z : Int) (σ : rS) (Fₚ : hF) (Aₚ : hA), HW V118_Br_c12 σ D N Fₚ Aₚ → OUT (V118_Br_c12).length D N σE c s D N σ c s → SF [(5, 0), (5, 10), (5, 11), (5, 12)] F Fₚ → SA [3, 6, 7, 8, 9, 10, 11, 12, 13] A Aₚ → ∀ y5_0 : Int, Fₚ 5 0 = y5_0 → ∀ v3 : Int → Int, Aₚ 3 = v3 → ∀ v6 : Int → Int, Aₚ 6 = v6 → ∀ v7 : Int → Int, Aₚ 7 = v7 → ∀ v8 : Int → Int, Aₚ 8 = v8 → ∀ v9 : Int → Int, Aₚ 9 = v9 → ∀ v11 : Int → Int, Aₚ 11 = v11 → ∀ v12 : Int → Int, Aₚ 12 = v12 → ∀ v13 : Int → Int, Aₚ 13 = v13 → (inr (z)) → ((z) = -1 ∨ 0 ≤ (a3) ∧ (a3) ≤ (z) ∧ (z) ≤ (a4)) → ((z) = -1 ∨ SL ((v6)) ((u5_1)) ((y5_0)) ((v7)) ((v8)) ((v9)) ((v11)) ((v12)) ((v13))) → (((v3)) 2 = (((D 5 : Nat) : Int))) → ((z) = -1 ∨ (y5_0) ≤ 9) → (2 = 0 ∨ ((v3)) 0 = ((w3)) 0) → (2 = 1 ∨ ((v3)) 1 = ((w3)) 1) → (2 = 2 ∨ ((v3)) 2 = ((w3)) 2) → Q (some (I z)) σ c s) : Ew 118 (d + 2) 0 (rargs 0 [.ref (D 0), I 2, .ref (D 1), I a3, I a4]) [] σE c s Q := by
  have O := OUT_refl (n := (V118_Br_c12).length) (D := D) (N := N) (σ := σE) (c := c) (s := s)
  have HE := H
  have r1 : (-2147483648 : Int) ≤ u5_0 ∧ u5_0 ≤ 2147483647 := rngE (show (-2147483648 : Int) ≤ F 5 0 ∧ F 5 0 ≤ 2147483647 from H.krg 5 0 (ltn len_V118_Br_c12_oz_G2cls rfl)) (show F 5 0 = u5_0 from (eu5_0))
  have r2 : (-2147483648 : Int) ≤ u5_1 ∧ u5_1 ≤ 2147483647 := rngE (show (-2147483648 : Int) ≤ F 5 1 ∧ F 5 1 ≤ 2147483647 from H.krg 5 1 (ltn len_V118_Br_c12_oz_G2cls rfl)) (show F 5 1 = u5_1 from (eu5_1))
  have r3 : (0 : Int) ≤ n1 ∧ n1 ≤ 1000000 := nleE (H.nle 1 (ltn len_V118_Br_c12_oz_G2cls rfl)) (show (N 1 : Int) = n1 from en1)
  have r4 : (0 : Int) ≤ n3 ∧ n3 ≤ 1000000 := nleE (H.nle 3 (ltn len_V118_Br_c12_oz_G2cls rfl)) (show (N 3 : Int) = n3 from en3)
  have r5 : (0 : Int) ≤ n4 ∧ n4 ≤ 1000000 := nleE (H.nle 4 (ltn len_V118_Br_c12_oz_G2cls rfl)) (show (N 4 : Int) = n4 from en4)
  have r6 : (0 : Int) ≤ n6 ∧ n6 ≤ 1000000 := nleE (H.nle 6 (ltn len_V118_Br_c12_oz_G2cls rfl)) (show (N 6 : Int) = n6 from en6)
  have r7 : (0 : Int) ≤ n7 ∧ n7 ≤ 1000000 := nleE (H.nle 7 (ltn len_V118_Br_c12_oz_G2cls rfl)) (show (N 7 : Int) = n7 from en7)
  have r8 : (0 : Int) ≤ n8 ∧ n8 ≤ 1000000 := nleE (H.nle 8 (ltn len_V118_Br_c12_oz_G2cls rfl)) (show (N 8 : Int) = n8 from en8)
  have r9 : (0 : Int) ≤ n9 ∧ n9 ≤ 1000000 := nleE (H.nle 9 (ltn len_V118_Br_c12_oz_G2cls rfl)) (show (N 9 : Int) = n9 from en9)
  have r10 : (0 : Int) ≤ n10 ∧ n10 ≤ 1000000 := nleE (H.nle 10 (ltn len_V118_Br_c12_oz_G2cls rfl)) (show (N 10 : Int) = n10 from en10)
  have r11 : (0 : Int) ≤ n11 ∧ n11 ≤ 1000000 := nleE (H.nle 11 (ltn len_V118_Br_c12_oz_G2cls rfl)) (show (N 11 : Int) = n11 from en11)
  have r12 : (0 : Int) ≤ n12 ∧ n12 ≤ 1000000 := nleE (H.nle 12 (ltn len_V118_Br_c12_oz_G2cls rfl)) (show (N 12 : Int) = n12 from en12)
  have r13 : (0 : Int) ≤ n13 ∧ n13 ≤ 1000000 := nleE (H.nle 13 (ltn len_V118_Br_c12_oz_G2cls rfl)) (show (N 13 : Int) = n13 from en13)
  have hsz : SHZD ((n6)) ((n7)) ((n8)) ((n9)) ((n10)) ((n11)) ((n12)) ((n13)) ((u5_1)) 53 512 := h6
  unfold SHZD at hsz
  refine Ew_of (pcₚ := 1) (fun _ => x_aload_n rfl rfl) ?_
  refine v_g H (o := 0) (v := .ref (D 2)) rfl rfl rfl rfl rfl (vrf (pf2)) ?_
  refine v_g H (o := 2) (v := .ref (D 3)) rfl rfl rfl rfl rfl (vrf (pf3)) ?_
  refine Ew_of (pcₚ := 8) (fun _ => x_iload_n rfl rfl) ?_
  refine Ew_of (pcₚ := 9) (fun _ => x_aload_n rfl rfl) ?_
  refine v_g H (o := 0) (v := .ref (D 4)) rfl rfl rfl rfl rfl (vrf (pf4)) ?_
  refine Ew_of (pcₚ := 13) (fun _ => x_iload_n rfl rfl) ?_
  refine v_lR H (o := 4) rfl rfl rfl rfl rfl (n := n4) (en4) (show 0 ≤ 2 ∧ 2 < n4 from q_3505 h5) (z := ((D 5 : Nat) : Int)) (v := .ref (D 5)) (pf5) (vrf rfl) ?_
  have hu := fun j (hj : j ≠ 2) => upd1_o (a := ((w3))) (j := 2) (z := (((D 5 : Nat) : Int))) (i := j) hj
  have hs := upd1_s (a := ((w3))) (j := 2) (z := (((D 5 : Nat) : Int)))
  have hu0 : (2 : Int) = 0 ∨ upd1 ((w3)) 2 ((((D 5 : Nat) : Int))) 0 = ((w3)) 0 := by by_cases w : (0 : Int) = 2; exact .inl (by omega); exact .inr (hu 0 w)
  have hu1 : (2 : Int) = 1 ∨ upd1 ((w3)) 2 ((((D 5 : Nat) : Int))) 1 = ((w3)) 1 := by by_cases w : (1 : Int) = 2; exact .inl (by omega); exact .inr (hu 1 w)
  have hu2 : (2 : Int) = 2 ∨ upd1 ((w3)) 2 ((((D 5 : Nat) : Int))) 2 = ((w3)) 2 := by by_cases w : (2 : Int) = 2; exact .inl (by omega); exact .inr (hu 2 w)
  refine v_sR H (o := 3) (z := ((D 5 : Nat) : Int)) (v := .ref (D 5)) rfl rfl rfl rfl rfl (n := n3) (en3) (show 0 ≤ 2 ∧ 2 < n3 from q_3506 h5) (show (-1 : Int) ≤ ((D 5 : Nat) : Int) by omega) (vrf rfl) (rkinR H (x := 5) rfl rfl rfl) (fun σ H Oₚ => ?_)
  have O := OUT_trans O Oₚ
  have cAu14 : SA oz_G2clsl_0 A (updA A 3 (2) (((D 5 : Nat) : Int))) := SA_upd (SA_refl) rfl
  have mAu14 := SAm_of cAu14 oz_G2cls_2
  refine Ew_of (pcₚ := 16) (fun _ => x_iload_n rfl rfl) ?_
  refine w_ifge (t := 23) rfl rfl (show inr (a3) from h1) (fun b15 => ?_) (fun b15 => ?_)
  · refine Ew_of (pcₚ := 24) (fun _ => x_aload_n rfl rfl) ?_
    refine v_g H (o := 0) (v := .ref (D 4)) rfl rfl rfl rfl rfl (vrf (pf4)) ?_
    refine Ew_of (pcₚ := 28) (fun _ => x_iload_n rfl rfl) ?_
    refine v_lR H (o := 4) rfl rfl rfl rfl rfl (n := n4) (en4) (show 0 ≤ 2 ∧ 2 < n4 from q_3505 h5) (z := ((D 5 : Nat) : Int)) (v := .ref (D 5)) ((mAu14 4 rfl 2).trans (pf5)) (vrf rfl) ?_
    refine Ew_of (pcₚ := 30) (fun _ => x_aload_n rfl rfl) ?_
    refine Ew_of (pcₚ := 31) (fun _ => x_iload_n rfl rfl) ?_
    refine Ew_of (pcₚ := 33) (fun _ => x_iload rfl rfl) ?_
    refine Ew_of (pcₚ := 36) (fun _ => x_getstatic rfl) ?_
    refine Ew_of (pcₚ := 37) (fun _ => x_iload_n rfl rfl) ?_
    refine v_stI (STC_out HT HE O) (b := 2) (n := 3) rfl rfl rfl rfl (show 0 ≤ 2 ∧ 2 < 3 from q_3507) (fun v16 ev16 qv16 => ?_)
    have hgo := ev16
    have hgv : ((v16) : Int) = 9 := by rw [← hgo]; rfl
    have hpg : p2 ((v16)) = 512 := by rw [hgv]; decide
    refine v_inv H (o := 5) rfl rfl rfl rfl rfl rfl (by rfl) (C184_Br (D := puc 31488832103906706239259141 D) (N := puc 31488832103906706239259141 N) (HW_subc H oz_G2cls_8 oz_G2cls_4) (pf11) (pf6) (pf7) (pf8) (pf9) (pf10) (pf12) (pf13) (n1) (en1) (n11) (en11) (n6) (en6) (n7) (en7) (n8) (en8) (n9) (en9) (n10) (en10) (n12) (en12) (n13) (en13) (u5_0) ((eu5_0)) (u5_1) ((eu5_1)) (w11) (ew11) (w6) (ew6) (w7) (ew7) (w8) (ew8) (w9) (ew9) (w12) (ew12) (w13) (ew13) (show inr (a3) from h1) (show inr (a4) from h2) (show inr (v16) from qv16) (show 0 ≤ (a3) ∧ (a3) ≤ (a4) ∧ (a4) ≤ (n1) ∧ (n1) ≤ 65536 from q_3496 b15 h3 h4) (show 5 ≤ (v16) ∧ (v16) ≤ 9 ∧ p2 (v16) ≤ (n11) by omega) (show (n6) = (u5_1) ∧ (n7) = (u5_1) ∧ (n8) = (u5_1) ∧ (n9) = (u5_1) ∧ (n10) = (u5_1) ∧ (n12) = (n11) ∧ (n13) = (n11) ∧ 1 ≤ (u5_1) ∧ (u5_1) ≤ 64 by omega) (fun z17 σ17 F17ₚ A17ₚ Hₚ Oₚ hS17 hA17 y17_0_0 (ey17_0_0 : HID _) w17_2 ew17_2 w17_3 ew17_3 w17_4 ew17_4 w17_5 ew17_5 w17_6 ew17_6 w17_8 ew17_8 w17_9 ew17_9 (pq17_0 : HID _) pz17_0 pz17_1 pz17_2 pz17_3 => ⟨rfl, ?_⟩))
    refine v_backc (c := c) (s := s) H oz_G2cls_8 oz_G2cls_4 Hₚ Oₚ (fun F17 A17 H Oₚ eF17 eA17 => ?_)
    have O := OUT_trans O Oₚ
    -- Share.hear
    have cF17 : SF oz_G2clsl_1 F F17 := SF_trans (SF_refl) (SF_gluc (ι := oz_G2clsl_2) oz_G2cls_4 hS17 eF17 (by decide +kernel)) (any_sub (lₚ := [(5, 0), (5, 10), (5, 11), (5, 12)]) (by decide +kernel))
    have mF17 := SFm_of cF17 oz_G2cls_3
    have cA17 : SA oz_G2clsl_0 A A17 := SA_trans (cAu14) (SA_gluc (ι := oz_G2clsl_2) oz_G2cls_4 hA17 eA17 (by decide +kernel)) (any_subA (lₚ := [6, 7, 8, 9, 10, 11, 12, 13]) (by decide +kernel))
    have mA17 := SAm_of cA17 oz_G2cls_2
    have pl17_0 : HID (F17 5 10 = (D 1 : Int)) := (eF17 5 10).trans (pq17_0)
    have r18 : (-2147483648 : Int) ≤ y17_0_0 ∧ y17_0_0 ≤ 2147483647 := rngE (show (-2147483648 : Int) ≤ F17 5 0 ∧ F17 5 0 ≤ 2147483647 from H.krg 5 0 (ltn len_V118_Br_c12_oz_G2cls rfl)) (show F17 5 0 = y17_0_0 from ((eF17 5 0).trans ey17_0_0))
    exact w_ireturn rfl (k (z17) _ _ _ H O (cF17) (cA17) (y17_0_0) (((eF17 5 0).trans ey17_0_0)) (upd1 (w3) (2) (((D 5 : Nat) : Int))) (((show A17 3 = (updA A 3 (2) (((D 5 : Nat) : Int))) 3 from (eA17 3))).trans (congrArg (fun q => upd1 q (2) (((D 5 : Nat) : Int))) (ew3))) (w17_3) ((eA17 6).trans ew17_3) (w17_4) ((eA17 7).trans ew17_4) (w17_5) ((eA17 8).trans ew17_5) (w17_6) ((eA17 9).trans ew17_6) (w17_2) ((eA17 11).trans ew17_2) (w17_8) ((eA17 12).trans ew17_8) (w17_9) ((eA17 13).trans ew17_9) (show inr (z17) from pz17_0) (show (z17) = -1 ∨ 0 ≤ (a3) ∧ (a3) ≤ (z17) ∧ (z17) ≤ (a4) by omega) (show (z17) = -1 ∨ SL ((w17_3)) ((u5_1)) ((y17_0_0)) ((w17_4)) ((w17_5)) ((w17_6)) ((w17_2)) ((w17_8)) ((w17_9)) from pz17_3) (show ((upd1 (w3) (2) (((D 5 : Nat) : Int)))) 2 = (((D 5 : Nat) : Int)) by omega) (show (z17) = -1 ∨ (y17_0_0) ≤ 9 by omega) (show 2 = 0 ∨ ((upd1 (w3) (2) (((D 5 : Nat) : Int)))) 0 = ((w3)) 0 by omega) (show 2 = 1 ∨ ((upd1 (w3) (2) (((D 5 : Nat) : Int)))) 1 = ((w3)) 1 by omega) (show 2 = 2 ∨ ((upd1 (w3) (2) (((D 5 : Nat) : Int)))) 2 = ((w3)) 2 by first | exact q_3508 | omega))
  · have hno : (-1 : Int) = -1 ∨ SL ((w6)) ((u5_1)) ((u5_0)) ((w7)) ((w8)) ((w9)) ((w11)) ((w12)) ((w13)) := .inl rfl
    refine Ew_of (pcₚ := 20) (fun _ => x_iconst rfl) ?_
    refine Ew_of (pcₚ := 41) (fun _ => x_goto rfl rfl) ?_
    exact w_ireturn rfl (k ((-1)) _ _ _ H O (SF_refl) (cAu14) (u5_0) ((eu5_0)) (upd1 (w3) (2) (((D 5 : Nat) : Int))) (congrArg (fun q => upd1 q (2) (((D 5 : Nat) : Int))) (ew3)) (w6) (ew6) (w7) (ew7) (w8) (ew8) (w9) (ew9) (w11) (ew11) (w12) (ew12) (w13) (ew13) (show inr ((-1)) from q_16) (show ((-1)) = -1 ∨ 0 ≤ (a3) ∧ (a3) ≤ ((-1)) ∧ ((-1)) ≤ (a4) by first | exact q_3499 | omega) (show ((-1)) = -1 ∨ SL ((w6)) ((u5_1)) ((u5_0)) ((w7)) ((w8)) ((w9)) ((w11)) ((w12)) ((w13)) by assumption) (show ((upd1 (w3) (2) (((D 5 : Nat) : Int)))) 2 = (((D 5 : Nat) : Int)) by omega) (show ((-1)) = -1 ∨ (u5_0) ≤ 9 by first | exact q_3498 | omega) (show 2 = 0 ∨ ((upd1 (w3) (2) (((D 5 : Nat) : Int)))) 0 = ((w3)) 0 by omega) (show 2 = 1 ∨ ((upd1 (w3) (2) (((D 5 : Nat) : Int)))) 1 = ((w3)) 1 by omega) (show 2 = 2 ∨ ((upd1 (w3) (2) (((D 5 : Nat) : Int)))) 2 = ((w3)) 2 by first | exact q_3508 | omega))
