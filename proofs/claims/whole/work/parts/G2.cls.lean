abbrev V118_Br_c10 : vV := [(0, 4, [(4, 0), (4, 0), (0, 0), (4, 0), (4, 0)]), (1, 0, []), (0, 9, [(4, 0), (4, 0), (4, 0)]), (1, 5, []), (1, 5, []), (0, 8, [(0, 0), (0, 0), (4, 0), (4, 0), (4, 0), (4, 0), (4, 0), (4, 0), (4, 0), (4, 0), (4, 0), (0, 0), (0, 0)]), (1, 1, []), (1, 1, []), (1, 1, []), (1, 1, []), (1, 1, []), (1, 1, []), (1, 1, []), (1, 1, [])]
/-- Dictionary.hearTable: this, #1, this.stand, this.stand.tables, this.tables, this.tables.0, this.tables.0.points, this.tables.0.masses, this.tables.0.mostBits, this.tables.0.starts, this.tables.0.used, this.tables.0.symbolAt, this.tables.0.numberAt, this.tables.0.placeOf -/
theorem C118_Br_c10 {σE : rS} {D N : Nat → Nat} {F : hF} {A : hA} {d c s : Nat} {Q : wQ} (H : HW V118_Br_c10 σE D N F A) (HT : STC σE) {a3 a4 : Int} (pf2 : F 0 1 = (D 2 : Int)) (pf3 : F 2 1 = (D 3 : Int)) (pf4 : F 0 4 = (D 4 : Int)) (pf5 : A 4 0 = (D 5 : Int)) (pf6 : F 5 2 = (D 6 : Int)) (pf7 : F 5 3 = (D 7 : Int)) (pf8 : F 5 4 = (D 8 : Int)) (pf9 : F 5 5 = (D 9 : Int)) (pf10 : F 5 6 = (D 10 : Int)) (pf11 : F 5 7 = (D 11 : Int)) (pf12 : F 5 8 = (D 12 : Int)) (pf13 : F 5 9 = (D 13 : Int)) (n1 : Int) (en1 : (N 1 : Int) = n1) (n3 : Int) (en3 : (N 3 : Int) = n3) (n4 : Int) (en4 : (N 4 : Int) = n4) (n6 : Int) (en6 : (N 6 : Int) = n6) (n7 : Int) (en7 : (N 7 : Int) = n7) (n8 : Int) (en8 : (N 8 : Int) = n8) (n9 : Int) (en9 : (N 9 : Int) = n9) (n10 : Int) (en10 : (N 10 : Int) = n10) (n11 : Int) (en11 : (N 11 : Int) = n11) (n12 : Int) (en12 : (N 12 : Int) = n12) (n13 : Int) (en13 : (N 13 : Int) = n13) (u5_0 : Int) (eu5_0 : F 5 0 = u5_0) (u5_1 : Int) (eu5_1 : F 5 1 = u5_1) (w1 : Int → Int) (ew1 : A 1 = w1) (w3 : Int → Int) (ew3 : A 3 = w3) (w6 : Int → Int) (ew6 : A 6 = w6) (w7 : Int → Int) (ew7 : A 7 = w7) (w8 : Int → Int) (ew8 : A 8 = w8) (w9 : Int → Int) (ew9 : A 9 = w9) (w11 : Int → Int) (ew11 : A 11 = w11) (w12 : Int → Int) (ew12 : A 12 = w12) (w13 : Int → Int) (ew13 : A 13 = w13) (h0 : inr (0)) (h1 : inr (a3)) (h2 : inr (a4)) (h3 : (a3) = -1 ∨ 0 ≤ (a3) ∧ (a3) ≤ (a4)) (h4 : 0 ≤ (a4) ∧ (a4) ≤ (n1) ∧ (n1) ≤ 65536) (h5 : (n3) = 3 ∧ (n4) = 3) (h6 : SHZD ((n6)) ((n7)) ((n8)) ((n9)) ((n10)) ((n11)) ((n12)) ((n13)) ((u5_1)) 36 512) (k : ∀ (z : Int) (σ : rS) (F' : hF) (A' : hA), HW V118_Br_c10 σ D N F' A' → OUT (V118_Br_c10).length D N σE c s D N σ c s → SF [(5, 0), (5, 10), (5, 11), (5, 12)] F F' → SA [3, 6, 7, 8, 9, 10, 11, 12, 13] A A' → ∀ y5_0 : Int, F' 5 0 = y5_0 → ∀ v3 : Int → Int, A' 3 = v3 → ∀ v6 : Int → Int, A' 6 = v6 → ∀ v7 : Int → Int, A' 7 = v7 → ∀ v8 : Int → Int, A' 8 = v8 → ∀ v9 : Int → Int, A' 9 = v9 → ∀ v11 : Int → Int, A' 11 = v11 → ∀ v12 : Int → Int, A' 12 = v12 → ∀ v13 : Int → Int, A' 13 = v13 → (inr (z)) → ((z) = -1 ∨ 0 ≤ (a3) ∧ (a3) ≤ (z) ∧ (z) ≤ (a4)) → ((z) = -1 ∨ SL ((v6)) ((u5_1)) ((y5_0)) ((v7)) ((v8)) ((v9)) ((v11)) ((v12)) ((v13))) → (((v3)) 0 = (((D 5 : Nat) : Int))) → ((z) = -1 ∨ (y5_0) ≤ 9) → (LNT (ub8 ((w1))) ((a4)) 2 ((a3)) ((z)) ((y5_0)) ((v6))) → (0 = 0 ∨ ((v3)) 0 = ((w3)) 0) → (0 = 1 ∨ ((v3)) 1 = ((w3)) 1) → (0 = 2 ∨ ((v3)) 2 = ((w3)) 2) → Q (some (I z)) σ c s) : Ew 118 (d + 2) 0 (rargs 0 [.ref (D 0), I 0, .ref (D 1), I a3, I a4]) [] σE c s Q := by
  have O := OUT_refl (n := (V118_Br_c10).length) (D := D) (N := N) (σ := σE) (c := c) (s := s)
  have HE := H
  have r1 : (-2147483648 : Int) ≤ u5_0 ∧ u5_0 ≤ 2147483647 := by have h1 : (-2147483648 : Int) ≤ F 5 0 ∧ F 5 0 ≤ 2147483647 := H.krg 5 0 (by decide); rw [show F 5 0 = u5_0 from (eu5_0)] at h1; exact h1
  have r2 : (-2147483648 : Int) ≤ u5_1 ∧ u5_1 ≤ 2147483647 := by have h1 : (-2147483648 : Int) ≤ F 5 1 ∧ F 5 1 ≤ 2147483647 := H.krg 5 1 (by decide); rw [show F 5 1 = u5_1 from (eu5_1)] at h1; exact h1
  replace pf2 := HIDm pf2
  replace pf3 := HIDm pf3
  replace pf4 := HIDm pf4
  replace pf5 := HIDm pf5
  replace pf6 := HIDm pf6
  replace pf7 := HIDm pf7
  replace pf8 := HIDm pf8
  replace pf9 := HIDm pf9
  replace pf10 := HIDm pf10
  replace pf11 := HIDm pf11
  replace pf12 := HIDm pf12
  replace pf13 := HIDm pf13
  replace en1 := HIDm en1
  replace en3 := HIDm en3
  replace en4 := HIDm en4
  replace en6 := HIDm en6
  replace en7 := HIDm en7
  replace en8 := HIDm en8
  replace en9 := HIDm en9
  replace en10 := HIDm en10
  replace en11 := HIDm en11
  replace en12 := HIDm en12
  replace en13 := HIDm en13
  replace eu5_0 := HIDm eu5_0
  replace eu5_1 := HIDm eu5_1
  have r3 : (0 : Int) ≤ n1 ∧ n1 ≤ 1000000 := by have h1 := H.nle 1 (by decide); have h2 : (N 1 : Int) = n1 := en1; omega
  have r4 : (0 : Int) ≤ n3 ∧ n3 ≤ 1000000 := by have h1 := H.nle 3 (by decide); have h2 : (N 3 : Int) = n3 := en3; omega
  have r5 : (0 : Int) ≤ n4 ∧ n4 ≤ 1000000 := by have h1 := H.nle 4 (by decide); have h2 : (N 4 : Int) = n4 := en4; omega
  have r6 : (0 : Int) ≤ n6 ∧ n6 ≤ 1000000 := by have h1 := H.nle 6 (by decide); have h2 : (N 6 : Int) = n6 := en6; omega
  have r7 : (0 : Int) ≤ n7 ∧ n7 ≤ 1000000 := by have h1 := H.nle 7 (by decide); have h2 : (N 7 : Int) = n7 := en7; omega
  have r8 : (0 : Int) ≤ n8 ∧ n8 ≤ 1000000 := by have h1 := H.nle 8 (by decide); have h2 : (N 8 : Int) = n8 := en8; omega
  have r9 : (0 : Int) ≤ n9 ∧ n9 ≤ 1000000 := by have h1 := H.nle 9 (by decide); have h2 : (N 9 : Int) = n9 := en9; omega
  have r10 : (0 : Int) ≤ n10 ∧ n10 ≤ 1000000 := by have h1 := H.nle 10 (by decide); have h2 : (N 10 : Int) = n10 := en10; omega
  have r11 : (0 : Int) ≤ n11 ∧ n11 ≤ 1000000 := by have h1 := H.nle 11 (by decide); have h2 : (N 11 : Int) = n11 := en11; omega
  have r12 : (0 : Int) ≤ n12 ∧ n12 ≤ 1000000 := by have h1 := H.nle 12 (by decide); have h2 : (N 12 : Int) = n12 := en12; omega
  have r13 : (0 : Int) ≤ n13 ∧ n13 ≤ 1000000 := by have h1 := H.nle 13 (by decide); have h2 : (N 13 : Int) = n13 := en13; omega
  have hsz : SHZD ((n6)) ((n7)) ((n8)) ((n9)) ((n10)) ((n11)) ((n12)) ((n13)) ((u5_1)) 36 512 := by assumption
  unfold SHZD at hsz
  refine Ew_of (pc' := 1) (fun _ => x_aload_n rfl rfl) ?_
  refine v_g H (o := 0) (v := .ref (D 2)) rfl rfl rfl rfl rfl (vrf (pf2)) ?_
  refine v_g H (o := 2) (v := .ref (D 3)) rfl rfl rfl rfl rfl (vrf (pf3)) ?_
  refine Ew_of (pc' := 8) (fun _ => x_iload_n rfl rfl) ?_
  refine Ew_of (pc' := 9) (fun _ => x_aload_n rfl rfl) ?_
  refine v_g H (o := 0) (v := .ref (D 4)) rfl rfl rfl rfl rfl (vrf (pf4)) ?_
  refine Ew_of (pc' := 13) (fun _ => x_iload_n rfl rfl) ?_
  refine v_lR H (o := 4) rfl rfl rfl rfl rfl (n := n4) (en4) (show 0 ≤ 0 ∧ 0 < n4 by omega) (z := ((D 5 : Nat) : Int)) (v := .ref (D 5)) (pf5) (vrf rfl) ?_
  have hu := fun j (hj : j ≠ 0) => upd1_o (a := ((w3))) (j := 0) (z := (((D 5 : Nat) : Int))) (i := j) hj
  have hs := upd1_s (a := ((w3))) (j := 0) (z := (((D 5 : Nat) : Int)))
  have hu0 : (0 : Int) = 0 ∨ upd1 ((w3)) 0 ((((D 5 : Nat) : Int))) 0 = ((w3)) 0 := by by_cases w : (0 : Int) = 0; exact .inl (by omega); exact .inr (hu 0 w)
  have hu1 : (0 : Int) = 1 ∨ upd1 ((w3)) 0 ((((D 5 : Nat) : Int))) 1 = ((w3)) 1 := by by_cases w : (1 : Int) = 0; exact .inl (by omega); exact .inr (hu 1 w)
  have hu2 : (0 : Int) = 2 ∨ upd1 ((w3)) 0 ((((D 5 : Nat) : Int))) 2 = ((w3)) 2 := by by_cases w : (2 : Int) = 0; exact .inl (by omega); exact .inr (hu 2 w)
  refine v_sR H (o := 3) (z := ((D 5 : Nat) : Int)) (v := .ref (D 5)) rfl rfl rfl rfl rfl (n := n3) (en3) (show 0 ≤ 0 ∧ 0 < n3 by omega) (show (-1 : Int) ≤ ((D 5 : Nat) : Int) by omega) (vrf rfl) (rkinR H (x := 5) rfl rfl rfl) (fun σ H O' => ?_)
  have O := OUT_trans O O'
  refine Ew_of (pc' := 16) (fun _ => x_iload_n rfl rfl) ?_
  refine w_ifge (t := 23) rfl rfl (show inr (a3) by omega) (fun b14 => ?_) (fun b14 => ?_)
  · refine Ew_of (pc' := 24) (fun _ => x_aload_n rfl rfl) ?_
    refine v_g H (o := 0) (v := .ref (D 4)) rfl rfl rfl rfl rfl (vrf (pf4)) ?_
    refine Ew_of (pc' := 28) (fun _ => x_iload_n rfl rfl) ?_
    refine v_lR H (o := 4) rfl rfl rfl rfl rfl (n := n4) (en4) (show 0 ≤ 0 ∧ 0 < n4 by omega) (z := ((D 5 : Nat) : Int)) (v := .ref (D 5)) (pf5) (vrf rfl) ?_
    refine Ew_of (pc' := 30) (fun _ => x_aload_n rfl rfl) ?_
    refine Ew_of (pc' := 31) (fun _ => x_iload_n rfl rfl) ?_
    refine Ew_of (pc' := 33) (fun _ => x_iload rfl rfl) ?_
    refine Ew_of (pc' := 36) (fun _ => x_getstatic rfl) ?_
    refine Ew_of (pc' := 37) (fun _ => x_iload_n rfl rfl) ?_
    refine v_stI (STC_out HT HE O) (b := 2) (n := 3) rfl rfl rfl rfl (show 0 ≤ 0 ∧ 0 < 3 by omega) (fun v15 ev15 qv15 => ?_)
    have hgo := ev15
    have hgv : ((v15) : Int) = 9 := by rw [← hgo]; rfl
    have hpg : p2 ((v15)) = 512 := by rw [hgv]; decide
    refine v_inv H (o := 5) rfl rfl rfl rfl rfl rfl (by rfl) (C184_Br (D := pul [5, 1, 11, 6, 7, 8, 9, 10, 12, 13] D) (N := pul [5, 1, 11, 6, 7, 8, 9, 10, 12, 13] N) (HW_sub H (VS_of (show vsub V118_Br_c10 V184_Br [5, 1, 11, 6, 7, 8, 9, 10, 12, 13] = true by decide +kernel))) (pf11) (pf6) (pf7) (pf8) (pf9) (pf10) (pf12) (pf13) (n1) (en1) (n11) (en11) (n6) (en6) (n7) (en7) (n8) (en8) (n9) (en9) (n10) (en10) (n12) (en12) (n13) (en13) (u5_0) ((eu5_0)) (u5_1) ((eu5_1)) (w1) (ew1) (w11) (ew11) (w6) (ew6) (w7) (ew7) (w8) (ew8) (w9) (ew9) (w12) (ew12) (w13) (ew13) (show inr (a3) by omega) (show inr (a4) by omega) (show inr (v15) by omega) (show 0 ≤ (a3) ∧ (a3) ≤ (a4) ∧ (a4) ≤ (n1) ∧ (n1) ≤ 65536 by omega) (show 5 ≤ (v15) ∧ (v15) ≤ 9 ∧ p2 (v15) ≤ (n11) by omega) (show (n6) = (u5_1) ∧ (n7) = (u5_1) ∧ (n8) = (u5_1) ∧ (n9) = (u5_1) ∧ (n10) = (u5_1) ∧ (n12) = (n11) ∧ (n13) = (n11) ∧ 1 ≤ (u5_1) ∧ (u5_1) ≤ 64 by omega) (fun z16 σ16 F16' A16' H' O' hS16 hA16 y16_0_0 ey16_0_0 w16_2 ew16_2 w16_3 ew16_3 w16_4 ew16_4 w16_5 ew16_5 w16_6 ew16_6 w16_8 ew16_8 w16_9 ew16_9 pq16_0 pz16_0 pz16_1 pz16_2 pz16_3 pz16_4 => ⟨rfl, ?_⟩))
    replace ey16_0_0 := HIDm ey16_0_0
    replace pq16_0 := HIDm pq16_0
    refine v_back (c := c) (s := s) H (show vsub V118_Br_c10 V184_Br [5, 1, 11, 6, 7, 8, 9, 10, 12, 13] = true by decide +kernel) H' O' (fun F16 A16 H O' eF16 eA16 => ?_)
    have O := OUT_trans O O'
    -- Share.hear
    have pl16_0 : HID (F16 5 10 = (D 1 : Int)) := (eF16 5 10).trans (pq16_0)
    have r17 : (-2147483648 : Int) ≤ y16_0_0 ∧ y16_0_0 ≤ 2147483647 := by have h1 : (-2147483648 : Int) ≤ F16 5 0 ∧ F16 5 0 ≤ 2147483647 := H.krg 5 0 (by decide); rw [show F16 5 0 = y16_0_0 from ((eF16 5 0).trans ey16_0_0)] at h1; exact h1
    have hlt : LNT (ub8 ((w1))) ((a4)) 2 ((a3)) ((z16)) ((y16_0_0)) ((w16_3)) := by first | assumption | exact .inr ⟨by omega, by have h := pz16_4; rw [hgv, show (u5_1) = 36 by omega] at h; exact h⟩
    exact w_ireturn rfl (k (z16) _ _ _ H O (SF_trans (SF_refl) (SF_glu (ι := [5, 1, 11, 6, 7, 8, 9, 10, 12, 13]) hS16 eF16 (by decide +kernel)) (any_sub (l' := [(5, 0), (5, 10), (5, 11), (5, 12)]) rfl)) (SA_trans (SA_upd (SA_refl) rfl) (SA_glu (ι := [5, 1, 11, 6, 7, 8, 9, 10, 12, 13]) hA16 eA16 (by decide +kernel)) (any_subA (l' := [6, 7, 8, 9, 10, 11, 12, 13]) rfl)) (y16_0_0) (((eF16 5 0).trans ey16_0_0)) (upd1 (w3) (0) (((D 5 : Nat) : Int))) (((show A16 3 = (updA A 3 (0) (((D 5 : Nat) : Int))) 3 from (eA16 3))).trans (congrArg (fun q => upd1 q (0) (((D 5 : Nat) : Int))) (ew3))) (w16_3) ((eA16 6).trans ew16_3) (w16_4) ((eA16 7).trans ew16_4) (w16_5) ((eA16 8).trans ew16_5) (w16_6) ((eA16 9).trans ew16_6) (w16_2) ((eA16 11).trans ew16_2) (w16_8) ((eA16 12).trans ew16_8) (w16_9) ((eA16 13).trans ew16_9) (show inr (z16) by omega) (show (z16) = -1 ∨ 0 ≤ (a3) ∧ (a3) ≤ (z16) ∧ (z16) ≤ (a4) by omega) (show (z16) = -1 ∨ SL ((w16_3)) ((u5_1)) ((y16_0_0)) ((w16_4)) ((w16_5)) ((w16_6)) ((w16_2)) ((w16_8)) ((w16_9)) by assumption) (show ((upd1 (w3) (0) (((D 5 : Nat) : Int)))) 0 = (((D 5 : Nat) : Int)) by omega) (show (z16) = -1 ∨ (y16_0_0) ≤ 9 by omega) (show LNT (ub8 ((w1))) ((a4)) 2 ((a3)) ((z16)) ((y16_0_0)) ((w16_3)) by assumption) (show 0 = 0 ∨ ((upd1 (w3) (0) (((D 5 : Nat) : Int)))) 0 = ((w3)) 0 by omega) (show 0 = 1 ∨ ((upd1 (w3) (0) (((D 5 : Nat) : Int)))) 1 = ((w3)) 1 by omega) (show 0 = 2 ∨ ((upd1 (w3) (0) (((D 5 : Nat) : Int)))) 2 = ((w3)) 2 by omega))
  · have hno : (-1 : Int) = -1 ∨ SL ((w6)) ((u5_1)) ((u5_0)) ((w7)) ((w8)) ((w9)) ((w11)) ((w12)) ((w13)) := .inl rfl
    have hnt : LNT (ub8 ((w1))) ((a4)) 2 ((a3)) ((-1 : Int)) ((u5_0)) ((w6)) := .inl ⟨by omega, rfl⟩
    refine Ew_of (pc' := 20) (fun _ => x_iconst rfl) ?_
    refine Ew_of (pc' := 41) (fun _ => x_goto rfl rfl) ?_
    have hlt : LNT (ub8 ((w1))) ((a4)) 2 ((a3)) (((-1))) ((u5_0)) ((w6)) := by first | assumption | exact .inr ⟨by omega, by have h := pz16_4; rw [hgv, show (u5_1) = 36 by omega] at h; exact h⟩
    exact w_ireturn rfl (k ((-1)) _ _ _ H O (SF_refl) (SA_upd (SA_refl) rfl) (u5_0) ((eu5_0)) (upd1 (w3) (0) (((D 5 : Nat) : Int))) (congrArg (fun q => upd1 q (0) (((D 5 : Nat) : Int))) (ew3)) (w6) (ew6) (w7) (ew7) (w8) (ew8) (w9) (ew9) (w11) (ew11) (w12) (ew12) (w13) (ew13) (show inr ((-1)) by omega) (show ((-1)) = -1 ∨ 0 ≤ (a3) ∧ (a3) ≤ ((-1)) ∧ ((-1)) ≤ (a4) by omega) (show ((-1)) = -1 ∨ SL ((w6)) ((u5_1)) ((u5_0)) ((w7)) ((w8)) ((w9)) ((w11)) ((w12)) ((w13)) by assumption) (show ((upd1 (w3) (0) (((D 5 : Nat) : Int)))) 0 = (((D 5 : Nat) : Int)) by omega) (show ((-1)) = -1 ∨ (u5_0) ≤ 9 by omega) (show LNT (ub8 ((w1))) ((a4)) 2 ((a3)) (((-1))) ((u5_0)) ((w6)) by assumption) (show 0 = 0 ∨ ((upd1 (w3) (0) (((D 5 : Nat) : Int)))) 0 = ((w3)) 0 by omega) (show 0 = 1 ∨ ((upd1 (w3) (0) (((D 5 : Nat) : Int)))) 1 = ((w3)) 1 by omega) (show 0 = 2 ∨ ((upd1 (w3) (0) (((D 5 : Nat) : Int)))) 2 = ((w3)) 2 by omega))
abbrev V118_Br_c11 : vV := [(0, 4, [(4, 0), (4, 0), (0, 0), (4, 0), (4, 0)]), (1, 0, []), (0, 9, [(4, 0), (4, 0), (4, 0)]), (1, 5, []), (1, 5, []), (0, 8, [(0, 0), (0, 0), (4, 0), (4, 0), (4, 0), (4, 0), (4, 0), (4, 0), (4, 0), (4, 0), (4, 0), (0, 0), (0, 0)]), (1, 1, []), (1, 1, []), (1, 1, []), (1, 1, []), (1, 1, []), (1, 1, []), (1, 1, []), (1, 1, [])]
/-- Dictionary.hearTable: this, #1, this.stand, this.stand.tables, this.tables, this.tables.1, this.tables.1.points, this.tables.1.masses, this.tables.1.mostBits, this.tables.1.starts, this.tables.1.used, this.tables.1.symbolAt, this.tables.1.numberAt, this.tables.1.placeOf -/
theorem C118_Br_c11 {σE : rS} {D N : Nat → Nat} {F : hF} {A : hA} {d c s : Nat} {Q : wQ} (H : HW V118_Br_c11 σE D N F A) (HT : STC σE) {a3 a4 : Int} (pf2 : F 0 1 = (D 2 : Int)) (pf3 : F 2 1 = (D 3 : Int)) (pf4 : F 0 4 = (D 4 : Int)) (pf5 : A 4 1 = (D 5 : Int)) (pf6 : F 5 2 = (D 6 : Int)) (pf7 : F 5 3 = (D 7 : Int)) (pf8 : F 5 4 = (D 8 : Int)) (pf9 : F 5 5 = (D 9 : Int)) (pf10 : F 5 6 = (D 10 : Int)) (pf11 : F 5 7 = (D 11 : Int)) (pf12 : F 5 8 = (D 12 : Int)) (pf13 : F 5 9 = (D 13 : Int)) (n1 : Int) (en1 : (N 1 : Int) = n1) (n3 : Int) (en3 : (N 3 : Int) = n3) (n4 : Int) (en4 : (N 4 : Int) = n4) (n6 : Int) (en6 : (N 6 : Int) = n6) (n7 : Int) (en7 : (N 7 : Int) = n7) (n8 : Int) (en8 : (N 8 : Int) = n8) (n9 : Int) (en9 : (N 9 : Int) = n9) (n10 : Int) (en10 : (N 10 : Int) = n10) (n11 : Int) (en11 : (N 11 : Int) = n11) (n12 : Int) (en12 : (N 12 : Int) = n12) (n13 : Int) (en13 : (N 13 : Int) = n13) (u5_0 : Int) (eu5_0 : F 5 0 = u5_0) (u5_1 : Int) (eu5_1 : F 5 1 = u5_1) (w1 : Int → Int) (ew1 : A 1 = w1) (w3 : Int → Int) (ew3 : A 3 = w3) (w6 : Int → Int) (ew6 : A 6 = w6) (w7 : Int → Int) (ew7 : A 7 = w7) (w8 : Int → Int) (ew8 : A 8 = w8) (w9 : Int → Int) (ew9 : A 9 = w9) (w11 : Int → Int) (ew11 : A 11 = w11) (w12 : Int → Int) (ew12 : A 12 = w12) (w13 : Int → Int) (ew13 : A 13 = w13) (h0 : inr (1)) (h1 : inr (a3)) (h2 : inr (a4)) (h3 : (a3) = -1 ∨ 0 ≤ (a3) ∧ (a3) ≤ (a4)) (h4 : 0 ≤ (a4) ∧ (a4) ≤ (n1) ∧ (n1) ≤ 65536) (h5 : (n3) = 3 ∧ (n4) = 3) (h6 : SHZD ((n6)) ((n7)) ((n8)) ((n9)) ((n10)) ((n11)) ((n12)) ((n13)) ((u5_1)) 32 256) (k : ∀ (z : Int) (σ : rS) (F' : hF) (A' : hA), HW V118_Br_c11 σ D N F' A' → OUT (V118_Br_c11).length D N σE c s D N σ c s → SF [(5, 0), (5, 10), (5, 11), (5, 12)] F F' → SA [3, 6, 7, 8, 9, 10, 11, 12, 13] A A' → ∀ y5_0 : Int, F' 5 0 = y5_0 → ∀ v3 : Int → Int, A' 3 = v3 → ∀ v6 : Int → Int, A' 6 = v6 → ∀ v7 : Int → Int, A' 7 = v7 → ∀ v8 : Int → Int, A' 8 = v8 → ∀ v9 : Int → Int, A' 9 = v9 → ∀ v11 : Int → Int, A' 11 = v11 → ∀ v12 : Int → Int, A' 12 = v12 → ∀ v13 : Int → Int, A' 13 = v13 → (inr (z)) → ((z) = -1 ∨ 0 ≤ (a3) ∧ (a3) ≤ (z) ∧ (z) ≤ (a4)) → ((z) = -1 ∨ SL ((v6)) ((u5_1)) ((y5_0)) ((v7)) ((v8)) ((v9)) ((v11)) ((v12)) ((v13))) → (((v3)) 1 = (((D 5 : Nat) : Int))) → ((z) = -1 ∨ (y5_0) ≤ 8) → (LNT (ub8 ((w1))) ((a4)) 0 ((a3)) ((z)) ((y5_0)) ((v6))) → (1 = 0 ∨ ((v3)) 0 = ((w3)) 0) → (1 = 1 ∨ ((v3)) 1 = ((w3)) 1) → (1 = 2 ∨ ((v3)) 2 = ((w3)) 2) → Q (some (I z)) σ c s) : Ew 118 (d + 2) 0 (rargs 0 [.ref (D 0), I 1, .ref (D 1), I a3, I a4]) [] σE c s Q := by
  have O := OUT_refl (n := (V118_Br_c11).length) (D := D) (N := N) (σ := σE) (c := c) (s := s)
  have HE := H
  have r1 : (-2147483648 : Int) ≤ u5_0 ∧ u5_0 ≤ 2147483647 := by have h1 : (-2147483648 : Int) ≤ F 5 0 ∧ F 5 0 ≤ 2147483647 := H.krg 5 0 (by decide); rw [show F 5 0 = u5_0 from (eu5_0)] at h1; exact h1
  have r2 : (-2147483648 : Int) ≤ u5_1 ∧ u5_1 ≤ 2147483647 := by have h1 : (-2147483648 : Int) ≤ F 5 1 ∧ F 5 1 ≤ 2147483647 := H.krg 5 1 (by decide); rw [show F 5 1 = u5_1 from (eu5_1)] at h1; exact h1
  replace pf2 := HIDm pf2
  replace pf3 := HIDm pf3
  replace pf4 := HIDm pf4
  replace pf5 := HIDm pf5
  replace pf6 := HIDm pf6
  replace pf7 := HIDm pf7
  replace pf8 := HIDm pf8
  replace pf9 := HIDm pf9
  replace pf10 := HIDm pf10
  replace pf11 := HIDm pf11
  replace pf12 := HIDm pf12
  replace pf13 := HIDm pf13
  replace en1 := HIDm en1
  replace en3 := HIDm en3
  replace en4 := HIDm en4
  replace en6 := HIDm en6
  replace en7 := HIDm en7
  replace en8 := HIDm en8
  replace en9 := HIDm en9
  replace en10 := HIDm en10
  replace en11 := HIDm en11
  replace en12 := HIDm en12
  replace en13 := HIDm en13
  replace eu5_0 := HIDm eu5_0
  replace eu5_1 := HIDm eu5_1
  have r3 : (0 : Int) ≤ n1 ∧ n1 ≤ 1000000 := by have h1 := H.nle 1 (by decide); have h2 : (N 1 : Int) = n1 := en1; omega
  have r4 : (0 : Int) ≤ n3 ∧ n3 ≤ 1000000 := by have h1 := H.nle 3 (by decide); have h2 : (N 3 : Int) = n3 := en3; omega
  have r5 : (0 : Int) ≤ n4 ∧ n4 ≤ 1000000 := by have h1 := H.nle 4 (by decide); have h2 : (N 4 : Int) = n4 := en4; omega
  have r6 : (0 : Int) ≤ n6 ∧ n6 ≤ 1000000 := by have h1 := H.nle 6 (by decide); have h2 : (N 6 : Int) = n6 := en6; omega
  have r7 : (0 : Int) ≤ n7 ∧ n7 ≤ 1000000 := by have h1 := H.nle 7 (by decide); have h2 : (N 7 : Int) = n7 := en7; omega
  have r8 : (0 : Int) ≤ n8 ∧ n8 ≤ 1000000 := by have h1 := H.nle 8 (by decide); have h2 : (N 8 : Int) = n8 := en8; omega
  have r9 : (0 : Int) ≤ n9 ∧ n9 ≤ 1000000 := by have h1 := H.nle 9 (by decide); have h2 : (N 9 : Int) = n9 := en9; omega
  have r10 : (0 : Int) ≤ n10 ∧ n10 ≤ 1000000 := by have h1 := H.nle 10 (by decide); have h2 : (N 10 : Int) = n10 := en10; omega
  have r11 : (0 : Int) ≤ n11 ∧ n11 ≤ 1000000 := by have h1 := H.nle 11 (by decide); have h2 : (N 11 : Int) = n11 := en11; omega
  have r12 : (0 : Int) ≤ n12 ∧ n12 ≤ 1000000 := by have h1 := H.nle 12 (by decide); have h2 : (N 12 : Int) = n12 := en12; omega
  have r13 : (0 : Int) ≤ n13 ∧ n13 ≤ 1000000 := by have h1 := H.nle 13 (by decide); have h2 : (N 13 : Int) = n13 := en13; omega
  have hsz : SHZD ((n6)) ((n7)) ((n8)) ((n9)) ((n10)) ((n11)) ((n12)) ((n13)) ((u5_1)) 32 256 := by assumption
  unfold SHZD at hsz
  refine Ew_of (pc' := 1) (fun _ => x_aload_n rfl rfl) ?_
  refine v_g H (o := 0) (v := .ref (D 2)) rfl rfl rfl rfl rfl (vrf (pf2)) ?_
  refine v_g H (o := 2) (v := .ref (D 3)) rfl rfl rfl rfl rfl (vrf (pf3)) ?_
  refine Ew_of (pc' := 8) (fun _ => x_iload_n rfl rfl) ?_
  refine Ew_of (pc' := 9) (fun _ => x_aload_n rfl rfl) ?_
  refine v_g H (o := 0) (v := .ref (D 4)) rfl rfl rfl rfl rfl (vrf (pf4)) ?_
  refine Ew_of (pc' := 13) (fun _ => x_iload_n rfl rfl) ?_
  refine v_lR H (o := 4) rfl rfl rfl rfl rfl (n := n4) (en4) (show 0 ≤ 1 ∧ 1 < n4 by omega) (z := ((D 5 : Nat) : Int)) (v := .ref (D 5)) (pf5) (vrf rfl) ?_
  have hu := fun j (hj : j ≠ 1) => upd1_o (a := ((w3))) (j := 1) (z := (((D 5 : Nat) : Int))) (i := j) hj
  have hs := upd1_s (a := ((w3))) (j := 1) (z := (((D 5 : Nat) : Int)))
  have hu0 : (1 : Int) = 0 ∨ upd1 ((w3)) 1 ((((D 5 : Nat) : Int))) 0 = ((w3)) 0 := by by_cases w : (0 : Int) = 1; exact .inl (by omega); exact .inr (hu 0 w)
  have hu1 : (1 : Int) = 1 ∨ upd1 ((w3)) 1 ((((D 5 : Nat) : Int))) 1 = ((w3)) 1 := by by_cases w : (1 : Int) = 1; exact .inl (by omega); exact .inr (hu 1 w)
  have hu2 : (1 : Int) = 2 ∨ upd1 ((w3)) 1 ((((D 5 : Nat) : Int))) 2 = ((w3)) 2 := by by_cases w : (2 : Int) = 1; exact .inl (by omega); exact .inr (hu 2 w)
  refine v_sR H (o := 3) (z := ((D 5 : Nat) : Int)) (v := .ref (D 5)) rfl rfl rfl rfl rfl (n := n3) (en3) (show 0 ≤ 1 ∧ 1 < n3 by omega) (show (-1 : Int) ≤ ((D 5 : Nat) : Int) by omega) (vrf rfl) (rkinR H (x := 5) rfl rfl rfl) (fun σ H O' => ?_)
  have O := OUT_trans O O'
  refine Ew_of (pc' := 16) (fun _ => x_iload_n rfl rfl) ?_
  refine w_ifge (t := 23) rfl rfl (show inr (a3) by omega) (fun b14 => ?_) (fun b14 => ?_)
  · refine Ew_of (pc' := 24) (fun _ => x_aload_n rfl rfl) ?_
    refine v_g H (o := 0) (v := .ref (D 4)) rfl rfl rfl rfl rfl (vrf (pf4)) ?_
    refine Ew_of (pc' := 28) (fun _ => x_iload_n rfl rfl) ?_
    refine v_lR H (o := 4) rfl rfl rfl rfl rfl (n := n4) (en4) (show 0 ≤ 1 ∧ 1 < n4 by omega) (z := ((D 5 : Nat) : Int)) (v := .ref (D 5)) (pf5) (vrf rfl) ?_
    refine Ew_of (pc' := 30) (fun _ => x_aload_n rfl rfl) ?_
    refine Ew_of (pc' := 31) (fun _ => x_iload_n rfl rfl) ?_
    refine Ew_of (pc' := 33) (fun _ => x_iload rfl rfl) ?_
    refine Ew_of (pc' := 36) (fun _ => x_getstatic rfl) ?_
    refine Ew_of (pc' := 37) (fun _ => x_iload_n rfl rfl) ?_
    refine v_stI (STC_out HT HE O) (b := 2) (n := 3) rfl rfl rfl rfl (show 0 ≤ 1 ∧ 1 < 3 by omega) (fun v15 ev15 qv15 => ?_)
    have hgo := ev15
    have hgv : ((v15) : Int) = 8 := by rw [← hgo]; rfl
    have hpg : p2 ((v15)) = 256 := by rw [hgv]; decide
    refine v_inv H (o := 5) rfl rfl rfl rfl rfl rfl (by rfl) (C184_Br (D := pul [5, 1, 11, 6, 7, 8, 9, 10, 12, 13] D) (N := pul [5, 1, 11, 6, 7, 8, 9, 10, 12, 13] N) (HW_sub H (VS_of (show vsub V118_Br_c11 V184_Br [5, 1, 11, 6, 7, 8, 9, 10, 12, 13] = true by decide +kernel))) (pf11) (pf6) (pf7) (pf8) (pf9) (pf10) (pf12) (pf13) (n1) (en1) (n11) (en11) (n6) (en6) (n7) (en7) (n8) (en8) (n9) (en9) (n10) (en10) (n12) (en12) (n13) (en13) (u5_0) ((eu5_0)) (u5_1) ((eu5_1)) (w1) (ew1) (w11) (ew11) (w6) (ew6) (w7) (ew7) (w8) (ew8) (w9) (ew9) (w12) (ew12) (w13) (ew13) (show inr (a3) by omega) (show inr (a4) by omega) (show inr (v15) by omega) (show 0 ≤ (a3) ∧ (a3) ≤ (a4) ∧ (a4) ≤ (n1) ∧ (n1) ≤ 65536 by omega) (show 5 ≤ (v15) ∧ (v15) ≤ 9 ∧ p2 (v15) ≤ (n11) by omega) (show (n6) = (u5_1) ∧ (n7) = (u5_1) ∧ (n8) = (u5_1) ∧ (n9) = (u5_1) ∧ (n10) = (u5_1) ∧ (n12) = (n11) ∧ (n13) = (n11) ∧ 1 ≤ (u5_1) ∧ (u5_1) ≤ 64 by omega) (fun z16 σ16 F16' A16' H' O' hS16 hA16 y16_0_0 ey16_0_0 w16_2 ew16_2 w16_3 ew16_3 w16_4 ew16_4 w16_5 ew16_5 w16_6 ew16_6 w16_8 ew16_8 w16_9 ew16_9 pq16_0 pz16_0 pz16_1 pz16_2 pz16_3 pz16_4 => ⟨rfl, ?_⟩))
    replace ey16_0_0 := HIDm ey16_0_0
    replace pq16_0 := HIDm pq16_0
    refine v_back (c := c) (s := s) H (show vsub V118_Br_c11 V184_Br [5, 1, 11, 6, 7, 8, 9, 10, 12, 13] = true by decide +kernel) H' O' (fun F16 A16 H O' eF16 eA16 => ?_)
    have O := OUT_trans O O'
    -- Share.hear
    have pl16_0 : HID (F16 5 10 = (D 1 : Int)) := (eF16 5 10).trans (pq16_0)
    have r17 : (-2147483648 : Int) ≤ y16_0_0 ∧ y16_0_0 ≤ 2147483647 := by have h1 : (-2147483648 : Int) ≤ F16 5 0 ∧ F16 5 0 ≤ 2147483647 := H.krg 5 0 (by decide); rw [show F16 5 0 = y16_0_0 from ((eF16 5 0).trans ey16_0_0)] at h1; exact h1
    have hlt : LNT (ub8 ((w1))) ((a4)) 0 ((a3)) ((z16)) ((y16_0_0)) ((w16_3)) := by first | assumption | exact .inr ⟨by omega, by have h := pz16_4; rw [hgv, show (u5_1) = 32 by omega] at h; exact h⟩
    exact w_ireturn rfl (k (z16) _ _ _ H O (SF_trans (SF_refl) (SF_glu (ι := [5, 1, 11, 6, 7, 8, 9, 10, 12, 13]) hS16 eF16 (by decide +kernel)) (any_sub (l' := [(5, 0), (5, 10), (5, 11), (5, 12)]) rfl)) (SA_trans (SA_upd (SA_refl) rfl) (SA_glu (ι := [5, 1, 11, 6, 7, 8, 9, 10, 12, 13]) hA16 eA16 (by decide +kernel)) (any_subA (l' := [6, 7, 8, 9, 10, 11, 12, 13]) rfl)) (y16_0_0) (((eF16 5 0).trans ey16_0_0)) (upd1 (w3) (1) (((D 5 : Nat) : Int))) (((show A16 3 = (updA A 3 (1) (((D 5 : Nat) : Int))) 3 from (eA16 3))).trans (congrArg (fun q => upd1 q (1) (((D 5 : Nat) : Int))) (ew3))) (w16_3) ((eA16 6).trans ew16_3) (w16_4) ((eA16 7).trans ew16_4) (w16_5) ((eA16 8).trans ew16_5) (w16_6) ((eA16 9).trans ew16_6) (w16_2) ((eA16 11).trans ew16_2) (w16_8) ((eA16 12).trans ew16_8) (w16_9) ((eA16 13).trans ew16_9) (show inr (z16) by omega) (show (z16) = -1 ∨ 0 ≤ (a3) ∧ (a3) ≤ (z16) ∧ (z16) ≤ (a4) by omega) (show (z16) = -1 ∨ SL ((w16_3)) ((u5_1)) ((y16_0_0)) ((w16_4)) ((w16_5)) ((w16_6)) ((w16_2)) ((w16_8)) ((w16_9)) by assumption) (show ((upd1 (w3) (1) (((D 5 : Nat) : Int)))) 1 = (((D 5 : Nat) : Int)) by omega) (show (z16) = -1 ∨ (y16_0_0) ≤ 8 by omega) (show LNT (ub8 ((w1))) ((a4)) 0 ((a3)) ((z16)) ((y16_0_0)) ((w16_3)) by assumption) (show 1 = 0 ∨ ((upd1 (w3) (1) (((D 5 : Nat) : Int)))) 0 = ((w3)) 0 by omega) (show 1 = 1 ∨ ((upd1 (w3) (1) (((D 5 : Nat) : Int)))) 1 = ((w3)) 1 by omega) (show 1 = 2 ∨ ((upd1 (w3) (1) (((D 5 : Nat) : Int)))) 2 = ((w3)) 2 by omega))
  · have hno : (-1 : Int) = -1 ∨ SL ((w6)) ((u5_1)) ((u5_0)) ((w7)) ((w8)) ((w9)) ((w11)) ((w12)) ((w13)) := .inl rfl
    have hnt : LNT (ub8 ((w1))) ((a4)) 0 ((a3)) ((-1 : Int)) ((u5_0)) ((w6)) := .inl ⟨by omega, rfl⟩
    refine Ew_of (pc' := 20) (fun _ => x_iconst rfl) ?_
    refine Ew_of (pc' := 41) (fun _ => x_goto rfl rfl) ?_
    have hlt : LNT (ub8 ((w1))) ((a4)) 0 ((a3)) (((-1))) ((u5_0)) ((w6)) := by first | assumption | exact .inr ⟨by omega, by have h := pz16_4; rw [hgv, show (u5_1) = 32 by omega] at h; exact h⟩
    exact w_ireturn rfl (k ((-1)) _ _ _ H O (SF_refl) (SA_upd (SA_refl) rfl) (u5_0) ((eu5_0)) (upd1 (w3) (1) (((D 5 : Nat) : Int))) (congrArg (fun q => upd1 q (1) (((D 5 : Nat) : Int))) (ew3)) (w6) (ew6) (w7) (ew7) (w8) (ew8) (w9) (ew9) (w11) (ew11) (w12) (ew12) (w13) (ew13) (show inr ((-1)) by omega) (show ((-1)) = -1 ∨ 0 ≤ (a3) ∧ (a3) ≤ ((-1)) ∧ ((-1)) ≤ (a4) by omega) (show ((-1)) = -1 ∨ SL ((w6)) ((u5_1)) ((u5_0)) ((w7)) ((w8)) ((w9)) ((w11)) ((w12)) ((w13)) by assumption) (show ((upd1 (w3) (1) (((D 5 : Nat) : Int)))) 1 = (((D 5 : Nat) : Int)) by omega) (show ((-1)) = -1 ∨ (u5_0) ≤ 8 by omega) (show LNT (ub8 ((w1))) ((a4)) 0 ((a3)) (((-1))) ((u5_0)) ((w6)) by assumption) (show 1 = 0 ∨ ((upd1 (w3) (1) (((D 5 : Nat) : Int)))) 0 = ((w3)) 0 by omega) (show 1 = 1 ∨ ((upd1 (w3) (1) (((D 5 : Nat) : Int)))) 1 = ((w3)) 1 by omega) (show 1 = 2 ∨ ((upd1 (w3) (1) (((D 5 : Nat) : Int)))) 2 = ((w3)) 2 by omega))
abbrev V118_Br_c12 : vV := [(0, 4, [(4, 0), (4, 0), (0, 0), (4, 0), (4, 0)]), (1, 0, []), (0, 9, [(4, 0), (4, 0), (4, 0)]), (1, 5, []), (1, 5, []), (0, 8, [(0, 0), (0, 0), (4, 0), (4, 0), (4, 0), (4, 0), (4, 0), (4, 0), (4, 0), (4, 0), (4, 0), (0, 0), (0, 0)]), (1, 1, []), (1, 1, []), (1, 1, []), (1, 1, []), (1, 1, []), (1, 1, []), (1, 1, []), (1, 1, [])]
/-- Dictionary.hearTable: this, #1, this.stand, this.stand.tables, this.tables, this.tables.2, this.tables.2.points, this.tables.2.masses, this.tables.2.mostBits, this.tables.2.starts, this.tables.2.used, this.tables.2.symbolAt, this.tables.2.numberAt, this.tables.2.placeOf -/
theorem C118_Br_c12 {σE : rS} {D N : Nat → Nat} {F : hF} {A : hA} {d c s : Nat} {Q : wQ} (H : HW V118_Br_c12 σE D N F A) (HT : STC σE) {a3 a4 : Int} (pf2 : F 0 1 = (D 2 : Int)) (pf3 : F 2 1 = (D 3 : Int)) (pf4 : F 0 4 = (D 4 : Int)) (pf5 : A 4 2 = (D 5 : Int)) (pf6 : F 5 2 = (D 6 : Int)) (pf7 : F 5 3 = (D 7 : Int)) (pf8 : F 5 4 = (D 8 : Int)) (pf9 : F 5 5 = (D 9 : Int)) (pf10 : F 5 6 = (D 10 : Int)) (pf11 : F 5 7 = (D 11 : Int)) (pf12 : F 5 8 = (D 12 : Int)) (pf13 : F 5 9 = (D 13 : Int)) (n1 : Int) (en1 : (N 1 : Int) = n1) (n3 : Int) (en3 : (N 3 : Int) = n3) (n4 : Int) (en4 : (N 4 : Int) = n4) (n6 : Int) (en6 : (N 6 : Int) = n6) (n7 : Int) (en7 : (N 7 : Int) = n7) (n8 : Int) (en8 : (N 8 : Int) = n8) (n9 : Int) (en9 : (N 9 : Int) = n9) (n10 : Int) (en10 : (N 10 : Int) = n10) (n11 : Int) (en11 : (N 11 : Int) = n11) (n12 : Int) (en12 : (N 12 : Int) = n12) (n13 : Int) (en13 : (N 13 : Int) = n13) (u5_0 : Int) (eu5_0 : F 5 0 = u5_0) (u5_1 : Int) (eu5_1 : F 5 1 = u5_1) (w1 : Int → Int) (ew1 : A 1 = w1) (w3 : Int → Int) (ew3 : A 3 = w3) (w6 : Int → Int) (ew6 : A 6 = w6) (w7 : Int → Int) (ew7 : A 7 = w7) (w8 : Int → Int) (ew8 : A 8 = w8) (w9 : Int → Int) (ew9 : A 9 = w9) (w11 : Int → Int) (ew11 : A 11 = w11) (w12 : Int → Int) (ew12 : A 12 = w12) (w13 : Int → Int) (ew13 : A 13 = w13) (h0 : inr (2)) (h1 : inr (a3)) (h2 : inr (a4)) (h3 : (a3) = -1 ∨ 0 ≤ (a3) ∧ (a3) ≤ (a4)) (h4 : 0 ≤ (a4) ∧ (a4) ≤ (n1) ∧ (n1) ≤ 65536) (h5 : (n3) = 3 ∧ (n4) = 3) (h6 : SHZD ((n6)) ((n7)) ((n8)) ((n9)) ((n10)) ((n11)) ((n12)) ((n13)) ((u5_1)) 53 512) (k : ∀ (z : Int) (σ : rS) (F' : hF) (A' : hA), HW V118_Br_c12 σ D N F' A' → OUT (V118_Br_c12).length D N σE c s D N σ c s → SF [(5, 0), (5, 10), (5, 11), (5, 12)] F F' → SA [3, 6, 7, 8, 9, 10, 11, 12, 13] A A' → ∀ y5_0 : Int, F' 5 0 = y5_0 → ∀ v3 : Int → Int, A' 3 = v3 → ∀ v6 : Int → Int, A' 6 = v6 → ∀ v7 : Int → Int, A' 7 = v7 → ∀ v8 : Int → Int, A' 8 = v8 → ∀ v9 : Int → Int, A' 9 = v9 → ∀ v11 : Int → Int, A' 11 = v11 → ∀ v12 : Int → Int, A' 12 = v12 → ∀ v13 : Int → Int, A' 13 = v13 → (inr (z)) → ((z) = -1 ∨ 0 ≤ (a3) ∧ (a3) ≤ (z) ∧ (z) ≤ (a4)) → ((z) = -1 ∨ SL ((v6)) ((u5_1)) ((y5_0)) ((v7)) ((v8)) ((v9)) ((v11)) ((v12)) ((v13))) → (((v3)) 2 = (((D 5 : Nat) : Int))) → ((z) = -1 ∨ (y5_0) ≤ 9) → (LNT (ub8 ((w1))) ((a4)) 1 ((a3)) ((z)) ((y5_0)) ((v6))) → (2 = 0 ∨ ((v3)) 0 = ((w3)) 0) → (2 = 1 ∨ ((v3)) 1 = ((w3)) 1) → (2 = 2 ∨ ((v3)) 2 = ((w3)) 2) → Q (some (I z)) σ c s) : Ew 118 (d + 2) 0 (rargs 0 [.ref (D 0), I 2, .ref (D 1), I a3, I a4]) [] σE c s Q := by
  have O := OUT_refl (n := (V118_Br_c12).length) (D := D) (N := N) (σ := σE) (c := c) (s := s)
  have HE := H
  have r1 : (-2147483648 : Int) ≤ u5_0 ∧ u5_0 ≤ 2147483647 := by have h1 : (-2147483648 : Int) ≤ F 5 0 ∧ F 5 0 ≤ 2147483647 := H.krg 5 0 (by decide); rw [show F 5 0 = u5_0 from (eu5_0)] at h1; exact h1
  have r2 : (-2147483648 : Int) ≤ u5_1 ∧ u5_1 ≤ 2147483647 := by have h1 : (-2147483648 : Int) ≤ F 5 1 ∧ F 5 1 ≤ 2147483647 := H.krg 5 1 (by decide); rw [show F 5 1 = u5_1 from (eu5_1)] at h1; exact h1
  replace pf2 := HIDm pf2
  replace pf3 := HIDm pf3
  replace pf4 := HIDm pf4
  replace pf5 := HIDm pf5
  replace pf6 := HIDm pf6
  replace pf7 := HIDm pf7
  replace pf8 := HIDm pf8
  replace pf9 := HIDm pf9
  replace pf10 := HIDm pf10
  replace pf11 := HIDm pf11
  replace pf12 := HIDm pf12
  replace pf13 := HIDm pf13
  replace en1 := HIDm en1
  replace en3 := HIDm en3
  replace en4 := HIDm en4
  replace en6 := HIDm en6
  replace en7 := HIDm en7
  replace en8 := HIDm en8
  replace en9 := HIDm en9
  replace en10 := HIDm en10
  replace en11 := HIDm en11
  replace en12 := HIDm en12
  replace en13 := HIDm en13
  replace eu5_0 := HIDm eu5_0
  replace eu5_1 := HIDm eu5_1
  have r3 : (0 : Int) ≤ n1 ∧ n1 ≤ 1000000 := by have h1 := H.nle 1 (by decide); have h2 : (N 1 : Int) = n1 := en1; omega
  have r4 : (0 : Int) ≤ n3 ∧ n3 ≤ 1000000 := by have h1 := H.nle 3 (by decide); have h2 : (N 3 : Int) = n3 := en3; omega
  have r5 : (0 : Int) ≤ n4 ∧ n4 ≤ 1000000 := by have h1 := H.nle 4 (by decide); have h2 : (N 4 : Int) = n4 := en4; omega
  have r6 : (0 : Int) ≤ n6 ∧ n6 ≤ 1000000 := by have h1 := H.nle 6 (by decide); have h2 : (N 6 : Int) = n6 := en6; omega
  have r7 : (0 : Int) ≤ n7 ∧ n7 ≤ 1000000 := by have h1 := H.nle 7 (by decide); have h2 : (N 7 : Int) = n7 := en7; omega
  have r8 : (0 : Int) ≤ n8 ∧ n8 ≤ 1000000 := by have h1 := H.nle 8 (by decide); have h2 : (N 8 : Int) = n8 := en8; omega
  have r9 : (0 : Int) ≤ n9 ∧ n9 ≤ 1000000 := by have h1 := H.nle 9 (by decide); have h2 : (N 9 : Int) = n9 := en9; omega
  have r10 : (0 : Int) ≤ n10 ∧ n10 ≤ 1000000 := by have h1 := H.nle 10 (by decide); have h2 : (N 10 : Int) = n10 := en10; omega
  have r11 : (0 : Int) ≤ n11 ∧ n11 ≤ 1000000 := by have h1 := H.nle 11 (by decide); have h2 : (N 11 : Int) = n11 := en11; omega
  have r12 : (0 : Int) ≤ n12 ∧ n12 ≤ 1000000 := by have h1 := H.nle 12 (by decide); have h2 : (N 12 : Int) = n12 := en12; omega
  have r13 : (0 : Int) ≤ n13 ∧ n13 ≤ 1000000 := by have h1 := H.nle 13 (by decide); have h2 : (N 13 : Int) = n13 := en13; omega
  have hsz : SHZD ((n6)) ((n7)) ((n8)) ((n9)) ((n10)) ((n11)) ((n12)) ((n13)) ((u5_1)) 53 512 := by assumption
  unfold SHZD at hsz
  refine Ew_of (pc' := 1) (fun _ => x_aload_n rfl rfl) ?_
  refine v_g H (o := 0) (v := .ref (D 2)) rfl rfl rfl rfl rfl (vrf (pf2)) ?_
  refine v_g H (o := 2) (v := .ref (D 3)) rfl rfl rfl rfl rfl (vrf (pf3)) ?_
  refine Ew_of (pc' := 8) (fun _ => x_iload_n rfl rfl) ?_
  refine Ew_of (pc' := 9) (fun _ => x_aload_n rfl rfl) ?_
  refine v_g H (o := 0) (v := .ref (D 4)) rfl rfl rfl rfl rfl (vrf (pf4)) ?_
  refine Ew_of (pc' := 13) (fun _ => x_iload_n rfl rfl) ?_
  refine v_lR H (o := 4) rfl rfl rfl rfl rfl (n := n4) (en4) (show 0 ≤ 2 ∧ 2 < n4 by omega) (z := ((D 5 : Nat) : Int)) (v := .ref (D 5)) (pf5) (vrf rfl) ?_
  have hu := fun j (hj : j ≠ 2) => upd1_o (a := ((w3))) (j := 2) (z := (((D 5 : Nat) : Int))) (i := j) hj
  have hs := upd1_s (a := ((w3))) (j := 2) (z := (((D 5 : Nat) : Int)))
  have hu0 : (2 : Int) = 0 ∨ upd1 ((w3)) 2 ((((D 5 : Nat) : Int))) 0 = ((w3)) 0 := by by_cases w : (0 : Int) = 2; exact .inl (by omega); exact .inr (hu 0 w)
  have hu1 : (2 : Int) = 1 ∨ upd1 ((w3)) 2 ((((D 5 : Nat) : Int))) 1 = ((w3)) 1 := by by_cases w : (1 : Int) = 2; exact .inl (by omega); exact .inr (hu 1 w)
  have hu2 : (2 : Int) = 2 ∨ upd1 ((w3)) 2 ((((D 5 : Nat) : Int))) 2 = ((w3)) 2 := by by_cases w : (2 : Int) = 2; exact .inl (by omega); exact .inr (hu 2 w)
  refine v_sR H (o := 3) (z := ((D 5 : Nat) : Int)) (v := .ref (D 5)) rfl rfl rfl rfl rfl (n := n3) (en3) (show 0 ≤ 2 ∧ 2 < n3 by omega) (show (-1 : Int) ≤ ((D 5 : Nat) : Int) by omega) (vrf rfl) (rkinR H (x := 5) rfl rfl rfl) (fun σ H O' => ?_)
  have O := OUT_trans O O'
  refine Ew_of (pc' := 16) (fun _ => x_iload_n rfl rfl) ?_
  refine w_ifge (t := 23) rfl rfl (show inr (a3) by omega) (fun b14 => ?_) (fun b14 => ?_)
  · refine Ew_of (pc' := 24) (fun _ => x_aload_n rfl rfl) ?_
    refine v_g H (o := 0) (v := .ref (D 4)) rfl rfl rfl rfl rfl (vrf (pf4)) ?_
    refine Ew_of (pc' := 28) (fun _ => x_iload_n rfl rfl) ?_
    refine v_lR H (o := 4) rfl rfl rfl rfl rfl (n := n4) (en4) (show 0 ≤ 2 ∧ 2 < n4 by omega) (z := ((D 5 : Nat) : Int)) (v := .ref (D 5)) (pf5) (vrf rfl) ?_
    refine Ew_of (pc' := 30) (fun _ => x_aload_n rfl rfl) ?_
    refine Ew_of (pc' := 31) (fun _ => x_iload_n rfl rfl) ?_
    refine Ew_of (pc' := 33) (fun _ => x_iload rfl rfl) ?_
    refine Ew_of (pc' := 36) (fun _ => x_getstatic rfl) ?_
    refine Ew_of (pc' := 37) (fun _ => x_iload_n rfl rfl) ?_
    refine v_stI (STC_out HT HE O) (b := 2) (n := 3) rfl rfl rfl rfl (show 0 ≤ 2 ∧ 2 < 3 by omega) (fun v15 ev15 qv15 => ?_)
    have hgo := ev15
    have hgv : ((v15) : Int) = 9 := by rw [← hgo]; rfl
    have hpg : p2 ((v15)) = 512 := by rw [hgv]; decide
    refine v_inv H (o := 5) rfl rfl rfl rfl rfl rfl (by rfl) (C184_Br (D := pul [5, 1, 11, 6, 7, 8, 9, 10, 12, 13] D) (N := pul [5, 1, 11, 6, 7, 8, 9, 10, 12, 13] N) (HW_sub H (VS_of (show vsub V118_Br_c12 V184_Br [5, 1, 11, 6, 7, 8, 9, 10, 12, 13] = true by decide +kernel))) (pf11) (pf6) (pf7) (pf8) (pf9) (pf10) (pf12) (pf13) (n1) (en1) (n11) (en11) (n6) (en6) (n7) (en7) (n8) (en8) (n9) (en9) (n10) (en10) (n12) (en12) (n13) (en13) (u5_0) ((eu5_0)) (u5_1) ((eu5_1)) (w1) (ew1) (w11) (ew11) (w6) (ew6) (w7) (ew7) (w8) (ew8) (w9) (ew9) (w12) (ew12) (w13) (ew13) (show inr (a3) by omega) (show inr (a4) by omega) (show inr (v15) by omega) (show 0 ≤ (a3) ∧ (a3) ≤ (a4) ∧ (a4) ≤ (n1) ∧ (n1) ≤ 65536 by omega) (show 5 ≤ (v15) ∧ (v15) ≤ 9 ∧ p2 (v15) ≤ (n11) by omega) (show (n6) = (u5_1) ∧ (n7) = (u5_1) ∧ (n8) = (u5_1) ∧ (n9) = (u5_1) ∧ (n10) = (u5_1) ∧ (n12) = (n11) ∧ (n13) = (n11) ∧ 1 ≤ (u5_1) ∧ (u5_1) ≤ 64 by omega) (fun z16 σ16 F16' A16' H' O' hS16 hA16 y16_0_0 ey16_0_0 w16_2 ew16_2 w16_3 ew16_3 w16_4 ew16_4 w16_5 ew16_5 w16_6 ew16_6 w16_8 ew16_8 w16_9 ew16_9 pq16_0 pz16_0 pz16_1 pz16_2 pz16_3 pz16_4 => ⟨rfl, ?_⟩))
    replace ey16_0_0 := HIDm ey16_0_0
    replace pq16_0 := HIDm pq16_0
    refine v_back (c := c) (s := s) H (show vsub V118_Br_c12 V184_Br [5, 1, 11, 6, 7, 8, 9, 10, 12, 13] = true by decide +kernel) H' O' (fun F16 A16 H O' eF16 eA16 => ?_)
    have O := OUT_trans O O'
    -- Share.hear
    have pl16_0 : HID (F16 5 10 = (D 1 : Int)) := (eF16 5 10).trans (pq16_0)
    have r17 : (-2147483648 : Int) ≤ y16_0_0 ∧ y16_0_0 ≤ 2147483647 := by have h1 : (-2147483648 : Int) ≤ F16 5 0 ∧ F16 5 0 ≤ 2147483647 := H.krg 5 0 (by decide); rw [show F16 5 0 = y16_0_0 from ((eF16 5 0).trans ey16_0_0)] at h1; exact h1
    have hlt : LNT (ub8 ((w1))) ((a4)) 1 ((a3)) ((z16)) ((y16_0_0)) ((w16_3)) := by first | assumption | exact .inr ⟨by omega, by have h := pz16_4; rw [hgv, show (u5_1) = 53 by omega] at h; exact h⟩
    exact w_ireturn rfl (k (z16) _ _ _ H O (SF_trans (SF_refl) (SF_glu (ι := [5, 1, 11, 6, 7, 8, 9, 10, 12, 13]) hS16 eF16 (by decide +kernel)) (any_sub (l' := [(5, 0), (5, 10), (5, 11), (5, 12)]) rfl)) (SA_trans (SA_upd (SA_refl) rfl) (SA_glu (ι := [5, 1, 11, 6, 7, 8, 9, 10, 12, 13]) hA16 eA16 (by decide +kernel)) (any_subA (l' := [6, 7, 8, 9, 10, 11, 12, 13]) rfl)) (y16_0_0) (((eF16 5 0).trans ey16_0_0)) (upd1 (w3) (2) (((D 5 : Nat) : Int))) (((show A16 3 = (updA A 3 (2) (((D 5 : Nat) : Int))) 3 from (eA16 3))).trans (congrArg (fun q => upd1 q (2) (((D 5 : Nat) : Int))) (ew3))) (w16_3) ((eA16 6).trans ew16_3) (w16_4) ((eA16 7).trans ew16_4) (w16_5) ((eA16 8).trans ew16_5) (w16_6) ((eA16 9).trans ew16_6) (w16_2) ((eA16 11).trans ew16_2) (w16_8) ((eA16 12).trans ew16_8) (w16_9) ((eA16 13).trans ew16_9) (show inr (z16) by omega) (show (z16) = -1 ∨ 0 ≤ (a3) ∧ (a3) ≤ (z16) ∧ (z16) ≤ (a4) by omega) (show (z16) = -1 ∨ SL ((w16_3)) ((u5_1)) ((y16_0_0)) ((w16_4)) ((w16_5)) ((w16_6)) ((w16_2)) ((w16_8)) ((w16_9)) by assumption) (show ((upd1 (w3) (2) (((D 5 : Nat) : Int)))) 2 = (((D 5 : Nat) : Int)) by omega) (show (z16) = -1 ∨ (y16_0_0) ≤ 9 by omega) (show LNT (ub8 ((w1))) ((a4)) 1 ((a3)) ((z16)) ((y16_0_0)) ((w16_3)) by assumption) (show 2 = 0 ∨ ((upd1 (w3) (2) (((D 5 : Nat) : Int)))) 0 = ((w3)) 0 by omega) (show 2 = 1 ∨ ((upd1 (w3) (2) (((D 5 : Nat) : Int)))) 1 = ((w3)) 1 by omega) (show 2 = 2 ∨ ((upd1 (w3) (2) (((D 5 : Nat) : Int)))) 2 = ((w3)) 2 by omega))
  · have hno : (-1 : Int) = -1 ∨ SL ((w6)) ((u5_1)) ((u5_0)) ((w7)) ((w8)) ((w9)) ((w11)) ((w12)) ((w13)) := .inl rfl
    have hnt : LNT (ub8 ((w1))) ((a4)) 1 ((a3)) ((-1 : Int)) ((u5_0)) ((w6)) := .inl ⟨by omega, rfl⟩
    refine Ew_of (pc' := 20) (fun _ => x_iconst rfl) ?_
    refine Ew_of (pc' := 41) (fun _ => x_goto rfl rfl) ?_
    have hlt : LNT (ub8 ((w1))) ((a4)) 1 ((a3)) (((-1))) ((u5_0)) ((w6)) := by first | assumption | exact .inr ⟨by omega, by have h := pz16_4; rw [hgv, show (u5_1) = 53 by omega] at h; exact h⟩
    exact w_ireturn rfl (k ((-1)) _ _ _ H O (SF_refl) (SA_upd (SA_refl) rfl) (u5_0) ((eu5_0)) (upd1 (w3) (2) (((D 5 : Nat) : Int))) (congrArg (fun q => upd1 q (2) (((D 5 : Nat) : Int))) (ew3)) (w6) (ew6) (w7) (ew7) (w8) (ew8) (w9) (ew9) (w11) (ew11) (w12) (ew12) (w13) (ew13) (show inr ((-1)) by omega) (show ((-1)) = -1 ∨ 0 ≤ (a3) ∧ (a3) ≤ ((-1)) ∧ ((-1)) ≤ (a4) by omega) (show ((-1)) = -1 ∨ SL ((w6)) ((u5_1)) ((u5_0)) ((w7)) ((w8)) ((w9)) ((w11)) ((w12)) ((w13)) by assumption) (show ((upd1 (w3) (2) (((D 5 : Nat) : Int)))) 2 = (((D 5 : Nat) : Int)) by omega) (show ((-1)) = -1 ∨ (u5_0) ≤ 9 by omega) (show LNT (ub8 ((w1))) ((a4)) 1 ((a3)) (((-1))) ((u5_0)) ((w6)) by assumption) (show 2 = 0 ∨ ((upd1 (w3) (2) (((D 5 : Nat) : Int)))) 0 = ((w3)) 0 by omega) (show 2 = 1 ∨ ((upd1 (w3) (2) (((D 5 : Nat) : Int)))) 1 = ((w3)) 1 by omega) (show 2 = 2 ∨ ((upd1 (w3) (2) (((D 5 : Nat) : Int)))) 2 = ((w3)) 2 by omega))
