/-- Share.becomeAlone: this, this.symbolAt, this.points, this.masses, this.mostBits, this.starts, this.used, this.numberAt, this.placeOf -/
theorem C168p {σE : rS} {D N : Nat → Nat} {F : hF} {A : hA} {d c s : Nat} {Q : wQ} (H : HW V168 σE D N F A) {a1 : Int} (pf1 : F 0 7 = (D 1 : Int)) (pf2 : F 0 2 = (D 2 : Int)) (pf3 : F 0 3 = (D 3 : Int)) (pf4 : F 0 4 = (D 4 : Int)) (pf5 : F 0 5 = (D 5 : Int)) (pf6 : F 0 6 = (D 6 : Int)) (pf7 : F 0 8 = (D 7 : Int)) (pf8 : F 0 9 = (D 8 : Int)) (n1 : Int) (en1 : (N 1 : Int) = n1) (n2 : Int) (en2 : (N 2 : Int) = n2) (n3 : Int) (en3 : (N 3 : Int) = n3) (n4 : Int) (en4 : (N 4 : Int) = n4) (n5 : Int) (en5 : (N 5 : Int) = n5) (n6 : Int) (en6 : (N 6 : Int) = n6) (n7 : Int) (en7 : (N 7 : Int) = n7) (n8 : Int) (en8 : (N 8 : Int) = n8) (u0_0 : Int) (eu0_0 : F 0 0 = u0_0) (u0_1 : Int) (eu0_1 : F 0 1 = u0_1) (w1 : Int → Int) (ew1 : A 1 = w1) (w2 : Int → Int) (ew2 : A 2 = w2) (w3 : Int → Int) (ew3 : A 3 = w3) (w4 : Int → Int) (ew4 : A 4 = w4) (w5 : Int → Int) (ew5 : A 5 = w5) (w7 : Int → Int) (ew7 : A 7 = w7) (w8 : Int → Int) (ew8 : A 8 = w8) (h0 : inr (a1)) (h1 : (n1) ≥ 1) (h2 : (n2) = (u0_1) ∧ (n3) = (u0_1) ∧ (n4) = (u0_1) ∧ (n5) = (u0_1) ∧ (n6) = (u0_1) ∧ (n7) = (n1) ∧ (n8) = (n1) ∧ 1 ≤ (u0_1) ∧ (u0_1) ≤ 64) (h3 : 0 ≤ (a1) ∧ (a1) < ((u0_1))) (k : ∀ (σ : rS) (F' : hF) (A' : hA), HW V168 σ D N F' A' → OUT (V168).length D N σE c s D N σ c s → SF [(0, 0)] F F' → SA [1, 2, 3, 4, 5, 6, 7, 8] A A' → ∀ y0_0 : Int, F' 0 0 = y0_0 → ∀ v1 : Int → Int, A' 1 = v1 → ∀ v2 : Int → Int, A' 2 = v2 → ∀ v3 : Int → Int, A' 3 = v3 → ∀ v4 : Int → Int, A' 4 = v4 → ∀ v5 : Int → Int, A' 5 = v5 → ∀ v7 : Int → Int, A' 7 = v7 → ∀ v8 : Int → Int, A' 8 = v8 → (SL ((v2)) ((u0_1)) ((y0_0)) ((v3)) ((v4)) ((v5)) ((v1)) ((v7)) ((v8))) → ((y0_0) = 0) → (∀ i, 0 ≤ i → i < ((u0_1)) → ((v2)) i = on0 ((a1)) i) → (((v2)) (a1) ≠ 0) → Q none σ c s) : Ew 168 (d + 1) 0 (rargs 0 [.ref (D 0), I a1]) [] σE c s Q := by
  have O := OUT_refl (n := (V168).length) (D := D) (N := N) (σ := σE) (c := c) (s := s)
  have HE := H
  have r1 : HID ((-2147483648 : Int) ≤ u0_0 ∧ u0_0 ≤ 2147483647) := krg_e (show (-2147483648 : Int) ≤ F 0 0 ∧ F 0 0 ≤ 2147483647 from H.krg 0 0 (by decide)) (show F 0 0 = u0_0 from (eu0_0))
  have r2 : HID ((-2147483648 : Int) ≤ u0_1 ∧ u0_1 ≤ 2147483647) := krg_e (show (-2147483648 : Int) ≤ F 0 1 ∧ F 0 1 ≤ 2147483647 from H.krg 0 1 (by decide)) (show F 0 1 = u0_1 from (eu0_1))
  replace pf1 := HIDm pf1
  replace pf2 := HIDm pf2
  replace pf3 := HIDm pf3
  replace pf4 := HIDm pf4
  replace pf5 := HIDm pf5
  replace pf6 := HIDm pf6
  replace pf7 := HIDm pf7
  replace pf8 := HIDm pf8
  replace en1 := HIDm en1
  replace en2 := HIDm en2
  replace en3 := HIDm en3
  replace en4 := HIDm en4
  replace en5 := HIDm en5
  replace en6 := HIDm en6
  replace en7 := HIDm en7
  replace en8 := HIDm en8
  replace eu0_0 := HIDm eu0_0
  replace eu0_1 := HIDm eu0_1
  have r3 : HID ((0 : Int) ≤ n1 ∧ n1 ≤ 1000000) := nrng (H.nle 1 (by decide)) (show (N 1 : Int) = n1 from en1)
  have r4 : HID ((0 : Int) ≤ n2 ∧ n2 ≤ 1000000) := nrng (H.nle 2 (by decide)) (show (N 2 : Int) = n2 from en2)
  have r5 : HID ((0 : Int) ≤ n3 ∧ n3 ≤ 1000000) := nrng (H.nle 3 (by decide)) (show (N 3 : Int) = n3 from en3)
  have r6 : HID ((0 : Int) ≤ n4 ∧ n4 ≤ 1000000) := nrng (H.nle 4 (by decide)) (show (N 4 : Int) = n4 from en4)
  have r7 : HID ((0 : Int) ≤ n5 ∧ n5 ≤ 1000000) := nrng (H.nle 5 (by decide)) (show (N 5 : Int) = n5 from en5)
  have r8 : HID ((0 : Int) ≤ n6 ∧ n6 ≤ 1000000) := nrng (H.nle 6 (by decide)) (show (N 6 : Int) = n6 from en6)
  have r9 : HID ((0 : Int) ≤ n7 ∧ n7 ≤ 1000000) := nrng (H.nle 7 (by decide)) (show (N 7 : Int) = n7 from en7)
  have r10 : HID ((0 : Int) ≤ n8 ∧ n8 ≤ 1000000) := nrng (H.nle 8 (by decide)) (show (N 8 : Int) = n8 from en8)
  refine Ew_of (pc' := 1) (fun _ => x_aload_n rfl rfl) ?_
  refine Ew_of (pc' := 2) (fun _ => x_iconst rfl) ?_
  refine v_p H (o := 0) (z := 0) (v := I (0)) rfl rfl rfl rfl rfl rfl rfl rfl (show (-2147483648 : Int) ≤ 0 ∧ 0 ≤ 2147483647 by omega) (fun σ H O' => ?_)
  have O := OUT_trans O O'
  refine Ew_of (pc' := 6) (fun _ => x_aload_n rfl rfl) ?_
  refine v_g H (o := 0) (v := .ref (D 2)) rfl rfl rfl rfl rfl (vrf (pf2)) ?_
  refine Ew_of (pc' := 10) (fun _ => x_iconst rfl) ?_
  refine v_fil H (t := 2) (v := 0) rfl rfl rfl rfl rfl (show inr (0) by omega) (fun σ A11 H O' hA11 ga11 => ?_)
  have O := OUT_trans O O'
  refine Ew_of (pc' := 14) (fun _ => x_aload_n rfl rfl) ?_
  refine v_g H (o := 0) (v := .ref (D 2)) rfl rfl rfl rfl rfl (vrf (pf2)) ?_
  refine Ew_of (pc' := 18) (fun _ => x_iload_n rfl rfl) ?_
  refine Ew_of (pc' := 19) (fun _ => x_iconst rfl) ?_
  have hmu := mp_updN (g := ((A11 2))) (n := ((u0_1))) (j := (a1)) (v := 1) (by (have qg0 := HIDe r2; omega)) (by (have qg0 := HIDe r2; omega))
  have hz : mp ((A11 2)) ((u0_1)) = 0 := mp_allz ga11
  have hm0 : mass (((A11 2)) (a1)) = 0 := by rw [ga11 (a1)]; decide
  have hm1 : mass 1 = 1 := by decide
  have hp0 : p2 0 = 1 := by decide
  have hge : GE1 (upd1 ((A11 2)) (a1) 1) ((u0_1)) := GE1_upd (GE1_z ga11) (by decide)
  refine v_sI H (o := 2) (z := 1) rfl rfl rfl rfl (n := n2) (en2) (show 0 ≤ a1 ∧ a1 < n2 by have qh0 := HIDe r4; omega) (show inr (1) by omega) (fun σ H O' => ?_)
  have O := OUT_trans O O'
  have hSD : SHD ((upd1 (A11 2) (a1) (1))) ((u0_1)) ((0)) := ⟨.inl rfl, by (have qg0 := HIDe r2; omega), by (have qg0 := HIDe r2; omega), hge, by (have qg0 := HIDe r2; omega)⟩
  have : ∀ i, 0 ≤ i → i < ((u0_1)) → ((upd1 (A11 2) (a1) (1))) i = on0 ((a1)) i := fun i _ _ => by unfold on0; by_cases z : i = (a1); (rw [if_pos z, z, upd1_s]); (rw [if_neg z, upd1_o z]; exact ga11 i)
  have hpo : ((upd1 (A11 2) (a1) (1))) (a1) ≠ 0 := by rw [upd1_s]; decide
  refine Ew_of (pc' := 21) (fun _ => x_aload_n rfl rfl) ?_
  refine v_inv H (o := 0) rfl rfl rfl rfl rfl rfl (by rfl) (C169 (D := pul [0, 2, 3, 4, 5, 6, 7, 1, 8] D) (N := pul [0, 2, 3, 4, 5, 6, 7, 1, 8] N) (HW_sub H (VS_of (show vsub V168 V169 [0, 2, 3, 4, 5, 6, 7, 1, 8] = true by decide +kernel))) (pf2) (pf3) (pf4) (pf5) (pf6) (pf7) (pf1) (pf8) (n2) (en2) (n3) (en3) (n4) (en4) (n5) (en5) (n6) (en6) (n7) (en7) (n1) (en1) (n8) (en8) (0) (rfl) (u0_1) ((eu0_1)) (upd1 (A11 2) (a1) (1)) (rfl) (w3) ((funext (hA11 3 rfl)).trans (ew3)) (w4) ((funext (hA11 4 rfl)).trans (ew4)) (w5) ((funext (hA11 5 rfl)).trans (ew5)) (w7) ((funext (hA11 7 rfl)).trans (ew7)) (w1) ((funext (hA11 1 rfl)).trans (ew1)) (w8) ((funext (hA11 8 rfl)).trans (ew8)) (show SHD ((upd1 (A11 2) (a1) (1))) ((u0_1)) ((0)) by assumption) (show (n2) = (u0_1) ∧ (n3) = (u0_1) ∧ (n4) = (u0_1) ∧ (n5) = (u0_1) ∧ (n6) = (u0_1) ∧ (n7) = (n1) ∧ (n8) = (n1) ∧ p2 ((0)) ≤ (n1) by have qh0 := HIDe r10; have qh1 := HIDe r2; have qh2 := HIDe r3; have qh3 := HIDe r4; have qh4 := HIDe r5; have qh5 := HIDe r6; have qh6 := HIDe r7; have qh7 := HIDe r8; have qh8 := HIDe r9; omega) (fun σ12 F12' A12' H' O' hS12 hA12 w12_2 ew12_2 w12_3 ew12_3 w12_4 ew12_4 w12_6 ew12_6 w12_7 ew12_7 w12_8 ew12_8 pz12_0 => ⟨rfl, ?_⟩))
  refine v_back (c := c) (s := s) H (show vsub V168 V169 [0, 2, 3, 4, 5, 6, 7, 1, 8] = true by decide +kernel) H' O' (fun F12 A12 H O' eF12 eA12 => ?_)
  have O := OUT_trans O O'
  -- Share.lay
  exact w_ret rfl (k _ _ _ H O (SF_trans (SF_upd (SF_refl) rfl) (SF_glu (ι := [0, 2, 3, 4, 5, 6, 7, 1, 8]) hS12 eF12 (by decide +kernel)) (any_sub (l' := []) rfl)) (SA_trans (SA_upd (SA_trans (SA_refl) hA11 (any_subA rfl)) rfl) (SA_glu (ι := [0, 2, 3, 4, 5, 6, 7, 1, 8]) hA12 eA12 (by decide +kernel)) (any_subA (l' := [1, 3, 4, 5, 6, 7, 8]) rfl)) (0) (((show F12 0 0 = (updF F 0 0 (0)) 0 0 from (eF12 0 0).trans (hS12 0 0 rfl)))) (w12_7) ((eA12 1).trans ew12_7) (upd1 (A11 2) (a1) (1)) ((show A12 2 = (updA A11 2 (a1) (1)) 2 from (eA12 2).trans (funext (hA12 1 rfl)))) (w12_2) ((eA12 3).trans ew12_2) (w12_3) ((eA12 4).trans ew12_3) (w12_4) ((eA12 5).trans ew12_4) (w12_6) ((eA12 7).trans ew12_6) (w12_8) ((eA12 8).trans ew12_8) (show SL ((upd1 (A11 2) (a1) (1))) ((u0_1)) ((0)) ((w12_2)) ((w12_3)) ((w12_4)) ((w12_7)) ((w12_6)) ((w12_8)) by assumption) (show (0) = 0 by omega) (show ∀ i, 0 ≤ i → i < ((u0_1)) → ((upd1 (A11 2) (a1) (1))) i = on0 (a1) i by assumption) (show ((upd1 (A11 2) (a1) (1))) a1 ≠ 0 by omega))
