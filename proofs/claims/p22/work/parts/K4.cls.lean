theorem len_V168_oz_K4cls : (V168).length = 9 := by decide +kernel
theorem oz_K4cls_1 : vsub V168 V169 [0, 2, 3, 4, 5, 6, 7, 1, 8] = true := by decide +kernel
def oz_K4clsl_0 : List (Nat × Nat) := [(0, 0)]
theorem oz_K4cls_2 : (oz_K4clsl_0).all (fun p => !tbz 1 (Nat.add (Nat.mul 32 p.1) p.2)) = true := by decide +kernel
def oz_K4clsl_1 : List Nat := [1, 2, 3, 4, 5, 6, 7, 8]
theorem oz_K4cls_3 : (oz_K4clsl_1).all (fun p => !tbz 510 p) = true := by decide +kernel
def oz_K4clsl_2 : List Nat := [0, 2, 3, 4, 5, 6, 7, 1, 8]
theorem oz_K4cls_4 : okc oz_K4clsl_2 37788281547233950434304 = true := by decide +kernel
/-- Share.becomeAlone: this, this.symbolAt, this.points, this.masses, this.mostBits, this.starts, this.used, this.numberAt, this.placeOf -/
theorem C168p {σE : rS} {D N : Nat → Nat} {F : hF} {A : hA} {d c s : Nat} {Q : wQ} (H : HW V168 σE D N F A) {a1 : Int} (pf1 : HID (F 0 7 = (D 1 : Int))) (pf2 : HID (F 0 2 = (D 2 : Int))) (pf3 : HID (F 0 3 = (D 3 : Int))) (pf4 : HID (F 0 4 = (D 4 : Int))) (pf5 : HID (F 0 5 = (D 5 : Int))) (pf6 : HID (F 0 6 = (D 6 : Int))) (pf7 : HID (F 0 8 = (D 7 : Int))) (pf8 : HID (F 0 9 = (D 8 : Int))) (n1 : Int) (en1 : HID ((N 1 : Int) = n1)) (n2 : Int) (en2 : HID ((N 2 : Int) = n2)) (n3 : Int) (en3 : HID ((N 3 : Int) = n3)) (n4 : Int) (en4 : HID ((N 4 : Int) = n4)) (n5 : Int) (en5 : HID ((N 5 : Int) = n5)) (n6 : Int) (en6 : HID ((N 6 : Int) = n6)) (n7 : Int) (en7 : HID ((N 7 : Int) = n7)) (n8 : Int) (en8 : HID ((N 8 : Int) = n8)) (u0_0 : Int) (eu0_0 : HID (F 0 0 = u0_0)) (u0_1 : Int) (eu0_1 : HID (F 0 1 = u0_1)) (w1 : Int → Int) (ew1 : A 1 = w1) (w2 : Int → Int) (ew2 : A 2 = w2) (w3 : Int → Int) (ew3 : A 3 = w3) (w4 : Int → Int) (ew4 : A 4 = w4) (w5 : Int → Int) (ew5 : A 5 = w5) (w7 : Int → Int) (ew7 : A 7 = w7) (w8 : Int → Int) (ew8 : A 8 = w8) (h0 : inr (a1)) (h1 : (n1) ≥ 1) (h2 : (n2) = (u0_1) ∧ (n3) = (u0_1) ∧ (n4) = (u0_1) ∧ (n5) = (u0_1) ∧ (n6) = (u0_1) ∧ (n7) = (n1) ∧ (n8) = (n1) ∧ 1 ≤ (u0_1) ∧ (u0_1) ≤ 64) (h3 : 0 ≤ (a1) ∧ (a1) < ((u0_1))) (k : ∀ (σ : rS) (Fₚ : hF) (Aₚ : hA), HW V168 σ D N Fₚ Aₚ → OUT (V168).length D N σE c s D N σ c s → SF [(0, 0)] F Fₚ → SA [1, 2, 3, 4, 5, 6, 7, 8] A Aₚ → ∀ y0_0 : Int, Fₚ 0 0 = y0_0 → ∀ v1 : Int → Int, Aₚ 1 = v1 → ∀ v2 : Int → Int, Aₚ 2 = v2 → ∀ v3 : Int → Int, Aₚ 3 = v3 → ∀ v4 : Int → Int, Aₚ 4 = v4 → ∀ v5 : Int → Int, Aₚ 5 = v5 → ∀ v7 : Int → Int, Aₚ 7 = v7 → ∀ v8 : Int → Int, Aₚ 8 = v8 → (SL ((v2)) ((u0_1)) ((y0_0)) ((v3)) ((v4)) ((v5)) ((v1)) ((v7)) ((v8))) → ((y0_0) = 0) → (((v2)) (a1) ≠ 0) → Q none σ c s) : Ew 168 (d + 1) 0 (rargs 0 [.ref (D 0), I a1]) [] σE c s Q := by
  have O := OUT_refl (n := (V168).length) (D := D) (N := N) (σ := σE) (c := c) (s := s)
  have HE := H
  have r2 : HID ((-2147483648 : Int) ≤ u0_1 ∧ u0_1 ≤ 2147483647) := krg_e (show (-2147483648 : Int) ≤ F 0 1 ∧ F 0 1 ≤ 2147483647 from H.krg 0 1 (ltn len_V168_oz_K4cls rfl)) (show F 0 1 = u0_1 from (eu0_1))
  refine Ew_of (pcₚ := 1) (fun _ => x_aload_n rfl rfl) ?_
  refine Ew_of (pcₚ := 2) (fun _ => x_iconst rfl) ?_
  refine v_p H (o := 0) (z := 0) (v := I (0)) rfl rfl rfl rfl rfl rfl rfl rfl (show (-2147483648 : Int) ≤ 0 ∧ 0 ≤ 2147483647 from q_240) (fun σ H Oₚ => ?_)
  have O := OUT_trans O Oₚ
  have cFu11 : SF oz_K4clsl_0 F (updF F 0 0 (0)) := SF_upd (SF_refl) rfl
  have mFu11 := SFm_of cFu11 oz_K4cls_2
  refine Ew_of (pcₚ := 6) (fun _ => x_aload_n rfl rfl) ?_
  refine v_g H (o := 0) (v := .ref (D 2)) rfl rfl rfl rfl rfl (vrf ((mFu11 0 2 rfl).trans (pf2))) ?_
  refine Ew_of (pcₚ := 10) (fun _ => x_iconst rfl) ?_
  refine v_fil H (t := 2) (v := 0) rfl rfl rfl rfl rfl (show inr (0) from q_20) (fun σ A12 H Oₚ hA12 ga12 => ?_)
  have O := OUT_trans O Oₚ
  have cA12 : SA oz_K4clsl_1 A A12 := SA_trans (SA_refl) hA12 (any_subA (by decide +kernel))
  have mA12 := SAm_of cA12 oz_K4cls_3
  refine Ew_of (pcₚ := 14) (fun _ => x_aload_n rfl rfl) ?_
  refine v_g H (o := 0) (v := .ref (D 2)) rfl rfl rfl rfl rfl (vrf ((mFu11 0 2 rfl).trans (pf2))) ?_
  refine Ew_of (pcₚ := 18) (fun _ => x_iload_n rfl rfl) ?_
  refine Ew_of (pcₚ := 19) (fun _ => x_iconst rfl) ?_
  have hmu := mp_updN (g := ((A12 2))) (n := ((u0_1))) (j := (a1)) (v := 1) (by (have qg0 := HIDe r2; omega)) (by (have qg0 := HIDe r2; omega))
  have hz : mp ((A12 2)) ((u0_1)) = 0 := mp_allz ga12
  have hm0 : mass (((A12 2)) (a1)) = 0 := by rw [ga12 (a1)]; decide
  have hm1 : mass 1 = 1 := by decide
  have hp0 : p2 0 = 1 := by decide
  have hge : GE1 (upd1 ((A12 2)) (a1) 1) ((u0_1)) := GE1_upd (GE1_z ga12) (by decide)
  refine v_sI H (o := 2) (z := 1) rfl rfl rfl rfl (n := n2) (en2) (show 0 ≤ a1 ∧ a1 < n2 from q_3242 h2 h3) (show inr (1) from q_23) (fun σ H Oₚ => ?_)
  have O := OUT_trans O Oₚ
  have cAu13 : SA oz_K4clsl_1 A (updA A12 2 (a1) (1)) := SA_upd (cA12) rfl
  have mAu13 := SAm_of cAu13 oz_K4cls_3
  have hSD : SHD ((upd1 (A12 2) (a1) (1))) ((u0_1)) ((0)) := ⟨.inl rfl, by (have qg0 := HIDe r2; omega), by (have qg0 := HIDe r2; omega), hge, by (have qg0 := HIDe r2; omega)⟩
  have hpo : ((upd1 (A12 2) (a1) (1))) (a1) ≠ 0 := by rw [upd1_s]; decide
  refine Ew_of (pcₚ := 21) (fun _ => x_aload_n rfl rfl) ?_
  refine v_inv H (o := 0) rfl rfl rfl rfl rfl rfl (by rfl) (C169 (D := puc 37788281547233950434304 D) (N := puc 37788281547233950434304 N) (HW_subc H oz_K4cls_1 oz_K4cls_4) ((mFu11 0 2 rfl).trans (pf2)) ((mFu11 0 3 rfl).trans (pf3)) ((mFu11 0 4 rfl).trans (pf4)) ((mFu11 0 5 rfl).trans (pf5)) ((mFu11 0 6 rfl).trans (pf6)) ((mFu11 0 8 rfl).trans (pf7)) ((mFu11 0 7 rfl).trans (pf1)) ((mFu11 0 9 rfl).trans (pf8)) (n2) (en2) (n3) (en3) (n4) (en4) (n5) (en5) (n6) (en6) (n7) (en7) (n1) (en1) (n8) (en8) (0) (rfl) (u0_1) (((mFu11 0 1 rfl).trans (eu0_1))) (upd1 (A12 2) (a1) (1)) (rfl) (w3) ((funext (hA12 3 rfl)).trans (ew3)) (w4) ((funext (hA12 4 rfl)).trans (ew4)) (w5) ((funext (hA12 5 rfl)).trans (ew5)) (w7) ((funext (hA12 7 rfl)).trans (ew7)) (w1) ((funext (hA12 1 rfl)).trans (ew1)) (w8) ((funext (hA12 8 rfl)).trans (ew8)) (show SHD ((upd1 (A12 2) (a1) (1))) ((u0_1)) ((0)) from hSD) (show (n2) = (u0_1) ∧ (n3) = (u0_1) ∧ (n4) = (u0_1) ∧ (n5) = (u0_1) ∧ (n6) = (u0_1) ∧ (n7) = (n1) ∧ (n8) = (n1) ∧ p2 ((0)) ≤ (n1) from q_3243 h1 h2 hp0) (fun σ14 F14ₚ A14ₚ Hₚ Oₚ hS14 hA14 w14_2 ew14_2 w14_3 ew14_3 w14_4 ew14_4 w14_6 ew14_6 w14_7 ew14_7 w14_8 ew14_8 pz14_0 => ⟨rfl, ?_⟩))
  refine v_backc (c := c) (s := s) H oz_K4cls_1 oz_K4cls_4 Hₚ Oₚ (fun F14 A14 H Oₚ eF14 eA14 => ?_)
  have O := OUT_trans O Oₚ
  -- Share.lay
  have cF14 : SF oz_K4clsl_0 F F14 := SF_trans (cFu11) (SF_gluc (ι := oz_K4clsl_2) oz_K4cls_4 hS14 eF14 (by decide +kernel)) (any_sub (lₚ := []) (by decide +kernel))
  have mF14 := SFm_of cF14 oz_K4cls_2
  have cA14 : SA oz_K4clsl_1 A A14 := SA_trans (cAu13) (SA_gluc (ι := oz_K4clsl_2) oz_K4cls_4 hA14 eA14 (by decide +kernel)) (any_subA (lₚ := [1, 3, 4, 5, 6, 7, 8]) (by decide +kernel))
  have mA14 := SAm_of cA14 oz_K4cls_3
  exact w_ret rfl (k _ _ _ H O (cF14) (cA14) (0) (((show F14 0 0 = (updF F 0 0 (0)) 0 0 from (eF14 0 0).trans (hS14 0 0 rfl)))) (w14_7) ((eA14 1).trans ew14_7) (upd1 (A12 2) (a1) (1)) ((show A14 2 = (updA A12 2 (a1) (1)) 2 from (eA14 2).trans (funext (hA14 1 rfl)))) (w14_2) ((eA14 3).trans ew14_2) (w14_3) ((eA14 4).trans ew14_3) (w14_4) ((eA14 5).trans ew14_4) (w14_6) ((eA14 7).trans ew14_6) (w14_8) ((eA14 8).trans ew14_8) (show SL ((upd1 (A12 2) (a1) (1))) ((u0_1)) ((0)) ((w14_2)) ((w14_3)) ((w14_4)) ((w14_7)) ((w14_6)) ((w14_8)) from pz14_0) (show (0) = 0 by first | exact q_64 | omega) (show ((upd1 (A12 2) (a1) (1))) a1 ≠ 0 from hpo))
