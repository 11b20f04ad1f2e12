abbrev V168 : vV := [(0, 8, [(0, 0), (0, 0), (4, 0), (4, 0), (4, 0), (4, 0), (4, 0), (4, 0), (4, 0), (4, 0), (4, 0), (0, 0), (0, 0)]), (1, 1, []), (1, 1, []), (1, 1, []), (1, 1, []), (1, 1, []), (1, 1, []), (1, 1, []), (1, 1, [])]
theorem len_V168_oz_E7cls : (V168).length = 9 := by decide +kernel
theorem oz_E7cls_1 : vsub V168 V169 [0, 2, 3, 4, 5, 6, 7, 1, 8] = true := by decide +kernel
def oz_E7clsl_0 : List (Nat × Nat) := [(0, 0)]
theorem oz_E7cls_2 : (oz_E7clsl_0).all (fun p => !tbz 1 (Nat.add (Nat.mul 32 p.1) p.2)) = true := by decide +kernel
def oz_E7clsl_1 : List Nat := [1, 2, 3, 4, 5, 6, 7, 8]
theorem oz_E7cls_3 : (oz_E7clsl_1).all (fun p => !tbz 510 p) = true := by decide +kernel
def oz_E7clsl_2 : List Nat := [0, 2, 3, 4, 5, 6, 7, 1, 8]
theorem oz_E7cls_4 : okc oz_E7clsl_2 37788281547233950434304 = true := by decide +kernel
/-- Share.becomeAlone: this, this.symbolAt, this.points, this.masses, this.mostBits, this.starts, this.used, this.numberAt, this.placeOf -/
theorem C168 {σE : rS} {D N : Nat → Nat} {F : hF} {A : hA} {d c s : Nat} {Q : wQ} (H : HW V168 σE D N F A) {a1 : Int} (pf1 : F 0 7 = (D 1 : Int)) (pf2 : F 0 2 = (D 2 : Int)) (pf3 : F 0 3 = (D 3 : Int)) (pf4 : F 0 4 = (D 4 : Int)) (pf5 : F 0 5 = (D 5 : Int)) (pf6 : F 0 6 = (D 6 : Int)) (pf7 : F 0 8 = (D 7 : Int)) (pf8 : F 0 9 = (D 8 : Int)) (n1 : Int) (en1 : (N 1 : Int) = n1) (n2 : Int) (en2 : (N 2 : Int) = n2) (n3 : Int) (en3 : (N 3 : Int) = n3) (n4 : Int) (en4 : (N 4 : Int) = n4) (n5 : Int) (en5 : (N 5 : Int) = n5) (n6 : Int) (en6 : (N 6 : Int) = n6) (n7 : Int) (en7 : (N 7 : Int) = n7) (n8 : Int) (en8 : (N 8 : Int) = n8) (u0_0 : Int) (eu0_0 : F 0 0 = u0_0) (u0_1 : Int) (eu0_1 : F 0 1 = u0_1) (w1 : Int → Int) (ew1 : A 1 = w1) (w2 : Int → Int) (ew2 : A 2 = w2) (w3 : Int → Int) (ew3 : A 3 = w3) (w4 : Int → Int) (ew4 : A 4 = w4) (w5 : Int → Int) (ew5 : A 5 = w5) (w7 : Int → Int) (ew7 : A 7 = w7) (w8 : Int → Int) (ew8 : A 8 = w8) (h0 : inr (a1)) (h1 : (n1) ≥ 1) (h2 : (n2) = (u0_1) ∧ (n3) = (u0_1) ∧ (n4) = (u0_1) ∧ (n5) = (u0_1) ∧ (n6) = (u0_1) ∧ (n7) = (n1) ∧ (n8) = (n1) ∧ 1 ≤ (u0_1) ∧ (u0_1) ≤ 64) (h3 : 0 ≤ (a1) ∧ (a1) < ((u0_1))) (k : ∀ (σ : rS) (Fₚ : hF) (Aₚ : hA), HW V168 σ D N Fₚ Aₚ → OUT (V168).length D N σE c s D N σ c s → SF [(0, 0)] F Fₚ → SA [1, 2, 3, 4, 5, 6, 7, 8] A Aₚ → ∀ y0_0 : Int, Fₚ 0 0 = y0_0 → ∀ v1 : Int → Int, Aₚ 1 = v1 → ∀ v2 : Int → Int, Aₚ 2 = v2 → ∀ v3 : Int → Int, Aₚ 3 = v3 → ∀ v4 : Int → Int, Aₚ 4 = v4 → ∀ v5 : Int → Int, Aₚ 5 = v5 → ∀ v7 : Int → Int, Aₚ 7 = v7 → ∀ v8 : Int → Int, Aₚ 8 = v8 → (SL ((v2)) ((u0_1)) ((y0_0)) ((v3)) ((v4)) ((v5)) ((v1)) ((v7)) ((v8))) → ((y0_0) = 0) → Q none σ c s) : Ew 168 (d + 1) 0 (rargs 0 [.ref (D 0), I a1]) [] σE c s Q := by
  have O := OUT_refl (n := (V168).length) (D := D) (N := N) (σ := σE) (c := c) (s := s)
  have HE := H
  have r1 : (-2147483648 : Int) ≤ u0_0 ∧ u0_0 ≤ 2147483647 := rngE (show (-2147483648 : Int) ≤ F 0 0 ∧ F 0 0 ≤ 2147483647 from H.krg 0 0 (ltn len_V168_oz_E7cls rfl)) (show F 0 0 = u0_0 from (eu0_0))
  have r2 : (-2147483648 : Int) ≤ u0_1 ∧ u0_1 ≤ 2147483647 := rngE (show (-2147483648 : Int) ≤ F 0 1 ∧ F 0 1 ≤ 2147483647 from H.krg 0 1 (ltn len_V168_oz_E7cls rfl)) (show F 0 1 = u0_1 from (eu0_1))
  have r3 : (0 : Int) ≤ n1 ∧ n1 ≤ 1000000 := nleE (H.nle 1 (ltn len_V168_oz_E7cls rfl)) (show (N 1 : Int) = n1 from en1)
  have r4 : (0 : Int) ≤ n2 ∧ n2 ≤ 1000000 := nleE (H.nle 2 (ltn len_V168_oz_E7cls rfl)) (show (N 2 : Int) = n2 from en2)
  have r5 : (0 : Int) ≤ n3 ∧ n3 ≤ 1000000 := nleE (H.nle 3 (ltn len_V168_oz_E7cls rfl)) (show (N 3 : Int) = n3 from en3)
  have r6 : (0 : Int) ≤ n4 ∧ n4 ≤ 1000000 := nleE (H.nle 4 (ltn len_V168_oz_E7cls rfl)) (show (N 4 : Int) = n4 from en4)
  have r7 : (0 : Int) ≤ n5 ∧ n5 ≤ 1000000 := nleE (H.nle 5 (ltn len_V168_oz_E7cls rfl)) (show (N 5 : Int) = n5 from en5)
  have r8 : (0 : Int) ≤ n6 ∧ n6 ≤ 1000000 := nleE (H.nle 6 (ltn len_V168_oz_E7cls rfl)) (show (N 6 : Int) = n6 from en6)
  have r9 : (0 : Int) ≤ n7 ∧ n7 ≤ 1000000 := nleE (H.nle 7 (ltn len_V168_oz_E7cls rfl)) (show (N 7 : Int) = n7 from en7)
  have r10 : (0 : Int) ≤ n8 ∧ n8 ≤ 1000000 := nleE (H.nle 8 (ltn len_V168_oz_E7cls rfl)) (show (N 8 : Int) = n8 from en8)
  refine Ew_of (pcₚ := 1) (fun _ => x_aload_n rfl rfl) ?_
  refine Ew_of (pcₚ := 2) (fun _ => x_iconst rfl) ?_
  refine v_p H (o := 0) (z := 0) (v := I (0)) rfl rfl rfl rfl rfl rfl rfl rfl (show (-2147483648 : Int) ≤ 0 ∧ 0 ≤ 2147483647 from q_240) (fun σ H Oₚ => ?_)
  have O := OUT_trans O Oₚ
  have cFu11 : SF oz_E7clsl_0 F (updF F 0 0 (0)) := SF_upd (SF_refl) rfl
  have mFu11 := SFm_of cFu11 oz_E7cls_2
  refine Ew_of (pcₚ := 6) (fun _ => x_aload_n rfl rfl) ?_
  refine v_g H (o := 0) (v := .ref (D 2)) rfl rfl rfl rfl rfl (vrf ((mFu11 0 2 rfl).trans (pf2))) ?_
  refine Ew_of (pcₚ := 10) (fun _ => x_iconst rfl) ?_
  refine v_fil H (t := 2) (v := 0) rfl rfl rfl rfl rfl (show inr (0) from q_20) (fun σ A12 H Oₚ hA12 ga12 => ?_)
  have O := OUT_trans O Oₚ
  have cA12 : SA oz_E7clsl_1 A A12 := SA_trans (SA_refl) hA12 (any_subA (by decide +kernel))
  have mA12 := SAm_of cA12 oz_E7cls_3
  refine Ew_of (pcₚ := 14) (fun _ => x_aload_n rfl rfl) ?_
  refine v_g H (o := 0) (v := .ref (D 2)) rfl rfl rfl rfl rfl (vrf ((mFu11 0 2 rfl).trans (pf2))) ?_
  refine Ew_of (pcₚ := 18) (fun _ => x_iload_n rfl rfl) ?_
  refine Ew_of (pcₚ := 19) (fun _ => x_iconst rfl) ?_
  have hmu := mp_updN (g := ((A12 2))) (n := ((u0_1))) (j := (a1)) (v := 1) (by omega) (by omega)
  have hz : mp ((A12 2)) ((u0_1)) = 0 := mp_allz ga12
  have hm0 : mass (((A12 2)) (a1)) = 0 := by rw [ga12 (a1)]; decide
  have hm1 : mass 1 = 1 := by decide
  have hp0 : p2 0 = 1 := by decide
  have hge : GE1 (upd1 ((A12 2)) (a1) 1) ((u0_1)) := GE1_upd (GE1_z ga12) (by decide)
  refine v_sI H (o := 2) (z := 1) rfl rfl rfl rfl (n := n2) (en2) (show 0 ≤ a1 ∧ a1 < n2 from q_3242 h2 h3) (show inr (1) from q_23) (fun σ H Oₚ => ?_)
  have O := OUT_trans O Oₚ
  have cAu13 : SA oz_E7clsl_1 A (updA A12 2 (a1) (1)) := SA_upd (cA12) rfl
  have mAu13 := SAm_of cAu13 oz_E7cls_3
  have hSD : SHD ((upd1 (A12 2) (a1) (1))) ((u0_1)) ((0)) := ⟨.inl rfl, by omega, by omega, hge, by omega⟩
  refine Ew_of (pcₚ := 21) (fun _ => x_aload_n rfl rfl) ?_
  refine v_inv H (o := 0) rfl rfl rfl rfl rfl rfl (by rfl) (C169 (D := puc 37788281547233950434304 D) (N := puc 37788281547233950434304 N) (HW_subc H oz_E7cls_1 oz_E7cls_4) ((mFu11 0 2 rfl).trans (pf2)) ((mFu11 0 3 rfl).trans (pf3)) ((mFu11 0 4 rfl).trans (pf4)) ((mFu11 0 5 rfl).trans (pf5)) ((mFu11 0 6 rfl).trans (pf6)) ((mFu11 0 8 rfl).trans (pf7)) ((mFu11 0 7 rfl).trans (pf1)) ((mFu11 0 9 rfl).trans (pf8)) (n2) (en2) (n3) (en3) (n4) (en4) (n5) (en5) (n6) (en6) (n7) (en7) (n1) (en1) (n8) (en8) (0) (rfl) (u0_1) (((mFu11 0 1 rfl).trans (eu0_1))) (upd1 (A12 2) (a1) (1)) (rfl) (w3) ((funext (hA12 3 rfl)).trans (ew3)) (w4) ((funext (hA12 4 rfl)).trans (ew4)) (w5) ((funext (hA12 5 rfl)).trans (ew5)) (w7) ((funext (hA12 7 rfl)).trans (ew7)) (w1) ((funext (hA12 1 rfl)).trans (ew1)) (w8) ((funext (hA12 8 rfl)).trans (ew8)) (show SHD ((upd1 (A12 2) (a1) (1))) ((u0_1)) ((0)) from hSD) (show (n2) = (u0_1) ∧ (n3) = (u0_1) ∧ (n4) = (u0_1) ∧ (n5) = (u0_1) ∧ (n6) = (u0_1) ∧ (n7) = (n1) ∧ (n8) = (n1) ∧ p2 ((0)) ≤ (n1) from q_3243 h1 h2 hp0) (fun σ14 F14ₚ A14ₚ Hₚ Oₚ hS14 hA14 w14_2 ew14_2 w14_3 ew14_3 w14_4 ew14_4 w14_6 ew14_6 w14_7 ew14_7 w14_8 ew14_8 pz14_0 => ⟨rfl, ?_⟩))
  refine v_backc (c := c) (s := s) H oz_E7cls_1 oz_E7cls_4 Hₚ Oₚ (fun F14 A14 H Oₚ eF14 eA14 => ?_)
  have O := OUT_trans O Oₚ
  -- Share.lay
  have cF14 : SF oz_E7clsl_0 F F14 := SF_trans (cFu11) (SF_gluc (ι := oz_E7clsl_2) oz_E7cls_4 hS14 eF14 (by decide +kernel)) (any_sub (lₚ := []) (by decide +kernel))
  have mF14 := SFm_of cF14 oz_E7cls_2
  have cA14 : SA oz_E7clsl_1 A A14 := SA_trans (cAu13) (SA_gluc (ι := oz_E7clsl_2) oz_E7cls_4 hA14 eA14 (by decide +kernel)) (any_subA (lₚ := [1, 3, 4, 5, 6, 7, 8]) (by decide +kernel))
  have mA14 := SAm_of cA14 oz_E7cls_3
  exact w_ret rfl (k _ _ _ H O (cF14) (cA14) (0) (((show F14 0 0 = (updF F 0 0 (0)) 0 0 from (eF14 0 0).trans (hS14 0 0 rfl)))) (w14_7) ((eA14 1).trans ew14_7) (upd1 (A12 2) (a1) (1)) ((show A14 2 = (updA A12 2 (a1) (1)) 2 from (eA14 2).trans (funext (hA14 1 rfl)))) (w14_2) ((eA14 3).trans ew14_2) (w14_3) ((eA14 4).trans ew14_3) (w14_4) ((eA14 5).trans ew14_4) (w14_6) ((eA14 7).trans ew14_6) (w14_8) ((eA14 8).trans ew14_8) (show SL ((upd1 (A12 2) (a1) (1))) ((u0_1)) ((0)) ((w14_2)) ((w14_3)) ((w14_4)) ((w14_7)) ((w14_6)) ((w14_8)) from pz14_0) (show (0) = 0 by first | exact q_64 | omega))
abbrev V181_Row : vV := [(0, 8, [(0, 0), (0, 0), (4, 0), (4, 0), (4, 0), (4, 0), (4, 0), (4, 0), (4, 0), (4, 0), (4, 0), (0, 0), (0, 0)]), (0, 7, [(4, 0), (0, 0), (1, 0), (0, 0), (0, 0)]), (1, 1, []), (1, 0, [])]
theorem len_V181_Row_oz_E7cls : (V181_Row).length = 4 := by decide +kernel
theorem oz_E7cls_6 : vsub V181_Row V164 [1, 3] = true := by decide +kernel
theorem oz_E7cls_7 : vsub V181_Row V165 [1, 3] = true := by decide +kernel
theorem oz_E7cls_8 : vsub V181_Row V182 [0, 2] = true := by decide +kernel
def oz_E7clsl_3 : List (Nat × Nat) := [(1, 1), (1, 2), (1, 3), (1, 4)]
theorem oz_E7cls_9 : (oz_E7clsl_3).all (fun p => !tbz 128849018880 (Nat.add (Nat.mul 32 p.1) p.2)) = true := by decide +kernel
def oz_E7clsl_4 : List Nat := [3]
theorem oz_E7cls_10 : (oz_E7clsl_4).all (fun p => !tbz 8 p) = true := by decide +kernel
def oz_E7clsl_5 : List Nat := [1, 3]
theorem oz_E7cls_11 : okc oz_E7clsl_5 1537 = true := by decide +kernel
def oz_E7clsl_6 : List Nat := [0, 2]
theorem oz_E7cls_12 : okc oz_E7clsl_6 1024 = true := by decide +kernel
set_option maxHeartbeats 16000000 in
/-- Share.tell: this, #1, this.points, #1.bytes -/
theorem C181_Row {σE : rS} {D N : Nat → Nat} {F : hF} {A : hA} {d c s : Nat} {Q : wQ} (H : HW V181_Row σE D N F A)  (pf2 : F 0 2 = (D 2 : Int)) (pf3 : F 1 0 = (D 3 : Int)) (n2 : Int) (en2 : (N 2 : Int) = n2) (n3 : Int) (en3 : (N 3 : Int) = n3) (u0_0 : Int) (eu0_0 : F 0 0 = u0_0) (u0_1 : Int) (eu0_1 : F 0 1 = u0_1) (u1_1 : Int) (eu1_1 : F 1 1 = u1_1) (u1_4 : Int) (eu1_4 : F 1 4 = u1_4) (w2 : Int → Int) (ew2 : A 2 = w2) (h0 : SHD ((w2)) ((u0_1)) ((u0_0))) (h1 : 5 ≤ ((u0_0))) (h2 : (n2) = ((u0_1))) (h3 : 0 ≤ (u1_1) ∧ (u1_1) ≤ (n3) ∧ (n3) ≤ 65536) (h4 : 0 ≤ (u1_4) ∧ (u1_4) ≤ 7) (k : ∀ (σ : rS) (Fₚ : hF) (Aₚ : hA), HW V181_Row σ D N Fₚ Aₚ → OUT (V181_Row).length D N σE c s D N σ c s → SF [(1, 1), (1, 2), (1, 3), (1, 4)] F Fₚ → SA [3] A Aₚ → ∀ y1_1 : Int, Fₚ 1 1 = y1_1 → ∀ y1_4 : Int, Fₚ 1 4 = y1_4 → (0 ≤ (y1_1) ∧ (y1_1) ≤ (n3) ∧ (n3) ≤ 65536) → ((y1_4) = 0) → ((u1_1) ≤ (y1_1)) → Q none σ c s) : Ew 181 (d + 1) 0 (rargs 0 [.ref (D 0), .ref (D 1)]) [] σE c s Q := by
  have O := OUT_refl (n := (V181_Row).length) (D := D) (N := N) (σ := σE) (c := c) (s := s)
  have HE := H
  have r1 : (-2147483648 : Int) ≤ u0_0 ∧ u0_0 ≤ 2147483647 := rngE (show (-2147483648 : Int) ≤ F 0 0 ∧ F 0 0 ≤ 2147483647 from H.krg 0 0 (ltn len_V181_Row_oz_E7cls rfl)) (show F 0 0 = u0_0 from (eu0_0))
  have r2 : (-2147483648 : Int) ≤ u0_1 ∧ u0_1 ≤ 2147483647 := rngE (show (-2147483648 : Int) ≤ F 0 1 ∧ F 0 1 ≤ 2147483647 from H.krg 0 1 (ltn len_V181_Row_oz_E7cls rfl)) (show F 0 1 = u0_1 from (eu0_1))
  have r3 : (-2147483648 : Int) ≤ u1_1 ∧ u1_1 ≤ 2147483647 := rngE (show (-2147483648 : Int) ≤ F 1 1 ∧ F 1 1 ≤ 2147483647 from H.krg 1 1 (ltn len_V181_Row_oz_E7cls rfl)) (show F 1 1 = u1_1 from (eu1_1))
  have r4 : (-2147483648 : Int) ≤ u1_4 ∧ u1_4 ≤ 2147483647 := rngE (show (-2147483648 : Int) ≤ F 1 4 ∧ F 1 4 ≤ 2147483647 from H.krg 1 4 (ltn len_V181_Row_oz_E7cls rfl)) (show F 1 4 = u1_4 from (eu1_4))
  have r5 : (0 : Int) ≤ n2 ∧ n2 ≤ 1000000 := nleE (H.nle 2 (ltn len_V181_Row_oz_E7cls rfl)) (show (N 2 : Int) = n2 from en2)
  have r6 : (0 : Int) ≤ n3 ∧ n3 ≤ 1000000 := nleE (H.nle 3 (ltn len_V181_Row_oz_E7cls rfl)) (show (N 3 : Int) = n3 from en3)
  have hS : SHD ((w2)) ((u0_1)) ((u0_0)) := h0
  have hf := SHD_f hS
  refine Ew_of (pcₚ := 1) (fun _ => x_aload_n rfl rfl) ?_
  refine Ew_of (pcₚ := 2) (fun _ => x_aload_n rfl rfl) ?_
  refine v_g H (o := 0) (v := I (u0_0)) rfl rfl rfl rfl rfl (congrArg (fun z : Int => I z) ((eu0_0) : F 0 0 = u0_0)) ?_
  refine Ew_of (pcₚ := 6) (fun _ => x_iconst rfl) ?_
  refine w_isub rfl ?_
  refine Ew_of (pcₚ := 8) (fun _ => x_iconst rfl) ?_
  refine v_inv H (o := 1) rfl rfl rfl rfl rfl rfl (by rfl) (C164 (D := puc 1537 D) (N := puc 1537 N) (HW_subc H oz_E7cls_6 oz_E7cls_11) (pf3) (n3) (en3) (u1_1) ((eu1_1)) (u1_4) ((eu1_4)) (show inr ((u0_0 - 5)) from q_3244 h1 r1) (show inr (4) from q_2) (show 0 ≤ (u1_1) ∧ (u1_1) ≤ (n3) ∧ (n3) ≤ 65536 from h3) (show 0 ≤ (4) ∧ (4) ≤ 31 from q_2158) (show 0 ≤ (u1_4) ∧ (u1_4) ≤ 7 from h4) (fun σ7 F7ₚ A7ₚ Hₚ Oₚ hS7 hA7 y7_0_1 ey7_0_1 y7_0_4 ey7_0_4 pz7_0 pz7_1 pz7_2 => ⟨rfl, ?_⟩))
  refine v_backc (c := c) (s := s) H oz_E7cls_6 oz_E7cls_11 Hₚ Oₚ (fun F7 A7 H Oₚ eF7 eA7 => ?_)
  have O := OUT_trans O Oₚ
  -- Row.addBits
  have cF7 : SF oz_E7clsl_3 F F7 := SF_trans (SF_refl) (SF_gluc (ι := oz_E7clsl_5) oz_E7cls_11 hS7 eF7 (by decide +kernel)) (any_sub (lₚ := [(1, 1), (1, 2), (1, 3), (1, 4)]) (by decide +kernel))
  have mF7 := SFm_of cF7 oz_E7cls_9
  have cA7 : SA oz_E7clsl_4 A A7 := SA_trans (SA_refl) (SA_gluc (ι := oz_E7clsl_5) oz_E7cls_11 hA7 eA7 (by decide +kernel)) (any_subA (lₚ := [3]) (by decide +kernel))
  have mA7 := SAm_of cA7 oz_E7cls_10
  have r8 : (-2147483648 : Int) ≤ y7_0_1 ∧ y7_0_1 ≤ 2147483647 := rngE (show (-2147483648 : Int) ≤ F7 1 1 ∧ F7 1 1 ≤ 2147483647 from H.krg 1 1 (ltn len_V181_Row_oz_E7cls rfl)) (show F7 1 1 = y7_0_1 from ((eF7 1 1).trans ey7_0_1))
  have r9 : (-2147483648 : Int) ≤ y7_0_4 ∧ y7_0_4 ≤ 2147483647 := rngE (show (-2147483648 : Int) ≤ F7 1 4 ∧ F7 1 4 ≤ 2147483647 from H.krg 1 4 (ltn len_V181_Row_oz_E7cls rfl)) (show F7 1 4 = y7_0_4 from ((eF7 1 4).trans ey7_0_4))
  refine Ew_of (pcₚ := 12) (fun _ => x_iconst rfl) ?_
  refine Ew_of (pcₚ := 13) (fun _ => x_aload_n rfl rfl) ?_
  refine v_g H (o := 0) (v := I (u0_0)) rfl rfl rfl rfl rfl (congrArg (fun z : Int => I z) (((mF7 0 0 rfl).trans (eu0_0)) : F7 0 0 = u0_0)) ?_
  refine w_ishl1 rfl (show 0 ≤ u0_0 ∧ u0_0 ≤ 31 by omega) ?_
  refine Ew_of (pcₚ := 18) (fun _ => x_istore_n rfl) ?_
  refine Ew_of (pcₚ := 19) (fun _ => x_aload_n rfl (rk_o (rfl) rfl rfl)) ?_
  refine v_g H (o := 0) (v := I (u0_0)) rfl rfl rfl rfl rfl (congrArg (fun z : Int => I z) (((mF7 0 0 rfl).trans (eu0_0)) : F7 0 0 = u0_0)) ?_
  refine Ew_of (pcₚ := 23) (fun _ => x_istore_n rfl) ?_
  refine Ew_of (pcₚ := 24) (fun _ => x_iconst rfl) ?_
  refine Ew_of (pcₚ := 26) (fun _ => x_istore rfl) ?_
  have : mp ((w2)) 0 = 0 := rfl
  suffices hl26 : ∀ (m : Nat), ∀ (ls : rO) (σ : rS) (F_26 : hF) (A_26 : hA) (x26_2 : Int) (x26_3 : Int) (x26_4 : Int), rlook ls 0 = some (.ref (D 0)) → rlook ls 1 = some (.ref (D 1)) → rlook ls 2 = some (I (x26_2)) → rlook ls 3 = some (I (x26_3)) → rlook ls 4 = some (I (x26_4)) → HW V181_Row σ D N F_26 A_26 → OUT (V181_Row).length D N σE c s D N σ c s → SF [(1, 1), (1, 2), (1, 3), (1, 4)] F7 F_26 → SA [3] A7 A_26 → ∀ y26_1_1 : Int, F_26 1 1 = y26_1_1 → ∀ y26_1_4 : Int, F_26 1 4 = y26_1_4 → (inr (x26_2)) → (inr (x26_3)) → (inr (x26_4)) → (0 ≤ (x26_4) ∧ (x26_4) ≤ ((u0_1))) → ((x26_2) = p2 ((u0_0)) - mp ((w2)) (x26_4)) → (0 ≤ (x26_3) ∧ (x26_3) ≤ ((u0_0))) → (0 ≤ (y26_1_1) ∧ (y26_1_1) ≤ (n3) ∧ (n3) ≤ 65536) → (0 ≤ (y26_1_4) ∧ (y26_1_4) ≤ 7) → ((u1_1) ≤ (y26_1_1)) → (((u0_1)) - (x26_4)).toNat = m → Ew 181 (d + 1) 26 ls [] σ c s Q from
    hl26 _ _ _ _ _ (p2 (u0_0)) (u0_0) (0) (rk_o (rk_o (rk_o (rfl) rfl rfl) rfl rfl) rfl rfl) (rk_o (rk_o (rk_o (rfl) rfl rfl) rfl rfl) rfl rfl) (rk_o (rk_o (rk_s) rfl rfl) rfl rfl) (rk_o (rk_s) rfl rfl) (rk_s) H O (SF_refl) (SA_refl)   (y7_0_1) (((eF7 1 1).trans ey7_0_1)) (y7_0_4) (((eF7 1 4).trans ey7_0_4))  (show inr (p2 (u0_0)) by omega) (show inr (u0_0) from q_3247 h1 r1) (show inr (0) from q_20) (show 0 ≤ (0) ∧ (0) ≤ ((u0_1)) from q_3246 h2 r5) (show (p2 (u0_0)) = p2 ((u0_0)) - mp ((w2)) (0) by omega) (show 0 ≤ (u0_0) ∧ (u0_0) ≤ ((u0_0)) from q_3245 h1) (show 0 ≤ (y7_0_1) ∧ (y7_0_1) ≤ (n3) ∧ (n3) ≤ 65536 from pz7_0) (show 0 ≤ (y7_0_4) ∧ (y7_0_4) ≤ 7 from pz7_2) (show (u1_1) ≤ (y7_0_1) from pz7_1) rfl
  as_aux_lemma =>
  intro m
  induction m using Nat.strongRecOn with
  | _ m ih26 =>
    intro ls σ F_26 A_26 x26_2 x26_3 x26_4 l26_0 l26_1 l26_2 l26_3 l26_4 H O hS_26 hA_26   y26_1_1 ey26_1_1 y26_1_4 ey26_1_4  j26_0 j26_1 j26_2 j26_3 j26_4 j26_5 j26_6 j26_7 j26_8 hm26
    have cF_26 : SF oz_E7clsl_3 F F_26 := SF_trans (cF7) hS_26 (any_sub (by decide +kernel))
    have mF_26 := SFm_of cF_26 oz_E7cls_9
    have cA_26 : SA oz_E7clsl_4 A A_26 := SA_trans (cA7) hA_26 (any_subA (by decide +kernel))
    have mA_26 := SAm_of cA_26 oz_E7cls_10
    have r11 : (-2147483648 : Int) ≤ y26_1_1 ∧ y26_1_1 ≤ 2147483647 := rngE (show (-2147483648 : Int) ≤ F_26 1 1 ∧ F_26 1 1 ≤ 2147483647 from H.krg 1 1 (ltn len_V181_Row_oz_E7cls rfl)) (show F_26 1 1 = y26_1_1 from (ey26_1_1))
    have r12 : (-2147483648 : Int) ≤ y26_1_4 ∧ y26_1_4 ≤ 2147483647 := rngE (show (-2147483648 : Int) ≤ F_26 1 4 ∧ F_26 1 4 ≤ 2147483647 from H.krg 1 4 (ltn len_V181_Row_oz_E7cls rfl)) (show F_26 1 4 = y26_1_4 from (ey26_1_4))
    refine Ew_of (pcₚ := 28) (fun _ => x_iload rfl l26_4) ?_
    refine Ew_of (pcₚ := 29) (fun _ => x_aload_n rfl l26_0) ?_
    refine v_g H (o := 0) (v := I (u0_1)) rfl rfl rfl rfl rfl (congrArg (fun z : Int => I z) (((mF_26 0 1 rfl).trans (eu0_1)) : F_26 0 1 = u0_1)) ?_
    refine w_icmpge (t := 202) rfl rfl (show inr (x26_4) from j26_2) (show inr (u0_1) from q_3248 j26_3 r2) (fun b13 => ?_) (fun b13 => ?_)
    · refine Ew_of (pcₚ := 203) (fun _ => x_aload_n rfl l26_1) ?_
      refine v_inv H (o := 1) rfl rfl rfl rfl rfl rfl (by rfl) (C165h (D := puc 1537 D) (N := puc 1537 N) (HW_subc H oz_E7cls_7 oz_E7cls_11) ((mF_26 1 0 rfl).trans (pf3)) (n3) (en3) (y26_1_1) ((ey26_1_1)) (y26_1_4) ((ey26_1_4)) (show 0 ≤ (y26_1_1) ∧ (y26_1_1) ≤ (n3) ∧ (n3) ≤ 65536 from j26_6) (fun σ14 F14ₚ A14ₚ Hₚ Oₚ hS14 hA14 y14_0_1 ey14_0_1 y14_0_4 ey14_0_4 pz14_0 pz14_1 => ⟨rfl, ?_⟩))
      refine v_backc (c := c) (s := s) H oz_E7cls_7 oz_E7cls_11 Hₚ Oₚ (fun F14 A14 H Oₚ eF14 eA14 => ?_)
      have O := OUT_trans O Oₚ
      -- Row.endBits
      have cF14 : SF oz_E7clsl_3 F F14 := SF_trans (cF_26) (SF_gluc (ι := oz_E7clsl_5) oz_E7cls_11 hS14 eF14 (by decide +kernel)) (any_sub (lₚ := [(1, 1), (1, 2), (1, 3), (1, 4)]) (by decide +kernel))
      have mF14 := SFm_of cF14 oz_E7cls_9
      have cA14 : SA oz_E7clsl_4 A A14 := SA_trans (cA_26) (SA_gluc (ι := oz_E7clsl_5) oz_E7cls_11 hA14 eA14 (by decide +kernel)) (any_subA (lₚ := [3]) (by decide +kernel))
      have mA14 := SAm_of cA14 oz_E7cls_10
      have r15 : (-2147483648 : Int) ≤ y14_0_1 ∧ y14_0_1 ≤ 2147483647 := rngE (show (-2147483648 : Int) ≤ F14 1 1 ∧ F14 1 1 ≤ 2147483647 from H.krg 1 1 (ltn len_V181_Row_oz_E7cls rfl)) (show F14 1 1 = y14_0_1 from ((eF14 1 1).trans ey14_0_1))
      have r16 : (-2147483648 : Int) ≤ y14_0_4 ∧ y14_0_4 ≤ 2147483647 := rngE (show (-2147483648 : Int) ≤ F14 1 4 ∧ F14 1 4 ≤ 2147483647 from H.krg 1 4 (ltn len_V181_Row_oz_E7cls rfl)) (show F14 1 4 = y14_0_4 from ((eF14 1 4).trans ey14_0_4))
      exact w_ret rfl (k _ _ _ H O (cF14) (cA14) (y14_0_1) (((eF14 1 1).trans ey14_0_1)) (y14_0_4) (((eF14 1 4).trans ey14_0_4)) (show 0 ≤ (y14_0_1) ∧ (y14_0_1) ≤ (n3) ∧ (n3) ≤ 65536 from pz14_0) (show (y14_0_4) = 0 from q_3250 pz14_1) (show (u1_1) ≤ (y14_0_1) from q_3249 j26_8 pz14_1))
    · refine Ew_of (pcₚ := 36) (fun _ => x_iload_n rfl l26_2) ?_
      refine w_ifle (t := 202) rfl rfl (show inr (x26_2) from j26_0) (fun b17 => ?_) (fun b17 => ?_)
      · refine Ew_of (pcₚ := 203) (fun _ => x_aload_n rfl l26_1) ?_
        refine v_inv H (o := 1) rfl rfl rfl rfl rfl rfl (by rfl) (C165h (D := puc 1537 D) (N := puc 1537 N) (HW_subc H oz_E7cls_7 oz_E7cls_11) ((mF_26 1 0 rfl).trans (pf3)) (n3) (en3) (y26_1_1) ((ey26_1_1)) (y26_1_4) ((ey26_1_4)) (show 0 ≤ (y26_1_1) ∧ (y26_1_1) ≤ (n3) ∧ (n3) ≤ 65536 from j26_6) (fun σ18 F18ₚ A18ₚ Hₚ Oₚ hS18 hA18 y18_0_1 ey18_0_1 y18_0_4 ey18_0_4 pz18_0 pz18_1 => ⟨rfl, ?_⟩))
        refine v_backc (c := c) (s := s) H oz_E7cls_7 oz_E7cls_11 Hₚ Oₚ (fun F18 A18 H Oₚ eF18 eA18 => ?_)
        have O := OUT_trans O Oₚ
        -- Row.endBits
        have cF18 : SF oz_E7clsl_3 F F18 := SF_trans (cF_26) (SF_gluc (ι := oz_E7clsl_5) oz_E7cls_11 hS18 eF18 (by decide +kernel)) (any_sub (lₚ := [(1, 1), (1, 2), (1, 3), (1, 4)]) (by decide +kernel))
        have mF18 := SFm_of cF18 oz_E7cls_9
        have cA18 : SA oz_E7clsl_4 A A18 := SA_trans (cA_26) (SA_gluc (ι := oz_E7clsl_5) oz_E7cls_11 hA18 eA18 (by decide +kernel)) (any_subA (lₚ := [3]) (by decide +kernel))
        have mA18 := SAm_of cA18 oz_E7cls_10
        have r19 : (-2147483648 : Int) ≤ y18_0_1 ∧ y18_0_1 ≤ 2147483647 := rngE (show (-2147483648 : Int) ≤ F18 1 1 ∧ F18 1 1 ≤ 2147483647 from H.krg 1 1 (ltn len_V181_Row_oz_E7cls rfl)) (show F18 1 1 = y18_0_1 from ((eF18 1 1).trans ey18_0_1))
        have r20 : (-2147483648 : Int) ≤ y18_0_4 ∧ y18_0_4 ≤ 2147483647 := rngE (show (-2147483648 : Int) ≤ F18 1 4 ∧ F18 1 4 ≤ 2147483647 from H.krg 1 4 (ltn len_V181_Row_oz_E7cls rfl)) (show F18 1 4 = y18_0_4 from ((eF18 1 4).trans ey18_0_4))
        exact w_ret rfl (k _ _ _ H O (cF18) (cA18) (y18_0_1) (((eF18 1 1).trans ey18_0_1)) (y18_0_4) (((eF18 1 4).trans ey18_0_4)) (show 0 ≤ (y18_0_1) ∧ (y18_0_1) ≤ (n3) ∧ (n3) ≤ 65536 from pz18_0) (show (y18_0_4) = 0 from q_3250 pz18_1) (show (u1_1) ≤ (y18_0_1) from q_3249 j26_8 pz18_1))
      · suffices hl39 : ∀ (m : Nat), ∀ (ls : rO) (σ : rS) (F_39 : hF) (A_39 : hA) (x39_3 : Int), rlook ls 0 = some (.ref (D 0)) → rlook ls 1 = some (.ref (D 1)) → rlook ls 2 = some (I (x26_2)) → rlook ls 3 = some (I (x39_3)) → rlook ls 4 = some (I (x26_4)) → HW V181_Row σ D N F_39 A_39 → OUT (V181_Row).length D N σE c s D N σ c s → SF [] F_26 F_39 → SA [] A_26 A_39 → (inr (x39_3)) → (0 ≤ (x39_3) ∧ (x39_3) ≤ ((u0_0))) → ((x39_3)).toNat = m → Ew 181 (d + 1) 39 ls [] σ c s Q from
          hl39 _ _ _ _ _ (x26_3) (l26_0) (l26_1) (l26_2) (l26_3) (l26_4) H O (SF_refl) (SA_refl)     (show inr (x26_3) from j26_1) (show 0 ≤ (x26_3) ∧ (x26_3) ≤ ((u0_0)) from j26_5) rfl
        as_aux_lemma =>
        intro m
        induction m using Nat.strongRecOn with
        | _ m ih39 =>
          intro ls σ F_39 A_39 x39_3 l39_0 l39_1 l39_2 l39_3 l39_4 H O hS_39 hA_39     j39_0 j39_1 hm39
          have cF_39 : SF oz_E7clsl_3 F F_39 := SF_trans (cF_26) hS_39 (any_sub (by decide +kernel))
          have mF_39 := SFm_of cF_39 oz_E7cls_9
          have cA_39 : SA oz_E7clsl_4 A A_39 := SA_trans (cA_26) hA_39 (any_subA (by decide +kernel))
          have mA_39 := SAm_of cA_39 oz_E7cls_10
          refine Ew_of (pcₚ := 40) (fun _ => x_iload_n rfl l39_3) ?_
          have hc58 : ∀ (ls : rO) (σ : rS) (F_c58 : hF) (A_c58 : hA) , rlook ls 0 = some (.ref (D 0)) → rlook ls 1 = some (.ref (D 1)) → rlook ls 2 = some (I (x26_2)) → rlook ls 3 = some (I (x39_3)) → rlook ls 4 = some (I (x26_4)) → HW V181_Row σ D N F_c58 A_c58 → OUT (V181_Row).length D N σE c s D N σ c s → SF [] F_39 F_c58 → SA [] A_39 A_c58 → (((x39_3) ≤ (0)) ∨ ((x39_3) > (0) ∧ ((x26_2 + 1)) ≥ (p2 (x39_3)))) → Ew 181 (d + 1) 58 ls [] σ c s Q := by
           as_aux_lemma =>
            intro  ls σ F_c58 A_c58  lc58_0 lc58_1 lc58_2 lc58_3 lc58_4 H O hS_c58 hA_c58     jc58_0
            have cF_c58 : SF oz_E7clsl_3 F F_c58 := SF_trans (cF_39) hS_c58 (any_sub (by decide +kernel))
            have mF_c58 := SFm_of cF_c58 oz_E7cls_9
            have cA_c58 : SA oz_E7clsl_4 A A_c58 := SA_trans (cA_39) hA_c58 (any_subA (by decide +kernel))
            have mA_c58 := SAm_of cA_c58 oz_E7cls_10
            have hat := SHD_at hS (s := (x26_4)) (by omega) (by omega)
            have hpw := p2_le9 (o := (x39_3)) (by omega)
            have hpp := p2_pos ((x39_3))
            have hms := mass_eq (((w2)) (x26_4))
            refine Ew_of (pcₚ := 59) (fun _ => x_aload_n rfl lc58_0) ?_
            refine v_g H (o := 0) (v := .ref (D 2)) rfl rfl rfl rfl rfl (vrf ((mF_c58 0 2 rfl).trans (pf2))) ?_
            refine Ew_of (pcₚ := 64) (fun _ => x_iload rfl lc58_4) ?_
            refine v_lI H (o := 2) rfl rfl rfl rfl (n := n2) (en2) (show 0 ≤ x26_4 ∧ x26_4 < n2 from q_3251 b13 h2 j26_3) (fun v21 ev21 qv21 => ?_)
            have ev21 : (w2) (x26_4) = v21 := (congrFun ((funext (mA_c58 2 rfl)).trans (ew2)) (x26_4)).symm.trans ev21
            refine Ew_of (pcₚ := 66) (fun _ => x_iconst rfl) ?_
            refine w_iadd rfl ?_
            refine Ew_of (pcₚ := 69) (fun _ => x_istore rfl) ?_
            refine Ew_of (pcₚ := 70) (fun _ => x_iconst rfl) ?_
            refine Ew_of (pcₚ := 71) (fun _ => x_iload_n rfl (rk_o (lc58_3) rfl rfl)) ?_
            refine w_ishlT rfl (show 0 ≤ x39_3 ∧ x39_3 ≤ 31 by omega) ?_
            refine Ew_of (pcₚ := 73) (fun _ => x_iconst rfl) ?_
            refine w_isub rfl ?_
            refine Ew_of (pcₚ := 75) (fun _ => x_iload_n rfl (rk_o (lc58_2) rfl rfl)) ?_
            refine w_isub rfl ?_
            refine Ew_of (pcₚ := 78) (fun _ => x_istore rfl) ?_
            refine Ew_of (pcₚ := 79) (fun _ => x_aload_n rfl (rk_o (rk_o (lc58_1) rfl rfl) rfl rfl)) ?_
            refine Ew_of (pcₚ := 81) (fun _ => x_iload rfl (rk_o (rk_s) rfl rfl)) ?_
            refine Ew_of (pcₚ := 82) (fun _ => x_iconst rfl) ?_
            refine Ew_of (pcₚ := 83) (fun _ => x_iload_n rfl (rk_o (rk_o (lc58_3) rfl rfl) rfl rfl)) ?_
            refine w_ishl1 rfl (show 0 ≤ x39_3 ∧ x39_3 ≤ 31 by omega) ?_
            have hc97 : ∀ (tc97_0 : Int), ∀ (ls : rO) (σ : rS) (F_c97 : hF) (A_c97 : hA) , rlook ls 0 = some (.ref (D 0)) → rlook ls 1 = some (.ref (D 1)) → rlook ls 2 = some (I (x26_2)) → rlook ls 3 = some (I (x39_3)) → rlook ls 4 = some (I (x26_4)) → rlook ls 5 = some (I ((v21 + 1))) → rlook ls 6 = some (I ((((2 * p2 (x39_3)) - 2) - x26_2))) → HW V181_Row σ D N F_c97 A_c97 → OUT (V181_Row).length D N σE c s D N σ c s → SF [] F_c58 F_c97 → SA [] A_c58 A_c97 → (inr (tc97_0)) → ((((v21 + 1)) < (p2 (x39_3)) ∧ (tc97_0) = ((v21 + 1))) ∨ (((v21 + 1)) ≥ (p2 (x39_3)) ∧ (tc97_0) = (((v21 + 1) + (((2 * p2 (x39_3)) - 2) - x26_2))))) → Ew 181 (d + 1) 97 ls [I (tc97_0), .ref (D 1)] σ c s Q := by
             as_aux_lemma =>
              intro tc97_0 ls σ F_c97 A_c97  lc97_0 lc97_1 lc97_2 lc97_3 lc97_4 lc97_5 lc97_6 H O hS_c97 hA_c97     jc97_0 jc97_1
              have cF_c97 : SF oz_E7clsl_3 F F_c97 := SF_trans (cF_c58) hS_c97 (any_sub (by decide +kernel))
              have mF_c97 := SFm_of cF_c97 oz_E7cls_9
              have cA_c97 : SA oz_E7clsl_4 A A_c97 := SA_trans (cA_c58) hA_c97 (any_subA (by decide +kernel))
              have mA_c97 := SAm_of cA_c97 oz_E7cls_10
              refine Ew_of (pcₚ := 99) (fun _ => x_iload rfl lc97_5) ?_
              refine Ew_of (pcₚ := 101) (fun _ => x_iload rfl lc97_6) ?_
              have hc111 : ∀ (tc111_0 : Int), ∀ (ls : rO) (σ : rS) (F_c111 : hF) (A_c111 : hA) , rlook ls 0 = some (.ref (D 0)) → rlook ls 1 = some (.ref (D 1)) → rlook ls 2 = some (I (x26_2)) → rlook ls 3 = some (I (x39_3)) → rlook ls 4 = some (I (x26_4)) → HW V181_Row σ D N F_c111 A_c111 → OUT (V181_Row).length D N σE c s D N σ c s → SF [] F_c97 F_c111 → SA [] A_c97 A_c111 → (inr (tc111_0)) → ((((v21 + 1)) ≥ ((((2 * p2 (x39_3)) - 2) - x26_2)) ∧ (tc111_0) = ((x39_3 + 1))) ∨ (((v21 + 1)) < ((((2 * p2 (x39_3)) - 2) - x26_2)) ∧ (tc111_0) = (x39_3))) → Ew 181 (d + 1) 111 ls [I (tc111_0), I (tc97_0), .ref (D 1)] σ c s Q := by
               as_aux_lemma =>
                intro tc111_0 ls σ F_c111 A_c111  lc111_0 lc111_1 lc111_2 lc111_3 lc111_4 H O hS_c111 hA_c111     jc111_0 jc111_1
                have cF_c111 : SF oz_E7clsl_3 F F_c111 := SF_trans (cF_c97) hS_c111 (any_sub (by decide +kernel))
                have mF_c111 := SFm_of cF_c111 oz_E7cls_9
                have cA_c111 : SA oz_E7clsl_4 A A_c111 := SA_trans (cA_c97) hA_c111 (any_subA (by decide +kernel))
                have mA_c111 := SAm_of cA_c111 oz_E7cls_10
                refine v_inv H (o := 1) rfl rfl rfl rfl rfl rfl (by rfl) (C164 (D := puc 1537 D) (N := puc 1537 N) (HW_subc H oz_E7cls_6 oz_E7cls_11) ((mF_c111 1 0 rfl).trans (pf3)) (n3) (en3) (y26_1_1) ((((((hS_c111 1 1 rfl).trans (hS_c97 1 1 rfl)).trans (hS_c58 1 1 rfl)).trans (hS_39 1 1 rfl)).trans (ey26_1_1))) (y26_1_4) ((((((hS_c111 1 4 rfl).trans (hS_c97 1 4 rfl)).trans (hS_c58 1 4 rfl)).trans (hS_39 1 4 rfl)).trans (ey26_1_4))) (show inr (tc97_0) from jc97_0) (show inr (tc111_0) from jc111_0) (show 0 ≤ (y26_1_1) ∧ (y26_1_1) ≤ (n3) ∧ (n3) ≤ 65536 from j26_6) (show 0 ≤ (tc111_0) ∧ (tc111_0) ≤ 31 by omega) (show 0 ≤ (y26_1_4) ∧ (y26_1_4) ≤ 7 from j26_7) (fun σ24 F24ₚ A24ₚ Hₚ Oₚ hS24 hA24 y24_0_1 ey24_0_1 y24_0_4 ey24_0_4 pz24_0 pz24_1 pz24_2 => ⟨rfl, ?_⟩))
                refine v_backc (c := c) (s := s) H oz_E7cls_6 oz_E7cls_11 Hₚ Oₚ (fun F24 A24 H Oₚ eF24 eA24 => ?_)
                have O := OUT_trans O Oₚ
                -- Row.addBits
                have cF24 : SF oz_E7clsl_3 F F24 := SF_trans (cF_c111) (SF_gluc (ι := oz_E7clsl_5) oz_E7cls_11 hS24 eF24 (by decide +kernel)) (any_sub (lₚ := [(1, 1), (1, 2), (1, 3), (1, 4)]) (by decide +kernel))
                have mF24 := SFm_of cF24 oz_E7cls_9
                have cA24 : SA oz_E7clsl_4 A A24 := SA_trans (cA_c111) (SA_gluc (ι := oz_E7clsl_5) oz_E7cls_11 hA24 eA24 (by decide +kernel)) (any_subA (lₚ := [3]) (by decide +kernel))
                have mA24 := SAm_of cA24 oz_E7cls_10
                have r25 : (-2147483648 : Int) ≤ y24_0_1 ∧ y24_0_1 ≤ 2147483647 := rngE (show (-2147483648 : Int) ≤ F24 1 1 ∧ F24 1 1 ≤ 2147483647 from H.krg 1 1 (ltn len_V181_Row_oz_E7cls rfl)) (show F24 1 1 = y24_0_1 from ((eF24 1 1).trans ey24_0_1))
                have r26 : (-2147483648 : Int) ≤ y24_0_4 ∧ y24_0_4 ≤ 2147483647 := rngE (show (-2147483648 : Int) ≤ F24 1 4 ∧ F24 1 4 ≤ 2147483647 from H.krg 1 4 (ltn len_V181_Row_oz_E7cls rfl)) (show F24 1 4 = y24_0_4 from ((eF24 1 4).trans ey24_0_4))
                refine Ew_of (pcₚ := 115) (fun _ => x_iload_n rfl lc111_2) ?_
                refine Ew_of (pcₚ := 116) (fun _ => x_aload_n rfl lc111_0) ?_
                refine v_g H (o := 0) (v := .ref (D 2)) rfl rfl rfl rfl rfl (vrf ((mF24 0 2 rfl).trans (pf2))) ?_
                refine Ew_of (pcₚ := 121) (fun _ => x_iload rfl lc111_4) ?_
                refine v_lI H (o := 2) rfl rfl rfl rfl (n := n2) (en2) (show 0 ≤ x26_4 ∧ x26_4 < n2 from q_3251 b13 h2 j26_3) (fun v27 ev27 qv27 => ?_)
                have ev27 : (w2) (x26_4) = v27 := (congrFun ((funext (mA24 2 rfl)).trans (ew2)) (x26_4)).symm.trans ev27
                have hc136 : ∀ (tc136_0 : Int), ∀ (ls : rO) (σ : rS) (F_c136 : hF) (A_c136 : hA) , rlook ls 0 = some (.ref (D 0)) → rlook ls 1 = some (.ref (D 1)) → rlook ls 3 = some (I (x39_3)) → rlook ls 4 = some (I (x26_4)) → HW V181_Row σ D N F_c136 A_c136 → OUT (V181_Row).length D N σE c s D N σ c s → SF [] F24 F_c136 → SA [] A24 A_c136 → (inr (tc136_0)) → (((v27) ≥ (0) ∧ -2147483648 ≤ ((w2) (x26_4)) ∧ ((w2) (x26_4)) ≤ 2147483647 ∧ (tc136_0) = ((w2) (x26_4))) ∨ ((v27) < (0) ∧ (tc136_0) = (1))) → Ew 181 (d + 1) 136 ls [I (tc136_0), I (x26_2)] σ c s Q := by
                 as_aux_lemma =>
                  intro tc136_0 ls σ F_c136 A_c136  lc136_0 lc136_1 lc136_3 lc136_4 H O hS_c136 hA_c136     jc136_0 jc136_1
                  have cF_c136 : SF oz_E7clsl_3 F F_c136 := SF_trans (cF24) hS_c136 (any_sub (by decide +kernel))
                  have mF_c136 := SFm_of cF_c136 oz_E7cls_9
                  have cA_c136 : SA oz_E7clsl_4 A A_c136 := SA_trans (cA24) hA_c136 (any_subA (by decide +kernel))
                  have mA_c136 := SAm_of cA_c136 oz_E7cls_10
                  have hq : ((tc136_0) : Int) = mass (((w2)) (x26_4)) := by omega
                  refine w_isub rfl ?_
                  refine Ew_of (pcₚ := 138) (fun _ => x_istore_n rfl) ?_
                  refine Ew_of (pcₚ := 139) (fun _ => x_aload_n rfl (rk_o (lc136_0) rfl rfl)) ?_
                  refine v_g H (o := 0) (v := .ref (D 2)) rfl rfl rfl rfl rfl (vrf ((mF_c136 0 2 rfl).trans (pf2))) ?_
                  refine Ew_of (pcₚ := 144) (fun _ => x_iload rfl (rk_o (lc136_4) rfl rfl)) ?_
                  refine v_lI H (o := 2) rfl rfl rfl rfl (n := n2) (en2) (show 0 ≤ x26_4 ∧ x26_4 < n2 from q_3251 b13 h2 j26_3) (fun v28 ev28 qv28 => ?_)
                  have ev28 : (w2) (x26_4) = v28 := (congrFun ((funext (mA_c136 2 rfl)).trans (ew2)) (x26_4)).symm.trans ev28
                  refine w_ifne (t := 196) rfl rfl (show inr (v28) from qv28) (fun b29 => ?_) (fun b29 => ?_)
                  · refine Ew_of (pcₚ := 199) (fun _ => x_iinc (len := 3) rfl (rk_o (lc136_4) rfl rfl)) ?_
                    refine Ew_of (pcₚ := 26) (fun _ => x_goto rfl rfl) ?_
                    exact ih26 _ (msE hm26 q_31 (q_34 b13)) _ _ _ _ ((x26_2 - tc136_0)) (x39_3) ((x26_4 + 1)) (rk_o (rk_o (lc136_0) rfl rfl) rfl rfl) (rk_o (rk_o (lc136_1) rfl rfl) rfl rfl) (rk_o (rk_s) rfl rfl) (rk_o (rk_o (lc136_3) rfl rfl) rfl rfl) (rk_s) H O (SF_trans (SF_trans (SF_trans (SF_trans (SF_trans (SF_trans (hS_26) hS_39 (any_sub (by decide +kernel))) hS_c58 (any_sub (by decide +kernel))) hS_c97 (any_sub (by decide +kernel))) hS_c111 (any_sub (by decide +kernel))) (SF_gluc (ι := oz_E7clsl_5) oz_E7cls_11 hS24 eF24 (by decide +kernel)) (any_sub (lₚ := [(1, 1), (1, 2), (1, 3), (1, 4)]) (by decide +kernel))) hS_c136 (any_sub (by decide +kernel))) (SA_trans (SA_trans (SA_trans (SA_trans (SA_trans (SA_trans (hA_26) hA_39 (any_subA (by decide +kernel))) hA_c58 (any_subA (by decide +kernel))) hA_c97 (any_subA (by decide +kernel))) hA_c111 (any_subA (by decide +kernel))) (SA_gluc (ι := oz_E7clsl_5) oz_E7cls_11 hA24 eA24 (by decide +kernel)) (any_subA (lₚ := [3]) (by decide +kernel))) hA_c136 (any_subA (by decide +kernel)))   (y24_0_1) (((hS_c136 1 1 rfl).trans ((eF24 1 1).trans ey24_0_1))) (y24_0_4) (((hS_c136 1 4 rfl).trans ((eF24 1 4).trans ey24_0_4)))  (show inr ((x26_2 - tc136_0)) from q_3253 b17 ev27 j26_0 jc136_0 jc136_1) (show inr (x39_3) from j39_0) (show inr ((x26_4 + 1)) from q_3252 b13 h2 j26_3 r5) (show 0 ≤ ((x26_4 + 1)) ∧ ((x26_4 + 1)) ≤ ((u0_1)) from q_1144 b13 j26_3) (show ((x26_2 - tc136_0)) = p2 ((u0_0)) - mp ((w2)) ((x26_4 + 1)) by omega) (show 0 ≤ (x39_3) ∧ (x39_3) ≤ ((u0_0)) from j39_1) (show 0 ≤ (y24_0_1) ∧ (y24_0_1) ≤ (n3) ∧ (n3) ≤ 65536 from pz24_0) (show 0 ≤ (y24_0_4) ∧ (y24_0_4) ≤ 7 from pz24_2) (show (u1_1) ≤ (y24_0_1) from q_1975 j26_8 pz24_1) rfl
                  · refine Ew_of (pcₚ := 149) (fun _ => x_aload_n rfl (rk_o (lc136_0) rfl rfl)) ?_
                    refine Ew_of (pcₚ := 151) (fun _ => x_iload rfl (rk_o (lc136_4) rfl rfl)) ?_
                    refine v_inv H (o := 0) rfl rfl rfl rfl rfl rfl (by rfl) (C182 (D := puc 1024 D) (N := puc 1024 N) (HW_subc H oz_E7cls_8 oz_E7cls_12) ((mF_c136 0 2 rfl).trans (pf2)) (n2) (en2) (u0_1) (((mF_c136 0 1 rfl).trans (eu0_1))) (w2) ((funext (mA_c136 2 rfl)).trans (ew2)) (show inr (x26_4) from j26_2) (show (n2) = ((u0_1)) from h2) (show 0 ≤ (x26_4) ∧ (x26_4) < ((u0_1)) from q_2113 b13 j26_3) (show 1 ≤ ((u0_1)) ∧ ((u0_1)) ≤ 64 by omega) (fun z30 σ30 F30ₚ A30ₚ Hₚ Oₚ hS30 hA30 pz30_0 pz30_1 pz30_2 => ⟨rfl, ?_⟩))
                    refine v_backc (c := c) (s := s) H oz_E7cls_8 oz_E7cls_12 Hₚ Oₚ (fun F30 A30 H Oₚ eF30 eA30 => ?_)
                    have O := OUT_trans O Oₚ
                    -- Share.zerosBehind
                    have cF30 : SF oz_E7clsl_3 F F30 := SF_trans (cF_c136) (SF_gluc (ι := oz_E7clsl_6) oz_E7cls_12 hS30 eF30 (by decide +kernel)) (any_sub (lₚ := []) (by decide +kernel))
                    have mF30 := SFm_of cF30 oz_E7cls_9
                    have cA30 : SA oz_E7clsl_4 A A30 := SA_trans (cA_c136) (SA_gluc (ι := oz_E7clsl_6) oz_E7cls_12 hA30 eA30 (by decide +kernel)) (any_subA (lₚ := []) (by decide +kernel))
                    have mA30 := SAm_of cA30 oz_E7cls_10
                    have hzr := pz30_2
                    refine Ew_of (pcₚ := 156) (fun _ => x_istore rfl) ?_
                    refine Ew_of (pcₚ := 157) (fun _ => x_iconst rfl) ?_
                    refine Ew_of (pcₚ := 159) (fun _ => x_istore rfl) ?_
                    suffices hl159 : ∀ (m : Nat), ∀ (ls : rO) (σ : rS) (F_159 : hF) (A_159 : hA) (x159_8 : Int), rlook ls 0 = some (.ref (D 0)) → rlook ls 1 = some (.ref (D 1)) → rlook ls 2 = some (I ((x26_2 - tc136_0))) → rlook ls 3 = some (I (x39_3)) → rlook ls 4 = some (I (x26_4)) → rlook ls 7 = some (I (z30)) → rlook ls 8 = some (I (x159_8)) → HW V181_Row σ D N F_159 A_159 → OUT (V181_Row).length D N σE c s D N σ c s → SF [(1, 1), (1, 2), (1, 3), (1, 4)] F30 F_159 → SA [3] A30 A_159 → ∀ y159_1_1 : Int, F_159 1 1 = y159_1_1 → ∀ y159_1_4 : Int, F_159 1 4 = y159_1_4 → (inr (x159_8)) → (0 ≤ (x159_8)) → (0 ≤ (y159_1_1) ∧ (y159_1_1) ≤ (n3) ∧ (n3) ≤ 65536) → (0 ≤ (y159_1_4) ∧ (y159_1_4) ≤ 7) → ((u1_1) ≤ (y159_1_1)) → ((z30) / 3 - (x159_8)).toNat = m → Ew 181 (d + 1) 159 ls [] σ c s Q from
                      hl159 _ _ _ _ _ (0) (rk_o (rk_o (rk_o (lc136_0) rfl rfl) rfl rfl) rfl rfl) (rk_o (rk_o (rk_o (lc136_1) rfl rfl) rfl rfl) rfl rfl) (rk_o (rk_o (rk_s) rfl rfl) rfl rfl) (rk_o (rk_o (rk_o (lc136_3) rfl rfl) rfl rfl) rfl rfl) (rk_o (rk_o (rk_o (lc136_4) rfl rfl) rfl rfl) rfl rfl) (rk_o (rk_s) rfl rfl) (rk_s) H O (SF_refl) (SA_refl)   (y24_0_1) (((((show F30 1 1 = F_c136 1 1 from (eF30 1 1))).trans (hS_c136 1 1 rfl)).trans ((eF24 1 1).trans ey24_0_1))) (y24_0_4) (((((show F30 1 4 = F_c136 1 4 from (eF30 1 4))).trans (hS_c136 1 4 rfl)).trans ((eF24 1 4).trans ey24_0_4)))  (show inr (0) from q_20) (show 0 ≤ (0) from q_25) (show 0 ≤ (y24_0_1) ∧ (y24_0_1) ≤ (n3) ∧ (n3) ≤ 65536 from pz24_0) (show 0 ≤ (y24_0_4) ∧ (y24_0_4) ≤ 7 from pz24_2) (show (u1_1) ≤ (y24_0_1) from q_1975 j26_8 pz24_1) rfl
                    as_aux_lemma =>
                    intro m
                    induction m using Nat.strongRecOn with
                    | _ m ih159 =>
                      intro ls σ F_159 A_159 x159_8 l159_0 l159_1 l159_2 l159_3 l159_4 l159_7 l159_8 H O hS_159 hA_159   y159_1_1 ey159_1_1 y159_1_4 ey159_1_4  j159_0 j159_1 j159_2 j159_3 j159_4 hm159
                      have cF_159 : SF oz_E7clsl_3 F F_159 := SF_trans (cF30) hS_159 (any_sub (by decide +kernel))
                      have mF_159 := SFm_of cF_159 oz_E7cls_9
                      have cA_159 : SA oz_E7clsl_4 A A_159 := SA_trans (cA30) hA_159 (any_subA (by decide +kernel))
                      have mA_159 := SAm_of cA_159 oz_E7cls_10
                      have r31 : (-2147483648 : Int) ≤ y159_1_1 ∧ y159_1_1 ≤ 2147483647 := rngE (show (-2147483648 : Int) ≤ F_159 1 1 ∧ F_159 1 1 ≤ 2147483647 from H.krg 1 1 (ltn len_V181_Row_oz_E7cls rfl)) (show F_159 1 1 = y159_1_1 from (ey159_1_1))
                      have r32 : (-2147483648 : Int) ≤ y159_1_4 ∧ y159_1_4 ≤ 2147483647 := rngE (show (-2147483648 : Int) ≤ F_159 1 4 ∧ F_159 1 4 ≤ 2147483647 from H.krg 1 4 (ltn len_V181_Row_oz_E7cls rfl)) (show F_159 1 4 = y159_1_4 from (ey159_1_4))
                      refine Ew_of (pcₚ := 161) (fun _ => x_iload rfl l159_8) ?_
                      refine Ew_of (pcₚ := 163) (fun _ => x_iload rfl l159_7) ?_
                      refine Ew_of (pcₚ := 164) (fun _ => x_iconst rfl) ?_
                      refine w_idiv rfl (show inr (z30) ∧ 0 ≤ z30 from q_3255 pz30_0 pz30_1) (show inr (3) ∧ 0 < 3 from q_3254) ?_
                      refine w_icmpge (t := 180) rfl rfl (show inr (x159_8) from j159_0) (show inr ((z30 / 3)) from q_3256 pz30_0 pz30_1) (fun b33 => ?_) (fun b33 => ?_)
                      · refine Ew_of (pcₚ := 181) (fun _ => x_aload_n rfl l159_1) ?_
                        refine Ew_of (pcₚ := 183) (fun _ => x_iload rfl l159_7) ?_
                        refine Ew_of (pcₚ := 184) (fun _ => x_iconst rfl) ?_
                        refine w_irem rfl (show inr (z30) ∧ 0 ≤ z30 from q_3255 pz30_0 pz30_1) (show inr (3) ∧ 0 < 3 from q_3254) ?_
                        refine Ew_of (pcₚ := 186) (fun _ => x_iconst rfl) ?_
                        refine v_inv H (o := 1) rfl rfl rfl rfl rfl rfl (by rfl) (C164 (D := puc 1537 D) (N := puc 1537 N) (HW_subc H oz_E7cls_6 oz_E7cls_11) ((mF_159 1 0 rfl).trans (pf3)) (n3) (en3) (y159_1_1) ((ey159_1_1)) (y159_1_4) ((ey159_1_4)) (show inr ((z30 % 3)) from q_3257) (show inr (2) from q_55) (show 0 ≤ (y159_1_1) ∧ (y159_1_1) ≤ (n3) ∧ (n3) ≤ 65536 from j159_2) (show 0 ≤ (2) ∧ (2) ≤ 31 from q_2171) (show 0 ≤ (y159_1_4) ∧ (y159_1_4) ≤ 7 from j159_3) (fun σ34 F34ₚ A34ₚ Hₚ Oₚ hS34 hA34 y34_0_1 ey34_0_1 y34_0_4 ey34_0_4 pz34_0 pz34_1 pz34_2 => ⟨rfl, ?_⟩))
                        refine v_backc (c := c) (s := s) H oz_E7cls_6 oz_E7cls_11 Hₚ Oₚ (fun F34 A34 H Oₚ eF34 eA34 => ?_)
                        have O := OUT_trans O Oₚ
                        -- Row.addBits
                        have cF34 : SF oz_E7clsl_3 F F34 := SF_trans (cF_159) (SF_gluc (ι := oz_E7clsl_5) oz_E7cls_11 hS34 eF34 (by decide +kernel)) (any_sub (lₚ := [(1, 1), (1, 2), (1, 3), (1, 4)]) (by decide +kernel))
                        have mF34 := SFm_of cF34 oz_E7cls_9
                        have cA34 : SA oz_E7clsl_4 A A34 := SA_trans (cA_159) (SA_gluc (ι := oz_E7clsl_5) oz_E7cls_11 hA34 eA34 (by decide +kernel)) (any_subA (lₚ := [3]) (by decide +kernel))
                        have mA34 := SAm_of cA34 oz_E7cls_10
                        have r35 : (-2147483648 : Int) ≤ y34_0_1 ∧ y34_0_1 ≤ 2147483647 := rngE (show (-2147483648 : Int) ≤ F34 1 1 ∧ F34 1 1 ≤ 2147483647 from H.krg 1 1 (ltn len_V181_Row_oz_E7cls rfl)) (show F34 1 1 = y34_0_1 from ((eF34 1 1).trans ey34_0_1))
                        have r36 : (-2147483648 : Int) ≤ y34_0_4 ∧ y34_0_4 ≤ 2147483647 := rngE (show (-2147483648 : Int) ≤ F34 1 4 ∧ F34 1 4 ≤ 2147483647 from H.krg 1 4 (ltn len_V181_Row_oz_E7cls rfl)) (show F34 1 4 = y34_0_4 from ((eF34 1 4).trans ey34_0_4))
                        have hmz := mp_zeroI (P := ((w2))) (s := (x26_4) + 1) (z := (z30)) (t := (x26_4) + (z30) + 1) (by omega) (by omega) (fun j qa qb => hzr j (by omega) (by omega)) (by omega)
                        refine Ew_of (pcₚ := 191) (fun _ => x_iload rfl l159_4) ?_
                        refine Ew_of (pcₚ := 193) (fun _ => x_iload rfl l159_7) ?_
                        refine w_iadd rfl ?_
                        refine Ew_of (pcₚ := 196) (fun _ => x_istore rfl) ?_
                        refine Ew_of (pcₚ := 199) (fun _ => x_iinc (len := 3) rfl (rk_s)) ?_
                        refine Ew_of (pcₚ := 26) (fun _ => x_goto rfl rfl) ?_
                        exact ih26 _ (msE hm26 (q_3260 pz30_1) (q_34 b13)) _ _ _ _ ((x26_2 - tc136_0)) (x39_3) (((x26_4 + z30) + 1)) (rk_o (rk_o (l159_0) rfl rfl) rfl rfl) (rk_o (rk_o (l159_1) rfl rfl) rfl rfl) (rk_o (rk_o (l159_2) rfl rfl) rfl rfl) (rk_o (rk_o (l159_3) rfl rfl) rfl rfl) (rk_s) H O (SF_trans (SF_trans (SF_trans (SF_trans (SF_trans (SF_trans (SF_trans (SF_trans (SF_trans (hS_26) hS_39 (any_sub (by decide +kernel))) hS_c58 (any_sub (by decide +kernel))) hS_c97 (any_sub (by decide +kernel))) hS_c111 (any_sub (by decide +kernel))) (SF_gluc (ι := oz_E7clsl_5) oz_E7cls_11 hS24 eF24 (by decide +kernel)) (any_sub (lₚ := [(1, 1), (1, 2), (1, 3), (1, 4)]) (by decide +kernel))) hS_c136 (any_sub (by decide +kernel))) (SF_gluc (ι := oz_E7clsl_6) oz_E7cls_12 hS30 eF30 (by decide +kernel)) (any_sub (lₚ := []) (by decide +kernel))) hS_159 (any_sub (by decide +kernel))) (SF_gluc (ι := oz_E7clsl_5) oz_E7cls_11 hS34 eF34 (by decide +kernel)) (any_sub (lₚ := [(1, 1), (1, 2), (1, 3), (1, 4)]) (by decide +kernel))) (SA_trans (SA_trans (SA_trans (SA_trans (SA_trans (SA_trans (SA_trans (SA_trans (SA_trans (hA_26) hA_39 (any_subA (by decide +kernel))) hA_c58 (any_subA (by decide +kernel))) hA_c97 (any_subA (by decide +kernel))) hA_c111 (any_subA (by decide +kernel))) (SA_gluc (ι := oz_E7clsl_5) oz_E7cls_11 hA24 eA24 (by decide +kernel)) (any_subA (lₚ := [3]) (by decide +kernel))) hA_c136 (any_subA (by decide +kernel))) (SA_gluc (ι := oz_E7clsl_6) oz_E7cls_12 hA30 eA30 (by decide +kernel)) (any_subA (lₚ := []) (by decide +kernel))) hA_159 (any_subA (by decide +kernel))) (SA_gluc (ι := oz_E7clsl_5) oz_E7cls_11 hA34 eA34 (by decide +kernel)) (any_subA (lₚ := [3]) (by decide +kernel)))   (y34_0_1) (((eF34 1 1).trans ey34_0_1)) (y34_0_4) (((eF34 1 4).trans ey34_0_4))  (show inr ((x26_2 - tc136_0)) from q_3253 b17 ev27 j26_0 jc136_0 jc136_1) (show inr (x39_3) from j39_0) (show inr (((x26_4 + z30) + 1)) from q_3259 j26_3 pz30_1 r2) (show 0 ≤ (((x26_4 + z30) + 1)) ∧ (((x26_4 + z30) + 1)) ≤ ((u0_1)) from q_3258 j26_3 pz30_1) (show ((x26_2 - tc136_0)) = p2 ((u0_0)) - mp ((w2)) (((x26_4 + z30) + 1)) by omega) (show 0 ≤ (x39_3) ∧ (x39_3) ≤ ((u0_0)) from j39_1) (show 0 ≤ (y34_0_1) ∧ (y34_0_1) ≤ (n3) ∧ (n3) ≤ 65536 from pz34_0) (show 0 ≤ (y34_0_4) ∧ (y34_0_4) ≤ 7 from pz34_2) (show (u1_1) ≤ (y34_0_1) from q_1975 j159_4 pz34_1) rfl
                      · refine Ew_of (pcₚ := 169) (fun _ => x_aload_n rfl l159_1) ?_
                        refine Ew_of (pcₚ := 170) (fun _ => x_iconst rfl) ?_
                        refine Ew_of (pcₚ := 171) (fun _ => x_iconst rfl) ?_
                        refine v_inv H (o := 1) rfl rfl rfl rfl rfl rfl (by rfl) (C164 (D := puc 1537 D) (N := puc 1537 N) (HW_subc H oz_E7cls_6 oz_E7cls_11) ((mF_159 1 0 rfl).trans (pf3)) (n3) (en3) (y159_1_1) ((ey159_1_1)) (y159_1_4) ((ey159_1_4)) (show inr (3) from q_66) (show inr (2) from q_55) (show 0 ≤ (y159_1_1) ∧ (y159_1_1) ≤ (n3) ∧ (n3) ≤ 65536 from j159_2) (show 0 ≤ (2) ∧ (2) ≤ 31 from q_2171) (show 0 ≤ (y159_1_4) ∧ (y159_1_4) ≤ 7 from j159_3) (fun σ37 F37ₚ A37ₚ Hₚ Oₚ hS37 hA37 y37_0_1 ey37_0_1 y37_0_4 ey37_0_4 pz37_0 pz37_1 pz37_2 => ⟨rfl, ?_⟩))
                        refine v_backc (c := c) (s := s) H oz_E7cls_6 oz_E7cls_11 Hₚ Oₚ (fun F37 A37 H Oₚ eF37 eA37 => ?_)
                        have O := OUT_trans O Oₚ
                        -- Row.addBits
                        have cF37 : SF oz_E7clsl_3 F F37 := SF_trans (cF_159) (SF_gluc (ι := oz_E7clsl_5) oz_E7cls_11 hS37 eF37 (by decide +kernel)) (any_sub (lₚ := [(1, 1), (1, 2), (1, 3), (1, 4)]) (by decide +kernel))
                        have mF37 := SFm_of cF37 oz_E7cls_9
                        have cA37 : SA oz_E7clsl_4 A A37 := SA_trans (cA_159) (SA_gluc (ι := oz_E7clsl_5) oz_E7cls_11 hA37 eA37 (by decide +kernel)) (any_subA (lₚ := [3]) (by decide +kernel))
                        have mA37 := SAm_of cA37 oz_E7cls_10
                        have r38 : (-2147483648 : Int) ≤ y37_0_1 ∧ y37_0_1 ≤ 2147483647 := rngE (show (-2147483648 : Int) ≤ F37 1 1 ∧ F37 1 1 ≤ 2147483647 from H.krg 1 1 (ltn len_V181_Row_oz_E7cls rfl)) (show F37 1 1 = y37_0_1 from ((eF37 1 1).trans ey37_0_1))
                        have r39 : (-2147483648 : Int) ≤ y37_0_4 ∧ y37_0_4 ≤ 2147483647 := rngE (show (-2147483648 : Int) ≤ F37 1 4 ∧ F37 1 4 ≤ 2147483647 from H.krg 1 4 (ltn len_V181_Row_oz_E7cls rfl)) (show F37 1 4 = y37_0_4 from ((eF37 1 4).trans ey37_0_4))
                        refine Ew_of (pcₚ := 177) (fun _ => x_iinc (len := 3) rfl (l159_8)) ?_
                        refine Ew_of (pcₚ := 159) (fun _ => x_goto rfl rfl) ?_
                        exact ih159 _ (msE hm159 q_3261 (q_3262 b33)) _ _ _ _ ((x159_8 + 1)) (rk_o (l159_0) rfl rfl) (rk_o (l159_1) rfl rfl) (rk_o (l159_2) rfl rfl) (rk_o (l159_3) rfl rfl) (rk_o (l159_4) rfl rfl) (rk_o (l159_7) rfl rfl) (rk_s) H O (SF_trans (hS_159) (SF_gluc (ι := oz_E7clsl_5) oz_E7cls_11 hS37 eF37 (by decide +kernel)) (any_sub (lₚ := [(1, 1), (1, 2), (1, 3), (1, 4)]) (by decide +kernel))) (SA_trans (hA_159) (SA_gluc (ι := oz_E7clsl_5) oz_E7cls_11 hA37 eA37 (by decide +kernel)) (any_subA (lₚ := [3]) (by decide +kernel)))   (y37_0_1) (((eF37 1 1).trans ey37_0_1)) (y37_0_4) (((eF37 1 4).trans ey37_0_4))  (show inr ((x159_8 + 1)) by omega) (show 0 ≤ ((x159_8 + 1)) from q_29 j159_1) (show 0 ≤ (y37_0_1) ∧ (y37_0_1) ≤ (n3) ∧ (n3) ≤ 65536 from pz37_0) (show 0 ≤ (y37_0_4) ∧ (y37_0_4) ≤ 7 from pz37_2) (show (u1_1) ≤ (y37_0_1) from q_1975 j159_4 pz37_1) rfl
                refine w_ifge (t := 129) rfl rfl (show inr (v27) from qv27) (fun b40 => ?_) (fun b40 => ?_)
                · refine Ew_of (pcₚ := 130) (fun _ => x_aload_n rfl lc111_0) ?_
                  refine v_g H (o := 0) (v := .ref (D 2)) rfl rfl rfl rfl rfl (vrf ((mF24 0 2 rfl).trans (pf2))) ?_
                  refine Ew_of (pcₚ := 135) (fun _ => x_iload rfl lc111_4) ?_
                  refine v_lI H (o := 2) rfl rfl rfl rfl (n := n2) (en2) (show 0 ≤ x26_4 ∧ x26_4 < n2 from q_3251 b13 h2 j26_3) (fun v41 ev41 qv41 => ?_)
                  have ev41 : (w2) (x26_4) = v41 := (congrFun ((funext (mA24 2 rfl)).trans (ew2)) (x26_4)).symm.trans ev41
                  exact hc136 (v41) _ _ _ _  (lc111_0) (lc111_1) (lc111_3) (lc111_4) H O (SF_refl) (SA_refl)     (show inr (v41) from qv41) (show ((v27) ≥ (0) ∧ -2147483648 ≤ ((w2) (x26_4)) ∧ ((w2) (x26_4)) ≤ 2147483647 ∧ (v41) = ((w2) (x26_4))) ∨ ((v27) < (0) ∧ (v41) = (1)) from q_3115 b40 ev27 ev41 qv41)
                · refine Ew_of (pcₚ := 126) (fun _ => x_iconst rfl) ?_
                  refine Ew_of (pcₚ := 136) (fun _ => x_goto rfl rfl) ?_
                  exact hc136 (1) _ _ _ _  (lc111_0) (lc111_1) (lc111_3) (lc111_4) H O (SF_refl) (SA_refl)     (show inr (1) from q_23) (show ((v27) ≥ (0) ∧ -2147483648 ≤ ((w2) (x26_4)) ∧ ((w2) (x26_4)) ≤ 2147483647 ∧ (1) = ((w2) (x26_4))) ∨ ((v27) < (0) ∧ (1) = (1)) from q_3116 b40)
              refine w_icmpge (t := 108) rfl rfl (show inr ((v21 + 1)) by omega) (show inr ((((2 * p2 (x39_3)) - 2) - x26_2)) by omega) (fun b42 => ?_) (fun b42 => ?_)
              · refine Ew_of (pcₚ := 109) (fun _ => x_iload_n rfl lc97_3) ?_
                refine Ew_of (pcₚ := 110) (fun _ => x_iconst rfl) ?_
                refine w_iadd rfl ?_
                exact hc111 ((x39_3 + 1)) _ _ _ _  (lc97_0) (lc97_1) (lc97_2) (lc97_3) (lc97_4) H O (SF_refl) (SA_refl)     (show inr ((x39_3 + 1)) by omega) (show (((v21 + 1)) ≥ ((((2 * p2 (x39_3)) - 2) - x26_2)) ∧ ((x39_3 + 1)) = ((x39_3 + 1))) ∨ (((v21 + 1)) < ((((2 * p2 (x39_3)) - 2) - x26_2)) ∧ ((x39_3 + 1)) = (x39_3)) from q_2182 b42)
              · refine Ew_of (pcₚ := 105) (fun _ => x_iload_n rfl lc97_3) ?_
                refine Ew_of (pcₚ := 111) (fun _ => x_goto rfl rfl) ?_
                exact hc111 (x39_3) _ _ _ _  (lc97_0) (lc97_1) (lc97_2) (lc97_3) (lc97_4) H O (SF_refl) (SA_refl)     (show inr (x39_3) from j39_0) (show (((v21 + 1)) ≥ ((((2 * p2 (x39_3)) - 2) - x26_2)) ∧ (x39_3) = ((x39_3 + 1))) ∨ (((v21 + 1)) < ((((2 * p2 (x39_3)) - 2) - x26_2)) ∧ (x39_3) = (x39_3)) from q_2184 b42)
            refine w_icmplt (t := 95) rfl rfl (show inr ((v21 + 1)) by omega) (show inr (p2 (x39_3)) by omega) (fun b43 => ?_) (fun b43 => ?_)
            · refine Ew_of (pcₚ := 97) (fun _ => x_iload rfl (rk_o (rk_s) rfl rfl)) ?_
              exact hc97 ((v21 + 1)) _ _ _ _  (rk_o (rk_o (lc58_0) rfl rfl) rfl rfl) (rk_o (rk_o (lc58_1) rfl rfl) rfl rfl) (rk_o (rk_o (lc58_2) rfl rfl) rfl rfl) (rk_o (rk_o (lc58_3) rfl rfl) rfl rfl) (rk_o (rk_o (lc58_4) rfl rfl) rfl rfl) (rk_o (rk_s) rfl rfl) (rk_s) H O (SF_refl) (SA_refl)     (show inr ((v21 + 1)) by omega) (show (((v21 + 1)) < (p2 (x39_3)) ∧ ((v21 + 1)) = ((v21 + 1))) ∨ (((v21 + 1)) ≥ (p2 (x39_3)) ∧ ((v21 + 1)) = (((v21 + 1) + (((2 * p2 (x39_3)) - 2) - x26_2)))) from q_3263 b43)
            · refine Ew_of (pcₚ := 89) (fun _ => x_iload rfl (rk_o (rk_s) rfl rfl)) ?_
              refine Ew_of (pcₚ := 91) (fun _ => x_iload rfl rk_s) ?_
              refine w_iadd rfl ?_
              refine Ew_of (pcₚ := 97) (fun _ => x_goto rfl rfl) ?_
              exact hc97 (((v21 + 1) + (((2 * p2 (x39_3)) - 2) - x26_2))) _ _ _ _  (rk_o (rk_o (lc58_0) rfl rfl) rfl rfl) (rk_o (rk_o (lc58_1) rfl rfl) rfl rfl) (rk_o (rk_o (lc58_2) rfl rfl) rfl rfl) (rk_o (rk_o (lc58_3) rfl rfl) rfl rfl) (rk_o (rk_o (lc58_4) rfl rfl) rfl rfl) (rk_o (rk_s) rfl rfl) (rk_s) H O (SF_refl) (SA_refl)     (show inr (((v21 + 1) + (((2 * p2 (x39_3)) - 2) - x26_2))) by omega) (show (((v21 + 1)) < (p2 (x39_3)) ∧ (((v21 + 1) + (((2 * p2 (x39_3)) - 2) - x26_2))) = ((v21 + 1))) ∨ (((v21 + 1)) ≥ (p2 (x39_3)) ∧ (((v21 + 1) + (((2 * p2 (x39_3)) - 2) - x26_2))) = (((v21 + 1) + (((2 * p2 (x39_3)) - 2) - x26_2)))) from q_3264 b43)
          refine w_ifle (t := 58) rfl rfl (show inr (x39_3) from j39_0) (fun b44 => ?_) (fun b44 => ?_)
          · exact hc58  _ _ _ _  (l39_0) (l39_1) (l39_2) (l39_3) (l39_4) H O (SF_refl) (SA_refl)     (show ((x39_3) ≤ (0)) ∨ ((x39_3) > (0) ∧ ((x26_2 + 1)) ≥ (p2 (x39_3))) from q_3239 b44)
          · have hpwb := p2_le9 (o := (x39_3)) (by omega)
            have hppb := p2_pos ((x39_3))
            have hml := mp_le (P := ((w2))) (s := (x26_4)) (t := ((u0_1))) (by omega) (by omega)
            refine Ew_of (pcₚ := 44) (fun _ => x_iload_n rfl l39_2) ?_
            refine Ew_of (pcₚ := 45) (fun _ => x_iconst rfl) ?_
            refine w_iadd rfl ?_
            refine Ew_of (pcₚ := 47) (fun _ => x_iconst rfl) ?_
            refine Ew_of (pcₚ := 48) (fun _ => x_iload_n rfl l39_3) ?_
            refine w_ishl1 rfl (show 0 ≤ x39_3 ∧ x39_3 ≤ 31 by omega) ?_
            refine w_icmpge (t := 58) rfl rfl (show inr ((x26_2 + 1)) by omega) (show inr (p2 (x39_3)) by omega) (fun b46 => ?_) (fun b46 => ?_)
            · exact hc58  _ _ _ _  (l39_0) (l39_1) (l39_2) (l39_3) (l39_4) H O (SF_refl) (SA_refl)     (show ((x39_3) ≤ (0)) ∨ ((x39_3) > (0) ∧ ((x26_2 + 1)) ≥ (p2 (x39_3))) from q_3240 b44 b46)
            · refine Ew_of (pcₚ := 55) (fun _ => x_iinc (len := 3) rfl (l39_3)) ?_
              refine Ew_of (pcₚ := 39) (fun _ => x_goto rfl rfl) ?_
              exact ih39 _ (msE hm39 q_702 (q_692 b44)) _ _ _ _ ((x39_3 + (-1))) (rk_o (l39_0) rfl rfl) (rk_o (l39_1) rfl rfl) (rk_o (l39_2) rfl rfl) (rk_s) (rk_o (l39_4) rfl rfl) H O (hS_39) (hA_39)     (show inr ((x39_3 + (-1))) from q_315 b44 j39_0) (show 0 ≤ ((x39_3 + (-1))) ∧ ((x39_3 + (-1))) ≤ ((u0_0)) from q_3265 b44 j39_1) rfl
