section
/-! K4.cls -/
theorem len_V168_oz_K4cls : (V168).length = 9 := by decide +kernel
theorem oz_K4cls_1 : vsub V168 V169 [0, 2, 3, 4, 5, 6, 7, 1, 8] = true := by decide +kernel
def oz_K4clsl_0 : List (Nat × Nat) := [(0, 0)]
theorem oz_K4cls_2 : (oz_K4clsl_0).all (fun p => !tbz 1 (Nat.add (Nat.mul 32 p.1) p.2)) = true := by decide +kernel
def oz_K4clsl_1 : List Nat := [1, 2, 3, 4, 5, 6, 7, 8]
theorem oz_K4cls_3 : (oz_K4clsl_1).all (fun p => !tbz 510 p) = true := by decide +kernel
def oz_K4clsl_2 : List Nat := [0, 2, 3, 4, 5, 6, 7, 1, 8]
theorem oz_K4cls_4 : okc oz_K4clsl_2 37788281547233950434304 = true := by decide +kernel

theorem C168p {σE : rS} {D N : Nat → Nat} {F : hF} {A : hA} {d c s : Nat} {Q : wQ} (H : HW V168 σE D N F A) {a1 : Int} (pf1 : HID (F 0 7 = (D 1 : Int))) (pf2 : HID (F 0 2 = (D 2 : Int))) (pf3 : HID (F 0 3 = (D 3 : Int))) (pf4 : HID (F 0 4 = (D 4 : Int))) (pf5 : HID (F 0 5 = (D 5 : Int))) (pf6 : HID (F 0 6 = (D 6 : Int))) (pf7 : HID (F 0 8 = (D 7 : Int))) (pf8 : HID (F 0 9 = (D 8 : Int))) (n1 : Int) (en1 : HID ((N 1 : Int) = n1)) (n2 : Int) (en2 : HID ((N 2 : Int) = n2)) (n3 : Int) (en3 : HID ((N 3 : Int) = n3)) (n4 : Int) (en4 : HID ((N 4 : Int) = n4)) (n5 : Int) (en5 : HID ((N 5 : Int) = n5)) (n6 : Int) (en6 : HID ((N 6 : Int) = n6)) (n7 : Int) (en7 : HID ((N 7 : Int) = n7)) (n8 : Int) (en8 : HID ((N 8 : Int) = n8)) (u0_0 : Int) (eu0_0 : HID (F 0 0 = u0_0)) (u0_1 : Int) (eu0_1 : HID (F 0 1 = u0_1)) (w1 : Int → Int) (ew1 : A 1 = w1) (w2 : Int → Int) (ew2 : A 2 = w2) (w3 : Int → Int) (ew3 : A 3 = w3) (w4 : Int → Int) (ew4 : A 4 = w4) (w5 : Int → Int) (ew5 : A 5 = w5) (w7 : Int → Int) (ew7 : A 7 = w7) (w8 : Int → Int) (ew8 : A 8 = w8) (h0 : inr (a1)) (h1 : (n1) ≥ 1) (h2 : (n2) = (u0_1) ∧ (n3) = (u0_1) ∧ (n4) = (u0_1) ∧ (n5) = (u0_1) ∧ (n6) = (u0_1) ∧ (n7) = (n1) ∧ (n8) = (n1) ∧ 1 ≤ (u0_1) ∧ (u0_1) ≤ 64) (h3 : 0 ≤ (a1) ∧ (a1) < ((u0_1))) (k : ∀ (σ : rS) (Fₚ : hF) (Aₚ : hA), HW V168 σ D N Fₚ Aₚ → OUT (V168).length D N σE c s D N σ c s → SF [(0, 0)] F Fₚ → SA [1, 2, 3, 4, 5, 6, 7, 8] A Aₚ → ∀ y0_0 : Int, Fₚ 0 0 = y0_0 → ∀ v1 : Int → Int, Aₚ 1 = v1 → ∀ v2 : Int → Int, Aₚ 2 = v2 → ∀ v3 : Int → Int, Aₚ 3 = v3 → ∀ v4 : Int → Int, Aₚ 4 = v4 → ∀ v5 : Int → Int, Aₚ 5 = v5 → ∀ v7 : Int → Int, Aₚ 7 = v7 → ∀ v8 : Int → Int, Aₚ 8 = v8 → (SL ((v2)) ((u0_1)) ((y0_0)) ((v3)) ((v4)) ((v5)) ((v1)) ((v7)) ((v8))) → ((y0_0) = 0) → (∀ i, 0 ≤ i → i < ((u0_1)) → ((v2)) i = on0 ((a1)) i) → (((v2)) (a1) ≠ 0) → Q none σ c s) : Ew 168 (d + 1) 0 (rargs 0 [.ref (D 0), I a1]) [] σE c s Q := by
  have O := OUT_refl (n := (V168).length) (D := D) (N := N) (σ := σE) (c := c) (s := s)
  have HE := H
  have r2 : HID ((-2147483648 : Int) ≤ u0_1 ∧ u0_1 ≤ 2147483647) := krg_e (show (-2147483648 : Int) ≤ F 0 1 ∧ F 0 1 ≤ 2147483647 from H.krg 0 1 (ltn len_V168_oz_K4cls rfl)) (show F 0 1 = u0_1 from (eu0_1))
  refine Ew_of (pcₚ := 1) (fun _ => x_aload_n rfl rfl) ?_
  refine Ew_of (pcₚ := 2) (fun _ => x_iconst rfl) ?_
  refine v_p H (o := 0) (z := 0) (v := I (0)) rfl rfl rfl rfl rfl rfl rfl rfl (show (-2147483648 : Int) ≤ 0 ∧ 0 ≤ 2147483647 from q_22) (fun σ H Oₚ => ?_)
  have O := OUT_trans O Oₚ
  have cFu11 : SF oz_K4clsl_0 F (updF F 0 0 (0)) := SF_upd (SF_refl) rfl
  have mFu11 := SFm_of cFu11 oz_K4cls_2
  refine Ew_of (pcₚ := 6) (fun _ => x_aload_n rfl rfl) ?_
  refine v_g H (o := 0) (v := .ref (D 2)) rfl rfl rfl rfl rfl (vrf ((mFu11 0 2 rfl).trans (pf2))) ?_
  refine Ew_of (pcₚ := 10) (fun _ => x_iconst rfl) ?_
  refine v_fil H (t := 2) (v := 0) rfl rfl rfl rfl rfl (show inr (0) from q_2) (fun σ A12 H Oₚ hA12 ga12 => ?_)
  have O := OUT_trans O Oₚ
  have cA12 : SA oz_K4clsl_1 A A12 := SA_trans (SA_refl) hA12 (any_subA (by decide +kernel))
  have mA12 := SAm_of cA12 oz_K4cls_3
  refine Ew_of (pcₚ := 14) (fun _ => x_aload_n rfl rfl) ?_
  refine v_g H (o := 0) (v := .ref (D 2)) rfl rfl rfl rfl rfl (vrf ((mFu11 0 2 rfl).trans (pf2))) ?_
  refine Ew_of (pcₚ := 18) (fun _ => x_iload_n rfl rfl) ?_
  refine Ew_of (pcₚ := 19) (fun _ => x_iconst rfl) ?_
  have hmu := mp_updN (g := ((A12 2))) (n := ((u0_1))) (j := (a1)) (v := 1) (by (have qg0 := HIDe r2; omega)) (by (have qg0 := HIDe r2; omega))
  have hz : mp ((A12 2)) ((u0_1)) = 0 := mp_allz ga12
  have hm0 : mass (((A12 2)) (a1)) = 0 := by rw [ga12 (a1)]; decide
  have hm1 : mass 1 = 1 := by decide
  have hp0 : p2 0 = 1 := by decide
  have hge : GE1 (upd1 ((A12 2)) (a1) 1) ((u0_1)) := GE1_upd (GE1_z ga12) (by decide)
  refine v_sI H (o := 2) (z := 1) rfl rfl rfl rfl (n := n2) (en2) (show 0 ≤ a1 ∧ a1 < n2 from q_3566 h2 h3) (show inr (1) from q_135) (fun σ H Oₚ => ?_)
  have O := OUT_trans O Oₚ
  have cAu13 : SA oz_K4clsl_1 A (updA A12 2 (a1) (1)) := SA_upd (cA12) rfl
  have mAu13 := SAm_of cAu13 oz_K4cls_3
  have hSD : SHD ((upd1 (A12 2) (a1) (1))) ((u0_1)) ((0)) := ⟨.inl rfl, by (have qg0 := HIDe r2; omega), by (have qg0 := HIDe r2; omega), hge, by (have qg0 := HIDe r2; omega)⟩
  have : ∀ i, 0 ≤ i → i < ((u0_1)) → ((upd1 (A12 2) (a1) (1))) i = on0 ((a1)) i := fun i _ _ => by unfold on0; by_cases z : i = (a1); (rw [if_pos z, z, upd1_s]); (rw [if_neg z, upd1_o z]; exact ga12 i)
  have hpo : ((upd1 (A12 2) (a1) (1))) (a1) ≠ 0 := by rw [upd1_s]; decide
  refine Ew_of (pcₚ := 21) (fun _ => x_aload_n rfl rfl) ?_
  refine v_inv H (o := 0) rfl rfl rfl rfl rfl rfl (by rfl) (C169 (D := puc 37788281547233950434304 D) (N := puc 37788281547233950434304 N) (HW_subc H oz_K4cls_1 oz_K4cls_4) ((mFu11 0 2 rfl).trans (pf2)) ((mFu11 0 3 rfl).trans (pf3)) ((mFu11 0 4 rfl).trans (pf4)) ((mFu11 0 5 rfl).trans (pf5)) ((mFu11 0 6 rfl).trans (pf6)) ((mFu11 0 8 rfl).trans (pf7)) ((mFu11 0 7 rfl).trans (pf1)) ((mFu11 0 9 rfl).trans (pf8)) (n2) (en2) (n3) (en3) (n4) (en4) (n5) (en5) (n6) (en6) (n7) (en7) (n1) (en1) (n8) (en8) (0) (rfl) (u0_1) (((mFu11 0 1 rfl).trans (eu0_1))) (upd1 (A12 2) (a1) (1)) (rfl) (w3) ((funext (hA12 3 rfl)).trans (ew3)) (w4) ((funext (hA12 4 rfl)).trans (ew4)) (w5) ((funext (hA12 5 rfl)).trans (ew5)) (w7) ((funext (hA12 7 rfl)).trans (ew7)) (w1) ((funext (hA12 1 rfl)).trans (ew1)) (w8) ((funext (hA12 8 rfl)).trans (ew8)) (hSD) (show (n2) = (u0_1) ∧ (n3) = (u0_1) ∧ (n4) = (u0_1) ∧ (n5) = (u0_1) ∧ (n6) = (u0_1) ∧ (n7) = (n1) ∧ (n8) = (n1) ∧ p2 ((0)) ≤ (n1) from q_3567 h1 h2 hp0) (fun σ14 F14ₚ A14ₚ Hₚ Oₚ hS14 hA14 w14_2 ew14_2 w14_3 ew14_3 w14_4 ew14_4 w14_6 ew14_6 w14_7 ew14_7 w14_8 ew14_8 pz14_0 => ⟨rfl, ?_⟩))
  refine v_backc (c := c) (s := s) H oz_K4cls_1 oz_K4cls_4 Hₚ Oₚ (fun F14 A14 H Oₚ eF14 eA14 => ?_)
  have O := OUT_trans O Oₚ
  -- Share.lay
  have cF14 : SF oz_K4clsl_0 F F14 := SF_trans (cFu11) (SF_gluc (ι := oz_K4clsl_2) oz_K4cls_4 hS14 eF14 (by decide +kernel)) (any_sub (lₚ := []) (by decide +kernel))
  have mF14 := SFm_of cF14 oz_K4cls_2
  have cA14 : SA oz_K4clsl_1 A A14 := SA_trans (cAu13) (SA_gluc (ι := oz_K4clsl_2) oz_K4cls_4 hA14 eA14 (by decide +kernel)) (any_subA (lₚ := [1, 3, 4, 5, 6, 7, 8]) (by decide +kernel))
  have mA14 := SAm_of cA14 oz_K4cls_3
  exact w_ret rfl (k _ _ _ H O (cF14) (cA14) (0) (((show F14 0 0 = (updF F 0 0 (0)) 0 0 from (eF14 0 0).trans (hS14 0 0 rfl)))) (w14_7) ((eA14 1).trans ew14_7) (upd1 (A12 2) (a1) (1)) ((show A14 2 = (updA A12 2 (a1) (1)) 2 from (eA14 2).trans (funext (hA14 1 rfl)))) (w14_2) ((eA14 3).trans ew14_2) (w14_3) ((eA14 4).trans ew14_3) (w14_4) ((eA14 5).trans ew14_4) (w14_6) ((eA14 7).trans ew14_6) (w14_8) ((eA14 8).trans ew14_8) (pz14_0) (show (0) = 0 by first | exact q_34 | omega) (show ∀ i, 0 ≤ i → i < ((u0_1)) → ((upd1 (A12 2) (a1) (1))) i = on0 (a1) i by assumption) (show ((upd1 (A12 2) (a1) (1))) a1 ≠ 0 from hpo))


end
section
/-! L1.cls -/
abbrev V139 : vV := [(0, 6, [(4, 0), (4, 0), (4, 0), (4, 0), (4, 0), (4, 0), (4, 0), (4, 0), (4, 0), (4, 0), (4, 0), (4, 0), (4, 0), (4, 0), (4, 0), (0, 0), (0, 0), (4, 0), (4, 0)]), (0, 5, [(4, 0), (4, 0), (4, 0), (4, 0), (0, 0), (0, 0), (0, 0), (4, 0), (4, 0), (0, 0), (0, 0), (0, 0), (0, 0), (0, 0), (0, 0), (0, 0), (0, 0), (0, 0), (0, 0)]), (0, 7, [(4, 0), (0, 0), (1, 0), (0, 0), (0, 0)]), (1, 0, []), (1, 1, []), (1, 1, []), (1, 1, []), (1, 1, []), (1, 1, []), (1, 1, []), (0, 7, [(4, 0), (0, 0), (1, 0), (0, 0), (0, 0)]), (1, 0, []), (1, 1, [])]
theorem len_V139_oz_L1cls : (V139).length = 13 := by decide +kernel
theorem oz_L1cls_1 : vsub V139 V123 [1, 2, 3, 4, 5] = true := by decide +kernel
theorem oz_L1cls_2 : vmov V139 [1, 2, 3, 4, 5] [3] = true := by decide +kernel
theorem oz_L1cls_3 : vsub V139 V125 [1, 2, 3, 4, 6, 7, 8] = true := by decide +kernel
theorem oz_L1cls_4 : vmov V139 [1, 2, 3, 4, 6, 7, 8] [4, 5, 6] = true := by decide +kernel
theorem oz_L1cls_5 : vsub V139 V156 [10] = true := by decide +kernel
theorem oz_L1cls_6 : vsub V139 V161_Br [10, 3, 11] = true := by decide +kernel
theorem oz_L1cls_7 : vmov V139 [10, 3, 11] [2] = true := by decide +kernel
def oz_L1clsl_0 : List (Nat × Nat) := [(1, 1), (1, 2), (1, 3), (1, 4), (1, 5), (1, 6), (1, 8), (1, 12), (1, 13), (1, 14), (1, 15), (1, 16), (1, 17), (1, 18), (10, 0), (10, 1), (10, 2), (10, 3), (10, 4)]
theorem oz_L1cls_8 : (oz_L1clsl_0).all (fun p => !tbz 66215598113548212554245672891256115552683840193056235868358289842488811499199857052947673000181760 (Nat.add (Nat.mul 32 p.1) p.2)) = true := by decide +kernel
def oz_L1clsl_1 : List Nat := [4, 5, 6, 7, 8, 11, 12]
theorem oz_L1cls_9 : (oz_L1clsl_1).all (fun p => !tbz 6640 p) = true := by decide +kernel
def oz_L1clsl_2 : List Nat := [4, 6, 7, 8, 11]
theorem oz_L1cls_10 : (oz_L1clsl_2).all (fun p => !tbz 2512 p) = true := by decide +kernel
def oz_L1clsl_3 : List Nat := [1, 2, 3, 4, 5]
theorem oz_L1cls_11 : okc oz_L1clsl_3 344135042049 = true := by decide +kernel
def oz_L1clsl_4 : List Nat := [1, 2, 3, 4, 6, 7, 8]
theorem oz_L1cls_12 : okc oz_L1clsl_4 144361891534996481 = true := by decide +kernel
def oz_L1clsl_5 : List Nat := [10]
theorem oz_L1cls_13 : okc oz_L1clsl_5 10 = true := by decide +kernel
def oz_L1clsl_6 : List Nat := [10, 3, 11]
theorem oz_L1cls_14 : okc oz_L1clsl_6 2885130 = true := by decide +kernel
set_option maxHeartbeats 16000000 in
theorem C139 {σE : rS} {D N : Nat → Nat} {F : hF} {A : hA} {d c s : Nat} {Q : wQ} (H : HW V139 σE D N F A) {a1 a2 : Int} (pf1 : HID (F 0 1 = (D 1 : Int))) (pf2 : HID (F 1 0 = (D 2 : Int))) (pf3 : HID (F 2 0 = (D 3 : Int))) (pf4 : HID (F 1 8 = (D 4 : Int))) (pf5 : HID (F 1 7 = (D 5 : Int))) (pf6 : HID (F 1 1 = (D 6 : Int))) (pf7 : HID (F 1 2 = (D 7 : Int))) (pf8 : HID (F 1 3 = (D 8 : Int))) (pf9 : HID (F 0 0 = (D 9 : Int))) (pf10 : HID (F 0 9 = (D 10 : Int))) (pf11 : HID (F 10 0 = (D 11 : Int))) (pf12 : HID (F 0 11 = (D 12 : Int))) (n3 : Int) (en3 : HID ((N 3 : Int) = n3)) (n4 : Int) (en4 : HID ((N 4 : Int) = n4)) (n5 : Int) (en5 : HID ((N 5 : Int) = n5)) (n6 : Int) (en6 : HID ((N 6 : Int) = n6)) (n7 : Int) (en7 : HID ((N 7 : Int) = n7)) (n8 : Int) (en8 : HID ((N 8 : Int) = n8)) (n9 : Int) (en9 : HID ((N 9 : Int) = n9)) (n11 : Int) (en11 : HID ((N 11 : Int) = n11)) (n12 : Int) (en12 : HID ((N 12 : Int) = n12)) (u1_4 : Int) (eu1_4 : HID (F 1 4 = u1_4)) (u1_6 : Int) (eu1_6 : HID (F 1 6 = u1_6)) (u1_9 : Int) (eu1_9 : HID (F 1 9 = u1_9)) (u1_10 : Int) (eu1_10 : HID (F 1 10 = u1_10)) (u1_11 : Int) (eu1_11 : HID (F 1 11 = u1_11)) (u2_1 : Int) (eu2_1 : HID (F 2 1 = u2_1)) (u10_1 : Int) (eu10_1 : HID (F 10 1 = u10_1)) (u10_2 : Int) (eu10_2 : HID (F 10 2 = u10_2)) (w3 : Int → Int) (ew3 : A 3 = w3) (w4 : Int → Int) (ew4 : A 4 = w4) (w5 : Int → Int) (ew5 : A 5 = w5) (w6 : Int → Int) (ew6 : A 6 = w6) (w7 : Int → Int) (ew7 : A 7 = w7) (w8 : Int → Int) (ew8 : A 8 = w8) (w9 : Int → Int) (ew9 : A 9 = w9) (w11 : Int → Int) (ew11 : A 11 = w11) (w12 : Int → Int) (ew12 : A 12 = w12) (h0 : inr (a1)) (h1 : inr (a2)) (h2 : 0 ≤ (u2_1) ∧ (u2_1) ≤ (n3) ∧ (n3) ≤ 65536 ∧ (u2_1) ≤ 16384) (h3 : 1 ≤ (u1_10) ∧ (u1_10) ≤ 8) (h4 : BKI ((w3)) ((w4)) ((u1_10)) ((u1_6))) (h5 : HDI ((w3)) ((w5)) ((u1_10)) ((u1_6))) (h6 : (n5) = 2048) (h7 : 0 ≤ (u1_6) ∧ (u1_6) ≤ (n4) ∧ (n4) ≤ 16384) (h8 : (n6) = (n7) ∧ (n8) = (n7) ∧ (n7) ≤ 65536 ∧ ((n7) = 0 ∨ 64 ≤ (n7)) ∧ lgq ((n7)) = 0) (h9 : (u1_10) = ((w9)) 1) (h10 : 0 ≤ (a1) ∧ (a1) ≤ (a2) ∧ (a2) ≤ (u2_1)) (h11 : (n9) = 10) (h12 : 0 ≤ (u10_1) ∧ (u10_1) ≤ (n11) ∧ (n11) ≤ 65536) (h13 : (n12) = 256) (k : ∀ (σ : rS) (Dₚ Nₚ : Nat → Nat) (Fₚ : hF) (Aₚ : hA) (cₚ sₚ : Nat), HW V139 σ Dₚ Nₚ Fₚ Aₚ → OUT (V139).length D N σE c s Dₚ Nₚ σ cₚ sₚ → SD [4, 6, 7, 8, 11] D Dₚ → SD [4, 6, 7, 8, 11] N Nₚ → SF [(1, 1), (1, 2), (1, 3), (1, 4), (1, 5), (1, 6), (1, 8), (1, 12), (1, 13), (1, 14), (1, 15), (1, 16), (1, 17), (1, 18), (10, 0), (10, 1), (10, 2), (10, 3), (10, 4)] F Fₚ → SA [4, 5, 6, 7, 8, 11, 12] A Aₚ → Fₚ 1 8 = (Dₚ 4 : Int) → Fₚ 1 1 = (Dₚ 6 : Int) → Fₚ 1 2 = (Dₚ 7 : Int) → Fₚ 1 3 = (Dₚ 8 : Int) → Fₚ 10 0 = (Dₚ 11 : Int) → ∀ m4 : Int, (Nₚ 4 : Int) = m4 → ∀ m6 : Int, (Nₚ 6 : Int) = m6 → ∀ m7 : Int, (Nₚ 7 : Int) = m7 → ∀ m8 : Int, (Nₚ 8 : Int) = m8 → ∀ m11 : Int, (Nₚ 11 : Int) = m11 → ∀ y1_4 : Int, Fₚ 1 4 = y1_4 → ∀ y1_6 : Int, Fₚ 1 6 = y1_6 → ∀ y10_1 : Int, Fₚ 10 1 = y10_1 → ∀ y10_2 : Int, Fₚ 10 2 = y10_2 → ∀ v4 : Int → Int, Aₚ 4 = v4 → ∀ v5 : Int → Int, Aₚ 5 = v5 → ∀ v6 : Int → Int, Aₚ 6 = v6 → ∀ v7 : Int → Int, Aₚ 7 = v7 → ∀ v8 : Int → Int, Aₚ 8 = v8 → ∀ v11 : Int → Int, Aₚ 11 = v11 → ∀ v12 : Int → Int, Aₚ 12 = v12 → (0 ≤ (y1_6) ∧ (u1_6) ≤ (y1_6) ∧ (y1_6) ≤ (m4) ∧ (m4) ≤ 16384) → ((m6) = (m7) ∧ (m8) = (m7) ∧ (m7) ≤ 65536 ∧ ((m7) = 0 ∨ 64 ≤ (m7)) ∧ lgq ((m7)) = 0) → (BKI ((w3)) ((v4)) ((u1_10)) ((y1_6))) → (HDI ((w3)) ((v5)) ((u1_10)) ((y1_6))) → (0 ≤ (y1_4) ∧ (y1_4) ≤ (m7) ∧ (y1_4) ≤ (a2) - (a1)) → (DSI ((v8)) ((y1_4))) → (0 ≤ (y10_1) ∧ (y10_1) ≤ (m11) ∧ (m11) ≤ 65536) → (CTN (ub ((v11))) ((v12)) ((y10_1)) 256) → ((y10_2) = 0 ∧ (y10_1) ≤ (a2) - (a1)) → (GOR (MTL ((w3)) ((a2)) ((u1_11)) ((u1_10)) ((u1_9)) ((a2) - (u1_10))) ((w3)) ((a2)) ((a1)) ((v6)) ((v7)) ((v8)) ((y1_4)) ((v11)) ((y10_1))) → Q none σ cₚ sₚ) : Ew 139 (d + 4) 0 (rargs 0 [.ref (D 0), I a1, I a2]) [] σE c s Q := by
  have O := OUT_refl (n := (V139).length) (D := D) (N := N) (σ := σE) (c := c) (s := s)
  have HE := H
  have r3 : HID ((-2147483648 : Int) ≤ u1_9 ∧ u1_9 ≤ 2147483647) := krg_e (show (-2147483648 : Int) ≤ F 1 9 ∧ F 1 9 ≤ 2147483647 from H.krg 1 9 (ltn len_V139_oz_L1cls rfl)) (show F 1 9 = u1_9 from (eu1_9))
  have r4 : HID ((-2147483648 : Int) ≤ u1_10 ∧ u1_10 ≤ 2147483647) := krg_e (show (-2147483648 : Int) ≤ F 1 10 ∧ F 1 10 ≤ 2147483647 from H.krg 1 10 (ltn len_V139_oz_L1cls rfl)) (show F 1 10 = u1_10 from (eu1_10))
  have r5 : HID ((-2147483648 : Int) ≤ u1_11 ∧ u1_11 ≤ 2147483647) := krg_e (show (-2147483648 : Int) ≤ F 1 11 ∧ F 1 11 ≤ 2147483647 from H.krg 1 11 (ltn len_V139_oz_L1cls rfl)) (show F 1 11 = u1_11 from (eu1_11))
  have r9 : HID ((0 : Int) ≤ n3 ∧ n3 ≤ 1000000) := nrng (H.nle 3 (ltn len_V139_oz_L1cls rfl)) (show (N 3 : Int) = n3 from en3)
  have r15 : HID ((0 : Int) ≤ n9 ∧ n9 ≤ 1000000) := nrng (H.nle 9 (ltn len_V139_oz_L1cls rfl)) (show (N 9 : Int) = n9 from en9)
  have r16 : HID ((0 : Int) ≤ n11 ∧ n11 ≤ 1000000) := nrng (H.nle 11 (ltn len_V139_oz_L1cls rfl)) (show (N 11 : Int) = n11 from en11)
  refine Ew_of (pcₚ := 1) (fun _ => x_aload_n rfl rfl) ?_
  refine v_g H (o := 0) (v := .ref (D 1)) rfl rfl rfl rfl rfl (vrf (pf1)) ?_
  refine Ew_of (pcₚ := 5) (fun _ => x_iload_n rfl rfl) ?_
  refine v_inv H (o := 1) rfl rfl rfl rfl rfl rfl (by rfl) (C123 (D := puc 344135042049 D) (N := puc 344135042049 N) (HW_subc H oz_L1cls_1 oz_L1cls_11) (pf2) (pf3) (pf4) (pf5) (n3) (en3) (n4) (en4) (n5) (en5) (u1_6) ((eu1_6)) (u1_10) ((eu1_10)) (u2_1) ((eu2_1)) (w3) (ew3) (w4) (ew4) (w5) (ew5) (show inr (a2) from h1) (show 0 ≤ (u2_1) ∧ (u2_1) ≤ (n3) ∧ (n3) ≤ 65536 ∧ (u2_1) ≤ 16384 from h2) (show 1 ≤ (u1_10) ∧ (u1_10) ≤ 8 from h3) (show 0 ≤ (a2) ∧ (a2) ≤ (u2_1) from q_4387 h10) (h4) (show HDI ((w3)) ((w5)) ((u1_10)) ((u1_6)) by assumption) (show (n5) = 2048 from h6) (show 0 ≤ (u1_6) ∧ (u1_6) ≤ (n4) ∧ (n4) ≤ 16384 from h7) (fun σ18 D18ₚ N18ₚ F18ₚ A18ₚ c18 s18 Hₚ Oₚ hD18 hN18 hS18 hA18 (pm18_3 : HID _) m18_3 (em18_3 : HID _) y18_0_6 (ey18_0_6 : HID _) w18_3 ew18_3 w18_4 ew18_4 pz18_0 pz18_1 pz18_2 pz18_3 pz18_4 => ⟨rfl, ?_⟩))
  refine v_backMc (c := c) (s := s) H oz_L1cls_1 oz_L1cls_11 Hₚ Oₚ hD18 oz_L1cls_2 (fun D18 N18 F18 A18 H Oₚ eD18 eN18 eF18 eA18 => ?_)
  have O := OUT_trans O Oₚ
  -- Finder.lay
  have cF18 : SF oz_L1clsl_0 F F18 := SF_trans (SF_refl) (SF_gluc (ι := oz_L1clsl_3) oz_L1cls_11 hS18 eF18 (by decide +kernel)) (any_sub (lₚ := [(1, 6), (1, 8)]) (by decide +kernel))
  have mF18 := SFm_of cF18 oz_L1cls_8
  have cA18 : SA oz_L1clsl_1 A A18 := SA_trans (SA_refl) (SA_gluc (ι := oz_L1clsl_3) oz_L1cls_11 hA18 eA18 (by decide +kernel)) (any_subA (lₚ := [4, 5]) (by decide +kernel))
  have mA18 := SAm_of cA18 oz_L1cls_9
  have cD18 : SD oz_L1clsl_2 D D18 := SD_trans (SD_refl) (SD_gluc (ι := oz_L1clsl_3) oz_L1cls_11 hD18 eD18 (by decide +kernel)) (any_subA (lₚ := [4]) (by decide +kernel))
  have mD18 := SDm_of cD18 oz_L1cls_10
  have cN18 : SD oz_L1clsl_2 N N18 := SD_trans (SD_refl) (SD_gluc (ι := oz_L1clsl_3) oz_L1cls_11 hN18 eN18 (by decide +kernel)) (any_subA (lₚ := [4]) (by decide +kernel))
  have mN18 := SDm_of cN18 oz_L1cls_10
  have pf18_1_1 : HID (F18 1 1 = (D18 6 : Int)) := ((show F18 1 1 = F 1 1 from (eF18 1 1).trans (hS18 0 1 rfl))).trans ((pf6).trans (congrArg (fun q : Nat => (q : Int)) ((show D18 6 = D 6 from (eD18 6))).symm))
  have pf18_1_2 : HID (F18 1 2 = (D18 7 : Int)) := ((show F18 1 2 = F 1 2 from (eF18 1 2).trans (hS18 0 2 rfl))).trans ((pf7).trans (congrArg (fun q : Nat => (q : Int)) ((show D18 7 = D 7 from (eD18 7))).symm))
  have pf18_1_3 : HID (F18 1 3 = (D18 8 : Int)) := ((show F18 1 3 = F 1 3 from (eF18 1 3).trans (hS18 0 3 rfl))).trans ((pf8).trans (congrArg (fun q : Nat => (q : Int)) ((show D18 8 = D 8 from (eD18 8))).symm))
  have pf18_1_8 : HID (F18 1 8 = (D18 4 : Int)) := (eF18 1 8).trans (pm18_3.trans (congrArg (fun q : Nat => (q : Int)) (eD18 4).symm))
  have pf18_10_0 : HID (F18 10 0 = (D18 11 : Int)) := ((show F18 10 0 = F 10 0 from (eF18 10 0))).trans ((pf11).trans (congrArg (fun q : Nat => (q : Int)) ((show D18 11 = D 11 from (eD18 11))).symm))
  refine Ew_of (pcₚ := 9) (fun _ => x_aload_n rfl rfl) ?_
  refine Ew_stk (congrArg (fun qz : Nat => ([.ref qz] : List Value)) (show D18 0 = D 0 from mD18 0 rfl).symm) ?_
  refine v_g H (o := 0) (v := .ref (D18 1)) rfl rfl rfl rfl rfl (vrf ((mF18 0 1 rfl).trans ((pf1).trans (congrArg (fun q : Nat => (q : Int)) (mD18 1 rfl).symm)))) ?_
  refine Ew_of (pcₚ := 13) (fun _ => x_iload_n rfl rfl) ?_
  refine Ew_of (pcₚ := 14) (fun _ => x_iload_n rfl rfl) ?_
  refine Ew_of (pcₚ := 15) (fun _ => x_iload_n rfl rfl) ?_
  refine Ew_of (pcₚ := 16) (fun _ => x_iload_n rfl rfl) ?_
  refine Ew_of (pcₚ := 17) (fun _ => x_aload_n rfl rfl) ?_
  refine Ew_stk (congrArg (fun qz : Nat => ([.ref qz, I (a2), I (a2), I (a2), I (a1), .ref (D18 1)] : List Value)) (show D18 0 = D 0 from mD18 0 rfl).symm) ?_
  refine v_g H (o := 0) (v := .ref (D18 9)) rfl rfl rfl rfl rfl (vrf ((mF18 0 0 rfl).trans ((pf9).trans (congrArg (fun q : Nat => (q : Int)) (mD18 9 rfl).symm)))) ?_
  refine Ew_of (pcₚ := 21) (fun _ => x_iconst rfl) ?_
  refine v_lI H (o := 9) rfl rfl rfl rfl (n := n9) ((congrArg (fun q : Nat => (q : Int)) (mN18 9 rfl)).trans (en9)) (show 0 ≤ 1 ∧ 1 < n9 from q_4388 (HIDe r15) h11) (fun v21 ev21 (qv21 : HID _) => ?_)
  have ev21 : (w9) (1) = v21 := (congrFun ((funext (mA18 9 rfl)).trans (ew9)) (1)).symm.trans ev21
  have hsl := ev21
  refine w_isub rfl ?_
  obtain ⟨qls, hqls⟩ : ∃ q : Int, q = ((a2 - v21)) := ⟨_, rfl⟩
  have hql2 : qls = (a2) - (u1_10) := by (have qg0 := HIDe r4; omega)
  refine v_inv H (o := 1) rfl rfl rfl rfl rfl rfl (by rfl) (C125 (D := puc 144361891534996481 D18) (N := puc 144361891534996481 N18) (HW_subc H oz_L1cls_3 oz_L1cls_12) ((mF18 1 0 rfl).trans ((pf2).trans (congrArg (fun q : Nat => (q : Int)) (mD18 2 rfl).symm))) ((mF18 2 0 rfl).trans ((pf3).trans (congrArg (fun q : Nat => (q : Int)) (mD18 3 rfl).symm))) (pf18_1_8) (pf18_1_1) (pf18_1_2) (pf18_1_3) (n3) ((congrArg (fun q : Nat => (q : Int)) (mN18 3 rfl)).trans (en3)) (m18_3) ((congrArg (fun q : Nat => (q : Int)) (eN18 4)).trans em18_3) (n6) ((congrArg (fun q : Nat => (q : Int)) (show N18 6 = N 6 from (eN18 6))).trans (en6)) (n7) ((congrArg (fun q : Nat => (q : Int)) (show N18 7 = N 7 from (eN18 7))).trans (en7)) (n8) ((congrArg (fun q : Nat => (q : Int)) (show N18 8 = N 8 from (eN18 8))).trans (en8)) (u1_4) ((((show F18 1 4 = F 1 4 from (eF18 1 4).trans (hS18 0 4 rfl))).trans (eu1_4))) (F 1 5) (((show F18 1 5 = F 1 5 from (eF18 1 5).trans (hS18 0 5 rfl)))) (y18_0_6) (((eF18 1 6).trans ey18_0_6)) (u1_9) (((mF18 1 9 rfl).trans (eu1_9))) (u1_10) (((mF18 1 10 rfl).trans (eu1_10))) (u1_11) (((mF18 1 11 rfl).trans (eu1_11))) (u2_1) (((mF18 2 1 rfl).trans (eu2_1))) (w3) ((funext (mA18 3 rfl)).trans (ew3)) (w18_3) ((eA18 4).trans ew18_3) (w6) (((show A18 6 = A 6 from (eA18 6))).trans (ew6)) (w7) (((show A18 7 = A 7 from (eA18 7))).trans (ew7)) (w8) (((show A18 8 = A 8 from (eA18 8))).trans (ew8)) (show inr (a1) from h0) (show inr (a2) from h1) (show inr (a2) from h1) (show inr ((a2 - v21)) from q_4390 (HIDe qv21) ev21 h10 h9 pz18_0 pz18_1) (show 0 ≤ (u2_1) ∧ (u2_1) ≤ (n3) ∧ (n3) ≤ 65536 ∧ (u2_1) ≤ 16384 from h2) (show 1 ≤ (u1_10) ∧ (u1_10) ≤ 8 from h3) (show 0 ≤ (a1) ∧ (a1) ≤ (a2) ∧ (a2) ≤ (u2_1) from h10) (show (a2) ≤ (a2) ∧ ((a2 - v21)) < (a2) ∧ ((a2 - v21)) < (y18_0_6) from q_4389 ev21 h3 h9 pz18_1) (show 0 ≤ (y18_0_6) ∧ (y18_0_6) ≤ (m18_3) ∧ (m18_3) ≤ 16384 from q_3069 h7 pz18_0) (pz18_3) (show (n6) = (n7) ∧ (n8) = (n7) ∧ (n7) ≤ 65536 ∧ ((n7) = 0 ∨ 64 ≤ (n7)) ∧ lgq ((n7)) = 0 from h8) (fun σ23 D23ₚ N23ₚ F23ₚ A23ₚ c23 s23 Hₚ Oₚ hD23 hN23 hS23 hA23 (pm23_4 : HID _) (pm23_5 : HID _) (pm23_6 : HID _) m23_4 (em23_4 : HID _) m23_5 (em23_5 : HID _) m23_6 (em23_6 : HID _) y23_0_4 (ey23_0_4 : HID _) y23_0_5 (ey23_0_5 : HID _) w23_4 ew23_4 w23_5 ew23_5 w23_6 ew23_6 pz23_0 pz23_1 pz23_2 pz23_3 pz23_4 => ⟨rfl, ?_⟩))
  refine v_backMc (c := (c + c18)) (s := (s + s18)) H oz_L1cls_3 oz_L1cls_12 Hₚ Oₚ hD23 oz_L1cls_4 (fun D23 N23 F23 A23 H Oₚ eD23 eN23 eF23 eA23 => ?_)
  have O := OUT_trans O Oₚ
  -- Finder.go
  have cF23 : SF oz_L1clsl_0 F F23 := SF_trans (cF18) (SF_gluc (ι := oz_L1clsl_4) oz_L1cls_12 hS23 eF23 (by decide +kernel)) (any_sub (lₚ := [(1, 1), (1, 2), (1, 3), (1, 4), (1, 5), (1, 12), (1, 13), (1, 14), (1, 15), (1, 16), (1, 17), (1, 18)]) (by decide +kernel))
  have mF23 := SFm_of cF23 oz_L1cls_8
  have cA23 : SA oz_L1clsl_1 A A23 := SA_trans (cA18) (SA_gluc (ι := oz_L1clsl_4) oz_L1cls_12 hA23 eA23 (by decide +kernel)) (any_subA (lₚ := [6, 7, 8]) (by decide +kernel))
  have mA23 := SAm_of cA23 oz_L1cls_9
  have cD23 : SD oz_L1clsl_2 D D23 := SD_trans (cD18) (SD_gluc (ι := oz_L1clsl_4) oz_L1cls_12 hD23 eD23 (by decide +kernel)) (any_subA (lₚ := [6, 7, 8]) (by decide +kernel))
  have mD23 := SDm_of cD23 oz_L1cls_10
  have cN23 : SD oz_L1clsl_2 N N23 := SD_trans (cN18) (SD_gluc (ι := oz_L1clsl_4) oz_L1cls_12 hN23 eN23 (by decide +kernel)) (any_subA (lₚ := [6, 7, 8]) (by decide +kernel))
  have mN23 := SDm_of cN23 oz_L1cls_10
  have pf23_1_1 : HID (F23 1 1 = (D23 6 : Int)) := (eF23 1 1).trans (pm23_4.trans (congrArg (fun q : Nat => (q : Int)) (eD23 6).symm))
  have pf23_1_2 : HID (F23 1 2 = (D23 7 : Int)) := (eF23 1 2).trans (pm23_5.trans (congrArg (fun q : Nat => (q : Int)) (eD23 7).symm))
  have pf23_1_3 : HID (F23 1 3 = (D23 8 : Int)) := (eF23 1 3).trans (pm23_6.trans (congrArg (fun q : Nat => (q : Int)) (eD23 8).symm))
  have pf23_1_8 : HID (F23 1 8 = (D23 4 : Int)) := ((show F23 1 8 = F18 1 8 from (eF23 1 8).trans (hS23 0 8 rfl))).trans ((pf18_1_8).trans (congrArg (fun q : Nat => (q : Int)) ((show D23 4 = D18 4 from (eD23 4).trans (hD23 3 rfl))).symm))
  have pf23_10_0 : HID (F23 10 0 = (D23 11 : Int)) := ((show F23 10 0 = F18 10 0 from (eF23 10 0))).trans ((pf18_10_0).trans (congrArg (fun q : Nat => (q : Int)) ((show D23 11 = D18 11 from (eD23 11))).symm))
  have r24 : HID ((0 : Int) ≤ m23_4 ∧ m23_4 ≤ 1000000) := nrng (H.nle 6 (ltn len_V139_oz_L1cls rfl)) (show (N23 6 : Int) = m23_4 from (congrArg (fun q : Nat => (q : Int)) (eN23 6)).trans em23_4)
  have r25 : HID ((0 : Int) ≤ m23_5 ∧ m23_5 ≤ 1000000) := nrng (H.nle 7 (ltn len_V139_oz_L1cls rfl)) (show (N23 7 : Int) = m23_5 from (congrArg (fun q : Nat => (q : Int)) (eN23 7)).trans em23_5)
  have r26 : HID ((0 : Int) ≤ m23_6 ∧ m23_6 ≤ 1000000) := nrng (H.nle 8 (ltn len_V139_oz_L1cls rfl)) (show (N23 8 : Int) = m23_6 from (congrArg (fun q : Nat => (q : Int)) (eN23 8)).trans em23_6)
  have r27 : HID ((-2147483648 : Int) ≤ y23_0_4 ∧ y23_0_4 ≤ 2147483647) := krg_e (show (-2147483648 : Int) ≤ F23 1 4 ∧ F23 1 4 ≤ 2147483647 from H.krg 1 4 (ltn len_V139_oz_L1cls rfl)) (show F23 1 4 = y23_0_4 from ((eF23 1 4).trans ey23_0_4))
  have r28 : HID ((-2147483648 : Int) ≤ y23_0_5 ∧ y23_0_5 ≤ 2147483647) := krg_e (show (-2147483648 : Int) ≤ F23 1 5 ∧ F23 1 5 ≤ 2147483647 from H.krg 1 5 (ltn len_V139_oz_L1cls rfl)) (show F23 1 5 = y23_0_5 from ((eF23 1 5).trans ey23_0_5))
  have hgs : GOS (MTL ((w3)) ((a2)) ((u1_11)) ((u1_10)) ((u1_9)) ((a2) - (u1_10))) ((a2)) ((a1)) ((a1)) (sq ((w23_4)) ((w23_5)) ((w23_6)) ((y23_0_4))) ((y23_0_5)) := by have h := pz23_4; rw [← hqls, hql2] at h; exact h
  have hlnq : (m23_4) = (m23_5) ∧ (m23_6) = (m23_5) ∧ (m23_5) ≤ 65536 ∧ ((m23_5) = 0 ∨ 64 ≤ (m23_5)) ∧ lgq ((m23_5)) = 0 := by (have qg0 := HIDe r24; have qg1 := HIDe r25; have qg2 := HIDe r26; omega)
  refine Ew_of (pcₚ := 27) (fun _ => x_aload_n rfl rfl) ?_
  refine Ew_stk (congrArg (fun qz : Nat => ([.ref qz] : List Value)) (show D23 0 = D 0 from mD23 0 rfl).symm) ?_
  refine v_g H (o := 0) (v := .ref (D23 10)) rfl rfl rfl rfl rfl (vrf ((mF23 0 9 rfl).trans ((pf10).trans (congrArg (fun q : Nat => (q : Int)) (mD23 10 rfl).symm)))) ?_
  refine v_inv H (o := 10) rfl rfl rfl rfl rfl rfl (by rfl) (C156h (D := puc 10 D23) (N := puc 10 N23) (HW_subc H oz_L1cls_5 oz_L1cls_13) (u10_1) (((((show F23 10 1 = F18 10 1 from (eF23 10 1))).trans ((show F18 10 1 = F 10 1 from (eF18 10 1)))).trans (eu10_1))) (u10_2) (((((show F23 10 2 = F18 10 2 from (eF23 10 2))).trans ((show F18 10 2 = F 10 2 from (eF18 10 2)))).trans (eu10_2))) (F 10 3) ((((show F23 10 3 = F18 10 3 from (eF23 10 3))).trans ((show F18 10 3 = F 10 3 from (eF18 10 3))))) (F 10 4) ((((show F23 10 4 = F18 10 4 from (eF23 10 4))).trans ((show F18 10 4 = F 10 4 from (eF18 10 4)))))  (fun σ31 F31ₚ A31ₚ Hₚ Oₚ hS31 hA31 y31_0_1 (ey31_0_1 : HID _) y31_0_2 (ey31_0_2 : HID _) y31_0_3 (ey31_0_3 : HID _) y31_0_4 (ey31_0_4 : HID _) pz31_0 pz31_1 => ⟨rfl, ?_⟩))
  refine v_backc (c := ((c + c18) + c23)) (s := ((s + s18) + s23)) H oz_L1cls_5 oz_L1cls_13 Hₚ Oₚ (fun F31 A31 H Oₚ eF31 eA31 => ?_)
  have O := OUT_trans O Oₚ
  -- Row.clear
  have cF31 : SF oz_L1clsl_0 F F31 := SF_trans (cF23) (SF_gluc (ι := oz_L1clsl_5) oz_L1cls_13 hS31 eF31 (by decide +kernel)) (any_sub (lₚ := [(10, 1), (10, 2), (10, 3), (10, 4)]) (by decide +kernel))
  have mF31 := SFm_of cF31 oz_L1cls_8
  have cA31 : SA oz_L1clsl_1 A A31 := SA_trans (cA23) (SA_gluc (ι := oz_L1clsl_5) oz_L1cls_13 hA31 eA31 (by decide +kernel)) (any_subA (lₚ := []) (by decide +kernel))
  have mA31 := SAm_of cA31 oz_L1cls_9
  have r32 : HID ((-2147483648 : Int) ≤ y31_0_1 ∧ y31_0_1 ≤ 2147483647) := krg_e (show (-2147483648 : Int) ≤ F31 10 1 ∧ F31 10 1 ≤ 2147483647 from H.krg 10 1 (ltn len_V139_oz_L1cls rfl)) (show F31 10 1 = y31_0_1 from ((eF31 10 1).trans ey31_0_1))
  refine Ew_of (pcₚ := 34) (fun _ => x_iload_n rfl rfl) ?_
  refine Ew_of (pcₚ := 35) (fun _ => x_istore_n rfl) ?_
  refine Ew_of (pcₚ := 36) (fun _ => x_iconst rfl) ?_
  refine Ew_of (pcₚ := 38) (fun _ => x_istore rfl) ?_
  have : sc ((w11)) 0 ((y31_0_1)) = LTS ((w3)) ((a1)) (sq ((w23_4)) ((w23_5)) ((w23_6)) 0) 0 := by rw [sc_nil (by (have qg0 := HIDe r32; omega))]; show [] = sc ((w3)) ((a1)) ((a1) + 0); rw [sc_nil (by (have qg0 := HIDe r32; omega))]
  have : (a1) = enp ((a1)) (sq ((w23_4)) ((w23_5)) ((w23_6)) 0) := rfl
  have : su (fun j => ((w23_4)) j + ((w23_5)) j) (0 : Int).toNat = 0 := rfl
  have hfd : FDI ((w23_4)) ((w23_5)) ((w23_6)) ((y23_0_4)) ((a2) - (a1) - (y23_0_5)) ((u1_10)) := pz23_3
  have hds : DSI ((w23_6)) ((y23_0_4)) := fun j p q => (hfd.1 j p q).2.2
  suffices hl38 : ∀ (m : Nat), ∀ (ls : rO) (σ : rS) (D_38 N_38 : Nat → Nat) (c_38 s_38 : Nat) (F_38 : hF) (A_38 : hA) (x38_3 : Int) (x38_4 : Int), rlook ls 0 = some (.ref (D_38 0)) → rlook ls 3 = some (I (x38_3)) → rlook ls 4 = some (I (x38_4)) → HW V139 σ D_38 N_38 F_38 A_38 → OUT (V139).length D N σE c s D_38 N_38 σ c_38 s_38 → SD [11] D23 D_38 → SD [11] N23 N_38 → SF [(10, 0), (10, 1), (10, 2)] F31 F_38 → SA [11] A31 A_38 → F_38 10 0 = (D_38 11 : Int) → ∀ m38_11 : Int, (N_38 11 : Int) = m38_11 → ∀ y38_10_1 : Int, F_38 10 1 = y38_10_1 → ∀ y38_10_2 : Int, F_38 10 2 = y38_10_2 → ∀ w38_11 : Int → Int, A_38 11 = w38_11 → (inr (x38_3)) → (inr (x38_4)) → ((0) ≤ (x38_4)) → ((x38_4) ≤ (0) ∨ (x38_4) ≤ ((y23_0_4))) → (0 ≤ (y38_10_1) ∧ (y38_10_1) ≤ (m38_11) ∧ (m38_11) ≤ 65536) → ((x38_3) = (a1) + su (fun j => ((w23_4)) j + ((w23_5)) j) ((x38_4) : Int).toNat) → ((y38_10_2) = 0 ∧ (y38_10_1) ≤ (x38_3) - (a1)) → (sc ((w38_11)) 0 ((y38_10_1)) = LTS ((w3)) ((a1)) (sq ((w23_4)) ((w23_5)) ((w23_6)) ((x38_4))) 0) → ((x38_3) = enp ((a1)) (sq ((w23_4)) ((w23_5)) ((w23_6)) ((x38_4)))) → (((y23_0_4)) - (x38_4)).toNat = m → Ew 139 (d + 4) 38 ls [] σ c_38 s_38 Q from
    hl38 _ _ _ _ _ _ _ _ _ (a1) (0) ((rk_o (rk_o (rfl) rfl rfl) rfl rfl).trans (congrArg (fun q : Nat => some (Value.ref q)) (mD23 0 rfl).symm)) (rk_o (rk_s) rfl rfl) (rk_s) H O (SD_refl) (SD_refl) (SF_refl) (SA_refl) ((((show F31 10 0 = F23 10 0 from (eF31 10 0).trans (hS31 0 0 rfl)))).trans (pf23_10_0)) (n11) ((congrArg (fun q : Nat => (q : Int)) (show N23 11 = N18 11 from (eN23 11))).trans ((congrArg (fun q : Nat => (q : Int)) (show N18 11 = N 11 from (eN18 11))).trans (en11))) (y31_0_1) (((eF31 10 1).trans ey31_0_1)) (y31_0_2) (((eF31 10 2).trans ey31_0_2)) (w11) (((show A31 11 = A23 11 from (eA31 11))).trans (((show A23 11 = A18 11 from (eA23 11))).trans (((show A18 11 = A 11 from (eA18 11))).trans (ew11)))) (show inr (a1) from h0) (show inr (0) from q_2) (show (0) ≤ (0) from q_1) (show (0) ≤ (0) ∨ (0) ≤ ((y23_0_4)) from q_5) (show 0 ≤ (y31_0_1) ∧ (y31_0_1) ≤ (n11) ∧ (n11) ≤ 65536 from q_4353 (HIDe r16) h12 pz31_0) (show (a1) = (a1) + su (fun j => ((w23_4)) j + ((w23_5)) j) ((0) : Int).toNat by omega) (show (y31_0_2) = 0 ∧ (y31_0_1) ≤ (a1) - (a1) from q_4391 pz31_0) (show sc ((w11)) 0 ((y31_0_1)) = LTS ((w3)) ((a1)) (sq ((w23_4)) ((w23_5)) ((w23_6)) ((0))) 0 by assumption) (show (a1) = enp ((a1)) (sq ((w23_4)) ((w23_5)) ((w23_6)) ((0))) by assumption) rfl
  as_aux_lemma =>
  intro m
  induction m using Nat.strongRecOn with
  | _ m ih38 =>
    intro ls σ D_38 N_38 c_38 s_38 F_38 A_38 x38_3 x38_4 l38_0 l38_3 l38_4 H O hD_38 hN_38 hS_38 hA_38 pm38_11 m38_11 em38_11 y38_10_1 ey38_10_1 y38_10_2 ey38_10_2 w38_11 ew38_11 j38_0 j38_1 j38_2 j38_3 j38_4 j38_5 j38_6 j38_7 j38_8 hm38
    have cF_38 : SF oz_L1clsl_0 F F_38 := SF_trans (cF31) hS_38 (any_sub (by decide +kernel))
    have mF_38 := SFm_of cF_38 oz_L1cls_8
    have cA_38 : SA oz_L1clsl_1 A A_38 := SA_trans (cA31) hA_38 (any_subA (by decide +kernel))
    have mA_38 := SAm_of cA_38 oz_L1cls_9
    have cD_38 : SD oz_L1clsl_2 D D_38 := SD_trans (cD23) hD_38 (any_subA (by decide +kernel))
    have mD_38 := SDm_of cD_38 oz_L1cls_10
    have cN_38 : SD oz_L1clsl_2 N N_38 := SD_trans (cN23) hN_38 (any_subA (by decide +kernel))
    have mN_38 := SDm_of cN_38 oz_L1cls_10
    replace pm38_11 := HIDm pm38_11
    replace em38_11 := HIDm em38_11
    replace ey38_10_1 := HIDm ey38_10_1
    replace ey38_10_2 := HIDm ey38_10_2
    try clear pz18_2
    try clear pz23_0
    have pf_38_1_1 : HID (F_38 1 1 = (D_38 6 : Int)) := (hS_38 1 1 rfl).trans (((((show F31 1 1 = F23 1 1 from (eF31 1 1)))).trans (pf23_1_1)).trans (congrArg (fun q : Nat => (q : Int)) (hD_38 6 rfl).symm))
    have pf_38_1_2 : HID (F_38 1 2 = (D_38 7 : Int)) := (hS_38 1 2 rfl).trans (((((show F31 1 2 = F23 1 2 from (eF31 1 2)))).trans (pf23_1_2)).trans (congrArg (fun q : Nat => (q : Int)) (hD_38 7 rfl).symm))
    have pf_38_1_3 : HID (F_38 1 3 = (D_38 8 : Int)) := (hS_38 1 3 rfl).trans (((((show F31 1 3 = F23 1 3 from (eF31 1 3)))).trans (pf23_1_3)).trans (congrArg (fun q : Nat => (q : Int)) (hD_38 8 rfl).symm))
    have pf_38_1_8 : HID (F_38 1 8 = (D_38 4 : Int)) := (hS_38 1 8 rfl).trans (((((show F31 1 8 = F23 1 8 from (eF31 1 8)))).trans (pf23_1_8)).trans (congrArg (fun q : Nat => (q : Int)) (hD_38 4 rfl).symm))
    have j38_l : sc ((w38_11)) 0 ((y38_10_1)) = LTS ((w3)) ((a1)) (sq ((w23_4)) ((w23_5)) ((w23_6)) ((x38_4))) 0 := j38_7
    have j38_e : (x38_3) = enp ((a1)) (sq ((w23_4)) ((w23_5)) ((w23_6)) ((x38_4))) := j38_8
    refine Ew_of (pcₚ := 40) (fun _ => x_iload rfl l38_4) ?_
    refine Ew_of (pcₚ := 41) (fun _ => x_aload_n rfl l38_0) ?_
    refine v_g H (o := 0) (v := .ref (D_38 1)) rfl rfl rfl rfl rfl (vrf ((mF_38 0 1 rfl).trans ((pf1).trans (congrArg (fun q : Nat => (q : Int)) (mD_38 1 rfl).symm)))) ?_
    refine v_g H (o := 1) (v := I (y23_0_4)) rfl rfl rfl rfl rfl (congrArg (fun z : Int => I z) ((((hS_38 1 4 rfl).trans ((show F31 1 4 = F23 1 4 from (eF31 1 4)))).trans ((eF23 1 4).trans ey23_0_4)) : F_38 1 4 = y23_0_4)) ?_
    refine w_icmpge (t := 108) rfl rfl (show inr (x38_4) from j38_1) (show inr (y23_0_4) from q_4392 (HIDe r27) pz23_1) (fun b39 => ?_) (fun b39 => ?_)
    · refine Ew_of (pcₚ := 109) (fun _ => x_aload_n rfl l38_0) ?_
      refine v_g H (o := 0) (v := .ref (D_38 10)) rfl rfl rfl rfl rfl (vrf ((mF_38 0 9 rfl).trans ((pf10).trans (congrArg (fun q : Nat => (q : Int)) (mD_38 10 rfl).symm)))) ?_
      have hle : (x38_4) = (y23_0_4) := by (have qg0 := HIDe r27; omega)
      have hst : su (fun j => ((w23_4)) j + ((w23_5)) j) ((x38_4) : Int).toNat = (a2) - (a1) - (y23_0_5) := by rw [hle]; exact hfd.2
      refine Ew_of (pcₚ := 113) (fun _ => x_aload_n rfl l38_0) ?_
      refine v_g H (o := 0) (v := .ref (D_38 1)) rfl rfl rfl rfl rfl (vrf ((mF_38 0 1 rfl).trans ((pf1).trans (congrArg (fun q : Nat => (q : Int)) (mD_38 1 rfl).symm)))) ?_
      refine v_g H (o := 1) (v := .ref (D_38 2)) rfl rfl rfl rfl rfl (vrf ((mF_38 1 0 rfl).trans ((pf2).trans (congrArg (fun q : Nat => (q : Int)) (mD_38 2 rfl).symm)))) ?_
      refine v_g H (o := 2) (v := .ref (D_38 3)) rfl rfl rfl rfl rfl (vrf ((mF_38 2 0 rfl).trans ((pf3).trans (congrArg (fun q : Nat => (q : Int)) (mD_38 3 rfl).symm)))) ?_
      refine Ew_of (pcₚ := 123) (fun _ => x_iload_n rfl l38_3) ?_
      refine Ew_of (pcₚ := 124) (fun _ => x_aload_n rfl l38_0) ?_
      refine v_g H (o := 0) (v := .ref (D_38 1)) rfl rfl rfl rfl rfl (vrf ((mF_38 0 1 rfl).trans ((pf1).trans (congrArg (fun q : Nat => (q : Int)) (mD_38 1 rfl).symm)))) ?_
      refine v_g H (o := 1) (v := I (y23_0_5)) rfl rfl rfl rfl rfl (congrArg (fun z : Int => I z) ((((hS_38 1 5 rfl).trans ((show F31 1 5 = F23 1 5 from (eF31 1 5)))).trans ((eF23 1 5).trans ey23_0_5)) : F_38 1 5 = y23_0_5)) ?_
      refine v_inv H (o := 10) rfl rfl rfl rfl rfl rfl (by rfl) (C161_Br (D := puc 2885130 D_38) (N := puc 2885130 N_38) (HW_subc H oz_L1cls_6 oz_L1cls_14) (pm38_11) (n3) ((congrArg (fun q : Nat => (q : Int)) (mN_38 3 rfl)).trans (en3)) (m38_11) (em38_11) (y38_10_1) ((ey38_10_1)) (y38_10_2) ((ey38_10_2)) (w3) ((funext (mA_38 3 rfl)).trans (ew3)) (w38_11) (ew38_11) (show inr (x38_3) from j38_0) (show inr (y23_0_5) from q_4393 (HIDe r28) pz23_2) (show 0 ≤ (y38_10_1) ∧ (y38_10_1) ≤ (m38_11) ∧ (m38_11) ≤ 65536 from j38_4) (show (y23_0_5) < 0 ∨ 0 ≤ (x38_3) ∧ (x38_3) + (y23_0_5) ≤ (n3) by have qh0 := HIDe r28; have qh1 := HIDe r9; omega) (fun σ40 D40ₚ N40ₚ F40ₚ A40ₚ c40 s40 Hₚ Oₚ hD40 hN40 hS40 hA40 (pm40_2 : HID _) m40_2 (em40_2 : HID _) y40_0_1 (ey40_0_1 : HID _) y40_0_2 (ey40_0_2 : HID _) w40_2 ew40_2 pz40_0 pz40_1 pz40_2 pz40_3 => ⟨rfl, ?_⟩))
      refine v_backMc (c := c_38) (s := s_38) H oz_L1cls_6 oz_L1cls_14 Hₚ Oₚ hD40 oz_L1cls_7 (fun D40 N40 F40 A40 H Oₚ eD40 eN40 eF40 eA40 => ?_)
      have O := OUT_trans O Oₚ
      -- Row.addPart
      have cF40 : SF oz_L1clsl_0 F F40 := SF_trans (cF_38) (SF_gluc (ι := oz_L1clsl_6) oz_L1cls_14 hS40 eF40 (by decide +kernel)) (any_sub (lₚ := [(10, 0), (10, 1), (10, 2)]) (by decide +kernel))
      have mF40 := SFm_of cF40 oz_L1cls_8
      have cA40 : SA oz_L1clsl_1 A A40 := SA_trans (cA_38) (SA_gluc (ι := oz_L1clsl_6) oz_L1cls_14 hA40 eA40 (by decide +kernel)) (any_subA (lₚ := [11]) (by decide +kernel))
      have mA40 := SAm_of cA40 oz_L1cls_9
      have cD40 : SD oz_L1clsl_2 D D40 := SD_trans (cD_38) (SD_gluc (ι := oz_L1clsl_6) oz_L1cls_14 hD40 eD40 (by decide +kernel)) (any_subA (lₚ := [11]) (by decide +kernel))
      have mD40 := SDm_of cD40 oz_L1cls_10
      have cN40 : SD oz_L1clsl_2 N N40 := SD_trans (cN_38) (SD_gluc (ι := oz_L1clsl_6) oz_L1cls_14 hN40 eN40 (by decide +kernel)) (any_subA (lₚ := [11]) (by decide +kernel))
      have mN40 := SDm_of cN40 oz_L1cls_10
      have pf40_1_1 : HID (F40 1 1 = (D40 6 : Int)) := ((show F40 1 1 = F_38 1 1 from (eF40 1 1))).trans ((pf_38_1_1).trans (congrArg (fun q : Nat => (q : Int)) ((show D40 6 = D_38 6 from (eD40 6))).symm))
      have pf40_1_2 : HID (F40 1 2 = (D40 7 : Int)) := ((show F40 1 2 = F_38 1 2 from (eF40 1 2))).trans ((pf_38_1_2).trans (congrArg (fun q : Nat => (q : Int)) ((show D40 7 = D_38 7 from (eD40 7))).symm))
      have pf40_1_3 : HID (F40 1 3 = (D40 8 : Int)) := ((show F40 1 3 = F_38 1 3 from (eF40 1 3))).trans ((pf_38_1_3).trans (congrArg (fun q : Nat => (q : Int)) ((show D40 8 = D_38 8 from (eD40 8))).symm))
      have pf40_1_8 : HID (F40 1 8 = (D40 4 : Int)) := ((show F40 1 8 = F_38 1 8 from (eF40 1 8))).trans ((pf_38_1_8).trans (congrArg (fun q : Nat => (q : Int)) ((show D40 4 = D_38 4 from (eD40 4))).symm))
      have pf40_10_0 : HID (F40 10 0 = (D40 11 : Int)) := (eF40 10 0).trans (pm40_2.trans (congrArg (fun q : Nat => (q : Int)) (eD40 11).symm))
      have r42 : HID ((-2147483648 : Int) ≤ y40_0_1 ∧ y40_0_1 ≤ 2147483647) := krg_e (show (-2147483648 : Int) ≤ F40 10 1 ∧ F40 10 1 ≤ 2147483647 from H.krg 10 1 (ltn len_V139_oz_L1cls rfl)) (show F40 10 1 = y40_0_1 from ((eF40 10 1).trans ey40_0_1))
      have r43 : HID ((0 : Int) ≤ y40_0_2 ∧ y40_0_2 ≤ 1) := krg_e (show (0 : Int) ≤ F40 10 2 ∧ F40 10 2 ≤ 1 from H.krg 10 2 (ltn len_V139_oz_L1cls rfl)) (show F40 10 2 = y40_0_2 from ((eF40 10 2).trans ey40_0_2))
      have hcn33 : (y40_0_1) ≤ (a2) - (a1) := by (have qg0 := HIDe r42; omega)
      have hf33 := RAP_from (pz40_3 (by omega)) (by omega) (a := 0) (by omega) (by rw [sc_lenI (by omega)]; omega) (by omega)
      have hb33 := hf33.1
      have hs33 := hf33.2
      rw [j38_l, hle] at hs33
      have hgr : GOR (MTL ((w3)) ((a2)) ((u1_11)) ((u1_10)) ((u1_9)) ((a2) - (u1_10))) ((w3)) ((a2)) ((a1)) ((w23_4)) ((w23_5)) ((w23_6)) ((y23_0_4)) ((w40_2)) ((y40_0_1)) := GOR_of (by (have qg0 := HIDe r27; have qg1 := HIDe r3; have qg2 := HIDe r4; have qg3 := HIDe r42; have qg4 := HIDe r5; omega)) hgs (by rw [← hle]; exact j38_e) hs33
      refine Ew_of (pcₚ := 134) (fun _ => x_aload_n rfl l38_0) ?_
      refine Ew_stk (congrArg (fun qz : Nat => ([.ref qz] : List Value)) (show D40 0 = D_38 0 from ((show D40 0 = D_38 0 from (eD40 0)))).symm) ?_
      refine v_g H (o := 0) (v := .ref (D40 12)) rfl rfl rfl rfl rfl (vrf ((mF40 0 11 rfl).trans ((pf12).trans (congrArg (fun q : Nat => (q : Int)) (mD40 12 rfl).symm)))) ?_
      refine Ew_of (pcₚ := 138) (fun _ => x_iconst rfl) ?_
      refine v_fil H (t := 12) (v := 0) rfl rfl rfl rfl rfl (show inr (0) from q_2) (fun σ A44 H Oₚ hA44 ga44 => ?_)
      have O := OUT_trans O Oₚ
      have cA44 : SA oz_L1clsl_1 A A44 := SA_trans (cA40) hA44 (any_subA (by decide +kernel))
      have mA44 := SAm_of cA44 oz_L1cls_9
      refine Ew_of (pcₚ := 142) (fun _ => x_iconst rfl) ?_
      refine Ew_of (pcₚ := 144) (fun _ => x_istore rfl) ?_
      have hb0 : CTN (ub ((w40_2))) ((A44 12)) (0) 256 := CTN_0 ga44
      suffices hl144 : ∀ (m : Nat), ∀ (ls : rO) (σ : rS) (F_144 : hF) (A_144 : hA) (x144_4 : Int), rlook ls 0 = some (.ref (D40 0)) → rlook ls 4 = some (I (x144_4)) → HW V139 σ D40 N40 F_144 A_144 → OUT (V139).length D N σE c s D40 N40 σ (c_38 + c40) (s_38 + s40) → SF [] F40 F_144 → SA [12] A44 A_144 → ∀ w144_12 : Int → Int, A_144 12 = w144_12 → (inr (x144_4)) → ((0) ≤ (x144_4)) → ((x144_4) ≤ (0) ∨ (x144_4) ≤ ((y40_0_1))) → (CTN (ub ((w40_2))) ((w144_12)) ((x144_4)) 256) → (((y40_0_1)) - (x144_4)).toNat = m → Ew 139 (d + 4) 144 ls [] σ (c_38 + c40) (s_38 + s40) Q from
        hl144 _ _ _ _ _ (0) ((rk_o (l38_0) rfl rfl).trans (congrArg (fun q : Nat => some (Value.ref q)) (((show D40 0 = D_38 0 from (eD40 0)))).symm)) (rk_s) H O (SF_refl) (SA_refl)    (A44 12) (rfl) (show inr (0) from q_2) (show (0) ≤ (0) from q_1) (show (0) ≤ (0) ∨ (0) ≤ ((y40_0_1)) from q_5) (hb0) rfl
      as_aux_lemma =>
      intro m
      induction m using Nat.strongRecOn with
      | _ m ih144 =>
        intro ls σ F_144 A_144 x144_4 l144_0 l144_4 H O hS_144 hA_144    w144_12 ew144_12 j144_0 j144_1 j144_2 j144_3 hm144
        have cF_144 : SF oz_L1clsl_0 F F_144 := SF_trans (cF40) hS_144 (any_sub (by decide +kernel))
        have mF_144 := SFm_of cF_144 oz_L1cls_8
        have cA_144 : SA oz_L1clsl_1 A A_144 := SA_trans (cA44) hA_144 (any_subA (by decide +kernel))
        have mA_144 := SAm_of cA_144 oz_L1cls_9
        try clear pz40_1
        have hct : CTN (ub ((w40_2))) ((w144_12)) ((x144_4)) 256 := j144_3
        refine Ew_of (pcₚ := 146) (fun _ => x_iload rfl l144_4) ?_
        refine Ew_of (pcₚ := 147) (fun _ => x_aload_n rfl l144_0) ?_
        refine v_g H (o := 0) (v := .ref (D40 10)) rfl rfl rfl rfl rfl (vrf ((mF_144 0 9 rfl).trans ((pf10).trans (congrArg (fun q : Nat => (q : Int)) (mD40 10 rfl).symm)))) ?_
        refine v_g H (o := 10) (v := I (y40_0_1)) rfl rfl rfl rfl rfl (congrArg (fun z : Int => I z) (((hS_144 10 1 rfl).trans ((eF40 10 1).trans ey40_0_1)) : F_144 10 1 = y40_0_1)) ?_
        refine w_icmpge (t := 185) rfl rfl (show inr (x144_4) from j144_0) (show inr (y40_0_1) from q_38 pz40_0) (fun b45 => ?_) (fun b45 => ?_)
        · have hl4 : (x144_4) = (y40_0_1) := by (have qg0 := HIDe r42; omega)
          have hct2 : CTN (ub ((w40_2))) ((w144_12)) ((y40_0_1)) 256 := by rw [← hl4]; assumption
          exact w_ret rfl (k _ _ _ _ _ _ _ H O (cD40) (cN40) (cF_144) (cA_144) (((hS_144 1 8 rfl)).trans (pf40_1_8)) (((hS_144 1 1 rfl)).trans (pf40_1_1)) (((hS_144 1 2 rfl)).trans (pf40_1_2)) (((hS_144 1 3 rfl)).trans (pf40_1_3)) (((hS_144 10 0 rfl)).trans (pf40_10_0)) (m18_3) ((congrArg (fun q : Nat => (q : Int)) (show N40 4 = N_38 4 from (eN40 4))).trans ((congrArg (fun q : Nat => (q : Int)) (hN_38 4 rfl)).trans ((congrArg (fun q : Nat => (q : Int)) (show N23 4 = N18 4 from (eN23 4).trans (hN23 3 rfl))).trans ((congrArg (fun q : Nat => (q : Int)) (eN18 4)).trans em18_3)))) (m23_4) ((congrArg (fun q : Nat => (q : Int)) (show N40 6 = N_38 6 from (eN40 6))).trans ((congrArg (fun q : Nat => (q : Int)) (hN_38 6 rfl)).trans ((congrArg (fun q : Nat => (q : Int)) (eN23 6)).trans em23_4))) (m23_5) ((congrArg (fun q : Nat => (q : Int)) (show N40 7 = N_38 7 from (eN40 7))).trans ((congrArg (fun q : Nat => (q : Int)) (hN_38 7 rfl)).trans ((congrArg (fun q : Nat => (q : Int)) (eN23 7)).trans em23_5))) (m23_6) ((congrArg (fun q : Nat => (q : Int)) (show N40 8 = N_38 8 from (eN40 8))).trans ((congrArg (fun q : Nat => (q : Int)) (hN_38 8 rfl)).trans ((congrArg (fun q : Nat => (q : Int)) (eN23 8)).trans em23_6))) (m40_2) ((congrArg (fun q : Nat => (q : Int)) (eN40 11)).trans em40_2) (y23_0_4) ((((((hS_144 1 4 rfl).trans ((show F40 1 4 = F_38 1 4 from (eF40 1 4)))).trans (hS_38 1 4 rfl)).trans ((show F31 1 4 = F23 1 4 from (eF31 1 4)))).trans ((eF23 1 4).trans ey23_0_4))) (y18_0_6) (((((((hS_144 1 6 rfl).trans ((show F40 1 6 = F_38 1 6 from (eF40 1 6)))).trans (hS_38 1 6 rfl)).trans ((show F31 1 6 = F23 1 6 from (eF31 1 6)))).trans ((show F23 1 6 = F18 1 6 from (eF23 1 6).trans (hS23 0 6 rfl)))).trans ((eF18 1 6).trans ey18_0_6))) (y40_0_1) (((hS_144 10 1 rfl).trans ((eF40 10 1).trans ey40_0_1))) (y40_0_2) (((hS_144 10 2 rfl).trans ((eF40 10 2).trans ey40_0_2))) (w18_3) ((funext (hA_144 4 rfl)).trans ((funext (hA44 4 rfl)).trans (((show A40 4 = A_38 4 from (eA40 4))).trans ((funext (hA_38 4 rfl)).trans (((show A31 4 = A23 4 from (eA31 4))).trans (((show A23 4 = A18 4 from (eA23 4).trans (funext (hA23 3 rfl)))).trans ((eA18 4).trans ew18_3))))))) (w18_4) ((funext (hA_144 5 rfl)).trans ((funext (hA44 5 rfl)).trans (((show A40 5 = A_38 5 from (eA40 5))).trans ((funext (hA_38 5 rfl)).trans (((show A31 5 = A23 5 from (eA31 5))).trans (((show A23 5 = A18 5 from (eA23 5))).trans ((eA18 5).trans ew18_4))))))) (w23_4) ((funext (hA_144 6 rfl)).trans ((funext (hA44 6 rfl)).trans (((show A40 6 = A_38 6 from (eA40 6))).trans ((funext (hA_38 6 rfl)).trans (((show A31 6 = A23 6 from (eA31 6))).trans ((eA23 6).trans ew23_4)))))) (w23_5) ((funext (hA_144 7 rfl)).trans ((funext (hA44 7 rfl)).trans (((show A40 7 = A_38 7 from (eA40 7))).trans ((funext (hA_38 7 rfl)).trans (((show A31 7 = A23 7 from (eA31 7))).trans ((eA23 7).trans ew23_5)))))) (w23_6) ((funext (hA_144 8 rfl)).trans ((funext (hA44 8 rfl)).trans (((show A40 8 = A_38 8 from (eA40 8))).trans ((funext (hA_38 8 rfl)).trans (((show A31 8 = A23 8 from (eA31 8))).trans ((eA23 8).trans ew23_6)))))) (w40_2) ((funext (hA_144 11 rfl)).trans ((funext (hA44 11 rfl)).trans ((eA40 11).trans ew40_2))) (w144_12) (ew144_12) (show 0 ≤ (y18_0_6) ∧ (u1_6) ≤ (y18_0_6) ∧ (y18_0_6) ≤ (m18_3) ∧ (m18_3) ≤ 16384 from q_3078 h7 pz18_0) (show (m23_4) = (m23_5) ∧ (m23_6) = (m23_5) ∧ (m23_5) ≤ 65536 ∧ ((m23_5) = 0 ∨ 64 ≤ (m23_5)) ∧ lgq ((m23_5)) = 0 from hlnq) (pz18_3) (pz18_4) (show 0 ≤ (y23_0_4) ∧ (y23_0_4) ≤ (m23_5) ∧ (y23_0_4) ≤ a2 - a1 from pz23_1) (hds) (show 0 ≤ (y40_0_1) ∧ (y40_0_1) ≤ (m40_2) ∧ (m40_2) ≤ 65536 from pz40_0) (hct2) (show (y40_0_2) = 0 ∧ (y40_0_1) ≤ a2 - a1 by have qh0 := HIDe r42; have qh1 := HIDe r43; omega) (hgr))
        · refine Ew_of (pcₚ := 157) (fun _ => x_aload_n rfl l144_0) ?_
          refine v_g H (o := 0) (v := .ref (D40 12)) rfl rfl rfl rfl rfl (vrf ((mF_144 0 11 rfl).trans ((pf12).trans (congrArg (fun q : Nat => (q : Int)) (mD40 12 rfl).symm)))) ?_
          refine Ew_of (pcₚ := 161) (fun _ => x_aload_n rfl l144_0) ?_
          refine v_g H (o := 0) (v := .ref (D40 10)) rfl rfl rfl rfl rfl (vrf ((mF_144 0 9 rfl).trans ((pf10).trans (congrArg (fun q : Nat => (q : Int)) (mD40 10 rfl).symm)))) ?_
          refine v_g H (o := 10) (v := .ref (D40 11)) rfl rfl rfl rfl rfl (vrf (((hS_144 10 0 rfl)).trans (pf40_10_0))) ?_
          refine Ew_of (pcₚ := 169) (fun _ => x_iload rfl l144_4) ?_
          refine v_lB H (o := 11) rfl rfl rfl rfl (n := m40_2) ((congrArg (fun q : Nat => (q : Int)) (eN40 11)).trans em40_2) (show 0 ≤ x144_4 ∧ x144_4 < m40_2 from q_4394 b45 j144_1 pz40_0) (fun v46 ev46 (qv46 : HID _) => ?_)
          have ev46 : (w40_2) (x144_4) = v46 := (congrFun ((funext (hA_144 11 rfl)).trans ((funext (hA44 11 rfl)).trans ((eA40 11).trans ew40_2))) (x144_4)).symm.trans ev46
          have hbv := ev46
          refine Ew_of (pcₚ := 173) (fun _ => x_sipush (z := 255) rfl (by decide)) ?_
          refine v_and255 rfl ?_
          have hub : ub ((w40_2)) ((x144_4)) = (((v46 % 256)) : Int) := by unfold ub; (have qg0 := HIDe qv46; omega)
          refine Ew_of (pcₚ := 175) (fun _ => x_dup2 rfl rfl rfl) ?_
          refine v_lI H (o := 12) rfl rfl rfl rfl (n := n12) ((congrArg (fun q : Nat => (q : Int)) (mN40 12 rfl)).trans (en12)) (show 0 ≤ (v46 % 256) ∧ (v46 % 256) < n12 from q_3752 h13) (fun v47 ev47 (qv47 : HID _) => ?_)
          have ev47 : (w144_12) ((v46 % 256)) = v47 := (congrFun (ew144_12) ((v46 % 256))).symm.trans ev47
          have hcv := ev47
          have hcl := CTN_le hct (s := ((v46 % 256))) (by (have qg0 := HIDe qv46; omega)) (by (have qg0 := HIDe qv46; omega)) (by (have qg0 := HIDe qv46; omega))
          rw [hcv] at hcl
          refine Ew_of (pcₚ := 177) (fun _ => x_iconst rfl) ?_
          refine w_iadd rfl ?_
          refine v_sI H (o := 12) (z := (v47 + 1)) rfl rfl rfl rfl (n := n12) ((congrArg (fun q : Nat => (q : Int)) (mN40 12 rfl)).trans (en12)) (show 0 ≤ (v46 % 256) ∧ (v46 % 256) < n12 from q_3752 h13) (show inr ((v47 + 1)) by have qh0 := HIDe qv47; omega) (fun σ H Oₚ => ?_)
          have O := OUT_trans O Oₚ
          have cAu48 : SA oz_L1clsl_1 A (updA A_144 12 ((v46 % 256)) ((v47 + 1))) := SA_upd (cA_144) rfl
          have mAu48 := SAm_of cAu48 oz_L1cls_9
          refine Ew_of (pcₚ := 182) (fun _ => x_iinc (len := 3) rfl (l144_4)) ?_
          refine Ew_of (pcₚ := 144) (fun _ => x_goto rfl rfl) ?_
          have hcs : CTN (ub ((w40_2))) ((upd1 (w144_12) ((v46 % 256)) ((v47 + 1)))) (((x144_4 + 1))) 256 := CTN_s hct (by (have qg0 := HIDe qv46; have qg1 := HIDe qv47; omega)) rfl hub (by (have qg0 := HIDe qv46; have qg1 := HIDe qv47; omega))
          exact ih144 _ (msE hm144 q_16 (q_17 b45)) _ _ _ _ ((x144_4 + 1)) (rk_o (l144_0) rfl rfl) (rk_s) H O (hS_144) (SA_upd (hA_144) rfl)    (upd1 (w144_12) ((v46 % 256)) ((v47 + 1))) (congrArg (fun q => upd1 q ((v46 % 256)) ((v47 + 1))) (ew144_12)) (show inr ((x144_4 + 1)) from q_4395 b45 j144_1 pz40_0) (show (0) ≤ ((x144_4 + 1)) from q_14 j144_1) (show ((x144_4 + 1)) ≤ (0) ∨ ((x144_4 + 1)) ≤ ((y40_0_1)) from q_13 b45) (hcs) rfl
    · refine Ew_of (pcₚ := 51) (fun _ => x_aload_n rfl l38_0) ?_
      have hfp := FDI_part (i := (x38_4)) hfd (by omega) (by omega) (by omega)
      have hfj := hfd.1 ((x38_4)) (by omega) (by omega)
      refine v_g H (o := 0) (v := .ref (D_38 10)) rfl rfl rfl rfl rfl (vrf ((mF_38 0 9 rfl).trans ((pf10).trans (congrArg (fun q : Nat => (q : Int)) (mD_38 10 rfl).symm)))) ?_
      refine Ew_of (pcₚ := 55) (fun _ => x_aload_n rfl l38_0) ?_
      refine v_g H (o := 0) (v := .ref (D_38 1)) rfl rfl rfl rfl rfl (vrf ((mF_38 0 1 rfl).trans ((pf1).trans (congrArg (fun q : Nat => (q : Int)) (mD_38 1 rfl).symm)))) ?_
      refine v_g H (o := 1) (v := .ref (D_38 2)) rfl rfl rfl rfl rfl (vrf ((mF_38 1 0 rfl).trans ((pf2).trans (congrArg (fun q : Nat => (q : Int)) (mD_38 2 rfl).symm)))) ?_
      refine v_g H (o := 2) (v := .ref (D_38 3)) rfl rfl rfl rfl rfl (vrf ((mF_38 2 0 rfl).trans ((pf3).trans (congrArg (fun q : Nat => (q : Int)) (mD_38 3 rfl).symm)))) ?_
      refine Ew_of (pcₚ := 65) (fun _ => x_iload_n rfl l38_3) ?_
      refine Ew_of (pcₚ := 66) (fun _ => x_aload_n rfl l38_0) ?_
      refine v_g H (o := 0) (v := .ref (D_38 1)) rfl rfl rfl rfl rfl (vrf ((mF_38 0 1 rfl).trans ((pf1).trans (congrArg (fun q : Nat => (q : Int)) (mD_38 1 rfl).symm)))) ?_
      refine v_g H (o := 1) (v := .ref (D_38 6)) rfl rfl rfl rfl rfl (vrf (pf_38_1_1)) ?_
      refine Ew_of (pcₚ := 74) (fun _ => x_iload rfl l38_4) ?_
      refine v_lI H (o := 6) rfl rfl rfl rfl (n := m23_4) ((congrArg (fun q : Nat => (q : Int)) (hN_38 6 rfl)).trans ((congrArg (fun q : Nat => (q : Int)) (eN23 6)).trans em23_4)) (show 0 ≤ x38_4 ∧ x38_4 < m23_4 from q_4396 b39 hlnq j38_2 pz23_1) (fun v49 ev49 (qv49 : HID _) => ?_)
      have ev49 : (w23_4) (x38_4) = v49 := (congrFun ((funext (hA_38 6 rfl)).trans (((show A31 6 = A23 6 from (eA31 6))).trans ((eA23 6).trans ew23_4))) (x38_4)).symm.trans ev49
      have hse := ev49
      obtain ⟨ql4, hql4⟩ : ∃ q : Int, q = (x38_4) := ⟨_, rfl⟩
      obtain ⟨ql3, hql3⟩ : ∃ q : Int, q = (x38_3) := ⟨_, rfl⟩
      have hen4 : ql3 = enp ((a1)) (sq ((w23_4)) ((w23_5)) ((w23_6)) (ql4)) := by rw [hql3, hql4]; exact j38_e
      have hse4 : ((w23_4)) ql4 = (v49) := by rw [hql4]; exact ev49
      refine v_inv H (o := 10) rfl rfl rfl rfl rfl rfl (by rfl) (C161_Br (D := puc 2885130 D_38) (N := puc 2885130 N_38) (HW_subc H oz_L1cls_6 oz_L1cls_14) (pm38_11) (n3) ((congrArg (fun q : Nat => (q : Int)) (mN_38 3 rfl)).trans (en3)) (m38_11) (em38_11) (y38_10_1) ((ey38_10_1)) (y38_10_2) ((ey38_10_2)) (w3) ((funext (mA_38 3 rfl)).trans (ew3)) (w38_11) (ew38_11) (show inr (x38_3) from j38_0) (show inr (v49) from (HIDe qv49)) (show 0 ≤ (y38_10_1) ∧ (y38_10_1) ≤ (m38_11) ∧ (m38_11) ≤ 65536 from j38_4) (show (v49) < 0 ∨ 0 ≤ (x38_3) ∧ (x38_3) + (v49) ≤ (n3) by have qh0 := HIDe qv49; have qh1 := HIDe r9; omega) (fun σ50 D50ₚ N50ₚ F50ₚ A50ₚ c50 s50 Hₚ Oₚ hD50 hN50 hS50 hA50 (pm50_2 : HID _) m50_2 (em50_2 : HID _) y50_0_1 (ey50_0_1 : HID _) y50_0_2 (ey50_0_2 : HID _) w50_2 ew50_2 pz50_0 pz50_1 pz50_2 pz50_3 => ⟨rfl, ?_⟩))
      refine v_backMc (c := c_38) (s := s_38) H oz_L1cls_6 oz_L1cls_14 Hₚ Oₚ hD50 oz_L1cls_7 (fun D50 N50 F50 A50 H Oₚ eD50 eN50 eF50 eA50 => ?_)
      have O := OUT_trans O Oₚ
      -- Row.addPart
      have cF50 : SF oz_L1clsl_0 F F50 := SF_trans (cF_38) (SF_gluc (ι := oz_L1clsl_6) oz_L1cls_14 hS50 eF50 (by decide +kernel)) (any_sub (lₚ := [(10, 0), (10, 1), (10, 2)]) (by decide +kernel))
      have mF50 := SFm_of cF50 oz_L1cls_8
      have cA50 : SA oz_L1clsl_1 A A50 := SA_trans (cA_38) (SA_gluc (ι := oz_L1clsl_6) oz_L1cls_14 hA50 eA50 (by decide +kernel)) (any_subA (lₚ := [11]) (by decide +kernel))
      have mA50 := SAm_of cA50 oz_L1cls_9
      have cD50 : SD oz_L1clsl_2 D D50 := SD_trans (cD_38) (SD_gluc (ι := oz_L1clsl_6) oz_L1cls_14 hD50 eD50 (by decide +kernel)) (any_subA (lₚ := [11]) (by decide +kernel))
      have mD50 := SDm_of cD50 oz_L1cls_10
      have cN50 : SD oz_L1clsl_2 N N50 := SD_trans (cN_38) (SD_gluc (ι := oz_L1clsl_6) oz_L1cls_14 hN50 eN50 (by decide +kernel)) (any_subA (lₚ := [11]) (by decide +kernel))
      have mN50 := SDm_of cN50 oz_L1cls_10
      have pf50_1_1 : HID (F50 1 1 = (D50 6 : Int)) := ((show F50 1 1 = F_38 1 1 from (eF50 1 1))).trans ((pf_38_1_1).trans (congrArg (fun q : Nat => (q : Int)) ((show D50 6 = D_38 6 from (eD50 6))).symm))
      have pf50_1_2 : HID (F50 1 2 = (D50 7 : Int)) := ((show F50 1 2 = F_38 1 2 from (eF50 1 2))).trans ((pf_38_1_2).trans (congrArg (fun q : Nat => (q : Int)) ((show D50 7 = D_38 7 from (eD50 7))).symm))
      have pf50_1_3 : HID (F50 1 3 = (D50 8 : Int)) := ((show F50 1 3 = F_38 1 3 from (eF50 1 3))).trans ((pf_38_1_3).trans (congrArg (fun q : Nat => (q : Int)) ((show D50 8 = D_38 8 from (eD50 8))).symm))
      have pf50_1_8 : HID (F50 1 8 = (D50 4 : Int)) := ((show F50 1 8 = F_38 1 8 from (eF50 1 8))).trans ((pf_38_1_8).trans (congrArg (fun q : Nat => (q : Int)) ((show D50 4 = D_38 4 from (eD50 4))).symm))
      have pf50_10_0 : HID (F50 10 0 = (D50 11 : Int)) := (eF50 10 0).trans (pm50_2.trans (congrArg (fun q : Nat => (q : Int)) (eD50 11).symm))
      have r52 : HID ((-2147483648 : Int) ≤ y50_0_1 ∧ y50_0_1 ≤ 2147483647) := krg_e (show (-2147483648 : Int) ≤ F50 10 1 ∧ F50 10 1 ≤ 2147483647 from H.krg 10 1 (ltn len_V139_oz_L1cls rfl)) (show F50 10 1 = y50_0_1 from ((eF50 10 1).trans ey50_0_1))
      have r53 : HID ((0 : Int) ≤ y50_0_2 ∧ y50_0_2 ≤ 1) := krg_e (show (0 : Int) ≤ F50 10 2 ∧ F50 10 2 ≤ 1 from H.krg 10 2 (ltn len_V139_oz_L1cls rfl)) (show F50 10 2 = y50_0_2 from ((eF50 10 2).trans ey50_0_2))
      have hf78 := RAP_from (pz50_3 (by omega)) (by omega) (a := 0) (by omega) (by rw [sc_lenI (by omega)]; omega) (by omega)
      have hb78 := hf78.1
      have hs78 := hf78.2
      rw [j38_l] at hs78
      refine Ew_of (pcₚ := 79) (fun _ => x_iload_n rfl l38_3) ?_
      refine Ew_of (pcₚ := 80) (fun _ => x_aload_n rfl l38_0) ?_
      refine Ew_stk (congrArg (fun qz : Nat => ([.ref qz, I (x38_3)] : List Value)) (show D50 0 = D_38 0 from ((show D50 0 = D_38 0 from (eD50 0)))).symm) ?_
      refine v_g H (o := 0) (v := .ref (D50 1)) rfl rfl rfl rfl rfl (vrf ((mF50 0 1 rfl).trans ((pf1).trans (congrArg (fun q : Nat => (q : Int)) (mD50 1 rfl).symm)))) ?_
      refine v_g H (o := 1) (v := .ref (D50 6)) rfl rfl rfl rfl rfl (vrf (pf50_1_1)) ?_
      refine Ew_of (pcₚ := 88) (fun _ => x_iload rfl l38_4) ?_
      refine v_lI H (o := 6) rfl rfl rfl rfl (n := m23_4) ((congrArg (fun q : Nat => (q : Int)) (show N50 6 = N_38 6 from (eN50 6))).trans ((congrArg (fun q : Nat => (q : Int)) (hN_38 6 rfl)).trans ((congrArg (fun q : Nat => (q : Int)) (eN23 6)).trans em23_4))) (show 0 ≤ x38_4 ∧ x38_4 < m23_4 from q_4396 b39 hlnq j38_2 pz23_1) (fun v54 ev54 (qv54 : HID _) => ?_)
      have ev54 : (w23_4) (x38_4) = v54 := (congrFun (((show A50 6 = A_38 6 from (eA50 6))).trans ((funext (hA_38 6 rfl)).trans (((show A31 6 = A23 6 from (eA31 6))).trans ((eA23 6).trans ew23_4)))) (x38_4)).symm.trans ev54
      have hsf := ev54
      refine Ew_of (pcₚ := 90) (fun _ => x_aload_n rfl l38_0) ?_
      refine Ew_stk (congrArg (fun qz : Nat => ([.ref qz, I (v54), I (x38_3)] : List Value)) (show D50 0 = D_38 0 from ((show D50 0 = D_38 0 from (eD50 0)))).symm) ?_
      refine v_g H (o := 0) (v := .ref (D50 1)) rfl rfl rfl rfl rfl (vrf ((mF50 0 1 rfl).trans ((pf1).trans (congrArg (fun q : Nat => (q : Int)) (mD50 1 rfl).symm)))) ?_
      refine v_g H (o := 1) (v := .ref (D50 7)) rfl rfl rfl rfl rfl (vrf (pf50_1_2)) ?_
      refine Ew_of (pcₚ := 98) (fun _ => x_iload rfl l38_4) ?_
      refine v_lI H (o := 7) rfl rfl rfl rfl (n := m23_5) ((congrArg (fun q : Nat => (q : Int)) (show N50 7 = N_38 7 from (eN50 7))).trans ((congrArg (fun q : Nat => (q : Int)) (hN_38 7 rfl)).trans ((congrArg (fun q : Nat => (q : Int)) (eN23 7)).trans em23_5))) (show 0 ≤ x38_4 ∧ x38_4 < m23_5 from q_3080 b39 j38_2 pz23_1) (fun v55 ev55 (qv55 : HID _) => ?_)
      have ev55 : (w23_5) (x38_4) = v55 := (congrFun (((show A50 7 = A_38 7 from (eA50 7))).trans ((funext (hA_38 7 rfl)).trans (((show A31 7 = A23 7 from (eA31 7))).trans ((eA23 7).trans ew23_5)))) (x38_4)).symm.trans ev55
      have hsg := ev55
      have hsg4 : ((w23_5)) ql4 = (v55) := by rw [hql4]; exact ev55
      refine w_iadd rfl ?_
      refine w_iadd rfl ?_
      refine Ew_of (pcₚ := 102) (fun _ => x_istore_n rfl) ?_
      refine Ew_of (pcₚ := 105) (fun _ => x_iinc (len := 3) rfl (rk_o (l38_4) rfl rfl)) ?_
      refine Ew_of (pcₚ := 38) (fun _ => x_goto rfl rfl) ?_
      have : sc ((w50_2)) 0 ((y50_0_1)) = LTS ((w3)) ((a1)) (sq ((w23_4)) ((w23_5)) ((w23_6)) (((x38_4 + 1)))) 0 := LTS_q (k := ql4) (by (have qg0 := HIDe r52; omega)) (by (have qg0 := HIDe r52; omega)) hen4 hse4 (by (have qg0 := HIDe r52; omega)) (by rw [hql4, hql3]; exact hs78)
      have : ((x38_3 + (v54 + v55))) = enp ((a1)) (sq ((w23_4)) ((w23_5)) ((w23_6)) (((x38_4 + 1)))) := enp_q (k := ql4) (by (have qg0 := HIDe qv54; have qg1 := HIDe qv55; omega)) (by (have qg0 := HIDe qv54; have qg1 := HIDe qv55; omega)) hen4 hse4 hsg4 (by (have qg0 := HIDe qv54; have qg1 := HIDe qv55; omega))
      exact ih38 _ (msE hm38 q_16 (q_17 b39)) _ _ _ _ _ _ _ _ ((x38_3 + (v54 + v55))) ((x38_4 + 1)) ((rk_o (rk_o (l38_0) rfl rfl) rfl rfl).trans (congrArg (fun q : Nat => some (Value.ref q)) (((show D50 0 = D_38 0 from (eD50 0)))).symm)) (rk_o (rk_s) rfl rfl) (rk_s) H O (SD_trans (hD_38) (SD_gluc (ι := oz_L1clsl_6) oz_L1cls_14 hD50 eD50 (by decide +kernel)) (any_subA (lₚ := [11]) (by decide +kernel))) (SD_trans (hN_38) (SD_gluc (ι := oz_L1clsl_6) oz_L1cls_14 hN50 eN50 (by decide +kernel)) (any_subA (lₚ := [11]) (by decide +kernel))) (SF_trans (hS_38) (SF_gluc (ι := oz_L1clsl_6) oz_L1cls_14 hS50 eF50 (by decide +kernel)) (any_sub (lₚ := [(10, 0), (10, 1), (10, 2)]) (by decide +kernel))) (SA_trans (hA_38) (SA_gluc (ι := oz_L1clsl_6) oz_L1cls_14 hA50 eA50 (by decide +kernel)) (any_subA (lₚ := [11]) (by decide +kernel))) (pf50_10_0) (m50_2) ((congrArg (fun q : Nat => (q : Int)) (eN50 11)).trans em50_2) (y50_0_1) (((eF50 10 1).trans ey50_0_1)) (y50_0_2) (((eF50 10 2).trans ey50_0_2)) (w50_2) ((eA50 11).trans ew50_2) (show inr ((x38_3 + (v54 + v55))) by have qh0 := HIDe qv54; have qh1 := HIDe qv55; omega) (show inr ((x38_4 + 1)) from q_4397 b39 hlnq j38_2 pz23_1) (show (0) ≤ ((x38_4 + 1)) from q_14 j38_2) (show ((x38_4 + 1)) ≤ (0) ∨ ((x38_4 + 1)) ≤ ((y23_0_4)) from q_13 b39) (show 0 ≤ (y50_0_1) ∧ (y50_0_1) ≤ (m50_2) ∧ (m50_2) ≤ 65536 from pz50_0) (show ((x38_3 + (v54 + v55))) = (a1) + su (fun j => ((w23_4)) j + ((w23_5)) j) (((x38_4 + 1)) : Int).toNat by have qh0 := HIDe qv54; have qh1 := HIDe qv55; omega) (show (y50_0_2) = 0 ∧ (y50_0_1) ≤ ((x38_3 + (v54 + v55))) - (a1) by have qh0 := HIDe qv54; have qh1 := HIDe qv55; have qh2 := HIDe r52; have qh3 := HIDe r53; omega) (show sc ((w50_2)) 0 ((y50_0_1)) = LTS ((w3)) ((a1)) (sq ((w23_4)) ((w23_5)) ((w23_6)) (((x38_4 + 1)))) 0 by assumption) (show ((x38_3 + (v54 + v55))) = enp ((a1)) (sq ((w23_4)) ((w23_5)) ((w23_6)) (((x38_4 + 1)))) by assumption) rfl


end
section
/-! L2.cls -/
abbrev V144 : vV := [(0, 6, [(4, 0), (4, 0), (4, 0), (4, 0), (4, 0), (4, 0), (4, 0), (4, 0), (4, 0), (4, 0), (4, 0), (4, 0), (4, 0), (4, 0), (4, 0), (0, 0), (0, 0), (4, 0), (4, 0)]), (0, 5, [(4, 0), (4, 0), (4, 0), (4, 0), (0, 0), (0, 0), (0, 0), (4, 0), (4, 0), (0, 0), (0, 0), (0, 0), (0, 0), (0, 0), (0, 0), (0, 0), (0, 0), (0, 0), (0, 0)]), (1, 1, []), (1, 1, []), (1, 1, []), (1, 7, []), (1, 1, []), (1, 1, []), (1, 1, []), (1, 1, []), (0, 9, [(4, 0), (4, 0), (4, 0)]), (1, 2, [])]
theorem len_V144_oz_L2cls : (V144).length = 12 := by decide +kernel
theorem oz_L2cls_1 : vsub V144 V190 [10, 11] = true := by decide +kernel
theorem oz_L2cls_2 : vsub V144 V189 [10, 11] = true := by decide +kernel
theorem oz_L2cls_3 : vsub V144 V145_S7 [] = true := by decide +kernel
theorem oz_L2cls_4 : vsub V144 V45 [] = true := by decide +kernel
theorem oz_L2cls_5 : vsub V144 V145_S9 [] = true := by decide +kernel
def oz_L2clsl_0 : List (Nat × Nat) := [(0, 13), (0, 14)]
theorem oz_L2cls_6 : (oz_L2clsl_0).all (fun p => !tbz 24576 (Nat.add (Nat.mul 32 p.1) p.2)) = true := by decide +kernel
def oz_L2clsl_1 : List Nat := [5, 6, 7, 8, 9, 11]
theorem oz_L2cls_7 : (oz_L2clsl_1).all (fun p => !tbz 3040 p) = true := by decide +kernel
def oz_L2clsl_2 : List Nat := [5, 6, 7, 8, 9]
theorem oz_L2cls_8 : (oz_L2clsl_2).all (fun p => !tbz 992 p) = true := by decide +kernel
def oz_L2clsl_3 : List Nat := [10, 11]
theorem oz_L2cls_9 : okc oz_L2clsl_3 5642 = true := by decide +kernel
def oz_L2clsl_4 : List Nat := []
theorem oz_L2cls_10 : okc oz_L2clsl_4 0 = true := by decide +kernel
set_option maxHeartbeats 16000000 in
theorem C144 {σE : rS} {D N : Nat → Nat} {F : hF} {A : hA} {d c s : Nat} {Q : wQ} (H : HW V144 σE D N F A) (HT : STC σE)  (pf1 : HID (F 0 1 = (D 1 : Int))) (pf2 : HID (F 1 1 = (D 2 : Int))) (pf3 : HID (F 1 2 = (D 3 : Int))) (pf4 : HID (F 1 3 = (D 4 : Int))) (pf5 : HID (F 0 13 = (D 5 : Int))) (pf6 : HID (A 5 0 = (D 6 : Int))) (pf7 : HID (F 0 14 = (D 7 : Int))) (pf8 : HID (A 5 1 = (D 8 : Int))) (pf9 : HID (A 5 2 = (D 9 : Int))) (pf10 : HID (F 0 7 = (D 10 : Int))) (pf11 : HID (F 10 2 = (D 11 : Int))) (n2 : Int) (en2 : HID ((N 2 : Int) = n2)) (n3 : Int) (en3 : HID ((N 3 : Int) = n3)) (n4 : Int) (en4 : HID ((N 4 : Int) = n4)) (n5 : Int) (en5 : HID ((N 5 : Int) = n5)) (n6 : Int) (en6 : HID ((N 6 : Int) = n6)) (n7 : Int) (en7 : HID ((N 7 : Int) = n7)) (n8 : Int) (en8 : HID ((N 8 : Int) = n8)) (n9 : Int) (en9 : HID ((N 9 : Int) = n9)) (n11 : Int) (en11 : HID ((N 11 : Int) = n11)) (u1_4 : Int) (eu1_4 : HID (F 1 4 = u1_4)) (w2 : Int → Int) (ew2 : A 2 = w2) (w3 : Int → Int) (ew3 : A 3 = w3) (w4 : Int → Int) (ew4 : A 4 = w4) (w6 : Int → Int) (ew6 : A 6 = w6) (w7 : Int → Int) (ew7 : A 7 = w7) (w8 : Int → Int) (ew8 : A 8 = w8) (w9 : Int → Int) (ew9 : A 9 = w9) (w11 : Int → Int) (ew11 : A 11 = w11) (h0 : (n2) = (n3) ∧ (n4) = (n3) ∧ (n3) ≤ 65536 ∧ ((n3) = 0 ∨ 64 ≤ (n3)) ∧ lgq ((n3)) = 0) (h1 : 0 ≤ (u1_4) ∧ (u1_4) ≤ (n3)) (h2 : DSI ((w4)) ((u1_4))) (h3 : (n5) = 3 ∧ (n6) = (n7) ∧ (n8) = (n7) ∧ (n9) = (n7) ∧ lgq ((n7)) = 0 ∧ (n7) ≤ 16384) (h4 : (n11) = 3) (k : ∀ (σ : rS) (Dₚ Nₚ : Nat → Nat) (Fₚ : hF) (Aₚ : hA) (cₚ sₚ : Nat), HW V144 σ Dₚ Nₚ Fₚ Aₚ → OUT (V144).length D N σE c s Dₚ Nₚ σ cₚ sₚ → SD [5, 6, 7, 8, 9] D Dₚ → SD [5, 6, 7, 8, 9] N Nₚ → SF [(0, 13), (0, 14)] F Fₚ → SA [5, 6, 7, 8, 9, 11] A Aₚ → Fₚ 0 13 = (Dₚ 5 : Int) → Aₚ 5 0 = (Dₚ 6 : Int) → Fₚ 0 14 = (Dₚ 7 : Int) → Aₚ 5 1 = (Dₚ 8 : Int) → Aₚ 5 2 = (Dₚ 9 : Int) → ∀ m5 : Int, (Nₚ 5 : Int) = m5 → ∀ m6 : Int, (Nₚ 6 : Int) = m6 → ∀ m7 : Int, (Nₚ 7 : Int) = m7 → ∀ m8 : Int, (Nₚ 8 : Int) = m8 → ∀ m9 : Int, (Nₚ 9 : Int) = m9 → ∀ v6 : Int → Int, Aₚ 6 = v6 → ∀ v7 : Int → Int, Aₚ 7 = v7 → ∀ v8 : Int → Int, Aₚ 8 = v8 → ∀ v9 : Int → Int, Aₚ 9 = v9 → ∀ v11 : Int → Int, Aₚ 11 = v11 → ((m5) = 3 ∧ (m6) = (m7) ∧ (m8) = (m7) ∧ (m9) = (m7) ∧ lgq ((m7)) = 0 ∧ (m7) ≤ 16384) → ((u1_4) ≤ (m7)) → (RNG ((v6)) ((u1_4)) 36) → (RNG ((v8)) ((u1_4)) 32) → (RNG ((v9)) ((u1_4)) 53) → (IMP (1 ≤ ((w11)) 0 ∧ 1 ≤ ((w11)) 1 ∧ 1 ≤ ((w11)) 2) (TSL ((v6)) ((v8)) ((v9)) ((v7)) ((w2)) ((w3)) ((w4)) (((w11)) 0, ((w11)) 1, ((w11)) 2) ((u1_4)) ((v11)))) → Q none σ cₚ sₚ) : Ew 144 (d + 2) 0 (rargs 0 [.ref (D 0)]) [] σE c s Q := by
  have O := OUT_refl (n := (V144).length) (D := D) (N := N) (σ := σE) (c := c) (s := s)
  have HE := H
  have r1 : HID ((-2147483648 : Int) ≤ u1_4 ∧ u1_4 ≤ 2147483647) := krg_e (show (-2147483648 : Int) ≤ F 1 4 ∧ F 1 4 ≤ 2147483647 from H.krg 1 4 (ltn len_V144_oz_L2cls rfl)) (show F 1 4 = u1_4 from (eu1_4))
  have r3 : HID ((0 : Int) ≤ n3 ∧ n3 ≤ 1000000) := nrng (H.nle 3 (ltn len_V144_oz_L2cls rfl)) (show (N 3 : Int) = n3 from en3)
  have r6 : HID ((0 : Int) ≤ n6 ∧ n6 ≤ 1000000) := nrng (H.nle 6 (ltn len_V144_oz_L2cls rfl)) (show (N 6 : Int) = n6 from en6)
  have r7 : HID ((0 : Int) ≤ n7 ∧ n7 ≤ 1000000) := nrng (H.nle 7 (ltn len_V144_oz_L2cls rfl)) (show (N 7 : Int) = n7 from en7)
  have r8 : HID ((0 : Int) ≤ n8 ∧ n8 ≤ 1000000) := nrng (H.nle 8 (ltn len_V144_oz_L2cls rfl)) (show (N 8 : Int) = n8 from en8)
  have r9 : HID ((0 : Int) ≤ n9 ∧ n9 ≤ 1000000) := nrng (H.nle 9 (ltn len_V144_oz_L2cls rfl)) (show (N 9 : Int) = n9 from en9)
  have hds : DSI ((w4)) ((u1_4)) := h2
  refine Ew_of (pcₚ := 1) (fun _ => x_aload_n rfl rfl) ?_
  refine v_g H (o := 0) (v := .ref (D 1)) rfl rfl rfl rfl rfl (vrf (pf1)) ?_
  refine v_g H (o := 1) (v := I (u1_4)) rfl rfl rfl rfl rfl (congrArg (fun z : Int => I z) ((eu1_4) : F 1 4 = u1_4)) ?_
  refine Ew_of (pcₚ := 8) (fun _ => x_istore_n rfl) ?_
  have hc47 : ∀ (ls : rO) (σ : rS) (D_c47 N_c47 : Nat → Nat) (c_c47 s_c47 : Nat) (F_c47 : hF) (A_c47 : hA) , rlook ls 0 = some (.ref (D_c47 0)) → rlook ls 1 = some (I (u1_4)) → HW V144 σ D_c47 N_c47 F_c47 A_c47 → OUT (V144).length D N σE c s D_c47 N_c47 σ c_c47 s_c47 → SD [5, 6, 7, 8, 9] D D_c47 → SD [5, 6, 7, 8, 9] N N_c47 → SF [(0, 13), (0, 14)] F F_c47 → SA [5, 6, 7, 8, 9] A A_c47 → F_c47 0 13 = (D_c47 5 : Int) → A_c47 5 0 = (D_c47 6 : Int) → F_c47 0 14 = (D_c47 7 : Int) → A_c47 5 1 = (D_c47 8 : Int) → A_c47 5 2 = (D_c47 9 : Int) → ∀ mc47_5 : Int, (N_c47 5 : Int) = mc47_5 → ∀ mc47_6 : Int, (N_c47 6 : Int) = mc47_6 → ∀ mc47_7 : Int, (N_c47 7 : Int) = mc47_7 → ∀ mc47_8 : Int, (N_c47 8 : Int) = mc47_8 → ∀ mc47_9 : Int, (N_c47 9 : Int) = mc47_9 → ((mc47_5) = 3 ∧ (mc47_6) = (mc47_7) ∧ (mc47_8) = (mc47_7) ∧ (mc47_9) = (mc47_7) ∧ lgq ((mc47_7)) = 0 ∧ (mc47_7) ≤ 16384) → ((u1_4) ≤ (mc47_7)) → Ew 144 (d + 2) 47 ls [] σ c_c47 s_c47 Q := by
   as_aux_lemma =>
    intro  ls σ D_c47 N_c47 c_c47 s_c47 F_c47 A_c47  lc47_0 lc47_1 H O hD_c47 hN_c47 hS_c47 hA_c47 pmc47_5 pmc47_6 pmc47_7 pmc47_8 pmc47_9 mc47_5 emc47_5 mc47_6 emc47_6 mc47_7 emc47_7 mc47_8 emc47_8 mc47_9 emc47_9   jc47_0 jc47_1
    have cF_c47 : SF oz_L2clsl_0 F F_c47 := SF_trans (SF_refl) hS_c47 (any_sub (by decide +kernel))
    have mF_c47 := SFm_of cF_c47 oz_L2cls_6
    have cA_c47 : SA oz_L2clsl_1 A A_c47 := SA_trans (SA_refl) hA_c47 (any_subA (by decide +kernel))
    have mA_c47 := SAm_of cA_c47 oz_L2cls_7
    have cD_c47 : SD oz_L2clsl_2 D D_c47 := SD_trans (SD_refl) hD_c47 (any_subA (by decide +kernel))
    have mD_c47 := SDm_of cD_c47 oz_L2cls_8
    have cN_c47 : SD oz_L2clsl_2 N N_c47 := SD_trans (SD_refl) hN_c47 (any_subA (by decide +kernel))
    have mN_c47 := SDm_of cN_c47 oz_L2cls_8
    replace pmc47_5 := HIDm pmc47_5
    replace pmc47_6 := HIDm pmc47_6
    replace pmc47_7 := HIDm pmc47_7
    replace pmc47_8 := HIDm pmc47_8
    replace pmc47_9 := HIDm pmc47_9
    replace emc47_5 := HIDm emc47_5
    replace emc47_6 := HIDm emc47_6
    replace emc47_7 := HIDm emc47_7
    replace emc47_8 := HIDm emc47_8
    replace emc47_9 := HIDm emc47_9
    have r11 : HID ((0 : Int) ≤ mc47_5 ∧ mc47_5 ≤ 1000000) := nrng (H.nle 5 (ltn len_V144_oz_L2cls rfl)) (show (N_c47 5 : Int) = mc47_5 from emc47_5)
    have r13 : HID ((0 : Int) ≤ mc47_7 ∧ mc47_7 ≤ 1000000) := nrng (H.nle 7 (ltn len_V144_oz_L2cls rfl)) (show (N_c47 7 : Int) = mc47_7 from emc47_7)
    refine Ew_of (pcₚ := 48) (fun _ => x_iconst rfl) ?_
    refine Ew_of (pcₚ := 49) (fun _ => x_istore_n rfl) ?_
    have hr00 : RNG ((A_c47 6)) (0) 36 := RNG_0
    have hr01 : RNG ((A_c47 8)) (0) 32 := RNG_0
    have hr02 : RNG ((A_c47 9)) (0) 53 := RNG_0
    have : IMP (1 ≤ ((w11)) 0 ∧ 1 ≤ ((w11)) 1 ∧ 1 ≤ ((w11)) 2) (TSL ((A_c47 6)) ((A_c47 8)) ((A_c47 9)) ((A_c47 7)) ((w2)) ((w3)) ((w4)) (((w11)) 0, ((w11)) 1, ((w11)) 2) (0) ((w11))) := fun q => TSL_0 q
    suffices hl49 : ∀ (m : Nat), ∀ (ls : rO) (σ : rS) (F_49 : hF) (A_49 : hA) (x49_2 : Int), rlook ls 0 = some (.ref (D_c47 0)) → rlook ls 1 = some (I (u1_4)) → rlook ls 2 = some (I (x49_2)) → HW V144 σ D_c47 N_c47 F_49 A_49 → OUT (V144).length D N σE c s D_c47 N_c47 σ c_c47 s_c47 → SF [] F_c47 F_49 → SA [6, 7, 8, 9, 11] A_c47 A_49 → ∀ w49_6 : Int → Int, A_49 6 = w49_6 → ∀ w49_7 : Int → Int, A_49 7 = w49_7 → ∀ w49_8 : Int → Int, A_49 8 = w49_8 → ∀ w49_9 : Int → Int, A_49 9 = w49_9 → ∀ w49_11 : Int → Int, A_49 11 = w49_11 → (inr (x49_2)) → ((0) ≤ (x49_2)) → ((x49_2) ≤ (0) ∨ (x49_2) ≤ ((u1_4))) → (RNG ((w49_6)) ((x49_2)) 36) → (RNG ((w49_8)) ((x49_2)) 32) → (RNG ((w49_9)) ((x49_2)) 53) → (IMP (1 ≤ ((w11)) 0 ∧ 1 ≤ ((w11)) 1 ∧ 1 ≤ ((w11)) 2) (TSL ((w49_6)) ((w49_8)) ((w49_9)) ((w49_7)) ((w2)) ((w3)) ((w4)) (((w11)) 0, ((w11)) 1, ((w11)) 2) ((x49_2)) ((w49_11)))) → (((u1_4)) - (x49_2)).toNat = m → Ew 144 (d + 2) 49 ls [] σ c_c47 s_c47 Q from
      hl49 _ _ _ _ _ (0) (rk_o (lc47_0) rfl rfl) (rk_o (lc47_1) rfl rfl) (rk_s) H O (SF_refl) (SA_refl)    (A_c47 6) (rfl) (A_c47 7) (rfl) (A_c47 8) (rfl) (A_c47 9) (rfl) (w11) ((funext (hA_c47 11 rfl)).trans (ew11)) (show inr (0) from q_2) (show (0) ≤ (0) from q_1) (show (0) ≤ (0) ∨ (0) ≤ ((u1_4)) from q_5) (hr00) (hr01) (hr02) (show IMP (1 ≤ ((w11)) 0 ∧ 1 ≤ ((w11)) 1 ∧ 1 ≤ ((w11)) 2) (TSL ((A_c47 6)) ((A_c47 8)) ((A_c47 9)) ((A_c47 7)) ((w2)) ((w3)) ((w4)) (((w11)) 0, ((w11)) 1, ((w11)) 2) ((0)) ((w11))) by assumption) rfl
    as_aux_lemma =>
    intro m
    induction m using Nat.strongRecOn with
    | _ m ih49 =>
      intro ls σ F_49 A_49 x49_2 l49_0 l49_1 l49_2 H O hS_49 hA_49    w49_6 ew49_6 w49_7 ew49_7 w49_8 ew49_8 w49_9 ew49_9 w49_11 ew49_11 j49_0 j49_1 j49_2 j49_3 j49_4 j49_5 j49_6 hm49
      have cF_49 : SF oz_L2clsl_0 F F_49 := SF_trans (cF_c47) hS_49 (any_sub (by decide +kernel))
      have mF_49 := SFm_of cF_49 oz_L2cls_6
      have cA_49 : SA oz_L2clsl_1 A A_49 := SA_trans (cA_c47) hA_49 (any_subA (by decide +kernel))
      have mA_49 := SAm_of cA_49 oz_L2cls_7
      have hr0 : RNG ((w49_6)) ((x49_2)) 36 := j49_3
      have hr1 : RNG ((w49_8)) ((x49_2)) 32 := j49_4
      have hr2 : RNG ((w49_9)) ((x49_2)) 53 := j49_5
      have j49_t : IMP (1 ≤ ((w11)) 0 ∧ 1 ≤ ((w11)) 1 ∧ 1 ≤ ((w11)) 2) (TSL ((w49_6)) ((w49_8)) ((w49_9)) ((w49_7)) ((w2)) ((w3)) ((w4)) (((w11)) 0, ((w11)) 1, ((w11)) 2) ((x49_2)) ((w49_11))) := by assumption
      obtain ⟨ql2, hql2⟩ : ∃ q : Int, q = (x49_2) := ⟨_, rfl⟩
      refine Ew_of (pcₚ := 50) (fun _ => x_iload_n rfl l49_2) ?_
      refine Ew_of (pcₚ := 51) (fun _ => x_iload_n rfl l49_1) ?_
      refine w_icmpge (t := 164) rfl rfl (show inr (x49_2) from j49_0) (show inr (u1_4) from q_4398 (HIDe r1) h1) (fun b16 => ?_) (fun b16 => ?_)
      · have hl2 : (x49_2) = (u1_4) := by (have qg0 := HIDe r1; omega)
        have hq0 : RNG ((w49_6)) ((u1_4)) 36 := by rw [← hl2]; assumption
        have hq1 : RNG ((w49_8)) ((u1_4)) 32 := by rw [← hl2]; assumption
        have hq2 : RNG ((w49_9)) ((u1_4)) 53 := by rw [← hl2]; assumption
        have : IMP (1 ≤ ((w11)) 0 ∧ 1 ≤ ((w11)) 1 ∧ 1 ≤ ((w11)) 2) (TSL ((w49_6)) ((w49_8)) ((w49_9)) ((w49_7)) ((w2)) ((w3)) ((w4)) (((w11)) 0, ((w11)) 1, ((w11)) 2) ((u1_4)) ((w49_11))) := by rw [← hl2]; exact j49_t
        exact w_ret rfl (k _ _ _ _ _ _ _ H O (cD_c47) (cN_c47) (cF_49) (cA_49) (((hS_49 0 13 rfl)).trans (pmc47_5)) ((congrFun ((funext (hA_49 5 rfl))) 0).trans (pmc47_6)) (((hS_49 0 14 rfl)).trans (pmc47_7)) ((congrFun ((funext (hA_49 5 rfl))) 1).trans (pmc47_8)) ((congrFun ((funext (hA_49 5 rfl))) 2).trans (pmc47_9)) (mc47_5) (emc47_5) (mc47_6) (emc47_6) (mc47_7) (emc47_7) (mc47_8) (emc47_8) (mc47_9) (emc47_9) (w49_6) (ew49_6) (w49_7) (ew49_7) (w49_8) (ew49_8) (w49_9) (ew49_9) (w49_11) (ew49_11) (show (mc47_5) = 3 ∧ (mc47_6) = (mc47_7) ∧ (mc47_8) = (mc47_7) ∧ (mc47_9) = (mc47_7) ∧ lgq ((mc47_7)) = 0 ∧ (mc47_7) ≤ 16384 from jc47_0) (show (u1_4) ≤ (mc47_7) from jc47_1) (hq0) (hq1) (hq2) (show IMP (1 ≤ ((w11)) 0 ∧ 1 ≤ ((w11)) 1 ∧ 1 ≤ ((w11)) 2) (TSL ((w49_6)) ((w49_8)) ((w49_9)) ((w49_7)) ((w2)) ((w3)) ((w4)) (((w11)) 0, ((w11)) 1, ((w11)) 2) ((u1_4)) ((w49_11))) by assumption))
      · refine Ew_of (pcₚ := 55) (fun _ => x_aload_n rfl l49_0) ?_
        refine v_g H (o := 0) (v := .ref (D_c47 1)) rfl rfl rfl rfl rfl (vrf ((mF_49 0 1 rfl).trans ((pf1).trans (congrArg (fun q : Nat => (q : Int)) (mD_c47 1 rfl).symm)))) ?_
        refine v_g H (o := 1) (v := .ref (D_c47 2)) rfl rfl rfl rfl rfl (vrf ((mF_49 1 1 rfl).trans ((pf2).trans (congrArg (fun q : Nat => (q : Int)) (mD_c47 2 rfl).symm)))) ?_
        refine Ew_of (pcₚ := 62) (fun _ => x_iload_n rfl l49_2) ?_
        refine v_lI H (o := 2) rfl rfl rfl rfl (n := n2) ((congrArg (fun q : Nat => (q : Int)) (mN_c47 2 rfl)).trans (en2)) (show 0 ≤ x49_2 ∧ x49_2 < n2 from q_4399 b16 h0 h1 j49_1) (fun v17 ev17 (qv17 : HID _) => ?_)
        have ev17 : (w2) (x49_2) = v17 := (congrFun ((funext (mA_49 2 rfl)).trans (ew2)) (x49_2)).symm.trans ev17
        have hli := ev17
        refine Ew_of (pcₚ := 64) (fun _ => x_istore_n rfl) ?_
        refine Ew_of (pcₚ := 65) (fun _ => x_aload_n rfl (rk_o (l49_0) rfl rfl)) ?_
        refine v_g H (o := 0) (v := .ref (D_c47 7)) rfl rfl rfl rfl rfl (vrf (((hS_49 0 14 rfl)).trans (pmc47_7))) ?_
        refine Ew_of (pcₚ := 69) (fun _ => x_iload_n rfl (rk_o (l49_2) rfl rfl)) ?_
        refine Ew_of (pcₚ := 70) (fun _ => x_aload_n rfl (rk_o (l49_0) rfl rfl)) ?_
        refine v_g H (o := 0) (v := .ref (D_c47 10)) rfl rfl rfl rfl rfl (vrf ((mF_49 0 7 rfl).trans ((pf10).trans (congrArg (fun q : Nat => (q : Int)) (mD_c47 10 rfl).symm)))) ?_
        refine Ew_of (pcₚ := 74) (fun _ => x_aload_n rfl (rk_o (l49_0) rfl rfl)) ?_
        refine v_g H (o := 0) (v := .ref (D_c47 1)) rfl rfl rfl rfl rfl (vrf ((mF_49 0 1 rfl).trans ((pf1).trans (congrArg (fun q : Nat => (q : Int)) (mD_c47 1 rfl).symm)))) ?_
        refine v_g H (o := 1) (v := .ref (D_c47 4)) rfl rfl rfl rfl rfl (vrf ((mF_49 1 3 rfl).trans ((pf4).trans (congrArg (fun q : Nat => (q : Int)) (mD_c47 4 rfl).symm)))) ?_
        refine Ew_of (pcₚ := 81) (fun _ => x_iload_n rfl (rk_o (l49_2) rfl rfl)) ?_
        refine v_lI H (o := 4) rfl rfl rfl rfl (n := n4) ((congrArg (fun q : Nat => (q : Int)) (mN_c47 4 rfl)).trans (en4)) (show 0 ≤ x49_2 ∧ x49_2 < n4 from q_4400 b16 h0 h1 j49_1) (fun v18 ev18 (qv18 : HID _) => ?_)
        have ev18 : (w4) (x49_2) = v18 := (congrFun ((funext (mA_49 4 rfl)).trans (ew4)) (x49_2)).symm.trans ev18
        have hdi := ev18
        have hdv := hds ((x49_2)) (by omega) (by omega)
        rw [ev18] at hdv
        refine Ew_of (pcₚ := 83) (fun _ => x_iload_n rfl rk_s) ?_
        refine v_inv H (o := 10) rfl rfl rfl rfl rfl rfl (by rfl) (C190 (D := puc 5642 D_c47) (N := puc 5642 N_c47) (HW_subc H oz_L2cls_1 oz_L2cls_9) ((mF_49 10 2 rfl).trans ((pf11).trans (congrArg (fun q : Nat => (q : Int)) (mD_c47 11 rfl).symm))) (n11) ((congrArg (fun q : Nat => (q : Int)) (mN_c47 11 rfl)).trans (en11)) (w49_11) (ew49_11) (show inr (v18) from (HIDe qv18)) (show inr (v17) from (HIDe qv17)) (show 1 ≤ (v18) ∧ (v18) ≤ 16384 by have qh0 := HIDe qv18; omega) (show (n11) = 3 from h4) (fun z19 σ19 F19ₚ A19ₚ Hₚ Oₚ hS19 hA19 pz19_0 pz19_1 pz19_2 => ⟨rfl, ?_⟩))
        refine v_backc (c := c_c47) (s := s_c47) H oz_L2cls_1 oz_L2cls_9 Hₚ Oₚ (fun F19 A19 H Oₚ eF19 eA19 => ?_)
        have O := OUT_trans O Oₚ
        -- Stand.leastFor
        have cF19 : SF oz_L2clsl_0 F F19 := SF_trans (cF_49) (SF_gluc (ι := oz_L2clsl_3) oz_L2cls_9 hS19 eF19 (by decide +kernel)) (any_sub (lₚ := []) (by decide +kernel))
        have mF19 := SFm_of cF19 oz_L2cls_6
        have cA19 : SA oz_L2clsl_1 A A19 := SA_trans (cA_49) (SA_gluc (ι := oz_L2clsl_3) oz_L2cls_9 hA19 eA19 (by decide +kernel)) (any_subA (lₚ := []) (by decide +kernel))
        have mA19 := SAm_of cA19 oz_L2cls_7
        have hnu := pz19_2
        obtain ⟨qnu, hqnu⟩ : ∃ q : Int, q = (z19) := ⟨_, rfl⟩
        refine v_sI H (o := 7) (z := z19) rfl rfl rfl rfl (n := mc47_7) (emc47_7) (show 0 ≤ x49_2 ∧ x49_2 < mc47_7 from q_4401 b16 j49_1 jc47_1) (show inr (z19) from pz19_0) (fun σ H Oₚ => ?_)
        have O := OUT_trans O Oₚ
        have cAu20 : SA oz_L2clsl_1 A (updA A19 7 (x49_2) (z19)) := SA_upd (cA19) rfl
        have mAu20 := SAm_of cAu20 oz_L2cls_7
        refine Ew_of (pcₚ := 88) (fun _ => x_aload_n rfl (rk_o (l49_0) rfl rfl)) ?_
        refine v_g H (o := 0) (v := .ref (D_c47 10)) rfl rfl rfl rfl rfl (vrf ((mF19 0 7 rfl).trans ((pf10).trans (congrArg (fun q : Nat => (q : Int)) (mD_c47 10 rfl).symm)))) ?_
        refine Ew_of (pcₚ := 92) (fun _ => x_aload_n rfl (rk_o (l49_0) rfl rfl)) ?_
        refine v_g H (o := 0) (v := .ref (D_c47 7)) rfl rfl rfl rfl rfl (vrf (((((show F19 0 14 = F_49 0 14 from (eF19 0 14))).trans (hS_49 0 14 rfl))).trans (pmc47_7))) ?_
        refine Ew_of (pcₚ := 96) (fun _ => x_iload_n rfl (rk_o (l49_2) rfl rfl)) ?_
        refine v_lI H (o := 7) rfl rfl rfl rfl (n := mc47_7) (emc47_7) (show 0 ≤ x49_2 ∧ x49_2 < mc47_7 from q_4401 b16 j49_1 jc47_1) (fun v21 ev21 (qv21 : HID _) => ?_)
        have ev21 : (upd1 (w49_7) (x49_2) (z19)) (x49_2) = v21 := (congrFun (congrArg (fun q => upd1 q (x49_2) (z19)) (((show A19 7 = A_49 7 from (eA19 7))).trans (ew49_7))) (x49_2)).symm.trans ev21
        have hnq : ((v21) : Int) = qnu := by have w := ev21; rw [upd1_s] at w; (have qg0 := HIDe qv21; omega)
        have hnv : 1 ≤ ((v21) : Int) ∧ ((v21) : Int) ≤ 16387 := by have w := ev21; rw [upd1_s] at w; (have qg0 := HIDe qv21; omega)
        refine w_i2l rfl (show inr (v21) from (HIDe qv21)) ?_
        refine Ew_of (pcₚ := 99) (fun _ => x_iload_n rfl rk_s) ?_
        refine v_inv H (o := 10) rfl rfl rfl rfl rfl rfl (by rfl) (C189 (D := puc 5642 D_c47) (N := puc 5642 N_c47) (HW_subc H oz_L2cls_2 oz_L2cls_9) ((mF19 10 2 rfl).trans ((pf11).trans (congrArg (fun q : Nat => (q : Int)) (mD_c47 11 rfl).symm))) (n11) ((congrArg (fun q : Nat => (q : Int)) (mN_c47 11 rfl)).trans (en11)) (w49_11) (((show A19 11 = A_49 11 from (eA19 11).trans (funext (hA19 1 rfl)))).trans (ew49_11)) (show inrJ (v21) from q_4404 hnv) (show inr (v17) from (HIDe qv17)) (show 1 ≤ (v21) from q_4403 hnv) (show (n11) = 3 from h4) (show (v21) ≤ 9000000000000000000 from q_4402 hnv) (fun z22 σ22 F22ₚ A22ₚ Hₚ Oₚ hS22 hA22 w22_1 ew22_1 pz22_0 pz22_1 => ⟨rfl, ?_⟩))
        refine v_backc (c := c_c47) (s := s_c47) H oz_L2cls_2 oz_L2cls_9 Hₚ Oₚ (fun F22 A22 H Oₚ eF22 eA22 => ?_)
        have O := OUT_trans O Oₚ
        -- Stand.tellDistance
        have cF22 : SF oz_L2clsl_0 F F22 := SF_trans (cF19) (SF_gluc (ι := oz_L2clsl_3) oz_L2cls_9 hS22 eF22 (by decide +kernel)) (any_sub (lₚ := []) (by decide +kernel))
        have mF22 := SFm_of cF22 oz_L2cls_6
        have cA22 : SA oz_L2clsl_1 A A22 := SA_trans (cAu20) (SA_gluc (ι := oz_L2clsl_3) oz_L2cls_9 hA22 eA22 (by decide +kernel)) (any_subA (lₚ := [11]) (by decide +kernel))
        have mA22 := SAm_of cA22 oz_L2cls_7
        have htd := pz22_1
        rw [hnq, hqnu] at htd
        refine Ew_of (pcₚ := 103) (fun _ => x_pop2 rfl) ?_
        refine Ew_of (pcₚ := 104) (fun _ => x_aload_n rfl (rk_o (l49_0) rfl rfl)) ?_
        refine v_g H (o := 0) (v := .ref (D_c47 5)) rfl rfl rfl rfl rfl (vrf ((((((show F22 0 13 = F19 0 13 from (eF22 0 13))).trans ((show F19 0 13 = F_49 0 13 from (eF19 0 13)))).trans (hS_49 0 13 rfl))).trans (pmc47_5))) ?_
        refine Ew_of (pcₚ := 108) (fun _ => x_iconst rfl) ?_
        refine v_lR H (o := 5) rfl rfl rfl rfl rfl (n := mc47_5) (emc47_5) (show 0 ≤ 0 ∧ 0 < mc47_5 from q_4405 (HIDe r11) jc47_0) (z := ((D_c47 6 : Nat) : Int)) (v := .ref (D_c47 6)) ((congrFun (((((show A22 5 = (updA A19 7 (x49_2) (z19)) 5 from (eA22 5))).trans ((show A19 5 = A_49 5 from (eA19 5)))).trans (funext (hA_49 5 rfl)))) 0).trans (pmc47_6)) (vrf rfl) ?_
        refine Ew_of (pcₚ := 110) (fun _ => x_iload_n rfl (rk_o (l49_2) rfl rfl)) ?_
        refine Ew_of (pcₚ := 111) (fun _ => x_iload_n rfl rk_s) ?_
        refine Ew_of (pcₚ := 114) (fun _ => x_getstatic rfl) ?_
        refine w_stat24 rfl rfl (by rfl) (C145_S7 (D := puc 0 D_c47) (N := puc 0 N_c47) (HW_subc H oz_L2cls_3 oz_L2cls_10) (STC_out HT HE O) (show inr (v17) from (HIDe qv17)) (fun z23 σ23 F23ₚ A23ₚ Hₚ Oₚ hS23 hA23 pz23_0 pz23_1 pz23_2 => ⟨rfl, ?_⟩))
        refine v_backc (c := c_c47) (s := s_c47) H oz_L2cls_3 oz_L2cls_10 Hₚ Oₚ (fun F23 A23 H Oₚ eF23 eA23 => ?_)
        have O := OUT_trans O Oₚ
        -- Packer.symbolFor
        have cF23 : SF oz_L2clsl_0 F F23 := SF_trans (cF22) (SF_gluc (ι := oz_L2clsl_4) oz_L2cls_10 hS23 eF23 (by decide +kernel)) (any_sub (lₚ := []) (by decide +kernel))
        have mF23 := SFm_of cF23 oz_L2cls_6
        have cA23 : SA oz_L2clsl_1 A A23 := SA_trans (cA22) (SA_gluc (ι := oz_L2clsl_4) oz_L2cls_10 hA23 eA23 (by decide +kernel)) (any_subA (lₚ := []) (by decide +kernel))
        have mA23 := SAm_of cA23 oz_L2cls_7
        have hv0 : 0 ≤ ((z23) : Int) ∧ ((z23) : Int) < 36 := pz23_1
        have hy0 := pz23_2
        refine v_sI H (o := 6) (z := z23) rfl rfl rfl rfl (n := mc47_6) (emc47_6) (show 0 ≤ x49_2 ∧ x49_2 < mc47_6 from q_4406 b16 j49_1 jc47_0 jc47_1) (show inr (z23) from pz23_0) (fun σ H Oₚ => ?_)
        have O := OUT_trans O Oₚ
        have cAu24 : SA oz_L2clsl_1 A (updA A23 6 (x49_2) (z23)) := SA_upd (cA23) rfl
        have mAu24 := SAm_of cAu24 oz_L2cls_7
        refine Ew_of (pcₚ := 119) (fun _ => x_aload_n rfl (rk_o (l49_0) rfl rfl)) ?_
        refine v_g H (o := 0) (v := .ref (D_c47 5)) rfl rfl rfl rfl rfl (vrf (((((((show F23 0 13 = F22 0 13 from (eF23 0 13))).trans ((show F22 0 13 = F19 0 13 from (eF22 0 13)))).trans ((show F19 0 13 = F_49 0 13 from (eF19 0 13)))).trans (hS_49 0 13 rfl))).trans (pmc47_5))) ?_
        refine Ew_of (pcₚ := 123) (fun _ => x_iconst rfl) ?_
        refine v_lR H (o := 5) rfl rfl rfl rfl rfl (n := mc47_5) (emc47_5) (show 0 ≤ 1 ∧ 1 < mc47_5 from q_4407 (HIDe r11) jc47_0) (z := ((D_c47 8 : Nat) : Int)) (v := .ref (D_c47 8)) ((congrFun ((((((show A23 5 = A22 5 from (eA23 5))).trans ((show A22 5 = (updA A19 7 (x49_2) (z19)) 5 from (eA22 5)))).trans ((show A19 5 = A_49 5 from (eA19 5)))).trans (funext (hA_49 5 rfl)))) 1).trans (pmc47_8)) (vrf rfl) ?_
        refine Ew_of (pcₚ := 125) (fun _ => x_iload_n rfl (rk_o (l49_2) rfl rfl)) ?_
        refine Ew_of (pcₚ := 126) (fun _ => x_aload_n rfl (rk_o (l49_0) rfl rfl)) ?_
        refine v_g H (o := 0) (v := .ref (D_c47 7)) rfl rfl rfl rfl rfl (vrf (((((((show F23 0 14 = F22 0 14 from (eF23 0 14))).trans ((show F22 0 14 = F19 0 14 from (eF22 0 14)))).trans ((show F19 0 14 = F_49 0 14 from (eF19 0 14)))).trans (hS_49 0 14 rfl))).trans (pmc47_7))) ?_
        refine Ew_of (pcₚ := 130) (fun _ => x_iload_n rfl (rk_o (l49_2) rfl rfl)) ?_
        refine v_lI H (o := 7) rfl rfl rfl rfl (n := mc47_7) (emc47_7) (show 0 ≤ x49_2 ∧ x49_2 < mc47_7 from q_4401 b16 j49_1 jc47_1) (fun v25 ev25 (qv25 : HID _) => ?_)
        have ev25 : (upd1 (w49_7) (x49_2) (z19)) (x49_2) = v25 := (congrFun (((show A23 7 = A22 7 from (eA23 7))).trans (((show A22 7 = (updA A19 7 (x49_2) (z19)) 7 from (eA22 7))).trans (congrArg (fun q => upd1 q (x49_2) (z19)) (((show A19 7 = A_49 7 from (eA19 7))).trans (ew49_7))))) (x49_2)).symm.trans ev25
        have hnr : ((v25) : Int) = qnu := by have w := ev25; rw [upd1_s] at w; (have qg0 := HIDe qv25; omega)
        have hnv2 : 1 ≤ ((v25) : Int) := by have w := ev25; rw [upd1_s] at w; (have qg0 := HIDe qv25; omega)
        refine w_stat25 rfl rfl (by rfl) (C45 (D := puc 0 D_c47) (N := puc 0 N_c47) (HW_subc H oz_L2cls_4 oz_L2cls_10) (show inr (v25) from (HIDe qv25)) (show 1 ≤ (v25) from hnv2) (fun z26 σ26 F26ₚ A26ₚ Hₚ Oₚ hS26 hA26 pz26_0 pz26_1 pz26_2 => ⟨rfl, ?_⟩))
        refine v_backc (c := c_c47) (s := s_c47) H oz_L2cls_4 oz_L2cls_10 Hₚ Oₚ (fun F26 A26 H Oₚ eF26 eA26 => ?_)
        have O := OUT_trans O Oₚ
        -- PackHouse.highestBit
        have cF26 : SF oz_L2clsl_0 F F26 := SF_trans (cF23) (SF_gluc (ι := oz_L2clsl_4) oz_L2cls_10 hS26 eF26 (by decide +kernel)) (any_sub (lₚ := []) (by decide +kernel))
        have mF26 := SFm_of cF26 oz_L2cls_6
        have cA26 : SA oz_L2clsl_1 A A26 := SA_trans (cAu24) (SA_gluc (ι := oz_L2clsl_4) oz_L2cls_10 hA26 eA26 (by decide +kernel)) (any_subA (lₚ := []) (by decide +kernel))
        have mA26 := SAm_of cA26 oz_L2cls_7
        refine v_sI H (o := 8) (z := z26) rfl rfl rfl rfl (n := mc47_8) (emc47_8) (show 0 ≤ x49_2 ∧ x49_2 < mc47_8 from q_4408 b16 j49_1 jc47_0 jc47_1) (show inr (z26) from pz26_0) (fun σ H Oₚ => ?_)
        have O := OUT_trans O Oₚ
        have cAu27 : SA oz_L2clsl_1 A (updA A26 8 (x49_2) (z26)) := SA_upd (cA26) rfl
        have mAu27 := SAm_of cAu27 oz_L2cls_7
        refine Ew_of (pcₚ := 136) (fun _ => x_aload_n rfl (rk_o (l49_0) rfl rfl)) ?_
        refine v_g H (o := 0) (v := .ref (D_c47 5)) rfl rfl rfl rfl rfl (vrf ((((((((show F26 0 13 = F23 0 13 from (eF26 0 13))).trans ((show F23 0 13 = F22 0 13 from (eF23 0 13)))).trans ((show F22 0 13 = F19 0 13 from (eF22 0 13)))).trans ((show F19 0 13 = F_49 0 13 from (eF19 0 13)))).trans (hS_49 0 13 rfl))).trans (pmc47_5))) ?_
        refine Ew_of (pcₚ := 140) (fun _ => x_iconst rfl) ?_
        refine v_lR H (o := 5) rfl rfl rfl rfl rfl (n := mc47_5) (emc47_5) (show 0 ≤ 2 ∧ 2 < mc47_5 from q_4409 jc47_0) (z := ((D_c47 9 : Nat) : Int)) (v := .ref (D_c47 9)) ((congrFun (((((((show A26 5 = (updA A23 6 (x49_2) (z23)) 5 from (eA26 5))).trans ((show A23 5 = A22 5 from (eA23 5)))).trans ((show A22 5 = (updA A19 7 (x49_2) (z19)) 5 from (eA22 5)))).trans ((show A19 5 = A_49 5 from (eA19 5)))).trans (funext (hA_49 5 rfl)))) 2).trans (pmc47_9)) (vrf rfl) ?_
        refine Ew_of (pcₚ := 142) (fun _ => x_iload_n rfl (rk_o (l49_2) rfl rfl)) ?_
        refine Ew_of (pcₚ := 143) (fun _ => x_aload_n rfl (rk_o (l49_0) rfl rfl)) ?_
        refine v_g H (o := 0) (v := .ref (D_c47 1)) rfl rfl rfl rfl rfl (vrf ((mF26 0 1 rfl).trans ((pf1).trans (congrArg (fun q : Nat => (q : Int)) (mD_c47 1 rfl).symm)))) ?_
        refine v_g H (o := 1) (v := .ref (D_c47 3)) rfl rfl rfl rfl rfl (vrf ((mF26 1 2 rfl).trans ((pf3).trans (congrArg (fun q : Nat => (q : Int)) (mD_c47 3 rfl).symm)))) ?_
        refine Ew_of (pcₚ := 150) (fun _ => x_iload_n rfl (rk_o (l49_2) rfl rfl)) ?_
        refine v_lI H (o := 3) rfl rfl rfl rfl (n := n3) ((congrArg (fun q : Nat => (q : Int)) (mN_c47 3 rfl)).trans (en3)) (show 0 ≤ x49_2 ∧ x49_2 < n3 from q_4410 b16 h1 j49_1) (fun v28 ev28 (qv28 : HID _) => ?_)
        have ev28 : (w3) (x49_2) = v28 := (congrFun ((funext (mAu27 3 rfl)).trans (ew3)) (x49_2)).symm.trans ev28
        have hle_ := ev28
        refine Ew_of (pcₚ := 154) (fun _ => x_getstatic rfl) ?_
        refine w_stat24 rfl rfl (by rfl) (C145_S9 (D := puc 0 D_c47) (N := puc 0 N_c47) (HW_subc H oz_L2cls_5 oz_L2cls_10) (STC_out HT HE O) (show inr (v28) from (HIDe qv28)) (fun z29 σ29 F29ₚ A29ₚ Hₚ Oₚ hS29 hA29 pz29_0 pz29_1 pz29_2 => ⟨rfl, ?_⟩))
        refine v_backc (c := c_c47) (s := s_c47) H oz_L2cls_5 oz_L2cls_10 Hₚ Oₚ (fun F29 A29 H Oₚ eF29 eA29 => ?_)
        have O := OUT_trans O Oₚ
        -- Packer.symbolFor
        have cF29 : SF oz_L2clsl_0 F F29 := SF_trans (cF26) (SF_gluc (ι := oz_L2clsl_4) oz_L2cls_10 hS29 eF29 (by decide +kernel)) (any_sub (lₚ := []) (by decide +kernel))
        have mF29 := SFm_of cF29 oz_L2cls_6
        have cA29 : SA oz_L2clsl_1 A A29 := SA_trans (cAu27) (SA_gluc (ι := oz_L2clsl_4) oz_L2cls_10 hA29 eA29 (by decide +kernel)) (any_subA (lₚ := []) (by decide +kernel))
        have mA29 := SAm_of cA29 oz_L2cls_7
        have hy2 := pz29_2
        refine v_sI H (o := 9) (z := z29) rfl rfl rfl rfl (n := mc47_9) (emc47_9) (show 0 ≤ x49_2 ∧ x49_2 < mc47_9 from q_4411 b16 j49_1 jc47_0 jc47_1) (show inr (z29) from pz29_0) (fun σ H Oₚ => ?_)
        have O := OUT_trans O Oₚ
        have cAu30 : SA oz_L2clsl_1 A (updA A29 9 (x49_2) (z29)) := SA_upd (cA29) rfl
        have mAu30 := SAm_of cAu30 oz_L2cls_7
        refine Ew_of (pcₚ := 161) (fun _ => x_iinc (len := 3) rfl (rk_o (l49_2) rfl rfl)) ?_
        refine Ew_of (pcₚ := 49) (fun _ => x_goto rfl rfl) ?_
        have hs0 : RNG ((upd1 (w49_6) (x49_2) (z23))) (((x49_2 + 1))) 36 := RNG_s hr0 rfl (by omega)
        have hs1 : RNG ((upd1 (w49_8) (x49_2) (z26))) (((x49_2 + 1))) 32 := RNG_s hr1 rfl (by omega)
        have hs2 : RNG ((upd1 (w49_9) (x49_2) (z29))) (((x49_2 + 1))) 53 := RNG_s hr2 rfl (by omega)
        have : IMP (1 ≤ ((w11)) 0 ∧ 1 ≤ ((w11)) 1 ∧ 1 ≤ ((w11)) 2) (TSL ((upd1 (w49_6) (x49_2) (z23))) ((upd1 (w49_8) (x49_2) (z26))) ((upd1 (w49_9) (x49_2) (z29))) ((upd1 (w49_7) (x49_2) (z19))) ((w2)) ((w3)) ((w4)) (((w11)) 0, ((w11)) 1, ((w11)) 2) (((x49_2 + 1))) ((w22_1))) := fun q => TSL_s (j49_t q) (by omega) rfl hdi hli hle_ (by omega) (hnu (j49_t q).2.2.1) (htd (j49_t q).2.2) hy0 hy2 (by omega) (by omega)
        exact ih49 _ (msE hm49 q_16 (q_17 b16)) _ _ _ _ ((x49_2 + 1)) (rk_o (rk_o (l49_0) rfl rfl) rfl rfl) (rk_o (rk_o (l49_1) rfl rfl) rfl rfl) (rk_s) H O (SF_trans (SF_trans (SF_trans (SF_trans (SF_trans (hS_49) (SF_gluc (ι := oz_L2clsl_3) oz_L2cls_9 hS19 eF19 (by decide +kernel)) (any_sub (lₚ := []) (by decide +kernel))) (SF_gluc (ι := oz_L2clsl_3) oz_L2cls_9 hS22 eF22 (by decide +kernel)) (any_sub (lₚ := []) (by decide +kernel))) (SF_gluc (ι := oz_L2clsl_4) oz_L2cls_10 hS23 eF23 (by decide +kernel)) (any_sub (lₚ := []) (by decide +kernel))) (SF_gluc (ι := oz_L2clsl_4) oz_L2cls_10 hS26 eF26 (by decide +kernel)) (any_sub (lₚ := []) (by decide +kernel))) (SF_gluc (ι := oz_L2clsl_4) oz_L2cls_10 hS29 eF29 (by decide +kernel)) (any_sub (lₚ := []) (by decide +kernel))) (SA_upd (SA_trans (SA_upd (SA_trans (SA_upd (SA_trans (SA_trans (SA_upd (SA_trans (hA_49) (SA_gluc (ι := oz_L2clsl_3) oz_L2cls_9 hA19 eA19 (by decide +kernel)) (any_subA (lₚ := []) (by decide +kernel))) rfl) (SA_gluc (ι := oz_L2clsl_3) oz_L2cls_9 hA22 eA22 (by decide +kernel)) (any_subA (lₚ := [11]) (by decide +kernel))) (SA_gluc (ι := oz_L2clsl_4) oz_L2cls_10 hA23 eA23 (by decide +kernel)) (any_subA (lₚ := []) (by decide +kernel))) rfl) (SA_gluc (ι := oz_L2clsl_4) oz_L2cls_10 hA26 eA26 (by decide +kernel)) (any_subA (lₚ := []) (by decide +kernel))) rfl) (SA_gluc (ι := oz_L2clsl_4) oz_L2cls_10 hA29 eA29 (by decide +kernel)) (any_subA (lₚ := []) (by decide +kernel))) rfl)    (upd1 (w49_6) (x49_2) (z23)) (((show A29 6 = (updA A26 8 (x49_2) (z26)) 6 from (eA29 6))).trans (((show A26 6 = (updA A23 6 (x49_2) (z23)) 6 from (eA26 6))).trans (congrArg (fun q => upd1 q (x49_2) (z23)) (((show A23 6 = A22 6 from (eA23 6))).trans (((show A22 6 = (updA A19 7 (x49_2) (z19)) 6 from (eA22 6))).trans (((show A19 6 = A_49 6 from (eA19 6))).trans (ew49_6))))))) (upd1 (w49_7) (x49_2) (z19)) (((show A29 7 = (updA A26 8 (x49_2) (z26)) 7 from (eA29 7))).trans (((show A26 7 = (updA A23 6 (x49_2) (z23)) 7 from (eA26 7))).trans (((show A23 7 = A22 7 from (eA23 7))).trans (((show A22 7 = (updA A19 7 (x49_2) (z19)) 7 from (eA22 7))).trans (congrArg (fun q => upd1 q (x49_2) (z19)) (((show A19 7 = A_49 7 from (eA19 7))).trans (ew49_7))))))) (upd1 (w49_8) (x49_2) (z26)) (((show A29 8 = (updA A26 8 (x49_2) (z26)) 8 from (eA29 8))).trans (congrArg (fun q => upd1 q (x49_2) (z26)) (((show A26 8 = (updA A23 6 (x49_2) (z23)) 8 from (eA26 8))).trans (((show A23 8 = A22 8 from (eA23 8))).trans (((show A22 8 = (updA A19 7 (x49_2) (z19)) 8 from (eA22 8))).trans (((show A19 8 = A_49 8 from (eA19 8))).trans (ew49_8))))))) (upd1 (w49_9) (x49_2) (z29)) (congrArg (fun q => upd1 q (x49_2) (z29)) (((show A29 9 = (updA A26 8 (x49_2) (z26)) 9 from (eA29 9))).trans (((show A26 9 = (updA A23 6 (x49_2) (z23)) 9 from (eA26 9))).trans (((show A23 9 = A22 9 from (eA23 9))).trans (((show A22 9 = (updA A19 7 (x49_2) (z19)) 9 from (eA22 9))).trans (((show A19 9 = A_49 9 from (eA19 9))).trans (ew49_9))))))) (w22_1) (((show A29 11 = (updA A26 8 (x49_2) (z26)) 11 from (eA29 11))).trans (((show A26 11 = (updA A23 6 (x49_2) (z23)) 11 from (eA26 11))).trans (((show A23 11 = A22 11 from (eA23 11))).trans ((eA22 11).trans ew22_1)))) (show inr ((x49_2 + 1)) from q_4412 (HIDe r13) b16 j49_1 jc47_1) (show (0) ≤ ((x49_2 + 1)) from q_14 j49_1) (show ((x49_2 + 1)) ≤ (0) ∨ ((x49_2 + 1)) ≤ ((u1_4)) from q_13 b16) (hs0) (hs1) (hs2) (show IMP (1 ≤ ((w11)) 0 ∧ 1 ≤ ((w11)) 1 ∧ 1 ≤ ((w11)) 2) (TSL ((upd1 (w49_6) (x49_2) (z23))) ((upd1 (w49_8) (x49_2) (z26))) ((upd1 (w49_9) (x49_2) (z29))) ((upd1 (w49_7) (x49_2) (z19))) ((w2)) ((w3)) ((w4)) (((w11)) 0, ((w11)) 1, ((w11)) 2) (((x49_2 + 1))) ((w22_1))) by assumption) rfl
  refine Ew_of (pcₚ := 9) (fun _ => x_aload_n rfl (rk_o (rfl) rfl rfl)) ?_
  refine v_g H (o := 0) (v := .ref (D 7)) rfl rfl rfl rfl rfl (vrf (pf7)) ?_
  refine v_len H (o := 7) rfl rfl rfl rfl (n := n7) (en7) ?_
  refine Ew_of (pcₚ := 14) (fun _ => x_iload_n rfl rk_s) ?_
  refine w_icmpge (t := 47) rfl rfl (show inr (n7) from q_37 (HIDe r7)) (show inr (u1_4) from q_4398 (HIDe r1) h1) (fun b31 => ?_) (fun b31 => ?_)
  · exact hc47  _ _ _ _ _ _ _ _  (rk_o (rfl) rfl rfl) (rk_s) H O (SD_refl) (SD_refl) (SF_refl) (SA_refl) (pf5) (pf6) (pf7) (pf8) (pf9) (n5) (en5) (n6) (en6) (n7) (en7) (n8) (en8) (n9) (en9)   (show (n5) = 3 ∧ (n6) = (n7) ∧ (n8) = (n7) ∧ (n9) = (n7) ∧ lgq ((n7)) = 0 ∧ (n7) ≤ 16384 from h3) (show (u1_4) ≤ (n7) from b31)
  · refine Ew_of (pcₚ := 18) (fun _ => x_iload_n rfl rk_s) ?_
    refine Ew_of (pcₚ := 19) (fun _ => x_aload_n rfl (rk_o (rfl) rfl rfl)) ?_
    refine v_g H (o := 0) (v := .ref (D 1)) rfl rfl rfl rfl rfl (vrf (pf1)) ?_
    refine v_g H (o := 1) (v := .ref (D 3)) rfl rfl rfl rfl rfl (vrf (pf3)) ?_
    refine v_len H (o := 3) rfl rfl rfl rfl (n := n3) (en3) ?_
    refine v_max rfl rfl (show inr (u1_4) from q_4398 (HIDe r1) h1) (show inr (n3) from q_37 (HIDe r3)) (fun z32 gz32 => ?_)
    refine Ew_of (pcₚ := 30) (fun _ => x_istore_n rfl) ?_
    have hlz : lgq ((z32)) = 0 := lgq_e (b := (n3)) (by (have qg0 := HIDe r3; omega)) (by (have qg0 := HIDe r3; omega))
    have hlt : (n7) < (z32) ∧ (z32) ≤ 16384 := by have w := lgq_i hlz; (have qg0 := HIDe r7; omega)
    have hg0 := grow_ok2 (m := (n7)) (n := (z32)) (by (have qg0 := HIDe r7; omega)) (by (have qg0 := HIDe r7; omega)) (by (have qg0 := HIDe r7; omega)) hlz
    have hg1 := hg0.1
    have hg2 := hg0.2.1
    have hgm0 := (grow_ok2 (m := (n6)) (n := (z32)) (by (have qg0 := HIDe r6; have qg1 := HIDe r7; omega)) (by (have qg0 := HIDe r6; have qg1 := HIDe r7; omega)) (lgq_e (b := (n7)) (by (have qg0 := HIDe r6; have qg1 := HIDe r7; omega)) (by (have qg0 := HIDe r6; have qg1 := HIDe r7; omega))) hlz).2.2
    have hgm1 := (grow_ok2 (m := (n8)) (n := (z32)) (by (have qg0 := HIDe r7; have qg1 := HIDe r8; omega)) (by (have qg0 := HIDe r7; have qg1 := HIDe r8; omega)) (lgq_e (b := (n7)) (by (have qg0 := HIDe r7; have qg1 := HIDe r8; omega)) (by (have qg0 := HIDe r7; have qg1 := HIDe r8; omega))) hlz).2.2
    have hgm2 := (grow_ok2 (m := (n9)) (n := (z32)) (by (have qg0 := HIDe r7; have qg1 := HIDe r9; omega)) (by (have qg0 := HIDe r7; have qg1 := HIDe r9; omega)) (lgq_e (b := (n7)) (by (have qg0 := HIDe r7; have qg1 := HIDe r9; omega)) (by (have qg0 := HIDe r7; have qg1 := HIDe r9; omega))) hlz).2.2
    refine Ew_of (pcₚ := 31) (fun _ => x_aload_n rfl (rk_o (rk_o (rfl) rfl rfl) rfl rfl)) ?_
    refine Ew_of (pcₚ := 32) (fun _ => x_iload_n rfl rk_s) ?_
    refine v_newI H (p := 0) (k := 14) (t := 7) (n := z32) rfl rfl rfl (fun _ => rfl) rfl rfl rfl rfl (fun z => vrf (z := (z : Int)) rfl) rfl rfl rfl rfl (by decide +kernel) rfl (m := n7) (en7) (show 0 ≤ z32 ∧ z32 ≤ 1000000 from q_4413 (HIDe r7) hlt) (show pC (n7 : Int).toNat + 1 ≤ pC (z32 : Int).toNat by assumption) (show pS (n7 : Int).toNat + z32 ≤ pS (z32 : Int).toNat by assumption) (fun σ D33 N33 F33 A33 H Oₚ hD33 hN33 (em33 : HID _) hS33 (pm33 : HID _) hA33 ga33 => ?_)
    have O := OUT_trans O Oₚ
    have cF33 : SF oz_L2clsl_0 F F33 := SF_trans (SF_refl) hS33 (any_sub (by decide +kernel))
    have mF33 := SFm_of cF33 oz_L2cls_6
    have cA33 : SA oz_L2clsl_1 A A33 := SA_trans (SA_refl) hA33 (any_subA (by decide +kernel))
    have mA33 := SAm_of cA33 oz_L2cls_7
    have cD33 : SD oz_L2clsl_2 D D33 := SD_trans (SD_refl) hD33 (any_subA (by decide +kernel))
    have mD33 := SDm_of cD33 oz_L2cls_8
    have cN33 : SD oz_L2clsl_2 N N33 := SD_trans (SD_refl) hN33 (any_subA (by decide +kernel))
    have mN33 := SDm_of cN33 oz_L2cls_8
    have pe33_5_0 : HID (A33 5 0 = (D33 6 : Int)) := (congrFun (funext (hA33 5 rfl)) 0).trans ((pf6).trans (congrArg (fun q : Nat => (q : Int)) (hD33 6 rfl).symm))
    have pe33_5_1 : HID (A33 5 1 = (D33 8 : Int)) := (congrFun (funext (hA33 5 rfl)) 1).trans ((pf8).trans (congrArg (fun q : Nat => (q : Int)) (hD33 8 rfl).symm))
    have pe33_5_2 : HID (A33 5 2 = (D33 9 : Int)) := (congrFun (funext (hA33 5 rfl)) 2).trans ((pf9).trans (congrArg (fun q : Nat => (q : Int)) (hD33 9 rfl).symm))
    have pf33_0_13 : HID (F33 0 13 = (D33 5 : Int)) := (hS33 0 13 rfl).trans ((pf5).trans (congrArg (fun q : Nat => (q : Int)) (hD33 5 rfl).symm))
    have pf33_0_14 : HID (F33 0 14 = (D33 7 : Int)) := pm33
    refine Ew_of (pcₚ := 38) (fun _ => x_aload_n rfl (rk_o (rk_o (rfl) rfl rfl) rfl rfl)) ?_
    refine Ew_of (pcₚ := 39) (fun _ => x_iconst rfl) ?_
    refine Ew_of (pcₚ := 40) (fun _ => x_iload_n rfl rk_s) ?_
    refine Ew_stk (congrArg (fun qz : Nat => ([I (z32), I (3), .ref qz] : List Value)) (show D33 0 = D 0 from mD33 0 rfl).symm) ?_
    refine v_multi H (p := 0) (k := 13) (t := 5) (a := 6) (b := 8) (e := 9) (n := z32) rfl rfl rfl (fun _ => rfl) rfl rfl rfl rfl (fun z => vrf (z := (z : Int)) rfl) rfl rfl rfl rfl (by decide +kernel) rfl rfl rfl (by decide +kernel) rfl rfl rfl (by decide +kernel) rfl rfl rfl (by decide +kernel) (by decide) (((congrArg (fun q : Nat => (q : Int)) (hN33 5 rfl)).trans (en5)).trans (show n5 = 3 from q_4414 h3)) (m0 := n6) ((congrArg (fun q : Nat => (q : Int)) (hN33 6 rfl)).trans (en6)) (m1 := n8) ((congrArg (fun q : Nat => (q : Int)) (hN33 8 rfl)).trans (en8)) (m2 := n9) ((congrArg (fun q : Nat => (q : Int)) (hN33 9 rfl)).trans (en9)) (show 0 ≤ z32 ∧ z32 ≤ 1000000 from q_4413 (HIDe r7) hlt) (show pC (n6 : Int).toNat + 2 ≤ pC (z32 : Int).toNat ∧ pS (n6 : Int).toNat + z32 + 1 ≤ pS (z32 : Int).toNat by assumption) (show pC (n8 : Int).toNat + 2 ≤ pC (z32 : Int).toNat ∧ pS (n8 : Int).toNat + z32 + 1 ≤ pS (z32 : Int).toNat by assumption) (show pC (n9 : Int).toNat + 2 ≤ pC (z32 : Int).toNat ∧ pS (n9 : Int).toNat + z32 + 1 ≤ pS (z32 : Int).toNat by assumption) (fun σ D34 N34 F34 A34 H Oₚ hD34 hN34 (em34_t : HID _) (em34_0 : HID _) (em34_1 : HID _) (em34_2 : HID _) hS34 (pm34 : HID _) hA34 (pj34_0 : HID _) (pj34_1 : HID _) (pj34_2 : HID _) => ?_)
    have O := OUT_trans O Oₚ
    have cF34 : SF oz_L2clsl_0 F F34 := SF_trans (cF33) hS34 (any_sub (by decide +kernel))
    have mF34 := SFm_of cF34 oz_L2cls_6
    have cA34 : SA oz_L2clsl_1 A A34 := SA_trans (cA33) hA34 (any_subA (by decide +kernel))
    have mA34 := SAm_of cA34 oz_L2cls_7
    have cD34 : SD oz_L2clsl_2 D D34 := SD_trans (cD33) hD34 (any_subA (by decide +kernel))
    have mD34 := SDm_of cD34 oz_L2cls_8
    have cN34 : SD oz_L2clsl_2 N N34 := SD_trans (cN33) hN34 (any_subA (by decide +kernel))
    have mN34 := SDm_of cN34 oz_L2cls_8
    have pe34_5_0 : HID (A34 5 0 = (D34 6 : Int)) := pj34_0
    have pe34_5_1 : HID (A34 5 1 = (D34 8 : Int)) := pj34_1
    have pe34_5_2 : HID (A34 5 2 = (D34 9 : Int)) := pj34_2
    have pf34_0_13 : HID (F34 0 13 = (D34 5 : Int)) := pm34
    have pf34_0_14 : HID (F34 0 14 = (D34 7 : Int)) := (hS34 0 14 rfl).trans ((pf33_0_14).trans (congrArg (fun q : Nat => (q : Int)) (hD34 7 rfl).symm))
    have r35 : (0 : Int) ≤ 3 ∧ 3 ≤ 1000000 := by omega
    exact hc47  _ _ _ _ _ _ _ _  ((rk_o (rk_o (rfl) rfl rfl) rfl rfl).trans (congrArg (fun q : Nat => some (Value.ref q)) (mD34 0 rfl).symm)) (rk_o (rk_s) rfl rfl) H O (SD_trans (SD_trans (SD_refl) hD33 (any_subA (by decide +kernel))) hD34 (any_subA (by decide +kernel))) (SD_trans (SD_trans (SD_refl) hN33 (any_subA (by decide +kernel))) hN34 (any_subA (by decide +kernel))) (SF_trans (SF_trans (SF_refl) hS33 (any_sub (by decide +kernel))) hS34 (any_sub (by decide +kernel))) (SA_trans (SA_trans (SA_refl) hA33 (any_subA (by decide +kernel))) hA34 (any_subA (by decide +kernel))) (pf34_0_13) (pe34_5_0) (pf34_0_14) (pe34_5_1) (pe34_5_2) (3) (em34_t) (z32) (em34_0) (z32) ((congrArg (fun q : Nat => (q : Int)) (hN34 7 rfl)).trans (em33)) (z32) (em34_1) (z32) (em34_2)   (show (3) = 3 ∧ (z32) = (z32) ∧ (z32) = (z32) ∧ (z32) = (z32) ∧ lgq ((z32)) = 0 ∧ (z32) ≤ 16384 from q_4416 hlt hlz) (show (u1_4) ≤ (z32) from q_4415 gz32 h1)


end
section
/-! L3.cls -/
abbrev V143 : vV := [(0, 6, [(4, 0), (4, 0), (4, 0), (4, 0), (4, 0), (4, 0), (4, 0), (4, 0), (4, 0), (4, 0), (4, 0), (4, 0), (4, 0), (4, 0), (4, 0), (0, 0), (0, 0), (4, 0), (4, 0)]), (0, 5, [(4, 0), (4, 0), (4, 0), (4, 0), (0, 0), (0, 0), (0, 0), (4, 0), (4, 0), (0, 0), (0, 0), (0, 0), (0, 0), (0, 0), (0, 0), (0, 0), (0, 0), (0, 0), (0, 0)]), (1, 1, []), (1, 1, []), (1, 1, []), (1, 7, []), (1, 1, []), (1, 1, []), (1, 1, []), (1, 1, []), (0, 9, [(4, 0), (4, 0), (4, 0)]), (1, 2, []), (0, 7, [(4, 0), (0, 0), (1, 0), (0, 0), (0, 0)]), (1, 0, [])]
theorem len_V143_oz_L3cls : (V143).length = 14 := by decide +kernel
theorem oz_L3cls_1 : vsub V143 V159 [12, 13] = true := by decide +kernel
theorem oz_L3cls_2 : vmov V143 [12, 13] [1] = true := by decide +kernel
theorem oz_L3cls_3 : vsub V143 V144 [0, 1, 2, 3, 4, 5, 6, 7, 8, 9, 10, 11] = true := by decide +kernel
theorem oz_L3cls_4 : vmov V143 [0, 1, 2, 3, 4, 5, 6, 7, 8, 9, 10, 11] [5, 6, 7, 8, 9] = true := by decide +kernel
def oz_L3clsl_0 : List (Nat × Nat) := [(0, 13), (0, 14), (12, 0), (12, 1), (12, 2)]
theorem oz_L3cls_5 : (oz_L3clsl_0).all (fun p => !tbz 275814043374761354485953280701005296635558174893258126675638053829720052400480474279899863784194409485646395932172288 (Nat.add (Nat.mul 32 p.1) p.2)) = true := by decide +kernel
def oz_L3clsl_1 : List Nat := [5, 6, 7, 8, 9, 11, 13]
theorem oz_L3cls_6 : (oz_L3clsl_1).all (fun p => !tbz 11232 p) = true := by decide +kernel
def oz_L3clsl_2 : List Nat := [5, 6, 7, 8, 9, 13]
theorem oz_L3cls_7 : (oz_L3clsl_2).all (fun p => !tbz 9184 p) = true := by decide +kernel
def oz_L3clsl_3 : List Nat := [12, 13]
theorem oz_L3cls_8 : okc oz_L3clsl_3 6668 = true := by decide +kernel
def oz_L3clsl_4 : List Nat := [0, 1, 2, 3, 4, 5, 6, 7, 8, 9, 10, 11]
theorem oz_L3cls_9 : okc oz_L3clsl_4 6984479500156472304109347144192 = true := by decide +kernel
set_option maxHeartbeats 16000000 in
theorem C143 {σE : rS} {D N : Nat → Nat} {F : hF} {A : hA} {d c s : Nat} {Q : wQ} (H : HW V143 σE D N F A) (HT : STC σE)  (pf1 : HID (F 0 1 = (D 1 : Int))) (pf2 : HID (F 1 1 = (D 2 : Int))) (pf3 : HID (F 1 2 = (D 3 : Int))) (pf4 : HID (F 1 3 = (D 4 : Int))) (pf5 : HID (F 0 13 = (D 5 : Int))) (pf6 : HID (A 5 0 = (D 6 : Int))) (pf7 : HID (F 0 14 = (D 7 : Int))) (pf8 : HID (A 5 1 = (D 8 : Int))) (pf9 : HID (A 5 2 = (D 9 : Int))) (pf10 : HID (F 0 7 = (D 10 : Int))) (pf11 : HID (F 10 2 = (D 11 : Int))) (pf12 : HID (F 0 8 = (D 12 : Int))) (pf13 : HID (F 12 0 = (D 13 : Int))) (n2 : Int) (en2 : HID ((N 2 : Int) = n2)) (n3 : Int) (en3 : HID ((N 3 : Int) = n3)) (n4 : Int) (en4 : HID ((N 4 : Int) = n4)) (n5 : Int) (en5 : HID ((N 5 : Int) = n5)) (n6 : Int) (en6 : HID ((N 6 : Int) = n6)) (n7 : Int) (en7 : HID ((N 7 : Int) = n7)) (n8 : Int) (en8 : HID ((N 8 : Int) = n8)) (n9 : Int) (en9 : HID ((N 9 : Int) = n9)) (n11 : Int) (en11 : HID ((N 11 : Int) = n11)) (n13 : Int) (en13 : HID ((N 13 : Int) = n13)) (u1_4 : Int) (eu1_4 : HID (F 1 4 = u1_4)) (u12_1 : Int) (eu12_1 : HID (F 12 1 = u12_1)) (u12_2 : Int) (eu12_2 : HID (F 12 2 = u12_2)) (w2 : Int → Int) (ew2 : A 2 = w2) (w3 : Int → Int) (ew3 : A 3 = w3) (w4 : Int → Int) (ew4 : A 4 = w4) (w6 : Int → Int) (ew6 : A 6 = w6) (w7 : Int → Int) (ew7 : A 7 = w7) (w8 : Int → Int) (ew8 : A 8 = w8) (w9 : Int → Int) (ew9 : A 9 = w9) (w11 : Int → Int) (ew11 : A 11 = w11) (w13 : Int → Int) (ew13 : A 13 = w13) (h0 : (n2) = (n3) ∧ (n4) = (n3) ∧ (n3) ≤ 65536 ∧ ((n3) = 0 ∨ 64 ≤ (n3)) ∧ lgq ((n3)) = 0) (h1 : 0 ≤ (u1_4) ∧ (u1_4) ≤ (n3)) (h2 : (u1_4) ≤ 16384) (h3 : DSI ((w4)) ((u1_4))) (h4 : (n5) = 3 ∧ (n6) = (n7) ∧ (n8) = (n7) ∧ (n9) = (n7) ∧ lgq ((n7)) = 0 ∧ (n7) ≤ 16384) (h5 : (n11) = 3) (h6 : 0 ≤ (u12_1) ∧ (u12_1) ≤ (n13) ∧ (n13) ≤ 65536) (k : ∀ (z : Int) (σ : rS) (Dₚ Nₚ : Nat → Nat) (Fₚ : hF) (Aₚ : hA) (cₚ sₚ : Nat), HW V143 σ Dₚ Nₚ Fₚ Aₚ → OUT (V143).length D N σE c s Dₚ Nₚ σ cₚ sₚ → SD [5, 6, 7, 8, 9, 13] D Dₚ → SD [5, 6, 7, 8, 9, 13] N Nₚ → SF [(0, 13), (0, 14), (12, 0), (12, 1), (12, 2)] F Fₚ → SA [5, 6, 7, 8, 9, 11, 13] A Aₚ → Fₚ 0 13 = (Dₚ 5 : Int) → Aₚ 5 0 = (Dₚ 6 : Int) → Fₚ 0 14 = (Dₚ 7 : Int) → Aₚ 5 1 = (Dₚ 8 : Int) → Aₚ 5 2 = (Dₚ 9 : Int) → Fₚ 12 0 = (Dₚ 13 : Int) → ∀ m5 : Int, (Nₚ 5 : Int) = m5 → ∀ m6 : Int, (Nₚ 6 : Int) = m6 → ∀ m7 : Int, (Nₚ 7 : Int) = m7 → ∀ m8 : Int, (Nₚ 8 : Int) = m8 → ∀ m9 : Int, (Nₚ 9 : Int) = m9 → ∀ m13 : Int, (Nₚ 13 : Int) = m13 → ∀ y12_1 : Int, Fₚ 12 1 = y12_1 → ∀ y12_2 : Int, Fₚ 12 2 = y12_2 → ∀ v6 : Int → Int, Aₚ 6 = v6 → ∀ v7 : Int → Int, Aₚ 7 = v7 → ∀ v8 : Int → Int, Aₚ 8 = v8 → ∀ v9 : Int → Int, Aₚ 9 = v9 → ∀ v11 : Int → Int, Aₚ 11 = v11 → ∀ v13 : Int → Int, Aₚ 13 = v13 → (inr (z)) → (0 ≤ (z)) → ((m5) = 3 ∧ (m6) = (m7) ∧ (m8) = (m7) ∧ (m9) = (m7) ∧ lgq ((m7)) = 0 ∧ (m7) ≤ 16384) → ((u1_4) ≤ (m7)) → (0 ≤ (y12_1) ∧ (y12_1) ≤ (m13) ∧ (m13) ≤ 65536) → (IMP (1 ≤ (u1_4)) (RNG ((v6)) ((u1_4)) 36)) → (IMP (1 ≤ (u1_4)) (RNG ((v8)) ((u1_4)) 32)) → (IMP (1 ≤ (u1_4)) (RNG ((v9)) ((u1_4)) 53)) → (RAP ((u12_2)) ((w13)) ((u12_1)) ((y12_2)) ((v13)) ((y12_1)) (numB ((u1_4)) ++ (if (u1_4) ≤ 0 then [] else [0]))) → (IMP ((u12_2) = 0 ∧ (u12_1) + 4 ≤ 65536) ((z) = (u12_1) + ((numB ((u1_4))).length : Int))) → (IMP (1 ≤ ((w11)) 0 ∧ 1 ≤ ((w11)) 1 ∧ 1 ≤ ((w11)) 2) (TSL ((v6)) ((v8)) ((v9)) ((v7)) ((w2)) ((w3)) ((w4)) (((w11)) 0, ((w11)) 1, ((w11)) 2) ((u1_4)) ((v11)))) → Q (some (I z)) σ cₚ sₚ) : Ew 143 (d + 3) 0 (rargs 0 [.ref (D 0)]) [] σE c s Q := by
  have O := OUT_refl (n := (V143).length) (D := D) (N := N) (σ := σE) (c := c) (s := s)
  have HE := H
  have r1 : HID ((-2147483648 : Int) ≤ u1_4 ∧ u1_4 ≤ 2147483647) := krg_e (show (-2147483648 : Int) ≤ F 1 4 ∧ F 1 4 ≤ 2147483647 from H.krg 1 4 (ltn len_V143_oz_L3cls rfl)) (show F 1 4 = u1_4 from (eu1_4))
  have r2 : HID ((-2147483648 : Int) ≤ u12_1 ∧ u12_1 ≤ 2147483647) := krg_e (show (-2147483648 : Int) ≤ F 12 1 ∧ F 12 1 ≤ 2147483647 from H.krg 12 1 (ltn len_V143_oz_L3cls rfl)) (show F 12 1 = u12_1 from (eu12_1))
  have r3 : HID ((0 : Int) ≤ u12_2 ∧ u12_2 ≤ 1) := krg_e (show (0 : Int) ≤ F 12 2 ∧ F 12 2 ≤ 1 from H.krg 12 2 (ltn len_V143_oz_L3cls rfl)) (show F 12 2 = u12_2 from (eu12_2))
  have r9 : HID ((0 : Int) ≤ n7 ∧ n7 ≤ 1000000) := nrng (H.nle 7 (ltn len_V143_oz_L3cls rfl)) (show (N 7 : Int) = n7 from en7)
  refine Ew_of (pcₚ := 1) (fun _ => x_aload_n rfl rfl) ?_
  refine v_g H (o := 0) (v := .ref (D 1)) rfl rfl rfl rfl rfl (vrf (pf1)) ?_
  refine v_g H (o := 1) (v := I (u1_4)) rfl rfl rfl rfl rfl (congrArg (fun z : Int => I z) ((eu1_4) : F 1 4 = u1_4)) ?_
  refine Ew_of (pcₚ := 8) (fun _ => x_istore_n rfl) ?_
  have hc30 : ∀ (ls : rO) (σ : rS) (D_c30 N_c30 : Nat → Nat) (c_c30 s_c30 : Nat) (F_c30 : hF) (A_c30 : hA) , rlook ls 0 = some (.ref (D_c30 0)) → rlook ls 1 = some (I (u1_4)) → HW V143 σ D_c30 N_c30 F_c30 A_c30 → OUT (V143).length D N σE c s D_c30 N_c30 σ c_c30 s_c30 → SD [13] D D_c30 → SD [13] N N_c30 → SF [(12, 0), (12, 1), (12, 2)] F F_c30 → SA [13] A A_c30 → F_c30 12 0 = (D_c30 13 : Int) → ∀ mc30_13 : Int, (N_c30 13 : Int) = mc30_13 → ∀ yc30_12_1 : Int, F_c30 12 1 = yc30_12_1 → ∀ yc30_12_2 : Int, F_c30 12 2 = yc30_12_2 → ∀ wc30_13 : Int → Int, A_c30 13 = wc30_13 → (0 ≤ (yc30_12_1) ∧ (yc30_12_1) ≤ (mc30_13) ∧ (mc30_13) ≤ 65536) → (RAP ((u12_2)) ((w13)) ((u12_1)) ((yc30_12_2)) ((wc30_13)) ((yc30_12_1)) ((if (u1_4) < 128 then [] else [128 + (u1_4) / 256]))) → Ew 143 (d + 3) 30 ls [] σ c_c30 s_c30 Q := by
   as_aux_lemma =>
    intro  ls σ D_c30 N_c30 c_c30 s_c30 F_c30 A_c30  lc30_0 lc30_1 H O hD_c30 hN_c30 hS_c30 hA_c30 pmc30_13 mc30_13 emc30_13 yc30_12_1 eyc30_12_1 yc30_12_2 eyc30_12_2 wc30_13 ewc30_13 jc30_0 jc30_1
    have cF_c30 : SF oz_L3clsl_0 F F_c30 := SF_trans (SF_refl) hS_c30 (any_sub (by decide +kernel))
    have mF_c30 := SFm_of cF_c30 oz_L3cls_5
    have cA_c30 : SA oz_L3clsl_1 A A_c30 := SA_trans (SA_refl) hA_c30 (any_subA (by decide +kernel))
    have mA_c30 := SAm_of cA_c30 oz_L3cls_6
    have cD_c30 : SD oz_L3clsl_2 D D_c30 := SD_trans (SD_refl) hD_c30 (any_subA (by decide +kernel))
    have mD_c30 := SDm_of cD_c30 oz_L3cls_7
    have cN_c30 : SD oz_L3clsl_2 N N_c30 := SD_trans (SD_refl) hN_c30 (any_subA (by decide +kernel))
    have mN_c30 := SDm_of cN_c30 oz_L3cls_7
    replace pmc30_13 := HIDm pmc30_13
    replace emc30_13 := HIDm emc30_13
    replace eyc30_12_1 := HIDm eyc30_12_1
    replace eyc30_12_2 := HIDm eyc30_12_2
    have pe_c30_5_0 : HID (A_c30 5 0 = (D_c30 6 : Int)) := (hA_c30 5 rfl 0).trans ((pf6).trans (congrArg (fun q : Nat => (q : Int)) (hD_c30 6 rfl).symm))
    have pe_c30_5_1 : HID (A_c30 5 1 = (D_c30 8 : Int)) := (hA_c30 5 rfl 1).trans ((pf8).trans (congrArg (fun q : Nat => (q : Int)) (hD_c30 8 rfl).symm))
    have pe_c30_5_2 : HID (A_c30 5 2 = (D_c30 9 : Int)) := (hA_c30 5 rfl 2).trans ((pf9).trans (congrArg (fun q : Nat => (q : Int)) (hD_c30 9 rfl).symm))
    have pf_c30_0_13 : HID (F_c30 0 13 = (D_c30 5 : Int)) := (hS_c30 0 13 rfl).trans ((pf5).trans (congrArg (fun q : Nat => (q : Int)) (hD_c30 5 rfl).symm))
    have pf_c30_0_14 : HID (F_c30 0 14 = (D_c30 7 : Int)) := (hS_c30 0 14 rfl).trans ((pf7).trans (congrArg (fun q : Nat => (q : Int)) (hD_c30 7 rfl).symm))
    have h30 : RAP ((u12_2)) ((w13)) ((u12_1)) ((yc30_12_2)) ((wc30_13)) ((yc30_12_1)) ((if (u1_4) < 128 then [] else [128 + (u1_4) / 256])) := by assumption
    refine Ew_of (pcₚ := 31) (fun _ => x_aload_n rfl lc30_0) ?_
    refine v_g H (o := 0) (v := .ref (D_c30 12)) rfl rfl rfl rfl rfl (vrf ((mF_c30 0 8 rfl).trans ((pf12).trans (congrArg (fun q : Nat => (q : Int)) (mD_c30 12 rfl).symm)))) ?_
    refine Ew_of (pcₚ := 35) (fun _ => x_iload_n rfl lc30_1) ?_
    refine v_inv H (o := 12) rfl rfl rfl rfl rfl rfl (by rfl) (C159 (D := puc 6668 D_c30) (N := puc 6668 N_c30) (HW_subc H oz_L3cls_1 oz_L3cls_8) (pmc30_13) (mc30_13) (emc30_13) (yc30_12_1) ((eyc30_12_1)) (yc30_12_2) ((eyc30_12_2)) (wc30_13) (ewc30_13) (show inr (u1_4) from q_4417 h1 h2) (show 0 ≤ (yc30_12_1) ∧ (yc30_12_1) ≤ (mc30_13) ∧ (mc30_13) ≤ 65536 from jc30_0) (fun σ17 D17ₚ N17ₚ F17ₚ A17ₚ c17 s17 Hₚ Oₚ hD17 hN17 hS17 hA17 (pm17_1 : HID _) m17_1 (em17_1 : HID _) y17_0_1 (ey17_0_1 : HID _) y17_0_2 (ey17_0_2 : HID _) w17_1 ew17_1 pz17_0 pz17_1 pz17_2 pz17_3 => ⟨rfl, ?_⟩))
    refine v_backMc (c := c_c30) (s := s_c30) H oz_L3cls_1 oz_L3cls_8 Hₚ Oₚ hD17 oz_L3cls_2 (fun D17 N17 F17 A17 H Oₚ eD17 eN17 eF17 eA17 => ?_)
    have O := OUT_trans O Oₚ
    -- Row.add
    have cF17 : SF oz_L3clsl_0 F F17 := SF_trans (cF_c30) (SF_gluc (ι := oz_L3clsl_3) oz_L3cls_8 hS17 eF17 (by decide +kernel)) (any_sub (lₚ := [(12, 0), (12, 1), (12, 2)]) (by decide +kernel))
    have mF17 := SFm_of cF17 oz_L3cls_5
    have cA17 : SA oz_L3clsl_1 A A17 := SA_trans (cA_c30) (SA_gluc (ι := oz_L3clsl_3) oz_L3cls_8 hA17 eA17 (by decide +kernel)) (any_subA (lₚ := [13]) (by decide +kernel))
    have mA17 := SAm_of cA17 oz_L3cls_6
    have cD17 : SD oz_L3clsl_2 D D17 := SD_trans (cD_c30) (SD_gluc (ι := oz_L3clsl_3) oz_L3cls_8 hD17 eD17 (by decide +kernel)) (any_subA (lₚ := [13]) (by decide +kernel))
    have mD17 := SDm_of cD17 oz_L3cls_7
    have cN17 : SD oz_L3clsl_2 N N17 := SD_trans (cN_c30) (SD_gluc (ι := oz_L3clsl_3) oz_L3cls_8 hN17 eN17 (by decide +kernel)) (any_subA (lₚ := [13]) (by decide +kernel))
    have mN17 := SDm_of cN17 oz_L3cls_7
    have pe17_5_0 : HID (A17 5 0 = (D17 6 : Int)) := (congrFun ((show A17 5 = A_c30 5 from (eA17 5))) 0).trans ((pe_c30_5_0).trans (congrArg (fun q : Nat => (q : Int)) ((show D17 6 = D_c30 6 from (eD17 6))).symm))
    have pe17_5_1 : HID (A17 5 1 = (D17 8 : Int)) := (congrFun ((show A17 5 = A_c30 5 from (eA17 5))) 1).trans ((pe_c30_5_1).trans (congrArg (fun q : Nat => (q : Int)) ((show D17 8 = D_c30 8 from (eD17 8))).symm))
    have pe17_5_2 : HID (A17 5 2 = (D17 9 : Int)) := (congrFun ((show A17 5 = A_c30 5 from (eA17 5))) 2).trans ((pe_c30_5_2).trans (congrArg (fun q : Nat => (q : Int)) ((show D17 9 = D_c30 9 from (eD17 9))).symm))
    have pf17_0_13 : HID (F17 0 13 = (D17 5 : Int)) := ((show F17 0 13 = F_c30 0 13 from (eF17 0 13))).trans ((pf_c30_0_13).trans (congrArg (fun q : Nat => (q : Int)) ((show D17 5 = D_c30 5 from (eD17 5))).symm))
    have pf17_0_14 : HID (F17 0 14 = (D17 7 : Int)) := ((show F17 0 14 = F_c30 0 14 from (eF17 0 14))).trans ((pf_c30_0_14).trans (congrArg (fun q : Nat => (q : Int)) ((show D17 7 = D_c30 7 from (eD17 7))).symm))
    have pf17_12_0 : HID (F17 12 0 = (D17 13 : Int)) := (eF17 12 0).trans (pm17_1.trans (congrArg (fun q : Nat => (q : Int)) (eD17 13).symm))
    have r19 : HID ((-2147483648 : Int) ≤ y17_0_1 ∧ y17_0_1 ≤ 2147483647) := krg_e (show (-2147483648 : Int) ≤ F17 12 1 ∧ F17 12 1 ≤ 2147483647 from H.krg 12 1 (ltn len_V143_oz_L3cls rfl)) (show F17 12 1 = y17_0_1 from ((eF17 12 1).trans ey17_0_1))
    have r20 : HID ((0 : Int) ≤ y17_0_2 ∧ y17_0_2 ≤ 1) := krg_e (show (0 : Int) ≤ F17 12 2 ∧ F17 12 2 ≤ 1 from H.krg 12 2 (ltn len_V143_oz_L3cls rfl)) (show F17 12 2 = y17_0_2 from ((eF17 12 2).trans ey17_0_2))
    have h38 : RAP ((u12_2)) ((w13)) ((u12_1)) ((y17_0_2)) ((w17_1)) ((y17_0_1)) (numB ((u1_4))) := RAP_c (RAP_trans h30 pz17_3) (numB_e (by (have qg0 := HIDe r1; have qg1 := HIDe r19; have qg2 := HIDe r2; have qg3 := HIDe r20; have qg4 := HIDe r3; omega)))
    try clear pz17_1
    refine Ew_of (pcₚ := 39) (fun _ => x_aload_n rfl lc30_0) ?_
    refine Ew_stk (congrArg (fun qz : Nat => ([.ref qz] : List Value)) (show D17 0 = D_c30 0 from ((show D17 0 = D_c30 0 from (eD17 0)))).symm) ?_
    refine v_g H (o := 0) (v := .ref (D17 12)) rfl rfl rfl rfl rfl (vrf ((mF17 0 8 rfl).trans ((pf12).trans (congrArg (fun q : Nat => (q : Int)) (mD17 12 rfl).symm)))) ?_
    refine v_g H (o := 12) (v := I (y17_0_1)) rfl rfl rfl rfl rfl (congrArg (fun z : Int => I z) (((eF17 12 1).trans ey17_0_1) : F17 12 1 = y17_0_1)) ?_
    have hnl := numB_len (n := (u1_4))
    have hl45 : IMP ((u12_2) = 0 ∧ (u12_1) + 4 ≤ 65536) ((y17_0_1) = (u12_1) + ((numB ((u1_4))).length : Int)) := fun q => RAP_n h38 q.1 (by (have qg0 := HIDe r1; have qg1 := HIDe r19; have qg2 := HIDe r2; have qg3 := HIDe r3; omega)) (by (have qg0 := HIDe r1; have qg1 := HIDe r19; have qg2 := HIDe r2; have qg3 := HIDe r3; omega)) (by have := q.2; (have qg0 := HIDe r1; have qg1 := HIDe r19; have qg2 := HIDe r2; have qg3 := HIDe r3; omega))
    refine Ew_of (pcₚ := 46) (fun _ => x_istore_n rfl) ?_
    have hc62 : ∀ (ls : rO) (σ : rS) (D_c62 N_c62 : Nat → Nat) (c_c62 s_c62 : Nat) (F_c62 : hF) (A_c62 : hA) , rlook ls 2 = some (I (y17_0_1)) → HW V143 σ D_c62 N_c62 F_c62 A_c62 → OUT (V143).length D N σE c s D_c62 N_c62 σ c_c62 s_c62 → SD [5, 6, 7, 8, 9, 13] D17 D_c62 → SD [5, 6, 7, 8, 9, 13] N17 N_c62 → SF [(0, 13), (0, 14), (12, 0), (12, 1), (12, 2)] F17 F_c62 → SA [5, 6, 7, 8, 9, 11, 13] A17 A_c62 → F_c62 0 13 = (D_c62 5 : Int) → A_c62 5 0 = (D_c62 6 : Int) → F_c62 0 14 = (D_c62 7 : Int) → A_c62 5 1 = (D_c62 8 : Int) → A_c62 5 2 = (D_c62 9 : Int) → F_c62 12 0 = (D_c62 13 : Int) → ∀ mc62_5 : Int, (N_c62 5 : Int) = mc62_5 → ∀ mc62_6 : Int, (N_c62 6 : Int) = mc62_6 → ∀ mc62_7 : Int, (N_c62 7 : Int) = mc62_7 → ∀ mc62_8 : Int, (N_c62 8 : Int) = mc62_8 → ∀ mc62_9 : Int, (N_c62 9 : Int) = mc62_9 → ∀ mc62_13 : Int, (N_c62 13 : Int) = mc62_13 → ∀ yc62_12_1 : Int, F_c62 12 1 = yc62_12_1 → ∀ yc62_12_2 : Int, F_c62 12 2 = yc62_12_2 → ∀ wc62_6 : Int → Int, A_c62 6 = wc62_6 → ∀ wc62_7 : Int → Int, A_c62 7 = wc62_7 → ∀ wc62_8 : Int → Int, A_c62 8 = wc62_8 → ∀ wc62_9 : Int → Int, A_c62 9 = wc62_9 → ∀ wc62_11 : Int → Int, A_c62 11 = wc62_11 → ∀ wc62_13 : Int → Int, A_c62 13 = wc62_13 → ((mc62_5) = 3 ∧ (mc62_6) = (mc62_7) ∧ (mc62_8) = (mc62_7) ∧ (mc62_9) = (mc62_7) ∧ lgq ((mc62_7)) = 0 ∧ (mc62_7) ≤ 16384) → ((u1_4) ≤ (mc62_7)) → (0 ≤ (yc62_12_1) ∧ (yc62_12_1) ≤ (mc62_13) ∧ (mc62_13) ≤ 65536) → (IMP (1 ≤ (u1_4)) (RNG ((wc62_6)) ((u1_4)) 36)) → (IMP (1 ≤ (u1_4)) (RNG ((wc62_8)) ((u1_4)) 32)) → (IMP (1 ≤ (u1_4)) (RNG ((wc62_9)) ((u1_4)) 53)) → (RAP ((u12_2)) ((w13)) ((u12_1)) ((yc62_12_2)) ((wc62_13)) ((yc62_12_1)) (numB ((u1_4)) ++ (if (u1_4) ≤ 0 then [] else [0]))) → (IMP (1 ≤ ((w11)) 0 ∧ 1 ≤ ((w11)) 1 ∧ 1 ≤ ((w11)) 2) (TSL ((wc62_6)) ((wc62_8)) ((wc62_9)) ((wc62_7)) ((w2)) ((w3)) ((w4)) (((w11)) 0, ((w11)) 1, ((w11)) 2) ((u1_4)) ((wc62_11)))) → Ew 143 (d + 3) 62 ls [] σ c_c62 s_c62 Q := by
     as_aux_lemma =>
      intro  ls σ D_c62 N_c62 c_c62 s_c62 F_c62 A_c62  lc62_2 H O hD_c62 hN_c62 hS_c62 hA_c62 pmc62_5 pmc62_6 pmc62_7 pmc62_8 pmc62_9 pmc62_13 mc62_5 emc62_5 mc62_6 emc62_6 mc62_7 emc62_7 mc62_8 emc62_8 mc62_9 emc62_9 mc62_13 emc62_13 yc62_12_1 eyc62_12_1 yc62_12_2 eyc62_12_2 wc62_6 ewc62_6 wc62_7 ewc62_7 wc62_8 ewc62_8 wc62_9 ewc62_9 wc62_11 ewc62_11 wc62_13 ewc62_13 jc62_0 jc62_1 jc62_2 jc62_3 jc62_4 jc62_5 jc62_6 jc62_7
      have cF_c62 : SF oz_L3clsl_0 F F_c62 := SF_trans (cF17) hS_c62 (any_sub (by decide +kernel))
      have mF_c62 := SFm_of cF_c62 oz_L3cls_5
      have cA_c62 : SA oz_L3clsl_1 A A_c62 := SA_trans (cA17) hA_c62 (any_subA (by decide +kernel))
      have mA_c62 := SAm_of cA_c62 oz_L3cls_6
      have cD_c62 : SD oz_L3clsl_2 D D_c62 := SD_trans (cD17) hD_c62 (any_subA (by decide +kernel))
      have mD_c62 := SDm_of cD_c62 oz_L3cls_7
      have cN_c62 : SD oz_L3clsl_2 N N_c62 := SD_trans (cN17) hN_c62 (any_subA (by decide +kernel))
      have mN_c62 := SDm_of cN_c62 oz_L3cls_7
      replace pmc62_5 := HIDm pmc62_5
      replace pmc62_6 := HIDm pmc62_6
      replace pmc62_7 := HIDm pmc62_7
      replace pmc62_8 := HIDm pmc62_8
      replace pmc62_9 := HIDm pmc62_9
      replace pmc62_13 := HIDm pmc62_13
      replace emc62_5 := HIDm emc62_5
      replace emc62_6 := HIDm emc62_6
      replace emc62_7 := HIDm emc62_7
      replace emc62_8 := HIDm emc62_8
      replace emc62_9 := HIDm emc62_9
      replace emc62_13 := HIDm emc62_13
      replace eyc62_12_1 := HIDm eyc62_12_1
      replace eyc62_12_2 := HIDm eyc62_12_2
      try clear pz17_1
      refine Ew_of (pcₚ := 63) (fun _ => x_iload_n rfl lc62_2) ?_
      exact w_ireturn rfl (k (y17_0_1) _ _ _ _ _ _ _ H O (cD_c62) (cN_c62) (cF_c62) (cA_c62) (pmc62_5) (pmc62_6) (pmc62_7) (pmc62_8) (pmc62_9) (pmc62_13) (mc62_5) (emc62_5) (mc62_6) (emc62_6) (mc62_7) (emc62_7) (mc62_8) (emc62_8) (mc62_9) (emc62_9) (mc62_13) (emc62_13) (yc62_12_1) ((eyc62_12_1)) (yc62_12_2) ((eyc62_12_2)) (wc62_6) (ewc62_6) (wc62_7) (ewc62_7) (wc62_8) (ewc62_8) (wc62_9) (ewc62_9) (wc62_11) (ewc62_11) (wc62_13) (ewc62_13) (show inr (y17_0_1) from q_38 pz17_0) (show 0 ≤ (y17_0_1) from q_3403 pz17_0) (show (mc62_5) = 3 ∧ (mc62_6) = (mc62_7) ∧ (mc62_8) = (mc62_7) ∧ (mc62_9) = (mc62_7) ∧ lgq ((mc62_7)) = 0 ∧ (mc62_7) ≤ 16384 from jc62_0) (show (u1_4) ≤ (mc62_7) from jc62_1) (show 0 ≤ (yc62_12_1) ∧ (yc62_12_1) ≤ (mc62_13) ∧ (mc62_13) ≤ 65536 from jc62_2) (jc62_3) (jc62_4) (jc62_5) (jc62_6) (hl45) (jc62_7))
    refine Ew_of (pcₚ := 47) (fun _ => x_iload_n rfl (rk_o (lc30_1) rfl rfl)) ?_
    refine w_ifle (t := 62) rfl rfl (show inr (u1_4) from q_4417 h1 h2) (fun b29 => ?_) (fun b29 => ?_)
    · have hi0 : IMP (1 ≤ (u1_4)) (RNG ((w6)) ((u1_4)) 36) := by first | exact fun q => absurd q (by (have qg0 := HIDe r1; omega)) | exact fun _ => pNONE_2
      have hi1 : IMP (1 ≤ (u1_4)) (RNG ((w8)) ((u1_4)) 32) := by first | exact fun q => absurd q (by (have qg0 := HIDe r1; omega)) | exact fun _ => pNONE_3
      have hi2 : IMP (1 ≤ (u1_4)) (RNG ((w9)) ((u1_4)) 53) := by first | exact fun q => absurd q (by (have qg0 := HIDe r1; omega)) | exact fun _ => pNONE_4
      have : RAP ((u12_2)) ((w13)) ((u12_1)) ((y17_0_2)) ((w17_1)) ((y17_0_1)) (numB ((u1_4)) ++ (if (u1_4) ≤ 0 then [] else [0])) := by first | (rw [if_pos (show (u1_4) ≤ 0 by (have qg0 := HIDe r1; have qg1 := HIDe r19; have qg2 := HIDe r2; have qg3 := HIDe r20; have qg4 := HIDe r3; omega)), List.append_nil]; exact h38) | (rw [if_neg (show ¬ (u1_4) ≤ 0 by (have qg0 := HIDe r1; have qg1 := HIDe r19; have qg2 := HIDe r2; have qg3 := HIDe r20; have qg4 := HIDe r3; omega))]; exact RAP_trans h38 (RAP_c pNONE_3 rfl))
      have : IMP (1 ≤ ((w11)) 0 ∧ 1 ≤ ((w11)) 1 ∧ 1 ≤ ((w11)) 2) (TSL ((w6)) ((w8)) ((w9)) ((w7)) ((w2)) ((w3)) ((w4)) (((w11)) 0, ((w11)) 1, ((w11)) 2) ((u1_4)) ((w11))) := by first | exact fun q => TSL_z (by (have qg0 := HIDe r1; omega)) q | exact pNONE_5
      exact hc62  _ _ _ _ _ _ _ _  (rk_s) H O (SD_refl) (SD_refl) (SF_refl) (SA_refl) (pf17_0_13) (pe17_5_0) (pf17_0_14) (pe17_5_1) (pe17_5_2) (pf17_12_0) (n5) ((congrArg (fun q : Nat => (q : Int)) (show N17 5 = N_c30 5 from (eN17 5))).trans ((congrArg (fun q : Nat => (q : Int)) (hN_c30 5 rfl)).trans (en5))) (n6) ((congrArg (fun q : Nat => (q : Int)) (show N17 6 = N_c30 6 from (eN17 6))).trans ((congrArg (fun q : Nat => (q : Int)) (hN_c30 6 rfl)).trans (en6))) (n7) ((congrArg (fun q : Nat => (q : Int)) (show N17 7 = N_c30 7 from (eN17 7))).trans ((congrArg (fun q : Nat => (q : Int)) (hN_c30 7 rfl)).trans (en7))) (n8) ((congrArg (fun q : Nat => (q : Int)) (show N17 8 = N_c30 8 from (eN17 8))).trans ((congrArg (fun q : Nat => (q : Int)) (hN_c30 8 rfl)).trans (en8))) (n9) ((congrArg (fun q : Nat => (q : Int)) (show N17 9 = N_c30 9 from (eN17 9))).trans ((congrArg (fun q : Nat => (q : Int)) (hN_c30 9 rfl)).trans (en9))) (m17_1) ((congrArg (fun q : Nat => (q : Int)) (eN17 13)).trans em17_1) (y17_0_1) (((eF17 12 1).trans ey17_0_1)) (y17_0_2) (((eF17 12 2).trans ey17_0_2)) (w6) (((show A17 6 = A_c30 6 from (eA17 6))).trans ((funext (hA_c30 6 rfl)).trans (ew6))) (w7) (((show A17 7 = A_c30 7 from (eA17 7))).trans ((funext (hA_c30 7 rfl)).trans (ew7))) (w8) (((show A17 8 = A_c30 8 from (eA17 8))).trans ((funext (hA_c30 8 rfl)).trans (ew8))) (w9) (((show A17 9 = A_c30 9 from (eA17 9))).trans ((funext (hA_c30 9 rfl)).trans (ew9))) (w11) (((show A17 11 = A_c30 11 from (eA17 11))).trans ((funext (hA_c30 11 rfl)).trans (ew11))) (w17_1) ((eA17 13).trans ew17_1) (show (n5) = 3 ∧ (n6) = (n7) ∧ (n8) = (n7) ∧ (n9) = (n7) ∧ lgq ((n7)) = 0 ∧ (n7) ≤ 16384 from h4) (show (u1_4) ≤ (n7) from q_4418 (HIDe r9) b29) (show 0 ≤ (y17_0_1) ∧ (y17_0_1) ≤ (m17_1) ∧ (m17_1) ≤ 65536 from pz17_0) (hi0) (hi1) (hi2) (show RAP ((u12_2)) ((w13)) ((u12_1)) ((y17_0_2)) ((w17_1)) ((y17_0_1)) (numB ((u1_4)) ++ (if (u1_4) ≤ 0 then [] else [0])) by assumption) (show IMP (1 ≤ ((w11)) 0 ∧ 1 ≤ ((w11)) 1 ∧ 1 ≤ ((w11)) 2) (TSL ((w6)) ((w8)) ((w9)) ((w7)) ((w2)) ((w3)) ((w4)) (((w11)) 0, ((w11)) 1, ((w11)) 2) ((u1_4)) ((w11))) by assumption)
    · refine Ew_of (pcₚ := 51) (fun _ => x_aload_n rfl (rk_o (lc30_0) rfl rfl)) ?_
      refine Ew_stk (congrArg (fun qz : Nat => ([.ref qz] : List Value)) (show D17 0 = D_c30 0 from ((show D17 0 = D_c30 0 from (eD17 0)))).symm) ?_
      refine v_g H (o := 0) (v := .ref (D17 12)) rfl rfl rfl rfl rfl (vrf ((mF17 0 8 rfl).trans ((pf12).trans (congrArg (fun q : Nat => (q : Int)) (mD17 12 rfl).symm)))) ?_
      refine Ew_of (pcₚ := 55) (fun _ => x_iconst rfl) ?_
      refine v_inv H (o := 12) rfl rfl rfl rfl rfl rfl (by rfl) (C159 (D := puc 6668 D17) (N := puc 6668 N17) (HW_subc H oz_L3cls_1 oz_L3cls_8) (pf17_12_0) (m17_1) ((congrArg (fun q : Nat => (q : Int)) (eN17 13)).trans em17_1) (y17_0_1) (((eF17 12 1).trans ey17_0_1)) (y17_0_2) (((eF17 12 2).trans ey17_0_2)) (w17_1) ((eA17 13).trans ew17_1) (show inr (0) from q_2) (show 0 ≤ (y17_0_1) ∧ (y17_0_1) ≤ (m17_1) ∧ (m17_1) ≤ 65536 from pz17_0) (fun σ30 D30ₚ N30ₚ F30ₚ A30ₚ c30 s30 Hₚ Oₚ hD30 hN30 hS30 hA30 (pm30_1 : HID _) m30_1 (em30_1 : HID _) y30_0_1 (ey30_0_1 : HID _) y30_0_2 (ey30_0_2 : HID _) w30_1 ew30_1 pz30_0 pz30_1 pz30_2 pz30_3 => ⟨rfl, ?_⟩))
      refine v_backMc (c := (c_c30 + c17)) (s := (s_c30 + s17)) H oz_L3cls_1 oz_L3cls_8 Hₚ Oₚ hD30 oz_L3cls_2 (fun D30 N30 F30 A30 H Oₚ eD30 eN30 eF30 eA30 => ?_)
      have O := OUT_trans O Oₚ
      -- Row.add
      have cF30 : SF oz_L3clsl_0 F F30 := SF_trans (cF17) (SF_gluc (ι := oz_L3clsl_3) oz_L3cls_8 hS30 eF30 (by decide +kernel)) (any_sub (lₚ := [(12, 0), (12, 1), (12, 2)]) (by decide +kernel))
      have mF30 := SFm_of cF30 oz_L3cls_5
      have cA30 : SA oz_L3clsl_1 A A30 := SA_trans (cA17) (SA_gluc (ι := oz_L3clsl_3) oz_L3cls_8 hA30 eA30 (by decide +kernel)) (any_subA (lₚ := [13]) (by decide +kernel))
      have mA30 := SAm_of cA30 oz_L3cls_6
      have cD30 : SD oz_L3clsl_2 D D30 := SD_trans (cD17) (SD_gluc (ι := oz_L3clsl_3) oz_L3cls_8 hD30 eD30 (by decide +kernel)) (any_subA (lₚ := [13]) (by decide +kernel))
      have mD30 := SDm_of cD30 oz_L3cls_7
      have cN30 : SD oz_L3clsl_2 N N30 := SD_trans (cN17) (SD_gluc (ι := oz_L3clsl_3) oz_L3cls_8 hN30 eN30 (by decide +kernel)) (any_subA (lₚ := [13]) (by decide +kernel))
      have mN30 := SDm_of cN30 oz_L3cls_7
      have pe30_5_0 : HID (A30 5 0 = (D30 6 : Int)) := (congrFun ((show A30 5 = A17 5 from (eA30 5))) 0).trans ((pe17_5_0).trans (congrArg (fun q : Nat => (q : Int)) ((show D30 6 = D17 6 from (eD30 6))).symm))
      have pe30_5_1 : HID (A30 5 1 = (D30 8 : Int)) := (congrFun ((show A30 5 = A17 5 from (eA30 5))) 1).trans ((pe17_5_1).trans (congrArg (fun q : Nat => (q : Int)) ((show D30 8 = D17 8 from (eD30 8))).symm))
      have pe30_5_2 : HID (A30 5 2 = (D30 9 : Int)) := (congrFun ((show A30 5 = A17 5 from (eA30 5))) 2).trans ((pe17_5_2).trans (congrArg (fun q : Nat => (q : Int)) ((show D30 9 = D17 9 from (eD30 9))).symm))
      have pf30_0_13 : HID (F30 0 13 = (D30 5 : Int)) := ((show F30 0 13 = F17 0 13 from (eF30 0 13))).trans ((pf17_0_13).trans (congrArg (fun q : Nat => (q : Int)) ((show D30 5 = D17 5 from (eD30 5))).symm))
      have pf30_0_14 : HID (F30 0 14 = (D30 7 : Int)) := ((show F30 0 14 = F17 0 14 from (eF30 0 14))).trans ((pf17_0_14).trans (congrArg (fun q : Nat => (q : Int)) ((show D30 7 = D17 7 from (eD30 7))).symm))
      have pf30_12_0 : HID (F30 12 0 = (D30 13 : Int)) := (eF30 12 0).trans (pm30_1.trans (congrArg (fun q : Nat => (q : Int)) (eD30 13).symm))
      have r32 : HID ((-2147483648 : Int) ≤ y30_0_1 ∧ y30_0_1 ≤ 2147483647) := krg_e (show (-2147483648 : Int) ≤ F30 12 1 ∧ F30 12 1 ≤ 2147483647 from H.krg 12 1 (ltn len_V143_oz_L3cls rfl)) (show F30 12 1 = y30_0_1 from ((eF30 12 1).trans ey30_0_1))
      have r33 : HID ((0 : Int) ≤ y30_0_2 ∧ y30_0_2 ≤ 1) := krg_e (show (0 : Int) ≤ F30 12 2 ∧ F30 12 2 ≤ 1 from H.krg 12 2 (ltn len_V143_oz_L3cls rfl)) (show F30 12 2 = y30_0_2 from ((eF30 12 2).trans ey30_0_2))
      try clear pz30_1
      refine Ew_of (pcₚ := 59) (fun _ => x_aload_n rfl (rk_o (lc30_0) rfl rfl)) ?_
      refine Ew_stk (congrArg (fun qz : Nat => ([.ref qz] : List Value)) (show D30 0 = D_c30 0 from (((show D30 0 = D17 0 from (eD30 0))).trans ((show D17 0 = D_c30 0 from (eD17 0))))).symm) ?_
      refine v_inv H (o := 0) rfl rfl rfl rfl rfl rfl (by rfl) (C144 (D := puc 6984479500156472304109347144192 D30) (N := puc 6984479500156472304109347144192 N30) (HW_subc H oz_L3cls_3 oz_L3cls_9) (STC_out HT HE O) ((mF30 0 1 rfl).trans ((pf1).trans (congrArg (fun q : Nat => (q : Int)) (mD30 1 rfl).symm))) ((mF30 1 1 rfl).trans ((pf2).trans (congrArg (fun q : Nat => (q : Int)) (mD30 2 rfl).symm))) ((mF30 1 2 rfl).trans ((pf3).trans (congrArg (fun q : Nat => (q : Int)) (mD30 3 rfl).symm))) ((mF30 1 3 rfl).trans ((pf4).trans (congrArg (fun q : Nat => (q : Int)) (mD30 4 rfl).symm))) (pf30_0_13) (pe30_5_0) (pf30_0_14) (pe30_5_1) (pe30_5_2) ((mF30 0 7 rfl).trans ((pf10).trans (congrArg (fun q : Nat => (q : Int)) (mD30 10 rfl).symm))) ((mF30 10 2 rfl).trans ((pf11).trans (congrArg (fun q : Nat => (q : Int)) (mD30 11 rfl).symm))) (n2) ((congrArg (fun q : Nat => (q : Int)) (mN30 2 rfl)).trans (en2)) (n3) ((congrArg (fun q : Nat => (q : Int)) (mN30 3 rfl)).trans (en3)) (n4) ((congrArg (fun q : Nat => (q : Int)) (mN30 4 rfl)).trans (en4)) (n5) ((congrArg (fun q : Nat => (q : Int)) (show N30 5 = N17 5 from (eN30 5))).trans ((congrArg (fun q : Nat => (q : Int)) (show N17 5 = N_c30 5 from (eN17 5))).trans ((congrArg (fun q : Nat => (q : Int)) (hN_c30 5 rfl)).trans (en5)))) (n6) ((congrArg (fun q : Nat => (q : Int)) (show N30 6 = N17 6 from (eN30 6))).trans ((congrArg (fun q : Nat => (q : Int)) (show N17 6 = N_c30 6 from (eN17 6))).trans ((congrArg (fun q : Nat => (q : Int)) (hN_c30 6 rfl)).trans (en6)))) (n7) ((congrArg (fun q : Nat => (q : Int)) (show N30 7 = N17 7 from (eN30 7))).trans ((congrArg (fun q : Nat => (q : Int)) (show N17 7 = N_c30 7 from (eN17 7))).trans ((congrArg (fun q : Nat => (q : Int)) (hN_c30 7 rfl)).trans (en7)))) (n8) ((congrArg (fun q : Nat => (q : Int)) (show N30 8 = N17 8 from (eN30 8))).trans ((congrArg (fun q : Nat => (q : Int)) (show N17 8 = N_c30 8 from (eN17 8))).trans ((congrArg (fun q : Nat => (q : Int)) (hN_c30 8 rfl)).trans (en8)))) (n9) ((congrArg (fun q : Nat => (q : Int)) (show N30 9 = N17 9 from (eN30 9))).trans ((congrArg (fun q : Nat => (q : Int)) (show N17 9 = N_c30 9 from (eN17 9))).trans ((congrArg (fun q : Nat => (q : Int)) (hN_c30 9 rfl)).trans (en9)))) (n11) ((congrArg (fun q : Nat => (q : Int)) (mN30 11 rfl)).trans (en11)) (u1_4) (((mF30 1 4 rfl).trans (eu1_4))) (w2) ((funext (mA30 2 rfl)).trans (ew2)) (w3) ((funext (mA30 3 rfl)).trans (ew3)) (w4) ((funext (mA30 4 rfl)).trans (ew4)) (w6) (((show A30 6 = A17 6 from (eA30 6))).trans (((show A17 6 = A_c30 6 from (eA17 6))).trans ((funext (hA_c30 6 rfl)).trans (ew6)))) (w7) (((show A30 7 = A17 7 from (eA30 7))).trans (((show A17 7 = A_c30 7 from (eA17 7))).trans ((funext (hA_c30 7 rfl)).trans (ew7)))) (w8) (((show A30 8 = A17 8 from (eA30 8))).trans (((show A17 8 = A_c30 8 from (eA17 8))).trans ((funext (hA_c30 8 rfl)).trans (ew8)))) (w9) (((show A30 9 = A17 9 from (eA30 9))).trans (((show A17 9 = A_c30 9 from (eA17 9))).trans ((funext (hA_c30 9 rfl)).trans (ew9)))) (w11) (((show A30 11 = A17 11 from (eA30 11))).trans (((show A17 11 = A_c30 11 from (eA17 11))).trans ((funext (hA_c30 11 rfl)).trans (ew11)))) (show (n2) = (n3) ∧ (n4) = (n3) ∧ (n3) ≤ 65536 ∧ ((n3) = 0 ∨ 64 ≤ (n3)) ∧ lgq ((n3)) = 0 from h0) (show 0 ≤ (u1_4) ∧ (u1_4) ≤ (n3) from h1) (h3) (show (n5) = 3 ∧ (n6) = (n7) ∧ (n8) = (n7) ∧ (n9) = (n7) ∧ lgq ((n7)) = 0 ∧ (n7) ≤ 16384 from h4) (show (n11) = 3 from h5) (fun σ34 D34ₚ N34ₚ F34ₚ A34ₚ c34 s34 Hₚ Oₚ hD34 hN34 hS34 hA34 (pm34_5 : HID _) (pm34_6 : HID _) (pm34_7 : HID _) (pm34_8 : HID _) (pm34_9 : HID _) m34_5 (em34_5 : HID _) m34_6 (em34_6 : HID _) m34_7 (em34_7 : HID _) m34_8 (em34_8 : HID _) m34_9 (em34_9 : HID _) w34_6 ew34_6 w34_7 ew34_7 w34_8 ew34_8 w34_9 ew34_9 w34_11 ew34_11 pz34_0 pz34_1 pz34_2 pz34_3 pz34_4 pz34_5 => ⟨rfl, ?_⟩))
      refine v_backMc (c := ((c_c30 + c17) + c30)) (s := ((s_c30 + s17) + s30)) H oz_L3cls_3 oz_L3cls_9 Hₚ Oₚ hD34 oz_L3cls_4 (fun D34 N34 F34 A34 H Oₚ eD34 eN34 eF34 eA34 => ?_)
      have O := OUT_trans O Oₚ
      -- Packer.tellSymbols
      have cF34 : SF oz_L3clsl_0 F F34 := SF_trans (cF30) (SF_gluc (ι := oz_L3clsl_4) oz_L3cls_9 hS34 eF34 (by decide +kernel)) (any_sub (lₚ := [(0, 13), (0, 14)]) (by decide +kernel))
      have mF34 := SFm_of cF34 oz_L3cls_5
      have cA34 : SA oz_L3clsl_1 A A34 := SA_trans (cA30) (SA_gluc (ι := oz_L3clsl_4) oz_L3cls_9 hA34 eA34 (by decide +kernel)) (any_subA (lₚ := [5, 6, 7, 8, 9, 11]) (by decide +kernel))
      have mA34 := SAm_of cA34 oz_L3cls_6
      have cD34 : SD oz_L3clsl_2 D D34 := SD_trans (cD30) (SD_gluc (ι := oz_L3clsl_4) oz_L3cls_9 hD34 eD34 (by decide +kernel)) (any_subA (lₚ := [5, 6, 7, 8, 9]) (by decide +kernel))
      have mD34 := SDm_of cD34 oz_L3cls_7
      have cN34 : SD oz_L3clsl_2 N N34 := SD_trans (cN30) (SD_gluc (ι := oz_L3clsl_4) oz_L3cls_9 hN34 eN34 (by decide +kernel)) (any_subA (lₚ := [5, 6, 7, 8, 9]) (by decide +kernel))
      have mN34 := SDm_of cN34 oz_L3cls_7
      have pe34_5_0 : HID (A34 5 0 = (D34 6 : Int)) := (congrFun (eA34 5) 0).trans (pm34_6.trans (congrArg (fun q : Nat => (q : Int)) (eD34 6).symm))
      have pe34_5_1 : HID (A34 5 1 = (D34 8 : Int)) := (congrFun (eA34 5) 1).trans (pm34_8.trans (congrArg (fun q : Nat => (q : Int)) (eD34 8).symm))
      have pe34_5_2 : HID (A34 5 2 = (D34 9 : Int)) := (congrFun (eA34 5) 2).trans (pm34_9.trans (congrArg (fun q : Nat => (q : Int)) (eD34 9).symm))
      have pf34_0_13 : HID (F34 0 13 = (D34 5 : Int)) := (eF34 0 13).trans (pm34_5.trans (congrArg (fun q : Nat => (q : Int)) (eD34 5).symm))
      have pf34_0_14 : HID (F34 0 14 = (D34 7 : Int)) := (eF34 0 14).trans (pm34_7.trans (congrArg (fun q : Nat => (q : Int)) (eD34 7).symm))
      have pf34_12_0 : HID (F34 12 0 = (D34 13 : Int)) := ((show F34 12 0 = F30 12 0 from (eF34 12 0))).trans ((pf30_12_0).trans (congrArg (fun q : Nat => (q : Int)) ((show D34 13 = D30 13 from (eD34 13))).symm))
      have hi0 : IMP (1 ≤ (u1_4)) (RNG ((w34_6)) ((u1_4)) 36) := by first | exact fun q => absurd q (by (have qg0 := HIDe r1; omega)) | exact fun _ => pz34_2
      have hi1 : IMP (1 ≤ (u1_4)) (RNG ((w34_8)) ((u1_4)) 32) := by first | exact fun q => absurd q (by (have qg0 := HIDe r1; omega)) | exact fun _ => pz34_3
      have hi2 : IMP (1 ≤ (u1_4)) (RNG ((w34_9)) ((u1_4)) 53) := by first | exact fun q => absurd q (by (have qg0 := HIDe r1; omega)) | exact fun _ => pz34_4
      have : RAP ((u12_2)) ((w13)) ((u12_1)) ((y30_0_2)) ((w30_1)) ((y30_0_1)) (numB ((u1_4)) ++ (if (u1_4) ≤ 0 then [] else [0])) := by first | (rw [if_pos (show (u1_4) ≤ 0 by (have qg0 := HIDe r1; have qg1 := HIDe r2; have qg2 := HIDe r3; have qg3 := HIDe r32; have qg4 := HIDe r33; omega)), List.append_nil]; exact h38) | (rw [if_neg (show ¬ (u1_4) ≤ 0 by (have qg0 := HIDe r1; have qg1 := HIDe r2; have qg2 := HIDe r3; have qg3 := HIDe r32; have qg4 := HIDe r33; omega))]; exact RAP_trans h38 (RAP_c pz30_3 rfl))
      have : IMP (1 ≤ ((w11)) 0 ∧ 1 ≤ ((w11)) 1 ∧ 1 ≤ ((w11)) 2) (TSL ((w34_6)) ((w34_8)) ((w34_9)) ((w34_7)) ((w2)) ((w3)) ((w4)) (((w11)) 0, ((w11)) 1, ((w11)) 2) ((u1_4)) ((w34_11))) := by first | exact fun q => TSL_z (by (have qg0 := HIDe r1; omega)) q | exact pz34_5
      exact hc62  _ _ _ _ _ _ _ _  (rk_s) H O (SD_trans (SD_trans (SD_refl) (SD_gluc (ι := oz_L3clsl_3) oz_L3cls_8 hD30 eD30 (by decide +kernel)) (any_subA (lₚ := [13]) (by decide +kernel))) (SD_gluc (ι := oz_L3clsl_4) oz_L3cls_9 hD34 eD34 (by decide +kernel)) (any_subA (lₚ := [5, 6, 7, 8, 9]) (by decide +kernel))) (SD_trans (SD_trans (SD_refl) (SD_gluc (ι := oz_L3clsl_3) oz_L3cls_8 hN30 eN30 (by decide +kernel)) (any_subA (lₚ := [13]) (by decide +kernel))) (SD_gluc (ι := oz_L3clsl_4) oz_L3cls_9 hN34 eN34 (by decide +kernel)) (any_subA (lₚ := [5, 6, 7, 8, 9]) (by decide +kernel))) (SF_trans (SF_trans (SF_refl) (SF_gluc (ι := oz_L3clsl_3) oz_L3cls_8 hS30 eF30 (by decide +kernel)) (any_sub (lₚ := [(12, 0), (12, 1), (12, 2)]) (by decide +kernel))) (SF_gluc (ι := oz_L3clsl_4) oz_L3cls_9 hS34 eF34 (by decide +kernel)) (any_sub (lₚ := [(0, 13), (0, 14)]) (by decide +kernel))) (SA_trans (SA_trans (SA_refl) (SA_gluc (ι := oz_L3clsl_3) oz_L3cls_8 hA30 eA30 (by decide +kernel)) (any_subA (lₚ := [13]) (by decide +kernel))) (SA_gluc (ι := oz_L3clsl_4) oz_L3cls_9 hA34 eA34 (by decide +kernel)) (any_subA (lₚ := [5, 6, 7, 8, 9, 11]) (by decide +kernel))) (pf34_0_13) (pe34_5_0) (pf34_0_14) (pe34_5_1) (pe34_5_2) (pf34_12_0) (m34_5) ((congrArg (fun q : Nat => (q : Int)) (eN34 5)).trans em34_5) (m34_6) ((congrArg (fun q : Nat => (q : Int)) (eN34 6)).trans em34_6) (m34_7) ((congrArg (fun q : Nat => (q : Int)) (eN34 7)).trans em34_7) (m34_8) ((congrArg (fun q : Nat => (q : Int)) (eN34 8)).trans em34_8) (m34_9) ((congrArg (fun q : Nat => (q : Int)) (eN34 9)).trans em34_9) (m30_1) ((congrArg (fun q : Nat => (q : Int)) (show N34 13 = N30 13 from (eN34 13))).trans ((congrArg (fun q : Nat => (q : Int)) (eN30 13)).trans em30_1)) (y30_0_1) ((((show F34 12 1 = F30 12 1 from (eF34 12 1))).trans ((eF30 12 1).trans ey30_0_1))) (y30_0_2) ((((show F34 12 2 = F30 12 2 from (eF34 12 2))).trans ((eF30 12 2).trans ey30_0_2))) (w34_6) ((eA34 6).trans ew34_6) (w34_7) ((eA34 7).trans ew34_7) (w34_8) ((eA34 8).trans ew34_8) (w34_9) ((eA34 9).trans ew34_9) (w34_11) ((eA34 11).trans ew34_11) (w30_1) (((show A34 13 = A30 13 from (eA34 13))).trans ((eA30 13).trans ew30_1)) (show (m34_5) = 3 ∧ (m34_6) = (m34_7) ∧ (m34_8) = (m34_7) ∧ (m34_9) = (m34_7) ∧ lgq ((m34_7)) = 0 ∧ (m34_7) ≤ 16384 from pz34_0) (show (u1_4) ≤ (m34_7) from pz34_1) (show 0 ≤ (y30_0_1) ∧ (y30_0_1) ≤ (m30_1) ∧ (m30_1) ≤ 65536 from pz30_0) (hi0) (hi1) (hi2) (show RAP ((u12_2)) ((w13)) ((u12_1)) ((y30_0_2)) ((w30_1)) ((y30_0_1)) (numB ((u1_4)) ++ (if (u1_4) ≤ 0 then [] else [0])) by assumption) (show IMP (1 ≤ ((w11)) 0 ∧ 1 ≤ ((w11)) 1 ∧ 1 ≤ ((w11)) 2) (TSL ((w34_6)) ((w34_8)) ((w34_9)) ((w34_7)) ((w2)) ((w3)) ((w4)) (((w11)) 0, ((w11)) 1, ((w11)) 2) ((u1_4)) ((w34_11))) by assumption)
  refine Ew_of (pcₚ := 9) (fun _ => x_iload_n rfl rk_s) ?_
  refine Ew_of (pcₚ := 12) (fun _ => x_sipush (z := 128) rfl (by decide)) ?_
  refine w_icmplt (t := 30) rfl rfl (show inr (u1_4) from q_4417 h1 h2) (show inr (128) from q_313) (fun b40 => ?_) (fun b40 => ?_)
  · have : RAP ((u12_2)) ((w13)) ((u12_1)) ((u12_2)) ((w13)) ((u12_1)) ((if (u1_4) < 128 then [] else [128 + (u1_4) / 256])) := by first | (rw [if_pos (show (u1_4) < 128 by (have qg0 := HIDe r1; have qg1 := HIDe r2; have qg2 := HIDe r3; omega))]; exact RAP_refl) | (rw [if_neg (show ¬ (u1_4) < 128 by (have qg0 := HIDe r1; have qg1 := HIDe r2; have qg2 := HIDe r3; omega))]; exact RAP_c pNONE_3 (by congr 1; unfold u8; (have qg0 := HIDe r1; have qg1 := HIDe r2; have qg2 := HIDe r3; omega)))
    exact hc30  _ _ _ _ _ _ _ _  (rk_o (rfl) rfl rfl) (rk_s) H O (SD_refl) (SD_refl) (SF_refl) (SA_refl) (pf13) (n13) (en13) (u12_1) ((eu12_1)) (u12_2) ((eu12_2)) (w13) (ew13) (show 0 ≤ (u12_1) ∧ (u12_1) ≤ (n13) ∧ (n13) ≤ 65536 from h6) (show RAP ((u12_2)) ((w13)) ((u12_1)) ((u12_2)) ((w13)) ((u12_1)) ((if (u1_4) < 128 then [] else [128 + (u1_4) / 256])) by assumption)
  · refine Ew_of (pcₚ := 16) (fun _ => x_aload_n rfl (rk_o (rfl) rfl rfl)) ?_
    refine v_g H (o := 0) (v := .ref (D 12)) rfl rfl rfl rfl rfl (vrf (pf12)) ?_
    refine Ew_of (pcₚ := 22) (fun _ => x_sipush (z := 128) rfl (by decide)) ?_
    refine Ew_of (pcₚ := 23) (fun _ => x_iload_n rfl rk_s) ?_
    refine Ew_of (pcₚ := 25) (fun _ => x_bipush (z := 8) rfl (by decide)) ?_
    refine w_ishrK 8 256 (by decide) (by decide) rfl (show inr (u1_4) from q_4419 b40 h2) (fun z41 gz41 dz41 => ?_)
    refine w_iadd rfl ?_
    refine v_inv H (o := 12) rfl rfl rfl rfl rfl rfl (by rfl) (C159 (D := puc 6668 D) (N := puc 6668 N) (HW_subc H oz_L3cls_1 oz_L3cls_8) (pf13) (n13) (en13) (u12_1) ((eu12_1)) (u12_2) ((eu12_2)) (w13) (ew13) (show inr ((128 + z41)) by omega) (show 0 ≤ (u12_1) ∧ (u12_1) ≤ (n13) ∧ (n13) ≤ 65536 from h6) (fun σ42 D42ₚ N42ₚ F42ₚ A42ₚ c42 s42 Hₚ Oₚ hD42 hN42 hS42 hA42 (pm42_1 : HID _) m42_1 (em42_1 : HID _) y42_0_1 (ey42_0_1 : HID _) y42_0_2 (ey42_0_2 : HID _) w42_1 ew42_1 pz42_0 pz42_1 pz42_2 pz42_3 => ⟨rfl, ?_⟩))
    refine v_backMc (c := c) (s := s) H oz_L3cls_1 oz_L3cls_8 Hₚ Oₚ hD42 oz_L3cls_2 (fun D42 N42 F42 A42 H Oₚ eD42 eN42 eF42 eA42 => ?_)
    have O := OUT_trans O Oₚ
    -- Row.add
    have cF42 : SF oz_L3clsl_0 F F42 := SF_trans (SF_refl) (SF_gluc (ι := oz_L3clsl_3) oz_L3cls_8 hS42 eF42 (by decide +kernel)) (any_sub (lₚ := [(12, 0), (12, 1), (12, 2)]) (by decide +kernel))
    have mF42 := SFm_of cF42 oz_L3cls_5
    have cA42 : SA oz_L3clsl_1 A A42 := SA_trans (SA_refl) (SA_gluc (ι := oz_L3clsl_3) oz_L3cls_8 hA42 eA42 (by decide +kernel)) (any_subA (lₚ := [13]) (by decide +kernel))
    have mA42 := SAm_of cA42 oz_L3cls_6
    have cD42 : SD oz_L3clsl_2 D D42 := SD_trans (SD_refl) (SD_gluc (ι := oz_L3clsl_3) oz_L3cls_8 hD42 eD42 (by decide +kernel)) (any_subA (lₚ := [13]) (by decide +kernel))
    have mD42 := SDm_of cD42 oz_L3cls_7
    have cN42 : SD oz_L3clsl_2 N N42 := SD_trans (SD_refl) (SD_gluc (ι := oz_L3clsl_3) oz_L3cls_8 hN42 eN42 (by decide +kernel)) (any_subA (lₚ := [13]) (by decide +kernel))
    have mN42 := SDm_of cN42 oz_L3cls_7
    have pe42_5_0 : HID (A42 5 0 = (D42 6 : Int)) := (congrFun ((show A42 5 = A 5 from (eA42 5))) 0).trans ((pf6).trans (congrArg (fun q : Nat => (q : Int)) ((show D42 6 = D 6 from (eD42 6))).symm))
    have pe42_5_1 : HID (A42 5 1 = (D42 8 : Int)) := (congrFun ((show A42 5 = A 5 from (eA42 5))) 1).trans ((pf8).trans (congrArg (fun q : Nat => (q : Int)) ((show D42 8 = D 8 from (eD42 8))).symm))
    have pe42_5_2 : HID (A42 5 2 = (D42 9 : Int)) := (congrFun ((show A42 5 = A 5 from (eA42 5))) 2).trans ((pf9).trans (congrArg (fun q : Nat => (q : Int)) ((show D42 9 = D 9 from (eD42 9))).symm))
    have pf42_0_13 : HID (F42 0 13 = (D42 5 : Int)) := ((show F42 0 13 = F 0 13 from (eF42 0 13))).trans ((pf5).trans (congrArg (fun q : Nat => (q : Int)) ((show D42 5 = D 5 from (eD42 5))).symm))
    have pf42_0_14 : HID (F42 0 14 = (D42 7 : Int)) := ((show F42 0 14 = F 0 14 from (eF42 0 14))).trans ((pf7).trans (congrArg (fun q : Nat => (q : Int)) ((show D42 7 = D 7 from (eD42 7))).symm))
    have pf42_12_0 : HID (F42 12 0 = (D42 13 : Int)) := (eF42 12 0).trans (pm42_1.trans (congrArg (fun q : Nat => (q : Int)) (eD42 13).symm))
    have r44 : HID ((-2147483648 : Int) ≤ y42_0_1 ∧ y42_0_1 ≤ 2147483647) := krg_e (show (-2147483648 : Int) ≤ F42 12 1 ∧ F42 12 1 ≤ 2147483647 from H.krg 12 1 (ltn len_V143_oz_L3cls rfl)) (show F42 12 1 = y42_0_1 from ((eF42 12 1).trans ey42_0_1))
    have r45 : HID ((0 : Int) ≤ y42_0_2 ∧ y42_0_2 ≤ 1) := krg_e (show (0 : Int) ≤ F42 12 2 ∧ F42 12 2 ≤ 1 from H.krg 12 2 (ltn len_V143_oz_L3cls rfl)) (show F42 12 2 = y42_0_2 from ((eF42 12 2).trans ey42_0_2))
    have : RAP ((u12_2)) ((w13)) ((u12_1)) ((y42_0_2)) ((w42_1)) ((y42_0_1)) ((if (u1_4) < 128 then [] else [128 + (u1_4) / 256])) := by first | (rw [if_pos (show (u1_4) < 128 by (have qg0 := HIDe r1; have qg1 := HIDe r2; have qg2 := HIDe r3; have qg3 := HIDe r44; have qg4 := HIDe r45; omega))]; exact RAP_refl) | (rw [if_neg (show ¬ (u1_4) < 128 by (have qg0 := HIDe r1; have qg1 := HIDe r2; have qg2 := HIDe r3; have qg3 := HIDe r44; have qg4 := HIDe r45; omega))]; exact RAP_c pz42_3 (by congr 1; unfold u8; (have qg0 := HIDe r1; have qg1 := HIDe r2; have qg2 := HIDe r3; have qg3 := HIDe r44; have qg4 := HIDe r45; omega)))
    exact hc30  _ _ _ _ _ _ _ _  ((rk_o (rfl) rfl rfl).trans (congrArg (fun q : Nat => some (Value.ref q)) (mD42 0 rfl).symm)) (rk_s) H O (SD_trans (SD_refl) (SD_gluc (ι := oz_L3clsl_3) oz_L3cls_8 hD42 eD42 (by decide +kernel)) (any_subA (lₚ := [13]) (by decide +kernel))) (SD_trans (SD_refl) (SD_gluc (ι := oz_L3clsl_3) oz_L3cls_8 hN42 eN42 (by decide +kernel)) (any_subA (lₚ := [13]) (by decide +kernel))) (SF_trans (SF_refl) (SF_gluc (ι := oz_L3clsl_3) oz_L3cls_8 hS42 eF42 (by decide +kernel)) (any_sub (lₚ := [(12, 0), (12, 1), (12, 2)]) (by decide +kernel))) (SA_trans (SA_refl) (SA_gluc (ι := oz_L3clsl_3) oz_L3cls_8 hA42 eA42 (by decide +kernel)) (any_subA (lₚ := [13]) (by decide +kernel))) (pf42_12_0) (m42_1) ((congrArg (fun q : Nat => (q : Int)) (eN42 13)).trans em42_1) (y42_0_1) (((eF42 12 1).trans ey42_0_1)) (y42_0_2) (((eF42 12 2).trans ey42_0_2)) (w42_1) ((eA42 13).trans ew42_1) (show 0 ≤ (y42_0_1) ∧ (y42_0_1) ≤ (m42_1) ∧ (m42_1) ≤ 65536 from pz42_0) (show RAP ((u12_2)) ((w13)) ((u12_1)) ((y42_0_2)) ((w42_1)) ((y42_0_1)) ((if (u1_4) < 128 then [] else [128 + (u1_4) / 256])) by assumption)


end
