abbrev V168 : vV := [(0, 8, [(0, 0), (0, 0), (4, 0), (4, 0), (4, 0), (4, 0), (4, 0), (4, 0), (4, 0), (4, 0), (4, 0), (0, 0), (0, 0)]), (1, 1, []), (1, 1, []), (1, 1, []), (1, 1, []), (1, 1, []), (1, 1, []), (1, 1, []), (1, 1, [])]
/-- Share.becomeAlone: this, this.symbolAt, this.points, this.masses, this.mostBits, this.starts, this.used, this.numberAt, this.placeOf -/
theorem C168 {σE : rS} {D N : Nat → Nat} {F : hF} {A : hA} {d c s : Nat} {Q : wQ} (H : HW V168 σE D N F A) {a1 : Int} (pf1 : F 0 7 = (D 1 : Int)) (pf2 : F 0 2 = (D 2 : Int)) (pf3 : F 0 3 = (D 3 : Int)) (pf4 : F 0 4 = (D 4 : Int)) (pf5 : F 0 5 = (D 5 : Int)) (pf6 : F 0 6 = (D 6 : Int)) (pf7 : F 0 8 = (D 7 : Int)) (pf8 : F 0 9 = (D 8 : Int)) (n1 : Int) (en1 : (N 1 : Int) = n1) (n2 : Int) (en2 : (N 2 : Int) = n2) (n3 : Int) (en3 : (N 3 : Int) = n3) (n4 : Int) (en4 : (N 4 : Int) = n4) (n5 : Int) (en5 : (N 5 : Int) = n5) (n6 : Int) (en6 : (N 6 : Int) = n6) (n7 : Int) (en7 : (N 7 : Int) = n7) (n8 : Int) (en8 : (N 8 : Int) = n8) (u0_0 : Int) (eu0_0 : F 0 0 = u0_0) (u0_1 : Int) (eu0_1 : F 0 1 = u0_1) (w1 : Int → Int) (ew1 : A 1 = w1) (w2 : Int → Int) (ew2 : A 2 = w2) (w3 : Int → Int) (ew3 : A 3 = w3) (w4 : Int → Int) (ew4 : A 4 = w4) (w5 : Int → Int) (ew5 : A 5 = w5) (w7 : Int → Int) (ew7 : A 7 = w7) (w8 : Int → Int) (ew8 : A 8 = w8) (h0 : inr (a1)) (h1 : (n1) ≥ 1) (h2 : (n2) = (u0_1) ∧ (n3) = (u0_1) ∧ (n4) = (u0_1) ∧ (n5) = (u0_1) ∧ (n6) = (u0_1) ∧ (n7) = (n1) ∧ (n8) = (n1) ∧ 1 ≤ (u0_1) ∧ (u0_1) ≤ 64) (h3 : 0 ≤ (a1) ∧ (a1) < ((u0_1))) (k : ∀ (σ : rS) (F' : hF) (A' : hA), HW V168 σ D N F' A' → OUT (V168).length D N σE c s D N σ c s → SF [(0, 0)] F F' → SA [1, 2, 3, 4, 5, 6, 7, 8] A A' → ∀ y0_0 : Int, F' 0 0 = y0_0 → ∀ v1 : Int → Int, A' 1 = v1 → ∀ v2 : Int → Int, A' 2 = v2 → ∀ v3 : Int → Int, A' 3 = v3 → ∀ v4 : Int → Int, A' 4 = v4 → ∀ v5 : Int → Int, A' 5 = v5 → ∀ v7 : Int → Int, A' 7 = v7 → ∀ v8 : Int → Int, A' 8 = v8 → (SL ((v2)) ((u0_1)) ((y0_0)) ((v3)) ((v4)) ((v5)) ((v1)) ((v7)) ((v8))) → ((y0_0) = 0) → (∀ i, 0 ≤ i → i < ((u0_1)) → ((v2)) i = on0 ((a1)) i) → Q none σ c s) : Ew 168 (d + 1) 0 (rargs 0 [.ref (D 0), I a1]) [] σE c s Q := by
  have O := OUT_refl (n := (V168).length) (D := D) (N := N) (σ := σE) (c := c) (s := s)
  have HE := H
  have r1 : (-2147483648 : Int) ≤ u0_0 ∧ u0_0 ≤ 2147483647 := by have h1 : (-2147483648 : Int) ≤ F 0 0 ∧ F 0 0 ≤ 2147483647 := H.krg 0 0 (by decide); rw [show F 0 0 = u0_0 from (eu0_0)] at h1; exact h1
  have r2 : (-2147483648 : Int) ≤ u0_1 ∧ u0_1 ≤ 2147483647 := by have h1 : (-2147483648 : Int) ≤ F 0 1 ∧ F 0 1 ≤ 2147483647 := H.krg 0 1 (by decide); rw [show F 0 1 = u0_1 from (eu0_1)] at h1; exact h1
  have r3 : (0 : Int) ≤ n1 ∧ n1 ≤ 1000000 := by have h1 := H.nle 1 (by decide); have h2 : (N 1 : Int) = n1 := en1; omega
  have r4 : (0 : Int) ≤ n2 ∧ n2 ≤ 1000000 := by have h1 := H.nle 2 (by decide); have h2 : (N 2 : Int) = n2 := en2; omega
  have r5 : (0 : Int) ≤ n3 ∧ n3 ≤ 1000000 := by have h1 := H.nle 3 (by decide); have h2 : (N 3 : Int) = n3 := en3; omega
  have r6 : (0 : Int) ≤ n4 ∧ n4 ≤ 1000000 := by have h1 := H.nle 4 (by decide); have h2 : (N 4 : Int) = n4 := en4; omega
  have r7 : (0 : Int) ≤ n5 ∧ n5 ≤ 1000000 := by have h1 := H.nle 5 (by decide); have h2 : (N 5 : Int) = n5 := en5; omega
  have r8 : (0 : Int) ≤ n6 ∧ n6 ≤ 1000000 := by have h1 := H.nle 6 (by decide); have h2 : (N 6 : Int) = n6 := en6; omega
  have r9 : (0 : Int) ≤ n7 ∧ n7 ≤ 1000000 := by have h1 := H.nle 7 (by decide); have h2 : (N 7 : Int) = n7 := en7; omega
  have r10 : (0 : Int) ≤ n8 ∧ n8 ≤ 1000000 := by have h1 := H.nle 8 (by decide); have h2 : (N 8 : Int) = n8 := en8; omega
  refine Ew_of (pc' := 1) (fun _ => x_aload_n rfl rfl) ?_
  refine Ew_of (pc' := 2) (fun _ => x_iconst rfl) ?_
  refine v_p H (o := 0) (z := 0) (v := I (0)) rfl rfl rfl rfl rfl rfl rfl rfl (show (-2147483648 : Int) ≤ 0 ∧ 0 ≤ 2147483647 by omega) (fun σ H O' => ?_)
  have O := OUT_trans O O'
  refine Ew_of (pc' := 6) (fun _ => x_aload_n rfl rfl) ?_
  refine v_g H (o := 0) (v := .ref (D 2)) rfl rfl rfl rfl rfl (vrf (pf2)) ?_
  refine Ew_of (pc' := 10) (fun _ => x_iconst rfl) ?_
  refine v_fil H (t := 2) (v := 0) rfl rfl rfl rfl rfl (show inr (0) by omega) (fun σ A11 H O' hA11 ga11 => ?_)
  have O := OUT_trans O O'
  refine Ew_of (pc' := 14) (fun _ => x_aload_n rfl rfl) ?_
  refine v_g H (o := 0) (v := .ref (D 2)) rfl rfl rfl rfl rfl (vrf (pf2)) ?_
  refine Ew_of (pc' := 18) (fun _ => x_iload_n rfl rfl) ?_
  refine Ew_of (pc' := 19) (fun _ => x_iconst rfl) ?_
  have hmu := mp_updN (g := ((A11 2))) (n := ((u0_1))) (j := (a1)) (v := 1) (by omega) (by omega)
  have hz : mp ((A11 2)) ((u0_1)) = 0 := mp_allz ga11
  have hm0 : mass (((A11 2)) (a1)) = 0 := by rw [ga11 (a1)]; decide
  have hm1 : mass 1 = 1 := by decide
  have hp0 : p2 0 = 1 := by decide
  have hge : GE1 (upd1 ((A11 2)) (a1) 1) ((u0_1)) := GE1_upd (GE1_z ga11) (by decide)
  refine v_sI H (o := 2) (z := 1) rfl rfl rfl rfl (n := n2) (en2) (show 0 ≤ a1 ∧ a1 < n2 by omega) (show inr (1) by omega) (fun σ H O' => ?_)
  have O := OUT_trans O O'
  have hSD : SHD ((upd1 (A11 2) (a1) (1))) ((u0_1)) ((0)) := ⟨.inl rfl, by omega, by omega, hge, by omega⟩
  have : ∀ i, 0 ≤ i → i < ((u0_1)) → ((upd1 (A11 2) (a1) (1))) i = on0 ((a1)) i := fun i _ _ => by unfold on0; by_cases z : i = (a1); (rw [if_pos z, z, upd1_s]); (rw [if_neg z, upd1_o z]; exact ga11 i)
  refine Ew_of (pc' := 21) (fun _ => x_aload_n rfl rfl) ?_
  refine v_inv H (o := 0) rfl rfl rfl rfl rfl rfl (by rfl) (C169 (D := pul [0, 2, 3, 4, 5, 6, 7, 1, 8] D) (N := pul [0, 2, 3, 4, 5, 6, 7, 1, 8] N) (HW_sub H (VS_of (show vsub V168 V169 [0, 2, 3, 4, 5, 6, 7, 1, 8] = true by decide +kernel))) (pf2) (pf3) (pf4) (pf5) (pf6) (pf7) (pf1) (pf8) (n2) (en2) (n3) (en3) (n4) (en4) (n5) (en5) (n6) (en6) (n7) (en7) (n1) (en1) (n8) (en8) (0) (rfl) (u0_1) ((eu0_1)) (upd1 (A11 2) (a1) (1)) (rfl) (w3) ((funext (hA11 3 rfl)).trans (ew3)) (w4) ((funext (hA11 4 rfl)).trans (ew4)) (w5) ((funext (hA11 5 rfl)).trans (ew5)) (w7) ((funext (hA11 7 rfl)).trans (ew7)) (w1) ((funext (hA11 1 rfl)).trans (ew1)) (w8) ((funext (hA11 8 rfl)).trans (ew8)) (show SHD ((upd1 (A11 2) (a1) (1))) ((u0_1)) ((0)) by assumption) (show (n2) = (u0_1) ∧ (n3) = (u0_1) ∧ (n4) = (u0_1) ∧ (n5) = (u0_1) ∧ (n6) = (u0_1) ∧ (n7) = (n1) ∧ (n8) = (n1) ∧ p2 ((0)) ≤ (n1) by omega) (fun σ12 F12' A12' H' O' hS12 hA12 w12_2 ew12_2 w12_3 ew12_3 w12_4 ew12_4 w12_6 ew12_6 w12_7 ew12_7 w12_8 ew12_8 pz12_0 => ⟨rfl, ?_⟩))
  refine v_back (c := c) (s := s) H (show vsub V168 V169 [0, 2, 3, 4, 5, 6, 7, 1, 8] = true by decide +kernel) H' O' (fun F12 A12 H O' eF12 eA12 => ?_)
  have O := OUT_trans O O'
  -- Share.lay
  exact w_ret rfl (k _ _ _ H O (SF_trans (SF_upd (SF_refl) rfl) (SF_glu (ι := [0, 2, 3, 4, 5, 6, 7, 1, 8]) hS12 eF12 (by decide +kernel)) (any_sub (l' := []) rfl)) (SA_trans (SA_upd (SA_trans (SA_refl) hA11 (any_subA rfl)) rfl) (SA_glu (ι := [0, 2, 3, 4, 5, 6, 7, 1, 8]) hA12 eA12 (by decide +kernel)) (any_subA (l' := [1, 3, 4, 5, 6, 7, 8]) rfl)) (0) (((show F12 0 0 = (updF F 0 0 (0)) 0 0 from (eF12 0 0).trans (hS12 0 0 rfl)))) (w12_7) ((eA12 1).trans ew12_7) (upd1 (A11 2) (a1) (1)) ((show A12 2 = (updA A11 2 (a1) (1)) 2 from (eA12 2).trans (funext (hA12 1 rfl)))) (w12_2) ((eA12 3).trans ew12_2) (w12_3) ((eA12 4).trans ew12_3) (w12_4) ((eA12 5).trans ew12_4) (w12_6) ((eA12 7).trans ew12_6) (w12_8) ((eA12 8).trans ew12_8) (show SL ((upd1 (A11 2) (a1) (1))) ((u0_1)) ((0)) ((w12_2)) ((w12_3)) ((w12_4)) ((w12_7)) ((w12_6)) ((w12_8)) by assumption) (show (0) = 0 by omega) (show ∀ i, 0 ≤ i → i < ((u0_1)) → ((upd1 (A11 2) (a1) (1))) i = on0 (a1) i by assumption))
abbrev V181_Row : vV := [(0, 8, [(0, 0), (0, 0), (4, 0), (4, 0), (4, 0), (4, 0), (4, 0), (4, 0), (4, 0), (4, 0), (4, 0), (0, 0), (0, 0)]), (0, 7, [(4, 0), (0, 0), (1, 0), (0, 0), (0, 0)]), (1, 1, []), (1, 0, [])]
set_option maxHeartbeats 16000000 in
/-- Share.tell: this, #1, this.points, #1.bytes -/
theorem C181_Row {σE : rS} {D N : Nat → Nat} {F : hF} {A : hA} {d c s : Nat} {Q : wQ} (H : HW V181_Row σE D N F A)  (pf2 : F 0 2 = (D 2 : Int)) (pf3 : F 1 0 = (D 3 : Int)) (n2 : Int) (en2 : (N 2 : Int) = n2) (n3 : Int) (en3 : (N 3 : Int) = n3) (u0_0 : Int) (eu0_0 : F 0 0 = u0_0) (u0_1 : Int) (eu0_1 : F 0 1 = u0_1) (u1_1 : Int) (eu1_1 : F 1 1 = u1_1) (u1_4 : Int) (eu1_4 : F 1 4 = u1_4) (w2 : Int → Int) (ew2 : A 2 = w2) (h0 : SHD ((w2)) ((u0_1)) ((u0_0))) (h1 : 5 ≤ ((u0_0))) (h2 : (n2) = ((u0_1))) (h3 : 0 ≤ (u1_1) ∧ (u1_1) ≤ (n3) ∧ (n3) ≤ 65536) (h4 : 0 ≤ (u1_4) ∧ (u1_4) ≤ 7) (k : ∀ (σ : rS) (F' : hF) (A' : hA), HW V181_Row σ D N F' A' → OUT (V181_Row).length D N σE c s D N σ c s → SF [(1, 1), (1, 2), (1, 3), (1, 4)] F F' → SA [3] A A' → ∀ y1_1 : Int, F' 1 1 = y1_1 → ∀ y1_4 : Int, F' 1 4 = y1_4 → (0 ≤ (y1_1) ∧ (y1_1) ≤ (n3) ∧ (n3) ≤ 65536) → ((y1_4) = 0) → ((u1_1) ≤ (y1_1)) → Q none σ c s) : Ew 181 (d + 1) 0 (rargs 0 [.ref (D 0), .ref (D 1)]) [] σE c s Q := by
  have O := OUT_refl (n := (V181_Row).length) (D := D) (N := N) (σ := σE) (c := c) (s := s)
  have HE := H
  have r1 : (-2147483648 : Int) ≤ u0_0 ∧ u0_0 ≤ 2147483647 := by have h1 : (-2147483648 : Int) ≤ F 0 0 ∧ F 0 0 ≤ 2147483647 := H.krg 0 0 (by decide); rw [show F 0 0 = u0_0 from (eu0_0)] at h1; exact h1
  have r2 : (-2147483648 : Int) ≤ u0_1 ∧ u0_1 ≤ 2147483647 := by have h1 : (-2147483648 : Int) ≤ F 0 1 ∧ F 0 1 ≤ 2147483647 := H.krg 0 1 (by decide); rw [show F 0 1 = u0_1 from (eu0_1)] at h1; exact h1
  have r3 : (-2147483648 : Int) ≤ u1_1 ∧ u1_1 ≤ 2147483647 := by have h1 : (-2147483648 : Int) ≤ F 1 1 ∧ F 1 1 ≤ 2147483647 := H.krg 1 1 (by decide); rw [show F 1 1 = u1_1 from (eu1_1)] at h1; exact h1
  have r4 : (-2147483648 : Int) ≤ u1_4 ∧ u1_4 ≤ 2147483647 := by have h1 : (-2147483648 : Int) ≤ F 1 4 ∧ F 1 4 ≤ 2147483647 := H.krg 1 4 (by decide); rw [show F 1 4 = u1_4 from (eu1_4)] at h1; exact h1
  have r5 : (0 : Int) ≤ n2 ∧ n2 ≤ 1000000 := by have h1 := H.nle 2 (by decide); have h2 : (N 2 : Int) = n2 := en2; omega
  have r6 : (0 : Int) ≤ n3 ∧ n3 ≤ 1000000 := by have h1 := H.nle 3 (by decide); have h2 : (N 3 : Int) = n3 := en3; omega
  have hS : SHD ((w2)) ((u0_1)) ((u0_0)) := by assumption
  have hf := SHD_f hS
  refine Ew_of (pc' := 1) (fun _ => x_aload_n rfl rfl) ?_
  refine Ew_of (pc' := 2) (fun _ => x_aload_n rfl rfl) ?_
  refine v_g H (o := 0) (v := I (u0_0)) rfl rfl rfl rfl rfl (congrArg (fun z : Int => I z) ((eu0_0) : F 0 0 = u0_0)) ?_
  refine Ew_of (pc' := 6) (fun _ => x_iconst rfl) ?_
  refine w_isub rfl ?_
  refine Ew_of (pc' := 8) (fun _ => x_iconst rfl) ?_
  refine v_inv H (o := 1) rfl rfl rfl rfl rfl rfl (by rfl) (C164 (D := pul [1, 3] D) (N := pul [1, 3] N) (HW_sub H (VS_of (show vsub V181_Row V164 [1, 3] = true by decide +kernel))) (pf3) (n3) (en3) (u1_1) ((eu1_1)) (u1_4) ((eu1_4)) (show inr ((u0_0 - 5)) by omega) (show inr (4) by omega) (show 0 ≤ (u1_1) ∧ (u1_1) ≤ (n3) ∧ (n3) ≤ 65536 by omega) (show 0 ≤ (4) ∧ (4) ≤ 31 by omega) (show 0 ≤ (u1_4) ∧ (u1_4) ≤ 7 by omega) (fun σ7 F7' A7' H' O' hS7 hA7 y7_0_1 ey7_0_1 y7_0_4 ey7_0_4 pz7_0 pz7_1 pz7_2 => ⟨rfl, ?_⟩))
  refine v_back (c := c) (s := s) H (show vsub V181_Row V164 [1, 3] = true by decide +kernel) H' O' (fun F7 A7 H O' eF7 eA7 => ?_)
  have O := OUT_trans O O'
  -- Row.addBits
  have r8 : (-2147483648 : Int) ≤ y7_0_1 ∧ y7_0_1 ≤ 2147483647 := by have h1 : (-2147483648 : Int) ≤ F7 1 1 ∧ F7 1 1 ≤ 2147483647 := H.krg 1 1 (by decide); rw [show F7 1 1 = y7_0_1 from ((eF7 1 1).trans ey7_0_1)] at h1; exact h1
  have r9 : (-2147483648 : Int) ≤ y7_0_4 ∧ y7_0_4 ≤ 2147483647 := by have h1 : (-2147483648 : Int) ≤ F7 1 4 ∧ F7 1 4 ≤ 2147483647 := H.krg 1 4 (by decide); rw [show F7 1 4 = y7_0_4 from ((eF7 1 4).trans ey7_0_4)] at h1; exact h1
  refine Ew_of (pc' := 12) (fun _ => x_iconst rfl) ?_
  refine Ew_of (pc' := 13) (fun _ => x_aload_n rfl rfl) ?_
  refine v_g H (o := 0) (v := I (u0_0)) rfl rfl rfl rfl rfl (congrArg (fun z : Int => I z) ((((show F7 0 0 = F 0 0 from (eF7 0 0))).trans (eu0_0)) : F7 0 0 = u0_0)) ?_
  refine w_ishl1 rfl (show 0 ≤ u0_0 ∧ u0_0 ≤ 31 by omega) ?_
  refine Ew_of (pc' := 18) (fun _ => x_istore_n rfl) ?_
  refine Ew_of (pc' := 19) (fun _ => x_aload_n rfl (rk_o (rfl) rfl rfl)) ?_
  refine v_g H (o := 0) (v := I (u0_0)) rfl rfl rfl rfl rfl (congrArg (fun z : Int => I z) ((((show F7 0 0 = F 0 0 from (eF7 0 0))).trans (eu0_0)) : F7 0 0 = u0_0)) ?_
  refine Ew_of (pc' := 23) (fun _ => x_istore_n rfl) ?_
  refine Ew_of (pc' := 24) (fun _ => x_iconst rfl) ?_
  refine Ew_of (pc' := 26) (fun _ => x_istore rfl) ?_
  have : mp ((w2)) 0 = 0 := rfl
  suffices hl26 : ∀ (m : Nat), ∀ (ls : rO) (σ : rS) (F_26 : hF) (A_26 : hA) (x26_2 : Int) (x26_3 : Int) (x26_4 : Int), rlook ls 0 = some (.ref (D 0)) → rlook ls 1 = some (.ref (D 1)) → rlook ls 2 = some (I (x26_2)) → rlook ls 3 = some (I (x26_3)) → rlook ls 4 = some (I (x26_4)) → HW V181_Row σ D N F_26 A_26 → OUT (V181_Row).length D N σE c s D N σ c s → SF [(1, 1), (1, 2), (1, 3), (1, 4)] F7 F_26 → SA [3] A7 A_26 → ∀ y26_1_1 : Int, F_26 1 1 = y26_1_1 → ∀ y26_1_4 : Int, F_26 1 4 = y26_1_4 → (inr (x26_2)) → (inr (x26_3)) → (inr (x26_4)) → (0 ≤ (x26_4) ∧ (x26_4) ≤ ((u0_1))) → ((x26_2) = p2 ((u0_0)) - mp ((w2)) (x26_4)) → (0 ≤ (x26_3) ∧ (x26_3) ≤ ((u0_0))) → (0 ≤ (y26_1_1) ∧ (y26_1_1) ≤ (n3) ∧ (n3) ≤ 65536) → (0 ≤ (y26_1_4) ∧ (y26_1_4) ≤ 7) → ((u1_1) ≤ (y26_1_1)) → (((u0_1)) - (x26_4)).toNat = m → Ew 181 (d + 1) 26 ls [] σ c s Q from
    hl26 _ _ _ _ _ (p2 (u0_0)) (u0_0) (0) (rk_o (rk_o (rk_o (rfl) rfl rfl) rfl rfl) rfl rfl) (rk_o (rk_o (rk_o (rfl) rfl rfl) rfl rfl) rfl rfl) (rk_o (rk_o (rk_s) rfl rfl) rfl rfl) (rk_o (rk_s) rfl rfl) (rk_s) H O (SF_refl) (SA_refl)   (y7_0_1) (((eF7 1 1).trans ey7_0_1)) (y7_0_4) (((eF7 1 4).trans ey7_0_4))  (show inr (p2 (u0_0)) by omega) (show inr (u0_0) by omega) (show inr (0) by omega) (show 0 ≤ (0) ∧ (0) ≤ ((u0_1)) by omega) (show (p2 (u0_0)) = p2 ((u0_0)) - mp ((w2)) (0) by omega) (show 0 ≤ (u0_0) ∧ (u0_0) ≤ ((u0_0)) by omega) (show 0 ≤ (y7_0_1) ∧ (y7_0_1) ≤ (n3) ∧ (n3) ≤ 65536 by omega) (show 0 ≤ (y7_0_4) ∧ (y7_0_4) ≤ 7 by omega) (show (u1_1) ≤ (y7_0_1) by omega) rfl
  as_aux_lemma =>
  intro m
  induction m using Nat.strongRecOn with
  | _ m ih26 =>
    intro ls σ F_26 A_26 x26_2 x26_3 x26_4 l26_0 l26_1 l26_2 l26_3 l26_4 H O hS_26 hA_26   y26_1_1 ey26_1_1 y26_1_4 ey26_1_4  j26_0 j26_1 j26_2 j26_3 j26_4 j26_5 j26_6 j26_7 j26_8 hm26
    have r11 : (-2147483648 : Int) ≤ y26_1_1 ∧ y26_1_1 ≤ 2147483647 := by have h1 : (-2147483648 : Int) ≤ F_26 1 1 ∧ F_26 1 1 ≤ 2147483647 := H.krg 1 1 (by decide); rw [show F_26 1 1 = y26_1_1 from (ey26_1_1)] at h1; exact h1
    have r12 : (-2147483648 : Int) ≤ y26_1_4 ∧ y26_1_4 ≤ 2147483647 := by have h1 : (-2147483648 : Int) ≤ F_26 1 4 ∧ F_26 1 4 ≤ 2147483647 := H.krg 1 4 (by decide); rw [show F_26 1 4 = y26_1_4 from (ey26_1_4)] at h1; exact h1
    refine Ew_of (pc' := 28) (fun _ => x_iload rfl l26_4) ?_
    refine Ew_of (pc' := 29) (fun _ => x_aload_n rfl l26_0) ?_
    refine v_g H (o := 0) (v := I (u0_1)) rfl rfl rfl rfl rfl (congrArg (fun z : Int => I z) ((((hS_26 0 1 rfl).trans ((show F7 0 1 = F 0 1 from (eF7 0 1)))).trans (eu0_1)) : F_26 0 1 = u0_1)) ?_
    refine w_icmpge (t := 202) rfl rfl (show inr (x26_4) by omega) (show inr (u0_1) by omega) (fun b13 => ?_) (fun b13 => ?_)
    · refine Ew_of (pc' := 203) (fun _ => x_aload_n rfl l26_1) ?_
      refine v_inv H (o := 1) rfl rfl rfl rfl rfl rfl (by rfl) (C165h (D := pul [1, 3] D) (N := pul [1, 3] N) (HW_sub H (VS_of (show vsub V181_Row V165 [1, 3] = true by decide +kernel))) ((((hS_26 1 0 rfl).trans ((show F7 1 0 = F 1 0 from (eF7 1 0).trans (hS7 0 0 rfl))))).trans (pf3)) (n3) (en3) (y26_1_1) ((ey26_1_1)) (y26_1_4) ((ey26_1_4)) (show 0 ≤ (y26_1_1) ∧ (y26_1_1) ≤ (n3) ∧ (n3) ≤ 65536 by omega) (fun σ14 F14' A14' H' O' hS14 hA14 y14_0_1 ey14_0_1 y14_0_4 ey14_0_4 pz14_0 pz14_1 => ⟨rfl, ?_⟩))
      refine v_back (c := c) (s := s) H (show vsub V181_Row V165 [1, 3] = true by decide +kernel) H' O' (fun F14 A14 H O' eF14 eA14 => ?_)
      have O := OUT_trans O O'
      -- Row.endBits
      have r15 : (-2147483648 : Int) ≤ y14_0_1 ∧ y14_0_1 ≤ 2147483647 := by have h1 : (-2147483648 : Int) ≤ F14 1 1 ∧ F14 1 1 ≤ 2147483647 := H.krg 1 1 (by decide); rw [show F14 1 1 = y14_0_1 from ((eF14 1 1).trans ey14_0_1)] at h1; exact h1
      have r16 : (-2147483648 : Int) ≤ y14_0_4 ∧ y14_0_4 ≤ 2147483647 := by have h1 : (-2147483648 : Int) ≤ F14 1 4 ∧ F14 1 4 ≤ 2147483647 := H.krg 1 4 (by decide); rw [show F14 1 4 = y14_0_4 from ((eF14 1 4).trans ey14_0_4)] at h1; exact h1
      exact w_ret rfl (k _ _ _ H O (SF_trans (SF_trans (SF_trans (SF_refl) (SF_glu (ι := [1, 3]) hS7 eF7 (by decide +kernel)) (any_sub (l' := [(1, 1), (1, 2), (1, 3), (1, 4)]) rfl)) hS_26 (any_sub rfl)) (SF_glu (ι := [1, 3]) hS14 eF14 (by decide +kernel)) (any_sub (l' := [(1, 1), (1, 2), (1, 3), (1, 4)]) rfl)) (SA_trans (SA_trans (SA_trans (SA_refl) (SA_glu (ι := [1, 3]) hA7 eA7 (by decide +kernel)) (any_subA (l' := [3]) rfl)) hA_26 (any_subA rfl)) (SA_glu (ι := [1, 3]) hA14 eA14 (by decide +kernel)) (any_subA (l' := [3]) rfl)) (y14_0_1) (((eF14 1 1).trans ey14_0_1)) (y14_0_4) (((eF14 1 4).trans ey14_0_4)) (show 0 ≤ (y14_0_1) ∧ (y14_0_1) ≤ (n3) ∧ (n3) ≤ 65536 by omega) (show (y14_0_4) = 0 by omega) (show (u1_1) ≤ (y14_0_1) by omega))
    · refine Ew_of (pc' := 36) (fun _ => x_iload_n rfl l26_2) ?_
      refine w_ifle (t := 202) rfl rfl (show inr (x26_2) by omega) (fun b17 => ?_) (fun b17 => ?_)
      · refine Ew_of (pc' := 203) (fun _ => x_aload_n rfl l26_1) ?_
        refine v_inv H (o := 1) rfl rfl rfl rfl rfl rfl (by rfl) (C165h (D := pul [1, 3] D) (N := pul [1, 3] N) (HW_sub H (VS_of (show vsub V181_Row V165 [1, 3] = true by decide +kernel))) ((((hS_26 1 0 rfl).trans ((show F7 1 0 = F 1 0 from (eF7 1 0).trans (hS7 0 0 rfl))))).trans (pf3)) (n3) (en3) (y26_1_1) ((ey26_1_1)) (y26_1_4) ((ey26_1_4)) (show 0 ≤ (y26_1_1) ∧ (y26_1_1) ≤ (n3) ∧ (n3) ≤ 65536 by omega) (fun σ18 F18' A18' H' O' hS18 hA18 y18_0_1 ey18_0_1 y18_0_4 ey18_0_4 pz18_0 pz18_1 => ⟨rfl, ?_⟩))
        refine v_back (c := c) (s := s) H (show vsub V181_Row V165 [1, 3] = true by decide +kernel) H' O' (fun F18 A18 H O' eF18 eA18 => ?_)
        have O := OUT_trans O O'
        -- Row.endBits
        have r19 : (-2147483648 : Int) ≤ y18_0_1 ∧ y18_0_1 ≤ 2147483647 := by have h1 : (-2147483648 : Int) ≤ F18 1 1 ∧ F18 1 1 ≤ 2147483647 := H.krg 1 1 (by decide); rw [show F18 1 1 = y18_0_1 from ((eF18 1 1).trans ey18_0_1)] at h1; exact h1
        have r20 : (-2147483648 : Int) ≤ y18_0_4 ∧ y18_0_4 ≤ 2147483647 := by have h1 : (-2147483648 : Int) ≤ F18 1 4 ∧ F18 1 4 ≤ 2147483647 := H.krg 1 4 (by decide); rw [show F18 1 4 = y18_0_4 from ((eF18 1 4).trans ey18_0_4)] at h1; exact h1
        exact w_ret rfl (k _ _ _ H O (SF_trans (SF_trans (SF_trans (SF_refl) (SF_glu (ι := [1, 3]) hS7 eF7 (by decide +kernel)) (any_sub (l' := [(1, 1), (1, 2), (1, 3), (1, 4)]) rfl)) hS_26 (any_sub rfl)) (SF_glu (ι := [1, 3]) hS18 eF18 (by decide +kernel)) (any_sub (l' := [(1, 1), (1, 2), (1, 3), (1, 4)]) rfl)) (SA_trans (SA_trans (SA_trans (SA_refl) (SA_glu (ι := [1, 3]) hA7 eA7 (by decide +kernel)) (any_subA (l' := [3]) rfl)) hA_26 (any_subA rfl)) (SA_glu (ι := [1, 3]) hA18 eA18 (by decide +kernel)) (any_subA (l' := [3]) rfl)) (y18_0_1) (((eF18 1 1).trans ey18_0_1)) (y18_0_4) (((eF18 1 4).trans ey18_0_4)) (show 0 ≤ (y18_0_1) ∧ (y18_0_1) ≤ (n3) ∧ (n3) ≤ 65536 by omega) (show (y18_0_4) = 0 by omega) (show (u1_1) ≤ (y18_0_1) by omega))
      · suffices hl39 : ∀ (m : Nat), ∀ (ls : rO) (σ : rS) (F_39 : hF) (A_39 : hA) (x39_3 : Int), rlook ls 0 = some (.ref (D 0)) → rlook ls 1 = some (.ref (D 1)) → rlook ls 2 = some (I (x26_2)) → rlook ls 3 = some (I (x39_3)) → rlook ls 4 = some (I (x26_4)) → HW V181_Row σ D N F_39 A_39 → OUT (V181_Row).length D N σE c s D N σ c s → SF [] F_26 F_39 → SA [] A_26 A_39 → (inr (x39_3)) → (0 ≤ (x39_3) ∧ (x39_3) ≤ ((u0_0))) → ((x39_3)).toNat = m → Ew 181 (d + 1) 39 ls [] σ c s Q from
          hl39 _ _ _ _ _ (x26_3) (l26_0) (l26_1) (l26_2) (l26_3) (l26_4) H O (SF_refl) (SA_refl)     (show inr (x26_3) by omega) (show 0 ≤ (x26_3) ∧ (x26_3) ≤ ((u0_0)) by omega) rfl
        as_aux_lemma =>
        intro m
        induction m using Nat.strongRecOn with
        | _ m ih39 =>
          intro ls σ F_39 A_39 x39_3 l39_0 l39_1 l39_2 l39_3 l39_4 H O hS_39 hA_39     j39_0 j39_1 hm39
          refine Ew_of (pc' := 40) (fun _ => x_iload_n rfl l39_3) ?_
          have hc58 : ∀ (ls : rO) (σ : rS) (F_c58 : hF) (A_c58 : hA) , rlook ls 0 = some (.ref (D 0)) → rlook ls 1 = some (.ref (D 1)) → rlook ls 2 = some (I (x26_2)) → rlook ls 3 = some (I (x39_3)) → rlook ls 4 = some (I (x26_4)) → HW V181_Row σ D N F_c58 A_c58 → OUT (V181_Row).length D N σE c s D N σ c s → SF [] F_39 F_c58 → SA [] A_39 A_c58 → (((x39_3) ≤ (0)) ∨ ((x39_3) > (0) ∧ ((x26_2 + 1)) ≥ (p2 (x39_3)))) → Ew 181 (d + 1) 58 ls [] σ c s Q := by
           as_aux_lemma =>
            intro  ls σ F_c58 A_c58  lc58_0 lc58_1 lc58_2 lc58_3 lc58_4 H O hS_c58 hA_c58     jc58_0
            have hat := SHD_at hS (s := (x26_4)) (by omega) (by omega)
            have hpw := p2_le9 (o := (x39_3)) (by omega)
            have hpp := p2_pos ((x39_3))
            have hms := mass_eq (((w2)) (x26_4))
            refine Ew_of (pc' := 59) (fun _ => x_aload_n rfl lc58_0) ?_
            refine v_g H (o := 0) (v := .ref (D 2)) rfl rfl rfl rfl rfl (vrf ((((((hS_c58 0 2 rfl).trans (hS_39 0 2 rfl)).trans (hS_26 0 2 rfl)).trans ((show F7 0 2 = F 0 2 from (eF7 0 2))))).trans (pf2))) ?_
            refine Ew_of (pc' := 64) (fun _ => x_iload rfl lc58_4) ?_
            refine v_lI H (o := 2) rfl rfl rfl rfl (n := n2) (en2) (show 0 ≤ x26_4 ∧ x26_4 < n2 by omega) (fun v21 ev21 qv21 => ?_)
            have ev21 : (w2) (x26_4) = v21 := (congrFun ((funext (hA_c58 2 rfl)).trans ((funext (hA_39 2 rfl)).trans ((funext (hA_26 2 rfl)).trans (((show A7 2 = A 2 from (eA7 2))).trans (ew2))))) (x26_4)).symm.trans ev21
            refine Ew_of (pc' := 66) (fun _ => x_iconst rfl) ?_
            refine w_iadd rfl ?_
            refine Ew_of (pc' := 69) (fun _ => x_istore rfl) ?_
            refine Ew_of (pc' := 70) (fun _ => x_iconst rfl) ?_
            refine Ew_of (pc' := 71) (fun _ => x_iload_n rfl (rk_o (lc58_3) rfl rfl)) ?_
            refine w_ishlT rfl (show 0 ≤ x39_3 ∧ x39_3 ≤ 31 by omega) ?_
            refine Ew_of (pc' := 73) (fun _ => x_iconst rfl) ?_
            refine w_isub rfl ?_
            refine Ew_of (pc' := 75) (fun _ => x_iload_n rfl (rk_o (lc58_2) rfl rfl)) ?_
            refine w_isub rfl ?_
            refine Ew_of (pc' := 78) (fun _ => x_istore rfl) ?_
            refine Ew_of (pc' := 79) (fun _ => x_aload_n rfl (rk_o (rk_o (lc58_1) rfl rfl) rfl rfl)) ?_
            refine Ew_of (pc' := 81) (fun _ => x_iload rfl (rk_o (rk_s) rfl rfl)) ?_
            refine Ew_of (pc' := 82) (fun _ => x_iconst rfl) ?_
            refine Ew_of (pc' := 83) (fun _ => x_iload_n rfl (rk_o (rk_o (lc58_3) rfl rfl) rfl rfl)) ?_
            refine w_ishl1 rfl (show 0 ≤ x39_3 ∧ x39_3 ≤ 31 by omega) ?_
            have hc97 : ∀ (tc97_0 : Int), ∀ (ls : rO) (σ : rS) (F_c97 : hF) (A_c97 : hA) , rlook ls 0 = some (.ref (D 0)) → rlook ls 1 = some (.ref (D 1)) → rlook ls 2 = some (I (x26_2)) → rlook ls 3 = some (I (x39_3)) → rlook ls 4 = some (I (x26_4)) → rlook ls 5 = some (I ((v21 + 1))) → rlook ls 6 = some (I ((((2 * p2 (x39_3)) - 2) - x26_2))) → HW V181_Row σ D N F_c97 A_c97 → OUT (V181_Row).length D N σE c s D N σ c s → SF [] F_c58 F_c97 → SA [] A_c58 A_c97 → (inr (tc97_0)) → ((((v21 + 1)) < (p2 (x39_3)) ∧ (tc97_0) = ((v21 + 1))) ∨ (((v21 + 1)) ≥ (p2 (x39_3)) ∧ (tc97_0) = (((v21 + 1) + (((2 * p2 (x39_3)) - 2) - x26_2))))) → Ew 181 (d + 1) 97 ls [I (tc97_0), .ref (D 1)] σ c s Q := by
             as_aux_lemma =>
              intro tc97_0 ls σ F_c97 A_c97  lc97_0 lc97_1 lc97_2 lc97_3 lc97_4 lc97_5 lc97_6 H O hS_c97 hA_c97     jc97_0 jc97_1
              refine Ew_of (pc' := 99) (fun _ => x_iload rfl lc97_5) ?_
              refine Ew_of (pc' := 101) (fun _ => x_iload rfl lc97_6) ?_
              have hc111 : ∀ (tc111_0 : Int), ∀ (ls : rO) (σ : rS) (F_c111 : hF) (A_c111 : hA) , rlook ls 0 = some (.ref (D 0)) → rlook ls 1 = some (.ref (D 1)) → rlook ls 2 = some (I (x26_2)) → rlook ls 3 = some (I (x39_3)) → rlook ls 4 = some (I (x26_4)) → HW V181_Row σ D N F_c111 A_c111 → OUT (V181_Row).length D N σE c s D N σ c s → SF [] F_c97 F_c111 → SA [] A_c97 A_c111 → (inr (tc111_0)) → ((((v21 + 1)) ≥ ((((2 * p2 (x39_3)) - 2) - x26_2)) ∧ (tc111_0) = ((x39_3 + 1))) ∨ (((v21 + 1)) < ((((2 * p2 (x39_3)) - 2) - x26_2)) ∧ (tc111_0) = (x39_3))) → Ew 181 (d + 1) 111 ls [I (tc111_0), I (tc97_0), .ref (D 1)] σ c s Q := by
               as_aux_lemma =>
                intro tc111_0 ls σ F_c111 A_c111  lc111_0 lc111_1 lc111_2 lc111_3 lc111_4 H O hS_c111 hA_c111     jc111_0 jc111_1
                refine v_inv H (o := 1) rfl rfl rfl rfl rfl rfl (by rfl) (C164 (D := pul [1, 3] D) (N := pul [1, 3] N) (HW_sub H (VS_of (show vsub V181_Row V164 [1, 3] = true by decide +kernel))) ((((((((hS_c111 1 0 rfl).trans (hS_c97 1 0 rfl)).trans (hS_c58 1 0 rfl)).trans (hS_39 1 0 rfl)).trans (hS_26 1 0 rfl)).trans ((show F7 1 0 = F 1 0 from (eF7 1 0).trans (hS7 0 0 rfl))))).trans (pf3)) (n3) (en3) (y26_1_1) ((((((hS_c111 1 1 rfl).trans (hS_c97 1 1 rfl)).trans (hS_c58 1 1 rfl)).trans (hS_39 1 1 rfl)).trans (ey26_1_1))) (y26_1_4) ((((((hS_c111 1 4 rfl).trans (hS_c97 1 4 rfl)).trans (hS_c58 1 4 rfl)).trans (hS_39 1 4 rfl)).trans (ey26_1_4))) (show inr (tc97_0) by omega) (show inr (tc111_0) by omega) (show 0 ≤ (y26_1_1) ∧ (y26_1_1) ≤ (n3) ∧ (n3) ≤ 65536 by omega) (show 0 ≤ (tc111_0) ∧ (tc111_0) ≤ 31 by omega) (show 0 ≤ (y26_1_4) ∧ (y26_1_4) ≤ 7 by omega) (fun σ24 F24' A24' H' O' hS24 hA24 y24_0_1 ey24_0_1 y24_0_4 ey24_0_4 pz24_0 pz24_1 pz24_2 => ⟨rfl, ?_⟩))
                refine v_back (c := c) (s := s) H (show vsub V181_Row V164 [1, 3] = true by decide +kernel) H' O' (fun F24 A24 H O' eF24 eA24 => ?_)
                have O := OUT_trans O O'
                -- Row.addBits
                have r25 : (-2147483648 : Int) ≤ y24_0_1 ∧ y24_0_1 ≤ 2147483647 := by have h1 : (-2147483648 : Int) ≤ F24 1 1 ∧ F24 1 1 ≤ 2147483647 := H.krg 1 1 (by decide); rw [show F24 1 1 = y24_0_1 from ((eF24 1 1).trans ey24_0_1)] at h1; exact h1
                have r26 : (-2147483648 : Int) ≤ y24_0_4 ∧ y24_0_4 ≤ 2147483647 := by have h1 : (-2147483648 : Int) ≤ F24 1 4 ∧ F24 1 4 ≤ 2147483647 := H.krg 1 4 (by decide); rw [show F24 1 4 = y24_0_4 from ((eF24 1 4).trans ey24_0_4)] at h1; exact h1
                refine Ew_of (pc' := 115) (fun _ => x_iload_n rfl lc111_2) ?_
                refine Ew_of (pc' := 116) (fun _ => x_aload_n rfl lc111_0) ?_
                refine v_g H (o := 0) (v := .ref (D 2)) rfl rfl rfl rfl rfl (vrf ((((((((((show F24 0 2 = F_c111 0 2 from (eF24 0 2))).trans (hS_c111 0 2 rfl)).trans (hS_c97 0 2 rfl)).trans (hS_c58 0 2 rfl)).trans (hS_39 0 2 rfl)).trans (hS_26 0 2 rfl)).trans ((show F7 0 2 = F 0 2 from (eF7 0 2))))).trans (pf2))) ?_
                refine Ew_of (pc' := 121) (fun _ => x_iload rfl lc111_4) ?_
                refine v_lI H (o := 2) rfl rfl rfl rfl (n := n2) (en2) (show 0 ≤ x26_4 ∧ x26_4 < n2 by omega) (fun v27 ev27 qv27 => ?_)
                have ev27 : (w2) (x26_4) = v27 := (congrFun (((show A24 2 = A_c111 2 from (eA24 2))).trans ((funext (hA_c111 2 rfl)).trans ((funext (hA_c97 2 rfl)).trans ((funext (hA_c58 2 rfl)).trans ((funext (hA_39 2 rfl)).trans ((funext (hA_26 2 rfl)).trans (((show A7 2 = A 2 from (eA7 2))).trans (ew2)))))))) (x26_4)).symm.trans ev27
                have hc136 : ∀ (tc136_0 : Int), ∀ (ls : rO) (σ : rS) (F_c136 : hF) (A_c136 : hA) , rlook ls 0 = some (.ref (D 0)) → rlook ls 1 = some (.ref (D 1)) → rlook ls 3 = some (I (x39_3)) → rlook ls 4 = some (I (x26_4)) → HW V181_Row σ D N F_c136 A_c136 → OUT (V181_Row).length D N σE c s D N σ c s → SF [] F24 F_c136 → SA [] A24 A_c136 → (inr (tc136_0)) → (((v27) ≥ (0) ∧ -2147483648 ≤ ((w2) (x26_4)) ∧ ((w2) (x26_4)) ≤ 2147483647 ∧ (tc136_0) = ((w2) (x26_4))) ∨ ((v27) < (0) ∧ (tc136_0) = (1))) → Ew 181 (d + 1) 136 ls [I (tc136_0), I (x26_2)] σ c s Q := by
                 as_aux_lemma =>
                  intro tc136_0 ls σ F_c136 A_c136  lc136_0 lc136_1 lc136_3 lc136_4 H O hS_c136 hA_c136     jc136_0 jc136_1
                  have hq : ((tc136_0) : Int) = mass (((w2)) (x26_4)) := by omega
                  refine w_isub rfl ?_
                  refine Ew_of (pc' := 138) (fun _ => x_istore_n rfl) ?_
                  refine Ew_of (pc' := 139) (fun _ => x_aload_n rfl (rk_o (lc136_0) rfl rfl)) ?_
                  refine v_g H (o := 0) (v := .ref (D 2)) rfl rfl rfl rfl rfl (vrf ((((((((((hS_c136 0 2 rfl).trans ((show F24 0 2 = F_c111 0 2 from (eF24 0 2)))).trans (hS_c111 0 2 rfl)).trans (hS_c97 0 2 rfl)).trans (hS_c58 0 2 rfl)).trans (hS_39 0 2 rfl)).trans (hS_26 0 2 rfl)).trans ((show F7 0 2 = F 0 2 from (eF7 0 2))))).trans (pf2))) ?_
                  refine Ew_of (pc' := 144) (fun _ => x_iload rfl (rk_o (lc136_4) rfl rfl)) ?_
                  refine v_lI H (o := 2) rfl rfl rfl rfl (n := n2) (en2) (show 0 ≤ x26_4 ∧ x26_4 < n2 by omega) (fun v28 ev28 qv28 => ?_)
                  have ev28 : (w2) (x26_4) = v28 := (congrFun ((funext (hA_c136 2 rfl)).trans (((show A24 2 = A_c111 2 from (eA24 2))).trans ((funext (hA_c111 2 rfl)).trans ((funext (hA_c97 2 rfl)).trans ((funext (hA_c58 2 rfl)).trans ((funext (hA_39 2 rfl)).trans ((funext (hA_26 2 rfl)).trans (((show A7 2 = A 2 from (eA7 2))).trans (ew2))))))))) (x26_4)).symm.trans ev28
                  refine w_ifne (t := 196) rfl rfl (show inr (v28) by omega) (fun b29 => ?_) (fun b29 => ?_)
                  · refine Ew_of (pc' := 199) (fun _ => x_iinc (len := 3) rfl (rk_o (lc136_4) rfl rfl)) ?_
                    refine Ew_of (pc' := 26) (fun _ => x_goto rfl rfl) ?_
                    exact ih26 _ (by omega) _ _ _ _ ((x26_2 - tc136_0)) (x39_3) ((x26_4 + 1)) (rk_o (rk_o (lc136_0) rfl rfl) rfl rfl) (rk_o (rk_o (lc136_1) rfl rfl) rfl rfl) (rk_o (rk_s) rfl rfl) (rk_o (rk_o (lc136_3) rfl rfl) rfl rfl) (rk_s) H O (SF_trans (SF_trans (SF_trans (SF_trans (SF_trans (SF_trans (hS_26) hS_39 (any_sub rfl)) hS_c58 (any_sub rfl)) hS_c97 (any_sub rfl)) hS_c111 (any_sub rfl)) (SF_glu (ι := [1, 3]) hS24 eF24 (by decide +kernel)) (any_sub (l' := [(1, 1), (1, 2), (1, 3), (1, 4)]) rfl)) hS_c136 (any_sub rfl)) (SA_trans (SA_trans (SA_trans (SA_trans (SA_trans (SA_trans (hA_26) hA_39 (any_subA rfl)) hA_c58 (any_subA rfl)) hA_c97 (any_subA rfl)) hA_c111 (any_subA rfl)) (SA_glu (ι := [1, 3]) hA24 eA24 (by decide +kernel)) (any_subA (l' := [3]) rfl)) hA_c136 (any_subA rfl))   (y24_0_1) (((hS_c136 1 1 rfl).trans ((eF24 1 1).trans ey24_0_1))) (y24_0_4) (((hS_c136 1 4 rfl).trans ((eF24 1 4).trans ey24_0_4)))  (show inr ((x26_2 - tc136_0)) by omega) (show inr (x39_3) by omega) (show inr ((x26_4 + 1)) by omega) (show 0 ≤ ((x26_4 + 1)) ∧ ((x26_4 + 1)) ≤ ((u0_1)) by omega) (show ((x26_2 - tc136_0)) = p2 ((u0_0)) - mp ((w2)) ((x26_4 + 1)) by omega) (show 0 ≤ (x39_3) ∧ (x39_3) ≤ ((u0_0)) by omega) (show 0 ≤ (y24_0_1) ∧ (y24_0_1) ≤ (n3) ∧ (n3) ≤ 65536 by omega) (show 0 ≤ (y24_0_4) ∧ (y24_0_4) ≤ 7 by omega) (show (u1_1) ≤ (y24_0_1) by omega) rfl
                  · refine Ew_of (pc' := 149) (fun _ => x_aload_n rfl (rk_o (lc136_0) rfl rfl)) ?_
                    refine Ew_of (pc' := 151) (fun _ => x_iload rfl (rk_o (lc136_4) rfl rfl)) ?_
                    refine v_inv H (o := 0) rfl rfl rfl rfl rfl rfl (by rfl) (C182 (D := pul [0, 2] D) (N := pul [0, 2] N) (HW_sub H (VS_of (show vsub V181_Row V182 [0, 2] = true by decide +kernel))) ((((((((((hS_c136 0 2 rfl).trans ((show F24 0 2 = F_c111 0 2 from (eF24 0 2)))).trans (hS_c111 0 2 rfl)).trans (hS_c97 0 2 rfl)).trans (hS_c58 0 2 rfl)).trans (hS_39 0 2 rfl)).trans (hS_26 0 2 rfl)).trans ((show F7 0 2 = F 0 2 from (eF7 0 2))))).trans (pf2)) (n2) (en2) (u0_1) ((((((((((hS_c136 0 1 rfl).trans ((show F24 0 1 = F_c111 0 1 from (eF24 0 1)))).trans (hS_c111 0 1 rfl)).trans (hS_c97 0 1 rfl)).trans (hS_c58 0 1 rfl)).trans (hS_39 0 1 rfl)).trans (hS_26 0 1 rfl)).trans ((show F7 0 1 = F 0 1 from (eF7 0 1)))).trans (eu0_1))) (w2) ((funext (hA_c136 2 rfl)).trans (((show A24 2 = A_c111 2 from (eA24 2))).trans ((funext (hA_c111 2 rfl)).trans ((funext (hA_c97 2 rfl)).trans ((funext (hA_c58 2 rfl)).trans ((funext (hA_39 2 rfl)).trans ((funext (hA_26 2 rfl)).trans (((show A7 2 = A 2 from (eA7 2))).trans (ew2))))))))) (show inr (x26_4) by omega) (show (n2) = ((u0_1)) by omega) (show 0 ≤ (x26_4) ∧ (x26_4) < ((u0_1)) by omega) (show 1 ≤ ((u0_1)) ∧ ((u0_1)) ≤ 64 by omega) (fun z30 σ30 F30' A30' H' O' hS30 hA30 pz30_0 pz30_1 pz30_2 => ⟨rfl, ?_⟩))
                    refine v_back (c := c) (s := s) H (show vsub V181_Row V182 [0, 2] = true by decide +kernel) H' O' (fun F30 A30 H O' eF30 eA30 => ?_)
                    have O := OUT_trans O O'
                    -- Share.zerosBehind
                    have hzr := pz30_2
                    refine Ew_of (pc' := 156) (fun _ => x_istore rfl) ?_
                    refine Ew_of (pc' := 157) (fun _ => x_iconst rfl) ?_
                    refine Ew_of (pc' := 159) (fun _ => x_istore rfl) ?_
                    suffices hl159 : ∀ (m : Nat), ∀ (ls : rO) (σ : rS) (F_159 : hF) (A_159 : hA) (x159_8 : Int), rlook ls 0 = some (.ref (D 0)) → rlook ls 1 = some (.ref (D 1)) → rlook ls 2 = some (I ((x26_2 - tc136_0))) → rlook ls 3 = some (I (x39_3)) → rlook ls 4 = some (I (x26_4)) → rlook ls 7 = some (I (z30)) → rlook ls 8 = some (I (x159_8)) → HW V181_Row σ D N F_159 A_159 → OUT (V181_Row).length D N σE c s D N σ c s → SF [(1, 1), (1, 2), (1, 3), (1, 4)] F30 F_159 → SA [3] A30 A_159 → ∀ y159_1_1 : Int, F_159 1 1 = y159_1_1 → ∀ y159_1_4 : Int, F_159 1 4 = y159_1_4 → (inr (x159_8)) → (0 ≤ (x159_8)) → (0 ≤ (y159_1_1) ∧ (y159_1_1) ≤ (n3) ∧ (n3) ≤ 65536) → (0 ≤ (y159_1_4) ∧ (y159_1_4) ≤ 7) → ((u1_1) ≤ (y159_1_1)) → ((z30) / 3 - (x159_8)).toNat = m → Ew 181 (d + 1) 159 ls [] σ c s Q from
                      hl159 _ _ _ _ _ (0) (rk_o (rk_o (rk_o (lc136_0) rfl rfl) rfl rfl) rfl rfl) (rk_o (rk_o (rk_o (lc136_1) rfl rfl) rfl rfl) rfl rfl) (rk_o (rk_o (rk_s) rfl rfl) rfl rfl) (rk_o (rk_o (rk_o (lc136_3) rfl rfl) rfl rfl) rfl rfl) (rk_o (rk_o (rk_o (lc136_4) rfl rfl) rfl rfl) rfl rfl) (rk_o (rk_s) rfl rfl) (rk_s) H O (SF_refl) (SA_refl)   (y24_0_1) (((((show F30 1 1 = F_c136 1 1 from (eF30 1 1))).trans (hS_c136 1 1 rfl)).trans ((eF24 1 1).trans ey24_0_1))) (y24_0_4) (((((show F30 1 4 = F_c136 1 4 from (eF30 1 4))).trans (hS_c136 1 4 rfl)).trans ((eF24 1 4).trans ey24_0_4)))  (show inr (0) by omega) (show 0 ≤ (0) by omega) (show 0 ≤ (y24_0_1) ∧ (y24_0_1) ≤ (n3) ∧ (n3) ≤ 65536 by omega) (show 0 ≤ (y24_0_4) ∧ (y24_0_4) ≤ 7 by omega) (show (u1_1) ≤ (y24_0_1) by omega) rfl
                    as_aux_lemma =>
                    intro m
                    induction m using Nat.strongRecOn with
                    | _ m ih159 =>
                      intro ls σ F_159 A_159 x159_8 l159_0 l159_1 l159_2 l159_3 l159_4 l159_7 l159_8 H O hS_159 hA_159   y159_1_1 ey159_1_1 y159_1_4 ey159_1_4  j159_0 j159_1 j159_2 j159_3 j159_4 hm159
                      have r31 : (-2147483648 : Int) ≤ y159_1_1 ∧ y159_1_1 ≤ 2147483647 := by have h1 : (-2147483648 : Int) ≤ F_159 1 1 ∧ F_159 1 1 ≤ 2147483647 := H.krg 1 1 (by decide); rw [show F_159 1 1 = y159_1_1 from (ey159_1_1)] at h1; exact h1
                      have r32 : (-2147483648 : Int) ≤ y159_1_4 ∧ y159_1_4 ≤ 2147483647 := by have h1 : (-2147483648 : Int) ≤ F_159 1 4 ∧ F_159 1 4 ≤ 2147483647 := H.krg 1 4 (by decide); rw [show F_159 1 4 = y159_1_4 from (ey159_1_4)] at h1; exact h1
                      refine Ew_of (pc' := 161) (fun _ => x_iload rfl l159_8) ?_
                      refine Ew_of (pc' := 163) (fun _ => x_iload rfl l159_7) ?_
                      refine Ew_of (pc' := 164) (fun _ => x_iconst rfl) ?_
                      refine w_idiv rfl (show inr (z30) ∧ 0 ≤ z30 by omega) (show inr (3) ∧ 0 < 3 by omega) ?_
                      refine w_icmpge (t := 180) rfl rfl (show inr (x159_8) by omega) (show inr ((z30 / 3)) by omega) (fun b33 => ?_) (fun b33 => ?_)
                      · refine Ew_of (pc' := 181) (fun _ => x_aload_n rfl l159_1) ?_
                        refine Ew_of (pc' := 183) (fun _ => x_iload rfl l159_7) ?_
                        refine Ew_of (pc' := 184) (fun _ => x_iconst rfl) ?_
                        refine w_irem rfl (show inr (z30) ∧ 0 ≤ z30 by omega) (show inr (3) ∧ 0 < 3 by omega) ?_
                        refine Ew_of (pc' := 186) (fun _ => x_iconst rfl) ?_
                        refine v_inv H (o := 1) rfl rfl rfl rfl rfl rfl (by rfl) (C164 (D := pul [1, 3] D) (N := pul [1, 3] N) (HW_sub H (VS_of (show vsub V181_Row V164 [1, 3] = true by decide +kernel))) ((((((((((((hS_159 1 0 rfl).trans ((show F30 1 0 = F_c136 1 0 from (eF30 1 0)))).trans (hS_c136 1 0 rfl)).trans ((show F24 1 0 = F_c111 1 0 from (eF24 1 0).trans (hS24 0 0 rfl)))).trans (hS_c111 1 0 rfl)).trans (hS_c97 1 0 rfl)).trans (hS_c58 1 0 rfl)).trans (hS_39 1 0 rfl)).trans (hS_26 1 0 rfl)).trans ((show F7 1 0 = F 1 0 from (eF7 1 0).trans (hS7 0 0 rfl))))).trans (pf3)) (n3) (en3) (y159_1_1) ((ey159_1_1)) (y159_1_4) ((ey159_1_4)) (show inr ((z30 % 3)) by omega) (show inr (2) by omega) (show 0 ≤ (y159_1_1) ∧ (y159_1_1) ≤ (n3) ∧ (n3) ≤ 65536 by omega) (show 0 ≤ (2) ∧ (2) ≤ 31 by omega) (show 0 ≤ (y159_1_4) ∧ (y159_1_4) ≤ 7 by omega) (fun σ34 F34' A34' H' O' hS34 hA34 y34_0_1 ey34_0_1 y34_0_4 ey34_0_4 pz34_0 pz34_1 pz34_2 => ⟨rfl, ?_⟩))
                        refine v_back (c := c) (s := s) H (show vsub V181_Row V164 [1, 3] = true by decide +kernel) H' O' (fun F34 A34 H O' eF34 eA34 => ?_)
                        have O := OUT_trans O O'
                        -- Row.addBits
                        have r35 : (-2147483648 : Int) ≤ y34_0_1 ∧ y34_0_1 ≤ 2147483647 := by have h1 : (-2147483648 : Int) ≤ F34 1 1 ∧ F34 1 1 ≤ 2147483647 := H.krg 1 1 (by decide); rw [show F34 1 1 = y34_0_1 from ((eF34 1 1).trans ey34_0_1)] at h1; exact h1
                        have r36 : (-2147483648 : Int) ≤ y34_0_4 ∧ y34_0_4 ≤ 2147483647 := by have h1 : (-2147483648 : Int) ≤ F34 1 4 ∧ F34 1 4 ≤ 2147483647 := H.krg 1 4 (by decide); rw [show F34 1 4 = y34_0_4 from ((eF34 1 4).trans ey34_0_4)] at h1; exact h1
                        have hmz := mp_zeroI (P := ((w2))) (s := (x26_4) + 1) (z := (z30)) (t := (x26_4) + (z30) + 1) (by omega) (by omega) (fun j qa qb => hzr j (by omega) (by omega)) (by omega)
                        refine Ew_of (pc' := 191) (fun _ => x_iload rfl l159_4) ?_
                        refine Ew_of (pc' := 193) (fun _ => x_iload rfl l159_7) ?_
                        refine w_iadd rfl ?_
                        refine Ew_of (pc' := 196) (fun _ => x_istore rfl) ?_
                        refine Ew_of (pc' := 199) (fun _ => x_iinc (len := 3) rfl (rk_s)) ?_
                        refine Ew_of (pc' := 26) (fun _ => x_goto rfl rfl) ?_
                        exact ih26 _ (by omega) _ _ _ _ ((x26_2 - tc136_0)) (x39_3) (((x26_4 + z30) + 1)) (rk_o (rk_o (l159_0) rfl rfl) rfl rfl) (rk_o (rk_o (l159_1) rfl rfl) rfl rfl) (rk_o (rk_o (l159_2) rfl rfl) rfl rfl) (rk_o (rk_o (l159_3) rfl rfl) rfl rfl) (rk_s) H O (SF_trans (SF_trans (SF_trans (SF_trans (SF_trans (SF_trans (SF_trans (SF_trans (SF_trans (hS_26) hS_39 (any_sub rfl)) hS_c58 (any_sub rfl)) hS_c97 (any_sub rfl)) hS_c111 (any_sub rfl)) (SF_glu (ι := [1, 3]) hS24 eF24 (by decide +kernel)) (any_sub (l' := [(1, 1), (1, 2), (1, 3), (1, 4)]) rfl)) hS_c136 (any_sub rfl)) (SF_glu (ι := [0, 2]) hS30 eF30 (by decide +kernel)) (any_sub (l' := []) rfl)) hS_159 (any_sub rfl)) (SF_glu (ι := [1, 3]) hS34 eF34 (by decide +kernel)) (any_sub (l' := [(1, 1), (1, 2), (1, 3), (1, 4)]) rfl)) (SA_trans (SA_trans (SA_trans (SA_trans (SA_trans (SA_trans (SA_trans (SA_trans (SA_trans (hA_26) hA_39 (any_subA rfl)) hA_c58 (any_subA rfl)) hA_c97 (any_subA rfl)) hA_c111 (any_subA rfl)) (SA_glu (ι := [1, 3]) hA24 eA24 (by decide +kernel)) (any_subA (l' := [3]) rfl)) hA_c136 (any_subA rfl)) (SA_glu (ι := [0, 2]) hA30 eA30 (by decide +kernel)) (any_subA (l' := []) rfl)) hA_159 (any_subA rfl)) (SA_glu (ι := [1, 3]) hA34 eA34 (by decide +kernel)) (any_subA (l' := [3]) rfl))   (y34_0_1) (((eF34 1 1).trans ey34_0_1)) (y34_0_4) (((eF34 1 4).trans ey34_0_4))  (show inr ((x26_2 - tc136_0)) by omega) (show inr (x39_3) by omega) (show inr (((x26_4 + z30) + 1)) by omega) (show 0 ≤ (((x26_4 + z30) + 1)) ∧ (((x26_4 + z30) + 1)) ≤ ((u0_1)) by omega) (show ((x26_2 - tc136_0)) = p2 ((u0_0)) - mp ((w2)) (((x26_4 + z30) + 1)) by omega) (show 0 ≤ (x39_3) ∧ (x39_3) ≤ ((u0_0)) by omega) (show 0 ≤ (y34_0_1) ∧ (y34_0_1) ≤ (n3) ∧ (n3) ≤ 65536 by omega) (show 0 ≤ (y34_0_4) ∧ (y34_0_4) ≤ 7 by omega) (show (u1_1) ≤ (y34_0_1) by omega) rfl
                      · refine Ew_of (pc' := 169) (fun _ => x_aload_n rfl l159_1) ?_
                        refine Ew_of (pc' := 170) (fun _ => x_iconst rfl) ?_
                        refine Ew_of (pc' := 171) (fun _ => x_iconst rfl) ?_
                        refine v_inv H (o := 1) rfl rfl rfl rfl rfl rfl (by rfl) (C164 (D := pul [1, 3] D) (N := pul [1, 3] N) (HW_sub H (VS_of (show vsub V181_Row V164 [1, 3] = true by decide +kernel))) ((((((((((((hS_159 1 0 rfl).trans ((show F30 1 0 = F_c136 1 0 from (eF30 1 0)))).trans (hS_c136 1 0 rfl)).trans ((show F24 1 0 = F_c111 1 0 from (eF24 1 0).trans (hS24 0 0 rfl)))).trans (hS_c111 1 0 rfl)).trans (hS_c97 1 0 rfl)).trans (hS_c58 1 0 rfl)).trans (hS_39 1 0 rfl)).trans (hS_26 1 0 rfl)).trans ((show F7 1 0 = F 1 0 from (eF7 1 0).trans (hS7 0 0 rfl))))).trans (pf3)) (n3) (en3) (y159_1_1) ((ey159_1_1)) (y159_1_4) ((ey159_1_4)) (show inr (3) by omega) (show inr (2) by omega) (show 0 ≤ (y159_1_1) ∧ (y159_1_1) ≤ (n3) ∧ (n3) ≤ 65536 by omega) (show 0 ≤ (2) ∧ (2) ≤ 31 by omega) (show 0 ≤ (y159_1_4) ∧ (y159_1_4) ≤ 7 by omega) (fun σ37 F37' A37' H' O' hS37 hA37 y37_0_1 ey37_0_1 y37_0_4 ey37_0_4 pz37_0 pz37_1 pz37_2 => ⟨rfl, ?_⟩))
                        refine v_back (c := c) (s := s) H (show vsub V181_Row V164 [1, 3] = true by decide +kernel) H' O' (fun F37 A37 H O' eF37 eA37 => ?_)
                        have O := OUT_trans O O'
                        -- Row.addBits
                        have r38 : (-2147483648 : Int) ≤ y37_0_1 ∧ y37_0_1 ≤ 2147483647 := by have h1 : (-2147483648 : Int) ≤ F37 1 1 ∧ F37 1 1 ≤ 2147483647 := H.krg 1 1 (by decide); rw [show F37 1 1 = y37_0_1 from ((eF37 1 1).trans ey37_0_1)] at h1; exact h1
                        have r39 : (-2147483648 : Int) ≤ y37_0_4 ∧ y37_0_4 ≤ 2147483647 := by have h1 : (-2147483648 : Int) ≤ F37 1 4 ∧ F37 1 4 ≤ 2147483647 := H.krg 1 4 (by decide); rw [show F37 1 4 = y37_0_4 from ((eF37 1 4).trans ey37_0_4)] at h1; exact h1
                        refine Ew_of (pc' := 177) (fun _ => x_iinc (len := 3) rfl (l159_8)) ?_
                        refine Ew_of (pc' := 159) (fun _ => x_goto rfl rfl) ?_
                        exact ih159 _ (by omega) _ _ _ _ ((x159_8 + 1)) (rk_o (l159_0) rfl rfl) (rk_o (l159_1) rfl rfl) (rk_o (l159_2) rfl rfl) (rk_o (l159_3) rfl rfl) (rk_o (l159_4) rfl rfl) (rk_o (l159_7) rfl rfl) (rk_s) H O (SF_trans (hS_159) (SF_glu (ι := [1, 3]) hS37 eF37 (by decide +kernel)) (any_sub (l' := [(1, 1), (1, 2), (1, 3), (1, 4)]) rfl)) (SA_trans (hA_159) (SA_glu (ι := [1, 3]) hA37 eA37 (by decide +kernel)) (any_subA (l' := [3]) rfl))   (y37_0_1) (((eF37 1 1).trans ey37_0_1)) (y37_0_4) (((eF37 1 4).trans ey37_0_4))  (show inr ((x159_8 + 1)) by omega) (show 0 ≤ ((x159_8 + 1)) by omega) (show 0 ≤ (y37_0_1) ∧ (y37_0_1) ≤ (n3) ∧ (n3) ≤ 65536 by omega) (show 0 ≤ (y37_0_4) ∧ (y37_0_4) ≤ 7 by omega) (show (u1_1) ≤ (y37_0_1) by omega) rfl
                refine w_ifge (t := 129) rfl rfl (show inr (v27) by omega) (fun b40 => ?_) (fun b40 => ?_)
                · refine Ew_of (pc' := 130) (fun _ => x_aload_n rfl lc111_0) ?_
                  refine v_g H (o := 0) (v := .ref (D 2)) rfl rfl rfl rfl rfl (vrf ((((((((((show F24 0 2 = F_c111 0 2 from (eF24 0 2))).trans (hS_c111 0 2 rfl)).trans (hS_c97 0 2 rfl)).trans (hS_c58 0 2 rfl)).trans (hS_39 0 2 rfl)).trans (hS_26 0 2 rfl)).trans ((show F7 0 2 = F 0 2 from (eF7 0 2))))).trans (pf2))) ?_
                  refine Ew_of (pc' := 135) (fun _ => x_iload rfl lc111_4) ?_
                  refine v_lI H (o := 2) rfl rfl rfl rfl (n := n2) (en2) (show 0 ≤ x26_4 ∧ x26_4 < n2 by omega) (fun v41 ev41 qv41 => ?_)
                  have ev41 : (w2) (x26_4) = v41 := (congrFun (((show A24 2 = A_c111 2 from (eA24 2))).trans ((funext (hA_c111 2 rfl)).trans ((funext (hA_c97 2 rfl)).trans ((funext (hA_c58 2 rfl)).trans ((funext (hA_39 2 rfl)).trans ((funext (hA_26 2 rfl)).trans (((show A7 2 = A 2 from (eA7 2))).trans (ew2)))))))) (x26_4)).symm.trans ev41
                  exact hc136 (v41) _ _ _ _  (lc111_0) (lc111_1) (lc111_3) (lc111_4) H O (SF_refl) (SA_refl)     (show inr (v41) by omega) (show ((v27) ≥ (0) ∧ -2147483648 ≤ ((w2) (x26_4)) ∧ ((w2) (x26_4)) ≤ 2147483647 ∧ (v41) = ((w2) (x26_4))) ∨ ((v27) < (0) ∧ (v41) = (1)) by omega)
                · refine Ew_of (pc' := 126) (fun _ => x_iconst rfl) ?_
                  refine Ew_of (pc' := 136) (fun _ => x_goto rfl rfl) ?_
                  exact hc136 (1) _ _ _ _  (lc111_0) (lc111_1) (lc111_3) (lc111_4) H O (SF_refl) (SA_refl)     (show inr (1) by omega) (show ((v27) ≥ (0) ∧ -2147483648 ≤ ((w2) (x26_4)) ∧ ((w2) (x26_4)) ≤ 2147483647 ∧ (1) = ((w2) (x26_4))) ∨ ((v27) < (0) ∧ (1) = (1)) by omega)
              refine w_icmpge (t := 108) rfl rfl (show inr ((v21 + 1)) by omega) (show inr ((((2 * p2 (x39_3)) - 2) - x26_2)) by omega) (fun b42 => ?_) (fun b42 => ?_)
              · refine Ew_of (pc' := 109) (fun _ => x_iload_n rfl lc97_3) ?_
                refine Ew_of (pc' := 110) (fun _ => x_iconst rfl) ?_
                refine w_iadd rfl ?_
                exact hc111 ((x39_3 + 1)) _ _ _ _  (lc97_0) (lc97_1) (lc97_2) (lc97_3) (lc97_4) H O (SF_refl) (SA_refl)     (show inr ((x39_3 + 1)) by omega) (show (((v21 + 1)) ≥ ((((2 * p2 (x39_3)) - 2) - x26_2)) ∧ ((x39_3 + 1)) = ((x39_3 + 1))) ∨ (((v21 + 1)) < ((((2 * p2 (x39_3)) - 2) - x26_2)) ∧ ((x39_3 + 1)) = (x39_3)) by omega)
              · refine Ew_of (pc' := 105) (fun _ => x_iload_n rfl lc97_3) ?_
                refine Ew_of (pc' := 111) (fun _ => x_goto rfl rfl) ?_
                exact hc111 (x39_3) _ _ _ _  (lc97_0) (lc97_1) (lc97_2) (lc97_3) (lc97_4) H O (SF_refl) (SA_refl)     (show inr (x39_3) by omega) (show (((v21 + 1)) ≥ ((((2 * p2 (x39_3)) - 2) - x26_2)) ∧ (x39_3) = ((x39_3 + 1))) ∨ (((v21 + 1)) < ((((2 * p2 (x39_3)) - 2) - x26_2)) ∧ (x39_3) = (x39_3)) by omega)
            refine w_icmplt (t := 95) rfl rfl (show inr ((v21 + 1)) by omega) (show inr (p2 (x39_3)) by omega) (fun b43 => ?_) (fun b43 => ?_)
            · refine Ew_of (pc' := 97) (fun _ => x_iload rfl (rk_o (rk_s) rfl rfl)) ?_
              exact hc97 ((v21 + 1)) _ _ _ _  (rk_o (rk_o (lc58_0) rfl rfl) rfl rfl) (rk_o (rk_o (lc58_1) rfl rfl) rfl rfl) (rk_o (rk_o (lc58_2) rfl rfl) rfl rfl) (rk_o (rk_o (lc58_3) rfl rfl) rfl rfl) (rk_o (rk_o (lc58_4) rfl rfl) rfl rfl) (rk_o (rk_s) rfl rfl) (rk_s) H O (SF_refl) (SA_refl)     (show inr ((v21 + 1)) by omega) (show (((v21 + 1)) < (p2 (x39_3)) ∧ ((v21 + 1)) = ((v21 + 1))) ∨ (((v21 + 1)) ≥ (p2 (x39_3)) ∧ ((v21 + 1)) = (((v21 + 1) + (((2 * p2 (x39_3)) - 2) - x26_2)))) by omega)
            · refine Ew_of (pc' := 89) (fun _ => x_iload rfl (rk_o (rk_s) rfl rfl)) ?_
              refine Ew_of (pc' := 91) (fun _ => x_iload rfl rk_s) ?_
              refine w_iadd rfl ?_
              refine Ew_of (pc' := 97) (fun _ => x_goto rfl rfl) ?_
              exact hc97 (((v21 + 1) + (((2 * p2 (x39_3)) - 2) - x26_2))) _ _ _ _  (rk_o (rk_o (lc58_0) rfl rfl) rfl rfl) (rk_o (rk_o (lc58_1) rfl rfl) rfl rfl) (rk_o (rk_o (lc58_2) rfl rfl) rfl rfl) (rk_o (rk_o (lc58_3) rfl rfl) rfl rfl) (rk_o (rk_o (lc58_4) rfl rfl) rfl rfl) (rk_o (rk_s) rfl rfl) (rk_s) H O (SF_refl) (SA_refl)     (show inr (((v21 + 1) + (((2 * p2 (x39_3)) - 2) - x26_2))) by omega) (show (((v21 + 1)) < (p2 (x39_3)) ∧ (((v21 + 1) + (((2 * p2 (x39_3)) - 2) - x26_2))) = ((v21 + 1))) ∨ (((v21 + 1)) ≥ (p2 (x39_3)) ∧ (((v21 + 1) + (((2 * p2 (x39_3)) - 2) - x26_2))) = (((v21 + 1) + (((2 * p2 (x39_3)) - 2) - x26_2)))) by omega)
          refine w_ifle (t := 58) rfl rfl (show inr (x39_3) by omega) (fun b44 => ?_) (fun b44 => ?_)
          · exact hc58  _ _ _ _  (l39_0) (l39_1) (l39_2) (l39_3) (l39_4) H O (SF_refl) (SA_refl)     (show ((x39_3) ≤ (0)) ∨ ((x39_3) > (0) ∧ ((x26_2 + 1)) ≥ (p2 (x39_3))) by omega)
          · have hpwb := p2_le9 (o := (x39_3)) (by omega)
            have hppb := p2_pos ((x39_3))
            have hml := mp_le (P := ((w2))) (s := (x26_4)) (t := ((u0_1))) (by omega) (by omega)
            refine Ew_of (pc' := 44) (fun _ => x_iload_n rfl l39_2) ?_
            refine Ew_of (pc' := 45) (fun _ => x_iconst rfl) ?_
            refine w_iadd rfl ?_
            refine Ew_of (pc' := 47) (fun _ => x_iconst rfl) ?_
            refine Ew_of (pc' := 48) (fun _ => x_iload_n rfl l39_3) ?_
            refine w_ishl1 rfl (show 0 ≤ x39_3 ∧ x39_3 ≤ 31 by omega) ?_
            refine w_icmpge (t := 58) rfl rfl (show inr ((x26_2 + 1)) by omega) (show inr (p2 (x39_3)) by omega) (fun b46 => ?_) (fun b46 => ?_)
            · exact hc58  _ _ _ _  (l39_0) (l39_1) (l39_2) (l39_3) (l39_4) H O (SF_refl) (SA_refl)     (show ((x39_3) ≤ (0)) ∨ ((x39_3) > (0) ∧ ((x26_2 + 1)) ≥ (p2 (x39_3))) by omega)
            · refine Ew_of (pc' := 55) (fun _ => x_iinc (len := 3) rfl (l39_3)) ?_
              refine Ew_of (pc' := 39) (fun _ => x_goto rfl rfl) ?_
              exact ih39 _ (by omega) _ _ _ _ ((x39_3 + (-1))) (rk_o (l39_0) rfl rfl) (rk_o (l39_1) rfl rfl) (rk_o (l39_2) rfl rfl) (rk_s) (rk_o (l39_4) rfl rfl) H O (hS_39) (hA_39)     (show inr ((x39_3 + (-1))) by omega) (show 0 ≤ ((x39_3 + (-1))) ∧ ((x39_3 + (-1))) ≤ ((u0_0)) by omega) rfl
