theorem len_V171_oz_G1bcls : (V171).length = 9 := by decide +kernel
/-- Share.symbolOf: this, this.points, this.masses, this.mostBits, this.starts, this.symbolAt, this.numberAt, this.placeOf, this.used -/
theorem C171o {σE : rS} {D N : Nat → Nat} {F : hF} {A : hA} {d c s : Nat} {Q : wQ} (H : HW V171 σE D N F A) {a1 : Int} (pf1 : F 0 2 = (D 1 : Int)) (pf2 : F 0 3 = (D 2 : Int)) (pf3 : F 0 4 = (D 3 : Int)) (pf4 : F 0 5 = (D 4 : Int)) (pf5 : F 0 7 = (D 5 : Int)) (pf6 : F 0 8 = (D 6 : Int)) (pf7 : F 0 9 = (D 7 : Int)) (pf8 : F 0 6 = (D 8 : Int)) (n1 : Int) (en1 : (N 1 : Int) = n1) (n2 : Int) (en2 : (N 2 : Int) = n2) (n3 : Int) (en3 : (N 3 : Int) = n3) (n4 : Int) (en4 : (N 4 : Int) = n4) (n5 : Int) (en5 : (N 5 : Int) = n5) (n6 : Int) (en6 : (N 6 : Int) = n6) (n7 : Int) (en7 : (N 7 : Int) = n7) (n8 : Int) (en8 : (N 8 : Int) = n8) (u0_0 : Int) (eu0_0 : F 0 0 = u0_0) (u0_1 : Int) (eu0_1 : F 0 1 = u0_1) (w1 : Int → Int) (ew1 : A 1 = w1) (w2 : Int → Int) (ew2 : A 2 = w2) (w3 : Int → Int) (ew3 : A 3 = w3) (w4 : Int → Int) (ew4 : A 4 = w4) (w5 : Int → Int) (ew5 : A 5 = w5) (w6 : Int → Int) (ew6 : A 6 = w6) (w7 : Int → Int) (ew7 : A 7 = w7) (h0 : inr (a1)) (h1 : SL ((w1)) ((u0_1)) ((u0_0)) ((w2)) ((w3)) ((w4)) ((w5)) ((w6)) ((w7))) (h2 : SZD ((n1)) ((n2)) ((n3)) ((n4)) ((n8)) ((n5)) ((n6)) ((n7)) ((u0_1)) ((u0_0))) (h3 : 0 ≤ (a1) ∧ (a1) < p2 ((u0_0))) (k : ∀ (z : Int) (σ : rS) (Fₚ : hF) (Aₚ : hA), HW V171 σ D N Fₚ Aₚ → OUT (V171).length D N σE c s D N σ c s → SF [] F Fₚ → SA [] A Aₚ → (inr (z)) → ((z) = ((w5)) (a1)) → (0 ≤ (z) ∧ (z) < ((u0_1))) → (((w1)) (z) ≠ 0) → Q (some (I z)) σ c s) : Ew 171 (d + 0) 0 (rargs 0 [.ref (D 0), I a1]) [] σE c s Q := by
  have O := OUT_refl (n := (V171).length) (D := D) (N := N) (σ := σE) (c := c) (s := s)
  have HE := H
  have r1 : (-2147483648 : Int) ≤ u0_0 ∧ u0_0 ≤ 2147483647 := rngE (show (-2147483648 : Int) ≤ F 0 0 ∧ F 0 0 ≤ 2147483647 from H.krg 0 0 (ltn len_V171_oz_G1bcls rfl)) (show F 0 0 = u0_0 from (eu0_0))
  have r2 : (-2147483648 : Int) ≤ u0_1 ∧ u0_1 ≤ 2147483647 := rngE (show (-2147483648 : Int) ≤ F 0 1 ∧ F 0 1 ≤ 2147483647 from H.krg 0 1 (ltn len_V171_oz_G1bcls rfl)) (show F 0 1 = u0_1 from (eu0_1))
  have r3 : (0 : Int) ≤ n1 ∧ n1 ≤ 1000000 := nleE (H.nle 1 (ltn len_V171_oz_G1bcls rfl)) (show (N 1 : Int) = n1 from en1)
  have r4 : (0 : Int) ≤ n2 ∧ n2 ≤ 1000000 := nleE (H.nle 2 (ltn len_V171_oz_G1bcls rfl)) (show (N 2 : Int) = n2 from en2)
  have r5 : (0 : Int) ≤ n3 ∧ n3 ≤ 1000000 := nleE (H.nle 3 (ltn len_V171_oz_G1bcls rfl)) (show (N 3 : Int) = n3 from en3)
  have r6 : (0 : Int) ≤ n4 ∧ n4 ≤ 1000000 := nleE (H.nle 4 (ltn len_V171_oz_G1bcls rfl)) (show (N 4 : Int) = n4 from en4)
  have r7 : (0 : Int) ≤ n5 ∧ n5 ≤ 1000000 := nleE (H.nle 5 (ltn len_V171_oz_G1bcls rfl)) (show (N 5 : Int) = n5 from en5)
  have r8 : (0 : Int) ≤ n6 ∧ n6 ≤ 1000000 := nleE (H.nle 6 (ltn len_V171_oz_G1bcls rfl)) (show (N 6 : Int) = n6 from en6)
  have r9 : (0 : Int) ≤ n7 ∧ n7 ≤ 1000000 := nleE (H.nle 7 (ltn len_V171_oz_G1bcls rfl)) (show (N 7 : Int) = n7 from en7)
  have r10 : (0 : Int) ≤ n8 ∧ n8 ≤ 1000000 := nleE (H.nle 8 (ltn len_V171_oz_G1bcls rfl)) (show (N 8 : Int) = n8 from en8)
  have hszd : SZD ((n1)) ((n2)) ((n3)) ((n4)) ((n8)) ((n5)) ((n6)) ((n7)) ((u0_1)) ((u0_0)) := h2
  unfold SZD at hszd
  refine Ew_of (pcₚ := 1) (fun _ => x_aload_n rfl rfl) ?_
  refine v_g H (o := 0) (v := .ref (D 5)) rfl rfl rfl rfl rfl (vrf (pf5)) ?_
  refine Ew_of (pcₚ := 5) (fun _ => x_iload_n rfl rfl) ?_
  refine v_lI H (o := 5) rfl rfl rfl rfl (n := n5) (en5) (show 0 ≤ a1 ∧ a1 < n5 by omega) (fun v11 ev11 qv11 => ?_)
  have ev11 : (w5) (a1) = v11 := (congrFun (ew5) (a1)).symm.trans ev11
  have hSL : SL ((w1)) ((u0_1)) ((u0_0)) ((w2)) ((w3)) ((w4)) ((w5)) ((w6)) ((w7)) := h1
  have hq := SL_sym hSL (k := (a1)) (by omega) (by omega)
  rw [ev11] at hq
  exact w_ireturn rfl (k (v11) _ _ _ H O (SF_refl) (SA_refl) (show inr (v11) from qv11) (show (v11) = ((w5)) a1 from q_2492 ev11) (show 0 ≤ (v11) ∧ (v11) < ((u0_1)) by omega) (show ((w1)) (v11) ≠ 0 by omega))
theorem len_V172_oz_G1bcls : (V172).length = 9 := by decide +kernel
/-- Share.bitsBehind: this, this.points, this.masses, this.mostBits, this.starts, this.symbolAt, this.numberAt, this.placeOf, this.used -/
theorem C172o {σE : rS} {D N : Nat → Nat} {F : hF} {A : hA} {d c s : Nat} {Q : wQ} (H : HW V172 σE D N F A) {a1 : Int} (pf1 : F 0 2 = (D 1 : Int)) (pf2 : F 0 3 = (D 2 : Int)) (pf3 : F 0 4 = (D 3 : Int)) (pf4 : F 0 5 = (D 4 : Int)) (pf5 : F 0 7 = (D 5 : Int)) (pf6 : F 0 8 = (D 6 : Int)) (pf7 : F 0 9 = (D 7 : Int)) (pf8 : F 0 6 = (D 8 : Int)) (n1 : Int) (en1 : (N 1 : Int) = n1) (n2 : Int) (en2 : (N 2 : Int) = n2) (n3 : Int) (en3 : (N 3 : Int) = n3) (n4 : Int) (en4 : (N 4 : Int) = n4) (n5 : Int) (en5 : (N 5 : Int) = n5) (n6 : Int) (en6 : (N 6 : Int) = n6) (n7 : Int) (en7 : (N 7 : Int) = n7) (n8 : Int) (en8 : (N 8 : Int) = n8) (u0_0 : Int) (eu0_0 : F 0 0 = u0_0) (u0_1 : Int) (eu0_1 : F 0 1 = u0_1) (w1 : Int → Int) (ew1 : A 1 = w1) (w2 : Int → Int) (ew2 : A 2 = w2) (w3 : Int → Int) (ew3 : A 3 = w3) (w4 : Int → Int) (ew4 : A 4 = w4) (w5 : Int → Int) (ew5 : A 5 = w5) (w6 : Int → Int) (ew6 : A 6 = w6) (w7 : Int → Int) (ew7 : A 7 = w7) (h0 : inr (a1)) (h1 : SL ((w1)) ((u0_1)) ((u0_0)) ((w2)) ((w3)) ((w4)) ((w5)) ((w6)) ((w7))) (h2 : SZD ((n1)) ((n2)) ((n3)) ((n4)) ((n8)) ((n5)) ((n6)) ((n7)) ((u0_1)) ((u0_0))) (h3 : 0 ≤ (a1) ∧ (a1) < p2 ((u0_0))) (k : ∀ (z : Int) (σ : rS) (Fₚ : hF) (Aₚ : hA), HW V172 σ D N Fₚ Aₚ → OUT (V172).length D N σE c s D N σ c s → SF [] F Fₚ → SA [] A Aₚ → (inr (z)) → (BB ((w1)) ((u0_0)) ((w5)) (a1) (z)) → (0 ≤ (z) ∧ (z) ≤ ((u0_0))) → Q (some (I z)) σ c s) : Ew 172 (d + 0) 0 (rargs 0 [.ref (D 0), I a1]) [] σE c s Q := by
  have O := OUT_refl (n := (V172).length) (D := D) (N := N) (σ := σE) (c := c) (s := s)
  have HE := H
  have r1 : (-2147483648 : Int) ≤ u0_0 ∧ u0_0 ≤ 2147483647 := rngE (show (-2147483648 : Int) ≤ F 0 0 ∧ F 0 0 ≤ 2147483647 from H.krg 0 0 (ltn len_V172_oz_G1bcls rfl)) (show F 0 0 = u0_0 from (eu0_0))
  have r2 : (-2147483648 : Int) ≤ u0_1 ∧ u0_1 ≤ 2147483647 := rngE (show (-2147483648 : Int) ≤ F 0 1 ∧ F 0 1 ≤ 2147483647 from H.krg 0 1 (ltn len_V172_oz_G1bcls rfl)) (show F 0 1 = u0_1 from (eu0_1))
  have r3 : (0 : Int) ≤ n1 ∧ n1 ≤ 1000000 := nleE (H.nle 1 (ltn len_V172_oz_G1bcls rfl)) (show (N 1 : Int) = n1 from en1)
  have r4 : (0 : Int) ≤ n2 ∧ n2 ≤ 1000000 := nleE (H.nle 2 (ltn len_V172_oz_G1bcls rfl)) (show (N 2 : Int) = n2 from en2)
  have r5 : (0 : Int) ≤ n3 ∧ n3 ≤ 1000000 := nleE (H.nle 3 (ltn len_V172_oz_G1bcls rfl)) (show (N 3 : Int) = n3 from en3)
  have r6 : (0 : Int) ≤ n4 ∧ n4 ≤ 1000000 := nleE (H.nle 4 (ltn len_V172_oz_G1bcls rfl)) (show (N 4 : Int) = n4 from en4)
  have r7 : (0 : Int) ≤ n5 ∧ n5 ≤ 1000000 := nleE (H.nle 5 (ltn len_V172_oz_G1bcls rfl)) (show (N 5 : Int) = n5 from en5)
  have r8 : (0 : Int) ≤ n6 ∧ n6 ≤ 1000000 := nleE (H.nle 6 (ltn len_V172_oz_G1bcls rfl)) (show (N 6 : Int) = n6 from en6)
  have r9 : (0 : Int) ≤ n7 ∧ n7 ≤ 1000000 := nleE (H.nle 7 (ltn len_V172_oz_G1bcls rfl)) (show (N 7 : Int) = n7 from en7)
  have r10 : (0 : Int) ≤ n8 ∧ n8 ≤ 1000000 := nleE (H.nle 8 (ltn len_V172_oz_G1bcls rfl)) (show (N 8 : Int) = n8 from en8)
  have hszd : SZD ((n1)) ((n2)) ((n3)) ((n4)) ((n8)) ((n5)) ((n6)) ((n7)) ((u0_1)) ((u0_0)) := h2
  unfold SZD at hszd
  have hSL : SL ((w1)) ((u0_1)) ((u0_0)) ((w2)) ((w3)) ((w4)) ((w5)) ((w6)) ((w7)) := h1
  have hq := SL_sym hSL (k := (a1)) (by omega) (by omega)
  have hf := SHD_f hSL.1
  refine Ew_of (pcₚ := 1) (fun _ => x_aload_n rfl rfl) ?_
  refine v_g H (o := 0) (v := .ref (D 3)) rfl rfl rfl rfl rfl (vrf (pf3)) ?_
  refine Ew_of (pcₚ := 5) (fun _ => x_aload_n rfl rfl) ?_
  refine v_g H (o := 0) (v := .ref (D 5)) rfl rfl rfl rfl rfl (vrf (pf5)) ?_
  refine Ew_of (pcₚ := 9) (fun _ => x_iload_n rfl rfl) ?_
  refine v_lI H (o := 5) rfl rfl rfl rfl (n := n5) (en5) (show 0 ≤ a1 ∧ a1 < n5 by omega) (fun v11 ev11 qv11 => ?_)
  have ev11 : (w5) (a1) = v11 := (congrFun (ew5) (a1)).symm.trans ev11
  have hsy := ev11
  rw [hsy] at hq
  refine v_lI H (o := 3) rfl rfl rfl rfl (n := n3) (en3) (show 0 ≤ v11 ∧ v11 < n3 by omega) (fun v12 ev12 qv12 => ?_)
  have ev12 : (w3) (v11) = v12 := (congrFun (ew3) (v11)).symm.trans ev12
  have hbi := ev12
  refine Ew_of (pcₚ := 12) (fun _ => x_istore_n rfl) ?_
  refine Ew_of (pcₚ := 13) (fun _ => x_aload_n rfl (rk_o (rfl) rfl rfl)) ?_
  refine v_g H (o := 0) (v := .ref (D 6)) rfl rfl rfl rfl rfl (vrf (pf6)) ?_
  refine Ew_of (pcₚ := 17) (fun _ => x_iload_n rfl (rk_o (rfl) rfl rfl)) ?_
  refine v_lI H (o := 6) rfl rfl rfl rfl (n := n6) (en6) (show 0 ≤ a1 ∧ a1 < n6 by omega) (fun v13 ev13 qv13 => ?_)
  have ev13 : (w6) (a1) = v13 := (congrFun (ew6) (a1)).symm.trans ev13
  have hnu := ev13
  refine Ew_of (pcₚ := 19) (fun _ => x_aload_n rfl (rk_o (rfl) rfl rfl)) ?_
  refine v_g H (o := 0) (v := I (u0_0)) rfl rfl rfl rfl rfl (congrArg (fun z : Int => I z) ((eu0_0) : F 0 0 = u0_0)) ?_
  refine Ew_of (pcₚ := 23) (fun _ => x_iload_n rfl rk_s) ?_
  refine w_isub rfl ?_
  refine Ew_of (pcₚ := 25) (fun _ => x_iconst rfl) ?_
  refine w_iadd rfl ?_
  refine w_ishrX rfl (show inr (v13) from qv13) (fun z14 gz14 dz14 => ?_)
  have hb0 := hq.2.2.2.2.2.2.2.2.1
  have hbb := BB_of hSL (k := (a1)) (b := (v12)) (z := (z14)) (by omega) (by omega) (by rw [hsy]; omega) (by rw [← hq.2.2.2.1, hnu]; have hb9 := hq.2.2.2.2.2.2.2.2.2 hq.2.2.2.2.1; have hb8 : ((u0_0)) - (v12) < 10 := p2_lt (by omega) (by rw [show p2 10 = 1024 from by decide, ← hbi]; omega); omega)
  refine w_ifle (t := 36) rfl rfl (show inr (z14) by omega) (fun b15 => ?_) (fun b15 => ?_)
  · refine Ew_of (pcₚ := 37) (fun _ => x_iload_n rfl rk_s) ?_
    have hqq : BB ((w1)) ((u0_0)) ((w5)) (a1) ((v12)) := by first | exact hbb.2.2.1 (by omega) | exact hbb.2.2.2 (by omega)
    have hqr := hqq.1
    have hqs := hqq.2.1
    exact w_ireturn rfl (k (v12) _ _ _ H O (SF_refl) (SA_refl) (show inr (v12) from qv12) (show BB ((w1)) ((u0_0)) ((w5)) a1 (v12) from hqq) (show 0 ≤ (v12) ∧ (v12) ≤ ((u0_0)) by omega))
  · refine Ew_of (pcₚ := 31) (fun _ => x_iload_n rfl rk_s) ?_
    refine Ew_of (pcₚ := 32) (fun _ => x_iconst rfl) ?_
    refine w_isub rfl ?_
    refine Ew_of (pcₚ := 37) (fun _ => x_goto rfl rfl) ?_
    have hqq : BB ((w1)) ((u0_0)) ((w5)) (a1) (((v12 - 1))) := by first | exact hbb.2.2.1 (by omega) | exact hbb.2.2.2 (by omega)
    have hqr := hqq.1
    have hqs := hqq.2.1
    exact w_ireturn rfl (k ((v12 - 1)) _ _ _ H O (SF_refl) (SA_refl) (show inr ((v12 - 1)) by omega) (show BB ((w1)) ((u0_0)) ((w5)) a1 ((v12 - 1)) from hqq) (show 0 ≤ ((v12 - 1)) ∧ ((v12 - 1)) ≤ ((u0_0)) by omega))
theorem len_V173_oz_G1bcls : (V173).length = 9 := by decide +kernel
theorem oz_G1bcls_3 : vsub V173 V172 [0, 1, 2, 3, 4, 5, 6, 7, 8] = true := by decide +kernel
def oz_G1bclsl_0 : List (Nat × Nat) := []
theorem oz_G1bcls_4 : (oz_G1bclsl_0).all (fun p => !tbz 0 (Nat.add (Nat.mul 32 p.1) p.2)) = true := by decide +kernel
def oz_G1bclsl_1 : List Nat := []
theorem oz_G1bcls_5 : (oz_G1bclsl_1).all (fun p => !tbz 0 p) = true := by decide +kernel
def oz_G1bclsl_2 : List Nat := [0, 1, 2, 3, 4, 5, 6, 7, 8]
theorem oz_G1bcls_6 : okc oz_G1bclsl_2 37843603729803343561216 = true := by decide +kernel
/-- Share.baseBehind: this, this.points, this.masses, this.mostBits, this.starts, this.symbolAt, this.numberAt, this.placeOf, this.used -/
theorem C173o {σE : rS} {D N : Nat → Nat} {F : hF} {A : hA} {d c s : Nat} {Q : wQ} (H : HW V173 σE D N F A) {a1 : Int} (pf1 : F 0 2 = (D 1 : Int)) (pf2 : F 0 3 = (D 2 : Int)) (pf3 : F 0 4 = (D 3 : Int)) (pf4 : F 0 5 = (D 4 : Int)) (pf5 : F 0 7 = (D 5 : Int)) (pf6 : F 0 8 = (D 6 : Int)) (pf7 : F 0 9 = (D 7 : Int)) (pf8 : F 0 6 = (D 8 : Int)) (n1 : Int) (en1 : (N 1 : Int) = n1) (n2 : Int) (en2 : (N 2 : Int) = n2) (n3 : Int) (en3 : (N 3 : Int) = n3) (n4 : Int) (en4 : (N 4 : Int) = n4) (n5 : Int) (en5 : (N 5 : Int) = n5) (n6 : Int) (en6 : (N 6 : Int) = n6) (n7 : Int) (en7 : (N 7 : Int) = n7) (n8 : Int) (en8 : (N 8 : Int) = n8) (u0_0 : Int) (eu0_0 : F 0 0 = u0_0) (u0_1 : Int) (eu0_1 : F 0 1 = u0_1) (w1 : Int → Int) (ew1 : A 1 = w1) (w2 : Int → Int) (ew2 : A 2 = w2) (w3 : Int → Int) (ew3 : A 3 = w3) (w4 : Int → Int) (ew4 : A 4 = w4) (w5 : Int → Int) (ew5 : A 5 = w5) (w6 : Int → Int) (ew6 : A 6 = w6) (w7 : Int → Int) (ew7 : A 7 = w7) (h0 : inr (a1)) (h1 : SL ((w1)) ((u0_1)) ((u0_0)) ((w2)) ((w3)) ((w4)) ((w5)) ((w6)) ((w7))) (h2 : SZD ((n1)) ((n2)) ((n3)) ((n4)) ((n8)) ((n5)) ((n6)) ((n7)) ((u0_1)) ((u0_0))) (h3 : 0 ≤ (a1) ∧ (a1) < p2 ((u0_0))) (k : ∀ (z : Int) (σ : rS) (Fₚ : hF) (Aₚ : hA), HW V173 σ D N Fₚ Aₚ → OUT (V173).length D N σE c s D N σ c s → SF [] F Fₚ → SA [] A Aₚ → (inr (z)) → (BAS ((w1)) ((u0_0)) ((w5)) (a1) (z)) → (0 ≤ (z) ∧ (z) < p2 ((u0_0))) → Q (some (I z)) σ c s) : Ew 173 (d + 1) 0 (rargs 0 [.ref (D 0), I a1]) [] σE c s Q := by
  have O := OUT_refl (n := (V173).length) (D := D) (N := N) (σ := σE) (c := c) (s := s)
  have HE := H
  have r1 : (-2147483648 : Int) ≤ u0_0 ∧ u0_0 ≤ 2147483647 := rngE (show (-2147483648 : Int) ≤ F 0 0 ∧ F 0 0 ≤ 2147483647 from H.krg 0 0 (ltn len_V173_oz_G1bcls rfl)) (show F 0 0 = u0_0 from (eu0_0))
  have r2 : (-2147483648 : Int) ≤ u0_1 ∧ u0_1 ≤ 2147483647 := rngE (show (-2147483648 : Int) ≤ F 0 1 ∧ F 0 1 ≤ 2147483647 from H.krg 0 1 (ltn len_V173_oz_G1bcls rfl)) (show F 0 1 = u0_1 from (eu0_1))
  have r3 : (0 : Int) ≤ n1 ∧ n1 ≤ 1000000 := nleE (H.nle 1 (ltn len_V173_oz_G1bcls rfl)) (show (N 1 : Int) = n1 from en1)
  have r4 : (0 : Int) ≤ n2 ∧ n2 ≤ 1000000 := nleE (H.nle 2 (ltn len_V173_oz_G1bcls rfl)) (show (N 2 : Int) = n2 from en2)
  have r5 : (0 : Int) ≤ n3 ∧ n3 ≤ 1000000 := nleE (H.nle 3 (ltn len_V173_oz_G1bcls rfl)) (show (N 3 : Int) = n3 from en3)
  have r6 : (0 : Int) ≤ n4 ∧ n4 ≤ 1000000 := nleE (H.nle 4 (ltn len_V173_oz_G1bcls rfl)) (show (N 4 : Int) = n4 from en4)
  have r7 : (0 : Int) ≤ n5 ∧ n5 ≤ 1000000 := nleE (H.nle 5 (ltn len_V173_oz_G1bcls rfl)) (show (N 5 : Int) = n5 from en5)
  have r8 : (0 : Int) ≤ n6 ∧ n6 ≤ 1000000 := nleE (H.nle 6 (ltn len_V173_oz_G1bcls rfl)) (show (N 6 : Int) = n6 from en6)
  have r9 : (0 : Int) ≤ n7 ∧ n7 ≤ 1000000 := nleE (H.nle 7 (ltn len_V173_oz_G1bcls rfl)) (show (N 7 : Int) = n7 from en7)
  have r10 : (0 : Int) ≤ n8 ∧ n8 ≤ 1000000 := nleE (H.nle 8 (ltn len_V173_oz_G1bcls rfl)) (show (N 8 : Int) = n8 from en8)
  have hszd : SZD ((n1)) ((n2)) ((n3)) ((n4)) ((n8)) ((n5)) ((n6)) ((n7)) ((u0_1)) ((u0_0)) := h2
  unfold SZD at hszd
  have hSL : SL ((w1)) ((u0_1)) ((u0_0)) ((w2)) ((w3)) ((w4)) ((w5)) ((w6)) ((w7)) := h1
  have hq := SL_sym hSL (k := (a1)) (by omega) (by omega)
  have hf := SHD_f hSL.1
  refine Ew_of (pcₚ := 1) (fun _ => x_aload_n rfl rfl) ?_
  refine v_g H (o := 0) (v := .ref (D 6)) rfl rfl rfl rfl rfl (vrf (pf6)) ?_
  refine Ew_of (pcₚ := 5) (fun _ => x_iload_n rfl rfl) ?_
  refine v_lI H (o := 6) rfl rfl rfl rfl (n := n6) (en6) (show 0 ≤ a1 ∧ a1 < n6 by omega) (fun v11 ev11 qv11 => ?_)
  have ev11 : (w6) (a1) = v11 := (congrFun (ew6) (a1)).symm.trans ev11
  have hnu := ev11
  refine Ew_of (pcₚ := 7) (fun _ => x_aload_n rfl rfl) ?_
  refine Ew_of (pcₚ := 8) (fun _ => x_iload_n rfl rfl) ?_
  refine v_inv H (o := 0) rfl rfl rfl rfl rfl rfl (by rfl) (C172o (D := puc 37843603729803343561216 D) (N := puc 37843603729803343561216 N) (HW_subc H oz_G1bcls_3 oz_G1bcls_6) (pf1) (pf2) (pf3) (pf4) (pf5) (pf6) (pf7) (pf8) (n1) (en1) (n2) (en2) (n3) (en3) (n4) (en4) (n5) (en5) (n6) (en6) (n7) (en7) (n8) (en8) (u0_0) ((eu0_0)) (u0_1) ((eu0_1)) (w1) (ew1) (w2) (ew2) (w3) (ew3) (w4) (ew4) (w5) (ew5) (w6) (ew6) (w7) (ew7) (show inr (a1) from h0) (show SL ((w1)) ((u0_1)) ((u0_0)) ((w2)) ((w3)) ((w4)) ((w5)) ((w6)) ((w7)) from hSL) (show SZD ((n1)) ((n2)) ((n3)) ((n4)) ((n8)) ((n5)) ((n6)) ((n7)) ((u0_1)) ((u0_0)) from h2) (show 0 ≤ (a1) ∧ (a1) < p2 ((u0_0)) from h3) (fun z12 σ12 F12ₚ A12ₚ Hₚ Oₚ hS12 hA12 pz12_0 pz12_1 pz12_2 => ⟨rfl, ?_⟩))
  refine v_backc (c := c) (s := s) H oz_G1bcls_3 oz_G1bcls_6 Hₚ Oₚ (fun F12 A12 H Oₚ eF12 eA12 => ?_)
  have O := OUT_trans O Oₚ
  -- Share.bitsBehind
  have cF12 : SF oz_G1bclsl_0 F F12 := SF_trans (SF_refl) (SF_gluc (ι := oz_G1bclsl_2) oz_G1bcls_6 hS12 eF12 (by decide +kernel)) (any_sub (lₚ := []) (by decide +kernel))
  have mF12 := SFm_of cF12 oz_G1bcls_4
  have cA12 : SA oz_G1bclsl_1 A A12 := SA_trans (SA_refl) (SA_gluc (ι := oz_G1bclsl_2) oz_G1bcls_6 hA12 eA12 (by decide +kernel)) (any_subA (lₚ := []) (by decide +kernel))
  have mA12 := SAm_of cA12 oz_G1bcls_5
  have hbb := pz12_1
  have hm := BB_mul (by omega) hbb
  rw [← hq.2.2.2.1, hnu] at hm
  have hpp := p2_pos ((z12))
  refine w_ishlT rfl (show 0 ≤ z12 ∧ z12 ≤ 31 by omega) ?_
  refine Ew_of (pcₚ := 13) (fun _ => x_iconst rfl) ?_
  refine Ew_of (pcₚ := 14) (fun _ => x_aload_n rfl rfl) ?_
  refine v_g H (o := 0) (v := I (u0_0)) rfl rfl rfl rfl rfl (congrArg (fun z : Int => I z) (((mF12 0 0 rfl).trans (eu0_0)) : F12 0 0 = u0_0)) ?_
  refine w_ishl1 rfl (show 0 ≤ u0_0 ∧ u0_0 ≤ 31 by omega) ?_
  refine w_isub rfl ?_
  have hbs : BAS ((w1)) ((u0_0)) ((w5)) (a1) ((((v11 * p2 (z12)) - p2 (u0_0)))) := BAS_of (by omega) hbb (by rw [← hq.2.2.2.1, hnu])
  have hbt := hbs _ hbb
  exact w_ireturn rfl (k (((v11 * p2 (z12)) - p2 (u0_0))) _ _ _ H O (cF12) (cA12) (show inr (((v11 * p2 (z12)) - p2 (u0_0))) by omega) (show BAS ((w1)) ((u0_0)) ((w5)) a1 (((v11 * p2 (z12)) - p2 (u0_0))) from hbs) (show 0 ≤ (((v11 * p2 (z12)) - p2 (u0_0))) ∧ (((v11 * p2 (z12)) - p2 (u0_0))) < p2 ((u0_0)) by omega))
theorem len_V174_oz_G1bcls : (V174).length = 9 := by decide +kernel
/-- Share.lowestPlace: this, this.points, this.masses, this.mostBits, this.starts, this.symbolAt, this.numberAt, this.placeOf, this.used -/
theorem C174o {σE : rS} {D N : Nat → Nat} {F : hF} {A : hA} {d c s : Nat} {Q : wQ} (H : HW V174 σE D N F A) {a1 : Int} (pf1 : F 0 2 = (D 1 : Int)) (pf2 : F 0 3 = (D 2 : Int)) (pf3 : F 0 4 = (D 3 : Int)) (pf4 : F 0 5 = (D 4 : Int)) (pf5 : F 0 7 = (D 5 : Int)) (pf6 : F 0 8 = (D 6 : Int)) (pf7 : F 0 9 = (D 7 : Int)) (pf8 : F 0 6 = (D 8 : Int)) (n1 : Int) (en1 : (N 1 : Int) = n1) (n2 : Int) (en2 : (N 2 : Int) = n2) (n3 : Int) (en3 : (N 3 : Int) = n3) (n4 : Int) (en4 : (N 4 : Int) = n4) (n5 : Int) (en5 : (N 5 : Int) = n5) (n6 : Int) (en6 : (N 6 : Int) = n6) (n7 : Int) (en7 : (N 7 : Int) = n7) (n8 : Int) (en8 : (N 8 : Int) = n8) (u0_0 : Int) (eu0_0 : F 0 0 = u0_0) (u0_1 : Int) (eu0_1 : F 0 1 = u0_1) (w1 : Int → Int) (ew1 : A 1 = w1) (w2 : Int → Int) (ew2 : A 2 = w2) (w3 : Int → Int) (ew3 : A 3 = w3) (w4 : Int → Int) (ew4 : A 4 = w4) (w5 : Int → Int) (ew5 : A 5 = w5) (w6 : Int → Int) (ew6 : A 6 = w6) (w7 : Int → Int) (ew7 : A 7 = w7) (h0 : inr (a1)) (h1 : SL ((w1)) ((u0_1)) ((u0_0)) ((w2)) ((w3)) ((w4)) ((w5)) ((w6)) ((w7))) (h2 : SZD ((n1)) ((n2)) ((n3)) ((n4)) ((n8)) ((n5)) ((n6)) ((n7)) ((u0_1)) ((u0_0))) (h3 : 0 ≤ (a1) ∧ (a1) < ((u0_1)) ∧ ((w1)) (a1) ≠ 0) (k : ∀ (z : Int) (σ : rS) (Fₚ : hF) (Aₚ : hA), HW V174 σ D N Fₚ Aₚ → OUT (V174).length D N σE c s D N σ c s → SF [] F Fₚ → SA [] A Aₚ → (inr (z)) → (0 ≤ (z) ∧ (z) < p2 ((u0_0))) → (((w5)) (z) = (a1) ∧ XN ((w1)) ((w5)) (z) = mass (((w1)) (a1))) → Q (some (I z)) σ c s) : Ew 174 (d + 0) 0 (rargs 0 [.ref (D 0), I a1]) [] σE c s Q := by
  have O := OUT_refl (n := (V174).length) (D := D) (N := N) (σ := σE) (c := c) (s := s)
  have HE := H
  have r1 : (-2147483648 : Int) ≤ u0_0 ∧ u0_0 ≤ 2147483647 := rngE (show (-2147483648 : Int) ≤ F 0 0 ∧ F 0 0 ≤ 2147483647 from H.krg 0 0 (ltn len_V174_oz_G1bcls rfl)) (show F 0 0 = u0_0 from (eu0_0))
  have r2 : (-2147483648 : Int) ≤ u0_1 ∧ u0_1 ≤ 2147483647 := rngE (show (-2147483648 : Int) ≤ F 0 1 ∧ F 0 1 ≤ 2147483647 from H.krg 0 1 (ltn len_V174_oz_G1bcls rfl)) (show F 0 1 = u0_1 from (eu0_1))
  have r3 : (0 : Int) ≤ n1 ∧ n1 ≤ 1000000 := nleE (H.nle 1 (ltn len_V174_oz_G1bcls rfl)) (show (N 1 : Int) = n1 from en1)
  have r4 : (0 : Int) ≤ n2 ∧ n2 ≤ 1000000 := nleE (H.nle 2 (ltn len_V174_oz_G1bcls rfl)) (show (N 2 : Int) = n2 from en2)
  have r5 : (0 : Int) ≤ n3 ∧ n3 ≤ 1000000 := nleE (H.nle 3 (ltn len_V174_oz_G1bcls rfl)) (show (N 3 : Int) = n3 from en3)
  have r6 : (0 : Int) ≤ n4 ∧ n4 ≤ 1000000 := nleE (H.nle 4 (ltn len_V174_oz_G1bcls rfl)) (show (N 4 : Int) = n4 from en4)
  have r7 : (0 : Int) ≤ n5 ∧ n5 ≤ 1000000 := nleE (H.nle 5 (ltn len_V174_oz_G1bcls rfl)) (show (N 5 : Int) = n5 from en5)
  have r8 : (0 : Int) ≤ n6 ∧ n6 ≤ 1000000 := nleE (H.nle 6 (ltn len_V174_oz_G1bcls rfl)) (show (N 6 : Int) = n6 from en6)
  have r9 : (0 : Int) ≤ n7 ∧ n7 ≤ 1000000 := nleE (H.nle 7 (ltn len_V174_oz_G1bcls rfl)) (show (N 7 : Int) = n7 from en7)
  have r10 : (0 : Int) ≤ n8 ∧ n8 ≤ 1000000 := nleE (H.nle 8 (ltn len_V174_oz_G1bcls rfl)) (show (N 8 : Int) = n8 from en8)
  have hszd : SZD ((n1)) ((n2)) ((n3)) ((n4)) ((n8)) ((n5)) ((n6)) ((n7)) ((u0_1)) ((u0_0)) := h2
  unfold SZD at hszd
  have hSL : SL ((w1)) ((u0_1)) ((u0_0)) ((w2)) ((w3)) ((w4)) ((w5)) ((w6)) ((w7)) := h1
  have hms := mass_eq (((w1)) (a1))
  have hat := SHD_at hSL.1 (s := (a1)) (by omega) (by omega)
  have hpl := PL_at hSL (s := (a1)) (i := 0) (by omega) (by omega) (by omega) (by omega)
  rw [Int.add_zero, Int.add_zero] at hpl
  refine Ew_of (pcₚ := 1) (fun _ => x_aload_n rfl rfl) ?_
  refine v_g H (o := 0) (v := .ref (D 7)) rfl rfl rfl rfl rfl (vrf (pf7)) ?_
  refine Ew_of (pcₚ := 5) (fun _ => x_aload_n rfl rfl) ?_
  refine v_g H (o := 0) (v := .ref (D 4)) rfl rfl rfl rfl rfl (vrf (pf4)) ?_
  refine Ew_of (pcₚ := 9) (fun _ => x_iload_n rfl rfl) ?_
  refine v_lI H (o := 4) rfl rfl rfl rfl (n := n4) (en4) (show 0 ≤ a1 ∧ a1 < n4 by omega) (fun v11 ev11 qv11 => ?_)
  have ev11 : (w4) (a1) = v11 := (congrFun (ew4) (a1)).symm.trans ev11
  have hst := ev11
  rw [hst] at hpl
  refine v_lI H (o := 7) rfl rfl rfl rfl (n := n7) (en7) (show 0 ≤ v11 ∧ v11 < n7 by omega) (fun v12 ev12 qv12 => ?_)
  have ev12 : (w7) (v11) = v12 := (congrFun (ew7) (v11)).symm.trans ev12
  have hpe := ev12
  rw [hpe] at hpl
  exact w_ireturn rfl (k (v12) _ _ _ H O (SF_refl) (SA_refl) (show inr (v12) from qv12) (show 0 ≤ (v12) ∧ (v12) < p2 ((u0_0)) by omega) (show ((w5)) (v12) = a1 ∧ XN ((w1)) ((w5)) (v12) = mass (((w1)) a1) by omega))
theorem len_V175_oz_G1bcls : (V175).length = 9 := by decide +kernel
/-- Share.bitsAhead: this, this.points, this.masses, this.mostBits, this.starts, this.symbolAt, this.numberAt, this.placeOf, this.used -/
theorem C175o {σE : rS} {D N : Nat → Nat} {F : hF} {A : hA} {d c s : Nat} {Q : wQ} (H : HW V175 σE D N F A) {a1 a2 : Int} (pf1 : F 0 2 = (D 1 : Int)) (pf2 : F 0 3 = (D 2 : Int)) (pf3 : F 0 4 = (D 3 : Int)) (pf4 : F 0 5 = (D 4 : Int)) (pf5 : F 0 7 = (D 5 : Int)) (pf6 : F 0 8 = (D 6 : Int)) (pf7 : F 0 9 = (D 7 : Int)) (pf8 : F 0 6 = (D 8 : Int)) (n1 : Int) (en1 : (N 1 : Int) = n1) (n2 : Int) (en2 : (N 2 : Int) = n2) (n3 : Int) (en3 : (N 3 : Int) = n3) (n4 : Int) (en4 : (N 4 : Int) = n4) (n5 : Int) (en5 : (N 5 : Int) = n5) (n6 : Int) (en6 : (N 6 : Int) = n6) (n7 : Int) (en7 : (N 7 : Int) = n7) (n8 : Int) (en8 : (N 8 : Int) = n8) (u0_0 : Int) (eu0_0 : F 0 0 = u0_0) (u0_1 : Int) (eu0_1 : F 0 1 = u0_1) (w1 : Int → Int) (ew1 : A 1 = w1) (w2 : Int → Int) (ew2 : A 2 = w2) (w3 : Int → Int) (ew3 : A 3 = w3) (w4 : Int → Int) (ew4 : A 4 = w4) (w5 : Int → Int) (ew5 : A 5 = w5) (w6 : Int → Int) (ew6 : A 6 = w6) (w7 : Int → Int) (ew7 : A 7 = w7) (h0 : inr (a1)) (h1 : inr (a2)) (h2 : SL ((w1)) ((u0_1)) ((u0_0)) ((w2)) ((w3)) ((w4)) ((w5)) ((w6)) ((w7))) (h3 : SZD ((n1)) ((n2)) ((n3)) ((n4)) ((n8)) ((n5)) ((n6)) ((n7)) ((u0_1)) ((u0_0))) (h4 : 0 ≤ (a1) ∧ (a1) < p2 ((u0_0))) (h5 : 0 ≤ (a2) ∧ (a2) < ((u0_1)) ∧ ((w1)) (a2) ≠ 0) (k : ∀ (z : Int) (σ : rS) (Fₚ : hF) (Aₚ : hA), HW V175 σ D N Fₚ Aₚ → OUT (V175).length D N σE c s D N σ c s → SF [] F Fₚ → SA [] A Aₚ → (inr (z)) → (BA (mass (((w1)) (a2))) ((u0_0)) (a1) (z)) → (0 ≤ (z) ∧ (z) ≤ ((u0_0))) → Q (some (I z)) σ c s) : Ew 175 (d + 0) 0 (rargs 0 [.ref (D 0), I a1, I a2]) [] σE c s Q := by
  have O := OUT_refl (n := (V175).length) (D := D) (N := N) (σ := σE) (c := c) (s := s)
  have HE := H
  have r1 : (-2147483648 : Int) ≤ u0_0 ∧ u0_0 ≤ 2147483647 := rngE (show (-2147483648 : Int) ≤ F 0 0 ∧ F 0 0 ≤ 2147483647 from H.krg 0 0 (ltn len_V175_oz_G1bcls rfl)) (show F 0 0 = u0_0 from (eu0_0))
  have r2 : (-2147483648 : Int) ≤ u0_1 ∧ u0_1 ≤ 2147483647 := rngE (show (-2147483648 : Int) ≤ F 0 1 ∧ F 0 1 ≤ 2147483647 from H.krg 0 1 (ltn len_V175_oz_G1bcls rfl)) (show F 0 1 = u0_1 from (eu0_1))
  have r3 : (0 : Int) ≤ n1 ∧ n1 ≤ 1000000 := nleE (H.nle 1 (ltn len_V175_oz_G1bcls rfl)) (show (N 1 : Int) = n1 from en1)
  have r4 : (0 : Int) ≤ n2 ∧ n2 ≤ 1000000 := nleE (H.nle 2 (ltn len_V175_oz_G1bcls rfl)) (show (N 2 : Int) = n2 from en2)
  have r5 : (0 : Int) ≤ n3 ∧ n3 ≤ 1000000 := nleE (H.nle 3 (ltn len_V175_oz_G1bcls rfl)) (show (N 3 : Int) = n3 from en3)
  have r6 : (0 : Int) ≤ n4 ∧ n4 ≤ 1000000 := nleE (H.nle 4 (ltn len_V175_oz_G1bcls rfl)) (show (N 4 : Int) = n4 from en4)
  have r7 : (0 : Int) ≤ n5 ∧ n5 ≤ 1000000 := nleE (H.nle 5 (ltn len_V175_oz_G1bcls rfl)) (show (N 5 : Int) = n5 from en5)
  have r8 : (0 : Int) ≤ n6 ∧ n6 ≤ 1000000 := nleE (H.nle 6 (ltn len_V175_oz_G1bcls rfl)) (show (N 6 : Int) = n6 from en6)
  have r9 : (0 : Int) ≤ n7 ∧ n7 ≤ 1000000 := nleE (H.nle 7 (ltn len_V175_oz_G1bcls rfl)) (show (N 7 : Int) = n7 from en7)
  have r10 : (0 : Int) ≤ n8 ∧ n8 ≤ 1000000 := nleE (H.nle 8 (ltn len_V175_oz_G1bcls rfl)) (show (N 8 : Int) = n8 from en8)
  have hszd : SZD ((n1)) ((n2)) ((n3)) ((n4)) ((n8)) ((n5)) ((n6)) ((n7)) ((u0_1)) ((u0_0)) := h3
  unfold SZD at hszd
  have hSL : SL ((w1)) ((u0_1)) ((u0_0)) ((w2)) ((w3)) ((w4)) ((w5)) ((w6)) ((w7)) := h2
  have hms := mass_eq (((w1)) (a2))
  have hat := SHD_at hSL.1 (s := (a2)) (by omega) (by omega)
  have hf := SHD_f hSL.1
  refine Ew_of (pcₚ := 1) (fun _ => x_aload_n rfl rfl) ?_
  refine v_g H (o := 0) (v := .ref (D 3)) rfl rfl rfl rfl rfl (vrf (pf3)) ?_
  refine Ew_of (pcₚ := 5) (fun _ => x_iload_n rfl rfl) ?_
  refine v_lI H (o := 3) rfl rfl rfl rfl (n := n3) (en3) (show 0 ≤ a2 ∧ a2 < n3 by omega) (fun v11 ev11 qv11 => ?_)
  have ev11 : (w3) (a2) = v11 := (congrFun (ew3) (a2)).symm.trans ev11
  have hbi := ev11
  have hba := fun z ez => BA_of (m := mass (((w1)) (a2))) (L := ((u0_0))) (y := (a1)) (b := (v11)) (z := z) ⟨by omega, by omega⟩ (by omega) (by omega) (by omega) (by omega) (by rw [← hbi]; exact hSL.2.2.2.2.1 _ (by omega) (by omega)) ez
  have hb1 := hba _ rfl
  refine Ew_of (pcₚ := 7) (fun _ => x_istore_n rfl) ?_
  refine Ew_of (pcₚ := 8) (fun _ => x_iload_n rfl (rk_o (rfl) rfl rfl)) ?_
  refine Ew_of (pcₚ := 9) (fun _ => x_iconst rfl) ?_
  refine Ew_of (pcₚ := 10) (fun _ => x_aload_n rfl (rk_o (rfl) rfl rfl)) ?_
  refine v_g H (o := 0) (v := I (u0_0)) rfl rfl rfl rfl rfl (congrArg (fun z : Int => I z) ((eu0_0) : F 0 0 = u0_0)) ?_
  refine w_ishl1 rfl (show 0 ≤ u0_0 ∧ u0_0 ≤ 31 by omega) ?_
  refine w_iadd rfl ?_
  refine Ew_of (pcₚ := 16) (fun _ => x_iload_n rfl rk_s) ?_
  refine w_ishrX rfl (show inr ((a1 + p2 (u0_0))) by omega) (fun z13 gz13 dz13 => ?_)
  have hz : ((z13) : Int) = ((a1) + p2 ((u0_0))) / p2 ((v11)) := by omega
  have hb2 := hba _ hz
  refine Ew_of (pcₚ := 18) (fun _ => x_aload_n rfl (rk_o (rfl) rfl rfl)) ?_
  refine v_g H (o := 0) (v := .ref (D 2)) rfl rfl rfl rfl rfl (vrf (pf2)) ?_
  refine Ew_of (pcₚ := 22) (fun _ => x_iload_n rfl (rk_o (rfl) rfl rfl)) ?_
  refine v_lI H (o := 2) rfl rfl rfl rfl (n := n2) (en2) (show 0 ≤ a2 ∧ a2 < n2 by omega) (fun v14 ev14 qv14 => ?_)
  have ev14 : (w2) (a2) = v14 := (congrFun (ew2) (a2)).symm.trans ev14
  have hma := ev14
  rw [hSL.2.2.1 _ (by omega) (by omega)] at hma
  refine w_icmpge (t := 32) rfl rfl (show inr (z13) by omega) (show inr (v14) from qv14) (fun b15 => ?_) (fun b15 => ?_)
  · refine Ew_of (pcₚ := 33) (fun _ => x_iload_n rfl rk_s) ?_
    have hqq : BA (mass (((w1)) (a2))) ((u0_0)) (a1) ((v11)) := by first | exact hb2.2.2.1 (by omega) | exact hb2.2.2.2 (by omega)
    have hqr := hqq.1
    have hqs := hqq.2.1
    exact w_ireturn rfl (k (v11) _ _ _ H O (SF_refl) (SA_refl) (show inr (v11) from qv11) (show BA (mass (((w1)) a2)) ((u0_0)) a1 (v11) from hqq) (show 0 ≤ (v11) ∧ (v11) ≤ ((u0_0)) by omega))
  · refine Ew_of (pcₚ := 27) (fun _ => x_iload_n rfl rk_s) ?_
    refine Ew_of (pcₚ := 28) (fun _ => x_iconst rfl) ?_
    refine w_isub rfl ?_
    refine Ew_of (pcₚ := 33) (fun _ => x_goto rfl rfl) ?_
    have hqq : BA (mass (((w1)) (a2))) ((u0_0)) (a1) (((v11 - 1))) := by first | exact hb2.2.2.1 (by omega) | exact hb2.2.2.2 (by omega)
    have hqr := hqq.1
    have hqs := hqq.2.1
    exact w_ireturn rfl (k ((v11 - 1)) _ _ _ H O (SF_refl) (SA_refl) (show inr ((v11 - 1)) by omega) (show BA (mass (((w1)) a2)) ((u0_0)) a1 ((v11 - 1)) from hqq) (show 0 ≤ ((v11 - 1)) ∧ ((v11 - 1)) ≤ ((u0_0)) by omega))
theorem len_V176_oz_G1bcls : (V176).length = 9 := by decide +kernel
/-- Share.placeAhead: this, this.points, this.masses, this.mostBits, this.starts, this.symbolAt, this.numberAt, this.placeOf, this.used -/
theorem C176o {σE : rS} {D N : Nat → Nat} {F : hF} {A : hA} {d c s : Nat} {Q : wQ} (H : HW V176 σE D N F A) {a1 a2 a3 : Int} (pf1 : F 0 2 = (D 1 : Int)) (pf2 : F 0 3 = (D 2 : Int)) (pf3 : F 0 4 = (D 3 : Int)) (pf4 : F 0 5 = (D 4 : Int)) (pf5 : F 0 7 = (D 5 : Int)) (pf6 : F 0 8 = (D 6 : Int)) (pf7 : F 0 9 = (D 7 : Int)) (pf8 : F 0 6 = (D 8 : Int)) (n1 : Int) (en1 : (N 1 : Int) = n1) (n2 : Int) (en2 : (N 2 : Int) = n2) (n3 : Int) (en3 : (N 3 : Int) = n3) (n4 : Int) (en4 : (N 4 : Int) = n4) (n5 : Int) (en5 : (N 5 : Int) = n5) (n6 : Int) (en6 : (N 6 : Int) = n6) (n7 : Int) (en7 : (N 7 : Int) = n7) (n8 : Int) (en8 : (N 8 : Int) = n8) (u0_0 : Int) (eu0_0 : F 0 0 = u0_0) (u0_1 : Int) (eu0_1 : F 0 1 = u0_1) (w1 : Int → Int) (ew1 : A 1 = w1) (w2 : Int → Int) (ew2 : A 2 = w2) (w3 : Int → Int) (ew3 : A 3 = w3) (w4 : Int → Int) (ew4 : A 4 = w4) (w5 : Int → Int) (ew5 : A 5 = w5) (w6 : Int → Int) (ew6 : A 6 = w6) (w7 : Int → Int) (ew7 : A 7 = w7) (h0 : inr (a1)) (h1 : inr (a2)) (h2 : inr (a3)) (h3 : SL ((w1)) ((u0_1)) ((u0_0)) ((w2)) ((w3)) ((w4)) ((w5)) ((w6)) ((w7))) (h4 : SZD ((n1)) ((n2)) ((n3)) ((n4)) ((n8)) ((n5)) ((n6)) ((n7)) ((u0_1)) ((u0_0))) (h5 : 0 ≤ (a1) ∧ (a1) < p2 ((u0_0))) (h6 : 0 ≤ (a2) ∧ (a2) < ((u0_1)) ∧ ((w1)) (a2) ≠ 0) (h7 : BA (mass (((w1)) (a2))) ((u0_0)) (a1) (a3)) (k : ∀ (z : Int) (σ : rS) (Fₚ : hF) (Aₚ : hA), HW V176 σ D N Fₚ Aₚ → OUT (V176).length D N σE c s D N σ c s → SF [] F Fₚ → SA [] A Aₚ → (inr (z)) → (0 ≤ (z) ∧ (z) < p2 ((u0_0))) → (((w5)) (z) = (a2) ∧ XN ((w1)) ((w5)) (z) = ((a1) + p2 ((u0_0))) / p2 (a3)) → Q (some (I z)) σ c s) : Ew 176 (d + 0) 0 (rargs 0 [.ref (D 0), I a1, I a2, I a3]) [] σE c s Q := by
  have O := OUT_refl (n := (V176).length) (D := D) (N := N) (σ := σE) (c := c) (s := s)
  have HE := H
  have r1 : (-2147483648 : Int) ≤ u0_0 ∧ u0_0 ≤ 2147483647 := rngE (show (-2147483648 : Int) ≤ F 0 0 ∧ F 0 0 ≤ 2147483647 from H.krg 0 0 (ltn len_V176_oz_G1bcls rfl)) (show F 0 0 = u0_0 from (eu0_0))
  have r2 : (-2147483648 : Int) ≤ u0_1 ∧ u0_1 ≤ 2147483647 := rngE (show (-2147483648 : Int) ≤ F 0 1 ∧ F 0 1 ≤ 2147483647 from H.krg 0 1 (ltn len_V176_oz_G1bcls rfl)) (show F 0 1 = u0_1 from (eu0_1))
  have r3 : (0 : Int) ≤ n1 ∧ n1 ≤ 1000000 := nleE (H.nle 1 (ltn len_V176_oz_G1bcls rfl)) (show (N 1 : Int) = n1 from en1)
  have r4 : (0 : Int) ≤ n2 ∧ n2 ≤ 1000000 := nleE (H.nle 2 (ltn len_V176_oz_G1bcls rfl)) (show (N 2 : Int) = n2 from en2)
  have r5 : (0 : Int) ≤ n3 ∧ n3 ≤ 1000000 := nleE (H.nle 3 (ltn len_V176_oz_G1bcls rfl)) (show (N 3 : Int) = n3 from en3)
  have r6 : (0 : Int) ≤ n4 ∧ n4 ≤ 1000000 := nleE (H.nle 4 (ltn len_V176_oz_G1bcls rfl)) (show (N 4 : Int) = n4 from en4)
  have r7 : (0 : Int) ≤ n5 ∧ n5 ≤ 1000000 := nleE (H.nle 5 (ltn len_V176_oz_G1bcls rfl)) (show (N 5 : Int) = n5 from en5)
  have r8 : (0 : Int) ≤ n6 ∧ n6 ≤ 1000000 := nleE (H.nle 6 (ltn len_V176_oz_G1bcls rfl)) (show (N 6 : Int) = n6 from en6)
  have r9 : (0 : Int) ≤ n7 ∧ n7 ≤ 1000000 := nleE (H.nle 7 (ltn len_V176_oz_G1bcls rfl)) (show (N 7 : Int) = n7 from en7)
  have r10 : (0 : Int) ≤ n8 ∧ n8 ≤ 1000000 := nleE (H.nle 8 (ltn len_V176_oz_G1bcls rfl)) (show (N 8 : Int) = n8 from en8)
  have hszd : SZD ((n1)) ((n2)) ((n3)) ((n4)) ((n8)) ((n5)) ((n6)) ((n7)) ((u0_1)) ((u0_0)) := h4
  unfold SZD at hszd
  have hSL : SL ((w1)) ((u0_1)) ((u0_0)) ((w2)) ((w3)) ((w4)) ((w5)) ((w6)) ((w7)) := h3
  have hba : BA (mass (((w1)) (a2))) ((u0_0)) (a1) (a3) := h7
  have hbr := hba.1
  have hbs := hba.2.1
  have hbt := hba.2.2.1
  have hbu := hba.2.2.2
  have hf := SHD_f hSL.1
  have hat := SHD_at hSL.1 (s := (a2)) (by omega) (by omega)
  have hpl := PL_at hSL (s := (a2)) (i := ((a1) + p2 ((u0_0))) / p2 (a3) - mass (((w1)) (a2))) (by omega) (by omega) (by omega) (by omega)
  refine Ew_of (pcₚ := 1) (fun _ => x_aload_n rfl rfl) ?_
  refine v_g H (o := 0) (v := .ref (D 7)) rfl rfl rfl rfl rfl (vrf (pf7)) ?_
  refine Ew_of (pcₚ := 5) (fun _ => x_aload_n rfl rfl) ?_
  refine v_g H (o := 0) (v := .ref (D 4)) rfl rfl rfl rfl rfl (vrf (pf4)) ?_
  refine Ew_of (pcₚ := 9) (fun _ => x_iload_n rfl rfl) ?_
  refine v_lI H (o := 4) rfl rfl rfl rfl (n := n4) (en4) (show 0 ≤ a2 ∧ a2 < n4 by omega) (fun v11 ev11 qv11 => ?_)
  have ev11 : (w4) (a2) = v11 := (congrFun (ew4) (a2)).symm.trans ev11
  have hst := ev11
  rw [hst] at hpl
  obtain ⟨ix, hix⟩ : ∃ ix, ix = (v11) + (((a1) + p2 ((u0_0))) / p2 (a3) - mass (((w1)) (a2))) := ⟨_, rfl⟩
  rw [← hix] at hpl
  refine Ew_of (pcₚ := 11) (fun _ => x_iload_n rfl rfl) ?_
  refine Ew_of (pcₚ := 12) (fun _ => x_iconst rfl) ?_
  refine Ew_of (pcₚ := 13) (fun _ => x_aload_n rfl rfl) ?_
  refine v_g H (o := 0) (v := I (u0_0)) rfl rfl rfl rfl rfl (congrArg (fun z : Int => I z) ((eu0_0) : F 0 0 = u0_0)) ?_
  refine w_ishl1 rfl (show 0 ≤ u0_0 ∧ u0_0 ≤ 31 by omega) ?_
  refine w_iadd rfl ?_
  refine Ew_of (pcₚ := 19) (fun _ => x_iload_n rfl rfl) ?_
  refine w_ishrX rfl (show inr ((a1 + p2 (u0_0))) by omega) (fun z13 gz13 dz13 => ?_)
  have hz : ((z13) : Int) = ((a1) + p2 ((u0_0))) / p2 (a3) := by omega
  refine w_iadd rfl ?_
  refine Ew_of (pcₚ := 22) (fun _ => x_aload_n rfl rfl) ?_
  refine v_g H (o := 0) (v := .ref (D 2)) rfl rfl rfl rfl rfl (vrf (pf2)) ?_
  refine Ew_of (pcₚ := 26) (fun _ => x_iload_n rfl rfl) ?_
  refine v_lI H (o := 2) rfl rfl rfl rfl (n := n2) (en2) (show 0 ≤ a2 ∧ a2 < n2 by omega) (fun v14 ev14 qv14 => ?_)
  have ev14 : (w2) (a2) = v14 := (congrFun (ew2) (a2)).symm.trans ev14
  have hma := ev14
  rw [hSL.2.2.1 _ (by omega) (by omega)] at hma
  refine w_isub rfl ?_
  have hie : ix = (((v11 + z13) - v14)) := by omega
  rw [hie] at hpl
  refine v_lI H (o := 7) rfl rfl rfl rfl (n := n7) (en7) (show 0 ≤ ((v11 + z13) - v14) ∧ ((v11 + z13) - v14) < n7 by omega) (fun v15 ev15 qv15 => ?_)
  have ev15 : (w7) (((v11 + z13) - v14)) = v15 := (congrFun (ew7) (((v11 + z13) - v14))).symm.trans ev15
  rw [ev15] at hpl
  exact w_ireturn rfl (k (v15) _ _ _ H O (SF_refl) (SA_refl) (show inr (v15) from qv15) (show 0 ≤ (v15) ∧ (v15) < p2 ((u0_0)) by omega) (show ((w5)) (v15) = a2 ∧ XN ((w1)) ((w5)) (v15) = (a1 + p2 ((u0_0))) / p2 a3 by omega))
theorem len_V177_Ir_oz_G1bcls : (V177_Ir).length = 10 := by decide +kernel
theorem oz_G1bcls_11 : vsub V177_Ir V174 [0, 2, 3, 4, 5, 6, 7, 8, 9] = true := by decide +kernel
theorem oz_G1bcls_12 : vsub V177_Ir V175 [0, 2, 3, 4, 5, 6, 7, 8, 9] = true := by decide +kernel
theorem oz_G1bcls_13 : vsub V177_Ir V176 [0, 2, 3, 4, 5, 6, 7, 8, 9] = true := by decide +kernel
def oz_G1bclsl_3 : List Nat := [0, 2, 3, 4, 5, 6, 7, 8, 9]
theorem oz_G1bcls_14 : okc oz_G1bclsl_3 42575211634361579078656 = true := by decide +kernel
/-- Share.costOf: this, #1, this.points, this.masses, this.mostBits, this.starts, this.symbolAt, this.numberAt, this.placeOf, this.used -/
theorem C177_Iro {σE : rS} {D N : Nat → Nat} {F : hF} {A : hA} {d c s : Nat} {Q : wQ} (H : HW V177_Ir σE D N F A) {a2 : Int} (pf2 : F 0 2 = (D 2 : Int)) (pf3 : F 0 3 = (D 3 : Int)) (pf4 : F 0 4 = (D 4 : Int)) (pf5 : F 0 5 = (D 5 : Int)) (pf6 : F 0 7 = (D 6 : Int)) (pf7 : F 0 8 = (D 7 : Int)) (pf8 : F 0 9 = (D 8 : Int)) (pf9 : F 0 6 = (D 9 : Int)) (n1 : Int) (en1 : (N 1 : Int) = n1) (n2 : Int) (en2 : (N 2 : Int) = n2) (n3 : Int) (en3 : (N 3 : Int) = n3) (n4 : Int) (en4 : (N 4 : Int) = n4) (n5 : Int) (en5 : (N 5 : Int) = n5) (n6 : Int) (en6 : (N 6 : Int) = n6) (n7 : Int) (en7 : (N 7 : Int) = n7) (n8 : Int) (en8 : (N 8 : Int) = n8) (n9 : Int) (en9 : (N 9 : Int) = n9) (u0_0 : Int) (eu0_0 : F 0 0 = u0_0) (u0_1 : Int) (eu0_1 : F 0 1 = u0_1) (w1 : Int → Int) (ew1 : A 1 = w1) (w2 : Int → Int) (ew2 : A 2 = w2) (w3 : Int → Int) (ew3 : A 3 = w3) (w4 : Int → Int) (ew4 : A 4 = w4) (w5 : Int → Int) (ew5 : A 5 = w5) (w6 : Int → Int) (ew6 : A 6 = w6) (w7 : Int → Int) (ew7 : A 7 = w7) (w8 : Int → Int) (ew8 : A 8 = w8) (h0 : inr (a2)) (h1 : SL ((w2)) ((u0_1)) ((u0_0)) ((w3)) ((w4)) ((w5)) ((w6)) ((w7)) ((w8))) (h2 : SZD ((n2)) ((n3)) ((n4)) ((n5)) ((n9)) ((n6)) ((n7)) ((n8)) ((u0_1)) ((u0_0))) (h3 : 1 ≤ (a2) ∧ (a2) ≤ (n1) ∧ (a2) ≤ 65536) (h4 : RWO ((w1)) ((w2)) ((u0_1)) (a2)) (k : ∀ (z : Int) (σ : rS) (Fₚ : hF) (Aₚ : hA), HW V177_Ir σ D N Fₚ Aₚ → OUT (V177_Ir).length D N σE c s D N σ c s → SF [] F Fₚ → SA [] A Aₚ → (inr (z)) → (0 ≤ (z) ∧ (z) ≤ 9 * (a2)) → Q (some (I z)) σ c s) : Ew 177 (d + 1) 0 (rargs 0 [.ref (D 0), .ref (D 1), I a2]) [] σE c s Q := by
  have O := OUT_refl (n := (V177_Ir).length) (D := D) (N := N) (σ := σE) (c := c) (s := s)
  have HE := H
  have r1 : (-2147483648 : Int) ≤ u0_0 ∧ u0_0 ≤ 2147483647 := rngE (show (-2147483648 : Int) ≤ F 0 0 ∧ F 0 0 ≤ 2147483647 from H.krg 0 0 (ltn len_V177_Ir_oz_G1bcls rfl)) (show F 0 0 = u0_0 from (eu0_0))
  have r2 : (-2147483648 : Int) ≤ u0_1 ∧ u0_1 ≤ 2147483647 := rngE (show (-2147483648 : Int) ≤ F 0 1 ∧ F 0 1 ≤ 2147483647 from H.krg 0 1 (ltn len_V177_Ir_oz_G1bcls rfl)) (show F 0 1 = u0_1 from (eu0_1))
  have r3 : (0 : Int) ≤ n1 ∧ n1 ≤ 1000000 := nleE (H.nle 1 (ltn len_V177_Ir_oz_G1bcls rfl)) (show (N 1 : Int) = n1 from en1)
  have r4 : (0 : Int) ≤ n2 ∧ n2 ≤ 1000000 := nleE (H.nle 2 (ltn len_V177_Ir_oz_G1bcls rfl)) (show (N 2 : Int) = n2 from en2)
  have r5 : (0 : Int) ≤ n3 ∧ n3 ≤ 1000000 := nleE (H.nle 3 (ltn len_V177_Ir_oz_G1bcls rfl)) (show (N 3 : Int) = n3 from en3)
  have r6 : (0 : Int) ≤ n4 ∧ n4 ≤ 1000000 := nleE (H.nle 4 (ltn len_V177_Ir_oz_G1bcls rfl)) (show (N 4 : Int) = n4 from en4)
  have r7 : (0 : Int) ≤ n5 ∧ n5 ≤ 1000000 := nleE (H.nle 5 (ltn len_V177_Ir_oz_G1bcls rfl)) (show (N 5 : Int) = n5 from en5)
  have r8 : (0 : Int) ≤ n6 ∧ n6 ≤ 1000000 := nleE (H.nle 6 (ltn len_V177_Ir_oz_G1bcls rfl)) (show (N 6 : Int) = n6 from en6)
  have r9 : (0 : Int) ≤ n7 ∧ n7 ≤ 1000000 := nleE (H.nle 7 (ltn len_V177_Ir_oz_G1bcls rfl)) (show (N 7 : Int) = n7 from en7)
  have r10 : (0 : Int) ≤ n8 ∧ n8 ≤ 1000000 := nleE (H.nle 8 (ltn len_V177_Ir_oz_G1bcls rfl)) (show (N 8 : Int) = n8 from en8)
  have r11 : (0 : Int) ≤ n9 ∧ n9 ≤ 1000000 := nleE (H.nle 9 (ltn len_V177_Ir_oz_G1bcls rfl)) (show (N 9 : Int) = n9 from en9)
  have hszd : SZD ((n2)) ((n3)) ((n4)) ((n5)) ((n9)) ((n6)) ((n7)) ((n8)) ((u0_1)) ((u0_0)) := h2
  unfold SZD at hszd
  have hSL : SL ((w2)) ((u0_1)) ((u0_0)) ((w3)) ((w4)) ((w5)) ((w6)) ((w7)) ((w8)) := h1
  have hf := SHD_f hSL.1
  have hrw : RWO ((w1)) ((w2)) ((u0_1)) (a2) := h4
  refine Ew_of (pcₚ := 1) (fun _ => x_aload_n rfl rfl) ?_
  refine Ew_of (pcₚ := 2) (fun _ => x_aload_n rfl rfl) ?_
  refine Ew_of (pcₚ := 3) (fun _ => x_iload_n rfl rfl) ?_
  refine Ew_of (pcₚ := 4) (fun _ => x_iconst rfl) ?_
  refine w_isub rfl ?_
  refine v_lI H (o := 1) rfl rfl rfl rfl (n := n1) (en1) (show 0 ≤ (a2 - 1) ∧ (a2 - 1) < n1 from q_3125 h3) (fun v12 ev12 qv12 => ?_)
  have ev12 : (w1) ((a2 - 1)) = v12 := (congrFun (ew1) ((a2 - 1))).symm.trans ev12
  have hr1 := hrw ((a2) - 1) (by omega) (by omega)
  rw [ev12] at hr1
  refine v_inv H (o := 0) rfl rfl rfl rfl rfl rfl (by rfl) (C174o (D := puc 42575211634361579078656 D) (N := puc 42575211634361579078656 N) (HW_subc H oz_G1bcls_11 oz_G1bcls_14) (pf2) (pf3) (pf4) (pf5) (pf6) (pf7) (pf8) (pf9) (n2) (en2) (n3) (en3) (n4) (en4) (n5) (en5) (n6) (en6) (n7) (en7) (n8) (en8) (n9) (en9) (u0_0) ((eu0_0)) (u0_1) ((eu0_1)) (w2) (ew2) (w3) (ew3) (w4) (ew4) (w5) (ew5) (w6) (ew6) (w7) (ew7) (w8) (ew8) (show inr (v12) from qv12) (show SL ((w2)) ((u0_1)) ((u0_0)) ((w3)) ((w4)) ((w5)) ((w6)) ((w7)) ((w8)) from hSL) (show SZD ((n2)) ((n3)) ((n4)) ((n5)) ((n9)) ((n6)) ((n7)) ((n8)) ((u0_1)) ((u0_0)) from h2) (show 0 ≤ (v12) ∧ (v12) < ((u0_1)) ∧ ((w2)) (v12) ≠ 0 by omega) (fun z13 σ13 F13ₚ A13ₚ Hₚ Oₚ hS13 hA13 pz13_0 pz13_1 pz13_2 => ⟨rfl, ?_⟩))
  refine v_backc (c := c) (s := s) H oz_G1bcls_11 oz_G1bcls_14 Hₚ Oₚ (fun F13 A13 H Oₚ eF13 eA13 => ?_)
  have O := OUT_trans O Oₚ
  -- Share.lowestPlace
  have cF13 : SF oz_G1bclsl_0 F F13 := SF_trans (SF_refl) (SF_gluc (ι := oz_G1bclsl_3) oz_G1bcls_14 hS13 eF13 (by decide +kernel)) (any_sub (lₚ := []) (by decide +kernel))
  have mF13 := SFm_of cF13 oz_G1bcls_4
  have cA13 : SA oz_G1bclsl_1 A A13 := SA_trans (SA_refl) (SA_gluc (ι := oz_G1bclsl_3) oz_G1bcls_14 hA13 eA13 (by decide +kernel)) (any_subA (lₚ := []) (by decide +kernel))
  have mA13 := SAm_of cA13 oz_G1bcls_5
  refine Ew_of (pcₚ := 10) (fun _ => x_istore_n rfl) ?_
  refine Ew_of (pcₚ := 11) (fun _ => x_aload_n rfl (rk_o (rfl) rfl rfl)) ?_
  refine v_g H (o := 0) (v := I (u0_0)) rfl rfl rfl rfl rfl (congrArg (fun z : Int => I z) (((mF13 0 0 rfl).trans (eu0_0)) : F13 0 0 = u0_0)) ?_
  refine Ew_of (pcₚ := 16) (fun _ => x_istore rfl) ?_
  refine Ew_of (pcₚ := 17) (fun _ => x_iload_n rfl (rk_o (rk_o (rfl) rfl rfl) rfl rfl)) ?_
  refine Ew_of (pcₚ := 18) (fun _ => x_iconst rfl) ?_
  refine w_isub rfl ?_
  refine Ew_of (pcₚ := 21) (fun _ => x_istore rfl) ?_
  suffices hl21 : ∀ (m : Nat), ∀ (ls : rO) (σ : rS) (F_21 : hF) (A_21 : hA) (x21_3 : Int) (x21_4 : Int) (x21_5 : Int), rlook ls 0 = some (.ref (D 0)) → rlook ls 1 = some (.ref (D 1)) → rlook ls 3 = some (I (x21_3)) → rlook ls 4 = some (I (x21_4)) → rlook ls 5 = some (I (x21_5)) → HW V177_Ir σ D N F_21 A_21 → OUT (V177_Ir).length D N σE c s D N σ c s → SF [] F13 F_21 → SA [] A13 A_21 → (inr (x21_3)) → (inr (x21_4)) → (inr (x21_5)) → ((x21_5) ≤ ((a2 - 2))) → (((a2 - 2)) ≤ (x21_5) ∨ ((-1)) ≤ (x21_5)) → (0 ≤ (x21_3) ∧ (x21_3) < p2 ((u0_0))) → (0 ≤ (x21_4) ∧ (x21_4) ≤ 9 * ((a2) - 1 - (x21_5))) → ((x21_5) - ((-1))).toNat = m → Ew 177 (d + 1) 21 ls [] σ c s Q from
    hl21 _ _ _ _ _ (z13) (u0_0) ((a2 - 2)) (rk_o (rk_o (rk_o (rfl) rfl rfl) rfl rfl) rfl rfl) (rk_o (rk_o (rk_o (rfl) rfl rfl) rfl rfl) rfl rfl) (rk_o (rk_o (rk_s) rfl rfl) rfl rfl) (rk_o (rk_s) rfl rfl) (rk_s) H O (SF_refl) (SA_refl)     (show inr (z13) from pz13_0) (show inr (u0_0) from q_22 r1) (show inr ((a2 - 2)) from q_3128 h3) (show ((a2 - 2)) ≤ ((a2 - 2)) from q_3127) (show ((a2 - 2)) ≤ ((a2 - 2)) ∨ ((-1)) ≤ ((a2 - 2)) from q_3126) (show 0 ≤ (z13) ∧ (z13) < p2 ((u0_0)) from pz13_1) (show 0 ≤ (u0_0) ∧ (u0_0) ≤ 9 * ((a2) - 1 - ((a2 - 2))) by omega) rfl
  as_aux_lemma =>
  intro m
  induction m using Nat.strongRecOn with
  | _ m ih21 =>
    intro ls σ F_21 A_21 x21_3 x21_4 x21_5 l21_0 l21_1 l21_3 l21_4 l21_5 H O hS_21 hA_21     j21_0 j21_1 j21_2 j21_3 j21_4 j21_5 j21_6 hm21
    have cF_21 : SF oz_G1bclsl_0 F F_21 := SF_trans (cF13) hS_21 (any_sub (by decide +kernel))
    have mF_21 := SFm_of cF_21 oz_G1bcls_4
    have cA_21 : SA oz_G1bclsl_1 A A_21 := SA_trans (cA13) hA_21 (any_subA (by decide +kernel))
    have mA_21 := SAm_of cA_21 oz_G1bcls_5
    refine Ew_of (pcₚ := 23) (fun _ => x_iload rfl l21_5) ?_
    refine w_iflt (t := 62) rfl rfl (show inr (x21_5) from j21_2) (fun b14 => ?_) (fun b14 => ?_)
    · refine Ew_of (pcₚ := 64) (fun _ => x_iload rfl l21_4) ?_
      exact w_ireturn rfl (k (x21_4) _ _ _ H O (cF_21) (cA_21) (show inr (x21_4) from j21_1) (show 0 ≤ (x21_4) ∧ (x21_4) ≤ 9 * a2 from q_3129 h3 j21_4 j21_6))
    · refine Ew_of (pcₚ := 27) (fun _ => x_aload_n rfl l21_0) ?_
      refine Ew_of (pcₚ := 28) (fun _ => x_iload_n rfl l21_3) ?_
      refine Ew_of (pcₚ := 29) (fun _ => x_aload_n rfl l21_1) ?_
      refine Ew_of (pcₚ := 31) (fun _ => x_iload rfl l21_5) ?_
      refine v_lI H (o := 1) rfl rfl rfl rfl (n := n1) (en1) (show 0 ≤ x21_5 ∧ x21_5 < n1 from q_3130 b14 h3 j21_6) (fun v15 ev15 qv15 => ?_)
      have ev15 : (w1) (x21_5) = v15 := (congrFun ((funext (mA_21 1 rfl)).trans (ew1)) (x21_5)).symm.trans ev15
      have hr2 := hrw ((x21_5)) (by omega) (by omega)
      have he2 := ev15
      rw [he2] at hr2
      refine v_inv H (o := 0) rfl rfl rfl rfl rfl rfl (by rfl) (C175o (D := puc 42575211634361579078656 D) (N := puc 42575211634361579078656 N) (HW_subc H oz_G1bcls_12 oz_G1bcls_14) ((mF_21 0 2 rfl).trans (pf2)) ((mF_21 0 3 rfl).trans (pf3)) ((mF_21 0 4 rfl).trans (pf4)) ((mF_21 0 5 rfl).trans (pf5)) ((mF_21 0 7 rfl).trans (pf6)) ((mF_21 0 8 rfl).trans (pf7)) ((mF_21 0 9 rfl).trans (pf8)) ((mF_21 0 6 rfl).trans (pf9)) (n2) (en2) (n3) (en3) (n4) (en4) (n5) (en5) (n6) (en6) (n7) (en7) (n8) (en8) (n9) (en9) (u0_0) (((mF_21 0 0 rfl).trans (eu0_0))) (u0_1) (((mF_21 0 1 rfl).trans (eu0_1))) (w2) ((funext (mA_21 2 rfl)).trans (ew2)) (w3) ((funext (mA_21 3 rfl)).trans (ew3)) (w4) ((funext (mA_21 4 rfl)).trans (ew4)) (w5) ((funext (mA_21 5 rfl)).trans (ew5)) (w6) ((funext (mA_21 6 rfl)).trans (ew6)) (w7) ((funext (mA_21 7 rfl)).trans (ew7)) (w8) ((funext (mA_21 8 rfl)).trans (ew8)) (show inr (x21_3) from j21_0) (show inr (v15) from qv15) (show SL ((w2)) ((u0_1)) ((u0_0)) ((w3)) ((w4)) ((w5)) ((w6)) ((w7)) ((w8)) from hSL) (show SZD ((n2)) ((n3)) ((n4)) ((n5)) ((n9)) ((n6)) ((n7)) ((n8)) ((u0_1)) ((u0_0)) from h2) (show 0 ≤ (x21_3) ∧ (x21_3) < p2 ((u0_0)) from j21_5) (show 0 ≤ (v15) ∧ (v15) < ((u0_1)) ∧ ((w2)) (v15) ≠ 0 by omega) (fun z16 σ16 F16ₚ A16ₚ Hₚ Oₚ hS16 hA16 pz16_0 pz16_1 pz16_2 => ⟨rfl, ?_⟩))
      refine v_backc (c := c) (s := s) H oz_G1bcls_12 oz_G1bcls_14 Hₚ Oₚ (fun F16 A16 H Oₚ eF16 eA16 => ?_)
      have O := OUT_trans O Oₚ
      -- Share.bitsAhead
      have cF16 : SF oz_G1bclsl_0 F F16 := SF_trans (cF_21) (SF_gluc (ι := oz_G1bclsl_3) oz_G1bcls_14 hS16 eF16 (by decide +kernel)) (any_sub (lₚ := []) (by decide +kernel))
      have mF16 := SFm_of cF16 oz_G1bcls_4
      have cA16 : SA oz_G1bclsl_1 A A16 := SA_trans (cA_21) (SA_gluc (ι := oz_G1bclsl_3) oz_G1bcls_14 hA16 eA16 (by decide +kernel)) (any_subA (lₚ := []) (by decide +kernel))
      have mA16 := SAm_of cA16 oz_G1bcls_5
      refine Ew_of (pcₚ := 37) (fun _ => x_istore rfl) ?_
      refine Ew_of (pcₚ := 39) (fun _ => x_iload rfl (rk_o (l21_4) rfl rfl)) ?_
      refine Ew_of (pcₚ := 41) (fun _ => x_iload rfl rk_s) ?_
      refine w_iadd rfl ?_
      refine Ew_of (pcₚ := 44) (fun _ => x_istore rfl) ?_
      refine Ew_of (pcₚ := 45) (fun _ => x_aload_n rfl (rk_o (rk_o (l21_0) rfl rfl) rfl rfl)) ?_
      refine Ew_of (pcₚ := 46) (fun _ => x_iload_n rfl (rk_o (rk_o (l21_3) rfl rfl) rfl rfl)) ?_
      refine Ew_of (pcₚ := 47) (fun _ => x_aload_n rfl (rk_o (rk_o (l21_1) rfl rfl) rfl rfl)) ?_
      refine Ew_of (pcₚ := 49) (fun _ => x_iload rfl (rk_o (rk_o (l21_5) rfl rfl) rfl rfl)) ?_
      refine v_lI H (o := 1) rfl rfl rfl rfl (n := n1) (en1) (show 0 ≤ x21_5 ∧ x21_5 < n1 from q_3130 b14 h3 j21_6) (fun v17 ev17 qv17 => ?_)
      have ev17 : (w1) (x21_5) = v17 := (congrFun ((funext (mA16 1 rfl)).trans (ew1)) (x21_5)).symm.trans ev17
      have hr3 := hrw ((x21_5)) (by omega) (by omega)
      have he3 := ev17
      rw [he3] at hr3
      refine Ew_of (pcₚ := 52) (fun _ => x_iload rfl (rk_o (rk_s) rfl rfl)) ?_
      have hb5 : BA (mass (((w2)) ((v17)))) ((u0_0)) ((x21_3)) ((z16)) := by rw [← he3, he2]; exact pz16_1
      refine v_inv H (o := 0) rfl rfl rfl rfl rfl rfl (by rfl) (C176o (D := puc 42575211634361579078656 D) (N := puc 42575211634361579078656 N) (HW_subc H oz_G1bcls_13 oz_G1bcls_14) ((mF16 0 2 rfl).trans (pf2)) ((mF16 0 3 rfl).trans (pf3)) ((mF16 0 4 rfl).trans (pf4)) ((mF16 0 5 rfl).trans (pf5)) ((mF16 0 7 rfl).trans (pf6)) ((mF16 0 8 rfl).trans (pf7)) ((mF16 0 9 rfl).trans (pf8)) ((mF16 0 6 rfl).trans (pf9)) (n2) (en2) (n3) (en3) (n4) (en4) (n5) (en5) (n6) (en6) (n7) (en7) (n8) (en8) (n9) (en9) (u0_0) (((mF16 0 0 rfl).trans (eu0_0))) (u0_1) (((mF16 0 1 rfl).trans (eu0_1))) (w2) ((funext (mA16 2 rfl)).trans (ew2)) (w3) ((funext (mA16 3 rfl)).trans (ew3)) (w4) ((funext (mA16 4 rfl)).trans (ew4)) (w5) ((funext (mA16 5 rfl)).trans (ew5)) (w6) ((funext (mA16 6 rfl)).trans (ew6)) (w7) ((funext (mA16 7 rfl)).trans (ew7)) (w8) ((funext (mA16 8 rfl)).trans (ew8)) (show inr (x21_3) from j21_0) (show inr (v17) from qv17) (show inr (z16) from pz16_0) (show SL ((w2)) ((u0_1)) ((u0_0)) ((w3)) ((w4)) ((w5)) ((w6)) ((w7)) ((w8)) from hSL) (show SZD ((n2)) ((n3)) ((n4)) ((n5)) ((n9)) ((n6)) ((n7)) ((n8)) ((u0_1)) ((u0_0)) from h2) (show 0 ≤ (x21_3) ∧ (x21_3) < p2 ((u0_0)) from j21_5) (show 0 ≤ (v17) ∧ (v17) < ((u0_1)) ∧ ((w2)) (v17) ≠ 0 by omega) (show BA (mass (((w2)) (v17))) ((u0_0)) (x21_3) (z16) from hb5) (fun z18 σ18 F18ₚ A18ₚ Hₚ Oₚ hS18 hA18 pz18_0 pz18_1 pz18_2 => ⟨rfl, ?_⟩))
      refine v_backc (c := c) (s := s) H oz_G1bcls_13 oz_G1bcls_14 Hₚ Oₚ (fun F18 A18 H Oₚ eF18 eA18 => ?_)
      have O := OUT_trans O Oₚ
      -- Share.placeAhead
      have cF18 : SF oz_G1bclsl_0 F F18 := SF_trans (cF16) (SF_gluc (ι := oz_G1bclsl_3) oz_G1bcls_14 hS18 eF18 (by decide +kernel)) (any_sub (lₚ := []) (by decide +kernel))
      have mF18 := SFm_of cF18 oz_G1bcls_4
      have cA18 : SA oz_G1bclsl_1 A A18 := SA_trans (cA16) (SA_gluc (ι := oz_G1bclsl_3) oz_G1bcls_14 hA18 eA18 (by decide +kernel)) (any_subA (lₚ := []) (by decide +kernel))
      have mA18 := SAm_of cA18 oz_G1bcls_5
      refine Ew_of (pcₚ := 56) (fun _ => x_istore_n rfl) ?_
      refine Ew_of (pcₚ := 59) (fun _ => x_iinc (len := 3) rfl (rk_o (rk_o (rk_o (l21_5) rfl rfl) rfl rfl) rfl rfl)) ?_
      refine Ew_of (pcₚ := 21) (fun _ => x_goto rfl rfl) ?_
      exact ih21 _ (msE hm21 q_176 (q_177 b14)) _ _ _ _ (z18) ((x21_4 + z16)) ((x21_5 + (-1))) (rk_o (rk_o (rk_o (rk_o (l21_0) rfl rfl) rfl rfl) rfl rfl) rfl rfl) (rk_o (rk_o (rk_o (rk_o (l21_1) rfl rfl) rfl rfl) rfl rfl) rfl rfl) (rk_o (rk_s) rfl rfl) (rk_o (rk_o (rk_s) rfl rfl) rfl rfl) (rk_s) H O (SF_trans (SF_trans (hS_21) (SF_gluc (ι := oz_G1bclsl_3) oz_G1bcls_14 hS16 eF16 (by decide +kernel)) (any_sub (lₚ := []) (by decide +kernel))) (SF_gluc (ι := oz_G1bclsl_3) oz_G1bcls_14 hS18 eF18 (by decide +kernel)) (any_sub (lₚ := []) (by decide +kernel))) (SA_trans (SA_trans (hA_21) (SA_gluc (ι := oz_G1bclsl_3) oz_G1bcls_14 hA16 eA16 (by decide +kernel)) (any_subA (lₚ := []) (by decide +kernel))) (SA_gluc (ι := oz_G1bclsl_3) oz_G1bcls_14 hA18 eA18 (by decide +kernel)) (any_subA (lₚ := []) (by decide +kernel)))     (show inr (z18) from pz18_0) (show inr ((x21_4 + z16)) by omega) (show inr ((x21_5 + (-1))) from q_175 b14 j21_2) (show ((x21_5 + (-1))) ≤ ((a2 - 2)) from q_3132 j21_6) (show ((a2 - 2)) ≤ ((x21_5 + (-1))) ∨ ((-1)) ≤ ((x21_5 + (-1))) from q_3131 b14) (show 0 ≤ (z18) ∧ (z18) < p2 ((u0_0)) from pz18_1) (show 0 ≤ ((x21_4 + z16)) ∧ ((x21_4 + z16)) ≤ 9 * ((a2) - 1 - ((x21_5 + (-1)))) by omega) rfl
