section
/-! U2h.cls -/
theorem len_V132_Ir_oz_U2hcls : (V132_Ir).length = 1 := by decide +kernel

theorem C132_Irf {σE : rS} {D N : Nat → Nat} {F : hF} {A : hA} {d c s : Nat} {Q : wQ} (H : HW V132_Ir σE D N F A) {a2 : Int} (n0 : Int) (en0 : (N 0 : Int) = n0) (w0 : Int → Int) (ew0 : A 0 = w0) (h0 : inr (a2)) (h1 : (n0) = 10) (h2 : 0 ≤ ((w0)) 7 ∧ ((w0)) 7 ≤ 15) (h3 : 0 ≤ ((w0)) 8 ∧ ((w0)) 8 ≤ 11) (h4 : 0 ≤ (a2) ∧ (a2) ≤ 16384) (k : ∀ (z : Int) (σ : rS) (Fₚ : hF) (Aₚ : hA), HW V132_Ir σ D N Fₚ Aₚ → OUT (V132_Ir).length D N σE c s D N σ c s → SF [] F Fₚ → SA [] A Aₚ → (inr (z)) → (0 ≤ (z) ∧ (z) ≤ 2097152) → ((z) = winF (((w0)) 7) (((w0)) 8) ((a2))) → Q (some (I z)) σ c s) : Ew 132 (d + 0) 0 (rargs 0 [.ref (D 0), I a2]) [] σE c s Q := by
  have O := OUT_refl (n := (V132_Ir).length) (D := D) (N := N) (σ := σE) (c := c) (s := s)
  have HE := H
  have r1 : (0 : Int) ≤ n0 ∧ n0 ≤ 1000000 := nleE (H.nle 0 (ltn len_V132_Ir_oz_U2hcls rfl)) (show (N 0 : Int) = n0 from en0)
  refine Ew_of (pcₚ := 1) (fun _ => x_aload_n rfl rfl) ?_
  refine Ew_of (pcₚ := 3) (fun _ => x_bipush (z := 7) rfl (by decide)) ?_
  refine v_lI H (o := 0) rfl rfl rfl rfl (n := n0) (en0) (show 0 ≤ 7 ∧ 7 < n0 from q_4236 h1 r1) (fun v2 ev2 qv2 => ?_)
  have ev2 : (w0) (7) = v2 := (congrFun (ew0) (7)).symm.trans ev2
  have hs7 := ev2
  refine Ew_of (pcₚ := 5) (fun _ => x_iconst rfl) ?_
  refine w_iandG rfl ?_
  have g3 : inr (andI (v2) (4)) := toI_inr _
  obtain ⟨qA, hqA⟩ : ∃ q : Int, q = ((andI (v2) (4))) := ⟨_, rfl⟩
  rw [← hqA]
  have gqA : inr qA := by rw [hqA]; first | assumption | omega
  replace hqA : IMP True (qA = ((andI (v2) (4)))) := fun _ => hqA
  try clear g3
  have hA4 := fl_4 (fl := ((w0)) 7) (by omega) ((hqA trivial).trans (by rw [hs7]))
  refine w_ifeq (t := 13) rfl rfl (show inr (qA) from gqA) (fun b4 => ?_) (fun b4 => ?_)
  · refine Ew_of (pcₚ := 14) (fun _ => x_iconst rfl) ?_
    refine Ew_of (pcₚ := 16) (fun _ => x_bipush (z := 10) rfl (by decide)) ?_
    refine Ew_of (pcₚ := 17) (fun _ => x_aload_n rfl rfl) ?_
    refine Ew_of (pcₚ := 19) (fun _ => x_bipush (z := 8) rfl (by decide)) ?_
    refine v_lI H (o := 0) rfl rfl rfl rfl (n := n0) (en0) (show 0 ≤ 8 ∧ 8 < n0 from q_4237 h1 r1) (fun v5 ev5 qv5 => ?_)
    have ev5 : (w0) (8) = v5 := (congrFun (ew0) (8)).symm.trans ev5
    have hs8 := ev5
    refine w_iadd rfl ?_
    have hpw : p2 (((10 + v5))) ≤ p2 21 := p2_mono (by omega)
    have hp21 : p2 21 = 2097152 := by decide
    have hpp := p2_pos (((10 + v5)))
    refine w_ishl1 rfl (show 0 ≤ (10 + v5) ∧ (10 + v5) ≤ 31 from q_4238 ev5 h3) ?_
    have : (p2 ((10 + v5))) = winF (((w0)) 7) (((w0)) 8) ((a2)) := by first | exact winF_e (.inl ⟨by omega, rfl⟩) | (rw [hs8]; exact winF_e (.inr ⟨by omega, rfl⟩))
    exact w_ireturn rfl (k (p2 ((10 + v5))) _ _ _ H O (SF_refl) (SA_refl) (show inr (p2 ((10 + v5))) by omega) (show 0 ≤ (p2 ((10 + v5))) ∧ (p2 ((10 + v5))) ≤ 2097152 by omega) (show (p2 ((10 + v5))) = winF (((w0)) 7) (((w0)) 8) (a2) by assumption))
  · refine Ew_of (pcₚ := 10) (fun _ => x_iload_n rfl rfl) ?_
    refine Ew_of (pcₚ := 22) (fun _ => x_goto rfl rfl) ?_
    have : (a2) = winF (((w0)) 7) (((w0)) 8) ((a2)) := by first | exact winF_e (.inl ⟨by omega, rfl⟩) | (rw [hs8]; exact winF_e (.inr ⟨by omega, rfl⟩))
    exact w_ireturn rfl (k (a2) _ _ _ H O (SF_refl) (SA_refl) (show inr (a2) from h0) (show 0 ≤ (a2) ∧ (a2) ≤ 2097152 from q_4239 h4) (show (a2) = winF (((w0)) 7) (((w0)) 8) (a2) by assumption))
theorem len_V133_Ir_oz_U2hcls : (V133_Ir).length = 1 := by decide +kernel
theorem oz_U2hcls_2 : vsub V133_Ir V132_Ir [0] = true := by decide +kernel
def oz_U2hclsl_0 : List (Nat × Nat) := []
theorem oz_U2hcls_3 : (oz_U2hclsl_0).all (fun p => !tbz 0 (Nat.add (Nat.mul 32 p.1) p.2)) = true := by decide +kernel
def oz_U2hclsl_1 : List Nat := []
theorem oz_U2hcls_4 : (oz_U2hclsl_1).all (fun p => !tbz 0 p) = true := by decide +kernel
def oz_U2hclsl_2 : List Nat := [0]
theorem oz_U2hcls_5 : okc oz_U2hclsl_2 0 = true := by decide +kernel

theorem C133_Irf {σE : rS} {D N : Nat → Nat} {F : hF} {A : hA} {d c s : Nat} {Q : wQ} (H : HW V133_Ir σE D N F A) {a2 : Int} (n0 : Int) (en0 : (N 0 : Int) = n0) (w0 : Int → Int) (ew0 : A 0 = w0) (h0 : inr (a2)) (h1 : (n0) = 10) (h2 : 0 ≤ ((w0)) 7 ∧ ((w0)) 7 ≤ 15) (h3 : 0 ≤ ((w0)) 8 ∧ ((w0)) 8 ≤ 11) (h4 : 1 ≤ ((w0)) 2 ∧ ((w0)) 2 ≤ 65536) (h5 : 0 ≤ (a2) ∧ (a2) ≤ 16384) (k : ∀ (z : Int) (σ : rS) (Fₚ : hF) (Aₚ : hA), HW V133_Ir σ D N Fₚ Aₚ → OUT (V133_Ir).length D N σE c s D N σ c s → SF [] F Fₚ → SA [] A Aₚ → (inr (z)) → (1 ≤ (z) ∧ (z) ≤ 65536) → (IMP (1 ≤ (a2)) ((z) = stpF (((w0)) 2) (mosF (winF (((w0)) 7) (((w0)) 8) ((a2)))))) → Q (some (I z)) σ c s) : Ew 133 (d + 1) 0 (rargs 0 [.ref (D 0), I a2]) [] σE c s Q := by
  have O := OUT_refl (n := (V133_Ir).length) (D := D) (N := N) (σ := σE) (c := c) (s := s)
  have HE := H
  have r1 : (0 : Int) ≤ n0 ∧ n0 ≤ 1000000 := nleE (H.nle 0 (ltn len_V133_Ir_oz_U2hcls rfl)) (show (N 0 : Int) = n0 from en0)
  refine Ew_of (pcₚ := 2) (fun _ => x_ldc (z := 131072) rfl (by decide)) ?_
  refine Ew_of (pcₚ := 3) (fun _ => x_aload_n rfl rfl) ?_
  refine Ew_of (pcₚ := 4) (fun _ => x_iload_n rfl rfl) ?_
  refine w_stat24 rfl rfl (by rfl) (C132_Irf (D := puc 0 D) (N := puc 0 N) (HW_subc H oz_U2hcls_2 oz_U2hcls_5) (n0) (en0) (w0) (ew0) (show inr (a2) from h0) (show (n0) = 10 from h1) (show 0 ≤ ((w0)) 7 ∧ ((w0)) 7 ≤ 15 from h2) (show 0 ≤ ((w0)) 8 ∧ ((w0)) 8 ≤ 11 from h3) (show 0 ≤ (a2) ∧ (a2) ≤ 16384 from h5) (fun z2 σ2 F2ₚ A2ₚ Hₚ Oₚ hS2 hA2 pz2_0 pz2_1 pz2_2 => ⟨rfl, ?_⟩))
  refine v_backc (c := c) (s := s) H oz_U2hcls_2 oz_U2hcls_5 Hₚ Oₚ (fun F2 A2 H Oₚ eF2 eA2 => ?_)
  have O := OUT_trans O Oₚ
  -- Packer.windowFor
  have cF2 : SF oz_U2hclsl_0 F F2 := SF_trans (SF_refl) (SF_gluc (ι := oz_U2hclsl_2) oz_U2hcls_5 hS2 eF2 (by decide +kernel)) (any_sub (lₚ := []) (by decide +kernel))
  have mF2 := SFm_of cF2 oz_U2hcls_3
  have cA2 : SA oz_U2hclsl_1 A A2 := SA_trans (SA_refl) (SA_gluc (ι := oz_U2hclsl_2) oz_U2hcls_5 hA2 eA2 (by decide +kernel)) (any_subA (lₚ := []) (by decide +kernel))
  have mA2 := SAm_of cA2 oz_U2hcls_4
  have hwn := pz2_2
  obtain ⟨qw, hqw⟩ : ∃ q : Int, q = (z2) := ⟨_, rfl⟩
  have hqw2 : qw = winF (((w0)) 7) (((w0)) 8) ((a2)) := hqw.trans hwn
  refine v_min rfl rfl (show inr (131072) from q_1877) (show inr (z2) from pz2_0) (fun z3 gz3 => ?_)
  refine Ew_of (pcₚ := 11) (fun _ => x_istore_n rfl) ?_
  refine Ew_of (pcₚ := 12) (fun _ => x_iconst rfl) ?_
  refine Ew_of (pcₚ := 13) (fun _ => x_aload_n rfl (rk_o (rfl) rfl rfl)) ?_
  refine Ew_of (pcₚ := 14) (fun _ => x_iconst rfl) ?_
  refine v_lI H (o := 0) rfl rfl rfl rfl (n := n0) (en0) (show 0 ≤ 2 ∧ 2 < n0 from q_3471 h1 r1) (fun v4 ev4 qv4 => ?_)
  have ev4 : (w0) (2) = v4 := (congrFun ((funext (mA2 0 rfl)).trans (ew0)) (2)).symm.trans ev4
  have hs2 := ev4
  refine Ew_of (pcₚ := 16) (fun _ => x_iload_n rfl rk_s) ?_
  refine v_min rfl rfl (show inr (v4) from qv4) (show inr (z3) from q_4240 gz3 pz2_1) (fun z5 gz5 => ?_)
  refine v_max rfl rfl (show inr (1) from q_135) (show inr (z5) from q_4241 gz3 gz5 pz2_1 qv4) (fun z6 gz6 => ?_)
  have : IMP (1 ≤ (a2)) ((z6) = stpF (((w0)) 2) (mosF (winF (((w0)) 7) (((w0)) 8) ((a2))))) := fun q => by have h1 := winF_1 (fl := ((w0)) 7) (e := ((w0)) 8) q; rw [← hqw2] at h1 ⊢; rw [hs2]; exact rl_e h1 (m := (z3)) (by omega) (by omega)
  exact w_ireturn rfl (k (z6) _ _ _ H O (cF2) (cA2) (show inr (z6) from q_4243 gz5 gz6 qv4) (show 1 ≤ (z6) ∧ (z6) ≤ 65536 from q_4242 ev4 gz5 gz6 h4) (show IMP (1 ≤ a2) ((z6) = stpF (((w0)) 2) (mosF (winF (((w0)) 7) (((w0)) 8) (a2)))) by assumption))
theorem len_V135_Row_oz_U2hcls : (V135_Row).length = 4 := by decide +kernel
theorem oz_U2hcls_7 : vsub V135_Row V160 [1, 2] = true := by decide +kernel
theorem oz_U2hcls_8 : vmov V135_Row [1, 2] [1] = true := by decide +kernel
theorem oz_U2hcls_9 : vsub V135_Row V159 [1, 2] = true := by decide +kernel
def oz_U2hclsl_3 : List (Nat × Nat) := [(1, 0), (1, 1), (1, 2)]
theorem oz_U2hcls_10 : (oz_U2hclsl_3).all (fun p => !tbz 30064771072 (Nat.add (Nat.mul 32 p.1) p.2)) = true := by decide +kernel
def oz_U2hclsl_4 : List Nat := [2]
theorem oz_U2hcls_11 : (oz_U2hclsl_4).all (fun p => !tbz 4 p) = true := by decide +kernel
def oz_U2hclsl_5 : List Nat := [1, 2]
theorem oz_U2hcls_12 : okc oz_U2hclsl_5 1025 = true := by decide +kernel
set_option maxHeartbeats 16000000 in
theorem C135_Rowf {σE : rS} {D N : Nat → Nat} {F : hF} {A : hA} {d c s : Nat} {Q : wQ} (H : HW V135_Row σE D N F A) {a2 a3 : Int} (pf2 : F 1 0 = (D 2 : Int)) (pf3 : F 0 0 = (D 3 : Int)) (n2 : Int) (en2 : (N 2 : Int) = n2) (n3 : Int) (en3 : (N 3 : Int) = n3) (u1_1 : Int) (eu1_1 : F 1 1 = u1_1) (u1_2 : Int) (eu1_2 : F 1 2 = u1_2) (w2 : Int → Int) (ew2 : A 2 = w2) (w3 : Int → Int) (ew3 : A 3 = w3) (h0 : inr (a2)) (h1 : inr (a3)) (h2 : 0 ≤ (u1_1) ∧ (u1_1) ≤ (n2) ∧ (n2) ≤ 65536) (h3 : (n3) = 10) (h4 : 0 ≤ ((w3)) 7 ∧ ((w3)) 7 ≤ 15) (h5 : 0 ≤ ((w3)) 8 ∧ ((w3)) 8 ≤ 11) (h6 : 0 ≤ (a2) ∧ (a2) ≤ 16384) (k : ∀ (σ : rS) (Dₚ Nₚ : Nat → Nat) (Fₚ : hF) (Aₚ : hA) (cₚ sₚ : Nat), HW V135_Row σ Dₚ Nₚ Fₚ Aₚ → OUT (V135_Row).length D N σE c s Dₚ Nₚ σ cₚ sₚ → SD [2] D Dₚ → SD [2] N Nₚ → SF [(1, 0), (1, 1), (1, 2)] F Fₚ → SA [2] A Aₚ → Fₚ 1 0 = (Dₚ 2 : Int) → ∀ m2 : Int, (Nₚ 2 : Int) = m2 → ∀ y1_1 : Int, Fₚ 1 1 = y1_1 → ∀ y1_2 : Int, Fₚ 1 2 = y1_2 → ∀ v2 : Int → Int, Aₚ 2 = v2 → (0 ≤ (y1_1) ∧ (y1_1) ≤ (m2) ∧ (m2) ≤ 65536) → (RAP ((u1_2)) ((w2)) ((u1_1)) ((y1_2)) ((v2)) ((y1_1)) (hdrF (((w3)) 7) (((w3)) 8) ((a3) % 4294967296) ((a2)))) → Q none σ cₚ sₚ) : Ew 135 (d + 3) 0 (rargs 0 [.ref (D 0), .ref (D 1), I a2, I a3]) [] σE c s Q := by
  have O := OUT_refl (n := (V135_Row).length) (D := D) (N := N) (σ := σE) (c := c) (s := s)
  have HE := H
  have r1 : (-2147483648 : Int) ≤ u1_1 ∧ u1_1 ≤ 2147483647 := rngE (show (-2147483648 : Int) ≤ F 1 1 ∧ F 1 1 ≤ 2147483647 from H.krg 1 1 (ltn len_V135_Row_oz_U2hcls rfl)) (show F 1 1 = u1_1 from (eu1_1))
  have r2 : (0 : Int) ≤ u1_2 ∧ u1_2 ≤ 1 := rngE (show (0 : Int) ≤ F 1 2 ∧ F 1 2 ≤ 1 from H.krg 1 2 (ltn len_V135_Row_oz_U2hcls rfl)) (show F 1 2 = u1_2 from (eu1_2))
  have r3 : (0 : Int) ≤ n2 ∧ n2 ≤ 1000000 := nleE (H.nle 2 (ltn len_V135_Row_oz_U2hcls rfl)) (show (N 2 : Int) = n2 from en2)
  have r4 : (0 : Int) ≤ n3 ∧ n3 ≤ 1000000 := nleE (H.nle 3 (ltn len_V135_Row_oz_U2hcls rfl)) (show (N 3 : Int) = n3 from en3)
  refine Ew_of (pcₚ := 1) (fun _ => x_aload_n rfl rfl) ?_
  refine v_g H (o := 0) (v := .ref (D 3)) rfl rfl rfl rfl rfl (vrf (pf3)) ?_
  refine Ew_of (pcₚ := 6) (fun _ => x_bipush (z := 7) rfl (by decide)) ?_
  refine v_lI H (o := 3) rfl rfl rfl rfl (n := n3) (en3) (show 0 ≤ 7 ∧ 7 < n3 from q_4236 h3 r4) (fun v5 ev5 qv5 => ?_)
  have ev5 : (w3) (7) = v5 := (congrFun (ew3) (7)).symm.trans ev5
  have hs7 := ev5
  obtain ⟨qf, hqf⟩ : ∃ q : Int, q = (v5) := ⟨_, rfl⟩
  have hqf7 : ((w3)) 7 = qf := hs7.trans hqf.symm
  have hfl : 0 ≤ ((v5) : Int) ∧ ((v5) : Int) ≤ 15 := q_4820 ev5 h4
  refine Ew_of (pcₚ := 9) (fun _ => x_istore rfl) ?_
  have hc21 : ∀ (tc21_0 : Int), ∀ (ls : rO) (σ : rS) (F_c21 : hF) (A_c21 : hA) , rlook ls 0 = some (.ref (D 0)) → rlook ls 1 = some (.ref (D 1)) → rlook ls 2 = some (I (a2)) → rlook ls 3 = some (I (a3)) → rlook ls 4 = some (I (v5)) → HW V135_Row σ D N F_c21 A_c21 → OUT (V135_Row).length D N σE c s D N σ c s → SF [] F F_c21 → SA [] A A_c21 → (inr (tc21_0)) → ((tc21_0) = b4F qf) → (0 ≤ (tc21_0) ∧ (tc21_0) ≤ 1) → Ew 135 (d + 3) 21 ls [I (tc21_0)] σ c s Q := by
   as_aux_lemma =>
    intro tc21_0 ls σ F_c21 A_c21  lc21_0 lc21_1 lc21_2 lc21_3 lc21_4 H O hS_c21 hA_c21     jc21_0 jc21_1 jc21_2
    have cF_c21 : SF oz_U2hclsl_3 F F_c21 := SF_trans (SF_refl) hS_c21 (any_sub (by decide +kernel))
    have mF_c21 := SFm_of cF_c21 oz_U2hcls_10
    have cA_c21 : SA oz_U2hclsl_4 A A_c21 := SA_trans (SA_refl) hA_c21 (any_subA (by decide +kernel))
    have mA_c21 := SAm_of cA_c21 oz_U2hcls_11
    have h5_ : (tc21_0) = b4F qf := jc21_1
    refine Ew_of (pcₚ := 23) (fun _ => x_istore rfl) ?_
    have h5 : (tc21_0) = b4F qf := h5_
    have h5r : 0 ≤ (tc21_0) ∧ (tc21_0) ≤ 1 := jc21_2
    obtain ⟨q5, hq5⟩ : ∃ q : Int, q = (tc21_0) := ⟨_, rfl⟩
    have h5q : q5 = b4F qf := hq5.trans h5
    refine Ew_of (pcₚ := 24) (fun _ => x_iconst rfl) ?_
    refine Ew_of (pcₚ := 26) (fun _ => x_istore rfl) ?_
    have hc61 : ∀ (ls : rO) (σ : rS) (F_c61 : hF) (A_c61 : hA) (xc61_6 : Int), rlook ls 0 = some (.ref (D 0)) → rlook ls 1 = some (.ref (D 1)) → rlook ls 2 = some (I (a2)) → rlook ls 3 = some (I (a3)) → rlook ls 4 = some (I (v5)) → rlook ls 5 = some (I (tc21_0)) → rlook ls 6 = some (I (xc61_6)) → HW V135_Row σ D N F_c61 A_c61 → OUT (V135_Row).length D N σE c s D N σ c s → SF [] F_c21 F_c61 → SA [] A_c21 A_c61 → (inr (xc61_6)) → (0 ≤ (xc61_6) ∧ (xc61_6) ≤ 2) → ((xc61_6) = ffF qf ((a2))) → Ew 135 (d + 3) 61 ls [] σ c s Q := by
     as_aux_lemma =>
      intro  ls σ F_c61 A_c61 xc61_6 lc61_0 lc61_1 lc61_2 lc61_3 lc61_4 lc61_5 lc61_6 H O hS_c61 hA_c61     jc61_0 jc61_1 jc61_2
      have cF_c61 : SF oz_U2hclsl_3 F F_c61 := SF_trans (cF_c21) hS_c61 (any_sub (by decide +kernel))
      have mF_c61 := SFm_of cF_c61 oz_U2hcls_10
      have cA_c61 : SA oz_U2hclsl_4 A A_c61 := SA_trans (cA_c21) hA_c61 (any_subA (by decide +kernel))
      have mA_c61 := SAm_of cA_c61 oz_U2hcls_11
      have h6 : (xc61_6) = ffF qf ((a2)) := jc61_2
      obtain ⟨q6, hq6⟩ : ∃ q : Int, q = (xc61_6) := ⟨_, rfl⟩
      have h6q : q6 = ffF qf ((a2)) := hq6.trans h6
      refine Ew_of (pcₚ := 62) (fun _ => x_iconst rfl) ?_
      refine Ew_of (pcₚ := 64) (fun _ => x_istore rfl) ?_
      have hc101 : ∀ (ls : rO) (σ : rS) (F_c101 : hF) (A_c101 : hA) (xc101_7 : Int), rlook ls 0 = some (.ref (D 0)) → rlook ls 1 = some (.ref (D 1)) → rlook ls 2 = some (I (a2)) → rlook ls 3 = some (I (a3)) → rlook ls 4 = some (I (v5)) → rlook ls 5 = some (I (tc21_0)) → rlook ls 6 = some (I (xc61_6)) → rlook ls 7 = some (I (xc101_7)) → HW V135_Row σ D N F_c101 A_c101 → OUT (V135_Row).length D N σE c s D N σ c s → SF [] F_c61 F_c101 → SA [] A_c61 A_c101 → (inr (xc101_7)) → (0 ≤ (xc101_7) ∧ (xc101_7) ≤ 3) → ((xc101_7) = gfF qf ((a3) % 4294967296)) → Ew 135 (d + 3) 101 ls [] σ c s Q := by
       as_aux_lemma =>
        intro  ls σ F_c101 A_c101 xc101_7 lc101_0 lc101_1 lc101_2 lc101_3 lc101_4 lc101_5 lc101_6 lc101_7 H O hS_c101 hA_c101     jc101_0 jc101_1 jc101_2
        have cF_c101 : SF oz_U2hclsl_3 F F_c101 := SF_trans (cF_c61) hS_c101 (any_sub (by decide +kernel))
        have mF_c101 := SFm_of cF_c101 oz_U2hcls_10
        have cA_c101 : SA oz_U2hclsl_4 A A_c101 := SA_trans (cA_c61) hA_c101 (any_subA (by decide +kernel))
        have mA_c101 := SAm_of cA_c101 oz_U2hcls_11
        have h7 : (xc101_7) = gfF qf ((a3) % 4294967296) := jc101_2
        obtain ⟨q7, hq7⟩ : ∃ q : Int, q = (xc101_7) := ⟨_, rfl⟩
        have h7q : q7 = gfF qf ((a3) % 4294967296) := hq7.trans h7
        refine Ew_of (pcₚ := 102) (fun _ => x_aload_n rfl lc101_1) ?_
        refine Ew_of (pcₚ := 105) (fun _ => x_ldc2 (z := -47205080) rfl (by decide)) ?_
        refine Ew_of (pcₚ := 106) (fun _ => x_iconst rfl) ?_
        refine v_inv H (o := 1) rfl rfl rfl rfl rfl rfl (by rfl) (C160 (D := puc 1025 D) (N := puc 1025 N) (HW_subc H oz_U2hcls_7 oz_U2hcls_12) (((((hS_c101 1 0 rfl).trans (hS_c61 1 0 rfl)).trans (hS_c21 1 0 rfl))).trans (pf2)) (n2) (en2) (u1_1) (((((hS_c101 1 1 rfl).trans (hS_c61 1 1 rfl)).trans (hS_c21 1 1 rfl)).trans (eu1_1))) (u1_2) (((((hS_c101 1 2 rfl).trans (hS_c61 1 2 rfl)).trans (hS_c21 1 2 rfl)).trans (eu1_2))) (w2) ((funext (hA_c101 2 rfl)).trans ((funext (hA_c61 2 rfl)).trans ((funext (hA_c21 2 rfl)).trans (ew2)))) (show inrJ ((-47205080)) from q_4244) (show inr (4) from q_216) (show 0 ≤ (u1_1) ∧ (u1_1) ≤ (n2) ∧ (n2) ≤ 65536 from h2) (show 0 ≤ (4) ∧ (4) ≤ 8 from q_623) (fun σ6 D6ₚ N6ₚ F6ₚ A6ₚ c6 s6 Hₚ Oₚ hD6 hN6 hS6 hA6 pm6_1 m6_1 em6_1 y6_0_1 ey6_0_1 y6_0_2 ey6_0_2 w6_1 ew6_1 pz6_0 pz6_1 pz6_2 => ⟨rfl, ?_⟩))
        refine v_backMc (c := c) (s := s) H oz_U2hcls_7 oz_U2hcls_12 Hₚ Oₚ hD6 oz_U2hcls_8 (fun D6 N6 F6 A6 H Oₚ eD6 eN6 eF6 eA6 => ?_)
        have O := OUT_trans O Oₚ
        -- Row.addNumber
        have cF6 : SF oz_U2hclsl_3 F F6 := SF_trans (cF_c101) (SF_gluc (ι := oz_U2hclsl_5) oz_U2hcls_12 hS6 eF6 (by decide +kernel)) (any_sub (lₚ := [(1, 0), (1, 1), (1, 2)]) (by decide +kernel))
        have mF6 := SFm_of cF6 oz_U2hcls_10
        have cA6 : SA oz_U2hclsl_4 A A6 := SA_trans (cA_c101) (SA_gluc (ι := oz_U2hclsl_5) oz_U2hcls_12 hA6 eA6 (by decide +kernel)) (any_subA (lₚ := [2]) (by decide +kernel))
        have mA6 := SAm_of cA6 oz_U2hcls_11
        have cD6 : SD oz_U2hclsl_4 D D6 := SD_trans (SD_refl) (SD_gluc (ι := oz_U2hclsl_5) oz_U2hcls_12 hD6 eD6 (by decide +kernel)) (any_subA (lₚ := [2]) (by decide +kernel))
        have mD6 := SDm_of cD6 oz_U2hcls_11
        have cN6 : SD oz_U2hclsl_4 N N6 := SD_trans (SD_refl) (SD_gluc (ι := oz_U2hclsl_5) oz_U2hcls_12 hN6 eN6 (by decide +kernel)) (any_subA (lₚ := [2]) (by decide +kernel))
        have mN6 := SDm_of cN6 oz_U2hcls_11
        have pf6_1_0 : F6 1 0 = (D6 2 : Int) := (eF6 1 0).trans (pm6_1.trans (congrArg (fun q : Nat => (q : Int)) (eD6 2).symm))
        have r7 : (0 : Int) ≤ m6_1 ∧ m6_1 ≤ 1000000 := nleE (H.nle 2 (ltn len_V135_Row_oz_U2hcls rfl)) (show (N6 2 : Int) = m6_1 from (congrArg (fun q : Nat => (q : Int)) (eN6 2)).trans em6_1)
        have r8 : (-2147483648 : Int) ≤ y6_0_1 ∧ y6_0_1 ≤ 2147483647 := rngE (show (-2147483648 : Int) ≤ F6 1 1 ∧ F6 1 1 ≤ 2147483647 from H.krg 1 1 (ltn len_V135_Row_oz_U2hcls rfl)) (show F6 1 1 = y6_0_1 from ((eF6 1 1).trans ey6_0_1))
        have r9 : (0 : Int) ≤ y6_0_2 ∧ y6_0_2 ≤ 1 := rngE (show (0 : Int) ≤ F6 1 2 ∧ F6 1 2 ≤ 1 from H.krg 1 2 (ltn len_V135_Row_oz_U2hcls rfl)) (show F6 1 2 = y6_0_2 from ((eF6 1 2).trans ey6_0_2))
        have h109 : RAP ((u1_2)) ((w2)) ((u1_1)) ((y6_0_2)) ((w6_1)) ((y6_0_1)) (nb 4247762216 4) := RAP_c pz6_2 ((nb_w (by decide)).trans (by rw [show ((-47205080 : Int) % 4294967296) = 4247762216 by decide]))
        try clear pz6_1
        refine Ew_of (pcₚ := 110) (fun _ => x_aload_n rfl lc101_1) ?_
        refine Ew_of (pcₚ := 112) (fun _ => x_iload rfl lc101_6) ?_
        refine Ew_of (pcₚ := 114) (fun _ => x_bipush (z := 6) rfl (by decide)) ?_
        refine w_ishlE rfl ?_
        have g10 : inr (slI (xc61_6) (6)) := toI_inr _
        have hc126 : ∀ (tc126_0 : Int), ∀ (ls : rO) (σ : rS) (F_c126 : hF) (A_c126 : hA) , rlook ls 0 = some (.ref (D6 0)) → rlook ls 1 = some (.ref (D6 1)) → rlook ls 2 = some (I (a2)) → rlook ls 3 = some (I (a3)) → rlook ls 4 = some (I (v5)) → rlook ls 5 = some (I (tc21_0)) → rlook ls 6 = some (I (xc61_6)) → rlook ls 7 = some (I (xc101_7)) → HW V135_Row σ D6 N6 F_c126 A_c126 → OUT (V135_Row).length D N σE c s D6 N6 σ (c + c6) (s + s6) → SF [] F6 F_c126 → SA [] A6 A_c126 → (inr (tc126_0)) → ((tc126_0) = 32 * (tc21_0)) → Ew 135 (d + 3) 126 ls [I (tc126_0), I ((slI (xc61_6) (6))), .ref (D6 1)] σ (c + c6) (s + s6) Q := by
         as_aux_lemma =>
          intro tc126_0 ls σ F_c126 A_c126  lc126_0 lc126_1 lc126_2 lc126_3 lc126_4 lc126_5 lc126_6 lc126_7 H O hS_c126 hA_c126     jc126_0 jc126_1
          have cF_c126 : SF oz_U2hclsl_3 F F_c126 := SF_trans (cF6) hS_c126 (any_sub (by decide +kernel))
          have mF_c126 := SFm_of cF_c126 oz_U2hcls_10
          have cA_c126 : SA oz_U2hclsl_4 A A_c126 := SA_trans (cA6) hA_c126 (any_subA (by decide +kernel))
          have mA_c126 := SAm_of cA_c126 oz_U2hcls_11
          try clear pz6_1
          refine w_iorE rfl ?_
          have g11 : inr (orI ((slI (xc61_6) (6))) (tc126_0)) := toI_inr _
          have hc139 : ∀ (tc139_0 : Int), ∀ (ls : rO) (σ : rS) (F_c139 : hF) (A_c139 : hA) , rlook ls 0 = some (.ref (D6 0)) → rlook ls 1 = some (.ref (D6 1)) → rlook ls 2 = some (I (a2)) → rlook ls 3 = some (I (a3)) → rlook ls 5 = some (I (tc21_0)) → rlook ls 6 = some (I (xc61_6)) → rlook ls 7 = some (I (xc101_7)) → HW V135_Row σ D6 N6 F_c139 A_c139 → OUT (V135_Row).length D N σE c s D6 N6 σ (c + c6) (s + s6) → SF [] F_c126 F_c139 → SA [] A_c126 A_c139 → (inr (tc139_0)) → ((tc139_0) = 4 * (qf % 2)) → Ew 135 (d + 3) 139 ls [I (tc139_0), I ((orI ((slI (xc61_6) (6))) (tc126_0))), .ref (D6 1)] σ (c + c6) (s + s6) Q := by
           as_aux_lemma =>
            intro tc139_0 ls σ F_c139 A_c139  lc139_0 lc139_1 lc139_2 lc139_3 lc139_5 lc139_6 lc139_7 H O hS_c139 hA_c139     jc139_0 jc139_1
            have cF_c139 : SF oz_U2hclsl_3 F F_c139 := SF_trans (cF_c126) hS_c139 (any_sub (by decide +kernel))
            have mF_c139 := SFm_of cF_c139 oz_U2hcls_10
            have cA_c139 : SA oz_U2hclsl_4 A A_c139 := SA_trans (cA_c126) hA_c139 (any_subA (by decide +kernel))
            have mA_c139 := SAm_of cA_c139 oz_U2hcls_11
            refine w_iorE rfl ?_
            have g12 : inr (orI ((orI ((slI (xc61_6) (6))) (tc126_0))) (tc139_0)) := toI_inr _
            refine Ew_of (pcₚ := 142) (fun _ => x_iload rfl lc139_7) ?_
            refine w_iorE rfl ?_
            have g13 : inr (orI ((orI ((orI ((slI (xc61_6) (6))) (tc126_0))) (tc139_0))) (xc101_7)) := toI_inr _
            obtain ⟨qh, hqh⟩ : ∃ q : Int, q = ((orI ((orI ((orI ((slI (xc61_6) (6))) (tc126_0))) (tc139_0))) (xc101_7))) := ⟨_, rfl⟩
            rw [← hqh]
            have gqh : inr qh := by rw [hqh]; first | assumption | omega
            replace hqh : IMP True (qh = ((orI ((orI ((orI ((slI (xc61_6) (6))) (tc126_0))) (tc139_0))) (xc101_7)))) := fun _ => hqh
            try clear g13
            try clear g12
            try clear g11
            try clear g10
            have hqh2 : qh = 64 * (xc61_6) + 32 * (tc21_0) + 4 * (qf % 2) + (xc101_7) := (hqh trivial).trans (hd_or (by omega) (by omega) (by omega) (by omega) (by omega) (by omega))
            refine v_inv H (o := 1) rfl rfl rfl rfl rfl rfl (by rfl) (C159 (D := puc 1025 D6) (N := puc 1025 N6) (HW_subc H oz_U2hcls_9 oz_U2hcls_12) ((((hS_c139 1 0 rfl).trans (hS_c126 1 0 rfl))).trans (pf6_1_0)) (m6_1) ((congrArg (fun q : Nat => (q : Int)) (eN6 2)).trans em6_1) (y6_0_1) ((((hS_c139 1 1 rfl).trans (hS_c126 1 1 rfl)).trans ((eF6 1 1).trans ey6_0_1))) (y6_0_2) ((((hS_c139 1 2 rfl).trans (hS_c126 1 2 rfl)).trans ((eF6 1 2).trans ey6_0_2))) (w6_1) ((funext (hA_c139 2 rfl)).trans ((funext (hA_c126 2 rfl)).trans ((eA6 2).trans ew6_1))) (show inr (qh) from gqh) (show 0 ≤ (y6_0_1) ∧ (y6_0_1) ≤ (m6_1) ∧ (m6_1) ≤ 65536 from pz6_0) (fun σ14 D14ₚ N14ₚ F14ₚ A14ₚ c14 s14 Hₚ Oₚ hD14 hN14 hS14 hA14 pm14_1 m14_1 em14_1 y14_0_1 ey14_0_1 y14_0_2 ey14_0_2 w14_1 ew14_1 pz14_0 pz14_1 pz14_2 pz14_3 => ⟨rfl, ?_⟩))
            refine v_backMc (c := (c + c6)) (s := (s + s6)) H oz_U2hcls_9 oz_U2hcls_12 Hₚ Oₚ hD14 oz_U2hcls_8 (fun D14 N14 F14 A14 H Oₚ eD14 eN14 eF14 eA14 => ?_)
            have O := OUT_trans O Oₚ
            -- Row.add
            have cF14 : SF oz_U2hclsl_3 F F14 := SF_trans (cF_c139) (SF_gluc (ι := oz_U2hclsl_5) oz_U2hcls_12 hS14 eF14 (by decide +kernel)) (any_sub (lₚ := [(1, 0), (1, 1), (1, 2)]) (by decide +kernel))
            have mF14 := SFm_of cF14 oz_U2hcls_10
            have cA14 : SA oz_U2hclsl_4 A A14 := SA_trans (cA_c139) (SA_gluc (ι := oz_U2hclsl_5) oz_U2hcls_12 hA14 eA14 (by decide +kernel)) (any_subA (lₚ := [2]) (by decide +kernel))
            have mA14 := SAm_of cA14 oz_U2hcls_11
            have cD14 : SD oz_U2hclsl_4 D D14 := SD_trans (cD6) (SD_gluc (ι := oz_U2hclsl_5) oz_U2hcls_12 hD14 eD14 (by decide +kernel)) (any_subA (lₚ := [2]) (by decide +kernel))
            have mD14 := SDm_of cD14 oz_U2hcls_11
            have cN14 : SD oz_U2hclsl_4 N N14 := SD_trans (cN6) (SD_gluc (ι := oz_U2hclsl_5) oz_U2hcls_12 hN14 eN14 (by decide +kernel)) (any_subA (lₚ := [2]) (by decide +kernel))
            have mN14 := SDm_of cN14 oz_U2hcls_11
            have pf14_1_0 : F14 1 0 = (D14 2 : Int) := (eF14 1 0).trans (pm14_1.trans (congrArg (fun q : Nat => (q : Int)) (eD14 2).symm))
            have r15 : (0 : Int) ≤ m14_1 ∧ m14_1 ≤ 1000000 := nleE (H.nle 2 (ltn len_V135_Row_oz_U2hcls rfl)) (show (N14 2 : Int) = m14_1 from (congrArg (fun q : Nat => (q : Int)) (eN14 2)).trans em14_1)
            have r16 : (-2147483648 : Int) ≤ y14_0_1 ∧ y14_0_1 ≤ 2147483647 := rngE (show (-2147483648 : Int) ≤ F14 1 1 ∧ F14 1 1 ≤ 2147483647 from H.krg 1 1 (ltn len_V135_Row_oz_U2hcls rfl)) (show F14 1 1 = y14_0_1 from ((eF14 1 1).trans ey14_0_1))
            have r17 : (0 : Int) ≤ y14_0_2 ∧ y14_0_2 ≤ 1 := rngE (show (0 : Int) ≤ F14 1 2 ∧ F14 1 2 ≤ 1 from H.krg 1 2 (ltn len_V135_Row_oz_U2hcls rfl)) (show F14 1 2 = y14_0_2 from ((eF14 1 2).trans ey14_0_2))
            have hc164 : ∀ (ls : rO) (σ : rS) (D_c164 N_c164 : Nat → Nat) (c_c164 s_c164 : Nat) (F_c164 : hF) (A_c164 : hA) , rlook ls 1 = some (.ref (D_c164 1)) → rlook ls 2 = some (I (a2)) → rlook ls 3 = some (I (a3)) → rlook ls 5 = some (I (tc21_0)) → rlook ls 6 = some (I (xc61_6)) → rlook ls 7 = some (I (xc101_7)) → HW V135_Row σ D_c164 N_c164 F_c164 A_c164 → OUT (V135_Row).length D N σE c s D_c164 N_c164 σ c_c164 s_c164 → SD [2] D14 D_c164 → SD [2] N14 N_c164 → SF [(1, 0), (1, 1), (1, 2)] F14 F_c164 → SA [2] A14 A_c164 → F_c164 1 0 = (D_c164 2 : Int) → ∀ mc164_2 : Int, (N_c164 2 : Int) = mc164_2 → ∀ yc164_1_1 : Int, F_c164 1 1 = yc164_1_1 → ∀ yc164_1_2 : Int, F_c164 1 2 = yc164_1_2 → ∀ wc164_2 : Int → Int, A_c164 2 = wc164_2 → (0 ≤ (yc164_1_1) ∧ (yc164_1_1) ≤ (mc164_2) ∧ (mc164_2) ≤ 65536) → (RAP ((u1_2)) ((w2)) ((u1_1)) ((yc164_1_2)) ((wc164_2)) ((yc164_1_1)) (((nb 4247762216 4 ++ [64 * ffF qf ((a2)) + 32 * b4F qf + 4 * (qf % 2) + gfF qf ((a3) % 4294967296)]) ++ (if b4F qf = 1 then [] else [8 * ((w3)) 8])))) → Ew 135 (d + 3) 164 ls [] σ c_c164 s_c164 Q := by
             as_aux_lemma =>
              intro  ls σ D_c164 N_c164 c_c164 s_c164 F_c164 A_c164  lc164_1 lc164_2 lc164_3 lc164_5 lc164_6 lc164_7 H O hD_c164 hN_c164 hS_c164 hA_c164 pmc164_2 mc164_2 emc164_2 yc164_1_1 eyc164_1_1 yc164_1_2 eyc164_1_2 wc164_2 ewc164_2 jc164_0 jc164_1
              have cF_c164 : SF oz_U2hclsl_3 F F_c164 := SF_trans (cF14) hS_c164 (any_sub (by decide +kernel))
              have mF_c164 := SFm_of cF_c164 oz_U2hcls_10
              have cA_c164 : SA oz_U2hclsl_4 A A_c164 := SA_trans (cA14) hA_c164 (any_subA (by decide +kernel))
              have mA_c164 := SAm_of cA_c164 oz_U2hcls_11
              have cD_c164 : SD oz_U2hclsl_4 D D_c164 := SD_trans (cD14) hD_c164 (any_subA (by decide +kernel))
              have mD_c164 := SDm_of cD_c164 oz_U2hcls_11
              have cN_c164 : SD oz_U2hclsl_4 N N_c164 := SD_trans (cN14) hN_c164 (any_subA (by decide +kernel))
              have mN_c164 := SDm_of cN_c164 oz_U2hcls_11
              try clear pz14_1
              have r18 : (0 : Int) ≤ mc164_2 ∧ mc164_2 ≤ 1000000 := nleE (H.nle 2 (ltn len_V135_Row_oz_U2hcls rfl)) (show (N_c164 2 : Int) = mc164_2 from emc164_2)
              have r19 : (-2147483648 : Int) ≤ yc164_1_1 ∧ yc164_1_1 ≤ 2147483647 := rngE (show (-2147483648 : Int) ≤ F_c164 1 1 ∧ F_c164 1 1 ≤ 2147483647 from H.krg 1 1 (ltn len_V135_Row_oz_U2hcls rfl)) (show F_c164 1 1 = yc164_1_1 from (eyc164_1_1))
              have r20 : (0 : Int) ≤ yc164_1_2 ∧ yc164_1_2 ≤ 1 := rngE (show (0 : Int) ≤ F_c164 1 2 ∧ F_c164 1 2 ≤ 1 from H.krg 1 2 (ltn len_V135_Row_oz_U2hcls rfl)) (show F_c164 1 2 = yc164_1_2 from (eyc164_1_2))
              have h164 : RAP ((u1_2)) ((w2)) ((u1_1)) ((yc164_1_2)) ((wc164_2)) ((yc164_1_1)) (((nb 4247762216 4 ++ [64 * ffF qf ((a2)) + 32 * b4F qf + 4 * (qf % 2) + gfF qf ((a3) % 4294967296)]) ++ (if b4F qf = 1 then [] else [8 * ((w3)) 8]))) := by assumption
              try clear pz14_1
              refine Ew_of (pcₚ := 165) (fun _ => x_aload_n rfl lc164_1) ?_
              refine Ew_of (pcₚ := 166) (fun _ => x_iload_n rfl lc164_3) ?_
              refine w_i2l rfl (show inr (a3) from h1) ?_
              have hc179 : ∀ (tc179_0 : Int), ∀ (ls : rO) (σ : rS) (F_c179 : hF) (A_c179 : hA) , rlook ls 1 = some (.ref (D_c164 1)) → rlook ls 2 = some (I (a2)) → rlook ls 5 = some (I (tc21_0)) → rlook ls 6 = some (I (xc61_6)) → HW V135_Row σ D_c164 N_c164 F_c179 A_c179 → OUT (V135_Row).length D N σE c s D_c164 N_c164 σ c_c164 s_c164 → SF [] F_c164 F_c179 → SA [] A_c164 A_c179 → (inr (tc179_0)) → (0 ≤ (tc179_0) ∧ (tc179_0) ≤ 4) → ((tc179_0) = gbF q7) → Ew 135 (d + 3) 179 ls [I (tc179_0), J (a3), .ref (D_c164 1)] σ c_c164 s_c164 Q := by
               as_aux_lemma =>
                intro tc179_0 ls σ F_c179 A_c179  lc179_1 lc179_2 lc179_5 lc179_6 H O hS_c179 hA_c179     jc179_0 jc179_1 jc179_2
                have cF_c179 : SF oz_U2hclsl_3 F F_c179 := SF_trans (cF_c164) hS_c179 (any_sub (by decide +kernel))
                have mF_c179 := SFm_of cF_c179 oz_U2hcls_10
                have cA_c179 : SA oz_U2hclsl_4 A A_c179 := SA_trans (cA_c164) hA_c179 (any_subA (by decide +kernel))
                have mA_c179 := SAm_of cA_c179 oz_U2hcls_11
                have hnb : nb ((a3)) ((tc179_0)) = nb ((a3) % 4294967296) (gbF (gfF qf ((a3) % 4294967296))) := (nb_w (by omega)).trans (by rw [show (tc179_0) = gbF q7 by assumption, h7q])
                refine v_inv H (o := 1) rfl rfl rfl rfl rfl rfl (by rfl) (C160 (D := puc 1025 D_c164) (N := puc 1025 N_c164) (HW_subc H oz_U2hcls_7 oz_U2hcls_12) (((hS_c179 1 0 rfl)).trans (pmc164_2)) (mc164_2) (emc164_2) (yc164_1_1) (((hS_c179 1 1 rfl).trans (eyc164_1_1))) (yc164_1_2) (((hS_c179 1 2 rfl).trans (eyc164_1_2))) (wc164_2) ((funext (hA_c179 2 rfl)).trans (ewc164_2)) (show inrJ (a3) from q_2579 h1) (show inr (tc179_0) from jc179_0) (show 0 ≤ (yc164_1_1) ∧ (yc164_1_1) ≤ (mc164_2) ∧ (mc164_2) ≤ 65536 from jc164_0) (show 0 ≤ (tc179_0) ∧ (tc179_0) ≤ 8 from q_3233 jc179_1) (fun σ21 D21ₚ N21ₚ F21ₚ A21ₚ c21 s21 Hₚ Oₚ hD21 hN21 hS21 hA21 pm21_1 m21_1 em21_1 y21_0_1 ey21_0_1 y21_0_2 ey21_0_2 w21_1 ew21_1 pz21_0 pz21_1 pz21_2 => ⟨rfl, ?_⟩))
                refine v_backMc (c := c_c164) (s := s_c164) H oz_U2hcls_7 oz_U2hcls_12 Hₚ Oₚ hD21 oz_U2hcls_8 (fun D21 N21 F21 A21 H Oₚ eD21 eN21 eF21 eA21 => ?_)
                have O := OUT_trans O Oₚ
                -- Row.addNumber
                have cF21 : SF oz_U2hclsl_3 F F21 := SF_trans (cF_c179) (SF_gluc (ι := oz_U2hclsl_5) oz_U2hcls_12 hS21 eF21 (by decide +kernel)) (any_sub (lₚ := [(1, 0), (1, 1), (1, 2)]) (by decide +kernel))
                have mF21 := SFm_of cF21 oz_U2hcls_10
                have cA21 : SA oz_U2hclsl_4 A A21 := SA_trans (cA_c179) (SA_gluc (ι := oz_U2hclsl_5) oz_U2hcls_12 hA21 eA21 (by decide +kernel)) (any_subA (lₚ := [2]) (by decide +kernel))
                have mA21 := SAm_of cA21 oz_U2hcls_11
                have cD21 : SD oz_U2hclsl_4 D D21 := SD_trans (cD_c164) (SD_gluc (ι := oz_U2hclsl_5) oz_U2hcls_12 hD21 eD21 (by decide +kernel)) (any_subA (lₚ := [2]) (by decide +kernel))
                have mD21 := SDm_of cD21 oz_U2hcls_11
                have cN21 : SD oz_U2hclsl_4 N N21 := SD_trans (cN_c164) (SD_gluc (ι := oz_U2hclsl_5) oz_U2hcls_12 hN21 eN21 (by decide +kernel)) (any_subA (lₚ := [2]) (by decide +kernel))
                have mN21 := SDm_of cN21 oz_U2hcls_11
                have pf21_1_0 : F21 1 0 = (D21 2 : Int) := (eF21 1 0).trans (pm21_1.trans (congrArg (fun q : Nat => (q : Int)) (eD21 2).symm))
                have r22 : (0 : Int) ≤ m21_1 ∧ m21_1 ≤ 1000000 := nleE (H.nle 2 (ltn len_V135_Row_oz_U2hcls rfl)) (show (N21 2 : Int) = m21_1 from (congrArg (fun q : Nat => (q : Int)) (eN21 2)).trans em21_1)
                have r23 : (-2147483648 : Int) ≤ y21_0_1 ∧ y21_0_1 ≤ 2147483647 := rngE (show (-2147483648 : Int) ≤ F21 1 1 ∧ F21 1 1 ≤ 2147483647 from H.krg 1 1 (ltn len_V135_Row_oz_U2hcls rfl)) (show F21 1 1 = y21_0_1 from ((eF21 1 1).trans ey21_0_1))
                have r24 : (0 : Int) ≤ y21_0_2 ∧ y21_0_2 ≤ 1 := rngE (show (0 : Int) ≤ F21 1 2 ∧ F21 1 2 ≤ 1 from H.krg 1 2 (ltn len_V135_Row_oz_U2hcls rfl)) (show F21 1 2 = y21_0_2 from ((eF21 1 2).trans ey21_0_2))
                have h182 : RAP ((u1_2)) ((w2)) ((u1_1)) ((y21_0_2)) ((w21_1)) ((y21_0_1)) ((((nb 4247762216 4 ++ [64 * ffF qf ((a2)) + 32 * b4F qf + 4 * (qf % 2) + gfF qf ((a3) % 4294967296)]) ++ (if b4F qf = 1 then [] else [8 * ((w3)) 8])) ++ nb ((a3) % 4294967296) (gbF (gfF qf ((a3) % 4294967296))))) := RAP_trans h164 (RAP_c pz21_2 hnb)
                try clear pz21_1
                refine Ew_of (pcₚ := 183) (fun _ => x_aload_n rfl lc179_1) ?_
                refine Ew_of (pcₚ := 185) (fun _ => x_iload rfl lc179_6) ?_
                refine Ew_of (pcₚ := 186) (fun _ => x_iconst rfl) ?_
                have hc200 : ∀ (tc200_0 : Int), ∀ (ls : rO) (σ : rS) (F_c200 : hF) (A_c200 : hA) , rlook ls 5 = some (I (tc21_0)) → rlook ls 6 = some (I (xc61_6)) → HW V135_Row σ D21 N21 F_c200 A_c200 → OUT (V135_Row).length D N σE c s D21 N21 σ (c_c164 + c21) (s_c164 + s21) → SF [] F21 F_c200 → SA [] A21 A_c200 → (inrJ (tc200_0)) → (((xc61_6) ≠ (1) ∧ (tc200_0) = (a2)) ∨ ((xc61_6) = (1) ∧ (tc200_0) = ((a2 - 256)))) → Ew 135 (d + 3) 200 ls [J (tc200_0), .ref (D21 1)] σ (c_c164 + c21) (s_c164 + s21) Q := by
                 as_aux_lemma =>
                  intro tc200_0 ls σ F_c200 A_c200  lc200_5 lc200_6 H O hS_c200 hA_c200     jc200_0 jc200_1
                  have cF_c200 : SF oz_U2hclsl_3 F F_c200 := SF_trans (cF21) hS_c200 (any_sub (by decide +kernel))
                  have mF_c200 := SFm_of cF_c200 oz_U2hcls_10
                  have cA_c200 : SA oz_U2hclsl_4 A A_c200 := SA_trans (cA21) hA_c200 (any_subA (by decide +kernel))
                  have mA_c200 := SAm_of cA_c200 oz_U2hcls_11
                  try clear pz21_1
                  have hc222 : ∀ (tc222_0 : Int), ∀ (ls : rO) (σ : rS) (F_c222 : hF) (A_c222 : hA) , HW V135_Row σ D21 N21 F_c222 A_c222 → OUT (V135_Row).length D N σE c s D21 N21 σ (c_c164 + c21) (s_c164 + s21) → SF [] F_c200 F_c222 → SA [] A_c200 A_c222 → (inr (tc222_0)) → (0 ≤ (tc222_0) ∧ (tc222_0) ≤ 8) → (q6 = 0 ∧ (tc222_0) = q5 ∨ q6 = 1 ∧ (tc222_0) = 2 ∨ q6 = 2 ∧ (tc222_0) = 4) → Ew 135 (d + 3) 222 ls [I (tc222_0), J (tc200_0), .ref (D21 1)] σ (c_c164 + c21) (s_c164 + s21) Q := by
                   as_aux_lemma =>
                    intro tc222_0 ls σ F_c222 A_c222   H O hS_c222 hA_c222     jc222_0 jc222_1 jc222_2
                    have cF_c222 : SF oz_U2hclsl_3 F F_c222 := SF_trans (cF_c200) hS_c222 (any_sub (by decide +kernel))
                    have mF_c222 := SFm_of cF_c222 oz_U2hcls_10
                    have cA_c222 : SA oz_U2hclsl_4 A A_c222 := SA_trans (cA_c200) hA_c222 (any_subA (by decide +kernel))
                    have mA_c222 := SAm_of cA_c222 oz_U2hcls_11
                    have hv22 : q6 = 1 ∧ (tc200_0) = (a2) - 256 ∨ q6 ≠ 1 ∧ (tc200_0) = (a2) := by omega
                    have hk22 : q6 = 0 ∧ (tc222_0) = q5 ∨ q6 = 1 ∧ (tc222_0) = 2 ∨ q6 = 2 ∧ (tc222_0) = 4 := jc222_2
                    refine v_inv H (o := 1) rfl rfl rfl rfl rfl rfl (by rfl) (C160 (D := puc 1025 D21) (N := puc 1025 N21) (HW_subc H oz_U2hcls_7 oz_U2hcls_12) ((((hS_c222 1 0 rfl).trans (hS_c200 1 0 rfl))).trans (pf21_1_0)) (m21_1) ((congrArg (fun q : Nat => (q : Int)) (eN21 2)).trans em21_1) (y21_0_1) ((((hS_c222 1 1 rfl).trans (hS_c200 1 1 rfl)).trans ((eF21 1 1).trans ey21_0_1))) (y21_0_2) ((((hS_c222 1 2 rfl).trans (hS_c200 1 2 rfl)).trans ((eF21 1 2).trans ey21_0_2))) (w21_1) ((funext (hA_c222 2 rfl)).trans ((funext (hA_c200 2 rfl)).trans ((eA21 2).trans ew21_1))) (show inrJ (tc200_0) from jc200_0) (show inr (tc222_0) from jc222_0) (show 0 ≤ (y21_0_1) ∧ (y21_0_1) ≤ (m21_1) ∧ (m21_1) ≤ 65536 from pz21_0) (show 0 ≤ (tc222_0) ∧ (tc222_0) ≤ 8 from jc222_1) (fun σ25 D25ₚ N25ₚ F25ₚ A25ₚ c25 s25 Hₚ Oₚ hD25 hN25 hS25 hA25 pm25_1 m25_1 em25_1 y25_0_1 ey25_0_1 y25_0_2 ey25_0_2 w25_1 ew25_1 pz25_0 pz25_1 pz25_2 => ⟨rfl, ?_⟩))
                    refine v_backMc (c := (c_c164 + c21)) (s := (s_c164 + s21)) H oz_U2hcls_7 oz_U2hcls_12 Hₚ Oₚ hD25 oz_U2hcls_8 (fun D25 N25 F25 A25 H Oₚ eD25 eN25 eF25 eA25 => ?_)
                    have O := OUT_trans O Oₚ
                    -- Row.addNumber
                    have cF25 : SF oz_U2hclsl_3 F F25 := SF_trans (cF_c222) (SF_gluc (ι := oz_U2hclsl_5) oz_U2hcls_12 hS25 eF25 (by decide +kernel)) (any_sub (lₚ := [(1, 0), (1, 1), (1, 2)]) (by decide +kernel))
                    have mF25 := SFm_of cF25 oz_U2hcls_10
                    have cA25 : SA oz_U2hclsl_4 A A25 := SA_trans (cA_c222) (SA_gluc (ι := oz_U2hclsl_5) oz_U2hcls_12 hA25 eA25 (by decide +kernel)) (any_subA (lₚ := [2]) (by decide +kernel))
                    have mA25 := SAm_of cA25 oz_U2hcls_11
                    have cD25 : SD oz_U2hclsl_4 D D25 := SD_trans (cD21) (SD_gluc (ι := oz_U2hclsl_5) oz_U2hcls_12 hD25 eD25 (by decide +kernel)) (any_subA (lₚ := [2]) (by decide +kernel))
                    have mD25 := SDm_of cD25 oz_U2hcls_11
                    have cN25 : SD oz_U2hclsl_4 N N25 := SD_trans (cN21) (SD_gluc (ι := oz_U2hclsl_5) oz_U2hcls_12 hN25 eN25 (by decide +kernel)) (any_subA (lₚ := [2]) (by decide +kernel))
                    have mN25 := SDm_of cN25 oz_U2hcls_11
                    have pf25_1_0 : F25 1 0 = (D25 2 : Int) := (eF25 1 0).trans (pm25_1.trans (congrArg (fun q : Nat => (q : Int)) (eD25 2).symm))
                    have r26 : (0 : Int) ≤ m25_1 ∧ m25_1 ≤ 1000000 := nleE (H.nle 2 (ltn len_V135_Row_oz_U2hcls rfl)) (show (N25 2 : Int) = m25_1 from (congrArg (fun q : Nat => (q : Int)) (eN25 2)).trans em25_1)
                    have r27 : (-2147483648 : Int) ≤ y25_0_1 ∧ y25_0_1 ≤ 2147483647 := rngE (show (-2147483648 : Int) ≤ F25 1 1 ∧ F25 1 1 ≤ 2147483647 from H.krg 1 1 (ltn len_V135_Row_oz_U2hcls rfl)) (show F25 1 1 = y25_0_1 from ((eF25 1 1).trans ey25_0_1))
                    have r28 : (0 : Int) ≤ y25_0_2 ∧ y25_0_2 ≤ 1 := rngE (show (0 : Int) ≤ F25 1 2 ∧ F25 1 2 ≤ 1 from H.krg 1 2 (ltn len_V135_Row_oz_U2hcls rfl)) (show F25 1 2 = y25_0_2 from ((eF25 1 2).trans ey25_0_2))
                    have : RAP ((u1_2)) ((w2)) ((u1_1)) ((y25_0_2)) ((w25_1)) ((y25_0_1)) (hdrF (((w3)) 7) (((w3)) 8) ((a3) % 4294967296) ((a2))) := by rw [hqf7]; exact RAP_c (RAP_trans h182 pz25_2) (@hdC _ _ _ _ _ _ 0 _ _ _ h5q h6q hk22 hv22 rfl)
                    try clear pz25_1
                    exact w_ret rfl (k _ _ _ _ _ _ _ H O (cD25) (cN25) (cF25) (cA25) (pf25_1_0) (m25_1) ((congrArg (fun q : Nat => (q : Int)) (eN25 2)).trans em25_1) (y25_0_1) (((eF25 1 1).trans ey25_0_1)) (y25_0_2) (((eF25 1 2).trans ey25_0_2)) (w25_1) ((eA25 2).trans ew25_1) (show 0 ≤ (y25_0_1) ∧ (y25_0_1) ≤ (m25_1) ∧ (m25_1) ≤ 65536 from pz25_0) (show RAP ((u1_2)) ((w2)) ((u1_1)) ((y25_0_2)) ((w25_1)) ((y25_0_1)) (hdrF (((w3)) 7) (((w3)) 8) (a3 % 4294967296) (a2)) by assumption))
                  refine Ew_of (pcₚ := 202) (fun _ => x_iload rfl lc200_6) ?_
                  refine w_ifle (t := 212) rfl rfl (show inr (xc61_6) from jc61_0) (fun b29 => ?_) (fun b29 => ?_)
                  · refine Ew_of (pcₚ := 214) (fun _ => x_iload rfl lc200_5) ?_
                    refine w_ifeq (t := 221) rfl rfl (show inr (tc21_0) from jc21_0) (fun b30 => ?_) (fun b30 => ?_)
                    · refine Ew_of (pcₚ := 222) (fun _ => x_iconst rfl) ?_
                      exact hc222 (0) _ _ _ _   H O (SF_refl) (SA_refl)     (show inr (0) from q_2) (show 0 ≤ (0) ∧ (0) ≤ 8 from q_1888) (show q6 = 0 ∧ (0) = q5 ∨ q6 = 1 ∧ (0) = 2 ∨ q6 = 2 ∧ (0) = 4 from q_4821 b29 b30 h5 h5q h6 h6q jc61_1)
                    · refine Ew_of (pcₚ := 218) (fun _ => x_iconst rfl) ?_
                      refine Ew_of (pcₚ := 222) (fun _ => x_goto rfl rfl) ?_
                      exact hc222 (1) _ _ _ _   H O (SF_refl) (SA_refl)     (show inr (1) from q_135) (show 0 ≤ (1) ∧ (1) ≤ 8 from q_1889) (show q6 = 0 ∧ (1) = q5 ∨ q6 = 1 ∧ (1) = 2 ∨ q6 = 2 ∧ (1) = 4 by omega)
                  · refine Ew_of (pcₚ := 206) (fun _ => x_iconst rfl) ?_
                    refine Ew_of (pcₚ := 208) (fun _ => x_iload rfl lc200_6) ?_
                    refine w_ishl1 rfl (show 0 ≤ xc61_6 ∧ xc61_6 ≤ 31 from q_4247 jc61_1) ?_
                    have hpv : (xc61_6) = 1 ∧ p2 ((xc61_6)) = 2 ∨ (xc61_6) = 2 ∧ p2 ((xc61_6)) = 4 := by rcases (show (xc61_6) = 1 ∨ (xc61_6) = 2 by omega) with q | q <;> rw [q] <;> decide
                    refine Ew_of (pcₚ := 222) (fun _ => x_goto rfl rfl) ?_
                    exact hc222 (p2 (xc61_6)) _ _ _ _   H O (SF_refl) (SA_refl)     (show inr (p2 (xc61_6)) from q_4823 hpv) (show 0 ≤ (p2 (xc61_6)) ∧ (p2 (xc61_6)) ≤ 8 from q_4822 hpv) (show q6 = 0 ∧ (p2 (xc61_6)) = q5 ∨ q6 = 1 ∧ (p2 (xc61_6)) = 2 ∨ q6 = 2 ∧ (p2 (xc61_6)) = 4 by omega)
                refine w_icmpne (t := 198) rfl rfl (show inr (xc61_6) from jc61_0) (show inr (1) from q_135) (fun b32 => ?_) (fun b32 => ?_)
                · refine Ew_of (pcₚ := 199) (fun _ => x_iload_n rfl lc179_2) ?_
                  refine w_i2l rfl (show inr (a2) from h0) ?_
                  refine Ew_stk (congrArg (fun qz : Nat => ([J (a2), .ref qz] : List Value)) (show D21 1 = D_c164 1 from ((show D21 1 = D_c164 1 from (eD21 1).trans (hD21 0 rfl)))).symm) ?_
                  exact hc200 (a2) _ _ _ _  (lc179_5) (lc179_6) H O (SF_refl) (SA_refl)     (show inrJ (a2) from q_2579 h0) (show ((xc61_6) ≠ (1) ∧ (a2) = (a2)) ∨ ((xc61_6) = (1) ∧ (a2) = ((a2 - 256))) from q_2850 b32)
                · refine Ew_of (pcₚ := 190) (fun _ => x_iload_n rfl lc179_2) ?_
                  refine Ew_of (pcₚ := 193) (fun _ => x_sipush (z := 256) rfl (by decide)) ?_
                  refine w_isub rfl ?_
                  refine w_i2l rfl (show inr ((a2 - 256)) by omega) ?_
                  refine Ew_of (pcₚ := 200) (fun _ => x_goto rfl rfl) ?_
                  refine Ew_stk (congrArg (fun qz : Nat => ([J ((a2 - 256)), .ref qz] : List Value)) (show D21 1 = D_c164 1 from ((show D21 1 = D_c164 1 from (eD21 1).trans (hD21 0 rfl)))).symm) ?_
                  exact hc200 ((a2 - 256)) _ _ _ _  (lc179_5) (lc179_6) H O (SF_refl) (SA_refl)     (show inrJ ((a2 - 256)) from q_4824 h0) (show ((xc61_6) ≠ (1) ∧ ((a2 - 256)) = (a2)) ∨ ((xc61_6) = (1) ∧ ((a2 - 256)) = ((a2 - 256))) from q_2852 b32)
              refine Ew_of (pcₚ := 169) (fun _ => x_iload rfl lc164_7) ?_
              refine Ew_of (pcₚ := 170) (fun _ => x_iconst rfl) ?_
              refine w_icmpne (t := 177) rfl rfl (show inr (xc101_7) from jc101_0) (show inr (3) from q_246) (fun b33 => ?_) (fun b33 => ?_)
              · refine Ew_of (pcₚ := 179) (fun _ => x_iload rfl lc164_7) ?_
                have : (xc101_7) = gbF q7 := gbF_e (by omega)
                exact hc179 (xc101_7) _ _ _ _  (lc164_1) (lc164_2) (lc164_5) (lc164_6) H O (SF_refl) (SA_refl)     (show inr (xc101_7) from jc101_0) (show 0 ≤ (xc101_7) ∧ (xc101_7) ≤ 4 from q_4825 jc101_1) (show (xc101_7) = gbF q7 by assumption)
              · refine Ew_of (pcₚ := 174) (fun _ => x_iconst rfl) ?_
                refine Ew_of (pcₚ := 179) (fun _ => x_goto rfl rfl) ?_
                have : (4) = gbF q7 := gbF_e (by omega)
                exact hc179 (4) _ _ _ _  (lc164_1) (lc164_2) (lc164_5) (lc164_6) H O (SF_refl) (SA_refl)     (show inr (4) from q_216) (show 0 ≤ (4) ∧ (4) ≤ 4 from q_1183) (show (4) = gbF q7 by assumption)
            have h146 : RAP ((u1_2)) ((w2)) ((u1_1)) ((y14_0_2)) ((w14_1)) ((y14_0_1)) ((nb 4247762216 4 ++ [64 * ffF qf ((a2)) + 32 * b4F qf + 4 * (qf % 2) + gfF qf ((a3) % 4294967296)])) := RAP_trans h109 (RAP_c pz14_3 (by rw [hqh2, u8_id (by omega), ← h6, ← h5, ← h7]))
            try clear pz14_1
            refine Ew_of (pcₚ := 148) (fun _ => x_iload rfl lc139_5) ?_
            refine w_ifne (t := 164) rfl rfl (show inr (tc21_0) from jc21_0) (fun b34 => ?_) (fun b34 => ?_)
            · have : RAP ((u1_2)) ((w2)) ((u1_1)) ((y14_0_2)) ((w14_1)) ((y14_0_1)) (((nb 4247762216 4 ++ [64 * ffF qf ((a2)) + 32 * b4F qf + 4 * (qf % 2) + gfF qf ((a3) % 4294967296)]) ++ (if b4F qf = 1 then [] else [8 * ((w3)) 8]))) := by first | (rw [if_pos (show b4F qf = 1 by omega), List.append_nil]; exact h146) | (rw [if_neg (show ¬ b4F qf = 1 by omega)]; exact RAP_trans h146 (RAP_c pNONE_3 (by rw [h8x, u8_id (by omega)])))
              exact hc164  _ _ _ _ _ _ _ _  ((lc139_1).trans (congrArg (fun q : Nat => some (Value.ref q)) (((show D14 1 = D6 1 from (eD14 1).trans (hD14 0 rfl)))).symm)) (lc139_2) (lc139_3) (lc139_5) (lc139_6) (lc139_7) H O (SD_refl) (SD_refl) (SF_refl) (SA_refl) (pf14_1_0) (m14_1) ((congrArg (fun q : Nat => (q : Int)) (eN14 2)).trans em14_1) (y14_0_1) (((eF14 1 1).trans ey14_0_1)) (y14_0_2) (((eF14 1 2).trans ey14_0_2)) (w14_1) ((eA14 2).trans ew14_1) (show 0 ≤ (y14_0_1) ∧ (y14_0_1) ≤ (m14_1) ∧ (m14_1) ≤ 65536 from pz14_0) (show RAP ((u1_2)) ((w2)) ((u1_1)) ((y14_0_2)) ((w14_1)) ((y14_0_1)) (((nb 4247762216 4 ++ [64 * ffF qf ((a2)) + 32 * b4F qf + 4 * (qf % 2) + gfF qf ((a3) % 4294967296)]) ++ (if b4F qf = 1 then [] else [8 * ((w3)) 8]))) by assumption)
            · refine Ew_of (pcₚ := 152) (fun _ => x_aload_n rfl lc139_1) ?_
              refine Ew_of (pcₚ := 153) (fun _ => x_aload_n rfl lc139_0) ?_
              refine Ew_stk (show ([.ref (D6 0), .ref (D6 1)] : List Value) = [.ref (D14 0), .ref (D14 1)] by rw [show D14 0 = D6 0 from ((show D14 0 = D6 0 from (eD14 0))), show D14 1 = D6 1 from ((show D14 1 = D6 1 from (eD14 1).trans (hD14 0 rfl)))]) ?_
              refine v_g H (o := 0) (v := .ref (D14 3)) rfl rfl rfl rfl rfl (vrf ((mF14 0 0 rfl).trans ((pf3).trans (congrArg (fun q : Nat => (q : Int)) (mD14 3 rfl).symm)))) ?_
              refine Ew_of (pcₚ := 158) (fun _ => x_bipush (z := 8) rfl (by decide)) ?_
              refine v_lI H (o := 3) rfl rfl rfl rfl (n := n3) ((congrArg (fun q : Nat => (q : Int)) (mN14 3 rfl)).trans (en3)) (show 0 ≤ 8 ∧ 8 < n3 from q_4237 h3 r4) (fun v35 ev35 qv35 => ?_)
              have ev35 : (w3) (8) = v35 := (congrFun ((funext (mA14 3 rfl)).trans (ew3)) (8)).symm.trans ev35
              have hs8 := ev35
              refine Ew_of (pcₚ := 160) (fun _ => x_iconst rfl) ?_
              refine w_ishlE rfl ?_
              have g36 : inr (slI (v35) (3)) := toI_inr _
              obtain ⟨q3, hq3⟩ : ∃ q : Int, q = ((slI (v35) (3))) := ⟨_, rfl⟩
              rw [← hq3]
              have gq3 : inr q3 := by rw [hq3]; first | assumption | omega
              replace hq3 : IMP True (q3 = ((slI (v35) (3)))) := fun _ => hq3
              try clear g36
              have h8x : q3 = 8 * ((w3)) 8 := by rw [hs8]; exact (hq3 trivial).trans (sl_e3 (by omega))
              refine v_inv H (o := 1) rfl rfl rfl rfl rfl rfl (by rfl) (C159 (D := puc 1025 D14) (N := puc 1025 N14) (HW_subc H oz_U2hcls_9 oz_U2hcls_12) (pf14_1_0) (m14_1) ((congrArg (fun q : Nat => (q : Int)) (eN14 2)).trans em14_1) (y14_0_1) (((eF14 1 1).trans ey14_0_1)) (y14_0_2) (((eF14 1 2).trans ey14_0_2)) (w14_1) ((eA14 2).trans ew14_1) (show inr (q3) from gq3) (show 0 ≤ (y14_0_1) ∧ (y14_0_1) ≤ (m14_1) ∧ (m14_1) ≤ 65536 from pz14_0) (fun σ37 D37ₚ N37ₚ F37ₚ A37ₚ c37 s37 Hₚ Oₚ hD37 hN37 hS37 hA37 pm37_1 m37_1 em37_1 y37_0_1 ey37_0_1 y37_0_2 ey37_0_2 w37_1 ew37_1 pz37_0 pz37_1 pz37_2 pz37_3 => ⟨rfl, ?_⟩))
              refine v_backMc (c := ((c + c6) + c14)) (s := ((s + s6) + s14)) H oz_U2hcls_9 oz_U2hcls_12 Hₚ Oₚ hD37 oz_U2hcls_8 (fun D37 N37 F37 A37 H Oₚ eD37 eN37 eF37 eA37 => ?_)
              have O := OUT_trans O Oₚ
              -- Row.add
              have cF37 : SF oz_U2hclsl_3 F F37 := SF_trans (cF14) (SF_gluc (ι := oz_U2hclsl_5) oz_U2hcls_12 hS37 eF37 (by decide +kernel)) (any_sub (lₚ := [(1, 0), (1, 1), (1, 2)]) (by decide +kernel))
              have mF37 := SFm_of cF37 oz_U2hcls_10
              have cA37 : SA oz_U2hclsl_4 A A37 := SA_trans (cA14) (SA_gluc (ι := oz_U2hclsl_5) oz_U2hcls_12 hA37 eA37 (by decide +kernel)) (any_subA (lₚ := [2]) (by decide +kernel))
              have mA37 := SAm_of cA37 oz_U2hcls_11
              have cD37 : SD oz_U2hclsl_4 D D37 := SD_trans (cD14) (SD_gluc (ι := oz_U2hclsl_5) oz_U2hcls_12 hD37 eD37 (by decide +kernel)) (any_subA (lₚ := [2]) (by decide +kernel))
              have mD37 := SDm_of cD37 oz_U2hcls_11
              have cN37 : SD oz_U2hclsl_4 N N37 := SD_trans (cN14) (SD_gluc (ι := oz_U2hclsl_5) oz_U2hcls_12 hN37 eN37 (by decide +kernel)) (any_subA (lₚ := [2]) (by decide +kernel))
              have mN37 := SDm_of cN37 oz_U2hcls_11
              have pf37_1_0 : F37 1 0 = (D37 2 : Int) := (eF37 1 0).trans (pm37_1.trans (congrArg (fun q : Nat => (q : Int)) (eD37 2).symm))
              have r38 : (0 : Int) ≤ m37_1 ∧ m37_1 ≤ 1000000 := nleE (H.nle 2 (ltn len_V135_Row_oz_U2hcls rfl)) (show (N37 2 : Int) = m37_1 from (congrArg (fun q : Nat => (q : Int)) (eN37 2)).trans em37_1)
              have r39 : (-2147483648 : Int) ≤ y37_0_1 ∧ y37_0_1 ≤ 2147483647 := rngE (show (-2147483648 : Int) ≤ F37 1 1 ∧ F37 1 1 ≤ 2147483647 from H.krg 1 1 (ltn len_V135_Row_oz_U2hcls rfl)) (show F37 1 1 = y37_0_1 from ((eF37 1 1).trans ey37_0_1))
              have r40 : (0 : Int) ≤ y37_0_2 ∧ y37_0_2 ≤ 1 := rngE (show (0 : Int) ≤ F37 1 2 ∧ F37 1 2 ≤ 1 from H.krg 1 2 (ltn len_V135_Row_oz_U2hcls rfl)) (show F37 1 2 = y37_0_2 from ((eF37 1 2).trans ey37_0_2))
              have : RAP ((u1_2)) ((w2)) ((u1_1)) ((y37_0_2)) ((w37_1)) ((y37_0_1)) (((nb 4247762216 4 ++ [64 * ffF qf ((a2)) + 32 * b4F qf + 4 * (qf % 2) + gfF qf ((a3) % 4294967296)]) ++ (if b4F qf = 1 then [] else [8 * ((w3)) 8]))) := by first | (rw [if_pos (show b4F qf = 1 by omega), List.append_nil]; exact h146) | (rw [if_neg (show ¬ b4F qf = 1 by omega)]; exact RAP_trans h146 (RAP_c pz37_3 (by rw [h8x, u8_id (by omega)])))
              exact hc164  _ _ _ _ _ _ _ _  ((lc139_1).trans (congrArg (fun q : Nat => some (Value.ref q)) ((((show D37 1 = D14 1 from (eD37 1).trans (hD37 0 rfl))).trans ((show D14 1 = D6 1 from (eD14 1).trans (hD14 0 rfl))))).symm)) (lc139_2) (lc139_3) (lc139_5) (lc139_6) (lc139_7) H O (SD_trans (SD_refl) (SD_gluc (ι := oz_U2hclsl_5) oz_U2hcls_12 hD37 eD37 (by decide +kernel)) (any_subA (lₚ := [2]) (by decide +kernel))) (SD_trans (SD_refl) (SD_gluc (ι := oz_U2hclsl_5) oz_U2hcls_12 hN37 eN37 (by decide +kernel)) (any_subA (lₚ := [2]) (by decide +kernel))) (SF_trans (SF_refl) (SF_gluc (ι := oz_U2hclsl_5) oz_U2hcls_12 hS37 eF37 (by decide +kernel)) (any_sub (lₚ := [(1, 0), (1, 1), (1, 2)]) (by decide +kernel))) (SA_trans (SA_refl) (SA_gluc (ι := oz_U2hclsl_5) oz_U2hcls_12 hA37 eA37 (by decide +kernel)) (any_subA (lₚ := [2]) (by decide +kernel))) (pf37_1_0) (m37_1) ((congrArg (fun q : Nat => (q : Int)) (eN37 2)).trans em37_1) (y37_0_1) (((eF37 1 1).trans ey37_0_1)) (y37_0_2) (((eF37 1 2).trans ey37_0_2)) (w37_1) ((eA37 2).trans ew37_1) (show 0 ≤ (y37_0_1) ∧ (y37_0_1) ≤ (m37_1) ∧ (m37_1) ≤ 65536 from pz37_0) (show RAP ((u1_2)) ((w2)) ((u1_1)) ((y37_0_2)) ((w37_1)) ((y37_0_1)) (((nb 4247762216 4 ++ [64 * ffF qf ((a2)) + 32 * b4F qf + 4 * (qf % 2) + gfF qf ((a3) % 4294967296)]) ++ (if b4F qf = 1 then [] else [8 * ((w3)) 8]))) by assumption)
          refine Ew_of (pcₚ := 129) (fun _ => x_iload rfl lc126_4) ?_
          refine Ew_of (pcₚ := 130) (fun _ => x_iconst rfl) ?_
          refine w_iandG rfl ?_
          have g41 : inr (andI (v5) (1)) := toI_inr _
          obtain ⟨qD, hqD⟩ : ∃ q : Int, q = ((andI (v5) (1))) := ⟨_, rfl⟩
          rw [← hqD]
          have gqD : inr qD := by rw [hqD]; first | assumption | omega
          replace hqD : IMP True (qD = ((andI (v5) (1)))) := fun _ => hqD
          try clear g41
          have hD1 := fl_1 (fl := qf) (by omega) ((hqD trivial).trans (by rw [hqf]))
          refine w_ifeq (t := 138) rfl rfl (show inr (qD) from gqD) (fun b42 => ?_) (fun b42 => ?_)
          · refine Ew_of (pcₚ := 139) (fun _ => x_iconst rfl) ?_
            exact hc139 (0) _ _ _ _  (lc126_0) (lc126_1) (lc126_2) (lc126_3) (lc126_5) (lc126_6) (lc126_7) H O (SF_refl) (SA_refl)     (show inr (0) from q_2) (show (0) = 4 * (qf % 2) by omega)
          · refine Ew_of (pcₚ := 135) (fun _ => x_iconst rfl) ?_
            refine Ew_of (pcₚ := 139) (fun _ => x_goto rfl rfl) ?_
            exact hc139 (4) _ _ _ _  (lc126_0) (lc126_1) (lc126_2) (lc126_3) (lc126_5) (lc126_6) (lc126_7) H O (SF_refl) (SA_refl)     (show inr (4) from q_216) (show (4) = 4 * (qf % 2) by omega)
        refine Ew_of (pcₚ := 117) (fun _ => x_iload rfl lc101_5) ?_
        refine w_ifeq (t := 125) rfl rfl (show inr (tc21_0) from jc21_0) (fun b43 => ?_) (fun b43 => ?_)
        · refine Ew_of (pcₚ := 126) (fun _ => x_iconst rfl) ?_
          refine Ew_stk (congrArg (fun qz : Nat => ([I (0), I ((slI (xc61_6) (6))), .ref qz] : List Value)) (show D6 1 = D 1 from mD6 1 rfl).symm) ?_
          exact hc126 (0) _ _ _ _  ((lc101_0).trans (congrArg (fun q : Nat => some (Value.ref q)) (mD6 0 rfl).symm)) ((lc101_1).trans (congrArg (fun q : Nat => some (Value.ref q)) (mD6 1 rfl).symm)) (lc101_2) (lc101_3) (lc101_4) (lc101_5) (lc101_6) (lc101_7) H O (SF_refl) (SA_refl)     (show inr (0) from q_2) (show (0) = 32 * (tc21_0) from q_4826 b43)
        · refine Ew_of (pcₚ := 122) (fun _ => x_bipush (z := 32) rfl (by decide)) ?_
          refine Ew_of (pcₚ := 126) (fun _ => x_goto rfl rfl) ?_
          refine Ew_stk (congrArg (fun qz : Nat => ([I (32), I ((slI (xc61_6) (6))), .ref qz] : List Value)) (show D6 1 = D 1 from mD6 1 rfl).symm) ?_
          exact hc126 (32) _ _ _ _  ((lc101_0).trans (congrArg (fun q : Nat => some (Value.ref q)) (mD6 0 rfl).symm)) ((lc101_1).trans (congrArg (fun q : Nat => some (Value.ref q)) (mD6 1 rfl).symm)) (lc101_2) (lc101_3) (lc101_4) (lc101_5) (lc101_6) (lc101_7) H O (SF_refl) (SA_refl)     (show inr (32) from q_655) (show (32) = 32 * (tc21_0) by omega)
      refine Ew_of (pcₚ := 66) (fun _ => x_iload rfl (rk_o (lc61_4) rfl rfl)) ?_
      refine Ew_of (pcₚ := 68) (fun _ => x_bipush (z := 8) rfl (by decide)) ?_
      refine w_iandG rfl ?_
      have g44 : inr (andI (v5) (8)) := toI_inr _
      obtain ⟨qC, hqC⟩ : ∃ q : Int, q = ((andI (v5) (8))) := ⟨_, rfl⟩
      rw [← hqC]
      have gqC : inr qC := by rw [hqC]; first | assumption | omega
      replace hqC : IMP True (qC = ((andI (v5) (8)))) := fun _ => hqC
      try clear g44
      have hC8 := fl_8 (fl := qf) (by omega) ((hqC trivial).trans (by rw [hqf]))
      refine w_ifeq (t := 101) rfl rfl (show inr (qC) from gqC) (fun b45 => ?_) (fun b45 => ?_)
      · have : (0) = gfF qf ((a3) % 4294967296) := gfF_e (by omega)
        exact hc101  _ _ _ _ (0) (rk_o (lc61_0) rfl rfl) (rk_o (lc61_1) rfl rfl) (rk_o (lc61_2) rfl rfl) (rk_o (lc61_3) rfl rfl) (rk_o (lc61_4) rfl rfl) (rk_o (lc61_5) rfl rfl) (rk_o (lc61_6) rfl rfl) (rk_s) H O (SF_refl) (SA_refl)     (show inr (0) from q_2) (show 0 ≤ (0) ∧ (0) ≤ 3 from q_548) (show (0) = gfF qf ((a3) % 4294967296) by assumption)
      · refine Ew_of (pcₚ := 73) (fun _ => x_iload_n rfl (rk_o (lc61_3) rfl rfl)) ?_
        refine w_ifeq (t := 101) rfl rfl (show inr (a3) from h1) (fun b46 => ?_) (fun b46 => ?_)
        · have : (0) = gfF qf ((a3) % 4294967296) := gfF_e (by omega)
          exact hc101  _ _ _ _ (0) (rk_o (lc61_0) rfl rfl) (rk_o (lc61_1) rfl rfl) (rk_o (lc61_2) rfl rfl) (rk_o (lc61_3) rfl rfl) (rk_o (lc61_4) rfl rfl) (rk_o (lc61_5) rfl rfl) (rk_o (lc61_6) rfl rfl) (rk_s) H O (SF_refl) (SA_refl)     (show inr (0) from q_2) (show 0 ≤ (0) ∧ (0) ≤ 3 from q_548) (show (0) = gfF qf ((a3) % 4294967296) by assumption)
        · refine Ew_of (pcₚ := 77) (fun _ => x_iload_n rfl (rk_o (lc61_3) rfl rfl)) ?_
          refine Ew_of (pcₚ := 79) (fun _ => x_bipush (z := 8) rfl (by decide)) ?_
          refine w_iushrE rfl ?_
          have g47 : inr (usI (a3) (8)) := toI_inr _
          obtain ⟨qU, hqU⟩ : ∃ q : Int, q = ((usI (a3) (8))) := ⟨_, rfl⟩
          rw [← hqU]
          have gqU : inr qU := by rw [hqU]; first | assumption | omega
          replace hqU : IMP True (qU = ((usI (a3) (8)))) := fun _ => hqU
          try clear g47
          have hU8 := us_8 (hqU trivial)
          refine w_ifne (t := 87) rfl rfl (show inr (qU) from gqU) (fun b48 => ?_) (fun b48 => ?_)
          · refine Ew_of (pcₚ := 88) (fun _ => x_iload_n rfl (rk_o (lc61_3) rfl rfl)) ?_
            refine Ew_of (pcₚ := 90) (fun _ => x_bipush (z := 16) rfl (by decide)) ?_
            refine w_iushrE rfl ?_
            have g49 : inr (usI (a3) (16)) := toI_inr _
            obtain ⟨qV, hqV⟩ : ∃ q : Int, q = ((usI (a3) (16))) := ⟨_, rfl⟩
            rw [← hqV]
            have gqV : inr qV := by rw [hqV]; first | assumption | omega
            replace hqV : IMP True (qV = ((usI (a3) (16)))) := fun _ => hqV
            try clear g49
            have hV16 := us_16 (hqV trivial)
            refine w_ifne (t := 98) rfl rfl (show inr (qV) from gqV) (fun b50 => ?_) (fun b50 => ?_)
            · refine Ew_of (pcₚ := 99) (fun _ => x_iconst rfl) ?_
              refine Ew_of (pcₚ := 101) (fun _ => x_istore rfl) ?_
              have : (3) = gfF qf ((a3) % 4294967296) := gfF_e (by omega)
              exact hc101  _ _ _ _ (3) (rk_o (rk_o (lc61_0) rfl rfl) rfl rfl) (rk_o (rk_o (lc61_1) rfl rfl) rfl rfl) (rk_o (rk_o (lc61_2) rfl rfl) rfl rfl) (rk_o (rk_o (lc61_3) rfl rfl) rfl rfl) (rk_o (rk_o (lc61_4) rfl rfl) rfl rfl) (rk_o (rk_o (lc61_5) rfl rfl) rfl rfl) (rk_o (rk_o (lc61_6) rfl rfl) rfl rfl) (rk_s) H O (SF_refl) (SA_refl)     (show inr (3) from q_246) (show 0 ≤ (3) ∧ (3) ≤ 3 from q_546) (show (3) = gfF qf ((a3) % 4294967296) by assumption)
            · refine Ew_of (pcₚ := 95) (fun _ => x_iconst rfl) ?_
              refine Ew_of (pcₚ := 99) (fun _ => x_goto rfl rfl) ?_
              refine Ew_of (pcₚ := 101) (fun _ => x_istore rfl) ?_
              have : (2) = gfF qf ((a3) % 4294967296) := gfF_e (by omega)
              exact hc101  _ _ _ _ (2) (rk_o (rk_o (lc61_0) rfl rfl) rfl rfl) (rk_o (rk_o (lc61_1) rfl rfl) rfl rfl) (rk_o (rk_o (lc61_2) rfl rfl) rfl rfl) (rk_o (rk_o (lc61_3) rfl rfl) rfl rfl) (rk_o (rk_o (lc61_4) rfl rfl) rfl rfl) (rk_o (rk_o (lc61_5) rfl rfl) rfl rfl) (rk_o (rk_o (lc61_6) rfl rfl) rfl rfl) (rk_s) H O (SF_refl) (SA_refl)     (show inr (2) from q_122) (show 0 ≤ (2) ∧ (2) ≤ 3 from q_528) (show (2) = gfF qf ((a3) % 4294967296) by assumption)
          · refine Ew_of (pcₚ := 84) (fun _ => x_iconst rfl) ?_
            refine Ew_of (pcₚ := 99) (fun _ => x_goto rfl rfl) ?_
            refine Ew_of (pcₚ := 101) (fun _ => x_istore rfl) ?_
            have : (1) = gfF qf ((a3) % 4294967296) := gfF_e (by omega)
            exact hc101  _ _ _ _ (1) (rk_o (rk_o (lc61_0) rfl rfl) rfl rfl) (rk_o (rk_o (lc61_1) rfl rfl) rfl rfl) (rk_o (rk_o (lc61_2) rfl rfl) rfl rfl) (rk_o (rk_o (lc61_3) rfl rfl) rfl rfl) (rk_o (rk_o (lc61_4) rfl rfl) rfl rfl) (rk_o (rk_o (lc61_5) rfl rfl) rfl rfl) (rk_o (rk_o (lc61_6) rfl rfl) rfl rfl) (rk_s) H O (SF_refl) (SA_refl)     (show inr (1) from q_135) (show 0 ≤ (1) ∧ (1) ≤ 3 from q_547) (show (1) = gfF qf ((a3) % 4294967296) by assumption)
    refine Ew_of (pcₚ := 28) (fun _ => x_iload rfl (rk_o (rk_s) rfl rfl)) ?_
    refine w_ifne (t := 38) rfl rfl (show inr (tc21_0) from jc21_0) (fun b51 => ?_) (fun b51 => ?_)
    · refine Ew_of (pcₚ := 39) (fun _ => x_iload_n rfl (rk_o (rk_o (lc21_2) rfl rfl) rfl rfl)) ?_
      refine Ew_of (pcₚ := 42) (fun _ => x_sipush (z := 256) rfl (by decide)) ?_
      refine w_icmplt (t := 49) rfl rfl (show inr (a2) from h0) (show inr (256) from q_3) (fun b52 => ?_) (fun b52 => ?_)
      · refine Ew_of (pcₚ := 51) (fun _ => x_iload rfl (rk_o (rk_s) rfl rfl)) ?_
        refine w_ifeq (t := 58) rfl rfl (show inr (tc21_0) from jc21_0) (fun b53 => ?_) (fun b53 => ?_)
        · refine Ew_of (pcₚ := 59) (fun _ => x_iconst rfl) ?_
          refine Ew_of (pcₚ := 61) (fun _ => x_istore rfl) ?_
          have : (2) = ffF qf ((a2)) := ffF_e (by have := tlF_c (fl := qf); omega)
          exact hc61  _ _ _ _ (2) (rk_o (rk_o (rk_o (lc21_0) rfl rfl) rfl rfl) rfl rfl) (rk_o (rk_o (rk_o (lc21_1) rfl rfl) rfl rfl) rfl rfl) (rk_o (rk_o (rk_o (lc21_2) rfl rfl) rfl rfl) rfl rfl) (rk_o (rk_o (rk_o (lc21_3) rfl rfl) rfl rfl) rfl rfl) (rk_o (rk_o (rk_o (lc21_4) rfl rfl) rfl rfl) rfl rfl) (rk_o (rk_o (rk_s) rfl rfl) rfl rfl) (rk_s) H O (SF_refl) (SA_refl)     (show inr (2) from q_122) (show 0 ≤ (2) ∧ (2) ≤ 2 from q_440) (show (2) = ffF qf ((a2)) by assumption)
        · refine Ew_of (pcₚ := 55) (fun _ => x_iconst rfl) ?_
          refine Ew_of (pcₚ := 59) (fun _ => x_goto rfl rfl) ?_
          refine Ew_of (pcₚ := 61) (fun _ => x_istore rfl) ?_
          have : (0) = ffF qf ((a2)) := ffF_e (by have := tlF_c (fl := qf); omega)
          exact hc61  _ _ _ _ (0) (rk_o (rk_o (rk_o (lc21_0) rfl rfl) rfl rfl) rfl rfl) (rk_o (rk_o (rk_o (lc21_1) rfl rfl) rfl rfl) rfl rfl) (rk_o (rk_o (rk_o (lc21_2) rfl rfl) rfl rfl) rfl rfl) (rk_o (rk_o (rk_o (lc21_3) rfl rfl) rfl rfl) rfl rfl) (rk_o (rk_o (rk_o (lc21_4) rfl rfl) rfl rfl) rfl rfl) (rk_o (rk_o (rk_s) rfl rfl) rfl rfl) (rk_s) H O (SF_refl) (SA_refl)     (show inr (0) from q_2) (show 0 ≤ (0) ∧ (0) ≤ 2 from q_2611) (show (0) = ffF qf ((a2)) by assumption)
      · refine Ew_of (pcₚ := 46) (fun _ => x_iconst rfl) ?_
        refine Ew_of (pcₚ := 59) (fun _ => x_goto rfl rfl) ?_
        refine Ew_of (pcₚ := 61) (fun _ => x_istore rfl) ?_
        have : (1) = ffF qf ((a2)) := ffF_e (by have := tlF_c (fl := qf); omega)
        exact hc61  _ _ _ _ (1) (rk_o (rk_o (rk_o (lc21_0) rfl rfl) rfl rfl) rfl rfl) (rk_o (rk_o (rk_o (lc21_1) rfl rfl) rfl rfl) rfl rfl) (rk_o (rk_o (rk_o (lc21_2) rfl rfl) rfl rfl) rfl rfl) (rk_o (rk_o (rk_o (lc21_3) rfl rfl) rfl rfl) rfl rfl) (rk_o (rk_o (rk_o (lc21_4) rfl rfl) rfl rfl) rfl rfl) (rk_o (rk_o (rk_s) rfl rfl) rfl rfl) (rk_s) H O (SF_refl) (SA_refl)     (show inr (1) from q_135) (show 0 ≤ (1) ∧ (1) ≤ 2 from q_2612) (show (1) = ffF qf ((a2)) by assumption)
    · refine Ew_of (pcₚ := 33) (fun _ => x_iload rfl (rk_o (rk_o (lc21_4) rfl rfl) rfl rfl)) ?_
      refine Ew_of (pcₚ := 34) (fun _ => x_iconst rfl) ?_
      refine w_iandG rfl ?_
      have g54 : inr (andI (v5) (2)) := toI_inr _
      obtain ⟨qB, hqB⟩ : ∃ q : Int, q = ((andI (v5) (2))) := ⟨_, rfl⟩
      rw [← hqB]
      have gqB : inr qB := by rw [hqB]; first | assumption | omega
      replace hqB : IMP True (qB = ((andI (v5) (2)))) := fun _ => hqB
      try clear g54
      have hB2 := fl_2 (fl := qf) (by omega) ((hqB trivial).trans (by rw [hqf]))
      refine w_ifeq (t := 61) rfl rfl (show inr (qB) from gqB) (fun b55 => ?_) (fun b55 => ?_)
      · have : (0) = ffF qf ((a2)) := ffF_e (by have := tlF_c (fl := qf); omega)
        exact hc61  _ _ _ _ (0) (rk_o (rk_o (lc21_0) rfl rfl) rfl rfl) (rk_o (rk_o (lc21_1) rfl rfl) rfl rfl) (rk_o (rk_o (lc21_2) rfl rfl) rfl rfl) (rk_o (rk_o (lc21_3) rfl rfl) rfl rfl) (rk_o (rk_o (lc21_4) rfl rfl) rfl rfl) (rk_o (rk_s) rfl rfl) (rk_s) H O (SF_refl) (SA_refl)     (show inr (0) from q_2) (show 0 ≤ (0) ∧ (0) ≤ 2 from q_2611) (show (0) = ffF qf ((a2)) by assumption)
      · refine Ew_of (pcₚ := 39) (fun _ => x_iload_n rfl (rk_o (rk_o (lc21_2) rfl rfl) rfl rfl)) ?_
        refine Ew_of (pcₚ := 42) (fun _ => x_sipush (z := 256) rfl (by decide)) ?_
        refine w_icmplt (t := 49) rfl rfl (show inr (a2) from h0) (show inr (256) from q_3) (fun b56 => ?_) (fun b56 => ?_)
        · refine Ew_of (pcₚ := 51) (fun _ => x_iload rfl (rk_o (rk_s) rfl rfl)) ?_
          refine w_ifeq (t := 58) rfl rfl (show inr (tc21_0) from jc21_0) (fun b57 => ?_) (fun b57 => ?_)
          · refine Ew_of (pcₚ := 59) (fun _ => x_iconst rfl) ?_
            refine Ew_of (pcₚ := 61) (fun _ => x_istore rfl) ?_
            have : (2) = ffF qf ((a2)) := ffF_e (by have := tlF_c (fl := qf); omega)
            exact hc61  _ _ _ _ (2) (rk_o (rk_o (rk_o (lc21_0) rfl rfl) rfl rfl) rfl rfl) (rk_o (rk_o (rk_o (lc21_1) rfl rfl) rfl rfl) rfl rfl) (rk_o (rk_o (rk_o (lc21_2) rfl rfl) rfl rfl) rfl rfl) (rk_o (rk_o (rk_o (lc21_3) rfl rfl) rfl rfl) rfl rfl) (rk_o (rk_o (rk_o (lc21_4) rfl rfl) rfl rfl) rfl rfl) (rk_o (rk_o (rk_s) rfl rfl) rfl rfl) (rk_s) H O (SF_refl) (SA_refl)     (show inr (2) from q_122) (show 0 ≤ (2) ∧ (2) ≤ 2 from q_440) (show (2) = ffF qf ((a2)) by assumption)
          · refine Ew_of (pcₚ := 55) (fun _ => x_iconst rfl) ?_
            refine Ew_of (pcₚ := 59) (fun _ => x_goto rfl rfl) ?_
            refine Ew_of (pcₚ := 61) (fun _ => x_istore rfl) ?_
            have : (0) = ffF qf ((a2)) := ffF_e (by have := tlF_c (fl := qf); omega)
            exact hc61  _ _ _ _ (0) (rk_o (rk_o (rk_o (lc21_0) rfl rfl) rfl rfl) rfl rfl) (rk_o (rk_o (rk_o (lc21_1) rfl rfl) rfl rfl) rfl rfl) (rk_o (rk_o (rk_o (lc21_2) rfl rfl) rfl rfl) rfl rfl) (rk_o (rk_o (rk_o (lc21_3) rfl rfl) rfl rfl) rfl rfl) (rk_o (rk_o (rk_o (lc21_4) rfl rfl) rfl rfl) rfl rfl) (rk_o (rk_o (rk_s) rfl rfl) rfl rfl) (rk_s) H O (SF_refl) (SA_refl)     (show inr (0) from q_2) (show 0 ≤ (0) ∧ (0) ≤ 2 from q_2611) (show (0) = ffF qf ((a2)) by assumption)
        · refine Ew_of (pcₚ := 46) (fun _ => x_iconst rfl) ?_
          refine Ew_of (pcₚ := 59) (fun _ => x_goto rfl rfl) ?_
          refine Ew_of (pcₚ := 61) (fun _ => x_istore rfl) ?_
          have : (1) = ffF qf ((a2)) := ffF_e (by have := tlF_c (fl := qf); omega)
          exact hc61  _ _ _ _ (1) (rk_o (rk_o (rk_o (lc21_0) rfl rfl) rfl rfl) rfl rfl) (rk_o (rk_o (rk_o (lc21_1) rfl rfl) rfl rfl) rfl rfl) (rk_o (rk_o (rk_o (lc21_2) rfl rfl) rfl rfl) rfl rfl) (rk_o (rk_o (rk_o (lc21_3) rfl rfl) rfl rfl) rfl rfl) (rk_o (rk_o (rk_o (lc21_4) rfl rfl) rfl rfl) rfl rfl) (rk_o (rk_o (rk_s) rfl rfl) rfl rfl) (rk_s) H O (SF_refl) (SA_refl)     (show inr (1) from q_135) (show 0 ≤ (1) ∧ (1) ≤ 2 from q_2612) (show (1) = ffF qf ((a2)) by assumption)
  refine Ew_of (pcₚ := 11) (fun _ => x_iload rfl rk_s) ?_
  refine Ew_of (pcₚ := 12) (fun _ => x_iconst rfl) ?_
  refine w_iandG rfl ?_
  have g58 : inr (andI (v5) (4)) := toI_inr _
  obtain ⟨qA, hqA⟩ : ∃ q : Int, q = ((andI (v5) (4))) := ⟨_, rfl⟩
  rw [← hqA]
  have gqA : inr qA := by rw [hqA]; first | assumption | omega
  replace hqA : IMP True (qA = ((andI (v5) (4)))) := fun _ => hqA
  try clear g58
  have hA4 := fl_4 (fl := qf) (by omega) ((hqA trivial).trans (by rw [hqf]))
  refine w_ifeq (t := 20) rfl rfl (show inr (qA) from gqA) (fun b59 => ?_) (fun b59 => ?_)
  · refine Ew_of (pcₚ := 21) (fun _ => x_iconst rfl) ?_
    have : (0) = b4F qf := by omega
    exact hc21 (0) _ _ _ _  (rk_o (rfl) rfl rfl) (rk_o (rfl) rfl rfl) (rk_o (rfl) rfl rfl) (rk_o (rfl) rfl rfl) (rk_s) H O (SF_refl) (SA_refl)     (show inr (0) from q_2) (show (0) = b4F qf by assumption) (show 0 ≤ (0) ∧ (0) ≤ 1 from q_32)
  · refine Ew_of (pcₚ := 17) (fun _ => x_iconst rfl) ?_
    refine Ew_of (pcₚ := 21) (fun _ => x_goto rfl rfl) ?_
    have : (1) = b4F qf := by omega
    exact hc21 (1) _ _ _ _  (rk_o (rfl) rfl rfl) (rk_o (rfl) rfl rfl) (rk_o (rfl) rfl rfl) (rk_o (rfl) rfl rfl) (rk_s) H O (SF_refl) (SA_refl)     (show inr (1) from q_135) (show (1) = b4F qf by assumption) (show 0 ≤ (1) ∧ (1) ≤ 1 from q_35)


end
section
/-! R5.cls -/
abbrev V34 : vV := [(0, 0, [(4, 0), (4, 0), (4, 0), (4, 0), (4, 0), (4, 0), (4, 0), (4, 0), (4, 0), (4, 0), (4, 0), (4, 0), (4, 0), (4, 0), (4, 0), (4, 0), (4, 0), (0, 0), (0, 0)]), (1, 1, [])]
abbrev V21 : vV := [(0, 0, [(4, 0), (4, 0), (4, 0), (4, 0), (4, 0), (4, 0), (4, 0), (4, 0), (4, 0), (4, 0), (4, 0), (4, 0), (4, 0), (4, 0), (4, 0), (4, 0), (4, 0), (0, 0), (0, 0)]), (1, 1, [])]
abbrev V9 : vV := [(0, 0, [(4, 0), (4, 0), (4, 0), (4, 0), (4, 0), (4, 0), (4, 0), (4, 0), (4, 0), (4, 0), (4, 0), (4, 0), (4, 0), (4, 0), (4, 0), (4, 0), (4, 0), (0, 0), (0, 0)]), (1, 1, [])]
abbrev V16 : vV := [(0, 0, [(4, 0), (4, 0), (4, 0), (4, 0), (4, 0), (4, 0), (4, 0), (4, 0), (4, 0), (4, 0), (4, 0), (4, 0), (4, 0), (4, 0), (4, 0), (4, 0), (4, 0), (0, 0), (0, 0)]), (0, 4, [(4, 0), (4, 0), (0, 0), (4, 0), (4, 0)]), (0, 9, [(4, 0), (4, 0), (4, 0)]), (1, 5, []), (1, 2, []), (0, 7, [(4, 0), (0, 0), (1, 0), (0, 0), (0, 0)]), (0, 7, [(4, 0), (0, 0), (1, 0), (0, 0), (0, 0)])]

end
