abbrev V180 : vV := [(0, 8, [(0, 0), (0, 0), (4, 0), (4, 0), (4, 0), (4, 0), (4, 0), (4, 0), (4, 0), (4, 0), (4, 0), (0, 0), (0, 0)]), (1, 1, [])]
theorem len_V180_oz_E4cls : (V180).length = 2 := by decide +kernel
def oz_E4clsl_0 : List (Nat × Nat) := []
theorem oz_E4cls_1 : (oz_E4clsl_0).all (fun p => !tbz 0 (Nat.add (Nat.mul 32 p.1) p.2)) = true := by decide +kernel
def oz_E4clsl_1 : List Nat := [1]
theorem oz_E4cls_2 : (oz_E4clsl_1).all (fun p => !tbz 2 p) = true := by decide +kernel

theorem C180 {σE : rS} {D N : Nat → Nat} {F : hF} {A : hA} {d c s : Nat} {Q : wQ} (H : HW V180 σE D N F A) {a1 : Int} (pf1 : F 0 2 = (D 1 : Int)) (n1 : Int) (en1 : (N 1 : Int) = n1) (u0_0 : Int) (eu0_0 : F 0 0 = u0_0) (u0_1 : Int) (eu0_1 : F 0 1 = u0_1) (w1 : Int → Int) (ew1 : A 1 = w1) (co : Int → Int) (tt : Int) (lz : Int) (h0 : inr (a1)) (h1 : (n1) = ((u0_1)) ∧ 1 ≤ ((u0_1)) ∧ ((u0_1)) ≤ 64) (h2 : DVI co ((w1)) ((u0_1))) (h3 : su (fun i => pos1 (co i)) (((u0_1)) : Int).toNat ≤ p2 ((u0_0)) ∧ p2 ((u0_0)) ≤ 512 ∧ mp ((w1)) ((u0_1)) ≤ 40000) (h4 : (a1) ≤ 0 ∨ p2 ((u0_0)) + (a1) ≤ mp ((w1)) ((u0_1))) (h5 : DVT co (tt) (p2 ((u0_0))) ((u0_1)) ((w1)) (lz)) (h6 : lz = -(a1) ∨ (a1) ≤ 0 ∧ lz = 0) (k : ∀ (σ : rS) (Fₚ : hF) (Aₚ : hA), HW V180 σ D N Fₚ Aₚ → OUT (V180).length D N σE c s D N σ c s → SF [] F Fₚ → SA [1] A Aₚ → ∀ v1 : Int → Int, Aₚ 1 = v1 → (DVI co ((v1)) ((u0_1))) → ((a1) ≤ 0 ∧ mp ((v1)) ((u0_1)) = mp ((w1)) ((u0_1)) ∨ 0 ≤ (a1) ∧ mp ((v1)) ((u0_1)) = mp ((w1)) ((u0_1)) - (a1)) → (DVF (cutP ((u0_1)) co) tt (p2 ((u0_0))) (cutP ((u0_1)) ((v1)))) → Q none σ c s) : Ew 180 (d + 0) 0 (rargs 0 [.ref (D 0), I a1]) [] σE c s Q := by
  have O := OUT_refl (n := (V180).length) (D := D) (N := N) (σ := σE) (c := c) (s := s)
  have HE := H
  have r1 : (-2147483648 : Int) ≤ u0_0 ∧ u0_0 ≤ 2147483647 := rngE (show (-2147483648 : Int) ≤ F 0 0 ∧ F 0 0 ≤ 2147483647 from H.krg 0 0 (ltn len_V180_oz_E4cls rfl)) (show F 0 0 = u0_0 from (eu0_0))
  have r2 : (-2147483648 : Int) ≤ u0_1 ∧ u0_1 ≤ 2147483647 := rngE (show (-2147483648 : Int) ≤ F 0 1 ∧ F 0 1 ≤ 2147483647 from H.krg 0 1 (ltn len_V180_oz_E4cls rfl)) (show F 0 1 = u0_1 from (eu0_1))
  have r3 : (0 : Int) ≤ n1 ∧ n1 ≤ 1000000 := nleE (H.nle 1 (ltn len_V180_oz_E4cls rfl)) (show (N 1 : Int) = n1 from en1)
  refine Ew_of (pcₚ := 1) (fun _ => x_iconst rfl) ?_
  refine Ew_of (pcₚ := 2) (fun _ => x_istore_n rfl) ?_
  have : DVT co (tt) (p2 ((u0_0))) ((u0_1)) ((w1)) (lz + 0) := by rw [Int.add_zero]; assumption
  suffices hl2 : ∀ (m : Nat), ∀ (ls : rO) (σ : rS) (F_2 : hF) (A_2 : hA) (x2_2 : Int), rlook ls 0 = some (.ref (D 0)) → rlook ls 1 = some (I (a1)) → rlook ls 2 = some (I (x2_2)) → HW V180 σ D N F_2 A_2 → OUT (V180).length D N σE c s D N σ c s → SF [] F F_2 → SA [1] A A_2 → ∀ w2_1 : Int → Int, A_2 1 = w2_1 → (inr (x2_2)) → ((0) ≤ (x2_2)) → ((x2_2) ≤ (0) ∨ (x2_2) ≤ ((a1))) → (DVT co (tt) (p2 ((u0_0))) ((u0_1)) ((w2_1)) (lz + (x2_2))) → (DVI co ((w2_1)) ((u0_1))) → (mp ((w2_1)) ((u0_1)) = mp ((w1)) ((u0_1)) - (x2_2)) → (((a1)) - (x2_2)).toNat = m → Ew 180 (d + 0) 2 ls [] σ c s Q from
    hl2 _ _ _ _ _ (0) (rk_o (rfl) rfl rfl) (rk_o (rfl) rfl rfl) (rk_s) H O (SF_refl) (SA_refl)    (w1) (ew1) (show inr (0) from q_2) (show (0) ≤ (0) from q_1) (show (0) ≤ (0) ∨ (0) ≤ ((a1)) from q_5) (show DVT co (tt) (p2 ((u0_0))) ((u0_1)) ((w1)) (lz + (0)) by assumption) (h2) (show mp ((w1)) ((u0_1)) = mp ((w1)) ((u0_1)) - (0) from q_1380) rfl
  as_aux_lemma =>
  intro m
  induction m using Nat.strongRecOn with
  | _ m ih2 =>
    intro ls σ F_2 A_2 x2_2 l2_0 l2_1 l2_2 H O hS_2 hA_2    w2_1 ew2_1 j2_0 j2_1 j2_2 j2_3 j2_4 j2_5 hm2
    have cF_2 : SF oz_E4clsl_0 F F_2 := SF_trans (SF_refl) hS_2 (any_sub (by decide +kernel))
    have mF_2 := SFm_of cF_2 oz_E4cls_1
    have cA_2 : SA oz_E4clsl_1 A A_2 := SA_trans (SA_refl) hA_2 (any_subA (by decide +kernel))
    have mA_2 := SAm_of cA_2 oz_E4cls_2
    have hdv : DVI co ((w2_1)) ((u0_1)) := j2_4
    have j2_d : DVT co (tt) (p2 ((u0_0))) ((u0_1)) ((w2_1)) (lz + (x2_2)) := j2_3
    refine Ew_of (pcₚ := 3) (fun _ => x_iload_n rfl l2_2) ?_
    refine Ew_of (pcₚ := 4) (fun _ => x_iload_n rfl l2_1) ?_
    refine w_icmpge (t := 62) rfl rfl (show inr (x2_2) from j2_0) (show inr (a1) from h0) (fun b4 => ?_) (fun b4 => ?_)
    · have : DVF (cutP ((u0_1)) co) tt (p2 ((u0_0))) (cutP ((u0_1)) ((w2_1))) := DVT_F j2_d (by omega)
      exact w_ret rfl (k _ _ _ H O (cF_2) (cA_2) (w2_1) (ew2_1) (hdv) (show a1 ≤ 0 ∧ mp ((w2_1)) ((u0_1)) = mp ((w1)) ((u0_1)) ∨ 0 ≤ a1 ∧ mp ((w2_1)) ((u0_1)) = mp ((w1)) ((u0_1)) - a1 by omega) (show DVF (cutP ((u0_1)) co) tt (p2 ((u0_0))) (cutP ((u0_1)) ((w2_1))) by assumption))
    · refine Ew_of (pcₚ := 8) (fun _ => x_iconst rfl) ?_
      refine Ew_of (pcₚ := 9) (fun _ => x_istore_n rfl) ?_
      refine Ew_of (pcₚ := 10) (fun _ => x_iconst rfl) ?_
      refine Ew_of (pcₚ := 12) (fun _ => x_istore rfl) ?_
      have hmq0 : MSQ ((u0_1)) ((w2_1)) 0 1 := MSQ_1 (by omega)
      have hx0 : MXI ((w2_1)) 0 1 := MXI_1
      suffices hl12 : ∀ (m : Nat), ∀ (ls : rO) (σ : rS) (F_12 : hF) (A_12 : hA) (x12_3 : Int) (x12_4 : Int), rlook ls 0 = some (.ref (D 0)) → rlook ls 1 = some (I (a1)) → rlook ls 2 = some (I (x2_2)) → rlook ls 3 = some (I (x12_3)) → rlook ls 4 = some (I (x12_4)) → HW V180 σ D N F_12 A_12 → OUT (V180).length D N σE c s D N σ c s → SF [] F_2 F_12 → SA [] A_2 A_12 → (inr (x12_3)) → (inr (x12_4)) → ((1) ≤ (x12_4)) → ((x12_4) ≤ (1) ∨ (x12_4) ≤ ((u0_1))) → (0 ≤ (x12_3) ∧ (x12_3) < ((u0_1))) → (MXI ((w2_1)) (x12_3) (x12_4)) → (MSQ ((u0_1)) ((w2_1)) ((x12_3)) ((x12_4))) → (((u0_1)) - (x12_4)).toNat = m → Ew 180 (d + 0) 12 ls [] σ c s Q from
        hl12 _ _ _ _ _ (0) (1) (rk_o (rk_o (l2_0) rfl rfl) rfl rfl) (rk_o (rk_o (l2_1) rfl rfl) rfl rfl) (rk_o (rk_o (l2_2) rfl rfl) rfl rfl) (rk_o (rk_s) rfl rfl) (rk_s) H O (SF_refl) (SA_refl)     (show inr (0) from q_2) (show inr (1) from q_135) (show (1) ≤ (1) from q_1387) (show (1) ≤ (1) ∨ (1) ≤ ((u0_1)) from q_3532) (show 0 ≤ (0) ∧ (0) < ((u0_1)) from q_3531 h1) (hx0) (hmq0) rfl
      as_aux_lemma =>
      intro m
      induction m using Nat.strongRecOn with
      | _ m ih12 =>
        intro ls σ F_12 A_12 x12_3 x12_4 l12_0 l12_1 l12_2 l12_3 l12_4 H O hS_12 hA_12     j12_0 j12_1 j12_2 j12_3 j12_4 j12_5 j12_6 hm12
        have cF_12 : SF oz_E4clsl_0 F F_12 := SF_trans (cF_2) hS_12 (any_sub (by decide +kernel))
        have mF_12 := SFm_of cF_12 oz_E4cls_1
        have cA_12 : SA oz_E4clsl_1 A A_12 := SA_trans (cA_2) hA_12 (any_subA (by decide +kernel))
        have mA_12 := SAm_of cA_12 oz_E4cls_2
        have j12_m : MSQ ((u0_1)) ((w2_1)) ((x12_3)) ((x12_4)) := j12_6
        refine Ew_of (pcₚ := 14) (fun _ => x_iload rfl l12_4) ?_
        refine Ew_of (pcₚ := 15) (fun _ => x_aload_n rfl l12_0) ?_
        refine v_g H (o := 0) (v := I (u0_1)) rfl rfl rfl rfl rfl (congrArg (fun z : Int => I z) (((mF_12 0 1 rfl).trans (eu0_1)) : F_12 0 1 = u0_1)) ?_
        refine w_icmpge (t := 46) rfl rfl (show inr (x12_4) from j12_1) (show inr (u0_1) from q_3533 h1) (fun b5 => ?_) (fun b5 => ?_)
        · have hmsq : MSQ ((u0_1)) ((w2_1)) ((x12_3)) ((u0_1)) := by have h := j12_m; rw [show (x12_4) = ((u0_1)) by omega] at h; exact h
          have hl4 : (x12_4) = ((u0_1)) := q_3534 b5 h1 j12_3
          have hmx : MXI ((w2_1)) (x12_3) ((u0_1)) := by rw [← hl4]; assumption
          have h2 := MXI_two hmx (two_exN hdv (p := p2 ((u0_0))) (by omega) (by omega))
          refine Ew_of (pcₚ := 47) (fun _ => x_aload_n rfl l12_0) ?_
          refine v_g H (o := 0) (v := .ref (D 1)) rfl rfl rfl rfl rfl (vrf ((mF_12 0 2 rfl).trans (pf1))) ?_
          refine Ew_of (pcₚ := 51) (fun _ => x_iload_n rfl l12_3) ?_
          refine Ew_of (pcₚ := 52) (fun _ => x_dup2 rfl rfl rfl) ?_
          refine v_lI H (o := 1) rfl rfl rfl rfl (n := n1) (en1) (show 0 ≤ x12_3 ∧ x12_3 < n1 from q_3535 h1 j12_4) (fun v6 ev6 qv6 => ?_)
          have ev6 : (w2_1) (x12_3) = v6 := (congrFun ((funext (hA_12 1 rfl)).trans (ew2_1)) (x12_3)).symm.trans ev6
          have hv := ev6
          refine Ew_of (pcₚ := 54) (fun _ => x_iconst rfl) ?_
          refine w_isub rfl ?_
          have hmu := mp_updN (g := ((w2_1))) (n := ((u0_1))) (j := (x12_3)) (v := ((v6 - 1))) (by omega) (by omega)
          have hm1 := mass_eq (((v6 - 1)))
          have hm2 := mass_eq (((w2_1)) ((x12_3)))
          refine v_sI H (o := 1) (z := (v6 - 1)) rfl rfl rfl rfl (n := n1) (en1) (show 0 ≤ x12_3 ∧ x12_3 < n1 from q_3535 h1 j12_4) (show inr ((v6 - 1)) by omega) (fun σ H Oₚ => ?_)
          have O := OUT_trans O Oₚ
          have cAu7 : SA oz_E4clsl_1 A (updA A_12 1 (x12_3) ((v6 - 1))) := SA_upd (cA_12) rfl
          have mAu7 := SAm_of cAu7 oz_E4cls_2
          refine Ew_of (pcₚ := 59) (fun _ => x_iinc (len := 3) rfl (l12_2)) ?_
          refine Ew_of (pcₚ := 2) (fun _ => x_goto rfl rfl) ?_
          have hdt : DVT co (tt) (p2 ((u0_0))) ((u0_1)) ((upd1 (w2_1) (x12_3) ((v6 - 1)))) (lz + ((x2_2 + 1))) := DVT_s j2_d (by omega) (by omega) hmsq (by omega) (by rw [hv]) (by omega)
          have hd1 : DVI co ((upd1 (w2_1) (x12_3) ((v6 - 1)))) ((u0_1)) := DVI_dec hdv (by omega) (by omega)
          skip
          exact ih2 _ (by omega) _ _ _ _ ((x2_2 + 1)) (rk_o (l12_0) rfl rfl) (rk_o (l12_1) rfl rfl) (rk_s) H O (SF_trans (hS_2) hS_12 (any_sub (by decide +kernel))) (SA_upd (SA_trans (hA_2) hA_12 (any_subA (by decide +kernel))) rfl)    (upd1 (w2_1) (x12_3) ((v6 - 1))) (congrArg (fun q => upd1 q (x12_3) ((v6 - 1))) ((funext (hA_12 1 rfl)).trans (ew2_1))) (show inr ((x2_2 + 1)) from q_3536 b4 h0 j2_1) (show (0) ≤ ((x2_2 + 1)) from q_14 j2_1) (show ((x2_2 + 1)) ≤ (0) ∨ ((x2_2 + 1)) ≤ ((a1)) from q_13 b4) (hdt) (hd1) (show mp ((upd1 (w2_1) (x12_3) ((v6 - 1)))) ((u0_1)) = mp ((w1)) ((u0_1)) - ((x2_2 + 1)) by omega) rfl
        · refine Ew_of (pcₚ := 22) (fun _ => x_aload_n rfl l12_0) ?_
          refine v_g H (o := 0) (v := .ref (D 1)) rfl rfl rfl rfl rfl (vrf ((mF_12 0 2 rfl).trans (pf1))) ?_
          refine Ew_of (pcₚ := 27) (fun _ => x_iload rfl l12_4) ?_
          refine v_lI H (o := 1) rfl rfl rfl rfl (n := n1) (en1) (show 0 ≤ x12_4 ∧ x12_4 < n1 from q_3537 b5 h1 j12_2) (fun v8 ev8 qv8 => ?_)
          have ev8 : (w2_1) (x12_4) = v8 := (congrFun ((funext (hA_12 1 rfl)).trans (ew2_1)) (x12_4)).symm.trans ev8
          refine Ew_of (pcₚ := 29) (fun _ => x_aload_n rfl l12_0) ?_
          refine v_g H (o := 0) (v := .ref (D 1)) rfl rfl rfl rfl rfl (vrf ((mF_12 0 2 rfl).trans (pf1))) ?_
          refine Ew_of (pcₚ := 33) (fun _ => x_iload_n rfl l12_3) ?_
          refine v_lI H (o := 1) rfl rfl rfl rfl (n := n1) (en1) (show 0 ≤ x12_3 ∧ x12_3 < n1 from q_3535 h1 j12_4) (fun v9 ev9 qv9 => ?_)
          have ev9 : (w2_1) (x12_3) = v9 := (congrFun ((funext (hA_12 1 rfl)).trans (ew2_1)) (x12_3)).symm.trans ev9
          refine w_icmple (t := 40) rfl rfl (show inr (v8) from qv8) (show inr (v9) from qv9) (fun b10 => ?_) (fun b10 => ?_)
          · refine Ew_of (pcₚ := 43) (fun _ => x_iinc (len := 3) rfl (l12_4)) ?_
            refine Ew_of (pcₚ := 12) (fun _ => x_goto rfl rfl) ?_
            have hmq1 : MSQ ((u0_1)) ((w2_1)) ((x12_3)) (((x12_4 + 1))) := MSQ_s j12_m (by omega) (by omega) rfl
            have hx1 : MXI ((w2_1)) (x12_3) ((x12_4 + 1)) := by first | exact MXI_keep (by assumption) rfl (by omega) | exact MXI_new (by assumption) rfl (by omega)
            exact ih12 _ (msE hm12 q_16 (q_17 b5)) _ _ _ _ (x12_3) ((x12_4 + 1)) (rk_o (l12_0) rfl rfl) (rk_o (l12_1) rfl rfl) (rk_o (l12_2) rfl rfl) (rk_o (l12_3) rfl rfl) (rk_s) H O (hS_12) (hA_12)     (show inr (x12_3) from j12_0) (show inr ((x12_4 + 1)) from q_3539 b5 h1 j12_2) (show (1) ≤ ((x12_4 + 1)) from q_888 j12_2) (show ((x12_4 + 1)) ≤ (1) ∨ ((x12_4 + 1)) ≤ ((u0_1)) from q_3538 b5) (show 0 ≤ (x12_3) ∧ (x12_3) < ((u0_1)) from j12_4) (hx1) (hmq1) rfl
          · refine Ew_of (pcₚ := 39) (fun _ => x_iload rfl l12_4) ?_
            refine Ew_of (pcₚ := 40) (fun _ => x_istore_n rfl) ?_
            refine Ew_of (pcₚ := 43) (fun _ => x_iinc (len := 3) rfl (rk_o (l12_4) rfl rfl)) ?_
            refine Ew_of (pcₚ := 12) (fun _ => x_goto rfl rfl) ?_
            have hmq1 : MSQ ((u0_1)) ((w2_1)) ((x12_4)) (((x12_4 + 1))) := MSQ_s j12_m (by omega) (by omega) rfl
            have hx1 : MXI ((w2_1)) (x12_4) ((x12_4 + 1)) := by first | exact MXI_keep (by assumption) rfl (by omega) | exact MXI_new (by assumption) rfl (by omega)
            exact ih12 _ (msE hm12 q_16 (q_17 b5)) _ _ _ _ (x12_4) ((x12_4 + 1)) (rk_o (rk_o (l12_0) rfl rfl) rfl rfl) (rk_o (rk_o (l12_1) rfl rfl) rfl rfl) (rk_o (rk_o (l12_2) rfl rfl) rfl rfl) (rk_o (rk_s) rfl rfl) (rk_s) H O (hS_12) (hA_12)     (show inr (x12_4) from j12_1) (show inr ((x12_4 + 1)) from q_3539 b5 h1 j12_2) (show (1) ≤ ((x12_4 + 1)) from q_888 j12_2) (show ((x12_4 + 1)) ≤ (1) ∨ ((x12_4 + 1)) ≤ ((u0_1)) from q_3538 b5) (show 0 ≤ (x12_4) ∧ (x12_4) < ((u0_1)) from q_3540 b5 j12_2) (hx1) (hmq1) rfl
abbrev V179_Ir : vV := [(0, 8, [(0, 0), (0, 0), (4, 0), (4, 0), (4, 0), (4, 0), (4, 0), (4, 0), (4, 0), (4, 0), (4, 0), (0, 0), (0, 0)]), (1, 1, []), (1, 1, [])]
theorem len_V179_Ir_oz_E4cls : (V179_Ir).length = 3 := by decide +kernel
def oz_E4clsl_2 : List Nat := [2]
theorem oz_E4cls_4 : (oz_E4clsl_2).all (fun p => !tbz 4 p) = true := by decide +kernel
set_option maxHeartbeats 16000000 in
theorem C179_Ir {σE : rS} {D N : Nat → Nat} {F : hF} {A : hA} {d c s : Nat} {Q : wQ} (H : HW V179_Ir σE D N F A) {a2 a3 : Int} (pf2 : F 0 2 = (D 2 : Int)) (n1 : Int) (en1 : (N 1 : Int) = n1) (n2 : Int) (en2 : (N 2 : Int) = n2) (u0_0 : Int) (eu0_0 : F 0 0 = u0_0) (u0_1 : Int) (eu0_1 : F 0 1 = u0_1) (w1 : Int → Int) (ew1 : A 1 = w1) (w2 : Int → Int) (ew2 : A 2 = w2) (h0 : inr (a2)) (h1 : inr (a3)) (h2 : CNT ((w1)) ((u0_1)) (a2) ((u0_0))) (h3 : ((u0_1)) ≤ (n1) ∧ (n2) = ((u0_1))) (h4 : DVI ((w1)) ((w2)) ((u0_1))) (h5 : EXC2 ((w2)) ((u0_1))) (h6 : (a3) = p2 ((u0_0)) - mp ((w2)) ((u0_1))) (h7 : DVX ((w1)) ((w2)) ((a2)) (p2 ((u0_0))) ((u0_1)) ((u0_1))) (k : ∀ (σ : rS) (Fₚ : hF) (Aₚ : hA), HW V179_Ir σ D N Fₚ Aₚ → OUT (V179_Ir).length D N σE c s D N σ c s → SF [] F Fₚ → SA [2] A Aₚ → ∀ v2 : Int → Int, Aₚ 2 = v2 → (DVI ((w1)) ((v2)) ((u0_1))) → (0 < (a3) ∧ mp ((v2)) ((u0_1)) = p2 ((u0_0)) ∨ (a3) ≤ 0 ∧ mp ((v2)) ((u0_1)) = mp ((w2)) ((u0_1))) → (∃ l, l ≤ 0 ∧ (0 < (a3) ∧ l = 0 ∨ (a3) ≤ 0 ∧ l = (a3)) ∧ DVT ((w1)) ((a2)) (p2 ((u0_0))) ((u0_1)) ((v2)) (l)) → Q none σ c s) : Ew 179 (d + 0) 0 (rargs 0 [.ref (D 0), .ref (D 1), I a2, I a3]) [] σE c s Q := by
  have O := OUT_refl (n := (V179_Ir).length) (D := D) (N := N) (σ := σE) (c := c) (s := s)
  have HE := H
  have r1 : (-2147483648 : Int) ≤ u0_0 ∧ u0_0 ≤ 2147483647 := rngE (show (-2147483648 : Int) ≤ F 0 0 ∧ F 0 0 ≤ 2147483647 from H.krg 0 0 (ltn len_V179_Ir_oz_E4cls rfl)) (show F 0 0 = u0_0 from (eu0_0))
  have r2 : (-2147483648 : Int) ≤ u0_1 ∧ u0_1 ≤ 2147483647 := rngE (show (-2147483648 : Int) ≤ F 0 1 ∧ F 0 1 ≤ 2147483647 from H.krg 0 1 (ltn len_V179_Ir_oz_E4cls rfl)) (show F 0 1 = u0_1 from (eu0_1))
  have r3 : (0 : Int) ≤ n1 ∧ n1 ≤ 1000000 := nleE (H.nle 1 (ltn len_V179_Ir_oz_E4cls rfl)) (show (N 1 : Int) = n1 from en1)
  have r4 : (0 : Int) ≤ n2 ∧ n2 ≤ 1000000 := nleE (H.nle 2 (ltn len_V179_Ir_oz_E4cls rfl)) (show (N 2 : Int) = n2 from en2)
  have hDX : DVX ((w1)) ((w2)) ((a2)) (p2 ((u0_0))) ((u0_1)) ((u0_1)) := h7
  have hC : CNT ((w1)) ((u0_1)) (a2) ((u0_0)) := h2
  have hc0 := CNT_f hC
  have hmp0 := mp_le (P := ((w2))) (s := 0) (t := ((u0_1))) (by omega) (by omega)
  have hmz : mp ((w2)) 0 = 0 := rfl
  refine Ew_of (pcₚ := 1) (fun _ => x_iload_n rfl rfl) ?_
  refine Ew_of (pcₚ := 3) (fun _ => x_istore rfl) ?_
  refine Ew_of (pcₚ := 4) (fun _ => x_iload_n rfl (rk_o (rfl) rfl rfl)) ?_
  refine Ew_of (pcₚ := 6) (fun _ => x_istore rfl) ?_
  refine Ew_of (pcₚ := 7) (fun _ => x_iconst rfl) ?_
  refine Ew_of (pcₚ := 9) (fun _ => x_istore rfl) ?_
  refine Ew_of (pcₚ := 10) (fun _ => x_iconst rfl) ?_
  refine Ew_of (pcₚ := 12) (fun _ => x_istore rfl) ?_
  have hdr0 : DVR ((w1)) ((a2)) (p2 ((u0_0))) ((u0_1)) ((w2)) ((a2)) (-1) ((a3)) := DVR_0 hDX (by omega) (by omega) (by have h : ((a3)) = p2 ((u0_0)) - mp ((w2)) ((u0_1)) := (by omega); exact h)
  suffices hl12 : ∀ (m : Nat), ∀ (ls : rO) (σ : rS) (F_12 : hF) (A_12 : hA) (x12_4 : Int) (x12_5 : Int) (x12_6 : Int) (x12_7 : Int), rlook ls 0 = some (.ref (D 0)) → rlook ls 1 = some (.ref (D 1)) → rlook ls 2 = some (I (a2)) → rlook ls 4 = some (I (x12_4)) → rlook ls 5 = some (I (x12_5)) → rlook ls 6 = some (I (x12_6)) → rlook ls 7 = some (I (x12_7)) → HW V179_Ir σ D N F_12 A_12 → OUT (V179_Ir).length D N σE c s D N σ c s → SF [] F F_12 → SA [2] A A_12 → ∀ w12_2 : Int → Int, A_12 2 = w12_2 → (inr (x12_4)) → (inr (x12_5)) → (inr (x12_6)) → (inr (x12_7)) → (DVI ((w1)) ((w12_2)) ((u0_1))) → (EXC2 ((w12_2)) ((u0_1))) → (mp ((w12_2)) ((u0_1)) + (x12_4) = p2 ((u0_0))) → ((x12_4) = (a3) ∨ 0 ≤ (x12_4) ∧ (x12_4) < (a3)) → (-1 ≤ (x12_6) ∧ (x12_6) < ((u0_1))) → (0 ≤ (x12_7)) → ((x12_5) = (a2) ∧ (x12_6) = -1 ∧ (x12_7) ≤ 2 * ((a3) - (x12_4)) ∨ (x12_7) + 1 ≤ 2 * ((a3) - (x12_4))) → (DVR ((w1)) ((a2)) (p2 ((u0_0))) ((u0_1)) ((w12_2)) ((x12_5)) ((x12_6)) ((x12_4))) → (4 * p2 ((u0_0)) - (x12_7)).toNat = m → Ew 179 (d + 0) 12 ls [] σ c s Q from
    hl12 _ _ _ _ _ (a3) (a2) ((-1)) (0) (rk_o (rk_o (rk_o (rk_o (rfl) rfl rfl) rfl rfl) rfl rfl) rfl rfl) (rk_o (rk_o (rk_o (rk_o (rfl) rfl rfl) rfl rfl) rfl rfl) rfl rfl) (rk_o (rk_o (rk_o (rk_o (rfl) rfl rfl) rfl rfl) rfl rfl) rfl rfl) (rk_o (rk_o (rk_o (rk_s) rfl rfl) rfl rfl) rfl rfl) (rk_o (rk_o (rk_s) rfl rfl) rfl rfl) (rk_o (rk_s) rfl rfl) (rk_s) H O (SF_refl) (SA_refl)    (w2) (ew2) (show inr (a3) from h1) (show inr (a2) from h0) (show inr ((-1)) from q_63) (show inr (0) from q_2) (h4) (show EXC2 ((w2)) ((u0_1)) by assumption) (show mp ((w2)) ((u0_1)) + (a3) = p2 ((u0_0)) from q_3544 h6) (show (a3) = (a3) ∨ 0 ≤ (a3) ∧ (a3) < (a3) from q_3543) (show -1 ≤ ((-1)) ∧ ((-1)) < ((u0_1)) from q_3542 h3 r4) (show 0 ≤ (0) from q_1) (show (a2) = (a2) ∧ ((-1)) = -1 ∧ (0) ≤ 2 * ((a3) - (a3)) ∨ (0) + 1 ≤ 2 * ((a3) - (a3)) from q_3541) (hdr0) rfl
  as_aux_lemma =>
  intro m
  induction m using Nat.strongRecOn with
  | _ m ih12 =>
    intro ls σ F_12 A_12 x12_4 x12_5 x12_6 x12_7 l12_0 l12_1 l12_2 l12_4 l12_5 l12_6 l12_7 H O hS_12 hA_12    w12_2 ew12_2 j12_0 j12_1 j12_2 j12_3 j12_4 j12_5 j12_6 j12_7 j12_8 j12_9 j12_10 j12_11 hm12
    have cF_12 : SF oz_E4clsl_0 F F_12 := SF_trans (SF_refl) hS_12 (any_sub (by decide +kernel))
    have mF_12 := SFm_of cF_12 oz_E4cls_1
    have cA_12 : SA oz_E4clsl_2 A A_12 := SA_trans (SA_refl) hA_12 (any_subA (by decide +kernel))
    have mA_12 := SAm_of cA_12 oz_E4cls_4
    have j12_d : DVR ((w1)) ((a2)) (p2 ((u0_0))) ((u0_1)) ((w12_2)) ((x12_5)) ((x12_6)) ((x12_4)) := j12_11
    refine Ew_of (pcₚ := 14) (fun _ => x_iload rfl l12_7) ?_
    refine Ew_of (pcₚ := 15) (fun _ => x_iconst rfl) ?_
    refine Ew_of (pcₚ := 16) (fun _ => x_aload_n rfl l12_0) ?_
    refine v_g H (o := 0) (v := I (u0_0)) rfl rfl rfl rfl rfl (congrArg (fun z : Int => I z) (((mF_12 0 0 rfl).trans (eu0_0)) : F_12 0 0 = u0_0)) ?_
    refine w_ishlT rfl (show 0 ≤ u0_0 ∧ u0_0 ≤ 31 by omega) ?_
    refine w_icmpge (t := 165) rfl rfl (show inr (x12_7) from j12_3) (show inr ((4 * p2 (u0_0))) by omega) (fun b6 => ?_) (fun b6 => ?_)
    · have hEx : ∃ l, l ≤ 0 ∧ (0 < (a3) ∧ l = 0 ∨ (a3) ≤ 0 ∧ l = (a3)) ∧ DVT ((w1)) ((a2)) (p2 ((u0_0))) ((u0_1)) ((w12_2)) (l) := ⟨(x12_4), by omega, by omega, DVT_0 j12_d (by omega)⟩
      exact w_ret rfl (k _ _ _ H O (cF_12) (cA_12) (w12_2) (ew12_2) (j12_4) (show 0 < a3 ∧ mp ((w12_2)) ((u0_1)) = p2 ((u0_0)) ∨ a3 ≤ 0 ∧ mp ((w12_2)) ((u0_1)) = mp ((w2)) ((u0_1)) by omega) (hEx))
    · refine Ew_of (pcₚ := 25) (fun _ => x_iload rfl l12_4) ?_
      refine w_ifle (t := 165) rfl rfl (show inr (x12_4) from j12_0) (fun b7 => ?_) (fun b7 => ?_)
      · have hEx : ∃ l, l ≤ 0 ∧ (0 < (a3) ∧ l = 0 ∨ (a3) ≤ 0 ∧ l = (a3)) ∧ DVT ((w1)) ((a2)) (p2 ((u0_0))) ((u0_1)) ((w12_2)) (l) := ⟨(x12_4), by omega, by omega, DVT_0 j12_d (by omega)⟩
        exact w_ret rfl (k _ _ _ H O (cF_12) (cA_12) (w12_2) (ew12_2) (j12_4) (show 0 < a3 ∧ mp ((w12_2)) ((u0_1)) = p2 ((u0_0)) ∨ a3 ≤ 0 ∧ mp ((w12_2)) ((u0_1)) = mp ((w2)) ((u0_1)) by omega) (hEx))
      · refine Ew_of (pcₚ := 29) (fun _ => x_iconst rfl) ?_
        refine Ew_of (pcₚ := 31) (fun _ => x_istore rfl) ?_
        refine Ew_of (pcₚ := 32) (fun _ => x_iconst rfl) ?_
        refine Ew_of (pcₚ := 34) (fun _ => x_istore rfl) ?_
        refine Ew_of (pcₚ := 35) (fun _ => x_iconst rfl) ?_
        refine Ew_of (pcₚ := 37) (fun _ => x_istore rfl) ?_
        have hbq0 : BSQ (cutP ((u0_1)) ((w12_2))) (hdF (cu0 (cutP ((u0_1)) ((w1))) ((a2)) (p2 ((u0_0)))) ((x12_5)) ((x12_6)) (cutP ((u0_1)) ((w12_2)))) (cu0 (cutP ((u0_1)) ((w1))) ((a2)) (p2 ((u0_0)))) (0) (-1) (-1) := BSQ_0
        have hg0 : GRN ((w12_2)) ((x12_5)) (a2) (-1) 0 := GRN_0
        suffices hl37 : ∀ (m : Nat), ∀ (ls : rO) (σ : rS) (F_37 : hF) (A_37 : hA) (x37_8 : Int) (x37_9 : Int) (x37_10 : Int), rlook ls 0 = some (.ref (D 0)) → rlook ls 1 = some (.ref (D 1)) → rlook ls 2 = some (I (a2)) → rlook ls 4 = some (I (x12_4)) → rlook ls 5 = some (I (x12_5)) → rlook ls 6 = some (I (x12_6)) → rlook ls 7 = some (I (x12_7)) → rlook ls 8 = some (I (x37_8)) → rlook ls 9 = some (I (x37_9)) → rlook ls 10 = some (I (x37_10)) → HW V179_Ir σ D N F_37 A_37 → OUT (V179_Ir).length D N σE c s D N σ c s → SF [] F_12 F_37 → SA [] A_12 A_37 → (inr (x37_8)) → (inr (x37_9)) → (inr (x37_10)) → ((0) ≤ (x37_10)) → ((x37_10) ≤ (0) ∨ (x37_10) ≤ ((u0_1))) → (-1 ≤ (x37_8) ∧ (x37_8) < ((u0_1))) → ((x37_8) = -1 ∧ (x37_9) = -1 ∨ 0 ≤ (x37_8) ∧ 0 ≤ (x37_9) ∧ 0 < ((w12_2)) (x37_8)) → (GRN ((w12_2)) (x12_5) (a2) (x37_8) (x37_10)) → (BSQ (cutP ((u0_1)) ((w12_2))) (hdF (cu0 (cutP ((u0_1)) ((w1))) ((a2)) (p2 ((u0_0)))) ((x12_5)) ((x12_6)) (cutP ((u0_1)) ((w12_2)))) (cu0 (cutP ((u0_1)) ((w1))) ((a2)) (p2 ((u0_0)))) ((x37_10)) ((x37_8)) ((x37_9))) → (((u0_1)) - (x37_10)).toNat = m → Ew 179 (d + 0) 37 ls [] σ c s Q from
          hl37 _ _ _ _ _ ((-1)) ((-1)) (0) (rk_o (rk_o (rk_o (l12_0) rfl rfl) rfl rfl) rfl rfl) (rk_o (rk_o (rk_o (l12_1) rfl rfl) rfl rfl) rfl rfl) (rk_o (rk_o (rk_o (l12_2) rfl rfl) rfl rfl) rfl rfl) (rk_o (rk_o (rk_o (l12_4) rfl rfl) rfl rfl) rfl rfl) (rk_o (rk_o (rk_o (l12_5) rfl rfl) rfl rfl) rfl rfl) (rk_o (rk_o (rk_o (l12_6) rfl rfl) rfl rfl) rfl rfl) (rk_o (rk_o (rk_o (l12_7) rfl rfl) rfl rfl) rfl rfl) (rk_o (rk_o (rk_s) rfl rfl) rfl rfl) (rk_o (rk_s) rfl rfl) (rk_s) H O (SF_refl) (SA_refl)     (show inr ((-1)) from q_63) (show inr ((-1)) from q_63) (show inr (0) from q_2) (show (0) ≤ (0) from q_1) (show (0) ≤ (0) ∨ (0) ≤ ((u0_1)) from q_5) (show -1 ≤ ((-1)) ∧ ((-1)) < ((u0_1)) from q_3546 j12_8) (show ((-1)) = -1 ∧ ((-1)) = -1 ∨ 0 ≤ ((-1)) ∧ 0 ≤ ((-1)) ∧ 0 < ((w12_2)) ((-1)) from q_3545) (hg0) (hbq0) rfl
        as_aux_lemma =>
        intro m
        induction m using Nat.strongRecOn with
        | _ m ih37 =>
          intro ls σ F_37 A_37 x37_8 x37_9 x37_10 l37_0 l37_1 l37_2 l37_4 l37_5 l37_6 l37_7 l37_8 l37_9 l37_10 H O hS_37 hA_37     j37_0 j37_1 j37_2 j37_3 j37_4 j37_5 j37_6 j37_7 j37_8 hm37
          have cF_37 : SF oz_E4clsl_0 F F_37 := SF_trans (cF_12) hS_37 (any_sub (by decide +kernel))
          have mF_37 := SFm_of cF_37 oz_E4cls_1
          have cA_37 : SA oz_E4clsl_2 A A_37 := SA_trans (cA_12) hA_37 (any_subA (by decide +kernel))
          have mA_37 := SAm_of cA_37 oz_E4cls_4
          have j37_b : BSQ (cutP ((u0_1)) ((w12_2))) (hdF (cu0 (cutP ((u0_1)) ((w1))) ((a2)) (p2 ((u0_0)))) ((x12_5)) ((x12_6)) (cutP ((u0_1)) ((w12_2)))) (cu0 (cutP ((u0_1)) ((w1))) ((a2)) (p2 ((u0_0)))) ((x37_10)) ((x37_8)) ((x37_9)) := j37_8
          refine Ew_of (pcₚ := 39) (fun _ => x_iload rfl l37_10) ?_
          refine Ew_of (pcₚ := 40) (fun _ => x_aload_n rfl l37_0) ?_
          refine v_g H (o := 0) (v := I (u0_1)) rfl rfl rfl rfl rfl (congrArg (fun z : Int => I z) (((mF_37 0 1 rfl).trans (eu0_1)) : F_37 0 1 = u0_1)) ?_
          refine w_icmpge (t := 123) rfl rfl (show inr (x37_10) from j37_2) (show inr (u0_1) from q_3547 j37_5 r2) (fun b8 => ?_) (fun b8 => ?_)
          · have hbs : BSQ (cutP ((u0_1)) ((w12_2))) (hdF (cu0 (cutP ((u0_1)) ((w1))) ((a2)) (p2 ((u0_0)))) ((x12_5)) ((x12_6)) (cutP ((u0_1)) ((w12_2)))) (cu0 (cutP ((u0_1)) ((w1))) ((a2)) (p2 ((u0_0)))) (((u0_1))) ((x37_8)) ((x37_9)) := by have h := j37_b; rw [show (x37_10) = ((u0_1)) by omega] at h; exact h
            have hl10 : (x37_10) = ((u0_1)) := q_3548 b8 j37_4 j37_5
            have hgr : GRN ((w12_2)) (x12_5) (a2) (x37_8) ((u0_1)) := by rw [← hl10]; assumption
            have hfd : ¬ ((x12_5) = (a2) ∧ (x37_8) = -1) := fun q => GRN_ex hgr (by assumption) q.1 q.2
            refine Ew_of (pcₚ := 125) (fun _ => x_iload rfl l37_8) ?_
            refine w_iflt (t := 142) rfl rfl (show inr (x37_8) from j37_0) (fun b9 => ?_) (fun b9 => ?_)
            · refine Ew_of (pcₚ := 144) (fun _ => x_iload rfl l37_8) ?_
              refine w_iflt (t := 152) rfl rfl (show inr (x37_8) from j37_0) (fun b10 => ?_) (fun b10 => ?_)
              · refine Ew_of (pcₚ := 153) (fun _ => x_iload_n rfl l37_2) ?_
                refine Ew_of (pcₚ := 155) (fun _ => x_istore rfl) ?_
                refine Ew_of (pcₚ := 157) (fun _ => x_iload rfl (rk_o (l37_8) rfl rfl)) ?_
                refine Ew_of (pcₚ := 159) (fun _ => x_istore rfl) ?_
                refine Ew_of (pcₚ := 162) (fun _ => x_iinc (len := 3) rfl (rk_o (rk_o (l37_7) rfl rfl) rfl rfl)) ?_
                refine Ew_of (pcₚ := 12) (fun _ => x_goto rfl rfl) ?_
                have hdr1 : DVR ((w1)) ((a2)) (p2 ((u0_0))) ((u0_1)) ((w12_2)) ((a2)) ((x37_8)) ((x12_4)) := by first | (exfalso; omega) | exact DVR_put j12_d (by omega) (by omega) hbs (by omega) (by omega) (by rw [hv]) (by omega) | (have e6 : ((x37_8)) = -1 := (by omega); rw [e6]; exact DVR_none j12_d (by omega) (by omega) (by omega) hbs (by omega))
                exact ih12 _ (msE hm12 q_3549 (q_3550 b6)) _ _ _ _ (x12_4) (a2) (x37_8) ((x12_7 + 1)) (rk_o (rk_o (rk_o (l37_0) rfl rfl) rfl rfl) rfl rfl) (rk_o (rk_o (rk_o (l37_1) rfl rfl) rfl rfl) rfl rfl) (rk_o (rk_o (rk_o (l37_2) rfl rfl) rfl rfl) rfl rfl) (rk_o (rk_o (rk_o (l37_4) rfl rfl) rfl rfl) rfl rfl) (rk_o (rk_o (rk_s) rfl rfl) rfl rfl) (rk_o (rk_s) rfl rfl) (rk_s) H O (SF_trans (hS_12) hS_37 (any_sub (by decide +kernel))) (SA_trans (hA_12) hA_37 (any_subA (by decide +kernel)))    (w12_2) ((funext (hA_37 2 rfl)).trans (ew12_2)) (show inr (x12_4) from j12_0) (show inr (a2) from h0) (show inr (x37_8) from j37_0) (show inr ((x12_7 + 1)) by omega) (j12_4) (j12_5) (show mp ((w12_2)) ((u0_1)) + (x12_4) = p2 ((u0_0)) from j12_6) (show (x12_4) = (a3) ∨ 0 ≤ (x12_4) ∧ (x12_4) < (a3) from j12_7) (show -1 ≤ (x37_8) ∧ (x37_8) < ((u0_1)) from j37_5) (show 0 ≤ ((x12_7 + 1)) from q_14 j12_9) (show (a2) = (a2) ∧ (x37_8) = -1 ∧ ((x12_7 + 1)) ≤ 2 * ((a3) - (x12_4)) ∨ ((x12_7 + 1)) + 1 ≤ 2 * ((a3) - (x12_4)) by omega) (hdr1) rfl
              · refine Ew_of (pcₚ := 149) (fun _ => x_iload rfl l37_9) ?_
                refine Ew_of (pcₚ := 153) (fun _ => x_goto rfl rfl) ?_
                refine Ew_of (pcₚ := 155) (fun _ => x_istore rfl) ?_
                refine Ew_of (pcₚ := 157) (fun _ => x_iload rfl (rk_o (l37_8) rfl rfl)) ?_
                refine Ew_of (pcₚ := 159) (fun _ => x_istore rfl) ?_
                refine Ew_of (pcₚ := 162) (fun _ => x_iinc (len := 3) rfl (rk_o (rk_o (l37_7) rfl rfl) rfl rfl)) ?_
                refine Ew_of (pcₚ := 12) (fun _ => x_goto rfl rfl) ?_
                have hdr1 : DVR ((w1)) ((a2)) (p2 ((u0_0))) ((u0_1)) ((w12_2)) ((x37_9)) ((x37_8)) ((x12_4)) := by first | (exfalso; omega) | exact DVR_put j12_d (by omega) (by omega) hbs (by omega) (by omega) (by rw [hv]) (by omega) | (have e6 : ((x37_8)) = -1 := (by omega); rw [e6]; exact DVR_none j12_d (by omega) (by omega) (by omega) hbs (by omega))
                exact ih12 _ (msE hm12 q_3549 (q_3550 b6)) _ _ _ _ (x12_4) (x37_9) (x37_8) ((x12_7 + 1)) (rk_o (rk_o (rk_o (l37_0) rfl rfl) rfl rfl) rfl rfl) (rk_o (rk_o (rk_o (l37_1) rfl rfl) rfl rfl) rfl rfl) (rk_o (rk_o (rk_o (l37_2) rfl rfl) rfl rfl) rfl rfl) (rk_o (rk_o (rk_o (l37_4) rfl rfl) rfl rfl) rfl rfl) (rk_o (rk_o (rk_s) rfl rfl) rfl rfl) (rk_o (rk_s) rfl rfl) (rk_s) H O (SF_trans (hS_12) hS_37 (any_sub (by decide +kernel))) (SA_trans (hA_12) hA_37 (any_subA (by decide +kernel)))    (w12_2) ((funext (hA_37 2 rfl)).trans (ew12_2)) (show inr (x12_4) from j12_0) (show inr (x37_9) from j37_1) (show inr (x37_8) from j37_0) (show inr ((x12_7 + 1)) by omega) (j12_4) (j12_5) (show mp ((w12_2)) ((u0_1)) + (x12_4) = p2 ((u0_0)) from j12_6) (show (x12_4) = (a3) ∨ 0 ≤ (x12_4) ∧ (x12_4) < (a3) from j12_7) (show -1 ≤ (x37_8) ∧ (x37_8) < ((u0_1)) from j37_5) (show 0 ≤ ((x12_7 + 1)) from q_14 j12_9) (show (x37_9) = (a2) ∧ (x37_8) = -1 ∧ ((x12_7 + 1)) ≤ 2 * ((a3) - (x12_4)) ∨ ((x12_7 + 1)) + 1 ≤ 2 * ((a3) - (x12_4)) by omega) (hdr1) rfl
            · refine Ew_of (pcₚ := 129) (fun _ => x_aload_n rfl l37_0) ?_
              refine v_g H (o := 0) (v := .ref (D 2)) rfl rfl rfl rfl rfl (vrf ((mF_37 0 2 rfl).trans (pf2))) ?_
              refine Ew_of (pcₚ := 134) (fun _ => x_iload rfl l37_8) ?_
              refine Ew_of (pcₚ := 135) (fun _ => x_dup2 rfl rfl rfl) ?_
              refine v_lI H (o := 2) rfl rfl rfl rfl (n := n2) (en2) (show 0 ≤ x37_8 ∧ x37_8 < n2 from q_3551 b9 h3 j37_5) (fun v11 ev11 qv11 => ?_)
              have ev11 : (w12_2) (x37_8) = v11 := (congrFun ((funext (hA_37 2 rfl)).trans (ew12_2)) (x37_8)).symm.trans ev11
              have hv := ev11
              have hmo := mp_one (P := ((w12_2))) (n := ((u0_1))) (s := (x37_8)) (by omega) (by omega)
              refine Ew_of (pcₚ := 137) (fun _ => x_iconst rfl) ?_
              refine w_iadd rfl ?_
              have hmu := mp_updN (g := ((w12_2))) (n := ((u0_1))) (j := (x37_8)) (v := ((v11 + 1))) (by omega) (by omega)
              have hm1 := mass_eq (((v11 + 1)))
              have hm2 := mass_eq (((w12_2)) ((x37_8)))
              have hd1 : DVI ((w1)) (upd1 ((w12_2)) ((x37_8)) (((v11 + 1)))) ((u0_1)) := DVI_inc (by assumption) (by omega) (by omega)
              have he1 : EXC2 (upd1 ((w12_2)) ((x37_8)) (((v11 + 1)))) ((u0_1)) := EXC2_inc (by assumption) (by omega) (by omega)
              refine v_sI H (o := 2) (z := (v11 + 1)) rfl rfl rfl rfl (n := n2) (en2) (show 0 ≤ x37_8 ∧ x37_8 < n2 from q_3551 b9 h3 j37_5) (show inr ((v11 + 1)) by omega) (fun σ H Oₚ => ?_)
              have O := OUT_trans O Oₚ
              have cAu12 : SA oz_E4clsl_2 A (updA A_37 2 (x37_8) ((v11 + 1))) := SA_upd (cA_37) rfl
              have mAu12 := SAm_of cAu12 oz_E4cls_4
              refine Ew_of (pcₚ := 142) (fun _ => x_iinc (len := 3) rfl (l37_4)) ?_
              refine Ew_of (pcₚ := 144) (fun _ => x_iload rfl (rk_o (l37_8) rfl rfl)) ?_
              refine w_iflt (t := 152) rfl rfl (show inr (x37_8) from j37_0) (fun b13 => ?_) (fun b13 => ?_)
              · refine Ew_of (pcₚ := 153) (fun _ => x_iload_n rfl (rk_o (l37_2) rfl rfl)) ?_
                refine Ew_of (pcₚ := 155) (fun _ => x_istore rfl) ?_
                refine Ew_of (pcₚ := 157) (fun _ => x_iload rfl (rk_o (rk_o (l37_8) rfl rfl) rfl rfl)) ?_
                refine Ew_of (pcₚ := 159) (fun _ => x_istore rfl) ?_
                refine Ew_of (pcₚ := 162) (fun _ => x_iinc (len := 3) rfl (rk_o (rk_o (rk_o (l37_7) rfl rfl) rfl rfl) rfl rfl)) ?_
                refine Ew_of (pcₚ := 12) (fun _ => x_goto rfl rfl) ?_
                have hdr1 : DVR ((w1)) ((a2)) (p2 ((u0_0))) ((u0_1)) ((upd1 (w12_2) (x37_8) ((v11 + 1)))) ((a2)) ((x37_8)) (((x12_4 + (-1)))) := by first | (exfalso; omega) | exact DVR_put j12_d (by omega) (by omega) hbs (by omega) (by omega) (by rw [hv]) (by omega) | (have e6 : ((x37_8)) = -1 := (by omega); rw [e6]; exact DVR_none j12_d (by omega) (by omega) (by omega) hbs (by omega))
                exact ih12 _ (msE hm12 q_3549 (q_3550 b6)) _ _ _ _ ((x12_4 + (-1))) (a2) (x37_8) ((x12_7 + 1)) (rk_o (rk_o (rk_o (rk_o (l37_0) rfl rfl) rfl rfl) rfl rfl) rfl rfl) (rk_o (rk_o (rk_o (rk_o (l37_1) rfl rfl) rfl rfl) rfl rfl) rfl rfl) (rk_o (rk_o (rk_o (rk_o (l37_2) rfl rfl) rfl rfl) rfl rfl) rfl rfl) (rk_o (rk_o (rk_o (rk_s) rfl rfl) rfl rfl) rfl rfl) (rk_o (rk_o (rk_s) rfl rfl) rfl rfl) (rk_o (rk_s) rfl rfl) (rk_s) H O (SF_trans (hS_12) hS_37 (any_sub (by decide +kernel))) (SA_upd (SA_trans (hA_12) hA_37 (any_subA (by decide +kernel))) rfl)    (upd1 (w12_2) (x37_8) ((v11 + 1))) (congrArg (fun q => upd1 q (x37_8) ((v11 + 1))) ((funext (hA_37 2 rfl)).trans (ew12_2))) (show inr ((x12_4 + (-1))) from q_555 b7 j12_0) (show inr (a2) from h0) (show inr (x37_8) from j37_0) (show inr ((x12_7 + 1)) by omega) (hd1) (he1) (show mp ((upd1 (w12_2) (x37_8) ((v11 + 1)))) ((u0_1)) + ((x12_4 + (-1))) = p2 ((u0_0)) by omega) (show ((x12_4 + (-1))) = (a3) ∨ 0 ≤ ((x12_4 + (-1))) ∧ ((x12_4 + (-1))) < (a3) by omega) (show -1 ≤ (x37_8) ∧ (x37_8) < ((u0_1)) from j37_5) (show 0 ≤ ((x12_7 + 1)) from q_14 j12_9) (show (a2) = (a2) ∧ (x37_8) = -1 ∧ ((x12_7 + 1)) ≤ 2 * ((a3) - ((x12_4 + (-1)))) ∨ ((x12_7 + 1)) + 1 ≤ 2 * ((a3) - ((x12_4 + (-1)))) by omega) (hdr1) rfl
              · refine Ew_of (pcₚ := 149) (fun _ => x_iload rfl (rk_o (l37_9) rfl rfl)) ?_
                refine Ew_of (pcₚ := 153) (fun _ => x_goto rfl rfl) ?_
                refine Ew_of (pcₚ := 155) (fun _ => x_istore rfl) ?_
                refine Ew_of (pcₚ := 157) (fun _ => x_iload rfl (rk_o (rk_o (l37_8) rfl rfl) rfl rfl)) ?_
                refine Ew_of (pcₚ := 159) (fun _ => x_istore rfl) ?_
                refine Ew_of (pcₚ := 162) (fun _ => x_iinc (len := 3) rfl (rk_o (rk_o (rk_o (l37_7) rfl rfl) rfl rfl) rfl rfl)) ?_
                refine Ew_of (pcₚ := 12) (fun _ => x_goto rfl rfl) ?_
                have hdr1 : DVR ((w1)) ((a2)) (p2 ((u0_0))) ((u0_1)) ((upd1 (w12_2) (x37_8) ((v11 + 1)))) ((x37_9)) ((x37_8)) (((x12_4 + (-1)))) := by first | (exfalso; omega) | exact DVR_put j12_d (by omega) (by omega) hbs (by omega) (by omega) (by rw [hv]) (by omega) | (have e6 : ((x37_8)) = -1 := (by omega); rw [e6]; exact DVR_none j12_d (by omega) (by omega) (by omega) hbs (by omega))
                exact ih12 _ (msE hm12 q_3549 (q_3550 b6)) _ _ _ _ ((x12_4 + (-1))) (x37_9) (x37_8) ((x12_7 + 1)) (rk_o (rk_o (rk_o (rk_o (l37_0) rfl rfl) rfl rfl) rfl rfl) rfl rfl) (rk_o (rk_o (rk_o (rk_o (l37_1) rfl rfl) rfl rfl) rfl rfl) rfl rfl) (rk_o (rk_o (rk_o (rk_o (l37_2) rfl rfl) rfl rfl) rfl rfl) rfl rfl) (rk_o (rk_o (rk_o (rk_s) rfl rfl) rfl rfl) rfl rfl) (rk_o (rk_o (rk_s) rfl rfl) rfl rfl) (rk_o (rk_s) rfl rfl) (rk_s) H O (SF_trans (hS_12) hS_37 (any_sub (by decide +kernel))) (SA_upd (SA_trans (hA_12) hA_37 (any_subA (by decide +kernel))) rfl)    (upd1 (w12_2) (x37_8) ((v11 + 1))) (congrArg (fun q => upd1 q (x37_8) ((v11 + 1))) ((funext (hA_37 2 rfl)).trans (ew12_2))) (show inr ((x12_4 + (-1))) from q_555 b7 j12_0) (show inr (x37_9) from j37_1) (show inr (x37_8) from j37_0) (show inr ((x12_7 + 1)) by omega) (hd1) (he1) (show mp ((upd1 (w12_2) (x37_8) ((v11 + 1)))) ((u0_1)) + ((x12_4 + (-1))) = p2 ((u0_0)) by omega) (show ((x12_4 + (-1))) = (a3) ∨ 0 ≤ ((x12_4 + (-1))) ∧ ((x12_4 + (-1))) < (a3) by omega) (show -1 ≤ (x37_8) ∧ (x37_8) < ((u0_1)) from j37_5) (show 0 ≤ ((x12_7 + 1)) from q_14 j12_9) (show (x37_9) = (a2) ∧ (x37_8) = -1 ∧ ((x12_7 + 1)) ≤ 2 * ((a3) - ((x12_4 + (-1)))) ∨ ((x12_7 + 1)) + 1 ≤ 2 * ((a3) - ((x12_4 + (-1)))) by omega) (hdr1) rfl
          · refine Ew_of (pcₚ := 47) (fun _ => x_aload_n rfl l37_1) ?_
            refine Ew_of (pcₚ := 49) (fun _ => x_iload rfl l37_10) ?_
            refine v_lI H (o := 1) rfl rfl rfl rfl (n := n1) (en1) (show 0 ≤ x37_10 ∧ x37_10 < n1 from q_3552 b8 h3 j37_3) (fun v14 ev14 qv14 => ?_)
            have ev14 : (w1) (x37_10) = v14 := (congrFun ((funext (mA_37 1 rfl)).trans (ew1)) (x37_10)).symm.trans ev14
            have hcb := hC.1 ((x37_10)) (by omega) (by omega)
            have hcv := ev14
            have hcm := cmul (v := (v14)) (t := (a2)) (p := p2 ((u0_0))) (by omega) (by omega) (by omega) (by omega) (by omega) (by omega)
            refine Ew_of (pcₚ := 51) (fun _ => x_aload_n rfl l37_0) ?_
            refine v_g H (o := 0) (v := I (u0_0)) rfl rfl rfl rfl rfl (congrArg (fun z : Int => I z) (((mF_37 0 0 rfl).trans (eu0_0)) : F_37 0 0 = u0_0)) ?_
            refine w_ishlT rfl (show 0 ≤ u0_0 ∧ u0_0 ≤ 31 by omega) ?_
            refine Ew_of (pcₚ := 56) (fun _ => x_iload_n rfl l37_2) ?_
            refine w_irem rfl (show inr ((v14 * p2 (u0_0))) ∧ 0 ≤ (v14 * p2 (u0_0)) by omega) (show inr (a2) ∧ 0 < a2 by omega) ?_
            refine Ew_of (pcₚ := 59) (fun _ => x_istore rfl) ?_
            have hcu : (cu0 (cutP ((u0_1)) ((w1))) ((a2)) (p2 ((u0_0)))) ((x37_10)) = (((v14 * p2 (u0_0)) % a2)) := by show cutP ((u0_1)) ((w1)) ((x37_10)) * p2 ((u0_0)) % (a2) = _; rw [cutP_in (by omega), hcv]
            refine Ew_of (pcₚ := 61) (fun _ => x_iload rfl rk_s) ?_
            refine Ew_of (pcₚ := 63) (fun _ => x_iload rfl (rk_o (l37_5) rfl rfl)) ?_
            refine w_icmplt (t := 80) rfl rfl (show inr (((v14 * p2 (u0_0)) % a2)) by omega) (show inr (x12_5) from j12_1) (fun b16 => ?_) (fun b16 => ?_)
            · refine Ew_of (pcₚ := 81) (fun _ => x_iconst rfl) ?_
              refine Ew_of (pcₚ := 85) (fun _ => x_goto rfl rfl) ?_
              refine Ew_of (pcₚ := 87) (fun _ => x_istore rfl) ?_
              refine Ew_of (pcₚ := 88) (fun _ => x_aload_n rfl (rk_o (rk_o (l37_0) rfl rfl) rfl rfl)) ?_
              refine v_g H (o := 0) (v := .ref (D 2)) rfl rfl rfl rfl rfl (vrf ((mF_37 0 2 rfl).trans (pf2))) ?_
              refine Ew_of (pcₚ := 93) (fun _ => x_iload rfl (rk_o (rk_o (l37_10) rfl rfl) rfl rfl)) ?_
              refine v_lI H (o := 2) rfl rfl rfl rfl (n := n2) (en2) (show 0 ≤ x37_10 ∧ x37_10 < n2 from q_3553 b8 h3 j37_3) (fun v17 ev17 qv17 => ?_)
              have ev17 : (w12_2) (x37_10) = v17 := (congrFun ((funext (hA_37 2 rfl)).trans (ew12_2)) (x37_10)).symm.trans ev17
              refine w_ifle (t := 117) rfl rfl (show inr (v17) from qv17) (fun b18 => ?_) (fun b18 => ?_)
              · refine Ew_of (pcₚ := 120) (fun _ => x_iinc (len := 3) rfl (rk_o (rk_o (l37_10) rfl rfl) rfl rfl)) ?_
                refine Ew_of (pcₚ := 37) (fun _ => x_goto rfl rfl) ?_
                have hbq1 : BSQ (cutP ((u0_1)) ((w12_2))) (hdF (cu0 (cutP ((u0_1)) ((w1))) ((a2)) (p2 ((u0_0)))) ((x12_5)) ((x12_6)) (cutP ((u0_1)) ((w12_2)))) (cu0 (cutP ((u0_1)) ((w1))) ((a2)) (p2 ((u0_0)))) (((x37_10 + 1))) ((x37_8)) ((x37_9)) := by first | exact BSQ_y j37_b (by omega) hcu (by rw [cutP_in (by omega)]; omega) (by omega) (by omega) rfl rfl rfl | exact BSQ_n j37_b (by omega) hcu (fun q => by have q1 := q.1; have q2 := q.2.1; have q3 := q.2.2; rw [cutP_in (by omega)] at q1; omega) (cu0_r (by omega) _).1 rfl rfl rfl
                have hg1 : GRN ((w12_2)) (x12_5) (a2) (x37_8) ((x37_10 + 1)) := by first | exact GRN_hit (by omega) | exact GRN_s (by assumption) rfl (fun qa qb => by omega)
                exact ih37 _ (msE hm37 q_16 (q_17 b8)) _ _ _ _ (x37_8) (x37_9) ((x37_10 + 1)) (rk_o (rk_o (rk_o (l37_0) rfl rfl) rfl rfl) rfl rfl) (rk_o (rk_o (rk_o (l37_1) rfl rfl) rfl rfl) rfl rfl) (rk_o (rk_o (rk_o (l37_2) rfl rfl) rfl rfl) rfl rfl) (rk_o (rk_o (rk_o (l37_4) rfl rfl) rfl rfl) rfl rfl) (rk_o (rk_o (rk_o (l37_5) rfl rfl) rfl rfl) rfl rfl) (rk_o (rk_o (rk_o (l37_6) rfl rfl) rfl rfl) rfl rfl) (rk_o (rk_o (rk_o (l37_7) rfl rfl) rfl rfl) rfl rfl) (rk_o (rk_o (rk_o (l37_8) rfl rfl) rfl rfl) rfl rfl) (rk_o (rk_o (rk_o (l37_9) rfl rfl) rfl rfl) rfl rfl) (rk_s) H O (hS_37) (hA_37)     (show inr (x37_8) from j37_0) (show inr (x37_9) from j37_1) (show inr ((x37_10 + 1)) from q_3554 b8 h3 j37_3 r4) (show (0) ≤ ((x37_10 + 1)) from q_14 j37_3) (show ((x37_10 + 1)) ≤ (0) ∨ ((x37_10 + 1)) ≤ ((u0_1)) from q_13 b8) (show -1 ≤ (x37_8) ∧ (x37_8) < ((u0_1)) from j37_5) (show (x37_8) = -1 ∧ (x37_9) = -1 ∨ 0 ≤ (x37_8) ∧ 0 ≤ (x37_9) ∧ 0 < ((w12_2)) (x37_8) from j37_6) (hg1) (hbq1) rfl
              · refine Ew_of (pcₚ := 99) (fun _ => x_iload rfl rk_s) ?_
                refine w_ifeq (t := 117) rfl rfl (show inr (1) from q_135) (fun b19 => ?_) (fun b19 => ?_)
                · refine Ew_of (pcₚ := 120) (fun _ => x_iinc (len := 3) rfl (rk_o (rk_o (l37_10) rfl rfl) rfl rfl)) ?_
                  refine Ew_of (pcₚ := 37) (fun _ => x_goto rfl rfl) ?_
                  have hbq1 : BSQ (cutP ((u0_1)) ((w12_2))) (hdF (cu0 (cutP ((u0_1)) ((w1))) ((a2)) (p2 ((u0_0)))) ((x12_5)) ((x12_6)) (cutP ((u0_1)) ((w12_2)))) (cu0 (cutP ((u0_1)) ((w1))) ((a2)) (p2 ((u0_0)))) (((x37_10 + 1))) ((x37_8)) ((x37_9)) := by first | exact BSQ_y j37_b (by omega) hcu (by rw [cutP_in (by omega)]; omega) (by omega) (by omega) rfl rfl rfl | exact BSQ_n j37_b (by omega) hcu (fun q => by have q1 := q.1; have q2 := q.2.1; have q3 := q.2.2; rw [cutP_in (by omega)] at q1; omega) (cu0_r (by omega) _).1 rfl rfl rfl
                  have hg1 : GRN ((w12_2)) (x12_5) (a2) (x37_8) ((x37_10 + 1)) := by first | exact GRN_hit (by omega) | exact GRN_s (by assumption) rfl (fun qa qb => by omega)
                  exact ih37 _ (msE hm37 q_16 (q_17 b8)) _ _ _ _ (x37_8) (x37_9) ((x37_10 + 1)) (rk_o (rk_o (rk_o (l37_0) rfl rfl) rfl rfl) rfl rfl) (rk_o (rk_o (rk_o (l37_1) rfl rfl) rfl rfl) rfl rfl) (rk_o (rk_o (rk_o (l37_2) rfl rfl) rfl rfl) rfl rfl) (rk_o (rk_o (rk_o (l37_4) rfl rfl) rfl rfl) rfl rfl) (rk_o (rk_o (rk_o (l37_5) rfl rfl) rfl rfl) rfl rfl) (rk_o (rk_o (rk_o (l37_6) rfl rfl) rfl rfl) rfl rfl) (rk_o (rk_o (rk_o (l37_7) rfl rfl) rfl rfl) rfl rfl) (rk_o (rk_o (rk_o (l37_8) rfl rfl) rfl rfl) rfl rfl) (rk_o (rk_o (rk_o (l37_9) rfl rfl) rfl rfl) rfl rfl) (rk_s) H O (hS_37) (hA_37)     (show inr (x37_8) from j37_0) (show inr (x37_9) from j37_1) (show inr ((x37_10 + 1)) from q_3554 b8 h3 j37_3 r4) (show (0) ≤ ((x37_10 + 1)) from q_14 j37_3) (show ((x37_10 + 1)) ≤ (0) ∨ ((x37_10 + 1)) ≤ ((u0_1)) from q_13 b8) (show -1 ≤ (x37_8) ∧ (x37_8) < ((u0_1)) from j37_5) (show (x37_8) = -1 ∧ (x37_9) = -1 ∨ 0 ≤ (x37_8) ∧ 0 ≤ (x37_9) ∧ 0 < ((w12_2)) (x37_8) from j37_6) (hg1) (hbq1) rfl
                · refine Ew_of (pcₚ := 104) (fun _ => x_iload rfl (rk_o (rk_s) rfl rfl)) ?_
                  refine Ew_of (pcₚ := 106) (fun _ => x_iload rfl (rk_o (rk_o (l37_9) rfl rfl) rfl rfl)) ?_
                  refine w_icmple (t := 117) rfl rfl (show inr (((v14 * p2 (u0_0)) % a2)) by omega) (show inr (x37_9) from j37_1) (fun b20 => ?_) (fun b20 => ?_)
                  · refine Ew_of (pcₚ := 120) (fun _ => x_iinc (len := 3) rfl (rk_o (rk_o (l37_10) rfl rfl) rfl rfl)) ?_
                    refine Ew_of (pcₚ := 37) (fun _ => x_goto rfl rfl) ?_
                    have hbq1 : BSQ (cutP ((u0_1)) ((w12_2))) (hdF (cu0 (cutP ((u0_1)) ((w1))) ((a2)) (p2 ((u0_0)))) ((x12_5)) ((x12_6)) (cutP ((u0_1)) ((w12_2)))) (cu0 (cutP ((u0_1)) ((w1))) ((a2)) (p2 ((u0_0)))) (((x37_10 + 1))) ((x37_8)) ((x37_9)) := by first | exact BSQ_y j37_b (by omega) hcu (by rw [cutP_in (by omega)]; omega) (by omega) (by omega) rfl rfl rfl | exact BSQ_n j37_b (by omega) hcu (fun q => by have q1 := q.1; have q2 := q.2.1; have q3 := q.2.2; rw [cutP_in (by omega)] at q1; omega) (cu0_r (by omega) _).1 rfl rfl rfl
                    have hg1 : GRN ((w12_2)) (x12_5) (a2) (x37_8) ((x37_10 + 1)) := by first | exact GRN_hit (by omega) | exact GRN_s (by assumption) rfl (fun qa qb => by omega)
                    exact ih37 _ (msE hm37 q_16 (q_17 b8)) _ _ _ _ (x37_8) (x37_9) ((x37_10 + 1)) (rk_o (rk_o (rk_o (l37_0) rfl rfl) rfl rfl) rfl rfl) (rk_o (rk_o (rk_o (l37_1) rfl rfl) rfl rfl) rfl rfl) (rk_o (rk_o (rk_o (l37_2) rfl rfl) rfl rfl) rfl rfl) (rk_o (rk_o (rk_o (l37_4) rfl rfl) rfl rfl) rfl rfl) (rk_o (rk_o (rk_o (l37_5) rfl rfl) rfl rfl) rfl rfl) (rk_o (rk_o (rk_o (l37_6) rfl rfl) rfl rfl) rfl rfl) (rk_o (rk_o (rk_o (l37_7) rfl rfl) rfl rfl) rfl rfl) (rk_o (rk_o (rk_o (l37_8) rfl rfl) rfl rfl) rfl rfl) (rk_o (rk_o (rk_o (l37_9) rfl rfl) rfl rfl) rfl rfl) (rk_s) H O (hS_37) (hA_37)     (show inr (x37_8) from j37_0) (show inr (x37_9) from j37_1) (show inr ((x37_10 + 1)) from q_3554 b8 h3 j37_3 r4) (show (0) ≤ ((x37_10 + 1)) from q_14 j37_3) (show ((x37_10 + 1)) ≤ (0) ∨ ((x37_10 + 1)) ≤ ((u0_1)) from q_13 b8) (show -1 ≤ (x37_8) ∧ (x37_8) < ((u0_1)) from j37_5) (show (x37_8) = -1 ∧ (x37_9) = -1 ∨ 0 ≤ (x37_8) ∧ 0 ≤ (x37_9) ∧ 0 < ((w12_2)) (x37_8) from j37_6) (hg1) (hbq1) rfl
                  · refine Ew_of (pcₚ := 111) (fun _ => x_iload rfl (rk_o (rk_o (l37_10) rfl rfl) rfl rfl)) ?_
                    refine Ew_of (pcₚ := 113) (fun _ => x_istore rfl) ?_
                    refine Ew_of (pcₚ := 115) (fun _ => x_iload rfl (rk_o (rk_o (rk_s) rfl rfl) rfl rfl)) ?_
                    refine Ew_of (pcₚ := 117) (fun _ => x_istore rfl) ?_
                    refine Ew_of (pcₚ := 120) (fun _ => x_iinc (len := 3) rfl (rk_o (rk_o (rk_o (rk_o (l37_10) rfl rfl) rfl rfl) rfl rfl) rfl rfl)) ?_
                    refine Ew_of (pcₚ := 37) (fun _ => x_goto rfl rfl) ?_
                    have hbq1 : BSQ (cutP ((u0_1)) ((w12_2))) (hdF (cu0 (cutP ((u0_1)) ((w1))) ((a2)) (p2 ((u0_0)))) ((x12_5)) ((x12_6)) (cutP ((u0_1)) ((w12_2)))) (cu0 (cutP ((u0_1)) ((w1))) ((a2)) (p2 ((u0_0)))) (((x37_10 + 1))) ((x37_10)) ((((v14 * p2 (u0_0)) % a2))) := by first | exact BSQ_y j37_b (by omega) hcu (by rw [cutP_in (by omega)]; omega) (by omega) (by omega) rfl rfl rfl | exact BSQ_n j37_b (by omega) hcu (fun q => by have q1 := q.1; have q2 := q.2.1; have q3 := q.2.2; rw [cutP_in (by omega)] at q1; omega) (cu0_r (by omega) _).1 rfl rfl rfl
                    have hg1 : GRN ((w12_2)) (x12_5) (a2) (x37_10) ((x37_10 + 1)) := by first | exact GRN_hit (by omega) | exact GRN_s (by assumption) rfl (fun qa qb => by omega)
                    exact ih37 _ (msE hm37 q_16 (q_17 b8)) _ _ _ _ (x37_10) (((v14 * p2 (u0_0)) % a2)) ((x37_10 + 1)) (rk_o (rk_o (rk_o (rk_o (rk_o (l37_0) rfl rfl) rfl rfl) rfl rfl) rfl rfl) rfl rfl) (rk_o (rk_o (rk_o (rk_o (rk_o (l37_1) rfl rfl) rfl rfl) rfl rfl) rfl rfl) rfl rfl) (rk_o (rk_o (rk_o (rk_o (rk_o (l37_2) rfl rfl) rfl rfl) rfl rfl) rfl rfl) rfl rfl) (rk_o (rk_o (rk_o (rk_o (rk_o (l37_4) rfl rfl) rfl rfl) rfl rfl) rfl rfl) rfl rfl) (rk_o (rk_o (rk_o (rk_o (rk_o (l37_5) rfl rfl) rfl rfl) rfl rfl) rfl rfl) rfl rfl) (rk_o (rk_o (rk_o (rk_o (rk_o (l37_6) rfl rfl) rfl rfl) rfl rfl) rfl rfl) rfl rfl) (rk_o (rk_o (rk_o (rk_o (rk_o (l37_7) rfl rfl) rfl rfl) rfl rfl) rfl rfl) rfl rfl) (rk_o (rk_o (rk_s) rfl rfl) rfl rfl) (rk_o (rk_s) rfl rfl) (rk_s) H O (hS_37) (hA_37)     (show inr (x37_10) from j37_2) (show inr (((v14 * p2 (u0_0)) % a2)) from q_3556 b16 b20 j12_1 j37_1) (show inr ((x37_10 + 1)) from q_3554 b8 h3 j37_3 r4) (show (0) ≤ ((x37_10 + 1)) from q_14 j37_3) (show ((x37_10 + 1)) ≤ (0) ∨ ((x37_10 + 1)) ≤ ((u0_1)) from q_13 b8) (show -1 ≤ (x37_10) ∧ (x37_10) < ((u0_1)) from q_3555 b8 j37_3) (show (x37_10) = -1 ∧ (((v14 * p2 (u0_0)) % a2)) = -1 ∨ 0 ≤ (x37_10) ∧ 0 ≤ (((v14 * p2 (u0_0)) % a2)) ∧ 0 < ((w12_2)) (x37_10) by omega) (hg1) (hbq1) rfl
            · refine Ew_of (pcₚ := 68) (fun _ => x_iload rfl rk_s) ?_
              refine Ew_of (pcₚ := 70) (fun _ => x_iload rfl (rk_o (l37_5) rfl rfl)) ?_
              refine w_icmpne (t := 84) rfl rfl (show inr (((v14 * p2 (u0_0)) % a2)) by omega) (show inr (x12_5) from j12_1) (fun b21 => ?_) (fun b21 => ?_)
              · refine Ew_of (pcₚ := 85) (fun _ => x_iconst rfl) ?_
                refine Ew_of (pcₚ := 87) (fun _ => x_istore rfl) ?_
                refine Ew_of (pcₚ := 88) (fun _ => x_aload_n rfl (rk_o (rk_o (l37_0) rfl rfl) rfl rfl)) ?_
                refine v_g H (o := 0) (v := .ref (D 2)) rfl rfl rfl rfl rfl (vrf ((mF_37 0 2 rfl).trans (pf2))) ?_
                refine Ew_of (pcₚ := 93) (fun _ => x_iload rfl (rk_o (rk_o (l37_10) rfl rfl) rfl rfl)) ?_
                refine v_lI H (o := 2) rfl rfl rfl rfl (n := n2) (en2) (show 0 ≤ x37_10 ∧ x37_10 < n2 from q_3553 b8 h3 j37_3) (fun v22 ev22 qv22 => ?_)
                have ev22 : (w12_2) (x37_10) = v22 := (congrFun ((funext (hA_37 2 rfl)).trans (ew12_2)) (x37_10)).symm.trans ev22
                refine w_ifle (t := 117) rfl rfl (show inr (v22) from qv22) (fun b23 => ?_) (fun b23 => ?_)
                · refine Ew_of (pcₚ := 120) (fun _ => x_iinc (len := 3) rfl (rk_o (rk_o (l37_10) rfl rfl) rfl rfl)) ?_
                  refine Ew_of (pcₚ := 37) (fun _ => x_goto rfl rfl) ?_
                  have hbq1 : BSQ (cutP ((u0_1)) ((w12_2))) (hdF (cu0 (cutP ((u0_1)) ((w1))) ((a2)) (p2 ((u0_0)))) ((x12_5)) ((x12_6)) (cutP ((u0_1)) ((w12_2)))) (cu0 (cutP ((u0_1)) ((w1))) ((a2)) (p2 ((u0_0)))) (((x37_10 + 1))) ((x37_8)) ((x37_9)) := by first | exact BSQ_y j37_b (by omega) hcu (by rw [cutP_in (by omega)]; omega) (by omega) (by omega) rfl rfl rfl | exact BSQ_n j37_b (by omega) hcu (fun q => by have q1 := q.1; have q2 := q.2.1; have q3 := q.2.2; rw [cutP_in (by omega)] at q1; omega) (cu0_r (by omega) _).1 rfl rfl rfl
                  have hg1 : GRN ((w12_2)) (x12_5) (a2) (x37_8) ((x37_10 + 1)) := by first | exact GRN_hit (by omega) | exact GRN_s (by assumption) rfl (fun qa qb => by omega)
                  exact ih37 _ (msE hm37 q_16 (q_17 b8)) _ _ _ _ (x37_8) (x37_9) ((x37_10 + 1)) (rk_o (rk_o (rk_o (l37_0) rfl rfl) rfl rfl) rfl rfl) (rk_o (rk_o (rk_o (l37_1) rfl rfl) rfl rfl) rfl rfl) (rk_o (rk_o (rk_o (l37_2) rfl rfl) rfl rfl) rfl rfl) (rk_o (rk_o (rk_o (l37_4) rfl rfl) rfl rfl) rfl rfl) (rk_o (rk_o (rk_o (l37_5) rfl rfl) rfl rfl) rfl rfl) (rk_o (rk_o (rk_o (l37_6) rfl rfl) rfl rfl) rfl rfl) (rk_o (rk_o (rk_o (l37_7) rfl rfl) rfl rfl) rfl rfl) (rk_o (rk_o (rk_o (l37_8) rfl rfl) rfl rfl) rfl rfl) (rk_o (rk_o (rk_o (l37_9) rfl rfl) rfl rfl) rfl rfl) (rk_s) H O (hS_37) (hA_37)     (show inr (x37_8) from j37_0) (show inr (x37_9) from j37_1) (show inr ((x37_10 + 1)) from q_3554 b8 h3 j37_3 r4) (show (0) ≤ ((x37_10 + 1)) from q_14 j37_3) (show ((x37_10 + 1)) ≤ (0) ∨ ((x37_10 + 1)) ≤ ((u0_1)) from q_13 b8) (show -1 ≤ (x37_8) ∧ (x37_8) < ((u0_1)) from j37_5) (show (x37_8) = -1 ∧ (x37_9) = -1 ∨ 0 ≤ (x37_8) ∧ 0 ≤ (x37_9) ∧ 0 < ((w12_2)) (x37_8) from j37_6) (hg1) (hbq1) rfl
                · refine Ew_of (pcₚ := 99) (fun _ => x_iload rfl rk_s) ?_
                  refine w_ifeq (t := 117) rfl rfl (show inr (0) from q_2) (fun b24 => ?_) (fun b24 => ?_)
                  · refine Ew_of (pcₚ := 120) (fun _ => x_iinc (len := 3) rfl (rk_o (rk_o (l37_10) rfl rfl) rfl rfl)) ?_
                    refine Ew_of (pcₚ := 37) (fun _ => x_goto rfl rfl) ?_
                    have hbq1 : BSQ (cutP ((u0_1)) ((w12_2))) (hdF (cu0 (cutP ((u0_1)) ((w1))) ((a2)) (p2 ((u0_0)))) ((x12_5)) ((x12_6)) (cutP ((u0_1)) ((w12_2)))) (cu0 (cutP ((u0_1)) ((w1))) ((a2)) (p2 ((u0_0)))) (((x37_10 + 1))) ((x37_8)) ((x37_9)) := by first | exact BSQ_y j37_b (by omega) hcu (by rw [cutP_in (by omega)]; omega) (by omega) (by omega) rfl rfl rfl | exact BSQ_n j37_b (by omega) hcu (fun q => by have q1 := q.1; have q2 := q.2.1; have q3 := q.2.2; rw [cutP_in (by omega)] at q1; omega) (cu0_r (by omega) _).1 rfl rfl rfl
                    have hg1 : GRN ((w12_2)) (x12_5) (a2) (x37_8) ((x37_10 + 1)) := by first | exact GRN_hit (by omega) | exact GRN_s (by assumption) rfl (fun qa qb => by omega)
                    exact ih37 _ (msE hm37 q_16 (q_17 b8)) _ _ _ _ (x37_8) (x37_9) ((x37_10 + 1)) (rk_o (rk_o (rk_o (l37_0) rfl rfl) rfl rfl) rfl rfl) (rk_o (rk_o (rk_o (l37_1) rfl rfl) rfl rfl) rfl rfl) (rk_o (rk_o (rk_o (l37_2) rfl rfl) rfl rfl) rfl rfl) (rk_o (rk_o (rk_o (l37_4) rfl rfl) rfl rfl) rfl rfl) (rk_o (rk_o (rk_o (l37_5) rfl rfl) rfl rfl) rfl rfl) (rk_o (rk_o (rk_o (l37_6) rfl rfl) rfl rfl) rfl rfl) (rk_o (rk_o (rk_o (l37_7) rfl rfl) rfl rfl) rfl rfl) (rk_o (rk_o (rk_o (l37_8) rfl rfl) rfl rfl) rfl rfl) (rk_o (rk_o (rk_o (l37_9) rfl rfl) rfl rfl) rfl rfl) (rk_s) H O (hS_37) (hA_37)     (show inr (x37_8) from j37_0) (show inr (x37_9) from j37_1) (show inr ((x37_10 + 1)) from q_3554 b8 h3 j37_3 r4) (show (0) ≤ ((x37_10 + 1)) from q_14 j37_3) (show ((x37_10 + 1)) ≤ (0) ∨ ((x37_10 + 1)) ≤ ((u0_1)) from q_13 b8) (show -1 ≤ (x37_8) ∧ (x37_8) < ((u0_1)) from j37_5) (show (x37_8) = -1 ∧ (x37_9) = -1 ∨ 0 ≤ (x37_8) ∧ 0 ≤ (x37_9) ∧ 0 < ((w12_2)) (x37_8) from j37_6) (hg1) (hbq1) rfl
                  · refine Ew_of (pcₚ := 104) (fun _ => x_iload rfl (rk_o (rk_s) rfl rfl)) ?_
                    refine Ew_of (pcₚ := 106) (fun _ => x_iload rfl (rk_o (rk_o (l37_9) rfl rfl) rfl rfl)) ?_
                    refine w_icmple (t := 117) rfl rfl (show inr (((v14 * p2 (u0_0)) % a2)) by omega) (show inr (x37_9) from j37_1) (fun b25 => ?_) (fun b25 => ?_)
                    · refine Ew_of (pcₚ := 120) (fun _ => x_iinc (len := 3) rfl (rk_o (rk_o (l37_10) rfl rfl) rfl rfl)) ?_
                      refine Ew_of (pcₚ := 37) (fun _ => x_goto rfl rfl) ?_
                      have hbq1 : BSQ (cutP ((u0_1)) ((w12_2))) (hdF (cu0 (cutP ((u0_1)) ((w1))) ((a2)) (p2 ((u0_0)))) ((x12_5)) ((x12_6)) (cutP ((u0_1)) ((w12_2)))) (cu0 (cutP ((u0_1)) ((w1))) ((a2)) (p2 ((u0_0)))) (((x37_10 + 1))) ((x37_8)) ((x37_9)) := by first | exact BSQ_y j37_b (by omega) hcu (by rw [cutP_in (by omega)]; omega) (by omega) (by omega) rfl rfl rfl | exact BSQ_n j37_b (by omega) hcu (fun q => by have q1 := q.1; have q2 := q.2.1; have q3 := q.2.2; rw [cutP_in (by omega)] at q1; omega) (cu0_r (by omega) _).1 rfl rfl rfl
                      have hg1 : GRN ((w12_2)) (x12_5) (a2) (x37_8) ((x37_10 + 1)) := by first | exact GRN_hit (by omega) | exact GRN_s (by assumption) rfl (fun qa qb => by omega)
                      exact ih37 _ (msE hm37 q_16 (q_17 b8)) _ _ _ _ (x37_8) (x37_9) ((x37_10 + 1)) (rk_o (rk_o (rk_o (l37_0) rfl rfl) rfl rfl) rfl rfl) (rk_o (rk_o (rk_o (l37_1) rfl rfl) rfl rfl) rfl rfl) (rk_o (rk_o (rk_o (l37_2) rfl rfl) rfl rfl) rfl rfl) (rk_o (rk_o (rk_o (l37_4) rfl rfl) rfl rfl) rfl rfl) (rk_o (rk_o (rk_o (l37_5) rfl rfl) rfl rfl) rfl rfl) (rk_o (rk_o (rk_o (l37_6) rfl rfl) rfl rfl) rfl rfl) (rk_o (rk_o (rk_o (l37_7) rfl rfl) rfl rfl) rfl rfl) (rk_o (rk_o (rk_o (l37_8) rfl rfl) rfl rfl) rfl rfl) (rk_o (rk_o (rk_o (l37_9) rfl rfl) rfl rfl) rfl rfl) (rk_s) H O (hS_37) (hA_37)     (show inr (x37_8) from j37_0) (show inr (x37_9) from j37_1) (show inr ((x37_10 + 1)) from q_3554 b8 h3 j37_3 r4) (show (0) ≤ ((x37_10 + 1)) from q_14 j37_3) (show ((x37_10 + 1)) ≤ (0) ∨ ((x37_10 + 1)) ≤ ((u0_1)) from q_13 b8) (show -1 ≤ (x37_8) ∧ (x37_8) < ((u0_1)) from j37_5) (show (x37_8) = -1 ∧ (x37_9) = -1 ∨ 0 ≤ (x37_8) ∧ 0 ≤ (x37_9) ∧ 0 < ((w12_2)) (x37_8) from j37_6) (hg1) (hbq1) rfl
                    · refine Ew_of (pcₚ := 111) (fun _ => x_iload rfl (rk_o (rk_o (l37_10) rfl rfl) rfl rfl)) ?_
                      refine Ew_of (pcₚ := 113) (fun _ => x_istore rfl) ?_
                      refine Ew_of (pcₚ := 115) (fun _ => x_iload rfl (rk_o (rk_o (rk_s) rfl rfl) rfl rfl)) ?_
                      refine Ew_of (pcₚ := 117) (fun _ => x_istore rfl) ?_
                      refine Ew_of (pcₚ := 120) (fun _ => x_iinc (len := 3) rfl (rk_o (rk_o (rk_o (rk_o (l37_10) rfl rfl) rfl rfl) rfl rfl) rfl rfl)) ?_
                      refine Ew_of (pcₚ := 37) (fun _ => x_goto rfl rfl) ?_
                      have hbq1 : BSQ (cutP ((u0_1)) ((w12_2))) (hdF (cu0 (cutP ((u0_1)) ((w1))) ((a2)) (p2 ((u0_0)))) ((x12_5)) ((x12_6)) (cutP ((u0_1)) ((w12_2)))) (cu0 (cutP ((u0_1)) ((w1))) ((a2)) (p2 ((u0_0)))) (((x37_10 + 1))) ((x37_10)) ((((v14 * p2 (u0_0)) % a2))) := by first | exact BSQ_y j37_b (by omega) hcu (by rw [cutP_in (by omega)]; omega) (by omega) (by omega) rfl rfl rfl | exact BSQ_n j37_b (by omega) hcu (fun q => by have q1 := q.1; have q2 := q.2.1; have q3 := q.2.2; rw [cutP_in (by omega)] at q1; omega) (cu0_r (by omega) _).1 rfl rfl rfl
                      have hg1 : GRN ((w12_2)) (x12_5) (a2) (x37_10) ((x37_10 + 1)) := by first | exact GRN_hit (by omega) | exact GRN_s (by assumption) rfl (fun qa qb => by omega)
                      exact ih37 _ (msE hm37 q_16 (q_17 b8)) _ _ _ _ (x37_10) (((v14 * p2 (u0_0)) % a2)) ((x37_10 + 1)) (rk_o (rk_o (rk_o (rk_o (rk_o (l37_0) rfl rfl) rfl rfl) rfl rfl) rfl rfl) rfl rfl) (rk_o (rk_o (rk_o (rk_o (rk_o (l37_1) rfl rfl) rfl rfl) rfl rfl) rfl rfl) rfl rfl) (rk_o (rk_o (rk_o (rk_o (rk_o (l37_2) rfl rfl) rfl rfl) rfl rfl) rfl rfl) rfl rfl) (rk_o (rk_o (rk_o (rk_o (rk_o (l37_4) rfl rfl) rfl rfl) rfl rfl) rfl rfl) rfl rfl) (rk_o (rk_o (rk_o (rk_o (rk_o (l37_5) rfl rfl) rfl rfl) rfl rfl) rfl rfl) rfl rfl) (rk_o (rk_o (rk_o (rk_o (rk_o (l37_6) rfl rfl) rfl rfl) rfl rfl) rfl rfl) rfl rfl) (rk_o (rk_o (rk_o (rk_o (rk_o (l37_7) rfl rfl) rfl rfl) rfl rfl) rfl rfl) rfl rfl) (rk_o (rk_o (rk_s) rfl rfl) rfl rfl) (rk_o (rk_s) rfl rfl) (rk_s) H O (hS_37) (hA_37)     (show inr (x37_10) from j37_2) (show inr (((v14 * p2 (u0_0)) % a2)) by omega) (show inr ((x37_10 + 1)) from q_3554 b8 h3 j37_3 r4) (show (0) ≤ ((x37_10 + 1)) from q_14 j37_3) (show ((x37_10 + 1)) ≤ (0) ∨ ((x37_10 + 1)) ≤ ((u0_1)) from q_13 b8) (show -1 ≤ (x37_10) ∧ (x37_10) < ((u0_1)) from q_3555 b8 j37_3) (show (x37_10) = -1 ∧ (((v14 * p2 (u0_0)) % a2)) = -1 ∨ 0 ≤ (x37_10) ∧ 0 ≤ (((v14 * p2 (u0_0)) % a2)) ∧ 0 < ((w12_2)) (x37_10) by omega) (hg1) (hbq1) rfl
              · refine Ew_of (pcₚ := 75) (fun _ => x_iload rfl (rk_o (l37_10) rfl rfl)) ?_
                refine Ew_of (pcₚ := 77) (fun _ => x_iload rfl (rk_o (l37_6) rfl rfl)) ?_
                refine w_icmple (t := 84) rfl rfl (show inr (x37_10) from j37_2) (show inr (x12_6) from j12_2) (fun b26 => ?_) (fun b26 => ?_)
                · refine Ew_of (pcₚ := 85) (fun _ => x_iconst rfl) ?_
                  refine Ew_of (pcₚ := 87) (fun _ => x_istore rfl) ?_
                  refine Ew_of (pcₚ := 88) (fun _ => x_aload_n rfl (rk_o (rk_o (l37_0) rfl rfl) rfl rfl)) ?_
                  refine v_g H (o := 0) (v := .ref (D 2)) rfl rfl rfl rfl rfl (vrf ((mF_37 0 2 rfl).trans (pf2))) ?_
                  refine Ew_of (pcₚ := 93) (fun _ => x_iload rfl (rk_o (rk_o (l37_10) rfl rfl) rfl rfl)) ?_
                  refine v_lI H (o := 2) rfl rfl rfl rfl (n := n2) (en2) (show 0 ≤ x37_10 ∧ x37_10 < n2 from q_3553 b8 h3 j37_3) (fun v27 ev27 qv27 => ?_)
                  have ev27 : (w12_2) (x37_10) = v27 := (congrFun ((funext (hA_37 2 rfl)).trans (ew12_2)) (x37_10)).symm.trans ev27
                  refine w_ifle (t := 117) rfl rfl (show inr (v27) from qv27) (fun b28 => ?_) (fun b28 => ?_)
                  · refine Ew_of (pcₚ := 120) (fun _ => x_iinc (len := 3) rfl (rk_o (rk_o (l37_10) rfl rfl) rfl rfl)) ?_
                    refine Ew_of (pcₚ := 37) (fun _ => x_goto rfl rfl) ?_
                    have hbq1 : BSQ (cutP ((u0_1)) ((w12_2))) (hdF (cu0 (cutP ((u0_1)) ((w1))) ((a2)) (p2 ((u0_0)))) ((x12_5)) ((x12_6)) (cutP ((u0_1)) ((w12_2)))) (cu0 (cutP ((u0_1)) ((w1))) ((a2)) (p2 ((u0_0)))) (((x37_10 + 1))) ((x37_8)) ((x37_9)) := by first | exact BSQ_y j37_b (by omega) hcu (by rw [cutP_in (by omega)]; omega) (by omega) (by omega) rfl rfl rfl | exact BSQ_n j37_b (by omega) hcu (fun q => by have q1 := q.1; have q2 := q.2.1; have q3 := q.2.2; rw [cutP_in (by omega)] at q1; omega) (cu0_r (by omega) _).1 rfl rfl rfl
                    have hg1 : GRN ((w12_2)) (x12_5) (a2) (x37_8) ((x37_10 + 1)) := by first | exact GRN_hit (by omega) | exact GRN_s (by assumption) rfl (fun qa qb => by omega)
                    exact ih37 _ (msE hm37 q_16 (q_17 b8)) _ _ _ _ (x37_8) (x37_9) ((x37_10 + 1)) (rk_o (rk_o (rk_o (l37_0) rfl rfl) rfl rfl) rfl rfl) (rk_o (rk_o (rk_o (l37_1) rfl rfl) rfl rfl) rfl rfl) (rk_o (rk_o (rk_o (l37_2) rfl rfl) rfl rfl) rfl rfl) (rk_o (rk_o (rk_o (l37_4) rfl rfl) rfl rfl) rfl rfl) (rk_o (rk_o (rk_o (l37_5) rfl rfl) rfl rfl) rfl rfl) (rk_o (rk_o (rk_o (l37_6) rfl rfl) rfl rfl) rfl rfl) (rk_o (rk_o (rk_o (l37_7) rfl rfl) rfl rfl) rfl rfl) (rk_o (rk_o (rk_o (l37_8) rfl rfl) rfl rfl) rfl rfl) (rk_o (rk_o (rk_o (l37_9) rfl rfl) rfl rfl) rfl rfl) (rk_s) H O (hS_37) (hA_37)     (show inr (x37_8) from j37_0) (show inr (x37_9) from j37_1) (show inr ((x37_10 + 1)) from q_3554 b8 h3 j37_3 r4) (show (0) ≤ ((x37_10 + 1)) from q_14 j37_3) (show ((x37_10 + 1)) ≤ (0) ∨ ((x37_10 + 1)) ≤ ((u0_1)) from q_13 b8) (show -1 ≤ (x37_8) ∧ (x37_8) < ((u0_1)) from j37_5) (show (x37_8) = -1 ∧ (x37_9) = -1 ∨ 0 ≤ (x37_8) ∧ 0 ≤ (x37_9) ∧ 0 < ((w12_2)) (x37_8) from j37_6) (hg1) (hbq1) rfl
                  · refine Ew_of (pcₚ := 99) (fun _ => x_iload rfl rk_s) ?_
                    refine w_ifeq (t := 117) rfl rfl (show inr (0) from q_2) (fun b29 => ?_) (fun b29 => ?_)
                    · refine Ew_of (pcₚ := 120) (fun _ => x_iinc (len := 3) rfl (rk_o (rk_o (l37_10) rfl rfl) rfl rfl)) ?_
                      refine Ew_of (pcₚ := 37) (fun _ => x_goto rfl rfl) ?_
                      have hbq1 : BSQ (cutP ((u0_1)) ((w12_2))) (hdF (cu0 (cutP ((u0_1)) ((w1))) ((a2)) (p2 ((u0_0)))) ((x12_5)) ((x12_6)) (cutP ((u0_1)) ((w12_2)))) (cu0 (cutP ((u0_1)) ((w1))) ((a2)) (p2 ((u0_0)))) (((x37_10 + 1))) ((x37_8)) ((x37_9)) := by first | exact BSQ_y j37_b (by omega) hcu (by rw [cutP_in (by omega)]; omega) (by omega) (by omega) rfl rfl rfl | exact BSQ_n j37_b (by omega) hcu (fun q => by have q1 := q.1; have q2 := q.2.1; have q3 := q.2.2; rw [cutP_in (by omega)] at q1; omega) (cu0_r (by omega) _).1 rfl rfl rfl
                      have hg1 : GRN ((w12_2)) (x12_5) (a2) (x37_8) ((x37_10 + 1)) := by first | exact GRN_hit (by omega) | exact GRN_s (by assumption) rfl (fun qa qb => by omega)
                      exact ih37 _ (msE hm37 q_16 (q_17 b8)) _ _ _ _ (x37_8) (x37_9) ((x37_10 + 1)) (rk_o (rk_o (rk_o (l37_0) rfl rfl) rfl rfl) rfl rfl) (rk_o (rk_o (rk_o (l37_1) rfl rfl) rfl rfl) rfl rfl) (rk_o (rk_o (rk_o (l37_2) rfl rfl) rfl rfl) rfl rfl) (rk_o (rk_o (rk_o (l37_4) rfl rfl) rfl rfl) rfl rfl) (rk_o (rk_o (rk_o (l37_5) rfl rfl) rfl rfl) rfl rfl) (rk_o (rk_o (rk_o (l37_6) rfl rfl) rfl rfl) rfl rfl) (rk_o (rk_o (rk_o (l37_7) rfl rfl) rfl rfl) rfl rfl) (rk_o (rk_o (rk_o (l37_8) rfl rfl) rfl rfl) rfl rfl) (rk_o (rk_o (rk_o (l37_9) rfl rfl) rfl rfl) rfl rfl) (rk_s) H O (hS_37) (hA_37)     (show inr (x37_8) from j37_0) (show inr (x37_9) from j37_1) (show inr ((x37_10 + 1)) from q_3554 b8 h3 j37_3 r4) (show (0) ≤ ((x37_10 + 1)) from q_14 j37_3) (show ((x37_10 + 1)) ≤ (0) ∨ ((x37_10 + 1)) ≤ ((u0_1)) from q_13 b8) (show -1 ≤ (x37_8) ∧ (x37_8) < ((u0_1)) from j37_5) (show (x37_8) = -1 ∧ (x37_9) = -1 ∨ 0 ≤ (x37_8) ∧ 0 ≤ (x37_9) ∧ 0 < ((w12_2)) (x37_8) from j37_6) (hg1) (hbq1) rfl
                    · refine Ew_of (pcₚ := 104) (fun _ => x_iload rfl (rk_o (rk_s) rfl rfl)) ?_
                      refine Ew_of (pcₚ := 106) (fun _ => x_iload rfl (rk_o (rk_o (l37_9) rfl rfl) rfl rfl)) ?_
                      refine w_icmple (t := 117) rfl rfl (show inr (((v14 * p2 (u0_0)) % a2)) from q_3557 b21 j12_1) (show inr (x37_9) from j37_1) (fun b30 => ?_) (fun b30 => ?_)
                      · refine Ew_of (pcₚ := 120) (fun _ => x_iinc (len := 3) rfl (rk_o (rk_o (l37_10) rfl rfl) rfl rfl)) ?_
                        refine Ew_of (pcₚ := 37) (fun _ => x_goto rfl rfl) ?_
                        have hbq1 : BSQ (cutP ((u0_1)) ((w12_2))) (hdF (cu0 (cutP ((u0_1)) ((w1))) ((a2)) (p2 ((u0_0)))) ((x12_5)) ((x12_6)) (cutP ((u0_1)) ((w12_2)))) (cu0 (cutP ((u0_1)) ((w1))) ((a2)) (p2 ((u0_0)))) (((x37_10 + 1))) ((x37_8)) ((x37_9)) := by first | exact BSQ_y j37_b (by omega) hcu (by rw [cutP_in (by omega)]; omega) (by omega) (by omega) rfl rfl rfl | exact BSQ_n j37_b (by omega) hcu (fun q => by have q1 := q.1; have q2 := q.2.1; have q3 := q.2.2; rw [cutP_in (by omega)] at q1; omega) (cu0_r (by omega) _).1 rfl rfl rfl
                        have hg1 : GRN ((w12_2)) (x12_5) (a2) (x37_8) ((x37_10 + 1)) := by first | exact GRN_hit (by omega) | exact GRN_s (by assumption) rfl (fun qa qb => by omega)
                        exact ih37 _ (msE hm37 q_16 (q_17 b8)) _ _ _ _ (x37_8) (x37_9) ((x37_10 + 1)) (rk_o (rk_o (rk_o (l37_0) rfl rfl) rfl rfl) rfl rfl) (rk_o (rk_o (rk_o (l37_1) rfl rfl) rfl rfl) rfl rfl) (rk_o (rk_o (rk_o (l37_2) rfl rfl) rfl rfl) rfl rfl) (rk_o (rk_o (rk_o (l37_4) rfl rfl) rfl rfl) rfl rfl) (rk_o (rk_o (rk_o (l37_5) rfl rfl) rfl rfl) rfl rfl) (rk_o (rk_o (rk_o (l37_6) rfl rfl) rfl rfl) rfl rfl) (rk_o (rk_o (rk_o (l37_7) rfl rfl) rfl rfl) rfl rfl) (rk_o (rk_o (rk_o (l37_8) rfl rfl) rfl rfl) rfl rfl) (rk_o (rk_o (rk_o (l37_9) rfl rfl) rfl rfl) rfl rfl) (rk_s) H O (hS_37) (hA_37)     (show inr (x37_8) from j37_0) (show inr (x37_9) from j37_1) (show inr ((x37_10 + 1)) from q_3554 b8 h3 j37_3 r4) (show (0) ≤ ((x37_10 + 1)) from q_14 j37_3) (show ((x37_10 + 1)) ≤ (0) ∨ ((x37_10 + 1)) ≤ ((u0_1)) from q_13 b8) (show -1 ≤ (x37_8) ∧ (x37_8) < ((u0_1)) from j37_5) (show (x37_8) = -1 ∧ (x37_9) = -1 ∨ 0 ≤ (x37_8) ∧ 0 ≤ (x37_9) ∧ 0 < ((w12_2)) (x37_8) from j37_6) (hg1) (hbq1) rfl
                      · refine Ew_of (pcₚ := 111) (fun _ => x_iload rfl (rk_o (rk_o (l37_10) rfl rfl) rfl rfl)) ?_
                        refine Ew_of (pcₚ := 113) (fun _ => x_istore rfl) ?_
                        refine Ew_of (pcₚ := 115) (fun _ => x_iload rfl (rk_o (rk_o (rk_s) rfl rfl) rfl rfl)) ?_
                        refine Ew_of (pcₚ := 117) (fun _ => x_istore rfl) ?_
                        refine Ew_of (pcₚ := 120) (fun _ => x_iinc (len := 3) rfl (rk_o (rk_o (rk_o (rk_o (l37_10) rfl rfl) rfl rfl) rfl rfl) rfl rfl)) ?_
                        refine Ew_of (pcₚ := 37) (fun _ => x_goto rfl rfl) ?_
                        have hbq1 : BSQ (cutP ((u0_1)) ((w12_2))) (hdF (cu0 (cutP ((u0_1)) ((w1))) ((a2)) (p2 ((u0_0)))) ((x12_5)) ((x12_6)) (cutP ((u0_1)) ((w12_2)))) (cu0 (cutP ((u0_1)) ((w1))) ((a2)) (p2 ((u0_0)))) (((x37_10 + 1))) ((x37_10)) ((((v14 * p2 (u0_0)) % a2))) := by first | exact BSQ_y j37_b (by omega) hcu (by rw [cutP_in (by omega)]; omega) (by omega) (by omega) rfl rfl rfl | exact BSQ_n j37_b (by omega) hcu (fun q => by have q1 := q.1; have q2 := q.2.1; have q3 := q.2.2; rw [cutP_in (by omega)] at q1; omega) (cu0_r (by omega) _).1 rfl rfl rfl
                        have hg1 : GRN ((w12_2)) (x12_5) (a2) (x37_10) ((x37_10 + 1)) := by first | exact GRN_hit (by omega) | exact GRN_s (by assumption) rfl (fun qa qb => by omega)
                        exact ih37 _ (msE hm37 q_16 (q_17 b8)) _ _ _ _ (x37_10) (((v14 * p2 (u0_0)) % a2)) ((x37_10 + 1)) (rk_o (rk_o (rk_o (rk_o (rk_o (l37_0) rfl rfl) rfl rfl) rfl rfl) rfl rfl) rfl rfl) (rk_o (rk_o (rk_o (rk_o (rk_o (l37_1) rfl rfl) rfl rfl) rfl rfl) rfl rfl) rfl rfl) (rk_o (rk_o (rk_o (rk_o (rk_o (l37_2) rfl rfl) rfl rfl) rfl rfl) rfl rfl) rfl rfl) (rk_o (rk_o (rk_o (rk_o (rk_o (l37_4) rfl rfl) rfl rfl) rfl rfl) rfl rfl) rfl rfl) (rk_o (rk_o (rk_o (rk_o (rk_o (l37_5) rfl rfl) rfl rfl) rfl rfl) rfl rfl) rfl rfl) (rk_o (rk_o (rk_o (rk_o (rk_o (l37_6) rfl rfl) rfl rfl) rfl rfl) rfl rfl) rfl rfl) (rk_o (rk_o (rk_o (rk_o (rk_o (l37_7) rfl rfl) rfl rfl) rfl rfl) rfl rfl) rfl rfl) (rk_o (rk_o (rk_s) rfl rfl) rfl rfl) (rk_o (rk_s) rfl rfl) (rk_s) H O (hS_37) (hA_37)     (show inr (x37_10) from j37_2) (show inr (((v14 * p2 (u0_0)) % a2)) from q_3558 b21 b30 j12_1 j37_1) (show inr ((x37_10 + 1)) from q_3554 b8 h3 j37_3 r4) (show (0) ≤ ((x37_10 + 1)) from q_14 j37_3) (show ((x37_10 + 1)) ≤ (0) ∨ ((x37_10 + 1)) ≤ ((u0_1)) from q_13 b8) (show -1 ≤ (x37_10) ∧ (x37_10) < ((u0_1)) from q_3555 b8 j37_3) (show (x37_10) = -1 ∧ (((v14 * p2 (u0_0)) % a2)) = -1 ∨ 0 ≤ (x37_10) ∧ 0 ≤ (((v14 * p2 (u0_0)) % a2)) ∧ 0 < ((w12_2)) (x37_10) by omega) (hg1) (hbq1) rfl
                · refine Ew_of (pcₚ := 81) (fun _ => x_iconst rfl) ?_
                  refine Ew_of (pcₚ := 85) (fun _ => x_goto rfl rfl) ?_
                  refine Ew_of (pcₚ := 87) (fun _ => x_istore rfl) ?_
                  refine Ew_of (pcₚ := 88) (fun _ => x_aload_n rfl (rk_o (rk_o (l37_0) rfl rfl) rfl rfl)) ?_
                  refine v_g H (o := 0) (v := .ref (D 2)) rfl rfl rfl rfl rfl (vrf ((mF_37 0 2 rfl).trans (pf2))) ?_
                  refine Ew_of (pcₚ := 93) (fun _ => x_iload rfl (rk_o (rk_o (l37_10) rfl rfl) rfl rfl)) ?_
                  refine v_lI H (o := 2) rfl rfl rfl rfl (n := n2) (en2) (show 0 ≤ x37_10 ∧ x37_10 < n2 from q_3553 b8 h3 j37_3) (fun v31 ev31 qv31 => ?_)
                  have ev31 : (w12_2) (x37_10) = v31 := (congrFun ((funext (hA_37 2 rfl)).trans (ew12_2)) (x37_10)).symm.trans ev31
                  refine w_ifle (t := 117) rfl rfl (show inr (v31) from qv31) (fun b32 => ?_) (fun b32 => ?_)
                  · refine Ew_of (pcₚ := 120) (fun _ => x_iinc (len := 3) rfl (rk_o (rk_o (l37_10) rfl rfl) rfl rfl)) ?_
                    refine Ew_of (pcₚ := 37) (fun _ => x_goto rfl rfl) ?_
                    have hbq1 : BSQ (cutP ((u0_1)) ((w12_2))) (hdF (cu0 (cutP ((u0_1)) ((w1))) ((a2)) (p2 ((u0_0)))) ((x12_5)) ((x12_6)) (cutP ((u0_1)) ((w12_2)))) (cu0 (cutP ((u0_1)) ((w1))) ((a2)) (p2 ((u0_0)))) (((x37_10 + 1))) ((x37_8)) ((x37_9)) := by first | exact BSQ_y j37_b (by omega) hcu (by rw [cutP_in (by omega)]; omega) (by omega) (by omega) rfl rfl rfl | exact BSQ_n j37_b (by omega) hcu (fun q => by have q1 := q.1; have q2 := q.2.1; have q3 := q.2.2; rw [cutP_in (by omega)] at q1; omega) (cu0_r (by omega) _).1 rfl rfl rfl
                    have hg1 : GRN ((w12_2)) (x12_5) (a2) (x37_8) ((x37_10 + 1)) := by first | exact GRN_hit (by omega) | exact GRN_s (by assumption) rfl (fun qa qb => by omega)
                    exact ih37 _ (msE hm37 q_16 (q_17 b8)) _ _ _ _ (x37_8) (x37_9) ((x37_10 + 1)) (rk_o (rk_o (rk_o (l37_0) rfl rfl) rfl rfl) rfl rfl) (rk_o (rk_o (rk_o (l37_1) rfl rfl) rfl rfl) rfl rfl) (rk_o (rk_o (rk_o (l37_2) rfl rfl) rfl rfl) rfl rfl) (rk_o (rk_o (rk_o (l37_4) rfl rfl) rfl rfl) rfl rfl) (rk_o (rk_o (rk_o (l37_5) rfl rfl) rfl rfl) rfl rfl) (rk_o (rk_o (rk_o (l37_6) rfl rfl) rfl rfl) rfl rfl) (rk_o (rk_o (rk_o (l37_7) rfl rfl) rfl rfl) rfl rfl) (rk_o (rk_o (rk_o (l37_8) rfl rfl) rfl rfl) rfl rfl) (rk_o (rk_o (rk_o (l37_9) rfl rfl) rfl rfl) rfl rfl) (rk_s) H O (hS_37) (hA_37)     (show inr (x37_8) from j37_0) (show inr (x37_9) from j37_1) (show inr ((x37_10 + 1)) from q_3554 b8 h3 j37_3 r4) (show (0) ≤ ((x37_10 + 1)) from q_14 j37_3) (show ((x37_10 + 1)) ≤ (0) ∨ ((x37_10 + 1)) ≤ ((u0_1)) from q_13 b8) (show -1 ≤ (x37_8) ∧ (x37_8) < ((u0_1)) from j37_5) (show (x37_8) = -1 ∧ (x37_9) = -1 ∨ 0 ≤ (x37_8) ∧ 0 ≤ (x37_9) ∧ 0 < ((w12_2)) (x37_8) from j37_6) (hg1) (hbq1) rfl
                  · refine Ew_of (pcₚ := 99) (fun _ => x_iload rfl rk_s) ?_
                    refine w_ifeq (t := 117) rfl rfl (show inr (1) from q_135) (fun b33 => ?_) (fun b33 => ?_)
                    · refine Ew_of (pcₚ := 120) (fun _ => x_iinc (len := 3) rfl (rk_o (rk_o (l37_10) rfl rfl) rfl rfl)) ?_
                      refine Ew_of (pcₚ := 37) (fun _ => x_goto rfl rfl) ?_
                      have hbq1 : BSQ (cutP ((u0_1)) ((w12_2))) (hdF (cu0 (cutP ((u0_1)) ((w1))) ((a2)) (p2 ((u0_0)))) ((x12_5)) ((x12_6)) (cutP ((u0_1)) ((w12_2)))) (cu0 (cutP ((u0_1)) ((w1))) ((a2)) (p2 ((u0_0)))) (((x37_10 + 1))) ((x37_8)) ((x37_9)) := by first | exact BSQ_y j37_b (by omega) hcu (by rw [cutP_in (by omega)]; omega) (by omega) (by omega) rfl rfl rfl | exact BSQ_n j37_b (by omega) hcu (fun q => by have q1 := q.1; have q2 := q.2.1; have q3 := q.2.2; rw [cutP_in (by omega)] at q1; omega) (cu0_r (by omega) _).1 rfl rfl rfl
                      have hg1 : GRN ((w12_2)) (x12_5) (a2) (x37_8) ((x37_10 + 1)) := by first | exact GRN_hit (by omega) | exact GRN_s (by assumption) rfl (fun qa qb => by omega)
                      exact ih37 _ (msE hm37 q_16 (q_17 b8)) _ _ _ _ (x37_8) (x37_9) ((x37_10 + 1)) (rk_o (rk_o (rk_o (l37_0) rfl rfl) rfl rfl) rfl rfl) (rk_o (rk_o (rk_o (l37_1) rfl rfl) rfl rfl) rfl rfl) (rk_o (rk_o (rk_o (l37_2) rfl rfl) rfl rfl) rfl rfl) (rk_o (rk_o (rk_o (l37_4) rfl rfl) rfl rfl) rfl rfl) (rk_o (rk_o (rk_o (l37_5) rfl rfl) rfl rfl) rfl rfl) (rk_o (rk_o (rk_o (l37_6) rfl rfl) rfl rfl) rfl rfl) (rk_o (rk_o (rk_o (l37_7) rfl rfl) rfl rfl) rfl rfl) (rk_o (rk_o (rk_o (l37_8) rfl rfl) rfl rfl) rfl rfl) (rk_o (rk_o (rk_o (l37_9) rfl rfl) rfl rfl) rfl rfl) (rk_s) H O (hS_37) (hA_37)     (show inr (x37_8) from j37_0) (show inr (x37_9) from j37_1) (show inr ((x37_10 + 1)) from q_3554 b8 h3 j37_3 r4) (show (0) ≤ ((x37_10 + 1)) from q_14 j37_3) (show ((x37_10 + 1)) ≤ (0) ∨ ((x37_10 + 1)) ≤ ((u0_1)) from q_13 b8) (show -1 ≤ (x37_8) ∧ (x37_8) < ((u0_1)) from j37_5) (show (x37_8) = -1 ∧ (x37_9) = -1 ∨ 0 ≤ (x37_8) ∧ 0 ≤ (x37_9) ∧ 0 < ((w12_2)) (x37_8) from j37_6) (hg1) (hbq1) rfl
                    · refine Ew_of (pcₚ := 104) (fun _ => x_iload rfl (rk_o (rk_s) rfl rfl)) ?_
                      refine Ew_of (pcₚ := 106) (fun _ => x_iload rfl (rk_o (rk_o (l37_9) rfl rfl) rfl rfl)) ?_
                      refine w_icmple (t := 117) rfl rfl (show inr (((v14 * p2 (u0_0)) % a2)) from q_3557 b21 j12_1) (show inr (x37_9) from j37_1) (fun b34 => ?_) (fun b34 => ?_)
                      · refine Ew_of (pcₚ := 120) (fun _ => x_iinc (len := 3) rfl (rk_o (rk_o (l37_10) rfl rfl) rfl rfl)) ?_
                        refine Ew_of (pcₚ := 37) (fun _ => x_goto rfl rfl) ?_
                        have hbq1 : BSQ (cutP ((u0_1)) ((w12_2))) (hdF (cu0 (cutP ((u0_1)) ((w1))) ((a2)) (p2 ((u0_0)))) ((x12_5)) ((x12_6)) (cutP ((u0_1)) ((w12_2)))) (cu0 (cutP ((u0_1)) ((w1))) ((a2)) (p2 ((u0_0)))) (((x37_10 + 1))) ((x37_8)) ((x37_9)) := by first | exact BSQ_y j37_b (by omega) hcu (by rw [cutP_in (by omega)]; omega) (by omega) (by omega) rfl rfl rfl | exact BSQ_n j37_b (by omega) hcu (fun q => by have q1 := q.1; have q2 := q.2.1; have q3 := q.2.2; rw [cutP_in (by omega)] at q1; omega) (cu0_r (by omega) _).1 rfl rfl rfl
                        have hg1 : GRN ((w12_2)) (x12_5) (a2) (x37_8) ((x37_10 + 1)) := by first | exact GRN_hit (by omega) | exact GRN_s (by assumption) rfl (fun qa qb => by omega)
                        exact ih37 _ (msE hm37 q_16 (q_17 b8)) _ _ _ _ (x37_8) (x37_9) ((x37_10 + 1)) (rk_o (rk_o (rk_o (l37_0) rfl rfl) rfl rfl) rfl rfl) (rk_o (rk_o (rk_o (l37_1) rfl rfl) rfl rfl) rfl rfl) (rk_o (rk_o (rk_o (l37_2) rfl rfl) rfl rfl) rfl rfl) (rk_o (rk_o (rk_o (l37_4) rfl rfl) rfl rfl) rfl rfl) (rk_o (rk_o (rk_o (l37_5) rfl rfl) rfl rfl) rfl rfl) (rk_o (rk_o (rk_o (l37_6) rfl rfl) rfl rfl) rfl rfl) (rk_o (rk_o (rk_o (l37_7) rfl rfl) rfl rfl) rfl rfl) (rk_o (rk_o (rk_o (l37_8) rfl rfl) rfl rfl) rfl rfl) (rk_o (rk_o (rk_o (l37_9) rfl rfl) rfl rfl) rfl rfl) (rk_s) H O (hS_37) (hA_37)     (show inr (x37_8) from j37_0) (show inr (x37_9) from j37_1) (show inr ((x37_10 + 1)) from q_3554 b8 h3 j37_3 r4) (show (0) ≤ ((x37_10 + 1)) from q_14 j37_3) (show ((x37_10 + 1)) ≤ (0) ∨ ((x37_10 + 1)) ≤ ((u0_1)) from q_13 b8) (show -1 ≤ (x37_8) ∧ (x37_8) < ((u0_1)) from j37_5) (show (x37_8) = -1 ∧ (x37_9) = -1 ∨ 0 ≤ (x37_8) ∧ 0 ≤ (x37_9) ∧ 0 < ((w12_2)) (x37_8) from j37_6) (hg1) (hbq1) rfl
                      · refine Ew_of (pcₚ := 111) (fun _ => x_iload rfl (rk_o (rk_o (l37_10) rfl rfl) rfl rfl)) ?_
                        refine Ew_of (pcₚ := 113) (fun _ => x_istore rfl) ?_
                        refine Ew_of (pcₚ := 115) (fun _ => x_iload rfl (rk_o (rk_o (rk_s) rfl rfl) rfl rfl)) ?_
                        refine Ew_of (pcₚ := 117) (fun _ => x_istore rfl) ?_
                        refine Ew_of (pcₚ := 120) (fun _ => x_iinc (len := 3) rfl (rk_o (rk_o (rk_o (rk_o (l37_10) rfl rfl) rfl rfl) rfl rfl) rfl rfl)) ?_
                        refine Ew_of (pcₚ := 37) (fun _ => x_goto rfl rfl) ?_
                        have hbq1 : BSQ (cutP ((u0_1)) ((w12_2))) (hdF (cu0 (cutP ((u0_1)) ((w1))) ((a2)) (p2 ((u0_0)))) ((x12_5)) ((x12_6)) (cutP ((u0_1)) ((w12_2)))) (cu0 (cutP ((u0_1)) ((w1))) ((a2)) (p2 ((u0_0)))) (((x37_10 + 1))) ((x37_10)) ((((v14 * p2 (u0_0)) % a2))) := by first | exact BSQ_y j37_b (by omega) hcu (by rw [cutP_in (by omega)]; omega) (by omega) (by omega) rfl rfl rfl | exact BSQ_n j37_b (by omega) hcu (fun q => by have q1 := q.1; have q2 := q.2.1; have q3 := q.2.2; rw [cutP_in (by omega)] at q1; omega) (cu0_r (by omega) _).1 rfl rfl rfl
                        have hg1 : GRN ((w12_2)) (x12_5) (a2) (x37_10) ((x37_10 + 1)) := by first | exact GRN_hit (by omega) | exact GRN_s (by assumption) rfl (fun qa qb => by omega)
                        exact ih37 _ (msE hm37 q_16 (q_17 b8)) _ _ _ _ (x37_10) (((v14 * p2 (u0_0)) % a2)) ((x37_10 + 1)) (rk_o (rk_o (rk_o (rk_o (rk_o (l37_0) rfl rfl) rfl rfl) rfl rfl) rfl rfl) rfl rfl) (rk_o (rk_o (rk_o (rk_o (rk_o (l37_1) rfl rfl) rfl rfl) rfl rfl) rfl rfl) rfl rfl) (rk_o (rk_o (rk_o (rk_o (rk_o (l37_2) rfl rfl) rfl rfl) rfl rfl) rfl rfl) rfl rfl) (rk_o (rk_o (rk_o (rk_o (rk_o (l37_4) rfl rfl) rfl rfl) rfl rfl) rfl rfl) rfl rfl) (rk_o (rk_o (rk_o (rk_o (rk_o (l37_5) rfl rfl) rfl rfl) rfl rfl) rfl rfl) rfl rfl) (rk_o (rk_o (rk_o (rk_o (rk_o (l37_6) rfl rfl) rfl rfl) rfl rfl) rfl rfl) rfl rfl) (rk_o (rk_o (rk_o (rk_o (rk_o (l37_7) rfl rfl) rfl rfl) rfl rfl) rfl rfl) rfl rfl) (rk_o (rk_o (rk_s) rfl rfl) rfl rfl) (rk_o (rk_s) rfl rfl) (rk_s) H O (hS_37) (hA_37)     (show inr (x37_10) from j37_2) (show inr (((v14 * p2 (u0_0)) % a2)) from q_3558 b21 b34 j12_1 j37_1) (show inr ((x37_10 + 1)) from q_3554 b8 h3 j37_3 r4) (show (0) ≤ ((x37_10 + 1)) from q_14 j37_3) (show ((x37_10 + 1)) ≤ (0) ∨ ((x37_10 + 1)) ≤ ((u0_1)) from q_13 b8) (show -1 ≤ (x37_10) ∧ (x37_10) < ((u0_1)) from q_3555 b8 j37_3) (show (x37_10) = -1 ∧ (((v14 * p2 (u0_0)) % a2)) = -1 ∨ 0 ≤ (x37_10) ∧ 0 ≤ (((v14 * p2 (u0_0)) % a2)) ∧ 0 < ((w12_2)) (x37_10) by omega) (hg1) (hbq1) rfl
abbrev V178_Ir : vV := [(0, 8, [(0, 0), (0, 0), (4, 0), (4, 0), (4, 0), (4, 0), (4, 0), (4, 0), (4, 0), (4, 0), (4, 0), (0, 0), (0, 0)]), (1, 1, []), (1, 1, [])]
theorem len_V178_Ir_oz_E4cls : (V178_Ir).length = 3 := by decide +kernel
theorem oz_E4cls_6 : vsub V178_Ir V179_Ir [0, 1, 2] = true := by decide +kernel
theorem oz_E4cls_7 : vsub V178_Ir V180 [0, 2] = true := by decide +kernel
def oz_E4clsl_3 : List (Nat × Nat) := [(0, 0)]
theorem oz_E4cls_8 : (oz_E4clsl_3).all (fun p => !tbz 1 (Nat.add (Nat.mul 32 p.1) p.2)) = true := by decide +kernel
def oz_E4clsl_4 : List Nat := [0, 1, 2]
theorem oz_E4cls_9 : okc oz_E4clsl_4 524800 = true := by decide +kernel
def oz_E4clsl_5 : List Nat := [0, 2]
theorem oz_E4cls_10 : okc oz_E4clsl_5 1024 = true := by decide +kernel
set_option maxHeartbeats 16000000 in
theorem C178_Ir {σE : rS} {D N : Nat → Nat} {F : hF} {A : hA} {d c s : Nat} {Q : wQ} (H : HW V178_Ir σE D N F A) {a2 a3 : Int} (pf2 : F 0 2 = (D 2 : Int)) (n1 : Int) (en1 : (N 1 : Int) = n1) (n2 : Int) (en2 : (N 2 : Int) = n2) (u0_0 : Int) (eu0_0 : F 0 0 = u0_0) (u0_1 : Int) (eu0_1 : F 0 1 = u0_1) (w1 : Int → Int) (ew1 : A 1 = w1) (w2 : Int → Int) (ew2 : A 2 = w2) (h0 : inr (a2)) (h1 : inr (a3)) (h2 : CNT ((w1)) ((u0_1)) (a2) (a3)) (h3 : ((u0_1)) ≤ (n1) ∧ (n2) = ((u0_1))) (k : ∀ (σ : rS) (Fₚ : hF) (Aₚ : hA), HW V178_Ir σ D N Fₚ Aₚ → OUT (V178_Ir).length D N σE c s D N σ c s → SF [(0, 0)] F Fₚ → SA [2] A Aₚ → ∀ y0_0 : Int, Fₚ 0 0 = y0_0 → ∀ v2 : Int → Int, Aₚ 2 = v2 → (SHD ((v2)) ((u0_1)) ((y0_0))) → (DVI ((w1)) ((v2)) ((u0_1))) → ((y0_0) = (a3)) → (DVF (cutP ((u0_1)) ((w1))) ((a2)) (p2 (a3)) (cutP ((u0_1)) ((v2)))) → Q none σ c s) : Ew 178 (d + 1) 0 (rargs 0 [.ref (D 0), .ref (D 1), I a2, I a3]) [] σE c s Q := by
  have O := OUT_refl (n := (V178_Ir).length) (D := D) (N := N) (σ := σE) (c := c) (s := s)
  have HE := H
  have r1 : (-2147483648 : Int) ≤ u0_0 ∧ u0_0 ≤ 2147483647 := rngE (show (-2147483648 : Int) ≤ F 0 0 ∧ F 0 0 ≤ 2147483647 from H.krg 0 0 (ltn len_V178_Ir_oz_E4cls rfl)) (show F 0 0 = u0_0 from (eu0_0))
  have r2 : (-2147483648 : Int) ≤ u0_1 ∧ u0_1 ≤ 2147483647 := rngE (show (-2147483648 : Int) ≤ F 0 1 ∧ F 0 1 ≤ 2147483647 from H.krg 0 1 (ltn len_V178_Ir_oz_E4cls rfl)) (show F 0 1 = u0_1 from (eu0_1))
  have r3 : (0 : Int) ≤ n1 ∧ n1 ≤ 1000000 := nleE (H.nle 1 (ltn len_V178_Ir_oz_E4cls rfl)) (show (N 1 : Int) = n1 from en1)
  have r4 : (0 : Int) ≤ n2 ∧ n2 ≤ 1000000 := nleE (H.nle 2 (ltn len_V178_Ir_oz_E4cls rfl)) (show (N 2 : Int) = n2 from en2)
  have hC : CNT ((w1)) ((u0_1)) (a2) (a3) := h2
  have hc0 := CNT_f hC
  refine Ew_of (pcₚ := 1) (fun _ => x_aload_n rfl rfl) ?_
  refine Ew_of (pcₚ := 2) (fun _ => x_iload_n rfl rfl) ?_
  refine v_p H (o := 0) (z := a3) (v := I (a3)) rfl rfl rfl rfl rfl rfl rfl rfl (show (-2147483648 : Int) ≤ a3 ∧ a3 ≤ 2147483647 from q_31 h1) (fun σ H Oₚ => ?_)
  have O := OUT_trans O Oₚ
  have cFu5 : SF oz_E4clsl_3 F (updF F 0 0 (a3)) := SF_upd (SF_refl) rfl
  have mFu5 := SFm_of cFu5 oz_E4cls_8
  refine Ew_of (pcₚ := 6) (fun _ => x_iconst rfl) ?_
  refine Ew_of (pcₚ := 7) (fun _ => x_aload_n rfl rfl) ?_
  refine v_g H (o := 0) (v := I (a3)) rfl rfl rfl rfl rfl (congrArg (fun z : Int => I z) (rfl : (updF F 0 0 (a3)) 0 0 = a3)) ?_
  refine w_ishl1 rfl (show 0 ≤ a3 ∧ a3 ≤ 31 by omega) ?_
  refine Ew_of (pcₚ := 13) (fun _ => x_istore rfl) ?_
  refine Ew_of (pcₚ := 14) (fun _ => x_iconst rfl) ?_
  refine Ew_of (pcₚ := 16) (fun _ => x_istore rfl) ?_
  have hx0 : DVX ((w1)) ((w2)) ((a2)) (p2 (a3)) ((u0_1)) 0 := DVX_0
  have hd0 : DVI ((w1)) ((w2)) 0 := fun s a b => by omega
  have hj0 : DVJ ((w1)) ((w2)) 0 (a2) (p2 (a3)) := fun s a b c => by omega
  have : mp ((w2)) 0 = 0 := rfl
  suffices hl16 : ∀ (m : Nat), ∀ (ls : rO) (σ : rS) (F_16 : hF) (A_16 : hA) (x16_4 : Int) (x16_5 : Int), rlook ls 0 = some (.ref (D 0)) → rlook ls 1 = some (.ref (D 1)) → rlook ls 2 = some (I (a2)) → rlook ls 4 = some (I (x16_4)) → rlook ls 5 = some (I (x16_5)) → HW V178_Ir σ D N F_16 A_16 → OUT (V178_Ir).length D N σE c s D N σ c s → SF [] (updF F 0 0 (a3)) F_16 → SA [2] A A_16 → ∀ w16_2 : Int → Int, A_16 2 = w16_2 → (inr (x16_4)) → (inr (x16_5)) → ((0) ≤ (x16_5)) → ((x16_5) ≤ (0) ∨ (x16_5) ≤ ((u0_1))) → ((x16_4) = p2 (a3) - mp ((w16_2)) (x16_5)) → ((x16_4) ≤ 512 ∧ -512 * (x16_5) ≤ (x16_4)) → (DVI ((w1)) ((w16_2)) (x16_5)) → (DVJ ((w1)) ((w16_2)) (x16_5) (a2) (p2 (a3))) → (DVX ((w1)) ((w16_2)) ((a2)) (p2 (a3)) ((u0_1)) ((x16_5))) → (((u0_1)) - (x16_5)).toNat = m → Ew 178 (d + 1) 16 ls [] σ c s Q from
    hl16 _ _ _ _ _ (p2 (a3)) (0) (rk_o (rk_o (rfl) rfl rfl) rfl rfl) (rk_o (rk_o (rfl) rfl rfl) rfl rfl) (rk_o (rk_o (rfl) rfl rfl) rfl rfl) (rk_o (rk_s) rfl rfl) (rk_s) H O (SF_refl) (SA_refl)    (w2) (ew2) (show inr (p2 (a3)) by omega) (show inr (0) from q_2) (show (0) ≤ (0) from q_1) (show (0) ≤ (0) ∨ (0) ≤ ((u0_1)) from q_5) (show (p2 (a3)) = p2 (a3) - mp ((w2)) (0) by omega) (show (p2 (a3)) ≤ 512 ∧ -512 * (0) ≤ (p2 (a3)) by omega) (hd0) (hj0) (hx0) rfl
  as_aux_lemma =>
  intro m
  induction m using Nat.strongRecOn with
  | _ m ih16 =>
    intro ls σ F_16 A_16 x16_4 x16_5 l16_0 l16_1 l16_2 l16_4 l16_5 H O hS_16 hA_16    w16_2 ew16_2 j16_0 j16_1 j16_2 j16_3 j16_4 j16_5 j16_6 j16_7 j16_8 hm16
    have cF_16 : SF oz_E4clsl_3 F F_16 := SF_trans (cFu5) hS_16 (any_sub (by decide +kernel))
    have mF_16 := SFm_of cF_16 oz_E4cls_8
    have cA_16 : SA oz_E4clsl_2 A A_16 := SA_trans (SA_refl) hA_16 (any_subA (by decide +kernel))
    have mA_16 := SAm_of cA_16 oz_E4cls_4
    have j16_x : DVX ((w1)) ((w16_2)) ((a2)) (p2 (a3)) ((u0_1)) ((x16_5)) := j16_8
    refine Ew_of (pcₚ := 18) (fun _ => x_iload rfl l16_5) ?_
    refine Ew_of (pcₚ := 19) (fun _ => x_aload_n rfl l16_0) ?_
    refine v_g H (o := 0) (v := I (u0_1)) rfl rfl rfl rfl rfl (congrArg (fun z : Int => I z) (((mF_16 0 1 rfl).trans (eu0_1)) : F_16 0 1 = u0_1)) ?_
    refine w_icmpge (t := 98) rfl rfl (show inr (x16_5) from j16_1) (show inr (u0_1) from q_18 r2) (fun b7 => ?_) (fun b7 => ?_)
    · have hXn : DVX ((w1)) ((w16_2)) ((a2)) (p2 (a3)) ((u0_1)) ((u0_1)) := by have h := j16_x; rw [show (x16_5) = ((u0_1)) by omega] at h; exact h
      have hl5 : (x16_5) = ((u0_1)) := q_3559 b7 h3 j16_3 r4
      have hDn : DVI ((w1)) ((w16_2)) ((u0_1)) := by rw [← hl5]; assumption
      have hJn : DVJ ((w1)) ((w16_2)) ((u0_1)) (a2) (p2 (a3)) := by rw [← hl5]; assumption
      have hEx : EXC2 ((w16_2)) ((u0_1)) := EXC2_of hJn hC.2.1 hC.2.2.2.2.1 (by omega) (by omega)
      have hl4 : (x16_4) = p2 (a3) - mp ((w16_2)) ((u0_1)) := by rw [← hl5]; omega
      refine Ew_of (pcₚ := 99) (fun _ => x_aload_n rfl l16_0) ?_
      refine Ew_of (pcₚ := 100) (fun _ => x_aload_n rfl l16_1) ?_
      refine Ew_of (pcₚ := 101) (fun _ => x_iload_n rfl l16_2) ?_
      refine Ew_of (pcₚ := 103) (fun _ => x_iload rfl l16_4) ?_
      refine v_inv H (o := 0) rfl rfl rfl rfl rfl rfl (by rfl) (C179_Ir (D := puc 524800 D) (N := puc 524800 N) (HW_subc H oz_E4cls_6 oz_E4cls_9) ((mF_16 0 2 rfl).trans (pf2)) (n1) (en1) (n2) (en2) (a3) ((hS_16 0 0 rfl)) (u0_1) (((mF_16 0 1 rfl).trans (eu0_1))) (w1) ((funext (mA_16 1 rfl)).trans (ew1)) (w16_2) (ew16_2) (show inr (a2) from h0) (show inr (x16_4) from j16_0) (hC) (show ((u0_1)) ≤ (n1) ∧ (n2) = ((u0_1)) from h3) (hDn) (hEx) (show (x16_4) = p2 ((a3)) - mp ((w16_2)) ((u0_1)) from hl4) (hXn) (fun σ8 F8ₚ A8ₚ Hₚ Oₚ hS8 hA8 w8_2 ew8_2 pz8_0 pz8_1 pz8_2 => ⟨rfl, ?_⟩))
      refine v_backc (c := c) (s := s) H oz_E4cls_6 oz_E4cls_9 Hₚ Oₚ (fun F8 A8 H Oₚ eF8 eA8 => ?_)
      have O := OUT_trans O Oₚ
      -- Share.giveRest
      have cF8 : SF oz_E4clsl_3 F F8 := SF_trans (cF_16) (SF_gluc (ι := oz_E4clsl_4) oz_E4cls_9 hS8 eF8 (by decide +kernel)) (any_sub (lₚ := []) (by decide +kernel))
      have mF8 := SFm_of cF8 oz_E4cls_8
      have cA8 : SA oz_E4clsl_2 A A8 := SA_trans (cA_16) (SA_gluc (ι := oz_E4clsl_4) oz_E4cls_9 hA8 eA8 (by decide +kernel)) (any_subA (lₚ := [2]) (by decide +kernel))
      have mA8 := SAm_of cA8 oz_E4cls_4
      have hpp := hC.2.2.2.2.1
      obtain ⟨lq, hlq1, hlq2, hlq3⟩ := pz8_2
      refine Ew_of (pcₚ := 107) (fun _ => x_aload_n rfl l16_0) ?_
      refine Ew_of (pcₚ := 109) (fun _ => x_iload rfl l16_4) ?_
      refine w_ineg rfl ?_
      refine v_inv H (o := 0) rfl rfl rfl rfl rfl rfl (by rfl) (C180 (D := puc 1024 D) (N := puc 1024 N) (HW_subc H oz_E4cls_7 oz_E4cls_10) ((mF8 0 2 rfl).trans (pf2)) (n2) (en2) (a3) ((((show F8 0 0 = F_16 0 0 from (eF8 0 0).trans (hS8 0 0 rfl))).trans (hS_16 0 0 rfl))) (u0_1) (((mF8 0 1 rfl).trans (eu0_1))) (w8_2) ((eA8 2).trans ew8_2) (((w1))) ((a2)) (lq) (show inr ((-x16_4)) by omega) (show (n2) = ((u0_1)) ∧ 1 ≤ ((u0_1)) ∧ ((u0_1)) ≤ 64 by omega) (pz8_0) (show su (fun i => pos1 ((((w1))) i)) (((u0_1)) : Int).toNat ≤ p2 ((a3)) ∧ p2 ((a3)) ≤ 512 ∧ mp ((w8_2)) ((u0_1)) ≤ 40000 by omega) (show ((-x16_4)) ≤ 0 ∨ p2 ((a3)) + ((-x16_4)) ≤ mp ((w8_2)) ((u0_1)) from q_3560 hl4 pz8_1) (show DVT (((w1))) (((a2))) (p2 ((a3))) ((u0_1)) ((w8_2)) ((lq)) by assumption) (show (lq) = -((-x16_4)) ∨ ((-x16_4)) ≤ 0 ∧ (lq) = 0 by omega) (fun σ9 F9ₚ A9ₚ Hₚ Oₚ hS9 hA9 w9_1 ew9_1 pz9_0 pz9_1 pz9_2 => ⟨rfl, ?_⟩))
      refine v_backc (c := c) (s := s) H oz_E4cls_7 oz_E4cls_10 Hₚ Oₚ (fun F9 A9 H Oₚ eF9 eA9 => ?_)
      have O := OUT_trans O Oₚ
      -- Share.takeExcess
      have cF9 : SF oz_E4clsl_3 F F9 := SF_trans (cF8) (SF_gluc (ι := oz_E4clsl_5) oz_E4cls_10 hS9 eF9 (by decide +kernel)) (any_sub (lₚ := []) (by decide +kernel))
      have mF9 := SFm_of cF9 oz_E4cls_8
      have cA9 : SA oz_E4clsl_2 A A9 := SA_trans (cA8) (SA_gluc (ι := oz_E4clsl_5) oz_E4cls_10 hA9 eA9 (by decide +kernel)) (any_subA (lₚ := [2]) (by decide +kernel))
      have mA9 := SAm_of cA9 oz_E4cls_4
      have hDF := pz9_2
      have hDe := pz9_0
      have hSD : SHD ((w9_1)) ((u0_1)) (a3) := ⟨.inr ⟨by omega, by omega⟩, by omega, by omega, fun s a b => by have := hDe s a b; omega, by omega⟩
      exact w_ret rfl (k _ _ _ H O (cF9) (cA9) (a3) (((((show F9 0 0 = F8 0 0 from (eF9 0 0).trans (hS9 0 0 rfl))).trans ((show F8 0 0 = F_16 0 0 from (eF8 0 0).trans (hS8 0 0 rfl)))).trans (hS_16 0 0 rfl))) (w9_1) ((eA9 2).trans ew9_1) (hSD) (pz9_0) (show (a3) = a3 from q_303) (pz9_2))
    · refine Ew_of (pcₚ := 26) (fun _ => x_aload_n rfl l16_1) ?_
      refine Ew_of (pcₚ := 28) (fun _ => x_iload rfl l16_5) ?_
      refine v_lI H (o := 1) rfl rfl rfl rfl (n := n1) (en1) (show 0 ≤ x16_5 ∧ x16_5 < n1 from q_3552 b7 h3 j16_2) (fun v10 ev10 qv10 => ?_)
      have ev10 : (w1) (x16_5) = v10 := (congrFun ((funext (mA_16 1 rfl)).trans (ew1)) (x16_5)).symm.trans ev10
      have hcb := hC.1 ((x16_5)) (by omega) (by omega)
      have hcv := ev10
      have hcm := cmul (v := (v10)) (t := (a2)) (p := p2 (a3)) (by omega) (by omega) (by omega) (by omega) (by omega) (by omega)
      refine Ew_of (pcₚ := 30) (fun _ => x_aload_n rfl l16_0) ?_
      refine v_g H (o := 0) (v := I (a3)) rfl rfl rfl rfl rfl (congrArg (fun z : Int => I z) ((hS_16 0 0 rfl) : F_16 0 0 = a3)) ?_
      refine w_ishlT rfl (show 0 ≤ a3 ∧ a3 ≤ 31 by omega) ?_
      refine Ew_of (pcₚ := 36) (fun _ => x_istore rfl) ?_
      obtain ⟨q6, hq6⟩ : ∃ q : Int, q = ((v10 * p2 (a3))) := ⟨_, rfl⟩
      refine Ew_of (pcₚ := 37) (fun _ => x_aload_n rfl (rk_o (l16_0) rfl rfl)) ?_
      refine v_g H (o := 0) (v := .ref (D 2)) rfl rfl rfl rfl rfl (vrf ((mF_16 0 2 rfl).trans (pf2))) ?_
      refine Ew_of (pcₚ := 42) (fun _ => x_iload rfl (rk_o (l16_5) rfl rfl)) ?_
      refine Ew_of (pcₚ := 44) (fun _ => x_iload rfl rk_s) ?_
      refine w_ifne (t := 51) rfl rfl (show inr ((v10 * p2 (a3))) by omega) (fun b12 => ?_) (fun b12 => ?_)
      · refine Ew_of (pcₚ := 53) (fun _ => x_iload rfl rk_s) ?_
        refine Ew_of (pcₚ := 54) (fun _ => x_iload_n rfl (rk_o (l16_2) rfl rfl)) ?_
        refine w_icmpge (t := 61) rfl rfl (show inr ((v10 * p2 (a3))) by omega) (show inr (a2) from h0) (fun b13 => ?_) (fun b13 => ?_)
        · refine Ew_of (pcₚ := 63) (fun _ => x_iload rfl rk_s) ?_
          refine Ew_of (pcₚ := 64) (fun _ => x_iload_n rfl (rk_o (l16_2) rfl rfl)) ?_
          refine w_idiv rfl (show inr ((v10 * p2 (a3))) ∧ 0 ≤ (v10 * p2 (a3)) by omega) (show inr (a2) ∧ 0 < a2 by omega) ?_
          have hdz : (((v10 * p2 (a3)) / a2)) = dv0 (cutP ((u0_1)) ((w1))) ((a2)) (p2 (a3)) ((x16_5)) := by have h := dv0_eq (cutP ((u0_1)) ((w1))) ((a2)) (p2 (a3)) ((x16_5)) q6 (by rw [hq6, cutP_in (by omega), hcv]); first | (rw [← hq6]; omega) | omega
          have hdv : ((w1)) (x16_5) = 0 ∧ ((((v10 * p2 (a3)) / a2)) : Int) = 0 ∨ 1 ≤ ((w1)) (x16_5) ∧ (((((v10 * p2 (a3)) / a2)) : Int) = -1 ∨ (1 : Int) ≤ (((v10 * p2 (a3)) / a2))) := by omega
          have hdj : ((((v10 * p2 (a3)) / a2)) : Int) ≤ 0 → ((w1)) (x16_5) * p2 (a3) ≤ ((a2) - 1) * pos1 (((w1)) (x16_5)) := fun q => by rw [hcv]; exact dj_of (by omega) (by omega) (by omega)
          have hsb : -1 ≤ ((((v10 * p2 (a3)) / a2)) : Int) ∧ (((v10 * p2 (a3)) / a2)) ≤ 512 := by omega
          have hus := upd1_s (a := ((w16_2))) (j := (x16_5)) (z := (((v10 * p2 (a3)) / a2)))
          refine v_sI H (o := 2) (z := ((v10 * p2 (a3)) / a2)) rfl rfl rfl rfl (n := n2) (en2) (show 0 ≤ x16_5 ∧ x16_5 < n2 from q_3553 b7 h3 j16_2) (show inr (((v10 * p2 (a3)) / a2)) from q_3561 hsb) (fun σ H Oₚ => ?_)
          have O := OUT_trans O Oₚ
          have cAu14 : SA oz_E4clsl_2 A (updA A_16 2 (x16_5) (((v10 * p2 (a3)) / a2))) := SA_upd (cA_16) rfl
          have mAu14 := SAm_of cAu14 oz_E4cls_4
          refine Ew_of (pcₚ := 68) (fun _ => x_iload rfl (rk_o (l16_4) rfl rfl)) ?_
          refine Ew_of (pcₚ := 69) (fun _ => x_aload_n rfl (rk_o (l16_0) rfl rfl)) ?_
          refine v_g H (o := 0) (v := .ref (D 2)) rfl rfl rfl rfl rfl (vrf ((mF_16 0 2 rfl).trans (pf2))) ?_
          refine Ew_of (pcₚ := 74) (fun _ => x_iload rfl (rk_o (l16_5) rfl rfl)) ?_
          refine v_lI H (o := 2) rfl rfl rfl rfl (n := n2) (en2) (show 0 ≤ x16_5 ∧ x16_5 < n2 from q_3553 b7 h3 j16_2) (fun v15 ev15 qv15 => ?_)
          have ev15 : (upd1 (w16_2) (x16_5) (((v10 * p2 (a3)) / a2))) (x16_5) = v15 := (congrFun (congrArg (fun q => upd1 q (x16_5) (((v10 * p2 (a3)) / a2))) (ew16_2)) (x16_5)).symm.trans ev15
          refine w_ifge (t := 82) rfl rfl (show inr (v15) from qv15) (fun b16 => ?_) (fun b16 => ?_)
          · refine Ew_of (pcₚ := 83) (fun _ => x_aload_n rfl (rk_o (l16_0) rfl rfl)) ?_
            refine v_g H (o := 0) (v := .ref (D 2)) rfl rfl rfl rfl rfl (vrf ((mF_16 0 2 rfl).trans (pf2))) ?_
            refine Ew_of (pcₚ := 88) (fun _ => x_iload rfl (rk_o (l16_5) rfl rfl)) ?_
            refine v_lI H (o := 2) rfl rfl rfl rfl (n := n2) (en2) (show 0 ≤ x16_5 ∧ x16_5 < n2 from q_3553 b7 h3 j16_2) (fun v17 ev17 qv17 => ?_)
            have ev17 : (upd1 (w16_2) (x16_5) (((v10 * p2 (a3)) / a2))) (x16_5) = v17 := (congrFun (congrArg (fun q => upd1 q (x16_5) (((v10 * p2 (a3)) / a2))) (ew16_2)) (x16_5)).symm.trans ev17
            have hq : ((v17) : Int) = mass (((upd1 (w16_2) (x16_5) (((v10 * p2 (a3)) / a2)))) (x16_5)) := by have := mass_eq (((upd1 (w16_2) (x16_5) (((v10 * p2 (a3)) / a2)))) (x16_5)); omega
            have hmp := mp_s (P := ((upd1 (w16_2) (x16_5) (((v10 * p2 (a3)) / a2))))) (s := (x16_5)) (by omega)
            rw [mp_low] at hmp
            refine w_isub rfl ?_
            refine Ew_of (pcₚ := 92) (fun _ => x_istore rfl) ?_
            refine Ew_of (pcₚ := 95) (fun _ => x_iinc (len := 3) rfl (rk_o (rk_o (l16_5) rfl rfl) rfl rfl)) ?_
            refine Ew_of (pcₚ := 16) (fun _ => x_goto rfl rfl) ?_
            have hx1 : DVX ((w1)) ((upd1 (w16_2) (x16_5) (((v10 * p2 (a3)) / a2)))) ((a2)) (p2 (a3)) ((u0_1)) (((x16_5 + 1))) := DVX_s j16_x hdz rfl
            have hd1 : DVI ((w1)) ((upd1 (w16_2) (x16_5) (((v10 * p2 (a3)) / a2)))) ((x16_5 + 1)) := DVI_s (by assumption) rfl hdv
            have hj1 : DVJ ((w1)) ((upd1 (w16_2) (x16_5) (((v10 * p2 (a3)) / a2)))) ((x16_5 + 1)) (a2) (p2 (a3)) := DVJ_s (by assumption) rfl hdj
            exact ih16 _ (msE hm16 q_16 (q_17 b7)) _ _ _ _ ((x16_4 - v17)) ((x16_5 + 1)) (rk_o (rk_o (rk_o (l16_0) rfl rfl) rfl rfl) rfl rfl) (rk_o (rk_o (rk_o (l16_1) rfl rfl) rfl rfl) rfl rfl) (rk_o (rk_o (rk_o (l16_2) rfl rfl) rfl rfl) rfl rfl) (rk_o (rk_s) rfl rfl) (rk_s) H O (hS_16) (SA_upd (hA_16) rfl)    (upd1 (w16_2) (x16_5) (((v10 * p2 (a3)) / a2))) (congrArg (fun q => upd1 q (x16_5) (((v10 * p2 (a3)) / a2))) (ew16_2)) (show inr ((x16_4 - v17)) by omega) (show inr ((x16_5 + 1)) from q_3563 b7 h3 j16_5 r4) (show (0) ≤ ((x16_5 + 1)) from q_3562 j16_5) (show ((x16_5 + 1)) ≤ (0) ∨ ((x16_5 + 1)) ≤ ((u0_1)) from q_13 b7) (show ((x16_4 - v17)) = p2 (a3) - mp ((upd1 (w16_2) (x16_5) (((v10 * p2 (a3)) / a2)))) ((x16_5 + 1)) by omega) (show ((x16_4 - v17)) ≤ 512 ∧ -512 * ((x16_5 + 1)) ≤ ((x16_4 - v17)) by omega) (hd1) (hj1) (hx1) rfl
          · refine Ew_of (pcₚ := 79) (fun _ => x_iconst rfl) ?_
            refine Ew_of (pcₚ := 89) (fun _ => x_goto rfl rfl) ?_
            have hq : ((1) : Int) = mass (((upd1 (w16_2) (x16_5) (((v10 * p2 (a3)) / a2)))) (x16_5)) := by have := mass_eq (((upd1 (w16_2) (x16_5) (((v10 * p2 (a3)) / a2)))) (x16_5)); omega
            have hmp := mp_s (P := ((upd1 (w16_2) (x16_5) (((v10 * p2 (a3)) / a2))))) (s := (x16_5)) (by omega)
            rw [mp_low] at hmp
            refine w_isub rfl ?_
            refine Ew_of (pcₚ := 92) (fun _ => x_istore rfl) ?_
            refine Ew_of (pcₚ := 95) (fun _ => x_iinc (len := 3) rfl (rk_o (rk_o (l16_5) rfl rfl) rfl rfl)) ?_
            refine Ew_of (pcₚ := 16) (fun _ => x_goto rfl rfl) ?_
            have hx1 : DVX ((w1)) ((upd1 (w16_2) (x16_5) (((v10 * p2 (a3)) / a2)))) ((a2)) (p2 (a3)) ((u0_1)) (((x16_5 + 1))) := DVX_s j16_x hdz rfl
            have hd1 : DVI ((w1)) ((upd1 (w16_2) (x16_5) (((v10 * p2 (a3)) / a2)))) ((x16_5 + 1)) := DVI_s (by assumption) rfl hdv
            have hj1 : DVJ ((w1)) ((upd1 (w16_2) (x16_5) (((v10 * p2 (a3)) / a2)))) ((x16_5 + 1)) (a2) (p2 (a3)) := DVJ_s (by assumption) rfl hdj
            exact ih16 _ (msE hm16 q_16 (q_17 b7)) _ _ _ _ ((x16_4 - 1)) ((x16_5 + 1)) (rk_o (rk_o (rk_o (l16_0) rfl rfl) rfl rfl) rfl rfl) (rk_o (rk_o (rk_o (l16_1) rfl rfl) rfl rfl) rfl rfl) (rk_o (rk_o (rk_o (l16_2) rfl rfl) rfl rfl) rfl rfl) (rk_o (rk_s) rfl rfl) (rk_s) H O (hS_16) (SA_upd (hA_16) rfl)    (upd1 (w16_2) (x16_5) (((v10 * p2 (a3)) / a2))) (congrArg (fun q => upd1 q (x16_5) (((v10 * p2 (a3)) / a2))) (ew16_2)) (show inr ((x16_4 - 1)) by omega) (show inr ((x16_5 + 1)) from q_3563 b7 h3 j16_5 r4) (show (0) ≤ ((x16_5 + 1)) from q_3562 j16_5) (show ((x16_5 + 1)) ≤ (0) ∨ ((x16_5 + 1)) ≤ ((u0_1)) from q_13 b7) (show ((x16_4 - 1)) = p2 (a3) - mp ((upd1 (w16_2) (x16_5) (((v10 * p2 (a3)) / a2)))) ((x16_5 + 1)) by omega) (show ((x16_4 - 1)) ≤ 512 ∧ -512 * ((x16_5 + 1)) ≤ ((x16_4 - 1)) from q_3564 j16_5) (hd1) (hj1) (hx1) rfl
        · refine Ew_of (pcₚ := 58) (fun _ => x_iconst rfl) ?_
          refine Ew_of (pcₚ := 65) (fun _ => x_goto rfl rfl) ?_
          have hdz : ((-1)) = dv0 (cutP ((u0_1)) ((w1))) ((a2)) (p2 (a3)) ((x16_5)) := by have h := dv0_eq (cutP ((u0_1)) ((w1))) ((a2)) (p2 (a3)) ((x16_5)) q6 (by rw [hq6, cutP_in (by omega), hcv]); first | (rw [← hq6]; omega) | omega
          have hdv : ((w1)) (x16_5) = 0 ∧ (((-1)) : Int) = 0 ∨ 1 ≤ ((w1)) (x16_5) ∧ ((((-1)) : Int) = -1 ∨ (1 : Int) ≤ ((-1))) := by omega
          have hdj : (((-1)) : Int) ≤ 0 → ((w1)) (x16_5) * p2 (a3) ≤ ((a2) - 1) * pos1 (((w1)) (x16_5)) := fun q => by rw [hcv]; exact dj_of (by omega) (by omega) (by omega)
          have hsb : -1 ≤ (((-1)) : Int) ∧ (((-1)) : Int) ≤ 512 := q_3565
          have hus := upd1_s (a := ((w16_2))) (j := (x16_5)) (z := ((-1)))
          refine v_sI H (o := 2) (z := (-1)) rfl rfl rfl rfl (n := n2) (en2) (show 0 ≤ x16_5 ∧ x16_5 < n2 from q_3553 b7 h3 j16_2) (show inr ((-1)) from q_63) (fun σ H Oₚ => ?_)
          have O := OUT_trans O Oₚ
          have cAu18 : SA oz_E4clsl_2 A (updA A_16 2 (x16_5) ((-1))) := SA_upd (cA_16) rfl
          have mAu18 := SAm_of cAu18 oz_E4cls_4
          refine Ew_of (pcₚ := 68) (fun _ => x_iload rfl (rk_o (l16_4) rfl rfl)) ?_
          refine Ew_of (pcₚ := 69) (fun _ => x_aload_n rfl (rk_o (l16_0) rfl rfl)) ?_
          refine v_g H (o := 0) (v := .ref (D 2)) rfl rfl rfl rfl rfl (vrf ((mF_16 0 2 rfl).trans (pf2))) ?_
          refine Ew_of (pcₚ := 74) (fun _ => x_iload rfl (rk_o (l16_5) rfl rfl)) ?_
          refine v_lI H (o := 2) rfl rfl rfl rfl (n := n2) (en2) (show 0 ≤ x16_5 ∧ x16_5 < n2 from q_3553 b7 h3 j16_2) (fun v19 ev19 qv19 => ?_)
          have ev19 : (upd1 (w16_2) (x16_5) ((-1))) (x16_5) = v19 := (congrFun (congrArg (fun q => upd1 q (x16_5) ((-1))) (ew16_2)) (x16_5)).symm.trans ev19
          refine w_ifge (t := 82) rfl rfl (show inr (v19) from qv19) (fun b20 => ?_) (fun b20 => ?_)
          · refine Ew_of (pcₚ := 83) (fun _ => x_aload_n rfl (rk_o (l16_0) rfl rfl)) ?_
            refine v_g H (o := 0) (v := .ref (D 2)) rfl rfl rfl rfl rfl (vrf ((mF_16 0 2 rfl).trans (pf2))) ?_
            refine Ew_of (pcₚ := 88) (fun _ => x_iload rfl (rk_o (l16_5) rfl rfl)) ?_
            refine v_lI H (o := 2) rfl rfl rfl rfl (n := n2) (en2) (show 0 ≤ x16_5 ∧ x16_5 < n2 from q_3553 b7 h3 j16_2) (fun v21 ev21 qv21 => ?_)
            have ev21 : (upd1 (w16_2) (x16_5) ((-1))) (x16_5) = v21 := (congrFun (congrArg (fun q => upd1 q (x16_5) ((-1))) (ew16_2)) (x16_5)).symm.trans ev21
            have hq : ((v21) : Int) = mass (((upd1 (w16_2) (x16_5) ((-1)))) (x16_5)) := by have := mass_eq (((upd1 (w16_2) (x16_5) ((-1)))) (x16_5)); omega
            have hmp := mp_s (P := ((upd1 (w16_2) (x16_5) ((-1))))) (s := (x16_5)) (by omega)
            rw [mp_low] at hmp
            refine w_isub rfl ?_
            refine Ew_of (pcₚ := 92) (fun _ => x_istore rfl) ?_
            refine Ew_of (pcₚ := 95) (fun _ => x_iinc (len := 3) rfl (rk_o (rk_o (l16_5) rfl rfl) rfl rfl)) ?_
            refine Ew_of (pcₚ := 16) (fun _ => x_goto rfl rfl) ?_
            have hx1 : DVX ((w1)) ((upd1 (w16_2) (x16_5) ((-1)))) ((a2)) (p2 (a3)) ((u0_1)) (((x16_5 + 1))) := DVX_s j16_x hdz rfl
            have hd1 : DVI ((w1)) ((upd1 (w16_2) (x16_5) ((-1)))) ((x16_5 + 1)) := DVI_s (by assumption) rfl hdv
            have hj1 : DVJ ((w1)) ((upd1 (w16_2) (x16_5) ((-1)))) ((x16_5 + 1)) (a2) (p2 (a3)) := DVJ_s (by assumption) rfl hdj
            exact ih16 _ (msE hm16 q_16 (q_17 b7)) _ _ _ _ ((x16_4 - v21)) ((x16_5 + 1)) (rk_o (rk_o (rk_o (l16_0) rfl rfl) rfl rfl) rfl rfl) (rk_o (rk_o (rk_o (l16_1) rfl rfl) rfl rfl) rfl rfl) (rk_o (rk_o (rk_o (l16_2) rfl rfl) rfl rfl) rfl rfl) (rk_o (rk_s) rfl rfl) (rk_s) H O (hS_16) (SA_upd (hA_16) rfl)    (upd1 (w16_2) (x16_5) ((-1))) (congrArg (fun q => upd1 q (x16_5) ((-1))) (ew16_2)) (show inr ((x16_4 - v21)) by omega) (show inr ((x16_5 + 1)) from q_3563 b7 h3 j16_5 r4) (show (0) ≤ ((x16_5 + 1)) from q_3562 j16_5) (show ((x16_5 + 1)) ≤ (0) ∨ ((x16_5 + 1)) ≤ ((u0_1)) from q_13 b7) (show ((x16_4 - v21)) = p2 (a3) - mp ((upd1 (w16_2) (x16_5) ((-1)))) ((x16_5 + 1)) by omega) (show ((x16_4 - v21)) ≤ 512 ∧ -512 * ((x16_5 + 1)) ≤ ((x16_4 - v21)) by omega) (hd1) (hj1) (hx1) rfl
          · refine Ew_of (pcₚ := 79) (fun _ => x_iconst rfl) ?_
            refine Ew_of (pcₚ := 89) (fun _ => x_goto rfl rfl) ?_
            have hq : ((1) : Int) = mass (((upd1 (w16_2) (x16_5) ((-1)))) (x16_5)) := by have := mass_eq (((upd1 (w16_2) (x16_5) ((-1)))) (x16_5)); omega
            have hmp := mp_s (P := ((upd1 (w16_2) (x16_5) ((-1))))) (s := (x16_5)) (by omega)
            rw [mp_low] at hmp
            refine w_isub rfl ?_
            refine Ew_of (pcₚ := 92) (fun _ => x_istore rfl) ?_
            refine Ew_of (pcₚ := 95) (fun _ => x_iinc (len := 3) rfl (rk_o (rk_o (l16_5) rfl rfl) rfl rfl)) ?_
            refine Ew_of (pcₚ := 16) (fun _ => x_goto rfl rfl) ?_
            have hx1 : DVX ((w1)) ((upd1 (w16_2) (x16_5) ((-1)))) ((a2)) (p2 (a3)) ((u0_1)) (((x16_5 + 1))) := DVX_s j16_x hdz rfl
            have hd1 : DVI ((w1)) ((upd1 (w16_2) (x16_5) ((-1)))) ((x16_5 + 1)) := DVI_s (by assumption) rfl hdv
            have hj1 : DVJ ((w1)) ((upd1 (w16_2) (x16_5) ((-1)))) ((x16_5 + 1)) (a2) (p2 (a3)) := DVJ_s (by assumption) rfl hdj
            exact ih16 _ (msE hm16 q_16 (q_17 b7)) _ _ _ _ ((x16_4 - 1)) ((x16_5 + 1)) (rk_o (rk_o (rk_o (l16_0) rfl rfl) rfl rfl) rfl rfl) (rk_o (rk_o (rk_o (l16_1) rfl rfl) rfl rfl) rfl rfl) (rk_o (rk_o (rk_o (l16_2) rfl rfl) rfl rfl) rfl rfl) (rk_o (rk_s) rfl rfl) (rk_s) H O (hS_16) (SA_upd (hA_16) rfl)    (upd1 (w16_2) (x16_5) ((-1))) (congrArg (fun q => upd1 q (x16_5) ((-1))) (ew16_2)) (show inr ((x16_4 - 1)) by omega) (show inr ((x16_5 + 1)) from q_3563 b7 h3 j16_5 r4) (show (0) ≤ ((x16_5 + 1)) from q_3562 j16_5) (show ((x16_5 + 1)) ≤ (0) ∨ ((x16_5 + 1)) ≤ ((u0_1)) from q_13 b7) (show ((x16_4 - 1)) = p2 (a3) - mp ((upd1 (w16_2) (x16_5) ((-1)))) ((x16_5 + 1)) by omega) (show ((x16_4 - 1)) ≤ 512 ∧ -512 * ((x16_5 + 1)) ≤ ((x16_4 - 1)) from q_3564 j16_5) (hd1) (hj1) (hx1) rfl
      · refine Ew_of (pcₚ := 48) (fun _ => x_iconst rfl) ?_
        refine Ew_of (pcₚ := 65) (fun _ => x_goto rfl rfl) ?_
        have hdz : (0) = dv0 (cutP ((u0_1)) ((w1))) ((a2)) (p2 (a3)) ((x16_5)) := by have h := dv0_eq (cutP ((u0_1)) ((w1))) ((a2)) (p2 (a3)) ((x16_5)) q6 (by rw [hq6, cutP_in (by omega), hcv]); first | (rw [← hq6]; omega) | omega
        have hdv : ((w1)) (x16_5) = 0 ∧ ((0) : Int) = 0 ∨ 1 ≤ ((w1)) (x16_5) ∧ (((0) : Int) = -1 ∨ (1 : Int) ≤ (0)) := by omega
        have hdj : ((0) : Int) ≤ 0 → ((w1)) (x16_5) * p2 (a3) ≤ ((a2) - 1) * pos1 (((w1)) (x16_5)) := fun q => by rw [hcv]; exact dj_of (by omega) (by omega) (by omega)
        have hsb : -1 ≤ ((0) : Int) ∧ ((0) : Int) ≤ 512 := q_1689
        have hus := upd1_s (a := ((w16_2))) (j := (x16_5)) (z := (0))
        refine v_sI H (o := 2) (z := 0) rfl rfl rfl rfl (n := n2) (en2) (show 0 ≤ x16_5 ∧ x16_5 < n2 from q_3553 b7 h3 j16_2) (show inr (0) from q_2) (fun σ H Oₚ => ?_)
        have O := OUT_trans O Oₚ
        have cAu22 : SA oz_E4clsl_2 A (updA A_16 2 (x16_5) (0)) := SA_upd (cA_16) rfl
        have mAu22 := SAm_of cAu22 oz_E4cls_4
        refine Ew_of (pcₚ := 68) (fun _ => x_iload rfl (rk_o (l16_4) rfl rfl)) ?_
        refine Ew_of (pcₚ := 69) (fun _ => x_aload_n rfl (rk_o (l16_0) rfl rfl)) ?_
        refine v_g H (o := 0) (v := .ref (D 2)) rfl rfl rfl rfl rfl (vrf ((mF_16 0 2 rfl).trans (pf2))) ?_
        refine Ew_of (pcₚ := 74) (fun _ => x_iload rfl (rk_o (l16_5) rfl rfl)) ?_
        refine v_lI H (o := 2) rfl rfl rfl rfl (n := n2) (en2) (show 0 ≤ x16_5 ∧ x16_5 < n2 from q_3553 b7 h3 j16_2) (fun v23 ev23 qv23 => ?_)
        have ev23 : (upd1 (w16_2) (x16_5) (0)) (x16_5) = v23 := (congrFun (congrArg (fun q => upd1 q (x16_5) (0)) (ew16_2)) (x16_5)).symm.trans ev23
        refine w_ifge (t := 82) rfl rfl (show inr (v23) from qv23) (fun b24 => ?_) (fun b24 => ?_)
        · refine Ew_of (pcₚ := 83) (fun _ => x_aload_n rfl (rk_o (l16_0) rfl rfl)) ?_
          refine v_g H (o := 0) (v := .ref (D 2)) rfl rfl rfl rfl rfl (vrf ((mF_16 0 2 rfl).trans (pf2))) ?_
          refine Ew_of (pcₚ := 88) (fun _ => x_iload rfl (rk_o (l16_5) rfl rfl)) ?_
          refine v_lI H (o := 2) rfl rfl rfl rfl (n := n2) (en2) (show 0 ≤ x16_5 ∧ x16_5 < n2 from q_3553 b7 h3 j16_2) (fun v25 ev25 qv25 => ?_)
          have ev25 : (upd1 (w16_2) (x16_5) (0)) (x16_5) = v25 := (congrFun (congrArg (fun q => upd1 q (x16_5) (0)) (ew16_2)) (x16_5)).symm.trans ev25
          have hq : ((v25) : Int) = mass (((upd1 (w16_2) (x16_5) (0))) (x16_5)) := by have := mass_eq (((upd1 (w16_2) (x16_5) (0))) (x16_5)); omega
          have hmp := mp_s (P := ((upd1 (w16_2) (x16_5) (0)))) (s := (x16_5)) (by omega)
          rw [mp_low] at hmp
          refine w_isub rfl ?_
          refine Ew_of (pcₚ := 92) (fun _ => x_istore rfl) ?_
          refine Ew_of (pcₚ := 95) (fun _ => x_iinc (len := 3) rfl (rk_o (rk_o (l16_5) rfl rfl) rfl rfl)) ?_
          refine Ew_of (pcₚ := 16) (fun _ => x_goto rfl rfl) ?_
          have hx1 : DVX ((w1)) ((upd1 (w16_2) (x16_5) (0))) ((a2)) (p2 (a3)) ((u0_1)) (((x16_5 + 1))) := DVX_s j16_x hdz rfl
          have hd1 : DVI ((w1)) ((upd1 (w16_2) (x16_5) (0))) ((x16_5 + 1)) := DVI_s (by assumption) rfl hdv
          have hj1 : DVJ ((w1)) ((upd1 (w16_2) (x16_5) (0))) ((x16_5 + 1)) (a2) (p2 (a3)) := DVJ_s (by assumption) rfl hdj
          exact ih16 _ (msE hm16 q_16 (q_17 b7)) _ _ _ _ ((x16_4 - v25)) ((x16_5 + 1)) (rk_o (rk_o (rk_o (l16_0) rfl rfl) rfl rfl) rfl rfl) (rk_o (rk_o (rk_o (l16_1) rfl rfl) rfl rfl) rfl rfl) (rk_o (rk_o (rk_o (l16_2) rfl rfl) rfl rfl) rfl rfl) (rk_o (rk_s) rfl rfl) (rk_s) H O (hS_16) (SA_upd (hA_16) rfl)    (upd1 (w16_2) (x16_5) (0)) (congrArg (fun q => upd1 q (x16_5) (0)) (ew16_2)) (show inr ((x16_4 - v25)) by omega) (show inr ((x16_5 + 1)) from q_3563 b7 h3 j16_5 r4) (show (0) ≤ ((x16_5 + 1)) from q_3562 j16_5) (show ((x16_5 + 1)) ≤ (0) ∨ ((x16_5 + 1)) ≤ ((u0_1)) from q_13 b7) (show ((x16_4 - v25)) = p2 (a3) - mp ((upd1 (w16_2) (x16_5) (0))) ((x16_5 + 1)) by omega) (show ((x16_4 - v25)) ≤ 512 ∧ -512 * ((x16_5 + 1)) ≤ ((x16_4 - v25)) by omega) (hd1) (hj1) (hx1) rfl
        · refine Ew_of (pcₚ := 79) (fun _ => x_iconst rfl) ?_
          refine Ew_of (pcₚ := 89) (fun _ => x_goto rfl rfl) ?_
          have hq : ((1) : Int) = mass (((upd1 (w16_2) (x16_5) (0))) (x16_5)) := by have := mass_eq (((upd1 (w16_2) (x16_5) (0))) (x16_5)); omega
          have hmp := mp_s (P := ((upd1 (w16_2) (x16_5) (0)))) (s := (x16_5)) (by omega)
          rw [mp_low] at hmp
          refine w_isub rfl ?_
          refine Ew_of (pcₚ := 92) (fun _ => x_istore rfl) ?_
          refine Ew_of (pcₚ := 95) (fun _ => x_iinc (len := 3) rfl (rk_o (rk_o (l16_5) rfl rfl) rfl rfl)) ?_
          refine Ew_of (pcₚ := 16) (fun _ => x_goto rfl rfl) ?_
          have hx1 : DVX ((w1)) ((upd1 (w16_2) (x16_5) (0))) ((a2)) (p2 (a3)) ((u0_1)) (((x16_5 + 1))) := DVX_s j16_x hdz rfl
          have hd1 : DVI ((w1)) ((upd1 (w16_2) (x16_5) (0))) ((x16_5 + 1)) := DVI_s (by assumption) rfl hdv
          have hj1 : DVJ ((w1)) ((upd1 (w16_2) (x16_5) (0))) ((x16_5 + 1)) (a2) (p2 (a3)) := DVJ_s (by assumption) rfl hdj
          exact ih16 _ (msE hm16 q_16 (q_17 b7)) _ _ _ _ ((x16_4 - 1)) ((x16_5 + 1)) (rk_o (rk_o (rk_o (l16_0) rfl rfl) rfl rfl) rfl rfl) (rk_o (rk_o (rk_o (l16_1) rfl rfl) rfl rfl) rfl rfl) (rk_o (rk_o (rk_o (l16_2) rfl rfl) rfl rfl) rfl rfl) (rk_o (rk_s) rfl rfl) (rk_s) H O (hS_16) (SA_upd (hA_16) rfl)    (upd1 (w16_2) (x16_5) (0)) (congrArg (fun q => upd1 q (x16_5) (0)) (ew16_2)) (show inr ((x16_4 - 1)) by omega) (show inr ((x16_5 + 1)) from q_3563 b7 h3 j16_5 r4) (show (0) ≤ ((x16_5 + 1)) from q_3562 j16_5) (show ((x16_5 + 1)) ≤ (0) ∨ ((x16_5 + 1)) ≤ ((u0_1)) from q_13 b7) (show ((x16_4 - 1)) = p2 (a3) - mp ((upd1 (w16_2) (x16_5) (0))) ((x16_5 + 1)) by omega) (show ((x16_4 - 1)) ≤ 512 ∧ -512 * ((x16_5 + 1)) ≤ ((x16_4 - 1)) from q_3564 j16_5) (hd1) (hj1) (hx1) rfl

