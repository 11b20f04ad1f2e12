abbrev V41_Br : vV := [(1, 0, [])]
/-- PackHouse.word: #1 -/
theorem C41_Br {σE : rS} {D N : Nat → Nat} {F : hF} {A : hA} {d c s : Nat} {Q : wQ} (H : HW V41_Br σE D N F A) {a2 : Int} (n0 : Int) (en0 : (N 0 : Int) = n0) (w0 : Int → Int) (ew0 : A 0 = w0) (h0 : inr (a2)) (h1 : 0 ≤ (a2) ∧ (a2) + 4 ≤ (n0)) (k : ∀ (z : Int) (σ : rS) (F' : hF) (A' : hA), HW V41_Br σ D N F' A' → OUT (V41_Br).length D N σE c s D N σ c s → SF [] F F' → SA [] A A' → (inr (z)) → ((z) = wdI ((w0)) ((a2))) → Q (some (I z)) σ c s) : Ew 41 (d + 0) 0 (rargs 0 [.ref (D 0), I a2]) [] σE c s Q := by
  have O := OUT_refl (n := (V41_Br).length) (D := D) (N := N) (σ := σE) (c := c) (s := s)
  have HE := H
  have r1 : (0 : Int) ≤ n0 ∧ n0 ≤ 1000000 := by have h1 := H.nle 0 (by decide); have h2 : (N 0 : Int) = n0 := en0; omega
  refine Ew_of (pc' := 1) (fun _ => x_aload_n rfl rfl) ?_
  refine Ew_of (pc' := 2) (fun _ => x_iload_n rfl rfl) ?_
  refine v_lB H (o := 0) rfl rfl rfl rfl (n := n0) (en0) (show 0 ≤ a2 ∧ a2 < n0 by omega) (fun v2 ev2 qv2 => ?_)
  have ev2 : (w0) (a2) = v2 := (congrFun (ew0) (a2)).symm.trans ev2
  have hv0 := ev2
  refine Ew_of (pc' := 6) (fun _ => x_sipush (z := 255) rfl (by decide)) ?_
  refine v_and255 rfl ?_
  refine Ew_of (pc' := 8) (fun _ => x_aload_n rfl rfl) ?_
  refine Ew_of (pc' := 9) (fun _ => x_iload_n rfl rfl) ?_
  refine Ew_of (pc' := 10) (fun _ => x_iconst rfl) ?_
  refine w_iadd rfl ?_
  refine v_lB H (o := 0) rfl rfl rfl rfl (n := n0) (en0) (show 0 ≤ (a2 + 1) ∧ (a2 + 1) < n0 by omega) (fun v3 ev3 qv3 => ?_)
  have ev3 : (w0) ((a2 + 1)) = v3 := (congrFun (ew0) ((a2 + 1))).symm.trans ev3
  have hv1 := ev3
  refine Ew_of (pc' := 15) (fun _ => x_sipush (z := 255) rfl (by decide)) ?_
  refine v_and255 rfl ?_
  refine Ew_of (pc' := 18) (fun _ => x_bipush (z := 8) rfl (by decide)) ?_
  refine w_ishlE rfl ?_
  have g4 : inr (slI ((v3 % 256)) (8)) := toI_inr _
  refine w_iorE rfl ?_
  have g5 : inr (orI ((v2 % 256)) ((slI ((v3 % 256)) (8)))) := toI_inr _
  refine Ew_of (pc' := 21) (fun _ => x_aload_n rfl rfl) ?_
  refine Ew_of (pc' := 22) (fun _ => x_iload_n rfl rfl) ?_
  refine Ew_of (pc' := 23) (fun _ => x_iconst rfl) ?_
  refine w_iadd rfl ?_
  refine v_lB H (o := 0) rfl rfl rfl rfl (n := n0) (en0) (show 0 ≤ (a2 + 2) ∧ (a2 + 2) < n0 by omega) (fun v6 ev6 qv6 => ?_)
  have ev6 : (w0) ((a2 + 2)) = v6 := (congrFun (ew0) ((a2 + 2))).symm.trans ev6
  have hv2 := ev6
  refine Ew_of (pc' := 28) (fun _ => x_sipush (z := 255) rfl (by decide)) ?_
  refine v_and255 rfl ?_
  refine Ew_of (pc' := 31) (fun _ => x_bipush (z := 16) rfl (by decide)) ?_
  refine w_ishlE rfl ?_
  have g7 : inr (slI ((v6 % 256)) (16)) := toI_inr _
  refine w_iorE rfl ?_
  have g8 : inr (orI ((orI ((v2 % 256)) ((slI ((v3 % 256)) (8))))) ((slI ((v6 % 256)) (16)))) := toI_inr _
  refine Ew_of (pc' := 34) (fun _ => x_aload_n rfl rfl) ?_
  refine Ew_of (pc' := 35) (fun _ => x_iload_n rfl rfl) ?_
  refine Ew_of (pc' := 36) (fun _ => x_iconst rfl) ?_
  refine w_iadd rfl ?_
  refine v_lB H (o := 0) rfl rfl rfl rfl (n := n0) (en0) (show 0 ≤ (a2 + 3) ∧ (a2 + 3) < n0 by omega) (fun v9 ev9 qv9 => ?_)
  have ev9 : (w0) ((a2 + 3)) = v9 := (congrFun (ew0) ((a2 + 3))).symm.trans ev9
  have hv3 := ev9
  refine Ew_of (pc' := 40) (fun _ => x_bipush (z := 24) rfl (by decide)) ?_
  refine w_ishlE rfl ?_
  have g10 : inr (slI (v9) (24)) := toI_inr _
  refine w_iorE rfl ?_
  have g11 : inr (orI ((orI ((orI ((v2 % 256)) ((slI ((v3 % 256)) (8))))) ((slI ((v6 % 256)) (16))))) ((slI (v9) (24)))) := toI_inr _
  have : ((orI ((orI ((orI ((v2 % 256)) ((slI ((v3 % 256)) (8))))) ((slI ((v6 % 256)) (16))))) ((slI (v9) (24))))) = wdI ((w0)) ((a2)) := wd_or hv0 hv1 hv2 hv3
  exact w_ireturn rfl (k ((orI ((orI ((orI ((v2 % 256)) ((slI ((v3 % 256)) (8))))) ((slI ((v6 % 256)) (16))))) ((slI (v9) (24))))) _ _ _ H O (SF_refl) (SA_refl) (show inr ((orI ((orI ((orI ((v2 % 256)) ((slI ((v3 % 256)) (8))))) ((slI ((v6 % 256)) (16))))) ((slI (v9) (24))))) by omega) (show ((orI ((orI ((orI ((v2 % 256)) ((slI ((v3 % 256)) (8))))) ((slI ((v6 % 256)) (16))))) ((slI (v9) (24))))) = wdI ((w0)) (a2) by assumption))
abbrev V42_Br : vV := [(1, 0, [])]
/-- PackHouse.number: #1 -/
theorem C42_Br {σE : rS} {D N : Nat → Nat} {F : hF} {A : hA} {d c s : Nat} {Q : wQ} (H : HW V42_Br σE D N F A) {a2 a3 : Int} (n0 : Int) (en0 : (N 0 : Int) = n0) (w0 : Int → Int) (ew0 : A 0 = w0) (h0 : inr (a2)) (h1 : inr (a3)) (h2 : (a3) ≤ 0 ∨ 0 ≤ (a2) ∧ (a2) + (a3) ≤ (n0)) (h3 : 0 ≤ (a3) ∧ (a3) ≤ 8) (k : ∀ (z : Int) (σ : rS) (F' : hF) (A' : hA), HW V42_Br σ D N F' A' → OUT (V42_Br).length D N σE c s D N σ c s → SF [] F F' → SA [] A A' → (inrJ (z)) → (NBY ((a3)) ((z))) → ((z) = nmb ((w0)) (a2) (a3) ((a3) : Int).toNat) → Q (some (J z)) σ c s) : Ew 42 (d + 0) 0 (rargs 0 [.ref (D 0), I a2, I a3]) [] σE c s Q := by
  have O := OUT_refl (n := (V42_Br).length) (D := D) (N := N) (σ := σE) (c := c) (s := s)
  have HE := H
  have r1 : (0 : Int) ≤ n0 ∧ n0 ≤ 1000000 := by have h1 := H.nle 0 (by decide); have h2 : (N 0 : Int) = n0 := en0; omega
  refine Ew_of (pc' := 1) (fun _ => x_lconst (z := 0) rfl (by decide)) ?_
  refine Ew_of (pc' := 2) (fun _ => x_lstore_n rfl) ?_
  refine Ew_of (pc' := 3) (fun _ => x_iload_n rfl (rk2_o (rfl) rfl rfl)) ?_
  refine Ew_of (pc' := 4) (fun _ => x_iconst rfl) ?_
  refine w_isub rfl ?_
  refine Ew_of (pc' := 7) (fun _ => x_istore rfl) ?_
  have : NBY ((a3) - 1 - ((a3) - 1)) 0 := by rw [show (a3) - 1 - ((a3) - 1) = 0 by omega]; exact NBY_0 (by omega : (0 : Int) ≤ 0)
  have hnz : (0 : Int) = nmb ((w0)) (a2) (a3) ((a3) - 1 - ((a3) - 1) : Int).toNat := by rw [show ((a3) - 1 - ((a3) - 1) : Int).toNat = 0 by omega]; rfl
  suffices hl7 : ∀ (m : Nat), ∀ (ls : rO) (σ : rS) (F_7 : hF) (A_7 : hA) (x7_3 : Int) (x7_5 : Int), rlook ls 0 = some (.ref (D 0)) → rlook ls 1 = some (I (a2)) → rlook ls 3 = some (J (x7_3)) → rlook ls 5 = some (I (x7_5)) → HW V42_Br σ D N F_7 A_7 → OUT (V42_Br).length D N σE c s D N σ c s → SF [] F F_7 → SA [] A A_7 → (inrJ (x7_3)) → (inr (x7_5)) → ((x7_5) ≤ ((a3 - 1))) → (((a3 - 1)) ≤ (x7_5) ∨ ((-1)) ≤ (x7_5)) → (NBY ((a3) - 1 - (x7_5)) ((x7_3))) → ((x7_3) = nmb ((w0)) (a2) (a3) ((a3) - 1 - (x7_5) : Int).toNat) → ((x7_5) - ((-1))).toNat = m → Ew 42 (d + 0) 7 ls [] σ c s Q from
    hl7 _ _ _ _ _ (0) ((a3 - 1)) (rk_o (rk2_o (rfl) rfl rfl) rfl rfl) (rk_o (rk2_o (rfl) rfl rfl) rfl rfl) (rk_o (rk2_s) rfl rfl) (rk_s) H O (SF_refl) (SA_refl)     (show inrJ (0) by omega) (show inr ((a3 - 1)) by omega) (show ((a3 - 1)) ≤ ((a3 - 1)) by omega) (show ((a3 - 1)) ≤ ((a3 - 1)) ∨ ((-1)) ≤ ((a3 - 1)) by omega) (show NBY ((a3) - 1 - ((a3 - 1))) ((0)) by assumption) (show (0) = nmb ((w0)) (a2) (a3) ((a3) - 1 - ((a3 - 1)) : Int).toNat by assumption) rfl
  as_aux_lemma =>
  intro m
  induction m using Nat.strongRecOn with
  | _ m ih7 =>
    intro ls σ F_7 A_7 x7_3 x7_5 l7_0 l7_1 l7_3 l7_5 H O hS_7 hA_7     j7_0 j7_1 j7_2 j7_3 j7_4 j7_5 hm7
    have j7_n : NBY ((a3) - 1 - (x7_5)) ((x7_3)) := by assumption
    have hof : (x7_3) = nmb ((w0)) (a2) (a3) ((a3) - 1 - (x7_5) : Int).toNat := by assumption
    refine Ew_of (pc' := 9) (fun _ => x_iload rfl l7_5) ?_
    refine w_iflt (t := 35) rfl rfl (show inr (x7_5) by omega) (fun b2 => ?_) (fun b2 => ?_)
    · have h0 : (a3) - 1 - (x7_5) = (a3) := by omega
      have : NBY ((a3)) ((x7_3)) := by rw [h0] at j7_n; exact j7_n
      have hfi : (x7_3) = nmb ((w0)) (a2) (a3) ((a3) : Int).toNat := by rw [h0] at hof; exact hof
      refine Ew_of (pc' := 36) (fun _ => x_lload_n rfl l7_3) ?_
      exact w_lreturn rfl (k (x7_3) _ _ _ H O (SF_trans (SF_refl) hS_7 (any_sub rfl)) (SA_trans (SA_refl) hA_7 (any_subA rfl)) (show inrJ (x7_3) by omega) (show NBY (a3) ((x7_3)) by assumption) (show (x7_3) = nmb ((w0)) a2 a3 (a3 : Int).toNat by assumption))
    · refine Ew_of (pc' := 13) (fun _ => x_lload_n rfl l7_3) ?_
      refine Ew_of (pc' := 15) (fun _ => x_bipush (z := 8) rfl (by decide)) ?_
      refine w_lshlF 8 256 (by decide) (by decide) rfl (fun z3 gz3 dz3 ez3 => ?_)
      have hsh := ez3
      refine Ew_of (pc' := 17) (fun _ => x_aload_n rfl l7_0) ?_
      refine Ew_of (pc' := 18) (fun _ => x_iload_n rfl l7_1) ?_
      refine Ew_of (pc' := 20) (fun _ => x_iload rfl l7_5) ?_
      refine w_iadd rfl ?_
      refine v_lB H (o := 0) rfl rfl rfl rfl (n := n0) (en0) (show 0 ≤ (a2 + x7_5) ∧ (a2 + x7_5) < n0 by omega) (fun v4 ev4 qv4 => ?_)
      have ev4 : (w0) ((a2 + x7_5)) = v4 := (congrFun ((funext (hA_7 0 rfl)).trans (ew0)) ((a2 + x7_5))).symm.trans ev4
      have hev := ev4
      refine Ew_of (pc' := 25) (fun _ => x_sipush (z := 255) rfl (by decide)) ?_
      refine v_and255 rfl ?_
      refine w_i2l rfl (show inr ((v4 % 256)) by omega) ?_
      refine w_lorF rfl (show inrJ (z3) by omega) (show inrJ ((v4 % 256)) by omega) (fun z5 gz5 dz5 ez5 => ?_)
      have hor := ez5
      have hnf : ((z5) : Int) = nmb ((w0)) (a2) (a3) ((a3) - 1 - ((x7_5) + (-1)) : Int).toNat := nmb_s (i := (x7_5)) (by omega) (by omega) (by omega) hof hsh (by rw [hev]) hor
      have : NBY ((a3) - 1 - ((x7_5) + (-1))) ((z5)) := by rw [show (a3) - 1 - ((x7_5) + (-1)) = (a3) - 1 - (x7_5) + 1 by omega]; exact NBY_step j7_n (by omega) (fun q w1 w2 => by have hp : p2 (8 * ((a3) - 1 - (x7_5))) ≤ p2 48 := p2_mono (by omega); rw [show p2 48 = 281474976710656 from by decide] at hp; omega)
      refine Ew_of (pc' := 29) (fun _ => x_lstore_n rfl) ?_
      refine Ew_of (pc' := 32) (fun _ => x_iinc (len := 3) rfl (rk2_o (l7_5) rfl rfl)) ?_
      refine Ew_of (pc' := 7) (fun _ => x_goto rfl rfl) ?_
      exact ih7 _ (by omega) _ _ _ _ (z5) ((x7_5 + (-1))) (rk_o (rk2_o (l7_0) rfl rfl) rfl rfl) (rk_o (rk2_o (l7_1) rfl rfl) rfl rfl) (rk_o (rk2_s) rfl rfl) (rk_s) H O (hS_7) (hA_7)     (show inrJ (z5) by omega) (show inr ((x7_5 + (-1))) by omega) (show ((x7_5 + (-1))) ≤ ((a3 - 1)) by omega) (show ((a3 - 1)) ≤ ((x7_5 + (-1))) ∨ ((-1)) ≤ ((x7_5 + (-1))) by omega) (show NBY ((a3) - 1 - ((x7_5 + (-1)))) ((z5)) by assumption) (show (z5) = nmb ((w0)) (a2) (a3) ((a3) - 1 - ((x7_5 + (-1))) : Int).toNat by assumption) rfl
abbrev V46 : vV := []
/-- PackHouse.rotated:  -/
theorem C46 {σE : rS} {D N : Nat → Nat} {F : hF} {A : hA} {d c s : Nat} {Q : wQ} (H : HW V46 σE D N F A) {a1 a2 : Int} (h0 : inr (a1)) (h1 : inr (a2)) (h2 : 0 ≤ (a2) ∧ (a2) ≤ 32) (k : ∀ (z : Int) (σ : rS) (F' : hF) (A' : hA), HW V46 σ D N F' A' → OUT (V46).length D N σE c s D N σ c s → SF [] F F' → SA [] A A' → (inr (z)) → ((z) = rtI ((a1)) ((a2))) → Q (some (I z)) σ c s) : Ew 46 (d + 0) 0 (rargs 0 [I a1, I a2]) [] σE c s Q := by
  have O := OUT_refl (n := (V46).length) (D := D) (N := N) (σ := σE) (c := c) (s := s)
  have HE := H
  refine Ew_of (pc' := 1) (fun _ => x_iload_n rfl rfl) ?_
  refine Ew_of (pc' := 2) (fun _ => x_iload_n rfl rfl) ?_
  refine w_ishlE rfl ?_
  have g1 : inr (slI (a1) (a2)) := toI_inr _
  refine Ew_of (pc' := 4) (fun _ => x_iload_n rfl rfl) ?_
  refine Ew_of (pc' := 6) (fun _ => x_bipush (z := 32) rfl (by decide)) ?_
  refine Ew_of (pc' := 7) (fun _ => x_iload_n rfl rfl) ?_
  refine w_isub rfl ?_
  refine w_iushrE rfl ?_
  have g2 : inr (usI (a1) ((32 - a2))) := toI_inr _
  refine w_iorE rfl ?_
  have g3 : inr (orI ((slI (a1) (a2))) ((usI (a1) ((32 - a2))))) := toI_inr _
  have : ((orI ((slI (a1) (a2))) ((usI (a1) ((32 - a2)))))) = rtI ((a1)) ((a2)) := rfl
  exact w_ireturn rfl (k ((orI ((slI (a1) (a2))) ((usI (a1) ((32 - a2)))))) _ _ _ H O (SF_refl) (SA_refl) (show inr ((orI ((slI (a1) (a2))) ((usI (a1) ((32 - a2)))))) by omega) (show ((orI ((slI (a1) (a2))) ((usI (a1) ((32 - a2)))))) = rtI (a1) (a2) by assumption))
abbrev V47 : vV := []
/-- PackHouse.rotated:  -/
theorem C47 {σE : rS} {D N : Nat → Nat} {F : hF} {A : hA} {d c s : Nat} {Q : wQ} (H : HW V47 σE D N F A) {a1 a2 : Int} (h0 : inrJ (a1)) (h1 : inr (a2)) (h2 : 0 ≤ (a2) ∧ (a2) ≤ 64) (k : ∀ (z : Int) (σ : rS) (F' : hF) (A' : hA), HW V47 σ D N F' A' → OUT (V47).length D N σE c s D N σ c s → SF [] F F' → SA [] A A' → (inrJ (z)) → ((z) = rtJ ((a1)) ((a2))) → Q (some (J z)) σ c s) : Ew 47 (d + 0) 0 (rargs 0 [J a1, I a2]) [] σE c s Q := by
  have O := OUT_refl (n := (V47).length) (D := D) (N := N) (σ := σE) (c := c) (s := s)
  have HE := H
  refine Ew_of (pc' := 1) (fun _ => x_lload_n rfl rfl) ?_
  refine Ew_of (pc' := 2) (fun _ => x_iload_n rfl rfl) ?_
  refine w_lshlE rfl ?_
  have g1 : inrJ (shlJ (a1) (a2)) := toJ_inr _
  refine Ew_of (pc' := 4) (fun _ => x_lload_n rfl rfl) ?_
  refine Ew_of (pc' := 6) (fun _ => x_bipush (z := 64) rfl (by decide)) ?_
  refine Ew_of (pc' := 7) (fun _ => x_iload_n rfl rfl) ?_
  refine w_isub rfl ?_
  refine w_lushrE rfl ?_
  have g2 : inrJ (usJ (a1) ((64 - a2))) := toJ_inr _
  refine w_lorE rfl ?_
  have g3 : inrJ (orJ ((shlJ (a1) (a2))) ((usJ (a1) ((64 - a2))))) := toJ_inr _
  have : ((orJ ((shlJ (a1) (a2))) ((usJ (a1) ((64 - a2)))))) = rtJ ((a1)) ((a2)) := rfl
  exact w_lreturn rfl (k ((orJ ((shlJ (a1) (a2))) ((usJ (a1) ((64 - a2)))))) _ _ _ H O (SF_refl) (SA_refl) (show inrJ ((orJ ((shlJ (a1) (a2))) ((usJ (a1) ((64 - a2)))))) by omega) (show ((orJ ((shlJ (a1) (a2))) ((usJ (a1) ((64 - a2)))))) = rtJ (a1) (a2) by assumption))
abbrev V48 : vV := []
/-- PackHouse.narrowLane:  -/
theorem C48 {σE : rS} {D N : Nat → Nat} {F : hF} {A : hA} {d c s : Nat} {Q : wQ} (H : HW V48 σE D N F A) {a1 a2 : Int} (h0 : inr (a1)) (h1 : inr (a2)) (k : ∀ (z : Int) (σ : rS) (F' : hF) (A' : hA), HW V48 σ D N F' A' → OUT (V48).length D N σE c s D N σ c s → SF [] F F' → SA [] A A' → (inr (z)) → ((z) = nlI ((a1)) ((a2))) → Q (some (I z)) σ c s) : Ew 48 (d + 1) 0 (rargs 0 [I a1, I a2]) [] σE c s Q := by
  have O := OUT_refl (n := (V48).length) (D := D) (N := N) (σ := σE) (c := c) (s := s)
  have HE := H
  refine Ew_of (pc' := 1) (fun _ => x_iload_n rfl rfl) ?_
  refine Ew_of (pc' := 2) (fun _ => x_iload_n rfl rfl) ?_
  refine Ew_of (pc' := 5) (fun _ => x_ldc_w (z := -2048144777) rfl (by decide)) ?_
  refine w_imulE rfl ?_
  have g1 : inr (muI (a2) ((-2048144777))) := toI_inr _
  refine w_iaddE rfl ?_
  have g2 : inr (adI (a1) ((muI (a2) ((-2048144777))))) := toI_inr _
  refine Ew_of (pc' := 9) (fun _ => x_bipush (z := 13) rfl (by decide)) ?_
  refine w_stat24 rfl rfl (by rfl) (C46 (D := pul [] D) (N := pul [] N) (HW_sub H (VS_of (show vsub V48 V46 [] = true by decide +kernel))) (show inr ((adI (a1) ((muI (a2) ((-2048144777)))))) by omega) (show inr (13) by omega) (show 0 ≤ (13) ∧ (13) ≤ 32 by omega) (fun z3 σ3 F3' A3' H' O' hS3 hA3 pz3_0 pz3_1 => ⟨rfl, ?_⟩))
  refine v_back (c := c) (s := s) H (show vsub V48 V46 [] = true by decide +kernel) H' O' (fun F3 A3 H O' eF3 eA3 => ?_)
  have O := OUT_trans O O'
  -- PackHouse.rotated
  have hrt := pz3_1
  refine Ew_of (pc' := 15) (fun _ => x_ldc_w (z := -1640531535) rfl (by decide)) ?_
  refine w_imulE rfl ?_
  have g4 : inr (muI (z3) ((-1640531535))) := toI_inr _
  have : ((muI (z3) ((-1640531535)))) = nlI ((a1)) ((a2)) := by unfold nlI; rw [← hrt]
  exact w_ireturn rfl (k ((muI (z3) ((-1640531535)))) _ _ _ H O (SF_trans (SF_refl) (SF_glu (ι := []) hS3 eF3 (by decide +kernel)) (any_sub (l' := []) rfl)) (SA_trans (SA_refl) (SA_glu (ι := []) hA3 eA3 (by decide +kernel)) (any_subA (l' := []) rfl)) (show inr ((muI (z3) ((-1640531535)))) by omega) (show ((muI (z3) ((-1640531535)))) = nlI (a1) (a2) by assumption))
abbrev V50 : vV := []
/-- PackHouse.wideLane:  -/
theorem C50 {σE : rS} {D N : Nat → Nat} {F : hF} {A : hA} {d c s : Nat} {Q : wQ} (H : HW V50 σE D N F A) {a1 a2 : Int} (h0 : inrJ (a1)) (h1 : inrJ (a2)) (k : ∀ (z : Int) (σ : rS) (F' : hF) (A' : hA), HW V50 σ D N F' A' → OUT (V50).length D N σE c s D N σ c s → SF [] F F' → SA [] A A' → (inrJ (z)) → ((z) = wl ((a1)) ((a2))) → Q (some (J z)) σ c s) : Ew 50 (d + 1) 0 (rargs 0 [J a1, J a2]) [] σE c s Q := by
  have O := OUT_refl (n := (V50).length) (D := D) (N := N) (σ := σE) (c := c) (s := s)
  have HE := H
  refine Ew_of (pc' := 1) (fun _ => x_lload_n rfl rfl) ?_
  refine Ew_of (pc' := 2) (fun _ => x_lload_n rfl rfl) ?_
  refine Ew_of (pc' := 5) (fun _ => x_ldc2 (z := -4417276706812531889) rfl (by decide)) ?_
  refine w_lmulE rfl ?_
  have g1 : inrJ (muJ (a2) ((-4417276706812531889))) := toJ_inr _
  refine w_laddE rfl ?_
  have g2 : inrJ (adJ (a1) ((muJ (a2) ((-4417276706812531889))))) := toJ_inr _
  refine Ew_of (pc' := 9) (fun _ => x_bipush (z := 31) rfl (by decide)) ?_
  refine w_stat24 rfl rfl (by rfl) (C47 (D := pul [] D) (N := pul [] N) (HW_sub H (VS_of (show vsub V50 V47 [] = true by decide +kernel))) (show inrJ ((adJ (a1) ((muJ (a2) ((-4417276706812531889)))))) by omega) (show inr (31) by omega) (show 0 ≤ (31) ∧ (31) ≤ 64 by omega) (fun z3 σ3 F3' A3' H' O' hS3 hA3 pz3_0 pz3_1 => ⟨rfl, ?_⟩))
  refine v_back (c := c) (s := s) H (show vsub V50 V47 [] = true by decide +kernel) H' O' (fun F3 A3 H O' eF3 eA3 => ?_)
  have O := OUT_trans O O'
  -- PackHouse.rotated
  have hrt := pz3_1
  refine Ew_of (pc' := 15) (fun _ => x_ldc2 (z := -7046029288634856825) rfl (by decide)) ?_
  refine w_lmulE rfl ?_
  have g4 : inrJ (muJ (z3) ((-7046029288634856825))) := toJ_inr _
  have : ((muJ (z3) ((-7046029288634856825)))) = wl ((a1)) ((a2)) := by unfold wl; rw [← hrt]
  exact w_lreturn rfl (k ((muJ (z3) ((-7046029288634856825)))) _ _ _ H O (SF_trans (SF_refl) (SF_glu (ι := []) hS3 eF3 (by decide +kernel)) (any_sub (l' := []) rfl)) (SA_trans (SA_refl) (SA_glu (ι := []) hA3 eA3 (by decide +kernel)) (any_subA (l' := []) rfl)) (show inrJ ((muJ (z3) ((-7046029288634856825)))) by omega) (show ((muJ (z3) ((-7046029288634856825)))) = wl (a1) (a2) by assumption))
abbrev V54 : vV := []
/-- PackHouse.maskedSum:  -/
theorem C54 {σE : rS} {D N : Nat → Nat} {F : hF} {A : hA} {d c s : Nat} {Q : wQ} (H : HW V54 σE D N F A) {a1 : Int} (h0 : inr (a1)) (k : ∀ (z : Int) (σ : rS) (F' : hF) (A' : hA), HW V54 σ D N F' A' → OUT (V54).length D N σE c s D N σ c s → SF [] F F' → SA [] A A' → (inr (z)) → ((z) = adI (rtI ((a1)) 17) (-1568478504)) → Q (some (I z)) σ c s) : Ew 54 (d + 1) 0 (rargs 0 [I a1]) [] σE c s Q := by
  have O := OUT_refl (n := (V54).length) (D := D) (N := N) (σ := σE) (c := c) (s := s)
  have HE := H
  refine Ew_of (pc' := 1) (fun _ => x_iload_n rfl rfl) ?_
  refine Ew_of (pc' := 3) (fun _ => x_bipush (z := 17) rfl (by decide)) ?_
  refine w_stat24 rfl rfl (by rfl) (C46 (D := pul [] D) (N := pul [] N) (HW_sub H (VS_of (show vsub V54 V46 [] = true by decide +kernel))) (show inr (a1) by omega) (show inr (17) by omega) (show 0 ≤ (17) ∧ (17) ≤ 32 by omega) (fun z1 σ1 F1' A1' H' O' hS1 hA1 pz1_0 pz1_1 => ⟨rfl, ?_⟩))
  refine v_back (c := c) (s := s) H (show vsub V54 V46 [] = true by decide +kernel) H' O' (fun F1 A1 H O' eF1 eA1 => ?_)
  have O := OUT_trans O O'
  -- PackHouse.rotated
  have hrt := pz1_1
  refine Ew_of (pc' := 9) (fun _ => x_ldc_w (z := -1568478504) rfl (by decide)) ?_
  refine w_iaddE rfl ?_
  have g2 : inr (adI (z1) ((-1568478504))) := toI_inr _
  have : ((adI (z1) ((-1568478504)))) = adI (rtI ((a1)) 17) (-1568478504) := by rw [← hrt]
  exact w_ireturn rfl (k ((adI (z1) ((-1568478504)))) _ _ _ H O (SF_trans (SF_refl) (SF_glu (ι := []) hS1 eF1 (by decide +kernel)) (any_sub (l' := []) rfl)) (SA_trans (SA_refl) (SA_glu (ι := []) hA1 eA1 (by decide +kernel)) (any_subA (l' := []) rfl)) (show inr ((adI (z1) ((-1568478504)))) by omega) (show ((adI (z1) ((-1568478504)))) = adI (rtI (a1) 17) (-1568478504) by assumption))
