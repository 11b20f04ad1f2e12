theorem len_V42_Br_oz_H1cls : (V42_Br).length = 1 := by decide +kernel
def oz_H1clsl_0 : List (Nat × Nat) := []
theorem oz_H1cls_1 : (oz_H1clsl_0).all (fun p => !tbz 0 (Nat.add (Nat.mul 32 p.1) p.2)) = true := by decide +kernel
def oz_H1clsl_1 : List Nat := []
theorem oz_H1cls_2 : (oz_H1clsl_1).all (fun p => !tbz 0 p) = true := by decide +kernel

theorem C42_Brf {σE : rS} {D N : Nat → Nat} {F : hF} {A : hA} {d c s : Nat} {Q : wQ} (H : HW V42_Br σE D N F A) {a2 a3 : Int} (n0 : Int) (en0 : HID ((N 0 : Int) = n0)) (w0 : Int → Int) (ew0 : A 0 = w0) (h0 : inr (a2)) (h1 : inr (a3)) (h2 : (a3) ≤ 0 ∨ 0 ≤ (a2) ∧ (a2) + (a3) ≤ (n0)) (h3 : 0 ≤ (a3) ∧ (a3) ≤ 8) (k : ∀ (z : Int) (σ : rS) (Fₚ : hF) (Aₚ : hA), HW V42_Br σ D N Fₚ Aₚ → OUT (V42_Br).length D N σE c s D N σ c s → SF [] F Fₚ → SA [] A Aₚ → (inrJ (z)) → (NBY ((a3)) ((z))) → ((z) = nmb ((w0)) (a2) (a3) ((a3) : Int).toNat) → Q (some (J z)) σ c s) : Ew 42 (d + 0) 0 (rargs 0 [.ref (D 0), I a2, I a3]) [] σE c s Q := by
  have O := OUT_refl (n := (V42_Br).length) (D := D) (N := N) (σ := σE) (c := c) (s := s)
  have HE := H
  have r1 : (0 : Int) ≤ n0 ∧ n0 ≤ 1000000 := nleE (H.nle 0 (ltn len_V42_Br_oz_H1cls rfl)) (show (N 0 : Int) = n0 from en0)
  refine Ew_of (pcₚ := 1) (fun _ => x_lconst (z := 0) rfl (by decide)) ?_
  refine Ew_of (pcₚ := 2) (fun _ => x_lstore_n rfl) ?_
  refine Ew_of (pcₚ := 3) (fun _ => x_iload_n rfl (rk2_o (rfl) rfl rfl)) ?_
  refine Ew_of (pcₚ := 4) (fun _ => x_iconst rfl) ?_
  refine w_isub rfl ?_
  refine Ew_of (pcₚ := 7) (fun _ => x_istore rfl) ?_
  have : NBY ((a3) - 1 - ((a3) - 1)) 0 := by rw [show (a3) - 1 - ((a3) - 1) = 0 by omega]; exact NBY_0 (by omega : (0 : Int) ≤ 0)
  have hnz : (0 : Int) = nmb ((w0)) (a2) (a3) ((a3) - 1 - ((a3) - 1) : Int).toNat := by rw [show ((a3) - 1 - ((a3) - 1) : Int).toNat = 0 by omega]; rfl
  suffices hl7 : ∀ (m : Nat), ∀ (ls : rO) (σ : rS) (F_7 : hF) (A_7 : hA) (x7_3 : Int) (x7_5 : Int), rlook ls 0 = some (.ref (D 0)) → rlook ls 1 = some (I (a2)) → rlook ls 3 = some (J (x7_3)) → rlook ls 5 = some (I (x7_5)) → HW V42_Br σ D N F_7 A_7 → OUT (V42_Br).length D N σE c s D N σ c s → SF [] F F_7 → SA [] A A_7 → (inrJ (x7_3)) → (inr (x7_5)) → ((x7_5) ≤ ((a3 - 1))) → (((a3 - 1)) ≤ (x7_5) ∨ ((-1)) ≤ (x7_5)) → (NBY ((a3) - 1 - (x7_5)) ((x7_3))) → ((x7_3) = nmb ((w0)) (a2) (a3) ((a3) - 1 - (x7_5) : Int).toNat) → ((x7_5) - ((-1))).toNat = m → Ew 42 (d + 0) 7 ls [] σ c s Q from
    hl7 _ _ _ _ _ (0) ((a3 - 1)) (rk_o (rk2_o (rfl) rfl rfl) rfl rfl) (rk_o (rk2_o (rfl) rfl rfl) rfl rfl) (rk_o (rk2_s) rfl rfl) (rk_s) H O (SF_refl) (SA_refl)     (show inrJ (0) from q_340) (show inr ((a3 - 1)) from q_2951 h3) (show ((a3 - 1)) ≤ ((a3 - 1)) from q_419) (show ((a3 - 1)) ≤ ((a3 - 1)) ∨ ((-1)) ≤ ((a3 - 1)) from q_418) (show NBY ((a3) - 1 - ((a3 - 1))) ((0)) by assumption) (show (0) = nmb ((w0)) (a2) (a3) ((a3) - 1 - ((a3 - 1)) : Int).toNat by omega) rfl
  as_aux_lemma =>
  intro m
  induction m using Nat.strongRecOn with
  | _ m ih7 =>
    intro ls σ F_7 A_7 x7_3 x7_5 l7_0 l7_1 l7_3 l7_5 H O hS_7 hA_7     j7_0 j7_1 j7_2 j7_3 j7_4 j7_5 hm7
    have cF_7 : SF oz_H1clsl_0 F F_7 := SF_trans (SF_refl) hS_7 (any_sub (by decide +kernel))
    have mF_7 := SFm_of cF_7 oz_H1cls_1
    have cA_7 : SA oz_H1clsl_1 A A_7 := SA_trans (SA_refl) hA_7 (any_subA (by decide +kernel))
    have mA_7 := SAm_of cA_7 oz_H1cls_2
    have j7_n : NBY ((a3) - 1 - (x7_5)) ((x7_3)) := j7_4
    have hof : (x7_3) = nmb ((w0)) (a2) (a3) ((a3) - 1 - (x7_5) : Int).toNat := by assumption
    refine Ew_of (pcₚ := 9) (fun _ => x_iload rfl l7_5) ?_
    refine w_iflt (t := 35) rfl rfl (show inr (x7_5) from j7_1) (fun b2 => ?_) (fun b2 => ?_)
    · have h0 : (a3) - 1 - (x7_5) = (a3) := q_2952 b2 h3 j7_3
      have : NBY ((a3)) ((x7_3)) := by rw [h0] at j7_n; exact j7_n
      have hfi : (x7_3) = nmb ((w0)) (a2) (a3) ((a3) : Int).toNat := by rw [h0] at hof; exact hof
      refine Ew_of (pcₚ := 36) (fun _ => x_lload_n rfl l7_3) ?_
      exact w_lreturn rfl (k (x7_3) _ _ _ H O (cF_7) (cA_7) (show inrJ (x7_3) from j7_0) (show NBY (a3) ((x7_3)) by assumption) (show (x7_3) = nmb ((w0)) a2 a3 (a3 : Int).toNat by omega))
    · refine Ew_of (pcₚ := 13) (fun _ => x_lload_n rfl l7_3) ?_
      refine Ew_of (pcₚ := 15) (fun _ => x_bipush (z := 8) rfl (by decide)) ?_
      refine w_lshlF 8 256 (by decide) (by decide) rfl (fun z3 gz3 dz3 ez3 => ?_)
      have hsh := ez3
      refine Ew_of (pcₚ := 17) (fun _ => x_aload_n rfl l7_0) ?_
      refine Ew_of (pcₚ := 18) (fun _ => x_iload_n rfl l7_1) ?_
      refine Ew_of (pcₚ := 20) (fun _ => x_iload rfl l7_5) ?_
      refine w_iadd rfl ?_
      refine v_lB H (o := 0) rfl rfl rfl rfl (n := n0) (en0) (show 0 ≤ (a2 + x7_5) ∧ (a2 + x7_5) < n0 from q_2953 b2 h0 h2 j7_2 j7_3 r1) (fun v4 ev4 qv4 => ?_)
      have ev4 : (w0) ((a2 + x7_5)) = v4 := (congrFun ((funext (mA_7 0 rfl)).trans (ew0)) ((a2 + x7_5))).symm.trans ev4
      have hev := ev4
      refine Ew_of (pcₚ := 25) (fun _ => x_sipush (z := 255) rfl (by decide)) ?_
      refine v_and255 rfl ?_
      refine w_i2l rfl (show inr ((v4 % 256)) from q_461) ?_
      refine w_lorF rfl (show inrJ (z3) by omega) (show inrJ ((v4 % 256)) from q_2954) (fun z5 gz5 dz5 ez5 => ?_)
      have hor := ez5
      have hnf : ((z5) : Int) = nmb ((w0)) (a2) (a3) ((a3) - 1 - ((x7_5) + (-1)) : Int).toNat := nmb_s (i := (x7_5)) (by omega) (by omega) (by omega) hof hsh (by rw [hev]) hor
      have : NBY ((a3) - 1 - ((x7_5) + (-1))) ((z5)) := by rw [show (a3) - 1 - ((x7_5) + (-1)) = (a3) - 1 - (x7_5) + 1 by omega]; exact NBY_step j7_n (by omega) (fun q w1 w2 => by have hp : p2 (8 * ((a3) - 1 - (x7_5))) ≤ p2 48 := p2_mono (by omega); rw [show p2 48 = 281474976710656 from by decide] at hp; omega)
      refine Ew_of (pcₚ := 29) (fun _ => x_lstore_n rfl) ?_
      refine Ew_of (pcₚ := 32) (fun _ => x_iinc (len := 3) rfl (rk2_o (l7_5) rfl rfl)) ?_
      refine Ew_of (pcₚ := 7) (fun _ => x_goto rfl rfl) ?_
      exact ih7 _ (msE hm7 q_432 (q_433 b2)) _ _ _ _ (z5) ((x7_5 + (-1))) (rk_o (rk2_o (l7_0) rfl rfl) rfl rfl) (rk_o (rk2_o (l7_1) rfl rfl) rfl rfl) (rk_o (rk2_s) rfl rfl) (rk_s) H O (hS_7) (hA_7)     (show inrJ (z5) by omega) (show inr ((x7_5 + (-1))) from q_431 b2 j7_1) (show ((x7_5 + (-1))) ≤ ((a3 - 1)) from q_430 j7_2) (show ((a3 - 1)) ≤ ((x7_5 + (-1))) ∨ ((-1)) ≤ ((x7_5 + (-1))) from q_429 b2) (show NBY ((a3) - 1 - ((x7_5 + (-1)))) ((z5)) by assumption) (show (z5) = nmb ((w0)) (a2) (a3) ((a3) - 1 - ((x7_5 + (-1))) : Int).toNat by omega) rfl

