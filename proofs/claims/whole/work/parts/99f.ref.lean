/-- Model.stands -/
theorem M86p {σ0 σ : rS} {D N : Nat → Nat} {F : hF} {A : hA} {d c s : Nat} {Q : wQ} (H : HS σ0 σ D N F A) {a1 a2 a3 a4 a5 a6 : Int} (w10 : Int → Int) (ew10 : A 10 = w10) (w11 : Int → Int) (ew11 : A 11 = w11) (h0 : inr (a1)) (h1 : inr (a2)) (h2 : inr (a3)) (h3 : inr (a4)) (h4 : inr (a5)) (h5 : inr (a6)) (h6 : 0 ≤ (a1) ∧ (a1) ≤ 3 ∧ 0 ≤ (a2) ∧ (a2) ≤ 65540) (h7 : 0 ≤ (a3) ∧ (a3) ≤ 255) (h8 : 0 ≤ (a4) ∧ (a4) ≤ 255) (h9 : 0 ≤ (a5) ∧ (a5) ≤ 255) (h10 : 0 ≤ (a6) ∧ (a6) ≤ 255) (k : ∀ (z : Int) σ F' A', HS σ0 σ D N F' A' → SF [] F F' → SA [] A A' → ((z) = 0 ∨ (z) = 1) → ((((z) : Int) = 1 ∧ (a2) + 4 ≤ ((w11)) ((a1)) ∧ nvl (ap (rwR ((w10)) ((w11)) ((a1)))) ((a2)) 4 = (a3) + 256 * (a4) + 65536 * (a5) + 16777216 * (a6) ∨ ((z) : Int) = 0 ∧ ¬ ((a2) + 4 ≤ ((w11)) ((a1)) ∧ nvl (ap (rwR ((w10)) ((w11)) ((a1)))) ((a2)) 4 = (a3) + 256 * (a4) + 65536 * (a5) + 16777216 * (a6)))) → Q (some (I z)) σ c s) : Ew 86 (d + 0) 0 (rargs 0 [.ref (D 0), I a1, I a2, I a3, I a4, I a5, I a6]) [] σ c s Q := by
  have hRo : ∀ i, (0 : Int) ≤ (w10) i ∧ (w10) i ≤ 255 := fun i => by have h1 : (0 : Int) ≤ A 10 i ∧ A 10 i ≤ 255 := H.arng 10 i; rw [show A 10 = w10 from ew10] at h1; exact h1
  have hSz : ∀ i, (0 : Int) ≤ (w11) i ∧ (w11) i ≤ 65536 := fun i => by have h1 : (0 : Int) ≤ A 11 i ∧ A 11 i ≤ 65536 := H.arng 11 i; rw [show A 11 = w11 from ew11] at h1; exact h1
  refine Ew_of (pc' := 2) (fun _ => x_ldc (z := 65536) rfl (by decide)) ?_
  refine Ew_of (pc' := 3) (fun _ => x_iload_n rfl rfl) ?_
  refine w_imul rfl ?_
  refine Ew_of (pc' := 5) (fun _ => x_iload_n rfl rfl) ?_
  refine w_iadd rfl ?_
  refine Ew_of (pc' := 8) (fun _ => x_istore rfl) ?_
  refine Ew_of (pc' := 9) (fun _ => x_iload_n rfl (rk_o (rfl) rfl rfl)) ?_
  refine Ew_of (pc' := 10) (fun _ => x_iconst rfl) ?_
  refine w_iadd rfl ?_
  refine Ew_of (pc' := 12) (fun _ => x_aload_n rfl (rk_o (rfl) rfl rfl)) ?_
  refine w_gT H (o := 0) (t := 11) rfl (H.perm 0 rfl) rfl rfl rfl rfl rfl rfl ?_
  refine Ew_of (pc' := 16) (fun _ => x_iload_n rfl (rk_o (rfl) rfl rfl)) ?_
  refine w_lI H (o := 11) (n := 4) rfl (H.perm 11 rfl) rfl rfl (H.fix 11 rfl rfl) (show 0 ≤ a1 ∧ a1 < ((4 : Nat) : Int) by omega) (by decide) (fun v1 ev1 qv1 => ?_)
  have qv1 : (0 : Int) ≤ v1 ∧ v1 ≤ 65536 := qv1
  have ev1 : (w11) (a1) = v1 := (congrFun (ew11) (a1)).symm.trans ev1
  have hsz := ev1
  refine w_icmpgt (t := 77) rfl rfl (show inr ((a2 + 4)) by omega) (show inr (v1) by omega) (fun b2 => ?_) (fun b2 => ?_)
  · refine Ew_of (pc' := 78) (fun _ => x_iconst rfl) ?_
    exact w_ireturn rfl (k (0) σ _ _ H (SF_refl) (SA_refl) (show (0) = 0 ∨ (0) = 1 by omega) (show (((0) : Int) = 1 ∧ a2 + 4 ≤ ((w11)) (a1) ∧ nvl (ap (rwR ((w10)) ((w11)) (a1))) (a2) 4 = a3 + 256 * a4 + 65536 * a5 + 16777216 * a6 ∨ ((0) : Int) = 0 ∧ ¬ (a2 + 4 ≤ ((w11)) (a1) ∧ nvl (ap (rwR ((w10)) ((w11)) (a1))) (a2) 4 = a3 + 256 * a4 + 65536 * a5 + 16777216 * a6)) by omega))
  · have hN := nv4 (ro := (w10)) (si := (w11)) (r := (a1)) (a := (a2)) (by omega) (by omega) hRo
    have hR0 := hRo (65536 * (a1) + (a2))
    have hR1 := hRo (65536 * (a1) + (a2) + 1)
    have hR2 := hRo (65536 * (a1) + (a2) + 2)
    have hR3 := hRo (65536 * (a1) + (a2) + 3)
    refine Ew_of (pc' := 21) (fun _ => x_aload_n rfl (rk_o (rfl) rfl rfl)) ?_
    refine w_gT H (o := 0) (t := 10) rfl (H.perm 0 rfl) rfl rfl rfl rfl rfl rfl ?_
    refine Ew_of (pc' := 26) (fun _ => x_iload rfl rk_s) ?_
    refine w_lI H (o := 10) (n := 262144) rfl (H.perm 10 rfl) rfl rfl (H.fix 10 rfl rfl) (show 0 ≤ ((65536 * a1) + a2) ∧ ((65536 * a1) + a2) < ((262144 : Nat) : Int) by omega) (by decide) (fun v3 ev3 qv3 => ?_)
    have qv3 : (0 : Int) ≤ v3 ∧ v3 ≤ 255 := qv3
    have ev3 : (w10) (((65536 * a1) + a2)) = v3 := (congrFun (ew10) (((65536 * a1) + a2))).symm.trans ev3
    have hv0 := ev3
    refine Ew_of (pc' := 28) (fun _ => x_iload_n rfl (rk_o (rfl) rfl rfl)) ?_
    refine w_icmpne (t := 77) rfl rfl (show inr (v3) by omega) (show inr (a3) by omega) (fun b4 => ?_) (fun b4 => ?_)
    · refine Ew_of (pc' := 78) (fun _ => x_iconst rfl) ?_
      exact w_ireturn rfl (k (0) σ _ _ H (SF_refl) (SA_refl) (show (0) = 0 ∨ (0) = 1 by omega) (show (((0) : Int) = 1 ∧ a2 + 4 ≤ ((w11)) (a1) ∧ nvl (ap (rwR ((w10)) ((w11)) (a1))) (a2) 4 = a3 + 256 * a4 + 65536 * a5 + 16777216 * a6 ∨ ((0) : Int) = 0 ∧ ¬ (a2 + 4 ≤ ((w11)) (a1) ∧ nvl (ap (rwR ((w10)) ((w11)) (a1))) (a2) 4 = a3 + 256 * a4 + 65536 * a5 + 16777216 * a6)) by omega))
    · refine Ew_of (pc' := 32) (fun _ => x_aload_n rfl (rk_o (rfl) rfl rfl)) ?_
      refine w_gT H (o := 0) (t := 10) rfl (H.perm 0 rfl) rfl rfl rfl rfl rfl rfl ?_
      refine Ew_of (pc' := 37) (fun _ => x_iload rfl rk_s) ?_
      refine Ew_of (pc' := 38) (fun _ => x_iconst rfl) ?_
      refine w_iadd rfl ?_
      refine w_lI H (o := 10) (n := 262144) rfl (H.perm 10 rfl) rfl rfl (H.fix 10 rfl rfl) (show 0 ≤ (((65536 * a1) + a2) + 1) ∧ (((65536 * a1) + a2) + 1) < ((262144 : Nat) : Int) by omega) (by decide) (fun v5 ev5 qv5 => ?_)
      have qv5 : (0 : Int) ≤ v5 ∧ v5 ≤ 255 := qv5
      have ev5 : (w10) ((((65536 * a1) + a2) + 1)) = v5 := (congrFun (ew10) ((((65536 * a1) + a2) + 1))).symm.trans ev5
      have hv1 := ev5
      refine Ew_of (pc' := 42) (fun _ => x_iload rfl (rk_o (rfl) rfl rfl)) ?_
      refine w_icmpne (t := 77) rfl rfl (show inr (v5) by omega) (show inr (a4) by omega) (fun b6 => ?_) (fun b6 => ?_)
      · refine Ew_of (pc' := 78) (fun _ => x_iconst rfl) ?_
        exact w_ireturn rfl (k (0) σ _ _ H (SF_refl) (SA_refl) (show (0) = 0 ∨ (0) = 1 by omega) (show (((0) : Int) = 1 ∧ a2 + 4 ≤ ((w11)) (a1) ∧ nvl (ap (rwR ((w10)) ((w11)) (a1))) (a2) 4 = a3 + 256 * a4 + 65536 * a5 + 16777216 * a6 ∨ ((0) : Int) = 0 ∧ ¬ (a2 + 4 ≤ ((w11)) (a1) ∧ nvl (ap (rwR ((w10)) ((w11)) (a1))) (a2) 4 = a3 + 256 * a4 + 65536 * a5 + 16777216 * a6)) by omega))
      · refine Ew_of (pc' := 46) (fun _ => x_aload_n rfl (rk_o (rfl) rfl rfl)) ?_
        refine w_gT H (o := 0) (t := 10) rfl (H.perm 0 rfl) rfl rfl rfl rfl rfl rfl ?_
        refine Ew_of (pc' := 51) (fun _ => x_iload rfl rk_s) ?_
        refine Ew_of (pc' := 52) (fun _ => x_iconst rfl) ?_
        refine w_iadd rfl ?_
        refine w_lI H (o := 10) (n := 262144) rfl (H.perm 10 rfl) rfl rfl (H.fix 10 rfl rfl) (show 0 ≤ (((65536 * a1) + a2) + 2) ∧ (((65536 * a1) + a2) + 2) < ((262144 : Nat) : Int) by omega) (by decide) (fun v7 ev7 qv7 => ?_)
        have qv7 : (0 : Int) ≤ v7 ∧ v7 ≤ 255 := qv7
        have ev7 : (w10) ((((65536 * a1) + a2) + 2)) = v7 := (congrFun (ew10) ((((65536 * a1) + a2) + 2))).symm.trans ev7
        have hv2 := ev7
        refine Ew_of (pc' := 56) (fun _ => x_iload rfl (rk_o (rfl) rfl rfl)) ?_
        refine w_icmpne (t := 77) rfl rfl (show inr (v7) by omega) (show inr (a5) by omega) (fun b8 => ?_) (fun b8 => ?_)
        · refine Ew_of (pc' := 78) (fun _ => x_iconst rfl) ?_
          exact w_ireturn rfl (k (0) σ _ _ H (SF_refl) (SA_refl) (show (0) = 0 ∨ (0) = 1 by omega) (show (((0) : Int) = 1 ∧ a2 + 4 ≤ ((w11)) (a1) ∧ nvl (ap (rwR ((w10)) ((w11)) (a1))) (a2) 4 = a3 + 256 * a4 + 65536 * a5 + 16777216 * a6 ∨ ((0) : Int) = 0 ∧ ¬ (a2 + 4 ≤ ((w11)) (a1) ∧ nvl (ap (rwR ((w10)) ((w11)) (a1))) (a2) 4 = a3 + 256 * a4 + 65536 * a5 + 16777216 * a6)) by omega))
        · refine Ew_of (pc' := 60) (fun _ => x_aload_n rfl (rk_o (rfl) rfl rfl)) ?_
          refine w_gT H (o := 0) (t := 10) rfl (H.perm 0 rfl) rfl rfl rfl rfl rfl rfl ?_
          refine Ew_of (pc' := 65) (fun _ => x_iload rfl rk_s) ?_
          refine Ew_of (pc' := 66) (fun _ => x_iconst rfl) ?_
          refine w_iadd rfl ?_
          refine w_lI H (o := 10) (n := 262144) rfl (H.perm 10 rfl) rfl rfl (H.fix 10 rfl rfl) (show 0 ≤ (((65536 * a1) + a2) + 3) ∧ (((65536 * a1) + a2) + 3) < ((262144 : Nat) : Int) by omega) (by decide) (fun v9 ev9 qv9 => ?_)
          have qv9 : (0 : Int) ≤ v9 ∧ v9 ≤ 255 := qv9
          have ev9 : (w10) ((((65536 * a1) + a2) + 3)) = v9 := (congrFun (ew10) ((((65536 * a1) + a2) + 3))).symm.trans ev9
          have hv3 := ev9
          refine Ew_of (pc' := 70) (fun _ => x_iload rfl (rk_o (rfl) rfl rfl)) ?_
          refine w_icmpne (t := 77) rfl rfl (show inr (v9) by omega) (show inr (a6) by omega) (fun b10 => ?_) (fun b10 => ?_)
          · refine Ew_of (pc' := 78) (fun _ => x_iconst rfl) ?_
            exact w_ireturn rfl (k (0) σ _ _ H (SF_refl) (SA_refl) (show (0) = 0 ∨ (0) = 1 by omega) (show (((0) : Int) = 1 ∧ a2 + 4 ≤ ((w11)) (a1) ∧ nvl (ap (rwR ((w10)) ((w11)) (a1))) (a2) 4 = a3 + 256 * a4 + 65536 * a5 + 16777216 * a6 ∨ ((0) : Int) = 0 ∧ ¬ (a2 + 4 ≤ ((w11)) (a1) ∧ nvl (ap (rwR ((w10)) ((w11)) (a1))) (a2) 4 = a3 + 256 * a4 + 65536 * a5 + 16777216 * a6)) by omega))
          · refine Ew_of (pc' := 74) (fun _ => x_iconst rfl) ?_
            refine Ew_of (pc' := 78) (fun _ => x_goto rfl rfl) ?_
            exact w_ireturn rfl (k (1) σ _ _ H (SF_refl) (SA_refl) (show (1) = 0 ∨ (1) = 1 by omega) (show (((1) : Int) = 1 ∧ a2 + 4 ≤ ((w11)) (a1) ∧ nvl (ap (rwR ((w10)) ((w11)) (a1))) (a2) 4 = a3 + 256 * a4 + 65536 * a5 + 16777216 * a6 ∨ ((1) : Int) = 0 ∧ ¬ (a2 + 4 ≤ ((w11)) (a1) ∧ nvl (ap (rwR ((w10)) ((w11)) (a1))) (a2) 4 = a3 + 256 * a4 + 65536 * a5 + 16777216 * a6)) by omega))
/-- Model.kind -/
theorem M87p {σ0 σ : rS} {D N : Nat → Nat} {F : hF} {A : hA} {d c s : Nat} {Q : wQ} (H : HS σ0 σ D N F A) {a1 : Int} (w10 : Int → Int) (ew10 : A 10 = w10) (w11 : Int → Int) (ew11 : A 11 = w11) (h0 : inr (a1)) (k : ∀ (z : Int) σ F' A', HS σ0 σ D N F' A' → SF [] F F' → SA [] A A' → (inr (z)) → (-1 ≤ (z) ∧ (z) ≤ 5 ∧ (z) ≠ 2) → (((0 ≤ (a1) ∧ (a1) ≤ 3) ∧ ((z) : Int) = knF (rwR ((w10)) ((w11)) ((a1))) ∨ ¬ (0 ≤ (a1) ∧ (a1) ≤ 3) ∧ ((z) : Int) = -1)) → Q (some (I z)) σ c s) : Ew 87 (d + 1) 0 (rargs 0 [.ref (D 0), I a1]) [] σ c s Q := by
  have hSz : ∀ i, (0 : Int) ≤ (w11) i ∧ (w11) i ≤ 65536 := fun i => by have h1 : (0 : Int) ≤ A 11 i ∧ A 11 i ≤ 65536 := H.arng 11 i; rw [show A 11 = w11 from ew11] at h1; exact h1
  have hRo : ∀ i, (0 : Int) ≤ (w10) i ∧ (w10) i ≤ 255 := fun i => by have h1 : (0 : Int) ≤ A 10 i ∧ A 10 i ≤ 255 := H.arng 10 i; rw [show A 10 = w10 from ew10] at h1; exact h1
  have hsa := hSz ((a1))
  have hln : ((rwR ((w10)) ((w11)) ((a1))).length : Int) = ((w11)) ((a1)) := rwR_len (hSz ((a1))).1
  refine Ew_of (pc' := 1) (fun _ => x_iload_n rfl rfl) ?_
  refine w_stat24 rfl rfl (by rfl) (M56p H (show inr (a1) by omega) (fun z5 σ F1 A2 H hS3 hA4 pz5_0 pz5_1 => ⟨rretB rfl pz5_0, ?_⟩))
  refine w_ifne (t := 9) rfl rfl (show inr (z5) by omega) (fun b6 => ?_) (fun b6 => ?_)
  · refine Ew_of (pc' := 10) (fun _ => x_iconst rfl) ?_
    refine Ew_of (pc' := 11) (fun _ => x_istore_n rfl) ?_
    refine Ew_of (pc' := 12) (fun _ => x_iconst rfl) ?_
    refine Ew_of (pc' := 13) (fun _ => x_istore_n rfl) ?_
    have : KNO (rwR ((w10)) ((w11)) ((a1))) (0) := KNO_0
    have : IMP ((1 : Int) = 0) (¬ (0 + 8 ≤ ((rwR ((w10)) ((w11)) ((a1))).length : Int) ∧ 407710288 ≤ nvl (ap (rwR ((w10)) ((w11)) ((a1)))) (0) 4 ∧ nvl (ap (rwR ((w10)) ((w11)) ((a1)))) (0) 4 ≤ 407710303 ∧ nvl (ap (rwR ((w10)) ((w11)) ((a1)))) (0 + 4) 4 ≤ ((rwR ((w10)) ((w11)) ((a1))).length : Int) - 0 - 8)) := fun q => absurd q (by omega)
    suffices hl13 : ∀ (m : Nat), ∀ (ls : rO) (σ : rS) (F_13 : hF) (A_13 : hA) (x13_2 : Int) (x13_3 : Int), rlook ls 0 = some (.ref (D 0)) → rlook ls 1 = some (I (a1)) → rlook ls 2 = some (I (x13_2)) → rlook ls 3 = some (I (x13_3)) → HS σ0 σ D N F_13 A_13 → SF [] F1 F_13 → SA [] A2 A_13 → (inr (x13_2)) → (inr (x13_3)) → ((x13_3) = 0 ∨ (x13_3) = 1) → (0 ≤ (x13_2) ∧ (x13_2) ≤ ((w11)) ((a1)) ∧ ((w11)) ((a1)) ≤ 65536) → (KNO (rwR ((w10)) ((w11)) ((a1))) ((x13_2))) → (IMP (((x13_3) : Int) = 0) (¬ ((x13_2) + 8 ≤ ((rwR ((w10)) ((w11)) ((a1))).length : Int) ∧ 407710288 ≤ nvl (ap (rwR ((w10)) ((w11)) ((a1)))) ((x13_2)) 4 ∧ nvl (ap (rwR ((w10)) ((w11)) ((a1)))) ((x13_2)) 4 ≤ 407710303 ∧ nvl (ap (rwR ((w10)) ((w11)) ((a1)))) ((x13_2) + 4) 4 ≤ ((rwR ((w10)) ((w11)) ((a1))).length : Int) - (x13_2) - 8))) → (2 * (((w11)) ((a1)) - (x13_2)) + (x13_3)).toNat = m → Ew 87 (d + 1) 13 ls [] σ c s Q from
      hl13 _ _ σ _ _ (0) (1) (rk_o (rk_o (rfl) rfl rfl) rfl rfl) (rk_o (rk_o (rfl) rfl rfl) rfl rfl) (rk_o (rk_s) rfl rfl) (rk_s) H (SF_refl) (SA_refl)   (show inr (0) by omega) (show inr (1) by omega) (show (1) = 0 ∨ (1) = 1 by omega) (show 0 ≤ (0) ∧ (0) ≤ ((w11)) ((a1)) ∧ ((w11)) ((a1)) ≤ 65536 by omega) (show KNO (rwR ((w10)) ((w11)) ((a1))) ((0)) by assumption) (show IMP (((1) : Int) = 0) (¬ ((0) + 8 ≤ ((rwR ((w10)) ((w11)) ((a1))).length : Int) ∧ 407710288 ≤ nvl (ap (rwR ((w10)) ((w11)) ((a1)))) ((0)) 4 ∧ nvl (ap (rwR ((w10)) ((w11)) ((a1)))) ((0)) 4 ≤ 407710303 ∧ nvl (ap (rwR ((w10)) ((w11)) ((a1)))) ((0) + 4) 4 ≤ ((rwR ((w10)) ((w11)) ((a1))).length : Int) - (0) - 8)) by assumption) rfl
    as_aux_lemma =>
    intro m
    induction m using Nat.strongRecOn with
    | _ m ih13 =>
      intro ls σ F_13 A_13 x13_2 x13_3 l13_0 l13_1 l13_2 l13_3 H hS_13 hA_13   j13_0 j13_1 j13_2 j13_3 j13_4 j13_5 hm13
      have j13_k : KNO (rwR ((w10)) ((w11)) ((a1))) ((x13_2)) := by assumption
      have j13_n : IMP (((x13_3) : Int) = 0) (¬ ((x13_2) + 8 ≤ ((rwR ((w10)) ((w11)) ((a1))).length : Int) ∧ 407710288 ≤ nvl (ap (rwR ((w10)) ((w11)) ((a1)))) ((x13_2)) 4 ∧ nvl (ap (rwR ((w10)) ((w11)) ((a1)))) ((x13_2)) 4 ≤ 407710303 ∧ nvl (ap (rwR ((w10)) ((w11)) ((a1)))) ((x13_2) + 4) 4 ≤ ((rwR ((w10)) ((w11)) ((a1))).length : Int) - (x13_2) - 8)) := by assumption
      refine Ew_of (pc' := 14) (fun _ => x_iload_n rfl l13_3) ?_
      refine w_ifeq (t := 201) rfl rfl (show inr (x13_3) by omega) (fun b7 => ?_) (fun b7 => ?_)
      · have hkn : knF (rwR ((w10)) ((w11)) ((a1))) = knE (rwR ((w10)) ((w11)) ((a1))) ((x13_2)) := KNO_e j13_k (j13_n (by omega))
        refine Ew_of (pc' := 202) (fun _ => x_aload_n rfl l13_0) ?_
        refine Ew_of (pc' := 203) (fun _ => x_iload_n rfl l13_1) ?_
        refine Ew_of (pc' := 204) (fun _ => x_iload_n rfl l13_2) ?_
        refine Ew_of (pc' := 205) (fun _ => x_iconst rfl) ?_
        refine Ew_of (pc' := 207) (fun _ => x_bipush (z := 34) rfl (by decide)) ?_
        refine Ew_of (pc' := 209) (fun _ => x_bipush (z := 77) rfl (by decide)) ?_
        refine Ew_of (pc' := 211) (fun _ => x_bipush (z := 24) rfl (by decide)) ?_
        refine w_inv H (o := 0) rfl rfl rfl (H.perm 0 rfl) rfl rfl (by rfl) (M86p H (w10) ((funext (hA_13 10 rfl)).trans ((funext (hA4 10 rfl)).trans (ew10))) (w11) ((funext (hA_13 11 rfl)).trans ((funext (hA4 11 rfl)).trans (ew11))) (show inr (a1) by omega) (show inr (x13_2) by omega) (show inr (4) by omega) (show inr (34) by omega) (show inr (77) by omega) (show inr (24) by omega) (show 0 ≤ (a1) ∧ (a1) ≤ 3 ∧ 0 ≤ (x13_2) ∧ (x13_2) ≤ 65540 by omega) (show 0 ≤ (4) ∧ (4) ≤ 255 by omega) (show 0 ≤ (34) ∧ (34) ≤ 255 by omega) (show 0 ≤ (77) ∧ (77) ≤ 255 by omega) (show 0 ≤ (24) ∧ (24) ≤ 255 by omega) (fun z12 σ F8 A9 H hS10 hA11 pz12_0 pz12_1 => ⟨rretB rfl pz12_0, ?_⟩))
        refine w_ifeq (t := 219) rfl rfl (show inr (z12) by omega) (fun b13 => ?_) (fun b13 => ?_)
        · refine Ew_of (pc' := 220) (fun _ => x_aload_n rfl l13_0) ?_
          refine Ew_of (pc' := 221) (fun _ => x_iload_n rfl l13_1) ?_
          refine Ew_of (pc' := 222) (fun _ => x_iload_n rfl l13_2) ?_
          refine Ew_of (pc' := 224) (fun _ => x_bipush (z := 40) rfl (by decide)) ?_
          refine Ew_of (pc' := 227) (fun _ => x_sipush (z := 181) rfl (by decide)) ?_
          refine Ew_of (pc' := 229) (fun _ => x_bipush (z := 47) rfl (by decide)) ?_
          refine Ew_of (pc' := 232) (fun _ => x_sipush (z := 253) rfl (by decide)) ?_
          refine w_inv H (o := 0) rfl rfl rfl (H.perm 0 rfl) rfl rfl (by rfl) (M86p H (w10) ((funext (hA11 10 rfl)).trans ((funext (hA_13 10 rfl)).trans ((funext (hA4 10 rfl)).trans (ew10)))) (w11) ((funext (hA11 11 rfl)).trans ((funext (hA_13 11 rfl)).trans ((funext (hA4 11 rfl)).trans (ew11)))) (show inr (a1) by omega) (show inr (x13_2) by omega) (show inr (40) by omega) (show inr (181) by omega) (show inr (47) by omega) (show inr (253) by omega) (show 0 ≤ (a1) ∧ (a1) ≤ 3 ∧ 0 ≤ (x13_2) ∧ (x13_2) ≤ 65540 by omega) (show 0 ≤ (40) ∧ (40) ≤ 255 by omega) (show 0 ≤ (181) ∧ (181) ≤ 255 by omega) (show 0 ≤ (47) ∧ (47) ≤ 255 by omega) (show 0 ≤ (253) ∧ (253) ≤ 255 by omega) (fun z18 σ F14 A15 H hS16 hA17 pz18_0 pz18_1 => ⟨rretB rfl pz18_0, ?_⟩))
          refine w_ifeq (t := 240) rfl rfl (show inr (z18) by omega) (fun b19 => ?_) (fun b19 => ?_)
          · refine Ew_of (pc' := 241) (fun _ => x_aload_n rfl l13_0) ?_
            refine Ew_of (pc' := 242) (fun _ => x_iload_n rfl l13_1) ?_
            refine Ew_of (pc' := 243) (fun _ => x_iload_n rfl l13_2) ?_
            refine Ew_of (pc' := 245) (fun _ => x_bipush (z := 55) rfl (by decide)) ?_
            refine Ew_of (pc' := 248) (fun _ => x_sipush (z := 164) rfl (by decide)) ?_
            refine Ew_of (pc' := 250) (fun _ => x_bipush (z := 48) rfl (by decide)) ?_
            refine Ew_of (pc' := 253) (fun _ => x_sipush (z := 236) rfl (by decide)) ?_
            refine w_inv H (o := 0) rfl rfl rfl (H.perm 0 rfl) rfl rfl (by rfl) (M86p H (w10) ((funext (hA17 10 rfl)).trans ((funext (hA11 10 rfl)).trans ((funext (hA_13 10 rfl)).trans ((funext (hA4 10 rfl)).trans (ew10))))) (w11) ((funext (hA17 11 rfl)).trans ((funext (hA11 11 rfl)).trans ((funext (hA_13 11 rfl)).trans ((funext (hA4 11 rfl)).trans (ew11))))) (show inr (a1) by omega) (show inr (x13_2) by omega) (show inr (55) by omega) (show inr (164) by omega) (show inr (48) by omega) (show inr (236) by omega) (show 0 ≤ (a1) ∧ (a1) ≤ 3 ∧ 0 ≤ (x13_2) ∧ (x13_2) ≤ 65540 by omega) (show 0 ≤ (55) ∧ (55) ≤ 255 by omega) (show 0 ≤ (164) ∧ (164) ≤ 255 by omega) (show 0 ≤ (48) ∧ (48) ≤ 255 by omega) (show 0 ≤ (236) ∧ (236) ≤ 255 by omega) (fun z24 σ F20 A21 H hS22 hA23 pz24_0 pz24_1 => ⟨rretB rfl pz24_0, ?_⟩))
            refine w_ifeq (t := 261) rfl rfl (show inr (z24) by omega) (fun b25 => ?_) (fun b25 => ?_)
            · have hc314 : ∀ (tc314_0 : Int), ∀ (ls : rO) (σ : rS) (F_c314 : hF) (A_c314 : hA) , rlook ls 0 = some (.ref (D 0)) → rlook ls 1 = some (I (a1)) → rlook ls 2 = some (I (x13_2)) → HS σ0 σ D N F_c314 A_c314 → SF [] F20 F_c314 → SA [] A21 A_c314 → (inr (tc314_0)) → (((tc314_0) : Int) = 1 ∧ ((x13_2) + 10 ≤ ((w11)) ((a1)) ∧ nvl (ap (rwR ((w10)) ((w11)) ((a1)))) ((x13_2)) 4 = 1791 ∧ nvl (ap (rwR ((w10)) ((w11)) ((a1)))) ((x13_2) + 4) 4 = 1348554355) ∨ ((tc314_0) : Int) = 0 ∧ ¬ ((x13_2) + 10 ≤ ((w11)) ((a1)) ∧ nvl (ap (rwR ((w10)) ((w11)) ((a1)))) ((x13_2)) 4 = 1791 ∧ nvl (ap (rwR ((w10)) ((w11)) ((a1)))) ((x13_2) + 4) 4 = 1348554355)) → Ew 87 (d + 1) 314 ls [I (tc314_0)] σ c s Q := by
               as_aux_lemma =>
                intro tc314_0 ls σ F_c314 A_c314  lc314_0 lc314_1 lc314_2 H hS_c314 hA_c314   jc314_0 jc314_1
                refine Ew_of (pc' := 316) (fun _ => x_istore rfl) ?_
                refine Ew_of (pc' := 318) (fun _ => x_iload rfl rk_s) ?_
                refine w_ifeq (t := 363) rfl rfl (show inr (tc314_0) by omega) (fun b26 => ?_) (fun b26 => ?_)
                · refine Ew_of (pc' := 364) (fun _ => x_iconst rfl) ?_
                  have : ((0 ≤ (a1) ∧ (a1) ≤ 3) ∧ ((0) : Int) = knF (rwR ((w10)) ((w11)) ((a1))) ∨ ¬ (0 ≤ (a1) ∧ (a1) ≤ 3) ∧ ((0) : Int) = -1) := .inl ⟨by omega, (hkn.trans (by first | exact knE_3 (tgA_of (by omega) (by omega) (by omega) (hv8x.trans (by omega)) (hv9x.trans (by omega)) (ap_rngL (fun x q => sc_mem q))) | (by_cases hq4 : ((rwR ((w10)) ((w11)) ((a1))).length : Int) < (x13_2) + 4; (exact knE_n hq4); (exact knE_0 (by omega) (by omega) (by omega) (fun q => by have q1 := q.1; have q2 := tgA_v q; have q3 := tgA_4 q; first | omega | (rw [hv8x] at q3; omega) | (rw [hv9x] at q3; omega)))))).symm⟩
                  exact w_ireturn rfl (k (0) σ _ _ H (SF_trans (SF_trans (SF_trans (SF_trans (SF_trans (SF_trans (SF_refl) hS3 (any_sub rfl)) hS_13 (any_sub rfl)) hS10 (any_sub rfl)) hS16 (any_sub rfl)) hS22 (any_sub rfl)) hS_c314 (any_sub rfl)) (SA_trans (SA_trans (SA_trans (SA_trans (SA_trans (SA_trans (SA_refl) hA4 (any_subA rfl)) hA_13 (any_subA rfl)) hA11 (any_subA rfl)) hA17 (any_subA rfl)) hA23 (any_subA rfl)) hA_c314 (any_subA rfl)) (show inr (0) by omega) (show -1 ≤ (0) ∧ (0) ≤ 5 ∧ (0) ≠ 2 by omega) (show ((0 ≤ a1 ∧ a1 ≤ 3) ∧ ((0) : Int) = knF (rwR ((w10)) ((w11)) (a1)) ∨ ¬ (0 ≤ a1 ∧ a1 ≤ 3) ∧ ((0) : Int) = -1) by assumption))
                · refine Ew_of (pc' := 322) (fun _ => x_aload_n rfl (rk_o (lc314_0) rfl rfl)) ?_
                  refine w_gT H (o := 0) (t := 10) rfl (H.perm 0 rfl) rfl rfl rfl rfl rfl rfl ?_
                  refine Ew_of (pc' := 327) (fun _ => x_ldc (z := 65536) rfl (by decide)) ?_
                  refine Ew_of (pc' := 328) (fun _ => x_iload_n rfl (rk_o (lc314_1) rfl rfl)) ?_
                  refine w_imul rfl ?_
                  refine Ew_of (pc' := 330) (fun _ => x_iload_n rfl (rk_o (lc314_2) rfl rfl)) ?_
                  refine w_iadd rfl ?_
                  refine Ew_of (pc' := 333) (fun _ => x_bipush (z := 8) rfl (by decide)) ?_
                  refine w_iadd rfl ?_
                  refine w_lI H (o := 10) (n := 262144) rfl (H.perm 10 rfl) rfl rfl (H.fix 10 rfl rfl) (show 0 ≤ (((65536 * a1) + x13_2) + 8) ∧ (((65536 * a1) + x13_2) + 8) < ((262144 : Nat) : Int) by omega) (by decide) (fun v27 ev27 qv27 => ?_)
                  have qv27 : (0 : Int) ≤ v27 ∧ v27 ≤ 255 := qv27
                  have ev27 : (w10) ((((65536 * a1) + x13_2) + 8)) = v27 := (congrFun ((funext (hA_c314 10 rfl)).trans ((funext (hA23 10 rfl)).trans ((funext (hA17 10 rfl)).trans ((funext (hA11 10 rfl)).trans ((funext (hA_13 10 rfl)).trans ((funext (hA4 10 rfl)).trans (ew10))))))) ((((65536 * a1) + x13_2) + 8))).symm.trans ev27
                  have hv8 := ev27
                  have hv8x : ap (rwR ((w10)) ((w11)) ((a1))) ((x13_2) + 8) = (v27) := by rw [rwR_g (by omega) (by omega) hRo, show 65536 * (a1) + ((x13_2) + 8) = 65536 * (a1) + (x13_2) + 8 by omega]; exact hv8
                  refine Ew_of (pc' := 337) (fun _ => x_bipush (z := 112) rfl (by decide)) ?_
                  refine w_icmpne (t := 363) rfl rfl (show inr (v27) by omega) (show inr (112) by omega) (fun b28 => ?_) (fun b28 => ?_)
                  · refine Ew_of (pc' := 364) (fun _ => x_iconst rfl) ?_
                    have : ((0 ≤ (a1) ∧ (a1) ≤ 3) ∧ ((0) : Int) = knF (rwR ((w10)) ((w11)) ((a1))) ∨ ¬ (0 ≤ (a1) ∧ (a1) ≤ 3) ∧ ((0) : Int) = -1) := .inl ⟨by omega, (hkn.trans (by first | exact knE_3 (tgA_of (by omega) (by omega) (by omega) (hv8x.trans (by omega)) (hv9x.trans (by omega)) (ap_rngL (fun x q => sc_mem q))) | (by_cases hq4 : ((rwR ((w10)) ((w11)) ((a1))).length : Int) < (x13_2) + 4; (exact knE_n hq4); (exact knE_0 (by omega) (by omega) (by omega) (fun q => by have q1 := q.1; have q2 := tgA_v q; have q3 := tgA_4 q; first | omega | (rw [hv8x] at q3; omega) | (rw [hv9x] at q3; omega)))))).symm⟩
                    exact w_ireturn rfl (k (0) σ _ _ H (SF_trans (SF_trans (SF_trans (SF_trans (SF_trans (SF_trans (SF_refl) hS3 (any_sub rfl)) hS_13 (any_sub rfl)) hS10 (any_sub rfl)) hS16 (any_sub rfl)) hS22 (any_sub rfl)) hS_c314 (any_sub rfl)) (SA_trans (SA_trans (SA_trans (SA_trans (SA_trans (SA_trans (SA_refl) hA4 (any_subA rfl)) hA_13 (any_subA rfl)) hA11 (any_subA rfl)) hA17 (any_subA rfl)) hA23 (any_subA rfl)) hA_c314 (any_subA rfl)) (show inr (0) by omega) (show -1 ≤ (0) ∧ (0) ≤ 5 ∧ (0) ≠ 2 by omega) (show ((0 ≤ a1 ∧ a1 ≤ 3) ∧ ((0) : Int) = knF (rwR ((w10)) ((w11)) (a1)) ∨ ¬ (0 ≤ a1 ∧ a1 ≤ 3) ∧ ((0) : Int) = -1) by assumption))
                  · refine Ew_of (pc' := 341) (fun _ => x_aload_n rfl (rk_o (lc314_0) rfl rfl)) ?_
                    refine w_gT H (o := 0) (t := 10) rfl (H.perm 0 rfl) rfl rfl rfl rfl rfl rfl ?_
                    refine Ew_of (pc' := 346) (fun _ => x_ldc (z := 65536) rfl (by decide)) ?_
                    refine Ew_of (pc' := 347) (fun _ => x_iload_n rfl (rk_o (lc314_1) rfl rfl)) ?_
                    refine w_imul rfl ?_
                    refine Ew_of (pc' := 349) (fun _ => x_iload_n rfl (rk_o (lc314_2) rfl rfl)) ?_
                    refine w_iadd rfl ?_
                    refine Ew_of (pc' := 352) (fun _ => x_bipush (z := 9) rfl (by decide)) ?_
                    refine w_iadd rfl ?_
                    refine w_lI H (o := 10) (n := 262144) rfl (H.perm 10 rfl) rfl rfl (H.fix 10 rfl rfl) (show 0 ≤ (((65536 * a1) + x13_2) + 9) ∧ (((65536 * a1) + x13_2) + 9) < ((262144 : Nat) : Int) by omega) (by decide) (fun v29 ev29 qv29 => ?_)
                    have qv29 : (0 : Int) ≤ v29 ∧ v29 ≤ 255 := qv29
                    have ev29 : (w10) ((((65536 * a1) + x13_2) + 9)) = v29 := (congrFun ((funext (hA_c314 10 rfl)).trans ((funext (hA23 10 rfl)).trans ((funext (hA17 10 rfl)).trans ((funext (hA11 10 rfl)).trans ((funext (hA_13 10 rfl)).trans ((funext (hA4 10 rfl)).trans (ew10))))))) ((((65536 * a1) + x13_2) + 9))).symm.trans ev29
                    have hv9 := ev29
                    have hv9x : ap (rwR ((w10)) ((w11)) ((a1))) ((x13_2) + 9) = (v29) := by rw [rwR_g (by omega) (by omega) hRo, show 65536 * (a1) + ((x13_2) + 9) = 65536 * (a1) + (x13_2) + 9 by omega]; exact hv9
                    refine Ew_of (pc' := 356) (fun _ => x_bipush (z := 89) rfl (by decide)) ?_
                    refine w_icmpne (t := 363) rfl rfl (show inr (v29) by omega) (show inr (89) by omega) (fun b30 => ?_) (fun b30 => ?_)
                    · refine Ew_of (pc' := 364) (fun _ => x_iconst rfl) ?_
                      have : ((0 ≤ (a1) ∧ (a1) ≤ 3) ∧ ((0) : Int) = knF (rwR ((w10)) ((w11)) ((a1))) ∨ ¬ (0 ≤ (a1) ∧ (a1) ≤ 3) ∧ ((0) : Int) = -1) := .inl ⟨by omega, (hkn.trans (by first | exact knE_3 (tgA_of (by omega) (by omega) (by omega) (hv8x.trans (by omega)) (hv9x.trans (by omega)) (ap_rngL (fun x q => sc_mem q))) | (by_cases hq4 : ((rwR ((w10)) ((w11)) ((a1))).length : Int) < (x13_2) + 4; (exact knE_n hq4); (exact knE_0 (by omega) (by omega) (by omega) (fun q => by have q1 := q.1; have q2 := tgA_v q; have q3 := tgA_4 q; first | omega | (rw [hv8x] at q3; omega) | (rw [hv9x] at q3; omega)))))).symm⟩
                      exact w_ireturn rfl (k (0) σ _ _ H (SF_trans (SF_trans (SF_trans (SF_trans (SF_trans (SF_trans (SF_refl) hS3 (any_sub rfl)) hS_13 (any_sub rfl)) hS10 (any_sub rfl)) hS16 (any_sub rfl)) hS22 (any_sub rfl)) hS_c314 (any_sub rfl)) (SA_trans (SA_trans (SA_trans (SA_trans (SA_trans (SA_trans (SA_refl) hA4 (any_subA rfl)) hA_13 (any_subA rfl)) hA11 (any_subA rfl)) hA17 (any_subA rfl)) hA23 (any_subA rfl)) hA_c314 (any_subA rfl)) (show inr (0) by omega) (show -1 ≤ (0) ∧ (0) ≤ 5 ∧ (0) ≠ 2 by omega) (show ((0 ≤ a1 ∧ a1 ≤ 3) ∧ ((0) : Int) = knF (rwR ((w10)) ((w11)) (a1)) ∨ ¬ (0 ≤ a1 ∧ a1 ≤ 3) ∧ ((0) : Int) = -1) by assumption))
                    · refine Ew_of (pc' := 360) (fun _ => x_iconst rfl) ?_
                      refine Ew_of (pc' := 364) (fun _ => x_goto rfl rfl) ?_
                      have : ((0 ≤ (a1) ∧ (a1) ≤ 3) ∧ ((3) : Int) = knF (rwR ((w10)) ((w11)) ((a1))) ∨ ¬ (0 ≤ (a1) ∧ (a1) ≤ 3) ∧ ((3) : Int) = -1) := .inl ⟨by omega, (hkn.trans (by first | exact knE_3 (tgA_of (by omega) (by omega) (by omega) (hv8x.trans (by omega)) (hv9x.trans (by omega)) (ap_rngL (fun x q => sc_mem q))) | (by_cases hq4 : ((rwR ((w10)) ((w11)) ((a1))).length : Int) < (x13_2) + 4; (exact knE_n hq4); (exact knE_0 (by omega) (by omega) (by omega) (fun q => by have q1 := q.1; have q2 := tgA_v q; have q3 := tgA_4 q; first | omega | (rw [hv8x] at q3; omega) | (rw [hv9x] at q3; omega)))))).symm⟩
                      exact w_ireturn rfl (k (3) σ _ _ H (SF_trans (SF_trans (SF_trans (SF_trans (SF_trans (SF_trans (SF_refl) hS3 (any_sub rfl)) hS_13 (any_sub rfl)) hS10 (any_sub rfl)) hS16 (any_sub rfl)) hS22 (any_sub rfl)) hS_c314 (any_sub rfl)) (SA_trans (SA_trans (SA_trans (SA_trans (SA_trans (SA_trans (SA_refl) hA4 (any_subA rfl)) hA_13 (any_subA rfl)) hA11 (any_subA rfl)) hA17 (any_subA rfl)) hA23 (any_subA rfl)) hA_c314 (any_subA rfl)) (show inr (3) by omega) (show -1 ≤ (3) ∧ (3) ≤ 5 ∧ (3) ≠ 2 by omega) (show ((0 ≤ a1 ∧ a1 ≤ 3) ∧ ((3) : Int) = knF (rwR ((w10)) ((w11)) (a1)) ∨ ¬ (0 ≤ a1 ∧ a1 ≤ 3) ∧ ((3) : Int) = -1) by assumption))
              refine Ew_of (pc' := 262) (fun _ => x_aload_n rfl l13_0) ?_
              refine Ew_of (pc' := 263) (fun _ => x_iload_n rfl l13_1) ?_
              refine Ew_of (pc' := 264) (fun _ => x_iload_n rfl l13_2) ?_
              refine Ew_of (pc' := 267) (fun _ => x_sipush (z := 255) rfl (by decide)) ?_
              refine Ew_of (pc' := 269) (fun _ => x_bipush (z := 6) rfl (by decide)) ?_
              refine Ew_of (pc' := 270) (fun _ => x_iconst rfl) ?_
              refine Ew_of (pc' := 271) (fun _ => x_iconst rfl) ?_
              refine w_inv H (o := 0) rfl rfl rfl (H.perm 0 rfl) rfl rfl (by rfl) (M86p H (w10) ((funext (hA23 10 rfl)).trans ((funext (hA17 10 rfl)).trans ((funext (hA11 10 rfl)).trans ((funext (hA_13 10 rfl)).trans ((funext (hA4 10 rfl)).trans (ew10)))))) (w11) ((funext (hA23 11 rfl)).trans ((funext (hA17 11 rfl)).trans ((funext (hA11 11 rfl)).trans ((funext (hA_13 11 rfl)).trans ((funext (hA4 11 rfl)).trans (ew11)))))) (show inr (a1) by omega) (show inr (x13_2) by omega) (show inr (255) by omega) (show inr (6) by omega) (show inr (0) by omega) (show inr (0) by omega) (show 0 ≤ (a1) ∧ (a1) ≤ 3 ∧ 0 ≤ (x13_2) ∧ (x13_2) ≤ 65540 by omega) (show 0 ≤ (255) ∧ (255) ≤ 255 by omega) (show 0 ≤ (6) ∧ (6) ≤ 255 by omega) (show 0 ≤ (0) ∧ (0) ≤ 255 by omega) (show 0 ≤ (0) ∧ (0) ≤ 255 by omega) (fun z35 σ F31 A32 H hS33 hA34 pz35_0 pz35_1 => ⟨rretB rfl pz35_0, ?_⟩))
              refine w_ifeq (t := 313) rfl rfl (show inr (z35) by omega) (fun b36 => ?_) (fun b36 => ?_)
              · refine Ew_of (pc' := 314) (fun _ => x_iconst rfl) ?_
                exact hc314 (0) _ σ _ _  (l13_0) (l13_1) (l13_2) H (SF_trans (SF_refl) hS33 (any_sub rfl)) (SA_trans (SA_refl) hA34 (any_subA rfl))   (show inr (0) by omega) (show ((0) : Int) = 1 ∧ ((x13_2) + 10 ≤ ((w11)) ((a1)) ∧ nvl (ap (rwR ((w10)) ((w11)) ((a1)))) ((x13_2)) 4 = 1791 ∧ nvl (ap (rwR ((w10)) ((w11)) ((a1)))) ((x13_2) + 4) 4 = 1348554355) ∨ ((0) : Int) = 0 ∧ ¬ ((x13_2) + 10 ≤ ((w11)) ((a1)) ∧ nvl (ap (rwR ((w10)) ((w11)) ((a1)))) ((x13_2)) 4 = 1791 ∧ nvl (ap (rwR ((w10)) ((w11)) ((a1)))) ((x13_2) + 4) 4 = 1348554355) by omega)
              · refine Ew_of (pc' := 278) (fun _ => x_aload_n rfl l13_0) ?_
                refine Ew_of (pc' := 279) (fun _ => x_iload_n rfl l13_1) ?_
                refine Ew_of (pc' := 280) (fun _ => x_iload_n rfl l13_2) ?_
                refine Ew_of (pc' := 281) (fun _ => x_iconst rfl) ?_
                refine w_iadd rfl ?_
                refine Ew_of (pc' := 284) (fun _ => x_bipush (z := 115) rfl (by decide)) ?_
                refine Ew_of (pc' := 286) (fun _ => x_bipush (z := 78) rfl (by decide)) ?_
                refine Ew_of (pc' := 288) (fun _ => x_bipush (z := 97) rfl (by decide)) ?_
                refine Ew_of (pc' := 290) (fun _ => x_bipush (z := 80) rfl (by decide)) ?_
                refine w_inv H (o := 0) rfl rfl rfl (H.perm 0 rfl) rfl rfl (by rfl) (M86p H (w10) ((funext (hA34 10 rfl)).trans ((funext (hA23 10 rfl)).trans ((funext (hA17 10 rfl)).trans ((funext (hA11 10 rfl)).trans ((funext (hA_13 10 rfl)).trans ((funext (hA4 10 rfl)).trans (ew10))))))) (w11) ((funext (hA34 11 rfl)).trans ((funext (hA23 11 rfl)).trans ((funext (hA17 11 rfl)).trans ((funext (hA11 11 rfl)).trans ((funext (hA_13 11 rfl)).trans ((funext (hA4 11 rfl)).trans (ew11))))))) (show inr (a1) by omega) (show inr ((x13_2 + 4)) by omega) (show inr (115) by omega) (show inr (78) by omega) (show inr (97) by omega) (show inr (80) by omega) (show 0 ≤ (a1) ∧ (a1) ≤ 3 ∧ 0 ≤ ((x13_2 + 4)) ∧ ((x13_2 + 4)) ≤ 65540 by omega) (show 0 ≤ (115) ∧ (115) ≤ 255 by omega) (show 0 ≤ (78) ∧ (78) ≤ 255 by omega) (show 0 ≤ (97) ∧ (97) ≤ 255 by omega) (show 0 ≤ (80) ∧ (80) ≤ 255 by omega) (fun z41 σ F37 A38 H hS39 hA40 pz41_0 pz41_1 => ⟨rretB rfl pz41_0, ?_⟩))
                refine w_ifeq (t := 313) rfl rfl (show inr (z41) by omega) (fun b42 => ?_) (fun b42 => ?_)
                · refine Ew_of (pc' := 314) (fun _ => x_iconst rfl) ?_
                  exact hc314 (0) _ σ _ _  (l13_0) (l13_1) (l13_2) H (SF_trans (SF_trans (SF_refl) hS33 (any_sub rfl)) hS39 (any_sub rfl)) (SA_trans (SA_trans (SA_refl) hA34 (any_subA rfl)) hA40 (any_subA rfl))   (show inr (0) by omega) (show ((0) : Int) = 1 ∧ ((x13_2) + 10 ≤ ((w11)) ((a1)) ∧ nvl (ap (rwR ((w10)) ((w11)) ((a1)))) ((x13_2)) 4 = 1791 ∧ nvl (ap (rwR ((w10)) ((w11)) ((a1)))) ((x13_2) + 4) 4 = 1348554355) ∨ ((0) : Int) = 0 ∧ ¬ ((x13_2) + 10 ≤ ((w11)) ((a1)) ∧ nvl (ap (rwR ((w10)) ((w11)) ((a1)))) ((x13_2)) 4 = 1791 ∧ nvl (ap (rwR ((w10)) ((w11)) ((a1)))) ((x13_2) + 4) 4 = 1348554355) by omega)
                · refine Ew_of (pc' := 297) (fun _ => x_iload_n rfl l13_2) ?_
                  refine Ew_of (pc' := 299) (fun _ => x_bipush (z := 10) rfl (by decide)) ?_
                  refine w_iadd rfl ?_
                  refine Ew_of (pc' := 301) (fun _ => x_aload_n rfl l13_0) ?_
                  refine w_gT H (o := 0) (t := 11) rfl (H.perm 0 rfl) rfl rfl rfl rfl rfl rfl ?_
                  refine Ew_of (pc' := 305) (fun _ => x_iload_n rfl l13_1) ?_
                  refine w_lI H (o := 11) (n := 4) rfl (H.perm 11 rfl) rfl rfl (H.fix 11 rfl rfl) (show 0 ≤ a1 ∧ a1 < ((4 : Nat) : Int) by omega) (by decide) (fun v43 ev43 qv43 => ?_)
                  have qv43 : (0 : Int) ≤ v43 ∧ v43 ≤ 65536 := qv43
                  have ev43 : (w11) (a1) = v43 := (congrFun ((funext (hA40 11 rfl)).trans ((funext (hA34 11 rfl)).trans ((funext (hA23 11 rfl)).trans ((funext (hA17 11 rfl)).trans ((funext (hA11 11 rfl)).trans ((funext (hA_13 11 rfl)).trans ((funext (hA4 11 rfl)).trans (ew11)))))))) (a1)).symm.trans ev43
                  refine w_icmpgt (t := 313) rfl rfl (show inr ((x13_2 + 10)) by omega) (show inr (v43) by omega) (fun b44 => ?_) (fun b44 => ?_)
                  · refine Ew_of (pc' := 314) (fun _ => x_iconst rfl) ?_
                    exact hc314 (0) _ σ _ _  (l13_0) (l13_1) (l13_2) H (SF_trans (SF_trans (SF_refl) hS33 (any_sub rfl)) hS39 (any_sub rfl)) (SA_trans (SA_trans (SA_refl) hA34 (any_subA rfl)) hA40 (any_subA rfl))   (show inr (0) by omega) (show ((0) : Int) = 1 ∧ ((x13_2) + 10 ≤ ((w11)) ((a1)) ∧ nvl (ap (rwR ((w10)) ((w11)) ((a1)))) ((x13_2)) 4 = 1791 ∧ nvl (ap (rwR ((w10)) ((w11)) ((a1)))) ((x13_2) + 4) 4 = 1348554355) ∨ ((0) : Int) = 0 ∧ ¬ ((x13_2) + 10 ≤ ((w11)) ((a1)) ∧ nvl (ap (rwR ((w10)) ((w11)) ((a1)))) ((x13_2)) 4 = 1791 ∧ nvl (ap (rwR ((w10)) ((w11)) ((a1)))) ((x13_2) + 4) 4 = 1348554355) by omega)
                  · refine Ew_of (pc' := 310) (fun _ => x_iconst rfl) ?_
                    refine Ew_of (pc' := 314) (fun _ => x_goto rfl rfl) ?_
                    exact hc314 (1) _ σ _ _  (l13_0) (l13_1) (l13_2) H (SF_trans (SF_trans (SF_refl) hS33 (any_sub rfl)) hS39 (any_sub rfl)) (SA_trans (SA_trans (SA_refl) hA34 (any_subA rfl)) hA40 (any_subA rfl))   (show inr (1) by omega) (show ((1) : Int) = 1 ∧ ((x13_2) + 10 ≤ ((w11)) ((a1)) ∧ nvl (ap (rwR ((w10)) ((w11)) ((a1)))) ((x13_2)) 4 = 1791 ∧ nvl (ap (rwR ((w10)) ((w11)) ((a1)))) ((x13_2) + 4) 4 = 1348554355) ∨ ((1) : Int) = 0 ∧ ¬ ((x13_2) + 10 ≤ ((w11)) ((a1)) ∧ nvl (ap (rwR ((w10)) ((w11)) ((a1)))) ((x13_2)) 4 = 1791 ∧ nvl (ap (rwR ((w10)) ((w11)) ((a1)))) ((x13_2) + 4) 4 = 1348554355) by omega)
            · refine Ew_of (pc' := 260) (fun _ => x_iconst rfl) ?_
              have : ((0 ≤ (a1) ∧ (a1) ≤ 3) ∧ ((5) : Int) = knF (rwR ((w10)) ((w11)) ((a1))) ∨ ¬ (0 ≤ (a1) ∧ (a1) ≤ 3) ∧ ((5) : Int) = -1) := .inl ⟨by omega, (hkn.trans (knE_5 (by omega) (by omega))).symm⟩
              exact w_ireturn rfl (k (5) σ _ _ H (SF_trans (SF_trans (SF_trans (SF_trans (SF_trans (SF_refl) hS3 (any_sub rfl)) hS_13 (any_sub rfl)) hS10 (any_sub rfl)) hS16 (any_sub rfl)) hS22 (any_sub rfl)) (SA_trans (SA_trans (SA_trans (SA_trans (SA_trans (SA_refl) hA4 (any_subA rfl)) hA_13 (any_subA rfl)) hA11 (any_subA rfl)) hA17 (any_subA rfl)) hA23 (any_subA rfl)) (show inr (5) by omega) (show -1 ≤ (5) ∧ (5) ≤ 5 ∧ (5) ≠ 2 by omega) (show ((0 ≤ a1 ∧ a1 ≤ 3) ∧ ((5) : Int) = knF (rwR ((w10)) ((w11)) (a1)) ∨ ¬ (0 ≤ a1 ∧ a1 ≤ 3) ∧ ((5) : Int) = -1) by assumption))
          · refine Ew_of (pc' := 239) (fun _ => x_iconst rfl) ?_
            have : ((0 ≤ (a1) ∧ (a1) ≤ 3) ∧ ((4) : Int) = knF (rwR ((w10)) ((w11)) ((a1))) ∨ ¬ (0 ≤ (a1) ∧ (a1) ≤ 3) ∧ ((4) : Int) = -1) := .inl ⟨by omega, (hkn.trans (knE_4 (by omega) (by omega))).symm⟩
            exact w_ireturn rfl (k (4) σ _ _ H (SF_trans (SF_trans (SF_trans (SF_trans (SF_refl) hS3 (any_sub rfl)) hS_13 (any_sub rfl)) hS10 (any_sub rfl)) hS16 (any_sub rfl)) (SA_trans (SA_trans (SA_trans (SA_trans (SA_refl) hA4 (any_subA rfl)) hA_13 (any_subA rfl)) hA11 (any_subA rfl)) hA17 (any_subA rfl)) (show inr (4) by omega) (show -1 ≤ (4) ∧ (4) ≤ 5 ∧ (4) ≠ 2 by omega) (show ((0 ≤ a1 ∧ a1 ≤ 3) ∧ ((4) : Int) = knF (rwR ((w10)) ((w11)) (a1)) ∨ ¬ (0 ≤ a1 ∧ a1 ≤ 3) ∧ ((4) : Int) = -1) by assumption))
        · refine Ew_of (pc' := 218) (fun _ => x_iconst rfl) ?_
          have : ((0 ≤ (a1) ∧ (a1) ≤ 3) ∧ ((1) : Int) = knF (rwR ((w10)) ((w11)) ((a1))) ∨ ¬ (0 ≤ (a1) ∧ (a1) ≤ 3) ∧ ((1) : Int) = -1) := .inl ⟨by omega, (hkn.trans (knE_1 (by omega) (by omega))).symm⟩
          exact w_ireturn rfl (k (1) σ _ _ H (SF_trans (SF_trans (SF_trans (SF_refl) hS3 (any_sub rfl)) hS_13 (any_sub rfl)) hS10 (any_sub rfl)) (SA_trans (SA_trans (SA_trans (SA_refl) hA4 (any_subA rfl)) hA_13 (any_subA rfl)) hA11 (any_subA rfl)) (show inr (1) by omega) (show -1 ≤ (1) ∧ (1) ≤ 5 ∧ (1) ≠ 2 by omega) (show ((0 ≤ a1 ∧ a1 ≤ 3) ∧ ((1) : Int) = knF (rwR ((w10)) ((w11)) (a1)) ∨ ¬ (0 ≤ a1 ∧ a1 ≤ 3) ∧ ((1) : Int) = -1) by assumption))
      · have hc82 : ∀ (tc82_0 : Int), ∀ (ls : rO) (σ : rS) (F_c82 : hF) (A_c82 : hA) , rlook ls 0 = some (.ref (D 0)) → rlook ls 1 = some (I (a1)) → rlook ls 2 = some (I (x13_2)) → HS σ0 σ D N F_c82 A_c82 → SF [] F_13 F_c82 → SA [] A_13 A_c82 → (inr (tc82_0)) → (((tc82_0) : Int) = 1 ∧ ((x13_2) + 8 ≤ ((w11)) ((a1)) ∧ 407710288 ≤ nvl (ap (rwR ((w10)) ((w11)) ((a1)))) ((x13_2)) 4 ∧ nvl (ap (rwR ((w10)) ((w11)) ((a1)))) ((x13_2)) 4 ≤ 407710303) ∨ ((tc82_0) : Int) = 0 ∧ ¬ ((x13_2) + 8 ≤ ((w11)) ((a1)) ∧ 407710288 ≤ nvl (ap (rwR ((w10)) ((w11)) ((a1)))) ((x13_2)) 4 ∧ nvl (ap (rwR ((w10)) ((w11)) ((a1)))) ((x13_2)) 4 ≤ 407710303)) → Ew 87 (d + 1) 82 ls [I (tc82_0)] σ c s Q := by
         as_aux_lemma =>
          intro tc82_0 ls σ F_c82 A_c82  lc82_0 lc82_1 lc82_2 H hS_c82 hA_c82   jc82_0 jc82_1
          refine Ew_of (pc' := 83) (fun _ => x_istore_n rfl) ?_
          refine Ew_of (pc' := 85) (fun _ => x_ldc (z := 65536) rfl (by decide)) ?_
          refine Ew_of (pc' := 86) (fun _ => x_iload_n rfl (rk_o (lc82_1) rfl rfl)) ?_
          refine w_imul rfl ?_
          refine Ew_of (pc' := 88) (fun _ => x_iload_n rfl (rk_o (lc82_2) rfl rfl)) ?_
          refine w_iadd rfl ?_
          refine Ew_of (pc' := 91) (fun _ => x_istore rfl) ?_
          have hc151 : ∀ (tc151_0 : Int), ∀ (ls : rO) (σ : rS) (F_c151 : hF) (A_c151 : hA) , rlook ls 0 = some (.ref (D 0)) → rlook ls 1 = some (I (a1)) → rlook ls 2 = some (I (x13_2)) → rlook ls 3 = some (I (tc82_0)) → HS σ0 σ D N F_c151 A_c151 → SF [] F_c82 F_c151 → SA [] A_c82 A_c151 → (inrJ (tc151_0)) → (0 ≤ (tc151_0) ∧ (tc151_0) ≤ 4294967295) → (IMP (((tc82_0) : Int) = 1) (nvl (ap (rwR ((w10)) ((w11)) ((a1)))) ((x13_2) + 4) 4 = (tc151_0))) → Ew 87 (d + 1) 151 ls [J (tc151_0)] σ c s Q := by
           as_aux_lemma =>
            intro tc151_0 ls σ F_c151 A_c151  lc151_0 lc151_1 lc151_2 lc151_3 H hS_c151 hA_c151   jc151_0 jc151_1 jc151_2
            refine Ew_of (pc' := 153) (fun _ => x_lstore rfl) ?_
            have k151 : IMP (((tc82_0) : Int) = 1) (nvl (ap (rwR ((w10)) ((w11)) ((a1)))) ((x13_2) + 4) 4 = (tc151_0)) := by assumption
            refine Ew_of (pc' := 154) (fun _ => x_iload_n rfl (rk2_o (lc151_3) rfl rfl)) ?_
            have hc180 : ∀ (tc180_0 : Int), ∀ (ls : rO) (σ : rS) (F_c180 : hF) (A_c180 : hA) , rlook ls 0 = some (.ref (D 0)) → rlook ls 1 = some (I (a1)) → rlook ls 2 = some (I (x13_2)) → rlook ls 5 = some (J (tc151_0)) → HS σ0 σ D N F_c180 A_c180 → SF [] F_c151 F_c180 → SA [] A_c151 A_c180 → (inr (tc180_0)) → (((tc82_0) = (0) ∧ (tc180_0) = (0)) ∨ ((tc82_0) ≠ (0) ∧ 0 ≤ ((w11) (a1)) ∧ ((w11) (a1)) ≤ 65536 ∧ (tc151_0) > ((((w11) (a1) - x13_2) - 8)) ∧ (tc180_0) = (0)) ∨ ((tc82_0) ≠ (0) ∧ 0 ≤ ((w11) (a1)) ∧ ((w11) (a1)) ≤ 65536 ∧ (tc151_0) ≤ ((((w11) (a1) - x13_2) - 8)) ∧ (tc180_0) = (1))) → Ew 87 (d + 1) 180 ls [I (tc180_0)] σ c s Q := by
             as_aux_lemma =>
              intro tc180_0 ls σ F_c180 A_c180  lc180_0 lc180_1 lc180_2 lc180_5 H hS_c180 hA_c180   jc180_0 jc180_1
              refine Ew_of (pc' := 181) (fun _ => x_istore_n rfl) ?_
              refine Ew_of (pc' := 182) (fun _ => x_iload_n rfl rk_s) ?_
              refine w_ifeq (t := 196) rfl rfl (show inr (tc180_0) by omega) (fun b45 => ?_) (fun b45 => ?_)
              · refine Ew_of (pc' := 197) (fun _ => x_iload_n rfl (rk_o (lc180_2) rfl rfl)) ?_
                refine Ew_of (pc' := 198) (fun _ => x_istore_n rfl) ?_
                refine Ew_of (pc' := 13) (fun _ => x_goto rfl rfl) ?_
                have : KNO (rwR ((w10)) ((w11)) ((a1))) ((x13_2)) := by first | exact KNO_s j13_k (by omega) (by omega) (k151 (by omega)) (by omega) (by omega) | exact j13_k
                have : IMP (((tc180_0) : Int) = 0) (¬ ((x13_2) + 8 ≤ ((rwR ((w10)) ((w11)) ((a1))).length : Int) ∧ 407710288 ≤ nvl (ap (rwR ((w10)) ((w11)) ((a1)))) ((x13_2)) 4 ∧ nvl (ap (rwR ((w10)) ((w11)) ((a1)))) ((x13_2)) 4 ≤ 407710303 ∧ nvl (ap (rwR ((w10)) ((w11)) ((a1)))) ((x13_2) + 4) 4 ≤ ((rwR ((w10)) ((w11)) ((a1))).length : Int) - (x13_2) - 8)) := by first | exact fun q => absurd q (by omega) | exact fun _ w => by obtain ⟨w1, w2, w3, w4⟩ := w; first | omega | (have := k151 (by omega); omega)
                exact ih13 _ (by omega) _ σ _ _ (x13_2) (tc180_0) (rk_o (rk_o (lc180_0) rfl rfl) rfl rfl) (rk_o (rk_o (lc180_1) rfl rfl) rfl rfl) (rk_s) (rk_o (rk_s) rfl rfl) H (SF_trans (SF_trans (SF_trans (hS_13) hS_c82 (any_sub rfl)) hS_c151 (any_sub rfl)) hS_c180 (any_sub rfl)) (SA_trans (SA_trans (SA_trans (hA_13) hA_c82 (any_subA rfl)) hA_c151 (any_subA rfl)) hA_c180 (any_subA rfl))   (show inr (x13_2) by omega) (show inr (tc180_0) by omega) (show (tc180_0) = 0 ∨ (tc180_0) = 1 by omega) (show 0 ≤ (x13_2) ∧ (x13_2) ≤ ((w11)) ((a1)) ∧ ((w11)) ((a1)) ≤ 65536 by omega) (show KNO (rwR ((w10)) ((w11)) ((a1))) ((x13_2)) by assumption) (show IMP (((tc180_0) : Int) = 0) (¬ ((x13_2) + 8 ≤ ((rwR ((w10)) ((w11)) ((a1))).length : Int) ∧ 407710288 ≤ nvl (ap (rwR ((w10)) ((w11)) ((a1)))) ((x13_2)) 4 ∧ nvl (ap (rwR ((w10)) ((w11)) ((a1)))) ((x13_2)) 4 ≤ 407710303 ∧ nvl (ap (rwR ((w10)) ((w11)) ((a1)))) ((x13_2) + 4) 4 ≤ ((rwR ((w10)) ((w11)) ((a1))).length : Int) - (x13_2) - 8)) by assumption) rfl
              · refine Ew_of (pc' := 186) (fun _ => x_iload_n rfl (rk_o (lc180_2) rfl rfl)) ?_
                refine Ew_of (pc' := 188) (fun _ => x_bipush (z := 8) rfl (by decide)) ?_
                refine w_iadd rfl ?_
                refine Ew_of (pc' := 191) (fun _ => x_lload rfl (rk_o (lc180_5) rfl rfl)) ?_
                refine w_l2i rfl ?_
                refine w_iadd rfl ?_
                refine Ew_of (pc' := 197) (fun _ => x_goto rfl rfl) ?_
                refine Ew_of (pc' := 198) (fun _ => x_istore_n rfl) ?_
                refine Ew_of (pc' := 13) (fun _ => x_goto rfl rfl) ?_
                have : KNO (rwR ((w10)) ((w11)) ((a1))) ((((x13_2 + 8) + tc151_0))) := by first | exact KNO_s j13_k (by omega) (by omega) (k151 (by omega)) (by omega) (by omega) | exact j13_k
                have : IMP (((tc180_0) : Int) = 0) (¬ ((((x13_2 + 8) + tc151_0)) + 8 ≤ ((rwR ((w10)) ((w11)) ((a1))).length : Int) ∧ 407710288 ≤ nvl (ap (rwR ((w10)) ((w11)) ((a1)))) ((((x13_2 + 8) + tc151_0))) 4 ∧ nvl (ap (rwR ((w10)) ((w11)) ((a1)))) ((((x13_2 + 8) + tc151_0))) 4 ≤ 407710303 ∧ nvl (ap (rwR ((w10)) ((w11)) ((a1)))) ((((x13_2 + 8) + tc151_0)) + 4) 4 ≤ ((rwR ((w10)) ((w11)) ((a1))).length : Int) - (((x13_2 + 8) + tc151_0)) - 8)) := by first | exact fun q => absurd q (by omega) | exact fun _ w => by obtain ⟨w1, w2, w3, w4⟩ := w; first | omega | (have := k151 (by omega); omega)
                exact ih13 _ (by omega) _ σ _ _ (((x13_2 + 8) + tc151_0)) (tc180_0) (rk_o (rk_o (lc180_0) rfl rfl) rfl rfl) (rk_o (rk_o (lc180_1) rfl rfl) rfl rfl) (rk_s) (rk_o (rk_s) rfl rfl) H (SF_trans (SF_trans (SF_trans (hS_13) hS_c82 (any_sub rfl)) hS_c151 (any_sub rfl)) hS_c180 (any_sub rfl)) (SA_trans (SA_trans (SA_trans (hA_13) hA_c82 (any_subA rfl)) hA_c151 (any_subA rfl)) hA_c180 (any_subA rfl))   (show inr (((x13_2 + 8) + tc151_0)) by omega) (show inr (tc180_0) by omega) (show (tc180_0) = 0 ∨ (tc180_0) = 1 by omega) (show 0 ≤ (((x13_2 + 8) + tc151_0)) ∧ (((x13_2 + 8) + tc151_0)) ≤ ((w11)) ((a1)) ∧ ((w11)) ((a1)) ≤ 65536 by omega) (show KNO (rwR ((w10)) ((w11)) ((a1))) ((((x13_2 + 8) + tc151_0))) by assumption) (show IMP (((tc180_0) : Int) = 0) (¬ ((((x13_2 + 8) + tc151_0)) + 8 ≤ ((rwR ((w10)) ((w11)) ((a1))).length : Int) ∧ 407710288 ≤ nvl (ap (rwR ((w10)) ((w11)) ((a1)))) ((((x13_2 + 8) + tc151_0))) 4 ∧ nvl (ap (rwR ((w10)) ((w11)) ((a1)))) ((((x13_2 + 8) + tc151_0))) 4 ≤ 407710303 ∧ nvl (ap (rwR ((w10)) ((w11)) ((a1)))) ((((x13_2 + 8) + tc151_0)) + 4) 4 ≤ ((rwR ((w10)) ((w11)) ((a1))).length : Int) - (((x13_2 + 8) + tc151_0)) - 8)) by assumption) rfl
            refine w_ifeq (t := 179) rfl rfl (show inr (tc82_0) by omega) (fun b46 => ?_) (fun b46 => ?_)
            · refine Ew_of (pc' := 180) (fun _ => x_iconst rfl) ?_
              exact hc180 (0) _ σ _ _  (rk2_o (lc151_0) rfl rfl) (rk2_o (lc151_1) rfl rfl) (rk2_o (lc151_2) rfl rfl) (rk2_s) H (SF_refl) (SA_refl)   (show inr (0) by omega) (show ((tc82_0) = (0) ∧ (0) = (0)) ∨ ((tc82_0) ≠ (0) ∧ 0 ≤ ((w11) (a1)) ∧ ((w11) (a1)) ≤ 65536 ∧ (tc151_0) > ((((w11) (a1) - x13_2) - 8)) ∧ (0) = (0)) ∨ ((tc82_0) ≠ (0) ∧ 0 ≤ ((w11) (a1)) ∧ ((w11) (a1)) ≤ 65536 ∧ (tc151_0) ≤ ((((w11) (a1) - x13_2) - 8)) ∧ (0) = (1)) by omega)
            · refine Ew_of (pc' := 159) (fun _ => x_lload rfl rk2_s) ?_
              refine Ew_of (pc' := 160) (fun _ => x_aload_n rfl (rk2_o (lc151_0) rfl rfl)) ?_
              refine w_gT H (o := 0) (t := 11) rfl (H.perm 0 rfl) rfl rfl rfl rfl rfl rfl ?_
              refine Ew_of (pc' := 164) (fun _ => x_iload_n rfl (rk2_o (lc151_1) rfl rfl)) ?_
              refine w_lI H (o := 11) (n := 4) rfl (H.perm 11 rfl) rfl rfl (H.fix 11 rfl rfl) (show 0 ≤ a1 ∧ a1 < ((4 : Nat) : Int) by omega) (by decide) (fun v47 ev47 qv47 => ?_)
              have qv47 : (0 : Int) ≤ v47 ∧ v47 ≤ 65536 := qv47
              have ev47 : (w11) (a1) = v47 := (congrFun ((funext (hA_c151 11 rfl)).trans ((funext (hA_c82 11 rfl)).trans ((funext (hA_13 11 rfl)).trans ((funext (hA4 11 rfl)).trans (ew11))))) (a1)).symm.trans ev47
              refine Ew_of (pc' := 166) (fun _ => x_iload_n rfl (rk2_o (lc151_2) rfl rfl)) ?_
              refine w_isub rfl ?_
              refine Ew_of (pc' := 169) (fun _ => x_bipush (z := 8) rfl (by decide)) ?_
              refine w_isub rfl ?_
              refine w_i2l rfl (show inr (((v47 - x13_2) - 8)) by omega) ?_
              refine w_lcmp rfl (show inrJ (tc151_0) by omega) (show inrJ (((v47 - x13_2) - 8)) by omega) (fun z48 gz48 gaz48 gbz48 => ?_)
              refine w_ifgt (t := 179) rfl rfl (show inr (z48) by omega) (fun b49 => ?_) (fun b49 => ?_)
              · refine Ew_of (pc' := 180) (fun _ => x_iconst rfl) ?_
                exact hc180 (0) _ σ _ _  (rk2_o (lc151_0) rfl rfl) (rk2_o (lc151_1) rfl rfl) (rk2_o (lc151_2) rfl rfl) (rk2_s) H (SF_refl) (SA_refl)   (show inr (0) by omega) (show ((tc82_0) = (0) ∧ (0) = (0)) ∨ ((tc82_0) ≠ (0) ∧ 0 ≤ ((w11) (a1)) ∧ ((w11) (a1)) ≤ 65536 ∧ (tc151_0) > ((((w11) (a1) - x13_2) - 8)) ∧ (0) = (0)) ∨ ((tc82_0) ≠ (0) ∧ 0 ≤ ((w11) (a1)) ∧ ((w11) (a1)) ≤ 65536 ∧ (tc151_0) ≤ ((((w11) (a1) - x13_2) - 8)) ∧ (0) = (1)) by omega)
              · refine Ew_of (pc' := 176) (fun _ => x_iconst rfl) ?_
                refine Ew_of (pc' := 180) (fun _ => x_goto rfl rfl) ?_
                exact hc180 (1) _ σ _ _  (rk2_o (lc151_0) rfl rfl) (rk2_o (lc151_1) rfl rfl) (rk2_o (lc151_2) rfl rfl) (rk2_s) H (SF_refl) (SA_refl)   (show inr (1) by omega) (show ((tc82_0) = (0) ∧ (1) = (0)) ∨ ((tc82_0) ≠ (0) ∧ 0 ≤ ((w11) (a1)) ∧ ((w11) (a1)) ≤ 65536 ∧ (tc151_0) > ((((w11) (a1) - x13_2) - 8)) ∧ (1) = (0)) ∨ ((tc82_0) ≠ (0) ∧ 0 ≤ ((w11) (a1)) ∧ ((w11) (a1)) ≤ 65536 ∧ (tc151_0) ≤ ((((w11) (a1) - x13_2) - 8)) ∧ (1) = (1)) by omega)
          refine Ew_of (pc' := 92) (fun _ => x_iload_n rfl (rk_o (rk_s) rfl rfl)) ?_
          refine w_ifeq (t := 150) rfl rfl (show inr (tc82_0) by omega) (fun b50 => ?_) (fun b50 => ?_)
          · refine Ew_of (pc' := 151) (fun _ => x_lconst (z := 0) rfl (by decide)) ?_
            have : IMP (((tc82_0) : Int) = 1) (nvl (ap (rwR ((w10)) ((w11)) ((a1)))) ((x13_2) + 4) 4 = (0)) := by first | exact fun q => absurd q (by omega) | exact fun _ => hN8.trans hor.symm
            exact hc151 (0) _ σ _ _  (rk_o (rk_o (lc82_0) rfl rfl) rfl rfl) (rk_o (rk_o (lc82_1) rfl rfl) rfl rfl) (rk_o (rk_o (lc82_2) rfl rfl) rfl rfl) (rk_o (rk_s) rfl rfl) H (SF_refl) (SA_refl)   (show inrJ (0) by omega) (show 0 ≤ (0) ∧ (0) ≤ 4294967295 by omega) (show IMP (((tc82_0) : Int) = 1) (nvl (ap (rwR ((w10)) ((w11)) ((a1)))) ((x13_2) + 4) 4 = (0)) by assumption)
          · have hR4 := hRo (65536 * (a1) + (x13_2) + 4)
            have hR5 := hRo (65536 * (a1) + (x13_2) + 5)
            have hR6 := hRo (65536 * (a1) + (x13_2) + 6)
            have hR7 := hRo (65536 * (a1) + (x13_2) + 7)
            refine Ew_of (pc' := 96) (fun _ => x_aload_n rfl (rk_o (rk_o (lc82_0) rfl rfl) rfl rfl)) ?_
            refine w_gT H (o := 0) (t := 10) rfl (H.perm 0 rfl) rfl rfl rfl rfl rfl rfl ?_
            refine Ew_of (pc' := 101) (fun _ => x_iload rfl rk_s) ?_
            refine Ew_of (pc' := 102) (fun _ => x_iconst rfl) ?_
            refine w_iadd rfl ?_
            refine w_lI H (o := 10) (n := 262144) rfl (H.perm 10 rfl) rfl rfl (H.fix 10 rfl rfl) (show 0 ≤ (((65536 * a1) + x13_2) + 4) ∧ (((65536 * a1) + x13_2) + 4) < ((262144 : Nat) : Int) by omega) (by decide) (fun v51 ev51 qv51 => ?_)
            have qv51 : (0 : Int) ≤ v51 ∧ v51 ≤ 255 := qv51
            have ev51 : (w10) ((((65536 * a1) + x13_2) + 4)) = v51 := (congrFun ((funext (hA_c82 10 rfl)).trans ((funext (hA_13 10 rfl)).trans ((funext (hA4 10 rfl)).trans (ew10)))) ((((65536 * a1) + x13_2) + 4))).symm.trans ev51
            have hb4 := ev51
            refine Ew_of (pc' := 105) (fun _ => x_aload_n rfl (rk_o (rk_o (lc82_0) rfl rfl) rfl rfl)) ?_
            refine w_gT H (o := 0) (t := 10) rfl (H.perm 0 rfl) rfl rfl rfl rfl rfl rfl ?_
            refine Ew_of (pc' := 110) (fun _ => x_iload rfl rk_s) ?_
            refine Ew_of (pc' := 111) (fun _ => x_iconst rfl) ?_
            refine w_iadd rfl ?_
            refine w_lI H (o := 10) (n := 262144) rfl (H.perm 10 rfl) rfl rfl (H.fix 10 rfl rfl) (show 0 ≤ (((65536 * a1) + x13_2) + 5) ∧ (((65536 * a1) + x13_2) + 5) < ((262144 : Nat) : Int) by omega) (by decide) (fun v52 ev52 qv52 => ?_)
            have qv52 : (0 : Int) ≤ v52 ∧ v52 ≤ 255 := qv52
            have ev52 : (w10) ((((65536 * a1) + x13_2) + 5)) = v52 := (congrFun ((funext (hA_c82 10 rfl)).trans ((funext (hA_13 10 rfl)).trans ((funext (hA4 10 rfl)).trans (ew10)))) ((((65536 * a1) + x13_2) + 5))).symm.trans ev52
            have hb5 := ev52
            refine Ew_of (pc' := 115) (fun _ => x_bipush (z := 8) rfl (by decide)) ?_
            refine w_ishlT rfl (show 0 ≤ 8 ∧ 8 ≤ 31 by omega) ?_
            refine w_iorE rfl ?_
            have g54 : inr (orI (v51) ((v52 * p2 (8)))) := toI_inr _
            refine Ew_of (pc' := 118) (fun _ => x_aload_n rfl (rk_o (rk_o (lc82_0) rfl rfl) rfl rfl)) ?_
            refine w_gT H (o := 0) (t := 10) rfl (H.perm 0 rfl) rfl rfl rfl rfl rfl rfl ?_
            refine Ew_of (pc' := 123) (fun _ => x_iload rfl rk_s) ?_
            refine Ew_of (pc' := 125) (fun _ => x_bipush (z := 6) rfl (by decide)) ?_
            refine w_iadd rfl ?_
            refine w_lI H (o := 10) (n := 262144) rfl (H.perm 10 rfl) rfl rfl (H.fix 10 rfl rfl) (show 0 ≤ (((65536 * a1) + x13_2) + 6) ∧ (((65536 * a1) + x13_2) + 6) < ((262144 : Nat) : Int) by omega) (by decide) (fun v55 ev55 qv55 => ?_)
            have qv55 : (0 : Int) ≤ v55 ∧ v55 ≤ 255 := qv55
            have ev55 : (w10) ((((65536 * a1) + x13_2) + 6)) = v55 := (congrFun ((funext (hA_c82 10 rfl)).trans ((funext (hA_13 10 rfl)).trans ((funext (hA4 10 rfl)).trans (ew10)))) ((((65536 * a1) + x13_2) + 6))).symm.trans ev55
            have hb6 := ev55
            refine Ew_of (pc' := 129) (fun _ => x_bipush (z := 16) rfl (by decide)) ?_
            refine w_ishlT rfl (show 0 ≤ 16 ∧ 16 ≤ 31 by omega) ?_
            refine w_iorE rfl ?_
            have g57 : inr (orI ((orI (v51) ((v52 * p2 (8))))) ((v55 * p2 (16)))) := toI_inr _
            refine w_i2l rfl (show inr ((orI ((orI (v51) ((v52 * p2 (8))))) ((v55 * p2 (16))))) by omega) ?_
            refine Ew_of (pc' := 133) (fun _ => x_aload_n rfl (rk_o (rk_o (lc82_0) rfl rfl) rfl rfl)) ?_
            refine w_gT H (o := 0) (t := 10) rfl (H.perm 0 rfl) rfl rfl rfl rfl rfl rfl ?_
            refine Ew_of (pc' := 138) (fun _ => x_iload rfl rk_s) ?_
            refine Ew_of (pc' := 140) (fun _ => x_bipush (z := 7) rfl (by decide)) ?_
            refine w_iadd rfl ?_
            refine w_lI H (o := 10) (n := 262144) rfl (H.perm 10 rfl) rfl rfl (H.fix 10 rfl rfl) (show 0 ≤ (((65536 * a1) + x13_2) + 7) ∧ (((65536 * a1) + x13_2) + 7) < ((262144 : Nat) : Int) by omega) (by decide) (fun v58 ev58 qv58 => ?_)
            have qv58 : (0 : Int) ≤ v58 ∧ v58 ≤ 255 := qv58
            have ev58 : (w10) ((((65536 * a1) + x13_2) + 7)) = v58 := (congrFun ((funext (hA_c82 10 rfl)).trans ((funext (hA_13 10 rfl)).trans ((funext (hA4 10 rfl)).trans (ew10)))) ((((65536 * a1) + x13_2) + 7))).symm.trans ev58
            have hb7 := ev58
            refine w_i2l rfl (show inr (v58) by omega) ?_
            refine Ew_of (pc' := 145) (fun _ => x_bipush (z := 24) rfl (by decide)) ?_
            refine w_lshlT rfl (show 0 ≤ 24 ∧ 24 ≤ 63 by omega) ?_
            refine w_lorE rfl ?_
            have g60 : inrJ (orJ ((orI ((orI (v51) ((v52 * p2 (8))))) ((v55 * p2 (16))))) ((v58 * p2 (24)))) := toJ_inr _
            have hN8 := nv4v (ro := (w10)) (si := (w11)) (r := (a1)) (a := (x13_2) + 4) (by omega) (by omega) hRo hb4 (by omega) hb5 (by omega) hb6 (by omega) hb7 (by omega)
            obtain ⟨qo, hqo⟩ : ∃ q : Int, q = ((orJ ((orI ((orI (v51) ((v52 * p2 (8))))) ((v55 * p2 (16))))) ((v58 * p2 (24))))) := ⟨_, rfl⟩
            rw [← hqo]
            have gqo : inrJ qo := by rw [hqo]; first | assumption | omega
            replace hqo : IMP True (qo = ((orJ ((orI ((orI (v51) ((v52 * p2 (8))))) ((v55 * p2 (16))))) ((v58 * p2 (24)))))) := fun _ => hqo
            try clear g60
            try clear g57
            try clear g54
            have hor : qo = _ := (hqo trivial).trans (kn_or (by omega) (by omega) (by omega) (by omega))
            refine Ew_of (pc' := 151) (fun _ => x_goto rfl rfl) ?_
            have : IMP (((tc82_0) : Int) = 1) (nvl (ap (rwR ((w10)) ((w11)) ((a1)))) ((x13_2) + 4) 4 = (qo)) := by first | exact fun q => absurd q (by omega) | exact fun _ => hN8.trans hor.symm
            exact hc151 (qo) _ σ _ _  (rk_o (rk_o (lc82_0) rfl rfl) rfl rfl) (rk_o (rk_o (lc82_1) rfl rfl) rfl rfl) (rk_o (rk_o (lc82_2) rfl rfl) rfl rfl) (rk_o (rk_s) rfl rfl) H (SF_refl) (SA_refl)   (show inrJ (qo) by omega) (show 0 ≤ (qo) ∧ (qo) ≤ 4294967295 by omega) (show IMP (((tc82_0) : Int) = 1) (nvl (ap (rwR ((w10)) ((w11)) ((a1)))) ((x13_2) + 4) 4 = (qo)) by assumption)
        refine Ew_of (pc' := 18) (fun _ => x_iload_n rfl l13_2) ?_
        refine Ew_of (pc' := 20) (fun _ => x_bipush (z := 8) rfl (by decide)) ?_
        refine w_iadd rfl ?_
        refine Ew_of (pc' := 22) (fun _ => x_aload_n rfl l13_0) ?_
        refine w_gT H (o := 0) (t := 11) rfl (H.perm 0 rfl) rfl rfl rfl rfl rfl rfl ?_
        refine Ew_of (pc' := 26) (fun _ => x_iload_n rfl l13_1) ?_
        refine w_lI H (o := 11) (n := 4) rfl (H.perm 11 rfl) rfl rfl (H.fix 11 rfl rfl) (show 0 ≤ a1 ∧ a1 < ((4 : Nat) : Int) by omega) (by decide) (fun v61 ev61 qv61 => ?_)
        have qv61 : (0 : Int) ≤ v61 ∧ v61 ≤ 65536 := qv61
        have ev61 : (w11) (a1) = v61 := (congrFun ((funext (hA_13 11 rfl)).trans ((funext (hA4 11 rfl)).trans (ew11))) (a1)).symm.trans ev61
        refine w_icmpgt (t := 81) rfl rfl (show inr ((x13_2 + 8)) by omega) (show inr (v61) by omega) (fun b62 => ?_) (fun b62 => ?_)
        · refine Ew_of (pc' := 82) (fun _ => x_iconst rfl) ?_
          exact hc82 (0) _ σ _ _  (l13_0) (l13_1) (l13_2) H (SF_refl) (SA_refl)   (show inr (0) by omega) (show ((0) : Int) = 1 ∧ ((x13_2) + 8 ≤ ((w11)) ((a1)) ∧ 407710288 ≤ nvl (ap (rwR ((w10)) ((w11)) ((a1)))) ((x13_2)) 4 ∧ nvl (ap (rwR ((w10)) ((w11)) ((a1)))) ((x13_2)) 4 ≤ 407710303) ∨ ((0) : Int) = 0 ∧ ¬ ((x13_2) + 8 ≤ ((w11)) ((a1)) ∧ 407710288 ≤ nvl (ap (rwR ((w10)) ((w11)) ((a1)))) ((x13_2)) 4 ∧ nvl (ap (rwR ((w10)) ((w11)) ((a1)))) ((x13_2)) 4 ≤ 407710303) by omega)
        · have hN4 := nv4 (ro := (w10)) (si := (w11)) (r := (a1)) (a := (x13_2)) (by omega) (by omega) hRo
          have hR0 := hRo (65536 * (a1) + (x13_2))
          have hR1 := hRo (65536 * (a1) + (x13_2) + 1)
          have hR2 := hRo (65536 * (a1) + (x13_2) + 2)
          have hR3 := hRo (65536 * (a1) + (x13_2) + 3)
          refine Ew_of (pc' := 31) (fun _ => x_aload_n rfl l13_0) ?_
          refine w_gT H (o := 0) (t := 10) rfl (H.perm 0 rfl) rfl rfl rfl rfl rfl rfl ?_
          refine Ew_of (pc' := 36) (fun _ => x_ldc (z := 65536) rfl (by decide)) ?_
          refine Ew_of (pc' := 37) (fun _ => x_iload_n rfl l13_1) ?_
          refine w_imul rfl ?_
          refine Ew_of (pc' := 39) (fun _ => x_iload_n rfl l13_2) ?_
          refine w_iadd rfl ?_
          refine w_lI H (o := 10) (n := 262144) rfl (H.perm 10 rfl) rfl rfl (H.fix 10 rfl rfl) (show 0 ≤ ((65536 * a1) + x13_2) ∧ ((65536 * a1) + x13_2) < ((262144 : Nat) : Int) by omega) (by decide) (fun v63 ev63 qv63 => ?_)
          have qv63 : (0 : Int) ≤ v63 ∧ v63 ≤ 255 := qv63
          have ev63 : (w10) (((65536 * a1) + x13_2)) = v63 := (congrFun ((funext (hA_13 10 rfl)).trans ((funext (hA4 10 rfl)).trans (ew10))) (((65536 * a1) + x13_2))).symm.trans ev63
          have hv40 := ev63
          refine Ew_of (pc' := 43) (fun _ => x_bipush (z := 80) rfl (by decide)) ?_
          refine Ew_of (pc' := 45) (fun _ => x_bipush (z := 95) rfl (by decide)) ?_
          refine w_stat24 rfl rfl (by rfl) (M67p H (show inr (v63) by omega) (show inr (80) by omega) (show inr (95) by omega) (fun z68 σ F64 A65 H hS66 hA67 pz68_0 pz68_1 => ⟨rretB rfl pz68_0, ?_⟩))
          refine w_ifeq (t := 81) rfl rfl (show inr (z68) by omega) (fun b69 => ?_) (fun b69 => ?_)
          · refine Ew_of (pc' := 82) (fun _ => x_iconst rfl) ?_
            exact hc82 (0) _ σ _ _  (l13_0) (l13_1) (l13_2) H (SF_trans (SF_refl) hS66 (any_sub rfl)) (SA_trans (SA_refl) hA67 (any_subA rfl))   (show inr (0) by omega) (show ((0) : Int) = 1 ∧ ((x13_2) + 8 ≤ ((w11)) ((a1)) ∧ 407710288 ≤ nvl (ap (rwR ((w10)) ((w11)) ((a1)))) ((x13_2)) 4 ∧ nvl (ap (rwR ((w10)) ((w11)) ((a1)))) ((x13_2)) 4 ≤ 407710303) ∨ ((0) : Int) = 0 ∧ ¬ ((x13_2) + 8 ≤ ((w11)) ((a1)) ∧ 407710288 ≤ nvl (ap (rwR ((w10)) ((w11)) ((a1)))) ((x13_2)) 4 ∧ nvl (ap (rwR ((w10)) ((w11)) ((a1)))) ((x13_2)) 4 ≤ 407710303) by omega)
          · refine Ew_of (pc' := 52) (fun _ => x_aload_n rfl l13_0) ?_
            refine Ew_of (pc' := 53) (fun _ => x_iload_n rfl l13_1) ?_
            refine Ew_of (pc' := 54) (fun _ => x_iload_n rfl l13_2) ?_
            refine Ew_of (pc' := 55) (fun _ => x_aload_n rfl l13_0) ?_
            refine w_gT H (o := 0) (t := 10) rfl (H.perm 0 rfl) rfl rfl rfl rfl rfl rfl ?_
            refine Ew_of (pc' := 60) (fun _ => x_ldc (z := 65536) rfl (by decide)) ?_
            refine Ew_of (pc' := 61) (fun _ => x_iload_n rfl l13_1) ?_
            refine w_imul rfl ?_
            refine Ew_of (pc' := 63) (fun _ => x_iload_n rfl l13_2) ?_
            refine w_iadd rfl ?_
            refine w_lI H (o := 10) (n := 262144) rfl (H.perm 10 rfl) rfl rfl (H.fix 10 rfl rfl) (show 0 ≤ ((65536 * a1) + x13_2) ∧ ((65536 * a1) + x13_2) < ((262144 : Nat) : Int) by omega) (by decide) (fun v70 ev70 qv70 => ?_)
            have qv70 : (0 : Int) ≤ v70 ∧ v70 ≤ 255 := qv70
            have ev70 : (w10) (((65536 * a1) + x13_2)) = v70 := (congrFun ((funext (hA67 10 rfl)).trans ((funext (hA_13 10 rfl)).trans ((funext (hA4 10 rfl)).trans (ew10)))) (((65536 * a1) + x13_2))).symm.trans ev70
            have hv64 := ev70
            refine Ew_of (pc' := 67) (fun _ => x_bipush (z := 42) rfl (by decide)) ?_
            refine Ew_of (pc' := 69) (fun _ => x_bipush (z := 77) rfl (by decide)) ?_
            refine Ew_of (pc' := 71) (fun _ => x_bipush (z := 24) rfl (by decide)) ?_
            refine w_inv H (o := 0) rfl rfl rfl (H.perm 0 rfl) rfl rfl (by rfl) (M86p H (w10) ((funext (hA67 10 rfl)).trans ((funext (hA_13 10 rfl)).trans ((funext (hA4 10 rfl)).trans (ew10)))) (w11) ((funext (hA67 11 rfl)).trans ((funext (hA_13 11 rfl)).trans ((funext (hA4 11 rfl)).trans (ew11)))) (show inr (a1) by omega) (show inr (x13_2) by omega) (show inr (v70) by omega) (show inr (42) by omega) (show inr (77) by omega) (show inr (24) by omega) (show 0 ≤ (a1) ∧ (a1) ≤ 3 ∧ 0 ≤ (x13_2) ∧ (x13_2) ≤ 65540 by omega) (show 0 ≤ (v70) ∧ (v70) ≤ 255 by omega) (show 0 ≤ (42) ∧ (42) ≤ 255 by omega) (show 0 ≤ (77) ∧ (77) ≤ 255 by omega) (show 0 ≤ (24) ∧ (24) ≤ 255 by omega) (fun z75 σ F71 A72 H hS73 hA74 pz75_0 pz75_1 => ⟨rretB rfl pz75_0, ?_⟩))
            refine w_ifeq (t := 81) rfl rfl (show inr (z75) by omega) (fun b76 => ?_) (fun b76 => ?_)
            · refine Ew_of (pc' := 82) (fun _ => x_iconst rfl) ?_
              exact hc82 (0) _ σ _ _  (l13_0) (l13_1) (l13_2) H (SF_trans (SF_trans (SF_refl) hS66 (any_sub rfl)) hS73 (any_sub rfl)) (SA_trans (SA_trans (SA_refl) hA67 (any_subA rfl)) hA74 (any_subA rfl))   (show inr (0) by omega) (show ((0) : Int) = 1 ∧ ((x13_2) + 8 ≤ ((w11)) ((a1)) ∧ 407710288 ≤ nvl (ap (rwR ((w10)) ((w11)) ((a1)))) ((x13_2)) 4 ∧ nvl (ap (rwR ((w10)) ((w11)) ((a1)))) ((x13_2)) 4 ≤ 407710303) ∨ ((0) : Int) = 0 ∧ ¬ ((x13_2) + 8 ≤ ((w11)) ((a1)) ∧ 407710288 ≤ nvl (ap (rwR ((w10)) ((w11)) ((a1)))) ((x13_2)) 4 ∧ nvl (ap (rwR ((w10)) ((w11)) ((a1)))) ((x13_2)) 4 ≤ 407710303) by omega)
            · refine Ew_of (pc' := 78) (fun _ => x_iconst rfl) ?_
              refine Ew_of (pc' := 82) (fun _ => x_goto rfl rfl) ?_
              exact hc82 (1) _ σ _ _  (l13_0) (l13_1) (l13_2) H (SF_trans (SF_trans (SF_refl) hS66 (any_sub rfl)) hS73 (any_sub rfl)) (SA_trans (SA_trans (SA_refl) hA67 (any_subA rfl)) hA74 (any_subA rfl))   (show inr (1) by omega) (show ((1) : Int) = 1 ∧ ((x13_2) + 8 ≤ ((w11)) ((a1)) ∧ 407710288 ≤ nvl (ap (rwR ((w10)) ((w11)) ((a1)))) ((x13_2)) 4 ∧ nvl (ap (rwR ((w10)) ((w11)) ((a1)))) ((x13_2)) 4 ≤ 407710303) ∨ ((1) : Int) = 0 ∧ ¬ ((x13_2) + 8 ≤ ((w11)) ((a1)) ∧ 407710288 ≤ nvl (ap (rwR ((w10)) ((w11)) ((a1)))) ((x13_2)) 4 ∧ nvl (ap (rwR ((w10)) ((w11)) ((a1)))) ((x13_2)) 4 ≤ 407710303) by omega)
  · refine Ew_of (pc' := 8) (fun _ => x_iconst rfl) ?_
    have : ((0 ≤ (a1) ∧ (a1) ≤ 3) ∧ (-1 : Int) = knF (rwR ((w10)) ((w11)) ((a1))) ∨ ¬ (0 ≤ (a1) ∧ (a1) ≤ 3) ∧ (-1 : Int) = -1) := .inr ⟨by omega, rfl⟩
    exact w_ireturn rfl (k ((-1)) σ _ _ H (SF_trans (SF_refl) hS3 (any_sub rfl)) (SA_trans (SA_refl) hA4 (any_subA rfl)) (show inr ((-1)) by omega) (show -1 ≤ ((-1)) ∧ ((-1)) ≤ 5 ∧ ((-1)) ≠ 2 by omega) (show ((0 ≤ a1 ∧ a1 ≤ 3) ∧ (((-1)) : Int) = knF (rwR ((w10)) ((w11)) (a1)) ∨ ¬ (0 ≤ a1 ∧ a1 ≤ 3) ∧ (((-1)) : Int) = -1) by assumption))
