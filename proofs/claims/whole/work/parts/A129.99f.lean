section
/-! 99f.ref -/
theorem M86p {σ0 σ : rS} {D N : Nat → Nat} {F : hF} {A : hA} {d c s : Nat} {Q : wQ} (H : HS σ0 σ D N F A) {a1 a2 a3 a4 a5 a6 : Int} (w10 : Int → Int) (ew10 : A 10 = w10) (w11 : Int → Int) (ew11 : A 11 = w11) (h0 : inr (a1)) (h1 : inr (a2)) (h2 : inr (a3)) (h3 : inr (a4)) (h4 : inr (a5)) (h5 : inr (a6)) (h6 : 0 ≤ (a1) ∧ (a1) ≤ 3 ∧ 0 ≤ (a2) ∧ (a2) ≤ 65540) (h7 : 0 ≤ (a3) ∧ (a3) ≤ 255) (h8 : 0 ≤ (a4) ∧ (a4) ≤ 255) (h9 : 0 ≤ (a5) ∧ (a5) ≤ 255) (h10 : 0 ≤ (a6) ∧ (a6) ≤ 255) (k : ∀ (z : Int) σ Fₚ Aₚ, HS σ0 σ D N Fₚ Aₚ → SF [] F Fₚ → SA [] A Aₚ → ((z) = 0 ∨ (z) = 1) → ((((z) : Int) = 1 ∧ (a2) + 4 ≤ ((w11)) ((a1)) ∧ nvl (ap (rwR ((w10)) ((w11)) ((a1)))) ((a2)) 4 = (a3) + 256 * (a4) + 65536 * (a5) + 16777216 * (a6) ∨ ((z) : Int) = 0 ∧ ¬ ((a2) + 4 ≤ ((w11)) ((a1)) ∧ nvl (ap (rwR ((w10)) ((w11)) ((a1)))) ((a2)) 4 = (a3) + 256 * (a4) + 65536 * (a5) + 16777216 * (a6)))) → Q (some (I z)) σ c s) : Ew 86 (d + 0) 0 (rargs 0 [.ref (D 0), I a1, I a2, I a3, I a4, I a5, I a6]) [] σ c s Q := by
  have hRo : ∀ i, (0 : Int) ≤ (w10) i ∧ (w10) i ≤ 255 := fun i => by have h1 : (0 : Int) ≤ A 10 i ∧ A 10 i ≤ 255 := H.arng 10 i; rw [show A 10 = w10 from ew10] at h1; exact h1
  have hSz : ∀ i, (0 : Int) ≤ (w11) i ∧ (w11) i ≤ 65536 := fun i => by have h1 : (0 : Int) ≤ A 11 i ∧ A 11 i ≤ 65536 := H.arng 11 i; rw [show A 11 = w11 from ew11] at h1; exact h1
  refine Ew_of (pcₚ := 2) (fun _ => x_ldc (z := 65536) rfl (by decide)) ?_
  refine Ew_of (pcₚ := 3) (fun _ => x_iload_n rfl rfl) ?_
  refine w_imul rfl ?_
  refine Ew_of (pcₚ := 5) (fun _ => x_iload_n rfl rfl) ?_
  refine w_iadd rfl ?_
  refine Ew_of (pcₚ := 8) (fun _ => x_istore rfl) ?_
  refine Ew_of (pcₚ := 9) (fun _ => x_iload_n rfl (rk_o (rfl) rfl rfl)) ?_
  refine Ew_of (pcₚ := 10) (fun _ => x_iconst rfl) ?_
  refine w_iadd rfl ?_
  refine Ew_of (pcₚ := 12) (fun _ => x_aload_n rfl (rk_o (rfl) rfl rfl)) ?_
  refine w_gT H (o := 0) (t := 11) rfl (H.perm 0 rfl) rfl rfl rfl rfl rfl rfl ?_
  refine Ew_of (pcₚ := 16) (fun _ => x_iload_n rfl (rk_o (rfl) rfl rfl)) ?_
  refine w_lI H (o := 11) (n := 4) rfl (H.perm 11 rfl) rfl rfl (H.fix 11 rfl rfl) (show 0 ≤ a1 ∧ a1 < ((4 : Nat) : Int) from q_2313 h6) (by decide) (fun v1 ev1 qv1 => ?_)
  have qv1 : (0 : Int) ≤ v1 ∧ v1 ≤ 65536 := qv1
  have ev1 : (w11) (a1) = v1 := (congrFun (ew11) (a1)).symm.trans ev1
  have hsz := ev1
  refine w_icmpgt (t := 77) rfl rfl (show inr ((a2 + 4)) from q_2314 h6) (show inr (v1) from q_286 qv1) (fun b2 => ?_) (fun b2 => ?_)
  · refine Ew_of (pcₚ := 78) (fun _ => x_iconst rfl) ?_
    exact w_ireturn rfl (k (0) σ _ _ H (SF_refl) (SA_refl) (show (0) = 0 ∨ (0) = 1 by first | exact q_45 | omega) (show (((0) : Int) = 1 ∧ a2 + 4 ≤ ((w11)) (a1) ∧ nvl (ap (rwR ((w10)) ((w11)) (a1))) (a2) 4 = a3 + 256 * a4 + 65536 * a5 + 16777216 * a6 ∨ ((0) : Int) = 0 ∧ ¬ (a2 + 4 ≤ ((w11)) (a1) ∧ nvl (ap (rwR ((w10)) ((w11)) (a1))) (a2) 4 = a3 + 256 * a4 + 65536 * a5 + 16777216 * a6)) by omega))
  · have hN := nv4 (ro := (w10)) (si := (w11)) (r := (a1)) (a := (a2)) (by omega) (by omega) hRo
    have hR0 := hRo (65536 * (a1) + (a2))
    have hR1 := hRo (65536 * (a1) + (a2) + 1)
    have hR2 := hRo (65536 * (a1) + (a2) + 2)
    have hR3 := hRo (65536 * (a1) + (a2) + 3)
    refine Ew_of (pcₚ := 21) (fun _ => x_aload_n rfl (rk_o (rfl) rfl rfl)) ?_
    refine w_gT H (o := 0) (t := 10) rfl (H.perm 0 rfl) rfl rfl rfl rfl rfl rfl ?_
    refine Ew_of (pcₚ := 26) (fun _ => x_iload rfl rk_s) ?_
    refine w_lI H (o := 10) (n := 262144) rfl (H.perm 10 rfl) rfl rfl (H.fix 10 rfl rfl) (show 0 ≤ ((65536 * a1) + a2) ∧ ((65536 * a1) + a2) < ((262144 : Nat) : Int) from q_2316 b2 h6 qv1) (by decide) (fun v3 ev3 qv3 => ?_)
    have qv3 : (0 : Int) ≤ v3 ∧ v3 ≤ 255 := qv3
    have ev3 : (w10) (((65536 * a1) + a2)) = v3 := (congrFun (ew10) (((65536 * a1) + a2))).symm.trans ev3
    have hv0 := ev3
    refine Ew_of (pcₚ := 28) (fun _ => x_iload_n rfl (rk_o (rfl) rfl rfl)) ?_
    refine w_icmpne (t := 77) rfl rfl (show inr (v3) from q_299 qv3) (show inr (a3) from h2) (fun b4 => ?_) (fun b4 => ?_)
    · refine Ew_of (pcₚ := 78) (fun _ => x_iconst rfl) ?_
      exact w_ireturn rfl (k (0) σ _ _ H (SF_refl) (SA_refl) (show (0) = 0 ∨ (0) = 1 by first | exact q_45 | omega) (show (((0) : Int) = 1 ∧ a2 + 4 ≤ ((w11)) (a1) ∧ nvl (ap (rwR ((w10)) ((w11)) (a1))) (a2) 4 = a3 + 256 * a4 + 65536 * a5 + 16777216 * a6 ∨ ((0) : Int) = 0 ∧ ¬ (a2 + 4 ≤ ((w11)) (a1) ∧ nvl (ap (rwR ((w10)) ((w11)) (a1))) (a2) 4 = a3 + 256 * a4 + 65536 * a5 + 16777216 * a6)) by omega))
    · refine Ew_of (pcₚ := 32) (fun _ => x_aload_n rfl (rk_o (rfl) rfl rfl)) ?_
      refine w_gT H (o := 0) (t := 10) rfl (H.perm 0 rfl) rfl rfl rfl rfl rfl rfl ?_
      refine Ew_of (pcₚ := 37) (fun _ => x_iload rfl rk_s) ?_
      refine Ew_of (pcₚ := 38) (fun _ => x_iconst rfl) ?_
      refine w_iadd rfl ?_
      refine w_lI H (o := 10) (n := 262144) rfl (H.perm 10 rfl) rfl rfl (H.fix 10 rfl rfl) (show 0 ≤ (((65536 * a1) + a2) + 1) ∧ (((65536 * a1) + a2) + 1) < ((262144 : Nat) : Int) from q_2318 b2 h6 qv1) (by decide) (fun v5 ev5 qv5 => ?_)
      have qv5 : (0 : Int) ≤ v5 ∧ v5 ≤ 255 := qv5
      have ev5 : (w10) ((((65536 * a1) + a2) + 1)) = v5 := (congrFun (ew10) ((((65536 * a1) + a2) + 1))).symm.trans ev5
      have hv1 := ev5
      refine Ew_of (pcₚ := 42) (fun _ => x_iload rfl (rk_o (rfl) rfl rfl)) ?_
      refine w_icmpne (t := 77) rfl rfl (show inr (v5) from q_299 qv5) (show inr (a4) from h3) (fun b6 => ?_) (fun b6 => ?_)
      · refine Ew_of (pcₚ := 78) (fun _ => x_iconst rfl) ?_
        exact w_ireturn rfl (k (0) σ _ _ H (SF_refl) (SA_refl) (show (0) = 0 ∨ (0) = 1 by first | exact q_45 | omega) (show (((0) : Int) = 1 ∧ a2 + 4 ≤ ((w11)) (a1) ∧ nvl (ap (rwR ((w10)) ((w11)) (a1))) (a2) 4 = a3 + 256 * a4 + 65536 * a5 + 16777216 * a6 ∨ ((0) : Int) = 0 ∧ ¬ (a2 + 4 ≤ ((w11)) (a1) ∧ nvl (ap (rwR ((w10)) ((w11)) (a1))) (a2) 4 = a3 + 256 * a4 + 65536 * a5 + 16777216 * a6)) by omega))
      · refine Ew_of (pcₚ := 46) (fun _ => x_aload_n rfl (rk_o (rfl) rfl rfl)) ?_
        refine w_gT H (o := 0) (t := 10) rfl (H.perm 0 rfl) rfl rfl rfl rfl rfl rfl ?_
        refine Ew_of (pcₚ := 51) (fun _ => x_iload rfl rk_s) ?_
        refine Ew_of (pcₚ := 52) (fun _ => x_iconst rfl) ?_
        refine w_iadd rfl ?_
        refine w_lI H (o := 10) (n := 262144) rfl (H.perm 10 rfl) rfl rfl (H.fix 10 rfl rfl) (show 0 ≤ (((65536 * a1) + a2) + 2) ∧ (((65536 * a1) + a2) + 2) < ((262144 : Nat) : Int) from q_2319 b2 h6 qv1) (by decide) (fun v7 ev7 qv7 => ?_)
        have qv7 : (0 : Int) ≤ v7 ∧ v7 ≤ 255 := qv7
        have ev7 : (w10) ((((65536 * a1) + a2) + 2)) = v7 := (congrFun (ew10) ((((65536 * a1) + a2) + 2))).symm.trans ev7
        have hv2 := ev7
        refine Ew_of (pcₚ := 56) (fun _ => x_iload rfl (rk_o (rfl) rfl rfl)) ?_
        refine w_icmpne (t := 77) rfl rfl (show inr (v7) from q_299 qv7) (show inr (a5) from h4) (fun b8 => ?_) (fun b8 => ?_)
        · refine Ew_of (pcₚ := 78) (fun _ => x_iconst rfl) ?_
          exact w_ireturn rfl (k (0) σ _ _ H (SF_refl) (SA_refl) (show (0) = 0 ∨ (0) = 1 by first | exact q_45 | omega) (show (((0) : Int) = 1 ∧ a2 + 4 ≤ ((w11)) (a1) ∧ nvl (ap (rwR ((w10)) ((w11)) (a1))) (a2) 4 = a3 + 256 * a4 + 65536 * a5 + 16777216 * a6 ∨ ((0) : Int) = 0 ∧ ¬ (a2 + 4 ≤ ((w11)) (a1) ∧ nvl (ap (rwR ((w10)) ((w11)) (a1))) (a2) 4 = a3 + 256 * a4 + 65536 * a5 + 16777216 * a6)) by omega))
        · refine Ew_of (pcₚ := 60) (fun _ => x_aload_n rfl (rk_o (rfl) rfl rfl)) ?_
          refine w_gT H (o := 0) (t := 10) rfl (H.perm 0 rfl) rfl rfl rfl rfl rfl rfl ?_
          refine Ew_of (pcₚ := 65) (fun _ => x_iload rfl rk_s) ?_
          refine Ew_of (pcₚ := 66) (fun _ => x_iconst rfl) ?_
          refine w_iadd rfl ?_
          refine w_lI H (o := 10) (n := 262144) rfl (H.perm 10 rfl) rfl rfl (H.fix 10 rfl rfl) (show 0 ≤ (((65536 * a1) + a2) + 3) ∧ (((65536 * a1) + a2) + 3) < ((262144 : Nat) : Int) from q_2320 b2 h6 qv1) (by decide) (fun v9 ev9 qv9 => ?_)
          have qv9 : (0 : Int) ≤ v9 ∧ v9 ≤ 255 := qv9
          have ev9 : (w10) ((((65536 * a1) + a2) + 3)) = v9 := (congrFun (ew10) ((((65536 * a1) + a2) + 3))).symm.trans ev9
          have hv3 := ev9
          refine Ew_of (pcₚ := 70) (fun _ => x_iload rfl (rk_o (rfl) rfl rfl)) ?_
          refine w_icmpne (t := 77) rfl rfl (show inr (v9) from q_299 qv9) (show inr (a6) from h5) (fun b10 => ?_) (fun b10 => ?_)
          · refine Ew_of (pcₚ := 78) (fun _ => x_iconst rfl) ?_
            exact w_ireturn rfl (k (0) σ _ _ H (SF_refl) (SA_refl) (show (0) = 0 ∨ (0) = 1 by first | exact q_45 | omega) (show (((0) : Int) = 1 ∧ a2 + 4 ≤ ((w11)) (a1) ∧ nvl (ap (rwR ((w10)) ((w11)) (a1))) (a2) 4 = a3 + 256 * a4 + 65536 * a5 + 16777216 * a6 ∨ ((0) : Int) = 0 ∧ ¬ (a2 + 4 ≤ ((w11)) (a1) ∧ nvl (ap (rwR ((w10)) ((w11)) (a1))) (a2) 4 = a3 + 256 * a4 + 65536 * a5 + 16777216 * a6)) by omega))
          · refine Ew_of (pcₚ := 74) (fun _ => x_iconst rfl) ?_
            refine Ew_of (pcₚ := 78) (fun _ => x_goto rfl rfl) ?_
            exact w_ireturn rfl (k (1) σ _ _ H (SF_refl) (SA_refl) (show (1) = 0 ∨ (1) = 1 by first | exact q_49 | omega) (show (((1) : Int) = 1 ∧ a2 + 4 ≤ ((w11)) (a1) ∧ nvl (ap (rwR ((w10)) ((w11)) (a1))) (a2) 4 = a3 + 256 * a4 + 65536 * a5 + 16777216 * a6 ∨ ((1) : Int) = 0 ∧ ¬ (a2 + 4 ≤ ((w11)) (a1) ∧ nvl (ap (rwR ((w10)) ((w11)) (a1))) (a2) 4 = a3 + 256 * a4 + 65536 * a5 + 16777216 * a6)) by omega))

theorem M87p {σ0 σ : rS} {D N : Nat → Nat} {F : hF} {A : hA} {d c s : Nat} {Q : wQ} (H : HS σ0 σ D N F A) {a1 : Int} (w10 : Int → Int) (ew10 : A 10 = w10) (w11 : Int → Int) (ew11 : A 11 = w11) (h0 : inr (a1)) (k : ∀ (z : Int) σ Fₚ Aₚ, HS σ0 σ D N Fₚ Aₚ → SF [] F Fₚ → SA [] A Aₚ → (inr (z)) → (-1 ≤ (z) ∧ (z) ≤ 5 ∧ (z) ≠ 2) → (((0 ≤ (a1) ∧ (a1) ≤ 3) ∧ ((z) : Int) = knF (rwR ((w10)) ((w11)) ((a1))) ∨ ¬ (0 ≤ (a1) ∧ (a1) ≤ 3) ∧ ((z) : Int) = -1)) → Q (some (I z)) σ c s) : Ew 87 (d + 1) 0 (rargs 0 [.ref (D 0), I a1]) [] σ c s Q := by
  have hSz : ∀ i, (0 : Int) ≤ (w11) i ∧ (w11) i ≤ 65536 := fun i => by have h1 : (0 : Int) ≤ A 11 i ∧ A 11 i ≤ 65536 := H.arng 11 i; rw [show A 11 = w11 from ew11] at h1; exact h1
  have hRo : ∀ i, (0 : Int) ≤ (w10) i ∧ (w10) i ≤ 255 := fun i => by have h1 : (0 : Int) ≤ A 10 i ∧ A 10 i ≤ 255 := H.arng 10 i; rw [show A 10 = w10 from ew10] at h1; exact h1
  have hsa := hSz ((a1))
  have hln : ((rwR ((w10)) ((w11)) ((a1))).length : Int) = ((w11)) ((a1)) := rwR_len (hSz ((a1))).1
  refine Ew_of (pcₚ := 1) (fun _ => x_iload_n rfl rfl) ?_
  refine w_stat24 rfl rfl (by rfl) (M56p H (show inr (a1) from h0) (fun z5 σ F1 A2 H hS3 hA4 pz5_0 pz5_1 => ⟨rretB rfl pz5_0, ?_⟩))
  refine w_ifne (t := 9) rfl rfl (show inr (z5) from q_138 pz5_0) (fun b6 => ?_) (fun b6 => ?_)
  · refine Ew_of (pcₚ := 10) (fun _ => x_iconst rfl) ?_
    refine Ew_of (pcₚ := 11) (fun _ => x_istore_n rfl) ?_
    refine Ew_of (pcₚ := 12) (fun _ => x_iconst rfl) ?_
    refine Ew_of (pcₚ := 13) (fun _ => x_istore_n rfl) ?_
    have : KNO (rwR ((w10)) ((w11)) ((a1))) (0) := KNO_0
    have : IMP ((1 : Int) = 0) (¬ (0 + 8 ≤ ((rwR ((w10)) ((w11)) ((a1))).length : Int) ∧ 407710288 ≤ nvl (ap (rwR ((w10)) ((w11)) ((a1)))) (0) 4 ∧ nvl (ap (rwR ((w10)) ((w11)) ((a1)))) (0) 4 ≤ 407710303 ∧ nvl (ap (rwR ((w10)) ((w11)) ((a1)))) (0 + 4) 4 ≤ ((rwR ((w10)) ((w11)) ((a1))).length : Int) - 0 - 8)) := fun q => absurd q (by omega)
    suffices hl13 : ∀ (m : Nat), ∀ (ls : rO) (σ : rS) (F_13 : hF) (A_13 : hA) (x13_2 : Int) (x13_3 : Int), rlook ls 0 = some (.ref (D 0)) → rlook ls 1 = some (I (a1)) → rlook ls 2 = some (I (x13_2)) → rlook ls 3 = some (I (x13_3)) → HS σ0 σ D N F_13 A_13 → SF [] F1 F_13 → SA [] A2 A_13 → (inr (x13_2)) → (inr (x13_3)) → ((x13_3) = 0 ∨ (x13_3) = 1) → (0 ≤ (x13_2) ∧ (x13_2) ≤ ((w11)) ((a1)) ∧ ((w11)) ((a1)) ≤ 65536) → (KNO (rwR ((w10)) ((w11)) ((a1))) ((x13_2))) → (IMP (((x13_3) : Int) = 0) (¬ ((x13_2) + 8 ≤ ((rwR ((w10)) ((w11)) ((a1))).length : Int) ∧ 407710288 ≤ nvl (ap (rwR ((w10)) ((w11)) ((a1)))) ((x13_2)) 4 ∧ nvl (ap (rwR ((w10)) ((w11)) ((a1)))) ((x13_2)) 4 ≤ 407710303 ∧ nvl (ap (rwR ((w10)) ((w11)) ((a1)))) ((x13_2) + 4) 4 ≤ ((rwR ((w10)) ((w11)) ((a1))).length : Int) - (x13_2) - 8))) → (2 * (((w11)) ((a1)) - (x13_2)) + (x13_3)).toNat = m → Ew 87 (d + 1) 13 ls [] σ c s Q from
      hl13 _ _ σ _ _ (0) (1) (rk_o (rk_o (rfl) rfl rfl) rfl rfl) (rk_o (rk_o (rfl) rfl rfl) rfl rfl) (rk_o (rk_s) rfl rfl) (rk_s) H (SF_refl) (SA_refl)   (show inr (0) from q_2) (show inr (1) from q_135) (show (1) = 0 ∨ (1) = 1 from q_49) (show 0 ≤ (0) ∧ (0) ≤ ((w11)) ((a1)) ∧ ((w11)) ((a1)) ≤ 65536 by omega) (show KNO (rwR ((w10)) ((w11)) ((a1))) ((0)) by assumption) (show IMP (((1) : Int) = 0) (¬ ((0) + 8 ≤ ((rwR ((w10)) ((w11)) ((a1))).length : Int) ∧ 407710288 ≤ nvl (ap (rwR ((w10)) ((w11)) ((a1)))) ((0)) 4 ∧ nvl (ap (rwR ((w10)) ((w11)) ((a1)))) ((0)) 4 ≤ 407710303 ∧ nvl (ap (rwR ((w10)) ((w11)) ((a1)))) ((0) + 4) 4 ≤ ((rwR ((w10)) ((w11)) ((a1))).length : Int) - (0) - 8)) by assumption) rfl
    as_aux_lemma =>
    intro m
    induction m using Nat.strongRecOn with
    | _ m ih13 =>
      intro ls σ F_13 A_13 x13_2 x13_3 l13_0 l13_1 l13_2 l13_3 H hS_13 hA_13   j13_0 j13_1 j13_2 j13_3 j13_4 j13_5 hm13
      have j13_k : KNO (rwR ((w10)) ((w11)) ((a1))) ((x13_2)) := j13_4
      have j13_n : IMP (((x13_3) : Int) = 0) (¬ ((x13_2) + 8 ≤ ((rwR ((w10)) ((w11)) ((a1))).length : Int) ∧ 407710288 ≤ nvl (ap (rwR ((w10)) ((w11)) ((a1)))) ((x13_2)) 4 ∧ nvl (ap (rwR ((w10)) ((w11)) ((a1)))) ((x13_2)) 4 ≤ 407710303 ∧ nvl (ap (rwR ((w10)) ((w11)) ((a1)))) ((x13_2) + 4) 4 ≤ ((rwR ((w10)) ((w11)) ((a1))).length : Int) - (x13_2) - 8)) := by assumption
      refine Ew_of (pcₚ := 14) (fun _ => x_iload_n rfl l13_3) ?_
      refine w_ifeq (t := 201) rfl rfl (show inr (x13_3) from j13_1) (fun b7 => ?_) (fun b7 => ?_)
      · have hkn : knF (rwR ((w10)) ((w11)) ((a1))) = knE (rwR ((w10)) ((w11)) ((a1))) ((x13_2)) := KNO_e j13_k (j13_n (by omega))
        refine Ew_of (pcₚ := 202) (fun _ => x_aload_n rfl l13_0) ?_
        refine Ew_of (pcₚ := 203) (fun _ => x_iload_n rfl l13_1) ?_
        refine Ew_of (pcₚ := 204) (fun _ => x_iload_n rfl l13_2) ?_
        refine Ew_of (pcₚ := 205) (fun _ => x_iconst rfl) ?_
        refine Ew_of (pcₚ := 207) (fun _ => x_bipush (z := 34) rfl (by decide)) ?_
        refine Ew_of (pcₚ := 209) (fun _ => x_bipush (z := 77) rfl (by decide)) ?_
        refine Ew_of (pcₚ := 211) (fun _ => x_bipush (z := 24) rfl (by decide)) ?_
        refine w_inv H (o := 0) rfl rfl rfl (H.perm 0 rfl) rfl rfl (by rfl) (M86p H (w10) ((funext (hA_13 10 rfl)).trans ((funext (hA4 10 rfl)).trans (ew10))) (w11) ((funext (hA_13 11 rfl)).trans ((funext (hA4 11 rfl)).trans (ew11))) (show inr (a1) from h0) (show inr (x13_2) from j13_0) (show inr (4) from q_216) (show inr (34) from q_2323) (show inr (77) from q_1925) (show inr (24) from q_1514) (show 0 ≤ (a1) ∧ (a1) ≤ 3 ∧ 0 ≤ (x13_2) ∧ (x13_2) ≤ 65540 by omega) (show 0 ≤ (4) ∧ (4) ≤ 255 from q_5009) (show 0 ≤ (34) ∧ (34) ≤ 255 from q_5008) (show 0 ≤ (77) ∧ (77) ≤ 255 from q_5007) (show 0 ≤ (24) ∧ (24) ≤ 255 from q_5006) (fun z12 σ F8 A9 H hS10 hA11 pz12_0 pz12_1 => ⟨rretB rfl pz12_0, ?_⟩))
        refine w_ifeq (t := 219) rfl rfl (show inr (z12) from q_138 pz12_0) (fun b13 => ?_) (fun b13 => ?_)
        · refine Ew_of (pcₚ := 220) (fun _ => x_aload_n rfl l13_0) ?_
          refine Ew_of (pcₚ := 221) (fun _ => x_iload_n rfl l13_1) ?_
          refine Ew_of (pcₚ := 222) (fun _ => x_iload_n rfl l13_2) ?_
          refine Ew_of (pcₚ := 224) (fun _ => x_bipush (z := 40) rfl (by decide)) ?_
          refine Ew_of (pcₚ := 227) (fun _ => x_sipush (z := 181) rfl (by decide)) ?_
          refine Ew_of (pcₚ := 229) (fun _ => x_bipush (z := 47) rfl (by decide)) ?_
          refine Ew_of (pcₚ := 232) (fun _ => x_sipush (z := 253) rfl (by decide)) ?_
          refine w_inv H (o := 0) rfl rfl rfl (H.perm 0 rfl) rfl rfl (by rfl) (M86p H (w10) ((funext (hA11 10 rfl)).trans ((funext (hA_13 10 rfl)).trans ((funext (hA4 10 rfl)).trans (ew10)))) (w11) ((funext (hA11 11 rfl)).trans ((funext (hA_13 11 rfl)).trans ((funext (hA4 11 rfl)).trans (ew11)))) (show inr (a1) from h0) (show inr (x13_2) from j13_0) (show inr (40) from q_1531) (show inr (181) from q_1919) (show inr (47) from q_1918) (show inr (253) from q_1917) (show 0 ≤ (a1) ∧ (a1) ≤ 3 ∧ 0 ≤ (x13_2) ∧ (x13_2) ≤ 65540 by omega) (show 0 ≤ (40) ∧ (40) ≤ 255 from q_5013) (show 0 ≤ (181) ∧ (181) ≤ 255 from q_5012) (show 0 ≤ (47) ∧ (47) ≤ 255 from q_5011) (show 0 ≤ (253) ∧ (253) ≤ 255 from q_5010) (fun z18 σ F14 A15 H hS16 hA17 pz18_0 pz18_1 => ⟨rretB rfl pz18_0, ?_⟩))
          refine w_ifeq (t := 240) rfl rfl (show inr (z18) from q_138 pz18_0) (fun b19 => ?_) (fun b19 => ?_)
          · refine Ew_of (pcₚ := 241) (fun _ => x_aload_n rfl l13_0) ?_
            refine Ew_of (pcₚ := 242) (fun _ => x_iload_n rfl l13_1) ?_
            refine Ew_of (pcₚ := 243) (fun _ => x_iload_n rfl l13_2) ?_
            refine Ew_of (pcₚ := 245) (fun _ => x_bipush (z := 55) rfl (by decide)) ?_
            refine Ew_of (pcₚ := 248) (fun _ => x_sipush (z := 164) rfl (by decide)) ?_
            refine Ew_of (pcₚ := 250) (fun _ => x_bipush (z := 48) rfl (by decide)) ?_
            refine Ew_of (pcₚ := 253) (fun _ => x_sipush (z := 236) rfl (by decide)) ?_
            refine w_inv H (o := 0) rfl rfl rfl (H.perm 0 rfl) rfl rfl (by rfl) (M86p H (w10) ((funext (hA17 10 rfl)).trans ((funext (hA11 10 rfl)).trans ((funext (hA_13 10 rfl)).trans ((funext (hA4 10 rfl)).trans (ew10))))) (w11) ((funext (hA17 11 rfl)).trans ((funext (hA11 11 rfl)).trans ((funext (hA_13 11 rfl)).trans ((funext (hA4 11 rfl)).trans (ew11))))) (show inr (a1) from h0) (show inr (x13_2) from j13_0) (show inr (55) from q_1978) (show inr (164) from q_1977) (show inr (48) from q_1517) (show inr (236) from q_1976) (show 0 ≤ (a1) ∧ (a1) ≤ 3 ∧ 0 ≤ (x13_2) ∧ (x13_2) ≤ 65540 by omega) (show 0 ≤ (55) ∧ (55) ≤ 255 from q_5017) (show 0 ≤ (164) ∧ (164) ≤ 255 from q_5016) (show 0 ≤ (48) ∧ (48) ≤ 255 from q_5015) (show 0 ≤ (236) ∧ (236) ≤ 255 from q_5014) (fun z24 σ F20 A21 H hS22 hA23 pz24_0 pz24_1 => ⟨rretB rfl pz24_0, ?_⟩))
            refine w_ifeq (t := 261) rfl rfl (show inr (z24) from q_138 pz24_0) (fun b25 => ?_) (fun b25 => ?_)
            · have hc314 : ∀ (tc314_0 : Int), ∀ (ls : rO) (σ : rS) (F_c314 : hF) (A_c314 : hA) , rlook ls 0 = some (.ref (D 0)) → rlook ls 1 = some (I (a1)) → rlook ls 2 = some (I (x13_2)) → HS σ0 σ D N F_c314 A_c314 → SF [] F20 F_c314 → SA [] A21 A_c314 → (inr (tc314_0)) → (((tc314_0) : Int) = 1 ∧ ((x13_2) + 10 ≤ ((w11)) ((a1)) ∧ nvl (ap (rwR ((w10)) ((w11)) ((a1)))) ((x13_2)) 4 = 1791 ∧ nvl (ap (rwR ((w10)) ((w11)) ((a1)))) ((x13_2) + 4) 4 = 1348554355) ∨ ((tc314_0) : Int) = 0 ∧ ¬ ((x13_2) + 10 ≤ ((w11)) ((a1)) ∧ nvl (ap (rwR ((w10)) ((w11)) ((a1)))) ((x13_2)) 4 = 1791 ∧ nvl (ap (rwR ((w10)) ((w11)) ((a1)))) ((x13_2) + 4) 4 = 1348554355)) → Ew 87 (d + 1) 314 ls [I (tc314_0)] σ c s Q := by
               as_aux_lemma =>
                intro tc314_0 ls σ F_c314 A_c314  lc314_0 lc314_1 lc314_2 H hS_c314 hA_c314   jc314_0 jc314_1
                refine Ew_of (pcₚ := 316) (fun _ => x_istore rfl) ?_
                refine Ew_of (pcₚ := 318) (fun _ => x_iload rfl rk_s) ?_
                refine w_ifeq (t := 363) rfl rfl (show inr (tc314_0) from jc314_0) (fun b26 => ?_) (fun b26 => ?_)
                · refine Ew_of (pcₚ := 364) (fun _ => x_iconst rfl) ?_
                  have : ((0 ≤ (a1) ∧ (a1) ≤ 3) ∧ ((0) : Int) = knF (rwR ((w10)) ((w11)) ((a1))) ∨ ¬ (0 ≤ (a1) ∧ (a1) ≤ 3) ∧ ((0) : Int) = -1) := .inl ⟨by omega, (hkn.trans (by first | exact knE_3 (tgA_of (by omega) (by omega) (by omega) (hv8x.trans (by omega)) (hv9x.trans (by omega)) (ap_rngL (fun x q => sc_mem q))) | (by_cases hq4 : ((rwR ((w10)) ((w11)) ((a1))).length : Int) < (x13_2) + 4; (exact knE_n hq4); (exact knE_0 (by omega) (by omega) (by omega) (fun q => by have q1 := q.1; have q2 := tgA_v q; have q3 := tgA_4 q; first | omega | (rw [hv8x] at q3; omega) | (rw [hv9x] at q3; omega)))))).symm⟩
                  exact w_ireturn rfl (k (0) σ _ _ H (SF_trans (SF_trans (SF_trans (SF_trans (SF_trans (SF_trans (SF_refl) hS3 (any_sub rfl)) hS_13 (any_sub rfl)) hS10 (any_sub rfl)) hS16 (any_sub rfl)) hS22 (any_sub rfl)) hS_c314 (any_sub rfl)) (SA_trans (SA_trans (SA_trans (SA_trans (SA_trans (SA_trans (SA_refl) hA4 (any_subA rfl)) hA_13 (any_subA rfl)) hA11 (any_subA rfl)) hA17 (any_subA rfl)) hA23 (any_subA rfl)) hA_c314 (any_subA rfl)) (show inr (0) from q_2) (show -1 ≤ (0) ∧ (0) ≤ 5 ∧ (0) ≠ 2 by first | exact q_2324 | omega) (show ((0 ≤ a1 ∧ a1 ≤ 3) ∧ ((0) : Int) = knF (rwR ((w10)) ((w11)) (a1)) ∨ ¬ (0 ≤ a1 ∧ a1 ≤ 3) ∧ ((0) : Int) = -1) by assumption))
                · refine Ew_of (pcₚ := 322) (fun _ => x_aload_n rfl (rk_o (lc314_0) rfl rfl)) ?_
                  refine w_gT H (o := 0) (t := 10) rfl (H.perm 0 rfl) rfl rfl rfl rfl rfl rfl ?_
                  refine Ew_of (pcₚ := 327) (fun _ => x_ldc (z := 65536) rfl (by decide)) ?_
                  refine Ew_of (pcₚ := 328) (fun _ => x_iload_n rfl (rk_o (lc314_1) rfl rfl)) ?_
                  refine w_imul rfl ?_
                  refine Ew_of (pcₚ := 330) (fun _ => x_iload_n rfl (rk_o (lc314_2) rfl rfl)) ?_
                  refine w_iadd rfl ?_
                  refine Ew_of (pcₚ := 333) (fun _ => x_bipush (z := 8) rfl (by decide)) ?_
                  refine w_iadd rfl ?_
                  refine w_lI H (o := 10) (n := 262144) rfl (H.perm 10 rfl) rfl rfl (H.fix 10 rfl rfl) (show 0 ≤ (((65536 * a1) + x13_2) + 8) ∧ (((65536 * a1) + x13_2) + 8) < ((262144 : Nat) : Int) by omega) (by decide) (fun v27 ev27 qv27 => ?_)
                  have qv27 : (0 : Int) ≤ v27 ∧ v27 ≤ 255 := qv27
                  have ev27 : (w10) ((((65536 * a1) + x13_2) + 8)) = v27 := (congrFun ((funext (hA_c314 10 rfl)).trans ((funext (hA23 10 rfl)).trans ((funext (hA17 10 rfl)).trans ((funext (hA11 10 rfl)).trans ((funext (hA_13 10 rfl)).trans ((funext (hA4 10 rfl)).trans (ew10))))))) ((((65536 * a1) + x13_2) + 8))).symm.trans ev27
                  have hv8 := ev27
                  have hv8x : ap (rwR ((w10)) ((w11)) ((a1))) ((x13_2) + 8) = (v27) := by rw [rwR_g (by omega) (by omega) hRo, show 65536 * (a1) + ((x13_2) + 8) = 65536 * (a1) + (x13_2) + 8 by omega]; exact hv8
                  refine Ew_of (pcₚ := 337) (fun _ => x_bipush (z := 112) rfl (by decide)) ?_
                  refine w_icmpne (t := 363) rfl rfl (show inr (v27) from q_299 qv27) (show inr (112) from q_330) (fun b28 => ?_) (fun b28 => ?_)
                  · refine Ew_of (pcₚ := 364) (fun _ => x_iconst rfl) ?_
                    have : ((0 ≤ (a1) ∧ (a1) ≤ 3) ∧ ((0) : Int) = knF (rwR ((w10)) ((w11)) ((a1))) ∨ ¬ (0 ≤ (a1) ∧ (a1) ≤ 3) ∧ ((0) : Int) = -1) := .inl ⟨by omega, (hkn.trans (by first | exact knE_3 (tgA_of (by omega) (by omega) (by omega) (hv8x.trans (by omega)) (hv9x.trans (by omega)) (ap_rngL (fun x q => sc_mem q))) | (by_cases hq4 : ((rwR ((w10)) ((w11)) ((a1))).length : Int) < (x13_2) + 4; (exact knE_n hq4); (exact knE_0 (by omega) (by omega) (by omega) (fun q => by have q1 := q.1; have q2 := tgA_v q; have q3 := tgA_4 q; first | omega | (rw [hv8x] at q3; omega) | (rw [hv9x] at q3; omega)))))).symm⟩
                    exact w_ireturn rfl (k (0) σ _ _ H (SF_trans (SF_trans (SF_trans (SF_trans (SF_trans (SF_trans (SF_refl) hS3 (any_sub rfl)) hS_13 (any_sub rfl)) hS10 (any_sub rfl)) hS16 (any_sub rfl)) hS22 (any_sub rfl)) hS_c314 (any_sub rfl)) (SA_trans (SA_trans (SA_trans (SA_trans (SA_trans (SA_trans (SA_refl) hA4 (any_subA rfl)) hA_13 (any_subA rfl)) hA11 (any_subA rfl)) hA17 (any_subA rfl)) hA23 (any_subA rfl)) hA_c314 (any_subA rfl)) (show inr (0) from q_2) (show -1 ≤ (0) ∧ (0) ≤ 5 ∧ (0) ≠ 2 by first | exact q_2324 | omega) (show ((0 ≤ a1 ∧ a1 ≤ 3) ∧ ((0) : Int) = knF (rwR ((w10)) ((w11)) (a1)) ∨ ¬ (0 ≤ a1 ∧ a1 ≤ 3) ∧ ((0) : Int) = -1) by assumption))
                  · refine Ew_of (pcₚ := 341) (fun _ => x_aload_n rfl (rk_o (lc314_0) rfl rfl)) ?_
                    refine w_gT H (o := 0) (t := 10) rfl (H.perm 0 rfl) rfl rfl rfl rfl rfl rfl ?_
                    refine Ew_of (pcₚ := 346) (fun _ => x_ldc (z := 65536) rfl (by decide)) ?_
                    refine Ew_of (pcₚ := 347) (fun _ => x_iload_n rfl (rk_o (lc314_1) rfl rfl)) ?_
                    refine w_imul rfl ?_
                    refine Ew_of (pcₚ := 349) (fun _ => x_iload_n rfl (rk_o (lc314_2) rfl rfl)) ?_
                    refine w_iadd rfl ?_
                    refine Ew_of (pcₚ := 352) (fun _ => x_bipush (z := 9) rfl (by decide)) ?_
                    refine w_iadd rfl ?_
                    refine w_lI H (o := 10) (n := 262144) rfl (H.perm 10 rfl) rfl rfl (H.fix 10 rfl rfl) (show 0 ≤ (((65536 * a1) + x13_2) + 9) ∧ (((65536 * a1) + x13_2) + 9) < ((262144 : Nat) : Int) by omega) (by decide) (fun v29 ev29 qv29 => ?_)
                    have qv29 : (0 : Int) ≤ v29 ∧ v29 ≤ 255 := qv29
                    have ev29 : (w10) ((((65536 * a1) + x13_2) + 9)) = v29 := (congrFun ((funext (hA_c314 10 rfl)).trans ((funext (hA23 10 rfl)).trans ((funext (hA17 10 rfl)).trans ((funext (hA11 10 rfl)).trans ((funext (hA_13 10 rfl)).trans ((funext (hA4 10 rfl)).trans (ew10))))))) ((((65536 * a1) + x13_2) + 9))).symm.trans ev29
                    have hv9 := ev29
                    have hv9x : ap (rwR ((w10)) ((w11)) ((a1))) ((x13_2) + 9) = (v29) := by rw [rwR_g (by omega) (by omega) hRo, show 65536 * (a1) + ((x13_2) + 9) = 65536 * (a1) + (x13_2) + 9 by omega]; exact hv9
                    refine Ew_of (pcₚ := 356) (fun _ => x_bipush (z := 89) rfl (by decide)) ?_
                    refine w_icmpne (t := 363) rfl rfl (show inr (v29) from q_299 qv29) (show inr (89) from q_328) (fun b30 => ?_) (fun b30 => ?_)
                    · refine Ew_of (pcₚ := 364) (fun _ => x_iconst rfl) ?_
                      have : ((0 ≤ (a1) ∧ (a1) ≤ 3) ∧ ((0) : Int) = knF (rwR ((w10)) ((w11)) ((a1))) ∨ ¬ (0 ≤ (a1) ∧ (a1) ≤ 3) ∧ ((0) : Int) = -1) := .inl ⟨by omega, (hkn.trans (by first | exact knE_3 (tgA_of (by omega) (by omega) (by omega) (hv8x.trans (by omega)) (hv9x.trans (by omega)) (ap_rngL (fun x q => sc_mem q))) | (by_cases hq4 : ((rwR ((w10)) ((w11)) ((a1))).length : Int) < (x13_2) + 4; (exact knE_n hq4); (exact knE_0 (by omega) (by omega) (by omega) (fun q => by have q1 := q.1; have q2 := tgA_v q; have q3 := tgA_4 q; first | omega | (rw [hv8x] at q3; omega) | (rw [hv9x] at q3; omega)))))).symm⟩
                      exact w_ireturn rfl (k (0) σ _ _ H (SF_trans (SF_trans (SF_trans (SF_trans (SF_trans (SF_trans (SF_refl) hS3 (any_sub rfl)) hS_13 (any_sub rfl)) hS10 (any_sub rfl)) hS16 (any_sub rfl)) hS22 (any_sub rfl)) hS_c314 (any_sub rfl)) (SA_trans (SA_trans (SA_trans (SA_trans (SA_trans (SA_trans (SA_refl) hA4 (any_subA rfl)) hA_13 (any_subA rfl)) hA11 (any_subA rfl)) hA17 (any_subA rfl)) hA23 (any_subA rfl)) hA_c314 (any_subA rfl)) (show inr (0) from q_2) (show -1 ≤ (0) ∧ (0) ≤ 5 ∧ (0) ≠ 2 by first | exact q_2324 | omega) (show ((0 ≤ a1 ∧ a1 ≤ 3) ∧ ((0) : Int) = knF (rwR ((w10)) ((w11)) (a1)) ∨ ¬ (0 ≤ a1 ∧ a1 ≤ 3) ∧ ((0) : Int) = -1) by assumption))
                    · refine Ew_of (pcₚ := 360) (fun _ => x_iconst rfl) ?_
                      refine Ew_of (pcₚ := 364) (fun _ => x_goto rfl rfl) ?_
                      have : ((0 ≤ (a1) ∧ (a1) ≤ 3) ∧ ((3) : Int) = knF (rwR ((w10)) ((w11)) ((a1))) ∨ ¬ (0 ≤ (a1) ∧ (a1) ≤ 3) ∧ ((3) : Int) = -1) := .inl ⟨by omega, (hkn.trans (by first | exact knE_3 (tgA_of (by omega) (by omega) (by omega) (hv8x.trans (by omega)) (hv9x.trans (by omega)) (ap_rngL (fun x q => sc_mem q))) | (by_cases hq4 : ((rwR ((w10)) ((w11)) ((a1))).length : Int) < (x13_2) + 4; (exact knE_n hq4); (exact knE_0 (by omega) (by omega) (by omega) (fun q => by have q1 := q.1; have q2 := tgA_v q; have q3 := tgA_4 q; first | omega | (rw [hv8x] at q3; omega) | (rw [hv9x] at q3; omega)))))).symm⟩
                      exact w_ireturn rfl (k (3) σ _ _ H (SF_trans (SF_trans (SF_trans (SF_trans (SF_trans (SF_trans (SF_refl) hS3 (any_sub rfl)) hS_13 (any_sub rfl)) hS10 (any_sub rfl)) hS16 (any_sub rfl)) hS22 (any_sub rfl)) hS_c314 (any_sub rfl)) (SA_trans (SA_trans (SA_trans (SA_trans (SA_trans (SA_trans (SA_refl) hA4 (any_subA rfl)) hA_13 (any_subA rfl)) hA11 (any_subA rfl)) hA17 (any_subA rfl)) hA23 (any_subA rfl)) hA_c314 (any_subA rfl)) (show inr (3) from q_246) (show -1 ≤ (3) ∧ (3) ≤ 5 ∧ (3) ≠ 2 by first | exact q_2325 | omega) (show ((0 ≤ a1 ∧ a1 ≤ 3) ∧ ((3) : Int) = knF (rwR ((w10)) ((w11)) (a1)) ∨ ¬ (0 ≤ a1 ∧ a1 ≤ 3) ∧ ((3) : Int) = -1) by assumption))
              refine Ew_of (pcₚ := 262) (fun _ => x_aload_n rfl l13_0) ?_
              refine Ew_of (pcₚ := 263) (fun _ => x_iload_n rfl l13_1) ?_
              refine Ew_of (pcₚ := 264) (fun _ => x_iload_n rfl l13_2) ?_
              refine Ew_of (pcₚ := 267) (fun _ => x_sipush (z := 255) rfl (by decide)) ?_
              refine Ew_of (pcₚ := 269) (fun _ => x_bipush (z := 6) rfl (by decide)) ?_
              refine Ew_of (pcₚ := 270) (fun _ => x_iconst rfl) ?_
              refine Ew_of (pcₚ := 271) (fun _ => x_iconst rfl) ?_
              refine w_inv H (o := 0) rfl rfl rfl (H.perm 0 rfl) rfl rfl (by rfl) (M86p H (w10) ((funext (hA23 10 rfl)).trans ((funext (hA17 10 rfl)).trans ((funext (hA11 10 rfl)).trans ((funext (hA_13 10 rfl)).trans ((funext (hA4 10 rfl)).trans (ew10)))))) (w11) ((funext (hA23 11 rfl)).trans ((funext (hA17 11 rfl)).trans ((funext (hA11 11 rfl)).trans ((funext (hA_13 11 rfl)).trans ((funext (hA4 11 rfl)).trans (ew11)))))) (show inr (a1) from h0) (show inr (x13_2) from j13_0) (show inr (255) from q_297) (show inr (6) from q_756) (show inr (0) from q_2) (show inr (0) from q_2) (show 0 ≤ (a1) ∧ (a1) ≤ 3 ∧ 0 ≤ (x13_2) ∧ (x13_2) ≤ 65540 by omega) (show 0 ≤ (255) ∧ (255) ≤ 255 from q_390) (show 0 ≤ (6) ∧ (6) ≤ 255 from q_5018) (show 0 ≤ (0) ∧ (0) ≤ 255 from q_1407) (show 0 ≤ (0) ∧ (0) ≤ 255 from q_1407) (fun z35 σ F31 A32 H hS33 hA34 pz35_0 pz35_1 => ⟨rretB rfl pz35_0, ?_⟩))
              refine w_ifeq (t := 313) rfl rfl (show inr (z35) from q_138 pz35_0) (fun b36 => ?_) (fun b36 => ?_)
              · refine Ew_of (pcₚ := 314) (fun _ => x_iconst rfl) ?_
                exact hc314 (0) _ σ _ _  (l13_0) (l13_1) (l13_2) H (SF_trans (SF_refl) hS33 (any_sub rfl)) (SA_trans (SA_refl) hA34 (any_subA rfl))   (show inr (0) from q_2) (show ((0) : Int) = 1 ∧ ((x13_2) + 10 ≤ ((w11)) ((a1)) ∧ nvl (ap (rwR ((w10)) ((w11)) ((a1)))) ((x13_2)) 4 = 1791 ∧ nvl (ap (rwR ((w10)) ((w11)) ((a1)))) ((x13_2) + 4) 4 = 1348554355) ∨ ((0) : Int) = 0 ∧ ¬ ((x13_2) + 10 ≤ ((w11)) ((a1)) ∧ nvl (ap (rwR ((w10)) ((w11)) ((a1)))) ((x13_2)) 4 = 1791 ∧ nvl (ap (rwR ((w10)) ((w11)) ((a1)))) ((x13_2) + 4) 4 = 1348554355) by omega)
              · refine Ew_of (pcₚ := 278) (fun _ => x_aload_n rfl l13_0) ?_
                refine Ew_of (pcₚ := 279) (fun _ => x_iload_n rfl l13_1) ?_
                refine Ew_of (pcₚ := 280) (fun _ => x_iload_n rfl l13_2) ?_
                refine Ew_of (pcₚ := 281) (fun _ => x_iconst rfl) ?_
                refine w_iadd rfl ?_
                refine Ew_of (pcₚ := 284) (fun _ => x_bipush (z := 115) rfl (by decide)) ?_
                refine Ew_of (pcₚ := 286) (fun _ => x_bipush (z := 78) rfl (by decide)) ?_
                refine Ew_of (pcₚ := 288) (fun _ => x_bipush (z := 97) rfl (by decide)) ?_
                refine Ew_of (pcₚ := 290) (fun _ => x_bipush (z := 80) rfl (by decide)) ?_
                refine w_inv H (o := 0) rfl rfl rfl (H.perm 0 rfl) rfl rfl (by rfl) (M86p H (w10) ((funext (hA34 10 rfl)).trans ((funext (hA23 10 rfl)).trans ((funext (hA17 10 rfl)).trans ((funext (hA11 10 rfl)).trans ((funext (hA_13 10 rfl)).trans ((funext (hA4 10 rfl)).trans (ew10))))))) (w11) ((funext (hA34 11 rfl)).trans ((funext (hA23 11 rfl)).trans ((funext (hA17 11 rfl)).trans ((funext (hA11 11 rfl)).trans ((funext (hA_13 11 rfl)).trans ((funext (hA4 11 rfl)).trans (ew11))))))) (show inr (a1) from h0) (show inr ((x13_2 + 4)) from q_2328 j13_3) (show inr (115) from q_338) (show inr (78) from q_336) (show inr (97) from q_334) (show inr (80) from q_332) (show 0 ≤ (a1) ∧ (a1) ≤ 3 ∧ 0 ≤ ((x13_2 + 4)) ∧ ((x13_2 + 4)) ≤ 65540 by omega) (show 0 ≤ (115) ∧ (115) ≤ 255 from q_337) (show 0 ≤ (78) ∧ (78) ≤ 255 from q_335) (show 0 ≤ (97) ∧ (97) ≤ 255 from q_333) (show 0 ≤ (80) ∧ (80) ≤ 255 from q_331) (fun z41 σ F37 A38 H hS39 hA40 pz41_0 pz41_1 => ⟨rretB rfl pz41_0, ?_⟩))
                refine w_ifeq (t := 313) rfl rfl (show inr (z41) from q_138 pz41_0) (fun b42 => ?_) (fun b42 => ?_)
                · refine Ew_of (pcₚ := 314) (fun _ => x_iconst rfl) ?_
                  exact hc314 (0) _ σ _ _  (l13_0) (l13_1) (l13_2) H (SF_trans (SF_trans (SF_refl) hS33 (any_sub rfl)) hS39 (any_sub rfl)) (SA_trans (SA_trans (SA_refl) hA34 (any_subA rfl)) hA40 (any_subA rfl))   (show inr (0) from q_2) (show ((0) : Int) = 1 ∧ ((x13_2) + 10 ≤ ((w11)) ((a1)) ∧ nvl (ap (rwR ((w10)) ((w11)) ((a1)))) ((x13_2)) 4 = 1791 ∧ nvl (ap (rwR ((w10)) ((w11)) ((a1)))) ((x13_2) + 4) 4 = 1348554355) ∨ ((0) : Int) = 0 ∧ ¬ ((x13_2) + 10 ≤ ((w11)) ((a1)) ∧ nvl (ap (rwR ((w10)) ((w11)) ((a1)))) ((x13_2)) 4 = 1791 ∧ nvl (ap (rwR ((w10)) ((w11)) ((a1)))) ((x13_2) + 4) 4 = 1348554355) by omega)
                · refine Ew_of (pcₚ := 297) (fun _ => x_iload_n rfl l13_2) ?_
                  refine Ew_of (pcₚ := 299) (fun _ => x_bipush (z := 10) rfl (by decide)) ?_
                  refine w_iadd rfl ?_
                  refine Ew_of (pcₚ := 301) (fun _ => x_aload_n rfl l13_0) ?_
                  refine w_gT H (o := 0) (t := 11) rfl (H.perm 0 rfl) rfl rfl rfl rfl rfl rfl ?_
                  refine Ew_of (pcₚ := 305) (fun _ => x_iload_n rfl l13_1) ?_
                  refine w_lI H (o := 11) (n := 4) rfl (H.perm 11 rfl) rfl rfl (H.fix 11 rfl rfl) (show 0 ≤ a1 ∧ a1 < ((4 : Nat) : Int) by omega) (by decide) (fun v43 ev43 qv43 => ?_)
                  have qv43 : (0 : Int) ≤ v43 ∧ v43 ≤ 65536 := qv43
                  have ev43 : (w11) (a1) = v43 := (congrFun ((funext (hA40 11 rfl)).trans ((funext (hA34 11 rfl)).trans ((funext (hA23 11 rfl)).trans ((funext (hA17 11 rfl)).trans ((funext (hA11 11 rfl)).trans ((funext (hA_13 11 rfl)).trans ((funext (hA4 11 rfl)).trans (ew11)))))))) (a1)).symm.trans ev43
                  refine w_icmpgt (t := 313) rfl rfl (show inr ((x13_2 + 10)) from q_2329 j13_3) (show inr (v43) from q_286 qv43) (fun b44 => ?_) (fun b44 => ?_)
                  · refine Ew_of (pcₚ := 314) (fun _ => x_iconst rfl) ?_
                    exact hc314 (0) _ σ _ _  (l13_0) (l13_1) (l13_2) H (SF_trans (SF_trans (SF_refl) hS33 (any_sub rfl)) hS39 (any_sub rfl)) (SA_trans (SA_trans (SA_refl) hA34 (any_subA rfl)) hA40 (any_subA rfl))   (show inr (0) from q_2) (show ((0) : Int) = 1 ∧ ((x13_2) + 10 ≤ ((w11)) ((a1)) ∧ nvl (ap (rwR ((w10)) ((w11)) ((a1)))) ((x13_2)) 4 = 1791 ∧ nvl (ap (rwR ((w10)) ((w11)) ((a1)))) ((x13_2) + 4) 4 = 1348554355) ∨ ((0) : Int) = 0 ∧ ¬ ((x13_2) + 10 ≤ ((w11)) ((a1)) ∧ nvl (ap (rwR ((w10)) ((w11)) ((a1)))) ((x13_2)) 4 = 1791 ∧ nvl (ap (rwR ((w10)) ((w11)) ((a1)))) ((x13_2) + 4) 4 = 1348554355) by omega)
                  · refine Ew_of (pcₚ := 310) (fun _ => x_iconst rfl) ?_
                    refine Ew_of (pcₚ := 314) (fun _ => x_goto rfl rfl) ?_
                    exact hc314 (1) _ σ _ _  (l13_0) (l13_1) (l13_2) H (SF_trans (SF_trans (SF_refl) hS33 (any_sub rfl)) hS39 (any_sub rfl)) (SA_trans (SA_trans (SA_refl) hA34 (any_subA rfl)) hA40 (any_subA rfl))   (show inr (1) from q_135) (show ((1) : Int) = 1 ∧ ((x13_2) + 10 ≤ ((w11)) ((a1)) ∧ nvl (ap (rwR ((w10)) ((w11)) ((a1)))) ((x13_2)) 4 = 1791 ∧ nvl (ap (rwR ((w10)) ((w11)) ((a1)))) ((x13_2) + 4) 4 = 1348554355) ∨ ((1) : Int) = 0 ∧ ¬ ((x13_2) + 10 ≤ ((w11)) ((a1)) ∧ nvl (ap (rwR ((w10)) ((w11)) ((a1)))) ((x13_2)) 4 = 1791 ∧ nvl (ap (rwR ((w10)) ((w11)) ((a1)))) ((x13_2) + 4) 4 = 1348554355) by omega)
            · refine Ew_of (pcₚ := 260) (fun _ => x_iconst rfl) ?_
              have : ((0 ≤ (a1) ∧ (a1) ≤ 3) ∧ ((5) : Int) = knF (rwR ((w10)) ((w11)) ((a1))) ∨ ¬ (0 ≤ (a1) ∧ (a1) ≤ 3) ∧ ((5) : Int) = -1) := .inl ⟨by omega, (hkn.trans (knE_5 (by omega) (by omega))).symm⟩
              exact w_ireturn rfl (k (5) σ _ _ H (SF_trans (SF_trans (SF_trans (SF_trans (SF_trans (SF_refl) hS3 (any_sub rfl)) hS_13 (any_sub rfl)) hS10 (any_sub rfl)) hS16 (any_sub rfl)) hS22 (any_sub rfl)) (SA_trans (SA_trans (SA_trans (SA_trans (SA_trans (SA_refl) hA4 (any_subA rfl)) hA_13 (any_subA rfl)) hA11 (any_subA rfl)) hA17 (any_subA rfl)) hA23 (any_subA rfl)) (show inr (5) from q_727) (show -1 ≤ (5) ∧ (5) ≤ 5 ∧ (5) ≠ 2 by first | exact q_2331 | omega) (show ((0 ≤ a1 ∧ a1 ≤ 3) ∧ ((5) : Int) = knF (rwR ((w10)) ((w11)) (a1)) ∨ ¬ (0 ≤ a1 ∧ a1 ≤ 3) ∧ ((5) : Int) = -1) by assumption))
          · refine Ew_of (pcₚ := 239) (fun _ => x_iconst rfl) ?_
            have : ((0 ≤ (a1) ∧ (a1) ≤ 3) ∧ ((4) : Int) = knF (rwR ((w10)) ((w11)) ((a1))) ∨ ¬ (0 ≤ (a1) ∧ (a1) ≤ 3) ∧ ((4) : Int) = -1) := .inl ⟨by omega, (hkn.trans (knE_4 (by omega) (by omega))).symm⟩
            exact w_ireturn rfl (k (4) σ _ _ H (SF_trans (SF_trans (SF_trans (SF_trans (SF_refl) hS3 (any_sub rfl)) hS_13 (any_sub rfl)) hS10 (any_sub rfl)) hS16 (any_sub rfl)) (SA_trans (SA_trans (SA_trans (SA_trans (SA_refl) hA4 (any_subA rfl)) hA_13 (any_subA rfl)) hA11 (any_subA rfl)) hA17 (any_subA rfl)) (show inr (4) from q_216) (show -1 ≤ (4) ∧ (4) ≤ 5 ∧ (4) ≠ 2 by first | exact q_2332 | omega) (show ((0 ≤ a1 ∧ a1 ≤ 3) ∧ ((4) : Int) = knF (rwR ((w10)) ((w11)) (a1)) ∨ ¬ (0 ≤ a1 ∧ a1 ≤ 3) ∧ ((4) : Int) = -1) by assumption))
        · refine Ew_of (pcₚ := 218) (fun _ => x_iconst rfl) ?_
          have : ((0 ≤ (a1) ∧ (a1) ≤ 3) ∧ ((1) : Int) = knF (rwR ((w10)) ((w11)) ((a1))) ∨ ¬ (0 ≤ (a1) ∧ (a1) ≤ 3) ∧ ((1) : Int) = -1) := .inl ⟨by omega, (hkn.trans (knE_1 (by omega) (by omega))).symm⟩
          exact w_ireturn rfl (k (1) σ _ _ H (SF_trans (SF_trans (SF_trans (SF_refl) hS3 (any_sub rfl)) hS_13 (any_sub rfl)) hS10 (any_sub rfl)) (SA_trans (SA_trans (SA_trans (SA_refl) hA4 (any_subA rfl)) hA_13 (any_subA rfl)) hA11 (any_subA rfl)) (show inr (1) from q_135) (show -1 ≤ (1) ∧ (1) ≤ 5 ∧ (1) ≠ 2 by first | exact q_2333 | omega) (show ((0 ≤ a1 ∧ a1 ≤ 3) ∧ ((1) : Int) = knF (rwR ((w10)) ((w11)) (a1)) ∨ ¬ (0 ≤ a1 ∧ a1 ≤ 3) ∧ ((1) : Int) = -1) by assumption))
      · have hc82 : ∀ (tc82_0 : Int), ∀ (ls : rO) (σ : rS) (F_c82 : hF) (A_c82 : hA) , rlook ls 0 = some (.ref (D 0)) → rlook ls 1 = some (I (a1)) → rlook ls 2 = some (I (x13_2)) → HS σ0 σ D N F_c82 A_c82 → SF [] F_13 F_c82 → SA [] A_13 A_c82 → (inr (tc82_0)) → (((tc82_0) : Int) = 1 ∧ ((x13_2) + 8 ≤ ((w11)) ((a1)) ∧ 407710288 ≤ nvl (ap (rwR ((w10)) ((w11)) ((a1)))) ((x13_2)) 4 ∧ nvl (ap (rwR ((w10)) ((w11)) ((a1)))) ((x13_2)) 4 ≤ 407710303) ∨ ((tc82_0) : Int) = 0 ∧ ¬ ((x13_2) + 8 ≤ ((w11)) ((a1)) ∧ 407710288 ≤ nvl (ap (rwR ((w10)) ((w11)) ((a1)))) ((x13_2)) 4 ∧ nvl (ap (rwR ((w10)) ((w11)) ((a1)))) ((x13_2)) 4 ≤ 407710303)) → Ew 87 (d + 1) 82 ls [I (tc82_0)] σ c s Q := by
         as_aux_lemma =>
          intro tc82_0 ls σ F_c82 A_c82  lc82_0 lc82_1 lc82_2 H hS_c82 hA_c82   jc82_0 jc82_1
          refine Ew_of (pcₚ := 83) (fun _ => x_istore_n rfl) ?_
          refine Ew_of (pcₚ := 85) (fun _ => x_ldc (z := 65536) rfl (by decide)) ?_
          refine Ew_of (pcₚ := 86) (fun _ => x_iload_n rfl (rk_o (lc82_1) rfl rfl)) ?_
          refine w_imul rfl ?_
          refine Ew_of (pcₚ := 88) (fun _ => x_iload_n rfl (rk_o (lc82_2) rfl rfl)) ?_
          refine w_iadd rfl ?_
          refine Ew_of (pcₚ := 91) (fun _ => x_istore rfl) ?_
          have hc151 : ∀ (tc151_0 : Int), ∀ (ls : rO) (σ : rS) (F_c151 : hF) (A_c151 : hA) , rlook ls 0 = some (.ref (D 0)) → rlook ls 1 = some (I (a1)) → rlook ls 2 = some (I (x13_2)) → rlook ls 3 = some (I (tc82_0)) → HS σ0 σ D N F_c151 A_c151 → SF [] F_c82 F_c151 → SA [] A_c82 A_c151 → (inrJ (tc151_0)) → (0 ≤ (tc151_0) ∧ (tc151_0) ≤ 4294967295) → (IMP (((tc82_0) : Int) = 1) (nvl (ap (rwR ((w10)) ((w11)) ((a1)))) ((x13_2) + 4) 4 = (tc151_0))) → Ew 87 (d + 1) 151 ls [J (tc151_0)] σ c s Q := by
           as_aux_lemma =>
            intro tc151_0 ls σ F_c151 A_c151  lc151_0 lc151_1 lc151_2 lc151_3 H hS_c151 hA_c151   jc151_0 jc151_1 jc151_2
            refine Ew_of (pcₚ := 153) (fun _ => x_lstore rfl) ?_
            have k151 : IMP (((tc82_0) : Int) = 1) (nvl (ap (rwR ((w10)) ((w11)) ((a1)))) ((x13_2) + 4) 4 = (tc151_0)) := jc151_2
            refine Ew_of (pcₚ := 154) (fun _ => x_iload_n rfl (rk2_o (lc151_3) rfl rfl)) ?_
            have hc180 : ∀ (tc180_0 : Int), ∀ (ls : rO) (σ : rS) (F_c180 : hF) (A_c180 : hA) , rlook ls 0 = some (.ref (D 0)) → rlook ls 1 = some (I (a1)) → rlook ls 2 = some (I (x13_2)) → rlook ls 5 = some (J (tc151_0)) → HS σ0 σ D N F_c180 A_c180 → SF [] F_c151 F_c180 → SA [] A_c151 A_c180 → (inr (tc180_0)) → (((tc82_0) = (0) ∧ (tc180_0) = (0)) ∨ ((tc82_0) ≠ (0) ∧ 0 ≤ ((w11) (a1)) ∧ ((w11) (a1)) ≤ 65536 ∧ (tc151_0) > ((((w11) (a1) - x13_2) - 8)) ∧ (tc180_0) = (0)) ∨ ((tc82_0) ≠ (0) ∧ 0 ≤ ((w11) (a1)) ∧ ((w11) (a1)) ≤ 65536 ∧ (tc151_0) ≤ ((((w11) (a1) - x13_2) - 8)) ∧ (tc180_0) = (1))) → Ew 87 (d + 1) 180 ls [I (tc180_0)] σ c s Q := by
             as_aux_lemma =>
              intro tc180_0 ls σ F_c180 A_c180  lc180_0 lc180_1 lc180_2 lc180_5 H hS_c180 hA_c180   jc180_0 jc180_1
              refine Ew_of (pcₚ := 181) (fun _ => x_istore_n rfl) ?_
              refine Ew_of (pcₚ := 182) (fun _ => x_iload_n rfl rk_s) ?_
              refine w_ifeq (t := 196) rfl rfl (show inr (tc180_0) from jc180_0) (fun b45 => ?_) (fun b45 => ?_)
              · refine Ew_of (pcₚ := 197) (fun _ => x_iload_n rfl (rk_o (lc180_2) rfl rfl)) ?_
                refine Ew_of (pcₚ := 198) (fun _ => x_istore_n rfl) ?_
                refine Ew_of (pcₚ := 13) (fun _ => x_goto rfl rfl) ?_
                have : KNO (rwR ((w10)) ((w11)) ((a1))) ((x13_2)) := by first | exact KNO_s j13_k (by omega) (by omega) (k151 (by omega)) (by omega) (by omega) | exact j13_k
                have : IMP (((tc180_0) : Int) = 0) (¬ ((x13_2) + 8 ≤ ((rwR ((w10)) ((w11)) ((a1))).length : Int) ∧ 407710288 ≤ nvl (ap (rwR ((w10)) ((w11)) ((a1)))) ((x13_2)) 4 ∧ nvl (ap (rwR ((w10)) ((w11)) ((a1)))) ((x13_2)) 4 ≤ 407710303 ∧ nvl (ap (rwR ((w10)) ((w11)) ((a1)))) ((x13_2) + 4) 4 ≤ ((rwR ((w10)) ((w11)) ((a1))).length : Int) - (x13_2) - 8)) := by first | exact fun q => absurd q (by omega) | exact fun _ w => by obtain ⟨w1, w2, w3, w4⟩ := w; first | omega | (have := k151 (by omega); omega)
                exact ih13 _ (by omega) _ σ _ _ (x13_2) (tc180_0) (rk_o (rk_o (lc180_0) rfl rfl) rfl rfl) (rk_o (rk_o (lc180_1) rfl rfl) rfl rfl) (rk_s) (rk_o (rk_s) rfl rfl) H (SF_trans (SF_trans (SF_trans (hS_13) hS_c82 (any_sub rfl)) hS_c151 (any_sub rfl)) hS_c180 (any_sub rfl)) (SA_trans (SA_trans (SA_trans (hA_13) hA_c82 (any_subA rfl)) hA_c151 (any_subA rfl)) hA_c180 (any_subA rfl))   (show inr (x13_2) from j13_0) (show inr (tc180_0) from jc180_0) (show (tc180_0) = 0 ∨ (tc180_0) = 1 from q_750 b45) (show 0 ≤ (x13_2) ∧ (x13_2) ≤ ((w11)) ((a1)) ∧ ((w11)) ((a1)) ≤ 65536 from j13_3) (j13_k) (show IMP (((tc180_0) : Int) = 0) (¬ ((x13_2) + 8 ≤ ((rwR ((w10)) ((w11)) ((a1))).length : Int) ∧ 407710288 ≤ nvl (ap (rwR ((w10)) ((w11)) ((a1)))) ((x13_2)) 4 ∧ nvl (ap (rwR ((w10)) ((w11)) ((a1)))) ((x13_2)) 4 ≤ 407710303 ∧ nvl (ap (rwR ((w10)) ((w11)) ((a1)))) ((x13_2) + 4) 4 ≤ ((rwR ((w10)) ((w11)) ((a1))).length : Int) - (x13_2) - 8)) by assumption) rfl
              · refine Ew_of (pcₚ := 186) (fun _ => x_iload_n rfl (rk_o (lc180_2) rfl rfl)) ?_
                refine Ew_of (pcₚ := 188) (fun _ => x_bipush (z := 8) rfl (by decide)) ?_
                refine w_iadd rfl ?_
                refine Ew_of (pcₚ := 191) (fun _ => x_lload rfl (rk_o (lc180_5) rfl rfl)) ?_
                refine w_l2i rfl ?_
                refine w_iadd rfl ?_
                refine Ew_of (pcₚ := 197) (fun _ => x_goto rfl rfl) ?_
                refine Ew_of (pcₚ := 198) (fun _ => x_istore_n rfl) ?_
                refine Ew_of (pcₚ := 13) (fun _ => x_goto rfl rfl) ?_
                have : KNO (rwR ((w10)) ((w11)) ((a1))) ((((x13_2 + 8) + tc151_0))) := by first | exact KNO_s j13_k (by omega) (by omega) (k151 (by omega)) (by omega) (by omega) | exact j13_k
                have : IMP (((tc180_0) : Int) = 0) (¬ ((((x13_2 + 8) + tc151_0)) + 8 ≤ ((rwR ((w10)) ((w11)) ((a1))).length : Int) ∧ 407710288 ≤ nvl (ap (rwR ((w10)) ((w11)) ((a1)))) ((((x13_2 + 8) + tc151_0))) 4 ∧ nvl (ap (rwR ((w10)) ((w11)) ((a1)))) ((((x13_2 + 8) + tc151_0))) 4 ≤ 407710303 ∧ nvl (ap (rwR ((w10)) ((w11)) ((a1)))) ((((x13_2 + 8) + tc151_0)) + 4) 4 ≤ ((rwR ((w10)) ((w11)) ((a1))).length : Int) - (((x13_2 + 8) + tc151_0)) - 8)) := by first | exact fun q => absurd q (by omega) | exact fun _ w => by obtain ⟨w1, w2, w3, w4⟩ := w; first | omega | (have := k151 (by omega); omega)
                exact ih13 _ (by omega) _ σ _ _ (((x13_2 + 8) + tc151_0)) (tc180_0) (rk_o (rk_o (lc180_0) rfl rfl) rfl rfl) (rk_o (rk_o (lc180_1) rfl rfl) rfl rfl) (rk_s) (rk_o (rk_s) rfl rfl) H (SF_trans (SF_trans (SF_trans (hS_13) hS_c82 (any_sub rfl)) hS_c151 (any_sub rfl)) hS_c180 (any_sub rfl)) (SA_trans (SA_trans (SA_trans (hA_13) hA_c82 (any_subA rfl)) hA_c151 (any_subA rfl)) hA_c180 (any_subA rfl))   (show inr (((x13_2 + 8) + tc151_0)) by omega) (show inr (tc180_0) from jc180_0) (show (tc180_0) = 0 ∨ (tc180_0) = 1 by omega) (show 0 ≤ (((x13_2 + 8) + tc151_0)) ∧ (((x13_2 + 8) + tc151_0)) ≤ ((w11)) ((a1)) ∧ ((w11)) ((a1)) ≤ 65536 by omega) (show KNO (rwR ((w10)) ((w11)) ((a1))) ((((x13_2 + 8) + tc151_0))) by assumption) (show IMP (((tc180_0) : Int) = 0) (¬ ((((x13_2 + 8) + tc151_0)) + 8 ≤ ((rwR ((w10)) ((w11)) ((a1))).length : Int) ∧ 407710288 ≤ nvl (ap (rwR ((w10)) ((w11)) ((a1)))) ((((x13_2 + 8) + tc151_0))) 4 ∧ nvl (ap (rwR ((w10)) ((w11)) ((a1)))) ((((x13_2 + 8) + tc151_0))) 4 ≤ 407710303 ∧ nvl (ap (rwR ((w10)) ((w11)) ((a1)))) ((((x13_2 + 8) + tc151_0)) + 4) 4 ≤ ((rwR ((w10)) ((w11)) ((a1))).length : Int) - (((x13_2 + 8) + tc151_0)) - 8)) by assumption) rfl
            refine w_ifeq (t := 179) rfl rfl (show inr (tc82_0) from jc82_0) (fun b46 => ?_) (fun b46 => ?_)
            · refine Ew_of (pcₚ := 180) (fun _ => x_iconst rfl) ?_
              exact hc180 (0) _ σ _ _  (rk2_o (lc151_0) rfl rfl) (rk2_o (lc151_1) rfl rfl) (rk2_o (lc151_2) rfl rfl) (rk2_s) H (SF_refl) (SA_refl)   (show inr (0) from q_2) (show ((tc82_0) = (0) ∧ (0) = (0)) ∨ ((tc82_0) ≠ (0) ∧ 0 ≤ ((w11) (a1)) ∧ ((w11) (a1)) ≤ 65536 ∧ (tc151_0) > ((((w11) (a1) - x13_2) - 8)) ∧ (0) = (0)) ∨ ((tc82_0) ≠ (0) ∧ 0 ≤ ((w11) (a1)) ∧ ((w11) (a1)) ≤ 65536 ∧ (tc151_0) ≤ ((((w11) (a1) - x13_2) - 8)) ∧ (0) = (1)) from q_2335 b46)
            · refine Ew_of (pcₚ := 159) (fun _ => x_lload rfl rk2_s) ?_
              refine Ew_of (pcₚ := 160) (fun _ => x_aload_n rfl (rk2_o (lc151_0) rfl rfl)) ?_
              refine w_gT H (o := 0) (t := 11) rfl (H.perm 0 rfl) rfl rfl rfl rfl rfl rfl ?_
              refine Ew_of (pcₚ := 164) (fun _ => x_iload_n rfl (rk2_o (lc151_1) rfl rfl)) ?_
              refine w_lI H (o := 11) (n := 4) rfl (H.perm 11 rfl) rfl rfl (H.fix 11 rfl rfl) (show 0 ≤ a1 ∧ a1 < ((4 : Nat) : Int) by omega) (by decide) (fun v47 ev47 qv47 => ?_)
              have qv47 : (0 : Int) ≤ v47 ∧ v47 ≤ 65536 := qv47
              have ev47 : (w11) (a1) = v47 := (congrFun ((funext (hA_c151 11 rfl)).trans ((funext (hA_c82 11 rfl)).trans ((funext (hA_13 11 rfl)).trans ((funext (hA4 11 rfl)).trans (ew11))))) (a1)).symm.trans ev47
              refine Ew_of (pcₚ := 166) (fun _ => x_iload_n rfl (rk2_o (lc151_2) rfl rfl)) ?_
              refine w_isub rfl ?_
              refine Ew_of (pcₚ := 169) (fun _ => x_bipush (z := 8) rfl (by decide)) ?_
              refine w_isub rfl ?_
              refine w_i2l rfl (show inr (((v47 - x13_2) - 8)) from q_2336 ev47 j13_3 qv47) ?_
              refine w_lcmp rfl (show inrJ (tc151_0) from jc151_0) (show inrJ (((v47 - x13_2) - 8)) from q_2337 ev47 j13_3 qv47) (fun z48 gz48 gaz48 gbz48 => ?_)
              refine w_ifgt (t := 179) rfl rfl (show inr (z48) from gz48) (fun b49 => ?_) (fun b49 => ?_)
              · refine Ew_of (pcₚ := 180) (fun _ => x_iconst rfl) ?_
                exact hc180 (0) _ σ _ _  (rk2_o (lc151_0) rfl rfl) (rk2_o (lc151_1) rfl rfl) (rk2_o (lc151_2) rfl rfl) (rk2_s) H (SF_refl) (SA_refl)   (show inr (0) from q_2) (show ((tc82_0) = (0) ∧ (0) = (0)) ∨ ((tc82_0) ≠ (0) ∧ 0 ≤ ((w11) (a1)) ∧ ((w11) (a1)) ≤ 65536 ∧ (tc151_0) > ((((w11) (a1) - x13_2) - 8)) ∧ (0) = (0)) ∨ ((tc82_0) ≠ (0) ∧ 0 ≤ ((w11) (a1)) ∧ ((w11) (a1)) ≤ 65536 ∧ (tc151_0) ≤ ((((w11) (a1) - x13_2) - 8)) ∧ (0) = (1)) by omega)
              · refine Ew_of (pcₚ := 176) (fun _ => x_iconst rfl) ?_
                refine Ew_of (pcₚ := 180) (fun _ => x_goto rfl rfl) ?_
                exact hc180 (1) _ σ _ _  (rk2_o (lc151_0) rfl rfl) (rk2_o (lc151_1) rfl rfl) (rk2_o (lc151_2) rfl rfl) (rk2_s) H (SF_refl) (SA_refl)   (show inr (1) from q_135) (show ((tc82_0) = (0) ∧ (1) = (0)) ∨ ((tc82_0) ≠ (0) ∧ 0 ≤ ((w11) (a1)) ∧ ((w11) (a1)) ≤ 65536 ∧ (tc151_0) > ((((w11) (a1) - x13_2) - 8)) ∧ (1) = (0)) ∨ ((tc82_0) ≠ (0) ∧ 0 ≤ ((w11) (a1)) ∧ ((w11) (a1)) ≤ 65536 ∧ (tc151_0) ≤ ((((w11) (a1) - x13_2) - 8)) ∧ (1) = (1)) by omega)
          refine Ew_of (pcₚ := 92) (fun _ => x_iload_n rfl (rk_o (rk_s) rfl rfl)) ?_
          refine w_ifeq (t := 150) rfl rfl (show inr (tc82_0) from jc82_0) (fun b50 => ?_) (fun b50 => ?_)
          · refine Ew_of (pcₚ := 151) (fun _ => x_lconst (z := 0) rfl (by decide)) ?_
            have : IMP (((tc82_0) : Int) = 1) (nvl (ap (rwR ((w10)) ((w11)) ((a1)))) ((x13_2) + 4) 4 = (0)) := by first | exact fun q => absurd q (by omega) | exact fun _ => hN8.trans hor.symm
            exact hc151 (0) _ σ _ _  (rk_o (rk_o (lc82_0) rfl rfl) rfl rfl) (rk_o (rk_o (lc82_1) rfl rfl) rfl rfl) (rk_o (rk_o (lc82_2) rfl rfl) rfl rfl) (rk_o (rk_s) rfl rfl) H (SF_refl) (SA_refl)   (show inrJ (0) from q_340) (show 0 ≤ (0) ∧ (0) ≤ 4294967295 from q_5020) (show IMP (((tc82_0) : Int) = 1) (nvl (ap (rwR ((w10)) ((w11)) ((a1)))) ((x13_2) + 4) 4 = (0)) by assumption)
          · have hR4 := hRo (65536 * (a1) + (x13_2) + 4)
            have hR5 := hRo (65536 * (a1) + (x13_2) + 5)
            have hR6 := hRo (65536 * (a1) + (x13_2) + 6)
            have hR7 := hRo (65536 * (a1) + (x13_2) + 7)
            refine Ew_of (pcₚ := 96) (fun _ => x_aload_n rfl (rk_o (rk_o (lc82_0) rfl rfl) rfl rfl)) ?_
            refine w_gT H (o := 0) (t := 10) rfl (H.perm 0 rfl) rfl rfl rfl rfl rfl rfl ?_
            refine Ew_of (pcₚ := 101) (fun _ => x_iload rfl rk_s) ?_
            refine Ew_of (pcₚ := 102) (fun _ => x_iconst rfl) ?_
            refine w_iadd rfl ?_
            refine w_lI H (o := 10) (n := 262144) rfl (H.perm 10 rfl) rfl rfl (H.fix 10 rfl rfl) (show 0 ≤ (((65536 * a1) + x13_2) + 4) ∧ (((65536 * a1) + x13_2) + 4) < ((262144 : Nat) : Int) by omega) (by decide) (fun v51 ev51 qv51 => ?_)
            have qv51 : (0 : Int) ≤ v51 ∧ v51 ≤ 255 := qv51
            have ev51 : (w10) ((((65536 * a1) + x13_2) + 4)) = v51 := (congrFun ((funext (hA_c82 10 rfl)).trans ((funext (hA_13 10 rfl)).trans ((funext (hA4 10 rfl)).trans (ew10)))) ((((65536 * a1) + x13_2) + 4))).symm.trans ev51
            have hb4 := ev51
            refine Ew_of (pcₚ := 105) (fun _ => x_aload_n rfl (rk_o (rk_o (lc82_0) rfl rfl) rfl rfl)) ?_
            refine w_gT H (o := 0) (t := 10) rfl (H.perm 0 rfl) rfl rfl rfl rfl rfl rfl ?_
            refine Ew_of (pcₚ := 110) (fun _ => x_iload rfl rk_s) ?_
            refine Ew_of (pcₚ := 111) (fun _ => x_iconst rfl) ?_
            refine w_iadd rfl ?_
            refine w_lI H (o := 10) (n := 262144) rfl (H.perm 10 rfl) rfl rfl (H.fix 10 rfl rfl) (show 0 ≤ (((65536 * a1) + x13_2) + 5) ∧ (((65536 * a1) + x13_2) + 5) < ((262144 : Nat) : Int) by omega) (by decide) (fun v52 ev52 qv52 => ?_)
            have qv52 : (0 : Int) ≤ v52 ∧ v52 ≤ 255 := qv52
            have ev52 : (w10) ((((65536 * a1) + x13_2) + 5)) = v52 := (congrFun ((funext (hA_c82 10 rfl)).trans ((funext (hA_13 10 rfl)).trans ((funext (hA4 10 rfl)).trans (ew10)))) ((((65536 * a1) + x13_2) + 5))).symm.trans ev52
            have hb5 := ev52
            refine Ew_of (pcₚ := 115) (fun _ => x_bipush (z := 8) rfl (by decide)) ?_
            refine w_ishlT rfl (show 0 ≤ 8 ∧ 8 ≤ 31 from q_2497) ?_
            refine w_iorE rfl ?_
            have g54 : inr (orI (v51) ((v52 * p2 (8)))) := toI_inr _
            refine Ew_of (pcₚ := 118) (fun _ => x_aload_n rfl (rk_o (rk_o (lc82_0) rfl rfl) rfl rfl)) ?_
            refine w_gT H (o := 0) (t := 10) rfl (H.perm 0 rfl) rfl rfl rfl rfl rfl rfl ?_
            refine Ew_of (pcₚ := 123) (fun _ => x_iload rfl rk_s) ?_
            refine Ew_of (pcₚ := 125) (fun _ => x_bipush (z := 6) rfl (by decide)) ?_
            refine w_iadd rfl ?_
            refine w_lI H (o := 10) (n := 262144) rfl (H.perm 10 rfl) rfl rfl (H.fix 10 rfl rfl) (show 0 ≤ (((65536 * a1) + x13_2) + 6) ∧ (((65536 * a1) + x13_2) + 6) < ((262144 : Nat) : Int) by omega) (by decide) (fun v55 ev55 qv55 => ?_)
            have qv55 : (0 : Int) ≤ v55 ∧ v55 ≤ 255 := qv55
            have ev55 : (w10) ((((65536 * a1) + x13_2) + 6)) = v55 := (congrFun ((funext (hA_c82 10 rfl)).trans ((funext (hA_13 10 rfl)).trans ((funext (hA4 10 rfl)).trans (ew10)))) ((((65536 * a1) + x13_2) + 6))).symm.trans ev55
            have hb6 := ev55
            refine Ew_of (pcₚ := 129) (fun _ => x_bipush (z := 16) rfl (by decide)) ?_
            refine w_ishlT rfl (show 0 ≤ 16 ∧ 16 ≤ 31 from q_2220) ?_
            refine w_iorE rfl ?_
            have g57 : inr (orI ((orI (v51) ((v52 * p2 (8))))) ((v55 * p2 (16)))) := toI_inr _
            refine w_i2l rfl (show inr ((orI ((orI (v51) ((v52 * p2 (8))))) ((v55 * p2 (16))))) from g57) ?_
            refine Ew_of (pcₚ := 133) (fun _ => x_aload_n rfl (rk_o (rk_o (lc82_0) rfl rfl) rfl rfl)) ?_
            refine w_gT H (o := 0) (t := 10) rfl (H.perm 0 rfl) rfl rfl rfl rfl rfl rfl ?_
            refine Ew_of (pcₚ := 138) (fun _ => x_iload rfl rk_s) ?_
            refine Ew_of (pcₚ := 140) (fun _ => x_bipush (z := 7) rfl (by decide)) ?_
            refine w_iadd rfl ?_
            refine w_lI H (o := 10) (n := 262144) rfl (H.perm 10 rfl) rfl rfl (H.fix 10 rfl rfl) (show 0 ≤ (((65536 * a1) + x13_2) + 7) ∧ (((65536 * a1) + x13_2) + 7) < ((262144 : Nat) : Int) by omega) (by decide) (fun v58 ev58 qv58 => ?_)
            have qv58 : (0 : Int) ≤ v58 ∧ v58 ≤ 255 := qv58
            have ev58 : (w10) ((((65536 * a1) + x13_2) + 7)) = v58 := (congrFun ((funext (hA_c82 10 rfl)).trans ((funext (hA_13 10 rfl)).trans ((funext (hA4 10 rfl)).trans (ew10)))) ((((65536 * a1) + x13_2) + 7))).symm.trans ev58
            have hb7 := ev58
            refine w_i2l rfl (show inr (v58) from q_299 qv58) ?_
            refine Ew_of (pcₚ := 145) (fun _ => x_bipush (z := 24) rfl (by decide)) ?_
            refine w_lshlT rfl (show 0 ≤ 24 ∧ 24 ≤ 63 from q_5021) ?_
            refine w_lorE rfl ?_
            have g60 : inrJ (orJ ((orI ((orI (v51) ((v52 * p2 (8))))) ((v55 * p2 (16))))) ((v58 * p2 (24)))) := toJ_inr _
            have hN8 := nv4v (ro := (w10)) (si := (w11)) (r := (a1)) (a := (x13_2) + 4) (by omega) (by omega) hRo hb4 (by omega) hb5 (by omega) hb6 (by omega) hb7 (by omega)
            obtain ⟨qo, hqo⟩ : ∃ q : Int, q = ((orJ ((orI ((orI (v51) ((v52 * p2 (8))))) ((v55 * p2 (16))))) ((v58 * p2 (24))))) := ⟨_, rfl⟩
            rw [← hqo]
            have gqo : inrJ qo := by rw [hqo]; first | assumption | omega
            replace hqo : IMP True (qo = ((orJ ((orI ((orI (v51) ((v52 * p2 (8))))) ((v55 * p2 (16))))) ((v58 * p2 (24)))))) := fun _ => hqo
            try clear g60
            try clear g57
            try clear g54
            have hor : qo = _ := (hqo trivial).trans (kn_or (by omega) (by omega) (by omega) (by omega))
            refine Ew_of (pcₚ := 151) (fun _ => x_goto rfl rfl) ?_
            have : IMP (((tc82_0) : Int) = 1) (nvl (ap (rwR ((w10)) ((w11)) ((a1)))) ((x13_2) + 4) 4 = (qo)) := by first | exact fun q => absurd q (by omega) | exact fun _ => hN8.trans hor.symm
            exact hc151 (qo) _ σ _ _  (rk_o (rk_o (lc82_0) rfl rfl) rfl rfl) (rk_o (rk_o (lc82_1) rfl rfl) rfl rfl) (rk_o (rk_o (lc82_2) rfl rfl) rfl rfl) (rk_o (rk_s) rfl rfl) H (SF_refl) (SA_refl)   (show inrJ (qo) from gqo) (show 0 ≤ (qo) ∧ (qo) ≤ 4294967295 by omega) (show IMP (((tc82_0) : Int) = 1) (nvl (ap (rwR ((w10)) ((w11)) ((a1)))) ((x13_2) + 4) 4 = (qo)) by assumption)
        refine Ew_of (pcₚ := 18) (fun _ => x_iload_n rfl l13_2) ?_
        refine Ew_of (pcₚ := 20) (fun _ => x_bipush (z := 8) rfl (by decide)) ?_
        refine w_iadd rfl ?_
        refine Ew_of (pcₚ := 22) (fun _ => x_aload_n rfl l13_0) ?_
        refine w_gT H (o := 0) (t := 11) rfl (H.perm 0 rfl) rfl rfl rfl rfl rfl rfl ?_
        refine Ew_of (pcₚ := 26) (fun _ => x_iload_n rfl l13_1) ?_
        refine w_lI H (o := 11) (n := 4) rfl (H.perm 11 rfl) rfl rfl (H.fix 11 rfl rfl) (show 0 ≤ a1 ∧ a1 < ((4 : Nat) : Int) by omega) (by decide) (fun v61 ev61 qv61 => ?_)
        have qv61 : (0 : Int) ≤ v61 ∧ v61 ≤ 65536 := qv61
        have ev61 : (w11) (a1) = v61 := (congrFun ((funext (hA_13 11 rfl)).trans ((funext (hA4 11 rfl)).trans (ew11))) (a1)).symm.trans ev61
        refine w_icmpgt (t := 81) rfl rfl (show inr ((x13_2 + 8)) from q_2339 j13_3) (show inr (v61) from q_286 qv61) (fun b62 => ?_) (fun b62 => ?_)
        · refine Ew_of (pcₚ := 82) (fun _ => x_iconst rfl) ?_
          exact hc82 (0) _ σ _ _  (l13_0) (l13_1) (l13_2) H (SF_refl) (SA_refl)   (show inr (0) from q_2) (show ((0) : Int) = 1 ∧ ((x13_2) + 8 ≤ ((w11)) ((a1)) ∧ 407710288 ≤ nvl (ap (rwR ((w10)) ((w11)) ((a1)))) ((x13_2)) 4 ∧ nvl (ap (rwR ((w10)) ((w11)) ((a1)))) ((x13_2)) 4 ≤ 407710303) ∨ ((0) : Int) = 0 ∧ ¬ ((x13_2) + 8 ≤ ((w11)) ((a1)) ∧ 407710288 ≤ nvl (ap (rwR ((w10)) ((w11)) ((a1)))) ((x13_2)) 4 ∧ nvl (ap (rwR ((w10)) ((w11)) ((a1)))) ((x13_2)) 4 ≤ 407710303) by omega)
        · have hN4 := nv4 (ro := (w10)) (si := (w11)) (r := (a1)) (a := (x13_2)) (by omega) (by omega) hRo
          have hR0 := hRo (65536 * (a1) + (x13_2))
          have hR1 := hRo (65536 * (a1) + (x13_2) + 1)
          have hR2 := hRo (65536 * (a1) + (x13_2) + 2)
          have hR3 := hRo (65536 * (a1) + (x13_2) + 3)
          refine Ew_of (pcₚ := 31) (fun _ => x_aload_n rfl l13_0) ?_
          refine w_gT H (o := 0) (t := 10) rfl (H.perm 0 rfl) rfl rfl rfl rfl rfl rfl ?_
          refine Ew_of (pcₚ := 36) (fun _ => x_ldc (z := 65536) rfl (by decide)) ?_
          refine Ew_of (pcₚ := 37) (fun _ => x_iload_n rfl l13_1) ?_
          refine w_imul rfl ?_
          refine Ew_of (pcₚ := 39) (fun _ => x_iload_n rfl l13_2) ?_
          refine w_iadd rfl ?_
          refine w_lI H (o := 10) (n := 262144) rfl (H.perm 10 rfl) rfl rfl (H.fix 10 rfl rfl) (show 0 ≤ ((65536 * a1) + x13_2) ∧ ((65536 * a1) + x13_2) < ((262144 : Nat) : Int) by omega) (by decide) (fun v63 ev63 qv63 => ?_)
          have qv63 : (0 : Int) ≤ v63 ∧ v63 ≤ 255 := qv63
          have ev63 : (w10) (((65536 * a1) + x13_2)) = v63 := (congrFun ((funext (hA_13 10 rfl)).trans ((funext (hA4 10 rfl)).trans (ew10))) (((65536 * a1) + x13_2))).symm.trans ev63
          have hv40 := ev63
          refine Ew_of (pcₚ := 43) (fun _ => x_bipush (z := 80) rfl (by decide)) ?_
          refine Ew_of (pcₚ := 45) (fun _ => x_bipush (z := 95) rfl (by decide)) ?_
          refine w_stat24 rfl rfl (by rfl) (M67p H (show inr (v63) from q_299 qv63) (show inr (80) from q_332) (show inr (95) from q_1923) (fun z68 σ F64 A65 H hS66 hA67 pz68_0 pz68_1 => ⟨rretB rfl pz68_0, ?_⟩))
          refine w_ifeq (t := 81) rfl rfl (show inr (z68) from q_138 pz68_0) (fun b69 => ?_) (fun b69 => ?_)
          · refine Ew_of (pcₚ := 82) (fun _ => x_iconst rfl) ?_
            exact hc82 (0) _ σ _ _  (l13_0) (l13_1) (l13_2) H (SF_trans (SF_refl) hS66 (any_sub rfl)) (SA_trans (SA_refl) hA67 (any_subA rfl))   (show inr (0) from q_2) (show ((0) : Int) = 1 ∧ ((x13_2) + 8 ≤ ((w11)) ((a1)) ∧ 407710288 ≤ nvl (ap (rwR ((w10)) ((w11)) ((a1)))) ((x13_2)) 4 ∧ nvl (ap (rwR ((w10)) ((w11)) ((a1)))) ((x13_2)) 4 ≤ 407710303) ∨ ((0) : Int) = 0 ∧ ¬ ((x13_2) + 8 ≤ ((w11)) ((a1)) ∧ 407710288 ≤ nvl (ap (rwR ((w10)) ((w11)) ((a1)))) ((x13_2)) 4 ∧ nvl (ap (rwR ((w10)) ((w11)) ((a1)))) ((x13_2)) 4 ≤ 407710303) by omega)
          · refine Ew_of (pcₚ := 52) (fun _ => x_aload_n rfl l13_0) ?_
            refine Ew_of (pcₚ := 53) (fun _ => x_iload_n rfl l13_1) ?_
            refine Ew_of (pcₚ := 54) (fun _ => x_iload_n rfl l13_2) ?_
            refine Ew_of (pcₚ := 55) (fun _ => x_aload_n rfl l13_0) ?_
            refine w_gT H (o := 0) (t := 10) rfl (H.perm 0 rfl) rfl rfl rfl rfl rfl rfl ?_
            refine Ew_of (pcₚ := 60) (fun _ => x_ldc (z := 65536) rfl (by decide)) ?_
            refine Ew_of (pcₚ := 61) (fun _ => x_iload_n rfl l13_1) ?_
            refine w_imul rfl ?_
            refine Ew_of (pcₚ := 63) (fun _ => x_iload_n rfl l13_2) ?_
            refine w_iadd rfl ?_
            refine w_lI H (o := 10) (n := 262144) rfl (H.perm 10 rfl) rfl rfl (H.fix 10 rfl rfl) (show 0 ≤ ((65536 * a1) + x13_2) ∧ ((65536 * a1) + x13_2) < ((262144 : Nat) : Int) by omega) (by decide) (fun v70 ev70 qv70 => ?_)
            have qv70 : (0 : Int) ≤ v70 ∧ v70 ≤ 255 := qv70
            have ev70 : (w10) (((65536 * a1) + x13_2)) = v70 := (congrFun ((funext (hA67 10 rfl)).trans ((funext (hA_13 10 rfl)).trans ((funext (hA4 10 rfl)).trans (ew10)))) (((65536 * a1) + x13_2))).symm.trans ev70
            have hv64 := ev70
            refine Ew_of (pcₚ := 67) (fun _ => x_bipush (z := 42) rfl (by decide)) ?_
            refine Ew_of (pcₚ := 69) (fun _ => x_bipush (z := 77) rfl (by decide)) ?_
            refine Ew_of (pcₚ := 71) (fun _ => x_bipush (z := 24) rfl (by decide)) ?_
            refine w_inv H (o := 0) rfl rfl rfl (H.perm 0 rfl) rfl rfl (by rfl) (M86p H (w10) ((funext (hA67 10 rfl)).trans ((funext (hA_13 10 rfl)).trans ((funext (hA4 10 rfl)).trans (ew10)))) (w11) ((funext (hA67 11 rfl)).trans ((funext (hA_13 11 rfl)).trans ((funext (hA4 11 rfl)).trans (ew11)))) (show inr (a1) from h0) (show inr (x13_2) from j13_0) (show inr (v70) from q_299 qv70) (show inr (42) from q_1532) (show inr (77) from q_1925) (show inr (24) from q_1514) (show 0 ≤ (a1) ∧ (a1) ≤ 3 ∧ 0 ≤ (x13_2) ∧ (x13_2) ≤ 65540 by omega) (show 0 ≤ (v70) ∧ (v70) ≤ 255 from qv70) (show 0 ≤ (42) ∧ (42) ≤ 255 from q_5022) (show 0 ≤ (77) ∧ (77) ≤ 255 from q_5007) (show 0 ≤ (24) ∧ (24) ≤ 255 from q_5006) (fun z75 σ F71 A72 H hS73 hA74 pz75_0 pz75_1 => ⟨rretB rfl pz75_0, ?_⟩))
            refine w_ifeq (t := 81) rfl rfl (show inr (z75) from q_138 pz75_0) (fun b76 => ?_) (fun b76 => ?_)
            · refine Ew_of (pcₚ := 82) (fun _ => x_iconst rfl) ?_
              exact hc82 (0) _ σ _ _  (l13_0) (l13_1) (l13_2) H (SF_trans (SF_trans (SF_refl) hS66 (any_sub rfl)) hS73 (any_sub rfl)) (SA_trans (SA_trans (SA_refl) hA67 (any_subA rfl)) hA74 (any_subA rfl))   (show inr (0) from q_2) (show ((0) : Int) = 1 ∧ ((x13_2) + 8 ≤ ((w11)) ((a1)) ∧ 407710288 ≤ nvl (ap (rwR ((w10)) ((w11)) ((a1)))) ((x13_2)) 4 ∧ nvl (ap (rwR ((w10)) ((w11)) ((a1)))) ((x13_2)) 4 ≤ 407710303) ∨ ((0) : Int) = 0 ∧ ¬ ((x13_2) + 8 ≤ ((w11)) ((a1)) ∧ 407710288 ≤ nvl (ap (rwR ((w10)) ((w11)) ((a1)))) ((x13_2)) 4 ∧ nvl (ap (rwR ((w10)) ((w11)) ((a1)))) ((x13_2)) 4 ≤ 407710303) by omega)
            · refine Ew_of (pcₚ := 78) (fun _ => x_iconst rfl) ?_
              refine Ew_of (pcₚ := 82) (fun _ => x_goto rfl rfl) ?_
              exact hc82 (1) _ σ _ _  (l13_0) (l13_1) (l13_2) H (SF_trans (SF_trans (SF_refl) hS66 (any_sub rfl)) hS73 (any_sub rfl)) (SA_trans (SA_trans (SA_refl) hA67 (any_subA rfl)) hA74 (any_subA rfl))   (show inr (1) from q_135) (show ((1) : Int) = 1 ∧ ((x13_2) + 8 ≤ ((w11)) ((a1)) ∧ 407710288 ≤ nvl (ap (rwR ((w10)) ((w11)) ((a1)))) ((x13_2)) 4 ∧ nvl (ap (rwR ((w10)) ((w11)) ((a1)))) ((x13_2)) 4 ≤ 407710303) ∨ ((1) : Int) = 0 ∧ ¬ ((x13_2) + 8 ≤ ((w11)) ((a1)) ∧ 407710288 ≤ nvl (ap (rwR ((w10)) ((w11)) ((a1)))) ((x13_2)) 4 ∧ nvl (ap (rwR ((w10)) ((w11)) ((a1)))) ((x13_2)) 4 ≤ 407710303) by omega)
  · refine Ew_of (pcₚ := 8) (fun _ => x_iconst rfl) ?_
    have : ((0 ≤ (a1) ∧ (a1) ≤ 3) ∧ (-1 : Int) = knF (rwR ((w10)) ((w11)) ((a1))) ∨ ¬ (0 ≤ (a1) ∧ (a1) ≤ 3) ∧ (-1 : Int) = -1) := .inr ⟨by omega, rfl⟩
    exact w_ireturn rfl (k ((-1)) σ _ _ H (SF_trans (SF_refl) hS3 (any_sub rfl)) (SA_trans (SA_refl) hA4 (any_subA rfl)) (show inr ((-1)) from q_63) (show -1 ≤ ((-1)) ∧ ((-1)) ≤ 5 ∧ ((-1)) ≠ 2 by first | exact q_2343 | omega) (show ((0 ≤ a1 ∧ a1 ≤ 3) ∧ (((-1)) : Int) = knF (rwR ((w10)) ((w11)) (a1)) ∨ ¬ (0 ≤ a1 ∧ a1 ≤ 3) ∧ (((-1)) : Int) = -1) by assumption))


end
section
/-! 99g.ref -/
theorem M88p {σ0 σ : rS} {D N : Nat → Nat} {F : hF} {A : hA} {d c s : Nat} {Q : wQ} (H : HS σ0 σ D N F A) {a1 a2 a3 : Int} (u0_9 : Int) (eu0_9 : F 0 9 = u0_9) (u3_2 : Int) (eu3_2 : F 3 2 = u3_2) (u5_2 : Int) (eu5_2 : F 5 2 = u5_2) (u5_3 : Int) (eu5_3 : F 5 3 = u5_3) (u5_4 : Int) (eu5_4 : F 5 4 = u5_4) (u5_27 : Int) (eu5_27 : F 5 27 = u5_27) (u5_32 : Int) (eu5_32 : F 5 32 = u5_32) (u5_33 : Int) (eu5_33 : F 5 33 = u5_33) (u5_34 : Int) (eu5_34 : F 5 34 = u5_34) (u5_36 : Int) (eu5_36 : F 5 36 = u5_36) (w10 : Int → Int) (ew10 : A 10 = w10) (w11 : Int → Int) (ew11 : A 11 = w11) (w16 : Int → Int) (ew16 : A 16 = w16) (w26 : Int → Int) (ew26 : A 26 = w26) (w27 : Int → Int) (ew27 : A 27 = w27) (w28 : Int → Int) (ew28 : A 28 = w28) (w29 : Int → Int) (ew29 : A 29 = w29) (w30 : Int → Int) (ew30 : A 30 = w30) (w34 : Int → Int) (ew34 : A 34 = w34) (w35 : Int → Int) (ew35 : A 35 = w35) (w36 : Int → Int) (ew36 : A 36 = w36) (w37 : Int → Int) (ew37 : A 37 = w37) (Dc : DcS) (h0 : inr (a1)) (h1 : inr (a2)) (h2 : inr (a3)) (h3 : RT ((w35)) ((w36)) ((w37)) ((w34))) (h4 : DI ((u5_4)) ((w27)) ((w28)) ((w29)) ((w30))) (h5 : RDI Dc ((u5_4)) ((u5_3)) ((w26)) ((u5_2)) ((w27)) ((w28)) ((w29)) ((w30))) (h6 : DCo Dc) (k : ∀ (z : Int) σ Fₚ Aₚ, HS σ0 σ D N Fₚ Aₚ → SF [(0, 9), (1, 1), (1, 3), (1, 4), (3, 12), (3, 14), (3, 15), (3, 16), (4, 2), (4, 8), (4, 9), (4, 10), (4, 11), (5, 10), (5, 19), (5, 25), (5, 26), (5, 27), (5, 28), (5, 29), (5, 30), (5, 31), (5, 32), (5, 33), (5, 34), (5, 35), (5, 36), (5, 39), (5, 40), (5, 41), (5, 42), (5, 43), (5, 44), (5, 45)] F Fₚ → SA [10, 11, 14, 15, 17, 21, 22, 23, 31, 32, 33, 34, 35, 36, 37, 38, 39, 40, 41, 42, 43, 44, 45, 46, 47] A Aₚ → ∀ y0_9 : Int, Fₚ 0 9 = y0_9 → ∀ y5_27 : Int, Fₚ 5 27 = y5_27 → ∀ y5_32 : Int, Fₚ 5 32 = y5_32 → ∀ y5_33 : Int, Fₚ 5 33 = y5_33 → ∀ y5_34 : Int, Fₚ 5 34 = y5_34 → ∀ y5_36 : Int, Fₚ 5 36 = y5_36 → ∀ v10 : Int → Int, Aₚ 10 = v10 → ∀ v11 : Int → Int, Aₚ 11 = v11 → ∀ v34 : Int → Int, Aₚ 34 = v34 → ∀ v35 : Int → Int, Aₚ 35 = v35 → ∀ v36 : Int → Int, Aₚ 36 = v36 → ∀ v37 : Int → Int, Aₚ 37 = v37 → (inr (z)) → (RT ((v35)) ((v36)) ((v37)) ((v34))) → (OPP (rwR ((w10)) ((w11))) (rwR ((v10)) ((v11))) ((a1)) ((a2)) ((a3)) (sc ((w16)) 0 ((u3_2))) Dc ((z)) ((u0_9)) ((y0_9)) ((u5_32), (u5_33), (u5_34), (u5_27), (u5_36)) ((y5_32), (y5_33), (y5_34), (y5_27), (y5_36))) → Q (some (I z)) σ c s) : Ew 88 (d + 13) 0 (rargs 0 [.ref (D 0), I a1, I a2, I a3]) [] σ c s Q := by
  have r1 : (-2147483648 : Int) ≤ u0_9 ∧ u0_9 ≤ 2147483647 := rngE (show (-2147483648 : Int) ≤ F 0 9 ∧ F 0 9 ≤ 2147483647 from H.frng 0 9) (show F 0 9 = u0_9 from (eu0_9))
  have r2 : (0 : Int) ≤ u3_2 ∧ u3_2 ≤ 65536 := rngE (show (0 : Int) ≤ F 3 2 ∧ F 3 2 ≤ 65536 from H.frng 3 2) (show F 3 2 = u3_2 from (eu3_2))
  have r3 : (0 : Int) ≤ u5_2 ∧ u5_2 ≤ 65536 := rngE (show (0 : Int) ≤ F 5 2 ∧ F 5 2 ≤ 65536 from H.frng 5 2) (show F 5 2 = u5_2 from (eu5_2))
  have r4 : (-2147483648 : Int) ≤ u5_3 ∧ u5_3 ≤ 2147483647 := rngE (show (-2147483648 : Int) ≤ F 5 3 ∧ F 5 3 ≤ 2147483647 from H.frng 5 3) (show F 5 3 = u5_3 from (eu5_3))
  have r5 : (0 : Int) ≤ u5_4 ∧ u5_4 ≤ 1 := rngE (show (0 : Int) ≤ F 5 4 ∧ F 5 4 ≤ 1 from H.frng 5 4) (show F 5 4 = u5_4 from (eu5_4))
  have r6 : (0 : Int) ≤ u5_27 ∧ u5_27 ≤ 65536 := rngE (show (0 : Int) ≤ F 5 27 ∧ F 5 27 ≤ 65536 from H.frng 5 27) (show F 5 27 = u5_27 from (eu5_27))
  have r7 : (-2147483648 : Int) ≤ u5_32 ∧ u5_32 ≤ 2147483647 := rngE (show (-2147483648 : Int) ≤ F 5 32 ∧ F 5 32 ≤ 2147483647 from H.frng 5 32) (show F 5 32 = u5_32 from (eu5_32))
  have r8 : (-2147483648 : Int) ≤ u5_33 ∧ u5_33 ≤ 2147483647 := rngE (show (-2147483648 : Int) ≤ F 5 33 ∧ F 5 33 ≤ 2147483647 from H.frng 5 33) (show F 5 33 = u5_33 from (eu5_33))
  have r9 : (-2147483648 : Int) ≤ u5_34 ∧ u5_34 ≤ 2147483647 := rngE (show (-2147483648 : Int) ≤ F 5 34 ∧ F 5 34 ≤ 2147483647 from H.frng 5 34) (show F 5 34 = u5_34 from (eu5_34))
  have r10 : (-2147483648 : Int) ≤ u5_36 ∧ u5_36 ≤ 2147483647 := rngE (show (-2147483648 : Int) ≤ F 5 36 ∧ F 5 36 ≤ 2147483647 from H.frng 5 36) (show F 5 36 = u5_36 from (eu5_36))
  refine Ew_of (pcₚ := 1) (fun _ => x_iload_n rfl rfl) ?_
  refine w_stat24 rfl rfl (by rfl) (M56p H (show inr (a1) from h0) (fun z15 σ F11 A12 H hS13 hA14 pz15_0 pz15_1 => ⟨rretB rfl pz15_0, ?_⟩))
  refine w_ifeq (t := 24) rfl rfl (show inr (z15) from q_138 pz15_0) (fun b16 => ?_) (fun b16 => ?_)
  · refine Ew_of (pcₚ := 26) (fun _ => x_bipush (z := -50) rfl (by decide)) ?_
    have : OPP (rwR ((w10)) ((w11))) (rwR ((w10)) ((w11))) ((a1)) ((a2)) ((a3)) (sc ((w16)) 0 ((u3_2))) Dc (-50) ((u0_9)) ((u0_9)) ((u5_32), (u5_33), (u5_34), (u5_27), (u5_36)) ((u5_32), (u5_33), (u5_34), (u5_27), (u5_36)) := .inl ⟨fun q => by have := q.1; have := q.2.1; have := q.2.2; unfold okd at *; omega, rfl, fun _ _ _ => rfl, rfl, rfl⟩
    exact w_ireturn rfl (k ((-50)) σ _ _ H (SF_trans (SF_refl) hS13 (any_sub rfl)) (SA_trans (SA_refl) hA14 (any_subA rfl)) (u0_9) (((hS13 0 9 rfl).trans (eu0_9))) (u5_27) (((hS13 5 27 rfl).trans (eu5_27))) (u5_32) (((hS13 5 32 rfl).trans (eu5_32))) (u5_33) (((hS13 5 33 rfl).trans (eu5_33))) (u5_34) (((hS13 5 34 rfl).trans (eu5_34))) (u5_36) (((hS13 5 36 rfl).trans (eu5_36))) (w10) ((funext (hA14 10 rfl)).trans (ew10)) (w11) ((funext (hA14 11 rfl)).trans (ew11)) (w34) ((funext (hA14 34 rfl)).trans (ew34)) (w35) ((funext (hA14 35 rfl)).trans (ew35)) (w36) ((funext (hA14 36 rfl)).trans (ew36)) (w37) ((funext (hA14 37 rfl)).trans (ew37)) (show inr ((-50)) from q_2311) (h3) (show OPP (rwR ((w10)) ((w11))) (rwR ((w10)) ((w11))) (a1) (a2) (a3) (sc ((w16)) 0 ((u3_2))) Dc (((-50))) ((u0_9)) ((u0_9)) ((u5_32), (u5_33), (u5_34), (u5_27), (u5_36)) ((u5_32), (u5_33), (u5_34), (u5_27), (u5_36)) by assumption))
  · refine Ew_of (pcₚ := 8) (fun _ => x_iload_n rfl rfl) ?_
    refine w_stat24 rfl rfl (by rfl) (M56p H (show inr (a2) from h1) (fun z21 σ F17 A18 H hS19 hA20 pz21_0 pz21_1 => ⟨rretB rfl pz21_0, ?_⟩))
    refine w_ifeq (t := 24) rfl rfl (show inr (z21) from q_138 pz21_0) (fun b22 => ?_) (fun b22 => ?_)
    · refine Ew_of (pcₚ := 26) (fun _ => x_bipush (z := -50) rfl (by decide)) ?_
      have : OPP (rwR ((w10)) ((w11))) (rwR ((w10)) ((w11))) ((a1)) ((a2)) ((a3)) (sc ((w16)) 0 ((u3_2))) Dc (-50) ((u0_9)) ((u0_9)) ((u5_32), (u5_33), (u5_34), (u5_27), (u5_36)) ((u5_32), (u5_33), (u5_34), (u5_27), (u5_36)) := .inl ⟨fun q => by have := q.1; have := q.2.1; have := q.2.2; unfold okd at *; omega, rfl, fun _ _ _ => rfl, rfl, rfl⟩
      exact w_ireturn rfl (k ((-50)) σ _ _ H (SF_trans (SF_trans (SF_refl) hS13 (any_sub rfl)) hS19 (any_sub rfl)) (SA_trans (SA_trans (SA_refl) hA14 (any_subA rfl)) hA20 (any_subA rfl)) (u0_9) ((((hS19 0 9 rfl).trans (hS13 0 9 rfl)).trans (eu0_9))) (u5_27) ((((hS19 5 27 rfl).trans (hS13 5 27 rfl)).trans (eu5_27))) (u5_32) ((((hS19 5 32 rfl).trans (hS13 5 32 rfl)).trans (eu5_32))) (u5_33) ((((hS19 5 33 rfl).trans (hS13 5 33 rfl)).trans (eu5_33))) (u5_34) ((((hS19 5 34 rfl).trans (hS13 5 34 rfl)).trans (eu5_34))) (u5_36) ((((hS19 5 36 rfl).trans (hS13 5 36 rfl)).trans (eu5_36))) (w10) ((funext (hA20 10 rfl)).trans ((funext (hA14 10 rfl)).trans (ew10))) (w11) ((funext (hA20 11 rfl)).trans ((funext (hA14 11 rfl)).trans (ew11))) (w34) ((funext (hA20 34 rfl)).trans ((funext (hA14 34 rfl)).trans (ew34))) (w35) ((funext (hA20 35 rfl)).trans ((funext (hA14 35 rfl)).trans (ew35))) (w36) ((funext (hA20 36 rfl)).trans ((funext (hA14 36 rfl)).trans (ew36))) (w37) ((funext (hA20 37 rfl)).trans ((funext (hA14 37 rfl)).trans (ew37))) (show inr ((-50)) from q_2311) (h3) (show OPP (rwR ((w10)) ((w11))) (rwR ((w10)) ((w11))) (a1) (a2) (a3) (sc ((w16)) 0 ((u3_2))) Dc (((-50))) ((u0_9)) ((u0_9)) ((u5_32), (u5_33), (u5_34), (u5_27), (u5_36)) ((u5_32), (u5_33), (u5_34), (u5_27), (u5_36)) by assumption))
    · refine Ew_of (pcₚ := 15) (fun _ => x_iload_n rfl rfl) ?_
      refine Ew_of (pcₚ := 16) (fun _ => x_iconst rfl) ?_
      refine Ew_of (pcₚ := 18) (fun _ => x_ldc (z := 65536) rfl (by decide)) ?_
      refine w_stat24 rfl rfl (by rfl) (M67p H (show inr (a3) from h2) (show inr (0) from q_2) (show inr (65536) from q_52) (fun z27 σ F23 A24 H hS25 hA26 pz27_0 pz27_1 => ⟨rretB rfl pz27_0, ?_⟩))
      refine w_ifne (t := 27) rfl rfl (show inr (z27) from q_138 pz27_0) (fun b28 => ?_) (fun b28 => ?_)
      · refine Ew_of (pcₚ := 28) (fun _ => x_aload_n rfl rfl) ?_
        refine Ew_of (pcₚ := 29) (fun _ => x_iload_n rfl rfl) ?_
        refine w_inv H (o := 0) rfl rfl rfl (H.perm 0 rfl) rfl rfl (by rfl) (M87p H (w10) ((funext (hA26 10 rfl)).trans ((funext (hA20 10 rfl)).trans ((funext (hA14 10 rfl)).trans (ew10)))) (w11) ((funext (hA26 11 rfl)).trans ((funext (hA20 11 rfl)).trans ((funext (hA14 11 rfl)).trans (ew11)))) (show inr (a2) from h1) (fun z33 σ F29 A30 H hS31 hA32 pz33_0 pz33_1 pz33_2 => ⟨rfl, ?_⟩))
        have hkd := pz33_2
        have hkf : (z33) = knF (rwR ((w10)) ((w11)) ((a2))) := by rcases hkd with ⟨_, q⟩ | ⟨q, _⟩; (exact q); (exfalso; omega)
        refine Ew_of (pcₚ := 34) (fun _ => x_istore rfl) ?_
        refine Ew_of (pcₚ := 36) (fun _ => x_iload rfl rk_s) ?_
        refine w_ifeq (t := 45) rfl rfl (show inr (z33) from pz33_0) (fun b34 => ?_) (fun b34 => ?_)
        · refine Ew_of (pcₚ := 47) (fun _ => x_bipush (z := -51) rfl (by decide)) ?_
          refine Ew_of (pcₚ := 59) (fun _ => x_goto rfl rfl) ?_
          have : OPP (rwR ((w10)) ((w11))) (rwR ((w10)) ((w11))) ((a1)) ((a2)) ((a3)) (sc ((w16)) 0 ((u3_2))) Dc (((-51))) ((u0_9)) ((u0_9)) ((u5_32), (u5_33), (u5_34), (u5_27), (u5_36)) ((u5_32), (u5_33), (u5_34), (u5_27), (u5_36)) := by first | exact .inr (.inl ⟨⟨⟨by omega, by omega⟩, ⟨by omega, by omega⟩, by omega, by omega⟩, by first | exact .inl (by rw [← hkf]; omega) | exact .inr (by rw [← hkf]; omega), rfl, fun _ _ _ => rfl, rfl, rfl⟩) | exact .inr (.inr ⟨⟨⟨by omega, by omega⟩, ⟨by omega, by omega⟩, by omega, by omega⟩, by rw [← hkf]; omega, by rw [← hkf]; exact pzMISS_2⟩)
          exact w_ireturn rfl (k ((-51)) σ _ _ H (SF_trans (SF_trans (SF_trans (SF_trans (SF_refl) hS13 (any_sub rfl)) hS19 (any_sub rfl)) hS25 (any_sub rfl)) hS31 (any_sub rfl)) (SA_trans (SA_trans (SA_trans (SA_trans (SA_refl) hA14 (any_subA rfl)) hA20 (any_subA rfl)) hA26 (any_subA rfl)) hA32 (any_subA rfl)) (u0_9) ((((((hS31 0 9 rfl).trans (hS25 0 9 rfl)).trans (hS19 0 9 rfl)).trans (hS13 0 9 rfl)).trans (eu0_9))) (u5_27) ((((((hS31 5 27 rfl).trans (hS25 5 27 rfl)).trans (hS19 5 27 rfl)).trans (hS13 5 27 rfl)).trans (eu5_27))) (u5_32) ((((((hS31 5 32 rfl).trans (hS25 5 32 rfl)).trans (hS19 5 32 rfl)).trans (hS13 5 32 rfl)).trans (eu5_32))) (u5_33) ((((((hS31 5 33 rfl).trans (hS25 5 33 rfl)).trans (hS19 5 33 rfl)).trans (hS13 5 33 rfl)).trans (eu5_33))) (u5_34) ((((((hS31 5 34 rfl).trans (hS25 5 34 rfl)).trans (hS19 5 34 rfl)).trans (hS13 5 34 rfl)).trans (eu5_34))) (u5_36) ((((((hS31 5 36 rfl).trans (hS25 5 36 rfl)).trans (hS19 5 36 rfl)).trans (hS13 5 36 rfl)).trans (eu5_36))) (w10) ((funext (hA32 10 rfl)).trans ((funext (hA26 10 rfl)).trans ((funext (hA20 10 rfl)).trans ((funext (hA14 10 rfl)).trans (ew10))))) (w11) ((funext (hA32 11 rfl)).trans ((funext (hA26 11 rfl)).trans ((funext (hA20 11 rfl)).trans ((funext (hA14 11 rfl)).trans (ew11))))) (w34) ((funext (hA32 34 rfl)).trans ((funext (hA26 34 rfl)).trans ((funext (hA20 34 rfl)).trans ((funext (hA14 34 rfl)).trans (ew34))))) (w35) ((funext (hA32 35 rfl)).trans ((funext (hA26 35 rfl)).trans ((funext (hA20 35 rfl)).trans ((funext (hA14 35 rfl)).trans (ew35))))) (w36) ((funext (hA32 36 rfl)).trans ((funext (hA26 36 rfl)).trans ((funext (hA20 36 rfl)).trans ((funext (hA14 36 rfl)).trans (ew36))))) (w37) ((funext (hA32 37 rfl)).trans ((funext (hA26 37 rfl)).trans ((funext (hA20 37 rfl)).trans ((funext (hA14 37 rfl)).trans (ew37))))) (show inr ((-51)) from q_2344) (h3) (show OPP (rwR ((w10)) ((w11))) (rwR ((w10)) ((w11))) (a1) (a2) (a3) (sc ((w16)) 0 ((u3_2))) Dc (((-51))) ((u0_9)) ((u0_9)) ((u5_32), (u5_33), (u5_34), (u5_27), (u5_36)) ((u5_32), (u5_33), (u5_34), (u5_27), (u5_36)) by assumption))
        · refine Ew_of (pcₚ := 41) (fun _ => x_iload rfl rk_s) ?_
          refine Ew_of (pcₚ := 42) (fun _ => x_iconst rfl) ?_
          refine w_icmpne (t := 50) rfl rfl (show inr (z33) from pz33_0) (show inr (5) from q_727) (fun b35 => ?_) (fun b35 => ?_)
          · refine Ew_of (pcₚ := 51) (fun _ => x_aload_n rfl (rk_o (rfl) rfl rfl)) ?_
            refine Ew_of (pcₚ := 52) (fun _ => x_iload_n rfl (rk_o (rfl) rfl rfl)) ?_
            refine Ew_of (pcₚ := 53) (fun _ => x_iload_n rfl (rk_o (rfl) rfl rfl)) ?_
            refine Ew_of (pcₚ := 55) (fun _ => x_iload rfl rk_s) ?_
            refine Ew_of (pcₚ := 56) (fun _ => x_iload_n rfl (rk_o (rfl) rfl rfl)) ?_
            refine w_inv H (o := 0) rfl rfl rfl (H.perm 0 rfl) rfl rfl (by rfl) (M85p H (u0_9) ((((((hS31 0 9 rfl).trans (hS25 0 9 rfl)).trans (hS19 0 9 rfl)).trans (hS13 0 9 rfl)).trans (eu0_9))) (u3_2) ((((((hS31 3 2 rfl).trans (hS25 3 2 rfl)).trans (hS19 3 2 rfl)).trans (hS13 3 2 rfl)).trans (eu3_2))) (u5_2) ((((((hS31 5 2 rfl).trans (hS25 5 2 rfl)).trans (hS19 5 2 rfl)).trans (hS13 5 2 rfl)).trans (eu5_2))) (u5_3) ((((((hS31 5 3 rfl).trans (hS25 5 3 rfl)).trans (hS19 5 3 rfl)).trans (hS13 5 3 rfl)).trans (eu5_3))) (u5_4) ((((((hS31 5 4 rfl).trans (hS25 5 4 rfl)).trans (hS19 5 4 rfl)).trans (hS13 5 4 rfl)).trans (eu5_4))) (u5_27) ((((((hS31 5 27 rfl).trans (hS25 5 27 rfl)).trans (hS19 5 27 rfl)).trans (hS13 5 27 rfl)).trans (eu5_27))) (u5_32) ((((((hS31 5 32 rfl).trans (hS25 5 32 rfl)).trans (hS19 5 32 rfl)).trans (hS13 5 32 rfl)).trans (eu5_32))) (u5_33) ((((((hS31 5 33 rfl).trans (hS25 5 33 rfl)).trans (hS19 5 33 rfl)).trans (hS13 5 33 rfl)).trans (eu5_33))) (u5_34) ((((((hS31 5 34 rfl).trans (hS25 5 34 rfl)).trans (hS19 5 34 rfl)).trans (hS13 5 34 rfl)).trans (eu5_34))) (u5_36) ((((((hS31 5 36 rfl).trans (hS25 5 36 rfl)).trans (hS19 5 36 rfl)).trans (hS13 5 36 rfl)).trans (eu5_36))) (w10) ((funext (hA32 10 rfl)).trans ((funext (hA26 10 rfl)).trans ((funext (hA20 10 rfl)).trans ((funext (hA14 10 rfl)).trans (ew10))))) (w11) ((funext (hA32 11 rfl)).trans ((funext (hA26 11 rfl)).trans ((funext (hA20 11 rfl)).trans ((funext (hA14 11 rfl)).trans (ew11))))) (w16) ((funext (hA32 16 rfl)).trans ((funext (hA26 16 rfl)).trans ((funext (hA20 16 rfl)).trans ((funext (hA14 16 rfl)).trans (ew16))))) (w26) ((funext (hA32 26 rfl)).trans ((funext (hA26 26 rfl)).trans ((funext (hA20 26 rfl)).trans ((funext (hA14 26 rfl)).trans (ew26))))) (w27) ((funext (hA32 27 rfl)).trans ((funext (hA26 27 rfl)).trans ((funext (hA20 27 rfl)).trans ((funext (hA14 27 rfl)).trans (ew27))))) (w28) ((funext (hA32 28 rfl)).trans ((funext (hA26 28 rfl)).trans ((funext (hA20 28 rfl)).trans ((funext (hA14 28 rfl)).trans (ew28))))) (w29) ((funext (hA32 29 rfl)).trans ((funext (hA26 29 rfl)).trans ((funext (hA20 29 rfl)).trans ((funext (hA14 29 rfl)).trans (ew29))))) (w30) ((funext (hA32 30 rfl)).trans ((funext (hA26 30 rfl)).trans ((funext (hA20 30 rfl)).trans ((funext (hA14 30 rfl)).trans (ew30))))) (w34) ((funext (hA32 34 rfl)).trans ((funext (hA26 34 rfl)).trans ((funext (hA20 34 rfl)).trans ((funext (hA14 34 rfl)).trans (ew34))))) (w35) ((funext (hA32 35 rfl)).trans ((funext (hA26 35 rfl)).trans ((funext (hA20 35 rfl)).trans ((funext (hA14 35 rfl)).trans (ew35))))) (w36) ((funext (hA32 36 rfl)).trans ((funext (hA26 36 rfl)).trans ((funext (hA20 36 rfl)).trans ((funext (hA14 36 rfl)).trans (ew36))))) (w37) ((funext (hA32 37 rfl)).trans ((funext (hA26 37 rfl)).trans ((funext (hA20 37 rfl)).trans ((funext (hA14 37 rfl)).trans (ew37))))) (Dc) (show inr (a1) from h0) (show inr (a2) from h1) (show inr (z33) from pz33_0) (show inr (a3) from h2) (h3) (show DI ((u5_4)) ((w27)) ((w28)) ((w29)) ((w30)) by assumption) (h5) (show DCo (Dc) by assumption) (fun z40 σ F36 A37 H hS38 hA39 y41 ey42 y43 ey44 y45 ey46 y47 ey48 y49 ey50 y51 ey52 wq53 ewq54 wq55 ewq56 wq57 ewq58 wq59 ewq60 wq61 ewq62 wq63 ewq64 pz40_0 pz40_1 pz40_2 => ⟨rfl, ?_⟩))
            have r65 : (-2147483648 : Int) ≤ y41 ∧ y41 ≤ 2147483647 := rngE (show (-2147483648 : Int) ≤ F36 0 9 ∧ F36 0 9 ≤ 2147483647 from H.frng 0 9) (show F36 0 9 = y41 from (ey42))
            have r66 : (0 : Int) ≤ y43 ∧ y43 ≤ 65536 := rngE (show (0 : Int) ≤ F36 5 27 ∧ F36 5 27 ≤ 65536 from H.frng 5 27) (show F36 5 27 = y43 from (ey44))
            have r67 : (-2147483648 : Int) ≤ y45 ∧ y45 ≤ 2147483647 := rngE (show (-2147483648 : Int) ≤ F36 5 32 ∧ F36 5 32 ≤ 2147483647 from H.frng 5 32) (show F36 5 32 = y45 from (ey46))
            have r68 : (-2147483648 : Int) ≤ y47 ∧ y47 ≤ 2147483647 := rngE (show (-2147483648 : Int) ≤ F36 5 33 ∧ F36 5 33 ≤ 2147483647 from H.frng 5 33) (show F36 5 33 = y47 from (ey48))
            have r69 : (-2147483648 : Int) ≤ y49 ∧ y49 ≤ 2147483647 := rngE (show (-2147483648 : Int) ≤ F36 5 34 ∧ F36 5 34 ≤ 2147483647 from H.frng 5 34) (show F36 5 34 = y49 from (ey50))
            have r70 : (-2147483648 : Int) ≤ y51 ∧ y51 ≤ 2147483647 := rngE (show (-2147483648 : Int) ≤ F36 5 36 ∧ F36 5 36 ≤ 2147483647 from H.frng 5 36) (show F36 5 36 = y51 from (ey52))
            have : OPP (rwR ((w10)) ((w11))) (rwR ((wq53)) ((wq55))) ((a1)) ((a2)) ((a3)) (sc ((w16)) 0 ((u3_2))) Dc ((z40)) ((u0_9)) ((y41)) ((u5_32), (u5_33), (u5_34), (u5_27), (u5_36)) ((y45), (y47), (y49), (y43), (y51)) := by first | exact .inr (.inl ⟨⟨⟨by omega, by omega⟩, ⟨by omega, by omega⟩, by omega, by omega⟩, by first | exact .inl (by rw [← hkf]; omega) | exact .inr (by rw [← hkf]; omega), rfl, fun _ _ _ => rfl, rfl, rfl⟩) | exact .inr (.inr ⟨⟨⟨by omega, by omega⟩, ⟨by omega, by omega⟩, by omega, by omega⟩, by rw [← hkf]; omega, by rw [← hkf]; exact pz40_2⟩)
            exact w_ireturn rfl (k (z40) σ _ _ H (SF_trans (SF_trans (SF_trans (SF_trans (SF_trans (SF_refl) hS13 (any_sub rfl)) hS19 (any_sub rfl)) hS25 (any_sub rfl)) hS31 (any_sub rfl)) hS38 (any_sub rfl)) (SA_trans (SA_trans (SA_trans (SA_trans (SA_trans (SA_refl) hA14 (any_subA rfl)) hA20 (any_subA rfl)) hA26 (any_subA rfl)) hA32 (any_subA rfl)) hA39 (any_subA rfl)) (y41) ((ey42)) (y43) ((ey44)) (y45) ((ey46)) (y47) ((ey48)) (y49) ((ey50)) (y51) ((ey52)) (wq53) (ewq54) (wq55) (ewq56) (wq57) (ewq58) (wq59) (ewq60) (wq61) (ewq62) (wq63) (ewq64) (show inr (z40) from pz40_0) (pz40_1) (show OPP (rwR ((w10)) ((w11))) (rwR ((wq53)) ((wq55))) (a1) (a2) (a3) (sc ((w16)) 0 ((u3_2))) Dc ((z40)) ((u0_9)) ((y41)) ((u5_32), (u5_33), (u5_34), (u5_27), (u5_36)) ((y45), (y47), (y49), (y43), (y51)) by assumption))
          · refine Ew_of (pcₚ := 47) (fun _ => x_bipush (z := -51) rfl (by decide)) ?_
            refine Ew_of (pcₚ := 59) (fun _ => x_goto rfl rfl) ?_
            have : OPP (rwR ((w10)) ((w11))) (rwR ((w10)) ((w11))) ((a1)) ((a2)) ((a3)) (sc ((w16)) 0 ((u3_2))) Dc (((-51))) ((u0_9)) ((u0_9)) ((u5_32), (u5_33), (u5_34), (u5_27), (u5_36)) ((u5_32), (u5_33), (u5_34), (u5_27), (u5_36)) := by first | exact .inr (.inl ⟨⟨⟨by omega, by omega⟩, ⟨by omega, by omega⟩, by omega, by omega⟩, by first | exact .inl (by rw [← hkf]; omega) | exact .inr (by rw [← hkf]; omega), rfl, fun _ _ _ => rfl, rfl, rfl⟩) | exact .inr (.inr ⟨⟨⟨by omega, by omega⟩, ⟨by omega, by omega⟩, by omega, by omega⟩, by rw [← hkf]; omega, by rw [← hkf]; exact pz40_2⟩)
            exact w_ireturn rfl (k ((-51)) σ _ _ H (SF_trans (SF_trans (SF_trans (SF_trans (SF_refl) hS13 (any_sub rfl)) hS19 (any_sub rfl)) hS25 (any_sub rfl)) hS31 (any_sub rfl)) (SA_trans (SA_trans (SA_trans (SA_trans (SA_refl) hA14 (any_subA rfl)) hA20 (any_subA rfl)) hA26 (any_subA rfl)) hA32 (any_subA rfl)) (u0_9) ((((((hS31 0 9 rfl).trans (hS25 0 9 rfl)).trans (hS19 0 9 rfl)).trans (hS13 0 9 rfl)).trans (eu0_9))) (u5_27) ((((((hS31 5 27 rfl).trans (hS25 5 27 rfl)).trans (hS19 5 27 rfl)).trans (hS13 5 27 rfl)).trans (eu5_27))) (u5_32) ((((((hS31 5 32 rfl).trans (hS25 5 32 rfl)).trans (hS19 5 32 rfl)).trans (hS13 5 32 rfl)).trans (eu5_32))) (u5_33) ((((((hS31 5 33 rfl).trans (hS25 5 33 rfl)).trans (hS19 5 33 rfl)).trans (hS13 5 33 rfl)).trans (eu5_33))) (u5_34) ((((((hS31 5 34 rfl).trans (hS25 5 34 rfl)).trans (hS19 5 34 rfl)).trans (hS13 5 34 rfl)).trans (eu5_34))) (u5_36) ((((((hS31 5 36 rfl).trans (hS25 5 36 rfl)).trans (hS19 5 36 rfl)).trans (hS13 5 36 rfl)).trans (eu5_36))) (w10) ((funext (hA32 10 rfl)).trans ((funext (hA26 10 rfl)).trans ((funext (hA20 10 rfl)).trans ((funext (hA14 10 rfl)).trans (ew10))))) (w11) ((funext (hA32 11 rfl)).trans ((funext (hA26 11 rfl)).trans ((funext (hA20 11 rfl)).trans ((funext (hA14 11 rfl)).trans (ew11))))) (w34) ((funext (hA32 34 rfl)).trans ((funext (hA26 34 rfl)).trans ((funext (hA20 34 rfl)).trans ((funext (hA14 34 rfl)).trans (ew34))))) (w35) ((funext (hA32 35 rfl)).trans ((funext (hA26 35 rfl)).trans ((funext (hA20 35 rfl)).trans ((funext (hA14 35 rfl)).trans (ew35))))) (w36) ((funext (hA32 36 rfl)).trans ((funext (hA26 36 rfl)).trans ((funext (hA20 36 rfl)).trans ((funext (hA14 36 rfl)).trans (ew36))))) (w37) ((funext (hA32 37 rfl)).trans ((funext (hA26 37 rfl)).trans ((funext (hA20 37 rfl)).trans ((funext (hA14 37 rfl)).trans (ew37))))) (show inr ((-51)) from q_2344) (h3) (show OPP (rwR ((w10)) ((w11))) (rwR ((w10)) ((w11))) (a1) (a2) (a3) (sc ((w16)) 0 ((u3_2))) Dc (((-51))) ((u0_9)) ((u0_9)) ((u5_32), (u5_33), (u5_34), (u5_27), (u5_36)) ((u5_32), (u5_33), (u5_34), (u5_27), (u5_36)) by assumption))
      · refine Ew_of (pcₚ := 26) (fun _ => x_bipush (z := -50) rfl (by decide)) ?_
        have : OPP (rwR ((w10)) ((w11))) (rwR ((w10)) ((w11))) ((a1)) ((a2)) ((a3)) (sc ((w16)) 0 ((u3_2))) Dc (-50) ((u0_9)) ((u0_9)) ((u5_32), (u5_33), (u5_34), (u5_27), (u5_36)) ((u5_32), (u5_33), (u5_34), (u5_27), (u5_36)) := .inl ⟨fun q => by have := q.1; have := q.2.1; have := q.2.2; unfold okd at *; omega, rfl, fun _ _ _ => rfl, rfl, rfl⟩
        exact w_ireturn rfl (k ((-50)) σ _ _ H (SF_trans (SF_trans (SF_trans (SF_refl) hS13 (any_sub rfl)) hS19 (any_sub rfl)) hS25 (any_sub rfl)) (SA_trans (SA_trans (SA_trans (SA_refl) hA14 (any_subA rfl)) hA20 (any_subA rfl)) hA26 (any_subA rfl)) (u0_9) (((((hS25 0 9 rfl).trans (hS19 0 9 rfl)).trans (hS13 0 9 rfl)).trans (eu0_9))) (u5_27) (((((hS25 5 27 rfl).trans (hS19 5 27 rfl)).trans (hS13 5 27 rfl)).trans (eu5_27))) (u5_32) (((((hS25 5 32 rfl).trans (hS19 5 32 rfl)).trans (hS13 5 32 rfl)).trans (eu5_32))) (u5_33) (((((hS25 5 33 rfl).trans (hS19 5 33 rfl)).trans (hS13 5 33 rfl)).trans (eu5_33))) (u5_34) (((((hS25 5 34 rfl).trans (hS19 5 34 rfl)).trans (hS13 5 34 rfl)).trans (eu5_34))) (u5_36) (((((hS25 5 36 rfl).trans (hS19 5 36 rfl)).trans (hS13 5 36 rfl)).trans (eu5_36))) (w10) ((funext (hA26 10 rfl)).trans ((funext (hA20 10 rfl)).trans ((funext (hA14 10 rfl)).trans (ew10)))) (w11) ((funext (hA26 11 rfl)).trans ((funext (hA20 11 rfl)).trans ((funext (hA14 11 rfl)).trans (ew11)))) (w34) ((funext (hA26 34 rfl)).trans ((funext (hA20 34 rfl)).trans ((funext (hA14 34 rfl)).trans (ew34)))) (w35) ((funext (hA26 35 rfl)).trans ((funext (hA20 35 rfl)).trans ((funext (hA14 35 rfl)).trans (ew35)))) (w36) ((funext (hA26 36 rfl)).trans ((funext (hA20 36 rfl)).trans ((funext (hA14 36 rfl)).trans (ew36)))) (w37) ((funext (hA26 37 rfl)).trans ((funext (hA20 37 rfl)).trans ((funext (hA14 37 rfl)).trans (ew37)))) (show inr ((-50)) from q_2311) (h3) (show OPP (rwR ((w10)) ((w11))) (rwR ((w10)) ((w11))) (a1) (a2) (a3) (sc ((w16)) 0 ((u3_2))) Dc (((-50))) ((u0_9)) ((u0_9)) ((u5_32), (u5_33), (u5_34), (u5_27), (u5_36)) ((u5_32), (u5_33), (u5_34), (u5_27), (u5_36)) by assumption))


end
section
/-! 99h.ref -/
theorem M355p {σ0 σ : rS} {D N : Nat → Nat} {F : hF} {A : hA} {d c s : Nat} {Q : wQ} (H : HS σ0 σ D N F A)  (k : ∀ σ Fₚ Aₚ, HS σ0 σ D N Fₚ Aₚ → SF [(3, 2)] F Fₚ → SA [] A Aₚ → ∀ y3_2 : Int, Fₚ 3 2 = y3_2 → ((y3_2) = 0) → Q none σ c s) : Ew 355 (d + 0) 0 (rargs 0 [.ref (D 3)]) [] σ c s Q := by
  refine Ew_of (pcₚ := 1) (fun _ => x_aload_n rfl rfl) ?_
  refine Ew_of (pcₚ := 2) (fun _ => x_iconst rfl) ?_
  refine w_pI H (o := 3) rfl rfl (H.perm 3 rfl) rfl rfl rfl (fun _ => rfl) rfl (show (0 : Int) ≤ 0 ∧ 0 ≤ 65536 from q_300) (fun σ H => ?_)
  exact w_ret rfl (k σ _ _ H (SF_upd (SF_refl) rfl) (SA_refl) (0) (rfl) (show (0) = 0 by first | exact q_34 | omega))

theorem M78p {σ0 σ : rS} {D N : Nat → Nat} {F : hF} {A : hA} {d c s : Nat} {Q : wQ} (H : HS σ0 σ D N F A) {a1 : Int} (u3_2 : Int) (eu3_2 : F 3 2 = u3_2) (u5_2 : Int) (eu5_2 : F 5 2 = u5_2) (u5_3 : Int) (eu5_3 : F 5 3 = u5_3) (u5_4 : Int) (eu5_4 : F 5 4 = u5_4) (u6_4 : Int) (eu6_4 : F 6 4 = u6_4) (u6_5 : Int) (eu6_5 : F 6 5 = u6_5) (u6_6 : Int) (eu6_6 : F 6 6 = u6_6) (w16 : Int → Int) (ew16 : A 16 = w16) (w26 : Int → Int) (ew26 : A 26 = w26) (w27 : Int → Int) (ew27 : A 27 = w27) (w28 : Int → Int) (ew28 : A 28 = w28) (w29 : Int → Int) (ew29 : A 29 = w29) (w30 : Int → Int) (ew30 : A 30 = w30) (w48 : Int → Int) (ew48 : A 48 = w48) (w49 : Int → Int) (ew49 : A 49 = w49) (w50 : Int → Int) (ew50 : A 50 = w50) (w51 : Int → Int) (ew51 : A 51 = w51) (w52 : Int → Int) (ew52 : A 52 = w52) (Dc : DcS) (h0 : inr (a1)) (h1 : DI ((u5_4)) ((w27)) ((w28)) ((w29)) ((w30))) (h2 : DW ((u6_6)) ((w49)) ((w50)) ((w51))) (h3 : (u6_4) = (u5_2)) (h4 : RDI Dc ((u5_4)) ((u5_3)) ((w26)) ((u5_2)) ((w27)) ((w28)) ((w29)) ((w30))) (h5 : WEQ ((u6_6)) ((u6_5)) ((u6_4)) ((w48)) ((w49)) ((w50)) ((w51)) ((w52)) ((u5_4)) ((u5_3)) ((u5_2)) ((w26)) ((w27)) ((w28)) ((w29)) ((w30))) (k : ∀ (z : Int) σ Fₚ Aₚ, HS σ0 σ D N Fₚ Aₚ → SF [(3, 2), (5, 2), (5, 3), (5, 4), (6, 4), (6, 5), (6, 6)] F Fₚ → SA [48, 49, 50, 51, 52] A Aₚ → ∀ y3_2 : Int, Fₚ 3 2 = y3_2 → ∀ y5_2 : Int, Fₚ 5 2 = y5_2 → ∀ y5_3 : Int, Fₚ 5 3 = y5_3 → ∀ y5_4 : Int, Fₚ 5 4 = y5_4 → ∀ y6_4 : Int, Fₚ 6 4 = y6_4 → ∀ y6_5 : Int, Fₚ 6 5 = y6_5 → ∀ y6_6 : Int, Fₚ 6 6 = y6_6 → ∀ v16 : Int → Int, Aₚ 16 = v16 → ∀ v26 : Int → Int, Aₚ 26 = v26 → ∀ v27 : Int → Int, Aₚ 27 = v27 → ∀ v28 : Int → Int, Aₚ 28 = v28 → ∀ v29 : Int → Int, Aₚ 29 = v29 → ∀ v30 : Int → Int, Aₚ 30 = v30 → ∀ v48 : Int → Int, Aₚ 48 = v48 → ∀ v49 : Int → Int, Aₚ 49 = v49 → ∀ v50 : Int → Int, Aₚ 50 = v50 → ∀ v51 : Int → Int, Aₚ 51 = v51 → ∀ v52 : Int → Int, Aₚ 52 = v52 → ((z) = 0 ∨ (z) = 1) → (DI ((y5_4)) ((v27)) ((v28)) ((v29)) ((v30))) → (DW ((y6_6)) ((v49)) ((v50)) ((v51))) → ((y6_4) = (y5_2)) → ((z) = 1 ∧ ((a1) = 0 ∨ (a1) = 1) ∨ (z) = 0 ∧ (a1) ≠ 0 ∧ (a1) ≠ 1) → (sc ((v16)) 0 ((y3_2)) = fgH ((a1)) (sc ((w16)) 0 ((u3_2)))) → (RDI (fgD ((a1)) Dc) ((y5_4)) ((y5_3)) ((v26)) ((y5_2)) ((v27)) ((v28)) ((v29)) ((v30))) → (WEQ ((y6_6)) ((y6_5)) ((y6_4)) ((v48)) ((v49)) ((v50)) ((v51)) ((v52)) ((y5_4)) ((y5_3)) ((y5_2)) ((v26)) ((v27)) ((v28)) ((v29)) ((v30))) → Q (some (I z)) σ c s) : Ew 78 (d + 1) 0 (rargs 0 [.ref (D 0), I a1]) [] σ c s Q := by
  have r1 : (0 : Int) ≤ u3_2 ∧ u3_2 ≤ 65536 := rngE (show (0 : Int) ≤ F 3 2 ∧ F 3 2 ≤ 65536 from H.frng 3 2) (show F 3 2 = u3_2 from (eu3_2))
  have r2 : (0 : Int) ≤ u5_2 ∧ u5_2 ≤ 65536 := rngE (show (0 : Int) ≤ F 5 2 ∧ F 5 2 ≤ 65536 from H.frng 5 2) (show F 5 2 = u5_2 from (eu5_2))
  have r3 : (-2147483648 : Int) ≤ u5_3 ∧ u5_3 ≤ 2147483647 := rngE (show (-2147483648 : Int) ≤ F 5 3 ∧ F 5 3 ≤ 2147483647 from H.frng 5 3) (show F 5 3 = u5_3 from (eu5_3))
  have r4 : (0 : Int) ≤ u5_4 ∧ u5_4 ≤ 1 := rngE (show (0 : Int) ≤ F 5 4 ∧ F 5 4 ≤ 1 from H.frng 5 4) (show F 5 4 = u5_4 from (eu5_4))
  have r5 : (0 : Int) ≤ u6_4 ∧ u6_4 ≤ 65536 := rngE (show (0 : Int) ≤ F 6 4 ∧ F 6 4 ≤ 65536 from H.frng 6 4) (show F 6 4 = u6_4 from (eu6_4))
  have r6 : (-2147483648 : Int) ≤ u6_5 ∧ u6_5 ≤ 2147483647 := rngE (show (-2147483648 : Int) ≤ F 6 5 ∧ F 6 5 ≤ 2147483647 from H.frng 6 5) (show F 6 5 = u6_5 from (eu6_5))
  have r7 : (0 : Int) ≤ u6_6 ∧ u6_6 ≤ 1 := rngE (show (0 : Int) ≤ F 6 6 ∧ F 6 6 ≤ 1 from H.frng 6 6) (show F 6 6 = u6_6 from (eu6_6))
  have hc11 : ∀ (ls : rO) (σ : rS) (F_c11 : hF) (A_c11 : hA) , rlook ls 0 = some (.ref (D 0)) → rlook ls 1 = some (I (a1)) → HS σ0 σ D N F_c11 A_c11 → SF [(3, 2)] F F_c11 → SA [] A A_c11 → ∀ yc11_3_2 : Int, F_c11 3 2 = yc11_3_2 → (sc ((w16)) 0 ((yc11_3_2)) = fgH ((a1)) (sc ((w16)) 0 ((u3_2)))) → Ew 78 (d + 1) 11 ls [] σ c s Q := by
   as_aux_lemma =>
    intro  ls σ F_c11 A_c11  lc11_0 lc11_1 H hS_c11 hA_c11 yc11_3_2 eyc11_3_2  jc11_0
    have r8 : (0 : Int) ≤ yc11_3_2 ∧ yc11_3_2 ≤ 65536 := rngE (show (0 : Int) ≤ F_c11 3 2 ∧ F_c11 3 2 ≤ 65536 from H.frng 3 2) (show F_c11 3 2 = yc11_3_2 from (eyc11_3_2))
    have hc34 : ∀ (ls : rO) (σ : rS) (F_c34 : hF) (A_c34 : hA) , rlook ls 1 = some (I (a1)) → HS σ0 σ D N F_c34 A_c34 → SF [(5, 2), (5, 3), (5, 4), (6, 4), (6, 5), (6, 6)] F_c11 F_c34 → SA [48, 49, 50, 51, 52] A_c11 A_c34 → ∀ yc34_5_2 : Int, F_c34 5 2 = yc34_5_2 → ∀ yc34_5_3 : Int, F_c34 5 3 = yc34_5_3 → ∀ yc34_5_4 : Int, F_c34 5 4 = yc34_5_4 → ∀ yc34_6_4 : Int, F_c34 6 4 = yc34_6_4 → ∀ yc34_6_5 : Int, F_c34 6 5 = yc34_6_5 → ∀ yc34_6_6 : Int, F_c34 6 6 = yc34_6_6 → ∀ wc34_48 : Int → Int, A_c34 48 = wc34_48 → ∀ wc34_49 : Int → Int, A_c34 49 = wc34_49 → ∀ wc34_50 : Int → Int, A_c34 50 = wc34_50 → ∀ wc34_51 : Int → Int, A_c34 51 = wc34_51 → ∀ wc34_52 : Int → Int, A_c34 52 = wc34_52 → (DI ((yc34_5_4)) ((w27)) ((w28)) ((w29)) ((w30))) → (DW ((yc34_6_6)) ((wc34_49)) ((wc34_50)) ((wc34_51))) → ((yc34_6_4) = (yc34_5_2)) → (RDI (fgD ((a1)) Dc) ((yc34_5_4)) ((yc34_5_3)) ((w26)) ((yc34_5_2)) ((w27)) ((w28)) ((w29)) ((w30))) → (WEQ ((yc34_6_6)) ((yc34_6_5)) ((yc34_6_4)) ((wc34_48)) ((wc34_49)) ((wc34_50)) ((wc34_51)) ((wc34_52)) ((yc34_5_4)) ((yc34_5_3)) ((yc34_5_2)) ((w26)) ((w27)) ((w28)) ((w29)) ((w30))) → Ew 78 (d + 1) 34 ls [] σ c s Q := by
     as_aux_lemma =>
      intro  ls σ F_c34 A_c34  lc34_1 H hS_c34 hA_c34 yc34_5_2 eyc34_5_2 yc34_5_3 eyc34_5_3 yc34_5_4 eyc34_5_4 yc34_6_4 eyc34_6_4 yc34_6_5 eyc34_6_5 yc34_6_6 eyc34_6_6 wc34_48 ewc34_48 wc34_49 ewc34_49 wc34_50 ewc34_50 wc34_51 ewc34_51 wc34_52 ewc34_52 jc34_0 jc34_1 jc34_2 jc34_3 jc34_4
      have r9 : (0 : Int) ≤ yc34_5_2 ∧ yc34_5_2 ≤ 65536 := rngE (show (0 : Int) ≤ F_c34 5 2 ∧ F_c34 5 2 ≤ 65536 from H.frng 5 2) (show F_c34 5 2 = yc34_5_2 from (eyc34_5_2))
      have r10 : (-2147483648 : Int) ≤ yc34_5_3 ∧ yc34_5_3 ≤ 2147483647 := rngE (show (-2147483648 : Int) ≤ F_c34 5 3 ∧ F_c34 5 3 ≤ 2147483647 from H.frng 5 3) (show F_c34 5 3 = yc34_5_3 from (eyc34_5_3))
      have r11 : (0 : Int) ≤ yc34_5_4 ∧ yc34_5_4 ≤ 1 := rngE (show (0 : Int) ≤ F_c34 5 4 ∧ F_c34 5 4 ≤ 1 from H.frng 5 4) (show F_c34 5 4 = yc34_5_4 from (eyc34_5_4))
      have r12 : (0 : Int) ≤ yc34_6_4 ∧ yc34_6_4 ≤ 65536 := rngE (show (0 : Int) ≤ F_c34 6 4 ∧ F_c34 6 4 ≤ 65536 from H.frng 6 4) (show F_c34 6 4 = yc34_6_4 from (eyc34_6_4))
      have r13 : (-2147483648 : Int) ≤ yc34_6_5 ∧ yc34_6_5 ≤ 2147483647 := rngE (show (-2147483648 : Int) ≤ F_c34 6 5 ∧ F_c34 6 5 ≤ 2147483647 from H.frng 6 5) (show F_c34 6 5 = yc34_6_5 from (eyc34_6_5))
      have r14 : (0 : Int) ≤ yc34_6_6 ∧ yc34_6_6 ≤ 1 := rngE (show (0 : Int) ≤ F_c34 6 6 ∧ F_c34 6 6 ≤ 1 from H.frng 6 6) (show F_c34 6 6 = yc34_6_6 from (eyc34_6_6))
      refine Ew_of (pcₚ := 35) (fun _ => x_iload_n rfl lc34_1) ?_
      refine w_ifeq (t := 43) rfl rfl (show inr (a1) from h0) (fun b15 => ?_) (fun b15 => ?_)
      · refine Ew_of (pcₚ := 44) (fun _ => x_iconst rfl) ?_
        refine Ew_of (pcₚ := 48) (fun _ => x_goto rfl rfl) ?_
        exact w_ireturn rfl (k (1) σ _ _ H (SF_trans (SF_trans (SF_refl) hS_c11 (any_sub rfl)) hS_c34 (any_sub rfl)) (SA_trans (SA_trans (SA_refl) hA_c11 (any_subA rfl)) hA_c34 (any_subA rfl)) (yc11_3_2) (((hS_c34 3 2 rfl).trans (eyc11_3_2))) (yc34_5_2) ((eyc34_5_2)) (yc34_5_3) ((eyc34_5_3)) (yc34_5_4) ((eyc34_5_4)) (yc34_6_4) ((eyc34_6_4)) (yc34_6_5) ((eyc34_6_5)) (yc34_6_6) ((eyc34_6_6)) (w16) ((funext (hA_c34 16 rfl)).trans ((funext (hA_c11 16 rfl)).trans (ew16))) (w26) ((funext (hA_c34 26 rfl)).trans ((funext (hA_c11 26 rfl)).trans (ew26))) (w27) ((funext (hA_c34 27 rfl)).trans ((funext (hA_c11 27 rfl)).trans (ew27))) (w28) ((funext (hA_c34 28 rfl)).trans ((funext (hA_c11 28 rfl)).trans (ew28))) (w29) ((funext (hA_c34 29 rfl)).trans ((funext (hA_c11 29 rfl)).trans (ew29))) (w30) ((funext (hA_c34 30 rfl)).trans ((funext (hA_c11 30 rfl)).trans (ew30))) (wc34_48) (ewc34_48) (wc34_49) (ewc34_49) (wc34_50) (ewc34_50) (wc34_51) (ewc34_51) (wc34_52) (ewc34_52) (show (1) = 0 ∨ (1) = 1 by first | exact q_49 | omega) (jc34_0) (jc34_1) (show (yc34_6_4) = (yc34_5_2) from jc34_2) (show (1) = 1 ∧ (a1 = 0 ∨ a1 = 1) ∨ (1) = 0 ∧ a1 ≠ 0 ∧ a1 ≠ 1 by first | exact q_4956 b15 | omega) (jc11_0) (jc34_3) (jc34_4))
      · refine Ew_of (pcₚ := 39) (fun _ => x_iload_n rfl lc34_1) ?_
        refine Ew_of (pcₚ := 40) (fun _ => x_iconst rfl) ?_
        refine w_icmpne (t := 47) rfl rfl (show inr (a1) from h0) (show inr (1) from q_135) (fun b16 => ?_) (fun b16 => ?_)
        · refine Ew_of (pcₚ := 48) (fun _ => x_iconst rfl) ?_
          exact w_ireturn rfl (k (0) σ _ _ H (SF_trans (SF_trans (SF_refl) hS_c11 (any_sub rfl)) hS_c34 (any_sub rfl)) (SA_trans (SA_trans (SA_refl) hA_c11 (any_subA rfl)) hA_c34 (any_subA rfl)) (yc11_3_2) (((hS_c34 3 2 rfl).trans (eyc11_3_2))) (yc34_5_2) ((eyc34_5_2)) (yc34_5_3) ((eyc34_5_3)) (yc34_5_4) ((eyc34_5_4)) (yc34_6_4) ((eyc34_6_4)) (yc34_6_5) ((eyc34_6_5)) (yc34_6_6) ((eyc34_6_6)) (w16) ((funext (hA_c34 16 rfl)).trans ((funext (hA_c11 16 rfl)).trans (ew16))) (w26) ((funext (hA_c34 26 rfl)).trans ((funext (hA_c11 26 rfl)).trans (ew26))) (w27) ((funext (hA_c34 27 rfl)).trans ((funext (hA_c11 27 rfl)).trans (ew27))) (w28) ((funext (hA_c34 28 rfl)).trans ((funext (hA_c11 28 rfl)).trans (ew28))) (w29) ((funext (hA_c34 29 rfl)).trans ((funext (hA_c11 29 rfl)).trans (ew29))) (w30) ((funext (hA_c34 30 rfl)).trans ((funext (hA_c11 30 rfl)).trans (ew30))) (wc34_48) (ewc34_48) (wc34_49) (ewc34_49) (wc34_50) (ewc34_50) (wc34_51) (ewc34_51) (wc34_52) (ewc34_52) (show (0) = 0 ∨ (0) = 1 by first | exact q_45 | omega) (jc34_0) (jc34_1) (show (yc34_6_4) = (yc34_5_2) from jc34_2) (show (0) = 1 ∧ (a1 = 0 ∨ a1 = 1) ∨ (0) = 0 ∧ a1 ≠ 0 ∧ a1 ≠ 1 by first | exact q_4954 b15 b16 | omega) (jc11_0) (jc34_3) (jc34_4))
        · refine Ew_of (pcₚ := 44) (fun _ => x_iconst rfl) ?_
          refine Ew_of (pcₚ := 48) (fun _ => x_goto rfl rfl) ?_
          exact w_ireturn rfl (k (1) σ _ _ H (SF_trans (SF_trans (SF_refl) hS_c11 (any_sub rfl)) hS_c34 (any_sub rfl)) (SA_trans (SA_trans (SA_refl) hA_c11 (any_subA rfl)) hA_c34 (any_subA rfl)) (yc11_3_2) (((hS_c34 3 2 rfl).trans (eyc11_3_2))) (yc34_5_2) ((eyc34_5_2)) (yc34_5_3) ((eyc34_5_3)) (yc34_5_4) ((eyc34_5_4)) (yc34_6_4) ((eyc34_6_4)) (yc34_6_5) ((eyc34_6_5)) (yc34_6_6) ((eyc34_6_6)) (w16) ((funext (hA_c34 16 rfl)).trans ((funext (hA_c11 16 rfl)).trans (ew16))) (w26) ((funext (hA_c34 26 rfl)).trans ((funext (hA_c11 26 rfl)).trans (ew26))) (w27) ((funext (hA_c34 27 rfl)).trans ((funext (hA_c11 27 rfl)).trans (ew27))) (w28) ((funext (hA_c34 28 rfl)).trans ((funext (hA_c11 28 rfl)).trans (ew28))) (w29) ((funext (hA_c34 29 rfl)).trans ((funext (hA_c11 29 rfl)).trans (ew29))) (w30) ((funext (hA_c34 30 rfl)).trans ((funext (hA_c11 30 rfl)).trans (ew30))) (wc34_48) (ewc34_48) (wc34_49) (ewc34_49) (wc34_50) (ewc34_50) (wc34_51) (ewc34_51) (wc34_52) (ewc34_52) (show (1) = 0 ∨ (1) = 1 by first | exact q_49 | omega) (jc34_0) (jc34_1) (show (yc34_6_4) = (yc34_5_2) from jc34_2) (show (1) = 1 ∧ (a1 = 0 ∨ a1 = 1) ∨ (1) = 0 ∧ a1 ≠ 0 ∧ a1 ≠ 1 by first | exact q_4955 b16 | omega) (jc11_0) (jc34_3) (jc34_4))
    refine Ew_of (pcₚ := 12) (fun _ => x_iload_n rfl lc11_1) ?_
    refine Ew_of (pcₚ := 13) (fun _ => x_iconst rfl) ?_
    refine w_icmpne (t := 34) rfl rfl (show inr (a1) from h0) (show inr (1) from q_135) (fun b17 => ?_) (fun b17 => ?_)
    · have : RDI (fgD ((a1)) Dc) ((u5_4)) ((u5_3)) ((w26)) ((u5_2)) ((w27)) ((w28)) ((w29)) ((w30)) := by first | (unfold fgD; rw [if_pos (by omega)]; exact RDI_E pzMISS_0 pzMISS_2 pzMISS_1) | (unfold fgD; rw [if_neg (by omega)]; assumption)
      have : WEQ ((u6_6)) ((u6_5)) ((u6_4)) ((w48)) ((w49)) ((w50)) ((w51)) ((w52)) ((u5_4)) ((u5_3)) ((u5_2)) ((w26)) ((w27)) ((w28)) ((w29)) ((w30)) := by first | exact pzMISS_2 | assumption
      exact hc34  _ σ _ _  (lc11_1) H (SF_refl) (SA_refl) (u5_2) (((hS_c11 5 2 rfl).trans (eu5_2))) (u5_3) (((hS_c11 5 3 rfl).trans (eu5_3))) (u5_4) (((hS_c11 5 4 rfl).trans (eu5_4))) (u6_4) (((hS_c11 6 4 rfl).trans (eu6_4))) (u6_5) (((hS_c11 6 5 rfl).trans (eu6_5))) (u6_6) (((hS_c11 6 6 rfl).trans (eu6_6))) (w48) ((funext (hA_c11 48 rfl)).trans (ew48)) (w49) ((funext (hA_c11 49 rfl)).trans (ew49)) (w50) ((funext (hA_c11 50 rfl)).trans (ew50)) (w51) ((funext (hA_c11 51 rfl)).trans (ew51)) (w52) ((funext (hA_c11 52 rfl)).trans (ew52)) (h1) (show DW ((u6_6)) ((w49)) ((w50)) ((w51)) by assumption) (show (u6_4) = (u5_2) from h3) (show RDI (fgD ((a1)) Dc) ((u5_4)) ((u5_3)) ((w26)) ((u5_2)) ((w27)) ((w28)) ((w29)) ((w30)) by assumption) (h5)
    · refine Ew_of (pcₚ := 17) (fun _ => x_aload_n rfl lc11_0) ?_
      refine w_gT H (o := 0) (t := 5) rfl (H.perm 0 rfl) rfl rfl rfl rfl rfl rfl ?_
      refine w_inv H (o := 5) rfl rfl rfl (H.perm 5 rfl) rfl rfl (by rfl) (M274 H  (fun σ F18 A19 H hS20 hA21 y23 ey24 y25 ey26 y27 ey28 pz22_0 pz22_1 pz22_2 => ⟨rfl, ?_⟩))
      have r29 : (0 : Int) ≤ y23 ∧ y23 ≤ 65536 := rngE (show (0 : Int) ≤ F18 5 2 ∧ F18 5 2 ≤ 65536 from H.frng 5 2) (show F18 5 2 = y23 from (ey24))
      have r30 : (-2147483648 : Int) ≤ y25 ∧ y25 ≤ 2147483647 := rngE (show (-2147483648 : Int) ≤ F18 5 3 ∧ F18 5 3 ≤ 2147483647 from H.frng 5 3) (show F18 5 3 = y25 from (ey26))
      have r31 : (0 : Int) ≤ y27 ∧ y27 ≤ 1 := rngE (show (0 : Int) ≤ F18 5 4 ∧ F18 5 4 ≤ 1 from H.frng 5 4) (show F18 5 4 = y27 from (ey28))
      have : DI ((y27)) ((w27)) ((w28)) ((w29)) ((w30)) := fun q => absurd q (by omega)
      refine Ew_of (pcₚ := 24) (fun _ => x_aload_n rfl lc11_0) ?_
      refine w_gT H (o := 0) (t := 6) rfl (H.perm 0 rfl) rfl rfl rfl rfl rfl rfl ?_
      refine Ew_of (pcₚ := 28) (fun _ => x_aload_n rfl lc11_0) ?_
      refine w_gT H (o := 0) (t := 5) rfl (H.perm 0 rfl) rfl rfl rfl rfl rfl rfl ?_
      refine w_inv H (o := 6) rfl rfl rfl (H.perm 6 rfl) rfl rfl (by rfl) (M388_5p H (y23) ((ey24)) (y25) ((ey26)) (y27) ((ey28)) (w26) ((funext (hA21 26 rfl)).trans ((funext (hA_c11 26 rfl)).trans (ew26))) (w27) ((funext (hA21 27 rfl)).trans ((funext (hA_c11 27 rfl)).trans (ew27))) (w28) ((funext (hA21 28 rfl)).trans ((funext (hA_c11 28 rfl)).trans (ew28))) (w29) ((funext (hA21 29 rfl)).trans ((funext (hA_c11 29 rfl)).trans (ew29))) (w30) ((funext (hA21 30 rfl)).trans ((funext (hA_c11 30 rfl)).trans (ew30))) (show DI ((y27)) ((w27)) ((w28)) ((w29)) ((w30)) by assumption) (fun σ F32 A33 H hS34 hA35 y37 ey38 y39 ey40 y41 ey42 wq43 ewq44 wq45 ewq46 wq47 ewq48 wq49 ewq50 wq51 ewq52 pz36_0 pz36_1 pz36_2 => ⟨rfl, ?_⟩))
      have r53 : (0 : Int) ≤ y37 ∧ y37 ≤ 65536 := rngE (show (0 : Int) ≤ F32 6 4 ∧ F32 6 4 ≤ 65536 from H.frng 6 4) (show F32 6 4 = y37 from (ey38))
      have r54 : (-2147483648 : Int) ≤ y39 ∧ y39 ≤ 2147483647 := rngE (show (-2147483648 : Int) ≤ F32 6 5 ∧ F32 6 5 ≤ 2147483647 from H.frng 6 5) (show F32 6 5 = y39 from (ey40))
      have r55 : (0 : Int) ≤ y41 ∧ y41 ≤ 1 := rngE (show (0 : Int) ≤ F32 6 6 ∧ F32 6 6 ≤ 1 from H.frng 6 6) (show F32 6 6 = y41 from (ey42))
      have : RDI (fgD ((a1)) Dc) ((y27)) ((y25)) ((w26)) ((y23)) ((w27)) ((w28)) ((w29)) ((w30)) := by first | (unfold fgD; rw [if_pos (by omega)]; exact RDI_E pz22_0 pz22_2 pz22_1) | (unfold fgD; rw [if_neg (by omega)]; assumption)
      have : WEQ ((y41)) ((y39)) ((y37)) ((wq43)) ((wq45)) ((wq47)) ((wq49)) ((wq51)) ((y27)) ((y25)) ((y23)) ((w26)) ((w27)) ((w28)) ((w29)) ((w30)) := by first | exact pz36_2 | assumption
      exact hc34  _ σ _ _  (lc11_1) H (SF_trans (SF_trans (SF_refl) hS20 (any_sub rfl)) hS34 (any_sub rfl)) (SA_trans (SA_trans (SA_refl) hA21 (any_subA rfl)) hA35 (any_subA rfl)) (y23) (((hS34 5 2 rfl).trans (ey24))) (y25) (((hS34 5 3 rfl).trans (ey26))) (y27) (((hS34 5 4 rfl).trans (ey28))) (y37) ((ey38)) (y39) ((ey40)) (y41) ((ey42)) (wq43) (ewq44) (wq45) (ewq46) (wq47) (ewq48) (wq49) (ewq50) (wq51) (ewq52) (show DI ((y27)) ((w27)) ((w28)) ((w29)) ((w30)) by assumption) (pz36_0) (show (y37) = (y23) from pz36_1) (show RDI (fgD ((a1)) Dc) ((y27)) ((y25)) ((w26)) ((y23)) ((w27)) ((w28)) ((w29)) ((w30)) by assumption) (pz36_2)
  refine Ew_of (pcₚ := 1) (fun _ => x_iload_n rfl rfl) ?_
  refine w_ifne (t := 11) rfl rfl (show inr (a1) from h0) (fun b56 => ?_) (fun b56 => ?_)
  · have : sc ((w16)) 0 ((u3_2)) = fgH ((a1)) (sc ((w16)) 0 ((u3_2))) := by first | exact (sc_nil (by omega)).trans (if_pos (by omega)).symm | exact (if_neg (by omega)).symm
    exact hc11  _ σ _ _  (rfl) (rfl) H (SF_refl) (SA_refl) (u3_2) ((eu3_2))  (show sc ((w16)) 0 ((u3_2)) = fgH ((a1)) (sc ((w16)) 0 ((u3_2))) by assumption)
  · refine Ew_of (pcₚ := 5) (fun _ => x_aload_n rfl rfl) ?_
    refine w_gT H (o := 0) (t := 3) rfl (H.perm 0 rfl) rfl rfl rfl rfl rfl rfl ?_
    refine w_inv H (o := 3) rfl rfl rfl (H.perm 3 rfl) rfl rfl (by rfl) (M355p H  (fun σ F57 A58 H hS59 hA60 y62 ey63 pz61_0 => ⟨rfl, ?_⟩))
    have r64 : (0 : Int) ≤ y62 ∧ y62 ≤ 65536 := rngE (show (0 : Int) ≤ F57 3 2 ∧ F57 3 2 ≤ 65536 from H.frng 3 2) (show F57 3 2 = y62 from (ey63))
    have : sc ((w16)) 0 ((y62)) = fgH ((a1)) (sc ((w16)) 0 ((u3_2))) := by first | exact (sc_nil (by omega)).trans (if_pos (by omega)).symm | exact (if_neg (by omega)).symm
    exact hc11  _ σ _ _  (rfl) (rfl) H (SF_trans (SF_refl) hS59 (any_sub rfl)) (SA_trans (SA_refl) hA60 (any_subA rfl)) (y62) ((ey63))  (show sc ((w16)) 0 ((y62)) = fgH ((a1)) (sc ((w16)) 0 ((u3_2))) by assumption)


end
section
/-! 99i.ref -/
theorem M387p {σ0 σ : rS} {D N : Nat → Nat} {F : hF} {A : hA} {d c s : Nat} {Q : wQ} (H : HS σ0 σ D N F A) {a1 a2 : Int} (h0 : inr (a1)) (h1 : inr (a2)) (h2 : 0 ≤ (a1) ∧ (a1) ≤ 3 ∧ 0 ≤ (a2) ∧ (a2) ≤ 8) (k : ∀ σ Fₚ Aₚ, HS σ0 σ D N Fₚ Aₚ → SF [(6, 1), (6, 2)] F Fₚ → SA [] A Aₚ → ∀ y6_1 : Int, Fₚ 6 1 = y6_1 → ∀ y6_2 : Int, Fₚ 6 2 = y6_2 → ((y6_2) = (a2)) → ((y6_1) = (a1)) → Q none σ c s) : Ew 387 (d + 0) 0 (rargs 0 [.ref (D 6), I a1, I a2]) [] σ c s Q := by
  refine Ew_of (pcₚ := 1) (fun _ => x_aload_n rfl rfl) ?_
  refine Ew_of (pcₚ := 2) (fun _ => x_iload_n rfl rfl) ?_
  refine w_pI H (o := 6) rfl rfl (H.perm 6 rfl) rfl rfl rfl (fun _ => rfl) rfl (show (0 : Int) ≤ a1 ∧ a1 ≤ 3 from q_1980 h2) (fun σ H => ?_)
  refine Ew_of (pcₚ := 6) (fun _ => x_aload_n rfl rfl) ?_
  refine Ew_of (pcₚ := 7) (fun _ => x_iload_n rfl rfl) ?_
  refine w_pI H (o := 6) rfl rfl (H.perm 6 rfl) rfl rfl rfl (fun _ => rfl) rfl (show (0 : Int) ≤ a2 ∧ a2 ≤ 8 from q_1981 h2) (fun σ H => ?_)
  exact w_ret rfl (k σ _ _ H (SF_upd (SF_upd (SF_refl) rfl) rfl) (SA_refl) (a1) (rfl) (a2) (rfl) (show (a2) = a2 from q_303) (show (a1) = a1 from q_303))

theorem M80p {σ0 σ : rS} {D N : Nat → Nat} {F : hF} {A : hA} {d c s : Nat} {Q : wQ} (H : HS σ0 σ D N F A) {a1 : Int} (u1_1 : Int) (eu1_1 : F 1 1 = u1_1) (u3_2 : Int) (eu3_2 : F 3 2 = u3_2) (u4_5 : Int) (eu4_5 : F 4 5 = u4_5) (u5_2 : Int) (eu5_2 : F 5 2 = u5_2) (u5_3 : Int) (eu5_3 : F 5 3 = u5_3) (u5_4 : Int) (eu5_4 : F 5 4 = u5_4) (u6_1 : Int) (eu6_1 : F 6 1 = u6_1) (u6_2 : Int) (eu6_2 : F 6 2 = u6_2) (u6_4 : Int) (eu6_4 : F 6 4 = u6_4) (u6_5 : Int) (eu6_5 : F 6 5 = u6_5) (u6_6 : Int) (eu6_6 : F 6 6 = u6_6) (u6_35 : Int) (eu6_35 : F 6 35 = u6_35) (w12 : Int → Int) (ew12 : A 12 = w12) (w14 : Int → Int) (ew14 : A 14 = w14) (w16 : Int → Int) (ew16 : A 16 = w16) (w24 : Int → Int) (ew24 : A 24 = w24) (w25 : Int → Int) (ew25 : A 25 = w25) (w26 : Int → Int) (ew26 : A 26 = w26) (w27 : Int → Int) (ew27 : A 27 = w27) (w28 : Int → Int) (ew28 : A 28 = w28) (w29 : Int → Int) (ew29 : A 29 = w29) (w30 : Int → Int) (ew30 : A 30 = w30) (w48 : Int → Int) (ew48 : A 48 = w48) (w49 : Int → Int) (ew49 : A 49 = w49) (w50 : Int → Int) (ew50 : A 50 = w50) (w51 : Int → Int) (ew51 : A 51 = w51) (w52 : Int → Int) (ew52 : A 52 = w52) (w69 : Int → Int) (ew69 : A 69 = w69) (w88 : Int → Int) (ew88 : A 88 = w88) (Dc : DcS) (h0 : inr (a1)) (h1 : 0 ≤ (a1) ∧ (a1) ≤ 5) (h2 : SE ((w12))) (h3 : andI (((w12)) 3) 2 = 0) (h4 : 3 ≤ (u6_2)) (h5 : DW ((u6_6)) ((w49)) ((w50)) ((w51))) (h6 : (a1) < 2 → (u3_2) + (u1_1) ≤ 16384) (h7 : (u1_1) ≤ 16384) (h8 : (a1) = 4 → (u6_4) + (u1_1) ≤ 16384) (h9 : KQ bN ((w24)) ((u4_5))) (h10 : KQ bF ((w25)) ((u4_5))) (h11 : RDI Dc ((u5_4)) ((u5_3)) ((w26)) ((u5_2)) ((w27)) ((w28)) ((w29)) ((w30))) (h12 : WEQ ((u6_6)) ((u6_5)) ((u6_4)) ((w48)) ((w49)) ((w50)) ((w51)) ((w52)) ((u5_4)) ((u5_3)) ((u5_2)) ((w26)) ((w27)) ((w28)) ((w29)) ((w30))) (h13 : MDX ((w69)) ((u6_35))) (h14 : (u6_2) = ((w12)) 1) (h15 : (u6_1) = ((w12)) 0) (h16 : (u6_6) = 0 ∨ 1 ≤ ((w52)) 0 ∧ 1 ≤ ((w52)) 1 ∧ 1 ≤ ((w52)) 2) (k : ∀ (z : Int) σ Fₚ Aₚ, HS σ0 σ D N Fₚ Aₚ → SF [(1, 3), (3, 5), (3, 6), (3, 8), (3, 10), (4, 2), (4, 5), (4, 6), (4, 7), (6, 12), (6, 17), (6, 22), (6, 23), (6, 24), (6, 28), (6, 30), (6, 35), (6, 37), (6, 49), (6, 53)] F Fₚ → SA [15, 17, 18, 19, 20, 23, 24, 25, 53, 54, 55, 56, 57, 58, 59, 60, 61, 62, 63, 64, 65, 66, 67, 68, 69, 70, 71, 72, 73, 74, 75, 76, 77, 78, 79, 80, 81, 82, 83, 84, 85, 86, 87, 88] A Aₚ → ∀ y1_3 : Int, Fₚ 1 3 = y1_3 → ∀ y4_5 : Int, Fₚ 4 5 = y4_5 → ∀ y6_35 : Int, Fₚ 6 35 = y6_35 → ∀ v15 : Int → Int, Aₚ 15 = v15 → ∀ v24 : Int → Int, Aₚ 24 = v24 → ∀ v25 : Int → Int, Aₚ 25 = v25 → ∀ v69 : Int → Int, Aₚ 69 = v69 → ∀ v88 : Int → Int, Aₚ 88 = v88 → (inr (z)) → (KQ bN ((v24)) ((y4_5))) → (KQ bF ((v25)) ((y4_5))) → (WRX ((a1)) ((w12)) (sc ((w14)) 0 ((u1_1))) (sc ((w16)) 0 ((u3_2))) Dc (bgS ((u6_6)) ((w49)) ((w50)) ((w51)) ((w52)) (fun _ => 0)) ((z)) (sc ((v15)) 0 ((y1_3)))) → (MDX ((v69)) ((y6_35))) → (IMP (((a1) : Int) = 4 ∧ (0 : Int) ≤ (z)) (∀ i, 0 ≤ i → i < 12 → ((v88)) i = (frD ((w12)) (sc ((w14)) 0 ((u1_1))) Dc (bgS ((u6_6)) ((w49)) ((w50)) ((w51)) ((w52)) (fun _ => 0))).2.2.2.2 i)) → (IMP (((a1) : Int) ≠ 4 ∨ (z) < 0) (∀ i, 0 ≤ i → i < 12 → ((v88)) i = ((w88)) i)) → (-1 ≤ (z) ∧ (z) ≤ 65536) → ((z) < 0 ∨ (z) = (y1_3)) → Q (some (I z)) σ c s) : Ew 80 (d + 9) 0 (rargs 0 [.ref (D 0), I a1]) [] σ c s Q := by
  have r1 : (0 : Int) ≤ u1_1 ∧ u1_1 ≤ 65536 := rngE (show (0 : Int) ≤ F 1 1 ∧ F 1 1 ≤ 65536 from H.frng 1 1) (show F 1 1 = u1_1 from (eu1_1))
  have r2 : (0 : Int) ≤ u3_2 ∧ u3_2 ≤ 65536 := rngE (show (0 : Int) ≤ F 3 2 ∧ F 3 2 ≤ 65536 from H.frng 3 2) (show F 3 2 = u3_2 from (eu3_2))
  have r3 : (0 : Int) ≤ u4_5 ∧ u4_5 ≤ 16384 := rngE (show (0 : Int) ≤ F 4 5 ∧ F 4 5 ≤ 16384 from H.frng 4 5) (show F 4 5 = u4_5 from (eu4_5))
  have r4 : (0 : Int) ≤ u5_2 ∧ u5_2 ≤ 65536 := rngE (show (0 : Int) ≤ F 5 2 ∧ F 5 2 ≤ 65536 from H.frng 5 2) (show F 5 2 = u5_2 from (eu5_2))
  have r5 : (-2147483648 : Int) ≤ u5_3 ∧ u5_3 ≤ 2147483647 := rngE (show (-2147483648 : Int) ≤ F 5 3 ∧ F 5 3 ≤ 2147483647 from H.frng 5 3) (show F 5 3 = u5_3 from (eu5_3))
  have r6 : (0 : Int) ≤ u5_4 ∧ u5_4 ≤ 1 := rngE (show (0 : Int) ≤ F 5 4 ∧ F 5 4 ≤ 1 from H.frng 5 4) (show F 5 4 = u5_4 from (eu5_4))
  have r7 : (0 : Int) ≤ u6_1 ∧ u6_1 ≤ 3 := rngE (show (0 : Int) ≤ F 6 1 ∧ F 6 1 ≤ 3 from H.frng 6 1) (show F 6 1 = u6_1 from (eu6_1))
  have r8 : (0 : Int) ≤ u6_2 ∧ u6_2 ≤ 8 := rngE (show (0 : Int) ≤ F 6 2 ∧ F 6 2 ≤ 8 from H.frng 6 2) (show F 6 2 = u6_2 from (eu6_2))
  have r9 : (0 : Int) ≤ u6_4 ∧ u6_4 ≤ 65536 := rngE (show (0 : Int) ≤ F 6 4 ∧ F 6 4 ≤ 65536 from H.frng 6 4) (show F 6 4 = u6_4 from (eu6_4))
  have r10 : (-2147483648 : Int) ≤ u6_5 ∧ u6_5 ≤ 2147483647 := rngE (show (-2147483648 : Int) ≤ F 6 5 ∧ F 6 5 ≤ 2147483647 from H.frng 6 5) (show F 6 5 = u6_5 from (eu6_5))
  have r11 : (0 : Int) ≤ u6_6 ∧ u6_6 ≤ 1 := rngE (show (0 : Int) ≤ F 6 6 ∧ F 6 6 ≤ 1 from H.frng 6 6) (show F 6 6 = u6_6 from (eu6_6))
  have r12 : (0 : Int) ≤ u6_35 ∧ u6_35 ≤ 100000000 := rngE (show (0 : Int) ≤ F 6 35 ∧ F 6 35 ≤ 100000000 from H.frng 6 35) (show F 6 35 = u6_35 from (eu6_35))
  have hse : SE ((w12)) := h2
  unfold SE at hse
  have hmd : MDX ((w69)) ((u6_35)) := h13
  have hdw := DC_w (by assumption : WEQ ((u6_6)) ((u6_5)) ((u6_4)) ((w48)) ((w49)) ((w50)) ((w51)) ((w52)) ((u5_4)) ((u5_3)) ((u5_2)) ((w26)) ((w27)) ((w28)) ((w29)) ((w30))) (by assumption : RDI Dc ((u5_4)) ((u5_3)) ((w26)) ((u5_2)) ((w27)) ((w28)) ((w29)) ((w30)))
  have hhl : ((sc ((w16)) 0 ((u3_2))).length : Int) = (u3_2) := by rw [sc_lenI (by omega)]; omega
  refine Ew_of (pcₚ := 1) (fun _ => x_iload_n rfl rfl) ?_
  by_cases b13 : a1 = 0
  · refine w_tsk 0 36 rfl (show inr (a1) from h0) (by omega) (by decide) rfl rfl ?_
    refine Ew_of (pcₚ := 37) (fun _ => x_aload_n rfl rfl) ?_
    refine w_gT H (o := 0) (t := 3) rfl (H.perm 0 rfl) rfl rfl rfl rfl rfl rfl ?_
    refine Ew_of (pcₚ := 41) (fun _ => x_aload_n rfl rfl) ?_
    refine w_gT H (o := 0) (t := 12) rfl (H.perm 0 rfl) rfl rfl rfl rfl rfl rfl ?_
    refine Ew_of (pcₚ := 45) (fun _ => x_iconst rfl) ?_
    refine w_lI H (o := 12) (n := 10) rfl (H.perm 12 rfl) rfl rfl (H.fix 12 rfl rfl) (show 0 ≤ 0 ∧ 0 < ((10 : Nat) : Int) from q_2885) (by decide) (fun v14 ev14 qv14 => ?_)
    have qv14 : (-2147483648 : Int) ≤ v14 ∧ v14 ≤ 2147483647 := qv14
    have ev14 : (w12) (0) = v14 := (congrFun (ew12) (0)).symm.trans ev14
    have hv0 := ev14
    refine w_inv H (o := 3) rfl rfl rfl (H.perm 3 rfl) rfl rfl (by rfl) (M370 H (u1_1) ((eu1_1)) (u3_2) ((eu3_2)) (w14) (ew14) (w16) (ew16) (show inr (v14) from q_18 qv14) (show (u3_2) + (u1_1) ≤ 16384 from q_2886 b13 h6) (show 0 ≤ (v14) ∧ (v14) ≤ 3 from q_5023 ev14 h15 r7) (fun z19 σ F15 A16 H hS17 hA18 y20 ey21 wq22 ewq23 pz19_0 pz19_1 => ⟨rfl, ?_⟩))
    have r24 : (0 : Int) ≤ y20 ∧ y20 ≤ 65536 := rngE (show (0 : Int) ≤ F15 1 3 ∧ F15 1 3 ≤ 65536 from H.frng 1 3) (show F15 1 3 = y20 from (ey21))
    have : WRX ((a1)) ((w12)) (sc ((w14)) 0 ((u1_1))) (sc ((w16)) 0 ((u3_2))) Dc (bgS ((u6_6)) ((w49)) ((w50)) ((w51)) ((w52)) (fun _ => 0)) ((z19)) (sc ((wq22)) 0 ((y20))) := by rw [show ((a1) : Int) = 0 by omega]; exact WRX_0 (by rw [hhl, hv0]; exact pz19_1)
    have : IMP (((a1) : Int) = 4 ∧ (0 : Int) ≤ (z19)) (∀ i, 0 ≤ i → i < 12 → ((w88)) i = (frD ((w12)) (sc ((w14)) 0 ((u1_1))) Dc (bgS ((u6_6)) ((w49)) ((w50)) ((w51)) ((w52)) (fun _ => 0))).2.2.2.2 i) := fun q => absurd q.1 (by omega)
    have : IMP (((a1) : Int) ≠ 4 ∨ (z19) < 0) (∀ i, 0 ≤ i → i < 12 → ((w88)) i = ((w88)) i) := fun _ _ _ _ => rfl
    have hwn := WRT_n2 pz19_1
    exact w_ireturn rfl (k (z19) σ _ _ H (SF_trans (SF_refl) hS17 (any_sub rfl)) (SA_trans (SA_refl) hA18 (any_subA rfl)) (y20) ((ey21)) (u4_5) (((hS17 4 5 rfl).trans (eu4_5))) (u6_35) (((hS17 6 35 rfl).trans (eu6_35))) (wq22) (ewq23) (w24) ((funext (hA18 24 rfl)).trans (ew24)) (w25) ((funext (hA18 25 rfl)).trans (ew25)) (w69) ((funext (hA18 69 rfl)).trans (ew69)) (w88) ((funext (hA18 88 rfl)).trans (ew88)) (show inr (z19) from pz19_0) (h9) (show KQ bF ((w25)) ((u4_5)) by assumption) (show WRX (a1) ((w12)) (sc ((w14)) 0 ((u1_1))) (sc ((w16)) 0 ((u3_2))) Dc (bgS ((u6_6)) ((w49)) ((w50)) ((w51)) ((w52)) (fun _ => 0)) ((z19)) (sc ((wq22)) 0 ((y20))) by assumption) (hmd) (show IMP ((a1 : Int) = 4 ∧ (0 : Int) ≤ (z19)) (∀ i, 0 ≤ i → i < 12 → ((w88)) i = (frD ((w12)) (sc ((w14)) 0 ((u1_1))) Dc (bgS ((u6_6)) ((w49)) ((w50)) ((w51)) ((w52)) (fun _ => 0))).2.2.2.2 i) by assumption) (show IMP ((a1 : Int) ≠ 4 ∨ (z19) < 0) (∀ i, 0 ≤ i → i < 12 → ((w88)) i = ((w88)) i) by assumption) (show -1 ≤ (z19) ∧ (z19) ≤ 65536 by omega) (show (z19) < 0 ∨ (z19) = (y20) by omega))
  ·
    by_cases b25 : a1 = 1
    · refine w_tsk 1 50 rfl (show inr (a1) from h0) (by omega) (by decide) rfl rfl ?_
      refine Ew_of (pcₚ := 51) (fun _ => x_aload_n rfl rfl) ?_
      refine w_gT H (o := 0) (t := 3) rfl (H.perm 0 rfl) rfl rfl rfl rfl rfl rfl ?_
      refine Ew_of (pcₚ := 55) (fun _ => x_aload_n rfl rfl) ?_
      refine w_gT H (o := 0) (t := 12) rfl (H.perm 0 rfl) rfl rfl rfl rfl rfl rfl ?_
      refine Ew_of (pcₚ := 59) (fun _ => x_iconst rfl) ?_
      refine w_lI H (o := 12) (n := 10) rfl (H.perm 12 rfl) rfl rfl (H.fix 12 rfl rfl) (show 0 ≤ 3 ∧ 3 < ((10 : Nat) : Int) from q_2887) (by decide) (fun v26 ev26 qv26 => ?_)
      have qv26 : (-2147483648 : Int) ≤ v26 ∧ v26 ≤ 2147483647 := qv26
      have ev26 : (w12) (3) = v26 := (congrFun (ew12) (3)).symm.trans ev26
      have hw3 := ev26
      have hf3 : andI ((v26)) 2 = 0 := by rw [← hw3]; omega
      refine Ew_of (pcₚ := 61) (fun _ => x_aload_n rfl rfl) ?_
      refine w_gT H (o := 0) (t := 12) rfl (H.perm 0 rfl) rfl rfl rfl rfl rfl rfl ?_
      refine Ew_of (pcₚ := 65) (fun _ => x_iconst rfl) ?_
      refine w_lI H (o := 12) (n := 10) rfl (H.perm 12 rfl) rfl rfl (H.fix 12 rfl rfl) (show 0 ≤ 4 ∧ 4 < ((10 : Nat) : Int) from q_2888) (by decide) (fun v27 ev27 qv27 => ?_)
      have qv27 : (-2147483648 : Int) ≤ v27 ∧ v27 ≤ 2147483647 := qv27
      have ev27 : (w12) (4) = v27 := (congrFun (ew12) (4)).symm.trans ev27
      have hw4 := ev27
      refine Ew_of (pcₚ := 67) (fun _ => x_aload_n rfl rfl) ?_
      refine w_gT H (o := 0) (t := 12) rfl (H.perm 0 rfl) rfl rfl rfl rfl rfl rfl ?_
      refine Ew_of (pcₚ := 71) (fun _ => x_iconst rfl) ?_
      refine w_lI H (o := 12) (n := 10) rfl (H.perm 12 rfl) rfl rfl (H.fix 12 rfl rfl) (show 0 ≤ 5 ∧ 5 < ((10 : Nat) : Int) from q_2889) (by decide) (fun v28 ev28 qv28 => ?_)
      have qv28 : (-2147483648 : Int) ≤ v28 ∧ v28 ≤ 2147483647 := qv28
      have ev28 : (w12) (5) = v28 := (congrFun (ew12) (5)).symm.trans ev28
      have hw5 := ev28
      refine Ew_of (pcₚ := 73) (fun _ => x_aload_n rfl rfl) ?_
      refine w_gT H (o := 0) (t := 12) rfl (H.perm 0 rfl) rfl rfl rfl rfl rfl rfl ?_
      refine Ew_of (pcₚ := 77) (fun _ => x_iconst rfl) ?_
      refine w_lI H (o := 12) (n := 10) rfl (H.perm 12 rfl) rfl rfl (H.fix 12 rfl rfl) (show 0 ≤ 2 ∧ 2 < ((10 : Nat) : Int) from q_2345) (by decide) (fun v29 ev29 qv29 => ?_)
      have qv29 : (-2147483648 : Int) ≤ v29 ∧ v29 ≤ 2147483647 := qv29
      have ev29 : (w12) (2) = v29 := (congrFun (ew12) (2)).symm.trans ev29
      have hw2 := ev29
      refine Ew_of (pcₚ := 79) (fun _ => x_aload_n rfl rfl) ?_
      refine w_gT H (o := 0) (t := 12) rfl (H.perm 0 rfl) rfl rfl rfl rfl rfl rfl ?_
      refine Ew_of (pcₚ := 83) (fun _ => x_iconst rfl) ?_
      refine w_lI H (o := 12) (n := 10) rfl (H.perm 12 rfl) rfl rfl (H.fix 12 rfl rfl) (show 0 ≤ 0 ∧ 0 < ((10 : Nat) : Int) from q_2885) (by decide) (fun v30 ev30 qv30 => ?_)
      have qv30 : (-2147483648 : Int) ≤ v30 ∧ v30 ≤ 2147483647 := qv30
      have ev30 : (w12) (0) = v30 := (congrFun (ew12) (0)).symm.trans ev30
      have hw0 := ev30
      refine w_inv H (o := 3) rfl rfl rfl (H.perm 3 rfl) rfl rfl (by rfl) (M378 H (u1_1) ((eu1_1)) (u3_2) ((eu3_2)) (w14) (ew14) (w16) (ew16) (show inr (v26) from q_18 qv26) (show inr (v27) from q_18 qv27) (show inr (v28) from q_18 qv28) (show inr (v29) from q_18 qv29) (show inr (v30) from q_18 qv30) (show (u3_2) + (u1_1) ≤ 16384 from q_2890 b25 h6) (show 64 ≤ (v26) ∧ (v26) < 128 by omega) (show andI ((v26)) 2 = 0 from hf3) (show 4 ≤ (v27) ∧ (v27) ≤ 7 by omega) (show 1 ≤ (v29) ∧ (v29) ≤ 65536 by omega) (show 0 ≤ (v30) ∧ (v30) ≤ 3 from q_5023 ev30 h15 r7) (fun z35 σ F31 A32 H hS33 hA34 y36 ey37 wq38 ewq39 pz35_0 pz35_1 => ⟨rfl, ?_⟩))
      have r40 : (0 : Int) ≤ y36 ∧ y36 ≤ 65536 := rngE (show (0 : Int) ≤ F31 1 3 ∧ F31 1 3 ≤ 65536 from H.frng 1 3) (show F31 1 3 = y36 from (ey37))
      have : WRX ((a1)) ((w12)) (sc ((w14)) 0 ((u1_1))) (sc ((w16)) 0 ((u3_2))) Dc (bgS ((u6_6)) ((w49)) ((w50)) ((w51)) ((w52)) (fun _ => 0)) ((z35)) (sc ((wq38)) 0 ((y36))) := by rw [show ((a1) : Int) = 1 by omega]; have h := pz35_1; rw [← hw3, ← hw4, ← hw5, ← hw2, ← hw0] at h; exact WRX_1 h
      have : IMP (((a1) : Int) = 4 ∧ (0 : Int) ≤ (z35)) (∀ i, 0 ≤ i → i < 12 → ((w88)) i = (frD ((w12)) (sc ((w14)) 0 ((u1_1))) Dc (bgS ((u6_6)) ((w49)) ((w50)) ((w51)) ((w52)) (fun _ => 0))).2.2.2.2 i) := fun q => absurd q.1 (by omega)
      have : IMP (((a1) : Int) ≠ 4 ∨ (z35) < 0) (∀ i, 0 ≤ i → i < 12 → ((w88)) i = ((w88)) i) := fun _ _ _ _ => rfl
      have hwn := WRT_n2 pz35_1
      exact w_ireturn rfl (k (z35) σ _ _ H (SF_trans (SF_refl) hS33 (any_sub rfl)) (SA_trans (SA_refl) hA34 (any_subA rfl)) (y36) ((ey37)) (u4_5) (((hS33 4 5 rfl).trans (eu4_5))) (u6_35) (((hS33 6 35 rfl).trans (eu6_35))) (wq38) (ewq39) (w24) ((funext (hA34 24 rfl)).trans (ew24)) (w25) ((funext (hA34 25 rfl)).trans (ew25)) (w69) ((funext (hA34 69 rfl)).trans (ew69)) (w88) ((funext (hA34 88 rfl)).trans (ew88)) (show inr (z35) from pz35_0) (h9) (show KQ bF ((w25)) ((u4_5)) by assumption) (show WRX (a1) ((w12)) (sc ((w14)) 0 ((u1_1))) (sc ((w16)) 0 ((u3_2))) Dc (bgS ((u6_6)) ((w49)) ((w50)) ((w51)) ((w52)) (fun _ => 0)) ((z35)) (sc ((wq38)) 0 ((y36))) by assumption) (hmd) (show IMP ((a1 : Int) = 4 ∧ (0 : Int) ≤ (z35)) (∀ i, 0 ≤ i → i < 12 → ((w88)) i = (frD ((w12)) (sc ((w14)) 0 ((u1_1))) Dc (bgS ((u6_6)) ((w49)) ((w50)) ((w51)) ((w52)) (fun _ => 0))).2.2.2.2 i) by assumption) (show IMP ((a1 : Int) ≠ 4 ∨ (z35) < 0) (∀ i, 0 ≤ i → i < 12 → ((w88)) i = ((w88)) i) by assumption) (show -1 ≤ (z35) ∧ (z35) ≤ 65536 by omega) (show (z35) < 0 ∨ (z35) = (y36) by omega))
    ·
      by_cases b41 : a1 = 2
      · refine w_tsk 2 88 rfl (show inr (a1) from h0) (by omega) (by decide) rfl rfl ?_
        refine Ew_of (pcₚ := 89) (fun _ => x_aload_n rfl rfl) ?_
        refine w_gT H (o := 0) (t := 4) rfl (H.perm 0 rfl) rfl rfl rfl rfl rfl rfl ?_
        refine Ew_of (pcₚ := 93) (fun _ => x_aload_n rfl rfl) ?_
        refine w_gT H (o := 0) (t := 12) rfl (H.perm 0 rfl) rfl rfl rfl rfl rfl rfl ?_
        refine Ew_of (pcₚ := 97) (fun _ => x_iconst rfl) ?_
        refine w_lI H (o := 12) (n := 10) rfl (H.perm 12 rfl) rfl rfl (H.fix 12 rfl rfl) (show 0 ≤ 0 ∧ 0 < ((10 : Nat) : Int) from q_2885) (by decide) (fun v42 ev42 qv42 => ?_)
        have qv42 : (-2147483648 : Int) ≤ v42 ∧ v42 ≤ 2147483647 := qv42
        have ev42 : (w12) (0) = v42 := (congrFun (ew12) (0)).symm.trans ev42
        have hv0 := ev42
        refine w_inv H (o := 4) rfl rfl rfl (H.perm 4 rfl) rfl rfl (by rfl) (M334 H (u1_1) ((eu1_1)) (u4_5) ((eu4_5)) (w14) (ew14) (w24) (ew24) (w25) (ew25) (show inr (v42) from q_18 qv42) (show 0 ≤ (v42) ∧ (v42) ≤ 3 from q_5023 ev42 h15 r7) (show (u1_1) ≤ 16384 from h7) (h9) (show KQ bF ((w25)) ((u4_5)) by assumption) (fun z47 σ F43 A44 H hS45 hA46 y48 ey49 y50 ey51 wq52 ewq53 wq54 ewq55 wq56 ewq57 pz47_0 pz47_1 pz47_2 pz47_3 => ⟨rfl, ?_⟩))
        have r58 : (0 : Int) ≤ y48 ∧ y48 ≤ 65536 := rngE (show (0 : Int) ≤ F43 1 3 ∧ F43 1 3 ≤ 65536 from H.frng 1 3) (show F43 1 3 = y48 from (ey49))
        have r59 : (0 : Int) ≤ y50 ∧ y50 ≤ 16384 := rngE (show (0 : Int) ≤ F43 4 5 ∧ F43 4 5 ≤ 16384 from H.frng 4 5) (show F43 4 5 = y50 from (ey51))
        have : WRX ((a1)) ((w12)) (sc ((w14)) 0 ((u1_1))) (sc ((w16)) 0 ((u3_2))) Dc (bgS ((u6_6)) ((w49)) ((w50)) ((w51)) ((w52)) (fun _ => 0)) ((z47)) (sc ((wq52)) 0 ((y48))) := by rw [show ((a1) : Int) = 2 by omega]; have h := pz47_3; rw [← hv0] at h; exact WRX_2 h
        have : IMP (((a1) : Int) = 4 ∧ (0 : Int) ≤ (z47)) (∀ i, 0 ≤ i → i < 12 → ((w88)) i = (frD ((w12)) (sc ((w14)) 0 ((u1_1))) Dc (bgS ((u6_6)) ((w49)) ((w50)) ((w51)) ((w52)) (fun _ => 0))).2.2.2.2 i) := fun q => absurd q.1 (by omega)
        have : IMP (((a1) : Int) ≠ 4 ∨ (z47) < 0) (∀ i, 0 ≤ i → i < 12 → ((w88)) i = ((w88)) i) := fun _ _ _ _ => rfl
        have hwn := WRT_n2 pz47_3
        exact w_ireturn rfl (k (z47) σ _ _ H (SF_trans (SF_refl) hS45 (any_sub rfl)) (SA_trans (SA_refl) hA46 (any_subA rfl)) (y48) ((ey49)) (y50) ((ey51)) (u6_35) (((hS45 6 35 rfl).trans (eu6_35))) (wq52) (ewq53) (wq54) (ewq55) (wq56) (ewq57) (w69) ((funext (hA46 69 rfl)).trans (ew69)) (w88) ((funext (hA46 88 rfl)).trans (ew88)) (show inr (z47) from pz47_0) (pz47_1) (pz47_2) (show WRX (a1) ((w12)) (sc ((w14)) 0 ((u1_1))) (sc ((w16)) 0 ((u3_2))) Dc (bgS ((u6_6)) ((w49)) ((w50)) ((w51)) ((w52)) (fun _ => 0)) ((z47)) (sc ((wq52)) 0 ((y48))) by assumption) (hmd) (show IMP ((a1 : Int) = 4 ∧ (0 : Int) ≤ (z47)) (∀ i, 0 ≤ i → i < 12 → ((w88)) i = (frD ((w12)) (sc ((w14)) 0 ((u1_1))) Dc (bgS ((u6_6)) ((w49)) ((w50)) ((w51)) ((w52)) (fun _ => 0))).2.2.2.2 i) by assumption) (show IMP ((a1 : Int) ≠ 4 ∨ (z47) < 0) (∀ i, 0 ≤ i → i < 12 → ((w88)) i = ((w88)) i) by assumption) (show -1 ≤ (z47) ∧ (z47) ≤ 65536 by omega) (show (z47) < 0 ∨ (z47) = (y48) by omega))
      ·
        by_cases b60 : a1 = 3
        · refine w_tsk 3 102 rfl (show inr (a1) from h0) (by omega) (by decide) rfl rfl ?_
          refine Ew_of (pcₚ := 103) (fun _ => x_aload_n rfl rfl) ?_
          refine w_gT H (o := 0) (t := 4) rfl (H.perm 0 rfl) rfl rfl rfl rfl rfl rfl ?_
          refine Ew_of (pcₚ := 107) (fun _ => x_aload_n rfl rfl) ?_
          refine w_gT H (o := 0) (t := 12) rfl (H.perm 0 rfl) rfl rfl rfl rfl rfl rfl ?_
          refine Ew_of (pcₚ := 111) (fun _ => x_iconst rfl) ?_
          refine w_lI H (o := 12) (n := 10) rfl (H.perm 12 rfl) rfl rfl (H.fix 12 rfl rfl) (show 0 ≤ 2 ∧ 2 < ((10 : Nat) : Int) from q_2345) (by decide) (fun v61 ev61 qv61 => ?_)
          have qv61 : (-2147483648 : Int) ≤ v61 ∧ v61 ≤ 2147483647 := qv61
          have ev61 : (w12) (2) = v61 := (congrFun (ew12) (2)).symm.trans ev61
          have hw2 := ev61
          refine Ew_of (pcₚ := 113) (fun _ => x_aload_n rfl rfl) ?_
          refine w_gT H (o := 0) (t := 12) rfl (H.perm 0 rfl) rfl rfl rfl rfl rfl rfl ?_
          refine Ew_of (pcₚ := 117) (fun _ => x_iconst rfl) ?_
          refine w_lI H (o := 12) (n := 10) rfl (H.perm 12 rfl) rfl rfl (H.fix 12 rfl rfl) (show 0 ≤ 0 ∧ 0 < ((10 : Nat) : Int) from q_2885) (by decide) (fun v62 ev62 qv62 => ?_)
          have qv62 : (-2147483648 : Int) ≤ v62 ∧ v62 ≤ 2147483647 := qv62
          have ev62 : (w12) (0) = v62 := (congrFun (ew12) (0)).symm.trans ev62
          have hw0 := ev62
          refine Ew_of (pcₚ := 119) (fun _ => x_aload_n rfl rfl) ?_
          refine w_gT H (o := 0) (t := 12) rfl (H.perm 0 rfl) rfl rfl rfl rfl rfl rfl ?_
          refine Ew_of (pcₚ := 124) (fun _ => x_bipush (z := 6) rfl (by decide)) ?_
          refine w_lI H (o := 12) (n := 10) rfl (H.perm 12 rfl) rfl rfl (H.fix 12 rfl rfl) (show 0 ≤ 6 ∧ 6 < ((10 : Nat) : Int) from q_2354) (by decide) (fun v63 ev63 qv63 => ?_)
          have qv63 : (-2147483648 : Int) ≤ v63 ∧ v63 ≤ 2147483647 := qv63
          have ev63 : (w12) (6) = v63 := (congrFun (ew12) (6)).symm.trans ev63
          have hw6 := ev63
          refine w_inv H (o := 4) rfl rfl rfl (H.perm 4 rfl) rfl rfl (by rfl) (M348 H (u1_1) ((eu1_1)) (u4_5) ((eu4_5)) (w14) (ew14) (w24) (ew24) (w25) (ew25) (show inr (v61) from q_18 qv61) (show inr (v62) from q_18 qv62) (show inr (v63) from q_18 qv63) (show 1 ≤ (v61) ∧ (v61) ≤ 65536 by omega) (show 0 ≤ (v62) ∧ (v62) ≤ 3 from q_5023 ev62 h15 r7) (show 0 ≤ (v63) ∧ (v63) ≤ 255 by omega) (show (u1_1) ≤ 16384 from h7) (h9) (show KQ bF ((w25)) ((u4_5)) by assumption) (fun z68 σ F64 A65 H hS66 hA67 y69 ey70 y71 ey72 wq73 ewq74 wq75 ewq76 wq77 ewq78 pz68_0 pz68_1 pz68_2 pz68_3 => ⟨rfl, ?_⟩))
          have r79 : (0 : Int) ≤ y69 ∧ y69 ≤ 65536 := rngE (show (0 : Int) ≤ F64 1 3 ∧ F64 1 3 ≤ 65536 from H.frng 1 3) (show F64 1 3 = y69 from (ey70))
          have r80 : (0 : Int) ≤ y71 ∧ y71 ≤ 16384 := rngE (show (0 : Int) ≤ F64 4 5 ∧ F64 4 5 ≤ 16384 from H.frng 4 5) (show F64 4 5 = y71 from (ey72))
          have : WRX ((a1)) ((w12)) (sc ((w14)) 0 ((u1_1))) (sc ((w16)) 0 ((u3_2))) Dc (bgS ((u6_6)) ((w49)) ((w50)) ((w51)) ((w52)) (fun _ => 0)) ((z68)) (sc ((wq73)) 0 ((y69))) := by rw [show ((a1) : Int) = 3 by omega]; have h := pz68_3; rw [← hw2, ← hw0, ← hw6] at h; exact WRX_3 h
          have : IMP (((a1) : Int) = 4 ∧ (0 : Int) ≤ (z68)) (∀ i, 0 ≤ i → i < 12 → ((w88)) i = (frD ((w12)) (sc ((w14)) 0 ((u1_1))) Dc (bgS ((u6_6)) ((w49)) ((w50)) ((w51)) ((w52)) (fun _ => 0))).2.2.2.2 i) := fun q => absurd q.1 (by omega)
          have : IMP (((a1) : Int) ≠ 4 ∨ (z68) < 0) (∀ i, 0 ≤ i → i < 12 → ((w88)) i = ((w88)) i) := fun _ _ _ _ => rfl
          have hwn := WRT_n2 pz68_3
          exact w_ireturn rfl (k (z68) σ _ _ H (SF_trans (SF_refl) hS66 (any_sub rfl)) (SA_trans (SA_refl) hA67 (any_subA rfl)) (y69) ((ey70)) (y71) ((ey72)) (u6_35) (((hS66 6 35 rfl).trans (eu6_35))) (wq73) (ewq74) (wq75) (ewq76) (wq77) (ewq78) (w69) ((funext (hA67 69 rfl)).trans (ew69)) (w88) ((funext (hA67 88 rfl)).trans (ew88)) (show inr (z68) from pz68_0) (pz68_1) (pz68_2) (show WRX (a1) ((w12)) (sc ((w14)) 0 ((u1_1))) (sc ((w16)) 0 ((u3_2))) Dc (bgS ((u6_6)) ((w49)) ((w50)) ((w51)) ((w52)) (fun _ => 0)) ((z68)) (sc ((wq73)) 0 ((y69))) by assumption) (hmd) (show IMP ((a1 : Int) = 4 ∧ (0 : Int) ≤ (z68)) (∀ i, 0 ≤ i → i < 12 → ((w88)) i = (frD ((w12)) (sc ((w14)) 0 ((u1_1))) Dc (bgS ((u6_6)) ((w49)) ((w50)) ((w51)) ((w52)) (fun _ => 0))).2.2.2.2 i) by assumption) (show IMP ((a1 : Int) ≠ 4 ∨ (z68) < 0) (∀ i, 0 ≤ i → i < 12 → ((w88)) i = ((w88)) i) by assumption) (show -1 ≤ (z68) ∧ (z68) ≤ 65536 by omega) (show (z68) < 0 ∨ (z68) = (y69) by omega))
        ·
          by_cases b81 : a1 = 4
          · refine w_tsk 4 129 rfl (show inr (a1) from h0) (by omega) (by decide) rfl rfl ?_
            refine Ew_of (pcₚ := 130) (fun _ => x_aload_n rfl rfl) ?_
            refine w_gT H (o := 0) (t := 6) rfl (H.perm 0 rfl) rfl rfl rfl rfl rfl rfl ?_
            refine Ew_of (pcₚ := 134) (fun _ => x_aload_n rfl rfl) ?_
            refine w_gT H (o := 0) (t := 12) rfl (H.perm 0 rfl) rfl rfl rfl rfl rfl rfl ?_
            refine Ew_of (pcₚ := 139) (fun _ => x_bipush (z := 7) rfl (by decide)) ?_
            refine w_lI H (o := 12) (n := 10) rfl (H.perm 12 rfl) rfl rfl (H.fix 12 rfl rfl) (show 0 ≤ 7 ∧ 7 < ((10 : Nat) : Int) from q_2361) (by decide) (fun v82 ev82 qv82 => ?_)
            have qv82 : (-2147483648 : Int) ≤ v82 ∧ v82 ≤ 2147483647 := qv82
            have ev82 : (w12) (7) = v82 := (congrFun (ew12) (7)).symm.trans ev82
            have hw7 := ev82
            refine Ew_of (pcₚ := 141) (fun _ => x_aload_n rfl rfl) ?_
            refine w_gT H (o := 0) (t := 12) rfl (H.perm 0 rfl) rfl rfl rfl rfl rfl rfl ?_
            refine Ew_of (pcₚ := 146) (fun _ => x_bipush (z := 8) rfl (by decide)) ?_
            refine w_lI H (o := 12) (n := 10) rfl (H.perm 12 rfl) rfl rfl (H.fix 12 rfl rfl) (show 0 ≤ 8 ∧ 8 < ((10 : Nat) : Int) from q_2365) (by decide) (fun v83 ev83 qv83 => ?_)
            have qv83 : (-2147483648 : Int) ≤ v83 ∧ v83 ≤ 2147483647 := qv83
            have ev83 : (w12) (8) = v83 := (congrFun (ew12) (8)).symm.trans ev83
            have hw8 := ev83
            refine Ew_of (pcₚ := 148) (fun _ => x_aload_n rfl rfl) ?_
            refine w_gT H (o := 0) (t := 12) rfl (H.perm 0 rfl) rfl rfl rfl rfl rfl rfl ?_
            refine Ew_of (pcₚ := 152) (fun _ => x_iconst rfl) ?_
            refine w_lI H (o := 12) (n := 10) rfl (H.perm 12 rfl) rfl rfl (H.fix 12 rfl rfl) (show 0 ≤ 2 ∧ 2 < ((10 : Nat) : Int) from q_2345) (by decide) (fun v84 ev84 qv84 => ?_)
            have qv84 : (-2147483648 : Int) ≤ v84 ∧ v84 ≤ 2147483647 := qv84
            have ev84 : (w12) (2) = v84 := (congrFun (ew12) (2)).symm.trans ev84
            have hw2 := ev84
            refine w_inv H (o := 6) rfl rfl rfl (H.perm 6 rfl) rfl rfl (by rfl) (M450 H (u1_1) ((eu1_1)) (u6_1) ((eu6_1)) (u6_2) ((eu6_2)) (u6_4) ((eu6_4)) (u6_5) ((eu6_5)) (u6_6) ((eu6_6)) (u6_35) ((eu6_35)) (w14) (ew14) (w48) (ew48) (w49) (ew49) (w50) (ew50) (w51) (ew51) (w52) (ew52) (w69) (ew69) (w88) (ew88) (show inr (v82) from q_18 qv82) (show inr (v83) from q_18 qv83) (show inr (v84) from q_18 qv84) (show 0 ≤ (v82) ∧ (v82) ≤ 15 by omega) (show 0 ≤ (v83) ∧ (v83) ≤ 11 by omega) (show 1 ≤ (v84) ∧ (v84) ≤ 65536 by omega) (show 3 ≤ (u6_2) from h4) (show 0 ≤ (u6_4) ∧ (u6_4) + (u1_1) ≤ 16384 from q_2891 b81 h8 r9) (h5) (show (u6_2) ≤ 8 ∧ 0 ≤ (u6_1) ∧ (u6_1) ≤ 3 from q_5024 r7 r8) (show (u6_6) = 0 ∨ 1 ≤ ((w52)) 0 ∧ 1 ≤ ((w52)) 1 ∧ 1 ≤ ((w52)) 2 from h16) (fun z89 σ F85 A86 H hS87 hA88 y90 ey91 y92 ey93 wq94 ewq95 wq96 ewq97 wq98 ewq99 pz89_0 pz89_1 pz89_2 pz89_3 => ⟨rfl, ?_⟩))
            have r100 : (0 : Int) ≤ y90 ∧ y90 ≤ 65536 := rngE (show (0 : Int) ≤ F85 1 3 ∧ F85 1 3 ≤ 65536 from H.frng 1 3) (show F85 1 3 = y90 from (ey91))
            have r101 : (0 : Int) ≤ y92 ∧ y92 ≤ 100000000 := rngE (show (0 : Int) ≤ F85 6 35 ∧ F85 6 35 ≤ 100000000 from H.frng 6 35) (show F85 6 35 = y92 from (ey93))
            have hpq : PRQ (frD ((w12)) (sc ((w14)) 0 ((u1_1))) Dc (bgS ((u6_6)) ((w49)) ((w50)) ((w51)) ((w52)) (fun _ => 0))) ((z89)) ((y90)) ((wq94)) ((wq98)) := by have h := (pz89_2 hmd).1; rw [← hw7, ← hw8, ← hw2, anM, ← hdw.1, ← hdw.2, show (u6_2) = ((w12)) 1 by omega, show (u6_1) = ((w12)) 0 by omega] at h; exact h
            have : WRX ((a1)) ((w12)) (sc ((w14)) 0 ((u1_1))) (sc ((w16)) 0 ((u3_2))) Dc (bgS ((u6_6)) ((w49)) ((w50)) ((w51)) ((w52)) (fun _ => 0)) ((z89)) (sc ((wq94)) 0 ((y90))) := by rw [show ((a1) : Int) = 4 by omega]; exact WRX_4 hpq
            have : IMP (((a1) : Int) = 4 ∧ (0 : Int) ≤ (z89)) (∀ i, 0 ≤ i → i < 12 → ((wq98)) i = (frD ((w12)) (sc ((w14)) 0 ((u1_1))) Dc (bgS ((u6_6)) ((w49)) ((w50)) ((w51)) ((w52)) (fun _ => 0))).2.2.2.2 i) := fun q => hpq.2 q.2
            have : IMP (((a1) : Int) ≠ 4 ∨ (z89) < 0) (∀ i, 0 ≤ i → i < 12 → ((wq98)) i = ((w88)) i) := fun q => by rcases q with q | q; (exact absurd q (by omega)); (rw [pz89_3 q]; exact fun _ _ _ => rfl)
            have hm2 := (pz89_2 hmd).2
            have hwn := PRQ_n hpq
            have hsh := pz89_3
            exact w_ireturn rfl (k (z89) σ _ _ H (SF_trans (SF_refl) hS87 (any_sub rfl)) (SA_trans (SA_refl) hA88 (any_subA rfl)) (y90) ((ey91)) (u4_5) (((hS87 4 5 rfl).trans (eu4_5))) (y92) ((ey93)) (wq94) (ewq95) (w24) ((funext (hA88 24 rfl)).trans (ew24)) (w25) ((funext (hA88 25 rfl)).trans (ew25)) (wq96) (ewq97) (wq98) (ewq99) (show inr (z89) from pz89_0) (h9) (show KQ bF ((w25)) ((u4_5)) by assumption) (show WRX (a1) ((w12)) (sc ((w14)) 0 ((u1_1))) (sc ((w16)) 0 ((u3_2))) Dc (bgS ((u6_6)) ((w49)) ((w50)) ((w51)) ((w52)) (fun _ => 0)) ((z89)) (sc ((wq94)) 0 ((y90))) by assumption) (show MDX ((wq96)) ((y92)) by assumption) (show IMP ((a1 : Int) = 4 ∧ (0 : Int) ≤ (z89)) (∀ i, 0 ≤ i → i < 12 → ((wq98)) i = (frD ((w12)) (sc ((w14)) 0 ((u1_1))) Dc (bgS ((u6_6)) ((w49)) ((w50)) ((w51)) ((w52)) (fun _ => 0))).2.2.2.2 i) by assumption) (show IMP ((a1 : Int) ≠ 4 ∨ (z89) < 0) (∀ i, 0 ≤ i → i < 12 → ((wq98)) i = ((w88)) i) by assumption) (show -1 ≤ (z89) ∧ (z89) ≤ 65536 from pz89_1) (show (z89) < 0 ∨ (z89) = (y90) by omega))
          ·
            refine w_tsd 157 rfl (show inr (a1) from h0) (by omega) rfl ?_
            refine Ew_of (pcₚ := 158) (fun _ => x_aload_n rfl rfl) ?_
            refine w_gT H (o := 0) (t := 6) rfl (H.perm 0 rfl) rfl rfl rfl rfl rfl rfl ?_
            refine Ew_of (pcₚ := 162) (fun _ => x_aload_n rfl rfl) ?_
            refine w_gT H (o := 0) (t := 12) rfl (H.perm 0 rfl) rfl rfl rfl rfl rfl rfl ?_
            refine Ew_of (pcₚ := 167) (fun _ => x_bipush (z := 9) rfl (by decide)) ?_
            refine w_lI H (o := 12) (n := 10) rfl (H.perm 12 rfl) rfl rfl (H.fix 12 rfl rfl) (show 0 ≤ 9 ∧ 9 < ((10 : Nat) : Int) from q_2892) (by decide) (fun v102 ev102 qv102 => ?_)
            have qv102 : (-2147483648 : Int) ≤ v102 ∧ v102 ≤ 2147483647 := qv102
            have ev102 : (w12) (9) = v102 := (congrFun (ew12) (9)).symm.trans ev102
            have hw9 := ev102
            refine w_inv H (o := 6) rfl rfl rfl (H.perm 6 rfl) rfl rfl (by rfl) (M454 H (u1_1) ((eu1_1)) (u6_1) ((eu6_1)) (u6_2) ((eu6_2)) (u6_35) ((eu6_35)) (w14) (ew14) (w69) (ew69) (show inr (v102) from q_18 qv102) (show 0 ≤ (u1_1) ∧ (u1_1) ≤ 16384 from q_2893 h7 r1) (show 3 ≤ (u6_2) from h4) (show (u6_2) ≤ 8 ∧ 0 ≤ (u6_1) ∧ (u6_1) ≤ 3 from q_5024 r7 r8) (fun z107 σ F103 A104 H hS105 hA106 y108 ey109 y110 ey111 wq112 ewq113 wq114 ewq115 pz107_0 pz107_1 pz107_2 => ⟨rfl, ?_⟩))
            have r116 : (0 : Int) ≤ y108 ∧ y108 ≤ 65536 := rngE (show (0 : Int) ≤ F103 1 3 ∧ F103 1 3 ≤ 65536 from H.frng 1 3) (show F103 1 3 = y108 from (ey109))
            have r117 : (0 : Int) ≤ y110 ∧ y110 ≤ 100000000 := rngE (show (0 : Int) ≤ F103 6 35 ∧ F103 6 35 ≤ 100000000 from H.frng 6 35) (show F103 6 35 = y110 from (ey111))
            have : WRX ((a1)) ((w12)) (sc ((w14)) 0 ((u1_1))) (sc ((w16)) 0 ((u3_2))) Dc (bgS ((u6_6)) ((w49)) ((w50)) ((w51)) ((w52)) (fun _ => 0)) ((z107)) (sc ((wq112)) 0 ((y108))) := by rw [show ((a1) : Int) = 5 by omega]; have h := (pz107_2 hmd).1; rw [← hw9, ← mkF_m, show (u6_2) = ((w12)) 1 by omega, show (u6_1) = ((w12)) 0 by omega] at h; exact WRX_5 h
            have : IMP (((a1) : Int) = 4 ∧ (0 : Int) ≤ (z107)) (∀ i, 0 ≤ i → i < 12 → ((w88)) i = (frD ((w12)) (sc ((w14)) 0 ((u1_1))) Dc (bgS ((u6_6)) ((w49)) ((w50)) ((w51)) ((w52)) (fun _ => 0))).2.2.2.2 i) := fun q => absurd q.1 (by omega)
            have : IMP (((a1) : Int) ≠ 4 ∨ (z107) < 0) (∀ i, 0 ≤ i → i < 12 → ((w88)) i = ((w88)) i) := fun _ _ _ _ => rfl
            have hm2 := (pz107_2 hmd).2
            have hwn := MKD_n2 (pz107_2 hmd).1
            exact w_ireturn rfl (k (z107) σ _ _ H (SF_trans (SF_refl) hS105 (any_sub rfl)) (SA_trans (SA_refl) hA106 (any_subA rfl)) (y108) ((ey109)) (u4_5) (((hS105 4 5 rfl).trans (eu4_5))) (y110) ((ey111)) (wq112) (ewq113) (w24) ((funext (hA106 24 rfl)).trans (ew24)) (w25) ((funext (hA106 25 rfl)).trans (ew25)) (wq114) (ewq115) (w88) ((funext (hA106 88 rfl)).trans (ew88)) (show inr (z107) from pz107_0) (h9) (show KQ bF ((w25)) ((u4_5)) by assumption) (show WRX (a1) ((w12)) (sc ((w14)) 0 ((u1_1))) (sc ((w16)) 0 ((u3_2))) Dc (bgS ((u6_6)) ((w49)) ((w50)) ((w51)) ((w52)) (fun _ => 0)) ((z107)) (sc ((wq112)) 0 ((y108))) by assumption) (show MDX ((wq114)) ((y110)) by assumption) (show IMP ((a1 : Int) = 4 ∧ (0 : Int) ≤ (z107)) (∀ i, 0 ≤ i → i < 12 → ((w88)) i = (frD ((w12)) (sc ((w14)) 0 ((u1_1))) Dc (bgS ((u6_6)) ((w49)) ((w50)) ((w51)) ((w52)) (fun _ => 0))).2.2.2.2 i) by assumption) (show IMP ((a1 : Int) ≠ 4 ∨ (z107) < 0) (∀ i, 0 ≤ i → i < 12 → ((w88)) i = ((w88)) i) by assumption) (show -1 ≤ (z107) ∧ (z107) ≤ 65536 from pz107_1) (show (z107) < 0 ∨ (z107) = (y108) by omega))


end
