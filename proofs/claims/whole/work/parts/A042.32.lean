theorem M257 {σ0 σ : rS} {D N : Nat → Nat} {F : hF} {A : hA} {d c s : Nat} {Q : wQ} (H : HS σ0 σ D N F A) {a1 a2 : Int} (w14 : Int → Int) (ew14 : A 14 = w14) (h0 : inr (a1)) (h1 : inr (a2)) (h2 : 0 ≤ (a1) ∧ 0 ≤ (a2) ∧ (a2) ≤ 8 ∧ (a1) + (a2) ≤ 65536) (k : ∀ (z : Int) σ Fₚ Aₚ, HS σ0 σ D N Fₚ Aₚ → SF [] F Fₚ → SA [] A Aₚ → (inrJ (z)) → ((a2) = 8 ∨ (z) = nm ((w14)) ((a1)) ((a2) : Int).toNat) → (0 ≤ (z) ∨ (a2) = 8) → ((a2) ≤ 4 → (z) ≤ 4294967295) → ((a2) ≤ 3 → (z) ≤ 16777215) → ((a2) ≤ 2 → (z) ≤ 65535) → ((a2) ≤ 1 → (z) ≤ 255) → ((a2) = 0 → (z) = 0) → ((a2) ≤ 5 → (z) ≤ 1099511627775) → ((z) = nmb ((w14)) ((a1)) ((a2)) ((a2) : Int).toNat) → Q (some (J z)) σ c s) : Ew 257 (d + 0) 0 (rargs 0 [.ref (D 5), I a1, I a2]) [] σ c s Q := by
  refine Ew_of (pcₚ := 1) (fun _ => x_lconst (z := 0) rfl (by decide)) ?_
  refine Ew_of (pcₚ := 2) (fun _ => x_lstore_n rfl) ?_
  refine Ew_of (pcₚ := 3) (fun _ => x_iload_n rfl (rk2_o (rfl) rfl rfl)) ?_
  refine Ew_of (pcₚ := 4) (fun _ => x_iconst rfl) ?_
  refine w_isub rfl ?_
  refine Ew_of (pcₚ := 7) (fun _ => x_istore rfl) ?_
  have : (0 : Int) = nmb ((w14)) ((a1)) ((a2)) ((a2) - 1 - ((a2) - 1) : Int).toNat := by rw [show ((a2) - 1 - ((a2) - 1) : Int).toNat = 0 by omega]; rfl
  suffices hl7 : ∀ (m : Nat), ∀ (ls : rO) (σ : rS) (F_7 : hF) (A_7 : hA) (x7_3 : Int) (x7_5 : Int), rlook ls 0 = some (.ref (D 5)) → rlook ls 1 = some (I (a1)) → rlook ls 3 = some (J (x7_3)) → rlook ls 5 = some (I (x7_5)) → HS σ0 σ D N F_7 A_7 → SF [] F F_7 → SA [] A A_7 → (inrJ (x7_3)) → (inr (x7_5)) → ((x7_5) ≤ ((a2 - 1))) → (((a2 - 1)) ≤ (x7_5) ∨ ((-1)) ≤ (x7_5)) → ((x7_3) = nmb ((w14)) ((a1)) ((a2)) ((a2) - 1 - (x7_5) : Int).toNat) → ((x7_5) - ((-1))).toNat = m → Ew 257 (d + 0) 7 ls [] σ c s Q from
    hl7 _ _ σ _ _ (0) ((a2 - 1)) (rk_o (rk2_o (rfl) rfl rfl) rfl rfl) (rk_o (rk2_o (rfl) rfl rfl) rfl rfl) (rk_o (rk2_s) rfl rfl) (rk_s) H (SF_refl) (SA_refl)   (show inrJ (0) from q_340) (show inr ((a2 - 1)) from q_444 h2) (show ((a2 - 1)) ≤ ((a2 - 1)) from q_419) (show ((a2 - 1)) ≤ ((a2 - 1)) ∨ ((-1)) ≤ ((a2 - 1)) from q_418) (show (0) = nmb ((w14)) ((a1)) ((a2)) ((a2) - 1 - ((a2 - 1)) : Int).toNat by assumption) rfl
  as_aux_lemma =>
  intro m
  induction m using Nat.strongRecOn with
  | _ m ih7 =>
    intro ls σ F_7 A_7 x7_3 x7_5 l7_0 l7_1 l7_3 l7_5 H hS_7 hA_7   j7_0 j7_1 j7_2 j7_3 j7_4 hm7
    have j7_q : (x7_3) = nmb ((w14)) ((a1)) ((a2)) ((a2) - 1 - (x7_5) : Int).toNat := by assumption
    refine Ew_of (pcₚ := 9) (fun _ => x_iload rfl l7_5) ?_
    refine w_iflt (t := 37) rfl rfl (show inr (x7_5) from j7_1) (fun b1 => ?_) (fun b1 => ?_)
    · refine Ew_of (pcₚ := 38) (fun _ => x_lload_n rfl l7_3) ?_
      have hB2 : ∀ i, (0 : Int) ≤ (w14) i ∧ (w14) i ≤ 255 := fun i => by have h1 : (0 : Int) ≤ A_7 14 i ∧ A_7 14 i ≤ 255 := H.arng 14 i; rw [show A_7 14 = w14 from (funext (hA_7 14 rfl)).trans (ew14)] at h1; exact h1
      have hq9 : (x7_3) = nmb ((w14)) ((a1)) ((a2)) ((a2) : Int).toNat := by have h := j7_q; rw [show (a2) - 1 - (x7_5) = (a2) by omega] at h; exact h
      obtain ⟨n1_, n2_, n3_, n4_, n5_, n6_, n7_, n8_⟩ := nmb_all hB2 hq9 (by omega) (by assumption)
      exact w_lreturn rfl (k (x7_3) σ _ _ H (SF_trans (SF_refl) hS_7 (any_sub rfl)) (SA_trans (SA_refl) hA_7 (any_subA rfl)) (show inrJ (x7_3) from j7_0) (show a2 = 8 ∨ (x7_3) = nm ((w14)) (a1) (a2 : Int).toNat by omega) (show 0 ≤ (x7_3) ∨ a2 = 8 by omega) (show a2 ≤ 4 → (x7_3) ≤ 4294967295 by omega) (show a2 ≤ 3 → (x7_3) ≤ 16777215 by omega) (show a2 ≤ 2 → (x7_3) ≤ 65535 by omega) (show a2 ≤ 1 → (x7_3) ≤ 255 by omega) (show a2 = 0 → (x7_3) = 0 by omega) (show a2 ≤ 5 → (x7_3) ≤ 1099511627775 by omega) (hq9))
    · refine Ew_of (pcₚ := 13) (fun _ => x_lload_n rfl l7_3) ?_
      refine Ew_of (pcₚ := 15) (fun _ => x_bipush (z := 8) rfl (by decide)) ?_
      refine w_lshlE rfl ?_
      have g2 : inrJ (shlJ (x7_3) (8)) := toJ_inr _
      refine Ew_of (pcₚ := 17) (fun _ => x_aload_n rfl l7_0) ?_
      refine w_gT H (o := 5) (t := 1) rfl (H.perm 5 rfl) rfl rfl rfl rfl rfl rfl ?_
      refine w_gT H (o := 1) (t := 14) rfl (H.perm 1 rfl) rfl rfl rfl rfl rfl rfl ?_
      refine Ew_of (pcₚ := 24) (fun _ => x_iload_n rfl l7_1) ?_
      refine Ew_of (pcₚ := 26) (fun _ => x_iload rfl l7_5) ?_
      refine w_iadd rfl ?_
      refine w_lI H (o := 14) (n := 65536) rfl (H.perm 14 rfl) rfl rfl (H.fix 14 rfl rfl) (show 0 ≤ (a1 + x7_5) ∧ (a1 + x7_5) < ((65536 : Nat) : Int) from q_445 b1 h2 j7_2) (by decide) (fun v3 ev3 qv3 => ?_)
      have qv3 : (0 : Int) ≤ v3 ∧ v3 ≤ 255 := qv3
      have ev3 : (w14) ((a1 + x7_5)) = v3 := (congrFun ((funext (hA_7 14 rfl)).trans (ew14)) ((a1 + x7_5))).symm.trans ev3
      have hby := ev3
      refine w_i2l rfl (show inr (v3) from q_299 qv3) ?_
      refine w_lorE rfl ?_
      have g4 : inrJ (orJ ((shlJ (x7_3) (8))) (v3)) := toJ_inr _
      have hnf : (((orJ ((shlJ (x7_3) (8))) (v3))) : Int) = nmb ((w14)) ((a1)) ((a2)) ((a2) - 1 - ((x7_5) + (-1)) : Int).toNat := nmb_s (i := (x7_5)) (by omega) (by omega) (by omega) j7_q rfl (by rw [hby]; omega) rfl
      refine Ew_of (pcₚ := 31) (fun _ => x_lstore_n rfl) ?_
      refine Ew_of (pcₚ := 34) (fun _ => x_iinc (len := 3) rfl (rk2_o (l7_5) rfl rfl)) ?_
      refine Ew_of (pcₚ := 7) (fun _ => x_goto rfl rfl) ?_
      exact ih7 _ (msE hm7 q_432 (q_433 b1)) _ σ _ _ ((orJ ((shlJ (x7_3) (8))) (v3))) ((x7_5 + (-1))) (rk_o (rk2_o (l7_0) rfl rfl) rfl rfl) (rk_o (rk2_o (l7_1) rfl rfl) rfl rfl) (rk_o (rk2_s) rfl rfl) (rk_s) H (hS_7) (hA_7)   (show inrJ ((orJ ((shlJ (x7_3) (8))) (v3))) from g4) (show inr ((x7_5 + (-1))) from q_431 b1 j7_1) (show ((x7_5 + (-1))) ≤ ((a2 - 1)) from q_430 j7_2) (show ((a2 - 1)) ≤ ((x7_5 + (-1))) ∨ ((-1)) ≤ ((x7_5 + (-1))) from q_429 b1) (show ((orJ ((shlJ (x7_3) (8))) (v3))) = nmb ((w14)) ((a1)) ((a2)) ((a2) - 1 - ((x7_5 + (-1))) : Int).toNat by assumption) rfl

theorem M258 {σ0 σ : rS} {D N : Nat → Nat} {F : hF} {A : hA} {d c s : Nat} {Q : wQ} (H : HS σ0 σ D N F A) {a1 a2 a3 a4 a5 : Int} (w14 : Int → Int) (ew14 : A 14 = w14) (h0 : inr (a1)) (h1 : inr (a2)) (h2 : inr (a3)) (h3 : inr (a4)) (h4 : inr (a5)) (h5 : 0 ≤ (a1) ∧ (a1) ≤ 65532) (h6 : 0 ≤ (a2) ∧ (a2) ≤ 255 ∧ 0 ≤ (a3) ∧ (a3) ≤ 255 ∧ 0 ≤ (a4) ∧ (a4) ≤ 255 ∧ 0 ≤ (a5) ∧ (a5) ≤ 255) (k : ∀ (z : Int) σ Fₚ Aₚ, HS σ0 σ D N Fₚ Aₚ → SF [] F Fₚ → SA [] A Aₚ → ((z) = 0 ∨ (z) = 1) → ((z) = 1 ∧ nvl ((w14)) ((a1)) 4 = ((a2) + 256 * (a3) + 65536 * (a4) + 16777216 * (a5)) ∨ (z) = 0 ∧ nvl ((w14)) ((a1)) 4 ≠ ((a2) + 256 * (a3) + 65536 * (a4) + 16777216 * (a5))) → Q (some (I z)) σ c s) : Ew 258 (d + 0) 0 (rargs 0 [.ref (D 5), I a1, I a2, I a3, I a4, I a5]) [] σ c s Q := by
  have hB : ∀ i, (0 : Int) ≤ (w14) i ∧ (w14) i ≤ 255 := fun i => by have h1 : (0 : Int) ≤ A 14 i ∧ A 14 i ≤ 255 := H.arng 14 i; rw [show A 14 = w14 from ew14] at h1; exact h1
  have h4 := nvl_4v hB (a := (a1))
  have b0_ := hB ((a1))
  have b1_ := hB ((a1) + 1)
  have b2_ := hB ((a1) + 2)
  have b3_ := hB ((a1) + 3)
  refine Ew_of (pcₚ := 1) (fun _ => x_aload_n rfl rfl) ?_
  refine w_gT H (o := 5) (t := 1) rfl (H.perm 5 rfl) rfl rfl rfl rfl rfl rfl ?_
  refine w_gT H (o := 1) (t := 14) rfl (H.perm 1 rfl) rfl rfl rfl rfl rfl rfl ?_
  refine Ew_of (pcₚ := 8) (fun _ => x_iload_n rfl rfl) ?_
  refine w_lI H (o := 14) (n := 65536) rfl (H.perm 14 rfl) rfl rfl (H.fix 14 rfl rfl) (show 0 ≤ a1 ∧ a1 < ((65536 : Nat) : Int) from q_1226 h5) (by decide) (fun v1 ev1 qv1 => ?_)
  have qv1 : (0 : Int) ≤ v1 ∧ v1 ≤ 255 := qv1
  have ev1 : (w14) (a1) = v1 := (congrFun (ew14) (a1)).symm.trans ev1
  refine Ew_of (pcₚ := 10) (fun _ => x_iload_n rfl rfl) ?_
  refine w_icmpne (t := 64) rfl rfl (show inr (v1) from q_299 qv1) (show inr (a2) from h1) (fun b2 => ?_) (fun b2 => ?_)
  · refine Ew_of (pcₚ := 65) (fun _ => x_iconst rfl) ?_
    exact w_ireturn rfl (k (0) σ _ _ H (SF_refl) (SA_refl) (show (0) = 0 ∨ (0) = 1 by first | exact q_45 | omega) (show (0) = 1 ∧ nvl ((w14)) (a1) 4 = (a2 + 256 * a3 + 65536 * a4 + 16777216 * a5) ∨ (0) = 0 ∧ nvl ((w14)) (a1) 4 ≠ (a2 + 256 * a3 + 65536 * a4 + 16777216 * a5) by omega))
  · refine Ew_of (pcₚ := 14) (fun _ => x_aload_n rfl rfl) ?_
    refine w_gT H (o := 5) (t := 1) rfl (H.perm 5 rfl) rfl rfl rfl rfl rfl rfl ?_
    refine w_gT H (o := 1) (t := 14) rfl (H.perm 1 rfl) rfl rfl rfl rfl rfl rfl ?_
    refine Ew_of (pcₚ := 21) (fun _ => x_iload_n rfl rfl) ?_
    refine Ew_of (pcₚ := 22) (fun _ => x_iconst rfl) ?_
    refine w_iadd rfl ?_
    refine w_lI H (o := 14) (n := 65536) rfl (H.perm 14 rfl) rfl rfl (H.fix 14 rfl rfl) (show 0 ≤ (a1 + 1) ∧ (a1 + 1) < ((65536 : Nat) : Int) from q_1227 h5) (by decide) (fun v3 ev3 qv3 => ?_)
    have qv3 : (0 : Int) ≤ v3 ∧ v3 ≤ 255 := qv3
    have ev3 : (w14) ((a1 + 1)) = v3 := (congrFun (ew14) ((a1 + 1))).symm.trans ev3
    refine Ew_of (pcₚ := 25) (fun _ => x_iload_n rfl rfl) ?_
    refine w_icmpne (t := 64) rfl rfl (show inr (v3) from q_299 qv3) (show inr (a3) from h2) (fun b4 => ?_) (fun b4 => ?_)
    · refine Ew_of (pcₚ := 65) (fun _ => x_iconst rfl) ?_
      exact w_ireturn rfl (k (0) σ _ _ H (SF_refl) (SA_refl) (show (0) = 0 ∨ (0) = 1 by first | exact q_45 | omega) (show (0) = 1 ∧ nvl ((w14)) (a1) 4 = (a2 + 256 * a3 + 65536 * a4 + 16777216 * a5) ∨ (0) = 0 ∧ nvl ((w14)) (a1) 4 ≠ (a2 + 256 * a3 + 65536 * a4 + 16777216 * a5) by omega))
    · refine Ew_of (pcₚ := 29) (fun _ => x_aload_n rfl rfl) ?_
      refine w_gT H (o := 5) (t := 1) rfl (H.perm 5 rfl) rfl rfl rfl rfl rfl rfl ?_
      refine w_gT H (o := 1) (t := 14) rfl (H.perm 1 rfl) rfl rfl rfl rfl rfl rfl ?_
      refine Ew_of (pcₚ := 36) (fun _ => x_iload_n rfl rfl) ?_
      refine Ew_of (pcₚ := 37) (fun _ => x_iconst rfl) ?_
      refine w_iadd rfl ?_
      refine w_lI H (o := 14) (n := 65536) rfl (H.perm 14 rfl) rfl rfl (H.fix 14 rfl rfl) (show 0 ≤ (a1 + 2) ∧ (a1 + 2) < ((65536 : Nat) : Int) from q_1228 h5) (by decide) (fun v5 ev5 qv5 => ?_)
      have qv5 : (0 : Int) ≤ v5 ∧ v5 ≤ 255 := qv5
      have ev5 : (w14) ((a1 + 2)) = v5 := (congrFun (ew14) ((a1 + 2))).symm.trans ev5
      refine Ew_of (pcₚ := 41) (fun _ => x_iload rfl rfl) ?_
      refine w_icmpne (t := 64) rfl rfl (show inr (v5) from q_299 qv5) (show inr (a4) from h3) (fun b6 => ?_) (fun b6 => ?_)
      · refine Ew_of (pcₚ := 65) (fun _ => x_iconst rfl) ?_
        exact w_ireturn rfl (k (0) σ _ _ H (SF_refl) (SA_refl) (show (0) = 0 ∨ (0) = 1 by first | exact q_45 | omega) (show (0) = 1 ∧ nvl ((w14)) (a1) 4 = (a2 + 256 * a3 + 65536 * a4 + 16777216 * a5) ∨ (0) = 0 ∧ nvl ((w14)) (a1) 4 ≠ (a2 + 256 * a3 + 65536 * a4 + 16777216 * a5) by omega))
      · refine Ew_of (pcₚ := 45) (fun _ => x_aload_n rfl rfl) ?_
        refine w_gT H (o := 5) (t := 1) rfl (H.perm 5 rfl) rfl rfl rfl rfl rfl rfl ?_
        refine w_gT H (o := 1) (t := 14) rfl (H.perm 1 rfl) rfl rfl rfl rfl rfl rfl ?_
        refine Ew_of (pcₚ := 52) (fun _ => x_iload_n rfl rfl) ?_
        refine Ew_of (pcₚ := 53) (fun _ => x_iconst rfl) ?_
        refine w_iadd rfl ?_
        refine w_lI H (o := 14) (n := 65536) rfl (H.perm 14 rfl) rfl rfl (H.fix 14 rfl rfl) (show 0 ≤ (a1 + 3) ∧ (a1 + 3) < ((65536 : Nat) : Int) from q_1229 h5) (by decide) (fun v7 ev7 qv7 => ?_)
        have qv7 : (0 : Int) ≤ v7 ∧ v7 ≤ 255 := qv7
        have ev7 : (w14) ((a1 + 3)) = v7 := (congrFun (ew14) ((a1 + 3))).symm.trans ev7
        refine Ew_of (pcₚ := 57) (fun _ => x_iload rfl rfl) ?_
        refine w_icmpne (t := 64) rfl rfl (show inr (v7) from q_299 qv7) (show inr (a5) from q_1230 h6) (fun b8 => ?_) (fun b8 => ?_)
        · refine Ew_of (pcₚ := 65) (fun _ => x_iconst rfl) ?_
          exact w_ireturn rfl (k (0) σ _ _ H (SF_refl) (SA_refl) (show (0) = 0 ∨ (0) = 1 by first | exact q_45 | omega) (show (0) = 1 ∧ nvl ((w14)) (a1) 4 = (a2 + 256 * a3 + 65536 * a4 + 16777216 * a5) ∨ (0) = 0 ∧ nvl ((w14)) (a1) 4 ≠ (a2 + 256 * a3 + 65536 * a4 + 16777216 * a5) by omega))
        · refine Ew_of (pcₚ := 61) (fun _ => x_iconst rfl) ?_
          refine Ew_of (pcₚ := 65) (fun _ => x_goto rfl rfl) ?_
          exact w_ireturn rfl (k (1) σ _ _ H (SF_refl) (SA_refl) (show (1) = 0 ∨ (1) = 1 by first | exact q_49 | omega) (show (1) = 1 ∧ nvl ((w14)) (a1) 4 = (a2 + 256 * a3 + 65536 * a4 + 16777216 * a5) ∨ (1) = 0 ∧ nvl ((w14)) (a1) 4 ≠ (a2 + 256 * a3 + 65536 * a4 + 16777216 * a5) by omega))

theorem M259 {σ0 σ : rS} {D N : Nat → Nat} {F : hF} {A : hA} {d c s : Nat} {Q : wQ} (H : HS σ0 σ D N F A) {a1 : Int} (w14 : Int → Int) (ew14 : A 14 = w14) (h0 : inr (a1)) (h1 : 0 ≤ (a1) ∧ (a1) < 524288) (k : ∀ (z : Int) σ Fₚ Aₚ, HS σ0 σ D N Fₚ Aₚ → SF [] F Fₚ → SA [] A Aₚ → (inr (z)) → (0 ≤ (z) ∧ (z) ≤ 1) → ((z) = bt ((w14)) ((a1))) → Q (some (I z)) σ c s) : Ew 259 (d + 0) 0 (rargs 0 [.ref (D 5), I a1]) [] σ c s Q := by
  refine Ew_of (pcₚ := 1) (fun _ => x_aload_n rfl rfl) ?_
  refine w_gT H (o := 5) (t := 1) rfl (H.perm 5 rfl) rfl rfl rfl rfl rfl rfl ?_
  refine w_gT H (o := 1) (t := 14) rfl (H.perm 1 rfl) rfl rfl rfl rfl rfl rfl ?_
  refine Ew_of (pcₚ := 8) (fun _ => x_iload_n rfl rfl) ?_
  refine Ew_of (pcₚ := 10) (fun _ => x_bipush (z := 8) rfl (by decide)) ?_
  refine w_idiv rfl (show inr (a1) ∧ 0 ≤ a1 from q_1231 h0 h1) (show inr (8) ∧ 0 < 8 from q_1054) ?_
  refine w_lI H (o := 14) (n := 65536) rfl (H.perm 14 rfl) rfl rfl (H.fix 14 rfl rfl) (show 0 ≤ (a1 / 8) ∧ (a1 / 8) < ((65536 : Nat) : Int) from q_1232 h1) (by decide) (fun v1 ev1 qv1 => ?_)
  have qv1 : (0 : Int) ≤ v1 ∧ v1 ≤ 255 := qv1
  have ev1 : (w14) ((a1 / 8)) = v1 := (congrFun (ew14) ((a1 / 8))).symm.trans ev1
  have hv := ev1
  refine Ew_of (pcₚ := 13) (fun _ => x_iload_n rfl rfl) ?_
  refine Ew_of (pcₚ := 15) (fun _ => x_bipush (z := 8) rfl (by decide)) ?_
  refine w_irem rfl (show inr (a1) ∧ 0 ≤ a1 from q_1231 h0 h1) (show inr (8) ∧ 0 < 8 from q_1054) ?_
  refine w_ishrG rfl ?_
  have g2 : inr (srI (v1) ((a1 % 8))) := toI_inr _
  refine Ew_of (pcₚ := 18) (fun _ => x_iconst rfl) ?_
  refine w_iandG rfl ?_
  have g3 : inr (andI ((srI (v1) ((a1 % 8)))) (1)) := toI_inr _
  have hbt : ((andI ((srI (v1) ((a1 % 8)))) (1))) = bt ((w14)) ((a1)) := bt_r hv rfl (by omega)
  have := bt_rng ((w14)) ((a1))
  exact w_ireturn rfl (k ((andI ((srI (v1) ((a1 % 8)))) (1))) σ _ _ H (SF_refl) (SA_refl) (show inr ((andI ((srI (v1) ((a1 % 8)))) (1))) from g3) (show 0 ≤ ((andI ((srI (v1) ((a1 % 8)))) (1))) ∧ ((andI ((srI (v1) ((a1 % 8)))) (1))) ≤ 1 by omega) (hbt))

theorem M260 {σ0 σ : rS} {D N : Nat → Nat} {F : hF} {A : hA} {d c s : Nat} {Q : wQ} (H : HS σ0 σ D N F A) {a1 : Int} (h0 : inr (a1)) (h1 : 0 ≤ (a1)) (k : ∀ (z : Int) σ Fₚ Aₚ, HS σ0 σ D N Fₚ Aₚ → SF [] F Fₚ → SA [] A Aₚ → (inr (z)) → (-1 ≤ (z) ∧ (z) ≤ 30) → ((a1) = 0 ∧ (z) = -1 ∨ 1 ≤ (a1) ∧ 0 ≤ (z) ∧ p2 (z) ≤ (a1) ∧ (a1) < 2 * p2 (z)) → Q (some (I z)) σ c s) : Ew 260 (d + 0) 0 (rargs 0 [I a1]) [] σ c s Q := by
  refine Ew_of (pcₚ := 1) (fun _ => x_iconst rfl) ?_
  refine Ew_of (pcₚ := 2) (fun _ => x_istore_n rfl) ?_
  refine Ew_of (pcₚ := 3) (fun _ => x_iload_n rfl (rk_o (rfl) rfl rfl)) ?_
  refine Ew_of (pcₚ := 4) (fun _ => x_istore_n rfl) ?_
  have := HI_0 (a := (a1))
  suffices hl4 : ∀ (m : Nat), ∀ (ls : rO) (σ : rS) (F_4 : hF) (A_4 : hA) (x4_1 : Int) (x4_2 : Int), rlook ls 1 = some (I (x4_1)) → rlook ls 2 = some (I (x4_2)) → HS σ0 σ D N F_4 A_4 → SF [] F F_4 → SA [] A A_4 → (inr (x4_1)) → (inr (x4_2)) → (-1 ≤ (x4_1) ∧ (x4_1) ≤ 30) → (0 ≤ (x4_2)) → (HI (a1) (x4_1) (x4_2)) → ((x4_2)).toNat = m → Ew 260 (d + 0) 4 ls [] σ c s Q from
    hl4 _ _ σ _ _ ((-1)) (a1) (rk_o (rk_s) rfl rfl) (rk_s) H (SF_refl) (SA_refl)   (show inr ((-1)) from q_63) (show inr (a1) from h0) (show -1 ≤ ((-1)) ∧ ((-1)) ≤ 30 from q_1233) (show 0 ≤ (a1) from h1) (show HI (a1) ((-1)) (a1) by assumption) rfl
  as_aux_lemma =>
  intro m
  induction m using Nat.strongRecOn with
  | _ m ih4 =>
    intro ls σ F_4 A_4 x4_1 x4_2 l4_1 l4_2 H hS_4 hA_4   j4_0 j4_1 j4_2 j4_3 j4_4 hm4
    refine Ew_of (pcₚ := 5) (fun _ => x_iload_n rfl l4_2) ?_
    refine w_ifle (t := 18) rfl rfl (show inr (x4_2) from j4_1) (fun b1 => ?_) (fun b1 => ?_)
    · have := HI_end (j4_4) (by omega) (by omega) (by omega)
      refine Ew_of (pcₚ := 19) (fun _ => x_iload_n rfl l4_1) ?_
      exact w_ireturn rfl (k (x4_1) σ _ _ H (SF_trans (SF_refl) hS_4 (any_sub rfl)) (SA_trans (SA_refl) hA_4 (any_subA rfl)) (show inr (x4_1) from j4_0) (show -1 ≤ (x4_1) ∧ (x4_1) ≤ 30 from j4_2) (show a1 = 0 ∧ (x4_1) = -1 ∨ 1 ≤ a1 ∧ 0 ≤ (x4_1) ∧ p2 (x4_1) ≤ a1 ∧ a1 < 2 * p2 (x4_1) by omega))
    · have hs := HI_s (j4_4) (by omega) (by omega) (by omega)
      have := hs.1
      have := hs.2
      refine Ew_of (pcₚ := 11) (fun _ => x_iinc (len := 3) rfl (l4_1)) ?_
      refine Ew_of (pcₚ := 12) (fun _ => x_iload_n rfl (rk_o (l4_2) rfl rfl)) ?_
      refine Ew_of (pcₚ := 13) (fun _ => x_iconst rfl) ?_
      refine w_idiv rfl (show inr (x4_2) ∧ 0 ≤ x4_2 from q_1235 j4_1 j4_3) (show inr (2) ∧ 0 < 2 from q_1234) ?_
      refine Ew_of (pcₚ := 15) (fun _ => x_istore_n rfl) ?_
      refine Ew_of (pcₚ := 4) (fun _ => x_goto rfl rfl) ?_
      exact ih4 _ (msE hm4 (q_1239 b1) (q_200 b1)) _ σ _ _ ((x4_1 + 1)) ((x4_2 / 2)) (rk_o (rk_s) rfl rfl) (rk_s) H (hS_4) (hA_4)   (show inr ((x4_1 + 1)) from q_1238 j4_2) (show inr ((x4_2 / 2)) from q_1237 b1 j4_1) (show -1 ≤ ((x4_1 + 1)) ∧ ((x4_1 + 1)) ≤ 30 by omega) (show 0 ≤ ((x4_2 / 2)) from q_1236 b1) (show HI (a1) ((x4_1 + 1)) ((x4_2 / 2)) by assumption) rfl

theorem M261 {σ0 σ : rS} {D N : Nat → Nat} {F : hF} {A : hA} {d c s : Nat} {Q : wQ} (H : HS σ0 σ D N F A) {a1 a2 a3 a4 : Int} (w14 : Int → Int) (ew14 : A 14 = w14) (h0 : inr (a1)) (h1 : inr (a2)) (h2 : inr (a3)) (h3 : inr (a4)) (h4 : 0 ≤ (a1) ∧ (a1) ≤ 65536 ∧ (a2) ≤ 65536 ∧ 0 ≤ (a2)) (h5 : 6 ≤ (a3) ∧ (a3) ≤ 9 ∧ 0 ≤ (a4) ∧ (a4) ≤ 63) (k : ∀ (z : Int) σ Fₚ Aₚ, HS σ0 σ D N Fₚ Aₚ → SF [(5, 19)] F Fₚ → SA [39] A Aₚ → ∀ y5_19 : Int, Fₚ 5 19 = y5_19 → ∀ v39 : Int → Int, Aₚ 39 = v39 → (inr (z)) → ((z) = -1 ∨ (a1) ≤ (z) ∧ (z) ≤ (a2) ∧ 5 ≤ (y5_19) ∧ (y5_19) ≤ (a3)) → ((z) ≠ -1 → SH ((v39)) 0 64 ((y5_19)) (a4)) → (SHA ((w14)) ((a1)) ((a2)) ((a3)) ((a4)) ((z)) ((y5_19)) 256 ((v39))) → Q (some (I z)) σ c s) : Ew 261 (d + 1) 0 (rargs 0 [.ref (D 5), I a1, I a2, I a3, I a4]) [] σ c s Q := by
  refine Ew_of (pcₚ := 2) (fun _ => x_bipush (z := 8) rfl (by decide)) ?_
  refine Ew_of (pcₚ := 3) (fun _ => x_iload_n rfl rfl) ?_
  refine w_imul rfl ?_
  refine Ew_of (pcₚ := 6) (fun _ => x_istore rfl) ?_
  refine Ew_of (pcₚ := 8) (fun _ => x_bipush (z := 8) rfl (by decide)) ?_
  refine Ew_of (pcₚ := 9) (fun _ => x_iload_n rfl (rk_o (rfl) rfl rfl)) ?_
  refine w_imul rfl ?_
  refine Ew_of (pcₚ := 12) (fun _ => x_istore rfl) ?_
  refine Ew_of (pcₚ := 14) (fun _ => x_iload rfl (rk_o (rk_s) rfl rfl)) ?_
  refine Ew_of (pcₚ := 15) (fun _ => x_iconst rfl) ?_
  refine w_iadd rfl ?_
  refine Ew_of (pcₚ := 18) (fun _ => x_iload rfl rk_s) ?_
  refine w_icmple (t := 23) rfl rfl (show inr (((8 * a1) + 4)) from q_1241 h4) (show inr ((8 * a2)) from q_1240 h4) (fun b1 => ?_) (fun b1 => ?_)
  · have r2 : (0 : Int) ≤ F 5 19 ∧ F 5 19 ≤ 20 := H.frng 5 19
    have hc72 : ∀ (ls : rO) (σ : rS) (F_c72 : hF) (A_c72 : hA) (xc72_5 : Int), rlook ls 0 = some (.ref (D 5)) → rlook ls 3 = some (I (a3)) → rlook ls 4 = some (I (a4)) → rlook ls 5 = some (I (xc72_5)) → rlook ls 6 = some (I ((8 * a2))) → HS σ0 σ D N F_c72 A_c72 → SF [(5, 19)] F F_c72 → SA [] A A_c72 → ∀ yc72_5_19 : Int, F_c72 5 19 = yc72_5_19 → (inr (xc72_5)) → (5 ≤ (yc72_5_19) ∧ (yc72_5_19) ≤ 20) → ((xc72_5) = 8 * (a1) + 4 ∧ (xc72_5) ≤ ((8 * a2))) → ((yc72_5_19) = 5 + bv ((w14)) (8 * (a1)) 4) → Ew 261 (d + 1) 72 ls [] σ c s Q := by
     as_aux_lemma =>
      intro  ls σ F_c72 A_c72 xc72_5 lc72_0 lc72_3 lc72_4 lc72_5 lc72_6 H hS_c72 hA_c72 yc72_5_19 eyc72_5_19  jc72_0 jc72_1 jc72_2 jc72_3
      have r3 : (0 : Int) ≤ yc72_5_19 ∧ yc72_5_19 ≤ 20 := rngE (show (0 : Int) ≤ F_c72 5 19 ∧ F_c72 5 19 ≤ 20 from H.frng 5 19) (show F_c72 5 19 = yc72_5_19 from (eyc72_5_19))
      have hdo2 : (yc72_5_19) = 5 + bv ((w14)) (8 * (a1)) 4 := jc72_3
      refine Ew_of (pcₚ := 73) (fun _ => x_aload_n rfl lc72_0) ?_
      refine w_gI H (o := 5) (w := yc72_5_19) rfl (H.perm 5 rfl) rfl rfl rfl (fun _ => rfl) (eyc72_5_19) ?_
      refine Ew_of (pcₚ := 77) (fun _ => x_iload_n rfl lc72_3) ?_
      refine w_icmple (t := 82) rfl rfl (show inr (yc72_5_19) from q_1068 r3) (show inr (a3) from h2) (fun b4 => ?_) (fun b4 => ?_)
      · refine Ew_of (pcₚ := 83) (fun _ => x_iconst rfl) ?_
        refine Ew_of (pcₚ := 85) (fun _ => x_istore rfl) ?_
        have : ∀ i, (0 : Int) ≤ i → i < 0 → ((A 39)) (0 + i) = 0 := fun i a b => absurd b (by omega)
        suffices hl85 : ∀ (m : Nat), ∀ (ls : rO) (σ : rS) (F_85 : hF) (A_85 : hA) (x85_7 : Int), rlook ls 0 = some (.ref (D 5)) → rlook ls 4 = some (I (a4)) → rlook ls 5 = some (I (xc72_5)) → rlook ls 6 = some (I ((8 * a2))) → rlook ls 7 = some (I (x85_7)) → HS σ0 σ D N F_85 A_85 → SF [] F_c72 F_85 → SA [39] A_c72 A_85 → ∀ w85_39 : Int → Int, A_85 39 = w85_39 → (inr (x85_7)) → ((0) ≤ (x85_7)) → ((x85_7) ≤ (0) ∨ (x85_7) ≤ ((256))) → (∀ i, 0 ≤ i → i < (x85_7) → ((w85_39)) (0 + i) = 0) → (((256)) - (x85_7)).toNat = m → Ew 261 (d + 1) 85 ls [] σ c s Q from
          hl85 _ _ σ _ _ (0) (rk_o (lc72_0) rfl rfl) (rk_o (lc72_4) rfl rfl) (rk_o (lc72_5) rfl rfl) (rk_o (lc72_6) rfl rfl) (rk_s) H (SF_refl) (SA_refl)  (A 39) (funext (hA_c72 39 rfl)) (show inr (0) from q_2) (show (0) ≤ (0) from q_1) (show (0) ≤ (0) ∨ (0) ≤ ((256)) from q_0) (show ∀ i, 0 ≤ i → i < (0) → ((A 39)) (0 + i) = 0 by assumption) rfl
        as_aux_lemma =>
        intro m
        induction m using Nat.strongRecOn with
        | _ m ih85 =>
          intro ls σ F_85 A_85 x85_7 l85_0 l85_4 l85_5 l85_6 l85_7 H hS_85 hA_85  w85_39 ew85_39 j85_0 j85_1 j85_2 j85_3 hm85
          refine Ew_of (pcₚ := 87) (fun _ => x_iload rfl l85_7) ?_
          refine Ew_of (pcₚ := 90) (fun _ => x_sipush (z := 256) rfl (by decide)) ?_
          refine w_icmpge (t := 107) rfl rfl (show inr (x85_7) from j85_0) (show inr (256) from q_3) (fun b5 => ?_) (fun b5 => ?_)
          · refine Ew_of (pcₚ := 108) (fun _ => x_iconst rfl) ?_
            refine Ew_of (pcₚ := 109) (fun _ => x_aload_n rfl l85_0) ?_
            refine w_gI H (o := 5) (w := yc72_5_19) rfl (H.perm 5 rfl) rfl rfl rfl (fun _ => rfl) ((hS_85 5 19 rfl).trans (eyc72_5_19)) ?_
            refine w_ishl1 rfl (show 0 ≤ yc72_5_19 ∧ yc72_5_19 ≤ 31 from q_1242 r3) ?_
            refine Ew_of (pcₚ := 115) (fun _ => x_istore rfl) ?_
            refine Ew_of (pcₚ := 116) (fun _ => x_iconst rfl) ?_
            refine Ew_of (pcₚ := 118) (fun _ => x_istore rfl) ?_
            have hq5 := p2_5 (o := (yc72_5_19)) (by omega)
            have hz0 : ∀ i, (0 : Int) ≤ i → i < 256 → ((w85_39)) i = 0 := fun i a b => by have := j85_3 i a (by omega); rw [Int.zero_add] at this; exact this
            have : su (fun i => mass ((w85_39) i)) 256 = 0 := su_mass0 (by decide) hz0
            have : ∀ i, (0 : Int) ≤ i → i < 256 → -1 ≤ ((w85_39)) i := fun i a b => by rw [hz0 i a b]; decide
            have : SHO ((w14)) ((a1)) ((a2)) ((a3)) ((a4)) ((yc72_5_19)) 256 ((xc72_5)) (p2 ((yc72_5_19))) (0) (0) ((w85_39)) := SHO_0 (v := (yc72_5_19) - 5) (by omega) (by omega) (by omega) (by omega) (by omega) rfl rfl rfl hz0
            suffices hl118 : ∀ (m : Nat), ∀ (ls : rO) (σ : rS) (F_118 : hF) (A_118 : hA) (x118_5 : Int) (x118_7 : Int) (x118_8 : Int), rlook ls 0 = some (.ref (D 5)) → rlook ls 4 = some (I (a4)) → rlook ls 5 = some (I (x118_5)) → rlook ls 6 = some (I ((8 * a2))) → rlook ls 7 = some (I (x118_7)) → rlook ls 8 = some (I (x118_8)) → HS σ0 σ D N F_118 A_118 → SF [] F_85 F_118 → SA [39] A_85 A_118 → ∀ w118_39 : Int → Int, A_118 39 = w118_39 → (inr (x118_5)) → (inr (x118_7)) → (inr (x118_8)) → (0 ≤ (x118_7) ∧ (x118_7) ≤ 512) → ((x118_7) = p2 ((yc72_5_19)) - su (fun i => mass ((w118_39) i)) 256) → (0 ≤ (x118_8) ∧ (x118_8) ≤ (a4) + 1) → (8 * (a1) ≤ (x118_5) ∧ (x118_5) ≤ ((8 * a2))) → (∀ i, (x118_8) ≤ i → i < 256 → ((w118_39)) i = 0) → (∀ i, 0 ≤ i → i < 256 → -1 ≤ ((w118_39)) i) → (SHO ((w14)) ((a1)) ((a2)) ((a3)) ((a4)) ((yc72_5_19)) 256 ((x118_5)) ((x118_7)) ((x118_8)) (0) ((w118_39))) → (((8 * a2)) - (x118_5)).toNat = m → Ew 261 (d + 1) 118 ls [] σ c s Q from
              hl118 _ _ σ _ _ (xc72_5) (p2 (yc72_5_19)) (0) (rk_o (rk_o (l85_0) rfl rfl) rfl rfl) (rk_o (rk_o (l85_4) rfl rfl) rfl rfl) (rk_o (rk_o (l85_5) rfl rfl) rfl rfl) (rk_o (rk_o (l85_6) rfl rfl) rfl rfl) (rk_o (rk_s) rfl rfl) (rk_s) H (SF_refl) (SA_refl)  (w85_39) (ew85_39) (show inr (xc72_5) from jc72_0) (show inr (p2 (yc72_5_19)) by omega) (show inr (0) from q_2) (show 0 ≤ (p2 (yc72_5_19)) ∧ (p2 (yc72_5_19)) ≤ 512 by omega) (show (p2 (yc72_5_19)) = p2 ((yc72_5_19)) - su (fun i => mass ((w85_39) i)) 256 by omega) (show 0 ≤ (0) ∧ (0) ≤ (a4) + 1 from q_1244 h5) (show 8 * (a1) ≤ (xc72_5) ∧ (xc72_5) ≤ ((8 * a2)) from q_1243 jc72_2) (show ∀ i, (0) ≤ i → i < 256 → ((w85_39)) i = 0 by assumption) (show ∀ i, 0 ≤ i → i < 256 → -1 ≤ ((w85_39)) i by assumption) (show SHO ((w14)) ((a1)) ((a2)) ((a3)) ((a4)) ((yc72_5_19)) 256 ((xc72_5)) ((p2 (yc72_5_19))) ((0)) (0) ((w85_39)) by assumption) rfl
            as_aux_lemma =>
            intro m
            induction m using Nat.strongRecOn with
            | _ m ih118 =>
              intro ls σ F_118 A_118 x118_5 x118_7 x118_8 l118_0 l118_4 l118_5 l118_6 l118_7 l118_8 H hS_118 hA_118  w118_39 ew118_39 j118_0 j118_1 j118_2 j118_3 j118_4 j118_5 j118_6 j118_7 j118_8 j118_9 hm118
              have j118_o : SHO ((w14)) ((a1)) ((a2)) ((a3)) ((a4)) ((yc72_5_19)) 256 ((x118_5)) ((x118_7)) ((x118_8)) (0) ((w118_39)) := j118_9
              refine Ew_of (pcₚ := 120) (fun _ => x_iload rfl l118_7) ?_
              refine w_ifle (t := 387) rfl rfl (show inr (x118_7) from j118_1) (fun b7 => ?_) (fun b7 => ?_)
              · have hsh : SH ((w118_39)) 0 64 ((yc72_5_19)) (a4) := SH_of (by omega) (by assumption) (fun i a b => (j118_7) i (by omega) b) (by omega) (by omega)
                have : ((x118_5) + 7) / 8 ≠ -1 → SH ((w118_39)) 0 64 ((yc72_5_19)) (a4) := fun _ => hsh
                refine Ew_of (pcₚ := 389) (fun _ => x_iload rfl l118_5) ?_
                refine Ew_of (pcₚ := 391) (fun _ => x_bipush (z := 7) rfl (by decide)) ?_
                refine w_iadd rfl ?_
                refine Ew_of (pcₚ := 394) (fun _ => x_bipush (z := 8) rfl (by decide)) ?_
                refine w_idiv rfl (show inr ((x118_5 + 7)) ∧ 0 ≤ (x118_5 + 7) from q_1245 h4 j118_0 j118_6) (show inr (8) ∧ 0 < 8 from q_1054) ?_
                have : SHA ((w14)) ((a1)) ((a2)) ((a3)) ((a4)) ((((x118_5 + 7) / 8))) ((yc72_5_19)) 256 ((w118_39)) := SHO_y j118_o rfl (by omega) rfl (by omega)
                exact w_ireturn rfl (k (((x118_5 + 7) / 8)) σ _ _ H (SF_trans (SF_trans (SF_trans (SF_refl) hS_c72 (any_sub rfl)) hS_85 (any_sub rfl)) hS_118 (any_sub rfl)) (SA_trans (SA_trans (SA_trans (SA_refl) hA_c72 (any_subA rfl)) hA_85 (any_subA rfl)) hA_118 (any_subA rfl)) (yc72_5_19) ((((hS_118 5 19 rfl).trans (hS_85 5 19 rfl)).trans (eyc72_5_19))) (w118_39) (ew118_39) (show inr (((x118_5 + 7) / 8)) from q_1247 j118_0) (show (((x118_5 + 7) / 8)) = -1 ∨ a1 ≤ (((x118_5 + 7) / 8)) ∧ (((x118_5 + 7) / 8)) ≤ a2 ∧ 5 ≤ (yc72_5_19) ∧ (yc72_5_19) ≤ a3 by first | exact q_1246 b4 j118_6 jc72_1 | omega) (show (((x118_5 + 7) / 8)) ≠ -1 → SH ((w118_39)) 0 64 ((yc72_5_19)) a4 by first | assumption | exact fun h => absurd rfl h | exact fun h => absurd h (by decide) | omega) (show SHA ((w14)) (a1) (a2) (a3) (a4) ((((x118_5 + 7) / 8))) ((yc72_5_19)) 256 ((w118_39)) by assumption))
              · refine Ew_of (pcₚ := 125) (fun _ => x_iload rfl l118_8) ?_
                refine Ew_of (pcₚ := 127) (fun _ => x_iload rfl l118_4) ?_
                refine w_icmple (t := 132) rfl rfl (show inr (x118_8) from j118_2) (show inr (a4) from h3) (fun b8 => ?_) (fun b8 => ?_)
                · have hs0 := su_mass_nn (g := (w118_39)) (n := 256)
                  refine Ew_of (pcₚ := 134) (fun _ => x_iload rfl l118_7) ?_
                  refine Ew_of (pcₚ := 135) (fun _ => x_iconst rfl) ?_
                  refine w_iadd rfl ?_
                  refine w_stat24 rfl rfl (by rfl) (M260 H (show inr ((x118_7 + 1)) from q_273 b7 j118_3) (show 0 ≤ ((x118_7 + 1)) from q_1248 b7) (fun z13 σ F9 A10 H hS11 hA12 pz13_0 pz13_1 pz13_2 => ⟨rfl, ?_⟩))
                  refine Ew_of (pcₚ := 141) (fun _ => x_istore rfl) ?_
                  have hSn : SHn ((x118_7)) ((z13)) := ⟨by omega, by omega, by omega⟩
                  have hp9 := p2_pos (z13)
                  have : (z13) = 0 → p2 (z13) = 1 := fun h => by rw [h]; decide
                  have : p2 (z13) ≤ 1024 := by omega
                  refine Ew_of (pcₚ := 142) (fun _ => x_iconst rfl) ?_
                  refine Ew_of (pcₚ := 144) (fun _ => x_iload rfl rk_s) ?_
                  refine w_ishl1 rfl (show 0 ≤ z13 ∧ z13 ≤ 31 from q_1249 b7 pz13_1 pz13_2) ?_
                  refine Ew_of (pcₚ := 147) (fun _ => x_istore rfl) ?_
                  refine Ew_of (pcₚ := 148) (fun _ => x_iconst rfl) ?_
                  refine Ew_of (pcₚ := 150) (fun _ => x_iload rfl rk_s) ?_
                  refine w_imul rfl ?_
                  refine Ew_of (pcₚ := 152) (fun _ => x_iconst rfl) ?_
                  refine w_isub rfl ?_
                  refine Ew_of (pcₚ := 155) (fun _ => x_iload rfl (rk_o (rk_o (l118_7) rfl rfl) rfl rfl)) ?_
                  refine w_isub rfl ?_
                  refine Ew_of (pcₚ := 158) (fun _ => x_istore rfl) ?_
                  refine Ew_of (pcₚ := 160) (fun _ => x_iload rfl (rk_o (rk_o (rk_o (l118_5) rfl rfl) rfl rfl) rfl rfl)) ?_
                  refine Ew_of (pcₚ := 162) (fun _ => x_iload rfl (rk_o (rk_o (rk_s) rfl rfl) rfl rfl)) ?_
                  refine w_iadd rfl ?_
                  refine Ew_of (pcₚ := 165) (fun _ => x_iload rfl (rk_o (rk_o (rk_o (l118_6) rfl rfl) rfl rfl) rfl rfl)) ?_
                  refine w_icmple (t := 170) rfl rfl (show inr ((x118_5 + z13)) from q_1250 h4 j118_6 pz13_1) (show inr ((8 * a2)) from q_1240 h4) (fun b15 => ?_) (fun b15 => ?_)
                  · refine Ew_of (pcₚ := 171) (fun _ => x_iconst rfl) ?_
                    refine Ew_of (pcₚ := 173) (fun _ => x_istore rfl) ?_
                    refine Ew_of (pcₚ := 174) (fun _ => x_iconst rfl) ?_
                    refine Ew_of (pcₚ := 176) (fun _ => x_istore rfl) ?_
                    have : p2 0 = 1 := by decide
                    have : (0 : Int) = bv ((w14)) ((x118_5)) (0 : Int).toNat := rfl
                    suffices hl176 : ∀ (m : Nat), ∀ (ls : rO) (σ : rS) (F_176 : hF) (A_176 : hA) (x176_12 : Int) (x176_13 : Int), rlook ls 0 = some (.ref (D 5)) → rlook ls 4 = some (I (a4)) → rlook ls 5 = some (I (x118_5)) → rlook ls 6 = some (I ((8 * a2))) → rlook ls 7 = some (I (x118_7)) → rlook ls 8 = some (I (x118_8)) → rlook ls 9 = some (I (z13)) → rlook ls 10 = some (I (p2 (z13))) → rlook ls 11 = some (I ((((2 * p2 (z13)) - 2) - x118_7))) → rlook ls 12 = some (I (x176_12)) → rlook ls 13 = some (I (x176_13)) → HS σ0 σ D N F_176 A_176 → SF [] F9 F_176 → SA [] A10 A_176 → (inr (x176_12)) → (inr (x176_13)) → ((0) ≤ (x176_13)) → ((x176_13) ≤ (0) ∨ (x176_13) ≤ ((z13))) → (0 ≤ (x176_12) ∧ (x176_12) < p2 (x176_13)) → ((x176_12) = bv ((w14)) ((x118_5)) ((x176_13) : Int).toNat) → (((z13)) - (x176_13)).toNat = m → Ew 261 (d + 1) 176 ls [] σ c s Q from
                      hl176 _ _ σ _ _ (0) (0) (rk_o (rk_o (rk_o (rk_o (rk_o (l118_0) rfl rfl) rfl rfl) rfl rfl) rfl rfl) rfl rfl) (rk_o (rk_o (rk_o (rk_o (rk_o (l118_4) rfl rfl) rfl rfl) rfl rfl) rfl rfl) rfl rfl) (rk_o (rk_o (rk_o (rk_o (rk_o (l118_5) rfl rfl) rfl rfl) rfl rfl) rfl rfl) rfl rfl) (rk_o (rk_o (rk_o (rk_o (rk_o (l118_6) rfl rfl) rfl rfl) rfl rfl) rfl rfl) rfl rfl) (rk_o (rk_o (rk_o (rk_o (rk_o (l118_7) rfl rfl) rfl rfl) rfl rfl) rfl rfl) rfl rfl) (rk_o (rk_o (rk_o (rk_o (rk_o (l118_8) rfl rfl) rfl rfl) rfl rfl) rfl rfl) rfl rfl) (rk_o (rk_o (rk_o (rk_o (rk_s) rfl rfl) rfl rfl) rfl rfl) rfl rfl) (rk_o (rk_o (rk_o (rk_s) rfl rfl) rfl rfl) rfl rfl) (rk_o (rk_o (rk_s) rfl rfl) rfl rfl) (rk_o (rk_s) rfl rfl) (rk_s) H (SF_refl) (SA_refl)   (show inr (0) from q_2) (show inr (0) from q_2) (show (0) ≤ (0) from q_1) (show (0) ≤ (0) ∨ (0) ≤ ((z13)) from q_5) (show 0 ≤ (0) ∧ (0) < p2 (0) by omega) (show (0) = bv ((w14)) ((x118_5)) ((0) : Int).toNat by assumption) rfl
                    as_aux_lemma =>
                    intro m
                    induction m using Nat.strongRecOn with
                    | _ m ih176 =>
                      intro ls σ F_176 A_176 x176_12 x176_13 l176_0 l176_4 l176_5 l176_6 l176_7 l176_8 l176_9 l176_10 l176_11 l176_12 l176_13 H hS_176 hA_176   j176_0 j176_1 j176_2 j176_3 j176_4 j176_5 hm176
                      have j176_v : (x176_12) = bv ((w14)) ((x118_5)) ((x176_13) : Int).toNat := by assumption
                      refine Ew_of (pcₚ := 178) (fun _ => x_iload rfl l176_13) ?_
                      refine Ew_of (pcₚ := 180) (fun _ => x_iload rfl l176_9) ?_
                      refine w_icmpge (t := 206) rfl rfl (show inr (x176_13) from j176_1) (show inr (z13) from pz13_0) (fun b16 => ?_) (fun b16 => ?_)
                      · have : p2 (x176_13) = p2 (z13) := by rw [show (x176_13) = (z13) by omega]
                        obtain ⟨q5, hq5⟩ : ∃ q : Int, q = (x118_5) := ⟨_, rfl⟩
                        obtain ⟨q9, hq9⟩ : ∃ q : Int, q = (z13) := ⟨_, rfl⟩
                        obtain ⟨q12, hq12⟩ : ∃ q : Int, q = (x176_12) := ⟨_, rfl⟩
                        have hu0 : q12 = bv ((w14)) (q5) (q9 : Int).toNat := by rw [hq5, hq12, hq9, show (z13) = (x176_13) by omega]; exact j176_v
                        have hSq : SHn ((x118_7)) (q9) := by rw [hq9]; exact hSn
                        have hpq : p2 q9 = p2 (z13) := by rw [hq9]
                        refine Ew_of (pcₚ := 208) (fun _ => x_iload rfl l176_5) ?_
                        refine Ew_of (pcₚ := 210) (fun _ => x_iload rfl l176_9) ?_
                        refine w_iadd rfl ?_
                        refine Ew_of (pcₚ := 213) (fun _ => x_istore rfl) ?_
                        have hc267 : ∀ (ls : rO) (σ : rS) (F_c267 : hF) (A_c267 : hA) (xc267_5 : Int) (xc267_12 : Int), rlook ls 0 = some (.ref (D 5)) → rlook ls 4 = some (I (a4)) → rlook ls 5 = some (I (xc267_5)) → rlook ls 6 = some (I ((8 * a2))) → rlook ls 7 = some (I (x118_7)) → rlook ls 8 = some (I (x118_8)) → rlook ls 12 = some (I (xc267_12)) → HS σ0 σ D N F_c267 A_c267 → SF [] F_176 F_c267 → SA [] A_176 A_c267 → (inr (xc267_5)) → (inr (xc267_12)) → (0 ≤ (xc267_12) ∧ (xc267_12) ≤ (x118_7) + 1) → (((x118_5 + z13)) ≤ (xc267_5) ∧ (xc267_5) ≤ ((8 * a2))) → (SHu ((w14)) (8 * (a2)) (q5) ((x118_7)) ((xc267_12)) ((xc267_5))) → Ew 261 (d + 1) 267 ls [] σ c s Q := by
                         as_aux_lemma =>
                          intro  ls σ F_c267 A_c267 xc267_5 xc267_12 lc267_0 lc267_4 lc267_5 lc267_6 lc267_7 lc267_8 lc267_12 H hS_c267 hA_c267   jc267_0 jc267_1 jc267_2 jc267_3 jc267_4
                          have k267 : SHu ((w14)) (8 * (a2)) (q5) ((x118_7)) ((xc267_12)) ((xc267_5)) := jc267_4
                          rw [hq5] at k267
                          have hup := su_mass_upd (g := (w118_39)) (j := (x118_8)) (v := (xc267_12) - 1) (n := 256) (by omega) (by omega) (by rw [show ((w118_39)) (x118_8) = 0 from (j118_7) (x118_8) (by omega) (by omega)])
                          have hma := mass_eq ((xc267_12) - 1)
                          have hzz : ∀ i, (x118_8) + 1 ≤ i → i < 256 → (upd1 ((w118_39)) (x118_8) ((xc267_12) - 1)) i = 0 := fun i a b => by rw [upd1_o (by omega)]; exact (j118_7) i (by omega) b
                          have hge : ∀ i, 0 ≤ i → i < 256 → -1 ≤ (upd1 ((w118_39)) (x118_8) ((xc267_12) - 1)) i := fun i a b => by by_cases e : i = (x118_8); rw [e, upd1_s]; omega; rw [upd1_o e]; exact (j118_8) i a b
                          refine Ew_of (pcₚ := 268) (fun _ => x_aload_n rfl lc267_0) ?_
                          refine w_gT H (o := 5) (t := 39) rfl (H.perm 5 rfl) rfl rfl rfl rfl rfl rfl ?_
                          refine Ew_of (pcₚ := 273) (fun _ => x_iload rfl lc267_8) ?_
                          refine Ew_of (pcₚ := 275) (fun _ => x_iload rfl lc267_12) ?_
                          refine Ew_of (pcₚ := 276) (fun _ => x_iconst rfl) ?_
                          refine w_isub rfl ?_
                          refine w_sI H (o := 39) (n := 256) rfl (H.perm 39 rfl) rfl rfl (H.fix 39 rfl rfl) (show 0 ≤ x118_8 ∧ x118_8 < ((256 : Nat) : Int) from q_1252 b8 h5 j118_5) (by decide) (show (-1 : Int) ≤ (xc267_12 - 1) ∧ (xc267_12 - 1) ≤ 1048576 from q_1251 j118_3 jc267_2) (fun σ H => ?_)
                          refine Ew_of (pcₚ := 280) (fun _ => x_iload rfl lc267_7) ?_
                          refine Ew_of (pcₚ := 282) (fun _ => x_iload rfl lc267_12) ?_
                          have hc293 : ∀ (tc293_0 : Int), ∀ (ls : rO) (σ : rS) (F_c293 : hF) (A_c293 : hA) , rlook ls 0 = some (.ref (D 5)) → rlook ls 4 = some (I (a4)) → rlook ls 5 = some (I (xc267_5)) → rlook ls 6 = some (I ((8 * a2))) → rlook ls 8 = some (I (x118_8)) → rlook ls 12 = some (I (xc267_12)) → HS σ0 σ D N F_c293 A_c293 → SF [] F_c267 F_c293 → SA [] (updA A_c267 39 (x118_8) ((xc267_12 - 1))) A_c293 → (inr (tc293_0)) → (((xc267_12) ≠ (0) ∧ (tc293_0) = ((xc267_12 - 1))) ∨ ((xc267_12) = (0) ∧ (tc293_0) = (1))) → Ew 261 (d + 1) 293 ls [I (tc293_0), I (x118_7)] σ c s Q := by
                           as_aux_lemma =>
                            intro tc293_0 ls σ F_c293 A_c293  lc293_0 lc293_4 lc293_5 lc293_6 lc293_8 lc293_12 H hS_c293 hA_c293   jc293_0 jc293_1
                            refine w_isub rfl ?_
                            refine Ew_of (pcₚ := 296) (fun _ => x_istore rfl) ?_
                            refine Ew_of (pcₚ := 299) (fun _ => x_iinc (len := 3) rfl (rk_o (lc293_8) rfl rfl)) ?_
                            refine Ew_of (pcₚ := 301) (fun _ => x_iload rfl (rk_o (rk_o (lc293_12) rfl rfl) rfl rfl)) ?_
                            refine Ew_of (pcₚ := 302) (fun _ => x_iconst rfl) ?_
                            have hc310 : ∀ (tc310_0 : Int), ∀ (ls : rO) (σ : rS) (F_c310 : hF) (A_c310 : hA) , rlook ls 0 = some (.ref (D 5)) → rlook ls 4 = some (I (a4)) → rlook ls 5 = some (I (xc267_5)) → rlook ls 6 = some (I ((8 * a2))) → rlook ls 7 = some (I ((x118_7 - tc293_0))) → rlook ls 8 = some (I ((x118_8 + 1))) → HS σ0 σ D N F_c310 A_c310 → SF [] F_c293 F_c310 → SA [] A_c293 A_c310 → (inr (tc310_0)) → (((xc267_12) ≠ (1) ∧ (tc310_0) = (0)) ∨ ((xc267_12) = (1) ∧ (tc310_0) = (1))) → Ew 261 (d + 1) 310 ls [I (tc310_0)] σ c s Q := by
                             as_aux_lemma =>
                              intro tc310_0 ls σ F_c310 A_c310  lc310_0 lc310_4 lc310_5 lc310_6 lc310_7 lc310_8 H hS_c310 hA_c310   jc310_0 jc310_1
                              refine Ew_of (pcₚ := 312) (fun _ => x_istore rfl) ?_
                              have : SHO ((w14)) ((a1)) ((a2)) ((a3)) ((a4)) ((yc72_5_19)) 256 ((xc267_5)) (((x118_7 - tc293_0))) (((x118_8 + 1))) ((tc310_0)) ((upd1 (w118_39) (x118_8) ((xc267_12 - 1)))) := SHO_u j118_o rfl (by omega) (by omega) k267 rfl (by omega) (by omega) (by omega) rfl
                              suffices hl312 : ∀ (m : Nat), ∀ (ls : rO) (σ : rS) (F_312 : hF) (A_312 : hA) (x312_5 : Int) (x312_8 : Int) (x312_13 : Int), rlook ls 0 = some (.ref (D 5)) → rlook ls 4 = some (I (a4)) → rlook ls 5 = some (I (x312_5)) → rlook ls 6 = some (I ((8 * a2))) → rlook ls 7 = some (I ((x118_7 - tc293_0))) → rlook ls 8 = some (I (x312_8)) → rlook ls 13 = some (I (x312_13)) → HS σ0 σ D N F_312 A_312 → SF [] F_c310 F_312 → SA [] A_c310 A_312 → (inr (x312_5)) → (inr (x312_8)) → (inr (x312_13)) → (((x118_8 + 1)) ≤ (x312_8) ∧ (x312_8) ≤ (a4) + 1) → ((x312_13) = 0 ∨ (x312_13) = 1) → ((xc267_5) ≤ (x312_5) ∧ (x312_5) ≤ ((8 * a2))) → (SHO ((w14)) ((a1)) ((a2)) ((a3)) ((a4)) ((yc72_5_19)) 256 ((x312_5)) (((x118_7 - tc293_0))) ((x312_8)) ((x312_13)) ((upd1 (w118_39) (x118_8) ((xc267_12 - 1))))) → (((8 * a2)) - (x312_5)).toNat = m → Ew 261 (d + 1) 312 ls [] σ c s Q from
                                hl312 _ _ σ _ _ (xc267_5) ((x118_8 + 1)) (tc310_0) (rk_o (lc310_0) rfl rfl) (rk_o (lc310_4) rfl rfl) (rk_o (lc310_5) rfl rfl) (rk_o (lc310_6) rfl rfl) (rk_o (lc310_7) rfl rfl) (rk_o (lc310_8) rfl rfl) (rk_s) H (SF_refl) (SA_refl)   (show inr (xc267_5) from jc267_0) (show inr ((x118_8 + 1)) from q_1255 b8 h5 j118_5) (show inr (tc310_0) from jc310_0) (show ((x118_8 + 1)) ≤ ((x118_8 + 1)) ∧ ((x118_8 + 1)) ≤ (a4) + 1 from q_1254 b8) (show (tc310_0) = 0 ∨ (tc310_0) = 1 by omega) (show (xc267_5) ≤ (xc267_5) ∧ (xc267_5) ≤ ((8 * a2)) from q_1253 jc267_3) (show SHO ((w14)) ((a1)) ((a2)) ((a3)) ((a4)) ((yc72_5_19)) 256 ((xc267_5)) (((x118_7 - tc293_0))) (((x118_8 + 1))) ((tc310_0)) ((upd1 (w118_39) (x118_8) ((xc267_12 - 1)))) by assumption) rfl
                              as_aux_lemma =>
                              intro m
                              induction m using Nat.strongRecOn with
                              | _ m ih312 =>
                                intro ls σ F_312 A_312 x312_5 x312_8 x312_13 l312_0 l312_4 l312_5 l312_6 l312_7 l312_8 l312_13 H hS_312 hA_312   j312_0 j312_1 j312_2 j312_3 j312_4 j312_5 j312_6 hm312
                                have j312_o : SHO ((w14)) ((a1)) ((a2)) ((a3)) ((a4)) ((yc72_5_19)) 256 ((x312_5)) (((x118_7 - tc293_0))) ((x312_8)) ((x312_13)) ((upd1 (w118_39) (x118_8) ((xc267_12 - 1)))) := j312_6
                                obtain ⟨q13, hq13⟩ : ∃ q : Int, q = (x312_13) := ⟨_, rfl⟩
                                refine Ew_of (pcₚ := 314) (fun _ => x_iload rfl l312_13) ?_
                                refine w_ifeq (t := 384) rfl rfl (show inr (x312_13) from j312_2) (fun b17 => ?_) (fun b17 => ?_)
                                · refine Ew_of (pcₚ := 118) (fun _ => x_goto rfl rfl) ?_
                                  have : ∀ i, (x312_8) ≤ i → i < 256 → ((upd1 (w118_39) (x118_8) ((xc267_12 - 1)))) i = 0 := fun i a b => hzz i (by omega) b
                                  have : SHO ((w14)) ((a1)) ((a2)) ((a3)) ((a4)) ((yc72_5_19)) 256 ((x312_5)) (((x118_7 - tc293_0))) ((x312_8)) (0) ((upd1 (w118_39) (x118_8) ((xc267_12 - 1)))) := by have h := j312_o; rw [← hq13, show q13 = 0 by omega] at h; exact h
                                  exact ih118 _ (by omega) _ σ _ _ (x312_5) ((x118_7 - tc293_0)) (x312_8) (l312_0) (l312_4) (l312_5) (l312_6) (l312_7) (l312_8) H (SF_trans (SF_trans (SF_trans (SF_trans (SF_trans (SF_trans (hS_118) hS11 (any_sub rfl)) hS_176 (any_sub rfl)) hS_c267 (any_sub rfl)) hS_c293 (any_sub rfl)) hS_c310 (any_sub rfl)) hS_312 (any_sub rfl)) (SA_trans (SA_trans (SA_trans (SA_upd (SA_trans (SA_trans (SA_trans (hA_118) hA12 (any_subA rfl)) hA_176 (any_subA rfl)) hA_c267 (any_subA rfl)) rfl) hA_c293 (any_subA rfl)) hA_c310 (any_subA rfl)) hA_312 (any_subA rfl))  (upd1 (w118_39) (x118_8) ((xc267_12 - 1))) ((funext (hA_312 39 rfl)).trans ((funext (hA_c310 39 rfl)).trans ((funext (hA_c293 39 rfl)).trans (congrArg (fun q => upd1 q (x118_8) ((xc267_12 - 1))) ((funext (hA_c267 39 rfl)).trans ((funext (hA_176 39 rfl)).trans ((funext (hA12 39 rfl)).trans (ew118_39)))))))) (show inr (x312_5) from j312_0) (show inr ((x118_7 - tc293_0)) from q_1257 b7 j118_3 jc267_2 jc293_0 jc293_1) (show inr (x312_8) from j312_1) (show 0 ≤ ((x118_7 - tc293_0)) ∧ ((x118_7 - tc293_0)) ≤ 512 by omega) (show ((x118_7 - tc293_0)) = p2 ((yc72_5_19)) - su (fun i => mass ((upd1 (w118_39) (x118_8) ((xc267_12 - 1))) i)) 256 by omega) (show 0 ≤ (x312_8) ∧ (x312_8) ≤ (a4) + 1 from q_1256 j118_5 j312_3) (show 8 * (a1) ≤ (x312_5) ∧ (x312_5) ≤ ((8 * a2)) by omega) (show ∀ i, (x312_8) ≤ i → i < 256 → ((upd1 (w118_39) (x118_8) ((xc267_12 - 1)))) i = 0 by assumption) (hge) (show SHO ((w14)) ((a1)) ((a2)) ((a3)) ((a4)) ((yc72_5_19)) 256 ((x312_5)) (((x118_7 - tc293_0))) ((x312_8)) (0) ((upd1 (w118_39) (x118_8) ((xc267_12 - 1)))) by assumption) rfl
                                · refine Ew_of (pcₚ := 319) (fun _ => x_iload rfl l312_5) ?_
                                  refine Ew_of (pcₚ := 320) (fun _ => x_iconst rfl) ?_
                                  refine w_iadd rfl ?_
                                  refine Ew_of (pcₚ := 323) (fun _ => x_iload rfl l312_6) ?_
                                  refine w_icmple (t := 328) rfl rfl (show inr ((x312_5 + 2)) from q_1258 h4 j312_0 j312_5) (show inr ((8 * a2)) from q_1240 h4) (fun b18 => ?_) (fun b18 => ?_)
                                  · refine Ew_of (pcₚ := 329) (fun _ => x_aload_n rfl l312_0) ?_
                                    refine Ew_of (pcₚ := 331) (fun _ => x_iload rfl l312_5) ?_
                                    refine w_inv H (o := 5) rfl rfl rfl (H.perm 5 rfl) rfl rfl (by rfl) (M259 H (w14) ((funext (hA_312 14 rfl)).trans ((funext (hA_c310 14 rfl)).trans ((funext (hA_c293 14 rfl)).trans ((funext (hA_c267 14 rfl)).trans ((funext (hA_176 14 rfl)).trans ((funext (hA12 14 rfl)).trans ((funext (hA_118 14 rfl)).trans ((funext (hA_85 14 rfl)).trans ((funext (hA_c72 14 rfl)).trans (ew14)))))))))) (show inr (x312_5) from j312_0) (show 0 ≤ (x312_5) ∧ (x312_5) < 524288 by omega) (fun z23 σ F19 A20 H hS21 hA22 pz23_0 pz23_1 pz23_2 => ⟨rfl, ?_⟩))
                                    refine Ew_of (pcₚ := 335) (fun _ => x_iconst rfl) ?_
                                    refine Ew_of (pcₚ := 336) (fun _ => x_aload_n rfl l312_0) ?_
                                    refine Ew_of (pcₚ := 338) (fun _ => x_iload rfl l312_5) ?_
                                    refine Ew_of (pcₚ := 339) (fun _ => x_iconst rfl) ?_
                                    refine w_iadd rfl ?_
                                    refine w_inv H (o := 5) rfl rfl rfl (H.perm 5 rfl) rfl rfl (by rfl) (M259 H (w14) ((funext (hA22 14 rfl)).trans ((funext (hA_312 14 rfl)).trans ((funext (hA_c310 14 rfl)).trans ((funext (hA_c293 14 rfl)).trans ((funext (hA_c267 14 rfl)).trans ((funext (hA_176 14 rfl)).trans ((funext (hA12 14 rfl)).trans ((funext (hA_118 14 rfl)).trans ((funext (hA_85 14 rfl)).trans ((funext (hA_c72 14 rfl)).trans (ew14))))))))))) (show inr ((x312_5 + 1)) from q_1260 b18 h4 j312_0) (show 0 ≤ ((x312_5 + 1)) ∧ ((x312_5 + 1)) < 524288 from q_1259 b18 h4 j118_6 j312_5 jc267_3 pz13_1) (fun z28 σ F24 A25 H hS26 hA27 pz28_0 pz28_1 pz28_2 => ⟨rfl, ?_⟩))
                                    refine w_imul rfl ?_
                                    refine w_iadd rfl ?_
                                    have hz : ((z23 + (2 * z28))) = bv ((w14)) ((x312_5)) 2 := by rw [bv_2]; have h1 := pz23_2; have h2 := pz28_2; omega
                                    refine Ew_of (pcₚ := 347) (fun _ => x_istore rfl) ?_
                                    refine Ew_of (pcₚ := 350) (fun _ => x_iinc (len := 3) rfl (rk_o (l312_5) rfl rfl)) ?_
                                    refine Ew_of (pcₚ := 352) (fun _ => x_iload rfl (rk_o (rk_o (l312_8) rfl rfl) rfl rfl)) ?_
                                    refine Ew_of (pcₚ := 354) (fun _ => x_iload rfl (rk_o (rk_s) rfl rfl)) ?_
                                    refine w_iadd rfl ?_
                                    refine Ew_of (pcₚ := 357) (fun _ => x_istore rfl) ?_
                                    refine Ew_of (pcₚ := 359) (fun _ => x_iload rfl rk_s) ?_
                                    refine Ew_of (pcₚ := 361) (fun _ => x_iload rfl (rk_o (rk_o (rk_o (l312_4) rfl rfl) rfl rfl) rfl rfl)) ?_
                                    refine Ew_of (pcₚ := 362) (fun _ => x_iconst rfl) ?_
                                    refine w_iadd rfl ?_
                                    refine w_icmple (t := 368) rfl rfl (show inr ((x312_8 + (z23 + (2 * z28)))) from q_1262 h5 j312_1 j312_3 pz23_1 pz28_1) (show inr ((a4 + 1)) from q_1261 h5) (fun b29 => ?_) (fun b29 => ?_)
                                    · refine Ew_of (pcₚ := 370) (fun _ => x_iload rfl (rk_o (rk_o (rk_s) rfl rfl) rfl rfl)) ?_
                                      refine Ew_of (pcₚ := 371) (fun _ => x_iconst rfl) ?_
                                      refine w_icmpne (t := 378) rfl rfl (show inr ((z23 + (2 * z28))) from q_1263 pz23_1 pz28_1) (show inr (3) from q_246) (fun b30 => ?_) (fun b30 => ?_)
                                      · refine Ew_of (pcₚ := 379) (fun _ => x_iconst rfl) ?_
                                        refine Ew_of (pcₚ := 381) (fun _ => x_istore rfl) ?_
                                        refine Ew_of (pcₚ := 312) (fun _ => x_goto rfl rfl) ?_
                                        have : SHO ((w14)) ((a1)) ((a2)) ((a3)) ((a4)) ((yc72_5_19)) 256 (((x312_5 + 2))) (((x118_7 - tc293_0))) (((x312_8 + (z23 + (2 * z28))))) ((0)) ((upd1 (w118_39) (x118_8) ((xc267_12 - 1)))) := SHO_z j312_o (by omega) (by omega) hz (by omega) (by omega) (by omega) (by omega)
                                        exact ih312 _ (msE hm312 q_1268 (q_1269 b18)) _ σ _ _ ((x312_5 + 2)) ((x312_8 + (z23 + (2 * z28)))) (0) (rk_o (rk_o (rk_o (rk_o (l312_0) rfl rfl) rfl rfl) rfl rfl) rfl rfl) (rk_o (rk_o (rk_o (rk_o (l312_4) rfl rfl) rfl rfl) rfl rfl) rfl rfl) (rk_o (rk_o (rk_s) rfl rfl) rfl rfl) (rk_o (rk_o (rk_o (rk_o (l312_6) rfl rfl) rfl rfl) rfl rfl) rfl rfl) (rk_o (rk_o (rk_o (rk_o (l312_7) rfl rfl) rfl rfl) rfl rfl) rfl rfl) (rk_o (rk_s) rfl rfl) (rk_s) H (SF_trans (SF_trans (hS_312) hS21 (any_sub rfl)) hS26 (any_sub rfl)) (SA_trans (SA_trans (hA_312) hA22 (any_subA rfl)) hA27 (any_subA rfl))   (show inr ((x312_5 + 2)) from q_1267 b18 h4 j312_0) (show inr ((x312_8 + (z23 + (2 * z28)))) from q_1266 b29 h5 j312_1 pz23_1 pz28_1) (show inr (0) from q_2) (show ((x118_8 + 1)) ≤ ((x312_8 + (z23 + (2 * z28)))) ∧ ((x312_8 + (z23 + (2 * z28)))) ≤ (a4) + 1 from q_1265 b29 j312_3 pz23_1 pz28_1) (show (0) = 0 ∨ (0) = 1 from q_45) (show (xc267_5) ≤ ((x312_5 + 2)) ∧ ((x312_5 + 2)) ≤ ((8 * a2)) from q_1264 b18 j312_5) (show SHO ((w14)) ((a1)) ((a2)) ((a3)) ((a4)) ((yc72_5_19)) 256 (((x312_5 + 2))) (((x118_7 - tc293_0))) (((x312_8 + (z23 + (2 * z28))))) ((0)) ((upd1 (w118_39) (x118_8) ((xc267_12 - 1)))) by assumption) rfl
                                      · refine Ew_of (pcₚ := 375) (fun _ => x_iconst rfl) ?_
                                        refine Ew_of (pcₚ := 379) (fun _ => x_goto rfl rfl) ?_
                                        refine Ew_of (pcₚ := 381) (fun _ => x_istore rfl) ?_
                                        refine Ew_of (pcₚ := 312) (fun _ => x_goto rfl rfl) ?_
                                        have : SHO ((w14)) ((a1)) ((a2)) ((a3)) ((a4)) ((yc72_5_19)) 256 (((x312_5 + 2))) (((x118_7 - tc293_0))) (((x312_8 + (z23 + (2 * z28))))) ((1)) ((upd1 (w118_39) (x118_8) ((xc267_12 - 1)))) := SHO_z j312_o (by omega) (by omega) hz (by omega) (by omega) (by omega) (by omega)
                                        exact ih312 _ (msE hm312 q_1268 (q_1269 b18)) _ σ _ _ ((x312_5 + 2)) ((x312_8 + (z23 + (2 * z28)))) (1) (rk_o (rk_o (rk_o (rk_o (l312_0) rfl rfl) rfl rfl) rfl rfl) rfl rfl) (rk_o (rk_o (rk_o (rk_o (l312_4) rfl rfl) rfl rfl) rfl rfl) rfl rfl) (rk_o (rk_o (rk_s) rfl rfl) rfl rfl) (rk_o (rk_o (rk_o (rk_o (l312_6) rfl rfl) rfl rfl) rfl rfl) rfl rfl) (rk_o (rk_o (rk_o (rk_o (l312_7) rfl rfl) rfl rfl) rfl rfl) rfl rfl) (rk_o (rk_s) rfl rfl) (rk_s) H (SF_trans (SF_trans (hS_312) hS21 (any_sub rfl)) hS26 (any_sub rfl)) (SA_trans (SA_trans (hA_312) hA22 (any_subA rfl)) hA27 (any_subA rfl))   (show inr ((x312_5 + 2)) from q_1267 b18 h4 j312_0) (show inr ((x312_8 + (z23 + (2 * z28)))) from q_1271 b29 b30 h5 j312_1) (show inr (1) from q_135) (show ((x118_8 + 1)) ≤ ((x312_8 + (z23 + (2 * z28)))) ∧ ((x312_8 + (z23 + (2 * z28)))) ≤ (a4) + 1 from q_1270 b29 b30 j312_3) (show (1) = 0 ∨ (1) = 1 from q_49) (show (xc267_5) ≤ ((x312_5 + 2)) ∧ ((x312_5 + 2)) ≤ ((8 * a2)) from q_1264 b18 j312_5) (show SHO ((w14)) ((a1)) ((a2)) ((a3)) ((a4)) ((yc72_5_19)) 256 (((x312_5 + 2))) (((x118_7 - tc293_0))) (((x312_8 + (z23 + (2 * z28))))) ((1)) ((upd1 (w118_39) (x118_8) ((xc267_12 - 1)))) by assumption) rfl
                                    · refine Ew_of (pcₚ := 367) (fun _ => x_iconst rfl) ?_
                                      have : SHA ((w14)) ((a1)) ((a2)) ((a3)) ((a4)) (-1) ((yc72_5_19)) 256 ((upd1 (w118_39) (x118_8) ((xc267_12 - 1)))) := SHO_f j312_o rfl (.inr ⟨by omega, .inr ⟨by omega, by omega⟩⟩)
                                      exact w_ireturn rfl (k ((-1)) σ _ _ H (SF_trans (SF_trans (SF_trans (SF_trans (SF_trans (SF_trans (SF_trans (SF_trans (SF_trans (SF_trans (SF_trans (SF_refl) hS_c72 (any_sub rfl)) hS_85 (any_sub rfl)) hS_118 (any_sub rfl)) hS11 (any_sub rfl)) hS_176 (any_sub rfl)) hS_c267 (any_sub rfl)) hS_c293 (any_sub rfl)) hS_c310 (any_sub rfl)) hS_312 (any_sub rfl)) hS21 (any_sub rfl)) hS26 (any_sub rfl)) (SA_trans (SA_trans (SA_trans (SA_trans (SA_trans (SA_upd (SA_trans (SA_trans (SA_trans (SA_trans (SA_trans (SA_trans (SA_refl) hA_c72 (any_subA rfl)) hA_85 (any_subA rfl)) hA_118 (any_subA rfl)) hA12 (any_subA rfl)) hA_176 (any_subA rfl)) hA_c267 (any_subA rfl)) rfl) hA_c293 (any_subA rfl)) hA_c310 (any_subA rfl)) hA_312 (any_subA rfl)) hA22 (any_subA rfl)) hA27 (any_subA rfl)) (yc72_5_19) ((((((((((((hS26 5 19 rfl).trans (hS21 5 19 rfl)).trans (hS_312 5 19 rfl)).trans (hS_c310 5 19 rfl)).trans (hS_c293 5 19 rfl)).trans (hS_c267 5 19 rfl)).trans (hS_176 5 19 rfl)).trans (hS11 5 19 rfl)).trans (hS_118 5 19 rfl)).trans (hS_85 5 19 rfl)).trans (eyc72_5_19))) (upd1 (w118_39) (x118_8) ((xc267_12 - 1))) ((funext (hA27 39 rfl)).trans ((funext (hA22 39 rfl)).trans ((funext (hA_312 39 rfl)).trans ((funext (hA_c310 39 rfl)).trans ((funext (hA_c293 39 rfl)).trans (congrArg (fun q => upd1 q (x118_8) ((xc267_12 - 1))) ((funext (hA_c267 39 rfl)).trans ((funext (hA_176 39 rfl)).trans ((funext (hA12 39 rfl)).trans (ew118_39)))))))))) (show inr ((-1)) from q_63) (show ((-1)) = -1 ∨ a1 ≤ ((-1)) ∧ ((-1)) ≤ a2 ∧ 5 ≤ (yc72_5_19) ∧ (yc72_5_19) ≤ a3 by first | exact q_1272 | omega) (show ((-1)) ≠ -1 → SH ((upd1 (w118_39) (x118_8) ((xc267_12 - 1)))) 0 64 ((yc72_5_19)) a4 by first | assumption | exact fun h => absurd rfl h | exact fun h => absurd h (by decide) | omega) (show SHA ((w14)) (a1) (a2) (a3) (a4) (((-1))) ((yc72_5_19)) 256 ((upd1 (w118_39) (x118_8) ((xc267_12 - 1)))) by assumption))
                                  · refine Ew_of (pcₚ := 327) (fun _ => x_iconst rfl) ?_
                                    have : SHA ((w14)) ((a1)) ((a2)) ((a3)) ((a4)) (-1) ((yc72_5_19)) 256 ((upd1 (w118_39) (x118_8) ((xc267_12 - 1)))) := SHO_f j312_o rfl (.inr ⟨by omega, .inl (by omega)⟩)
                                    exact w_ireturn rfl (k ((-1)) σ _ _ H (SF_trans (SF_trans (SF_trans (SF_trans (SF_trans (SF_trans (SF_trans (SF_trans (SF_trans (SF_refl) hS_c72 (any_sub rfl)) hS_85 (any_sub rfl)) hS_118 (any_sub rfl)) hS11 (any_sub rfl)) hS_176 (any_sub rfl)) hS_c267 (any_sub rfl)) hS_c293 (any_sub rfl)) hS_c310 (any_sub rfl)) hS_312 (any_sub rfl)) (SA_trans (SA_trans (SA_trans (SA_upd (SA_trans (SA_trans (SA_trans (SA_trans (SA_trans (SA_trans (SA_refl) hA_c72 (any_subA rfl)) hA_85 (any_subA rfl)) hA_118 (any_subA rfl)) hA12 (any_subA rfl)) hA_176 (any_subA rfl)) hA_c267 (any_subA rfl)) rfl) hA_c293 (any_subA rfl)) hA_c310 (any_subA rfl)) hA_312 (any_subA rfl)) (yc72_5_19) ((((((((((hS_312 5 19 rfl).trans (hS_c310 5 19 rfl)).trans (hS_c293 5 19 rfl)).trans (hS_c267 5 19 rfl)).trans (hS_176 5 19 rfl)).trans (hS11 5 19 rfl)).trans (hS_118 5 19 rfl)).trans (hS_85 5 19 rfl)).trans (eyc72_5_19))) (upd1 (w118_39) (x118_8) ((xc267_12 - 1))) ((funext (hA_312 39 rfl)).trans ((funext (hA_c310 39 rfl)).trans ((funext (hA_c293 39 rfl)).trans (congrArg (fun q => upd1 q (x118_8) ((xc267_12 - 1))) ((funext (hA_c267 39 rfl)).trans ((funext (hA_176 39 rfl)).trans ((funext (hA12 39 rfl)).trans (ew118_39)))))))) (show inr ((-1)) from q_63) (show ((-1)) = -1 ∨ a1 ≤ ((-1)) ∧ ((-1)) ≤ a2 ∧ 5 ≤ (yc72_5_19) ∧ (yc72_5_19) ≤ a3 by first | exact q_1272 | omega) (show ((-1)) ≠ -1 → SH ((upd1 (w118_39) (x118_8) ((xc267_12 - 1)))) 0 64 ((yc72_5_19)) a4 by first | assumption | exact fun h => absurd rfl h | exact fun h => absurd h (by decide) | omega) (show SHA ((w14)) (a1) (a2) (a3) (a4) (((-1))) ((yc72_5_19)) 256 ((upd1 (w118_39) (x118_8) ((xc267_12 - 1)))) by assumption))
                            refine w_icmpne (t := 309) rfl rfl (show inr (xc267_12) from jc267_1) (show inr (1) from q_135) (fun b31 => ?_) (fun b31 => ?_)
                            · refine Ew_of (pcₚ := 310) (fun _ => x_iconst rfl) ?_
                              exact hc310 (0) _ σ _ _  (rk_o (rk_o (lc293_0) rfl rfl) rfl rfl) (rk_o (rk_o (lc293_4) rfl rfl) rfl rfl) (rk_o (rk_o (lc293_5) rfl rfl) rfl rfl) (rk_o (rk_o (lc293_6) rfl rfl) rfl rfl) (rk_o (rk_s) rfl rfl) (rk_s) H (SF_refl) (SA_refl)   (show inr (0) from q_2) (show ((xc267_12) ≠ (1) ∧ (0) = (0)) ∨ ((xc267_12) = (1) ∧ (0) = (1)) from q_1273 b31)
                            · refine Ew_of (pcₚ := 306) (fun _ => x_iconst rfl) ?_
                              refine Ew_of (pcₚ := 310) (fun _ => x_goto rfl rfl) ?_
                              exact hc310 (1) _ σ _ _  (rk_o (rk_o (lc293_0) rfl rfl) rfl rfl) (rk_o (rk_o (lc293_4) rfl rfl) rfl rfl) (rk_o (rk_o (lc293_5) rfl rfl) rfl rfl) (rk_o (rk_o (lc293_6) rfl rfl) rfl rfl) (rk_o (rk_s) rfl rfl) (rk_s) H (SF_refl) (SA_refl)   (show inr (1) from q_135) (show ((xc267_12) ≠ (1) ∧ (1) = (0)) ∨ ((xc267_12) = (1) ∧ (1) = (1)) from q_1274 b31)
                          refine w_ifne (t := 289) rfl rfl (show inr (xc267_12) from jc267_1) (fun b32 => ?_) (fun b32 => ?_)
                          · refine Ew_of (pcₚ := 291) (fun _ => x_iload rfl lc267_12) ?_
                            refine Ew_of (pcₚ := 292) (fun _ => x_iconst rfl) ?_
                            refine w_isub rfl ?_
                            exact hc293 ((xc267_12 - 1)) _ σ _ _  (lc267_0) (lc267_4) (lc267_5) (lc267_6) (lc267_8) (lc267_12) H (SF_refl) (SA_refl)   (show inr ((xc267_12 - 1)) from q_1275 jc267_1 jc267_2) (show ((xc267_12) ≠ (0) ∧ ((xc267_12 - 1)) = ((xc267_12 - 1))) ∨ ((xc267_12) = (0) ∧ ((xc267_12 - 1)) = (1)) from q_256 b32)
                          · refine Ew_of (pcₚ := 286) (fun _ => x_iconst rfl) ?_
                            refine Ew_of (pcₚ := 293) (fun _ => x_goto rfl rfl) ?_
                            exact hc293 (1) _ σ _ _  (lc267_0) (lc267_4) (lc267_5) (lc267_6) (lc267_8) (lc267_12) H (SF_refl) (SA_refl)   (show inr (1) from q_135) (show ((xc267_12) ≠ (0) ∧ (1) = ((xc267_12 - 1))) ∨ ((xc267_12) = (0) ∧ (1) = (1)) from q_257 b32)
                        refine Ew_of (pcₚ := 215) (fun _ => x_iload rfl (rk_o (l176_12) rfl rfl)) ?_
                        refine Ew_of (pcₚ := 217) (fun _ => x_iload rfl (rk_o (l176_11) rfl rfl)) ?_
                        refine w_icmplt (t := 267) rfl rfl (show inr (x176_12) from j176_0) (show inr ((((2 * p2 (z13)) - 2) - x118_7)) from q_1276 b7 j118_3 pz13_2) (fun b33 => ?_) (fun b33 => ?_)
                        · have : SHu ((w14)) (8 * (a2)) (q5) ((x118_7)) ((x176_12)) (((x118_5 + z13))) := by first | exact SHu_a (m := 2 * p2 q9 - 2 - (x118_7)) hSq (by omega) (by rw [← hq12]; exact hu0) rfl (by omega) (by omega) | exact SHu_b (m := 2 * p2 q9 - 2 - (x118_7)) hSq hu0 rfl (by omega) (by omega) hw1 (by omega) (by omega) | exact SHu_c (m := 2 * p2 q9 - 2 - (x118_7)) hSq hu0 rfl (by omega) (by omega) hw1 (by omega) (by omega) (by omega)
                          exact hc267  _ σ _ _ ((x118_5 + z13)) (x176_12) (rk_o (l176_0) rfl rfl) (rk_o (l176_4) rfl rfl) (rk_s) (rk_o (l176_6) rfl rfl) (rk_o (l176_7) rfl rfl) (rk_o (l176_8) rfl rfl) (rk_o (l176_12) rfl rfl) H (SF_refl) (SA_refl)   (show inr ((x118_5 + z13)) from q_1279 b15 h4 j118_6 pz13_1) (show inr (x176_12) from j176_0) (show 0 ≤ (x176_12) ∧ (x176_12) ≤ (x118_7) + 1 from q_1278 b33 b7 j176_0 j176_4 pz13_2) (show ((x118_5 + z13)) ≤ ((x118_5 + z13)) ∧ ((x118_5 + z13)) ≤ ((8 * a2)) from q_1277 b15) (show SHu ((w14)) (8 * (a2)) (q5) ((x118_7)) ((x176_12)) (((x118_5 + z13))) by assumption)
                        · refine Ew_of (pcₚ := 222) (fun _ => x_iload rfl rk_s) ?_
                          refine Ew_of (pcₚ := 223) (fun _ => x_iconst rfl) ?_
                          refine w_iadd rfl ?_
                          refine Ew_of (pcₚ := 226) (fun _ => x_iload rfl (rk_o (l176_6) rfl rfl)) ?_
                          refine w_icmple (t := 231) rfl rfl (show inr (((x118_5 + z13) + 1)) from q_1280 b15 h4 j118_0 pz13_1) (show inr ((8 * a2)) from q_1240 h4) (fun b34 => ?_) (fun b34 => ?_)
                          · refine Ew_of (pcₚ := 233) (fun _ => x_iload rfl (rk_o (l176_12) rfl rfl)) ?_
                            refine Ew_of (pcₚ := 234) (fun _ => x_aload_n rfl (rk_o (l176_0) rfl rfl)) ?_
                            refine Ew_of (pcₚ := 236) (fun _ => x_iload rfl rk_s) ?_
                            refine w_inv H (o := 5) rfl rfl rfl (H.perm 5 rfl) rfl rfl (by rfl) (M259 H (w14) ((funext (hA_176 14 rfl)).trans ((funext (hA12 14 rfl)).trans ((funext (hA_118 14 rfl)).trans ((funext (hA_85 14 rfl)).trans ((funext (hA_c72 14 rfl)).trans (ew14)))))) (show inr ((x118_5 + z13)) from q_1282 b34 h4 j118_6 pz13_1) (show 0 ≤ ((x118_5 + z13)) ∧ ((x118_5 + z13)) < 524288 from q_1281 b34 b7 h4 j118_0 j118_6 j176_2 j176_3 pz13_1 pz13_2) (fun z39 σ F35 A36 H hS37 hA38 pz39_0 pz39_1 pz39_2 => ⟨rfl, ?_⟩))
                            have hb1 := pz39_2
                            refine Ew_of (pcₚ := 241) (fun _ => x_iload rfl (rk_o (l176_9) rfl rfl)) ?_
                            have hbm := bitmul (z := (z39)) (y := p2 (z13)) (by omega)
                            refine w_ishlT rfl (show 0 ≤ z13 ∧ z13 ≤ 31 from q_1283 b7 j176_2 j176_3 pz13_1 pz13_2) ?_
                            refine w_iadd rfl ?_
                            have hw1 : ((x176_12 + (z39 * p2 (z13)))) = q12 + bt ((w14)) (q5 + q9) * p2 q9 := by rw [hq5, hq9, hq12, ← hb1]
                            refine Ew_of (pcₚ := 245) (fun _ => x_istore rfl) ?_
                            refine Ew_of (pcₚ := 248) (fun _ => x_iinc (len := 3) rfl (rk_o (rk_s) rfl rfl)) ?_
                            refine Ew_of (pcₚ := 250) (fun _ => x_iload rfl (rk_o (rk_s) rfl rfl)) ?_
                            refine Ew_of (pcₚ := 252) (fun _ => x_iload rfl (rk_o (rk_o (rk_o (l176_10) rfl rfl) rfl rfl) rfl rfl)) ?_
                            refine w_icmplt (t := 263) rfl rfl (show inr ((x176_12 + (z39 * p2 (z13)))) by omega) (show inr (p2 (z13)) from q_1284 b33 b7 j118_3 j176_0 pz13_2) (fun b41 => ?_) (fun b41 => ?_)
                            · refine Ew_of (pcₚ := 265) (fun _ => x_iload rfl (rk_o (rk_s) rfl rfl)) ?_
                              refine Ew_of (pcₚ := 267) (fun _ => x_istore rfl) ?_
                              have : SHu ((w14)) (8 * (a2)) (q5) ((x118_7)) (((x176_12 + (z39 * p2 (z13))))) ((((x118_5 + z13) + 1))) := by first | exact SHu_a (m := 2 * p2 q9 - 2 - (x118_7)) hSq (by omega) (by rw [← hq12]; exact hu0) rfl (by omega) (by omega) | exact SHu_b (m := 2 * p2 q9 - 2 - (x118_7)) hSq hu0 rfl (by omega) (by omega) hw1 (by omega) (by omega) | exact SHu_c (m := 2 * p2 q9 - 2 - (x118_7)) hSq hu0 rfl (by omega) (by omega) hw1 (by omega) (by omega) (by omega)
                              exact hc267  _ σ _ _ (((x118_5 + z13) + 1)) ((x176_12 + (z39 * p2 (z13)))) (rk_o (rk_o (rk_o (rk_o (l176_0) rfl rfl) rfl rfl) rfl rfl) rfl rfl) (rk_o (rk_o (rk_o (rk_o (l176_4) rfl rfl) rfl rfl) rfl rfl) rfl rfl) (rk_o (rk_s) rfl rfl) (rk_o (rk_o (rk_o (rk_o (l176_6) rfl rfl) rfl rfl) rfl rfl) rfl rfl) (rk_o (rk_o (rk_o (rk_o (l176_7) rfl rfl) rfl rfl) rfl rfl) rfl rfl) (rk_o (rk_o (rk_o (rk_o (l176_8) rfl rfl) rfl rfl) rfl rfl) rfl rfl) (rk_s) H (SF_trans (SF_refl) hS37 (any_sub rfl)) (SA_trans (SA_refl) hA38 (any_subA rfl))   (show inr (((x118_5 + z13) + 1)) from q_1286 b34 h4 j118_0 pz13_1) (show inr ((x176_12 + (z39 * p2 (z13)))) by omega) (show 0 ≤ ((x176_12 + (z39 * p2 (z13)))) ∧ ((x176_12 + (z39 * p2 (z13)))) ≤ (x118_7) + 1 by omega) (show ((x118_5 + z13)) ≤ (((x118_5 + z13) + 1)) ∧ (((x118_5 + z13) + 1)) ≤ ((8 * a2)) from q_1285 b34) (show SHu ((w14)) (8 * (a2)) (q5) ((x118_7)) (((x176_12 + (z39 * p2 (z13))))) ((((x118_5 + z13) + 1))) by assumption)
                            · refine Ew_of (pcₚ := 257) (fun _ => x_iload rfl (rk_o (rk_s) rfl rfl)) ?_
                              refine Ew_of (pcₚ := 259) (fun _ => x_iload rfl (rk_o (rk_o (rk_o (l176_11) rfl rfl) rfl rfl) rfl rfl)) ?_
                              refine w_isub rfl ?_
                              refine Ew_of (pcₚ := 265) (fun _ => x_goto rfl rfl) ?_
                              refine Ew_of (pcₚ := 267) (fun _ => x_istore rfl) ?_
                              have : SHu ((w14)) (8 * (a2)) (q5) ((x118_7)) ((((x176_12 + (z39 * p2 (z13))) - (((2 * p2 (z13)) - 2) - x118_7)))) ((((x118_5 + z13) + 1))) := by first | exact SHu_a (m := 2 * p2 q9 - 2 - (x118_7)) hSq (by omega) (by rw [← hq12]; exact hu0) rfl (by omega) (by omega) | exact SHu_b (m := 2 * p2 q9 - 2 - (x118_7)) hSq hu0 rfl (by omega) (by omega) hw1 (by omega) (by omega) | exact SHu_c (m := 2 * p2 q9 - 2 - (x118_7)) hSq hu0 rfl (by omega) (by omega) hw1 (by omega) (by omega) (by omega)
                              exact hc267  _ σ _ _ (((x118_5 + z13) + 1)) (((x176_12 + (z39 * p2 (z13))) - (((2 * p2 (z13)) - 2) - x118_7))) (rk_o (rk_o (rk_o (rk_o (l176_0) rfl rfl) rfl rfl) rfl rfl) rfl rfl) (rk_o (rk_o (rk_o (rk_o (l176_4) rfl rfl) rfl rfl) rfl rfl) rfl rfl) (rk_o (rk_s) rfl rfl) (rk_o (rk_o (rk_o (rk_o (l176_6) rfl rfl) rfl rfl) rfl rfl) rfl rfl) (rk_o (rk_o (rk_o (rk_o (l176_7) rfl rfl) rfl rfl) rfl rfl) rfl rfl) (rk_o (rk_o (rk_o (rk_o (l176_8) rfl rfl) rfl rfl) rfl rfl) rfl rfl) (rk_s) H (SF_trans (SF_refl) hS37 (any_sub rfl)) (SA_trans (SA_refl) hA38 (any_subA rfl))   (show inr (((x118_5 + z13) + 1)) from q_1286 b34 h4 j118_0 pz13_1) (show inr (((x176_12 + (z39 * p2 (z13))) - (((2 * p2 (z13)) - 2) - x118_7))) by omega) (show 0 ≤ (((x176_12 + (z39 * p2 (z13))) - (((2 * p2 (z13)) - 2) - x118_7))) ∧ (((x176_12 + (z39 * p2 (z13))) - (((2 * p2 (z13)) - 2) - x118_7))) ≤ (x118_7) + 1 by omega) (show ((x118_5 + z13)) ≤ (((x118_5 + z13) + 1)) ∧ (((x118_5 + z13) + 1)) ≤ ((8 * a2)) from q_1285 b34) (show SHu ((w14)) (8 * (a2)) (q5) ((x118_7)) ((((x176_12 + (z39 * p2 (z13))) - (((2 * p2 (z13)) - 2) - x118_7)))) ((((x118_5 + z13) + 1))) by assumption)
                          · refine Ew_of (pcₚ := 230) (fun _ => x_iconst rfl) ?_
                            have : SHA ((w14)) ((a1)) ((a2)) ((a3)) ((a4)) (-1) ((yc72_5_19)) 256 ((w118_39)) := SHO_f j118_o rfl (.inl ⟨rfl, by omega, .inr ⟨by omega, SHx_b (v := q12) (m := 2 * p2 q9 - 2 - (x118_7)) hSq (by omega) (by rw [← hq5]; exact hu0) rfl (by omega) (by omega)⟩⟩)
                            exact w_ireturn rfl (k ((-1)) σ _ _ H (SF_trans (SF_trans (SF_trans (SF_trans (SF_trans (SF_refl) hS_c72 (any_sub rfl)) hS_85 (any_sub rfl)) hS_118 (any_sub rfl)) hS11 (any_sub rfl)) hS_176 (any_sub rfl)) (SA_trans (SA_trans (SA_trans (SA_trans (SA_trans (SA_refl) hA_c72 (any_subA rfl)) hA_85 (any_subA rfl)) hA_118 (any_subA rfl)) hA12 (any_subA rfl)) hA_176 (any_subA rfl)) (yc72_5_19) ((((((hS_176 5 19 rfl).trans (hS11 5 19 rfl)).trans (hS_118 5 19 rfl)).trans (hS_85 5 19 rfl)).trans (eyc72_5_19))) (w118_39) ((funext (hA_176 39 rfl)).trans ((funext (hA12 39 rfl)).trans (ew118_39))) (show inr ((-1)) from q_63) (show ((-1)) = -1 ∨ a1 ≤ ((-1)) ∧ ((-1)) ≤ a2 ∧ 5 ≤ (yc72_5_19) ∧ (yc72_5_19) ≤ a3 by first | exact q_1272 | omega) (show ((-1)) ≠ -1 → SH ((w118_39)) 0 64 ((yc72_5_19)) a4 by first | assumption | exact fun h => absurd rfl h | exact fun h => absurd h (by decide) | omega) (show SHA ((w14)) (a1) (a2) (a3) (a4) (((-1))) ((yc72_5_19)) 256 ((w118_39)) by assumption))
                      · have hp13 := p2_pos (x176_13)
                        have : p2 (x176_13) ≤ p2 (z13) := p2_mono (by omega)
                        refine Ew_of (pcₚ := 185) (fun _ => x_iload rfl l176_12) ?_
                        refine Ew_of (pcₚ := 186) (fun _ => x_aload_n rfl l176_0) ?_
                        refine Ew_of (pcₚ := 188) (fun _ => x_iload rfl l176_5) ?_
                        refine Ew_of (pcₚ := 190) (fun _ => x_iload rfl l176_13) ?_
                        refine w_iadd rfl ?_
                        refine w_inv H (o := 5) rfl rfl rfl (H.perm 5 rfl) rfl rfl (by rfl) (M259 H (w14) ((funext (hA_176 14 rfl)).trans ((funext (hA12 14 rfl)).trans ((funext (hA_118 14 rfl)).trans ((funext (hA_85 14 rfl)).trans ((funext (hA_c72 14 rfl)).trans (ew14)))))) (show inr ((x118_5 + x176_13)) from q_1288 b15 b16 h4 j118_0 j176_2) (show 0 ≤ ((x118_5 + x176_13)) ∧ ((x118_5 + x176_13)) < 524288 from q_1287 b15 b16 h4 j118_6 j176_2) (fun z46 σ F42 A43 H hS44 hA45 pz46_0 pz46_1 pz46_2 => ⟨rfl, ?_⟩))
                        have hbk := pz46_2
                        obtain ⟨qv, hqv⟩ : ∃ q : Int, q = (x176_12) := ⟨_, rfl⟩
                        obtain ⟨qk, hqk⟩ : ∃ q : Int, q = (x176_13) := ⟨_, rfl⟩
                        refine Ew_of (pcₚ := 196) (fun _ => x_iload rfl l176_13) ?_
                        have hbm := bitmul (z := (z46)) (y := p2 (x176_13)) (by omega)
                        have hps := p2_s (y := (x176_13)) (by omega)
                        refine w_ishlT rfl (show 0 ≤ x176_13 ∧ x176_13 ≤ 31 from q_1289 b16 j176_2 pz13_1) ?_
                        refine w_iadd rfl ?_
                        have : ((x176_12 + (z46 * p2 (x176_13)))) = bv ((w14)) ((x118_5)) ((x176_13) + 1 : Int).toNat := bv_s (q := (x118_5) + (x176_13)) j176_v (by omega) rfl (by rw [← hbk]) rfl
                        refine Ew_of (pcₚ := 200) (fun _ => x_istore rfl) ?_
                        refine Ew_of (pcₚ := 203) (fun _ => x_iinc (len := 3) rfl (rk_o (l176_13) rfl rfl)) ?_
                        refine Ew_of (pcₚ := 176) (fun _ => x_goto rfl rfl) ?_
                        exact ih176 _ (msE hm176 q_16 (q_17 b16)) _ σ _ _ ((x176_12 + (z46 * p2 (x176_13)))) ((x176_13 + 1)) (rk_o (rk_o (l176_0) rfl rfl) rfl rfl) (rk_o (rk_o (l176_4) rfl rfl) rfl rfl) (rk_o (rk_o (l176_5) rfl rfl) rfl rfl) (rk_o (rk_o (l176_6) rfl rfl) rfl rfl) (rk_o (rk_o (l176_7) rfl rfl) rfl rfl) (rk_o (rk_o (l176_8) rfl rfl) rfl rfl) (rk_o (rk_o (l176_9) rfl rfl) rfl rfl) (rk_o (rk_o (l176_10) rfl rfl) rfl rfl) (rk_o (rk_o (l176_11) rfl rfl) rfl rfl) (rk_o (rk_s) rfl rfl) (rk_s) H (SF_trans (hS_176) hS44 (any_sub rfl)) (SA_trans (hA_176) hA45 (any_subA rfl))   (show inr ((x176_12 + (z46 * p2 (x176_13)))) by omega) (show inr ((x176_13 + 1)) from q_1290 b16 j176_2 pz13_1) (show (0) ≤ ((x176_13 + 1)) from q_14 j176_2) (show ((x176_13 + 1)) ≤ (0) ∨ ((x176_13 + 1)) ≤ ((z13)) from q_13 b16) (show 0 ≤ ((x176_12 + (z46 * p2 (x176_13)))) ∧ ((x176_12 + (z46 * p2 (x176_13)))) < p2 ((x176_13 + 1)) by omega) (show ((x176_12 + (z46 * p2 (x176_13)))) = bv ((w14)) ((x118_5)) (((x176_13 + 1)) : Int).toNat by assumption) rfl
                  · refine Ew_of (pcₚ := 169) (fun _ => x_iconst rfl) ?_
                    have : SHA ((w14)) ((a1)) ((a2)) ((a3)) ((a4)) (-1) ((yc72_5_19)) 256 ((w118_39)) := SHO_f j118_o rfl (.inl ⟨rfl, by omega, .inr ⟨by omega, SHx_a hSn (by omega)⟩⟩)
                    exact w_ireturn rfl (k ((-1)) σ _ _ H (SF_trans (SF_trans (SF_trans (SF_trans (SF_refl) hS_c72 (any_sub rfl)) hS_85 (any_sub rfl)) hS_118 (any_sub rfl)) hS11 (any_sub rfl)) (SA_trans (SA_trans (SA_trans (SA_trans (SA_refl) hA_c72 (any_subA rfl)) hA_85 (any_subA rfl)) hA_118 (any_subA rfl)) hA12 (any_subA rfl)) (yc72_5_19) (((((hS11 5 19 rfl).trans (hS_118 5 19 rfl)).trans (hS_85 5 19 rfl)).trans (eyc72_5_19))) (w118_39) ((funext (hA12 39 rfl)).trans (ew118_39)) (show inr ((-1)) from q_63) (show ((-1)) = -1 ∨ a1 ≤ ((-1)) ∧ ((-1)) ≤ a2 ∧ 5 ≤ (yc72_5_19) ∧ (yc72_5_19) ≤ a3 by first | exact q_1272 | omega) (show ((-1)) ≠ -1 → SH ((w118_39)) 0 64 ((yc72_5_19)) a4 by first | assumption | exact fun h => absurd rfl h | exact fun h => absurd h (by decide) | omega) (show SHA ((w14)) (a1) (a2) (a3) (a4) (((-1))) ((yc72_5_19)) 256 ((w118_39)) by assumption))
                · refine Ew_of (pcₚ := 131) (fun _ => x_iconst rfl) ?_
                  have : SHA ((w14)) ((a1)) ((a2)) ((a3)) ((a4)) (-1) ((yc72_5_19)) 256 ((w118_39)) := SHO_f j118_o rfl (.inl ⟨rfl, by omega, .inl (by omega)⟩)
                  exact w_ireturn rfl (k ((-1)) σ _ _ H (SF_trans (SF_trans (SF_trans (SF_refl) hS_c72 (any_sub rfl)) hS_85 (any_sub rfl)) hS_118 (any_sub rfl)) (SA_trans (SA_trans (SA_trans (SA_refl) hA_c72 (any_subA rfl)) hA_85 (any_subA rfl)) hA_118 (any_subA rfl)) (yc72_5_19) ((((hS_118 5 19 rfl).trans (hS_85 5 19 rfl)).trans (eyc72_5_19))) (w118_39) (ew118_39) (show inr ((-1)) from q_63) (show ((-1)) = -1 ∨ a1 ≤ ((-1)) ∧ ((-1)) ≤ a2 ∧ 5 ≤ (yc72_5_19) ∧ (yc72_5_19) ≤ a3 by first | exact q_1272 | omega) (show ((-1)) ≠ -1 → SH ((w118_39)) 0 64 ((yc72_5_19)) a4 by first | assumption | exact fun h => absurd rfl h | exact fun h => absurd h (by decide) | omega) (show SHA ((w14)) (a1) (a2) (a3) (a4) (((-1))) ((yc72_5_19)) 256 ((w118_39)) by assumption))
          · refine Ew_of (pcₚ := 94) (fun _ => x_aload_n rfl l85_0) ?_
            refine w_gT H (o := 5) (t := 39) rfl (H.perm 5 rfl) rfl rfl rfl rfl rfl rfl ?_
            refine Ew_of (pcₚ := 99) (fun _ => x_iload rfl l85_7) ?_
            refine Ew_of (pcₚ := 100) (fun _ => x_iconst rfl) ?_
            refine w_sI H (o := 39) (n := 256) rfl (H.perm 39 rfl) rfl rfl (H.fix 39 rfl rfl) (show 0 ≤ x85_7 ∧ x85_7 < ((256 : Nat) : Int) from q_23 b5 j85_1) (by decide) (show (-1 : Int) ≤ 0 ∧ 0 ≤ 1048576 from q_1291) (fun σ H => ?_)
            refine Ew_of (pcₚ := 104) (fun _ => x_iinc (len := 3) rfl (l85_7)) ?_
            refine Ew_of (pcₚ := 85) (fun _ => x_goto rfl rfl) ?_
            have : ∀ i, (0 : Int) ≤ i → i < ((x85_7 + 1)) → ((upd1 (w85_39) (x85_7) (0))) (0 + i) = 0 := share_z j85_3
            exact ih85 _ (msE hm85 q_26 (q_27 b5)) _ σ _ _ ((x85_7 + 1)) (rk_o (l85_0) rfl rfl) (rk_o (l85_4) rfl rfl) (rk_o (l85_5) rfl rfl) (rk_o (l85_6) rfl rfl) (rk_s) H (hS_85) (SA_upd (hA_85) rfl)  (upd1 (w85_39) (x85_7) (0)) (congrArg (fun q => upd1 q (x85_7) (0)) (ew85_39)) (show inr ((x85_7 + 1)) from q_25 b5 j85_1) (show (0) ≤ ((x85_7 + 1)) from q_14 j85_1) (show ((x85_7 + 1)) ≤ (0) ∨ ((x85_7 + 1)) ≤ ((256)) from q_24 b5) (show ∀ i, 0 ≤ i → i < ((x85_7 + 1)) → ((upd1 (w85_39) (x85_7) (0))) (0 + i) = 0 by assumption) rfl
      · refine Ew_of (pcₚ := 81) (fun _ => x_iconst rfl) ?_
        have : SHA ((w14)) ((a1)) ((a2)) ((a3)) ((a4)) (-1) ((yc72_5_19)) 256 ((A 39)) := SHA_g (v := (yc72_5_19) - 5) (by omega) (by omega) (by omega)
        exact w_ireturn rfl (k ((-1)) σ _ _ H (SF_trans (SF_refl) hS_c72 (any_sub rfl)) (SA_trans (SA_refl) hA_c72 (any_subA rfl)) (yc72_5_19) ((eyc72_5_19)) (A 39) (funext (hA_c72 39 rfl)) (show inr ((-1)) from q_63) (show ((-1)) = -1 ∨ a1 ≤ ((-1)) ∧ ((-1)) ≤ a2 ∧ 5 ≤ (yc72_5_19) ∧ (yc72_5_19) ≤ a3 by first | exact q_1272 | omega) (show ((-1)) ≠ -1 → SH ((A 39)) 0 64 ((yc72_5_19)) a4 by first | assumption | exact fun h => absurd rfl h | exact fun h => absurd h (by decide) | omega) (show SHA ((w14)) (a1) (a2) (a3) (a4) (((-1))) ((yc72_5_19)) 256 ((A 39)) by assumption))
    refine Ew_of (pcₚ := 24) (fun _ => x_aload_n rfl (rk_o (rk_o (rfl) rfl rfl) rfl rfl)) ?_
    refine Ew_of (pcₚ := 25) (fun _ => x_iconst rfl) ?_
    refine Ew_of (pcₚ := 26) (fun _ => x_aload_n rfl (rk_o (rk_o (rfl) rfl rfl) rfl rfl)) ?_
    refine Ew_of (pcₚ := 28) (fun _ => x_iload rfl (rk_o (rk_s) rfl rfl)) ?_
    refine w_inv H (o := 5) rfl rfl rfl (H.perm 5 rfl) rfl rfl (by rfl) (M259 H (w14) (ew14) (show inr ((8 * a1)) from q_1293 h4) (show 0 ≤ ((8 * a1)) ∧ ((8 * a1)) < 524288 from q_1292 b1 h4) (fun z52 σ F48 A49 H hS50 hA51 pz52_0 pz52_1 pz52_2 => ⟨rfl, ?_⟩))
    refine w_iadd rfl ?_
    refine Ew_of (pcₚ := 33) (fun _ => x_iconst rfl) ?_
    refine Ew_of (pcₚ := 34) (fun _ => x_aload_n rfl (rk_o (rk_o (rfl) rfl rfl) rfl rfl)) ?_
    refine Ew_of (pcₚ := 36) (fun _ => x_iload rfl (rk_o (rk_s) rfl rfl)) ?_
    refine Ew_of (pcₚ := 37) (fun _ => x_iconst rfl) ?_
    refine w_iadd rfl ?_
    refine w_inv H (o := 5) rfl rfl rfl (H.perm 5 rfl) rfl rfl (by rfl) (M259 H (w14) ((funext (hA51 14 rfl)).trans (ew14)) (show inr (((8 * a1) + 1)) from q_1295 h4) (show 0 ≤ (((8 * a1) + 1)) ∧ (((8 * a1) + 1)) < 524288 from q_1294 b1 h4) (fun z57 σ F53 A54 H hS55 hA56 pz57_0 pz57_1 pz57_2 => ⟨rfl, ?_⟩))
    refine w_imul rfl ?_
    refine w_iadd rfl ?_
    refine Ew_of (pcₚ := 44) (fun _ => x_iconst rfl) ?_
    refine Ew_of (pcₚ := 45) (fun _ => x_aload_n rfl (rk_o (rk_o (rfl) rfl rfl) rfl rfl)) ?_
    refine Ew_of (pcₚ := 47) (fun _ => x_iload rfl (rk_o (rk_s) rfl rfl)) ?_
    refine Ew_of (pcₚ := 48) (fun _ => x_iconst rfl) ?_
    refine w_iadd rfl ?_
    refine w_inv H (o := 5) rfl rfl rfl (H.perm 5 rfl) rfl rfl (by rfl) (M259 H (w14) ((funext (hA56 14 rfl)).trans ((funext (hA51 14 rfl)).trans (ew14))) (show inr (((8 * a1) + 2)) from q_1297 h4) (show 0 ≤ (((8 * a1) + 2)) ∧ (((8 * a1) + 2)) < 524288 from q_1296 b1 h4) (fun z62 σ F58 A59 H hS60 hA61 pz62_0 pz62_1 pz62_2 => ⟨rfl, ?_⟩))
    refine w_imul rfl ?_
    refine w_iadd rfl ?_
    refine Ew_of (pcₚ := 56) (fun _ => x_bipush (z := 8) rfl (by decide)) ?_
    refine Ew_of (pcₚ := 57) (fun _ => x_aload_n rfl (rk_o (rk_o (rfl) rfl rfl) rfl rfl)) ?_
    refine Ew_of (pcₚ := 59) (fun _ => x_iload rfl (rk_o (rk_s) rfl rfl)) ?_
    refine Ew_of (pcₚ := 60) (fun _ => x_iconst rfl) ?_
    refine w_iadd rfl ?_
    refine w_inv H (o := 5) rfl rfl rfl (H.perm 5 rfl) rfl rfl (by rfl) (M259 H (w14) ((funext (hA61 14 rfl)).trans ((funext (hA56 14 rfl)).trans ((funext (hA51 14 rfl)).trans (ew14)))) (show inr (((8 * a1) + 3)) from q_1299 h4) (show 0 ≤ (((8 * a1) + 3)) ∧ (((8 * a1) + 3)) < 524288 from q_1298 b1 h4) (fun z67 σ F63 A64 H hS65 hA66 pz67_0 pz67_1 pz67_2 => ⟨rfl, ?_⟩))
    refine w_imul rfl ?_
    refine w_iadd rfl ?_
    have hdo : (((((5 + z52) + (2 * z57)) + (4 * z62)) + (8 * z67))) = 5 + bv ((w14)) (8 * (a1)) 4 := by rw [bv_4]; have h1 := pz52_2; have h2 := pz57_2; have h3 := pz62_2; have h4 := pz67_2; omega
    refine w_pI H (o := 5) rfl rfl (H.perm 5 rfl) rfl rfl rfl (fun _ => rfl) rfl (show (0 : Int) ≤ ((((5 + z52) + (2 * z57)) + (4 * z62)) + (8 * z67)) ∧ ((((5 + z52) + (2 * z57)) + (4 * z62)) + (8 * z67)) ≤ 20 from q_1300 pz52_1 pz57_1 pz62_1 pz67_1) (fun σ H => ?_)
    refine Ew_of (pcₚ := 72) (fun _ => x_iinc (len := 3) rfl (rk_o (rk_s) rfl rfl)) ?_
    have : (((((5 + z52) + (2 * z57)) + (4 * z62)) + (8 * z67))) = 5 + bv ((w14)) (8 * (a1)) 4 := hdo
    exact hc72  _ σ _ _ (((8 * a1) + 4)) (rk_o (rk_o (rk_o (rfl) rfl rfl) rfl rfl) rfl rfl) (rk_o (rk_o (rk_o (rfl) rfl rfl) rfl rfl) rfl rfl) (rk_o (rk_o (rk_o (rfl) rfl rfl) rfl rfl) rfl rfl) (rk_s) (rk_o (rk_s) rfl rfl) H (SF_upd (SF_trans (SF_trans (SF_trans (SF_trans (SF_refl) hS50 (any_sub rfl)) hS55 (any_sub rfl)) hS60 (any_sub rfl)) hS65 (any_sub rfl)) rfl) (SA_trans (SA_trans (SA_trans (SA_trans (SA_refl) hA51 (any_subA rfl)) hA56 (any_subA rfl)) hA61 (any_subA rfl)) hA66 (any_subA rfl)) (((((5 + z52) + (2 * z57)) + (4 * z62)) + (8 * z67))) (rfl)  (show inr (((8 * a1) + 4)) from q_1241 h4) (show 5 ≤ (((((5 + z52) + (2 * z57)) + (4 * z62)) + (8 * z67))) ∧ (((((5 + z52) + (2 * z57)) + (4 * z62)) + (8 * z67))) ≤ 20 from q_1302 pz52_1 pz57_1 pz62_1 pz67_1) (show (((8 * a1) + 4)) = 8 * (a1) + 4 ∧ (((8 * a1) + 4)) ≤ ((8 * a2)) from q_1301 b1) (hdo)
  · refine Ew_of (pcₚ := 22) (fun _ => x_iconst rfl) ?_
    have r68 : (0 : Int) ≤ F 5 19 ∧ F 5 19 ≤ 20 := H.frng 5 19
    have : SHA ((w14)) ((a1)) ((a2)) ((a3)) ((a4)) (-1) ((F 5 19)) 256 ((A 39)) := SHA_0 (by omega)
    exact w_ireturn rfl (k ((-1)) σ _ _ H (SF_refl) (SA_refl) (F 5 19) (rfl) (A 39) (rfl) (show inr ((-1)) from q_63) (show ((-1)) = -1 ∨ a1 ≤ ((-1)) ∧ ((-1)) ≤ a2 ∧ 5 ≤ (F 5 19) ∧ (F 5 19) ≤ a3 by first | exact q_1272 | omega) (show ((-1)) ≠ -1 → SH ((A 39)) 0 64 ((F 5 19)) a4 by first | assumption | exact fun h => absurd rfl h | exact fun h => absurd h (by decide) | omega) (show SHA ((w14)) (a1) (a2) (a3) (a4) (((-1))) ((F 5 19)) 256 ((A 39)) by assumption))

