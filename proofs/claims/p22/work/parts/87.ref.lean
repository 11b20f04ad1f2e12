/-- Writer.sayTable -/
theorem M437 {σ0 σ : rS} {D N : Nat → Nat} {F : hF} {A : hA} {d c s : Nat} {Q : wQ} (H : HS σ0 σ D N F A) {a1 : Int} (u6_28 : Int) (eu6_28 : F 6 28 = u6_28) (w54 : Int → Int) (ew54 : A 54 = w54) (w55 : Int → Int) (ew55 : A 55 = w55) (w66 : Int → Int) (ew66 : A 66 = w66) (h0 : inr (a1)) (h1 : 0 ≤ (a1) ∧ (a1) ≤ 2) (h2 : 1 ≤ (u6_28)) (h3 : WO ((w54)) ((w55))) (h4 : ∀ j, 0 ≤ j → j < (u6_28) → (sh ((w66)) (8001 * (a1))) j ≤ lS ((a1))) (k : ∀ (z : Int) σ Fₚ Aₚ, HS σ0 σ D N Fₚ Aₚ → SF [(6, 35)] F Fₚ → SA [54, 55, 69, 71, 72, 73, 74, 75, 76, 77, 78] A Aₚ → ∀ y6_35 : Int, Fₚ 6 35 = y6_35 → ∀ v54 : Int → Int, Aₚ 54 = v54 → ∀ v55 : Int → Int, Aₚ 55 = v55 → (inr (z)) → (0 ≤ (z) ∧ (z) ≤ 3) → (0 ≤ (y6_35) ∧ (y6_35) ≤ 700) → (TBL ((v54)) ((v55)) (sh ((w66)) (8001 * (a1))) ((a1)) ((u6_28))) → (WO ((v54)) ((v55))) → (FRM ((w54)) ((v54)) (64 * (a1)) (64 * (a1) + 64)) → (FRM ((w55)) ((v55)) ((a1)) ((a1) + 1)) → Q (some (I z)) σ c s) : Ew 437 (d + 5) 0 (rargs 0 [.ref (D 6), I a1]) [] σ c s Q := by
  have r1 : (0 : Int) ≤ u6_28 ∧ u6_28 ≤ 8001 := rngE (show (0 : Int) ≤ F 6 28 ∧ F 6 28 ≤ 8001 from H.frng 6 28) (show F 6 28 = u6_28 from (eu6_28))
  have hwo : WO ((w54)) ((w55)) := h3
  have hsyl : ∀ j, 0 ≤ j → j < (u6_28) → (sh ((w66)) (8001 * (a1))) j ≤ lS ((a1)) := h4
  have hls : lS ((a1)) ≤ lastOf ((a1)) ∧ 0 ≤ lS ((a1)) ∧ lastOf ((a1)) ≤ 52 := by have := lS_eq ((a1)); have := lastOf_eq ((a1)); omega
  have hBs : ∀ i, (0 : Int) ≤ (w66) i ∧ (w66) i ≤ 63 := fun i => by have h1 : (0 : Int) ≤ A 66 i ∧ A 66 i ≤ 63 := H.arng 66 i; rw [show A 66 = w66 from ew66] at h1; exact h1
  refine Ew_of (pcₚ := 2) (fun _ => x_bipush (z := 64) rfl (by decide)) ?_
  refine Ew_of (pcₚ := 3) (fun _ => x_iload_n rfl rfl) ?_
  refine w_imul rfl ?_
  refine Ew_of (pcₚ := 5) (fun _ => x_istore_n rfl) ?_
  refine Ew_of (pcₚ := 6) (fun _ => x_aload_n rfl (rk_o (rfl) rfl rfl)) ?_
  refine w_gT H (o := 6) (t := 66) rfl (H.perm 6 rfl) rfl rfl rfl rfl rfl rfl ?_
  refine Ew_of (pcₚ := 12) (fun _ => x_sipush (z := 8001) rfl (by decide)) ?_
  refine Ew_of (pcₚ := 13) (fun _ => x_iload_n rfl (rk_o (rfl) rfl rfl)) ?_
  refine w_imul rfl ?_
  refine w_lI H (o := 66) (n := 24003) rfl (H.perm 66 rfl) rfl rfl (H.fix 66 rfl rfl) (show 0 ≤ (8001 * a1) ∧ (8001 * a1) < ((24003 : Nat) : Int) from q_2332 h1) (by decide) (fun v2 ev2 qv2 => ?_)
  have qv2 : (0 : Int) ≤ v2 ∧ v2 ≤ 63 := qv2
  have ev2 : (w66) ((8001 * a1)) = v2 := (congrFun (ew66) ((8001 * a1))).symm.trans ev2
  refine Ew_of (pcₚ := 16) (fun _ => x_istore_n rfl) ?_
  refine Ew_of (pcₚ := 17) (fun _ => x_aload_n rfl (rk_o (rk_o (rfl) rfl rfl) rfl rfl)) ?_
  refine Ew_of (pcₚ := 18) (fun _ => x_iload_n rfl (rk_o (rk_o (rfl) rfl rfl) rfl rfl)) ?_
  refine w_inv H (o := 6) rfl rfl rfl (H.perm 6 rfl) rfl rfl (by rfl) (M414b H (u6_28) ((eu6_28)) (w66) (ew66) (show inr (a1) from h0) (show 0 ≤ (a1) ∧ (a1) ≤ 2 from h1) (fun z7 σ F3 A4 H hS5 hA6 wq8 ewq9 pz7_0 pz7_1 pz7_2 pz7_3 pz7_4 pz7_5 pz7_6 => ⟨rfl, ?_⟩))
  refine Ew_of (pcₚ := 23) (fun _ => x_istore rfl) ?_
  refine Ew_of (pcₚ := 24) (fun _ => x_iconst rfl) ?_
  refine Ew_of (pcₚ := 26) (fun _ => x_istore rfl) ?_
  refine Ew_of (pcₚ := 27) (fun _ => x_iconst rfl) ?_
  refine Ew_of (pcₚ := 29) (fun _ => x_istore rfl) ?_
  refine Ew_of (pcₚ := 30) (fun _ => x_aload_n rfl (rk_o (rk_o (rk_o (rk_o (rk_o (rfl) rfl rfl) rfl rfl) rfl rfl) rfl rfl) rfl rfl)) ?_
  refine Ew_of (pcₚ := 31) (fun _ => x_iload_n rfl (rk_o (rk_o (rk_o (rk_o (rk_o (rfl) rfl rfl) rfl rfl) rfl rfl) rfl rfl) rfl rfl)) ?_
  refine w_inv H (o := 6) rfl rfl rfl (H.perm 6 rfl) rfl rfl (by rfl) (M417 H (show inr (a1) from h0) (show 0 ≤ (a1) ∧ (a1) ≤ 2 from h1) (fun z14 σ F10 A11 H hS12 hA13 wq15 ewq16 pz14_0 pz14_1 pz14_2 pz14_3 pz14_4 => ⟨rfl, ?_⟩))
  have hkk1 : ∀ i, (0 : Int) ≤ i → i < 64 → ((wq15)) i = KK ((a1)) i := pz14_4
  have hk7 : (z14) = kO ((a1)) := by have := kO_eq ((a1)); omega
  have hshk : SH (KK ((a1))) 0 64 (kO ((a1))) (lastOf ((a1))) := by rw [← hk7]; exact SH_copy pz14_3 (fun k a b => by rw [Int.zero_add]; exact (hkk1 k a b).symm)
  clear pz14_2
  refine Ew_of (pcₚ := 36) (fun _ => x_istore rfl) ?_
  refine Ew_of (pcₚ := 37) (fun _ => x_aload_n rfl (rk_o (rk_o (rk_o (rk_o (rk_o (rk_o (rfl) rfl rfl) rfl rfl) rfl rfl) rfl rfl) rfl rfl) rfl rfl)) ?_
  refine Ew_of (pcₚ := 38) (fun _ => x_iload_n rfl (rk_o (rk_o (rk_o (rk_o (rk_o (rk_o (rfl) rfl rfl) rfl rfl) rfl rfl) rfl rfl) rfl rfl) rfl rfl)) ?_
  refine Ew_of (pcₚ := 39) (fun _ => x_aload_n rfl (rk_o (rk_o (rk_o (rk_o (rk_o (rk_o (rfl) rfl rfl) rfl rfl) rfl rfl) rfl rfl) rfl rfl) rfl rfl)) ?_
  refine w_gT H (o := 6) (t := 75) rfl (H.perm 6 rfl) rfl rfl rfl rfl rfl rfl ?_
  refine Ew_of (pcₚ := 43) (fun _ => x_iconst rfl) ?_
  refine Ew_of (pcₚ := 45) (fun _ => x_iload rfl rk_s) ?_
  refine w_inv H (o := 6) rfl rfl rfl (H.perm 6 rfl) rfl rfl (by rfl) (M410_75 H (u6_28) ((((hS12 6 28 rfl).trans (hS5 6 28 rfl)).trans (eu6_28))) (w66) ((funext (hA13 66 rfl)).trans ((funext (hA6 66 rfl)).trans (ew66))) (wq15) (ewq16) (lastOf ((a1))) (show inr (a1) from h0) (show inr (0) from q_20) (show inr (z14) from pz14_0) (show 0 ≤ (a1) ∧ (a1) ≤ 2 from h1) (show SH ((wq15)) (0) 64 (z14) (lastOf ((a1))) from pz14_3) (show 0 ≤ (0) ∧ (0) + 64 ≤ 64 from q_2198) (show 1 ≤ (u6_28) from h2) (fun z21 σ F17 A18 H hS19 hA20 pz21_0 pz21_1 pz21_2 pz21_3 => ⟨rfl, ?_⟩))
  have hnz1 : ∀ j, (0 : Int) ≤ j → j < (u6_28) → (sh ((wq15)) 0) ((sh ((w66)) (8001 * (a1))) j) ≠ 0 := fun j a b => by have h1 := hBs (8001 * (a1) + j); have h2 : ((w66)) (8001 * (a1) + j) ≤ lS ((a1)) := hsyl j a b; show ((wq15)) (0 + ((w66)) (8001 * (a1) + j)) ≠ 0; rw [Int.zero_add, hkk1 _ h1.1 (by omega)]; exact KK_nz (by omega) (by omega) h1.1 h2
  have hr1 := pz21_3 hnz1
  have hz45 : 0 ≤ (z21) := by omega
  have hc1 : COST (sh ((wq15)) 0) (kO ((a1))) (sh ((w66)) (8001 * (a1))) ((u6_28)) ((z21)) := by rw [← hk7]; exact pz21_2 hr1
  have hcb1 : (z21) ≤ kO ((a1)) * (u6_28) := by rw [← hk7]; have := pz21_1; omega
  have hag1 : AG (sh ((wq15)) 0) (KK ((a1))) := fun s a b => by show ((wq15)) (0 + s) = _; rw [Int.zero_add]; exact hkk1 s a b
  clear pz21_1 pz21_2 pz21_3
  refine Ew_of (pcₚ := 50) (fun _ => x_istore rfl) ?_
  refine Ew_of (pcₚ := 52) (fun _ => x_iload rfl rk_s) ?_
  have hc62 : ∀ (ls : rO) (σ : rS) (F_c62 : hF) (A_c62 : hA) (xc62_5 : Int) (xc62_6 : Int), rlook ls 0 = some (.ref (D 6)) → rlook ls 1 = some (I (a1)) → rlook ls 2 = some (I ((64 * a1))) → rlook ls 3 = some (I (v2)) → rlook ls 4 = some (I (z7)) → rlook ls 5 = some (I (xc62_5)) → rlook ls 6 = some (I (xc62_6)) → HS σ0 σ D N F_c62 A_c62 → SF [] F17 F_c62 → SA [] A18 A_c62 → (inr (xc62_5)) → (inr (xc62_6)) → (((z21) < (0) ∧ (xc62_5) = ((-1)) ∧ (xc62_6) = (0)) ∨ ((z21) ≥ (0) ∧ (xc62_5) = (0) ∧ (xc62_6) = (z21))) → Ew 437 (d + 5) 62 ls [] σ c s Q := by
   as_aux_lemma =>
    intro  ls σ F_c62 A_c62 xc62_5 xc62_6 lc62_0 lc62_1 lc62_2 lc62_3 lc62_4 lc62_5 lc62_6 H hS_c62 hA_c62   jc62_0 jc62_1 jc62_2
    have h62 : (xc62_5) = 0 ∧ (xc62_6) = z21 := q_2333 hz45 jc62_2
    clear jc62_2
    refine Ew_of (pcₚ := 64) (fun _ => x_iload rfl lc62_4) ?_
    refine Ew_of (pcₚ := 65) (fun _ => x_iconst rfl) ?_
    have hc87 : ∀ (ls : rO) (σ : rS) (F_c87 : hF) (A_c87 : hA) (xc87_5 : Int) (xc87_6 : Int), rlook ls 0 = some (.ref (D 6)) → rlook ls 1 = some (I (a1)) → rlook ls 2 = some (I ((64 * a1))) → rlook ls 3 = some (I (v2)) → rlook ls 4 = some (I (z7)) → rlook ls 5 = some (I (xc87_5)) → rlook ls 6 = some (I (xc87_6)) → HS σ0 σ D N F_c87 A_c87 → SF [] F_c62 F_c87 → SA [] A_c62 A_c87 → (inr (xc87_5)) → (inr (xc87_6)) → (((z7) ≠ (1) ∧ (xc87_5) = (xc62_5) ∧ (xc87_6) = (xc62_6)) ∨ ((z7) = (1) ∧ (xc62_5) < (0) ∧ (xc87_5) = (1) ∧ (xc87_6) = (8)) ∨ ((z7) = (1) ∧ (xc62_5) ≥ (0) ∧ (8) ≥ (xc62_6) ∧ (xc87_5) = (xc62_5) ∧ (xc87_6) = (xc62_6)) ∨ ((z7) = (1) ∧ (xc62_5) ≥ (0) ∧ (8) < (xc62_6) ∧ (xc87_5) = (1) ∧ (xc87_6) = (8))) → Ew 437 (d + 5) 87 ls [] σ c s Q := by
     as_aux_lemma =>
      intro  ls σ F_c87 A_c87 xc87_5 xc87_6 lc87_0 lc87_1 lc87_2 lc87_3 lc87_4 lc87_5 lc87_6 H hS_c87 hA_c87   jc87_0 jc87_1 jc87_2
      have h87 : ((xc87_5) = 0 ∨ (xc87_5) = 1) ∧ (xc87_6) ≤ z21 := by omega
      clear jc87_2 h62
      refine Ew_of (pcₚ := 88) (fun _ => x_aload_n rfl lc87_0) ?_
      have : ∀ j, (0 : Int) ≤ j → j < (u6_28) → (sh ((w66)) (8001 * (a1))) j ≤ lastOf ((a1)) := fun j a b => by have := hsyl j a b; omega
      refine Ew_of (pcₚ := 89) (fun _ => x_iload_n rfl lc87_1) ?_
      refine w_inv H (o := 6) rfl rfl rfl (H.perm 6 rfl) rfl rfl (by rfl) (M413 H (u6_28) (((((((hS_c87 6 28 rfl).trans (hS_c62 6 28 rfl)).trans (hS19 6 28 rfl)).trans (hS12 6 28 rfl)).trans (hS5 6 28 rfl)).trans (eu6_28))) (w66) ((funext (hA_c87 66 rfl)).trans ((funext (hA_c62 66 rfl)).trans ((funext (hA20 66 rfl)).trans ((funext (hA13 66 rfl)).trans ((funext (hA6 66 rfl)).trans (ew66)))))) (lastOf ((a1))) (show inr (a1) from h0) (show 0 ≤ (a1) ∧ (a1) ≤ 2 from h1) (show 1 ≤ (u6_28) from h2) (show ∀ j, 0 ≤ j → j < (u6_28) → (sh ((w66)) (8001 * (a1))) j ≤ (lastOf ((a1))) by assumption) (show 0 ≤ (lastOf ((a1))) ∧ (lastOf ((a1))) ≤ 63 from q_2334 hls) (fun z26 σ F22 A23 H hS24 hA25 wq27 ewq28 pz26_0 pz26_1 pz26_2 pz26_3 pz26_4 pz26_5 pz26_6 => ⟨rfl, ?_⟩))
      have hce : ∀ i, (0 : Int) ≤ i → i < 64 → ((wq27)) i = su (eqs (sh ((w66)) (8001 * (a1))) i) ((u6_28) : Int).toNat := by assumption
      have hlz : ∀ i, lastOf ((a1)) < i → i < 64 → 0 ≤ i → ((wq27)) i = 0 := fun i a b c => by rw [hce i c b]; exact su_eqs0 (fun k x y => by have := hsyl k x (by omega); omega)
      refine Ew_of (pcₚ := 94) (fun _ => x_istore rfl) ?_
      refine Ew_of (pcₚ := 95) (fun _ => x_aload_n rfl (rk_o (lc87_0) rfl rfl)) ?_
      refine Ew_of (pcₚ := 96) (fun _ => x_iload_n rfl (rk_o (lc87_1) rfl rfl)) ?_
      refine Ew_of (pcₚ := 98) (fun _ => x_iload rfl rk_s) ?_
      refine w_inv H (o := 6) rfl rfl rfl (H.perm 6 rfl) rfl rfl (by rfl) (M415b H (u6_28) ((((((((hS24 6 28 rfl).trans (hS_c87 6 28 rfl)).trans (hS_c62 6 28 rfl)).trans (hS19 6 28 rfl)).trans (hS12 6 28 rfl)).trans (hS5 6 28 rfl)).trans (eu6_28))) (w66) ((funext (hA25 66 rfl)).trans ((funext (hA_c87 66 rfl)).trans ((funext (hA_c62 66 rfl)).trans ((funext (hA20 66 rfl)).trans ((funext (hA13 66 rfl)).trans ((funext (hA6 66 rfl)).trans (ew66))))))) (wq27) (ewq28) (lastOf ((a1))) (show inr (a1) from h0) (show inr (z26) from pz26_0) (show 0 ≤ (a1) ∧ (a1) ≤ 2 from h1) (show 5 ≤ (z26) ∧ (z26) ≤ 9 from pz26_1) (show 1 ≤ (u6_28) from h2) (show ∀ i, (0 : Int) ≤ i → i < 64 → 0 ≤ ((wq27)) i by assumption) (show su (fun i => ((wq27)) i) 64 = (u6_28) by omega) (show su (fun i => pos1 (((wq27)) i)) 64 ≤ p2 ((z26)) by omega) (show ∀ j, 0 ≤ j → j < (u6_28) → 1 ≤ ((wq27)) (((w66)) (8001 * (a1) + j)) by assumption) (show ∀ i, (lastOf ((a1))) < i → i < 64 → 0 ≤ i → ((wq27)) i = 0 by assumption) (show 0 ≤ (lastOf ((a1))) ∧ (lastOf ((a1))) ≤ 63 from q_2334 hls) (fun z33 σ F29 A30 H hS31 hA32 y34 ey35 wq36 ewq37 pz33_0 pz33_1 pz33_2 pz33_3 pz33_4 pz33_5 pz33_6 => ⟨rfl, ?_⟩))
      have r38 : (0 : Int) ≤ y34 ∧ y34 ≤ 100000000 := rngE (show (0 : Int) ≤ F29 6 35 ∧ F29 6 35 ≤ 100000000 from H.frng 6 35) (show F29 6 35 = y34 from (ey35))
      have hco2 : COST (sh ((wq36)) 0) ((z26)) (sh ((w66)) (8001 * (a1))) ((u6_28)) ((z33) - (y34)) := pz33_5
      have hdf2 : DVF ((wq27)) ((u6_28)) (p2 ((z26))) ((wq36)) := pz33_6
      have hbi2 : 0 ≤ (y34) := q_2335 r38
      refine Ew_of (pcₚ := 103) (fun _ => x_istore rfl) ?_
      refine Ew_of (pcₚ := 105) (fun _ => x_iload rfl (rk_o (rk_o (lc87_5) rfl rfl) rfl rfl)) ?_
      have hc122 : ∀ (ls : rO) (σ : rS) (F_c122 : hF) (A_c122 : hA) (xc122_5 : Int) (xc122_6 : Int), rlook ls 0 = some (.ref (D 6)) → rlook ls 1 = some (I (a1)) → rlook ls 2 = some (I ((64 * a1))) → rlook ls 3 = some (I (v2)) → rlook ls 4 = some (I (z7)) → rlook ls 5 = some (I (xc122_5)) → rlook ls 6 = some (I (xc122_6)) → rlook ls 9 = some (I (z26)) → HS σ0 σ D N F_c122 A_c122 → SF [] F29 F_c122 → SA [] A30 A_c122 → (inr (xc122_5)) → (inr (xc122_6)) → (((xc87_5) < (0) ∧ (xc122_5) = (2) ∧ (xc122_6) = (z33)) ∨ ((xc87_5) ≥ (0) ∧ (z33) ≥ (xc87_6) ∧ (xc122_5) = (xc87_5) ∧ (xc122_6) = (xc87_6)) ∨ ((xc87_5) ≥ (0) ∧ (z33) < (xc87_6) ∧ (xc122_5) = (2) ∧ (xc122_6) = (z33))) → Ew 437 (d + 5) 122 ls [] σ c s Q := by
       as_aux_lemma =>
        intro  ls σ F_c122 A_c122 xc122_5 xc122_6 lc122_0 lc122_1 lc122_2 lc122_3 lc122_4 lc122_5 lc122_6 lc122_9 H hS_c122 hA_c122   jc122_0 jc122_1 jc122_2
        have h122 : (0 ≤ (xc122_5) ∧ (xc122_5) ≤ 2) ∧ (xc122_6) ≤ z21 ∧ ((xc122_5) = 2 → z33 ≤ z21) := q_2336 h87 hz45 jc122_2 pz33_1
        clear jc122_2 h87
        refine Ew_of (pcₚ := 123) (fun _ => x_aload_n rfl lc122_0) ?_
        refine Ew_of (pcₚ := 124) (fun _ => x_iload_n rfl lc122_1) ?_
        refine Ew_of (pcₚ := 126) (fun _ => x_iload rfl lc122_4) ?_
        refine Ew_of (pcₚ := 127) (fun _ => x_iload_n rfl lc122_3) ?_
        refine w_inv H (o := 6) rfl rfl rfl (H.perm 6 rfl) rfl rfl (by rfl) (M438 H (u6_28) ((((((((((hS_c122 6 28 rfl).trans (hS31 6 28 rfl)).trans (hS24 6 28 rfl)).trans (hS_c87 6 28 rfl)).trans (hS_c62 6 28 rfl)).trans (hS19 6 28 rfl)).trans (hS12 6 28 rfl)).trans (hS5 6 28 rfl)).trans (eu6_28))) (w54) ((funext (hA_c122 54 rfl)).trans ((funext (hA32 54 rfl)).trans ((funext (hA25 54 rfl)).trans ((funext (hA_c87 54 rfl)).trans ((funext (hA_c62 54 rfl)).trans ((funext (hA20 54 rfl)).trans ((funext (hA13 54 rfl)).trans ((funext (hA6 54 rfl)).trans (ew54))))))))) (w55) ((funext (hA_c122 55 rfl)).trans ((funext (hA32 55 rfl)).trans ((funext (hA25 55 rfl)).trans ((funext (hA_c87 55 rfl)).trans ((funext (hA_c62 55 rfl)).trans ((funext (hA20 55 rfl)).trans ((funext (hA13 55 rfl)).trans ((funext (hA6 55 rfl)).trans (ew55))))))))) (w66) ((funext (hA_c122 66 rfl)).trans ((funext (hA32 66 rfl)).trans ((funext (hA25 66 rfl)).trans ((funext (hA_c87 66 rfl)).trans ((funext (hA_c62 66 rfl)).trans ((funext (hA20 66 rfl)).trans ((funext (hA13 66 rfl)).trans ((funext (hA6 66 rfl)).trans (ew66))))))))) (show inr (a1) from h0) (show inr (z7) from pz7_0) (show inr (v2) from q_2117 qv2) (show 0 ≤ (a1) ∧ (a1) ≤ 2 from h1) (show WO ((w54)) ((w55)) from hwo) (show 0 ≤ (v2) ∧ (v2) < 64 from q_2116 qv2) (show 1 ≤ (u6_28) from h2) (fun z43 σ F39 A40 H hS41 hA42 pz43_0 pz43_1 pz43_2 pz43_3 pz43_4 => ⟨rfl, ?_⟩))
        have ha1 := (show IMP _ _ from pz43_2)
        have ha2 := (show IMP _ _ from pz43_4)
        clear pz43_2 pz43_3 pz43_4
        refine Ew_of (pcₚ := 132) (fun _ => x_istore rfl) ?_
        refine Ew_of (pcₚ := 134) (fun _ => x_iload rfl rk_s) ?_
        have hc147 : ∀ (ls : rO) (σ : rS) (F_c147 : hF) (A_c147 : hA) (xc147_5 : Int), rlook ls 0 = some (.ref (D 6)) → rlook ls 1 = some (I (a1)) → rlook ls 2 = some (I ((64 * a1))) → rlook ls 3 = some (I (v2)) → rlook ls 5 = some (I (xc147_5)) → rlook ls 9 = some (I (z26)) → HS σ0 σ D N F_c147 A_c147 → SF [] F39 F_c147 → SA [] A40 A_c147 → (inr (xc147_5)) → (((z43) < (0) ∧ (xc147_5) = (xc122_5)) ∨ ((z43) ≥ (0) ∧ (z43) ≥ (xc122_6) ∧ (xc147_5) = (xc122_5)) ∨ ((z43) ≥ (0) ∧ (z43) < (xc122_6) ∧ (xc147_5) = (3))) → Ew 437 (d + 5) 147 ls [] σ c s Q := by
         as_aux_lemma =>
          intro  ls σ F_c147 A_c147 xc147_5 lc147_0 lc147_1 lc147_2 lc147_3 lc147_5 lc147_9 H hS_c147 hA_c147   jc147_0 jc147_1
          have h147 : 0 ≤ (xc147_5) ∧ (xc147_5) ≤ 3 := q_2337 h122 jc147_1
          have hm2 : IMP ((xc147_5) = 2) (z33 ≤ z21) := fun q => by omega
          have hm3 : IMP ((xc147_5) = 3) (0 ≤ z43 ∧ z43 ≤ z21) := fun q => by omega
          clear jc147_1 h122
          refine Ew_of (pcₚ := 148) (fun _ => x_aload_n rfl lc147_0) ?_
          refine w_inv H (o := 6) rfl rfl rfl (H.perm 6 rfl) rfl rfl (by rfl) (M391 H  (fun σ F44 A45 H hS46 hA47 y49 ey50 pz48_0 => ⟨rfl, ?_⟩))
          have r51 : (0 : Int) ≤ y49 ∧ y49 ≤ 100000000 := rngE (show (0 : Int) ≤ F44 6 35 ∧ F44 6 35 ≤ 100000000 from H.frng 6 35) (show F44 6 35 = y49 from (ey50))
          have hc164 : ∀ (ls : rO) (σ : rS) (F_c164 : hF) (A_c164 : hA) , rlook ls 0 = some (.ref (D 6)) → rlook ls 1 = some (I (a1)) → rlook ls 2 = some (I ((64 * a1))) → rlook ls 3 = some (I (v2)) → rlook ls 5 = some (I (xc147_5)) → rlook ls 9 = some (I (z26)) → HS σ0 σ D N F_c164 A_c164 → SF [(6, 35)] F44 F_c164 → SA [69] A45 A_c164 → ∀ yc164_6_35 : Int, F_c164 6 35 = yc164_6_35 → (0 ≤ (yc164_6_35) ∧ (yc164_6_35) ≤ 8) → Ew 437 (d + 5) 164 ls [] σ c s Q := by
           as_aux_lemma =>
            intro  ls σ F_c164 A_c164  lc164_0 lc164_1 lc164_2 lc164_3 lc164_5 lc164_9 H hS_c164 hA_c164 yc164_6_35 eyc164_6_35  jc164_0
            have r52 : (0 : Int) ≤ yc164_6_35 ∧ yc164_6_35 ≤ 100000000 := rngE (show (0 : Int) ≤ F_c164 6 35 ∧ F_c164 6 35 ≤ 100000000 from H.frng 6 35) (show F_c164 6 35 = yc164_6_35 from (eyc164_6_35))
            have hc180 : ∀ (ls : rO) (σ : rS) (F_c180 : hF) (A_c180 : hA) , rlook ls 0 = some (.ref (D 6)) → rlook ls 1 = some (I (a1)) → rlook ls 2 = some (I ((64 * a1))) → rlook ls 3 = some (I (v2)) → rlook ls 5 = some (I (xc147_5)) → rlook ls 9 = some (I (z26)) → HS σ0 σ D N F_c180 A_c180 → SF [] F_c164 F_c180 → SA [55, 75] A_c164 A_c180 → ∀ wc180_55 : Int → Int, A_c180 55 = wc180_55 → ∀ wc180_75 : Int → Int, A_c180 75 = wc180_75 → (IMP ((xc147_5) = 0) ((wc180_55) = upd1 ((w55)) ((a1)) (kO ((a1))) ∧ ∀ i, (0 : Int) ≤ i → i < 64 → ((wc180_75)) i = KK ((a1)) i)) → (IMP ((xc147_5) ≠ 0) ((wc180_55) = (w55))) → Ew 437 (d + 5) 180 ls [] σ c s Q := by
             as_aux_lemma =>
              intro  ls σ F_c180 A_c180  lc180_0 lc180_1 lc180_2 lc180_3 lc180_5 lc180_9 H hS_c180 hA_c180  wc180_55 ewc180_55 wc180_75 ewc180_75 jc180_0 jc180_1
              have hc193 : ∀ (ls : rO) (σ : rS) (F_c193 : hF) (A_c193 : hA) , rlook ls 0 = some (.ref (D 6)) → rlook ls 1 = some (I (a1)) → rlook ls 2 = some (I ((64 * a1))) → rlook ls 3 = some (I (v2)) → rlook ls 5 = some (I (xc147_5)) → rlook ls 9 = some (I (z26)) → HS σ0 σ D N F_c193 A_c193 → SF [] F_c180 F_c193 → SA [55] A_c180 A_c193 → ∀ wc193_55 : Int → Int, A_c193 55 = wc193_55 → (IMP ((xc147_5) = 0) ((wc193_55) = upd1 ((w55)) ((a1)) (kO ((a1))) ∧ ∀ i, (0 : Int) ≤ i → i < 64 → ((wc180_75)) i = KK ((a1)) i)) → (IMP ((xc147_5) = 1) ((wc193_55) = upd1 ((w55)) ((a1)) 0)) → (IMP ((xc147_5) ≠ 0 ∧ (xc147_5) ≠ 1) ((wc193_55) = (w55))) → Ew 437 (d + 5) 193 ls [] σ c s Q := by
               as_aux_lemma =>
                intro  ls σ F_c193 A_c193  lc193_0 lc193_1 lc193_2 lc193_3 lc193_5 lc193_9 H hS_c193 hA_c193  wc193_55 ewc193_55 jc193_0 jc193_1 jc193_2
                have hc228 : ∀ (ls : rO) (σ : rS) (F_c228 : hF) (A_c228 : hA) , rlook ls 0 = some (.ref (D 6)) → rlook ls 2 = some (I ((64 * a1))) → rlook ls 3 = some (I (v2)) → rlook ls 5 = some (I (xc147_5)) → HS σ0 σ D N F_c228 A_c228 → SF [(6, 35)] F_c193 F_c228 → SA [55, 69, 75, 76, 77] A_c193 A_c228 → ∀ yc228_6_35 : Int, F_c228 6 35 = yc228_6_35 → ∀ wc228_55 : Int → Int, A_c228 55 = wc228_55 → ∀ wc228_75 : Int → Int, A_c228 75 = wc228_75 → (IMP ((xc147_5) = 0) ((wc228_55) = upd1 ((w55)) ((a1)) (kO ((a1))) ∧ ∀ i, (0 : Int) ≤ i → i < 64 → ((wc228_75)) i = KK ((a1)) i)) → (IMP ((xc147_5) = 1) ((wc228_55) = upd1 ((w55)) ((a1)) 0)) → (IMP ((xc147_5) = 2) ((wc228_55) = upd1 ((w55)) ((a1)) (z26) ∧ DVI ((wq27)) ((wc228_75)) 64 ∧ su (fun i => mass (((wc228_75)) i)) 64 = p2 (z26) ∧ DVF ((wq27)) ((u6_28)) (p2 (z26)) ((wc228_75)))) → (IMP ((xc147_5) = 3) ((wc228_55) = (w55))) → (0 ≤ (yc228_6_35) ∧ (yc228_6_35) ≤ 700) → Ew 437 (d + 5) 228 ls [] σ c s Q := by
                 as_aux_lemma =>
                  intro  ls σ F_c228 A_c228  lc228_0 lc228_2 lc228_3 lc228_5 H hS_c228 hA_c228 yc228_6_35 eyc228_6_35 wc228_55 ewc228_55 wc228_75 ewc228_75 jc228_0 jc228_1 jc228_2 jc228_3 jc228_4
                  have r53 : (0 : Int) ≤ yc228_6_35 ∧ yc228_6_35 ≤ 100000000 := rngE (show (0 : Int) ≤ F_c228 6 35 ∧ F_c228 6 35 ≤ 100000000 from H.frng 6 35) (show F_c228 6 35 = yc228_6_35 from (eyc228_6_35))
                  have h228_0 : IMP ((xc147_5) = 0) ((wc228_55) = upd1 ((w55)) ((a1)) (kO ((a1))) ∧ ∀ i, (0 : Int) ≤ i → i < 64 → ((wc228_75)) i = KK ((a1)) i) := by assumption
                  have h228_1 : IMP ((xc147_5) = 1) ((wc228_55) = upd1 ((w55)) ((a1)) 0) := jc228_1
                  have h228_2 : IMP ((xc147_5) = 2) ((wc228_55) = upd1 ((w55)) ((a1)) (z26) ∧ DVI ((wq27)) ((wc228_75)) 64 ∧ su (fun i => mass (((wc228_75)) i)) 64 = p2 (z26) ∧ DVF ((wq27)) ((u6_28)) (p2 (z26)) ((wc228_75))) := by assumption
                  have h228_3 : IMP ((xc147_5) = 3) ((wc228_55) = (w55)) := jc228_3
                  refine Ew_of (pcₚ := 229) (fun _ => x_iconst rfl) ?_
                  refine Ew_of (pcₚ := 231) (fun _ => x_istore rfl) ?_
                  have : IMP ((xc147_5) ≠ 1) (∀ k, (0 : Int) ≤ k → k < 0 → ((w54)) (64 * (a1) + k) = ((wc228_75)) k) := fun _ k a b => absurd b (by omega)
                  have : FRM ((w54)) ((w54)) (64 * (a1)) (64 * (a1) + 64) := FRM_refl
                  have : IMP ((xc147_5) = 3) ((w54) = (w54)) := fun _ => rfl
                  suffices hl231 : ∀ (m : Nat), ∀ (ls : rO) (σ : rS) (F_231 : hF) (A_231 : hA) (x231_10 : Int), rlook ls 0 = some (.ref (D 6)) → rlook ls 2 = some (I ((64 * a1))) → rlook ls 3 = some (I (v2)) → rlook ls 5 = some (I (xc147_5)) → rlook ls 10 = some (I (x231_10)) → HS σ0 σ D N F_231 A_231 → SF [] F_c228 F_231 → SA [54] A_c228 A_231 → ∀ w231_54 : Int → Int, A_231 54 = w231_54 → (inr (x231_10)) → ((0) ≤ (x231_10)) → ((x231_10) ≤ (0) ∨ (x231_10) ≤ ((64))) → (IMP ((xc147_5) ≠ 1) (∀ k, (0 : Int) ≤ k → k < (x231_10) → ((w231_54)) (64 * (a1) + k) = ((wc228_75)) k)) → (FRM ((w54)) ((w231_54)) (64 * (a1)) (64 * (a1) + 64)) → (IMP ((xc147_5) = 3) ((w231_54) = (w54))) → ((xc147_5) < 3 ∨ (x231_10) = 0) → (((64)) - (x231_10)).toNat = m → Ew 437 (d + 5) 231 ls [] σ c s Q from
                    hl231 _ _ σ _ _ (0) (rk_o (lc228_0) rfl rfl) (rk_o (lc228_2) rfl rfl) (rk_o (lc228_3) rfl rfl) (rk_o (lc228_5) rfl rfl) (rk_s) H (SF_refl) (SA_refl)  (w54) ((funext (hA_c228 54 rfl)).trans ((funext (hA_c193 54 rfl)).trans ((funext (hA_c180 54 rfl)).trans ((funext (hA_c164 54 rfl)).trans ((funext (hA47 54 rfl)).trans ((funext (hA_c147 54 rfl)).trans ((funext (hA42 54 rfl)).trans ((funext (hA_c122 54 rfl)).trans ((funext (hA32 54 rfl)).trans ((funext (hA25 54 rfl)).trans ((funext (hA_c87 54 rfl)).trans ((funext (hA_c62 54 rfl)).trans ((funext (hA20 54 rfl)).trans ((funext (hA13 54 rfl)).trans ((funext (hA6 54 rfl)).trans (ew54)))))))))))))))) (show inr (0) from q_20) (show (0) ≤ (0) from q_25) (show (0) ≤ (0) ∨ (0) ≤ ((64)) from q_1088) (show IMP ((xc147_5) ≠ 1) (∀ k, (0 : Int) ≤ k → k < (0) → ((w54)) (64 * (a1) + k) = ((wc228_75)) k) by assumption) (show FRM ((w54)) ((w54)) (64 * (a1)) (64 * (a1) + 64) by assumption) (show IMP ((xc147_5) = 3) ((w54) = (w54)) by assumption) (show (xc147_5) < 3 ∨ (0) = 0 from q_2338) rfl
                  as_aux_lemma =>
                  intro m
                  induction m using Nat.strongRecOn with
                  | _ m ih231 =>
                    intro ls σ F_231 A_231 x231_10 l231_0 l231_2 l231_3 l231_5 l231_10 H hS_231 hA_231  w231_54 ew231_54 j231_0 j231_1 j231_2 j231_3 j231_4 j231_5 j231_6 hm231
                    have j231_c : IMP ((xc147_5) ≠ 1) (∀ k, (0 : Int) ≤ k → k < (x231_10) → ((w231_54)) (64 * (a1) + k) = ((wc228_75)) k) := by assumption
                    have j231_f : FRM ((w54)) ((w231_54)) (64 * (a1)) (64 * (a1) + 64) := j231_4
                    have j231_p : IMP ((xc147_5) = 3) ((w231_54) = (w54)) := j231_5
                    refine Ew_of (pcₚ := 233) (fun _ => x_iload rfl l231_10) ?_
                    refine Ew_of (pcₚ := 235) (fun _ => x_bipush (z := 64) rfl (by decide)) ?_
                    refine w_icmpge (t := 286) rfl rfl (show inr (x231_10) from j231_0) (show inr (64) from q_51) (fun b54 => ?_) (fun b54 => ?_)
                    · have hto : FRM ((w55)) ((wc228_55)) ((a1)) ((a1) + 1) := by rcases (show (xc147_5) = 0 ∨ (xc147_5) = 1 ∨ (xc147_5) = 2 ∨ (xc147_5) = 3 by omega) with q | q | q | q; (rw [(h228_0 q).1]; exact FRM_upd FRM_refl (by omega) (by omega)); (rw [h228_1 q]; exact FRM_upd FRM_refl (by omega) (by omega)); (rw [(h228_2 q).1]; exact FRM_upd FRM_refl (by omega) (by omega)); (rw [h228_3 q]; exact FRM_refl)
                      have htb : TBL ((w231_54)) ((wc228_55)) (sh ((w66)) (8001 * (a1))) ((a1)) ((u6_28)) := by rcases (show (xc147_5) = 0 ∨ (xc147_5) = 1 ∨ (xc147_5) = 2 ∨ (xc147_5) = 3 by omega) with q | q | q | q; (first | exact TBL_new hshk (fun k a b => by rw [j231_c (by omega) k a (by omega)]; exact (h228_0 q).2 k a b) (by rw [(h228_0 q).1, upd1_s]) hc1 hag1 hcb1 | (exfalso; omega)); exact TBL_0 (by rw [h228_1 q, upd1_s]); (first | exact TBL_new (SH_div (by omega) (h228_2 q).2.1 (h228_2 q).2.2.1 hlz) (fun k a b => j231_c (by omega) k a (by omega)) (by rw [(h228_2 q).1, upd1_s]) hco2 (AG_sh (DVF_uniq hdf2 (h228_2 q).2.2.2)) (by have := hm2 q; omega) | (exfalso; omega)); (rw [j231_p q, h228_3 q]; have hq3 := hm3 q; exact TBL_was hwo (by omega) (by omega) (ha2 (by omega)) (ha1 (by omega)) (by omega))
                      have : WO ((w231_54)) ((wc228_55)) := WO_new hwo j231_f hto htb
                      refine Ew_of (pcₚ := 288) (fun _ => x_iload rfl l231_5) ?_
                      exact w_ireturn rfl (k (xc147_5) σ _ _ H (SF_trans (SF_trans (SF_trans (SF_trans (SF_trans (SF_trans (SF_trans (SF_trans (SF_trans (SF_trans (SF_trans (SF_trans (SF_trans (SF_trans (SF_trans (SF_trans (SF_refl) hS5 (any_sub rfl)) hS12 (any_sub rfl)) hS19 (any_sub rfl)) hS_c62 (any_sub rfl)) hS_c87 (any_sub rfl)) hS24 (any_sub rfl)) hS31 (any_sub rfl)) hS_c122 (any_sub rfl)) hS41 (any_sub rfl)) hS_c147 (any_sub rfl)) hS46 (any_sub rfl)) hS_c164 (any_sub rfl)) hS_c180 (any_sub rfl)) hS_c193 (any_sub rfl)) hS_c228 (any_sub rfl)) hS_231 (any_sub rfl)) (SA_trans (SA_trans (SA_trans (SA_trans (SA_trans (SA_trans (SA_trans (SA_trans (SA_trans (SA_trans (SA_trans (SA_trans (SA_trans (SA_trans (SA_trans (SA_trans (SA_refl) hA6 (any_subA rfl)) hA13 (any_subA rfl)) hA20 (any_subA rfl)) hA_c62 (any_subA rfl)) hA_c87 (any_subA rfl)) hA25 (any_subA rfl)) hA32 (any_subA rfl)) hA_c122 (any_subA rfl)) hA42 (any_subA rfl)) hA_c147 (any_subA rfl)) hA47 (any_subA rfl)) hA_c164 (any_subA rfl)) hA_c180 (any_subA rfl)) hA_c193 (any_subA rfl)) hA_c228 (any_subA rfl)) hA_231 (any_subA rfl)) (yc228_6_35) (((hS_231 6 35 rfl).trans (eyc228_6_35))) (w231_54) (ew231_54) (wc228_55) ((funext (hA_231 55 rfl)).trans (ewc228_55)) (show inr (xc147_5) from jc147_0) (show 0 ≤ (xc147_5) ∧ (xc147_5) ≤ 3 from h147) (show 0 ≤ (yc228_6_35) ∧ (yc228_6_35) ≤ 700 from jc228_4) (show TBL ((w231_54)) ((wc228_55)) (sh ((w66)) (8001 * a1)) (a1) ((u6_28)) from htb) (show WO ((w231_54)) ((wc228_55)) by assumption) (show FRM ((w54)) ((w231_54)) (64 * a1) (64 * a1 + 64) from j231_f) (show FRM ((w55)) ((wc228_55)) (a1) (a1 + 1) from hto))
                    · refine Ew_of (pcₚ := 240) (fun _ => x_iload rfl l231_5) ?_
                      refine Ew_of (pcₚ := 241) (fun _ => x_iconst rfl) ?_
                      refine w_icmpge (t := 286) rfl rfl (show inr (xc147_5) from jc147_0) (show inr (3) from q_66) (fun b55 => ?_) (fun b55 => ?_)
                      · have hto : FRM ((w55)) ((wc228_55)) ((a1)) ((a1) + 1) := by rcases (show (xc147_5) = 0 ∨ (xc147_5) = 1 ∨ (xc147_5) = 2 ∨ (xc147_5) = 3 from q_2339 b55 h147) with q | q | q | q; (rw [(h228_0 q).1]; exact FRM_upd FRM_refl (by omega) (by omega)); (rw [h228_1 q]; exact FRM_upd FRM_refl (by omega) (by omega)); (rw [(h228_2 q).1]; exact FRM_upd FRM_refl (by omega) (by omega)); (rw [h228_3 q]; exact FRM_refl)
                        have htb : TBL ((w231_54)) ((wc228_55)) (sh ((w66)) (8001 * (a1))) ((a1)) ((u6_28)) := by rcases (show (xc147_5) = 0 ∨ (xc147_5) = 1 ∨ (xc147_5) = 2 ∨ (xc147_5) = 3 from q_2339 b55 h147) with q | q | q | q; (first | exact TBL_new hshk (fun k a b => by rw [j231_c (by omega) k a (by omega)]; exact (h228_0 q).2 k a b) (by rw [(h228_0 q).1, upd1_s]) hc1 hag1 hcb1 | (exfalso; omega)); exact TBL_0 (by rw [h228_1 q, upd1_s]); (first | exact TBL_new (SH_div (by omega) (h228_2 q).2.1 (h228_2 q).2.2.1 hlz) (fun k a b => j231_c (by omega) k a (by omega)) (by rw [(h228_2 q).1, upd1_s]) hco2 (AG_sh (DVF_uniq hdf2 (h228_2 q).2.2.2)) (by have := hm2 q; omega) | (exfalso; omega)); (rw [j231_p q, h228_3 q]; have hq3 := hm3 q; exact TBL_was hwo (by omega) (by omega) (ha2 (by omega)) (ha1 (by omega)) (by omega))
                        have : WO ((w231_54)) ((wc228_55)) := WO_new hwo j231_f hto htb
                        refine Ew_of (pcₚ := 288) (fun _ => x_iload rfl l231_5) ?_
                        exact w_ireturn rfl (k (xc147_5) σ _ _ H (SF_trans (SF_trans (SF_trans (SF_trans (SF_trans (SF_trans (SF_trans (SF_trans (SF_trans (SF_trans (SF_trans (SF_trans (SF_trans (SF_trans (SF_trans (SF_trans (SF_refl) hS5 (any_sub rfl)) hS12 (any_sub rfl)) hS19 (any_sub rfl)) hS_c62 (any_sub rfl)) hS_c87 (any_sub rfl)) hS24 (any_sub rfl)) hS31 (any_sub rfl)) hS_c122 (any_sub rfl)) hS41 (any_sub rfl)) hS_c147 (any_sub rfl)) hS46 (any_sub rfl)) hS_c164 (any_sub rfl)) hS_c180 (any_sub rfl)) hS_c193 (any_sub rfl)) hS_c228 (any_sub rfl)) hS_231 (any_sub rfl)) (SA_trans (SA_trans (SA_trans (SA_trans (SA_trans (SA_trans (SA_trans (SA_trans (SA_trans (SA_trans (SA_trans (SA_trans (SA_trans (SA_trans (SA_trans (SA_trans (SA_refl) hA6 (any_subA rfl)) hA13 (any_subA rfl)) hA20 (any_subA rfl)) hA_c62 (any_subA rfl)) hA_c87 (any_subA rfl)) hA25 (any_subA rfl)) hA32 (any_subA rfl)) hA_c122 (any_subA rfl)) hA42 (any_subA rfl)) hA_c147 (any_subA rfl)) hA47 (any_subA rfl)) hA_c164 (any_subA rfl)) hA_c180 (any_subA rfl)) hA_c193 (any_subA rfl)) hA_c228 (any_subA rfl)) hA_231 (any_subA rfl)) (yc228_6_35) (((hS_231 6 35 rfl).trans (eyc228_6_35))) (w231_54) (ew231_54) (wc228_55) ((funext (hA_231 55 rfl)).trans (ewc228_55)) (show inr (xc147_5) from jc147_0) (show 0 ≤ (xc147_5) ∧ (xc147_5) ≤ 3 from h147) (show 0 ≤ (yc228_6_35) ∧ (yc228_6_35) ≤ 700 from jc228_4) (show TBL ((w231_54)) ((wc228_55)) (sh ((w66)) (8001 * a1)) (a1) ((u6_28)) from htb) (show WO ((w231_54)) ((wc228_55)) by assumption) (show FRM ((w54)) ((w231_54)) (64 * a1) (64 * a1 + 64) from j231_f) (show FRM ((w55)) ((wc228_55)) (a1) (a1 + 1) from hto))
                      · refine Ew_of (pcₚ := 245) (fun _ => x_aload_n rfl l231_0) ?_
                        refine w_gT H (o := 6) (t := 54) rfl (H.perm 6 rfl) rfl rfl rfl rfl rfl rfl ?_
                        refine Ew_of (pcₚ := 249) (fun _ => x_iload_n rfl l231_2) ?_
                        refine Ew_of (pcₚ := 251) (fun _ => x_iload rfl l231_10) ?_
                        refine w_iadd rfl ?_
                        refine Ew_of (pcₚ := 254) (fun _ => x_iload rfl l231_5) ?_
                        refine Ew_of (pcₚ := 255) (fun _ => x_iconst rfl) ?_
                        refine w_icmpne (t := 272) rfl rfl (show inr (xc147_5) from jc147_0) (show inr (1) from q_23) (fun b56 => ?_) (fun b56 => ?_)
                        · have htr : -1 ≤ ((wc228_75)) ((x231_10)) ∧ ((wc228_75)) ((x231_10)) ≤ 512 := by rcases (show (xc147_5) = 0 ∨ (xc147_5) = 2 by omega) with q | q; (rw [(h228_0 q).2 ((x231_10)) (by omega) (by omega)]; have w := SH_le ((x231_10)) hshk (by omega) (by omega); have w2 := p2_le9 (o := kO ((a1))) (by have := kO_eq ((a1)); omega); rw [Int.zero_add] at w; omega); (have w := SH_le ((x231_10)) (SH_div (by omega) (h228_2 q).2.1 (h228_2 q).2.2.1 hlz) (by omega) (by omega); have w2 := p2_le9 (o := z26) (by omega); rw [Int.zero_add] at w; omega)
                          refine Ew_of (pcₚ := 273) (fun _ => x_aload_n rfl l231_0) ?_
                          refine w_gT H (o := 6) (t := 75) rfl (H.perm 6 rfl) rfl rfl rfl rfl rfl rfl ?_
                          refine Ew_of (pcₚ := 278) (fun _ => x_iload rfl l231_10) ?_
                          refine w_lI H (o := 75) (n := 64) rfl (H.perm 75 rfl) rfl rfl (H.fix 75 rfl rfl) (show 0 ≤ x231_10 ∧ x231_10 < ((64 : Nat) : Int) from q_2147 b54 j231_1) (by decide) (fun v57 ev57 qv57 => ?_)
                          have qv57 : (-2147483648 : Int) ≤ v57 ∧ v57 ≤ 2147483647 := qv57
                          have ev57 : (wc228_75) (x231_10) = v57 := (congrFun ((funext (hA_231 75 rfl)).trans (ewc228_75)) (x231_10)).symm.trans ev57
                          refine w_sI H (o := 54) (n := 192) rfl (H.perm 54 rfl) rfl rfl (H.fix 54 rfl rfl) (show 0 ≤ ((64 * a1) + x231_10) ∧ ((64 * a1) + x231_10) < ((192 : Nat) : Int) from q_1090 b54 h1 j231_1) (by decide) (show (-1 : Int) ≤ v57 ∧ v57 ≤ 512 from q_2340 ev57 htr) (fun σ H => ?_)
                          refine Ew_of (pcₚ := 283) (fun _ => x_iinc (len := 3) rfl (l231_10)) ?_
                          refine Ew_of (pcₚ := 231) (fun _ => x_goto rfl rfl) ?_
                          have : IMP ((xc147_5) ≠ 1) (∀ k, (0 : Int) ≤ k → k < ((x231_10 + 1)) → ((upd1 (w231_54) (((64 * a1) + x231_10)) (v57))) (64 * (a1) + k) = ((wc228_75)) k) := fun q => cp_upd (j231_c q) (by omega) rfl
                          have : FRM ((w54)) ((upd1 (w231_54) (((64 * a1) + x231_10)) (v57))) (64 * (a1)) (64 * (a1) + 64) := FRM_upd j231_f (by omega) (by omega)
                          have : IMP ((xc147_5) = 3) ((upd1 (w231_54) (((64 * a1) + x231_10)) (v57)) = (w54)) := fun q => absurd q (by omega)
                          exact ih231 _ (msE hm231 q_1093 (q_1094 b54)) _ σ _ _ ((x231_10 + 1)) (rk_o (l231_0) rfl rfl) (rk_o (l231_2) rfl rfl) (rk_o (l231_3) rfl rfl) (rk_o (l231_5) rfl rfl) (rk_s) H (hS_231) (SA_upd (hA_231) rfl)  (upd1 (w231_54) (((64 * a1) + x231_10)) (v57)) (congrArg (fun q => upd1 q (((64 * a1) + x231_10)) (v57)) (ew231_54)) (show inr ((x231_10 + 1)) from q_1092 b54 j231_1) (show (0) ≤ ((x231_10 + 1)) from q_29 j231_1) (show ((x231_10 + 1)) ≤ (0) ∨ ((x231_10 + 1)) ≤ ((64)) from q_1091 b54) (show IMP ((xc147_5) ≠ 1) (∀ k, (0 : Int) ≤ k → k < ((x231_10 + 1)) → ((upd1 (w231_54) (((64 * a1) + x231_10)) (v57))) (64 * (a1) + k) = ((wc228_75)) k) by assumption) (show FRM ((w54)) ((upd1 (w231_54) (((64 * a1) + x231_10)) (v57))) (64 * (a1)) (64 * (a1) + 64) by assumption) (show IMP ((xc147_5) = 3) ((upd1 (w231_54) (((64 * a1) + x231_10)) (v57)) = (w54)) by assumption) (show (xc147_5) < 3 ∨ ((x231_10 + 1)) = 0 from q_2341 b55) rfl
                        · refine Ew_of (pcₚ := 260) (fun _ => x_iload rfl l231_10) ?_
                          refine Ew_of (pcₚ := 261) (fun _ => x_iload_n rfl l231_3) ?_
                          refine w_icmpne (t := 268) rfl rfl (show inr (x231_10) from j231_0) (show inr (v2) from q_2117 qv2) (fun b58 => ?_) (fun b58 => ?_)
                          · refine Ew_of (pcₚ := 269) (fun _ => x_iconst rfl) ?_
                            refine Ew_of (pcₚ := 279) (fun _ => x_goto rfl rfl) ?_
                            refine w_sI H (o := 54) (n := 192) rfl (H.perm 54 rfl) rfl rfl (H.fix 54 rfl rfl) (show 0 ≤ ((64 * a1) + x231_10) ∧ ((64 * a1) + x231_10) < ((192 : Nat) : Int) from q_1090 b54 h1 j231_1) (by decide) (show (-1 : Int) ≤ 0 ∧ 0 ≤ 512 from q_1440) (fun σ H => ?_)
                            refine Ew_of (pcₚ := 283) (fun _ => x_iinc (len := 3) rfl (l231_10)) ?_
                            refine Ew_of (pcₚ := 231) (fun _ => x_goto rfl rfl) ?_
                            have : IMP ((xc147_5) ≠ 1) (∀ k, (0 : Int) ≤ k → k < ((x231_10 + 1)) → ((upd1 (w231_54) (((64 * a1) + x231_10)) (0))) (64 * (a1) + k) = ((wc228_75)) k) := fun q => cp_upd (j231_c q) (by omega) rfl
                            have : FRM ((w54)) ((upd1 (w231_54) (((64 * a1) + x231_10)) (0))) (64 * (a1)) (64 * (a1) + 64) := FRM_upd j231_f (by omega) (by omega)
                            have : IMP ((xc147_5) = 3) ((upd1 (w231_54) (((64 * a1) + x231_10)) (0)) = (w54)) := fun q => absurd q (by omega)
                            exact ih231 _ (msE hm231 q_1093 (q_1094 b54)) _ σ _ _ ((x231_10 + 1)) (rk_o (l231_0) rfl rfl) (rk_o (l231_2) rfl rfl) (rk_o (l231_3) rfl rfl) (rk_o (l231_5) rfl rfl) (rk_s) H (hS_231) (SA_upd (hA_231) rfl)  (upd1 (w231_54) (((64 * a1) + x231_10)) (0)) (congrArg (fun q => upd1 q (((64 * a1) + x231_10)) (0)) (ew231_54)) (show inr ((x231_10 + 1)) from q_1092 b54 j231_1) (show (0) ≤ ((x231_10 + 1)) from q_29 j231_1) (show ((x231_10 + 1)) ≤ (0) ∨ ((x231_10 + 1)) ≤ ((64)) from q_1091 b54) (show IMP ((xc147_5) ≠ 1) (∀ k, (0 : Int) ≤ k → k < ((x231_10 + 1)) → ((upd1 (w231_54) (((64 * a1) + x231_10)) (0))) (64 * (a1) + k) = ((wc228_75)) k) by assumption) (show FRM ((w54)) ((upd1 (w231_54) (((64 * a1) + x231_10)) (0))) (64 * (a1)) (64 * (a1) + 64) by assumption) (show IMP ((xc147_5) = 3) ((upd1 (w231_54) (((64 * a1) + x231_10)) (0)) = (w54)) by assumption) (show (xc147_5) < 3 ∨ ((x231_10 + 1)) = 0 from q_2341 b55) rfl
                          · refine Ew_of (pcₚ := 265) (fun _ => x_iconst rfl) ?_
                            refine Ew_of (pcₚ := 279) (fun _ => x_goto rfl rfl) ?_
                            refine w_sI H (o := 54) (n := 192) rfl (H.perm 54 rfl) rfl rfl (H.fix 54 rfl rfl) (show 0 ≤ ((64 * a1) + x231_10) ∧ ((64 * a1) + x231_10) < ((192 : Nat) : Int) from q_1090 b54 h1 j231_1) (by decide) (show (-1 : Int) ≤ 1 ∧ 1 ≤ 512 from q_1442) (fun σ H => ?_)
                            refine Ew_of (pcₚ := 283) (fun _ => x_iinc (len := 3) rfl (l231_10)) ?_
                            refine Ew_of (pcₚ := 231) (fun _ => x_goto rfl rfl) ?_
                            have : IMP ((xc147_5) ≠ 1) (∀ k, (0 : Int) ≤ k → k < ((x231_10 + 1)) → ((upd1 (w231_54) (((64 * a1) + x231_10)) (1))) (64 * (a1) + k) = ((wc228_75)) k) := fun q => cp_upd (j231_c q) (by omega) rfl
                            have : FRM ((w54)) ((upd1 (w231_54) (((64 * a1) + x231_10)) (1))) (64 * (a1)) (64 * (a1) + 64) := FRM_upd j231_f (by omega) (by omega)
                            have : IMP ((xc147_5) = 3) ((upd1 (w231_54) (((64 * a1) + x231_10)) (1)) = (w54)) := fun q => absurd q (by omega)
                            exact ih231 _ (msE hm231 q_1093 (q_1094 b54)) _ σ _ _ ((x231_10 + 1)) (rk_o (l231_0) rfl rfl) (rk_o (l231_2) rfl rfl) (rk_o (l231_3) rfl rfl) (rk_o (l231_5) rfl rfl) (rk_s) H (hS_231) (SA_upd (hA_231) rfl)  (upd1 (w231_54) (((64 * a1) + x231_10)) (1)) (congrArg (fun q => upd1 q (((64 * a1) + x231_10)) (1)) (ew231_54)) (show inr ((x231_10 + 1)) from q_1092 b54 j231_1) (show (0) ≤ ((x231_10 + 1)) from q_29 j231_1) (show ((x231_10 + 1)) ≤ (0) ∨ ((x231_10 + 1)) ≤ ((64)) from q_1091 b54) (show IMP ((xc147_5) ≠ 1) (∀ k, (0 : Int) ≤ k → k < ((x231_10 + 1)) → ((upd1 (w231_54) (((64 * a1) + x231_10)) (1))) (64 * (a1) + k) = ((wc228_75)) k) by assumption) (show FRM ((w54)) ((upd1 (w231_54) (((64 * a1) + x231_10)) (1))) (64 * (a1)) (64 * (a1) + 64) by assumption) (show IMP ((xc147_5) = 3) ((upd1 (w231_54) (((64 * a1) + x231_10)) (1)) = (w54)) by assumption) (show (xc147_5) < 3 ∨ ((x231_10 + 1)) = 0 from q_2341 b55) rfl
                have h193_0 : IMP ((xc147_5) = 0) ((wc193_55) = upd1 ((w55)) ((a1)) (kO ((a1))) ∧ ∀ i, (0 : Int) ≤ i → i < 64 → ((wc180_75)) i = KK ((a1)) i) := by assumption
                have h193_1 : IMP ((xc147_5) = 1) ((wc193_55) = upd1 ((w55)) ((a1)) 0) := jc193_1
                have h193_3 : IMP ((xc147_5) ≠ 0 ∧ (xc147_5) ≠ 1) ((wc193_55) = (w55)) := jc193_2
                refine Ew_of (pcₚ := 195) (fun _ => x_iload rfl lc193_5) ?_
                refine Ew_of (pcₚ := 196) (fun _ => x_iconst rfl) ?_
                refine w_icmpne (t := 228) rfl rfl (show inr (xc147_5) from jc147_0) (show inr (2) from q_55) (fun b59 => ?_) (fun b59 => ?_)
                · have : IMP ((xc147_5) = 0) ((wc193_55) = upd1 ((w55)) ((a1)) (kO ((a1))) ∧ ∀ i, (0 : Int) ≤ i → i < 64 → ((wc180_75)) i = KK ((a1)) i) := by first | exact h193_0 | exact (fun q => absurd q (by omega))
                  have : IMP ((xc147_5) = 1) ((wc193_55) = upd1 ((w55)) ((a1)) 0) := by first | exact h193_1 | exact (fun q => absurd q (by omega))
                  have : IMP ((xc147_5) = 2) ((wc193_55) = upd1 ((w55)) ((a1)) (z26) ∧ DVI ((wq27)) ((wc180_75)) 64 ∧ su (fun i => mass (((wc180_75)) i)) 64 = p2 (z26) ∧ DVF ((wq27)) ((u6_28)) (p2 (z26)) ((wc180_75))) := by first | exact (fun q => ⟨by rw [h193_3 (by omega)], hd0, hd1, hd2⟩) | exact (fun q => absurd q (by omega))
                  have : IMP ((xc147_5) = 3) ((wc193_55) = (w55)) := by first | exact (fun q => h193_3 (by omega)) | exact (fun q => absurd q (by omega))
                  exact hc228  _ σ _ _  (lc193_0) (lc193_2) (lc193_3) (lc193_5) H (SF_refl) (SA_refl) (yc164_6_35) ((((hS_c193 6 35 rfl).trans (hS_c180 6 35 rfl)).trans (eyc164_6_35))) (wc193_55) (ewc193_55) (wc180_75) ((funext (hA_c193 75 rfl)).trans (ewc180_75)) (show IMP ((xc147_5) = 0) ((wc193_55) = upd1 ((w55)) ((a1)) (kO ((a1))) ∧ ∀ i, (0 : Int) ≤ i → i < 64 → ((wc180_75)) i = KK ((a1)) i) from h193_0) (show IMP ((xc147_5) = 1) ((wc193_55) = upd1 ((w55)) ((a1)) 0) from h193_1) (show IMP ((xc147_5) = 2) ((wc193_55) = upd1 ((w55)) ((a1)) (z26) ∧ DVI ((wq27)) ((wc180_75)) 64 ∧ su (fun i => mass (((wc180_75)) i)) 64 = p2 (z26) ∧ DVF ((wq27)) ((u6_28)) (p2 (z26)) ((wc180_75))) by assumption) (show IMP ((xc147_5) = 3) ((wc193_55) = (w55)) by assumption) (show 0 ≤ (yc164_6_35) ∧ (yc164_6_35) ≤ 700 from q_2342 jc164_0 r52)
                · refine Ew_of (pcₚ := 200) (fun _ => x_aload_n rfl lc193_0) ?_
                  refine w_gT H (o := 6) (t := 55) rfl (H.perm 6 rfl) rfl rfl rfl rfl rfl rfl ?_
                  refine Ew_of (pcₚ := 204) (fun _ => x_iload_n rfl lc193_1) ?_
                  refine Ew_of (pcₚ := 206) (fun _ => x_iload rfl lc193_9) ?_
                  refine w_sI H (o := 55) (n := 3) rfl (H.perm 55 rfl) rfl rfl (H.fix 55 rfl rfl) (show 0 ≤ a1 ∧ a1 < ((3 : Nat) : Int) from q_1082 h1) (by decide) (show (-1 : Int) ≤ z26 ∧ z26 ≤ 9 from q_2343 pz26_1) (fun σ H => ?_)
                  refine Ew_of (pcₚ := 208) (fun _ => x_aload_n rfl lc193_0) ?_
                  refine Ew_of (pcₚ := 209) (fun _ => x_aload_n rfl lc193_0) ?_
                  refine w_gI H (o := 6) (w := u6_28) rfl (H.perm 6 rfl) rfl rfl rfl (fun _ => rfl) (((((((((((((((hS_c193 6 28 rfl).trans (hS_c180 6 28 rfl)).trans (hS_c164 6 28 rfl)).trans (hS46 6 28 rfl)).trans (hS_c147 6 28 rfl)).trans (hS41 6 28 rfl)).trans (hS_c122 6 28 rfl)).trans (hS31 6 28 rfl)).trans (hS24 6 28 rfl)).trans (hS_c87 6 28 rfl)).trans (hS_c62 6 28 rfl)).trans (hS19 6 28 rfl)).trans (hS12 6 28 rfl)).trans (hS5 6 28 rfl)).trans (eu6_28)) ?_
                  refine Ew_of (pcₚ := 214) (fun _ => x_iload rfl lc193_9) ?_
                  refine w_inv H (o := 6) rfl rfl rfl (H.perm 6 rfl) rfl rfl (by rfl) (M411b H (wq27) ((funext (hA_c193 78 rfl)).trans ((funext (hA_c180 78 rfl)).trans ((funext (hA_c164 78 rfl)).trans ((funext (hA47 78 rfl)).trans ((funext (hA_c147 78 rfl)).trans ((funext (hA42 78 rfl)).trans ((funext (hA_c122 78 rfl)).trans ((funext (hA32 78 rfl)).trans (ewq28))))))))) (show inr (u6_28) from q_1788 r1) (show inr (z26) from pz26_0) (show 1 ≤ (u6_28) ∧ (u6_28) ≤ 8001 from q_2313 h2 r1) (show 5 ≤ (z26) ∧ (z26) ≤ 9 from pz26_1) (show ∀ i, (0 : Int) ≤ i → i < 64 → 0 ≤ ((wq27)) i by assumption) (show su (fun i => ((wq27)) i) 64 = (u6_28) by omega) (show su (fun i => pos1 (((wq27)) i)) 64 ≤ p2 ((z26)) by omega) (fun σ F60 A61 H hS62 hA63 wq65 ewq66 pz64_0 pz64_1 pz64_2 => ⟨rfl, ?_⟩))
                  have hd0 := pz64_0
                  have hd1 := pz64_1
                  have hd2 := pz64_2
                  have : SH ((wq65)) 0 64 (z26) (lastOf ((a1))) := SH_div (by omega) hd0 hd1 hlz
                  refine Ew_of (pcₚ := 218) (fun _ => x_aload_n rfl lc193_0) ?_
                  refine Ew_of (pcₚ := 219) (fun _ => x_aload_n rfl lc193_0) ?_
                  refine w_gT H (o := 6) (t := 75) rfl (H.perm 6 rfl) rfl rfl rfl rfl rfl rfl ?_
                  refine Ew_of (pcₚ := 223) (fun _ => x_iconst rfl) ?_
                  refine Ew_of (pcₚ := 225) (fun _ => x_iload rfl lc193_9) ?_
                  refine w_inv H (o := 6) rfl rfl rfl (H.perm 6 rfl) rfl rfl (by rfl) (M412_75 H (yc164_6_35) (((((hS62 6 35 rfl).trans (hS_c193 6 35 rfl)).trans (hS_c180 6 35 rfl)).trans (eyc164_6_35))) (wq65) (ewq66) (lastOf ((a1))) (show inr (0) from q_20) (show inr (z26) from pz26_0) (show SH ((wq65)) (0) 64 (z26) (lastOf ((a1))) by assumption) (show 0 ≤ (0) ∧ (0) + 64 ≤ 64 from q_2198) (show 0 ≤ (yc164_6_35) ∧ (yc164_6_35) ≤ 1000000 from q_2345 jc164_0 r52) (show 0 ≤ (lastOf ((a1))) from q_2344 hls) (fun σ F67 A68 H hS69 hA70 y72 ey73 pz71_0 => ⟨rfl, ?_⟩))
                  have r74 : (0 : Int) ≤ y72 ∧ y72 ≤ 100000000 := rngE (show (0 : Int) ≤ F67 6 35 ∧ F67 6 35 ≤ 100000000 from H.frng 6 35) (show F67 6 35 = y72 from (ey73))
                  have : IMP ((xc147_5) = 0) ((upd1 (wc193_55) (a1) (z26)) = upd1 ((w55)) ((a1)) (kO ((a1))) ∧ ∀ i, (0 : Int) ≤ i → i < 64 → ((wq65)) i = KK ((a1)) i) := by first | exact h193_0 | exact (fun q => absurd q (by omega))
                  have : IMP ((xc147_5) = 1) ((upd1 (wc193_55) (a1) (z26)) = upd1 ((w55)) ((a1)) 0) := by first | exact h193_1 | exact (fun q => absurd q (by omega))
                  have : IMP ((xc147_5) = 2) ((upd1 (wc193_55) (a1) (z26)) = upd1 ((w55)) ((a1)) (z26) ∧ DVI ((wq27)) ((wq65)) 64 ∧ su (fun i => mass (((wq65)) i)) 64 = p2 (z26) ∧ DVF ((wq27)) ((u6_28)) (p2 (z26)) ((wq65))) := by first | exact (fun q => ⟨by rw [h193_3 (by omega)], hd0, hd1, hd2⟩) | exact (fun q => absurd q (by omega))
                  have : IMP ((xc147_5) = 3) ((upd1 (wc193_55) (a1) (z26)) = (w55)) := by first | exact (fun q => h193_3 (by omega)) | exact (fun q => absurd q (by omega))
                  exact hc228  _ σ _ _  (lc193_0) (lc193_2) (lc193_3) (lc193_5) H (SF_trans (SF_trans (SF_refl) hS62 (any_sub rfl)) hS69 (any_sub rfl)) (SA_trans (SA_trans (SA_upd (SA_refl) rfl) hA63 (any_subA rfl)) hA70 (any_subA rfl)) (y72) ((ey73)) (upd1 (wc193_55) (a1) (z26)) ((funext (hA70 55 rfl)).trans ((funext (hA63 55 rfl)).trans (congrArg (fun q => upd1 q (a1) (z26)) (ewc193_55)))) (wq65) ((funext (hA70 75 rfl)).trans (ewq66)) (show IMP ((xc147_5) = 0) ((upd1 (wc193_55) (a1) (z26)) = upd1 ((w55)) ((a1)) (kO ((a1))) ∧ ∀ i, (0 : Int) ≤ i → i < 64 → ((wq65)) i = KK ((a1)) i) by assumption) (show IMP ((xc147_5) = 1) ((upd1 (wc193_55) (a1) (z26)) = upd1 ((w55)) ((a1)) 0) by assumption) (show IMP ((xc147_5) = 2) ((upd1 (wc193_55) (a1) (z26)) = upd1 ((w55)) ((a1)) (z26) ∧ DVI ((wq27)) ((wq65)) 64 ∧ su (fun i => mass (((wq65)) i)) 64 = p2 (z26) ∧ DVF ((wq27)) ((u6_28)) (p2 (z26)) ((wq65))) by assumption) (show IMP ((xc147_5) = 3) ((upd1 (wc193_55) (a1) (z26)) = (w55)) by assumption) (show 0 ≤ (y72) ∧ (y72) ≤ 700 from q_2346 hls jc164_0 pz71_0 r74)
              have h180_0 : IMP ((xc147_5) = 0) ((wc180_55) = upd1 ((w55)) ((a1)) (kO ((a1))) ∧ ∀ i, (0 : Int) ≤ i → i < 64 → ((wc180_75)) i = KK ((a1)) i) := by assumption
              have h180_3 : IMP ((xc147_5) ≠ 0) ((wc180_55) = (w55)) := jc180_1
              refine Ew_of (pcₚ := 182) (fun _ => x_iload rfl lc180_5) ?_
              refine Ew_of (pcₚ := 183) (fun _ => x_iconst rfl) ?_
              refine w_icmpne (t := 193) rfl rfl (show inr (xc147_5) from jc147_0) (show inr (1) from q_23) (fun b75 => ?_) (fun b75 => ?_)
              · have : IMP ((xc147_5) = 0) ((wc180_55) = upd1 ((w55)) ((a1)) (kO ((a1))) ∧ ∀ i, (0 : Int) ≤ i → i < 64 → ((wc180_75)) i = KK ((a1)) i) := by first | exact h180_0 | exact (fun q => absurd q (by omega))
                have : IMP ((xc147_5) = 1) ((wc180_55) = upd1 ((w55)) ((a1)) 0) := by first | exact (fun q => absurd q (by omega)) | exact (fun q => by rw [h180_3 (by omega)])
                have : IMP ((xc147_5) ≠ 0 ∧ (xc147_5) ≠ 1) ((wc180_55) = (w55)) := by first | exact (fun q => h180_3 q.1) | exact (fun q => absurd q (by omega))
                exact hc193  _ σ _ _  (lc180_0) (lc180_1) (lc180_2) (lc180_3) (lc180_5) (lc180_9) H (SF_refl) (SA_refl)  (wc180_55) (ewc180_55) (show IMP ((xc147_5) = 0) ((wc180_55) = upd1 ((w55)) ((a1)) (kO ((a1))) ∧ ∀ i, (0 : Int) ≤ i → i < 64 → ((wc180_75)) i = KK ((a1)) i) from h180_0) (show IMP ((xc147_5) = 1) ((wc180_55) = upd1 ((w55)) ((a1)) 0) by assumption) (show IMP ((xc147_5) ≠ 0 ∧ (xc147_5) ≠ 1) ((wc180_55) = (w55)) by assumption)
              · refine Ew_of (pcₚ := 187) (fun _ => x_aload_n rfl lc180_0) ?_
                refine w_gT H (o := 6) (t := 55) rfl (H.perm 6 rfl) rfl rfl rfl rfl rfl rfl ?_
                refine Ew_of (pcₚ := 191) (fun _ => x_iload_n rfl lc180_1) ?_
                refine Ew_of (pcₚ := 192) (fun _ => x_iconst rfl) ?_
                refine w_sI H (o := 55) (n := 3) rfl (H.perm 55 rfl) rfl rfl (H.fix 55 rfl rfl) (show 0 ≤ a1 ∧ a1 < ((3 : Nat) : Int) from q_1082 h1) (by decide) (show (-1 : Int) ≤ 0 ∧ 0 ≤ 9 from q_1434) (fun σ H => ?_)
                have : IMP ((xc147_5) = 0) ((upd1 (wc180_55) (a1) (0)) = upd1 ((w55)) ((a1)) (kO ((a1))) ∧ ∀ i, (0 : Int) ≤ i → i < 64 → ((wc180_75)) i = KK ((a1)) i) := by first | exact h180_0 | exact (fun q => absurd q (by omega))
                have : IMP ((xc147_5) = 1) ((upd1 (wc180_55) (a1) (0)) = upd1 ((w55)) ((a1)) 0) := by first | exact (fun q => absurd q (by omega)) | exact (fun q => by rw [h180_3 (by omega)])
                have : IMP ((xc147_5) ≠ 0 ∧ (xc147_5) ≠ 1) ((upd1 (wc180_55) (a1) (0)) = (w55)) := by first | exact (fun q => h180_3 q.1) | exact (fun q => absurd q (by omega))
                exact hc193  _ σ _ _  (lc180_0) (lc180_1) (lc180_2) (lc180_3) (lc180_5) (lc180_9) H (SF_refl) (SA_upd (SA_refl) rfl)  (upd1 (wc180_55) (a1) (0)) (congrArg (fun q => upd1 q (a1) (0)) (ewc180_55)) (show IMP ((xc147_5) = 0) ((upd1 (wc180_55) (a1) (0)) = upd1 ((w55)) ((a1)) (kO ((a1))) ∧ ∀ i, (0 : Int) ≤ i → i < 64 → ((wc180_75)) i = KK ((a1)) i) by assumption) (show IMP ((xc147_5) = 1) ((upd1 (wc180_55) (a1) (0)) = upd1 ((w55)) ((a1)) 0) by assumption) (show IMP ((xc147_5) ≠ 0 ∧ (xc147_5) ≠ 1) ((upd1 (wc180_55) (a1) (0)) = (w55)) by assumption)
            refine Ew_of (pcₚ := 166) (fun _ => x_iload rfl lc164_5) ?_
            refine w_ifne (t := 180) rfl rfl (show inr (xc147_5) from jc147_0) (fun b76 => ?_) (fun b76 => ?_)
            · have : IMP ((xc147_5) = 0) ((w55) = upd1 ((w55)) ((a1)) (kO ((a1))) ∧ ∀ i, (0 : Int) ≤ i → i < 64 → ((wq36)) i = KK ((a1)) i) := by first | exact (fun _ => ⟨by rw [← hk8], hkk3⟩) | exact (fun q => absurd q (by omega))
              have : IMP ((xc147_5) ≠ 0) ((w55) = (w55)) := by first | exact (fun _ => rfl) | exact (fun q => absurd q (by omega))
              exact hc180  _ σ _ _  (lc164_0) (lc164_1) (lc164_2) (lc164_3) (lc164_5) (lc164_9) H (SF_refl) (SA_refl)  (w55) ((funext (hA_c164 55 rfl)).trans ((funext (hA47 55 rfl)).trans ((funext (hA_c147 55 rfl)).trans ((funext (hA42 55 rfl)).trans ((funext (hA_c122 55 rfl)).trans ((funext (hA32 55 rfl)).trans ((funext (hA25 55 rfl)).trans ((funext (hA_c87 55 rfl)).trans ((funext (hA_c62 55 rfl)).trans ((funext (hA20 55 rfl)).trans ((funext (hA13 55 rfl)).trans ((funext (hA6 55 rfl)).trans (ew55))))))))))))) (wq36) ((funext (hA_c164 75 rfl)).trans ((funext (hA47 75 rfl)).trans ((funext (hA_c147 75 rfl)).trans ((funext (hA42 75 rfl)).trans ((funext (hA_c122 75 rfl)).trans (ewq37)))))) (show IMP ((xc147_5) = 0) ((w55) = upd1 ((w55)) ((a1)) (kO ((a1))) ∧ ∀ i, (0 : Int) ≤ i → i < 64 → ((wq36)) i = KK ((a1)) i) by assumption) (show IMP ((xc147_5) ≠ 0) ((w55) = (w55)) by assumption)
            · refine Ew_of (pcₚ := 170) (fun _ => x_aload_n rfl lc164_0) ?_
              refine w_gT H (o := 6) (t := 55) rfl (H.perm 6 rfl) rfl rfl rfl rfl rfl rfl ?_
              refine Ew_of (pcₚ := 174) (fun _ => x_iload_n rfl lc164_1) ?_
              refine Ew_of (pcₚ := 175) (fun _ => x_aload_n rfl lc164_0) ?_
              refine Ew_of (pcₚ := 176) (fun _ => x_iload_n rfl lc164_1) ?_
              refine w_inv H (o := 6) rfl rfl rfl (H.perm 6 rfl) rfl rfl (by rfl) (M417 H (show inr (a1) from h0) (show 0 ≤ (a1) ∧ (a1) ≤ 2 from h1) (fun z81 σ F77 A78 H hS79 hA80 wq82 ewq83 pz81_0 pz81_1 pz81_2 pz81_3 pz81_4 => ⟨rfl, ?_⟩))
              have hk8 : (z81) = kO ((a1)) := by have := kO_eq ((a1)); omega
              have hkk3 : ∀ i, (0 : Int) ≤ i → i < 64 → ((wq82)) i = KK ((a1)) i := pz81_4
              refine w_sI H (o := 55) (n := 3) rfl (H.perm 55 rfl) rfl rfl (H.fix 55 rfl rfl) (show 0 ≤ a1 ∧ a1 < ((3 : Nat) : Int) from q_1082 h1) (by decide) (show (-1 : Int) ≤ z81 ∧ z81 ≤ 9 from q_2347 pz81_1) (fun σ H => ?_)
              have : IMP ((xc147_5) = 0) ((upd1 (w55) (a1) (z81)) = upd1 ((w55)) ((a1)) (kO ((a1))) ∧ ∀ i, (0 : Int) ≤ i → i < 64 → ((wq82)) i = KK ((a1)) i) := by first | exact (fun _ => ⟨by rw [← hk8], hkk3⟩) | exact (fun q => absurd q (by omega))
              have : IMP ((xc147_5) ≠ 0) ((upd1 (w55) (a1) (z81)) = (w55)) := by first | exact (fun _ => rfl) | exact (fun q => absurd q (by omega))
              exact hc180  _ σ _ _  (lc164_0) (lc164_1) (lc164_2) (lc164_3) (lc164_5) (lc164_9) H (SF_trans (SF_refl) hS79 (any_sub rfl)) (SA_upd (SA_trans (SA_refl) hA80 (any_subA rfl)) rfl)  (upd1 (w55) (a1) (z81)) (congrArg (fun q => upd1 q (a1) (z81)) ((funext (hA80 55 rfl)).trans ((funext (hA_c164 55 rfl)).trans ((funext (hA47 55 rfl)).trans ((funext (hA_c147 55 rfl)).trans ((funext (hA42 55 rfl)).trans ((funext (hA_c122 55 rfl)).trans ((funext (hA32 55 rfl)).trans ((funext (hA25 55 rfl)).trans ((funext (hA_c87 55 rfl)).trans ((funext (hA_c62 55 rfl)).trans ((funext (hA20 55 rfl)).trans ((funext (hA13 55 rfl)).trans ((funext (hA6 55 rfl)).trans (ew55))))))))))))))) (wq82) (ewq83) (show IMP ((xc147_5) = 0) ((upd1 (w55) (a1) (z81)) = upd1 ((w55)) ((a1)) (kO ((a1))) ∧ ∀ i, (0 : Int) ≤ i → i < 64 → ((wq82)) i = KK ((a1)) i) by assumption) (show IMP ((xc147_5) ≠ 0) ((upd1 (w55) (a1) (z81)) = (w55)) by assumption)
          refine Ew_of (pcₚ := 153) (fun _ => x_iload rfl lc147_5) ?_
          refine Ew_of (pcₚ := 154) (fun _ => x_iconst rfl) ?_
          refine w_icmpne (t := 164) rfl rfl (show inr (xc147_5) from jc147_0) (show inr (1) from q_23) (fun b84 => ?_) (fun b84 => ?_)
          · exact hc164  _ σ _ _  (lc147_0) (lc147_1) (lc147_2) (lc147_3) (lc147_5) (lc147_9) H (SF_refl) (SA_refl) (y49) ((ey50))  (show 0 ≤ (y49) ∧ (y49) ≤ 8 from q_2348 pz48_0 r51)
          · refine Ew_of (pcₚ := 158) (fun _ => x_aload_n rfl lc147_0) ?_
            refine Ew_of (pcₚ := 159) (fun _ => x_iload_n rfl lc147_3) ?_
            refine Ew_of (pcₚ := 161) (fun _ => x_bipush (z := 8) rfl (by decide)) ?_
            refine w_inv H (o := 6) rfl rfl rfl (H.perm 6 rfl) rfl rfl (by rfl) (M389 H (y49) ((ey50)) (show inr (v2) from q_2117 qv2) (show inr (8) from q_96) (show 0 ≤ (8) ∧ (8) ≤ 31 from q_2192) (show 0 ≤ (y49) ∧ (y49) ≤ 90000000 from q_2191 pz48_0 r51) (fun σ F85 A86 H hS87 hA88 y90 ey91 pz89_0 => ⟨rfl, ?_⟩))
            have r92 : (0 : Int) ≤ y90 ∧ y90 ≤ 100000000 := rngE (show (0 : Int) ≤ F85 6 35 ∧ F85 6 35 ≤ 100000000 from H.frng 6 35) (show F85 6 35 = y90 from (ey91))
            exact hc164  _ σ _ _  (lc147_0) (lc147_1) (lc147_2) (lc147_3) (lc147_5) (lc147_9) H (SF_trans (SF_refl) hS87 (any_sub rfl)) (SA_trans (SA_refl) hA88 (any_subA rfl)) (y90) ((ey91))  (show 0 ≤ (y90) ∧ (y90) ≤ 8 from q_2349 pz48_0 pz89_0 r92)
        refine w_iflt (t := 147) rfl rfl (show inr (z43) from pz43_0) (fun b93 => ?_) (fun b93 => ?_)
        · exact hc147  _ σ _ _ (xc122_5) (rk_o (lc122_0) rfl rfl) (rk_o (lc122_1) rfl rfl) (rk_o (lc122_2) rfl rfl) (rk_o (lc122_3) rfl rfl) (rk_o (lc122_5) rfl rfl) (rk_o (lc122_9) rfl rfl) H (SF_refl) (SA_refl)   (show inr (xc122_5) from jc122_0) (show ((z43) < (0) ∧ (xc122_5) = (xc122_5)) ∨ ((z43) ≥ (0) ∧ (z43) ≥ (xc122_6) ∧ (xc122_5) = (xc122_5)) ∨ ((z43) ≥ (0) ∧ (z43) < (xc122_6) ∧ (xc122_5) = (3)) from q_2350 b93)
        · refine Ew_of (pcₚ := 139) (fun _ => x_iload rfl rk_s) ?_
          refine Ew_of (pcₚ := 141) (fun _ => x_iload rfl (rk_o (lc122_6) rfl rfl)) ?_
          refine w_icmpge (t := 147) rfl rfl (show inr (z43) from pz43_0) (show inr (xc122_6) from jc122_1) (fun b94 => ?_) (fun b94 => ?_)
          · exact hc147  _ σ _ _ (xc122_5) (rk_o (lc122_0) rfl rfl) (rk_o (lc122_1) rfl rfl) (rk_o (lc122_2) rfl rfl) (rk_o (lc122_3) rfl rfl) (rk_o (lc122_5) rfl rfl) (rk_o (lc122_9) rfl rfl) H (SF_refl) (SA_refl)   (show inr (xc122_5) from jc122_0) (show ((z43) < (0) ∧ (xc122_5) = (xc122_5)) ∨ ((z43) ≥ (0) ∧ (z43) ≥ (xc122_6) ∧ (xc122_5) = (xc122_5)) ∨ ((z43) ≥ (0) ∧ (z43) < (xc122_6) ∧ (xc122_5) = (3)) from q_2351 b93 b94)
          · refine Ew_of (pcₚ := 145) (fun _ => x_iconst rfl) ?_
            refine Ew_of (pcₚ := 147) (fun _ => x_istore rfl) ?_
            exact hc147  _ σ _ _ (3) (rk_o (rk_o (lc122_0) rfl rfl) rfl rfl) (rk_o (rk_o (lc122_1) rfl rfl) rfl rfl) (rk_o (rk_o (lc122_2) rfl rfl) rfl rfl) (rk_o (rk_o (lc122_3) rfl rfl) rfl rfl) (rk_s) (rk_o (rk_o (lc122_9) rfl rfl) rfl rfl) H (SF_refl) (SA_refl)   (show inr (3) from q_66) (show ((z43) < (0) ∧ (3) = (xc122_5)) ∨ ((z43) ≥ (0) ∧ (z43) ≥ (xc122_6) ∧ (3) = (xc122_5)) ∨ ((z43) ≥ (0) ∧ (z43) < (xc122_6) ∧ (3) = (3)) from q_2352 b93 b94)
      refine w_iflt (t := 115) rfl rfl (show inr (xc87_5) from jc87_0) (fun b95 => ?_) (fun b95 => ?_)
      · refine Ew_of (pcₚ := 116) (fun _ => x_iconst rfl) ?_
        refine Ew_of (pcₚ := 118) (fun _ => x_istore rfl) ?_
        refine Ew_of (pcₚ := 120) (fun _ => x_iload rfl (rk_o (rk_s) rfl rfl)) ?_
        refine Ew_of (pcₚ := 122) (fun _ => x_istore rfl) ?_
        exact hc122  _ σ _ _ (2) (z33) (rk_o (rk_o (rk_o (rk_o (lc87_0) rfl rfl) rfl rfl) rfl rfl) rfl rfl) (rk_o (rk_o (rk_o (rk_o (lc87_1) rfl rfl) rfl rfl) rfl rfl) rfl rfl) (rk_o (rk_o (rk_o (rk_o (lc87_2) rfl rfl) rfl rfl) rfl rfl) rfl rfl) (rk_o (rk_o (rk_o (rk_o (lc87_3) rfl rfl) rfl rfl) rfl rfl) rfl rfl) (rk_o (rk_o (rk_o (rk_o (lc87_4) rfl rfl) rfl rfl) rfl rfl) rfl rfl) (rk_o (rk_s) rfl rfl) (rk_s) (rk_o (rk_o (rk_o (rk_s) rfl rfl) rfl rfl) rfl rfl) H (SF_refl) (SA_refl)   (show inr (2) from q_55) (show inr (z33) from pz33_0) (show ((xc87_5) < (0) ∧ (2) = (2) ∧ (z33) = (z33)) ∨ ((xc87_5) ≥ (0) ∧ (z33) ≥ (xc87_6) ∧ (2) = (xc87_5) ∧ (z33) = (xc87_6)) ∨ ((xc87_5) ≥ (0) ∧ (z33) < (xc87_6) ∧ (2) = (2) ∧ (z33) = (z33)) from q_2353 b95)
      · refine Ew_of (pcₚ := 110) (fun _ => x_iload rfl rk_s) ?_
        refine Ew_of (pcₚ := 112) (fun _ => x_iload rfl (rk_o (rk_o (lc87_6) rfl rfl) rfl rfl)) ?_
        refine w_icmpge (t := 122) rfl rfl (show inr (z33) from pz33_0) (show inr (xc87_6) from jc87_1) (fun b96 => ?_) (fun b96 => ?_)
        · exact hc122  _ σ _ _ (xc87_5) (xc87_6) (rk_o (rk_o (lc87_0) rfl rfl) rfl rfl) (rk_o (rk_o (lc87_1) rfl rfl) rfl rfl) (rk_o (rk_o (lc87_2) rfl rfl) rfl rfl) (rk_o (rk_o (lc87_3) rfl rfl) rfl rfl) (rk_o (rk_o (lc87_4) rfl rfl) rfl rfl) (rk_o (rk_o (lc87_5) rfl rfl) rfl rfl) (rk_o (rk_o (lc87_6) rfl rfl) rfl rfl) (rk_o (rk_s) rfl rfl) H (SF_refl) (SA_refl)   (show inr (xc87_5) from jc87_0) (show inr (xc87_6) from jc87_1) (show ((xc87_5) < (0) ∧ (xc87_5) = (2) ∧ (xc87_6) = (z33)) ∨ ((xc87_5) ≥ (0) ∧ (z33) ≥ (xc87_6) ∧ (xc87_5) = (xc87_5) ∧ (xc87_6) = (xc87_6)) ∨ ((xc87_5) ≥ (0) ∧ (z33) < (xc87_6) ∧ (xc87_5) = (2) ∧ (xc87_6) = (z33)) from q_2354 b95 b96)
        · refine Ew_of (pcₚ := 116) (fun _ => x_iconst rfl) ?_
          refine Ew_of (pcₚ := 118) (fun _ => x_istore rfl) ?_
          refine Ew_of (pcₚ := 120) (fun _ => x_iload rfl (rk_o (rk_s) rfl rfl)) ?_
          refine Ew_of (pcₚ := 122) (fun _ => x_istore rfl) ?_
          exact hc122  _ σ _ _ (2) (z33) (rk_o (rk_o (rk_o (rk_o (lc87_0) rfl rfl) rfl rfl) rfl rfl) rfl rfl) (rk_o (rk_o (rk_o (rk_o (lc87_1) rfl rfl) rfl rfl) rfl rfl) rfl rfl) (rk_o (rk_o (rk_o (rk_o (lc87_2) rfl rfl) rfl rfl) rfl rfl) rfl rfl) (rk_o (rk_o (rk_o (rk_o (lc87_3) rfl rfl) rfl rfl) rfl rfl) rfl rfl) (rk_o (rk_o (rk_o (rk_o (lc87_4) rfl rfl) rfl rfl) rfl rfl) rfl rfl) (rk_o (rk_s) rfl rfl) (rk_s) (rk_o (rk_o (rk_o (rk_s) rfl rfl) rfl rfl) rfl rfl) H (SF_refl) (SA_refl)   (show inr (2) from q_55) (show inr (z33) from pz33_0) (show ((xc87_5) < (0) ∧ (2) = (2) ∧ (z33) = (z33)) ∨ ((xc87_5) ≥ (0) ∧ (z33) ≥ (xc87_6) ∧ (2) = (xc87_5) ∧ (z33) = (xc87_6)) ∨ ((xc87_5) ≥ (0) ∧ (z33) < (xc87_6) ∧ (2) = (2) ∧ (z33) = (z33)) from q_2355 b95 b96)
    refine w_icmpne (t := 87) rfl rfl (show inr (z7) from pz7_0) (show inr (1) from q_23) (fun b97 => ?_) (fun b97 => ?_)
    · exact hc87  _ σ _ _ (xc62_5) (xc62_6) (lc62_0) (lc62_1) (lc62_2) (lc62_3) (lc62_4) (lc62_5) (lc62_6) H (SF_refl) (SA_refl)   (show inr (xc62_5) from jc62_0) (show inr (xc62_6) from jc62_1) (show ((z7) ≠ (1) ∧ (xc62_5) = (xc62_5) ∧ (xc62_6) = (xc62_6)) ∨ ((z7) = (1) ∧ (xc62_5) < (0) ∧ (xc62_5) = (1) ∧ (xc62_6) = (8)) ∨ ((z7) = (1) ∧ (xc62_5) ≥ (0) ∧ (8) ≥ (xc62_6) ∧ (xc62_5) = (xc62_5) ∧ (xc62_6) = (xc62_6)) ∨ ((z7) = (1) ∧ (xc62_5) ≥ (0) ∧ (8) < (xc62_6) ∧ (xc62_5) = (1) ∧ (xc62_6) = (8)) from q_2356 b97)
    · refine Ew_of (pcₚ := 70) (fun _ => x_iload rfl lc62_5) ?_
      refine w_iflt (t := 80) rfl rfl (show inr (xc62_5) from jc62_0) (fun b98 => ?_) (fun b98 => ?_)
      · refine Ew_of (pcₚ := 81) (fun _ => x_iconst rfl) ?_
        refine Ew_of (pcₚ := 83) (fun _ => x_istore rfl) ?_
        refine Ew_of (pcₚ := 85) (fun _ => x_bipush (z := 8) rfl (by decide)) ?_
        refine Ew_of (pcₚ := 87) (fun _ => x_istore rfl) ?_
        exact hc87  _ σ _ _ (1) (8) (rk_o (rk_o (lc62_0) rfl rfl) rfl rfl) (rk_o (rk_o (lc62_1) rfl rfl) rfl rfl) (rk_o (rk_o (lc62_2) rfl rfl) rfl rfl) (rk_o (rk_o (lc62_3) rfl rfl) rfl rfl) (rk_o (rk_o (lc62_4) rfl rfl) rfl rfl) (rk_o (rk_s) rfl rfl) (rk_s) H (SF_refl) (SA_refl)   (show inr (1) from q_23) (show inr (8) from q_96) (show ((z7) ≠ (1) ∧ (1) = (xc62_5) ∧ (8) = (xc62_6)) ∨ ((z7) = (1) ∧ (xc62_5) < (0) ∧ (1) = (1) ∧ (8) = (8)) ∨ ((z7) = (1) ∧ (xc62_5) ≥ (0) ∧ (8) ≥ (xc62_6) ∧ (1) = (xc62_5) ∧ (8) = (xc62_6)) ∨ ((z7) = (1) ∧ (xc62_5) ≥ (0) ∧ (8) < (xc62_6) ∧ (1) = (1) ∧ (8) = (8)) from q_2357 b97 b98)
      · refine Ew_of (pcₚ := 75) (fun _ => x_bipush (z := 8) rfl (by decide)) ?_
        refine Ew_of (pcₚ := 77) (fun _ => x_iload rfl lc62_6) ?_
        refine w_icmpge (t := 87) rfl rfl (show inr (8) from q_96) (show inr (xc62_6) from jc62_1) (fun b99 => ?_) (fun b99 => ?_)
        · exact hc87  _ σ _ _ (xc62_5) (xc62_6) (lc62_0) (lc62_1) (lc62_2) (lc62_3) (lc62_4) (lc62_5) (lc62_6) H (SF_refl) (SA_refl)   (show inr (xc62_5) from jc62_0) (show inr (xc62_6) from jc62_1) (show ((z7) ≠ (1) ∧ (xc62_5) = (xc62_5) ∧ (xc62_6) = (xc62_6)) ∨ ((z7) = (1) ∧ (xc62_5) < (0) ∧ (xc62_5) = (1) ∧ (xc62_6) = (8)) ∨ ((z7) = (1) ∧ (xc62_5) ≥ (0) ∧ (8) ≥ (xc62_6) ∧ (xc62_5) = (xc62_5) ∧ (xc62_6) = (xc62_6)) ∨ ((z7) = (1) ∧ (xc62_5) ≥ (0) ∧ (8) < (xc62_6) ∧ (xc62_5) = (1) ∧ (xc62_6) = (8)) from q_2358 b97 b98 b99)
        · refine Ew_of (pcₚ := 81) (fun _ => x_iconst rfl) ?_
          refine Ew_of (pcₚ := 83) (fun _ => x_istore rfl) ?_
          refine Ew_of (pcₚ := 85) (fun _ => x_bipush (z := 8) rfl (by decide)) ?_
          refine Ew_of (pcₚ := 87) (fun _ => x_istore rfl) ?_
          exact hc87  _ σ _ _ (1) (8) (rk_o (rk_o (lc62_0) rfl rfl) rfl rfl) (rk_o (rk_o (lc62_1) rfl rfl) rfl rfl) (rk_o (rk_o (lc62_2) rfl rfl) rfl rfl) (rk_o (rk_o (lc62_3) rfl rfl) rfl rfl) (rk_o (rk_o (lc62_4) rfl rfl) rfl rfl) (rk_o (rk_s) rfl rfl) (rk_s) H (SF_refl) (SA_refl)   (show inr (1) from q_23) (show inr (8) from q_96) (show ((z7) ≠ (1) ∧ (1) = (xc62_5) ∧ (8) = (xc62_6)) ∨ ((z7) = (1) ∧ (xc62_5) < (0) ∧ (1) = (1) ∧ (8) = (8)) ∨ ((z7) = (1) ∧ (xc62_5) ≥ (0) ∧ (8) ≥ (xc62_6) ∧ (1) = (xc62_5) ∧ (8) = (xc62_6)) ∨ ((z7) = (1) ∧ (xc62_5) ≥ (0) ∧ (8) < (xc62_6) ∧ (1) = (1) ∧ (8) = (8)) from q_2359 b97 b98 b99)
  refine w_iflt (t := 62) rfl rfl (show inr (z21) from pz21_0) (fun b100 => ?_) (fun b100 => ?_)
  · exact hc62  _ σ _ _ ((-1)) (0) (rk_o (rk_o (rk_o (rk_o (rk_o (rk_o (rk_o (rfl) rfl rfl) rfl rfl) rfl rfl) rfl rfl) rfl rfl) rfl rfl) rfl rfl) (rk_o (rk_o (rk_o (rk_o (rk_o (rk_o (rk_o (rfl) rfl rfl) rfl rfl) rfl rfl) rfl rfl) rfl rfl) rfl rfl) rfl rfl) (rk_o (rk_o (rk_o (rk_o (rk_o (rk_o (rk_s) rfl rfl) rfl rfl) rfl rfl) rfl rfl) rfl rfl) rfl rfl) (rk_o (rk_o (rk_o (rk_o (rk_o (rk_s) rfl rfl) rfl rfl) rfl rfl) rfl rfl) rfl rfl) (rk_o (rk_o (rk_o (rk_o (rk_s) rfl rfl) rfl rfl) rfl rfl) rfl rfl) (rk_o (rk_o (rk_o (rk_s) rfl rfl) rfl rfl) rfl rfl) (rk_o (rk_o (rk_s) rfl rfl) rfl rfl) H (SF_refl) (SA_refl)   (show inr ((-1)) from q_16) (show inr (0) from q_20) (show ((z21) < (0) ∧ ((-1)) = ((-1)) ∧ (0) = (0)) ∨ ((z21) ≥ (0) ∧ ((-1)) = (0) ∧ (0) = (z21)) from q_2360 b100)
  · refine Ew_of (pcₚ := 56) (fun _ => x_iconst rfl) ?_
    refine Ew_of (pcₚ := 58) (fun _ => x_istore rfl) ?_
    refine Ew_of (pcₚ := 60) (fun _ => x_iload rfl (rk_o (rk_s) rfl rfl)) ?_
    refine Ew_of (pcₚ := 62) (fun _ => x_istore rfl) ?_
    exact hc62  _ σ _ _ (0) (z21) (rk_o (rk_o (rk_o (rk_o (rk_o (rk_o (rk_o (rk_o (rk_o (rfl) rfl rfl) rfl rfl) rfl rfl) rfl rfl) rfl rfl) rfl rfl) rfl rfl) rfl rfl) rfl rfl) (rk_o (rk_o (rk_o (rk_o (rk_o (rk_o (rk_o (rk_o (rk_o (rfl) rfl rfl) rfl rfl) rfl rfl) rfl rfl) rfl rfl) rfl rfl) rfl rfl) rfl rfl) rfl rfl) (rk_o (rk_o (rk_o (rk_o (rk_o (rk_o (rk_o (rk_o (rk_s) rfl rfl) rfl rfl) rfl rfl) rfl rfl) rfl rfl) rfl rfl) rfl rfl) rfl rfl) (rk_o (rk_o (rk_o (rk_o (rk_o (rk_o (rk_o (rk_s) rfl rfl) rfl rfl) rfl rfl) rfl rfl) rfl rfl) rfl rfl) rfl rfl) (rk_o (rk_o (rk_o (rk_o (rk_o (rk_o (rk_s) rfl rfl) rfl rfl) rfl rfl) rfl rfl) rfl rfl) rfl rfl) (rk_o (rk_s) rfl rfl) (rk_s) H (SF_refl) (SA_refl)   (show inr (0) from q_20) (show inr (z21) from pz21_0) (show ((z21) < (0) ∧ (0) = ((-1)) ∧ (z21) = (0)) ∨ ((z21) ≥ (0) ∧ (0) = (0) ∧ (z21) = (z21)) from q_2361 b100)
