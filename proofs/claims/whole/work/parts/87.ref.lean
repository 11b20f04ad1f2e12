/-- Writer.sayTable -/
theorem M437 {σ0 σ : rS} {D N : Nat → Nat} {F : hF} {A : hA} {d c s : Nat} {Q : wQ} (H : HS σ0 σ D N F A) {a1 : Int} (u6_28 : Int) (eu6_28 : F 6 28 = u6_28) (w54 : Int → Int) (ew54 : A 54 = w54) (w55 : Int → Int) (ew55 : A 55 = w55) (w66 : Int → Int) (ew66 : A 66 = w66) (h0 : inr (a1)) (h1 : 0 ≤ (a1) ∧ (a1) ≤ 2) (h2 : 1 ≤ (u6_28)) (h3 : WO ((w54)) ((w55))) (h4 : ∀ j, 0 ≤ j → j < (u6_28) → (sh ((w66)) (8001 * (a1))) j ≤ lS ((a1))) (k : ∀ (z : Int) σ F' A', HS σ0 σ D N F' A' → SF [(6, 35)] F F' → SA [54, 55, 69, 71, 72, 73, 74, 75, 76, 77, 78] A A' → ∀ y6_35 : Int, F' 6 35 = y6_35 → ∀ v54 : Int → Int, A' 54 = v54 → ∀ v55 : Int → Int, A' 55 = v55 → (inr (z)) → (0 ≤ (z) ∧ (z) ≤ 3) → (0 ≤ (y6_35) ∧ (y6_35) ≤ 700) → (TBL ((v54)) ((v55)) (sh ((w66)) (8001 * (a1))) ((a1)) ((u6_28))) → (WO ((v54)) ((v55))) → (FRM ((w54)) ((v54)) (64 * (a1)) (64 * (a1) + 64)) → (FRM ((w55)) ((v55)) ((a1)) ((a1) + 1)) → Q (some (I z)) σ c s) : Ew 437 (d + 5) 0 (rargs 0 [.ref (D 6), I a1]) [] σ c s Q := by
  have r1 : (0 : Int) ≤ u6_28 ∧ u6_28 ≤ 8001 := by have h1 : (0 : Int) ≤ F 6 28 ∧ F 6 28 ≤ 8001 := H.frng 6 28; rw [show F 6 28 = u6_28 from (eu6_28)] at h1; exact h1
  have hwo : WO ((w54)) ((w55)) := by assumption
  have hsyl : ∀ j, 0 ≤ j → j < (u6_28) → (sh ((w66)) (8001 * (a1))) j ≤ lS ((a1)) := by assumption
  have hls : lS ((a1)) ≤ lastOf ((a1)) ∧ 0 ≤ lS ((a1)) ∧ lastOf ((a1)) ≤ 52 := by have := lS_eq ((a1)); have := lastOf_eq ((a1)); omega
  have hBs : ∀ i, (0 : Int) ≤ (w66) i ∧ (w66) i ≤ 63 := fun i => by have h1 : (0 : Int) ≤ A 66 i ∧ A 66 i ≤ 63 := H.arng 66 i; rw [show A 66 = w66 from ew66] at h1; exact h1
  refine Ew_of (pc' := 2) (fun _ => x_bipush (z := 64) rfl (by decide)) ?_
  refine Ew_of (pc' := 3) (fun _ => x_iload_n rfl rfl) ?_
  refine w_imul rfl ?_
  refine Ew_of (pc' := 5) (fun _ => x_istore_n rfl) ?_
  refine Ew_of (pc' := 6) (fun _ => x_aload_n rfl (rk_o (rfl) rfl rfl)) ?_
  refine w_gT H (o := 6) (t := 66) rfl (H.perm 6 rfl) rfl rfl rfl rfl rfl rfl ?_
  refine Ew_of (pc' := 12) (fun _ => x_sipush (z := 8001) rfl (by decide)) ?_
  refine Ew_of (pc' := 13) (fun _ => x_iload_n rfl (rk_o (rfl) rfl rfl)) ?_
  refine w_imul rfl ?_
  refine w_lI H (o := 66) (n := 24003) rfl (H.perm 66 rfl) rfl rfl (H.fix 66 rfl rfl) (show 0 ≤ (8001 * a1) ∧ (8001 * a1) < ((24003 : Nat) : Int) by omega) (by decide) (fun v2 ev2 qv2 => ?_)
  have qv2 : (0 : Int) ≤ v2 ∧ v2 ≤ 63 := qv2
  have ev2 : (w66) ((8001 * a1)) = v2 := (congrFun (ew66) ((8001 * a1))).symm.trans ev2
  refine Ew_of (pc' := 16) (fun _ => x_istore_n rfl) ?_
  refine Ew_of (pc' := 17) (fun _ => x_aload_n rfl (rk_o (rk_o (rfl) rfl rfl) rfl rfl)) ?_
  refine Ew_of (pc' := 18) (fun _ => x_iload_n rfl (rk_o (rk_o (rfl) rfl rfl) rfl rfl)) ?_
  refine w_inv H (o := 6) rfl rfl rfl (H.perm 6 rfl) rfl rfl (by rfl) (M414b H (u6_28) ((eu6_28)) (w66) (ew66) (show inr (a1) by omega) (show 0 ≤ (a1) ∧ (a1) ≤ 2 by omega) (fun z7 σ F3 A4 H hS5 hA6 wq8 ewq9 pz7_0 pz7_1 pz7_2 pz7_3 pz7_4 pz7_5 pz7_6 => ⟨rfl, ?_⟩))
  refine Ew_of (pc' := 23) (fun _ => x_istore rfl) ?_
  refine Ew_of (pc' := 24) (fun _ => x_iconst rfl) ?_
  refine Ew_of (pc' := 26) (fun _ => x_istore rfl) ?_
  refine Ew_of (pc' := 27) (fun _ => x_iconst rfl) ?_
  refine Ew_of (pc' := 29) (fun _ => x_istore rfl) ?_
  refine Ew_of (pc' := 30) (fun _ => x_aload_n rfl (rk_o (rk_o (rk_o (rk_o (rk_o (rfl) rfl rfl) rfl rfl) rfl rfl) rfl rfl) rfl rfl)) ?_
  refine Ew_of (pc' := 31) (fun _ => x_iload_n rfl (rk_o (rk_o (rk_o (rk_o (rk_o (rfl) rfl rfl) rfl rfl) rfl rfl) rfl rfl) rfl rfl)) ?_
  refine w_inv H (o := 6) rfl rfl rfl (H.perm 6 rfl) rfl rfl (by rfl) (M417 H (show inr (a1) by omega) (show 0 ≤ (a1) ∧ (a1) ≤ 2 by omega) (fun z14 σ F10 A11 H hS12 hA13 wq15 ewq16 pz14_0 pz14_1 pz14_2 pz14_3 pz14_4 => ⟨rfl, ?_⟩))
  have hkk1 : ∀ i, (0 : Int) ≤ i → i < 64 → ((wq15)) i = KK ((a1)) i := pz14_4
  have hk7 : (z14) = kO ((a1)) := by have := kO_eq ((a1)); omega
  have hshk : SH (KK ((a1))) 0 64 (kO ((a1))) (lastOf ((a1))) := by rw [← hk7]; exact SH_copy pz14_3 (fun k a b => by rw [Int.zero_add]; exact (hkk1 k a b).symm)
  clear pz14_2
  refine Ew_of (pc' := 36) (fun _ => x_istore rfl) ?_
  refine Ew_of (pc' := 37) (fun _ => x_aload_n rfl (rk_o (rk_o (rk_o (rk_o (rk_o (rk_o (rfl) rfl rfl) rfl rfl) rfl rfl) rfl rfl) rfl rfl) rfl rfl)) ?_
  refine Ew_of (pc' := 38) (fun _ => x_iload_n rfl (rk_o (rk_o (rk_o (rk_o (rk_o (rk_o (rfl) rfl rfl) rfl rfl) rfl rfl) rfl rfl) rfl rfl) rfl rfl)) ?_
  refine Ew_of (pc' := 39) (fun _ => x_aload_n rfl (rk_o (rk_o (rk_o (rk_o (rk_o (rk_o (rfl) rfl rfl) rfl rfl) rfl rfl) rfl rfl) rfl rfl) rfl rfl)) ?_
  refine w_gT H (o := 6) (t := 75) rfl (H.perm 6 rfl) rfl rfl rfl rfl rfl rfl ?_
  refine Ew_of (pc' := 43) (fun _ => x_iconst rfl) ?_
  refine Ew_of (pc' := 45) (fun _ => x_iload rfl rk_s) ?_
  refine w_inv H (o := 6) rfl rfl rfl (H.perm 6 rfl) rfl rfl (by rfl) (M410_75 H (u6_28) ((((hS12 6 28 rfl).trans (hS5 6 28 rfl)).trans (eu6_28))) (w66) ((funext (hA13 66 rfl)).trans ((funext (hA6 66 rfl)).trans (ew66))) (wq15) (ewq16) (lastOf ((a1))) (show inr (a1) by omega) (show inr (0) by omega) (show inr (z14) by omega) (show 0 ≤ (a1) ∧ (a1) ≤ 2 by omega) (show SH ((wq15)) (0) 64 (z14) (lastOf ((a1))) by assumption) (show 0 ≤ (0) ∧ (0) + 64 ≤ 64 by omega) (show 1 ≤ (u6_28) by omega) (fun z21 σ F17 A18 H hS19 hA20 pz21_0 pz21_1 pz21_2 pz21_3 => ⟨rfl, ?_⟩))
  have hnz1 : ∀ j, (0 : Int) ≤ j → j < (u6_28) → (sh ((wq15)) 0) ((sh ((w66)) (8001 * (a1))) j) ≠ 0 := fun j a b => by have h1 := hBs (8001 * (a1) + j); have h2 : ((w66)) (8001 * (a1) + j) ≤ lS ((a1)) := hsyl j a b; show ((wq15)) (0 + ((w66)) (8001 * (a1) + j)) ≠ 0; rw [Int.zero_add, hkk1 _ h1.1 (by omega)]; exact KK_nz (by omega) (by omega) h1.1 h2
  have hr1 := pz21_3 hnz1
  have hz45 : 0 ≤ (z21) := by omega
  have hc1 : COST (sh ((wq15)) 0) (kO ((a1))) (sh ((w66)) (8001 * (a1))) ((u6_28)) ((z21)) := by rw [← hk7]; exact pz21_2 hr1
  have hcb1 : (z21) ≤ kO ((a1)) * (u6_28) := by rw [← hk7]; have := pz21_1; omega
  have hag1 : AG (sh ((wq15)) 0) (KK ((a1))) := fun s a b => by show ((wq15)) (0 + s) = _; rw [Int.zero_add]; exact hkk1 s a b
  clear pz21_1 pz21_2 pz21_3
  refine Ew_of (pc' := 50) (fun _ => x_istore rfl) ?_
  refine Ew_of (pc' := 52) (fun _ => x_iload rfl rk_s) ?_
  have hc62 : ∀ (ls : rO) (σ : rS) (F_c62 : hF) (A_c62 : hA) (xc62_5 : Int) (xc62_6 : Int), rlook ls 0 = some (.ref (D 6)) → rlook ls 1 = some (I (a1)) → rlook ls 2 = some (I ((64 * a1))) → rlook ls 3 = some (I (v2)) → rlook ls 4 = some (I (z7)) → rlook ls 5 = some (I (xc62_5)) → rlook ls 6 = some (I (xc62_6)) → HS σ0 σ D N F_c62 A_c62 → SF [] F17 F_c62 → SA [] A18 A_c62 → (inr (xc62_5)) → (inr (xc62_6)) → (((z21) < (0) ∧ (xc62_5) = ((-1)) ∧ (xc62_6) = (0)) ∨ ((z21) ≥ (0) ∧ (xc62_5) = (0) ∧ (xc62_6) = (z21))) → Ew 437 (d + 5) 62 ls [] σ c s Q := by
   as_aux_lemma =>
    intro  ls σ F_c62 A_c62 xc62_5 xc62_6 lc62_0 lc62_1 lc62_2 lc62_3 lc62_4 lc62_5 lc62_6 H hS_c62 hA_c62   jc62_0 jc62_1 jc62_2
    have h62 : (xc62_5) = 0 ∧ (xc62_6) = z21 := by omega
    clear jc62_2
    refine Ew_of (pc' := 64) (fun _ => x_iload rfl lc62_4) ?_
    refine Ew_of (pc' := 65) (fun _ => x_iconst rfl) ?_
    have hc87 : ∀ (ls : rO) (σ : rS) (F_c87 : hF) (A_c87 : hA) (xc87_5 : Int) (xc87_6 : Int), rlook ls 0 = some (.ref (D 6)) → rlook ls 1 = some (I (a1)) → rlook ls 2 = some (I ((64 * a1))) → rlook ls 3 = some (I (v2)) → rlook ls 4 = some (I (z7)) → rlook ls 5 = some (I (xc87_5)) → rlook ls 6 = some (I (xc87_6)) → HS σ0 σ D N F_c87 A_c87 → SF [] F_c62 F_c87 → SA [] A_c62 A_c87 → (inr (xc87_5)) → (inr (xc87_6)) → (((z7) ≠ (1) ∧ (xc87_5) = (xc62_5) ∧ (xc87_6) = (xc62_6)) ∨ ((z7) = (1) ∧ (xc62_5) < (0) ∧ (xc87_5) = (1) ∧ (xc87_6) = (8)) ∨ ((z7) = (1) ∧ (xc62_5) ≥ (0) ∧ (8) ≥ (xc62_6) ∧ (xc87_5) = (xc62_5) ∧ (xc87_6) = (xc62_6)) ∨ ((z7) = (1) ∧ (xc62_5) ≥ (0) ∧ (8) < (xc62_6) ∧ (xc87_5) = (1) ∧ (xc87_6) = (8))) → Ew 437 (d + 5) 87 ls [] σ c s Q := by
     as_aux_lemma =>
      intro  ls σ F_c87 A_c87 xc87_5 xc87_6 lc87_0 lc87_1 lc87_2 lc87_3 lc87_4 lc87_5 lc87_6 H hS_c87 hA_c87   jc87_0 jc87_1 jc87_2
      have h87 : ((xc87_5) = 0 ∨ (xc87_5) = 1) ∧ (xc87_6) ≤ z21 := by omega
      clear jc87_2 h62
      refine Ew_of (pc' := 88) (fun _ => x_aload_n rfl lc87_0) ?_
      have : ∀ j, (0 : Int) ≤ j → j < (u6_28) → (sh ((w66)) (8001 * (a1))) j ≤ lastOf ((a1)) := fun j a b => by have := hsyl j a b; omega
      refine Ew_of (pc' := 89) (fun _ => x_iload_n rfl lc87_1) ?_
      refine w_inv H (o := 6) rfl rfl rfl (H.perm 6 rfl) rfl rfl (by rfl) (M413 H (u6_28) (((((((hS_c87 6 28 rfl).trans (hS_c62 6 28 rfl)).trans (hS19 6 28 rfl)).trans (hS12 6 28 rfl)).trans (hS5 6 28 rfl)).trans (eu6_28))) (w66) ((funext (hA_c87 66 rfl)).trans ((funext (hA_c62 66 rfl)).trans ((funext (hA20 66 rfl)).trans ((funext (hA13 66 rfl)).trans ((funext (hA6 66 rfl)).trans (ew66)))))) (lastOf ((a1))) (show inr (a1) by omega) (show 0 ≤ (a1) ∧ (a1) ≤ 2 by omega) (show 1 ≤ (u6_28) by omega) (show ∀ j, 0 ≤ j → j < (u6_28) → (sh ((w66)) (8001 * (a1))) j ≤ (lastOf ((a1))) by assumption) (show 0 ≤ (lastOf ((a1))) ∧ (lastOf ((a1))) ≤ 63 by omega) (fun z26 σ F22 A23 H hS24 hA25 wq27 ewq28 pz26_0 pz26_1 pz26_2 pz26_3 pz26_4 pz26_5 pz26_6 => ⟨rfl, ?_⟩))
      have hce : ∀ i, (0 : Int) ≤ i → i < 64 → ((wq27)) i = su (eqs (sh ((w66)) (8001 * (a1))) i) ((u6_28) : Int).toNat := by assumption
      have hlz : ∀ i, lastOf ((a1)) < i → i < 64 → 0 ≤ i → ((wq27)) i = 0 := fun i a b c => by rw [hce i c b]; exact su_eqs0 (fun k x y => by have := hsyl k x (by omega); omega)
      refine Ew_of (pc' := 94) (fun _ => x_istore rfl) ?_
      refine Ew_of (pc' := 95) (fun _ => x_aload_n rfl (rk_o (lc87_0) rfl rfl)) ?_
      refine Ew_of (pc' := 96) (fun _ => x_iload_n rfl (rk_o (lc87_1) rfl rfl)) ?_
      refine Ew_of (pc' := 98) (fun _ => x_iload rfl rk_s) ?_
      refine w_inv H (o := 6) rfl rfl rfl (H.perm 6 rfl) rfl rfl (by rfl) (M415b H (u6_28) ((((((((hS24 6 28 rfl).trans (hS_c87 6 28 rfl)).trans (hS_c62 6 28 rfl)).trans (hS19 6 28 rfl)).trans (hS12 6 28 rfl)).trans (hS5 6 28 rfl)).trans (eu6_28))) (w66) ((funext (hA25 66 rfl)).trans ((funext (hA_c87 66 rfl)).trans ((funext (hA_c62 66 rfl)).trans ((funext (hA20 66 rfl)).trans ((funext (hA13 66 rfl)).trans ((funext (hA6 66 rfl)).trans (ew66))))))) (wq27) (ewq28) (lastOf ((a1))) (show inr (a1) by omega) (show inr (z26) by omega) (show 0 ≤ (a1) ∧ (a1) ≤ 2 by omega) (show 5 ≤ (z26) ∧ (z26) ≤ 9 by omega) (show 1 ≤ (u6_28) by omega) (show ∀ i, (0 : Int) ≤ i → i < 64 → 0 ≤ ((wq27)) i by assumption) (show su (fun i => ((wq27)) i) 64 = (u6_28) by omega) (show su (fun i => pos1 (((wq27)) i)) 64 ≤ p2 ((z26)) by omega) (show ∀ j, 0 ≤ j → j < (u6_28) → 1 ≤ ((wq27)) (((w66)) (8001 * (a1) + j)) by assumption) (show ∀ i, (lastOf ((a1))) < i → i < 64 → 0 ≤ i → ((wq27)) i = 0 by assumption) (show 0 ≤ (lastOf ((a1))) ∧ (lastOf ((a1))) ≤ 63 by omega) (fun z33 σ F29 A30 H hS31 hA32 y34 ey35 wq36 ewq37 pz33_0 pz33_1 pz33_2 pz33_3 pz33_4 pz33_5 pz33_6 => ⟨rfl, ?_⟩))
      have r38 : (0 : Int) ≤ y34 ∧ y34 ≤ 100000000 := by have h1 : (0 : Int) ≤ F29 6 35 ∧ F29 6 35 ≤ 100000000 := H.frng 6 35; rw [show F29 6 35 = y34 from (ey35)] at h1; exact h1
      have hco2 : COST (sh ((wq36)) 0) ((z26)) (sh ((w66)) (8001 * (a1))) ((u6_28)) ((z33) - (y34)) := by assumption
      have hdf2 : DVF ((wq27)) ((u6_28)) (p2 ((z26))) ((wq36)) := by assumption
      have hbi2 : 0 ≤ (y34) := by omega
      refine Ew_of (pc' := 103) (fun _ => x_istore rfl) ?_
      refine Ew_of (pc' := 105) (fun _ => x_iload rfl (rk_o (rk_o (lc87_5) rfl rfl) rfl rfl)) ?_
      have hc122 : ∀ (ls : rO) (σ : rS) (F_c122 : hF) (A_c122 : hA) (xc122_5 : Int) (xc122_6 : Int), rlook ls 0 = some (.ref (D 6)) → rlook ls 1 = some (I (a1)) → rlook ls 2 = some (I ((64 * a1))) → rlook ls 3 = some (I (v2)) → rlook ls 4 = some (I (z7)) → rlook ls 5 = some (I (xc122_5)) → rlook ls 6 = some (I (xc122_6)) → rlook ls 9 = some (I (z26)) → HS σ0 σ D N F_c122 A_c122 → SF [] F29 F_c122 → SA [] A30 A_c122 → (inr (xc122_5)) → (inr (xc122_6)) → (((xc87_5) < (0) ∧ (xc122_5) = (2) ∧ (xc122_6) = (z33)) ∨ ((xc87_5) ≥ (0) ∧ (z33) ≥ (xc87_6) ∧ (xc122_5) = (xc87_5) ∧ (xc122_6) = (xc87_6)) ∨ ((xc87_5) ≥ (0) ∧ (z33) < (xc87_6) ∧ (xc122_5) = (2) ∧ (xc122_6) = (z33))) → Ew 437 (d + 5) 122 ls [] σ c s Q := by
       as_aux_lemma =>
        intro  ls σ F_c122 A_c122 xc122_5 xc122_6 lc122_0 lc122_1 lc122_2 lc122_3 lc122_4 lc122_5 lc122_6 lc122_9 H hS_c122 hA_c122   jc122_0 jc122_1 jc122_2
        have h122 : (0 ≤ (xc122_5) ∧ (xc122_5) ≤ 2) ∧ (xc122_6) ≤ z21 ∧ ((xc122_5) = 2 → z33 ≤ z21) := by omega
        clear jc122_2 h87
        refine Ew_of (pc' := 123) (fun _ => x_aload_n rfl lc122_0) ?_
        refine Ew_of (pc' := 124) (fun _ => x_iload_n rfl lc122_1) ?_
        refine Ew_of (pc' := 126) (fun _ => x_iload rfl lc122_4) ?_
        refine Ew_of (pc' := 127) (fun _ => x_iload_n rfl lc122_3) ?_
        refine w_inv H (o := 6) rfl rfl rfl (H.perm 6 rfl) rfl rfl (by rfl) (M438 H (u6_28) ((((((((((hS_c122 6 28 rfl).trans (hS31 6 28 rfl)).trans (hS24 6 28 rfl)).trans (hS_c87 6 28 rfl)).trans (hS_c62 6 28 rfl)).trans (hS19 6 28 rfl)).trans (hS12 6 28 rfl)).trans (hS5 6 28 rfl)).trans (eu6_28))) (w54) ((funext (hA_c122 54 rfl)).trans ((funext (hA32 54 rfl)).trans ((funext (hA25 54 rfl)).trans ((funext (hA_c87 54 rfl)).trans ((funext (hA_c62 54 rfl)).trans ((funext (hA20 54 rfl)).trans ((funext (hA13 54 rfl)).trans ((funext (hA6 54 rfl)).trans (ew54))))))))) (w55) ((funext (hA_c122 55 rfl)).trans ((funext (hA32 55 rfl)).trans ((funext (hA25 55 rfl)).trans ((funext (hA_c87 55 rfl)).trans ((funext (hA_c62 55 rfl)).trans ((funext (hA20 55 rfl)).trans ((funext (hA13 55 rfl)).trans ((funext (hA6 55 rfl)).trans (ew55))))))))) (w66) ((funext (hA_c122 66 rfl)).trans ((funext (hA32 66 rfl)).trans ((funext (hA25 66 rfl)).trans ((funext (hA_c87 66 rfl)).trans ((funext (hA_c62 66 rfl)).trans ((funext (hA20 66 rfl)).trans ((funext (hA13 66 rfl)).trans ((funext (hA6 66 rfl)).trans (ew66))))))))) (show inr (a1) by omega) (show inr (z7) by omega) (show inr (v2) by omega) (show 0 ≤ (a1) ∧ (a1) ≤ 2 by omega) (show WO ((w54)) ((w55)) by assumption) (show 0 ≤ (v2) ∧ (v2) < 64 by omega) (show 1 ≤ (u6_28) by omega) (fun z43 σ F39 A40 H hS41 hA42 pz43_0 pz43_1 pz43_2 pz43_3 pz43_4 => ⟨rfl, ?_⟩))
        have ha1 := (show IMP _ _ from pz43_2)
        have ha2 := (show IMP _ _ from pz43_4)
        clear pz43_2 pz43_3 pz43_4
        refine Ew_of (pc' := 132) (fun _ => x_istore rfl) ?_
        refine Ew_of (pc' := 134) (fun _ => x_iload rfl rk_s) ?_
        have hc147 : ∀ (ls : rO) (σ : rS) (F_c147 : hF) (A_c147 : hA) (xc147_5 : Int), rlook ls 0 = some (.ref (D 6)) → rlook ls 1 = some (I (a1)) → rlook ls 2 = some (I ((64 * a1))) → rlook ls 3 = some (I (v2)) → rlook ls 5 = some (I (xc147_5)) → rlook ls 9 = some (I (z26)) → HS σ0 σ D N F_c147 A_c147 → SF [] F39 F_c147 → SA [] A40 A_c147 → (inr (xc147_5)) → (((z43) < (0) ∧ (xc147_5) = (xc122_5)) ∨ ((z43) ≥ (0) ∧ (z43) ≥ (xc122_6) ∧ (xc147_5) = (xc122_5)) ∨ ((z43) ≥ (0) ∧ (z43) < (xc122_6) ∧ (xc147_5) = (3))) → Ew 437 (d + 5) 147 ls [] σ c s Q := by
         as_aux_lemma =>
          intro  ls σ F_c147 A_c147 xc147_5 lc147_0 lc147_1 lc147_2 lc147_3 lc147_5 lc147_9 H hS_c147 hA_c147   jc147_0 jc147_1
          have h147 : 0 ≤ (xc147_5) ∧ (xc147_5) ≤ 3 := by omega
          have hm2 : IMP ((xc147_5) = 2) (z33 ≤ z21) := fun q => by omega
          have hm3 : IMP ((xc147_5) = 3) (0 ≤ z43 ∧ z43 ≤ z21) := fun q => by omega
          clear jc147_1 h122
          refine Ew_of (pc' := 148) (fun _ => x_aload_n rfl lc147_0) ?_
          refine w_inv H (o := 6) rfl rfl rfl (H.perm 6 rfl) rfl rfl (by rfl) (M391 H (y34) (((((hS_c147 6 35 rfl).trans (hS41 6 35 rfl)).trans (hS_c122 6 35 rfl)).trans (ey35))) (A30 69) ((funext (hA_c147 69 rfl)).trans ((funext (hA42 69 rfl)).trans (funext (hA_c122 69 rfl))))  (fun σ F44 A45 H hS46 hA47 y49 ey50 wq51 ewq52 pz48_0 pz48_1 => ⟨rfl, ?_⟩))
          have r53 : (0 : Int) ≤ y49 ∧ y49 ≤ 100000000 := by have h1 : (0 : Int) ≤ F44 6 35 ∧ F44 6 35 ≤ 100000000 := H.frng 6 35; rw [show F44 6 35 = y49 from (ey50)] at h1; exact h1
          have hc164 : ∀ (ls : rO) (σ : rS) (F_c164 : hF) (A_c164 : hA) , rlook ls 0 = some (.ref (D 6)) → rlook ls 1 = some (I (a1)) → rlook ls 2 = some (I ((64 * a1))) → rlook ls 3 = some (I (v2)) → rlook ls 5 = some (I (xc147_5)) → rlook ls 9 = some (I (z26)) → HS σ0 σ D N F_c164 A_c164 → SF [(6, 35)] F44 F_c164 → SA [69] A45 A_c164 → ∀ yc164_6_35 : Int, F_c164 6 35 = yc164_6_35 → (0 ≤ (yc164_6_35) ∧ (yc164_6_35) ≤ 8) → Ew 437 (d + 5) 164 ls [] σ c s Q := by
           as_aux_lemma =>
            intro  ls σ F_c164 A_c164  lc164_0 lc164_1 lc164_2 lc164_3 lc164_5 lc164_9 H hS_c164 hA_c164 yc164_6_35 eyc164_6_35  jc164_0
            have r54 : (0 : Int) ≤ yc164_6_35 ∧ yc164_6_35 ≤ 100000000 := by have h1 : (0 : Int) ≤ F_c164 6 35 ∧ F_c164 6 35 ≤ 100000000 := H.frng 6 35; rw [show F_c164 6 35 = yc164_6_35 from (eyc164_6_35)] at h1; exact h1
            have hc180 : ∀ (ls : rO) (σ : rS) (F_c180 : hF) (A_c180 : hA) , rlook ls 0 = some (.ref (D 6)) → rlook ls 1 = some (I (a1)) → rlook ls 2 = some (I ((64 * a1))) → rlook ls 3 = some (I (v2)) → rlook ls 5 = some (I (xc147_5)) → rlook ls 9 = some (I (z26)) → HS σ0 σ D N F_c180 A_c180 → SF [] F_c164 F_c180 → SA [55, 75] A_c164 A_c180 → ∀ wc180_55 : Int → Int, A_c180 55 = wc180_55 → ∀ wc180_75 : Int → Int, A_c180 75 = wc180_75 → (IMP ((xc147_5) = 0) ((wc180_55) = upd1 ((w55)) ((a1)) (kO ((a1))) ∧ ∀ i, (0 : Int) ≤ i → i < 64 → ((wc180_75)) i = KK ((a1)) i)) → (IMP ((xc147_5) ≠ 0) ((wc180_55) = (w55))) → Ew 437 (d + 5) 180 ls [] σ c s Q := by
             as_aux_lemma =>
              intro  ls σ F_c180 A_c180  lc180_0 lc180_1 lc180_2 lc180_3 lc180_5 lc180_9 H hS_c180 hA_c180  wc180_55 ewc180_55 wc180_75 ewc180_75 jc180_0 jc180_1
              have hc193 : ∀ (ls : rO) (σ : rS) (F_c193 : hF) (A_c193 : hA) , rlook ls 0 = some (.ref (D 6)) → rlook ls 1 = some (I (a1)) → rlook ls 2 = some (I ((64 * a1))) → rlook ls 3 = some (I (v2)) → rlook ls 5 = some (I (xc147_5)) → rlook ls 9 = some (I (z26)) → HS σ0 σ D N F_c193 A_c193 → SF [] F_c180 F_c193 → SA [55] A_c180 A_c193 → ∀ wc193_55 : Int → Int, A_c193 55 = wc193_55 → (IMP ((xc147_5) = 0) ((wc193_55) = upd1 ((w55)) ((a1)) (kO ((a1))) ∧ ∀ i, (0 : Int) ≤ i → i < 64 → ((wc180_75)) i = KK ((a1)) i)) → (IMP ((xc147_5) = 1) ((wc193_55) = upd1 ((w55)) ((a1)) 0)) → (IMP ((xc147_5) ≠ 0 ∧ (xc147_5) ≠ 1) ((wc193_55) = (w55))) → Ew 437 (d + 5) 193 ls [] σ c s Q := by
               as_aux_lemma =>
                intro  ls σ F_c193 A_c193  lc193_0 lc193_1 lc193_2 lc193_3 lc193_5 lc193_9 H hS_c193 hA_c193  wc193_55 ewc193_55 jc193_0 jc193_1 jc193_2
                have hc228 : ∀ (ls : rO) (σ : rS) (F_c228 : hF) (A_c228 : hA) , rlook ls 0 = some (.ref (D 6)) → rlook ls 2 = some (I ((64 * a1))) → rlook ls 3 = some (I (v2)) → rlook ls 5 = some (I (xc147_5)) → HS σ0 σ D N F_c228 A_c228 → SF [(6, 35)] F_c193 F_c228 → SA [55, 69, 75, 76, 77] A_c193 A_c228 → ∀ yc228_6_35 : Int, F_c228 6 35 = yc228_6_35 → ∀ wc228_55 : Int → Int, A_c228 55 = wc228_55 → ∀ wc228_75 : Int → Int, A_c228 75 = wc228_75 → (IMP ((xc147_5) = 0) ((wc228_55) = upd1 ((w55)) ((a1)) (kO ((a1))) ∧ ∀ i, (0 : Int) ≤ i → i < 64 → ((wc228_75)) i = KK ((a1)) i)) → (IMP ((xc147_5) = 1) ((wc228_55) = upd1 ((w55)) ((a1)) 0)) → (IMP ((xc147_5) = 2) ((wc228_55) = upd1 ((w55)) ((a1)) (z26) ∧ DVI ((wq27)) ((wc228_75)) 64 ∧ su (fun i => mass (((wc228_75)) i)) 64 = p2 (z26) ∧ DVF ((wq27)) ((u6_28)) (p2 (z26)) ((wc228_75)))) → (IMP ((xc147_5) = 3) ((wc228_55) = (w55))) → (0 ≤ (yc228_6_35) ∧ (yc228_6_35) ≤ 700) → Ew 437 (d + 5) 228 ls [] σ c s Q := by
                 as_aux_lemma =>
                  intro  ls σ F_c228 A_c228  lc228_0 lc228_2 lc228_3 lc228_5 H hS_c228 hA_c228 yc228_6_35 eyc228_6_35 wc228_55 ewc228_55 wc228_75 ewc228_75 jc228_0 jc228_1 jc228_2 jc228_3 jc228_4
                  have r55 : (0 : Int) ≤ yc228_6_35 ∧ yc228_6_35 ≤ 100000000 := by have h1 : (0 : Int) ≤ F_c228 6 35 ∧ F_c228 6 35 ≤ 100000000 := H.frng 6 35; rw [show F_c228 6 35 = yc228_6_35 from (eyc228_6_35)] at h1; exact h1
                  have h228_0 : IMP ((xc147_5) = 0) ((wc228_55) = upd1 ((w55)) ((a1)) (kO ((a1))) ∧ ∀ i, (0 : Int) ≤ i → i < 64 → ((wc228_75)) i = KK ((a1)) i) := by assumption
                  have h228_1 : IMP ((xc147_5) = 1) ((wc228_55) = upd1 ((w55)) ((a1)) 0) := by assumption
                  have h228_2 : IMP ((xc147_5) = 2) ((wc228_55) = upd1 ((w55)) ((a1)) (z26) ∧ DVI ((wq27)) ((wc228_75)) 64 ∧ su (fun i => mass (((wc228_75)) i)) 64 = p2 (z26) ∧ DVF ((wq27)) ((u6_28)) (p2 (z26)) ((wc228_75))) := by assumption
                  have h228_3 : IMP ((xc147_5) = 3) ((wc228_55) = (w55)) := by assumption
                  refine Ew_of (pc' := 229) (fun _ => x_iconst rfl) ?_
                  refine Ew_of (pc' := 231) (fun _ => x_istore rfl) ?_
                  have : IMP ((xc147_5) ≠ 1) (∀ k, (0 : Int) ≤ k → k < 0 → ((w54)) (64 * (a1) + k) = ((wc228_75)) k) := fun _ k a b => absurd b (by omega)
                  have : FRM ((w54)) ((w54)) (64 * (a1)) (64 * (a1) + 64) := FRM_refl
                  have : IMP ((xc147_5) = 3) ((w54) = (w54)) := fun _ => rfl
                  suffices hl231 : ∀ (m : Nat), ∀ (ls : rO) (σ : rS) (F_231 : hF) (A_231 : hA) (x231_10 : Int), rlook ls 0 = some (.ref (D 6)) → rlook ls 2 = some (I ((64 * a1))) → rlook ls 3 = some (I (v2)) → rlook ls 5 = some (I (xc147_5)) → rlook ls 10 = some (I (x231_10)) → HS σ0 σ D N F_231 A_231 → SF [] F_c228 F_231 → SA [54] A_c228 A_231 → ∀ w231_54 : Int → Int, A_231 54 = w231_54 → (inr (x231_10)) → ((0) ≤ (x231_10)) → ((x231_10) ≤ (0) ∨ (x231_10) ≤ ((64))) → (IMP ((xc147_5) ≠ 1) (∀ k, (0 : Int) ≤ k → k < (x231_10) → ((w231_54)) (64 * (a1) + k) = ((wc228_75)) k)) → (FRM ((w54)) ((w231_54)) (64 * (a1)) (64 * (a1) + 64)) → (IMP ((xc147_5) = 3) ((w231_54) = (w54))) → ((xc147_5) < 3 ∨ (x231_10) = 0) → (((64)) - (x231_10)).toNat = m → Ew 437 (d + 5) 231 ls [] σ c s Q from
                    hl231 _ _ σ _ _ (0) (rk_o (lc228_0) rfl rfl) (rk_o (lc228_2) rfl rfl) (rk_o (lc228_3) rfl rfl) (rk_o (lc228_5) rfl rfl) (rk_s) H (SF_refl) (SA_refl)  (w54) ((funext (hA_c228 54 rfl)).trans ((funext (hA_c193 54 rfl)).trans ((funext (hA_c180 54 rfl)).trans ((funext (hA_c164 54 rfl)).trans ((funext (hA47 54 rfl)).trans ((funext (hA_c147 54 rfl)).trans ((funext (hA42 54 rfl)).trans ((funext (hA_c122 54 rfl)).trans ((funext (hA32 54 rfl)).trans ((funext (hA25 54 rfl)).trans ((funext (hA_c87 54 rfl)).trans ((funext (hA_c62 54 rfl)).trans ((funext (hA20 54 rfl)).trans ((funext (hA13 54 rfl)).trans ((funext (hA6 54 rfl)).trans (ew54)))))))))))))))) (show inr (0) by omega) (show (0) ≤ (0) by omega) (show (0) ≤ (0) ∨ (0) ≤ ((64)) by omega) (show IMP ((xc147_5) ≠ 1) (∀ k, (0 : Int) ≤ k → k < (0) → ((w54)) (64 * (a1) + k) = ((wc228_75)) k) by assumption) (show FRM ((w54)) ((w54)) (64 * (a1)) (64 * (a1) + 64) by assumption) (show IMP ((xc147_5) = 3) ((w54) = (w54)) by assumption) (show (xc147_5) < 3 ∨ (0) = 0 by omega) rfl
                  as_aux_lemma =>
                  intro m
                  induction m using Nat.strongRecOn with
                  | _ m ih231 =>
                    intro ls σ F_231 A_231 x231_10 l231_0 l231_2 l231_3 l231_5 l231_10 H hS_231 hA_231  w231_54 ew231_54 j231_0 j231_1 j231_2 j231_3 j231_4 j231_5 j231_6 hm231
                    have j231_c : IMP ((xc147_5) ≠ 1) (∀ k, (0 : Int) ≤ k → k < (x231_10) → ((w231_54)) (64 * (a1) + k) = ((wc228_75)) k) := by assumption
                    have j231_f : FRM ((w54)) ((w231_54)) (64 * (a1)) (64 * (a1) + 64) := by assumption
                    have j231_p : IMP ((xc147_5) = 3) ((w231_54) = (w54)) := by assumption
                    refine Ew_of (pc' := 233) (fun _ => x_iload rfl l231_10) ?_
                    refine Ew_of (pc' := 235) (fun _ => x_bipush (z := 64) rfl (by decide)) ?_
                    refine w_icmpge (t := 286) rfl rfl (show inr (x231_10) by omega) (show inr (64) by omega) (fun b56 => ?_) (fun b56 => ?_)
                    · have hto : FRM ((w55)) ((wc228_55)) ((a1)) ((a1) + 1) := by rcases (show (xc147_5) = 0 ∨ (xc147_5) = 1 ∨ (xc147_5) = 2 ∨ (xc147_5) = 3 by omega) with q | q | q | q; (rw [(h228_0 q).1]; exact FRM_upd FRM_refl (by omega) (by omega)); (rw [h228_1 q]; exact FRM_upd FRM_refl (by omega) (by omega)); (rw [(h228_2 q).1]; exact FRM_upd FRM_refl (by omega) (by omega)); (rw [h228_3 q]; exact FRM_refl)
                      have htb : TBL ((w231_54)) ((wc228_55)) (sh ((w66)) (8001 * (a1))) ((a1)) ((u6_28)) := by rcases (show (xc147_5) = 0 ∨ (xc147_5) = 1 ∨ (xc147_5) = 2 ∨ (xc147_5) = 3 by omega) with q | q | q | q; (first | exact TBL_new hshk (fun k a b => by rw [j231_c (by omega) k a (by omega)]; exact (h228_0 q).2 k a b) (by rw [(h228_0 q).1, upd1_s]) hc1 hag1 hcb1 | (exfalso; omega)); exact TBL_0 (by rw [h228_1 q, upd1_s]); (first | exact TBL_new (SH_div (by omega) (h228_2 q).2.1 (h228_2 q).2.2.1 hlz) (fun k a b => j231_c (by omega) k a (by omega)) (by rw [(h228_2 q).1, upd1_s]) hco2 (AG_sh (DVF_uniq hdf2 (h228_2 q).2.2.2)) (by have := hm2 q; omega) | (exfalso; omega)); (rw [j231_p q, h228_3 q]; have hq3 := hm3 q; exact TBL_was hwo (by omega) (by omega) (ha2 (by omega)) (ha1 (by omega)) (by omega))
                      have : WO ((w231_54)) ((wc228_55)) := WO_new hwo j231_f hto htb
                      refine Ew_of (pc' := 288) (fun _ => x_iload rfl l231_5) ?_
                      exact w_ireturn rfl (k (xc147_5) σ _ _ H (SF_trans (SF_trans (SF_trans (SF_trans (SF_trans (SF_trans (SF_trans (SF_trans (SF_trans (SF_trans (SF_trans (SF_trans (SF_trans (SF_trans (SF_trans (SF_trans (SF_refl) hS5 (any_sub rfl)) hS12 (any_sub rfl)) hS19 (any_sub rfl)) hS_c62 (any_sub rfl)) hS_c87 (any_sub rfl)) hS24 (any_sub rfl)) hS31 (any_sub rfl)) hS_c122 (any_sub rfl)) hS41 (any_sub rfl)) hS_c147 (any_sub rfl)) hS46 (any_sub rfl)) hS_c164 (any_sub rfl)) hS_c180 (any_sub rfl)) hS_c193 (any_sub rfl)) hS_c228 (any_sub rfl)) hS_231 (any_sub rfl)) (SA_trans (SA_trans (SA_trans (SA_trans (SA_trans (SA_trans (SA_trans (SA_trans (SA_trans (SA_trans (SA_trans (SA_trans (SA_trans (SA_trans (SA_trans (SA_trans (SA_refl) hA6 (any_subA rfl)) hA13 (any_subA rfl)) hA20 (any_subA rfl)) hA_c62 (any_subA rfl)) hA_c87 (any_subA rfl)) hA25 (any_subA rfl)) hA32 (any_subA rfl)) hA_c122 (any_subA rfl)) hA42 (any_subA rfl)) hA_c147 (any_subA rfl)) hA47 (any_subA rfl)) hA_c164 (any_subA rfl)) hA_c180 (any_subA rfl)) hA_c193 (any_subA rfl)) hA_c228 (any_subA rfl)) hA_231 (any_subA rfl)) (yc228_6_35) (((hS_231 6 35 rfl).trans (eyc228_6_35))) (w231_54) (ew231_54) (wc228_55) ((funext (hA_231 55 rfl)).trans (ewc228_55)) (show inr (xc147_5) by omega) (show 0 ≤ (xc147_5) ∧ (xc147_5) ≤ 3 by omega) (show 0 ≤ (yc228_6_35) ∧ (yc228_6_35) ≤ 700 by omega) (show TBL ((w231_54)) ((wc228_55)) (sh ((w66)) (8001 * a1)) (a1) ((u6_28)) by assumption) (show WO ((w231_54)) ((wc228_55)) by assumption) (show FRM ((w54)) ((w231_54)) (64 * a1) (64 * a1 + 64) by assumption) (show FRM ((w55)) ((wc228_55)) (a1) (a1 + 1) by assumption))
                    · refine Ew_of (pc' := 240) (fun _ => x_iload rfl l231_5) ?_
                      refine Ew_of (pc' := 241) (fun _ => x_iconst rfl) ?_
                      refine w_icmpge (t := 286) rfl rfl (show inr (xc147_5) by omega) (show inr (3) by omega) (fun b57 => ?_) (fun b57 => ?_)
                      · have hto : FRM ((w55)) ((wc228_55)) ((a1)) ((a1) + 1) := by rcases (show (xc147_5) = 0 ∨ (xc147_5) = 1 ∨ (xc147_5) = 2 ∨ (xc147_5) = 3 by omega) with q | q | q | q; (rw [(h228_0 q).1]; exact FRM_upd FRM_refl (by omega) (by omega)); (rw [h228_1 q]; exact FRM_upd FRM_refl (by omega) (by omega)); (rw [(h228_2 q).1]; exact FRM_upd FRM_refl (by omega) (by omega)); (rw [h228_3 q]; exact FRM_refl)
                        have htb : TBL ((w231_54)) ((wc228_55)) (sh ((w66)) (8001 * (a1))) ((a1)) ((u6_28)) := by rcases (show (xc147_5) = 0 ∨ (xc147_5) = 1 ∨ (xc147_5) = 2 ∨ (xc147_5) = 3 by omega) with q | q | q | q; (first | exact TBL_new hshk (fun k a b => by rw [j231_c (by omega) k a (by omega)]; exact (h228_0 q).2 k a b) (by rw [(h228_0 q).1, upd1_s]) hc1 hag1 hcb1 | (exfalso; omega)); exact TBL_0 (by rw [h228_1 q, upd1_s]); (first | exact TBL_new (SH_div (by omega) (h228_2 q).2.1 (h228_2 q).2.2.1 hlz) (fun k a b => j231_c (by omega) k a (by omega)) (by rw [(h228_2 q).1, upd1_s]) hco2 (AG_sh (DVF_uniq hdf2 (h228_2 q).2.2.2)) (by have := hm2 q; omega) | (exfalso; omega)); (rw [j231_p q, h228_3 q]; have hq3 := hm3 q; exact TBL_was hwo (by omega) (by omega) (ha2 (by omega)) (ha1 (by omega)) (by omega))
                        have : WO ((w231_54)) ((wc228_55)) := WO_new hwo j231_f hto htb
                        refine Ew_of (pc' := 288) (fun _ => x_iload rfl l231_5) ?_
                        exact w_ireturn rfl (k (xc147_5) σ _ _ H (SF_trans (SF_trans (SF_trans (SF_trans (SF_trans (SF_trans (SF_trans (SF_trans (SF_trans (SF_trans (SF_trans (SF_trans (SF_trans (SF_trans (SF_trans (SF_trans (SF_refl) hS5 (any_sub rfl)) hS12 (any_sub rfl)) hS19 (any_sub rfl)) hS_c62 (any_sub rfl)) hS_c87 (any_sub rfl)) hS24 (any_sub rfl)) hS31 (any_sub rfl)) hS_c122 (any_sub rfl)) hS41 (any_sub rfl)) hS_c147 (any_sub rfl)) hS46 (any_sub rfl)) hS_c164 (any_sub rfl)) hS_c180 (any_sub rfl)) hS_c193 (any_sub rfl)) hS_c228 (any_sub rfl)) hS_231 (any_sub rfl)) (SA_trans (SA_trans (SA_trans (SA_trans (SA_trans (SA_trans (SA_trans (SA_trans (SA_trans (SA_trans (SA_trans (SA_trans (SA_trans (SA_trans (SA_trans (SA_trans (SA_refl) hA6 (any_subA rfl)) hA13 (any_subA rfl)) hA20 (any_subA rfl)) hA_c62 (any_subA rfl)) hA_c87 (any_subA rfl)) hA25 (any_subA rfl)) hA32 (any_subA rfl)) hA_c122 (any_subA rfl)) hA42 (any_subA rfl)) hA_c147 (any_subA rfl)) hA47 (any_subA rfl)) hA_c164 (any_subA rfl)) hA_c180 (any_subA rfl)) hA_c193 (any_subA rfl)) hA_c228 (any_subA rfl)) hA_231 (any_subA rfl)) (yc228_6_35) (((hS_231 6 35 rfl).trans (eyc228_6_35))) (w231_54) (ew231_54) (wc228_55) ((funext (hA_231 55 rfl)).trans (ewc228_55)) (show inr (xc147_5) by omega) (show 0 ≤ (xc147_5) ∧ (xc147_5) ≤ 3 by omega) (show 0 ≤ (yc228_6_35) ∧ (yc228_6_35) ≤ 700 by omega) (show TBL ((w231_54)) ((wc228_55)) (sh ((w66)) (8001 * a1)) (a1) ((u6_28)) by assumption) (show WO ((w231_54)) ((wc228_55)) by assumption) (show FRM ((w54)) ((w231_54)) (64 * a1) (64 * a1 + 64) by assumption) (show FRM ((w55)) ((wc228_55)) (a1) (a1 + 1) by assumption))
                      · refine Ew_of (pc' := 245) (fun _ => x_aload_n rfl l231_0) ?_
                        refine w_gT H (o := 6) (t := 54) rfl (H.perm 6 rfl) rfl rfl rfl rfl rfl rfl ?_
                        refine Ew_of (pc' := 249) (fun _ => x_iload_n rfl l231_2) ?_
                        refine Ew_of (pc' := 251) (fun _ => x_iload rfl l231_10) ?_
                        refine w_iadd rfl ?_
                        refine Ew_of (pc' := 254) (fun _ => x_iload rfl l231_5) ?_
                        refine Ew_of (pc' := 255) (fun _ => x_iconst rfl) ?_
                        refine w_icmpne (t := 272) rfl rfl (show inr (xc147_5) by omega) (show inr (1) by omega) (fun b58 => ?_) (fun b58 => ?_)
                        · have htr : -1 ≤ ((wc228_75)) ((x231_10)) ∧ ((wc228_75)) ((x231_10)) ≤ 512 := by rcases (show (xc147_5) = 0 ∨ (xc147_5) = 2 by omega) with q | q; (rw [(h228_0 q).2 ((x231_10)) (by omega) (by omega)]; have w := SH_le ((x231_10)) hshk (by omega) (by omega); have w2 := p2_le9 (o := kO ((a1))) (by have := kO_eq ((a1)); omega); rw [Int.zero_add] at w; omega); (have w := SH_le ((x231_10)) (SH_div (by omega) (h228_2 q).2.1 (h228_2 q).2.2.1 hlz) (by omega) (by omega); have w2 := p2_le9 (o := z26) (by omega); rw [Int.zero_add] at w; omega)
                          refine Ew_of (pc' := 273) (fun _ => x_aload_n rfl l231_0) ?_
                          refine w_gT H (o := 6) (t := 75) rfl (H.perm 6 rfl) rfl rfl rfl rfl rfl rfl ?_
                          refine Ew_of (pc' := 278) (fun _ => x_iload rfl l231_10) ?_
                          refine w_lI H (o := 75) (n := 64) rfl (H.perm 75 rfl) rfl rfl (H.fix 75 rfl rfl) (show 0 ≤ x231_10 ∧ x231_10 < ((64 : Nat) : Int) by omega) (by decide) (fun v59 ev59 qv59 => ?_)
                          have qv59 : (-2147483648 : Int) ≤ v59 ∧ v59 ≤ 2147483647 := qv59
                          have ev59 : (wc228_75) (x231_10) = v59 := (congrFun ((funext (hA_231 75 rfl)).trans (ewc228_75)) (x231_10)).symm.trans ev59
                          refine w_sI H (o := 54) (n := 192) rfl (H.perm 54 rfl) rfl rfl (H.fix 54 rfl rfl) (show 0 ≤ ((64 * a1) + x231_10) ∧ ((64 * a1) + x231_10) < ((192 : Nat) : Int) by omega) (by decide) (show (-1 : Int) ≤ v59 ∧ v59 ≤ 512 by omega) (fun σ H => ?_)
                          refine Ew_of (pc' := 283) (fun _ => x_iinc (len := 3) rfl (l231_10)) ?_
                          refine Ew_of (pc' := 231) (fun _ => x_goto rfl rfl) ?_
                          have : IMP ((xc147_5) ≠ 1) (∀ k, (0 : Int) ≤ k → k < ((x231_10 + 1)) → ((upd1 (w231_54) (((64 * a1) + x231_10)) (v59))) (64 * (a1) + k) = ((wc228_75)) k) := fun q => cp_upd (j231_c q) (by omega) rfl
                          have : FRM ((w54)) ((upd1 (w231_54) (((64 * a1) + x231_10)) (v59))) (64 * (a1)) (64 * (a1) + 64) := FRM_upd j231_f (by omega) (by omega)
                          have : IMP ((xc147_5) = 3) ((upd1 (w231_54) (((64 * a1) + x231_10)) (v59)) = (w54)) := fun q => absurd q (by omega)
                          exact ih231 _ (by omega) _ σ _ _ ((x231_10 + 1)) (rk_o (l231_0) rfl rfl) (rk_o (l231_2) rfl rfl) (rk_o (l231_3) rfl rfl) (rk_o (l231_5) rfl rfl) (rk_s) H (hS_231) (SA_upd (hA_231) rfl)  (upd1 (w231_54) (((64 * a1) + x231_10)) (v59)) (congrArg (fun q => upd1 q (((64 * a1) + x231_10)) (v59)) (ew231_54)) (show inr ((x231_10 + 1)) by omega) (show (0) ≤ ((x231_10 + 1)) by omega) (show ((x231_10 + 1)) ≤ (0) ∨ ((x231_10 + 1)) ≤ ((64)) by omega) (show IMP ((xc147_5) ≠ 1) (∀ k, (0 : Int) ≤ k → k < ((x231_10 + 1)) → ((upd1 (w231_54) (((64 * a1) + x231_10)) (v59))) (64 * (a1) + k) = ((wc228_75)) k) by assumption) (show FRM ((w54)) ((upd1 (w231_54) (((64 * a1) + x231_10)) (v59))) (64 * (a1)) (64 * (a1) + 64) by assumption) (show IMP ((xc147_5) = 3) ((upd1 (w231_54) (((64 * a1) + x231_10)) (v59)) = (w54)) by assumption) (show (xc147_5) < 3 ∨ ((x231_10 + 1)) = 0 by omega) rfl
                        · refine Ew_of (pc' := 260) (fun _ => x_iload rfl l231_10) ?_
                          refine Ew_of (pc' := 261) (fun _ => x_iload_n rfl l231_3) ?_
                          refine w_icmpne (t := 268) rfl rfl (show inr (x231_10) by omega) (show inr (v2) by omega) (fun b60 => ?_) (fun b60 => ?_)
                          · refine Ew_of (pc' := 269) (fun _ => x_iconst rfl) ?_
                            refine Ew_of (pc' := 279) (fun _ => x_goto rfl rfl) ?_
                            refine w_sI H (o := 54) (n := 192) rfl (H.perm 54 rfl) rfl rfl (H.fix 54 rfl rfl) (show 0 ≤ ((64 * a1) + x231_10) ∧ ((64 * a1) + x231_10) < ((192 : Nat) : Int) by omega) (by decide) (show (-1 : Int) ≤ 0 ∧ 0 ≤ 512 by omega) (fun σ H => ?_)
                            refine Ew_of (pc' := 283) (fun _ => x_iinc (len := 3) rfl (l231_10)) ?_
                            refine Ew_of (pc' := 231) (fun _ => x_goto rfl rfl) ?_
                            have : IMP ((xc147_5) ≠ 1) (∀ k, (0 : Int) ≤ k → k < ((x231_10 + 1)) → ((upd1 (w231_54) (((64 * a1) + x231_10)) (0))) (64 * (a1) + k) = ((wc228_75)) k) := fun q => cp_upd (j231_c q) (by omega) rfl
                            have : FRM ((w54)) ((upd1 (w231_54) (((64 * a1) + x231_10)) (0))) (64 * (a1)) (64 * (a1) + 64) := FRM_upd j231_f (by omega) (by omega)
                            have : IMP ((xc147_5) = 3) ((upd1 (w231_54) (((64 * a1) + x231_10)) (0)) = (w54)) := fun q => absurd q (by omega)
                            exact ih231 _ (by omega) _ σ _ _ ((x231_10 + 1)) (rk_o (l231_0) rfl rfl) (rk_o (l231_2) rfl rfl) (rk_o (l231_3) rfl rfl) (rk_o (l231_5) rfl rfl) (rk_s) H (hS_231) (SA_upd (hA_231) rfl)  (upd1 (w231_54) (((64 * a1) + x231_10)) (0)) (congrArg (fun q => upd1 q (((64 * a1) + x231_10)) (0)) (ew231_54)) (show inr ((x231_10 + 1)) by omega) (show (0) ≤ ((x231_10 + 1)) by omega) (show ((x231_10 + 1)) ≤ (0) ∨ ((x231_10 + 1)) ≤ ((64)) by omega) (show IMP ((xc147_5) ≠ 1) (∀ k, (0 : Int) ≤ k → k < ((x231_10 + 1)) → ((upd1 (w231_54) (((64 * a1) + x231_10)) (0))) (64 * (a1) + k) = ((wc228_75)) k) by assumption) (show FRM ((w54)) ((upd1 (w231_54) (((64 * a1) + x231_10)) (0))) (64 * (a1)) (64 * (a1) + 64) by assumption) (show IMP ((xc147_5) = 3) ((upd1 (w231_54) (((64 * a1) + x231_10)) (0)) = (w54)) by assumption) (show (xc147_5) < 3 ∨ ((x231_10 + 1)) = 0 by omega) rfl
                          · refine Ew_of (pc' := 265) (fun _ => x_iconst rfl) ?_
                            refine Ew_of (pc' := 279) (fun _ => x_goto rfl rfl) ?_
                            refine w_sI H (o := 54) (n := 192) rfl (H.perm 54 rfl) rfl rfl (H.fix 54 rfl rfl) (show 0 ≤ ((64 * a1) + x231_10) ∧ ((64 * a1) + x231_10) < ((192 : Nat) : Int) by omega) (by decide) (show (-1 : Int) ≤ 1 ∧ 1 ≤ 512 by omega) (fun σ H => ?_)
                            refine Ew_of (pc' := 283) (fun _ => x_iinc (len := 3) rfl (l231_10)) ?_
                            refine Ew_of (pc' := 231) (fun _ => x_goto rfl rfl) ?_
                            have : IMP ((xc147_5) ≠ 1) (∀ k, (0 : Int) ≤ k → k < ((x231_10 + 1)) → ((upd1 (w231_54) (((64 * a1) + x231_10)) (1))) (64 * (a1) + k) = ((wc228_75)) k) := fun q => cp_upd (j231_c q) (by omega) rfl
                            have : FRM ((w54)) ((upd1 (w231_54) (((64 * a1) + x231_10)) (1))) (64 * (a1)) (64 * (a1) + 64) := FRM_upd j231_f (by omega) (by omega)
                            have : IMP ((xc147_5) = 3) ((upd1 (w231_54) (((64 * a1) + x231_10)) (1)) = (w54)) := fun q => absurd q (by omega)
                            exact ih231 _ (by omega) _ σ _ _ ((x231_10 + 1)) (rk_o (l231_0) rfl rfl) (rk_o (l231_2) rfl rfl) (rk_o (l231_3) rfl rfl) (rk_o (l231_5) rfl rfl) (rk_s) H (hS_231) (SA_upd (hA_231) rfl)  (upd1 (w231_54) (((64 * a1) + x231_10)) (1)) (congrArg (fun q => upd1 q (((64 * a1) + x231_10)) (1)) (ew231_54)) (show inr ((x231_10 + 1)) by omega) (show (0) ≤ ((x231_10 + 1)) by omega) (show ((x231_10 + 1)) ≤ (0) ∨ ((x231_10 + 1)) ≤ ((64)) by omega) (show IMP ((xc147_5) ≠ 1) (∀ k, (0 : Int) ≤ k → k < ((x231_10 + 1)) → ((upd1 (w231_54) (((64 * a1) + x231_10)) (1))) (64 * (a1) + k) = ((wc228_75)) k) by assumption) (show FRM ((w54)) ((upd1 (w231_54) (((64 * a1) + x231_10)) (1))) (64 * (a1)) (64 * (a1) + 64) by assumption) (show IMP ((xc147_5) = 3) ((upd1 (w231_54) (((64 * a1) + x231_10)) (1)) = (w54)) by assumption) (show (xc147_5) < 3 ∨ ((x231_10 + 1)) = 0 by omega) rfl
                have h193_0 : IMP ((xc147_5) = 0) ((wc193_55) = upd1 ((w55)) ((a1)) (kO ((a1))) ∧ ∀ i, (0 : Int) ≤ i → i < 64 → ((wc180_75)) i = KK ((a1)) i) := by assumption
                have h193_1 : IMP ((xc147_5) = 1) ((wc193_55) = upd1 ((w55)) ((a1)) 0) := by assumption
                have h193_3 : IMP ((xc147_5) ≠ 0 ∧ (xc147_5) ≠ 1) ((wc193_55) = (w55)) := by assumption
                refine Ew_of (pc' := 195) (fun _ => x_iload rfl lc193_5) ?_
                refine Ew_of (pc' := 196) (fun _ => x_iconst rfl) ?_
                refine w_icmpne (t := 228) rfl rfl (show inr (xc147_5) by omega) (show inr (2) by omega) (fun b61 => ?_) (fun b61 => ?_)
                · have : IMP ((xc147_5) = 0) ((wc193_55) = upd1 ((w55)) ((a1)) (kO ((a1))) ∧ ∀ i, (0 : Int) ≤ i → i < 64 → ((wc180_75)) i = KK ((a1)) i) := by first | exact h193_0 | exact (fun q => absurd q (by omega))
                  have : IMP ((xc147_5) = 1) ((wc193_55) = upd1 ((w55)) ((a1)) 0) := by first | exact h193_1 | exact (fun q => absurd q (by omega))
                  have : IMP ((xc147_5) = 2) ((wc193_55) = upd1 ((w55)) ((a1)) (z26) ∧ DVI ((wq27)) ((wc180_75)) 64 ∧ su (fun i => mass (((wc180_75)) i)) 64 = p2 (z26) ∧ DVF ((wq27)) ((u6_28)) (p2 (z26)) ((wc180_75))) := by first | exact (fun q => ⟨by rw [h193_3 (by omega)], hd0, hd1, hd2⟩) | exact (fun q => absurd q (by omega))
                  have : IMP ((xc147_5) = 3) ((wc193_55) = (w55)) := by first | exact (fun q => h193_3 (by omega)) | exact (fun q => absurd q (by omega))
                  exact hc228  _ σ _ _  (lc193_0) (lc193_2) (lc193_3) (lc193_5) H (SF_refl) (SA_refl) (yc164_6_35) ((((hS_c193 6 35 rfl).trans (hS_c180 6 35 rfl)).trans (eyc164_6_35))) (wc193_55) (ewc193_55) (wc180_75) ((funext (hA_c193 75 rfl)).trans (ewc180_75)) (show IMP ((xc147_5) = 0) ((wc193_55) = upd1 ((w55)) ((a1)) (kO ((a1))) ∧ ∀ i, (0 : Int) ≤ i → i < 64 → ((wc180_75)) i = KK ((a1)) i) by assumption) (show IMP ((xc147_5) = 1) ((wc193_55) = upd1 ((w55)) ((a1)) 0) by assumption) (show IMP ((xc147_5) = 2) ((wc193_55) = upd1 ((w55)) ((a1)) (z26) ∧ DVI ((wq27)) ((wc180_75)) 64 ∧ su (fun i => mass (((wc180_75)) i)) 64 = p2 (z26) ∧ DVF ((wq27)) ((u6_28)) (p2 (z26)) ((wc180_75))) by assumption) (show IMP ((xc147_5) = 3) ((wc193_55) = (w55)) by assumption) (show 0 ≤ (yc164_6_35) ∧ (yc164_6_35) ≤ 700 by omega)
                · refine Ew_of (pc' := 200) (fun _ => x_aload_n rfl lc193_0) ?_
                  refine w_gT H (o := 6) (t := 55) rfl (H.perm 6 rfl) rfl rfl rfl rfl rfl rfl ?_
                  refine Ew_of (pc' := 204) (fun _ => x_iload_n rfl lc193_1) ?_
                  refine Ew_of (pc' := 206) (fun _ => x_iload rfl lc193_9) ?_
                  refine w_sI H (o := 55) (n := 3) rfl (H.perm 55 rfl) rfl rfl (H.fix 55 rfl rfl) (show 0 ≤ a1 ∧ a1 < ((3 : Nat) : Int) by omega) (by decide) (show (-1 : Int) ≤ z26 ∧ z26 ≤ 9 by omega) (fun σ H => ?_)
                  refine Ew_of (pc' := 208) (fun _ => x_aload_n rfl lc193_0) ?_
                  refine Ew_of (pc' := 209) (fun _ => x_aload_n rfl lc193_0) ?_
                  refine w_gI H (o := 6) (w := u6_28) rfl (H.perm 6 rfl) rfl rfl rfl (fun _ => rfl) (((((((((((((((hS_c193 6 28 rfl).trans (hS_c180 6 28 rfl)).trans (hS_c164 6 28 rfl)).trans (hS46 6 28 rfl)).trans (hS_c147 6 28 rfl)).trans (hS41 6 28 rfl)).trans (hS_c122 6 28 rfl)).trans (hS31 6 28 rfl)).trans (hS24 6 28 rfl)).trans (hS_c87 6 28 rfl)).trans (hS_c62 6 28 rfl)).trans (hS19 6 28 rfl)).trans (hS12 6 28 rfl)).trans (hS5 6 28 rfl)).trans (eu6_28)) ?_
                  refine Ew_of (pc' := 214) (fun _ => x_iload rfl lc193_9) ?_
                  refine w_inv H (o := 6) rfl rfl rfl (H.perm 6 rfl) rfl rfl (by rfl) (M411b H (wq27) ((funext (hA_c193 78 rfl)).trans ((funext (hA_c180 78 rfl)).trans ((funext (hA_c164 78 rfl)).trans ((funext (hA47 78 rfl)).trans ((funext (hA_c147 78 rfl)).trans ((funext (hA42 78 rfl)).trans ((funext (hA_c122 78 rfl)).trans ((funext (hA32 78 rfl)).trans (ewq28))))))))) (show inr (u6_28) by omega) (show inr (z26) by omega) (show 1 ≤ (u6_28) ∧ (u6_28) ≤ 8001 by omega) (show 5 ≤ (z26) ∧ (z26) ≤ 9 by omega) (show ∀ i, (0 : Int) ≤ i → i < 64 → 0 ≤ ((wq27)) i by assumption) (show su (fun i => ((wq27)) i) 64 = (u6_28) by omega) (show su (fun i => pos1 (((wq27)) i)) 64 ≤ p2 ((z26)) by omega) (fun σ F62 A63 H hS64 hA65 wq67 ewq68 pz66_0 pz66_1 pz66_2 => ⟨rfl, ?_⟩))
                  have hd0 := pz66_0
                  have hd1 := pz66_1
                  have hd2 := pz66_2
                  have : SH ((wq67)) 0 64 (z26) (lastOf ((a1))) := SH_div (by omega) hd0 hd1 hlz
                  refine Ew_of (pc' := 218) (fun _ => x_aload_n rfl lc193_0) ?_
                  refine Ew_of (pc' := 219) (fun _ => x_aload_n rfl lc193_0) ?_
                  refine w_gT H (o := 6) (t := 75) rfl (H.perm 6 rfl) rfl rfl rfl rfl rfl rfl ?_
                  refine Ew_of (pc' := 223) (fun _ => x_iconst rfl) ?_
                  refine Ew_of (pc' := 225) (fun _ => x_iload rfl lc193_9) ?_
                  refine w_inv H (o := 6) rfl rfl rfl (H.perm 6 rfl) rfl rfl (by rfl) (M412_75 H (yc164_6_35) (((((hS64 6 35 rfl).trans (hS_c193 6 35 rfl)).trans (hS_c180 6 35 rfl)).trans (eyc164_6_35))) (A_c164 69) ((funext (hA65 69 rfl)).trans ((funext (hA_c193 69 rfl)).trans (funext (hA_c180 69 rfl)))) (wq67) (ewq68) (lastOf ((a1))) (show inr (0) by omega) (show inr (z26) by omega) (show SH ((wq67)) (0) 64 (z26) (lastOf ((a1))) by assumption) (show 0 ≤ (0) ∧ (0) + 64 ≤ 64 by omega) (show 0 ≤ (yc164_6_35) ∧ (yc164_6_35) ≤ 1000000 by omega) (show 0 ≤ (lastOf ((a1))) by omega) (fun σ F69 A70 H hS71 hA72 y74 ey75 wq76 ewq77 pz73_0 pz73_1 pz73_2 => ⟨rfl, ?_⟩))
                  have r78 : (0 : Int) ≤ y74 ∧ y74 ≤ 100000000 := by have h1 : (0 : Int) ≤ F69 6 35 ∧ F69 6 35 ≤ 100000000 := H.frng 6 35; rw [show F69 6 35 = y74 from (ey75)] at h1; exact h1
                  have : IMP ((xc147_5) = 0) ((upd1 (wc193_55) (a1) (z26)) = upd1 ((w55)) ((a1)) (kO ((a1))) ∧ ∀ i, (0 : Int) ≤ i → i < 64 → ((wq67)) i = KK ((a1)) i) := by first | exact h193_0 | exact (fun q => absurd q (by omega))
                  have : IMP ((xc147_5) = 1) ((upd1 (wc193_55) (a1) (z26)) = upd1 ((w55)) ((a1)) 0) := by first | exact h193_1 | exact (fun q => absurd q (by omega))
                  have : IMP ((xc147_5) = 2) ((upd1 (wc193_55) (a1) (z26)) = upd1 ((w55)) ((a1)) (z26) ∧ DVI ((wq27)) ((wq67)) 64 ∧ su (fun i => mass (((wq67)) i)) 64 = p2 (z26) ∧ DVF ((wq27)) ((u6_28)) (p2 (z26)) ((wq67))) := by first | exact (fun q => ⟨by rw [h193_3 (by omega)], hd0, hd1, hd2⟩) | exact (fun q => absurd q (by omega))
                  have : IMP ((xc147_5) = 3) ((upd1 (wc193_55) (a1) (z26)) = (w55)) := by first | exact (fun q => h193_3 (by omega)) | exact (fun q => absurd q (by omega))
                  exact hc228  _ σ _ _  (lc193_0) (lc193_2) (lc193_3) (lc193_5) H (SF_trans (SF_trans (SF_refl) hS64 (any_sub rfl)) hS71 (any_sub rfl)) (SA_trans (SA_trans (SA_upd (SA_refl) rfl) hA65 (any_subA rfl)) hA72 (any_subA rfl)) (y74) ((ey75)) (upd1 (wc193_55) (a1) (z26)) ((funext (hA72 55 rfl)).trans ((funext (hA65 55 rfl)).trans (congrArg (fun q => upd1 q (a1) (z26)) (ewc193_55)))) (wq67) ((funext (hA72 75 rfl)).trans (ewq68)) (show IMP ((xc147_5) = 0) ((upd1 (wc193_55) (a1) (z26)) = upd1 ((w55)) ((a1)) (kO ((a1))) ∧ ∀ i, (0 : Int) ≤ i → i < 64 → ((wq67)) i = KK ((a1)) i) by assumption) (show IMP ((xc147_5) = 1) ((upd1 (wc193_55) (a1) (z26)) = upd1 ((w55)) ((a1)) 0) by assumption) (show IMP ((xc147_5) = 2) ((upd1 (wc193_55) (a1) (z26)) = upd1 ((w55)) ((a1)) (z26) ∧ DVI ((wq27)) ((wq67)) 64 ∧ su (fun i => mass (((wq67)) i)) 64 = p2 (z26) ∧ DVF ((wq27)) ((u6_28)) (p2 (z26)) ((wq67))) by assumption) (show IMP ((xc147_5) = 3) ((upd1 (wc193_55) (a1) (z26)) = (w55)) by assumption) (show 0 ≤ (y74) ∧ (y74) ≤ 700 by omega)
              have h180_0 : IMP ((xc147_5) = 0) ((wc180_55) = upd1 ((w55)) ((a1)) (kO ((a1))) ∧ ∀ i, (0 : Int) ≤ i → i < 64 → ((wc180_75)) i = KK ((a1)) i) := by assumption
              have h180_3 : IMP ((xc147_5) ≠ 0) ((wc180_55) = (w55)) := by assumption
              refine Ew_of (pc' := 182) (fun _ => x_iload rfl lc180_5) ?_
              refine Ew_of (pc' := 183) (fun _ => x_iconst rfl) ?_
              refine w_icmpne (t := 193) rfl rfl (show inr (xc147_5) by omega) (show inr (1) by omega) (fun b79 => ?_) (fun b79 => ?_)
              · have : IMP ((xc147_5) = 0) ((wc180_55) = upd1 ((w55)) ((a1)) (kO ((a1))) ∧ ∀ i, (0 : Int) ≤ i → i < 64 → ((wc180_75)) i = KK ((a1)) i) := by first | exact h180_0 | exact (fun q => absurd q (by omega))
                have : IMP ((xc147_5) = 1) ((wc180_55) = upd1 ((w55)) ((a1)) 0) := by first | exact (fun q => absurd q (by omega)) | exact (fun q => by rw [h180_3 (by omega)])
                have : IMP ((xc147_5) ≠ 0 ∧ (xc147_5) ≠ 1) ((wc180_55) = (w55)) := by first | exact (fun q => h180_3 q.1) | exact (fun q => absurd q (by omega))
                exact hc193  _ σ _ _  (lc180_0) (lc180_1) (lc180_2) (lc180_3) (lc180_5) (lc180_9) H (SF_refl) (SA_refl)  (wc180_55) (ewc180_55) (show IMP ((xc147_5) = 0) ((wc180_55) = upd1 ((w55)) ((a1)) (kO ((a1))) ∧ ∀ i, (0 : Int) ≤ i → i < 64 → ((wc180_75)) i = KK ((a1)) i) by assumption) (show IMP ((xc147_5) = 1) ((wc180_55) = upd1 ((w55)) ((a1)) 0) by assumption) (show IMP ((xc147_5) ≠ 0 ∧ (xc147_5) ≠ 1) ((wc180_55) = (w55)) by assumption)
              · refine Ew_of (pc' := 187) (fun _ => x_aload_n rfl lc180_0) ?_
                refine w_gT H (o := 6) (t := 55) rfl (H.perm 6 rfl) rfl rfl rfl rfl rfl rfl ?_
                refine Ew_of (pc' := 191) (fun _ => x_iload_n rfl lc180_1) ?_
                refine Ew_of (pc' := 192) (fun _ => x_iconst rfl) ?_
                refine w_sI H (o := 55) (n := 3) rfl (H.perm 55 rfl) rfl rfl (H.fix 55 rfl rfl) (show 0 ≤ a1 ∧ a1 < ((3 : Nat) : Int) by omega) (by decide) (show (-1 : Int) ≤ 0 ∧ 0 ≤ 9 by omega) (fun σ H => ?_)
                have : IMP ((xc147_5) = 0) ((upd1 (wc180_55) (a1) (0)) = upd1 ((w55)) ((a1)) (kO ((a1))) ∧ ∀ i, (0 : Int) ≤ i → i < 64 → ((wc180_75)) i = KK ((a1)) i) := by first | exact h180_0 | exact (fun q => absurd q (by omega))
                have : IMP ((xc147_5) = 1) ((upd1 (wc180_55) (a1) (0)) = upd1 ((w55)) ((a1)) 0) := by first | exact (fun q => absurd q (by omega)) | exact (fun q => by rw [h180_3 (by omega)])
                have : IMP ((xc147_5) ≠ 0 ∧ (xc147_5) ≠ 1) ((upd1 (wc180_55) (a1) (0)) = (w55)) := by first | exact (fun q => h180_3 q.1) | exact (fun q => absurd q (by omega))
                exact hc193  _ σ _ _  (lc180_0) (lc180_1) (lc180_2) (lc180_3) (lc180_5) (lc180_9) H (SF_refl) (SA_upd (SA_refl) rfl)  (upd1 (wc180_55) (a1) (0)) (congrArg (fun q => upd1 q (a1) (0)) (ewc180_55)) (show IMP ((xc147_5) = 0) ((upd1 (wc180_55) (a1) (0)) = upd1 ((w55)) ((a1)) (kO ((a1))) ∧ ∀ i, (0 : Int) ≤ i → i < 64 → ((wc180_75)) i = KK ((a1)) i) by assumption) (show IMP ((xc147_5) = 1) ((upd1 (wc180_55) (a1) (0)) = upd1 ((w55)) ((a1)) 0) by assumption) (show IMP ((xc147_5) ≠ 0 ∧ (xc147_5) ≠ 1) ((upd1 (wc180_55) (a1) (0)) = (w55)) by assumption)
            refine Ew_of (pc' := 166) (fun _ => x_iload rfl lc164_5) ?_
            refine w_ifne (t := 180) rfl rfl (show inr (xc147_5) by omega) (fun b80 => ?_) (fun b80 => ?_)
            · have : IMP ((xc147_5) = 0) ((w55) = upd1 ((w55)) ((a1)) (kO ((a1))) ∧ ∀ i, (0 : Int) ≤ i → i < 64 → ((wq36)) i = KK ((a1)) i) := by first | exact (fun _ => ⟨by rw [← hk8], hkk3⟩) | exact (fun q => absurd q (by omega))
              have : IMP ((xc147_5) ≠ 0) ((w55) = (w55)) := by first | exact (fun _ => rfl) | exact (fun q => absurd q (by omega))
              exact hc180  _ σ _ _  (lc164_0) (lc164_1) (lc164_2) (lc164_3) (lc164_5) (lc164_9) H (SF_refl) (SA_refl)  (w55) ((funext (hA_c164 55 rfl)).trans ((funext (hA47 55 rfl)).trans ((funext (hA_c147 55 rfl)).trans ((funext (hA42 55 rfl)).trans ((funext (hA_c122 55 rfl)).trans ((funext (hA32 55 rfl)).trans ((funext (hA25 55 rfl)).trans ((funext (hA_c87 55 rfl)).trans ((funext (hA_c62 55 rfl)).trans ((funext (hA20 55 rfl)).trans ((funext (hA13 55 rfl)).trans ((funext (hA6 55 rfl)).trans (ew55))))))))))))) (wq36) ((funext (hA_c164 75 rfl)).trans ((funext (hA47 75 rfl)).trans ((funext (hA_c147 75 rfl)).trans ((funext (hA42 75 rfl)).trans ((funext (hA_c122 75 rfl)).trans (ewq37)))))) (show IMP ((xc147_5) = 0) ((w55) = upd1 ((w55)) ((a1)) (kO ((a1))) ∧ ∀ i, (0 : Int) ≤ i → i < 64 → ((wq36)) i = KK ((a1)) i) by assumption) (show IMP ((xc147_5) ≠ 0) ((w55) = (w55)) by assumption)
            · refine Ew_of (pc' := 170) (fun _ => x_aload_n rfl lc164_0) ?_
              refine w_gT H (o := 6) (t := 55) rfl (H.perm 6 rfl) rfl rfl rfl rfl rfl rfl ?_
              refine Ew_of (pc' := 174) (fun _ => x_iload_n rfl lc164_1) ?_
              refine Ew_of (pc' := 175) (fun _ => x_aload_n rfl lc164_0) ?_
              refine Ew_of (pc' := 176) (fun _ => x_iload_n rfl lc164_1) ?_
              refine w_inv H (o := 6) rfl rfl rfl (H.perm 6 rfl) rfl rfl (by rfl) (M417 H (show inr (a1) by omega) (show 0 ≤ (a1) ∧ (a1) ≤ 2 by omega) (fun z85 σ F81 A82 H hS83 hA84 wq86 ewq87 pz85_0 pz85_1 pz85_2 pz85_3 pz85_4 => ⟨rfl, ?_⟩))
              have hk8 : (z85) = kO ((a1)) := by have := kO_eq ((a1)); omega
              have hkk3 : ∀ i, (0 : Int) ≤ i → i < 64 → ((wq86)) i = KK ((a1)) i := pz85_4
              refine w_sI H (o := 55) (n := 3) rfl (H.perm 55 rfl) rfl rfl (H.fix 55 rfl rfl) (show 0 ≤ a1 ∧ a1 < ((3 : Nat) : Int) by omega) (by decide) (show (-1 : Int) ≤ z85 ∧ z85 ≤ 9 by omega) (fun σ H => ?_)
              have : IMP ((xc147_5) = 0) ((upd1 (w55) (a1) (z85)) = upd1 ((w55)) ((a1)) (kO ((a1))) ∧ ∀ i, (0 : Int) ≤ i → i < 64 → ((wq86)) i = KK ((a1)) i) := by first | exact (fun _ => ⟨by rw [← hk8], hkk3⟩) | exact (fun q => absurd q (by omega))
              have : IMP ((xc147_5) ≠ 0) ((upd1 (w55) (a1) (z85)) = (w55)) := by first | exact (fun _ => rfl) | exact (fun q => absurd q (by omega))
              exact hc180  _ σ _ _  (lc164_0) (lc164_1) (lc164_2) (lc164_3) (lc164_5) (lc164_9) H (SF_trans (SF_refl) hS83 (any_sub rfl)) (SA_upd (SA_trans (SA_refl) hA84 (any_subA rfl)) rfl)  (upd1 (w55) (a1) (z85)) (congrArg (fun q => upd1 q (a1) (z85)) ((funext (hA84 55 rfl)).trans ((funext (hA_c164 55 rfl)).trans ((funext (hA47 55 rfl)).trans ((funext (hA_c147 55 rfl)).trans ((funext (hA42 55 rfl)).trans ((funext (hA_c122 55 rfl)).trans ((funext (hA32 55 rfl)).trans ((funext (hA25 55 rfl)).trans ((funext (hA_c87 55 rfl)).trans ((funext (hA_c62 55 rfl)).trans ((funext (hA20 55 rfl)).trans ((funext (hA13 55 rfl)).trans ((funext (hA6 55 rfl)).trans (ew55))))))))))))))) (wq86) (ewq87) (show IMP ((xc147_5) = 0) ((upd1 (w55) (a1) (z85)) = upd1 ((w55)) ((a1)) (kO ((a1))) ∧ ∀ i, (0 : Int) ≤ i → i < 64 → ((wq86)) i = KK ((a1)) i) by assumption) (show IMP ((xc147_5) ≠ 0) ((upd1 (w55) (a1) (z85)) = (w55)) by assumption)
          refine Ew_of (pc' := 153) (fun _ => x_iload rfl lc147_5) ?_
          refine Ew_of (pc' := 154) (fun _ => x_iconst rfl) ?_
          refine w_icmpne (t := 164) rfl rfl (show inr (xc147_5) by omega) (show inr (1) by omega) (fun b88 => ?_) (fun b88 => ?_)
          · exact hc164  _ σ _ _  (lc147_0) (lc147_1) (lc147_2) (lc147_3) (lc147_5) (lc147_9) H (SF_refl) (SA_refl) (y49) ((ey50))  (show 0 ≤ (y49) ∧ (y49) ≤ 8 by omega)
          · refine Ew_of (pc' := 158) (fun _ => x_aload_n rfl lc147_0) ?_
            refine Ew_of (pc' := 159) (fun _ => x_iload_n rfl lc147_3) ?_
            refine Ew_of (pc' := 161) (fun _ => x_bipush (z := 8) rfl (by decide)) ?_
            refine w_inv H (o := 6) rfl rfl rfl (H.perm 6 rfl) rfl rfl (by rfl) (M389 H (y49) ((ey50)) (wq51) (ewq52) (show inr (v2) by omega) (show inr (8) by omega) (show 0 ≤ (8) ∧ (8) ≤ 31 by omega) (show 0 ≤ (y49) ∧ (y49) ≤ 90000000 by omega) (fun σ F89 A90 H hS91 hA92 y94 ey95 wq96 ewq97 pz93_0 pz93_1 => ⟨rfl, ?_⟩))
            have r98 : (0 : Int) ≤ y94 ∧ y94 ≤ 100000000 := by have h1 : (0 : Int) ≤ F89 6 35 ∧ F89 6 35 ≤ 100000000 := H.frng 6 35; rw [show F89 6 35 = y94 from (ey95)] at h1; exact h1
            exact hc164  _ σ _ _  (lc147_0) (lc147_1) (lc147_2) (lc147_3) (lc147_5) (lc147_9) H (SF_trans (SF_refl) hS91 (any_sub rfl)) (SA_trans (SA_refl) hA92 (any_subA rfl)) (y94) ((ey95))  (show 0 ≤ (y94) ∧ (y94) ≤ 8 by omega)
        refine w_iflt (t := 147) rfl rfl (show inr (z43) by omega) (fun b99 => ?_) (fun b99 => ?_)
        · exact hc147  _ σ _ _ (xc122_5) (rk_o (lc122_0) rfl rfl) (rk_o (lc122_1) rfl rfl) (rk_o (lc122_2) rfl rfl) (rk_o (lc122_3) rfl rfl) (rk_o (lc122_5) rfl rfl) (rk_o (lc122_9) rfl rfl) H (SF_refl) (SA_refl)   (show inr (xc122_5) by omega) (show ((z43) < (0) ∧ (xc122_5) = (xc122_5)) ∨ ((z43) ≥ (0) ∧ (z43) ≥ (xc122_6) ∧ (xc122_5) = (xc122_5)) ∨ ((z43) ≥ (0) ∧ (z43) < (xc122_6) ∧ (xc122_5) = (3)) by omega)
        · refine Ew_of (pc' := 139) (fun _ => x_iload rfl rk_s) ?_
          refine Ew_of (pc' := 141) (fun _ => x_iload rfl (rk_o (lc122_6) rfl rfl)) ?_
          refine w_icmpge (t := 147) rfl rfl (show inr (z43) by omega) (show inr (xc122_6) by omega) (fun b100 => ?_) (fun b100 => ?_)
          · exact hc147  _ σ _ _ (xc122_5) (rk_o (lc122_0) rfl rfl) (rk_o (lc122_1) rfl rfl) (rk_o (lc122_2) rfl rfl) (rk_o (lc122_3) rfl rfl) (rk_o (lc122_5) rfl rfl) (rk_o (lc122_9) rfl rfl) H (SF_refl) (SA_refl)   (show inr (xc122_5) by omega) (show ((z43) < (0) ∧ (xc122_5) = (xc122_5)) ∨ ((z43) ≥ (0) ∧ (z43) ≥ (xc122_6) ∧ (xc122_5) = (xc122_5)) ∨ ((z43) ≥ (0) ∧ (z43) < (xc122_6) ∧ (xc122_5) = (3)) by omega)
          · refine Ew_of (pc' := 145) (fun _ => x_iconst rfl) ?_
            refine Ew_of (pc' := 147) (fun _ => x_istore rfl) ?_
            exact hc147  _ σ _ _ (3) (rk_o (rk_o (lc122_0) rfl rfl) rfl rfl) (rk_o (rk_o (lc122_1) rfl rfl) rfl rfl) (rk_o (rk_o (lc122_2) rfl rfl) rfl rfl) (rk_o (rk_o (lc122_3) rfl rfl) rfl rfl) (rk_s) (rk_o (rk_o (lc122_9) rfl rfl) rfl rfl) H (SF_refl) (SA_refl)   (show inr (3) by omega) (show ((z43) < (0) ∧ (3) = (xc122_5)) ∨ ((z43) ≥ (0) ∧ (z43) ≥ (xc122_6) ∧ (3) = (xc122_5)) ∨ ((z43) ≥ (0) ∧ (z43) < (xc122_6) ∧ (3) = (3)) by omega)
      refine w_iflt (t := 115) rfl rfl (show inr (xc87_5) by omega) (fun b101 => ?_) (fun b101 => ?_)
      · refine Ew_of (pc' := 116) (fun _ => x_iconst rfl) ?_
        refine Ew_of (pc' := 118) (fun _ => x_istore rfl) ?_
        refine Ew_of (pc' := 120) (fun _ => x_iload rfl (rk_o (rk_s) rfl rfl)) ?_
        refine Ew_of (pc' := 122) (fun _ => x_istore rfl) ?_
        exact hc122  _ σ _ _ (2) (z33) (rk_o (rk_o (rk_o (rk_o (lc87_0) rfl rfl) rfl rfl) rfl rfl) rfl rfl) (rk_o (rk_o (rk_o (rk_o (lc87_1) rfl rfl) rfl rfl) rfl rfl) rfl rfl) (rk_o (rk_o (rk_o (rk_o (lc87_2) rfl rfl) rfl rfl) rfl rfl) rfl rfl) (rk_o (rk_o (rk_o (rk_o (lc87_3) rfl rfl) rfl rfl) rfl rfl) rfl rfl) (rk_o (rk_o (rk_o (rk_o (lc87_4) rfl rfl) rfl rfl) rfl rfl) rfl rfl) (rk_o (rk_s) rfl rfl) (rk_s) (rk_o (rk_o (rk_o (rk_s) rfl rfl) rfl rfl) rfl rfl) H (SF_refl) (SA_refl)   (show inr (2) by omega) (show inr (z33) by omega) (show ((xc87_5) < (0) ∧ (2) = (2) ∧ (z33) = (z33)) ∨ ((xc87_5) ≥ (0) ∧ (z33) ≥ (xc87_6) ∧ (2) = (xc87_5) ∧ (z33) = (xc87_6)) ∨ ((xc87_5) ≥ (0) ∧ (z33) < (xc87_6) ∧ (2) = (2) ∧ (z33) = (z33)) by omega)
      · refine Ew_of (pc' := 110) (fun _ => x_iload rfl rk_s) ?_
        refine Ew_of (pc' := 112) (fun _ => x_iload rfl (rk_o (rk_o (lc87_6) rfl rfl) rfl rfl)) ?_
        refine w_icmpge (t := 122) rfl rfl (show inr (z33) by omega) (show inr (xc87_6) by omega) (fun b102 => ?_) (fun b102 => ?_)
        · exact hc122  _ σ _ _ (xc87_5) (xc87_6) (rk_o (rk_o (lc87_0) rfl rfl) rfl rfl) (rk_o (rk_o (lc87_1) rfl rfl) rfl rfl) (rk_o (rk_o (lc87_2) rfl rfl) rfl rfl) (rk_o (rk_o (lc87_3) rfl rfl) rfl rfl) (rk_o (rk_o (lc87_4) rfl rfl) rfl rfl) (rk_o (rk_o (lc87_5) rfl rfl) rfl rfl) (rk_o (rk_o (lc87_6) rfl rfl) rfl rfl) (rk_o (rk_s) rfl rfl) H (SF_refl) (SA_refl)   (show inr (xc87_5) by omega) (show inr (xc87_6) by omega) (show ((xc87_5) < (0) ∧ (xc87_5) = (2) ∧ (xc87_6) = (z33)) ∨ ((xc87_5) ≥ (0) ∧ (z33) ≥ (xc87_6) ∧ (xc87_5) = (xc87_5) ∧ (xc87_6) = (xc87_6)) ∨ ((xc87_5) ≥ (0) ∧ (z33) < (xc87_6) ∧ (xc87_5) = (2) ∧ (xc87_6) = (z33)) by omega)
        · refine Ew_of (pc' := 116) (fun _ => x_iconst rfl) ?_
          refine Ew_of (pc' := 118) (fun _ => x_istore rfl) ?_
          refine Ew_of (pc' := 120) (fun _ => x_iload rfl (rk_o (rk_s) rfl rfl)) ?_
          refine Ew_of (pc' := 122) (fun _ => x_istore rfl) ?_
          exact hc122  _ σ _ _ (2) (z33) (rk_o (rk_o (rk_o (rk_o (lc87_0) rfl rfl) rfl rfl) rfl rfl) rfl rfl) (rk_o (rk_o (rk_o (rk_o (lc87_1) rfl rfl) rfl rfl) rfl rfl) rfl rfl) (rk_o (rk_o (rk_o (rk_o (lc87_2) rfl rfl) rfl rfl) rfl rfl) rfl rfl) (rk_o (rk_o (rk_o (rk_o (lc87_3) rfl rfl) rfl rfl) rfl rfl) rfl rfl) (rk_o (rk_o (rk_o (rk_o (lc87_4) rfl rfl) rfl rfl) rfl rfl) rfl rfl) (rk_o (rk_s) rfl rfl) (rk_s) (rk_o (rk_o (rk_o (rk_s) rfl rfl) rfl rfl) rfl rfl) H (SF_refl) (SA_refl)   (show inr (2) by omega) (show inr (z33) by omega) (show ((xc87_5) < (0) ∧ (2) = (2) ∧ (z33) = (z33)) ∨ ((xc87_5) ≥ (0) ∧ (z33) ≥ (xc87_6) ∧ (2) = (xc87_5) ∧ (z33) = (xc87_6)) ∨ ((xc87_5) ≥ (0) ∧ (z33) < (xc87_6) ∧ (2) = (2) ∧ (z33) = (z33)) by omega)
    refine w_icmpne (t := 87) rfl rfl (show inr (z7) by omega) (show inr (1) by omega) (fun b103 => ?_) (fun b103 => ?_)
    · exact hc87  _ σ _ _ (xc62_5) (xc62_6) (lc62_0) (lc62_1) (lc62_2) (lc62_3) (lc62_4) (lc62_5) (lc62_6) H (SF_refl) (SA_refl)   (show inr (xc62_5) by omega) (show inr (xc62_6) by omega) (show ((z7) ≠ (1) ∧ (xc62_5) = (xc62_5) ∧ (xc62_6) = (xc62_6)) ∨ ((z7) = (1) ∧ (xc62_5) < (0) ∧ (xc62_5) = (1) ∧ (xc62_6) = (8)) ∨ ((z7) = (1) ∧ (xc62_5) ≥ (0) ∧ (8) ≥ (xc62_6) ∧ (xc62_5) = (xc62_5) ∧ (xc62_6) = (xc62_6)) ∨ ((z7) = (1) ∧ (xc62_5) ≥ (0) ∧ (8) < (xc62_6) ∧ (xc62_5) = (1) ∧ (xc62_6) = (8)) by omega)
    · refine Ew_of (pc' := 70) (fun _ => x_iload rfl lc62_5) ?_
      refine w_iflt (t := 80) rfl rfl (show inr (xc62_5) by omega) (fun b104 => ?_) (fun b104 => ?_)
      · refine Ew_of (pc' := 81) (fun _ => x_iconst rfl) ?_
        refine Ew_of (pc' := 83) (fun _ => x_istore rfl) ?_
        refine Ew_of (pc' := 85) (fun _ => x_bipush (z := 8) rfl (by decide)) ?_
        refine Ew_of (pc' := 87) (fun _ => x_istore rfl) ?_
        exact hc87  _ σ _ _ (1) (8) (rk_o (rk_o (lc62_0) rfl rfl) rfl rfl) (rk_o (rk_o (lc62_1) rfl rfl) rfl rfl) (rk_o (rk_o (lc62_2) rfl rfl) rfl rfl) (rk_o (rk_o (lc62_3) rfl rfl) rfl rfl) (rk_o (rk_o (lc62_4) rfl rfl) rfl rfl) (rk_o (rk_s) rfl rfl) (rk_s) H (SF_refl) (SA_refl)   (show inr (1) by omega) (show inr (8) by omega) (show ((z7) ≠ (1) ∧ (1) = (xc62_5) ∧ (8) = (xc62_6)) ∨ ((z7) = (1) ∧ (xc62_5) < (0) ∧ (1) = (1) ∧ (8) = (8)) ∨ ((z7) = (1) ∧ (xc62_5) ≥ (0) ∧ (8) ≥ (xc62_6) ∧ (1) = (xc62_5) ∧ (8) = (xc62_6)) ∨ ((z7) = (1) ∧ (xc62_5) ≥ (0) ∧ (8) < (xc62_6) ∧ (1) = (1) ∧ (8) = (8)) by omega)
      · refine Ew_of (pc' := 75) (fun _ => x_bipush (z := 8) rfl (by decide)) ?_
        refine Ew_of (pc' := 77) (fun _ => x_iload rfl lc62_6) ?_
        refine w_icmpge (t := 87) rfl rfl (show inr (8) by omega) (show inr (xc62_6) by omega) (fun b105 => ?_) (fun b105 => ?_)
        · exact hc87  _ σ _ _ (xc62_5) (xc62_6) (lc62_0) (lc62_1) (lc62_2) (lc62_3) (lc62_4) (lc62_5) (lc62_6) H (SF_refl) (SA_refl)   (show inr (xc62_5) by omega) (show inr (xc62_6) by omega) (show ((z7) ≠ (1) ∧ (xc62_5) = (xc62_5) ∧ (xc62_6) = (xc62_6)) ∨ ((z7) = (1) ∧ (xc62_5) < (0) ∧ (xc62_5) = (1) ∧ (xc62_6) = (8)) ∨ ((z7) = (1) ∧ (xc62_5) ≥ (0) ∧ (8) ≥ (xc62_6) ∧ (xc62_5) = (xc62_5) ∧ (xc62_6) = (xc62_6)) ∨ ((z7) = (1) ∧ (xc62_5) ≥ (0) ∧ (8) < (xc62_6) ∧ (xc62_5) = (1) ∧ (xc62_6) = (8)) by omega)
        · refine Ew_of (pc' := 81) (fun _ => x_iconst rfl) ?_
          refine Ew_of (pc' := 83) (fun _ => x_istore rfl) ?_
          refine Ew_of (pc' := 85) (fun _ => x_bipush (z := 8) rfl (by decide)) ?_
          refine Ew_of (pc' := 87) (fun _ => x_istore rfl) ?_
          exact hc87  _ σ _ _ (1) (8) (rk_o (rk_o (lc62_0) rfl rfl) rfl rfl) (rk_o (rk_o (lc62_1) rfl rfl) rfl rfl) (rk_o (rk_o (lc62_2) rfl rfl) rfl rfl) (rk_o (rk_o (lc62_3) rfl rfl) rfl rfl) (rk_o (rk_o (lc62_4) rfl rfl) rfl rfl) (rk_o (rk_s) rfl rfl) (rk_s) H (SF_refl) (SA_refl)   (show inr (1) by omega) (show inr (8) by omega) (show ((z7) ≠ (1) ∧ (1) = (xc62_5) ∧ (8) = (xc62_6)) ∨ ((z7) = (1) ∧ (xc62_5) < (0) ∧ (1) = (1) ∧ (8) = (8)) ∨ ((z7) = (1) ∧ (xc62_5) ≥ (0) ∧ (8) ≥ (xc62_6) ∧ (1) = (xc62_5) ∧ (8) = (xc62_6)) ∨ ((z7) = (1) ∧ (xc62_5) ≥ (0) ∧ (8) < (xc62_6) ∧ (1) = (1) ∧ (8) = (8)) by omega)
  refine w_iflt (t := 62) rfl rfl (show inr (z21) by omega) (fun b106 => ?_) (fun b106 => ?_)
  · exact hc62  _ σ _ _ ((-1)) (0) (rk_o (rk_o (rk_o (rk_o (rk_o (rk_o (rk_o (rfl) rfl rfl) rfl rfl) rfl rfl) rfl rfl) rfl rfl) rfl rfl) rfl rfl) (rk_o (rk_o (rk_o (rk_o (rk_o (rk_o (rk_o (rfl) rfl rfl) rfl rfl) rfl rfl) rfl rfl) rfl rfl) rfl rfl) rfl rfl) (rk_o (rk_o (rk_o (rk_o (rk_o (rk_o (rk_s) rfl rfl) rfl rfl) rfl rfl) rfl rfl) rfl rfl) rfl rfl) (rk_o (rk_o (rk_o (rk_o (rk_o (rk_s) rfl rfl) rfl rfl) rfl rfl) rfl rfl) rfl rfl) (rk_o (rk_o (rk_o (rk_o (rk_s) rfl rfl) rfl rfl) rfl rfl) rfl rfl) (rk_o (rk_o (rk_o (rk_s) rfl rfl) rfl rfl) rfl rfl) (rk_o (rk_o (rk_s) rfl rfl) rfl rfl) H (SF_refl) (SA_refl)   (show inr ((-1)) by omega) (show inr (0) by omega) (show ((z21) < (0) ∧ ((-1)) = ((-1)) ∧ (0) = (0)) ∨ ((z21) ≥ (0) ∧ ((-1)) = (0) ∧ (0) = (z21)) by omega)
  · refine Ew_of (pc' := 56) (fun _ => x_iconst rfl) ?_
    refine Ew_of (pc' := 58) (fun _ => x_istore rfl) ?_
    refine Ew_of (pc' := 60) (fun _ => x_iload rfl (rk_o (rk_s) rfl rfl)) ?_
    refine Ew_of (pc' := 62) (fun _ => x_istore rfl) ?_
    exact hc62  _ σ _ _ (0) (z21) (rk_o (rk_o (rk_o (rk_o (rk_o (rk_o (rk_o (rk_o (rk_o (rfl) rfl rfl) rfl rfl) rfl rfl) rfl rfl) rfl rfl) rfl rfl) rfl rfl) rfl rfl) rfl rfl) (rk_o (rk_o (rk_o (rk_o (rk_o (rk_o (rk_o (rk_o (rk_o (rfl) rfl rfl) rfl rfl) rfl rfl) rfl rfl) rfl rfl) rfl rfl) rfl rfl) rfl rfl) rfl rfl) (rk_o (rk_o (rk_o (rk_o (rk_o (rk_o (rk_o (rk_o (rk_s) rfl rfl) rfl rfl) rfl rfl) rfl rfl) rfl rfl) rfl rfl) rfl rfl) rfl rfl) (rk_o (rk_o (rk_o (rk_o (rk_o (rk_o (rk_o (rk_s) rfl rfl) rfl rfl) rfl rfl) rfl rfl) rfl rfl) rfl rfl) rfl rfl) (rk_o (rk_o (rk_o (rk_o (rk_o (rk_o (rk_s) rfl rfl) rfl rfl) rfl rfl) rfl rfl) rfl rfl) rfl rfl) (rk_o (rk_s) rfl rfl) (rk_s) H (SF_refl) (SA_refl)   (show inr (0) by omega) (show inr (z21) by omega) (show ((z21) < (0) ∧ (0) = ((-1)) ∧ (z21) = (0)) ∨ ((z21) ≥ (0) ∧ (0) = (0) ∧ (z21) = (z21)) by omega)
