section
/-! 69.ref -/
theorem M412_75 {σ0 σ : rS} {D N : Nat → Nat} {F : hF} {A : hA} {d c s : Nat} {Q : wQ} (H : HS σ0 σ D N F A) {a2 a3 : Int} (u6_35 : Int) (eu6_35 : F 6 35 = u6_35) (w69 : Int → Int) (ew69 : A 69 = w69) (w75 : Int → Int) (ew75 : A 75 = w75) (lst : Int) (h0 : inr (a2)) (h1 : inr (a3)) (h2 : SH ((w75)) (a2) 64 (a3) lst) (h3 : 0 ≤ (a2) ∧ (a2) + 64 ≤ 64) (h4 : 0 ≤ (u6_35) ∧ (u6_35) ≤ 1000000) (h5 : 0 ≤ lst) (k : ∀ σ Fₚ Aₚ, HS σ0 σ D N Fₚ Aₚ → SF [(6, 35)] F Fₚ → SA [69] A Aₚ → ∀ y6_35 : Int, Fₚ 6 35 = y6_35 → ∀ v69 : Int → Int, Aₚ 69 = v69 → ((u6_35) ≤ (y6_35) ∧ (y6_35) ≤ (u6_35) + 11 + 12 * (lst + 1)) → (IMP ((u6_35) + 800 ≤ 192000) (MDW ((w69)) ((u6_35)) ((v69)) ((y6_35)) (STB (cutP 64 (sh ((w75)) ((a2)))) ((a3))))) → ((y6_35) % 8 = 0) → Q none σ c s) : Ew 412 (d + 1) 0 (rargs 0 [.ref (D 6), .ref (D 75), I a2, I a3]) [] σ c s Q := by
  have r1 : (0 : Int) ≤ u6_35 ∧ u6_35 ≤ 100000000 := rngE (show (0 : Int) ≤ F 6 35 ∧ F 6 35 ≤ 100000000 from H.frng 6 35) (show F 6 35 = u6_35 from (eu6_35))
  have hsh : SH ((w75)) (a2) 64 (a3) lst := h2
  have h59 : 5 ≤ (a3) ∧ (a3) ≤ 9 := ⟨hsh.1, hsh.2.1⟩
  have hp5 := p2_5 h59
  have hmt := mp_SH hsh
  have hm0_ : mp (sh ((w75)) ((a2))) 0 = 0 := rfl
  refine Ew_of (pcₚ := 1) (fun _ => x_aload_n rfl rfl) ?_
  refine Ew_of (pcₚ := 2) (fun _ => x_iload_n rfl rfl) ?_
  refine Ew_of (pcₚ := 3) (fun _ => x_iconst rfl) ?_
  refine w_isub rfl ?_
  refine Ew_of (pcₚ := 5) (fun _ => x_iconst rfl) ?_
  refine w_inv H (o := 6) rfl rfl rfl (H.perm 6 rfl) rfl rfl (by rfl) (M389 H (u6_35) ((eu6_35)) (w69) (ew69) (show inr ((a3 - 5)) from q_2450 h59) (show inr (4) from q_216) (show 0 ≤ (4) ∧ (4) ≤ 31 from q_2449) (show 0 ≤ (u6_35) ∧ (u6_35) ≤ 90000000 from q_2448 h4 r1) (fun σ F2 A3 H hS4 hA5 y7 ey8 wq9 ewq10 pz6_0 pz6_1 => ⟨rfl, ?_⟩))
  have r11 : (0 : Int) ≤ y7 ∧ y7 ≤ 100000000 := rngE (show (0 : Int) ≤ F2 6 35 ∧ F2 6 35 ≤ 100000000 from H.frng 6 35) (show F2 6 35 = y7 from (ey8))
  refine Ew_of (pcₚ := 9) (fun _ => x_iconst rfl) ?_
  refine Ew_of (pcₚ := 10) (fun _ => x_iload_n rfl rfl) ?_
  refine w_ishl1 rfl (show 0 ≤ a3 ∧ a3 ≤ 31 from q_1303 h59) ?_
  refine Ew_of (pcₚ := 13) (fun _ => x_istore rfl) ?_
  refine Ew_of (pcₚ := 14) (fun _ => x_iconst rfl) ?_
  refine Ew_of (pcₚ := 16) (fun _ => x_istore rfl) ?_
  have : ∃ B, SBO (cutP 64 (sh ((w75)) ((a2)))) ((a3)) 0 (p2 ((a3))) B ∧ IMP ((u6_35) + 800 ≤ 192000) (MDA ((w69)) ((u6_35)) ((wq9)) ((y7)) (B)) := ⟨_, SBO_0, fun q => pz6_1 (by omega)⟩
  suffices hl16 : ∀ (m : Nat), ∀ (ls : rO) (σ : rS) (F_16 : hF) (A_16 : hA) (x16_4 : Int) (x16_5 : Int), rlook ls 0 = some (.ref (D 6)) → rlook ls 1 = some (.ref (D 75)) → rlook ls 2 = some (I (a2)) → rlook ls 4 = some (I (x16_4)) → rlook ls 5 = some (I (x16_5)) → HS σ0 σ D N F_16 A_16 → SF [(6, 35)] F2 F_16 → SA [69] A3 A_16 → ∀ y16_6_35 : Int, F_16 6 35 = y16_6_35 → ∀ w16_69 : Int → Int, A_16 69 = w16_69 → (inr (x16_4)) → (inr (x16_5)) → (0 ≤ (x16_5) ∧ (x16_5) ≤ 64) → ((x16_5) ≤ lst + 1) → ((x16_4) = p2 ((a3)) - mp (sh ((w75)) ((a2))) ((x16_5))) → (0 ≤ (x16_4) ∧ (x16_4) ≤ 512) → ((u6_35) ≤ (y16_6_35) ∧ (y16_6_35) ≤ (u6_35) + 4 + 12 * (x16_5)) → (∃ B, SBO (cutP 64 (sh ((w75)) ((a2)))) ((a3)) ((x16_5)) ((x16_4)) B ∧ IMP ((u6_35) + 800 ≤ 192000) (MDA ((w69)) ((u6_35)) ((w16_69)) ((y16_6_35)) (B))) → (64 - (x16_5)).toNat = m → Ew 412 (d + 1) 16 ls [] σ c s Q from
    hl16 _ _ σ _ _ (p2 (a3)) (0) (rk_o (rk_o (rfl) rfl rfl) rfl rfl) (rk_o (rk_o (rfl) rfl rfl) rfl rfl) (rk_o (rk_o (rfl) rfl rfl) rfl rfl) (rk_o (rk_s) rfl rfl) (rk_s) H (SF_refl) (SA_refl) (y7) ((ey8)) (wq9) (ewq10) (show inr (p2 (a3)) by omega) (show inr (0) from q_2) (show 0 ≤ (0) ∧ (0) ≤ 64 from q_2452) (show (0) ≤ lst + 1 from q_14 h5) (show (p2 (a3)) = p2 ((a3)) - mp (sh ((w75)) ((a2))) ((0)) from q_1304 hm0_) (show 0 ≤ (p2 (a3)) ∧ (p2 (a3)) ≤ 512 by omega) (show (u6_35) ≤ (y7) ∧ (y7) ≤ (u6_35) + 4 + 12 * (0) from q_2451 pz6_0) (show ∃ B, SBO (cutP 64 (sh ((w75)) ((a2)))) ((a3)) ((0)) ((p2 (a3))) B ∧ IMP ((u6_35) + 800 ≤ 192000) (MDA ((w69)) ((u6_35)) ((wq9)) ((y7)) (B)) by assumption) rfl
  as_aux_lemma =>
  intro m
  induction m using Nat.strongRecOn with
  | _ m ih16 =>
    intro ls σ F_16 A_16 x16_4 x16_5 l16_0 l16_1 l16_2 l16_4 l16_5 H hS_16 hA_16 y16_6_35 ey16_6_35 w16_69 ew16_69 j16_0 j16_1 j16_2 j16_3 j16_4 j16_5 j16_6 j16_7 hm16
    have r13 : (0 : Int) ≤ y16_6_35 ∧ y16_6_35 ≤ 100000000 := rngE (show (0 : Int) ≤ F_16 6 35 ∧ F_16 6 35 ≤ 100000000 from H.frng 6 35) (show F_16 6 35 = y16_6_35 from (ey16_6_35))
    have j16_q : ∃ B, SBO (cutP 64 (sh ((w75)) ((a2)))) ((a3)) ((x16_5)) ((x16_4)) B ∧ IMP ((u6_35) + 800 ≤ 192000) (MDA ((w69)) ((u6_35)) ((w16_69)) ((y16_6_35)) (B)) := by assumption
    obtain ⟨B_, hST, hMD⟩ := j16_q
    refine Ew_of (pcₚ := 18) (fun _ => x_iload rfl l16_4) ?_
    refine w_ifle (t := 181) rfl rfl (show inr (x16_4) from j16_0) (fun b14 => ?_) (fun b14 => ?_)
    · refine Ew_of (pcₚ := 182) (fun _ => x_aload_n rfl l16_0) ?_
      have hB9 := SBO_e hST (by omega)
      refine w_inv H (o := 6) rfl rfl rfl (H.perm 6 rfl) rfl rfl (by rfl) (M390 H (y16_6_35) ((ey16_6_35)) (w16_69) (ew16_69) (show 0 ≤ (y16_6_35) ∧ (y16_6_35) ≤ 99000000 from q_2453 h4 j16_2 j16_6 r13) (fun σ F15 A16 H hS17 hA18 y20 ey21 pz19_0 pz19_1 pz19_2 => ⟨rfl, ?_⟩))
      have r22 : (0 : Int) ≤ y20 ∧ y20 ≤ 100000000 := rngE (show (0 : Int) ≤ F15 6 35 ∧ F15 6 35 ≤ 100000000 from H.frng 6 35) (show F15 6 35 = y20 from (ey21))
      have : IMP ((u6_35) + 800 ≤ 192000) (MDW ((w69)) ((u6_35)) ((w16_69)) ((y20)) (STB (cutP 64 (sh ((w75)) ((a2)))) ((a3)))) := fun q => MDW_of (by have h := hMD q; rw [hB9] at h; exact h) pz19_1
      exact w_ret rfl (k σ _ _ H (SF_trans (SF_trans (SF_trans (SF_refl) hS4 (any_sub rfl)) hS_16 (any_sub rfl)) hS17 (any_sub rfl)) (SA_trans (SA_trans (SA_trans (SA_refl) hA5 (any_subA rfl)) hA_16 (any_subA rfl)) hA18 (any_subA rfl)) (y20) ((ey21)) (w16_69) ((funext (hA18 69 rfl)).trans (ew16_69)) (show (u6_35) ≤ (y20) ∧ (y20) ≤ (u6_35) + 11 + 12 * (lst + 1) from q_2454 j16_3 j16_6 pz19_0) (show IMP ((u6_35) + 800 ≤ 192000) (MDW ((w69)) ((u6_35)) ((w16_69)) ((y20)) (STB (cutP 64 (sh ((w75)) (a2))) (a3))) by assumption) (show (y20) % 8 = 0 from pz19_2))
    · have hl64 : (x16_5) < 64 := by by_cases q : (x16_5) < 64; exact q; exact absurd (show mp (sh ((w75)) ((a2))) ((x16_5)) = mp (sh ((w75)) ((a2))) 64 by rw [show (x16_5) = 64 by omega]) (by omega)
      have hll : (x16_5) ≤ lst := by obtain ⟨k, k0, k1, k2⟩ := nz_ex (P := sh ((w75)) ((a2))) (s := (x16_5)) (by omega) (by omega) (by omega); have := (SH_le ((x16_5) + k) hsh (by omega) (by omega)).2.2.2 k2; omega
      have hle := SH_le ((x16_5)) hsh (by omega) (by omega)
      have hms := mp_s (P := sh ((w75)) ((a2))) (s := (x16_5)) (by omega)
      have hmx := mp_le (P := sh ((w75)) ((a2))) (s := (x16_5) + 1) (t := 64) (by omega) (by omega)
      have hpe : (sh ((w75)) ((a2))) ((x16_5)) = ((w75)) ((a2) + (x16_5)) := rfl
      have hme := mass_eq ((sh ((w75)) ((a2))) ((x16_5)))
      refine Ew_of (pcₚ := 22) (fun _ => x_aload_n rfl l16_1) ?_
      refine Ew_of (pcₚ := 23) (fun _ => x_iload_n rfl l16_2) ?_
      refine Ew_of (pcₚ := 25) (fun _ => x_iload rfl l16_5) ?_
      refine w_iadd rfl ?_
      refine w_lI H (o := 75) (n := 64) rfl (H.perm 75 rfl) rfl rfl (H.fix 75 rfl rfl) (show 0 ≤ (a2 + x16_5) ∧ (a2 + x16_5) < ((64 : Nat) : Int) from q_2455 h3 hl64 j16_2) (by decide) (fun v23 ev23 qv23 => ?_)
      have qv23 : (-2147483648 : Int) ≤ v23 ∧ v23 ≤ 2147483647 := qv23
      have ev23 : (w75) ((a2 + x16_5)) = v23 := (congrFun ((funext (hA_16 75 rfl)).trans ((funext (hA5 75 rfl)).trans (ew75))) ((a2 + x16_5))).symm.trans ev23
      refine Ew_of (pcₚ := 28) (fun _ => x_iconst rfl) ?_
      refine w_iadd rfl ?_
      refine Ew_of (pcₚ := 31) (fun _ => x_istore rfl) ?_
      refine Ew_of (pcₚ := 33) (fun _ => x_iload rfl (rk_o (l16_4) rfl rfl)) ?_
      refine Ew_of (pcₚ := 34) (fun _ => x_iconst rfl) ?_
      refine w_iadd rfl ?_
      refine w_stat24 rfl rfl (by rfl) (M400 H (show inr ((x16_4 + 1)) from q_273 b14 j16_5) (show 1 ≤ ((x16_4 + 1)) from q_2456 b14) (fun z28 σ F24 A25 H hS26 hA27 pz28_0 pz28_1 pz28_2 => ⟨rfl, ?_⟩))
      refine Ew_of (pcₚ := 40) (fun _ => x_istore rfl) ?_
      have hk9 : (z28) < 10 := p2_lt (by omega) (by rw [show p2 10 = 1024 from by decide]; omega)
      have hkp := p2_pos ((z28))
      refine Ew_of (pcₚ := 41) (fun _ => x_iconst rfl) ?_
      refine Ew_of (pcₚ := 43) (fun _ => x_iload rfl rk_s) ?_
      refine w_ishl1 rfl (show 0 ≤ z28 ∧ z28 ≤ 31 from q_2457 hk9 pz28_1) ?_
      refine Ew_of (pcₚ := 46) (fun _ => x_istore rfl) ?_
      refine Ew_of (pcₚ := 47) (fun _ => x_iconst rfl) ?_
      refine Ew_of (pcₚ := 49) (fun _ => x_iload rfl rk_s) ?_
      refine w_imul rfl ?_
      refine Ew_of (pcₚ := 51) (fun _ => x_iconst rfl) ?_
      refine w_isub rfl ?_
      refine Ew_of (pcₚ := 54) (fun _ => x_iload rfl (rk_o (rk_o (rk_o (l16_4) rfl rfl) rfl rfl) rfl rfl)) ?_
      refine w_isub rfl ?_
      refine Ew_of (pcₚ := 57) (fun _ => x_istore rfl) ?_
      have hcP : (cutP 64 (sh ((w75)) ((a2)))) ((x16_5)) = ((v23 + 1)) - 1 := by rw [cutP_in (by omega)]; omega
      obtain ⟨q5, hq5⟩ : ∃ q : Int, q = (x16_5) := ⟨_, rfl⟩
      obtain ⟨q4, hq4⟩ : ∃ q : Int, q = (x16_4) := ⟨_, rfl⟩
      obtain ⟨q6, hq6_⟩ : ∃ q : Int, q = ((v23 + 1)) := ⟨_, rfl⟩
      rw [← hq5, ← hq4] at hST
      rw [← hq5] at hcP
      refine Ew_of (pcₚ := 58) (fun _ => x_aload_n rfl (rk_o (rk_o (rk_o (rk_o (l16_0) rfl rfl) rfl rfl) rfl rfl) rfl rfl)) ?_
      refine Ew_of (pcₚ := 60) (fun _ => x_iload rfl (rk_o (rk_o (rk_o (rk_s) rfl rfl) rfl rfl) rfl rfl)) ?_
      refine Ew_of (pcₚ := 62) (fun _ => x_iload rfl rk_s) ?_
      refine w_icmplt (t := 72) rfl rfl (show inr ((v23 + 1)) by omega) (show inr ((((2 * p2 (z28)) - 2) - x16_4)) from q_2458 j16_5 pz28_2) (fun b30 => ?_) (fun b30 => ?_)
      · refine Ew_of (pcₚ := 74) (fun _ => x_iload rfl (rk_o (rk_o (rk_o (rk_s) rfl rfl) rfl rfl) rfl rfl)) ?_
        refine Ew_of (pcₚ := 82) (fun _ => x_goto rfl rfl) ?_
        refine Ew_of (pcₚ := 84) (fun _ => x_iload rfl (rk_o (rk_o (rk_o (rk_s) rfl rfl) rfl rfl) rfl rfl)) ?_
        refine Ew_of (pcₚ := 86) (fun _ => x_iload rfl rk_s) ?_
        refine w_icmpge (t := 94) rfl rfl (show inr ((v23 + 1)) from q_2459 b30 j16_5 pz28_2 qv23) (show inr ((((2 * p2 (z28)) - 2) - x16_4)) from q_2458 j16_5 pz28_2) (fun b31 => ?_) (fun b31 => ?_)
        · refine Ew_of (pcₚ := 96) (fun _ => x_iload rfl (rk_o (rk_o (rk_s) rfl rfl) rfl rfl)) ?_
          refine Ew_of (pcₚ := 97) (fun _ => x_iconst rfl) ?_
          refine w_iadd rfl ?_
          have hbu : btw (((v23 + 1))) (((z28 + 1))) = stU (cutP 64 (sh ((w75)) ((a2)))) q5 q4 := stU_is (k := (z28)) (by omega) (by omega) (by omega) (by omega : ((((2 * p2 (z28)) - 2) - x16_4)) = _) (by omega : ((v23 + 1)) = _) (by omega) (by omega)
          refine w_inv H (o := 6) rfl rfl rfl (H.perm 6 rfl) rfl rfl (by rfl) (M389 H (y16_6_35) (((hS26 6 35 rfl).trans (ey16_6_35))) (w16_69) ((funext (hA27 69 rfl)).trans (ew16_69)) (show inr ((v23 + 1)) from q_2463 b30 b31 qv23) (show inr ((z28 + 1)) from q_2462 hk9 pz28_1) (show 0 ≤ ((z28 + 1)) ∧ ((z28 + 1)) ≤ 31 from q_2461 hk9 pz28_1) (show 0 ≤ (y16_6_35) ∧ (y16_6_35) ≤ 90000000 from q_2460 h4 hl64 j16_6 r13) (fun σ F32 A33 H hS34 hA35 y37 ey38 wq39 ewq40 pz36_0 pz36_1 => ⟨rfl, ?_⟩))
          have r41 : (0 : Int) ≤ y37 ∧ y37 ≤ 100000000 := rngE (show (0 : Int) ≤ F32 6 35 ∧ F32 6 35 ≤ 100000000 from H.frng 6 35) (show F32 6 35 = y37 from (ey38))
          obtain ⟨B1, hB1⟩ : ∃ B : List Int, B = B_ ++ stU (cutP 64 (sh ((w75)) ((a2)))) q5 q4 := ⟨_, rfl⟩
          have hM1 : IMP ((u6_35) + 800 ≤ 192000) (MDA ((w69)) ((u6_35)) ((wq39)) ((y37)) (B1)) := fun q => by rw [hB1]; exact MDA_t (hMD q) (by have h := pz36_1 (by omega); rw [hbu] at h; exact h)
          refine Ew_of (pcₚ := 103) (fun _ => x_iload rfl (rk_o (rk_o (rk_o (rk_o (l16_4) rfl rfl) rfl rfl) rfl rfl) rfl rfl)) ?_
          refine Ew_of (pcₚ := 105) (fun _ => x_iload rfl (rk_o (rk_o (rk_o (rk_s) rfl rfl) rfl rfl) rfl rfl)) ?_
          refine Ew_of (pcₚ := 106) (fun _ => x_iconst rfl) ?_
          refine w_isub rfl ?_
          refine w_stat24 rfl rfl (by rfl) (M406 H (show inr (((v23 + 1) - 1)) from q_2465 qv23) (show -1 ≤ (((v23 + 1) - 1)) from q_2464 b30 b31 qv23) (fun z46 σ F42 A43 H hS44 hA45 pz46_0 pz46_1 => ⟨rfl, ?_⟩))
          have hmv : (z46) = mass ((sh ((w75)) ((a2))) ((x16_5))) := by rw [pz46_1]; congr 1; omega
          refine w_isub rfl ?_
          refine Ew_of (pcₚ := 113) (fun _ => x_istore rfl) ?_
          refine Ew_of (pcₚ := 116) (fun _ => x_iinc (len := 3) rfl (rk_o (rk_o (rk_o (rk_o (rk_o (l16_5) rfl rfl) rfl rfl) rfl rfl) rfl rfl) rfl rfl)) ?_
          refine Ew_of (pcₚ := 118) (fun _ => x_iload rfl (rk_o (rk_o (rk_o (rk_o (rk_o (rk_s) rfl rfl) rfl rfl) rfl rfl) rfl rfl) rfl rfl)) ?_
          refine Ew_of (pcₚ := 119) (fun _ => x_iconst rfl) ?_
          refine w_icmpeq (t := 125) rfl rfl (show inr ((v23 + 1)) from q_2463 b30 b31 qv23) (show inr (1) from q_135) (fun b47 => ?_) (fun b47 => ?_)
          · refine Ew_of (pcₚ := 126) (fun _ => x_iconst rfl) ?_
            refine Ew_of (pcₚ := 128) (fun _ => x_istore rfl) ?_
            obtain ⟨m0, hm0⟩ := FP_ex (nz_ex (P := sh ((w75)) ((a2))) (s := ((x16_5 + 1))) (by omega) (by omega) (by omega))
            have : ∀ j, ((x16_5 + 1)) ≤ j → j < ((x16_5 + 1)) + 0 → (sh ((w75)) ((a2))) j = 0 := fun j a b => absurd b (by omega)
            suffices hl128 : ∀ (mx : Nat), ∀ (ls : rO) (σ : rS) (F_128 : hF) (A_128 : hA) (x128_10 : Int), rlook ls 0 = some (.ref (D 6)) → rlook ls 1 = some (.ref (D 75)) → rlook ls 2 = some (I (a2)) → rlook ls 4 = some (I ((x16_4 - z46))) → rlook ls 5 = some (I ((x16_5 + 1))) → rlook ls 10 = some (I (x128_10)) → HS σ0 σ D N F_128 A_128 → SF [] F42 F_128 → SA [] A43 A_128 → (inr (x128_10)) → (0 ≤ (x128_10)) → (∀ j, ((x16_5 + 1)) ≤ j → j < ((x16_5 + 1)) + (x128_10) → (sh ((w75)) ((a2))) j = 0) → (FP (fun k => (sh ((w75)) ((a2))) (((x16_5 + 1)) + k) ≠ 0) (64 - ((x16_5 + 1))) ((x128_10)) mx) → Ew 412 (d + 1) 128 ls [] σ c s Q from
              hl128 (m0) _ σ _ _ (0) (rk_o (rk_o (rk_o (rk_o (rk_o (rk_o (rk_o (l16_0) rfl rfl) rfl rfl) rfl rfl) rfl rfl) rfl rfl) rfl rfl) rfl rfl) (rk_o (rk_o (rk_o (rk_o (rk_o (rk_o (rk_o (l16_1) rfl rfl) rfl rfl) rfl rfl) rfl rfl) rfl rfl) rfl rfl) rfl rfl) (rk_o (rk_o (rk_o (rk_o (rk_o (rk_o (rk_o (l16_2) rfl rfl) rfl rfl) rfl rfl) rfl rfl) rfl rfl) rfl rfl) rfl rfl) (rk_o (rk_o (rk_s) rfl rfl) rfl rfl) (rk_o (rk_s) rfl rfl) (rk_s) H (SF_refl) (SA_refl)   (show inr (0) from q_2) (show 0 ≤ (0) from q_1) (show ∀ j, ((x16_5 + 1)) ≤ j → j < ((x16_5 + 1)) + (0) → (sh ((w75)) ((a2))) j = 0 by assumption) (by assumption)
            as_aux_lemma =>
            intro mx
            induction mx using Nat.strongRecOn with
            | _ mx ih128 =>
              intro ls σ F_128 A_128 x128_10 l128_0 l128_1 l128_2 l128_4 l128_5 l128_10 H hS_128 hA_128   j128_0 j128_1 j128_2 hm128
              have hfl := FP_lt hm128
              have hpz : (sh ((w75)) ((a2))) (((x16_5 + 1)) + (x128_10)) = ((w75)) ((a2) + ((x16_5 + 1)) + (x128_10)) := by show ((w75)) ((a2) + (((x16_5 + 1)) + (x128_10))) = _; congr 1; omega
              have j128_z : ∀ j, ((x16_5 + 1)) ≤ j → j < ((x16_5 + 1)) + (x128_10) → (sh ((w75)) ((a2))) j = 0 := by assumption
              refine Ew_of (pcₚ := 129) (fun _ => x_aload_n rfl l128_1) ?_
              refine Ew_of (pcₚ := 130) (fun _ => x_iload_n rfl l128_2) ?_
              refine Ew_of (pcₚ := 132) (fun _ => x_iload rfl l128_5) ?_
              refine w_iadd rfl ?_
              refine Ew_of (pcₚ := 135) (fun _ => x_iload rfl l128_10) ?_
              refine w_iadd rfl ?_
              refine w_lI H (o := 75) (n := 64) rfl (H.perm 75 rfl) rfl rfl (H.fix 75 rfl rfl) (show 0 ≤ ((a2 + (x16_5 + 1)) + x128_10) ∧ ((a2 + (x16_5 + 1)) + x128_10) < ((64 : Nat) : Int) by omega) (by decide) (fun v48 ev48 qv48 => ?_)
              have qv48 : (-2147483648 : Int) ≤ v48 ∧ v48 ≤ 2147483647 := qv48
              have ev48 : (w75) (((a2 + (x16_5 + 1)) + x128_10)) = v48 := (congrFun ((funext (hA_128 75 rfl)).trans ((funext (hA45 75 rfl)).trans ((funext (hA35 75 rfl)).trans ((funext (hA27 75 rfl)).trans ((funext (hA_16 75 rfl)).trans ((funext (hA5 75 rfl)).trans (ew75))))))) (((a2 + (x16_5 + 1)) + x128_10))).symm.trans ev48
              refine w_ifne (t := 146) rfl rfl (show inr (v48) from q_18 qv48) (fun b49 => ?_) (fun b49 => ?_)
              · have hlz := (SH_le (((x16_5 + 1)) + (x128_10)) hsh (by omega) (by omega)).2.2.2 (by show (sh ((w75)) ((a2))) (((x16_5 + 1)) + (x128_10)) ≠ 0; omega)
                have hmz := mp_zeroI (P := sh ((w75)) ((a2))) (s := ((x16_5 + 1))) (z := (x128_10)) (t := ((x16_5 + 1)) + (x128_10)) (by omega) (by omega) (by assumption) rfl
                obtain ⟨q10, hq10⟩ : ∃ q : Int, q = (x128_10) := ⟨_, rfl⟩
                have hzr : q10 = zrN (cutP 64 (sh ((w75)) ((a2)))) (q5 + 1) 64 := by rw [hq10]; exact (zrN_is (n := 64) (by omega) (by omega) (fun j a b => by rw [cutP_in (by omega)]; exact j128_z j (by omega) (by omega)) (by rw [cutP_in (by omega), show q5 + 1 + (x128_10) = ((x16_5 + 1)) + (x128_10) by omega]; omega)).symm
                refine Ew_of (pcₚ := 148) (fun _ => x_iload rfl l128_5) ?_
                refine Ew_of (pcₚ := 150) (fun _ => x_iload rfl l128_10) ?_
                refine w_iadd rfl ?_
                refine Ew_of (pcₚ := 153) (fun _ => x_istore rfl) ?_
                have : ∃ B, zbt q10 = B ++ zbt ((x128_10)) ∧ IMP ((u6_35) + 800 ≤ 192000) (MDA ((w69)) ((u6_35)) ((wq39)) ((y37)) (B1 ++ B)) := ⟨[], by rw [hq10]; rfl, fun q => by rw [List.append_nil]; exact hM1 q⟩
                suffices hl153 : ∀ (m : Nat), ∀ (ls : rO) (σ : rS) (F_153 : hF) (A_153 : hA) (x153_10 : Int), rlook ls 0 = some (.ref (D 6)) → rlook ls 1 = some (.ref (D 75)) → rlook ls 2 = some (I (a2)) → rlook ls 4 = some (I ((x16_4 - z46))) → rlook ls 5 = some (I (((x16_5 + 1) + x128_10))) → rlook ls 10 = some (I (x153_10)) → HS σ0 σ D N F_153 A_153 → SF [(6, 35)] F_128 F_153 → SA [69] A_128 A_153 → ∀ y153_6_35 : Int, F_153 6 35 = y153_6_35 → ∀ w153_69 : Int → Int, A_153 69 = w153_69 → (inr (x153_10)) → (0 ≤ (x153_10) ∧ (x153_10) ≤ (x128_10)) → ((y37) ≤ (y153_6_35) ∧ (y153_6_35) ≤ (y37) + ((x128_10) - (x153_10))) → (∃ B, zbt q10 = B ++ zbt ((x153_10)) ∧ IMP ((u6_35) + 800 ≤ 192000) (MDA ((w69)) ((u6_35)) ((w153_69)) ((y153_6_35)) (B1 ++ B))) → ((x153_10)).toNat = m → Ew 412 (d + 1) 153 ls [] σ c s Q from
                  hl153 _ _ σ _ _ (x128_10) (rk_o (l128_0) rfl rfl) (rk_o (l128_1) rfl rfl) (rk_o (l128_2) rfl rfl) (rk_o (l128_4) rfl rfl) (rk_s) (rk_o (l128_10) rfl rfl) H (SF_refl) (SA_refl) (y37) ((((hS_128 6 35 rfl).trans (hS44 6 35 rfl)).trans (ey38))) (wq39) ((funext (hA_128 69 rfl)).trans ((funext (hA45 69 rfl)).trans (ewq40))) (show inr (x128_10) by omega) (show 0 ≤ (x128_10) ∧ (x128_10) ≤ (x128_10) by omega) (show (y37) ≤ (y37) ∧ (y37) ≤ (y37) + ((x128_10) - (x128_10)) from q_2466) (show ∃ B, zbt q10 = B ++ zbt ((x128_10)) ∧ IMP ((u6_35) + 800 ≤ 192000) (MDA ((w69)) ((u6_35)) ((wq39)) ((y37)) (B1 ++ B)) by assumption) rfl
                as_aux_lemma =>
                intro m
                induction m using Nat.strongRecOn with
                | _ m ih153 =>
                  intro ls σ F_153 A_153 x153_10 l153_0 l153_1 l153_2 l153_4 l153_5 l153_10 H hS_153 hA_153 y153_6_35 ey153_6_35 w153_69 ew153_69 j153_0 j153_1 j153_2 j153_3 hm153
                  have r50 : (0 : Int) ≤ y153_6_35 ∧ y153_6_35 ≤ 100000000 := rngE (show (0 : Int) ≤ F_153 6 35 ∧ F_153 6 35 ≤ 100000000 from H.frng 6 35) (show F_153 6 35 = y153_6_35 from (ey153_6_35))
                  have j153_q : ∃ B, zbt q10 = B ++ zbt ((x153_10)) ∧ IMP ((u6_35) + 800 ≤ 192000) (MDA ((w69)) ((u6_35)) ((w153_69)) ((y153_6_35)) (B1 ++ B)) := by assumption
                  obtain ⟨Bz, hBz, hMz⟩ := j153_q
                  obtain ⟨qz10, hqz10⟩ : ∃ q : Int, q = (x153_10) := ⟨_, rfl⟩
                  refine Ew_of (pcₚ := 155) (fun _ => x_iload rfl l153_10) ?_
                  refine Ew_of (pcₚ := 156) (fun _ => x_iconst rfl) ?_
                  refine w_icmple (t := 171) rfl rfl (show inr (x153_10) from j153_0) (show inr (2) from q_122) (fun b51 => ?_) (fun b51 => ?_)
                  · refine Ew_of (pcₚ := 172) (fun _ => x_aload_n rfl l153_0) ?_
                    refine Ew_of (pcₚ := 174) (fun _ => x_iload rfl l153_10) ?_
                    refine Ew_of (pcₚ := 175) (fun _ => x_iconst rfl) ?_
                    refine w_inv H (o := 6) rfl rfl rfl (H.perm 6 rfl) rfl rfl (by rfl) (M389 H (y153_6_35) ((ey153_6_35)) (w153_69) (ew153_69) (show inr (x153_10) from j153_0) (show inr (2) from q_122) (show 0 ≤ (2) ∧ (2) ≤ 31 from q_2467) (show 0 ≤ (y153_6_35) ∧ (y153_6_35) ≤ 90000000 by omega) (fun σ F52 A53 H hS54 hA55 y57 ey58 wq59 ewq60 pz56_0 pz56_1 => ⟨rfl, ?_⟩))
                    have r61 : (0 : Int) ≤ y57 ∧ y57 ≤ 100000000 := rngE (show (0 : Int) ≤ F52 6 35 ∧ F52 6 35 ≤ 100000000 from H.frng 6 35) (show F52 6 35 = y57 from (ey58))
                    have hp4 : IMP ((u6_35) + 800 ≤ 192000) (MDA ((w69)) ((u6_35)) ((wq59)) ((y57)) (B1 ++ zbt q10)) := fun q => by rw [hBz, zbt_e (z := (x153_10)) (by omega), ← List.append_assoc]; exact MDA_t (hMz q) (pz56_1 (by omega))
                    refine Ew_of (pcₚ := 16) (fun _ => x_goto rfl rfl) ?_
                    have : ∃ B, SBO (cutP 64 (sh ((w75)) ((a2)))) ((a3)) ((((x16_5 + 1) + x128_10))) (((x16_4 - z46))) B ∧ IMP ((u6_35) + 800 ≤ 192000) (MDA ((w69)) ((u6_35)) ((wq59)) ((y57)) (B)) := by first | exact ⟨_, SBO_z hST (by omega) (by rw [hcP]; omega) hzr (by omega) (by omega) (by rw [← hB1]), hp4⟩ | exact ⟨_, SBO_s hST (by omega) (by rw [hcP]; omega) (by omega) (by rw [hcP]; omega) hB1, hM1⟩
                    exact ih16 _ (msE hm16 (q_2472 j153_1) (q_1345 hl64)) _ σ _ _ ((x16_4 - z46)) (((x16_5 + 1) + x128_10)) (l153_0) (l153_1) (l153_2) (l153_4) (l153_5) H (SF_trans (SF_trans (SF_trans (SF_trans (SF_trans (SF_trans (hS_16) hS26 (any_sub rfl)) hS34 (any_sub rfl)) hS44 (any_sub rfl)) hS_128 (any_sub rfl)) hS_153 (any_sub rfl)) hS54 (any_sub rfl)) (SA_trans (SA_trans (SA_trans (SA_trans (SA_trans (SA_trans (hA_16) hA27 (any_subA rfl)) hA35 (any_subA rfl)) hA45 (any_subA rfl)) hA_128 (any_subA rfl)) hA_153 (any_subA rfl)) hA55 (any_subA rfl)) (y57) ((ey58)) (wq59) (ewq60) (show inr ((x16_4 - z46)) from q_2471 b14 b30 b31 j16_5 pz46_0) (show inr (((x16_5 + 1) + x128_10)) by omega) (show 0 ≤ (((x16_5 + 1) + x128_10)) ∧ (((x16_5 + 1) + x128_10)) ≤ 64 by omega) (show (((x16_5 + 1) + x128_10)) ≤ lst + 1 by omega) (show ((x16_4 - z46)) = p2 ((a3)) - mp (sh ((w75)) ((a2))) ((((x16_5 + 1) + x128_10))) from q_2470 b30 b31) (show 0 ≤ ((x16_4 - z46)) ∧ ((x16_4 - z46)) ≤ 512 from q_2469 b14 b30 b31 j16_5 pz46_0) (show (u6_35) ≤ (y57) ∧ (y57) ≤ (u6_35) + 4 + 12 * (((x16_5 + 1) + x128_10)) from q_2468 h4 hk9 j153_1 j153_2 j16_6 pz28_1 pz36_0 pz56_0 r61) (show ∃ B, SBO (cutP 64 (sh ((w75)) ((a2)))) ((a3)) ((((x16_5 + 1) + x128_10))) (((x16_4 - z46))) B ∧ IMP ((u6_35) + 800 ≤ 192000) (MDA ((w69)) ((u6_35)) ((wq59)) ((y57)) (B)) by assumption) rfl
                  · refine Ew_of (pcₚ := 160) (fun _ => x_aload_n rfl l153_0) ?_
                    refine Ew_of (pcₚ := 161) (fun _ => x_iconst rfl) ?_
                    refine Ew_of (pcₚ := 162) (fun _ => x_iconst rfl) ?_
                    refine w_inv H (o := 6) rfl rfl rfl (H.perm 6 rfl) rfl rfl (by rfl) (M389 H (y153_6_35) ((ey153_6_35)) (w153_69) (ew153_69) (show inr (3) from q_246) (show inr (2) from q_122) (show 0 ≤ (2) ∧ (2) ≤ 31 from q_2467) (show 0 ≤ (y153_6_35) ∧ (y153_6_35) ≤ 90000000 by omega) (fun σ F62 A63 H hS64 hA65 y67 ey68 wq69 ewq70 pz66_0 pz66_1 => ⟨rfl, ?_⟩))
                    have r71 : (0 : Int) ≤ y67 ∧ y67 ≤ 100000000 := rngE (show (0 : Int) ≤ F62 6 35 ∧ F62 6 35 ≤ 100000000 from H.frng 6 35) (show F62 6 35 = y67 from (ey68))
                    have hp3 : IMP ((u6_35) + 800 ≤ 192000) (MDA ((w69)) ((u6_35)) ((wq69)) ((y67)) (B1 ++ Bz ++ btw 3 2)) := fun q => MDA_t (hMz q) (pz66_1 (by omega))
                    refine Ew_of (pcₚ := 168) (fun _ => x_iinc (len := 3) rfl (l153_10)) ?_
                    refine Ew_of (pcₚ := 153) (fun _ => x_goto rfl rfl) ?_
                    have : ∃ B, zbt q10 = B ++ zbt (((x153_10 + (-3)))) ∧ IMP ((u6_35) + 800 ≤ 192000) (MDA ((w69)) ((u6_35)) ((wq69)) ((y67)) (B1 ++ B)) := ⟨Bz ++ btw 3 2, by (have hz : zbt qz10 = btw 3 2 ++ zbt (((x153_10 + (-3)))) := zbt_s (by omega) (by omega)); rw [hqz10] at hz; rw [hBz, hz, List.append_assoc], fun q => by rw [← List.append_assoc]; exact hp3 q⟩
                    exact ih153 _ (msE hm153 q_2476 (q_2477 b51)) _ σ _ _ ((x153_10 + (-3))) (rk_o (l153_0) rfl rfl) (rk_o (l153_1) rfl rfl) (rk_o (l153_2) rfl rfl) (rk_o (l153_4) rfl rfl) (rk_o (l153_5) rfl rfl) (rk_s) H (SF_trans (hS_153) hS64 (any_sub rfl)) (SA_trans (hA_153) hA65 (any_subA rfl)) (y67) ((ey68)) (wq69) (ewq70) (show inr ((x153_10 + (-3))) from q_2475 b51 j153_0) (show 0 ≤ ((x153_10 + (-3))) ∧ ((x153_10 + (-3))) ≤ (x128_10) from q_2474 b51 j153_1) (show (y37) ≤ (y67) ∧ (y67) ≤ (y37) + ((x128_10) - ((x153_10 + (-3)))) from q_2473 j153_2 pz66_0) (show ∃ B, zbt q10 = B ++ zbt (((x153_10 + (-3)))) ∧ IMP ((u6_35) + 800 ≤ 192000) (MDA ((w69)) ((u6_35)) ((wq69)) ((y67)) (B1 ++ B)) by assumption) rfl
              · refine Ew_of (pcₚ := 143) (fun _ => x_iinc (len := 3) rfl (l128_10)) ?_
                refine Ew_of (pcₚ := 128) (fun _ => x_goto rfl rfl) ?_
                have hnq : ¬ ((fun k => (sh ((w75)) ((a2))) (((x16_5 + 1)) + k) ≠ 0)) x128_10 := fun q => by have q : (sh ((w75)) ((a2))) (((x16_5 + 1)) + x128_10) ≠ 0 := q; omega
                have : ∀ j, ((x16_5 + 1)) ≤ j → j < ((x16_5 + 1)) + ((x128_10 + 1)) → (sh ((w75)) ((a2))) j = 0 := fun j a b => by by_cases e : j = ((x16_5 + 1)) + x128_10; (rw [e]; omega); exact j128_z j a (by omega)
                have hfn := FP_next hm128 hnq (show ((x128_10 + 1)) = x128_10 + 1 from rfl)
                have := hfn.1
                have := hfn.2
                exact ih128 (mx - 1) (by omega) _ σ _ _ ((x128_10 + 1)) (rk_o (l128_0) rfl rfl) (rk_o (l128_1) rfl rfl) (rk_o (l128_2) rfl rfl) (rk_o (l128_4) rfl rfl) (rk_o (l128_5) rfl rfl) (rk_s) H (hS_128) (hA_128)   (show inr ((x128_10 + 1)) by omega) (show 0 ≤ ((x128_10 + 1)) by omega) (show ∀ j, ((x16_5 + 1)) ≤ j → j < ((x16_5 + 1)) + ((x128_10 + 1)) → (sh ((w75)) ((a2))) j = 0 by assumption) (by assumption)
          · refine Ew_of (pcₚ := 16) (fun _ => x_goto rfl rfl) ?_
            have : ∃ B, SBO (cutP 64 (sh ((w75)) ((a2)))) ((a3)) (((x16_5 + 1))) (((x16_4 - z46))) B ∧ IMP ((u6_35) + 800 ≤ 192000) (MDA ((w69)) ((u6_35)) ((wq39)) ((y37)) (B)) := by first | exact ⟨_, SBO_z hST (by omega) (by rw [hcP]; omega) hzr (by omega) (by omega) (by rw [← hB1]), hp4⟩ | exact ⟨_, SBO_s hST (by omega) (by rw [hcP]; omega) (by omega) (by rw [hcP]; omega) hB1, hM1⟩
            exact ih16 _ (msE hm16 q_1344 (q_1345 hl64)) _ σ _ _ ((x16_4 - z46)) ((x16_5 + 1)) (rk_o (rk_o (rk_o (rk_o (rk_o (rk_o (l16_0) rfl rfl) rfl rfl) rfl rfl) rfl rfl) rfl rfl) rfl rfl) (rk_o (rk_o (rk_o (rk_o (rk_o (rk_o (l16_1) rfl rfl) rfl rfl) rfl rfl) rfl rfl) rfl rfl) rfl rfl) (rk_o (rk_o (rk_o (rk_o (rk_o (rk_o (l16_2) rfl rfl) rfl rfl) rfl rfl) rfl rfl) rfl rfl) rfl rfl) (rk_o (rk_s) rfl rfl) (rk_s) H (SF_trans (SF_trans (SF_trans (hS_16) hS26 (any_sub rfl)) hS34 (any_sub rfl)) hS44 (any_sub rfl)) (SA_trans (SA_trans (SA_trans (hA_16) hA27 (any_subA rfl)) hA35 (any_subA rfl)) hA45 (any_subA rfl)) (y37) (((hS44 6 35 rfl).trans (ey38))) (wq39) ((funext (hA45 69 rfl)).trans (ewq40)) (show inr ((x16_4 - z46)) from q_2471 b14 b30 b31 j16_5 pz46_0) (show inr ((x16_5 + 1)) from q_2480 hl64 j16_6) (show 0 ≤ ((x16_5 + 1)) ∧ ((x16_5 + 1)) ≤ 64 from q_2479 hl64 j16_6) (show ((x16_5 + 1)) ≤ lst + 1 from q_167 hll) (show ((x16_4 - z46)) = p2 ((a3)) - mp (sh ((w75)) ((a2))) (((x16_5 + 1))) from q_2470 b30 b31) (show 0 ≤ ((x16_4 - z46)) ∧ ((x16_4 - z46)) ≤ 512 from q_2469 b14 b30 b31 j16_5 pz46_0) (show (u6_35) ≤ (y37) ∧ (y37) ≤ (u6_35) + 4 + 12 * ((x16_5 + 1)) from q_2478 h4 hk9 j16_6 pz28_1 pz36_0 r41) (show ∃ B, SBO (cutP 64 (sh ((w75)) ((a2)))) ((a3)) (((x16_5 + 1))) (((x16_4 - z46))) B ∧ IMP ((u6_35) + 800 ≤ 192000) (MDA ((w69)) ((u6_35)) ((wq39)) ((y37)) (B)) by assumption) rfl
        · refine Ew_of (pcₚ := 91) (fun _ => x_iload rfl (rk_o (rk_o (rk_s) rfl rfl) rfl rfl)) ?_
          refine Ew_of (pcₚ := 98) (fun _ => x_goto rfl rfl) ?_
          have hbu : btw (((v23 + 1))) ((z28)) = stU (cutP 64 (sh ((w75)) ((a2)))) q5 q4 := stU_is (k := (z28)) (by omega) (by omega) (by omega) (by omega : ((((2 * p2 (z28)) - 2) - x16_4)) = _) (by omega : ((v23 + 1)) = _) (by omega) (by omega)
          refine w_inv H (o := 6) rfl rfl rfl (H.perm 6 rfl) rfl rfl (by rfl) (M389 H (y16_6_35) (((hS26 6 35 rfl).trans (ey16_6_35))) (w16_69) ((funext (hA27 69 rfl)).trans (ew16_69)) (show inr ((v23 + 1)) from q_2459 b31 j16_5 pz28_2 qv23) (show inr (z28) from pz28_0) (show 0 ≤ (z28) ∧ (z28) ≤ 31 from q_2457 hk9 pz28_1) (show 0 ≤ (y16_6_35) ∧ (y16_6_35) ≤ 90000000 from q_2460 h4 hl64 j16_6 r13) (fun σ F72 A73 H hS74 hA75 y77 ey78 wq79 ewq80 pz76_0 pz76_1 => ⟨rfl, ?_⟩))
          have r81 : (0 : Int) ≤ y77 ∧ y77 ≤ 100000000 := rngE (show (0 : Int) ≤ F72 6 35 ∧ F72 6 35 ≤ 100000000 from H.frng 6 35) (show F72 6 35 = y77 from (ey78))
          obtain ⟨B1, hB1⟩ : ∃ B : List Int, B = B_ ++ stU (cutP 64 (sh ((w75)) ((a2)))) q5 q4 := ⟨_, rfl⟩
          have hM1 : IMP ((u6_35) + 800 ≤ 192000) (MDA ((w69)) ((u6_35)) ((wq79)) ((y77)) (B1)) := fun q => by rw [hB1]; exact MDA_t (hMD q) (by have h := pz76_1 (by omega); rw [hbu] at h; exact h)
          refine Ew_of (pcₚ := 103) (fun _ => x_iload rfl (rk_o (rk_o (rk_o (rk_o (l16_4) rfl rfl) rfl rfl) rfl rfl) rfl rfl)) ?_
          refine Ew_of (pcₚ := 105) (fun _ => x_iload rfl (rk_o (rk_o (rk_o (rk_s) rfl rfl) rfl rfl) rfl rfl)) ?_
          refine Ew_of (pcₚ := 106) (fun _ => x_iconst rfl) ?_
          refine w_isub rfl ?_
          refine w_stat24 rfl rfl (by rfl) (M406 H (show inr (((v23 + 1) - 1)) from q_2465 qv23) (show -1 ≤ (((v23 + 1) - 1)) by omega) (fun z86 σ F82 A83 H hS84 hA85 pz86_0 pz86_1 => ⟨rfl, ?_⟩))
          have hmv : (z86) = mass ((sh ((w75)) ((a2))) ((x16_5))) := by rw [pz86_1]; congr 1; omega
          refine w_isub rfl ?_
          refine Ew_of (pcₚ := 113) (fun _ => x_istore rfl) ?_
          refine Ew_of (pcₚ := 116) (fun _ => x_iinc (len := 3) rfl (rk_o (rk_o (rk_o (rk_o (rk_o (l16_5) rfl rfl) rfl rfl) rfl rfl) rfl rfl) rfl rfl)) ?_
          refine Ew_of (pcₚ := 118) (fun _ => x_iload rfl (rk_o (rk_o (rk_o (rk_o (rk_o (rk_s) rfl rfl) rfl rfl) rfl rfl) rfl rfl) rfl rfl)) ?_
          refine Ew_of (pcₚ := 119) (fun _ => x_iconst rfl) ?_
          refine w_icmpeq (t := 125) rfl rfl (show inr ((v23 + 1)) from q_2459 b31 j16_5 pz28_2 qv23) (show inr (1) from q_135) (fun b87 => ?_) (fun b87 => ?_)
          · refine Ew_of (pcₚ := 126) (fun _ => x_iconst rfl) ?_
            refine Ew_of (pcₚ := 128) (fun _ => x_istore rfl) ?_
            obtain ⟨m0, hm0⟩ := FP_ex (nz_ex (P := sh ((w75)) ((a2))) (s := ((x16_5 + 1))) (by omega) (by omega) (by omega))
            have : ∀ j, ((x16_5 + 1)) ≤ j → j < ((x16_5 + 1)) + 0 → (sh ((w75)) ((a2))) j = 0 := fun j a b => absurd b (by omega)
            suffices hl128 : ∀ (mx : Nat), ∀ (ls : rO) (σ : rS) (F_128 : hF) (A_128 : hA) (x128_10 : Int), rlook ls 0 = some (.ref (D 6)) → rlook ls 1 = some (.ref (D 75)) → rlook ls 2 = some (I (a2)) → rlook ls 4 = some (I ((x16_4 - z86))) → rlook ls 5 = some (I ((x16_5 + 1))) → rlook ls 10 = some (I (x128_10)) → HS σ0 σ D N F_128 A_128 → SF [] F82 F_128 → SA [] A83 A_128 → (inr (x128_10)) → (0 ≤ (x128_10)) → (∀ j, ((x16_5 + 1)) ≤ j → j < ((x16_5 + 1)) + (x128_10) → (sh ((w75)) ((a2))) j = 0) → (FP (fun k => (sh ((w75)) ((a2))) (((x16_5 + 1)) + k) ≠ 0) (64 - ((x16_5 + 1))) ((x128_10)) mx) → Ew 412 (d + 1) 128 ls [] σ c s Q from
              hl128 (m0) _ σ _ _ (0) (rk_o (rk_o (rk_o (rk_o (rk_o (rk_o (rk_o (l16_0) rfl rfl) rfl rfl) rfl rfl) rfl rfl) rfl rfl) rfl rfl) rfl rfl) (rk_o (rk_o (rk_o (rk_o (rk_o (rk_o (rk_o (l16_1) rfl rfl) rfl rfl) rfl rfl) rfl rfl) rfl rfl) rfl rfl) rfl rfl) (rk_o (rk_o (rk_o (rk_o (rk_o (rk_o (rk_o (l16_2) rfl rfl) rfl rfl) rfl rfl) rfl rfl) rfl rfl) rfl rfl) rfl rfl) (rk_o (rk_o (rk_s) rfl rfl) rfl rfl) (rk_o (rk_s) rfl rfl) (rk_s) H (SF_refl) (SA_refl)   (show inr (0) from q_2) (show 0 ≤ (0) from q_1) (show ∀ j, ((x16_5 + 1)) ≤ j → j < ((x16_5 + 1)) + (0) → (sh ((w75)) ((a2))) j = 0 by assumption) (by assumption)
            as_aux_lemma =>
            intro mx
            induction mx using Nat.strongRecOn with
            | _ mx ih128 =>
              intro ls σ F_128 A_128 x128_10 l128_0 l128_1 l128_2 l128_4 l128_5 l128_10 H hS_128 hA_128   j128_0 j128_1 j128_2 hm128
              have hfl := FP_lt hm128
              have hpz : (sh ((w75)) ((a2))) (((x16_5 + 1)) + (x128_10)) = ((w75)) ((a2) + ((x16_5 + 1)) + (x128_10)) := by show ((w75)) ((a2) + (((x16_5 + 1)) + (x128_10))) = _; congr 1; omega
              have j128_z : ∀ j, ((x16_5 + 1)) ≤ j → j < ((x16_5 + 1)) + (x128_10) → (sh ((w75)) ((a2))) j = 0 := by assumption
              refine Ew_of (pcₚ := 129) (fun _ => x_aload_n rfl l128_1) ?_
              refine Ew_of (pcₚ := 130) (fun _ => x_iload_n rfl l128_2) ?_
              refine Ew_of (pcₚ := 132) (fun _ => x_iload rfl l128_5) ?_
              refine w_iadd rfl ?_
              refine Ew_of (pcₚ := 135) (fun _ => x_iload rfl l128_10) ?_
              refine w_iadd rfl ?_
              refine w_lI H (o := 75) (n := 64) rfl (H.perm 75 rfl) rfl rfl (H.fix 75 rfl rfl) (show 0 ≤ ((a2 + (x16_5 + 1)) + x128_10) ∧ ((a2 + (x16_5 + 1)) + x128_10) < ((64 : Nat) : Int) by omega) (by decide) (fun v88 ev88 qv88 => ?_)
              have qv88 : (-2147483648 : Int) ≤ v88 ∧ v88 ≤ 2147483647 := qv88
              have ev88 : (w75) (((a2 + (x16_5 + 1)) + x128_10)) = v88 := (congrFun ((funext (hA_128 75 rfl)).trans ((funext (hA85 75 rfl)).trans ((funext (hA75 75 rfl)).trans ((funext (hA27 75 rfl)).trans ((funext (hA_16 75 rfl)).trans ((funext (hA5 75 rfl)).trans (ew75))))))) (((a2 + (x16_5 + 1)) + x128_10))).symm.trans ev88
              refine w_ifne (t := 146) rfl rfl (show inr (v88) from q_18 qv88) (fun b89 => ?_) (fun b89 => ?_)
              · have hlz := (SH_le (((x16_5 + 1)) + (x128_10)) hsh (by omega) (by omega)).2.2.2 (by show (sh ((w75)) ((a2))) (((x16_5 + 1)) + (x128_10)) ≠ 0; omega)
                have hmz := mp_zeroI (P := sh ((w75)) ((a2))) (s := ((x16_5 + 1))) (z := (x128_10)) (t := ((x16_5 + 1)) + (x128_10)) (by omega) (by omega) (by assumption) rfl
                obtain ⟨q10, hq10⟩ : ∃ q : Int, q = (x128_10) := ⟨_, rfl⟩
                have hzr : q10 = zrN (cutP 64 (sh ((w75)) ((a2)))) (q5 + 1) 64 := by rw [hq10]; exact (zrN_is (n := 64) (by omega) (by omega) (fun j a b => by rw [cutP_in (by omega)]; exact j128_z j (by omega) (by omega)) (by rw [cutP_in (by omega), show q5 + 1 + (x128_10) = ((x16_5 + 1)) + (x128_10) by omega]; omega)).symm
                refine Ew_of (pcₚ := 148) (fun _ => x_iload rfl l128_5) ?_
                refine Ew_of (pcₚ := 150) (fun _ => x_iload rfl l128_10) ?_
                refine w_iadd rfl ?_
                refine Ew_of (pcₚ := 153) (fun _ => x_istore rfl) ?_
                have : ∃ B, zbt q10 = B ++ zbt ((x128_10)) ∧ IMP ((u6_35) + 800 ≤ 192000) (MDA ((w69)) ((u6_35)) ((wq79)) ((y77)) (B1 ++ B)) := ⟨[], by rw [hq10]; rfl, fun q => by rw [List.append_nil]; exact hM1 q⟩
                suffices hl153 : ∀ (m : Nat), ∀ (ls : rO) (σ : rS) (F_153 : hF) (A_153 : hA) (x153_10 : Int), rlook ls 0 = some (.ref (D 6)) → rlook ls 1 = some (.ref (D 75)) → rlook ls 2 = some (I (a2)) → rlook ls 4 = some (I ((x16_4 - z86))) → rlook ls 5 = some (I (((x16_5 + 1) + x128_10))) → rlook ls 10 = some (I (x153_10)) → HS σ0 σ D N F_153 A_153 → SF [(6, 35)] F_128 F_153 → SA [69] A_128 A_153 → ∀ y153_6_35 : Int, F_153 6 35 = y153_6_35 → ∀ w153_69 : Int → Int, A_153 69 = w153_69 → (inr (x153_10)) → (0 ≤ (x153_10) ∧ (x153_10) ≤ (x128_10)) → ((y77) ≤ (y153_6_35) ∧ (y153_6_35) ≤ (y77) + ((x128_10) - (x153_10))) → (∃ B, zbt q10 = B ++ zbt ((x153_10)) ∧ IMP ((u6_35) + 800 ≤ 192000) (MDA ((w69)) ((u6_35)) ((w153_69)) ((y153_6_35)) (B1 ++ B))) → ((x153_10)).toNat = m → Ew 412 (d + 1) 153 ls [] σ c s Q from
                  hl153 _ _ σ _ _ (x128_10) (rk_o (l128_0) rfl rfl) (rk_o (l128_1) rfl rfl) (rk_o (l128_2) rfl rfl) (rk_o (l128_4) rfl rfl) (rk_s) (rk_o (l128_10) rfl rfl) H (SF_refl) (SA_refl) (y77) ((((hS_128 6 35 rfl).trans (hS84 6 35 rfl)).trans (ey78))) (wq79) ((funext (hA_128 69 rfl)).trans ((funext (hA85 69 rfl)).trans (ewq80))) (show inr (x128_10) by omega) (show 0 ≤ (x128_10) ∧ (x128_10) ≤ (x128_10) by omega) (show (y77) ≤ (y77) ∧ (y77) ≤ (y77) + ((x128_10) - (x128_10)) from q_2466) (show ∃ B, zbt q10 = B ++ zbt ((x128_10)) ∧ IMP ((u6_35) + 800 ≤ 192000) (MDA ((w69)) ((u6_35)) ((wq79)) ((y77)) (B1 ++ B)) by assumption) rfl
                as_aux_lemma =>
                intro m
                induction m using Nat.strongRecOn with
                | _ m ih153 =>
                  intro ls σ F_153 A_153 x153_10 l153_0 l153_1 l153_2 l153_4 l153_5 l153_10 H hS_153 hA_153 y153_6_35 ey153_6_35 w153_69 ew153_69 j153_0 j153_1 j153_2 j153_3 hm153
                  have r90 : (0 : Int) ≤ y153_6_35 ∧ y153_6_35 ≤ 100000000 := rngE (show (0 : Int) ≤ F_153 6 35 ∧ F_153 6 35 ≤ 100000000 from H.frng 6 35) (show F_153 6 35 = y153_6_35 from (ey153_6_35))
                  have j153_q : ∃ B, zbt q10 = B ++ zbt ((x153_10)) ∧ IMP ((u6_35) + 800 ≤ 192000) (MDA ((w69)) ((u6_35)) ((w153_69)) ((y153_6_35)) (B1 ++ B)) := by assumption
                  obtain ⟨Bz, hBz, hMz⟩ := j153_q
                  obtain ⟨qz10, hqz10⟩ : ∃ q : Int, q = (x153_10) := ⟨_, rfl⟩
                  refine Ew_of (pcₚ := 155) (fun _ => x_iload rfl l153_10) ?_
                  refine Ew_of (pcₚ := 156) (fun _ => x_iconst rfl) ?_
                  refine w_icmple (t := 171) rfl rfl (show inr (x153_10) from j153_0) (show inr (2) from q_122) (fun b91 => ?_) (fun b91 => ?_)
                  · refine Ew_of (pcₚ := 172) (fun _ => x_aload_n rfl l153_0) ?_
                    refine Ew_of (pcₚ := 174) (fun _ => x_iload rfl l153_10) ?_
                    refine Ew_of (pcₚ := 175) (fun _ => x_iconst rfl) ?_
                    refine w_inv H (o := 6) rfl rfl rfl (H.perm 6 rfl) rfl rfl (by rfl) (M389 H (y153_6_35) ((ey153_6_35)) (w153_69) (ew153_69) (show inr (x153_10) from j153_0) (show inr (2) from q_122) (show 0 ≤ (2) ∧ (2) ≤ 31 from q_2467) (show 0 ≤ (y153_6_35) ∧ (y153_6_35) ≤ 90000000 by omega) (fun σ F92 A93 H hS94 hA95 y97 ey98 wq99 ewq100 pz96_0 pz96_1 => ⟨rfl, ?_⟩))
                    have r101 : (0 : Int) ≤ y97 ∧ y97 ≤ 100000000 := rngE (show (0 : Int) ≤ F92 6 35 ∧ F92 6 35 ≤ 100000000 from H.frng 6 35) (show F92 6 35 = y97 from (ey98))
                    have hp4 : IMP ((u6_35) + 800 ≤ 192000) (MDA ((w69)) ((u6_35)) ((wq99)) ((y97)) (B1 ++ zbt q10)) := fun q => by rw [hBz, zbt_e (z := (x153_10)) (by omega), ← List.append_assoc]; exact MDA_t (hMz q) (pz96_1 (by omega))
                    refine Ew_of (pcₚ := 16) (fun _ => x_goto rfl rfl) ?_
                    have : ∃ B, SBO (cutP 64 (sh ((w75)) ((a2)))) ((a3)) ((((x16_5 + 1) + x128_10))) (((x16_4 - z86))) B ∧ IMP ((u6_35) + 800 ≤ 192000) (MDA ((w69)) ((u6_35)) ((wq99)) ((y97)) (B)) := by first | exact ⟨_, SBO_z hST (by omega) (by rw [hcP]; omega) hzr (by omega) (by omega) (by rw [← hB1]), hp4⟩ | exact ⟨_, SBO_s hST (by omega) (by rw [hcP]; omega) (by omega) (by rw [hcP]; omega) hB1, hM1⟩
                    exact ih16 _ (msE hm16 (q_2472 j153_1) (q_1345 hl64)) _ σ _ _ ((x16_4 - z86)) (((x16_5 + 1) + x128_10)) (l153_0) (l153_1) (l153_2) (l153_4) (l153_5) H (SF_trans (SF_trans (SF_trans (SF_trans (SF_trans (SF_trans (hS_16) hS26 (any_sub rfl)) hS74 (any_sub rfl)) hS84 (any_sub rfl)) hS_128 (any_sub rfl)) hS_153 (any_sub rfl)) hS94 (any_sub rfl)) (SA_trans (SA_trans (SA_trans (SA_trans (SA_trans (SA_trans (hA_16) hA27 (any_subA rfl)) hA75 (any_subA rfl)) hA85 (any_subA rfl)) hA_128 (any_subA rfl)) hA_153 (any_subA rfl)) hA95 (any_subA rfl)) (y97) ((ey98)) (wq99) (ewq100) (show inr ((x16_4 - z86)) by omega) (show inr (((x16_5 + 1) + x128_10)) by omega) (show 0 ≤ (((x16_5 + 1) + x128_10)) ∧ (((x16_5 + 1) + x128_10)) ≤ 64 by omega) (show (((x16_5 + 1) + x128_10)) ≤ lst + 1 by omega) (show ((x16_4 - z86)) = p2 ((a3)) - mp (sh ((w75)) ((a2))) ((((x16_5 + 1) + x128_10))) by omega) (show 0 ≤ ((x16_4 - z86)) ∧ ((x16_4 - z86)) ≤ 512 by omega) (show (u6_35) ≤ (y97) ∧ (y97) ≤ (u6_35) + 4 + 12 * (((x16_5 + 1) + x128_10)) from q_2481 h4 hk9 j153_1 j153_2 j16_6 pz28_1 pz76_0 pz96_0 r101) (show ∃ B, SBO (cutP 64 (sh ((w75)) ((a2)))) ((a3)) ((((x16_5 + 1) + x128_10))) (((x16_4 - z86))) B ∧ IMP ((u6_35) + 800 ≤ 192000) (MDA ((w69)) ((u6_35)) ((wq99)) ((y97)) (B)) by assumption) rfl
                  · refine Ew_of (pcₚ := 160) (fun _ => x_aload_n rfl l153_0) ?_
                    refine Ew_of (pcₚ := 161) (fun _ => x_iconst rfl) ?_
                    refine Ew_of (pcₚ := 162) (fun _ => x_iconst rfl) ?_
                    refine w_inv H (o := 6) rfl rfl rfl (H.perm 6 rfl) rfl rfl (by rfl) (M389 H (y153_6_35) ((ey153_6_35)) (w153_69) (ew153_69) (show inr (3) from q_246) (show inr (2) from q_122) (show 0 ≤ (2) ∧ (2) ≤ 31 from q_2467) (show 0 ≤ (y153_6_35) ∧ (y153_6_35) ≤ 90000000 by omega) (fun σ F102 A103 H hS104 hA105 y107 ey108 wq109 ewq110 pz106_0 pz106_1 => ⟨rfl, ?_⟩))
                    have r111 : (0 : Int) ≤ y107 ∧ y107 ≤ 100000000 := rngE (show (0 : Int) ≤ F102 6 35 ∧ F102 6 35 ≤ 100000000 from H.frng 6 35) (show F102 6 35 = y107 from (ey108))
                    have hp3 : IMP ((u6_35) + 800 ≤ 192000) (MDA ((w69)) ((u6_35)) ((wq109)) ((y107)) (B1 ++ Bz ++ btw 3 2)) := fun q => MDA_t (hMz q) (pz106_1 (by omega))
                    refine Ew_of (pcₚ := 168) (fun _ => x_iinc (len := 3) rfl (l153_10)) ?_
                    refine Ew_of (pcₚ := 153) (fun _ => x_goto rfl rfl) ?_
                    have : ∃ B, zbt q10 = B ++ zbt (((x153_10 + (-3)))) ∧ IMP ((u6_35) + 800 ≤ 192000) (MDA ((w69)) ((u6_35)) ((wq109)) ((y107)) (B1 ++ B)) := ⟨Bz ++ btw 3 2, by (have hz : zbt qz10 = btw 3 2 ++ zbt (((x153_10 + (-3)))) := zbt_s (by omega) (by omega)); rw [hqz10] at hz; rw [hBz, hz, List.append_assoc], fun q => by rw [← List.append_assoc]; exact hp3 q⟩
                    exact ih153 _ (msE hm153 q_2476 (q_2477 b91)) _ σ _ _ ((x153_10 + (-3))) (rk_o (l153_0) rfl rfl) (rk_o (l153_1) rfl rfl) (rk_o (l153_2) rfl rfl) (rk_o (l153_4) rfl rfl) (rk_o (l153_5) rfl rfl) (rk_s) H (SF_trans (hS_153) hS104 (any_sub rfl)) (SA_trans (hA_153) hA105 (any_subA rfl)) (y107) ((ey108)) (wq109) (ewq110) (show inr ((x153_10 + (-3))) from q_2475 b91 j153_0) (show 0 ≤ ((x153_10 + (-3))) ∧ ((x153_10 + (-3))) ≤ (x128_10) from q_2474 b91 j153_1) (show (y77) ≤ (y107) ∧ (y107) ≤ (y77) + ((x128_10) - ((x153_10 + (-3)))) from q_2473 j153_2 pz106_0) (show ∃ B, zbt q10 = B ++ zbt (((x153_10 + (-3)))) ∧ IMP ((u6_35) + 800 ≤ 192000) (MDA ((w69)) ((u6_35)) ((wq109)) ((y107)) (B1 ++ B)) by assumption) rfl
              · refine Ew_of (pcₚ := 143) (fun _ => x_iinc (len := 3) rfl (l128_10)) ?_
                refine Ew_of (pcₚ := 128) (fun _ => x_goto rfl rfl) ?_
                have hnq : ¬ ((fun k => (sh ((w75)) ((a2))) (((x16_5 + 1)) + k) ≠ 0)) x128_10 := fun q => by have q : (sh ((w75)) ((a2))) (((x16_5 + 1)) + x128_10) ≠ 0 := q; omega
                have : ∀ j, ((x16_5 + 1)) ≤ j → j < ((x16_5 + 1)) + ((x128_10 + 1)) → (sh ((w75)) ((a2))) j = 0 := fun j a b => by by_cases e : j = ((x16_5 + 1)) + x128_10; (rw [e]; omega); exact j128_z j a (by omega)
                have hfn := FP_next hm128 hnq (show ((x128_10 + 1)) = x128_10 + 1 from rfl)
                have := hfn.1
                have := hfn.2
                exact ih128 (mx - 1) (by omega) _ σ _ _ ((x128_10 + 1)) (rk_o (l128_0) rfl rfl) (rk_o (l128_1) rfl rfl) (rk_o (l128_2) rfl rfl) (rk_o (l128_4) rfl rfl) (rk_o (l128_5) rfl rfl) (rk_s) H (hS_128) (hA_128)   (show inr ((x128_10 + 1)) by omega) (show 0 ≤ ((x128_10 + 1)) by omega) (show ∀ j, ((x16_5 + 1)) ≤ j → j < ((x16_5 + 1)) + ((x128_10 + 1)) → (sh ((w75)) ((a2))) j = 0 by assumption) (by assumption)
          · refine Ew_of (pcₚ := 16) (fun _ => x_goto rfl rfl) ?_
            have : ∃ B, SBO (cutP 64 (sh ((w75)) ((a2)))) ((a3)) (((x16_5 + 1))) (((x16_4 - z86))) B ∧ IMP ((u6_35) + 800 ≤ 192000) (MDA ((w69)) ((u6_35)) ((wq79)) ((y77)) (B)) := by first | exact ⟨_, SBO_z hST (by omega) (by rw [hcP]; omega) hzr (by omega) (by omega) (by rw [← hB1]), hp4⟩ | exact ⟨_, SBO_s hST (by omega) (by rw [hcP]; omega) (by omega) (by rw [hcP]; omega) hB1, hM1⟩
            exact ih16 _ (msE hm16 q_1344 (q_1345 hl64)) _ σ _ _ ((x16_4 - z86)) ((x16_5 + 1)) (rk_o (rk_o (rk_o (rk_o (rk_o (rk_o (l16_0) rfl rfl) rfl rfl) rfl rfl) rfl rfl) rfl rfl) rfl rfl) (rk_o (rk_o (rk_o (rk_o (rk_o (rk_o (l16_1) rfl rfl) rfl rfl) rfl rfl) rfl rfl) rfl rfl) rfl rfl) (rk_o (rk_o (rk_o (rk_o (rk_o (rk_o (l16_2) rfl rfl) rfl rfl) rfl rfl) rfl rfl) rfl rfl) rfl rfl) (rk_o (rk_s) rfl rfl) (rk_s) H (SF_trans (SF_trans (SF_trans (hS_16) hS26 (any_sub rfl)) hS74 (any_sub rfl)) hS84 (any_sub rfl)) (SA_trans (SA_trans (SA_trans (hA_16) hA27 (any_subA rfl)) hA75 (any_subA rfl)) hA85 (any_subA rfl)) (y77) (((hS84 6 35 rfl).trans (ey78))) (wq79) ((funext (hA85 69 rfl)).trans (ewq80)) (show inr ((x16_4 - z86)) by omega) (show inr ((x16_5 + 1)) from q_2480 hl64 j16_6) (show 0 ≤ ((x16_5 + 1)) ∧ ((x16_5 + 1)) ≤ 64 from q_2479 hl64 j16_6) (show ((x16_5 + 1)) ≤ lst + 1 from q_167 hll) (show ((x16_4 - z86)) = p2 ((a3)) - mp (sh ((w75)) ((a2))) (((x16_5 + 1))) by omega) (show 0 ≤ ((x16_4 - z86)) ∧ ((x16_4 - z86)) ≤ 512 by omega) (show (u6_35) ≤ (y77) ∧ (y77) ≤ (u6_35) + 4 + 12 * ((x16_5 + 1)) from q_2482 hk9 j16_6 pz28_1 pz76_0) (show ∃ B, SBO (cutP 64 (sh ((w75)) ((a2)))) ((a3)) (((x16_5 + 1))) (((x16_4 - z86))) B ∧ IMP ((u6_35) + 800 ≤ 192000) (MDA ((w69)) ((u6_35)) ((wq79)) ((y77)) (B)) by assumption) rfl
      · refine Ew_of (pcₚ := 67) (fun _ => x_iload rfl (rk_o (rk_o (rk_o (rk_s) rfl rfl) rfl rfl) rfl rfl)) ?_
        refine Ew_of (pcₚ := 69) (fun _ => x_iload rfl (rk_o (rk_s) rfl rfl)) ?_
        refine w_icmpge (t := 77) rfl rfl (show inr ((v23 + 1)) by omega) (show inr (p2 (z28)) from q_2483 j16_5 pz28_2) (fun b112 => ?_) (fun b112 => ?_)
        · refine Ew_of (pcₚ := 79) (fun _ => x_iload rfl (rk_o (rk_o (rk_o (rk_s) rfl rfl) rfl rfl) rfl rfl)) ?_
          refine Ew_of (pcₚ := 81) (fun _ => x_iload rfl rk_s) ?_
          refine w_iadd rfl ?_
          refine Ew_of (pcₚ := 84) (fun _ => x_iload rfl (rk_o (rk_o (rk_o (rk_s) rfl rfl) rfl rfl) rfl rfl)) ?_
          refine Ew_of (pcₚ := 86) (fun _ => x_iload rfl rk_s) ?_
          refine w_icmpge (t := 94) rfl rfl (show inr ((v23 + 1)) by omega) (show inr ((((2 * p2 (z28)) - 2) - x16_4)) from q_2458 j16_5 pz28_2) (fun b113 => ?_) (fun b113 => ?_)
          · refine Ew_of (pcₚ := 96) (fun _ => x_iload rfl (rk_o (rk_o (rk_s) rfl rfl) rfl rfl)) ?_
            refine Ew_of (pcₚ := 97) (fun _ => x_iconst rfl) ?_
            refine w_iadd rfl ?_
            have hbu : btw ((((v23 + 1) + (((2 * p2 (z28)) - 2) - x16_4)))) (((z28 + 1))) = stU (cutP 64 (sh ((w75)) ((a2)))) q5 q4 := stU_is (k := (z28)) (by omega) (by omega) (by omega) (by omega : ((((2 * p2 (z28)) - 2) - x16_4)) = _) (by omega : ((v23 + 1)) = _) (by omega) (by omega)
            refine w_inv H (o := 6) rfl rfl rfl (H.perm 6 rfl) rfl rfl (by rfl) (M389 H (y16_6_35) (((hS26 6 35 rfl).trans (ey16_6_35))) (w16_69) ((funext (hA27 69 rfl)).trans (ew16_69)) (show inr (((v23 + 1) + (((2 * p2 (z28)) - 2) - x16_4))) by omega) (show inr ((z28 + 1)) from q_2462 hk9 pz28_1) (show 0 ≤ ((z28 + 1)) ∧ ((z28 + 1)) ≤ 31 from q_2461 hk9 pz28_1) (show 0 ≤ (y16_6_35) ∧ (y16_6_35) ≤ 90000000 from q_2460 h4 hl64 j16_6 r13) (fun σ F114 A115 H hS116 hA117 y119 ey120 wq121 ewq122 pz118_0 pz118_1 => ⟨rfl, ?_⟩))
            have r123 : (0 : Int) ≤ y119 ∧ y119 ≤ 100000000 := rngE (show (0 : Int) ≤ F114 6 35 ∧ F114 6 35 ≤ 100000000 from H.frng 6 35) (show F114 6 35 = y119 from (ey120))
            obtain ⟨B1, hB1⟩ : ∃ B : List Int, B = B_ ++ stU (cutP 64 (sh ((w75)) ((a2)))) q5 q4 := ⟨_, rfl⟩
            have hM1 : IMP ((u6_35) + 800 ≤ 192000) (MDA ((w69)) ((u6_35)) ((wq121)) ((y119)) (B1)) := fun q => by rw [hB1]; exact MDA_t (hMD q) (by have h := pz118_1 (by omega); rw [hbu] at h; exact h)
            refine Ew_of (pcₚ := 103) (fun _ => x_iload rfl (rk_o (rk_o (rk_o (rk_o (l16_4) rfl rfl) rfl rfl) rfl rfl) rfl rfl)) ?_
            refine Ew_of (pcₚ := 105) (fun _ => x_iload rfl (rk_o (rk_o (rk_o (rk_s) rfl rfl) rfl rfl) rfl rfl)) ?_
            refine Ew_of (pcₚ := 106) (fun _ => x_iconst rfl) ?_
            refine w_isub rfl ?_
            refine w_stat24 rfl rfl (by rfl) (M406 H (show inr (((v23 + 1) - 1)) from q_2465 qv23) (show -1 ≤ (((v23 + 1) - 1)) from q_2484 b113 pz28_2) (fun z128 σ F124 A125 H hS126 hA127 pz128_0 pz128_1 => ⟨rfl, ?_⟩))
            have hmv : (z128) = mass ((sh ((w75)) ((a2))) ((x16_5))) := by rw [pz128_1]; congr 1; omega
            refine w_isub rfl ?_
            refine Ew_of (pcₚ := 113) (fun _ => x_istore rfl) ?_
            refine Ew_of (pcₚ := 116) (fun _ => x_iinc (len := 3) rfl (rk_o (rk_o (rk_o (rk_o (rk_o (l16_5) rfl rfl) rfl rfl) rfl rfl) rfl rfl) rfl rfl)) ?_
            refine Ew_of (pcₚ := 118) (fun _ => x_iload rfl (rk_o (rk_o (rk_o (rk_o (rk_o (rk_s) rfl rfl) rfl rfl) rfl rfl) rfl rfl) rfl rfl)) ?_
            refine Ew_of (pcₚ := 119) (fun _ => x_iconst rfl) ?_
            refine w_icmpeq (t := 125) rfl rfl (show inr ((v23 + 1)) by omega) (show inr (1) from q_135) (fun b129 => ?_) (fun b129 => ?_)
            · refine Ew_of (pcₚ := 126) (fun _ => x_iconst rfl) ?_
              refine Ew_of (pcₚ := 128) (fun _ => x_istore rfl) ?_
              obtain ⟨m0, hm0⟩ := FP_ex (nz_ex (P := sh ((w75)) ((a2))) (s := ((x16_5 + 1))) (by omega) (by omega) (by omega))
              have : ∀ j, ((x16_5 + 1)) ≤ j → j < ((x16_5 + 1)) + 0 → (sh ((w75)) ((a2))) j = 0 := fun j a b => absurd b (by omega)
              suffices hl128 : ∀ (mx : Nat), ∀ (ls : rO) (σ : rS) (F_128 : hF) (A_128 : hA) (x128_10 : Int), rlook ls 0 = some (.ref (D 6)) → rlook ls 1 = some (.ref (D 75)) → rlook ls 2 = some (I (a2)) → rlook ls 4 = some (I ((x16_4 - z128))) → rlook ls 5 = some (I ((x16_5 + 1))) → rlook ls 10 = some (I (x128_10)) → HS σ0 σ D N F_128 A_128 → SF [] F124 F_128 → SA [] A125 A_128 → (inr (x128_10)) → (0 ≤ (x128_10)) → (∀ j, ((x16_5 + 1)) ≤ j → j < ((x16_5 + 1)) + (x128_10) → (sh ((w75)) ((a2))) j = 0) → (FP (fun k => (sh ((w75)) ((a2))) (((x16_5 + 1)) + k) ≠ 0) (64 - ((x16_5 + 1))) ((x128_10)) mx) → Ew 412 (d + 1) 128 ls [] σ c s Q from
                hl128 (m0) _ σ _ _ (0) (rk_o (rk_o (rk_o (rk_o (rk_o (rk_o (rk_o (l16_0) rfl rfl) rfl rfl) rfl rfl) rfl rfl) rfl rfl) rfl rfl) rfl rfl) (rk_o (rk_o (rk_o (rk_o (rk_o (rk_o (rk_o (l16_1) rfl rfl) rfl rfl) rfl rfl) rfl rfl) rfl rfl) rfl rfl) rfl rfl) (rk_o (rk_o (rk_o (rk_o (rk_o (rk_o (rk_o (l16_2) rfl rfl) rfl rfl) rfl rfl) rfl rfl) rfl rfl) rfl rfl) rfl rfl) (rk_o (rk_o (rk_s) rfl rfl) rfl rfl) (rk_o (rk_s) rfl rfl) (rk_s) H (SF_refl) (SA_refl)   (show inr (0) from q_2) (show 0 ≤ (0) from q_1) (show ∀ j, ((x16_5 + 1)) ≤ j → j < ((x16_5 + 1)) + (0) → (sh ((w75)) ((a2))) j = 0 by assumption) (by assumption)
              as_aux_lemma =>
              intro mx
              induction mx using Nat.strongRecOn with
              | _ mx ih128 =>
                intro ls σ F_128 A_128 x128_10 l128_0 l128_1 l128_2 l128_4 l128_5 l128_10 H hS_128 hA_128   j128_0 j128_1 j128_2 hm128
                have hfl := FP_lt hm128
                have hpz : (sh ((w75)) ((a2))) (((x16_5 + 1)) + (x128_10)) = ((w75)) ((a2) + ((x16_5 + 1)) + (x128_10)) := by show ((w75)) ((a2) + (((x16_5 + 1)) + (x128_10))) = _; congr 1; omega
                have j128_z : ∀ j, ((x16_5 + 1)) ≤ j → j < ((x16_5 + 1)) + (x128_10) → (sh ((w75)) ((a2))) j = 0 := by assumption
                refine Ew_of (pcₚ := 129) (fun _ => x_aload_n rfl l128_1) ?_
                refine Ew_of (pcₚ := 130) (fun _ => x_iload_n rfl l128_2) ?_
                refine Ew_of (pcₚ := 132) (fun _ => x_iload rfl l128_5) ?_
                refine w_iadd rfl ?_
                refine Ew_of (pcₚ := 135) (fun _ => x_iload rfl l128_10) ?_
                refine w_iadd rfl ?_
                refine w_lI H (o := 75) (n := 64) rfl (H.perm 75 rfl) rfl rfl (H.fix 75 rfl rfl) (show 0 ≤ ((a2 + (x16_5 + 1)) + x128_10) ∧ ((a2 + (x16_5 + 1)) + x128_10) < ((64 : Nat) : Int) by omega) (by decide) (fun v130 ev130 qv130 => ?_)
                have qv130 : (-2147483648 : Int) ≤ v130 ∧ v130 ≤ 2147483647 := qv130
                have ev130 : (w75) (((a2 + (x16_5 + 1)) + x128_10)) = v130 := (congrFun ((funext (hA_128 75 rfl)).trans ((funext (hA127 75 rfl)).trans ((funext (hA117 75 rfl)).trans ((funext (hA27 75 rfl)).trans ((funext (hA_16 75 rfl)).trans ((funext (hA5 75 rfl)).trans (ew75))))))) (((a2 + (x16_5 + 1)) + x128_10))).symm.trans ev130
                refine w_ifne (t := 146) rfl rfl (show inr (v130) from q_18 qv130) (fun b131 => ?_) (fun b131 => ?_)
                · have hlz := (SH_le (((x16_5 + 1)) + (x128_10)) hsh (by omega) (by omega)).2.2.2 (by show (sh ((w75)) ((a2))) (((x16_5 + 1)) + (x128_10)) ≠ 0; omega)
                  have hmz := mp_zeroI (P := sh ((w75)) ((a2))) (s := ((x16_5 + 1))) (z := (x128_10)) (t := ((x16_5 + 1)) + (x128_10)) (by omega) (by omega) (by assumption) rfl
                  obtain ⟨q10, hq10⟩ : ∃ q : Int, q = (x128_10) := ⟨_, rfl⟩
                  have hzr : q10 = zrN (cutP 64 (sh ((w75)) ((a2)))) (q5 + 1) 64 := by rw [hq10]; exact (zrN_is (n := 64) (by omega) (by omega) (fun j a b => by rw [cutP_in (by omega)]; exact j128_z j (by omega) (by omega)) (by rw [cutP_in (by omega), show q5 + 1 + (x128_10) = ((x16_5 + 1)) + (x128_10) by omega]; omega)).symm
                  refine Ew_of (pcₚ := 148) (fun _ => x_iload rfl l128_5) ?_
                  refine Ew_of (pcₚ := 150) (fun _ => x_iload rfl l128_10) ?_
                  refine w_iadd rfl ?_
                  refine Ew_of (pcₚ := 153) (fun _ => x_istore rfl) ?_
                  have : ∃ B, zbt q10 = B ++ zbt ((x128_10)) ∧ IMP ((u6_35) + 800 ≤ 192000) (MDA ((w69)) ((u6_35)) ((wq121)) ((y119)) (B1 ++ B)) := ⟨[], by rw [hq10]; rfl, fun q => by rw [List.append_nil]; exact hM1 q⟩
                  suffices hl153 : ∀ (m : Nat), ∀ (ls : rO) (σ : rS) (F_153 : hF) (A_153 : hA) (x153_10 : Int), rlook ls 0 = some (.ref (D 6)) → rlook ls 1 = some (.ref (D 75)) → rlook ls 2 = some (I (a2)) → rlook ls 4 = some (I ((x16_4 - z128))) → rlook ls 5 = some (I (((x16_5 + 1) + x128_10))) → rlook ls 10 = some (I (x153_10)) → HS σ0 σ D N F_153 A_153 → SF [(6, 35)] F_128 F_153 → SA [69] A_128 A_153 → ∀ y153_6_35 : Int, F_153 6 35 = y153_6_35 → ∀ w153_69 : Int → Int, A_153 69 = w153_69 → (inr (x153_10)) → (0 ≤ (x153_10) ∧ (x153_10) ≤ (x128_10)) → ((y119) ≤ (y153_6_35) ∧ (y153_6_35) ≤ (y119) + ((x128_10) - (x153_10))) → (∃ B, zbt q10 = B ++ zbt ((x153_10)) ∧ IMP ((u6_35) + 800 ≤ 192000) (MDA ((w69)) ((u6_35)) ((w153_69)) ((y153_6_35)) (B1 ++ B))) → ((x153_10)).toNat = m → Ew 412 (d + 1) 153 ls [] σ c s Q from
                    hl153 _ _ σ _ _ (x128_10) (rk_o (l128_0) rfl rfl) (rk_o (l128_1) rfl rfl) (rk_o (l128_2) rfl rfl) (rk_o (l128_4) rfl rfl) (rk_s) (rk_o (l128_10) rfl rfl) H (SF_refl) (SA_refl) (y119) ((((hS_128 6 35 rfl).trans (hS126 6 35 rfl)).trans (ey120))) (wq121) ((funext (hA_128 69 rfl)).trans ((funext (hA127 69 rfl)).trans (ewq122))) (show inr (x128_10) by omega) (show 0 ≤ (x128_10) ∧ (x128_10) ≤ (x128_10) by omega) (show (y119) ≤ (y119) ∧ (y119) ≤ (y119) + ((x128_10) - (x128_10)) from q_2466) (show ∃ B, zbt q10 = B ++ zbt ((x128_10)) ∧ IMP ((u6_35) + 800 ≤ 192000) (MDA ((w69)) ((u6_35)) ((wq121)) ((y119)) (B1 ++ B)) by assumption) rfl
                  as_aux_lemma =>
                  intro m
                  induction m using Nat.strongRecOn with
                  | _ m ih153 =>
                    intro ls σ F_153 A_153 x153_10 l153_0 l153_1 l153_2 l153_4 l153_5 l153_10 H hS_153 hA_153 y153_6_35 ey153_6_35 w153_69 ew153_69 j153_0 j153_1 j153_2 j153_3 hm153
                    have r132 : (0 : Int) ≤ y153_6_35 ∧ y153_6_35 ≤ 100000000 := rngE (show (0 : Int) ≤ F_153 6 35 ∧ F_153 6 35 ≤ 100000000 from H.frng 6 35) (show F_153 6 35 = y153_6_35 from (ey153_6_35))
                    have j153_q : ∃ B, zbt q10 = B ++ zbt ((x153_10)) ∧ IMP ((u6_35) + 800 ≤ 192000) (MDA ((w69)) ((u6_35)) ((w153_69)) ((y153_6_35)) (B1 ++ B)) := by assumption
                    obtain ⟨Bz, hBz, hMz⟩ := j153_q
                    obtain ⟨qz10, hqz10⟩ : ∃ q : Int, q = (x153_10) := ⟨_, rfl⟩
                    refine Ew_of (pcₚ := 155) (fun _ => x_iload rfl l153_10) ?_
                    refine Ew_of (pcₚ := 156) (fun _ => x_iconst rfl) ?_
                    refine w_icmple (t := 171) rfl rfl (show inr (x153_10) from j153_0) (show inr (2) from q_122) (fun b133 => ?_) (fun b133 => ?_)
                    · refine Ew_of (pcₚ := 172) (fun _ => x_aload_n rfl l153_0) ?_
                      refine Ew_of (pcₚ := 174) (fun _ => x_iload rfl l153_10) ?_
                      refine Ew_of (pcₚ := 175) (fun _ => x_iconst rfl) ?_
                      refine w_inv H (o := 6) rfl rfl rfl (H.perm 6 rfl) rfl rfl (by rfl) (M389 H (y153_6_35) ((ey153_6_35)) (w153_69) (ew153_69) (show inr (x153_10) from j153_0) (show inr (2) from q_122) (show 0 ≤ (2) ∧ (2) ≤ 31 from q_2467) (show 0 ≤ (y153_6_35) ∧ (y153_6_35) ≤ 90000000 by omega) (fun σ F134 A135 H hS136 hA137 y139 ey140 wq141 ewq142 pz138_0 pz138_1 => ⟨rfl, ?_⟩))
                      have r143 : (0 : Int) ≤ y139 ∧ y139 ≤ 100000000 := rngE (show (0 : Int) ≤ F134 6 35 ∧ F134 6 35 ≤ 100000000 from H.frng 6 35) (show F134 6 35 = y139 from (ey140))
                      have hp4 : IMP ((u6_35) + 800 ≤ 192000) (MDA ((w69)) ((u6_35)) ((wq141)) ((y139)) (B1 ++ zbt q10)) := fun q => by rw [hBz, zbt_e (z := (x153_10)) (by omega), ← List.append_assoc]; exact MDA_t (hMz q) (pz138_1 (by omega))
                      refine Ew_of (pcₚ := 16) (fun _ => x_goto rfl rfl) ?_
                      have : ∃ B, SBO (cutP 64 (sh ((w75)) ((a2)))) ((a3)) ((((x16_5 + 1) + x128_10))) (((x16_4 - z128))) B ∧ IMP ((u6_35) + 800 ≤ 192000) (MDA ((w69)) ((u6_35)) ((wq141)) ((y139)) (B)) := by first | exact ⟨_, SBO_z hST (by omega) (by rw [hcP]; omega) hzr (by omega) (by omega) (by rw [← hB1]), hp4⟩ | exact ⟨_, SBO_s hST (by omega) (by rw [hcP]; omega) (by omega) (by rw [hcP]; omega) hB1, hM1⟩
                      exact ih16 _ (msE hm16 (q_2472 j153_1) (q_1345 hl64)) _ σ _ _ ((x16_4 - z128)) (((x16_5 + 1) + x128_10)) (l153_0) (l153_1) (l153_2) (l153_4) (l153_5) H (SF_trans (SF_trans (SF_trans (SF_trans (SF_trans (SF_trans (hS_16) hS26 (any_sub rfl)) hS116 (any_sub rfl)) hS126 (any_sub rfl)) hS_128 (any_sub rfl)) hS_153 (any_sub rfl)) hS136 (any_sub rfl)) (SA_trans (SA_trans (SA_trans (SA_trans (SA_trans (SA_trans (hA_16) hA27 (any_subA rfl)) hA117 (any_subA rfl)) hA127 (any_subA rfl)) hA_128 (any_subA rfl)) hA_153 (any_subA rfl)) hA137 (any_subA rfl)) (y139) ((ey140)) (wq141) (ewq142) (show inr ((x16_4 - z128)) from q_2488 b112 b129 b14 pz128_0 pz28_2) (show inr (((x16_5 + 1) + x128_10)) by omega) (show 0 ≤ (((x16_5 + 1) + x128_10)) ∧ (((x16_5 + 1) + x128_10)) ≤ 64 by omega) (show (((x16_5 + 1) + x128_10)) ≤ lst + 1 by omega) (show ((x16_4 - z128)) = p2 ((a3)) - mp (sh ((w75)) ((a2))) ((((x16_5 + 1) + x128_10))) from q_2487 b112 b129 b14 pz28_2) (show 0 ≤ ((x16_4 - z128)) ∧ ((x16_4 - z128)) ≤ 512 from q_2486 b112 b129 b14 pz128_0 pz28_2) (show (u6_35) ≤ (y139) ∧ (y139) ≤ (u6_35) + 4 + 12 * (((x16_5 + 1) + x128_10)) from q_2485 h4 hk9 j153_1 j153_2 j16_6 pz118_0 pz138_0 pz28_1 r143) (show ∃ B, SBO (cutP 64 (sh ((w75)) ((a2)))) ((a3)) ((((x16_5 + 1) + x128_10))) (((x16_4 - z128))) B ∧ IMP ((u6_35) + 800 ≤ 192000) (MDA ((w69)) ((u6_35)) ((wq141)) ((y139)) (B)) by assumption) rfl
                    · refine Ew_of (pcₚ := 160) (fun _ => x_aload_n rfl l153_0) ?_
                      refine Ew_of (pcₚ := 161) (fun _ => x_iconst rfl) ?_
                      refine Ew_of (pcₚ := 162) (fun _ => x_iconst rfl) ?_
                      refine w_inv H (o := 6) rfl rfl rfl (H.perm 6 rfl) rfl rfl (by rfl) (M389 H (y153_6_35) ((ey153_6_35)) (w153_69) (ew153_69) (show inr (3) from q_246) (show inr (2) from q_122) (show 0 ≤ (2) ∧ (2) ≤ 31 from q_2467) (show 0 ≤ (y153_6_35) ∧ (y153_6_35) ≤ 90000000 by omega) (fun σ F144 A145 H hS146 hA147 y149 ey150 wq151 ewq152 pz148_0 pz148_1 => ⟨rfl, ?_⟩))
                      have r153 : (0 : Int) ≤ y149 ∧ y149 ≤ 100000000 := rngE (show (0 : Int) ≤ F144 6 35 ∧ F144 6 35 ≤ 100000000 from H.frng 6 35) (show F144 6 35 = y149 from (ey150))
                      have hp3 : IMP ((u6_35) + 800 ≤ 192000) (MDA ((w69)) ((u6_35)) ((wq151)) ((y149)) (B1 ++ Bz ++ btw 3 2)) := fun q => MDA_t (hMz q) (pz148_1 (by omega))
                      refine Ew_of (pcₚ := 168) (fun _ => x_iinc (len := 3) rfl (l153_10)) ?_
                      refine Ew_of (pcₚ := 153) (fun _ => x_goto rfl rfl) ?_
                      have : ∃ B, zbt q10 = B ++ zbt (((x153_10 + (-3)))) ∧ IMP ((u6_35) + 800 ≤ 192000) (MDA ((w69)) ((u6_35)) ((wq151)) ((y149)) (B1 ++ B)) := ⟨Bz ++ btw 3 2, by (have hz : zbt qz10 = btw 3 2 ++ zbt (((x153_10 + (-3)))) := zbt_s (by omega) (by omega)); rw [hqz10] at hz; rw [hBz, hz, List.append_assoc], fun q => by rw [← List.append_assoc]; exact hp3 q⟩
                      exact ih153 _ (msE hm153 q_2476 (q_2477 b133)) _ σ _ _ ((x153_10 + (-3))) (rk_o (l153_0) rfl rfl) (rk_o (l153_1) rfl rfl) (rk_o (l153_2) rfl rfl) (rk_o (l153_4) rfl rfl) (rk_o (l153_5) rfl rfl) (rk_s) H (SF_trans (hS_153) hS146 (any_sub rfl)) (SA_trans (hA_153) hA147 (any_subA rfl)) (y149) ((ey150)) (wq151) (ewq152) (show inr ((x153_10 + (-3))) from q_2475 b133 j153_0) (show 0 ≤ ((x153_10 + (-3))) ∧ ((x153_10 + (-3))) ≤ (x128_10) from q_2474 b133 j153_1) (show (y119) ≤ (y149) ∧ (y149) ≤ (y119) + ((x128_10) - ((x153_10 + (-3)))) from q_2473 j153_2 pz148_0) (show ∃ B, zbt q10 = B ++ zbt (((x153_10 + (-3)))) ∧ IMP ((u6_35) + 800 ≤ 192000) (MDA ((w69)) ((u6_35)) ((wq151)) ((y149)) (B1 ++ B)) by assumption) rfl
                · refine Ew_of (pcₚ := 143) (fun _ => x_iinc (len := 3) rfl (l128_10)) ?_
                  refine Ew_of (pcₚ := 128) (fun _ => x_goto rfl rfl) ?_
                  have hnq : ¬ ((fun k => (sh ((w75)) ((a2))) (((x16_5 + 1)) + k) ≠ 0)) x128_10 := fun q => by have q : (sh ((w75)) ((a2))) (((x16_5 + 1)) + x128_10) ≠ 0 := q; omega
                  have : ∀ j, ((x16_5 + 1)) ≤ j → j < ((x16_5 + 1)) + ((x128_10 + 1)) → (sh ((w75)) ((a2))) j = 0 := fun j a b => by by_cases e : j = ((x16_5 + 1)) + x128_10; (rw [e]; omega); exact j128_z j a (by omega)
                  have hfn := FP_next hm128 hnq (show ((x128_10 + 1)) = x128_10 + 1 from rfl)
                  have := hfn.1
                  have := hfn.2
                  exact ih128 (mx - 1) (by omega) _ σ _ _ ((x128_10 + 1)) (rk_o (l128_0) rfl rfl) (rk_o (l128_1) rfl rfl) (rk_o (l128_2) rfl rfl) (rk_o (l128_4) rfl rfl) (rk_o (l128_5) rfl rfl) (rk_s) H (hS_128) (hA_128)   (show inr ((x128_10 + 1)) by omega) (show 0 ≤ ((x128_10 + 1)) by omega) (show ∀ j, ((x16_5 + 1)) ≤ j → j < ((x16_5 + 1)) + ((x128_10 + 1)) → (sh ((w75)) ((a2))) j = 0 by assumption) (by assumption)
            · refine Ew_of (pcₚ := 16) (fun _ => x_goto rfl rfl) ?_
              have : ∃ B, SBO (cutP 64 (sh ((w75)) ((a2)))) ((a3)) (((x16_5 + 1))) (((x16_4 - z128))) B ∧ IMP ((u6_35) + 800 ≤ 192000) (MDA ((w69)) ((u6_35)) ((wq121)) ((y119)) (B)) := by first | exact ⟨_, SBO_z hST (by omega) (by rw [hcP]; omega) hzr (by omega) (by omega) (by rw [← hB1]), hp4⟩ | exact ⟨_, SBO_s hST (by omega) (by rw [hcP]; omega) (by omega) (by rw [hcP]; omega) hB1, hM1⟩
              exact ih16 _ (msE hm16 q_1344 (q_1345 hl64)) _ σ _ _ ((x16_4 - z128)) ((x16_5 + 1)) (rk_o (rk_o (rk_o (rk_o (rk_o (rk_o (l16_0) rfl rfl) rfl rfl) rfl rfl) rfl rfl) rfl rfl) rfl rfl) (rk_o (rk_o (rk_o (rk_o (rk_o (rk_o (l16_1) rfl rfl) rfl rfl) rfl rfl) rfl rfl) rfl rfl) rfl rfl) (rk_o (rk_o (rk_o (rk_o (rk_o (rk_o (l16_2) rfl rfl) rfl rfl) rfl rfl) rfl rfl) rfl rfl) rfl rfl) (rk_o (rk_s) rfl rfl) (rk_s) H (SF_trans (SF_trans (SF_trans (hS_16) hS26 (any_sub rfl)) hS116 (any_sub rfl)) hS126 (any_sub rfl)) (SA_trans (SA_trans (SA_trans (hA_16) hA27 (any_subA rfl)) hA117 (any_subA rfl)) hA127 (any_subA rfl)) (y119) (((hS126 6 35 rfl).trans (ey120))) (wq121) ((funext (hA127 69 rfl)).trans (ewq122)) (show inr ((x16_4 - z128)) by omega) (show inr ((x16_5 + 1)) from q_2480 hl64 j16_6) (show 0 ≤ ((x16_5 + 1)) ∧ ((x16_5 + 1)) ≤ 64 from q_2479 hl64 j16_6) (show ((x16_5 + 1)) ≤ lst + 1 from q_167 hll) (show ((x16_4 - z128)) = p2 ((a3)) - mp (sh ((w75)) ((a2))) (((x16_5 + 1))) by omega) (show 0 ≤ ((x16_4 - z128)) ∧ ((x16_4 - z128)) ≤ 512 by omega) (show (u6_35) ≤ (y119) ∧ (y119) ≤ (u6_35) + 4 + 12 * ((x16_5 + 1)) from q_2489 h4 hk9 j16_6 pz118_0 pz28_1 r123) (show ∃ B, SBO (cutP 64 (sh ((w75)) ((a2)))) ((a3)) (((x16_5 + 1))) (((x16_4 - z128))) B ∧ IMP ((u6_35) + 800 ≤ 192000) (MDA ((w69)) ((u6_35)) ((wq121)) ((y119)) (B)) by assumption) rfl
          · refine Ew_of (pcₚ := 91) (fun _ => x_iload rfl (rk_o (rk_o (rk_s) rfl rfl) rfl rfl)) ?_
            refine Ew_of (pcₚ := 98) (fun _ => x_goto rfl rfl) ?_
            have hbu : btw ((((v23 + 1) + (((2 * p2 (z28)) - 2) - x16_4)))) ((z28)) = stU (cutP 64 (sh ((w75)) ((a2)))) q5 q4 := stU_is (k := (z28)) (by omega) (by omega) (by omega) (by omega : ((((2 * p2 (z28)) - 2) - x16_4)) = _) (by omega : ((v23 + 1)) = _) (by omega) (by omega)
            refine w_inv H (o := 6) rfl rfl rfl (H.perm 6 rfl) rfl rfl (by rfl) (M389 H (y16_6_35) (((hS26 6 35 rfl).trans (ey16_6_35))) (w16_69) ((funext (hA27 69 rfl)).trans (ew16_69)) (show inr (((v23 + 1) + (((2 * p2 (z28)) - 2) - x16_4))) from q_2490 b113 b30 j16_5 pz28_2) (show inr (z28) from pz28_0) (show 0 ≤ (z28) ∧ (z28) ≤ 31 from q_2457 hk9 pz28_1) (show 0 ≤ (y16_6_35) ∧ (y16_6_35) ≤ 90000000 from q_2460 h4 hl64 j16_6 r13) (fun σ F154 A155 H hS156 hA157 y159 ey160 wq161 ewq162 pz158_0 pz158_1 => ⟨rfl, ?_⟩))
            have r163 : (0 : Int) ≤ y159 ∧ y159 ≤ 100000000 := rngE (show (0 : Int) ≤ F154 6 35 ∧ F154 6 35 ≤ 100000000 from H.frng 6 35) (show F154 6 35 = y159 from (ey160))
            obtain ⟨B1, hB1⟩ : ∃ B : List Int, B = B_ ++ stU (cutP 64 (sh ((w75)) ((a2)))) q5 q4 := ⟨_, rfl⟩
            have hM1 : IMP ((u6_35) + 800 ≤ 192000) (MDA ((w69)) ((u6_35)) ((wq161)) ((y159)) (B1)) := fun q => by rw [hB1]; exact MDA_t (hMD q) (by have h := pz158_1 (by omega); rw [hbu] at h; exact h)
            refine Ew_of (pcₚ := 103) (fun _ => x_iload rfl (rk_o (rk_o (rk_o (rk_o (l16_4) rfl rfl) rfl rfl) rfl rfl) rfl rfl)) ?_
            refine Ew_of (pcₚ := 105) (fun _ => x_iload rfl (rk_o (rk_o (rk_o (rk_s) rfl rfl) rfl rfl) rfl rfl)) ?_
            refine Ew_of (pcₚ := 106) (fun _ => x_iconst rfl) ?_
            refine w_isub rfl ?_
            refine w_stat24 rfl rfl (by rfl) (M406 H (show inr (((v23 + 1) - 1)) from q_2465 qv23) (show -1 ≤ (((v23 + 1) - 1)) from q_2464 b113 b30 qv23) (fun z168 σ F164 A165 H hS166 hA167 pz168_0 pz168_1 => ⟨rfl, ?_⟩))
            have hmv : (z168) = mass ((sh ((w75)) ((a2))) ((x16_5))) := by rw [pz168_1]; congr 1; omega
            refine w_isub rfl ?_
            refine Ew_of (pcₚ := 113) (fun _ => x_istore rfl) ?_
            refine Ew_of (pcₚ := 116) (fun _ => x_iinc (len := 3) rfl (rk_o (rk_o (rk_o (rk_o (rk_o (l16_5) rfl rfl) rfl rfl) rfl rfl) rfl rfl) rfl rfl)) ?_
            refine Ew_of (pcₚ := 118) (fun _ => x_iload rfl (rk_o (rk_o (rk_o (rk_o (rk_o (rk_s) rfl rfl) rfl rfl) rfl rfl) rfl rfl) rfl rfl)) ?_
            refine Ew_of (pcₚ := 119) (fun _ => x_iconst rfl) ?_
            refine w_icmpeq (t := 125) rfl rfl (show inr ((v23 + 1)) from q_2463 b113 b30 qv23) (show inr (1) from q_135) (fun b169 => ?_) (fun b169 => ?_)
            · refine Ew_of (pcₚ := 126) (fun _ => x_iconst rfl) ?_
              refine Ew_of (pcₚ := 128) (fun _ => x_istore rfl) ?_
              obtain ⟨m0, hm0⟩ := FP_ex (nz_ex (P := sh ((w75)) ((a2))) (s := ((x16_5 + 1))) (by omega) (by omega) (by omega))
              have : ∀ j, ((x16_5 + 1)) ≤ j → j < ((x16_5 + 1)) + 0 → (sh ((w75)) ((a2))) j = 0 := fun j a b => absurd b (by omega)
              suffices hl128 : ∀ (mx : Nat), ∀ (ls : rO) (σ : rS) (F_128 : hF) (A_128 : hA) (x128_10 : Int), rlook ls 0 = some (.ref (D 6)) → rlook ls 1 = some (.ref (D 75)) → rlook ls 2 = some (I (a2)) → rlook ls 4 = some (I ((x16_4 - z168))) → rlook ls 5 = some (I ((x16_5 + 1))) → rlook ls 10 = some (I (x128_10)) → HS σ0 σ D N F_128 A_128 → SF [] F164 F_128 → SA [] A165 A_128 → (inr (x128_10)) → (0 ≤ (x128_10)) → (∀ j, ((x16_5 + 1)) ≤ j → j < ((x16_5 + 1)) + (x128_10) → (sh ((w75)) ((a2))) j = 0) → (FP (fun k => (sh ((w75)) ((a2))) (((x16_5 + 1)) + k) ≠ 0) (64 - ((x16_5 + 1))) ((x128_10)) mx) → Ew 412 (d + 1) 128 ls [] σ c s Q from
                hl128 (m0) _ σ _ _ (0) (rk_o (rk_o (rk_o (rk_o (rk_o (rk_o (rk_o (l16_0) rfl rfl) rfl rfl) rfl rfl) rfl rfl) rfl rfl) rfl rfl) rfl rfl) (rk_o (rk_o (rk_o (rk_o (rk_o (rk_o (rk_o (l16_1) rfl rfl) rfl rfl) rfl rfl) rfl rfl) rfl rfl) rfl rfl) rfl rfl) (rk_o (rk_o (rk_o (rk_o (rk_o (rk_o (rk_o (l16_2) rfl rfl) rfl rfl) rfl rfl) rfl rfl) rfl rfl) rfl rfl) rfl rfl) (rk_o (rk_o (rk_s) rfl rfl) rfl rfl) (rk_o (rk_s) rfl rfl) (rk_s) H (SF_refl) (SA_refl)   (show inr (0) from q_2) (show 0 ≤ (0) from q_1) (show ∀ j, ((x16_5 + 1)) ≤ j → j < ((x16_5 + 1)) + (0) → (sh ((w75)) ((a2))) j = 0 by assumption) (by assumption)
              as_aux_lemma =>
              intro mx
              induction mx using Nat.strongRecOn with
              | _ mx ih128 =>
                intro ls σ F_128 A_128 x128_10 l128_0 l128_1 l128_2 l128_4 l128_5 l128_10 H hS_128 hA_128   j128_0 j128_1 j128_2 hm128
                have hfl := FP_lt hm128
                have hpz : (sh ((w75)) ((a2))) (((x16_5 + 1)) + (x128_10)) = ((w75)) ((a2) + ((x16_5 + 1)) + (x128_10)) := by show ((w75)) ((a2) + (((x16_5 + 1)) + (x128_10))) = _; congr 1; omega
                have j128_z : ∀ j, ((x16_5 + 1)) ≤ j → j < ((x16_5 + 1)) + (x128_10) → (sh ((w75)) ((a2))) j = 0 := by assumption
                refine Ew_of (pcₚ := 129) (fun _ => x_aload_n rfl l128_1) ?_
                refine Ew_of (pcₚ := 130) (fun _ => x_iload_n rfl l128_2) ?_
                refine Ew_of (pcₚ := 132) (fun _ => x_iload rfl l128_5) ?_
                refine w_iadd rfl ?_
                refine Ew_of (pcₚ := 135) (fun _ => x_iload rfl l128_10) ?_
                refine w_iadd rfl ?_
                refine w_lI H (o := 75) (n := 64) rfl (H.perm 75 rfl) rfl rfl (H.fix 75 rfl rfl) (show 0 ≤ ((a2 + (x16_5 + 1)) + x128_10) ∧ ((a2 + (x16_5 + 1)) + x128_10) < ((64 : Nat) : Int) by omega) (by decide) (fun v170 ev170 qv170 => ?_)
                have qv170 : (-2147483648 : Int) ≤ v170 ∧ v170 ≤ 2147483647 := qv170
                have ev170 : (w75) (((a2 + (x16_5 + 1)) + x128_10)) = v170 := (congrFun ((funext (hA_128 75 rfl)).trans ((funext (hA167 75 rfl)).trans ((funext (hA157 75 rfl)).trans ((funext (hA27 75 rfl)).trans ((funext (hA_16 75 rfl)).trans ((funext (hA5 75 rfl)).trans (ew75))))))) (((a2 + (x16_5 + 1)) + x128_10))).symm.trans ev170
                refine w_ifne (t := 146) rfl rfl (show inr (v170) from q_18 qv170) (fun b171 => ?_) (fun b171 => ?_)
                · have hlz := (SH_le (((x16_5 + 1)) + (x128_10)) hsh (by omega) (by omega)).2.2.2 (by show (sh ((w75)) ((a2))) (((x16_5 + 1)) + (x128_10)) ≠ 0; omega)
                  have hmz := mp_zeroI (P := sh ((w75)) ((a2))) (s := ((x16_5 + 1))) (z := (x128_10)) (t := ((x16_5 + 1)) + (x128_10)) (by omega) (by omega) (by assumption) rfl
                  obtain ⟨q10, hq10⟩ : ∃ q : Int, q = (x128_10) := ⟨_, rfl⟩
                  have hzr : q10 = zrN (cutP 64 (sh ((w75)) ((a2)))) (q5 + 1) 64 := by rw [hq10]; exact (zrN_is (n := 64) (by omega) (by omega) (fun j a b => by rw [cutP_in (by omega)]; exact j128_z j (by omega) (by omega)) (by rw [cutP_in (by omega), show q5 + 1 + (x128_10) = ((x16_5 + 1)) + (x128_10) by omega]; omega)).symm
                  refine Ew_of (pcₚ := 148) (fun _ => x_iload rfl l128_5) ?_
                  refine Ew_of (pcₚ := 150) (fun _ => x_iload rfl l128_10) ?_
                  refine w_iadd rfl ?_
                  refine Ew_of (pcₚ := 153) (fun _ => x_istore rfl) ?_
                  have : ∃ B, zbt q10 = B ++ zbt ((x128_10)) ∧ IMP ((u6_35) + 800 ≤ 192000) (MDA ((w69)) ((u6_35)) ((wq161)) ((y159)) (B1 ++ B)) := ⟨[], by rw [hq10]; rfl, fun q => by rw [List.append_nil]; exact hM1 q⟩
                  suffices hl153 : ∀ (m : Nat), ∀ (ls : rO) (σ : rS) (F_153 : hF) (A_153 : hA) (x153_10 : Int), rlook ls 0 = some (.ref (D 6)) → rlook ls 1 = some (.ref (D 75)) → rlook ls 2 = some (I (a2)) → rlook ls 4 = some (I ((x16_4 - z168))) → rlook ls 5 = some (I (((x16_5 + 1) + x128_10))) → rlook ls 10 = some (I (x153_10)) → HS σ0 σ D N F_153 A_153 → SF [(6, 35)] F_128 F_153 → SA [69] A_128 A_153 → ∀ y153_6_35 : Int, F_153 6 35 = y153_6_35 → ∀ w153_69 : Int → Int, A_153 69 = w153_69 → (inr (x153_10)) → (0 ≤ (x153_10) ∧ (x153_10) ≤ (x128_10)) → ((y159) ≤ (y153_6_35) ∧ (y153_6_35) ≤ (y159) + ((x128_10) - (x153_10))) → (∃ B, zbt q10 = B ++ zbt ((x153_10)) ∧ IMP ((u6_35) + 800 ≤ 192000) (MDA ((w69)) ((u6_35)) ((w153_69)) ((y153_6_35)) (B1 ++ B))) → ((x153_10)).toNat = m → Ew 412 (d + 1) 153 ls [] σ c s Q from
                    hl153 _ _ σ _ _ (x128_10) (rk_o (l128_0) rfl rfl) (rk_o (l128_1) rfl rfl) (rk_o (l128_2) rfl rfl) (rk_o (l128_4) rfl rfl) (rk_s) (rk_o (l128_10) rfl rfl) H (SF_refl) (SA_refl) (y159) ((((hS_128 6 35 rfl).trans (hS166 6 35 rfl)).trans (ey160))) (wq161) ((funext (hA_128 69 rfl)).trans ((funext (hA167 69 rfl)).trans (ewq162))) (show inr (x128_10) by omega) (show 0 ≤ (x128_10) ∧ (x128_10) ≤ (x128_10) by omega) (show (y159) ≤ (y159) ∧ (y159) ≤ (y159) + ((x128_10) - (x128_10)) from q_2466) (show ∃ B, zbt q10 = B ++ zbt ((x128_10)) ∧ IMP ((u6_35) + 800 ≤ 192000) (MDA ((w69)) ((u6_35)) ((wq161)) ((y159)) (B1 ++ B)) by assumption) rfl
                  as_aux_lemma =>
                  intro m
                  induction m using Nat.strongRecOn with
                  | _ m ih153 =>
                    intro ls σ F_153 A_153 x153_10 l153_0 l153_1 l153_2 l153_4 l153_5 l153_10 H hS_153 hA_153 y153_6_35 ey153_6_35 w153_69 ew153_69 j153_0 j153_1 j153_2 j153_3 hm153
                    have r172 : (0 : Int) ≤ y153_6_35 ∧ y153_6_35 ≤ 100000000 := rngE (show (0 : Int) ≤ F_153 6 35 ∧ F_153 6 35 ≤ 100000000 from H.frng 6 35) (show F_153 6 35 = y153_6_35 from (ey153_6_35))
                    have j153_q : ∃ B, zbt q10 = B ++ zbt ((x153_10)) ∧ IMP ((u6_35) + 800 ≤ 192000) (MDA ((w69)) ((u6_35)) ((w153_69)) ((y153_6_35)) (B1 ++ B)) := by assumption
                    obtain ⟨Bz, hBz, hMz⟩ := j153_q
                    obtain ⟨qz10, hqz10⟩ : ∃ q : Int, q = (x153_10) := ⟨_, rfl⟩
                    refine Ew_of (pcₚ := 155) (fun _ => x_iload rfl l153_10) ?_
                    refine Ew_of (pcₚ := 156) (fun _ => x_iconst rfl) ?_
                    refine w_icmple (t := 171) rfl rfl (show inr (x153_10) from j153_0) (show inr (2) from q_122) (fun b173 => ?_) (fun b173 => ?_)
                    · refine Ew_of (pcₚ := 172) (fun _ => x_aload_n rfl l153_0) ?_
                      refine Ew_of (pcₚ := 174) (fun _ => x_iload rfl l153_10) ?_
                      refine Ew_of (pcₚ := 175) (fun _ => x_iconst rfl) ?_
                      refine w_inv H (o := 6) rfl rfl rfl (H.perm 6 rfl) rfl rfl (by rfl) (M389 H (y153_6_35) ((ey153_6_35)) (w153_69) (ew153_69) (show inr (x153_10) from j153_0) (show inr (2) from q_122) (show 0 ≤ (2) ∧ (2) ≤ 31 from q_2467) (show 0 ≤ (y153_6_35) ∧ (y153_6_35) ≤ 90000000 by omega) (fun σ F174 A175 H hS176 hA177 y179 ey180 wq181 ewq182 pz178_0 pz178_1 => ⟨rfl, ?_⟩))
                      have r183 : (0 : Int) ≤ y179 ∧ y179 ≤ 100000000 := rngE (show (0 : Int) ≤ F174 6 35 ∧ F174 6 35 ≤ 100000000 from H.frng 6 35) (show F174 6 35 = y179 from (ey180))
                      have hp4 : IMP ((u6_35) + 800 ≤ 192000) (MDA ((w69)) ((u6_35)) ((wq181)) ((y179)) (B1 ++ zbt q10)) := fun q => by rw [hBz, zbt_e (z := (x153_10)) (by omega), ← List.append_assoc]; exact MDA_t (hMz q) (pz178_1 (by omega))
                      refine Ew_of (pcₚ := 16) (fun _ => x_goto rfl rfl) ?_
                      have : ∃ B, SBO (cutP 64 (sh ((w75)) ((a2)))) ((a3)) ((((x16_5 + 1) + x128_10))) (((x16_4 - z168))) B ∧ IMP ((u6_35) + 800 ≤ 192000) (MDA ((w69)) ((u6_35)) ((wq181)) ((y179)) (B)) := by first | exact ⟨_, SBO_z hST (by omega) (by rw [hcP]; omega) hzr (by omega) (by omega) (by rw [← hB1]), hp4⟩ | exact ⟨_, SBO_s hST (by omega) (by rw [hcP]; omega) (by omega) (by rw [hcP]; omega) hB1, hM1⟩
                      exact ih16 _ (msE hm16 (q_2472 j153_1) (q_1345 hl64)) _ σ _ _ ((x16_4 - z168)) (((x16_5 + 1) + x128_10)) (l153_0) (l153_1) (l153_2) (l153_4) (l153_5) H (SF_trans (SF_trans (SF_trans (SF_trans (SF_trans (SF_trans (hS_16) hS26 (any_sub rfl)) hS156 (any_sub rfl)) hS166 (any_sub rfl)) hS_128 (any_sub rfl)) hS_153 (any_sub rfl)) hS176 (any_sub rfl)) (SA_trans (SA_trans (SA_trans (SA_trans (SA_trans (SA_trans (hA_16) hA27 (any_subA rfl)) hA157 (any_subA rfl)) hA167 (any_subA rfl)) hA_128 (any_subA rfl)) hA_153 (any_subA rfl)) hA177 (any_subA rfl)) (y179) ((ey180)) (wq181) (ewq182) (show inr ((x16_4 - z168)) from q_2493 b113 b14 b30 j16_5 pz168_0) (show inr (((x16_5 + 1) + x128_10)) by omega) (show 0 ≤ (((x16_5 + 1) + x128_10)) ∧ (((x16_5 + 1) + x128_10)) ≤ 64 by omega) (show (((x16_5 + 1) + x128_10)) ≤ lst + 1 by omega) (show ((x16_4 - z168)) = p2 ((a3)) - mp (sh ((w75)) ((a2))) ((((x16_5 + 1) + x128_10))) from q_2470 b113 b30) (show 0 ≤ ((x16_4 - z168)) ∧ ((x16_4 - z168)) ≤ 512 from q_2492 b113 b14 b30 j16_5 pz168_0) (show (u6_35) ≤ (y179) ∧ (y179) ≤ (u6_35) + 4 + 12 * (((x16_5 + 1) + x128_10)) from q_2491 h4 hk9 j153_1 j153_2 j16_6 pz158_0 pz178_0 pz28_1 r183) (show ∃ B, SBO (cutP 64 (sh ((w75)) ((a2)))) ((a3)) ((((x16_5 + 1) + x128_10))) (((x16_4 - z168))) B ∧ IMP ((u6_35) + 800 ≤ 192000) (MDA ((w69)) ((u6_35)) ((wq181)) ((y179)) (B)) by assumption) rfl
                    · refine Ew_of (pcₚ := 160) (fun _ => x_aload_n rfl l153_0) ?_
                      refine Ew_of (pcₚ := 161) (fun _ => x_iconst rfl) ?_
                      refine Ew_of (pcₚ := 162) (fun _ => x_iconst rfl) ?_
                      refine w_inv H (o := 6) rfl rfl rfl (H.perm 6 rfl) rfl rfl (by rfl) (M389 H (y153_6_35) ((ey153_6_35)) (w153_69) (ew153_69) (show inr (3) from q_246) (show inr (2) from q_122) (show 0 ≤ (2) ∧ (2) ≤ 31 from q_2467) (show 0 ≤ (y153_6_35) ∧ (y153_6_35) ≤ 90000000 by omega) (fun σ F184 A185 H hS186 hA187 y189 ey190 wq191 ewq192 pz188_0 pz188_1 => ⟨rfl, ?_⟩))
                      have r193 : (0 : Int) ≤ y189 ∧ y189 ≤ 100000000 := rngE (show (0 : Int) ≤ F184 6 35 ∧ F184 6 35 ≤ 100000000 from H.frng 6 35) (show F184 6 35 = y189 from (ey190))
                      have hp3 : IMP ((u6_35) + 800 ≤ 192000) (MDA ((w69)) ((u6_35)) ((wq191)) ((y189)) (B1 ++ Bz ++ btw 3 2)) := fun q => MDA_t (hMz q) (pz188_1 (by omega))
                      refine Ew_of (pcₚ := 168) (fun _ => x_iinc (len := 3) rfl (l153_10)) ?_
                      refine Ew_of (pcₚ := 153) (fun _ => x_goto rfl rfl) ?_
                      have : ∃ B, zbt q10 = B ++ zbt (((x153_10 + (-3)))) ∧ IMP ((u6_35) + 800 ≤ 192000) (MDA ((w69)) ((u6_35)) ((wq191)) ((y189)) (B1 ++ B)) := ⟨Bz ++ btw 3 2, by (have hz : zbt qz10 = btw 3 2 ++ zbt (((x153_10 + (-3)))) := zbt_s (by omega) (by omega)); rw [hqz10] at hz; rw [hBz, hz, List.append_assoc], fun q => by rw [← List.append_assoc]; exact hp3 q⟩
                      exact ih153 _ (msE hm153 q_2476 (q_2477 b173)) _ σ _ _ ((x153_10 + (-3))) (rk_o (l153_0) rfl rfl) (rk_o (l153_1) rfl rfl) (rk_o (l153_2) rfl rfl) (rk_o (l153_4) rfl rfl) (rk_o (l153_5) rfl rfl) (rk_s) H (SF_trans (hS_153) hS186 (any_sub rfl)) (SA_trans (hA_153) hA187 (any_subA rfl)) (y189) ((ey190)) (wq191) (ewq192) (show inr ((x153_10 + (-3))) from q_2475 b173 j153_0) (show 0 ≤ ((x153_10 + (-3))) ∧ ((x153_10 + (-3))) ≤ (x128_10) from q_2474 b173 j153_1) (show (y159) ≤ (y189) ∧ (y189) ≤ (y159) + ((x128_10) - ((x153_10 + (-3)))) from q_2473 j153_2 pz188_0) (show ∃ B, zbt q10 = B ++ zbt (((x153_10 + (-3)))) ∧ IMP ((u6_35) + 800 ≤ 192000) (MDA ((w69)) ((u6_35)) ((wq191)) ((y189)) (B1 ++ B)) by assumption) rfl
                · refine Ew_of (pcₚ := 143) (fun _ => x_iinc (len := 3) rfl (l128_10)) ?_
                  refine Ew_of (pcₚ := 128) (fun _ => x_goto rfl rfl) ?_
                  have hnq : ¬ ((fun k => (sh ((w75)) ((a2))) (((x16_5 + 1)) + k) ≠ 0)) x128_10 := fun q => by have q : (sh ((w75)) ((a2))) (((x16_5 + 1)) + x128_10) ≠ 0 := q; omega
                  have : ∀ j, ((x16_5 + 1)) ≤ j → j < ((x16_5 + 1)) + ((x128_10 + 1)) → (sh ((w75)) ((a2))) j = 0 := fun j a b => by by_cases e : j = ((x16_5 + 1)) + x128_10; (rw [e]; omega); exact j128_z j a (by omega)
                  have hfn := FP_next hm128 hnq (show ((x128_10 + 1)) = x128_10 + 1 from rfl)
                  have := hfn.1
                  have := hfn.2
                  exact ih128 (mx - 1) (by omega) _ σ _ _ ((x128_10 + 1)) (rk_o (l128_0) rfl rfl) (rk_o (l128_1) rfl rfl) (rk_o (l128_2) rfl rfl) (rk_o (l128_4) rfl rfl) (rk_o (l128_5) rfl rfl) (rk_s) H (hS_128) (hA_128)   (show inr ((x128_10 + 1)) by omega) (show 0 ≤ ((x128_10 + 1)) by omega) (show ∀ j, ((x16_5 + 1)) ≤ j → j < ((x16_5 + 1)) + ((x128_10 + 1)) → (sh ((w75)) ((a2))) j = 0 by assumption) (by assumption)
            · refine Ew_of (pcₚ := 16) (fun _ => x_goto rfl rfl) ?_
              have : ∃ B, SBO (cutP 64 (sh ((w75)) ((a2)))) ((a3)) (((x16_5 + 1))) (((x16_4 - z168))) B ∧ IMP ((u6_35) + 800 ≤ 192000) (MDA ((w69)) ((u6_35)) ((wq161)) ((y159)) (B)) := by first | exact ⟨_, SBO_z hST (by omega) (by rw [hcP]; omega) hzr (by omega) (by omega) (by rw [← hB1]), hp4⟩ | exact ⟨_, SBO_s hST (by omega) (by rw [hcP]; omega) (by omega) (by rw [hcP]; omega) hB1, hM1⟩
              exact ih16 _ (msE hm16 q_1344 (q_1345 hl64)) _ σ _ _ ((x16_4 - z168)) ((x16_5 + 1)) (rk_o (rk_o (rk_o (rk_o (rk_o (rk_o (l16_0) rfl rfl) rfl rfl) rfl rfl) rfl rfl) rfl rfl) rfl rfl) (rk_o (rk_o (rk_o (rk_o (rk_o (rk_o (l16_1) rfl rfl) rfl rfl) rfl rfl) rfl rfl) rfl rfl) rfl rfl) (rk_o (rk_o (rk_o (rk_o (rk_o (rk_o (l16_2) rfl rfl) rfl rfl) rfl rfl) rfl rfl) rfl rfl) rfl rfl) (rk_o (rk_s) rfl rfl) (rk_s) H (SF_trans (SF_trans (SF_trans (hS_16) hS26 (any_sub rfl)) hS156 (any_sub rfl)) hS166 (any_sub rfl)) (SA_trans (SA_trans (SA_trans (hA_16) hA27 (any_subA rfl)) hA157 (any_subA rfl)) hA167 (any_subA rfl)) (y159) (((hS166 6 35 rfl).trans (ey160))) (wq161) ((funext (hA167 69 rfl)).trans (ewq162)) (show inr ((x16_4 - z168)) from q_2493 b113 b14 b30 j16_5 pz168_0) (show inr ((x16_5 + 1)) from q_2480 hl64 j16_6) (show 0 ≤ ((x16_5 + 1)) ∧ ((x16_5 + 1)) ≤ 64 from q_2479 hl64 j16_6) (show ((x16_5 + 1)) ≤ lst + 1 from q_167 hll) (show ((x16_4 - z168)) = p2 ((a3)) - mp (sh ((w75)) ((a2))) (((x16_5 + 1))) from q_2470 b113 b30) (show 0 ≤ ((x16_4 - z168)) ∧ ((x16_4 - z168)) ≤ 512 from q_2492 b113 b14 b30 j16_5 pz168_0) (show (u6_35) ≤ (y159) ∧ (y159) ≤ (u6_35) + 4 + 12 * ((x16_5 + 1)) from q_2494 hk9 j16_6 pz158_0 pz28_1) (show ∃ B, SBO (cutP 64 (sh ((w75)) ((a2)))) ((a3)) (((x16_5 + 1))) (((x16_4 - z168))) B ∧ IMP ((u6_35) + 800 ≤ 192000) (MDA ((w69)) ((u6_35)) ((wq161)) ((y159)) (B)) by assumption) rfl
        · refine Ew_of (pcₚ := 74) (fun _ => x_iload rfl (rk_o (rk_o (rk_o (rk_s) rfl rfl) rfl rfl) rfl rfl)) ?_
          refine Ew_of (pcₚ := 82) (fun _ => x_goto rfl rfl) ?_
          refine Ew_of (pcₚ := 84) (fun _ => x_iload rfl (rk_o (rk_o (rk_o (rk_s) rfl rfl) rfl rfl) rfl rfl)) ?_
          refine Ew_of (pcₚ := 86) (fun _ => x_iload rfl rk_s) ?_
          refine w_icmpge (t := 94) rfl rfl (show inr ((v23 + 1)) from q_2495 b112 j16_5 pz28_2 qv23) (show inr ((((2 * p2 (z28)) - 2) - x16_4)) from q_2458 j16_5 pz28_2) (fun b194 => ?_) (fun b194 => ?_)
          · refine Ew_of (pcₚ := 96) (fun _ => x_iload rfl (rk_o (rk_o (rk_s) rfl rfl) rfl rfl)) ?_
            refine Ew_of (pcₚ := 97) (fun _ => x_iconst rfl) ?_
            refine w_iadd rfl ?_
            have hbu : btw (((v23 + 1))) (((z28 + 1))) = stU (cutP 64 (sh ((w75)) ((a2)))) q5 q4 := stU_is (k := (z28)) (by omega) (by omega) (by omega) (by omega : ((((2 * p2 (z28)) - 2) - x16_4)) = _) (by omega : ((v23 + 1)) = _) (by omega) (by omega)
            refine w_inv H (o := 6) rfl rfl rfl (H.perm 6 rfl) rfl rfl (by rfl) (M389 H (y16_6_35) (((hS26 6 35 rfl).trans (ey16_6_35))) (w16_69) ((funext (hA27 69 rfl)).trans (ew16_69)) (show inr ((v23 + 1)) from q_2495 b112 j16_5 pz28_2 qv23) (show inr ((z28 + 1)) from q_2462 hk9 pz28_1) (show 0 ≤ ((z28 + 1)) ∧ ((z28 + 1)) ≤ 31 from q_2461 hk9 pz28_1) (show 0 ≤ (y16_6_35) ∧ (y16_6_35) ≤ 90000000 from q_2460 h4 hl64 j16_6 r13) (fun σ F195 A196 H hS197 hA198 y200 ey201 wq202 ewq203 pz199_0 pz199_1 => ⟨rfl, ?_⟩))
            have r204 : (0 : Int) ≤ y200 ∧ y200 ≤ 100000000 := rngE (show (0 : Int) ≤ F195 6 35 ∧ F195 6 35 ≤ 100000000 from H.frng 6 35) (show F195 6 35 = y200 from (ey201))
            obtain ⟨B1, hB1⟩ : ∃ B : List Int, B = B_ ++ stU (cutP 64 (sh ((w75)) ((a2)))) q5 q4 := ⟨_, rfl⟩
            have hM1 : IMP ((u6_35) + 800 ≤ 192000) (MDA ((w69)) ((u6_35)) ((wq202)) ((y200)) (B1)) := fun q => by rw [hB1]; exact MDA_t (hMD q) (by have h := pz199_1 (by omega); rw [hbu] at h; exact h)
            refine Ew_of (pcₚ := 103) (fun _ => x_iload rfl (rk_o (rk_o (rk_o (rk_o (l16_4) rfl rfl) rfl rfl) rfl rfl) rfl rfl)) ?_
            refine Ew_of (pcₚ := 105) (fun _ => x_iload rfl (rk_o (rk_o (rk_o (rk_s) rfl rfl) rfl rfl) rfl rfl)) ?_
            refine Ew_of (pcₚ := 106) (fun _ => x_iconst rfl) ?_
            refine w_isub rfl ?_
            refine w_stat24 rfl rfl (by rfl) (M406 H (show inr (((v23 + 1) - 1)) from q_2465 qv23) (show -1 ≤ (((v23 + 1) - 1)) from q_2484 b194 pz28_2) (fun z209 σ F205 A206 H hS207 hA208 pz209_0 pz209_1 => ⟨rfl, ?_⟩))
            have hmv : (z209) = mass ((sh ((w75)) ((a2))) ((x16_5))) := by rw [pz209_1]; congr 1; omega
            refine w_isub rfl ?_
            refine Ew_of (pcₚ := 113) (fun _ => x_istore rfl) ?_
            refine Ew_of (pcₚ := 116) (fun _ => x_iinc (len := 3) rfl (rk_o (rk_o (rk_o (rk_o (rk_o (l16_5) rfl rfl) rfl rfl) rfl rfl) rfl rfl) rfl rfl)) ?_
            refine Ew_of (pcₚ := 118) (fun _ => x_iload rfl (rk_o (rk_o (rk_o (rk_o (rk_o (rk_s) rfl rfl) rfl rfl) rfl rfl) rfl rfl) rfl rfl)) ?_
            refine Ew_of (pcₚ := 119) (fun _ => x_iconst rfl) ?_
            refine w_icmpeq (t := 125) rfl rfl (show inr ((v23 + 1)) from q_2495 b112 j16_5 pz28_2 qv23) (show inr (1) from q_135) (fun b210 => ?_) (fun b210 => ?_)
            · refine Ew_of (pcₚ := 126) (fun _ => x_iconst rfl) ?_
              refine Ew_of (pcₚ := 128) (fun _ => x_istore rfl) ?_
              obtain ⟨m0, hm0⟩ := FP_ex (nz_ex (P := sh ((w75)) ((a2))) (s := ((x16_5 + 1))) (by omega) (by omega) (by omega))
              have : ∀ j, ((x16_5 + 1)) ≤ j → j < ((x16_5 + 1)) + 0 → (sh ((w75)) ((a2))) j = 0 := fun j a b => absurd b (by omega)
              suffices hl128 : ∀ (mx : Nat), ∀ (ls : rO) (σ : rS) (F_128 : hF) (A_128 : hA) (x128_10 : Int), rlook ls 0 = some (.ref (D 6)) → rlook ls 1 = some (.ref (D 75)) → rlook ls 2 = some (I (a2)) → rlook ls 4 = some (I ((x16_4 - z209))) → rlook ls 5 = some (I ((x16_5 + 1))) → rlook ls 10 = some (I (x128_10)) → HS σ0 σ D N F_128 A_128 → SF [] F205 F_128 → SA [] A206 A_128 → (inr (x128_10)) → (0 ≤ (x128_10)) → (∀ j, ((x16_5 + 1)) ≤ j → j < ((x16_5 + 1)) + (x128_10) → (sh ((w75)) ((a2))) j = 0) → (FP (fun k => (sh ((w75)) ((a2))) (((x16_5 + 1)) + k) ≠ 0) (64 - ((x16_5 + 1))) ((x128_10)) mx) → Ew 412 (d + 1) 128 ls [] σ c s Q from
                hl128 (m0) _ σ _ _ (0) (rk_o (rk_o (rk_o (rk_o (rk_o (rk_o (rk_o (l16_0) rfl rfl) rfl rfl) rfl rfl) rfl rfl) rfl rfl) rfl rfl) rfl rfl) (rk_o (rk_o (rk_o (rk_o (rk_o (rk_o (rk_o (l16_1) rfl rfl) rfl rfl) rfl rfl) rfl rfl) rfl rfl) rfl rfl) rfl rfl) (rk_o (rk_o (rk_o (rk_o (rk_o (rk_o (rk_o (l16_2) rfl rfl) rfl rfl) rfl rfl) rfl rfl) rfl rfl) rfl rfl) rfl rfl) (rk_o (rk_o (rk_s) rfl rfl) rfl rfl) (rk_o (rk_s) rfl rfl) (rk_s) H (SF_refl) (SA_refl)   (show inr (0) from q_2) (show 0 ≤ (0) from q_1) (show ∀ j, ((x16_5 + 1)) ≤ j → j < ((x16_5 + 1)) + (0) → (sh ((w75)) ((a2))) j = 0 by assumption) (by assumption)
              as_aux_lemma =>
              intro mx
              induction mx using Nat.strongRecOn with
              | _ mx ih128 =>
                intro ls σ F_128 A_128 x128_10 l128_0 l128_1 l128_2 l128_4 l128_5 l128_10 H hS_128 hA_128   j128_0 j128_1 j128_2 hm128
                have hfl := FP_lt hm128
                have hpz : (sh ((w75)) ((a2))) (((x16_5 + 1)) + (x128_10)) = ((w75)) ((a2) + ((x16_5 + 1)) + (x128_10)) := by show ((w75)) ((a2) + (((x16_5 + 1)) + (x128_10))) = _; congr 1; omega
                have j128_z : ∀ j, ((x16_5 + 1)) ≤ j → j < ((x16_5 + 1)) + (x128_10) → (sh ((w75)) ((a2))) j = 0 := by assumption
                refine Ew_of (pcₚ := 129) (fun _ => x_aload_n rfl l128_1) ?_
                refine Ew_of (pcₚ := 130) (fun _ => x_iload_n rfl l128_2) ?_
                refine Ew_of (pcₚ := 132) (fun _ => x_iload rfl l128_5) ?_
                refine w_iadd rfl ?_
                refine Ew_of (pcₚ := 135) (fun _ => x_iload rfl l128_10) ?_
                refine w_iadd rfl ?_
                refine w_lI H (o := 75) (n := 64) rfl (H.perm 75 rfl) rfl rfl (H.fix 75 rfl rfl) (show 0 ≤ ((a2 + (x16_5 + 1)) + x128_10) ∧ ((a2 + (x16_5 + 1)) + x128_10) < ((64 : Nat) : Int) by omega) (by decide) (fun v211 ev211 qv211 => ?_)
                have qv211 : (-2147483648 : Int) ≤ v211 ∧ v211 ≤ 2147483647 := qv211
                have ev211 : (w75) (((a2 + (x16_5 + 1)) + x128_10)) = v211 := (congrFun ((funext (hA_128 75 rfl)).trans ((funext (hA208 75 rfl)).trans ((funext (hA198 75 rfl)).trans ((funext (hA27 75 rfl)).trans ((funext (hA_16 75 rfl)).trans ((funext (hA5 75 rfl)).trans (ew75))))))) (((a2 + (x16_5 + 1)) + x128_10))).symm.trans ev211
                refine w_ifne (t := 146) rfl rfl (show inr (v211) from q_18 qv211) (fun b212 => ?_) (fun b212 => ?_)
                · have hlz := (SH_le (((x16_5 + 1)) + (x128_10)) hsh (by omega) (by omega)).2.2.2 (by show (sh ((w75)) ((a2))) (((x16_5 + 1)) + (x128_10)) ≠ 0; omega)
                  have hmz := mp_zeroI (P := sh ((w75)) ((a2))) (s := ((x16_5 + 1))) (z := (x128_10)) (t := ((x16_5 + 1)) + (x128_10)) (by omega) (by omega) (by assumption) rfl
                  obtain ⟨q10, hq10⟩ : ∃ q : Int, q = (x128_10) := ⟨_, rfl⟩
                  have hzr : q10 = zrN (cutP 64 (sh ((w75)) ((a2)))) (q5 + 1) 64 := by rw [hq10]; exact (zrN_is (n := 64) (by omega) (by omega) (fun j a b => by rw [cutP_in (by omega)]; exact j128_z j (by omega) (by omega)) (by rw [cutP_in (by omega), show q5 + 1 + (x128_10) = ((x16_5 + 1)) + (x128_10) by omega]; omega)).symm
                  refine Ew_of (pcₚ := 148) (fun _ => x_iload rfl l128_5) ?_
                  refine Ew_of (pcₚ := 150) (fun _ => x_iload rfl l128_10) ?_
                  refine w_iadd rfl ?_
                  refine Ew_of (pcₚ := 153) (fun _ => x_istore rfl) ?_
                  have : ∃ B, zbt q10 = B ++ zbt ((x128_10)) ∧ IMP ((u6_35) + 800 ≤ 192000) (MDA ((w69)) ((u6_35)) ((wq202)) ((y200)) (B1 ++ B)) := ⟨[], by rw [hq10]; rfl, fun q => by rw [List.append_nil]; exact hM1 q⟩
                  suffices hl153 : ∀ (m : Nat), ∀ (ls : rO) (σ : rS) (F_153 : hF) (A_153 : hA) (x153_10 : Int), rlook ls 0 = some (.ref (D 6)) → rlook ls 1 = some (.ref (D 75)) → rlook ls 2 = some (I (a2)) → rlook ls 4 = some (I ((x16_4 - z209))) → rlook ls 5 = some (I (((x16_5 + 1) + x128_10))) → rlook ls 10 = some (I (x153_10)) → HS σ0 σ D N F_153 A_153 → SF [(6, 35)] F_128 F_153 → SA [69] A_128 A_153 → ∀ y153_6_35 : Int, F_153 6 35 = y153_6_35 → ∀ w153_69 : Int → Int, A_153 69 = w153_69 → (inr (x153_10)) → (0 ≤ (x153_10) ∧ (x153_10) ≤ (x128_10)) → ((y200) ≤ (y153_6_35) ∧ (y153_6_35) ≤ (y200) + ((x128_10) - (x153_10))) → (∃ B, zbt q10 = B ++ zbt ((x153_10)) ∧ IMP ((u6_35) + 800 ≤ 192000) (MDA ((w69)) ((u6_35)) ((w153_69)) ((y153_6_35)) (B1 ++ B))) → ((x153_10)).toNat = m → Ew 412 (d + 1) 153 ls [] σ c s Q from
                    hl153 _ _ σ _ _ (x128_10) (rk_o (l128_0) rfl rfl) (rk_o (l128_1) rfl rfl) (rk_o (l128_2) rfl rfl) (rk_o (l128_4) rfl rfl) (rk_s) (rk_o (l128_10) rfl rfl) H (SF_refl) (SA_refl) (y200) ((((hS_128 6 35 rfl).trans (hS207 6 35 rfl)).trans (ey201))) (wq202) ((funext (hA_128 69 rfl)).trans ((funext (hA208 69 rfl)).trans (ewq203))) (show inr (x128_10) by omega) (show 0 ≤ (x128_10) ∧ (x128_10) ≤ (x128_10) by omega) (show (y200) ≤ (y200) ∧ (y200) ≤ (y200) + ((x128_10) - (x128_10)) from q_2466) (show ∃ B, zbt q10 = B ++ zbt ((x128_10)) ∧ IMP ((u6_35) + 800 ≤ 192000) (MDA ((w69)) ((u6_35)) ((wq202)) ((y200)) (B1 ++ B)) by assumption) rfl
                  as_aux_lemma =>
                  intro m
                  induction m using Nat.strongRecOn with
                  | _ m ih153 =>
                    intro ls σ F_153 A_153 x153_10 l153_0 l153_1 l153_2 l153_4 l153_5 l153_10 H hS_153 hA_153 y153_6_35 ey153_6_35 w153_69 ew153_69 j153_0 j153_1 j153_2 j153_3 hm153
                    have r213 : (0 : Int) ≤ y153_6_35 ∧ y153_6_35 ≤ 100000000 := rngE (show (0 : Int) ≤ F_153 6 35 ∧ F_153 6 35 ≤ 100000000 from H.frng 6 35) (show F_153 6 35 = y153_6_35 from (ey153_6_35))
                    have j153_q : ∃ B, zbt q10 = B ++ zbt ((x153_10)) ∧ IMP ((u6_35) + 800 ≤ 192000) (MDA ((w69)) ((u6_35)) ((w153_69)) ((y153_6_35)) (B1 ++ B)) := by assumption
                    obtain ⟨Bz, hBz, hMz⟩ := j153_q
                    obtain ⟨qz10, hqz10⟩ : ∃ q : Int, q = (x153_10) := ⟨_, rfl⟩
                    refine Ew_of (pcₚ := 155) (fun _ => x_iload rfl l153_10) ?_
                    refine Ew_of (pcₚ := 156) (fun _ => x_iconst rfl) ?_
                    refine w_icmple (t := 171) rfl rfl (show inr (x153_10) from j153_0) (show inr (2) from q_122) (fun b214 => ?_) (fun b214 => ?_)
                    · refine Ew_of (pcₚ := 172) (fun _ => x_aload_n rfl l153_0) ?_
                      refine Ew_of (pcₚ := 174) (fun _ => x_iload rfl l153_10) ?_
                      refine Ew_of (pcₚ := 175) (fun _ => x_iconst rfl) ?_
                      refine w_inv H (o := 6) rfl rfl rfl (H.perm 6 rfl) rfl rfl (by rfl) (M389 H (y153_6_35) ((ey153_6_35)) (w153_69) (ew153_69) (show inr (x153_10) from j153_0) (show inr (2) from q_122) (show 0 ≤ (2) ∧ (2) ≤ 31 from q_2467) (show 0 ≤ (y153_6_35) ∧ (y153_6_35) ≤ 90000000 by omega) (fun σ F215 A216 H hS217 hA218 y220 ey221 wq222 ewq223 pz219_0 pz219_1 => ⟨rfl, ?_⟩))
                      have r224 : (0 : Int) ≤ y220 ∧ y220 ≤ 100000000 := rngE (show (0 : Int) ≤ F215 6 35 ∧ F215 6 35 ≤ 100000000 from H.frng 6 35) (show F215 6 35 = y220 from (ey221))
                      have hp4 : IMP ((u6_35) + 800 ≤ 192000) (MDA ((w69)) ((u6_35)) ((wq222)) ((y220)) (B1 ++ zbt q10)) := fun q => by rw [hBz, zbt_e (z := (x153_10)) (by omega), ← List.append_assoc]; exact MDA_t (hMz q) (pz219_1 (by omega))
                      refine Ew_of (pcₚ := 16) (fun _ => x_goto rfl rfl) ?_
                      have : ∃ B, SBO (cutP 64 (sh ((w75)) ((a2)))) ((a3)) ((((x16_5 + 1) + x128_10))) (((x16_4 - z209))) B ∧ IMP ((u6_35) + 800 ≤ 192000) (MDA ((w69)) ((u6_35)) ((wq222)) ((y220)) (B)) := by first | exact ⟨_, SBO_z hST (by omega) (by rw [hcP]; omega) hzr (by omega) (by omega) (by rw [← hB1]), hp4⟩ | exact ⟨_, SBO_s hST (by omega) (by rw [hcP]; omega) (by omega) (by rw [hcP]; omega) hB1, hM1⟩
                      exact ih16 _ (msE hm16 (q_2472 j153_1) (q_1345 hl64)) _ σ _ _ ((x16_4 - z209)) (((x16_5 + 1) + x128_10)) (l153_0) (l153_1) (l153_2) (l153_4) (l153_5) H (SF_trans (SF_trans (SF_trans (SF_trans (SF_trans (SF_trans (hS_16) hS26 (any_sub rfl)) hS197 (any_sub rfl)) hS207 (any_sub rfl)) hS_128 (any_sub rfl)) hS_153 (any_sub rfl)) hS217 (any_sub rfl)) (SA_trans (SA_trans (SA_trans (SA_trans (SA_trans (SA_trans (hA_16) hA27 (any_subA rfl)) hA198 (any_subA rfl)) hA208 (any_subA rfl)) hA_128 (any_subA rfl)) hA_153 (any_subA rfl)) hA218 (any_subA rfl)) (y220) ((ey221)) (wq222) (ewq223) (show inr ((x16_4 - z209)) by omega) (show inr (((x16_5 + 1) + x128_10)) by omega) (show 0 ≤ (((x16_5 + 1) + x128_10)) ∧ (((x16_5 + 1) + x128_10)) ≤ 64 by omega) (show (((x16_5 + 1) + x128_10)) ≤ lst + 1 by omega) (show ((x16_4 - z209)) = p2 ((a3)) - mp (sh ((w75)) ((a2))) ((((x16_5 + 1) + x128_10))) by omega) (show 0 ≤ ((x16_4 - z209)) ∧ ((x16_4 - z209)) ≤ 512 by omega) (show (u6_35) ≤ (y220) ∧ (y220) ≤ (u6_35) + 4 + 12 * (((x16_5 + 1) + x128_10)) from q_2485 h4 hk9 j153_1 j153_2 j16_6 pz199_0 pz219_0 pz28_1 r224) (show ∃ B, SBO (cutP 64 (sh ((w75)) ((a2)))) ((a3)) ((((x16_5 + 1) + x128_10))) (((x16_4 - z209))) B ∧ IMP ((u6_35) + 800 ≤ 192000) (MDA ((w69)) ((u6_35)) ((wq222)) ((y220)) (B)) by assumption) rfl
                    · refine Ew_of (pcₚ := 160) (fun _ => x_aload_n rfl l153_0) ?_
                      refine Ew_of (pcₚ := 161) (fun _ => x_iconst rfl) ?_
                      refine Ew_of (pcₚ := 162) (fun _ => x_iconst rfl) ?_
                      refine w_inv H (o := 6) rfl rfl rfl (H.perm 6 rfl) rfl rfl (by rfl) (M389 H (y153_6_35) ((ey153_6_35)) (w153_69) (ew153_69) (show inr (3) from q_246) (show inr (2) from q_122) (show 0 ≤ (2) ∧ (2) ≤ 31 from q_2467) (show 0 ≤ (y153_6_35) ∧ (y153_6_35) ≤ 90000000 by omega) (fun σ F225 A226 H hS227 hA228 y230 ey231 wq232 ewq233 pz229_0 pz229_1 => ⟨rfl, ?_⟩))
                      have r234 : (0 : Int) ≤ y230 ∧ y230 ≤ 100000000 := rngE (show (0 : Int) ≤ F225 6 35 ∧ F225 6 35 ≤ 100000000 from H.frng 6 35) (show F225 6 35 = y230 from (ey231))
                      have hp3 : IMP ((u6_35) + 800 ≤ 192000) (MDA ((w69)) ((u6_35)) ((wq232)) ((y230)) (B1 ++ Bz ++ btw 3 2)) := fun q => MDA_t (hMz q) (pz229_1 (by omega))
                      refine Ew_of (pcₚ := 168) (fun _ => x_iinc (len := 3) rfl (l153_10)) ?_
                      refine Ew_of (pcₚ := 153) (fun _ => x_goto rfl rfl) ?_
                      have : ∃ B, zbt q10 = B ++ zbt (((x153_10 + (-3)))) ∧ IMP ((u6_35) + 800 ≤ 192000) (MDA ((w69)) ((u6_35)) ((wq232)) ((y230)) (B1 ++ B)) := ⟨Bz ++ btw 3 2, by (have hz : zbt qz10 = btw 3 2 ++ zbt (((x153_10 + (-3)))) := zbt_s (by omega) (by omega)); rw [hqz10] at hz; rw [hBz, hz, List.append_assoc], fun q => by rw [← List.append_assoc]; exact hp3 q⟩
                      exact ih153 _ (msE hm153 q_2476 (q_2477 b214)) _ σ _ _ ((x153_10 + (-3))) (rk_o (l153_0) rfl rfl) (rk_o (l153_1) rfl rfl) (rk_o (l153_2) rfl rfl) (rk_o (l153_4) rfl rfl) (rk_o (l153_5) rfl rfl) (rk_s) H (SF_trans (hS_153) hS227 (any_sub rfl)) (SA_trans (hA_153) hA228 (any_subA rfl)) (y230) ((ey231)) (wq232) (ewq233) (show inr ((x153_10 + (-3))) from q_2475 b214 j153_0) (show 0 ≤ ((x153_10 + (-3))) ∧ ((x153_10 + (-3))) ≤ (x128_10) from q_2474 b214 j153_1) (show (y200) ≤ (y230) ∧ (y230) ≤ (y200) + ((x128_10) - ((x153_10 + (-3)))) from q_2473 j153_2 pz229_0) (show ∃ B, zbt q10 = B ++ zbt (((x153_10 + (-3)))) ∧ IMP ((u6_35) + 800 ≤ 192000) (MDA ((w69)) ((u6_35)) ((wq232)) ((y230)) (B1 ++ B)) by assumption) rfl
                · refine Ew_of (pcₚ := 143) (fun _ => x_iinc (len := 3) rfl (l128_10)) ?_
                  refine Ew_of (pcₚ := 128) (fun _ => x_goto rfl rfl) ?_
                  have hnq : ¬ ((fun k => (sh ((w75)) ((a2))) (((x16_5 + 1)) + k) ≠ 0)) x128_10 := fun q => by have q : (sh ((w75)) ((a2))) (((x16_5 + 1)) + x128_10) ≠ 0 := q; omega
                  have : ∀ j, ((x16_5 + 1)) ≤ j → j < ((x16_5 + 1)) + ((x128_10 + 1)) → (sh ((w75)) ((a2))) j = 0 := fun j a b => by by_cases e : j = ((x16_5 + 1)) + x128_10; (rw [e]; omega); exact j128_z j a (by omega)
                  have hfn := FP_next hm128 hnq (show ((x128_10 + 1)) = x128_10 + 1 from rfl)
                  have := hfn.1
                  have := hfn.2
                  exact ih128 (mx - 1) (by omega) _ σ _ _ ((x128_10 + 1)) (rk_o (l128_0) rfl rfl) (rk_o (l128_1) rfl rfl) (rk_o (l128_2) rfl rfl) (rk_o (l128_4) rfl rfl) (rk_o (l128_5) rfl rfl) (rk_s) H (hS_128) (hA_128)   (show inr ((x128_10 + 1)) by omega) (show 0 ≤ ((x128_10 + 1)) by omega) (show ∀ j, ((x16_5 + 1)) ≤ j → j < ((x16_5 + 1)) + ((x128_10 + 1)) → (sh ((w75)) ((a2))) j = 0 by assumption) (by assumption)
            · refine Ew_of (pcₚ := 16) (fun _ => x_goto rfl rfl) ?_
              have : ∃ B, SBO (cutP 64 (sh ((w75)) ((a2)))) ((a3)) (((x16_5 + 1))) (((x16_4 - z209))) B ∧ IMP ((u6_35) + 800 ≤ 192000) (MDA ((w69)) ((u6_35)) ((wq202)) ((y200)) (B)) := by first | exact ⟨_, SBO_z hST (by omega) (by rw [hcP]; omega) hzr (by omega) (by omega) (by rw [← hB1]), hp4⟩ | exact ⟨_, SBO_s hST (by omega) (by rw [hcP]; omega) (by omega) (by rw [hcP]; omega) hB1, hM1⟩
              exact ih16 _ (msE hm16 q_1344 (q_1345 hl64)) _ σ _ _ ((x16_4 - z209)) ((x16_5 + 1)) (rk_o (rk_o (rk_o (rk_o (rk_o (rk_o (l16_0) rfl rfl) rfl rfl) rfl rfl) rfl rfl) rfl rfl) rfl rfl) (rk_o (rk_o (rk_o (rk_o (rk_o (rk_o (l16_1) rfl rfl) rfl rfl) rfl rfl) rfl rfl) rfl rfl) rfl rfl) (rk_o (rk_o (rk_o (rk_o (rk_o (rk_o (l16_2) rfl rfl) rfl rfl) rfl rfl) rfl rfl) rfl rfl) rfl rfl) (rk_o (rk_s) rfl rfl) (rk_s) H (SF_trans (SF_trans (SF_trans (hS_16) hS26 (any_sub rfl)) hS197 (any_sub rfl)) hS207 (any_sub rfl)) (SA_trans (SA_trans (SA_trans (hA_16) hA27 (any_subA rfl)) hA198 (any_subA rfl)) hA208 (any_subA rfl)) (y200) (((hS207 6 35 rfl).trans (ey201))) (wq202) ((funext (hA208 69 rfl)).trans (ewq203)) (show inr ((x16_4 - z209)) by omega) (show inr ((x16_5 + 1)) from q_2480 hl64 j16_6) (show 0 ≤ ((x16_5 + 1)) ∧ ((x16_5 + 1)) ≤ 64 from q_2479 hl64 j16_6) (show ((x16_5 + 1)) ≤ lst + 1 from q_167 hll) (show ((x16_4 - z209)) = p2 ((a3)) - mp (sh ((w75)) ((a2))) (((x16_5 + 1))) by omega) (show 0 ≤ ((x16_4 - z209)) ∧ ((x16_4 - z209)) ≤ 512 by omega) (show (u6_35) ≤ (y200) ∧ (y200) ≤ (u6_35) + 4 + 12 * ((x16_5 + 1)) from q_2489 h4 hk9 j16_6 pz199_0 pz28_1 r204) (show ∃ B, SBO (cutP 64 (sh ((w75)) ((a2)))) ((a3)) (((x16_5 + 1))) (((x16_4 - z209))) B ∧ IMP ((u6_35) + 800 ≤ 192000) (MDA ((w69)) ((u6_35)) ((wq202)) ((y200)) (B)) by assumption) rfl
          · refine Ew_of (pcₚ := 91) (fun _ => x_iload rfl (rk_o (rk_o (rk_s) rfl rfl) rfl rfl)) ?_
            refine Ew_of (pcₚ := 98) (fun _ => x_goto rfl rfl) ?_
            have hbu : btw (((v23 + 1))) ((z28)) = stU (cutP 64 (sh ((w75)) ((a2)))) q5 q4 := stU_is (k := (z28)) (by omega) (by omega) (by omega) (by omega : ((((2 * p2 (z28)) - 2) - x16_4)) = _) (by omega : ((v23 + 1)) = _) (by omega) (by omega)
            refine w_inv H (o := 6) rfl rfl rfl (H.perm 6 rfl) rfl rfl (by rfl) (M389 H (y16_6_35) (((hS26 6 35 rfl).trans (ey16_6_35))) (w16_69) ((funext (hA27 69 rfl)).trans (ew16_69)) (show inr ((v23 + 1)) from q_2463 b194 b30 qv23) (show inr (z28) from pz28_0) (show 0 ≤ (z28) ∧ (z28) ≤ 31 from q_2457 hk9 pz28_1) (show 0 ≤ (y16_6_35) ∧ (y16_6_35) ≤ 90000000 from q_2460 h4 hl64 j16_6 r13) (fun σ F235 A236 H hS237 hA238 y240 ey241 wq242 ewq243 pz239_0 pz239_1 => ⟨rfl, ?_⟩))
            have r244 : (0 : Int) ≤ y240 ∧ y240 ≤ 100000000 := rngE (show (0 : Int) ≤ F235 6 35 ∧ F235 6 35 ≤ 100000000 from H.frng 6 35) (show F235 6 35 = y240 from (ey241))
            obtain ⟨B1, hB1⟩ : ∃ B : List Int, B = B_ ++ stU (cutP 64 (sh ((w75)) ((a2)))) q5 q4 := ⟨_, rfl⟩
            have hM1 : IMP ((u6_35) + 800 ≤ 192000) (MDA ((w69)) ((u6_35)) ((wq242)) ((y240)) (B1)) := fun q => by rw [hB1]; exact MDA_t (hMD q) (by have h := pz239_1 (by omega); rw [hbu] at h; exact h)
            refine Ew_of (pcₚ := 103) (fun _ => x_iload rfl (rk_o (rk_o (rk_o (rk_o (l16_4) rfl rfl) rfl rfl) rfl rfl) rfl rfl)) ?_
            refine Ew_of (pcₚ := 105) (fun _ => x_iload rfl (rk_o (rk_o (rk_o (rk_s) rfl rfl) rfl rfl) rfl rfl)) ?_
            refine Ew_of (pcₚ := 106) (fun _ => x_iconst rfl) ?_
            refine w_isub rfl ?_
            refine w_stat24 rfl rfl (by rfl) (M406 H (show inr (((v23 + 1) - 1)) from q_2465 qv23) (show -1 ≤ (((v23 + 1) - 1)) from q_2464 b194 b30 qv23) (fun z249 σ F245 A246 H hS247 hA248 pz249_0 pz249_1 => ⟨rfl, ?_⟩))
            have hmv : (z249) = mass ((sh ((w75)) ((a2))) ((x16_5))) := by rw [pz249_1]; congr 1; omega
            refine w_isub rfl ?_
            refine Ew_of (pcₚ := 113) (fun _ => x_istore rfl) ?_
            refine Ew_of (pcₚ := 116) (fun _ => x_iinc (len := 3) rfl (rk_o (rk_o (rk_o (rk_o (rk_o (l16_5) rfl rfl) rfl rfl) rfl rfl) rfl rfl) rfl rfl)) ?_
            refine Ew_of (pcₚ := 118) (fun _ => x_iload rfl (rk_o (rk_o (rk_o (rk_o (rk_o (rk_s) rfl rfl) rfl rfl) rfl rfl) rfl rfl) rfl rfl)) ?_
            refine Ew_of (pcₚ := 119) (fun _ => x_iconst rfl) ?_
            refine w_icmpeq (t := 125) rfl rfl (show inr ((v23 + 1)) from q_2463 b194 b30 qv23) (show inr (1) from q_135) (fun b250 => ?_) (fun b250 => ?_)
            · refine Ew_of (pcₚ := 126) (fun _ => x_iconst rfl) ?_
              refine Ew_of (pcₚ := 128) (fun _ => x_istore rfl) ?_
              obtain ⟨m0, hm0⟩ := FP_ex (nz_ex (P := sh ((w75)) ((a2))) (s := ((x16_5 + 1))) (by omega) (by omega) (by omega))
              have : ∀ j, ((x16_5 + 1)) ≤ j → j < ((x16_5 + 1)) + 0 → (sh ((w75)) ((a2))) j = 0 := fun j a b => absurd b (by omega)
              suffices hl128 : ∀ (mx : Nat), ∀ (ls : rO) (σ : rS) (F_128 : hF) (A_128 : hA) (x128_10 : Int), rlook ls 0 = some (.ref (D 6)) → rlook ls 1 = some (.ref (D 75)) → rlook ls 2 = some (I (a2)) → rlook ls 4 = some (I ((x16_4 - z249))) → rlook ls 5 = some (I ((x16_5 + 1))) → rlook ls 10 = some (I (x128_10)) → HS σ0 σ D N F_128 A_128 → SF [] F245 F_128 → SA [] A246 A_128 → (inr (x128_10)) → (0 ≤ (x128_10)) → (∀ j, ((x16_5 + 1)) ≤ j → j < ((x16_5 + 1)) + (x128_10) → (sh ((w75)) ((a2))) j = 0) → (FP (fun k => (sh ((w75)) ((a2))) (((x16_5 + 1)) + k) ≠ 0) (64 - ((x16_5 + 1))) ((x128_10)) mx) → Ew 412 (d + 1) 128 ls [] σ c s Q from
                hl128 (m0) _ σ _ _ (0) (rk_o (rk_o (rk_o (rk_o (rk_o (rk_o (rk_o (l16_0) rfl rfl) rfl rfl) rfl rfl) rfl rfl) rfl rfl) rfl rfl) rfl rfl) (rk_o (rk_o (rk_o (rk_o (rk_o (rk_o (rk_o (l16_1) rfl rfl) rfl rfl) rfl rfl) rfl rfl) rfl rfl) rfl rfl) rfl rfl) (rk_o (rk_o (rk_o (rk_o (rk_o (rk_o (rk_o (l16_2) rfl rfl) rfl rfl) rfl rfl) rfl rfl) rfl rfl) rfl rfl) rfl rfl) (rk_o (rk_o (rk_s) rfl rfl) rfl rfl) (rk_o (rk_s) rfl rfl) (rk_s) H (SF_refl) (SA_refl)   (show inr (0) from q_2) (show 0 ≤ (0) from q_1) (show ∀ j, ((x16_5 + 1)) ≤ j → j < ((x16_5 + 1)) + (0) → (sh ((w75)) ((a2))) j = 0 by assumption) (by assumption)
              as_aux_lemma =>
              intro mx
              induction mx using Nat.strongRecOn with
              | _ mx ih128 =>
                intro ls σ F_128 A_128 x128_10 l128_0 l128_1 l128_2 l128_4 l128_5 l128_10 H hS_128 hA_128   j128_0 j128_1 j128_2 hm128
                have hfl := FP_lt hm128
                have hpz : (sh ((w75)) ((a2))) (((x16_5 + 1)) + (x128_10)) = ((w75)) ((a2) + ((x16_5 + 1)) + (x128_10)) := by show ((w75)) ((a2) + (((x16_5 + 1)) + (x128_10))) = _; congr 1; omega
                have j128_z : ∀ j, ((x16_5 + 1)) ≤ j → j < ((x16_5 + 1)) + (x128_10) → (sh ((w75)) ((a2))) j = 0 := by assumption
                refine Ew_of (pcₚ := 129) (fun _ => x_aload_n rfl l128_1) ?_
                refine Ew_of (pcₚ := 130) (fun _ => x_iload_n rfl l128_2) ?_
                refine Ew_of (pcₚ := 132) (fun _ => x_iload rfl l128_5) ?_
                refine w_iadd rfl ?_
                refine Ew_of (pcₚ := 135) (fun _ => x_iload rfl l128_10) ?_
                refine w_iadd rfl ?_
                refine w_lI H (o := 75) (n := 64) rfl (H.perm 75 rfl) rfl rfl (H.fix 75 rfl rfl) (show 0 ≤ ((a2 + (x16_5 + 1)) + x128_10) ∧ ((a2 + (x16_5 + 1)) + x128_10) < ((64 : Nat) : Int) by omega) (by decide) (fun v251 ev251 qv251 => ?_)
                have qv251 : (-2147483648 : Int) ≤ v251 ∧ v251 ≤ 2147483647 := qv251
                have ev251 : (w75) (((a2 + (x16_5 + 1)) + x128_10)) = v251 := (congrFun ((funext (hA_128 75 rfl)).trans ((funext (hA248 75 rfl)).trans ((funext (hA238 75 rfl)).trans ((funext (hA27 75 rfl)).trans ((funext (hA_16 75 rfl)).trans ((funext (hA5 75 rfl)).trans (ew75))))))) (((a2 + (x16_5 + 1)) + x128_10))).symm.trans ev251
                refine w_ifne (t := 146) rfl rfl (show inr (v251) from q_18 qv251) (fun b252 => ?_) (fun b252 => ?_)
                · have hlz := (SH_le (((x16_5 + 1)) + (x128_10)) hsh (by omega) (by omega)).2.2.2 (by show (sh ((w75)) ((a2))) (((x16_5 + 1)) + (x128_10)) ≠ 0; omega)
                  have hmz := mp_zeroI (P := sh ((w75)) ((a2))) (s := ((x16_5 + 1))) (z := (x128_10)) (t := ((x16_5 + 1)) + (x128_10)) (by omega) (by omega) (by assumption) rfl
                  obtain ⟨q10, hq10⟩ : ∃ q : Int, q = (x128_10) := ⟨_, rfl⟩
                  have hzr : q10 = zrN (cutP 64 (sh ((w75)) ((a2)))) (q5 + 1) 64 := by rw [hq10]; exact (zrN_is (n := 64) (by omega) (by omega) (fun j a b => by rw [cutP_in (by omega)]; exact j128_z j (by omega) (by omega)) (by rw [cutP_in (by omega), show q5 + 1 + (x128_10) = ((x16_5 + 1)) + (x128_10) by omega]; omega)).symm
                  refine Ew_of (pcₚ := 148) (fun _ => x_iload rfl l128_5) ?_
                  refine Ew_of (pcₚ := 150) (fun _ => x_iload rfl l128_10) ?_
                  refine w_iadd rfl ?_
                  refine Ew_of (pcₚ := 153) (fun _ => x_istore rfl) ?_
                  have : ∃ B, zbt q10 = B ++ zbt ((x128_10)) ∧ IMP ((u6_35) + 800 ≤ 192000) (MDA ((w69)) ((u6_35)) ((wq242)) ((y240)) (B1 ++ B)) := ⟨[], by rw [hq10]; rfl, fun q => by rw [List.append_nil]; exact hM1 q⟩
                  suffices hl153 : ∀ (m : Nat), ∀ (ls : rO) (σ : rS) (F_153 : hF) (A_153 : hA) (x153_10 : Int), rlook ls 0 = some (.ref (D 6)) → rlook ls 1 = some (.ref (D 75)) → rlook ls 2 = some (I (a2)) → rlook ls 4 = some (I ((x16_4 - z249))) → rlook ls 5 = some (I (((x16_5 + 1) + x128_10))) → rlook ls 10 = some (I (x153_10)) → HS σ0 σ D N F_153 A_153 → SF [(6, 35)] F_128 F_153 → SA [69] A_128 A_153 → ∀ y153_6_35 : Int, F_153 6 35 = y153_6_35 → ∀ w153_69 : Int → Int, A_153 69 = w153_69 → (inr (x153_10)) → (0 ≤ (x153_10) ∧ (x153_10) ≤ (x128_10)) → ((y240) ≤ (y153_6_35) ∧ (y153_6_35) ≤ (y240) + ((x128_10) - (x153_10))) → (∃ B, zbt q10 = B ++ zbt ((x153_10)) ∧ IMP ((u6_35) + 800 ≤ 192000) (MDA ((w69)) ((u6_35)) ((w153_69)) ((y153_6_35)) (B1 ++ B))) → ((x153_10)).toNat = m → Ew 412 (d + 1) 153 ls [] σ c s Q from
                    hl153 _ _ σ _ _ (x128_10) (rk_o (l128_0) rfl rfl) (rk_o (l128_1) rfl rfl) (rk_o (l128_2) rfl rfl) (rk_o (l128_4) rfl rfl) (rk_s) (rk_o (l128_10) rfl rfl) H (SF_refl) (SA_refl) (y240) ((((hS_128 6 35 rfl).trans (hS247 6 35 rfl)).trans (ey241))) (wq242) ((funext (hA_128 69 rfl)).trans ((funext (hA248 69 rfl)).trans (ewq243))) (show inr (x128_10) by omega) (show 0 ≤ (x128_10) ∧ (x128_10) ≤ (x128_10) by omega) (show (y240) ≤ (y240) ∧ (y240) ≤ (y240) + ((x128_10) - (x128_10)) from q_2466) (show ∃ B, zbt q10 = B ++ zbt ((x128_10)) ∧ IMP ((u6_35) + 800 ≤ 192000) (MDA ((w69)) ((u6_35)) ((wq242)) ((y240)) (B1 ++ B)) by assumption) rfl
                  as_aux_lemma =>
                  intro m
                  induction m using Nat.strongRecOn with
                  | _ m ih153 =>
                    intro ls σ F_153 A_153 x153_10 l153_0 l153_1 l153_2 l153_4 l153_5 l153_10 H hS_153 hA_153 y153_6_35 ey153_6_35 w153_69 ew153_69 j153_0 j153_1 j153_2 j153_3 hm153
                    have r253 : (0 : Int) ≤ y153_6_35 ∧ y153_6_35 ≤ 100000000 := rngE (show (0 : Int) ≤ F_153 6 35 ∧ F_153 6 35 ≤ 100000000 from H.frng 6 35) (show F_153 6 35 = y153_6_35 from (ey153_6_35))
                    have j153_q : ∃ B, zbt q10 = B ++ zbt ((x153_10)) ∧ IMP ((u6_35) + 800 ≤ 192000) (MDA ((w69)) ((u6_35)) ((w153_69)) ((y153_6_35)) (B1 ++ B)) := by assumption
                    obtain ⟨Bz, hBz, hMz⟩ := j153_q
                    obtain ⟨qz10, hqz10⟩ : ∃ q : Int, q = (x153_10) := ⟨_, rfl⟩
                    refine Ew_of (pcₚ := 155) (fun _ => x_iload rfl l153_10) ?_
                    refine Ew_of (pcₚ := 156) (fun _ => x_iconst rfl) ?_
                    refine w_icmple (t := 171) rfl rfl (show inr (x153_10) from j153_0) (show inr (2) from q_122) (fun b254 => ?_) (fun b254 => ?_)
                    · refine Ew_of (pcₚ := 172) (fun _ => x_aload_n rfl l153_0) ?_
                      refine Ew_of (pcₚ := 174) (fun _ => x_iload rfl l153_10) ?_
                      refine Ew_of (pcₚ := 175) (fun _ => x_iconst rfl) ?_
                      refine w_inv H (o := 6) rfl rfl rfl (H.perm 6 rfl) rfl rfl (by rfl) (M389 H (y153_6_35) ((ey153_6_35)) (w153_69) (ew153_69) (show inr (x153_10) from j153_0) (show inr (2) from q_122) (show 0 ≤ (2) ∧ (2) ≤ 31 from q_2467) (show 0 ≤ (y153_6_35) ∧ (y153_6_35) ≤ 90000000 by omega) (fun σ F255 A256 H hS257 hA258 y260 ey261 wq262 ewq263 pz259_0 pz259_1 => ⟨rfl, ?_⟩))
                      have r264 : (0 : Int) ≤ y260 ∧ y260 ≤ 100000000 := rngE (show (0 : Int) ≤ F255 6 35 ∧ F255 6 35 ≤ 100000000 from H.frng 6 35) (show F255 6 35 = y260 from (ey261))
                      have hp4 : IMP ((u6_35) + 800 ≤ 192000) (MDA ((w69)) ((u6_35)) ((wq262)) ((y260)) (B1 ++ zbt q10)) := fun q => by rw [hBz, zbt_e (z := (x153_10)) (by omega), ← List.append_assoc]; exact MDA_t (hMz q) (pz259_1 (by omega))
                      refine Ew_of (pcₚ := 16) (fun _ => x_goto rfl rfl) ?_
                      have : ∃ B, SBO (cutP 64 (sh ((w75)) ((a2)))) ((a3)) ((((x16_5 + 1) + x128_10))) (((x16_4 - z249))) B ∧ IMP ((u6_35) + 800 ≤ 192000) (MDA ((w69)) ((u6_35)) ((wq262)) ((y260)) (B)) := by first | exact ⟨_, SBO_z hST (by omega) (by rw [hcP]; omega) hzr (by omega) (by omega) (by rw [← hB1]), hp4⟩ | exact ⟨_, SBO_s hST (by omega) (by rw [hcP]; omega) (by omega) (by rw [hcP]; omega) hB1, hM1⟩
                      exact ih16 _ (msE hm16 (q_2472 j153_1) (q_1345 hl64)) _ σ _ _ ((x16_4 - z249)) (((x16_5 + 1) + x128_10)) (l153_0) (l153_1) (l153_2) (l153_4) (l153_5) H (SF_trans (SF_trans (SF_trans (SF_trans (SF_trans (SF_trans (hS_16) hS26 (any_sub rfl)) hS237 (any_sub rfl)) hS247 (any_sub rfl)) hS_128 (any_sub rfl)) hS_153 (any_sub rfl)) hS257 (any_sub rfl)) (SA_trans (SA_trans (SA_trans (SA_trans (SA_trans (SA_trans (hA_16) hA27 (any_subA rfl)) hA238 (any_subA rfl)) hA248 (any_subA rfl)) hA_128 (any_subA rfl)) hA_153 (any_subA rfl)) hA258 (any_subA rfl)) (y260) ((ey261)) (wq262) (ewq263) (show inr ((x16_4 - z249)) from q_2471 b14 b194 b30 j16_5 pz249_0) (show inr (((x16_5 + 1) + x128_10)) by omega) (show 0 ≤ (((x16_5 + 1) + x128_10)) ∧ (((x16_5 + 1) + x128_10)) ≤ 64 by omega) (show (((x16_5 + 1) + x128_10)) ≤ lst + 1 by omega) (show ((x16_4 - z249)) = p2 ((a3)) - mp (sh ((w75)) ((a2))) ((((x16_5 + 1) + x128_10))) from q_2470 b194 b30) (show 0 ≤ ((x16_4 - z249)) ∧ ((x16_4 - z249)) ≤ 512 from q_2469 b14 b194 b30 j16_5 pz249_0) (show (u6_35) ≤ (y260) ∧ (y260) ≤ (u6_35) + 4 + 12 * (((x16_5 + 1) + x128_10)) from q_2491 h4 hk9 j153_1 j153_2 j16_6 pz239_0 pz259_0 pz28_1 r264) (show ∃ B, SBO (cutP 64 (sh ((w75)) ((a2)))) ((a3)) ((((x16_5 + 1) + x128_10))) (((x16_4 - z249))) B ∧ IMP ((u6_35) + 800 ≤ 192000) (MDA ((w69)) ((u6_35)) ((wq262)) ((y260)) (B)) by assumption) rfl
                    · refine Ew_of (pcₚ := 160) (fun _ => x_aload_n rfl l153_0) ?_
                      refine Ew_of (pcₚ := 161) (fun _ => x_iconst rfl) ?_
                      refine Ew_of (pcₚ := 162) (fun _ => x_iconst rfl) ?_
                      refine w_inv H (o := 6) rfl rfl rfl (H.perm 6 rfl) rfl rfl (by rfl) (M389 H (y153_6_35) ((ey153_6_35)) (w153_69) (ew153_69) (show inr (3) from q_246) (show inr (2) from q_122) (show 0 ≤ (2) ∧ (2) ≤ 31 from q_2467) (show 0 ≤ (y153_6_35) ∧ (y153_6_35) ≤ 90000000 by omega) (fun σ F265 A266 H hS267 hA268 y270 ey271 wq272 ewq273 pz269_0 pz269_1 => ⟨rfl, ?_⟩))
                      have r274 : (0 : Int) ≤ y270 ∧ y270 ≤ 100000000 := rngE (show (0 : Int) ≤ F265 6 35 ∧ F265 6 35 ≤ 100000000 from H.frng 6 35) (show F265 6 35 = y270 from (ey271))
                      have hp3 : IMP ((u6_35) + 800 ≤ 192000) (MDA ((w69)) ((u6_35)) ((wq272)) ((y270)) (B1 ++ Bz ++ btw 3 2)) := fun q => MDA_t (hMz q) (pz269_1 (by omega))
                      refine Ew_of (pcₚ := 168) (fun _ => x_iinc (len := 3) rfl (l153_10)) ?_
                      refine Ew_of (pcₚ := 153) (fun _ => x_goto rfl rfl) ?_
                      have : ∃ B, zbt q10 = B ++ zbt (((x153_10 + (-3)))) ∧ IMP ((u6_35) + 800 ≤ 192000) (MDA ((w69)) ((u6_35)) ((wq272)) ((y270)) (B1 ++ B)) := ⟨Bz ++ btw 3 2, by (have hz : zbt qz10 = btw 3 2 ++ zbt (((x153_10 + (-3)))) := zbt_s (by omega) (by omega)); rw [hqz10] at hz; rw [hBz, hz, List.append_assoc], fun q => by rw [← List.append_assoc]; exact hp3 q⟩
                      exact ih153 _ (msE hm153 q_2476 (q_2477 b254)) _ σ _ _ ((x153_10 + (-3))) (rk_o (l153_0) rfl rfl) (rk_o (l153_1) rfl rfl) (rk_o (l153_2) rfl rfl) (rk_o (l153_4) rfl rfl) (rk_o (l153_5) rfl rfl) (rk_s) H (SF_trans (hS_153) hS267 (any_sub rfl)) (SA_trans (hA_153) hA268 (any_subA rfl)) (y270) ((ey271)) (wq272) (ewq273) (show inr ((x153_10 + (-3))) from q_2475 b254 j153_0) (show 0 ≤ ((x153_10 + (-3))) ∧ ((x153_10 + (-3))) ≤ (x128_10) from q_2474 b254 j153_1) (show (y240) ≤ (y270) ∧ (y270) ≤ (y240) + ((x128_10) - ((x153_10 + (-3)))) from q_2473 j153_2 pz269_0) (show ∃ B, zbt q10 = B ++ zbt (((x153_10 + (-3)))) ∧ IMP ((u6_35) + 800 ≤ 192000) (MDA ((w69)) ((u6_35)) ((wq272)) ((y270)) (B1 ++ B)) by assumption) rfl
                · refine Ew_of (pcₚ := 143) (fun _ => x_iinc (len := 3) rfl (l128_10)) ?_
                  refine Ew_of (pcₚ := 128) (fun _ => x_goto rfl rfl) ?_
                  have hnq : ¬ ((fun k => (sh ((w75)) ((a2))) (((x16_5 + 1)) + k) ≠ 0)) x128_10 := fun q => by have q : (sh ((w75)) ((a2))) (((x16_5 + 1)) + x128_10) ≠ 0 := q; omega
                  have : ∀ j, ((x16_5 + 1)) ≤ j → j < ((x16_5 + 1)) + ((x128_10 + 1)) → (sh ((w75)) ((a2))) j = 0 := fun j a b => by by_cases e : j = ((x16_5 + 1)) + x128_10; (rw [e]; omega); exact j128_z j a (by omega)
                  have hfn := FP_next hm128 hnq (show ((x128_10 + 1)) = x128_10 + 1 from rfl)
                  have := hfn.1
                  have := hfn.2
                  exact ih128 (mx - 1) (by omega) _ σ _ _ ((x128_10 + 1)) (rk_o (l128_0) rfl rfl) (rk_o (l128_1) rfl rfl) (rk_o (l128_2) rfl rfl) (rk_o (l128_4) rfl rfl) (rk_o (l128_5) rfl rfl) (rk_s) H (hS_128) (hA_128)   (show inr ((x128_10 + 1)) by omega) (show 0 ≤ ((x128_10 + 1)) by omega) (show ∀ j, ((x16_5 + 1)) ≤ j → j < ((x16_5 + 1)) + ((x128_10 + 1)) → (sh ((w75)) ((a2))) j = 0 by assumption) (by assumption)
            · refine Ew_of (pcₚ := 16) (fun _ => x_goto rfl rfl) ?_
              have : ∃ B, SBO (cutP 64 (sh ((w75)) ((a2)))) ((a3)) (((x16_5 + 1))) (((x16_4 - z249))) B ∧ IMP ((u6_35) + 800 ≤ 192000) (MDA ((w69)) ((u6_35)) ((wq242)) ((y240)) (B)) := by first | exact ⟨_, SBO_z hST (by omega) (by rw [hcP]; omega) hzr (by omega) (by omega) (by rw [← hB1]), hp4⟩ | exact ⟨_, SBO_s hST (by omega) (by rw [hcP]; omega) (by omega) (by rw [hcP]; omega) hB1, hM1⟩
              exact ih16 _ (msE hm16 q_1344 (q_1345 hl64)) _ σ _ _ ((x16_4 - z249)) ((x16_5 + 1)) (rk_o (rk_o (rk_o (rk_o (rk_o (rk_o (l16_0) rfl rfl) rfl rfl) rfl rfl) rfl rfl) rfl rfl) rfl rfl) (rk_o (rk_o (rk_o (rk_o (rk_o (rk_o (l16_1) rfl rfl) rfl rfl) rfl rfl) rfl rfl) rfl rfl) rfl rfl) (rk_o (rk_o (rk_o (rk_o (rk_o (rk_o (l16_2) rfl rfl) rfl rfl) rfl rfl) rfl rfl) rfl rfl) rfl rfl) (rk_o (rk_s) rfl rfl) (rk_s) H (SF_trans (SF_trans (SF_trans (hS_16) hS26 (any_sub rfl)) hS237 (any_sub rfl)) hS247 (any_sub rfl)) (SA_trans (SA_trans (SA_trans (hA_16) hA27 (any_subA rfl)) hA238 (any_subA rfl)) hA248 (any_subA rfl)) (y240) (((hS247 6 35 rfl).trans (ey241))) (wq242) ((funext (hA248 69 rfl)).trans (ewq243)) (show inr ((x16_4 - z249)) from q_2471 b14 b194 b30 j16_5 pz249_0) (show inr ((x16_5 + 1)) from q_2480 hl64 j16_6) (show 0 ≤ ((x16_5 + 1)) ∧ ((x16_5 + 1)) ≤ 64 from q_2479 hl64 j16_6) (show ((x16_5 + 1)) ≤ lst + 1 from q_167 hll) (show ((x16_4 - z249)) = p2 ((a3)) - mp (sh ((w75)) ((a2))) (((x16_5 + 1))) from q_2470 b194 b30) (show 0 ≤ ((x16_4 - z249)) ∧ ((x16_4 - z249)) ≤ 512 from q_2469 b14 b194 b30 j16_5 pz249_0) (show (u6_35) ≤ (y240) ∧ (y240) ≤ (u6_35) + 4 + 12 * ((x16_5 + 1)) from q_2494 hk9 j16_6 pz239_0 pz28_1) (show ∃ B, SBO (cutP 64 (sh ((w75)) ((a2)))) ((a3)) (((x16_5 + 1))) (((x16_4 - z249))) B ∧ IMP ((u6_35) + 800 ≤ 192000) (MDA ((w69)) ((u6_35)) ((wq242)) ((y240)) (B)) by assumption) rfl


end
section
/-! 73.ref -/
theorem M435b {σ0 σ : rS} {D N : Nat → Nat} {F : hF} {A : hA} {d c s : Nat} {Q : wQ} (H : HS σ0 σ D N F A) {a1 a2 a3 : Int} (u6_30 : Int) (eu6_30 : F 6 30 = u6_30) (u6_37 : Int) (eu6_37 : F 6 37 = u6_37) (w70 : Int → Int) (ew70 : A 70 = w70) (h0 : inr (a1)) (h1 : inr (a2)) (h2 : inr (a3)) (h3 : -1 ≤ (a2) ∧ (a2) ≤ 3) (h4 : 0 ≤ (u6_37) ∧ (u6_37) ≤ 80000000) (k : ∀ σ Fₚ Aₚ, HS σ0 σ D N Fₚ Aₚ → SF [(6, 37)] F Fₚ → SA [70] A Aₚ → ∀ y6_37 : Int, Fₚ 6 37 = y6_37 → ∀ v70 : Int → Int, Aₚ 70 = v70 → ((u6_37) ≤ (y6_37) ∧ (y6_37) ≤ (u6_37) + 5) → (IMP (0 ≤ (a1) ∧ (a1) ≤ 3 ∧ 0 ≤ (a2) ∧ 0 ≤ (a3) ∧ (a3) < 262144 ∧ (u6_30) < p2 (wdF ((a2)))) (QAP 65536 ((w70)) ((u6_37)) ((v70)) ((y6_37)) (nb (HDV ((a1)) ((a2)) ((u6_30)) ((a3)) (wdF ((a2)))) (hbF ((a2)))))) → Q none σ c s) : Ew 435 (d + 2) 0 (rargs 0 [.ref (D 6), I a1, I a2, I a3]) [] σ c s Q := by
  have r1 : (0 : Int) ≤ u6_30 ∧ u6_30 ≤ 16385 := rngE (show (0 : Int) ≤ F 6 30 ∧ F 6 30 ≤ 16385 from H.frng 6 30) (show F 6 30 = u6_30 from (eu6_30))
  have r2 : (0 : Int) ≤ u6_37 ∧ u6_37 ≤ 100000000 := rngE (show (0 : Int) ≤ F 6 37 ∧ F 6 37 ≤ 100000000 from H.frng 6 37) (show F 6 37 = u6_37 from (eu6_37))
  refine Ew_of (pcₚ := 1) (fun _ => x_aload_n rfl rfl) ?_
  refine Ew_of (pcₚ := 2) (fun _ => x_iload_n rfl rfl) ?_
  refine w_i2l rfl (show inr (a1) from h0) ?_
  refine Ew_of (pcₚ := 4) (fun _ => x_iload_n rfl rfl) ?_
  refine w_i2l rfl (show inr (a2) from h1) ?_
  refine Ew_of (pcₚ := 6) (fun _ => x_iconst rfl) ?_
  refine w_lshlE rfl ?_
  have g3 : inrJ (shlJ (a2) (2)) := toJ_inr _
  refine w_lorE rfl ?_
  have g4 : inrJ (orJ (a1) ((shlJ (a2) (2)))) := toJ_inr _
  refine Ew_of (pcₚ := 9) (fun _ => x_aload_n rfl rfl) ?_
  refine w_gI H (o := 6) (w := u6_30) rfl (H.perm 6 rfl) rfl rfl rfl (fun _ => rfl) (eu6_30) ?_
  refine w_i2l rfl (show inr (u6_30) from q_2125 r1) ?_
  refine Ew_of (pcₚ := 14) (fun _ => x_iconst rfl) ?_
  refine w_lshlE rfl ?_
  have g5 : inrJ (shlJ (u6_30) (4)) := toJ_inr _
  refine w_lorE rfl ?_
  have g6 : inrJ (orJ ((orJ (a1) ((shlJ (a2) (2))))) ((shlJ (u6_30) (4)))) := toJ_inr _
  refine Ew_of (pcₚ := 17) (fun _ => x_iload_n rfl rfl) ?_
  refine w_i2l rfl (show inr (a3) from h2) ?_
  refine Ew_of (pcₚ := 19) (fun _ => x_iconst rfl) ?_
  refine Ew_of (pcₚ := 20) (fun _ => x_iload_n rfl rfl) ?_
  refine w_stat24 rfl rfl (by rfl) (M427 H (show inr (a2) from h1) (fun z11 σ F7 A8 H hS9 hA10 pz11_0 pz11_1 pz11_2 => ⟨rfl, ?_⟩))
  have hw20 : z11 = wdF ((a2)) := wdF_e pz11_2
  refine w_iadd rfl ?_
  refine w_lshlE rfl ?_
  have g12 : inrJ (shlJ (a3) ((4 + z11))) := toJ_inr _
  refine w_lorE rfl ?_
  have g13 : inrJ (orJ ((orJ ((orJ (a1) ((shlJ (a2) (2))))) ((shlJ (u6_30) (4))))) ((shlJ (a3) ((4 + z11))))) := toJ_inr _
  obtain ⟨qh, hqh⟩ : ∃ q : Int, q = ((orJ ((orJ ((orJ (a1) ((shlJ (a2) (2))))) ((shlJ (u6_30) (4))))) ((shlJ (a3) ((4 + z11)))))) := ⟨_, rfl⟩
  rw [← hqh]
  have gqh : inrJ qh := by rw [hqh]; first | assumption | omega
  replace hqh : IMP True (qh = ((orJ ((orJ ((orJ (a1) ((shlJ (a2) (2))))) ((shlJ (u6_30) (4))))) ((shlJ (a3) ((4 + z11))))))) := fun _ => hqh
  try clear g13
  try clear g12
  try clear g6
  try clear g5
  try clear g4
  try clear g3
  refine Ew_of (pcₚ := 27) (fun _ => x_iload_n rfl rfl) ?_
  refine w_stat24 rfl rfl (by rfl) (M428 H (show inr (a2) from h1) (fun z18 σ F14 A15 H hS16 hA17 pz18_0 pz18_1 pz18_2 => ⟨rfl, ?_⟩))
  have hb27 : z18 = hbF ((a2)) := hbF_e pz18_2
  refine w_inv H (o := 6) rfl rfl rfl (H.perm 6 rfl) rfl rfl (by rfl) (M393 H (u6_37) ((((hS16 6 37 rfl).trans (hS9 6 37 rfl)).trans (eu6_37))) (w70) ((funext (hA17 70 rfl)).trans ((funext (hA10 70 rfl)).trans (ew70))) (show inrJ (qh) from gqh) (show inr (z18) from pz18_0) (show 0 ≤ (z18) ∧ (z18) ≤ 8 from q_2169 pz18_1) (show 0 ≤ (u6_37) ∧ (u6_37) ≤ 90000000 from q_2168 h4 r2) (fun σ F19 A20 H hS21 hA22 y24 ey25 wq26 ewq27 pz23_0 pz23_1 => ⟨rfl, ?_⟩))
  have r28 : (0 : Int) ≤ y24 ∧ y24 ≤ 100000000 := rngE (show (0 : Int) ≤ F19 6 37 ∧ F19 6 37 ≤ 100000000 from H.frng 6 37) (show F19 6 37 = y24 from (ey25))
  have : IMP (0 ≤ (a1) ∧ (a1) ≤ 3 ∧ 0 ≤ (a2) ∧ 0 ≤ (a3) ∧ (a3) < 262144 ∧ (u6_30) < p2 (wdF ((a2)))) (QAP 65536 ((w70)) ((u6_37)) ((wq26)) ((y24)) (nb (HDV ((a1)) ((a2)) ((u6_30)) ((a3)) (wdF ((a2)))) (hbF ((a2))))) := fun q => by have hqv : qh = HDV ((a1)) ((a2)) ((u6_30)) ((a3)) (wdF ((a2))) := (hqh trivial).trans (by rw [hw20]; exact HDR ⟨q.1, q.2.1⟩ (by have := q.2.2.1; omega) wdF_r ⟨by omega, q.2.2.2.2.2⟩ ⟨q.2.2.2.1, q.2.2.2.2.1⟩); rw [← hqv, ← hb27]; exact pz23_1
  exact w_ret rfl (k σ _ _ H (SF_trans (SF_trans (SF_trans (SF_refl) hS9 (any_sub rfl)) hS16 (any_sub rfl)) hS21 (any_sub rfl)) (SA_trans (SA_trans (SA_trans (SA_refl) hA10 (any_subA rfl)) hA17 (any_subA rfl)) hA22 (any_subA rfl)) (y24) ((ey25)) (wq26) (ewq27) (show (u6_37) ≤ (y24) ∧ (y24) ≤ (u6_37) + 5 from q_2170 pz18_1 pz23_0) (show IMP (0 ≤ a1 ∧ a1 ≤ 3 ∧ 0 ≤ a2 ∧ 0 ≤ a3 ∧ a3 < 262144 ∧ (u6_30) < p2 (wdF (a2))) (QAP 65536 ((w70)) ((u6_37)) ((wq26)) ((y24)) (nb (HDV (a1) (a2) ((u6_30)) (a3) (wdF (a2))) (hbF (a2)))) by assumption))


end
