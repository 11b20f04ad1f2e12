section
/-! 91f.ref -/
set_option maxHeartbeats 16000000 in
theorem M443f {σ0 σ : rS} {D N : Nat → Nat} {F : hF} {A : hA} {d c s : Nat} {Q : wQ} (H : HS σ0 σ D N F A)  (u6_28 : Int) (eu6_28 : F 6 28 = u6_28) (u6_35 : Int) (eu6_35 : F 6 35 = u6_35) (u6_37 : Int) (eu6_37 : F 6 37 = u6_37) (w54 : Int → Int) (ew54 : A 54 = w54) (w55 : Int → Int) (ew55 : A 55 = w55) (w66 : Int → Int) (ew66 : A 66 = w66) (w67 : Int → Int) (ew67 : A 67 = w67) (w68 : Int → Int) (ew68 : A 68 = w68) (w69 : Int → Int) (ew69 : A 69 = w69) (w70 : Int → Int) (ew70 : A 70 = w70) (h0 : 1 ≤ (u6_28)) (h1 : WO ((w54)) ((w55))) (h2 : TBL ((w54)) ((w55)) (sh ((w66)) (8001 * 0)) 0 ((u6_28))) (h3 : TBL ((w54)) ((w55)) (sh ((w66)) (8001 * 1)) 1 ((u6_28))) (h4 : TBL ((w54)) ((w55)) (sh ((w66)) (8001 * 2)) 2 ((u6_28))) (h5 : 0 ≤ (u6_37) ∧ (u6_37) ≤ 80000000) (h6 : 17 * (u6_28) + su (mo3 ((w67))) ((u6_28) : Int).toNat ≤ 180224) (k : ∀ σ Fₚ Aₚ, HS σ0 σ D N Fₚ Aₚ → SF [(6, 35), (6, 37)] F Fₚ → SA [69, 70, 71, 72, 73, 74] A Aₚ → ∀ y6_35 : Int, Fₚ 6 35 = y6_35 → ∀ y6_37 : Int, Fₚ 6 37 = y6_37 → ∀ v69 : Int → Int, Aₚ 69 = v69 → ∀ v70 : Int → Int, Aₚ 70 = v70 → ((u6_37) ≤ (y6_37) ∧ (y6_37) ≤ (u6_37) + 24000) → (IMP (MDX ((w69)) ((u6_35))) (QAP 65536 ((w70)) ((u6_37)) ((v70)) ((y6_37)) (strB (BR ((w54)) ((w55))) (fun t => sh ((w66)) (8001 * t)) (XR ((w68)) ((w67))) ((u6_28))) ∧ MDX ((v69)) ((y6_35)))) → Q none σ c s) : Ew 443 (d + 3) 0 (rargs 0 [.ref (D 6)]) [] σ c s Q := by
  have r1 : (0 : Int) ≤ u6_28 ∧ u6_28 ≤ 8001 := rngE (show (0 : Int) ≤ F 6 28 ∧ F 6 28 ≤ 8001 from H.frng 6 28) (show F 6 28 = u6_28 from (eu6_28))
  have r2 : (0 : Int) ≤ u6_35 ∧ u6_35 ≤ 100000000 := rngE (show (0 : Int) ≤ F 6 35 ∧ F 6 35 ≤ 100000000 from H.frng 6 35) (show F 6 35 = u6_35 from (eu6_35))
  have r3 : (0 : Int) ≤ u6_37 ∧ u6_37 ≤ 100000000 := rngE (show (0 : Int) ≤ F 6 37 ∧ F 6 37 ≤ 100000000 from H.frng 6 37) (show F 6 37 = u6_37 from (eu6_37))
  have htb0 : TBL ((w54)) ((w55)) (sh ((w66)) (8001 * 0)) 0 ((u6_28)) := h2
  have htb1 : TBL ((w54)) ((w55)) (sh ((w66)) (8001 * 1)) 1 ((u6_28)) := h3
  have htb2 : TBL ((w54)) ((w55)) (sh ((w66)) (8001 * 2)) 2 ((u6_28)) := h4
  have hBs : ∀ i, (0 : Int) ≤ (w66) i ∧ (w66) i ≤ 63 := fun i => by have h1 : (0 : Int) ≤ A 66 i ∧ A 66 i ≤ 63 := H.arng 66 i; rw [show A 66 = w66 from ew66] at h1; exact h1
  have hBm : ∀ i, (0 : Int) ≤ (w67) i ∧ (w67) i ≤ 31 := fun i => by have h1 : (0 : Int) ≤ A 67 i ∧ A 67 i ≤ 31 := H.arng 67 i; rw [show A 67 = w67 from ew67] at h1; exact h1
  have : 0 ≤ ((w55)) 0 ∧ 0 ≤ ((w55)) 1 ∧ 0 ≤ ((w55)) 2 := ⟨htb0.1, htb1.1, htb2.1⟩
  have h0o0 : 0 ≤ ((w55)) 0 := htb0.1
  have h0o1 : 0 ≤ ((w55)) 1 := htb1.1
  have h0o2 : 0 ≤ ((w55)) 2 := htb2.1
  have hr0 : ∀ j, 0 ≤ (sh ((w66)) (8001 * 0)) j ∧ (sh ((w66)) (8001 * 0)) j < 64 := fun j => by have := hBs (8001 * 0 + j); show 0 ≤ ((w66)) (8001 * 0 + j) ∧ ((w66)) (8001 * 0 + j) < 64; omega
  have hr1 : ∀ j, 0 ≤ (sh ((w66)) (8001 * 1)) j ∧ (sh ((w66)) (8001 * 1)) j < 64 := fun j => by have := hBs (8001 * 1 + j); show 0 ≤ ((w66)) (8001 * 1 + j) ∧ ((w66)) (8001 * 1 + j) < 64; omega
  have hr2 : ∀ j, 0 ≤ (sh ((w66)) (8001 * 2)) j ∧ (sh ((w66)) (8001 * 2)) j < 64 := fun j => by have := hBs (8001 * 2 + j); show 0 ≤ ((w66)) (8001 * 2 + j) ∧ ((w66)) (8001 * 2 + j) < 64; omega
  have : 1 ≤ ((w55)) (0) → (sh ((w54)) (64 * 0)) ((sh ((w66)) (8001 * 0)) ((u6_28) - 1)) ≠ 0 := fun q => by obtain ⟨s, c, x, y⟩ := htb0.2.2 q; exact COST_nz ⟨s.1, s.2.1⟩ y (by omega) _ (by omega) (by omega)
  have : 1 ≤ ((w55)) (1) → (sh ((w54)) (64 * 1)) ((sh ((w66)) (8001 * 1)) ((u6_28) - 1)) ≠ 0 := fun q => by obtain ⟨s, c, x, y⟩ := htb1.2.2 q; exact COST_nz ⟨s.1, s.2.1⟩ y (by omega) _ (by omega) (by omega)
  have : 1 ≤ ((w55)) (2) → (sh ((w54)) (64 * 2)) ((sh ((w66)) (8001 * 2)) ((u6_28) - 1)) ≠ 0 := fun q => by obtain ⟨s, c, x, y⟩ := htb2.2.2 q; exact COST_nz ⟨s.1, s.2.1⟩ y (by omega) _ (by omega) (by omega)
  refine Ew_of (pcₚ := 1) (fun _ => x_aload_n rfl rfl) ?_
  refine w_inv H (o := 6) rfl rfl rfl (H.perm 6 rfl) rfl rfl (by rfl) (M391 H (u6_35) ((eu6_35)) (w69) (ew69)  (fun σ F4 A5 H hS6 hA7 y9 ey10 wq11 ewq12 pz8_0 pz8_1 => ⟨rfl, ?_⟩))
  have r13 : (0 : Int) ≤ y9 ∧ y9 ≤ 100000000 := rngE (show (0 : Int) ≤ F4 6 35 ∧ F4 6 35 ≤ 100000000 from H.frng 6 35) (show F4 6 35 = y9 from (ey10))
  have hb4 : IMP (MDX ((w69)) ((u6_35))) (MDB ((wq11)) ((y9)) []) := fun q => by rw [show (y9) = 0 by omega]; exact pz8_1 q
  refine Ew_of (pcₚ := 5) (fun _ => x_aload_n rfl rfl) ?_
  refine Ew_of (pcₚ := 6) (fun _ => x_iconst rfl) ?_
  refine w_inv H (o := 6) rfl rfl rfl (H.perm 6 rfl) rfl rfl (by rfl) (M442f H (u6_28) (((hS6 6 28 rfl).trans (eu6_28))) (w54) ((funext (hA7 54 rfl)).trans (ew54)) (w55) ((funext (hA7 55 rfl)).trans (ew55)) (w66) ((funext (hA7 66 rfl)).trans (ew66)) (A 71) (funext (hA7 71 rfl)) (A 72) (funext (hA7 72 rfl)) (A 73) (funext (hA7 73 rfl)) (show inr (0) from q_2) (show 0 ≤ (0) ∧ (0) ≤ 2 from q_2611) (show 1 ≤ (u6_28) from h0) (h0o0) (h1) (show 1 ≤ ((w55)) ((0)) → (sh ((w54)) (64 * (0))) ((sh ((w66)) (8001 * (0))) ((u6_28) - 1)) ≠ 0 by assumption) (fun z18 σ F14 A15 H hS16 hA17 wq19 ewq20 wq21 ewq22 wq23 ewq24 pz18_0 pz18_1 pz18_2 pz18_3 pz18_4 pz18_5 pz18_6 pz18_7 => ⟨rfl, ?_⟩))
  refine Ew_of (pcₚ := 10) (fun _ => x_istore_n rfl) ?_
  refine Ew_of (pcₚ := 11) (fun _ => x_aload_n rfl (rk_o (rfl) rfl rfl)) ?_
  refine Ew_of (pcₚ := 12) (fun _ => x_iconst rfl) ?_
  refine w_inv H (o := 6) rfl rfl rfl (H.perm 6 rfl) rfl rfl (by rfl) (M442f H (u6_28) ((((hS16 6 28 rfl).trans (hS6 6 28 rfl)).trans (eu6_28))) (w54) ((funext (hA17 54 rfl)).trans ((funext (hA7 54 rfl)).trans (ew54))) (w55) ((funext (hA17 55 rfl)).trans ((funext (hA7 55 rfl)).trans (ew55))) (w66) ((funext (hA17 66 rfl)).trans ((funext (hA7 66 rfl)).trans (ew66))) (wq19) (ewq20) (wq21) (ewq22) (wq23) (ewq24) (show inr (1) from q_135) (show 0 ≤ (1) ∧ (1) ≤ 2 from q_2612) (show 1 ≤ (u6_28) from h0) (h0o1) (h1) (show 1 ≤ ((w55)) ((1)) → (sh ((w54)) (64 * (1))) ((sh ((w66)) (8001 * (1))) ((u6_28) - 1)) ≠ 0 by assumption) (fun z29 σ F25 A26 H hS27 hA28 wq30 ewq31 wq32 ewq33 wq34 ewq35 pz29_0 pz29_1 pz29_2 pz29_3 pz29_4 pz29_5 pz29_6 pz29_7 => ⟨rfl, ?_⟩))
  refine Ew_of (pcₚ := 16) (fun _ => x_istore_n rfl) ?_
  refine Ew_of (pcₚ := 17) (fun _ => x_aload_n rfl (rk_o (rk_o (rfl) rfl rfl) rfl rfl)) ?_
  refine Ew_of (pcₚ := 18) (fun _ => x_iconst rfl) ?_
  refine w_inv H (o := 6) rfl rfl rfl (H.perm 6 rfl) rfl rfl (by rfl) (M442f H (u6_28) (((((hS27 6 28 rfl).trans (hS16 6 28 rfl)).trans (hS6 6 28 rfl)).trans (eu6_28))) (w54) ((funext (hA28 54 rfl)).trans ((funext (hA17 54 rfl)).trans ((funext (hA7 54 rfl)).trans (ew54)))) (w55) ((funext (hA28 55 rfl)).trans ((funext (hA17 55 rfl)).trans ((funext (hA7 55 rfl)).trans (ew55)))) (w66) ((funext (hA28 66 rfl)).trans ((funext (hA17 66 rfl)).trans ((funext (hA7 66 rfl)).trans (ew66)))) (wq30) (ewq31) (wq32) (ewq33) (wq34) (ewq35) (show inr (2) from q_122) (show 0 ≤ (2) ∧ (2) ≤ 2 from q_440) (show 1 ≤ (u6_28) from h0) (h0o2) (h1) (show 1 ≤ ((w55)) ((2)) → (sh ((w54)) (64 * (2))) ((sh ((w66)) (8001 * (2))) ((u6_28) - 1)) ≠ 0 by assumption) (fun z40 σ F36 A37 H hS38 hA39 wq41 ewq42 wq43 ewq44 wq45 ewq46 pz40_0 pz40_1 pz40_2 pz40_3 pz40_4 pz40_5 pz40_6 pz40_7 => ⟨rfl, ?_⟩))
  refine Ew_of (pcₚ := 22) (fun _ => x_istore_n rfl) ?_
  refine Ew_of (pcₚ := 23) (fun _ => x_aload_n rfl (rk_o (rk_o (rk_o (rfl) rfl rfl) rfl rfl) rfl rfl)) ?_
  refine Ew_of (pcₚ := 24) (fun _ => x_aload_n rfl (rk_o (rk_o (rk_o (rfl) rfl rfl) rfl rfl) rfl rfl)) ?_
  refine w_gI H (o := 6) (w := u6_28) rfl (H.perm 6 rfl) rfl rfl rfl (fun _ => rfl) (((((hS38 6 28 rfl).trans (hS27 6 28 rfl)).trans (hS16 6 28 rfl)).trans (hS6 6 28 rfl)).trans (eu6_28)) ?_
  refine Ew_of (pcₚ := 28) (fun _ => x_iconst rfl) ?_
  refine w_isub rfl ?_
  refine w_inv H (o := 6) rfl rfl rfl (H.perm 6 rfl) rfl rfl (by rfl) (M440f H (y9) (((((hS38 6 35 rfl).trans (hS27 6 35 rfl)).trans (hS16 6 35 rfl)).trans (ey10))) (w67) ((funext (hA39 67 rfl)).trans ((funext (hA28 67 rfl)).trans ((funext (hA17 67 rfl)).trans ((funext (hA7 67 rfl)).trans (ew67))))) (w68) ((funext (hA39 68 rfl)).trans ((funext (hA28 68 rfl)).trans ((funext (hA17 68 rfl)).trans ((funext (hA7 68 rfl)).trans (ew68))))) (wq11) ((funext (hA39 69 rfl)).trans ((funext (hA28 69 rfl)).trans ((funext (hA17 69 rfl)).trans (ewq12)))) (show inr ((u6_28 - 1)) from q_2721 r1) (show 0 ≤ ((u6_28 - 1)) ∧ ((u6_28 - 1)) ≤ 8000 from q_2720 h0 r1) (show 0 ≤ (y9) ∧ (y9) ≤ 70000000 from q_2719 pz8_0 r13) (fun σ F47 A48 H hS49 hA50 y52 ey53 wq54 ewq55 pz51_0 pz51_1 => ⟨rfl, ?_⟩))
  have r56 : (0 : Int) ≤ y52 ∧ y52 ≤ 100000000 := rngE (show (0 : Int) ≤ F47 6 35 ∧ F47 6 35 ≤ 100000000 from H.frng 6 35) (show F47 6 35 = y52 from (ey53))
  have hm32 : IMP (MDX ((w69)) ((u6_35))) (MDB ((wq54)) ((y52)) (XR ((w68)) ((w67)) ((u6_28) - 1))) := fun q => by have h := pz51_1 (by omega) [] (hb4 q); rw [List.nil_append] at h; exact h
  refine Ew_of (pcₚ := 33) (fun _ => x_aload_n rfl (rk_o (rk_o (rk_o (rfl) rfl rfl) rfl rfl) rfl rfl)) ?_
  refine w_gI H (o := 6) (w := u6_28) rfl (H.perm 6 rfl) rfl rfl rfl (fun _ => rfl) ((((((hS49 6 28 rfl).trans (hS38 6 28 rfl)).trans (hS27 6 28 rfl)).trans (hS16 6 28 rfl)).trans (hS6 6 28 rfl)).trans (eu6_28)) ?_
  refine Ew_of (pcₚ := 37) (fun _ => x_iconst rfl) ?_
  refine w_isub rfl ?_
  refine Ew_of (pcₚ := 40) (fun _ => x_istore rfl) ?_
  have hbm0 := hBm (8001 * 0 + ((u6_28) - 1))
  have hbm1 := hBm (8001 * 1 + ((u6_28) - 1))
  have hbm2 := hBm (8001 * 2 + ((u6_28) - 1))
  have hsq : su (mo3 ((w67))) ((u6_28) : Int).toNat = su (mo3 ((w67))) ((u6_28) - 1 + 1 : Int).toNat := by rw [show ((u6_28) - 1 + 1 : Int) = (u6_28) by omega]
  have hsl : su (mo3 ((w67))) (((u6_28 - 2)) + 1 : Int).toNat = su (mo3 ((w67))) ((u6_28) - 1 : Int).toNat := by rw [show ((u6_28 - 2)) + 1 = (u6_28) - 1 by omega]
  have hsm := su_s (f := mo3 ((w67))) (i := (u6_28) - 1) (by omega)
  have hm3 : mo3 ((w67)) ((u6_28) - 1) = ((w67)) (8001 * 0 + ((u6_28) - 1)) + ((w67)) (8001 * 2 + ((u6_28) - 1)) + ((w67)) (8001 * 1 + ((u6_28) - 1)) := rfl
  have hs0 : STI ((w54)) ((w55)) ((wq41)) ((wq43)) ((wq45)) (sh ((w66)) (8001 * 0)) 0 ((u6_28)) (0) ((z18)) (0) := STI_0 htb0 pz18_2 pz18_3 (fun k a b => ⟨(pz40_4 k (by omega)).trans (pz29_4 k (by omega)), (pz40_5 k (by omega)).trans (pz29_5 k (by omega)), (pz40_6 k (by omega)).trans (pz29_6 k (by omega))⟩)
  have hs1 : STI ((w54)) ((w55)) ((wq41)) ((wq43)) ((wq45)) (sh ((w66)) (8001 * 1)) 1 ((u6_28)) (0) ((z29)) (0) := STI_0 htb1 pz29_2 pz29_3 (fun k a b => ⟨pz40_4 k (by omega), pz40_5 k (by omega), pz40_6 k (by omega)⟩)
  have hs2 : STI ((w54)) ((w55)) ((wq41)) ((wq43)) ((wq45)) (sh ((w66)) (8001 * 2)) 2 ((u6_28)) (0) ((z40)) (0) := STI_0 htb2 pz40_2 pz40_3 (fun k a b => ⟨rfl, rfl, rfl⟩)
  have : SSI ((w54)) ((w55)) ((wq41)) ((wq43)) ((wq45)) ((w66)) ((w67)) ((u6_28)) (((u6_28 - 2))) ((z18)) ((z29)) ((z40)) ((y52)) := ⟨0, 0, 0, by rw [show (u6_28) - 2 - (((u6_28 - 2))) = 0 by omega]; exact hs0, by rw [show (u6_28) - 2 - (((u6_28 - 2))) = 0 by omega]; exact hs1, by rw [show (u6_28) - 2 - (((u6_28 - 2))) = 0 by omega]; exact hs2, by omega⟩
  have : (stS (BR ((w54)) ((w55))) (fun t => sh ((w66)) (8001 * t)) (XR ((w68)) ((w67))) ((u6_28)) ((u6_28) - 2 - ((u6_28 - 2)) : Int).toNat).1 = (z18) ∧ (stS (BR ((w54)) ((w55))) (fun t => sh ((w66)) (8001 * t)) (XR ((w68)) ((w67))) ((u6_28)) ((u6_28) - 2 - ((u6_28 - 2)) : Int).toNat).2.1 = (z29) ∧ (stS (BR ((w54)) ((w55))) (fun t => sh ((w66)) (8001 * t)) (XR ((w68)) ((w67))) ((u6_28)) ((u6_28) - 2 - ((u6_28 - 2)) : Int).toNat).2.2.1 = (z40) := by rw [show (u6_28) - 2 - (((u6_28 - 2))) = 0 by omega]; exact ⟨pz18_7.symm, pz29_7.symm, pz40_7.symm⟩
  have : IMP (MDX ((w69)) ((u6_35))) (MDB ((wq54)) ((y52)) ((stS (BR ((w54)) ((w55))) (fun t => sh ((w66)) (8001 * t)) (XR ((w68)) ((w67))) ((u6_28)) ((u6_28) - 2 - ((u6_28 - 2)) : Int).toNat).2.2.2)) := fun q => by rw [show (u6_28) - 2 - (((u6_28 - 2))) = 0 by omega]; exact hm32 q
  suffices hl40 : ∀ (m : Nat), ∀ (ls : rO) (σ : rS) (F_40 : hF) (A_40 : hA) (x40_1 : Int) (x40_2 : Int) (x40_3 : Int) (x40_4 : Int), rlook ls 0 = some (.ref (D 6)) → rlook ls 1 = some (I (x40_1)) → rlook ls 2 = some (I (x40_2)) → rlook ls 3 = some (I (x40_3)) → rlook ls 4 = some (I (x40_4)) → HS σ0 σ D N F_40 A_40 → SF [(6, 35)] F47 F_40 → SA [69] A48 A_40 → ∀ y40_6_35 : Int, F_40 6 35 = y40_6_35 → ∀ w40_69 : Int → Int, A_40 69 = w40_69 → (inr (x40_1)) → (inr (x40_2)) → (inr (x40_3)) → (inr (x40_4)) → (-1 ≤ (x40_4) ∧ (x40_4) ≤ (u6_28) - 2) → (0 ≤ (y40_6_35) ∧ (y40_6_35) ≤ 200 * ((u6_28) - (x40_4))) → (SSI ((w54)) ((w55)) ((wq41)) ((wq43)) ((wq45)) ((w66)) ((w67)) ((u6_28)) ((x40_4)) ((x40_1)) ((x40_2)) ((x40_3)) ((y40_6_35))) → ((stS (BR ((w54)) ((w55))) (fun t => sh ((w66)) (8001 * t)) (XR ((w68)) ((w67))) ((u6_28)) ((u6_28) - 2 - (x40_4) : Int).toNat).1 = (x40_1) ∧ (stS (BR ((w54)) ((w55))) (fun t => sh ((w66)) (8001 * t)) (XR ((w68)) ((w67))) ((u6_28)) ((u6_28) - 2 - (x40_4) : Int).toNat).2.1 = (x40_2) ∧ (stS (BR ((w54)) ((w55))) (fun t => sh ((w66)) (8001 * t)) (XR ((w68)) ((w67))) ((u6_28)) ((u6_28) - 2 - (x40_4) : Int).toNat).2.2.1 = (x40_3)) → (IMP (MDX ((w69)) ((u6_35))) (MDB ((w40_69)) ((y40_6_35)) ((stS (BR ((w54)) ((w55))) (fun t => sh ((w66)) (8001 * t)) (XR ((w68)) ((w67))) ((u6_28)) ((u6_28) - 2 - (x40_4) : Int).toNat).2.2.2))) → ((y40_6_35) ≤ 181000) → ((x40_4) + 1).toNat = m → Ew 443 (d + 3) 40 ls [] σ c s Q from
    hl40 _ _ σ _ _ (z18) (z29) (z40) ((u6_28 - 2)) (rk_o (rk_o (rk_o (rk_o (rfl) rfl rfl) rfl rfl) rfl rfl) rfl rfl) (rk_o (rk_o (rk_o (rk_s) rfl rfl) rfl rfl) rfl rfl) (rk_o (rk_o (rk_s) rfl rfl) rfl rfl) (rk_o (rk_s) rfl rfl) (rk_s) H (SF_refl) (SA_refl) (y52) ((ey53)) (wq54) (ewq55) (show inr (z18) from pz18_0) (show inr (z29) from pz29_0) (show inr (z40) from pz40_0) (show inr ((u6_28 - 2)) from q_2412 r1) (show -1 ≤ ((u6_28 - 2)) ∧ ((u6_28 - 2)) ≤ (u6_28) - 2 from q_2411 h0) (show 0 ≤ (y52) ∧ (y52) ≤ 200 * ((u6_28) - ((u6_28 - 2))) by omega) (show SSI ((w54)) ((w55)) ((wq41)) ((wq43)) ((wq45)) ((w66)) ((w67)) ((u6_28)) (((u6_28 - 2))) ((z18)) ((z29)) ((z40)) ((y52)) by assumption) (show (stS (BR ((w54)) ((w55))) (fun t => sh ((w66)) (8001 * t)) (XR ((w68)) ((w67))) ((u6_28)) ((u6_28) - 2 - ((u6_28 - 2)) : Int).toNat).1 = (z18) ∧ (stS (BR ((w54)) ((w55))) (fun t => sh ((w66)) (8001 * t)) (XR ((w68)) ((w67))) ((u6_28)) ((u6_28) - 2 - ((u6_28 - 2)) : Int).toNat).2.1 = (z29) ∧ (stS (BR ((w54)) ((w55))) (fun t => sh ((w66)) (8001 * t)) (XR ((w68)) ((w67))) ((u6_28)) ((u6_28) - 2 - ((u6_28 - 2)) : Int).toNat).2.2.1 = (z40) by assumption) (show IMP (MDX ((w69)) ((u6_35))) (MDB ((wq54)) ((y52)) ((stS (BR ((w54)) ((w55))) (fun t => sh ((w66)) (8001 * t)) (XR ((w68)) ((w67))) ((u6_28)) ((u6_28) - 2 - ((u6_28 - 2)) : Int).toNat).2.2.2)) by assumption) (show (y52) ≤ 181000 by omega) rfl
  as_aux_lemma =>
  intro m
  induction m using Nat.strongRecOn with
  | _ m ih40 =>
    intro ls σ F_40 A_40 x40_1 x40_2 x40_3 x40_4 l40_0 l40_1 l40_2 l40_3 l40_4 H hS_40 hA_40 y40_6_35 ey40_6_35 w40_69 ew40_69 j40_0 j40_1 j40_2 j40_3 j40_4 j40_5 j40_6 j40_7 j40_8 j40_9 hm40
    have r57 : (0 : Int) ≤ y40_6_35 ∧ y40_6_35 ≤ 100000000 := rngE (show (0 : Int) ≤ F_40 6 35 ∧ F_40 6 35 ≤ 100000000 from H.frng 6 35) (show F_40 6 35 = y40_6_35 from (ey40_6_35))
    have j40_s : SSI ((w54)) ((w55)) ((wq41)) ((wq43)) ((wq45)) ((w66)) ((w67)) ((u6_28)) ((x40_4)) ((x40_1)) ((x40_2)) ((x40_3)) ((y40_6_35)) := j40_6
    have hBp : ∀ i, (0 : Int) ≤ (wq43) i ∧ (wq43) i ≤ 9 := fun i => by have h1 : (0 : Int) ≤ A_40 72 i ∧ A_40 72 i ≤ 9 := H.arng 72 i; rw [show A_40 72 = wq43 from (funext (hA_40 72 rfl)).trans ((funext (hA50 72 rfl)).trans (ewq44))] at h1; exact h1
    have j40_3 : (stS (BR ((w54)) ((w55))) (fun t => sh ((w66)) (8001 * t)) (XR ((w68)) ((w67))) ((u6_28)) ((u6_28) - 2 - (x40_4) : Int).toNat).1 = (x40_1) ∧ (stS (BR ((w54)) ((w55))) (fun t => sh ((w66)) (8001 * t)) (XR ((w68)) ((w67))) ((u6_28)) ((u6_28) - 2 - (x40_4) : Int).toNat).2.1 = (x40_2) ∧ (stS (BR ((w54)) ((w55))) (fun t => sh ((w66)) (8001 * t)) (XR ((w68)) ((w67))) ((u6_28)) ((u6_28) - 2 - (x40_4) : Int).toNat).2.2.1 = (x40_3) := by assumption
    have j40_m : IMP (MDX ((w69)) ((u6_35))) (MDB ((w40_69)) ((y40_6_35)) ((stS (BR ((w54)) ((w55))) (fun t => sh ((w66)) (8001 * t)) (XR ((w68)) ((w67))) ((u6_28)) ((u6_28) - 2 - (x40_4) : Int).toNat).2.2.2)) := by assumption
    obtain ⟨ql4, hql4⟩ : ∃ q : Int, q = (x40_4) := ⟨_, rfl⟩
    obtain ⟨pS, hpS⟩ : ∃ p : SSt, (stS (BR ((w54)) ((w55))) (fun t => sh ((w66)) (8001 * t)) (XR ((w68)) ((w67))) ((u6_28)) ((u6_28) - 2 - (x40_4) : Int).toNat) = p := ⟨_, rfl⟩
    rw [hpS] at j40_3 j40_m
    refine Ew_of (pcₚ := 42) (fun _ => x_iload rfl l40_4) ?_
    refine w_iflt (t := 84) rfl rfl (show inr (x40_4) from q_2725 j40_4 j40_5 r1) (fun b58 => ?_) (fun b58 => ?_)
    · obtain ⟨x0, x1, x2, q0, q1, q2, qb⟩ := j40_s
      have hz0 : su (mo3 ((w67))) ((x40_4) + 1 : Int).toNat = 0 := by rw [show (x40_4) + 1 = 0 by omega]; rfl
      have hk0 : kO 0 = 6 := by decide
      have hk1 : kO 1 = 5 := by decide
      have hk2 : kO 2 = 6 := by decide
      have he0 := STI_end q0 htb0 (by omega) (by omega) (by rw [hk0]; omega)
      have he1 := STI_end q1 htb1 (by omega) (by omega) (by rw [hk1]; omega)
      have he2 := STI_end q2 htb2 (by omega) (by omega) (by rw [hk2]; omega)
      rw [hk0] at he0
      rw [hk1] at he1
      rw [hk2] at he2
      have hend : (stS (BR ((w54)) ((w55))) (fun t => sh ((w66)) (8001 * t)) (XR ((w68)) ((w67))) ((u6_28)) ((u6_28) - 1 : Int).toNat) = pS := by rw [← hpS, show (u6_28) - 1 = (u6_28) - 2 - (x40_4) by omega]
      have he84 : (BR ((w54)) ((w55)) 0).1 = ((w55)) 0 ∧ (BR ((w54)) ((w55)) 1).1 = ((w55)) 1 ∧ (BR ((w54)) ((w55)) 2).1 = ((w55)) 2 := ⟨btS_1 htb0.1, btS_1 htb1.1, btS_1 htb2.1⟩
      refine Ew_of (pcₚ := 85) (fun _ => x_aload_n rfl l40_0) ?_
      refine Ew_of (pcₚ := 86) (fun _ => x_iload_n rfl l40_3) ?_
      refine Ew_of (pcₚ := 87) (fun _ => x_aload_n rfl l40_0) ?_
      refine w_gT H (o := 6) (t := 55) rfl (H.perm 6 rfl) rfl rfl rfl rfl rfl rfl ?_
      refine Ew_of (pcₚ := 91) (fun _ => x_iconst rfl) ?_
      refine w_lI H (o := 55) (n := 3) rfl (H.perm 55 rfl) rfl rfl (H.fix 55 rfl rfl) (show 0 ≤ 2 ∧ 2 < ((3 : Nat) : Int) from q_1581) (by decide) (fun v59 ev59 qv59 => ?_)
      have qv59 : (-1 : Int) ≤ v59 ∧ v59 ≤ 9 := qv59
      have ev59 : (w55) (2) = v59 := (congrFun ((funext (hA_40 55 rfl)).trans ((funext (hA50 55 rfl)).trans ((funext (hA39 55 rfl)).trans ((funext (hA28 55 rfl)).trans ((funext (hA17 55 rfl)).trans ((funext (hA7 55 rfl)).trans (ew55))))))) (2)).symm.trans ev59
      have ho92 := ev59
      refine w_inv H (o := 6) rfl rfl rfl (H.perm 6 rfl) rfl rfl (by rfl) (M389 H (y40_6_35) ((ey40_6_35)) (w40_69) (ew40_69) (show inr (x40_3) from j40_2) (show inr (v59) from q_1337 qv59) (show 0 ≤ (v59) ∧ (v59) ≤ 31 from q_2722 ev59 h0o2 qv59) (show 0 ≤ (y40_6_35) ∧ (y40_6_35) ≤ 90000000 from q_2726 j40_9 r57) (fun σ F60 A61 H hS62 hA63 y65 ey66 wq67 ewq68 pz64_0 pz64_1 => ⟨rfl, ?_⟩))
      have r69 : (0 : Int) ≤ y65 ∧ y65 ≤ 100000000 := rngE (show (0 : Int) ≤ F60 6 35 ∧ F60 6 35 ≤ 100000000 from H.frng 6 35) (show F60 6 35 = y65 from (ey66))
      have hm95 := fun q => pz64_1 (by omega) _ (j40_m q)
      rw [← ho92] at hm95
      refine Ew_of (pcₚ := 96) (fun _ => x_aload_n rfl l40_0) ?_
      refine Ew_of (pcₚ := 97) (fun _ => x_iload_n rfl l40_2) ?_
      refine Ew_of (pcₚ := 98) (fun _ => x_aload_n rfl l40_0) ?_
      refine w_gT H (o := 6) (t := 55) rfl (H.perm 6 rfl) rfl rfl rfl rfl rfl rfl ?_
      refine Ew_of (pcₚ := 102) (fun _ => x_iconst rfl) ?_
      refine w_lI H (o := 55) (n := 3) rfl (H.perm 55 rfl) rfl rfl (H.fix 55 rfl rfl) (show 0 ≤ 1 ∧ 1 < ((3 : Nat) : Int) from q_1580) (by decide) (fun v70 ev70 qv70 => ?_)
      have qv70 : (-1 : Int) ≤ v70 ∧ v70 ≤ 9 := qv70
      have ev70 : (w55) (1) = v70 := (congrFun ((funext (hA63 55 rfl)).trans ((funext (hA_40 55 rfl)).trans ((funext (hA50 55 rfl)).trans ((funext (hA39 55 rfl)).trans ((funext (hA28 55 rfl)).trans ((funext (hA17 55 rfl)).trans ((funext (hA7 55 rfl)).trans (ew55)))))))) (1)).symm.trans ev70
      have ho103 := ev70
      refine w_inv H (o := 6) rfl rfl rfl (H.perm 6 rfl) rfl rfl (by rfl) (M389 H (y65) ((ey66)) (wq67) (ewq68) (show inr (x40_2) from j40_1) (show inr (v70) from q_1337 qv70) (show 0 ≤ (v70) ∧ (v70) ≤ 31 from q_2722 ev70 h0o1 qv70) (show 0 ≤ (y65) ∧ (y65) ≤ 90000000 from q_2727 j40_9 pz64_0 qv59 r69) (fun σ F71 A72 H hS73 hA74 y76 ey77 wq78 ewq79 pz75_0 pz75_1 => ⟨rfl, ?_⟩))
      have r80 : (0 : Int) ≤ y76 ∧ y76 ≤ 100000000 := rngE (show (0 : Int) ≤ F71 6 35 ∧ F71 6 35 ≤ 100000000 from H.frng 6 35) (show F71 6 35 = y76 from (ey77))
      have hm106 := fun q => pz75_1 (by omega) _ (hm95 q)
      rw [← ho103] at hm106
      refine Ew_of (pcₚ := 107) (fun _ => x_aload_n rfl l40_0) ?_
      refine Ew_of (pcₚ := 108) (fun _ => x_iload_n rfl l40_1) ?_
      refine Ew_of (pcₚ := 109) (fun _ => x_aload_n rfl l40_0) ?_
      refine w_gT H (o := 6) (t := 55) rfl (H.perm 6 rfl) rfl rfl rfl rfl rfl rfl ?_
      refine Ew_of (pcₚ := 113) (fun _ => x_iconst rfl) ?_
      refine w_lI H (o := 55) (n := 3) rfl (H.perm 55 rfl) rfl rfl (H.fix 55 rfl rfl) (show 0 ≤ 0 ∧ 0 < ((3 : Nat) : Int) from q_1579) (by decide) (fun v81 ev81 qv81 => ?_)
      have qv81 : (-1 : Int) ≤ v81 ∧ v81 ≤ 9 := qv81
      have ev81 : (w55) (0) = v81 := (congrFun ((funext (hA74 55 rfl)).trans ((funext (hA63 55 rfl)).trans ((funext (hA_40 55 rfl)).trans ((funext (hA50 55 rfl)).trans ((funext (hA39 55 rfl)).trans ((funext (hA28 55 rfl)).trans ((funext (hA17 55 rfl)).trans ((funext (hA7 55 rfl)).trans (ew55))))))))) (0)).symm.trans ev81
      have ho114 := ev81
      refine w_inv H (o := 6) rfl rfl rfl (H.perm 6 rfl) rfl rfl (by rfl) (M389 H (y76) ((ey77)) (wq78) (ewq79) (show inr (x40_1) from j40_0) (show inr (v81) from q_1337 qv81) (show 0 ≤ (v81) ∧ (v81) ≤ 31 from q_2722 ev81 h0o0 qv81) (show 0 ≤ (y76) ∧ (y76) ≤ 90000000 from q_2728 j40_9 pz64_0 pz75_0 qv59 qv70 r80) (fun σ F82 A83 H hS84 hA85 y87 ey88 wq89 ewq90 pz86_0 pz86_1 => ⟨rfl, ?_⟩))
      have r91 : (0 : Int) ≤ y87 ∧ y87 ≤ 100000000 := rngE (show (0 : Int) ≤ F82 6 35 ∧ F82 6 35 ≤ 100000000 from H.frng 6 35) (show F82 6 35 = y87 from (ey88))
      have hm117 := fun q => pz86_1 (by omega) _ (hm106 q)
      rw [← ho114] at hm117
      refine Ew_of (pcₚ := 118) (fun _ => x_aload_n rfl l40_0) ?_
      refine Ew_of (pcₚ := 119) (fun _ => x_iconst rfl) ?_
      refine Ew_of (pcₚ := 120) (fun _ => x_iconst rfl) ?_
      refine w_inv H (o := 6) rfl rfl rfl (H.perm 6 rfl) rfl rfl (by rfl) (M389 H (y87) ((ey88)) (wq89) (ewq90) (show inr (1) from q_135) (show inr (1) from q_135) (show 0 ≤ (1) ∧ (1) ≤ 31 from q_2204) (show 0 ≤ (y87) ∧ (y87) ≤ 90000000 from q_2729 j40_9 pz64_0 pz75_0 pz86_0 qv59 qv70 qv81 r91) (fun σ F92 A93 H hS94 hA95 y97 ey98 wq99 ewq100 pz96_0 pz96_1 => ⟨rfl, ?_⟩))
      have r101 : (0 : Int) ≤ y97 ∧ y97 ≤ 100000000 := rngE (show (0 : Int) ≤ F92 6 35 ∧ F92 6 35 ≤ 100000000 from H.frng 6 35) (show F92 6 35 = y97 from (ey98))
      have hm123 := fun q => pz96_1 (by omega) _ (hm117 q)
      refine Ew_of (pcₚ := 124) (fun _ => x_aload_n rfl l40_0) ?_
      refine w_inv H (o := 6) rfl rfl rfl (H.perm 6 rfl) rfl rfl (by rfl) (M390 H (y97) ((ey98)) (wq99) (ewq100) (show 0 ≤ (y97) ∧ (y97) ≤ 99000000 by omega) (fun σ F102 A103 H hS104 hA105 y107 ey108 pz106_0 pz106_1 pz106_2 => ⟨rfl, ?_⟩))
      have r109 : (0 : Int) ≤ y107 ∧ y107 ≤ 100000000 := rngE (show (0 : Int) ≤ F102 6 35 ∧ F102 6 35 ≤ 100000000 from H.frng 6 35) (show F102 6 35 = y107 from (ey108))
      have hm127 : IMP (MDX ((w69)) ((u6_35))) (MBY ((wq99)) ((y107)) (strB (BR ((w54)) ((w55))) (fun t => sh ((w66)) (8001 * t)) (XR ((w68)) ((w67))) ((u6_28)))) := fun q => by have h := pz106_1 _ (hm123 q); simp only [List.append_assoc] at h; refine ⟨_, h, pd8_len.1, ?_⟩; rw [byw_pd]; unfold strB; rw [hend]; unfold stE; rw [he84.1, he84.2.1, he84.2.2, j40_3.1, j40_3.2.1, j40_3.2.2]
      refine Ew_of (pcₚ := 128) (fun _ => x_aload_n rfl l40_0) ?_
      refine w_inv H (o := 6) rfl rfl rfl (H.perm 6 rfl) rfl rfl (by rfl) (M394 H (y107) ((ey108)) (u6_37) (((((((((((((hS104 6 37 rfl).trans (hS94 6 37 rfl)).trans (hS84 6 37 rfl)).trans (hS73 6 37 rfl)).trans (hS62 6 37 rfl)).trans (hS_40 6 37 rfl)).trans (hS49 6 37 rfl)).trans (hS38 6 37 rfl)).trans (hS27 6 37 rfl)).trans (hS16 6 37 rfl)).trans (hS6 6 37 rfl)).trans (eu6_37))) (wq99) ((funext (hA105 69 rfl)).trans (ewq100)) (w70) ((funext (hA105 70 rfl)).trans ((funext (hA95 70 rfl)).trans ((funext (hA85 70 rfl)).trans ((funext (hA74 70 rfl)).trans ((funext (hA63 70 rfl)).trans ((funext (hA_40 70 rfl)).trans ((funext (hA50 70 rfl)).trans ((funext (hA39 70 rfl)).trans ((funext (hA28 70 rfl)).trans ((funext (hA17 70 rfl)).trans ((funext (hA7 70 rfl)).trans (ew70)))))))))))) (show 0 ≤ (y107) ∧ (y107) ≤ 192000 by omega) (show 0 ≤ (u6_37) ∧ (u6_37) ≤ 90000000 from q_2168 h5 r3) (fun σ F110 A111 H hS112 hA113 y115 ey116 wq117 ewq118 pz114_0 pz114_1 => ⟨rfl, ?_⟩))
      have r119 : (0 : Int) ≤ y115 ∧ y115 ≤ 100000000 := rngE (show (0 : Int) ≤ F110 6 37 ∧ F110 6 37 ≤ 100000000 from H.frng 6 37) (show F110 6 37 = y115 from (ey116))
      have : IMP (MDX ((w69)) ((u6_35))) (QAP 65536 ((w70)) ((u6_37)) ((wq117)) ((y115)) (strB (BR ((w54)) ((w55))) (fun t => sh ((w66)) (8001 * t)) (XR ((w68)) ((w67))) ((u6_28))) ∧ MDX ((wq99)) ((y107))) := fun q => by have h := pz114_1; rw [MBY_sc (hm127 q) (by omega)] at h; exact ⟨h, MBY_X (hm127 q)⟩
      exact w_ret rfl (k σ _ _ H (SF_trans (SF_trans (SF_trans (SF_trans (SF_trans (SF_trans (SF_trans (SF_trans (SF_trans (SF_trans (SF_trans (SF_trans (SF_refl) hS6 (any_sub rfl)) hS16 (any_sub rfl)) hS27 (any_sub rfl)) hS38 (any_sub rfl)) hS49 (any_sub rfl)) hS_40 (any_sub rfl)) hS62 (any_sub rfl)) hS73 (any_sub rfl)) hS84 (any_sub rfl)) hS94 (any_sub rfl)) hS104 (any_sub rfl)) hS112 (any_sub rfl)) (SA_trans (SA_trans (SA_trans (SA_trans (SA_trans (SA_trans (SA_trans (SA_trans (SA_trans (SA_trans (SA_trans (SA_trans (SA_refl) hA7 (any_subA rfl)) hA17 (any_subA rfl)) hA28 (any_subA rfl)) hA39 (any_subA rfl)) hA50 (any_subA rfl)) hA_40 (any_subA rfl)) hA63 (any_subA rfl)) hA74 (any_subA rfl)) hA85 (any_subA rfl)) hA95 (any_subA rfl)) hA105 (any_subA rfl)) hA113 (any_subA rfl)) (y107) (((hS112 6 35 rfl).trans (ey108))) (y115) ((ey116)) (wq99) ((funext (hA113 69 rfl)).trans ((funext (hA105 69 rfl)).trans (ewq100))) (wq117) (ewq118) (show (u6_37) ≤ (y115) ∧ (y115) ≤ (u6_37) + 24000 by omega) (show IMP (MDX ((w69)) ((u6_35))) (QAP 65536 ((w70)) ((u6_37)) ((wq117)) ((y115)) (strB (BR ((w54)) ((w55))) (fun t => sh ((w66)) (8001 * t)) (XR ((w68)) ((w67))) ((u6_28))) ∧ MDX ((wq99)) ((y107))) by assumption))
    · obtain ⟨x0, x1, x2, q0, q1, q2, qb⟩ := j40_s
      have : 1 ≤ ((w55)) (1) → 5 ≤ ((w55)) (1) ∧ LD (sh ((w54)) (64 * 1)) 64 (((w55)) (1)) (sh ((wq41)) (512 * 1)) (sh ((wq43)) (512 * 1)) (sh ((wq45)) (512 * 1)) ∧ 1 ≤ mass ((sh ((w54)) (64 * 1)) ((sh ((w66)) (8001 * 1)) ((x40_4)))) ∧ mass ((sh ((w54)) (64 * 1)) ((sh ((w66)) (8001 * 1)) ((x40_4)))) ≤ p2 (((w55)) (1)) ∧ 0 ≤ (x40_2) ∧ (x40_2) < p2 (((w55)) (1)) := STI_pre q1 htb1 (by omega) (by omega) (by omega) hr1
      have : 1 ≤ ((w55)) (2) → 5 ≤ ((w55)) (2) ∧ LD (sh ((w54)) (64 * 2)) 64 (((w55)) (2)) (sh ((wq41)) (512 * 2)) (sh ((wq43)) (512 * 2)) (sh ((wq45)) (512 * 2)) ∧ 1 ≤ mass ((sh ((w54)) (64 * 2)) ((sh ((w66)) (8001 * 2)) ((x40_4)))) ∧ mass ((sh ((w54)) (64 * 2)) ((sh ((w66)) (8001 * 2)) ((x40_4)))) ≤ p2 (((w55)) (2)) ∧ 0 ≤ (x40_3) ∧ (x40_3) < p2 (((w55)) (2)) := STI_pre q2 htb2 (by omega) (by omega) (by omega) hr2
      have : 1 ≤ ((w55)) (0) → 5 ≤ ((w55)) (0) ∧ LD (sh ((w54)) (64 * 0)) 64 (((w55)) (0)) (sh ((wq41)) (512 * 0)) (sh ((wq43)) (512 * 0)) (sh ((wq45)) (512 * 0)) ∧ 1 ≤ mass ((sh ((w54)) (64 * 0)) ((sh ((w66)) (8001 * 0)) ((x40_4)))) ∧ mass ((sh ((w54)) (64 * 0)) ((sh ((w66)) (8001 * 0)) ((x40_4)))) ≤ p2 (((w55)) (0)) ∧ 0 ≤ (x40_1) ∧ (x40_1) < p2 (((w55)) (0)) := STI_pre q0 htb0 (by omega) (by omega) (by omega) hr0
      refine Ew_of (pcₚ := 46) (fun _ => x_aload_n rfl l40_0) ?_
      refine Ew_of (pcₚ := 47) (fun _ => x_iconst rfl) ?_
      refine Ew_of (pcₚ := 49) (fun _ => x_iload rfl l40_4) ?_
      refine Ew_of (pcₚ := 50) (fun _ => x_iload_n rfl l40_2) ?_
      refine w_inv H (o := 6) rfl rfl rfl (H.perm 6 rfl) rfl rfl (by rfl) (M441f H (y40_6_35) ((ey40_6_35)) (w55) ((funext (hA_40 55 rfl)).trans ((funext (hA50 55 rfl)).trans ((funext (hA39 55 rfl)).trans ((funext (hA28 55 rfl)).trans ((funext (hA17 55 rfl)).trans ((funext (hA7 55 rfl)).trans (ew55))))))) (w66) ((funext (hA_40 66 rfl)).trans ((funext (hA50 66 rfl)).trans ((funext (hA39 66 rfl)).trans ((funext (hA28 66 rfl)).trans ((funext (hA17 66 rfl)).trans ((funext (hA7 66 rfl)).trans (ew66))))))) (w40_69) (ew40_69) (wq41) ((funext (hA_40 71 rfl)).trans ((funext (hA50 71 rfl)).trans (ewq42))) (wq43) ((funext (hA_40 72 rfl)).trans ((funext (hA50 72 rfl)).trans (ewq44))) (wq45) ((funext (hA_40 73 rfl)).trans ((funext (hA50 73 rfl)).trans (ewq46))) (sh ((w54)) (64 * 1)) (show inr (1) from q_135) (show inr (x40_4) from q_2731 b58 j40_5 r1) (show inr (x40_2) from j40_1) (show 0 ≤ (1) ∧ (1) ≤ 2 from q_2612) (show 0 ≤ (x40_4) ∧ (x40_4) ≤ 8000 from q_2723 b58 j40_4 j40_5 r1) (show 0 ≤ (y40_6_35) ∧ (y40_6_35) ≤ 70000000 from q_2730 j40_9 r57) (h0o1) (show 1 ≤ ((w55)) ((1)) → 5 ≤ ((w55)) ((1)) ∧ LD (sh ((w54)) (64 * 1)) 64 (((w55)) ((1))) (sh ((wq41)) (512 * (1))) (sh ((wq43)) (512 * (1))) (sh ((wq45)) (512 * (1))) ∧ 1 ≤ mass ((sh ((w54)) (64 * 1)) ((sh ((w66)) (8001 * (1))) ((x40_4)))) ∧ mass ((sh ((w54)) (64 * 1)) ((sh ((w66)) (8001 * (1))) ((x40_4)))) ≤ p2 (((w55)) ((1))) ∧ 0 ≤ (x40_2) ∧ (x40_2) < p2 (((w55)) ((1))) by assumption) (fun z124 σ F120 A121 H hS122 hA123 y125 ey126 wq127 ewq128 pz124_0 pz124_1 pz124_2 pz124_3 pz124_4 pz124_5 => ⟨rfl, ?_⟩))
      have r129 : (0 : Int) ≤ y125 ∧ y125 ≤ 100000000 := rngE (show (0 : Int) ≤ F120 6 35 ∧ F120 6 35 ≤ 100000000 from H.frng 6 35) (show F120 6 35 = y125 from (ey126))
      have hz1 := hBp (512 * 1 + (z124))
      have hze1 : (sh ((wq43)) (512 * 1)) ((z124)) = ((wq43)) (512 * 1 + (z124)) := rfl
      refine Ew_of (pcₚ := 54) (fun _ => x_istore_n rfl) ?_
      refine Ew_of (pcₚ := 55) (fun _ => x_aload_n rfl (rk_o (l40_0) rfl rfl)) ?_
      refine Ew_of (pcₚ := 56) (fun _ => x_iconst rfl) ?_
      refine Ew_of (pcₚ := 58) (fun _ => x_iload rfl (rk_o (l40_4) rfl rfl)) ?_
      refine Ew_of (pcₚ := 59) (fun _ => x_iload_n rfl (rk_o (l40_3) rfl rfl)) ?_
      refine w_inv H (o := 6) rfl rfl rfl (H.perm 6 rfl) rfl rfl (by rfl) (M441f H (y125) ((ey126)) (w55) ((funext (hA123 55 rfl)).trans ((funext (hA_40 55 rfl)).trans ((funext (hA50 55 rfl)).trans ((funext (hA39 55 rfl)).trans ((funext (hA28 55 rfl)).trans ((funext (hA17 55 rfl)).trans ((funext (hA7 55 rfl)).trans (ew55)))))))) (w66) ((funext (hA123 66 rfl)).trans ((funext (hA_40 66 rfl)).trans ((funext (hA50 66 rfl)).trans ((funext (hA39 66 rfl)).trans ((funext (hA28 66 rfl)).trans ((funext (hA17 66 rfl)).trans ((funext (hA7 66 rfl)).trans (ew66)))))))) (wq127) (ewq128) (wq41) ((funext (hA123 71 rfl)).trans ((funext (hA_40 71 rfl)).trans ((funext (hA50 71 rfl)).trans (ewq42)))) (wq43) ((funext (hA123 72 rfl)).trans ((funext (hA_40 72 rfl)).trans ((funext (hA50 72 rfl)).trans (ewq44)))) (wq45) ((funext (hA123 73 rfl)).trans ((funext (hA_40 73 rfl)).trans ((funext (hA50 73 rfl)).trans (ewq46)))) (sh ((w54)) (64 * 2)) (show inr (2) from q_122) (show inr (x40_4) from q_2731 b58 j40_5 r1) (show inr (x40_3) from j40_2) (show 0 ≤ (2) ∧ (2) ≤ 2 from q_440) (show 0 ≤ (x40_4) ∧ (x40_4) ≤ 8000 from q_2723 b58 j40_4 j40_5 r1) (show 0 ≤ (y125) ∧ (y125) ≤ 70000000 by omega) (h0o2) (show 1 ≤ ((w55)) ((2)) → 5 ≤ ((w55)) ((2)) ∧ LD (sh ((w54)) (64 * 2)) 64 (((w55)) ((2))) (sh ((wq41)) (512 * (2))) (sh ((wq43)) (512 * (2))) (sh ((wq45)) (512 * (2))) ∧ 1 ≤ mass ((sh ((w54)) (64 * 2)) ((sh ((w66)) (8001 * (2))) ((x40_4)))) ∧ mass ((sh ((w54)) (64 * 2)) ((sh ((w66)) (8001 * (2))) ((x40_4)))) ≤ p2 (((w55)) ((2))) ∧ 0 ≤ (x40_3) ∧ (x40_3) < p2 (((w55)) ((2))) by assumption) (fun z134 σ F130 A131 H hS132 hA133 y135 ey136 wq137 ewq138 pz134_0 pz134_1 pz134_2 pz134_3 pz134_4 pz134_5 => ⟨rfl, ?_⟩))
      have r139 : (0 : Int) ≤ y135 ∧ y135 ≤ 100000000 := rngE (show (0 : Int) ≤ F130 6 35 ∧ F130 6 35 ≤ 100000000 from H.frng 6 35) (show F130 6 35 = y135 from (ey136))
      have hz2 := hBp (512 * 2 + (z134))
      have hze2 : (sh ((wq43)) (512 * 2)) ((z134)) = ((wq43)) (512 * 2 + (z134)) := rfl
      refine Ew_of (pcₚ := 63) (fun _ => x_istore_n rfl) ?_
      refine Ew_of (pcₚ := 64) (fun _ => x_aload_n rfl (rk_o (rk_o (l40_0) rfl rfl) rfl rfl)) ?_
      refine Ew_of (pcₚ := 65) (fun _ => x_iconst rfl) ?_
      refine Ew_of (pcₚ := 67) (fun _ => x_iload rfl (rk_o (rk_o (l40_4) rfl rfl) rfl rfl)) ?_
      refine Ew_of (pcₚ := 68) (fun _ => x_iload_n rfl (rk_o (rk_o (l40_1) rfl rfl) rfl rfl)) ?_
      refine w_inv H (o := 6) rfl rfl rfl (H.perm 6 rfl) rfl rfl (by rfl) (M441f H (y135) ((ey136)) (w55) ((funext (hA133 55 rfl)).trans ((funext (hA123 55 rfl)).trans ((funext (hA_40 55 rfl)).trans ((funext (hA50 55 rfl)).trans ((funext (hA39 55 rfl)).trans ((funext (hA28 55 rfl)).trans ((funext (hA17 55 rfl)).trans ((funext (hA7 55 rfl)).trans (ew55))))))))) (w66) ((funext (hA133 66 rfl)).trans ((funext (hA123 66 rfl)).trans ((funext (hA_40 66 rfl)).trans ((funext (hA50 66 rfl)).trans ((funext (hA39 66 rfl)).trans ((funext (hA28 66 rfl)).trans ((funext (hA17 66 rfl)).trans ((funext (hA7 66 rfl)).trans (ew66))))))))) (wq137) (ewq138) (wq41) ((funext (hA133 71 rfl)).trans ((funext (hA123 71 rfl)).trans ((funext (hA_40 71 rfl)).trans ((funext (hA50 71 rfl)).trans (ewq42))))) (wq43) ((funext (hA133 72 rfl)).trans ((funext (hA123 72 rfl)).trans ((funext (hA_40 72 rfl)).trans ((funext (hA50 72 rfl)).trans (ewq44))))) (wq45) ((funext (hA133 73 rfl)).trans ((funext (hA123 73 rfl)).trans ((funext (hA_40 73 rfl)).trans ((funext (hA50 73 rfl)).trans (ewq46))))) (sh ((w54)) (64 * 0)) (show inr (0) from q_2) (show inr (x40_4) from q_2731 b58 j40_5 r1) (show inr (x40_1) from j40_0) (show 0 ≤ (0) ∧ (0) ≤ 2 from q_2611) (show 0 ≤ (x40_4) ∧ (x40_4) ≤ 8000 from q_2723 b58 j40_4 j40_5 r1) (show 0 ≤ (y135) ∧ (y135) ≤ 70000000 by omega) (h0o0) (show 1 ≤ ((w55)) ((0)) → 5 ≤ ((w55)) ((0)) ∧ LD (sh ((w54)) (64 * 0)) 64 (((w55)) ((0))) (sh ((wq41)) (512 * (0))) (sh ((wq43)) (512 * (0))) (sh ((wq45)) (512 * (0))) ∧ 1 ≤ mass ((sh ((w54)) (64 * 0)) ((sh ((w66)) (8001 * (0))) ((x40_4)))) ∧ mass ((sh ((w54)) (64 * 0)) ((sh ((w66)) (8001 * (0))) ((x40_4)))) ≤ p2 (((w55)) ((0))) ∧ 0 ≤ (x40_1) ∧ (x40_1) < p2 (((w55)) ((0))) by assumption) (fun z144 σ F140 A141 H hS142 hA143 y145 ey146 wq147 ewq148 pz144_0 pz144_1 pz144_2 pz144_3 pz144_4 pz144_5 => ⟨rfl, ?_⟩))
      have r149 : (0 : Int) ≤ y145 ∧ y145 ≤ 100000000 := rngE (show (0 : Int) ≤ F140 6 35 ∧ F140 6 35 ≤ 100000000 from H.frng 6 35) (show F140 6 35 = y145 from (ey146))
      have hz0 := hBp (512 * 0 + (z144))
      have hze0 : (sh ((wq43)) (512 * 0)) ((z144)) = ((wq43)) (512 * 0 + (z144)) := rfl
      refine Ew_of (pcₚ := 72) (fun _ => x_istore_n rfl) ?_
      refine Ew_of (pcₚ := 73) (fun _ => x_aload_n rfl (rk_o (rk_o (rk_o (l40_0) rfl rfl) rfl rfl) rfl rfl)) ?_
      refine Ew_of (pcₚ := 75) (fun _ => x_iload rfl (rk_o (rk_o (rk_o (l40_4) rfl rfl) rfl rfl) rfl rfl)) ?_
      refine w_inv H (o := 6) rfl rfl rfl (H.perm 6 rfl) rfl rfl (by rfl) (M440f H (y145) ((ey146)) (w67) ((funext (hA143 67 rfl)).trans ((funext (hA133 67 rfl)).trans ((funext (hA123 67 rfl)).trans ((funext (hA_40 67 rfl)).trans ((funext (hA50 67 rfl)).trans ((funext (hA39 67 rfl)).trans ((funext (hA28 67 rfl)).trans ((funext (hA17 67 rfl)).trans ((funext (hA7 67 rfl)).trans (ew67)))))))))) (w68) ((funext (hA143 68 rfl)).trans ((funext (hA133 68 rfl)).trans ((funext (hA123 68 rfl)).trans ((funext (hA_40 68 rfl)).trans ((funext (hA50 68 rfl)).trans ((funext (hA39 68 rfl)).trans ((funext (hA28 68 rfl)).trans ((funext (hA17 68 rfl)).trans ((funext (hA7 68 rfl)).trans (ew68)))))))))) (wq147) (ewq148) (show inr (x40_4) from q_2731 b58 j40_5 r1) (show 0 ≤ (x40_4) ∧ (x40_4) ≤ 8000 from q_2723 b58 j40_4 j40_5 r1) (show 0 ≤ (y145) ∧ (y145) ≤ 70000000 by omega) (fun σ F150 A151 H hS152 hA153 y155 ey156 wq157 ewq158 pz154_0 pz154_1 => ⟨rfl, ?_⟩))
      have r159 : (0 : Int) ≤ y155 ∧ y155 ≤ 100000000 := rngE (show (0 : Int) ≤ F150 6 35 ∧ F150 6 35 ≤ 100000000 from H.frng 6 35) (show F150 6 35 = y155 from (ey156))
      have hbm0 := hBm (8001 * 0 + (x40_4))
      have hbm1 := hBm (8001 * 1 + (x40_4))
      have hbm2 := hBm (8001 * 2 + (x40_4))
      have hsm := su_s (f := mo3 ((w67))) (i := (x40_4)) (by omega)
      have hm3 : mo3 ((w67)) ((x40_4)) = ((w67)) (8001 * 0 + (x40_4)) + ((w67)) (8001 * 2 + (x40_4)) + ((w67)) (8001 * 1 + (x40_4)) := rfl
      have : SSI ((w54)) ((w55)) ((wq41)) ((wq43)) ((wq45)) ((w66)) ((w67)) ((u6_28)) ((x40_4) + (-1)) ((z144)) ((z124)) ((z134)) ((y155)) := ⟨_, _, _, STI_s q0 (by omega) (by omega) pz144_2 pz144_3 (by omega), STI_s q1 (by omega) (by omega) pz124_2 pz124_3 (by omega), STI_s q2 (by omega) (by omega) pz134_2 pz134_3 (by omega), by rw [show (x40_4) + (-1) + 1 = (x40_4) by omega]; omega⟩
      have hm78 : IMP (MDX ((w69)) ((u6_35))) (MDB ((wq157)) ((y155)) (stP (BR ((w54)) ((w55))) (fun t => sh ((w66)) (8001 * t)) (XR ((w68)) ((w67))) ((x40_4)) pS).2.2.2) := fun q => by have h1 := pz124_5 (by omega) _ (j40_m q); have h2 := pz134_5 (by omega) _ h1; have h3 := pz144_5 (by omega) _ h2; have h4 := pz154_1 (by omega) _ h3; simp only [List.append_assoc] at h4; unfold stP; rw [j40_3.1, j40_3.2.1, j40_3.2.2]; exact h4
      have h3_78 : (stP (BR ((w54)) ((w55))) (fun t => sh ((w66)) (8001 * t)) (XR ((w68)) ((w67))) ((x40_4)) pS).1 = z144 ∧ (stP (BR ((w54)) ((w55))) (fun t => sh ((w66)) (8001 * t)) (XR ((w68)) ((w67))) ((x40_4)) pS).2.1 = z124 ∧ (stP (BR ((w54)) ((w55))) (fun t => sh ((w66)) (8001 * t)) (XR ((w68)) ((w67))) ((x40_4)) pS).2.2.1 = z134 := by unfold stP; rw [j40_3.1, j40_3.2.1, j40_3.2.2]; exact ⟨pz144_4.symm, pz124_4.symm, pz134_4.symm⟩
      refine Ew_of (pcₚ := 81) (fun _ => x_iinc (len := 3) rfl (rk_o (rk_o (rk_o (l40_4) rfl rfl) rfl rfl) rfl rfl)) ?_
      refine Ew_of (pcₚ := 40) (fun _ => x_goto rfl rfl) ?_
      have hnx : (stS (BR ((w54)) ((w55))) (fun t => sh ((w66)) (8001 * t)) (XR ((w68)) ((w67))) ((u6_28)) ((u6_28) - 2 - ((x40_4 + (-1))) : Int).toNat) = stP (BR ((w54)) ((w55))) (fun t => sh ((w66)) (8001 * t)) (XR ((w68)) ((w67))) ql4 pS := stS_s (k := (u6_28) - 2 - ql4) (by rw [hql4]; exact hpS) (by omega) (by omega) (by omega)
      have : (stS (BR ((w54)) ((w55))) (fun t => sh ((w66)) (8001 * t)) (XR ((w68)) ((w67))) ((u6_28)) ((u6_28) - 2 - ((x40_4 + (-1))) : Int).toNat).1 = (z144) ∧ (stS (BR ((w54)) ((w55))) (fun t => sh ((w66)) (8001 * t)) (XR ((w68)) ((w67))) ((u6_28)) ((u6_28) - 2 - ((x40_4 + (-1))) : Int).toNat).2.1 = (z124) ∧ (stS (BR ((w54)) ((w55))) (fun t => sh ((w66)) (8001 * t)) (XR ((w68)) ((w67))) ((u6_28)) ((u6_28) - 2 - ((x40_4 + (-1))) : Int).toNat).2.2.1 = (z134) := by rw [hnx, hql4]; exact h3_78
      have : IMP (MDX ((w69)) ((u6_35))) (MDB ((wq157)) ((y155)) ((stS (BR ((w54)) ((w55))) (fun t => sh ((w66)) (8001 * t)) (XR ((w68)) ((w67))) ((u6_28)) ((u6_28) - 2 - ((x40_4 + (-1))) : Int).toNat).2.2.2)) := fun q => by rw [hnx, hql4]; exact hm78 q
      have hssn : SSI ((w54)) ((w55)) ((wq41)) ((wq43)) ((wq45)) ((w66)) ((w67)) ((u6_28)) (((x40_4 + (-1)))) ((z144)) ((z124)) ((z134)) ((y155)) := by assumption
      have hbn : (y155) ≤ 181000 := by obtain ⟨x0, x1, x2, q0, q1, q2, qb⟩ := hssn; have hle0 := STI_le q0 htb0 (by omega) (by omega) (by have := kO_eq 0; rw [show kO 0 = 6 by decide]; omega); rw [show kO 0 = 6 by decide] at hle0; have hle1 := STI_le q1 htb1 (by omega) (by omega) (by have := kO_eq 1; rw [show kO 1 = 5 by decide]; omega); rw [show kO 1 = 5 by decide] at hle1; have hle2 := STI_le q2 htb2 (by omega) (by omega) (by have := kO_eq 2; rw [show kO 2 = 6 by decide]; omega); rw [show kO 2 = 6 by decide] at hle2; have hmo := su_nonneg (f := mo3 ((w67))) (n := (((x40_4 + (-1))) + 1 : Int).toNat) (fun i _ _ => by have a := hBm (8001 * 0 + i); have b := hBm (8001 * 1 + i); have c := hBm (8001 * 2 + i); show 0 ≤ ((w67)) (8001 * 0 + i) + ((w67)) (8001 * 2 + i) + ((w67)) (8001 * 1 + i); omega); omega
      exact ih40 _ (msE hm40 q_2020 (q_2021 b58)) _ σ _ _ (z144) (z124) (z134) ((x40_4 + (-1))) (rk_o (rk_o (rk_o (rk_o (l40_0) rfl rfl) rfl rfl) rfl rfl) rfl rfl) (rk_o (rk_s) rfl rfl) (rk_o (rk_o (rk_o (rk_s) rfl rfl) rfl rfl) rfl rfl) (rk_o (rk_o (rk_s) rfl rfl) rfl rfl) (rk_s) H (SF_trans (SF_trans (SF_trans (SF_trans (hS_40) hS122 (any_sub rfl)) hS132 (any_sub rfl)) hS142 (any_sub rfl)) hS152 (any_sub rfl)) (SA_trans (SA_trans (SA_trans (SA_trans (hA_40) hA123 (any_subA rfl)) hA133 (any_subA rfl)) hA143 (any_subA rfl)) hA153 (any_subA rfl)) (y155) ((ey156)) (wq157) (ewq158) (show inr (z144) from pz144_0) (show inr (z124) from pz124_0) (show inr (z134) from pz134_0) (show inr ((x40_4 + (-1))) from q_2732 b58 j40_5 r1) (show -1 ≤ ((x40_4 + (-1))) ∧ ((x40_4 + (-1))) ≤ (u6_28) - 2 from q_2724 b58 j40_4 j40_5) (show 0 ≤ (y155) ∧ (y155) ≤ 200 * ((u6_28) - ((x40_4 + (-1)))) by omega) (hssn) (show (stS (BR ((w54)) ((w55))) (fun t => sh ((w66)) (8001 * t)) (XR ((w68)) ((w67))) ((u6_28)) ((u6_28) - 2 - ((x40_4 + (-1))) : Int).toNat).1 = (z144) ∧ (stS (BR ((w54)) ((w55))) (fun t => sh ((w66)) (8001 * t)) (XR ((w68)) ((w67))) ((u6_28)) ((u6_28) - 2 - ((x40_4 + (-1))) : Int).toNat).2.1 = (z124) ∧ (stS (BR ((w54)) ((w55))) (fun t => sh ((w66)) (8001 * t)) (XR ((w68)) ((w67))) ((u6_28)) ((u6_28) - 2 - ((x40_4 + (-1))) : Int).toNat).2.2.1 = (z134) by assumption) (show IMP (MDX ((w69)) ((u6_35))) (MDB ((wq157)) ((y155)) ((stS (BR ((w54)) ((w55))) (fun t => sh ((w66)) (8001 * t)) (XR ((w68)) ((w67))) ((u6_28)) ((u6_28) - 2 - ((x40_4 + (-1))) : Int).toNat).2.2.2)) by assumption) (show (y155) ≤ 181000 from hbn) rfl


end
section
/-! 90.ref -/
set_option maxHeartbeats 16000000 in
theorem M444 {σ0 σ : rS} {D N : Nat → Nat} {F : hF} {A : hA} {d c s : Nat} {Q : wQ} (H : HS σ0 σ D N F A)  (u6_28 : Int) (eu6_28 : F 6 28 = u6_28) (u6_35 : Int) (eu6_35 : F 6 35 = u6_35) (u6_37 : Int) (eu6_37 : F 6 37 = u6_37) (w54 : Int → Int) (ew54 : A 54 = w54) (w55 : Int → Int) (ew55 : A 55 = w55) (w62 : Int → Int) (ew62 : A 62 = w62) (w63 : Int → Int) (ew63 : A 63 = w63) (w64 : Int → Int) (ew64 : A 64 = w64) (w66 : Int → Int) (ew66 : A 66 = w66) (w67 : Int → Int) (ew67 : A 67 = w67) (w68 : Int → Int) (ew68 : A 68 = w68) (w69 : Int → Int) (ew69 : A 69 = w69) (w70 : Int → Int) (ew70 : A 70 = w70) (w87 : Int → Int) (ew87 : A 87 = w87) (rr : Int × Int × Int) (h0 : WO ((w54)) ((w55))) (h1 : 0 ≤ (u6_37) ∧ (u6_37) ≤ 70000000) (h2 : TLI ((w66)) ((w67)) ((w62)) ((w63)) ((u6_28))) (h3 : GOE ((w62)) ((w63)) ((u6_28)) 16384) (h4 : TLW ((w66)) ((w67)) ((w68)) ((w62)) ((w63)) ((w64)) rr ((u6_28))) (k : ∀ σ Fₚ Aₚ, HS σ0 σ D N Fₚ Aₚ → SF [(6, 35), (6, 37)] F Fₚ → SA [54, 55, 69, 70, 71, 72, 73, 74, 75, 76, 77, 78, 87] A Aₚ → ∀ y6_35 : Int, Fₚ 6 35 = y6_35 → ∀ y6_37 : Int, Fₚ 6 37 = y6_37 → ∀ v54 : Int → Int, Aₚ 54 = v54 → ∀ v55 : Int → Int, Aₚ 55 = v55 → ∀ v69 : Int → Int, Aₚ 69 = v69 → ∀ v70 : Int → Int, Aₚ 70 = v70 → ∀ v87 : Int → Int, Aₚ 87 = v87 → ((u6_37) ≤ (y6_37) ∧ (y6_37) ≤ (u6_37) + 30000) → (WO ((v54)) ((v55))) → (IMP (MDX ((w69)) ((u6_35))) (SQW (BR ((w54)) ((w55))) (BR ((v54)) ((v55))) (sq ((w62)) ((w63)) ((w64)) ((u6_28))) rr ((w87)) ((v87)) ((v69)) ((y6_35)) (fun M_ => QAP 65536 ((w70)) ((u6_37)) ((v70)) ((y6_37)) (M_)))) → Q none σ c s) : Ew 444 (d + 6) 0 (rargs 0 [.ref (D 6)]) [] σ c s Q := by
  have r1 : (0 : Int) ≤ u6_28 ∧ u6_28 ≤ 8001 := rngE (show (0 : Int) ≤ F 6 28 ∧ F 6 28 ≤ 8001 from H.frng 6 28) (show F 6 28 = u6_28 from (eu6_28))
  have r2 : (0 : Int) ≤ u6_35 ∧ u6_35 ≤ 100000000 := rngE (show (0 : Int) ≤ F 6 35 ∧ F 6 35 ≤ 100000000 from H.frng 6 35) (show F 6 35 = u6_35 from (eu6_35))
  have r3 : (0 : Int) ≤ u6_37 ∧ u6_37 ≤ 100000000 := rngE (show (0 : Int) ≤ F 6 37 ∧ F 6 37 ≤ 100000000 from H.frng 6 37) (show F 6 37 = u6_37 from (eu6_37))
  have htl : TLI ((w66)) ((w67)) ((w62)) ((w63)) ((u6_28)) := h2
  have hgo : GOE ((w62)) ((w63)) ((u6_28)) 16384 := h3
  have htw : TLW ((w66)) ((w67)) ((w68)) ((w62)) ((w63)) ((w64)) rr ((u6_28)) := h4
  have hQl : ((sq ((w62)) ((w63)) ((w64)) ((u6_28))).length : Int) = (u6_28) := by rw [sq_len]; omega
  have hs8 : (u6_28) ≤ 8001 := q_2733 r1
  refine Ew_of (pcₚ := 1) (fun _ => x_aload_n rfl rfl) ?_
  refine w_gI H (o := 6) (w := u6_28) rfl (H.perm 6 rfl) rfl rfl rfl (fun _ => rfl) (eu6_28) ?_
  refine Ew_of (pcₚ := 5) (fun _ => x_istore_n rfl) ?_
  have hc70 : ∀ (ls : rO) (σ : rS) (F_c70 : hF) (A_c70 : hA) , rlook ls 0 = some (.ref (D 6)) → rlook ls 1 = some (I (u6_28)) → HS σ0 σ D N F_c70 A_c70 → SF [(6, 37)] F F_c70 → SA [70] A A_c70 → ∀ yc70_6_37 : Int, F_c70 6 37 = yc70_6_37 → ∀ wc70_70 : Int → Int, A_c70 70 = wc70_70 → ((u6_37) ≤ (yc70_6_37) ∧ (yc70_6_37) ≤ (u6_37) + 3) → (QAP 65536 ((w70)) ((u6_37)) ((wc70_70)) ((yc70_6_37)) (numB ((u6_28)))) → Ew 444 (d + 6) 70 ls [] σ c s Q := by
   as_aux_lemma =>
    intro  ls σ F_c70 A_c70  lc70_0 lc70_1 H hS_c70 hA_c70 yc70_6_37 eyc70_6_37 wc70_70 ewc70_70 jc70_0 jc70_1
    have r4 : (0 : Int) ≤ yc70_6_37 ∧ yc70_6_37 ≤ 100000000 := rngE (show (0 : Int) ≤ F_c70 6 37 ∧ F_c70 6 37 ≤ 100000000 from H.frng 6 37) (show F_c70 6 37 = yc70_6_37 from (eyc70_6_37))
    have j70_q : QAP 65536 ((w70)) ((u6_37)) ((wc70_70)) ((yc70_6_37)) (numB ((u6_28))) := jc70_1
    refine Ew_of (pcₚ := 71) (fun _ => x_iload_n rfl lc70_1) ?_
    refine w_ifne (t := 75) rfl rfl (show inr (u6_28) from q_2734 hs8 r1) (fun b5 => ?_) (fun b5 => ?_)
    · refine Ew_of (pcₚ := 76) (fun _ => x_aload_n rfl lc70_0) ?_
      refine w_gI H (o := 6) (w := yc70_6_37) rfl (H.perm 6 rfl) rfl rfl rfl (fun _ => rfl) (eyc70_6_37) ?_
      obtain ⟨gm, hgm⟩ : ∃ g : Int → Int, g = (wc70_70) := ⟨_, rfl⟩
      obtain ⟨qm, hqm⟩ : ∃ q : Int, q = (yc70_6_37) := ⟨_, rfl⟩
      rw [← hgm, ← hqm] at j70_q
      refine Ew_of (pcₚ := 80) (fun _ => x_istore_n rfl) ?_
      refine Ew_of (pcₚ := 81) (fun _ => x_aload_n rfl (rk_o (lc70_0) rfl rfl)) ?_
      refine Ew_of (pcₚ := 82) (fun _ => x_iconst rfl) ?_
      refine w_inv H (o := 6) rfl rfl rfl (H.perm 6 rfl) rfl rfl (by rfl) (M392 H (yc70_6_37) ((eyc70_6_37)) (wc70_70) (ewc70_70) (show inr (0) from q_2) (show 0 ≤ (yc70_6_37) ∧ (yc70_6_37) ≤ 99999999 by omega) (fun σ F6 A7 H hS8 hA9 y11 ey12 wq13 ewq14 pz10_0 pz10_1 => ⟨rfl, ?_⟩))
      have r15 : (0 : Int) ≤ y11 ∧ y11 ≤ 100000000 := rngE (show (0 : Int) ≤ F6 6 37 ∧ F6 6 37 ≤ 100000000 from H.frng 6 37) (show F6 6 37 = y11 from (ey12))
      have hu0 : u8 0 = 0 := rfl
      have h85 := pz10_1
      rw [← hgm, ← hqm] at h85
      refine Ew_of (pcₚ := 86) (fun _ => x_iconst rfl) ?_
      refine Ew_of (pcₚ := 87) (fun _ => x_istore_n rfl) ?_
      refine Ew_of (pcₚ := 88) (fun _ => x_iconst rfl) ?_
      refine Ew_of (pcₚ := 90) (fun _ => x_istore rfl) ?_
      have : ∀ t, (0 : Int) ≤ t → t < (0 : Int) → TBL ((w54)) ((w55)) (sh ((w66)) (8001 * t)) t ((u6_28)) := fun t a b => absurd b (by omega)
      have : IMP (MDX ((w69)) ((u6_35))) (BDO (BR ((w54)) ((w55))) (BR ((w54)) ((w55))) (sq ((w62)) ((w63)) ((w64)) ((u6_28))) rr 0 ∧ MDX ((w69)) ((u6_35)) ∧ (0 : Int) = mdU (BR ((w54)) ((w55))) (sq ((w62)) ((w63)) ((w64)) ((u6_28))) rr (0 : Int).toNat ∧ (w87) = ntU 8 (BR ((w54)) ((w55))) (sq ((w62)) ((w63)) ((w64)) ((u6_28))) rr ((w87)) (0 : Int).toNat ∧ QAP 65536 gm qm ((wq13)) ((y11)) ([0] ++ tqU (BR ((w54)) ((w55))) (sq ((w62)) ((w63)) ((w64)) ((u6_28))) rr (0 : Int).toNat)) := fun q => ⟨BDO_0, q, rfl, rfl, by have h := h85; rw [hu0] at h; exact QAP_c h (by rfl)⟩
      suffices hl90 : ∀ (m : Nat), ∀ (ls : rO) (σ : rS) (F_90 : hF) (A_90 : hA) (x90_3 : Int) (x90_4 : Int), rlook ls 0 = some (.ref (D 6)) → rlook ls 2 = some (I (yc70_6_37)) → rlook ls 3 = some (I (x90_3)) → rlook ls 4 = some (I (x90_4)) → HS σ0 σ D N F_90 A_90 → SF [(6, 35), (6, 37)] F6 F_90 → SA [54, 55, 69, 70, 71, 72, 73, 74, 75, 76, 77, 78, 87] A7 A_90 → ∀ y90_6_35 : Int, F_90 6 35 = y90_6_35 → ∀ y90_6_37 : Int, F_90 6 37 = y90_6_37 → ∀ w90_54 : Int → Int, A_90 54 = w90_54 → ∀ w90_55 : Int → Int, A_90 55 = w90_55 → ∀ w90_69 : Int → Int, A_90 69 = w90_69 → ∀ w90_70 : Int → Int, A_90 70 = w90_70 → ∀ w90_87 : Int → Int, A_90 87 = w90_87 → (inr (x90_3)) → (inr (x90_4)) → ((0) ≤ (x90_4)) → ((x90_4) ≤ (0) ∨ (x90_4) ≤ (3)) → (WO ((w90_54)) ((w90_55))) → (∀ t, (0 : Int) ≤ t → t < (x90_4) → TBL ((w90_54)) ((w90_55)) (sh ((w66)) (8001 * t)) t ((u6_28))) → ((u6_37) ≤ (y90_6_37) ∧ (y90_6_37) ≤ (u6_37) + (4 + 100 * (x90_4))) → (0 ≤ (x90_3) ∧ (x90_3) ≤ 252) → ((x90_4) = 0 ∧ (x90_3) = 0 ∨ (x90_4) = 1 ∧ (x90_3) % 64 = 0 ∧ (x90_3) ≤ 192 ∨ (x90_4) = 2 ∧ (x90_3) % 16 = 0 ∧ (x90_3) ≤ 240 ∨ (x90_4) = 3) → (IMP (MDX ((w69)) ((u6_35))) (BDO (BR ((w90_54)) ((w90_55))) (BR ((w54)) ((w55))) (sq ((w62)) ((w63)) ((w64)) ((u6_28))) rr ((x90_4)) ∧ MDX ((w90_69)) ((y90_6_35)) ∧ (x90_3) = mdU (BR ((w54)) ((w55))) (sq ((w62)) ((w63)) ((w64)) ((u6_28))) rr ((x90_4) : Int).toNat ∧ (w90_87) = ntU 8 (BR ((w54)) ((w55))) (sq ((w62)) ((w63)) ((w64)) ((u6_28))) rr ((w87)) ((x90_4) : Int).toNat ∧ QAP 65536 gm qm ((w90_70)) ((y90_6_37)) ([0] ++ tqU (BR ((w54)) ((w55))) (sq ((w62)) ((w63)) ((w64)) ((u6_28))) rr ((x90_4) : Int).toNat))) → ((3) - (x90_4)).toNat = m → Ew 444 (d + 6) 90 ls [] σ c s Q from
        hl90 _ _ σ _ _ (0) (0) (rk_o (rk_o (rk_o (lc70_0) rfl rfl) rfl rfl) rfl rfl) (rk_o (rk_o (rk_s) rfl rfl) rfl rfl) (rk_o (rk_s) rfl rfl) (rk_s) H (SF_refl) (SA_refl) (u6_35) ((((hS8 6 35 rfl).trans (hS_c70 6 35 rfl)).trans (eu6_35))) (y11) ((ey12)) (w54) ((funext (hA9 54 rfl)).trans ((funext (hA_c70 54 rfl)).trans (ew54))) (w55) ((funext (hA9 55 rfl)).trans ((funext (hA_c70 55 rfl)).trans (ew55))) (w69) ((funext (hA9 69 rfl)).trans ((funext (hA_c70 69 rfl)).trans (ew69))) (wq13) (ewq14) (w87) ((funext (hA9 87 rfl)).trans ((funext (hA_c70 87 rfl)).trans (ew87))) (show inr (0) from q_2) (show inr (0) from q_2) (show (0) ≤ (0) from q_1) (show (0) ≤ (0) ∨ (0) ≤ (3) from q_1793) (h0) (show ∀ t, (0 : Int) ≤ t → t < (0) → TBL ((w54)) ((w55)) (sh ((w66)) (8001 * t)) t ((u6_28)) by assumption) (show (u6_37) ≤ (y11) ∧ (y11) ≤ (u6_37) + (4 + 100 * (0)) from q_2737 jc70_0 pz10_0) (show 0 ≤ (0) ∧ (0) ≤ 252 from q_2736) (show (0) = 0 ∧ (0) = 0 ∨ (0) = 1 ∧ (0) % 64 = 0 ∧ (0) ≤ 192 ∨ (0) = 2 ∧ (0) % 16 = 0 ∧ (0) ≤ 240 ∨ (0) = 3 from q_2735) (show IMP (MDX ((w69)) ((u6_35))) (BDO (BR ((w54)) ((w55))) (BR ((w54)) ((w55))) (sq ((w62)) ((w63)) ((w64)) ((u6_28))) rr ((0)) ∧ MDX ((w69)) ((u6_35)) ∧ (0) = mdU (BR ((w54)) ((w55))) (sq ((w62)) ((w63)) ((w64)) ((u6_28))) rr ((0) : Int).toNat ∧ (w87) = ntU 8 (BR ((w54)) ((w55))) (sq ((w62)) ((w63)) ((w64)) ((u6_28))) rr ((w87)) ((0) : Int).toNat ∧ QAP 65536 gm qm ((wq13)) ((y11)) ([0] ++ tqU (BR ((w54)) ((w55))) (sq ((w62)) ((w63)) ((w64)) ((u6_28))) rr ((0) : Int).toNat)) by assumption) rfl
      as_aux_lemma =>
      intro m
      induction m using Nat.strongRecOn with
      | _ m ih90 =>
        intro ls σ F_90 A_90 x90_3 x90_4 l90_0 l90_2 l90_3 l90_4 H hS_90 hA_90 y90_6_35 ey90_6_35 y90_6_37 ey90_6_37 w90_54 ew90_54 w90_55 ew90_55 w90_69 ew90_69 w90_70 ew90_70 w90_87 ew90_87 j90_0 j90_1 j90_2 j90_3 j90_4 j90_5 j90_6 j90_7 j90_8 j90_9 hm90
        have r16 : (0 : Int) ≤ y90_6_35 ∧ y90_6_35 ≤ 100000000 := rngE (show (0 : Int) ≤ F_90 6 35 ∧ F_90 6 35 ≤ 100000000 from H.frng 6 35) (show F_90 6 35 = y90_6_35 from (ey90_6_35))
        have r17 : (0 : Int) ≤ y90_6_37 ∧ y90_6_37 ≤ 100000000 := rngE (show (0 : Int) ≤ F_90 6 37 ∧ F_90 6 37 ≤ 100000000 from H.frng 6 37) (show F_90 6 37 = y90_6_37 from (ey90_6_37))
        have j90_t : ∀ t, (0 : Int) ≤ t → t < (x90_4) → TBL ((w90_54)) ((w90_55)) (sh ((w66)) (8001 * t)) t ((u6_28)) := by assumption
        have j90_j : IMP (MDX ((w69)) ((u6_35))) (BDO (BR ((w90_54)) ((w90_55))) (BR ((w54)) ((w55))) (sq ((w62)) ((w63)) ((w64)) ((u6_28))) rr ((x90_4)) ∧ MDX ((w90_69)) ((y90_6_35)) ∧ (x90_3) = mdU (BR ((w54)) ((w55))) (sq ((w62)) ((w63)) ((w64)) ((u6_28))) rr ((x90_4) : Int).toNat ∧ (w90_87) = ntU 8 (BR ((w54)) ((w55))) (sq ((w62)) ((w63)) ((w64)) ((u6_28))) rr ((w87)) ((x90_4) : Int).toNat ∧ QAP 65536 gm qm ((w90_70)) ((y90_6_37)) ([0] ++ tqU (BR ((w54)) ((w55))) (sq ((w62)) ((w63)) ((w64)) ((u6_28))) rr ((x90_4) : Int).toNat)) := by assumption
        obtain ⟨ql4, hql4⟩ : ∃ q : Int, q = (x90_4) := ⟨_, rfl⟩
        obtain ⟨ql3, hql3⟩ : ∃ q : Int, q = (x90_3) := ⟨_, rfl⟩
        refine Ew_of (pcₚ := 92) (fun _ => x_iload rfl l90_4) ?_
        refine Ew_of (pcₚ := 93) (fun _ => x_iconst rfl) ?_
        refine w_icmpge (t := 141) rfl rfl (show inr (x90_4) from j90_1) (show inr (3) from q_246) (fun b18 => ?_) (fun b18 => ?_)
        · have hc154 : ∀ (ls : rO) (σ : rS) (F_c154 : hF) (A_c154 : hA) , rlook ls 0 = some (.ref (D 6)) → HS σ0 σ D N F_c154 A_c154 → SF [] F_90 F_c154 → SA [70] A_90 A_c154 → ∀ wc154_70 : Int → Int, A_c154 70 = wc154_70 → (IMP (MDX ((w69)) ((u6_35))) (QAP 65536 gm qm ((wc154_70)) ((y90_6_37)) ([ql3] ++ tqU (BR ((w54)) ((w55))) (sq ((w62)) ((w63)) ((w64)) ((u6_28))) rr (3 : Int).toNat))) → Ew 444 (d + 6) 154 ls [] σ c s Q := by
           as_aux_lemma =>
            intro  ls σ F_c154 A_c154  lc154_0 H hS_c154 hA_c154  wc154_70 ewc154_70 jc154_0
            have hts := TLI_sum htl hgo (by omega)
            have : TBL ((w90_54)) ((w90_55)) (sh ((w66)) (8001 * 0)) 0 ((u6_28)) := j90_t 0 (by omega) (by omega)
            have : TBL ((w90_54)) ((w90_55)) (sh ((w66)) (8001 * 1)) 1 ((u6_28)) := j90_t 1 (by omega) (by omega)
            have : TBL ((w90_54)) ((w90_55)) (sh ((w66)) (8001 * 2)) 2 ((u6_28)) := j90_t 2 (by omega) (by omega)
            have k154 : IMP (MDX ((w69)) ((u6_35))) (QAP 65536 gm qm ((wc154_70)) ((y90_6_37)) ([ql3] ++ tqU (BR ((w54)) ((w55))) (sq ((w62)) ((w63)) ((w64)) ((u6_28))) rr (3 : Int).toNat)) := by assumption
            have hJ3 : IMP (MDX ((w69)) ((u6_35))) (BDO (BR ((w90_54)) ((w90_55))) (BR ((w54)) ((w55))) (sq ((w62)) ((w63)) ((w64)) ((u6_28))) rr 3 ∧ MDX ((w90_69)) ((y90_6_35)) ∧ ql3 = mdU (BR ((w54)) ((w55))) (sq ((w62)) ((w63)) ((w64)) ((u6_28))) rr (3 : Int).toNat ∧ (w90_87) = ntU 8 (BR ((w54)) ((w55))) (sq ((w62)) ((w63)) ((w64)) ((u6_28))) rr ((w87)) (3 : Int).toNat) := fun q => by obtain ⟨a1_, a2_, a3_, a4_, a5_⟩ := j90_j q; rw [← hql4, show ql4 = 3 by omega] at a1_ a3_ a4_; exact ⟨a1_, a2_, hql3.trans a3_, a4_⟩
            refine Ew_of (pcₚ := 155) (fun _ => x_aload_n rfl lc154_0) ?_
            refine w_inv H (o := 6) rfl rfl rfl (H.perm 6 rfl) rfl rfl (by rfl) (M443f H (u6_28) ((((((hS_c154 6 28 rfl).trans (hS_90 6 28 rfl)).trans (hS8 6 28 rfl)).trans (hS_c70 6 28 rfl)).trans (eu6_28))) (y90_6_35) (((hS_c154 6 35 rfl).trans (ey90_6_35))) (y90_6_37) (((hS_c154 6 37 rfl).trans (ey90_6_37))) (w90_54) ((funext (hA_c154 54 rfl)).trans (ew90_54)) (w90_55) ((funext (hA_c154 55 rfl)).trans (ew90_55)) (w66) ((funext (hA_c154 66 rfl)).trans ((funext (hA_90 66 rfl)).trans ((funext (hA9 66 rfl)).trans ((funext (hA_c70 66 rfl)).trans (ew66))))) (w67) ((funext (hA_c154 67 rfl)).trans ((funext (hA_90 67 rfl)).trans ((funext (hA9 67 rfl)).trans ((funext (hA_c70 67 rfl)).trans (ew67))))) (w68) ((funext (hA_c154 68 rfl)).trans ((funext (hA_90 68 rfl)).trans ((funext (hA9 68 rfl)).trans ((funext (hA_c70 68 rfl)).trans (ew68))))) (w90_69) ((funext (hA_c154 69 rfl)).trans (ew90_69)) (wc154_70) (ewc154_70) (show 1 ≤ (u6_28) by omega) (j90_4) (show TBL ((w90_54)) ((w90_55)) (sh ((w66)) (8001 * 0)) 0 ((u6_28)) by assumption) (show TBL ((w90_54)) ((w90_55)) (sh ((w66)) (8001 * 1)) 1 ((u6_28)) by assumption) (show TBL ((w90_54)) ((w90_55)) (sh ((w66)) (8001 * 2)) 2 ((u6_28)) by assumption) (show 0 ≤ (y90_6_37) ∧ (y90_6_37) ≤ 80000000 by omega) (show 17 * (u6_28) + su (mo3 ((w67))) ((u6_28) : Int).toNat ≤ 180224 by omega) (fun σ F19 A20 H hS21 hA22 y24 ey25 y26 ey27 wq28 ewq29 wq30 ewq31 pz23_0 pz23_1 => ⟨rfl, ?_⟩))
            have r32 : (0 : Int) ≤ y24 ∧ y24 ≤ 100000000 := rngE (show (0 : Int) ≤ F19 6 35 ∧ F19 6 35 ≤ 100000000 from H.frng 6 35) (show F19 6 35 = y24 from (ey25))
            have r33 : (0 : Int) ≤ y26 ∧ y26 ≤ 100000000 := rngE (show (0 : Int) ≤ F19 6 37 ∧ F19 6 37 ≤ 100000000 from H.frng 6 37) (show F19 6 37 = y26 from (ey27))
            have : IMP (MDX ((w69)) ((u6_35))) (SQW (BR ((w54)) ((w55))) (BR ((w90_54)) ((w90_55))) (sq ((w62)) ((w63)) ((w64)) ((u6_28))) rr ((w87)) ((w90_87)) ((wq28)) ((y24)) (fun M_ => QAP 65536 ((w70)) ((u6_37)) ((wq30)) ((y26)) (M_))) := fun q => by obtain ⟨b1, b2, b3, b4⟩ := hJ3 q; have hs := pz23_1 b2; have hst : strB (BR ((w90_54)) ((w90_55))) (fun t => sh ((w66)) (8001 * t)) (XR ((w68)) ((w67))) ((u6_28)) = strB (bnQ (BR ((w54)) ((w55))) (sq ((w62)) ((w63)) ((w64)) ((u6_28))) rr) (Sc (sq ((w62)) ((w63)) ((w64)) ((u6_28))) rr) (XN_ (sq ((w62)) ((w63)) ((w64)) ((u6_28))) rr) ((sq ((w62)) ((w63)) ((w64)) ((u6_28))).length : Int)   := (by rw [hQl, strB_B (b1.1 0 (by omega) (by omega)) (b1.1 1 (by omega) (by omega)) (b1.1 2 (by omega) (by omega))]; exact strB_cg3 (by omega) (fun j a b => by rw [← TLW_Sc (t := 0) (by omega) htw (by decide), cutP_in ⟨a, b⟩]) (fun j a b => by rw [← TLW_Sc (t := 1) (by omega) htw (by decide), cutP_in ⟨a, b⟩]) (fun j a b => by rw [← TLW_Sc (t := 2) (by omega) htw (by decide), cutP_in ⟨a, b⟩]) (fun j a b => TLW_XR htw a b (gsB_nn 31))); have hz : ¬ ((sq ((w62)) ((w63)) ((w64)) ((u6_28))).length : Int) = 0 := (by omega); refine ⟨?_, fun t a b => by unfold bsQ; rw [if_neg hz]; exact b1.1 t a b, by rw [if_neg hz]; exact b4, hs.2⟩; unfold sqB; rw [if_neg hz, hQl, ← mdU_3, ← b3, ← tqU_3]; have hx := hs.1; rw [hst, hQl] at hx; have hy := QAP_trans (k154 q) hx; rw [List.append_assoc] at hy; exact QAP_trans j70_q hy
            exact w_ret rfl (k σ _ _ H (SF_trans (SF_trans (SF_trans (SF_trans (SF_trans (SF_refl) hS_c70 (any_sub rfl)) hS8 (any_sub rfl)) hS_90 (any_sub rfl)) hS_c154 (any_sub rfl)) hS21 (any_sub rfl)) (SA_trans (SA_trans (SA_trans (SA_trans (SA_trans (SA_refl) hA_c70 (any_subA rfl)) hA9 (any_subA rfl)) hA_90 (any_subA rfl)) hA_c154 (any_subA rfl)) hA22 (any_subA rfl)) (y24) ((ey25)) (y26) ((ey27)) (w90_54) ((funext (hA22 54 rfl)).trans ((funext (hA_c154 54 rfl)).trans (ew90_54))) (w90_55) ((funext (hA22 55 rfl)).trans ((funext (hA_c154 55 rfl)).trans (ew90_55))) (wq28) (ewq29) (wq30) (ewq31) (w90_87) ((funext (hA22 87 rfl)).trans ((funext (hA_c154 87 rfl)).trans (ew90_87))) (show (u6_37) ≤ (y26) ∧ (y26) ≤ (u6_37) + 30000 by omega) (j90_4) (show IMP (MDX ((w69)) ((u6_35))) (SQW (BR ((w54)) ((w55))) (BR ((w90_54)) ((w90_55))) (sq ((w62)) ((w63)) ((w64)) ((u6_28))) rr ((w87)) ((w90_87)) ((wq28)) ((y24)) (fun M_ => QAP 65536 ((w70)) ((u6_37)) ((wq30)) ((y26)) (M_))) by assumption))
          have hj154 : IMP (MDX ((w69)) ((u6_35))) ((x90_3) = mdU (BR ((w54)) ((w55))) (sq ((w62)) ((w63)) ((w64)) ((u6_28))) rr (3 : Int).toNat ∧ QAP 65536 gm qm ((w90_70)) ((y90_6_37)) ([0] ++ tqU (BR ((w54)) ((w55))) (sq ((w62)) ((w63)) ((w64)) ((u6_28))) rr (3 : Int).toNat)) := fun q => by obtain ⟨a1_, a2_, a3_, a4_, a5_⟩ := j90_j q; rw [show (x90_4) = 3 by omega] at a3_ a5_; exact ⟨a3_, a5_⟩
          refine Ew_of (pcₚ := 142) (fun _ => x_iload_n rfl l90_2) ?_
          refine Ew_of (pcₚ := 144) (fun _ => x_ldc (z := 65536) rfl (by decide)) ?_
          refine w_icmpge (t := 154) rfl rfl (show inr (yc70_6_37) from q_1984 r4) (show inr (65536) from q_52) (fun b34 => ?_) (fun b34 => ?_)
          · have : IMP (MDX ((w69)) ((u6_35))) (QAP 65536 gm qm ((w90_70)) ((y90_6_37)) ([ql3] ++ tqU (BR ((w54)) ((w55))) (sq ((w62)) ((w63)) ((w64)) ((u6_28))) rr (3 : Int).toNat)) := fun q => by have h := hj154 q; first | exact QAP_ow (Z := [0]) (P := [ql3]) (m := qm + 1) h.2 (by rw [hql3, hqm]; exact QAP_in (by omega) (by omega) rfl) rfl (fun i a => upd1_o (by omega)) | exact QAP_ow (Z := [0]) (P := [ql3]) (m := qm + 1) h.2 (QAP_out (by omega) rfl) rfl (fun _ _ => rfl)
            exact hc154  _ σ _ _  (l90_0) H (SF_refl) (SA_refl)  (w90_70) (ew90_70) (show IMP (MDX ((w69)) ((u6_35))) (QAP 65536 gm qm ((w90_70)) ((y90_6_37)) ([ql3] ++ tqU (BR ((w54)) ((w55))) (sq ((w62)) ((w63)) ((w64)) ((u6_28))) rr (3 : Int).toNat)) by assumption)
          · refine Ew_of (pcₚ := 148) (fun _ => x_aload_n rfl l90_0) ?_
            refine w_gT H (o := 6) (t := 70) rfl (H.perm 6 rfl) rfl rfl rfl rfl rfl rfl ?_
            refine Ew_of (pcₚ := 152) (fun _ => x_iload_n rfl l90_2) ?_
            refine Ew_of (pcₚ := 153) (fun _ => x_iload_n rfl l90_3) ?_
            refine w_sI H (o := 70) (n := 65536) rfl (H.perm 70 rfl) rfl rfl (H.fix 70 rfl rfl) (show 0 ≤ yc70_6_37 ∧ yc70_6_37 < ((65536 : Nat) : Int) from q_2002 b34 r4) (by decide) (show (0 : Int) ≤ x90_3 ∧ x90_3 ≤ 255 from q_2738 j90_7) (fun σ H => ?_)
            have : IMP (MDX ((w69)) ((u6_35))) (QAP 65536 gm qm ((upd1 (w90_70) (yc70_6_37) (x90_3))) ((y90_6_37)) ([ql3] ++ tqU (BR ((w54)) ((w55))) (sq ((w62)) ((w63)) ((w64)) ((u6_28))) rr (3 : Int).toNat)) := fun q => by have h := hj154 q; first | exact QAP_ow (Z := [0]) (P := [ql3]) (m := qm + 1) h.2 (by rw [hql3, hqm]; exact QAP_in (by omega) (by omega) rfl) rfl (fun i a => upd1_o (by omega)) | exact QAP_ow (Z := [0]) (P := [ql3]) (m := qm + 1) h.2 (QAP_out (by omega) rfl) rfl (fun _ _ => rfl)
            exact hc154  _ σ _ _  (l90_0) H (SF_refl) (SA_upd (SA_refl) rfl)  (upd1 (w90_70) (yc70_6_37) (x90_3)) (congrArg (fun q => upd1 q (yc70_6_37) (x90_3)) (ew90_70)) (show IMP (MDX ((w69)) ((u6_35))) (QAP 65536 gm qm ((upd1 (w90_70) (yc70_6_37) (x90_3))) ((y90_6_37)) ([ql3] ++ tqU (BR ((w54)) ((w55))) (sq ((w62)) ((w63)) ((w64)) ((u6_28))) rr (3 : Int).toNat)) by assumption)
        · refine Ew_of (pcₚ := 97) (fun _ => x_aload_n rfl l90_0) ?_
          refine Ew_of (pcₚ := 99) (fun _ => x_iload rfl l90_4) ?_
          have : ∀ j, 0 ≤ j → j < (u6_28) → (sh ((w66)) (8001 * (x90_4))) j ≤ lS ((x90_4)) := TLI_sy htl (by omega) (by omega)
          have hSc : cutP ((u6_28)) (sh ((w66)) (8001 * (x90_4))) = Sc (sq ((w62)) ((w63)) ((w64)) ((u6_28))) rr ((x90_4)) := TLW_Sc (by omega) htw (by omega)
          have hBt : BDO (BR ((w90_54)) ((w90_55))) (BR ((w54)) ((w55))) (sq ((w62)) ((w63)) ((w64)) ((u6_28))) rr ((x90_4)) → btS (((w90_55)) ((x90_4))) (sh ((w90_54)) (64 * ((x90_4)))) = (BR ((w54)) ((w55))) ((x90_4)) := fun h => h.2 ((x90_4)) (Int.le_refl _) (by omega)
          refine w_inv H (o := 6) rfl rfl rfl (H.perm 6 rfl) rfl rfl (by rfl) (M437f H (u6_28) (((((hS_90 6 28 rfl).trans (hS8 6 28 rfl)).trans (hS_c70 6 28 rfl)).trans (eu6_28))) (y90_6_35) ((ey90_6_35)) (w90_54) (ew90_54) (w90_55) (ew90_55) (w66) ((funext (hA_90 66 rfl)).trans ((funext (hA9 66 rfl)).trans ((funext (hA_c70 66 rfl)).trans (ew66)))) (w90_69) (ew90_69) (show inr (x90_4) from j90_1) (show 0 ≤ (x90_4) ∧ (x90_4) ≤ 2 from q_1802 b18 j90_2) (show 1 ≤ (u6_28) by omega) (j90_4) (show ∀ j, 0 ≤ j → j < (u6_28) → (sh ((w66)) (8001 * (x90_4))) j ≤ lS ((x90_4)) by assumption) (fun z39 σ F35 A36 H hS37 hA38 y40 ey41 wq42 ewq43 wq44 ewq45 wq46 ewq47 pz39_0 pz39_1 pz39_2 pz39_3 pz39_4 pz39_5 pz39_6 pz39_7 => ⟨rfl, ?_⟩))
          have r48 : (0 : Int) ≤ y40 ∧ y40 ≤ 100000000 := rngE (show (0 : Int) ≤ F35 6 35 ∧ F35 6 35 ≤ 100000000 from H.frng 6 35) (show F35 6 35 = y40 from (ey41))
          have ht1 := pz39_3
          have ht2 := pz39_5
          have ht3 := pz39_6
          have hTT := pz39_7
          have : ∀ t, (0 : Int) ≤ t → t < ((x90_4) + 1) → TBL ((wq42)) ((wq44)) (sh ((w66)) (8001 * t)) t ((u6_28)) := fun t a b => by by_cases e : t = (x90_4); (rw [e]; exact ht1); exact TBL_keep (j90_t t a (by omega)) ht2 ht3 e
          refine Ew_of (pcₚ := 104) (fun _ => x_istore rfl) ?_
          refine Ew_of (pcₚ := 105) (fun _ => x_aload_n rfl (rk_o (l90_0) rfl rfl)) ?_
          refine w_inv H (o := 6) rfl rfl rfl (H.perm 6 rfl) rfl rfl (by rfl) (M394 H (y40) ((ey41)) (y90_6_37) (((hS37 6 37 rfl).trans (ey90_6_37))) (wq46) (ewq47) (w90_70) ((funext (hA38 70 rfl)).trans (ew90_70)) (show 0 ≤ (y40) ∧ (y40) ≤ 192000 from q_2739 pz39_2 r48) (show 0 ≤ (y90_6_37) ∧ (y90_6_37) ≤ 90000000 by omega) (fun σ F49 A50 H hS51 hA52 y54 ey55 wq56 ewq57 pz53_0 pz53_1 => ⟨rfl, ?_⟩))
          have r58 : (0 : Int) ≤ y54 ∧ y54 ≤ 100000000 := rngE (show (0 : Int) ≤ F49 6 37 ∧ F49 6 37 ≤ 100000000 from H.frng 6 37) (show F49 6 37 = y54 from (ey55))
          refine Ew_of (pcₚ := 109) (fun _ => x_iload_n rfl (rk_o (l90_3) rfl rfl)) ?_
          refine Ew_of (pcₚ := 111) (fun _ => x_iload rfl rk_s) ?_
          refine Ew_of (pcₚ := 113) (fun _ => x_bipush (z := 6) rfl (by decide)) ?_
          refine Ew_of (pcₚ := 114) (fun _ => x_iconst rfl) ?_
          refine Ew_of (pcₚ := 116) (fun _ => x_iload rfl (rk_o (l90_4) rfl rfl)) ?_
          refine w_imul rfl ?_
          refine w_isub rfl ?_
          refine w_ishlE rfl ?_
          have g59 : inr (slI (z39) ((6 - (2 * x90_4)))) := toI_inr _
          refine w_iorE rfl ?_
          have g60 : inr (orI (x90_3) ((slI (z39) ((6 - (2 * x90_4)))))) := toI_inr _
          have hor : ((orI (x90_3) ((slI (z39) ((6 - (2 * x90_4))))))) = (x90_3) + z39 * p2 (6 - 2 * (x90_4)) := md_or (k := (x90_4)) (by omega) (by omega) (by omega) rfl
          have hp6 : (x90_4) = 0 ∧ p2 (6 - 2 * (x90_4)) = 64 ∨ (x90_4) = 1 ∧ p2 (6 - 2 * (x90_4)) = 16 ∨ (x90_4) = 2 ∧ p2 (6 - 2 * (x90_4)) = 4 := by rcases (show (x90_4) = 0 ∨ (x90_4) = 1 ∨ (x90_4) = 2 by omega) with q | q | q <;> rw [q] <;> decide
          have hmz : z39 = 0 ∨ z39 = 1 ∨ z39 = 2 ∨ z39 = 3 := by omega
          have hos : ((orI (x90_3) ((slI (z39) ((6 - (2 * x90_4))))))) = (x90_3) + 64 * z39 ∧ (x90_4) = 0 ∨ ((orI (x90_3) ((slI (z39) ((6 - (2 * x90_4))))))) = (x90_3) + 16 * z39 ∧ (x90_4) = 1 ∨ ((orI (x90_3) ((slI (z39) ((6 - (2 * x90_4))))))) = (x90_3) + 4 * z39 ∧ (x90_4) = 2 := by rw [hor]; rcases hp6 with ⟨a, b⟩ | ⟨a, b⟩ | ⟨a, b⟩ <;> rw [b] <;> omega
          obtain ⟨qo, hqo⟩ : ∃ q : Int, q = ((orI (x90_3) ((slI (z39) ((6 - (2 * x90_4))))))) := ⟨_, rfl⟩
          rw [← hqo]
          have gqo : inr qo := by rw [hqo]; first | assumption | omega
          replace hqo : IMP True (qo = ((orI (x90_3) ((slI (z39) ((6 - (2 * x90_4)))))))) := fun _ => hqo
          try clear g60
          try clear g59
          have hqo1 : qo = (x90_3) + 64 * z39 ∧ (x90_4) = 0 ∨ qo = (x90_3) + 16 * z39 ∧ (x90_4) = 1 ∨ qo = (x90_3) + 4 * z39 ∧ (x90_4) = 2 := by rw [hqo trivial]; exact hos
          have hor : qo = (x90_3) + z39 * p2 (6 - 2 * (x90_4)) := by rw [hqo trivial]; exact hor
          refine Ew_of (pcₚ := 121) (fun _ => x_istore_n rfl) ?_
          refine Ew_of (pcₚ := 122) (fun _ => x_aload_n rfl (rk_o (rk_o (l90_0) rfl rfl) rfl rfl)) ?_
          refine w_gT H (o := 6) (t := 87) rfl (H.perm 6 rfl) rfl rfl rfl rfl rfl rfl ?_
          refine Ew_of (pcₚ := 127) (fun _ => x_bipush (z := 8) rfl (by decide)) ?_
          refine Ew_of (pcₚ := 129) (fun _ => x_iload rfl (rk_o (rk_s) rfl rfl)) ?_
          refine w_iadd rfl ?_
          refine Ew_of (pcₚ := 131) (fun _ => x_dup2 rfl rfl rfl) ?_
          refine w_lI H (o := 87) (n := 12) rfl (H.perm 87 rfl) rfl rfl (H.fix 87 rfl rfl) (show 0 ≤ (8 + z39) ∧ (8 + z39) < ((12 : Nat) : Int) from q_2740 hmz) (by decide) (fun v61 ev61 qv61 => ?_)
          have qv61 : (-2147483648 : Int) ≤ v61 ∧ v61 ≤ 2147483647 := qv61
          have ev61 : (w90_87) ((8 + z39)) = v61 := (congrFun ((funext (hA52 87 rfl)).trans ((funext (hA38 87 rfl)).trans (ew90_87))) ((8 + z39))).symm.trans ev61
          have hnv := ev61
          refine Ew_of (pcₚ := 133) (fun _ => x_iconst rfl) ?_
          refine w_iaddE rfl ?_
          have g62 : inr (adI (v61) (1)) := toI_inr _
          refine w_sI H (o := 87) (n := 12) rfl (H.perm 87 rfl) rfl rfl (H.fix 87 rfl rfl) (show 0 ≤ (8 + z39) ∧ (8 + z39) < ((12 : Nat) : Int) from q_2740 hmz) (by decide) (show (-2147483648 : Int) ≤ (adI (v61) (1)) ∧ (adI (v61) (1)) ≤ 2147483647 from q_31 g62) (fun σ H => ?_)
          have hnj : IMP (MDX ((w69)) ((u6_35))) (BDO (BR ((wq42)) ((wq44))) (BR ((w54)) ((w55))) (sq ((w62)) ((w63)) ((w64)) ((u6_28))) rr ((x90_4) + 1) ∧ MDX ((wq46)) ((y40)) ∧ (qo) = mdU (BR ((w54)) ((w55))) (sq ((w62)) ((w63)) ((w64)) ((u6_28))) rr ((x90_4) + 1 : Int).toNat ∧ (upd1 (w90_87) ((8 + z39)) ((adI (v61) (1)))) = ntU 8 (BR ((w54)) ((w55))) (sq ((w62)) ((w63)) ((w64)) ((u6_28))) rr ((w87)) ((x90_4) + 1 : Int).toNat ∧ QAP 65536 gm qm ((wq56)) ((y54)) ([0] ++ tqU (BR ((w54)) ((w55))) (sq ((w62)) ((w63)) ((w64)) ((u6_28))) rr ((x90_4) + 1 : Int).toNat)) := fun q => by obtain ⟨a1_, a2_, a3_, a4_, a5_⟩ := j90_j q; have hT := hTT (a2_); rw [hSc] at hT; have hm_ : z39 = mdQ (BR ((w54)) ((w55))) (sq ((w62)) ((w63)) ((w64)) ((u6_28))) rr ((x90_4)) := (hT.1.trans (by unfold mdQ; rw [hQl, hBt a1_])); refine ⟨BDO_s a1_ rfl (by have h := hT.2.2; unfold bnQ; rw [hQl, ← hm_, ← hBt a1_]; exact h) (fun t b c e => BR_o ht2 ht3 e) (by omega), MBY_X hT.2.1, ?_, ?_, ?_⟩; (rw [mdU_s (k := (x90_4)) (by omega) rfl, ← hm_, ← a3_]; exact hor); (rw [ntU_s (k := (x90_4)) (by omega) rfl, ← hm_, ← a4_, hnv]); (rw [tqU_s (k := (x90_4)) (by omega) rfl, ← List.append_assoc]; have h := pz53_1; rw [MBY_sc hT.2.1 (by omega)] at h; refine QAP_trans a5_ (QAP_c h ?_); unfold tqB; rw [hQl, ← hm_])
          refine Ew_of (pcₚ := 138) (fun _ => x_iinc (len := 3) rfl (rk_o (rk_o (l90_4) rfl rfl) rfl rfl)) ?_
          refine Ew_of (pcₚ := 90) (fun _ => x_goto rfl rfl) ?_
          exact ih90 _ (msE hm90 q_813 (q_814 b18)) _ σ _ _ (qo) ((x90_4 + 1)) (rk_o (rk_o (rk_o (l90_0) rfl rfl) rfl rfl) rfl rfl) (rk_o (rk_o (rk_o (l90_2) rfl rfl) rfl rfl) rfl rfl) (rk_o (rk_s) rfl rfl) (rk_s) H (SF_trans (SF_trans (hS_90) hS37 (any_sub rfl)) hS51 (any_sub rfl)) (SA_upd (SA_trans (SA_trans (hA_90) hA38 (any_subA rfl)) hA52 (any_subA rfl)) rfl) (y40) (((hS51 6 35 rfl).trans (ey41))) (y54) ((ey55)) (wq42) ((funext (hA52 54 rfl)).trans (ewq43)) (wq44) ((funext (hA52 55 rfl)).trans (ewq45)) (wq46) ((funext (hA52 69 rfl)).trans (ewq47)) (wq56) (ewq57) (upd1 (w90_87) ((8 + z39)) ((adI (v61) (1)))) (congrArg (fun q => upd1 q ((8 + z39)) ((adI (v61) (1)))) ((funext (hA52 87 rfl)).trans ((funext (hA38 87 rfl)).trans (ew90_87)))) (show inr (qo) from gqo) (show inr ((x90_4 + 1)) from q_2742 b18 j90_6) (show (0) ≤ ((x90_4 + 1)) from q_2741 j90_6) (show ((x90_4 + 1)) ≤ (0) ∨ ((x90_4 + 1)) ≤ (3) from q_1803 b18) (pz39_4) (show ∀ t, (0 : Int) ≤ t → t < ((x90_4 + 1)) → TBL ((wq42)) ((wq44)) (sh ((w66)) (8001 * t)) t ((u6_28)) by assumption) (show (u6_37) ≤ (y54) ∧ (y54) ≤ (u6_37) + (4 + 100 * ((x90_4 + 1))) by omega) (show 0 ≤ (qo) ∧ (qo) ≤ 252 by omega) (show ((x90_4 + 1)) = 0 ∧ (qo) = 0 ∨ ((x90_4 + 1)) = 1 ∧ (qo) % 64 = 0 ∧ (qo) ≤ 192 ∨ ((x90_4 + 1)) = 2 ∧ (qo) % 16 = 0 ∧ (qo) ≤ 240 ∨ ((x90_4 + 1)) = 3 by omega) (hnj) rfl
    · have : IMP (MDX ((w69)) ((u6_35))) (SQW (BR ((w54)) ((w55))) (BR ((w54)) ((w55))) (sq ((w62)) ((w63)) ((w64)) ((u6_28))) rr ((w87)) ((w87)) ((w69)) ((u6_35)) (fun M_ => QAP 65536 ((w70)) ((u6_37)) ((wc70_70)) ((yc70_6_37)) (M_))) := fun q => ⟨by rw [sqB_0 (by omega), hQl]; exact j70_q, fun t a b => by unfold bsQ; rw [if_pos (by omega)], by rw [if_pos (by omega)], q⟩
      exact w_ret rfl (k σ _ _ H (SF_trans (SF_refl) hS_c70 (any_sub rfl)) (SA_trans (SA_refl) hA_c70 (any_subA rfl)) (u6_35) (((hS_c70 6 35 rfl).trans (eu6_35))) (yc70_6_37) ((eyc70_6_37)) (w54) ((funext (hA_c70 54 rfl)).trans (ew54)) (w55) ((funext (hA_c70 55 rfl)).trans (ew55)) (w69) ((funext (hA_c70 69 rfl)).trans (ew69)) (wc70_70) (ewc70_70) (w87) ((funext (hA_c70 87 rfl)).trans (ew87)) (show (u6_37) ≤ (yc70_6_37) ∧ (yc70_6_37) ≤ (u6_37) + 30000 from q_2743 jc70_0) (h0) (show IMP (MDX ((w69)) ((u6_35))) (SQW (BR ((w54)) ((w55))) (BR ((w54)) ((w55))) (sq ((w62)) ((w63)) ((w64)) ((u6_28))) rr ((w87)) ((w87)) ((w69)) ((u6_35)) (fun M_ => QAP 65536 ((w70)) ((u6_37)) ((wc70_70)) ((yc70_6_37)) (M_))) by assumption))
  refine Ew_of (pcₚ := 6) (fun _ => x_iload_n rfl rk_s) ?_
  refine Ew_of (pcₚ := 9) (fun _ => x_sipush (z := 128) rfl (by decide)) ?_
  refine w_icmpge (t := 20) rfl rfl (show inr (u6_28) from q_2734 hs8 r1) (show inr (128) from q_313) (fun b63 => ?_) (fun b63 => ?_)
  · refine Ew_of (pcₚ := 21) (fun _ => x_iload_n rfl rk_s) ?_
    refine Ew_of (pcₚ := 24) (fun _ => x_sipush (z := 32512) rfl (by decide)) ?_
    refine w_icmpge (t := 52) rfl rfl (show inr (u6_28) from q_2745 b63 hs8) (show inr (32512) from q_2744) (fun b64 => ?_) (fun b64 => ?_)
    · refine Ew_of (pcₚ := 53) (fun _ => x_aload_n rfl (rk_o (rfl) rfl rfl)) ?_
      refine Ew_of (pcₚ := 56) (fun _ => x_sipush (z := 255) rfl (by decide)) ?_
      refine w_inv H (o := 6) rfl rfl rfl (H.perm 6 rfl) rfl rfl (by rfl) (M392 H (u6_37) ((eu6_37)) (w70) (ew70) (show inr (255) from q_297) (show 0 ≤ (u6_37) ∧ (u6_37) ≤ 99999999 by omega) (fun σ F65 A66 H hS67 hA68 y70 ey71 wq72 ewq73 pz69_0 pz69_1 => ⟨rfl, ?_⟩))
      have r74 : (0 : Int) ≤ y70 ∧ y70 ≤ 100000000 := rngE (show (0 : Int) ≤ F65 6 37 ∧ F65 6 37 ≤ 100000000 from H.frng 6 37) (show F65 6 37 = y70 from (ey71))
      refine Ew_of (pcₚ := 60) (fun _ => x_aload_n rfl (rk_o (rfl) rfl rfl)) ?_
      refine Ew_of (pcₚ := 61) (fun _ => x_iload_n rfl rk_s) ?_
      refine Ew_of (pcₚ := 64) (fun _ => x_sipush (z := 32512) rfl (by decide)) ?_
      refine w_isub rfl ?_
      refine w_i2l rfl (show inr ((u6_28 - 32512)) from q_2746 b64 hs8) ?_
      refine Ew_of (pcₚ := 67) (fun _ => x_iconst rfl) ?_
      refine w_inv H (o := 6) rfl rfl rfl (H.perm 6 rfl) rfl rfl (by rfl) (M393 H (y70) ((ey71)) (wq72) (ewq73) (show inrJ ((u6_28 - 32512)) from q_2749 b64 hs8) (show inr (2) from q_122) (show 0 ≤ (2) ∧ (2) ≤ 8 from q_2748) (show 0 ≤ (y70) ∧ (y70) ≤ 90000000 from q_2747 h1 pz69_0 r74) (fun σ F75 A76 H hS77 hA78 y80 ey81 wq82 ewq83 pz79_0 pz79_1 => ⟨rfl, ?_⟩))
      have r84 : (0 : Int) ≤ y80 ∧ y80 ≤ 100000000 := rngE (show (0 : Int) ≤ F75 6 37 ∧ F75 6 37 ≤ 100000000 from H.frng 6 37) (show F75 6 37 = y80 from (ey81))
      have : QAP 65536 ((w70)) ((u6_37)) ((wq82)) ((y80)) (numB ((u6_28))) := by first | (rw [numB_1 (by omega)]; have h := pzMISS_1; rw [u8_id (by omega)] at h; exact h) | (rw [numB_2 (by omega)]; have h1 := pzMISS_1; have h2 := pzMISS_1; rw [u8_id (by omega)] at h1 h2; exact QAP_trans h1 h2) | (exfalso; omega)
      exact hc70  _ σ _ _  (rk_o (rfl) rfl rfl) (rk_s) H (SF_trans (SF_trans (SF_refl) hS67 (any_sub rfl)) hS77 (any_sub rfl)) (SA_trans (SA_trans (SA_refl) hA68 (any_subA rfl)) hA78 (any_subA rfl)) (y80) ((ey81)) (wq82) (ewq83) (show (u6_37) ≤ (y80) ∧ (y80) ≤ (u6_37) + 3 from q_912 pz69_0 pz79_0) (show QAP 65536 ((w70)) ((u6_37)) ((wq82)) ((y80)) (numB ((u6_28))) by assumption)
    · refine Ew_of (pcₚ := 28) (fun _ => x_aload_n rfl (rk_o (rfl) rfl rfl)) ?_
      refine Ew_of (pcₚ := 31) (fun _ => x_sipush (z := 128) rfl (by decide)) ?_
      refine Ew_of (pcₚ := 32) (fun _ => x_iload_n rfl rk_s) ?_
      refine Ew_of (pcₚ := 35) (fun _ => x_sipush (z := 256) rfl (by decide)) ?_
      refine w_idiv rfl (show inr (u6_28) ∧ 0 ≤ u6_28 from q_2750 b63 b64 r1) (show inr (256) ∧ 0 < 256 from q_457) ?_
      refine w_iadd rfl ?_
      refine w_inv H (o := 6) rfl rfl rfl (H.perm 6 rfl) rfl rfl (by rfl) (M392 H (u6_37) ((eu6_37)) (w70) (ew70) (show inr ((128 + (u6_28 / 256))) from q_2751 b63 b64) (show 0 ≤ (u6_37) ∧ (u6_37) ≤ 99999999 by omega) (fun σ F85 A86 H hS87 hA88 y90 ey91 wq92 ewq93 pz89_0 pz89_1 => ⟨rfl, ?_⟩))
      have r94 : (0 : Int) ≤ y90 ∧ y90 ≤ 100000000 := rngE (show (0 : Int) ≤ F85 6 37 ∧ F85 6 37 ≤ 100000000 from H.frng 6 37) (show F85 6 37 = y90 from (ey91))
      refine Ew_of (pcₚ := 41) (fun _ => x_aload_n rfl (rk_o (rfl) rfl rfl)) ?_
      refine Ew_of (pcₚ := 42) (fun _ => x_iload_n rfl rk_s) ?_
      refine Ew_of (pcₚ := 45) (fun _ => x_sipush (z := 256) rfl (by decide)) ?_
      refine w_irem rfl (show inr (u6_28) ∧ 0 ≤ u6_28 from q_2750 b63 b64 r1) (show inr (256) ∧ 0 < 256 from q_457) ?_
      refine w_inv H (o := 6) rfl rfl rfl (H.perm 6 rfl) rfl rfl (by rfl) (M392 H (y90) ((ey91)) (wq92) (ewq93) (show inr ((u6_28 % 256)) from q_461) (show 0 ≤ (y90) ∧ (y90) ≤ 99999999 by omega) (fun σ F95 A96 H hS97 hA98 y100 ey101 wq102 ewq103 pz99_0 pz99_1 => ⟨rfl, ?_⟩))
      have r104 : (0 : Int) ≤ y100 ∧ y100 ≤ 100000000 := rngE (show (0 : Int) ≤ F95 6 37 ∧ F95 6 37 ≤ 100000000 from H.frng 6 37) (show F95 6 37 = y100 from (ey101))
      refine Ew_of (pcₚ := 70) (fun _ => x_goto rfl rfl) ?_
      have : QAP 65536 ((w70)) ((u6_37)) ((wq102)) ((y100)) (numB ((u6_28))) := by first | (rw [numB_1 (by omega)]; have h := pzMISS_1; rw [u8_id (by omega)] at h; exact h) | (rw [numB_2 (by omega)]; have h1 := pz89_1; have h2 := pz99_1; rw [u8_id (by omega)] at h1 h2; exact QAP_trans h1 h2) | (exfalso; omega)
      exact hc70  _ σ _ _  (rk_o (rfl) rfl rfl) (rk_s) H (SF_trans (SF_trans (SF_refl) hS87 (any_sub rfl)) hS97 (any_sub rfl)) (SA_trans (SA_trans (SA_refl) hA88 (any_subA rfl)) hA98 (any_subA rfl)) (y100) ((ey101)) (wq102) (ewq103) (show (u6_37) ≤ (y100) ∧ (y100) ≤ (u6_37) + 3 from q_916 pz89_0 pz99_0) (show QAP 65536 ((w70)) ((u6_37)) ((wq102)) ((y100)) (numB ((u6_28))) by assumption)
  · refine Ew_of (pcₚ := 13) (fun _ => x_aload_n rfl (rk_o (rfl) rfl rfl)) ?_
    refine Ew_of (pcₚ := 14) (fun _ => x_iload_n rfl rk_s) ?_
    refine w_inv H (o := 6) rfl rfl rfl (H.perm 6 rfl) rfl rfl (by rfl) (M392 H (u6_37) ((eu6_37)) (w70) (ew70) (show inr (u6_28) from q_2752 b63 r1) (show 0 ≤ (u6_37) ∧ (u6_37) ≤ 99999999 by omega) (fun σ F105 A106 H hS107 hA108 y110 ey111 wq112 ewq113 pz109_0 pz109_1 => ⟨rfl, ?_⟩))
    have r114 : (0 : Int) ≤ y110 ∧ y110 ≤ 100000000 := rngE (show (0 : Int) ≤ F105 6 37 ∧ F105 6 37 ≤ 100000000 from H.frng 6 37) (show F105 6 37 = y110 from (ey111))
    refine Ew_of (pcₚ := 70) (fun _ => x_goto rfl rfl) ?_
    have : QAP 65536 ((w70)) ((u6_37)) ((wq112)) ((y110)) (numB ((u6_28))) := by first | (rw [numB_1 (by omega)]; have h := pz109_1; rw [u8_id (by omega)] at h; exact h) | (rw [numB_2 (by omega)]; have h1 := pz89_1; have h2 := pz99_1; rw [u8_id (by omega)] at h1 h2; exact QAP_trans h1 h2) | (exfalso; omega)
    exact hc70  _ σ _ _  (rk_o (rfl) rfl rfl) (rk_s) H (SF_trans (SF_refl) hS107 (any_sub rfl)) (SA_trans (SA_refl) hA108 (any_subA rfl)) (y110) ((ey111)) (wq112) (ewq113) (show (u6_37) ≤ (y110) ∧ (y110) ≤ (u6_37) + 3 from q_2753 pz109_0) (show QAP 65536 ((w70)) ((u6_37)) ((wq112)) ((y110)) (numB ((u6_28))) by assumption)


end
section
/-! 92f.ref -/
theorem M392g {σ0 σ : rS} {D N : Nat → Nat} {F : hF} {A : hA} {d c s : Nat} {Q : wQ} (H : HS σ0 σ D N F A) {a1 : Int} (u6_37 : Int) (eu6_37 : F 6 37 = u6_37) (w70 : Int → Int) (ew70 : A 70 = w70) (h0 : inr (a1)) (h1 : 0 ≤ (u6_37) ∧ (u6_37) ≤ 99999999) (k : ∀ σ Fₚ Aₚ, HS σ0 σ D N Fₚ Aₚ → SF [(6, 37)] F Fₚ → SA [70] A Aₚ → ∀ y6_37 : Int, Fₚ 6 37 = y6_37 → ∀ v70 : Int → Int, Aₚ 70 = v70 → ((y6_37) = (u6_37) + 1) → (QAP 65536 ((w70)) ((u6_37)) ((v70)) ((y6_37)) ([u8 ((a1))])) → (FRM ((w70)) ((v70)) ((u6_37)) ((u6_37) + 1)) → Q none σ c s) : Ew 392 (d + 0) 0 (rargs 0 [.ref (D 6), I a1]) [] σ c s Q := by
  have r1 : (0 : Int) ≤ u6_37 ∧ u6_37 ≤ 100000000 := rngE (show (0 : Int) ≤ F 6 37 ∧ F 6 37 ≤ 100000000 from H.frng 6 37) (show F 6 37 = u6_37 from (eu6_37))
  refine Ew_of (pcₚ := 1) (fun _ => x_aload_n rfl rfl) ?_
  refine w_gI H (o := 6) (w := u6_37) rfl (H.perm 6 rfl) rfl rfl rfl (fun _ => rfl) (eu6_37) ?_
  refine Ew_of (pcₚ := 6) (fun _ => x_ldc (z := 65536) rfl (by decide)) ?_
  refine w_icmpge (t := 23) rfl rfl (show inr (u6_37) from q_1984 r1) (show inr (65536) from q_52) (fun b2 => ?_) (fun b2 => ?_)
  · refine Ew_of (pcₚ := 24) (fun _ => x_aload_n rfl rfl) ?_
    refine Ew_of (pcₚ := 25) (fun _ => x_dup rfl rfl) ?_
    refine w_gI H (o := 6) (w := u6_37) rfl (H.perm 6 rfl) rfl rfl rfl (fun _ => rfl) (eu6_37) ?_
    refine Ew_of (pcₚ := 29) (fun _ => x_iconst rfl) ?_
    refine w_iadd rfl ?_
    refine w_pI H (o := 6) rfl rfl (H.perm 6 rfl) rfl rfl rfl (fun _ => rfl) rfl (show (0 : Int) ≤ (u6_37 + 1) ∧ (u6_37 + 1) ≤ 100000000 from q_2001 b2 h1) (fun σ H => ?_)
    have : QAP 65536 ((w70)) ((u6_37)) ((w70)) (((u6_37 + 1))) ([u8 ((a1))]) := by first | exact QAP_iu (by omega) (hqa2 trivial) rfl | exact QAP_out (by omega) rfl
    have : FRM ((w70)) ((w70)) ((u6_37)) ((u6_37) + 1) := by first | exact fun k h => upd1_o (by omega) | exact fun _ _ => rfl
    exact w_ret rfl (k σ _ _ H (SF_upd (SF_refl) rfl) (SA_refl) ((u6_37 + 1)) (rfl) (w70) (ew70) (show ((u6_37 + 1)) = (u6_37) + 1 from q_308) (show QAP 65536 ((w70)) ((u6_37)) ((w70)) (((u6_37 + 1))) ([u8 (a1)]) by assumption) (show FRM ((w70)) ((w70)) ((u6_37)) ((u6_37) + 1) by assumption))
  · refine Ew_of (pcₚ := 10) (fun _ => x_aload_n rfl rfl) ?_
    refine w_gT H (o := 6) (t := 70) rfl (H.perm 6 rfl) rfl rfl rfl rfl rfl rfl ?_
    refine Ew_of (pcₚ := 14) (fun _ => x_aload_n rfl rfl) ?_
    refine w_gI H (o := 6) (w := u6_37) rfl (H.perm 6 rfl) rfl rfl rfl (fun _ => rfl) (eu6_37) ?_
    refine Ew_of (pcₚ := 18) (fun _ => x_iload_n rfl rfl) ?_
    refine Ew_of (pcₚ := 21) (fun _ => x_sipush (z := 255) rfl (by decide)) ?_
    refine w_iandG rfl ?_
    have g3 : inr (andI (a1) (255)) := toI_inr _
    obtain ⟨qa, hqa⟩ : ∃ q : Int, q = ((andI (a1) (255))) := ⟨_, rfl⟩
    rw [← hqa]
    have gqa : inr qa := by rw [hqa]; first | assumption | omega
    replace hqa : IMP True (qa = ((andI (a1) (255)))) := fun _ => hqa
    try clear g3
    have hqa2 : qa = u8 ((a1)) := (hqa trivial).trans (andI_255 ((a1)))
    have hqr := u8_rng ((a1))
    rw [← hqa2] at hqr
    replace hqa2 : IMP True (qa = u8 ((a1))) := fun _ => hqa2
    refine w_sI H (o := 70) (n := 65536) rfl (H.perm 70 rfl) rfl rfl (H.fix 70 rfl rfl) (show 0 ≤ u6_37 ∧ u6_37 < ((65536 : Nat) : Int) from q_2002 b2 r1) (by decide) (show (0 : Int) ≤ qa ∧ qa ≤ 255 by omega) (fun σ H => ?_)
    refine Ew_of (pcₚ := 24) (fun _ => x_aload_n rfl rfl) ?_
    refine Ew_of (pcₚ := 25) (fun _ => x_dup rfl rfl) ?_
    refine w_gI H (o := 6) (w := u6_37) rfl (H.perm 6 rfl) rfl rfl rfl (fun _ => rfl) (eu6_37) ?_
    refine Ew_of (pcₚ := 29) (fun _ => x_iconst rfl) ?_
    refine w_iadd rfl ?_
    refine w_pI H (o := 6) rfl rfl (H.perm 6 rfl) rfl rfl rfl (fun _ => rfl) rfl (show (0 : Int) ≤ (u6_37 + 1) ∧ (u6_37 + 1) ≤ 100000000 from q_2003 b2 r1) (fun σ H => ?_)
    have : QAP 65536 ((w70)) ((u6_37)) ((upd1 (w70) (u6_37) (qa))) (((u6_37 + 1))) ([u8 ((a1))]) := by first | exact QAP_iu (by omega) (hqa2 trivial) rfl | exact QAP_out (by omega) rfl
    have : FRM ((w70)) ((upd1 (w70) (u6_37) (qa))) ((u6_37)) ((u6_37) + 1) := by first | exact fun k h => upd1_o (by omega) | exact fun _ _ => rfl
    exact w_ret rfl (k σ _ _ H (SF_upd (SF_refl) rfl) (SA_upd (SA_refl) rfl) ((u6_37 + 1)) (rfl) (upd1 (w70) (u6_37) (qa)) (congrArg (fun q => upd1 q (u6_37) (qa)) (ew70)) (show ((u6_37 + 1)) = (u6_37) + 1 from q_308) (show QAP 65536 ((w70)) ((u6_37)) ((upd1 (w70) (u6_37) (qa))) (((u6_37 + 1))) ([u8 (a1)]) by assumption) (show FRM ((w70)) ((upd1 (w70) (u6_37) (qa))) ((u6_37)) ((u6_37) + 1) by assumption))

theorem M393g {σ0 σ : rS} {D N : Nat → Nat} {F : hF} {A : hA} {d c s : Nat} {Q : wQ} (H : HS σ0 σ D N F A) {a1 a2 : Int} (u6_37 : Int) (eu6_37 : F 6 37 = u6_37) (w70 : Int → Int) (ew70 : A 70 = w70) (h0 : inrJ (a1)) (h1 : inr (a2)) (h2 : 0 ≤ (a2) ∧ (a2) ≤ 8) (h3 : 0 ≤ (u6_37) ∧ (u6_37) ≤ 90000000) (k : ∀ σ Fₚ Aₚ, HS σ0 σ D N Fₚ Aₚ → SF [(6, 37)] F Fₚ → SA [70] A Aₚ → ∀ y6_37 : Int, Fₚ 6 37 = y6_37 → ∀ v70 : Int → Int, Aₚ 70 = v70 → ((y6_37) = (u6_37) + (a2)) → (QAP 65536 ((w70)) ((u6_37)) ((v70)) ((y6_37)) (nb ((a1)) ((a2)))) → (FRM ((w70)) ((v70)) ((u6_37)) ((u6_37) + (a2))) → Q none σ c s) : Ew 393 (d + 1) 0 (rargs 0 [.ref (D 6), J a1, I a2]) [] σ c s Q := by
  have r1 : (0 : Int) ≤ u6_37 ∧ u6_37 ≤ 100000000 := rngE (show (0 : Int) ≤ F 6 37 ∧ F 6 37 ≤ 100000000 from H.frng 6 37) (show F 6 37 = u6_37 from (eu6_37))
  refine Ew_of (pcₚ := 1) (fun _ => x_iconst rfl) ?_
  refine Ew_of (pcₚ := 3) (fun _ => x_istore rfl) ?_
  have : QAP 65536 ((w70)) ((u6_37)) ((w70)) ((u6_37)) (nb ((a1)) 0) := QAP_refl
  have : FRM ((w70)) ((w70)) ((u6_37)) ((u6_37) + 0) := fun _ _ => rfl
  suffices hl3 : ∀ (m : Nat), ∀ (ls : rO) (σ : rS) (F_3 : hF) (A_3 : hA) (x3_4 : Int), rlook ls 0 = some (.ref (D 6)) → rlook ls 1 = some (J (a1)) → rlook ls 3 = some (I (a2)) → rlook ls 4 = some (I (x3_4)) → HS σ0 σ D N F_3 A_3 → SF [(6, 37)] F F_3 → SA [70] A A_3 → ∀ y3_6_37 : Int, F_3 6 37 = y3_6_37 → ∀ w3_70 : Int → Int, A_3 70 = w3_70 → (inr (x3_4)) → ((0) ≤ (x3_4)) → ((x3_4) ≤ (0) ∨ (x3_4) ≤ ((a2))) → ((y3_6_37) = (u6_37) + (x3_4)) → (QAP 65536 ((w70)) ((u6_37)) ((w3_70)) ((y3_6_37)) (nb ((a1)) ((x3_4)))) → (FRM ((w70)) ((w3_70)) ((u6_37)) ((u6_37) + (x3_4))) → (((a2)) - (x3_4)).toNat = m → Ew 393 (d + 1) 3 ls [] σ c s Q from
    hl3 _ _ σ _ _ (0) (rk_o (rfl) rfl rfl) (rk_o (rfl) rfl rfl) (rk_o (rfl) rfl rfl) (rk_s) H (SF_refl) (SA_refl) (u6_37) ((eu6_37)) (w70) (ew70) (show inr (0) from q_2) (show (0) ≤ (0) from q_1) (show (0) ≤ (0) ∨ (0) ≤ ((a2)) from q_5) (show (u6_37) = (u6_37) + (0) from q_365) (show QAP 65536 ((w70)) ((u6_37)) ((w70)) ((u6_37)) (nb ((a1)) ((0))) by assumption) (show FRM ((w70)) ((w70)) ((u6_37)) ((u6_37) + (0)) by assumption) rfl
  as_aux_lemma =>
  intro m
  induction m using Nat.strongRecOn with
  | _ m ih3 =>
    intro ls σ F_3 A_3 x3_4 l3_0 l3_1 l3_3 l3_4 H hS_3 hA_3 y3_6_37 ey3_6_37 w3_70 ew3_70 j3_0 j3_1 j3_2 j3_3 j3_4 j3_5 hm3
    have r2 : (0 : Int) ≤ y3_6_37 ∧ y3_6_37 ≤ 100000000 := rngE (show (0 : Int) ≤ F_3 6 37 ∧ F_3 6 37 ≤ 100000000 from H.frng 6 37) (show F_3 6 37 = y3_6_37 from (ey3_6_37))
    have j3_q : QAP 65536 ((w70)) ((u6_37)) ((w3_70)) ((y3_6_37)) (nb ((a1)) ((x3_4))) := j3_4
    have j3_f : FRM ((w70)) ((w3_70)) ((u6_37)) ((u6_37) + (x3_4)) := j3_5
    obtain ⟨ql4, hql4⟩ : ∃ q : Int, q = (x3_4) := ⟨_, rfl⟩
    refine Ew_of (pcₚ := 5) (fun _ => x_iload rfl l3_4) ?_
    refine Ew_of (pcₚ := 6) (fun _ => x_iload_n rfl l3_3) ?_
    refine w_icmpge (t := 31) rfl rfl (show inr (x3_4) from j3_0) (show inr (a2) from h1) (fun b3 => ?_) (fun b3 => ?_)
    · have : QAP 65536 ((w70)) ((u6_37)) ((w3_70)) ((y3_6_37)) (nb ((a1)) ((a2))) := by rw [show (a2) = (x3_4) by omega]; exact j3_q
      have : FRM ((w70)) ((w3_70)) ((u6_37)) ((u6_37) + (a2)) := fun k h => j3_f k (by omega)
      exact w_ret rfl (k σ _ _ H (SF_trans (SF_refl) hS_3 (any_sub rfl)) (SA_trans (SA_refl) hA_3 (any_subA rfl)) (y3_6_37) ((ey3_6_37)) (w3_70) (ew3_70) (show (y3_6_37) = (u6_37) + a2 from q_505 b3 h2 j3_2 j3_3) (show QAP 65536 ((w70)) ((u6_37)) ((w3_70)) ((y3_6_37)) (nb (a1) (a2)) by assumption) (show FRM ((w70)) ((w3_70)) ((u6_37)) ((u6_37) + a2) by assumption))
    · refine Ew_of (pcₚ := 10) (fun _ => x_aload_n rfl l3_0) ?_
      refine Ew_of (pcₚ := 11) (fun _ => x_lload_n rfl l3_1) ?_
      refine Ew_of (pcₚ := 13) (fun _ => x_bipush (z := 8) rfl (by decide)) ?_
      refine Ew_of (pcₚ := 15) (fun _ => x_iload rfl l3_4) ?_
      refine w_imul rfl ?_
      refine w_lshrE rfl ?_
      have g4 : inrJ (srJ (a1) ((8 * x3_4))) := toJ_inr _
      refine Ew_of (pcₚ := 20) (fun _ => x_ldc2 (z := 255) rfl (by decide)) ?_
      refine w_landE rfl ?_
      have g5 : inrJ (anJ ((srJ (a1) ((8 * x3_4)))) (255)) := toJ_inr _
      refine w_l2i rfl ?_
      have hby : ((anJ ((srJ (a1) ((8 * x3_4)))) (255))) = u8 ((a1) / p2 (8 * (x3_4))) := an_sr (by omega) (by omega)
      have hbr := u8_rng ((a1) / p2 (8 * (x3_4)))
      rw [← hby] at hbr
      refine w_inv H (o := 6) rfl rfl rfl (H.perm 6 rfl) rfl rfl (by rfl) (M392g H (y3_6_37) ((ey3_6_37)) (w3_70) (ew3_70) (show inr ((anJ ((srJ (a1) ((8 * x3_4)))) (255))) by omega) (show 0 ≤ (y3_6_37) ∧ (y3_6_37) ≤ 99999999 by omega) (fun σ F6 A7 H hS8 hA9 y11 ey12 wq13 ewq14 pz10_0 pz10_1 pz10_2 => ⟨rfl, ?_⟩))
      have r15 : (0 : Int) ≤ y11 ∧ y11 ≤ 100000000 := rngE (show (0 : Int) ≤ F6 6 37 ∧ F6 6 37 ≤ 100000000 from H.frng 6 37) (show F6 6 37 = y11 from (ey12))
      have hmk := pz10_1
      rw [u8_id hbr, hby] at hmk
      have hf25 := pz10_2
      refine Ew_of (pcₚ := 28) (fun _ => x_iinc (len := 3) rfl (l3_4)) ?_
      refine Ew_of (pcₚ := 3) (fun _ => x_goto rfl rfl) ?_
      have : QAP 65536 ((w70)) ((u6_37)) ((wq13)) ((y11)) (nb ((a1)) (((x3_4 + 1)))) := by rw [nb_s (by omega) rfl]; exact QAP_trans j3_q hmk
      have : FRM ((w70)) ((wq13)) ((u6_37)) ((u6_37) + ((x3_4 + 1))) := fun k h => (hf25 k (by omega)).trans (j3_f k (by omega))
      exact ih3 _ (msE hm3 q_16 (q_17 b3)) _ σ _ _ ((x3_4 + 1)) (rk_o (l3_0) rfl rfl) (rk_o (l3_1) rfl rfl) (rk_o (l3_3) rfl rfl) (rk_s) H (SF_trans (hS_3) hS8 (any_sub rfl)) (SA_trans (hA_3) hA9 (any_subA rfl)) (y11) ((ey12)) (wq13) (ewq14) (show inr ((x3_4 + 1)) from q_507 b3 h2 j3_1) (show (0) ≤ ((x3_4 + 1)) from q_14 j3_1) (show ((x3_4 + 1)) ≤ (0) ∨ ((x3_4 + 1)) ≤ ((a2)) from q_13 b3) (show (y11) = (u6_37) + ((x3_4 + 1)) from q_368 j3_3 pz10_0) (show QAP 65536 ((w70)) ((u6_37)) ((wq13)) ((y11)) (nb ((a1)) (((x3_4 + 1)))) by assumption) (show FRM ((w70)) ((wq13)) ((u6_37)) ((u6_37) + ((x3_4 + 1))) by assumption) rfl

theorem M445f {σ0 σ : rS} {D N : Nat → Nat} {F : hF} {A : hA} {d c s : Nat} {Q : wQ} (H : HS σ0 σ D N F A)  (u6_12 : Int) (eu6_12 : F 6 12 = u6_12) (w53 : Int → Int) (ew53 : A 53 = w53) (w54 : Int → Int) (ew54 : A 54 = w54) (w55 : Int → Int) (ew55 : A 55 = w55) (w56 : Int → Int) (ew56 : A 56 = w56) (h0 : WC ((u6_12)) ((w53))) (h1 : WO ((w54)) ((w55))) (k : ∀ σ Fₚ Aₚ, HS σ0 σ D N Fₚ Aₚ → SF [(6, 17)] F Fₚ → SA [57, 58, 59, 60] A Aₚ → ∀ y6_17 : Int, Fₚ 6 17 = y6_17 → ∀ v57 : Int → Int, Aₚ 57 = v57 → ∀ v58 : Int → Int, Aₚ 58 = v58 → ∀ v59 : Int → Int, Aₚ 59 = v59 → ∀ v60 : Int → Int, Aₚ 60 = v60 → (WC ((y6_17)) ((v57))) → (WO ((v58)) ((v59))) → (∀ i, 0 ≤ i → i < 256 → ((v57)) i = ((w53)) i) → (∀ i, 0 ≤ i → i < 192 → ((v58)) i = ((w54)) i) → (∀ i, 0 ≤ i → i < 3 → ((v59)) i = ((w55)) i) → (∀ i, 0 ≤ i → i < 3 → ((v60)) i = ((w56)) i) → ((y6_17) = (u6_12)) → Q none σ c s) : Ew 445 (d + 0) 0 (rargs 0 [.ref (D 6)]) [] σ c s Q := by
  have r1 : (0 : Int) ≤ u6_12 ∧ u6_12 ≤ 11 := rngE (show (0 : Int) ≤ F 6 12 ∧ F 6 12 ≤ 11 from H.frng 6 12) (show F 6 12 = u6_12 from (eu6_12))
  refine Ew_of (pcₚ := 1) (fun _ => x_iconst rfl) ?_
  refine Ew_of (pcₚ := 2) (fun _ => x_istore_n rfl) ?_
  have : ∀ i, (0 : Int) ≤ i → i < 0 → ((A 57)) i = ((w53)) i := fun i a b => absurd b (by omega)
  suffices hl2 : ∀ (m : Nat), ∀ (ls : rO) (σ : rS) (F_2 : hF) (A_2 : hA) (x2_1 : Int), rlook ls 0 = some (.ref (D 6)) → rlook ls 1 = some (I (x2_1)) → HS σ0 σ D N F_2 A_2 → SF [] F F_2 → SA [57] A A_2 → ∀ w2_57 : Int → Int, A_2 57 = w2_57 → (inr (x2_1)) → ((0) ≤ (x2_1)) → ((x2_1) ≤ (0) ∨ (x2_1) ≤ ((256))) → (∀ i, 0 ≤ i → i < (x2_1) → ((w2_57)) i = ((w53)) i) → (((256)) - (x2_1)).toNat = m → Ew 445 (d + 0) 2 ls [] σ c s Q from
    hl2 _ _ σ _ _ (0) (rk_o (rfl) rfl rfl) (rk_s) H (SF_refl) (SA_refl)  (A 57) (rfl) (show inr (0) from q_2) (show (0) ≤ (0) from q_1) (show (0) ≤ (0) ∨ (0) ≤ ((256)) from q_0) (show ∀ i, 0 ≤ i → i < (0) → ((A 57)) i = ((w53)) i by assumption) rfl
  as_aux_lemma =>
  intro m
  induction m using Nat.strongRecOn with
  | _ m ih2 =>
    intro ls σ F_2 A_2 x2_1 l2_0 l2_1 H hS_2 hA_2  w2_57 ew2_57 j2_0 j2_1 j2_2 j2_3 hm2
    refine Ew_of (pcₚ := 3) (fun _ => x_iload_n rfl l2_1) ?_
    refine Ew_of (pcₚ := 6) (fun _ => x_sipush (z := 256) rfl (by decide)) ?_
    refine w_icmpge (t := 27) rfl rfl (show inr (x2_1) from j2_0) (show inr (256) from q_3) (fun b2 => ?_) (fun b2 => ?_)
    · refine Ew_of (pcₚ := 28) (fun _ => x_aload_n rfl l2_0) ?_
      refine Ew_of (pcₚ := 29) (fun _ => x_aload_n rfl l2_0) ?_
      refine w_gI H (o := 6) (w := u6_12) rfl (H.perm 6 rfl) rfl rfl rfl (fun _ => rfl) ((hS_2 6 12 rfl).trans (eu6_12)) ?_
      refine w_pI H (o := 6) rfl rfl (H.perm 6 rfl) rfl rfl rfl (fun _ => rfl) rfl (show (0 : Int) ≤ u6_12 ∧ u6_12 ≤ 11 from r1) (fun σ H => ?_)
      refine Ew_of (pcₚ := 36) (fun _ => x_iconst rfl) ?_
      refine Ew_of (pcₚ := 37) (fun _ => x_istore_n rfl) ?_
      have : ∀ i, (0 : Int) ≤ i → i < 0 → ((A 58)) i = ((w54)) i := fun i a b => absurd b (by omega)
      suffices hl37 : ∀ (m : Nat), ∀ (ls : rO) (σ : rS) (F_37 : hF) (A_37 : hA) (x37_1 : Int), rlook ls 0 = some (.ref (D 6)) → rlook ls 1 = some (I (x37_1)) → HS σ0 σ D N F_37 A_37 → SF [] (updF F_2 6 17 (u6_12)) F_37 → SA [58] A_2 A_37 → ∀ w37_58 : Int → Int, A_37 58 = w37_58 → (inr (x37_1)) → ((0) ≤ (x37_1)) → ((x37_1) ≤ (0) ∨ (x37_1) ≤ ((192))) → (∀ i, 0 ≤ i → i < (x37_1) → ((w37_58)) i = ((w54)) i) → (((192)) - (x37_1)).toNat = m → Ew 445 (d + 0) 37 ls [] σ c s Q from
        hl37 _ _ σ _ _ (0) (rk_o (l2_0) rfl rfl) (rk_s) H (SF_refl) (SA_refl)  (A 58) (funext (hA_2 58 rfl)) (show inr (0) from q_2) (show (0) ≤ (0) from q_1) (show (0) ≤ (0) ∨ (0) ≤ ((192)) from q_1795) (show ∀ i, 0 ≤ i → i < (0) → ((A 58)) i = ((w54)) i by assumption) rfl
      as_aux_lemma =>
      intro m
      induction m using Nat.strongRecOn with
      | _ m ih37 =>
        intro ls σ F_37 A_37 x37_1 l37_0 l37_1 H hS_37 hA_37  w37_58 ew37_58 j37_0 j37_1 j37_2 j37_3 hm37
        refine Ew_of (pcₚ := 38) (fun _ => x_iload_n rfl l37_1) ?_
        refine Ew_of (pcₚ := 41) (fun _ => x_sipush (z := 192) rfl (by decide)) ?_
        refine w_icmpge (t := 62) rfl rfl (show inr (x37_1) from j37_0) (show inr (192) from q_1796) (fun b3 => ?_) (fun b3 => ?_)
        · refine Ew_of (pcₚ := 63) (fun _ => x_iconst rfl) ?_
          refine Ew_of (pcₚ := 64) (fun _ => x_istore_n rfl) ?_
          have : ∀ i, (0 : Int) ≤ i → i < 0 → ((A 59)) i = ((w55)) i := fun i a b => absurd b (by omega)
          have : ∀ i, (0 : Int) ≤ i → i < 0 → ((A 60)) i = ((w56)) i := fun i a b => absurd b (by omega)
          suffices hl64 : ∀ (m : Nat), ∀ (ls : rO) (σ : rS) (F_64 : hF) (A_64 : hA) (x64_1 : Int), rlook ls 0 = some (.ref (D 6)) → rlook ls 1 = some (I (x64_1)) → HS σ0 σ D N F_64 A_64 → SF [] F_37 F_64 → SA [59, 60] A_37 A_64 → ∀ w64_59 : Int → Int, A_64 59 = w64_59 → ∀ w64_60 : Int → Int, A_64 60 = w64_60 → (inr (x64_1)) → ((0) ≤ (x64_1)) → ((x64_1) ≤ (0) ∨ (x64_1) ≤ (3)) → (∀ i, 0 ≤ i → i < (x64_1) → ((w64_59)) i = ((w55)) i) → (∀ i, 0 ≤ i → i < (x64_1) → ((w64_60)) i = ((w56)) i) → ((3) - (x64_1)).toNat = m → Ew 445 (d + 0) 64 ls [] σ c s Q from
            hl64 _ _ σ _ _ (0) (rk_o (l37_0) rfl rfl) (rk_s) H (SF_refl) (SA_refl)  (A 59) ((funext (hA_37 59 rfl)).trans (funext (hA_2 59 rfl))) (A 60) ((funext (hA_37 60 rfl)).trans (funext (hA_2 60 rfl))) (show inr (0) from q_2) (show (0) ≤ (0) from q_1) (show (0) ≤ (0) ∨ (0) ≤ (3) from q_1793) (show ∀ i, 0 ≤ i → i < (0) → ((A 59)) i = ((w55)) i by assumption) (show ∀ i, 0 ≤ i → i < (0) → ((A 60)) i = ((w56)) i by assumption) rfl
          as_aux_lemma =>
          intro m
          induction m using Nat.strongRecOn with
          | _ m ih64 =>
            intro ls σ F_64 A_64 x64_1 l64_0 l64_1 H hS_64 hA_64  w64_59 ew64_59 w64_60 ew64_60 j64_0 j64_1 j64_2 j64_3 j64_4 hm64
            refine Ew_of (pcₚ := 65) (fun _ => x_iload_n rfl l64_1) ?_
            refine Ew_of (pcₚ := 66) (fun _ => x_iconst rfl) ?_
            refine w_icmpge (t := 99) rfl rfl (show inr (x64_1) from j64_0) (show inr (3) from q_246) (fun b4 => ?_) (fun b4 => ?_)
            · have : WC ((u6_12)) ((w2_57)) := WC_congr (h0) (by omega) (fun i a b => j2_3 i a (by omega))
              have : WO ((w37_58)) ((w64_59)) := WO_congr (h1) (fun i a b => j37_3 i a (by omega)) (fun i a b => j64_3 i a (by omega))
              have : ∀ i, 0 ≤ i → i < 256 → ((w2_57)) i = ((w53)) i := fun i a b => j2_3 i a (by omega)
              have : ∀ i, 0 ≤ i → i < 192 → ((w37_58)) i = ((w54)) i := fun i a b => j37_3 i a (by omega)
              have : ∀ i, 0 ≤ i → i < 3 → ((w64_59)) i = ((w55)) i := fun i a b => j64_3 i a (by omega)
              have : ∀ i, 0 ≤ i → i < 3 → ((w64_60)) i = ((w56)) i := fun i a b => j64_4 i a (by omega)
              exact w_ret rfl (k σ _ _ H (SF_trans (SF_trans (SF_upd (SF_trans (SF_refl) hS_2 (any_sub rfl)) rfl) hS_37 (any_sub rfl)) hS_64 (any_sub rfl)) (SA_trans (SA_trans (SA_trans (SA_refl) hA_2 (any_subA rfl)) hA_37 (any_subA rfl)) hA_64 (any_subA rfl)) (u6_12) (((hS_64 6 17 rfl).trans (hS_37 6 17 rfl))) (w2_57) ((funext (hA_64 57 rfl)).trans ((funext (hA_37 57 rfl)).trans (ew2_57))) (w37_58) ((funext (hA_64 58 rfl)).trans (ew37_58)) (w64_59) (ew64_59) (w64_60) (ew64_60) (show WC ((u6_12)) ((w2_57)) by assumption) (show WO ((w37_58)) ((w64_59)) by assumption) (show ∀ i, 0 ≤ i → i < 256 → ((w2_57)) i = ((w53)) i by assumption) (show ∀ i, 0 ≤ i → i < 192 → ((w37_58)) i = ((w54)) i by assumption) (show ∀ i, 0 ≤ i → i < 3 → ((w64_59)) i = ((w55)) i by assumption) (show ∀ i, 0 ≤ i → i < 3 → ((w64_60)) i = ((w56)) i by assumption) (show (u6_12) = (u6_12) from q_303))
            · refine Ew_of (pcₚ := 70) (fun _ => x_aload_n rfl l64_0) ?_
              refine w_gT H (o := 6) (t := 59) rfl (H.perm 6 rfl) rfl rfl rfl rfl rfl rfl ?_
              refine Ew_of (pcₚ := 74) (fun _ => x_iload_n rfl l64_1) ?_
              refine Ew_of (pcₚ := 75) (fun _ => x_aload_n rfl l64_0) ?_
              refine w_gT H (o := 6) (t := 55) rfl (H.perm 6 rfl) rfl rfl rfl rfl rfl rfl ?_
              refine Ew_of (pcₚ := 79) (fun _ => x_iload_n rfl l64_1) ?_
              refine w_lI H (o := 55) (n := 3) rfl (H.perm 55 rfl) rfl rfl (H.fix 55 rfl rfl) (show 0 ≤ x64_1 ∧ x64_1 < ((3 : Nat) : Int) from q_1801 b4 j64_1) (by decide) (fun v5 ev5 qv5 => ?_)
              have qv5 : (-1 : Int) ≤ v5 ∧ v5 ≤ 9 := qv5
              have ev5 : (w55) (x64_1) = v5 := (congrFun ((funext (hA_64 55 rfl)).trans ((funext (hA_37 55 rfl)).trans ((funext (hA_2 55 rfl)).trans (ew55)))) (x64_1)).symm.trans ev5
              refine w_sI H (o := 59) (n := 3) rfl (H.perm 59 rfl) rfl rfl (H.fix 59 rfl rfl) (show 0 ≤ x64_1 ∧ x64_1 < ((3 : Nat) : Int) from q_1801 b4 j64_1) (by decide) (show (-1 : Int) ≤ v5 ∧ v5 ≤ 9 from qv5) (fun σ H => ?_)
              refine Ew_of (pcₚ := 82) (fun _ => x_aload_n rfl l64_0) ?_
              refine w_gT H (o := 6) (t := 60) rfl (H.perm 6 rfl) rfl rfl rfl rfl rfl rfl ?_
              refine Ew_of (pcₚ := 86) (fun _ => x_iload_n rfl l64_1) ?_
              refine Ew_of (pcₚ := 87) (fun _ => x_aload_n rfl l64_0) ?_
              refine w_gT H (o := 6) (t := 56) rfl (H.perm 6 rfl) rfl rfl rfl rfl rfl rfl ?_
              refine Ew_of (pcₚ := 91) (fun _ => x_iload_n rfl l64_1) ?_
              refine w_lI H (o := 56) (n := 3) rfl (H.perm 56 rfl) rfl rfl (H.fix 56 rfl rfl) (show 0 ≤ x64_1 ∧ x64_1 < ((3 : Nat) : Int) from q_1801 b4 j64_1) (by decide) (fun v6 ev6 qv6 => ?_)
              have qv6 : (-2147483648 : Int) ≤ v6 ∧ v6 ≤ 2147483647 := qv6
              have ev6 : (w56) (x64_1) = v6 := (congrFun ((funext (hA_64 56 rfl)).trans ((funext (hA_37 56 rfl)).trans ((funext (hA_2 56 rfl)).trans (ew56)))) (x64_1)).symm.trans ev6
              refine w_sI H (o := 60) (n := 3) rfl (H.perm 60 rfl) rfl rfl (H.fix 60 rfl rfl) (show 0 ≤ x64_1 ∧ x64_1 < ((3 : Nat) : Int) from q_1801 b4 j64_1) (by decide) (show (-2147483648 : Int) ≤ v6 ∧ v6 ≤ 2147483647 from qv6) (fun σ H => ?_)
              refine Ew_of (pcₚ := 96) (fun _ => x_iinc (len := 3) rfl (l64_1)) ?_
              refine Ew_of (pcₚ := 64) (fun _ => x_goto rfl rfl) ?_
              have : ∀ i, (0 : Int) ≤ i → i < ((x64_1 + 1)) → ((upd1 (w64_59) (x64_1) (v5))) i = ((w55)) i := pt_copy j64_3 (by omega)
              have : ∀ i, (0 : Int) ≤ i → i < ((x64_1 + 1)) → ((upd1 (w64_60) (x64_1) (v6))) i = ((w56)) i := pt_copy j64_4 (by omega)
              exact ih64 _ (msE hm64 q_813 (q_814 b4)) _ σ _ _ ((x64_1 + 1)) (rk_o (l64_0) rfl rfl) (rk_s) H (hS_64) (SA_upd (SA_upd (hA_64) rfl) rfl)  (upd1 (w64_59) (x64_1) (v5)) (congrArg (fun q => upd1 q (x64_1) (v5)) (ew64_59)) (upd1 (w64_60) (x64_1) (v6)) (congrArg (fun q => upd1 q (x64_1) (v6)) (ew64_60)) (show inr ((x64_1 + 1)) from q_1804 b4 j64_1) (show (0) ≤ ((x64_1 + 1)) from q_14 j64_1) (show ((x64_1 + 1)) ≤ (0) ∨ ((x64_1 + 1)) ≤ (3) from q_1803 b4) (show ∀ i, 0 ≤ i → i < ((x64_1 + 1)) → ((upd1 (w64_59) (x64_1) (v5))) i = ((w55)) i by assumption) (show ∀ i, 0 ≤ i → i < ((x64_1 + 1)) → ((upd1 (w64_60) (x64_1) (v6))) i = ((w56)) i by assumption) rfl
        · refine Ew_of (pcₚ := 45) (fun _ => x_aload_n rfl l37_0) ?_
          refine w_gT H (o := 6) (t := 58) rfl (H.perm 6 rfl) rfl rfl rfl rfl rfl rfl ?_
          refine Ew_of (pcₚ := 49) (fun _ => x_iload_n rfl l37_1) ?_
          refine Ew_of (pcₚ := 50) (fun _ => x_aload_n rfl l37_0) ?_
          refine w_gT H (o := 6) (t := 54) rfl (H.perm 6 rfl) rfl rfl rfl rfl rfl rfl ?_
          refine Ew_of (pcₚ := 54) (fun _ => x_iload_n rfl l37_1) ?_
          refine w_lI H (o := 54) (n := 192) rfl (H.perm 54 rfl) rfl rfl (H.fix 54 rfl rfl) (show 0 ≤ x37_1 ∧ x37_1 < ((192 : Nat) : Int) from q_1805 b3 j37_1) (by decide) (fun v7 ev7 qv7 => ?_)
          have qv7 : (-1 : Int) ≤ v7 ∧ v7 ≤ 512 := qv7
          have ev7 : (w54) (x37_1) = v7 := (congrFun ((funext (hA_37 54 rfl)).trans ((funext (hA_2 54 rfl)).trans (ew54))) (x37_1)).symm.trans ev7
          refine w_sI H (o := 58) (n := 192) rfl (H.perm 58 rfl) rfl rfl (H.fix 58 rfl rfl) (show 0 ≤ x37_1 ∧ x37_1 < ((192 : Nat) : Int) from q_1805 b3 j37_1) (by decide) (show (-1 : Int) ≤ v7 ∧ v7 ≤ 512 from qv7) (fun σ H => ?_)
          refine Ew_of (pcₚ := 59) (fun _ => x_iinc (len := 3) rfl (l37_1)) ?_
          refine Ew_of (pcₚ := 37) (fun _ => x_goto rfl rfl) ?_
          have : ∀ i, (0 : Int) ≤ i → i < ((x37_1 + 1)) → ((upd1 (w37_58) (x37_1) (v7))) i = ((w54)) i := pt_copy j37_3 (by omega)
          exact ih37 _ (msE hm37 q_1808 (q_1809 b3)) _ σ _ _ ((x37_1 + 1)) (rk_o (l37_0) rfl rfl) (rk_s) H (hS_37) (SA_upd (hA_37) rfl)  (upd1 (w37_58) (x37_1) (v7)) (congrArg (fun q => upd1 q (x37_1) (v7)) (ew37_58)) (show inr ((x37_1 + 1)) from q_1807 b3 j37_1) (show (0) ≤ ((x37_1 + 1)) from q_14 j37_1) (show ((x37_1 + 1)) ≤ (0) ∨ ((x37_1 + 1)) ≤ ((192)) from q_1806 b3) (show ∀ i, 0 ≤ i → i < ((x37_1 + 1)) → ((upd1 (w37_58) (x37_1) (v7))) i = ((w54)) i by assumption) rfl
    · refine Ew_of (pcₚ := 10) (fun _ => x_aload_n rfl l2_0) ?_
      refine w_gT H (o := 6) (t := 57) rfl (H.perm 6 rfl) rfl rfl rfl rfl rfl rfl ?_
      refine Ew_of (pcₚ := 14) (fun _ => x_iload_n rfl l2_1) ?_
      refine Ew_of (pcₚ := 15) (fun _ => x_aload_n rfl l2_0) ?_
      refine w_gT H (o := 6) (t := 53) rfl (H.perm 6 rfl) rfl rfl rfl rfl rfl rfl ?_
      refine Ew_of (pcₚ := 19) (fun _ => x_iload_n rfl l2_1) ?_
      refine w_lI H (o := 53) (n := 256) rfl (H.perm 53 rfl) rfl rfl (H.fix 53 rfl rfl) (show 0 ≤ x2_1 ∧ x2_1 < ((256 : Nat) : Int) from q_23 b2 j2_1) (by decide) (fun v8 ev8 qv8 => ?_)
      have qv8 : (0 : Int) ≤ v8 ∧ v8 ≤ 11 := qv8
      have ev8 : (w53) (x2_1) = v8 := (congrFun ((funext (hA_2 53 rfl)).trans (ew53)) (x2_1)).symm.trans ev8
      refine w_sI H (o := 57) (n := 256) rfl (H.perm 57 rfl) rfl rfl (H.fix 57 rfl rfl) (show 0 ≤ x2_1 ∧ x2_1 < ((256 : Nat) : Int) from q_23 b2 j2_1) (by decide) (show (0 : Int) ≤ v8 ∧ v8 ≤ 11 from qv8) (fun σ H => ?_)
      refine Ew_of (pcₚ := 24) (fun _ => x_iinc (len := 3) rfl (l2_1)) ?_
      refine Ew_of (pcₚ := 2) (fun _ => x_goto rfl rfl) ?_
      have : ∀ i, (0 : Int) ≤ i → i < ((x2_1 + 1)) → ((upd1 (w2_57) (x2_1) (v8))) i = ((w53)) i := pt_copy j2_3 (by omega)
      exact ih2 _ (msE hm2 q_26 (q_27 b2)) _ σ _ _ ((x2_1 + 1)) (rk_o (l2_0) rfl rfl) (rk_s) H (hS_2) (SA_upd (hA_2) rfl)  (upd1 (w2_57) (x2_1) (v8)) (congrArg (fun q => upd1 q (x2_1) (v8)) (ew2_57)) (show inr ((x2_1 + 1)) from q_25 b2 j2_1) (show (0) ≤ ((x2_1 + 1)) from q_14 j2_1) (show ((x2_1 + 1)) ≤ (0) ∨ ((x2_1 + 1)) ≤ ((256)) from q_24 b2) (show ∀ i, 0 ≤ i → i < ((x2_1 + 1)) → ((upd1 (w2_57) (x2_1) (v8))) i = ((w53)) i by assumption) rfl

theorem M446f {σ0 σ : rS} {D N : Nat → Nat} {F : hF} {A : hA} {d c s : Nat} {Q : wQ} (H : HS σ0 σ D N F A)  (u6_17 : Int) (eu6_17 : F 6 17 = u6_17) (w57 : Int → Int) (ew57 : A 57 = w57) (w58 : Int → Int) (ew58 : A 58 = w58) (w59 : Int → Int) (ew59 : A 59 = w59) (w60 : Int → Int) (ew60 : A 60 = w60) (h0 : WC ((u6_17)) ((w57))) (h1 : WO ((w58)) ((w59))) (k : ∀ σ Fₚ Aₚ, HS σ0 σ D N Fₚ Aₚ → SF [(6, 12)] F Fₚ → SA [53, 54, 55, 56] A Aₚ → ∀ y6_12 : Int, Fₚ 6 12 = y6_12 → ∀ v53 : Int → Int, Aₚ 53 = v53 → ∀ v54 : Int → Int, Aₚ 54 = v54 → ∀ v55 : Int → Int, Aₚ 55 = v55 → ∀ v56 : Int → Int, Aₚ 56 = v56 → (WC ((y6_12)) ((v53))) → (WO ((v54)) ((v55))) → (∀ i, 0 ≤ i → i < 256 → ((v53)) i = ((w57)) i) → (∀ i, 0 ≤ i → i < 192 → ((v54)) i = ((w58)) i) → (∀ i, 0 ≤ i → i < 3 → ((v55)) i = ((w59)) i) → (∀ i, 0 ≤ i → i < 3 → ((v56)) i = ((w60)) i) → ((y6_12) = (u6_17)) → Q none σ c s) : Ew 446 (d + 0) 0 (rargs 0 [.ref (D 6)]) [] σ c s Q := by
  have r1 : (0 : Int) ≤ u6_17 ∧ u6_17 ≤ 11 := rngE (show (0 : Int) ≤ F 6 17 ∧ F 6 17 ≤ 11 from H.frng 6 17) (show F 6 17 = u6_17 from (eu6_17))
  refine Ew_of (pcₚ := 1) (fun _ => x_iconst rfl) ?_
  refine Ew_of (pcₚ := 2) (fun _ => x_istore_n rfl) ?_
  have : ∀ i, (0 : Int) ≤ i → i < 0 → ((A 53)) i = ((w57)) i := fun i a b => absurd b (by omega)
  suffices hl2 : ∀ (m : Nat), ∀ (ls : rO) (σ : rS) (F_2 : hF) (A_2 : hA) (x2_1 : Int), rlook ls 0 = some (.ref (D 6)) → rlook ls 1 = some (I (x2_1)) → HS σ0 σ D N F_2 A_2 → SF [] F F_2 → SA [53] A A_2 → ∀ w2_53 : Int → Int, A_2 53 = w2_53 → (inr (x2_1)) → ((0) ≤ (x2_1)) → ((x2_1) ≤ (0) ∨ (x2_1) ≤ ((256))) → (∀ i, 0 ≤ i → i < (x2_1) → ((w2_53)) i = ((w57)) i) → (((256)) - (x2_1)).toNat = m → Ew 446 (d + 0) 2 ls [] σ c s Q from
    hl2 _ _ σ _ _ (0) (rk_o (rfl) rfl rfl) (rk_s) H (SF_refl) (SA_refl)  (A 53) (rfl) (show inr (0) from q_2) (show (0) ≤ (0) from q_1) (show (0) ≤ (0) ∨ (0) ≤ ((256)) from q_0) (show ∀ i, 0 ≤ i → i < (0) → ((A 53)) i = ((w57)) i by assumption) rfl
  as_aux_lemma =>
  intro m
  induction m using Nat.strongRecOn with
  | _ m ih2 =>
    intro ls σ F_2 A_2 x2_1 l2_0 l2_1 H hS_2 hA_2  w2_53 ew2_53 j2_0 j2_1 j2_2 j2_3 hm2
    refine Ew_of (pcₚ := 3) (fun _ => x_iload_n rfl l2_1) ?_
    refine Ew_of (pcₚ := 6) (fun _ => x_sipush (z := 256) rfl (by decide)) ?_
    refine w_icmpge (t := 27) rfl rfl (show inr (x2_1) from j2_0) (show inr (256) from q_3) (fun b2 => ?_) (fun b2 => ?_)
    · refine Ew_of (pcₚ := 28) (fun _ => x_aload_n rfl l2_0) ?_
      refine Ew_of (pcₚ := 29) (fun _ => x_aload_n rfl l2_0) ?_
      refine w_gI H (o := 6) (w := u6_17) rfl (H.perm 6 rfl) rfl rfl rfl (fun _ => rfl) ((hS_2 6 17 rfl).trans (eu6_17)) ?_
      refine w_pI H (o := 6) rfl rfl (H.perm 6 rfl) rfl rfl rfl (fun _ => rfl) rfl (show (0 : Int) ≤ u6_17 ∧ u6_17 ≤ 11 from r1) (fun σ H => ?_)
      refine Ew_of (pcₚ := 36) (fun _ => x_iconst rfl) ?_
      refine Ew_of (pcₚ := 37) (fun _ => x_istore_n rfl) ?_
      have : ∀ i, (0 : Int) ≤ i → i < 0 → ((A 54)) i = ((w58)) i := fun i a b => absurd b (by omega)
      suffices hl37 : ∀ (m : Nat), ∀ (ls : rO) (σ : rS) (F_37 : hF) (A_37 : hA) (x37_1 : Int), rlook ls 0 = some (.ref (D 6)) → rlook ls 1 = some (I (x37_1)) → HS σ0 σ D N F_37 A_37 → SF [] (updF F_2 6 12 (u6_17)) F_37 → SA [54] A_2 A_37 → ∀ w37_54 : Int → Int, A_37 54 = w37_54 → (inr (x37_1)) → ((0) ≤ (x37_1)) → ((x37_1) ≤ (0) ∨ (x37_1) ≤ ((192))) → (∀ i, 0 ≤ i → i < (x37_1) → ((w37_54)) i = ((w58)) i) → (((192)) - (x37_1)).toNat = m → Ew 446 (d + 0) 37 ls [] σ c s Q from
        hl37 _ _ σ _ _ (0) (rk_o (l2_0) rfl rfl) (rk_s) H (SF_refl) (SA_refl)  (A 54) (funext (hA_2 54 rfl)) (show inr (0) from q_2) (show (0) ≤ (0) from q_1) (show (0) ≤ (0) ∨ (0) ≤ ((192)) from q_1795) (show ∀ i, 0 ≤ i → i < (0) → ((A 54)) i = ((w58)) i by assumption) rfl
      as_aux_lemma =>
      intro m
      induction m using Nat.strongRecOn with
      | _ m ih37 =>
        intro ls σ F_37 A_37 x37_1 l37_0 l37_1 H hS_37 hA_37  w37_54 ew37_54 j37_0 j37_1 j37_2 j37_3 hm37
        refine Ew_of (pcₚ := 38) (fun _ => x_iload_n rfl l37_1) ?_
        refine Ew_of (pcₚ := 41) (fun _ => x_sipush (z := 192) rfl (by decide)) ?_
        refine w_icmpge (t := 62) rfl rfl (show inr (x37_1) from j37_0) (show inr (192) from q_1796) (fun b3 => ?_) (fun b3 => ?_)
        · refine Ew_of (pcₚ := 63) (fun _ => x_iconst rfl) ?_
          refine Ew_of (pcₚ := 64) (fun _ => x_istore_n rfl) ?_
          have : ∀ i, (0 : Int) ≤ i → i < 0 → ((A 55)) i = ((w59)) i := fun i a b => absurd b (by omega)
          have : ∀ i, (0 : Int) ≤ i → i < 0 → ((A 56)) i = ((w60)) i := fun i a b => absurd b (by omega)
          suffices hl64 : ∀ (m : Nat), ∀ (ls : rO) (σ : rS) (F_64 : hF) (A_64 : hA) (x64_1 : Int), rlook ls 0 = some (.ref (D 6)) → rlook ls 1 = some (I (x64_1)) → HS σ0 σ D N F_64 A_64 → SF [] F_37 F_64 → SA [55, 56] A_37 A_64 → ∀ w64_55 : Int → Int, A_64 55 = w64_55 → ∀ w64_56 : Int → Int, A_64 56 = w64_56 → (inr (x64_1)) → ((0) ≤ (x64_1)) → ((x64_1) ≤ (0) ∨ (x64_1) ≤ (3)) → (∀ i, 0 ≤ i → i < (x64_1) → ((w64_55)) i = ((w59)) i) → (∀ i, 0 ≤ i → i < (x64_1) → ((w64_56)) i = ((w60)) i) → ((3) - (x64_1)).toNat = m → Ew 446 (d + 0) 64 ls [] σ c s Q from
            hl64 _ _ σ _ _ (0) (rk_o (l37_0) rfl rfl) (rk_s) H (SF_refl) (SA_refl)  (A 55) ((funext (hA_37 55 rfl)).trans (funext (hA_2 55 rfl))) (A 56) ((funext (hA_37 56 rfl)).trans (funext (hA_2 56 rfl))) (show inr (0) from q_2) (show (0) ≤ (0) from q_1) (show (0) ≤ (0) ∨ (0) ≤ (3) from q_1793) (show ∀ i, 0 ≤ i → i < (0) → ((A 55)) i = ((w59)) i by assumption) (show ∀ i, 0 ≤ i → i < (0) → ((A 56)) i = ((w60)) i by assumption) rfl
          as_aux_lemma =>
          intro m
          induction m using Nat.strongRecOn with
          | _ m ih64 =>
            intro ls σ F_64 A_64 x64_1 l64_0 l64_1 H hS_64 hA_64  w64_55 ew64_55 w64_56 ew64_56 j64_0 j64_1 j64_2 j64_3 j64_4 hm64
            refine Ew_of (pcₚ := 65) (fun _ => x_iload_n rfl l64_1) ?_
            refine Ew_of (pcₚ := 66) (fun _ => x_iconst rfl) ?_
            refine w_icmpge (t := 99) rfl rfl (show inr (x64_1) from j64_0) (show inr (3) from q_246) (fun b4 => ?_) (fun b4 => ?_)
            · have : WC ((u6_17)) ((w2_53)) := WC_congr (h0) (by omega) (fun i a b => j2_3 i a (by omega))
              have : WO ((w37_54)) ((w64_55)) := WO_congr (h1) (fun i a b => j37_3 i a (by omega)) (fun i a b => j64_3 i a (by omega))
              have : ∀ i, 0 ≤ i → i < 256 → ((w2_53)) i = ((w57)) i := fun i a b => j2_3 i a (by omega)
              have : ∀ i, 0 ≤ i → i < 192 → ((w37_54)) i = ((w58)) i := fun i a b => j37_3 i a (by omega)
              have : ∀ i, 0 ≤ i → i < 3 → ((w64_55)) i = ((w59)) i := fun i a b => j64_3 i a (by omega)
              have : ∀ i, 0 ≤ i → i < 3 → ((w64_56)) i = ((w60)) i := fun i a b => j64_4 i a (by omega)
              exact w_ret rfl (k σ _ _ H (SF_trans (SF_trans (SF_upd (SF_trans (SF_refl) hS_2 (any_sub rfl)) rfl) hS_37 (any_sub rfl)) hS_64 (any_sub rfl)) (SA_trans (SA_trans (SA_trans (SA_refl) hA_2 (any_subA rfl)) hA_37 (any_subA rfl)) hA_64 (any_subA rfl)) (u6_17) (((hS_64 6 12 rfl).trans (hS_37 6 12 rfl))) (w2_53) ((funext (hA_64 53 rfl)).trans ((funext (hA_37 53 rfl)).trans (ew2_53))) (w37_54) ((funext (hA_64 54 rfl)).trans (ew37_54)) (w64_55) (ew64_55) (w64_56) (ew64_56) (show WC ((u6_17)) ((w2_53)) by assumption) (show WO ((w37_54)) ((w64_55)) by assumption) (show ∀ i, 0 ≤ i → i < 256 → ((w2_53)) i = ((w57)) i by assumption) (show ∀ i, 0 ≤ i → i < 192 → ((w37_54)) i = ((w58)) i by assumption) (show ∀ i, 0 ≤ i → i < 3 → ((w64_55)) i = ((w59)) i by assumption) (show ∀ i, 0 ≤ i → i < 3 → ((w64_56)) i = ((w60)) i by assumption) (show (u6_17) = (u6_17) from q_303))
            · refine Ew_of (pcₚ := 70) (fun _ => x_aload_n rfl l64_0) ?_
              refine w_gT H (o := 6) (t := 55) rfl (H.perm 6 rfl) rfl rfl rfl rfl rfl rfl ?_
              refine Ew_of (pcₚ := 74) (fun _ => x_iload_n rfl l64_1) ?_
              refine Ew_of (pcₚ := 75) (fun _ => x_aload_n rfl l64_0) ?_
              refine w_gT H (o := 6) (t := 59) rfl (H.perm 6 rfl) rfl rfl rfl rfl rfl rfl ?_
              refine Ew_of (pcₚ := 79) (fun _ => x_iload_n rfl l64_1) ?_
              refine w_lI H (o := 59) (n := 3) rfl (H.perm 59 rfl) rfl rfl (H.fix 59 rfl rfl) (show 0 ≤ x64_1 ∧ x64_1 < ((3 : Nat) : Int) from q_1801 b4 j64_1) (by decide) (fun v5 ev5 qv5 => ?_)
              have qv5 : (-1 : Int) ≤ v5 ∧ v5 ≤ 9 := qv5
              have ev5 : (w59) (x64_1) = v5 := (congrFun ((funext (hA_64 59 rfl)).trans ((funext (hA_37 59 rfl)).trans ((funext (hA_2 59 rfl)).trans (ew59)))) (x64_1)).symm.trans ev5
              refine w_sI H (o := 55) (n := 3) rfl (H.perm 55 rfl) rfl rfl (H.fix 55 rfl rfl) (show 0 ≤ x64_1 ∧ x64_1 < ((3 : Nat) : Int) from q_1801 b4 j64_1) (by decide) (show (-1 : Int) ≤ v5 ∧ v5 ≤ 9 from qv5) (fun σ H => ?_)
              refine Ew_of (pcₚ := 82) (fun _ => x_aload_n rfl l64_0) ?_
              refine w_gT H (o := 6) (t := 56) rfl (H.perm 6 rfl) rfl rfl rfl rfl rfl rfl ?_
              refine Ew_of (pcₚ := 86) (fun _ => x_iload_n rfl l64_1) ?_
              refine Ew_of (pcₚ := 87) (fun _ => x_aload_n rfl l64_0) ?_
              refine w_gT H (o := 6) (t := 60) rfl (H.perm 6 rfl) rfl rfl rfl rfl rfl rfl ?_
              refine Ew_of (pcₚ := 91) (fun _ => x_iload_n rfl l64_1) ?_
              refine w_lI H (o := 60) (n := 3) rfl (H.perm 60 rfl) rfl rfl (H.fix 60 rfl rfl) (show 0 ≤ x64_1 ∧ x64_1 < ((3 : Nat) : Int) from q_1801 b4 j64_1) (by decide) (fun v6 ev6 qv6 => ?_)
              have qv6 : (-2147483648 : Int) ≤ v6 ∧ v6 ≤ 2147483647 := qv6
              have ev6 : (w60) (x64_1) = v6 := (congrFun ((funext (hA_64 60 rfl)).trans ((funext (hA_37 60 rfl)).trans ((funext (hA_2 60 rfl)).trans (ew60)))) (x64_1)).symm.trans ev6
              refine w_sI H (o := 56) (n := 3) rfl (H.perm 56 rfl) rfl rfl (H.fix 56 rfl rfl) (show 0 ≤ x64_1 ∧ x64_1 < ((3 : Nat) : Int) from q_1801 b4 j64_1) (by decide) (show (-2147483648 : Int) ≤ v6 ∧ v6 ≤ 2147483647 from qv6) (fun σ H => ?_)
              refine Ew_of (pcₚ := 96) (fun _ => x_iinc (len := 3) rfl (l64_1)) ?_
              refine Ew_of (pcₚ := 64) (fun _ => x_goto rfl rfl) ?_
              have : ∀ i, (0 : Int) ≤ i → i < ((x64_1 + 1)) → ((upd1 (w64_55) (x64_1) (v5))) i = ((w59)) i := pt_copy j64_3 (by omega)
              have : ∀ i, (0 : Int) ≤ i → i < ((x64_1 + 1)) → ((upd1 (w64_56) (x64_1) (v6))) i = ((w60)) i := pt_copy j64_4 (by omega)
              exact ih64 _ (msE hm64 q_813 (q_814 b4)) _ σ _ _ ((x64_1 + 1)) (rk_o (l64_0) rfl rfl) (rk_s) H (hS_64) (SA_upd (SA_upd (hA_64) rfl) rfl)  (upd1 (w64_55) (x64_1) (v5)) (congrArg (fun q => upd1 q (x64_1) (v5)) (ew64_55)) (upd1 (w64_56) (x64_1) (v6)) (congrArg (fun q => upd1 q (x64_1) (v6)) (ew64_56)) (show inr ((x64_1 + 1)) from q_1804 b4 j64_1) (show (0) ≤ ((x64_1 + 1)) from q_14 j64_1) (show ((x64_1 + 1)) ≤ (0) ∨ ((x64_1 + 1)) ≤ (3) from q_1803 b4) (show ∀ i, 0 ≤ i → i < ((x64_1 + 1)) → ((upd1 (w64_55) (x64_1) (v5))) i = ((w59)) i by assumption) (show ∀ i, 0 ≤ i → i < ((x64_1 + 1)) → ((upd1 (w64_56) (x64_1) (v6))) i = ((w60)) i by assumption) rfl
        · refine Ew_of (pcₚ := 45) (fun _ => x_aload_n rfl l37_0) ?_
          refine w_gT H (o := 6) (t := 54) rfl (H.perm 6 rfl) rfl rfl rfl rfl rfl rfl ?_
          refine Ew_of (pcₚ := 49) (fun _ => x_iload_n rfl l37_1) ?_
          refine Ew_of (pcₚ := 50) (fun _ => x_aload_n rfl l37_0) ?_
          refine w_gT H (o := 6) (t := 58) rfl (H.perm 6 rfl) rfl rfl rfl rfl rfl rfl ?_
          refine Ew_of (pcₚ := 54) (fun _ => x_iload_n rfl l37_1) ?_
          refine w_lI H (o := 58) (n := 192) rfl (H.perm 58 rfl) rfl rfl (H.fix 58 rfl rfl) (show 0 ≤ x37_1 ∧ x37_1 < ((192 : Nat) : Int) from q_1805 b3 j37_1) (by decide) (fun v7 ev7 qv7 => ?_)
          have qv7 : (-1 : Int) ≤ v7 ∧ v7 ≤ 512 := qv7
          have ev7 : (w58) (x37_1) = v7 := (congrFun ((funext (hA_37 58 rfl)).trans ((funext (hA_2 58 rfl)).trans (ew58))) (x37_1)).symm.trans ev7
          refine w_sI H (o := 54) (n := 192) rfl (H.perm 54 rfl) rfl rfl (H.fix 54 rfl rfl) (show 0 ≤ x37_1 ∧ x37_1 < ((192 : Nat) : Int) from q_1805 b3 j37_1) (by decide) (show (-1 : Int) ≤ v7 ∧ v7 ≤ 512 from qv7) (fun σ H => ?_)
          refine Ew_of (pcₚ := 59) (fun _ => x_iinc (len := 3) rfl (l37_1)) ?_
          refine Ew_of (pcₚ := 37) (fun _ => x_goto rfl rfl) ?_
          have : ∀ i, (0 : Int) ≤ i → i < ((x37_1 + 1)) → ((upd1 (w37_54) (x37_1) (v7))) i = ((w58)) i := pt_copy j37_3 (by omega)
          exact ih37 _ (msE hm37 q_1808 (q_1809 b3)) _ σ _ _ ((x37_1 + 1)) (rk_o (l37_0) rfl rfl) (rk_s) H (hS_37) (SA_upd (hA_37) rfl)  (upd1 (w37_54) (x37_1) (v7)) (congrArg (fun q => upd1 q (x37_1) (v7)) (ew37_54)) (show inr ((x37_1 + 1)) from q_1807 b3 j37_1) (show (0) ≤ ((x37_1 + 1)) from q_14 j37_1) (show ((x37_1 + 1)) ≤ (0) ∨ ((x37_1 + 1)) ≤ ((192)) from q_1806 b3) (show ∀ i, 0 ≤ i → i < ((x37_1 + 1)) → ((upd1 (w37_54) (x37_1) (v7))) i = ((w58)) i by assumption) rfl
    · refine Ew_of (pcₚ := 10) (fun _ => x_aload_n rfl l2_0) ?_
      refine w_gT H (o := 6) (t := 53) rfl (H.perm 6 rfl) rfl rfl rfl rfl rfl rfl ?_
      refine Ew_of (pcₚ := 14) (fun _ => x_iload_n rfl l2_1) ?_
      refine Ew_of (pcₚ := 15) (fun _ => x_aload_n rfl l2_0) ?_
      refine w_gT H (o := 6) (t := 57) rfl (H.perm 6 rfl) rfl rfl rfl rfl rfl rfl ?_
      refine Ew_of (pcₚ := 19) (fun _ => x_iload_n rfl l2_1) ?_
      refine w_lI H (o := 57) (n := 256) rfl (H.perm 57 rfl) rfl rfl (H.fix 57 rfl rfl) (show 0 ≤ x2_1 ∧ x2_1 < ((256 : Nat) : Int) from q_23 b2 j2_1) (by decide) (fun v8 ev8 qv8 => ?_)
      have qv8 : (0 : Int) ≤ v8 ∧ v8 ≤ 11 := qv8
      have ev8 : (w57) (x2_1) = v8 := (congrFun ((funext (hA_2 57 rfl)).trans (ew57)) (x2_1)).symm.trans ev8
      refine w_sI H (o := 53) (n := 256) rfl (H.perm 53 rfl) rfl rfl (H.fix 53 rfl rfl) (show 0 ≤ x2_1 ∧ x2_1 < ((256 : Nat) : Int) from q_23 b2 j2_1) (by decide) (show (0 : Int) ≤ v8 ∧ v8 ≤ 11 from qv8) (fun σ H => ?_)
      refine Ew_of (pcₚ := 24) (fun _ => x_iinc (len := 3) rfl (l2_1)) ?_
      refine Ew_of (pcₚ := 2) (fun _ => x_goto rfl rfl) ?_
      have : ∀ i, (0 : Int) ≤ i → i < ((x2_1 + 1)) → ((upd1 (w2_53) (x2_1) (v8))) i = ((w57)) i := pt_copy j2_3 (by omega)
      exact ih2 _ (msE hm2 q_26 (q_27 b2)) _ σ _ _ ((x2_1 + 1)) (rk_o (l2_0) rfl rfl) (rk_s) H (hS_2) (SA_upd (hA_2) rfl)  (upd1 (w2_53) (x2_1) (v8)) (congrArg (fun q => upd1 q (x2_1) (v8)) (ew2_53)) (show inr ((x2_1 + 1)) from q_25 b2 j2_1) (show (0) ≤ ((x2_1 + 1)) from q_14 j2_1) (show ((x2_1 + 1)) ≤ (0) ∨ ((x2_1 + 1)) ≤ ((256)) from q_24 b2) (show ∀ i, 0 ≤ i → i < ((x2_1 + 1)) → ((upd1 (w2_53) (x2_1) (v8))) i = ((w57)) i by assumption) rfl

theorem M448f {σ0 σ : rS} {D N : Nat → Nat} {F : hF} {A : hA} {d c s : Nat} {Q : wQ} (H : HS σ0 σ D N F A) {a1 a2 a3 a4 : Int} (u6_37 : Int) (eu6_37 : F 6 37 = u6_37) (w70 : Int → Int) (ew70 : A 70 = w70) (h0 : inr (a1)) (h1 : inr (a2)) (h2 : inr (a3)) (h3 : inr (a4)) (h4 : (a4) = 0 ∨ (a4) = 1) (h5 : 0 ≤ (a1) ∧ (a1) ≤ 80000000) (h6 : 0 ≤ (a2) ∧ (a2) ≤ 20000000 ∧ 0 ≤ (a3) ∧ (a3) ≤ 3) (h7 : 0 ≤ (a4) ∧ (a4) ≤ 1) (k : ∀ σ Fₚ Aₚ, HS σ0 σ D N Fₚ Aₚ → SF [(6, 37)] F Fₚ → SA [70] A Aₚ → ∀ y6_37 : Int, Fₚ 6 37 = y6_37 → ∀ v70 : Int → Int, Aₚ 70 = v70 → ((u6_37) ≤ (y6_37) ∧ (a1) + 3 ≤ (y6_37) ∧ ((y6_37) = (u6_37) ∨ (y6_37) = (a1) + 3)) → (QAP 65536 ((w70)) ((a1)) ((v70)) ((a1) + 3) (nb (8 * (a2) + 2 * (a3) + (a4)) 3)) → (FRM ((w70)) ((v70)) ((a1)) ((a1) + 3)) → ((u6_37) ≤ (a1) + 3 ∧ (y6_37) = (a1) + 3 ∨ (a1) + 3 ≤ (u6_37) ∧ (y6_37) = (u6_37)) → Q none σ c s) : Ew 448 (d + 2) 0 (rargs 0 [.ref (D 6), I a1, I a2, I a3, I a4]) [] σ c s Q := by
  have r1 : (0 : Int) ≤ u6_37 ∧ u6_37 ≤ 100000000 := rngE (show (0 : Int) ≤ F 6 37 ∧ F 6 37 ≤ 100000000 from H.frng 6 37) (show F 6 37 = u6_37 from (eu6_37))
  refine Ew_of (pcₚ := 1) (fun _ => x_aload_n rfl rfl) ?_
  refine w_gI H (o := 6) (w := u6_37) rfl (H.perm 6 rfl) rfl rfl rfl (fun _ => rfl) (eu6_37) ?_
  refine Ew_of (pcₚ := 6) (fun _ => x_istore rfl) ?_
  refine Ew_of (pcₚ := 7) (fun _ => x_aload_n rfl (rk_o (rfl) rfl rfl)) ?_
  refine Ew_of (pcₚ := 8) (fun _ => x_iload_n rfl (rk_o (rfl) rfl rfl)) ?_
  refine w_pI H (o := 6) rfl rfl (H.perm 6 rfl) rfl rfl rfl (fun _ => rfl) rfl (show (0 : Int) ≤ a1 ∧ a1 ≤ 100000000 from q_2171 h5) (fun σ H => ?_)
  refine Ew_of (pcₚ := 12) (fun _ => x_aload_n rfl (rk_o (rfl) rfl rfl)) ?_
  refine Ew_of (pcₚ := 14) (fun _ => x_bipush (z := 8) rfl (by decide)) ?_
  refine Ew_of (pcₚ := 15) (fun _ => x_iload_n rfl (rk_o (rfl) rfl rfl)) ?_
  refine w_imul rfl ?_
  refine Ew_of (pcₚ := 17) (fun _ => x_iconst rfl) ?_
  refine Ew_of (pcₚ := 18) (fun _ => x_iload_n rfl (rk_o (rfl) rfl rfl)) ?_
  refine w_imul rfl ?_
  refine w_iadd rfl ?_
  refine Ew_of (pcₚ := 22) (fun _ => x_iload rfl (rk_o (rfl) rfl rfl)) ?_
  refine w_ifeq (t := 29) rfl rfl (show inr (a4) from h3) (fun b2 => ?_) (fun b2 => ?_)
  · refine Ew_of (pcₚ := 30) (fun _ => x_iconst rfl) ?_
    refine w_iadd rfl ?_
    refine w_i2l rfl (show inr ((((8 * a2) + (2 * a3)) + 0)) from q_2754 h6) ?_
    refine Ew_of (pcₚ := 33) (fun _ => x_iconst rfl) ?_
    refine w_inv H (o := 6) rfl rfl rfl (H.perm 6 rfl) rfl rfl (by rfl) (M393g H (a1) (rfl) (w70) (ew70) (show inrJ ((((8 * a2) + (2 * a3)) + 0)) from q_2755 h6) (show inr (3) from q_246) (show 0 ≤ (3) ∧ (3) ≤ 8 from q_2174) (show 0 ≤ (a1) ∧ (a1) ≤ 90000000 from q_2173 h5) (fun σ F3 A4 H hS5 hA6 y8 ey9 wq10 ewq11 pz7_0 pz7_1 pz7_2 => ⟨rfl, ?_⟩))
    have r12 : (0 : Int) ≤ y8 ∧ y8 ≤ 100000000 := rngE (show (0 : Int) ≤ F3 6 37 ∧ F3 6 37 ≤ 100000000 from H.frng 6 37) (show F3 6 37 = y8 from (ey9))
    have h33 := pz7_1
    rw [show (y8) = (a1) + 3 by omega] at h33
    have : QAP 65536 ((w70)) ((a1)) ((wq10)) ((a1) + 3) (nb (8 * (a2) + 2 * (a3) + (a4)) 3) := QAP_c h33 (by first | rfl | (congr 1; omega))
    have : FRM ((w70)) ((wq10)) ((a1)) ((a1) + 3) := pz7_2
    refine Ew_of (pcₚ := 37) (fun _ => x_aload_n rfl (rk_o (rfl) rfl rfl)) ?_
    refine Ew_of (pcₚ := 39) (fun _ => x_iload rfl rk_s) ?_
    refine Ew_of (pcₚ := 40) (fun _ => x_aload_n rfl (rk_o (rfl) rfl rfl)) ?_
    refine w_gI H (o := 6) (w := y8) rfl (H.perm 6 rfl) rfl rfl rfl (fun _ => rfl) (ey9) ?_
    refine w_icmple (t := 51) rfl rfl (show inr (u6_37) from q_1984 r1) (show inr (y8) from q_1984 r12) (fun b13 => ?_) (fun b13 => ?_)
    · refine Ew_of (pcₚ := 52) (fun _ => x_aload_n rfl (rk_o (rfl) rfl rfl)) ?_
      refine w_gI H (o := 6) (w := y8) rfl (H.perm 6 rfl) rfl rfl rfl (fun _ => rfl) (ey9) ?_
      refine w_pI H (o := 6) rfl rfl (H.perm 6 rfl) rfl rfl rfl (fun _ => rfl) rfl (show (0 : Int) ≤ y8 ∧ y8 ≤ 100000000 from r12) (fun σ H => ?_)
      exact w_ret rfl (k σ _ _ H (SF_upd (SF_trans (SF_upd (SF_refl) rfl) hS5 (any_sub rfl)) rfl) (SA_trans (SA_refl) hA6 (any_subA rfl)) (y8) (rfl) (wq10) (ewq11) (show (u6_37) ≤ (y8) ∧ a1 + 3 ≤ (y8) ∧ ((y8) = (u6_37) ∨ (y8) = a1 + 3) from q_2176 b13 pz7_0) (show QAP 65536 ((w70)) (a1) ((wq10)) (a1 + 3) (nb (8 * a2 + 2 * a3 + a4) 3) by assumption) (pz7_2) (show (u6_37) ≤ a1 + 3 ∧ (y8) = a1 + 3 ∨ a1 + 3 ≤ (u6_37) ∧ (y8) = (u6_37) from q_2756 b13 pz7_0))
    · refine Ew_of (pcₚ := 48) (fun _ => x_iload rfl rk_s) ?_
      refine Ew_of (pcₚ := 55) (fun _ => x_goto rfl rfl) ?_
      refine w_pI H (o := 6) rfl rfl (H.perm 6 rfl) rfl rfl rfl (fun _ => rfl) rfl (show (0 : Int) ≤ u6_37 ∧ u6_37 ≤ 100000000 from r1) (fun σ H => ?_)
      exact w_ret rfl (k σ _ _ H (SF_upd (SF_trans (SF_upd (SF_refl) rfl) hS5 (any_sub rfl)) rfl) (SA_trans (SA_refl) hA6 (any_subA rfl)) (u6_37) (rfl) (wq10) (ewq11) (show (u6_37) ≤ (u6_37) ∧ a1 + 3 ≤ (u6_37) ∧ ((u6_37) = (u6_37) ∨ (u6_37) = a1 + 3) from q_2177 b13 pz7_0) (show QAP 65536 ((w70)) (a1) ((wq10)) (a1 + 3) (nb (8 * a2 + 2 * a3 + a4) 3) by assumption) (pz7_2) (show (u6_37) ≤ a1 + 3 ∧ (u6_37) = a1 + 3 ∨ a1 + 3 ≤ (u6_37) ∧ (u6_37) = (u6_37) from q_2757 b13 pz7_0))
  · refine Ew_of (pcₚ := 26) (fun _ => x_iconst rfl) ?_
    refine Ew_of (pcₚ := 30) (fun _ => x_goto rfl rfl) ?_
    refine w_iadd rfl ?_
    refine w_i2l rfl (show inr ((((8 * a2) + (2 * a3)) + 1)) from q_2758 h6) ?_
    refine Ew_of (pcₚ := 33) (fun _ => x_iconst rfl) ?_
    refine w_inv H (o := 6) rfl rfl rfl (H.perm 6 rfl) rfl rfl (by rfl) (M393g H (a1) (rfl) (w70) (ew70) (show inrJ ((((8 * a2) + (2 * a3)) + 1)) from q_2759 h6) (show inr (3) from q_246) (show 0 ≤ (3) ∧ (3) ≤ 8 from q_2174) (show 0 ≤ (a1) ∧ (a1) ≤ 90000000 from q_2173 h5) (fun σ F14 A15 H hS16 hA17 y19 ey20 wq21 ewq22 pz18_0 pz18_1 pz18_2 => ⟨rfl, ?_⟩))
    have r23 : (0 : Int) ≤ y19 ∧ y19 ≤ 100000000 := rngE (show (0 : Int) ≤ F14 6 37 ∧ F14 6 37 ≤ 100000000 from H.frng 6 37) (show F14 6 37 = y19 from (ey20))
    have h33 := pz18_1
    rw [show (y19) = (a1) + 3 by omega] at h33
    have : QAP 65536 ((w70)) ((a1)) ((wq21)) ((a1) + 3) (nb (8 * (a2) + 2 * (a3) + (a4)) 3) := QAP_c h33 (by first | rfl | (congr 1; omega))
    have : FRM ((w70)) ((wq21)) ((a1)) ((a1) + 3) := pz18_2
    refine Ew_of (pcₚ := 37) (fun _ => x_aload_n rfl (rk_o (rfl) rfl rfl)) ?_
    refine Ew_of (pcₚ := 39) (fun _ => x_iload rfl rk_s) ?_
    refine Ew_of (pcₚ := 40) (fun _ => x_aload_n rfl (rk_o (rfl) rfl rfl)) ?_
    refine w_gI H (o := 6) (w := y19) rfl (H.perm 6 rfl) rfl rfl rfl (fun _ => rfl) (ey20) ?_
    refine w_icmple (t := 51) rfl rfl (show inr (u6_37) from q_1984 r1) (show inr (y19) from q_1984 r23) (fun b24 => ?_) (fun b24 => ?_)
    · refine Ew_of (pcₚ := 52) (fun _ => x_aload_n rfl (rk_o (rfl) rfl rfl)) ?_
      refine w_gI H (o := 6) (w := y19) rfl (H.perm 6 rfl) rfl rfl rfl (fun _ => rfl) (ey20) ?_
      refine w_pI H (o := 6) rfl rfl (H.perm 6 rfl) rfl rfl rfl (fun _ => rfl) rfl (show (0 : Int) ≤ y19 ∧ y19 ≤ 100000000 from r23) (fun σ H => ?_)
      exact w_ret rfl (k σ _ _ H (SF_upd (SF_trans (SF_upd (SF_refl) rfl) hS16 (any_sub rfl)) rfl) (SA_trans (SA_refl) hA17 (any_subA rfl)) (y19) (rfl) (wq21) (ewq22) (show (u6_37) ≤ (y19) ∧ a1 + 3 ≤ (y19) ∧ ((y19) = (u6_37) ∨ (y19) = a1 + 3) from q_2176 b24 pz18_0) (show QAP 65536 ((w70)) (a1) ((wq21)) (a1 + 3) (nb (8 * a2 + 2 * a3 + a4) 3) by assumption) (pz18_2) (show (u6_37) ≤ a1 + 3 ∧ (y19) = a1 + 3 ∨ a1 + 3 ≤ (u6_37) ∧ (y19) = (u6_37) from q_2756 b24 pz18_0))
    · refine Ew_of (pcₚ := 48) (fun _ => x_iload rfl rk_s) ?_
      refine Ew_of (pcₚ := 55) (fun _ => x_goto rfl rfl) ?_
      refine w_pI H (o := 6) rfl rfl (H.perm 6 rfl) rfl rfl rfl (fun _ => rfl) rfl (show (0 : Int) ≤ u6_37 ∧ u6_37 ≤ 100000000 from r1) (fun σ H => ?_)
      exact w_ret rfl (k σ _ _ H (SF_upd (SF_trans (SF_upd (SF_refl) rfl) hS16 (any_sub rfl)) rfl) (SA_trans (SA_refl) hA17 (any_subA rfl)) (u6_37) (rfl) (wq21) (ewq22) (show (u6_37) ≤ (u6_37) ∧ a1 + 3 ≤ (u6_37) ∧ ((u6_37) = (u6_37) ∨ (u6_37) = a1 + 3) from q_2177 b24 pz18_0) (show QAP 65536 ((w70)) (a1) ((wq21)) (a1 + 3) (nb (8 * a2 + 2 * a3 + a4) 3) by assumption) (pz18_2) (show (u6_37) ≤ a1 + 3 ∧ (u6_37) = a1 + 3 ∨ a1 + 3 ≤ (u6_37) ∧ (u6_37) = (u6_37) from q_2757 b24 pz18_0))


end
