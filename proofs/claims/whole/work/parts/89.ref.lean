/-- Writer.sayStream -/
theorem M443 {σ0 σ : rS} {D N : Nat → Nat} {F : hF} {A : hA} {d c s : Nat} {Q : wQ} (H : HS σ0 σ D N F A)  (u6_28 : Int) (eu6_28 : F 6 28 = u6_28) (u6_37 : Int) (eu6_37 : F 6 37 = u6_37) (w54 : Int → Int) (ew54 : A 54 = w54) (w55 : Int → Int) (ew55 : A 55 = w55) (w66 : Int → Int) (ew66 : A 66 = w66) (w67 : Int → Int) (ew67 : A 67 = w67) (h0 : 1 ≤ (u6_28)) (h1 : WO ((w54)) ((w55))) (h2 : TBL ((w54)) ((w55)) (sh ((w66)) (8001 * 0)) 0 ((u6_28))) (h3 : TBL ((w54)) ((w55)) (sh ((w66)) (8001 * 1)) 1 ((u6_28))) (h4 : TBL ((w54)) ((w55)) (sh ((w66)) (8001 * 2)) 2 ((u6_28))) (h5 : 0 ≤ (u6_37) ∧ (u6_37) ≤ 80000000) (h6 : 17 * (u6_28) + su (mo3 ((w67))) ((u6_28) : Int).toNat ≤ 180224) (k : ∀ σ F' A', HS σ0 σ D N F' A' → SF [(6, 35), (6, 37)] F F' → SA [69, 70, 71, 72, 73, 74] A A' → ∀ y6_37 : Int, F' 6 37 = y6_37 → ((u6_37) ≤ (y6_37) ∧ (y6_37) ≤ (u6_37) + 24000) → Q none σ c s) : Ew 443 (d + 3) 0 (rargs 0 [.ref (D 6)]) [] σ c s Q := by
  have r1 : (0 : Int) ≤ u6_28 ∧ u6_28 ≤ 8001 := by have h1 : (0 : Int) ≤ F 6 28 ∧ F 6 28 ≤ 8001 := H.frng 6 28; rw [show F 6 28 = u6_28 from (eu6_28)] at h1; exact h1
  have r2 : (0 : Int) ≤ u6_37 ∧ u6_37 ≤ 100000000 := by have h1 : (0 : Int) ≤ F 6 37 ∧ F 6 37 ≤ 100000000 := H.frng 6 37; rw [show F 6 37 = u6_37 from (eu6_37)] at h1; exact h1
  have htb0 : TBL ((w54)) ((w55)) (sh ((w66)) (8001 * 0)) 0 ((u6_28)) := by assumption
  have htb1 : TBL ((w54)) ((w55)) (sh ((w66)) (8001 * 1)) 1 ((u6_28)) := by assumption
  have htb2 : TBL ((w54)) ((w55)) (sh ((w66)) (8001 * 2)) 2 ((u6_28)) := by assumption
  have hBs : ∀ i, (0 : Int) ≤ (w66) i ∧ (w66) i ≤ 63 := fun i => by have h1 : (0 : Int) ≤ A 66 i ∧ A 66 i ≤ 63 := H.arng 66 i; rw [show A 66 = w66 from ew66] at h1; exact h1
  have hBm : ∀ i, (0 : Int) ≤ (w67) i ∧ (w67) i ≤ 31 := fun i => by have h1 : (0 : Int) ≤ A 67 i ∧ A 67 i ≤ 31 := H.arng 67 i; rw [show A 67 = w67 from ew67] at h1; exact h1
  have : 0 ≤ ((w55)) 0 ∧ 0 ≤ ((w55)) 1 ∧ 0 ≤ ((w55)) 2 := ⟨htb0.1, htb1.1, htb2.1⟩
  have h0o0 : 0 ≤ ((w55)) 0 := htb0.1
  have h0o1 : 0 ≤ ((w55)) 1 := htb1.1
  have h0o2 : 0 ≤ ((w55)) 2 := htb2.1
  have hr0 : ∀ j, 0 ≤ (sh ((w66)) (8001 * 0)) j ∧ (sh ((w66)) (8001 * 0)) j < 64 := fun j => by have := hBs (8001 * 0 + j); show 0 ≤ ((w66)) (8001 * 0 + j) ∧ ((w66)) (8001 * 0 + j) < 64; omega
  have hr1 : ∀ j, 0 ≤ (sh ((w66)) (8001 * 1)) j ∧ (sh ((w66)) (8001 * 1)) j < 64 := fun j => by have := hBs (8001 * 1 + j); show 0 ≤ ((w66)) (8001 * 1 + j) ∧ ((w66)) (8001 * 1 + j) < 64; omega
  have hr2 : ∀ j, 0 ≤ (sh ((w66)) (8001 * 2)) j ∧ (sh ((w66)) (8001 * 2)) j < 64 := fun j => by have := hBs (8001 * 2 + j); show 0 ≤ ((w66)) (8001 * 2 + j) ∧ ((w66)) (8001 * 2 + j) < 64; omega
  have : 1 ≤ ((w55)) (0) → (sh ((w54)) (64 * 0)) ((sh ((w66)) (8001 * 0)) ((u6_28) - 1)) ≠ 0 := fun q => by obtain ⟨s, c, x, y⟩ := htb0.2.2 q; exact COST_nz ⟨s.1, s.2.1⟩ y (by omega) _ (by omega) (by omega)
  have : 1 ≤ ((w55)) (1) → (sh ((w54)) (64 * 1)) ((sh ((w66)) (8001 * 1)) ((u6_28) - 1)) ≠ 0 := fun q => by obtain ⟨s, c, x, y⟩ := htb1.2.2 q; exact COST_nz ⟨s.1, s.2.1⟩ y (by omega) _ (by omega) (by omega)
  have : 1 ≤ ((w55)) (2) → (sh ((w54)) (64 * 2)) ((sh ((w66)) (8001 * 2)) ((u6_28) - 1)) ≠ 0 := fun q => by obtain ⟨s, c, x, y⟩ := htb2.2.2 q; exact COST_nz ⟨s.1, s.2.1⟩ y (by omega) _ (by omega) (by omega)
  refine Ew_of (pc' := 1) (fun _ => x_aload_n rfl rfl) ?_
  have r3 : (0 : Int) ≤ F 6 35 ∧ F 6 35 ≤ 100000000 := by have h1 : (0 : Int) ≤ F 6 35 ∧ F 6 35 ≤ 100000000 := H.frng 6 35; rw [show F 6 35 = F 6 35 from rfl] at h1; exact h1
  refine w_inv H (o := 6) rfl rfl rfl (H.perm 6 rfl) rfl rfl (by rfl) (M391 H (F 6 35) (rfl) (A 69) (rfl)  (fun σ F4 A5 H hS6 hA7 y9 ey10 wq11 ewq12 pz8_0 pz8_1 => ⟨rfl, ?_⟩))
  have r13 : (0 : Int) ≤ y9 ∧ y9 ≤ 100000000 := by have h1 : (0 : Int) ≤ F4 6 35 ∧ F4 6 35 ≤ 100000000 := H.frng 6 35; rw [show F4 6 35 = y9 from (ey10)] at h1; exact h1
  refine Ew_of (pc' := 5) (fun _ => x_aload_n rfl rfl) ?_
  refine Ew_of (pc' := 6) (fun _ => x_iconst rfl) ?_
  refine w_inv H (o := 6) rfl rfl rfl (H.perm 6 rfl) rfl rfl (by rfl) (M442 H (u6_28) (((hS6 6 28 rfl).trans (eu6_28))) (w54) ((funext (hA7 54 rfl)).trans (ew54)) (w55) ((funext (hA7 55 rfl)).trans (ew55)) (w66) ((funext (hA7 66 rfl)).trans (ew66)) (A 71) (funext (hA7 71 rfl)) (A 72) (funext (hA7 72 rfl)) (A 73) (funext (hA7 73 rfl)) (show inr (0) by omega) (show 0 ≤ (0) ∧ (0) ≤ 2 by omega) (show 1 ≤ (u6_28) by omega) (show 0 ≤ ((w55)) ((0)) by assumption) (show WO ((w54)) ((w55)) by assumption) (show 1 ≤ ((w55)) ((0)) → (sh ((w54)) (64 * (0))) ((sh ((w66)) (8001 * (0))) ((u6_28) - 1)) ≠ 0 by assumption) (fun z18 σ F14 A15 H hS16 hA17 wq19 ewq20 wq21 ewq22 wq23 ewq24 pz18_0 pz18_1 pz18_2 pz18_3 pz18_4 pz18_5 pz18_6 => ⟨rfl, ?_⟩))
  refine Ew_of (pc' := 10) (fun _ => x_istore_n rfl) ?_
  refine Ew_of (pc' := 11) (fun _ => x_aload_n rfl (rk_o (rfl) rfl rfl)) ?_
  refine Ew_of (pc' := 12) (fun _ => x_iconst rfl) ?_
  refine w_inv H (o := 6) rfl rfl rfl (H.perm 6 rfl) rfl rfl (by rfl) (M442 H (u6_28) ((((hS16 6 28 rfl).trans (hS6 6 28 rfl)).trans (eu6_28))) (w54) ((funext (hA17 54 rfl)).trans ((funext (hA7 54 rfl)).trans (ew54))) (w55) ((funext (hA17 55 rfl)).trans ((funext (hA7 55 rfl)).trans (ew55))) (w66) ((funext (hA17 66 rfl)).trans ((funext (hA7 66 rfl)).trans (ew66))) (wq19) (ewq20) (wq21) (ewq22) (wq23) (ewq24) (show inr (1) by omega) (show 0 ≤ (1) ∧ (1) ≤ 2 by omega) (show 1 ≤ (u6_28) by omega) (show 0 ≤ ((w55)) ((1)) by assumption) (show WO ((w54)) ((w55)) by assumption) (show 1 ≤ ((w55)) ((1)) → (sh ((w54)) (64 * (1))) ((sh ((w66)) (8001 * (1))) ((u6_28) - 1)) ≠ 0 by assumption) (fun z29 σ F25 A26 H hS27 hA28 wq30 ewq31 wq32 ewq33 wq34 ewq35 pz29_0 pz29_1 pz29_2 pz29_3 pz29_4 pz29_5 pz29_6 => ⟨rfl, ?_⟩))
  refine Ew_of (pc' := 16) (fun _ => x_istore_n rfl) ?_
  refine Ew_of (pc' := 17) (fun _ => x_aload_n rfl (rk_o (rk_o (rfl) rfl rfl) rfl rfl)) ?_
  refine Ew_of (pc' := 18) (fun _ => x_iconst rfl) ?_
  refine w_inv H (o := 6) rfl rfl rfl (H.perm 6 rfl) rfl rfl (by rfl) (M442 H (u6_28) (((((hS27 6 28 rfl).trans (hS16 6 28 rfl)).trans (hS6 6 28 rfl)).trans (eu6_28))) (w54) ((funext (hA28 54 rfl)).trans ((funext (hA17 54 rfl)).trans ((funext (hA7 54 rfl)).trans (ew54)))) (w55) ((funext (hA28 55 rfl)).trans ((funext (hA17 55 rfl)).trans ((funext (hA7 55 rfl)).trans (ew55)))) (w66) ((funext (hA28 66 rfl)).trans ((funext (hA17 66 rfl)).trans ((funext (hA7 66 rfl)).trans (ew66)))) (wq30) (ewq31) (wq32) (ewq33) (wq34) (ewq35) (show inr (2) by omega) (show 0 ≤ (2) ∧ (2) ≤ 2 by omega) (show 1 ≤ (u6_28) by omega) (show 0 ≤ ((w55)) ((2)) by assumption) (show WO ((w54)) ((w55)) by assumption) (show 1 ≤ ((w55)) ((2)) → (sh ((w54)) (64 * (2))) ((sh ((w66)) (8001 * (2))) ((u6_28) - 1)) ≠ 0 by assumption) (fun z40 σ F36 A37 H hS38 hA39 wq41 ewq42 wq43 ewq44 wq45 ewq46 pz40_0 pz40_1 pz40_2 pz40_3 pz40_4 pz40_5 pz40_6 => ⟨rfl, ?_⟩))
  refine Ew_of (pc' := 22) (fun _ => x_istore_n rfl) ?_
  refine Ew_of (pc' := 23) (fun _ => x_aload_n rfl (rk_o (rk_o (rk_o (rfl) rfl rfl) rfl rfl) rfl rfl)) ?_
  refine Ew_of (pc' := 24) (fun _ => x_aload_n rfl (rk_o (rk_o (rk_o (rfl) rfl rfl) rfl rfl) rfl rfl)) ?_
  refine w_gI H (o := 6) (w := u6_28) rfl (H.perm 6 rfl) rfl rfl rfl (fun _ => rfl) (((((hS38 6 28 rfl).trans (hS27 6 28 rfl)).trans (hS16 6 28 rfl)).trans (hS6 6 28 rfl)).trans (eu6_28)) ?_
  refine Ew_of (pc' := 28) (fun _ => x_iconst rfl) ?_
  refine w_isub rfl ?_
  refine w_inv H (o := 6) rfl rfl rfl (H.perm 6 rfl) rfl rfl (by rfl) (M440 H (y9) (((((hS38 6 35 rfl).trans (hS27 6 35 rfl)).trans (hS16 6 35 rfl)).trans (ey10))) (w67) ((funext (hA39 67 rfl)).trans ((funext (hA28 67 rfl)).trans ((funext (hA17 67 rfl)).trans ((funext (hA7 67 rfl)).trans (ew67))))) (show inr ((u6_28 - 1)) by omega) (show 0 ≤ ((u6_28 - 1)) ∧ ((u6_28 - 1)) ≤ 8000 by omega) (show 0 ≤ (y9) ∧ (y9) ≤ 70000000 by omega) (fun σ F47 A48 H hS49 hA50 y52 ey53 pz51_0 => ⟨rfl, ?_⟩))
  have r54 : (0 : Int) ≤ y52 ∧ y52 ≤ 100000000 := by have h1 : (0 : Int) ≤ F47 6 35 ∧ F47 6 35 ≤ 100000000 := H.frng 6 35; rw [show F47 6 35 = y52 from (ey53)] at h1; exact h1
  refine Ew_of (pc' := 33) (fun _ => x_aload_n rfl (rk_o (rk_o (rk_o (rfl) rfl rfl) rfl rfl) rfl rfl)) ?_
  refine w_gI H (o := 6) (w := u6_28) rfl (H.perm 6 rfl) rfl rfl rfl (fun _ => rfl) ((((((hS49 6 28 rfl).trans (hS38 6 28 rfl)).trans (hS27 6 28 rfl)).trans (hS16 6 28 rfl)).trans (hS6 6 28 rfl)).trans (eu6_28)) ?_
  refine Ew_of (pc' := 37) (fun _ => x_iconst rfl) ?_
  refine w_isub rfl ?_
  refine Ew_of (pc' := 40) (fun _ => x_istore rfl) ?_
  have hbm0 := hBm (8001 * 0 + ((u6_28) - 1))
  have hbm1 := hBm (8001 * 1 + ((u6_28) - 1))
  have hbm2 := hBm (8001 * 2 + ((u6_28) - 1))
  have hsq : su (mo3 ((w67))) ((u6_28) : Int).toNat = su (mo3 ((w67))) ((u6_28) - 1 + 1 : Int).toNat := by rw [show ((u6_28) - 1 + 1 : Int) = (u6_28) by omega]
  have hsl : su (mo3 ((w67))) (((u6_28 - 2)) + 1 : Int).toNat = su (mo3 ((w67))) ((u6_28) - 1 : Int).toNat := by rw [show ((u6_28 - 2)) + 1 = (u6_28) - 1 by omega]
  have hsm := su_s (f := mo3 ((w67))) (i := (u6_28) - 1) (by omega)
  have hm3 : mo3 ((w67)) ((u6_28) - 1) = ((w67)) (8001 * 0 + ((u6_28) - 1)) + ((w67)) (8001 * 2 + ((u6_28) - 1)) + ((w67)) (8001 * 1 + ((u6_28) - 1)) := rfl
  have hs0 : STI ((w54)) ((w55)) ((wq41)) ((wq43)) ((wq45)) (sh ((w66)) (8001 * 0)) 0 ((u6_28)) (0) ((z18)) (0) := STI_0 htb0 pz18_2 pz18_3 (fun k a b => ⟨(pz40_4 k (by omega)).trans (pz29_4 k (by omega)), (pz40_5 k (by omega)).trans (pz29_5 k (by omega)), (pz40_6 k (by omega)).trans (pz29_6 k (by omega))⟩)
  have hs1 : STI ((w54)) ((w55)) ((wq41)) ((wq43)) ((wq45)) (sh ((w66)) (8001 * 1)) 1 ((u6_28)) (0) ((z29)) (0) := STI_0 htb1 pz29_2 pz29_3 (fun k a b => ⟨pz40_4 k (by omega), pz40_5 k (by omega), pz40_6 k (by omega)⟩)
  have hs2 : STI ((w54)) ((w55)) ((wq41)) ((wq43)) ((wq45)) (sh ((w66)) (8001 * 2)) 2 ((u6_28)) (0) ((z40)) (0) := STI_0 htb2 pz40_2 pz40_3 (fun k a b => ⟨rfl, rfl, rfl⟩)
  have : SSI ((w54)) ((w55)) ((wq41)) ((wq43)) ((wq45)) ((w66)) ((w67)) ((u6_28)) (((u6_28 - 2))) ((z18)) ((z29)) ((z40)) ((y52)) := ⟨0, 0, 0, by rw [show (u6_28) - 2 - (((u6_28 - 2))) = 0 by omega]; exact hs0, by rw [show (u6_28) - 2 - (((u6_28 - 2))) = 0 by omega]; exact hs1, by rw [show (u6_28) - 2 - (((u6_28 - 2))) = 0 by omega]; exact hs2, by omega⟩
  suffices hl40 : ∀ (m : Nat), ∀ (ls : rO) (σ : rS) (F_40 : hF) (A_40 : hA) (x40_1 : Int) (x40_2 : Int) (x40_3 : Int) (x40_4 : Int), rlook ls 0 = some (.ref (D 6)) → rlook ls 1 = some (I (x40_1)) → rlook ls 2 = some (I (x40_2)) → rlook ls 3 = some (I (x40_3)) → rlook ls 4 = some (I (x40_4)) → HS σ0 σ D N F_40 A_40 → SF [(6, 35)] F47 F_40 → SA [69] A48 A_40 → ∀ y40_6_35 : Int, F_40 6 35 = y40_6_35 → (inr (x40_1)) → (inr (x40_2)) → (inr (x40_3)) → (inr (x40_4)) → (-1 ≤ (x40_4) ∧ (x40_4) ≤ (u6_28) - 2) → (0 ≤ (y40_6_35) ∧ (y40_6_35) ≤ 200 * ((u6_28) - (x40_4))) → (SSI ((w54)) ((w55)) ((wq41)) ((wq43)) ((wq45)) ((w66)) ((w67)) ((u6_28)) ((x40_4)) ((x40_1)) ((x40_2)) ((x40_3)) ((y40_6_35))) → ((x40_4) + 1).toNat = m → Ew 443 (d + 3) 40 ls [] σ c s Q from
    hl40 _ _ σ _ _ (z18) (z29) (z40) ((u6_28 - 2)) (rk_o (rk_o (rk_o (rk_o (rfl) rfl rfl) rfl rfl) rfl rfl) rfl rfl) (rk_o (rk_o (rk_o (rk_s) rfl rfl) rfl rfl) rfl rfl) (rk_o (rk_o (rk_s) rfl rfl) rfl rfl) (rk_o (rk_s) rfl rfl) (rk_s) H (SF_refl) (SA_refl) (y52) ((ey53))  (show inr (z18) by omega) (show inr (z29) by omega) (show inr (z40) by omega) (show inr ((u6_28 - 2)) by omega) (show -1 ≤ ((u6_28 - 2)) ∧ ((u6_28 - 2)) ≤ (u6_28) - 2 by omega) (show 0 ≤ (y52) ∧ (y52) ≤ 200 * ((u6_28) - ((u6_28 - 2))) by omega) (show SSI ((w54)) ((w55)) ((wq41)) ((wq43)) ((wq45)) ((w66)) ((w67)) ((u6_28)) (((u6_28 - 2))) ((z18)) ((z29)) ((z40)) ((y52)) by assumption) rfl
  as_aux_lemma =>
  intro m
  induction m using Nat.strongRecOn with
  | _ m ih40 =>
    intro ls σ F_40 A_40 x40_1 x40_2 x40_3 x40_4 l40_0 l40_1 l40_2 l40_3 l40_4 H hS_40 hA_40 y40_6_35 ey40_6_35  j40_0 j40_1 j40_2 j40_3 j40_4 j40_5 j40_6 hm40
    have r55 : (0 : Int) ≤ y40_6_35 ∧ y40_6_35 ≤ 100000000 := by have h1 : (0 : Int) ≤ F_40 6 35 ∧ F_40 6 35 ≤ 100000000 := H.frng 6 35; rw [show F_40 6 35 = y40_6_35 from (ey40_6_35)] at h1; exact h1
    have j40_s : SSI ((w54)) ((w55)) ((wq41)) ((wq43)) ((wq45)) ((w66)) ((w67)) ((u6_28)) ((x40_4)) ((x40_1)) ((x40_2)) ((x40_3)) ((y40_6_35)) := by assumption
    have hBp : ∀ i, (0 : Int) ≤ (wq43) i ∧ (wq43) i ≤ 9 := fun i => by have h1 : (0 : Int) ≤ A_40 72 i ∧ A_40 72 i ≤ 9 := H.arng 72 i; rw [show A_40 72 = wq43 from (funext (hA_40 72 rfl)).trans ((funext (hA50 72 rfl)).trans (ewq44))] at h1; exact h1
    refine Ew_of (pc' := 42) (fun _ => x_iload rfl l40_4) ?_
    refine w_iflt (t := 84) rfl rfl (show inr (x40_4) by omega) (fun b56 => ?_) (fun b56 => ?_)
    · obtain ⟨x0, x1, x2, q0, q1, q2, qb⟩ := j40_s
      have hz0 : su (mo3 ((w67))) ((x40_4) + 1 : Int).toNat = 0 := by rw [show (x40_4) + 1 = 0 by omega]; rfl
      have hk0 : kO 0 = 6 := by decide
      have hk1 : kO 1 = 5 := by decide
      have hk2 : kO 2 = 6 := by decide
      have he0 := STI_end q0 htb0 (by omega) (by omega) (by rw [hk0]; omega)
      have he1 := STI_end q1 htb1 (by omega) (by omega) (by rw [hk1]; omega)
      have he2 := STI_end q2 htb2 (by omega) (by omega) (by rw [hk2]; omega)
      rw [hk0] at he0
      rw [hk1] at he1
      rw [hk2] at he2
      refine Ew_of (pc' := 85) (fun _ => x_aload_n rfl l40_0) ?_
      refine Ew_of (pc' := 86) (fun _ => x_iload_n rfl l40_3) ?_
      refine Ew_of (pc' := 87) (fun _ => x_aload_n rfl l40_0) ?_
      refine w_gT H (o := 6) (t := 55) rfl (H.perm 6 rfl) rfl rfl rfl rfl rfl rfl ?_
      refine Ew_of (pc' := 91) (fun _ => x_iconst rfl) ?_
      refine w_lI H (o := 55) (n := 3) rfl (H.perm 55 rfl) rfl rfl (H.fix 55 rfl rfl) (show 0 ≤ 2 ∧ 2 < ((3 : Nat) : Int) by omega) (by decide) (fun v57 ev57 qv57 => ?_)
      have qv57 : (-1 : Int) ≤ v57 ∧ v57 ≤ 9 := qv57
      have ev57 : (w55) (2) = v57 := (congrFun ((funext (hA_40 55 rfl)).trans ((funext (hA50 55 rfl)).trans ((funext (hA39 55 rfl)).trans ((funext (hA28 55 rfl)).trans ((funext (hA17 55 rfl)).trans ((funext (hA7 55 rfl)).trans (ew55))))))) (2)).symm.trans ev57
      refine w_inv H (o := 6) rfl rfl rfl (H.perm 6 rfl) rfl rfl (by rfl) (M389 H (y40_6_35) ((ey40_6_35)) (A_40 69) (rfl) (show inr (x40_3) by omega) (show inr (v57) by omega) (show 0 ≤ (v57) ∧ (v57) ≤ 31 by omega) (show 0 ≤ (y40_6_35) ∧ (y40_6_35) ≤ 90000000 by omega) (fun σ F58 A59 H hS60 hA61 y63 ey64 wq65 ewq66 pz62_0 pz62_1 => ⟨rfl, ?_⟩))
      have r67 : (0 : Int) ≤ y63 ∧ y63 ≤ 100000000 := by have h1 : (0 : Int) ≤ F58 6 35 ∧ F58 6 35 ≤ 100000000 := H.frng 6 35; rw [show F58 6 35 = y63 from (ey64)] at h1; exact h1
      refine Ew_of (pc' := 96) (fun _ => x_aload_n rfl l40_0) ?_
      refine Ew_of (pc' := 97) (fun _ => x_iload_n rfl l40_2) ?_
      refine Ew_of (pc' := 98) (fun _ => x_aload_n rfl l40_0) ?_
      refine w_gT H (o := 6) (t := 55) rfl (H.perm 6 rfl) rfl rfl rfl rfl rfl rfl ?_
      refine Ew_of (pc' := 102) (fun _ => x_iconst rfl) ?_
      refine w_lI H (o := 55) (n := 3) rfl (H.perm 55 rfl) rfl rfl (H.fix 55 rfl rfl) (show 0 ≤ 1 ∧ 1 < ((3 : Nat) : Int) by omega) (by decide) (fun v68 ev68 qv68 => ?_)
      have qv68 : (-1 : Int) ≤ v68 ∧ v68 ≤ 9 := qv68
      have ev68 : (w55) (1) = v68 := (congrFun ((funext (hA61 55 rfl)).trans ((funext (hA_40 55 rfl)).trans ((funext (hA50 55 rfl)).trans ((funext (hA39 55 rfl)).trans ((funext (hA28 55 rfl)).trans ((funext (hA17 55 rfl)).trans ((funext (hA7 55 rfl)).trans (ew55)))))))) (1)).symm.trans ev68
      refine w_inv H (o := 6) rfl rfl rfl (H.perm 6 rfl) rfl rfl (by rfl) (M389 H (y63) ((ey64)) (wq65) (ewq66) (show inr (x40_2) by omega) (show inr (v68) by omega) (show 0 ≤ (v68) ∧ (v68) ≤ 31 by omega) (show 0 ≤ (y63) ∧ (y63) ≤ 90000000 by omega) (fun σ F69 A70 H hS71 hA72 y74 ey75 wq76 ewq77 pz73_0 pz73_1 => ⟨rfl, ?_⟩))
      have r78 : (0 : Int) ≤ y74 ∧ y74 ≤ 100000000 := by have h1 : (0 : Int) ≤ F69 6 35 ∧ F69 6 35 ≤ 100000000 := H.frng 6 35; rw [show F69 6 35 = y74 from (ey75)] at h1; exact h1
      refine Ew_of (pc' := 107) (fun _ => x_aload_n rfl l40_0) ?_
      refine Ew_of (pc' := 108) (fun _ => x_iload_n rfl l40_1) ?_
      refine Ew_of (pc' := 109) (fun _ => x_aload_n rfl l40_0) ?_
      refine w_gT H (o := 6) (t := 55) rfl (H.perm 6 rfl) rfl rfl rfl rfl rfl rfl ?_
      refine Ew_of (pc' := 113) (fun _ => x_iconst rfl) ?_
      refine w_lI H (o := 55) (n := 3) rfl (H.perm 55 rfl) rfl rfl (H.fix 55 rfl rfl) (show 0 ≤ 0 ∧ 0 < ((3 : Nat) : Int) by omega) (by decide) (fun v79 ev79 qv79 => ?_)
      have qv79 : (-1 : Int) ≤ v79 ∧ v79 ≤ 9 := qv79
      have ev79 : (w55) (0) = v79 := (congrFun ((funext (hA72 55 rfl)).trans ((funext (hA61 55 rfl)).trans ((funext (hA_40 55 rfl)).trans ((funext (hA50 55 rfl)).trans ((funext (hA39 55 rfl)).trans ((funext (hA28 55 rfl)).trans ((funext (hA17 55 rfl)).trans ((funext (hA7 55 rfl)).trans (ew55))))))))) (0)).symm.trans ev79
      refine w_inv H (o := 6) rfl rfl rfl (H.perm 6 rfl) rfl rfl (by rfl) (M389 H (y74) ((ey75)) (wq76) (ewq77) (show inr (x40_1) by omega) (show inr (v79) by omega) (show 0 ≤ (v79) ∧ (v79) ≤ 31 by omega) (show 0 ≤ (y74) ∧ (y74) ≤ 90000000 by omega) (fun σ F80 A81 H hS82 hA83 y85 ey86 wq87 ewq88 pz84_0 pz84_1 => ⟨rfl, ?_⟩))
      have r89 : (0 : Int) ≤ y85 ∧ y85 ≤ 100000000 := by have h1 : (0 : Int) ≤ F80 6 35 ∧ F80 6 35 ≤ 100000000 := H.frng 6 35; rw [show F80 6 35 = y85 from (ey86)] at h1; exact h1
      refine Ew_of (pc' := 118) (fun _ => x_aload_n rfl l40_0) ?_
      refine Ew_of (pc' := 119) (fun _ => x_iconst rfl) ?_
      refine Ew_of (pc' := 120) (fun _ => x_iconst rfl) ?_
      refine w_inv H (o := 6) rfl rfl rfl (H.perm 6 rfl) rfl rfl (by rfl) (M389 H (y85) ((ey86)) (wq87) (ewq88) (show inr (1) by omega) (show inr (1) by omega) (show 0 ≤ (1) ∧ (1) ≤ 31 by omega) (show 0 ≤ (y85) ∧ (y85) ≤ 90000000 by omega) (fun σ F90 A91 H hS92 hA93 y95 ey96 wq97 ewq98 pz94_0 pz94_1 => ⟨rfl, ?_⟩))
      have r99 : (0 : Int) ≤ y95 ∧ y95 ≤ 100000000 := by have h1 : (0 : Int) ≤ F90 6 35 ∧ F90 6 35 ≤ 100000000 := H.frng 6 35; rw [show F90 6 35 = y95 from (ey96)] at h1; exact h1
      refine Ew_of (pc' := 124) (fun _ => x_aload_n rfl l40_0) ?_
      refine w_inv H (o := 6) rfl rfl rfl (H.perm 6 rfl) rfl rfl (by rfl) (M390 H (y95) ((ey96)) (wq97) (ewq98) (show 0 ≤ (y95) ∧ (y95) ≤ 99000000 by omega) (fun σ F100 A101 H hS102 hA103 y105 ey106 pz104_0 pz104_1 pz104_2 => ⟨rfl, ?_⟩))
      have r107 : (0 : Int) ≤ y105 ∧ y105 ≤ 100000000 := by have h1 : (0 : Int) ≤ F100 6 35 ∧ F100 6 35 ≤ 100000000 := H.frng 6 35; rw [show F100 6 35 = y105 from (ey106)] at h1; exact h1
      refine Ew_of (pc' := 128) (fun _ => x_aload_n rfl l40_0) ?_
      refine w_inv H (o := 6) rfl rfl rfl (H.perm 6 rfl) rfl rfl (by rfl) (M394 H (y105) ((ey106)) (u6_37) (((((((((((((hS102 6 37 rfl).trans (hS92 6 37 rfl)).trans (hS82 6 37 rfl)).trans (hS71 6 37 rfl)).trans (hS60 6 37 rfl)).trans (hS_40 6 37 rfl)).trans (hS49 6 37 rfl)).trans (hS38 6 37 rfl)).trans (hS27 6 37 rfl)).trans (hS16 6 37 rfl)).trans (hS6 6 37 rfl)).trans (eu6_37))) (wq97) ((funext (hA103 69 rfl)).trans (ewq98)) (A 70) ((funext (hA103 70 rfl)).trans ((funext (hA93 70 rfl)).trans ((funext (hA83 70 rfl)).trans ((funext (hA72 70 rfl)).trans ((funext (hA61 70 rfl)).trans ((funext (hA_40 70 rfl)).trans ((funext (hA50 70 rfl)).trans ((funext (hA39 70 rfl)).trans ((funext (hA28 70 rfl)).trans ((funext (hA17 70 rfl)).trans (funext (hA7 70 rfl)))))))))))) (show 0 ≤ (y105) ∧ (y105) ≤ 192000 by omega) (show 0 ≤ (u6_37) ∧ (u6_37) ≤ 90000000 by omega) (fun σ F108 A109 H hS110 hA111 y113 ey114 wq115 ewq116 pz112_0 pz112_1 => ⟨rfl, ?_⟩))
      have r117 : (0 : Int) ≤ y113 ∧ y113 ≤ 100000000 := by have h1 : (0 : Int) ≤ F108 6 37 ∧ F108 6 37 ≤ 100000000 := H.frng 6 37; rw [show F108 6 37 = y113 from (ey114)] at h1; exact h1
      exact w_ret rfl (k σ _ _ H (SF_trans (SF_trans (SF_trans (SF_trans (SF_trans (SF_trans (SF_trans (SF_trans (SF_trans (SF_trans (SF_trans (SF_trans (SF_refl) hS6 (any_sub rfl)) hS16 (any_sub rfl)) hS27 (any_sub rfl)) hS38 (any_sub rfl)) hS49 (any_sub rfl)) hS_40 (any_sub rfl)) hS60 (any_sub rfl)) hS71 (any_sub rfl)) hS82 (any_sub rfl)) hS92 (any_sub rfl)) hS102 (any_sub rfl)) hS110 (any_sub rfl)) (SA_trans (SA_trans (SA_trans (SA_trans (SA_trans (SA_trans (SA_trans (SA_trans (SA_trans (SA_trans (SA_trans (SA_trans (SA_refl) hA7 (any_subA rfl)) hA17 (any_subA rfl)) hA28 (any_subA rfl)) hA39 (any_subA rfl)) hA50 (any_subA rfl)) hA_40 (any_subA rfl)) hA61 (any_subA rfl)) hA72 (any_subA rfl)) hA83 (any_subA rfl)) hA93 (any_subA rfl)) hA103 (any_subA rfl)) hA111 (any_subA rfl)) (y113) ((ey114)) (show (u6_37) ≤ (y113) ∧ (y113) ≤ (u6_37) + 24000 by omega))
    · obtain ⟨x0, x1, x2, q0, q1, q2, qb⟩ := j40_s
      have : 1 ≤ ((w55)) (1) → 5 ≤ ((w55)) (1) ∧ LD (sh ((w54)) (64 * 1)) 64 (((w55)) (1)) (sh ((wq41)) (512 * 1)) (sh ((wq43)) (512 * 1)) (sh ((wq45)) (512 * 1)) ∧ 1 ≤ mass ((sh ((w54)) (64 * 1)) ((sh ((w66)) (8001 * 1)) ((x40_4)))) ∧ mass ((sh ((w54)) (64 * 1)) ((sh ((w66)) (8001 * 1)) ((x40_4)))) ≤ p2 (((w55)) (1)) ∧ 0 ≤ (x40_2) ∧ (x40_2) < p2 (((w55)) (1)) := STI_pre q1 htb1 (by omega) (by omega) (by omega) hr1
      have : 1 ≤ ((w55)) (2) → 5 ≤ ((w55)) (2) ∧ LD (sh ((w54)) (64 * 2)) 64 (((w55)) (2)) (sh ((wq41)) (512 * 2)) (sh ((wq43)) (512 * 2)) (sh ((wq45)) (512 * 2)) ∧ 1 ≤ mass ((sh ((w54)) (64 * 2)) ((sh ((w66)) (8001 * 2)) ((x40_4)))) ∧ mass ((sh ((w54)) (64 * 2)) ((sh ((w66)) (8001 * 2)) ((x40_4)))) ≤ p2 (((w55)) (2)) ∧ 0 ≤ (x40_3) ∧ (x40_3) < p2 (((w55)) (2)) := STI_pre q2 htb2 (by omega) (by omega) (by omega) hr2
      have : 1 ≤ ((w55)) (0) → 5 ≤ ((w55)) (0) ∧ LD (sh ((w54)) (64 * 0)) 64 (((w55)) (0)) (sh ((wq41)) (512 * 0)) (sh ((wq43)) (512 * 0)) (sh ((wq45)) (512 * 0)) ∧ 1 ≤ mass ((sh ((w54)) (64 * 0)) ((sh ((w66)) (8001 * 0)) ((x40_4)))) ∧ mass ((sh ((w54)) (64 * 0)) ((sh ((w66)) (8001 * 0)) ((x40_4)))) ≤ p2 (((w55)) (0)) ∧ 0 ≤ (x40_1) ∧ (x40_1) < p2 (((w55)) (0)) := STI_pre q0 htb0 (by omega) (by omega) (by omega) hr0
      refine Ew_of (pc' := 46) (fun _ => x_aload_n rfl l40_0) ?_
      refine Ew_of (pc' := 47) (fun _ => x_iconst rfl) ?_
      refine Ew_of (pc' := 49) (fun _ => x_iload rfl l40_4) ?_
      refine Ew_of (pc' := 50) (fun _ => x_iload_n rfl l40_2) ?_
      refine w_inv H (o := 6) rfl rfl rfl (H.perm 6 rfl) rfl rfl (by rfl) (M441 H (y40_6_35) ((ey40_6_35)) (w55) ((funext (hA_40 55 rfl)).trans ((funext (hA50 55 rfl)).trans ((funext (hA39 55 rfl)).trans ((funext (hA28 55 rfl)).trans ((funext (hA17 55 rfl)).trans ((funext (hA7 55 rfl)).trans (ew55))))))) (w66) ((funext (hA_40 66 rfl)).trans ((funext (hA50 66 rfl)).trans ((funext (hA39 66 rfl)).trans ((funext (hA28 66 rfl)).trans ((funext (hA17 66 rfl)).trans ((funext (hA7 66 rfl)).trans (ew66))))))) (wq41) ((funext (hA_40 71 rfl)).trans ((funext (hA50 71 rfl)).trans (ewq42))) (wq43) ((funext (hA_40 72 rfl)).trans ((funext (hA50 72 rfl)).trans (ewq44))) (wq45) ((funext (hA_40 73 rfl)).trans ((funext (hA50 73 rfl)).trans (ewq46))) (sh ((w54)) (64 * 1)) (show inr (1) by omega) (show inr (x40_4) by omega) (show inr (x40_2) by omega) (show 0 ≤ (1) ∧ (1) ≤ 2 by omega) (show 0 ≤ (x40_4) ∧ (x40_4) ≤ 8000 by omega) (show 0 ≤ (y40_6_35) ∧ (y40_6_35) ≤ 70000000 by omega) (show 0 ≤ ((w55)) ((1)) by assumption) (show 1 ≤ ((w55)) ((1)) → 5 ≤ ((w55)) ((1)) ∧ LD (sh ((w54)) (64 * 1)) 64 (((w55)) ((1))) (sh ((wq41)) (512 * (1))) (sh ((wq43)) (512 * (1))) (sh ((wq45)) (512 * (1))) ∧ 1 ≤ mass ((sh ((w54)) (64 * 1)) ((sh ((w66)) (8001 * (1))) ((x40_4)))) ∧ mass ((sh ((w54)) (64 * 1)) ((sh ((w66)) (8001 * (1))) ((x40_4)))) ≤ p2 (((w55)) ((1))) ∧ 0 ≤ (x40_2) ∧ (x40_2) < p2 (((w55)) ((1))) by assumption) (fun z122 σ F118 A119 H hS120 hA121 y123 ey124 pz122_0 pz122_1 pz122_2 pz122_3 => ⟨rfl, ?_⟩))
      have r125 : (0 : Int) ≤ y123 ∧ y123 ≤ 100000000 := by have h1 : (0 : Int) ≤ F118 6 35 ∧ F118 6 35 ≤ 100000000 := H.frng 6 35; rw [show F118 6 35 = y123 from (ey124)] at h1; exact h1
      have hz1 := hBp (512 * 1 + (z122))
      have hze1 : (sh ((wq43)) (512 * 1)) ((z122)) = ((wq43)) (512 * 1 + (z122)) := rfl
      refine Ew_of (pc' := 54) (fun _ => x_istore_n rfl) ?_
      refine Ew_of (pc' := 55) (fun _ => x_aload_n rfl (rk_o (l40_0) rfl rfl)) ?_
      refine Ew_of (pc' := 56) (fun _ => x_iconst rfl) ?_
      refine Ew_of (pc' := 58) (fun _ => x_iload rfl (rk_o (l40_4) rfl rfl)) ?_
      refine Ew_of (pc' := 59) (fun _ => x_iload_n rfl (rk_o (l40_3) rfl rfl)) ?_
      refine w_inv H (o := 6) rfl rfl rfl (H.perm 6 rfl) rfl rfl (by rfl) (M441 H (y123) ((ey124)) (w55) ((funext (hA121 55 rfl)).trans ((funext (hA_40 55 rfl)).trans ((funext (hA50 55 rfl)).trans ((funext (hA39 55 rfl)).trans ((funext (hA28 55 rfl)).trans ((funext (hA17 55 rfl)).trans ((funext (hA7 55 rfl)).trans (ew55)))))))) (w66) ((funext (hA121 66 rfl)).trans ((funext (hA_40 66 rfl)).trans ((funext (hA50 66 rfl)).trans ((funext (hA39 66 rfl)).trans ((funext (hA28 66 rfl)).trans ((funext (hA17 66 rfl)).trans ((funext (hA7 66 rfl)).trans (ew66)))))))) (wq41) ((funext (hA121 71 rfl)).trans ((funext (hA_40 71 rfl)).trans ((funext (hA50 71 rfl)).trans (ewq42)))) (wq43) ((funext (hA121 72 rfl)).trans ((funext (hA_40 72 rfl)).trans ((funext (hA50 72 rfl)).trans (ewq44)))) (wq45) ((funext (hA121 73 rfl)).trans ((funext (hA_40 73 rfl)).trans ((funext (hA50 73 rfl)).trans (ewq46)))) (sh ((w54)) (64 * 2)) (show inr (2) by omega) (show inr (x40_4) by omega) (show inr (x40_3) by omega) (show 0 ≤ (2) ∧ (2) ≤ 2 by omega) (show 0 ≤ (x40_4) ∧ (x40_4) ≤ 8000 by omega) (show 0 ≤ (y123) ∧ (y123) ≤ 70000000 by omega) (show 0 ≤ ((w55)) ((2)) by assumption) (show 1 ≤ ((w55)) ((2)) → 5 ≤ ((w55)) ((2)) ∧ LD (sh ((w54)) (64 * 2)) 64 (((w55)) ((2))) (sh ((wq41)) (512 * (2))) (sh ((wq43)) (512 * (2))) (sh ((wq45)) (512 * (2))) ∧ 1 ≤ mass ((sh ((w54)) (64 * 2)) ((sh ((w66)) (8001 * (2))) ((x40_4)))) ∧ mass ((sh ((w54)) (64 * 2)) ((sh ((w66)) (8001 * (2))) ((x40_4)))) ≤ p2 (((w55)) ((2))) ∧ 0 ≤ (x40_3) ∧ (x40_3) < p2 (((w55)) ((2))) by assumption) (fun z130 σ F126 A127 H hS128 hA129 y131 ey132 pz130_0 pz130_1 pz130_2 pz130_3 => ⟨rfl, ?_⟩))
      have r133 : (0 : Int) ≤ y131 ∧ y131 ≤ 100000000 := by have h1 : (0 : Int) ≤ F126 6 35 ∧ F126 6 35 ≤ 100000000 := H.frng 6 35; rw [show F126 6 35 = y131 from (ey132)] at h1; exact h1
      have hz2 := hBp (512 * 2 + (z130))
      have hze2 : (sh ((wq43)) (512 * 2)) ((z130)) = ((wq43)) (512 * 2 + (z130)) := rfl
      refine Ew_of (pc' := 63) (fun _ => x_istore_n rfl) ?_
      refine Ew_of (pc' := 64) (fun _ => x_aload_n rfl (rk_o (rk_o (l40_0) rfl rfl) rfl rfl)) ?_
      refine Ew_of (pc' := 65) (fun _ => x_iconst rfl) ?_
      refine Ew_of (pc' := 67) (fun _ => x_iload rfl (rk_o (rk_o (l40_4) rfl rfl) rfl rfl)) ?_
      refine Ew_of (pc' := 68) (fun _ => x_iload_n rfl (rk_o (rk_o (l40_1) rfl rfl) rfl rfl)) ?_
      refine w_inv H (o := 6) rfl rfl rfl (H.perm 6 rfl) rfl rfl (by rfl) (M441 H (y131) ((ey132)) (w55) ((funext (hA129 55 rfl)).trans ((funext (hA121 55 rfl)).trans ((funext (hA_40 55 rfl)).trans ((funext (hA50 55 rfl)).trans ((funext (hA39 55 rfl)).trans ((funext (hA28 55 rfl)).trans ((funext (hA17 55 rfl)).trans ((funext (hA7 55 rfl)).trans (ew55))))))))) (w66) ((funext (hA129 66 rfl)).trans ((funext (hA121 66 rfl)).trans ((funext (hA_40 66 rfl)).trans ((funext (hA50 66 rfl)).trans ((funext (hA39 66 rfl)).trans ((funext (hA28 66 rfl)).trans ((funext (hA17 66 rfl)).trans ((funext (hA7 66 rfl)).trans (ew66))))))))) (wq41) ((funext (hA129 71 rfl)).trans ((funext (hA121 71 rfl)).trans ((funext (hA_40 71 rfl)).trans ((funext (hA50 71 rfl)).trans (ewq42))))) (wq43) ((funext (hA129 72 rfl)).trans ((funext (hA121 72 rfl)).trans ((funext (hA_40 72 rfl)).trans ((funext (hA50 72 rfl)).trans (ewq44))))) (wq45) ((funext (hA129 73 rfl)).trans ((funext (hA121 73 rfl)).trans ((funext (hA_40 73 rfl)).trans ((funext (hA50 73 rfl)).trans (ewq46))))) (sh ((w54)) (64 * 0)) (show inr (0) by omega) (show inr (x40_4) by omega) (show inr (x40_1) by omega) (show 0 ≤ (0) ∧ (0) ≤ 2 by omega) (show 0 ≤ (x40_4) ∧ (x40_4) ≤ 8000 by omega) (show 0 ≤ (y131) ∧ (y131) ≤ 70000000 by omega) (show 0 ≤ ((w55)) ((0)) by assumption) (show 1 ≤ ((w55)) ((0)) → 5 ≤ ((w55)) ((0)) ∧ LD (sh ((w54)) (64 * 0)) 64 (((w55)) ((0))) (sh ((wq41)) (512 * (0))) (sh ((wq43)) (512 * (0))) (sh ((wq45)) (512 * (0))) ∧ 1 ≤ mass ((sh ((w54)) (64 * 0)) ((sh ((w66)) (8001 * (0))) ((x40_4)))) ∧ mass ((sh ((w54)) (64 * 0)) ((sh ((w66)) (8001 * (0))) ((x40_4)))) ≤ p2 (((w55)) ((0))) ∧ 0 ≤ (x40_1) ∧ (x40_1) < p2 (((w55)) ((0))) by assumption) (fun z138 σ F134 A135 H hS136 hA137 y139 ey140 pz138_0 pz138_1 pz138_2 pz138_3 => ⟨rfl, ?_⟩))
      have r141 : (0 : Int) ≤ y139 ∧ y139 ≤ 100000000 := by have h1 : (0 : Int) ≤ F134 6 35 ∧ F134 6 35 ≤ 100000000 := H.frng 6 35; rw [show F134 6 35 = y139 from (ey140)] at h1; exact h1
      have hz0 := hBp (512 * 0 + (z138))
      have hze0 : (sh ((wq43)) (512 * 0)) ((z138)) = ((wq43)) (512 * 0 + (z138)) := rfl
      refine Ew_of (pc' := 72) (fun _ => x_istore_n rfl) ?_
      refine Ew_of (pc' := 73) (fun _ => x_aload_n rfl (rk_o (rk_o (rk_o (l40_0) rfl rfl) rfl rfl) rfl rfl)) ?_
      refine Ew_of (pc' := 75) (fun _ => x_iload rfl (rk_o (rk_o (rk_o (l40_4) rfl rfl) rfl rfl) rfl rfl)) ?_
      refine w_inv H (o := 6) rfl rfl rfl (H.perm 6 rfl) rfl rfl (by rfl) (M440 H (y139) ((ey140)) (w67) ((funext (hA137 67 rfl)).trans ((funext (hA129 67 rfl)).trans ((funext (hA121 67 rfl)).trans ((funext (hA_40 67 rfl)).trans ((funext (hA50 67 rfl)).trans ((funext (hA39 67 rfl)).trans ((funext (hA28 67 rfl)).trans ((funext (hA17 67 rfl)).trans ((funext (hA7 67 rfl)).trans (ew67)))))))))) (show inr (x40_4) by omega) (show 0 ≤ (x40_4) ∧ (x40_4) ≤ 8000 by omega) (show 0 ≤ (y139) ∧ (y139) ≤ 70000000 by omega) (fun σ F142 A143 H hS144 hA145 y147 ey148 pz146_0 => ⟨rfl, ?_⟩))
      have r149 : (0 : Int) ≤ y147 ∧ y147 ≤ 100000000 := by have h1 : (0 : Int) ≤ F142 6 35 ∧ F142 6 35 ≤ 100000000 := H.frng 6 35; rw [show F142 6 35 = y147 from (ey148)] at h1; exact h1
      have hbm0 := hBm (8001 * 0 + (x40_4))
      have hbm1 := hBm (8001 * 1 + (x40_4))
      have hbm2 := hBm (8001 * 2 + (x40_4))
      have hsm := su_s (f := mo3 ((w67))) (i := (x40_4)) (by omega)
      have hm3 : mo3 ((w67)) ((x40_4)) = ((w67)) (8001 * 0 + (x40_4)) + ((w67)) (8001 * 2 + (x40_4)) + ((w67)) (8001 * 1 + (x40_4)) := rfl
      have : SSI ((w54)) ((w55)) ((wq41)) ((wq43)) ((wq45)) ((w66)) ((w67)) ((u6_28)) ((x40_4) + (-1)) ((z138)) ((z122)) ((z130)) ((y147)) := ⟨_, _, _, STI_s q0 (by omega) (by omega) pz138_2 pz138_3 (by omega), STI_s q1 (by omega) (by omega) pz122_2 pz122_3 (by omega), STI_s q2 (by omega) (by omega) pz130_2 pz130_3 (by omega), by rw [show (x40_4) + (-1) + 1 = (x40_4) by omega]; omega⟩
      refine Ew_of (pc' := 81) (fun _ => x_iinc (len := 3) rfl (rk_o (rk_o (rk_o (l40_4) rfl rfl) rfl rfl) rfl rfl)) ?_
      refine Ew_of (pc' := 40) (fun _ => x_goto rfl rfl) ?_
      exact ih40 _ (by omega) _ σ _ _ (z138) (z122) (z130) ((x40_4 + (-1))) (rk_o (rk_o (rk_o (rk_o (l40_0) rfl rfl) rfl rfl) rfl rfl) rfl rfl) (rk_o (rk_s) rfl rfl) (rk_o (rk_o (rk_o (rk_s) rfl rfl) rfl rfl) rfl rfl) (rk_o (rk_o (rk_s) rfl rfl) rfl rfl) (rk_s) H (SF_trans (SF_trans (SF_trans (SF_trans (hS_40) hS120 (any_sub rfl)) hS128 (any_sub rfl)) hS136 (any_sub rfl)) hS144 (any_sub rfl)) (SA_trans (SA_trans (SA_trans (SA_trans (hA_40) hA121 (any_subA rfl)) hA129 (any_subA rfl)) hA137 (any_subA rfl)) hA145 (any_subA rfl)) (y147) ((ey148))  (show inr (z138) by omega) (show inr (z122) by omega) (show inr (z130) by omega) (show inr ((x40_4 + (-1))) by omega) (show -1 ≤ ((x40_4 + (-1))) ∧ ((x40_4 + (-1))) ≤ (u6_28) - 2 by omega) (show 0 ≤ (y147) ∧ (y147) ≤ 200 * ((u6_28) - ((x40_4 + (-1)))) by omega) (show SSI ((w54)) ((w55)) ((wq41)) ((wq43)) ((wq45)) ((w66)) ((w67)) ((u6_28)) (((x40_4 + (-1)))) ((z138)) ((z122)) ((z130)) ((y147)) by assumption) rfl
