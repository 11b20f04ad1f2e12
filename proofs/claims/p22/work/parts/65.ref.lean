/-- Writer.rowCost -/
theorem M410_75 {σ0 σ : rS} {D N : Nat → Nat} {F : hF} {A : hA} {d c s : Nat} {Q : wQ} (H : HS σ0 σ D N F A) {a1 a3 a4 : Int} (u6_28 : Int) (eu6_28 : F 6 28 = u6_28) (w66 : Int → Int) (ew66 : A 66 = w66) (w75 : Int → Int) (ew75 : A 75 = w75) (lst : Int) (h0 : inr (a1)) (h1 : inr (a3)) (h2 : inr (a4)) (h3 : 0 ≤ (a1) ∧ (a1) ≤ 2) (h4 : SH ((w75)) (a3) 64 (a4) lst) (h5 : 0 ≤ (a3) ∧ (a3) + 64 ≤ 64) (h6 : 1 ≤ (u6_28)) (k : ∀ (z : Int) σ Fₚ Aₚ, HS σ0 σ D N Fₚ Aₚ → SF [] F Fₚ → SA [71, 72, 73, 74] A Aₚ → (inr (z)) → ((z) = -1 ∨ (a4) ≤ (z) ∧ (z) ≤ (a4) * (u6_28)) → ((z) ≠ -1 → COST (sh ((w75)) ((a3))) ((a4)) (sh ((w66)) (8001 * (a1))) ((u6_28)) ((z))) → ((∀ j, 0 ≤ j → j < (u6_28) → (sh ((w75)) ((a3))) ((sh ((w66)) (8001 * (a1))) j) ≠ 0) → (z) ≠ -1) → Q (some (I z)) σ c s) : Ew 410 (d + 2) 0 (rargs 0 [.ref (D 6), I a1, .ref (D 75), I a3, I a4]) [] σ c s Q := by
  have r1 : (0 : Int) ≤ u6_28 ∧ u6_28 ≤ 8001 := rngE (show (0 : Int) ≤ F 6 28 ∧ F 6 28 ≤ 8001 from H.frng 6 28) (show F 6 28 = u6_28 from (eu6_28))
  have hsh : SH ((w75)) (a3) 64 (a4) lst := h4
  have h59 : 5 ≤ (a4) ∧ (a4) ≤ 9 := ⟨hsh.1, hsh.2.1⟩
  have hp5 := p2_5 h59
  refine Ew_of (pcₚ := 1) (fun _ => x_iconst rfl) ?_
  refine Ew_of (pcₚ := 3) (fun _ => x_istore rfl) ?_
  have : ∀ j, 0 ≤ j → j < (0 : Int) → (sh ((w75)) ((a3))) ((sh ((w66)) (8001 * (a1))) j) ≠ 0 := fun j a b => absurd b (by omega)
  suffices hl3 : ∀ (m : Nat), ∀ (ls : rO) (σ : rS) (F_3 : hF) (A_3 : hA) (x3_5 : Int), rlook ls 0 = some (.ref (D 6)) → rlook ls 1 = some (I (a1)) → rlook ls 2 = some (.ref (D 75)) → rlook ls 3 = some (I (a3)) → rlook ls 4 = some (I (a4)) → rlook ls 5 = some (I (x3_5)) → HS σ0 σ D N F_3 A_3 → SF [] F F_3 → SA [] A A_3 → (inr (x3_5)) → ((0) ≤ (x3_5)) → ((x3_5) ≤ (0) ∨ (x3_5) ≤ ((u6_28))) → (∀ j, 0 ≤ j → j < (x3_5) → (sh ((w75)) ((a3))) ((sh ((w66)) (8001 * (a1))) j) ≠ 0) → (((u6_28)) - (x3_5)).toNat = m → Ew 410 (d + 2) 3 ls [] σ c s Q from
    hl3 _ _ σ _ _ (0) (rk_o (rfl) rfl rfl) (rk_o (rfl) rfl rfl) (rk_o (rfl) rfl rfl) (rk_o (rfl) rfl rfl) (rk_o (rfl) rfl rfl) (rk_s) H (SF_refl) (SA_refl)   (show inr (0) from q_20) (show (0) ≤ (0) from q_25) (show (0) ≤ (0) ∨ (0) ≤ ((u6_28)) from q_24) (show ∀ j, 0 ≤ j → j < (0) → (sh ((w75)) ((a3))) ((sh ((w66)) (8001 * (a1))) j) ≠ 0 by assumption) rfl
  as_aux_lemma =>
  intro m
  induction m using Nat.strongRecOn with
  | _ m ih3 =>
    intro ls σ F_3 A_3 x3_5 l3_0 l3_1 l3_2 l3_3 l3_4 l3_5 H hS_3 hA_3   j3_0 j3_1 j3_2 j3_3 hm3
    refine Ew_of (pcₚ := 5) (fun _ => x_iload rfl l3_5) ?_
    refine Ew_of (pcₚ := 6) (fun _ => x_aload_n rfl l3_0) ?_
    refine w_gI H (o := 6) (w := u6_28) rfl (H.perm 6 rfl) rfl rfl rfl (fun _ => rfl) ((hS_3 6 28 rfl).trans (eu6_28)) ?_
    refine w_icmpge (t := 40) rfl rfl (show inr (x3_5) from j3_0) (show inr (u6_28) from q_1788 r1) (fun b2 => ?_) (fun b2 => ?_)
    · have hnz : ∀ j, 0 ≤ j → j < (u6_28) → (sh ((w75)) ((a3))) ((sh ((w66)) (8001 * (a1))) j) ≠ 0 := fun j a b => j3_3 j a (by omega)
      have hms : ∀ x, 0 ≤ x → x < 64 → (sh ((w75)) ((a3))) x ≠ 0 → 1 ≤ mass ((sh ((w75)) ((a3))) x) ∧ mass ((sh ((w75)) ((a3))) x) ≤ p2 ((a4)) := fun x a b c => by have h1 := SH_le x hsh a b; have h2 := mass_eq ((sh ((w75)) ((a3))) x); have h3 : (sh ((w75)) ((a3))) x = ((w75)) ((a3) + x) := rfl; have h4 : mass ((sh ((w75)) ((a3))) x) ≤ p2 ((a4)) := h1.2.2.1; omega
      refine Ew_of (pcₚ := 41) (fun _ => x_aload_n rfl l3_0) ?_
      refine Ew_of (pcₚ := 42) (fun _ => x_aload_n rfl l3_2) ?_
      refine Ew_of (pcₚ := 43) (fun _ => x_iload_n rfl l3_3) ?_
      refine Ew_of (pcₚ := 45) (fun _ => x_bipush (z := 64) rfl (by decide)) ?_
      refine Ew_of (pcₚ := 47) (fun _ => x_iload rfl l3_4) ?_
      refine Ew_of (pcₚ := 50) (fun _ => x_sipush (z := 512) rfl (by decide)) ?_
      refine Ew_of (pcₚ := 51) (fun _ => x_iload_n rfl l3_1) ?_
      refine w_imul rfl ?_
      refine w_inv H (o := 6) rfl rfl rfl (H.perm 6 rfl) rfl rfl (by rfl) (M407_75 H (A 71) (funext (hA_3 71 rfl)) (A 72) (funext (hA_3 72 rfl)) (A 73) (funext (hA_3 73 rfl)) (w75) ((funext (hA_3 75 rfl)).trans (ew75)) (lst) (show inr (a3) from h1) (show inr (64) from q_51) (show inr (a4) from h2) (show inr ((512 * a1)) from q_1085 h3) (show SH ((w75)) (a3) (64) (a4) (lst) from hsh) (show 0 ≤ (a3) ∧ 1 ≤ (64) ∧ (64) ≤ 64 ∧ (a3) + (64) ≤ 64 from q_2114 h5) (show 0 ≤ ((512 * a1)) ∧ ((512 * a1)) + p2 ((a4)) ≤ 2048 by omega) (fun σ F3 A4 H hS5 hA6 wq8 ewq9 wq10 ewq11 wq12 ewq13 pz7_0 pz7_1 pz7_2 pz7_3 pz7_4 => ⟨rfl, ?_⟩))
      refine Ew_of (pcₚ := 56) (fun _ => x_aload_n rfl l3_0) ?_
      refine Ew_of (pcₚ := 59) (fun _ => x_sipush (z := 512) rfl (by decide)) ?_
      refine Ew_of (pcₚ := 60) (fun _ => x_iload_n rfl l3_1) ?_
      refine w_imul rfl ?_
      refine Ew_of (pcₚ := 63) (fun _ => x_iload rfl l3_4) ?_
      refine Ew_of (pcₚ := 64) (fun _ => x_aload_n rfl l3_0) ?_
      refine w_gT H (o := 6) (t := 66) rfl (H.perm 6 rfl) rfl rfl rfl rfl rfl rfl ?_
      refine Ew_of (pcₚ := 70) (fun _ => x_sipush (z := 8001) rfl (by decide)) ?_
      refine Ew_of (pcₚ := 71) (fun _ => x_iload_n rfl l3_1) ?_
      refine w_imul rfl ?_
      refine Ew_of (pcₚ := 73) (fun _ => x_aload_n rfl l3_0) ?_
      refine w_gI H (o := 6) (w := u6_28) rfl (H.perm 6 rfl) rfl rfl rfl (fun _ => rfl) (((hS5 6 28 rfl).trans (hS_3 6 28 rfl)).trans (eu6_28)) ?_
      refine w_iadd rfl ?_
      refine Ew_of (pcₚ := 78) (fun _ => x_iconst rfl) ?_
      refine w_isub rfl ?_
      refine w_lI H (o := 66) (n := 24003) rfl (H.perm 66 rfl) rfl rfl (H.fix 66 rfl rfl) (show 0 ≤ (((8001 * a1) + u6_28) - 1) ∧ (((8001 * a1) + u6_28) - 1) < ((24003 : Nat) : Int) from q_2115 h3 h6 r1) (by decide) (fun v14 ev14 qv14 => ?_)
      have qv14 : (0 : Int) ≤ v14 ∧ v14 ≤ 63 := qv14
      have ev14 : (w66) ((((8001 * a1) + u6_28) - 1)) = v14 := (congrFun ((funext (hA6 66 rfl)).trans ((funext (hA_3 66 rfl)).trans (ew66))) ((((8001 * a1) + u6_28) - 1))).symm.trans ev14
      have hlast : (sh ((w66)) (8001 * (a1))) ((u6_28) - 1) = (v14) := by show ((w66)) (8001 * (a1) + ((u6_28) - 1)) = (v14); rw [show 8001 * (a1) + ((u6_28) - 1) = 8001 * (a1) + (u6_28) - 1 by omega]; exact ev14
      have hnl := hnz ((u6_28) - 1) (by omega) (by omega)
      rw [hlast] at hnl
      have hml := hms ((v14)) (by omega) (by omega) hnl
      have : 1 ≤ mass ((sh ((w75)) ((a3))) ((v14))) := hml.1
      have : (0 : Int) = 1 → mass ((sh ((w75)) ((a3))) ((v14))) < p2 ((a4)) := fun q => absurd q (by decide)
      refine Ew_of (pcₚ := 81) (fun _ => x_iconst rfl) ?_
      refine w_inv H (o := 6) rfl rfl rfl (H.perm 6 rfl) rfl rfl (by rfl) (M408 H (wq8) (ewq9) (wq10) (ewq11) (wq12) (ewq13) (sh ((w75)) ((a3))) (show inr ((512 * a1)) from q_1085 h3) (show inr (a4) from h2) (show inr (v14) from q_2117 qv14) (show inr (0) from q_20) (show (0) = 0 ∨ (0) = 1 from q_1) (show LD (sh ((w75)) ((a3))) 64 ((a4)) (sh ((wq8)) (((512 * a1)))) (sh ((wq10)) (((512 * a1)))) (sh ((wq12)) (((512 * a1)))) from pz7_0) (show 5 ≤ (a4) ∧ (a4) ≤ 9 from h59) (show 0 ≤ ((512 * a1)) ∧ ((512 * a1)) + p2 ((a4)) ≤ 2048 by omega) (show 0 ≤ (v14) ∧ (v14) < 64 from q_2116 qv14) (show 1 ≤ mass ((sh ((w75)) ((a3))) (v14)) by assumption) (show (0) = 1 → mass ((sh ((w75)) ((a3))) (v14)) < p2 ((a4)) by assumption) (fun z19 σ F15 A16 H hS17 hA18 pz19_0 pz19_1 pz19_2 => ⟨rfl, ?_⟩))
      refine Ew_of (pcₚ := 86) (fun _ => x_istore rfl) ?_
      refine Ew_of (pcₚ := 88) (fun _ => x_iload rfl (rk_o (l3_4) rfl rfl)) ?_
      refine Ew_of (pcₚ := 90) (fun _ => x_istore rfl) ?_
      refine Ew_of (pcₚ := 91) (fun _ => x_aload_n rfl (rk_o (rk_o (l3_0) rfl rfl) rfl rfl)) ?_
      refine w_gI H (o := 6) (w := u6_28) rfl (H.perm 6 rfl) rfl rfl rfl (fun _ => rfl) ((((hS17 6 28 rfl).trans (hS5 6 28 rfl)).trans (hS_3 6 28 rfl)).trans (eu6_28)) ?_
      refine Ew_of (pcₚ := 95) (fun _ => x_iconst rfl) ?_
      refine w_isub rfl ?_
      refine Ew_of (pcₚ := 98) (fun _ => x_istore rfl) ?_
      have hlow := pz19_2
      have : CHN (sh ((wq8)) (512 * (a1))) (sh ((wq10)) (512 * (a1))) (sh ((wq12)) (512 * (a1))) ((a4)) (sh ((w66)) (8001 * (a1))) ((u6_28)) ((u6_28) - 2 - ((u6_28) - 2) : Int).toNat ((z19)) ((a4)) := by rw [show (u6_28) - 2 - ((u6_28) - 2) = 0 by omega]; exact ⟨by rw [hlast]; exact hlow, rfl⟩
      have hmu : (a4) * ((u6_28) - 1 - ((u6_28) - 2)) = (a4) := by rw [show (u6_28) - 1 - ((u6_28) - 2) = 1 by omega]; omega
      suffices hl98 : ∀ (m : Nat), ∀ (ls : rO) (σ : rS) (F_98 : hF) (A_98 : hA) (x98_5 : Int) (x98_6 : Int) (x98_7 : Int), rlook ls 0 = some (.ref (D 6)) → rlook ls 1 = some (I (a1)) → rlook ls 4 = some (I (a4)) → rlook ls 5 = some (I (x98_5)) → rlook ls 6 = some (I (x98_6)) → rlook ls 7 = some (I (x98_7)) → HS σ0 σ D N F_98 A_98 → SF [] F15 F_98 → SA [] A16 A_98 → (inr (x98_5)) → (inr (x98_6)) → (inr (x98_7)) → (-1 ≤ (x98_7) ∧ (x98_7) ≤ (u6_28) - 2) → (0 ≤ (x98_5) ∧ (x98_5) < p2 ((a4))) → (CHN (sh ((wq8)) (512 * (a1))) (sh ((wq10)) (512 * (a1))) (sh ((wq12)) (512 * (a1))) ((a4)) (sh ((w66)) (8001 * (a1))) ((u6_28)) ((u6_28) - 2 - (x98_7) : Int).toNat ((x98_5)) ((x98_6))) → ((a4) ≤ (x98_6) ∧ (x98_6) ≤ (a4) * ((u6_28) - 1 - (x98_7))) → ((x98_7) + 1).toNat = m → Ew 410 (d + 2) 98 ls [] σ c s Q from
        hl98 _ _ σ _ _ (z19) (a4) ((u6_28 - 2)) (rk_o (rk_o (rk_o (l3_0) rfl rfl) rfl rfl) rfl rfl) (rk_o (rk_o (rk_o (l3_1) rfl rfl) rfl rfl) rfl rfl) (rk_o (rk_o (rk_o (l3_4) rfl rfl) rfl rfl) rfl rfl) (rk_o (rk_o (rk_s) rfl rfl) rfl rfl) (rk_o (rk_s) rfl rfl) (rk_s) H (SF_refl) (SA_refl)   (show inr (z19) from pz19_0) (show inr (a4) from h2) (show inr ((u6_28 - 2)) from q_2120 r1) (show -1 ≤ ((u6_28 - 2)) ∧ ((u6_28 - 2)) ≤ (u6_28) - 2 from q_2119 h6) (show 0 ≤ (z19) ∧ (z19) < p2 ((a4)) from pz19_1) (show CHN (sh ((wq8)) (512 * (a1))) (sh ((wq10)) (512 * (a1))) (sh ((wq12)) (512 * (a1))) ((a4)) (sh ((w66)) (8001 * (a1))) ((u6_28)) ((u6_28) - 2 - ((u6_28 - 2)) : Int).toNat ((z19)) ((a4)) by assumption) (show (a4) ≤ (a4) ∧ (a4) ≤ (a4) * ((u6_28) - 1 - ((u6_28 - 2))) from q_2118) rfl
      as_aux_lemma =>
      intro m
      induction m using Nat.strongRecOn with
      | _ m ih98 =>
        intro ls σ F_98 A_98 x98_5 x98_6 x98_7 l98_0 l98_1 l98_4 l98_5 l98_6 l98_7 H hS_98 hA_98   j98_0 j98_1 j98_2 j98_3 j98_4 j98_5 j98_6 hm98
        refine Ew_of (pcₚ := 100) (fun _ => x_iload rfl l98_7) ?_
        refine w_iflt (t := 155) rfl rfl (show inr (x98_7) from j98_2) (fun b20 => ?_) (fun b20 => ?_)
        · have hfin : (u6_28) - 2 - (x98_7) = (u6_28) - 1 := q_2121 b20 j98_3
          have hcost : (x98_6) ≠ -1 → COST (sh ((w75)) ((a3))) ((a4)) (sh ((w66)) (8001 * (a1))) ((u6_28)) ((x98_6)) := fun _ => ⟨_, _, _, (x98_5), (show LD (sh ((w75)) ((a3))) 64 ((a4)) (sh ((wq8)) (512 * (a1))) (sh ((wq10)) (512 * (a1))) (sh ((wq12)) (512 * (a1))) from pz7_0), by rw [← hfin]; assumption⟩
          have : (∀ j, 0 ≤ j → j < (u6_28) → (sh ((w75)) ((a3))) ((sh ((w66)) (8001 * (a1))) j) ≠ 0) → (x98_6) ≠ -1 := fun _ => by omega
          have hmz : (a4) * ((u6_28) - 1 - (x98_7)) = (a4) * (u6_28) := by rw [show (u6_28) - 1 - (x98_7) = (u6_28) by omega]
          refine Ew_of (pcₚ := 157) (fun _ => x_iload rfl l98_6) ?_
          exact w_ireturn rfl (k (x98_6) σ _ _ H (SF_trans (SF_trans (SF_trans (SF_trans (SF_refl) hS_3 (any_sub rfl)) hS5 (any_sub rfl)) hS17 (any_sub rfl)) hS_98 (any_sub rfl)) (SA_trans (SA_trans (SA_trans (SA_trans (SA_refl) hA_3 (any_subA rfl)) hA6 (any_subA rfl)) hA18 (any_subA rfl)) hA_98 (any_subA rfl)) (show inr (x98_6) from j98_1) (show (x98_6) = -1 ∨ a4 ≤ (x98_6) ∧ (x98_6) ≤ a4 * (u6_28) from q_2122 hmz j98_6) (show (x98_6) ≠ -1 → COST (sh ((w75)) (a3)) (a4) (sh ((w66)) (8001 * a1)) ((u6_28)) ((x98_6)) by first | assumption | exact fun h => absurd rfl h | exact fun h => absurd h (by decide) | omega) (show (∀ j, 0 ≤ j → j < (u6_28) → (sh ((w75)) (a3)) ((sh ((w66)) (8001 * a1)) j) ≠ 0) → (x98_6) ≠ -1 by assumption))
        · refine Ew_of (pcₚ := 104) (fun _ => x_aload_n rfl l98_0) ?_
          refine Ew_of (pcₚ := 107) (fun _ => x_sipush (z := 512) rfl (by decide)) ?_
          refine Ew_of (pcₚ := 108) (fun _ => x_iload_n rfl l98_1) ?_
          refine w_imul rfl ?_
          refine Ew_of (pcₚ := 111) (fun _ => x_iload rfl l98_4) ?_
          refine Ew_of (pcₚ := 112) (fun _ => x_aload_n rfl l98_0) ?_
          refine w_gT H (o := 6) (t := 66) rfl (H.perm 6 rfl) rfl rfl rfl rfl rfl rfl ?_
          refine Ew_of (pcₚ := 118) (fun _ => x_sipush (z := 8001) rfl (by decide)) ?_
          refine Ew_of (pcₚ := 119) (fun _ => x_iload_n rfl l98_1) ?_
          refine w_imul rfl ?_
          refine Ew_of (pcₚ := 122) (fun _ => x_iload rfl l98_7) ?_
          refine w_iadd rfl ?_
          refine w_lI H (o := 66) (n := 24003) rfl (H.perm 66 rfl) rfl rfl (H.fix 66 rfl rfl) (show 0 ≤ ((8001 * a1) + x98_7) ∧ ((8001 * a1) + x98_7) < ((24003 : Nat) : Int) from q_2123 b20 h3 j98_3 r1) (by decide) (fun v21 ev21 qv21 => ?_)
          have qv21 : (0 : Int) ≤ v21 ∧ v21 ≤ 63 := qv21
          have ev21 : (w66) (((8001 * a1) + x98_7)) = v21 := (congrFun ((funext (hA_98 66 rfl)).trans ((funext (hA18 66 rfl)).trans ((funext (hA6 66 rfl)).trans ((funext (hA_3 66 rfl)).trans (ew66))))) (((8001 * a1) + x98_7))).symm.trans ev21
          have hcur : (sh ((w66)) (8001 * (a1))) ((x98_7)) = (v21) := ev21
          have hnc := hnz ((x98_7)) (by omega) (by omega)
          rw [hcur] at hnc
          have hmc : 1 ≤ mass ((sh ((w75)) ((a3))) ((v21))) ∧ mass ((sh ((w75)) ((a3))) ((v21))) ≤ p2 ((a4)) := hms ((v21)) (by omega) (by omega) hnc
          refine Ew_of (pcₚ := 126) (fun _ => x_iload rfl l98_5) ?_
          refine w_inv H (o := 6) rfl rfl rfl (H.perm 6 rfl) rfl rfl (by rfl) (M409 H (wq8) ((funext (hA_98 71 rfl)).trans ((funext (hA18 71 rfl)).trans (ewq9))) (wq10) ((funext (hA_98 72 rfl)).trans ((funext (hA18 72 rfl)).trans (ewq11))) (wq12) ((funext (hA_98 73 rfl)).trans ((funext (hA18 73 rfl)).trans (ewq13))) (sh ((w75)) ((a3))) (show inr ((512 * a1)) from q_1085 h3) (show inr (a4) from h2) (show inr (v21) from q_2117 qv21) (show inr (x98_5) from j98_0) (show LD (sh ((w75)) ((a3))) 64 ((a4)) (sh ((wq8)) (((512 * a1)))) (sh ((wq10)) (((512 * a1)))) (sh ((wq12)) (((512 * a1)))) from pz7_0) (show 5 ≤ (a4) ∧ (a4) ≤ 9 from h59) (show 0 ≤ ((512 * a1)) ∧ ((512 * a1)) + p2 ((a4)) ≤ 2048 by omega) (show 0 ≤ (v21) ∧ (v21) < 64 from q_2116 qv21) (show 1 ≤ mass ((sh ((w75)) ((a3))) (v21)) ∧ mass ((sh ((w75)) ((a3))) (v21)) ≤ p2 ((a4)) from hmc) (show 0 ≤ (x98_5) ∧ (x98_5) < p2 ((a4)) from j98_4) (fun z26 σ F22 A23 H hS24 hA25 pz26_0 pz26_1 pz26_2 => ⟨rfl, ?_⟩))
          refine Ew_of (pcₚ := 131) (fun _ => x_istore rfl) ?_
          have hld := pz26_2
          have hme : (a4) * ((u6_28) - 1 - ((x98_7) + (-1))) = (a4) * ((u6_28) - 1 - (x98_7)) + (a4) := by rw [show (u6_28) - 1 - ((x98_7) + (-1)) = (u6_28) - 1 - (x98_7) + 1 by omega, Int.mul_add]; omega
          have hti := (show TI ((wq8)) ((wq10)) ((wq12)) (512 * (a1)) ((a4)) lst from pz7_1) ((z26)) (by omega) (by omega)
          have hmx : (a4) * ((u6_28) - 1 - (x98_7)) ≤ 9 * 8001 := Int.mul_le_mul (by omega) (by omega) (by omega) (by omega)
          refine Ew_of (pcₚ := 133) (fun _ => x_iload rfl (rk_o (l98_6) rfl rfl)) ?_
          refine Ew_of (pcₚ := 134) (fun _ => x_aload_n rfl (rk_o (l98_0) rfl rfl)) ?_
          refine w_gT H (o := 6) (t := 72) rfl (H.perm 6 rfl) rfl rfl rfl rfl rfl rfl ?_
          refine Ew_of (pcₚ := 140) (fun _ => x_sipush (z := 512) rfl (by decide)) ?_
          refine Ew_of (pcₚ := 141) (fun _ => x_iload_n rfl (rk_o (l98_1) rfl rfl)) ?_
          refine w_imul rfl ?_
          refine Ew_of (pcₚ := 144) (fun _ => x_iload rfl rk_s) ?_
          refine w_iadd rfl ?_
          refine w_lI H (o := 72) (n := 2048) rfl (H.perm 72 rfl) rfl rfl (H.fix 72 rfl rfl) (show 0 ≤ ((512 * a1) + z26) ∧ ((512 * a1) + z26) < ((2048 : Nat) : Int) by omega) (by decide) (fun v27 ev27 qv27 => ?_)
          have qv27 : (0 : Int) ≤ v27 ∧ v27 ≤ 9 := qv27
          have ev27 : (wq10) (((512 * a1) + z26)) = v27 := (congrFun ((funext (hA25 72 rfl)).trans ((funext (hA_98 72 rfl)).trans ((funext (hA18 72 rfl)).trans (ewq11)))) (((512 * a1) + z26))).symm.trans ev27
          have hch : CHN (sh ((wq8)) (512 * (a1))) (sh ((wq10)) (512 * (a1))) (sh ((wq12)) (512 * (a1))) ((a4)) (sh ((w66)) (8001 * (a1))) ((u6_28)) ((u6_28) - 2 - ((x98_7) + (-1)) : Int).toNat ((z26)) ((x98_6) + (v27)) := CHN_s (i := (x98_7)) (by assumption) (by omega) (by omega) (by omega) (by rw [hcur]; exact hld) (by show _ = _ + ((wq10)) (512 * (a1) + (z26)); rw [ev27])
          refine w_iadd rfl ?_
          refine Ew_of (pcₚ := 149) (fun _ => x_istore rfl) ?_
          refine Ew_of (pcₚ := 152) (fun _ => x_iinc (len := 3) rfl (rk_o (rk_o (l98_7) rfl rfl) rfl rfl)) ?_
          refine Ew_of (pcₚ := 98) (fun _ => x_goto rfl rfl) ?_
          exact ih98 _ (msE hm98 q_1726 (q_1727 b20)) _ σ _ _ (z26) ((x98_6 + v27)) ((x98_7 + (-1))) (rk_o (rk_o (rk_o (l98_0) rfl rfl) rfl rfl) rfl rfl) (rk_o (rk_o (rk_o (l98_1) rfl rfl) rfl rfl) rfl rfl) (rk_o (rk_o (rk_o (l98_4) rfl rfl) rfl rfl) rfl rfl) (rk_o (rk_o (rk_s) rfl rfl) rfl rfl) (rk_o (rk_s) rfl rfl) (rk_s) H (SF_trans (hS_98) hS24 (any_sub rfl)) (SA_trans (hA_98) hA25 (any_subA rfl))   (show inr (z26) from pz26_0) (show inr ((x98_6 + v27)) from q_2125 hmx j98_1 j98_6 qv27) (show inr ((x98_7 + (-1))) from q_175 b20 j98_2) (show -1 ≤ ((x98_7 + (-1))) ∧ ((x98_7 + (-1))) ≤ (u6_28) - 2 from q_2124 b20 j98_3) (show 0 ≤ (z26) ∧ (z26) < p2 ((a4)) from pz26_1) (show CHN (sh ((wq8)) (512 * (a1))) (sh ((wq10)) (512 * (a1))) (sh ((wq12)) (512 * (a1))) ((a4)) (sh ((w66)) (8001 * (a1))) ((u6_28)) ((u6_28) - 2 - ((x98_7 + (-1))) : Int).toNat ((z26)) (((x98_6 + v27))) by assumption) (show (a4) ≤ ((x98_6 + v27)) ∧ ((x98_6 + v27)) ≤ (a4) * ((u6_28) - 1 - ((x98_7 + (-1)))) by omega) rfl
    · refine Ew_of (pcₚ := 13) (fun _ => x_aload_n rfl l3_2) ?_
      refine Ew_of (pcₚ := 14) (fun _ => x_iload_n rfl l3_3) ?_
      refine Ew_of (pcₚ := 15) (fun _ => x_aload_n rfl l3_0) ?_
      refine w_gT H (o := 6) (t := 66) rfl (H.perm 6 rfl) rfl rfl rfl rfl rfl rfl ?_
      refine Ew_of (pcₚ := 21) (fun _ => x_sipush (z := 8001) rfl (by decide)) ?_
      refine Ew_of (pcₚ := 22) (fun _ => x_iload_n rfl l3_1) ?_
      refine w_imul rfl ?_
      refine Ew_of (pcₚ := 25) (fun _ => x_iload rfl l3_5) ?_
      refine w_iadd rfl ?_
      refine w_lI H (o := 66) (n := 24003) rfl (H.perm 66 rfl) rfl rfl (H.fix 66 rfl rfl) (show 0 ≤ ((8001 * a1) + x3_5) ∧ ((8001 * a1) + x3_5) < ((24003 : Nat) : Int) from q_1900 b2 h3 j3_1 r1) (by decide) (fun v28 ev28 qv28 => ?_)
      have qv28 : (0 : Int) ≤ v28 ∧ v28 ≤ 63 := qv28
      have ev28 : (w66) (((8001 * a1) + x3_5)) = v28 := (congrFun ((funext (hA_3 66 rfl)).trans (ew66)) (((8001 * a1) + x3_5))).symm.trans ev28
      have hsy := ev28
      refine w_iadd rfl ?_
      refine w_lI H (o := 75) (n := 64) rfl (H.perm 75 rfl) rfl rfl (H.fix 75 rfl rfl) (show 0 ≤ (a3 + v28) ∧ (a3 + v28) < ((64 : Nat) : Int) from q_2126 h5 qv28) (by decide) (fun v29 ev29 qv29 => ?_)
      have qv29 : (-2147483648 : Int) ≤ v29 ∧ v29 ≤ 2147483647 := qv29
      have ev29 : (w75) ((a3 + v28)) = v29 := (congrFun ((funext (hA_3 75 rfl)).trans (ew75)) ((a3 + v28))).symm.trans ev29
      have hpv := ev29
      refine w_ifne (t := 34) rfl rfl (show inr (v29) from q_22 qv29) (fun b30 => ?_) (fun b30 => ?_)
      · have : ∀ j, 0 ≤ j → j < (x3_5) + 1 → (sh ((w75)) ((a3))) ((sh ((w66)) (8001 * (a1))) j) ≠ 0 := fun j a b => by by_cases e : j = (x3_5); (rw [e]; show ((w75)) ((a3) + ((w66)) (8001 * (a1) + (x3_5))) ≠ 0; rw [hsy, hpv]; omega); exact j3_3 j a (by omega)
        refine Ew_of (pcₚ := 37) (fun _ => x_iinc (len := 3) rfl (l3_5)) ?_
        refine Ew_of (pcₚ := 3) (fun _ => x_goto rfl rfl) ?_
        exact ih3 _ (msE hm3 q_31 (q_34 b2)) _ σ _ _ ((x3_5 + 1)) (rk_o (l3_0) rfl rfl) (rk_o (l3_1) rfl rfl) (rk_o (l3_2) rfl rfl) (rk_o (l3_3) rfl rfl) (rk_o (l3_4) rfl rfl) (rk_s) H (hS_3) (hA_3)   (show inr ((x3_5 + 1)) from q_1807 b2 j3_1 r1) (show (0) ≤ ((x3_5 + 1)) from q_29 j3_1) (show ((x3_5 + 1)) ≤ (0) ∨ ((x3_5 + 1)) ≤ ((u6_28)) from q_33 b2) (show ∀ j, 0 ≤ j → j < ((x3_5 + 1)) → (sh ((w75)) ((a3))) ((sh ((w66)) (8001 * (a1))) j) ≠ 0 by assumption) rfl
      · have : (∀ j, 0 ≤ j → j < (u6_28) → (sh ((w75)) ((a3))) ((sh ((w66)) (8001 * (a1))) j) ≠ 0) → (-1 : Int) ≠ -1 := fun q => absurd (q ((x3_5)) (by omega) (by omega)) (by show ¬ (((w75)) ((a3) + ((w66)) (8001 * (a1) + (x3_5))) ≠ 0); rw [hsy, hpv]; omega)
        refine Ew_of (pcₚ := 33) (fun _ => x_iconst rfl) ?_
        exact w_ireturn rfl (k ((-1)) σ _ _ H (SF_trans (SF_refl) hS_3 (any_sub rfl)) (SA_trans (SA_refl) hA_3 (any_subA rfl)) (show inr ((-1)) from q_16) (show ((-1)) = -1 ∨ a4 ≤ ((-1)) ∧ ((-1)) ≤ a4 * (u6_28) by first | exact q_2127 | omega) (show ((-1)) ≠ -1 → COST (sh ((w75)) (a3)) (a4) (sh ((w66)) (8001 * a1)) ((u6_28)) (((-1))) by first | assumption | exact fun h => absurd rfl h | exact fun h => absurd h (by decide) | omega) (show (∀ j, 0 ≤ j → j < (u6_28) → (sh ((w75)) (a3)) ((sh ((w66)) (8001 * a1)) j) ≠ 0) → ((-1)) ≠ -1 by assumption))
/-- Writer.rowCost -/
theorem M410_54 {σ0 σ : rS} {D N : Nat → Nat} {F : hF} {A : hA} {d c s : Nat} {Q : wQ} (H : HS σ0 σ D N F A) {a1 a3 a4 : Int} (u6_28 : Int) (eu6_28 : F 6 28 = u6_28) (w54 : Int → Int) (ew54 : A 54 = w54) (w66 : Int → Int) (ew66 : A 66 = w66) (lst : Int) (h0 : inr (a1)) (h1 : inr (a3)) (h2 : inr (a4)) (h3 : 0 ≤ (a1) ∧ (a1) ≤ 2) (h4 : SH ((w54)) (a3) 64 (a4) lst) (h5 : 0 ≤ (a3) ∧ (a3) + 64 ≤ 192) (h6 : 1 ≤ (u6_28)) (k : ∀ (z : Int) σ Fₚ Aₚ, HS σ0 σ D N Fₚ Aₚ → SF [] F Fₚ → SA [71, 72, 73, 74] A Aₚ → (inr (z)) → ((z) = -1 ∨ (a4) ≤ (z) ∧ (z) ≤ (a4) * (u6_28)) → ((z) ≠ -1 → COST (sh ((w54)) ((a3))) ((a4)) (sh ((w66)) (8001 * (a1))) ((u6_28)) ((z))) → ((∀ j, 0 ≤ j → j < (u6_28) → (sh ((w54)) ((a3))) ((sh ((w66)) (8001 * (a1))) j) ≠ 0) → (z) ≠ -1) → Q (some (I z)) σ c s) : Ew 410 (d + 2) 0 (rargs 0 [.ref (D 6), I a1, .ref (D 54), I a3, I a4]) [] σ c s Q := by
  have r1 : (0 : Int) ≤ u6_28 ∧ u6_28 ≤ 8001 := rngE (show (0 : Int) ≤ F 6 28 ∧ F 6 28 ≤ 8001 from H.frng 6 28) (show F 6 28 = u6_28 from (eu6_28))
  have hsh : SH ((w54)) (a3) 64 (a4) lst := h4
  have h59 : 5 ≤ (a4) ∧ (a4) ≤ 9 := ⟨hsh.1, hsh.2.1⟩
  have hp5 := p2_5 h59
  refine Ew_of (pcₚ := 1) (fun _ => x_iconst rfl) ?_
  refine Ew_of (pcₚ := 3) (fun _ => x_istore rfl) ?_
  have : ∀ j, 0 ≤ j → j < (0 : Int) → (sh ((w54)) ((a3))) ((sh ((w66)) (8001 * (a1))) j) ≠ 0 := fun j a b => absurd b (by omega)
  suffices hl3 : ∀ (m : Nat), ∀ (ls : rO) (σ : rS) (F_3 : hF) (A_3 : hA) (x3_5 : Int), rlook ls 0 = some (.ref (D 6)) → rlook ls 1 = some (I (a1)) → rlook ls 2 = some (.ref (D 54)) → rlook ls 3 = some (I (a3)) → rlook ls 4 = some (I (a4)) → rlook ls 5 = some (I (x3_5)) → HS σ0 σ D N F_3 A_3 → SF [] F F_3 → SA [] A A_3 → (inr (x3_5)) → ((0) ≤ (x3_5)) → ((x3_5) ≤ (0) ∨ (x3_5) ≤ ((u6_28))) → (∀ j, 0 ≤ j → j < (x3_5) → (sh ((w54)) ((a3))) ((sh ((w66)) (8001 * (a1))) j) ≠ 0) → (((u6_28)) - (x3_5)).toNat = m → Ew 410 (d + 2) 3 ls [] σ c s Q from
    hl3 _ _ σ _ _ (0) (rk_o (rfl) rfl rfl) (rk_o (rfl) rfl rfl) (rk_o (rfl) rfl rfl) (rk_o (rfl) rfl rfl) (rk_o (rfl) rfl rfl) (rk_s) H (SF_refl) (SA_refl)   (show inr (0) from q_20) (show (0) ≤ (0) from q_25) (show (0) ≤ (0) ∨ (0) ≤ ((u6_28)) from q_24) (show ∀ j, 0 ≤ j → j < (0) → (sh ((w54)) ((a3))) ((sh ((w66)) (8001 * (a1))) j) ≠ 0 by assumption) rfl
  as_aux_lemma =>
  intro m
  induction m using Nat.strongRecOn with
  | _ m ih3 =>
    intro ls σ F_3 A_3 x3_5 l3_0 l3_1 l3_2 l3_3 l3_4 l3_5 H hS_3 hA_3   j3_0 j3_1 j3_2 j3_3 hm3
    refine Ew_of (pcₚ := 5) (fun _ => x_iload rfl l3_5) ?_
    refine Ew_of (pcₚ := 6) (fun _ => x_aload_n rfl l3_0) ?_
    refine w_gI H (o := 6) (w := u6_28) rfl (H.perm 6 rfl) rfl rfl rfl (fun _ => rfl) ((hS_3 6 28 rfl).trans (eu6_28)) ?_
    refine w_icmpge (t := 40) rfl rfl (show inr (x3_5) from j3_0) (show inr (u6_28) from q_1788 r1) (fun b2 => ?_) (fun b2 => ?_)
    · have hnz : ∀ j, 0 ≤ j → j < (u6_28) → (sh ((w54)) ((a3))) ((sh ((w66)) (8001 * (a1))) j) ≠ 0 := fun j a b => j3_3 j a (by omega)
      have hms : ∀ x, 0 ≤ x → x < 64 → (sh ((w54)) ((a3))) x ≠ 0 → 1 ≤ mass ((sh ((w54)) ((a3))) x) ∧ mass ((sh ((w54)) ((a3))) x) ≤ p2 ((a4)) := fun x a b c => by have h1 := SH_le x hsh a b; have h2 := mass_eq ((sh ((w54)) ((a3))) x); have h3 : (sh ((w54)) ((a3))) x = ((w54)) ((a3) + x) := rfl; have h4 : mass ((sh ((w54)) ((a3))) x) ≤ p2 ((a4)) := h1.2.2.1; omega
      refine Ew_of (pcₚ := 41) (fun _ => x_aload_n rfl l3_0) ?_
      refine Ew_of (pcₚ := 42) (fun _ => x_aload_n rfl l3_2) ?_
      refine Ew_of (pcₚ := 43) (fun _ => x_iload_n rfl l3_3) ?_
      refine Ew_of (pcₚ := 45) (fun _ => x_bipush (z := 64) rfl (by decide)) ?_
      refine Ew_of (pcₚ := 47) (fun _ => x_iload rfl l3_4) ?_
      refine Ew_of (pcₚ := 50) (fun _ => x_sipush (z := 512) rfl (by decide)) ?_
      refine Ew_of (pcₚ := 51) (fun _ => x_iload_n rfl l3_1) ?_
      refine w_imul rfl ?_
      refine w_inv H (o := 6) rfl rfl rfl (H.perm 6 rfl) rfl rfl (by rfl) (M407_54 H (w54) ((funext (hA_3 54 rfl)).trans (ew54)) (A 71) (funext (hA_3 71 rfl)) (A 72) (funext (hA_3 72 rfl)) (A 73) (funext (hA_3 73 rfl)) (lst) (show inr (a3) from h1) (show inr (64) from q_51) (show inr (a4) from h2) (show inr ((512 * a1)) from q_1085 h3) (show SH ((w54)) (a3) (64) (a4) (lst) from hsh) (show 0 ≤ (a3) ∧ 1 ≤ (64) ∧ (64) ≤ 64 ∧ (a3) + (64) ≤ 192 from q_2128 h5) (show 0 ≤ ((512 * a1)) ∧ ((512 * a1)) + p2 ((a4)) ≤ 2048 by omega) (fun σ F3 A4 H hS5 hA6 wq8 ewq9 wq10 ewq11 wq12 ewq13 pz7_0 pz7_1 pz7_2 pz7_3 pz7_4 => ⟨rfl, ?_⟩))
      refine Ew_of (pcₚ := 56) (fun _ => x_aload_n rfl l3_0) ?_
      refine Ew_of (pcₚ := 59) (fun _ => x_sipush (z := 512) rfl (by decide)) ?_
      refine Ew_of (pcₚ := 60) (fun _ => x_iload_n rfl l3_1) ?_
      refine w_imul rfl ?_
      refine Ew_of (pcₚ := 63) (fun _ => x_iload rfl l3_4) ?_
      refine Ew_of (pcₚ := 64) (fun _ => x_aload_n rfl l3_0) ?_
      refine w_gT H (o := 6) (t := 66) rfl (H.perm 6 rfl) rfl rfl rfl rfl rfl rfl ?_
      refine Ew_of (pcₚ := 70) (fun _ => x_sipush (z := 8001) rfl (by decide)) ?_
      refine Ew_of (pcₚ := 71) (fun _ => x_iload_n rfl l3_1) ?_
      refine w_imul rfl ?_
      refine Ew_of (pcₚ := 73) (fun _ => x_aload_n rfl l3_0) ?_
      refine w_gI H (o := 6) (w := u6_28) rfl (H.perm 6 rfl) rfl rfl rfl (fun _ => rfl) (((hS5 6 28 rfl).trans (hS_3 6 28 rfl)).trans (eu6_28)) ?_
      refine w_iadd rfl ?_
      refine Ew_of (pcₚ := 78) (fun _ => x_iconst rfl) ?_
      refine w_isub rfl ?_
      refine w_lI H (o := 66) (n := 24003) rfl (H.perm 66 rfl) rfl rfl (H.fix 66 rfl rfl) (show 0 ≤ (((8001 * a1) + u6_28) - 1) ∧ (((8001 * a1) + u6_28) - 1) < ((24003 : Nat) : Int) from q_2115 h3 h6 r1) (by decide) (fun v14 ev14 qv14 => ?_)
      have qv14 : (0 : Int) ≤ v14 ∧ v14 ≤ 63 := qv14
      have ev14 : (w66) ((((8001 * a1) + u6_28) - 1)) = v14 := (congrFun ((funext (hA6 66 rfl)).trans ((funext (hA_3 66 rfl)).trans (ew66))) ((((8001 * a1) + u6_28) - 1))).symm.trans ev14
      have hlast : (sh ((w66)) (8001 * (a1))) ((u6_28) - 1) = (v14) := by show ((w66)) (8001 * (a1) + ((u6_28) - 1)) = (v14); rw [show 8001 * (a1) + ((u6_28) - 1) = 8001 * (a1) + (u6_28) - 1 by omega]; exact ev14
      have hnl := hnz ((u6_28) - 1) (by omega) (by omega)
      rw [hlast] at hnl
      have hml := hms ((v14)) (by omega) (by omega) hnl
      have : 1 ≤ mass ((sh ((w54)) ((a3))) ((v14))) := hml.1
      have : (0 : Int) = 1 → mass ((sh ((w54)) ((a3))) ((v14))) < p2 ((a4)) := fun q => absurd q (by decide)
      refine Ew_of (pcₚ := 81) (fun _ => x_iconst rfl) ?_
      refine w_inv H (o := 6) rfl rfl rfl (H.perm 6 rfl) rfl rfl (by rfl) (M408 H (wq8) (ewq9) (wq10) (ewq11) (wq12) (ewq13) (sh ((w54)) ((a3))) (show inr ((512 * a1)) from q_1085 h3) (show inr (a4) from h2) (show inr (v14) from q_2117 qv14) (show inr (0) from q_20) (show (0) = 0 ∨ (0) = 1 from q_1) (show LD (sh ((w54)) ((a3))) 64 ((a4)) (sh ((wq8)) (((512 * a1)))) (sh ((wq10)) (((512 * a1)))) (sh ((wq12)) (((512 * a1)))) from pz7_0) (show 5 ≤ (a4) ∧ (a4) ≤ 9 from h59) (show 0 ≤ ((512 * a1)) ∧ ((512 * a1)) + p2 ((a4)) ≤ 2048 by omega) (show 0 ≤ (v14) ∧ (v14) < 64 from q_2116 qv14) (show 1 ≤ mass ((sh ((w54)) ((a3))) (v14)) by assumption) (show (0) = 1 → mass ((sh ((w54)) ((a3))) (v14)) < p2 ((a4)) by assumption) (fun z19 σ F15 A16 H hS17 hA18 pz19_0 pz19_1 pz19_2 => ⟨rfl, ?_⟩))
      refine Ew_of (pcₚ := 86) (fun _ => x_istore rfl) ?_
      refine Ew_of (pcₚ := 88) (fun _ => x_iload rfl (rk_o (l3_4) rfl rfl)) ?_
      refine Ew_of (pcₚ := 90) (fun _ => x_istore rfl) ?_
      refine Ew_of (pcₚ := 91) (fun _ => x_aload_n rfl (rk_o (rk_o (l3_0) rfl rfl) rfl rfl)) ?_
      refine w_gI H (o := 6) (w := u6_28) rfl (H.perm 6 rfl) rfl rfl rfl (fun _ => rfl) ((((hS17 6 28 rfl).trans (hS5 6 28 rfl)).trans (hS_3 6 28 rfl)).trans (eu6_28)) ?_
      refine Ew_of (pcₚ := 95) (fun _ => x_iconst rfl) ?_
      refine w_isub rfl ?_
      refine Ew_of (pcₚ := 98) (fun _ => x_istore rfl) ?_
      have hlow := pz19_2
      have : CHN (sh ((wq8)) (512 * (a1))) (sh ((wq10)) (512 * (a1))) (sh ((wq12)) (512 * (a1))) ((a4)) (sh ((w66)) (8001 * (a1))) ((u6_28)) ((u6_28) - 2 - ((u6_28) - 2) : Int).toNat ((z19)) ((a4)) := by rw [show (u6_28) - 2 - ((u6_28) - 2) = 0 by omega]; exact ⟨by rw [hlast]; exact hlow, rfl⟩
      have hmu : (a4) * ((u6_28) - 1 - ((u6_28) - 2)) = (a4) := by rw [show (u6_28) - 1 - ((u6_28) - 2) = 1 by omega]; omega
      suffices hl98 : ∀ (m : Nat), ∀ (ls : rO) (σ : rS) (F_98 : hF) (A_98 : hA) (x98_5 : Int) (x98_6 : Int) (x98_7 : Int), rlook ls 0 = some (.ref (D 6)) → rlook ls 1 = some (I (a1)) → rlook ls 4 = some (I (a4)) → rlook ls 5 = some (I (x98_5)) → rlook ls 6 = some (I (x98_6)) → rlook ls 7 = some (I (x98_7)) → HS σ0 σ D N F_98 A_98 → SF [] F15 F_98 → SA [] A16 A_98 → (inr (x98_5)) → (inr (x98_6)) → (inr (x98_7)) → (-1 ≤ (x98_7) ∧ (x98_7) ≤ (u6_28) - 2) → (0 ≤ (x98_5) ∧ (x98_5) < p2 ((a4))) → (CHN (sh ((wq8)) (512 * (a1))) (sh ((wq10)) (512 * (a1))) (sh ((wq12)) (512 * (a1))) ((a4)) (sh ((w66)) (8001 * (a1))) ((u6_28)) ((u6_28) - 2 - (x98_7) : Int).toNat ((x98_5)) ((x98_6))) → ((a4) ≤ (x98_6) ∧ (x98_6) ≤ (a4) * ((u6_28) - 1 - (x98_7))) → ((x98_7) + 1).toNat = m → Ew 410 (d + 2) 98 ls [] σ c s Q from
        hl98 _ _ σ _ _ (z19) (a4) ((u6_28 - 2)) (rk_o (rk_o (rk_o (l3_0) rfl rfl) rfl rfl) rfl rfl) (rk_o (rk_o (rk_o (l3_1) rfl rfl) rfl rfl) rfl rfl) (rk_o (rk_o (rk_o (l3_4) rfl rfl) rfl rfl) rfl rfl) (rk_o (rk_o (rk_s) rfl rfl) rfl rfl) (rk_o (rk_s) rfl rfl) (rk_s) H (SF_refl) (SA_refl)   (show inr (z19) from pz19_0) (show inr (a4) from h2) (show inr ((u6_28 - 2)) from q_2120 r1) (show -1 ≤ ((u6_28 - 2)) ∧ ((u6_28 - 2)) ≤ (u6_28) - 2 from q_2119 h6) (show 0 ≤ (z19) ∧ (z19) < p2 ((a4)) from pz19_1) (show CHN (sh ((wq8)) (512 * (a1))) (sh ((wq10)) (512 * (a1))) (sh ((wq12)) (512 * (a1))) ((a4)) (sh ((w66)) (8001 * (a1))) ((u6_28)) ((u6_28) - 2 - ((u6_28 - 2)) : Int).toNat ((z19)) ((a4)) by assumption) (show (a4) ≤ (a4) ∧ (a4) ≤ (a4) * ((u6_28) - 1 - ((u6_28 - 2))) from q_2118) rfl
      as_aux_lemma =>
      intro m
      induction m using Nat.strongRecOn with
      | _ m ih98 =>
        intro ls σ F_98 A_98 x98_5 x98_6 x98_7 l98_0 l98_1 l98_4 l98_5 l98_6 l98_7 H hS_98 hA_98   j98_0 j98_1 j98_2 j98_3 j98_4 j98_5 j98_6 hm98
        refine Ew_of (pcₚ := 100) (fun _ => x_iload rfl l98_7) ?_
        refine w_iflt (t := 155) rfl rfl (show inr (x98_7) from j98_2) (fun b20 => ?_) (fun b20 => ?_)
        · have hfin : (u6_28) - 2 - (x98_7) = (u6_28) - 1 := q_2121 b20 j98_3
          have hcost : (x98_6) ≠ -1 → COST (sh ((w54)) ((a3))) ((a4)) (sh ((w66)) (8001 * (a1))) ((u6_28)) ((x98_6)) := fun _ => ⟨_, _, _, (x98_5), (show LD (sh ((w54)) ((a3))) 64 ((a4)) (sh ((wq8)) (512 * (a1))) (sh ((wq10)) (512 * (a1))) (sh ((wq12)) (512 * (a1))) from pz7_0), by rw [← hfin]; assumption⟩
          have : (∀ j, 0 ≤ j → j < (u6_28) → (sh ((w54)) ((a3))) ((sh ((w66)) (8001 * (a1))) j) ≠ 0) → (x98_6) ≠ -1 := fun _ => by omega
          have hmz : (a4) * ((u6_28) - 1 - (x98_7)) = (a4) * (u6_28) := by rw [show (u6_28) - 1 - (x98_7) = (u6_28) by omega]
          refine Ew_of (pcₚ := 157) (fun _ => x_iload rfl l98_6) ?_
          exact w_ireturn rfl (k (x98_6) σ _ _ H (SF_trans (SF_trans (SF_trans (SF_trans (SF_refl) hS_3 (any_sub rfl)) hS5 (any_sub rfl)) hS17 (any_sub rfl)) hS_98 (any_sub rfl)) (SA_trans (SA_trans (SA_trans (SA_trans (SA_refl) hA_3 (any_subA rfl)) hA6 (any_subA rfl)) hA18 (any_subA rfl)) hA_98 (any_subA rfl)) (show inr (x98_6) from j98_1) (show (x98_6) = -1 ∨ a4 ≤ (x98_6) ∧ (x98_6) ≤ a4 * (u6_28) from q_2122 hmz j98_6) (show (x98_6) ≠ -1 → COST (sh ((w54)) (a3)) (a4) (sh ((w66)) (8001 * a1)) ((u6_28)) ((x98_6)) by first | assumption | exact fun h => absurd rfl h | exact fun h => absurd h (by decide) | omega) (show (∀ j, 0 ≤ j → j < (u6_28) → (sh ((w54)) (a3)) ((sh ((w66)) (8001 * a1)) j) ≠ 0) → (x98_6) ≠ -1 by assumption))
        · refine Ew_of (pcₚ := 104) (fun _ => x_aload_n rfl l98_0) ?_
          refine Ew_of (pcₚ := 107) (fun _ => x_sipush (z := 512) rfl (by decide)) ?_
          refine Ew_of (pcₚ := 108) (fun _ => x_iload_n rfl l98_1) ?_
          refine w_imul rfl ?_
          refine Ew_of (pcₚ := 111) (fun _ => x_iload rfl l98_4) ?_
          refine Ew_of (pcₚ := 112) (fun _ => x_aload_n rfl l98_0) ?_
          refine w_gT H (o := 6) (t := 66) rfl (H.perm 6 rfl) rfl rfl rfl rfl rfl rfl ?_
          refine Ew_of (pcₚ := 118) (fun _ => x_sipush (z := 8001) rfl (by decide)) ?_
          refine Ew_of (pcₚ := 119) (fun _ => x_iload_n rfl l98_1) ?_
          refine w_imul rfl ?_
          refine Ew_of (pcₚ := 122) (fun _ => x_iload rfl l98_7) ?_
          refine w_iadd rfl ?_
          refine w_lI H (o := 66) (n := 24003) rfl (H.perm 66 rfl) rfl rfl (H.fix 66 rfl rfl) (show 0 ≤ ((8001 * a1) + x98_7) ∧ ((8001 * a1) + x98_7) < ((24003 : Nat) : Int) from q_2123 b20 h3 j98_3 r1) (by decide) (fun v21 ev21 qv21 => ?_)
          have qv21 : (0 : Int) ≤ v21 ∧ v21 ≤ 63 := qv21
          have ev21 : (w66) (((8001 * a1) + x98_7)) = v21 := (congrFun ((funext (hA_98 66 rfl)).trans ((funext (hA18 66 rfl)).trans ((funext (hA6 66 rfl)).trans ((funext (hA_3 66 rfl)).trans (ew66))))) (((8001 * a1) + x98_7))).symm.trans ev21
          have hcur : (sh ((w66)) (8001 * (a1))) ((x98_7)) = (v21) := ev21
          have hnc := hnz ((x98_7)) (by omega) (by omega)
          rw [hcur] at hnc
          have hmc : 1 ≤ mass ((sh ((w54)) ((a3))) ((v21))) ∧ mass ((sh ((w54)) ((a3))) ((v21))) ≤ p2 ((a4)) := hms ((v21)) (by omega) (by omega) hnc
          refine Ew_of (pcₚ := 126) (fun _ => x_iload rfl l98_5) ?_
          refine w_inv H (o := 6) rfl rfl rfl (H.perm 6 rfl) rfl rfl (by rfl) (M409 H (wq8) ((funext (hA_98 71 rfl)).trans ((funext (hA18 71 rfl)).trans (ewq9))) (wq10) ((funext (hA_98 72 rfl)).trans ((funext (hA18 72 rfl)).trans (ewq11))) (wq12) ((funext (hA_98 73 rfl)).trans ((funext (hA18 73 rfl)).trans (ewq13))) (sh ((w54)) ((a3))) (show inr ((512 * a1)) from q_1085 h3) (show inr (a4) from h2) (show inr (v21) from q_2117 qv21) (show inr (x98_5) from j98_0) (show LD (sh ((w54)) ((a3))) 64 ((a4)) (sh ((wq8)) (((512 * a1)))) (sh ((wq10)) (((512 * a1)))) (sh ((wq12)) (((512 * a1)))) from pz7_0) (show 5 ≤ (a4) ∧ (a4) ≤ 9 from h59) (show 0 ≤ ((512 * a1)) ∧ ((512 * a1)) + p2 ((a4)) ≤ 2048 by omega) (show 0 ≤ (v21) ∧ (v21) < 64 from q_2116 qv21) (show 1 ≤ mass ((sh ((w54)) ((a3))) (v21)) ∧ mass ((sh ((w54)) ((a3))) (v21)) ≤ p2 ((a4)) from hmc) (show 0 ≤ (x98_5) ∧ (x98_5) < p2 ((a4)) from j98_4) (fun z26 σ F22 A23 H hS24 hA25 pz26_0 pz26_1 pz26_2 => ⟨rfl, ?_⟩))
          refine Ew_of (pcₚ := 131) (fun _ => x_istore rfl) ?_
          have hld := pz26_2
          have hme : (a4) * ((u6_28) - 1 - ((x98_7) + (-1))) = (a4) * ((u6_28) - 1 - (x98_7)) + (a4) := by rw [show (u6_28) - 1 - ((x98_7) + (-1)) = (u6_28) - 1 - (x98_7) + 1 by omega, Int.mul_add]; omega
          have hti := (show TI ((wq8)) ((wq10)) ((wq12)) (512 * (a1)) ((a4)) lst from pz7_1) ((z26)) (by omega) (by omega)
          have hmx : (a4) * ((u6_28) - 1 - (x98_7)) ≤ 9 * 8001 := Int.mul_le_mul (by omega) (by omega) (by omega) (by omega)
          refine Ew_of (pcₚ := 133) (fun _ => x_iload rfl (rk_o (l98_6) rfl rfl)) ?_
          refine Ew_of (pcₚ := 134) (fun _ => x_aload_n rfl (rk_o (l98_0) rfl rfl)) ?_
          refine w_gT H (o := 6) (t := 72) rfl (H.perm 6 rfl) rfl rfl rfl rfl rfl rfl ?_
          refine Ew_of (pcₚ := 140) (fun _ => x_sipush (z := 512) rfl (by decide)) ?_
          refine Ew_of (pcₚ := 141) (fun _ => x_iload_n rfl (rk_o (l98_1) rfl rfl)) ?_
          refine w_imul rfl ?_
          refine Ew_of (pcₚ := 144) (fun _ => x_iload rfl rk_s) ?_
          refine w_iadd rfl ?_
          refine w_lI H (o := 72) (n := 2048) rfl (H.perm 72 rfl) rfl rfl (H.fix 72 rfl rfl) (show 0 ≤ ((512 * a1) + z26) ∧ ((512 * a1) + z26) < ((2048 : Nat) : Int) by omega) (by decide) (fun v27 ev27 qv27 => ?_)
          have qv27 : (0 : Int) ≤ v27 ∧ v27 ≤ 9 := qv27
          have ev27 : (wq10) (((512 * a1) + z26)) = v27 := (congrFun ((funext (hA25 72 rfl)).trans ((funext (hA_98 72 rfl)).trans ((funext (hA18 72 rfl)).trans (ewq11)))) (((512 * a1) + z26))).symm.trans ev27
          have hch : CHN (sh ((wq8)) (512 * (a1))) (sh ((wq10)) (512 * (a1))) (sh ((wq12)) (512 * (a1))) ((a4)) (sh ((w66)) (8001 * (a1))) ((u6_28)) ((u6_28) - 2 - ((x98_7) + (-1)) : Int).toNat ((z26)) ((x98_6) + (v27)) := CHN_s (i := (x98_7)) (by assumption) (by omega) (by omega) (by omega) (by rw [hcur]; exact hld) (by show _ = _ + ((wq10)) (512 * (a1) + (z26)); rw [ev27])
          refine w_iadd rfl ?_
          refine Ew_of (pcₚ := 149) (fun _ => x_istore rfl) ?_
          refine Ew_of (pcₚ := 152) (fun _ => x_iinc (len := 3) rfl (rk_o (rk_o (l98_7) rfl rfl) rfl rfl)) ?_
          refine Ew_of (pcₚ := 98) (fun _ => x_goto rfl rfl) ?_
          exact ih98 _ (msE hm98 q_1726 (q_1727 b20)) _ σ _ _ (z26) ((x98_6 + v27)) ((x98_7 + (-1))) (rk_o (rk_o (rk_o (l98_0) rfl rfl) rfl rfl) rfl rfl) (rk_o (rk_o (rk_o (l98_1) rfl rfl) rfl rfl) rfl rfl) (rk_o (rk_o (rk_o (l98_4) rfl rfl) rfl rfl) rfl rfl) (rk_o (rk_o (rk_s) rfl rfl) rfl rfl) (rk_o (rk_s) rfl rfl) (rk_s) H (SF_trans (hS_98) hS24 (any_sub rfl)) (SA_trans (hA_98) hA25 (any_subA rfl))   (show inr (z26) from pz26_0) (show inr ((x98_6 + v27)) from q_2125 hmx j98_1 j98_6 qv27) (show inr ((x98_7 + (-1))) from q_175 b20 j98_2) (show -1 ≤ ((x98_7 + (-1))) ∧ ((x98_7 + (-1))) ≤ (u6_28) - 2 from q_2124 b20 j98_3) (show 0 ≤ (z26) ∧ (z26) < p2 ((a4)) from pz26_1) (show CHN (sh ((wq8)) (512 * (a1))) (sh ((wq10)) (512 * (a1))) (sh ((wq12)) (512 * (a1))) ((a4)) (sh ((w66)) (8001 * (a1))) ((u6_28)) ((u6_28) - 2 - ((x98_7 + (-1))) : Int).toNat ((z26)) (((x98_6 + v27))) by assumption) (show (a4) ≤ ((x98_6 + v27)) ∧ ((x98_6 + v27)) ≤ (a4) * ((u6_28) - 1 - ((x98_7 + (-1)))) by omega) rfl
    · refine Ew_of (pcₚ := 13) (fun _ => x_aload_n rfl l3_2) ?_
      refine Ew_of (pcₚ := 14) (fun _ => x_iload_n rfl l3_3) ?_
      refine Ew_of (pcₚ := 15) (fun _ => x_aload_n rfl l3_0) ?_
      refine w_gT H (o := 6) (t := 66) rfl (H.perm 6 rfl) rfl rfl rfl rfl rfl rfl ?_
      refine Ew_of (pcₚ := 21) (fun _ => x_sipush (z := 8001) rfl (by decide)) ?_
      refine Ew_of (pcₚ := 22) (fun _ => x_iload_n rfl l3_1) ?_
      refine w_imul rfl ?_
      refine Ew_of (pcₚ := 25) (fun _ => x_iload rfl l3_5) ?_
      refine w_iadd rfl ?_
      refine w_lI H (o := 66) (n := 24003) rfl (H.perm 66 rfl) rfl rfl (H.fix 66 rfl rfl) (show 0 ≤ ((8001 * a1) + x3_5) ∧ ((8001 * a1) + x3_5) < ((24003 : Nat) : Int) from q_1900 b2 h3 j3_1 r1) (by decide) (fun v28 ev28 qv28 => ?_)
      have qv28 : (0 : Int) ≤ v28 ∧ v28 ≤ 63 := qv28
      have ev28 : (w66) (((8001 * a1) + x3_5)) = v28 := (congrFun ((funext (hA_3 66 rfl)).trans (ew66)) (((8001 * a1) + x3_5))).symm.trans ev28
      have hsy := ev28
      refine w_iadd rfl ?_
      refine w_lI H (o := 54) (n := 192) rfl (H.perm 54 rfl) rfl rfl (H.fix 54 rfl rfl) (show 0 ≤ (a3 + v28) ∧ (a3 + v28) < ((192 : Nat) : Int) from q_2129 h5 qv28) (by decide) (fun v29 ev29 qv29 => ?_)
      have qv29 : (-1 : Int) ≤ v29 ∧ v29 ≤ 512 := qv29
      have ev29 : (w54) ((a3 + v28)) = v29 := (congrFun ((funext (hA_3 54 rfl)).trans (ew54)) ((a3 + v28))).symm.trans ev29
      have hpv := ev29
      refine w_ifne (t := 34) rfl rfl (show inr (v29) from q_1055 qv29) (fun b30 => ?_) (fun b30 => ?_)
      · have : ∀ j, 0 ≤ j → j < (x3_5) + 1 → (sh ((w54)) ((a3))) ((sh ((w66)) (8001 * (a1))) j) ≠ 0 := fun j a b => by by_cases e : j = (x3_5); (rw [e]; show ((w54)) ((a3) + ((w66)) (8001 * (a1) + (x3_5))) ≠ 0; rw [hsy, hpv]; omega); exact j3_3 j a (by omega)
        refine Ew_of (pcₚ := 37) (fun _ => x_iinc (len := 3) rfl (l3_5)) ?_
        refine Ew_of (pcₚ := 3) (fun _ => x_goto rfl rfl) ?_
        exact ih3 _ (msE hm3 q_31 (q_34 b2)) _ σ _ _ ((x3_5 + 1)) (rk_o (l3_0) rfl rfl) (rk_o (l3_1) rfl rfl) (rk_o (l3_2) rfl rfl) (rk_o (l3_3) rfl rfl) (rk_o (l3_4) rfl rfl) (rk_s) H (hS_3) (hA_3)   (show inr ((x3_5 + 1)) from q_1807 b2 j3_1 r1) (show (0) ≤ ((x3_5 + 1)) from q_29 j3_1) (show ((x3_5 + 1)) ≤ (0) ∨ ((x3_5 + 1)) ≤ ((u6_28)) from q_33 b2) (show ∀ j, 0 ≤ j → j < ((x3_5 + 1)) → (sh ((w54)) ((a3))) ((sh ((w66)) (8001 * (a1))) j) ≠ 0 by assumption) rfl
      · have : (∀ j, 0 ≤ j → j < (u6_28) → (sh ((w54)) ((a3))) ((sh ((w66)) (8001 * (a1))) j) ≠ 0) → (-1 : Int) ≠ -1 := fun q => absurd (q ((x3_5)) (by omega) (by omega)) (by show ¬ (((w54)) ((a3) + ((w66)) (8001 * (a1) + (x3_5))) ≠ 0); rw [hsy, hpv]; omega)
        refine Ew_of (pcₚ := 33) (fun _ => x_iconst rfl) ?_
        exact w_ireturn rfl (k ((-1)) σ _ _ H (SF_trans (SF_refl) hS_3 (any_sub rfl)) (SA_trans (SA_refl) hA_3 (any_subA rfl)) (show inr ((-1)) from q_16) (show ((-1)) = -1 ∨ a4 ≤ ((-1)) ∧ ((-1)) ≤ a4 * (u6_28) by first | exact q_2127 | omega) (show ((-1)) ≠ -1 → COST (sh ((w54)) (a3)) (a4) (sh ((w66)) (8001 * a1)) ((u6_28)) (((-1))) by first | assumption | exact fun h => absurd rfl h | exact fun h => absurd h (by decide) | omega) (show (∀ j, 0 ≤ j → j < (u6_28) → (sh ((w54)) (a3)) ((sh ((w66)) (8001 * a1)) j) ≠ 0) → ((-1)) ≠ -1 by assumption))
