/-- Writer.sayHead -/
theorem M435b {σ0 σ : rS} {D N : Nat → Nat} {F : hF} {A : hA} {d c s : Nat} {Q : wQ} (H : HS σ0 σ D N F A) {a1 a2 a3 : Int} (u6_30 : Int) (eu6_30 : F 6 30 = u6_30) (u6_37 : Int) (eu6_37 : F 6 37 = u6_37) (w70 : Int → Int) (ew70 : A 70 = w70) (h0 : inr (a1)) (h1 : inr (a2)) (h2 : inr (a3)) (h3 : -1 ≤ (a2) ∧ (a2) ≤ 3) (h4 : 0 ≤ (u6_37) ∧ (u6_37) ≤ 80000000) (k : ∀ σ F' A', HS σ0 σ D N F' A' → SF [(6, 37)] F F' → SA [70] A A' → ∀ y6_37 : Int, F' 6 37 = y6_37 → ∀ v70 : Int → Int, A' 70 = v70 → ((u6_37) ≤ (y6_37) ∧ (y6_37) ≤ (u6_37) + 5) → (IMP (0 ≤ (a1) ∧ (a1) ≤ 3 ∧ 0 ≤ (a2) ∧ 0 ≤ (a3) ∧ (a3) < 262144 ∧ (u6_30) < p2 (wdF ((a2)))) (QAP 65536 ((w70)) ((u6_37)) ((v70)) ((y6_37)) (nb (HDV ((a1)) ((a2)) ((u6_30)) ((a3)) (wdF ((a2)))) (hbF ((a2)))))) → Q none σ c s) : Ew 435 (d + 2) 0 (rargs 0 [.ref (D 6), I a1, I a2, I a3]) [] σ c s Q := by
  have r1 : (0 : Int) ≤ u6_30 ∧ u6_30 ≤ 16385 := by have h1 : (0 : Int) ≤ F 6 30 ∧ F 6 30 ≤ 16385 := H.frng 6 30; rw [show F 6 30 = u6_30 from (eu6_30)] at h1; exact h1
  have r2 : (0 : Int) ≤ u6_37 ∧ u6_37 ≤ 100000000 := by have h1 : (0 : Int) ≤ F 6 37 ∧ F 6 37 ≤ 100000000 := H.frng 6 37; rw [show F 6 37 = u6_37 from (eu6_37)] at h1; exact h1
  refine Ew_of (pc' := 1) (fun _ => x_aload_n rfl rfl) ?_
  refine Ew_of (pc' := 2) (fun _ => x_iload_n rfl rfl) ?_
  refine w_i2l rfl (show inr (a1) by omega) ?_
  refine Ew_of (pc' := 4) (fun _ => x_iload_n rfl rfl) ?_
  refine w_i2l rfl (show inr (a2) by omega) ?_
  refine Ew_of (pc' := 6) (fun _ => x_iconst rfl) ?_
  refine w_lshlE rfl ?_
  have g3 : inrJ (shlJ (a2) (2)) := toJ_inr _
  refine w_lorE rfl ?_
  have g4 : inrJ (orJ (a1) ((shlJ (a2) (2)))) := toJ_inr _
  refine Ew_of (pc' := 9) (fun _ => x_aload_n rfl rfl) ?_
  refine w_gI H (o := 6) (w := u6_30) rfl (H.perm 6 rfl) rfl rfl rfl (fun _ => rfl) (eu6_30) ?_
  refine w_i2l rfl (show inr (u6_30) by omega) ?_
  refine Ew_of (pc' := 14) (fun _ => x_iconst rfl) ?_
  refine w_lshlE rfl ?_
  have g5 : inrJ (shlJ (u6_30) (4)) := toJ_inr _
  refine w_lorE rfl ?_
  have g6 : inrJ (orJ ((orJ (a1) ((shlJ (a2) (2))))) ((shlJ (u6_30) (4)))) := toJ_inr _
  refine Ew_of (pc' := 17) (fun _ => x_iload_n rfl rfl) ?_
  refine w_i2l rfl (show inr (a3) by omega) ?_
  refine Ew_of (pc' := 19) (fun _ => x_iconst rfl) ?_
  refine Ew_of (pc' := 20) (fun _ => x_iload_n rfl rfl) ?_
  refine w_stat24 rfl rfl (by rfl) (M427 H (show inr (a2) by omega) (fun z11 σ F7 A8 H hS9 hA10 pz11_0 pz11_1 pz11_2 => ⟨rfl, ?_⟩))
  have hw20 : z11 = wdF ((a2)) := wdF_e pz11_2
  refine w_iadd rfl ?_
  refine w_lshlE rfl ?_
  have g12 : inrJ (shlJ (a3) ((4 + z11))) := toJ_inr _
  refine w_lorE rfl ?_
  have g13 : inrJ (orJ ((orJ ((orJ (a1) ((shlJ (a2) (2))))) ((shlJ (u6_30) (4))))) ((shlJ (a3) ((4 + z11))))) := toJ_inr _
  obtain ⟨qh, hqh⟩ : ∃ q : Int, q = ((orJ ((orJ ((orJ (a1) ((shlJ (a2) (2))))) ((shlJ (u6_30) (4))))) ((shlJ (a3) ((4 + z11)))))) := ⟨_, rfl⟩
  rw [← hqh]
  have gqh : inrJ qh := by rw [hqh]; first | assumption | omega
  replace hqh : IMP True (qh = ((orJ ((orJ ((orJ (a1) ((shlJ (a2) (2))))) ((shlJ (u6_30) (4))))) ((shlJ (a3) ((4 + z11))))))) := fun _ => hqh
  try clear g13
  try clear g12
  try clear g6
  try clear g5
  try clear g4
  try clear g3
  refine Ew_of (pc' := 27) (fun _ => x_iload_n rfl rfl) ?_
  refine w_stat24 rfl rfl (by rfl) (M428 H (show inr (a2) by omega) (fun z18 σ F14 A15 H hS16 hA17 pz18_0 pz18_1 pz18_2 => ⟨rfl, ?_⟩))
  have hb27 : z18 = hbF ((a2)) := hbF_e pz18_2
  refine w_inv H (o := 6) rfl rfl rfl (H.perm 6 rfl) rfl rfl (by rfl) (M393 H (u6_37) ((((hS16 6 37 rfl).trans (hS9 6 37 rfl)).trans (eu6_37))) (w70) ((funext (hA17 70 rfl)).trans ((funext (hA10 70 rfl)).trans (ew70))) (show inrJ (qh) by omega) (show inr (z18) by omega) (show 0 ≤ (z18) ∧ (z18) ≤ 8 by omega) (show 0 ≤ (u6_37) ∧ (u6_37) ≤ 90000000 by omega) (fun σ F19 A20 H hS21 hA22 y24 ey25 wq26 ewq27 pz23_0 pz23_1 => ⟨rfl, ?_⟩))
  have r28 : (0 : Int) ≤ y24 ∧ y24 ≤ 100000000 := by have h1 : (0 : Int) ≤ F19 6 37 ∧ F19 6 37 ≤ 100000000 := H.frng 6 37; rw [show F19 6 37 = y24 from (ey25)] at h1; exact h1
  have : IMP (0 ≤ (a1) ∧ (a1) ≤ 3 ∧ 0 ≤ (a2) ∧ 0 ≤ (a3) ∧ (a3) < 262144 ∧ (u6_30) < p2 (wdF ((a2)))) (QAP 65536 ((w70)) ((u6_37)) ((wq26)) ((y24)) (nb (HDV ((a1)) ((a2)) ((u6_30)) ((a3)) (wdF ((a2)))) (hbF ((a2))))) := fun q => by have hqv : qh = HDV ((a1)) ((a2)) ((u6_30)) ((a3)) (wdF ((a2))) := (hqh trivial).trans (by rw [hw20]; exact HDR ⟨q.1, q.2.1⟩ (by have := q.2.2.1; omega) wdF_r ⟨by omega, q.2.2.2.2.2⟩ ⟨q.2.2.2.1, q.2.2.2.2.1⟩); rw [← hqv, ← hb27]; exact pz23_1
  exact w_ret rfl (k σ _ _ H (SF_trans (SF_trans (SF_trans (SF_refl) hS9 (any_sub rfl)) hS16 (any_sub rfl)) hS21 (any_sub rfl)) (SA_trans (SA_trans (SA_trans (SA_refl) hA10 (any_subA rfl)) hA17 (any_subA rfl)) hA22 (any_subA rfl)) (y24) ((ey25)) (wq26) (ewq27) (show (u6_37) ≤ (y24) ∧ (y24) ≤ (u6_37) + 5 by omega) (show IMP (0 ≤ a1 ∧ a1 ≤ 3 ∧ 0 ≤ a2 ∧ 0 ≤ a3 ∧ a3 < 262144 ∧ (u6_30) < p2 (wdF (a2))) (QAP 65536 ((w70)) ((u6_37)) ((wq26)) ((y24)) (nb (HDV (a1) (a2) ((u6_30)) (a3) (wdF (a2))) (hbF (a2)))) by assumption))
/-- Writer.sayLiterals -/
theorem M434 {σ0 σ : rS} {D N : Nat → Nat} {F : hF} {A : hA} {d c s : Nat} {Q : wQ} (H : HS σ0 σ D N F A)  (u6_12 : Int) (eu6_12 : F 6 12 = u6_12) (u6_37 : Int) (eu6_37 : F 6 37 = u6_37) (w53 : Int → Int) (ew53 : A 53 = w53) (h0 : WC ((u6_12)) ((w53))) (h1 : 0 ≤ (u6_37) ∧ (u6_37) ≤ 50000000) (k : ∀ (z : Int) σ F' A', HS σ0 σ D N F' A' → SF [(6, 12), (6, 35), (6, 37), (6, 49), (6, 53)] F F' → SA [53, 69, 70, 71, 72, 73, 74, 75, 76, 77, 78, 79, 80, 81, 82, 83, 84] A A' → ∀ y6_12 : Int, F' 6 12 = y6_12 → ∀ y6_37 : Int, F' 6 37 = y6_37 → ∀ v53 : Int → Int, A' 53 = v53 → (inr (z)) → (0 ≤ (z) ∧ (z) ≤ 3) → (WC ((y6_12)) ((v53))) → ((u6_37) ≤ (y6_37) ∧ (y6_37) ≤ (u6_37) + 70000) → Q (some (I z)) σ c s) : Ew 434 (d + 4) 0 (rargs 0 [.ref (D 6)]) [] σ c s Q := by
  have r1 : (0 : Int) ≤ u6_12 ∧ u6_12 ≤ 11 := by have h1 : (0 : Int) ≤ F 6 12 ∧ F 6 12 ≤ 11 := H.frng 6 12; rw [show F 6 12 = u6_12 from (eu6_12)] at h1; exact h1
  have r2 : (0 : Int) ≤ u6_37 ∧ u6_37 ≤ 100000000 := by have h1 : (0 : Int) ≤ F 6 37 ∧ F 6 37 ≤ 100000000 := H.frng 6 37; rw [show F 6 37 = u6_37 from (eu6_37)] at h1; exact h1
  have hB : ∀ i, (0 : Int) ≤ (w53) i ∧ (w53) i ≤ 11 := fun i => by have h1 : (0 : Int) ≤ A 53 i ∧ A 53 i ≤ 11 := H.arng 53 i; rw [show A 53 = w53 from ew53] at h1; exact h1
  have hbd : BD ((w53)) := fun i _ _ => hB i
  have hwc : WC ((u6_12)) ((w53)) := by assumption
  refine Ew_of (pc' := 1) (fun _ => x_aload_n rfl rfl) ?_
  have r3 : (0 : Int) ≤ F 6 30 ∧ F 6 30 ≤ 16385 := by have h1 : (0 : Int) ≤ F 6 30 ∧ F 6 30 ≤ 16385 := H.frng 6 30; rw [show F 6 30 = F 6 30 from rfl] at h1; exact h1
  refine w_gI H (o := 6) (w := F 6 30) rfl (H.perm 6 rfl) rfl rfl rfl (fun _ => rfl) rfl ?_
  refine Ew_of (pc' := 5) (fun _ => x_istore_n rfl) ?_
  refine Ew_of (pc' := 6) (fun _ => x_iload_n rfl rk_s) ?_
  refine Ew_of (pc' := 8) (fun _ => x_bipush (z := 32) rfl (by decide)) ?_
  have hc27 : ∀ (tc27_0 : Int), ∀ (ls : rO) (σ : rS) (F_c27 : hF) (A_c27 : hA) , rlook ls 0 = some (.ref (D 6)) → rlook ls 1 = some (I (F 6 30)) → HS σ0 σ D N F_c27 A_c27 → SF [] F F_c27 → SA [] A A_c27 → (inr (tc27_0)) → (((F 6 30) ≥ (32) ∧ (F 6 30) ≥ (4096) ∧ (tc27_0) = (3)) ∨ ((F 6 30) ≥ (32) ∧ (F 6 30) < (4096) ∧ (tc27_0) = (2)) ∨ ((F 6 30) < (32) ∧ (tc27_0) = (1))) → Ew 434 (d + 4) 27 ls [I (tc27_0)] σ c s Q := by
   as_aux_lemma =>
    intro tc27_0 ls σ F_c27 A_c27  lc27_0 lc27_1 H hS_c27 hA_c27   jc27_0 jc27_1
    refine Ew_of (pc' := 28) (fun _ => x_istore_n rfl) ?_
    refine Ew_of (pc' := 29) (fun _ => x_iload_n rfl rk_s) ?_
    refine Ew_of (pc' := 30) (fun _ => x_iload_n rfl (rk_o (lc27_1) rfl rfl)) ?_
    refine w_iadd rfl ?_
    refine Ew_of (pc' := 32) (fun _ => x_istore_n rfl) ?_
    refine Ew_of (pc' := 33) (fun _ => x_iconst rfl) ?_
    refine Ew_of (pc' := 35) (fun _ => x_istore rfl) ?_
    have hc56 : ∀ (ls : rO) (σ : rS) (F_c56 : hF) (A_c56 : hA) (xc56_3 : Int) (xc56_4 : Int), rlook ls 0 = some (.ref (D 6)) → rlook ls 1 = some (I (F 6 30)) → rlook ls 2 = some (I (tc27_0)) → rlook ls 3 = some (I (xc56_3)) → rlook ls 4 = some (I (xc56_4)) → HS σ0 σ D N F_c56 A_c56 → SF [] F_c27 F_c56 → SA [] A_c27 A_c56 → (inr (xc56_3)) → (inr (xc56_4)) → ((xc56_4) = 0 ∨ (xc56_4) = 1 ∧ 1 ≤ (F 6 30)) → (0 ≤ (xc56_3) ∧ (xc56_3) ≤ 20000) → Ew 434 (d + 4) 56 ls [] σ c s Q := by
     as_aux_lemma =>
      intro  ls σ F_c56 A_c56 xc56_3 xc56_4 lc56_0 lc56_1 lc56_2 lc56_3 lc56_4 H hS_c56 hA_c56   jc56_0 jc56_1 jc56_2 jc56_3
      have hc111 : ∀ (ls : rO) (σ : rS) (F_c111 : hF) (A_c111 : hA) (xc111_3 : Int) (xc111_4 : Int), rlook ls 0 = some (.ref (D 6)) → rlook ls 1 = some (I (F 6 30)) → rlook ls 2 = some (I (tc27_0)) → rlook ls 3 = some (I (xc111_3)) → rlook ls 4 = some (I (xc111_4)) → HS σ0 σ D N F_c111 A_c111 → SF [] F_c56 F_c111 → SA [] A_c56 A_c111 → (inr (xc111_3)) → (inr (xc111_4)) → ((xc111_4) = 0 ∨ (xc111_4) = 1 ∧ 1 ≤ (F 6 30) ∨ (xc111_4) = 3) → (0 ≤ (xc111_3) ∧ (xc111_3) ≤ 100000) → ((xc111_4) = 3 → ∀ k, 0 ≤ k → k < (F 6 30) → ((w53)) (((A 65)) k) ≠ 0) → ((xc111_4) = 3 → CI ((w53)) ((u6_12))) → Ew 434 (d + 4) 111 ls [] σ c s Q := by
       as_aux_lemma =>
        intro  ls σ F_c111 A_c111 xc111_3 xc111_4 lc111_0 lc111_1 lc111_2 lc111_3 lc111_4 H hS_c111 hA_c111   jc111_0 jc111_1 jc111_2 jc111_3 jc111_4 jc111_5
        have hc239 : ∀ (ls : rO) (σ : rS) (F_c239 : hF) (A_c239 : hA) (xc239_4 : Int), rlook ls 0 = some (.ref (D 6)) → rlook ls 1 = some (I (F 6 30)) → rlook ls 2 = some (I (tc27_0)) → rlook ls 4 = some (I (xc239_4)) → HS σ0 σ D N F_c239 A_c239 → SF [(6, 12), (6, 35), (6, 37), (6, 49), (6, 53)] F_c111 F_c239 → SA [53, 69, 70, 71, 72, 73, 74, 75, 76, 77, 78, 79, 80, 81, 82, 84] A_c111 A_c239 → ∀ yc239_6_12 : Int, F_c239 6 12 = yc239_6_12 → ∀ yc239_6_37 : Int, F_c239 6 37 = yc239_6_37 → ∀ wc239_53 : Int → Int, A_c239 53 = wc239_53 → (inr (xc239_4)) → (0 ≤ (xc239_4) ∧ (xc239_4) ≤ 3) → ((xc239_4) ≠ 1 ∨ 1 ≤ (F 6 30)) → (2 ≤ (xc239_4) → ∀ k, 0 ≤ k → k < (F 6 30) → ((wc239_53)) (((A 65)) k) ≠ 0) → (2 ≤ (xc239_4) → CI ((wc239_53)) ((yc239_6_12))) → (WC ((yc239_6_12)) ((wc239_53))) → ((u6_37) ≤ (yc239_6_37) ∧ (yc239_6_37) ≤ (u6_37) + 300) → Ew 434 (d + 4) 239 ls [] σ c s Q := by
         as_aux_lemma =>
          intro  ls σ F_c239 A_c239 xc239_4 lc239_0 lc239_1 lc239_2 lc239_4 H hS_c239 hA_c239 yc239_6_12 eyc239_6_12 yc239_6_37 eyc239_6_37 wc239_53 ewc239_53 jc239_0 jc239_1 jc239_2 jc239_3 jc239_4 jc239_5 jc239_6
          have r4 : (0 : Int) ≤ yc239_6_12 ∧ yc239_6_12 ≤ 11 := by have h1 : (0 : Int) ≤ F_c239 6 12 ∧ F_c239 6 12 ≤ 11 := H.frng 6 12; rw [show F_c239 6 12 = yc239_6_12 from (eyc239_6_12)] at h1; exact h1
          have r5 : (0 : Int) ≤ yc239_6_37 ∧ yc239_6_37 ≤ 100000000 := by have h1 : (0 : Int) ≤ F_c239 6 37 ∧ F_c239 6 37 ≤ 100000000 := H.frng 6 37; rw [show F_c239 6 37 = yc239_6_37 from (eyc239_6_37)] at h1; exact h1
          refine Ew_of (pc' := 241) (fun _ => x_iload rfl lc239_4) ?_
          refine Ew_of (pc' := 242) (fun _ => x_iconst rfl) ?_
          refine w_icmpge (t := 330) rfl rfl (show inr (xc239_4) by omega) (show inr (2) by omega) (fun b6 => ?_) (fun b6 => ?_)
          · have hc361 : ∀ (ls : rO) (σ : rS) (F_c361 : hF) (A_c361 : hA) , rlook ls 0 = some (.ref (D 6)) → rlook ls 1 = some (I (F 6 30)) → rlook ls 4 = some (I (xc239_4)) → HS σ0 σ D N F_c361 A_c361 → SF [(6, 37)] F_c239 F_c361 → SA [70] A_c239 A_c361 → ∀ yc361_6_37 : Int, F_c361 6 37 = yc361_6_37 → ((yc239_6_37) ≤ (yc361_6_37) ∧ (yc361_6_37) ≤ (yc239_6_37) + 5) → Ew 434 (d + 4) 361 ls [] σ c s Q := by
             as_aux_lemma =>
              intro  ls σ F_c361 A_c361  lc361_0 lc361_1 lc361_4 H hS_c361 hA_c361 yc361_6_37 eyc361_6_37  jc361_0
              have r7 : (0 : Int) ≤ yc361_6_37 ∧ yc361_6_37 ≤ 100000000 := by have h1 : (0 : Int) ≤ F_c361 6 37 ∧ F_c361 6 37 ≤ 100000000 := H.frng 6 37; rw [show F_c361 6 37 = yc361_6_37 from (eyc361_6_37)] at h1; exact h1
              have hcl : CI ((wc239_53)) ((yc239_6_12)) := (show 2 ≤ (xc239_4) → CI ((wc239_53)) ((yc239_6_12)) from by assumption) (by omega)
              have hcdd : ∀ k, 0 ≤ k → k < (F 6 30) → ((wc239_53)) (((A 65)) k) ≠ 0 := (show 2 ≤ (xc239_4) → ∀ k, 0 ≤ k → k < (F 6 30) → ((wc239_53)) (((A 65)) k) ≠ 0 from by assumption) (by omega)
              refine Ew_of (pc' := 362) (fun _ => x_aload_n rfl lc361_0) ?_
              refine Ew_of (pc' := 363) (fun _ => x_aload_n rfl lc361_0) ?_
              refine w_gT H (o := 6) (t := 53) rfl (H.perm 6 rfl) rfl rfl rfl rfl rfl rfl ?_
              refine Ew_of (pc' := 367) (fun _ => x_aload_n rfl lc361_0) ?_
              refine w_gI H (o := 6) (w := yc239_6_12) rfl (H.perm 6 rfl) rfl rfl rfl (fun _ => rfl) ((hS_c361 6 12 rfl).trans (eyc239_6_12)) ?_
              refine w_inv H (o := 6) rfl rfl rfl (H.perm 6 rfl) rfl rfl (by rfl) (M430_53 H (wc239_53) ((funext (hA_c361 53 rfl)).trans (ewc239_53)) (show inr (yc239_6_12) by omega) (show CI ((wc239_53)) ((yc239_6_12)) by assumption) (fun σ F8 A9 H hS10 hA11 wq13 ewq14 pz12_0 pz12_1 => ⟨rfl, ?_⟩))
              refine Ew_of (pc' := 374) (fun _ => x_aload_n rfl lc361_0) ?_
              have r15 : (0 : Int) ≤ F_c239 6 35 ∧ F_c239 6 35 ≤ 100000000 := by have h1 : (0 : Int) ≤ F8 6 35 ∧ F8 6 35 ≤ 100000000 := H.frng 6 35; rw [show F8 6 35 = F_c239 6 35 from ((hS10 6 35 rfl).trans (hS_c361 6 35 rfl))] at h1; exact h1
              refine w_inv H (o := 6) rfl rfl rfl (H.perm 6 rfl) rfl rfl (by rfl) (M391 H (F_c239 6 35) (((hS10 6 35 rfl).trans (hS_c361 6 35 rfl))) (A_c239 69) ((funext (hA11 69 rfl)).trans (funext (hA_c361 69 rfl)))  (fun σ F16 A17 H hS18 hA19 y21 ey22 wq23 ewq24 pz20_0 pz20_1 => ⟨rfl, ?_⟩))
              have r25 : (0 : Int) ≤ y21 ∧ y21 ≤ 100000000 := by have h1 : (0 : Int) ≤ F16 6 35 ∧ F16 6 35 ≤ 100000000 := H.frng 6 35; rw [show F16 6 35 = y21 from (ey22)] at h1; exact h1
              have hc397 : ∀ (ls : rO) (σ : rS) (F_c397 : hF) (A_c397 : hA) , rlook ls 0 = some (.ref (D 6)) → rlook ls 4 = some (I (xc239_4)) → HS σ0 σ D N F_c397 A_c397 → SF [(6, 35)] F16 F_c397 → SA [69] A17 A_c397 → ∀ yc397_6_35 : Int, F_c397 6 35 = yc397_6_35 → (0 ≤ (yc397_6_35) ∧ (yc397_6_35) ≤ 192000) → Ew 434 (d + 4) 397 ls [] σ c s Q := by
               as_aux_lemma =>
                intro  ls σ F_c397 A_c397  lc397_0 lc397_4 H hS_c397 hA_c397 yc397_6_35 eyc397_6_35  jc397_0
                have r26 : (0 : Int) ≤ yc397_6_35 ∧ yc397_6_35 ≤ 100000000 := by have h1 : (0 : Int) ≤ F_c397 6 35 ∧ F_c397 6 35 ≤ 100000000 := H.frng 6 35; rw [show F_c397 6 35 = yc397_6_35 from (eyc397_6_35)] at h1; exact h1
                refine Ew_of (pc' := 398) (fun _ => x_aload_n rfl lc397_0) ?_
                refine w_inv H (o := 6) rfl rfl rfl (H.perm 6 rfl) rfl rfl (by rfl) (M394 H (yc397_6_35) ((eyc397_6_35)) (yc361_6_37) (((((hS_c397 6 37 rfl).trans (hS18 6 37 rfl)).trans (hS10 6 37 rfl)).trans (eyc361_6_37))) (A_c397 69) (rfl) (A_c361 70) ((funext (hA_c397 70 rfl)).trans ((funext (hA19 70 rfl)).trans (funext (hA11 70 rfl)))) (show 0 ≤ (yc397_6_35) ∧ (yc397_6_35) ≤ 192000 by omega) (show 0 ≤ (yc361_6_37) ∧ (yc361_6_37) ≤ 90000000 by omega) (fun σ F27 A28 H hS29 hA30 y32 ey33 wq34 ewq35 pz31_0 pz31_1 => ⟨rfl, ?_⟩))
                have r36 : (0 : Int) ≤ y32 ∧ y32 ≤ 100000000 := by have h1 : (0 : Int) ≤ F27 6 37 ∧ F27 6 37 ≤ 100000000 := H.frng 6 37; rw [show F27 6 37 = y32 from (ey33)] at h1; exact h1
                refine Ew_of (pc' := 403) (fun _ => x_iload rfl lc397_4) ?_
                exact w_ireturn rfl (k (xc239_4) σ _ _ H (SF_trans (SF_trans (SF_trans (SF_trans (SF_trans (SF_trans (SF_trans (SF_trans (SF_trans (SF_refl) hS_c27 (any_sub rfl)) hS_c56 (any_sub rfl)) hS_c111 (any_sub rfl)) hS_c239 (any_sub rfl)) hS_c361 (any_sub rfl)) hS10 (any_sub rfl)) hS18 (any_sub rfl)) hS_c397 (any_sub rfl)) hS29 (any_sub rfl)) (SA_trans (SA_trans (SA_trans (SA_trans (SA_trans (SA_trans (SA_trans (SA_trans (SA_trans (SA_refl) hA_c27 (any_subA rfl)) hA_c56 (any_subA rfl)) hA_c111 (any_subA rfl)) hA_c239 (any_subA rfl)) hA_c361 (any_subA rfl)) hA11 (any_subA rfl)) hA19 (any_subA rfl)) hA_c397 (any_subA rfl)) hA30 (any_subA rfl)) (yc239_6_12) (((((((hS29 6 12 rfl).trans (hS_c397 6 12 rfl)).trans (hS18 6 12 rfl)).trans (hS10 6 12 rfl)).trans (hS_c361 6 12 rfl)).trans (eyc239_6_12))) (y32) ((ey33)) (wc239_53) ((funext (hA30 53 rfl)).trans ((funext (hA_c397 53 rfl)).trans ((funext (hA19 53 rfl)).trans ((funext (hA11 53 rfl)).trans ((funext (hA_c361 53 rfl)).trans (ewc239_53)))))) (show inr (xc239_4) by omega) (show 0 ≤ (xc239_4) ∧ (xc239_4) ≤ 3 by omega) (show WC ((yc239_6_12)) ((wc239_53)) by assumption) (show (u6_37) ≤ (y32) ∧ (y32) ≤ (u6_37) + 70000 by omega))
              refine Ew_of (pc' := 378) (fun _ => x_iload_n rfl lc361_1) ?_
              refine Ew_of (pc' := 381) (fun _ => x_sipush (z := 1024) rfl (by decide)) ?_
              refine w_icmpge (t := 393) rfl rfl (show inr (F 6 30) by omega) (show inr (1024) by omega) (fun b37 => ?_) (fun b37 => ?_)
              · have : ∀ k, (0 : Int) ≤ k → k < (F 6 30) → ((wc239_53)) (((A 65)) k) ≠ 0 := hcdd
                refine Ew_of (pc' := 394) (fun _ => x_aload_n rfl lc361_0) ?_
                refine w_inv H (o := 6) rfl rfl rfl (H.perm 6 rfl) rfl rfl (by rfl) (M436 H (yc239_6_12) (((((hS18 6 12 rfl).trans (hS10 6 12 rfl)).trans (hS_c361 6 12 rfl)).trans (eyc239_6_12))) (F 6 30) ((((((((hS18 6 30 rfl).trans (hS10 6 30 rfl)).trans (hS_c361 6 30 rfl)).trans (hS_c239 6 30 rfl)).trans (hS_c111 6 30 rfl)).trans (hS_c56 6 30 rfl)).trans (hS_c27 6 30 rfl))) (y21) ((ey22)) (wc239_53) ((funext (hA19 53 rfl)).trans ((funext (hA11 53 rfl)).trans ((funext (hA_c361 53 rfl)).trans (ewc239_53)))) (A 65) ((funext (hA19 65 rfl)).trans ((funext (hA11 65 rfl)).trans ((funext (hA_c361 65 rfl)).trans ((funext (hA_c239 65 rfl)).trans ((funext (hA_c111 65 rfl)).trans ((funext (hA_c56 65 rfl)).trans (funext (hA_c27 65 rfl)))))))) (wq23) (ewq24) (wq13) ((funext (hA19 83 rfl)).trans (ewq14)) (show 1024 ≤ (F 6 30) by omega) (show CX ((wq13)) ((wc239_53)) by assumption) (show ∀ k, 0 ≤ k → k < (F 6 30) → ((wc239_53)) (((A 65)) k) ≠ 0 by assumption) (show 0 ≤ (y21) ∧ (y21) ≤ 1000 by omega) (show fl ((wq13)) (p2 ((yc239_6_12))) = CELS ((wc239_53)) ((yc239_6_12)) by assumption) (show CI ((wc239_53)) ((yc239_6_12)) by assumption) (fun σ F38 A39 H hS40 hA41 y43 ey44 wq45 ewq46 pz42_0 pz42_1 => ⟨rfl, ?_⟩))
                have r47 : (0 : Int) ≤ y43 ∧ y43 ≤ 100000000 := by have h1 : (0 : Int) ≤ F38 6 35 ∧ F38 6 35 ≤ 100000000 := H.frng 6 35; rw [show F38 6 35 = y43 from (ey44)] at h1; exact h1
                exact hc397  _ σ _ _  (lc361_0) (lc361_4) H (SF_trans (SF_refl) hS40 (any_sub rfl)) (SA_trans (SA_refl) hA41 (any_subA rfl)) (y43) ((ey44))  (show 0 ≤ (y43) ∧ (y43) ≤ 192000 by omega)
              · have : ∀ k, (0 : Int) ≤ k → k < (F 6 30) → ((wc239_53)) (((A 65)) k) ≠ 0 := fun k a b => hcdd k a (by omega)
                refine Ew_of (pc' := 385) (fun _ => x_aload_n rfl lc361_0) ?_
                refine Ew_of (pc' := 386) (fun _ => x_iconst rfl) ?_
                refine Ew_of (pc' := 387) (fun _ => x_iload_n rfl lc361_1) ?_
                refine w_inv H (o := 6) rfl rfl rfl (H.perm 6 rfl) rfl rfl (by rfl) (M431 H (yc239_6_12) (((((hS18 6 12 rfl).trans (hS10 6 12 rfl)).trans (hS_c361 6 12 rfl)).trans (eyc239_6_12))) (y21) ((ey22)) (wc239_53) ((funext (hA19 53 rfl)).trans ((funext (hA11 53 rfl)).trans ((funext (hA_c361 53 rfl)).trans (ewc239_53)))) (A 65) ((funext (hA19 65 rfl)).trans ((funext (hA11 65 rfl)).trans ((funext (hA_c361 65 rfl)).trans ((funext (hA_c239 65 rfl)).trans ((funext (hA_c111 65 rfl)).trans ((funext (hA_c56 65 rfl)).trans (funext (hA_c27 65 rfl)))))))) (wq23) (ewq24) (wq13) ((funext (hA19 83 rfl)).trans (ewq14)) (show inr (0) by omega) (show inr (F 6 30) by omega) (show 0 ≤ (0) ∧ (0) ≤ (F 6 30) ∧ (F 6 30) ≤ 16385 by omega) (show CX ((wq13)) ((wc239_53)) by assumption) (show ∀ k, (0) ≤ k → k < (F 6 30) → ((wc239_53)) (((A 65)) k) ≠ 0 by assumption) (show 0 ≤ (y21) ∧ (y21) ≤ 1000000 by omega) (show fl ((wq13)) (p2 ((yc239_6_12))) = CELS ((wc239_53)) ((yc239_6_12)) by assumption) (show CI ((wc239_53)) ((yc239_6_12)) by assumption) (fun σ F48 A49 H hS50 hA51 y53 ey54 wq55 ewq56 pz52_0 pz52_1 pz52_2 => ⟨rfl, ?_⟩))
                have r57 : (0 : Int) ≤ y53 ∧ y53 ≤ 100000000 := by have h1 : (0 : Int) ≤ F48 6 35 ∧ F48 6 35 ≤ 100000000 := H.frng 6 35; rw [show F48 6 35 = y53 from (ey54)] at h1; exact h1
                refine Ew_of (pc' := 397) (fun _ => x_goto rfl rfl) ?_
                exact hc397  _ σ _ _  (lc361_0) (lc361_4) H (SF_trans (SF_refl) hS50 (any_sub rfl)) (SA_trans (SA_refl) hA51 (any_subA rfl)) (y53) ((ey54))  (show 0 ≤ (y53) ∧ (y53) ≤ 192000 by omega)
            refine Ew_of (pc' := 332) (fun _ => x_iload rfl lc239_4) ?_
            refine Ew_of (pc' := 333) (fun _ => x_iconst rfl) ?_
            refine w_icmpne (t := 361) rfl rfl (show inr (xc239_4) by omega) (show inr (3) by omega) (fun b58 => ?_) (fun b58 => ?_)
            · exact hc361  _ σ _ _  (lc239_0) (lc239_1) (lc239_4) H (SF_refl) (SA_refl) (yc239_6_37) ((eyc239_6_37))  (show (yc239_6_37) ≤ (yc239_6_37) ∧ (yc239_6_37) ≤ (yc239_6_37) + 5 by omega)
            · have hB2 : ∀ i, (0 : Int) ≤ (wc239_53) i ∧ (wc239_53) i ≤ 11 := fun i => by have h1 : (0 : Int) ≤ A_c239 53 i ∧ A_c239 53 i ≤ 11 := H.arng 53 i; rw [show A_c239 53 = wc239_53 from ewc239_53] at h1; exact h1
              have hbd3 : BD ((wc239_53)) := fun i _ _ => hB2 i
              refine Ew_of (pc' := 337) (fun _ => x_aload_n rfl lc239_0) ?_
              refine Ew_of (pc' := 338) (fun _ => x_aload_n rfl lc239_0) ?_
              refine w_gT H (o := 6) (t := 53) rfl (H.perm 6 rfl) rfl rfl rfl rfl rfl rfl ?_
              refine Ew_of (pc' := 342) (fun _ => x_iconst rfl) ?_
              refine w_inv H (o := 6) rfl rfl rfl (H.perm 6 rfl) rfl rfl (by rfl) (M426_53 H (F 6 30) (((((hS_c239 6 30 rfl).trans (hS_c111 6 30 rfl)).trans (hS_c56 6 30 rfl)).trans (hS_c27 6 30 rfl))) (wc239_53) (ewc239_53) (A 65) ((funext (hA_c239 65 rfl)).trans ((funext (hA_c111 65 rfl)).trans ((funext (hA_c56 65 rfl)).trans (funext (hA_c27 65 rfl))))) (show inr (0) by omega) (show BD ((wc239_53)) by assumption) (show -2 ≤ (0) ∧ (0) ≤ 20000 by omega) (fun z63 σ F59 A60 H hS61 hA62 pz63_0 pz63_1 pz63_2 => ⟨rfl, ?_⟩))
              refine Ew_of (pc' := 347) (fun _ => x_istore rfl) ?_
              refine Ew_of (pc' := 348) (fun _ => x_aload_n rfl (rk_o (lc239_0) rfl rfl)) ?_
              refine Ew_of (pc' := 350) (fun _ => x_iload rfl (rk_o (lc239_4) rfl rfl)) ?_
              refine Ew_of (pc' := 351) (fun _ => x_aload_n rfl (rk_o (lc239_0) rfl rfl)) ?_
              refine Ew_of (pc' := 353) (fun _ => x_iload rfl rk_s) ?_
              refine w_inv H (o := 6) rfl rfl rfl (H.perm 6 rfl) rfl rfl (by rfl) (M429 H (F 6 30) ((((((hS61 6 30 rfl).trans (hS_c239 6 30 rfl)).trans (hS_c111 6 30 rfl)).trans (hS_c56 6 30 rfl)).trans (hS_c27 6 30 rfl))) (show inr (z63) by omega) (fun z68 σ F64 A65 H hS66 hA67 pz68_0 pz68_1 pz68_2 => ⟨rfl, ?_⟩))
              refine Ew_of (pc' := 358) (fun _ => x_iload rfl rk_s) ?_
              refine w_inv H (o := 6) rfl rfl rfl (H.perm 6 rfl) rfl rfl (by rfl) (M435b H (F 6 30) (((((((hS66 6 30 rfl).trans (hS61 6 30 rfl)).trans (hS_c239 6 30 rfl)).trans (hS_c111 6 30 rfl)).trans (hS_c56 6 30 rfl)).trans (hS_c27 6 30 rfl))) (yc239_6_37) ((((hS66 6 37 rfl).trans (hS61 6 37 rfl)).trans (eyc239_6_37))) (A_c239 70) ((funext (hA67 70 rfl)).trans (funext (hA62 70 rfl))) (show inr (xc239_4) by omega) (show inr (z68) by omega) (show inr (z63) by omega) (show -1 ≤ (z68) ∧ (z68) ≤ 3 by omega) (show 0 ≤ (yc239_6_37) ∧ (yc239_6_37) ≤ 80000000 by omega) (fun σ F69 A70 H hS71 hA72 y74 ey75 wq76 ewq77 pz73_0 pz73_1 => ⟨rfl, ?_⟩))
              have r78 : (0 : Int) ≤ y74 ∧ y74 ≤ 100000000 := by have h1 : (0 : Int) ≤ F69 6 37 ∧ F69 6 37 ≤ 100000000 := H.frng 6 37; rw [show F69 6 37 = y74 from (ey75)] at h1; exact h1
              exact hc361  _ σ _ _  (rk_o (lc239_0) rfl rfl) (rk_o (lc239_1) rfl rfl) (rk_o (lc239_4) rfl rfl) H (SF_trans (SF_trans (SF_trans (SF_refl) hS61 (any_sub rfl)) hS66 (any_sub rfl)) hS71 (any_sub rfl)) (SA_trans (SA_trans (SA_trans (SA_refl) hA62 (any_subA rfl)) hA67 (any_subA rfl)) hA72 (any_subA rfl)) (y74) ((ey75))  (show (yc239_6_37) ≤ (y74) ∧ (y74) ≤ (yc239_6_37) + 5 by omega)
          · refine Ew_of (pc' := 246) (fun _ => x_aload_n rfl lc239_0) ?_
            have hc288 : ∀ (tc288_0 : Int), ∀ (ls : rO) (σ : rS) (F_c288 : hF) (A_c288 : hA) , rlook ls 0 = some (.ref (D 6)) → rlook ls 1 = some (I (F 6 30)) → rlook ls 2 = some (I (tc27_0)) → rlook ls 4 = some (I (xc239_4)) → HS σ0 σ D N F_c288 A_c288 → SF [] F_c239 F_c288 → SA [] A_c239 A_c288 → (inrJ (tc288_0)) → Ew 434 (d + 4) 288 ls [J (tc288_0), .ref (D 6)] σ c s Q := by
             as_aux_lemma =>
              intro tc288_0 ls σ F_c288 A_c288  lc288_0 lc288_1 lc288_2 lc288_4 H hS_c288 hA_c288   jc288_0
              refine Ew_of (pc' := 289) (fun _ => x_iload_n rfl lc288_2) ?_
              refine w_inv H (o := 6) rfl rfl rfl (H.perm 6 rfl) rfl rfl (by rfl) (M393 H (yc239_6_37) (((hS_c288 6 37 rfl).trans (eyc239_6_37))) (A_c239 70) (funext (hA_c288 70 rfl)) (show inrJ (tc288_0) by omega) (show inr (tc27_0) by omega) (show 0 ≤ (tc27_0) ∧ (tc27_0) ≤ 8 by omega) (show 0 ≤ (yc239_6_37) ∧ (yc239_6_37) ≤ 90000000 by omega) (fun σ F79 A80 H hS81 hA82 y84 ey85 wq86 ewq87 pz83_0 pz83_1 => ⟨rfl, ?_⟩))
              have r88 : (0 : Int) ≤ y84 ∧ y84 ≤ 100000000 := by have h1 : (0 : Int) ≤ F79 6 37 ∧ F79 6 37 ≤ 100000000 := H.frng 6 37; rw [show F79 6 37 = y84 from (ey85)] at h1; exact h1
              refine Ew_of (pc' := 293) (fun _ => x_iconst rfl) ?_
              refine Ew_of (pc' := 295) (fun _ => x_istore rfl) ?_
              suffices hl295 : ∀ (m : Nat), ∀ (ls : rO) (σ : rS) (F_295 : hF) (A_295 : hA) (x295_5 : Int), rlook ls 0 = some (.ref (D 6)) → rlook ls 1 = some (I (F 6 30)) → rlook ls 4 = some (I (xc239_4)) → rlook ls 5 = some (I (x295_5)) → HS σ0 σ D N F_295 A_295 → SF [(6, 37)] F79 F_295 → SA [70] A80 A_295 → ∀ y295_6_37 : Int, F_295 6 37 = y295_6_37 → (inr (x295_5)) → (0 ≤ (x295_5) ∧ (x295_5) ≤ (F 6 30) + 1) → ((y295_6_37) = (y84) + (x295_5)) → ((F 6 30) + 2 - (x295_5)).toNat = m → Ew 434 (d + 4) 295 ls [] σ c s Q from
                hl295 _ _ σ _ _ (0) (rk_o (lc288_0) rfl rfl) (rk_o (lc288_1) rfl rfl) (rk_o (lc288_4) rfl rfl) (rk_s) H (SF_refl) (SA_refl) (y84) ((ey85))  (show inr (0) by omega) (show 0 ≤ (0) ∧ (0) ≤ (F 6 30) + 1 by omega) (show (y84) = (y84) + (0) by omega) rfl
              as_aux_lemma =>
              intro m
              induction m using Nat.strongRecOn with
              | _ m ih295 =>
                intro ls σ F_295 A_295 x295_5 l295_0 l295_1 l295_4 l295_5 H hS_295 hA_295 y295_6_37 ey295_6_37  j295_0 j295_1 j295_2 hm295
                have r89 : (0 : Int) ≤ y295_6_37 ∧ y295_6_37 ≤ 100000000 := by have h1 : (0 : Int) ≤ F_295 6 37 ∧ F_295 6 37 ≤ 100000000 := H.frng 6 37; rw [show F_295 6 37 = y295_6_37 from (ey295_6_37)] at h1; exact h1
                refine Ew_of (pc' := 297) (fun _ => x_iload rfl l295_5) ?_
                refine Ew_of (pc' := 299) (fun _ => x_iload rfl l295_4) ?_
                have hc307 : ∀ (tc307_0 : Int), ∀ (ls : rO) (σ : rS) (F_c307 : hF) (A_c307 : hA) , rlook ls 0 = some (.ref (D 6)) → rlook ls 1 = some (I (F 6 30)) → rlook ls 4 = some (I (xc239_4)) → rlook ls 5 = some (I (x295_5)) → HS σ0 σ D N F_c307 A_c307 → SF [] F_295 F_c307 → SA [] A_295 A_c307 → (inr (tc307_0)) → (((xc239_4) ≠ (0) ∧ (tc307_0) = (1)) ∨ ((xc239_4) = (0) ∧ (tc307_0) = (F 6 30))) → Ew 434 (d + 4) 307 ls [I (tc307_0), I (x295_5)] σ c s Q := by
                 as_aux_lemma =>
                  intro tc307_0 ls σ F_c307 A_c307  lc307_0 lc307_1 lc307_4 lc307_5 H hS_c307 hA_c307   jc307_0 jc307_1
                  refine w_icmpge (t := 327) rfl rfl (show inr (x295_5) by omega) (show inr (tc307_0) by omega) (fun b90 => ?_) (fun b90 => ?_)
                  · refine Ew_of (pc' := 329) (fun _ => x_iload rfl lc307_4) ?_
                    exact w_ireturn rfl (k (xc239_4) σ _ _ H (SF_trans (SF_trans (SF_trans (SF_trans (SF_trans (SF_trans (SF_trans (SF_trans (SF_refl) hS_c27 (any_sub rfl)) hS_c56 (any_sub rfl)) hS_c111 (any_sub rfl)) hS_c239 (any_sub rfl)) hS_c288 (any_sub rfl)) hS81 (any_sub rfl)) hS_295 (any_sub rfl)) hS_c307 (any_sub rfl)) (SA_trans (SA_trans (SA_trans (SA_trans (SA_trans (SA_trans (SA_trans (SA_trans (SA_refl) hA_c27 (any_subA rfl)) hA_c56 (any_subA rfl)) hA_c111 (any_subA rfl)) hA_c239 (any_subA rfl)) hA_c288 (any_subA rfl)) hA82 (any_subA rfl)) hA_295 (any_subA rfl)) hA_c307 (any_subA rfl)) (yc239_6_12) ((((((hS_c307 6 12 rfl).trans (hS_295 6 12 rfl)).trans (hS81 6 12 rfl)).trans (hS_c288 6 12 rfl)).trans (eyc239_6_12))) (y295_6_37) (((hS_c307 6 37 rfl).trans (ey295_6_37))) (wc239_53) ((funext (hA_c307 53 rfl)).trans ((funext (hA_295 53 rfl)).trans ((funext (hA82 53 rfl)).trans ((funext (hA_c288 53 rfl)).trans (ewc239_53))))) (show inr (xc239_4) by omega) (show 0 ≤ (xc239_4) ∧ (xc239_4) ≤ 3 by omega) (show WC ((yc239_6_12)) ((wc239_53)) by assumption) (show (u6_37) ≤ (y295_6_37) ∧ (y295_6_37) ≤ (u6_37) + 70000 by omega))
                  · refine Ew_of (pc' := 311) (fun _ => x_aload_n rfl lc307_0) ?_
                    refine Ew_of (pc' := 312) (fun _ => x_aload_n rfl lc307_0) ?_
                    refine w_gT H (o := 6) (t := 65) rfl (H.perm 6 rfl) rfl rfl rfl rfl rfl rfl ?_
                    refine Ew_of (pc' := 317) (fun _ => x_iload rfl lc307_5) ?_
                    refine w_lI H (o := 65) (n := 16385) rfl (H.perm 65 rfl) rfl rfl (H.fix 65 rfl rfl) (show 0 ≤ x295_5 ∧ x295_5 < ((16385 : Nat) : Int) by omega) (by decide) (fun v91 ev91 qv91 => ?_)
                    have qv91 : (0 : Int) ≤ v91 ∧ v91 ≤ 255 := qv91
                    have ev91 : (A 65) (x295_5) = v91 := (congrFun ((funext (hA_c307 65 rfl)).trans ((funext (hA_295 65 rfl)).trans ((funext (hA82 65 rfl)).trans ((funext (hA_c288 65 rfl)).trans ((funext (hA_c239 65 rfl)).trans ((funext (hA_c111 65 rfl)).trans ((funext (hA_c56 65 rfl)).trans (funext (hA_c27 65 rfl))))))))) (x295_5)).symm.trans ev91
                    refine w_inv H (o := 6) rfl rfl rfl (H.perm 6 rfl) rfl rfl (by rfl) (M392 H (y295_6_37) (((hS_c307 6 37 rfl).trans (ey295_6_37))) (A_295 70) (funext (hA_c307 70 rfl)) (show inr (v91) by omega) (show 0 ≤ (y295_6_37) ∧ (y295_6_37) ≤ 99999999 by omega) (fun σ F92 A93 H hS94 hA95 y97 ey98 wq99 ewq100 pz96_0 pz96_1 => ⟨rfl, ?_⟩))
                    have r101 : (0 : Int) ≤ y97 ∧ y97 ≤ 100000000 := by have h1 : (0 : Int) ≤ F92 6 37 ∧ F92 6 37 ≤ 100000000 := H.frng 6 37; rw [show F92 6 37 = y97 from (ey98)] at h1; exact h1
                    refine Ew_of (pc' := 324) (fun _ => x_iinc (len := 3) rfl (lc307_5)) ?_
                    refine Ew_of (pc' := 295) (fun _ => x_goto rfl rfl) ?_
                    exact ih295 _ (by omega) _ σ _ _ ((x295_5 + 1)) (rk_o (lc307_0) rfl rfl) (rk_o (lc307_1) rfl rfl) (rk_o (lc307_4) rfl rfl) (rk_s) H (SF_trans (SF_trans (hS_295) hS_c307 (any_sub rfl)) hS94 (any_sub rfl)) (SA_trans (SA_trans (hA_295) hA_c307 (any_subA rfl)) hA95 (any_subA rfl)) (y97) ((ey98))  (show inr ((x295_5 + 1)) by omega) (show 0 ≤ ((x295_5 + 1)) ∧ ((x295_5 + 1)) ≤ (F 6 30) + 1 by omega) (show (y97) = (y84) + ((x295_5 + 1)) by omega) rfl
                refine w_ifne (t := 306) rfl rfl (show inr (xc239_4) by omega) (fun b102 => ?_) (fun b102 => ?_)
                · refine Ew_of (pc' := 307) (fun _ => x_iconst rfl) ?_
                  exact hc307 (1) _ σ _ _  (l295_0) (l295_1) (l295_4) (l295_5) H (SF_refl) (SA_refl)   (show inr (1) by omega) (show ((xc239_4) ≠ (0) ∧ (1) = (1)) ∨ ((xc239_4) = (0) ∧ (1) = (F 6 30)) by omega)
                · refine Ew_of (pc' := 303) (fun _ => x_iload_n rfl l295_1) ?_
                  refine Ew_of (pc' := 307) (fun _ => x_goto rfl rfl) ?_
                  exact hc307 (F 6 30) _ σ _ _  (l295_0) (l295_1) (l295_4) (l295_5) H (SF_refl) (SA_refl)   (show inr (F 6 30) by omega) (show ((xc239_4) ≠ (0) ∧ (F 6 30) = (1)) ∨ ((xc239_4) = (0) ∧ (F 6 30) = (F 6 30)) by omega)
            refine Ew_of (pc' := 247) (fun _ => x_iload_n rfl lc239_2) ?_
            refine Ew_of (pc' := 248) (fun _ => x_iconst rfl) ?_
            refine w_icmpne (t := 261) rfl rfl (show inr (tc27_0) by omega) (show inr (1) by omega) (fun b103 => ?_) (fun b103 => ?_)
            · refine Ew_of (pc' := 262) (fun _ => x_iload_n rfl lc239_2) ?_
              refine Ew_of (pc' := 263) (fun _ => x_iconst rfl) ?_
              refine w_icmpne (t := 278) rfl rfl (show inr (tc27_0) by omega) (show inr (2) by omega) (fun b104 => ?_) (fun b104 => ?_)
              · refine Ew_of (pc' := 279) (fun _ => x_iload_n rfl lc239_1) ?_
                refine Ew_of (pc' := 280) (fun _ => x_iconst rfl) ?_
                refine w_ishlA rfl (fun z105 gz105 => ?_)
                refine Ew_of (pc' := 283) (fun _ => x_bipush (z := 12) rfl (by decide)) ?_
                refine w_ior rfl (fun z106 gz106 => ?_)
                refine Ew_of (pc' := 286) (fun _ => x_iload rfl lc239_4) ?_
                refine w_ior rfl (fun z107 gz107 => ?_)
                refine w_i2l rfl (show inr (z107) by omega) ?_
                exact hc288 (z107) _ σ _ _  (lc239_0) (lc239_1) (lc239_2) (lc239_4) H (SF_refl) (SA_refl)   (show inrJ (z107) by omega)
              · refine Ew_of (pc' := 267) (fun _ => x_iload_n rfl lc239_1) ?_
                refine Ew_of (pc' := 268) (fun _ => x_iconst rfl) ?_
                refine w_ishlA rfl (fun z108 gz108 => ?_)
                refine Ew_of (pc' := 270) (fun _ => x_iconst rfl) ?_
                refine w_ior rfl (fun z109 gz109 => ?_)
                refine Ew_of (pc' := 273) (fun _ => x_iload rfl lc239_4) ?_
                refine w_ior rfl (fun z110 gz110 => ?_)
                refine w_i2l rfl (show inr (z110) by omega) ?_
                refine Ew_of (pc' := 288) (fun _ => x_goto rfl rfl) ?_
                exact hc288 (z110) _ σ _ _  (lc239_0) (lc239_1) (lc239_2) (lc239_4) H (SF_refl) (SA_refl)   (show inrJ (z110) by omega)
            · refine Ew_of (pc' := 252) (fun _ => x_iload_n rfl lc239_1) ?_
              refine Ew_of (pc' := 253) (fun _ => x_iconst rfl) ?_
              refine w_ishlA rfl (fun z111 gz111 => ?_)
              refine Ew_of (pc' := 256) (fun _ => x_iload rfl lc239_4) ?_
              refine w_ior rfl (fun z112 gz112 => ?_)
              refine w_i2l rfl (show inr (z112) by omega) ?_
              refine Ew_of (pc' := 288) (fun _ => x_goto rfl rfl) ?_
              exact hc288 (z112) _ σ _ _  (lc239_0) (lc239_1) (lc239_2) (lc239_4) H (SF_refl) (SA_refl)   (show inrJ (z112) by omega)
        refine Ew_of (pc' := 112) (fun _ => x_iload_n rfl lc111_1) ?_
        refine Ew_of (pc' := 113) (fun _ => x_iconst rfl) ?_
        refine w_icmple (t := 239) rfl rfl (show inr (F 6 30) by omega) (show inr (1) by omega) (fun b113 => ?_) (fun b113 => ?_)
        · have : (2 : Int) ≤ (xc111_4) → ∀ k, 0 ≤ k → k < (F 6 30) → ((w53)) (((A 65)) k) ≠ 0 := by first | exact (fun q => (show (xc111_4) = 3 → ∀ k, 0 ≤ k → k < (F 6 30) → ((w53)) (((A 65)) k) ≠ 0 from by assumption) (by omega)) | exact (fun q => (show xc111_4 = 3 → ∀ k, 0 ≤ k → k < (F 6 30) → ((w53)) (((A 65)) k) ≠ 0 from by assumption) (by omega)) | exact (fun _ k a b => by rw [j205_3 _ (hBl k).1 (by have := hBl k; omega)]; exact hcod k a b)
          have : (2 : Int) ≤ (xc111_4) → CI ((w53)) ((u6_12)) := by first | exact (fun q => (show (xc111_4) = 3 → CI ((w53)) ((u6_12)) from by assumption) (by omega)) | exact (fun q => (show xc111_4 = 3 → CI ((w53)) ((u6_12)) from by assumption) (by omega)) | exact (fun _ => CI_congr hci (fun i a b => j205_3 i a (by omega)))
          have : WC ((u6_12)) ((w53)) := by first | assumption | exact .inr (CI_congr hci (fun i a b => j205_3 i a (by omega)))
          exact hc239  _ σ _ _ (xc111_4) (lc111_0) (lc111_1) (lc111_2) (lc111_4) H (SF_refl) (SA_refl) (u6_12) (((((hS_c111 6 12 rfl).trans (hS_c56 6 12 rfl)).trans (hS_c27 6 12 rfl)).trans (eu6_12))) (u6_37) (((((hS_c111 6 37 rfl).trans (hS_c56 6 37 rfl)).trans (hS_c27 6 37 rfl)).trans (eu6_37))) (w53) ((funext (hA_c111 53 rfl)).trans ((funext (hA_c56 53 rfl)).trans ((funext (hA_c27 53 rfl)).trans (ew53)))) (show inr (xc111_4) by omega) (show 0 ≤ (xc111_4) ∧ (xc111_4) ≤ 3 by omega) (show (xc111_4) ≠ 1 ∨ 1 ≤ (F 6 30) by omega) (show 2 ≤ (xc111_4) → ∀ k, 0 ≤ k → k < (F 6 30) → ((w53)) (((A 65)) k) ≠ 0 by first | assumption | exact fun h => absurd rfl h | exact fun h => absurd h (by decide) | omega) (show 2 ≤ (xc111_4) → CI ((w53)) ((u6_12)) by first | assumption | exact fun h => absurd rfl h | exact fun h => absurd h (by decide) | omega) (show WC ((u6_12)) ((w53)) by assumption) (show (u6_37) ≤ (u6_37) ∧ (u6_37) ≤ (u6_37) + 300 by omega)
        · refine Ew_of (pc' := 117) (fun _ => x_aload_n rfl lc111_0) ?_
          refine w_inv H (o := 6) rfl rfl rfl (H.perm 6 rfl) rfl rfl (by rfl) (M432 H (F 6 30) ((((hS_c111 6 30 rfl).trans (hS_c56 6 30 rfl)).trans (hS_c27 6 30 rfl))) (A 65) ((funext (hA_c111 65 rfl)).trans ((funext (hA_c56 65 rfl)).trans (funext (hA_c27 65 rfl))))  (fun z118 σ F114 A115 H hS116 hA117 pz118_0 pz118_1 pz118_2 pz118_3 => ⟨rretB rfl pz118_0, ?_⟩))
          refine w_ifne (t := 239) rfl rfl (show inr (z118) by omega) (fun b119 => ?_) (fun b119 => ?_)
          · have : (2 : Int) ≤ (xc111_4) → ∀ k, 0 ≤ k → k < (F 6 30) → ((w53)) (((A 65)) k) ≠ 0 := by first | exact (fun q => (show (xc111_4) = 3 → ∀ k, 0 ≤ k → k < (F 6 30) → ((w53)) (((A 65)) k) ≠ 0 from by assumption) (by omega)) | exact (fun q => (show xc111_4 = 3 → ∀ k, 0 ≤ k → k < (F 6 30) → ((w53)) (((A 65)) k) ≠ 0 from by assumption) (by omega)) | exact (fun _ k a b => by rw [j205_3 _ (hBl k).1 (by have := hBl k; omega)]; exact hcod k a b)
            have : (2 : Int) ≤ (xc111_4) → CI ((w53)) ((u6_12)) := by first | exact (fun q => (show (xc111_4) = 3 → CI ((w53)) ((u6_12)) from by assumption) (by omega)) | exact (fun q => (show xc111_4 = 3 → CI ((w53)) ((u6_12)) from by assumption) (by omega)) | exact (fun _ => CI_congr hci (fun i a b => j205_3 i a (by omega)))
            have : WC ((u6_12)) ((w53)) := by first | assumption | exact .inr (CI_congr hci (fun i a b => j205_3 i a (by omega)))
            exact hc239  _ σ _ _ (xc111_4) (lc111_0) (lc111_1) (lc111_2) (lc111_4) H (SF_trans (SF_refl) hS116 (any_sub rfl)) (SA_trans (SA_refl) hA117 (any_subA rfl)) (u6_12) ((((((hS116 6 12 rfl).trans (hS_c111 6 12 rfl)).trans (hS_c56 6 12 rfl)).trans (hS_c27 6 12 rfl)).trans (eu6_12))) (u6_37) ((((((hS116 6 37 rfl).trans (hS_c111 6 37 rfl)).trans (hS_c56 6 37 rfl)).trans (hS_c27 6 37 rfl)).trans (eu6_37))) (w53) ((funext (hA117 53 rfl)).trans ((funext (hA_c111 53 rfl)).trans ((funext (hA_c56 53 rfl)).trans ((funext (hA_c27 53 rfl)).trans (ew53))))) (show inr (xc111_4) by omega) (show 0 ≤ (xc111_4) ∧ (xc111_4) ≤ 3 by omega) (show (xc111_4) ≠ 1 ∨ 1 ≤ (F 6 30) by omega) (show 2 ≤ (xc111_4) → ∀ k, 0 ≤ k → k < (F 6 30) → ((w53)) (((A 65)) k) ≠ 0 by first | assumption | exact fun h => absurd rfl h | exact fun h => absurd h (by decide) | omega) (show 2 ≤ (xc111_4) → CI ((w53)) ((u6_12)) by first | assumption | exact fun h => absurd rfl h | exact fun h => absurd h (by decide) | omega) (show WC ((u6_12)) ((w53)) by assumption) (show (u6_37) ≤ (u6_37) ∧ (u6_37) ≤ (u6_37) + 300 by omega)
          · have hdf : DIFF ((A 65)) ((F 6 30)) := by rcases pz118_2 (by omega) with q | q; omega; exact q
            refine Ew_of (pc' := 124) (fun _ => x_aload_n rfl lc111_0) ?_
            refine w_inv H (o := 6) rfl rfl rfl (H.perm 6 rfl) rfl rfl (by rfl) (M420 H (F 6 30) (((((hS116 6 30 rfl).trans (hS_c111 6 30 rfl)).trans (hS_c56 6 30 rfl)).trans (hS_c27 6 30 rfl))) (A 65) ((funext (hA117 65 rfl)).trans ((funext (hA_c111 65 rfl)).trans ((funext (hA_c56 65 rfl)).trans (funext (hA_c27 65 rfl))))) (show DIFF ((A 65)) ((F 6 30)) by assumption) (fun z124 σ F120 A121 H hS122 hA123 wq125 ewq126 pz124_0 pz124_1 pz124_2 pz124_3 pz124_4 pz124_5 => ⟨rfl, ?_⟩))
            refine Ew_of (pc' := 129) (fun _ => x_istore rfl) ?_
            have hci := pz124_2
            have hcod := pz124_3
            have hbd2 := CI_BD hci
            refine Ew_of (pc' := 130) (fun _ => x_aload_n rfl (rk_o (lc111_0) rfl rfl)) ?_
            refine Ew_of (pc' := 132) (fun _ => x_iload rfl rk_s) ?_
            refine w_inv H (o := 6) rfl rfl rfl (H.perm 6 rfl) rfl rfl (by rfl) (M422 H (wq125) (ewq126) (show inr (z124) by omega) (show 1 ≤ (z124) ∧ (z124) ≤ 11 by omega) (show CI ((wq125)) ((z124)) by assumption) (fun z131 σ F127 A128 H hS129 hA130 y132 ey133 pz131_0 pz131_1 pz131_2 => ⟨rfl, ?_⟩))
            have r134 : (0 : Int) ≤ y132 ∧ y132 ≤ 100000000 := by have h1 : (0 : Int) ≤ F127 6 35 ∧ F127 6 35 ≤ 100000000 := H.frng 6 35; rw [show F127 6 35 = y132 from (ey133)] at h1; exact h1
            refine Ew_of (pc' := 137) (fun _ => x_istore rfl) ?_
            refine Ew_of (pc' := 138) (fun _ => x_aload_n rfl (rk_o (rk_o (lc111_0) rfl rfl) rfl rfl)) ?_
            refine Ew_of (pc' := 139) (fun _ => x_aload_n rfl (rk_o (rk_o (lc111_0) rfl rfl) rfl rfl)) ?_
            refine w_gT H (o := 6) (t := 82) rfl (H.perm 6 rfl) rfl rfl rfl rfl rfl rfl ?_
            refine Ew_of (pc' := 144) (fun _ => x_iload rfl rk_s) ?_
            refine w_inv H (o := 6) rfl rfl rfl (H.perm 6 rfl) rfl rfl (by rfl) (M426_82 H (F 6 30) (((((((hS129 6 30 rfl).trans (hS122 6 30 rfl)).trans (hS116 6 30 rfl)).trans (hS_c111 6 30 rfl)).trans (hS_c56 6 30 rfl)).trans (hS_c27 6 30 rfl))) (A 65) ((funext (hA130 65 rfl)).trans ((funext (hA123 65 rfl)).trans ((funext (hA117 65 rfl)).trans ((funext (hA_c111 65 rfl)).trans ((funext (hA_c56 65 rfl)).trans (funext (hA_c27 65 rfl))))))) (wq125) ((funext (hA130 82 rfl)).trans (ewq126)) (show inr (z131) by omega) (show BD ((wq125)) by assumption) (show -2 ≤ (z131) ∧ (z131) ≤ 20000 by omega) (fun z139 σ F135 A136 H hS137 hA138 pz139_0 pz139_1 pz139_2 => ⟨rfl, ?_⟩))
            refine Ew_of (pc' := 149) (fun _ => x_istore rfl) ?_
            refine Ew_of (pc' := 150) (fun _ => x_aload_n rfl (rk_o (rk_o (rk_o (lc111_0) rfl rfl) rfl rfl) rfl rfl)) ?_
            refine Ew_of (pc' := 152) (fun _ => x_iload rfl rk_s) ?_
            refine w_inv H (o := 6) rfl rfl rfl (H.perm 6 rfl) rfl rfl (by rfl) (M429 H (F 6 30) ((((((((hS137 6 30 rfl).trans (hS129 6 30 rfl)).trans (hS122 6 30 rfl)).trans (hS116 6 30 rfl)).trans (hS_c111 6 30 rfl)).trans (hS_c56 6 30 rfl)).trans (hS_c27 6 30 rfl))) (show inr (z139) by omega) (fun z144 σ F140 A141 H hS142 hA143 pz144_0 pz144_1 pz144_2 => ⟨rfl, ?_⟩))
            refine Ew_of (pc' := 157) (fun _ => x_istore rfl) ?_
            have hc182 : ∀ (ls : rO) (σ : rS) (F_c182 : hF) (A_c182 : hA) (xc182_4 : Int), rlook ls 0 = some (.ref (D 6)) → rlook ls 1 = some (I (F 6 30)) → rlook ls 2 = some (I (tc27_0)) → rlook ls 4 = some (I (xc182_4)) → rlook ls 5 = some (I (z124)) → rlook ls 7 = some (I (z139)) → rlook ls 8 = some (I (z144)) → HS σ0 σ D N F_c182 A_c182 → SF [] F140 F_c182 → SA [] A141 A_c182 → (inr (xc182_4)) → ((xc182_4) = 2 ∧ 1 ≤ (z131) ∧ 0 ≤ (z144) ∨ (xc182_4) = (xc111_4) ∧ (xc182_4) ≠ 2) → Ew 434 (d + 4) 182 ls [] σ c s Q := by
             as_aux_lemma =>
              intro  ls σ F_c182 A_c182 xc182_4 lc182_0 lc182_1 lc182_2 lc182_4 lc182_5 lc182_7 lc182_8 H hS_c182 hA_c182   jc182_0 jc182_1
              refine Ew_of (pc' := 184) (fun _ => x_iload rfl lc182_4) ?_
              refine Ew_of (pc' := 185) (fun _ => x_iconst rfl) ?_
              refine w_icmpne (t := 239) rfl rfl (show inr (xc182_4) by omega) (show inr (2) by omega) (fun b145 => ?_) (fun b145 => ?_)
              · have : (2 : Int) ≤ (xc182_4) → ∀ k, 0 ≤ k → k < (F 6 30) → ((w53)) (((A 65)) k) ≠ 0 := by first | exact (fun q => (show (xc182_4) = 3 → ∀ k, 0 ≤ k → k < (F 6 30) → ((w53)) (((A 65)) k) ≠ 0 from by assumption) (by omega)) | exact (fun q => (show xc111_4 = 3 → ∀ k, 0 ≤ k → k < (F 6 30) → ((w53)) (((A 65)) k) ≠ 0 from by assumption) (by omega)) | exact (fun _ k a b => by rw [j205_3 _ (hBl k).1 (by have := hBl k; omega)]; exact hcod k a b)
                have : (2 : Int) ≤ (xc182_4) → CI ((w53)) ((u6_12)) := by first | exact (fun q => (show (xc182_4) = 3 → CI ((w53)) ((u6_12)) from by assumption) (by omega)) | exact (fun q => (show xc111_4 = 3 → CI ((w53)) ((u6_12)) from by assumption) (by omega)) | exact (fun _ => CI_congr hci (fun i a b => j205_3 i a (by omega)))
                have : WC ((u6_12)) ((w53)) := by first | assumption | exact .inr (CI_congr hci (fun i a b => j205_3 i a (by omega)))
                exact hc239  _ σ _ _ (xc182_4) (lc182_0) (lc182_1) (lc182_2) (lc182_4) H (SF_trans (SF_trans (SF_trans (SF_trans (SF_trans (SF_trans (SF_refl) hS116 (any_sub rfl)) hS122 (any_sub rfl)) hS129 (any_sub rfl)) hS137 (any_sub rfl)) hS142 (any_sub rfl)) hS_c182 (any_sub rfl)) (SA_trans (SA_trans (SA_trans (SA_trans (SA_trans (SA_trans (SA_refl) hA117 (any_subA rfl)) hA123 (any_subA rfl)) hA130 (any_subA rfl)) hA138 (any_subA rfl)) hA143 (any_subA rfl)) hA_c182 (any_subA rfl)) (u6_12) (((((((((((hS_c182 6 12 rfl).trans (hS142 6 12 rfl)).trans (hS137 6 12 rfl)).trans (hS129 6 12 rfl)).trans (hS122 6 12 rfl)).trans (hS116 6 12 rfl)).trans (hS_c111 6 12 rfl)).trans (hS_c56 6 12 rfl)).trans (hS_c27 6 12 rfl)).trans (eu6_12))) (u6_37) (((((((((((hS_c182 6 37 rfl).trans (hS142 6 37 rfl)).trans (hS137 6 37 rfl)).trans (hS129 6 37 rfl)).trans (hS122 6 37 rfl)).trans (hS116 6 37 rfl)).trans (hS_c111 6 37 rfl)).trans (hS_c56 6 37 rfl)).trans (hS_c27 6 37 rfl)).trans (eu6_37))) (w53) ((funext (hA_c182 53 rfl)).trans ((funext (hA143 53 rfl)).trans ((funext (hA138 53 rfl)).trans ((funext (hA130 53 rfl)).trans ((funext (hA123 53 rfl)).trans ((funext (hA117 53 rfl)).trans ((funext (hA_c111 53 rfl)).trans ((funext (hA_c56 53 rfl)).trans ((funext (hA_c27 53 rfl)).trans (ew53)))))))))) (show inr (xc182_4) by omega) (show 0 ≤ (xc182_4) ∧ (xc182_4) ≤ 3 by omega) (show (xc182_4) ≠ 1 ∨ 1 ≤ (F 6 30) by omega) (show 2 ≤ (xc182_4) → ∀ k, 0 ≤ k → k < (F 6 30) → ((w53)) (((A 65)) k) ≠ 0 by first | assumption | exact fun h => absurd rfl h | exact fun h => absurd h (by decide) | omega) (show 2 ≤ (xc182_4) → CI ((w53)) ((u6_12)) by first | assumption | exact fun h => absurd rfl h | exact fun h => absurd h (by decide) | omega) (show WC ((u6_12)) ((w53)) by assumption) (show (u6_37) ≤ (u6_37) ∧ (u6_37) ≤ (u6_37) + 300 by omega)
              · refine Ew_of (pc' := 189) (fun _ => x_aload_n rfl lc182_0) ?_
                refine Ew_of (pc' := 191) (fun _ => x_iload rfl lc182_4) ?_
                refine Ew_of (pc' := 193) (fun _ => x_iload rfl lc182_8) ?_
                refine Ew_of (pc' := 195) (fun _ => x_iload rfl lc182_7) ?_
                refine w_inv H (o := 6) rfl rfl rfl (H.perm 6 rfl) rfl rfl (by rfl) (M435b H (F 6 30) ((((((((((hS_c182 6 30 rfl).trans (hS142 6 30 rfl)).trans (hS137 6 30 rfl)).trans (hS129 6 30 rfl)).trans (hS122 6 30 rfl)).trans (hS116 6 30 rfl)).trans (hS_c111 6 30 rfl)).trans (hS_c56 6 30 rfl)).trans (hS_c27 6 30 rfl))) (u6_37) (((((((((((hS_c182 6 37 rfl).trans (hS142 6 37 rfl)).trans (hS137 6 37 rfl)).trans (hS129 6 37 rfl)).trans (hS122 6 37 rfl)).trans (hS116 6 37 rfl)).trans (hS_c111 6 37 rfl)).trans (hS_c56 6 37 rfl)).trans (hS_c27 6 37 rfl)).trans (eu6_37))) (A 70) ((funext (hA_c182 70 rfl)).trans ((funext (hA143 70 rfl)).trans ((funext (hA138 70 rfl)).trans ((funext (hA130 70 rfl)).trans ((funext (hA123 70 rfl)).trans ((funext (hA117 70 rfl)).trans ((funext (hA_c111 70 rfl)).trans ((funext (hA_c56 70 rfl)).trans (funext (hA_c27 70 rfl)))))))))) (show inr (xc182_4) by omega) (show inr (z144) by omega) (show inr (z139) by omega) (show -1 ≤ (z144) ∧ (z144) ≤ 3 by omega) (show 0 ≤ (u6_37) ∧ (u6_37) ≤ 80000000 by omega) (fun σ F146 A147 H hS148 hA149 y151 ey152 wq153 ewq154 pz150_0 pz150_1 => ⟨rfl, ?_⟩))
                have r155 : (0 : Int) ≤ y151 ∧ y151 ≤ 100000000 := by have h1 : (0 : Int) ≤ F146 6 37 ∧ F146 6 37 ≤ 100000000 := H.frng 6 37; rw [show F146 6 37 = y151 from (ey152)] at h1; exact h1
                refine Ew_of (pc' := 199) (fun _ => x_aload_n rfl lc182_0) ?_
                refine w_inv H (o := 6) rfl rfl rfl (H.perm 6 rfl) rfl rfl (by rfl) (M394 H (y132) ((((((hS148 6 35 rfl).trans (hS_c182 6 35 rfl)).trans (hS142 6 35 rfl)).trans (hS137 6 35 rfl)).trans (ey133))) (y151) ((ey152)) (A128 69) ((funext (hA149 69 rfl)).trans ((funext (hA_c182 69 rfl)).trans ((funext (hA143 69 rfl)).trans (funext (hA138 69 rfl))))) (wq153) (ewq154) (show 0 ≤ (y132) ∧ (y132) ≤ 192000 by omega) (show 0 ≤ (y151) ∧ (y151) ≤ 90000000 by omega) (fun σ F156 A157 H hS158 hA159 y161 ey162 wq163 ewq164 pz160_0 pz160_1 => ⟨rfl, ?_⟩))
                have r165 : (0 : Int) ≤ y161 ∧ y161 ≤ 100000000 := by have h1 : (0 : Int) ≤ F156 6 37 ∧ F156 6 37 ≤ 100000000 := H.frng 6 37; rw [show F156 6 37 = y161 from (ey162)] at h1; exact h1
                refine Ew_of (pc' := 203) (fun _ => x_iconst rfl) ?_
                refine Ew_of (pc' := 205) (fun _ => x_istore rfl) ?_
                have : ∀ i, (0 : Int) ≤ i → i < 0 → ((w53)) i = ((wq125)) i := fun i a b => absurd b (by omega)
                suffices hl205 : ∀ (m : Nat), ∀ (ls : rO) (σ : rS) (F_205 : hF) (A_205 : hA) (x205_9 : Int), rlook ls 0 = some (.ref (D 6)) → rlook ls 1 = some (I (F 6 30)) → rlook ls 2 = some (I (tc27_0)) → rlook ls 4 = some (I (xc182_4)) → rlook ls 5 = some (I (z124)) → rlook ls 9 = some (I (x205_9)) → HS σ0 σ D N F_205 A_205 → SF [] F156 F_205 → SA [53] A157 A_205 → ∀ w205_53 : Int → Int, A_205 53 = w205_53 → (inr (x205_9)) → ((0) ≤ (x205_9)) → ((x205_9) ≤ (0) ∨ (x205_9) ≤ ((256))) → (∀ i, 0 ≤ i → i < (x205_9) → ((w205_53)) i = ((wq125)) i) → (((256)) - (x205_9)).toNat = m → Ew 434 (d + 4) 205 ls [] σ c s Q from
                  hl205 _ _ σ _ _ (0) (rk_o (lc182_0) rfl rfl) (rk_o (lc182_1) rfl rfl) (rk_o (lc182_2) rfl rfl) (rk_o (lc182_4) rfl rfl) (rk_o (lc182_5) rfl rfl) (rk_s) H (SF_refl) (SA_refl)  (w53) ((funext (hA159 53 rfl)).trans ((funext (hA149 53 rfl)).trans ((funext (hA_c182 53 rfl)).trans ((funext (hA143 53 rfl)).trans ((funext (hA138 53 rfl)).trans ((funext (hA130 53 rfl)).trans ((funext (hA123 53 rfl)).trans ((funext (hA117 53 rfl)).trans ((funext (hA_c111 53 rfl)).trans ((funext (hA_c56 53 rfl)).trans ((funext (hA_c27 53 rfl)).trans (ew53)))))))))))) (show inr (0) by omega) (show (0) ≤ (0) by omega) (show (0) ≤ (0) ∨ (0) ≤ ((256)) by omega) (show ∀ i, 0 ≤ i → i < (0) → ((w53)) i = ((wq125)) i by assumption) rfl
                as_aux_lemma =>
                intro m
                induction m using Nat.strongRecOn with
                | _ m ih205 =>
                  intro ls σ F_205 A_205 x205_9 l205_0 l205_1 l205_2 l205_4 l205_5 l205_9 H hS_205 hA_205  w205_53 ew205_53 j205_0 j205_1 j205_2 j205_3 hm205
                  refine Ew_of (pc' := 207) (fun _ => x_iload rfl l205_9) ?_
                  refine Ew_of (pc' := 210) (fun _ => x_sipush (z := 256) rfl (by decide)) ?_
                  refine w_icmpge (t := 233) rfl rfl (show inr (x205_9) by omega) (show inr (256) by omega) (fun b166 => ?_) (fun b166 => ?_)
                  · have hBl : ∀ i, (0 : Int) ≤ (A 65) i ∧ (A 65) i ≤ 255 := fun i => by have h1 : (0 : Int) ≤ A_205 65 i ∧ A_205 65 i ≤ 255 := H.arng 65 i; rw [show A_205 65 = A 65 from (funext (hA_205 65 rfl)).trans ((funext (hA159 65 rfl)).trans ((funext (hA149 65 rfl)).trans ((funext (hA_c182 65 rfl)).trans ((funext (hA143 65 rfl)).trans ((funext (hA138 65 rfl)).trans ((funext (hA130 65 rfl)).trans ((funext (hA123 65 rfl)).trans ((funext (hA117 65 rfl)).trans ((funext (hA_c111 65 rfl)).trans ((funext (hA_c56 65 rfl)).trans (funext (hA_c27 65 rfl))))))))))))] at h1; exact h1
                    refine Ew_of (pc' := 234) (fun _ => x_aload_n rfl l205_0) ?_
                    refine Ew_of (pc' := 236) (fun _ => x_iload rfl l205_5) ?_
                    refine w_pI H (o := 6) rfl rfl (H.perm 6 rfl) rfl rfl rfl (fun _ => rfl) rfl (show (0 : Int) ≤ z124 ∧ z124 ≤ 11 by omega) (fun σ H => ?_)
                    have : (2 : Int) ≤ (xc182_4) → ∀ k, 0 ≤ k → k < (F 6 30) → ((w205_53)) (((A 65)) k) ≠ 0 := by first | exact (fun q => (show (xc182_4) = 3 → ∀ k, 0 ≤ k → k < (F 6 30) → ((w205_53)) (((A 65)) k) ≠ 0 from by assumption) (by omega)) | exact (fun q => (show xc111_4 = 3 → ∀ k, 0 ≤ k → k < (F 6 30) → ((w205_53)) (((A 65)) k) ≠ 0 from by assumption) (by omega)) | exact (fun _ k a b => by rw [j205_3 _ (hBl k).1 (by have := hBl k; omega)]; exact hcod k a b)
                    have : (2 : Int) ≤ (xc182_4) → CI ((w205_53)) ((z124)) := by first | exact (fun q => (show (xc182_4) = 3 → CI ((w205_53)) ((z124)) from by assumption) (by omega)) | exact (fun q => (show xc111_4 = 3 → CI ((w205_53)) ((z124)) from by assumption) (by omega)) | exact (fun _ => CI_congr hci (fun i a b => j205_3 i a (by omega)))
                    have : WC ((z124)) ((w205_53)) := by first | assumption | exact .inr (CI_congr hci (fun i a b => j205_3 i a (by omega)))
                    exact hc239  _ σ _ _ (xc182_4) (l205_0) (l205_1) (l205_2) (l205_4) H (SF_upd (SF_trans (SF_trans (SF_trans (SF_trans (SF_trans (SF_trans (SF_trans (SF_trans (SF_trans (SF_refl) hS116 (any_sub rfl)) hS122 (any_sub rfl)) hS129 (any_sub rfl)) hS137 (any_sub rfl)) hS142 (any_sub rfl)) hS_c182 (any_sub rfl)) hS148 (any_sub rfl)) hS158 (any_sub rfl)) hS_205 (any_sub rfl)) rfl) (SA_trans (SA_trans (SA_trans (SA_trans (SA_trans (SA_trans (SA_trans (SA_trans (SA_trans (SA_refl) hA117 (any_subA rfl)) hA123 (any_subA rfl)) hA130 (any_subA rfl)) hA138 (any_subA rfl)) hA143 (any_subA rfl)) hA_c182 (any_subA rfl)) hA149 (any_subA rfl)) hA159 (any_subA rfl)) hA_205 (any_subA rfl)) (z124) (rfl) (y161) (((hS_205 6 37 rfl).trans (ey162))) (w205_53) (ew205_53) (show inr (xc182_4) by omega) (show 0 ≤ (xc182_4) ∧ (xc182_4) ≤ 3 by omega) (show (xc182_4) ≠ 1 ∨ 1 ≤ (F 6 30) by omega) (show 2 ≤ (xc182_4) → ∀ k, 0 ≤ k → k < (F 6 30) → ((w205_53)) (((A 65)) k) ≠ 0 by first | assumption | exact fun h => absurd rfl h | exact fun h => absurd h (by decide) | omega) (show 2 ≤ (xc182_4) → CI ((w205_53)) ((z124)) by first | assumption | exact fun h => absurd rfl h | exact fun h => absurd h (by decide) | omega) (show WC ((z124)) ((w205_53)) by assumption) (show (u6_37) ≤ (y161) ∧ (y161) ≤ (u6_37) + 300 by omega)
                  · have hdb := hbd2 ((x205_9)) (by omega) (by omega)
                    refine Ew_of (pc' := 214) (fun _ => x_aload_n rfl l205_0) ?_
                    refine w_gT H (o := 6) (t := 53) rfl (H.perm 6 rfl) rfl rfl rfl rfl rfl rfl ?_
                    refine Ew_of (pc' := 219) (fun _ => x_iload rfl l205_9) ?_
                    refine Ew_of (pc' := 220) (fun _ => x_aload_n rfl l205_0) ?_
                    refine w_gT H (o := 6) (t := 82) rfl (H.perm 6 rfl) rfl rfl rfl rfl rfl rfl ?_
                    refine Ew_of (pc' := 225) (fun _ => x_iload rfl l205_9) ?_
                    refine w_lI H (o := 82) (n := 256) rfl (H.perm 82 rfl) rfl rfl (H.fix 82 rfl rfl) (show 0 ≤ x205_9 ∧ x205_9 < ((256 : Nat) : Int) by omega) (by decide) (fun v167 ev167 qv167 => ?_)
                    have qv167 : (-2147483648 : Int) ≤ v167 ∧ v167 ≤ 2147483647 := qv167
                    have ev167 : (wq125) (x205_9) = v167 := (congrFun ((funext (hA_205 82 rfl)).trans ((funext (hA159 82 rfl)).trans ((funext (hA149 82 rfl)).trans ((funext (hA_c182 82 rfl)).trans ((funext (hA143 82 rfl)).trans ((funext (hA138 82 rfl)).trans ((funext (hA130 82 rfl)).trans (ewq126)))))))) (x205_9)).symm.trans ev167
                    refine w_sI H (o := 53) (n := 256) rfl (H.perm 53 rfl) rfl rfl (H.fix 53 rfl rfl) (show 0 ≤ x205_9 ∧ x205_9 < ((256 : Nat) : Int) by omega) (by decide) (show (0 : Int) ≤ v167 ∧ v167 ≤ 11 by omega) (fun σ H => ?_)
                    refine Ew_of (pc' := 230) (fun _ => x_iinc (len := 3) rfl (l205_9)) ?_
                    refine Ew_of (pc' := 205) (fun _ => x_goto rfl rfl) ?_
                    have : ∀ i, (0 : Int) ≤ i → i < ((x205_9 + 1)) → ((upd1 (w205_53) (x205_9) (v167))) i = ((wq125)) i := pt_copy j205_3 (by omega)
                    exact ih205 _ (by omega) _ σ _ _ ((x205_9 + 1)) (rk_o (l205_0) rfl rfl) (rk_o (l205_1) rfl rfl) (rk_o (l205_2) rfl rfl) (rk_o (l205_4) rfl rfl) (rk_o (l205_5) rfl rfl) (rk_s) H (hS_205) (SA_upd (hA_205) rfl)  (upd1 (w205_53) (x205_9) (v167)) (congrArg (fun q => upd1 q (x205_9) (v167)) (ew205_53)) (show inr ((x205_9 + 1)) by omega) (show (0) ≤ ((x205_9 + 1)) by omega) (show ((x205_9 + 1)) ≤ (0) ∨ ((x205_9 + 1)) ≤ ((256)) by omega) (show ∀ i, 0 ≤ i → i < ((x205_9 + 1)) → ((upd1 (w205_53) (x205_9) (v167))) i = ((wq125)) i by assumption) rfl
            refine Ew_of (pc' := 159) (fun _ => x_iload rfl (rk_o (rk_o (rk_s) rfl rfl) rfl rfl)) ?_
            refine w_ifle (t := 182) rfl rfl (show inr (z131) by omega) (fun b168 => ?_) (fun b168 => ?_)
            · exact hc182  _ σ _ _ (xc111_4) (rk_o (rk_o (rk_o (rk_o (lc111_0) rfl rfl) rfl rfl) rfl rfl) rfl rfl) (rk_o (rk_o (rk_o (rk_o (lc111_1) rfl rfl) rfl rfl) rfl rfl) rfl rfl) (rk_o (rk_o (rk_o (rk_o (lc111_2) rfl rfl) rfl rfl) rfl rfl) rfl rfl) (rk_o (rk_o (rk_o (rk_o (lc111_4) rfl rfl) rfl rfl) rfl rfl) rfl rfl) (rk_o (rk_o (rk_o (rk_s) rfl rfl) rfl rfl) rfl rfl) (rk_o (rk_s) rfl rfl) (rk_s) H (SF_refl) (SA_refl)   (show inr (xc111_4) by omega) (show (xc111_4) = 2 ∧ 1 ≤ (z131) ∧ 0 ≤ (z144) ∨ (xc111_4) = (xc111_4) ∧ (xc111_4) ≠ 2 by omega)
            · refine Ew_of (pc' := 164) (fun _ => x_iload rfl rk_s) ?_
              refine w_iflt (t := 182) rfl rfl (show inr (z144) by omega) (fun b169 => ?_) (fun b169 => ?_)
              · exact hc182  _ σ _ _ (xc111_4) (rk_o (rk_o (rk_o (rk_o (lc111_0) rfl rfl) rfl rfl) rfl rfl) rfl rfl) (rk_o (rk_o (rk_o (rk_o (lc111_1) rfl rfl) rfl rfl) rfl rfl) rfl rfl) (rk_o (rk_o (rk_o (rk_o (lc111_2) rfl rfl) rfl rfl) rfl rfl) rfl rfl) (rk_o (rk_o (rk_o (rk_o (lc111_4) rfl rfl) rfl rfl) rfl rfl) rfl rfl) (rk_o (rk_o (rk_o (rk_s) rfl rfl) rfl rfl) rfl rfl) (rk_o (rk_s) rfl rfl) (rk_s) H (SF_refl) (SA_refl)   (show inr (xc111_4) by omega) (show (xc111_4) = 2 ∧ 1 ≤ (z131) ∧ 0 ≤ (z144) ∨ (xc111_4) = (xc111_4) ∧ (xc111_4) ≠ 2 by omega)
              · refine Ew_of (pc' := 169) (fun _ => x_iload rfl rk_s) ?_
                refine w_stat24 rfl rfl (by rfl) (M428 H (show inr (z144) by omega) (fun z174 σ F170 A171 H hS172 hA173 pz174_0 pz174_1 pz174_2 => ⟨rfl, ?_⟩))
                refine Ew_of (pc' := 174) (fun _ => x_iload rfl (rk_o (rk_s) rfl rfl)) ?_
                refine w_iadd rfl ?_
                refine Ew_of (pc' := 176) (fun _ => x_iload_n rfl (rk_o (rk_o (rk_o (rk_o (lc111_3) rfl rfl) rfl rfl) rfl rfl) rfl rfl)) ?_
                refine w_icmpge (t := 182) rfl rfl (show inr ((z174 + z139)) by omega) (show inr (xc111_3) by omega) (fun b175 => ?_) (fun b175 => ?_)
                · exact hc182  _ σ _ _ (xc111_4) (rk_o (rk_o (rk_o (rk_o (lc111_0) rfl rfl) rfl rfl) rfl rfl) rfl rfl) (rk_o (rk_o (rk_o (rk_o (lc111_1) rfl rfl) rfl rfl) rfl rfl) rfl rfl) (rk_o (rk_o (rk_o (rk_o (lc111_2) rfl rfl) rfl rfl) rfl rfl) rfl rfl) (rk_o (rk_o (rk_o (rk_o (lc111_4) rfl rfl) rfl rfl) rfl rfl) rfl rfl) (rk_o (rk_o (rk_o (rk_s) rfl rfl) rfl rfl) rfl rfl) (rk_o (rk_s) rfl rfl) (rk_s) H (SF_trans (SF_refl) hS172 (any_sub rfl)) (SA_trans (SA_refl) hA173 (any_subA rfl))   (show inr (xc111_4) by omega) (show (xc111_4) = 2 ∧ 1 ≤ (z131) ∧ 0 ≤ (z144) ∨ (xc111_4) = (xc111_4) ∧ (xc111_4) ≠ 2 by omega)
                · refine Ew_of (pc' := 180) (fun _ => x_iconst rfl) ?_
                  refine Ew_of (pc' := 182) (fun _ => x_istore rfl) ?_
                  exact hc182  _ σ _ _ (2) (rk_o (rk_o (rk_o (rk_o (rk_o (lc111_0) rfl rfl) rfl rfl) rfl rfl) rfl rfl) rfl rfl) (rk_o (rk_o (rk_o (rk_o (rk_o (lc111_1) rfl rfl) rfl rfl) rfl rfl) rfl rfl) rfl rfl) (rk_o (rk_o (rk_o (rk_o (rk_o (lc111_2) rfl rfl) rfl rfl) rfl rfl) rfl rfl) rfl rfl) (rk_s) (rk_o (rk_o (rk_o (rk_o (rk_s) rfl rfl) rfl rfl) rfl rfl) rfl rfl) (rk_o (rk_o (rk_s) rfl rfl) rfl rfl) (rk_o (rk_s) rfl rfl) H (SF_trans (SF_refl) hS172 (any_sub rfl)) (SA_trans (SA_refl) hA173 (any_subA rfl))   (show inr (2) by omega) (show (2) = 2 ∧ 1 ≤ (z131) ∧ 0 ≤ (z144) ∨ (2) = (xc111_4) ∧ (2) ≠ 2 by omega)
      refine Ew_of (pc' := 57) (fun _ => x_aload_n rfl lc56_0) ?_
      refine w_inv H (o := 6) rfl rfl rfl (H.perm 6 rfl) rfl rfl (by rfl) (M433 H (u6_12) ((((hS_c56 6 12 rfl).trans (hS_c27 6 12 rfl)).trans (eu6_12))) (F 6 30) (((hS_c56 6 30 rfl).trans (hS_c27 6 30 rfl))) (w53) ((funext (hA_c56 53 rfl)).trans ((funext (hA_c27 53 rfl)).trans (ew53))) (A 65) ((funext (hA_c56 65 rfl)).trans (funext (hA_c27 65 rfl)))  (fun z180 σ F176 A177 H hS178 hA179 pz180_0 pz180_1 pz180_2 pz180_3 => ⟨rretB rfl pz180_0, ?_⟩))
      refine w_ifeq (t := 111) rfl rfl (show inr (z180) by omega) (fun b181 => ?_) (fun b181 => ?_)
      · have : ((xc56_4) : Int) = 3 → ∀ k, 0 ≤ k → k < (F 6 30) → ((w53)) (((A 65)) k) ≠ 0 := by first | exact (fun q => absurd q (by omega)) | exact (fun _ => pz180_2 (by omega))
        have : ((xc56_4) : Int) = 3 → CI ((w53)) ((u6_12)) := by first | exact (fun q => absurd q (by omega)) | exact (fun _ => by rcases hwc with q | q; (have := pz180_1 (by omega); omega); exact q)
        exact hc111  _ σ _ _ (xc56_3) (xc56_4) (lc56_0) (lc56_1) (lc56_2) (lc56_3) (lc56_4) H (SF_trans (SF_refl) hS178 (any_sub rfl)) (SA_trans (SA_refl) hA179 (any_subA rfl))   (show inr (xc56_3) by omega) (show inr (xc56_4) by omega) (show (xc56_4) = 0 ∨ (xc56_4) = 1 ∧ 1 ≤ (F 6 30) ∨ (xc56_4) = 3 by omega) (show 0 ≤ (xc56_3) ∧ (xc56_3) ≤ 100000 by omega) (show (xc56_4) = 3 → ∀ k, 0 ≤ k → k < (F 6 30) → ((w53)) (((A 65)) k) ≠ 0 by first | assumption | exact fun h => absurd rfl h | exact fun h => absurd h (by decide) | omega) (show (xc56_4) = 3 → CI ((w53)) ((u6_12)) by first | assumption | exact fun h => absurd rfl h | exact fun h => absurd h (by decide) | omega)
      · refine Ew_of (pc' := 64) (fun _ => x_aload_n rfl lc56_0) ?_
        refine Ew_of (pc' := 65) (fun _ => x_aload_n rfl lc56_0) ?_
        refine w_gT H (o := 6) (t := 53) rfl (H.perm 6 rfl) rfl rfl rfl rfl rfl rfl ?_
        refine Ew_of (pc' := 69) (fun _ => x_iconst rfl) ?_
        refine w_inv H (o := 6) rfl rfl rfl (H.perm 6 rfl) rfl rfl (by rfl) (M426_53 H (F 6 30) ((((hS178 6 30 rfl).trans (hS_c56 6 30 rfl)).trans (hS_c27 6 30 rfl))) (w53) ((funext (hA179 53 rfl)).trans ((funext (hA_c56 53 rfl)).trans ((funext (hA_c27 53 rfl)).trans (ew53)))) (A 65) ((funext (hA179 65 rfl)).trans ((funext (hA_c56 65 rfl)).trans (funext (hA_c27 65 rfl)))) (show inr (0) by omega) (show BD ((w53)) by assumption) (show -2 ≤ (0) ∧ (0) ≤ 20000 by omega) (fun z186 σ F182 A183 H hS184 hA185 pz186_0 pz186_1 pz186_2 => ⟨rfl, ?_⟩))
        refine Ew_of (pc' := 74) (fun _ => x_istore rfl) ?_
        refine Ew_of (pc' := 75) (fun _ => x_aload_n rfl (rk_o (lc56_0) rfl rfl)) ?_
        refine Ew_of (pc' := 77) (fun _ => x_iload rfl rk_s) ?_
        refine w_inv H (o := 6) rfl rfl rfl (H.perm 6 rfl) rfl rfl (by rfl) (M429 H (F 6 30) (((((hS184 6 30 rfl).trans (hS178 6 30 rfl)).trans (hS_c56 6 30 rfl)).trans (hS_c27 6 30 rfl))) (show inr (z186) by omega) (fun z191 σ F187 A188 H hS189 hA190 pz191_0 pz191_1 pz191_2 => ⟨rfl, ?_⟩))
        refine Ew_of (pc' := 82) (fun _ => x_istore rfl) ?_
        refine Ew_of (pc' := 84) (fun _ => x_iload rfl rk_s) ?_
        refine w_iflt (t := 111) rfl rfl (show inr (z191) by omega) (fun b192 => ?_) (fun b192 => ?_)
        · have : ((xc56_4) : Int) = 3 → ∀ k, 0 ≤ k → k < (F 6 30) → ((w53)) (((A 65)) k) ≠ 0 := by first | exact (fun q => absurd q (by omega)) | exact (fun _ => pz180_2 (by omega))
          have : ((xc56_4) : Int) = 3 → CI ((w53)) ((u6_12)) := by first | exact (fun q => absurd q (by omega)) | exact (fun _ => by rcases hwc with q | q; (have := pz180_1 (by omega); omega); exact q)
          exact hc111  _ σ _ _ (xc56_3) (xc56_4) (rk_o (rk_o (lc56_0) rfl rfl) rfl rfl) (rk_o (rk_o (lc56_1) rfl rfl) rfl rfl) (rk_o (rk_o (lc56_2) rfl rfl) rfl rfl) (rk_o (rk_o (lc56_3) rfl rfl) rfl rfl) (rk_o (rk_o (lc56_4) rfl rfl) rfl rfl) H (SF_trans (SF_trans (SF_trans (SF_refl) hS178 (any_sub rfl)) hS184 (any_sub rfl)) hS189 (any_sub rfl)) (SA_trans (SA_trans (SA_trans (SA_refl) hA179 (any_subA rfl)) hA185 (any_subA rfl)) hA190 (any_subA rfl))   (show inr (xc56_3) by omega) (show inr (xc56_4) by omega) (show (xc56_4) = 0 ∨ (xc56_4) = 1 ∧ 1 ≤ (F 6 30) ∨ (xc56_4) = 3 by omega) (show 0 ≤ (xc56_3) ∧ (xc56_3) ≤ 100000 by omega) (show (xc56_4) = 3 → ∀ k, 0 ≤ k → k < (F 6 30) → ((w53)) (((A 65)) k) ≠ 0 by first | assumption | exact fun h => absurd rfl h | exact fun h => absurd h (by decide) | omega) (show (xc56_4) = 3 → CI ((w53)) ((u6_12)) by first | assumption | exact fun h => absurd rfl h | exact fun h => absurd h (by decide) | omega)
        · refine Ew_of (pc' := 89) (fun _ => x_iload rfl rk_s) ?_
          refine w_stat24 rfl rfl (by rfl) (M428 H (show inr (z191) by omega) (fun z197 σ F193 A194 H hS195 hA196 pz197_0 pz197_1 pz197_2 => ⟨rfl, ?_⟩))
          refine Ew_of (pc' := 94) (fun _ => x_iload rfl (rk_o (rk_s) rfl rfl)) ?_
          refine w_iadd rfl ?_
          refine Ew_of (pc' := 96) (fun _ => x_iload_n rfl (rk_o (rk_o (lc56_3) rfl rfl) rfl rfl)) ?_
          refine w_icmpge (t := 111) rfl rfl (show inr ((z197 + z186)) by omega) (show inr (xc56_3) by omega) (fun b198 => ?_) (fun b198 => ?_)
          · have : ((xc56_4) : Int) = 3 → ∀ k, 0 ≤ k → k < (F 6 30) → ((w53)) (((A 65)) k) ≠ 0 := by first | exact (fun q => absurd q (by omega)) | exact (fun _ => pz180_2 (by omega))
            have : ((xc56_4) : Int) = 3 → CI ((w53)) ((u6_12)) := by first | exact (fun q => absurd q (by omega)) | exact (fun _ => by rcases hwc with q | q; (have := pz180_1 (by omega); omega); exact q)
            exact hc111  _ σ _ _ (xc56_3) (xc56_4) (rk_o (rk_o (lc56_0) rfl rfl) rfl rfl) (rk_o (rk_o (lc56_1) rfl rfl) rfl rfl) (rk_o (rk_o (lc56_2) rfl rfl) rfl rfl) (rk_o (rk_o (lc56_3) rfl rfl) rfl rfl) (rk_o (rk_o (lc56_4) rfl rfl) rfl rfl) H (SF_trans (SF_trans (SF_trans (SF_trans (SF_refl) hS178 (any_sub rfl)) hS184 (any_sub rfl)) hS189 (any_sub rfl)) hS195 (any_sub rfl)) (SA_trans (SA_trans (SA_trans (SA_trans (SA_refl) hA179 (any_subA rfl)) hA185 (any_subA rfl)) hA190 (any_subA rfl)) hA196 (any_subA rfl))   (show inr (xc56_3) by omega) (show inr (xc56_4) by omega) (show (xc56_4) = 0 ∨ (xc56_4) = 1 ∧ 1 ≤ (F 6 30) ∨ (xc56_4) = 3 by omega) (show 0 ≤ (xc56_3) ∧ (xc56_3) ≤ 100000 by omega) (show (xc56_4) = 3 → ∀ k, 0 ≤ k → k < (F 6 30) → ((w53)) (((A 65)) k) ≠ 0 by first | assumption | exact fun h => absurd rfl h | exact fun h => absurd h (by decide) | omega) (show (xc56_4) = 3 → CI ((w53)) ((u6_12)) by first | assumption | exact fun h => absurd rfl h | exact fun h => absurd h (by decide) | omega)
          · refine Ew_of (pc' := 101) (fun _ => x_iload rfl rk_s) ?_
            refine w_stat24 rfl rfl (by rfl) (M428 H (show inr (z191) by omega) (fun z203 σ F199 A200 H hS201 hA202 pz203_0 pz203_1 pz203_2 => ⟨rfl, ?_⟩))
            refine Ew_of (pc' := 106) (fun _ => x_iload rfl (rk_o (rk_s) rfl rfl)) ?_
            refine w_iadd rfl ?_
            refine Ew_of (pc' := 108) (fun _ => x_istore_n rfl) ?_
            refine Ew_of (pc' := 109) (fun _ => x_iconst rfl) ?_
            refine Ew_of (pc' := 111) (fun _ => x_istore rfl) ?_
            have : ((3) : Int) = 3 → ∀ k, 0 ≤ k → k < (F 6 30) → ((w53)) (((A 65)) k) ≠ 0 := by first | exact (fun q => absurd q (by omega)) | exact (fun _ => pz180_2 (by omega))
            have : ((3) : Int) = 3 → CI ((w53)) ((u6_12)) := by first | exact (fun q => absurd q (by omega)) | exact (fun _ => by rcases hwc with q | q; (have := pz180_1 (by omega); omega); exact q)
            exact hc111  _ σ _ _ ((z203 + z186)) (3) (rk_o (rk_o (rk_o (rk_o (lc56_0) rfl rfl) rfl rfl) rfl rfl) rfl rfl) (rk_o (rk_o (rk_o (rk_o (lc56_1) rfl rfl) rfl rfl) rfl rfl) rfl rfl) (rk_o (rk_o (rk_o (rk_o (lc56_2) rfl rfl) rfl rfl) rfl rfl) rfl rfl) (rk_o (rk_s) rfl rfl) (rk_s) H (SF_trans (SF_trans (SF_trans (SF_trans (SF_trans (SF_refl) hS178 (any_sub rfl)) hS184 (any_sub rfl)) hS189 (any_sub rfl)) hS195 (any_sub rfl)) hS201 (any_sub rfl)) (SA_trans (SA_trans (SA_trans (SA_trans (SA_trans (SA_refl) hA179 (any_subA rfl)) hA185 (any_subA rfl)) hA190 (any_subA rfl)) hA196 (any_subA rfl)) hA202 (any_subA rfl))   (show inr ((z203 + z186)) by omega) (show inr (3) by omega) (show (3) = 0 ∨ (3) = 1 ∧ 1 ≤ (F 6 30) ∨ (3) = 3 by omega) (show 0 ≤ ((z203 + z186)) ∧ ((z203 + z186)) ≤ 100000 by omega) (show (3) = 3 → ∀ k, 0 ≤ k → k < (F 6 30) → ((w53)) (((A 65)) k) ≠ 0 by first | assumption | exact fun h => absurd rfl h | exact fun h => absurd h (by decide) | omega) (show (3) = 3 → CI ((w53)) ((u6_12)) by first | assumption | exact fun h => absurd rfl h | exact fun h => absurd h (by decide) | omega)
    refine Ew_of (pc' := 36) (fun _ => x_aload_n rfl (rk_o (rk_o (rk_o (lc27_0) rfl rfl) rfl rfl) rfl rfl)) ?_
    refine w_inv H (o := 6) rfl rfl rfl (H.perm 6 rfl) rfl rfl (by rfl) (M432 H (F 6 30) ((hS_c27 6 30 rfl)) (A 65) (funext (hA_c27 65 rfl))  (fun z208 σ F204 A205 H hS206 hA207 pz208_0 pz208_1 pz208_2 pz208_3 => ⟨rretB rfl pz208_0, ?_⟩))
    refine w_ifeq (t := 56) rfl rfl (show inr (z208) by omega) (fun b209 => ?_) (fun b209 => ?_)
    · exact hc56  _ σ _ _ ((tc27_0 + F 6 30)) (0) (rk_o (rk_o (rk_o (lc27_0) rfl rfl) rfl rfl) rfl rfl) (rk_o (rk_o (rk_o (lc27_1) rfl rfl) rfl rfl) rfl rfl) (rk_o (rk_o (rk_s) rfl rfl) rfl rfl) (rk_o (rk_s) rfl rfl) (rk_s) H (SF_trans (SF_refl) hS206 (any_sub rfl)) (SA_trans (SA_refl) hA207 (any_subA rfl))   (show inr ((tc27_0 + F 6 30)) by omega) (show inr (0) by omega) (show (0) = 0 ∨ (0) = 1 ∧ 1 ≤ (F 6 30) by omega) (show 0 ≤ ((tc27_0 + F 6 30)) ∧ ((tc27_0 + F 6 30)) ≤ 20000 by omega)
    · refine Ew_of (pc' := 43) (fun _ => x_iload_n rfl (rk_o (rk_o (rk_s) rfl rfl) rfl rfl)) ?_
      refine Ew_of (pc' := 44) (fun _ => x_iconst rfl) ?_
      refine w_iadd rfl ?_
      refine Ew_of (pc' := 46) (fun _ => x_iload_n rfl (rk_o (rk_s) rfl rfl)) ?_
      refine w_icmpge (t := 56) rfl rfl (show inr ((tc27_0 + 1)) by omega) (show inr ((tc27_0 + F 6 30)) by omega) (fun b210 => ?_) (fun b210 => ?_)
      · exact hc56  _ σ _ _ ((tc27_0 + F 6 30)) (0) (rk_o (rk_o (rk_o (lc27_0) rfl rfl) rfl rfl) rfl rfl) (rk_o (rk_o (rk_o (lc27_1) rfl rfl) rfl rfl) rfl rfl) (rk_o (rk_o (rk_s) rfl rfl) rfl rfl) (rk_o (rk_s) rfl rfl) (rk_s) H (SF_trans (SF_refl) hS206 (any_sub rfl)) (SA_trans (SA_refl) hA207 (any_subA rfl))   (show inr ((tc27_0 + F 6 30)) by omega) (show inr (0) by omega) (show (0) = 0 ∨ (0) = 1 ∧ 1 ≤ (F 6 30) by omega) (show 0 ≤ ((tc27_0 + F 6 30)) ∧ ((tc27_0 + F 6 30)) ≤ 20000 by omega)
      · refine Ew_of (pc' := 50) (fun _ => x_iload_n rfl (rk_o (rk_o (rk_s) rfl rfl) rfl rfl)) ?_
        refine Ew_of (pc' := 51) (fun _ => x_iconst rfl) ?_
        refine w_iadd rfl ?_
        refine Ew_of (pc' := 53) (fun _ => x_istore_n rfl) ?_
        refine Ew_of (pc' := 54) (fun _ => x_iconst rfl) ?_
        refine Ew_of (pc' := 56) (fun _ => x_istore rfl) ?_
        exact hc56  _ σ _ _ ((tc27_0 + 1)) (1) (rk_o (rk_o (rk_o (rk_o (rk_o (lc27_0) rfl rfl) rfl rfl) rfl rfl) rfl rfl) rfl rfl) (rk_o (rk_o (rk_o (rk_o (rk_o (lc27_1) rfl rfl) rfl rfl) rfl rfl) rfl rfl) rfl rfl) (rk_o (rk_o (rk_o (rk_o (rk_s) rfl rfl) rfl rfl) rfl rfl) rfl rfl) (rk_o (rk_s) rfl rfl) (rk_s) H (SF_trans (SF_refl) hS206 (any_sub rfl)) (SA_trans (SA_refl) hA207 (any_subA rfl))   (show inr ((tc27_0 + 1)) by omega) (show inr (1) by omega) (show (1) = 0 ∨ (1) = 1 ∧ 1 ≤ (F 6 30) by omega) (show 0 ≤ ((tc27_0 + 1)) ∧ ((tc27_0 + 1)) ≤ 20000 by omega)
  refine w_icmpge (t := 15) rfl rfl (show inr (F 6 30) by omega) (show inr (32) by omega) (fun b211 => ?_) (fun b211 => ?_)
  · refine Ew_of (pc' := 16) (fun _ => x_iload_n rfl rk_s) ?_
    refine Ew_of (pc' := 19) (fun _ => x_sipush (z := 4096) rfl (by decide)) ?_
    refine w_icmpge (t := 26) rfl rfl (show inr (F 6 30) by omega) (show inr (4096) by omega) (fun b212 => ?_) (fun b212 => ?_)
    · refine Ew_of (pc' := 27) (fun _ => x_iconst rfl) ?_
      exact hc27 (3) _ σ _ _  (rk_o (rfl) rfl rfl) (rk_s) H (SF_refl) (SA_refl)   (show inr (3) by omega) (show ((F 6 30) ≥ (32) ∧ (F 6 30) ≥ (4096) ∧ (3) = (3)) ∨ ((F 6 30) ≥ (32) ∧ (F 6 30) < (4096) ∧ (3) = (2)) ∨ ((F 6 30) < (32) ∧ (3) = (1)) by omega)
    · refine Ew_of (pc' := 23) (fun _ => x_iconst rfl) ?_
      refine Ew_of (pc' := 27) (fun _ => x_goto rfl rfl) ?_
      exact hc27 (2) _ σ _ _  (rk_o (rfl) rfl rfl) (rk_s) H (SF_refl) (SA_refl)   (show inr (2) by omega) (show ((F 6 30) ≥ (32) ∧ (F 6 30) ≥ (4096) ∧ (2) = (3)) ∨ ((F 6 30) ≥ (32) ∧ (F 6 30) < (4096) ∧ (2) = (2)) ∨ ((F 6 30) < (32) ∧ (2) = (1)) by omega)
  · refine Ew_of (pc' := 12) (fun _ => x_iconst rfl) ?_
    refine Ew_of (pc' := 27) (fun _ => x_goto rfl rfl) ?_
    exact hc27 (1) _ σ _ _  (rk_o (rfl) rfl rfl) (rk_s) H (SF_refl) (SA_refl)   (show inr (1) by omega) (show ((F 6 30) ≥ (32) ∧ (F 6 30) ≥ (4096) ∧ (1) = (3)) ∨ ((F 6 30) ≥ (32) ∧ (F 6 30) < (4096) ∧ (1) = (2)) ∨ ((F 6 30) < (32) ∧ (1) = (1)) by omega)
