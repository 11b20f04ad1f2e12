/-- Writer.sayHead -/
theorem M435b {σ0 σ : rS} {D N : Nat → Nat} {F : hF} {A : hA} {d c s : Nat} {Q : wQ} (H : HS σ0 σ D N F A) {a1 a2 a3 : Int} (u6_37 : Int) (eu6_37 : F 6 37 = u6_37) (h0 : inr (a1)) (h1 : inr (a2)) (h2 : inr (a3)) (h3 : -1 ≤ (a2) ∧ (a2) ≤ 3) (h4 : 0 ≤ (u6_37) ∧ (u6_37) ≤ 80000000) (k : ∀ σ F' A', HS σ0 σ D N F' A' → SF [(6, 37)] F F' → SA [70] A A' → ∀ y6_37 : Int, F' 6 37 = y6_37 → ((u6_37) ≤ (y6_37) ∧ (y6_37) ≤ (u6_37) + 5) → Q none σ c s) : Ew 435 (d + 2) 0 (rargs 0 [.ref (D 6), I a1, I a2, I a3]) [] σ c s Q := by
  have r1 : (0 : Int) ≤ u6_37 ∧ u6_37 ≤ 100000000 := by have h1 : (0 : Int) ≤ F 6 37 ∧ F 6 37 ≤ 100000000 := H.frng 6 37; rw [show F 6 37 = u6_37 from (eu6_37)] at h1; exact h1
  refine Ew_of (pc' := 1) (fun _ => x_aload_n rfl rfl) ?_
  refine Ew_of (pc' := 2) (fun _ => x_iload_n rfl rfl) ?_
  refine w_i2l rfl (show inr (a1) by omega) ?_
  refine Ew_of (pc' := 4) (fun _ => x_iload_n rfl rfl) ?_
  refine w_i2l rfl (show inr (a2) by omega) ?_
  refine Ew_of (pc' := 6) (fun _ => x_iconst rfl) ?_
  refine w_lshlA rfl (fun z2 gz2 => ?_)
  refine w_lorA rfl (fun z3 gz3 => ?_)
  refine Ew_of (pc' := 9) (fun _ => x_aload_n rfl rfl) ?_
  have r4 : (0 : Int) ≤ F 6 30 ∧ F 6 30 ≤ 16385 := by have h1 : (0 : Int) ≤ F 6 30 ∧ F 6 30 ≤ 16385 := H.frng 6 30; rw [show F 6 30 = F 6 30 from rfl] at h1; exact h1
  refine w_gI H (o := 6) (w := F 6 30) rfl (H.perm 6 rfl) rfl rfl rfl (fun _ => rfl) rfl ?_
  refine w_i2l rfl (show inr (F 6 30) by omega) ?_
  refine Ew_of (pc' := 14) (fun _ => x_iconst rfl) ?_
  refine w_lshlA rfl (fun z5 gz5 => ?_)
  refine w_lorA rfl (fun z6 gz6 => ?_)
  refine Ew_of (pc' := 17) (fun _ => x_iload_n rfl rfl) ?_
  refine w_i2l rfl (show inr (a3) by omega) ?_
  refine Ew_of (pc' := 19) (fun _ => x_iconst rfl) ?_
  refine Ew_of (pc' := 20) (fun _ => x_iload_n rfl rfl) ?_
  refine w_stat24 rfl rfl (by rfl) (M427 H (show inr (a2) by omega) (fun z11 σ F7 A8 H hS9 hA10 pz11_0 pz11_1 => ⟨rfl, ?_⟩))
  refine w_iadd rfl ?_
  refine w_lshlA rfl (fun z12 gz12 => ?_)
  refine w_lorA rfl (fun z13 gz13 => ?_)
  refine Ew_of (pc' := 27) (fun _ => x_iload_n rfl rfl) ?_
  refine w_stat24 rfl rfl (by rfl) (M428 H (show inr (a2) by omega) (fun z18 σ F14 A15 H hS16 hA17 pz18_0 pz18_1 => ⟨rfl, ?_⟩))
  refine w_inv H (o := 6) rfl rfl rfl (H.perm 6 rfl) rfl rfl (by rfl) (M393 H (u6_37) ((((hS16 6 37 rfl).trans (hS9 6 37 rfl)).trans (eu6_37))) (A 70) ((funext (hA17 70 rfl)).trans (funext (hA10 70 rfl))) (show inrJ (z13) by omega) (show inr (z18) by omega) (show 0 ≤ (z18) ∧ (z18) ≤ 8 by omega) (show 0 ≤ (u6_37) ∧ (u6_37) ≤ 90000000 by omega) (fun σ F19 A20 H hS21 hA22 y24 ey25 wq26 ewq27 pz23_0 pz23_1 => ⟨rfl, ?_⟩))
  have r28 : (0 : Int) ≤ y24 ∧ y24 ≤ 100000000 := by have h1 : (0 : Int) ≤ F19 6 37 ∧ F19 6 37 ≤ 100000000 := H.frng 6 37; rw [show F19 6 37 = y24 from (ey25)] at h1; exact h1
  exact w_ret rfl (k σ _ _ H (SF_trans (SF_trans (SF_trans (SF_refl) hS9 (any_sub rfl)) hS16 (any_sub rfl)) hS21 (any_sub rfl)) (SA_trans (SA_trans (SA_trans (SA_refl) hA10 (any_subA rfl)) hA17 (any_subA rfl)) hA22 (any_subA rfl)) (y24) ((ey25)) (show (u6_37) ≤ (y24) ∧ (y24) ≤ (u6_37) + 5 by omega))
/-- Writer.sayLiterals -/
theorem M434 {σ0 σ : rS} {D N : Nat → Nat} {F : hF} {A : hA} {d c s : Nat} {Q : wQ} (H : HS σ0 σ D N F A)  (u6_12 : Int) (eu6_12 : F 6 12 = u6_12) (u6_37 : Int) (eu6_37 : F 6 37 = u6_37) (w53 : Int → Int) (ew53 : A 53 = w53) (h0 : WC ((u6_12)) ((w53))) (h1 : 0 ≤ (u6_37) ∧ (u6_37) ≤ 50000000) (k : ∀ (z : Int) σ F' A', HS σ0 σ D N F' A' → SF [(6, 12), (6, 35), (6, 37), (6, 49), (6, 53)] F F' → SA [53, 69, 70, 71, 72, 73, 74, 75, 76, 77, 78, 79, 80, 81, 82, 83, 84] A A' → ∀ y6_12 : Int, F' 6 12 = y6_12 → ∀ y6_37 : Int, F' 6 37 = y6_37 → ∀ v53 : Int → Int, A' 53 = v53 → (inr (z)) → (0 ≤ (z) ∧ (z) ≤ 3) → (WC ((y6_12)) ((v53))) → ((u6_37) ≤ (y6_37) ∧ (y6_37) ≤ (u6_37) + 70000) → Q (some (I z)) σ c s) : Ew 434 (d + 4) 0 (rargs 0 [.ref (D 6)]) [] σ c s Q := by
  have r1 : (0 : Int) ≤ u6_12 ∧ u6_12 ≤ 11 := by have h1 : (0 : Int) ≤ F 6 12 ∧ F 6 12 ≤ 11 := H.frng 6 12; rw [show F 6 12 = u6_12 from (eu6_12)] at h1; exact h1
  have r2 : (0 : Int) ≤ u6_37 ∧ u6_37 ≤ 100000000 := by have h1 : (0 : Int) ≤ F 6 37 ∧ F 6 37 ≤ 100000000 := H.frng 6 37; rw [show F 6 37 = u6_37 from (eu6_37)] at h1; exact h1
  have hB : ∀ i, (0 : Int) ≤ (w53) i ∧ (w53) i ≤ 11 := fun i => by have h1 : (0 : Int) ≤ A 53 i ∧ A 53 i ≤ 11 := H.arng 53 i; rw [show A 53 = w53 from ew53] at h1; exact h1
  have hbd : BD ((w53)) := fun i _ _ => hB i
  have hwc : WC ((u6_12)) ((w53)) := by assumption
  refine Ew_of (pc' := 1) (fun _ => x_aload_n rfl rfl) ?_
  have r3 : (0 : Int) ≤ F 6 30 ∧ F 6 30 ≤ 16385 := by have h1 : (0 : Int) ≤ F 6 30 ∧ F 6 30 ≤ 16385 := H.frng 6 30; rw [show F 6 30 = F 6 30 from rfl] at h1; exact h1
  refine w_gI H (o := 6) (w := F 6 30) rfl (H.perm 6 rfl) rfl rfl rfl (fun _ => rfl) rfl ?_
  refine Ew_of (pc' := 5) (fun _ => x_istore_n rfl) ?_
  refine Ew_of (pc' := 6) (fun _ => x_iload_n rfl rk_s) ?_
  refine Ew_of (pc' := 8) (fun _ => x_bipush (z := 32) rfl (by decide)) ?_
  have hc27 : ∀ (tc27_0 : Int), ∀ (ls : rO) (σ : rS) (F_c27 : hF) (A_c27 : hA) , rlook ls 0 = some (.ref (D 6)) → rlook ls 1 = some (I (F 6 30)) → HS σ0 σ D N F_c27 A_c27 → SF [] F F_c27 → SA [] A A_c27 → (inr (tc27_0)) → (((F 6 30) ≥ (32) ∧ (F 6 30) ≥ (4096) ∧ (tc27_0) = (3)) ∨ ((F 6 30) ≥ (32) ∧ (F 6 30) < (4096) ∧ (tc27_0) = (2)) ∨ ((F 6 30) < (32) ∧ (tc27_0) = (1))) → Ew 434 (d + 4) 27 ls [I (tc27_0)] σ c s Q := by
   as_aux_lemma =>
    intro tc27_0 ls σ F_c27 A_c27  lc27_0 lc27_1 H hS_c27 hA_c27   jc27_0 jc27_1
    refine Ew_of (pc' := 28) (fun _ => x_istore_n rfl) ?_
    refine Ew_of (pc' := 29) (fun _ => x_iload_n rfl rk_s) ?_
    refine Ew_of (pc' := 30) (fun _ => x_iload_n rfl (rk_o (lc27_1) rfl rfl)) ?_
    refine w_iadd rfl ?_
    refine Ew_of (pc' := 32) (fun _ => x_istore_n rfl) ?_
    refine Ew_of (pc' := 33) (fun _ => x_iconst rfl) ?_
    refine Ew_of (pc' := 35) (fun _ => x_istore rfl) ?_
    have hc56 : ∀ (ls : rO) (σ : rS) (F_c56 : hF) (A_c56 : hA) (xc56_3 : Int) (xc56_4 : Int), rlook ls 0 = some (.ref (D 6)) → rlook ls 1 = some (I (F 6 30)) → rlook ls 2 = some (I (tc27_0)) → rlook ls 3 = some (I (xc56_3)) → rlook ls 4 = some (I (xc56_4)) → HS σ0 σ D N F_c56 A_c56 → SF [] F_c27 F_c56 → SA [] A_c27 A_c56 → (inr (xc56_3)) → (inr (xc56_4)) → ((xc56_4) = 0 ∨ (xc56_4) = 1 ∧ 1 ≤ (F 6 30)) → (0 ≤ (xc56_3) ∧ (xc56_3) ≤ 20000) → Ew 434 (d + 4) 56 ls [] σ c s Q := by
     as_aux_lemma =>
      intro  ls σ F_c56 A_c56 xc56_3 xc56_4 lc56_0 lc56_1 lc56_2 lc56_3 lc56_4 H hS_c56 hA_c56   jc56_0 jc56_1 jc56_2 jc56_3
      have hc111 : ∀ (ls : rO) (σ : rS) (F_c111 : hF) (A_c111 : hA) (xc111_3 : Int) (xc111_4 : Int), rlook ls 0 = some (.ref (D 6)) → rlook ls 1 = some (I (F 6 30)) → rlook ls 2 = some (I (tc27_0)) → rlook ls 3 = some (I (xc111_3)) → rlook ls 4 = some (I (xc111_4)) → HS σ0 σ D N F_c111 A_c111 → SF [] F_c56 F_c111 → SA [] A_c56 A_c111 → (inr (xc111_3)) → (inr (xc111_4)) → ((xc111_4) = 0 ∨ (xc111_4) = 1 ∧ 1 ≤ (F 6 30) ∨ (xc111_4) = 3) → (0 ≤ (xc111_3) ∧ (xc111_3) ≤ 100000) → ((xc111_4) = 3 → ∀ k, 0 ≤ k → k < (F 6 30) → ((w53)) (((A 65)) k) ≠ 0) → ((xc111_4) = 3 → CI ((w53)) ((u6_12))) → Ew 434 (d + 4) 111 ls [] σ c s Q := by
       as_aux_lemma =>
        intro  ls σ F_c111 A_c111 xc111_3 xc111_4 lc111_0 lc111_1 lc111_2 lc111_3 lc111_4 H hS_c111 hA_c111   jc111_0 jc111_1 jc111_2 jc111_3 jc111_4 jc111_5
        have hc239 : ∀ (ls : rO) (σ : rS) (F_c239 : hF) (A_c239 : hA) (xc239_4 : Int), rlook ls 0 = some (.ref (D 6)) → rlook ls 1 = some (I (F 6 30)) → rlook ls 2 = some (I (tc27_0)) → rlook ls 4 = some (I (xc239_4)) → HS σ0 σ D N F_c239 A_c239 → SF [(6, 12), (6, 35), (6, 37), (6, 49), (6, 53)] F_c111 F_c239 → SA [53, 69, 70, 71, 72, 73, 74, 75, 76, 77, 78, 79, 80, 81, 82, 84] A_c111 A_c239 → ∀ yc239_6_12 : Int, F_c239 6 12 = yc239_6_12 → ∀ yc239_6_37 : Int, F_c239 6 37 = yc239_6_37 → ∀ wc239_53 : Int → Int, A_c239 53 = wc239_53 → (inr (xc239_4)) → (0 ≤ (xc239_4) ∧ (xc239_4) ≤ 3) → ((xc239_4) ≠ 1 ∨ 1 ≤ (F 6 30)) → (2 ≤ (xc239_4) → ∀ k, 0 ≤ k → k < (F 6 30) → ((wc239_53)) (((A 65)) k) ≠ 0) → (2 ≤ (xc239_4) → CI ((wc239_53)) ((yc239_6_12))) → (WC ((yc239_6_12)) ((wc239_53))) → ((u6_37) ≤ (yc239_6_37) ∧ (yc239_6_37) ≤ (u6_37) + 300) → Ew 434 (d + 4) 239 ls [] σ c s Q := by
         as_aux_lemma =>
          intro  ls σ F_c239 A_c239 xc239_4 lc239_0 lc239_1 lc239_2 lc239_4 H hS_c239 hA_c239 yc239_6_12 eyc239_6_12 yc239_6_37 eyc239_6_37 wc239_53 ewc239_53 jc239_0 jc239_1 jc239_2 jc239_3 jc239_4 jc239_5 jc239_6
          have r4 : (0 : Int) ≤ yc239_6_12 ∧ yc239_6_12 ≤ 11 := by have h1 : (0 : Int) ≤ F_c239 6 12 ∧ F_c239 6 12 ≤ 11 := H.frng 6 12; rw [show F_c239 6 12 = yc239_6_12 from (eyc239_6_12)] at h1; exact h1
          have r5 : (0 : Int) ≤ yc239_6_37 ∧ yc239_6_37 ≤ 100000000 := by have h1 : (0 : Int) ≤ F_c239 6 37 ∧ F_c239 6 37 ≤ 100000000 := H.frng 6 37; rw [show F_c239 6 37 = yc239_6_37 from (eyc239_6_37)] at h1; exact h1
          refine Ew_of (pc' := 241) (fun _ => x_iload rfl lc239_4) ?_
          refine Ew_of (pc' := 242) (fun _ => x_iconst rfl) ?_
          refine w_icmpge (t := 330) rfl rfl (show inr (xc239_4) by omega) (show inr (2) by omega) (fun b6 => ?_) (fun b6 => ?_)
          · have hc361 : ∀ (ls : rO) (σ : rS) (F_c361 : hF) (A_c361 : hA) , rlook ls 0 = some (.ref (D 6)) → rlook ls 1 = some (I (F 6 30)) → rlook ls 4 = some (I (xc239_4)) → HS σ0 σ D N F_c361 A_c361 → SF [(6, 37)] F_c239 F_c361 → SA [70] A_c239 A_c361 → ∀ yc361_6_37 : Int, F_c361 6 37 = yc361_6_37 → ((yc239_6_37) ≤ (yc361_6_37) ∧ (yc361_6_37) ≤ (yc239_6_37) + 5) → Ew 434 (d + 4) 361 ls [] σ c s Q := by
             as_aux_lemma =>
              intro  ls σ F_c361 A_c361  lc361_0 lc361_1 lc361_4 H hS_c361 hA_c361 yc361_6_37 eyc361_6_37  jc361_0
              have r7 : (0 : Int) ≤ yc361_6_37 ∧ yc361_6_37 ≤ 100000000 := by have h1 : (0 : Int) ≤ F_c361 6 37 ∧ F_c361 6 37 ≤ 100000000 := H.frng 6 37; rw [show F_c361 6 37 = yc361_6_37 from (eyc361_6_37)] at h1; exact h1
              have hcl : CI ((wc239_53)) ((yc239_6_12)) := (show 2 ≤ (xc239_4) → CI ((wc239_53)) ((yc239_6_12)) from by assumption) (by omega)
              have hcdd : ∀ k, 0 ≤ k → k < (F 6 30) → ((wc239_53)) (((A 65)) k) ≠ 0 := (show 2 ≤ (xc239_4) → ∀ k, 0 ≤ k → k < (F 6 30) → ((wc239_53)) (((A 65)) k) ≠ 0 from by assumption) (by omega)
              refine Ew_of (pc' := 362) (fun _ => x_aload_n rfl lc361_0) ?_
              refine Ew_of (pc' := 363) (fun _ => x_aload_n rfl lc361_0) ?_
              refine w_gT H (o := 6) (t := 53) rfl (H.perm 6 rfl) rfl rfl rfl rfl rfl rfl ?_
              refine Ew_of (pc' := 367) (fun _ => x_aload_n rfl lc361_0) ?_
              refine w_gI H (o := 6) (w := yc239_6_12) rfl (H.perm 6 rfl) rfl rfl rfl (fun _ => rfl) ((hS_c361 6 12 rfl).trans (eyc239_6_12)) ?_
              refine w_inv H (o := 6) rfl rfl rfl (H.perm 6 rfl) rfl rfl (by rfl) (M430_53 H (wc239_53) ((funext (hA_c361 53 rfl)).trans (ewc239_53)) (show inr (yc239_6_12) by omega) (show CI ((wc239_53)) ((yc239_6_12)) by assumption) (fun σ F8 A9 H hS10 hA11 wq13 ewq14 pz12_0 => ⟨rfl, ?_⟩))
              refine Ew_of (pc' := 374) (fun _ => x_aload_n rfl lc361_0) ?_
              have r15 : (0 : Int) ≤ F_c239 6 35 ∧ F_c239 6 35 ≤ 100000000 := by have h1 : (0 : Int) ≤ F8 6 35 ∧ F8 6 35 ≤ 100000000 := H.frng 6 35; rw [show F8 6 35 = F_c239 6 35 from ((hS10 6 35 rfl).trans (hS_c361 6 35 rfl))] at h1; exact h1
              refine w_inv H (o := 6) rfl rfl rfl (H.perm 6 rfl) rfl rfl (by rfl) (M391 H (F_c239 6 35) (((hS10 6 35 rfl).trans (hS_c361 6 35 rfl))) (A_c239 69) ((funext (hA11 69 rfl)).trans (funext (hA_c361 69 rfl)))  (fun σ F16 A17 H hS18 hA19 y21 ey22 wq23 ewq24 pz20_0 pz20_1 => ⟨rfl, ?_⟩))
              have r25 : (0 : Int) ≤ y21 ∧ y21 ≤ 100000000 := by have h1 : (0 : Int) ≤ F16 6 35 ∧ F16 6 35 ≤ 100000000 := H.frng 6 35; rw [show F16 6 35 = y21 from (ey22)] at h1; exact h1
              have hc397 : ∀ (ls : rO) (σ : rS) (F_c397 : hF) (A_c397 : hA) , rlook ls 0 = some (.ref (D 6)) → rlook ls 4 = some (I (xc239_4)) → HS σ0 σ D N F_c397 A_c397 → SF [(6, 35)] F16 F_c397 → SA [69] A17 A_c397 → ∀ yc397_6_35 : Int, F_c397 6 35 = yc397_6_35 → (0 ≤ (yc397_6_35) ∧ (yc397_6_35) ≤ 192000) → Ew 434 (d + 4) 397 ls [] σ c s Q := by
               as_aux_lemma =>
                intro  ls σ F_c397 A_c397  lc397_0 lc397_4 H hS_c397 hA_c397 yc397_6_35 eyc397_6_35  jc397_0
                have r26 : (0 : Int) ≤ yc397_6_35 ∧ yc397_6_35 ≤ 100000000 := by have h1 : (0 : Int) ≤ F_c397 6 35 ∧ F_c397 6 35 ≤ 100000000 := H.frng 6 35; rw [show F_c397 6 35 = yc397_6_35 from (eyc397_6_35)] at h1; exact h1
                refine Ew_of (pc' := 398) (fun _ => x_aload_n rfl lc397_0) ?_
                refine w_inv H (o := 6) rfl rfl rfl (H.perm 6 rfl) rfl rfl (by rfl) (M394 H (yc397_6_35) ((eyc397_6_35)) (yc361_6_37) (((((hS_c397 6 37 rfl).trans (hS18 6 37 rfl)).trans (hS10 6 37 rfl)).trans (eyc361_6_37))) (A_c397 69) (rfl) (A_c361 70) ((funext (hA_c397 70 rfl)).trans ((funext (hA19 70 rfl)).trans (funext (hA11 70 rfl)))) (show 0 ≤ (yc397_6_35) ∧ (yc397_6_35) ≤ 192000 by omega) (show 0 ≤ (yc361_6_37) ∧ (yc361_6_37) ≤ 90000000 by omega) (fun σ F27 A28 H hS29 hA30 y32 ey33 wq34 ewq35 pz31_0 pz31_1 => ⟨rfl, ?_⟩))
                have r36 : (0 : Int) ≤ y32 ∧ y32 ≤ 100000000 := by have h1 : (0 : Int) ≤ F27 6 37 ∧ F27 6 37 ≤ 100000000 := H.frng 6 37; rw [show F27 6 37 = y32 from (ey33)] at h1; exact h1
                refine Ew_of (pc' := 403) (fun _ => x_iload rfl lc397_4) ?_
                exact w_ireturn rfl (k (xc239_4) σ _ _ H (SF_trans (SF_trans (SF_trans (SF_trans (SF_trans (SF_trans (SF_trans (SF_trans (SF_trans (SF_refl) hS_c27 (any_sub rfl)) hS_c56 (any_sub rfl)) hS_c111 (any_sub rfl)) hS_c239 (any_sub rfl)) hS_c361 (any_sub rfl)) hS10 (any_sub rfl)) hS18 (any_sub rfl)) hS_c397 (any_sub rfl)) hS29 (any_sub rfl)) (SA_trans (SA_trans (SA_trans (SA_trans (SA_trans (SA_trans (SA_trans (SA_trans (SA_trans (SA_refl) hA_c27 (any_subA rfl)) hA_c56 (any_subA rfl)) hA_c111 (any_subA rfl)) hA_c239 (any_subA rfl)) hA_c361 (any_subA rfl)) hA11 (any_subA rfl)) hA19 (any_subA rfl)) hA_c397 (any_subA rfl)) hA30 (any_subA rfl)) (yc239_6_12) (((((((hS29 6 12 rfl).trans (hS_c397 6 12 rfl)).trans (hS18 6 12 rfl)).trans (hS10 6 12 rfl)).trans (hS_c361 6 12 rfl)).trans (eyc239_6_12))) (y32) ((ey33)) (wc239_53) ((funext (hA30 53 rfl)).trans ((funext (hA_c397 53 rfl)).trans ((funext (hA19 53 rfl)).trans ((funext (hA11 53 rfl)).trans ((funext (hA_c361 53 rfl)).trans (ewc239_53)))))) (show inr (xc239_4) by omega) (show 0 ≤ (xc239_4) ∧ (xc239_4) ≤ 3 by omega) (show WC ((yc239_6_12)) ((wc239_53)) by assumption) (show (u6_37) ≤ (y32) ∧ (y32) ≤ (u6_37) + 70000 by omega))
              refine Ew_of (pc' := 378) (fun _ => x_iload_n rfl lc361_1) ?_
              refine Ew_of (pc' := 381) (fun _ => x_sipush (z := 1024) rfl (by decide)) ?_
              refine w_icmpge (t := 393) rfl rfl (show inr (F 6 30) by omega) (show inr (1024) by omega) (fun b37 => ?_) (fun b37 => ?_)
              · have : ∀ k, (0 : Int) ≤ k → k < (F 6 30) → ((wc239_53)) (((A 65)) k) ≠ 0 := hcdd
                refine Ew_of (pc' := 394) (fun _ => x_aload_n rfl lc361_0) ?_
                refine w_inv H (o := 6) rfl rfl rfl (H.perm 6 rfl) rfl rfl (by rfl) (M436 H (F 6 30) ((((((((hS18 6 30 rfl).trans (hS10 6 30 rfl)).trans (hS_c361 6 30 rfl)).trans (hS_c239 6 30 rfl)).trans (hS_c111 6 30 rfl)).trans (hS_c56 6 30 rfl)).trans (hS_c27 6 30 rfl))) (y21) ((ey22)) (wc239_53) ((funext (hA19 53 rfl)).trans ((funext (hA11 53 rfl)).trans ((funext (hA_c361 53 rfl)).trans (ewc239_53)))) (A 65) ((funext (hA19 65 rfl)).trans ((funext (hA11 65 rfl)).trans ((funext (hA_c361 65 rfl)).trans ((funext (hA_c239 65 rfl)).trans ((funext (hA_c111 65 rfl)).trans ((funext (hA_c56 65 rfl)).trans (funext (hA_c27 65 rfl)))))))) (wq13) ((funext (hA19 83 rfl)).trans (ewq14)) (show 1024 ≤ (F 6 30) by omega) (show CX ((wq13)) ((wc239_53)) by assumption) (show ∀ k, 0 ≤ k → k < (F 6 30) → ((wc239_53)) (((A 65)) k) ≠ 0 by assumption) (show 0 ≤ (y21) ∧ (y21) ≤ 1000 by omega) (fun σ F38 A39 H hS40 hA41 y43 ey44 pz42_0 => ⟨rfl, ?_⟩))
                have r45 : (0 : Int) ≤ y43 ∧ y43 ≤ 100000000 := by have h1 : (0 : Int) ≤ F38 6 35 ∧ F38 6 35 ≤ 100000000 := H.frng 6 35; rw [show F38 6 35 = y43 from (ey44)] at h1; exact h1
                exact hc397  _ σ _ _  (lc361_0) (lc361_4) H (SF_trans (SF_refl) hS40 (any_sub rfl)) (SA_trans (SA_refl) hA41 (any_subA rfl)) (y43) ((ey44))  (show 0 ≤ (y43) ∧ (y43) ≤ 192000 by omega)
              · have : ∀ k, (0 : Int) ≤ k → k < (F 6 30) → ((wc239_53)) (((A 65)) k) ≠ 0 := fun k a b => hcdd k a (by omega)
                refine Ew_of (pc' := 385) (fun _ => x_aload_n rfl lc361_0) ?_
                refine Ew_of (pc' := 386) (fun _ => x_iconst rfl) ?_
                refine Ew_of (pc' := 387) (fun _ => x_iload_n rfl lc361_1) ?_
                refine w_inv H (o := 6) rfl rfl rfl (H.perm 6 rfl) rfl rfl (by rfl) (M431 H (y21) ((ey22)) (wc239_53) ((funext (hA19 53 rfl)).trans ((funext (hA11 53 rfl)).trans ((funext (hA_c361 53 rfl)).trans (ewc239_53)))) (A 65) ((funext (hA19 65 rfl)).trans ((funext (hA11 65 rfl)).trans ((funext (hA_c361 65 rfl)).trans ((funext (hA_c239 65 rfl)).trans ((funext (hA_c111 65 rfl)).trans ((funext (hA_c56 65 rfl)).trans (funext (hA_c27 65 rfl)))))))) (wq13) ((funext (hA19 83 rfl)).trans (ewq14)) (show inr (0) by omega) (show inr (F 6 30) by omega) (show 0 ≤ (0) ∧ (0) ≤ (F 6 30) ∧ (F 6 30) ≤ 16385 by omega) (show CX ((wq13)) ((wc239_53)) by assumption) (show ∀ k, (0) ≤ k → k < (F 6 30) → ((wc239_53)) (((A 65)) k) ≠ 0 by assumption) (show 0 ≤ (y21) ∧ (y21) ≤ 1000000 by omega) (fun σ F46 A47 H hS48 hA49 y51 ey52 pz50_0 => ⟨rfl, ?_⟩))
                have r53 : (0 : Int) ≤ y51 ∧ y51 ≤ 100000000 := by have h1 : (0 : Int) ≤ F46 6 35 ∧ F46 6 35 ≤ 100000000 := H.frng 6 35; rw [show F46 6 35 = y51 from (ey52)] at h1; exact h1
                refine Ew_of (pc' := 397) (fun _ => x_goto rfl rfl) ?_
                exact hc397  _ σ _ _  (lc361_0) (lc361_4) H (SF_trans (SF_refl) hS48 (any_sub rfl)) (SA_trans (SA_refl) hA49 (any_subA rfl)) (y51) ((ey52))  (show 0 ≤ (y51) ∧ (y51) ≤ 192000 by omega)
            refine Ew_of (pc' := 332) (fun _ => x_iload rfl lc239_4) ?_
            refine Ew_of (pc' := 333) (fun _ => x_iconst rfl) ?_
            refine w_icmpne (t := 361) rfl rfl (show inr (xc239_4) by omega) (show inr (3) by omega) (fun b54 => ?_) (fun b54 => ?_)
            · exact hc361  _ σ _ _  (lc239_0) (lc239_1) (lc239_4) H (SF_refl) (SA_refl) (yc239_6_37) ((eyc239_6_37))  (show (yc239_6_37) ≤ (yc239_6_37) ∧ (yc239_6_37) ≤ (yc239_6_37) + 5 by omega)
            · have hB2 : ∀ i, (0 : Int) ≤ (wc239_53) i ∧ (wc239_53) i ≤ 11 := fun i => by have h1 : (0 : Int) ≤ A_c239 53 i ∧ A_c239 53 i ≤ 11 := H.arng 53 i; rw [show A_c239 53 = wc239_53 from ewc239_53] at h1; exact h1
              have hbd3 : BD ((wc239_53)) := fun i _ _ => hB2 i
              refine Ew_of (pc' := 337) (fun _ => x_aload_n rfl lc239_0) ?_
              refine Ew_of (pc' := 338) (fun _ => x_aload_n rfl lc239_0) ?_
              refine w_gT H (o := 6) (t := 53) rfl (H.perm 6 rfl) rfl rfl rfl rfl rfl rfl ?_
              refine Ew_of (pc' := 342) (fun _ => x_iconst rfl) ?_
              refine w_inv H (o := 6) rfl rfl rfl (H.perm 6 rfl) rfl rfl (by rfl) (M426_53 H (wc239_53) (ewc239_53) (show inr (0) by omega) (show BD ((wc239_53)) by assumption) (show -2 ≤ (0) ∧ (0) ≤ 20000 by omega) (fun z59 σ F55 A56 H hS57 hA58 pz59_0 pz59_1 => ⟨rfl, ?_⟩))
              refine Ew_of (pc' := 347) (fun _ => x_istore rfl) ?_
              refine Ew_of (pc' := 348) (fun _ => x_aload_n rfl (rk_o (lc239_0) rfl rfl)) ?_
              refine Ew_of (pc' := 350) (fun _ => x_iload rfl (rk_o (lc239_4) rfl rfl)) ?_
              refine Ew_of (pc' := 351) (fun _ => x_aload_n rfl (rk_o (lc239_0) rfl rfl)) ?_
              refine Ew_of (pc' := 353) (fun _ => x_iload rfl rk_s) ?_
              refine w_inv H (o := 6) rfl rfl rfl (H.perm 6 rfl) rfl rfl (by rfl) (M429 H (show inr (z59) by omega) (fun z64 σ F60 A61 H hS62 hA63 pz64_0 pz64_1 => ⟨rfl, ?_⟩))
              refine Ew_of (pc' := 358) (fun _ => x_iload rfl rk_s) ?_
              refine w_inv H (o := 6) rfl rfl rfl (H.perm 6 rfl) rfl rfl (by rfl) (M435b H (yc239_6_37) ((((hS62 6 37 rfl).trans (hS57 6 37 rfl)).trans (eyc239_6_37))) (show inr (xc239_4) by omega) (show inr (z64) by omega) (show inr (z59) by omega) (show -1 ≤ (z64) ∧ (z64) ≤ 3 by omega) (show 0 ≤ (yc239_6_37) ∧ (yc239_6_37) ≤ 80000000 by omega) (fun σ F65 A66 H hS67 hA68 y70 ey71 pz69_0 => ⟨rfl, ?_⟩))
              have r72 : (0 : Int) ≤ y70 ∧ y70 ≤ 100000000 := by have h1 : (0 : Int) ≤ F65 6 37 ∧ F65 6 37 ≤ 100000000 := H.frng 6 37; rw [show F65 6 37 = y70 from (ey71)] at h1; exact h1
              exact hc361  _ σ _ _  (rk_o (lc239_0) rfl rfl) (rk_o (lc239_1) rfl rfl) (rk_o (lc239_4) rfl rfl) H (SF_trans (SF_trans (SF_trans (SF_refl) hS57 (any_sub rfl)) hS62 (any_sub rfl)) hS67 (any_sub rfl)) (SA_trans (SA_trans (SA_trans (SA_refl) hA58 (any_subA rfl)) hA63 (any_subA rfl)) hA68 (any_subA rfl)) (y70) ((ey71))  (show (yc239_6_37) ≤ (y70) ∧ (y70) ≤ (yc239_6_37) + 5 by omega)
          · refine Ew_of (pc' := 246) (fun _ => x_aload_n rfl lc239_0) ?_
            have hc288 : ∀ (tc288_0 : Int), ∀ (ls : rO) (σ : rS) (F_c288 : hF) (A_c288 : hA) , rlook ls 0 = some (.ref (D 6)) → rlook ls 1 = some (I (F 6 30)) → rlook ls 2 = some (I (tc27_0)) → rlook ls 4 = some (I (xc239_4)) → HS σ0 σ D N F_c288 A_c288 → SF [] F_c239 F_c288 → SA [] A_c239 A_c288 → (inrJ (tc288_0)) → Ew 434 (d + 4) 288 ls [J (tc288_0), .ref (D 6)] σ c s Q := by
             as_aux_lemma =>
              intro tc288_0 ls σ F_c288 A_c288  lc288_0 lc288_1 lc288_2 lc288_4 H hS_c288 hA_c288   jc288_0
              refine Ew_of (pc' := 289) (fun _ => x_iload_n rfl lc288_2) ?_
              refine w_inv H (o := 6) rfl rfl rfl (H.perm 6 rfl) rfl rfl (by rfl) (M393 H (yc239_6_37) (((hS_c288 6 37 rfl).trans (eyc239_6_37))) (A_c239 70) (funext (hA_c288 70 rfl)) (show inrJ (tc288_0) by omega) (show inr (tc27_0) by omega) (show 0 ≤ (tc27_0) ∧ (tc27_0) ≤ 8 by omega) (show 0 ≤ (yc239_6_37) ∧ (yc239_6_37) ≤ 90000000 by omega) (fun σ F73 A74 H hS75 hA76 y78 ey79 wq80 ewq81 pz77_0 pz77_1 => ⟨rfl, ?_⟩))
              have r82 : (0 : Int) ≤ y78 ∧ y78 ≤ 100000000 := by have h1 : (0 : Int) ≤ F73 6 37 ∧ F73 6 37 ≤ 100000000 := H.frng 6 37; rw [show F73 6 37 = y78 from (ey79)] at h1; exact h1
              refine Ew_of (pc' := 293) (fun _ => x_iconst rfl) ?_
              refine Ew_of (pc' := 295) (fun _ => x_istore rfl) ?_
              suffices hl295 : ∀ (m : Nat), ∀ (ls : rO) (σ : rS) (F_295 : hF) (A_295 : hA) (x295_5 : Int), rlook ls 0 = some (.ref (D 6)) → rlook ls 1 = some (I (F 6 30)) → rlook ls 4 = some (I (xc239_4)) → rlook ls 5 = some (I (x295_5)) → HS σ0 σ D N F_295 A_295 → SF [(6, 37)] F73 F_295 → SA [70] A74 A_295 → ∀ y295_6_37 : Int, F_295 6 37 = y295_6_37 → (inr (x295_5)) → (0 ≤ (x295_5) ∧ (x295_5) ≤ (F 6 30) + 1) → ((y295_6_37) = (y78) + (x295_5)) → ((F 6 30) + 2 - (x295_5)).toNat = m → Ew 434 (d + 4) 295 ls [] σ c s Q from
                hl295 _ _ σ _ _ (0) (rk_o (lc288_0) rfl rfl) (rk_o (lc288_1) rfl rfl) (rk_o (lc288_4) rfl rfl) (rk_s) H (SF_refl) (SA_refl) (y78) ((ey79))  (show inr (0) by omega) (show 0 ≤ (0) ∧ (0) ≤ (F 6 30) + 1 by omega) (show (y78) = (y78) + (0) by omega) rfl
              as_aux_lemma =>
              intro m
              induction m using Nat.strongRecOn with
              | _ m ih295 =>
                intro ls σ F_295 A_295 x295_5 l295_0 l295_1 l295_4 l295_5 H hS_295 hA_295 y295_6_37 ey295_6_37  j295_0 j295_1 j295_2 hm295
                have r83 : (0 : Int) ≤ y295_6_37 ∧ y295_6_37 ≤ 100000000 := by have h1 : (0 : Int) ≤ F_295 6 37 ∧ F_295 6 37 ≤ 100000000 := H.frng 6 37; rw [show F_295 6 37 = y295_6_37 from (ey295_6_37)] at h1; exact h1
                refine Ew_of (pc' := 297) (fun _ => x_iload rfl l295_5) ?_
                refine Ew_of (pc' := 299) (fun _ => x_iload rfl l295_4) ?_
                have hc307 : ∀ (tc307_0 : Int), ∀ (ls : rO) (σ : rS) (F_c307 : hF) (A_c307 : hA) , rlook ls 0 = some (.ref (D 6)) → rlook ls 1 = some (I (F 6 30)) → rlook ls 4 = some (I (xc239_4)) → rlook ls 5 = some (I (x295_5)) → HS σ0 σ D N F_c307 A_c307 → SF [] F_295 F_c307 → SA [] A_295 A_c307 → (inr (tc307_0)) → (((xc239_4) ≠ (0) ∧ (tc307_0) = (1)) ∨ ((xc239_4) = (0) ∧ (tc307_0) = (F 6 30))) → Ew 434 (d + 4) 307 ls [I (tc307_0), I (x295_5)] σ c s Q := by
                 as_aux_lemma =>
                  intro tc307_0 ls σ F_c307 A_c307  lc307_0 lc307_1 lc307_4 lc307_5 H hS_c307 hA_c307   jc307_0 jc307_1
                  refine w_icmpge (t := 327) rfl rfl (show inr (x295_5) by omega) (show inr (tc307_0) by omega) (fun b84 => ?_) (fun b84 => ?_)
                  · refine Ew_of (pc' := 329) (fun _ => x_iload rfl lc307_4) ?_
                    exact w_ireturn rfl (k (xc239_4) σ _ _ H (SF_trans (SF_trans (SF_trans (SF_trans (SF_trans (SF_trans (SF_trans (SF_trans (SF_refl) hS_c27 (any_sub rfl)) hS_c56 (any_sub rfl)) hS_c111 (any_sub rfl)) hS_c239 (any_sub rfl)) hS_c288 (any_sub rfl)) hS75 (any_sub rfl)) hS_295 (any_sub rfl)) hS_c307 (any_sub rfl)) (SA_trans (SA_trans (SA_trans (SA_trans (SA_trans (SA_trans (SA_trans (SA_trans (SA_refl) hA_c27 (any_subA rfl)) hA_c56 (any_subA rfl)) hA_c111 (any_subA rfl)) hA_c239 (any_subA rfl)) hA_c288 (any_subA rfl)) hA76 (any_subA rfl)) hA_295 (any_subA rfl)) hA_c307 (any_subA rfl)) (yc239_6_12) ((((((hS_c307 6 12 rfl).trans (hS_295 6 12 rfl)).trans (hS75 6 12 rfl)).trans (hS_c288 6 12 rfl)).trans (eyc239_6_12))) (y295_6_37) (((hS_c307 6 37 rfl).trans (ey295_6_37))) (wc239_53) ((funext (hA_c307 53 rfl)).trans ((funext (hA_295 53 rfl)).trans ((funext (hA76 53 rfl)).trans ((funext (hA_c288 53 rfl)).trans (ewc239_53))))) (show inr (xc239_4) by omega) (show 0 ≤ (xc239_4) ∧ (xc239_4) ≤ 3 by omega) (show WC ((yc239_6_12)) ((wc239_53)) by assumption) (show (u6_37) ≤ (y295_6_37) ∧ (y295_6_37) ≤ (u6_37) + 70000 by omega))
                  · refine Ew_of (pc' := 311) (fun _ => x_aload_n rfl lc307_0) ?_
                    refine Ew_of (pc' := 312) (fun _ => x_aload_n rfl lc307_0) ?_
                    refine w_gT H (o := 6) (t := 65) rfl (H.perm 6 rfl) rfl rfl rfl rfl rfl rfl ?_
                    refine Ew_of (pc' := 317) (fun _ => x_iload rfl lc307_5) ?_
                    refine w_lI H (o := 65) (n := 16385) rfl (H.perm 65 rfl) rfl rfl (H.fix 65 rfl rfl) (show 0 ≤ x295_5 ∧ x295_5 < ((16385 : Nat) : Int) by omega) (by decide) (fun v85 ev85 qv85 => ?_)
                    have qv85 : (0 : Int) ≤ v85 ∧ v85 ≤ 255 := qv85
                    have ev85 : (A 65) (x295_5) = v85 := (congrFun ((funext (hA_c307 65 rfl)).trans ((funext (hA_295 65 rfl)).trans ((funext (hA76 65 rfl)).trans ((funext (hA_c288 65 rfl)).trans ((funext (hA_c239 65 rfl)).trans ((funext (hA_c111 65 rfl)).trans ((funext (hA_c56 65 rfl)).trans (funext (hA_c27 65 rfl))))))))) (x295_5)).symm.trans ev85
                    refine w_inv H (o := 6) rfl rfl rfl (H.perm 6 rfl) rfl rfl (by rfl) (M392 H (y295_6_37) (((hS_c307 6 37 rfl).trans (ey295_6_37))) (A_295 70) (funext (hA_c307 70 rfl)) (show inr (v85) by omega) (show 0 ≤ (y295_6_37) ∧ (y295_6_37) ≤ 99999999 by omega) (fun σ F86 A87 H hS88 hA89 y91 ey92 wq93 ewq94 pz90_0 pz90_1 => ⟨rfl, ?_⟩))
                    have r95 : (0 : Int) ≤ y91 ∧ y91 ≤ 100000000 := by have h1 : (0 : Int) ≤ F86 6 37 ∧ F86 6 37 ≤ 100000000 := H.frng 6 37; rw [show F86 6 37 = y91 from (ey92)] at h1; exact h1
                    refine Ew_of (pc' := 324) (fun _ => x_iinc (len := 3) rfl (lc307_5)) ?_
                    refine Ew_of (pc' := 295) (fun _ => x_goto rfl rfl) ?_
                    exact ih295 _ (by omega) _ σ _ _ ((x295_5 + 1)) (rk_o (lc307_0) rfl rfl) (rk_o (lc307_1) rfl rfl) (rk_o (lc307_4) rfl rfl) (rk_s) H (SF_trans (SF_trans (hS_295) hS_c307 (any_sub rfl)) hS88 (any_sub rfl)) (SA_trans (SA_trans (hA_295) hA_c307 (any_subA rfl)) hA89 (any_subA rfl)) (y91) ((ey92))  (show inr ((x295_5 + 1)) by omega) (show 0 ≤ ((x295_5 + 1)) ∧ ((x295_5 + 1)) ≤ (F 6 30) + 1 by omega) (show (y91) = (y78) + ((x295_5 + 1)) by omega) rfl
                refine w_ifne (t := 306) rfl rfl (show inr (xc239_4) by omega) (fun b96 => ?_) (fun b96 => ?_)
                · refine Ew_of (pc' := 307) (fun _ => x_iconst rfl) ?_
                  exact hc307 (1) _ σ _ _  (l295_0) (l295_1) (l295_4) (l295_5) H (SF_refl) (SA_refl)   (show inr (1) by omega) (show ((xc239_4) ≠ (0) ∧ (1) = (1)) ∨ ((xc239_4) = (0) ∧ (1) = (F 6 30)) by omega)
                · refine Ew_of (pc' := 303) (fun _ => x_iload_n rfl l295_1) ?_
                  refine Ew_of (pc' := 307) (fun _ => x_goto rfl rfl) ?_
                  exact hc307 (F 6 30) _ σ _ _  (l295_0) (l295_1) (l295_4) (l295_5) H (SF_refl) (SA_refl)   (show inr (F 6 30) by omega) (show ((xc239_4) ≠ (0) ∧ (F 6 30) = (1)) ∨ ((xc239_4) = (0) ∧ (F 6 30) = (F 6 30)) by omega)
            refine Ew_of (pc' := 247) (fun _ => x_iload_n rfl lc239_2) ?_
            refine Ew_of (pc' := 248) (fun _ => x_iconst rfl) ?_
            refine w_icmpne (t := 261) rfl rfl (show inr (tc27_0) by omega) (show inr (1) by omega) (fun b97 => ?_) (fun b97 => ?_)
            · refine Ew_of (pc' := 262) (fun _ => x_iload_n rfl lc239_2) ?_
              refine Ew_of (pc' := 263) (fun _ => x_iconst rfl) ?_
              refine w_icmpne (t := 278) rfl rfl (show inr (tc27_0) by omega) (show inr (2) by omega) (fun b98 => ?_) (fun b98 => ?_)
              · refine Ew_of (pc' := 279) (fun _ => x_iload_n rfl lc239_1) ?_
                refine Ew_of (pc' := 280) (fun _ => x_iconst rfl) ?_
                refine w_ishlA rfl (fun z99 gz99 => ?_)
                refine Ew_of (pc' := 283) (fun _ => x_bipush (z := 12) rfl (by decide)) ?_
                refine w_ior rfl (fun z100 gz100 => ?_)
                refine Ew_of (pc' := 286) (fun _ => x_iload rfl lc239_4) ?_
                refine w_ior rfl (fun z101 gz101 => ?_)
                refine w_i2l rfl (show inr (z101) by omega) ?_
                exact hc288 (z101) _ σ _ _  (lc239_0) (lc239_1) (lc239_2) (lc239_4) H (SF_refl) (SA_refl)   (show inrJ (z101) by omega)
              · refine Ew_of (pc' := 267) (fun _ => x_iload_n rfl lc239_1) ?_
                refine Ew_of (pc' := 268) (fun _ => x_iconst rfl) ?_
                refine w_ishlA rfl (fun z102 gz102 => ?_)
                refine Ew_of (pc' := 270) (fun _ => x_iconst rfl) ?_
                refine w_ior rfl (fun z103 gz103 => ?_)
                refine Ew_of (pc' := 273) (fun _ => x_iload rfl lc239_4) ?_
                refine w_ior rfl (fun z104 gz104 => ?_)
                refine w_i2l rfl (show inr (z104) by omega) ?_
                refine Ew_of (pc' := 288) (fun _ => x_goto rfl rfl) ?_
                exact hc288 (z104) _ σ _ _  (lc239_0) (lc239_1) (lc239_2) (lc239_4) H (SF_refl) (SA_refl)   (show inrJ (z104) by omega)
            · refine Ew_of (pc' := 252) (fun _ => x_iload_n rfl lc239_1) ?_
              refine Ew_of (pc' := 253) (fun _ => x_iconst rfl) ?_
              refine w_ishlA rfl (fun z105 gz105 => ?_)
              refine Ew_of (pc' := 256) (fun _ => x_iload rfl lc239_4) ?_
              refine w_ior rfl (fun z106 gz106 => ?_)
              refine w_i2l rfl (show inr (z106) by omega) ?_
              refine Ew_of (pc' := 288) (fun _ => x_goto rfl rfl) ?_
              exact hc288 (z106) _ σ _ _  (lc239_0) (lc239_1) (lc239_2) (lc239_4) H (SF_refl) (SA_refl)   (show inrJ (z106) by omega)
        refine Ew_of (pc' := 112) (fun _ => x_iload_n rfl lc111_1) ?_
        refine Ew_of (pc' := 113) (fun _ => x_iconst rfl) ?_
        refine w_icmple (t := 239) rfl rfl (show inr (F 6 30) by omega) (show inr (1) by omega) (fun b107 => ?_) (fun b107 => ?_)
        · have : (2 : Int) ≤ (xc111_4) → ∀ k, 0 ≤ k → k < (F 6 30) → ((w53)) (((A 65)) k) ≠ 0 := by first | exact (fun q => (show (xc111_4) = 3 → ∀ k, 0 ≤ k → k < (F 6 30) → ((w53)) (((A 65)) k) ≠ 0 from by assumption) (by omega)) | exact (fun q => (show xc111_4 = 3 → ∀ k, 0 ≤ k → k < (F 6 30) → ((w53)) (((A 65)) k) ≠ 0 from by assumption) (by omega)) | exact (fun _ k a b => by rw [j205_3 _ (hBl k).1 (by have := hBl k; omega)]; exact hcod k a b)
          have : (2 : Int) ≤ (xc111_4) → CI ((w53)) ((u6_12)) := by first | exact (fun q => (show (xc111_4) = 3 → CI ((w53)) ((u6_12)) from by assumption) (by omega)) | exact (fun q => (show xc111_4 = 3 → CI ((w53)) ((u6_12)) from by assumption) (by omega)) | exact (fun _ => CI_congr hci (fun i a b => j205_3 i a (by omega)))
          have : WC ((u6_12)) ((w53)) := by first | assumption | exact .inr (CI_congr hci (fun i a b => j205_3 i a (by omega)))
          exact hc239  _ σ _ _ (xc111_4) (lc111_0) (lc111_1) (lc111_2) (lc111_4) H (SF_refl) (SA_refl) (u6_12) (((((hS_c111 6 12 rfl).trans (hS_c56 6 12 rfl)).trans (hS_c27 6 12 rfl)).trans (eu6_12))) (u6_37) (((((hS_c111 6 37 rfl).trans (hS_c56 6 37 rfl)).trans (hS_c27 6 37 rfl)).trans (eu6_37))) (w53) ((funext (hA_c111 53 rfl)).trans ((funext (hA_c56 53 rfl)).trans ((funext (hA_c27 53 rfl)).trans (ew53)))) (show inr (xc111_4) by omega) (show 0 ≤ (xc111_4) ∧ (xc111_4) ≤ 3 by omega) (show (xc111_4) ≠ 1 ∨ 1 ≤ (F 6 30) by omega) (show 2 ≤ (xc111_4) → ∀ k, 0 ≤ k → k < (F 6 30) → ((w53)) (((A 65)) k) ≠ 0 by first | assumption | exact fun h => absurd rfl h | exact fun h => absurd h (by decide) | omega) (show 2 ≤ (xc111_4) → CI ((w53)) ((u6_12)) by first | assumption | exact fun h => absurd rfl h | exact fun h => absurd h (by decide) | omega) (show WC ((u6_12)) ((w53)) by assumption) (show (u6_37) ≤ (u6_37) ∧ (u6_37) ≤ (u6_37) + 300 by omega)
        · refine Ew_of (pc' := 117) (fun _ => x_aload_n rfl lc111_0) ?_
          refine w_inv H (o := 6) rfl rfl rfl (H.perm 6 rfl) rfl rfl (by rfl) (M432 H (F 6 30) ((((hS_c111 6 30 rfl).trans (hS_c56 6 30 rfl)).trans (hS_c27 6 30 rfl))) (A 65) ((funext (hA_c111 65 rfl)).trans ((funext (hA_c56 65 rfl)).trans (funext (hA_c27 65 rfl))))  (fun z112 σ F108 A109 H hS110 hA111 pz112_0 pz112_1 pz112_2 => ⟨rretB rfl pz112_0, ?_⟩))
          refine w_ifne (t := 239) rfl rfl (show inr (z112) by omega) (fun b113 => ?_) (fun b113 => ?_)
          · have : (2 : Int) ≤ (xc111_4) → ∀ k, 0 ≤ k → k < (F 6 30) → ((w53)) (((A 65)) k) ≠ 0 := by first | exact (fun q => (show (xc111_4) = 3 → ∀ k, 0 ≤ k → k < (F 6 30) → ((w53)) (((A 65)) k) ≠ 0 from by assumption) (by omega)) | exact (fun q => (show xc111_4 = 3 → ∀ k, 0 ≤ k → k < (F 6 30) → ((w53)) (((A 65)) k) ≠ 0 from by assumption) (by omega)) | exact (fun _ k a b => by rw [j205_3 _ (hBl k).1 (by have := hBl k; omega)]; exact hcod k a b)
            have : (2 : Int) ≤ (xc111_4) → CI ((w53)) ((u6_12)) := by first | exact (fun q => (show (xc111_4) = 3 → CI ((w53)) ((u6_12)) from by assumption) (by omega)) | exact (fun q => (show xc111_4 = 3 → CI ((w53)) ((u6_12)) from by assumption) (by omega)) | exact (fun _ => CI_congr hci (fun i a b => j205_3 i a (by omega)))
            have : WC ((u6_12)) ((w53)) := by first | assumption | exact .inr (CI_congr hci (fun i a b => j205_3 i a (by omega)))
            exact hc239  _ σ _ _ (xc111_4) (lc111_0) (lc111_1) (lc111_2) (lc111_4) H (SF_trans (SF_refl) hS110 (any_sub rfl)) (SA_trans (SA_refl) hA111 (any_subA rfl)) (u6_12) ((((((hS110 6 12 rfl).trans (hS_c111 6 12 rfl)).trans (hS_c56 6 12 rfl)).trans (hS_c27 6 12 rfl)).trans (eu6_12))) (u6_37) ((((((hS110 6 37 rfl).trans (hS_c111 6 37 rfl)).trans (hS_c56 6 37 rfl)).trans (hS_c27 6 37 rfl)).trans (eu6_37))) (w53) ((funext (hA111 53 rfl)).trans ((funext (hA_c111 53 rfl)).trans ((funext (hA_c56 53 rfl)).trans ((funext (hA_c27 53 rfl)).trans (ew53))))) (show inr (xc111_4) by omega) (show 0 ≤ (xc111_4) ∧ (xc111_4) ≤ 3 by omega) (show (xc111_4) ≠ 1 ∨ 1 ≤ (F 6 30) by omega) (show 2 ≤ (xc111_4) → ∀ k, 0 ≤ k → k < (F 6 30) → ((w53)) (((A 65)) k) ≠ 0 by first | assumption | exact fun h => absurd rfl h | exact fun h => absurd h (by decide) | omega) (show 2 ≤ (xc111_4) → CI ((w53)) ((u6_12)) by first | assumption | exact fun h => absurd rfl h | exact fun h => absurd h (by decide) | omega) (show WC ((u6_12)) ((w53)) by assumption) (show (u6_37) ≤ (u6_37) ∧ (u6_37) ≤ (u6_37) + 300 by omega)
          · have hdf : DIFF ((A 65)) ((F 6 30)) := by rcases pz112_2 (by omega) with q | q; omega; exact q
            refine Ew_of (pc' := 124) (fun _ => x_aload_n rfl lc111_0) ?_
            refine w_inv H (o := 6) rfl rfl rfl (H.perm 6 rfl) rfl rfl (by rfl) (M420 H (F 6 30) (((((hS110 6 30 rfl).trans (hS_c111 6 30 rfl)).trans (hS_c56 6 30 rfl)).trans (hS_c27 6 30 rfl))) (A 65) ((funext (hA111 65 rfl)).trans ((funext (hA_c111 65 rfl)).trans ((funext (hA_c56 65 rfl)).trans (funext (hA_c27 65 rfl))))) (show DIFF ((A 65)) ((F 6 30)) by assumption) (fun z118 σ F114 A115 H hS116 hA117 wq119 ewq120 pz118_0 pz118_1 pz118_2 pz118_3 pz118_4 pz118_5 => ⟨rfl, ?_⟩))
            refine Ew_of (pc' := 129) (fun _ => x_istore rfl) ?_
            have hci := pz118_2
            have hcod := pz118_3
            have hbd2 := CI_BD hci
            refine Ew_of (pc' := 130) (fun _ => x_aload_n rfl (rk_o (lc111_0) rfl rfl)) ?_
            refine Ew_of (pc' := 132) (fun _ => x_iload rfl rk_s) ?_
            refine w_inv H (o := 6) rfl rfl rfl (H.perm 6 rfl) rfl rfl (by rfl) (M422 H (wq119) (ewq120) (show inr (z118) by omega) (show 1 ≤ (z118) ∧ (z118) ≤ 11 by omega) (show CI ((wq119)) ((z118)) by assumption) (fun z125 σ F121 A122 H hS123 hA124 y126 ey127 pz125_0 pz125_1 pz125_2 => ⟨rfl, ?_⟩))
            have r128 : (0 : Int) ≤ y126 ∧ y126 ≤ 100000000 := by have h1 : (0 : Int) ≤ F121 6 35 ∧ F121 6 35 ≤ 100000000 := H.frng 6 35; rw [show F121 6 35 = y126 from (ey127)] at h1; exact h1
            refine Ew_of (pc' := 137) (fun _ => x_istore rfl) ?_
            refine Ew_of (pc' := 138) (fun _ => x_aload_n rfl (rk_o (rk_o (lc111_0) rfl rfl) rfl rfl)) ?_
            refine Ew_of (pc' := 139) (fun _ => x_aload_n rfl (rk_o (rk_o (lc111_0) rfl rfl) rfl rfl)) ?_
            refine w_gT H (o := 6) (t := 82) rfl (H.perm 6 rfl) rfl rfl rfl rfl rfl rfl ?_
            refine Ew_of (pc' := 144) (fun _ => x_iload rfl rk_s) ?_
            refine w_inv H (o := 6) rfl rfl rfl (H.perm 6 rfl) rfl rfl (by rfl) (M426_82 H (wq119) ((funext (hA124 82 rfl)).trans (ewq120)) (show inr (z125) by omega) (show BD ((wq119)) by assumption) (show -2 ≤ (z125) ∧ (z125) ≤ 20000 by omega) (fun z133 σ F129 A130 H hS131 hA132 pz133_0 pz133_1 => ⟨rfl, ?_⟩))
            refine Ew_of (pc' := 149) (fun _ => x_istore rfl) ?_
            refine Ew_of (pc' := 150) (fun _ => x_aload_n rfl (rk_o (rk_o (rk_o (lc111_0) rfl rfl) rfl rfl) rfl rfl)) ?_
            refine Ew_of (pc' := 152) (fun _ => x_iload rfl rk_s) ?_
            refine w_inv H (o := 6) rfl rfl rfl (H.perm 6 rfl) rfl rfl (by rfl) (M429 H (show inr (z133) by omega) (fun z138 σ F134 A135 H hS136 hA137 pz138_0 pz138_1 => ⟨rfl, ?_⟩))
            refine Ew_of (pc' := 157) (fun _ => x_istore rfl) ?_
            have hc182 : ∀ (ls : rO) (σ : rS) (F_c182 : hF) (A_c182 : hA) (xc182_4 : Int), rlook ls 0 = some (.ref (D 6)) → rlook ls 1 = some (I (F 6 30)) → rlook ls 2 = some (I (tc27_0)) → rlook ls 4 = some (I (xc182_4)) → rlook ls 5 = some (I (z118)) → rlook ls 7 = some (I (z133)) → rlook ls 8 = some (I (z138)) → HS σ0 σ D N F_c182 A_c182 → SF [] F134 F_c182 → SA [] A135 A_c182 → (inr (xc182_4)) → ((xc182_4) = 2 ∧ 1 ≤ (z125) ∧ 0 ≤ (z138) ∨ (xc182_4) = (xc111_4) ∧ (xc182_4) ≠ 2) → Ew 434 (d + 4) 182 ls [] σ c s Q := by
             as_aux_lemma =>
              intro  ls σ F_c182 A_c182 xc182_4 lc182_0 lc182_1 lc182_2 lc182_4 lc182_5 lc182_7 lc182_8 H hS_c182 hA_c182   jc182_0 jc182_1
              refine Ew_of (pc' := 184) (fun _ => x_iload rfl lc182_4) ?_
              refine Ew_of (pc' := 185) (fun _ => x_iconst rfl) ?_
              refine w_icmpne (t := 239) rfl rfl (show inr (xc182_4) by omega) (show inr (2) by omega) (fun b139 => ?_) (fun b139 => ?_)
              · have : (2 : Int) ≤ (xc182_4) → ∀ k, 0 ≤ k → k < (F 6 30) → ((w53)) (((A 65)) k) ≠ 0 := by first | exact (fun q => (show (xc182_4) = 3 → ∀ k, 0 ≤ k → k < (F 6 30) → ((w53)) (((A 65)) k) ≠ 0 from by assumption) (by omega)) | exact (fun q => (show xc111_4 = 3 → ∀ k, 0 ≤ k → k < (F 6 30) → ((w53)) (((A 65)) k) ≠ 0 from by assumption) (by omega)) | exact (fun _ k a b => by rw [j205_3 _ (hBl k).1 (by have := hBl k; omega)]; exact hcod k a b)
                have : (2 : Int) ≤ (xc182_4) → CI ((w53)) ((u6_12)) := by first | exact (fun q => (show (xc182_4) = 3 → CI ((w53)) ((u6_12)) from by assumption) (by omega)) | exact (fun q => (show xc111_4 = 3 → CI ((w53)) ((u6_12)) from by assumption) (by omega)) | exact (fun _ => CI_congr hci (fun i a b => j205_3 i a (by omega)))
                have : WC ((u6_12)) ((w53)) := by first | assumption | exact .inr (CI_congr hci (fun i a b => j205_3 i a (by omega)))
                exact hc239  _ σ _ _ (xc182_4) (lc182_0) (lc182_1) (lc182_2) (lc182_4) H (SF_trans (SF_trans (SF_trans (SF_trans (SF_trans (SF_trans (SF_refl) hS110 (any_sub rfl)) hS116 (any_sub rfl)) hS123 (any_sub rfl)) hS131 (any_sub rfl)) hS136 (any_sub rfl)) hS_c182 (any_sub rfl)) (SA_trans (SA_trans (SA_trans (SA_trans (SA_trans (SA_trans (SA_refl) hA111 (any_subA rfl)) hA117 (any_subA rfl)) hA124 (any_subA rfl)) hA132 (any_subA rfl)) hA137 (any_subA rfl)) hA_c182 (any_subA rfl)) (u6_12) (((((((((((hS_c182 6 12 rfl).trans (hS136 6 12 rfl)).trans (hS131 6 12 rfl)).trans (hS123 6 12 rfl)).trans (hS116 6 12 rfl)).trans (hS110 6 12 rfl)).trans (hS_c111 6 12 rfl)).trans (hS_c56 6 12 rfl)).trans (hS_c27 6 12 rfl)).trans (eu6_12))) (u6_37) (((((((((((hS_c182 6 37 rfl).trans (hS136 6 37 rfl)).trans (hS131 6 37 rfl)).trans (hS123 6 37 rfl)).trans (hS116 6 37 rfl)).trans (hS110 6 37 rfl)).trans (hS_c111 6 37 rfl)).trans (hS_c56 6 37 rfl)).trans (hS_c27 6 37 rfl)).trans (eu6_37))) (w53) ((funext (hA_c182 53 rfl)).trans ((funext (hA137 53 rfl)).trans ((funext (hA132 53 rfl)).trans ((funext (hA124 53 rfl)).trans ((funext (hA117 53 rfl)).trans ((funext (hA111 53 rfl)).trans ((funext (hA_c111 53 rfl)).trans ((funext (hA_c56 53 rfl)).trans ((funext (hA_c27 53 rfl)).trans (ew53)))))))))) (show inr (xc182_4) by omega) (show 0 ≤ (xc182_4) ∧ (xc182_4) ≤ 3 by omega) (show (xc182_4) ≠ 1 ∨ 1 ≤ (F 6 30) by omega) (show 2 ≤ (xc182_4) → ∀ k, 0 ≤ k → k < (F 6 30) → ((w53)) (((A 65)) k) ≠ 0 by first | assumption | exact fun h => absurd rfl h | exact fun h => absurd h (by decide) | omega) (show 2 ≤ (xc182_4) → CI ((w53)) ((u6_12)) by first | assumption | exact fun h => absurd rfl h | exact fun h => absurd h (by decide) | omega) (show WC ((u6_12)) ((w53)) by assumption) (show (u6_37) ≤ (u6_37) ∧ (u6_37) ≤ (u6_37) + 300 by omega)
              · refine Ew_of (pc' := 189) (fun _ => x_aload_n rfl lc182_0) ?_
                refine Ew_of (pc' := 191) (fun _ => x_iload rfl lc182_4) ?_
                refine Ew_of (pc' := 193) (fun _ => x_iload rfl lc182_8) ?_
                refine Ew_of (pc' := 195) (fun _ => x_iload rfl lc182_7) ?_
                refine w_inv H (o := 6) rfl rfl rfl (H.perm 6 rfl) rfl rfl (by rfl) (M435b H (u6_37) (((((((((((hS_c182 6 37 rfl).trans (hS136 6 37 rfl)).trans (hS131 6 37 rfl)).trans (hS123 6 37 rfl)).trans (hS116 6 37 rfl)).trans (hS110 6 37 rfl)).trans (hS_c111 6 37 rfl)).trans (hS_c56 6 37 rfl)).trans (hS_c27 6 37 rfl)).trans (eu6_37))) (show inr (xc182_4) by omega) (show inr (z138) by omega) (show inr (z133) by omega) (show -1 ≤ (z138) ∧ (z138) ≤ 3 by omega) (show 0 ≤ (u6_37) ∧ (u6_37) ≤ 80000000 by omega) (fun σ F140 A141 H hS142 hA143 y145 ey146 pz144_0 => ⟨rfl, ?_⟩))
                have r147 : (0 : Int) ≤ y145 ∧ y145 ≤ 100000000 := by have h1 : (0 : Int) ≤ F140 6 37 ∧ F140 6 37 ≤ 100000000 := H.frng 6 37; rw [show F140 6 37 = y145 from (ey146)] at h1; exact h1
                refine Ew_of (pc' := 199) (fun _ => x_aload_n rfl lc182_0) ?_
                refine w_inv H (o := 6) rfl rfl rfl (H.perm 6 rfl) rfl rfl (by rfl) (M394 H (y126) ((((((hS142 6 35 rfl).trans (hS_c182 6 35 rfl)).trans (hS136 6 35 rfl)).trans (hS131 6 35 rfl)).trans (ey127))) (y145) ((ey146)) (A122 69) ((funext (hA143 69 rfl)).trans ((funext (hA_c182 69 rfl)).trans ((funext (hA137 69 rfl)).trans (funext (hA132 69 rfl))))) (A141 70) (rfl) (show 0 ≤ (y126) ∧ (y126) ≤ 192000 by omega) (show 0 ≤ (y145) ∧ (y145) ≤ 90000000 by omega) (fun σ F148 A149 H hS150 hA151 y153 ey154 wq155 ewq156 pz152_0 pz152_1 => ⟨rfl, ?_⟩))
                have r157 : (0 : Int) ≤ y153 ∧ y153 ≤ 100000000 := by have h1 : (0 : Int) ≤ F148 6 37 ∧ F148 6 37 ≤ 100000000 := H.frng 6 37; rw [show F148 6 37 = y153 from (ey154)] at h1; exact h1
                refine Ew_of (pc' := 203) (fun _ => x_iconst rfl) ?_
                refine Ew_of (pc' := 205) (fun _ => x_istore rfl) ?_
                have : ∀ i, (0 : Int) ≤ i → i < 0 → ((w53)) i = ((wq119)) i := fun i a b => absurd b (by omega)
                suffices hl205 : ∀ (m : Nat), ∀ (ls : rO) (σ : rS) (F_205 : hF) (A_205 : hA) (x205_9 : Int), rlook ls 0 = some (.ref (D 6)) → rlook ls 1 = some (I (F 6 30)) → rlook ls 2 = some (I (tc27_0)) → rlook ls 4 = some (I (xc182_4)) → rlook ls 5 = some (I (z118)) → rlook ls 9 = some (I (x205_9)) → HS σ0 σ D N F_205 A_205 → SF [] F148 F_205 → SA [53] A149 A_205 → ∀ w205_53 : Int → Int, A_205 53 = w205_53 → (inr (x205_9)) → ((0) ≤ (x205_9)) → ((x205_9) ≤ (0) ∨ (x205_9) ≤ ((256))) → (∀ i, 0 ≤ i → i < (x205_9) → ((w205_53)) i = ((wq119)) i) → (((256)) - (x205_9)).toNat = m → Ew 434 (d + 4) 205 ls [] σ c s Q from
                  hl205 _ _ σ _ _ (0) (rk_o (lc182_0) rfl rfl) (rk_o (lc182_1) rfl rfl) (rk_o (lc182_2) rfl rfl) (rk_o (lc182_4) rfl rfl) (rk_o (lc182_5) rfl rfl) (rk_s) H (SF_refl) (SA_refl)  (w53) ((funext (hA151 53 rfl)).trans ((funext (hA143 53 rfl)).trans ((funext (hA_c182 53 rfl)).trans ((funext (hA137 53 rfl)).trans ((funext (hA132 53 rfl)).trans ((funext (hA124 53 rfl)).trans ((funext (hA117 53 rfl)).trans ((funext (hA111 53 rfl)).trans ((funext (hA_c111 53 rfl)).trans ((funext (hA_c56 53 rfl)).trans ((funext (hA_c27 53 rfl)).trans (ew53)))))))))))) (show inr (0) by omega) (show (0) ≤ (0) by omega) (show (0) ≤ (0) ∨ (0) ≤ ((256)) by omega) (show ∀ i, 0 ≤ i → i < (0) → ((w53)) i = ((wq119)) i by assumption) rfl
                as_aux_lemma =>
                intro m
                induction m using Nat.strongRecOn with
                | _ m ih205 =>
                  intro ls σ F_205 A_205 x205_9 l205_0 l205_1 l205_2 l205_4 l205_5 l205_9 H hS_205 hA_205  w205_53 ew205_53 j205_0 j205_1 j205_2 j205_3 hm205
                  refine Ew_of (pc' := 207) (fun _ => x_iload rfl l205_9) ?_
                  refine Ew_of (pc' := 210) (fun _ => x_sipush (z := 256) rfl (by decide)) ?_
                  refine w_icmpge (t := 233) rfl rfl (show inr (x205_9) by omega) (show inr (256) by omega) (fun b158 => ?_) (fun b158 => ?_)
                  · have hBl : ∀ i, (0 : Int) ≤ (A 65) i ∧ (A 65) i ≤ 255 := fun i => by have h1 : (0 : Int) ≤ A_205 65 i ∧ A_205 65 i ≤ 255 := H.arng 65 i; rw [show A_205 65 = A 65 from (funext (hA_205 65 rfl)).trans ((funext (hA151 65 rfl)).trans ((funext (hA143 65 rfl)).trans ((funext (hA_c182 65 rfl)).trans ((funext (hA137 65 rfl)).trans ((funext (hA132 65 rfl)).trans ((funext (hA124 65 rfl)).trans ((funext (hA117 65 rfl)).trans ((funext (hA111 65 rfl)).trans ((funext (hA_c111 65 rfl)).trans ((funext (hA_c56 65 rfl)).trans (funext (hA_c27 65 rfl))))))))))))] at h1; exact h1
                    refine Ew_of (pc' := 234) (fun _ => x_aload_n rfl l205_0) ?_
                    refine Ew_of (pc' := 236) (fun _ => x_iload rfl l205_5) ?_
                    refine w_pI H (o := 6) rfl rfl (H.perm 6 rfl) rfl rfl rfl (fun _ => rfl) rfl (show (0 : Int) ≤ z118 ∧ z118 ≤ 11 by omega) (fun σ H => ?_)
                    have : (2 : Int) ≤ (xc182_4) → ∀ k, 0 ≤ k → k < (F 6 30) → ((w205_53)) (((A 65)) k) ≠ 0 := by first | exact (fun q => (show (xc182_4) = 3 → ∀ k, 0 ≤ k → k < (F 6 30) → ((w205_53)) (((A 65)) k) ≠ 0 from by assumption) (by omega)) | exact (fun q => (show xc111_4 = 3 → ∀ k, 0 ≤ k → k < (F 6 30) → ((w205_53)) (((A 65)) k) ≠ 0 from by assumption) (by omega)) | exact (fun _ k a b => by rw [j205_3 _ (hBl k).1 (by have := hBl k; omega)]; exact hcod k a b)
                    have : (2 : Int) ≤ (xc182_4) → CI ((w205_53)) ((z118)) := by first | exact (fun q => (show (xc182_4) = 3 → CI ((w205_53)) ((z118)) from by assumption) (by omega)) | exact (fun q => (show xc111_4 = 3 → CI ((w205_53)) ((z118)) from by assumption) (by omega)) | exact (fun _ => CI_congr hci (fun i a b => j205_3 i a (by omega)))
                    have : WC ((z118)) ((w205_53)) := by first | assumption | exact .inr (CI_congr hci (fun i a b => j205_3 i a (by omega)))
                    exact hc239  _ σ _ _ (xc182_4) (l205_0) (l205_1) (l205_2) (l205_4) H (SF_upd (SF_trans (SF_trans (SF_trans (SF_trans (SF_trans (SF_trans (SF_trans (SF_trans (SF_trans (SF_refl) hS110 (any_sub rfl)) hS116 (any_sub rfl)) hS123 (any_sub rfl)) hS131 (any_sub rfl)) hS136 (any_sub rfl)) hS_c182 (any_sub rfl)) hS142 (any_sub rfl)) hS150 (any_sub rfl)) hS_205 (any_sub rfl)) rfl) (SA_trans (SA_trans (SA_trans (SA_trans (SA_trans (SA_trans (SA_trans (SA_trans (SA_trans (SA_refl) hA111 (any_subA rfl)) hA117 (any_subA rfl)) hA124 (any_subA rfl)) hA132 (any_subA rfl)) hA137 (any_subA rfl)) hA_c182 (any_subA rfl)) hA143 (any_subA rfl)) hA151 (any_subA rfl)) hA_205 (any_subA rfl)) (z118) (rfl) (y153) (((hS_205 6 37 rfl).trans (ey154))) (w205_53) (ew205_53) (show inr (xc182_4) by omega) (show 0 ≤ (xc182_4) ∧ (xc182_4) ≤ 3 by omega) (show (xc182_4) ≠ 1 ∨ 1 ≤ (F 6 30) by omega) (show 2 ≤ (xc182_4) → ∀ k, 0 ≤ k → k < (F 6 30) → ((w205_53)) (((A 65)) k) ≠ 0 by first | assumption | exact fun h => absurd rfl h | exact fun h => absurd h (by decide) | omega) (show 2 ≤ (xc182_4) → CI ((w205_53)) ((z118)) by first | assumption | exact fun h => absurd rfl h | exact fun h => absurd h (by decide) | omega) (show WC ((z118)) ((w205_53)) by assumption) (show (u6_37) ≤ (y153) ∧ (y153) ≤ (u6_37) + 300 by omega)
                  · have hdb := hbd2 ((x205_9)) (by omega) (by omega)
                    refine Ew_of (pc' := 214) (fun _ => x_aload_n rfl l205_0) ?_
                    refine w_gT H (o := 6) (t := 53) rfl (H.perm 6 rfl) rfl rfl rfl rfl rfl rfl ?_
                    refine Ew_of (pc' := 219) (fun _ => x_iload rfl l205_9) ?_
                    refine Ew_of (pc' := 220) (fun _ => x_aload_n rfl l205_0) ?_
                    refine w_gT H (o := 6) (t := 82) rfl (H.perm 6 rfl) rfl rfl rfl rfl rfl rfl ?_
                    refine Ew_of (pc' := 225) (fun _ => x_iload rfl l205_9) ?_
                    refine w_lI H (o := 82) (n := 256) rfl (H.perm 82 rfl) rfl rfl (H.fix 82 rfl rfl) (show 0 ≤ x205_9 ∧ x205_9 < ((256 : Nat) : Int) by omega) (by decide) (fun v159 ev159 qv159 => ?_)
                    have qv159 : (-2147483648 : Int) ≤ v159 ∧ v159 ≤ 2147483647 := qv159
                    have ev159 : (wq119) (x205_9) = v159 := (congrFun ((funext (hA_205 82 rfl)).trans ((funext (hA151 82 rfl)).trans ((funext (hA143 82 rfl)).trans ((funext (hA_c182 82 rfl)).trans ((funext (hA137 82 rfl)).trans ((funext (hA132 82 rfl)).trans ((funext (hA124 82 rfl)).trans (ewq120)))))))) (x205_9)).symm.trans ev159
                    refine w_sI H (o := 53) (n := 256) rfl (H.perm 53 rfl) rfl rfl (H.fix 53 rfl rfl) (show 0 ≤ x205_9 ∧ x205_9 < ((256 : Nat) : Int) by omega) (by decide) (show (0 : Int) ≤ v159 ∧ v159 ≤ 11 by omega) (fun σ H => ?_)
                    refine Ew_of (pc' := 230) (fun _ => x_iinc (len := 3) rfl (l205_9)) ?_
                    refine Ew_of (pc' := 205) (fun _ => x_goto rfl rfl) ?_
                    have : ∀ i, (0 : Int) ≤ i → i < ((x205_9 + 1)) → ((upd1 (w205_53) (x205_9) (v159))) i = ((wq119)) i := pt_copy j205_3 (by omega)
                    exact ih205 _ (by omega) _ σ _ _ ((x205_9 + 1)) (rk_o (l205_0) rfl rfl) (rk_o (l205_1) rfl rfl) (rk_o (l205_2) rfl rfl) (rk_o (l205_4) rfl rfl) (rk_o (l205_5) rfl rfl) (rk_s) H (hS_205) (SA_upd (hA_205) rfl)  (upd1 (w205_53) (x205_9) (v159)) (congrArg (fun q => upd1 q (x205_9) (v159)) (ew205_53)) (show inr ((x205_9 + 1)) by omega) (show (0) ≤ ((x205_9 + 1)) by omega) (show ((x205_9 + 1)) ≤ (0) ∨ ((x205_9 + 1)) ≤ ((256)) by omega) (show ∀ i, 0 ≤ i → i < ((x205_9 + 1)) → ((upd1 (w205_53) (x205_9) (v159))) i = ((wq119)) i by assumption) rfl
            refine Ew_of (pc' := 159) (fun _ => x_iload rfl (rk_o (rk_o (rk_s) rfl rfl) rfl rfl)) ?_
            refine w_ifle (t := 182) rfl rfl (show inr (z125) by omega) (fun b160 => ?_) (fun b160 => ?_)
            · exact hc182  _ σ _ _ (xc111_4) (rk_o (rk_o (rk_o (rk_o (lc111_0) rfl rfl) rfl rfl) rfl rfl) rfl rfl) (rk_o (rk_o (rk_o (rk_o (lc111_1) rfl rfl) rfl rfl) rfl rfl) rfl rfl) (rk_o (rk_o (rk_o (rk_o (lc111_2) rfl rfl) rfl rfl) rfl rfl) rfl rfl) (rk_o (rk_o (rk_o (rk_o (lc111_4) rfl rfl) rfl rfl) rfl rfl) rfl rfl) (rk_o (rk_o (rk_o (rk_s) rfl rfl) rfl rfl) rfl rfl) (rk_o (rk_s) rfl rfl) (rk_s) H (SF_refl) (SA_refl)   (show inr (xc111_4) by omega) (show (xc111_4) = 2 ∧ 1 ≤ (z125) ∧ 0 ≤ (z138) ∨ (xc111_4) = (xc111_4) ∧ (xc111_4) ≠ 2 by omega)
            · refine Ew_of (pc' := 164) (fun _ => x_iload rfl rk_s) ?_
              refine w_iflt (t := 182) rfl rfl (show inr (z138) by omega) (fun b161 => ?_) (fun b161 => ?_)
              · exact hc182  _ σ _ _ (xc111_4) (rk_o (rk_o (rk_o (rk_o (lc111_0) rfl rfl) rfl rfl) rfl rfl) rfl rfl) (rk_o (rk_o (rk_o (rk_o (lc111_1) rfl rfl) rfl rfl) rfl rfl) rfl rfl) (rk_o (rk_o (rk_o (rk_o (lc111_2) rfl rfl) rfl rfl) rfl rfl) rfl rfl) (rk_o (rk_o (rk_o (rk_o (lc111_4) rfl rfl) rfl rfl) rfl rfl) rfl rfl) (rk_o (rk_o (rk_o (rk_s) rfl rfl) rfl rfl) rfl rfl) (rk_o (rk_s) rfl rfl) (rk_s) H (SF_refl) (SA_refl)   (show inr (xc111_4) by omega) (show (xc111_4) = 2 ∧ 1 ≤ (z125) ∧ 0 ≤ (z138) ∨ (xc111_4) = (xc111_4) ∧ (xc111_4) ≠ 2 by omega)
              · refine Ew_of (pc' := 169) (fun _ => x_iload rfl rk_s) ?_
                refine w_stat24 rfl rfl (by rfl) (M428 H (show inr (z138) by omega) (fun z166 σ F162 A163 H hS164 hA165 pz166_0 pz166_1 => ⟨rfl, ?_⟩))
                refine Ew_of (pc' := 174) (fun _ => x_iload rfl (rk_o (rk_s) rfl rfl)) ?_
                refine w_iadd rfl ?_
                refine Ew_of (pc' := 176) (fun _ => x_iload_n rfl (rk_o (rk_o (rk_o (rk_o (lc111_3) rfl rfl) rfl rfl) rfl rfl) rfl rfl)) ?_
                refine w_icmpge (t := 182) rfl rfl (show inr ((z166 + z133)) by omega) (show inr (xc111_3) by omega) (fun b167 => ?_) (fun b167 => ?_)
                · exact hc182  _ σ _ _ (xc111_4) (rk_o (rk_o (rk_o (rk_o (lc111_0) rfl rfl) rfl rfl) rfl rfl) rfl rfl) (rk_o (rk_o (rk_o (rk_o (lc111_1) rfl rfl) rfl rfl) rfl rfl) rfl rfl) (rk_o (rk_o (rk_o (rk_o (lc111_2) rfl rfl) rfl rfl) rfl rfl) rfl rfl) (rk_o (rk_o (rk_o (rk_o (lc111_4) rfl rfl) rfl rfl) rfl rfl) rfl rfl) (rk_o (rk_o (rk_o (rk_s) rfl rfl) rfl rfl) rfl rfl) (rk_o (rk_s) rfl rfl) (rk_s) H (SF_trans (SF_refl) hS164 (any_sub rfl)) (SA_trans (SA_refl) hA165 (any_subA rfl))   (show inr (xc111_4) by omega) (show (xc111_4) = 2 ∧ 1 ≤ (z125) ∧ 0 ≤ (z138) ∨ (xc111_4) = (xc111_4) ∧ (xc111_4) ≠ 2 by omega)
                · refine Ew_of (pc' := 180) (fun _ => x_iconst rfl) ?_
                  refine Ew_of (pc' := 182) (fun _ => x_istore rfl) ?_
                  exact hc182  _ σ _ _ (2) (rk_o (rk_o (rk_o (rk_o (rk_o (lc111_0) rfl rfl) rfl rfl) rfl rfl) rfl rfl) rfl rfl) (rk_o (rk_o (rk_o (rk_o (rk_o (lc111_1) rfl rfl) rfl rfl) rfl rfl) rfl rfl) rfl rfl) (rk_o (rk_o (rk_o (rk_o (rk_o (lc111_2) rfl rfl) rfl rfl) rfl rfl) rfl rfl) rfl rfl) (rk_s) (rk_o (rk_o (rk_o (rk_o (rk_s) rfl rfl) rfl rfl) rfl rfl) rfl rfl) (rk_o (rk_o (rk_s) rfl rfl) rfl rfl) (rk_o (rk_s) rfl rfl) H (SF_trans (SF_refl) hS164 (any_sub rfl)) (SA_trans (SA_refl) hA165 (any_subA rfl))   (show inr (2) by omega) (show (2) = 2 ∧ 1 ≤ (z125) ∧ 0 ≤ (z138) ∨ (2) = (xc111_4) ∧ (2) ≠ 2 by omega)
      refine Ew_of (pc' := 57) (fun _ => x_aload_n rfl lc56_0) ?_
      refine w_inv H (o := 6) rfl rfl rfl (H.perm 6 rfl) rfl rfl (by rfl) (M433 H (u6_12) ((((hS_c56 6 12 rfl).trans (hS_c27 6 12 rfl)).trans (eu6_12))) (F 6 30) (((hS_c56 6 30 rfl).trans (hS_c27 6 30 rfl))) (w53) ((funext (hA_c56 53 rfl)).trans ((funext (hA_c27 53 rfl)).trans (ew53))) (A 65) ((funext (hA_c56 65 rfl)).trans (funext (hA_c27 65 rfl)))  (fun z172 σ F168 A169 H hS170 hA171 pz172_0 pz172_1 pz172_2 => ⟨rretB rfl pz172_0, ?_⟩))
      refine w_ifeq (t := 111) rfl rfl (show inr (z172) by omega) (fun b173 => ?_) (fun b173 => ?_)
      · have : ((xc56_4) : Int) = 3 → ∀ k, 0 ≤ k → k < (F 6 30) → ((w53)) (((A 65)) k) ≠ 0 := by first | exact (fun q => absurd q (by omega)) | exact (fun _ => pz172_2 (by omega))
        have : ((xc56_4) : Int) = 3 → CI ((w53)) ((u6_12)) := by first | exact (fun q => absurd q (by omega)) | exact (fun _ => by rcases hwc with q | q; (have := pz172_1 (by omega); omega); exact q)
        exact hc111  _ σ _ _ (xc56_3) (xc56_4) (lc56_0) (lc56_1) (lc56_2) (lc56_3) (lc56_4) H (SF_trans (SF_refl) hS170 (any_sub rfl)) (SA_trans (SA_refl) hA171 (any_subA rfl))   (show inr (xc56_3) by omega) (show inr (xc56_4) by omega) (show (xc56_4) = 0 ∨ (xc56_4) = 1 ∧ 1 ≤ (F 6 30) ∨ (xc56_4) = 3 by omega) (show 0 ≤ (xc56_3) ∧ (xc56_3) ≤ 100000 by omega) (show (xc56_4) = 3 → ∀ k, 0 ≤ k → k < (F 6 30) → ((w53)) (((A 65)) k) ≠ 0 by first | assumption | exact fun h => absurd rfl h | exact fun h => absurd h (by decide) | omega) (show (xc56_4) = 3 → CI ((w53)) ((u6_12)) by first | assumption | exact fun h => absurd rfl h | exact fun h => absurd h (by decide) | omega)
      · refine Ew_of (pc' := 64) (fun _ => x_aload_n rfl lc56_0) ?_
        refine Ew_of (pc' := 65) (fun _ => x_aload_n rfl lc56_0) ?_
        refine w_gT H (o := 6) (t := 53) rfl (H.perm 6 rfl) rfl rfl rfl rfl rfl rfl ?_
        refine Ew_of (pc' := 69) (fun _ => x_iconst rfl) ?_
        refine w_inv H (o := 6) rfl rfl rfl (H.perm 6 rfl) rfl rfl (by rfl) (M426_53 H (w53) ((funext (hA171 53 rfl)).trans ((funext (hA_c56 53 rfl)).trans ((funext (hA_c27 53 rfl)).trans (ew53)))) (show inr (0) by omega) (show BD ((w53)) by assumption) (show -2 ≤ (0) ∧ (0) ≤ 20000 by omega) (fun z178 σ F174 A175 H hS176 hA177 pz178_0 pz178_1 => ⟨rfl, ?_⟩))
        refine Ew_of (pc' := 74) (fun _ => x_istore rfl) ?_
        refine Ew_of (pc' := 75) (fun _ => x_aload_n rfl (rk_o (lc56_0) rfl rfl)) ?_
        refine Ew_of (pc' := 77) (fun _ => x_iload rfl rk_s) ?_
        refine w_inv H (o := 6) rfl rfl rfl (H.perm 6 rfl) rfl rfl (by rfl) (M429 H (show inr (z178) by omega) (fun z183 σ F179 A180 H hS181 hA182 pz183_0 pz183_1 => ⟨rfl, ?_⟩))
        refine Ew_of (pc' := 82) (fun _ => x_istore rfl) ?_
        refine Ew_of (pc' := 84) (fun _ => x_iload rfl rk_s) ?_
        refine w_iflt (t := 111) rfl rfl (show inr (z183) by omega) (fun b184 => ?_) (fun b184 => ?_)
        · have : ((xc56_4) : Int) = 3 → ∀ k, 0 ≤ k → k < (F 6 30) → ((w53)) (((A 65)) k) ≠ 0 := by first | exact (fun q => absurd q (by omega)) | exact (fun _ => pz172_2 (by omega))
          have : ((xc56_4) : Int) = 3 → CI ((w53)) ((u6_12)) := by first | exact (fun q => absurd q (by omega)) | exact (fun _ => by rcases hwc with q | q; (have := pz172_1 (by omega); omega); exact q)
          exact hc111  _ σ _ _ (xc56_3) (xc56_4) (rk_o (rk_o (lc56_0) rfl rfl) rfl rfl) (rk_o (rk_o (lc56_1) rfl rfl) rfl rfl) (rk_o (rk_o (lc56_2) rfl rfl) rfl rfl) (rk_o (rk_o (lc56_3) rfl rfl) rfl rfl) (rk_o (rk_o (lc56_4) rfl rfl) rfl rfl) H (SF_trans (SF_trans (SF_trans (SF_refl) hS170 (any_sub rfl)) hS176 (any_sub rfl)) hS181 (any_sub rfl)) (SA_trans (SA_trans (SA_trans (SA_refl) hA171 (any_subA rfl)) hA177 (any_subA rfl)) hA182 (any_subA rfl))   (show inr (xc56_3) by omega) (show inr (xc56_4) by omega) (show (xc56_4) = 0 ∨ (xc56_4) = 1 ∧ 1 ≤ (F 6 30) ∨ (xc56_4) = 3 by omega) (show 0 ≤ (xc56_3) ∧ (xc56_3) ≤ 100000 by omega) (show (xc56_4) = 3 → ∀ k, 0 ≤ k → k < (F 6 30) → ((w53)) (((A 65)) k) ≠ 0 by first | assumption | exact fun h => absurd rfl h | exact fun h => absurd h (by decide) | omega) (show (xc56_4) = 3 → CI ((w53)) ((u6_12)) by first | assumption | exact fun h => absurd rfl h | exact fun h => absurd h (by decide) | omega)
        · refine Ew_of (pc' := 89) (fun _ => x_iload rfl rk_s) ?_
          refine w_stat24 rfl rfl (by rfl) (M428 H (show inr (z183) by omega) (fun z189 σ F185 A186 H hS187 hA188 pz189_0 pz189_1 => ⟨rfl, ?_⟩))
          refine Ew_of (pc' := 94) (fun _ => x_iload rfl (rk_o (rk_s) rfl rfl)) ?_
          refine w_iadd rfl ?_
          refine Ew_of (pc' := 96) (fun _ => x_iload_n rfl (rk_o (rk_o (lc56_3) rfl rfl) rfl rfl)) ?_
          refine w_icmpge (t := 111) rfl rfl (show inr ((z189 + z178)) by omega) (show inr (xc56_3) by omega) (fun b190 => ?_) (fun b190 => ?_)
          · have : ((xc56_4) : Int) = 3 → ∀ k, 0 ≤ k → k < (F 6 30) → ((w53)) (((A 65)) k) ≠ 0 := by first | exact (fun q => absurd q (by omega)) | exact (fun _ => pz172_2 (by omega))
            have : ((xc56_4) : Int) = 3 → CI ((w53)) ((u6_12)) := by first | exact (fun q => absurd q (by omega)) | exact (fun _ => by rcases hwc with q | q; (have := pz172_1 (by omega); omega); exact q)
            exact hc111  _ σ _ _ (xc56_3) (xc56_4) (rk_o (rk_o (lc56_0) rfl rfl) rfl rfl) (rk_o (rk_o (lc56_1) rfl rfl) rfl rfl) (rk_o (rk_o (lc56_2) rfl rfl) rfl rfl) (rk_o (rk_o (lc56_3) rfl rfl) rfl rfl) (rk_o (rk_o (lc56_4) rfl rfl) rfl rfl) H (SF_trans (SF_trans (SF_trans (SF_trans (SF_refl) hS170 (any_sub rfl)) hS176 (any_sub rfl)) hS181 (any_sub rfl)) hS187 (any_sub rfl)) (SA_trans (SA_trans (SA_trans (SA_trans (SA_refl) hA171 (any_subA rfl)) hA177 (any_subA rfl)) hA182 (any_subA rfl)) hA188 (any_subA rfl))   (show inr (xc56_3) by omega) (show inr (xc56_4) by omega) (show (xc56_4) = 0 ∨ (xc56_4) = 1 ∧ 1 ≤ (F 6 30) ∨ (xc56_4) = 3 by omega) (show 0 ≤ (xc56_3) ∧ (xc56_3) ≤ 100000 by omega) (show (xc56_4) = 3 → ∀ k, 0 ≤ k → k < (F 6 30) → ((w53)) (((A 65)) k) ≠ 0 by first | assumption | exact fun h => absurd rfl h | exact fun h => absurd h (by decide) | omega) (show (xc56_4) = 3 → CI ((w53)) ((u6_12)) by first | assumption | exact fun h => absurd rfl h | exact fun h => absurd h (by decide) | omega)
          · refine Ew_of (pc' := 101) (fun _ => x_iload rfl rk_s) ?_
            refine w_stat24 rfl rfl (by rfl) (M428 H (show inr (z183) by omega) (fun z195 σ F191 A192 H hS193 hA194 pz195_0 pz195_1 => ⟨rfl, ?_⟩))
            refine Ew_of (pc' := 106) (fun _ => x_iload rfl (rk_o (rk_s) rfl rfl)) ?_
            refine w_iadd rfl ?_
            refine Ew_of (pc' := 108) (fun _ => x_istore_n rfl) ?_
            refine Ew_of (pc' := 109) (fun _ => x_iconst rfl) ?_
            refine Ew_of (pc' := 111) (fun _ => x_istore rfl) ?_
            have : ((3) : Int) = 3 → ∀ k, 0 ≤ k → k < (F 6 30) → ((w53)) (((A 65)) k) ≠ 0 := by first | exact (fun q => absurd q (by omega)) | exact (fun _ => pz172_2 (by omega))
            have : ((3) : Int) = 3 → CI ((w53)) ((u6_12)) := by first | exact (fun q => absurd q (by omega)) | exact (fun _ => by rcases hwc with q | q; (have := pz172_1 (by omega); omega); exact q)
            exact hc111  _ σ _ _ ((z195 + z178)) (3) (rk_o (rk_o (rk_o (rk_o (lc56_0) rfl rfl) rfl rfl) rfl rfl) rfl rfl) (rk_o (rk_o (rk_o (rk_o (lc56_1) rfl rfl) rfl rfl) rfl rfl) rfl rfl) (rk_o (rk_o (rk_o (rk_o (lc56_2) rfl rfl) rfl rfl) rfl rfl) rfl rfl) (rk_o (rk_s) rfl rfl) (rk_s) H (SF_trans (SF_trans (SF_trans (SF_trans (SF_trans (SF_refl) hS170 (any_sub rfl)) hS176 (any_sub rfl)) hS181 (any_sub rfl)) hS187 (any_sub rfl)) hS193 (any_sub rfl)) (SA_trans (SA_trans (SA_trans (SA_trans (SA_trans (SA_refl) hA171 (any_subA rfl)) hA177 (any_subA rfl)) hA182 (any_subA rfl)) hA188 (any_subA rfl)) hA194 (any_subA rfl))   (show inr ((z195 + z178)) by omega) (show inr (3) by omega) (show (3) = 0 ∨ (3) = 1 ∧ 1 ≤ (F 6 30) ∨ (3) = 3 by omega) (show 0 ≤ ((z195 + z178)) ∧ ((z195 + z178)) ≤ 100000 by omega) (show (3) = 3 → ∀ k, 0 ≤ k → k < (F 6 30) → ((w53)) (((A 65)) k) ≠ 0 by first | assumption | exact fun h => absurd rfl h | exact fun h => absurd h (by decide) | omega) (show (3) = 3 → CI ((w53)) ((u6_12)) by first | assumption | exact fun h => absurd rfl h | exact fun h => absurd h (by decide) | omega)
    refine Ew_of (pc' := 36) (fun _ => x_aload_n rfl (rk_o (rk_o (rk_o (lc27_0) rfl rfl) rfl rfl) rfl rfl)) ?_
    refine w_inv H (o := 6) rfl rfl rfl (H.perm 6 rfl) rfl rfl (by rfl) (M432 H (F 6 30) ((hS_c27 6 30 rfl)) (A 65) (funext (hA_c27 65 rfl))  (fun z200 σ F196 A197 H hS198 hA199 pz200_0 pz200_1 pz200_2 => ⟨rretB rfl pz200_0, ?_⟩))
    refine w_ifeq (t := 56) rfl rfl (show inr (z200) by omega) (fun b201 => ?_) (fun b201 => ?_)
    · exact hc56  _ σ _ _ ((tc27_0 + F 6 30)) (0) (rk_o (rk_o (rk_o (lc27_0) rfl rfl) rfl rfl) rfl rfl) (rk_o (rk_o (rk_o (lc27_1) rfl rfl) rfl rfl) rfl rfl) (rk_o (rk_o (rk_s) rfl rfl) rfl rfl) (rk_o (rk_s) rfl rfl) (rk_s) H (SF_trans (SF_refl) hS198 (any_sub rfl)) (SA_trans (SA_refl) hA199 (any_subA rfl))   (show inr ((tc27_0 + F 6 30)) by omega) (show inr (0) by omega) (show (0) = 0 ∨ (0) = 1 ∧ 1 ≤ (F 6 30) by omega) (show 0 ≤ ((tc27_0 + F 6 30)) ∧ ((tc27_0 + F 6 30)) ≤ 20000 by omega)
    · refine Ew_of (pc' := 43) (fun _ => x_iload_n rfl (rk_o (rk_o (rk_s) rfl rfl) rfl rfl)) ?_
      refine Ew_of (pc' := 44) (fun _ => x_iconst rfl) ?_
      refine w_iadd rfl ?_
      refine Ew_of (pc' := 46) (fun _ => x_iload_n rfl (rk_o (rk_s) rfl rfl)) ?_
      refine w_icmpge (t := 56) rfl rfl (show inr ((tc27_0 + 1)) by omega) (show inr ((tc27_0 + F 6 30)) by omega) (fun b202 => ?_) (fun b202 => ?_)
      · exact hc56  _ σ _ _ ((tc27_0 + F 6 30)) (0) (rk_o (rk_o (rk_o (lc27_0) rfl rfl) rfl rfl) rfl rfl) (rk_o (rk_o (rk_o (lc27_1) rfl rfl) rfl rfl) rfl rfl) (rk_o (rk_o (rk_s) rfl rfl) rfl rfl) (rk_o (rk_s) rfl rfl) (rk_s) H (SF_trans (SF_refl) hS198 (any_sub rfl)) (SA_trans (SA_refl) hA199 (any_subA rfl))   (show inr ((tc27_0 + F 6 30)) by omega) (show inr (0) by omega) (show (0) = 0 ∨ (0) = 1 ∧ 1 ≤ (F 6 30) by omega) (show 0 ≤ ((tc27_0 + F 6 30)) ∧ ((tc27_0 + F 6 30)) ≤ 20000 by omega)
      · refine Ew_of (pc' := 50) (fun _ => x_iload_n rfl (rk_o (rk_o (rk_s) rfl rfl) rfl rfl)) ?_
        refine Ew_of (pc' := 51) (fun _ => x_iconst rfl) ?_
        refine w_iadd rfl ?_
        refine Ew_of (pc' := 53) (fun _ => x_istore_n rfl) ?_
        refine Ew_of (pc' := 54) (fun _ => x_iconst rfl) ?_
        refine Ew_of (pc' := 56) (fun _ => x_istore rfl) ?_
        exact hc56  _ σ _ _ ((tc27_0 + 1)) (1) (rk_o (rk_o (rk_o (rk_o (rk_o (lc27_0) rfl rfl) rfl rfl) rfl rfl) rfl rfl) rfl rfl) (rk_o (rk_o (rk_o (rk_o (rk_o (lc27_1) rfl rfl) rfl rfl) rfl rfl) rfl rfl) rfl rfl) (rk_o (rk_o (rk_o (rk_o (rk_s) rfl rfl) rfl rfl) rfl rfl) rfl rfl) (rk_o (rk_s) rfl rfl) (rk_s) H (SF_trans (SF_refl) hS198 (any_sub rfl)) (SA_trans (SA_refl) hA199 (any_subA rfl))   (show inr ((tc27_0 + 1)) by omega) (show inr (1) by omega) (show (1) = 0 ∨ (1) = 1 ∧ 1 ≤ (F 6 30) by omega) (show 0 ≤ ((tc27_0 + 1)) ∧ ((tc27_0 + 1)) ≤ 20000 by omega)
  refine w_icmpge (t := 15) rfl rfl (show inr (F 6 30) by omega) (show inr (32) by omega) (fun b203 => ?_) (fun b203 => ?_)
  · refine Ew_of (pc' := 16) (fun _ => x_iload_n rfl rk_s) ?_
    refine Ew_of (pc' := 19) (fun _ => x_sipush (z := 4096) rfl (by decide)) ?_
    refine w_icmpge (t := 26) rfl rfl (show inr (F 6 30) by omega) (show inr (4096) by omega) (fun b204 => ?_) (fun b204 => ?_)
    · refine Ew_of (pc' := 27) (fun _ => x_iconst rfl) ?_
      exact hc27 (3) _ σ _ _  (rk_o (rfl) rfl rfl) (rk_s) H (SF_refl) (SA_refl)   (show inr (3) by omega) (show ((F 6 30) ≥ (32) ∧ (F 6 30) ≥ (4096) ∧ (3) = (3)) ∨ ((F 6 30) ≥ (32) ∧ (F 6 30) < (4096) ∧ (3) = (2)) ∨ ((F 6 30) < (32) ∧ (3) = (1)) by omega)
    · refine Ew_of (pc' := 23) (fun _ => x_iconst rfl) ?_
      refine Ew_of (pc' := 27) (fun _ => x_goto rfl rfl) ?_
      exact hc27 (2) _ σ _ _  (rk_o (rfl) rfl rfl) (rk_s) H (SF_refl) (SA_refl)   (show inr (2) by omega) (show ((F 6 30) ≥ (32) ∧ (F 6 30) ≥ (4096) ∧ (2) = (3)) ∨ ((F 6 30) ≥ (32) ∧ (F 6 30) < (4096) ∧ (2) = (2)) ∨ ((F 6 30) < (32) ∧ (2) = (1)) by omega)
  · refine Ew_of (pc' := 12) (fun _ => x_iconst rfl) ?_
    refine Ew_of (pc' := 27) (fun _ => x_goto rfl rfl) ?_
    exact hc27 (1) _ σ _ _  (rk_o (rfl) rfl rfl) (rk_s) H (SF_refl) (SA_refl)   (show inr (1) by omega) (show ((F 6 30) ≥ (32) ∧ (F 6 30) ≥ (4096) ∧ (1) = (3)) ∨ ((F 6 30) ≥ (32) ∧ (F 6 30) < (4096) ∧ (1) = (2)) ∨ ((F 6 30) < (32) ∧ (1) = (1)) by omega)
