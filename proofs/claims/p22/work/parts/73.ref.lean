/-- Writer.sayHead -/
theorem M435b {σ0 σ : rS} {D N : Nat → Nat} {F : hF} {A : hA} {d c s : Nat} {Q : wQ} (H : HS σ0 σ D N F A) {a1 a2 a3 : Int} (u6_37 : Int) (eu6_37 : F 6 37 = u6_37) (h0 : inr (a1)) (h1 : inr (a2)) (h2 : inr (a3)) (h3 : -1 ≤ (a2) ∧ (a2) ≤ 3) (h4 : 0 ≤ (u6_37) ∧ (u6_37) ≤ 80000000) (k : ∀ σ Fₚ Aₚ, HS σ0 σ D N Fₚ Aₚ → SF [(6, 37)] F Fₚ → SA [70] A Aₚ → ∀ y6_37 : Int, Fₚ 6 37 = y6_37 → ((u6_37) ≤ (y6_37) ∧ (y6_37) ≤ (u6_37) + 5) → Q none σ c s) : Ew 435 (d + 2) 0 (rargs 0 [.ref (D 6), I a1, I a2, I a3]) [] σ c s Q := by
  have r1 : (0 : Int) ≤ u6_37 ∧ u6_37 ≤ 100000000 := rngE (show (0 : Int) ≤ F 6 37 ∧ F 6 37 ≤ 100000000 from H.frng 6 37) (show F 6 37 = u6_37 from (eu6_37))
  refine Ew_of (pcₚ := 1) (fun _ => x_aload_n rfl rfl) ?_
  refine Ew_of (pcₚ := 2) (fun _ => x_iload_n rfl rfl) ?_
  refine w_i2l rfl (show inr (a1) from h0) ?_
  refine Ew_of (pcₚ := 4) (fun _ => x_iload_n rfl rfl) ?_
  refine w_i2l rfl (show inr (a2) from h1) ?_
  refine Ew_of (pcₚ := 6) (fun _ => x_iconst rfl) ?_
  refine w_lshlA rfl (fun z2 gz2 => ?_)
  refine w_lorA rfl (fun z3 gz3 => ?_)
  refine Ew_of (pcₚ := 9) (fun _ => x_aload_n rfl rfl) ?_
  have r4 : (0 : Int) ≤ F 6 30 ∧ F 6 30 ≤ 16385 := H.frng 6 30
  refine w_gI H (o := 6) (w := F 6 30) rfl (H.perm 6 rfl) rfl rfl rfl (fun _ => rfl) rfl ?_
  refine w_i2l rfl (show inr (F 6 30) from q_1839 r4) ?_
  refine Ew_of (pcₚ := 14) (fun _ => x_iconst rfl) ?_
  refine w_lshlA rfl (fun z5 gz5 => ?_)
  refine w_lorA rfl (fun z6 gz6 => ?_)
  refine Ew_of (pcₚ := 17) (fun _ => x_iload_n rfl rfl) ?_
  refine w_i2l rfl (show inr (a3) from h2) ?_
  refine Ew_of (pcₚ := 19) (fun _ => x_iconst rfl) ?_
  refine Ew_of (pcₚ := 20) (fun _ => x_iload_n rfl rfl) ?_
  refine w_stat24 rfl rfl (by rfl) (M427 H (show inr (a2) from h1) (fun z11 σ F7 A8 H hS9 hA10 pz11_0 pz11_1 => ⟨rfl, ?_⟩))
  refine w_iadd rfl ?_
  refine w_lshlA rfl (fun z12 gz12 => ?_)
  refine w_lorA rfl (fun z13 gz13 => ?_)
  refine Ew_of (pcₚ := 27) (fun _ => x_iload_n rfl rfl) ?_
  refine w_stat24 rfl rfl (by rfl) (M428 H (show inr (a2) from h1) (fun z18 σ F14 A15 H hS16 hA17 pz18_0 pz18_1 => ⟨rfl, ?_⟩))
  refine w_inv H (o := 6) rfl rfl rfl (H.perm 6 rfl) rfl rfl (by rfl) (M393 H (u6_37) ((((hS16 6 37 rfl).trans (hS9 6 37 rfl)).trans (eu6_37))) (show inrJ (z13) from gz13) (show inr (z18) from pz18_0) (show 0 ≤ (z18) ∧ (z18) ≤ 8 from q_1875 pz18_1) (show 0 ≤ (u6_37) ∧ (u6_37) ≤ 90000000 from q_1874 h4 r1) (fun σ F19 A20 H hS21 hA22 y24 ey25 pz23_0 => ⟨rfl, ?_⟩))
  have r26 : (0 : Int) ≤ y24 ∧ y24 ≤ 100000000 := rngE (show (0 : Int) ≤ F19 6 37 ∧ F19 6 37 ≤ 100000000 from H.frng 6 37) (show F19 6 37 = y24 from (ey25))
  exact w_ret rfl (k σ _ _ H (SF_trans (SF_trans (SF_trans (SF_refl) hS9 (any_sub rfl)) hS16 (any_sub rfl)) hS21 (any_sub rfl)) (SA_trans (SA_trans (SA_trans (SA_refl) hA10 (any_subA rfl)) hA17 (any_subA rfl)) hA22 (any_subA rfl)) (y24) ((ey25)) (show (u6_37) ≤ (y24) ∧ (y24) ≤ (u6_37) + 5 from q_1876 pz18_1 pz23_0))
/-- Writer.sayLiterals -/
theorem M434 {σ0 σ : rS} {D N : Nat → Nat} {F : hF} {A : hA} {d c s : Nat} {Q : wQ} (H : HS σ0 σ D N F A)  (u6_12 : Int) (eu6_12 : F 6 12 = u6_12) (u6_37 : Int) (eu6_37 : F 6 37 = u6_37) (w53 : Int → Int) (ew53 : A 53 = w53) (h0 : WC ((u6_12)) ((w53))) (h1 : 0 ≤ (u6_37) ∧ (u6_37) ≤ 50000000) (k : ∀ (z : Int) σ Fₚ Aₚ, HS σ0 σ D N Fₚ Aₚ → SF [(6, 12), (6, 35), (6, 37), (6, 49), (6, 53)] F Fₚ → SA [53, 69, 70, 71, 72, 73, 74, 75, 76, 77, 78, 79, 80, 81, 82, 83, 84] A Aₚ → ∀ y6_12 : Int, Fₚ 6 12 = y6_12 → ∀ y6_37 : Int, Fₚ 6 37 = y6_37 → ∀ v53 : Int → Int, Aₚ 53 = v53 → (inr (z)) → (0 ≤ (z) ∧ (z) ≤ 3) → (WC ((y6_12)) ((v53))) → ((u6_37) ≤ (y6_37) ∧ (y6_37) ≤ (u6_37) + 70000) → Q (some (I z)) σ c s) : Ew 434 (d + 4) 0 (rargs 0 [.ref (D 6)]) [] σ c s Q := by
  have r1 : (0 : Int) ≤ u6_12 ∧ u6_12 ≤ 11 := rngE (show (0 : Int) ≤ F 6 12 ∧ F 6 12 ≤ 11 from H.frng 6 12) (show F 6 12 = u6_12 from (eu6_12))
  have r2 : (0 : Int) ≤ u6_37 ∧ u6_37 ≤ 100000000 := rngE (show (0 : Int) ≤ F 6 37 ∧ F 6 37 ≤ 100000000 from H.frng 6 37) (show F 6 37 = u6_37 from (eu6_37))
  have hB : ∀ i, (0 : Int) ≤ (w53) i ∧ (w53) i ≤ 11 := fun i => by have h1 : (0 : Int) ≤ A 53 i ∧ A 53 i ≤ 11 := H.arng 53 i; rw [show A 53 = w53 from ew53] at h1; exact h1
  have hbd : BD ((w53)) := fun i _ _ => hB i
  have hwc : WC ((u6_12)) ((w53)) := h0
  refine Ew_of (pcₚ := 1) (fun _ => x_aload_n rfl rfl) ?_
  have r3 : (0 : Int) ≤ F 6 30 ∧ F 6 30 ≤ 16385 := H.frng 6 30
  refine w_gI H (o := 6) (w := F 6 30) rfl (H.perm 6 rfl) rfl rfl rfl (fun _ => rfl) rfl ?_
  refine Ew_of (pcₚ := 5) (fun _ => x_istore_n rfl) ?_
  refine Ew_of (pcₚ := 6) (fun _ => x_iload_n rfl rk_s) ?_
  refine Ew_of (pcₚ := 8) (fun _ => x_bipush (z := 32) rfl (by decide)) ?_
  have hc27 : ∀ (tc27_0 : Int), ∀ (ls : rO) (σ : rS) (F_c27 : hF) (A_c27 : hA) , rlook ls 0 = some (.ref (D 6)) → rlook ls 1 = some (I (F 6 30)) → HS σ0 σ D N F_c27 A_c27 → SF [] F F_c27 → SA [] A A_c27 → (inr (tc27_0)) → (((F 6 30) ≥ (32) ∧ (F 6 30) ≥ (4096) ∧ (tc27_0) = (3)) ∨ ((F 6 30) ≥ (32) ∧ (F 6 30) < (4096) ∧ (tc27_0) = (2)) ∨ ((F 6 30) < (32) ∧ (tc27_0) = (1))) → Ew 434 (d + 4) 27 ls [I (tc27_0)] σ c s Q := by
   as_aux_lemma =>
    intro tc27_0 ls σ F_c27 A_c27  lc27_0 lc27_1 H hS_c27 hA_c27   jc27_0 jc27_1
    refine Ew_of (pcₚ := 28) (fun _ => x_istore_n rfl) ?_
    refine Ew_of (pcₚ := 29) (fun _ => x_iload_n rfl rk_s) ?_
    refine Ew_of (pcₚ := 30) (fun _ => x_iload_n rfl (rk_o (lc27_1) rfl rfl)) ?_
    refine w_iadd rfl ?_
    refine Ew_of (pcₚ := 32) (fun _ => x_istore_n rfl) ?_
    refine Ew_of (pcₚ := 33) (fun _ => x_iconst rfl) ?_
    refine Ew_of (pcₚ := 35) (fun _ => x_istore rfl) ?_
    have hc56 : ∀ (ls : rO) (σ : rS) (F_c56 : hF) (A_c56 : hA) (xc56_3 : Int) (xc56_4 : Int), rlook ls 0 = some (.ref (D 6)) → rlook ls 1 = some (I (F 6 30)) → rlook ls 2 = some (I (tc27_0)) → rlook ls 3 = some (I (xc56_3)) → rlook ls 4 = some (I (xc56_4)) → HS σ0 σ D N F_c56 A_c56 → SF [] F_c27 F_c56 → SA [] A_c27 A_c56 → (inr (xc56_3)) → (inr (xc56_4)) → ((xc56_4) = 0 ∨ (xc56_4) = 1 ∧ 1 ≤ (F 6 30)) → (0 ≤ (xc56_3) ∧ (xc56_3) ≤ 20000) → Ew 434 (d + 4) 56 ls [] σ c s Q := by
     as_aux_lemma =>
      intro  ls σ F_c56 A_c56 xc56_3 xc56_4 lc56_0 lc56_1 lc56_2 lc56_3 lc56_4 H hS_c56 hA_c56   jc56_0 jc56_1 jc56_2 jc56_3
      have hc111 : ∀ (ls : rO) (σ : rS) (F_c111 : hF) (A_c111 : hA) (xc111_3 : Int) (xc111_4 : Int), rlook ls 0 = some (.ref (D 6)) → rlook ls 1 = some (I (F 6 30)) → rlook ls 2 = some (I (tc27_0)) → rlook ls 3 = some (I (xc111_3)) → rlook ls 4 = some (I (xc111_4)) → HS σ0 σ D N F_c111 A_c111 → SF [] F_c56 F_c111 → SA [] A_c56 A_c111 → (inr (xc111_3)) → (inr (xc111_4)) → ((xc111_4) = 0 ∨ (xc111_4) = 1 ∧ 1 ≤ (F 6 30) ∨ (xc111_4) = 3) → (0 ≤ (xc111_3) ∧ (xc111_3) ≤ 100000) → ((xc111_4) = 3 → ∀ k, 0 ≤ k → k < (F 6 30) → ((w53)) (((A 65)) k) ≠ 0) → ((xc111_4) = 3 → CI ((w53)) ((u6_12))) → Ew 434 (d + 4) 111 ls [] σ c s Q := by
       as_aux_lemma =>
        intro  ls σ F_c111 A_c111 xc111_3 xc111_4 lc111_0 lc111_1 lc111_2 lc111_3 lc111_4 H hS_c111 hA_c111   jc111_0 jc111_1 jc111_2 jc111_3 jc111_4 jc111_5
        have hc239 : ∀ (ls : rO) (σ : rS) (F_c239 : hF) (A_c239 : hA) (xc239_4 : Int), rlook ls 0 = some (.ref (D 6)) → rlook ls 1 = some (I (F 6 30)) → rlook ls 2 = some (I (tc27_0)) → rlook ls 4 = some (I (xc239_4)) → HS σ0 σ D N F_c239 A_c239 → SF [(6, 12), (6, 35), (6, 37), (6, 49), (6, 53)] F_c111 F_c239 → SA [53, 69, 70, 71, 72, 73, 74, 75, 76, 77, 78, 79, 80, 81, 82, 84] A_c111 A_c239 → ∀ yc239_6_12 : Int, F_c239 6 12 = yc239_6_12 → ∀ yc239_6_37 : Int, F_c239 6 37 = yc239_6_37 → ∀ wc239_53 : Int → Int, A_c239 53 = wc239_53 → (inr (xc239_4)) → (0 ≤ (xc239_4) ∧ (xc239_4) ≤ 3) → ((xc239_4) ≠ 1 ∨ 1 ≤ (F 6 30)) → (2 ≤ (xc239_4) → ∀ k, 0 ≤ k → k < (F 6 30) → ((wc239_53)) (((A 65)) k) ≠ 0) → (2 ≤ (xc239_4) → CI ((wc239_53)) ((yc239_6_12))) → (WC ((yc239_6_12)) ((wc239_53))) → ((u6_37) ≤ (yc239_6_37) ∧ (yc239_6_37) ≤ (u6_37) + 300) → Ew 434 (d + 4) 239 ls [] σ c s Q := by
         as_aux_lemma =>
          intro  ls σ F_c239 A_c239 xc239_4 lc239_0 lc239_1 lc239_2 lc239_4 H hS_c239 hA_c239 yc239_6_12 eyc239_6_12 yc239_6_37 eyc239_6_37 wc239_53 ewc239_53 jc239_0 jc239_1 jc239_2 jc239_3 jc239_4 jc239_5 jc239_6
          have r4 : (0 : Int) ≤ yc239_6_12 ∧ yc239_6_12 ≤ 11 := rngE (show (0 : Int) ≤ F_c239 6 12 ∧ F_c239 6 12 ≤ 11 from H.frng 6 12) (show F_c239 6 12 = yc239_6_12 from (eyc239_6_12))
          have r5 : (0 : Int) ≤ yc239_6_37 ∧ yc239_6_37 ≤ 100000000 := rngE (show (0 : Int) ≤ F_c239 6 37 ∧ F_c239 6 37 ≤ 100000000 from H.frng 6 37) (show F_c239 6 37 = yc239_6_37 from (eyc239_6_37))
          refine Ew_of (pcₚ := 241) (fun _ => x_iload rfl lc239_4) ?_
          refine Ew_of (pcₚ := 242) (fun _ => x_iconst rfl) ?_
          refine w_icmpge (t := 330) rfl rfl (show inr (xc239_4) from jc239_0) (show inr (2) from q_55) (fun b6 => ?_) (fun b6 => ?_)
          · have hc361 : ∀ (ls : rO) (σ : rS) (F_c361 : hF) (A_c361 : hA) , rlook ls 0 = some (.ref (D 6)) → rlook ls 1 = some (I (F 6 30)) → rlook ls 4 = some (I (xc239_4)) → HS σ0 σ D N F_c361 A_c361 → SF [(6, 37)] F_c239 F_c361 → SA [70] A_c239 A_c361 → ∀ yc361_6_37 : Int, F_c361 6 37 = yc361_6_37 → ((yc239_6_37) ≤ (yc361_6_37) ∧ (yc361_6_37) ≤ (yc239_6_37) + 5) → Ew 434 (d + 4) 361 ls [] σ c s Q := by
             as_aux_lemma =>
              intro  ls σ F_c361 A_c361  lc361_0 lc361_1 lc361_4 H hS_c361 hA_c361 yc361_6_37 eyc361_6_37  jc361_0
              have r7 : (0 : Int) ≤ yc361_6_37 ∧ yc361_6_37 ≤ 100000000 := rngE (show (0 : Int) ≤ F_c361 6 37 ∧ F_c361 6 37 ≤ 100000000 from H.frng 6 37) (show F_c361 6 37 = yc361_6_37 from (eyc361_6_37))
              have hcl : CI ((wc239_53)) ((yc239_6_12)) := (show 2 ≤ (xc239_4) → CI ((wc239_53)) ((yc239_6_12)) from jc239_4) (by omega)
              have hcdd : ∀ k, 0 ≤ k → k < (F 6 30) → ((wc239_53)) (((A 65)) k) ≠ 0 := (show 2 ≤ (xc239_4) → ∀ k, 0 ≤ k → k < (F 6 30) → ((wc239_53)) (((A 65)) k) ≠ 0 from by assumption) (by omega)
              refine Ew_of (pcₚ := 362) (fun _ => x_aload_n rfl lc361_0) ?_
              refine Ew_of (pcₚ := 363) (fun _ => x_aload_n rfl lc361_0) ?_
              refine w_gT H (o := 6) (t := 53) rfl (H.perm 6 rfl) rfl rfl rfl rfl rfl rfl ?_
              refine Ew_of (pcₚ := 367) (fun _ => x_aload_n rfl lc361_0) ?_
              refine w_gI H (o := 6) (w := yc239_6_12) rfl (H.perm 6 rfl) rfl rfl rfl (fun _ => rfl) ((hS_c361 6 12 rfl).trans (eyc239_6_12)) ?_
              refine w_inv H (o := 6) rfl rfl rfl (H.perm 6 rfl) rfl rfl (by rfl) (M430_53 H (wc239_53) ((funext (hA_c361 53 rfl)).trans (ewc239_53)) (show inr (yc239_6_12) from q_1138 r4) (show CI ((wc239_53)) ((yc239_6_12)) from hcl) (fun σ F8 A9 H hS10 hA11 wq13 ewq14 pz12_0 => ⟨rfl, ?_⟩))
              refine Ew_of (pcₚ := 374) (fun _ => x_aload_n rfl lc361_0) ?_
              refine w_inv H (o := 6) rfl rfl rfl (H.perm 6 rfl) rfl rfl (by rfl) (M391 H  (fun σ F15 A16 H hS17 hA18 y20 ey21 pz19_0 => ⟨rfl, ?_⟩))
              have r22 : (0 : Int) ≤ y20 ∧ y20 ≤ 100000000 := rngE (show (0 : Int) ≤ F15 6 35 ∧ F15 6 35 ≤ 100000000 from H.frng 6 35) (show F15 6 35 = y20 from (ey21))
              have hc397 : ∀ (ls : rO) (σ : rS) (F_c397 : hF) (A_c397 : hA) , rlook ls 0 = some (.ref (D 6)) → rlook ls 4 = some (I (xc239_4)) → HS σ0 σ D N F_c397 A_c397 → SF [(6, 35)] F15 F_c397 → SA [69] A16 A_c397 → ∀ yc397_6_35 : Int, F_c397 6 35 = yc397_6_35 → (0 ≤ (yc397_6_35) ∧ (yc397_6_35) ≤ 192000) → Ew 434 (d + 4) 397 ls [] σ c s Q := by
               as_aux_lemma =>
                intro  ls σ F_c397 A_c397  lc397_0 lc397_4 H hS_c397 hA_c397 yc397_6_35 eyc397_6_35  jc397_0
                have r23 : (0 : Int) ≤ yc397_6_35 ∧ yc397_6_35 ≤ 100000000 := rngE (show (0 : Int) ≤ F_c397 6 35 ∧ F_c397 6 35 ≤ 100000000 from H.frng 6 35) (show F_c397 6 35 = yc397_6_35 from (eyc397_6_35))
                refine Ew_of (pcₚ := 398) (fun _ => x_aload_n rfl lc397_0) ?_
                refine w_inv H (o := 6) rfl rfl rfl (H.perm 6 rfl) rfl rfl (by rfl) (M394 H (yc397_6_35) ((eyc397_6_35)) (yc361_6_37) (((((hS_c397 6 37 rfl).trans (hS17 6 37 rfl)).trans (hS10 6 37 rfl)).trans (eyc361_6_37))) (show 0 ≤ (yc397_6_35) ∧ (yc397_6_35) ≤ 192000 from jc397_0) (show 0 ≤ (yc361_6_37) ∧ (yc361_6_37) ≤ 90000000 by omega) (fun σ F24 A25 H hS26 hA27 y29 ey30 pz28_0 => ⟨rfl, ?_⟩))
                have r31 : (0 : Int) ≤ y29 ∧ y29 ≤ 100000000 := rngE (show (0 : Int) ≤ F24 6 37 ∧ F24 6 37 ≤ 100000000 from H.frng 6 37) (show F24 6 37 = y29 from (ey30))
                refine Ew_of (pcₚ := 403) (fun _ => x_iload rfl lc397_4) ?_
                exact w_ireturn rfl (k (xc239_4) σ _ _ H (SF_trans (SF_trans (SF_trans (SF_trans (SF_trans (SF_trans (SF_trans (SF_trans (SF_trans (SF_refl) hS_c27 (any_sub rfl)) hS_c56 (any_sub rfl)) hS_c111 (any_sub rfl)) hS_c239 (any_sub rfl)) hS_c361 (any_sub rfl)) hS10 (any_sub rfl)) hS17 (any_sub rfl)) hS_c397 (any_sub rfl)) hS26 (any_sub rfl)) (SA_trans (SA_trans (SA_trans (SA_trans (SA_trans (SA_trans (SA_trans (SA_trans (SA_trans (SA_refl) hA_c27 (any_subA rfl)) hA_c56 (any_subA rfl)) hA_c111 (any_subA rfl)) hA_c239 (any_subA rfl)) hA_c361 (any_subA rfl)) hA11 (any_subA rfl)) hA18 (any_subA rfl)) hA_c397 (any_subA rfl)) hA27 (any_subA rfl)) (yc239_6_12) (((((((hS26 6 12 rfl).trans (hS_c397 6 12 rfl)).trans (hS17 6 12 rfl)).trans (hS10 6 12 rfl)).trans (hS_c361 6 12 rfl)).trans (eyc239_6_12))) (y29) ((ey30)) (wc239_53) ((funext (hA27 53 rfl)).trans ((funext (hA_c397 53 rfl)).trans ((funext (hA18 53 rfl)).trans ((funext (hA11 53 rfl)).trans ((funext (hA_c361 53 rfl)).trans (ewc239_53)))))) (show inr (xc239_4) from jc239_0) (show 0 ≤ (xc239_4) ∧ (xc239_4) ≤ 3 from jc239_1) (show WC ((yc239_6_12)) ((wc239_53)) from jc239_5) (show (u6_37) ≤ (y29) ∧ (y29) ≤ (u6_37) + 70000 by omega))
              refine Ew_of (pcₚ := 378) (fun _ => x_iload_n rfl lc361_1) ?_
              refine Ew_of (pcₚ := 381) (fun _ => x_sipush (z := 1024) rfl (by decide)) ?_
              refine w_icmpge (t := 393) rfl rfl (show inr (F 6 30) from q_1839 r3) (show inr (1024) from q_1842) (fun b32 => ?_) (fun b32 => ?_)
              · have : ∀ k, (0 : Int) ≤ k → k < (F 6 30) → ((wc239_53)) (((A 65)) k) ≠ 0 := hcdd
                refine Ew_of (pcₚ := 394) (fun _ => x_aload_n rfl lc361_0) ?_
                refine w_inv H (o := 6) rfl rfl rfl (H.perm 6 rfl) rfl rfl (by rfl) (M436 H (F 6 30) ((((((((hS17 6 30 rfl).trans (hS10 6 30 rfl)).trans (hS_c361 6 30 rfl)).trans (hS_c239 6 30 rfl)).trans (hS_c111 6 30 rfl)).trans (hS_c56 6 30 rfl)).trans (hS_c27 6 30 rfl))) (y20) ((ey21)) (wc239_53) ((funext (hA18 53 rfl)).trans ((funext (hA11 53 rfl)).trans ((funext (hA_c361 53 rfl)).trans (ewc239_53)))) (A 65) ((funext (hA18 65 rfl)).trans ((funext (hA11 65 rfl)).trans ((funext (hA_c361 65 rfl)).trans ((funext (hA_c239 65 rfl)).trans ((funext (hA_c111 65 rfl)).trans ((funext (hA_c56 65 rfl)).trans (funext (hA_c27 65 rfl)))))))) (wq13) ((funext (hA18 83 rfl)).trans (ewq14)) (show 1024 ≤ (F 6 30) from b32) (show CX ((wq13)) ((wc239_53)) from pz12_0) (show ∀ k, 0 ≤ k → k < (F 6 30) → ((wc239_53)) (((A 65)) k) ≠ 0 from hcdd) (show 0 ≤ (y20) ∧ (y20) ≤ 1000 from q_2260 pz19_0 r22) (fun σ F33 A34 H hS35 hA36 y38 ey39 pz37_0 => ⟨rfl, ?_⟩))
                have r40 : (0 : Int) ≤ y38 ∧ y38 ≤ 100000000 := rngE (show (0 : Int) ≤ F33 6 35 ∧ F33 6 35 ≤ 100000000 from H.frng 6 35) (show F33 6 35 = y38 from (ey39))
                exact hc397  _ σ _ _  (lc361_0) (lc361_4) H (SF_trans (SF_refl) hS35 (any_sub rfl)) (SA_trans (SA_refl) hA36 (any_subA rfl)) (y38) ((ey39))  (show 0 ≤ (y38) ∧ (y38) ≤ 192000 from q_2261 pz19_0 pz37_0 r3 r40)
              · have : ∀ k, (0 : Int) ≤ k → k < (F 6 30) → ((wc239_53)) (((A 65)) k) ≠ 0 := fun k a b => hcdd k a (by omega)
                refine Ew_of (pcₚ := 385) (fun _ => x_aload_n rfl lc361_0) ?_
                refine Ew_of (pcₚ := 386) (fun _ => x_iconst rfl) ?_
                refine Ew_of (pcₚ := 387) (fun _ => x_iload_n rfl lc361_1) ?_
                refine w_inv H (o := 6) rfl rfl rfl (H.perm 6 rfl) rfl rfl (by rfl) (M431 H (y20) ((ey21)) (wc239_53) ((funext (hA18 53 rfl)).trans ((funext (hA11 53 rfl)).trans ((funext (hA_c361 53 rfl)).trans (ewc239_53)))) (A 65) ((funext (hA18 65 rfl)).trans ((funext (hA11 65 rfl)).trans ((funext (hA_c361 65 rfl)).trans ((funext (hA_c239 65 rfl)).trans ((funext (hA_c111 65 rfl)).trans ((funext (hA_c56 65 rfl)).trans (funext (hA_c27 65 rfl)))))))) (wq13) ((funext (hA18 83 rfl)).trans (ewq14)) (show inr (0) from q_20) (show inr (F 6 30) from q_1846 b32 r3) (show 0 ≤ (0) ∧ (0) ≤ (F 6 30) ∧ (F 6 30) ≤ 16385 from q_1845 r3) (show CX ((wq13)) ((wc239_53)) from pz12_0) (show ∀ k, (0) ≤ k → k < (F 6 30) → ((wc239_53)) (((A 65)) k) ≠ 0 by assumption) (show 0 ≤ (y20) ∧ (y20) ≤ 1000000 from q_2262 pz19_0 r22) (fun σ F41 A42 H hS43 hA44 y46 ey47 pz45_0 => ⟨rfl, ?_⟩))
                have r48 : (0 : Int) ≤ y46 ∧ y46 ≤ 100000000 := rngE (show (0 : Int) ≤ F41 6 35 ∧ F41 6 35 ≤ 100000000 from H.frng 6 35) (show F41 6 35 = y46 from (ey47))
                refine Ew_of (pcₚ := 397) (fun _ => x_goto rfl rfl) ?_
                exact hc397  _ σ _ _  (lc361_0) (lc361_4) H (SF_trans (SF_refl) hS43 (any_sub rfl)) (SA_trans (SA_refl) hA44 (any_subA rfl)) (y46) ((ey47))  (show 0 ≤ (y46) ∧ (y46) ≤ 192000 from q_2263 b32 pz19_0 pz45_0 r48)
            refine Ew_of (pcₚ := 332) (fun _ => x_iload rfl lc239_4) ?_
            refine Ew_of (pcₚ := 333) (fun _ => x_iconst rfl) ?_
            refine w_icmpne (t := 361) rfl rfl (show inr (xc239_4) from jc239_0) (show inr (3) from q_66) (fun b49 => ?_) (fun b49 => ?_)
            · exact hc361  _ σ _ _  (lc239_0) (lc239_1) (lc239_4) H (SF_refl) (SA_refl) (yc239_6_37) ((eyc239_6_37))  (show (yc239_6_37) ≤ (yc239_6_37) ∧ (yc239_6_37) ≤ (yc239_6_37) + 5 from q_2264)
            · have hB2 : ∀ i, (0 : Int) ≤ (wc239_53) i ∧ (wc239_53) i ≤ 11 := fun i => by have h1 : (0 : Int) ≤ A_c239 53 i ∧ A_c239 53 i ≤ 11 := H.arng 53 i; rw [show A_c239 53 = wc239_53 from ewc239_53] at h1; exact h1
              have hbd3 : BD ((wc239_53)) := fun i _ _ => hB2 i
              refine Ew_of (pcₚ := 337) (fun _ => x_aload_n rfl lc239_0) ?_
              refine Ew_of (pcₚ := 338) (fun _ => x_aload_n rfl lc239_0) ?_
              refine w_gT H (o := 6) (t := 53) rfl (H.perm 6 rfl) rfl rfl rfl rfl rfl rfl ?_
              refine Ew_of (pcₚ := 342) (fun _ => x_iconst rfl) ?_
              refine w_inv H (o := 6) rfl rfl rfl (H.perm 6 rfl) rfl rfl (by rfl) (M426_53 H (wc239_53) (ewc239_53) (show inr (0) from q_20) (show BD ((wc239_53)) from hbd3) (show -2 ≤ (0) ∧ (0) ≤ 20000 from q_2265) (fun z54 σ F50 A51 H hS52 hA53 pz54_0 pz54_1 => ⟨rfl, ?_⟩))
              refine Ew_of (pcₚ := 347) (fun _ => x_istore rfl) ?_
              refine Ew_of (pcₚ := 348) (fun _ => x_aload_n rfl (rk_o (lc239_0) rfl rfl)) ?_
              refine Ew_of (pcₚ := 350) (fun _ => x_iload rfl (rk_o (lc239_4) rfl rfl)) ?_
              refine Ew_of (pcₚ := 351) (fun _ => x_aload_n rfl (rk_o (lc239_0) rfl rfl)) ?_
              refine Ew_of (pcₚ := 353) (fun _ => x_iload rfl rk_s) ?_
              refine w_inv H (o := 6) rfl rfl rfl (H.perm 6 rfl) rfl rfl (by rfl) (M429 H (show inr (z54) from pz54_0) (fun z59 σ F55 A56 H hS57 hA58 pz59_0 pz59_1 => ⟨rfl, ?_⟩))
              refine Ew_of (pcₚ := 358) (fun _ => x_iload rfl rk_s) ?_
              refine w_inv H (o := 6) rfl rfl rfl (H.perm 6 rfl) rfl rfl (by rfl) (M435b H (yc239_6_37) ((((hS57 6 37 rfl).trans (hS52 6 37 rfl)).trans (eyc239_6_37))) (show inr (xc239_4) from jc239_0) (show inr (z59) from pz59_0) (show inr (z54) from pz54_0) (show -1 ≤ (z59) ∧ (z59) ≤ 3 from pz59_1) (show 0 ≤ (yc239_6_37) ∧ (yc239_6_37) ≤ 80000000 by omega) (fun σ F60 A61 H hS62 hA63 y65 ey66 pz64_0 => ⟨rfl, ?_⟩))
              have r67 : (0 : Int) ≤ y65 ∧ y65 ≤ 100000000 := rngE (show (0 : Int) ≤ F60 6 37 ∧ F60 6 37 ≤ 100000000 from H.frng 6 37) (show F60 6 37 = y65 from (ey66))
              exact hc361  _ σ _ _  (rk_o (lc239_0) rfl rfl) (rk_o (lc239_1) rfl rfl) (rk_o (lc239_4) rfl rfl) H (SF_trans (SF_trans (SF_trans (SF_refl) hS52 (any_sub rfl)) hS57 (any_sub rfl)) hS62 (any_sub rfl)) (SA_trans (SA_trans (SA_trans (SA_refl) hA53 (any_subA rfl)) hA58 (any_subA rfl)) hA63 (any_subA rfl)) (y65) ((ey66))  (show (yc239_6_37) ≤ (y65) ∧ (y65) ≤ (yc239_6_37) + 5 from pz64_0)
          · refine Ew_of (pcₚ := 246) (fun _ => x_aload_n rfl lc239_0) ?_
            have hc288 : ∀ (tc288_0 : Int), ∀ (ls : rO) (σ : rS) (F_c288 : hF) (A_c288 : hA) , rlook ls 0 = some (.ref (D 6)) → rlook ls 1 = some (I (F 6 30)) → rlook ls 2 = some (I (tc27_0)) → rlook ls 4 = some (I (xc239_4)) → HS σ0 σ D N F_c288 A_c288 → SF [] F_c239 F_c288 → SA [] A_c239 A_c288 → (inrJ (tc288_0)) → Ew 434 (d + 4) 288 ls [J (tc288_0), .ref (D 6)] σ c s Q := by
             as_aux_lemma =>
              intro tc288_0 ls σ F_c288 A_c288  lc288_0 lc288_1 lc288_2 lc288_4 H hS_c288 hA_c288   jc288_0
              refine Ew_of (pcₚ := 289) (fun _ => x_iload_n rfl lc288_2) ?_
              refine w_inv H (o := 6) rfl rfl rfl (H.perm 6 rfl) rfl rfl (by rfl) (M393 H (yc239_6_37) (((hS_c288 6 37 rfl).trans (eyc239_6_37))) (show inrJ (tc288_0) from jc288_0) (show inr (tc27_0) from jc27_0) (show 0 ≤ (tc27_0) ∧ (tc27_0) ≤ 8 from q_2266 jc27_1) (show 0 ≤ (yc239_6_37) ∧ (yc239_6_37) ≤ 90000000 by omega) (fun σ F68 A69 H hS70 hA71 y73 ey74 pz72_0 => ⟨rfl, ?_⟩))
              have r75 : (0 : Int) ≤ y73 ∧ y73 ≤ 100000000 := rngE (show (0 : Int) ≤ F68 6 37 ∧ F68 6 37 ≤ 100000000 from H.frng 6 37) (show F68 6 37 = y73 from (ey74))
              refine Ew_of (pcₚ := 293) (fun _ => x_iconst rfl) ?_
              refine Ew_of (pcₚ := 295) (fun _ => x_istore rfl) ?_
              suffices hl295 : ∀ (m : Nat), ∀ (ls : rO) (σ : rS) (F_295 : hF) (A_295 : hA) (x295_5 : Int), rlook ls 0 = some (.ref (D 6)) → rlook ls 1 = some (I (F 6 30)) → rlook ls 4 = some (I (xc239_4)) → rlook ls 5 = some (I (x295_5)) → HS σ0 σ D N F_295 A_295 → SF [(6, 37)] F68 F_295 → SA [70] A69 A_295 → ∀ y295_6_37 : Int, F_295 6 37 = y295_6_37 → (inr (x295_5)) → (0 ≤ (x295_5) ∧ (x295_5) ≤ (F 6 30) + 1) → ((y295_6_37) = (y73) + (x295_5)) → ((F 6 30) + 2 - (x295_5)).toNat = m → Ew 434 (d + 4) 295 ls [] σ c s Q from
                hl295 _ _ σ _ _ (0) (rk_o (lc288_0) rfl rfl) (rk_o (lc288_1) rfl rfl) (rk_o (lc288_4) rfl rfl) (rk_s) H (SF_refl) (SA_refl) (y73) ((ey74))  (show inr (0) from q_20) (show 0 ≤ (0) ∧ (0) ≤ (F 6 30) + 1 from q_2267 r3) (show (y73) = (y73) + (0) from q_110) rfl
              as_aux_lemma =>
              intro m
              induction m using Nat.strongRecOn with
              | _ m ih295 =>
                intro ls σ F_295 A_295 x295_5 l295_0 l295_1 l295_4 l295_5 H hS_295 hA_295 y295_6_37 ey295_6_37  j295_0 j295_1 j295_2 hm295
                have r76 : (0 : Int) ≤ y295_6_37 ∧ y295_6_37 ≤ 100000000 := rngE (show (0 : Int) ≤ F_295 6 37 ∧ F_295 6 37 ≤ 100000000 from H.frng 6 37) (show F_295 6 37 = y295_6_37 from (ey295_6_37))
                refine Ew_of (pcₚ := 297) (fun _ => x_iload rfl l295_5) ?_
                refine Ew_of (pcₚ := 299) (fun _ => x_iload rfl l295_4) ?_
                have hc307 : ∀ (tc307_0 : Int), ∀ (ls : rO) (σ : rS) (F_c307 : hF) (A_c307 : hA) , rlook ls 0 = some (.ref (D 6)) → rlook ls 1 = some (I (F 6 30)) → rlook ls 4 = some (I (xc239_4)) → rlook ls 5 = some (I (x295_5)) → HS σ0 σ D N F_c307 A_c307 → SF [] F_295 F_c307 → SA [] A_295 A_c307 → (inr (tc307_0)) → (((xc239_4) ≠ (0) ∧ (tc307_0) = (1)) ∨ ((xc239_4) = (0) ∧ (tc307_0) = (F 6 30))) → Ew 434 (d + 4) 307 ls [I (tc307_0), I (x295_5)] σ c s Q := by
                 as_aux_lemma =>
                  intro tc307_0 ls σ F_c307 A_c307  lc307_0 lc307_1 lc307_4 lc307_5 H hS_c307 hA_c307   jc307_0 jc307_1
                  refine w_icmpge (t := 327) rfl rfl (show inr (x295_5) from j295_0) (show inr (tc307_0) from jc307_0) (fun b77 => ?_) (fun b77 => ?_)
                  · refine Ew_of (pcₚ := 329) (fun _ => x_iload rfl lc307_4) ?_
                    exact w_ireturn rfl (k (xc239_4) σ _ _ H (SF_trans (SF_trans (SF_trans (SF_trans (SF_trans (SF_trans (SF_trans (SF_trans (SF_refl) hS_c27 (any_sub rfl)) hS_c56 (any_sub rfl)) hS_c111 (any_sub rfl)) hS_c239 (any_sub rfl)) hS_c288 (any_sub rfl)) hS70 (any_sub rfl)) hS_295 (any_sub rfl)) hS_c307 (any_sub rfl)) (SA_trans (SA_trans (SA_trans (SA_trans (SA_trans (SA_trans (SA_trans (SA_trans (SA_refl) hA_c27 (any_subA rfl)) hA_c56 (any_subA rfl)) hA_c111 (any_subA rfl)) hA_c239 (any_subA rfl)) hA_c288 (any_subA rfl)) hA71 (any_subA rfl)) hA_295 (any_subA rfl)) hA_c307 (any_subA rfl)) (yc239_6_12) ((((((hS_c307 6 12 rfl).trans (hS_295 6 12 rfl)).trans (hS70 6 12 rfl)).trans (hS_c288 6 12 rfl)).trans (eyc239_6_12))) (y295_6_37) (((hS_c307 6 37 rfl).trans (ey295_6_37))) (wc239_53) ((funext (hA_c307 53 rfl)).trans ((funext (hA_295 53 rfl)).trans ((funext (hA71 53 rfl)).trans ((funext (hA_c288 53 rfl)).trans (ewc239_53))))) (show inr (xc239_4) from jc239_0) (show 0 ≤ (xc239_4) ∧ (xc239_4) ≤ 3 from jc239_1) (show WC ((yc239_6_12)) ((wc239_53)) from jc239_5) (show (u6_37) ≤ (y295_6_37) ∧ (y295_6_37) ≤ (u6_37) + 70000 by omega))
                  · refine Ew_of (pcₚ := 311) (fun _ => x_aload_n rfl lc307_0) ?_
                    refine Ew_of (pcₚ := 312) (fun _ => x_aload_n rfl lc307_0) ?_
                    refine w_gT H (o := 6) (t := 65) rfl (H.perm 6 rfl) rfl rfl rfl rfl rfl rfl ?_
                    refine Ew_of (pcₚ := 317) (fun _ => x_iload rfl lc307_5) ?_
                    refine w_lI H (o := 65) (n := 16385) rfl (H.perm 65 rfl) rfl rfl (H.fix 65 rfl rfl) (show 0 ≤ x295_5 ∧ x295_5 < ((16385 : Nat) : Int) by omega) (by decide) (fun v78 ev78 qv78 => ?_)
                    have qv78 : (0 : Int) ≤ v78 ∧ v78 ≤ 255 := qv78
                    have ev78 : (A 65) (x295_5) = v78 := (congrFun ((funext (hA_c307 65 rfl)).trans ((funext (hA_295 65 rfl)).trans ((funext (hA71 65 rfl)).trans ((funext (hA_c288 65 rfl)).trans ((funext (hA_c239 65 rfl)).trans ((funext (hA_c111 65 rfl)).trans ((funext (hA_c56 65 rfl)).trans (funext (hA_c27 65 rfl))))))))) (x295_5)).symm.trans ev78
                    refine w_inv H (o := 6) rfl rfl rfl (H.perm 6 rfl) rfl rfl (by rfl) (M392 H (y295_6_37) (((hS_c307 6 37 rfl).trans (ey295_6_37))) (show inr (v78) from q_38 qv78) (show 0 ≤ (y295_6_37) ∧ (y295_6_37) ≤ 99999999 by omega) (fun σ F79 A80 H hS81 hA82 y84 ey85 pz83_0 => ⟨rfl, ?_⟩))
                    have r86 : (0 : Int) ≤ y84 ∧ y84 ≤ 100000000 := rngE (show (0 : Int) ≤ F79 6 37 ∧ F79 6 37 ≤ 100000000 from H.frng 6 37) (show F79 6 37 = y84 from (ey85))
                    refine Ew_of (pcₚ := 324) (fun _ => x_iinc (len := 3) rfl (lc307_5)) ?_
                    refine Ew_of (pcₚ := 295) (fun _ => x_goto rfl rfl) ?_
                    exact ih295 _ (msE hm295 q_2270 (q_2271 j295_1)) _ σ _ _ ((x295_5 + 1)) (rk_o (lc307_0) rfl rfl) (rk_o (lc307_1) rfl rfl) (rk_o (lc307_4) rfl rfl) (rk_s) H (SF_trans (SF_trans (hS_295) hS_c307 (any_sub rfl)) hS81 (any_sub rfl)) (SA_trans (SA_trans (hA_295) hA_c307 (any_subA rfl)) hA82 (any_subA rfl)) (y84) ((ey85))  (show inr ((x295_5 + 1)) from q_2269 j295_1 r3) (show 0 ≤ ((x295_5 + 1)) ∧ ((x295_5 + 1)) ≤ (F 6 30) + 1 from q_2268 b77 j295_1 jc307_1 r3) (show (y84) = (y73) + ((x295_5 + 1)) from q_113 j295_2 pz83_0) rfl
                refine w_ifne (t := 306) rfl rfl (show inr (xc239_4) from jc239_0) (fun b87 => ?_) (fun b87 => ?_)
                · refine Ew_of (pcₚ := 307) (fun _ => x_iconst rfl) ?_
                  exact hc307 (1) _ σ _ _  (l295_0) (l295_1) (l295_4) (l295_5) H (SF_refl) (SA_refl)   (show inr (1) from q_23) (show ((xc239_4) ≠ (0) ∧ (1) = (1)) ∨ ((xc239_4) = (0) ∧ (1) = (F 6 30)) from q_2272 b87)
                · refine Ew_of (pcₚ := 303) (fun _ => x_iload_n rfl l295_1) ?_
                  refine Ew_of (pcₚ := 307) (fun _ => x_goto rfl rfl) ?_
                  exact hc307 (F 6 30) _ σ _ _  (l295_0) (l295_1) (l295_4) (l295_5) H (SF_refl) (SA_refl)   (show inr (F 6 30) from q_1839 r3) (show ((xc239_4) ≠ (0) ∧ (F 6 30) = (1)) ∨ ((xc239_4) = (0) ∧ (F 6 30) = (F 6 30)) from q_2273 b87)
            refine Ew_of (pcₚ := 247) (fun _ => x_iload_n rfl lc239_2) ?_
            refine Ew_of (pcₚ := 248) (fun _ => x_iconst rfl) ?_
            refine w_icmpne (t := 261) rfl rfl (show inr (tc27_0) from jc27_0) (show inr (1) from q_23) (fun b88 => ?_) (fun b88 => ?_)
            · refine Ew_of (pcₚ := 262) (fun _ => x_iload_n rfl lc239_2) ?_
              refine Ew_of (pcₚ := 263) (fun _ => x_iconst rfl) ?_
              refine w_icmpne (t := 278) rfl rfl (show inr (tc27_0) from jc27_0) (show inr (2) from q_55) (fun b89 => ?_) (fun b89 => ?_)
              · refine Ew_of (pcₚ := 279) (fun _ => x_iload_n rfl lc239_1) ?_
                refine Ew_of (pcₚ := 280) (fun _ => x_iconst rfl) ?_
                refine w_ishlA rfl (fun z90 gz90 => ?_)
                refine Ew_of (pcₚ := 283) (fun _ => x_bipush (z := 12) rfl (by decide)) ?_
                refine w_ior rfl (fun z91 gz91 => ?_)
                refine Ew_of (pcₚ := 286) (fun _ => x_iload rfl lc239_4) ?_
                refine w_ior rfl (fun z92 gz92 => ?_)
                refine w_i2l rfl (show inr (z92) from gz92) ?_
                exact hc288 (z92) _ σ _ _  (lc239_0) (lc239_1) (lc239_2) (lc239_4) H (SF_refl) (SA_refl)   (show inrJ (z92) from q_428 gz92)
              · refine Ew_of (pcₚ := 267) (fun _ => x_iload_n rfl lc239_1) ?_
                refine Ew_of (pcₚ := 268) (fun _ => x_iconst rfl) ?_
                refine w_ishlA rfl (fun z93 gz93 => ?_)
                refine Ew_of (pcₚ := 270) (fun _ => x_iconst rfl) ?_
                refine w_ior rfl (fun z94 gz94 => ?_)
                refine Ew_of (pcₚ := 273) (fun _ => x_iload rfl lc239_4) ?_
                refine w_ior rfl (fun z95 gz95 => ?_)
                refine w_i2l rfl (show inr (z95) from gz95) ?_
                refine Ew_of (pcₚ := 288) (fun _ => x_goto rfl rfl) ?_
                exact hc288 (z95) _ σ _ _  (lc239_0) (lc239_1) (lc239_2) (lc239_4) H (SF_refl) (SA_refl)   (show inrJ (z95) from q_428 gz95)
            · refine Ew_of (pcₚ := 252) (fun _ => x_iload_n rfl lc239_1) ?_
              refine Ew_of (pcₚ := 253) (fun _ => x_iconst rfl) ?_
              refine w_ishlA rfl (fun z96 gz96 => ?_)
              refine Ew_of (pcₚ := 256) (fun _ => x_iload rfl lc239_4) ?_
              refine w_ior rfl (fun z97 gz97 => ?_)
              refine w_i2l rfl (show inr (z97) from gz97) ?_
              refine Ew_of (pcₚ := 288) (fun _ => x_goto rfl rfl) ?_
              exact hc288 (z97) _ σ _ _  (lc239_0) (lc239_1) (lc239_2) (lc239_4) H (SF_refl) (SA_refl)   (show inrJ (z97) from q_428 gz97)
        refine Ew_of (pcₚ := 112) (fun _ => x_iload_n rfl lc111_1) ?_
        refine Ew_of (pcₚ := 113) (fun _ => x_iconst rfl) ?_
        refine w_icmple (t := 239) rfl rfl (show inr (F 6 30) from q_1839 r3) (show inr (1) from q_23) (fun b98 => ?_) (fun b98 => ?_)
        · have : (2 : Int) ≤ (xc111_4) → ∀ k, 0 ≤ k → k < (F 6 30) → ((w53)) (((A 65)) k) ≠ 0 := by first | exact (fun q => (show (xc111_4) = 3 → ∀ k, 0 ≤ k → k < (F 6 30) → ((w53)) (((A 65)) k) ≠ 0 from by assumption) (by omega)) | exact (fun q => (show xc111_4 = 3 → ∀ k, 0 ≤ k → k < (F 6 30) → ((w53)) (((A 65)) k) ≠ 0 from by assumption) (by omega)) | exact (fun _ k a b => by rw [j205_3 _ (hBl k).1 (by have := hBl k; omega)]; exact hcod k a b)
          have : (2 : Int) ≤ (xc111_4) → CI ((w53)) ((u6_12)) := by first | exact (fun q => (show (xc111_4) = 3 → CI ((w53)) ((u6_12)) from jc111_5) (by omega)) | exact (fun q => (show xc111_4 = 3 → CI ((w53)) ((u6_12)) from jc111_5) (by omega)) | exact (fun _ => CI_congr hci (fun i a b => j205_3 i a (by omega)))
          have : WC ((u6_12)) ((w53)) := by first | assumption | exact .inr (CI_congr hci (fun i a b => j205_3 i a (by omega)))
          exact hc239  _ σ _ _ (xc111_4) (lc111_0) (lc111_1) (lc111_2) (lc111_4) H (SF_refl) (SA_refl) (u6_12) (((((hS_c111 6 12 rfl).trans (hS_c56 6 12 rfl)).trans (hS_c27 6 12 rfl)).trans (eu6_12))) (u6_37) (((((hS_c111 6 37 rfl).trans (hS_c56 6 37 rfl)).trans (hS_c27 6 37 rfl)).trans (eu6_37))) (w53) ((funext (hA_c111 53 rfl)).trans ((funext (hA_c56 53 rfl)).trans ((funext (hA_c27 53 rfl)).trans (ew53)))) (show inr (xc111_4) from jc111_1) (show 0 ≤ (xc111_4) ∧ (xc111_4) ≤ 3 from q_2276 jc111_2) (show (xc111_4) ≠ 1 ∨ 1 ≤ (F 6 30) from q_2275 jc111_2 r3) (show 2 ≤ (xc111_4) → ∀ k, 0 ≤ k → k < (F 6 30) → ((w53)) (((A 65)) k) ≠ 0 by first | assumption | exact fun h => absurd rfl h | exact fun h => absurd h (by decide) | omega) (show 2 ≤ (xc111_4) → CI ((w53)) ((u6_12)) by first | assumption | exact fun h => absurd rfl h | exact fun h => absurd h (by decide) | omega) (show WC ((u6_12)) ((w53)) from hwc) (show (u6_37) ≤ (u6_37) ∧ (u6_37) ≤ (u6_37) + 300 from q_2274)
        · refine Ew_of (pcₚ := 117) (fun _ => x_aload_n rfl lc111_0) ?_
          refine w_inv H (o := 6) rfl rfl rfl (H.perm 6 rfl) rfl rfl (by rfl) (M432 H (F 6 30) ((((hS_c111 6 30 rfl).trans (hS_c56 6 30 rfl)).trans (hS_c27 6 30 rfl))) (A 65) ((funext (hA_c111 65 rfl)).trans ((funext (hA_c56 65 rfl)).trans (funext (hA_c27 65 rfl))))  (fun z103 σ F99 A100 H hS101 hA102 pz103_0 pz103_1 pz103_2 => ⟨rretB rfl pz103_0, ?_⟩))
          refine w_ifne (t := 239) rfl rfl (show inr (z103) from q_15 pz103_0) (fun b104 => ?_) (fun b104 => ?_)
          · have : (2 : Int) ≤ (xc111_4) → ∀ k, 0 ≤ k → k < (F 6 30) → ((w53)) (((A 65)) k) ≠ 0 := by first | exact (fun q => (show (xc111_4) = 3 → ∀ k, 0 ≤ k → k < (F 6 30) → ((w53)) (((A 65)) k) ≠ 0 from by assumption) (by omega)) | exact (fun q => (show xc111_4 = 3 → ∀ k, 0 ≤ k → k < (F 6 30) → ((w53)) (((A 65)) k) ≠ 0 from by assumption) (by omega)) | exact (fun _ k a b => by rw [j205_3 _ (hBl k).1 (by have := hBl k; omega)]; exact hcod k a b)
            have : (2 : Int) ≤ (xc111_4) → CI ((w53)) ((u6_12)) := by first | exact (fun q => (show (xc111_4) = 3 → CI ((w53)) ((u6_12)) from jc111_5) (by omega)) | exact (fun q => (show xc111_4 = 3 → CI ((w53)) ((u6_12)) from jc111_5) (by omega)) | exact (fun _ => CI_congr hci (fun i a b => j205_3 i a (by omega)))
            have : WC ((u6_12)) ((w53)) := by first | assumption | exact .inr (CI_congr hci (fun i a b => j205_3 i a (by omega)))
            exact hc239  _ σ _ _ (xc111_4) (lc111_0) (lc111_1) (lc111_2) (lc111_4) H (SF_trans (SF_refl) hS101 (any_sub rfl)) (SA_trans (SA_refl) hA102 (any_subA rfl)) (u6_12) ((((((hS101 6 12 rfl).trans (hS_c111 6 12 rfl)).trans (hS_c56 6 12 rfl)).trans (hS_c27 6 12 rfl)).trans (eu6_12))) (u6_37) ((((((hS101 6 37 rfl).trans (hS_c111 6 37 rfl)).trans (hS_c56 6 37 rfl)).trans (hS_c27 6 37 rfl)).trans (eu6_37))) (w53) ((funext (hA102 53 rfl)).trans ((funext (hA_c111 53 rfl)).trans ((funext (hA_c56 53 rfl)).trans ((funext (hA_c27 53 rfl)).trans (ew53))))) (show inr (xc111_4) from jc111_1) (show 0 ≤ (xc111_4) ∧ (xc111_4) ≤ 3 from q_2276 jc111_2) (show (xc111_4) ≠ 1 ∨ 1 ≤ (F 6 30) from q_2277 b98) (show 2 ≤ (xc111_4) → ∀ k, 0 ≤ k → k < (F 6 30) → ((w53)) (((A 65)) k) ≠ 0 by first | assumption | exact fun h => absurd rfl h | exact fun h => absurd h (by decide) | omega) (show 2 ≤ (xc111_4) → CI ((w53)) ((u6_12)) by first | assumption | exact fun h => absurd rfl h | exact fun h => absurd h (by decide) | omega) (show WC ((u6_12)) ((w53)) from hwc) (show (u6_37) ≤ (u6_37) ∧ (u6_37) ≤ (u6_37) + 300 from q_2274)
          · have hdf : DIFF ((A 65)) ((F 6 30)) := by rcases pz103_2 (by omega) with q | q; omega; exact q
            refine Ew_of (pcₚ := 124) (fun _ => x_aload_n rfl lc111_0) ?_
            refine w_inv H (o := 6) rfl rfl rfl (H.perm 6 rfl) rfl rfl (by rfl) (M420 H (F 6 30) (((((hS101 6 30 rfl).trans (hS_c111 6 30 rfl)).trans (hS_c56 6 30 rfl)).trans (hS_c27 6 30 rfl))) (A 65) ((funext (hA102 65 rfl)).trans ((funext (hA_c111 65 rfl)).trans ((funext (hA_c56 65 rfl)).trans (funext (hA_c27 65 rfl))))) (show DIFF ((A 65)) ((F 6 30)) from hdf) (fun z109 σ F105 A106 H hS107 hA108 wq110 ewq111 pz109_0 pz109_1 pz109_2 pz109_3 => ⟨rfl, ?_⟩))
            refine Ew_of (pcₚ := 129) (fun _ => x_istore rfl) ?_
            have hci := pz109_2
            have hcod := pz109_3
            have hbd2 := CI_BD hci
            refine Ew_of (pcₚ := 130) (fun _ => x_aload_n rfl (rk_o (lc111_0) rfl rfl)) ?_
            refine Ew_of (pcₚ := 132) (fun _ => x_iload rfl rk_s) ?_
            refine w_inv H (o := 6) rfl rfl rfl (H.perm 6 rfl) rfl rfl (by rfl) (M422 H (wq110) (ewq111) (show inr (z109) from pz109_0) (show 1 ≤ (z109) ∧ (z109) ≤ 11 from pz109_1) (show CI ((wq110)) ((z109)) from pz109_2) (fun z116 σ F112 A113 H hS114 hA115 y117 ey118 pz116_0 pz116_1 pz116_2 => ⟨rfl, ?_⟩))
            have r119 : (0 : Int) ≤ y117 ∧ y117 ≤ 100000000 := rngE (show (0 : Int) ≤ F112 6 35 ∧ F112 6 35 ≤ 100000000 from H.frng 6 35) (show F112 6 35 = y117 from (ey118))
            refine Ew_of (pcₚ := 137) (fun _ => x_istore rfl) ?_
            refine Ew_of (pcₚ := 138) (fun _ => x_aload_n rfl (rk_o (rk_o (lc111_0) rfl rfl) rfl rfl)) ?_
            refine Ew_of (pcₚ := 139) (fun _ => x_aload_n rfl (rk_o (rk_o (lc111_0) rfl rfl) rfl rfl)) ?_
            refine w_gT H (o := 6) (t := 82) rfl (H.perm 6 rfl) rfl rfl rfl rfl rfl rfl ?_
            refine Ew_of (pcₚ := 144) (fun _ => x_iload rfl rk_s) ?_
            refine w_inv H (o := 6) rfl rfl rfl (H.perm 6 rfl) rfl rfl (by rfl) (M426_82 H (wq110) ((funext (hA115 82 rfl)).trans (ewq111)) (show inr (z116) from pz116_0) (show BD ((wq110)) by assumption) (show -2 ≤ (z116) ∧ (z116) ≤ 20000 from q_2278 pz116_1 pz116_2) (fun z124 σ F120 A121 H hS122 hA123 pz124_0 pz124_1 => ⟨rfl, ?_⟩))
            refine Ew_of (pcₚ := 149) (fun _ => x_istore rfl) ?_
            refine Ew_of (pcₚ := 150) (fun _ => x_aload_n rfl (rk_o (rk_o (rk_o (lc111_0) rfl rfl) rfl rfl) rfl rfl)) ?_
            refine Ew_of (pcₚ := 152) (fun _ => x_iload rfl rk_s) ?_
            refine w_inv H (o := 6) rfl rfl rfl (H.perm 6 rfl) rfl rfl (by rfl) (M429 H (show inr (z124) from pz124_0) (fun z129 σ F125 A126 H hS127 hA128 pz129_0 pz129_1 => ⟨rfl, ?_⟩))
            refine Ew_of (pcₚ := 157) (fun _ => x_istore rfl) ?_
            have hc182 : ∀ (ls : rO) (σ : rS) (F_c182 : hF) (A_c182 : hA) (xc182_4 : Int), rlook ls 0 = some (.ref (D 6)) → rlook ls 1 = some (I (F 6 30)) → rlook ls 2 = some (I (tc27_0)) → rlook ls 4 = some (I (xc182_4)) → rlook ls 5 = some (I (z109)) → rlook ls 7 = some (I (z124)) → rlook ls 8 = some (I (z129)) → HS σ0 σ D N F_c182 A_c182 → SF [] F125 F_c182 → SA [] A126 A_c182 → (inr (xc182_4)) → ((xc182_4) = 2 ∧ 1 ≤ (z116) ∧ 0 ≤ (z129) ∨ (xc182_4) = (xc111_4) ∧ (xc182_4) ≠ 2) → Ew 434 (d + 4) 182 ls [] σ c s Q := by
             as_aux_lemma =>
              intro  ls σ F_c182 A_c182 xc182_4 lc182_0 lc182_1 lc182_2 lc182_4 lc182_5 lc182_7 lc182_8 H hS_c182 hA_c182   jc182_0 jc182_1
              refine Ew_of (pcₚ := 184) (fun _ => x_iload rfl lc182_4) ?_
              refine Ew_of (pcₚ := 185) (fun _ => x_iconst rfl) ?_
              refine w_icmpne (t := 239) rfl rfl (show inr (xc182_4) from jc182_0) (show inr (2) from q_55) (fun b130 => ?_) (fun b130 => ?_)
              · have : (2 : Int) ≤ (xc182_4) → ∀ k, 0 ≤ k → k < (F 6 30) → ((w53)) (((A 65)) k) ≠ 0 := by first | exact (fun q => (show (xc182_4) = 3 → ∀ k, 0 ≤ k → k < (F 6 30) → ((w53)) (((A 65)) k) ≠ 0 from by assumption) (by omega)) | exact (fun q => (show xc111_4 = 3 → ∀ k, 0 ≤ k → k < (F 6 30) → ((w53)) (((A 65)) k) ≠ 0 from by assumption) (by omega)) | exact (fun _ k a b => by rw [j205_3 _ (hBl k).1 (by have := hBl k; omega)]; exact hcod k a b)
                have : (2 : Int) ≤ (xc182_4) → CI ((w53)) ((u6_12)) := by first | exact (fun q => (show (xc182_4) = 3 → CI ((w53)) ((u6_12)) from by assumption) (by omega)) | exact (fun q => (show xc111_4 = 3 → CI ((w53)) ((u6_12)) from jc111_5) (by omega)) | exact (fun _ => CI_congr hci (fun i a b => j205_3 i a (by omega)))
                have : WC ((u6_12)) ((w53)) := by first | assumption | exact .inr (CI_congr hci (fun i a b => j205_3 i a (by omega)))
                exact hc239  _ σ _ _ (xc182_4) (lc182_0) (lc182_1) (lc182_2) (lc182_4) H (SF_trans (SF_trans (SF_trans (SF_trans (SF_trans (SF_trans (SF_refl) hS101 (any_sub rfl)) hS107 (any_sub rfl)) hS114 (any_sub rfl)) hS122 (any_sub rfl)) hS127 (any_sub rfl)) hS_c182 (any_sub rfl)) (SA_trans (SA_trans (SA_trans (SA_trans (SA_trans (SA_trans (SA_refl) hA102 (any_subA rfl)) hA108 (any_subA rfl)) hA115 (any_subA rfl)) hA123 (any_subA rfl)) hA128 (any_subA rfl)) hA_c182 (any_subA rfl)) (u6_12) (((((((((((hS_c182 6 12 rfl).trans (hS127 6 12 rfl)).trans (hS122 6 12 rfl)).trans (hS114 6 12 rfl)).trans (hS107 6 12 rfl)).trans (hS101 6 12 rfl)).trans (hS_c111 6 12 rfl)).trans (hS_c56 6 12 rfl)).trans (hS_c27 6 12 rfl)).trans (eu6_12))) (u6_37) (((((((((((hS_c182 6 37 rfl).trans (hS127 6 37 rfl)).trans (hS122 6 37 rfl)).trans (hS114 6 37 rfl)).trans (hS107 6 37 rfl)).trans (hS101 6 37 rfl)).trans (hS_c111 6 37 rfl)).trans (hS_c56 6 37 rfl)).trans (hS_c27 6 37 rfl)).trans (eu6_37))) (w53) ((funext (hA_c182 53 rfl)).trans ((funext (hA128 53 rfl)).trans ((funext (hA123 53 rfl)).trans ((funext (hA115 53 rfl)).trans ((funext (hA108 53 rfl)).trans ((funext (hA102 53 rfl)).trans ((funext (hA_c111 53 rfl)).trans ((funext (hA_c56 53 rfl)).trans ((funext (hA_c27 53 rfl)).trans (ew53)))))))))) (show inr (xc182_4) from jc182_0) (show 0 ≤ (xc182_4) ∧ (xc182_4) ≤ 3 by omega) (show (xc182_4) ≠ 1 ∨ 1 ≤ (F 6 30) from q_2277 b98) (show 2 ≤ (xc182_4) → ∀ k, 0 ≤ k → k < (F 6 30) → ((w53)) (((A 65)) k) ≠ 0 by first | assumption | exact fun h => absurd rfl h | exact fun h => absurd h (by decide) | omega) (show 2 ≤ (xc182_4) → CI ((w53)) ((u6_12)) by first | assumption | exact fun h => absurd rfl h | exact fun h => absurd h (by decide) | omega) (show WC ((u6_12)) ((w53)) from hwc) (show (u6_37) ≤ (u6_37) ∧ (u6_37) ≤ (u6_37) + 300 from q_2274)
              · refine Ew_of (pcₚ := 189) (fun _ => x_aload_n rfl lc182_0) ?_
                refine Ew_of (pcₚ := 191) (fun _ => x_iload rfl lc182_4) ?_
                refine Ew_of (pcₚ := 193) (fun _ => x_iload rfl lc182_8) ?_
                refine Ew_of (pcₚ := 195) (fun _ => x_iload rfl lc182_7) ?_
                refine w_inv H (o := 6) rfl rfl rfl (H.perm 6 rfl) rfl rfl (by rfl) (M435b H (u6_37) (((((((((((hS_c182 6 37 rfl).trans (hS127 6 37 rfl)).trans (hS122 6 37 rfl)).trans (hS114 6 37 rfl)).trans (hS107 6 37 rfl)).trans (hS101 6 37 rfl)).trans (hS_c111 6 37 rfl)).trans (hS_c56 6 37 rfl)).trans (hS_c27 6 37 rfl)).trans (eu6_37))) (show inr (xc182_4) from jc182_0) (show inr (z129) from pz129_0) (show inr (z124) from pz124_0) (show -1 ≤ (z129) ∧ (z129) ≤ 3 from pz129_1) (show 0 ≤ (u6_37) ∧ (u6_37) ≤ 80000000 from q_2279 h1 r2) (fun σ F131 A132 H hS133 hA134 y136 ey137 pz135_0 => ⟨rfl, ?_⟩))
                have r138 : (0 : Int) ≤ y136 ∧ y136 ≤ 100000000 := rngE (show (0 : Int) ≤ F131 6 37 ∧ F131 6 37 ≤ 100000000 from H.frng 6 37) (show F131 6 37 = y136 from (ey137))
                refine Ew_of (pcₚ := 199) (fun _ => x_aload_n rfl lc182_0) ?_
                refine w_inv H (o := 6) rfl rfl rfl (H.perm 6 rfl) rfl rfl (by rfl) (M394 H (y117) ((((((hS133 6 35 rfl).trans (hS_c182 6 35 rfl)).trans (hS127 6 35 rfl)).trans (hS122 6 35 rfl)).trans (ey118))) (y136) ((ey137)) (show 0 ≤ (y117) ∧ (y117) ≤ 192000 by omega) (show 0 ≤ (y136) ∧ (y136) ≤ 90000000 by omega) (fun σ F139 A140 H hS141 hA142 y144 ey145 pz143_0 => ⟨rfl, ?_⟩))
                have r146 : (0 : Int) ≤ y144 ∧ y144 ≤ 100000000 := rngE (show (0 : Int) ≤ F139 6 37 ∧ F139 6 37 ≤ 100000000 from H.frng 6 37) (show F139 6 37 = y144 from (ey145))
                refine Ew_of (pcₚ := 203) (fun _ => x_iconst rfl) ?_
                refine Ew_of (pcₚ := 205) (fun _ => x_istore rfl) ?_
                have : ∀ i, (0 : Int) ≤ i → i < 0 → ((w53)) i = ((wq110)) i := fun i a b => absurd b (by omega)
                suffices hl205 : ∀ (m : Nat), ∀ (ls : rO) (σ : rS) (F_205 : hF) (A_205 : hA) (x205_9 : Int), rlook ls 0 = some (.ref (D 6)) → rlook ls 1 = some (I (F 6 30)) → rlook ls 2 = some (I (tc27_0)) → rlook ls 4 = some (I (xc182_4)) → rlook ls 5 = some (I (z109)) → rlook ls 9 = some (I (x205_9)) → HS σ0 σ D N F_205 A_205 → SF [] F139 F_205 → SA [53] A140 A_205 → ∀ w205_53 : Int → Int, A_205 53 = w205_53 → (inr (x205_9)) → ((0) ≤ (x205_9)) → ((x205_9) ≤ (0) ∨ (x205_9) ≤ ((256))) → (∀ i, 0 ≤ i → i < (x205_9) → ((w205_53)) i = ((wq110)) i) → (((256)) - (x205_9)).toNat = m → Ew 434 (d + 4) 205 ls [] σ c s Q from
                  hl205 _ _ σ _ _ (0) (rk_o (lc182_0) rfl rfl) (rk_o (lc182_1) rfl rfl) (rk_o (lc182_2) rfl rfl) (rk_o (lc182_4) rfl rfl) (rk_o (lc182_5) rfl rfl) (rk_s) H (SF_refl) (SA_refl)  (w53) ((funext (hA142 53 rfl)).trans ((funext (hA134 53 rfl)).trans ((funext (hA_c182 53 rfl)).trans ((funext (hA128 53 rfl)).trans ((funext (hA123 53 rfl)).trans ((funext (hA115 53 rfl)).trans ((funext (hA108 53 rfl)).trans ((funext (hA102 53 rfl)).trans ((funext (hA_c111 53 rfl)).trans ((funext (hA_c56 53 rfl)).trans ((funext (hA_c27 53 rfl)).trans (ew53)))))))))))) (show inr (0) from q_20) (show (0) ≤ (0) from q_25) (show (0) ≤ (0) ∨ (0) ≤ ((256)) from q_976) (show ∀ i, 0 ≤ i → i < (0) → ((w53)) i = ((wq110)) i by assumption) rfl
                as_aux_lemma =>
                intro m
                induction m using Nat.strongRecOn with
                | _ m ih205 =>
                  intro ls σ F_205 A_205 x205_9 l205_0 l205_1 l205_2 l205_4 l205_5 l205_9 H hS_205 hA_205  w205_53 ew205_53 j205_0 j205_1 j205_2 j205_3 hm205
                  refine Ew_of (pcₚ := 207) (fun _ => x_iload rfl l205_9) ?_
                  refine Ew_of (pcₚ := 210) (fun _ => x_sipush (z := 256) rfl (by decide)) ?_
                  refine w_icmpge (t := 233) rfl rfl (show inr (x205_9) from j205_0) (show inr (256) from q_716) (fun b147 => ?_) (fun b147 => ?_)
                  · have hBl : ∀ i, (0 : Int) ≤ (A 65) i ∧ (A 65) i ≤ 255 := fun i => by have h1 : (0 : Int) ≤ A_205 65 i ∧ A_205 65 i ≤ 255 := H.arng 65 i; rw [show A_205 65 = A 65 from (funext (hA_205 65 rfl)).trans ((funext (hA142 65 rfl)).trans ((funext (hA134 65 rfl)).trans ((funext (hA_c182 65 rfl)).trans ((funext (hA128 65 rfl)).trans ((funext (hA123 65 rfl)).trans ((funext (hA115 65 rfl)).trans ((funext (hA108 65 rfl)).trans ((funext (hA102 65 rfl)).trans ((funext (hA_c111 65 rfl)).trans ((funext (hA_c56 65 rfl)).trans (funext (hA_c27 65 rfl))))))))))))] at h1; exact h1
                    refine Ew_of (pcₚ := 234) (fun _ => x_aload_n rfl l205_0) ?_
                    refine Ew_of (pcₚ := 236) (fun _ => x_iload rfl l205_5) ?_
                    refine w_pI H (o := 6) rfl rfl (H.perm 6 rfl) rfl rfl rfl (fun _ => rfl) rfl (show (0 : Int) ≤ z109 ∧ z109 ≤ 11 from q_2250 pz109_1) (fun σ H => ?_)
                    have : (2 : Int) ≤ (xc182_4) → ∀ k, 0 ≤ k → k < (F 6 30) → ((w205_53)) (((A 65)) k) ≠ 0 := by first | exact (fun q => (show (xc182_4) = 3 → ∀ k, 0 ≤ k → k < (F 6 30) → ((w205_53)) (((A 65)) k) ≠ 0 from by assumption) (by omega)) | exact (fun q => (show xc111_4 = 3 → ∀ k, 0 ≤ k → k < (F 6 30) → ((w205_53)) (((A 65)) k) ≠ 0 from by assumption) (by omega)) | exact (fun _ k a b => by rw [j205_3 _ (hBl k).1 (by have := hBl k; omega)]; exact hcod k a b)
                    have : (2 : Int) ≤ (xc182_4) → CI ((w205_53)) ((z109)) := by first | exact (fun q => (show (xc182_4) = 3 → CI ((w205_53)) ((z109)) from by assumption) (by omega)) | exact (fun q => (show xc111_4 = 3 → CI ((w205_53)) ((z109)) from by assumption) (by omega)) | exact (fun _ => CI_congr hci (fun i a b => j205_3 i a (by omega)))
                    have : WC ((z109)) ((w205_53)) := by first | assumption | exact .inr (CI_congr hci (fun i a b => j205_3 i a (by omega)))
                    exact hc239  _ σ _ _ (xc182_4) (l205_0) (l205_1) (l205_2) (l205_4) H (SF_upd (SF_trans (SF_trans (SF_trans (SF_trans (SF_trans (SF_trans (SF_trans (SF_trans (SF_trans (SF_refl) hS101 (any_sub rfl)) hS107 (any_sub rfl)) hS114 (any_sub rfl)) hS122 (any_sub rfl)) hS127 (any_sub rfl)) hS_c182 (any_sub rfl)) hS133 (any_sub rfl)) hS141 (any_sub rfl)) hS_205 (any_sub rfl)) rfl) (SA_trans (SA_trans (SA_trans (SA_trans (SA_trans (SA_trans (SA_trans (SA_trans (SA_trans (SA_refl) hA102 (any_subA rfl)) hA108 (any_subA rfl)) hA115 (any_subA rfl)) hA123 (any_subA rfl)) hA128 (any_subA rfl)) hA_c182 (any_subA rfl)) hA134 (any_subA rfl)) hA142 (any_subA rfl)) hA_205 (any_subA rfl)) (z109) (rfl) (y144) (((hS_205 6 37 rfl).trans (ey145))) (w205_53) (ew205_53) (show inr (xc182_4) from jc182_0) (show 0 ≤ (xc182_4) ∧ (xc182_4) ≤ 3 from q_2281 b130) (show (xc182_4) ≠ 1 ∨ 1 ≤ (F 6 30) from q_2280 b130) (show 2 ≤ (xc182_4) → ∀ k, 0 ≤ k → k < (F 6 30) → ((w205_53)) (((A 65)) k) ≠ 0 by first | assumption | exact fun h => absurd rfl h | exact fun h => absurd h (by decide) | omega) (show 2 ≤ (xc182_4) → CI ((w205_53)) ((z109)) by first | assumption | exact fun h => absurd rfl h | exact fun h => absurd h (by decide) | omega) (show WC ((z109)) ((w205_53)) by assumption) (show (u6_37) ≤ (y144) ∧ (y144) ≤ (u6_37) + 300 by omega)
                  · have hdb := hbd2 ((x205_9)) (by omega) (by omega)
                    refine Ew_of (pcₚ := 214) (fun _ => x_aload_n rfl l205_0) ?_
                    refine w_gT H (o := 6) (t := 53) rfl (H.perm 6 rfl) rfl rfl rfl rfl rfl rfl ?_
                    refine Ew_of (pcₚ := 219) (fun _ => x_iload rfl l205_9) ?_
                    refine Ew_of (pcₚ := 220) (fun _ => x_aload_n rfl l205_0) ?_
                    refine w_gT H (o := 6) (t := 82) rfl (H.perm 6 rfl) rfl rfl rfl rfl rfl rfl ?_
                    refine Ew_of (pcₚ := 225) (fun _ => x_iload rfl l205_9) ?_
                    refine w_lI H (o := 82) (n := 256) rfl (H.perm 82 rfl) rfl rfl (H.fix 82 rfl rfl) (show 0 ≤ x205_9 ∧ x205_9 < ((256 : Nat) : Int) from q_1030 b147 j205_1) (by decide) (fun v148 ev148 qv148 => ?_)
                    have qv148 : (-2147483648 : Int) ≤ v148 ∧ v148 ≤ 2147483647 := qv148
                    have ev148 : (wq110) (x205_9) = v148 := (congrFun ((funext (hA_205 82 rfl)).trans ((funext (hA142 82 rfl)).trans ((funext (hA134 82 rfl)).trans ((funext (hA_c182 82 rfl)).trans ((funext (hA128 82 rfl)).trans ((funext (hA123 82 rfl)).trans ((funext (hA115 82 rfl)).trans (ewq111)))))))) (x205_9)).symm.trans ev148
                    refine w_sI H (o := 53) (n := 256) rfl (H.perm 53 rfl) rfl rfl (H.fix 53 rfl rfl) (show 0 ≤ x205_9 ∧ x205_9 < ((256 : Nat) : Int) from q_1030 b147 j205_1) (by decide) (show (0 : Int) ≤ v148 ∧ v148 ≤ 11 by omega) (fun σ H => ?_)
                    refine Ew_of (pcₚ := 230) (fun _ => x_iinc (len := 3) rfl (l205_9)) ?_
                    refine Ew_of (pcₚ := 205) (fun _ => x_goto rfl rfl) ?_
                    have : ∀ i, (0 : Int) ≤ i → i < ((x205_9 + 1)) → ((upd1 (w205_53) (x205_9) (v148))) i = ((wq110)) i := pt_copy j205_3 (by omega)
                    exact ih205 _ (msE hm205 q_1033 (q_1034 b147)) _ σ _ _ ((x205_9 + 1)) (rk_o (l205_0) rfl rfl) (rk_o (l205_1) rfl rfl) (rk_o (l205_2) rfl rfl) (rk_o (l205_4) rfl rfl) (rk_o (l205_5) rfl rfl) (rk_s) H (hS_205) (SA_upd (hA_205) rfl)  (upd1 (w205_53) (x205_9) (v148)) (congrArg (fun q => upd1 q (x205_9) (v148)) (ew205_53)) (show inr ((x205_9 + 1)) from q_1032 b147 j205_1) (show (0) ≤ ((x205_9 + 1)) from q_29 j205_1) (show ((x205_9 + 1)) ≤ (0) ∨ ((x205_9 + 1)) ≤ ((256)) from q_1031 b147) (show ∀ i, 0 ≤ i → i < ((x205_9 + 1)) → ((upd1 (w205_53) (x205_9) (v148))) i = ((wq110)) i by assumption) rfl
            refine Ew_of (pcₚ := 159) (fun _ => x_iload rfl (rk_o (rk_o (rk_s) rfl rfl) rfl rfl)) ?_
            refine w_ifle (t := 182) rfl rfl (show inr (z116) from pz116_0) (fun b149 => ?_) (fun b149 => ?_)
            · exact hc182  _ σ _ _ (xc111_4) (rk_o (rk_o (rk_o (rk_o (lc111_0) rfl rfl) rfl rfl) rfl rfl) rfl rfl) (rk_o (rk_o (rk_o (rk_o (lc111_1) rfl rfl) rfl rfl) rfl rfl) rfl rfl) (rk_o (rk_o (rk_o (rk_o (lc111_2) rfl rfl) rfl rfl) rfl rfl) rfl rfl) (rk_o (rk_o (rk_o (rk_o (lc111_4) rfl rfl) rfl rfl) rfl rfl) rfl rfl) (rk_o (rk_o (rk_o (rk_s) rfl rfl) rfl rfl) rfl rfl) (rk_o (rk_s) rfl rfl) (rk_s) H (SF_refl) (SA_refl)   (show inr (xc111_4) from jc111_1) (show (xc111_4) = 2 ∧ 1 ≤ (z116) ∧ 0 ≤ (z129) ∨ (xc111_4) = (xc111_4) ∧ (xc111_4) ≠ 2 by omega)
            · refine Ew_of (pcₚ := 164) (fun _ => x_iload rfl rk_s) ?_
              refine w_iflt (t := 182) rfl rfl (show inr (z129) from pz129_0) (fun b150 => ?_) (fun b150 => ?_)
              · exact hc182  _ σ _ _ (xc111_4) (rk_o (rk_o (rk_o (rk_o (lc111_0) rfl rfl) rfl rfl) rfl rfl) rfl rfl) (rk_o (rk_o (rk_o (rk_o (lc111_1) rfl rfl) rfl rfl) rfl rfl) rfl rfl) (rk_o (rk_o (rk_o (rk_o (lc111_2) rfl rfl) rfl rfl) rfl rfl) rfl rfl) (rk_o (rk_o (rk_o (rk_o (lc111_4) rfl rfl) rfl rfl) rfl rfl) rfl rfl) (rk_o (rk_o (rk_o (rk_s) rfl rfl) rfl rfl) rfl rfl) (rk_o (rk_s) rfl rfl) (rk_s) H (SF_refl) (SA_refl)   (show inr (xc111_4) from jc111_1) (show (xc111_4) = 2 ∧ 1 ≤ (z116) ∧ 0 ≤ (z129) ∨ (xc111_4) = (xc111_4) ∧ (xc111_4) ≠ 2 by omega)
              · refine Ew_of (pcₚ := 169) (fun _ => x_iload rfl rk_s) ?_
                refine w_stat24 rfl rfl (by rfl) (M428 H (show inr (z129) from pz129_0) (fun z155 σ F151 A152 H hS153 hA154 pz155_0 pz155_1 => ⟨rfl, ?_⟩))
                refine Ew_of (pcₚ := 174) (fun _ => x_iload rfl (rk_o (rk_s) rfl rfl)) ?_
                refine w_iadd rfl ?_
                refine Ew_of (pcₚ := 176) (fun _ => x_iload_n rfl (rk_o (rk_o (rk_o (rk_o (lc111_3) rfl rfl) rfl rfl) rfl rfl) rfl rfl)) ?_
                refine w_icmpge (t := 182) rfl rfl (show inr ((z155 + z124)) from q_2282 pz124_0 pz124_1 pz155_1) (show inr (xc111_3) from jc111_0) (fun b156 => ?_) (fun b156 => ?_)
                · exact hc182  _ σ _ _ (xc111_4) (rk_o (rk_o (rk_o (rk_o (lc111_0) rfl rfl) rfl rfl) rfl rfl) rfl rfl) (rk_o (rk_o (rk_o (rk_o (lc111_1) rfl rfl) rfl rfl) rfl rfl) rfl rfl) (rk_o (rk_o (rk_o (rk_o (lc111_2) rfl rfl) rfl rfl) rfl rfl) rfl rfl) (rk_o (rk_o (rk_o (rk_o (lc111_4) rfl rfl) rfl rfl) rfl rfl) rfl rfl) (rk_o (rk_o (rk_o (rk_s) rfl rfl) rfl rfl) rfl rfl) (rk_o (rk_s) rfl rfl) (rk_s) H (SF_trans (SF_refl) hS153 (any_sub rfl)) (SA_trans (SA_refl) hA154 (any_subA rfl))   (show inr (xc111_4) from jc111_1) (show (xc111_4) = 2 ∧ 1 ≤ (z116) ∧ 0 ≤ (z129) ∨ (xc111_4) = (xc111_4) ∧ (xc111_4) ≠ 2 by omega)
                · refine Ew_of (pcₚ := 180) (fun _ => x_iconst rfl) ?_
                  refine Ew_of (pcₚ := 182) (fun _ => x_istore rfl) ?_
                  exact hc182  _ σ _ _ (2) (rk_o (rk_o (rk_o (rk_o (rk_o (lc111_0) rfl rfl) rfl rfl) rfl rfl) rfl rfl) rfl rfl) (rk_o (rk_o (rk_o (rk_o (rk_o (lc111_1) rfl rfl) rfl rfl) rfl rfl) rfl rfl) rfl rfl) (rk_o (rk_o (rk_o (rk_o (rk_o (lc111_2) rfl rfl) rfl rfl) rfl rfl) rfl rfl) rfl rfl) (rk_s) (rk_o (rk_o (rk_o (rk_o (rk_s) rfl rfl) rfl rfl) rfl rfl) rfl rfl) (rk_o (rk_o (rk_s) rfl rfl) rfl rfl) (rk_o (rk_s) rfl rfl) H (SF_trans (SF_refl) hS153 (any_sub rfl)) (SA_trans (SA_refl) hA154 (any_subA rfl))   (show inr (2) from q_55) (show (2) = 2 ∧ 1 ≤ (z116) ∧ 0 ≤ (z129) ∨ (2) = (xc111_4) ∧ (2) ≠ 2 from q_2283 b149 b150)
      refine Ew_of (pcₚ := 57) (fun _ => x_aload_n rfl lc56_0) ?_
      refine w_inv H (o := 6) rfl rfl rfl (H.perm 6 rfl) rfl rfl (by rfl) (M433 H (u6_12) ((((hS_c56 6 12 rfl).trans (hS_c27 6 12 rfl)).trans (eu6_12))) (F 6 30) (((hS_c56 6 30 rfl).trans (hS_c27 6 30 rfl))) (w53) ((funext (hA_c56 53 rfl)).trans ((funext (hA_c27 53 rfl)).trans (ew53))) (A 65) ((funext (hA_c56 65 rfl)).trans (funext (hA_c27 65 rfl)))  (fun z161 σ F157 A158 H hS159 hA160 pz161_0 pz161_1 pz161_2 => ⟨rretB rfl pz161_0, ?_⟩))
      refine w_ifeq (t := 111) rfl rfl (show inr (z161) from q_15 pz161_0) (fun b162 => ?_) (fun b162 => ?_)
      · have : ((xc56_4) : Int) = 3 → ∀ k, 0 ≤ k → k < (F 6 30) → ((w53)) (((A 65)) k) ≠ 0 := by first | exact (fun q => absurd q (by omega)) | exact (fun _ => pz161_2 (by omega))
        have : ((xc56_4) : Int) = 3 → CI ((w53)) ((u6_12)) := by first | exact (fun q => absurd q (by omega)) | exact (fun _ => by rcases hwc with q | q; (have := pz161_1 (by omega); omega); exact q)
        exact hc111  _ σ _ _ (xc56_3) (xc56_4) (lc56_0) (lc56_1) (lc56_2) (lc56_3) (lc56_4) H (SF_trans (SF_refl) hS159 (any_sub rfl)) (SA_trans (SA_refl) hA160 (any_subA rfl))   (show inr (xc56_3) from jc56_0) (show inr (xc56_4) from jc56_1) (show (xc56_4) = 0 ∨ (xc56_4) = 1 ∧ 1 ≤ (F 6 30) ∨ (xc56_4) = 3 by omega) (show 0 ≤ (xc56_3) ∧ (xc56_3) ≤ 100000 from q_2284 jc56_3) (show (xc56_4) = 3 → ∀ k, 0 ≤ k → k < (F 6 30) → ((w53)) (((A 65)) k) ≠ 0 by first | assumption | exact fun h => absurd rfl h | exact fun h => absurd h (by decide) | omega) (show (xc56_4) = 3 → CI ((w53)) ((u6_12)) by first | assumption | exact fun h => absurd rfl h | exact fun h => absurd h (by decide) | omega)
      · refine Ew_of (pcₚ := 64) (fun _ => x_aload_n rfl lc56_0) ?_
        refine Ew_of (pcₚ := 65) (fun _ => x_aload_n rfl lc56_0) ?_
        refine w_gT H (o := 6) (t := 53) rfl (H.perm 6 rfl) rfl rfl rfl rfl rfl rfl ?_
        refine Ew_of (pcₚ := 69) (fun _ => x_iconst rfl) ?_
        refine w_inv H (o := 6) rfl rfl rfl (H.perm 6 rfl) rfl rfl (by rfl) (M426_53 H (w53) ((funext (hA160 53 rfl)).trans ((funext (hA_c56 53 rfl)).trans ((funext (hA_c27 53 rfl)).trans (ew53)))) (show inr (0) from q_20) (show BD ((w53)) from hbd) (show -2 ≤ (0) ∧ (0) ≤ 20000 from q_2265) (fun z167 σ F163 A164 H hS165 hA166 pz167_0 pz167_1 => ⟨rfl, ?_⟩))
        refine Ew_of (pcₚ := 74) (fun _ => x_istore rfl) ?_
        refine Ew_of (pcₚ := 75) (fun _ => x_aload_n rfl (rk_o (lc56_0) rfl rfl)) ?_
        refine Ew_of (pcₚ := 77) (fun _ => x_iload rfl rk_s) ?_
        refine w_inv H (o := 6) rfl rfl rfl (H.perm 6 rfl) rfl rfl (by rfl) (M429 H (show inr (z167) from pz167_0) (fun z172 σ F168 A169 H hS170 hA171 pz172_0 pz172_1 => ⟨rfl, ?_⟩))
        refine Ew_of (pcₚ := 82) (fun _ => x_istore rfl) ?_
        refine Ew_of (pcₚ := 84) (fun _ => x_iload rfl rk_s) ?_
        refine w_iflt (t := 111) rfl rfl (show inr (z172) from pz172_0) (fun b173 => ?_) (fun b173 => ?_)
        · have : ((xc56_4) : Int) = 3 → ∀ k, 0 ≤ k → k < (F 6 30) → ((w53)) (((A 65)) k) ≠ 0 := by first | exact (fun q => absurd q (by omega)) | exact (fun _ => pz161_2 (by omega))
          have : ((xc56_4) : Int) = 3 → CI ((w53)) ((u6_12)) := by first | exact (fun q => absurd q (by omega)) | exact (fun _ => by rcases hwc with q | q; (have := pz161_1 (by omega); omega); exact q)
          exact hc111  _ σ _ _ (xc56_3) (xc56_4) (rk_o (rk_o (lc56_0) rfl rfl) rfl rfl) (rk_o (rk_o (lc56_1) rfl rfl) rfl rfl) (rk_o (rk_o (lc56_2) rfl rfl) rfl rfl) (rk_o (rk_o (lc56_3) rfl rfl) rfl rfl) (rk_o (rk_o (lc56_4) rfl rfl) rfl rfl) H (SF_trans (SF_trans (SF_trans (SF_refl) hS159 (any_sub rfl)) hS165 (any_sub rfl)) hS170 (any_sub rfl)) (SA_trans (SA_trans (SA_trans (SA_refl) hA160 (any_subA rfl)) hA166 (any_subA rfl)) hA171 (any_subA rfl))   (show inr (xc56_3) from jc56_0) (show inr (xc56_4) from jc56_1) (show (xc56_4) = 0 ∨ (xc56_4) = 1 ∧ 1 ≤ (F 6 30) ∨ (xc56_4) = 3 by omega) (show 0 ≤ (xc56_3) ∧ (xc56_3) ≤ 100000 from q_2284 jc56_3) (show (xc56_4) = 3 → ∀ k, 0 ≤ k → k < (F 6 30) → ((w53)) (((A 65)) k) ≠ 0 by first | assumption | exact fun h => absurd rfl h | exact fun h => absurd h (by decide) | omega) (show (xc56_4) = 3 → CI ((w53)) ((u6_12)) by first | assumption | exact fun h => absurd rfl h | exact fun h => absurd h (by decide) | omega)
        · refine Ew_of (pcₚ := 89) (fun _ => x_iload rfl rk_s) ?_
          refine w_stat24 rfl rfl (by rfl) (M428 H (show inr (z172) from pz172_0) (fun z178 σ F174 A175 H hS176 hA177 pz178_0 pz178_1 => ⟨rfl, ?_⟩))
          refine Ew_of (pcₚ := 94) (fun _ => x_iload rfl (rk_o (rk_s) rfl rfl)) ?_
          refine w_iadd rfl ?_
          refine Ew_of (pcₚ := 96) (fun _ => x_iload_n rfl (rk_o (rk_o (lc56_3) rfl rfl) rfl rfl)) ?_
          refine w_icmpge (t := 111) rfl rfl (show inr ((z178 + z167)) from q_2285 pz167_1 pz178_1) (show inr (xc56_3) from jc56_0) (fun b179 => ?_) (fun b179 => ?_)
          · have : ((xc56_4) : Int) = 3 → ∀ k, 0 ≤ k → k < (F 6 30) → ((w53)) (((A 65)) k) ≠ 0 := by first | exact (fun q => absurd q (by omega)) | exact (fun _ => pz161_2 (by omega))
            have : ((xc56_4) : Int) = 3 → CI ((w53)) ((u6_12)) := by first | exact (fun q => absurd q (by omega)) | exact (fun _ => by rcases hwc with q | q; (have := pz161_1 (by omega); omega); exact q)
            exact hc111  _ σ _ _ (xc56_3) (xc56_4) (rk_o (rk_o (lc56_0) rfl rfl) rfl rfl) (rk_o (rk_o (lc56_1) rfl rfl) rfl rfl) (rk_o (rk_o (lc56_2) rfl rfl) rfl rfl) (rk_o (rk_o (lc56_3) rfl rfl) rfl rfl) (rk_o (rk_o (lc56_4) rfl rfl) rfl rfl) H (SF_trans (SF_trans (SF_trans (SF_trans (SF_refl) hS159 (any_sub rfl)) hS165 (any_sub rfl)) hS170 (any_sub rfl)) hS176 (any_sub rfl)) (SA_trans (SA_trans (SA_trans (SA_trans (SA_refl) hA160 (any_subA rfl)) hA166 (any_subA rfl)) hA171 (any_subA rfl)) hA177 (any_subA rfl))   (show inr (xc56_3) from jc56_0) (show inr (xc56_4) from jc56_1) (show (xc56_4) = 0 ∨ (xc56_4) = 1 ∧ 1 ≤ (F 6 30) ∨ (xc56_4) = 3 by omega) (show 0 ≤ (xc56_3) ∧ (xc56_3) ≤ 100000 from q_2284 jc56_3) (show (xc56_4) = 3 → ∀ k, 0 ≤ k → k < (F 6 30) → ((w53)) (((A 65)) k) ≠ 0 by first | assumption | exact fun h => absurd rfl h | exact fun h => absurd h (by decide) | omega) (show (xc56_4) = 3 → CI ((w53)) ((u6_12)) by first | assumption | exact fun h => absurd rfl h | exact fun h => absurd h (by decide) | omega)
          · refine Ew_of (pcₚ := 101) (fun _ => x_iload rfl rk_s) ?_
            refine w_stat24 rfl rfl (by rfl) (M428 H (show inr (z172) from pz172_0) (fun z184 σ F180 A181 H hS182 hA183 pz184_0 pz184_1 => ⟨rfl, ?_⟩))
            refine Ew_of (pcₚ := 106) (fun _ => x_iload rfl (rk_o (rk_s) rfl rfl)) ?_
            refine w_iadd rfl ?_
            refine Ew_of (pcₚ := 108) (fun _ => x_istore_n rfl) ?_
            refine Ew_of (pcₚ := 109) (fun _ => x_iconst rfl) ?_
            refine Ew_of (pcₚ := 111) (fun _ => x_istore rfl) ?_
            have : ((3) : Int) = 3 → ∀ k, 0 ≤ k → k < (F 6 30) → ((w53)) (((A 65)) k) ≠ 0 := by first | exact (fun q => absurd q (by omega)) | exact (fun _ => pz161_2 (by omega))
            have : ((3) : Int) = 3 → CI ((w53)) ((u6_12)) := by first | exact (fun q => absurd q (by omega)) | exact (fun _ => by rcases hwc with q | q; (have := pz161_1 (by omega); omega); exact q)
            exact hc111  _ σ _ _ ((z184 + z167)) (3) (rk_o (rk_o (rk_o (rk_o (lc56_0) rfl rfl) rfl rfl) rfl rfl) rfl rfl) (rk_o (rk_o (rk_o (rk_o (lc56_1) rfl rfl) rfl rfl) rfl rfl) rfl rfl) (rk_o (rk_o (rk_o (rk_o (lc56_2) rfl rfl) rfl rfl) rfl rfl) rfl rfl) (rk_o (rk_s) rfl rfl) (rk_s) H (SF_trans (SF_trans (SF_trans (SF_trans (SF_trans (SF_refl) hS159 (any_sub rfl)) hS165 (any_sub rfl)) hS170 (any_sub rfl)) hS176 (any_sub rfl)) hS182 (any_sub rfl)) (SA_trans (SA_trans (SA_trans (SA_trans (SA_trans (SA_refl) hA160 (any_subA rfl)) hA166 (any_subA rfl)) hA171 (any_subA rfl)) hA177 (any_subA rfl)) hA183 (any_subA rfl))   (show inr ((z184 + z167)) from q_2285 pz167_1 pz184_1) (show inr (3) from q_66) (show (3) = 0 ∨ (3) = 1 ∧ 1 ≤ (F 6 30) ∨ (3) = 3 from q_2287) (show 0 ≤ ((z184 + z167)) ∧ ((z184 + z167)) ≤ 100000 from q_2286 pz167_1 pz184_1) (show (3) = 3 → ∀ k, 0 ≤ k → k < (F 6 30) → ((w53)) (((A 65)) k) ≠ 0 by first | assumption | exact fun h => absurd rfl h | exact fun h => absurd h (by decide) | omega) (show (3) = 3 → CI ((w53)) ((u6_12)) by first | assumption | exact fun h => absurd rfl h | exact fun h => absurd h (by decide) | omega)
    refine Ew_of (pcₚ := 36) (fun _ => x_aload_n rfl (rk_o (rk_o (rk_o (lc27_0) rfl rfl) rfl rfl) rfl rfl)) ?_
    refine w_inv H (o := 6) rfl rfl rfl (H.perm 6 rfl) rfl rfl (by rfl) (M432 H (F 6 30) ((hS_c27 6 30 rfl)) (A 65) (funext (hA_c27 65 rfl))  (fun z189 σ F185 A186 H hS187 hA188 pz189_0 pz189_1 pz189_2 => ⟨rretB rfl pz189_0, ?_⟩))
    refine w_ifeq (t := 56) rfl rfl (show inr (z189) from q_15 pz189_0) (fun b190 => ?_) (fun b190 => ?_)
    · exact hc56  _ σ _ _ ((tc27_0 + F 6 30)) (0) (rk_o (rk_o (rk_o (lc27_0) rfl rfl) rfl rfl) rfl rfl) (rk_o (rk_o (rk_o (lc27_1) rfl rfl) rfl rfl) rfl rfl) (rk_o (rk_o (rk_s) rfl rfl) rfl rfl) (rk_o (rk_s) rfl rfl) (rk_s) H (SF_trans (SF_refl) hS187 (any_sub rfl)) (SA_trans (SA_refl) hA188 (any_subA rfl))   (show inr ((tc27_0 + F 6 30)) from q_2290 jc27_0 jc27_1 r3) (show inr (0) from q_20) (show (0) = 0 ∨ (0) = 1 ∧ 1 ≤ (F 6 30) from q_2289) (show 0 ≤ ((tc27_0 + F 6 30)) ∧ ((tc27_0 + F 6 30)) ≤ 20000 from q_2288 jc27_1 r3)
    · refine Ew_of (pcₚ := 43) (fun _ => x_iload_n rfl (rk_o (rk_o (rk_s) rfl rfl) rfl rfl)) ?_
      refine Ew_of (pcₚ := 44) (fun _ => x_iconst rfl) ?_
      refine w_iadd rfl ?_
      refine Ew_of (pcₚ := 46) (fun _ => x_iload_n rfl (rk_o (rk_s) rfl rfl)) ?_
      refine w_icmpge (t := 56) rfl rfl (show inr ((tc27_0 + 1)) from q_2291 jc27_0 jc27_1) (show inr ((tc27_0 + F 6 30)) from q_2290 jc27_0 jc27_1 r3) (fun b191 => ?_) (fun b191 => ?_)
      · exact hc56  _ σ _ _ ((tc27_0 + F 6 30)) (0) (rk_o (rk_o (rk_o (lc27_0) rfl rfl) rfl rfl) rfl rfl) (rk_o (rk_o (rk_o (lc27_1) rfl rfl) rfl rfl) rfl rfl) (rk_o (rk_o (rk_s) rfl rfl) rfl rfl) (rk_o (rk_s) rfl rfl) (rk_s) H (SF_trans (SF_refl) hS187 (any_sub rfl)) (SA_trans (SA_refl) hA188 (any_subA rfl))   (show inr ((tc27_0 + F 6 30)) from q_2293 b191 jc27_0 jc27_1 r3) (show inr (0) from q_20) (show (0) = 0 ∨ (0) = 1 ∧ 1 ≤ (F 6 30) from q_2289) (show 0 ≤ ((tc27_0 + F 6 30)) ∧ ((tc27_0 + F 6 30)) ≤ 20000 from q_2292 b191 jc27_1 r3)
      · refine Ew_of (pcₚ := 50) (fun _ => x_iload_n rfl (rk_o (rk_o (rk_s) rfl rfl) rfl rfl)) ?_
        refine Ew_of (pcₚ := 51) (fun _ => x_iconst rfl) ?_
        refine w_iadd rfl ?_
        refine Ew_of (pcₚ := 53) (fun _ => x_istore_n rfl) ?_
        refine Ew_of (pcₚ := 54) (fun _ => x_iconst rfl) ?_
        refine Ew_of (pcₚ := 56) (fun _ => x_istore rfl) ?_
        exact hc56  _ σ _ _ ((tc27_0 + 1)) (1) (rk_o (rk_o (rk_o (rk_o (rk_o (lc27_0) rfl rfl) rfl rfl) rfl rfl) rfl rfl) rfl rfl) (rk_o (rk_o (rk_o (rk_o (rk_o (lc27_1) rfl rfl) rfl rfl) rfl rfl) rfl rfl) rfl rfl) (rk_o (rk_o (rk_o (rk_o (rk_s) rfl rfl) rfl rfl) rfl rfl) rfl rfl) (rk_o (rk_s) rfl rfl) (rk_s) H (SF_trans (SF_refl) hS187 (any_sub rfl)) (SA_trans (SA_refl) hA188 (any_subA rfl))   (show inr ((tc27_0 + 1)) from q_2291 jc27_0 jc27_1) (show inr (1) from q_23) (show (1) = 0 ∨ (1) = 1 ∧ 1 ≤ (F 6 30) from q_2295 b191) (show 0 ≤ ((tc27_0 + 1)) ∧ ((tc27_0 + 1)) ≤ 20000 from q_2294 jc27_1)
  refine w_icmpge (t := 15) rfl rfl (show inr (F 6 30) from q_1839 r3) (show inr (32) from q_417) (fun b192 => ?_) (fun b192 => ?_)
  · refine Ew_of (pcₚ := 16) (fun _ => x_iload_n rfl rk_s) ?_
    refine Ew_of (pcₚ := 19) (fun _ => x_sipush (z := 4096) rfl (by decide)) ?_
    refine w_icmpge (t := 26) rfl rfl (show inr (F 6 30) from q_2297 b192 r3) (show inr (4096) from q_2296) (fun b193 => ?_) (fun b193 => ?_)
    · refine Ew_of (pcₚ := 27) (fun _ => x_iconst rfl) ?_
      exact hc27 (3) _ σ _ _  (rk_o (rfl) rfl rfl) (rk_s) H (SF_refl) (SA_refl)   (show inr (3) from q_66) (show ((F 6 30) ≥ (32) ∧ (F 6 30) ≥ (4096) ∧ (3) = (3)) ∨ ((F 6 30) ≥ (32) ∧ (F 6 30) < (4096) ∧ (3) = (2)) ∨ ((F 6 30) < (32) ∧ (3) = (1)) from q_2298 b193)
    · refine Ew_of (pcₚ := 23) (fun _ => x_iconst rfl) ?_
      refine Ew_of (pcₚ := 27) (fun _ => x_goto rfl rfl) ?_
      exact hc27 (2) _ σ _ _  (rk_o (rfl) rfl rfl) (rk_s) H (SF_refl) (SA_refl)   (show inr (2) from q_55) (show ((F 6 30) ≥ (32) ∧ (F 6 30) ≥ (4096) ∧ (2) = (3)) ∨ ((F 6 30) ≥ (32) ∧ (F 6 30) < (4096) ∧ (2) = (2)) ∨ ((F 6 30) < (32) ∧ (2) = (1)) from q_2299 b192 b193)
  · refine Ew_of (pcₚ := 12) (fun _ => x_iconst rfl) ?_
    refine Ew_of (pcₚ := 27) (fun _ => x_goto rfl rfl) ?_
    exact hc27 (1) _ σ _ _  (rk_o (rfl) rfl rfl) (rk_s) H (SF_refl) (SA_refl)   (show inr (1) from q_23) (show ((F 6 30) ≥ (32) ∧ (F 6 30) ≥ (4096) ∧ (1) = (3)) ∨ ((F 6 30) ≥ (32) ∧ (F 6 30) < (4096) ∧ (1) = (2)) ∨ ((F 6 30) < (32) ∧ (1) = (1)) from q_2300 b192)
