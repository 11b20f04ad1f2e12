section
/-! 99b.ref -/
theorem M84p {σ0 σ : rS} {D N : Nat → Nat} {F : hF} {A : hA} {d c s : Nat} {Q : wQ} (H : HS σ0 σ D N F A) {a1 a2 : Int} (u1_1 : Int) (eu1_1 : F 1 1 = u1_1) (u3_2 : Int) (eu3_2 : F 3 2 = u3_2) (u5_2 : Int) (eu5_2 : F 5 2 = u5_2) (u5_3 : Int) (eu5_3 : F 5 3 = u5_3) (u5_4 : Int) (eu5_4 : F 5 4 = u5_4) (u5_27 : Int) (eu5_27 : F 5 27 = u5_27) (u5_32 : Int) (eu5_32 : F 5 32 = u5_32) (u5_33 : Int) (eu5_33 : F 5 33 = u5_33) (u5_34 : Int) (eu5_34 : F 5 34 = u5_34) (u5_36 : Int) (eu5_36 : F 5 36 = u5_36) (w14 : Int → Int) (ew14 : A 14 = w14) (w16 : Int → Int) (ew16 : A 16 = w16) (w26 : Int → Int) (ew26 : A 26 = w26) (w27 : Int → Int) (ew27 : A 27 = w27) (w28 : Int → Int) (ew28 : A 28 = w28) (w29 : Int → Int) (ew29 : A 29 = w29) (w30 : Int → Int) (ew30 : A 30 = w30) (w34 : Int → Int) (ew34 : A 34 = w34) (w35 : Int → Int) (ew35 : A 35 = w35) (w36 : Int → Int) (ew36 : A 36 = w36) (w37 : Int → Int) (ew37 : A 37 = w37) (Dc : DcS) (h0 : inr (a1)) (h1 : inr (a2)) (h2 : 0 ≤ (a1) ∧ (a1) ≤ 4 ∧ 0 ≤ (a2) ∧ (a2) ≤ 65536) (h3 : RT ((w35)) ((w36)) ((w37)) ((w34))) (h4 : DI ((u5_4)) ((w27)) ((w28)) ((w29)) ((w30))) (h5 : RDI Dc ((u5_4)) ((u5_3)) ((w26)) ((u5_2)) ((w27)) ((w28)) ((w29)) ((w30))) (h6 : DCo Dc) (k : ∀ (z : Int) σ Fₚ Aₚ, HS σ0 σ D N Fₚ Aₚ → SF [(1, 3), (1, 4), (3, 12), (3, 14), (3, 15), (3, 16), (4, 2), (4, 8), (4, 9), (4, 10), (4, 11), (5, 10), (5, 19), (5, 25), (5, 26), (5, 27), (5, 28), (5, 29), (5, 30), (5, 31), (5, 32), (5, 33), (5, 34), (5, 35), (5, 36), (5, 39), (5, 40), (5, 41), (5, 42), (5, 43), (5, 44), (5, 45)] F Fₚ → SA [15, 17, 21, 22, 23, 31, 32, 33, 34, 35, 36, 37, 38, 39, 40, 41, 42, 43, 44, 45, 46, 47] A Aₚ → ∀ y1_3 : Int, Fₚ 1 3 = y1_3 → ∀ y1_4 : Int, Fₚ 1 4 = y1_4 → ∀ y5_27 : Int, Fₚ 5 27 = y5_27 → ∀ y5_32 : Int, Fₚ 5 32 = y5_32 → ∀ y5_33 : Int, Fₚ 5 33 = y5_33 → ∀ y5_34 : Int, Fₚ 5 34 = y5_34 → ∀ y5_36 : Int, Fₚ 5 36 = y5_36 → ∀ v15 : Int → Int, Aₚ 15 = v15 → ∀ v34 : Int → Int, Aₚ 34 = v34 → ∀ v35 : Int → Int, Aₚ 35 = v35 → ∀ v36 : Int → Int, Aₚ 36 = v36 → ∀ v37 : Int → Int, Aₚ 37 = v37 → (inr (z)) → (RT ((v35)) ((v36)) ((v37)) ((v34))) → (RDQ ((a1)) (sc ((w14)) 0 ((u1_1))) (sc ((w16)) 0 ((u3_2))) Dc ((a2)) ((z)) ((y1_4)) (sc ((v15)) 0 ((y1_3)))) → (IMP (((a1) : Int) = 4) (CN5 (RDS (ap (sc ((w14)) 0 ((u1_1)))) ((sc ((w14)) 0 ((u1_1))).length : Int) ((a2)) Dc) ((y5_32), (y5_33), (y5_34), (y5_27), (y5_36)))) → (IMP (((a1) : Int) ≠ 4) (((y5_32), (y5_33), (y5_34), (y5_27), (y5_36)) = ((u5_32), (u5_33), (u5_34), (u5_27), (u5_36)))) → ((z) < 0 ∨ (z) = (y1_3)) → Q (some (I z)) σ c s) : Ew 84 (d + 11) 0 (rargs 0 [.ref (D 0), I a1, I a2]) [] σ c s Q := by
  have r1 : (0 : Int) ≤ u1_1 ∧ u1_1 ≤ 65536 := rngE (show (0 : Int) ≤ F 1 1 ∧ F 1 1 ≤ 65536 from H.frng 1 1) (show F 1 1 = u1_1 from (eu1_1))
  have r2 : (0 : Int) ≤ u3_2 ∧ u3_2 ≤ 65536 := rngE (show (0 : Int) ≤ F 3 2 ∧ F 3 2 ≤ 65536 from H.frng 3 2) (show F 3 2 = u3_2 from (eu3_2))
  have r3 : (0 : Int) ≤ u5_2 ∧ u5_2 ≤ 65536 := rngE (show (0 : Int) ≤ F 5 2 ∧ F 5 2 ≤ 65536 from H.frng 5 2) (show F 5 2 = u5_2 from (eu5_2))
  have r4 : (-2147483648 : Int) ≤ u5_3 ∧ u5_3 ≤ 2147483647 := rngE (show (-2147483648 : Int) ≤ F 5 3 ∧ F 5 3 ≤ 2147483647 from H.frng 5 3) (show F 5 3 = u5_3 from (eu5_3))
  have r5 : (0 : Int) ≤ u5_4 ∧ u5_4 ≤ 1 := rngE (show (0 : Int) ≤ F 5 4 ∧ F 5 4 ≤ 1 from H.frng 5 4) (show F 5 4 = u5_4 from (eu5_4))
  have r6 : (0 : Int) ≤ u5_27 ∧ u5_27 ≤ 65536 := rngE (show (0 : Int) ≤ F 5 27 ∧ F 5 27 ≤ 65536 from H.frng 5 27) (show F 5 27 = u5_27 from (eu5_27))
  have r7 : (-2147483648 : Int) ≤ u5_32 ∧ u5_32 ≤ 2147483647 := rngE (show (-2147483648 : Int) ≤ F 5 32 ∧ F 5 32 ≤ 2147483647 from H.frng 5 32) (show F 5 32 = u5_32 from (eu5_32))
  have r8 : (-2147483648 : Int) ≤ u5_33 ∧ u5_33 ≤ 2147483647 := rngE (show (-2147483648 : Int) ≤ F 5 33 ∧ F 5 33 ≤ 2147483647 from H.frng 5 33) (show F 5 33 = u5_33 from (eu5_33))
  have r9 : (-2147483648 : Int) ≤ u5_34 ∧ u5_34 ≤ 2147483647 := rngE (show (-2147483648 : Int) ≤ F 5 34 ∧ F 5 34 ≤ 2147483647 from H.frng 5 34) (show F 5 34 = u5_34 from (eu5_34))
  have r10 : (-2147483648 : Int) ≤ u5_36 ∧ u5_36 ≤ 2147483647 := rngE (show (-2147483648 : Int) ≤ F 5 36 ∧ F 5 36 ≤ 2147483647 from H.frng 5 36) (show F 5 36 = u5_36 from (eu5_36))
  have r11 : (0 : Int) ≤ F 1 3 ∧ F 1 3 ≤ 65536 := H.frng 1 3
  have r12 : (-2147483648 : Int) ≤ F 1 4 ∧ F 1 4 ≤ 2147483647 := H.frng 1 4
  have r13 : (0 : Int) ≤ F 5 31 ∧ F 5 31 ≤ 65536 := H.frng 5 31
  have hc71 : ∀ (tc71_0 : Int), ∀ (ls : rO) (σ : rS) (F_c71 : hF) (A_c71 : hA) , rlook ls 0 = some (.ref (D 0)) → rlook ls 1 = some (I (a1)) → HS σ0 σ D N F_c71 A_c71 → SF [(1, 3), (1, 4), (3, 12), (3, 14), (3, 15), (3, 16), (4, 2), (4, 8), (4, 9), (4, 10), (4, 11), (5, 10), (5, 19), (5, 25), (5, 26), (5, 27), (5, 28), (5, 29), (5, 30), (5, 31), (5, 32), (5, 33), (5, 34), (5, 35), (5, 36), (5, 39), (5, 40), (5, 41), (5, 42), (5, 43), (5, 44), (5, 45)] F F_c71 → SA [15, 17, 21, 22, 23, 31, 32, 33, 34, 35, 36, 37, 38, 39, 40, 41, 42, 43, 44, 45, 46, 47] A A_c71 → ∀ yc71_1_3 : Int, F_c71 1 3 = yc71_1_3 → ∀ yc71_1_4 : Int, F_c71 1 4 = yc71_1_4 → ∀ yc71_5_27 : Int, F_c71 5 27 = yc71_5_27 → ∀ yc71_5_31 : Int, F_c71 5 31 = yc71_5_31 → ∀ yc71_5_32 : Int, F_c71 5 32 = yc71_5_32 → ∀ yc71_5_33 : Int, F_c71 5 33 = yc71_5_33 → ∀ yc71_5_34 : Int, F_c71 5 34 = yc71_5_34 → ∀ yc71_5_36 : Int, F_c71 5 36 = yc71_5_36 → ∀ wc71_15 : Int → Int, A_c71 15 = wc71_15 → ∀ wc71_34 : Int → Int, A_c71 34 = wc71_34 → ∀ wc71_35 : Int → Int, A_c71 35 = wc71_35 → ∀ wc71_36 : Int → Int, A_c71 36 = wc71_36 → ∀ wc71_37 : Int → Int, A_c71 37 = wc71_37 → (inr (tc71_0)) → (RT ((wc71_35)) ((wc71_36)) ((wc71_37)) ((wc71_34))) → (IMP (((a1) : Int) ≠ 4) (RDQ ((a1)) (sc ((w14)) 0 ((u1_1))) (sc ((w16)) 0 ((u3_2))) Dc ((a2)) ((tc71_0)) ((yc71_1_4)) (sc ((wc71_15)) 0 ((yc71_1_3))))) → (IMP (((a1) : Int) = 4) (RDQ (4) (sc ((w14)) 0 ((u1_1))) (sc ((w16)) 0 ((u3_2))) Dc ((a2)) ((tc71_0)) ((yc71_5_31)) (sc ((wc71_15)) 0 ((yc71_1_3))) ∧ CN5 (RDS (ap (sc ((w14)) 0 ((u1_1)))) ((sc ((w14)) 0 ((u1_1))).length : Int) ((a2)) Dc) ((yc71_5_32), (yc71_5_33), (yc71_5_34), (yc71_5_27), (yc71_5_36)))) → (IMP (((a1) : Int) ≠ 4) (((yc71_5_32), (yc71_5_33), (yc71_5_34), (yc71_5_27), (yc71_5_36)) = ((u5_32), (u5_33), (u5_34), (u5_27), (u5_36)))) → ((tc71_0) < 0 ∨ (tc71_0) = (yc71_1_3)) → Ew 84 (d + 11) 71 ls [I (tc71_0)] σ c s Q := by
   as_aux_lemma =>
    intro tc71_0 ls σ F_c71 A_c71  lc71_0 lc71_1 H hS_c71 hA_c71 yc71_1_3 eyc71_1_3 yc71_1_4 eyc71_1_4 yc71_5_27 eyc71_5_27 yc71_5_31 eyc71_5_31 yc71_5_32 eyc71_5_32 yc71_5_33 eyc71_5_33 yc71_5_34 eyc71_5_34 yc71_5_36 eyc71_5_36 wc71_15 ewc71_15 wc71_34 ewc71_34 wc71_35 ewc71_35 wc71_36 ewc71_36 wc71_37 ewc71_37 jc71_0 jc71_1 jc71_2 jc71_3 jc71_4 jc71_5
    have r14 : (0 : Int) ≤ yc71_1_3 ∧ yc71_1_3 ≤ 65536 := rngE (show (0 : Int) ≤ F_c71 1 3 ∧ F_c71 1 3 ≤ 65536 from H.frng 1 3) (show F_c71 1 3 = yc71_1_3 from (eyc71_1_3))
    have r15 : (-2147483648 : Int) ≤ yc71_1_4 ∧ yc71_1_4 ≤ 2147483647 := rngE (show (-2147483648 : Int) ≤ F_c71 1 4 ∧ F_c71 1 4 ≤ 2147483647 from H.frng 1 4) (show F_c71 1 4 = yc71_1_4 from (eyc71_1_4))
    have r16 : (0 : Int) ≤ yc71_5_27 ∧ yc71_5_27 ≤ 65536 := rngE (show (0 : Int) ≤ F_c71 5 27 ∧ F_c71 5 27 ≤ 65536 from H.frng 5 27) (show F_c71 5 27 = yc71_5_27 from (eyc71_5_27))
    have r17 : (0 : Int) ≤ yc71_5_31 ∧ yc71_5_31 ≤ 65536 := rngE (show (0 : Int) ≤ F_c71 5 31 ∧ F_c71 5 31 ≤ 65536 from H.frng 5 31) (show F_c71 5 31 = yc71_5_31 from (eyc71_5_31))
    have r18 : (-2147483648 : Int) ≤ yc71_5_32 ∧ yc71_5_32 ≤ 2147483647 := rngE (show (-2147483648 : Int) ≤ F_c71 5 32 ∧ F_c71 5 32 ≤ 2147483647 from H.frng 5 32) (show F_c71 5 32 = yc71_5_32 from (eyc71_5_32))
    have r19 : (-2147483648 : Int) ≤ yc71_5_33 ∧ yc71_5_33 ≤ 2147483647 := rngE (show (-2147483648 : Int) ≤ F_c71 5 33 ∧ F_c71 5 33 ≤ 2147483647 from H.frng 5 33) (show F_c71 5 33 = yc71_5_33 from (eyc71_5_33))
    have r20 : (-2147483648 : Int) ≤ yc71_5_34 ∧ yc71_5_34 ≤ 2147483647 := rngE (show (-2147483648 : Int) ≤ F_c71 5 34 ∧ F_c71 5 34 ≤ 2147483647 from H.frng 5 34) (show F_c71 5 34 = yc71_5_34 from (eyc71_5_34))
    have r21 : (-2147483648 : Int) ≤ yc71_5_36 ∧ yc71_5_36 ≤ 2147483647 := rngE (show (-2147483648 : Int) ≤ F_c71 5 36 ∧ F_c71 5 36 ≤ 2147483647 from H.frng 5 36) (show F_c71 5 36 = yc71_5_36 from (eyc71_5_36))
    refine Ew_of (pcₚ := 72) (fun _ => x_istore_n rfl) ?_
    have k71a : IMP (((a1) : Int) ≠ 4) (RDQ ((a1)) (sc ((w14)) 0 ((u1_1))) (sc ((w16)) 0 ((u3_2))) Dc ((a2)) ((tc71_0)) ((yc71_1_4)) (sc ((wc71_15)) 0 ((yc71_1_3)))) := jc71_2
    have k71b : IMP (((a1) : Int) = 4) (RDQ (4) (sc ((w14)) 0 ((u1_1))) (sc ((w16)) 0 ((u3_2))) Dc ((a2)) ((tc71_0)) ((yc71_5_31)) (sc ((wc71_15)) 0 ((yc71_1_3))) ∧ CN5 (RDS (ap (sc ((w14)) 0 ((u1_1)))) ((sc ((w14)) 0 ((u1_1))).length : Int) ((a2)) Dc) ((yc71_5_32), (yc71_5_33), (yc71_5_34), (yc71_5_27), (yc71_5_36))) := by assumption
    have k71c : IMP (((a1) : Int) ≠ 4) (((yc71_5_32), (yc71_5_33), (yc71_5_34), (yc71_5_27), (yc71_5_36)) = ((u5_32), (u5_33), (u5_34), (u5_27), (u5_36))) := by assumption
    refine Ew_of (pcₚ := 73) (fun _ => x_iload_n rfl (rk_o (lc71_1) rfl rfl)) ?_
    refine Ew_of (pcₚ := 74) (fun _ => x_iconst rfl) ?_
    refine w_icmpne (t := 91) rfl rfl (show inr (a1) from h0) (show inr (4) from q_216) (fun b22 => ?_) (fun b22 => ?_)
    · refine Ew_of (pcₚ := 92) (fun _ => x_iload_n rfl rk_s) ?_
      have : RDQ ((a1)) (sc ((w14)) 0 ((u1_1))) (sc ((w16)) 0 ((u3_2))) Dc ((a2)) ((tc71_0)) ((yc71_1_4)) (sc ((wc71_15)) 0 ((yc71_1_3))) := by first | exact k71a (by omega) | (rw [show ((a1) : Int) = 4 by omega]; exact (k71b (by omega)).1)
      have : IMP (((a1) : Int) = 4) (CN5 (RDS (ap (sc ((w14)) 0 ((u1_1)))) ((sc ((w14)) 0 ((u1_1))).length : Int) ((a2)) Dc) ((yc71_5_32), (yc71_5_33), (yc71_5_34), (yc71_5_27), (yc71_5_36))) := fun q => (k71b q).2
      exact w_ireturn rfl (k (tc71_0) σ _ _ H (SF_trans (SF_refl) hS_c71 (any_sub rfl)) (SA_trans (SA_refl) hA_c71 (any_subA rfl)) (yc71_1_3) ((eyc71_1_3)) (yc71_1_4) ((eyc71_1_4)) (yc71_5_27) ((eyc71_5_27)) (yc71_5_32) ((eyc71_5_32)) (yc71_5_33) ((eyc71_5_33)) (yc71_5_34) ((eyc71_5_34)) (yc71_5_36) ((eyc71_5_36)) (wc71_15) (ewc71_15) (wc71_34) (ewc71_34) (wc71_35) (ewc71_35) (wc71_36) (ewc71_36) (wc71_37) (ewc71_37) (show inr (tc71_0) from jc71_0) (jc71_1) (show RDQ (a1) (sc ((w14)) 0 ((u1_1))) (sc ((w16)) 0 ((u3_2))) Dc (a2) ((tc71_0)) ((yc71_1_4)) (sc ((wc71_15)) 0 ((yc71_1_3))) by assumption) (show IMP ((a1 : Int) = 4) (CN5 (RDS (ap (sc ((w14)) 0 ((u1_1)))) ((sc ((w14)) 0 ((u1_1))).length : Int) (a2) Dc) ((yc71_5_32), (yc71_5_33), (yc71_5_34), (yc71_5_27), (yc71_5_36))) by assumption) (k71c) (show (tc71_0) < 0 ∨ (tc71_0) = (yc71_1_3) from jc71_5))
    · refine Ew_of (pcₚ := 78) (fun _ => x_aload_n rfl (rk_o (lc71_0) rfl rfl)) ?_
      refine w_gT H (o := 0) (t := 1) rfl (H.perm 0 rfl) rfl rfl rfl rfl rfl rfl ?_
      refine Ew_of (pcₚ := 82) (fun _ => x_aload_n rfl (rk_o (lc71_0) rfl rfl)) ?_
      refine w_gT H (o := 0) (t := 5) rfl (H.perm 0 rfl) rfl rfl rfl rfl rfl rfl ?_
      refine w_gI H (o := 5) (w := yc71_5_31) rfl (H.perm 5 rfl) rfl rfl rfl (fun _ => rfl) (eyc71_5_31) ?_
      refine w_pI H (o := 1) rfl rfl (H.perm 1 rfl) rfl rfl rfl (fun _ => rfl) rfl (show (-2147483648 : Int) ≤ yc71_5_31 ∧ yc71_5_31 ≤ 2147483647 from q_302 r17) (fun σ H => ?_)
      refine Ew_of (pcₚ := 92) (fun _ => x_iload_n rfl rk_s) ?_
      have : RDQ ((a1)) (sc ((w14)) 0 ((u1_1))) (sc ((w16)) 0 ((u3_2))) Dc ((a2)) ((tc71_0)) ((yc71_5_31)) (sc ((wc71_15)) 0 ((yc71_1_3))) := by first | exact k71a (by omega) | (rw [show ((a1) : Int) = 4 by omega]; exact (k71b (by omega)).1)
      have : IMP (((a1) : Int) = 4) (CN5 (RDS (ap (sc ((w14)) 0 ((u1_1)))) ((sc ((w14)) 0 ((u1_1))).length : Int) ((a2)) Dc) ((yc71_5_32), (yc71_5_33), (yc71_5_34), (yc71_5_27), (yc71_5_36))) := fun q => (k71b q).2
      exact w_ireturn rfl (k (tc71_0) σ _ _ H (SF_upd (SF_trans (SF_refl) hS_c71 (any_sub rfl)) rfl) (SA_trans (SA_refl) hA_c71 (any_subA rfl)) (yc71_1_3) ((eyc71_1_3)) (yc71_5_31) (rfl) (yc71_5_27) ((eyc71_5_27)) (yc71_5_32) ((eyc71_5_32)) (yc71_5_33) ((eyc71_5_33)) (yc71_5_34) ((eyc71_5_34)) (yc71_5_36) ((eyc71_5_36)) (wc71_15) (ewc71_15) (wc71_34) (ewc71_34) (wc71_35) (ewc71_35) (wc71_36) (ewc71_36) (wc71_37) (ewc71_37) (show inr (tc71_0) from jc71_0) (jc71_1) (show RDQ (a1) (sc ((w14)) 0 ((u1_1))) (sc ((w16)) 0 ((u3_2))) Dc (a2) ((tc71_0)) ((yc71_5_31)) (sc ((wc71_15)) 0 ((yc71_1_3))) by assumption) (show IMP ((a1 : Int) = 4) (CN5 (RDS (ap (sc ((w14)) 0 ((u1_1)))) ((sc ((w14)) 0 ((u1_1))).length : Int) (a2) Dc) ((yc71_5_32), (yc71_5_33), (yc71_5_34), (yc71_5_27), (yc71_5_36))) by assumption) (k71c) (show (tc71_0) < 0 ∨ (tc71_0) = (yc71_1_3) from jc71_5))
  have hIn : ∀ i, (0 : Int) ≤ (w14) i ∧ (w14) i ≤ 255 := fun i => by have h1 : (0 : Int) ≤ A 14 i ∧ A 14 i ≤ 255 := H.arng 14 i; rw [show A 14 = w14 from ew14] at h1; exact h1
  have hDo : DCo Dc := h6
  refine Ew_of (pcₚ := 1) (fun _ => x_iload_n rfl rfl) ?_
  refine w_ifne (t := 15) rfl rfl (show inr (a1) from h0) (fun b23 => ?_) (fun b23 => ?_)
  · refine Ew_of (pcₚ := 16) (fun _ => x_iload_n rfl rfl) ?_
    refine Ew_of (pcₚ := 17) (fun _ => x_iconst rfl) ?_
    refine w_icmpne (t := 31) rfl rfl (show inr (a1) from h0) (show inr (1) from q_135) (fun b24 => ?_) (fun b24 => ?_)
    · refine Ew_of (pcₚ := 32) (fun _ => x_iload_n rfl rfl) ?_
      refine Ew_of (pcₚ := 33) (fun _ => x_iconst rfl) ?_
      refine w_icmpne (t := 47) rfl rfl (show inr (a1) from h0) (show inr (2) from q_122) (fun b25 => ?_) (fun b25 => ?_)
      · refine Ew_of (pcₚ := 48) (fun _ => x_iload_n rfl rfl) ?_
        refine Ew_of (pcₚ := 49) (fun _ => x_iconst rfl) ?_
        refine w_icmpne (t := 63) rfl rfl (show inr (a1) from h0) (show inr (3) from q_246) (fun b26 => ?_) (fun b26 => ?_)
        · refine Ew_of (pcₚ := 64) (fun _ => x_aload_n rfl rfl) ?_
          refine w_gT H (o := 0) (t := 5) rfl (H.perm 0 rfl) rfl rfl rfl rfl rfl rfl ?_
          refine Ew_of (pcₚ := 68) (fun _ => x_iload_n rfl rfl) ?_
          refine w_inv H (o := 5) rfl rfl rfl (H.perm 5 rfl) rfl rfl (by rfl) (M284 H (u1_1) ((eu1_1)) (u5_2) ((eu5_2)) (u5_3) ((eu5_3)) (u5_4) ((eu5_4)) (w14) (ew14) (w26) (ew26) (w27) (ew27) (w28) (ew28) (w29) (ew29) (w30) (ew30) (w34) (ew34) (w35) (ew35) (w36) (ew36) (w37) (ew37) (Dc) (show inr (a2) from h1) (show 0 ≤ (a2) ∧ (a2) ≤ 65536 from q_2310 h2) (h3) (show DI ((u5_4)) ((w27)) ((w28)) ((w29)) ((w30)) by assumption) (h5) (fun z31 σ F27 A28 H hS29 hA30 y32 ey33 y34 ey35 y36 ey37 y38 ey39 y40 ey41 y42 ey43 y44 ey45 wq46 ewq47 wq48 ewq49 wq50 ewq51 wq52 ewq53 wq54 ewq55 wq56 ewq57 pz31_0 pz31_1 pz31_2 pz31_3 => ⟨rfl, ?_⟩))
          have r58 : (0 : Int) ≤ y32 ∧ y32 ≤ 65536 := rngE (show (0 : Int) ≤ F27 1 3 ∧ F27 1 3 ≤ 65536 from H.frng 1 3) (show F27 1 3 = y32 from (ey33))
          have r59 : (0 : Int) ≤ y34 ∧ y34 ≤ 65536 := rngE (show (0 : Int) ≤ F27 5 27 ∧ F27 5 27 ≤ 65536 from H.frng 5 27) (show F27 5 27 = y34 from (ey35))
          have r60 : (0 : Int) ≤ y36 ∧ y36 ≤ 65536 := rngE (show (0 : Int) ≤ F27 5 31 ∧ F27 5 31 ≤ 65536 from H.frng 5 31) (show F27 5 31 = y36 from (ey37))
          have r61 : (-2147483648 : Int) ≤ y38 ∧ y38 ≤ 2147483647 := rngE (show (-2147483648 : Int) ≤ F27 5 32 ∧ F27 5 32 ≤ 2147483647 from H.frng 5 32) (show F27 5 32 = y38 from (ey39))
          have r62 : (-2147483648 : Int) ≤ y40 ∧ y40 ≤ 2147483647 := rngE (show (-2147483648 : Int) ≤ F27 5 33 ∧ F27 5 33 ≤ 2147483647 from H.frng 5 33) (show F27 5 33 = y40 from (ey41))
          have r63 : (-2147483648 : Int) ≤ y42 ∧ y42 ≤ 2147483647 := rngE (show (-2147483648 : Int) ≤ F27 5 34 ∧ F27 5 34 ≤ 2147483647 from H.frng 5 34) (show F27 5 34 = y42 from (ey43))
          have r64 : (-2147483648 : Int) ≤ y44 ∧ y44 ≤ 2147483647 := rngE (show (-2147483648 : Int) ≤ F27 5 36 ∧ F27 5 36 ≤ 2147483647 from H.frng 5 36) (show F27 5 36 = y44 from (ey45))
          have : IMP (((a1) : Int) ≠ 4) (RDQ ((a1)) (sc ((w14)) 0 ((u1_1))) (sc ((w16)) 0 ((u3_2))) Dc ((a2)) ((z31)) ((F 1 4)) (sc ((wq46)) 0 ((y32)))) := by first | exact fun q => absurd q (by omega) | exact fun _ => by rw [show ((a1) : Int) = 0 by omega]; exact RDQ_0 rfl (by omega) hIn (pzMISS_1 ⟨by omega, by omega⟩) (fun _ => rfl) | exact fun _ => by rw [show ((a1) : Int) = 1 by omega]; exact RDQ_1 rfl (by omega) hIn (pzMISS_1 ⟨by omega, by omega⟩) (fun _ => rfl) | exact fun _ => by rw [show ((a1) : Int) = 2 by omega]; exact RDQ_2 rfl (by omega) hIn (pzMISS_1) (fun _ => rfl) | exact fun _ => by rw [show ((a1) : Int) = 3 by omega]; exact RDQ_3 rfl (by omega) hIn (pzMISS_1) (fun _ => rfl)
          have : IMP (((a1) : Int) = 4) (RDQ (4) (sc ((w14)) 0 ((u1_1))) (sc ((w16)) 0 ((u3_2))) Dc ((a2)) ((z31)) ((y36)) (sc ((wq46)) 0 ((y32))) ∧ CN5 (RDS (ap (sc ((w14)) 0 ((u1_1)))) ((sc ((w14)) 0 ((u1_1))).length : Int) ((a2)) Dc) ((y38), (y40), (y42), (y34), (y44))) := by first | exact fun q => absurd q (by omega) | exact fun _ => by obtain ⟨x1, x2, x3, x4, x5, x6⟩ := RDQ_4r (H := sc ((w16)) 0 ((u3_2))) (O := sc ((wq46)) 0 ((y32))) (g := (wq56)) rfl (by omega) hIn hDo pz31_2 (by omega) (fun _ => rfl) rfl; exact ⟨x1, x2, x3, x4, x6, x5⟩
          have : IMP (((a1) : Int) ≠ 4) (((y38), (y40), (y42), (y34), (y44)) = ((u5_32), (u5_33), (u5_34), (u5_27), (u5_36))) := by first | exact fun q => absurd q (by omega) | exact fun _ => rfl
          have hnn : ((z31) : Int) < 0 ∨ ((z31) : Int) = (y32) := by first | exact pz31_3 | exact RDT_n (pzMISS_1 ⟨by omega, by omega⟩) | exact RDF_n (pzMISS_1 ⟨by omega, by omega⟩) | exact RDG_n (pzMISS_1) | exact RDU_n (pzMISS_1)
          exact hc71 (z31) _ σ _ _  (rfl) (rfl) H (SF_trans (SF_refl) hS29 (any_sub rfl)) (SA_trans (SA_refl) hA30 (any_subA rfl)) (y32) ((ey33)) (F 1 4) ((hS29 1 4 rfl)) (y34) ((ey35)) (y36) ((ey37)) (y38) ((ey39)) (y40) ((ey41)) (y42) ((ey43)) (y44) ((ey45)) (wq46) (ewq47) (wq48) (ewq49) (wq50) (ewq51) (wq52) (ewq53) (wq54) (ewq55) (show inr (z31) from pz31_0) (pz31_1) (show IMP (((a1) : Int) ≠ 4) (RDQ ((a1)) (sc ((w14)) 0 ((u1_1))) (sc ((w16)) 0 ((u3_2))) Dc ((a2)) ((z31)) ((F 1 4)) (sc ((wq46)) 0 ((y32)))) by assumption) (show IMP (((a1) : Int) = 4) (RDQ (4) (sc ((w14)) 0 ((u1_1))) (sc ((w16)) 0 ((u3_2))) Dc ((a2)) ((z31)) ((y36)) (sc ((wq46)) 0 ((y32))) ∧ CN5 (RDS (ap (sc ((w14)) 0 ((u1_1)))) ((sc ((w14)) 0 ((u1_1))).length : Int) ((a2)) Dc) ((y38), (y40), (y42), (y34), (y44))) by assumption) (show IMP (((a1) : Int) ≠ 4) (((y38), (y40), (y42), (y34), (y44)) = ((u5_32), (u5_33), (u5_34), (u5_27), (u5_36))) by assumption) (show (z31) < 0 ∨ (z31) = (y32) from hnn)
        · refine Ew_of (pcₚ := 53) (fun _ => x_aload_n rfl rfl) ?_
          refine w_gT H (o := 0) (t := 4) rfl (H.perm 0 rfl) rfl rfl rfl rfl rfl rfl ?_
          refine Ew_of (pcₚ := 57) (fun _ => x_iload_n rfl rfl) ?_
          refine w_inv H (o := 4) rfl rfl rfl (H.perm 4 rfl) rfl rfl (by rfl) (M352 H (u1_1) ((eu1_1)) (w14) (ew14) (show inr (a2) from h1) (show 0 ≤ (a2) ∧ (a2) ≤ 65536 from q_2310 h2) (fun z69 σ F65 A66 H hS67 hA68 y70 ey71 y72 ey73 wq74 ewq75 pz69_0 pz69_1 => ⟨rfl, ?_⟩))
          have r76 : (0 : Int) ≤ y70 ∧ y70 ≤ 65536 := rngE (show (0 : Int) ≤ F65 1 3 ∧ F65 1 3 ≤ 65536 from H.frng 1 3) (show F65 1 3 = y70 from (ey71))
          have r77 : (-2147483648 : Int) ≤ y72 ∧ y72 ≤ 2147483647 := rngE (show (-2147483648 : Int) ≤ F65 1 4 ∧ F65 1 4 ≤ 2147483647 from H.frng 1 4) (show F65 1 4 = y72 from (ey73))
          refine Ew_of (pcₚ := 71) (fun _ => x_goto rfl rfl) ?_
          have : IMP (((a1) : Int) ≠ 4) (RDQ ((a1)) (sc ((w14)) 0 ((u1_1))) (sc ((w16)) 0 ((u3_2))) Dc ((a2)) ((z69)) ((y72)) (sc ((wq74)) 0 ((y70)))) := by first | exact fun q => absurd q (by omega) | exact fun _ => by rw [show ((a1) : Int) = 0 by omega]; exact RDQ_0 rfl (by omega) hIn (pzMISS_1 ⟨by omega, by omega⟩) (fun _ => rfl) | exact fun _ => by rw [show ((a1) : Int) = 1 by omega]; exact RDQ_1 rfl (by omega) hIn (pzMISS_1 ⟨by omega, by omega⟩) (fun _ => rfl) | exact fun _ => by rw [show ((a1) : Int) = 2 by omega]; exact RDQ_2 rfl (by omega) hIn (pzMISS_1) (fun _ => rfl) | exact fun _ => by rw [show ((a1) : Int) = 3 by omega]; exact RDQ_3 rfl (by omega) hIn (pz69_1) (fun _ => rfl)
          have : IMP (((a1) : Int) = 4) (RDQ (4) (sc ((w14)) 0 ((u1_1))) (sc ((w16)) 0 ((u3_2))) Dc ((a2)) ((z69)) ((F 5 31)) (sc ((wq74)) 0 ((y70))) ∧ CN5 (RDS (ap (sc ((w14)) 0 ((u1_1)))) ((sc ((w14)) 0 ((u1_1))).length : Int) ((a2)) Dc) ((u5_32), (u5_33), (u5_34), (u5_27), (u5_36))) := by first | exact fun q => absurd q (by omega) | exact fun _ => by obtain ⟨x1, x2, x3, x4, x5, x6⟩ := RDQ_4r (H := sc ((w16)) 0 ((u3_2))) (O := sc ((wq74)) 0 ((y70))) (g := (A 45)) rfl (by omega) hIn hDo pz31_2 (by omega) (fun _ => rfl) rfl; exact ⟨x1, x2, x3, x4, x6, x5⟩
          have : IMP (((a1) : Int) ≠ 4) (((u5_32), (u5_33), (u5_34), (u5_27), (u5_36)) = ((u5_32), (u5_33), (u5_34), (u5_27), (u5_36))) := by first | exact fun q => absurd q (by omega) | exact fun _ => rfl
          have hnn : ((z69) : Int) < 0 ∨ ((z69) : Int) = (y70) := by first | exact pz31_3 | exact RDT_n (pzMISS_1 ⟨by omega, by omega⟩) | exact RDF_n (pzMISS_1 ⟨by omega, by omega⟩) | exact RDG_n (pzMISS_1) | exact RDU_n (pz69_1)
          exact hc71 (z69) _ σ _ _  (rfl) (rfl) H (SF_trans (SF_refl) hS67 (any_sub rfl)) (SA_trans (SA_refl) hA68 (any_subA rfl)) (y70) ((ey71)) (y72) ((ey73)) (u5_27) (((hS67 5 27 rfl).trans (eu5_27))) (F 5 31) ((hS67 5 31 rfl)) (u5_32) (((hS67 5 32 rfl).trans (eu5_32))) (u5_33) (((hS67 5 33 rfl).trans (eu5_33))) (u5_34) (((hS67 5 34 rfl).trans (eu5_34))) (u5_36) (((hS67 5 36 rfl).trans (eu5_36))) (wq74) (ewq75) (w34) ((funext (hA68 34 rfl)).trans (ew34)) (w35) ((funext (hA68 35 rfl)).trans (ew35)) (w36) ((funext (hA68 36 rfl)).trans (ew36)) (w37) ((funext (hA68 37 rfl)).trans (ew37)) (show inr (z69) from pz69_0) (h3) (show IMP (((a1) : Int) ≠ 4) (RDQ ((a1)) (sc ((w14)) 0 ((u1_1))) (sc ((w16)) 0 ((u3_2))) Dc ((a2)) ((z69)) ((y72)) (sc ((wq74)) 0 ((y70)))) by assumption) (show IMP (((a1) : Int) = 4) (RDQ (4) (sc ((w14)) 0 ((u1_1))) (sc ((w16)) 0 ((u3_2))) Dc ((a2)) ((z69)) ((F 5 31)) (sc ((wq74)) 0 ((y70))) ∧ CN5 (RDS (ap (sc ((w14)) 0 ((u1_1)))) ((sc ((w14)) 0 ((u1_1))).length : Int) ((a2)) Dc) ((u5_32), (u5_33), (u5_34), (u5_27), (u5_36))) by assumption) (show IMP (((a1) : Int) ≠ 4) (((u5_32), (u5_33), (u5_34), (u5_27), (u5_36)) = ((u5_32), (u5_33), (u5_34), (u5_27), (u5_36))) by assumption) (show (z69) < 0 ∨ (z69) = (y70) from hnn)
      · refine Ew_of (pcₚ := 37) (fun _ => x_aload_n rfl rfl) ?_
        refine w_gT H (o := 0) (t := 4) rfl (H.perm 0 rfl) rfl rfl rfl rfl rfl rfl ?_
        refine Ew_of (pcₚ := 41) (fun _ => x_iload_n rfl rfl) ?_
        refine w_inv H (o := 4) rfl rfl rfl (H.perm 4 rfl) rfl rfl (by rfl) (M344 H (u1_1) ((eu1_1)) (w14) (ew14) (show inr (a2) from h1) (show 0 ≤ (a2) ∧ (a2) ≤ 65536 from q_2310 h2) (fun z82 σ F78 A79 H hS80 hA81 y83 ey84 y85 ey86 wq87 ewq88 pz82_0 pz82_1 => ⟨rfl, ?_⟩))
        have r89 : (0 : Int) ≤ y83 ∧ y83 ≤ 65536 := rngE (show (0 : Int) ≤ F78 1 3 ∧ F78 1 3 ≤ 65536 from H.frng 1 3) (show F78 1 3 = y83 from (ey84))
        have r90 : (-2147483648 : Int) ≤ y85 ∧ y85 ≤ 2147483647 := rngE (show (-2147483648 : Int) ≤ F78 1 4 ∧ F78 1 4 ≤ 2147483647 from H.frng 1 4) (show F78 1 4 = y85 from (ey86))
        refine Ew_of (pcₚ := 71) (fun _ => x_goto rfl rfl) ?_
        have : IMP (((a1) : Int) ≠ 4) (RDQ ((a1)) (sc ((w14)) 0 ((u1_1))) (sc ((w16)) 0 ((u3_2))) Dc ((a2)) ((z82)) ((y85)) (sc ((wq87)) 0 ((y83)))) := by first | exact fun q => absurd q (by omega) | exact fun _ => by rw [show ((a1) : Int) = 0 by omega]; exact RDQ_0 rfl (by omega) hIn (pzMISS_1 ⟨by omega, by omega⟩) (fun _ => rfl) | exact fun _ => by rw [show ((a1) : Int) = 1 by omega]; exact RDQ_1 rfl (by omega) hIn (pzMISS_1 ⟨by omega, by omega⟩) (fun _ => rfl) | exact fun _ => by rw [show ((a1) : Int) = 2 by omega]; exact RDQ_2 rfl (by omega) hIn (pz82_1) (fun _ => rfl) | exact fun _ => by rw [show ((a1) : Int) = 3 by omega]; exact RDQ_3 rfl (by omega) hIn (pz69_1) (fun _ => rfl)
        have : IMP (((a1) : Int) = 4) (RDQ (4) (sc ((w14)) 0 ((u1_1))) (sc ((w16)) 0 ((u3_2))) Dc ((a2)) ((z82)) ((F 5 31)) (sc ((wq87)) 0 ((y83))) ∧ CN5 (RDS (ap (sc ((w14)) 0 ((u1_1)))) ((sc ((w14)) 0 ((u1_1))).length : Int) ((a2)) Dc) ((u5_32), (u5_33), (u5_34), (u5_27), (u5_36))) := by first | exact fun q => absurd q (by omega) | exact fun _ => by obtain ⟨x1, x2, x3, x4, x5, x6⟩ := RDQ_4r (H := sc ((w16)) 0 ((u3_2))) (O := sc ((wq87)) 0 ((y83))) (g := (A 45)) rfl (by omega) hIn hDo pz31_2 (by omega) (fun _ => rfl) rfl; exact ⟨x1, x2, x3, x4, x6, x5⟩
        have : IMP (((a1) : Int) ≠ 4) (((u5_32), (u5_33), (u5_34), (u5_27), (u5_36)) = ((u5_32), (u5_33), (u5_34), (u5_27), (u5_36))) := by first | exact fun q => absurd q (by omega) | exact fun _ => rfl
        have hnn : ((z82) : Int) < 0 ∨ ((z82) : Int) = (y83) := by first | exact pz31_3 | exact RDT_n (pzMISS_1 ⟨by omega, by omega⟩) | exact RDF_n (pzMISS_1 ⟨by omega, by omega⟩) | exact RDG_n (pz82_1) | exact RDU_n (pz69_1)
        exact hc71 (z82) _ σ _ _  (rfl) (rfl) H (SF_trans (SF_refl) hS80 (any_sub rfl)) (SA_trans (SA_refl) hA81 (any_subA rfl)) (y83) ((ey84)) (y85) ((ey86)) (u5_27) (((hS80 5 27 rfl).trans (eu5_27))) (F 5 31) ((hS80 5 31 rfl)) (u5_32) (((hS80 5 32 rfl).trans (eu5_32))) (u5_33) (((hS80 5 33 rfl).trans (eu5_33))) (u5_34) (((hS80 5 34 rfl).trans (eu5_34))) (u5_36) (((hS80 5 36 rfl).trans (eu5_36))) (wq87) (ewq88) (w34) ((funext (hA81 34 rfl)).trans (ew34)) (w35) ((funext (hA81 35 rfl)).trans (ew35)) (w36) ((funext (hA81 36 rfl)).trans (ew36)) (w37) ((funext (hA81 37 rfl)).trans (ew37)) (show inr (z82) from pz82_0) (h3) (show IMP (((a1) : Int) ≠ 4) (RDQ ((a1)) (sc ((w14)) 0 ((u1_1))) (sc ((w16)) 0 ((u3_2))) Dc ((a2)) ((z82)) ((y85)) (sc ((wq87)) 0 ((y83)))) by assumption) (show IMP (((a1) : Int) = 4) (RDQ (4) (sc ((w14)) 0 ((u1_1))) (sc ((w16)) 0 ((u3_2))) Dc ((a2)) ((z82)) ((F 5 31)) (sc ((wq87)) 0 ((y83))) ∧ CN5 (RDS (ap (sc ((w14)) 0 ((u1_1)))) ((sc ((w14)) 0 ((u1_1))).length : Int) ((a2)) Dc) ((u5_32), (u5_33), (u5_34), (u5_27), (u5_36))) by assumption) (show IMP (((a1) : Int) ≠ 4) (((u5_32), (u5_33), (u5_34), (u5_27), (u5_36)) = ((u5_32), (u5_33), (u5_34), (u5_27), (u5_36))) by assumption) (show (z82) < 0 ∨ (z82) = (y83) from hnn)
    · refine Ew_of (pcₚ := 21) (fun _ => x_aload_n rfl rfl) ?_
      refine w_gT H (o := 0) (t := 3) rfl (H.perm 0 rfl) rfl rfl rfl rfl rfl rfl ?_
      refine Ew_of (pcₚ := 25) (fun _ => x_iload_n rfl rfl) ?_
      refine w_inv H (o := 3) rfl rfl rfl (H.perm 3 rfl) rfl rfl (by rfl) (M385 H (u1_1) ((eu1_1)) (u3_2) ((eu3_2)) (w14) (ew14) (w16) (ew16) (show inr (a2) from h1) (fun z95 σ F91 A92 H hS93 hA94 y96 ey97 y98 ey99 wq100 ewq101 pz95_0 pz95_1 => ⟨rfl, ?_⟩))
      have r102 : (0 : Int) ≤ y96 ∧ y96 ≤ 65536 := rngE (show (0 : Int) ≤ F91 1 3 ∧ F91 1 3 ≤ 65536 from H.frng 1 3) (show F91 1 3 = y96 from (ey97))
      have r103 : (-2147483648 : Int) ≤ y98 ∧ y98 ≤ 2147483647 := rngE (show (-2147483648 : Int) ≤ F91 1 4 ∧ F91 1 4 ≤ 2147483647 from H.frng 1 4) (show F91 1 4 = y98 from (ey99))
      refine Ew_of (pcₚ := 71) (fun _ => x_goto rfl rfl) ?_
      have : IMP (((a1) : Int) ≠ 4) (RDQ ((a1)) (sc ((w14)) 0 ((u1_1))) (sc ((w16)) 0 ((u3_2))) Dc ((a2)) ((z95)) ((y98)) (sc ((wq100)) 0 ((y96)))) := by first | exact fun q => absurd q (by omega) | exact fun _ => by rw [show ((a1) : Int) = 0 by omega]; exact RDQ_0 rfl (by omega) hIn (pzMISS_1 ⟨by omega, by omega⟩) (fun _ => rfl) | exact fun _ => by rw [show ((a1) : Int) = 1 by omega]; exact RDQ_1 rfl (by omega) hIn (pz95_1 ⟨by omega, by omega⟩) (fun _ => rfl) | exact fun _ => by rw [show ((a1) : Int) = 2 by omega]; exact RDQ_2 rfl (by omega) hIn (pz82_1) (fun _ => rfl) | exact fun _ => by rw [show ((a1) : Int) = 3 by omega]; exact RDQ_3 rfl (by omega) hIn (pz69_1) (fun _ => rfl)
      have : IMP (((a1) : Int) = 4) (RDQ (4) (sc ((w14)) 0 ((u1_1))) (sc ((w16)) 0 ((u3_2))) Dc ((a2)) ((z95)) ((F 5 31)) (sc ((wq100)) 0 ((y96))) ∧ CN5 (RDS (ap (sc ((w14)) 0 ((u1_1)))) ((sc ((w14)) 0 ((u1_1))).length : Int) ((a2)) Dc) ((u5_32), (u5_33), (u5_34), (u5_27), (u5_36))) := by first | exact fun q => absurd q (by omega) | exact fun _ => by obtain ⟨x1, x2, x3, x4, x5, x6⟩ := RDQ_4r (H := sc ((w16)) 0 ((u3_2))) (O := sc ((wq100)) 0 ((y96))) (g := (A 45)) rfl (by omega) hIn hDo pz31_2 (by omega) (fun _ => rfl) rfl; exact ⟨x1, x2, x3, x4, x6, x5⟩
      have : IMP (((a1) : Int) ≠ 4) (((u5_32), (u5_33), (u5_34), (u5_27), (u5_36)) = ((u5_32), (u5_33), (u5_34), (u5_27), (u5_36))) := by first | exact fun q => absurd q (by omega) | exact fun _ => rfl
      have hnn : ((z95) : Int) < 0 ∨ ((z95) : Int) = (y96) := by first | exact pz31_3 | exact RDT_n (pzMISS_1 ⟨by omega, by omega⟩) | exact RDF_n (pz95_1 ⟨by omega, by omega⟩) | exact RDG_n (pz82_1) | exact RDU_n (pz69_1)
      exact hc71 (z95) _ σ _ _  (rfl) (rfl) H (SF_trans (SF_refl) hS93 (any_sub rfl)) (SA_trans (SA_refl) hA94 (any_subA rfl)) (y96) ((ey97)) (y98) ((ey99)) (u5_27) (((hS93 5 27 rfl).trans (eu5_27))) (F 5 31) ((hS93 5 31 rfl)) (u5_32) (((hS93 5 32 rfl).trans (eu5_32))) (u5_33) (((hS93 5 33 rfl).trans (eu5_33))) (u5_34) (((hS93 5 34 rfl).trans (eu5_34))) (u5_36) (((hS93 5 36 rfl).trans (eu5_36))) (wq100) (ewq101) (w34) ((funext (hA94 34 rfl)).trans (ew34)) (w35) ((funext (hA94 35 rfl)).trans (ew35)) (w36) ((funext (hA94 36 rfl)).trans (ew36)) (w37) ((funext (hA94 37 rfl)).trans (ew37)) (show inr (z95) from pz95_0) (h3) (show IMP (((a1) : Int) ≠ 4) (RDQ ((a1)) (sc ((w14)) 0 ((u1_1))) (sc ((w16)) 0 ((u3_2))) Dc ((a2)) ((z95)) ((y98)) (sc ((wq100)) 0 ((y96)))) by assumption) (show IMP (((a1) : Int) = 4) (RDQ (4) (sc ((w14)) 0 ((u1_1))) (sc ((w16)) 0 ((u3_2))) Dc ((a2)) ((z95)) ((F 5 31)) (sc ((wq100)) 0 ((y96))) ∧ CN5 (RDS (ap (sc ((w14)) 0 ((u1_1)))) ((sc ((w14)) 0 ((u1_1))).length : Int) ((a2)) Dc) ((u5_32), (u5_33), (u5_34), (u5_27), (u5_36))) by assumption) (show IMP (((a1) : Int) ≠ 4) (((u5_32), (u5_33), (u5_34), (u5_27), (u5_36)) = ((u5_32), (u5_33), (u5_34), (u5_27), (u5_36))) by assumption) (show (z95) < 0 ∨ (z95) = (y96) from hnn)
  · refine Ew_of (pcₚ := 5) (fun _ => x_aload_n rfl rfl) ?_
    refine w_gT H (o := 0) (t := 3) rfl (H.perm 0 rfl) rfl rfl rfl rfl rfl rfl ?_
    refine Ew_of (pcₚ := 9) (fun _ => x_iload_n rfl rfl) ?_
    refine w_inv H (o := 3) rfl rfl rfl (H.perm 3 rfl) rfl rfl (by rfl) (M374 H (u1_1) ((eu1_1)) (u3_2) ((eu3_2)) (w14) (ew14) (w16) (ew16) (show inr (a2) from h1) (fun z108 σ F104 A105 H hS106 hA107 y109 ey110 y111 ey112 wq113 ewq114 pz108_0 pz108_1 => ⟨rfl, ?_⟩))
    have r115 : (0 : Int) ≤ y109 ∧ y109 ≤ 65536 := rngE (show (0 : Int) ≤ F104 1 3 ∧ F104 1 3 ≤ 65536 from H.frng 1 3) (show F104 1 3 = y109 from (ey110))
    have r116 : (-2147483648 : Int) ≤ y111 ∧ y111 ≤ 2147483647 := rngE (show (-2147483648 : Int) ≤ F104 1 4 ∧ F104 1 4 ≤ 2147483647 from H.frng 1 4) (show F104 1 4 = y111 from (ey112))
    refine Ew_of (pcₚ := 71) (fun _ => x_goto rfl rfl) ?_
    have : IMP (((a1) : Int) ≠ 4) (RDQ ((a1)) (sc ((w14)) 0 ((u1_1))) (sc ((w16)) 0 ((u3_2))) Dc ((a2)) ((z108)) ((y111)) (sc ((wq113)) 0 ((y109)))) := by first | exact fun q => absurd q (by omega) | exact fun _ => by rw [show ((a1) : Int) = 0 by omega]; exact RDQ_0 rfl (by omega) hIn (pz108_1 ⟨by omega, by omega⟩) (fun _ => rfl) | exact fun _ => by rw [show ((a1) : Int) = 1 by omega]; exact RDQ_1 rfl (by omega) hIn (pz95_1 ⟨by omega, by omega⟩) (fun _ => rfl) | exact fun _ => by rw [show ((a1) : Int) = 2 by omega]; exact RDQ_2 rfl (by omega) hIn (pz82_1) (fun _ => rfl) | exact fun _ => by rw [show ((a1) : Int) = 3 by omega]; exact RDQ_3 rfl (by omega) hIn (pz69_1) (fun _ => rfl)
    have : IMP (((a1) : Int) = 4) (RDQ (4) (sc ((w14)) 0 ((u1_1))) (sc ((w16)) 0 ((u3_2))) Dc ((a2)) ((z108)) ((F 5 31)) (sc ((wq113)) 0 ((y109))) ∧ CN5 (RDS (ap (sc ((w14)) 0 ((u1_1)))) ((sc ((w14)) 0 ((u1_1))).length : Int) ((a2)) Dc) ((u5_32), (u5_33), (u5_34), (u5_27), (u5_36))) := by first | exact fun q => absurd q (by omega) | exact fun _ => by obtain ⟨x1, x2, x3, x4, x5, x6⟩ := RDQ_4r (H := sc ((w16)) 0 ((u3_2))) (O := sc ((wq113)) 0 ((y109))) (g := (A 45)) rfl (by omega) hIn hDo pz31_2 (by omega) (fun _ => rfl) rfl; exact ⟨x1, x2, x3, x4, x6, x5⟩
    have : IMP (((a1) : Int) ≠ 4) (((u5_32), (u5_33), (u5_34), (u5_27), (u5_36)) = ((u5_32), (u5_33), (u5_34), (u5_27), (u5_36))) := by first | exact fun q => absurd q (by omega) | exact fun _ => rfl
    have hnn : ((z108) : Int) < 0 ∨ ((z108) : Int) = (y109) := by first | exact pz31_3 | exact RDT_n (pz108_1 ⟨by omega, by omega⟩) | exact RDF_n (pz95_1 ⟨by omega, by omega⟩) | exact RDG_n (pz82_1) | exact RDU_n (pz69_1)
    exact hc71 (z108) _ σ _ _  (rfl) (rfl) H (SF_trans (SF_refl) hS106 (any_sub rfl)) (SA_trans (SA_refl) hA107 (any_subA rfl)) (y109) ((ey110)) (y111) ((ey112)) (u5_27) (((hS106 5 27 rfl).trans (eu5_27))) (F 5 31) ((hS106 5 31 rfl)) (u5_32) (((hS106 5 32 rfl).trans (eu5_32))) (u5_33) (((hS106 5 33 rfl).trans (eu5_33))) (u5_34) (((hS106 5 34 rfl).trans (eu5_34))) (u5_36) (((hS106 5 36 rfl).trans (eu5_36))) (wq113) (ewq114) (w34) ((funext (hA107 34 rfl)).trans (ew34)) (w35) ((funext (hA107 35 rfl)).trans (ew35)) (w36) ((funext (hA107 36 rfl)).trans (ew36)) (w37) ((funext (hA107 37 rfl)).trans (ew37)) (show inr (z108) from pz108_0) (h3) (show IMP (((a1) : Int) ≠ 4) (RDQ ((a1)) (sc ((w14)) 0 ((u1_1))) (sc ((w16)) 0 ((u3_2))) Dc ((a2)) ((z108)) ((y111)) (sc ((wq113)) 0 ((y109)))) by assumption) (show IMP (((a1) : Int) = 4) (RDQ (4) (sc ((w14)) 0 ((u1_1))) (sc ((w16)) 0 ((u3_2))) Dc ((a2)) ((z108)) ((F 5 31)) (sc ((wq113)) 0 ((y109))) ∧ CN5 (RDS (ap (sc ((w14)) 0 ((u1_1)))) ((sc ((w14)) 0 ((u1_1))).length : Int) ((a2)) Dc) ((u5_32), (u5_33), (u5_34), (u5_27), (u5_36))) by assumption) (show IMP (((a1) : Int) ≠ 4) (((u5_32), (u5_33), (u5_34), (u5_27), (u5_36)) = ((u5_32), (u5_33), (u5_34), (u5_27), (u5_36))) by assumption) (show (z108) < 0 ∨ (z108) = (y109) from hnn)


end
section
/-! 99c.ref -/
theorem M85p {σ0 σ : rS} {D N : Nat → Nat} {F : hF} {A : hA} {d c s : Nat} {Q : wQ} (H : HS σ0 σ D N F A) {a1 a2 a3 a4 : Int} (u0_9 : Int) (eu0_9 : F 0 9 = u0_9) (u3_2 : Int) (eu3_2 : F 3 2 = u3_2) (u5_2 : Int) (eu5_2 : F 5 2 = u5_2) (u5_3 : Int) (eu5_3 : F 5 3 = u5_3) (u5_4 : Int) (eu5_4 : F 5 4 = u5_4) (u5_27 : Int) (eu5_27 : F 5 27 = u5_27) (u5_32 : Int) (eu5_32 : F 5 32 = u5_32) (u5_33 : Int) (eu5_33 : F 5 33 = u5_33) (u5_34 : Int) (eu5_34 : F 5 34 = u5_34) (u5_36 : Int) (eu5_36 : F 5 36 = u5_36) (w10 : Int → Int) (ew10 : A 10 = w10) (w11 : Int → Int) (ew11 : A 11 = w11) (w16 : Int → Int) (ew16 : A 16 = w16) (w26 : Int → Int) (ew26 : A 26 = w26) (w27 : Int → Int) (ew27 : A 27 = w27) (w28 : Int → Int) (ew28 : A 28 = w28) (w29 : Int → Int) (ew29 : A 29 = w29) (w30 : Int → Int) (ew30 : A 30 = w30) (w34 : Int → Int) (ew34 : A 34 = w34) (w35 : Int → Int) (ew35 : A 35 = w35) (w36 : Int → Int) (ew36 : A 36 = w36) (w37 : Int → Int) (ew37 : A 37 = w37) (Dc : DcS) (h0 : inr (a1)) (h1 : inr (a2)) (h2 : inr (a3)) (h3 : inr (a4)) (h4 : RT ((w35)) ((w36)) ((w37)) ((w34))) (h5 : DI ((u5_4)) ((w27)) ((w28)) ((w29)) ((w30))) (h6 : RDI Dc ((u5_4)) ((u5_3)) ((w26)) ((u5_2)) ((w27)) ((w28)) ((w29)) ((w30))) (h7 : DCo Dc) (k : ∀ (z : Int) σ Fₚ Aₚ, HS σ0 σ D N Fₚ Aₚ → SF [(0, 9), (1, 1), (1, 3), (1, 4), (3, 12), (3, 14), (3, 15), (3, 16), (4, 2), (4, 8), (4, 9), (4, 10), (4, 11), (5, 10), (5, 19), (5, 25), (5, 26), (5, 27), (5, 28), (5, 29), (5, 30), (5, 31), (5, 32), (5, 33), (5, 34), (5, 35), (5, 36), (5, 39), (5, 40), (5, 41), (5, 42), (5, 43), (5, 44), (5, 45)] F Fₚ → SA [10, 11, 14, 15, 17, 21, 22, 23, 31, 32, 33, 34, 35, 36, 37, 38, 39, 40, 41, 42, 43, 44, 45, 46, 47] A Aₚ → ∀ y0_9 : Int, Fₚ 0 9 = y0_9 → ∀ y5_27 : Int, Fₚ 5 27 = y5_27 → ∀ y5_32 : Int, Fₚ 5 32 = y5_32 → ∀ y5_33 : Int, Fₚ 5 33 = y5_33 → ∀ y5_34 : Int, Fₚ 5 34 = y5_34 → ∀ y5_36 : Int, Fₚ 5 36 = y5_36 → ∀ v10 : Int → Int, Aₚ 10 = v10 → ∀ v11 : Int → Int, Aₚ 11 = v11 → ∀ v34 : Int → Int, Aₚ 34 = v34 → ∀ v35 : Int → Int, Aₚ 35 = v35 → ∀ v36 : Int → Int, Aₚ 36 = v36 → ∀ v37 : Int → Int, Aₚ 37 = v37 → (inr (z)) → (RT ((v35)) ((v36)) ((v37)) ((v34))) → (RDP (rwR ((w10)) ((w11))) (rwR ((v10)) ((v11))) ((a1)) ((a2)) ((a3)) ((a4)) (sc ((w16)) 0 ((u3_2))) Dc ((z)) ((u0_9)) ((y0_9)) ((u5_32), (u5_33), (u5_34), (u5_27), (u5_36)) ((y5_32), (y5_33), (y5_34), (y5_27), (y5_36))) → Q (some (I z)) σ c s) : Ew 85 (d + 12) 0 (rargs 0 [.ref (D 0), I a1, I a2, I a3, I a4]) [] σ c s Q := by
  have r1 : (-2147483648 : Int) ≤ u0_9 ∧ u0_9 ≤ 2147483647 := rngE (show (-2147483648 : Int) ≤ F 0 9 ∧ F 0 9 ≤ 2147483647 from H.frng 0 9) (show F 0 9 = u0_9 from (eu0_9))
  have r2 : (0 : Int) ≤ u3_2 ∧ u3_2 ≤ 65536 := rngE (show (0 : Int) ≤ F 3 2 ∧ F 3 2 ≤ 65536 from H.frng 3 2) (show F 3 2 = u3_2 from (eu3_2))
  have r3 : (0 : Int) ≤ u5_2 ∧ u5_2 ≤ 65536 := rngE (show (0 : Int) ≤ F 5 2 ∧ F 5 2 ≤ 65536 from H.frng 5 2) (show F 5 2 = u5_2 from (eu5_2))
  have r4 : (-2147483648 : Int) ≤ u5_3 ∧ u5_3 ≤ 2147483647 := rngE (show (-2147483648 : Int) ≤ F 5 3 ∧ F 5 3 ≤ 2147483647 from H.frng 5 3) (show F 5 3 = u5_3 from (eu5_3))
  have r5 : (0 : Int) ≤ u5_4 ∧ u5_4 ≤ 1 := rngE (show (0 : Int) ≤ F 5 4 ∧ F 5 4 ≤ 1 from H.frng 5 4) (show F 5 4 = u5_4 from (eu5_4))
  have r6 : (0 : Int) ≤ u5_27 ∧ u5_27 ≤ 65536 := rngE (show (0 : Int) ≤ F 5 27 ∧ F 5 27 ≤ 65536 from H.frng 5 27) (show F 5 27 = u5_27 from (eu5_27))
  have r7 : (-2147483648 : Int) ≤ u5_32 ∧ u5_32 ≤ 2147483647 := rngE (show (-2147483648 : Int) ≤ F 5 32 ∧ F 5 32 ≤ 2147483647 from H.frng 5 32) (show F 5 32 = u5_32 from (eu5_32))
  have r8 : (-2147483648 : Int) ≤ u5_33 ∧ u5_33 ≤ 2147483647 := rngE (show (-2147483648 : Int) ≤ F 5 33 ∧ F 5 33 ≤ 2147483647 from H.frng 5 33) (show F 5 33 = u5_33 from (eu5_33))
  have r9 : (-2147483648 : Int) ≤ u5_34 ∧ u5_34 ≤ 2147483647 := rngE (show (-2147483648 : Int) ≤ F 5 34 ∧ F 5 34 ≤ 2147483647 from H.frng 5 34) (show F 5 34 = u5_34 from (eu5_34))
  have r10 : (-2147483648 : Int) ≤ u5_36 ∧ u5_36 ≤ 2147483647 := rngE (show (-2147483648 : Int) ≤ F 5 36 ∧ F 5 36 ≤ 2147483647 from H.frng 5 36) (show F 5 36 = u5_36 from (eu5_36))
  have hSz : ∀ i, (0 : Int) ≤ (w11) i ∧ (w11) i ≤ 65536 := fun i => by have h1 : (0 : Int) ≤ A 11 i ∧ A 11 i ≤ 65536 := H.arng 11 i; rw [show A 11 = w11 from ew11] at h1; exact h1
  have hs2 := hSz ((a2))
  refine Ew_of (pcₚ := 1) (fun _ => x_iload_n rfl rfl) ?_
  refine w_stat24 rfl rfl (by rfl) (M56p H (show inr (a1) from h0) (fun z15 σ F11 A12 H hS13 hA14 pz15_0 pz15_1 => ⟨rretB rfl pz15_0, ?_⟩))
  refine w_ifeq (t := 34) rfl rfl (show inr (z15) from q_138 pz15_0) (fun b16 => ?_) (fun b16 => ?_)
  · refine Ew_of (pcₚ := 36) (fun _ => x_bipush (z := -50) rfl (by decide)) ?_
    have : RDP (rwR ((w10)) ((w11))) (rwR ((w10)) ((w11))) ((a1)) ((a2)) ((a3)) ((a4)) (sc ((w16)) 0 ((u3_2))) Dc (-50) ((u0_9)) ((u0_9)) ((u5_32), (u5_33), (u5_34), (u5_27), (u5_36)) ((u5_32), (u5_33), (u5_34), (u5_27), (u5_36)) := .inl ⟨fun q => by have := q.1; have := q.2.1; have := q.2.2; unfold okd at *; omega, rfl, fun _ _ _ => rfl, rfl, rfl⟩
    exact w_ireturn rfl (k ((-50)) σ _ _ H (SF_trans (SF_refl) hS13 (any_sub rfl)) (SA_trans (SA_refl) hA14 (any_subA rfl)) (u0_9) (((hS13 0 9 rfl).trans (eu0_9))) (u5_27) (((hS13 5 27 rfl).trans (eu5_27))) (u5_32) (((hS13 5 32 rfl).trans (eu5_32))) (u5_33) (((hS13 5 33 rfl).trans (eu5_33))) (u5_34) (((hS13 5 34 rfl).trans (eu5_34))) (u5_36) (((hS13 5 36 rfl).trans (eu5_36))) (w10) ((funext (hA14 10 rfl)).trans (ew10)) (w11) ((funext (hA14 11 rfl)).trans (ew11)) (w34) ((funext (hA14 34 rfl)).trans (ew34)) (w35) ((funext (hA14 35 rfl)).trans (ew35)) (w36) ((funext (hA14 36 rfl)).trans (ew36)) (w37) ((funext (hA14 37 rfl)).trans (ew37)) (show inr ((-50)) from q_2311) (h4) (show RDP (rwR ((w10)) ((w11))) (rwR ((w10)) ((w11))) (a1) (a2) (a3) (a4) (sc ((w16)) 0 ((u3_2))) Dc (((-50))) ((u0_9)) ((u0_9)) ((u5_32), (u5_33), (u5_34), (u5_27), (u5_36)) ((u5_32), (u5_33), (u5_34), (u5_27), (u5_36)) by assumption))
  · refine Ew_of (pcₚ := 8) (fun _ => x_iload_n rfl rfl) ?_
    refine w_stat24 rfl rfl (by rfl) (M56p H (show inr (a2) from h1) (fun z21 σ F17 A18 H hS19 hA20 pz21_0 pz21_1 => ⟨rretB rfl pz21_0, ?_⟩))
    refine w_ifeq (t := 34) rfl rfl (show inr (z21) from q_138 pz21_0) (fun b22 => ?_) (fun b22 => ?_)
    · refine Ew_of (pcₚ := 36) (fun _ => x_bipush (z := -50) rfl (by decide)) ?_
      have : RDP (rwR ((w10)) ((w11))) (rwR ((w10)) ((w11))) ((a1)) ((a2)) ((a3)) ((a4)) (sc ((w16)) 0 ((u3_2))) Dc (-50) ((u0_9)) ((u0_9)) ((u5_32), (u5_33), (u5_34), (u5_27), (u5_36)) ((u5_32), (u5_33), (u5_34), (u5_27), (u5_36)) := .inl ⟨fun q => by have := q.1; have := q.2.1; have := q.2.2; unfold okd at *; omega, rfl, fun _ _ _ => rfl, rfl, rfl⟩
      exact w_ireturn rfl (k ((-50)) σ _ _ H (SF_trans (SF_trans (SF_refl) hS13 (any_sub rfl)) hS19 (any_sub rfl)) (SA_trans (SA_trans (SA_refl) hA14 (any_subA rfl)) hA20 (any_subA rfl)) (u0_9) ((((hS19 0 9 rfl).trans (hS13 0 9 rfl)).trans (eu0_9))) (u5_27) ((((hS19 5 27 rfl).trans (hS13 5 27 rfl)).trans (eu5_27))) (u5_32) ((((hS19 5 32 rfl).trans (hS13 5 32 rfl)).trans (eu5_32))) (u5_33) ((((hS19 5 33 rfl).trans (hS13 5 33 rfl)).trans (eu5_33))) (u5_34) ((((hS19 5 34 rfl).trans (hS13 5 34 rfl)).trans (eu5_34))) (u5_36) ((((hS19 5 36 rfl).trans (hS13 5 36 rfl)).trans (eu5_36))) (w10) ((funext (hA20 10 rfl)).trans ((funext (hA14 10 rfl)).trans (ew10))) (w11) ((funext (hA20 11 rfl)).trans ((funext (hA14 11 rfl)).trans (ew11))) (w34) ((funext (hA20 34 rfl)).trans ((funext (hA14 34 rfl)).trans (ew34))) (w35) ((funext (hA20 35 rfl)).trans ((funext (hA14 35 rfl)).trans (ew35))) (w36) ((funext (hA20 36 rfl)).trans ((funext (hA14 36 rfl)).trans (ew36))) (w37) ((funext (hA20 37 rfl)).trans ((funext (hA14 37 rfl)).trans (ew37))) (show inr ((-50)) from q_2311) (h4) (show RDP (rwR ((w10)) ((w11))) (rwR ((w10)) ((w11))) (a1) (a2) (a3) (a4) (sc ((w16)) 0 ((u3_2))) Dc (((-50))) ((u0_9)) ((u0_9)) ((u5_32), (u5_33), (u5_34), (u5_27), (u5_36)) ((u5_32), (u5_33), (u5_34), (u5_27), (u5_36)) by assumption))
    · refine Ew_of (pcₚ := 15) (fun _ => x_iload_n rfl rfl) ?_
      refine Ew_of (pcₚ := 16) (fun _ => x_iconst rfl) ?_
      refine Ew_of (pcₚ := 17) (fun _ => x_iconst rfl) ?_
      refine w_stat24 rfl rfl (by rfl) (M67p H (show inr (a3) from h2) (show inr (0) from q_2) (show inr (4) from q_216) (fun z27 σ F23 A24 H hS25 hA26 pz27_0 pz27_1 => ⟨rretB rfl pz27_0, ?_⟩))
      refine w_ifeq (t := 34) rfl rfl (show inr (z27) from q_138 pz27_0) (fun b28 => ?_) (fun b28 => ?_)
      · refine Ew_of (pcₚ := 36) (fun _ => x_bipush (z := -50) rfl (by decide)) ?_
        have : RDP (rwR ((w10)) ((w11))) (rwR ((w10)) ((w11))) ((a1)) ((a2)) ((a3)) ((a4)) (sc ((w16)) 0 ((u3_2))) Dc (-50) ((u0_9)) ((u0_9)) ((u5_32), (u5_33), (u5_34), (u5_27), (u5_36)) ((u5_32), (u5_33), (u5_34), (u5_27), (u5_36)) := .inl ⟨fun q => by have := q.1; have := q.2.1; have := q.2.2; unfold okd at *; omega, rfl, fun _ _ _ => rfl, rfl, rfl⟩
        exact w_ireturn rfl (k ((-50)) σ _ _ H (SF_trans (SF_trans (SF_trans (SF_refl) hS13 (any_sub rfl)) hS19 (any_sub rfl)) hS25 (any_sub rfl)) (SA_trans (SA_trans (SA_trans (SA_refl) hA14 (any_subA rfl)) hA20 (any_subA rfl)) hA26 (any_subA rfl)) (u0_9) (((((hS25 0 9 rfl).trans (hS19 0 9 rfl)).trans (hS13 0 9 rfl)).trans (eu0_9))) (u5_27) (((((hS25 5 27 rfl).trans (hS19 5 27 rfl)).trans (hS13 5 27 rfl)).trans (eu5_27))) (u5_32) (((((hS25 5 32 rfl).trans (hS19 5 32 rfl)).trans (hS13 5 32 rfl)).trans (eu5_32))) (u5_33) (((((hS25 5 33 rfl).trans (hS19 5 33 rfl)).trans (hS13 5 33 rfl)).trans (eu5_33))) (u5_34) (((((hS25 5 34 rfl).trans (hS19 5 34 rfl)).trans (hS13 5 34 rfl)).trans (eu5_34))) (u5_36) (((((hS25 5 36 rfl).trans (hS19 5 36 rfl)).trans (hS13 5 36 rfl)).trans (eu5_36))) (w10) ((funext (hA26 10 rfl)).trans ((funext (hA20 10 rfl)).trans ((funext (hA14 10 rfl)).trans (ew10)))) (w11) ((funext (hA26 11 rfl)).trans ((funext (hA20 11 rfl)).trans ((funext (hA14 11 rfl)).trans (ew11)))) (w34) ((funext (hA26 34 rfl)).trans ((funext (hA20 34 rfl)).trans ((funext (hA14 34 rfl)).trans (ew34)))) (w35) ((funext (hA26 35 rfl)).trans ((funext (hA20 35 rfl)).trans ((funext (hA14 35 rfl)).trans (ew35)))) (w36) ((funext (hA26 36 rfl)).trans ((funext (hA20 36 rfl)).trans ((funext (hA14 36 rfl)).trans (ew36)))) (w37) ((funext (hA26 37 rfl)).trans ((funext (hA20 37 rfl)).trans ((funext (hA14 37 rfl)).trans (ew37)))) (show inr ((-50)) from q_2311) (h4) (show RDP (rwR ((w10)) ((w11))) (rwR ((w10)) ((w11))) (a1) (a2) (a3) (a4) (sc ((w16)) 0 ((u3_2))) Dc (((-50))) ((u0_9)) ((u0_9)) ((u5_32), (u5_33), (u5_34), (u5_27), (u5_36)) ((u5_32), (u5_33), (u5_34), (u5_27), (u5_36)) by assumption))
      · refine Ew_of (pcₚ := 25) (fun _ => x_iload rfl rfl) ?_
        refine Ew_of (pcₚ := 26) (fun _ => x_iconst rfl) ?_
        refine Ew_of (pcₚ := 28) (fun _ => x_ldc (z := 65536) rfl (by decide)) ?_
        refine w_stat24 rfl rfl (by rfl) (M67p H (show inr (a4) from h3) (show inr (0) from q_2) (show inr (65536) from q_52) (fun z33 σ F29 A30 H hS31 hA32 pz33_0 pz33_1 => ⟨rretB rfl pz33_0, ?_⟩))
        refine w_ifne (t := 37) rfl rfl (show inr (z33) from q_138 pz33_0) (fun b34 => ?_) (fun b34 => ?_)
        · refine Ew_of (pcₚ := 38) (fun _ => x_aload_n rfl rfl) ?_
          refine Ew_of (pcₚ := 39) (fun _ => x_iload_n rfl rfl) ?_
          refine w_inv H (o := 0) rfl rfl rfl (H.perm 0 rfl) rfl rfl (by rfl) (M74p H (w10) ((funext (hA32 10 rfl)).trans ((funext (hA26 10 rfl)).trans ((funext (hA20 10 rfl)).trans ((funext (hA14 10 rfl)).trans (ew10))))) (w11) ((funext (hA32 11 rfl)).trans ((funext (hA26 11 rfl)).trans ((funext (hA20 11 rfl)).trans ((funext (hA14 11 rfl)).trans (ew11))))) (show inr (a2) from h1) (show 0 ≤ (a2) ∧ (a2) ≤ 3 by omega) (fun σ F35 A36 H hS37 hA38 y40 ey41 wq42 ewq43 pz39_0 pz39_1 => ⟨rfl, ?_⟩))
          have r44 : (0 : Int) ≤ y40 ∧ y40 ≤ 65536 := rngE (show (0 : Int) ≤ F35 1 1 ∧ F35 1 1 ≤ 65536 from H.frng 1 1) (show F35 1 1 = y40 from (ey41))
          have hld := pz39_1
          refine Ew_of (pcₚ := 43) (fun _ => x_aload_n rfl rfl) ?_
          refine Ew_of (pcₚ := 44) (fun _ => x_iload_n rfl rfl) ?_
          refine Ew_of (pcₚ := 46) (fun _ => x_iload rfl rfl) ?_
          refine w_inv H (o := 0) rfl rfl rfl (H.perm 0 rfl) rfl rfl (by rfl) (M84p H (y40) ((ey41)) (u3_2) (((((((hS37 3 2 rfl).trans (hS31 3 2 rfl)).trans (hS25 3 2 rfl)).trans (hS19 3 2 rfl)).trans (hS13 3 2 rfl)).trans (eu3_2))) (u5_2) (((((((hS37 5 2 rfl).trans (hS31 5 2 rfl)).trans (hS25 5 2 rfl)).trans (hS19 5 2 rfl)).trans (hS13 5 2 rfl)).trans (eu5_2))) (u5_3) (((((((hS37 5 3 rfl).trans (hS31 5 3 rfl)).trans (hS25 5 3 rfl)).trans (hS19 5 3 rfl)).trans (hS13 5 3 rfl)).trans (eu5_3))) (u5_4) (((((((hS37 5 4 rfl).trans (hS31 5 4 rfl)).trans (hS25 5 4 rfl)).trans (hS19 5 4 rfl)).trans (hS13 5 4 rfl)).trans (eu5_4))) (u5_27) (((((((hS37 5 27 rfl).trans (hS31 5 27 rfl)).trans (hS25 5 27 rfl)).trans (hS19 5 27 rfl)).trans (hS13 5 27 rfl)).trans (eu5_27))) (u5_32) (((((((hS37 5 32 rfl).trans (hS31 5 32 rfl)).trans (hS25 5 32 rfl)).trans (hS19 5 32 rfl)).trans (hS13 5 32 rfl)).trans (eu5_32))) (u5_33) (((((((hS37 5 33 rfl).trans (hS31 5 33 rfl)).trans (hS25 5 33 rfl)).trans (hS19 5 33 rfl)).trans (hS13 5 33 rfl)).trans (eu5_33))) (u5_34) (((((((hS37 5 34 rfl).trans (hS31 5 34 rfl)).trans (hS25 5 34 rfl)).trans (hS19 5 34 rfl)).trans (hS13 5 34 rfl)).trans (eu5_34))) (u5_36) (((((((hS37 5 36 rfl).trans (hS31 5 36 rfl)).trans (hS25 5 36 rfl)).trans (hS19 5 36 rfl)).trans (hS13 5 36 rfl)).trans (eu5_36))) (wq42) (ewq43) (w16) ((funext (hA38 16 rfl)).trans ((funext (hA32 16 rfl)).trans ((funext (hA26 16 rfl)).trans ((funext (hA20 16 rfl)).trans ((funext (hA14 16 rfl)).trans (ew16)))))) (w26) ((funext (hA38 26 rfl)).trans ((funext (hA32 26 rfl)).trans ((funext (hA26 26 rfl)).trans ((funext (hA20 26 rfl)).trans ((funext (hA14 26 rfl)).trans (ew26)))))) (w27) ((funext (hA38 27 rfl)).trans ((funext (hA32 27 rfl)).trans ((funext (hA26 27 rfl)).trans ((funext (hA20 27 rfl)).trans ((funext (hA14 27 rfl)).trans (ew27)))))) (w28) ((funext (hA38 28 rfl)).trans ((funext (hA32 28 rfl)).trans ((funext (hA26 28 rfl)).trans ((funext (hA20 28 rfl)).trans ((funext (hA14 28 rfl)).trans (ew28)))))) (w29) ((funext (hA38 29 rfl)).trans ((funext (hA32 29 rfl)).trans ((funext (hA26 29 rfl)).trans ((funext (hA20 29 rfl)).trans ((funext (hA14 29 rfl)).trans (ew29)))))) (w30) ((funext (hA38 30 rfl)).trans ((funext (hA32 30 rfl)).trans ((funext (hA26 30 rfl)).trans ((funext (hA20 30 rfl)).trans ((funext (hA14 30 rfl)).trans (ew30)))))) (w34) ((funext (hA38 34 rfl)).trans ((funext (hA32 34 rfl)).trans ((funext (hA26 34 rfl)).trans ((funext (hA20 34 rfl)).trans ((funext (hA14 34 rfl)).trans (ew34)))))) (w35) ((funext (hA38 35 rfl)).trans ((funext (hA32 35 rfl)).trans ((funext (hA26 35 rfl)).trans ((funext (hA20 35 rfl)).trans ((funext (hA14 35 rfl)).trans (ew35)))))) (w36) ((funext (hA38 36 rfl)).trans ((funext (hA32 36 rfl)).trans ((funext (hA26 36 rfl)).trans ((funext (hA20 36 rfl)).trans ((funext (hA14 36 rfl)).trans (ew36)))))) (w37) ((funext (hA38 37 rfl)).trans ((funext (hA32 37 rfl)).trans ((funext (hA26 37 rfl)).trans ((funext (hA20 37 rfl)).trans ((funext (hA14 37 rfl)).trans (ew37)))))) (Dc) (show inr (a3) from h2) (show inr (a4) from h3) (show 0 ≤ (a3) ∧ (a3) ≤ 4 ∧ 0 ≤ (a4) ∧ (a4) ≤ 65536 by omega) (h4) (show DI ((u5_4)) ((w27)) ((w28)) ((w29)) ((w30)) by assumption) (h6) (show DCo (Dc) by assumption) (fun z49 σ F45 A46 H hS47 hA48 y50 ey51 y52 ey53 y54 ey55 y56 ey57 y58 ey59 y60 ey61 y62 ey63 wq64 ewq65 wq66 ewq67 wq68 ewq69 wq70 ewq71 wq72 ewq73 pz49_0 pz49_1 pz49_2 pz49_3 pz49_4 pz49_5 => ⟨rfl, ?_⟩))
          have r74 : (0 : Int) ≤ y50 ∧ y50 ≤ 65536 := rngE (show (0 : Int) ≤ F45 1 3 ∧ F45 1 3 ≤ 65536 from H.frng 1 3) (show F45 1 3 = y50 from (ey51))
          have r75 : (-2147483648 : Int) ≤ y52 ∧ y52 ≤ 2147483647 := rngE (show (-2147483648 : Int) ≤ F45 1 4 ∧ F45 1 4 ≤ 2147483647 from H.frng 1 4) (show F45 1 4 = y52 from (ey53))
          have r76 : (0 : Int) ≤ y54 ∧ y54 ≤ 65536 := rngE (show (0 : Int) ≤ F45 5 27 ∧ F45 5 27 ≤ 65536 from H.frng 5 27) (show F45 5 27 = y54 from (ey55))
          have r77 : (-2147483648 : Int) ≤ y56 ∧ y56 ≤ 2147483647 := rngE (show (-2147483648 : Int) ≤ F45 5 32 ∧ F45 5 32 ≤ 2147483647 from H.frng 5 32) (show F45 5 32 = y56 from (ey57))
          have r78 : (-2147483648 : Int) ≤ y58 ∧ y58 ≤ 2147483647 := rngE (show (-2147483648 : Int) ≤ F45 5 33 ∧ F45 5 33 ≤ 2147483647 from H.frng 5 33) (show F45 5 33 = y58 from (ey59))
          have r79 : (-2147483648 : Int) ≤ y60 ∧ y60 ≤ 2147483647 := rngE (show (-2147483648 : Int) ≤ F45 5 34 ∧ F45 5 34 ≤ 2147483647 from H.frng 5 34) (show F45 5 34 = y60 from (ey61))
          have r80 : (-2147483648 : Int) ≤ y62 ∧ y62 ≤ 2147483647 := rngE (show (-2147483648 : Int) ≤ F45 5 36 ∧ F45 5 36 ≤ 2147483647 from H.frng 5 36) (show F45 5 36 = y62 from (ey63))
          have hrq := pz49_2
          have hr4 := pz49_3
          have hr5 := pz49_4
          rw [hld] at hrq hr4
          refine Ew_of (pcₚ := 51) (fun _ => x_istore rfl) ?_
          refine Ew_of (pcₚ := 52) (fun _ => x_aload_n rfl (rk_o (rfl) rfl rfl)) ?_
          refine Ew_of (pcₚ := 53) (fun _ => x_aload_n rfl (rk_o (rfl) rfl rfl)) ?_
          refine w_gT H (o := 0) (t := 1) rfl (H.perm 0 rfl) rfl rfl rfl rfl rfl rfl ?_
          refine w_gI H (o := 1) (w := y52) rfl (H.perm 1 rfl) rfl rfl rfl (fun _ => rfl) (ey53) ?_
          refine w_pI H (o := 0) rfl rfl (H.perm 0 rfl) rfl rfl rfl (fun _ => rfl) rfl (show (-2147483648 : Int) ≤ y52 ∧ y52 ≤ 2147483647 from r75) (fun σ H => ?_)
          refine Ew_of (pcₚ := 64) (fun _ => x_iload rfl rk_s) ?_
          refine w_iflt (t := 72) rfl rfl (show inr (z49) from pz49_0) (fun b81 => ?_) (fun b81 => ?_)
          · refine Ew_of (pcₚ := 74) (fun _ => x_iload rfl rk_s) ?_
            have : RDP (rwR ((w10)) ((w11))) (rwR ((w10)) ((w11))) ((a1)) ((a2)) ((a3)) ((a4)) (sc ((w16)) 0 ((u3_2))) Dc ((z49)) ((u0_9)) ((y52)) ((u5_32), (u5_33), (u5_34), (u5_27), (u5_36)) ((y56), (y58), (y60), (y54), (y62)) := by first | exact .inr ⟨⟨⟨by omega, by omega⟩, ⟨by omega, by omega⟩, by omega, by omega, by omega⟩, _, hrq, fun _ => pzMISS_0, fun q => absurd q (by omega), hr4, hr5⟩ | exact .inr ⟨⟨⟨by omega, by omega⟩, ⟨by omega, by omega⟩, by omega, by omega, by omega⟩, _, hrq, fun q => absurd q (by omega), fun _ _ _ _ => rfl, hr4, hr5⟩
            exact w_ireturn rfl (k (z49) σ _ _ H (SF_upd (SF_trans (SF_trans (SF_trans (SF_trans (SF_trans (SF_trans (SF_refl) hS13 (any_sub rfl)) hS19 (any_sub rfl)) hS25 (any_sub rfl)) hS31 (any_sub rfl)) hS37 (any_sub rfl)) hS47 (any_sub rfl)) rfl) (SA_trans (SA_trans (SA_trans (SA_trans (SA_trans (SA_trans (SA_refl) hA14 (any_subA rfl)) hA20 (any_subA rfl)) hA26 (any_subA rfl)) hA32 (any_subA rfl)) hA38 (any_subA rfl)) hA48 (any_subA rfl)) (y52) (rfl) (y54) ((ey55)) (y56) ((ey57)) (y58) ((ey59)) (y60) ((ey61)) (y62) ((ey63)) (w10) ((funext (hA48 10 rfl)).trans ((funext (hA38 10 rfl)).trans ((funext (hA32 10 rfl)).trans ((funext (hA26 10 rfl)).trans ((funext (hA20 10 rfl)).trans ((funext (hA14 10 rfl)).trans (ew10))))))) (w11) ((funext (hA48 11 rfl)).trans ((funext (hA38 11 rfl)).trans ((funext (hA32 11 rfl)).trans ((funext (hA26 11 rfl)).trans ((funext (hA20 11 rfl)).trans ((funext (hA14 11 rfl)).trans (ew11))))))) (wq66) (ewq67) (wq68) (ewq69) (wq70) (ewq71) (wq72) (ewq73) (show inr (z49) from pz49_0) (pz49_1) (show RDP (rwR ((w10)) ((w11))) (rwR ((w10)) ((w11))) (a1) (a2) (a3) (a4) (sc ((w16)) 0 ((u3_2))) Dc ((z49)) ((u0_9)) ((y52)) ((u5_32), (u5_33), (u5_34), (u5_27), (u5_36)) ((y56), (y58), (y60), (y54), (y62)) by assumption))
          · refine Ew_of (pcₚ := 68) (fun _ => x_aload_n rfl (rk_o (rfl) rfl rfl)) ?_
            refine Ew_of (pcₚ := 69) (fun _ => x_iload_n rfl (rk_o (rfl) rfl rfl)) ?_
            refine w_inv H (o := 0) rfl rfl rfl (H.perm 0 rfl) rfl rfl (by rfl) (M75p H (y50) ((ey51)) (w10) ((funext (hA48 10 rfl)).trans ((funext (hA38 10 rfl)).trans ((funext (hA32 10 rfl)).trans ((funext (hA26 10 rfl)).trans ((funext (hA20 10 rfl)).trans ((funext (hA14 10 rfl)).trans (ew10))))))) (w11) ((funext (hA48 11 rfl)).trans ((funext (hA38 11 rfl)).trans ((funext (hA32 11 rfl)).trans ((funext (hA26 11 rfl)).trans ((funext (hA20 11 rfl)).trans ((funext (hA14 11 rfl)).trans (ew11))))))) (wq64) (ewq65) (show inr (a1) from h0) (show 0 ≤ (a1) ∧ (a1) ≤ 3 by omega) (fun σ F82 A83 H hS84 hA85 wq87 ewq88 wq89 ewq90 pz86_0 => ⟨rfl, ?_⟩))
            refine Ew_of (pcₚ := 74) (fun _ => x_iload rfl rk_s) ?_
            have : RDP (rwR ((w10)) ((w11))) (rwR ((wq87)) ((wq89))) ((a1)) ((a2)) ((a3)) ((a4)) (sc ((w16)) 0 ((u3_2))) Dc ((z49)) ((u0_9)) ((y52)) ((u5_32), (u5_33), (u5_34), (u5_27), (u5_36)) ((y56), (y58), (y60), (y54), (y62)) := by first | exact .inr ⟨⟨⟨by omega, by omega⟩, ⟨by omega, by omega⟩, by omega, by omega, by omega⟩, _, hrq, fun _ => pz86_0, fun q => absurd q (by omega), hr4, hr5⟩ | exact .inr ⟨⟨⟨by omega, by omega⟩, ⟨by omega, by omega⟩, by omega, by omega, by omega⟩, _, hrq, fun q => absurd q (by omega), fun _ _ _ _ => rfl, hr4, hr5⟩
            exact w_ireturn rfl (k (z49) σ _ _ H (SF_trans (SF_upd (SF_trans (SF_trans (SF_trans (SF_trans (SF_trans (SF_trans (SF_refl) hS13 (any_sub rfl)) hS19 (any_sub rfl)) hS25 (any_sub rfl)) hS31 (any_sub rfl)) hS37 (any_sub rfl)) hS47 (any_sub rfl)) rfl) hS84 (any_sub rfl)) (SA_trans (SA_trans (SA_trans (SA_trans (SA_trans (SA_trans (SA_trans (SA_refl) hA14 (any_subA rfl)) hA20 (any_subA rfl)) hA26 (any_subA rfl)) hA32 (any_subA rfl)) hA38 (any_subA rfl)) hA48 (any_subA rfl)) hA85 (any_subA rfl)) (y52) ((hS84 0 9 rfl)) (y54) (((hS84 5 27 rfl).trans (ey55))) (y56) (((hS84 5 32 rfl).trans (ey57))) (y58) (((hS84 5 33 rfl).trans (ey59))) (y60) (((hS84 5 34 rfl).trans (ey61))) (y62) (((hS84 5 36 rfl).trans (ey63))) (wq87) (ewq88) (wq89) (ewq90) (wq66) ((funext (hA85 34 rfl)).trans (ewq67)) (wq68) ((funext (hA85 35 rfl)).trans (ewq69)) (wq70) ((funext (hA85 36 rfl)).trans (ewq71)) (wq72) ((funext (hA85 37 rfl)).trans (ewq73)) (show inr (z49) from pz49_0) (pz49_1) (show RDP (rwR ((w10)) ((w11))) (rwR ((wq87)) ((wq89))) (a1) (a2) (a3) (a4) (sc ((w16)) 0 ((u3_2))) Dc ((z49)) ((u0_9)) ((y52)) ((u5_32), (u5_33), (u5_34), (u5_27), (u5_36)) ((y56), (y58), (y60), (y54), (y62)) by assumption))
        · refine Ew_of (pcₚ := 36) (fun _ => x_bipush (z := -50) rfl (by decide)) ?_
          have : RDP (rwR ((w10)) ((w11))) (rwR ((w10)) ((w11))) ((a1)) ((a2)) ((a3)) ((a4)) (sc ((w16)) 0 ((u3_2))) Dc (-50) ((u0_9)) ((u0_9)) ((u5_32), (u5_33), (u5_34), (u5_27), (u5_36)) ((u5_32), (u5_33), (u5_34), (u5_27), (u5_36)) := .inl ⟨fun q => by have := q.1; have := q.2.1; have := q.2.2; unfold okd at *; omega, rfl, fun _ _ _ => rfl, rfl, rfl⟩
          exact w_ireturn rfl (k ((-50)) σ _ _ H (SF_trans (SF_trans (SF_trans (SF_trans (SF_refl) hS13 (any_sub rfl)) hS19 (any_sub rfl)) hS25 (any_sub rfl)) hS31 (any_sub rfl)) (SA_trans (SA_trans (SA_trans (SA_trans (SA_refl) hA14 (any_subA rfl)) hA20 (any_subA rfl)) hA26 (any_subA rfl)) hA32 (any_subA rfl)) (u0_9) ((((((hS31 0 9 rfl).trans (hS25 0 9 rfl)).trans (hS19 0 9 rfl)).trans (hS13 0 9 rfl)).trans (eu0_9))) (u5_27) ((((((hS31 5 27 rfl).trans (hS25 5 27 rfl)).trans (hS19 5 27 rfl)).trans (hS13 5 27 rfl)).trans (eu5_27))) (u5_32) ((((((hS31 5 32 rfl).trans (hS25 5 32 rfl)).trans (hS19 5 32 rfl)).trans (hS13 5 32 rfl)).trans (eu5_32))) (u5_33) ((((((hS31 5 33 rfl).trans (hS25 5 33 rfl)).trans (hS19 5 33 rfl)).trans (hS13 5 33 rfl)).trans (eu5_33))) (u5_34) ((((((hS31 5 34 rfl).trans (hS25 5 34 rfl)).trans (hS19 5 34 rfl)).trans (hS13 5 34 rfl)).trans (eu5_34))) (u5_36) ((((((hS31 5 36 rfl).trans (hS25 5 36 rfl)).trans (hS19 5 36 rfl)).trans (hS13 5 36 rfl)).trans (eu5_36))) (w10) ((funext (hA32 10 rfl)).trans ((funext (hA26 10 rfl)).trans ((funext (hA20 10 rfl)).trans ((funext (hA14 10 rfl)).trans (ew10))))) (w11) ((funext (hA32 11 rfl)).trans ((funext (hA26 11 rfl)).trans ((funext (hA20 11 rfl)).trans ((funext (hA14 11 rfl)).trans (ew11))))) (w34) ((funext (hA32 34 rfl)).trans ((funext (hA26 34 rfl)).trans ((funext (hA20 34 rfl)).trans ((funext (hA14 34 rfl)).trans (ew34))))) (w35) ((funext (hA32 35 rfl)).trans ((funext (hA26 35 rfl)).trans ((funext (hA20 35 rfl)).trans ((funext (hA14 35 rfl)).trans (ew35))))) (w36) ((funext (hA32 36 rfl)).trans ((funext (hA26 36 rfl)).trans ((funext (hA20 36 rfl)).trans ((funext (hA14 36 rfl)).trans (ew36))))) (w37) ((funext (hA32 37 rfl)).trans ((funext (hA26 37 rfl)).trans ((funext (hA20 37 rfl)).trans ((funext (hA14 37 rfl)).trans (ew37))))) (show inr ((-50)) from q_2311) (h4) (show RDP (rwR ((w10)) ((w11))) (rwR ((w10)) ((w11))) (a1) (a2) (a3) (a4) (sc ((w16)) 0 ((u3_2))) Dc (((-50))) ((u0_9)) ((u0_9)) ((u5_32), (u5_33), (u5_34), (u5_27), (u5_36)) ((u5_32), (u5_33), (u5_34), (u5_27), (u5_36)) by assumption))


end
section
/-! 99d.ref -/
theorem M82p {σ0 σ : rS} {D N : Nat → Nat} {F : hF} {A : hA} {d c s : Nat} {Q : wQ} (H : HS σ0 σ D N F A) {a1 a2 : Int} (u1_3 : Int) (eu1_3 : F 1 3 = u1_3) (u3_2 : Int) (eu3_2 : F 3 2 = u3_2) (u5_2 : Int) (eu5_2 : F 5 2 = u5_2) (u5_3 : Int) (eu5_3 : F 5 3 = u5_3) (u5_4 : Int) (eu5_4 : F 5 4 = u5_4) (u5_27 : Int) (eu5_27 : F 5 27 = u5_27) (u5_32 : Int) (eu5_32 : F 5 32 = u5_32) (u5_33 : Int) (eu5_33 : F 5 33 = u5_33) (u5_34 : Int) (eu5_34 : F 5 34 = u5_34) (u5_36 : Int) (eu5_36 : F 5 36 = u5_36) (w10 : Int → Int) (ew10 : A 10 = w10) (w11 : Int → Int) (ew11 : A 11 = w11) (w15 : Int → Int) (ew15 : A 15 = w15) (w16 : Int → Int) (ew16 : A 16 = w16) (w26 : Int → Int) (ew26 : A 26 = w26) (w27 : Int → Int) (ew27 : A 27 = w27) (w28 : Int → Int) (ew28 : A 28 = w28) (w29 : Int → Int) (ew29 : A 29 = w29) (w30 : Int → Int) (ew30 : A 30 = w30) (w34 : Int → Int) (ew34 : A 34 = w34) (w35 : Int → Int) (ew35 : A 35 = w35) (w36 : Int → Int) (ew36 : A 36 = w36) (w37 : Int → Int) (ew37 : A 37 = w37) (Dc : DcS) (h0 : inr (a1)) (h1 : inr (a2)) (h2 : 0 ≤ (a1) ∧ (a1) ≤ 3 ∧ 0 ≤ (a2) ∧ (a2) ≤ 4) (h3 : RT ((w35)) ((w36)) ((w37)) ((w34))) (h4 : DI ((u5_4)) ((w27)) ((w28)) ((w29)) ((w30))) (h5 : RDI Dc ((u5_4)) ((u5_3)) ((w26)) ((u5_2)) ((w27)) ((w28)) ((w29)) ((w30))) (h6 : DCo Dc) (k : ∀ (z : Int) σ Fₚ Aₚ, HS σ0 σ D N Fₚ Aₚ → SF [(1, 1), (1, 3), (1, 4), (3, 12), (3, 14), (3, 15), (3, 16), (4, 2), (4, 8), (4, 9), (4, 10), (4, 11), (5, 10), (5, 19), (5, 25), (5, 26), (5, 27), (5, 28), (5, 29), (5, 30), (5, 31), (5, 32), (5, 33), (5, 34), (5, 35), (5, 36), (5, 39), (5, 40), (5, 41), (5, 42), (5, 43), (5, 44), (5, 45)] F Fₚ → SA [13, 14, 15, 17, 21, 22, 23, 31, 32, 33, 34, 35, 36, 37, 38, 39, 40, 41, 42, 43, 44, 45, 46, 47] A Aₚ → ∀ y1_3 : Int, Fₚ 1 3 = y1_3 → ∀ y5_27 : Int, Fₚ 5 27 = y5_27 → ∀ y5_32 : Int, Fₚ 5 32 = y5_32 → ∀ y5_33 : Int, Fₚ 5 33 = y5_33 → ∀ y5_34 : Int, Fₚ 5 34 = y5_34 → ∀ y5_36 : Int, Fₚ 5 36 = y5_36 → ∀ v15 : Int → Int, Aₚ 15 = v15 → ∀ v34 : Int → Int, Aₚ 34 = v34 → ∀ v35 : Int → Int, Aₚ 35 = v35 → ∀ v36 : Int → Int, Aₚ 36 = v36 → ∀ v37 : Int → Int, Aₚ 37 = v37 → ((z) = 0 ∨ (z) = 1) → (RT ((v35)) ((v36)) ((v37)) ((v34))) → ((y1_3) = (u1_3)) → (sc ((v15)) 0 ((y1_3)) = sc ((w15)) 0 ((u1_3))) → (CMB ((a2)) (sc ((w15)) 0 ((u1_3))) (sc ((w16)) 0 ((u3_2))) Dc (rwR ((w10)) ((w11)) ((a1))) ((z))) → (((y5_32), (y5_33), (y5_34), (y5_27), (y5_36)) = ((u5_32), (u5_33), (u5_34), (u5_27), (u5_36))) → Q (some (I z)) σ c s) : Ew 82 (d + 12) 0 (rargs 0 [.ref (D 0), I a1, I a2]) [] σ c s Q := by
  have r1 : (0 : Int) ≤ u1_3 ∧ u1_3 ≤ 65536 := rngE (show (0 : Int) ≤ F 1 3 ∧ F 1 3 ≤ 65536 from H.frng 1 3) (show F 1 3 = u1_3 from (eu1_3))
  have r2 : (0 : Int) ≤ u3_2 ∧ u3_2 ≤ 65536 := rngE (show (0 : Int) ≤ F 3 2 ∧ F 3 2 ≤ 65536 from H.frng 3 2) (show F 3 2 = u3_2 from (eu3_2))
  have r3 : (0 : Int) ≤ u5_2 ∧ u5_2 ≤ 65536 := rngE (show (0 : Int) ≤ F 5 2 ∧ F 5 2 ≤ 65536 from H.frng 5 2) (show F 5 2 = u5_2 from (eu5_2))
  have r4 : (-2147483648 : Int) ≤ u5_3 ∧ u5_3 ≤ 2147483647 := rngE (show (-2147483648 : Int) ≤ F 5 3 ∧ F 5 3 ≤ 2147483647 from H.frng 5 3) (show F 5 3 = u5_3 from (eu5_3))
  have r5 : (0 : Int) ≤ u5_4 ∧ u5_4 ≤ 1 := rngE (show (0 : Int) ≤ F 5 4 ∧ F 5 4 ≤ 1 from H.frng 5 4) (show F 5 4 = u5_4 from (eu5_4))
  have r6 : (0 : Int) ≤ u5_27 ∧ u5_27 ≤ 65536 := rngE (show (0 : Int) ≤ F 5 27 ∧ F 5 27 ≤ 65536 from H.frng 5 27) (show F 5 27 = u5_27 from (eu5_27))
  have r7 : (-2147483648 : Int) ≤ u5_32 ∧ u5_32 ≤ 2147483647 := rngE (show (-2147483648 : Int) ≤ F 5 32 ∧ F 5 32 ≤ 2147483647 from H.frng 5 32) (show F 5 32 = u5_32 from (eu5_32))
  have r8 : (-2147483648 : Int) ≤ u5_33 ∧ u5_33 ≤ 2147483647 := rngE (show (-2147483648 : Int) ≤ F 5 33 ∧ F 5 33 ≤ 2147483647 from H.frng 5 33) (show F 5 33 = u5_33 from (eu5_33))
  have r9 : (-2147483648 : Int) ≤ u5_34 ∧ u5_34 ≤ 2147483647 := rngE (show (-2147483648 : Int) ≤ F 5 34 ∧ F 5 34 ≤ 2147483647 from H.frng 5 34) (show F 5 34 = u5_34 from (eu5_34))
  have r10 : (-2147483648 : Int) ≤ u5_36 ∧ u5_36 ≤ 2147483647 := rngE (show (-2147483648 : Int) ≤ F 5 36 ∧ F 5 36 ≤ 2147483647 from H.frng 5 36) (show F 5 36 = u5_36 from (eu5_36))
  have hOu : ∀ i, (0 : Int) ≤ (w15) i ∧ (w15) i ≤ 255 := fun i => by have h1 : (0 : Int) ≤ A 15 i ∧ A 15 i ≤ 255 := H.arng 15 i; rw [show A 15 = w15 from ew15] at h1; exact h1
  have hSz : ∀ i, (0 : Int) ≤ (w11) i ∧ (w11) i ≤ 65536 := fun i => by have h1 : (0 : Int) ≤ A 11 i ∧ A 11 i ≤ 65536 := H.arng 11 i; rw [show A 11 = w11 from ew11] at h1; exact h1
  have hRo : ∀ i, (0 : Int) ≤ (w10) i ∧ (w10) i ≤ 255 := fun i => by have h1 : (0 : Int) ≤ A 10 i ∧ A 10 i ≤ 255 := H.arng 10 i; rw [show A 10 = w10 from ew10] at h1; exact h1
  have hsa := hSz ((a1))
  have hln : ((rwR ((w10)) ((w11)) ((a1))).length : Int) = ((w11)) ((a1)) := rwR_len (hSz ((a1))).1
  refine Ew_of (pcₚ := 1) (fun _ => x_aload_n rfl rfl) ?_
  refine w_gT H (o := 0) (t := 1) rfl (H.perm 0 rfl) rfl rfl rfl rfl rfl rfl ?_
  refine w_gI H (o := 1) (w := u1_3) rfl (H.perm 1 rfl) rfl rfl rfl (fun _ => rfl) (eu1_3) ?_
  refine Ew_of (pcₚ := 8) (fun _ => x_istore_n rfl) ?_
  refine Ew_of (pcₚ := 9) (fun _ => x_iconst rfl) ?_
  refine Ew_of (pcₚ := 11) (fun _ => x_istore rfl) ?_
  have : CPY ((w15)) ((A 14)) 0 0 (0) := CPY_0
  suffices hl11 : ∀ (m : Nat), ∀ (ls : rO) (σ : rS) (F_11 : hF) (A_11 : hA) (x11_4 : Int), rlook ls 0 = some (.ref (D 0)) → rlook ls 1 = some (I (a1)) → rlook ls 2 = some (I (a2)) → rlook ls 3 = some (I (u1_3)) → rlook ls 4 = some (I (x11_4)) → HS σ0 σ D N F_11 A_11 → SF [] F F_11 → SA [14] A A_11 → ∀ w11_14 : Int → Int, A_11 14 = w11_14 → (inr (x11_4)) → ((0) ≤ (x11_4)) → ((x11_4) ≤ (0) ∨ (x11_4) ≤ ((u1_3))) → (CPY ((w15)) ((w11_14)) 0 0 ((x11_4))) → (((u1_3)) - (x11_4)).toNat = m → Ew 82 (d + 12) 11 ls [] σ c s Q from
    hl11 _ _ σ _ _ (0) (rk_o (rk_o (rfl) rfl rfl) rfl rfl) (rk_o (rk_o (rfl) rfl rfl) rfl rfl) (rk_o (rk_o (rfl) rfl rfl) rfl rfl) (rk_o (rk_s) rfl rfl) (rk_s) H (SF_refl) (SA_refl)  (A 14) (rfl) (show inr (0) from q_2) (show (0) ≤ (0) from q_1) (show (0) ≤ (0) ∨ (0) ≤ ((u1_3)) from q_5) (show CPY ((w15)) ((A 14)) 0 0 ((0)) by assumption) rfl
  as_aux_lemma =>
  intro m
  induction m using Nat.strongRecOn with
  | _ m ih11 =>
    intro ls σ F_11 A_11 x11_4 l11_0 l11_1 l11_2 l11_3 l11_4 H hS_11 hA_11  w11_14 ew11_14 j11_0 j11_1 j11_2 j11_3 hm11
    have j11_c : CPY ((w15)) ((w11_14)) 0 0 ((x11_4)) := j11_3
    refine Ew_of (pcₚ := 13) (fun _ => x_iload rfl l11_4) ?_
    refine Ew_of (pcₚ := 14) (fun _ => x_iload_n rfl l11_3) ?_
    refine w_icmpge (t := 43) rfl rfl (show inr (x11_4) from j11_0) (show inr (u1_3) from q_286 r1) (fun b11 => ?_) (fun b11 => ?_)
    · refine Ew_of (pcₚ := 44) (fun _ => x_aload_n rfl l11_0) ?_
      refine w_gT H (o := 0) (t := 1) rfl (H.perm 0 rfl) rfl rfl rfl rfl rfl rfl ?_
      refine Ew_of (pcₚ := 48) (fun _ => x_iload_n rfl l11_3) ?_
      refine w_pI H (o := 1) rfl rfl (H.perm 1 rfl) rfl rfl rfl (fun _ => rfl) rfl (show (0 : Int) ≤ u1_3 ∧ u1_3 ≤ 65536 from r1) (fun σ H => ?_)
      have hin : sc ((w11_14)) 0 ((u1_3)) = sc ((w15)) 0 ((u1_3)) := CPY_sc j11_c (by omega) (by omega)
      refine Ew_of (pcₚ := 52) (fun _ => x_iconst rfl) ?_
      refine Ew_of (pcₚ := 54) (fun _ => x_istore rfl) ?_
      have : IMP ((0 : Int) < 0) (((A 13)) 0 = (u5_32)) := fun q => absurd q (by omega)
      have : IMP ((1 : Int) < 0) (((A 13)) 1 = (u5_33)) := fun q => absurd q (by omega)
      have : IMP ((2 : Int) < 0) (((A 13)) 2 = (u5_34)) := fun q => absurd q (by omega)
      have : IMP ((3 : Int) < 0) (((A 13)) 3 = (u5_27)) := fun q => absurd q (by omega)
      have : IMP ((4 : Int) < 0) (((A 13)) 4 = (u5_36)) := fun q => absurd q (by omega)
      suffices hl54 : ∀ (m : Nat), ∀ (ls : rO) (σ : rS) (F_54 : hF) (A_54 : hA) (x54_4 : Int), rlook ls 0 = some (.ref (D 0)) → rlook ls 1 = some (I (a1)) → rlook ls 2 = some (I (a2)) → rlook ls 3 = some (I (u1_3)) → rlook ls 4 = some (I (x54_4)) → HS σ0 σ D N F_54 A_54 → SF [] (updF F_11 1 1 (u1_3)) F_54 → SA [13] A_11 A_54 → ∀ w54_13 : Int → Int, A_54 13 = w54_13 → (inr (x54_4)) → ((0) ≤ (x54_4)) → ((x54_4) ≤ (0) ∨ (x54_4) ≤ (5)) → (3 < (x54_4) → 0 ≤ ((w54_13)) 3 ∧ ((w54_13)) 3 ≤ 65536) → (IMP ((0 : Int) < (x54_4)) (((w54_13)) 0 = (u5_32))) → (IMP ((1 : Int) < (x54_4)) (((w54_13)) 1 = (u5_33))) → (IMP ((2 : Int) < (x54_4)) (((w54_13)) 2 = (u5_34))) → (IMP ((3 : Int) < (x54_4)) (((w54_13)) 3 = (u5_27))) → (IMP ((4 : Int) < (x54_4)) (((w54_13)) 4 = (u5_36))) → ((5) - (x54_4)).toNat = m → Ew 82 (d + 12) 54 ls [] σ c s Q from
        hl54 _ _ σ _ _ (0) (rk_o (l11_0) rfl rfl) (rk_o (l11_1) rfl rfl) (rk_o (l11_2) rfl rfl) (rk_o (l11_3) rfl rfl) (rk_s) H (SF_refl) (SA_refl)  (A 13) (funext (hA_11 13 rfl)) (show inr (0) from q_2) (show (0) ≤ (0) from q_1) (show (0) ≤ (0) ∨ (0) ≤ (5) from q_2371) (show 3 < (0) → 0 ≤ ((A 13)) 3 ∧ ((A 13)) 3 ≤ 65536 from q_2370) (show IMP ((0 : Int) < (0)) (((A 13)) 0 = (u5_32)) by assumption) (show IMP ((1 : Int) < (0)) (((A 13)) 1 = (u5_33)) by assumption) (show IMP ((2 : Int) < (0)) (((A 13)) 2 = (u5_34)) by assumption) (show IMP ((3 : Int) < (0)) (((A 13)) 3 = (u5_27)) by assumption) (show IMP ((4 : Int) < (0)) (((A 13)) 4 = (u5_36)) by assumption) rfl
      as_aux_lemma =>
      intro m
      induction m using Nat.strongRecOn with
      | _ m ih54 =>
        intro ls σ F_54 A_54 x54_4 l54_0 l54_1 l54_2 l54_3 l54_4 H hS_54 hA_54  w54_13 ew54_13 j54_0 j54_1 j54_2 j54_3 j54_4 j54_5 j54_6 j54_7 j54_8 hm54
        have j54_0 : IMP ((0 : Int) < (x54_4)) (((w54_13)) 0 = (u5_32)) := j54_4
        have j54_1 : IMP ((1 : Int) < (x54_4)) (((w54_13)) 1 = (u5_33)) := j54_5
        have j54_2 : IMP ((2 : Int) < (x54_4)) (((w54_13)) 2 = (u5_34)) := j54_6
        have j54_3 : IMP ((3 : Int) < (x54_4)) (((w54_13)) 3 = (u5_27)) := j54_7
        have j54_4 : IMP ((4 : Int) < (x54_4)) (((w54_13)) 4 = (u5_36)) := j54_8
        refine Ew_of (pcₚ := 56) (fun _ => x_iload rfl l54_4) ?_
        refine Ew_of (pcₚ := 57) (fun _ => x_iconst rfl) ?_
        refine w_icmpge (t := 79) rfl rfl (show inr (x54_4) by omega) (show inr (5) from q_727) (fun b12 => ?_) (fun b12 => ?_)
        · have hK0 : ((w54_13)) 0 = (u5_32) := j54_0 (by omega)
          have hK1 : ((w54_13)) 1 = (u5_33) := j54_1 (by omega)
          have hK2 : ((w54_13)) 2 = (u5_34) := j54_2 (by omega)
          have hK3 : ((w54_13)) 3 = (u5_27) := j54_3 (by omega)
          have hK4 : ((w54_13)) 4 = (u5_36) := j54_4 (by omega)
          refine Ew_of (pcₚ := 80) (fun _ => x_aload_n rfl l54_0) ?_
          refine Ew_of (pcₚ := 81) (fun _ => x_iload_n rfl l54_2) ?_
          refine Ew_of (pcₚ := 82) (fun _ => x_aload_n rfl l54_0) ?_
          refine w_gT H (o := 0) (t := 11) rfl (H.perm 0 rfl) rfl rfl rfl rfl rfl rfl ?_
          refine Ew_of (pcₚ := 86) (fun _ => x_iload_n rfl l54_1) ?_
          refine w_lI H (o := 11) (n := 4) rfl (H.perm 11 rfl) rfl rfl (H.fix 11 rfl rfl) (show 0 ≤ a1 ∧ a1 < ((4 : Nat) : Int) from q_2372 h2) (by decide) (fun v13 ev13 qv13 => ?_)
          have qv13 : (0 : Int) ≤ v13 ∧ v13 ≤ 65536 := qv13
          have ev13 : (w11) (a1) = v13 := (congrFun ((funext (hA_54 11 rfl)).trans ((funext (hA_11 11 rfl)).trans (ew11))) (a1)).symm.trans ev13
          have hv86 := ev13
          refine w_inv H (o := 0) rfl rfl rfl (H.perm 0 rfl) rfl rfl (by rfl) (M84p H (u1_3) ((hS_54 1 1 rfl)) (u3_2) ((((hS_54 3 2 rfl).trans (hS_11 3 2 rfl)).trans (eu3_2))) (u5_2) ((((hS_54 5 2 rfl).trans (hS_11 5 2 rfl)).trans (eu5_2))) (u5_3) ((((hS_54 5 3 rfl).trans (hS_11 5 3 rfl)).trans (eu5_3))) (u5_4) ((((hS_54 5 4 rfl).trans (hS_11 5 4 rfl)).trans (eu5_4))) (u5_27) ((((hS_54 5 27 rfl).trans (hS_11 5 27 rfl)).trans (eu5_27))) (u5_32) ((((hS_54 5 32 rfl).trans (hS_11 5 32 rfl)).trans (eu5_32))) (u5_33) ((((hS_54 5 33 rfl).trans (hS_11 5 33 rfl)).trans (eu5_33))) (u5_34) ((((hS_54 5 34 rfl).trans (hS_11 5 34 rfl)).trans (eu5_34))) (u5_36) ((((hS_54 5 36 rfl).trans (hS_11 5 36 rfl)).trans (eu5_36))) (w11_14) ((funext (hA_54 14 rfl)).trans (ew11_14)) (w16) ((funext (hA_54 16 rfl)).trans ((funext (hA_11 16 rfl)).trans (ew16))) (w26) ((funext (hA_54 26 rfl)).trans ((funext (hA_11 26 rfl)).trans (ew26))) (w27) ((funext (hA_54 27 rfl)).trans ((funext (hA_11 27 rfl)).trans (ew27))) (w28) ((funext (hA_54 28 rfl)).trans ((funext (hA_11 28 rfl)).trans (ew28))) (w29) ((funext (hA_54 29 rfl)).trans ((funext (hA_11 29 rfl)).trans (ew29))) (w30) ((funext (hA_54 30 rfl)).trans ((funext (hA_11 30 rfl)).trans (ew30))) (w34) ((funext (hA_54 34 rfl)).trans ((funext (hA_11 34 rfl)).trans (ew34))) (w35) ((funext (hA_54 35 rfl)).trans ((funext (hA_11 35 rfl)).trans (ew35))) (w36) ((funext (hA_54 36 rfl)).trans ((funext (hA_11 36 rfl)).trans (ew36))) (w37) ((funext (hA_54 37 rfl)).trans ((funext (hA_11 37 rfl)).trans (ew37))) (Dc) (show inr (a2) from h1) (show inr (v13) from q_286 qv13) (show 0 ≤ (a2) ∧ (a2) ≤ 4 ∧ 0 ≤ (v13) ∧ (v13) ≤ 65536 from q_2373 h2 qv13) (h3) (show DI ((u5_4)) ((w27)) ((w28)) ((w29)) ((w30)) by assumption) (h5) (show DCo (Dc) by assumption) (fun z18 σ F14 A15 H hS16 hA17 y19 ey20 y21 ey22 y23 ey24 y25 ey26 y27 ey28 y29 ey30 y31 ey32 wq33 ewq34 wq35 ewq36 wq37 ewq38 wq39 ewq40 wq41 ewq42 pz18_0 pz18_1 pz18_2 pz18_3 pz18_4 pz18_5 => ⟨rfl, ?_⟩))
          have r43 : (0 : Int) ≤ y19 ∧ y19 ≤ 65536 := rngE (show (0 : Int) ≤ F14 1 3 ∧ F14 1 3 ≤ 65536 from H.frng 1 3) (show F14 1 3 = y19 from (ey20))
          have r44 : (-2147483648 : Int) ≤ y21 ∧ y21 ≤ 2147483647 := rngE (show (-2147483648 : Int) ≤ F14 1 4 ∧ F14 1 4 ≤ 2147483647 from H.frng 1 4) (show F14 1 4 = y21 from (ey22))
          have r45 : (0 : Int) ≤ y23 ∧ y23 ≤ 65536 := rngE (show (0 : Int) ≤ F14 5 27 ∧ F14 5 27 ≤ 65536 from H.frng 5 27) (show F14 5 27 = y23 from (ey24))
          have r46 : (-2147483648 : Int) ≤ y25 ∧ y25 ≤ 2147483647 := rngE (show (-2147483648 : Int) ≤ F14 5 32 ∧ F14 5 32 ≤ 2147483647 from H.frng 5 32) (show F14 5 32 = y25 from (ey26))
          have r47 : (-2147483648 : Int) ≤ y27 ∧ y27 ≤ 2147483647 := rngE (show (-2147483648 : Int) ≤ F14 5 33 ∧ F14 5 33 ≤ 2147483647 from H.frng 5 33) (show F14 5 33 = y27 from (ey28))
          have r48 : (-2147483648 : Int) ≤ y29 ∧ y29 ≤ 2147483647 := rngE (show (-2147483648 : Int) ≤ F14 5 34 ∧ F14 5 34 ≤ 2147483647 from H.frng 5 34) (show F14 5 34 = y29 from (ey30))
          have r49 : (-2147483648 : Int) ≤ y31 ∧ y31 ≤ 2147483647 := rngE (show (-2147483648 : Int) ≤ F14 5 36 ∧ F14 5 36 ≤ 2147483647 from H.frng 5 36) (show F14 5 36 = y31 from (ey32))
          have hrq := pz18_2
          rw [hin] at hrq
          obtain ⟨qr, hqr⟩ : ∃ q : Int, q = (z18) := ⟨_, rfl⟩
          have hrq2 : RDQ ((a2)) (sc ((w15)) 0 ((u1_3))) (sc ((w16)) 0 ((u3_2))) Dc (((rwR ((w10)) ((w11)) ((a1))).length : Int)) (qr) ((y21)) (sc ((wq33)) 0 ((y19))) := by rw [hln, hv86, hqr]; exact hrq
          have hro : qr < 0 ∨ qr = (y19) := by rw [hqr]; exact pz18_5
          refine Ew_of (pcₚ := 91) (fun _ => x_aload_n rfl l54_0) ?_
          refine w_gT H (o := 0) (t := 11) rfl (H.perm 0 rfl) rfl rfl rfl rfl rfl rfl ?_
          refine Ew_of (pcₚ := 95) (fun _ => x_iload_n rfl l54_1) ?_
          refine w_lI H (o := 11) (n := 4) rfl (H.perm 11 rfl) rfl rfl (H.fix 11 rfl rfl) (show 0 ≤ a1 ∧ a1 < ((4 : Nat) : Int) from q_2372 h2) (by decide) (fun v50 ev50 qv50 => ?_)
          have qv50 : (0 : Int) ≤ v50 ∧ v50 ≤ 65536 := qv50
          have ev50 : (w11) (a1) = v50 := (congrFun ((funext (hA17 11 rfl)).trans ((funext (hA_54 11 rfl)).trans ((funext (hA_11 11 rfl)).trans (ew11)))) (a1)).symm.trans ev50
          have hv95 := ev50
          have hc104 : ∀ (tc104_0 : Int), ∀ (ls : rO) (σ : rS) (F_c104 : hF) (A_c104 : hA) , rlook ls 0 = some (.ref (D 0)) → rlook ls 1 = some (I (a1)) → rlook ls 3 = some (I (u1_3)) → HS σ0 σ D N F_c104 A_c104 → SF [] F14 F_c104 → SA [] A15 A_c104 → (inr (tc104_0)) → (((z18) ≠ (v50) ∧ (tc104_0) = (0)) ∨ ((z18) = (v50) ∧ (tc104_0) = (1))) → Ew 82 (d + 12) 104 ls [I (tc104_0)] σ c s Q := by
           as_aux_lemma =>
            intro tc104_0 ls σ F_c104 A_c104  lc104_0 lc104_1 lc104_3 H hS_c104 hA_c104   jc104_0 jc104_1
            refine Ew_of (pcₚ := 106) (fun _ => x_istore rfl) ?_
            refine Ew_of (pcₚ := 107) (fun _ => x_iconst rfl) ?_
            refine Ew_of (pcₚ := 109) (fun _ => x_istore rfl) ?_
            have : IMP (((tc104_0) : Int) = 1) (qr = ((w11)) ((a1)) ∧ ∀ k, 0 ≤ k → k < 0 → ((wq33)) k = ((w10)) (65536 * (a1) + k)) := fun q => ⟨by omega, fun k a b => absurd b (by omega)⟩
            have : IMP (((tc104_0) : Int) = 0) (¬ (qr = ((w11)) ((a1)) ∧ sc ((wq33)) 0 ((y19)) = rwR ((w10)) ((w11)) ((a1)))) := fun q w => absurd w.1 (by omega)
            suffices hl109 : ∀ (m : Nat), ∀ (ls : rO) (σ : rS) (F_109 : hF) (A_109 : hA) (x109_4 : Int) (x109_5 : Int), rlook ls 0 = some (.ref (D 0)) → rlook ls 1 = some (I (a1)) → rlook ls 3 = some (I (u1_3)) → rlook ls 4 = some (I (x109_4)) → rlook ls 5 = some (I (x109_5)) → HS σ0 σ D N F_109 A_109 → SF [] F_c104 F_109 → SA [] A_c104 A_109 → (inr (x109_4)) → (inr (x109_5)) → ((x109_4) = 0 ∨ (x109_4) = 1) → (0 ≤ (x109_5) ∧ (x109_5) ≤ ((w11)) ((a1))) → (IMP (((x109_4) : Int) = 1) (qr = ((w11)) ((a1)) ∧ ∀ k, 0 ≤ k → k < (x109_5) → ((wq33)) k = ((w10)) (65536 * (a1) + k))) → (IMP (((x109_4) : Int) = 0) (¬ (qr = ((w11)) ((a1)) ∧ sc ((wq33)) 0 ((y19)) = rwR ((w10)) ((w11)) ((a1))))) → (65536 - (x109_5)).toNat = m → Ew 82 (d + 12) 109 ls [] σ c s Q from
              hl109 _ _ σ _ _ (tc104_0) (0) (rk_o (rk_o (lc104_0) rfl rfl) rfl rfl) (rk_o (rk_o (lc104_1) rfl rfl) rfl rfl) (rk_o (rk_o (lc104_3) rfl rfl) rfl rfl) (rk_o (rk_s) rfl rfl) (rk_s) H (SF_refl) (SA_refl)   (show inr (tc104_0) from jc104_0) (show inr (0) from q_2) (show (tc104_0) = 0 ∨ (tc104_0) = 1 by omega) (show 0 ≤ (0) ∧ (0) ≤ ((w11)) ((a1)) from q_5003 ev50 qv50) (show IMP (((tc104_0) : Int) = 1) (qr = ((w11)) ((a1)) ∧ ∀ k, 0 ≤ k → k < (0) → ((wq33)) k = ((w10)) (65536 * (a1) + k)) by assumption) (show IMP (((tc104_0) : Int) = 0) (¬ (qr = ((w11)) ((a1)) ∧ sc ((wq33)) 0 ((y19)) = rwR ((w10)) ((w11)) ((a1)))) by assumption) rfl
            as_aux_lemma =>
            intro m
            induction m using Nat.strongRecOn with
            | _ m ih109 =>
              intro ls σ F_109 A_109 x109_4 x109_5 l109_0 l109_1 l109_3 l109_4 l109_5 H hS_109 hA_109   j109_0 j109_1 j109_2 j109_3 j109_4 j109_5 hm109
              have j109_a : IMP (((x109_4) : Int) = 1) (qr = ((w11)) ((a1)) ∧ ∀ k, 0 ≤ k → k < (x109_5) → ((wq33)) k = ((w10)) (65536 * (a1) + k)) := by assumption
              have j109_b : IMP (((x109_4) : Int) = 0) (¬ (qr = ((w11)) ((a1)) ∧ sc ((wq33)) 0 ((y19)) = rwR ((w10)) ((w11)) ((a1)))) := j109_5
              have hOu2 : ∀ i, (0 : Int) ≤ (wq33) i ∧ (wq33) i ≤ 255 := fun i => by have h1 : (0 : Int) ≤ A_109 15 i ∧ A_109 15 i ≤ 255 := H.arng 15 i; rw [show A_109 15 = wq33 from (funext (hA_109 15 rfl)).trans ((funext (hA_c104 15 rfl)).trans (ewq34))] at h1; exact h1
              refine Ew_of (pcₚ := 111) (fun _ => x_iload rfl l109_5) ?_
              refine Ew_of (pcₚ := 112) (fun _ => x_aload_n rfl l109_0) ?_
              refine w_gT H (o := 0) (t := 11) rfl (H.perm 0 rfl) rfl rfl rfl rfl rfl rfl ?_
              refine Ew_of (pcₚ := 116) (fun _ => x_iload_n rfl l109_1) ?_
              refine w_lI H (o := 11) (n := 4) rfl (H.perm 11 rfl) rfl rfl (H.fix 11 rfl rfl) (show 0 ≤ a1 ∧ a1 < ((4 : Nat) : Int) from q_2372 h2) (by decide) (fun v51 ev51 qv51 => ?_)
              have qv51 : (0 : Int) ≤ v51 ∧ v51 ≤ 65536 := qv51
              have ev51 : (w11) (a1) = v51 := (congrFun ((funext (hA_109 11 rfl)).trans ((funext (hA_c104 11 rfl)).trans ((funext (hA17 11 rfl)).trans ((funext (hA_54 11 rfl)).trans ((funext (hA_11 11 rfl)).trans (ew11)))))) (a1)).symm.trans ev51
              have hv116 := ev51
              have hc163 : ∀ (ls : rO) (σ : rS) (F_c163 : hF) (A_c163 : hA) , rlook ls 0 = some (.ref (D 0)) → rlook ls 3 = some (I (u1_3)) → rlook ls 4 = some (I (x109_4)) → HS σ0 σ D N F_c163 A_c163 → SF [] F_109 F_c163 → SA [] A_109 A_c163 → (((x109_5) ≥ (v51)) ∨ ((x109_5) < (v51) ∧ (x109_4) = (0))) → Ew 82 (d + 12) 163 ls [] σ c s Q := by
               as_aux_lemma =>
                intro  ls σ F_c163 A_c163  lc163_0 lc163_3 lc163_4 H hS_c163 hA_c163   jc163_0
                have hCM : CMB ((a2)) (sc ((w15)) 0 ((u1_3))) (sc ((w16)) 0 ((u3_2))) Dc (rwR ((w10)) ((w11)) ((a1))) ((x109_4)) := ⟨_, _, _, hrq2, by rcases (show ((x109_4) : Int) = 1 ∨ ((x109_4) : Int) = 0 by omega) with e | e; (exact .inl ⟨e, by rw [hln]; exact (j109_a e).1, rwR_in (by have := (j109_a e).1; omega) (fun k a b => (j109_a e).2 k a (by have := (j109_a e).1; omega))⟩); (exact .inr ⟨e, by rw [hln]; exact j109_b e⟩)⟩
                refine Ew_of (pcₚ := 164) (fun _ => x_iconst rfl) ?_
                refine Ew_of (pcₚ := 166) (fun _ => x_istore rfl) ?_
                have : CPY ((w11_14)) ((wq33)) 0 0 (0) := CPY_0
                suffices hl166 : ∀ (m : Nat), ∀ (ls : rO) (σ : rS) (F_166 : hF) (A_166 : hA) (x166_5 : Int), rlook ls 0 = some (.ref (D 0)) → rlook ls 3 = some (I (u1_3)) → rlook ls 4 = some (I (x109_4)) → rlook ls 5 = some (I (x166_5)) → HS σ0 σ D N F_166 A_166 → SF [] F_c163 F_166 → SA [15] A_c163 A_166 → ∀ w166_15 : Int → Int, A_166 15 = w166_15 → (inr (x166_5)) → ((0) ≤ (x166_5)) → ((x166_5) ≤ (0) ∨ (x166_5) ≤ ((u1_3))) → (CPY ((w11_14)) ((w166_15)) 0 0 ((x166_5))) → (((u1_3)) - (x166_5)).toNat = m → Ew 82 (d + 12) 166 ls [] σ c s Q from
                  hl166 _ _ σ _ _ (0) (rk_o (lc163_0) rfl rfl) (rk_o (lc163_3) rfl rfl) (rk_o (lc163_4) rfl rfl) (rk_s) H (SF_refl) (SA_refl)  (wq33) ((funext (hA_c163 15 rfl)).trans ((funext (hA_109 15 rfl)).trans ((funext (hA_c104 15 rfl)).trans (ewq34)))) (show inr (0) from q_2) (show (0) ≤ (0) from q_1) (show (0) ≤ (0) ∨ (0) ≤ ((u1_3)) from q_5) (show CPY ((w11_14)) ((wq33)) 0 0 ((0)) by assumption) rfl
                as_aux_lemma =>
                intro m
                induction m using Nat.strongRecOn with
                | _ m ih166 =>
                  intro ls σ F_166 A_166 x166_5 l166_0 l166_3 l166_4 l166_5 H hS_166 hA_166  w166_15 ew166_15 j166_0 j166_1 j166_2 j166_3 hm166
                  have j166_c : CPY ((w11_14)) ((w166_15)) 0 0 ((x166_5)) := j166_3
                  refine Ew_of (pcₚ := 168) (fun _ => x_iload rfl l166_5) ?_
                  refine Ew_of (pcₚ := 169) (fun _ => x_iload_n rfl l166_3) ?_
                  refine w_icmpge (t := 198) rfl rfl (show inr (x166_5) from j166_0) (show inr (u1_3) from q_286 r1) (fun b52 => ?_) (fun b52 => ?_)
                  · have hou : sc ((w166_15)) 0 ((u1_3)) = sc ((w15)) 0 ((u1_3)) := (CPY_sc j166_c (by omega) (by omega)).trans hin
                    refine Ew_of (pcₚ := 199) (fun _ => x_aload_n rfl l166_0) ?_
                    refine w_gT H (o := 0) (t := 1) rfl (H.perm 0 rfl) rfl rfl rfl rfl rfl rfl ?_
                    refine Ew_of (pcₚ := 203) (fun _ => x_iload_n rfl l166_3) ?_
                    refine w_pI H (o := 1) rfl rfl (H.perm 1 rfl) rfl rfl rfl (fun _ => rfl) rfl (show (0 : Int) ≤ u1_3 ∧ u1_3 ≤ 65536 from r1) (fun σ H => ?_)
                    refine Ew_of (pcₚ := 207) (fun _ => x_aload_n rfl l166_0) ?_
                    refine w_gT H (o := 0) (t := 5) rfl (H.perm 0 rfl) rfl rfl rfl rfl rfl rfl ?_
                    refine Ew_of (pcₚ := 211) (fun _ => x_aload_n rfl l166_0) ?_
                    refine w_gT H (o := 0) (t := 13) rfl (H.perm 0 rfl) rfl rfl rfl rfl rfl rfl ?_
                    refine Ew_of (pcₚ := 215) (fun _ => x_iconst rfl) ?_
                    refine w_lI H (o := 13) (n := 5) rfl (H.perm 13 rfl) rfl rfl (H.fix 13 rfl rfl) (show 0 ≤ 0 ∧ 0 < ((5 : Nat) : Int) from q_2374) (by decide) (fun v53 ev53 qv53 => ?_)
                    have qv53 : (-2147483648 : Int) ≤ v53 ∧ v53 ≤ 2147483647 := qv53
                    have ev53 : (w54_13) (0) = v53 := (congrFun ((funext (hA_166 13 rfl)).trans ((funext (hA_c163 13 rfl)).trans ((funext (hA_109 13 rfl)).trans ((funext (hA_c104 13 rfl)).trans ((funext (hA17 13 rfl)).trans (ew54_13)))))) (0)).symm.trans ev53
                    have hk0 := ev53
                    refine w_pI H (o := 5) rfl rfl (H.perm 5 rfl) rfl rfl rfl (fun _ => rfl) rfl (show (-2147483648 : Int) ≤ v53 ∧ v53 ≤ 2147483647 from qv53) (fun σ H => ?_)
                    refine Ew_of (pcₚ := 220) (fun _ => x_aload_n rfl l166_0) ?_
                    refine w_gT H (o := 0) (t := 5) rfl (H.perm 0 rfl) rfl rfl rfl rfl rfl rfl ?_
                    refine Ew_of (pcₚ := 224) (fun _ => x_aload_n rfl l166_0) ?_
                    refine w_gT H (o := 0) (t := 13) rfl (H.perm 0 rfl) rfl rfl rfl rfl rfl rfl ?_
                    refine Ew_of (pcₚ := 228) (fun _ => x_iconst rfl) ?_
                    refine w_lI H (o := 13) (n := 5) rfl (H.perm 13 rfl) rfl rfl (H.fix 13 rfl rfl) (show 0 ≤ 1 ∧ 1 < ((5 : Nat) : Int) from q_2375) (by decide) (fun v54 ev54 qv54 => ?_)
                    have qv54 : (-2147483648 : Int) ≤ v54 ∧ v54 ≤ 2147483647 := qv54
                    have ev54 : (w54_13) (1) = v54 := (congrFun ((funext (hA_166 13 rfl)).trans ((funext (hA_c163 13 rfl)).trans ((funext (hA_109 13 rfl)).trans ((funext (hA_c104 13 rfl)).trans ((funext (hA17 13 rfl)).trans (ew54_13)))))) (1)).symm.trans ev54
                    have hk1 := ev54
                    refine w_pI H (o := 5) rfl rfl (H.perm 5 rfl) rfl rfl rfl (fun _ => rfl) rfl (show (-2147483648 : Int) ≤ v54 ∧ v54 ≤ 2147483647 from qv54) (fun σ H => ?_)
                    refine Ew_of (pcₚ := 233) (fun _ => x_aload_n rfl l166_0) ?_
                    refine w_gT H (o := 0) (t := 5) rfl (H.perm 0 rfl) rfl rfl rfl rfl rfl rfl ?_
                    refine Ew_of (pcₚ := 237) (fun _ => x_aload_n rfl l166_0) ?_
                    refine w_gT H (o := 0) (t := 13) rfl (H.perm 0 rfl) rfl rfl rfl rfl rfl rfl ?_
                    refine Ew_of (pcₚ := 241) (fun _ => x_iconst rfl) ?_
                    refine w_lI H (o := 13) (n := 5) rfl (H.perm 13 rfl) rfl rfl (H.fix 13 rfl rfl) (show 0 ≤ 2 ∧ 2 < ((5 : Nat) : Int) from q_2376) (by decide) (fun v55 ev55 qv55 => ?_)
                    have qv55 : (-2147483648 : Int) ≤ v55 ∧ v55 ≤ 2147483647 := qv55
                    have ev55 : (w54_13) (2) = v55 := (congrFun ((funext (hA_166 13 rfl)).trans ((funext (hA_c163 13 rfl)).trans ((funext (hA_109 13 rfl)).trans ((funext (hA_c104 13 rfl)).trans ((funext (hA17 13 rfl)).trans (ew54_13)))))) (2)).symm.trans ev55
                    have hk2 := ev55
                    refine w_pI H (o := 5) rfl rfl (H.perm 5 rfl) rfl rfl rfl (fun _ => rfl) rfl (show (-2147483648 : Int) ≤ v55 ∧ v55 ≤ 2147483647 from qv55) (fun σ H => ?_)
                    refine Ew_of (pcₚ := 246) (fun _ => x_aload_n rfl l166_0) ?_
                    refine w_gT H (o := 0) (t := 5) rfl (H.perm 0 rfl) rfl rfl rfl rfl rfl rfl ?_
                    refine Ew_of (pcₚ := 250) (fun _ => x_aload_n rfl l166_0) ?_
                    refine w_gT H (o := 0) (t := 13) rfl (H.perm 0 rfl) rfl rfl rfl rfl rfl rfl ?_
                    refine Ew_of (pcₚ := 254) (fun _ => x_iconst rfl) ?_
                    refine w_lI H (o := 13) (n := 5) rfl (H.perm 13 rfl) rfl rfl (H.fix 13 rfl rfl) (show 0 ≤ 3 ∧ 3 < ((5 : Nat) : Int) from q_2377) (by decide) (fun v56 ev56 qv56 => ?_)
                    have qv56 : (-2147483648 : Int) ≤ v56 ∧ v56 ≤ 2147483647 := qv56
                    have ev56 : (w54_13) (3) = v56 := (congrFun ((funext (hA_166 13 rfl)).trans ((funext (hA_c163 13 rfl)).trans ((funext (hA_109 13 rfl)).trans ((funext (hA_c104 13 rfl)).trans ((funext (hA17 13 rfl)).trans (ew54_13)))))) (3)).symm.trans ev56
                    have hk3_ := ev56
                    refine w_pI H (o := 5) rfl rfl (H.perm 5 rfl) rfl rfl rfl (fun _ => rfl) rfl (show (0 : Int) ≤ v56 ∧ v56 ≤ 65536 from q_5004 ev56 hK3 r6) (fun σ H => ?_)
                    refine Ew_of (pcₚ := 259) (fun _ => x_aload_n rfl l166_0) ?_
                    refine w_gT H (o := 0) (t := 5) rfl (H.perm 0 rfl) rfl rfl rfl rfl rfl rfl ?_
                    refine Ew_of (pcₚ := 263) (fun _ => x_aload_n rfl l166_0) ?_
                    refine w_gT H (o := 0) (t := 13) rfl (H.perm 0 rfl) rfl rfl rfl rfl rfl rfl ?_
                    refine Ew_of (pcₚ := 267) (fun _ => x_iconst rfl) ?_
                    refine w_lI H (o := 13) (n := 5) rfl (H.perm 13 rfl) rfl rfl (H.fix 13 rfl rfl) (show 0 ≤ 4 ∧ 4 < ((5 : Nat) : Int) from q_2379) (by decide) (fun v57 ev57 qv57 => ?_)
                    have qv57 : (-2147483648 : Int) ≤ v57 ∧ v57 ≤ 2147483647 := qv57
                    have ev57 : (w54_13) (4) = v57 := (congrFun ((funext (hA_166 13 rfl)).trans ((funext (hA_c163 13 rfl)).trans ((funext (hA_109 13 rfl)).trans ((funext (hA_c104 13 rfl)).trans ((funext (hA17 13 rfl)).trans (ew54_13)))))) (4)).symm.trans ev57
                    have hk4 := ev57
                    refine w_pI H (o := 5) rfl rfl (H.perm 5 rfl) rfl rfl rfl (fun _ => rfl) rfl (show (-2147483648 : Int) ≤ v57 ∧ v57 ≤ 2147483647 from qv57) (fun σ H => ?_)
                    refine Ew_of (pcₚ := 273) (fun _ => x_iload rfl l166_4) ?_
                    have : sc ((w166_15)) 0 ((u1_3)) = sc ((w15)) 0 ((u1_3)) := hou
                    have : CMB ((a2)) (sc ((w15)) 0 ((u1_3))) (sc ((w16)) 0 ((u3_2))) Dc (rwR ((w10)) ((w11)) ((a1))) ((x109_4)) := hCM
                    have : ((v53), (v54), (v55), (v56), (v57)) = ((u5_32), (u5_33), (u5_34), (u5_27), (u5_36)) := by rw [show (v53) = (u5_32) by omega, show (v54) = (u5_33) by omega, show (v55) = (u5_34) by omega, show (v56) = (u5_27) by omega, show (v57) = (u5_36) by omega]
                    exact w_ireturn rfl (k (x109_4) σ _ _ H (SF_upd (SF_upd (SF_upd (SF_upd (SF_upd (SF_upd (SF_trans (SF_trans (SF_trans (SF_trans (SF_trans (SF_trans (SF_upd (SF_trans (SF_refl) hS_11 (any_sub rfl)) rfl) hS_54 (any_sub rfl)) hS16 (any_sub rfl)) hS_c104 (any_sub rfl)) hS_109 (any_sub rfl)) hS_c163 (any_sub rfl)) hS_166 (any_sub rfl)) rfl) rfl) rfl) rfl) rfl) rfl) (SA_trans (SA_trans (SA_trans (SA_trans (SA_trans (SA_trans (SA_trans (SA_refl) hA_11 (any_subA rfl)) hA_54 (any_subA rfl)) hA17 (any_subA rfl)) hA_c104 (any_subA rfl)) hA_109 (any_subA rfl)) hA_c163 (any_subA rfl)) hA_166 (any_subA rfl)) (u1_3) (rfl) (v56) (rfl) (v53) (rfl) (v54) (rfl) (v55) (rfl) (v57) (rfl) (w166_15) (ew166_15) (wq35) ((funext (hA_166 34 rfl)).trans ((funext (hA_c163 34 rfl)).trans ((funext (hA_109 34 rfl)).trans ((funext (hA_c104 34 rfl)).trans (ewq36))))) (wq37) ((funext (hA_166 35 rfl)).trans ((funext (hA_c163 35 rfl)).trans ((funext (hA_109 35 rfl)).trans ((funext (hA_c104 35 rfl)).trans (ewq38))))) (wq39) ((funext (hA_166 36 rfl)).trans ((funext (hA_c163 36 rfl)).trans ((funext (hA_109 36 rfl)).trans ((funext (hA_c104 36 rfl)).trans (ewq40))))) (wq41) ((funext (hA_166 37 rfl)).trans ((funext (hA_c163 37 rfl)).trans ((funext (hA_109 37 rfl)).trans ((funext (hA_c104 37 rfl)).trans (ewq42))))) (show (x109_4) = 0 ∨ (x109_4) = 1 from j109_2) (pz18_1) (show (u1_3) = (u1_3) from q_303) (hou) (hCM) (show ((v53), (v54), (v55), (v56), (v57)) = ((u5_32), (u5_33), (u5_34), (u5_27), (u5_36)) by assumption))
                  · refine Ew_of (pcₚ := 173) (fun _ => x_aload_n rfl l166_0) ?_
                    refine w_gT H (o := 0) (t := 1) rfl (H.perm 0 rfl) rfl rfl rfl rfl rfl rfl ?_
                    refine w_gT H (o := 1) (t := 15) rfl (H.perm 1 rfl) rfl rfl rfl rfl rfl rfl ?_
                    refine Ew_of (pcₚ := 181) (fun _ => x_iload rfl l166_5) ?_
                    refine Ew_of (pcₚ := 182) (fun _ => x_aload_n rfl l166_0) ?_
                    refine w_gT H (o := 0) (t := 1) rfl (H.perm 0 rfl) rfl rfl rfl rfl rfl rfl ?_
                    refine w_gT H (o := 1) (t := 14) rfl (H.perm 1 rfl) rfl rfl rfl rfl rfl rfl ?_
                    refine Ew_of (pcₚ := 190) (fun _ => x_iload rfl l166_5) ?_
                    refine w_lI H (o := 14) (n := 65536) rfl (H.perm 14 rfl) rfl rfl (H.fix 14 rfl rfl) (show 0 ≤ x166_5 ∧ x166_5 < ((65536 : Nat) : Int) from q_294 b52 j166_1 r1) (by decide) (fun v58 ev58 qv58 => ?_)
                    have qv58 : (0 : Int) ≤ v58 ∧ v58 ≤ 255 := qv58
                    have ev58 : (w11_14) (x166_5) = v58 := (congrFun ((funext (hA_166 14 rfl)).trans ((funext (hA_c163 14 rfl)).trans ((funext (hA_109 14 rfl)).trans ((funext (hA_c104 14 rfl)).trans ((funext (hA17 14 rfl)).trans ((funext (hA_54 14 rfl)).trans (ew11_14))))))) (x166_5)).symm.trans ev58
                    have hv190 := ev58
                    refine w_sI H (o := 15) (n := 65536) rfl (H.perm 15 rfl) rfl rfl (H.fix 15 rfl rfl) (show 0 ≤ x166_5 ∧ x166_5 < ((65536 : Nat) : Int) from q_294 b52 j166_1 r1) (by decide) (show (0 : Int) ≤ v58 ∧ v58 ≤ 255 from qv58) (fun σ H => ?_)
                    refine Ew_of (pcₚ := 195) (fun _ => x_iinc (len := 3) rfl (l166_5)) ?_
                    refine Ew_of (pcₚ := 166) (fun _ => x_goto rfl rfl) ?_
                    have : CPY ((w11_14)) ((upd1 (w166_15) (x166_5) (v58))) 0 0 (((x166_5 + 1))) := CPY_s j166_c hv190 (by omega) (by omega) rfl
                    exact ih166 _ (msE hm166 q_16 (q_17 b52)) _ σ _ _ ((x166_5 + 1)) (rk_o (l166_0) rfl rfl) (rk_o (l166_3) rfl rfl) (rk_o (l166_4) rfl rfl) (rk_s) H (hS_166) (SA_upd (hA_166) rfl)  (upd1 (w166_15) (x166_5) (v58)) (congrArg (fun q => upd1 q (x166_5) (v58)) (ew166_15)) (show inr ((x166_5 + 1)) from q_296 b52 j166_1 r1) (show (0) ≤ ((x166_5 + 1)) from q_14 j166_1) (show ((x166_5 + 1)) ≤ (0) ∨ ((x166_5 + 1)) ≤ ((u1_3)) from q_13 b52) (show CPY ((w11_14)) ((upd1 (w166_15) (x166_5) (v58))) 0 0 (((x166_5 + 1))) by assumption) rfl
              refine w_icmpge (t := 163) rfl rfl (show inr (x109_5) from j109_1) (show inr (v51) from q_286 qv51) (fun b59 => ?_) (fun b59 => ?_)
              · exact hc163  _ σ _ _  (l109_0) (l109_3) (l109_4) H (SF_refl) (SA_refl)   (show ((x109_5) ≥ (v51)) ∨ ((x109_5) < (v51) ∧ (x109_4) = (0)) from q_2380 b59)
              · refine Ew_of (pcₚ := 122) (fun _ => x_iload rfl l109_4) ?_
                refine w_ifeq (t := 163) rfl rfl (show inr (x109_4) from j109_0) (fun b60 => ?_) (fun b60 => ?_)
                · exact hc163  _ σ _ _  (l109_0) (l109_3) (l109_4) H (SF_refl) (SA_refl)   (show ((x109_5) ≥ (v51)) ∨ ((x109_5) < (v51) ∧ (x109_4) = (0)) from q_2381 b59 b60)
                · refine Ew_of (pcₚ := 126) (fun _ => x_aload_n rfl l109_0) ?_
                  refine w_gT H (o := 0) (t := 1) rfl (H.perm 0 rfl) rfl rfl rfl rfl rfl rfl ?_
                  refine w_gT H (o := 1) (t := 15) rfl (H.perm 1 rfl) rfl rfl rfl rfl rfl rfl ?_
                  refine Ew_of (pcₚ := 134) (fun _ => x_iload rfl l109_5) ?_
                  refine w_lI H (o := 15) (n := 65536) rfl (H.perm 15 rfl) rfl rfl (H.fix 15 rfl rfl) (show 0 ≤ x109_5 ∧ x109_5 < ((65536 : Nat) : Int) from q_2918 b59 j109_3 qv51) (by decide) (fun v61 ev61 qv61 => ?_)
                  have qv61 : (0 : Int) ≤ v61 ∧ v61 ≤ 255 := qv61
                  have ev61 : (wq33) (x109_5) = v61 := (congrFun ((funext (hA_109 15 rfl)).trans ((funext (hA_c104 15 rfl)).trans (ewq34))) (x109_5)).symm.trans ev61
                  have hv134 := ev61
                  have hr134 := hOu2 ((x109_5))
                  rw [hv134] at hr134
                  refine Ew_of (pcₚ := 136) (fun _ => x_aload_n rfl l109_0) ?_
                  refine w_gT H (o := 0) (t := 10) rfl (H.perm 0 rfl) rfl rfl rfl rfl rfl rfl ?_
                  refine Ew_of (pcₚ := 141) (fun _ => x_ldc (z := 65536) rfl (by decide)) ?_
                  refine Ew_of (pcₚ := 142) (fun _ => x_iload_n rfl l109_1) ?_
                  refine w_imul rfl ?_
                  refine Ew_of (pcₚ := 145) (fun _ => x_iload rfl l109_5) ?_
                  refine w_iadd rfl ?_
                  refine w_lI H (o := 10) (n := 262144) rfl (H.perm 10 rfl) rfl rfl (H.fix 10 rfl rfl) (show 0 ≤ ((65536 * a1) + x109_5) ∧ ((65536 * a1) + x109_5) < ((262144 : Nat) : Int) from q_5005 b59 h2 j109_3 qv51) (by decide) (fun v62 ev62 qv62 => ?_)
                  have qv62 : (0 : Int) ≤ v62 ∧ v62 ≤ 255 := qv62
                  have ev62 : (w10) (((65536 * a1) + x109_5)) = v62 := (congrFun ((funext (hA_109 10 rfl)).trans ((funext (hA_c104 10 rfl)).trans ((funext (hA17 10 rfl)).trans ((funext (hA_54 10 rfl)).trans ((funext (hA_11 10 rfl)).trans (ew10)))))) (((65536 * a1) + x109_5))).symm.trans ev62
                  have hv146 := ev62
                  have hr146 := hRo (65536 * (a1) + (x109_5))
                  rw [hv146] at hr146
                  refine w_icmpne (t := 154) rfl rfl (show inr (v61) from q_299 qv61) (show inr (v62) from q_299 qv62) (fun b63 => ?_) (fun b63 => ?_)
                  · refine Ew_of (pcₚ := 155) (fun _ => x_iconst rfl) ?_
                    refine Ew_of (pcₚ := 157) (fun _ => x_istore rfl) ?_
                    refine Ew_of (pcₚ := 160) (fun _ => x_iinc (len := 3) rfl (rk_o (l109_5) rfl rfl)) ?_
                    refine Ew_of (pcₚ := 109) (fun _ => x_goto rfl rfl) ?_
                    have : IMP (((0) : Int) = 1) (qr = ((w11)) ((a1)) ∧ ∀ k, 0 ≤ k → k < ((x109_5 + 1)) → ((wq33)) k = ((w10)) (65536 * (a1) + k)) := fun q => ⟨(j109_a (by omega)).1, fun k a b => by by_cases e : k = x109_5; (rw [e, hv134, hv146]; omega); exact (j109_a (by omega)).2 k a (by omega)⟩
                    have : IMP (((0) : Int) = 0) (¬ (qr = ((w11)) ((a1)) ∧ sc ((wq33)) 0 ((y19)) = rwR ((w10)) ((w11)) ((a1)))) := fun q w => by have w1 := (j109_a (by omega)).1; exact rw_ne (k := x109_5) (by omega) (by omega) (by omega) hv134 hv146 (by omega) hr134 hr146 w.2
                    exact ih109 _ (msE hm109 q_2915 (q_2916 b59 qv51)) _ σ _ _ (0) ((x109_5 + 1)) (rk_o (rk_o (l109_0) rfl rfl) rfl rfl) (rk_o (rk_o (l109_1) rfl rfl) rfl rfl) (rk_o (rk_o (l109_3) rfl rfl) rfl rfl) (rk_o (rk_s) rfl rfl) (rk_s) H (hS_109) (hA_109)   (show inr (0) from q_2) (show inr ((x109_5 + 1)) from q_2920 b59 j109_3 qv51) (show (0) = 0 ∨ (0) = 1 from q_45) (show 0 ≤ ((x109_5 + 1)) ∧ ((x109_5 + 1)) ≤ ((w11)) ((a1)) from q_2919 b59 ev51 j109_3) (show IMP (((0) : Int) = 1) (qr = ((w11)) ((a1)) ∧ ∀ k, 0 ≤ k → k < ((x109_5 + 1)) → ((wq33)) k = ((w10)) (65536 * (a1) + k)) by assumption) (show IMP (((0) : Int) = 0) (¬ (qr = ((w11)) ((a1)) ∧ sc ((wq33)) 0 ((y19)) = rwR ((w10)) ((w11)) ((a1)))) by assumption) rfl
                  · refine Ew_of (pcₚ := 151) (fun _ => x_iconst rfl) ?_
                    refine Ew_of (pcₚ := 155) (fun _ => x_goto rfl rfl) ?_
                    refine Ew_of (pcₚ := 157) (fun _ => x_istore rfl) ?_
                    refine Ew_of (pcₚ := 160) (fun _ => x_iinc (len := 3) rfl (rk_o (l109_5) rfl rfl)) ?_
                    refine Ew_of (pcₚ := 109) (fun _ => x_goto rfl rfl) ?_
                    have : IMP (((1) : Int) = 1) (qr = ((w11)) ((a1)) ∧ ∀ k, 0 ≤ k → k < ((x109_5 + 1)) → ((wq33)) k = ((w10)) (65536 * (a1) + k)) := fun q => ⟨(j109_a (by omega)).1, fun k a b => by by_cases e : k = x109_5; (rw [e, hv134, hv146]; omega); exact (j109_a (by omega)).2 k a (by omega)⟩
                    have : IMP (((1) : Int) = 0) (¬ (qr = ((w11)) ((a1)) ∧ sc ((wq33)) 0 ((y19)) = rwR ((w10)) ((w11)) ((a1)))) := fun q w => by have w1 := (j109_a (by omega)).1; exact rw_ne (k := x109_5) (by omega) (by omega) (by omega) hv134 hv146 (by omega) hr134 hr146 w.2
                    exact ih109 _ (msE hm109 q_2915 (q_2916 b59 qv51)) _ σ _ _ (1) ((x109_5 + 1)) (rk_o (rk_o (l109_0) rfl rfl) rfl rfl) (rk_o (rk_o (l109_1) rfl rfl) rfl rfl) (rk_o (rk_o (l109_3) rfl rfl) rfl rfl) (rk_o (rk_s) rfl rfl) (rk_s) H (hS_109) (hA_109)   (show inr (1) from q_135) (show inr ((x109_5 + 1)) from q_2920 b59 j109_3 qv51) (show (1) = 0 ∨ (1) = 1 from q_49) (show 0 ≤ ((x109_5 + 1)) ∧ ((x109_5 + 1)) ≤ ((w11)) ((a1)) from q_2919 b59 ev51 j109_3) (show IMP (((1) : Int) = 1) (qr = ((w11)) ((a1)) ∧ ∀ k, 0 ≤ k → k < ((x109_5 + 1)) → ((wq33)) k = ((w10)) (65536 * (a1) + k)) by assumption) (show IMP (((1) : Int) = 0) (¬ (qr = ((w11)) ((a1)) ∧ sc ((wq33)) 0 ((y19)) = rwR ((w10)) ((w11)) ((a1)))) by assumption) rfl
          refine w_icmpne (t := 103) rfl rfl (show inr (z18) from pz18_0) (show inr (v50) from q_286 qv50) (fun b64 => ?_) (fun b64 => ?_)
          · refine Ew_of (pcₚ := 104) (fun _ => x_iconst rfl) ?_
            exact hc104 (0) _ σ _ _  (l54_0) (l54_1) (l54_3) H (SF_refl) (SA_refl)   (show inr (0) from q_2) (show ((z18) ≠ (v50) ∧ (0) = (0)) ∨ ((z18) = (v50) ∧ (0) = (1)) from q_2383 b64)
          · refine Ew_of (pcₚ := 100) (fun _ => x_iconst rfl) ?_
            refine Ew_of (pcₚ := 104) (fun _ => x_goto rfl rfl) ?_
            exact hc104 (1) _ σ _ _  (l54_0) (l54_1) (l54_3) H (SF_refl) (SA_refl)   (show inr (1) from q_135) (show ((z18) ≠ (v50) ∧ (1) = (0)) ∨ ((z18) = (v50) ∧ (1) = (1)) from q_2384 b64)
        · refine Ew_of (pcₚ := 61) (fun _ => x_aload_n rfl l54_0) ?_
          refine w_gT H (o := 0) (t := 13) rfl (H.perm 0 rfl) rfl rfl rfl rfl rfl rfl ?_
          refine Ew_of (pcₚ := 66) (fun _ => x_iload rfl l54_4) ?_
          refine Ew_of (pcₚ := 67) (fun _ => x_aload_n rfl l54_0) ?_
          refine Ew_of (pcₚ := 69) (fun _ => x_iload rfl l54_4) ?_
          refine w_inv H (o := 0) rfl rfl rfl (H.perm 0 rfl) rfl rfl (by rfl) (M83p H (u5_27) ((((hS_54 5 27 rfl).trans (hS_11 5 27 rfl)).trans (eu5_27))) (u5_32) ((((hS_54 5 32 rfl).trans (hS_11 5 32 rfl)).trans (eu5_32))) (u5_33) ((((hS_54 5 33 rfl).trans (hS_11 5 33 rfl)).trans (eu5_33))) (u5_34) ((((hS_54 5 34 rfl).trans (hS_11 5 34 rfl)).trans (eu5_34))) (u5_36) ((((hS_54 5 36 rfl).trans (hS_11 5 36 rfl)).trans (eu5_36))) (show inr (x54_4) by omega) (fun z69 σ F65 A66 H hS67 hA68 pz69_0 pz69_1 pz69_2 => ⟨rfl, ?_⟩))
          have hst := pz69_2
          refine w_sI H (o := 13) (n := 5) rfl (H.perm 13 rfl) rfl rfl (H.fix 13 rfl rfl) (show 0 ≤ x54_4 ∧ x54_4 < ((5 : Nat) : Int) by omega) (by decide) (show (-2147483648 : Int) ≤ z69 ∧ z69 ≤ 2147483647 from q_31 pz69_0) (fun σ H => ?_)
          refine Ew_of (pcₚ := 76) (fun _ => x_iinc (len := 3) rfl (l54_4)) ?_
          refine Ew_of (pcₚ := 54) (fun _ => x_goto rfl rfl) ?_
          have hk3 : 3 < ((x54_4 + 1)) → 0 ≤ ((upd1 (w54_13) (x54_4) (z69))) 3 ∧ ((upd1 (w54_13) (x54_4) (z69))) 3 ≤ 65536 := by simp only [upd1]; omega
          have : IMP ((0 : Int) < ((x54_4 + 1))) (((upd1 (w54_13) (x54_4) (z69))) 0 = (u5_32)) := fun q => by rcases (show x54_4 = 0 ∨ 0 < x54_4 by omega) with e | e; (rw [e, upd1_s]; omega); (rw [upd1_o (by omega)]; exact j54_0 e)
          have : IMP ((1 : Int) < ((x54_4 + 1))) (((upd1 (w54_13) (x54_4) (z69))) 1 = (u5_33)) := fun q => by rcases (show x54_4 = 1 ∨ 1 < x54_4 by omega) with e | e; (rw [e, upd1_s]; omega); (rw [upd1_o (by omega)]; exact j54_1 e)
          have : IMP ((2 : Int) < ((x54_4 + 1))) (((upd1 (w54_13) (x54_4) (z69))) 2 = (u5_34)) := fun q => by rcases (show x54_4 = 2 ∨ 2 < x54_4 by omega) with e | e; (rw [e, upd1_s]; omega); (rw [upd1_o (by omega)]; exact j54_2 e)
          have : IMP ((3 : Int) < ((x54_4 + 1))) (((upd1 (w54_13) (x54_4) (z69))) 3 = (u5_27)) := fun q => by rcases (show x54_4 = 3 ∨ 3 < x54_4 by omega) with e | e; (rw [e, upd1_s]; omega); (rw [upd1_o (by omega)]; exact j54_3 e)
          have : IMP ((4 : Int) < ((x54_4 + 1))) (((upd1 (w54_13) (x54_4) (z69))) 4 = (u5_36)) := fun q => by rcases (show x54_4 = 4 ∨ 4 < x54_4 by omega) with e | e; (rw [e, upd1_s]; omega); (rw [upd1_o (by omega)]; exact j54_4 e)
          exact ih54 _ (msE hm54 q_996 (q_997 b12)) _ σ _ _ ((x54_4 + 1)) (rk_o (l54_0) rfl rfl) (rk_o (l54_1) rfl rfl) (rk_o (l54_2) rfl rfl) (rk_o (l54_3) rfl rfl) (rk_s) H (SF_trans (hS_54) hS67 (any_sub rfl)) (SA_upd (SA_trans (hA_54) hA68 (any_subA rfl)) rfl)  (upd1 (w54_13) (x54_4) (z69)) (congrArg (fun q => upd1 q (x54_4) (z69)) ((funext (hA68 13 rfl)).trans (ew54_13))) (show inr ((x54_4 + 1)) by omega) (show (0) ≤ ((x54_4 + 1)) by omega) (show ((x54_4 + 1)) ≤ (0) ∨ ((x54_4 + 1)) ≤ (5) from q_2386 b12) (show 3 < ((x54_4 + 1)) → 0 ≤ ((upd1 (w54_13) (x54_4) (z69))) 3 ∧ ((upd1 (w54_13) (x54_4) (z69))) 3 ≤ 65536 from hk3) (show IMP ((0 : Int) < ((x54_4 + 1))) (((upd1 (w54_13) (x54_4) (z69))) 0 = (u5_32)) by assumption) (show IMP ((1 : Int) < ((x54_4 + 1))) (((upd1 (w54_13) (x54_4) (z69))) 1 = (u5_33)) by assumption) (show IMP ((2 : Int) < ((x54_4 + 1))) (((upd1 (w54_13) (x54_4) (z69))) 2 = (u5_34)) by assumption) (show IMP ((3 : Int) < ((x54_4 + 1))) (((upd1 (w54_13) (x54_4) (z69))) 3 = (u5_27)) by assumption) (show IMP ((4 : Int) < ((x54_4 + 1))) (((upd1 (w54_13) (x54_4) (z69))) 4 = (u5_36)) by assumption) rfl
    · refine Ew_of (pcₚ := 18) (fun _ => x_aload_n rfl l11_0) ?_
      refine w_gT H (o := 0) (t := 1) rfl (H.perm 0 rfl) rfl rfl rfl rfl rfl rfl ?_
      refine w_gT H (o := 1) (t := 14) rfl (H.perm 1 rfl) rfl rfl rfl rfl rfl rfl ?_
      refine Ew_of (pcₚ := 26) (fun _ => x_iload rfl l11_4) ?_
      refine Ew_of (pcₚ := 27) (fun _ => x_aload_n rfl l11_0) ?_
      refine w_gT H (o := 0) (t := 1) rfl (H.perm 0 rfl) rfl rfl rfl rfl rfl rfl ?_
      refine w_gT H (o := 1) (t := 15) rfl (H.perm 1 rfl) rfl rfl rfl rfl rfl rfl ?_
      refine Ew_of (pcₚ := 35) (fun _ => x_iload rfl l11_4) ?_
      have hv35x := hOu ((x11_4))
      refine w_lI H (o := 15) (n := 65536) rfl (H.perm 15 rfl) rfl rfl (H.fix 15 rfl rfl) (show 0 ≤ x11_4 ∧ x11_4 < ((65536 : Nat) : Int) from q_294 b11 j11_1 r1) (by decide) (fun v70 ev70 qv70 => ?_)
      have qv70 : (0 : Int) ≤ v70 ∧ v70 ≤ 255 := qv70
      have ev70 : (w15) (x11_4) = v70 := (congrFun ((funext (hA_11 15 rfl)).trans (ew15)) (x11_4)).symm.trans ev70
      have hv35 := ev70
      refine w_sI H (o := 14) (n := 65536) rfl (H.perm 14 rfl) rfl rfl (H.fix 14 rfl rfl) (show 0 ≤ x11_4 ∧ x11_4 < ((65536 : Nat) : Int) from q_294 b11 j11_1 r1) (by decide) (show (0 : Int) ≤ v70 ∧ v70 ≤ 255 from qv70) (fun σ H => ?_)
      refine Ew_of (pcₚ := 40) (fun _ => x_iinc (len := 3) rfl (l11_4)) ?_
      refine Ew_of (pcₚ := 11) (fun _ => x_goto rfl rfl) ?_
      have : CPY ((w15)) ((upd1 (w11_14) (x11_4) (v70))) 0 0 (((x11_4 + 1))) := CPY_s j11_c hv35 (by omega) (by omega) rfl
      exact ih11 _ (msE hm11 q_16 (q_17 b11)) _ σ _ _ ((x11_4 + 1)) (rk_o (l11_0) rfl rfl) (rk_o (l11_1) rfl rfl) (rk_o (l11_2) rfl rfl) (rk_o (l11_3) rfl rfl) (rk_s) H (hS_11) (SA_upd (hA_11) rfl)  (upd1 (w11_14) (x11_4) (v70)) (congrArg (fun q => upd1 q (x11_4) (v70)) (ew11_14)) (show inr ((x11_4 + 1)) from q_296 b11 j11_1 r1) (show (0) ≤ ((x11_4 + 1)) from q_14 j11_1) (show ((x11_4 + 1)) ≤ (0) ∨ ((x11_4 + 1)) ≤ ((u1_3)) from q_13 b11) (show CPY ((w15)) ((upd1 (w11_14) (x11_4) (v70))) 0 0 (((x11_4 + 1))) by assumption) rfl


end
section
/-! 99e.ref -/
theorem M388_5p {σ0 σ : rS} {D N : Nat → Nat} {F : hF} {A : hA} {d c s : Nat} {Q : wQ} (H : HS σ0 σ D N F A)  (u5_2 : Int) (eu5_2 : F 5 2 = u5_2) (u5_3 : Int) (eu5_3 : F 5 3 = u5_3) (u5_4 : Int) (eu5_4 : F 5 4 = u5_4) (w26 : Int → Int) (ew26 : A 26 = w26) (w27 : Int → Int) (ew27 : A 27 = w27) (w28 : Int → Int) (ew28 : A 28 = w28) (w29 : Int → Int) (ew29 : A 29 = w29) (w30 : Int → Int) (ew30 : A 30 = w30) (h0 : DI ((u5_4)) ((w27)) ((w28)) ((w29)) ((w30))) (k : ∀ σ Fₚ Aₚ, HS σ0 σ D N Fₚ Aₚ → SF [(6, 4), (6, 5), (6, 6)] F Fₚ → SA [48, 49, 50, 51, 52] A Aₚ → ∀ y6_4 : Int, Fₚ 6 4 = y6_4 → ∀ y6_5 : Int, Fₚ 6 5 = y6_5 → ∀ y6_6 : Int, Fₚ 6 6 = y6_6 → ∀ v48 : Int → Int, Aₚ 48 = v48 → ∀ v49 : Int → Int, Aₚ 49 = v49 → ∀ v50 : Int → Int, Aₚ 50 = v50 → ∀ v51 : Int → Int, Aₚ 51 = v51 → ∀ v52 : Int → Int, Aₚ 52 = v52 → (DW ((y6_6)) ((v49)) ((v50)) ((v51))) → ((y6_4) = (u5_2)) → (WEQ ((y6_6)) ((y6_5)) ((y6_4)) ((v48)) ((v49)) ((v50)) ((v51)) ((v52)) ((u5_4)) ((u5_3)) ((u5_2)) ((w26)) ((w27)) ((w28)) ((w29)) ((w30))) → Q none σ c s) : Ew 388 (d + 0) 0 (rargs 0 [.ref (D 6), .ref (D 5)]) [] σ c s Q := by
  have r1 : (0 : Int) ≤ u5_2 ∧ u5_2 ≤ 65536 := rngE (show (0 : Int) ≤ F 5 2 ∧ F 5 2 ≤ 65536 from H.frng 5 2) (show F 5 2 = u5_2 from (eu5_2))
  have r2 : (-2147483648 : Int) ≤ u5_3 ∧ u5_3 ≤ 2147483647 := rngE (show (-2147483648 : Int) ≤ F 5 3 ∧ F 5 3 ≤ 2147483647 from H.frng 5 3) (show F 5 3 = u5_3 from (eu5_3))
  have r3 : (0 : Int) ≤ u5_4 ∧ u5_4 ≤ 1 := rngE (show (0 : Int) ≤ F 5 4 ∧ F 5 4 ≤ 1 from H.frng 5 4) (show F 5 4 = u5_4 from (eu5_4))
  refine Ew_of (pcₚ := 1) (fun _ => x_aload_n rfl rfl) ?_
  refine Ew_of (pcₚ := 2) (fun _ => x_aload_n rfl rfl) ?_
  refine w_gI H (o := 5) (w := u5_2) rfl (H.perm 5 rfl) rfl rfl rfl (fun _ => rfl) (eu5_2) ?_
  refine w_pI H (o := 6) rfl rfl (H.perm 6 rfl) rfl rfl rfl (fun _ => rfl) rfl (show (0 : Int) ≤ u5_2 ∧ u5_2 ≤ 65536 from r1) (fun σ H => ?_)
  refine Ew_of (pcₚ := 9) (fun _ => x_aload_n rfl rfl) ?_
  refine Ew_of (pcₚ := 10) (fun _ => x_aload_n rfl rfl) ?_
  refine w_gI H (o := 5) (w := u5_3) rfl (H.perm 5 rfl) rfl rfl rfl (fun _ => rfl) (eu5_3) ?_
  refine w_pI H (o := 6) rfl rfl (H.perm 6 rfl) rfl rfl rfl (fun _ => rfl) rfl (show (-2147483648 : Int) ≤ u5_3 ∧ u5_3 ≤ 2147483647 from r2) (fun σ H => ?_)
  refine Ew_of (pcₚ := 17) (fun _ => x_aload_n rfl rfl) ?_
  refine Ew_of (pcₚ := 18) (fun _ => x_aload_n rfl rfl) ?_
  refine w_gI H (o := 5) (w := u5_4) rfl (H.perm 5 rfl) rfl rfl rfl (fun _ => rfl) (eu5_4) ?_
  refine w_pI H (o := 6) rfl rfl (H.perm 6 rfl) rfl rfl rfl (fun _ => rfl) (rfit_b (by omega)) (show (0 : Int) ≤ u5_4 ∧ u5_4 ≤ 1 from r3) (fun σ H => ?_)
  refine Ew_of (pcₚ := 25) (fun _ => x_iconst rfl) ?_
  refine Ew_of (pcₚ := 26) (fun _ => x_istore_n rfl) ?_
  have : ∀ i, 0 ≤ i → i < 0 → ((A 48)) i = ((w26)) i := fun i a b => absurd b (by omega)
  suffices hl26 : ∀ (m : Nat), ∀ (ls : rO) (σ : rS) (F_26 : hF) (A_26 : hA) (x26_2 : Int), rlook ls 0 = some (.ref (D 6)) → rlook ls 1 = some (.ref (D 5)) → rlook ls 2 = some (I (x26_2)) → HS σ0 σ D N F_26 A_26 → SF [] (updF (updF (updF F 6 4 (u5_2)) 6 5 (u5_3)) 6 6 (u5_4)) F_26 → SA [48] A A_26 → ∀ w26_48 : Int → Int, A_26 48 = w26_48 → (inr (x26_2)) → ((0) ≤ (x26_2)) → ((x26_2) ≤ (0) ∨ (x26_2) ≤ ((u5_2))) → (∀ i, 0 ≤ i → i < (x26_2) → ((w26_48)) i = ((w26)) i) → (((u5_2)) - (x26_2)).toNat = m → Ew 388 (d + 0) 26 ls [] σ c s Q from
    hl26 _ _ σ _ _ (0) (rk_o (rfl) rfl rfl) (rk_o (rfl) rfl rfl) (rk_s) H (SF_refl) (SA_refl)  (A 48) (rfl) (show inr (0) from q_2) (show (0) ≤ (0) from q_1) (show (0) ≤ (0) ∨ (0) ≤ ((u5_2)) from q_5) (show ∀ i, 0 ≤ i → i < (0) → ((A 48)) i = ((w26)) i by assumption) rfl
  as_aux_lemma =>
  intro m
  induction m using Nat.strongRecOn with
  | _ m ih26 =>
    intro ls σ F_26 A_26 x26_2 l26_0 l26_1 l26_2 H hS_26 hA_26  w26_48 ew26_48 j26_0 j26_1 j26_2 j26_3 hm26
    have j26_d : ∀ i, 0 ≤ i → i < (x26_2) → ((w26_48)) i = ((w26)) i := by assumption
    refine Ew_of (pcₚ := 27) (fun _ => x_iload_n rfl l26_2) ?_
    refine Ew_of (pcₚ := 28) (fun _ => x_aload_n rfl l26_0) ?_
    refine w_gI H (o := 6) (w := u5_2) rfl (H.perm 6 rfl) rfl rfl rfl (fun _ => rfl) (hS_26 6 4 rfl) ?_
    refine w_icmpge (t := 52) rfl rfl (show inr (x26_2) from j26_0) (show inr (u5_2) from q_286 r1) (fun b4 => ?_) (fun b4 => ?_)
    · have k26 : ∀ i, 0 ≤ i → i < (u5_2) → ((w26_48)) i = ((w26)) i := fun i a b => j26_d i a (by omega)
      refine Ew_of (pcₚ := 53) (fun _ => x_iconst rfl) ?_
      refine Ew_of (pcₚ := 54) (fun _ => x_istore_n rfl) ?_
      have : ∀ i, (0 : Int) ≤ i → i < 0 → ((A 49)) i = ((w27)) i := fun i a b => absurd b (by omega)
      suffices hl54 : ∀ (m : Nat), ∀ (ls : rO) (σ : rS) (F_54 : hF) (A_54 : hA) (x54_2 : Int), rlook ls 0 = some (.ref (D 6)) → rlook ls 1 = some (.ref (D 5)) → rlook ls 2 = some (I (x54_2)) → HS σ0 σ D N F_54 A_54 → SF [] F_26 F_54 → SA [49] A_26 A_54 → ∀ w54_49 : Int → Int, A_54 49 = w54_49 → (inr (x54_2)) → ((0) ≤ (x54_2)) → ((x54_2) ≤ (0) ∨ (x54_2) ≤ ((256))) → (∀ i, 0 ≤ i → i < (x54_2) → ((w54_49)) i = ((w27)) i) → (((256)) - (x54_2)).toNat = m → Ew 388 (d + 0) 54 ls [] σ c s Q from
        hl54 _ _ σ _ _ (0) (rk_o (l26_0) rfl rfl) (rk_o (l26_1) rfl rfl) (rk_s) H (SF_refl) (SA_refl)  (A 49) (funext (hA_26 49 rfl)) (show inr (0) from q_2) (show (0) ≤ (0) from q_1) (show (0) ≤ (0) ∨ (0) ≤ ((256)) from q_0) (show ∀ i, 0 ≤ i → i < (0) → ((A 49)) i = ((w27)) i by assumption) rfl
      as_aux_lemma =>
      intro m
      induction m using Nat.strongRecOn with
      | _ m ih54 =>
        intro ls σ F_54 A_54 x54_2 l54_0 l54_1 l54_2 H hS_54 hA_54  w54_49 ew54_49 j54_0 j54_1 j54_2 j54_3 hm54
        refine Ew_of (pcₚ := 55) (fun _ => x_iload_n rfl l54_2) ?_
        refine Ew_of (pcₚ := 58) (fun _ => x_sipush (z := 256) rfl (by decide)) ?_
        refine w_icmpge (t := 79) rfl rfl (show inr (x54_2) from j54_0) (show inr (256) from q_3) (fun b5 => ?_) (fun b5 => ?_)
        · have k54 : ∀ i, 0 ≤ i → i < 256 → ((w54_49)) i = ((w27)) i := fun i a b => j54_3 i a (by omega)
          refine Ew_of (pcₚ := 80) (fun _ => x_iconst rfl) ?_
          refine Ew_of (pcₚ := 81) (fun _ => x_istore_n rfl) ?_
          have : ∀ i, (0 : Int) ≤ i → i < 0 → ((A 50)) i = ((w28)) i := fun i a b => absurd b (by omega)
          suffices hl81 : ∀ (m : Nat), ∀ (ls : rO) (σ : rS) (F_81 : hF) (A_81 : hA) (x81_2 : Int), rlook ls 0 = some (.ref (D 6)) → rlook ls 1 = some (.ref (D 5)) → rlook ls 2 = some (I (x81_2)) → HS σ0 σ D N F_81 A_81 → SF [] F_54 F_81 → SA [50] A_54 A_81 → ∀ w81_50 : Int → Int, A_81 50 = w81_50 → (inr (x81_2)) → ((0) ≤ (x81_2)) → ((x81_2) ≤ (0) ∨ (x81_2) ≤ ((192))) → (∀ i, 0 ≤ i → i < (x81_2) → ((w81_50)) i = ((w28)) i) → (((192)) - (x81_2)).toNat = m → Ew 388 (d + 0) 81 ls [] σ c s Q from
            hl81 _ _ σ _ _ (0) (rk_o (l54_0) rfl rfl) (rk_o (l54_1) rfl rfl) (rk_s) H (SF_refl) (SA_refl)  (A 50) ((funext (hA_54 50 rfl)).trans (funext (hA_26 50 rfl))) (show inr (0) from q_2) (show (0) ≤ (0) from q_1) (show (0) ≤ (0) ∨ (0) ≤ ((192)) from q_1795) (show ∀ i, 0 ≤ i → i < (0) → ((A 50)) i = ((w28)) i by assumption) rfl
          as_aux_lemma =>
          intro m
          induction m using Nat.strongRecOn with
          | _ m ih81 =>
            intro ls σ F_81 A_81 x81_2 l81_0 l81_1 l81_2 H hS_81 hA_81  w81_50 ew81_50 j81_0 j81_1 j81_2 j81_3 hm81
            refine Ew_of (pcₚ := 82) (fun _ => x_iload_n rfl l81_2) ?_
            refine Ew_of (pcₚ := 85) (fun _ => x_sipush (z := 192) rfl (by decide)) ?_
            refine w_icmpge (t := 106) rfl rfl (show inr (x81_2) from j81_0) (show inr (192) from q_1796) (fun b6 => ?_) (fun b6 => ?_)
            · have k81 : ∀ i, 0 ≤ i → i < 192 → ((w81_50)) i = ((w28)) i := fun i a b => j81_3 i a (by omega)
              refine Ew_of (pcₚ := 107) (fun _ => x_iconst rfl) ?_
              refine Ew_of (pcₚ := 108) (fun _ => x_istore_n rfl) ?_
              have : ∀ i, (0 : Int) ≤ i → i < 0 → ((A 51)) i = ((w29)) i := fun i a b => absurd b (by omega)
              have : ∀ i, 0 ≤ i → i < 0 → ((A 52)) i = w32 (((w30)) i) := fun i a b => absurd b (by omega)
              suffices hl108 : ∀ (m : Nat), ∀ (ls : rO) (σ : rS) (F_108 : hF) (A_108 : hA) (x108_2 : Int), rlook ls 0 = some (.ref (D 6)) → rlook ls 1 = some (.ref (D 5)) → rlook ls 2 = some (I (x108_2)) → HS σ0 σ D N F_108 A_108 → SF [] F_81 F_108 → SA [51, 52] A_81 A_108 → ∀ w108_51 : Int → Int, A_108 51 = w108_51 → ∀ w108_52 : Int → Int, A_108 52 = w108_52 → (inr (x108_2)) → ((0) ≤ (x108_2)) → ((x108_2) ≤ (0) ∨ (x108_2) ≤ (3)) → (∀ i, 0 ≤ i → i < (x108_2) → ((w108_51)) i = ((w29)) i) → (∀ i, 0 ≤ i → i < (x108_2) → ((w108_52)) i = w32 (((w30)) i)) → ((3) - (x108_2)).toNat = m → Ew 388 (d + 0) 108 ls [] σ c s Q from
                hl108 _ _ σ _ _ (0) (rk_o (l81_0) rfl rfl) (rk_o (l81_1) rfl rfl) (rk_s) H (SF_refl) (SA_refl)  (A 51) ((funext (hA_81 51 rfl)).trans ((funext (hA_54 51 rfl)).trans (funext (hA_26 51 rfl)))) (A 52) ((funext (hA_81 52 rfl)).trans ((funext (hA_54 52 rfl)).trans (funext (hA_26 52 rfl)))) (show inr (0) from q_2) (show (0) ≤ (0) from q_1) (show (0) ≤ (0) ∨ (0) ≤ (3) from q_1793) (show ∀ i, 0 ≤ i → i < (0) → ((A 51)) i = ((w29)) i by assumption) (show ∀ i, 0 ≤ i → i < (0) → ((A 52)) i = w32 (((w30)) i) by assumption) rfl
              as_aux_lemma =>
              intro m
              induction m using Nat.strongRecOn with
              | _ m ih108 =>
                intro ls σ F_108 A_108 x108_2 l108_0 l108_1 l108_2 H hS_108 hA_108  w108_51 ew108_51 w108_52 ew108_52 j108_0 j108_1 j108_2 j108_3 j108_4 hm108
                have j108_l : ∀ i, 0 ≤ i → i < (x108_2) → ((w108_52)) i = w32 (((w30)) i) := by assumption
                refine Ew_of (pcₚ := 109) (fun _ => x_iload_n rfl l108_2) ?_
                refine Ew_of (pcₚ := 110) (fun _ => x_iconst rfl) ?_
                refine w_icmpge (t := 144) rfl rfl (show inr (x108_2) from j108_0) (show inr (3) from q_246) (fun b7 => ?_) (fun b7 => ?_)
                · have hdi : DI ((u5_4)) ((w27)) ((w28)) ((w29)) ((w30)) := h0
                  have : DW ((u5_4)) ((w54_49)) ((w81_50)) ((w108_51)) := fun q => ⟨by obtain ⟨T, hT⟩ := (hdi q).1; exact ⟨T, CI_congr hT (fun i a b => j54_3 i a (by omega))⟩, fun t a b => PS_congr ((hdi q).2.1 t a b) ⟨a, b⟩ (fun i c e => j81_3 i c (by omega)) (j108_3 t a (by omega))⟩
                  have : WEQ ((u5_4)) ((u5_3)) ((u5_2)) ((w26_48)) ((w54_49)) ((w81_50)) ((w108_51)) ((w108_52)) ((u5_4)) ((u5_3)) ((u5_2)) ((w26)) ((w27)) ((w28)) ((w29)) ((w30)) := ⟨by omega, by omega, by omega, k26, k54, k81, fun i a b => j108_3 i a (by omega), fun i a b => j108_l i a (by omega)⟩
                  exact w_ret rfl (k σ _ _ H (SF_trans (SF_trans (SF_trans (SF_trans (SF_upd (SF_upd (SF_upd (SF_refl) rfl) rfl) rfl) hS_26 (any_sub rfl)) hS_54 (any_sub rfl)) hS_81 (any_sub rfl)) hS_108 (any_sub rfl)) (SA_trans (SA_trans (SA_trans (SA_trans (SA_refl) hA_26 (any_subA rfl)) hA_54 (any_subA rfl)) hA_81 (any_subA rfl)) hA_108 (any_subA rfl)) (u5_2) (((((hS_108 6 4 rfl).trans (hS_81 6 4 rfl)).trans (hS_54 6 4 rfl)).trans (hS_26 6 4 rfl))) (u5_3) (((((hS_108 6 5 rfl).trans (hS_81 6 5 rfl)).trans (hS_54 6 5 rfl)).trans (hS_26 6 5 rfl))) (u5_4) (((((hS_108 6 6 rfl).trans (hS_81 6 6 rfl)).trans (hS_54 6 6 rfl)).trans (hS_26 6 6 rfl))) (w26_48) ((funext (hA_108 48 rfl)).trans ((funext (hA_81 48 rfl)).trans ((funext (hA_54 48 rfl)).trans (ew26_48)))) (w54_49) ((funext (hA_108 49 rfl)).trans ((funext (hA_81 49 rfl)).trans (ew54_49))) (w81_50) ((funext (hA_108 50 rfl)).trans (ew81_50)) (w108_51) (ew108_51) (w108_52) (ew108_52) (show DW ((u5_4)) ((w54_49)) ((w81_50)) ((w108_51)) by assumption) (show (u5_2) = (u5_2) from q_303) (show WEQ ((u5_4)) ((u5_3)) ((u5_2)) ((w26_48)) ((w54_49)) ((w81_50)) ((w108_51)) ((w108_52)) ((u5_4)) ((u5_3)) ((u5_2)) ((w26)) ((w27)) ((w28)) ((w29)) ((w30)) by assumption))
                · refine Ew_of (pcₚ := 114) (fun _ => x_aload_n rfl l108_0) ?_
                  refine w_gT H (o := 6) (t := 51) rfl (H.perm 6 rfl) rfl rfl rfl rfl rfl rfl ?_
                  refine Ew_of (pcₚ := 118) (fun _ => x_iload_n rfl l108_2) ?_
                  refine Ew_of (pcₚ := 119) (fun _ => x_aload_n rfl l108_1) ?_
                  refine w_gT H (o := 5) (t := 29) rfl (H.perm 5 rfl) rfl rfl rfl rfl rfl rfl ?_
                  refine Ew_of (pcₚ := 123) (fun _ => x_iload_n rfl l108_2) ?_
                  refine w_lI H (o := 29) (n := 3) rfl (H.perm 29 rfl) rfl rfl (H.fix 29 rfl rfl) (show 0 ≤ x108_2 ∧ x108_2 < ((3 : Nat) : Int) from q_1801 b7 j108_1) (by decide) (fun v8 ev8 qv8 => ?_)
                  have qv8 : (-1 : Int) ≤ v8 ∧ v8 ≤ 9 := qv8
                  have ev8 : (w29) (x108_2) = v8 := (congrFun ((funext (hA_108 29 rfl)).trans ((funext (hA_81 29 rfl)).trans ((funext (hA_54 29 rfl)).trans ((funext (hA_26 29 rfl)).trans (ew29))))) (x108_2)).symm.trans ev8
                  refine w_sI H (o := 51) (n := 3) rfl (H.perm 51 rfl) rfl rfl (H.fix 51 rfl rfl) (show 0 ≤ x108_2 ∧ x108_2 < ((3 : Nat) : Int) from q_1801 b7 j108_1) (by decide) (show (-1 : Int) ≤ v8 ∧ v8 ≤ 9 from qv8) (fun σ H => ?_)
                  refine Ew_of (pcₚ := 126) (fun _ => x_aload_n rfl l108_0) ?_
                  refine w_gT H (o := 6) (t := 52) rfl (H.perm 6 rfl) rfl rfl rfl rfl rfl rfl ?_
                  refine Ew_of (pcₚ := 130) (fun _ => x_iload_n rfl l108_2) ?_
                  refine Ew_of (pcₚ := 131) (fun _ => x_aload_n rfl l108_1) ?_
                  refine w_gT H (o := 5) (t := 30) rfl (H.perm 5 rfl) rfl rfl rfl rfl rfl rfl ?_
                  refine Ew_of (pcₚ := 135) (fun _ => x_iload_n rfl l108_2) ?_
                  refine w_lJ H (o := 30) (n := 3) rfl (H.perm 30 rfl) rfl rfl (H.fix 30 rfl rfl) (show 0 ≤ x108_2 ∧ x108_2 < ((3 : Nat) : Int) from q_1801 b7 j108_1) (by decide) (fun v9 ev9 qv9 => ?_)
                  have qv9 : (-9223372036854775808 : Int) ≤ v9 ∧ v9 ≤ 9223372036854775807 := qv9
                  have ev9 : (w30) (x108_2) = v9 := (congrFun ((funext (hA_108 30 rfl)).trans ((funext (hA_81 30 rfl)).trans ((funext (hA_54 30 rfl)).trans ((funext (hA_26 30 rfl)).trans (ew30))))) (x108_2)).symm.trans ev9
                  have hv136 := ev9
                  refine w_l2iW rfl ?_
                  have g10 : inr (w32 (v9)) := w32_r _
                  obtain ⟨qy, hqy⟩ : ∃ q : Int, q = ((w32 (v9))) := ⟨_, rfl⟩
                  rw [← hqy]
                  have gqy : inr qy := by rw [hqy]; first | assumption | omega
                  replace hqy : IMP True (qy = ((w32 (v9)))) := fun _ => hqy
                  refine w_sI H (o := 52) (n := 3) rfl (H.perm 52 rfl) rfl rfl (H.fix 52 rfl rfl) (show 0 ≤ x108_2 ∧ x108_2 < ((3 : Nat) : Int) from q_1801 b7 j108_1) (by decide) (show (-2147483648 : Int) ≤ qy ∧ qy ≤ 2147483647 from q_31 gqy) (fun σ H => ?_)
                  refine Ew_of (pcₚ := 141) (fun _ => x_iinc (len := 3) rfl (l108_2)) ?_
                  refine Ew_of (pcₚ := 108) (fun _ => x_goto rfl rfl) ?_
                  have : ∀ i, (0 : Int) ≤ i → i < ((x108_2 + 1)) → ((upd1 (w108_51) (x108_2) (v8))) i = ((w29)) i := pt_copy j108_3 (by omega)
                  have : ∀ i, 0 ≤ i → i < ((x108_2 + 1)) → ((upd1 (w108_52) (x108_2) (qy))) i = w32 (((w30)) i) := fun i a b => by by_cases e : i = x108_2; (rw [e, upd1_s, hv136]; exact hqy trivial); (rw [upd1_o e]; exact j108_l i a (by omega))
                  exact ih108 _ (msE hm108 q_813 (q_814 b7)) _ σ _ _ ((x108_2 + 1)) (rk_o (l108_0) rfl rfl) (rk_o (l108_1) rfl rfl) (rk_s) H (hS_108) (SA_upd (SA_upd (hA_108) rfl) rfl)  (upd1 (w108_51) (x108_2) (v8)) (congrArg (fun q => upd1 q (x108_2) (v8)) (ew108_51)) (upd1 (w108_52) (x108_2) (qy)) (congrArg (fun q => upd1 q (x108_2) (qy)) (ew108_52)) (show inr ((x108_2 + 1)) from q_1804 b7 j108_1) (show (0) ≤ ((x108_2 + 1)) from q_14 j108_1) (show ((x108_2 + 1)) ≤ (0) ∨ ((x108_2 + 1)) ≤ (3) from q_1803 b7) (show ∀ i, 0 ≤ i → i < ((x108_2 + 1)) → ((upd1 (w108_51) (x108_2) (v8))) i = ((w29)) i by assumption) (show ∀ i, 0 ≤ i → i < ((x108_2 + 1)) → ((upd1 (w108_52) (x108_2) (qy))) i = w32 (((w30)) i) by assumption) rfl
            · refine Ew_of (pcₚ := 89) (fun _ => x_aload_n rfl l81_0) ?_
              refine w_gT H (o := 6) (t := 50) rfl (H.perm 6 rfl) rfl rfl rfl rfl rfl rfl ?_
              refine Ew_of (pcₚ := 93) (fun _ => x_iload_n rfl l81_2) ?_
              refine Ew_of (pcₚ := 94) (fun _ => x_aload_n rfl l81_1) ?_
              refine w_gT H (o := 5) (t := 28) rfl (H.perm 5 rfl) rfl rfl rfl rfl rfl rfl ?_
              refine Ew_of (pcₚ := 98) (fun _ => x_iload_n rfl l81_2) ?_
              refine w_lI H (o := 28) (n := 192) rfl (H.perm 28 rfl) rfl rfl (H.fix 28 rfl rfl) (show 0 ≤ x81_2 ∧ x81_2 < ((192 : Nat) : Int) from q_1805 b6 j81_1) (by decide) (fun v11 ev11 qv11 => ?_)
              have qv11 : (-1 : Int) ≤ v11 ∧ v11 ≤ 512 := qv11
              have ev11 : (w28) (x81_2) = v11 := (congrFun ((funext (hA_81 28 rfl)).trans ((funext (hA_54 28 rfl)).trans ((funext (hA_26 28 rfl)).trans (ew28)))) (x81_2)).symm.trans ev11
              refine w_sI H (o := 50) (n := 192) rfl (H.perm 50 rfl) rfl rfl (H.fix 50 rfl rfl) (show 0 ≤ x81_2 ∧ x81_2 < ((192 : Nat) : Int) from q_1805 b6 j81_1) (by decide) (show (-1 : Int) ≤ v11 ∧ v11 ≤ 512 from qv11) (fun σ H => ?_)
              refine Ew_of (pcₚ := 103) (fun _ => x_iinc (len := 3) rfl (l81_2)) ?_
              refine Ew_of (pcₚ := 81) (fun _ => x_goto rfl rfl) ?_
              have : ∀ i, (0 : Int) ≤ i → i < ((x81_2 + 1)) → ((upd1 (w81_50) (x81_2) (v11))) i = ((w28)) i := pt_copy j81_3 (by omega)
              exact ih81 _ (msE hm81 q_1808 (q_1809 b6)) _ σ _ _ ((x81_2 + 1)) (rk_o (l81_0) rfl rfl) (rk_o (l81_1) rfl rfl) (rk_s) H (hS_81) (SA_upd (hA_81) rfl)  (upd1 (w81_50) (x81_2) (v11)) (congrArg (fun q => upd1 q (x81_2) (v11)) (ew81_50)) (show inr ((x81_2 + 1)) from q_1807 b6 j81_1) (show (0) ≤ ((x81_2 + 1)) from q_14 j81_1) (show ((x81_2 + 1)) ≤ (0) ∨ ((x81_2 + 1)) ≤ ((192)) from q_1806 b6) (show ∀ i, 0 ≤ i → i < ((x81_2 + 1)) → ((upd1 (w81_50) (x81_2) (v11))) i = ((w28)) i by assumption) rfl
        · refine Ew_of (pcₚ := 62) (fun _ => x_aload_n rfl l54_0) ?_
          refine w_gT H (o := 6) (t := 49) rfl (H.perm 6 rfl) rfl rfl rfl rfl rfl rfl ?_
          refine Ew_of (pcₚ := 66) (fun _ => x_iload_n rfl l54_2) ?_
          refine Ew_of (pcₚ := 67) (fun _ => x_aload_n rfl l54_1) ?_
          refine w_gT H (o := 5) (t := 27) rfl (H.perm 5 rfl) rfl rfl rfl rfl rfl rfl ?_
          refine Ew_of (pcₚ := 71) (fun _ => x_iload_n rfl l54_2) ?_
          refine w_lI H (o := 27) (n := 256) rfl (H.perm 27 rfl) rfl rfl (H.fix 27 rfl rfl) (show 0 ≤ x54_2 ∧ x54_2 < ((256 : Nat) : Int) from q_23 b5 j54_1) (by decide) (fun v12 ev12 qv12 => ?_)
          have qv12 : (0 : Int) ≤ v12 ∧ v12 ≤ 11 := qv12
          have ev12 : (w27) (x54_2) = v12 := (congrFun ((funext (hA_54 27 rfl)).trans ((funext (hA_26 27 rfl)).trans (ew27))) (x54_2)).symm.trans ev12
          refine w_sI H (o := 49) (n := 256) rfl (H.perm 49 rfl) rfl rfl (H.fix 49 rfl rfl) (show 0 ≤ x54_2 ∧ x54_2 < ((256 : Nat) : Int) from q_23 b5 j54_1) (by decide) (show (0 : Int) ≤ v12 ∧ v12 ≤ 11 from qv12) (fun σ H => ?_)
          refine Ew_of (pcₚ := 76) (fun _ => x_iinc (len := 3) rfl (l54_2)) ?_
          refine Ew_of (pcₚ := 54) (fun _ => x_goto rfl rfl) ?_
          have : ∀ i, (0 : Int) ≤ i → i < ((x54_2 + 1)) → ((upd1 (w54_49) (x54_2) (v12))) i = ((w27)) i := pt_copy j54_3 (by omega)
          exact ih54 _ (msE hm54 q_26 (q_27 b5)) _ σ _ _ ((x54_2 + 1)) (rk_o (l54_0) rfl rfl) (rk_o (l54_1) rfl rfl) (rk_s) H (hS_54) (SA_upd (hA_54) rfl)  (upd1 (w54_49) (x54_2) (v12)) (congrArg (fun q => upd1 q (x54_2) (v12)) (ew54_49)) (show inr ((x54_2 + 1)) from q_25 b5 j54_1) (show (0) ≤ ((x54_2 + 1)) from q_14 j54_1) (show ((x54_2 + 1)) ≤ (0) ∨ ((x54_2 + 1)) ≤ ((256)) from q_24 b5) (show ∀ i, 0 ≤ i → i < ((x54_2 + 1)) → ((upd1 (w54_49) (x54_2) (v12))) i = ((w27)) i by assumption) rfl
    · refine Ew_of (pcₚ := 35) (fun _ => x_aload_n rfl l26_0) ?_
      refine w_gT H (o := 6) (t := 48) rfl (H.perm 6 rfl) rfl rfl rfl rfl rfl rfl ?_
      refine Ew_of (pcₚ := 39) (fun _ => x_iload_n rfl l26_2) ?_
      refine Ew_of (pcₚ := 40) (fun _ => x_aload_n rfl l26_1) ?_
      refine w_gT H (o := 5) (t := 26) rfl (H.perm 5 rfl) rfl rfl rfl rfl rfl rfl ?_
      refine Ew_of (pcₚ := 44) (fun _ => x_iload_n rfl l26_2) ?_
      refine w_lI H (o := 26) (n := 65536) rfl (H.perm 26 rfl) rfl rfl (H.fix 26 rfl rfl) (show 0 ≤ x26_2 ∧ x26_2 < ((65536 : Nat) : Int) from q_294 b4 j26_1 r1) (by decide) (fun v13 ev13 qv13 => ?_)
      have qv13 : (0 : Int) ≤ v13 ∧ v13 ≤ 255 := qv13
      have ev13 : (w26) (x26_2) = v13 := (congrFun ((funext (hA_26 26 rfl)).trans (ew26)) (x26_2)).symm.trans ev13
      have hv45 := ev13
      refine w_sI H (o := 48) (n := 65536) rfl (H.perm 48 rfl) rfl rfl (H.fix 48 rfl rfl) (show 0 ≤ x26_2 ∧ x26_2 < ((65536 : Nat) : Int) from q_294 b4 j26_1 r1) (by decide) (show (0 : Int) ≤ v13 ∧ v13 ≤ 255 from qv13) (fun σ H => ?_)
      refine Ew_of (pcₚ := 49) (fun _ => x_iinc (len := 3) rfl (l26_2)) ?_
      refine Ew_of (pcₚ := 26) (fun _ => x_goto rfl rfl) ?_
      have : ∀ i, 0 ≤ i → i < ((x26_2 + 1)) → ((upd1 (w26_48) (x26_2) (v13))) i = ((w26)) i := fun i a b => by by_cases e : i = x26_2; (rw [e, upd1_s]; exact hv45.symm); (rw [upd1_o e]; exact j26_d i a (by omega))
      exact ih26 _ (msE hm26 q_16 (q_17 b4)) _ σ _ _ ((x26_2 + 1)) (rk_o (l26_0) rfl rfl) (rk_o (l26_1) rfl rfl) (rk_s) H (hS_26) (SA_upd (hA_26) rfl)  (upd1 (w26_48) (x26_2) (v13)) (congrArg (fun q => upd1 q (x26_2) (v13)) (ew26_48)) (show inr ((x26_2 + 1)) from q_296 b4 j26_1 r1) (show (0) ≤ ((x26_2 + 1)) from q_14 j26_1) (show ((x26_2 + 1)) ≤ (0) ∨ ((x26_2 + 1)) ≤ ((u5_2)) from q_13 b4) (show ∀ i, 0 ≤ i → i < ((x26_2 + 1)) → ((upd1 (w26_48) (x26_2) (v13))) i = ((w26)) i by assumption) rfl

theorem M77p {σ0 σ : rS} {D N : Nat → Nat} {F : hF} {A : hA} {d c s : Nat} {Q : wQ} (H : HS σ0 σ D N F A) {a1 : Int} (u5_2 : Int) (eu5_2 : F 5 2 = u5_2) (u5_3 : Int) (eu5_3 : F 5 3 = u5_3) (u5_4 : Int) (eu5_4 : F 5 4 = u5_4) (u6_4 : Int) (eu6_4 : F 6 4 = u6_4) (u6_5 : Int) (eu6_5 : F 6 5 = u6_5) (u6_6 : Int) (eu6_6 : F 6 6 = u6_6) (w10 : Int → Int) (ew10 : A 10 = w10) (w11 : Int → Int) (ew11 : A 11 = w11) (w26 : Int → Int) (ew26 : A 26 = w26) (w27 : Int → Int) (ew27 : A 27 = w27) (w28 : Int → Int) (ew28 : A 28 = w28) (w29 : Int → Int) (ew29 : A 29 = w29) (w30 : Int → Int) (ew30 : A 30 = w30) (w34 : Int → Int) (ew34 : A 34 = w34) (w35 : Int → Int) (ew35 : A 35 = w35) (w36 : Int → Int) (ew36 : A 36 = w36) (w37 : Int → Int) (ew37 : A 37 = w37) (w48 : Int → Int) (ew48 : A 48 = w48) (w49 : Int → Int) (ew49 : A 49 = w49) (w50 : Int → Int) (ew50 : A 50 = w50) (w51 : Int → Int) (ew51 : A 51 = w51) (w52 : Int → Int) (ew52 : A 52 = w52) (Dc : DcS) (h0 : inr (a1)) (h1 : RT ((w35)) ((w36)) ((w37)) ((w34))) (h2 : DI ((u5_4)) ((w27)) ((w28)) ((w29)) ((w30))) (h3 : DW ((u6_6)) ((w49)) ((w50)) ((w51))) (h4 : RDI Dc ((u5_4)) ((u5_3)) ((w26)) ((u5_2)) ((w27)) ((w28)) ((w29)) ((w30))) (h5 : WEQ ((u6_6)) ((u6_5)) ((u6_4)) ((w48)) ((w49)) ((w50)) ((w51)) ((w52)) ((u5_4)) ((u5_3)) ((u5_2)) ((w26)) ((w27)) ((w28)) ((w29)) ((w30))) (k : ∀ (z : Int) σ Fₚ Aₚ, HS σ0 σ D N Fₚ Aₚ → SF [(1, 1), (5, 2), (5, 3), (5, 4), (5, 10), (5, 19), (5, 44), (5, 45), (6, 4), (6, 5), (6, 6)] F Fₚ → SA [14, 26, 27, 28, 29, 30, 31, 32, 33, 34, 35, 36, 37, 38, 39, 40, 41, 42, 43, 44, 48, 49, 50, 51, 52] A Aₚ → ∀ y5_2 : Int, Fₚ 5 2 = y5_2 → ∀ y5_3 : Int, Fₚ 5 3 = y5_3 → ∀ y5_4 : Int, Fₚ 5 4 = y5_4 → ∀ y6_4 : Int, Fₚ 6 4 = y6_4 → ∀ y6_5 : Int, Fₚ 6 5 = y6_5 → ∀ y6_6 : Int, Fₚ 6 6 = y6_6 → ∀ v26 : Int → Int, Aₚ 26 = v26 → ∀ v27 : Int → Int, Aₚ 27 = v27 → ∀ v28 : Int → Int, Aₚ 28 = v28 → ∀ v29 : Int → Int, Aₚ 29 = v29 → ∀ v30 : Int → Int, Aₚ 30 = v30 → ∀ v34 : Int → Int, Aₚ 34 = v34 → ∀ v35 : Int → Int, Aₚ 35 = v35 → ∀ v36 : Int → Int, Aₚ 36 = v36 → ∀ v37 : Int → Int, Aₚ 37 = v37 → ∀ v48 : Int → Int, Aₚ 48 = v48 → ∀ v49 : Int → Int, Aₚ 49 = v49 → ∀ v50 : Int → Int, Aₚ 50 = v50 → ∀ v51 : Int → Int, Aₚ 51 = v51 → ∀ v52 : Int → Int, Aₚ 52 = v52 → (inr (z)) → (RT ((v35)) ((v36)) ((v37)) ((v34))) → (DI ((y5_4)) ((v27)) ((v28)) ((v29)) ((v30))) → (DW ((y6_6)) ((v49)) ((v50)) ((v51))) → (LNZ ((rwR ((w10)) ((w11)))) ((a1)) Dc ((z)) ((y5_4)) ((y5_3)) ((v26)) ((y5_2)) ((v27)) ((v28)) ((v29)) ((v30))) → (WEQ ((y6_6)) ((y6_5)) ((y6_4)) ((v48)) ((v49)) ((v50)) ((v51)) ((v52)) ((y5_4)) ((y5_3)) ((y5_2)) ((v26)) ((v27)) ((v28)) ((v29)) ((v30))) → Q (some (I z)) σ c s) : Ew 77 (d + 5) 0 (rargs 0 [.ref (D 0), I a1]) [] σ c s Q := by
  have r1 : (0 : Int) ≤ u5_2 ∧ u5_2 ≤ 65536 := rngE (show (0 : Int) ≤ F 5 2 ∧ F 5 2 ≤ 65536 from H.frng 5 2) (show F 5 2 = u5_2 from (eu5_2))
  have r2 : (-2147483648 : Int) ≤ u5_3 ∧ u5_3 ≤ 2147483647 := rngE (show (-2147483648 : Int) ≤ F 5 3 ∧ F 5 3 ≤ 2147483647 from H.frng 5 3) (show F 5 3 = u5_3 from (eu5_3))
  have r3 : (0 : Int) ≤ u5_4 ∧ u5_4 ≤ 1 := rngE (show (0 : Int) ≤ F 5 4 ∧ F 5 4 ≤ 1 from H.frng 5 4) (show F 5 4 = u5_4 from (eu5_4))
  have r4 : (0 : Int) ≤ u6_4 ∧ u6_4 ≤ 65536 := rngE (show (0 : Int) ≤ F 6 4 ∧ F 6 4 ≤ 65536 from H.frng 6 4) (show F 6 4 = u6_4 from (eu6_4))
  have r5 : (-2147483648 : Int) ≤ u6_5 ∧ u6_5 ≤ 2147483647 := rngE (show (-2147483648 : Int) ≤ F 6 5 ∧ F 6 5 ≤ 2147483647 from H.frng 6 5) (show F 6 5 = u6_5 from (eu6_5))
  have r6 : (0 : Int) ≤ u6_6 ∧ u6_6 ≤ 1 := rngE (show (0 : Int) ≤ F 6 6 ∧ F 6 6 ≤ 1 from H.frng 6 6) (show F 6 6 = u6_6 from (eu6_6))
  have hSz : ∀ i, (0 : Int) ≤ (w11) i ∧ (w11) i ≤ 65536 := fun i => by have h1 : (0 : Int) ≤ A 11 i ∧ A 11 i ≤ 65536 := H.arng 11 i; rw [show A 11 = w11 from ew11] at h1; exact h1
  have hIn0 : ∀ i, (0 : Int) ≤ (A 14) i ∧ (A 14) i ≤ 255 := fun i => by have h1 : (0 : Int) ≤ A 14 i ∧ A 14 i ≤ 255 := H.arng 14 i; rw [show A 14 = A 14 from rfl] at h1; exact h1
  have hs1 := hSz ((a1))
  have hrd : RDI Dc ((u5_4)) ((u5_3)) ((w26)) ((u5_2)) ((w27)) ((w28)) ((w29)) ((w30)) := h4
  have hwe : WEQ ((u6_6)) ((u6_5)) ((u6_4)) ((w48)) ((w49)) ((w50)) ((w51)) ((w52)) ((u5_4)) ((u5_3)) ((u5_2)) ((w26)) ((w27)) ((w28)) ((w29)) ((w30)) := h5
  refine Ew_of (pcₚ := 1) (fun _ => x_iload_n rfl rfl) ?_
  refine w_stat24 rfl rfl (by rfl) (M56p H (show inr (a1) from h0) (fun z11 σ F7 A8 H hS9 hA10 pz11_0 pz11_1 => ⟨rretB rfl pz11_0, ?_⟩))
  refine w_ifne (t := 10) rfl rfl (show inr (z11) from q_138 pz11_0) (fun b12 => ?_) (fun b12 => ?_)
  · refine Ew_of (pcₚ := 11) (fun _ => x_aload_n rfl rfl) ?_
    refine Ew_of (pcₚ := 12) (fun _ => x_iload_n rfl rfl) ?_
    refine w_inv H (o := 0) rfl rfl rfl (H.perm 0 rfl) rfl rfl (by rfl) (M74p H (w10) ((funext (hA10 10 rfl)).trans (ew10)) (w11) ((funext (hA10 11 rfl)).trans (ew11)) (show inr (a1) from h0) (show 0 ≤ (a1) ∧ (a1) ≤ 3 by omega) (fun σ F13 A14 H hS15 hA16 y18 ey19 wq20 ewq21 pz17_0 pz17_1 => ⟨rfl, ?_⟩))
    have r22 : (0 : Int) ≤ y18 ∧ y18 ≤ 65536 := rngE (show (0 : Int) ≤ F13 1 1 ∧ F13 1 1 ≤ 65536 from H.frng 1 1) (show F13 1 1 = y18 from (ey19))
    have hld := pz17_1
    have hIn : ∀ i, (0 : Int) ≤ (wq20) i ∧ (wq20) i ≤ 255 := fun i => by have h1 : (0 : Int) ≤ A14 14 i ∧ A14 14 i ≤ 255 := H.arng 14 i; rw [show A14 14 = wq20 from ewq21] at h1; exact h1
    refine Ew_of (pcₚ := 16) (fun _ => x_aload_n rfl rfl) ?_
    refine w_gT H (o := 0) (t := 5) rfl (H.perm 0 rfl) rfl rfl rfl rfl rfl rfl ?_
    refine w_inv H (o := 5) rfl rfl rfl (H.perm 5 rfl) rfl rfl (by rfl) (M275 H (y18) ((ey19)) (u5_2) ((((hS15 5 2 rfl).trans (hS9 5 2 rfl)).trans (eu5_2))) (u5_3) ((((hS15 5 3 rfl).trans (hS9 5 3 rfl)).trans (eu5_3))) (u5_4) ((((hS15 5 4 rfl).trans (hS9 5 4 rfl)).trans (eu5_4))) (wq20) (ewq21) (w26) ((funext (hA16 26 rfl)).trans ((funext (hA10 26 rfl)).trans (ew26))) (w27) ((funext (hA16 27 rfl)).trans ((funext (hA10 27 rfl)).trans (ew27))) (w28) ((funext (hA16 28 rfl)).trans ((funext (hA10 28 rfl)).trans (ew28))) (w29) ((funext (hA16 29 rfl)).trans ((funext (hA10 29 rfl)).trans (ew29))) (w30) ((funext (hA16 30 rfl)).trans ((funext (hA10 30 rfl)).trans (ew30))) (w34) ((funext (hA16 34 rfl)).trans ((funext (hA10 34 rfl)).trans (ew34))) (w35) ((funext (hA16 35 rfl)).trans ((funext (hA10 35 rfl)).trans (ew35))) (w36) ((funext (hA16 36 rfl)).trans ((funext (hA10 36 rfl)).trans (ew36))) (w37) ((funext (hA16 37 rfl)).trans ((funext (hA10 37 rfl)).trans (ew37))) (Dc) (h1) (show DI ((u5_4)) ((w27)) ((w28)) ((w29)) ((w30)) by assumption) (hrd) (fun z27 σ F23 A24 H hS25 hA26 y28 ey29 y30 ey31 y32 ey33 wq34 ewq35 wq36 ewq37 wq38 ewq39 wq40 ewq41 wq42 ewq43 wq44 ewq45 wq46 ewq47 wq48 ewq49 wq50 ewq51 pz27_0 pz27_1 pz27_2 pz27_3 pz27_4 pz27_5 => ⟨rfl, ?_⟩))
    have r52 : (0 : Int) ≤ y28 ∧ y28 ≤ 65536 := rngE (show (0 : Int) ≤ F23 5 2 ∧ F23 5 2 ≤ 65536 from H.frng 5 2) (show F23 5 2 = y28 from (ey29))
    have r53 : (-2147483648 : Int) ≤ y30 ∧ y30 ≤ 2147483647 := rngE (show (-2147483648 : Int) ≤ F23 5 3 ∧ F23 5 3 ≤ 2147483647 from H.frng 5 3) (show F23 5 3 = y30 from (ey31))
    have r54 : (0 : Int) ≤ y32 ∧ y32 ≤ 1 := rngE (show (0 : Int) ≤ F23 5 4 ∧ F23 5 4 ≤ 1 from H.frng 5 4) (show F23 5 4 = y32 from (ey33))
    have hln := pz27_4
    have hlz : LNZ ((rwR ((w10)) ((w11)))) ((a1)) Dc ((z27)) ((y32)) ((y30)) ((wq34)) ((y28)) ((wq36)) ((wq38)) ((wq40)) ((wq42)) := LNZ_y ⟨by omega, by omega⟩ hld (by omega) hIn hln
    refine Ew_of (pcₚ := 23) (fun _ => x_istore_n rfl) ?_
    refine Ew_of (pcₚ := 24) (fun _ => x_iload_n rfl rk_s) ?_
    refine w_iflt (t := 38) rfl rfl (show inr (z27) from pz27_0) (fun b55 => ?_) (fun b55 => ?_)
    · refine Ew_of (pcₚ := 39) (fun _ => x_iload_n rfl rk_s) ?_
      have : LNZ ((rwR ((w10)) ((w11)))) ((a1)) Dc ((z27)) ((y32)) ((y30)) ((wq34)) ((y28)) ((wq36)) ((wq38)) ((wq40)) ((wq42)) := hlz
      have : WEQ ((u6_6)) ((u6_5)) ((u6_4)) ((w48)) ((w49)) ((w50)) ((w51)) ((w52)) ((y32)) ((y30)) ((y28)) ((wq34)) ((wq36)) ((wq38)) ((wq40)) ((wq42)) := by first | exact pzMISS_2 | exact WEQ_t (pz27_5 (by omega)) hwe
      exact w_ireturn rfl (k (z27) σ _ _ H (SF_trans (SF_trans (SF_trans (SF_refl) hS9 (any_sub rfl)) hS15 (any_sub rfl)) hS25 (any_sub rfl)) (SA_trans (SA_trans (SA_trans (SA_refl) hA10 (any_subA rfl)) hA16 (any_subA rfl)) hA26 (any_subA rfl)) (y28) ((ey29)) (y30) ((ey31)) (y32) ((ey33)) (u6_4) (((((hS25 6 4 rfl).trans (hS15 6 4 rfl)).trans (hS9 6 4 rfl)).trans (eu6_4))) (u6_5) (((((hS25 6 5 rfl).trans (hS15 6 5 rfl)).trans (hS9 6 5 rfl)).trans (eu6_5))) (u6_6) (((((hS25 6 6 rfl).trans (hS15 6 6 rfl)).trans (hS9 6 6 rfl)).trans (eu6_6))) (wq34) (ewq35) (wq36) (ewq37) (wq38) (ewq39) (wq40) (ewq41) (wq42) (ewq43) (wq44) (ewq45) (wq46) (ewq47) (wq48) (ewq49) (wq50) (ewq51) (w48) ((funext (hA26 48 rfl)).trans ((funext (hA16 48 rfl)).trans ((funext (hA10 48 rfl)).trans (ew48)))) (w49) ((funext (hA26 49 rfl)).trans ((funext (hA16 49 rfl)).trans ((funext (hA10 49 rfl)).trans (ew49)))) (w50) ((funext (hA26 50 rfl)).trans ((funext (hA16 50 rfl)).trans ((funext (hA10 50 rfl)).trans (ew50)))) (w51) ((funext (hA26 51 rfl)).trans ((funext (hA16 51 rfl)).trans ((funext (hA10 51 rfl)).trans (ew51)))) (w52) ((funext (hA26 52 rfl)).trans ((funext (hA16 52 rfl)).trans ((funext (hA10 52 rfl)).trans (ew52)))) (show inr (z27) from pz27_0) (pz27_1) (pz27_2) (h3) (show LNZ ((rwR ((w10)) ((w11)))) (a1) Dc ((z27)) ((y32)) ((y30)) ((wq34)) ((y28)) ((wq36)) ((wq38)) ((wq40)) ((wq42)) by assumption) (show WEQ ((u6_6)) ((u6_5)) ((u6_4)) ((w48)) ((w49)) ((w50)) ((w51)) ((w52)) ((y32)) ((y30)) ((y28)) ((wq34)) ((wq36)) ((wq38)) ((wq40)) ((wq42)) by assumption))
    · refine Ew_of (pcₚ := 28) (fun _ => x_aload_n rfl (rk_o (rfl) rfl rfl)) ?_
      refine w_gT H (o := 0) (t := 6) rfl (H.perm 0 rfl) rfl rfl rfl rfl rfl rfl ?_
      refine Ew_of (pcₚ := 32) (fun _ => x_aload_n rfl (rk_o (rfl) rfl rfl)) ?_
      refine w_gT H (o := 0) (t := 5) rfl (H.perm 0 rfl) rfl rfl rfl rfl rfl rfl ?_
      refine w_inv H (o := 6) rfl rfl rfl (H.perm 6 rfl) rfl rfl (by rfl) (M388_5p H (y28) ((ey29)) (y30) ((ey31)) (y32) ((ey33)) (wq34) (ewq35) (wq36) (ewq37) (wq38) (ewq39) (wq40) (ewq41) (wq42) (ewq43) (pz27_2) (fun σ F56 A57 H hS58 hA59 y61 ey62 y63 ey64 y65 ey66 wq67 ewq68 wq69 ewq70 wq71 ewq72 wq73 ewq74 wq75 ewq76 pz60_0 pz60_1 pz60_2 => ⟨rfl, ?_⟩))
      have r77 : (0 : Int) ≤ y61 ∧ y61 ≤ 65536 := rngE (show (0 : Int) ≤ F56 6 4 ∧ F56 6 4 ≤ 65536 from H.frng 6 4) (show F56 6 4 = y61 from (ey62))
      have r78 : (-2147483648 : Int) ≤ y63 ∧ y63 ≤ 2147483647 := rngE (show (-2147483648 : Int) ≤ F56 6 5 ∧ F56 6 5 ≤ 2147483647 from H.frng 6 5) (show F56 6 5 = y63 from (ey64))
      have r79 : (0 : Int) ≤ y65 ∧ y65 ≤ 1 := rngE (show (0 : Int) ≤ F56 6 6 ∧ F56 6 6 ≤ 1 from H.frng 6 6) (show F56 6 6 = y65 from (ey66))
      refine Ew_of (pcₚ := 39) (fun _ => x_iload_n rfl rk_s) ?_
      have : LNZ ((rwR ((w10)) ((w11)))) ((a1)) Dc ((z27)) ((y32)) ((y30)) ((wq34)) ((y28)) ((wq36)) ((wq38)) ((wq40)) ((wq42)) := hlz
      have : WEQ ((y65)) ((y63)) ((y61)) ((wq67)) ((wq69)) ((wq71)) ((wq73)) ((wq75)) ((y32)) ((y30)) ((y28)) ((wq34)) ((wq36)) ((wq38)) ((wq40)) ((wq42)) := by first | exact pz60_2 | exact WEQ_t (pz27_5 (by omega)) hwe
      exact w_ireturn rfl (k (z27) σ _ _ H (SF_trans (SF_trans (SF_trans (SF_trans (SF_refl) hS9 (any_sub rfl)) hS15 (any_sub rfl)) hS25 (any_sub rfl)) hS58 (any_sub rfl)) (SA_trans (SA_trans (SA_trans (SA_trans (SA_refl) hA10 (any_subA rfl)) hA16 (any_subA rfl)) hA26 (any_subA rfl)) hA59 (any_subA rfl)) (y28) (((hS58 5 2 rfl).trans (ey29))) (y30) (((hS58 5 3 rfl).trans (ey31))) (y32) (((hS58 5 4 rfl).trans (ey33))) (y61) ((ey62)) (y63) ((ey64)) (y65) ((ey66)) (wq34) ((funext (hA59 26 rfl)).trans (ewq35)) (wq36) ((funext (hA59 27 rfl)).trans (ewq37)) (wq38) ((funext (hA59 28 rfl)).trans (ewq39)) (wq40) ((funext (hA59 29 rfl)).trans (ewq41)) (wq42) ((funext (hA59 30 rfl)).trans (ewq43)) (wq44) ((funext (hA59 34 rfl)).trans (ewq45)) (wq46) ((funext (hA59 35 rfl)).trans (ewq47)) (wq48) ((funext (hA59 36 rfl)).trans (ewq49)) (wq50) ((funext (hA59 37 rfl)).trans (ewq51)) (wq67) (ewq68) (wq69) (ewq70) (wq71) (ewq72) (wq73) (ewq74) (wq75) (ewq76) (show inr (z27) from pz27_0) (pz27_1) (pz27_2) (pz60_0) (hlz) (pz60_2))
  · refine Ew_of (pcₚ := 9) (fun _ => x_bipush (z := -5) rfl (by decide)) ?_
    have : LNZ ((rwR ((w10)) ((w11)))) ((a1)) Dc (-5) ((u5_4)) ((u5_3)) ((w26)) ((u5_2)) ((w27)) ((w28)) ((w29)) ((w30)) := .inl ⟨fun q => by unfold okd at q; omega, rfl, hrd⟩
    have : WEQ ((u6_6)) ((u6_5)) ((u6_4)) ((w48)) ((w49)) ((w50)) ((w51)) ((w52)) ((u5_4)) ((u5_3)) ((u5_2)) ((w26)) ((w27)) ((w28)) ((w29)) ((w30)) := hwe
    exact w_ireturn rfl (k ((-5)) σ _ _ H (SF_trans (SF_refl) hS9 (any_sub rfl)) (SA_trans (SA_refl) hA10 (any_subA rfl)) (u5_2) (((hS9 5 2 rfl).trans (eu5_2))) (u5_3) (((hS9 5 3 rfl).trans (eu5_3))) (u5_4) (((hS9 5 4 rfl).trans (eu5_4))) (u6_4) (((hS9 6 4 rfl).trans (eu6_4))) (u6_5) (((hS9 6 5 rfl).trans (eu6_5))) (u6_6) (((hS9 6 6 rfl).trans (eu6_6))) (w26) ((funext (hA10 26 rfl)).trans (ew26)) (w27) ((funext (hA10 27 rfl)).trans (ew27)) (w28) ((funext (hA10 28 rfl)).trans (ew28)) (w29) ((funext (hA10 29 rfl)).trans (ew29)) (w30) ((funext (hA10 30 rfl)).trans (ew30)) (w34) ((funext (hA10 34 rfl)).trans (ew34)) (w35) ((funext (hA10 35 rfl)).trans (ew35)) (w36) ((funext (hA10 36 rfl)).trans (ew36)) (w37) ((funext (hA10 37 rfl)).trans (ew37)) (w48) ((funext (hA10 48 rfl)).trans (ew48)) (w49) ((funext (hA10 49 rfl)).trans (ew49)) (w50) ((funext (hA10 50 rfl)).trans (ew50)) (w51) ((funext (hA10 51 rfl)).trans (ew51)) (w52) ((funext (hA10 52 rfl)).trans (ew52)) (show inr ((-5)) from q_2302) (h1) (show DI ((u5_4)) ((w27)) ((w28)) ((w29)) ((w30)) by assumption) (h3) (show LNZ ((rwR ((w10)) ((w11)))) (a1) Dc (((-5))) ((u5_4)) ((u5_3)) ((w26)) ((u5_2)) ((w27)) ((w28)) ((w29)) ((w30)) by assumption) (hwe))


end
