section
/-! 93f.ref -/
set_option maxHeartbeats 16000000 in
theorem M449f {σ0 σ : rS} {D N : Nat → Nat} {F : hF} {A : hA} {d c s : Nat} {Q : wQ} (H : HS σ0 σ D N F A) {a1 a2 a3 : Int} (u1_1 : Int) (eu1_1 : F 1 1 = u1_1) (u6_1 : Int) (eu6_1 : F 6 1 = u6_1) (u6_2 : Int) (eu6_2 : F 6 2 = u6_2) (u6_4 : Int) (eu6_4 : F 6 4 = u6_4) (u6_12 : Int) (eu6_12 : F 6 12 = u6_12) (u6_24 : Int) (eu6_24 : F 6 24 = u6_24) (u6_35 : Int) (eu6_35 : F 6 35 = u6_35) (u6_37 : Int) (eu6_37 : F 6 37 = u6_37) (w14 : Int → Int) (ew14 : A 14 = w14) (w48 : Int → Int) (ew48 : A 48 = w48) (w53 : Int → Int) (ew53 : A 53 = w53) (w54 : Int → Int) (ew54 : A 54 = w54) (w55 : Int → Int) (ew55 : A 55 = w55) (w56 : Int → Int) (ew56 : A 56 = w56) (w69 : Int → Int) (ew69 : A 69 = w69) (w70 : Int → Int) (ew70 : A 70 = w70) (w87 : Int → Int) (ew87 : A 87 = w87) (st : WSt) (h0 : inr (a1)) (h1 : inr (a2)) (h2 : inr (a3)) (h3 : (a3) = 0 ∨ (a3) = 1) (h4 : 0 ≤ (a1) ∧ (a1) ≤ (a2) ∧ (a2) ≤ (u1_1)) (h5 : 0 ≤ (u6_37) ∧ (u6_37) ≤ 40000000) (h6 : 3 ≤ (u6_2)) (h7 : 0 ≤ (u6_4) ∧ (u6_4) + (u1_1) ≤ 16384) (h8 : WC ((u6_12)) ((w53))) (h9 : WO ((w54)) ((w55))) (h10 : (u6_2) ≤ 8 ∧ 0 ≤ (u6_1) ∧ (u6_1) ≤ 3 ∧ 0 ≤ (a3) ∧ (a3) ≤ 1) (h11 : 1 ≤ ((w56)) 0 ∧ 1 ≤ ((w56)) 1 ∧ 1 ≤ ((w56)) 2) (h12 : STQ (st) ((u6_12)) ((w53)) ((w54)) ((w55)) ((w56)) ((w87))) (k : ∀ σ Fₚ Aₚ, HS σ0 σ D N Fₚ Aₚ → SF [(6, 12), (6, 17), (6, 22), (6, 23), (6, 28), (6, 30), (6, 35), (6, 37), (6, 49), (6, 53)] F Fₚ → SA [53, 54, 55, 56, 57, 58, 59, 60, 61, 62, 63, 64, 65, 66, 67, 68, 69, 70, 71, 72, 73, 74, 75, 76, 77, 78, 79, 80, 81, 82, 83, 84, 85, 87] A Aₚ → ∀ y6_12 : Int, Fₚ 6 12 = y6_12 → ∀ y6_35 : Int, Fₚ 6 35 = y6_35 → ∀ y6_37 : Int, Fₚ 6 37 = y6_37 → ∀ v53 : Int → Int, Aₚ 53 = v53 → ∀ v54 : Int → Int, Aₚ 54 = v54 → ∀ v55 : Int → Int, Aₚ 55 = v55 → ∀ v56 : Int → Int, Aₚ 56 = v56 → ∀ v69 : Int → Int, Aₚ 69 = v69 → ∀ v70 : Int → Int, Aₚ 70 = v70 → ∀ v87 : Int → Int, Aₚ 87 = v87 → ((u6_37) ≤ (y6_37) ∧ (y6_37) ≤ (u6_37) + 4 + ((a2) - (a1))) → (WC ((y6_12)) ((v53))) → (WO ((v54)) ((v55))) → (1 ≤ ((v56)) 0 ∧ 1 ≤ ((v56)) 1 ∧ 1 ≤ ((v56)) 2) → (IMP (MDX ((w69)) ((u6_35))) (QAP 65536 ((w70)) ((u6_37)) ((v70)) ((y6_37)) ((blF (sc ((w48)) 0 ((u6_4)) ++ sc ((w14)) 0 ((a2))) ((u6_24)) ((u6_2)) ((u6_1)) ((u6_4) + (a1)) ((a3)) st).1) ∧ STQ ((blF (sc ((w48)) 0 ((u6_4)) ++ sc ((w14)) 0 ((a2))) ((u6_24)) ((u6_2)) ((u6_1)) ((u6_4) + (a1)) ((a3)) st).2) ((y6_12)) ((v53)) ((v54)) ((v55)) ((v56)) ((v87)) ∧ MDX ((v69)) ((y6_35)))) → Q none σ c s) : Ew 449 (d + 7) 0 (rargs 0 [.ref (D 6), I a1, I a2, I a3]) [] σ c s Q := by
  have r1 : (0 : Int) ≤ u1_1 ∧ u1_1 ≤ 65536 := rngE (show (0 : Int) ≤ F 1 1 ∧ F 1 1 ≤ 65536 from H.frng 1 1) (show F 1 1 = u1_1 from (eu1_1))
  have r2 : (0 : Int) ≤ u6_1 ∧ u6_1 ≤ 3 := rngE (show (0 : Int) ≤ F 6 1 ∧ F 6 1 ≤ 3 from H.frng 6 1) (show F 6 1 = u6_1 from (eu6_1))
  have r3 : (0 : Int) ≤ u6_2 ∧ u6_2 ≤ 8 := rngE (show (0 : Int) ≤ F 6 2 ∧ F 6 2 ≤ 8 from H.frng 6 2) (show F 6 2 = u6_2 from (eu6_2))
  have r4 : (0 : Int) ≤ u6_4 ∧ u6_4 ≤ 65536 := rngE (show (0 : Int) ≤ F 6 4 ∧ F 6 4 ≤ 65536 from H.frng 6 4) (show F 6 4 = u6_4 from (eu6_4))
  have r5 : (0 : Int) ≤ u6_12 ∧ u6_12 ≤ 11 := rngE (show (0 : Int) ≤ F 6 12 ∧ F 6 12 ≤ 11 from H.frng 6 12) (show F 6 12 = u6_12 from (eu6_12))
  have r6 : (0 : Int) ≤ u6_24 ∧ u6_24 ≤ 16777216 := rngE (show (0 : Int) ≤ F 6 24 ∧ F 6 24 ≤ 16777216 from H.frng 6 24) (show F 6 24 = u6_24 from (eu6_24))
  have r7 : (0 : Int) ≤ u6_35 ∧ u6_35 ≤ 100000000 := rngE (show (0 : Int) ≤ F 6 35 ∧ F 6 35 ≤ 100000000 from H.frng 6 35) (show F 6 35 = u6_35 from (eu6_35))
  have r8 : (0 : Int) ≤ u6_37 ∧ u6_37 ≤ 100000000 := rngE (show (0 : Int) ≤ F 6 37 ∧ F 6 37 ≤ 100000000 from H.frng 6 37) (show F 6 37 = u6_37 from (eu6_37))
  have hst : STQ (st) ((u6_12)) ((w53)) ((w54)) ((w55)) ((w56)) ((w87)) := h12
  have hBi : ∀ i, (0 : Int) ≤ (w14) i ∧ (w14) i ≤ 255 := fun i => by have h1 : (0 : Int) ≤ A 14 i ∧ A 14 i ≤ 255 := H.arng 14 i; rw [show A 14 = w14 from ew14] at h1; exact h1
  have hlen : ((sc ((w48)) 0 ((u6_4)) ++ sc ((w14)) 0 ((a2))).length : Int) = (u6_4) + (a2) := by rw [List.length_append, Int.natCast_add, sc_lenI (by omega), sc_lenI (by omega)]; omega
  have hAp : ∀ i, 0 ≤ i → i < (a2) → ap (sc ((w48)) 0 ((u6_4)) ++ sc ((w14)) 0 ((a2))) ((u6_4) + i) = ((w14)) i := fun i a b => ap_DD (by omega) hBi a b
  refine Ew_of (pcₚ := 1) (fun _ => x_aload_n rfl rfl) ?_
  refine w_gI H (o := 6) (w := u6_37) rfl (H.perm 6 rfl) rfl rfl rfl (fun _ => rfl) (eu6_37) ?_
  refine Ew_of (pcₚ := 6) (fun _ => x_istore rfl) ?_
  refine Ew_of (pcₚ := 7) (fun _ => x_iload_n rfl (rk_o (rfl) rfl rfl)) ?_
  refine Ew_of (pcₚ := 8) (fun _ => x_iload_n rfl (rk_o (rfl) rfl rfl)) ?_
  refine w_isub rfl ?_
  refine Ew_of (pcₚ := 11) (fun _ => x_istore rfl) ?_
  have hc21 : ∀ (tc21_0 : Int), ∀ (ls : rO) (σ : rS) (F_c21 : hF) (A_c21 : hA) , rlook ls 0 = some (.ref (D 6)) → rlook ls 1 = some (I (a1)) → rlook ls 2 = some (I (a2)) → rlook ls 3 = some (I (a3)) → rlook ls 4 = some (I (u6_37)) → rlook ls 5 = some (I ((a2 - a1))) → HS σ0 σ D N F_c21 A_c21 → SF [] F F_c21 → SA [] A A_c21 → (inr (tc21_0)) → (0 < ((a2 - a1)) ∧ (tc21_0) = 1 ∨ ((a2 - a1)) ≤ 0 ∧ (tc21_0) = 0) → Ew 449 (d + 7) 21 ls [I (tc21_0)] σ c s Q := by
   as_aux_lemma =>
    intro tc21_0 ls σ F_c21 A_c21  lc21_0 lc21_1 lc21_2 lc21_3 lc21_4 lc21_5 H hS_c21 hA_c21   jc21_0 jc21_1
    refine Ew_of (pcₚ := 23) (fun _ => x_istore rfl) ?_
    refine Ew_of (pcₚ := 24) (fun _ => x_iload_n rfl (rk_o (lc21_1) rfl rfl)) ?_
    refine Ew_of (pcₚ := 26) (fun _ => x_istore rfl) ?_
    have : ONQ ((w14)) ((a1)) ((a1)) ((a2)) ((tc21_0)) := ONQ_0 (by omega)
    suffices hl26 : ∀ (m : Nat), ∀ (ls : rO) (σ : rS) (F_26 : hF) (A_26 : hA) (x26_6 : Int) (x26_7 : Int), rlook ls 0 = some (.ref (D 6)) → rlook ls 1 = some (I (a1)) → rlook ls 2 = some (I (a2)) → rlook ls 3 = some (I (a3)) → rlook ls 4 = some (I (u6_37)) → rlook ls 5 = some (I ((a2 - a1))) → rlook ls 6 = some (I (x26_6)) → rlook ls 7 = some (I (x26_7)) → HS σ0 σ D N F_26 A_26 → SF [] F_c21 F_26 → SA [] A_c21 A_26 → (inr (x26_6)) → (inr (x26_7)) → ((a1) ≤ (x26_7) ∧ (x26_7) ≤ (a2)) → ((x26_6) = 0 ∨ (x26_6) = 1 ∧ (a1) < (a2)) → (ONQ ((w14)) ((a1)) ((x26_7)) ((a2)) ((x26_6))) → ((a2) - (x26_7)).toNat = m → Ew 449 (d + 7) 26 ls [] σ c s Q from
      hl26 _ _ σ _ _ (tc21_0) (a1) (rk_o (rk_o (lc21_0) rfl rfl) rfl rfl) (rk_o (rk_o (lc21_1) rfl rfl) rfl rfl) (rk_o (rk_o (lc21_2) rfl rfl) rfl rfl) (rk_o (rk_o (lc21_3) rfl rfl) rfl rfl) (rk_o (rk_o (lc21_4) rfl rfl) rfl rfl) (rk_o (rk_o (lc21_5) rfl rfl) rfl rfl) (rk_o (rk_s) rfl rfl) (rk_s) H (SF_refl) (SA_refl)   (show inr (tc21_0) from jc21_0) (show inr (a1) from h0) (show (a1) ≤ (a1) ∧ (a1) ≤ (a2) from q_2760 h4) (show (tc21_0) = 0 ∨ (tc21_0) = 1 ∧ (a1) < (a2) by omega) (show ONQ ((w14)) ((a1)) ((a1)) ((a2)) ((tc21_0)) by assumption) rfl
    as_aux_lemma =>
    intro m
    induction m using Nat.strongRecOn with
    | _ m ih26 =>
      intro ls σ F_26 A_26 x26_6 x26_7 l26_0 l26_1 l26_2 l26_3 l26_4 l26_5 l26_6 l26_7 H hS_26 hA_26   j26_0 j26_1 j26_2 j26_3 j26_4 hm26
      have j26_o : ONQ ((w14)) ((a1)) ((x26_7)) ((a2)) ((x26_6)) := j26_4
      refine Ew_of (pcₚ := 28) (fun _ => x_iload rfl l26_7) ?_
      refine Ew_of (pcₚ := 29) (fun _ => x_iload_n rfl l26_2) ?_
      refine w_icmpge (t := 72) rfl rfl (show inr (x26_7) from j26_1) (show inr (a2) from h1) (fun b9 => ?_) (fun b9 => ?_)
      · have hON : ONQ ((w14)) ((a1)) ((a2)) ((a2)) ((x26_6)) := by have h := j26_o; rw [show (x26_7) = (a2) by omega] at h; exact h
        refine Ew_of (pcₚ := 74) (fun _ => x_iload rfl l26_6) ?_
        refine w_ifeq (t := 111) rfl rfl (show inr (x26_6) from j26_0) (fun b10 => ?_) (fun b10 => ?_)
        · have hO0 : ¬ OND (sc ((w48)) 0 ((u6_4)) ++ sc ((w14)) 0 ((a2))) ((u6_4) + (a1)) := ON_n hlen hAp (by omega) (by rcases hON with ⟨x, _⟩ | ⟨_, x⟩; (exfalso; omega); (exact x))
          refine Ew_of (pcₚ := 112) (fun _ => x_aload_n rfl l26_0) ?_
          refine w_inv H (o := 6) rfl rfl rfl (H.perm 6 rfl) rfl rfl (by rfl) (M445f H (u6_12) ((((hS_26 6 12 rfl).trans (hS_c21 6 12 rfl)).trans (eu6_12))) (w53) ((funext (hA_26 53 rfl)).trans ((funext (hA_c21 53 rfl)).trans (ew53))) (w54) ((funext (hA_26 54 rfl)).trans ((funext (hA_c21 54 rfl)).trans (ew54))) (w55) ((funext (hA_26 55 rfl)).trans ((funext (hA_c21 55 rfl)).trans (ew55))) (w56) ((funext (hA_26 56 rfl)).trans ((funext (hA_c21 56 rfl)).trans (ew56))) (h8) (show WO ((w54)) ((w55)) by assumption) (fun σ F11 A12 H hS13 hA14 y16 ey17 wq18 ewq19 wq20 ewq21 wq22 ewq23 wq24 ewq25 pz15_0 pz15_1 pz15_2 pz15_3 pz15_4 pz15_5 pz15_6 => ⟨rfl, ?_⟩))
          have r26 : (0 : Int) ≤ y16 ∧ y16 ≤ 11 := rngE (show (0 : Int) ≤ F11 6 17 ∧ F11 6 17 ≤ 11 from H.frng 6 17) (show F11 6 17 = y16 from (ey17))
          have hk2 := pz15_2
          have hk3 := pz15_3
          have hk4 := pz15_4
          have hk5 := pz15_5
          refine Ew_of (pcₚ := 116) (fun _ => x_aload_n rfl l26_0) ?_
          refine Ew_of (pcₚ := 117) (fun _ => x_lconst (z := 0) rfl (by decide)) ?_
          refine Ew_of (pcₚ := 118) (fun _ => x_iconst rfl) ?_
          refine w_inv H (o := 6) rfl rfl rfl (H.perm 6 rfl) rfl rfl (by rfl) (M393g H (u6_37) (((((hS13 6 37 rfl).trans (hS_26 6 37 rfl)).trans (hS_c21 6 37 rfl)).trans (eu6_37))) (w70) ((funext (hA14 70 rfl)).trans ((funext (hA_26 70 rfl)).trans ((funext (hA_c21 70 rfl)).trans (ew70)))) (show inrJ (0) from q_340) (show inr (3) from q_246) (show 0 ≤ (3) ∧ (3) ≤ 8 from q_2174) (show 0 ≤ (u6_37) ∧ (u6_37) ≤ 90000000 from q_2761 h5 r8) (fun σ F27 A28 H hS29 hA30 y32 ey33 wq34 ewq35 pz31_0 pz31_1 pz31_2 => ⟨rfl, ?_⟩))
          have r36 : (0 : Int) ≤ y32 ∧ y32 ≤ 100000000 := rngE (show (0 : Int) ≤ F27 6 37 ∧ F27 6 37 ≤ 100000000 from H.frng 6 37) (show F27 6 37 = y32 from (ey33))
          have hq121 := pz31_1
          refine Ew_of (pcₚ := 122) (fun _ => x_aload_n rfl l26_0) ?_
          refine Ew_of (pcₚ := 123) (fun _ => x_iconst rfl) ?_
          refine w_pI H (o := 6) rfl rfl (H.perm 6 rfl) rfl rfl rfl (fun _ => rfl) rfl (show (0 : Int) ≤ 0 ∧ 0 ≤ 16384 from q_2075) (fun σ H => ?_)
          refine Ew_of (pcₚ := 127) (fun _ => x_iconst rfl) ?_
          refine Ew_of (pcₚ := 129) (fun _ => x_istore rfl) ?_
          have : ∀ i, 0 ≤ i → i < 0 → ((A 61)) i = ((w48)) i := fun i a b => absurd b (by omega)
          suffices hl129 : ∀ (m : Nat), ∀ (ls : rO) (σ : rS) (F_129 : hF) (A_129 : hA) (x129_7 : Int), rlook ls 0 = some (.ref (D 6)) → rlook ls 1 = some (I (a1)) → rlook ls 2 = some (I (a2)) → rlook ls 3 = some (I (a3)) → rlook ls 4 = some (I (u6_37)) → rlook ls 5 = some (I ((a2 - a1))) → rlook ls 7 = some (I (x129_7)) → HS σ0 σ D N F_129 A_129 → SF [(6, 22)] (updF F27 6 22 (0)) F_129 → SA [61] A28 A_129 → ∀ y129_6_22 : Int, F_129 6 22 = y129_6_22 → ∀ w129_61 : Int → Int, A_129 61 = w129_61 → (inr (x129_7)) → ((0) ≤ (x129_7)) → ((x129_7) ≤ (0) ∨ (x129_7) ≤ ((u6_4))) → ((y129_6_22) = (x129_7)) → (∀ i, 0 ≤ i → i < (x129_7) → ((w129_61)) i = ((w48)) i) → (((u6_4)) - (x129_7)).toNat = m → Ew 449 (d + 7) 129 ls [] σ c s Q from
            hl129 _ _ σ _ _ (0) (rk_o (l26_0) rfl rfl) (rk_o (l26_1) rfl rfl) (rk_o (l26_2) rfl rfl) (rk_o (l26_3) rfl rfl) (rk_o (l26_4) rfl rfl) (rk_o (l26_5) rfl rfl) (rk_s) H (SF_refl) (SA_refl) (0) (rfl) (A 61) ((funext (hA30 61 rfl)).trans ((funext (hA14 61 rfl)).trans ((funext (hA_26 61 rfl)).trans (funext (hA_c21 61 rfl))))) (show inr (0) from q_2) (show (0) ≤ (0) from q_1) (show (0) ≤ (0) ∨ (0) ≤ ((u6_4)) from q_5) (show (0) = (0) from q_34) (show ∀ i, 0 ≤ i → i < (0) → ((A 61)) i = ((w48)) i by assumption) rfl
          as_aux_lemma =>
          intro m
          induction m using Nat.strongRecOn with
          | _ m ih129 =>
            intro ls σ F_129 A_129 x129_7 l129_0 l129_1 l129_2 l129_3 l129_4 l129_5 l129_7 H hS_129 hA_129 y129_6_22 ey129_6_22 w129_61 ew129_61 j129_0 j129_1 j129_2 j129_3 j129_4 hm129
            have r37 : (0 : Int) ≤ y129_6_22 ∧ y129_6_22 ≤ 16384 := rngE (show (0 : Int) ≤ F_129 6 22 ∧ F_129 6 22 ≤ 16384 from H.frng 6 22) (show F_129 6 22 = y129_6_22 from (ey129_6_22))
            have j129_c : ∀ i, 0 ≤ i → i < (x129_7) → ((w129_61)) i = ((w48)) i := by assumption
            refine Ew_of (pcₚ := 131) (fun _ => x_iload rfl l129_7) ?_
            refine Ew_of (pcₚ := 132) (fun _ => x_aload_n rfl l129_0) ?_
            refine w_gI H (o := 6) (w := u6_4) rfl (H.perm 6 rfl) rfl rfl rfl (fun _ => rfl) ((((((hS_129 6 4 rfl).trans (hS29 6 4 rfl)).trans (hS13 6 4 rfl)).trans (hS_26 6 4 rfl)).trans (hS_c21 6 4 rfl)).trans (eu6_4)) ?_
            refine w_icmpge (t := 170) rfl rfl (show inr (x129_7) from j129_0) (show inr (u6_4) from q_286 r4) (fun b38 => ?_) (fun b38 => ?_)
            · refine Ew_of (pcₚ := 171) (fun _ => x_iconst rfl) ?_
              refine Ew_of (pcₚ := 173) (fun _ => x_istore rfl) ?_
              have : ∀ i, 0 ≤ i → i < (u6_4) → ((w129_61)) i = ((w48)) i := fun i a b => j129_c i a (by omega)
              have : ∀ i, 0 ≤ i → i < 0 → ((w129_61)) ((u6_4) + i) = ((w14)) i := fun i a b => absurd b (by omega)
              suffices hl173 : ∀ (m : Nat), ∀ (ls : rO) (σ : rS) (F_173 : hF) (A_173 : hA) (x173_7 : Int), rlook ls 0 = some (.ref (D 6)) → rlook ls 1 = some (I (a1)) → rlook ls 2 = some (I (a2)) → rlook ls 3 = some (I (a3)) → rlook ls 4 = some (I (u6_37)) → rlook ls 5 = some (I ((a2 - a1))) → rlook ls 7 = some (I (x173_7)) → HS σ0 σ D N F_173 A_173 → SF [(6, 22)] F_129 F_173 → SA [61] A_129 A_173 → ∀ y173_6_22 : Int, F_173 6 22 = y173_6_22 → ∀ w173_61 : Int → Int, A_173 61 = w173_61 → (inr (x173_7)) → ((0) ≤ (x173_7)) → ((x173_7) ≤ (0) ∨ (x173_7) ≤ ((a2))) → ((y173_6_22) = (u6_4) + (x173_7)) → (∀ i, 0 ≤ i → i < (u6_4) → ((w173_61)) i = ((w48)) i) → (∀ i, 0 ≤ i → i < (x173_7) → ((w173_61)) ((u6_4) + i) = ((w14)) i) → (((a2)) - (x173_7)).toNat = m → Ew 449 (d + 7) 173 ls [] σ c s Q from
                hl173 _ _ σ _ _ (0) (rk_o (l129_0) rfl rfl) (rk_o (l129_1) rfl rfl) (rk_o (l129_2) rfl rfl) (rk_o (l129_3) rfl rfl) (rk_o (l129_4) rfl rfl) (rk_o (l129_5) rfl rfl) (rk_s) H (SF_refl) (SA_refl) (y129_6_22) ((ey129_6_22)) (w129_61) (ew129_61) (show inr (0) from q_2) (show (0) ≤ (0) from q_1) (show (0) ≤ (0) ∨ (0) ≤ ((a2)) from q_5) (show (y129_6_22) = (u6_4) + (0) from q_2762 b38 j129_2 j129_3 r4) (show ∀ i, 0 ≤ i → i < (u6_4) → ((w129_61)) i = ((w48)) i by assumption) (show ∀ i, 0 ≤ i → i < (0) → ((w129_61)) ((u6_4) + i) = ((w14)) i by assumption) rfl
              as_aux_lemma =>
              intro m
              induction m using Nat.strongRecOn with
              | _ m ih173 =>
                intro ls σ F_173 A_173 x173_7 l173_0 l173_1 l173_2 l173_3 l173_4 l173_5 l173_7 H hS_173 hA_173 y173_6_22 ey173_6_22 w173_61 ew173_61 j173_0 j173_1 j173_2 j173_3 j173_4 j173_5 hm173
                have r39 : (0 : Int) ≤ y173_6_22 ∧ y173_6_22 ≤ 16384 := rngE (show (0 : Int) ≤ F_173 6 22 ∧ F_173 6 22 ≤ 16384 from H.frng 6 22) (show F_173 6 22 = y173_6_22 from (ey173_6_22))
                have j173_c : ∀ i, 0 ≤ i → i < (u6_4) → ((w173_61)) i = ((w48)) i := by assumption
                have j173_i : ∀ i, 0 ≤ i → i < (x173_7) → ((w173_61)) ((u6_4) + i) = ((w14)) i := by assumption
                refine Ew_of (pcₚ := 175) (fun _ => x_iload rfl l173_7) ?_
                refine Ew_of (pcₚ := 176) (fun _ => x_iload_n rfl l173_2) ?_
                refine w_icmpge (t := 214) rfl rfl (show inr (x173_7) from j173_0) (show inr (a2) from h1) (fun b40 => ?_) (fun b40 => ?_)
                · have hDD : sc ((w173_61)) 0 ((y173_6_22)) = (sc ((w48)) 0 ((u6_4)) ++ sc ((w14)) 0 ((a2))) := by rw [show (y173_6_22) = (u6_4) + (a2) by omega]; exact DD_sc (by omega) (by omega) j173_c (fun i a b => j173_i i a (by omega))
                  refine Ew_of (pcₚ := 216) (fun _ => x_bipush (z := 8) rfl (by decide)) ?_
                  refine Ew_of (pcₚ := 218) (fun _ => x_istore rfl) ?_
                  have : ∀ i, 8 ≤ i → i < 8 → ((A 85)) i = ((w87)) i := fun i a b => absurd b (by omega)
                  suffices hl218 : ∀ (m : Nat), ∀ (ls : rO) (σ : rS) (F_218 : hF) (A_218 : hA) (x218_7 : Int), rlook ls 0 = some (.ref (D 6)) → rlook ls 1 = some (I (a1)) → rlook ls 2 = some (I (a2)) → rlook ls 3 = some (I (a3)) → rlook ls 4 = some (I (u6_37)) → rlook ls 5 = some (I ((a2 - a1))) → rlook ls 7 = some (I (x218_7)) → HS σ0 σ D N F_218 A_218 → SF [] F_173 F_218 → SA [85] A_173 A_218 → ∀ w218_85 : Int → Int, A_218 85 = w218_85 → (inr (x218_7)) → ((8) ≤ (x218_7)) → ((x218_7) ≤ (8) ∨ (x218_7) ≤ ((12))) → (8 ≤ (x218_7) ∧ (x218_7) ≤ 12) → (∀ i, 8 ≤ i → i < (x218_7) → ((w218_85)) i = ((w87)) i) → (((12)) - (x218_7)).toNat = m → Ew 449 (d + 7) 218 ls [] σ c s Q from
                    hl218 _ _ σ _ _ (8) (rk_o (l173_0) rfl rfl) (rk_o (l173_1) rfl rfl) (rk_o (l173_2) rfl rfl) (rk_o (l173_3) rfl rfl) (rk_o (l173_4) rfl rfl) (rk_o (l173_5) rfl rfl) (rk_s) H (SF_refl) (SA_refl)  (A 85) ((funext (hA_173 85 rfl)).trans ((funext (hA_129 85 rfl)).trans ((funext (hA30 85 rfl)).trans ((funext (hA14 85 rfl)).trans ((funext (hA_26 85 rfl)).trans (funext (hA_c21 85 rfl))))))) (show inr (8) from q_141) (show (8) ≤ (8) from q_2765) (show (8) ≤ (8) ∨ (8) ≤ ((12)) from q_2764) (show 8 ≤ (8) ∧ (8) ≤ 12 from q_2763) (show ∀ i, 8 ≤ i → i < (8) → ((A 85)) i = ((w87)) i by assumption) rfl
                  as_aux_lemma =>
                  intro m
                  induction m using Nat.strongRecOn with
                  | _ m ih218 =>
                    intro ls σ F_218 A_218 x218_7 l218_0 l218_1 l218_2 l218_3 l218_4 l218_5 l218_7 H hS_218 hA_218  w218_85 ew218_85 j218_0 j218_1 j218_2 j218_3 j218_4 hm218
                    have j218_t : ∀ i, 8 ≤ i → i < (x218_7) → ((w218_85)) i = ((w87)) i := by assumption
                    obtain ⟨qd, hqd⟩ : ∃ q : Int, q = (x218_7) := ⟨_, rfl⟩
                    refine Ew_of (pcₚ := 220) (fun _ => x_iload rfl l218_7) ?_
                    refine Ew_of (pcₚ := 222) (fun _ => x_bipush (z := 12) rfl (by decide)) ?_
                    refine w_icmpge (t := 245) rfl rfl (show inr (x218_7) from j218_0) (show inr (12) from q_599) (fun b41 => ?_) (fun b41 => ?_)
                    · have hT8 : ∀ i, 8 ≤ i → i < 12 → ((w218_85)) i = ((w87)) i := fun i a b => j218_t i a (by omega)
                      have hBd : ∀ i, (0 : Int) ≤ (w173_61) i ∧ (w173_61) i ≤ 255 := fun i => by have h1 : (0 : Int) ≤ A_218 61 i ∧ A_218 61 i ≤ 255 := H.arng 61 i; rw [show A_218 61 = w173_61 from (funext (hA_218 61 rfl)).trans (ew173_61)] at h1; exact h1
                      refine Ew_of (pcₚ := 246) (fun _ => x_aload_n rfl l218_0) ?_
                      refine Ew_of (pcₚ := 247) (fun _ => x_aload_n rfl l218_0) ?_
                      refine w_gI H (o := 6) (w := u6_4) rfl (H.perm 6 rfl) rfl rfl rfl (fun _ => rfl) ((((((((hS_218 6 4 rfl).trans (hS_173 6 4 rfl)).trans (hS_129 6 4 rfl)).trans (hS29 6 4 rfl)).trans (hS13 6 4 rfl)).trans (hS_26 6 4 rfl)).trans (hS_c21 6 4 rfl)).trans (eu6_4)) ?_
                      refine Ew_of (pcₚ := 251) (fun _ => x_iload_n rfl l218_1) ?_
                      refine w_iadd rfl ?_
                      refine w_inv H (o := 6) rfl rfl rfl (H.perm 6 rfl) rfl rfl (by rfl) (M399b H (u6_1) (((((((((hS_218 6 1 rfl).trans (hS_173 6 1 rfl)).trans (hS_129 6 1 rfl)).trans (hS29 6 1 rfl)).trans (hS13 6 1 rfl)).trans (hS_26 6 1 rfl)).trans (hS_c21 6 1 rfl)).trans (eu6_1))) (u6_2) (((((((((hS_218 6 2 rfl).trans (hS_173 6 2 rfl)).trans (hS_129 6 2 rfl)).trans (hS29 6 2 rfl)).trans (hS13 6 2 rfl)).trans (hS_26 6 2 rfl)).trans (hS_c21 6 2 rfl)).trans (eu6_2))) (y173_6_22) (((hS_218 6 22 rfl).trans (ey173_6_22))) (u6_24) (((((((((hS_218 6 24 rfl).trans (hS_173 6 24 rfl)).trans (hS_129 6 24 rfl)).trans (hS29 6 24 rfl)).trans (hS13 6 24 rfl)).trans (hS_26 6 24 rfl)).trans (hS_c21 6 24 rfl)).trans (eu6_24))) (w173_61) ((funext (hA_218 61 rfl)).trans (ew173_61)) (show inr ((u6_4 + a1)) from q_2768 h4 h7 r4) (show 0 ≤ ((u6_4 + a1)) ∧ ((u6_4 + a1)) ≤ (y173_6_22) from q_2767 b40 h4 j173_3 r4) (show 0 ≤ (y173_6_22) ∧ (y173_6_22) ≤ 16384 from r39) (show 3 ≤ (u6_2) ∧ (u6_2) ≤ 8 from q_2766 h6 r3) (show 0 ≤ (u6_1) ∧ (u6_1) ≤ 3 from r2) (fun σ F42 A43 H hS44 hA45 y47 ey48 y49 ey50 wq51 ewq52 wq53 ewq54 wq55 ewq56 wq57 ewq58 pz46_0 pz46_1 pz46_2 => ⟨rfl, ?_⟩))
                      have r59 : (0 : Int) ≤ y47 ∧ y47 ≤ 8001 := rngE (show (0 : Int) ≤ F42 6 28 ∧ F42 6 28 ≤ 8001 from H.frng 6 28) (show F42 6 28 = y47 from (ey48))
                      have r60 : (0 : Int) ≤ y49 ∧ y49 ≤ 16385 := rngE (show (0 : Int) ≤ F42 6 30 ∧ F42 6 30 ≤ 16385 from H.frng 6 30) (show F42 6 30 = y49 from (ey50))
                      have hGR := pz46_1
                      have hgo := pz46_2
                      have hGQ := GOR_q (by omega) hGR hDD (by omega) (by omega) (BYI_u hBd)
                      have hBl : ∀ i, (0 : Int) ≤ (wq57) i ∧ (wq57) i ≤ 255 := fun i => by have h1 : (0 : Int) ≤ A43 65 i ∧ A43 65 i ≤ 255 := H.arng 65 i; rw [show A43 65 = wq57 from ewq58] at h1; exact h1
                      have hLT := lit_e (T := ltQ (sc ((w48)) 0 ((u6_4)) ++ sc ((w14)) 0 ((a2))) ((u6_24)) ((u6_2)) ((u6_1)) ((u6_4) + (a1))) hGQ.2.symm (by omega) (fun k _ _ => by have := hBl k; omega)
                      refine Ew_of (pcₚ := 256) (fun _ => x_aload_n rfl l218_0) ?_
                      refine w_inv H (o := 6) rfl rfl rfl (H.perm 6 rfl) rfl rfl (by rfl) (M434f H (u6_12) ((((((((((hS44 6 12 rfl).trans (hS_218 6 12 rfl)).trans (hS_173 6 12 rfl)).trans (hS_129 6 12 rfl)).trans (hS29 6 12 rfl)).trans (hS13 6 12 rfl)).trans (hS_26 6 12 rfl)).trans (hS_c21 6 12 rfl)).trans (eu6_12))) (y49) ((ey50)) (u6_35) ((((((((((hS44 6 35 rfl).trans (hS_218 6 35 rfl)).trans (hS_173 6 35 rfl)).trans (hS_129 6 35 rfl)).trans (hS29 6 35 rfl)).trans (hS13 6 35 rfl)).trans (hS_26 6 35 rfl)).trans (hS_c21 6 35 rfl)).trans (eu6_35))) (y32) ((((((hS44 6 37 rfl).trans (hS_218 6 37 rfl)).trans (hS_173 6 37 rfl)).trans (hS_129 6 37 rfl)).trans (ey33))) (w53) ((funext (hA45 53 rfl)).trans ((funext (hA_218 53 rfl)).trans ((funext (hA_173 53 rfl)).trans ((funext (hA_129 53 rfl)).trans ((funext (hA30 53 rfl)).trans ((funext (hA14 53 rfl)).trans ((funext (hA_26 53 rfl)).trans ((funext (hA_c21 53 rfl)).trans (ew53))))))))) (wq57) (ewq58) (w69) ((funext (hA45 69 rfl)).trans ((funext (hA_218 69 rfl)).trans ((funext (hA_173 69 rfl)).trans ((funext (hA_129 69 rfl)).trans ((funext (hA30 69 rfl)).trans ((funext (hA14 69 rfl)).trans ((funext (hA_26 69 rfl)).trans ((funext (hA_c21 69 rfl)).trans (ew69))))))))) (wq34) ((funext (hA45 70 rfl)).trans ((funext (hA_218 70 rfl)).trans ((funext (hA_173 70 rfl)).trans ((funext (hA_129 70 rfl)).trans (ewq35))))) (h8) (show 0 ≤ (y32) ∧ (y32) ≤ 50000000 by omega) (fun z65 σ F61 A62 H hS63 hA64 y66 ey67 y68 ey69 y70 ey71 wq72 ewq73 wq74 ewq75 wq76 ewq77 pz65_0 pz65_1 pz65_2 pz65_3 pz65_4 => ⟨rfl, ?_⟩))
                      have r78 : (0 : Int) ≤ y66 ∧ y66 ≤ 11 := rngE (show (0 : Int) ≤ F61 6 12 ∧ F61 6 12 ≤ 11 from H.frng 6 12) (show F61 6 12 = y66 from (ey67))
                      have r79 : (0 : Int) ≤ y68 ∧ y68 ≤ 100000000 := rngE (show (0 : Int) ≤ F61 6 35 ∧ F61 6 35 ≤ 100000000 from H.frng 6 35) (show F61 6 35 = y68 from (ey69))
                      have r80 : (0 : Int) ≤ y70 ∧ y70 ≤ 100000000 := rngE (show (0 : Int) ≤ F61 6 37 ∧ F61 6 37 ≤ 100000000 from H.frng 6 37) (show F61 6 37 = y70 from (ey71))
                      have hLP := pz65_4
                      refine Ew_of (pcₚ := 261) (fun _ => x_istore rfl) ?_
                      have : ∀ j, 0 ≤ j → j < (y47) → 3 ≤ ((wq53)) j := hgo.1
                      refine Ew_of (pcₚ := 262) (fun _ => x_aload_n rfl (rk_o (l218_0) rfl rfl)) ?_
                      refine w_inv H (o := 6) rfl rfl rfl (H.perm 6 rfl) rfl rfl (by rfl) (M404b H (y47) (((hS63 6 28 rfl).trans (ey48))) (w56) ((funext (hA64 56 rfl)).trans ((funext (hA45 56 rfl)).trans ((funext (hA_218 56 rfl)).trans ((funext (hA_173 56 rfl)).trans ((funext (hA_129 56 rfl)).trans ((funext (hA30 56 rfl)).trans ((funext (hA14 56 rfl)).trans ((funext (hA_26 56 rfl)).trans ((funext (hA_c21 56 rfl)).trans (ew56)))))))))) (wq51) ((funext (hA64 62 rfl)).trans (ewq52)) (wq53) ((funext (hA64 63 rfl)).trans (ewq54)) (wq55) ((funext (hA64 64 rfl)).trans (ewq56)) (show ∀ j, 0 ≤ j → j < (y47) → 3 ≤ ((wq53)) j by assumption) (fun σ F81 A82 H hS83 hA84 wq86 ewq87 wq88 ewq89 wq90 ewq91 wq92 ewq93 pz85_0 pz85_1 => ⟨rfl, ?_⟩))
                      have : GOE ((wq51)) ((wq53)) ((y47)) 16384 := ⟨hgo.1, by have := hgo.2; omega⟩
                      have hTL := pz85_1 ⟨by omega, GOR_d (by omega) hGR⟩
                      have hTW := hTL.1
                      have hTl := hTL.2.2
                      refine Ew_of (pcₚ := 266) (fun _ => x_aload_n rfl (rk_o (l218_0) rfl rfl)) ?_
                      refine w_inv H (o := 6) rfl rfl rfl (H.perm 6 rfl) rfl rfl (by rfl) (M444 H (y47) ((((hS83 6 28 rfl).trans (hS63 6 28 rfl)).trans (ey48))) (y68) (((hS83 6 35 rfl).trans (ey69))) (y70) (((hS83 6 37 rfl).trans (ey71))) (w54) ((funext (hA84 54 rfl)).trans ((funext (hA64 54 rfl)).trans ((funext (hA45 54 rfl)).trans ((funext (hA_218 54 rfl)).trans ((funext (hA_173 54 rfl)).trans ((funext (hA_129 54 rfl)).trans ((funext (hA30 54 rfl)).trans ((funext (hA14 54 rfl)).trans ((funext (hA_26 54 rfl)).trans ((funext (hA_c21 54 rfl)).trans (ew54))))))))))) (w55) ((funext (hA84 55 rfl)).trans ((funext (hA64 55 rfl)).trans ((funext (hA45 55 rfl)).trans ((funext (hA_218 55 rfl)).trans ((funext (hA_173 55 rfl)).trans ((funext (hA_129 55 rfl)).trans ((funext (hA30 55 rfl)).trans ((funext (hA14 55 rfl)).trans ((funext (hA_26 55 rfl)).trans ((funext (hA_c21 55 rfl)).trans (ew55))))))))))) (wq51) ((funext (hA84 62 rfl)).trans ((funext (hA64 62 rfl)).trans (ewq52))) (wq53) ((funext (hA84 63 rfl)).trans ((funext (hA64 63 rfl)).trans (ewq54))) (wq55) ((funext (hA84 64 rfl)).trans ((funext (hA64 64 rfl)).trans (ewq56))) (wq88) (ewq89) (wq90) (ewq91) (wq92) (ewq93) (wq74) ((funext (hA84 69 rfl)).trans (ewq75)) (wq76) ((funext (hA84 70 rfl)).trans (ewq77)) (w87) ((funext (hA84 87 rfl)).trans ((funext (hA64 87 rfl)).trans ((funext (hA45 87 rfl)).trans ((funext (hA_218 87 rfl)).trans ((funext (hA_173 87 rfl)).trans ((funext (hA_129 87 rfl)).trans ((funext (hA30 87 rfl)).trans ((funext (hA14 87 rfl)).trans ((funext (hA_26 87 rfl)).trans ((funext (hA_c21 87 rfl)).trans (ew87))))))))))) ((((w56)) 0, ((w56)) 1, ((w56)) 2)) (h9) (show 0 ≤ (y70) ∧ (y70) ≤ 70000000 by omega) (pz85_0) (show GOE ((wq51)) ((wq53)) ((y47)) 16384 by assumption) (show TLW ((wq88)) ((wq90)) ((wq92)) ((wq51)) ((wq53)) ((wq55)) ((((w56)) 0, ((w56)) 1, ((w56)) 2)) ((y47)) by assumption) (fun σ F94 A95 H hS96 hA97 y99 ey100 y101 ey102 wq103 ewq104 wq105 ewq106 wq107 ewq108 wq109 ewq110 wq111 ewq112 pz98_0 pz98_1 pz98_2 => ⟨rfl, ?_⟩))
                      have r113 : (0 : Int) ≤ y99 ∧ y99 ≤ 100000000 := rngE (show (0 : Int) ≤ F94 6 35 ∧ F94 6 35 ≤ 100000000 from H.frng 6 35) (show F94 6 35 = y99 from (ey100))
                      have r114 : (0 : Int) ≤ y101 ∧ y101 ≤ 100000000 := rngE (show (0 : Int) ≤ F94 6 37 ∧ F94 6 37 ≤ 100000000 from H.frng 6 37) (show F94 6 37 = y101 from (ey102))
                      have hSQ := pz98_2
                      have hPK := fun (q : MDX ((w69)) ((u6_35))) => pk_lit (st := st) (T := ltQ (sc ((w48)) 0 ((u6_4)) ++ sc ((w14)) 0 ((a2))) ((u6_24)) ((u6_2)) ((u6_1)) ((u6_4) + (a1))) hLT.1 (by omega) hLT.2 (show z65 = lwF st.1 ((wq57)) ((y49)) by rw [hst.1]; exact (hLP q).1)
                      have hQl_ : ((sq ((wq51)) ((wq53)) ((wq55)) ((y47))).length : Int) = (y47) := by rw [sq_len]; omega
                      have hBB : ∀ t, 0 ≤ t → t < 3 → st.2.1 t = BR ((w54)) ((w55)) t := hst.2.1
                      have hP : IMP (MDX ((w69)) ((u6_35))) (QAP 65536 ((w70)) ((u6_37)) ((wq109)) ((y101)) (nb 0 3 ++ (pkP st (ltQ (sc ((w48)) 0 ((u6_4)) ++ sc ((w14)) 0 ((a2))) ((u6_24)) ((u6_2)) ((u6_1)) ((u6_4) + (a1))) (sq ((wq51)) ((wq53)) ((wq55)) ((y47)))))) := fun q => by have h1 := (hLP q).2.1; have h2 := (hSQ (hLP q).2.2.2).1; have h3 := QAP_trans hq121 (QAP_trans h1 h2); refine QAP_c h3 ?_; congr 1; unfold pkP; rw [(hPK q).2.1, hst.2.2.1, sqB_B hBB, hst.1]
                      refine Ew_of (pcₚ := 270) (fun _ => x_aload_n rfl (rk_o (l218_0) rfl rfl)) ?_
                      refine w_gI H (o := 6) (w := y101) rfl (H.perm 6 rfl) rfl rfl rfl (fun _ => rfl) (ey102) ?_
                      refine Ew_of (pcₚ := 275) (fun _ => x_iload rfl (rk_o (l218_4) rfl rfl)) ?_
                      refine w_isub rfl ?_
                      refine Ew_of (pcₚ := 277) (fun _ => x_iconst rfl) ?_
                      refine w_isub rfl ?_
                      refine Ew_of (pcₚ := 280) (fun _ => x_istore rfl) ?_
                      obtain ⟨qfs, hqfs⟩ : ∃ q : Int, q = (y101) := ⟨_, rfl⟩
                      have hl8 : IMP (MDX ((w69)) ((u6_35))) (((pkP st (ltQ (sc ((w48)) 0 ((u6_4)) ++ sc ((w14)) 0 ((a2))) ((u6_24)) ((u6_2)) ((u6_1)) ((u6_4) + (a1))) (sq ((wq51)) ((wq53)) ((wq55)) ((y47)))).length : Int) = (((y101 - u6_37) - 3))) := fun q => by have h := QAP_len (hP q) (by omega); rw [List.length_append, Int.natCast_add, nb_len] at h; omega
                      refine Ew_of (pcₚ := 282) (fun _ => x_iload rfl rk_s) ?_
                      refine Ew_of (pcₚ := 284) (fun _ => x_iload rfl (rk_o (rk_o (l218_5) rfl rfl) rfl rfl)) ?_
                      refine w_icmpge (t := 334) rfl rfl (show inr (((y101 - u6_37) - 3)) from q_2770 r114 r8) (show inr ((a2 - a1)) from q_2769 h1 h4) (fun b115 => ?_) (fun b115 => ?_)
                      · refine Ew_of (pcₚ := 335) (fun _ => x_aload_n rfl (rk_o (rk_o (l218_0) rfl rfl) rfl rfl)) ?_
                        refine w_inv H (o := 6) rfl rfl rfl (H.perm 6 rfl) rfl rfl (by rfl) (M446f H (y16) ((((((((((hS96 6 17 rfl).trans (hS83 6 17 rfl)).trans (hS63 6 17 rfl)).trans (hS44 6 17 rfl)).trans (hS_218 6 17 rfl)).trans (hS_173 6 17 rfl)).trans (hS_129 6 17 rfl)).trans (hS29 6 17 rfl)).trans (ey17))) (wq18) ((funext (hA97 57 rfl)).trans ((funext (hA84 57 rfl)).trans ((funext (hA64 57 rfl)).trans ((funext (hA45 57 rfl)).trans ((funext (hA_218 57 rfl)).trans ((funext (hA_173 57 rfl)).trans ((funext (hA_129 57 rfl)).trans ((funext (hA30 57 rfl)).trans (ewq19))))))))) (wq20) ((funext (hA97 58 rfl)).trans ((funext (hA84 58 rfl)).trans ((funext (hA64 58 rfl)).trans ((funext (hA45 58 rfl)).trans ((funext (hA_218 58 rfl)).trans ((funext (hA_173 58 rfl)).trans ((funext (hA_129 58 rfl)).trans ((funext (hA30 58 rfl)).trans (ewq21))))))))) (wq22) ((funext (hA97 59 rfl)).trans ((funext (hA84 59 rfl)).trans ((funext (hA64 59 rfl)).trans ((funext (hA45 59 rfl)).trans ((funext (hA_218 59 rfl)).trans ((funext (hA_173 59 rfl)).trans ((funext (hA_129 59 rfl)).trans ((funext (hA30 59 rfl)).trans (ewq23))))))))) (wq24) ((funext (hA97 60 rfl)).trans ((funext (hA84 60 rfl)).trans ((funext (hA64 60 rfl)).trans ((funext (hA45 60 rfl)).trans ((funext (hA_218 60 rfl)).trans ((funext (hA_173 60 rfl)).trans ((funext (hA_129 60 rfl)).trans ((funext (hA30 60 rfl)).trans (ewq25))))))))) (pz15_0) (pz15_1) (fun σ F116 A117 H hS118 hA119 y121 ey122 wq123 ewq124 wq125 ewq126 wq127 ewq128 wq129 ewq130 pz120_0 pz120_1 pz120_2 pz120_3 pz120_4 pz120_5 pz120_6 => ⟨rfl, ?_⟩))
                        have r131 : (0 : Int) ≤ y121 ∧ y121 ≤ 11 := rngE (show (0 : Int) ≤ F116 6 12 ∧ F116 6 12 ≤ 11 from H.frng 6 12) (show F116 6 12 = y121 from (ey122))
                        have hr2 := pz120_2
                        have hr3 := pz120_3
                        have hr4 := pz120_4
                        have hr5 := pz120_5
                        refine Ew_of (pcₚ := 340) (fun _ => x_bipush (z := 8) rfl (by decide)) ?_
                        refine Ew_of (pcₚ := 342) (fun _ => x_istore rfl) ?_
                        have : ∀ i, 8 ≤ i → i < 8 → ((wq111)) i = ((w218_85)) i := fun i a b => absurd b (by omega)
                        have : IMP (MDX ((w69)) ((u6_35))) (∀ i, 0 ≤ i → i < 8 → ((wq111)) i = ((w87)) i) := fun q => by have h := (hSQ (hLP q).2.2.2).2.2.1; intro i a b; rw [h]; split; (rfl); (exact ntU_lo a b)
                        suffices hl342 : ∀ (m : Nat), ∀ (ls : rO) (σ : rS) (F_342 : hF) (A_342 : hA) (x342_9 : Int), rlook ls 0 = some (.ref (D 6)) → rlook ls 1 = some (I (a1)) → rlook ls 2 = some (I (a2)) → rlook ls 3 = some (I (a3)) → rlook ls 4 = some (I (u6_37)) → rlook ls 5 = some (I ((a2 - a1))) → rlook ls 9 = some (I (x342_9)) → HS σ0 σ D N F_342 A_342 → SF [] F116 F_342 → SA [87] A117 A_342 → ∀ w342_87 : Int → Int, A_342 87 = w342_87 → (inr (x342_9)) → ((8) ≤ (x342_9)) → ((x342_9) ≤ (8) ∨ (x342_9) ≤ ((12))) → (8 ≤ (x342_9) ∧ (x342_9) ≤ 12) → (∀ i, 8 ≤ i → i < (x342_9) → ((w342_87)) i = ((w218_85)) i) → (IMP (MDX ((w69)) ((u6_35))) (∀ i, 0 ≤ i → i < 8 → ((w342_87)) i = ((w87)) i)) → (((12)) - (x342_9)).toNat = m → Ew 449 (d + 7) 342 ls [] σ c s Q from
                          hl342 _ _ σ _ _ (8) (rk_o (rk_o (rk_o (l218_0) rfl rfl) rfl rfl) rfl rfl) (rk_o (rk_o (rk_o (l218_1) rfl rfl) rfl rfl) rfl rfl) (rk_o (rk_o (rk_o (l218_2) rfl rfl) rfl rfl) rfl rfl) (rk_o (rk_o (rk_o (l218_3) rfl rfl) rfl rfl) rfl rfl) (rk_o (rk_o (rk_o (l218_4) rfl rfl) rfl rfl) rfl rfl) (rk_o (rk_o (rk_o (l218_5) rfl rfl) rfl rfl) rfl rfl) (rk_s) H (SF_refl) (SA_refl)  (wq111) ((funext (hA119 87 rfl)).trans (ewq112)) (show inr (8) from q_141) (show (8) ≤ (8) from q_2765) (show (8) ≤ (8) ∨ (8) ≤ ((12)) from q_2764) (show 8 ≤ (8) ∧ (8) ≤ 12 from q_2763) (show ∀ i, 8 ≤ i → i < (8) → ((wq111)) i = ((w218_85)) i by assumption) (show IMP (MDX ((w69)) ((u6_35))) (∀ i, 0 ≤ i → i < 8 → ((wq111)) i = ((w87)) i) by assumption) rfl
                        as_aux_lemma =>
                        intro m
                        induction m using Nat.strongRecOn with
                        | _ m ih342 =>
                          intro ls σ F_342 A_342 x342_9 l342_0 l342_1 l342_2 l342_3 l342_4 l342_5 l342_9 H hS_342 hA_342  w342_87 ew342_87 j342_0 j342_1 j342_2 j342_3 j342_4 j342_5 hm342
                          have j342_t : ∀ i, 8 ≤ i → i < (x342_9) → ((w342_87)) i = ((w218_85)) i := by assumption
                          have j342_n : IMP (MDX ((w69)) ((u6_35))) (∀ i, 0 ≤ i → i < 8 → ((w342_87)) i = ((w87)) i) := by assumption
                          obtain ⟨qd, hqd⟩ : ∃ q : Int, q = (x342_9) := ⟨_, rfl⟩
                          refine Ew_of (pcₚ := 344) (fun _ => x_iload rfl l342_9) ?_
                          refine Ew_of (pcₚ := 346) (fun _ => x_bipush (z := 12) rfl (by decide)) ?_
                          refine w_icmpge (t := 369) rfl rfl (show inr (x342_9) from j342_0) (show inr (12) from q_599) (fun b132 => ?_) (fun b132 => ?_)
                          · have hN12 : IMP (MDX ((w69)) ((u6_35))) (∀ i, 0 ≤ i → i < 12 → ((w342_87)) i = ((w87)) i) := fun q i a b => by by_cases c : i < 8; (exact j342_n q i a c); (rw [j342_t i (by omega) (by omega)]; exact hT8 i (by omega) b)
                            refine Ew_of (pcₚ := 370) (fun _ => x_aload_n rfl l342_0) ?_
                            refine Ew_of (pcₚ := 372) (fun _ => x_iload rfl l342_4) ?_
                            refine w_pI H (o := 6) rfl rfl (H.perm 6 rfl) rfl rfl rfl (fun _ => rfl) rfl (show (0 : Int) ≤ u6_37 ∧ u6_37 ≤ 100000000 from r8) (fun σ H => ?_)
                            refine Ew_of (pcₚ := 376) (fun _ => x_aload_n rfl l342_0) ?_
                            refine Ew_of (pcₚ := 378) (fun _ => x_iload rfl l342_4) ?_
                            refine Ew_of (pcₚ := 380) (fun _ => x_iload rfl l342_5) ?_
                            refine Ew_of (pcₚ := 381) (fun _ => x_iconst rfl) ?_
                            refine Ew_of (pcₚ := 382) (fun _ => x_iload_n rfl l342_3) ?_
                            refine w_inv H (o := 6) rfl rfl rfl (H.perm 6 rfl) rfl rfl (by rfl) (M448f H (u6_37) (rfl) (wq109) ((funext (hA_342 70 rfl)).trans ((funext (hA119 70 rfl)).trans (ewq110))) (show inr (u6_37) from q_1984 r8) (show inr ((a2 - a1)) from q_2769 h1 h4) (show inr (0) from q_2) (show inr (a3) from h2) (show (a3) = 0 ∨ (a3) = 1 from h3) (show 0 ≤ (u6_37) ∧ (u6_37) ≤ 80000000 from q_2773 h5 r8) (show 0 ≤ ((a2 - a1)) ∧ ((a2 - a1)) ≤ 20000000 ∧ 0 ≤ (0) ∧ (0) ≤ 3 from q_2772 h4 r1) (show 0 ≤ (a3) ∧ (a3) ≤ 1 from q_2771 h10) (fun σ F133 A134 H hS135 hA136 y138 ey139 wq140 ewq141 pz137_0 pz137_1 pz137_2 pz137_3 => ⟨rfl, ?_⟩))
                            have r142 : (0 : Int) ≤ y138 ∧ y138 ≤ 100000000 := rngE (show (0 : Int) ≤ F133 6 37 ∧ F133 6 37 ≤ 100000000 from H.frng 6 37) (show F133 6 37 = y138 from (ey139))
                            have hfs385 : (y138) = (u6_37) + 3 := q_2774 pz137_0 pz137_3
                            have hb385 := pz137_1
                            rw [← hfs385] at hb385
                            have hq388 : IMP (MDX ((w69)) ((u6_35))) (QAP 65536 ((w70)) ((u6_37)) ((wq140)) ((y138)) (nb (8 * ((a2) - (a1)) + 2 * 0 + (a3)) 3)) := fun q => by have h := QAP_trans (QAP_cut (M := []) (T := nb 0 3 ++ (pkP st (ltQ (sc ((w48)) 0 ((u6_4)) ++ sc ((w14)) 0 ((a2))) ((u6_24)) ((u6_2)) ((u6_1)) ((u6_4) + (a1))) (sq ((wq51)) ((wq53)) ((wq55)) ((y47))))) (by rw [List.nil_append]; exact hP q) (by simp only [List.length_nil]; omega)) hb385; rw [List.nil_append] at h; exact h
                            refine Ew_of (pcₚ := 386) (fun _ => x_iload_n rfl l342_1) ?_
                            refine Ew_of (pcₚ := 388) (fun _ => x_istore rfl) ?_
                            have : IMP (MDX ((w69)) ((u6_35))) (QAP 65536 ((w70)) ((u6_37)) ((wq140)) ((y138)) (nb (8 * ((a2) - (a1)) + 2 * 0 + (a3)) 3 ++ sc ((w14)) ((a1)) ((a1)))) := fun q => by rw [sc_nil (Int.le_refl _), List.append_nil]; exact hq388 q
                            suffices hl388 : ∀ (m : Nat), ∀ (ls : rO) (σ : rS) (F_388 : hF) (A_388 : hA) (x388_9 : Int), rlook ls 0 = some (.ref (D 6)) → rlook ls 2 = some (I (a2)) → rlook ls 9 = some (I (x388_9)) → HS σ0 σ D N F_388 A_388 → SF [(6, 37)] F133 F_388 → SA [70] A134 A_388 → ∀ y388_6_37 : Int, F_388 6 37 = y388_6_37 → ∀ w388_70 : Int → Int, A_388 70 = w388_70 → (inr (x388_9)) → ((a1) ≤ (x388_9) ∧ (x388_9) ≤ (a2)) → ((y388_6_37) = (u6_37) + 3 + ((x388_9) - (a1))) → (IMP (MDX ((w69)) ((u6_35))) (QAP 65536 ((w70)) ((u6_37)) ((w388_70)) ((y388_6_37)) (nb (8 * ((a2) - (a1)) + 2 * 0 + (a3)) 3 ++ sc ((w14)) ((a1)) ((x388_9))))) → ((a2) - (x388_9)).toNat = m → Ew 449 (d + 7) 388 ls [] σ c s Q from
                              hl388 _ _ σ _ _ (a1) (rk_o (l342_0) rfl rfl) (rk_o (l342_2) rfl rfl) (rk_s) H (SF_refl) (SA_refl) (y138) ((ey139)) (wq140) (ewq141) (show inr (a1) from h0) (show (a1) ≤ (a1) ∧ (a1) ≤ (a2) from q_2760 h4) (show (y138) = (u6_37) + 3 + ((a1) - (a1)) from q_2775 hfs385) (show IMP (MDX ((w69)) ((u6_35))) (QAP 65536 ((w70)) ((u6_37)) ((wq140)) ((y138)) (nb (8 * ((a2) - (a1)) + 2 * 0 + (a3)) 3 ++ sc ((w14)) ((a1)) ((a1)))) by assumption) rfl
                            as_aux_lemma =>
                            intro m
                            induction m using Nat.strongRecOn with
                            | _ m ih388 =>
                              intro ls σ F_388 A_388 x388_9 l388_0 l388_2 l388_9 H hS_388 hA_388 y388_6_37 ey388_6_37 w388_70 ew388_70 j388_0 j388_1 j388_2 j388_3 hm388
                              have r143 : (0 : Int) ≤ y388_6_37 ∧ y388_6_37 ≤ 100000000 := rngE (show (0 : Int) ≤ F_388 6 37 ∧ F_388 6 37 ≤ 100000000 from H.frng 6 37) (show F_388 6 37 = y388_6_37 from (ey388_6_37))
                              have j388_q : IMP (MDX ((w69)) ((u6_35))) (QAP 65536 ((w70)) ((u6_37)) ((w388_70)) ((y388_6_37)) (nb (8 * ((a2) - (a1)) + 2 * 0 + (a3)) 3 ++ sc ((w14)) ((a1)) ((x388_9)))) := by assumption
                              obtain ⟨qd, hqd⟩ : ∃ q : Int, q = (x388_9) := ⟨_, rfl⟩
                              refine Ew_of (pcₚ := 390) (fun _ => x_iload rfl l388_9) ?_
                              refine Ew_of (pcₚ := 391) (fun _ => x_iload_n rfl l388_2) ?_
                              refine w_icmpge (t := 414) rfl rfl (show inr (x388_9) from j388_0) (show inr (a2) from h1) (fun b144 => ?_) (fun b144 => ?_)
                              · refine Ew_of (pcₚ := 415) (fun _ => x_aload_n rfl l388_0) ?_
                                refine w_gT H (o := 6) (t := 87) rfl (H.perm 6 rfl) rfl rfl rfl rfl rfl rfl ?_
                                refine Ew_of (pcₚ := 419) (fun _ => x_iconst rfl) ?_
                                refine Ew_of (pcₚ := 420) (fun _ => x_dup2 rfl rfl rfl) ?_
                                refine w_lI H (o := 87) (n := 12) rfl (H.perm 87 rfl) rfl rfl (H.fix 87 rfl rfl) (show 0 ≤ 0 ∧ 0 < ((12 : Nat) : Int) from q_2776) (by decide) (fun v145 ev145 qv145 => ?_)
                                have qv145 : (-2147483648 : Int) ≤ v145 ∧ v145 ≤ 2147483647 := qv145
                                have ev145 : (w342_87) (0) = v145 := (congrFun ((funext (hA_388 87 rfl)).trans ((funext (hA136 87 rfl)).trans (ew342_87))) (0)).symm.trans ev145
                                have hn421 := ev145
                                refine Ew_of (pcₚ := 422) (fun _ => x_iconst rfl) ?_
                                refine w_iaddE rfl ?_
                                have g146 : inr (adI (v145) (1)) := toI_inr _
                                refine w_sI H (o := 87) (n := 12) rfl (H.perm 87 rfl) rfl rfl (H.fix 87 rfl rfl) (show 0 ≤ 0 ∧ 0 < ((12 : Nat) : Int) from q_2776) (by decide) (show (-2147483648 : Int) ≤ (adI (v145) (1)) ∧ (adI (v145) (1)) ≤ 2147483647 from q_31 g146) (fun σ H => ?_)
                                have hla0 := (hr5 0 (by decide) (by decide)).trans (hk5 0 (by decide) (by decide))
                                have hla1 := (hr5 1 (by decide) (by decide)).trans (hk5 1 (by decide) (by decide))
                                have hla2 := (hr5 2 (by decide) (by decide)).trans (hk5 2 (by decide) (by decide))
                                have : IMP (MDX ((w69)) ((u6_35))) (QAP 65536 ((w70)) ((u6_37)) ((w388_70)) ((y388_6_37)) ((blF (sc ((w48)) 0 ((u6_4)) ++ sc ((w14)) 0 ((a2))) ((u6_24)) ((u6_2)) ((u6_1)) ((u6_4) + (a1)) ((a3)) st).1) ∧ STQ ((blF (sc ((w48)) 0 ((u6_4)) ++ sc ((w14)) 0 ((a2))) ((u6_24)) ((u6_2)) ((u6_1)) ((u6_4) + (a1)) ((a3)) st).2) ((y121)) ((wq123)) ((wq125)) ((wq127)) ((wq129)) ((upd1 (w342_87) (0) ((adI (v145) (1))))) ∧ MDX ((wq107)) ((y99))) := fun q => by rw [blF_3 hO0 hGQ.1 rfl rfl (by rw [hl8 q, hlen]; omega)]; refine ⟨?_, STQ_c hst (cdO_cg (by omega) (fun i a b => (hr2 i a b).trans (hk2 i a b))) (fun t a b => BR_cg3 (fun i x y => (hr3 i x y).trans (hk3 i x y)) (fun i x y => (hr4 i x y).trans (hk4 i x y)) a b) (fun i a b => (hr5 i a b).trans (hk5 i a b)) (fun j a b => by rw [← c1U_cg (fun j a b => hN12 q j a b) j a b]; unfold c1U; rw [hn421]), (hSQ (hLP q).2.2.2).2.2.2⟩; rw [hlen, DD_tail hAp (by omega) (by omega), show 8 * ((u6_4) + (a2) - ((u6_4) + (a1))) + (a3) = 8 * ((a2) - (a1)) + 2 * 0 + (a3) by omega]; have h := j388_q q; rw [show (x388_9) = (a2) by omega] at h; exact h
                                exact w_ret rfl (k σ _ _ H (SF_trans (SF_trans (SF_upd (SF_trans (SF_trans (SF_trans (SF_trans (SF_trans (SF_trans (SF_trans (SF_trans (SF_trans (SF_upd (SF_trans (SF_trans (SF_trans (SF_trans (SF_refl) hS_c21 (any_sub rfl)) hS_26 (any_sub rfl)) hS13 (any_sub rfl)) hS29 (any_sub rfl)) rfl) hS_129 (any_sub rfl)) hS_173 (any_sub rfl)) hS_218 (any_sub rfl)) hS44 (any_sub rfl)) hS63 (any_sub rfl)) hS83 (any_sub rfl)) hS96 (any_sub rfl)) hS118 (any_sub rfl)) hS_342 (any_sub rfl)) rfl) hS135 (any_sub rfl)) hS_388 (any_sub rfl)) (SA_upd (SA_trans (SA_trans (SA_trans (SA_trans (SA_trans (SA_trans (SA_trans (SA_trans (SA_trans (SA_trans (SA_trans (SA_trans (SA_trans (SA_trans (SA_trans (SA_refl) hA_c21 (any_subA rfl)) hA_26 (any_subA rfl)) hA14 (any_subA rfl)) hA30 (any_subA rfl)) hA_129 (any_subA rfl)) hA_173 (any_subA rfl)) hA_218 (any_subA rfl)) hA45 (any_subA rfl)) hA64 (any_subA rfl)) hA84 (any_subA rfl)) hA97 (any_subA rfl)) hA119 (any_subA rfl)) hA_342 (any_subA rfl)) hA136 (any_subA rfl)) hA_388 (any_subA rfl)) rfl) (y121) (((((hS_388 6 12 rfl).trans (hS135 6 12 rfl)).trans (hS_342 6 12 rfl)).trans (ey122))) (y99) ((((((hS_388 6 35 rfl).trans (hS135 6 35 rfl)).trans (hS_342 6 35 rfl)).trans (hS118 6 35 rfl)).trans (ey100))) (y388_6_37) ((ey388_6_37)) (wq123) ((funext (hA_388 53 rfl)).trans ((funext (hA136 53 rfl)).trans ((funext (hA_342 53 rfl)).trans (ewq124)))) (wq125) ((funext (hA_388 54 rfl)).trans ((funext (hA136 54 rfl)).trans ((funext (hA_342 54 rfl)).trans (ewq126)))) (wq127) ((funext (hA_388 55 rfl)).trans ((funext (hA136 55 rfl)).trans ((funext (hA_342 55 rfl)).trans (ewq128)))) (wq129) ((funext (hA_388 56 rfl)).trans ((funext (hA136 56 rfl)).trans ((funext (hA_342 56 rfl)).trans (ewq130)))) (wq107) ((funext (hA_388 69 rfl)).trans ((funext (hA136 69 rfl)).trans ((funext (hA_342 69 rfl)).trans ((funext (hA119 69 rfl)).trans (ewq108))))) (w388_70) (ew388_70) (upd1 (w342_87) (0) ((adI (v145) (1)))) (congrArg (fun q => upd1 q (0) ((adI (v145) (1)))) ((funext (hA_388 87 rfl)).trans ((funext (hA136 87 rfl)).trans (ew342_87)))) (show (u6_37) ≤ (y388_6_37) ∧ (y388_6_37) ≤ (u6_37) + 4 + (a2 - a1) from q_2777 j388_1 j388_2) (pz120_0) (pz120_1) (show 1 ≤ ((wq129)) 0 ∧ 1 ≤ ((wq129)) 1 ∧ 1 ≤ ((wq129)) 2 by omega) (show IMP (MDX ((w69)) ((u6_35))) (QAP 65536 ((w70)) ((u6_37)) ((w388_70)) ((y388_6_37)) ((blF (sc ((w48)) 0 ((u6_4)) ++ sc ((w14)) 0 (a2)) ((u6_24)) ((u6_2)) ((u6_1)) ((u6_4) + a1) (a3) st).1) ∧ STQ ((blF (sc ((w48)) 0 ((u6_4)) ++ sc ((w14)) 0 (a2)) ((u6_24)) ((u6_2)) ((u6_1)) ((u6_4) + a1) (a3) st).2) ((y121)) ((wq123)) ((wq125)) ((wq127)) ((wq129)) ((upd1 (w342_87) (0) ((adI (v145) (1))))) ∧ MDX ((wq107)) ((y99))) by assumption))
                              · refine Ew_of (pcₚ := 395) (fun _ => x_aload_n rfl l388_0) ?_
                                refine Ew_of (pcₚ := 396) (fun _ => x_aload_n rfl l388_0) ?_
                                refine w_gT H (o := 6) (t := 1) rfl (H.perm 6 rfl) rfl rfl rfl rfl rfl rfl ?_
                                refine w_gT H (o := 1) (t := 14) rfl (H.perm 1 rfl) rfl rfl rfl rfl rfl rfl ?_
                                refine Ew_of (pcₚ := 404) (fun _ => x_iload rfl l388_9) ?_
                                refine w_lI H (o := 14) (n := 65536) rfl (H.perm 14 rfl) rfl rfl (H.fix 14 rfl rfl) (show 0 ≤ x388_9 ∧ x388_9 < ((65536 : Nat) : Int) from q_2778 b144 h4 j388_1 r1) (by decide) (fun v147 ev147 qv147 => ?_)
                                have qv147 : (0 : Int) ≤ v147 ∧ v147 ≤ 255 := qv147
                                have ev147 : (w14) (x388_9) = v147 := (congrFun ((funext (hA_388 14 rfl)).trans ((funext (hA136 14 rfl)).trans ((funext (hA_342 14 rfl)).trans ((funext (hA119 14 rfl)).trans ((funext (hA97 14 rfl)).trans ((funext (hA84 14 rfl)).trans ((funext (hA64 14 rfl)).trans ((funext (hA45 14 rfl)).trans ((funext (hA_218 14 rfl)).trans ((funext (hA_173 14 rfl)).trans ((funext (hA_129 14 rfl)).trans ((funext (hA30 14 rfl)).trans ((funext (hA14 14 rfl)).trans ((funext (hA_26 14 rfl)).trans ((funext (hA_c21 14 rfl)).trans (ew14)))))))))))))))) (x388_9)).symm.trans ev147
                                have hv409 := ev147
                                refine w_inv H (o := 6) rfl rfl rfl (H.perm 6 rfl) rfl rfl (by rfl) (M392g H (y388_6_37) ((ey388_6_37)) (w388_70) (ew388_70) (show inr (v147) from q_299 qv147) (show 0 ≤ (y388_6_37) ∧ (y388_6_37) ≤ 99999999 by omega) (fun σ F148 A149 H hS150 hA151 y153 ey154 wq155 ewq156 pz152_0 pz152_1 pz152_2 => ⟨rfl, ?_⟩))
                                have r157 : (0 : Int) ≤ y153 ∧ y153 ≤ 100000000 := rngE (show (0 : Int) ≤ F148 6 37 ∧ F148 6 37 ≤ 100000000 from H.frng 6 37) (show F148 6 37 = y153 from (ey154))
                                have hs409 := pz152_1
                                rw [← hv409] at hs409
                                refine Ew_of (pcₚ := 411) (fun _ => x_iinc (len := 3) rfl (l388_9)) ?_
                                refine Ew_of (pcₚ := 388) (fun _ => x_goto rfl rfl) ?_
                                have : IMP (MDX ((w69)) ((u6_35))) (QAP 65536 ((w70)) ((u6_37)) ((wq155)) ((y153)) (nb (8 * ((a2) - (a1)) + 2 * 0 + (a3)) 3 ++ sc ((w14)) ((a1)) (((x388_9 + 1))))) := fun q => by rw [sc_snoc (b := qd) (by omega) (by omega), ← List.append_assoc, hqd]; exact QAP_trans (j388_q q) hs409
                                exact ih388 _ (msE hm388 q_16 (q_17 b144)) _ σ _ _ ((x388_9 + 1)) (rk_o (l388_0) rfl rfl) (rk_o (l388_2) rfl rfl) (rk_s) H (SF_trans (hS_388) hS150 (any_sub rfl)) (SA_trans (hA_388) hA151 (any_subA rfl)) (y153) ((ey154)) (wq155) (ewq156) (show inr ((x388_9 + 1)) from q_2780 b144 h4 j388_0 r1) (show (a1) ≤ ((x388_9 + 1)) ∧ ((x388_9 + 1)) ≤ (a2) from q_1503 b144 j388_1) (show (y153) = (u6_37) + 3 + (((x388_9 + 1)) - (a1)) from q_2779 j388_2 pz152_0) (show IMP (MDX ((w69)) ((u6_35))) (QAP 65536 ((w70)) ((u6_37)) ((wq155)) ((y153)) (nb (8 * ((a2) - (a1)) + 2 * 0 + (a3)) 3 ++ sc ((w14)) ((a1)) (((x388_9 + 1))))) by assumption) rfl
                          · refine Ew_of (pcₚ := 350) (fun _ => x_aload_n rfl l342_0) ?_
                            refine w_gT H (o := 6) (t := 87) rfl (H.perm 6 rfl) rfl rfl rfl rfl rfl rfl ?_
                            refine Ew_of (pcₚ := 355) (fun _ => x_iload rfl l342_9) ?_
                            refine Ew_of (pcₚ := 356) (fun _ => x_aload_n rfl l342_0) ?_
                            refine w_gT H (o := 6) (t := 85) rfl (H.perm 6 rfl) rfl rfl rfl rfl rfl rfl ?_
                            refine Ew_of (pcₚ := 361) (fun _ => x_iload rfl l342_9) ?_
                            refine w_lI H (o := 85) (n := 12) rfl (H.perm 85 rfl) rfl rfl (H.fix 85 rfl rfl) (show 0 ≤ x342_9 ∧ x342_9 < ((12 : Nat) : Int) from q_2781 b132 j342_3) (by decide) (fun v158 ev158 qv158 => ?_)
                            have qv158 : (-2147483648 : Int) ≤ v158 ∧ v158 ≤ 2147483647 := qv158
                            have ev158 : (w218_85) (x342_9) = v158 := (congrFun ((funext (hA_342 85 rfl)).trans ((funext (hA119 85 rfl)).trans ((funext (hA97 85 rfl)).trans ((funext (hA84 85 rfl)).trans ((funext (hA64 85 rfl)).trans ((funext (hA45 85 rfl)).trans (ew218_85))))))) (x342_9)).symm.trans ev158
                            have hdv := ev158
                            refine w_sI H (o := 87) (n := 12) rfl (H.perm 87 rfl) rfl rfl (H.fix 87 rfl rfl) (show 0 ≤ x342_9 ∧ x342_9 < ((12 : Nat) : Int) from q_2781 b132 j342_3) (by decide) (show (-2147483648 : Int) ≤ v158 ∧ v158 ≤ 2147483647 from qv158) (fun σ H => ?_)
                            refine Ew_of (pcₚ := 366) (fun _ => x_iinc (len := 3) rfl (l342_9)) ?_
                            refine Ew_of (pcₚ := 342) (fun _ => x_goto rfl rfl) ?_
                            have : ∀ i, 8 ≤ i → i < ((x342_9 + 1)) → ((upd1 (w342_87) (x342_9) (v158))) i = ((w218_85)) i := fun i a b => by by_cases e : i = qd; (rw [e, hqd, upd1_s, ← hdv]); (rw [upd1_o (by omega)]; exact j342_t i a (by omega))
                            have : IMP (MDX ((w69)) ((u6_35))) (∀ i, 0 ≤ i → i < 8 → ((upd1 (w342_87) (x342_9) (v158))) i = ((w87)) i) := fun q i a b => by rw [upd1_o (by omega)]; exact j342_n q i a b
                            exact ih342 _ (msE hm342 q_2626 (q_2786 b132)) _ σ _ _ ((x342_9 + 1)) (rk_o (l342_0) rfl rfl) (rk_o (l342_1) rfl rfl) (rk_o (l342_2) rfl rfl) (rk_o (l342_3) rfl rfl) (rk_o (l342_4) rfl rfl) (rk_o (l342_5) rfl rfl) (rk_s) H (hS_342) (SA_upd (hA_342) rfl)  (upd1 (w342_87) (x342_9) (v158)) (congrArg (fun q => upd1 q (x342_9) (v158)) (ew342_87)) (show inr ((x342_9 + 1)) from q_2785 b132 j342_3) (show (8) ≤ ((x342_9 + 1)) from q_2784 j342_3) (show ((x342_9 + 1)) ≤ (8) ∨ ((x342_9 + 1)) ≤ ((12)) from q_2783 b132) (show 8 ≤ ((x342_9 + 1)) ∧ ((x342_9 + 1)) ≤ 12 from q_2782 b132 j342_3) (show ∀ i, 8 ≤ i → i < ((x342_9 + 1)) → ((upd1 (w342_87) (x342_9) (v158))) i = ((w218_85)) i by assumption) (show IMP (MDX ((w69)) ((u6_35))) (∀ i, 0 ≤ i → i < 8 → ((upd1 (w342_87) (x342_9) (v158))) i = ((w87)) i) by assumption) rfl
                      · refine Ew_of (pcₚ := 288) (fun _ => x_aload_n rfl (rk_o (rk_o (l218_0) rfl rfl) rfl rfl)) ?_
                        refine Ew_of (pcₚ := 290) (fun _ => x_iload rfl (rk_o (rk_o (l218_4) rfl rfl) rfl rfl)) ?_
                        refine Ew_of (pcₚ := 292) (fun _ => x_iload rfl rk_s) ?_
                        refine Ew_of (pcₚ := 293) (fun _ => x_iconst rfl) ?_
                        refine Ew_of (pcₚ := 294) (fun _ => x_iload_n rfl (rk_o (rk_o (l218_3) rfl rfl) rfl rfl)) ?_
                        refine w_inv H (o := 6) rfl rfl rfl (H.perm 6 rfl) rfl rfl (by rfl) (M448f H (y101) ((ey102)) (wq109) (ewq110) (show inr (u6_37) from q_1984 r8) (show inr (((y101 - u6_37) - 3)) from q_2770 r114 r8) (show inr (2) from q_122) (show inr (a3) from h2) (show (a3) = 0 ∨ (a3) = 1 from h3) (show 0 ≤ (u6_37) ∧ (u6_37) ≤ 80000000 from q_2773 h5 r8) (show 0 ≤ (((y101 - u6_37) - 3)) ∧ (((y101 - u6_37) - 3)) ≤ 20000000 ∧ 0 ≤ (2) ∧ (2) ≤ 3 from q_2787 pz31_0 pz65_3 pz98_0) (show 0 ≤ (a3) ∧ (a3) ≤ 1 from q_2771 h10) (fun σ F159 A160 H hS161 hA162 y164 ey165 wq166 ewq167 pz163_0 pz163_1 pz163_2 pz163_3 => ⟨rfl, ?_⟩))
                        have r168 : (0 : Int) ≤ y164 ∧ y164 ≤ 100000000 := rngE (show (0 : Int) ≤ F159 6 37 ∧ F159 6 37 ≤ 100000000 from H.frng 6 37) (show F159 6 37 = y164 from (ey165))
                        have hfs297 : (y164) = qfs := by omega
                        have hb297 := pz163_1
                        have hf297 := pz163_2
                        refine Ew_of (pcₚ := 298) (fun _ => x_aload_n rfl (rk_o (rk_o (l218_0) rfl rfl) rfl rfl)) ?_
                        refine w_gT H (o := 6) (t := 87) rfl (H.perm 6 rfl) rfl rfl rfl rfl rfl rfl ?_
                        refine Ew_of (pcₚ := 302) (fun _ => x_iconst rfl) ?_
                        refine Ew_of (pcₚ := 303) (fun _ => x_dup2 rfl rfl rfl) ?_
                        refine w_lI H (o := 87) (n := 12) rfl (H.perm 87 rfl) rfl rfl (H.fix 87 rfl rfl) (show 0 ≤ 2 ∧ 2 < ((12 : Nat) : Int) from q_2788) (by decide) (fun v169 ev169 qv169 => ?_)
                        have qv169 : (-2147483648 : Int) ≤ v169 ∧ v169 ≤ 2147483647 := qv169
                        have ev169 : (wq111) (2) = v169 := (congrFun ((funext (hA162 87 rfl)).trans (ewq112)) (2)).symm.trans ev169
                        have hn1 := ev169
                        refine Ew_of (pcₚ := 305) (fun _ => x_iconst rfl) ?_
                        refine w_iaddE rfl ?_
                        have g170 : inr (adI (v169) (1)) := toI_inr _
                        refine w_sI H (o := 87) (n := 12) rfl (H.perm 87 rfl) rfl rfl (H.fix 87 rfl rfl) (show 0 ≤ 2 ∧ 2 < ((12 : Nat) : Int) from q_2788) (by decide) (show (-2147483648 : Int) ≤ (adI (v169) (1)) ∧ (adI (v169) (1)) ≤ 2147483647 from q_31 g170) (fun σ H => ?_)
                        refine Ew_of (pcₚ := 308) (fun _ => x_aload_n rfl (rk_o (rk_o (l218_0) rfl rfl) rfl rfl)) ?_
                        refine w_gT H (o := 6) (t := 87) rfl (H.perm 6 rfl) rfl rfl rfl rfl rfl rfl ?_
                        refine Ew_of (pcₚ := 312) (fun _ => x_iconst rfl) ?_
                        refine Ew_of (pcₚ := 313) (fun _ => x_dup2 rfl rfl rfl) ?_
                        refine w_lI H (o := 87) (n := 12) rfl (H.perm 87 rfl) rfl rfl (H.fix 87 rfl rfl) (show 0 ≤ 3 ∧ 3 < ((12 : Nat) : Int) from q_2789) (by decide) (fun v171 ev171 qv171 => ?_)
                        have qv171 : (-2147483648 : Int) ≤ v171 ∧ v171 ≤ 2147483647 := qv171
                        have ev171 : (upd1 (wq111) (2) ((adI (v169) (1)))) (3) = v171 := (congrFun (congrArg (fun q => upd1 q (2) ((adI (v169) (1)))) ((funext (hA162 87 rfl)).trans (ewq112))) (3)).symm.trans ev171
                        have hn2 := ev171
                        refine Ew_of (pcₚ := 315) (fun _ => x_aload_n rfl (rk_o (rk_o (l218_0) rfl rfl) rfl rfl)) ?_
                        refine w_gI H (o := 6) (w := y47) rfl (H.perm 6 rfl) rfl rfl rfl (fun _ => rfl) (((((hS161 6 28 rfl).trans (hS96 6 28 rfl)).trans (hS83 6 28 rfl)).trans (hS63 6 28 rfl)).trans (ey48)) ?_
                        refine w_iaddE rfl ?_
                        have g172 : inr (adI (v171) (y47)) := toI_inr _
                        refine w_sI H (o := 87) (n := 12) rfl (H.perm 87 rfl) rfl rfl (H.fix 87 rfl rfl) (show 0 ≤ 3 ∧ 3 < ((12 : Nat) : Int) from q_2789) (by decide) (show (-2147483648 : Int) ≤ (adI (v171) (y47)) ∧ (adI (v171) (y47)) ≤ 2147483647 from q_31 g172) (fun σ H => ?_)
                        refine Ew_of (pcₚ := 321) (fun _ => x_aload_n rfl (rk_o (rk_o (l218_0) rfl rfl) rfl rfl)) ?_
                        refine w_gT H (o := 6) (t := 87) rfl (H.perm 6 rfl) rfl rfl rfl rfl rfl rfl ?_
                        refine Ew_of (pcₚ := 325) (fun _ => x_iconst rfl) ?_
                        refine Ew_of (pcₚ := 327) (fun _ => x_iload rfl (rk_o (rk_s) rfl rfl)) ?_
                        refine w_iadd rfl ?_
                        refine Ew_of (pcₚ := 329) (fun _ => x_dup2 rfl rfl rfl) ?_
                        refine w_lI H (o := 87) (n := 12) rfl (H.perm 87 rfl) rfl rfl (H.fix 87 rfl rfl) (show 0 ≤ (4 + z65) ∧ (4 + z65) < ((12 : Nat) : Int) from q_2790 pz65_1) (by decide) (fun v173 ev173 qv173 => ?_)
                        have qv173 : (-2147483648 : Int) ≤ v173 ∧ v173 ≤ 2147483647 := qv173
                        have ev173 : (upd1 (upd1 (wq111) (2) ((adI (v169) (1)))) (3) ((adI (v171) (y47)))) ((4 + z65)) = v173 := (congrFun (congrArg (fun q => upd1 q (3) ((adI (v171) (y47)))) (congrArg (fun q => upd1 q (2) ((adI (v169) (1)))) ((funext (hA162 87 rfl)).trans (ewq112)))) ((4 + z65))).symm.trans ev173
                        have hn3 := ev173
                        refine Ew_of (pcₚ := 331) (fun _ => x_iconst rfl) ?_
                        refine w_iaddE rfl ?_
                        have g174 : inr (adI (v173) (1)) := toI_inr _
                        refine w_sI H (o := 87) (n := 12) rfl (H.perm 87 rfl) rfl rfl (H.fix 87 rfl rfl) (show 0 ≤ (4 + z65) ∧ (4 + z65) < ((12 : Nat) : Int) from q_2790 pz65_1) (by decide) (show (-2147483648 : Int) ≤ (adI (v173) (1)) ∧ (adI (v173) (1)) ≤ 2147483647 from q_31 g174) (fun σ H => ?_)
                        have : IMP (MDX ((w69)) ((u6_35))) (QAP 65536 ((w70)) ((u6_37)) ((wq166)) ((y164)) ((blF (sc ((w48)) 0 ((u6_4)) ++ sc ((w14)) 0 ((a2))) ((u6_24)) ((u6_2)) ((u6_1)) ((u6_4) + (a1)) ((a3)) st).1) ∧ STQ ((blF (sc ((w48)) 0 ((u6_4)) ++ sc ((w14)) 0 ((a2))) ((u6_24)) ((u6_2)) ((u6_1)) ((u6_4) + (a1)) ((a3)) st).2) ((y66)) ((wq72)) ((wq103)) ((wq105)) ((wq86)) ((upd1 (upd1 (upd1 (wq111) (2) ((adI (v169) (1)))) (3) ((adI (v171) (y47)))) ((4 + z65)) ((adI (v173) (1))))) ∧ MDX ((wq107)) ((y99))) := fun q => by rw [blF_2 hO0 hGQ.1 rfl rfl (by rw [hl8 q, hlen]; omega)]; have hs := hSQ (hLP q).2.2.2; refine ⟨?_, STQ_p hst ((hLP q).2.2.1.trans (by rw [(hPK q).2.2, hst.1])) hs.2.1 (TLA_q hTL) (hPK q).1.symm (fun j a b => by rw [← hs.2.2.1, hQl_]; unfold c1U; rw [hn1, hn2, hn3]), hs.2.2.2⟩; rw [hl8 q, hfs297, hqfs]; exact QAP_ow (hP q) (QAP_c hb297 (by first | rfl | (congr 1; omega))) (by simp only [nb_len]) (fun i a => hf297 i (.inr (by omega)))
                        exact w_ret rfl (k σ _ _ H (SF_trans (SF_trans (SF_trans (SF_trans (SF_trans (SF_trans (SF_trans (SF_trans (SF_upd (SF_trans (SF_trans (SF_trans (SF_trans (SF_refl) hS_c21 (any_sub rfl)) hS_26 (any_sub rfl)) hS13 (any_sub rfl)) hS29 (any_sub rfl)) rfl) hS_129 (any_sub rfl)) hS_173 (any_sub rfl)) hS_218 (any_sub rfl)) hS44 (any_sub rfl)) hS63 (any_sub rfl)) hS83 (any_sub rfl)) hS96 (any_sub rfl)) hS161 (any_sub rfl)) (SA_upd (SA_upd (SA_upd (SA_trans (SA_trans (SA_trans (SA_trans (SA_trans (SA_trans (SA_trans (SA_trans (SA_trans (SA_trans (SA_trans (SA_trans (SA_refl) hA_c21 (any_subA rfl)) hA_26 (any_subA rfl)) hA14 (any_subA rfl)) hA30 (any_subA rfl)) hA_129 (any_subA rfl)) hA_173 (any_subA rfl)) hA_218 (any_subA rfl)) hA45 (any_subA rfl)) hA64 (any_subA rfl)) hA84 (any_subA rfl)) hA97 (any_subA rfl)) hA162 (any_subA rfl)) rfl) rfl) rfl) (y66) (((((hS161 6 12 rfl).trans (hS96 6 12 rfl)).trans (hS83 6 12 rfl)).trans (ey67))) (y99) (((hS161 6 35 rfl).trans (ey100))) (y164) ((ey165)) (wq72) ((funext (hA162 53 rfl)).trans ((funext (hA97 53 rfl)).trans ((funext (hA84 53 rfl)).trans (ewq73)))) (wq103) ((funext (hA162 54 rfl)).trans (ewq104)) (wq105) ((funext (hA162 55 rfl)).trans (ewq106)) (wq86) ((funext (hA162 56 rfl)).trans ((funext (hA97 56 rfl)).trans (ewq87))) (wq107) ((funext (hA162 69 rfl)).trans (ewq108)) (wq166) (ewq167) (upd1 (upd1 (upd1 (wq111) (2) ((adI (v169) (1)))) (3) ((adI (v171) (y47)))) ((4 + z65)) ((adI (v173) (1)))) (congrArg (fun q => upd1 q ((4 + z65)) ((adI (v173) (1)))) (congrArg (fun q => upd1 q (3) ((adI (v171) (y47)))) (congrArg (fun q => upd1 q (2) ((adI (v169) (1)))) ((funext (hA162 87 rfl)).trans (ewq112))))) (show (u6_37) ≤ (y164) ∧ (y164) ≤ (u6_37) + 4 + (a2 - a1) from q_2791 b115 h4 pz163_0 pz163_3) (pz65_2) (pz98_1) (show 1 ≤ ((wq86)) 0 ∧ 1 ≤ ((wq86)) 1 ∧ 1 ≤ ((wq86)) 2 by omega) (show IMP (MDX ((w69)) ((u6_35))) (QAP 65536 ((w70)) ((u6_37)) ((wq166)) ((y164)) ((blF (sc ((w48)) 0 ((u6_4)) ++ sc ((w14)) 0 (a2)) ((u6_24)) ((u6_2)) ((u6_1)) ((u6_4) + a1) (a3) st).1) ∧ STQ ((blF (sc ((w48)) 0 ((u6_4)) ++ sc ((w14)) 0 (a2)) ((u6_24)) ((u6_2)) ((u6_1)) ((u6_4) + a1) (a3) st).2) ((y66)) ((wq72)) ((wq103)) ((wq105)) ((wq86)) ((upd1 (upd1 (upd1 (wq111) (2) ((adI (v169) (1)))) (3) ((adI (v171) (y47)))) ((4 + z65)) ((adI (v173) (1))))) ∧ MDX ((wq107)) ((y99))) by assumption))
                    · refine Ew_of (pcₚ := 226) (fun _ => x_aload_n rfl l218_0) ?_
                      refine w_gT H (o := 6) (t := 85) rfl (H.perm 6 rfl) rfl rfl rfl rfl rfl rfl ?_
                      refine Ew_of (pcₚ := 231) (fun _ => x_iload rfl l218_7) ?_
                      refine Ew_of (pcₚ := 232) (fun _ => x_aload_n rfl l218_0) ?_
                      refine w_gT H (o := 6) (t := 87) rfl (H.perm 6 rfl) rfl rfl rfl rfl rfl rfl ?_
                      refine Ew_of (pcₚ := 237) (fun _ => x_iload rfl l218_7) ?_
                      refine w_lI H (o := 87) (n := 12) rfl (H.perm 87 rfl) rfl rfl (H.fix 87 rfl rfl) (show 0 ≤ x218_7 ∧ x218_7 < ((12 : Nat) : Int) from q_2781 b41 j218_3) (by decide) (fun v175 ev175 qv175 => ?_)
                      have qv175 : (-2147483648 : Int) ≤ v175 ∧ v175 ≤ 2147483647 := qv175
                      have ev175 : (w87) (x218_7) = v175 := (congrFun ((funext (hA_218 87 rfl)).trans ((funext (hA_173 87 rfl)).trans ((funext (hA_129 87 rfl)).trans ((funext (hA30 87 rfl)).trans ((funext (hA14 87 rfl)).trans ((funext (hA_26 87 rfl)).trans ((funext (hA_c21 87 rfl)).trans (ew87)))))))) (x218_7)).symm.trans ev175
                      have hdv := ev175
                      refine w_sI H (o := 85) (n := 12) rfl (H.perm 85 rfl) rfl rfl (H.fix 85 rfl rfl) (show 0 ≤ x218_7 ∧ x218_7 < ((12 : Nat) : Int) from q_2781 b41 j218_3) (by decide) (show (-2147483648 : Int) ≤ v175 ∧ v175 ≤ 2147483647 from qv175) (fun σ H => ?_)
                      refine Ew_of (pcₚ := 242) (fun _ => x_iinc (len := 3) rfl (l218_7)) ?_
                      refine Ew_of (pcₚ := 218) (fun _ => x_goto rfl rfl) ?_
                      have : ∀ i, 8 ≤ i → i < ((x218_7 + 1)) → ((upd1 (w218_85) (x218_7) (v175))) i = ((w87)) i := fun i a b => by by_cases e : i = qd; (rw [e, hqd, upd1_s, ← hdv]); (rw [upd1_o (by omega)]; exact j218_t i a (by omega))
                      exact ih218 _ (msE hm218 q_2626 (q_2786 b41)) _ σ _ _ ((x218_7 + 1)) (rk_o (l218_0) rfl rfl) (rk_o (l218_1) rfl rfl) (rk_o (l218_2) rfl rfl) (rk_o (l218_3) rfl rfl) (rk_o (l218_4) rfl rfl) (rk_o (l218_5) rfl rfl) (rk_s) H (hS_218) (SA_upd (hA_218) rfl)  (upd1 (w218_85) (x218_7) (v175)) (congrArg (fun q => upd1 q (x218_7) (v175)) (ew218_85)) (show inr ((x218_7 + 1)) from q_2785 b41 j218_3) (show (8) ≤ ((x218_7 + 1)) from q_2784 j218_3) (show ((x218_7 + 1)) ≤ (8) ∨ ((x218_7 + 1)) ≤ ((12)) from q_2783 b41) (show 8 ≤ ((x218_7 + 1)) ∧ ((x218_7 + 1)) ≤ 12 from q_2782 b41 j218_3) (show ∀ i, 8 ≤ i → i < ((x218_7 + 1)) → ((upd1 (w218_85) (x218_7) (v175))) i = ((w87)) i by assumption) rfl
                · obtain ⟨qd, hqd⟩ : ∃ q : Int, q = (x173_7) := ⟨_, rfl⟩
                  have hqe : (u6_4) + qd = (y173_6_22) := by omega
                  refine Ew_of (pcₚ := 180) (fun _ => x_aload_n rfl l173_0) ?_
                  refine w_gT H (o := 6) (t := 61) rfl (H.perm 6 rfl) rfl rfl rfl rfl rfl rfl ?_
                  refine Ew_of (pcₚ := 184) (fun _ => x_aload_n rfl l173_0) ?_
                  refine w_gI H (o := 6) (w := y173_6_22) rfl (H.perm 6 rfl) rfl rfl rfl (fun _ => rfl) (ey173_6_22) ?_
                  refine Ew_of (pcₚ := 188) (fun _ => x_aload_n rfl l173_0) ?_
                  refine w_gT H (o := 6) (t := 1) rfl (H.perm 6 rfl) rfl rfl rfl rfl rfl rfl ?_
                  refine w_gT H (o := 1) (t := 14) rfl (H.perm 1 rfl) rfl rfl rfl rfl rfl rfl ?_
                  refine Ew_of (pcₚ := 196) (fun _ => x_iload rfl l173_7) ?_
                  refine w_lI H (o := 14) (n := 65536) rfl (H.perm 14 rfl) rfl rfl (H.fix 14 rfl rfl) (show 0 ≤ x173_7 ∧ x173_7 < ((65536 : Nat) : Int) from q_2792 j173_1 j173_3 r39 r4) (by decide) (fun v176 ev176 qv176 => ?_)
                  have qv176 : (0 : Int) ≤ v176 ∧ v176 ≤ 255 := qv176
                  have ev176 : (w14) (x173_7) = v176 := (congrFun ((funext (hA_173 14 rfl)).trans ((funext (hA_129 14 rfl)).trans ((funext (hA30 14 rfl)).trans ((funext (hA14 14 rfl)).trans ((funext (hA_26 14 rfl)).trans ((funext (hA_c21 14 rfl)).trans (ew14))))))) (x173_7)).symm.trans ev176
                  have hdv : ((w14)) qd = (v176) := by rw [hqd]; exact ev176
                  refine w_sI H (o := 61) (n := 16384) rfl (H.perm 61 rfl) rfl rfl (H.fix 61 rfl rfl) (show 0 ≤ y173_6_22 ∧ y173_6_22 < ((16384 : Nat) : Int) from q_2793 b40 h4 h7 j173_3 r39) (by decide) (show (0 : Int) ≤ v176 ∧ v176 ≤ 255 from qv176) (fun σ H => ?_)
                  refine Ew_of (pcₚ := 199) (fun _ => x_aload_n rfl l173_0) ?_
                  refine Ew_of (pcₚ := 200) (fun _ => x_dup rfl rfl) ?_
                  refine w_gI H (o := 6) (w := y173_6_22) rfl (H.perm 6 rfl) rfl rfl rfl (fun _ => rfl) (ey173_6_22) ?_
                  refine Ew_of (pcₚ := 204) (fun _ => x_iconst rfl) ?_
                  refine w_iadd rfl ?_
                  refine w_pI H (o := 6) rfl rfl (H.perm 6 rfl) rfl rfl rfl (fun _ => rfl) rfl (show (0 : Int) ≤ (y173_6_22 + 1) ∧ (y173_6_22 + 1) ≤ 16384 from q_2794 b40 h4 h7 j173_3 r39) (fun σ H => ?_)
                  refine Ew_of (pcₚ := 211) (fun _ => x_iinc (len := 3) rfl (l173_7)) ?_
                  refine Ew_of (pcₚ := 173) (fun _ => x_goto rfl rfl) ?_
                  have : ∀ i, 0 ≤ i → i < (u6_4) → ((upd1 (w173_61) (y173_6_22) (v176))) i = ((w48)) i := fun i a b => by rw [upd1_o (by omega)]; exact j173_c i a b
                  have : ∀ i, 0 ≤ i → i < ((x173_7 + 1)) → ((upd1 (w173_61) (y173_6_22) (v176))) ((u6_4) + i) = ((w14)) i := fun i a b => by by_cases e : i = qd; (rw [e, hqe, upd1_s, ← hdv]); (rw [upd1_o (by omega)]; exact j173_i i a (by omega))
                  exact ih173 _ (msE hm173 q_16 (q_17 b40)) _ σ _ _ ((x173_7 + 1)) (rk_o (l173_0) rfl rfl) (rk_o (l173_1) rfl rfl) (rk_o (l173_2) rfl rfl) (rk_o (l173_3) rfl rfl) (rk_o (l173_4) rfl rfl) (rk_o (l173_5) rfl rfl) (rk_s) H (SF_upd (hS_173) rfl) (SA_upd (hA_173) rfl) ((y173_6_22 + 1)) (rfl) (upd1 (w173_61) (y173_6_22) (v176)) (congrArg (fun q => upd1 q (y173_6_22) (v176)) (ew173_61)) (show inr ((x173_7 + 1)) from q_2795 j173_1 j173_3 r39 r4) (show (0) ≤ ((x173_7 + 1)) from q_14 j173_1) (show ((x173_7 + 1)) ≤ (0) ∨ ((x173_7 + 1)) ≤ ((a2)) from q_13 b40) (show ((y173_6_22 + 1)) = (u6_4) + ((x173_7 + 1)) from q_541 j173_3) (show ∀ i, 0 ≤ i → i < (u6_4) → ((upd1 (w173_61) (y173_6_22) (v176))) i = ((w48)) i by assumption) (show ∀ i, 0 ≤ i → i < ((x173_7 + 1)) → ((upd1 (w173_61) (y173_6_22) (v176))) ((u6_4) + i) = ((w14)) i by assumption) rfl
            · obtain ⟨qd, hqd⟩ : ∃ q : Int, q = (y129_6_22) := ⟨_, rfl⟩
              refine Ew_of (pcₚ := 139) (fun _ => x_aload_n rfl l129_0) ?_
              refine w_gT H (o := 6) (t := 61) rfl (H.perm 6 rfl) rfl rfl rfl rfl rfl rfl ?_
              refine Ew_of (pcₚ := 143) (fun _ => x_aload_n rfl l129_0) ?_
              refine w_gI H (o := 6) (w := y129_6_22) rfl (H.perm 6 rfl) rfl rfl rfl (fun _ => rfl) (ey129_6_22) ?_
              refine Ew_of (pcₚ := 147) (fun _ => x_aload_n rfl l129_0) ?_
              refine w_gT H (o := 6) (t := 48) rfl (H.perm 6 rfl) rfl rfl rfl rfl rfl rfl ?_
              refine Ew_of (pcₚ := 152) (fun _ => x_iload rfl l129_7) ?_
              refine w_lI H (o := 48) (n := 65536) rfl (H.perm 48 rfl) rfl rfl (H.fix 48 rfl rfl) (show 0 ≤ x129_7 ∧ x129_7 < ((65536 : Nat) : Int) from q_2796 j129_1 j129_3 r37) (by decide) (fun v177 ev177 qv177 => ?_)
              have qv177 : (0 : Int) ≤ v177 ∧ v177 ≤ 255 := qv177
              have ev177 : (w48) (x129_7) = v177 := (congrFun ((funext (hA_129 48 rfl)).trans ((funext (hA30 48 rfl)).trans ((funext (hA14 48 rfl)).trans ((funext (hA_26 48 rfl)).trans ((funext (hA_c21 48 rfl)).trans (ew48)))))) (x129_7)).symm.trans ev177
              have hdv : ((w48)) ((y129_6_22)) = (v177) := by rw [show (y129_6_22) = (x129_7) by omega]; exact ev177
              refine w_sI H (o := 61) (n := 16384) rfl (H.perm 61 rfl) rfl rfl (H.fix 61 rfl rfl) (show 0 ≤ y129_6_22 ∧ y129_6_22 < ((16384 : Nat) : Int) from q_2797 b38 h7 j129_3 r1 r37) (by decide) (show (0 : Int) ≤ v177 ∧ v177 ≤ 255 from qv177) (fun σ H => ?_)
              refine Ew_of (pcₚ := 155) (fun _ => x_aload_n rfl l129_0) ?_
              refine Ew_of (pcₚ := 156) (fun _ => x_dup rfl rfl) ?_
              refine w_gI H (o := 6) (w := y129_6_22) rfl (H.perm 6 rfl) rfl rfl rfl (fun _ => rfl) (ey129_6_22) ?_
              refine Ew_of (pcₚ := 160) (fun _ => x_iconst rfl) ?_
              refine w_iadd rfl ?_
              refine w_pI H (o := 6) rfl rfl (H.perm 6 rfl) rfl rfl rfl (fun _ => rfl) rfl (show (0 : Int) ≤ (y129_6_22 + 1) ∧ (y129_6_22 + 1) ≤ 16384 from q_2798 b38 h7 j129_3 r1 r37) (fun σ H => ?_)
              refine Ew_of (pcₚ := 167) (fun _ => x_iinc (len := 3) rfl (l129_7)) ?_
              refine Ew_of (pcₚ := 129) (fun _ => x_goto rfl rfl) ?_
              have : ∀ i, 0 ≤ i → i < ((x129_7 + 1)) → ((upd1 (w129_61) (y129_6_22) (v177))) i = ((w48)) i := fun i a b => by by_cases e : i = qd; (rw [e, hqd, upd1_s, hdv]); (rw [upd1_o (by rw [← hqd]; exact e)]; exact j129_c i a (by omega))
              exact ih129 _ (msE hm129 q_16 (q_17 b38)) _ σ _ _ ((x129_7 + 1)) (rk_o (l129_0) rfl rfl) (rk_o (l129_1) rfl rfl) (rk_o (l129_2) rfl rfl) (rk_o (l129_3) rfl rfl) (rk_o (l129_4) rfl rfl) (rk_o (l129_5) rfl rfl) (rk_s) H (SF_upd (hS_129) rfl) (SA_upd (hA_129) rfl) ((y129_6_22 + 1)) (rfl) (upd1 (w129_61) (y129_6_22) (v177)) (congrArg (fun q => upd1 q (y129_6_22) (v177)) (ew129_61)) (show inr ((x129_7 + 1)) from q_2800 j129_1 j129_3 r37) (show (0) ≤ ((x129_7 + 1)) from q_14 j129_1) (show ((x129_7 + 1)) ≤ (0) ∨ ((x129_7 + 1)) ≤ ((u6_4)) from q_13 b38) (show ((y129_6_22 + 1)) = ((x129_7 + 1)) from q_2799 j129_3) (show ∀ i, 0 ≤ i → i < ((x129_7 + 1)) → ((upd1 (w129_61) (y129_6_22) (v177))) i = ((w48)) i by assumption) rfl
        · have hO1 : OND (sc ((w48)) 0 ((u6_4)) ++ sc ((w14)) 0 ((a2))) ((u6_4) + (a1)) := ON_y hlen hAp (by omega) (by rcases hON with ⟨_, x, y⟩ | ⟨x, _⟩; (exact ⟨x, y⟩); (exfalso; omega))
          refine Ew_of (pcₚ := 78) (fun _ => x_aload_n rfl l26_0) ?_
          refine Ew_of (pcₚ := 80) (fun _ => x_iload rfl l26_4) ?_
          refine Ew_of (pcₚ := 82) (fun _ => x_iload rfl l26_5) ?_
          refine Ew_of (pcₚ := 83) (fun _ => x_iconst rfl) ?_
          refine Ew_of (pcₚ := 84) (fun _ => x_iload_n rfl l26_3) ?_
          refine w_inv H (o := 6) rfl rfl rfl (H.perm 6 rfl) rfl rfl (by rfl) (M448f H (u6_37) ((((hS_26 6 37 rfl).trans (hS_c21 6 37 rfl)).trans (eu6_37))) (w70) ((funext (hA_26 70 rfl)).trans ((funext (hA_c21 70 rfl)).trans (ew70))) (show inr (u6_37) from q_1984 r8) (show inr ((a2 - a1)) from q_2769 h1 h4) (show inr (1) from q_135) (show inr (a3) from h2) (show (a3) = 0 ∨ (a3) = 1 from h3) (show 0 ≤ (u6_37) ∧ (u6_37) ≤ 80000000 from q_2773 h5 r8) (show 0 ≤ ((a2 - a1)) ∧ ((a2 - a1)) ≤ 20000000 ∧ 0 ≤ (1) ∧ (1) ≤ 3 from q_2801 h4 r1) (show 0 ≤ (a3) ∧ (a3) ≤ 1 from q_2771 h10) (fun σ F178 A179 H hS180 hA181 y183 ey184 wq185 ewq186 pz182_0 pz182_1 pz182_2 pz182_3 => ⟨rfl, ?_⟩))
          have r187 : (0 : Int) ≤ y183 ∧ y183 ≤ 100000000 := rngE (show (0 : Int) ≤ F178 6 37 ∧ F178 6 37 ≤ 100000000 from H.frng 6 37) (show F178 6 37 = y183 from (ey184))
          have hfs87 : (y183) = (u6_37) + 3 := q_2774 pz182_0 pz182_3
          have hb100 := pz182_1
          rw [← hfs87] at hb100
          refine Ew_of (pcₚ := 88) (fun _ => x_aload_n rfl l26_0) ?_
          refine Ew_of (pcₚ := 89) (fun _ => x_aload_n rfl l26_0) ?_
          refine w_gT H (o := 6) (t := 1) rfl (H.perm 6 rfl) rfl rfl rfl rfl rfl rfl ?_
          refine w_gT H (o := 1) (t := 14) rfl (H.perm 1 rfl) rfl rfl rfl rfl rfl rfl ?_
          refine Ew_of (pcₚ := 96) (fun _ => x_iload_n rfl l26_1) ?_
          refine w_lI H (o := 14) (n := 65536) rfl (H.perm 14 rfl) rfl rfl (H.fix 14 rfl rfl) (show 0 ≤ a1 ∧ a1 < ((65536 : Nat) : Int) by omega) (by decide) (fun v188 ev188 qv188 => ?_)
          have qv188 : (0 : Int) ≤ v188 ∧ v188 ≤ 255 := qv188
          have ev188 : (w14) (a1) = v188 := (congrFun ((funext (hA181 14 rfl)).trans ((funext (hA_26 14 rfl)).trans ((funext (hA_c21 14 rfl)).trans (ew14)))) (a1)).symm.trans ev188
          have hv97 := ev188
          refine w_inv H (o := 6) rfl rfl rfl (H.perm 6 rfl) rfl rfl (by rfl) (M392g H (y183) ((ey184)) (wq185) (ewq186) (show inr (v188) from q_299 qv188) (show 0 ≤ (y183) ∧ (y183) ≤ 99999999 by omega) (fun σ F189 A190 H hS191 hA192 y194 ey195 wq196 ewq197 pz193_0 pz193_1 pz193_2 => ⟨rfl, ?_⟩))
          have r198 : (0 : Int) ≤ y194 ∧ y194 ≤ 100000000 := rngE (show (0 : Int) ≤ F189 6 37 ∧ F189 6 37 ≤ 100000000 from H.frng 6 37) (show F189 6 37 = y194 from (ey195))
          have hs100 := pz193_1
          rw [← hv97, u8_id (by have := hBi ((a1)); omega)] at hs100
          refine Ew_of (pcₚ := 101) (fun _ => x_aload_n rfl l26_0) ?_
          refine w_gT H (o := 6) (t := 87) rfl (H.perm 6 rfl) rfl rfl rfl rfl rfl rfl ?_
          refine Ew_of (pcₚ := 105) (fun _ => x_iconst rfl) ?_
          refine Ew_of (pcₚ := 106) (fun _ => x_dup2 rfl rfl rfl) ?_
          refine w_lI H (o := 87) (n := 12) rfl (H.perm 87 rfl) rfl rfl (H.fix 87 rfl rfl) (show 0 ≤ 1 ∧ 1 < ((12 : Nat) : Int) from q_2802) (by decide) (fun v199 ev199 qv199 => ?_)
          have qv199 : (-2147483648 : Int) ≤ v199 ∧ v199 ≤ 2147483647 := qv199
          have ev199 : (w87) (1) = v199 := (congrFun ((funext (hA192 87 rfl)).trans ((funext (hA181 87 rfl)).trans ((funext (hA_26 87 rfl)).trans ((funext (hA_c21 87 rfl)).trans (ew87))))) (1)).symm.trans ev199
          have hn107 := ev199
          refine Ew_of (pcₚ := 108) (fun _ => x_iconst rfl) ?_
          refine w_iaddE rfl ?_
          have g200 : inr (adI (v199) (1)) := toI_inr _
          refine w_sI H (o := 87) (n := 12) rfl (H.perm 87 rfl) rfl rfl (H.fix 87 rfl rfl) (show 0 ≤ 1 ∧ 1 < ((12 : Nat) : Int) from q_2802) (by decide) (show (-2147483648 : Int) ≤ (adI (v199) (1)) ∧ (adI (v199) (1)) ≤ 2147483647 from q_31 g200) (fun σ H => ?_)
          have : IMP (MDX ((w69)) ((u6_35))) (QAP 65536 ((w70)) ((u6_37)) ((wq196)) ((y194)) ((blF (sc ((w48)) 0 ((u6_4)) ++ sc ((w14)) 0 ((a2))) ((u6_24)) ((u6_2)) ((u6_1)) ((u6_4) + (a1)) ((a3)) st).1) ∧ STQ ((blF (sc ((w48)) 0 ((u6_4)) ++ sc ((w14)) 0 ((a2))) ((u6_24)) ((u6_2)) ((u6_1)) ((u6_4) + (a1)) ((a3)) st).2) ((u6_12)) ((w53)) ((w54)) ((w55)) ((w56)) ((upd1 (w87) (1) ((adI (v199) (1))))) ∧ MDX ((w69)) ((u6_35))) := fun q => by rw [blF_1 hO1]; refine ⟨?_, STQ_c hst rfl (fun _ _ _ => rfl) (fun _ _ _ => rfl) (fun j a b => by unfold c1U; rw [hn107]), q⟩; rw [hlen, hAp ((a1)) (by omega) (by omega), show 8 * ((u6_4) + (a2) - ((u6_4) + (a1))) + 2 + (a3) = 8 * ((a2 - a1)) + 2 * 1 + (a3) by omega]; exact QAP_trans hb100 hs100
          exact w_ret rfl (k σ _ _ H (SF_trans (SF_trans (SF_trans (SF_trans (SF_refl) hS_c21 (any_sub rfl)) hS_26 (any_sub rfl)) hS180 (any_sub rfl)) hS191 (any_sub rfl)) (SA_upd (SA_trans (SA_trans (SA_trans (SA_trans (SA_refl) hA_c21 (any_subA rfl)) hA_26 (any_subA rfl)) hA181 (any_subA rfl)) hA192 (any_subA rfl)) rfl) (u6_12) ((((((hS191 6 12 rfl).trans (hS180 6 12 rfl)).trans (hS_26 6 12 rfl)).trans (hS_c21 6 12 rfl)).trans (eu6_12))) (u6_35) ((((((hS191 6 35 rfl).trans (hS180 6 35 rfl)).trans (hS_26 6 35 rfl)).trans (hS_c21 6 35 rfl)).trans (eu6_35))) (y194) ((ey195)) (w53) ((funext (hA192 53 rfl)).trans ((funext (hA181 53 rfl)).trans ((funext (hA_26 53 rfl)).trans ((funext (hA_c21 53 rfl)).trans (ew53))))) (w54) ((funext (hA192 54 rfl)).trans ((funext (hA181 54 rfl)).trans ((funext (hA_26 54 rfl)).trans ((funext (hA_c21 54 rfl)).trans (ew54))))) (w55) ((funext (hA192 55 rfl)).trans ((funext (hA181 55 rfl)).trans ((funext (hA_26 55 rfl)).trans ((funext (hA_c21 55 rfl)).trans (ew55))))) (w56) ((funext (hA192 56 rfl)).trans ((funext (hA181 56 rfl)).trans ((funext (hA_26 56 rfl)).trans ((funext (hA_c21 56 rfl)).trans (ew56))))) (w69) ((funext (hA192 69 rfl)).trans ((funext (hA181 69 rfl)).trans ((funext (hA_26 69 rfl)).trans ((funext (hA_c21 69 rfl)).trans (ew69))))) (wq196) (ewq197) (upd1 (w87) (1) ((adI (v199) (1)))) (congrArg (fun q => upd1 q (1) ((adI (v199) (1)))) ((funext (hA192 87 rfl)).trans ((funext (hA181 87 rfl)).trans ((funext (hA_26 87 rfl)).trans ((funext (hA_c21 87 rfl)).trans (ew87)))))) (show (u6_37) ≤ (y194) ∧ (y194) ≤ (u6_37) + 4 + (a2 - a1) from q_2803 h4 hfs87 pz193_0) (h8) (show WO ((w54)) ((w55)) by assumption) (show 1 ≤ ((w56)) 0 ∧ 1 ≤ ((w56)) 1 ∧ 1 ≤ ((w56)) 2 from h11) (show IMP (MDX ((w69)) ((u6_35))) (QAP 65536 ((w70)) ((u6_37)) ((wq196)) ((y194)) ((blF (sc ((w48)) 0 ((u6_4)) ++ sc ((w14)) 0 (a2)) ((u6_24)) ((u6_2)) ((u6_1)) ((u6_4) + a1) (a3) st).1) ∧ STQ ((blF (sc ((w48)) 0 ((u6_4)) ++ sc ((w14)) 0 (a2)) ((u6_24)) ((u6_2)) ((u6_1)) ((u6_4) + a1) (a3) st).2) ((u6_12)) ((w53)) ((w54)) ((w55)) ((w56)) ((upd1 (w87) (1) ((adI (v199) (1))))) ∧ MDX ((w69)) ((u6_35))) by assumption))
      · have hc64 : ∀ (tc64_0 : Int), ∀ (ls : rO) (σ : rS) (F_c64 : hF) (A_c64 : hA) , rlook ls 0 = some (.ref (D 6)) → rlook ls 1 = some (I (a1)) → rlook ls 2 = some (I (a2)) → rlook ls 3 = some (I (a3)) → rlook ls 4 = some (I (u6_37)) → rlook ls 5 = some (I ((a2 - a1))) → rlook ls 7 = some (I (x26_7)) → HS σ0 σ D N F_c64 A_c64 → SF [] F_26 F_c64 → SA [] A_26 A_c64 → (inr (tc64_0)) → (((x26_6) = 1 ∧ ((w14)) (x26_7) = ((w14)) (a1) ∧ (tc64_0) = 1 ∨ ((x26_6) = 0 ∨ ((w14)) (x26_7) ≠ ((w14)) (a1)) ∧ (tc64_0) = 0)) → Ew 449 (d + 7) 64 ls [I (tc64_0)] σ c s Q := by
         as_aux_lemma =>
          intro tc64_0 ls σ F_c64 A_c64  lc64_0 lc64_1 lc64_2 lc64_3 lc64_4 lc64_5 lc64_7 H hS_c64 hA_c64   jc64_0 jc64_1
          refine Ew_of (pcₚ := 66) (fun _ => x_istore rfl) ?_
          refine Ew_of (pcₚ := 69) (fun _ => x_iinc (len := 3) rfl (rk_o (lc64_7) rfl rfl)) ?_
          refine Ew_of (pcₚ := 26) (fun _ => x_goto rfl rfl) ?_
          have : ONQ ((w14)) ((a1)) (((x26_7 + 1))) ((a2)) ((tc64_0)) := ONQ_s j26_o (by omega) rfl (by omega)
          exact ih26 _ (msE hm26 q_16 (q_17 b9)) _ σ _ _ (tc64_0) ((x26_7 + 1)) (rk_o (rk_o (lc64_0) rfl rfl) rfl rfl) (rk_o (rk_o (lc64_1) rfl rfl) rfl rfl) (rk_o (rk_o (lc64_2) rfl rfl) rfl rfl) (rk_o (rk_o (lc64_3) rfl rfl) rfl rfl) (rk_o (rk_o (lc64_4) rfl rfl) rfl rfl) (rk_o (rk_o (lc64_5) rfl rfl) rfl rfl) (rk_o (rk_s) rfl rfl) (rk_s) H (SF_trans (hS_26) hS_c64 (any_sub rfl)) (SA_trans (hA_26) hA_c64 (any_subA rfl))   (show inr (tc64_0) from jc64_0) (show inr ((x26_7 + 1)) from q_2780 b9 h4 j26_1 r1) (show (a1) ≤ ((x26_7 + 1)) ∧ ((x26_7 + 1)) ≤ (a2) from q_1503 b9 j26_2) (show (tc64_0) = 0 ∨ (tc64_0) = 1 ∧ (a1) < (a2) by omega) (show ONQ ((w14)) ((a1)) (((x26_7 + 1))) ((a2)) ((tc64_0)) by assumption) rfl
        refine Ew_of (pcₚ := 34) (fun _ => x_iload rfl l26_6) ?_
        refine w_ifeq (t := 63) rfl rfl (show inr (x26_6) from j26_0) (fun b201 => ?_) (fun b201 => ?_)
        · refine Ew_of (pcₚ := 64) (fun _ => x_iconst rfl) ?_
          exact hc64 (0) _ σ _ _  (l26_0) (l26_1) (l26_2) (l26_3) (l26_4) (l26_5) (l26_7) H (SF_refl) (SA_refl)   (show inr (0) from q_2) (show ((x26_6) = 1 ∧ ((w14)) (x26_7) = ((w14)) (a1) ∧ (0) = 1 ∨ ((x26_6) = 0 ∨ ((w14)) (x26_7) ≠ ((w14)) (a1)) ∧ (0) = 0) from q_2804 b201)
        · refine Ew_of (pcₚ := 38) (fun _ => x_aload_n rfl l26_0) ?_
          refine w_gT H (o := 6) (t := 1) rfl (H.perm 6 rfl) rfl rfl rfl rfl rfl rfl ?_
          refine w_gT H (o := 1) (t := 14) rfl (H.perm 1 rfl) rfl rfl rfl rfl rfl rfl ?_
          refine Ew_of (pcₚ := 46) (fun _ => x_iload rfl l26_7) ?_
          refine w_lI H (o := 14) (n := 65536) rfl (H.perm 14 rfl) rfl rfl (H.fix 14 rfl rfl) (show 0 ≤ x26_7 ∧ x26_7 < ((65536 : Nat) : Int) from q_2778 b9 h4 j26_2 r1) (by decide) (fun v202 ev202 qv202 => ?_)
          have qv202 : (0 : Int) ≤ v202 ∧ v202 ≤ 255 := qv202
          have ev202 : (w14) (x26_7) = v202 := (congrFun ((funext (hA_26 14 rfl)).trans ((funext (hA_c21 14 rfl)).trans (ew14))) (x26_7)).symm.trans ev202
          refine Ew_of (pcₚ := 48) (fun _ => x_aload_n rfl l26_0) ?_
          refine w_gT H (o := 6) (t := 1) rfl (H.perm 6 rfl) rfl rfl rfl rfl rfl rfl ?_
          refine w_gT H (o := 1) (t := 14) rfl (H.perm 1 rfl) rfl rfl rfl rfl rfl rfl ?_
          refine Ew_of (pcₚ := 55) (fun _ => x_iload_n rfl l26_1) ?_
          refine w_lI H (o := 14) (n := 65536) rfl (H.perm 14 rfl) rfl rfl (H.fix 14 rfl rfl) (show 0 ≤ a1 ∧ a1 < ((65536 : Nat) : Int) by omega) (by decide) (fun v203 ev203 qv203 => ?_)
          have qv203 : (0 : Int) ≤ v203 ∧ v203 ≤ 255 := qv203
          have ev203 : (w14) (a1) = v203 := (congrFun ((funext (hA_26 14 rfl)).trans ((funext (hA_c21 14 rfl)).trans (ew14))) (a1)).symm.trans ev203
          refine w_icmpne (t := 63) rfl rfl (show inr (v202) from q_299 qv202) (show inr (v203) from q_299 qv203) (fun b204 => ?_) (fun b204 => ?_)
          · refine Ew_of (pcₚ := 64) (fun _ => x_iconst rfl) ?_
            exact hc64 (0) _ σ _ _  (l26_0) (l26_1) (l26_2) (l26_3) (l26_4) (l26_5) (l26_7) H (SF_refl) (SA_refl)   (show inr (0) from q_2) (show ((x26_6) = 1 ∧ ((w14)) (x26_7) = ((w14)) (a1) ∧ (0) = 1 ∨ ((x26_6) = 0 ∨ ((w14)) (x26_7) ≠ ((w14)) (a1)) ∧ (0) = 0) by omega)
          · refine Ew_of (pcₚ := 60) (fun _ => x_iconst rfl) ?_
            refine Ew_of (pcₚ := 64) (fun _ => x_goto rfl rfl) ?_
            exact hc64 (1) _ σ _ _  (l26_0) (l26_1) (l26_2) (l26_3) (l26_4) (l26_5) (l26_7) H (SF_refl) (SA_refl)   (show inr (1) from q_135) (show ((x26_6) = 1 ∧ ((w14)) (x26_7) = ((w14)) (a1) ∧ (1) = 1 ∨ ((x26_6) = 0 ∨ ((w14)) (x26_7) ≠ ((w14)) (a1)) ∧ (1) = 0) by omega)
  refine Ew_of (pcₚ := 13) (fun _ => x_iload rfl rk_s) ?_
  refine w_ifle (t := 20) rfl rfl (show inr ((a2 - a1)) from q_2769 h1 h4) (fun b205 => ?_) (fun b205 => ?_)
  · refine Ew_of (pcₚ := 21) (fun _ => x_iconst rfl) ?_
    exact hc21 (0) _ σ _ _  (rk_o (rk_o (rfl) rfl rfl) rfl rfl) (rk_o (rk_o (rfl) rfl rfl) rfl rfl) (rk_o (rk_o (rfl) rfl rfl) rfl rfl) (rk_o (rk_o (rfl) rfl rfl) rfl rfl) (rk_o (rk_s) rfl rfl) (rk_s) H (SF_refl) (SA_refl)   (show inr (0) from q_2) (show 0 < ((a2 - a1)) ∧ (0) = 1 ∨ ((a2 - a1)) ≤ 0 ∧ (0) = 0 from q_2805 b205)
  · refine Ew_of (pcₚ := 17) (fun _ => x_iconst rfl) ?_
    refine Ew_of (pcₚ := 21) (fun _ => x_goto rfl rfl) ?_
    exact hc21 (1) _ σ _ _  (rk_o (rk_o (rfl) rfl rfl) rfl rfl) (rk_o (rk_o (rfl) rfl rfl) rfl rfl) (rk_o (rk_o (rfl) rfl rfl) rfl rfl) (rk_o (rk_o (rfl) rfl rfl) rfl rfl) (rk_o (rk_s) rfl rfl) (rk_s) H (SF_refl) (SA_refl)   (show inr (1) from q_135) (show 0 < ((a2 - a1)) ∧ (1) = 1 ∨ ((a2 - a1)) ≤ 0 ∧ (1) = 0 from q_2806 b205)


end
section
/-! 94f.ref -/
theorem M447f {σ0 σ : rS} {D N : Nat → Nat} {F : hF} {A : hA} {d c s : Nat} {Q : wQ} (H : HS σ0 σ D N F A)  (u6_6 : Int) (eu6_6 : F 6 6 = u6_6) (w49 : Int → Int) (ew49 : A 49 = w49) (w50 : Int → Int) (ew50 : A 50 = w50) (w51 : Int → Int) (ew51 : A 51 = w51) (w52 : Int → Int) (ew52 : A 52 = w52) (w87 : Int → Int) (ew87 : A 87 = w87) (h0 : DW ((u6_6)) ((w49)) ((w50)) ((w51))) (h1 : (u6_6) = 0 ∨ 1 ≤ ((w52)) 0 ∧ 1 ≤ ((w52)) 1 ∧ 1 ≤ ((w52)) 2) (k : ∀ σ Fₚ Aₚ, HS σ0 σ D N Fₚ Aₚ → SF [(6, 12)] F Fₚ → SA [53, 54, 55, 56] A Aₚ → ∀ y6_12 : Int, Fₚ 6 12 = y6_12 → ∀ v53 : Int → Int, Aₚ 53 = v53 → ∀ v54 : Int → Int, Aₚ 54 = v54 → ∀ v55 : Int → Int, Aₚ 55 = v55 → ∀ v56 : Int → Int, Aₚ 56 = v56 → (WC ((y6_12)) ((v53))) → (WO ((v54)) ((v55))) → (1 ≤ ((v56)) 0 ∧ 1 ≤ ((v56)) 1 ∧ 1 ≤ ((v56)) 2) → (STQ (bgS ((u6_6)) ((w49)) ((w50)) ((w51)) ((w52)) ((w87))) ((y6_12)) ((v53)) ((v54)) ((v55)) ((v56)) ((w87))) → Q none σ c s) : Ew 447 (d + 0) 0 (rargs 0 [.ref (D 6)]) [] σ c s Q := by
  have r1 : (0 : Int) ≤ u6_6 ∧ u6_6 ≤ 1 := rngE (show (0 : Int) ≤ F 6 6 ∧ F 6 6 ≤ 1 from H.frng 6 6) (show F 6 6 = u6_6 from (eu6_6))
  refine Ew_of (pcₚ := 1) (fun _ => x_aload_n rfl rfl) ?_
  refine Ew_of (pcₚ := 2) (fun _ => x_iconst rfl) ?_
  refine w_pI H (o := 6) rfl rfl (H.perm 6 rfl) rfl rfl rfl (fun _ => rfl) rfl (show (0 : Int) ≤ 0 ∧ 0 ≤ 11 from q_1458) (fun σ H => ?_)
  refine Ew_of (pcₚ := 6) (fun _ => x_iconst rfl) ?_
  refine Ew_of (pcₚ := 7) (fun _ => x_istore_n rfl) ?_
  have : ∀ t, (0 : Int) ≤ t → t < 0 → ((A 55)) t < 0 := fun t a b => absurd b (by omega)
  have : ∀ t, 0 ≤ t → t < 0 → ((A 56)) t = if t = 0 then 1 else 4 * t := fun t a b => absurd b (by omega)
  have : ∀ t, 0 ≤ t → t < 0 → ((A 55)) t = -1 := fun t a b => absurd b (by omega)
  suffices hl7 : ∀ (m : Nat), ∀ (ls : rO) (σ : rS) (F_7 : hF) (A_7 : hA) (x7_1 : Int), rlook ls 0 = some (.ref (D 6)) → rlook ls 1 = some (I (x7_1)) → HS σ0 σ D N F_7 A_7 → SF [] (updF F 6 12 (0)) F_7 → SA [55, 56] A A_7 → ∀ w7_55 : Int → Int, A_7 55 = w7_55 → ∀ w7_56 : Int → Int, A_7 56 = w7_56 → (inr (x7_1)) → ((0) ≤ (x7_1)) → ((x7_1) ≤ (0) ∨ (x7_1) ≤ (3)) → (∀ t, 0 ≤ t → t < (x7_1) → ((w7_55)) t < 0) → (∀ t, 0 ≤ t → t < (x7_1) → ((w7_56)) t = if t = 0 then 1 else 4 * t) → (∀ t, 0 ≤ t → t < (x7_1) → ((w7_55)) t = -1) → ((3) - (x7_1)).toNat = m → Ew 447 (d + 0) 7 ls [] σ c s Q from
    hl7 _ _ σ _ _ (0) (rk_o (rfl) rfl rfl) (rk_s) H (SF_refl) (SA_refl)  (A 55) (rfl) (A 56) (rfl) (show inr (0) from q_2) (show (0) ≤ (0) from q_1) (show (0) ≤ (0) ∨ (0) ≤ (3) from q_1793) (show ∀ t, 0 ≤ t → t < (0) → ((A 55)) t < 0 by assumption) (show ∀ t, 0 ≤ t → t < (0) → ((A 56)) t = if t = 0 then 1 else 4 * t by assumption) (show ∀ t, 0 ≤ t → t < (0) → ((A 55)) t = -1 by assumption) rfl
  as_aux_lemma =>
  intro m
  induction m using Nat.strongRecOn with
  | _ m ih7 =>
    intro ls σ F_7 A_7 x7_1 l7_0 l7_1 H hS_7 hA_7  w7_55 ew7_55 w7_56 ew7_56 j7_0 j7_1 j7_2 j7_3 j7_4 j7_5 hm7
    have j7_l : ∀ t, 0 ≤ t → t < (x7_1) → ((w7_56)) t = if t = 0 then 1 else 4 * t := by assumption
    have j7_o : ∀ t, 0 ≤ t → t < (x7_1) → ((w7_55)) t = -1 := by assumption
    obtain ⟨qd, hqd⟩ : ∃ q : Int, q = (x7_1) := ⟨_, rfl⟩
    refine Ew_of (pcₚ := 8) (fun _ => x_iload_n rfl l7_1) ?_
    refine Ew_of (pcₚ := 9) (fun _ => x_iconst rfl) ?_
    refine w_icmpge (t := 42) rfl rfl (show inr (x7_1) from j7_0) (show inr (3) from q_246) (fun b2 => ?_) (fun b2 => ?_)
    · have : WO ((A 54)) ((w7_55)) := fun t a b => .inl (by have := j7_3 t a (by omega); omega)
      have : WC 0 ((A 53)) := .inl rfl
      have hl40 := j7_l 0 (by omega) (by omega)
      have hl41 := j7_l 1 (by omega) (by omega)
      have hl42 := j7_l 2 (by omega) (by omega)
      rw [if_pos rfl] at hl40
      rw [if_neg (by decide)] at hl41 hl42
      refine Ew_of (pcₚ := 43) (fun _ => x_aload_n rfl l7_0) ?_
      refine w_gI H (o := 6) (w := u6_6) rfl (H.perm 6 rfl) rfl rfl rfl (fun _ => rfl) ((hS_7 6 6 rfl).trans (eu6_6)) ?_
      refine w_ifne (t := 50) rfl rfl (show inr (u6_6) from q_1794 r1) (fun b3 => ?_) (fun b3 => ?_)
      · refine Ew_of (pcₚ := 51) (fun _ => x_iconst rfl) ?_
        refine Ew_of (pcₚ := 52) (fun _ => x_istore_n rfl) ?_
        have hdi : DW ((u6_6)) ((w49)) ((w50)) ((w51)) := h0
        have hdi := hdi (by omega)
        obtain ⟨⟨T, hT⟩, hPS⟩ := hdi
        have : ∀ i, (0 : Int) ≤ i → i < 0 → ((A 53)) i = ((w49)) i := fun i a b => absurd b (by omega)
        have : ∀ i, (0 : Int) ≤ i → i < 0 → ((w49)) i ≤ 0 := fun i a b => absurd b (by omega)
        have hT0 := hT.1
        have : (0 : Int) = mxN ((w49)) (0 : Int).toNat := rfl
        suffices hl52 : ∀ (m : Nat), ∀ (ls : rO) (σ : rS) (F_52 : hF) (A_52 : hA) (x52_1 : Int), rlook ls 0 = some (.ref (D 6)) → rlook ls 1 = some (I (x52_1)) → HS σ0 σ D N F_52 A_52 → SF [(6, 12)] F_7 F_52 → SA [53] A_7 A_52 → ∀ y52_6_12 : Int, F_52 6 12 = y52_6_12 → ∀ w52_53 : Int → Int, A_52 53 = w52_53 → (inr (x52_1)) → ((0) ≤ (x52_1)) → ((x52_1) ≤ (0) ∨ (x52_1) ≤ ((256))) → (∀ i, 0 ≤ i → i < (x52_1) → ((w52_53)) i = ((w49)) i) → (∀ i, 0 ≤ i → i < (x52_1) → ((w49)) i ≤ (y52_6_12)) → ((y52_6_12) ≤ T) → ((y52_6_12) = mxN ((w49)) ((x52_1) : Int).toNat) → (((256)) - (x52_1)).toNat = m → Ew 447 (d + 0) 52 ls [] σ c s Q from
          hl52 _ _ σ _ _ (0) (rk_o (l7_0) rfl rfl) (rk_s) H (SF_refl) (SA_refl) (0) ((hS_7 6 12 rfl)) (A 53) (funext (hA_7 53 rfl)) (show inr (0) from q_2) (show (0) ≤ (0) from q_1) (show (0) ≤ (0) ∨ (0) ≤ ((256)) from q_0) (show ∀ i, 0 ≤ i → i < (0) → ((A 53)) i = ((w49)) i by assumption) (show ∀ i, 0 ≤ i → i < (0) → ((w49)) i ≤ (0) by assumption) (show (0) ≤ T by omega) (show (0) = mxN ((w49)) ((0) : Int).toNat by assumption) rfl
        as_aux_lemma =>
        intro m
        induction m using Nat.strongRecOn with
        | _ m ih52 =>
          intro ls σ F_52 A_52 x52_1 l52_0 l52_1 H hS_52 hA_52 y52_6_12 ey52_6_12 w52_53 ew52_53 j52_0 j52_1 j52_2 j52_3 j52_4 j52_5 j52_6 hm52
          have r4 : (0 : Int) ≤ y52_6_12 ∧ y52_6_12 ≤ 11 := rngE (show (0 : Int) ≤ F_52 6 12 ∧ F_52 6 12 ≤ 11 from H.frng 6 12) (show F_52 6 12 = y52_6_12 from (ey52_6_12))
          have j52_t : (y52_6_12) = mxN ((w49)) ((x52_1) : Int).toNat := by assumption
          obtain ⟨qe, hqe⟩ : ∃ q : Int, q = (x52_1) := ⟨_, rfl⟩
          refine Ew_of (pcₚ := 53) (fun _ => x_iload_n rfl l52_1) ?_
          refine Ew_of (pcₚ := 56) (fun _ => x_sipush (z := 256) rfl (by decide)) ?_
          refine w_icmpge (t := 107) rfl rfl (show inr (x52_1) from j52_0) (show inr (256) from q_3) (fun b5 => ?_) (fun b5 => ?_)
          · have htt : (y52_6_12) = T := by obtain ⟨i, a, b, c⟩ := hT.2.2.2.2; have := j52_4 i a (by omega); omega
            have : WC ((y52_6_12)) ((w52_53)) := .inr (by rw [htt]; exact CI_congr hT (fun i a b => j52_3 i a (by omega)))
            have htop : (y52_6_12) = mxN ((w49)) 256 := by have h := j52_t; rw [show (x52_1) = (256 : Int) by omega] at h; exact h
            refine Ew_of (pcₚ := 108) (fun _ => x_iconst rfl) ?_
            refine Ew_of (pcₚ := 109) (fun _ => x_istore_n rfl) ?_
            have : ∀ i, (0 : Int) ≤ i → i < 0 → ((A 54)) i = ((w50)) i := fun i a b => absurd b (by omega)
            suffices hl109 : ∀ (m : Nat), ∀ (ls : rO) (σ : rS) (F_109 : hF) (A_109 : hA) (x109_1 : Int), rlook ls 0 = some (.ref (D 6)) → rlook ls 1 = some (I (x109_1)) → HS σ0 σ D N F_109 A_109 → SF [] F_52 F_109 → SA [54] A_52 A_109 → ∀ w109_54 : Int → Int, A_109 54 = w109_54 → (inr (x109_1)) → ((0) ≤ (x109_1)) → ((x109_1) ≤ (0) ∨ (x109_1) ≤ ((192))) → (∀ i, 0 ≤ i → i < (x109_1) → ((w109_54)) i = ((w50)) i) → (((192)) - (x109_1)).toNat = m → Ew 447 (d + 0) 109 ls [] σ c s Q from
              hl109 _ _ σ _ _ (0) (rk_o (l52_0) rfl rfl) (rk_s) H (SF_refl) (SA_refl)  (A 54) ((funext (hA_52 54 rfl)).trans (funext (hA_7 54 rfl))) (show inr (0) from q_2) (show (0) ≤ (0) from q_1) (show (0) ≤ (0) ∨ (0) ≤ ((192)) from q_1795) (show ∀ i, 0 ≤ i → i < (0) → ((A 54)) i = ((w50)) i by assumption) rfl
            as_aux_lemma =>
            intro m
            induction m using Nat.strongRecOn with
            | _ m ih109 =>
              intro ls σ F_109 A_109 x109_1 l109_0 l109_1 H hS_109 hA_109  w109_54 ew109_54 j109_0 j109_1 j109_2 j109_3 hm109
              refine Ew_of (pcₚ := 110) (fun _ => x_iload_n rfl l109_1) ?_
              refine Ew_of (pcₚ := 113) (fun _ => x_sipush (z := 192) rfl (by decide)) ?_
              refine w_icmpge (t := 134) rfl rfl (show inr (x109_1) from j109_0) (show inr (192) from q_1796) (fun b6 => ?_) (fun b6 => ?_)
              · refine Ew_of (pcₚ := 135) (fun _ => x_iconst rfl) ?_
                refine Ew_of (pcₚ := 136) (fun _ => x_istore_n rfl) ?_
                have : ∀ i, (0 : Int) ≤ i → i < 0 → ((w7_55)) i = ((w51)) i := fun i a b => absurd b (by omega)
                have : ∀ i, (0 : Int) ≤ i → i < 0 → ((w7_56)) i = ((w52)) i := fun i a b => absurd b (by omega)
                suffices hl136 : ∀ (m : Nat), ∀ (ls : rO) (σ : rS) (F_136 : hF) (A_136 : hA) (x136_1 : Int), rlook ls 0 = some (.ref (D 6)) → rlook ls 1 = some (I (x136_1)) → HS σ0 σ D N F_136 A_136 → SF [] F_109 F_136 → SA [55, 56] A_109 A_136 → ∀ w136_55 : Int → Int, A_136 55 = w136_55 → ∀ w136_56 : Int → Int, A_136 56 = w136_56 → (inr (x136_1)) → ((0) ≤ (x136_1)) → ((x136_1) ≤ (0) ∨ (x136_1) ≤ (3)) → (∀ i, 0 ≤ i → i < (x136_1) → ((w136_55)) i = ((w51)) i) → (∀ i, 0 ≤ i → i < (x136_1) → ((w136_56)) i = ((w52)) i) → ((3) - (x136_1)).toNat = m → Ew 447 (d + 0) 136 ls [] σ c s Q from
                  hl136 _ _ σ _ _ (0) (rk_o (l109_0) rfl rfl) (rk_s) H (SF_refl) (SA_refl)  (w7_55) ((funext (hA_109 55 rfl)).trans ((funext (hA_52 55 rfl)).trans (ew7_55))) (w7_56) ((funext (hA_109 56 rfl)).trans ((funext (hA_52 56 rfl)).trans (ew7_56))) (show inr (0) from q_2) (show (0) ≤ (0) from q_1) (show (0) ≤ (0) ∨ (0) ≤ (3) from q_1793) (show ∀ i, 0 ≤ i → i < (0) → ((w7_55)) i = ((w51)) i by assumption) (show ∀ i, 0 ≤ i → i < (0) → ((w7_56)) i = ((w52)) i by assumption) rfl
                as_aux_lemma =>
                intro m
                induction m using Nat.strongRecOn with
                | _ m ih136 =>
                  intro ls σ F_136 A_136 x136_1 l136_0 l136_1 H hS_136 hA_136  w136_55 ew136_55 w136_56 ew136_56 j136_0 j136_1 j136_2 j136_3 j136_4 hm136
                  refine Ew_of (pcₚ := 137) (fun _ => x_iload_n rfl l136_1) ?_
                  refine Ew_of (pcₚ := 138) (fun _ => x_iconst rfl) ?_
                  refine w_icmpge (t := 171) rfl rfl (show inr (x136_1) from j136_0) (show inr (3) from q_246) (fun b7 => ?_) (fun b7 => ?_)
                  · have : WO ((w109_54)) ((w136_55)) := fun t a b => .inr (PS_congr (hPS t a b) ⟨a, b⟩ (fun i c e => j109_3 i c (by omega)) (j136_3 t a (by omega)))
                    have hla0 := j136_4 0 (by omega) (by omega)
                    have hla1 := j136_4 1 (by omega) (by omega)
                    have hla2 := j136_4 2 (by omega) (by omega)
                    have : STQ (bgS ((u6_6)) ((w49)) ((w50)) ((w51)) ((w52)) ((w87))) ((y52_6_12)) ((w52_53)) ((w109_54)) ((w136_55)) ((w136_56)) ((w87)) := bgS_1 (by omega) htop (fun i a b => j52_3 i a (by omega)) (fun i a b => j109_3 i a (by omega)) (fun i a b => j136_3 i a (by omega)) (fun i a b => j136_4 i a (by omega))
                    exact w_ret rfl (k σ _ _ H (SF_trans (SF_trans (SF_trans (SF_trans (SF_upd (SF_refl) rfl) hS_7 (any_sub rfl)) hS_52 (any_sub rfl)) hS_109 (any_sub rfl)) hS_136 (any_sub rfl)) (SA_trans (SA_trans (SA_trans (SA_trans (SA_refl) hA_7 (any_subA rfl)) hA_52 (any_subA rfl)) hA_109 (any_subA rfl)) hA_136 (any_subA rfl)) (y52_6_12) ((((hS_136 6 12 rfl).trans (hS_109 6 12 rfl)).trans (ey52_6_12))) (w52_53) ((funext (hA_136 53 rfl)).trans ((funext (hA_109 53 rfl)).trans (ew52_53))) (w109_54) ((funext (hA_136 54 rfl)).trans (ew109_54)) (w136_55) (ew136_55) (w136_56) (ew136_56) (show WC ((y52_6_12)) ((w52_53)) by assumption) (show WO ((w109_54)) ((w136_55)) by assumption) (show 1 ≤ ((w136_56)) 0 ∧ 1 ≤ ((w136_56)) 1 ∧ 1 ≤ ((w136_56)) 2 by omega) (show STQ (bgS ((u6_6)) ((w49)) ((w50)) ((w51)) ((w52)) ((w87))) ((y52_6_12)) ((w52_53)) ((w109_54)) ((w136_55)) ((w136_56)) ((w87)) by assumption))
                  · refine Ew_of (pcₚ := 142) (fun _ => x_aload_n rfl l136_0) ?_
                    refine w_gT H (o := 6) (t := 55) rfl (H.perm 6 rfl) rfl rfl rfl rfl rfl rfl ?_
                    refine Ew_of (pcₚ := 146) (fun _ => x_iload_n rfl l136_1) ?_
                    refine Ew_of (pcₚ := 147) (fun _ => x_aload_n rfl l136_0) ?_
                    refine w_gT H (o := 6) (t := 51) rfl (H.perm 6 rfl) rfl rfl rfl rfl rfl rfl ?_
                    refine Ew_of (pcₚ := 151) (fun _ => x_iload_n rfl l136_1) ?_
                    refine w_lI H (o := 51) (n := 3) rfl (H.perm 51 rfl) rfl rfl (H.fix 51 rfl rfl) (show 0 ≤ x136_1 ∧ x136_1 < ((3 : Nat) : Int) from q_1801 b7 j136_1) (by decide) (fun v8 ev8 qv8 => ?_)
                    have qv8 : (-1 : Int) ≤ v8 ∧ v8 ≤ 9 := qv8
                    have ev8 : (w51) (x136_1) = v8 := (congrFun ((funext (hA_136 51 rfl)).trans ((funext (hA_109 51 rfl)).trans ((funext (hA_52 51 rfl)).trans ((funext (hA_7 51 rfl)).trans (ew51))))) (x136_1)).symm.trans ev8
                    refine w_sI H (o := 55) (n := 3) rfl (H.perm 55 rfl) rfl rfl (H.fix 55 rfl rfl) (show 0 ≤ x136_1 ∧ x136_1 < ((3 : Nat) : Int) from q_1801 b7 j136_1) (by decide) (show (-1 : Int) ≤ v8 ∧ v8 ≤ 9 from qv8) (fun σ H => ?_)
                    refine Ew_of (pcₚ := 154) (fun _ => x_aload_n rfl l136_0) ?_
                    refine w_gT H (o := 6) (t := 56) rfl (H.perm 6 rfl) rfl rfl rfl rfl rfl rfl ?_
                    refine Ew_of (pcₚ := 158) (fun _ => x_iload_n rfl l136_1) ?_
                    refine Ew_of (pcₚ := 159) (fun _ => x_aload_n rfl l136_0) ?_
                    refine w_gT H (o := 6) (t := 52) rfl (H.perm 6 rfl) rfl rfl rfl rfl rfl rfl ?_
                    refine Ew_of (pcₚ := 163) (fun _ => x_iload_n rfl l136_1) ?_
                    refine w_lI H (o := 52) (n := 3) rfl (H.perm 52 rfl) rfl rfl (H.fix 52 rfl rfl) (show 0 ≤ x136_1 ∧ x136_1 < ((3 : Nat) : Int) from q_1801 b7 j136_1) (by decide) (fun v9 ev9 qv9 => ?_)
                    have qv9 : (-2147483648 : Int) ≤ v9 ∧ v9 ≤ 2147483647 := qv9
                    have ev9 : (w52) (x136_1) = v9 := (congrFun ((funext (hA_136 52 rfl)).trans ((funext (hA_109 52 rfl)).trans ((funext (hA_52 52 rfl)).trans ((funext (hA_7 52 rfl)).trans (ew52))))) (x136_1)).symm.trans ev9
                    refine w_sI H (o := 56) (n := 3) rfl (H.perm 56 rfl) rfl rfl (H.fix 56 rfl rfl) (show 0 ≤ x136_1 ∧ x136_1 < ((3 : Nat) : Int) from q_1801 b7 j136_1) (by decide) (show (-2147483648 : Int) ≤ v9 ∧ v9 ≤ 2147483647 from qv9) (fun σ H => ?_)
                    refine Ew_of (pcₚ := 168) (fun _ => x_iinc (len := 3) rfl (l136_1)) ?_
                    refine Ew_of (pcₚ := 136) (fun _ => x_goto rfl rfl) ?_
                    have : ∀ i, (0 : Int) ≤ i → i < ((x136_1 + 1)) → ((upd1 (w136_55) (x136_1) (v8))) i = ((w51)) i := pt_copy j136_3 (by omega)
                    have : ∀ i, (0 : Int) ≤ i → i < ((x136_1 + 1)) → ((upd1 (w136_56) (x136_1) (v9))) i = ((w52)) i := pt_copy j136_4 (by omega)
                    exact ih136 _ (msE hm136 q_813 (q_814 b7)) _ σ _ _ ((x136_1 + 1)) (rk_o (l136_0) rfl rfl) (rk_s) H (hS_136) (SA_upd (SA_upd (hA_136) rfl) rfl)  (upd1 (w136_55) (x136_1) (v8)) (congrArg (fun q => upd1 q (x136_1) (v8)) (ew136_55)) (upd1 (w136_56) (x136_1) (v9)) (congrArg (fun q => upd1 q (x136_1) (v9)) (ew136_56)) (show inr ((x136_1 + 1)) from q_1804 b7 j136_1) (show (0) ≤ ((x136_1 + 1)) from q_14 j136_1) (show ((x136_1 + 1)) ≤ (0) ∨ ((x136_1 + 1)) ≤ (3) from q_1803 b7) (show ∀ i, 0 ≤ i → i < ((x136_1 + 1)) → ((upd1 (w136_55) (x136_1) (v8))) i = ((w51)) i by assumption) (show ∀ i, 0 ≤ i → i < ((x136_1 + 1)) → ((upd1 (w136_56) (x136_1) (v9))) i = ((w52)) i by assumption) rfl
              · refine Ew_of (pcₚ := 117) (fun _ => x_aload_n rfl l109_0) ?_
                refine w_gT H (o := 6) (t := 54) rfl (H.perm 6 rfl) rfl rfl rfl rfl rfl rfl ?_
                refine Ew_of (pcₚ := 121) (fun _ => x_iload_n rfl l109_1) ?_
                refine Ew_of (pcₚ := 122) (fun _ => x_aload_n rfl l109_0) ?_
                refine w_gT H (o := 6) (t := 50) rfl (H.perm 6 rfl) rfl rfl rfl rfl rfl rfl ?_
                refine Ew_of (pcₚ := 126) (fun _ => x_iload_n rfl l109_1) ?_
                refine w_lI H (o := 50) (n := 192) rfl (H.perm 50 rfl) rfl rfl (H.fix 50 rfl rfl) (show 0 ≤ x109_1 ∧ x109_1 < ((192 : Nat) : Int) from q_1805 b6 j109_1) (by decide) (fun v10 ev10 qv10 => ?_)
                have qv10 : (-1 : Int) ≤ v10 ∧ v10 ≤ 512 := qv10
                have ev10 : (w50) (x109_1) = v10 := (congrFun ((funext (hA_109 50 rfl)).trans ((funext (hA_52 50 rfl)).trans ((funext (hA_7 50 rfl)).trans (ew50)))) (x109_1)).symm.trans ev10
                refine w_sI H (o := 54) (n := 192) rfl (H.perm 54 rfl) rfl rfl (H.fix 54 rfl rfl) (show 0 ≤ x109_1 ∧ x109_1 < ((192 : Nat) : Int) from q_1805 b6 j109_1) (by decide) (show (-1 : Int) ≤ v10 ∧ v10 ≤ 512 from qv10) (fun σ H => ?_)
                refine Ew_of (pcₚ := 131) (fun _ => x_iinc (len := 3) rfl (l109_1)) ?_
                refine Ew_of (pcₚ := 109) (fun _ => x_goto rfl rfl) ?_
                have : ∀ i, (0 : Int) ≤ i → i < ((x109_1 + 1)) → ((upd1 (w109_54) (x109_1) (v10))) i = ((w50)) i := pt_copy j109_3 (by omega)
                exact ih109 _ (msE hm109 q_1808 (q_1809 b6)) _ σ _ _ ((x109_1 + 1)) (rk_o (l109_0) rfl rfl) (rk_s) H (hS_109) (SA_upd (hA_109) rfl)  (upd1 (w109_54) (x109_1) (v10)) (congrArg (fun q => upd1 q (x109_1) (v10)) (ew109_54)) (show inr ((x109_1 + 1)) from q_1807 b6 j109_1) (show (0) ≤ ((x109_1 + 1)) from q_14 j109_1) (show ((x109_1 + 1)) ≤ (0) ∨ ((x109_1 + 1)) ≤ ((192)) from q_1806 b6) (show ∀ i, 0 ≤ i → i < ((x109_1 + 1)) → ((upd1 (w109_54) (x109_1) (v10))) i = ((w50)) i by assumption) rfl
          · have hTl := hT.2.2.1 ((x52_1)) (by omega) (by omega)
            refine Ew_of (pcₚ := 60) (fun _ => x_aload_n rfl l52_0) ?_
            refine w_gT H (o := 6) (t := 53) rfl (H.perm 6 rfl) rfl rfl rfl rfl rfl rfl ?_
            refine Ew_of (pcₚ := 64) (fun _ => x_iload_n rfl l52_1) ?_
            refine Ew_of (pcₚ := 65) (fun _ => x_aload_n rfl l52_0) ?_
            refine w_gT H (o := 6) (t := 49) rfl (H.perm 6 rfl) rfl rfl rfl rfl rfl rfl ?_
            refine Ew_of (pcₚ := 69) (fun _ => x_iload_n rfl l52_1) ?_
            refine w_lI H (o := 49) (n := 256) rfl (H.perm 49 rfl) rfl rfl (H.fix 49 rfl rfl) (show 0 ≤ x52_1 ∧ x52_1 < ((256 : Nat) : Int) from q_23 b5 j52_1) (by decide) (fun v11 ev11 qv11 => ?_)
            have qv11 : (0 : Int) ≤ v11 ∧ v11 ≤ 11 := qv11
            have ev11 : (w49) (x52_1) = v11 := (congrFun ((funext (hA_52 49 rfl)).trans ((funext (hA_7 49 rfl)).trans (ew49))) (x52_1)).symm.trans ev11
            have hdl70 := ev11
            refine w_sI H (o := 53) (n := 256) rfl (H.perm 53 rfl) rfl rfl (H.fix 53 rfl rfl) (show 0 ≤ x52_1 ∧ x52_1 < ((256 : Nat) : Int) from q_23 b5 j52_1) (by decide) (show (0 : Int) ≤ v11 ∧ v11 ≤ 11 from qv11) (fun σ H => ?_)
            refine Ew_of (pcₚ := 72) (fun _ => x_aload_n rfl l52_0) ?_
            refine Ew_of (pcₚ := 73) (fun _ => x_aload_n rfl l52_0) ?_
            refine w_gT H (o := 6) (t := 53) rfl (H.perm 6 rfl) rfl rfl rfl rfl rfl rfl ?_
            refine Ew_of (pcₚ := 77) (fun _ => x_iload_n rfl l52_1) ?_
            refine w_lI H (o := 53) (n := 256) rfl (H.perm 53 rfl) rfl rfl (H.fix 53 rfl rfl) (show 0 ≤ x52_1 ∧ x52_1 < ((256 : Nat) : Int) from q_23 b5 j52_1) (by decide) (fun v12 ev12 qv12 => ?_)
            have qv12 : (0 : Int) ≤ v12 ∧ v12 ≤ 11 := qv12
            have ev12 : (upd1 (w52_53) (x52_1) (v11)) (x52_1) = v12 := (congrFun (congrArg (fun q => upd1 q (x52_1) (v11)) (ew52_53)) (x52_1)).symm.trans ev12
            refine Ew_of (pcₚ := 79) (fun _ => x_aload_n rfl l52_0) ?_
            refine w_gI H (o := 6) (w := y52_6_12) rfl (H.perm 6 rfl) rfl rfl rfl (fun _ => rfl) (ey52_6_12) ?_
            have hls : ((upd1 (w52_53) (x52_1) (v11))) ((x52_1)) = ((w49)) ((x52_1)) := by rw [upd1_s]; omega
            refine w_icmple (t := 94) rfl rfl (show inr (v12) from q_1389 qv12) (show inr (y52_6_12) from q_1389 r4) (fun b13 => ?_) (fun b13 => ?_)
            · refine Ew_of (pcₚ := 95) (fun _ => x_aload_n rfl l52_0) ?_
              refine w_gI H (o := 6) (w := y52_6_12) rfl (H.perm 6 rfl) rfl rfl rfl (fun _ => rfl) (ey52_6_12) ?_
              refine w_pI H (o := 6) rfl rfl (H.perm 6 rfl) rfl rfl rfl (fun _ => rfl) rfl (show (0 : Int) ≤ y52_6_12 ∧ y52_6_12 ≤ 11 from r4) (fun σ H => ?_)
              have hdx : ((w49)) ((x52_1) + 1 - 1) = ((w49)) ((x52_1)) := by congr 1; omega
              refine Ew_of (pcₚ := 104) (fun _ => x_iinc (len := 3) rfl (l52_1)) ?_
              refine Ew_of (pcₚ := 52) (fun _ => x_goto rfl rfl) ?_
              have : ∀ i, (0 : Int) ≤ i → i < ((x52_1 + 1)) → ((upd1 (w52_53) (x52_1) (v11))) i = ((w49)) i := pt_copy j52_3 (by omega)
              have : ∀ i, (0 : Int) ≤ i → i < ((x52_1 + 1)) → ((w49)) i ≤ (y52_6_12) := fun i a b => by by_cases e : i = ((x52_1 + 1)) - 1; rw [e]; omega; have := j52_4 i a (by omega); omega
              have : (y52_6_12) = mxN ((w49)) (((x52_1 + 1)) : Int).toNat := mxN_s j52_t (by omega) (by omega) rfl (by omega)
              exact ih52 _ (msE hm52 q_26 (q_27 b5)) _ σ _ _ ((x52_1 + 1)) (rk_o (l52_0) rfl rfl) (rk_s) H (SF_upd (hS_52) rfl) (SA_upd (hA_52) rfl) (y52_6_12) (rfl) (upd1 (w52_53) (x52_1) (v11)) (congrArg (fun q => upd1 q (x52_1) (v11)) (ew52_53)) (show inr ((x52_1 + 1)) from q_25 b5 j52_1) (show (0) ≤ ((x52_1 + 1)) from q_14 j52_1) (show ((x52_1 + 1)) ≤ (0) ∨ ((x52_1 + 1)) ≤ ((256)) from q_24 b5) (show ∀ i, 0 ≤ i → i < ((x52_1 + 1)) → ((upd1 (w52_53) (x52_1) (v11))) i = ((w49)) i by assumption) (show ∀ i, 0 ≤ i → i < ((x52_1 + 1)) → ((w49)) i ≤ (y52_6_12) by assumption) (show (y52_6_12) ≤ T from j52_5) (show (y52_6_12) = mxN ((w49)) (((x52_1 + 1)) : Int).toNat by assumption) rfl
            · refine Ew_of (pcₚ := 86) (fun _ => x_aload_n rfl l52_0) ?_
              refine w_gT H (o := 6) (t := 53) rfl (H.perm 6 rfl) rfl rfl rfl rfl rfl rfl ?_
              refine Ew_of (pcₚ := 90) (fun _ => x_iload_n rfl l52_1) ?_
              refine w_lI H (o := 53) (n := 256) rfl (H.perm 53 rfl) rfl rfl (H.fix 53 rfl rfl) (show 0 ≤ x52_1 ∧ x52_1 < ((256 : Nat) : Int) from q_23 b5 j52_1) (by decide) (fun v14 ev14 qv14 => ?_)
              have qv14 : (0 : Int) ≤ v14 ∧ v14 ≤ 11 := qv14
              have ev14 : (upd1 (w52_53) (x52_1) (v11)) (x52_1) = v14 := (congrFun (congrArg (fun q => upd1 q (x52_1) (v11)) (ew52_53)) (x52_1)).symm.trans ev14
              refine Ew_of (pcₚ := 98) (fun _ => x_goto rfl rfl) ?_
              refine w_pI H (o := 6) rfl rfl (H.perm 6 rfl) rfl rfl rfl (fun _ => rfl) rfl (show (0 : Int) ≤ v14 ∧ v14 ≤ 11 from qv14) (fun σ H => ?_)
              have hdx : ((w49)) ((x52_1) + 1 - 1) = ((w49)) ((x52_1)) := by congr 1; omega
              refine Ew_of (pcₚ := 104) (fun _ => x_iinc (len := 3) rfl (l52_1)) ?_
              refine Ew_of (pcₚ := 52) (fun _ => x_goto rfl rfl) ?_
              have : ∀ i, (0 : Int) ≤ i → i < ((x52_1 + 1)) → ((upd1 (w52_53) (x52_1) (v11))) i = ((w49)) i := pt_copy j52_3 (by omega)
              have : ∀ i, (0 : Int) ≤ i → i < ((x52_1 + 1)) → ((w49)) i ≤ (v14) := fun i a b => by by_cases e : i = ((x52_1 + 1)) - 1; rw [e]; omega; have := j52_4 i a (by omega); omega
              have : (v14) = mxN ((w49)) (((x52_1 + 1)) : Int).toNat := mxN_s j52_t (by omega) (by omega) rfl (by omega)
              exact ih52 _ (msE hm52 q_26 (q_27 b5)) _ σ _ _ ((x52_1 + 1)) (rk_o (l52_0) rfl rfl) (rk_s) H (SF_upd (hS_52) rfl) (SA_upd (hA_52) rfl) (v14) (rfl) (upd1 (w52_53) (x52_1) (v11)) (congrArg (fun q => upd1 q (x52_1) (v11)) (ew52_53)) (show inr ((x52_1 + 1)) from q_25 b5 j52_1) (show (0) ≤ ((x52_1 + 1)) from q_14 j52_1) (show ((x52_1 + 1)) ≤ (0) ∨ ((x52_1 + 1)) ≤ ((256)) from q_24 b5) (show ∀ i, 0 ≤ i → i < ((x52_1 + 1)) → ((upd1 (w52_53) (x52_1) (v11))) i = ((w49)) i by assumption) (show ∀ i, 0 ≤ i → i < ((x52_1 + 1)) → ((w49)) i ≤ (v14) by assumption) (show (v14) ≤ T by omega) (show (v14) = mxN ((w49)) (((x52_1 + 1)) : Int).toNat by assumption) rfl
      · have : STQ (bgS ((u6_6)) ((w49)) ((w50)) ((w51)) ((w52)) ((w87))) ((0)) ((A 53)) ((A 54)) ((w7_55)) ((w7_56)) ((w87)) := bgS_0 (by omega) (by omega) (fun t a b => j7_o t a (by omega)) ⟨hl40, hl41, hl42⟩
        exact w_ret rfl (k σ _ _ H (SF_trans (SF_upd (SF_refl) rfl) hS_7 (any_sub rfl)) (SA_trans (SA_refl) hA_7 (any_subA rfl)) (0) ((hS_7 6 12 rfl)) (A 53) (funext (hA_7 53 rfl)) (A 54) (funext (hA_7 54 rfl)) (w7_55) (ew7_55) (w7_56) (ew7_56) (show WC ((0)) ((A 53)) by assumption) (show WO ((A 54)) ((w7_55)) by assumption) (show 1 ≤ ((w7_56)) 0 ∧ 1 ≤ ((w7_56)) 1 ∧ 1 ≤ ((w7_56)) 2 by omega) (show STQ (bgS ((u6_6)) ((w49)) ((w50)) ((w51)) ((w52)) ((w87))) ((0)) ((A 53)) ((A 54)) ((w7_55)) ((w7_56)) ((w87)) by assumption))
    · refine Ew_of (pcₚ := 13) (fun _ => x_aload_n rfl l7_0) ?_
      refine w_gT H (o := 6) (t := 55) rfl (H.perm 6 rfl) rfl rfl rfl rfl rfl rfl ?_
      refine Ew_of (pcₚ := 17) (fun _ => x_iload_n rfl l7_1) ?_
      refine Ew_of (pcₚ := 18) (fun _ => x_iconst rfl) ?_
      refine w_sI H (o := 55) (n := 3) rfl (H.perm 55 rfl) rfl rfl (H.fix 55 rfl rfl) (show 0 ≤ x7_1 ∧ x7_1 < ((3 : Nat) : Int) from q_1801 b2 j7_1) (by decide) (show (-1 : Int) ≤ (-1) ∧ (-1) ≤ 9 from q_1811) (fun σ H => ?_)
      refine Ew_of (pcₚ := 20) (fun _ => x_aload_n rfl l7_0) ?_
      refine w_gT H (o := 6) (t := 56) rfl (H.perm 6 rfl) rfl rfl rfl rfl rfl rfl ?_
      refine Ew_of (pcₚ := 24) (fun _ => x_iload_n rfl l7_1) ?_
      refine Ew_of (pcₚ := 25) (fun _ => x_iload_n rfl l7_1) ?_
      refine w_ifne (t := 32) rfl rfl (show inr (x7_1) from j7_0) (fun b15 => ?_) (fun b15 => ?_)
      · refine Ew_of (pcₚ := 33) (fun _ => x_iconst rfl) ?_
        refine Ew_of (pcₚ := 34) (fun _ => x_iload_n rfl l7_1) ?_
        refine w_imul rfl ?_
        refine w_sI H (o := 56) (n := 3) rfl (H.perm 56 rfl) rfl rfl (H.fix 56 rfl rfl) (show 0 ≤ x7_1 ∧ x7_1 < ((3 : Nat) : Int) from q_1801 b2 j7_1) (by decide) (show (-2147483648 : Int) ≤ (4 * x7_1) ∧ (4 * x7_1) ≤ 2147483647 from q_2222 b2 j7_1) (fun σ H => ?_)
        refine Ew_of (pcₚ := 39) (fun _ => x_iinc (len := 3) rfl (l7_1)) ?_
        refine Ew_of (pcₚ := 7) (fun _ => x_goto rfl rfl) ?_
        have : ∀ t, (0 : Int) ≤ t → t < ((x7_1 + 1)) → ((upd1 (w7_55) (x7_1) ((-1)))) t < 0 := fun t a b => by simp only [upd1]; split; omega; exact j7_3 t a (by omega)
        have : ∀ t, 0 ≤ t → t < ((x7_1 + 1)) → ((upd1 (w7_56) (x7_1) ((4 * x7_1)))) t = if t = 0 then 1 else 4 * t := fun t a b => by by_cases e : t = qd; (rw [e, hqd, upd1_s]; first | (rw [if_pos (by omega)]) | (rw [if_neg (by omega)])); (rw [upd1_o (by omega)]; exact j7_l t a (by omega))
        have : ∀ t, 0 ≤ t → t < ((x7_1 + 1)) → ((upd1 (w7_55) (x7_1) ((-1)))) t = -1 := fun t a b => by by_cases e : t = qd; (rw [e, hqd, upd1_s]); (rw [upd1_o (by omega)]; exact j7_o t a (by omega))
        exact ih7 _ (msE hm7 q_813 (q_814 b2)) _ σ _ _ ((x7_1 + 1)) (rk_o (l7_0) rfl rfl) (rk_s) H (hS_7) (SA_upd (SA_upd (hA_7) rfl) rfl)  (upd1 (w7_55) (x7_1) ((-1))) (congrArg (fun q => upd1 q (x7_1) ((-1))) (ew7_55)) (upd1 (w7_56) (x7_1) ((4 * x7_1))) (congrArg (fun q => upd1 q (x7_1) ((4 * x7_1))) (ew7_56)) (show inr ((x7_1 + 1)) from q_1804 b2 j7_1) (show (0) ≤ ((x7_1 + 1)) from q_14 j7_1) (show ((x7_1 + 1)) ≤ (0) ∨ ((x7_1 + 1)) ≤ (3) from q_1803 b2) (show ∀ t, 0 ≤ t → t < ((x7_1 + 1)) → ((upd1 (w7_55) (x7_1) ((-1)))) t < 0 by assumption) (show ∀ t, 0 ≤ t → t < ((x7_1 + 1)) → ((upd1 (w7_56) (x7_1) ((4 * x7_1)))) t = if t = 0 then 1 else 4 * t by assumption) (show ∀ t, 0 ≤ t → t < ((x7_1 + 1)) → ((upd1 (w7_55) (x7_1) ((-1)))) t = -1 by assumption) rfl
      · refine Ew_of (pcₚ := 29) (fun _ => x_iconst rfl) ?_
        refine Ew_of (pcₚ := 35) (fun _ => x_goto rfl rfl) ?_
        refine w_sI H (o := 56) (n := 3) rfl (H.perm 56 rfl) rfl rfl (H.fix 56 rfl rfl) (show 0 ≤ x7_1 ∧ x7_1 < ((3 : Nat) : Int) from q_1814 b15 j7_1) (by decide) (show (-2147483648 : Int) ≤ 1 ∧ 1 ≤ 2147483647 from q_2223) (fun σ H => ?_)
        refine Ew_of (pcₚ := 39) (fun _ => x_iinc (len := 3) rfl (l7_1)) ?_
        refine Ew_of (pcₚ := 7) (fun _ => x_goto rfl rfl) ?_
        have : ∀ t, (0 : Int) ≤ t → t < ((x7_1 + 1)) → ((upd1 (w7_55) (x7_1) ((-1)))) t < 0 := fun t a b => by simp only [upd1]; split; omega; exact j7_3 t a (by omega)
        have : ∀ t, 0 ≤ t → t < ((x7_1 + 1)) → ((upd1 (w7_56) (x7_1) (1))) t = if t = 0 then 1 else 4 * t := fun t a b => by by_cases e : t = qd; (rw [e, hqd, upd1_s]; first | (rw [if_pos (by omega)]) | (rw [if_neg (by omega)])); (rw [upd1_o (by omega)]; exact j7_l t a (by omega))
        have : ∀ t, 0 ≤ t → t < ((x7_1 + 1)) → ((upd1 (w7_55) (x7_1) ((-1)))) t = -1 := fun t a b => by by_cases e : t = qd; (rw [e, hqd, upd1_s]); (rw [upd1_o (by omega)]; exact j7_o t a (by omega))
        exact ih7 _ (msE hm7 q_813 (q_1818 b15)) _ σ _ _ ((x7_1 + 1)) (rk_o (l7_0) rfl rfl) (rk_s) H (hS_7) (SA_upd (SA_upd (hA_7) rfl) rfl)  (upd1 (w7_55) (x7_1) ((-1))) (congrArg (fun q => upd1 q (x7_1) ((-1))) (ew7_55)) (upd1 (w7_56) (x7_1) (1)) (congrArg (fun q => upd1 q (x7_1) (1)) (ew7_56)) (show inr ((x7_1 + 1)) from q_1817 b15) (show (0) ≤ ((x7_1 + 1)) from q_1816 b15) (show ((x7_1 + 1)) ≤ (0) ∨ ((x7_1 + 1)) ≤ (3) from q_1815 b15) (show ∀ t, 0 ≤ t → t < ((x7_1 + 1)) → ((upd1 (w7_55) (x7_1) ((-1)))) t < 0 by assumption) (show ∀ t, 0 ≤ t → t < ((x7_1 + 1)) → ((upd1 (w7_56) (x7_1) (1))) t = if t = 0 then 1 else 4 * t by assumption) (show ∀ t, 0 ≤ t → t < ((x7_1 + 1)) → ((upd1 (w7_55) (x7_1) ((-1)))) t = -1 by assumption) rfl


end
