/-- Writer.press -/
theorem M450 {σ0 σ : rS} {D N : Nat → Nat} {F : hF} {A : hA} {d c s : Nat} {Q : wQ} (H : HS σ0 σ D N F A) {a1 a2 a3 : Int} (u1_1 : Int) (eu1_1 : F 1 1 = u1_1) (u6_2 : Int) (eu6_2 : F 6 2 = u6_2) (u6_4 : Int) (eu6_4 : F 6 4 = u6_4) (u6_6 : Int) (eu6_6 : F 6 6 = u6_6) (w49 : Int → Int) (ew49 : A 49 = w49) (w50 : Int → Int) (ew50 : A 50 = w50) (w51 : Int → Int) (ew51 : A 51 = w51) (h0 : inr (a1)) (h1 : inr (a2)) (h2 : inr (a3)) (h3 : 0 ≤ (a1) ∧ (a1) ≤ 15) (h4 : 0 ≤ (a2) ∧ (a2) ≤ 11) (h5 : 1 ≤ (a3) ∧ (a3) ≤ 65536) (h6 : 3 ≤ (u6_2)) (h7 : 0 ≤ (u6_4) ∧ (u6_4) + (u1_1) ≤ 16384) (h8 : DW ((u6_6)) ((w49)) ((w50)) ((w51))) (k : ∀ (z : Int) σ Fₚ Aₚ, HS σ0 σ D N Fₚ Aₚ → SF [(1, 3), (6, 12), (6, 17), (6, 22), (6, 23), (6, 24), (6, 28), (6, 30), (6, 35), (6, 37), (6, 49), (6, 53)] F Fₚ → SA [15, 53, 54, 55, 56, 57, 58, 59, 60, 61, 62, 63, 64, 65, 66, 67, 68, 69, 70, 71, 72, 73, 74, 75, 76, 77, 78, 79, 80, 81, 82, 83, 84, 85, 86, 87, 88] A Aₚ → (inr (z)) → (-1 ≤ (z) ∧ (z) ≤ 65536) → Q (some (I z)) σ c s) : Ew 450 (d + 8) 0 (rargs 0 [.ref (D 6), I a1, I a2, I a3]) [] σ c s Q := by
  have r1 : (0 : Int) ≤ u1_1 ∧ u1_1 ≤ 65536 := rngE (show (0 : Int) ≤ F 1 1 ∧ F 1 1 ≤ 65536 from H.frng 1 1) (show F 1 1 = u1_1 from (eu1_1))
  have r2 : (0 : Int) ≤ u6_2 ∧ u6_2 ≤ 8 := rngE (show (0 : Int) ≤ F 6 2 ∧ F 6 2 ≤ 8 from H.frng 6 2) (show F 6 2 = u6_2 from (eu6_2))
  have r3 : (0 : Int) ≤ u6_4 ∧ u6_4 ≤ 65536 := rngE (show (0 : Int) ≤ F 6 4 ∧ F 6 4 ≤ 65536 from H.frng 6 4) (show F 6 4 = u6_4 from (eu6_4))
  have r4 : (0 : Int) ≤ u6_6 ∧ u6_6 ≤ 1 := rngE (show (0 : Int) ≤ F 6 6 ∧ F 6 6 ≤ 1 from H.frng 6 6) (show F 6 6 = u6_6 from (eu6_6))
  refine Ew_of (pcₚ := 1) (fun _ => x_iload_n rfl rfl) ?_
  refine Ew_of (pcₚ := 2) (fun _ => x_iconst rfl) ?_
  refine w_iand rfl (show inr (a1) from h0) (show inr (4) from q_2) (fun z5 gz5 gaz5 gbz5 => ?_)
  have hc11 : ∀ (tc11_0 : Int), ∀ (ls : rO) (σ : rS) (F_c11 : hF) (A_c11 : hA) , rlook ls 0 = some (.ref (D 6)) → rlook ls 1 = some (I (a1)) → rlook ls 2 = some (I (a2)) → rlook ls 3 = some (I (a3)) → HS σ0 σ D N F_c11 A_c11 → SF [] F F_c11 → SA [] A A_c11 → (inr (tc11_0)) → (((z5) = (0) ∧ (tc11_0) = (0)) ∨ ((z5) ≠ (0) ∧ (tc11_0) = (1))) → Ew 450 (d + 8) 11 ls [I (tc11_0)] σ c s Q := by
   as_aux_lemma =>
    intro tc11_0 ls σ F_c11 A_c11  lc11_0 lc11_1 lc11_2 lc11_3 H hS_c11 hA_c11   jc11_0 jc11_1
    refine Ew_of (pcₚ := 13) (fun _ => x_istore rfl) ?_
    refine Ew_of (pcₚ := 14) (fun _ => x_iconst rfl) ?_
    refine Ew_of (pcₚ := 16) (fun _ => x_istore rfl) ?_
    suffices hl16 : ∀ (m : Nat), ∀ (ls : rO) (σ : rS) (F_16 : hF) (A_16 : hA) (x16_5 : Int), rlook ls 0 = some (.ref (D 6)) → rlook ls 1 = some (I (a1)) → rlook ls 2 = some (I (a2)) → rlook ls 3 = some (I (a3)) → rlook ls 4 = some (I (tc11_0)) → rlook ls 5 = some (I (x16_5)) → HS σ0 σ D N F_16 A_16 → SF [] F_c11 F_16 → SA [87] A_c11 A_16 → (inr (x16_5)) → ((0) ≤ (x16_5)) → ((x16_5) ≤ (0) ∨ (x16_5) ≤ ((12))) → (((12)) - (x16_5)).toNat = m → Ew 450 (d + 8) 16 ls [] σ c s Q from
      hl16 _ _ σ _ _ (0) (rk_o (rk_o (lc11_0) rfl rfl) rfl rfl) (rk_o (rk_o (lc11_1) rfl rfl) rfl rfl) (rk_o (rk_o (lc11_2) rfl rfl) rfl rfl) (rk_o (rk_o (lc11_3) rfl rfl) rfl rfl) (rk_o (rk_s) rfl rfl) (rk_s) H (SF_refl) (SA_refl)   (show inr (0) from q_20) (show (0) ≤ (0) from q_25) (show (0) ≤ (0) ∨ (0) ≤ ((12)) from q_2428) rfl
    as_aux_lemma =>
    intro m
    induction m using Nat.strongRecOn with
    | _ m ih16 =>
      intro ls σ F_16 A_16 x16_5 l16_0 l16_1 l16_2 l16_3 l16_4 l16_5 H hS_16 hA_16   j16_0 j16_1 j16_2 hm16
      refine Ew_of (pcₚ := 18) (fun _ => x_iload rfl l16_5) ?_
      refine Ew_of (pcₚ := 20) (fun _ => x_bipush (z := 12) rfl (by decide)) ?_
      refine w_icmpge (t := 37) rfl rfl (show inr (x16_5) from j16_0) (show inr (12) from q_356) (fun b6 => ?_) (fun b6 => ?_)
      · refine Ew_of (pcₚ := 38) (fun _ => x_aload_n rfl l16_0) ?_
        refine Ew_of (pcₚ := 39) (fun _ => x_iconst rfl) ?_
        refine w_pI H (o := 6) rfl rfl (H.perm 6 rfl) rfl rfl rfl (fun _ => rfl) rfl (show (0 : Int) ≤ 0 ∧ 0 ≤ 100000000 from q_937) (fun σ H => ?_)
        have hc58 : ∀ (tc58_0 : Int), ∀ (ls : rO) (σ : rS) (F_c58 : hF) (A_c58 : hA) , rlook ls 0 = some (.ref (D 6)) → rlook ls 1 = some (I (a1)) → rlook ls 2 = some (I (a2)) → rlook ls 3 = some (I (a3)) → rlook ls 4 = some (I (tc11_0)) → HS σ0 σ D N F_c58 A_c58 → SF [] (updF F_16 6 37 (0)) F_c58 → SA [] A_16 A_c58 → (inr (tc58_0)) → ((tc58_0) = 0 ∨ (tc58_0) = 1) → Ew 450 (d + 8) 58 ls [I (tc58_0)] σ c s Q := by
         as_aux_lemma =>
          intro tc58_0 ls σ F_c58 A_c58  lc58_0 lc58_1 lc58_2 lc58_3 lc58_4 H hS_c58 hA_c58   jc58_0 jc58_1
          refine Ew_of (pcₚ := 60) (fun _ => x_istore rfl) ?_
          have hc109 : ∀ (tc109_0 : Int), ∀ (ls : rO) (σ : rS) (F_c109 : hF) (A_c109 : hA) , rlook ls 0 = some (.ref (D 6)) → rlook ls 1 = some (I (a1)) → rlook ls 2 = some (I (a2)) → rlook ls 3 = some (I (a3)) → rlook ls 4 = some (I (tc11_0)) → rlook ls 5 = some (I (tc58_0)) → HS σ0 σ D N F_c109 A_c109 → SF [] F_c58 F_c109 → SA [] A_c58 A_c109 → (inr (tc109_0)) → (0 ≤ (tc109_0) ∧ (tc109_0) ≤ 2) → Ew 450 (d + 8) 109 ls [I (tc109_0)] σ c s Q := by
           as_aux_lemma =>
            intro tc109_0 ls σ F_c109 A_c109  lc109_0 lc109_1 lc109_2 lc109_3 lc109_4 lc109_5 H hS_c109 hA_c109   jc109_0 jc109_1
            refine Ew_of (pcₚ := 111) (fun _ => x_istore rfl) ?_
            refine Ew_of (pcₚ := 112) (fun _ => x_aload_n rfl (rk_o (lc109_0) rfl rfl)) ?_
            have r7 : (-2147483648 : Int) ≤ F 6 5 ∧ F 6 5 ≤ 2147483647 := rngE (show (-2147483648 : Int) ≤ F_c109 6 5 ∧ F_c109 6 5 ≤ 2147483647 from H.frng 6 5) (show F_c109 6 5 = F 6 5 from ((((hS_c109 6 5 rfl).trans (hS_c58 6 5 rfl)).trans (hS_16 6 5 rfl)).trans (hS_c11 6 5 rfl)))
            refine w_gI H (o := 6) (w := F 6 5) rfl (H.perm 6 rfl) rfl rfl rfl (fun _ => rfl) ((((hS_c109 6 5 rfl).trans (hS_c58 6 5 rfl)).trans (hS_16 6 5 rfl)).trans (hS_c11 6 5 rfl)) ?_
            refine w_i2l rfl (show inr (F 6 5) from q_22 r7) ?_
            refine Ew_of (pcₚ := 119) (fun _ => x_ldc2 (z := 4294967295) rfl (by decide)) ?_
            refine w_land rfl (show inrJ (F 6 5) from q_2429 r7) (show inrJ (4294967295) from q_50) (fun z8 gz8 gaz8 gbz8 => ?_)
            refine Ew_of (pcₚ := 122) (fun _ => x_lstore rfl) ?_
            have hc167 : ∀ (tc167_0 : Int), ∀ (ls : rO) (σ : rS) (F_c167 : hF) (A_c167 : hA) , rlook ls 0 = some (.ref (D 6)) → rlook ls 1 = some (I (a1)) → rlook ls 2 = some (I (a2)) → rlook ls 3 = some (I (a3)) → rlook ls 4 = some (I (tc11_0)) → rlook ls 5 = some (I (tc58_0)) → rlook ls 6 = some (I (tc109_0)) → rlook ls 7 = some (J (z8)) → HS σ0 σ D N F_c167 A_c167 → SF [] F_c109 F_c167 → SA [] A_c109 A_c167 → (inr (tc167_0)) → (0 ≤ (tc167_0) ∧ (tc167_0) ≤ 3) → Ew 450 (d + 8) 167 ls [I (tc167_0)] σ c s Q := by
             as_aux_lemma =>
              intro tc167_0 ls σ F_c167 A_c167  lc167_0 lc167_1 lc167_2 lc167_3 lc167_4 lc167_5 lc167_6 lc167_7 H hS_c167 hA_c167   jc167_0 jc167_1
              refine Ew_of (pcₚ := 169) (fun _ => x_istore rfl) ?_
              refine Ew_of (pcₚ := 170) (fun _ => x_aload_n rfl (rk_o (lc167_0) rfl rfl)) ?_
              refine Ew_of (pcₚ := 173) (fun _ => x_ldc2 (z := 4247762216) rfl (by decide)) ?_
              refine Ew_of (pcₚ := 174) (fun _ => x_iconst rfl) ?_
              refine w_inv H (o := 6) rfl rfl rfl (H.perm 6 rfl) rfl rfl (by rfl) (M393 H (0) ((((hS_c167 6 37 rfl).trans (hS_c109 6 37 rfl)).trans (hS_c58 6 37 rfl))) (show inrJ (4247762216) from q_2431) (show inr (4) from q_2) (show 0 ≤ (4) ∧ (4) ≤ 8 from q_381) (show 0 ≤ (0) ∧ (0) ≤ 90000000 from q_2430) (fun σ F9 A10 H hS11 hA12 y14 ey15 pz13_0 => ⟨rfl, ?_⟩))
              have r16 : (0 : Int) ≤ y14 ∧ y14 ≤ 100000000 := rngE (show (0 : Int) ≤ F9 6 37 ∧ F9 6 37 ≤ 100000000 from H.frng 6 37) (show F9 6 37 = y14 from (ey15))
              refine Ew_of (pcₚ := 178) (fun _ => x_aload_n rfl (rk_o (lc167_0) rfl rfl)) ?_
              refine Ew_of (pcₚ := 180) (fun _ => x_bipush (z := 64) rfl (by decide)) ?_
              refine Ew_of (pcₚ := 182) (fun _ => x_iload rfl (rk_o (lc167_6) rfl rfl)) ?_
              refine w_imul rfl ?_
              refine Ew_of (pcₚ := 185) (fun _ => x_iload rfl (rk_o (lc167_4) rfl rfl)) ?_
              have hc194 : ∀ (tc194_0 : Int), ∀ (ls : rO) (σ : rS) (F_c194 : hF) (A_c194 : hA) , rlook ls 0 = some (.ref (D 6)) → rlook ls 1 = some (I (a1)) → rlook ls 2 = some (I (a2)) → rlook ls 3 = some (I (a3)) → rlook ls 4 = some (I (tc11_0)) → rlook ls 5 = some (I (tc58_0)) → rlook ls 6 = some (I (tc109_0)) → rlook ls 7 = some (J (z8)) → rlook ls 9 = some (I (tc167_0)) → HS σ0 σ D N F_c194 A_c194 → SF [] F9 F_c194 → SA [] A10 A_c194 → (inr (tc194_0)) → (((tc11_0) = (0) ∧ (tc194_0) = (0)) ∨ ((tc11_0) ≠ (0) ∧ (tc194_0) = (32))) → Ew 450 (d + 8) 194 ls [I (tc194_0), I ((64 * tc109_0)), .ref (D 6)] σ c s Q := by
               as_aux_lemma =>
                intro tc194_0 ls σ F_c194 A_c194  lc194_0 lc194_1 lc194_2 lc194_3 lc194_4 lc194_5 lc194_6 lc194_7 lc194_9 H hS_c194 hA_c194   jc194_0 jc194_1
                refine w_iadd rfl ?_
                refine Ew_of (pcₚ := 196) (fun _ => x_iload_n rfl lc194_1) ?_
                refine Ew_of (pcₚ := 197) (fun _ => x_iconst rfl) ?_
                refine w_iand rfl (show inr (a1) from h0) (show inr (1) from q_23) (fun z17 gz17 gaz17 gbz17 => ?_)
                have hc206 : ∀ (tc206_0 : Int), ∀ (ls : rO) (σ : rS) (F_c206 : hF) (A_c206 : hA) , rlook ls 0 = some (.ref (D 6)) → rlook ls 1 = some (I (a1)) → rlook ls 2 = some (I (a2)) → rlook ls 3 = some (I (a3)) → rlook ls 4 = some (I (tc11_0)) → rlook ls 5 = some (I (tc58_0)) → rlook ls 6 = some (I (tc109_0)) → rlook ls 7 = some (J (z8)) → rlook ls 9 = some (I (tc167_0)) → HS σ0 σ D N F_c206 A_c206 → SF [] F_c194 F_c206 → SA [] A_c194 A_c206 → (inr (tc206_0)) → (((z17) = (0) ∧ (tc206_0) = (0)) ∨ ((z17) ≠ (0) ∧ (tc206_0) = (4))) → Ew 450 (d + 8) 206 ls [I (tc206_0), I (((64 * tc109_0) + tc194_0)), .ref (D 6)] σ c s Q := by
                 as_aux_lemma =>
                  intro tc206_0 ls σ F_c206 A_c206  lc206_0 lc206_1 lc206_2 lc206_3 lc206_4 lc206_5 lc206_6 lc206_7 lc206_9 H hS_c206 hA_c206   jc206_0 jc206_1
                  refine w_iadd rfl ?_
                  refine Ew_of (pcₚ := 209) (fun _ => x_iload rfl lc206_9) ?_
                  refine w_iadd rfl ?_
                  refine w_inv H (o := 6) rfl rfl rfl (H.perm 6 rfl) rfl rfl (by rfl) (M392 H (y14) ((((hS_c206 6 37 rfl).trans (hS_c194 6 37 rfl)).trans (ey15))) (show inr (((((64 * tc109_0) + tc194_0) + tc206_0) + tc167_0)) from q_2433 jc109_1 jc167_1 jc194_0 jc194_1 jc206_1) (show 0 ≤ (y14) ∧ (y14) ≤ 99999999 from q_2432 pz13_0 r16) (fun σ F18 A19 H hS20 hA21 y23 ey24 pz22_0 => ⟨rfl, ?_⟩))
                  have r25 : (0 : Int) ≤ y23 ∧ y23 ≤ 100000000 := rngE (show (0 : Int) ≤ F18 6 37 ∧ F18 6 37 ≤ 100000000 from H.frng 6 37) (show F18 6 37 = y23 from (ey24))
                  have hc226 : ∀ (ls : rO) (σ : rS) (F_c226 : hF) (A_c226 : hA) , rlook ls 0 = some (.ref (D 6)) → rlook ls 1 = some (I (a1)) → rlook ls 2 = some (I (a2)) → rlook ls 3 = some (I (a3)) → rlook ls 4 = some (I (tc11_0)) → rlook ls 5 = some (I (tc58_0)) → rlook ls 6 = some (I (tc109_0)) → rlook ls 7 = some (J (z8)) → rlook ls 9 = some (I (tc167_0)) → HS σ0 σ D N F_c226 A_c226 → SF [(6, 37)] F18 F_c226 → SA [70] A19 A_c226 → ∀ yc226_6_37 : Int, F_c226 6 37 = yc226_6_37 → (0 ≤ (yc226_6_37) ∧ (yc226_6_37) ≤ 6) → Ew 450 (d + 8) 226 ls [] σ c s Q := by
                   as_aux_lemma =>
                    intro  ls σ F_c226 A_c226  lc226_0 lc226_1 lc226_2 lc226_3 lc226_4 lc226_5 lc226_6 lc226_7 lc226_9 H hS_c226 hA_c226 yc226_6_37 eyc226_6_37  jc226_0
                    have r26 : (0 : Int) ≤ yc226_6_37 ∧ yc226_6_37 ≤ 100000000 := rngE (show (0 : Int) ≤ F_c226 6 37 ∧ F_c226 6 37 ≤ 100000000 from H.frng 6 37) (show F_c226 6 37 = yc226_6_37 from (eyc226_6_37))
                    refine Ew_of (pcₚ := 227) (fun _ => x_aload_n rfl lc226_0) ?_
                    refine Ew_of (pcₚ := 229) (fun _ => x_lload rfl lc226_7) ?_
                    refine Ew_of (pcₚ := 231) (fun _ => x_iload rfl lc226_9) ?_
                    refine Ew_of (pcₚ := 232) (fun _ => x_iconst rfl) ?_
                    have hc241 : ∀ (tc241_0 : Int), ∀ (ls : rO) (σ : rS) (F_c241 : hF) (A_c241 : hA) , rlook ls 0 = some (.ref (D 6)) → rlook ls 1 = some (I (a1)) → rlook ls 2 = some (I (a2)) → rlook ls 3 = some (I (a3)) → rlook ls 4 = some (I (tc11_0)) → rlook ls 5 = some (I (tc58_0)) → rlook ls 6 = some (I (tc109_0)) → HS σ0 σ D N F_c241 A_c241 → SF [] F_c226 F_c241 → SA [] A_c226 A_c241 → (inr (tc241_0)) → (((tc167_0) ≠ (3) ∧ (tc241_0) = (tc167_0)) ∨ ((tc167_0) = (3) ∧ (tc241_0) = (4))) → Ew 450 (d + 8) 241 ls [I (tc241_0), J (z8), .ref (D 6)] σ c s Q := by
                     as_aux_lemma =>
                      intro tc241_0 ls σ F_c241 A_c241  lc241_0 lc241_1 lc241_2 lc241_3 lc241_4 lc241_5 lc241_6 H hS_c241 hA_c241   jc241_0 jc241_1
                      refine w_inv H (o := 6) rfl rfl rfl (H.perm 6 rfl) rfl rfl (by rfl) (M393 H (yc226_6_37) (((hS_c241 6 37 rfl).trans (eyc226_6_37))) (show inrJ (z8) from gz8) (show inr (tc241_0) from jc241_0) (show 0 ≤ (tc241_0) ∧ (tc241_0) ≤ 8 from q_2435 jc167_1 jc241_1) (show 0 ≤ (yc226_6_37) ∧ (yc226_6_37) ≤ 90000000 from q_2434 jc226_0 r26) (fun σ F27 A28 H hS29 hA30 y32 ey33 pz31_0 => ⟨rfl, ?_⟩))
                      have r34 : (0 : Int) ≤ y32 ∧ y32 ≤ 100000000 := rngE (show (0 : Int) ≤ F27 6 37 ∧ F27 6 37 ≤ 100000000 from H.frng 6 37) (show F27 6 37 = y32 from (ey33))
                      have hc302 : ∀ (ls : rO) (σ : rS) (F_c302 : hF) (A_c302 : hA) , rlook ls 0 = some (.ref (D 6)) → rlook ls 1 = some (I (a1)) → rlook ls 2 = some (I (a2)) → rlook ls 3 = some (I (a3)) → rlook ls 4 = some (I (tc11_0)) → HS σ0 σ D N F_c302 A_c302 → SF [(6, 37)] F27 F_c302 → SA [70] A28 A_c302 → ∀ yc302_6_37 : Int, F_c302 6 37 = yc302_6_37 → (0 ≤ (yc302_6_37) ∧ (yc302_6_37) ≤ 16) → Ew 450 (d + 8) 302 ls [] σ c s Q := by
                       as_aux_lemma =>
                        intro  ls σ F_c302 A_c302  lc302_0 lc302_1 lc302_2 lc302_3 lc302_4 H hS_c302 hA_c302 yc302_6_37 eyc302_6_37  jc302_0
                        have r35 : (0 : Int) ≤ yc302_6_37 ∧ yc302_6_37 ≤ 100000000 := rngE (show (0 : Int) ≤ F_c302 6 37 ∧ F_c302 6 37 ≤ 100000000 from H.frng 6 37) (show F_c302 6 37 = yc302_6_37 from (eyc302_6_37))
                        have : p2 ((10 + (a2))) ≤ p2 21 := p2_mono (by omega)
                        have : p2 21 = 2097152 := by decide
                        have := p2_pos ((10 + (a2)))
                        refine Ew_of (pcₚ := 303) (fun _ => x_aload_n rfl lc302_0) ?_
                        refine Ew_of (pcₚ := 305) (fun _ => x_iload rfl lc302_4) ?_
                        have hc324 : ∀ (tc324_0 : Int), ∀ (ls : rO) (σ : rS) (F_c324 : hF) (A_c324 : hA) , rlook ls 0 = some (.ref (D 6)) → rlook ls 1 = some (I (a1)) → rlook ls 3 = some (I (a3)) → HS σ0 σ D N F_c324 A_c324 → SF [] F_c302 F_c324 → SA [] A_c302 A_c324 → (inr (tc324_0)) → (((tc11_0) = (0) ∧ (tc324_0) = (p2 ((10 + a2)))) ∨ ((tc11_0) ≠ (0) ∧ (tc324_0) = (u1_1))) → Ew 450 (d + 8) 324 ls [I (tc324_0), .ref (D 6)] σ c s Q := by
                         as_aux_lemma =>
                          intro tc324_0 ls σ F_c324 A_c324  lc324_0 lc324_1 lc324_3 H hS_c324 hA_c324   jc324_0 jc324_1
                          refine w_pI H (o := 6) rfl rfl (H.perm 6 rfl) rfl rfl rfl (fun _ => rfl) rfl (show (0 : Int) ≤ tc324_0 ∧ tc324_0 ≤ 16777216 by omega) (fun σ H => ?_)
                          refine Ew_of (pcₚ := 328) (fun _ => x_aload_n rfl lc324_0) ?_
                          refine w_gI H (o := 6) (w := tc324_0) rfl (H.perm 6 rfl) rfl rfl rfl (fun _ => rfl) rfl ?_
                          refine Ew_of (pcₚ := 334) (fun _ => x_ldc_w (z := 131072) rfl (by decide)) ?_
                          have hc347 : ∀ (tc347_0 : Int), ∀ (ls : rO) (σ : rS) (F_c347 : hF) (A_c347 : hA) , rlook ls 0 = some (.ref (D 6)) → rlook ls 1 = some (I (a1)) → rlook ls 3 = some (I (a3)) → HS σ0 σ D N F_c347 A_c347 → SF [] (updF F_c324 6 24 (tc324_0)) F_c347 → SA [] A_c324 A_c347 → (inr (tc347_0)) → (((tc324_0) ≥ (131072) ∧ (tc347_0) = (131072)) ∨ ((tc324_0) < (131072) ∧ 0 ≤ (tc324_0) ∧ (tc324_0) ≤ 16777216 ∧ (tc347_0) = (tc324_0))) → Ew 450 (d + 8) 347 ls [I (tc347_0)] σ c s Q := by
                           as_aux_lemma =>
                            intro tc347_0 ls σ F_c347 A_c347  lc347_0 lc347_1 lc347_3 H hS_c347 hA_c347   jc347_0 jc347_1
                            refine Ew_of (pcₚ := 349) (fun _ => x_istore rfl) ?_
                            refine Ew_of (pcₚ := 350) (fun _ => x_iload_n rfl (rk_o (lc347_3) rfl rfl)) ?_
                            refine Ew_of (pcₚ := 352) (fun _ => x_iload rfl rk_s) ?_
                            have hc366 : ∀ (tc366_0 : Int), ∀ (ls : rO) (σ : rS) (F_c366 : hF) (A_c366 : hA) , rlook ls 0 = some (.ref (D 6)) → rlook ls 1 = some (I (a1)) → HS σ0 σ D N F_c366 A_c366 → SF [] F_c347 F_c366 → SA [] A_c347 A_c366 → (inr (tc366_0)) → (((a3) < (tc347_0) ∧ (tc366_0) = (a3)) ∨ ((a3) ≥ (tc347_0) ∧ (tc347_0) ≠ (0) ∧ (tc366_0) = (tc347_0)) ∨ ((a3) ≥ (tc347_0) ∧ (tc347_0) = (0) ∧ (tc366_0) = (a3))) → Ew 450 (d + 8) 366 ls [I (tc366_0)] σ c s Q := by
                             as_aux_lemma =>
                              intro tc366_0 ls σ F_c366 A_c366  lc366_0 lc366_1 H hS_c366 hA_c366   jc366_0 jc366_1
                              refine Ew_of (pcₚ := 368) (fun _ => x_istore rfl) ?_
                              refine Ew_of (pcₚ := 369) (fun _ => x_aload_n rfl (rk_o (lc366_0) rfl rfl)) ?_
                              refine w_inv H (o := 6) rfl rfl rfl (H.perm 6 rfl) rfl rfl (by rfl) (M447 H (u6_6) ((((((((((((((((((hS_c366 6 6 rfl).trans (hS_c347 6 6 rfl)).trans (hS_c324 6 6 rfl)).trans (hS_c302 6 6 rfl)).trans (hS29 6 6 rfl)).trans (hS_c241 6 6 rfl)).trans (hS_c226 6 6 rfl)).trans (hS20 6 6 rfl)).trans (hS_c206 6 6 rfl)).trans (hS_c194 6 6 rfl)).trans (hS11 6 6 rfl)).trans (hS_c167 6 6 rfl)).trans (hS_c109 6 6 rfl)).trans (hS_c58 6 6 rfl)).trans (hS_16 6 6 rfl)).trans (hS_c11 6 6 rfl)).trans (eu6_6))) (w49) ((funext (hA_c366 49 rfl)).trans ((funext (hA_c347 49 rfl)).trans ((funext (hA_c324 49 rfl)).trans ((funext (hA_c302 49 rfl)).trans ((funext (hA30 49 rfl)).trans ((funext (hA_c241 49 rfl)).trans ((funext (hA_c226 49 rfl)).trans ((funext (hA21 49 rfl)).trans ((funext (hA_c206 49 rfl)).trans ((funext (hA_c194 49 rfl)).trans ((funext (hA12 49 rfl)).trans ((funext (hA_c167 49 rfl)).trans ((funext (hA_c109 49 rfl)).trans ((funext (hA_c58 49 rfl)).trans ((funext (hA_16 49 rfl)).trans ((funext (hA_c11 49 rfl)).trans (ew49))))))))))))))))) (w50) ((funext (hA_c366 50 rfl)).trans ((funext (hA_c347 50 rfl)).trans ((funext (hA_c324 50 rfl)).trans ((funext (hA_c302 50 rfl)).trans ((funext (hA30 50 rfl)).trans ((funext (hA_c241 50 rfl)).trans ((funext (hA_c226 50 rfl)).trans ((funext (hA21 50 rfl)).trans ((funext (hA_c206 50 rfl)).trans ((funext (hA_c194 50 rfl)).trans ((funext (hA12 50 rfl)).trans ((funext (hA_c167 50 rfl)).trans ((funext (hA_c109 50 rfl)).trans ((funext (hA_c58 50 rfl)).trans ((funext (hA_16 50 rfl)).trans ((funext (hA_c11 50 rfl)).trans (ew50))))))))))))))))) (w51) ((funext (hA_c366 51 rfl)).trans ((funext (hA_c347 51 rfl)).trans ((funext (hA_c324 51 rfl)).trans ((funext (hA_c302 51 rfl)).trans ((funext (hA30 51 rfl)).trans ((funext (hA_c241 51 rfl)).trans ((funext (hA_c226 51 rfl)).trans ((funext (hA21 51 rfl)).trans ((funext (hA_c206 51 rfl)).trans ((funext (hA_c194 51 rfl)).trans ((funext (hA12 51 rfl)).trans ((funext (hA_c167 51 rfl)).trans ((funext (hA_c109 51 rfl)).trans ((funext (hA_c58 51 rfl)).trans ((funext (hA_16 51 rfl)).trans ((funext (hA_c11 51 rfl)).trans (ew51))))))))))))))))) (show DW ((u6_6)) ((w49)) ((w50)) ((w51)) from h8) (fun σ F36 A37 H hS38 hA39 y41 ey42 wq43 ewq44 wq45 ewq46 wq47 ewq48 pz40_0 pz40_1 => ⟨rfl, ?_⟩))
                              have r49 : (0 : Int) ≤ y41 ∧ y41 ≤ 11 := rngE (show (0 : Int) ≤ F36 6 12 ∧ F36 6 12 ≤ 11 from H.frng 6 12) (show F36 6 12 = y41 from (ey42))
                              refine Ew_of (pcₚ := 373) (fun _ => x_iconst rfl) ?_
                              refine Ew_of (pcₚ := 375) (fun _ => x_istore rfl) ?_
                              refine Ew_of (pcₚ := 376) (fun _ => x_iconst rfl) ?_
                              refine Ew_of (pcₚ := 378) (fun _ => x_istore rfl) ?_
                              suffices hl378 : ∀ (m : Nat), ∀ (ls : rO) (σ : rS) (F_378 : hF) (A_378 : hA) (x378_12 : Int) (x378_13 : Int), rlook ls 0 = some (.ref (D 6)) → rlook ls 1 = some (I (a1)) → rlook ls 11 = some (I (tc366_0)) → rlook ls 12 = some (I (x378_12)) → rlook ls 13 = some (I (x378_13)) → HS σ0 σ D N F_378 A_378 → SF [(6, 12), (6, 17), (6, 22), (6, 23), (6, 28), (6, 30), (6, 35), (6, 37), (6, 49), (6, 53)] F36 F_378 → SA [53, 54, 55, 56, 57, 58, 59, 60, 61, 62, 63, 64, 65, 66, 67, 68, 69, 70, 71, 72, 73, 74, 75, 76, 77, 78, 79, 80, 81, 82, 83, 84, 85, 87] A37 A_378 → ∀ y378_6_12 : Int, F_378 6 12 = y378_6_12 → ∀ y378_6_37 : Int, F_378 6 37 = y378_6_37 → ∀ w378_53 : Int → Int, A_378 53 = w378_53 → ∀ w378_54 : Int → Int, A_378 54 = w378_54 → ∀ w378_55 : Int → Int, A_378 55 = w378_55 → (inr (x378_12)) → (inr (x378_13)) → (0 ≤ (x378_12) ∧ (x378_12) ≤ (u1_1)) → ((x378_13) = 0 ∨ (x378_13) = 1) → (1 ≤ (tc366_0) ∧ (tc366_0) ≤ 131072) → (0 ≤ (y378_6_37) ∧ (y378_6_37) ≤ 44 + 5 * (x378_12)) → ((x378_13) = 1 → (y378_6_37) ≤ 40 + 5 * (x378_12)) → (WC ((y378_6_12)) ((w378_53))) → (WO ((w378_54)) ((w378_55))) → ((u1_1) - (x378_12) + (x378_13)).toNat = m → Ew 450 (d + 8) 378 ls [] σ c s Q from
                                hl378 _ _ σ _ _ (0) (1) (rk_o (rk_o (rk_o (lc366_0) rfl rfl) rfl rfl) rfl rfl) (rk_o (rk_o (rk_o (lc366_1) rfl rfl) rfl rfl) rfl rfl) (rk_o (rk_o (rk_s) rfl rfl) rfl rfl) (rk_o (rk_s) rfl rfl) (rk_s) H (SF_refl) (SA_refl) (y41) ((ey42)) (yc302_6_37) ((((((hS38 6 37 rfl).trans (hS_c366 6 37 rfl)).trans (hS_c347 6 37 rfl)).trans (hS_c324 6 37 rfl)).trans (eyc302_6_37))) (wq43) (ewq44) (wq45) (ewq46) (wq47) (ewq48) (show inr (0) from q_20) (show inr (1) from q_23) (show 0 ≤ (0) ∧ (0) ≤ (u1_1) from q_912 r1) (show (1) = 0 ∨ (1) = 1 from q_5) (show 1 ≤ (tc366_0) ∧ (tc366_0) ≤ 131072 by omega) (show 0 ≤ (yc302_6_37) ∧ (yc302_6_37) ≤ 44 + 5 * (0) from q_2437 jc302_0 r35) (show (1) = 1 → (yc302_6_37) ≤ 40 + 5 * (0) from q_2436 jc302_0) (show WC ((y41)) ((wq43)) from pz40_0) (show WO ((wq45)) ((wq47)) from pz40_1) rfl
                              as_aux_lemma =>
                              intro m
                              induction m using Nat.strongRecOn with
                              | _ m ih378 =>
                                intro ls σ F_378 A_378 x378_12 x378_13 l378_0 l378_1 l378_11 l378_12 l378_13 H hS_378 hA_378 y378_6_12 ey378_6_12 y378_6_37 ey378_6_37 w378_53 ew378_53 w378_54 ew378_54 w378_55 ew378_55 j378_0 j378_1 j378_2 j378_3 j378_4 j378_5 j378_6 j378_7 j378_8 hm378
                                have r50 : (0 : Int) ≤ y378_6_12 ∧ y378_6_12 ≤ 11 := rngE (show (0 : Int) ≤ F_378 6 12 ∧ F_378 6 12 ≤ 11 from H.frng 6 12) (show F_378 6 12 = y378_6_12 from (ey378_6_12))
                                have r51 : (0 : Int) ≤ y378_6_37 ∧ y378_6_37 ≤ 100000000 := rngE (show (0 : Int) ≤ F_378 6 37 ∧ F_378 6 37 ≤ 100000000 from H.frng 6 37) (show F_378 6 37 = y378_6_37 from (ey378_6_37))
                                refine Ew_of (pcₚ := 380) (fun _ => x_iload rfl l378_13) ?_
                                refine w_ifeq (t := 459) rfl rfl (show inr (x378_13) from j378_1) (fun b52 => ?_) (fun b52 => ?_)
                                · have hc478 : ∀ (ls : rO) (σ : rS) (F_c478 : hF) (A_c478 : hA) , rlook ls 0 = some (.ref (D 6)) → HS σ0 σ D N F_c478 A_c478 → SF [(6, 37)] F_378 F_c478 → SA [70, 86] A_378 A_c478 → ∀ yc478_6_37 : Int, F_c478 6 37 = yc478_6_37 → (0 ≤ (yc478_6_37) ∧ (yc478_6_37) ≤ 90000) → Ew 450 (d + 8) 478 ls [] σ c s Q := by
                                   as_aux_lemma =>
                                    intro  ls σ F_c478 A_c478  lc478_0 H hS_c478 hA_c478 yc478_6_37 eyc478_6_37  jc478_0
                                    have r53 : (0 : Int) ≤ yc478_6_37 ∧ yc478_6_37 ≤ 100000000 := rngE (show (0 : Int) ≤ F_c478 6 37 ∧ F_c478 6 37 ≤ 100000000 from H.frng 6 37) (show F_c478 6 37 = yc478_6_37 from (eyc478_6_37))
                                    refine Ew_of (pcₚ := 479) (fun _ => x_aload_n rfl lc478_0) ?_
                                    refine w_inv H (o := 6) rfl rfl rfl (H.perm 6 rfl) rfl rfl (by rfl) (M395 H (yc478_6_37) ((eyc478_6_37)) (show 0 ≤ (yc478_6_37) ∧ (yc478_6_37) ≤ 100000000 from r53) (fun z58 σ F54 A55 H hS56 hA57 pz58_0 pz58_1 => ⟨rfl, ?_⟩))
                                    refine Ew_of (pcₚ := 484) (fun _ => x_istore rfl) ?_
                                    refine Ew_of (pcₚ := 485) (fun _ => x_iconst rfl) ?_
                                    refine Ew_of (pcₚ := 487) (fun _ => x_istore rfl) ?_
                                    suffices hl487 : ∀ (m : Nat), ∀ (ls : rO) (σ : rS) (F_487 : hF) (A_487 : hA) (x487_15 : Int), rlook ls 0 = some (.ref (D 6)) → rlook ls 14 = some (I (z58)) → rlook ls 15 = some (I (x487_15)) → HS σ0 σ D N F_487 A_487 → SF [] F54 F_487 → SA [88] A55 A_487 → (inr (x487_15)) → ((0) ≤ (x487_15)) → ((x487_15) ≤ (0) ∨ (x487_15) ≤ ((12))) → (((12)) - (x487_15)).toNat = m → Ew 450 (d + 8) 487 ls [] σ c s Q from
                                      hl487 _ _ σ _ _ (0) (rk_o (rk_o (lc478_0) rfl rfl) rfl rfl) (rk_o (rk_s) rfl rfl) (rk_s) H (SF_refl) (SA_refl)   (show inr (0) from q_20) (show (0) ≤ (0) from q_25) (show (0) ≤ (0) ∨ (0) ≤ ((12)) from q_2428) rfl
                                    as_aux_lemma =>
                                    intro m
                                    induction m using Nat.strongRecOn with
                                    | _ m ih487 =>
                                      intro ls σ F_487 A_487 x487_15 l487_0 l487_14 l487_15 H hS_487 hA_487   j487_0 j487_1 j487_2 hm487
                                      refine Ew_of (pcₚ := 489) (fun _ => x_iload rfl l487_15) ?_
                                      refine Ew_of (pcₚ := 491) (fun _ => x_bipush (z := 12) rfl (by decide)) ?_
                                      refine w_icmpge (t := 519) rfl rfl (show inr (x487_15) from j487_0) (show inr (12) from q_356) (fun b59 => ?_) (fun b59 => ?_)
                                      · refine Ew_of (pcₚ := 521) (fun _ => x_iload rfl l487_14) ?_
                                        exact w_ireturn rfl (k (z58) σ _ _ H (SF_trans (SF_trans (SF_trans (SF_trans (SF_trans (SF_trans (SF_trans (SF_upd (SF_trans (SF_trans (SF_trans (SF_trans (SF_trans (SF_trans (SF_trans (SF_trans (SF_trans (SF_trans (SF_trans (SF_trans (SF_upd (SF_trans (SF_trans (SF_refl) hS_c11 (any_sub rfl)) hS_16 (any_sub rfl)) rfl) hS_c58 (any_sub rfl)) hS_c109 (any_sub rfl)) hS_c167 (any_sub rfl)) hS11 (any_sub rfl)) hS_c194 (any_sub rfl)) hS_c206 (any_sub rfl)) hS20 (any_sub rfl)) hS_c226 (any_sub rfl)) hS_c241 (any_sub rfl)) hS29 (any_sub rfl)) hS_c302 (any_sub rfl)) hS_c324 (any_sub rfl)) rfl) hS_c347 (any_sub rfl)) hS_c366 (any_sub rfl)) hS38 (any_sub rfl)) hS_378 (any_sub rfl)) hS_c478 (any_sub rfl)) hS56 (any_sub rfl)) hS_487 (any_sub rfl)) (SA_trans (SA_trans (SA_trans (SA_trans (SA_trans (SA_trans (SA_trans (SA_trans (SA_trans (SA_trans (SA_trans (SA_trans (SA_trans (SA_trans (SA_trans (SA_trans (SA_trans (SA_trans (SA_trans (SA_trans (SA_trans (SA_refl) hA_c11 (any_subA rfl)) hA_16 (any_subA rfl)) hA_c58 (any_subA rfl)) hA_c109 (any_subA rfl)) hA_c167 (any_subA rfl)) hA12 (any_subA rfl)) hA_c194 (any_subA rfl)) hA_c206 (any_subA rfl)) hA21 (any_subA rfl)) hA_c226 (any_subA rfl)) hA_c241 (any_subA rfl)) hA30 (any_subA rfl)) hA_c302 (any_subA rfl)) hA_c324 (any_subA rfl)) hA_c347 (any_subA rfl)) hA_c366 (any_subA rfl)) hA39 (any_subA rfl)) hA_378 (any_subA rfl)) hA_c478 (any_subA rfl)) hA57 (any_subA rfl)) hA_487 (any_subA rfl)) (show inr (z58) from pz58_0) (show -1 ≤ (z58) ∧ (z58) ≤ 65536 from pz58_1))
                                      · refine Ew_of (pcₚ := 496) (fun _ => x_iload rfl l487_14) ?_
                                        refine w_iflt (t := 519) rfl rfl (show inr (z58) from pz58_0) (fun b60 => ?_) (fun b60 => ?_)
                                        · refine Ew_of (pcₚ := 521) (fun _ => x_iload rfl l487_14) ?_
                                          exact w_ireturn rfl (k (z58) σ _ _ H (SF_trans (SF_trans (SF_trans (SF_trans (SF_trans (SF_trans (SF_trans (SF_upd (SF_trans (SF_trans (SF_trans (SF_trans (SF_trans (SF_trans (SF_trans (SF_trans (SF_trans (SF_trans (SF_trans (SF_trans (SF_upd (SF_trans (SF_trans (SF_refl) hS_c11 (any_sub rfl)) hS_16 (any_sub rfl)) rfl) hS_c58 (any_sub rfl)) hS_c109 (any_sub rfl)) hS_c167 (any_sub rfl)) hS11 (any_sub rfl)) hS_c194 (any_sub rfl)) hS_c206 (any_sub rfl)) hS20 (any_sub rfl)) hS_c226 (any_sub rfl)) hS_c241 (any_sub rfl)) hS29 (any_sub rfl)) hS_c302 (any_sub rfl)) hS_c324 (any_sub rfl)) rfl) hS_c347 (any_sub rfl)) hS_c366 (any_sub rfl)) hS38 (any_sub rfl)) hS_378 (any_sub rfl)) hS_c478 (any_sub rfl)) hS56 (any_sub rfl)) hS_487 (any_sub rfl)) (SA_trans (SA_trans (SA_trans (SA_trans (SA_trans (SA_trans (SA_trans (SA_trans (SA_trans (SA_trans (SA_trans (SA_trans (SA_trans (SA_trans (SA_trans (SA_trans (SA_trans (SA_trans (SA_trans (SA_trans (SA_trans (SA_refl) hA_c11 (any_subA rfl)) hA_16 (any_subA rfl)) hA_c58 (any_subA rfl)) hA_c109 (any_subA rfl)) hA_c167 (any_subA rfl)) hA12 (any_subA rfl)) hA_c194 (any_subA rfl)) hA_c206 (any_subA rfl)) hA21 (any_subA rfl)) hA_c226 (any_subA rfl)) hA_c241 (any_subA rfl)) hA30 (any_subA rfl)) hA_c302 (any_subA rfl)) hA_c324 (any_subA rfl)) hA_c347 (any_subA rfl)) hA_c366 (any_subA rfl)) hA39 (any_subA rfl)) hA_378 (any_subA rfl)) hA_c478 (any_subA rfl)) hA57 (any_subA rfl)) hA_487 (any_subA rfl)) (show inr (z58) from pz58_0) (show -1 ≤ (z58) ∧ (z58) ≤ 65536 from pz58_1))
                                        · refine Ew_of (pcₚ := 500) (fun _ => x_aload_n rfl l487_0) ?_
                                          refine w_gT H (o := 6) (t := 88) rfl (H.perm 6 rfl) rfl rfl rfl rfl rfl rfl ?_
                                          refine Ew_of (pcₚ := 505) (fun _ => x_iload rfl l487_15) ?_
                                          refine Ew_of (pcₚ := 506) (fun _ => x_aload_n rfl l487_0) ?_
                                          refine w_gT H (o := 6) (t := 87) rfl (H.perm 6 rfl) rfl rfl rfl rfl rfl rfl ?_
                                          refine Ew_of (pcₚ := 511) (fun _ => x_iload rfl l487_15) ?_
                                          refine w_lI H (o := 87) (n := 12) rfl (H.perm 87 rfl) rfl rfl (H.fix 87 rfl rfl) (show 0 ≤ x487_15 ∧ x487_15 < ((12 : Nat) : Int) from q_2438 b59 j487_1) (by decide) (fun v61 ev61 qv61 => ?_)
                                          have qv61 : (-2147483648 : Int) ≤ v61 ∧ v61 ≤ 2147483647 := qv61
                                          have ev61 : (A_378 87) (x487_15) = v61 := (congrFun ((funext (hA_487 87 rfl)).trans ((funext (hA57 87 rfl)).trans (funext (hA_c478 87 rfl)))) (x487_15)).symm.trans ev61
                                          refine w_sI H (o := 88) (n := 12) rfl (H.perm 88 rfl) rfl rfl (H.fix 88 rfl rfl) (show 0 ≤ x487_15 ∧ x487_15 < ((12 : Nat) : Int) from q_2438 b59 j487_1) (by decide) (show (-2147483648 : Int) ≤ v61 ∧ v61 ≤ 2147483647 from qv61) (fun σ H => ?_)
                                          refine Ew_of (pcₚ := 516) (fun _ => x_iinc (len := 3) rfl (l487_15)) ?_
                                          refine Ew_of (pcₚ := 487) (fun _ => x_goto rfl rfl) ?_
                                          exact ih487 _ (msE hm487 q_2323 (q_2406 b59)) _ σ _ _ ((x487_15 + 1)) (rk_o (l487_0) rfl rfl) (rk_o (l487_14) rfl rfl) (rk_s) H (hS_487) (SA_upd (hA_487) rfl)   (show inr ((x487_15 + 1)) from q_2440 b59 j487_1) (show (0) ≤ ((x487_15 + 1)) from q_29 j487_1) (show ((x487_15 + 1)) ≤ (0) ∨ ((x487_15 + 1)) ≤ ((12)) from q_2439 b59) rfl
                                  refine Ew_of (pcₚ := 460) (fun _ => x_iload_n rfl l378_1) ?_
                                  refine Ew_of (pcₚ := 461) (fun _ => x_iconst rfl) ?_
                                  refine w_iand rfl (show inr (a1) from h0) (show inr (1) from q_23) (fun z62 gz62 gaz62 gbz62 => ?_)
                                  refine w_ifeq (t := 478) rfl rfl (show inr (z62) from gz62) (fun b63 => ?_) (fun b63 => ?_)
                                  · exact hc478  _ σ _ _  (l378_0) H (SF_refl) (SA_refl) (y378_6_37) ((ey378_6_37))  (show 0 ≤ (y378_6_37) ∧ (y378_6_37) ≤ 90000 from q_2441 h7 j378_2 j378_5 r1 r51)
                                  · refine Ew_of (pcₚ := 466) (fun _ => x_aload_n rfl l378_0) ?_
                                    refine Ew_of (pcₚ := 467) (fun _ => x_aload_n rfl l378_0) ?_
                                    refine w_inv H (o := 6) rfl rfl rfl (H.perm 6 rfl) rfl rfl (by rfl) (M453 H  (fun z68 σ F64 A65 H hS66 hA67 pz68_0 => ⟨rfl, ?_⟩))
                                    refine Ew_of (pcₚ := 473) (fun _ => x_ldc2 (z := 4294967295) rfl (by decide)) ?_
                                    refine w_land rfl (show inrJ (z68) from pz68_0) (show inrJ (4294967295) from q_50) (fun z69 gz69 gaz69 gbz69 => ?_)
                                    refine Ew_of (pcₚ := 475) (fun _ => x_iconst rfl) ?_
                                    refine w_inv H (o := 6) rfl rfl rfl (H.perm 6 rfl) rfl rfl (by rfl) (M393 H (y378_6_37) (((hS66 6 37 rfl).trans (ey378_6_37))) (show inrJ (z69) from gz69) (show inr (4) from q_2) (show 0 ≤ (4) ∧ (4) ≤ 8 from q_381) (show 0 ≤ (y378_6_37) ∧ (y378_6_37) ≤ 90000000 from q_2442 j378_2 j378_5 r1 r51) (fun σ F70 A71 H hS72 hA73 y75 ey76 pz74_0 => ⟨rfl, ?_⟩))
                                    have r77 : (0 : Int) ≤ y75 ∧ y75 ≤ 100000000 := rngE (show (0 : Int) ≤ F70 6 37 ∧ F70 6 37 ≤ 100000000 from H.frng 6 37) (show F70 6 37 = y75 from (ey76))
                                    exact hc478  _ σ _ _  (l378_0) H (SF_trans (SF_trans (SF_refl) hS66 (any_sub rfl)) hS72 (any_sub rfl)) (SA_trans (SA_trans (SA_refl) hA67 (any_subA rfl)) hA73 (any_subA rfl)) (y75) ((ey76))  (show 0 ≤ (y75) ∧ (y75) ≤ 90000 from q_2443 h7 j378_2 j378_5 pz74_0 r1 r77)
                                · refine Ew_of (pcₚ := 385) (fun _ => x_iload rfl l378_12) ?_
                                  refine Ew_of (pcₚ := 387) (fun _ => x_iload rfl l378_11) ?_
                                  refine w_iadd rfl ?_
                                  refine Ew_of (pcₚ := 389) (fun _ => x_aload_n rfl l378_0) ?_
                                  refine w_gT H (o := 6) (t := 1) rfl (H.perm 6 rfl) rfl rfl rfl rfl rfl rfl ?_
                                  refine w_gI H (o := 1) (w := u1_1) rfl (H.perm 1 rfl) rfl rfl rfl (fun _ => rfl) (((((((((((((((((((hS_378 1 1 rfl).trans (hS38 1 1 rfl)).trans (hS_c366 1 1 rfl)).trans (hS_c347 1 1 rfl)).trans (hS_c324 1 1 rfl)).trans (hS_c302 1 1 rfl)).trans (hS29 1 1 rfl)).trans (hS_c241 1 1 rfl)).trans (hS_c226 1 1 rfl)).trans (hS20 1 1 rfl)).trans (hS_c206 1 1 rfl)).trans (hS_c194 1 1 rfl)).trans (hS11 1 1 rfl)).trans (hS_c167 1 1 rfl)).trans (hS_c109 1 1 rfl)).trans (hS_c58 1 1 rfl)).trans (hS_16 1 1 rfl)).trans (hS_c11 1 1 rfl)).trans (eu1_1)) ?_
                                  have hc413 : ∀ (tc413_0 : Int), ∀ (ls : rO) (σ : rS) (F_c413 : hF) (A_c413 : hA) , rlook ls 0 = some (.ref (D 6)) → rlook ls 1 = some (I (a1)) → rlook ls 11 = some (I (tc366_0)) → rlook ls 12 = some (I (x378_12)) → HS σ0 σ D N F_c413 A_c413 → SF [] F_378 F_c413 → SA [] A_378 A_c413 → (inr (tc413_0)) → ((((x378_12 + tc366_0)) ≥ (u1_1) ∧ (tc413_0) = (u1_1)) ∨ (((x378_12 + tc366_0)) < (u1_1) ∧ (tc413_0) = ((x378_12 + tc366_0)))) → Ew 450 (d + 8) 413 ls [I (tc413_0)] σ c s Q := by
                                   as_aux_lemma =>
                                    intro tc413_0 ls σ F_c413 A_c413  lc413_0 lc413_1 lc413_11 lc413_12 H hS_c413 hA_c413   jc413_0 jc413_1
                                    refine Ew_of (pcₚ := 415) (fun _ => x_istore rfl) ?_
                                    refine Ew_of (pcₚ := 417) (fun _ => x_iload rfl rk_s) ?_
                                    refine Ew_of (pcₚ := 418) (fun _ => x_aload_n rfl (rk_o (lc413_0) rfl rfl)) ?_
                                    refine w_gT H (o := 6) (t := 1) rfl (H.perm 6 rfl) rfl rfl rfl rfl rfl rfl ?_
                                    refine w_gI H (o := 1) (w := u1_1) rfl (H.perm 1 rfl) rfl rfl rfl (fun _ => rfl) ((((((((((((((((((((hS_c413 1 1 rfl).trans (hS_378 1 1 rfl)).trans (hS38 1 1 rfl)).trans (hS_c366 1 1 rfl)).trans (hS_c347 1 1 rfl)).trans (hS_c324 1 1 rfl)).trans (hS_c302 1 1 rfl)).trans (hS29 1 1 rfl)).trans (hS_c241 1 1 rfl)).trans (hS_c226 1 1 rfl)).trans (hS20 1 1 rfl)).trans (hS_c206 1 1 rfl)).trans (hS_c194 1 1 rfl)).trans (hS11 1 1 rfl)).trans (hS_c167 1 1 rfl)).trans (hS_c109 1 1 rfl)).trans (hS_c58 1 1 rfl)).trans (hS_16 1 1 rfl)).trans (hS_c11 1 1 rfl)).trans (eu1_1)) ?_
                                    have hc432 : ∀ (tc432_0 : Int), ∀ (ls : rO) (σ : rS) (F_c432 : hF) (A_c432 : hA) , rlook ls 0 = some (.ref (D 6)) → rlook ls 1 = some (I (a1)) → rlook ls 11 = some (I (tc366_0)) → rlook ls 12 = some (I (x378_12)) → rlook ls 14 = some (I (tc413_0)) → HS σ0 σ D N F_c432 A_c432 → SF [] F_c413 F_c432 → SA [] A_c413 A_c432 → (inr (tc432_0)) → (((tc413_0) ≥ (u1_1) ∧ (tc432_0) = (0)) ∨ ((tc413_0) < (u1_1) ∧ (tc432_0) = (1))) → Ew 450 (d + 8) 432 ls [I (tc432_0)] σ c s Q := by
                                     as_aux_lemma =>
                                      intro tc432_0 ls σ F_c432 A_c432  lc432_0 lc432_1 lc432_11 lc432_12 lc432_14 H hS_c432 hA_c432   jc432_0 jc432_1
                                      refine Ew_of (pcₚ := 434) (fun _ => x_istore rfl) ?_
                                      refine Ew_of (pcₚ := 435) (fun _ => x_aload_n rfl (rk_o (lc432_0) rfl rfl)) ?_
                                      refine Ew_of (pcₚ := 437) (fun _ => x_iload rfl (rk_o (lc432_12) rfl rfl)) ?_
                                      refine Ew_of (pcₚ := 439) (fun _ => x_iload rfl (rk_o (lc432_14) rfl rfl)) ?_
                                      refine Ew_of (pcₚ := 441) (fun _ => x_iload rfl rk_s) ?_
                                      refine w_ifne (t := 448) rfl rfl (show inr (tc432_0) from jc432_0) (fun b78 => ?_) (fun b78 => ?_)
                                      · refine Ew_of (pcₚ := 449) (fun _ => x_iconst rfl) ?_
                                        refine w_inv H (o := 6) rfl rfl rfl (H.perm 6 rfl) rfl rfl (by rfl) (M449 H (u1_1) ((((((((((((((((((((((hS_c432 1 1 rfl).trans (hS_c413 1 1 rfl)).trans (hS_378 1 1 rfl)).trans (hS38 1 1 rfl)).trans (hS_c366 1 1 rfl)).trans (hS_c347 1 1 rfl)).trans (hS_c324 1 1 rfl)).trans (hS_c302 1 1 rfl)).trans (hS29 1 1 rfl)).trans (hS_c241 1 1 rfl)).trans (hS_c226 1 1 rfl)).trans (hS20 1 1 rfl)).trans (hS_c206 1 1 rfl)).trans (hS_c194 1 1 rfl)).trans (hS11 1 1 rfl)).trans (hS_c167 1 1 rfl)).trans (hS_c109 1 1 rfl)).trans (hS_c58 1 1 rfl)).trans (hS_16 1 1 rfl)).trans (hS_c11 1 1 rfl)).trans (eu1_1))) (u6_2) ((((((((((((((((((((((hS_c432 6 2 rfl).trans (hS_c413 6 2 rfl)).trans (hS_378 6 2 rfl)).trans (hS38 6 2 rfl)).trans (hS_c366 6 2 rfl)).trans (hS_c347 6 2 rfl)).trans (hS_c324 6 2 rfl)).trans (hS_c302 6 2 rfl)).trans (hS29 6 2 rfl)).trans (hS_c241 6 2 rfl)).trans (hS_c226 6 2 rfl)).trans (hS20 6 2 rfl)).trans (hS_c206 6 2 rfl)).trans (hS_c194 6 2 rfl)).trans (hS11 6 2 rfl)).trans (hS_c167 6 2 rfl)).trans (hS_c109 6 2 rfl)).trans (hS_c58 6 2 rfl)).trans (hS_16 6 2 rfl)).trans (hS_c11 6 2 rfl)).trans (eu6_2))) (u6_4) ((((((((((((((((((((((hS_c432 6 4 rfl).trans (hS_c413 6 4 rfl)).trans (hS_378 6 4 rfl)).trans (hS38 6 4 rfl)).trans (hS_c366 6 4 rfl)).trans (hS_c347 6 4 rfl)).trans (hS_c324 6 4 rfl)).trans (hS_c302 6 4 rfl)).trans (hS29 6 4 rfl)).trans (hS_c241 6 4 rfl)).trans (hS_c226 6 4 rfl)).trans (hS20 6 4 rfl)).trans (hS_c206 6 4 rfl)).trans (hS_c194 6 4 rfl)).trans (hS11 6 4 rfl)).trans (hS_c167 6 4 rfl)).trans (hS_c109 6 4 rfl)).trans (hS_c58 6 4 rfl)).trans (hS_16 6 4 rfl)).trans (hS_c11 6 4 rfl)).trans (eu6_4))) (y378_6_12) ((((hS_c432 6 12 rfl).trans (hS_c413 6 12 rfl)).trans (ey378_6_12))) (y378_6_37) ((((hS_c432 6 37 rfl).trans (hS_c413 6 37 rfl)).trans (ey378_6_37))) (w378_53) ((funext (hA_c432 53 rfl)).trans ((funext (hA_c413 53 rfl)).trans (ew378_53))) (w378_54) ((funext (hA_c432 54 rfl)).trans ((funext (hA_c413 54 rfl)).trans (ew378_54))) (w378_55) ((funext (hA_c432 55 rfl)).trans ((funext (hA_c413 55 rfl)).trans (ew378_55))) (show inr (x378_12) from j378_0) (show inr (tc413_0) from jc413_0) (show inr (0) from q_20) (show (0) = 0 ∨ (0) = 1 from q_1) (show 0 ≤ (x378_12) ∧ (x378_12) ≤ (tc413_0) ∧ (tc413_0) ≤ (u1_1) from q_2445 j378_2 j378_4 jc413_1 jc432_1) (show 0 ≤ (y378_6_37) ∧ (y378_6_37) ≤ 40000000 from q_2444 j378_2 j378_5 r1 r51) (show 3 ≤ (u6_2) from h6) (show 0 ≤ (u6_4) ∧ (u6_4) + (u1_1) ≤ 16384 from h7) (show WC ((y378_6_12)) ((w378_53)) from j378_7) (show WO ((w378_54)) ((w378_55)) from j378_8) (fun σ F79 A80 H hS81 hA82 y84 ey85 y86 ey87 wq88 ewq89 wq90 ewq91 wq92 ewq93 pz83_0 pz83_1 pz83_2 => ⟨rfl, ?_⟩))
                                        have r94 : (0 : Int) ≤ y84 ∧ y84 ≤ 11 := rngE (show (0 : Int) ≤ F79 6 12 ∧ F79 6 12 ≤ 11 from H.frng 6 12) (show F79 6 12 = y84 from (ey85))
                                        have r95 : (0 : Int) ≤ y86 ∧ y86 ≤ 100000000 := rngE (show (0 : Int) ≤ F79 6 37 ∧ F79 6 37 ≤ 100000000 from H.frng 6 37) (show F79 6 37 = y86 from (ey87))
                                        refine Ew_of (pcₚ := 454) (fun _ => x_iload rfl (rk_o (lc432_14) rfl rfl)) ?_
                                        refine Ew_of (pcₚ := 456) (fun _ => x_istore rfl) ?_
                                        refine Ew_of (pcₚ := 378) (fun _ => x_goto rfl rfl) ?_
                                        exact ih378 _ (by omega) _ σ _ _ (tc413_0) (tc432_0) (rk_o (rk_o (lc432_0) rfl rfl) rfl rfl) (rk_o (rk_o (lc432_1) rfl rfl) rfl rfl) (rk_o (rk_o (lc432_11) rfl rfl) rfl rfl) (rk_s) (rk_o (rk_s) rfl rfl) H (SF_trans (SF_trans (SF_trans (hS_378) hS_c413 (any_sub rfl)) hS_c432 (any_sub rfl)) hS81 (any_sub rfl)) (SA_trans (SA_trans (SA_trans (hA_378) hA_c413 (any_subA rfl)) hA_c432 (any_subA rfl)) hA82 (any_subA rfl)) (y84) ((ey85)) (y86) ((ey87)) (wq88) (ewq89) (wq90) (ewq91) (wq92) (ewq93) (show inr (tc413_0) from jc413_0) (show inr (tc432_0) from jc432_0) (show 0 ≤ (tc413_0) ∧ (tc413_0) ≤ (u1_1) from q_2446 j378_2 j378_4 j378_5 jc413_1 jc432_1 r1) (show (tc432_0) = 0 ∨ (tc432_0) = 1 by omega) (show 1 ≤ (tc366_0) ∧ (tc366_0) ≤ 131072 from j378_4) (show 0 ≤ (y86) ∧ (y86) ≤ 44 + 5 * (tc413_0) by omega) (show (tc432_0) = 1 → (y86) ≤ 40 + 5 * (tc413_0) by omega) (show WC ((y84)) ((wq88)) from pz83_1) (show WO ((wq90)) ((wq92)) from pz83_2) rfl
                                      · refine Ew_of (pcₚ := 445) (fun _ => x_iconst rfl) ?_
                                        refine Ew_of (pcₚ := 449) (fun _ => x_goto rfl rfl) ?_
                                        refine w_inv H (o := 6) rfl rfl rfl (H.perm 6 rfl) rfl rfl (by rfl) (M449 H (u1_1) ((((((((((((((((((((((hS_c432 1 1 rfl).trans (hS_c413 1 1 rfl)).trans (hS_378 1 1 rfl)).trans (hS38 1 1 rfl)).trans (hS_c366 1 1 rfl)).trans (hS_c347 1 1 rfl)).trans (hS_c324 1 1 rfl)).trans (hS_c302 1 1 rfl)).trans (hS29 1 1 rfl)).trans (hS_c241 1 1 rfl)).trans (hS_c226 1 1 rfl)).trans (hS20 1 1 rfl)).trans (hS_c206 1 1 rfl)).trans (hS_c194 1 1 rfl)).trans (hS11 1 1 rfl)).trans (hS_c167 1 1 rfl)).trans (hS_c109 1 1 rfl)).trans (hS_c58 1 1 rfl)).trans (hS_16 1 1 rfl)).trans (hS_c11 1 1 rfl)).trans (eu1_1))) (u6_2) ((((((((((((((((((((((hS_c432 6 2 rfl).trans (hS_c413 6 2 rfl)).trans (hS_378 6 2 rfl)).trans (hS38 6 2 rfl)).trans (hS_c366 6 2 rfl)).trans (hS_c347 6 2 rfl)).trans (hS_c324 6 2 rfl)).trans (hS_c302 6 2 rfl)).trans (hS29 6 2 rfl)).trans (hS_c241 6 2 rfl)).trans (hS_c226 6 2 rfl)).trans (hS20 6 2 rfl)).trans (hS_c206 6 2 rfl)).trans (hS_c194 6 2 rfl)).trans (hS11 6 2 rfl)).trans (hS_c167 6 2 rfl)).trans (hS_c109 6 2 rfl)).trans (hS_c58 6 2 rfl)).trans (hS_16 6 2 rfl)).trans (hS_c11 6 2 rfl)).trans (eu6_2))) (u6_4) ((((((((((((((((((((((hS_c432 6 4 rfl).trans (hS_c413 6 4 rfl)).trans (hS_378 6 4 rfl)).trans (hS38 6 4 rfl)).trans (hS_c366 6 4 rfl)).trans (hS_c347 6 4 rfl)).trans (hS_c324 6 4 rfl)).trans (hS_c302 6 4 rfl)).trans (hS29 6 4 rfl)).trans (hS_c241 6 4 rfl)).trans (hS_c226 6 4 rfl)).trans (hS20 6 4 rfl)).trans (hS_c206 6 4 rfl)).trans (hS_c194 6 4 rfl)).trans (hS11 6 4 rfl)).trans (hS_c167 6 4 rfl)).trans (hS_c109 6 4 rfl)).trans (hS_c58 6 4 rfl)).trans (hS_16 6 4 rfl)).trans (hS_c11 6 4 rfl)).trans (eu6_4))) (y378_6_12) ((((hS_c432 6 12 rfl).trans (hS_c413 6 12 rfl)).trans (ey378_6_12))) (y378_6_37) ((((hS_c432 6 37 rfl).trans (hS_c413 6 37 rfl)).trans (ey378_6_37))) (w378_53) ((funext (hA_c432 53 rfl)).trans ((funext (hA_c413 53 rfl)).trans (ew378_53))) (w378_54) ((funext (hA_c432 54 rfl)).trans ((funext (hA_c413 54 rfl)).trans (ew378_54))) (w378_55) ((funext (hA_c432 55 rfl)).trans ((funext (hA_c413 55 rfl)).trans (ew378_55))) (show inr (x378_12) from j378_0) (show inr (tc413_0) from jc413_0) (show inr (1) from q_23) (show (1) = 0 ∨ (1) = 1 from q_5) (show 0 ≤ (x378_12) ∧ (x378_12) ≤ (tc413_0) ∧ (tc413_0) ≤ (u1_1) from q_2447 b78 h7 j378_2 jc413_0 jc413_1 jc432_1) (show 0 ≤ (y378_6_37) ∧ (y378_6_37) ≤ 40000000 from q_2444 j378_2 j378_5 r1 r51) (show 3 ≤ (u6_2) from h6) (show 0 ≤ (u6_4) ∧ (u6_4) + (u1_1) ≤ 16384 from h7) (show WC ((y378_6_12)) ((w378_53)) from j378_7) (show WO ((w378_54)) ((w378_55)) from j378_8) (fun σ F96 A97 H hS98 hA99 y101 ey102 y103 ey104 wq105 ewq106 wq107 ewq108 wq109 ewq110 pz100_0 pz100_1 pz100_2 => ⟨rfl, ?_⟩))
                                        have r111 : (0 : Int) ≤ y101 ∧ y101 ≤ 11 := rngE (show (0 : Int) ≤ F96 6 12 ∧ F96 6 12 ≤ 11 from H.frng 6 12) (show F96 6 12 = y101 from (ey102))
                                        have r112 : (0 : Int) ≤ y103 ∧ y103 ≤ 100000000 := rngE (show (0 : Int) ≤ F96 6 37 ∧ F96 6 37 ≤ 100000000 from H.frng 6 37) (show F96 6 37 = y103 from (ey104))
                                        refine Ew_of (pcₚ := 454) (fun _ => x_iload rfl (rk_o (lc432_14) rfl rfl)) ?_
                                        refine Ew_of (pcₚ := 456) (fun _ => x_istore rfl) ?_
                                        refine Ew_of (pcₚ := 378) (fun _ => x_goto rfl rfl) ?_
                                        exact ih378 _ (by omega) _ σ _ _ (tc413_0) (tc432_0) (rk_o (rk_o (lc432_0) rfl rfl) rfl rfl) (rk_o (rk_o (lc432_1) rfl rfl) rfl rfl) (rk_o (rk_o (lc432_11) rfl rfl) rfl rfl) (rk_s) (rk_o (rk_s) rfl rfl) H (SF_trans (SF_trans (SF_trans (hS_378) hS_c413 (any_sub rfl)) hS_c432 (any_sub rfl)) hS98 (any_sub rfl)) (SA_trans (SA_trans (SA_trans (hA_378) hA_c413 (any_subA rfl)) hA_c432 (any_subA rfl)) hA99 (any_subA rfl)) (y101) ((ey102)) (y103) ((ey104)) (wq105) (ewq106) (wq107) (ewq108) (wq109) (ewq110) (show inr (tc413_0) from jc413_0) (show inr (tc432_0) from jc432_0) (show 0 ≤ (tc413_0) ∧ (tc413_0) ≤ (u1_1) from q_2450 b78 j378_2 jc413_1 jc432_1 pz100_0 r1) (show (tc432_0) = 0 ∨ (tc432_0) = 1 from q_536 b78) (show 1 ≤ (tc366_0) ∧ (tc366_0) ≤ 131072 from j378_4) (show 0 ≤ (y103) ∧ (y103) ≤ 44 + 5 * (tc413_0) from q_2449 b52 b78 j378_2 j378_3 j378_6 jc432_1 pz100_0 r112) (show (tc432_0) = 1 → (y103) ≤ 40 + 5 * (tc413_0) from q_2448 b78 jc413_0 r112) (show WC ((y101)) ((wq105)) from pz100_1) (show WO ((wq107)) ((wq109)) from pz100_2) rfl
                                    refine w_icmpge (t := 431) rfl rfl (show inr (tc413_0) from jc413_0) (show inr (u1_1) from q_12 r1) (fun b113 => ?_) (fun b113 => ?_)
                                    · refine Ew_of (pcₚ := 432) (fun _ => x_iconst rfl) ?_
                                      exact hc432 (0) _ σ _ _  (rk_o (lc413_0) rfl rfl) (rk_o (lc413_1) rfl rfl) (rk_o (lc413_11) rfl rfl) (rk_o (lc413_12) rfl rfl) (rk_s) H (SF_refl) (SA_refl)   (show inr (0) from q_20) (show ((tc413_0) ≥ (u1_1) ∧ (0) = (0)) ∨ ((tc413_0) < (u1_1) ∧ (0) = (1)) from q_2451 b113)
                                    · refine Ew_of (pcₚ := 428) (fun _ => x_iconst rfl) ?_
                                      refine Ew_of (pcₚ := 432) (fun _ => x_goto rfl rfl) ?_
                                      exact hc432 (1) _ σ _ _  (rk_o (lc413_0) rfl rfl) (rk_o (lc413_1) rfl rfl) (rk_o (lc413_11) rfl rfl) (rk_o (lc413_12) rfl rfl) (rk_s) H (SF_refl) (SA_refl)   (show inr (1) from q_23) (show ((tc413_0) ≥ (u1_1) ∧ (1) = (0)) ∨ ((tc413_0) < (u1_1) ∧ (1) = (1)) from q_2452 b113)
                                  refine w_icmpge (t := 406) rfl rfl (show inr ((x378_12 + tc366_0)) from q_2453 j378_2 j378_4 j378_5 r1) (show inr (u1_1) from q_12 r1) (fun b114 => ?_) (fun b114 => ?_)
                                  · refine Ew_of (pcₚ := 407) (fun _ => x_aload_n rfl l378_0) ?_
                                    refine w_gT H (o := 6) (t := 1) rfl (H.perm 6 rfl) rfl rfl rfl rfl rfl rfl ?_
                                    refine w_gI H (o := 1) (w := u1_1) rfl (H.perm 1 rfl) rfl rfl rfl (fun _ => rfl) (((((((((((((((((((hS_378 1 1 rfl).trans (hS38 1 1 rfl)).trans (hS_c366 1 1 rfl)).trans (hS_c347 1 1 rfl)).trans (hS_c324 1 1 rfl)).trans (hS_c302 1 1 rfl)).trans (hS29 1 1 rfl)).trans (hS_c241 1 1 rfl)).trans (hS_c226 1 1 rfl)).trans (hS20 1 1 rfl)).trans (hS_c206 1 1 rfl)).trans (hS_c194 1 1 rfl)).trans (hS11 1 1 rfl)).trans (hS_c167 1 1 rfl)).trans (hS_c109 1 1 rfl)).trans (hS_c58 1 1 rfl)).trans (hS_16 1 1 rfl)).trans (hS_c11 1 1 rfl)).trans (eu1_1)) ?_
                                    exact hc413 (u1_1) _ σ _ _  (l378_0) (l378_1) (l378_11) (l378_12) H (SF_refl) (SA_refl)   (show inr (u1_1) from q_12 r1) (show (((x378_12 + tc366_0)) ≥ (u1_1) ∧ (u1_1) = (u1_1)) ∨ (((x378_12 + tc366_0)) < (u1_1) ∧ (u1_1) = ((x378_12 + tc366_0))) from q_953 b114)
                                  · refine Ew_of (pcₚ := 400) (fun _ => x_iload rfl l378_12) ?_
                                    refine Ew_of (pcₚ := 402) (fun _ => x_iload rfl l378_11) ?_
                                    refine w_iadd rfl ?_
                                    refine Ew_of (pcₚ := 413) (fun _ => x_goto rfl rfl) ?_
                                    exact hc413 ((x378_12 + tc366_0)) _ σ _ _  (l378_0) (l378_1) (l378_11) (l378_12) H (SF_refl) (SA_refl)   (show inr ((x378_12 + tc366_0)) from q_2454 b114 j378_4 j378_5 r1) (show (((x378_12 + tc366_0)) ≥ (u1_1) ∧ ((x378_12 + tc366_0)) = (u1_1)) ∨ (((x378_12 + tc366_0)) < (u1_1) ∧ ((x378_12 + tc366_0)) = ((x378_12 + tc366_0))) from q_954 b114)
                            refine w_icmplt (t := 360) rfl rfl (show inr (a3) from h2) (show inr (tc347_0) from jc347_0) (fun b115 => ?_) (fun b115 => ?_)
                            · refine Ew_of (pcₚ := 361) (fun _ => x_iload_n rfl (rk_o (lc347_3) rfl rfl)) ?_
                              refine Ew_of (pcₚ := 366) (fun _ => x_goto rfl rfl) ?_
                              exact hc366 (a3) _ σ _ _  (rk_o (lc347_0) rfl rfl) (rk_o (lc347_1) rfl rfl) H (SF_refl) (SA_refl)   (show inr (a3) from h2) (show ((a3) < (tc347_0) ∧ (a3) = (a3)) ∨ ((a3) ≥ (tc347_0) ∧ (tc347_0) ≠ (0) ∧ (a3) = (tc347_0)) ∨ ((a3) ≥ (tc347_0) ∧ (tc347_0) = (0) ∧ (a3) = (a3)) from q_2455 b115)
                            · refine Ew_of (pcₚ := 357) (fun _ => x_iload rfl rk_s) ?_
                              refine w_ifne (t := 364) rfl rfl (show inr (tc347_0) from jc347_0) (fun b116 => ?_) (fun b116 => ?_)
                              · refine Ew_of (pcₚ := 366) (fun _ => x_iload rfl rk_s) ?_
                                exact hc366 (tc347_0) _ σ _ _  (rk_o (lc347_0) rfl rfl) (rk_o (lc347_1) rfl rfl) H (SF_refl) (SA_refl)   (show inr (tc347_0) from jc347_0) (show ((a3) < (tc347_0) ∧ (tc347_0) = (a3)) ∨ ((a3) ≥ (tc347_0) ∧ (tc347_0) ≠ (0) ∧ (tc347_0) = (tc347_0)) ∨ ((a3) ≥ (tc347_0) ∧ (tc347_0) = (0) ∧ (tc347_0) = (a3)) from q_2456 b115 b116)
                              · refine Ew_of (pcₚ := 361) (fun _ => x_iload_n rfl (rk_o (lc347_3) rfl rfl)) ?_
                                refine Ew_of (pcₚ := 366) (fun _ => x_goto rfl rfl) ?_
                                exact hc366 (a3) _ σ _ _  (rk_o (lc347_0) rfl rfl) (rk_o (lc347_1) rfl rfl) H (SF_refl) (SA_refl)   (show inr (a3) from h2) (show ((a3) < (tc347_0) ∧ (a3) = (a3)) ∨ ((a3) ≥ (tc347_0) ∧ (tc347_0) ≠ (0) ∧ (a3) = (tc347_0)) ∨ ((a3) ≥ (tc347_0) ∧ (tc347_0) = (0) ∧ (a3) = (a3)) from q_2457 b115 b116)
                          refine w_icmpge (t := 344) rfl rfl (show inr (tc324_0) from jc324_0) (show inr (131072) from q_1604) (fun b117 => ?_) (fun b117 => ?_)
                          · refine Ew_of (pcₚ := 347) (fun _ => x_ldc_w (z := 131072) rfl (by decide)) ?_
                            exact hc347 (131072) _ σ _ _  (lc324_0) (lc324_1) (lc324_3) H (SF_refl) (SA_refl)   (show inr (131072) from q_1604) (show ((tc324_0) ≥ (131072) ∧ (131072) = (131072)) ∨ ((tc324_0) < (131072) ∧ 0 ≤ (tc324_0) ∧ (tc324_0) ≤ 16777216 ∧ (131072) = (tc324_0)) from q_2458 b117)
                          · refine Ew_of (pcₚ := 338) (fun _ => x_aload_n rfl lc324_0) ?_
                            refine w_gI H (o := 6) (w := tc324_0) rfl (H.perm 6 rfl) rfl rfl rfl (fun _ => rfl) rfl ?_
                            refine Ew_of (pcₚ := 347) (fun _ => x_goto rfl rfl) ?_
                            exact hc347 (tc324_0) _ σ _ _  (lc324_0) (lc324_1) (lc324_3) H (SF_refl) (SA_refl)   (show inr (tc324_0) from jc324_0) (show ((tc324_0) ≥ (131072) ∧ (tc324_0) = (131072)) ∨ ((tc324_0) < (131072) ∧ 0 ≤ (tc324_0) ∧ (tc324_0) ≤ 16777216 ∧ (tc324_0) = (tc324_0)) by omega)
                        refine w_ifeq (t := 318) rfl rfl (show inr (tc11_0) from jc11_0) (fun b118 => ?_) (fun b118 => ?_)
                        · refine Ew_of (pcₚ := 319) (fun _ => x_iconst rfl) ?_
                          refine Ew_of (pcₚ := 321) (fun _ => x_bipush (z := 10) rfl (by decide)) ?_
                          refine Ew_of (pcₚ := 322) (fun _ => x_iload_n rfl lc302_2) ?_
                          refine w_iadd rfl ?_
                          refine w_ishl1 rfl (show 0 ≤ (10 + a2) ∧ (10 + a2) ≤ 31 from q_2459 h4) ?_
                          exact hc324 (p2 ((10 + a2))) _ σ _ _  (lc302_0) (lc302_1) (lc302_3) H (SF_refl) (SA_refl)   (show inr (p2 ((10 + a2))) by omega) (show ((tc11_0) = (0) ∧ (p2 ((10 + a2))) = (p2 ((10 + a2)))) ∨ ((tc11_0) ≠ (0) ∧ (p2 ((10 + a2))) = (u1_1)) from q_1179 b118)
                        · refine Ew_of (pcₚ := 309) (fun _ => x_aload_n rfl lc302_0) ?_
                          refine w_gT H (o := 6) (t := 1) rfl (H.perm 6 rfl) rfl rfl rfl rfl rfl rfl ?_
                          refine w_gI H (o := 1) (w := u1_1) rfl (H.perm 1 rfl) rfl rfl rfl (fun _ => rfl) ((((((((((((((hS_c302 1 1 rfl).trans (hS29 1 1 rfl)).trans (hS_c241 1 1 rfl)).trans (hS_c226 1 1 rfl)).trans (hS20 1 1 rfl)).trans (hS_c206 1 1 rfl)).trans (hS_c194 1 1 rfl)).trans (hS11 1 1 rfl)).trans (hS_c167 1 1 rfl)).trans (hS_c109 1 1 rfl)).trans (hS_c58 1 1 rfl)).trans (hS_16 1 1 rfl)).trans (hS_c11 1 1 rfl)).trans (eu1_1)) ?_
                          refine Ew_of (pcₚ := 324) (fun _ => x_goto rfl rfl) ?_
                          exact hc324 (u1_1) _ σ _ _  (lc302_0) (lc302_1) (lc302_3) H (SF_refl) (SA_refl)   (show inr (u1_1) from q_12 r1) (show ((tc11_0) = (0) ∧ (u1_1) = (p2 ((10 + a2)))) ∨ ((tc11_0) ≠ (0) ∧ (u1_1) = (u1_1)) from q_1180 b118)
                      refine Ew_of (pcₚ := 246) (fun _ => x_iload rfl lc241_5) ?_
                      refine w_ifeq (t := 302) rfl rfl (show inr (tc58_0) from jc58_0) (fun b120 => ?_) (fun b120 => ?_)
                      · exact hc302  _ σ _ _  (lc241_0) (lc241_1) (lc241_2) (lc241_3) (lc241_4) H (SF_refl) (SA_refl) (y32) ((ey33))  (show 0 ≤ (y32) ∧ (y32) ≤ 16 by omega)
                      · refine Ew_of (pcₚ := 250) (fun _ => x_aload_n rfl lc241_0) ?_
                        refine Ew_of (pcₚ := 252) (fun _ => x_iload rfl lc241_6) ?_
                        refine Ew_of (pcₚ := 253) (fun _ => x_iconst rfl) ?_
                        have hc279 : ∀ (tc279_0 : Int), ∀ (ls : rO) (σ : rS) (F_c279 : hF) (A_c279 : hA) , rlook ls 0 = some (.ref (D 6)) → rlook ls 1 = some (I (a1)) → rlook ls 2 = some (I (a2)) → rlook ls 3 = some (I (a3)) → rlook ls 4 = some (I (tc11_0)) → rlook ls 6 = some (I (tc109_0)) → HS σ0 σ D N F_c279 A_c279 → SF [] F27 F_c279 → SA [] A28 A_c279 → (inrJ (tc279_0)) → (((tc109_0) ≠ (1) ∧ (tc279_0) = (u1_1)) ∨ ((tc109_0) = (1) ∧ (tc279_0) = ((u1_1 - 256)))) → Ew 450 (d + 8) 279 ls [J (tc279_0), .ref (D 6)] σ c s Q := by
                         as_aux_lemma =>
                          intro tc279_0 ls σ F_c279 A_c279  lc279_0 lc279_1 lc279_2 lc279_3 lc279_4 lc279_6 H hS_c279 hA_c279   jc279_0 jc279_1
                          refine Ew_of (pcₚ := 281) (fun _ => x_iload rfl lc279_6) ?_
                          refine w_ifne (t := 288) rfl rfl (show inr (tc109_0) from jc109_0) (fun b121 => ?_) (fun b121 => ?_)
                          · refine Ew_of (pcₚ := 290) (fun _ => x_iload rfl lc279_6) ?_
                            refine Ew_of (pcₚ := 291) (fun _ => x_iconst rfl) ?_
                            refine w_icmpne (t := 298) rfl rfl (show inr (tc109_0) from jc109_0) (show inr (1) from q_23) (fun b122 => ?_) (fun b122 => ?_)
                            · refine Ew_of (pcₚ := 299) (fun _ => x_iconst rfl) ?_
                              refine w_inv H (o := 6) rfl rfl rfl (H.perm 6 rfl) rfl rfl (by rfl) (M393 H (y32) (((hS_c279 6 37 rfl).trans (ey33))) (show inrJ (tc279_0) from jc279_0) (show inr (4) from q_2) (show 0 ≤ (4) ∧ (4) ≤ 8 from q_381) (show 0 ≤ (y32) ∧ (y32) ≤ 90000000 by omega) (fun σ F123 A124 H hS125 hA126 y128 ey129 pz127_0 => ⟨rfl, ?_⟩))
                              have r130 : (0 : Int) ≤ y128 ∧ y128 ≤ 100000000 := rngE (show (0 : Int) ≤ F123 6 37 ∧ F123 6 37 ≤ 100000000 from H.frng 6 37) (show F123 6 37 = y128 from (ey129))
                              exact hc302  _ σ _ _  (lc279_0) (lc279_1) (lc279_2) (lc279_3) (lc279_4) H (SF_trans (SF_trans (SF_refl) hS_c279 (any_sub rfl)) hS125 (any_sub rfl)) (SA_trans (SA_trans (SA_refl) hA_c279 (any_subA rfl)) hA126 (any_subA rfl)) (y128) ((ey129))  (show 0 ≤ (y128) ∧ (y128) ≤ 16 by omega)
                            · refine Ew_of (pcₚ := 295) (fun _ => x_iconst rfl) ?_
                              refine Ew_of (pcₚ := 299) (fun _ => x_goto rfl rfl) ?_
                              refine w_inv H (o := 6) rfl rfl rfl (H.perm 6 rfl) rfl rfl (by rfl) (M393 H (y32) (((hS_c279 6 37 rfl).trans (ey33))) (show inrJ (tc279_0) from jc279_0) (show inr (2) from q_55) (show 0 ≤ (2) ∧ (2) ≤ 8 from q_2379) (show 0 ≤ (y32) ∧ (y32) ≤ 90000000 by omega) (fun σ F131 A132 H hS133 hA134 y136 ey137 pz135_0 => ⟨rfl, ?_⟩))
                              have r138 : (0 : Int) ≤ y136 ∧ y136 ≤ 100000000 := rngE (show (0 : Int) ≤ F131 6 37 ∧ F131 6 37 ≤ 100000000 from H.frng 6 37) (show F131 6 37 = y136 from (ey137))
                              exact hc302  _ σ _ _  (lc279_0) (lc279_1) (lc279_2) (lc279_3) (lc279_4) H (SF_trans (SF_trans (SF_refl) hS_c279 (any_sub rfl)) hS133 (any_sub rfl)) (SA_trans (SA_trans (SA_refl) hA_c279 (any_subA rfl)) hA134 (any_subA rfl)) (y136) ((ey137))  (show 0 ≤ (y136) ∧ (y136) ≤ 16 by omega)
                          · refine Ew_of (pcₚ := 285) (fun _ => x_iconst rfl) ?_
                            refine Ew_of (pcₚ := 299) (fun _ => x_goto rfl rfl) ?_
                            refine w_inv H (o := 6) rfl rfl rfl (H.perm 6 rfl) rfl rfl (by rfl) (M393 H (y32) (((hS_c279 6 37 rfl).trans (ey33))) (show inrJ (tc279_0) from jc279_0) (show inr (1) from q_23) (show 0 ≤ (1) ∧ (1) ≤ 8 from q_1613) (show 0 ≤ (y32) ∧ (y32) ≤ 90000000 by omega) (fun σ F139 A140 H hS141 hA142 y144 ey145 pz143_0 => ⟨rfl, ?_⟩))
                            have r146 : (0 : Int) ≤ y144 ∧ y144 ≤ 100000000 := rngE (show (0 : Int) ≤ F139 6 37 ∧ F139 6 37 ≤ 100000000 from H.frng 6 37) (show F139 6 37 = y144 from (ey145))
                            exact hc302  _ σ _ _  (lc279_0) (lc279_1) (lc279_2) (lc279_3) (lc279_4) H (SF_trans (SF_trans (SF_refl) hS_c279 (any_sub rfl)) hS141 (any_sub rfl)) (SA_trans (SA_trans (SA_refl) hA_c279 (any_subA rfl)) hA142 (any_subA rfl)) (y144) ((ey145))  (show 0 ≤ (y144) ∧ (y144) ≤ 16 by omega)
                        refine w_icmpne (t := 271) rfl rfl (show inr (tc109_0) from jc109_0) (show inr (1) from q_23) (fun b147 => ?_) (fun b147 => ?_)
                        · refine Ew_of (pcₚ := 272) (fun _ => x_aload_n rfl lc241_0) ?_
                          refine w_gT H (o := 6) (t := 1) rfl (H.perm 6 rfl) rfl rfl rfl rfl rfl rfl ?_
                          refine w_gI H (o := 1) (w := u1_1) rfl (H.perm 1 rfl) rfl rfl rfl (fun _ => rfl) (((((((((((((hS29 1 1 rfl).trans (hS_c241 1 1 rfl)).trans (hS_c226 1 1 rfl)).trans (hS20 1 1 rfl)).trans (hS_c206 1 1 rfl)).trans (hS_c194 1 1 rfl)).trans (hS11 1 1 rfl)).trans (hS_c167 1 1 rfl)).trans (hS_c109 1 1 rfl)).trans (hS_c58 1 1 rfl)).trans (hS_16 1 1 rfl)).trans (hS_c11 1 1 rfl)).trans (eu1_1)) ?_
                          refine w_i2l rfl (show inr (u1_1) from q_12 r1) ?_
                          exact hc279 (u1_1) _ σ _ _  (lc241_0) (lc241_1) (lc241_2) (lc241_3) (lc241_4) (lc241_6) H (SF_refl) (SA_refl)   (show inrJ (u1_1) from q_434 r1) (show ((tc109_0) ≠ (1) ∧ (u1_1) = (u1_1)) ∨ ((tc109_0) = (1) ∧ (u1_1) = ((u1_1 - 256))) from q_2460 b147)
                        · refine Ew_of (pcₚ := 257) (fun _ => x_aload_n rfl lc241_0) ?_
                          refine w_gT H (o := 6) (t := 1) rfl (H.perm 6 rfl) rfl rfl rfl rfl rfl rfl ?_
                          refine w_gI H (o := 1) (w := u1_1) rfl (H.perm 1 rfl) rfl rfl rfl (fun _ => rfl) (((((((((((((hS29 1 1 rfl).trans (hS_c241 1 1 rfl)).trans (hS_c226 1 1 rfl)).trans (hS20 1 1 rfl)).trans (hS_c206 1 1 rfl)).trans (hS_c194 1 1 rfl)).trans (hS11 1 1 rfl)).trans (hS_c167 1 1 rfl)).trans (hS_c109 1 1 rfl)).trans (hS_c58 1 1 rfl)).trans (hS_16 1 1 rfl)).trans (hS_c11 1 1 rfl)).trans (eu1_1)) ?_
                          refine Ew_of (pcₚ := 266) (fun _ => x_sipush (z := 256) rfl (by decide)) ?_
                          refine w_isub rfl ?_
                          refine w_i2l rfl (show inr ((u1_1 - 256)) from q_2461 r1) ?_
                          refine Ew_of (pcₚ := 279) (fun _ => x_goto rfl rfl) ?_
                          exact hc279 ((u1_1 - 256)) _ σ _ _  (lc241_0) (lc241_1) (lc241_2) (lc241_3) (lc241_4) (lc241_6) H (SF_refl) (SA_refl)   (show inrJ ((u1_1 - 256)) from q_2463 r1) (show ((tc109_0) ≠ (1) ∧ ((u1_1 - 256)) = (u1_1)) ∨ ((tc109_0) = (1) ∧ ((u1_1 - 256)) = ((u1_1 - 256))) from q_2462 b147)
                    refine w_icmpne (t := 239) rfl rfl (show inr (tc167_0) from jc167_0) (show inr (3) from q_66) (fun b148 => ?_) (fun b148 => ?_)
                    · refine Ew_of (pcₚ := 241) (fun _ => x_iload rfl lc226_9) ?_
                      exact hc241 (tc167_0) _ σ _ _  (lc226_0) (lc226_1) (lc226_2) (lc226_3) (lc226_4) (lc226_5) (lc226_6) H (SF_refl) (SA_refl)   (show inr (tc167_0) from jc167_0) (show ((tc167_0) ≠ (3) ∧ (tc167_0) = (tc167_0)) ∨ ((tc167_0) = (3) ∧ (tc167_0) = (4)) from q_814 b148)
                    · refine Ew_of (pcₚ := 236) (fun _ => x_iconst rfl) ?_
                      refine Ew_of (pcₚ := 241) (fun _ => x_goto rfl rfl) ?_
                      exact hc241 (4) _ σ _ _  (lc226_0) (lc226_1) (lc226_2) (lc226_3) (lc226_4) (lc226_5) (lc226_6) H (SF_refl) (SA_refl)   (show inr (4) from q_2) (show ((tc167_0) ≠ (3) ∧ (4) = (tc167_0)) ∨ ((tc167_0) = (3) ∧ (4) = (4)) from q_815 b148)
                  refine Ew_of (pcₚ := 215) (fun _ => x_iload rfl lc206_4) ?_
                  refine w_ifne (t := 226) rfl rfl (show inr (tc11_0) from jc11_0) (fun b149 => ?_) (fun b149 => ?_)
                  · exact hc226  _ σ _ _  (lc206_0) (lc206_1) (lc206_2) (lc206_3) (lc206_4) (lc206_5) (lc206_6) (lc206_7) (lc206_9) H (SF_refl) (SA_refl) (y23) ((ey24))  (show 0 ≤ (y23) ∧ (y23) ≤ 6 from q_2464 pz13_0 pz22_0 r25)
                  · refine Ew_of (pcₚ := 219) (fun _ => x_aload_n rfl lc206_0) ?_
                    refine Ew_of (pcₚ := 221) (fun _ => x_bipush (z := 8) rfl (by decide)) ?_
                    refine Ew_of (pcₚ := 222) (fun _ => x_iload_n rfl lc206_2) ?_
                    refine w_imul rfl ?_
                    refine w_inv H (o := 6) rfl rfl rfl (H.perm 6 rfl) rfl rfl (by rfl) (M392 H (y23) ((ey24)) (show inr ((8 * a2)) from q_2466 h4) (show 0 ≤ (y23) ∧ (y23) ≤ 99999999 from q_2465 pz13_0 pz22_0 r25) (fun σ F150 A151 H hS152 hA153 y155 ey156 pz154_0 => ⟨rfl, ?_⟩))
                    have r157 : (0 : Int) ≤ y155 ∧ y155 ≤ 100000000 := rngE (show (0 : Int) ≤ F150 6 37 ∧ F150 6 37 ≤ 100000000 from H.frng 6 37) (show F150 6 37 = y155 from (ey156))
                    exact hc226  _ σ _ _  (lc206_0) (lc206_1) (lc206_2) (lc206_3) (lc206_4) (lc206_5) (lc206_6) (lc206_7) (lc206_9) H (SF_trans (SF_refl) hS152 (any_sub rfl)) (SA_trans (SA_refl) hA153 (any_subA rfl)) (y155) ((ey156))  (show 0 ≤ (y155) ∧ (y155) ≤ 6 from q_2467 pz13_0 pz154_0 pz22_0 r157)
                refine w_ifeq (t := 205) rfl rfl (show inr (z17) from gz17) (fun b158 => ?_) (fun b158 => ?_)
                · refine Ew_of (pcₚ := 206) (fun _ => x_iconst rfl) ?_
                  exact hc206 (0) _ σ _ _  (lc194_0) (lc194_1) (lc194_2) (lc194_3) (lc194_4) (lc194_5) (lc194_6) (lc194_7) (lc194_9) H (SF_refl) (SA_refl)   (show inr (0) from q_20) (show ((z17) = (0) ∧ (0) = (0)) ∨ ((z17) ≠ (0) ∧ (0) = (4)) from q_2468 b158)
                · refine Ew_of (pcₚ := 202) (fun _ => x_iconst rfl) ?_
                  refine Ew_of (pcₚ := 206) (fun _ => x_goto rfl rfl) ?_
                  exact hc206 (4) _ σ _ _  (lc194_0) (lc194_1) (lc194_2) (lc194_3) (lc194_4) (lc194_5) (lc194_6) (lc194_7) (lc194_9) H (SF_refl) (SA_refl)   (show inr (4) from q_2) (show ((z17) = (0) ∧ (4) = (0)) ∨ ((z17) ≠ (0) ∧ (4) = (4)) from q_2469 b158)
              refine w_ifeq (t := 193) rfl rfl (show inr (tc11_0) from jc11_0) (fun b159 => ?_) (fun b159 => ?_)
              · refine Ew_of (pcₚ := 194) (fun _ => x_iconst rfl) ?_
                exact hc194 (0) _ σ _ _  (rk_o (lc167_0) rfl rfl) (rk_o (lc167_1) rfl rfl) (rk_o (lc167_2) rfl rfl) (rk_o (lc167_3) rfl rfl) (rk_o (lc167_4) rfl rfl) (rk_o (lc167_5) rfl rfl) (rk_o (lc167_6) rfl rfl) (rk_o (lc167_7) rfl rfl) (rk_s) H (SF_refl) (SA_refl)   (show inr (0) from q_20) (show ((tc11_0) = (0) ∧ (0) = (0)) ∨ ((tc11_0) ≠ (0) ∧ (0) = (32)) from q_2470 b159)
              · refine Ew_of (pcₚ := 190) (fun _ => x_bipush (z := 32) rfl (by decide)) ?_
                refine Ew_of (pcₚ := 194) (fun _ => x_goto rfl rfl) ?_
                exact hc194 (32) _ σ _ _  (rk_o (lc167_0) rfl rfl) (rk_o (lc167_1) rfl rfl) (rk_o (lc167_2) rfl rfl) (rk_o (lc167_3) rfl rfl) (rk_o (lc167_4) rfl rfl) (rk_o (lc167_5) rfl rfl) (rk_o (lc167_6) rfl rfl) (rk_o (lc167_7) rfl rfl) (rk_s) H (SF_refl) (SA_refl)   (show inr (32) from q_417) (show ((tc11_0) = (0) ∧ (32) = (0)) ∨ ((tc11_0) ≠ (0) ∧ (32) = (32)) from q_2471 b159)
            refine Ew_of (pcₚ := 123) (fun _ => x_iload_n rfl (rk2_o (rk_o (lc109_1) rfl rfl) rfl rfl)) ?_
            refine Ew_of (pcₚ := 125) (fun _ => x_bipush (z := 8) rfl (by decide)) ?_
            refine w_iand rfl (show inr (a1) from h0) (show inr (8) from q_96) (fun z160 gz160 gaz160 gbz160 => ?_)
            refine w_ifeq (t := 136) rfl rfl (show inr (z160) from gz160) (fun b161 => ?_) (fun b161 => ?_)
            · refine Ew_of (pcₚ := 137) (fun _ => x_iconst rfl) ?_
              refine Ew_of (pcₚ := 167) (fun _ => x_goto rfl rfl) ?_
              exact hc167 (0) _ σ _ _  (rk2_o (rk_o (lc109_0) rfl rfl) rfl rfl) (rk2_o (rk_o (lc109_1) rfl rfl) rfl rfl) (rk2_o (rk_o (lc109_2) rfl rfl) rfl rfl) (rk2_o (rk_o (lc109_3) rfl rfl) rfl rfl) (rk2_o (rk_o (lc109_4) rfl rfl) rfl rfl) (rk2_o (rk_o (lc109_5) rfl rfl) rfl rfl) (rk2_o (rk_s) rfl rfl) (rk2_s) H (SF_refl) (SA_refl)   (show inr (0) from q_20) (show 0 ≤ (0) ∧ (0) ≤ 3 from q_309)
            · refine Ew_of (pcₚ := 131) (fun _ => x_lload rfl rk2_s) ?_
              refine Ew_of (pcₚ := 132) (fun _ => x_lconst (z := 0) rfl (by decide)) ?_
              refine w_lcmp rfl (show inrJ (z8) from gz8) (show inrJ (0) from q_81) (fun z162 gz162 gaz162 gbz162 => ?_)
              refine w_ifne (t := 140) rfl rfl (show inr (z162) from gz162) (fun b163 => ?_) (fun b163 => ?_)
              · refine Ew_of (pcₚ := 142) (fun _ => x_lload rfl rk2_s) ?_
                refine Ew_of (pcₚ := 145) (fun _ => x_ldc2 (z := 256) rfl (by decide)) ?_
                refine w_lcmp rfl (show inrJ (z8) from gz8) (show inrJ (256) from q_1608) (fun z164 gz164 gaz164 gbz164 => ?_)
                refine w_ifge (t := 153) rfl rfl (show inr (z164) from gz164) (fun b165 => ?_) (fun b165 => ?_)
                · refine Ew_of (pcₚ := 155) (fun _ => x_lload rfl rk2_s) ?_
                  refine Ew_of (pcₚ := 158) (fun _ => x_ldc2 (z := 65536) rfl (by decide)) ?_
                  refine w_lcmp rfl (show inrJ (z8) from gz8) (show inrJ (65536) from q_2472) (fun z166 gz166 gaz166 gbz166 => ?_)
                  refine w_ifge (t := 166) rfl rfl (show inr (z166) from gz166) (fun b167 => ?_) (fun b167 => ?_)
                  · refine Ew_of (pcₚ := 167) (fun _ => x_iconst rfl) ?_
                    exact hc167 (3) _ σ _ _  (rk2_o (rk_o (lc109_0) rfl rfl) rfl rfl) (rk2_o (rk_o (lc109_1) rfl rfl) rfl rfl) (rk2_o (rk_o (lc109_2) rfl rfl) rfl rfl) (rk2_o (rk_o (lc109_3) rfl rfl) rfl rfl) (rk2_o (rk_o (lc109_4) rfl rfl) rfl rfl) (rk2_o (rk_o (lc109_5) rfl rfl) rfl rfl) (rk2_o (rk_s) rfl rfl) (rk2_s) H (SF_refl) (SA_refl)   (show inr (3) from q_66) (show 0 ≤ (3) ∧ (3) ≤ 3 from q_307)
                  · refine Ew_of (pcₚ := 163) (fun _ => x_iconst rfl) ?_
                    refine Ew_of (pcₚ := 167) (fun _ => x_goto rfl rfl) ?_
                    exact hc167 (2) _ σ _ _  (rk2_o (rk_o (lc109_0) rfl rfl) rfl rfl) (rk2_o (rk_o (lc109_1) rfl rfl) rfl rfl) (rk2_o (rk_o (lc109_2) rfl rfl) rfl rfl) (rk2_o (rk_o (lc109_3) rfl rfl) rfl rfl) (rk2_o (rk_o (lc109_4) rfl rfl) rfl rfl) (rk2_o (rk_o (lc109_5) rfl rfl) rfl rfl) (rk2_o (rk_s) rfl rfl) (rk2_s) H (SF_refl) (SA_refl)   (show inr (2) from q_55) (show 0 ≤ (2) ∧ (2) ≤ 3 from q_289)
                · refine Ew_of (pcₚ := 150) (fun _ => x_iconst rfl) ?_
                  refine Ew_of (pcₚ := 167) (fun _ => x_goto rfl rfl) ?_
                  exact hc167 (1) _ σ _ _  (rk2_o (rk_o (lc109_0) rfl rfl) rfl rfl) (rk2_o (rk_o (lc109_1) rfl rfl) rfl rfl) (rk2_o (rk_o (lc109_2) rfl rfl) rfl rfl) (rk2_o (rk_o (lc109_3) rfl rfl) rfl rfl) (rk2_o (rk_o (lc109_4) rfl rfl) rfl rfl) (rk2_o (rk_o (lc109_5) rfl rfl) rfl rfl) (rk2_o (rk_s) rfl rfl) (rk2_s) H (SF_refl) (SA_refl)   (show inr (1) from q_23) (show 0 ≤ (1) ∧ (1) ≤ 3 from q_308)
              · refine Ew_of (pcₚ := 137) (fun _ => x_iconst rfl) ?_
                refine Ew_of (pcₚ := 167) (fun _ => x_goto rfl rfl) ?_
                exact hc167 (0) _ σ _ _  (rk2_o (rk_o (lc109_0) rfl rfl) rfl rfl) (rk2_o (rk_o (lc109_1) rfl rfl) rfl rfl) (rk2_o (rk_o (lc109_2) rfl rfl) rfl rfl) (rk2_o (rk_o (lc109_3) rfl rfl) rfl rfl) (rk2_o (rk_o (lc109_4) rfl rfl) rfl rfl) (rk2_o (rk_o (lc109_5) rfl rfl) rfl rfl) (rk2_o (rk_s) rfl rfl) (rk2_s) H (SF_refl) (SA_refl)   (show inr (0) from q_20) (show 0 ≤ (0) ∧ (0) ≤ 3 from q_309)
          refine Ew_of (pcₚ := 62) (fun _ => x_iload rfl rk_s) ?_
          refine w_ifne (t := 69) rfl rfl (show inr (tc58_0) from jc58_0) (fun b168 => ?_) (fun b168 => ?_)
          · refine Ew_of (pcₚ := 71) (fun _ => x_iload rfl (rk_o (lc58_4) rfl rfl)) ?_
            have hc91 : ∀ (ls : rO) (σ : rS) (F_c91 : hF) (A_c91 : hA) , rlook ls 0 = some (.ref (D 6)) → rlook ls 1 = some (I (a1)) → rlook ls 2 = some (I (a2)) → rlook ls 3 = some (I (a3)) → rlook ls 4 = some (I (tc11_0)) → rlook ls 5 = some (I (tc58_0)) → HS σ0 σ D N F_c91 A_c91 → SF [] F_c58 F_c91 → SA [] A_c58 A_c91 → (((tc11_0) = (0)) ∨ ((tc11_0) ≠ (0) ∧ (u1_1) ≥ (256))) → Ew 450 (d + 8) 91 ls [] σ c s Q := by
             as_aux_lemma =>
              intro  ls σ F_c91 A_c91  lc91_0 lc91_1 lc91_2 lc91_3 lc91_4 lc91_5 H hS_c91 hA_c91   jc91_0
              refine Ew_of (pcₚ := 92) (fun _ => x_aload_n rfl lc91_0) ?_
              refine w_gT H (o := 6) (t := 1) rfl (H.perm 6 rfl) rfl rfl rfl rfl rfl rfl ?_
              refine w_gI H (o := 1) (w := u1_1) rfl (H.perm 1 rfl) rfl rfl rfl (fun _ => rfl) (((((hS_c91 1 1 rfl).trans (hS_c58 1 1 rfl)).trans (hS_16 1 1 rfl)).trans (hS_c11 1 1 rfl)).trans (eu1_1)) ?_
              refine Ew_of (pcₚ := 101) (fun _ => x_sipush (z := 256) rfl (by decide)) ?_
              refine w_icmpge (t := 108) rfl rfl (show inr (u1_1) from q_12 r1) (show inr (256) from q_716) (fun b169 => ?_) (fun b169 => ?_)
              · refine Ew_of (pcₚ := 109) (fun _ => x_iconst rfl) ?_
                exact hc109 (1) _ σ _ _  (lc91_0) (lc91_1) (lc91_2) (lc91_3) (lc91_4) (lc91_5) H (SF_trans (SF_refl) hS_c91 (any_sub rfl)) (SA_trans (SA_refl) hA_c91 (any_subA rfl))   (show inr (1) from q_23) (show 0 ≤ (1) ∧ (1) ≤ 2 from q_2307)
              · refine Ew_of (pcₚ := 105) (fun _ => x_iconst rfl) ?_
                refine Ew_of (pcₚ := 109) (fun _ => x_goto rfl rfl) ?_
                exact hc109 (2) _ σ _ _  (lc91_0) (lc91_1) (lc91_2) (lc91_3) (lc91_4) (lc91_5) H (SF_trans (SF_refl) hS_c91 (any_sub rfl)) (SA_trans (SA_refl) hA_c91 (any_subA rfl))   (show inr (2) from q_55) (show 0 ≤ (2) ∧ (2) ≤ 2 from q_2306)
            refine w_ifeq (t := 91) rfl rfl (show inr (tc11_0) from jc11_0) (fun b170 => ?_) (fun b170 => ?_)
            · exact hc91  _ σ _ _  (rk_o (lc58_0) rfl rfl) (rk_o (lc58_1) rfl rfl) (rk_o (lc58_2) rfl rfl) (rk_o (lc58_3) rfl rfl) (rk_o (lc58_4) rfl rfl) (rk_s) H (SF_refl) (SA_refl)   (show ((tc11_0) = (0)) ∨ ((tc11_0) ≠ (0) ∧ (u1_1) ≥ (256)) from q_2473 b170)
            · refine Ew_of (pcₚ := 75) (fun _ => x_aload_n rfl (rk_o (lc58_0) rfl rfl)) ?_
              refine w_gT H (o := 6) (t := 1) rfl (H.perm 6 rfl) rfl rfl rfl rfl rfl rfl ?_
              refine w_gI H (o := 1) (w := u1_1) rfl (H.perm 1 rfl) rfl rfl rfl (fun _ => rfl) ((((hS_c58 1 1 rfl).trans (hS_16 1 1 rfl)).trans (hS_c11 1 1 rfl)).trans (eu1_1)) ?_
              refine Ew_of (pcₚ := 84) (fun _ => x_sipush (z := 256) rfl (by decide)) ?_
              refine w_icmpge (t := 91) rfl rfl (show inr (u1_1) from q_12 r1) (show inr (256) from q_716) (fun b171 => ?_) (fun b171 => ?_)
              · exact hc91  _ σ _ _  (rk_o (lc58_0) rfl rfl) (rk_o (lc58_1) rfl rfl) (rk_o (lc58_2) rfl rfl) (rk_o (lc58_3) rfl rfl) (rk_o (lc58_4) rfl rfl) (rk_s) H (SF_refl) (SA_refl)   (show ((tc11_0) = (0)) ∨ ((tc11_0) ≠ (0) ∧ (u1_1) ≥ (256)) from q_2474 b170 b171)
              · refine Ew_of (pcₚ := 88) (fun _ => x_iconst rfl) ?_
                refine Ew_of (pcₚ := 109) (fun _ => x_goto rfl rfl) ?_
                exact hc109 (0) _ σ _ _  (rk_o (lc58_0) rfl rfl) (rk_o (lc58_1) rfl rfl) (rk_o (lc58_2) rfl rfl) (rk_o (lc58_3) rfl rfl) (rk_o (lc58_4) rfl rfl) (rk_s) H (SF_refl) (SA_refl)   (show inr (0) from q_20) (show 0 ≤ (0) ∧ (0) ≤ 2 from q_2305)
          · refine Ew_of (pcₚ := 66) (fun _ => x_iconst rfl) ?_
            refine Ew_of (pcₚ := 109) (fun _ => x_goto rfl rfl) ?_
            exact hc109 (0) _ σ _ _  (rk_o (lc58_0) rfl rfl) (rk_o (lc58_1) rfl rfl) (rk_o (lc58_2) rfl rfl) (rk_o (lc58_3) rfl rfl) (rk_o (lc58_4) rfl rfl) (rk_s) H (SF_refl) (SA_refl)   (show inr (0) from q_20) (show 0 ≤ (0) ∧ (0) ≤ 2 from q_2305)
        refine Ew_of (pcₚ := 44) (fun _ => x_iload rfl l16_4) ?_
        refine w_ifne (t := 53) rfl rfl (show inr (tc11_0) from jc11_0) (fun b172 => ?_) (fun b172 => ?_)
        · refine Ew_of (pcₚ := 54) (fun _ => x_iconst rfl) ?_
          refine Ew_of (pcₚ := 58) (fun _ => x_goto rfl rfl) ?_
          exact hc58 (1) _ σ _ _  (l16_0) (l16_1) (l16_2) (l16_3) (l16_4) H (SF_refl) (SA_refl)   (show inr (1) from q_23) (show (1) = 0 ∨ (1) = 1 from q_5)
        · refine Ew_of (pcₚ := 48) (fun _ => x_iload_n rfl l16_1) ?_
          refine Ew_of (pcₚ := 49) (fun _ => x_iconst rfl) ?_
          refine w_iand rfl (show inr (a1) from h0) (show inr (2) from q_55) (fun z173 gz173 gaz173 gbz173 => ?_)
          refine w_ifeq (t := 57) rfl rfl (show inr (z173) from gz173) (fun b174 => ?_) (fun b174 => ?_)
          · refine Ew_of (pcₚ := 58) (fun _ => x_iconst rfl) ?_
            exact hc58 (0) _ σ _ _  (l16_0) (l16_1) (l16_2) (l16_3) (l16_4) H (SF_refl) (SA_refl)   (show inr (0) from q_20) (show (0) = 0 ∨ (0) = 1 from q_1)
          · refine Ew_of (pcₚ := 54) (fun _ => x_iconst rfl) ?_
            refine Ew_of (pcₚ := 58) (fun _ => x_goto rfl rfl) ?_
            exact hc58 (1) _ σ _ _  (l16_0) (l16_1) (l16_2) (l16_3) (l16_4) H (SF_refl) (SA_refl)   (show inr (1) from q_23) (show (1) = 0 ∨ (1) = 1 from q_5)
      · refine Ew_of (pcₚ := 24) (fun _ => x_aload_n rfl l16_0) ?_
        refine w_gT H (o := 6) (t := 87) rfl (H.perm 6 rfl) rfl rfl rfl rfl rfl rfl ?_
        refine Ew_of (pcₚ := 29) (fun _ => x_iload rfl l16_5) ?_
        refine Ew_of (pcₚ := 30) (fun _ => x_iconst rfl) ?_
        refine w_sI H (o := 87) (n := 12) rfl (H.perm 87 rfl) rfl rfl (H.fix 87 rfl rfl) (show 0 ≤ x16_5 ∧ x16_5 < ((12 : Nat) : Int) from q_2438 b6 j16_1) (by decide) (show (-2147483648 : Int) ≤ 0 ∧ 0 ≤ 2147483647 from q_240) (fun σ H => ?_)
        refine Ew_of (pcₚ := 34) (fun _ => x_iinc (len := 3) rfl (l16_5)) ?_
        refine Ew_of (pcₚ := 16) (fun _ => x_goto rfl rfl) ?_
        exact ih16 _ (msE hm16 q_2323 (q_2406 b6)) _ σ _ _ ((x16_5 + 1)) (rk_o (l16_0) rfl rfl) (rk_o (l16_1) rfl rfl) (rk_o (l16_2) rfl rfl) (rk_o (l16_3) rfl rfl) (rk_o (l16_4) rfl rfl) (rk_s) H (hS_16) (SA_upd (hA_16) rfl)   (show inr ((x16_5 + 1)) from q_2440 b6 j16_1) (show (0) ≤ ((x16_5 + 1)) from q_29 j16_1) (show ((x16_5 + 1)) ≤ (0) ∨ ((x16_5 + 1)) ≤ ((12)) from q_2439 b6) rfl
  refine w_ifeq (t := 10) rfl rfl (show inr (z5) from gz5) (fun b175 => ?_) (fun b175 => ?_)
  · refine Ew_of (pcₚ := 11) (fun _ => x_iconst rfl) ?_
    exact hc11 (0) _ σ _ _  (rfl) (rfl) (rfl) (rfl) H (SF_refl) (SA_refl)   (show inr (0) from q_20) (show ((z5) = (0) ∧ (0) = (0)) ∨ ((z5) ≠ (0) ∧ (0) = (1)) from q_654 b175)
  · refine Ew_of (pcₚ := 7) (fun _ => x_iconst rfl) ?_
    refine Ew_of (pcₚ := 11) (fun _ => x_goto rfl rfl) ?_
    exact hc11 (1) _ σ _ _  (rfl) (rfl) (rfl) (rfl) H (SF_refl) (SA_refl)   (show inr (1) from q_23) (show ((z5) = (0) ∧ (1) = (0)) ∨ ((z5) ≠ (0) ∧ (1) = (1)) from q_655 b175)
