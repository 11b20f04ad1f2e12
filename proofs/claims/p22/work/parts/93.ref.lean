/-- Writer.make -/
theorem M454 {σ0 σ : rS} {D N : Nat → Nat} {F : hF} {A : hA} {d c s : Nat} {Q : wQ} (H : HS σ0 σ D N F A) {a1 : Int} (u1_1 : Int) (eu1_1 : F 1 1 = u1_1) (u6_2 : Int) (eu6_2 : F 6 2 = u6_2) (h0 : inr (a1)) (h1 : 0 ≤ (u1_1) ∧ (u1_1) ≤ 16384) (h2 : 3 ≤ (u6_2)) (k : ∀ (z : Int) σ Fₚ Aₚ, HS σ0 σ D N Fₚ Aₚ → SF [(1, 3), (6, 22), (6, 23), (6, 24), (6, 28), (6, 30), (6, 35), (6, 37), (6, 49), (6, 53)] F Fₚ → SA [15, 56, 61, 62, 63, 64, 65, 66, 67, 68, 69, 70, 71, 72, 73, 74, 75, 76, 77, 78, 79, 80, 81, 82, 84] A Aₚ → (inr (z)) → (-1 ≤ (z) ∧ (z) ≤ 65536) → Q (some (I z)) σ c s) : Ew 454 (d + 5) 0 (rargs 0 [.ref (D 6), I a1]) [] σ c s Q := by
  have r1 : (0 : Int) ≤ u1_1 ∧ u1_1 ≤ 65536 := rngE (show (0 : Int) ≤ F 1 1 ∧ F 1 1 ≤ 65536 from H.frng 1 1) (show F 1 1 = u1_1 from (eu1_1))
  have r2 : (0 : Int) ≤ u6_2 ∧ u6_2 ≤ 8 := rngE (show (0 : Int) ≤ F 6 2 ∧ F 6 2 ≤ 8 from H.frng 6 2) (show F 6 2 = u6_2 from (eu6_2))
  refine Ew_of (pcₚ := 1) (fun _ => x_aload_n rfl rfl) ?_
  refine w_gT H (o := 6) (t := 1) rfl (H.perm 6 rfl) rfl rfl rfl rfl rfl rfl ?_
  refine w_gI H (o := 1) (w := u1_1) rfl (H.perm 1 rfl) rfl rfl rfl (fun _ => rfl) (eu1_1) ?_
  refine Ew_of (pcₚ := 9) (fun _ => x_bipush (z := 8) rfl (by decide)) ?_
  refine w_icmpge (t := 14) rfl rfl (show inr (u1_1) from q_12 r1) (show inr (8) from q_96) (fun b3 => ?_) (fun b3 => ?_)
  · refine Ew_of (pcₚ := 15) (fun _ => x_aload_n rfl rfl) ?_
    refine Ew_of (pcₚ := 17) (fun _ => x_ldc (z := 65536) rfl (by decide)) ?_
    refine w_pI H (o := 6) rfl rfl (H.perm 6 rfl) rfl rfl rfl (fun _ => rfl) rfl (show (0 : Int) ≤ 65536 ∧ 65536 ≤ 16777216 from q_2475) (fun σ H => ?_)
    refine Ew_of (pcₚ := 21) (fun _ => x_aload_n rfl rfl) ?_
    refine Ew_of (pcₚ := 22) (fun _ => x_aload_n rfl rfl) ?_
    refine w_gT H (o := 6) (t := 1) rfl (H.perm 6 rfl) rfl rfl rfl rfl rfl rfl ?_
    refine w_gI H (o := 1) (w := u1_1) rfl (H.perm 1 rfl) rfl rfl rfl (fun _ => rfl) (eu1_1) ?_
    refine w_pI H (o := 6) rfl rfl (H.perm 6 rfl) rfl rfl rfl (fun _ => rfl) rfl (show (0 : Int) ≤ u1_1 ∧ u1_1 ≤ 16384 from h1) (fun σ H => ?_)
    refine Ew_of (pcₚ := 32) (fun _ => x_iconst rfl) ?_
    refine Ew_of (pcₚ := 33) (fun _ => x_istore_n rfl) ?_
    suffices hl33 : ∀ (m : Nat), ∀ (ls : rO) (σ : rS) (F_33 : hF) (A_33 : hA) (x33_2 : Int), rlook ls 0 = some (.ref (D 6)) → rlook ls 1 = some (I (a1)) → rlook ls 2 = some (I (x33_2)) → HS σ0 σ D N F_33 A_33 → SF [] (updF (updF F 6 24 (65536)) 6 22 (u1_1)) F_33 → SA [61] A A_33 → (inr (x33_2)) → ((0) ≤ (x33_2)) → ((x33_2) ≤ (0) ∨ (x33_2) ≤ ((u1_1))) → (((u1_1)) - (x33_2)).toNat = m → Ew 454 (d + 5) 33 ls [] σ c s Q from
      hl33 _ _ σ _ _ (0) (rk_o (rfl) rfl rfl) (rk_o (rfl) rfl rfl) (rk_s) H (SF_refl) (SA_refl)   (show inr (0) from q_20) (show (0) ≤ (0) from q_25) (show (0) ≤ (0) ∨ (0) ≤ ((u1_1)) from q_24) rfl
    as_aux_lemma =>
    intro m
    induction m using Nat.strongRecOn with
    | _ m ih33 =>
      intro ls σ F_33 A_33 x33_2 l33_0 l33_1 l33_2 H hS_33 hA_33   j33_0 j33_1 j33_2 hm33
      refine Ew_of (pcₚ := 34) (fun _ => x_iload_n rfl l33_2) ?_
      refine Ew_of (pcₚ := 35) (fun _ => x_aload_n rfl l33_0) ?_
      refine w_gT H (o := 6) (t := 1) rfl (H.perm 6 rfl) rfl rfl rfl rfl rfl rfl ?_
      refine w_gI H (o := 1) (w := u1_1) rfl (H.perm 1 rfl) rfl rfl rfl (fun _ => rfl) ((hS_33 1 1 rfl).trans (eu1_1)) ?_
      refine w_icmpge (t := 65) rfl rfl (show inr (x33_2) from j33_0) (show inr (u1_1) from q_1661 b3 r1) (fun b4 => ?_) (fun b4 => ?_)
      · refine Ew_of (pcₚ := 66) (fun _ => x_aload_n rfl l33_0) ?_
        refine Ew_of (pcₚ := 67) (fun _ => x_iconst rfl) ?_
        refine w_inv H (o := 6) rfl rfl rfl (H.perm 6 rfl) rfl rfl (by rfl) (M399b H (u6_2) (((hS_33 6 2 rfl).trans (eu6_2))) (u1_1) ((hS_33 6 22 rfl)) (show inr (0) from q_20) (show 0 ≤ (0) ∧ (0) ≤ (u1_1) from q_912 r1) (show 3 ≤ (u6_2) from h2) (fun σ F5 A6 H hS7 hA8 y10 ey11 y12 ey13 wq14 ewq15 wq16 ewq17 pz9_0 pz9_1 => ⟨rfl, ?_⟩))
        have r18 : (0 : Int) ≤ y10 ∧ y10 ≤ 8001 := rngE (show (0 : Int) ≤ F5 6 28 ∧ F5 6 28 ≤ 8001 from H.frng 6 28) (show F5 6 28 = y10 from (ey11))
        have r19 : (0 : Int) ≤ y12 ∧ y12 ≤ 16385 := rngE (show (0 : Int) ≤ F5 6 30 ∧ F5 6 30 ≤ 16385 from H.frng 6 30) (show F5 6 30 = y12 from (ey13))
        have hgo := pz9_1
        have : ∀ j, 0 ≤ j → j < (y10) → 3 ≤ ((wq16)) j := hgo.1
        refine Ew_of (pcₚ := 71) (fun _ => x_aload_n rfl l33_0) ?_
        refine w_gI H (o := 6) (w := y10) rfl (H.perm 6 rfl) rfl rfl rfl (fun _ => rfl) (ey11) ?_
        refine w_ifeq (t := 92) rfl rfl (show inr (y10) from q_1788 r18) (fun b20 => ?_) (fun b20 => ?_)
        · refine Ew_of (pcₚ := 93) (fun _ => x_iconst rfl) ?_
          exact w_ireturn rfl (k ((-1)) σ _ _ H (SF_trans (SF_trans (SF_upd (SF_upd (SF_refl) rfl) rfl) hS_33 (any_sub rfl)) hS7 (any_sub rfl)) (SA_trans (SA_trans (SA_refl) hA_33 (any_subA rfl)) hA8 (any_subA rfl)) (show inr ((-1)) from q_16) (show -1 ≤ ((-1)) ∧ ((-1)) ≤ 65536 by first | exact q_1716 | omega))
        · refine Ew_of (pcₚ := 78) (fun _ => x_aload_n rfl l33_0) ?_
          refine w_gI H (o := 6) (w := y12) rfl (H.perm 6 rfl) rfl rfl rfl (fun _ => rfl) (ey13) ?_
          refine Ew_of (pcₚ := 82) (fun _ => x_iconst rfl) ?_
          refine w_icmplt (t := 92) rfl rfl (show inr (y12) from q_1839 r19) (show inr (2) from q_55) (fun b21 => ?_) (fun b21 => ?_)
          · refine Ew_of (pcₚ := 93) (fun _ => x_iconst rfl) ?_
            exact w_ireturn rfl (k ((-1)) σ _ _ H (SF_trans (SF_trans (SF_upd (SF_upd (SF_refl) rfl) rfl) hS_33 (any_sub rfl)) hS7 (any_sub rfl)) (SA_trans (SA_trans (SA_refl) hA_33 (any_subA rfl)) hA8 (any_subA rfl)) (show inr ((-1)) from q_16) (show -1 ≤ ((-1)) ∧ ((-1)) ≤ 65536 by first | exact q_1716 | omega))
          · refine Ew_of (pcₚ := 86) (fun _ => x_aload_n rfl l33_0) ?_
            refine w_inv H (o := 6) rfl rfl rfl (H.perm 6 rfl) rfl rfl (by rfl) (M432 H (y12) ((ey13)) (A6 65) (rfl)  (fun z26 σ F22 A23 H hS24 hA25 pz26_0 pz26_1 pz26_2 => ⟨rretB rfl pz26_0, ?_⟩))
            refine w_ifeq (t := 94) rfl rfl (show inr (z26) from q_15 pz26_0) (fun b27 => ?_) (fun b27 => ?_)
            · have hdf : DIFF ((A6 65)) ((y12)) := by rcases pz26_2 (by omega) with q | q; omega; exact q
              refine Ew_of (pcₚ := 95) (fun _ => x_iconst rfl) ?_
              refine Ew_of (pcₚ := 96) (fun _ => x_istore_n rfl) ?_
              suffices hl96 : ∀ (m : Nat), ∀ (ls : rO) (σ : rS) (F_96 : hF) (A_96 : hA) (x96_2 : Int), rlook ls 0 = some (.ref (D 6)) → rlook ls 1 = some (I (a1)) → rlook ls 2 = some (I (x96_2)) → HS σ0 σ D N F_96 A_96 → SF [] F22 F_96 → SA [56] A23 A_96 → (inr (x96_2)) → ((0) ≤ (x96_2)) → ((x96_2) ≤ (0) ∨ (x96_2) ≤ (3)) → ((3) - (x96_2)).toNat = m → Ew 454 (d + 5) 96 ls [] σ c s Q from
                hl96 _ _ σ _ _ (0) (rk_o (l33_0) rfl rfl) (rk_o (l33_1) rfl rfl) (rk_s) H (SF_refl) (SA_refl)   (show inr (0) from q_20) (show (0) ≤ (0) from q_25) (show (0) ≤ (0) ∨ (0) ≤ (3) from q_1534) rfl
              as_aux_lemma =>
              intro m
              induction m using Nat.strongRecOn with
              | _ m ih96 =>
                intro ls σ F_96 A_96 x96_2 l96_0 l96_1 l96_2 H hS_96 hA_96   j96_0 j96_1 j96_2 hm96
                refine Ew_of (pcₚ := 97) (fun _ => x_iload_n rfl l96_2) ?_
                refine Ew_of (pcₚ := 98) (fun _ => x_iconst rfl) ?_
                refine w_icmpge (t := 124) rfl rfl (show inr (x96_2) from j96_0) (show inr (3) from q_66) (fun b28 => ?_) (fun b28 => ?_)
                · refine Ew_of (pcₚ := 125) (fun _ => x_aload_n rfl l96_0) ?_
                  refine w_inv H (o := 6) rfl rfl rfl (H.perm 6 rfl) rfl rfl (by rfl) (M404b H (y10) ((((hS_96 6 28 rfl).trans (hS24 6 28 rfl)).trans (ey11))) (wq14) ((funext (hA_96 62 rfl)).trans ((funext (hA25 62 rfl)).trans (ewq15))) (wq16) ((funext (hA_96 63 rfl)).trans ((funext (hA25 63 rfl)).trans (ewq17))) (show ∀ j, 0 ≤ j → j < (y10) → 3 ≤ ((wq16)) j by assumption) (fun σ F29 A30 H hS31 hA32 wq34 ewq35 wq36 ewq37 pz33_0 => ⟨rfl, ?_⟩))
                  have htl : TLI ((wq34)) ((wq36)) ((wq14)) ((wq16)) ((y10)) := pz33_0
                  refine Ew_of (pcₚ := 129) (fun _ => x_aload_n rfl l96_0) ?_
                  refine w_inv H (o := 6) rfl rfl rfl (H.perm 6 rfl) rfl rfl (by rfl) (M420 H (y12) (((((hS31 6 30 rfl).trans (hS_96 6 30 rfl)).trans (hS24 6 30 rfl)).trans (ey13))) (A6 65) ((funext (hA32 65 rfl)).trans ((funext (hA_96 65 rfl)).trans (funext (hA25 65 rfl)))) (show DIFF ((A6 65)) ((y12)) from hdf) (fun z42 σ F38 A39 H hS40 hA41 wq43 ewq44 pz42_0 pz42_1 pz42_2 pz42_3 => ⟨rfl, ?_⟩))
                  refine Ew_of (pcₚ := 133) (fun _ => x_istore_n rfl) ?_
                  refine Ew_of (pcₚ := 134) (fun _ => x_aload_n rfl (rk_o (l96_0) rfl rfl)) ?_
                  refine Ew_of (pcₚ := 135) (fun _ => x_iload_n rfl rk_s) ?_
                  refine w_inv H (o := 6) rfl rfl rfl (H.perm 6 rfl) rfl rfl (by rfl) (M422 H (wq43) (ewq44) (show inr (z42) from pz42_0) (show 1 ≤ (z42) ∧ (z42) ≤ 11 from pz42_1) (show CI ((wq43)) ((z42)) from pz42_2) (fun z49 σ F45 A46 H hS47 hA48 y50 ey51 pz49_0 pz49_1 pz49_2 => ⟨rfl, ?_⟩))
                  have r52 : (0 : Int) ≤ y50 ∧ y50 ≤ 100000000 := rngE (show (0 : Int) ≤ F45 6 35 ∧ F45 6 35 ≤ 100000000 from H.frng 6 35) (show F45 6 35 = y50 from (ey51))
                  refine w_ifge (t := 143) rfl rfl (show inr (z49) from pz49_0) (fun b53 => ?_) (fun b53 => ?_)
                  · refine Ew_of (pcₚ := 144) (fun _ => x_aload_n rfl (rk_o (l96_0) rfl rfl)) ?_
                    refine Ew_of (pcₚ := 145) (fun _ => x_iconst rfl) ?_
                    refine w_pI H (o := 6) rfl rfl (H.perm 6 rfl) rfl rfl rfl (fun _ => rfl) rfl (show (0 : Int) ≤ 0 ∧ 0 ≤ 100000000 from q_937) (fun σ H => ?_)
                    refine Ew_of (pcₚ := 149) (fun _ => x_aload_n rfl (rk_o (l96_0) rfl rfl)) ?_
                    refine Ew_of (pcₚ := 152) (fun _ => x_ldc2 (z := 3962610743) rfl (by decide)) ?_
                    refine Ew_of (pcₚ := 153) (fun _ => x_iconst rfl) ?_
                    refine w_inv H (o := 6) rfl rfl rfl (H.perm 6 rfl) rfl rfl (by rfl) (M393 H (0) (rfl) (show inrJ (3962610743) from q_2476) (show inr (4) from q_2) (show 0 ≤ (4) ∧ (4) ≤ 8 from q_381) (show 0 ≤ (0) ∧ (0) ≤ 90000000 from q_2430) (fun σ F54 A55 H hS56 hA57 y59 ey60 pz58_0 => ⟨rfl, ?_⟩))
                    have r61 : (0 : Int) ≤ y59 ∧ y59 ≤ 100000000 := rngE (show (0 : Int) ≤ F54 6 37 ∧ F54 6 37 ≤ 100000000 from H.frng 6 37) (show F54 6 37 = y59 from (ey60))
                    refine Ew_of (pcₚ := 157) (fun _ => x_aload_n rfl (rk_o (l96_0) rfl rfl)) ?_
                    refine Ew_of (pcₚ := 158) (fun _ => x_iload_n rfl (rk_o (l96_1) rfl rfl)) ?_
                    refine w_i2l rfl (show inr (a1) from h0) ?_
                    refine Ew_of (pcₚ := 162) (fun _ => x_ldc2 (z := 4294967295) rfl (by decide)) ?_
                    refine w_land rfl (show inrJ (a1) from q_428 h0) (show inrJ (4294967295) from q_50) (fun z62 gz62 gaz62 gbz62 => ?_)
                    refine Ew_of (pcₚ := 164) (fun _ => x_iconst rfl) ?_
                    refine w_inv H (o := 6) rfl rfl rfl (H.perm 6 rfl) rfl rfl (by rfl) (M393 H (y59) ((ey60)) (show inrJ (z62) from gz62) (show inr (4) from q_2) (show 0 ≤ (4) ∧ (4) ≤ 8 from q_381) (show 0 ≤ (y59) ∧ (y59) ≤ 90000000 from q_2477 pz58_0 r61) (fun σ F63 A64 H hS65 hA66 y68 ey69 pz67_0 => ⟨rfl, ?_⟩))
                    have r70 : (0 : Int) ≤ y68 ∧ y68 ≤ 100000000 := rngE (show (0 : Int) ≤ F63 6 37 ∧ F63 6 37 ≤ 100000000 from H.frng 6 37) (show F63 6 37 = y68 from (ey69))
                    refine Ew_of (pcₚ := 168) (fun _ => x_aload_n rfl (rk_o (l96_0) rfl rfl)) ?_
                    refine w_inv H (o := 6) rfl rfl rfl (H.perm 6 rfl) rfl rfl (by rfl) (M394 H (y50) ((((hS65 6 35 rfl).trans (hS56 6 35 rfl)).trans (ey51))) (y68) ((ey69)) (show 0 ≤ (y50) ∧ (y50) ≤ 192000 from q_2479 b53 pz49_2 r52) (show 0 ≤ (y68) ∧ (y68) ≤ 90000000 from q_2478 pz58_0 pz67_0 r70) (fun σ F71 A72 H hS73 hA74 y76 ey77 pz75_0 => ⟨rfl, ?_⟩))
                    have r78 : (0 : Int) ≤ y76 ∧ y76 ≤ 100000000 := rngE (show (0 : Int) ≤ F71 6 37 ∧ F71 6 37 ≤ 100000000 from H.frng 6 37) (show F71 6 37 = y76 from (ey77))
                    refine Ew_of (pcₚ := 172) (fun _ => x_iconst rfl) ?_
                    refine Ew_of (pcₚ := 173) (fun _ => x_istore_n rfl) ?_
                    suffices hl173 : ∀ (m : Nat), ∀ (ls : rO) (σ : rS) (F_173 : hF) (A_173 : hA) (x173_3 : Int), rlook ls 0 = some (.ref (D 6)) → rlook ls 3 = some (I (x173_3)) → HS σ0 σ D N F_173 A_173 → SF [(6, 35), (6, 37)] F71 F_173 → SA [69, 70, 71, 72, 73, 74, 75, 76, 77, 78] A72 A_173 → ∀ y173_6_37 : Int, F_173 6 37 = y173_6_37 → (inr (x173_3)) → (0 ≤ (x173_3) ∧ (x173_3) ≤ 3) → (0 ≤ (y173_6_37) ∧ (y173_6_37) ≤ 300 + 100 * (x173_3)) → (3 - (x173_3)).toNat = m → Ew 454 (d + 5) 173 ls [] σ c s Q from
                      hl173 _ _ σ _ _ (0) (rk_o (rk_o (l96_0) rfl rfl) rfl rfl) (rk_s) H (SF_refl) (SA_refl) (y76) ((ey77))  (show inr (0) from q_20) (show 0 ≤ (0) ∧ (0) ≤ 3 from q_309) (show 0 ≤ (y76) ∧ (y76) ≤ 300 + 100 * (0) by omega) rfl
                    as_aux_lemma =>
                    intro m
                    induction m using Nat.strongRecOn with
                    | _ m ih173 =>
                      intro ls σ F_173 A_173 x173_3 l173_0 l173_3 H hS_173 hA_173 y173_6_37 ey173_6_37  j173_0 j173_1 j173_2 hm173
                      have r79 : (0 : Int) ≤ y173_6_37 ∧ y173_6_37 ≤ 100000000 := rngE (show (0 : Int) ≤ F_173 6 37 ∧ F_173 6 37 ≤ 100000000 from H.frng 6 37) (show F_173 6 37 = y173_6_37 from (ey173_6_37))
                      refine Ew_of (pcₚ := 174) (fun _ => x_iload_n rfl l173_3) ?_
                      refine Ew_of (pcₚ := 175) (fun _ => x_iconst rfl) ?_
                      refine w_icmpge (t := 241) rfl rfl (show inr (x173_3) from j173_0) (show inr (3) from q_66) (fun b80 => ?_) (fun b80 => ?_)
                      · refine Ew_of (pcₚ := 242) (fun _ => x_aload_n rfl l173_0) ?_
                        refine Ew_of (pcₚ := 243) (fun _ => x_lconst (z := 1) rfl (by decide)) ?_
                        refine Ew_of (pcₚ := 244) (fun _ => x_iconst rfl) ?_
                        refine w_inv H (o := 6) rfl rfl rfl (H.perm 6 rfl) rfl rfl (by rfl) (M393 H (y173_6_37) ((ey173_6_37)) (show inrJ (1) from q_1338) (show inr (4) from q_2) (show 0 ≤ (4) ∧ (4) ≤ 8 from q_381) (show 0 ≤ (y173_6_37) ∧ (y173_6_37) ≤ 90000000 by omega) (fun σ F81 A82 H hS83 hA84 y86 ey87 pz85_0 => ⟨rfl, ?_⟩))
                        have r88 : (0 : Int) ≤ y86 ∧ y86 ≤ 100000000 := rngE (show (0 : Int) ≤ F81 6 37 ∧ F81 6 37 ≤ 100000000 from H.frng 6 37) (show F81 6 37 = y86 from (ey87))
                        refine Ew_of (pcₚ := 248) (fun _ => x_aload_n rfl l173_0) ?_
                        refine Ew_of (pcₚ := 251) (fun _ => x_ldc2 (z := 4) rfl (by decide)) ?_
                        refine Ew_of (pcₚ := 252) (fun _ => x_iconst rfl) ?_
                        refine w_inv H (o := 6) rfl rfl rfl (H.perm 6 rfl) rfl rfl (by rfl) (M393 H (y86) ((ey87)) (show inrJ (4) from q_2480) (show inr (4) from q_2) (show 0 ≤ (4) ∧ (4) ≤ 8 from q_381) (show 0 ≤ (y86) ∧ (y86) ≤ 90000000 by omega) (fun σ F89 A90 H hS91 hA92 y94 ey95 pz93_0 => ⟨rfl, ?_⟩))
                        have r96 : (0 : Int) ≤ y94 ∧ y94 ≤ 100000000 := rngE (show (0 : Int) ≤ F89 6 37 ∧ F89 6 37 ≤ 100000000 from H.frng 6 37) (show F89 6 37 = y94 from (ey95))
                        refine Ew_of (pcₚ := 256) (fun _ => x_aload_n rfl l173_0) ?_
                        refine Ew_of (pcₚ := 259) (fun _ => x_ldc2 (z := 8) rfl (by decide)) ?_
                        refine Ew_of (pcₚ := 260) (fun _ => x_iconst rfl) ?_
                        refine w_inv H (o := 6) rfl rfl rfl (H.perm 6 rfl) rfl rfl (by rfl) (M393 H (y94) ((ey95)) (show inrJ (8) from q_2481) (show inr (4) from q_2) (show 0 ≤ (4) ∧ (4) ≤ 8 from q_381) (show 0 ≤ (y94) ∧ (y94) ≤ 90000000 by omega) (fun σ F97 A98 H hS99 hA100 y102 ey103 pz101_0 => ⟨rfl, ?_⟩))
                        have r104 : (0 : Int) ≤ y102 ∧ y102 ≤ 100000000 := rngE (show (0 : Int) ≤ F97 6 37 ∧ F97 6 37 ≤ 100000000 from H.frng 6 37) (show F97 6 37 = y102 from (ey103))
                        refine Ew_of (pcₚ := 264) (fun _ => x_iconst rfl) ?_
                        refine Ew_of (pcₚ := 265) (fun _ => x_istore_n rfl) ?_
                        suffices hl265 : ∀ (m : Nat), ∀ (ls : rO) (σ : rS) (F_265 : hF) (A_265 : hA) (x265_3 : Int), rlook ls 0 = some (.ref (D 6)) → rlook ls 3 = some (I (x265_3)) → HS σ0 σ D N F_265 A_265 → SF [(6, 37)] F97 F_265 → SA [70] A98 A_265 → ∀ y265_6_37 : Int, F_265 6 37 = y265_6_37 → (inr (x265_3)) → ((0) ≤ (x265_3)) → ((x265_3) ≤ (0) ∨ (x265_3) ≤ ((u1_1))) → (0 ≤ (y265_6_37) ∧ (y265_6_37) ≤ 700 + (x265_3)) → (((u1_1)) - (x265_3)).toNat = m → Ew 454 (d + 5) 265 ls [] σ c s Q from
                          hl265 _ _ σ _ _ (0) (rk_o (l173_0) rfl rfl) (rk_s) H (SF_refl) (SA_refl) (y102) ((ey103))  (show inr (0) from q_20) (show (0) ≤ (0) from q_25) (show (0) ≤ (0) ∨ (0) ≤ ((u1_1)) from q_24) (show 0 ≤ (y102) ∧ (y102) ≤ 700 + (0) by omega) rfl
                        as_aux_lemma =>
                        intro m
                        induction m using Nat.strongRecOn with
                        | _ m ih265 =>
                          intro ls σ F_265 A_265 x265_3 l265_0 l265_3 H hS_265 hA_265 y265_6_37 ey265_6_37  j265_0 j265_1 j265_2 j265_3 hm265
                          have r105 : (0 : Int) ≤ y265_6_37 ∧ y265_6_37 ≤ 100000000 := rngE (show (0 : Int) ≤ F_265 6 37 ∧ F_265 6 37 ≤ 100000000 from H.frng 6 37) (show F_265 6 37 = y265_6_37 from (ey265_6_37))
                          refine Ew_of (pcₚ := 266) (fun _ => x_iload_n rfl l265_3) ?_
                          refine Ew_of (pcₚ := 267) (fun _ => x_aload_n rfl l265_0) ?_
                          refine w_gT H (o := 6) (t := 1) rfl (H.perm 6 rfl) rfl rfl rfl rfl rfl rfl ?_
                          refine w_gI H (o := 1) (w := u1_1) rfl (H.perm 1 rfl) rfl rfl rfl (fun _ => rfl) ((((((((((((((((hS_265 1 1 rfl).trans (hS99 1 1 rfl)).trans (hS91 1 1 rfl)).trans (hS83 1 1 rfl)).trans (hS_173 1 1 rfl)).trans (hS73 1 1 rfl)).trans (hS65 1 1 rfl)).trans (hS56 1 1 rfl)).trans (hS47 1 1 rfl)).trans (hS40 1 1 rfl)).trans (hS31 1 1 rfl)).trans (hS_96 1 1 rfl)).trans (hS24 1 1 rfl)).trans (hS7 1 1 rfl)).trans (hS_33 1 1 rfl)).trans (eu1_1)) ?_
                          refine w_icmpge (t := 295) rfl rfl (show inr (x265_3) from j265_0) (show inr (u1_1) from q_1661 b3 r1) (fun b106 => ?_) (fun b106 => ?_)
                          · refine Ew_of (pcₚ := 296) (fun _ => x_aload_n rfl l265_0) ?_
                            refine w_inv H (o := 6) rfl rfl rfl (H.perm 6 rfl) rfl rfl (by rfl) (M395 H (y265_6_37) ((ey265_6_37)) (show 0 ≤ (y265_6_37) ∧ (y265_6_37) ≤ 100000000 from r105) (fun z111 σ F107 A108 H hS109 hA110 pz111_0 pz111_1 => ⟨rfl, ?_⟩))
                            exact w_ireturn rfl (k (z111) σ _ _ H (SF_trans (SF_trans (SF_trans (SF_trans (SF_trans (SF_trans (SF_trans (SF_trans (SF_trans (SF_upd (SF_trans (SF_trans (SF_trans (SF_trans (SF_trans (SF_trans (SF_trans (SF_upd (SF_upd (SF_refl) rfl) rfl) hS_33 (any_sub rfl)) hS7 (any_sub rfl)) hS24 (any_sub rfl)) hS_96 (any_sub rfl)) hS31 (any_sub rfl)) hS40 (any_sub rfl)) hS47 (any_sub rfl)) rfl) hS56 (any_sub rfl)) hS65 (any_sub rfl)) hS73 (any_sub rfl)) hS_173 (any_sub rfl)) hS83 (any_sub rfl)) hS91 (any_sub rfl)) hS99 (any_sub rfl)) hS_265 (any_sub rfl)) hS109 (any_sub rfl)) (SA_trans (SA_trans (SA_trans (SA_trans (SA_trans (SA_trans (SA_trans (SA_trans (SA_trans (SA_trans (SA_trans (SA_trans (SA_trans (SA_trans (SA_trans (SA_trans (SA_refl) hA_33 (any_subA rfl)) hA8 (any_subA rfl)) hA25 (any_subA rfl)) hA_96 (any_subA rfl)) hA32 (any_subA rfl)) hA41 (any_subA rfl)) hA48 (any_subA rfl)) hA57 (any_subA rfl)) hA66 (any_subA rfl)) hA74 (any_subA rfl)) hA_173 (any_subA rfl)) hA84 (any_subA rfl)) hA92 (any_subA rfl)) hA100 (any_subA rfl)) hA_265 (any_subA rfl)) hA110 (any_subA rfl)) (show inr (z111) from pz111_0) (show -1 ≤ (z111) ∧ (z111) ≤ 65536 from pz111_1))
                          · refine Ew_of (pcₚ := 277) (fun _ => x_aload_n rfl l265_0) ?_
                            refine Ew_of (pcₚ := 278) (fun _ => x_aload_n rfl l265_0) ?_
                            refine w_gT H (o := 6) (t := 1) rfl (H.perm 6 rfl) rfl rfl rfl rfl rfl rfl ?_
                            refine w_gT H (o := 1) (t := 14) rfl (H.perm 1 rfl) rfl rfl rfl rfl rfl rfl ?_
                            refine Ew_of (pcₚ := 285) (fun _ => x_iload_n rfl l265_3) ?_
                            refine w_lI H (o := 14) (n := 65536) rfl (H.perm 14 rfl) rfl rfl (H.fix 14 rfl rfl) (show 0 ≤ x265_3 ∧ x265_3 < ((65536 : Nat) : Int) from q_27 b106 j265_1 r1) (by decide) (fun v112 ev112 qv112 => ?_)
                            have qv112 : (0 : Int) ≤ v112 ∧ v112 ≤ 255 := qv112
                            have ev112 : (A 14) (x265_3) = v112 := (congrFun ((funext (hA_265 14 rfl)).trans ((funext (hA100 14 rfl)).trans ((funext (hA92 14 rfl)).trans ((funext (hA84 14 rfl)).trans ((funext (hA_173 14 rfl)).trans ((funext (hA74 14 rfl)).trans ((funext (hA66 14 rfl)).trans ((funext (hA57 14 rfl)).trans ((funext (hA48 14 rfl)).trans ((funext (hA41 14 rfl)).trans ((funext (hA32 14 rfl)).trans ((funext (hA_96 14 rfl)).trans ((funext (hA25 14 rfl)).trans ((funext (hA8 14 rfl)).trans (funext (hA_33 14 rfl)))))))))))))))) (x265_3)).symm.trans ev112
                            refine w_inv H (o := 6) rfl rfl rfl (H.perm 6 rfl) rfl rfl (by rfl) (M392 H (y265_6_37) ((ey265_6_37)) (show inr (v112) from q_38 qv112) (show 0 ≤ (y265_6_37) ∧ (y265_6_37) ≤ 99999999 from q_2482 b106 j265_3 r1 r105) (fun σ F113 A114 H hS115 hA116 y118 ey119 pz117_0 => ⟨rfl, ?_⟩))
                            have r120 : (0 : Int) ≤ y118 ∧ y118 ≤ 100000000 := rngE (show (0 : Int) ≤ F113 6 37 ∧ F113 6 37 ≤ 100000000 from H.frng 6 37) (show F113 6 37 = y118 from (ey119))
                            refine Ew_of (pcₚ := 292) (fun _ => x_iinc (len := 3) rfl (l265_3)) ?_
                            refine Ew_of (pcₚ := 265) (fun _ => x_goto rfl rfl) ?_
                            exact ih265 _ (msE hm265 q_31 (q_34 b106)) _ σ _ _ ((x265_3 + 1)) (rk_o (l265_0) rfl rfl) (rk_s) H (SF_trans (hS_265) hS115 (any_sub rfl)) (SA_trans (hA_265) hA116 (any_subA rfl)) (y118) ((ey119))  (show inr ((x265_3 + 1)) from q_30 b106 j265_1 r1) (show (0) ≤ ((x265_3 + 1)) from q_29 j265_1) (show ((x265_3 + 1)) ≤ (0) ∨ ((x265_3 + 1)) ≤ ((u1_1)) from q_33 b106) (show 0 ≤ (y118) ∧ (y118) ≤ 700 + ((x265_3 + 1)) from q_2483 j265_3 pz117_0 r120) rfl
                      · refine Ew_of (pcₚ := 179) (fun _ => x_iload_n rfl l173_3) ?_
                        have hc196 : ∀ (tc196_0 : Int), ∀ (ls : rO) (σ : rS) (F_c196 : hF) (A_c196 : hA) , rlook ls 0 = some (.ref (D 6)) → rlook ls 3 = some (I (x173_3)) → HS σ0 σ D N F_c196 A_c196 → SF [] F_173 F_c196 → SA [] A_173 A_c196 → (inr (tc196_0)) → (((x173_3) ≠ (0) ∧ (x173_3) ≠ (1) ∧ (tc196_0) = (0)) ∨ ((x173_3) ≠ (0) ∧ (x173_3) = (1) ∧ (tc196_0) = (2)) ∨ ((x173_3) = (0) ∧ (tc196_0) = (1))) → Ew 454 (d + 5) 196 ls [I (tc196_0)] σ c s Q := by
                         as_aux_lemma =>
                          intro tc196_0 ls σ F_c196 A_c196  lc196_0 lc196_3 H hS_c196 hA_c196   jc196_0 jc196_1
                          refine Ew_of (pcₚ := 198) (fun _ => x_istore rfl) ?_
                          refine Ew_of (pcₚ := 199) (fun _ => x_aload_n rfl (rk_o (lc196_0) rfl rfl)) ?_
                          refine Ew_of (pcₚ := 201) (fun _ => x_iload rfl rk_s) ?_
                          have hls := lS_eq ((tc196_0))
                          have hrl : ∀ j, 0 ≤ j → j < (y10) → (sh ((wq34)) (8001 * (tc196_0))) j ≤ lS ((tc196_0)) := TLI_sy htl (by omega) (by omega)
                          refine w_inv H (o := 6) rfl rfl rfl (H.perm 6 rfl) rfl rfl (by rfl) (M413 H (y10) ((((((((((((hS_c196 6 28 rfl).trans (hS_173 6 28 rfl)).trans (hS73 6 28 rfl)).trans (hS65 6 28 rfl)).trans (hS56 6 28 rfl)).trans (hS47 6 28 rfl)).trans (hS40 6 28 rfl)).trans (hS31 6 28 rfl)).trans (hS_96 6 28 rfl)).trans (hS24 6 28 rfl)).trans (ey11))) (wq34) ((funext (hA_c196 66 rfl)).trans ((funext (hA_173 66 rfl)).trans ((funext (hA74 66 rfl)).trans ((funext (hA66 66 rfl)).trans ((funext (hA57 66 rfl)).trans ((funext (hA48 66 rfl)).trans ((funext (hA41 66 rfl)).trans (ewq35)))))))) (lS ((tc196_0))) (show inr (tc196_0) from jc196_0) (show 0 ≤ (tc196_0) ∧ (tc196_0) ≤ 2 from q_1672 jc196_1) (show 1 ≤ (y10) by omega) (show ∀ j, 0 ≤ j → j < (y10) → (sh ((wq34)) (8001 * (tc196_0))) j ≤ (lS ((tc196_0))) by assumption) (show 0 ≤ (lS ((tc196_0))) ∧ (lS ((tc196_0))) ≤ 63 by omega) (fun z125 σ F121 A122 H hS123 hA124 wq126 ewq127 pz125_0 pz125_1 pz125_2 pz125_3 pz125_4 pz125_5 pz125_6 => ⟨rfl, ?_⟩))
                          have hce : ∀ i, (0 : Int) ≤ i → i < 64 → ((wq126)) i = su (eqs (sh ((wq34)) (8001 * (tc196_0))) i) ((y10) : Int).toNat := by assumption
                          have hlz : ∀ i, lS ((tc196_0)) < i → i < 64 → 0 ≤ i → ((wq126)) i = 0 := fun i a b c => by rw [hce i c b]; exact su_eqs0 (fun k x y => by have := hrl k x (by omega); omega)
                          refine Ew_of (pcₚ := 206) (fun _ => x_istore rfl) ?_
                          refine Ew_of (pcₚ := 207) (fun _ => x_aload_n rfl (rk_o (rk_o (lc196_0) rfl rfl) rfl rfl)) ?_
                          refine Ew_of (pcₚ := 208) (fun _ => x_aload_n rfl (rk_o (rk_o (lc196_0) rfl rfl) rfl rfl)) ?_
                          refine w_gI H (o := 6) (w := y10) rfl (H.perm 6 rfl) rfl rfl rfl (fun _ => rfl) ((((((((((((hS123 6 28 rfl).trans (hS_c196 6 28 rfl)).trans (hS_173 6 28 rfl)).trans (hS73 6 28 rfl)).trans (hS65 6 28 rfl)).trans (hS56 6 28 rfl)).trans (hS47 6 28 rfl)).trans (hS40 6 28 rfl)).trans (hS31 6 28 rfl)).trans (hS_96 6 28 rfl)).trans (hS24 6 28 rfl)).trans (ey11)) ?_
                          refine Ew_of (pcₚ := 213) (fun _ => x_iload rfl rk_s) ?_
                          refine w_inv H (o := 6) rfl rfl rfl (H.perm 6 rfl) rfl rfl (by rfl) (M411b H (wq126) (ewq127) (show inr (y10) from q_1788 r18) (show inr (z125) from pz125_0) (show 1 ≤ (y10) ∧ (y10) ≤ 8001 by omega) (show 5 ≤ (z125) ∧ (z125) ≤ 9 from pz125_1) (show ∀ i, (0 : Int) ≤ i → i < 64 → 0 ≤ ((wq126)) i by assumption) (show su (fun i => ((wq126)) i) 64 = (y10) by omega) (show su (fun i => pos1 (((wq126)) i)) 64 ≤ p2 ((z125)) by omega) (fun σ F128 A129 H hS130 hA131 wq133 ewq134 pz132_0 pz132_1 pz132_2 => ⟨rfl, ?_⟩))
                          have hd0 := pz132_0
                          have hd1 := pz132_1
                          have : SH ((wq133)) 0 64 ((z125)) (lS ((tc196_0))) := SH_div (by omega) hd0 hd1 hlz
                          refine Ew_of (pcₚ := 217) (fun _ => x_aload_n rfl (rk_o (rk_o (lc196_0) rfl rfl) rfl rfl)) ?_
                          refine w_inv H (o := 6) rfl rfl rfl (H.perm 6 rfl) rfl rfl (by rfl) (M391 H  (fun σ F135 A136 H hS137 hA138 y140 ey141 pz139_0 => ⟨rfl, ?_⟩))
                          have r142 : (0 : Int) ≤ y140 ∧ y140 ≤ 100000000 := rngE (show (0 : Int) ≤ F135 6 35 ∧ F135 6 35 ≤ 100000000 from H.frng 6 35) (show F135 6 35 = y140 from (ey141))
                          refine Ew_of (pcₚ := 221) (fun _ => x_aload_n rfl (rk_o (rk_o (lc196_0) rfl rfl) rfl rfl)) ?_
                          refine Ew_of (pcₚ := 222) (fun _ => x_aload_n rfl (rk_o (rk_o (lc196_0) rfl rfl) rfl rfl)) ?_
                          refine w_gT H (o := 6) (t := 75) rfl (H.perm 6 rfl) rfl rfl rfl rfl rfl rfl ?_
                          refine Ew_of (pcₚ := 226) (fun _ => x_iconst rfl) ?_
                          refine Ew_of (pcₚ := 228) (fun _ => x_iload rfl rk_s) ?_
                          refine w_inv H (o := 6) rfl rfl rfl (H.perm 6 rfl) rfl rfl (by rfl) (M412_75 H (y140) ((ey141)) (wq133) ((funext (hA138 75 rfl)).trans (ewq134)) (lS ((tc196_0))) (show inr (0) from q_20) (show inr (z125) from pz125_0) (show SH ((wq133)) (0) 64 (z125) (lS ((tc196_0))) by assumption) (show 0 ≤ (0) ∧ (0) + 64 ≤ 64 from q_2198) (show 0 ≤ (y140) ∧ (y140) ≤ 1000000 from q_2262 pz139_0 r142) (show 0 ≤ (lS ((tc196_0))) by omega) (fun σ F143 A144 H hS145 hA146 y148 ey149 pz147_0 => ⟨rfl, ?_⟩))
                          have r150 : (0 : Int) ≤ y148 ∧ y148 ≤ 100000000 := rngE (show (0 : Int) ≤ F143 6 35 ∧ F143 6 35 ≤ 100000000 from H.frng 6 35) (show F143 6 35 = y148 from (ey149))
                          refine Ew_of (pcₚ := 232) (fun _ => x_aload_n rfl (rk_o (rk_o (lc196_0) rfl rfl) rfl rfl)) ?_
                          refine w_inv H (o := 6) rfl rfl rfl (H.perm 6 rfl) rfl rfl (by rfl) (M394 H (y148) ((ey149)) (y173_6_37) (((((((hS145 6 37 rfl).trans (hS137 6 37 rfl)).trans (hS130 6 37 rfl)).trans (hS123 6 37 rfl)).trans (hS_c196 6 37 rfl)).trans (ey173_6_37))) (show 0 ≤ (y148) ∧ (y148) ≤ 192000 by omega) (show 0 ≤ (y173_6_37) ∧ (y173_6_37) ≤ 90000000 by omega) (fun σ F151 A152 H hS153 hA154 y156 ey157 pz155_0 => ⟨rfl, ?_⟩))
                          have r158 : (0 : Int) ≤ y156 ∧ y156 ≤ 100000000 := rngE (show (0 : Int) ≤ F151 6 37 ∧ F151 6 37 ≤ 100000000 from H.frng 6 37) (show F151 6 37 = y156 from (ey157))
                          refine Ew_of (pcₚ := 238) (fun _ => x_iinc (len := 3) rfl (rk_o (rk_o (lc196_3) rfl rfl) rfl rfl)) ?_
                          refine Ew_of (pcₚ := 173) (fun _ => x_goto rfl rfl) ?_
                          exact ih173 _ (msE hm173 q_595 (q_596 b80)) _ σ _ _ ((x173_3 + 1)) (rk_o (rk_o (rk_o (lc196_0) rfl rfl) rfl rfl) rfl rfl) (rk_s) H (SF_trans (SF_trans (SF_trans (SF_trans (SF_trans (SF_trans (hS_173) hS_c196 (any_sub rfl)) hS123 (any_sub rfl)) hS130 (any_sub rfl)) hS137 (any_sub rfl)) hS145 (any_sub rfl)) hS153 (any_sub rfl)) (SA_trans (SA_trans (SA_trans (SA_trans (SA_trans (SA_trans (hA_173) hA_c196 (any_subA rfl)) hA124 (any_subA rfl)) hA131 (any_subA rfl)) hA138 (any_subA rfl)) hA146 (any_subA rfl)) hA154 (any_subA rfl)) (y156) ((ey157))  (show inr ((x173_3 + 1)) from q_2485 b80 j173_2) (show 0 ≤ ((x173_3 + 1)) ∧ ((x173_3 + 1)) ≤ 3 from q_2484 b80 j173_1 j173_2) (show 0 ≤ (y156) ∧ (y156) ≤ 300 + 100 * ((x173_3 + 1)) by omega) rfl
                        refine w_ifne (t := 186) rfl rfl (show inr (x173_3) from j173_0) (fun b159 => ?_) (fun b159 => ?_)
                        · refine Ew_of (pcₚ := 187) (fun _ => x_iload_n rfl l173_3) ?_
                          refine Ew_of (pcₚ := 188) (fun _ => x_iconst rfl) ?_
                          refine w_icmpne (t := 195) rfl rfl (show inr (x173_3) from j173_0) (show inr (1) from q_23) (fun b160 => ?_) (fun b160 => ?_)
                          · refine Ew_of (pcₚ := 196) (fun _ => x_iconst rfl) ?_
                            exact hc196 (0) _ σ _ _  (l173_0) (l173_3) H (SF_refl) (SA_refl)   (show inr (0) from q_20) (show ((x173_3) ≠ (0) ∧ (x173_3) ≠ (1) ∧ (0) = (0)) ∨ ((x173_3) ≠ (0) ∧ (x173_3) = (1) ∧ (0) = (2)) ∨ ((x173_3) = (0) ∧ (0) = (1)) from q_1676 b159 b160)
                          · refine Ew_of (pcₚ := 192) (fun _ => x_iconst rfl) ?_
                            refine Ew_of (pcₚ := 196) (fun _ => x_goto rfl rfl) ?_
                            exact hc196 (2) _ σ _ _  (l173_0) (l173_3) H (SF_refl) (SA_refl)   (show inr (2) from q_55) (show ((x173_3) ≠ (0) ∧ (x173_3) ≠ (1) ∧ (2) = (0)) ∨ ((x173_3) ≠ (0) ∧ (x173_3) = (1) ∧ (2) = (2)) ∨ ((x173_3) = (0) ∧ (2) = (1)) from q_1677 b159 b160)
                        · refine Ew_of (pcₚ := 183) (fun _ => x_iconst rfl) ?_
                          refine Ew_of (pcₚ := 196) (fun _ => x_goto rfl rfl) ?_
                          exact hc196 (1) _ σ _ _  (l173_0) (l173_3) H (SF_refl) (SA_refl)   (show inr (1) from q_23) (show ((x173_3) ≠ (0) ∧ (x173_3) ≠ (1) ∧ (1) = (0)) ∨ ((x173_3) ≠ (0) ∧ (x173_3) = (1) ∧ (1) = (2)) ∨ ((x173_3) = (0) ∧ (1) = (1)) from q_1678 b159)
                  · refine Ew_of (pcₚ := 142) (fun _ => x_iconst rfl) ?_
                    exact w_ireturn rfl (k ((-1)) σ _ _ H (SF_trans (SF_trans (SF_trans (SF_trans (SF_trans (SF_trans (SF_trans (SF_upd (SF_upd (SF_refl) rfl) rfl) hS_33 (any_sub rfl)) hS7 (any_sub rfl)) hS24 (any_sub rfl)) hS_96 (any_sub rfl)) hS31 (any_sub rfl)) hS40 (any_sub rfl)) hS47 (any_sub rfl)) (SA_trans (SA_trans (SA_trans (SA_trans (SA_trans (SA_trans (SA_trans (SA_refl) hA_33 (any_subA rfl)) hA8 (any_subA rfl)) hA25 (any_subA rfl)) hA_96 (any_subA rfl)) hA32 (any_subA rfl)) hA41 (any_subA rfl)) hA48 (any_subA rfl)) (show inr ((-1)) from q_16) (show -1 ≤ ((-1)) ∧ ((-1)) ≤ 65536 by first | exact q_1716 | omega))
                · refine Ew_of (pcₚ := 102) (fun _ => x_aload_n rfl l96_0) ?_
                  refine w_gT H (o := 6) (t := 56) rfl (H.perm 6 rfl) rfl rfl rfl rfl rfl rfl ?_
                  refine Ew_of (pcₚ := 106) (fun _ => x_iload_n rfl l96_2) ?_
                  refine Ew_of (pcₚ := 107) (fun _ => x_iload_n rfl l96_2) ?_
                  refine w_ifne (t := 114) rfl rfl (show inr (x96_2) from j96_0) (fun b161 => ?_) (fun b161 => ?_)
                  · refine Ew_of (pcₚ := 115) (fun _ => x_iconst rfl) ?_
                    refine Ew_of (pcₚ := 116) (fun _ => x_iload_n rfl l96_2) ?_
                    refine w_imul rfl ?_
                    refine w_sI H (o := 56) (n := 3) rfl (H.perm 56 rfl) rfl rfl (H.fix 56 rfl rfl) (show 0 ≤ x96_2 ∧ x96_2 < ((3 : Nat) : Int) from q_1539 b28 j96_1) (by decide) (show (-2147483648 : Int) ≤ (4 * x96_2) ∧ (4 * x96_2) ≤ 2147483647 from q_1927 b28 j96_1) (fun σ H => ?_)
                    refine Ew_of (pcₚ := 121) (fun _ => x_iinc (len := 3) rfl (l96_2)) ?_
                    refine Ew_of (pcₚ := 96) (fun _ => x_goto rfl rfl) ?_
                    exact ih96 _ (msE hm96 q_595 (q_596 b28)) _ σ _ _ ((x96_2 + 1)) (rk_o (l96_0) rfl rfl) (rk_o (l96_1) rfl rfl) (rk_s) H (hS_96) (SA_upd (hA_96) rfl)   (show inr ((x96_2 + 1)) from q_1542 b28 j96_1) (show (0) ≤ ((x96_2 + 1)) from q_29 j96_1) (show ((x96_2 + 1)) ≤ (0) ∨ ((x96_2 + 1)) ≤ (3) from q_1541 b28) rfl
                  · refine Ew_of (pcₚ := 111) (fun _ => x_iconst rfl) ?_
                    refine Ew_of (pcₚ := 117) (fun _ => x_goto rfl rfl) ?_
                    refine w_sI H (o := 56) (n := 3) rfl (H.perm 56 rfl) rfl rfl (H.fix 56 rfl rfl) (show 0 ≤ x96_2 ∧ x96_2 < ((3 : Nat) : Int) from q_1551 b161 j96_1) (by decide) (show (-2147483648 : Int) ≤ 1 ∧ 1 ≤ 2147483647 from q_1928) (fun σ H => ?_)
                    refine Ew_of (pcₚ := 121) (fun _ => x_iinc (len := 3) rfl (l96_2)) ?_
                    refine Ew_of (pcₚ := 96) (fun _ => x_goto rfl rfl) ?_
                    exact ih96 _ (msE hm96 q_595 (q_1555 b161)) _ σ _ _ ((x96_2 + 1)) (rk_o (l96_0) rfl rfl) (rk_o (l96_1) rfl rfl) (rk_s) H (hS_96) (SA_upd (hA_96) rfl)   (show inr ((x96_2 + 1)) from q_1554 b161) (show (0) ≤ ((x96_2 + 1)) from q_1553 b161) (show ((x96_2 + 1)) ≤ (0) ∨ ((x96_2 + 1)) ≤ (3) from q_1552 b161) rfl
            · refine Ew_of (pcₚ := 93) (fun _ => x_iconst rfl) ?_
              exact w_ireturn rfl (k ((-1)) σ _ _ H (SF_trans (SF_trans (SF_trans (SF_upd (SF_upd (SF_refl) rfl) rfl) hS_33 (any_sub rfl)) hS7 (any_sub rfl)) hS24 (any_sub rfl)) (SA_trans (SA_trans (SA_trans (SA_refl) hA_33 (any_subA rfl)) hA8 (any_subA rfl)) hA25 (any_subA rfl)) (show inr ((-1)) from q_16) (show -1 ≤ ((-1)) ∧ ((-1)) ≤ 65536 by first | exact q_1716 | omega))
      · refine Ew_of (pcₚ := 45) (fun _ => x_aload_n rfl l33_0) ?_
        refine w_gT H (o := 6) (t := 61) rfl (H.perm 6 rfl) rfl rfl rfl rfl rfl rfl ?_
        refine Ew_of (pcₚ := 49) (fun _ => x_iload_n rfl l33_2) ?_
        refine Ew_of (pcₚ := 50) (fun _ => x_aload_n rfl l33_0) ?_
        refine w_gT H (o := 6) (t := 1) rfl (H.perm 6 rfl) rfl rfl rfl rfl rfl rfl ?_
        refine w_gT H (o := 1) (t := 14) rfl (H.perm 1 rfl) rfl rfl rfl rfl rfl rfl ?_
        refine Ew_of (pcₚ := 57) (fun _ => x_iload_n rfl l33_2) ?_
        refine w_lI H (o := 14) (n := 65536) rfl (H.perm 14 rfl) rfl rfl (H.fix 14 rfl rfl) (show 0 ≤ x33_2 ∧ x33_2 < ((65536 : Nat) : Int) from q_27 b4 j33_1 r1) (by decide) (fun v162 ev162 qv162 => ?_)
        have qv162 : (0 : Int) ≤ v162 ∧ v162 ≤ 255 := qv162
        have ev162 : (A 14) (x33_2) = v162 := (congrFun (funext (hA_33 14 rfl)) (x33_2)).symm.trans ev162
        refine w_sI H (o := 61) (n := 16384) rfl (H.perm 61 rfl) rfl rfl (H.fix 61 rfl rfl) (show 0 ≤ x33_2 ∧ x33_2 < ((16384 : Nat) : Int) from q_2486 b4 h1 j33_1) (by decide) (show (0 : Int) ≤ v162 ∧ v162 ≤ 255 from qv162) (fun σ H => ?_)
        refine Ew_of (pcₚ := 62) (fun _ => x_iinc (len := 3) rfl (l33_2)) ?_
        refine Ew_of (pcₚ := 33) (fun _ => x_goto rfl rfl) ?_
        exact ih33 _ (msE hm33 q_31 (q_34 b4)) _ σ _ _ ((x33_2 + 1)) (rk_o (l33_0) rfl rfl) (rk_o (l33_1) rfl rfl) (rk_s) H (hS_33) (SA_upd (hA_33) rfl)   (show inr ((x33_2 + 1)) from q_30 b4 j33_1 r1) (show (0) ≤ ((x33_2 + 1)) from q_29 j33_1) (show ((x33_2 + 1)) ≤ (0) ∨ ((x33_2 + 1)) ≤ ((u1_1)) from q_33 b4) rfl
  · refine Ew_of (pcₚ := 13) (fun _ => x_iconst rfl) ?_
    exact w_ireturn rfl (k ((-1)) σ _ _ H (SF_refl) (SA_refl) (show inr ((-1)) from q_16) (show -1 ≤ ((-1)) ∧ ((-1)) ≤ 65536 by first | exact q_1716 | omega))
