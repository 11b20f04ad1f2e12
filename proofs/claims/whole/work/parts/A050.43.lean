section
/-! 43.ref -/
theorem M289 {σ0 σ : rS} {D N : Nat → Nat} {F : hF} {A : hA} {d c s : Nat} {Q : wQ} (H : HS σ0 σ D N F A) {a1 : Int} (u1_1 : Int) (eu1_1 : F 1 1 = u1_1) (u5_2 : Int) (eu5_2 : F 5 2 = u5_2) (u5_10 : Int) (eu5_10 : F 5 10 = u5_10) (u5_25 : Int) (eu5_25 : F 5 25 = u5_25) (u5_26 : Int) (eu5_26 : F 5 26 = u5_26) (u5_27 : Int) (eu5_27 : F 5 27 = u5_27) (u5_28 : Int) (eu5_28 : F 5 28 = u5_28) (u5_29 : Int) (eu5_29 : F 5 29 = u5_29) (u5_34 : Int) (eu5_34 : F 5 34 = u5_34) (u5_35 : Int) (eu5_35 : F 5 35 = u5_35) (w14 : Int → Int) (ew14 : A 14 = w14) (w26 : Int → Int) (ew26 : A 26 = w26) (w31 : Int → Int) (ew31 : A 31 = w31) (w32 : Int → Int) (ew32 : A 32 = w32) (w34 : Int → Int) (ew34 : A 34 = w34) (w35 : Int → Int) (ew35 : A 35 = w35) (w36 : Int → Int) (ew36 : A 36 = w36) (w37 : Int → Int) (ew37 : A 37 = w37) (w38 : Int → Int) (ew38 : A 38 = w38) (w45 : Int → Int) (ew45 : A 45 = w45) (tb : Int → Tb) (GG : Int → Int) (h0 : inr (a1)) (h1 : 0 ≤ (u5_25) ∧ (u5_25) ≤ (a1) ∧ (a1) ≤ (u1_1)) (h2 : RT ((w35)) ((w36)) ((w37)) ((w34))) (h3 : 1 ≤ ((w38)) 0 ∧ 1 ≤ ((w38)) 1 ∧ 1 ≤ ((w38)) 2) (h4 : (u5_28) ≤ (u5_27) ∧ (u5_27) ≤ (u5_26)) (h5 : RTA ((w35)) ((w36)) ((w37)) ((w34)) tb) (h6 : RCO ((u5_10)) (GG) ((w31)) ((w32))) (h7 : 0 ≤ (u5_34) ∧ (u5_34) ≤ (u5_27)) (k : ∀ (z : Int) σ Fₚ Aₚ, HS σ0 σ D N Fₚ Aₚ → SF [(5, 10), (5, 19), (5, 25), (5, 27), (5, 30), (5, 31), (5, 34), (5, 39), (5, 40), (5, 41), (5, 42), (5, 43), (5, 44), (5, 45)] F Fₚ → SA [31, 32, 33, 34, 35, 36, 37, 38, 39, 40, 41, 42, 43, 44, 45, 46] A Aₚ → ∀ y5_10 : Int, Fₚ 5 10 = y5_10 → ∀ y5_27 : Int, Fₚ 5 27 = y5_27 → ∀ y5_30 : Int, Fₚ 5 30 = y5_30 → ∀ y5_31 : Int, Fₚ 5 31 = y5_31 → ∀ y5_34 : Int, Fₚ 5 34 = y5_34 → ∀ v31 : Int → Int, Aₚ 31 = v31 → ∀ v32 : Int → Int, Aₚ 32 = v32 → ∀ v34 : Int → Int, Aₚ 34 = v34 → ∀ v35 : Int → Int, Aₚ 35 = v35 → ∀ v36 : Int → Int, Aₚ 36 = v36 → ∀ v37 : Int → Int, Aₚ 37 = v37 → ∀ v38 : Int → Int, Aₚ 38 = v38 → ∀ v45 : Int → Int, Aₚ 45 = v45 → ((z) = 0 ∨ (z) = 1) → (RT ((v35)) ((v36)) ((v37)) ((v34))) → ((u5_27) ≤ (y5_27) ∧ (y5_27) ≤ (u5_26)) → ((z) = 1 → 1 ≤ ((v38)) 0 ∧ 1 ≤ ((v38)) 1 ∧ 1 ≤ ((v38)) 2) → (0 ≤ (y5_34) ∧ (y5_34) ≤ (y5_27)) → (PKA (PBF ((w14)) ((u5_25)) ((a1)) ((u5_2)) (wnF ((u5_35))) ((u5_29)) ((u5_26) - (u5_27)) (sc ((w26)) 0 ((u5_2)) ++ sc ((w45)) ((u5_28)) ((u5_27))) ((u5_10), GG) tb (((w38)) 0) (((w38)) 1) (((w38)) 2)) ((z)) ((y5_30)) ((y5_31)) ((u5_34)) ((y5_34)) (sc ((w26)) 0 ((u5_2)) ++ sc ((v45)) ((u5_28)) ((y5_27))) ((v35)) ((v36)) ((v37)) ((v34)) ((v38)) ((y5_10)) ((v31)) ((v32))) → (FRM ((w45)) ((v45)) ((u5_27)) 65536) → Q (some (I z)) σ c s) : Ew 289 (d + 6) 0 (rargs 0 [.ref (D 5), I a1]) [] σ c s Q := by
  have r1 : (0 : Int) ≤ u1_1 ∧ u1_1 ≤ 65536 := rngE (show (0 : Int) ≤ F 1 1 ∧ F 1 1 ≤ 65536 from H.frng 1 1) (show F 1 1 = u1_1 from (eu1_1))
  have r2 : (0 : Int) ≤ u5_2 ∧ u5_2 ≤ 65536 := rngE (show (0 : Int) ≤ F 5 2 ∧ F 5 2 ≤ 65536 from H.frng 5 2) (show F 5 2 = u5_2 from (eu5_2))
  have r3 : (0 : Int) ≤ u5_10 ∧ u5_10 ≤ 11 := rngE (show (0 : Int) ≤ F 5 10 ∧ F 5 10 ≤ 11 from H.frng 5 10) (show F 5 10 = u5_10 from (eu5_10))
  have r4 : (0 : Int) ≤ u5_25 ∧ u5_25 ≤ 65536 := rngE (show (0 : Int) ≤ F 5 25 ∧ F 5 25 ≤ 65536 from H.frng 5 25) (show F 5 25 = u5_25 from (eu5_25))
  have r5 : (0 : Int) ≤ u5_26 ∧ u5_26 ≤ 65536 := rngE (show (0 : Int) ≤ F 5 26 ∧ F 5 26 ≤ 65536 from H.frng 5 26) (show F 5 26 = u5_26 from (eu5_26))
  have r6 : (0 : Int) ≤ u5_27 ∧ u5_27 ≤ 65536 := rngE (show (0 : Int) ≤ F 5 27 ∧ F 5 27 ≤ 65536 from H.frng 5 27) (show F 5 27 = u5_27 from (eu5_27))
  have r7 : (0 : Int) ≤ u5_28 ∧ u5_28 ≤ 65536 := rngE (show (0 : Int) ≤ F 5 28 ∧ F 5 28 ≤ 65536 from H.frng 5 28) (show F 5 28 = u5_28 from (eu5_28))
  have r8 : (0 : Int) ≤ u5_29 ∧ u5_29 ≤ 131072 := rngE (show (0 : Int) ≤ F 5 29 ∧ F 5 29 ≤ 131072 from H.frng 5 29) (show F 5 29 = u5_29 from (eu5_29))
  have r9 : (-2147483648 : Int) ≤ u5_34 ∧ u5_34 ≤ 2147483647 := rngE (show (-2147483648 : Int) ≤ F 5 34 ∧ F 5 34 ≤ 2147483647 from H.frng 5 34) (show F 5 34 = u5_34 from (eu5_34))
  have r10 : (-9223372036854775808 : Int) ≤ u5_35 ∧ u5_35 ≤ 9223372036854775807 := rngE (show (-9223372036854775808 : Int) ≤ F 5 35 ∧ F 5 35 ≤ 9223372036854775807 from H.frng 5 35) (show F 5 35 = u5_35 from (eu5_35))
  have hrta : RTA ((w35)) ((w36)) ((w37)) ((w34)) tb := h5
  have hcf0 : FRM ((w45)) ((w45)) ((u5_27)) 65536 := FRM_refl
  refine Ew_of (pcₚ := 1) (fun _ => x_aload_n rfl rfl) ?_
  refine w_gI H (o := 5) (w := u5_25) rfl (H.perm 5 rfl) rfl rfl rfl (fun _ => rfl) (eu5_25) ?_
  refine Ew_of (pcₚ := 5) (fun _ => x_istore_n rfl) ?_
  refine Ew_of (pcₚ := 6) (fun _ => x_aload_n rfl (rk_o (rfl) rfl rfl)) ?_
  refine Ew_of (pcₚ := 7) (fun _ => x_iconst rfl) ?_
  refine w_pI H (o := 5) rfl rfl (H.perm 5 rfl) rfl rfl rfl (fun _ => rfl) rfl (show (0 : Int) ≤ 0 ∧ 0 ≤ 131072 from q_1740) (fun σ H => ?_)
  refine Ew_of (pcₚ := 11) (fun _ => x_aload_n rfl (rk_o (rfl) rfl rfl)) ?_
  refine Ew_of (pcₚ := 12) (fun _ => x_iload_n rfl (rk_o (rfl) rfl rfl)) ?_
  refine w_inv H (o := 5) rfl rfl rfl (H.perm 5 rfl) rfl rfl (by rfl) (M291 H (u1_1) ((eu1_1)) (u5_10) ((eu5_10)) (u5_25) ((eu5_25)) (u5_29) ((eu5_29)) (0) (rfl) (w14) (ew14) (w31) (ew31) (w32) (ew32) (GG) (show inr (a1) from h0) (show 0 ≤ (u5_25) ∧ (u5_25) ≤ (a1) ∧ (a1) ≤ (u1_1) from h1) (show (0) = 0 from q_34) (h6) (fun z15 σ F11 A12 H hS13 hA14 y16 ey17 y18 ey19 y20 ey21 y22 ey23 y24 ey25 wq26 ewq27 wq28 ewq29 wq30 ewq31 pz15_0 pz15_1 pz15_2 pz15_3 => ⟨rretB rfl pz15_0, ?_⟩))
  have r32 : (0 : Int) ≤ y16 ∧ y16 ≤ 11 := rngE (show (0 : Int) ≤ F11 5 10 ∧ F11 5 10 ≤ 11 from H.frng 5 10) (show F11 5 10 = y16 from (ey17))
  have r33 : (0 : Int) ≤ y18 ∧ y18 ≤ 65536 := rngE (show (0 : Int) ≤ F11 5 25 ∧ F11 5 25 ≤ 65536 from H.frng 5 25) (show F11 5 25 = y18 from (ey19))
  have r34 : (0 : Int) ≤ y20 ∧ y20 ≤ 20 := rngE (show (0 : Int) ≤ F11 5 30 ∧ F11 5 30 ≤ 20 from H.frng 5 30) (show F11 5 30 = y20 from (ey21))
  have r35 : (0 : Int) ≤ y22 ∧ y22 ≤ 65536 := rngE (show (0 : Int) ≤ F11 5 31 ∧ F11 5 31 ≤ 65536 from H.frng 5 31) (show F11 5 31 = y22 from (ey23))
  have r36 : (0 : Int) ≤ y24 ∧ y24 ≤ 131072 := rngE (show (0 : Int) ≤ F11 5 39 ∧ F11 5 39 ≤ 131072 from H.frng 5 39) (show F11 5 39 = y24 from (ey25))
  have hLA := pz15_3
  refine w_ifne (t := 20) rfl rfl (show inr (z15) from q_138 pz15_0) (fun b37 => ?_) (fun b37 => ?_)
  · obtain ⟨x_, G2_, hLe, hrc⟩ := LTA_1 hLA (by omega)
    have hPK := PBF_y (ds := (u5_2)) (wd := wnF ((u5_35))) (mx := (u5_26) - (u5_27)) (W := sc ((w26)) 0 ((u5_2)) ++ sc ((w45)) ((u5_28)) ((u5_27))) (X := tb) (r0 := ((w38)) 0) (r1 := ((w38)) 1) (r2 := ((w38)) 2) hLe
    obtain ⟨qp, hqp⟩ : ∃ q : Int, q = (y18) := ⟨_, rfl⟩
    rw [← hqp] at hPK
    refine Ew_of (pcₚ := 21) (fun _ => x_aload_n rfl (rk_o (rfl) rfl rfl)) ?_
    refine w_gI H (o := 5) (w := y18) rfl (H.perm 5 rfl) rfl rfl rfl (fun _ => rfl) (ey19) ?_
    refine Ew_of (pcₚ := 25) (fun _ => x_iload_n rfl (rk_o (rfl) rfl rfl)) ?_
    refine w_icmplt (t := 36) rfl rfl (show inr (y18) from q_286 r33) (show inr (a1) from h0) (fun b38 => ?_) (fun b38 => ?_)
    · refine Ew_of (pcₚ := 37) (fun _ => x_aload_n rfl (rk_o (rfl) rfl rfl)) ?_
      refine w_gT H (o := 5) (t := 1) rfl (H.perm 5 rfl) rfl rfl rfl rfl rfl rfl ?_
      refine w_gT H (o := 1) (t := 14) rfl (H.perm 1 rfl) rfl rfl rfl rfl rfl rfl ?_
      refine Ew_of (pcₚ := 44) (fun _ => x_aload_n rfl (rk_o (rfl) rfl rfl)) ?_
      refine w_gI H (o := 5) (w := y18) rfl (H.perm 5 rfl) rfl rfl rfl (fun _ => rfl) (ey19) ?_
      refine w_lI H (o := 14) (n := 65536) rfl (H.perm 14 rfl) rfl rfl (H.fix 14 rfl rfl) (show 0 ≤ y18 ∧ y18 < ((65536 : Nat) : Int) from q_1681 b38 h1 r1 r33) (by decide) (fun v39 ev39 qv39 => ?_)
      have qv39 : (0 : Int) ≤ v39 ∧ v39 ≤ 255 := qv39
      have ev39 : (w14) (y18) = v39 := (congrFun ((funext (hA14 14 rfl)).trans (ew14)) (y18)).symm.trans ev39
      have hx := ev39
      rw [← hqp] at hx
      refine Ew_of (pcₚ := 49) (fun _ => x_istore_n rfl) ?_
      refine Ew_of (pcₚ := 50) (fun _ => x_aload_n rfl (rk_o (rk_o (rfl) rfl rfl) rfl rfl)) ?_
      refine Ew_of (pcₚ := 51) (fun _ => x_dup rfl rfl) ?_
      refine w_gI H (o := 5) (w := y18) rfl (H.perm 5 rfl) rfl rfl rfl (fun _ => rfl) (ey19) ?_
      refine Ew_of (pcₚ := 55) (fun _ => x_iconst rfl) ?_
      refine w_iadd rfl ?_
      refine w_pI H (o := 5) rfl rfl (H.perm 5 rfl) rfl rfl rfl (fun _ => rfl) rfl (show (0 : Int) ≤ (y18 + 1) ∧ (y18 + 1) ≤ 65536 from q_1682 b38 h1 r1 r33) (fun σ H => ?_)
      refine Ew_of (pcₚ := 60) (fun _ => x_iload_n rfl rk_s) ?_
      refine Ew_of (pcₚ := 62) (fun _ => x_istore rfl) ?_
      have hc166 : ∀ (ls : rO) (σ : rS) (F_c166 : hF) (A_c166 : hA) (xc166_4 : Int), rlook ls 0 = some (.ref (D 5)) → rlook ls 1 = some (I (a1)) → rlook ls 2 = some (I (u5_25)) → rlook ls 4 = some (I (xc166_4)) → HS σ0 σ D N F_c166 A_c166 → SF [(5, 25)] (updF F11 5 25 ((y18 + 1))) F_c166 → SA [] A12 A_c166 → ∀ yc166_5_25 : Int, F_c166 5 25 = yc166_5_25 → (inr (xc166_4)) → (0 ≤ (xc166_4) ∧ (xc166_4) ≤ 98047) → ((yc166_5_25) ≤ (a1) ∧ ((y18 + 1)) ≤ (yc166_5_25)) → ((xc166_4) = nsv ((w14)) qp) → ((yc166_5_25) = qp + nsz (((w14)) qp)) → Ew 289 (d + 6) 166 ls [] σ c s Q := by
       as_aux_lemma =>
        intro  ls σ F_c166 A_c166 xc166_4 lc166_0 lc166_1 lc166_2 lc166_4 H hS_c166 hA_c166 yc166_5_25 eyc166_5_25  jc166_0 jc166_1 jc166_2 jc166_3 jc166_4
        have r40 : (0 : Int) ≤ yc166_5_25 ∧ yc166_5_25 ≤ 65536 := rngE (show (0 : Int) ≤ F_c166 5 25 ∧ F_c166 5 25 ≤ 65536 from H.frng 5 25) (show F_c166 5 25 = yc166_5_25 from (eyc166_5_25))
        have k166 : (xc166_4) = nsv ((w14)) qp := jc166_3
        have k166z : (yc166_5_25) = qp + nsz (((w14)) qp) := jc166_4
        obtain ⟨qz, hqz⟩ : ∃ q : Int, q = nsz (((w14)) qp) := ⟨_, rfl⟩
        rw [← hqz] at k166z
        refine Ew_of (pcₚ := 167) (fun _ => x_aload_n rfl lc166_0) ?_
        refine Ew_of (pcₚ := 168) (fun _ => x_iconst rfl) ?_
        refine w_pI H (o := 5) rfl rfl (H.perm 5 rfl) rfl rfl rfl (fun _ => rfl) rfl (show (0 : Int) ≤ 0 ∧ 0 ≤ 131072 from q_1740) (fun σ H => ?_)
        refine Ew_of (pcₚ := 173) (fun _ => x_iload rfl lc166_4) ?_
        refine w_ifle (t := 184) rfl rfl (show inr (xc166_4) from jc166_0) (fun b41 => ?_) (fun b41 => ?_)
        · refine Ew_of (pcₚ := 185) (fun _ => x_aload_n rfl lc166_0) ?_
          refine w_gI H (o := 5) (w := yc166_5_25) rfl (H.perm 5 rfl) rfl rfl rfl (fun _ => rfl) (eyc166_5_25) ?_
          refine Ew_of (pcₚ := 189) (fun _ => x_iload_n rfl lc166_1) ?_
          refine w_icmpge (t := 203) rfl rfl (show inr (yc166_5_25) from q_286 r40) (show inr (a1) from h0) (fun b42 => ?_) (fun b42 => ?_)
          · have hlL : ((sc ((wq30)) 0 ((y24))).length : Int) = (y24) := by rw [sc_len]; omega
            refine Ew_of (pcₚ := 204) (fun _ => x_aload_n rfl lc166_0) ?_
            refine w_gI H (o := 5) (w := y24) rfl (H.perm 5 rfl) rfl rfl rfl (fun _ => rfl) ((hS_c166 5 39 rfl).trans (ey25)) ?_
            refine Ew_of (pcₚ := 208) (fun _ => x_aload_n rfl lc166_0) ?_
            refine w_gI H (o := 5) (w := u5_26) rfl (H.perm 5 rfl) rfl rfl rfl (fun _ => rfl) (((hS_c166 5 26 rfl).trans (hS13 5 26 rfl)).trans (eu5_26)) ?_
            refine Ew_of (pcₚ := 212) (fun _ => x_aload_n rfl lc166_0) ?_
            refine w_gI H (o := 5) (w := u5_27) rfl (H.perm 5 rfl) rfl rfl rfl (fun _ => rfl) (((hS_c166 5 27 rfl).trans (hS13 5 27 rfl)).trans (eu5_27)) ?_
            refine w_isub rfl ?_
            refine w_icmple (t := 227) rfl rfl (show inr (y24) from q_1569 r36) (show inr ((u5_26 - u5_27)) from q_1705 h4 r5 r6) (fun b43 => ?_) (fun b43 => ?_)
            · have hP0 := hPK.trans (PBG_0 (by omega) hqz (by omega) (by omega) (by omega) (by omega))
              have hu0 : ((0) : Int) = 0 := q_34
              refine Ew_of (pcₚ := 228) (fun _ => x_aload_n rfl lc166_0) ?_
              refine w_inv H (o := 5) rfl rfl rfl (H.perm 5 rfl) rfl rfl (by rfl) (M290 H (u5_2) ((((hS_c166 5 2 rfl).trans (hS13 5 2 rfl)).trans (eu5_2))) (u5_27) ((((hS_c166 5 27 rfl).trans (hS13 5 27 rfl)).trans (eu5_27))) (u5_28) ((((hS_c166 5 28 rfl).trans (hS13 5 28 rfl)).trans (eu5_28))) (y24) (((hS_c166 5 39 rfl).trans (ey25))) (0) (rfl) (w26) ((funext (hA_c166 26 rfl)).trans ((funext (hA14 26 rfl)).trans (ew26))) (w45) ((funext (hA_c166 45 rfl)).trans ((funext (hA14 45 rfl)).trans (ew45))) (wq30) ((funext (hA_c166 46 rfl)).trans (ewq31)) (show (0) ≤ (y24) ∧ (u5_27) + ((y24) - (0)) ≤ 65536 from q_1741 b43 r36 r5) (show (u5_28) ≤ (u5_27) from q_1707 h4) (show 0 ≤ (0) from q_1) (fun σ F44 A45 H hS46 hA47 y49 ey50 wq51 ewq52 pz48_0 pz48_1 pz48_2 => ⟨rfl, ?_⟩))
              have r53 : (0 : Int) ≤ y49 ∧ y49 ≤ 65536 := rngE (show (0 : Int) ≤ F44 5 27 ∧ F44 5 27 ≤ 65536 from H.frng 5 27) (show F44 5 27 = y49 from (ey50))
              refine Ew_of (pcₚ := 232) (fun _ => x_iconst rfl) ?_
              have : PKA (PBF ((w14)) ((u5_25)) ((a1)) ((u5_2)) (wnF ((u5_35))) ((u5_29)) ((u5_26) - (u5_27)) (sc ((w26)) 0 ((u5_2)) ++ sc ((w45)) ((u5_28)) ((u5_27))) ((u5_10), GG) tb (((w38)) 0) (((w38)) 1) (((w38)) 2)) ((1)) ((y20)) ((y22)) ((u5_34)) ((u5_34)) (sc ((w26)) 0 ((u5_2)) ++ sc ((wq51)) ((u5_28)) ((y49))) ((w35)) ((w36)) ((w37)) ((w34)) ((w38)) ((y16)) ((wq26)) ((wq28)) := PKA_y hP0 (by omega) (by omega) (by have h := pz48_1; exact h) hrta rfl rfl rfl rfl hrc
              exact w_ireturn rfl (k (1) σ _ _ H (SF_trans (SF_upd (SF_trans (SF_upd (SF_trans (SF_upd (SF_refl) rfl) hS13 (any_sub rfl)) rfl) hS_c166 (any_sub rfl)) rfl) hS46 (any_sub rfl)) (SA_trans (SA_trans (SA_trans (SA_refl) hA14 (any_subA rfl)) hA_c166 (any_subA rfl)) hA47 (any_subA rfl)) (y16) ((((hS46 5 10 rfl).trans (hS_c166 5 10 rfl)).trans (ey17))) (y49) ((ey50)) (y20) ((((hS46 5 30 rfl).trans (hS_c166 5 30 rfl)).trans (ey21))) (y22) ((((hS46 5 31 rfl).trans (hS_c166 5 31 rfl)).trans (ey23))) (u5_34) (((((hS46 5 34 rfl).trans (hS_c166 5 34 rfl)).trans (hS13 5 34 rfl)).trans (eu5_34))) (wq26) ((funext (hA47 31 rfl)).trans ((funext (hA_c166 31 rfl)).trans (ewq27))) (wq28) ((funext (hA47 32 rfl)).trans ((funext (hA_c166 32 rfl)).trans (ewq29))) (w34) ((funext (hA47 34 rfl)).trans ((funext (hA_c166 34 rfl)).trans ((funext (hA14 34 rfl)).trans (ew34)))) (w35) ((funext (hA47 35 rfl)).trans ((funext (hA_c166 35 rfl)).trans ((funext (hA14 35 rfl)).trans (ew35)))) (w36) ((funext (hA47 36 rfl)).trans ((funext (hA_c166 36 rfl)).trans ((funext (hA14 36 rfl)).trans (ew36)))) (w37) ((funext (hA47 37 rfl)).trans ((funext (hA_c166 37 rfl)).trans ((funext (hA14 37 rfl)).trans (ew37)))) (w38) ((funext (hA47 38 rfl)).trans ((funext (hA_c166 38 rfl)).trans ((funext (hA14 38 rfl)).trans (ew38)))) (wq51) (ewq52) (show (1) = 0 ∨ (1) = 1 by first | exact q_49 | omega) (h2) (show (u5_27) ≤ (y49) ∧ (y49) ≤ (u5_26) from q_1743 b43 pz48_0 r36) (show (1) = 1 → 1 ≤ ((w38)) 0 ∧ 1 ≤ ((w38)) 1 ∧ 1 ≤ ((w38)) 2 by first | exact q_1710 h3 | omega) (show 0 ≤ (u5_34) ∧ (u5_34) ≤ (y49) from q_1742 h7 pz48_0 r36) (show PKA (PBF ((w14)) ((u5_25)) (a1) ((u5_2)) (wnF ((u5_35))) ((u5_29)) ((u5_26) - (u5_27)) (sc ((w26)) 0 ((u5_2)) ++ sc ((w45)) ((u5_28)) ((u5_27))) ((u5_10), GG) tb (((w38)) 0) (((w38)) 1) (((w38)) 2)) ((1)) ((y20)) ((y22)) ((u5_34)) ((u5_34)) (sc ((w26)) 0 ((u5_2)) ++ sc ((wq51)) ((u5_28)) ((y49))) ((w35)) ((w36)) ((w37)) ((w34)) ((w38)) ((y16)) ((wq26)) ((wq28)) by assumption) (pz48_2))
            · refine Ew_of (pcₚ := 220) (fun _ => x_aload_n rfl lc166_0) ?_
              refine Ew_of (pcₚ := 222) (fun _ => x_bipush (z := 7) rfl (by decide)) ?_
              refine Ew_of (pcₚ := 223) (fun _ => x_iload_n rfl lc166_2) ?_
              refine w_inv H (o := 5) rfl rfl rfl (H.perm 5 rfl) rfl rfl (by rfl) (M282 H (show inr (7) from q_597) (show inr (u5_25) from q_286 r4) (show 0 ≤ (7) ∧ (7) ≤ 20 from q_1712) (show 0 ≤ (u5_25) ∧ (u5_25) ≤ 65536 from r4) (fun z58 σ F54 A55 H hS56 hA57 y59 ey60 y61 ey62 pz58_0 pz58_1 pz58_2 pz58_3 => ⟨rretB rfl pz58_0, ?_⟩))
              have r63 : (0 : Int) ≤ y59 ∧ y59 ≤ 20 := rngE (show (0 : Int) ≤ F54 5 30 ∧ F54 5 30 ≤ 20 from H.frng 5 30) (show F54 5 30 = y59 from (ey60))
              have r64 : (0 : Int) ≤ y61 ∧ y61 ≤ 65536 := rngE (show (0 : Int) ≤ F54 5 31 ∧ F54 5 31 ≤ 65536 from H.frng 5 31) (show F54 5 31 = y61 from (ey62))
              have : PKA (PBF ((w14)) ((u5_25)) ((a1)) ((u5_2)) (wnF ((u5_35))) ((u5_29)) ((u5_26) - (u5_27)) (sc ((w26)) 0 ((u5_2)) ++ sc ((w45)) ((u5_28)) ((u5_27))) ((u5_10), GG) tb (((w38)) 0) (((w38)) 1) (((w38)) 2)) ((z58)) ((y59)) ((y61)) ((u5_34)) ((u5_34)) (sc ((w26)) 0 ((u5_2)) ++ sc ((w45)) ((u5_28)) ((u5_27))) ((w35)) ((w36)) ((w37)) ((w34)) ((w38)) ((y16)) ((wq26)) ((wq28)) := PKA_f (hPK.trans (PBG_7 (by omega) hqz (by omega) (by omega) (by omega) (by omega))) (by decide) (by omega) (by omega) (by omega) (by omega) rfl
              exact w_ireturn rfl (k (z58) σ _ _ H (SF_trans (SF_upd (SF_trans (SF_upd (SF_trans (SF_upd (SF_refl) rfl) hS13 (any_sub rfl)) rfl) hS_c166 (any_sub rfl)) rfl) hS56 (any_sub rfl)) (SA_trans (SA_trans (SA_trans (SA_refl) hA14 (any_subA rfl)) hA_c166 (any_subA rfl)) hA57 (any_subA rfl)) (y16) ((((hS56 5 10 rfl).trans (hS_c166 5 10 rfl)).trans (ey17))) (u5_27) (((((hS56 5 27 rfl).trans (hS_c166 5 27 rfl)).trans (hS13 5 27 rfl)).trans (eu5_27))) (y59) ((ey60)) (y61) ((ey62)) (u5_34) (((((hS56 5 34 rfl).trans (hS_c166 5 34 rfl)).trans (hS13 5 34 rfl)).trans (eu5_34))) (wq26) ((funext (hA57 31 rfl)).trans ((funext (hA_c166 31 rfl)).trans (ewq27))) (wq28) ((funext (hA57 32 rfl)).trans ((funext (hA_c166 32 rfl)).trans (ewq29))) (w34) ((funext (hA57 34 rfl)).trans ((funext (hA_c166 34 rfl)).trans ((funext (hA14 34 rfl)).trans (ew34)))) (w35) ((funext (hA57 35 rfl)).trans ((funext (hA_c166 35 rfl)).trans ((funext (hA14 35 rfl)).trans (ew35)))) (w36) ((funext (hA57 36 rfl)).trans ((funext (hA_c166 36 rfl)).trans ((funext (hA14 36 rfl)).trans (ew36)))) (w37) ((funext (hA57 37 rfl)).trans ((funext (hA_c166 37 rfl)).trans ((funext (hA14 37 rfl)).trans (ew37)))) (w38) ((funext (hA57 38 rfl)).trans ((funext (hA_c166 38 rfl)).trans ((funext (hA14 38 rfl)).trans (ew38)))) (w45) ((funext (hA57 45 rfl)).trans ((funext (hA_c166 45 rfl)).trans ((funext (hA14 45 rfl)).trans (ew45)))) (show (z58) = 0 ∨ (z58) = 1 from pz58_0) (h2) (show (u5_27) ≤ (u5_27) ∧ (u5_27) ≤ (u5_26) from q_1024 h4) (show (z58) = 1 → 1 ≤ ((w38)) 0 ∧ 1 ≤ ((w38)) 1 ∧ 1 ≤ ((w38)) 2 from q_1698 h3) (show 0 ≤ (u5_34) ∧ (u5_34) ≤ (u5_27) from h7) (show PKA (PBF ((w14)) ((u5_25)) (a1) ((u5_2)) (wnF ((u5_35))) ((u5_29)) ((u5_26) - (u5_27)) (sc ((w26)) 0 ((u5_2)) ++ sc ((w45)) ((u5_28)) ((u5_27))) ((u5_10), GG) tb (((w38)) 0) (((w38)) 1) (((w38)) 2)) ((z58)) ((y59)) ((y61)) ((u5_34)) ((u5_34)) (sc ((w26)) 0 ((u5_2)) ++ sc ((w45)) ((u5_28)) ((u5_27))) ((w35)) ((w36)) ((w37)) ((w34)) ((w38)) ((y16)) ((wq26)) ((wq28)) by assumption) (hcf0))
          · refine Ew_of (pcₚ := 193) (fun _ => x_aload_n rfl lc166_0) ?_
            refine Ew_of (pcₚ := 195) (fun _ => x_bipush (z := 15) rfl (by decide)) ?_
            refine Ew_of (pcₚ := 196) (fun _ => x_aload_n rfl lc166_0) ?_
            refine w_gI H (o := 5) (w := yc166_5_25) rfl (H.perm 5 rfl) rfl rfl rfl (fun _ => rfl) (eyc166_5_25) ?_
            refine w_inv H (o := 5) rfl rfl rfl (H.perm 5 rfl) rfl rfl (by rfl) (M282 H (show inr (15) from q_399) (show inr (yc166_5_25) from q_286 r40) (show 0 ≤ (15) ∧ (15) ≤ 20 from q_1694) (show 0 ≤ (yc166_5_25) ∧ (yc166_5_25) ≤ 65536 from r40) (fun z69 σ F65 A66 H hS67 hA68 y70 ey71 y72 ey73 pz69_0 pz69_1 pz69_2 pz69_3 => ⟨rretB rfl pz69_0, ?_⟩))
            have r74 : (0 : Int) ≤ y70 ∧ y70 ≤ 20 := rngE (show (0 : Int) ≤ F65 5 30 ∧ F65 5 30 ≤ 20 from H.frng 5 30) (show F65 5 30 = y70 from (ey71))
            have r75 : (0 : Int) ≤ y72 ∧ y72 ≤ 65536 := rngE (show (0 : Int) ≤ F65 5 31 ∧ F65 5 31 ≤ 65536 from H.frng 5 31) (show F65 5 31 = y72 from (ey73))
            have : PKA (PBF ((w14)) ((u5_25)) ((a1)) ((u5_2)) (wnF ((u5_35))) ((u5_29)) ((u5_26) - (u5_27)) (sc ((w26)) 0 ((u5_2)) ++ sc ((w45)) ((u5_28)) ((u5_27))) ((u5_10), GG) tb (((w38)) 0) (((w38)) 1) (((w38)) 2)) ((z69)) ((y70)) ((y72)) ((u5_34)) ((u5_34)) (sc ((w26)) 0 ((u5_2)) ++ sc ((w45)) ((u5_28)) ((u5_27))) ((w35)) ((w36)) ((w37)) ((w34)) ((w38)) ((y16)) ((wq26)) ((wq28)) := PKA_f (hPK.trans (PBG_15 (by omega) hqz (by omega) (by omega) (by omega) (by omega))) (by decide) (by omega) (by omega) (by omega) (by omega) rfl
            exact w_ireturn rfl (k (z69) σ _ _ H (SF_trans (SF_upd (SF_trans (SF_upd (SF_trans (SF_upd (SF_refl) rfl) hS13 (any_sub rfl)) rfl) hS_c166 (any_sub rfl)) rfl) hS67 (any_sub rfl)) (SA_trans (SA_trans (SA_trans (SA_refl) hA14 (any_subA rfl)) hA_c166 (any_subA rfl)) hA68 (any_subA rfl)) (y16) ((((hS67 5 10 rfl).trans (hS_c166 5 10 rfl)).trans (ey17))) (u5_27) (((((hS67 5 27 rfl).trans (hS_c166 5 27 rfl)).trans (hS13 5 27 rfl)).trans (eu5_27))) (y70) ((ey71)) (y72) ((ey73)) (u5_34) (((((hS67 5 34 rfl).trans (hS_c166 5 34 rfl)).trans (hS13 5 34 rfl)).trans (eu5_34))) (wq26) ((funext (hA68 31 rfl)).trans ((funext (hA_c166 31 rfl)).trans (ewq27))) (wq28) ((funext (hA68 32 rfl)).trans ((funext (hA_c166 32 rfl)).trans (ewq29))) (w34) ((funext (hA68 34 rfl)).trans ((funext (hA_c166 34 rfl)).trans ((funext (hA14 34 rfl)).trans (ew34)))) (w35) ((funext (hA68 35 rfl)).trans ((funext (hA_c166 35 rfl)).trans ((funext (hA14 35 rfl)).trans (ew35)))) (w36) ((funext (hA68 36 rfl)).trans ((funext (hA_c166 36 rfl)).trans ((funext (hA14 36 rfl)).trans (ew36)))) (w37) ((funext (hA68 37 rfl)).trans ((funext (hA_c166 37 rfl)).trans ((funext (hA14 37 rfl)).trans (ew37)))) (w38) ((funext (hA68 38 rfl)).trans ((funext (hA_c166 38 rfl)).trans ((funext (hA14 38 rfl)).trans (ew38)))) (w45) ((funext (hA68 45 rfl)).trans ((funext (hA_c166 45 rfl)).trans ((funext (hA14 45 rfl)).trans (ew45)))) (show (z69) = 0 ∨ (z69) = 1 from pz69_0) (h2) (show (u5_27) ≤ (u5_27) ∧ (u5_27) ≤ (u5_26) from q_1024 h4) (show (z69) = 1 → 1 ≤ ((w38)) 0 ∧ 1 ≤ ((w38)) 1 ∧ 1 ≤ ((w38)) 2 from q_1698 h3) (show 0 ≤ (u5_34) ∧ (u5_34) ≤ (u5_27) from h7) (show PKA (PBF ((w14)) ((u5_25)) (a1) ((u5_2)) (wnF ((u5_35))) ((u5_29)) ((u5_26) - (u5_27)) (sc ((w26)) 0 ((u5_2)) ++ sc ((w45)) ((u5_28)) ((u5_27))) ((u5_10), GG) tb (((w38)) 0) (((w38)) 1) (((w38)) 2)) ((z69)) ((y70)) ((y72)) ((u5_34)) ((u5_34)) (sc ((w26)) 0 ((u5_2)) ++ sc ((w45)) ((u5_28)) ((u5_27))) ((w35)) ((w36)) ((w37)) ((w34)) ((w38)) ((y16)) ((wq26)) ((wq28)) by assumption) (hcf0))
        · refine Ew_of (pcₚ := 177) (fun _ => x_aload_n rfl lc166_0) ?_
          refine Ew_of (pcₚ := 178) (fun _ => x_iload_n rfl lc166_1) ?_
          refine Ew_of (pcₚ := 180) (fun _ => x_iload rfl lc166_4) ?_
          refine w_inv H (o := 5) rfl rfl rfl (H.perm 5 rfl) rfl rfl (by rfl) (M298 H (u1_1) ((((hS_c166 1 1 rfl).trans (hS13 1 1 rfl)).trans (eu1_1))) (u5_2) ((((hS_c166 5 2 rfl).trans (hS13 5 2 rfl)).trans (eu5_2))) (yc166_5_25) ((eyc166_5_25)) (u5_26) ((((hS_c166 5 26 rfl).trans (hS13 5 26 rfl)).trans (eu5_26))) (u5_27) ((((hS_c166 5 27 rfl).trans (hS13 5 27 rfl)).trans (eu5_27))) (u5_28) ((((hS_c166 5 28 rfl).trans (hS13 5 28 rfl)).trans (eu5_28))) (u5_29) ((((hS_c166 5 29 rfl).trans (hS13 5 29 rfl)).trans (eu5_29))) (u5_34) ((((hS_c166 5 34 rfl).trans (hS13 5 34 rfl)).trans (eu5_34))) (u5_35) ((((hS_c166 5 35 rfl).trans (hS13 5 35 rfl)).trans (eu5_35))) (y24) (((hS_c166 5 39 rfl).trans (ey25))) (0) (rfl) (w14) ((funext (hA_c166 14 rfl)).trans ((funext (hA14 14 rfl)).trans (ew14))) (w26) ((funext (hA_c166 26 rfl)).trans ((funext (hA14 26 rfl)).trans (ew26))) (w34) ((funext (hA_c166 34 rfl)).trans ((funext (hA14 34 rfl)).trans (ew34))) (w35) ((funext (hA_c166 35 rfl)).trans ((funext (hA14 35 rfl)).trans (ew35))) (w36) ((funext (hA_c166 36 rfl)).trans ((funext (hA14 36 rfl)).trans (ew36))) (w37) ((funext (hA_c166 37 rfl)).trans ((funext (hA14 37 rfl)).trans (ew37))) (w38) ((funext (hA_c166 38 rfl)).trans ((funext (hA14 38 rfl)).trans (ew38))) (w45) ((funext (hA_c166 45 rfl)).trans ((funext (hA14 45 rfl)).trans (ew45))) (wq30) ((funext (hA_c166 46 rfl)).trans (ewq31)) (tb) (((y16), G2_)) (show inr (a1) from h0) (show inr (xc166_4) from jc166_0) (show 0 ≤ (yc166_5_25) ∧ (yc166_5_25) ≤ (a1) ∧ (a1) ≤ (u1_1) from q_1745 h1 jc166_2 r40) (show 1 ≤ (xc166_4) ∧ (xc166_4) ≤ 100000 from q_1744 b41 jc166_1) (h2) (show 1 ≤ ((w38)) 0 ∧ 1 ≤ ((w38)) 1 ∧ 1 ≤ ((w38)) 2 from h3) (show (0) ≤ (y24) from q_1603 r36) (show (u5_28) ≤ (u5_27) ∧ (u5_27) ≤ (u5_26) from h4) (show (0) = 0 from q_34) (show 0 ≤ (u5_34) ∧ (u5_34) ≤ (u5_27) from h7) (hrta) (fun z80 σ F76 A77 H hS78 hA79 y81 ey82 y83 ey84 y85 ey86 y87 ey88 wq89 ewq90 wq91 ewq92 wq93 ewq94 wq95 ewq96 wq97 ewq98 wq99 ewq100 pz80_0 pz80_1 pz80_2 pz80_3 pz80_4 pz80_5 pz80_6 => ⟨rretB rfl pz80_0, ?_⟩))
          have r101 : (0 : Int) ≤ y81 ∧ y81 ≤ 65536 := rngE (show (0 : Int) ≤ F76 5 27 ∧ F76 5 27 ≤ 65536 from H.frng 5 27) (show F76 5 27 = y81 from (ey82))
          have r102 : (0 : Int) ≤ y83 ∧ y83 ≤ 20 := rngE (show (0 : Int) ≤ F76 5 30 ∧ F76 5 30 ≤ 20 from H.frng 5 30) (show F76 5 30 = y83 from (ey84))
          have r103 : (0 : Int) ≤ y85 ∧ y85 ≤ 65536 := rngE (show (0 : Int) ≤ F76 5 31 ∧ F76 5 31 ≤ 65536 from H.frng 5 31) (show F76 5 31 = y85 from (ey86))
          have r104 : (-2147483648 : Int) ≤ y87 ∧ y87 ≤ 2147483647 := rngE (show (-2147483648 : Int) ≤ F76 5 34 ∧ F76 5 34 ≤ 2147483647 from H.frng 5 34) (show F76 5 34 = y87 from (ey88))
          have : PKA (PBF ((w14)) ((u5_25)) ((a1)) ((u5_2)) (wnF ((u5_35))) ((u5_29)) ((u5_26) - (u5_27)) (sc ((w26)) 0 ((u5_2)) ++ sc ((w45)) ((u5_28)) ((u5_27))) ((u5_10), GG) tb (((w38)) 0) (((w38)) 1) (((w38)) 2)) ((z80)) ((y83)) ((y85)) ((u5_34)) ((y87)) (sc ((w26)) 0 ((u5_2)) ++ sc ((wq99)) ((u5_28)) ((y81))) ((wq91)) ((wq93)) ((wq95)) ((wq89)) ((wq97)) ((y16)) ((wq26)) ((wq28)) := PKA_q (hPK.trans (PBG_s (by omega) hqz (by omega) k166 (by omega) (by omega))) pz80_5 (fun _ => by rw [SEQF_C]; exact ⟨rfl, hrc⟩)
          exact w_ireturn rfl (k (z80) σ _ _ H (SF_trans (SF_upd (SF_trans (SF_upd (SF_trans (SF_upd (SF_refl) rfl) hS13 (any_sub rfl)) rfl) hS_c166 (any_sub rfl)) rfl) hS78 (any_sub rfl)) (SA_trans (SA_trans (SA_trans (SA_refl) hA14 (any_subA rfl)) hA_c166 (any_subA rfl)) hA79 (any_subA rfl)) (y16) ((((hS78 5 10 rfl).trans (hS_c166 5 10 rfl)).trans (ey17))) (y81) ((ey82)) (y83) ((ey84)) (y85) ((ey86)) (y87) ((ey88)) (wq26) ((funext (hA79 31 rfl)).trans ((funext (hA_c166 31 rfl)).trans (ewq27))) (wq28) ((funext (hA79 32 rfl)).trans ((funext (hA_c166 32 rfl)).trans (ewq29))) (wq89) (ewq90) (wq91) (ewq92) (wq93) (ewq94) (wq95) (ewq96) (wq97) (ewq98) (wq99) (ewq100) (show (z80) = 0 ∨ (z80) = 1 from pz80_0) (pz80_1) (show (u5_27) ≤ (y81) ∧ (y81) ≤ (u5_26) from pz80_2) (show (z80) = 1 → 1 ≤ ((wq97)) 0 ∧ 1 ≤ ((wq97)) 1 ∧ 1 ≤ ((wq97)) 2 from pz80_3) (show 0 ≤ (y87) ∧ (y87) ≤ (y81) from pz80_4) (show PKA (PBF ((w14)) ((u5_25)) (a1) ((u5_2)) (wnF ((u5_35))) ((u5_29)) ((u5_26) - (u5_27)) (sc ((w26)) 0 ((u5_2)) ++ sc ((w45)) ((u5_28)) ((u5_27))) ((u5_10), GG) tb (((w38)) 0) (((w38)) 1) (((w38)) 2)) ((z80)) ((y83)) ((y85)) ((u5_34)) ((y87)) (sc ((w26)) 0 ((u5_2)) ++ sc ((wq99)) ((u5_28)) ((y81))) ((wq91)) ((wq93)) ((wq95)) ((wq89)) ((wq97)) ((y16)) ((wq26)) ((wq28)) by assumption) (pz80_6))
      refine Ew_of (pcₚ := 63) (fun _ => x_iload_n rfl (rk_o (rk_s) rfl rfl)) ?_
      refine Ew_of (pcₚ := 65) (fun _ => x_bipush (z := 127) rfl (by decide)) ?_
      refine w_icmple (t := 166) rfl rfl (show inr (v39) from q_299 qv39) (show inr (127) from q_1119) (fun b105 => ?_) (fun b105 => ?_)
      · have : (v39) = nsv ((w14)) qp := by first | exact k143 | (rw [nsv_1 hx (by omega)])
        have : ((y18 + 1)) = qp + nsz (((w14)) qp) := by rw [hx]; first | (rw [nsz_1 (by omega)]; omega) | (rcases (show (v39) = 255 ∨ (v39) ≠ 255 from q_1746 b105) with z | z; (rw [nsz_3 (by omega)]; omega); (rw [nsz_2 (by omega) (by omega)]; omega))
        exact hc166  _ σ _ _ (v39) (rk_o (rk_o (rk_o (rfl) rfl rfl) rfl rfl) rfl rfl) (rk_o (rk_o (rk_o (rfl) rfl rfl) rfl rfl) rfl rfl) (rk_o (rk_o (rk_s) rfl rfl) rfl rfl) (rk_s) H (SF_refl) (SA_refl) ((y18 + 1)) (rfl)  (show inr (v39) from q_1482 b105 qv39) (show 0 ≤ (v39) ∧ (v39) ≤ 98047 from q_1748 b105 qv39) (show ((y18 + 1)) ≤ (a1) ∧ ((y18 + 1)) ≤ ((y18 + 1)) from q_1747 b38) (show (v39) = nsv ((w14)) qp by assumption) (show ((y18 + 1)) = qp + nsz (((w14)) qp) by assumption)
      · refine Ew_of (pcₚ := 69) (fun _ => x_iload_n rfl (rk_o (rk_o (rk_o (rfl) rfl rfl) rfl rfl) rfl rfl)) ?_
        refine Ew_of (pcₚ := 70) (fun _ => x_aload_n rfl (rk_o (rk_o (rk_o (rfl) rfl rfl) rfl rfl) rfl rfl)) ?_
        refine w_gI H (o := 5) (w := (y18 + 1)) rfl (H.perm 5 rfl) rfl rfl rfl (fun _ => rfl) rfl ?_
        refine w_isub rfl ?_
        refine Ew_of (pcₚ := 75) (fun _ => x_iload_n rfl (rk_o (rk_s) rfl rfl)) ?_
        refine Ew_of (pcₚ := 78) (fun _ => x_sipush (z := 255) rfl (by decide)) ?_
        have hc86 : ∀ (tc86_0 : Int), ∀ (ls : rO) (σ : rS) (F_c86 : hF) (A_c86 : hA) , rlook ls 0 = some (.ref (D 5)) → rlook ls 1 = some (I (a1)) → rlook ls 2 = some (I (u5_25)) → rlook ls 3 = some (I (v39)) → HS σ0 σ D N F_c86 A_c86 → SF [] (updF F11 5 25 ((y18 + 1))) F_c86 → SA [] A12 A_c86 → (inr (tc86_0)) → (((v39) ≠ (255) ∧ (tc86_0) = (1)) ∨ ((v39) = (255) ∧ (tc86_0) = (2))) → Ew 289 (d + 6) 86 ls [I (tc86_0), I ((a1 - (y18 + 1)))] σ c s Q := by
         as_aux_lemma =>
          intro tc86_0 ls σ F_c86 A_c86  lc86_0 lc86_1 lc86_2 lc86_3 H hS_c86 hA_c86   jc86_0 jc86_1
          refine w_icmpge (t := 97) rfl rfl (show inr ((a1 - (y18 + 1))) from q_1749 b38 h0 r33) (show inr (tc86_0) from jc86_0) (fun b106 => ?_) (fun b106 => ?_)
          · have hc143 : ∀ (tc143_0 : Int), ∀ (ls : rO) (σ : rS) (F_c143 : hF) (A_c143 : hA) , rlook ls 0 = some (.ref (D 5)) → rlook ls 1 = some (I (a1)) → rlook ls 2 = some (I (u5_25)) → rlook ls 3 = some (I (v39)) → HS σ0 σ D N F_c143 A_c143 → SF [] F_c86 F_c143 → SA [] A_c86 A_c143 → (inr (tc143_0)) → (0 ≤ (tc143_0) ∧ (tc143_0) ≤ 98047) → ((tc143_0) = nsv ((w14)) qp) → Ew 289 (d + 6) 143 ls [I (tc143_0)] σ c s Q := by
             as_aux_lemma =>
              intro tc143_0 ls σ F_c143 A_c143  lc143_0 lc143_1 lc143_2 lc143_3 H hS_c143 hA_c143   jc143_0 jc143_1 jc143_2
              have k143 : (tc143_0) = nsv ((w14)) qp := jc143_2
              refine Ew_of (pcₚ := 145) (fun _ => x_istore rfl) ?_
              refine Ew_of (pcₚ := 146) (fun _ => x_aload_n rfl (rk_o (lc143_0) rfl rfl)) ?_
              refine Ew_of (pcₚ := 147) (fun _ => x_dup rfl rfl) ?_
              refine w_gI H (o := 5) (w := (y18 + 1)) rfl (H.perm 5 rfl) rfl rfl rfl (fun _ => rfl) ((hS_c143 5 25 rfl).trans (hS_c86 5 25 rfl)) ?_
              refine Ew_of (pcₚ := 151) (fun _ => x_iload_n rfl (rk_o (lc143_3) rfl rfl)) ?_
              refine Ew_of (pcₚ := 154) (fun _ => x_sipush (z := 255) rfl (by decide)) ?_
              refine w_icmpne (t := 161) rfl rfl (show inr (v39) from q_1750 b105 qv39) (show inr (255) from q_297) (fun b107 => ?_) (fun b107 => ?_)
              · refine Ew_of (pcₚ := 162) (fun _ => x_iconst rfl) ?_
                refine w_iadd rfl ?_
                refine w_pI H (o := 5) rfl rfl (H.perm 5 rfl) rfl rfl rfl (fun _ => rfl) rfl (show (0 : Int) ≤ ((y18 + 1) + 1) ∧ ((y18 + 1) + 1) ≤ 65536 by omega) (fun σ H => ?_)
                have : (tc143_0) = nsv ((w14)) qp := by first | exact k143 | (rw [nsv_1 hx (by omega)])
                have : (((y18 + 1) + 1)) = qp + nsz (((w14)) qp) := by rw [hx]; first | (rw [nsz_1 (by omega)]; omega) | (rcases (show (v39) = 255 ∨ (v39) ≠ 255 from q_1751 b107) with z | z; (rw [nsz_3 (by omega)]; omega); (rw [nsz_2 (by omega) (by omega)]; omega))
                exact hc166  _ σ _ _ (tc143_0) (rk_o (lc143_0) rfl rfl) (rk_o (lc143_1) rfl rfl) (rk_o (lc143_2) rfl rfl) (rk_s) H (SF_upd (SF_trans (SF_trans (SF_refl) hS_c86 (any_sub rfl)) hS_c143 (any_sub rfl)) rfl) (SA_trans (SA_trans (SA_refl) hA_c86 (any_subA rfl)) hA_c143 (any_subA rfl)) (((y18 + 1) + 1)) (rfl)  (show inr (tc143_0) from jc143_0) (show 0 ≤ (tc143_0) ∧ (tc143_0) ≤ 98047 from jc143_1) (show (((y18 + 1) + 1)) ≤ (a1) ∧ ((y18 + 1)) ≤ (((y18 + 1) + 1)) by omega) (k143) (show (((y18 + 1) + 1)) = qp + nsz (((w14)) qp) by assumption)
              · refine Ew_of (pcₚ := 158) (fun _ => x_iconst rfl) ?_
                refine Ew_of (pcₚ := 162) (fun _ => x_goto rfl rfl) ?_
                refine w_iadd rfl ?_
                refine w_pI H (o := 5) rfl rfl (H.perm 5 rfl) rfl rfl rfl (fun _ => rfl) rfl (show (0 : Int) ≤ ((y18 + 1) + 2) ∧ ((y18 + 1) + 2) ≤ 65536 by omega) (fun σ H => ?_)
                have : (tc143_0) = nsv ((w14)) qp := by first | exact k143 | (rw [nsv_1 hx (by omega)])
                have : (((y18 + 1) + 2)) = qp + nsz (((w14)) qp) := by rw [hx]; first | (rw [nsz_1 (by omega)]; omega) | (rcases (show (v39) = 255 ∨ (v39) ≠ 255 from q_1752 b107) with z | z; (rw [nsz_3 (by omega)]; omega); (rw [nsz_2 (by omega) (by omega)]; omega))
                exact hc166  _ σ _ _ (tc143_0) (rk_o (lc143_0) rfl rfl) (rk_o (lc143_1) rfl rfl) (rk_o (lc143_2) rfl rfl) (rk_s) H (SF_upd (SF_trans (SF_trans (SF_refl) hS_c86 (any_sub rfl)) hS_c143 (any_sub rfl)) rfl) (SA_trans (SA_trans (SA_refl) hA_c86 (any_subA rfl)) hA_c143 (any_subA rfl)) (((y18 + 1) + 2)) (rfl)  (show inr (tc143_0) from jc143_0) (show 0 ≤ (tc143_0) ∧ (tc143_0) ≤ 98047 from jc143_1) (show (((y18 + 1) + 2)) ≤ (a1) ∧ ((y18 + 1)) ≤ (((y18 + 1) + 2)) by omega) (k143) (show (((y18 + 1) + 2)) = qp + nsz (((w14)) qp) by assumption)
            refine Ew_of (pcₚ := 98) (fun _ => x_iload_n rfl lc86_3) ?_
            refine Ew_of (pcₚ := 101) (fun _ => x_sipush (z := 255) rfl (by decide)) ?_
            refine w_icmpne (t := 121) rfl rfl (show inr (v39) from q_1750 b105 qv39) (show inr (255) from q_297) (fun b108 => ?_) (fun b108 => ?_)
            · refine Ew_of (pcₚ := 124) (fun _ => x_sipush (z := 256) rfl (by decide)) ?_
              refine Ew_of (pcₚ := 125) (fun _ => x_iload_n rfl lc86_3) ?_
              refine Ew_of (pcₚ := 128) (fun _ => x_sipush (z := 128) rfl (by decide)) ?_
              refine w_isub rfl ?_
              refine w_imul rfl ?_
              refine Ew_of (pcₚ := 131) (fun _ => x_aload_n rfl lc86_0) ?_
              refine w_gT H (o := 5) (t := 1) rfl (H.perm 5 rfl) rfl rfl rfl rfl rfl rfl ?_
              refine w_gT H (o := 1) (t := 14) rfl (H.perm 1 rfl) rfl rfl rfl rfl rfl rfl ?_
              refine Ew_of (pcₚ := 138) (fun _ => x_aload_n rfl lc86_0) ?_
              refine w_gI H (o := 5) (w := (y18 + 1)) rfl (H.perm 5 rfl) rfl rfl rfl (fun _ => rfl) (hS_c86 5 25 rfl) ?_
              refine w_lI H (o := 14) (n := 65536) rfl (H.perm 14 rfl) rfl rfl (H.fix 14 rfl rfl) (show 0 ≤ (y18 + 1) ∧ (y18 + 1) < ((65536 : Nat) : Int) by omega) (by decide) (fun v109 ev109 qv109 => ?_)
              have qv109 : (0 : Int) ≤ v109 ∧ v109 ≤ 255 := qv109
              have ev109 : (w14) ((y18 + 1)) = v109 := (congrFun ((funext (hA_c86 14 rfl)).trans ((funext (hA14 14 rfl)).trans (ew14))) ((y18 + 1))).symm.trans ev109
              have hy := ev109
              rw [show ((y18 + 1)) = qp + 1 by omega] at hy
              refine w_iadd rfl ?_
              have : (((256 * (v39 - 128)) + v109)) = nsv ((w14)) qp := by first | (rw [nsv_3 hx (by omega) hN.symm]) | (rw [nsv_2 hx (by omega) (by omega) hy])
              exact hc143 (((256 * (v39 - 128)) + v109)) _ σ _ _  (lc86_0) (lc86_1) (lc86_2) (lc86_3) H (SF_refl) (SA_refl)   (show inr (((256 * (v39 - 128)) + v109)) from q_1754 b105 qv109 qv39) (show 0 ≤ (((256 * (v39 - 128)) + v109)) ∧ (((256 * (v39 - 128)) + v109)) ≤ 98047 from q_1753 b105 qv109 qv39) (show (((256 * (v39 - 128)) + v109)) = nsv ((w14)) qp by assumption)
            · refine Ew_of (pcₚ := 105) (fun _ => x_aload_n rfl lc86_0) ?_
              refine Ew_of (pcₚ := 106) (fun _ => x_aload_n rfl lc86_0) ?_
              refine w_gI H (o := 5) (w := (y18 + 1)) rfl (H.perm 5 rfl) rfl rfl rfl (fun _ => rfl) (hS_c86 5 25 rfl) ?_
              refine Ew_of (pcₚ := 110) (fun _ => x_iconst rfl) ?_
              refine w_inv H (o := 5) rfl rfl rfl (H.perm 5 rfl) rfl rfl (by rfl) (M257 H (w14) ((funext (hA_c86 14 rfl)).trans ((funext (hA14 14 rfl)).trans (ew14))) (show inr ((y18 + 1)) from q_1755 r33) (show inr (2) from q_122) (show 0 ≤ ((y18 + 1)) ∧ 0 ≤ (2) ∧ (2) ≤ 8 ∧ ((y18 + 1)) + (2) ≤ 65536 by omega) (fun z114 σ F110 A111 H hS112 hA113 pz114_0 pz114_1 pz114_2 pz114_3 pz114_4 pz114_5 pz114_6 pz114_7 pz114_8 pz114_9 => ⟨rfl, ?_⟩))
              replace pz114_1 := pz114_1.resolve_left (by decide)
              replace pz114_2 := pz114_2.resolve_right (by decide)
              replace pz114_3 := pz114_3 (by decide)
              replace pz114_4 := pz114_4 (by decide)
              replace pz114_5 := pz114_5 (by decide)
              (try clear pz114_6)
              (try clear pz114_7)
              replace pz114_8 := pz114_8 (by decide)
              have hN : z114 = nvl ((w14)) (qp + 1) 2 := by have h := nmb_nn pz114_9 (by omega) pz114_0; rw [show ((y18 + 1)) = qp + 1 by omega] at h; exact h
              refine w_l2i rfl ?_
              refine Ew_of (pcₚ := 117) (fun _ => x_sipush (z := 32512) rfl (by decide)) ?_
              refine w_iadd rfl ?_
              refine Ew_of (pcₚ := 143) (fun _ => x_goto rfl rfl) ?_
              have : ((z114 + 32512)) = nsv ((w14)) qp := by first | (rw [nsv_3 hx (by omega) hN.symm]) | (rw [nsv_2 hx (by omega) (by omega) hy])
              exact hc143 ((z114 + 32512)) _ σ _ _  (lc86_0) (lc86_1) (lc86_2) (lc86_3) H (SF_trans (SF_refl) hS112 (any_sub rfl)) (SA_trans (SA_refl) hA113 (any_subA rfl))   (show inr ((z114 + 32512)) by omega) (show 0 ≤ ((z114 + 32512)) ∧ ((z114 + 32512)) ≤ 98047 by omega) (show ((z114 + 32512)) = nsv ((w14)) qp by assumption)
          · refine Ew_of (pcₚ := 90) (fun _ => x_aload_n rfl lc86_0) ?_
            refine Ew_of (pcₚ := 92) (fun _ => x_bipush (z := 10) rfl (by decide)) ?_
            refine Ew_of (pcₚ := 93) (fun _ => x_iload_n rfl lc86_1) ?_
            refine w_inv H (o := 5) rfl rfl rfl (H.perm 5 rfl) rfl rfl (by rfl) (M282 H (show inr (10) from q_746) (show inr (a1) from h0) (show 0 ≤ (10) ∧ (10) ≤ 20 from q_1633) (show 0 ≤ (a1) ∧ (a1) ≤ 65536 from q_1756 h1 r1) (fun z119 σ F115 A116 H hS117 hA118 y120 ey121 y122 ey123 pz119_0 pz119_1 pz119_2 pz119_3 => ⟨rretB rfl pz119_0, ?_⟩))
            have r124 : (0 : Int) ≤ y120 ∧ y120 ≤ 20 := rngE (show (0 : Int) ≤ F115 5 30 ∧ F115 5 30 ≤ 20 from H.frng 5 30) (show F115 5 30 = y120 from (ey121))
            have r125 : (0 : Int) ≤ y122 ∧ y122 ≤ 65536 := rngE (show (0 : Int) ≤ F115 5 31 ∧ F115 5 31 ≤ 65536 from H.frng 5 31) (show F115 5 31 = y122 from (ey123))
            have : PKA (PBF ((w14)) ((u5_25)) ((a1)) ((u5_2)) (wnF ((u5_35))) ((u5_29)) ((u5_26) - (u5_27)) (sc ((w26)) 0 ((u5_2)) ++ sc ((w45)) ((u5_28)) ((u5_27))) ((u5_10), GG) tb (((w38)) 0) (((w38)) 1) (((w38)) 2)) ((z119)) ((y120)) ((y122)) ((u5_34)) ((u5_34)) (sc ((w26)) 0 ((u5_2)) ++ sc ((w45)) ((u5_28)) ((u5_27))) ((w35)) ((w36)) ((w37)) ((w34)) ((w38)) ((y16)) ((wq26)) ((wq28)) := PKA_f (hPK.trans (PBG_10 (.inr ⟨by omega, by rw [hx]; rcases (show (v39) = 255 ∨ (v39) ≠ 255 by omega) with z | z; (rw [nsz_3 (by omega)]; omega); (rw [nsz_2 (by omega) (by omega)]; omega)⟩))) (by decide) (by omega) (by omega) (by omega) (by omega) rfl
            exact w_ireturn rfl (k (z119) σ _ _ H (SF_trans (SF_trans (SF_upd (SF_trans (SF_upd (SF_refl) rfl) hS13 (any_sub rfl)) rfl) hS_c86 (any_sub rfl)) hS117 (any_sub rfl)) (SA_trans (SA_trans (SA_trans (SA_refl) hA14 (any_subA rfl)) hA_c86 (any_subA rfl)) hA118 (any_subA rfl)) (y16) ((((hS117 5 10 rfl).trans (hS_c86 5 10 rfl)).trans (ey17))) (u5_27) (((((hS117 5 27 rfl).trans (hS_c86 5 27 rfl)).trans (hS13 5 27 rfl)).trans (eu5_27))) (y120) ((ey121)) (y122) ((ey123)) (u5_34) (((((hS117 5 34 rfl).trans (hS_c86 5 34 rfl)).trans (hS13 5 34 rfl)).trans (eu5_34))) (wq26) ((funext (hA118 31 rfl)).trans ((funext (hA_c86 31 rfl)).trans (ewq27))) (wq28) ((funext (hA118 32 rfl)).trans ((funext (hA_c86 32 rfl)).trans (ewq29))) (w34) ((funext (hA118 34 rfl)).trans ((funext (hA_c86 34 rfl)).trans ((funext (hA14 34 rfl)).trans (ew34)))) (w35) ((funext (hA118 35 rfl)).trans ((funext (hA_c86 35 rfl)).trans ((funext (hA14 35 rfl)).trans (ew35)))) (w36) ((funext (hA118 36 rfl)).trans ((funext (hA_c86 36 rfl)).trans ((funext (hA14 36 rfl)).trans (ew36)))) (w37) ((funext (hA118 37 rfl)).trans ((funext (hA_c86 37 rfl)).trans ((funext (hA14 37 rfl)).trans (ew37)))) (w38) ((funext (hA118 38 rfl)).trans ((funext (hA_c86 38 rfl)).trans ((funext (hA14 38 rfl)).trans (ew38)))) (w45) ((funext (hA118 45 rfl)).trans ((funext (hA_c86 45 rfl)).trans ((funext (hA14 45 rfl)).trans (ew45)))) (show (z119) = 0 ∨ (z119) = 1 from pz119_0) (h2) (show (u5_27) ≤ (u5_27) ∧ (u5_27) ≤ (u5_26) from q_1024 h4) (show (z119) = 1 → 1 ≤ ((w38)) 0 ∧ 1 ≤ ((w38)) 1 ∧ 1 ≤ ((w38)) 2 from q_1698 h3) (show 0 ≤ (u5_34) ∧ (u5_34) ≤ (u5_27) from h7) (show PKA (PBF ((w14)) ((u5_25)) (a1) ((u5_2)) (wnF ((u5_35))) ((u5_29)) ((u5_26) - (u5_27)) (sc ((w26)) 0 ((u5_2)) ++ sc ((w45)) ((u5_28)) ((u5_27))) ((u5_10), GG) tb (((w38)) 0) (((w38)) 1) (((w38)) 2)) ((z119)) ((y120)) ((y122)) ((u5_34)) ((u5_34)) (sc ((w26)) 0 ((u5_2)) ++ sc ((w45)) ((u5_28)) ((u5_27))) ((w35)) ((w36)) ((w37)) ((w34)) ((w38)) ((y16)) ((wq26)) ((wq28)) by assumption) (hcf0))
        refine w_icmpne (t := 85) rfl rfl (show inr (v39) from q_1750 b105 qv39) (show inr (255) from q_297) (fun b126 => ?_) (fun b126 => ?_)
        · refine Ew_of (pcₚ := 86) (fun _ => x_iconst rfl) ?_
          exact hc86 (1) _ σ _ _  (rk_o (rk_o (rk_o (rfl) rfl rfl) rfl rfl) rfl rfl) (rk_o (rk_o (rk_o (rfl) rfl rfl) rfl rfl) rfl rfl) (rk_o (rk_o (rk_s) rfl rfl) rfl rfl) (rk_o (rk_s) rfl rfl) H (SF_refl) (SA_refl)   (show inr (1) from q_135) (show ((v39) ≠ (255) ∧ (1) = (1)) ∨ ((v39) = (255) ∧ (1) = (2)) from q_1757 b126)
        · refine Ew_of (pcₚ := 82) (fun _ => x_iconst rfl) ?_
          refine Ew_of (pcₚ := 86) (fun _ => x_goto rfl rfl) ?_
          exact hc86 (2) _ σ _ _  (rk_o (rk_o (rk_o (rfl) rfl rfl) rfl rfl) rfl rfl) (rk_o (rk_o (rk_o (rfl) rfl rfl) rfl rfl) rfl rfl) (rk_o (rk_o (rk_s) rfl rfl) rfl rfl) (rk_o (rk_s) rfl rfl) H (SF_refl) (SA_refl)   (show inr (2) from q_122) (show ((v39) ≠ (255) ∧ (2) = (1)) ∨ ((v39) = (255) ∧ (2) = (2)) from q_1758 b126)
    · refine Ew_of (pcₚ := 29) (fun _ => x_aload_n rfl (rk_o (rfl) rfl rfl)) ?_
      refine Ew_of (pcₚ := 31) (fun _ => x_bipush (z := 10) rfl (by decide)) ?_
      refine Ew_of (pcₚ := 32) (fun _ => x_iload_n rfl (rk_o (rfl) rfl rfl)) ?_
      refine w_inv H (o := 5) rfl rfl rfl (H.perm 5 rfl) rfl rfl (by rfl) (M282 H (show inr (10) from q_746) (show inr (a1) from h0) (show 0 ≤ (10) ∧ (10) ≤ 20 from q_1633) (show 0 ≤ (a1) ∧ (a1) ≤ 65536 from q_1759 b38 h1 r33) (fun z131 σ F127 A128 H hS129 hA130 y132 ey133 y134 ey135 pz131_0 pz131_1 pz131_2 pz131_3 => ⟨rretB rfl pz131_0, ?_⟩))
      have r136 : (0 : Int) ≤ y132 ∧ y132 ≤ 20 := rngE (show (0 : Int) ≤ F127 5 30 ∧ F127 5 30 ≤ 20 from H.frng 5 30) (show F127 5 30 = y132 from (ey133))
      have r137 : (0 : Int) ≤ y134 ∧ y134 ≤ 65536 := rngE (show (0 : Int) ≤ F127 5 31 ∧ F127 5 31 ≤ 65536 from H.frng 5 31) (show F127 5 31 = y134 from (ey135))
      have : PKA (PBF ((w14)) ((u5_25)) ((a1)) ((u5_2)) (wnF ((u5_35))) ((u5_29)) ((u5_26) - (u5_27)) (sc ((w26)) 0 ((u5_2)) ++ sc ((w45)) ((u5_28)) ((u5_27))) ((u5_10), GG) tb (((w38)) 0) (((w38)) 1) (((w38)) 2)) ((z131)) ((y132)) ((y134)) ((u5_34)) ((u5_34)) (sc ((w26)) 0 ((u5_2)) ++ sc ((w45)) ((u5_28)) ((u5_27))) ((w35)) ((w36)) ((w37)) ((w34)) ((w38)) ((y16)) ((wq26)) ((wq28)) := PKA_f (hPK.trans (PBG_10 (.inl (by omega)))) (by decide) (by omega) (by omega) (by omega) (by omega) rfl
      exact w_ireturn rfl (k (z131) σ _ _ H (SF_trans (SF_trans (SF_upd (SF_refl) rfl) hS13 (any_sub rfl)) hS129 (any_sub rfl)) (SA_trans (SA_trans (SA_refl) hA14 (any_subA rfl)) hA130 (any_subA rfl)) (y16) (((hS129 5 10 rfl).trans (ey17))) (u5_27) ((((hS129 5 27 rfl).trans (hS13 5 27 rfl)).trans (eu5_27))) (y132) ((ey133)) (y134) ((ey135)) (u5_34) ((((hS129 5 34 rfl).trans (hS13 5 34 rfl)).trans (eu5_34))) (wq26) ((funext (hA130 31 rfl)).trans (ewq27)) (wq28) ((funext (hA130 32 rfl)).trans (ewq29)) (w34) ((funext (hA130 34 rfl)).trans ((funext (hA14 34 rfl)).trans (ew34))) (w35) ((funext (hA130 35 rfl)).trans ((funext (hA14 35 rfl)).trans (ew35))) (w36) ((funext (hA130 36 rfl)).trans ((funext (hA14 36 rfl)).trans (ew36))) (w37) ((funext (hA130 37 rfl)).trans ((funext (hA14 37 rfl)).trans (ew37))) (w38) ((funext (hA130 38 rfl)).trans ((funext (hA14 38 rfl)).trans (ew38))) (w45) ((funext (hA130 45 rfl)).trans ((funext (hA14 45 rfl)).trans (ew45))) (show (z131) = 0 ∨ (z131) = 1 from pz131_0) (h2) (show (u5_27) ≤ (u5_27) ∧ (u5_27) ≤ (u5_26) from q_1024 h4) (show (z131) = 1 → 1 ≤ ((w38)) 0 ∧ 1 ≤ ((w38)) 1 ∧ 1 ≤ ((w38)) 2 from q_1698 h3) (show 0 ≤ (u5_34) ∧ (u5_34) ≤ (u5_27) from h7) (show PKA (PBF ((w14)) ((u5_25)) (a1) ((u5_2)) (wnF ((u5_35))) ((u5_29)) ((u5_26) - (u5_27)) (sc ((w26)) 0 ((u5_2)) ++ sc ((w45)) ((u5_28)) ((u5_27))) ((u5_10), GG) tb (((w38)) 0) (((w38)) 1) (((w38)) 2)) ((z131)) ((y132)) ((y134)) ((u5_34)) ((u5_34)) (sc ((w26)) 0 ((u5_2)) ++ sc ((w45)) ((u5_28)) ((u5_27))) ((w35)) ((w36)) ((w37)) ((w34)) ((w38)) ((y16)) ((wq26)) ((wq28)) by assumption) (hcf0))
  · refine Ew_of (pcₚ := 19) (fun _ => x_iconst rfl) ?_
    obtain ⟨hLn, hLf, hLw⟩ := LTA_n hLA (by omega)
    have : PKA (PBF ((w14)) ((u5_25)) ((a1)) ((u5_2)) (wnF ((u5_35))) ((u5_29)) ((u5_26) - (u5_27)) (sc ((w26)) 0 ((u5_2)) ++ sc ((w45)) ((u5_28)) ((u5_27))) ((u5_10), GG) tb (((w38)) 0) (((w38)) 1) (((w38)) 2)) ((0)) ((y20)) ((y22)) ((u5_34)) ((u5_34)) (sc ((w26)) 0 ((u5_2)) ++ sc ((w45)) ((u5_28)) ((u5_27))) ((w35)) ((w36)) ((w37)) ((w34)) ((w38)) ((y16)) ((wq26)) ((wq28)) := PKA_f (PBF_g hLn) hLn (by omega) hLf hLw (by omega) rfl
    exact w_ireturn rfl (k (0) σ _ _ H (SF_trans (SF_upd (SF_refl) rfl) hS13 (any_sub rfl)) (SA_trans (SA_refl) hA14 (any_subA rfl)) (y16) ((ey17)) (u5_27) (((hS13 5 27 rfl).trans (eu5_27))) (y20) ((ey21)) (y22) ((ey23)) (u5_34) (((hS13 5 34 rfl).trans (eu5_34))) (wq26) (ewq27) (wq28) (ewq29) (w34) ((funext (hA14 34 rfl)).trans (ew34)) (w35) ((funext (hA14 35 rfl)).trans (ew35)) (w36) ((funext (hA14 36 rfl)).trans (ew36)) (w37) ((funext (hA14 37 rfl)).trans (ew37)) (w38) ((funext (hA14 38 rfl)).trans (ew38)) (w45) ((funext (hA14 45 rfl)).trans (ew45)) (show (0) = 0 ∨ (0) = 1 by first | exact q_45 | omega) (h2) (show (u5_27) ≤ (u5_27) ∧ (u5_27) ≤ (u5_26) from q_1024 h4) (show (0) = 1 → 1 ≤ ((w38)) 0 ∧ 1 ≤ ((w38)) 1 ∧ 1 ≤ ((w38)) 2 by first | exact q_1739 h3 | omega) (show 0 ≤ (u5_34) ∧ (u5_34) ≤ (u5_27) from h7) (show PKA (PBF ((w14)) ((u5_25)) (a1) ((u5_2)) (wnF ((u5_35))) ((u5_29)) ((u5_26) - (u5_27)) (sc ((w26)) 0 ((u5_2)) ++ sc ((w45)) ((u5_28)) ((u5_27))) ((u5_10), GG) tb (((w38)) 0) (((w38)) 1) (((w38)) 2)) ((0)) ((y20)) ((y22)) ((u5_34)) ((u5_34)) (sc ((w26)) 0 ((u5_2)) ++ sc ((w45)) ((u5_28)) ((u5_27))) ((w35)) ((w36)) ((w37)) ((w34)) ((w38)) ((y16)) ((wq26)) ((wq28)) by assumption) (hcf0))


end
section
/-! 43b.ref -/
theorem M288 {σ0 σ : rS} {D N : Nat → Nat} {F : hF} {A : hA} {d c s : Nat} {Q : wQ} (H : HS σ0 σ D N F A)  (u1_1 : Int) (eu1_1 : F 1 1 = u1_1) (u5_2 : Int) (eu5_2 : F 5 2 = u5_2) (u5_10 : Int) (eu5_10 : F 5 10 = u5_10) (u5_25 : Int) (eu5_25 : F 5 25 = u5_25) (u5_26 : Int) (eu5_26 : F 5 26 = u5_26) (u5_27 : Int) (eu5_27 : F 5 27 = u5_27) (u5_28 : Int) (eu5_28 : F 5 28 = u5_28) (u5_29 : Int) (eu5_29 : F 5 29 = u5_29) (u5_33 : Int) (eu5_33 : F 5 33 = u5_33) (u5_34 : Int) (eu5_34 : F 5 34 = u5_34) (u5_35 : Int) (eu5_35 : F 5 35 = u5_35) (w14 : Int → Int) (ew14 : A 14 = w14) (w26 : Int → Int) (ew26 : A 26 = w26) (w31 : Int → Int) (ew31 : A 31 = w31) (w32 : Int → Int) (ew32 : A 32 = w32) (w34 : Int → Int) (ew34 : A 34 = w34) (w35 : Int → Int) (ew35 : A 35 = w35) (w36 : Int → Int) (ew36 : A 36 = w36) (w37 : Int → Int) (ew37 : A 37 = w37) (w38 : Int → Int) (ew38 : A 38 = w38) (w45 : Int → Int) (ew45 : A 45 = w45) (tb : Int → Tb) (GG : Int → Int) (h0 : (u5_25) + 3 ≤ (u1_1)) (h1 : RT ((w35)) ((w36)) ((w37)) ((w34))) (h2 : 1 ≤ ((w38)) 0 ∧ 1 ≤ ((w38)) 1 ∧ 1 ≤ ((w38)) 2) (h3 : (u5_28) ≤ (u5_27) ∧ (u5_27) ≤ (u5_26)) (h4 : 0 ≤ (u5_33) ∧ (u5_33) ≤ (u5_25)) (h5 : RTA ((w35)) ((w36)) ((w37)) ((w34)) tb) (h6 : RCO ((u5_10)) (GG) ((w31)) ((w32))) (h7 : 0 ≤ (u5_34) ∧ (u5_34) ≤ (u5_27)) (k : ∀ (z : Int) σ Fₚ Aₚ, HS σ0 σ D N Fₚ Aₚ → SF [(5, 10), (5, 19), (5, 25), (5, 27), (5, 30), (5, 31), (5, 33), (5, 34), (5, 39), (5, 40), (5, 41), (5, 42), (5, 43), (5, 44), (5, 45)] F Fₚ → SA [31, 32, 33, 34, 35, 36, 37, 38, 39, 40, 41, 42, 43, 44, 45, 46] A Aₚ → ∀ y5_10 : Int, Fₚ 5 10 = y5_10 → ∀ y5_25 : Int, Fₚ 5 25 = y5_25 → ∀ y5_27 : Int, Fₚ 5 27 = y5_27 → ∀ y5_30 : Int, Fₚ 5 30 = y5_30 → ∀ y5_31 : Int, Fₚ 5 31 = y5_31 → ∀ y5_33 : Int, Fₚ 5 33 = y5_33 → ∀ y5_34 : Int, Fₚ 5 34 = y5_34 → ∀ v31 : Int → Int, Aₚ 31 = v31 → ∀ v32 : Int → Int, Aₚ 32 = v32 → ∀ v34 : Int → Int, Aₚ 34 = v34 → ∀ v35 : Int → Int, Aₚ 35 = v35 → ∀ v36 : Int → Int, Aₚ 36 = v36 → ∀ v37 : Int → Int, Aₚ 37 = v37 → ∀ v38 : Int → Int, Aₚ 38 = v38 → ∀ v45 : Int → Int, Aₚ 45 = v45 → ((z) = 0 ∨ (z) = 1) → (RT ((v35)) ((v36)) ((v37)) ((v34))) → ((u5_27) ≤ (y5_27) ∧ (y5_27) ≤ (u5_26)) → ((z) = 1 → 1 ≤ ((v38)) 0 ∧ 1 ≤ ((v38)) 1 ∧ 1 ≤ ((v38)) 2) → ((z) = 1 → (u5_25) + 3 ≤ (y5_25) ∧ (y5_25) ≤ (u1_1)) → (0 ≤ (y5_34) ∧ (y5_34) ≤ (y5_27)) → ((y5_33) = (u5_33) + 1) → (IMP (((z) : Int) = 1) ((y5_25) = (u5_25) + 3 + (if bkK ((w14)) ((u5_25)) = 1 then 1 else bkN ((w14)) ((u5_25))))) → (PKA (BLF ((w14)) ((u5_25)) ((u1_1)) ((u5_2)) (wnF ((u5_35))) ((u5_29)) ((u5_26) - (u5_27)) (sc ((w26)) 0 ((u5_2)) ++ sc ((w45)) ((u5_28)) ((u5_27))) ((u5_10), GG) tb (((w38)) 0) (((w38)) 1) (((w38)) 2)) ((z)) ((y5_30)) ((y5_31)) ((u5_34)) ((y5_34)) (sc ((w26)) 0 ((u5_2)) ++ sc ((v45)) ((u5_28)) ((y5_27))) ((v35)) ((v36)) ((v37)) ((v34)) ((v38)) ((y5_10)) ((v31)) ((v32))) → (FRM ((w45)) ((v45)) ((u5_27)) 65536) → Q (some (I z)) σ c s) : Ew 288 (d + 7) 0 (rargs 0 [.ref (D 5)]) [] σ c s Q := by
  have r1 : (0 : Int) ≤ u1_1 ∧ u1_1 ≤ 65536 := rngE (show (0 : Int) ≤ F 1 1 ∧ F 1 1 ≤ 65536 from H.frng 1 1) (show F 1 1 = u1_1 from (eu1_1))
  have r2 : (0 : Int) ≤ u5_2 ∧ u5_2 ≤ 65536 := rngE (show (0 : Int) ≤ F 5 2 ∧ F 5 2 ≤ 65536 from H.frng 5 2) (show F 5 2 = u5_2 from (eu5_2))
  have r3 : (0 : Int) ≤ u5_10 ∧ u5_10 ≤ 11 := rngE (show (0 : Int) ≤ F 5 10 ∧ F 5 10 ≤ 11 from H.frng 5 10) (show F 5 10 = u5_10 from (eu5_10))
  have r4 : (0 : Int) ≤ u5_25 ∧ u5_25 ≤ 65536 := rngE (show (0 : Int) ≤ F 5 25 ∧ F 5 25 ≤ 65536 from H.frng 5 25) (show F 5 25 = u5_25 from (eu5_25))
  have r5 : (0 : Int) ≤ u5_26 ∧ u5_26 ≤ 65536 := rngE (show (0 : Int) ≤ F 5 26 ∧ F 5 26 ≤ 65536 from H.frng 5 26) (show F 5 26 = u5_26 from (eu5_26))
  have r6 : (0 : Int) ≤ u5_27 ∧ u5_27 ≤ 65536 := rngE (show (0 : Int) ≤ F 5 27 ∧ F 5 27 ≤ 65536 from H.frng 5 27) (show F 5 27 = u5_27 from (eu5_27))
  have r7 : (0 : Int) ≤ u5_28 ∧ u5_28 ≤ 65536 := rngE (show (0 : Int) ≤ F 5 28 ∧ F 5 28 ≤ 65536 from H.frng 5 28) (show F 5 28 = u5_28 from (eu5_28))
  have r8 : (0 : Int) ≤ u5_29 ∧ u5_29 ≤ 131072 := rngE (show (0 : Int) ≤ F 5 29 ∧ F 5 29 ≤ 131072 from H.frng 5 29) (show F 5 29 = u5_29 from (eu5_29))
  have r9 : (-2147483648 : Int) ≤ u5_33 ∧ u5_33 ≤ 2147483647 := rngE (show (-2147483648 : Int) ≤ F 5 33 ∧ F 5 33 ≤ 2147483647 from H.frng 5 33) (show F 5 33 = u5_33 from (eu5_33))
  have r10 : (-2147483648 : Int) ≤ u5_34 ∧ u5_34 ≤ 2147483647 := rngE (show (-2147483648 : Int) ≤ F 5 34 ∧ F 5 34 ≤ 2147483647 from H.frng 5 34) (show F 5 34 = u5_34 from (eu5_34))
  have r11 : (-9223372036854775808 : Int) ≤ u5_35 ∧ u5_35 ≤ 9223372036854775807 := rngE (show (-9223372036854775808 : Int) ≤ F 5 35 ∧ F 5 35 ≤ 9223372036854775807 from H.frng 5 35) (show F 5 35 = u5_35 from (eu5_35))
  have hrta : RTA ((w35)) ((w36)) ((w37)) ((w34)) tb := h5
  have hrco : RCO ((u5_10)) (GG) ((w31)) ((w32)) := h6
  have hcf0 : FRM ((w45)) ((w45)) ((u5_27)) 65536 := FRM_refl
  refine Ew_of (pcₚ := 1) (fun _ => x_aload_n rfl rfl) ?_
  refine Ew_of (pcₚ := 2) (fun _ => x_dup rfl rfl) ?_
  refine w_gI H (o := 5) (w := u5_33) rfl (H.perm 5 rfl) rfl rfl rfl (fun _ => rfl) (eu5_33) ?_
  refine Ew_of (pcₚ := 6) (fun _ => x_iconst rfl) ?_
  refine w_iadd rfl ?_
  refine w_pI H (o := 5) rfl rfl (H.perm 5 rfl) rfl rfl rfl (fun _ => rfl) rfl (show (-2147483648 : Int) ≤ (u5_33 + 1) ∧ (u5_33 + 1) ≤ 2147483647 from q_1760 h4 r4) (fun σ H => ?_)
  refine Ew_of (pcₚ := 11) (fun _ => x_aload_n rfl rfl) ?_
  refine w_gI H (o := 5) (w := u5_25) rfl (H.perm 5 rfl) rfl rfl rfl (fun _ => rfl) (eu5_25) ?_
  refine Ew_of (pcₚ := 15) (fun _ => x_istore_n rfl) ?_
  refine Ew_of (pcₚ := 16) (fun _ => x_aload_n rfl (rk_o (rfl) rfl rfl)) ?_
  refine Ew_of (pcₚ := 17) (fun _ => x_aload_n rfl (rk_o (rfl) rfl rfl)) ?_
  refine w_gI H (o := 5) (w := u5_25) rfl (H.perm 5 rfl) rfl rfl rfl (fun _ => rfl) (eu5_25) ?_
  refine Ew_of (pcₚ := 21) (fun _ => x_iconst rfl) ?_
  refine w_inv H (o := 5) rfl rfl rfl (H.perm 5 rfl) rfl rfl (by rfl) (M257 H (w14) (ew14) (show inr (u5_25) from q_286 r4) (show inr (3) from q_246) (show 0 ≤ (u5_25) ∧ 0 ≤ (3) ∧ (3) ≤ 8 ∧ (u5_25) + (3) ≤ 65536 from q_1761 h0 r1 r4) (fun z16 σ F12 A13 H hS14 hA15 pz16_0 pz16_1 pz16_2 pz16_3 pz16_4 pz16_5 pz16_6 pz16_7 pz16_8 pz16_9 => ⟨rfl, ?_⟩))
  replace pz16_1 := pz16_1.resolve_left (by decide)
  replace pz16_2 := pz16_2.resolve_right (by decide)
  replace pz16_3 := pz16_3 (by decide)
  replace pz16_4 := pz16_4 (by decide)
  (try clear pz16_5)
  (try clear pz16_6)
  (try clear pz16_7)
  replace pz16_8 := pz16_8 (by decide)
  have hN : z16 = nvl ((w14)) ((u5_25)) 3 := nmb_nn pz16_9 (by omega) pz16_0
  refine w_l2i rfl ?_
  refine Ew_of (pcₚ := 26) (fun _ => x_istore_n rfl) ?_
  refine Ew_of (pcₚ := 27) (fun _ => x_iload_n rfl rk_s) ?_
  refine Ew_of (pcₚ := 28) (fun _ => x_iconst rfl) ?_
  refine w_idiv rfl (show inr (z16) ∧ 0 ≤ z16 by omega) (show inr (2) ∧ 0 < 2 from q_1234) ?_
  refine Ew_of (pcₚ := 30) (fun _ => x_iconst rfl) ?_
  refine w_irem rfl (show inr ((z16 / 2)) ∧ 0 ≤ (z16 / 2) by omega) (show inr (4) ∧ 0 < 4 from q_1074) ?_
  refine Ew_of (pcₚ := 32) (fun _ => x_istore_n rfl) ?_
  refine Ew_of (pcₚ := 33) (fun _ => x_iload_n rfl (rk_o (rk_s) rfl rfl)) ?_
  refine Ew_of (pcₚ := 35) (fun _ => x_bipush (z := 8) rfl (by decide)) ?_
  refine w_idiv rfl (show inr (z16) ∧ 0 ≤ z16 by omega) (show inr (8) ∧ 0 < 8 from q_1054) ?_
  refine Ew_of (pcₚ := 38) (fun _ => x_istore rfl) ?_
  have hkK : bkK ((w14)) ((u5_25)) = (((z16 / 2) % 4)) := by unfold bkK; rw [← hN]
  have hkN : bkN ((w14)) ((u5_25)) = ((z16 / 8)) := by unfold bkN; rw [← hN]
  refine Ew_of (pcₚ := 39) (fun _ => x_iload_n rfl (rk_o (rk_s) rfl rfl)) ?_
  refine Ew_of (pcₚ := 40) (fun _ => x_iconst rfl) ?_
  refine w_icmpne (t := 50) rfl rfl (show inr (((z16 / 2) % 4)) from q_1762) (show inr (3) from q_246) (fun b17 => ?_) (fun b17 => ?_)
  · refine Ew_of (pcₚ := 52) (fun _ => x_iload rfl rk_s) ?_
    refine Ew_of (pcₚ := 53) (fun _ => x_aload_n rfl (rk_o (rk_o (rk_o (rk_o (rfl) rfl rfl) rfl rfl) rfl rfl) rfl rfl)) ?_
    refine w_gI H (o := 5) (w := u5_29) rfl (H.perm 5 rfl) rfl rfl rfl (fun _ => rfl) ((hS14 5 29 rfl).trans (eu5_29)) ?_
    refine w_icmple (t := 67) rfl rfl (show inr ((z16 / 8)) by omega) (show inr (u5_29) from q_1569 r8) (fun b18 => ?_) (fun b18 => ?_)
    · refine Ew_of (pcₚ := 68) (fun _ => x_aload_n rfl (rk_o (rk_o (rk_o (rk_o (rfl) rfl rfl) rfl rfl) rfl rfl) rfl rfl)) ?_
      refine Ew_of (pcₚ := 69) (fun _ => x_dup rfl rfl) ?_
      refine w_gI H (o := 5) (w := u5_25) rfl (H.perm 5 rfl) rfl rfl rfl (fun _ => rfl) ((hS14 5 25 rfl).trans (eu5_25)) ?_
      refine Ew_of (pcₚ := 73) (fun _ => x_iconst rfl) ?_
      refine w_iadd rfl ?_
      refine w_pI H (o := 5) rfl rfl (H.perm 5 rfl) rfl rfl rfl (fun _ => rfl) rfl (show (0 : Int) ≤ (u5_25 + 3) ∧ (u5_25 + 3) ≤ 65536 from q_1763 h0 r1 r4) (fun σ H => ?_)
      refine Ew_of (pcₚ := 78) (fun _ => x_iload_n rfl (rk_o (rk_s) rfl rfl)) ?_
      refine Ew_of (pcₚ := 79) (fun _ => x_iconst rfl) ?_
      have hc88 : ∀ (tc88_0 : Int), ∀ (ls : rO) (σ : rS) (F_c88 : hF) (A_c88 : hA) , rlook ls 0 = some (.ref (D 5)) → rlook ls 1 = some (I (u5_25)) → rlook ls 3 = some (I (((z16 / 2) % 4))) → rlook ls 4 = some (I ((z16 / 8))) → HS σ0 σ D N F_c88 A_c88 → SF [] (updF F12 5 25 ((u5_25 + 3))) F_c88 → SA [] A13 A_c88 → (inr (tc88_0)) → (((((z16 / 2) % 4)) ≠ (1) ∧ (tc88_0) = ((z16 / 8))) ∨ ((((z16 / 2) % 4)) = (1) ∧ (tc88_0) = (1))) → Ew 288 (d + 7) 88 ls [I (tc88_0)] σ c s Q := by
       as_aux_lemma =>
        intro tc88_0 ls σ F_c88 A_c88  lc88_0 lc88_1 lc88_3 lc88_4 H hS_c88 hA_c88   jc88_0 jc88_1
        refine Ew_of (pcₚ := 90) (fun _ => x_istore rfl) ?_
        have hb5 : bkK ((w14)) ((u5_25)) = 1 ∧ (tc88_0) = 1 ∨ bkK ((w14)) ((u5_25)) ≠ 1 ∧ (tc88_0) = bkN ((w14)) ((u5_25)) := by omega
        refine Ew_of (pcₚ := 91) (fun _ => x_aload_n rfl (rk_o (lc88_0) rfl rfl)) ?_
        refine Ew_of (pcₚ := 93) (fun _ => x_iload rfl rk_s) ?_
        refine w_inv H (o := 5) rfl rfl rfl (H.perm 5 rfl) rfl rfl (by rfl) (M283 H (u1_1) ((((hS_c88 1 1 rfl).trans (hS14 1 1 rfl)).trans (eu1_1))) ((u5_25 + 3)) ((hS_c88 5 25 rfl)) (show inr (tc88_0) from jc88_0) (show 0 ≤ (tc88_0) ∧ (tc88_0) ≤ 1000000 by omega) (fun z23 σ F19 A20 H hS21 hA22 y24 ey25 y26 ey27 pz23_0 pz23_1 pz23_2 => ⟨rretB rfl pz23_0, ?_⟩))
        have r28 : (0 : Int) ≤ y24 ∧ y24 ≤ 20 := rngE (show (0 : Int) ≤ F19 5 30 ∧ F19 5 30 ≤ 20 from H.frng 5 30) (show F19 5 30 = y24 from (ey25))
        have r29 : (0 : Int) ≤ y26 ∧ y26 ≤ 65536 := rngE (show (0 : Int) ≤ F19 5 31 ∧ F19 5 31 ≤ 65536 from H.frng 5 31) (show F19 5 31 = y26 from (ey27))
        refine w_ifne (t := 101) rfl rfl (show inr (z23) from q_138 pz23_0) (fun b30 => ?_) (fun b30 => ?_)
        · refine Ew_of (pcₚ := 102) (fun _ => x_aload_n rfl (rk_o (lc88_0) rfl rfl)) ?_
          refine w_gI H (o := 5) (w := (u5_25 + 3)) rfl (H.perm 5 rfl) rfl rfl rfl (fun _ => rfl) ((hS21 5 25 rfl).trans (hS_c88 5 25 rfl)) ?_
          refine Ew_of (pcₚ := 107) (fun _ => x_iload rfl rk_s) ?_
          refine w_iadd rfl ?_
          refine Ew_of (pcₚ := 110) (fun _ => x_istore rfl) ?_
          have hc210 : ∀ (ls : rO) (σ : rS) (F_c210 : hF) (A_c210 : hA) , rlook ls 0 = some (.ref (D 5)) → rlook ls 6 = some (I (((u5_25 + 3) + tc88_0))) → HS σ0 σ D N F_c210 A_c210 → SF [(5, 10), (5, 19), (5, 25), (5, 27), (5, 30), (5, 31), (5, 34), (5, 39), (5, 40), (5, 41), (5, 42), (5, 43), (5, 44), (5, 45)] F19 F_c210 → SA [31, 32, 33, 34, 35, 36, 37, 38, 39, 40, 41, 42, 43, 44, 45, 46] A20 A_c210 → ∀ yc210_5_10 : Int, F_c210 5 10 = yc210_5_10 → ∀ yc210_5_27 : Int, F_c210 5 27 = yc210_5_27 → ∀ yc210_5_30 : Int, F_c210 5 30 = yc210_5_30 → ∀ yc210_5_31 : Int, F_c210 5 31 = yc210_5_31 → ∀ yc210_5_34 : Int, F_c210 5 34 = yc210_5_34 → ∀ wc210_31 : Int → Int, A_c210 31 = wc210_31 → ∀ wc210_32 : Int → Int, A_c210 32 = wc210_32 → ∀ wc210_34 : Int → Int, A_c210 34 = wc210_34 → ∀ wc210_35 : Int → Int, A_c210 35 = wc210_35 → ∀ wc210_36 : Int → Int, A_c210 36 = wc210_36 → ∀ wc210_37 : Int → Int, A_c210 37 = wc210_37 → ∀ wc210_38 : Int → Int, A_c210 38 = wc210_38 → ∀ wc210_45 : Int → Int, A_c210 45 = wc210_45 → ((u5_28) ≤ (yc210_5_27) ∧ (yc210_5_27) ≤ (u5_26)) → ((u5_27) ≤ (yc210_5_27)) → (RT ((wc210_35)) ((wc210_36)) ((wc210_37)) ((wc210_34))) → (1 ≤ ((wc210_38)) 0 ∧ 1 ≤ ((wc210_38)) 1 ∧ 1 ≤ ((wc210_38)) 2) → (0 ≤ (yc210_5_34) ∧ (yc210_5_34) ≤ (yc210_5_27)) → (PKA (BLF ((w14)) ((u5_25)) ((u1_1)) ((u5_2)) (wnF ((u5_35))) ((u5_29)) ((u5_26) - (u5_27)) (sc ((w26)) 0 ((u5_2)) ++ sc ((w45)) ((u5_28)) ((u5_27))) ((u5_10), GG) tb (((w38)) 0) (((w38)) 1) (((w38)) 2)) (1) ((yc210_5_30)) ((yc210_5_31)) ((u5_34)) ((yc210_5_34)) (sc ((w26)) 0 ((u5_2)) ++ sc ((wc210_45)) ((u5_28)) ((yc210_5_27))) ((wc210_35)) ((wc210_36)) ((wc210_37)) ((wc210_34)) ((wc210_38)) ((yc210_5_10)) ((wc210_31)) ((wc210_32))) → (FRM ((w45)) ((wc210_45)) ((u5_27)) 65536) → Ew 288 (d + 7) 210 ls [] σ c s Q := by
           as_aux_lemma =>
            intro  ls σ F_c210 A_c210  lc210_0 lc210_6 H hS_c210 hA_c210 yc210_5_10 eyc210_5_10 yc210_5_27 eyc210_5_27 yc210_5_30 eyc210_5_30 yc210_5_31 eyc210_5_31 yc210_5_34 eyc210_5_34 wc210_31 ewc210_31 wc210_32 ewc210_32 wc210_34 ewc210_34 wc210_35 ewc210_35 wc210_36 ewc210_36 wc210_37 ewc210_37 wc210_38 ewc210_38 wc210_45 ewc210_45 jc210_0 jc210_1 jc210_2 jc210_3 jc210_4 jc210_5 jc210_6
            have r31 : (0 : Int) ≤ yc210_5_10 ∧ yc210_5_10 ≤ 11 := rngE (show (0 : Int) ≤ F_c210 5 10 ∧ F_c210 5 10 ≤ 11 from H.frng 5 10) (show F_c210 5 10 = yc210_5_10 from (eyc210_5_10))
            have r32 : (0 : Int) ≤ yc210_5_27 ∧ yc210_5_27 ≤ 65536 := rngE (show (0 : Int) ≤ F_c210 5 27 ∧ F_c210 5 27 ≤ 65536 from H.frng 5 27) (show F_c210 5 27 = yc210_5_27 from (eyc210_5_27))
            have r33 : (0 : Int) ≤ yc210_5_30 ∧ yc210_5_30 ≤ 20 := rngE (show (0 : Int) ≤ F_c210 5 30 ∧ F_c210 5 30 ≤ 20 from H.frng 5 30) (show F_c210 5 30 = yc210_5_30 from (eyc210_5_30))
            have r34 : (0 : Int) ≤ yc210_5_31 ∧ yc210_5_31 ≤ 65536 := rngE (show (0 : Int) ≤ F_c210 5 31 ∧ F_c210 5 31 ≤ 65536 from H.frng 5 31) (show F_c210 5 31 = yc210_5_31 from (eyc210_5_31))
            have r35 : (-2147483648 : Int) ≤ yc210_5_34 ∧ yc210_5_34 ≤ 2147483647 := rngE (show (-2147483648 : Int) ≤ F_c210 5 34 ∧ F_c210 5 34 ≤ 2147483647 from H.frng 5 34) (show F_c210 5 34 = yc210_5_34 from (eyc210_5_34))
            refine Ew_of (pcₚ := 211) (fun _ => x_aload_n rfl lc210_0) ?_
            refine Ew_of (pcₚ := 213) (fun _ => x_iload rfl lc210_6) ?_
            refine w_pI H (o := 5) rfl rfl (H.perm 5 rfl) rfl rfl rfl (fun _ => rfl) rfl (show (0 : Int) ≤ ((u5_25 + 3) + tc88_0) ∧ ((u5_25 + 3) + tc88_0) ≤ 65536 by omega) (fun σ H => ?_)
            refine Ew_of (pcₚ := 217) (fun _ => x_iconst rfl) ?_
            have : PKA (BLF ((w14)) ((u5_25)) ((u1_1)) ((u5_2)) (wnF ((u5_35))) ((u5_29)) ((u5_26) - (u5_27)) (sc ((w26)) 0 ((u5_2)) ++ sc ((w45)) ((u5_28)) ((u5_27))) ((u5_10), GG) tb (((w38)) 0) (((w38)) 1) (((w38)) 2)) (1) ((yc210_5_30)) ((yc210_5_31)) ((u5_34)) ((yc210_5_34)) (sc ((w26)) 0 ((u5_2)) ++ sc ((wc210_45)) ((u5_28)) ((yc210_5_27))) ((wc210_35)) ((wc210_36)) ((wc210_37)) ((wc210_34)) ((wc210_38)) ((yc210_5_10)) ((wc210_31)) ((wc210_32)) := by assumption
            have : IMP (((1) : Int) = 1) ((((u5_25 + 3) + tc88_0)) = (u5_25) + 3 + (if bkK ((w14)) ((u5_25)) = 1 then 1 else bkN ((w14)) ((u5_25)))) := fun _ => by rcases hb5 with ⟨x, y⟩ | ⟨x, y⟩; (rw [if_pos x]; omega); (rw [if_neg x]; omega)
            exact w_ireturn rfl (k (1) σ _ _ H (SF_upd (SF_trans (SF_trans (SF_trans (SF_upd (SF_trans (SF_upd (SF_refl) rfl) hS14 (any_sub rfl)) rfl) hS_c88 (any_sub rfl)) hS21 (any_sub rfl)) hS_c210 (any_sub rfl)) rfl) (SA_trans (SA_trans (SA_trans (SA_trans (SA_refl) hA15 (any_subA rfl)) hA_c88 (any_subA rfl)) hA22 (any_subA rfl)) hA_c210 (any_subA rfl)) (yc210_5_10) ((eyc210_5_10)) (((u5_25 + 3) + tc88_0)) (rfl) (yc210_5_27) ((eyc210_5_27)) (yc210_5_30) ((eyc210_5_30)) (yc210_5_31) ((eyc210_5_31)) ((u5_33 + 1)) (((((hS_c210 5 33 rfl).trans (hS21 5 33 rfl)).trans (hS_c88 5 33 rfl)).trans (hS14 5 33 rfl))) (yc210_5_34) ((eyc210_5_34)) (wc210_31) (ewc210_31) (wc210_32) (ewc210_32) (wc210_34) (ewc210_34) (wc210_35) (ewc210_35) (wc210_36) (ewc210_36) (wc210_37) (ewc210_37) (wc210_38) (ewc210_38) (wc210_45) (ewc210_45) (show (1) = 0 ∨ (1) = 1 by first | exact q_49 | omega) (jc210_2) (show (u5_27) ≤ (yc210_5_27) ∧ (yc210_5_27) ≤ (u5_26) from q_1764 jc210_0 jc210_1) (show (1) = 1 → 1 ≤ ((wc210_38)) 0 ∧ 1 ≤ ((wc210_38)) 1 ∧ 1 ≤ ((wc210_38)) 2 by first | exact q_1710 jc210_3 | omega) (show (1) = 1 → (u5_25) + 3 ≤ (((u5_25 + 3) + tc88_0)) ∧ (((u5_25 + 3) + tc88_0)) ≤ (u1_1) by omega) (show 0 ≤ (yc210_5_34) ∧ (yc210_5_34) ≤ (yc210_5_27) from jc210_4) (show ((u5_33 + 1)) = (u5_33) + 1 from q_308) (show IMP (((1) : Int) = 1) ((((u5_25 + 3) + tc88_0)) = (u5_25) + 3 + (if bkK ((w14)) ((u5_25)) = 1 then 1 else bkN ((w14)) ((u5_25)))) by assumption) (jc210_5) (jc210_6))
          have hat3 : ((u5_25 + 3)) = (u5_25) + 3 := q_1765
          obtain ⟨f0_at, hf0⟩ : ∃ q : Int, q = ((u5_25 + 3)) := ⟨_, rfl⟩
          refine Ew_of (pcₚ := 111) (fun _ => x_iload_n rfl (rk_o (rk_o (lc88_3) rfl rfl) rfl rfl)) ?_
          refine Ew_of (pcₚ := 112) (fun _ => x_iconst rfl) ?_
          refine w_icmpne (t := 126) rfl rfl (show inr (((z16 / 2) % 4)) from q_1762) (show inr (2) from q_122) (fun b36 => ?_) (fun b36 => ?_)
          · refine Ew_of (pcₚ := 128) (fun _ => x_iload rfl (rk_o (rk_o (lc88_4) rfl rfl) rfl rfl)) ?_
            refine Ew_of (pcₚ := 129) (fun _ => x_aload_n rfl (rk_o (rk_o (lc88_0) rfl rfl) rfl rfl)) ?_
            refine w_gI H (o := 5) (w := u5_26) rfl (H.perm 5 rfl) rfl rfl rfl (fun _ => rfl) ((((hS21 5 26 rfl).trans (hS_c88 5 26 rfl)).trans (hS14 5 26 rfl)).trans (eu5_26)) ?_
            refine Ew_of (pcₚ := 133) (fun _ => x_aload_n rfl (rk_o (rk_o (lc88_0) rfl rfl) rfl rfl)) ?_
            refine w_gI H (o := 5) (w := u5_27) rfl (H.perm 5 rfl) rfl rfl rfl (fun _ => rfl) ((((hS21 5 27 rfl).trans (hS_c88 5 27 rfl)).trans (hS14 5 27 rfl)).trans (eu5_27)) ?_
            refine w_isub rfl ?_
            refine w_icmple (t := 148) rfl rfl (show inr ((z16 / 8)) by omega) (show inr ((u5_26 - u5_27)) from q_1705 h3 r5 r6) (fun b37 => ?_) (fun b37 => ?_)
            · refine Ew_of (pcₚ := 149) (fun _ => x_iconst rfl) ?_
              refine Ew_of (pcₚ := 151) (fun _ => x_istore rfl) ?_
              have : ((((z16 / 2) % 4)) = 1 ∧ sc ((w26)) 0 ((u5_2)) ++ sc ((w45)) ((u5_28)) ((u5_27)) = (sc ((w26)) 0 ((u5_2)) ++ sc ((w45)) ((u5_28)) ((u5_27))) ++ List.replicate (0 : Int).toNat (((w14)) ((u5_25) + 3))) ∨ ((((z16 / 2) % 4)) ≠ 1 ∧ sc ((w26)) 0 ((u5_2)) ++ sc ((w45)) ((u5_28)) ((u5_27)) = (sc ((w26)) 0 ((u5_2)) ++ sc ((w45)) ((u5_28)) ((u5_27))) ++ sc ((w14)) ((u5_25) + 3) ((u5_25) + 3 + 0)) := by rcases (show (((z16 / 2) % 4)) = 1 ∨ (((z16 / 2) % 4)) ≠ 1 by omega) with z | z; (exact .inl ⟨z, by show _ = _ ++ []; rw [List.append_nil]⟩); (exact .inr ⟨z, by rw [sc_nil (f := (w14)) (by omega), List.append_nil]⟩)
              have : FRM ((w45)) ((w45)) ((u5_27)) 65536 := FRM_refl
              suffices hl151 : ∀ (m : Nat), ∀ (ls : rO) (σ : rS) (F_151 : hF) (A_151 : hA) (x151_7 : Int), rlook ls 0 = some (.ref (D 5)) → rlook ls 3 = some (I (((z16 / 2) % 4))) → rlook ls 4 = some (I ((z16 / 8))) → rlook ls 6 = some (I (((u5_25 + 3) + tc88_0))) → rlook ls 7 = some (I (x151_7)) → HS σ0 σ D N F_151 A_151 → SF [(5, 27)] F19 F_151 → SA [45] A20 A_151 → ∀ y151_5_27 : Int, F_151 5 27 = y151_5_27 → ∀ w151_45 : Int → Int, A_151 45 = w151_45 → (inr (x151_7)) → ((0) ≤ (x151_7)) → ((x151_7) ≤ (0) ∨ (x151_7) ≤ (((z16 / 8)))) → ((y151_5_27) = (u5_27) + (x151_7)) → (((((z16 / 2) % 4)) = 1 ∧ sc ((w26)) 0 ((u5_2)) ++ sc ((w151_45)) ((u5_28)) ((y151_5_27)) = (sc ((w26)) 0 ((u5_2)) ++ sc ((w45)) ((u5_28)) ((u5_27))) ++ List.replicate ((x151_7) : Int).toNat (((w14)) ((u5_25) + 3))) ∨ ((((z16 / 2) % 4)) ≠ 1 ∧ sc ((w26)) 0 ((u5_2)) ++ sc ((w151_45)) ((u5_28)) ((y151_5_27)) = (sc ((w26)) 0 ((u5_2)) ++ sc ((w45)) ((u5_28)) ((u5_27))) ++ sc ((w14)) ((u5_25) + 3) ((u5_25) + 3 + (x151_7)))) → (FRM ((w45)) ((w151_45)) ((u5_27)) 65536) → ((((z16 / 8))) - (x151_7)).toNat = m → Ew 288 (d + 7) 151 ls [] σ c s Q from
                hl151 _ _ σ _ _ (0) (rk_o (rk_o (rk_o (lc88_0) rfl rfl) rfl rfl) rfl rfl) (rk_o (rk_o (rk_o (lc88_3) rfl rfl) rfl rfl) rfl rfl) (rk_o (rk_o (rk_o (lc88_4) rfl rfl) rfl rfl) rfl rfl) (rk_o (rk_s) rfl rfl) (rk_s) H (SF_refl) (SA_refl) (u5_27) (((((hS21 5 27 rfl).trans (hS_c88 5 27 rfl)).trans (hS14 5 27 rfl)).trans (eu5_27))) (w45) ((funext (hA22 45 rfl)).trans ((funext (hA_c88 45 rfl)).trans ((funext (hA15 45 rfl)).trans (ew45)))) (show inr (0) from q_2) (show (0) ≤ (0) from q_1) (show (0) ≤ (0) ∨ (0) ≤ (((z16 / 8))) from q_1766) (show (u5_27) = (u5_27) + (0) from q_365) (show ((((z16 / 2) % 4)) = 1 ∧ sc ((w26)) 0 ((u5_2)) ++ sc ((w45)) ((u5_28)) ((u5_27)) = (sc ((w26)) 0 ((u5_2)) ++ sc ((w45)) ((u5_28)) ((u5_27))) ++ List.replicate ((0) : Int).toNat (((w14)) ((u5_25) + 3))) ∨ ((((z16 / 2) % 4)) ≠ 1 ∧ sc ((w26)) 0 ((u5_2)) ++ sc ((w45)) ((u5_28)) ((u5_27)) = (sc ((w26)) 0 ((u5_2)) ++ sc ((w45)) ((u5_28)) ((u5_27))) ++ sc ((w14)) ((u5_25) + 3) ((u5_25) + 3 + (0))) by assumption) (hcf0) rfl
              as_aux_lemma =>
              intro m
              induction m using Nat.strongRecOn with
              | _ m ih151 =>
                intro ls σ F_151 A_151 x151_7 l151_0 l151_3 l151_4 l151_6 l151_7 H hS_151 hA_151 y151_5_27 ey151_5_27 w151_45 ew151_45 j151_0 j151_1 j151_2 j151_3 j151_4 j151_5 hm151
                have r38 : (0 : Int) ≤ y151_5_27 ∧ y151_5_27 ≤ 65536 := rngE (show (0 : Int) ≤ F_151 5 27 ∧ F_151 5 27 ≤ 65536 from H.frng 5 27) (show F_151 5 27 = y151_5_27 from (ey151_5_27))
                have j151_l : ((((z16 / 2) % 4)) = 1 ∧ sc ((w26)) 0 ((u5_2)) ++ sc ((w151_45)) ((u5_28)) ((y151_5_27)) = (sc ((w26)) 0 ((u5_2)) ++ sc ((w45)) ((u5_28)) ((u5_27))) ++ List.replicate ((x151_7) : Int).toNat (((w14)) ((u5_25) + 3))) ∨ ((((z16 / 2) % 4)) ≠ 1 ∧ sc ((w26)) 0 ((u5_2)) ++ sc ((w151_45)) ((u5_28)) ((y151_5_27)) = (sc ((w26)) 0 ((u5_2)) ++ sc ((w45)) ((u5_28)) ((u5_27))) ++ sc ((w14)) ((u5_25) + 3) ((u5_25) + 3 + (x151_7))) := by assumption
                refine Ew_of (pcₚ := 153) (fun _ => x_iload rfl l151_7) ?_
                refine Ew_of (pcₚ := 155) (fun _ => x_iload rfl l151_4) ?_
                refine w_icmpge (t := 210) rfl rfl (show inr (x151_7) from j151_0) (show inr ((z16 / 8)) by omega) (fun b39 => ?_) (fun b39 => ?_)
                · have : PKA (BLF ((w14)) ((u5_25)) ((u1_1)) ((u5_2)) (wnF ((u5_35))) ((u5_29)) ((u5_26) - (u5_27)) (sc ((w26)) 0 ((u5_2)) ++ sc ((w45)) ((u5_28)) ((u5_27))) ((u5_10), GG) tb (((w38)) 0) (((w38)) 1) (((w38)) 2)) (1) ((y24)) ((y26)) ((u5_34)) ((u5_34)) (sc ((w26)) 0 ((u5_2)) ++ sc ((w151_45)) ((u5_28)) ((y151_5_27))) ((w35)) ((w36)) ((w37)) ((w34)) ((w38)) ((u5_10)) ((w31)) ((w32)) := by first | exact PKA_e hb2 (by have h := pzMISS_5; rw [show zMISS = 1 by omega] at h; first | exact h | (rw [← hf0, show f0_at = (u5_25) + 3 by omega] at h; exact h)) | (rcases j151_l with ⟨z, w⟩ | ⟨z, w⟩; (rw [show x151_7 = bkN ((w14)) ((u5_25)) by omega] at w; exact PKA_y (BL_0 (b := 1) (by omega) (by omega) (.inl ⟨by omega, by omega, rfl⟩) (by omega) (by omega)) rfl (by omega) w hrta rfl rfl rfl rfl hrco); (rw [show x151_7 = bkN ((w14)) ((u5_25)) by omega] at w; exact PKA_y (BL_0 (b := bkN ((w14)) ((u5_25))) (by omega) (by omega) (.inr ⟨by omega, rfl, rfl⟩) (by omega) (by omega)) rfl (by omega) w hrta rfl rfl rfl rfl hrco))
                  exact hc210  _ σ _ _  (l151_0) (l151_6) H (SF_trans (SF_refl) hS_151 (any_sub rfl)) (SA_trans (SA_refl) hA_151 (any_subA rfl)) (u5_10) ((((((hS_151 5 10 rfl).trans (hS21 5 10 rfl)).trans (hS_c88 5 10 rfl)).trans (hS14 5 10 rfl)).trans (eu5_10))) (y151_5_27) ((ey151_5_27)) (y24) (((hS_151 5 30 rfl).trans (ey25))) (y26) (((hS_151 5 31 rfl).trans (ey27))) (u5_34) ((((((hS_151 5 34 rfl).trans (hS21 5 34 rfl)).trans (hS_c88 5 34 rfl)).trans (hS14 5 34 rfl)).trans (eu5_34))) (w31) ((funext (hA_151 31 rfl)).trans ((funext (hA22 31 rfl)).trans ((funext (hA_c88 31 rfl)).trans ((funext (hA15 31 rfl)).trans (ew31))))) (w32) ((funext (hA_151 32 rfl)).trans ((funext (hA22 32 rfl)).trans ((funext (hA_c88 32 rfl)).trans ((funext (hA15 32 rfl)).trans (ew32))))) (w34) ((funext (hA_151 34 rfl)).trans ((funext (hA22 34 rfl)).trans ((funext (hA_c88 34 rfl)).trans ((funext (hA15 34 rfl)).trans (ew34))))) (w35) ((funext (hA_151 35 rfl)).trans ((funext (hA22 35 rfl)).trans ((funext (hA_c88 35 rfl)).trans ((funext (hA15 35 rfl)).trans (ew35))))) (w36) ((funext (hA_151 36 rfl)).trans ((funext (hA22 36 rfl)).trans ((funext (hA_c88 36 rfl)).trans ((funext (hA15 36 rfl)).trans (ew36))))) (w37) ((funext (hA_151 37 rfl)).trans ((funext (hA22 37 rfl)).trans ((funext (hA_c88 37 rfl)).trans ((funext (hA15 37 rfl)).trans (ew37))))) (w38) ((funext (hA_151 38 rfl)).trans ((funext (hA22 38 rfl)).trans ((funext (hA_c88 38 rfl)).trans ((funext (hA15 38 rfl)).trans (ew38))))) (w151_45) (ew151_45) (show (u5_28) ≤ (y151_5_27) ∧ (y151_5_27) ≤ (u5_26) by omega) (show (u5_27) ≤ (y151_5_27) from q_1768 j151_1 j151_3) (h1) (show 1 ≤ ((w38)) 0 ∧ 1 ≤ ((w38)) 1 ∧ 1 ≤ ((w38)) 2 from h2) (show 0 ≤ (u5_34) ∧ (u5_34) ≤ (y151_5_27) from q_1767 h7 j151_1 j151_3) (show PKA (BLF ((w14)) ((u5_25)) ((u1_1)) ((u5_2)) (wnF ((u5_35))) ((u5_29)) ((u5_26) - (u5_27)) (sc ((w26)) 0 ((u5_2)) ++ sc ((w45)) ((u5_28)) ((u5_27))) ((u5_10), GG) tb (((w38)) 0) (((w38)) 1) (((w38)) 2)) (1) ((y24)) ((y26)) ((u5_34)) ((u5_34)) (sc ((w26)) 0 ((u5_2)) ++ sc ((w151_45)) ((u5_28)) ((y151_5_27))) ((w35)) ((w36)) ((w37)) ((w34)) ((w38)) ((u5_10)) ((w31)) ((w32)) by assumption) (j151_5)
                · refine Ew_of (pcₚ := 159) (fun _ => x_aload_n rfl l151_0) ?_
                  refine w_gT H (o := 5) (t := 45) rfl (H.perm 5 rfl) rfl rfl rfl rfl rfl rfl ?_
                  refine Ew_of (pcₚ := 163) (fun _ => x_aload_n rfl l151_0) ?_
                  refine w_gI H (o := 5) (w := y151_5_27) rfl (H.perm 5 rfl) rfl rfl rfl (fun _ => rfl) (ey151_5_27) ?_
                  refine Ew_of (pcₚ := 167) (fun _ => x_aload_n rfl l151_0) ?_
                  refine w_gT H (o := 5) (t := 1) rfl (H.perm 5 rfl) rfl rfl rfl rfl rfl rfl ?_
                  refine w_gT H (o := 1) (t := 14) rfl (H.perm 1 rfl) rfl rfl rfl rfl rfl rfl ?_
                  refine Ew_of (pcₚ := 174) (fun _ => x_iload_n rfl l151_3) ?_
                  refine Ew_of (pcₚ := 175) (fun _ => x_iconst rfl) ?_
                  have hc192 : ∀ (tc192_0 : Int), ∀ (ls : rO) (σ : rS) (F_c192 : hF) (A_c192 : hA) , rlook ls 0 = some (.ref (D 5)) → rlook ls 3 = some (I (((z16 / 2) % 4))) → rlook ls 4 = some (I ((z16 / 8))) → rlook ls 6 = some (I (((u5_25 + 3) + tc88_0))) → rlook ls 7 = some (I (x151_7)) → HS σ0 σ D N F_c192 A_c192 → SF [] F_151 F_c192 → SA [] A_151 A_c192 → (inr (tc192_0)) → (((((z16 / 2) % 4)) ≠ (1) ∧ 0 ≤ ((u5_25 + 3)) ∧ ((u5_25 + 3)) ≤ 65536 ∧ (tc192_0) = (((u5_25 + 3) + x151_7))) ∨ ((((z16 / 2) % 4)) = (1) ∧ 0 ≤ ((u5_25 + 3)) ∧ ((u5_25 + 3)) ≤ 65536 ∧ (tc192_0) = ((u5_25 + 3)))) → Ew 288 (d + 7) 192 ls [I (tc192_0), .ref (D 14), I (y151_5_27), .ref (D 45)] σ c s Q := by
                   as_aux_lemma =>
                    intro tc192_0 ls σ F_c192 A_c192  lc192_0 lc192_3 lc192_4 lc192_6 lc192_7 H hS_c192 hA_c192   jc192_0 jc192_1
                    obtain ⟨qi, hqi⟩ : ∃ q : Int, q = (tc192_0) := ⟨_, rfl⟩
                    refine w_lI H (o := 14) (n := 65536) rfl (H.perm 14 rfl) rfl rfl (H.fix 14 rfl rfl) (show 0 ≤ tc192_0 ∧ tc192_0 < ((65536 : Nat) : Int) by omega) (by decide) (fun v40 ev40 qv40 => ?_)
                    have qv40 : (0 : Int) ≤ v40 ∧ v40 ≤ 255 := qv40
                    have ev40 : (w14) (tc192_0) = v40 := (congrFun ((funext (hA_c192 14 rfl)).trans ((funext (hA_151 14 rfl)).trans ((funext (hA22 14 rfl)).trans ((funext (hA_c88 14 rfl)).trans ((funext (hA15 14 rfl)).trans (ew14)))))) (tc192_0)).symm.trans ev40
                    have hv9 := ev40
                    rw [← hqi] at hv9
                    refine w_sI H (o := 45) (n := 65536) rfl (H.perm 45 rfl) rfl rfl (H.fix 45 rfl rfl) (show 0 ≤ y151_5_27 ∧ y151_5_27 < ((65536 : Nat) : Int) from q_1769 b37 b39 j151_3 r38 r5) (by decide) (show (0 : Int) ≤ v40 ∧ v40 ≤ 255 from qv40) (fun σ H => ?_)
                    refine Ew_of (pcₚ := 195) (fun _ => x_aload_n rfl lc192_0) ?_
                    refine Ew_of (pcₚ := 196) (fun _ => x_dup rfl rfl) ?_
                    refine w_gI H (o := 5) (w := y151_5_27) rfl (H.perm 5 rfl) rfl rfl rfl (fun _ => rfl) ((hS_c192 5 27 rfl).trans (ey151_5_27)) ?_
                    refine Ew_of (pcₚ := 200) (fun _ => x_iconst rfl) ?_
                    refine w_iadd rfl ?_
                    refine w_pI H (o := 5) rfl rfl (H.perm 5 rfl) rfl rfl rfl (fun _ => rfl) rfl (show (0 : Int) ≤ (y151_5_27 + 1) ∧ (y151_5_27 + 1) ≤ 65536 from q_1770 b37 b39 j151_3 r38 r5) (fun σ H => ?_)
                    refine Ew_of (pcₚ := 207) (fun _ => x_iinc (len := 3) rfl (lc192_7)) ?_
                    refine Ew_of (pcₚ := 151) (fun _ => x_goto rfl rfl) ?_
                    have : ((((z16 / 2) % 4)) = 1 ∧ sc ((w26)) 0 ((u5_2)) ++ sc ((upd1 (w151_45) (y151_5_27) (v40))) ((u5_28)) (((y151_5_27 + 1))) = (sc ((w26)) 0 ((u5_2)) ++ sc ((w45)) ((u5_28)) ((u5_27))) ++ List.replicate (((x151_7 + 1)) : Int).toNat (((w14)) ((u5_25) + 3))) ∨ ((((z16 / 2) % 4)) ≠ 1 ∧ sc ((w26)) 0 ((u5_2)) ++ sc ((upd1 (w151_45) (y151_5_27) (v40))) ((u5_28)) (((y151_5_27 + 1))) = (sc ((w26)) 0 ((u5_2)) ++ sc ((w45)) ((u5_28)) ((u5_27))) ++ sc ((w14)) ((u5_25) + 3) ((u5_25) + 3 + ((x151_7 + 1)))) := by rcases j151_l with ⟨z, w⟩ | ⟨z, w⟩; (exact .inl ⟨z, WD_r w (by omega) (by omega) (by rw [← hv9, show qi = (u5_25) + 3 by omega]) (by omega) (by omega) rfl⟩); (exact .inr ⟨z, WD_s w (by omega) (by omega) (by rw [← hv9]; congr 1; omega) (by omega) (by omega)⟩)
                    have : FRM ((w45)) ((upd1 (w151_45) (y151_5_27) (v40))) ((u5_27)) 65536 := FRM_upd (by assumption) (by omega) (by omega)
                    exact ih151 _ (msE hm151 q_1773 (q_1774 b39)) _ σ _ _ ((x151_7 + 1)) (rk_o (lc192_0) rfl rfl) (rk_o (lc192_3) rfl rfl) (rk_o (lc192_4) rfl rfl) (rk_o (lc192_6) rfl rfl) (rk_s) H (SF_upd (SF_trans (hS_151) hS_c192 (any_sub rfl)) rfl) (SA_upd (SA_trans (hA_151) hA_c192 (any_subA rfl)) rfl) ((y151_5_27 + 1)) (rfl) (upd1 (w151_45) (y151_5_27) (v40)) (congrArg (fun q => upd1 q (y151_5_27) (v40)) ((funext (hA_c192 45 rfl)).trans (ew151_45))) (show inr ((x151_7 + 1)) from q_1772 j151_1 j151_3 r38 r6) (show (0) ≤ ((x151_7 + 1)) from q_14 j151_1) (show ((x151_7 + 1)) ≤ (0) ∨ ((x151_7 + 1)) ≤ (((z16 / 8))) from q_1771 b39) (show ((y151_5_27 + 1)) = (u5_27) + ((x151_7 + 1)) from q_541 j151_3) (show ((((z16 / 2) % 4)) = 1 ∧ sc ((w26)) 0 ((u5_2)) ++ sc ((upd1 (w151_45) (y151_5_27) (v40))) ((u5_28)) (((y151_5_27 + 1))) = (sc ((w26)) 0 ((u5_2)) ++ sc ((w45)) ((u5_28)) ((u5_27))) ++ List.replicate (((x151_7 + 1)) : Int).toNat (((w14)) ((u5_25) + 3))) ∨ ((((z16 / 2) % 4)) ≠ 1 ∧ sc ((w26)) 0 ((u5_2)) ++ sc ((upd1 (w151_45) (y151_5_27) (v40))) ((u5_28)) (((y151_5_27 + 1))) = (sc ((w26)) 0 ((u5_2)) ++ sc ((w45)) ((u5_28)) ((u5_27))) ++ sc ((w14)) ((u5_25) + 3) ((u5_25) + 3 + ((x151_7 + 1)))) by assumption) (show FRM ((w45)) ((upd1 (w151_45) (y151_5_27) (v40))) ((u5_27)) 65536 by assumption) rfl
                  refine w_icmpne (t := 185) rfl rfl (show inr (((z16 / 2) % 4)) from q_1762) (show inr (1) from q_135) (fun b41 => ?_) (fun b41 => ?_)
                  · refine Ew_of (pcₚ := 186) (fun _ => x_aload_n rfl l151_0) ?_
                    refine w_gI H (o := 5) (w := (u5_25 + 3)) rfl (H.perm 5 rfl) rfl rfl rfl (fun _ => rfl) (((hS_151 5 25 rfl).trans (hS21 5 25 rfl)).trans (hS_c88 5 25 rfl)) ?_
                    refine Ew_of (pcₚ := 191) (fun _ => x_iload rfl l151_7) ?_
                    refine w_iadd rfl ?_
                    exact hc192 (((u5_25 + 3) + x151_7)) _ σ _ _  (l151_0) (l151_3) (l151_4) (l151_6) (l151_7) H (SF_refl) (SA_refl)   (show inr (((u5_25 + 3) + x151_7)) from q_1776 j151_1 j151_3 r38 r4 r6) (show ((((z16 / 2) % 4)) ≠ (1) ∧ 0 ≤ ((u5_25 + 3)) ∧ ((u5_25 + 3)) ≤ 65536 ∧ (((u5_25 + 3) + x151_7)) = (((u5_25 + 3) + x151_7))) ∨ ((((z16 / 2) % 4)) = (1) ∧ 0 ≤ ((u5_25 + 3)) ∧ ((u5_25 + 3)) ≤ 65536 ∧ (((u5_25 + 3) + x151_7)) = ((u5_25 + 3))) from q_1775 b41 h0 r1 r4)
                  · refine Ew_of (pcₚ := 179) (fun _ => x_aload_n rfl l151_0) ?_
                    refine w_gI H (o := 5) (w := (u5_25 + 3)) rfl (H.perm 5 rfl) rfl rfl rfl (fun _ => rfl) (((hS_151 5 25 rfl).trans (hS21 5 25 rfl)).trans (hS_c88 5 25 rfl)) ?_
                    refine Ew_of (pcₚ := 192) (fun _ => x_goto rfl rfl) ?_
                    exact hc192 ((u5_25 + 3)) _ σ _ _  (l151_0) (l151_3) (l151_4) (l151_6) (l151_7) H (SF_refl) (SA_refl)   (show inr ((u5_25 + 3)) from q_1778 r4) (show ((((z16 / 2) % 4)) ≠ (1) ∧ 0 ≤ ((u5_25 + 3)) ∧ ((u5_25 + 3)) ≤ 65536 ∧ ((u5_25 + 3)) = (((u5_25 + 3) + x151_7))) ∨ ((((z16 / 2) % 4)) = (1) ∧ 0 ≤ ((u5_25 + 3)) ∧ ((u5_25 + 3)) ≤ 65536 ∧ ((u5_25 + 3)) = ((u5_25 + 3))) from q_1777 b41 h0 hat3 r1 r4)
            · refine Ew_of (pcₚ := 141) (fun _ => x_aload_n rfl (rk_o (rk_o (lc88_0) rfl rfl) rfl rfl)) ?_
              refine Ew_of (pcₚ := 143) (fun _ => x_bipush (z := 7) rfl (by decide)) ?_
              refine Ew_of (pcₚ := 144) (fun _ => x_iload_n rfl (rk_o (rk_o (lc88_1) rfl rfl) rfl rfl)) ?_
              refine w_inv H (o := 5) rfl rfl rfl (H.perm 5 rfl) rfl rfl (by rfl) (M282 H (show inr (7) from q_597) (show inr (u5_25) from q_286 r4) (show 0 ≤ (7) ∧ (7) ≤ 20 from q_1712) (show 0 ≤ (u5_25) ∧ (u5_25) ≤ 65536 from r4) (fun z46 σ F42 A43 H hS44 hA45 y47 ey48 y49 ey50 pz46_0 pz46_1 pz46_2 pz46_3 => ⟨rretB rfl pz46_0, ?_⟩))
              have r51 : (0 : Int) ≤ y47 ∧ y47 ≤ 20 := rngE (show (0 : Int) ≤ F42 5 30 ∧ F42 5 30 ≤ 20 from H.frng 5 30) (show F42 5 30 = y47 from (ey48))
              have r52 : (0 : Int) ≤ y49 ∧ y49 ≤ 65536 := rngE (show (0 : Int) ≤ F42 5 31 ∧ F42 5 31 ≤ 65536 from H.frng 5 31) (show F42 5 31 = y49 from (ey50))
              have : IMP (((z46) : Int) = 1) (((u5_25 + 3)) = (u5_25) + 3 + (if bkK ((w14)) ((u5_25)) = 1 then 1 else bkN ((w14)) ((u5_25)))) := by first | exact fun h => absurd h (by decide) | exact fun h => absurd h (by omega)
              have : PKA (BLF ((w14)) ((u5_25)) ((u1_1)) ((u5_2)) (wnF ((u5_35))) ((u5_29)) ((u5_26) - (u5_27)) (sc ((w26)) 0 ((u5_2)) ++ sc ((w45)) ((u5_28)) ((u5_27))) ((u5_10), GG) tb (((w38)) 0) (((w38)) 1) (((w38)) 2)) ((z46)) ((y47)) ((y49)) ((u5_34)) ((u5_34)) (sc ((w26)) 0 ((u5_2)) ++ sc ((w45)) ((u5_28)) ((u5_27))) ((w35)) ((w36)) ((w37)) ((w34)) ((w38)) ((u5_10)) ((w31)) ((w32)) := PKA_f (BL_7 (by omega) (by omega) hb5 (by omega) (by omega)) (by decide) (by omega) (by omega) (by omega) (by omega) rfl
              exact w_ireturn rfl (k (z46) σ _ _ H (SF_trans (SF_trans (SF_trans (SF_upd (SF_trans (SF_upd (SF_refl) rfl) hS14 (any_sub rfl)) rfl) hS_c88 (any_sub rfl)) hS21 (any_sub rfl)) hS44 (any_sub rfl)) (SA_trans (SA_trans (SA_trans (SA_trans (SA_refl) hA15 (any_subA rfl)) hA_c88 (any_subA rfl)) hA22 (any_subA rfl)) hA45 (any_subA rfl)) (u5_10) ((((((hS44 5 10 rfl).trans (hS21 5 10 rfl)).trans (hS_c88 5 10 rfl)).trans (hS14 5 10 rfl)).trans (eu5_10))) ((u5_25 + 3)) ((((hS44 5 25 rfl).trans (hS21 5 25 rfl)).trans (hS_c88 5 25 rfl))) (u5_27) ((((((hS44 5 27 rfl).trans (hS21 5 27 rfl)).trans (hS_c88 5 27 rfl)).trans (hS14 5 27 rfl)).trans (eu5_27))) (y47) ((ey48)) (y49) ((ey50)) ((u5_33 + 1)) (((((hS44 5 33 rfl).trans (hS21 5 33 rfl)).trans (hS_c88 5 33 rfl)).trans (hS14 5 33 rfl))) (u5_34) ((((((hS44 5 34 rfl).trans (hS21 5 34 rfl)).trans (hS_c88 5 34 rfl)).trans (hS14 5 34 rfl)).trans (eu5_34))) (w31) ((funext (hA45 31 rfl)).trans ((funext (hA22 31 rfl)).trans ((funext (hA_c88 31 rfl)).trans ((funext (hA15 31 rfl)).trans (ew31))))) (w32) ((funext (hA45 32 rfl)).trans ((funext (hA22 32 rfl)).trans ((funext (hA_c88 32 rfl)).trans ((funext (hA15 32 rfl)).trans (ew32))))) (w34) ((funext (hA45 34 rfl)).trans ((funext (hA22 34 rfl)).trans ((funext (hA_c88 34 rfl)).trans ((funext (hA15 34 rfl)).trans (ew34))))) (w35) ((funext (hA45 35 rfl)).trans ((funext (hA22 35 rfl)).trans ((funext (hA_c88 35 rfl)).trans ((funext (hA15 35 rfl)).trans (ew35))))) (w36) ((funext (hA45 36 rfl)).trans ((funext (hA22 36 rfl)).trans ((funext (hA_c88 36 rfl)).trans ((funext (hA15 36 rfl)).trans (ew36))))) (w37) ((funext (hA45 37 rfl)).trans ((funext (hA22 37 rfl)).trans ((funext (hA_c88 37 rfl)).trans ((funext (hA15 37 rfl)).trans (ew37))))) (w38) ((funext (hA45 38 rfl)).trans ((funext (hA22 38 rfl)).trans ((funext (hA_c88 38 rfl)).trans ((funext (hA15 38 rfl)).trans (ew38))))) (w45) ((funext (hA45 45 rfl)).trans ((funext (hA22 45 rfl)).trans ((funext (hA_c88 45 rfl)).trans ((funext (hA15 45 rfl)).trans (ew45))))) (show (z46) = 0 ∨ (z46) = 1 from pz46_0) (h1) (show (u5_27) ≤ (u5_27) ∧ (u5_27) ≤ (u5_26) from q_1024 h3) (show (z46) = 1 → 1 ≤ ((w38)) 0 ∧ 1 ≤ ((w38)) 1 ∧ 1 ≤ ((w38)) 2 from q_1698 h2) (show (z46) = 1 → (u5_25) + 3 ≤ ((u5_25 + 3)) ∧ ((u5_25 + 3)) ≤ (u1_1) from q_1779 h0) (show 0 ≤ (u5_34) ∧ (u5_34) ≤ (u5_27) from h7) (show ((u5_33 + 1)) = (u5_33) + 1 from q_308) (show IMP (((z46) : Int) = 1) (((u5_25 + 3)) = (u5_25) + 3 + (if bkK ((w14)) ((u5_25)) = 1 then 1 else bkN ((w14)) ((u5_25)))) by assumption) (show PKA (BLF ((w14)) ((u5_25)) ((u1_1)) ((u5_2)) (wnF ((u5_35))) ((u5_29)) ((u5_26) - (u5_27)) (sc ((w26)) 0 ((u5_2)) ++ sc ((w45)) ((u5_28)) ((u5_27))) ((u5_10), GG) tb (((w38)) 0) (((w38)) 1) (((w38)) 2)) ((z46)) ((y47)) ((y49)) ((u5_34)) ((u5_34)) (sc ((w26)) 0 ((u5_2)) ++ sc ((w45)) ((u5_28)) ((u5_27))) ((w35)) ((w36)) ((w37)) ((w34)) ((w38)) ((u5_10)) ((w31)) ((w32)) by assumption) (hcf0))
          · refine Ew_of (pcₚ := 116) (fun _ => x_aload_n rfl (rk_o (rk_o (lc88_0) rfl rfl) rfl rfl)) ?_
            refine Ew_of (pcₚ := 118) (fun _ => x_iload rfl rk_s) ?_
            have hb2 : BLF ((w14)) ((u5_25)) ((u1_1)) ((u5_2)) (wnF ((u5_35))) ((u5_29)) ((u5_26) - (u5_27)) (sc ((w26)) 0 ((u5_2)) ++ sc ((w45)) ((u5_28)) ((u5_27))) ((u5_10), GG) tb (((w38)) 0) (((w38)) 1) (((w38)) 2) = PBF ((w14)) ((u5_25) + 3) ((((u5_25 + 3) + tc88_0))) ((u5_2)) (wnF ((u5_35))) ((u5_29)) ((u5_26) - (u5_27)) (sc ((w26)) 0 ((u5_2)) ++ sc ((w45)) ((u5_28)) ((u5_27))) ((u5_10), GG) tb (((w38)) 0) (((w38)) 1) (((w38)) 2) := BL_2 (by omega) (by omega) (by omega) (by omega)
            refine w_inv H (o := 5) rfl rfl rfl (H.perm 5 rfl) rfl rfl (by rfl) (M289 H (u1_1) (((((hS21 1 1 rfl).trans (hS_c88 1 1 rfl)).trans (hS14 1 1 rfl)).trans (eu1_1))) (u5_2) (((((hS21 5 2 rfl).trans (hS_c88 5 2 rfl)).trans (hS14 5 2 rfl)).trans (eu5_2))) (u5_10) (((((hS21 5 10 rfl).trans (hS_c88 5 10 rfl)).trans (hS14 5 10 rfl)).trans (eu5_10))) ((u5_25 + 3)) (((hS21 5 25 rfl).trans (hS_c88 5 25 rfl))) (u5_26) (((((hS21 5 26 rfl).trans (hS_c88 5 26 rfl)).trans (hS14 5 26 rfl)).trans (eu5_26))) (u5_27) (((((hS21 5 27 rfl).trans (hS_c88 5 27 rfl)).trans (hS14 5 27 rfl)).trans (eu5_27))) (u5_28) (((((hS21 5 28 rfl).trans (hS_c88 5 28 rfl)).trans (hS14 5 28 rfl)).trans (eu5_28))) (u5_29) (((((hS21 5 29 rfl).trans (hS_c88 5 29 rfl)).trans (hS14 5 29 rfl)).trans (eu5_29))) (u5_34) (((((hS21 5 34 rfl).trans (hS_c88 5 34 rfl)).trans (hS14 5 34 rfl)).trans (eu5_34))) (u5_35) (((((hS21 5 35 rfl).trans (hS_c88 5 35 rfl)).trans (hS14 5 35 rfl)).trans (eu5_35))) (w14) ((funext (hA22 14 rfl)).trans ((funext (hA_c88 14 rfl)).trans ((funext (hA15 14 rfl)).trans (ew14)))) (w26) ((funext (hA22 26 rfl)).trans ((funext (hA_c88 26 rfl)).trans ((funext (hA15 26 rfl)).trans (ew26)))) (w31) ((funext (hA22 31 rfl)).trans ((funext (hA_c88 31 rfl)).trans ((funext (hA15 31 rfl)).trans (ew31)))) (w32) ((funext (hA22 32 rfl)).trans ((funext (hA_c88 32 rfl)).trans ((funext (hA15 32 rfl)).trans (ew32)))) (w34) ((funext (hA22 34 rfl)).trans ((funext (hA_c88 34 rfl)).trans ((funext (hA15 34 rfl)).trans (ew34)))) (w35) ((funext (hA22 35 rfl)).trans ((funext (hA_c88 35 rfl)).trans ((funext (hA15 35 rfl)).trans (ew35)))) (w36) ((funext (hA22 36 rfl)).trans ((funext (hA_c88 36 rfl)).trans ((funext (hA15 36 rfl)).trans (ew36)))) (w37) ((funext (hA22 37 rfl)).trans ((funext (hA_c88 37 rfl)).trans ((funext (hA15 37 rfl)).trans (ew37)))) (w38) ((funext (hA22 38 rfl)).trans ((funext (hA_c88 38 rfl)).trans ((funext (hA15 38 rfl)).trans (ew38)))) (w45) ((funext (hA22 45 rfl)).trans ((funext (hA_c88 45 rfl)).trans ((funext (hA15 45 rfl)).trans (ew45)))) (tb) (GG) (show inr (((u5_25 + 3) + tc88_0)) from q_1780 b30 jc88_0 pz23_0 pz23_1 r1 r4) (show 0 ≤ ((u5_25 + 3)) ∧ ((u5_25 + 3)) ≤ (((u5_25 + 3) + tc88_0)) ∧ (((u5_25 + 3) + tc88_0)) ≤ (u1_1) by omega) (h1) (show 1 ≤ ((w38)) 0 ∧ 1 ≤ ((w38)) 1 ∧ 1 ≤ ((w38)) 2 from h2) (show (u5_28) ≤ (u5_27) ∧ (u5_27) ≤ (u5_26) from h3) (hrta) (hrco) (show 0 ≤ (u5_34) ∧ (u5_34) ≤ (u5_27) from h7) (fun z57 σ F53 A54 H hS55 hA56 y58 ey59 y60 ey61 y62 ey63 y64 ey65 y66 ey67 wq68 ewq69 wq70 ewq71 wq72 ewq73 wq74 ewq75 wq76 ewq77 wq78 ewq79 wq80 ewq81 wq82 ewq83 pz57_0 pz57_1 pz57_2 pz57_3 pz57_4 pz57_5 pz57_6 => ⟨rretB rfl pz57_0, ?_⟩))
            have r84 : (0 : Int) ≤ y58 ∧ y58 ≤ 11 := rngE (show (0 : Int) ≤ F53 5 10 ∧ F53 5 10 ≤ 11 from H.frng 5 10) (show F53 5 10 = y58 from (ey59))
            have r85 : (0 : Int) ≤ y60 ∧ y60 ≤ 65536 := rngE (show (0 : Int) ≤ F53 5 27 ∧ F53 5 27 ≤ 65536 from H.frng 5 27) (show F53 5 27 = y60 from (ey61))
            have r86 : (0 : Int) ≤ y62 ∧ y62 ≤ 20 := rngE (show (0 : Int) ≤ F53 5 30 ∧ F53 5 30 ≤ 20 from H.frng 5 30) (show F53 5 30 = y62 from (ey63))
            have r87 : (0 : Int) ≤ y64 ∧ y64 ≤ 65536 := rngE (show (0 : Int) ≤ F53 5 31 ∧ F53 5 31 ≤ 65536 from H.frng 5 31) (show F53 5 31 = y64 from (ey65))
            have r88 : (-2147483648 : Int) ≤ y66 ∧ y66 ≤ 2147483647 := rngE (show (-2147483648 : Int) ≤ F53 5 34 ∧ F53 5 34 ≤ 2147483647 from H.frng 5 34) (show F53 5 34 = y66 from (ey67))
            refine w_ifne (t := 210) rfl rfl (show inr (z57) from q_138 pz57_0) (fun b89 => ?_) (fun b89 => ?_)
            · have : PKA (BLF ((w14)) ((u5_25)) ((u1_1)) ((u5_2)) (wnF ((u5_35))) ((u5_29)) ((u5_26) - (u5_27)) (sc ((w26)) 0 ((u5_2)) ++ sc ((w45)) ((u5_28)) ((u5_27))) ((u5_10), GG) tb (((w38)) 0) (((w38)) 1) (((w38)) 2)) (1) ((y62)) ((y64)) ((u5_34)) ((y66)) (sc ((w26)) 0 ((u5_2)) ++ sc ((wq82)) ((u5_28)) ((y60))) ((wq74)) ((wq76)) ((wq78)) ((wq72)) ((wq80)) ((y58)) ((wq68)) ((wq70)) := by first | exact PKA_e hb2 (by have h := pz57_5; rw [show z57 = 1 by omega] at h; first | exact h | (rw [← hf0, show f0_at = (u5_25) + 3 by omega] at h; exact h)) | (rcases j151_l with ⟨z, w⟩ | ⟨z, w⟩; (rw [show x151_7 = bkN ((w14)) ((u5_25)) by omega] at w; exact PKA_y (BL_0 (b := 1) (by omega) (by omega) (.inl ⟨by omega, by omega, rfl⟩) (by omega) (by omega)) rfl (by omega) w hrta rfl rfl rfl rfl hrco); (rw [show x151_7 = bkN ((w14)) ((u5_25)) by omega] at w; exact PKA_y (BL_0 (b := bkN ((w14)) ((u5_25))) (by omega) (by omega) (.inr ⟨by omega, rfl, rfl⟩) (by omega) (by omega)) rfl (by omega) w hrta rfl rfl rfl rfl hrco))
              exact hc210  _ σ _ _  (rk_o (rk_o (lc88_0) rfl rfl) rfl rfl) (rk_s) H (SF_trans (SF_refl) hS55 (any_sub rfl)) (SA_trans (SA_refl) hA56 (any_subA rfl)) (y58) ((ey59)) (y60) ((ey61)) (y62) ((ey63)) (y64) ((ey65)) (y66) ((ey67)) (wq68) (ewq69) (wq70) (ewq71) (wq72) (ewq73) (wq74) (ewq75) (wq76) (ewq77) (wq78) (ewq79) (wq80) (ewq81) (wq82) (ewq83) (show (u5_28) ≤ (y60) ∧ (y60) ≤ (u5_26) from q_754 h3 pz57_2) (show (u5_27) ≤ (y60) from q_1707 pz57_2) (pz57_1) (show 1 ≤ ((wq80)) 0 ∧ 1 ≤ ((wq80)) 1 ∧ 1 ≤ ((wq80)) 2 from q_1781 b89 pz57_0 pz57_3) (show 0 ≤ (y66) ∧ (y66) ≤ (y60) from pz57_4) (show PKA (BLF ((w14)) ((u5_25)) ((u1_1)) ((u5_2)) (wnF ((u5_35))) ((u5_29)) ((u5_26) - (u5_27)) (sc ((w26)) 0 ((u5_2)) ++ sc ((w45)) ((u5_28)) ((u5_27))) ((u5_10), GG) tb (((w38)) 0) (((w38)) 1) (((w38)) 2)) (1) ((y62)) ((y64)) ((u5_34)) ((y66)) (sc ((w26)) 0 ((u5_2)) ++ sc ((wq82)) ((u5_28)) ((y60))) ((wq74)) ((wq76)) ((wq78)) ((wq72)) ((wq80)) ((y58)) ((wq68)) ((wq70)) by assumption) (pz57_6)
            · refine Ew_of (pcₚ := 125) (fun _ => x_iconst rfl) ?_
              have r90 : (0 : Int) ≤ F53 5 25 ∧ F53 5 25 ≤ 65536 := H.frng 5 25
              have : IMP (((0) : Int) = 1) ((F53 5 25) = (u5_25) + 3 + (if bkK ((w14)) ((u5_25)) = 1 then 1 else bkN ((w14)) ((u5_25)))) := by first | exact fun h => absurd h (by decide) | exact fun h => absurd h (by omega)
              have : PKA (BLF ((w14)) ((u5_25)) ((u1_1)) ((u5_2)) (wnF ((u5_35))) ((u5_29)) ((u5_26) - (u5_27)) (sc ((w26)) 0 ((u5_2)) ++ sc ((w45)) ((u5_28)) ((u5_27))) ((u5_10), GG) tb (((w38)) 0) (((w38)) 1) (((w38)) 2)) ((0)) ((y62)) ((y64)) ((u5_34)) ((y66)) (sc ((w26)) 0 ((u5_2)) ++ sc ((wq82)) ((u5_28)) ((y60))) ((wq74)) ((wq76)) ((wq78)) ((wq72)) ((wq80)) ((y58)) ((wq68)) ((wq70)) := PKA_e hb2 (by have h := pz57_5; rw [show z57 = 0 by omega] at h; first | exact h | (rw [← hf0, show f0_at = (u5_25) + 3 by omega] at h; exact h))
              exact w_ireturn rfl (k (0) σ _ _ H (SF_trans (SF_trans (SF_trans (SF_upd (SF_trans (SF_upd (SF_refl) rfl) hS14 (any_sub rfl)) rfl) hS_c88 (any_sub rfl)) hS21 (any_sub rfl)) hS55 (any_sub rfl)) (SA_trans (SA_trans (SA_trans (SA_trans (SA_refl) hA15 (any_subA rfl)) hA_c88 (any_subA rfl)) hA22 (any_subA rfl)) hA56 (any_subA rfl)) (y58) ((ey59)) (F53 5 25) (rfl) (y60) ((ey61)) (y62) ((ey63)) (y64) ((ey65)) ((u5_33 + 1)) (((((hS55 5 33 rfl).trans (hS21 5 33 rfl)).trans (hS_c88 5 33 rfl)).trans (hS14 5 33 rfl))) (y66) ((ey67)) (wq68) (ewq69) (wq70) (ewq71) (wq72) (ewq73) (wq74) (ewq75) (wq76) (ewq77) (wq78) (ewq79) (wq80) (ewq81) (wq82) (ewq83) (show (0) = 0 ∨ (0) = 1 by first | exact q_45 | omega) (pz57_1) (show (u5_27) ≤ (y60) ∧ (y60) ≤ (u5_26) from pz57_2) (show (0) = 1 → 1 ≤ ((wq80)) 0 ∧ 1 ≤ ((wq80)) 1 ∧ 1 ≤ ((wq80)) 2 by first | exact q_1783 | omega) (show (0) = 1 → (u5_25) + 3 ≤ (F53 5 25) ∧ (F53 5 25) ≤ (u1_1) by first | exact q_1782 r1 r4 r90 | omega) (show 0 ≤ (y66) ∧ (y66) ≤ (y60) from pz57_4) (show ((u5_33 + 1)) = (u5_33) + 1 from q_308) (show IMP (((0) : Int) = 1) ((F53 5 25) = (u5_25) + 3 + (if bkK ((w14)) ((u5_25)) = 1 then 1 else bkN ((w14)) ((u5_25)))) by assumption) (show PKA (BLF ((w14)) ((u5_25)) ((u1_1)) ((u5_2)) (wnF ((u5_35))) ((u5_29)) ((u5_26) - (u5_27)) (sc ((w26)) 0 ((u5_2)) ++ sc ((w45)) ((u5_28)) ((u5_27))) ((u5_10), GG) tb (((w38)) 0) (((w38)) 1) (((w38)) 2)) ((0)) ((y62)) ((y64)) ((u5_34)) ((y66)) (sc ((w26)) 0 ((u5_2)) ++ sc ((wq82)) ((u5_28)) ((y60))) ((wq74)) ((wq76)) ((wq78)) ((wq72)) ((wq80)) ((y58)) ((wq68)) ((wq70)) by assumption) (pz57_6))
        · refine Ew_of (pcₚ := 100) (fun _ => x_iconst rfl) ?_
          have : IMP (((0) : Int) = 1) (((u5_25 + 3)) = (u5_25) + 3 + (if bkK ((w14)) ((u5_25)) = 1 then 1 else bkN ((w14)) ((u5_25)))) := by first | exact fun h => absurd h (by decide) | exact fun h => absurd h (by omega)
          have : PKA (BLF ((w14)) ((u5_25)) ((u1_1)) ((u5_2)) (wnF ((u5_35))) ((u5_29)) ((u5_26) - (u5_27)) (sc ((w26)) 0 ((u5_2)) ++ sc ((w45)) ((u5_28)) ((u5_27))) ((u5_10), GG) tb (((w38)) 0) (((w38)) 1) (((w38)) 2)) ((0)) ((y24)) ((y26)) ((u5_34)) ((u5_34)) (sc ((w26)) 0 ((u5_2)) ++ sc ((w45)) ((u5_28)) ((u5_27))) ((w35)) ((w36)) ((w37)) ((w34)) ((w38)) ((u5_10)) ((w31)) ((w32)) := PKA_f (BL_1 (by omega) (by omega) hb5 (by omega)) (by decide) (by omega) (by omega) (by omega) (by omega) rfl
          exact w_ireturn rfl (k (0) σ _ _ H (SF_trans (SF_trans (SF_upd (SF_trans (SF_upd (SF_refl) rfl) hS14 (any_sub rfl)) rfl) hS_c88 (any_sub rfl)) hS21 (any_sub rfl)) (SA_trans (SA_trans (SA_trans (SA_refl) hA15 (any_subA rfl)) hA_c88 (any_subA rfl)) hA22 (any_subA rfl)) (u5_10) (((((hS21 5 10 rfl).trans (hS_c88 5 10 rfl)).trans (hS14 5 10 rfl)).trans (eu5_10))) ((u5_25 + 3)) (((hS21 5 25 rfl).trans (hS_c88 5 25 rfl))) (u5_27) (((((hS21 5 27 rfl).trans (hS_c88 5 27 rfl)).trans (hS14 5 27 rfl)).trans (eu5_27))) (y24) ((ey25)) (y26) ((ey27)) ((u5_33 + 1)) ((((hS21 5 33 rfl).trans (hS_c88 5 33 rfl)).trans (hS14 5 33 rfl))) (u5_34) (((((hS21 5 34 rfl).trans (hS_c88 5 34 rfl)).trans (hS14 5 34 rfl)).trans (eu5_34))) (w31) ((funext (hA22 31 rfl)).trans ((funext (hA_c88 31 rfl)).trans ((funext (hA15 31 rfl)).trans (ew31)))) (w32) ((funext (hA22 32 rfl)).trans ((funext (hA_c88 32 rfl)).trans ((funext (hA15 32 rfl)).trans (ew32)))) (w34) ((funext (hA22 34 rfl)).trans ((funext (hA_c88 34 rfl)).trans ((funext (hA15 34 rfl)).trans (ew34)))) (w35) ((funext (hA22 35 rfl)).trans ((funext (hA_c88 35 rfl)).trans ((funext (hA15 35 rfl)).trans (ew35)))) (w36) ((funext (hA22 36 rfl)).trans ((funext (hA_c88 36 rfl)).trans ((funext (hA15 36 rfl)).trans (ew36)))) (w37) ((funext (hA22 37 rfl)).trans ((funext (hA_c88 37 rfl)).trans ((funext (hA15 37 rfl)).trans (ew37)))) (w38) ((funext (hA22 38 rfl)).trans ((funext (hA_c88 38 rfl)).trans ((funext (hA15 38 rfl)).trans (ew38)))) (w45) ((funext (hA22 45 rfl)).trans ((funext (hA_c88 45 rfl)).trans ((funext (hA15 45 rfl)).trans (ew45)))) (show (0) = 0 ∨ (0) = 1 by first | exact q_45 | omega) (h1) (show (u5_27) ≤ (u5_27) ∧ (u5_27) ≤ (u5_26) from q_1024 h3) (show (0) = 1 → 1 ≤ ((w38)) 0 ∧ 1 ≤ ((w38)) 1 ∧ 1 ≤ ((w38)) 2 by first | exact q_1739 h2 | omega) (show (0) = 1 → (u5_25) + 3 ≤ ((u5_25 + 3)) ∧ ((u5_25 + 3)) ≤ (u1_1) by first | exact q_1784 h0 | omega) (show 0 ≤ (u5_34) ∧ (u5_34) ≤ (u5_27) from h7) (show ((u5_33 + 1)) = (u5_33) + 1 from q_308) (show IMP (((0) : Int) = 1) (((u5_25 + 3)) = (u5_25) + 3 + (if bkK ((w14)) ((u5_25)) = 1 then 1 else bkN ((w14)) ((u5_25)))) by assumption) (show PKA (BLF ((w14)) ((u5_25)) ((u1_1)) ((u5_2)) (wnF ((u5_35))) ((u5_29)) ((u5_26) - (u5_27)) (sc ((w26)) 0 ((u5_2)) ++ sc ((w45)) ((u5_28)) ((u5_27))) ((u5_10), GG) tb (((w38)) 0) (((w38)) 1) (((w38)) 2)) ((0)) ((y24)) ((y26)) ((u5_34)) ((u5_34)) (sc ((w26)) 0 ((u5_2)) ++ sc ((w45)) ((u5_28)) ((u5_27))) ((w35)) ((w36)) ((w37)) ((w34)) ((w38)) ((u5_10)) ((w31)) ((w32)) by assumption) (hcf0))
      refine w_icmpne (t := 86) rfl rfl (show inr (((z16 / 2) % 4)) from q_1762) (show inr (1) from q_135) (fun b91 => ?_) (fun b91 => ?_)
      · refine Ew_of (pcₚ := 88) (fun _ => x_iload rfl rk_s) ?_
        exact hc88 ((z16 / 8)) _ σ _ _  (rk_o (rk_o (rk_o (rk_o (rfl) rfl rfl) rfl rfl) rfl rfl) rfl rfl) (rk_o (rk_o (rk_o (rk_s) rfl rfl) rfl rfl) rfl rfl) (rk_o (rk_s) rfl rfl) (rk_s) H (SF_refl) (SA_refl)   (show inr ((z16 / 8)) by omega) (show ((((z16 / 2) % 4)) ≠ (1) ∧ ((z16 / 8)) = ((z16 / 8))) ∨ ((((z16 / 2) % 4)) = (1) ∧ ((z16 / 8)) = (1)) from q_1785 b91)
      · refine Ew_of (pcₚ := 83) (fun _ => x_iconst rfl) ?_
        refine Ew_of (pcₚ := 88) (fun _ => x_goto rfl rfl) ?_
        exact hc88 (1) _ σ _ _  (rk_o (rk_o (rk_o (rk_o (rfl) rfl rfl) rfl rfl) rfl rfl) rfl rfl) (rk_o (rk_o (rk_o (rk_s) rfl rfl) rfl rfl) rfl rfl) (rk_o (rk_s) rfl rfl) (rk_s) H (SF_refl) (SA_refl)   (show inr (1) from q_135) (show ((((z16 / 2) % 4)) ≠ (1) ∧ (1) = ((z16 / 8))) ∨ ((((z16 / 2) % 4)) = (1) ∧ (1) = (1)) from q_1786 b91)
    · refine Ew_of (pcₚ := 60) (fun _ => x_aload_n rfl (rk_o (rk_o (rk_o (rk_o (rfl) rfl rfl) rfl rfl) rfl rfl) rfl rfl)) ?_
      refine Ew_of (pcₚ := 62) (fun _ => x_bipush (z := 6) rfl (by decide)) ?_
      refine Ew_of (pcₚ := 63) (fun _ => x_iload_n rfl (rk_o (rk_o (rk_o (rk_s) rfl rfl) rfl rfl) rfl rfl)) ?_
      refine w_inv H (o := 5) rfl rfl rfl (H.perm 5 rfl) rfl rfl (by rfl) (M282 H (show inr (6) from q_756) (show inr (u5_25) from q_286 r4) (show 0 ≤ (6) ∧ (6) ≤ 20 from q_1787) (show 0 ≤ (u5_25) ∧ (u5_25) ≤ 65536 from r4) (fun z96 σ F92 A93 H hS94 hA95 y97 ey98 y99 ey100 pz96_0 pz96_1 pz96_2 pz96_3 => ⟨rretB rfl pz96_0, ?_⟩))
      have r101 : (0 : Int) ≤ y97 ∧ y97 ≤ 20 := rngE (show (0 : Int) ≤ F92 5 30 ∧ F92 5 30 ≤ 20 from H.frng 5 30) (show F92 5 30 = y97 from (ey98))
      have r102 : (0 : Int) ≤ y99 ∧ y99 ≤ 65536 := rngE (show (0 : Int) ≤ F92 5 31 ∧ F92 5 31 ≤ 65536 from H.frng 5 31) (show F92 5 31 = y99 from (ey100))
      have : IMP (((z96) : Int) = 1) ((u5_25) = (u5_25) + 3 + (if bkK ((w14)) ((u5_25)) = 1 then 1 else bkN ((w14)) ((u5_25)))) := by first | exact fun h => absurd h (by decide) | exact fun h => absurd h (by omega)
      have : PKA (BLF ((w14)) ((u5_25)) ((u1_1)) ((u5_2)) (wnF ((u5_35))) ((u5_29)) ((u5_26) - (u5_27)) (sc ((w26)) 0 ((u5_2)) ++ sc ((w45)) ((u5_28)) ((u5_27))) ((u5_10), GG) tb (((w38)) 0) (((w38)) 1) (((w38)) 2)) ((z96)) ((y97)) ((y99)) ((u5_34)) ((u5_34)) (sc ((w26)) 0 ((u5_2)) ++ sc ((w45)) ((u5_28)) ((u5_27))) ((w35)) ((w36)) ((w37)) ((w34)) ((w38)) ((u5_10)) ((w31)) ((w32)) := PKA_f (BL_6 (by omega) (by omega)) (by decide) (by omega) (by omega) (by omega) (by omega) rfl
      exact w_ireturn rfl (k (z96) σ _ _ H (SF_trans (SF_trans (SF_upd (SF_refl) rfl) hS14 (any_sub rfl)) hS94 (any_sub rfl)) (SA_trans (SA_trans (SA_refl) hA15 (any_subA rfl)) hA95 (any_subA rfl)) (u5_10) ((((hS94 5 10 rfl).trans (hS14 5 10 rfl)).trans (eu5_10))) (u5_25) ((((hS94 5 25 rfl).trans (hS14 5 25 rfl)).trans (eu5_25))) (u5_27) ((((hS94 5 27 rfl).trans (hS14 5 27 rfl)).trans (eu5_27))) (y97) ((ey98)) (y99) ((ey100)) ((u5_33 + 1)) (((hS94 5 33 rfl).trans (hS14 5 33 rfl))) (u5_34) ((((hS94 5 34 rfl).trans (hS14 5 34 rfl)).trans (eu5_34))) (w31) ((funext (hA95 31 rfl)).trans ((funext (hA15 31 rfl)).trans (ew31))) (w32) ((funext (hA95 32 rfl)).trans ((funext (hA15 32 rfl)).trans (ew32))) (w34) ((funext (hA95 34 rfl)).trans ((funext (hA15 34 rfl)).trans (ew34))) (w35) ((funext (hA95 35 rfl)).trans ((funext (hA15 35 rfl)).trans (ew35))) (w36) ((funext (hA95 36 rfl)).trans ((funext (hA15 36 rfl)).trans (ew36))) (w37) ((funext (hA95 37 rfl)).trans ((funext (hA15 37 rfl)).trans (ew37))) (w38) ((funext (hA95 38 rfl)).trans ((funext (hA15 38 rfl)).trans (ew38))) (w45) ((funext (hA95 45 rfl)).trans ((funext (hA15 45 rfl)).trans (ew45))) (show (z96) = 0 ∨ (z96) = 1 from pz96_0) (h1) (show (u5_27) ≤ (u5_27) ∧ (u5_27) ≤ (u5_26) from q_1024 h3) (show (z96) = 1 → 1 ≤ ((w38)) 0 ∧ 1 ≤ ((w38)) 1 ∧ 1 ≤ ((w38)) 2 from q_1698 h2) (show (z96) = 1 → (u5_25) + 3 ≤ (u5_25) ∧ (u5_25) ≤ (u1_1) from q_1788 h0 pz96_1) (show 0 ≤ (u5_34) ∧ (u5_34) ≤ (u5_27) from h7) (show ((u5_33 + 1)) = (u5_33) + 1 from q_308) (show IMP (((z96) : Int) = 1) ((u5_25) = (u5_25) + 3 + (if bkK ((w14)) ((u5_25)) = 1 then 1 else bkN ((w14)) ((u5_25)))) by assumption) (show PKA (BLF ((w14)) ((u5_25)) ((u1_1)) ((u5_2)) (wnF ((u5_35))) ((u5_29)) ((u5_26) - (u5_27)) (sc ((w26)) 0 ((u5_2)) ++ sc ((w45)) ((u5_28)) ((u5_27))) ((u5_10), GG) tb (((w38)) 0) (((w38)) 1) (((w38)) 2)) ((z96)) ((y97)) ((y99)) ((u5_34)) ((u5_34)) (sc ((w26)) 0 ((u5_2)) ++ sc ((w45)) ((u5_28)) ((u5_27))) ((w35)) ((w36)) ((w37)) ((w34)) ((w38)) ((u5_10)) ((w31)) ((w32)) by assumption) (hcf0))
  · refine Ew_of (pcₚ := 44) (fun _ => x_aload_n rfl (rk_o (rk_o (rk_o (rk_o (rfl) rfl rfl) rfl rfl) rfl rfl) rfl rfl)) ?_
    refine Ew_of (pcₚ := 45) (fun _ => x_iconst rfl) ?_
    refine Ew_of (pcₚ := 46) (fun _ => x_iload_n rfl (rk_o (rk_o (rk_o (rk_s) rfl rfl) rfl rfl) rfl rfl)) ?_
    refine w_inv H (o := 5) rfl rfl rfl (H.perm 5 rfl) rfl rfl (by rfl) (M282 H (show inr (5) from q_727) (show inr (u5_25) from q_286 r4) (show 0 ≤ (5) ∧ (5) ≤ 20 from q_1789) (show 0 ≤ (u5_25) ∧ (u5_25) ≤ 65536 from r4) (fun z107 σ F103 A104 H hS105 hA106 y108 ey109 y110 ey111 pz107_0 pz107_1 pz107_2 pz107_3 => ⟨rretB rfl pz107_0, ?_⟩))
    have r112 : (0 : Int) ≤ y108 ∧ y108 ≤ 20 := rngE (show (0 : Int) ≤ F103 5 30 ∧ F103 5 30 ≤ 20 from H.frng 5 30) (show F103 5 30 = y108 from (ey109))
    have r113 : (0 : Int) ≤ y110 ∧ y110 ≤ 65536 := rngE (show (0 : Int) ≤ F103 5 31 ∧ F103 5 31 ≤ 65536 from H.frng 5 31) (show F103 5 31 = y110 from (ey111))
    have : IMP (((z107) : Int) = 1) ((u5_25) = (u5_25) + 3 + (if bkK ((w14)) ((u5_25)) = 1 then 1 else bkN ((w14)) ((u5_25)))) := by first | exact fun h => absurd h (by decide) | exact fun h => absurd h (by omega)
    have : PKA (BLF ((w14)) ((u5_25)) ((u1_1)) ((u5_2)) (wnF ((u5_35))) ((u5_29)) ((u5_26) - (u5_27)) (sc ((w26)) 0 ((u5_2)) ++ sc ((w45)) ((u5_28)) ((u5_27))) ((u5_10), GG) tb (((w38)) 0) (((w38)) 1) (((w38)) 2)) ((z107)) ((y108)) ((y110)) ((u5_34)) ((u5_34)) (sc ((w26)) 0 ((u5_2)) ++ sc ((w45)) ((u5_28)) ((u5_27))) ((w35)) ((w36)) ((w37)) ((w34)) ((w38)) ((u5_10)) ((w31)) ((w32)) := PKA_f (BL_5 (by omega)) (by decide) (by omega) (by omega) (by omega) (by omega) rfl
    exact w_ireturn rfl (k (z107) σ _ _ H (SF_trans (SF_trans (SF_upd (SF_refl) rfl) hS14 (any_sub rfl)) hS105 (any_sub rfl)) (SA_trans (SA_trans (SA_refl) hA15 (any_subA rfl)) hA106 (any_subA rfl)) (u5_10) ((((hS105 5 10 rfl).trans (hS14 5 10 rfl)).trans (eu5_10))) (u5_25) ((((hS105 5 25 rfl).trans (hS14 5 25 rfl)).trans (eu5_25))) (u5_27) ((((hS105 5 27 rfl).trans (hS14 5 27 rfl)).trans (eu5_27))) (y108) ((ey109)) (y110) ((ey111)) ((u5_33 + 1)) (((hS105 5 33 rfl).trans (hS14 5 33 rfl))) (u5_34) ((((hS105 5 34 rfl).trans (hS14 5 34 rfl)).trans (eu5_34))) (w31) ((funext (hA106 31 rfl)).trans ((funext (hA15 31 rfl)).trans (ew31))) (w32) ((funext (hA106 32 rfl)).trans ((funext (hA15 32 rfl)).trans (ew32))) (w34) ((funext (hA106 34 rfl)).trans ((funext (hA15 34 rfl)).trans (ew34))) (w35) ((funext (hA106 35 rfl)).trans ((funext (hA15 35 rfl)).trans (ew35))) (w36) ((funext (hA106 36 rfl)).trans ((funext (hA15 36 rfl)).trans (ew36))) (w37) ((funext (hA106 37 rfl)).trans ((funext (hA15 37 rfl)).trans (ew37))) (w38) ((funext (hA106 38 rfl)).trans ((funext (hA15 38 rfl)).trans (ew38))) (w45) ((funext (hA106 45 rfl)).trans ((funext (hA15 45 rfl)).trans (ew45))) (show (z107) = 0 ∨ (z107) = 1 from pz107_0) (h1) (show (u5_27) ≤ (u5_27) ∧ (u5_27) ≤ (u5_26) from q_1024 h3) (show (z107) = 1 → 1 ≤ ((w38)) 0 ∧ 1 ≤ ((w38)) 1 ∧ 1 ≤ ((w38)) 2 from q_1698 h2) (show (z107) = 1 → (u5_25) + 3 ≤ (u5_25) ∧ (u5_25) ≤ (u1_1) from q_1788 h0 pz107_1) (show 0 ≤ (u5_34) ∧ (u5_34) ≤ (u5_27) from h7) (show ((u5_33 + 1)) = (u5_33) + 1 from q_308) (show IMP (((z107) : Int) = 1) ((u5_25) = (u5_25) + 3 + (if bkK ((w14)) ((u5_25)) = 1 then 1 else bkN ((w14)) ((u5_25)))) by assumption) (show PKA (BLF ((w14)) ((u5_25)) ((u1_1)) ((u5_2)) (wnF ((u5_35))) ((u5_29)) ((u5_26) - (u5_27)) (sc ((w26)) 0 ((u5_2)) ++ sc ((w45)) ((u5_28)) ((u5_27))) ((u5_10), GG) tb (((w38)) 0) (((w38)) 1) (((w38)) 2)) ((z107)) ((y108)) ((y110)) ((u5_34)) ((u5_34)) (sc ((w26)) 0 ((u5_2)) ++ sc ((w45)) ((u5_28)) ((u5_27))) ((w35)) ((w36)) ((w37)) ((w34)) ((w38)) ((u5_10)) ((w31)) ((w32)) by assumption) (hcf0))


end
section
/-! 43c.ref -/
theorem M277 {σ0 σ : rS} {D N : Nat → Nat} {F : hF} {A : hA} {d c s : Nat} {Q : wQ} (H : HS σ0 σ D N F A)  (u5_2 : Int) (eu5_2 : F 5 2 = u5_2) (u5_3 : Int) (eu5_3 : F 5 3 = u5_3) (u5_4 : Int) (eu5_4 : F 5 4 = u5_4) (w26 : Int → Int) (ew26 : A 26 = w26) (w27 : Int → Int) (ew27 : A 27 = w27) (w28 : Int → Int) (ew28 : A 28 = w28) (w29 : Int → Int) (ew29 : A 29 = w29) (w30 : Int → Int) (ew30 : A 30 = w30) (Dc : DcS) (h0 : DI ((u5_4)) ((w27)) ((w28)) ((w29)) ((w30))) (h1 : RDI Dc ((u5_4)) ((u5_3)) ((w26)) ((u5_2)) ((w27)) ((w28)) ((w29)) ((w30))) (k : ∀ σ Fₚ Aₚ, HS σ0 σ D N Fₚ Aₚ → SF [(5, 10)] F Fₚ → SA [31, 32, 33, 34, 35, 36, 37, 38, 41] A Aₚ → ∀ y5_10 : Int, Fₚ 5 10 = y5_10 → ∀ v31 : Int → Int, Aₚ 31 = v31 → ∀ v32 : Int → Int, Aₚ 32 = v32 → ∀ v34 : Int → Int, Aₚ 34 = v34 → ∀ v35 : Int → Int, Aₚ 35 = v35 → ∀ v36 : Int → Int, Aₚ 36 = v36 → ∀ v37 : Int → Int, Aₚ 37 = v37 → ∀ v38 : Int → Int, Aₚ 38 = v38 → (RT ((v35)) ((v36)) ((v37)) ((v34))) → (1 ≤ ((v38)) 0 ∧ 1 ≤ ((v38)) 1 ∧ 1 ≤ ((v38)) 2) → (RTA ((v35)) ((v36)) ((v37)) ((v34)) Dc.2.2.2.1) → (RCO ((y5_10)) (Dc.2.2.1.2) ((v31)) ((v32))) → ((y5_10) = Dc.2.2.1.1) → (((v38)) 0 = Dc.2.2.2.2.1 ∧ ((v38)) 1 = Dc.2.2.2.2.2.1 ∧ ((v38)) 2 = Dc.2.2.2.2.2.2) → Q none σ c s) : Ew 277 (d + 3) 0 (rargs 0 [.ref (D 5)]) [] σ c s Q := by
  have r1 : (0 : Int) ≤ u5_2 ∧ u5_2 ≤ 65536 := rngE (show (0 : Int) ≤ F 5 2 ∧ F 5 2 ≤ 65536 from H.frng 5 2) (show F 5 2 = u5_2 from (eu5_2))
  have r2 : (-2147483648 : Int) ≤ u5_3 ∧ u5_3 ≤ 2147483647 := rngE (show (-2147483648 : Int) ≤ F 5 3 ∧ F 5 3 ≤ 2147483647 from H.frng 5 3) (show F 5 3 = u5_3 from (eu5_3))
  have r3 : (0 : Int) ≤ u5_4 ∧ u5_4 ≤ 1 := rngE (show (0 : Int) ≤ F 5 4 ∧ F 5 4 ≤ 1 from H.frng 5 4) (show F 5 4 = u5_4 from (eu5_4))
  have hrdi : RDI Dc ((u5_4)) ((u5_3)) ((w26)) ((u5_2)) ((w27)) ((w28)) ((w29)) ((w30)) := h1
  refine Ew_of (pcₚ := 1) (fun _ => x_aload_n rfl rfl) ?_
  refine Ew_of (pcₚ := 2) (fun _ => x_iconst rfl) ?_
  refine w_pI H (o := 5) rfl rfl (H.perm 5 rfl) rfl rfl rfl (fun _ => rfl) rfl (show (0 : Int) ≤ 0 ∧ 0 ≤ 11 from q_1458) (fun σ H => ?_)
  refine Ew_of (pcₚ := 6) (fun _ => x_iconst rfl) ?_
  refine Ew_of (pcₚ := 7) (fun _ => x_istore_n rfl) ?_
  have : ∀ t, (0 : Int) ≤ t → t < 0 → ((A 34)) t = -1 := fun t a b => absurd b (by omega)
  suffices hl7 : ∀ (m : Nat), ∀ (ls : rO) (σ : rS) (F_7 : hF) (A_7 : hA) (x7_1 : Int), rlook ls 0 = some (.ref (D 5)) → rlook ls 1 = some (I (x7_1)) → HS σ0 σ D N F_7 A_7 → SF [] (updF F 5 10 (0)) F_7 → SA [34, 38] A A_7 → ∀ w7_34 : Int → Int, A_7 34 = w7_34 → ∀ w7_38 : Int → Int, A_7 38 = w7_38 → (inr (x7_1)) → ((0) ≤ (x7_1)) → ((x7_1) ≤ (0) ∨ (x7_1) ≤ (3)) → (∀ t, 0 ≤ t → t < (x7_1) → ((w7_34)) t = -1) → (0 < (x7_1) → ((w7_38)) 0 = 1) → (1 < (x7_1) → ((w7_38)) 1 = 4) → (2 < (x7_1) → ((w7_38)) 2 = 8) → ((3) - (x7_1)).toNat = m → Ew 277 (d + 3) 7 ls [] σ c s Q from
    hl7 _ _ σ _ _ (0) (rk_o (rfl) rfl rfl) (rk_s) H (SF_refl) (SA_refl)  (A 34) (rfl) (A 38) (rfl) (show inr (0) from q_2) (show (0) ≤ (0) from q_1) (show (0) ≤ (0) ∨ (0) ≤ (3) from q_1793) (show ∀ t, 0 ≤ t → t < (0) → ((A 34)) t = -1 by assumption) (show 0 < (0) → ((A 38)) 0 = 1 from q_1792) (show 1 < (0) → ((A 38)) 1 = 4 from q_1791) (show 2 < (0) → ((A 38)) 2 = 8 from q_1790) rfl
  as_aux_lemma =>
  intro m
  induction m using Nat.strongRecOn with
  | _ m ih7 =>
    intro ls σ F_7 A_7 x7_1 l7_0 l7_1 H hS_7 hA_7  w7_34 ew7_34 w7_38 ew7_38 j7_0 j7_1 j7_2 j7_3 j7_4 j7_5 j7_6 hm7
    refine Ew_of (pcₚ := 8) (fun _ => x_iload_n rfl l7_1) ?_
    refine Ew_of (pcₚ := 9) (fun _ => x_iconst rfl) ?_
    refine w_icmpge (t := 45) rfl rfl (show inr (x7_1) from j7_0) (show inr (3) from q_246) (fun b4 => ?_) (fun b4 => ?_)
    · have : RT ((A 35)) ((A 36)) ((A 37)) ((w7_34)) := RT_neg (fun t a b => by have := j7_3 t a (by omega); omega)
      refine Ew_of (pcₚ := 46) (fun _ => x_aload_n rfl l7_0) ?_
      refine w_gI H (o := 5) (w := u5_4) rfl (H.perm 5 rfl) rfl rfl rfl (fun _ => rfl) ((hS_7 5 4 rfl).trans (eu5_4)) ?_
      refine w_ifne (t := 53) rfl rfl (show inr (u5_4) from q_1794 r3) (fun b5 => ?_) (fun b5 => ?_)
      · obtain ⟨_, hcG, hdG, hRX, hla0, hla1, hla2⟩ := hrdi.2.2.resolve_left (fun q => by have := q.1; omega)
        refine Ew_of (pcₚ := 54) (fun _ => x_iconst rfl) ?_
        refine Ew_of (pcₚ := 55) (fun _ => x_istore_n rfl) ?_
        have hdi : DI ((u5_4)) ((w27)) ((w28)) ((w29)) ((w30)) := h0
        have hdi := hdi (by omega)
        obtain ⟨⟨T, hT⟩, hPS, hla⟩ := hdi
        have : ∀ i, (0 : Int) ≤ i → i < 0 → ((A 31)) i = ((w27)) i := fun i a b => absurd b (by omega)
        have : ∀ i, (0 : Int) ≤ i → i < 0 → ((w27)) i ≤ 0 := fun i a b => absurd b (by omega)
        have hT0 := hT.1
        suffices hl55 : ∀ (m : Nat), ∀ (ls : rO) (σ : rS) (F_55 : hF) (A_55 : hA) (x55_1 : Int), rlook ls 0 = some (.ref (D 5)) → rlook ls 1 = some (I (x55_1)) → HS σ0 σ D N F_55 A_55 → SF [(5, 10)] F_7 F_55 → SA [31] A_7 A_55 → ∀ y55_5_10 : Int, F_55 5 10 = y55_5_10 → ∀ w55_31 : Int → Int, A_55 31 = w55_31 → (inr (x55_1)) → ((0) ≤ (x55_1)) → ((x55_1) ≤ (0) ∨ (x55_1) ≤ ((256))) → (∀ i, 0 ≤ i → i < (x55_1) → ((w55_31)) i = ((w27)) i) → (∀ i, 0 ≤ i → i < (x55_1) → ((w27)) i ≤ (y55_5_10)) → ((y55_5_10) ≤ T) → (((256)) - (x55_1)).toNat = m → Ew 277 (d + 3) 55 ls [] σ c s Q from
          hl55 _ _ σ _ _ (0) (rk_o (l7_0) rfl rfl) (rk_s) H (SF_refl) (SA_refl) (0) ((hS_7 5 10 rfl)) (A 31) (funext (hA_7 31 rfl)) (show inr (0) from q_2) (show (0) ≤ (0) from q_1) (show (0) ≤ (0) ∨ (0) ≤ ((256)) from q_0) (show ∀ i, 0 ≤ i → i < (0) → ((A 31)) i = ((w27)) i by assumption) (show ∀ i, 0 ≤ i → i < (0) → ((w27)) i ≤ (0) by assumption) (show (0) ≤ T by omega) rfl
        as_aux_lemma =>
        intro m
        induction m using Nat.strongRecOn with
        | _ m ih55 =>
          intro ls σ F_55 A_55 x55_1 l55_0 l55_1 H hS_55 hA_55 y55_5_10 ey55_5_10 w55_31 ew55_31 j55_0 j55_1 j55_2 j55_3 j55_4 j55_5 hm55
          have r6 : (0 : Int) ≤ y55_5_10 ∧ y55_5_10 ≤ 11 := rngE (show (0 : Int) ≤ F_55 5 10 ∧ F_55 5 10 ≤ 11 from H.frng 5 10) (show F_55 5 10 = y55_5_10 from (ey55_5_10))
          refine Ew_of (pcₚ := 56) (fun _ => x_iload_n rfl l55_1) ?_
          refine Ew_of (pcₚ := 59) (fun _ => x_sipush (z := 256) rfl (by decide)) ?_
          refine w_icmpge (t := 110) rfl rfl (show inr (x55_1) from j55_0) (show inr (256) from q_3) (fun b7 => ?_) (fun b7 => ?_)
          · have htt : (y55_5_10) = T := by obtain ⟨i, a, b, c⟩ := hT.2.2.2.2; have := j55_4 i a (by omega); omega
            have hciL : CI ((w55_31)) ((y55_5_10)) := by rw [htt]; exact CI_congr hT (fun i a b => j55_3 i a (by omega))
            refine Ew_of (pcₚ := 111) (fun _ => x_aload_n rfl l55_0) ?_
            refine w_inv H (o := 5) rfl rfl rfl (H.perm 5 rfl) rfl rfl (by rfl) (M269 H (y55_5_10) ((ey55_5_10)) (w55_31) (ew55_31) (hciL) (fun σ F8 A9 H hS10 hA11 wq13 ewq14 pz12_0 => ⟨rfl, ?_⟩))
            have hflc := pz12_0
            refine Ew_of (pcₚ := 115) (fun _ => x_iconst rfl) ?_
            refine Ew_of (pcₚ := 116) (fun _ => x_istore_n rfl) ?_
            have : ∀ i, (0 : Int) ≤ i → i < 0 → ((A 33)) i = ((w28)) i := fun i a b => absurd b (by omega)
            suffices hl116 : ∀ (m : Nat), ∀ (ls : rO) (σ : rS) (F_116 : hF) (A_116 : hA) (x116_1 : Int), rlook ls 0 = some (.ref (D 5)) → rlook ls 1 = some (I (x116_1)) → HS σ0 σ D N F_116 A_116 → SF [] F8 F_116 → SA [33] A9 A_116 → ∀ w116_33 : Int → Int, A_116 33 = w116_33 → (inr (x116_1)) → ((0) ≤ (x116_1)) → ((x116_1) ≤ (0) ∨ (x116_1) ≤ ((192))) → (∀ i, 0 ≤ i → i < (x116_1) → ((w116_33)) i = ((w28)) i) → (((192)) - (x116_1)).toNat = m → Ew 277 (d + 3) 116 ls [] σ c s Q from
              hl116 _ _ σ _ _ (0) (rk_o (l55_0) rfl rfl) (rk_s) H (SF_refl) (SA_refl)  (A 33) ((funext (hA11 33 rfl)).trans ((funext (hA_55 33 rfl)).trans (funext (hA_7 33 rfl)))) (show inr (0) from q_2) (show (0) ≤ (0) from q_1) (show (0) ≤ (0) ∨ (0) ≤ ((192)) from q_1795) (show ∀ i, 0 ≤ i → i < (0) → ((A 33)) i = ((w28)) i by assumption) rfl
            as_aux_lemma =>
            intro m
            induction m using Nat.strongRecOn with
            | _ m ih116 =>
              intro ls σ F_116 A_116 x116_1 l116_0 l116_1 H hS_116 hA_116  w116_33 ew116_33 j116_0 j116_1 j116_2 j116_3 hm116
              refine Ew_of (pcₚ := 117) (fun _ => x_iload_n rfl l116_1) ?_
              refine Ew_of (pcₚ := 120) (fun _ => x_sipush (z := 192) rfl (by decide)) ?_
              refine w_icmpge (t := 141) rfl rfl (show inr (x116_1) from j116_0) (show inr (192) from q_1796) (fun b15 => ?_) (fun b15 => ?_)
              · refine Ew_of (pcₚ := 142) (fun _ => x_iconst rfl) ?_
                refine Ew_of (pcₚ := 143) (fun _ => x_istore_n rfl) ?_
                have : ∀ t, 0 ≤ t → t < (0 : Int) → RTL ((A 35)) ((A 36)) ((A 37)) ((w7_34)) t (Dc.2.2.2.1 t) := fun t a b => absurd b (by omega)
                suffices hl143 : ∀ (m : Nat), ∀ (ls : rO) (σ : rS) (F_143 : hF) (A_143 : hA) (x143_1 : Int), rlook ls 0 = some (.ref (D 5)) → rlook ls 1 = some (I (x143_1)) → HS σ0 σ D N F_143 A_143 → SF [] F_116 F_143 → SA [34, 35, 36, 37, 38, 41] A_116 A_143 → ∀ w143_34 : Int → Int, A_143 34 = w143_34 → ∀ w143_35 : Int → Int, A_143 35 = w143_35 → ∀ w143_36 : Int → Int, A_143 36 = w143_36 → ∀ w143_37 : Int → Int, A_143 37 = w143_37 → ∀ w143_38 : Int → Int, A_143 38 = w143_38 → (inr (x143_1)) → ((0) ≤ (x143_1)) → ((x143_1) ≤ (0) ∨ (x143_1) ≤ (3)) → (RT ((w143_35)) ((w143_36)) ((w143_37)) ((w143_34))) → (0 < (x143_1) → 1 ≤ ((w143_38)) 0 ∧ ((w143_38)) 0 = Dc.2.2.2.2.1) → (1 < (x143_1) → 1 ≤ ((w143_38)) 1 ∧ ((w143_38)) 1 = Dc.2.2.2.2.2.1) → (2 < (x143_1) → 1 ≤ ((w143_38)) 2 ∧ ((w143_38)) 2 = Dc.2.2.2.2.2.2) → (∀ t, 0 ≤ t → t < (x143_1) → RTL ((w143_35)) ((w143_36)) ((w143_37)) ((w143_34)) t (Dc.2.2.2.1 t)) → ((3) - (x143_1)).toNat = m → Ew 277 (d + 3) 143 ls [] σ c s Q from
                  hl143 _ _ σ _ _ (0) (rk_o (l116_0) rfl rfl) (rk_s) H (SF_refl) (SA_refl)  (w7_34) ((funext (hA_116 34 rfl)).trans ((funext (hA11 34 rfl)).trans ((funext (hA_55 34 rfl)).trans (ew7_34)))) (A 35) ((funext (hA_116 35 rfl)).trans ((funext (hA11 35 rfl)).trans ((funext (hA_55 35 rfl)).trans (funext (hA_7 35 rfl))))) (A 36) ((funext (hA_116 36 rfl)).trans ((funext (hA11 36 rfl)).trans ((funext (hA_55 36 rfl)).trans (funext (hA_7 36 rfl))))) (A 37) ((funext (hA_116 37 rfl)).trans ((funext (hA11 37 rfl)).trans ((funext (hA_55 37 rfl)).trans (funext (hA_7 37 rfl))))) (w7_38) ((funext (hA_116 38 rfl)).trans ((funext (hA11 38 rfl)).trans ((funext (hA_55 38 rfl)).trans (ew7_38)))) (show inr (0) from q_2) (show (0) ≤ (0) from q_1) (show (0) ≤ (0) ∨ (0) ≤ (3) from q_1793) (show RT ((A 35)) ((A 36)) ((A 37)) ((w7_34)) by assumption) (show 0 < (0) → 1 ≤ ((w7_38)) 0 ∧ ((w7_38)) 0 = Dc.2.2.2.2.1 from q_1799) (show 1 < (0) → 1 ≤ ((w7_38)) 1 ∧ ((w7_38)) 1 = Dc.2.2.2.2.2.1 from q_1798) (show 2 < (0) → 1 ≤ ((w7_38)) 2 ∧ ((w7_38)) 2 = Dc.2.2.2.2.2.2 from q_1797) (show ∀ t, 0 ≤ t → t < (0) → RTL ((A 35)) ((A 36)) ((A 37)) ((w7_34)) t (Dc.2.2.2.1 t) by assumption) rfl
                as_aux_lemma =>
                intro m
                induction m using Nat.strongRecOn with
                | _ m ih143 =>
                  intro ls σ F_143 A_143 x143_1 l143_0 l143_1 H hS_143 hA_143  w143_34 ew143_34 w143_35 ew143_35 w143_36 ew143_36 w143_37 ew143_37 w143_38 ew143_38 j143_0 j143_1 j143_2 j143_3 j143_4 j143_5 j143_6 j143_7 hm143
                  have j143_t : ∀ t, 0 ≤ t → t < (x143_1) → RTL ((w143_35)) ((w143_36)) ((w143_37)) ((w143_34)) t (Dc.2.2.2.1 t) := by assumption
                  refine Ew_of (pcₚ := 144) (fun _ => x_iload_n rfl l143_1) ?_
                  refine Ew_of (pcₚ := 145) (fun _ => x_iconst rfl) ?_
                  refine w_icmpge (t := 183) rfl rfl (show inr (x143_1) from j143_0) (show inr (3) from q_246) (fun b16 => ?_) (fun b16 => ?_)
                  · have : RTA ((w143_35)) ((w143_36)) ((w143_37)) ((w143_34)) Dc.2.2.2.1 := fun t a b => j143_t t a (by omega)
                    have hTT : (y55_5_10) = Dc.2.2.1.1 := CI_top hciL hcG (fun i a b => (j55_3 i a (by omega)).trans (hdG i a b))
                    have : RCO ((y55_5_10)) (Dc.2.2.1.2) ((w55_31)) ((wq13)) := .inr ⟨by rw [hTT]; exact hcG, fun i a b => (j55_3 i a (by omega)).trans (hdG i a b), hflc.trans (by rw [hTT]; exact CELS_c (fun i a b => (j55_3 i a (by omega)).trans (hdG i a b)))⟩
                    have : ((w143_38)) 0 = Dc.2.2.2.2.1 ∧ ((w143_38)) 1 = Dc.2.2.2.2.2.1 ∧ ((w143_38)) 2 = Dc.2.2.2.2.2.2 := by omega
                    exact w_ret rfl (k σ _ _ H (SF_trans (SF_trans (SF_trans (SF_trans (SF_trans (SF_upd (SF_refl) rfl) hS_7 (any_sub rfl)) hS_55 (any_sub rfl)) hS10 (any_sub rfl)) hS_116 (any_sub rfl)) hS_143 (any_sub rfl)) (SA_trans (SA_trans (SA_trans (SA_trans (SA_trans (SA_refl) hA_7 (any_subA rfl)) hA_55 (any_subA rfl)) hA11 (any_subA rfl)) hA_116 (any_subA rfl)) hA_143 (any_subA rfl)) (y55_5_10) (((((hS_143 5 10 rfl).trans (hS_116 5 10 rfl)).trans (hS10 5 10 rfl)).trans (ey55_5_10))) (w55_31) ((funext (hA_143 31 rfl)).trans ((funext (hA_116 31 rfl)).trans ((funext (hA11 31 rfl)).trans (ew55_31)))) (wq13) ((funext (hA_143 32 rfl)).trans ((funext (hA_116 32 rfl)).trans (ewq14))) (w143_34) (ew143_34) (w143_35) (ew143_35) (w143_36) (ew143_36) (w143_37) (ew143_37) (w143_38) (ew143_38) (j143_3) (show 1 ≤ ((w143_38)) 0 ∧ 1 ≤ ((w143_38)) 1 ∧ 1 ≤ ((w143_38)) 2 from q_1800 b16 j143_4 j143_5 j143_6) (show RTA ((w143_35)) ((w143_36)) ((w143_37)) ((w143_34)) Dc.2.2.2.1 by assumption) (show RCO ((y55_5_10)) (Dc.2.2.1.2) ((w55_31)) ((wq13)) by assumption) (hTT) (show ((w143_38)) 0 = Dc.2.2.2.2.1 ∧ ((w143_38)) 1 = Dc.2.2.2.2.2.1 ∧ ((w143_38)) 2 = Dc.2.2.2.2.2.2 by assumption))
                  · have hps : PS ((w116_33)) (upd1 ((w143_34)) ((x143_1)) (((w29)) ((x143_1)))) ((x143_1)) := PS_congr (hPS ((x143_1)) (by omega) (by omega)) (by omega) (fun i a b => j116_3 i a (by omega)) upd1_s
                    have hrx : RX ((w143_35)) ((w143_36)) ((w143_37)) (upd1 ((w143_34)) ((x143_1)) (((w29)) ((x143_1)))) ((x143_1)) := RX_of (by assumption)
                    have hx0 : (x143_1) = 0 → ((w30)) ((x143_1)) = ((w30)) 0 := fun e => by rw [e]
                    have hx1 : (x143_1) = 1 → ((w30)) ((x143_1)) = ((w30)) 1 := fun e => by rw [e]
                    have hx2 : (x143_1) = 2 → ((w30)) ((x143_1)) = ((w30)) 2 := fun e => by rw [e]
                    refine Ew_of (pcₚ := 149) (fun _ => x_aload_n rfl l143_0) ?_
                    refine w_gT H (o := 5) (t := 34) rfl (H.perm 5 rfl) rfl rfl rfl rfl rfl rfl ?_
                    refine Ew_of (pcₚ := 153) (fun _ => x_iload_n rfl l143_1) ?_
                    refine Ew_of (pcₚ := 154) (fun _ => x_aload_n rfl l143_0) ?_
                    refine w_gT H (o := 5) (t := 29) rfl (H.perm 5 rfl) rfl rfl rfl rfl rfl rfl ?_
                    refine Ew_of (pcₚ := 158) (fun _ => x_iload_n rfl l143_1) ?_
                    refine w_lI H (o := 29) (n := 3) rfl (H.perm 29 rfl) rfl rfl (H.fix 29 rfl rfl) (show 0 ≤ x143_1 ∧ x143_1 < ((3 : Nat) : Int) from q_1801 b16 j143_1) (by decide) (fun v17 ev17 qv17 => ?_)
                    have qv17 : (-1 : Int) ≤ v17 ∧ v17 ≤ 9 := qv17
                    have ev17 : (w29) (x143_1) = v17 := (congrFun ((funext (hA_143 29 rfl)).trans ((funext (hA_116 29 rfl)).trans ((funext (hA11 29 rfl)).trans ((funext (hA_55 29 rfl)).trans ((funext (hA_7 29 rfl)).trans (ew29)))))) (x143_1)).symm.trans ev17
                    rw [ev17] at hps hrx
                    have hor : (upd1 ((w143_34)) ((x143_1)) ((v17))) ((x143_1)) = ((w29)) ((x143_1)) := by rw [upd1_s]; exact ev17.symm
                    refine w_sI H (o := 34) (n := 3) rfl (H.perm 34 rfl) rfl rfl (H.fix 34 rfl rfl) (show 0 ≤ x143_1 ∧ x143_1 < ((3 : Nat) : Int) from q_1801 b16 j143_1) (by decide) (show (-1 : Int) ≤ v17 ∧ v17 ≤ 9 from qv17) (fun σ H => ?_)
                    refine Ew_of (pcₚ := 161) (fun _ => x_aload_n rfl l143_0) ?_
                    refine w_gT H (o := 5) (t := 38) rfl (H.perm 5 rfl) rfl rfl rfl rfl rfl rfl ?_
                    refine Ew_of (pcₚ := 165) (fun _ => x_iload_n rfl l143_1) ?_
                    refine Ew_of (pcₚ := 166) (fun _ => x_aload_n rfl l143_0) ?_
                    refine w_gT H (o := 5) (t := 30) rfl (H.perm 5 rfl) rfl rfl rfl rfl rfl rfl ?_
                    refine Ew_of (pcₚ := 170) (fun _ => x_iload_n rfl l143_1) ?_
                    refine w_lJ H (o := 30) (n := 3) rfl (H.perm 30 rfl) rfl rfl (H.fix 30 rfl rfl) (show 0 ≤ x143_1 ∧ x143_1 < ((3 : Nat) : Int) from q_1801 b16 j143_1) (by decide) (fun v18 ev18 qv18 => ?_)
                    have qv18 : (-9223372036854775808 : Int) ≤ v18 ∧ v18 ≤ 9223372036854775807 := qv18
                    have ev18 : (w30) (x143_1) = v18 := (congrFun ((funext (hA_143 30 rfl)).trans ((funext (hA_116 30 rfl)).trans ((funext (hA11 30 rfl)).trans ((funext (hA_55 30 rfl)).trans ((funext (hA_7 30 rfl)).trans (ew30)))))) (x143_1)).symm.trans ev18
                    refine w_sJ H (o := 38) (n := 3) rfl (H.perm 38 rfl) rfl rfl (H.fix 38 rfl rfl) (show 0 ≤ x143_1 ∧ x143_1 < ((3 : Nat) : Int) from q_1801 b16 j143_1) (by decide) (show (-9223372036854775808 : Int) ≤ v18 ∧ v18 ≤ 9223372036854775807 from qv18) (fun σ H => ?_)
                    refine Ew_of (pcₚ := 173) (fun _ => x_aload_n rfl l143_0) ?_
                    refine Ew_of (pcₚ := 174) (fun _ => x_iload_n rfl l143_1) ?_
                    refine w_inv H (o := 5) rfl rfl rfl (H.perm 5 rfl) rfl rfl (by rfl) (M263 H (w116_33) ((funext (hA_143 33 rfl)).trans (ew116_33)) (upd1 (w143_34) (x143_1) (v17)) (congrArg (fun q => upd1 q (x143_1) (v17)) (ew143_34)) (w143_35) (ew143_35) (w143_36) (ew143_36) (w143_37) (ew143_37) (show inr (x143_1) from j143_0) (show 0 ≤ (x143_1) ∧ (x143_1) ≤ 2 from q_1802 b16 j143_1) (show PS ((w116_33)) ((upd1 (w143_34) (x143_1) (v17))) ((x143_1)) by assumption) (show RX ((w143_35)) ((w143_36)) ((w143_37)) ((upd1 (w143_34) (x143_1) (v17))) ((x143_1)) by assumption) (fun σ F19 A20 H hS21 hA22 wq24 ewq25 wq26 ewq27 wq28 ewq29 pz23_0 pz23_1 pz23_2 pz23_3 pz23_4 => ⟨rfl, ?_⟩))
                    refine Ew_of (pcₚ := 180) (fun _ => x_iinc (len := 3) rfl (l143_1)) ?_
                    refine Ew_of (pcₚ := 143) (fun _ => x_goto rfl rfl) ?_
                    have hu0 : 0 < ((x143_1 + 1)) → 1 ≤ ((upd1 (w143_38) (x143_1) (v18))) 0 ∧ ((upd1 (w143_38) (x143_1) (v18))) 0 = Dc.2.2.2.2.1 := by simp only [upd1]; omega
                    have hu1 : 1 < ((x143_1 + 1)) → 1 ≤ ((upd1 (w143_38) (x143_1) (v18))) 1 ∧ ((upd1 (w143_38) (x143_1) (v18))) 1 = Dc.2.2.2.2.2.1 := by simp only [upd1]; omega
                    have hu2 : 2 < ((x143_1 + 1)) → 1 ≤ ((upd1 (w143_38) (x143_1) (v18))) 2 ∧ ((upd1 (w143_38) (x143_1) (v18))) 2 = Dc.2.2.2.2.2.2 := by simp only [upd1]; omega
                    have : ∀ t, 0 ≤ t → t < ((x143_1 + 1)) → RTL ((wq24)) ((wq26)) ((wq28)) ((upd1 (w143_34) (x143_1) (v17))) t (Dc.2.2.2.1 t) := RDX_s hRX j143_t (by omega) (fun i a b => j116_3 i a (by omega)) pz23_1 hor pz23_2 pz23_3 pz23_4 (FRM_upd FRM_refl (by omega) (by omega)) rfl
                    exact ih143 _ (msE hm143 q_813 (q_814 b16)) _ σ _ _ ((x143_1 + 1)) (rk_o (l143_0) rfl rfl) (rk_s) H (SF_trans (hS_143) hS21 (any_sub rfl)) (SA_trans (SA_upd (SA_upd (hA_143) rfl) rfl) hA22 (any_subA rfl))  (upd1 (w143_34) (x143_1) (v17)) ((funext (hA22 34 rfl)).trans (congrArg (fun q => upd1 q (x143_1) (v17)) (ew143_34))) (wq24) (ewq25) (wq26) (ewq27) (wq28) (ewq29) (upd1 (w143_38) (x143_1) (v18)) ((funext (hA22 38 rfl)).trans (congrArg (fun q => upd1 q (x143_1) (v18)) (ew143_38))) (show inr ((x143_1 + 1)) from q_1804 b16 j143_1) (show (0) ≤ ((x143_1 + 1)) from q_14 j143_1) (show ((x143_1 + 1)) ≤ (0) ∨ ((x143_1 + 1)) ≤ (3) from q_1803 b16) (pz23_0) (show 0 < ((x143_1 + 1)) → 1 ≤ ((upd1 (w143_38) (x143_1) (v18))) 0 ∧ ((upd1 (w143_38) (x143_1) (v18))) 0 = Dc.2.2.2.2.1 from hu0) (show 1 < ((x143_1 + 1)) → 1 ≤ ((upd1 (w143_38) (x143_1) (v18))) 1 ∧ ((upd1 (w143_38) (x143_1) (v18))) 1 = Dc.2.2.2.2.2.1 from hu1) (show 2 < ((x143_1 + 1)) → 1 ≤ ((upd1 (w143_38) (x143_1) (v18))) 2 ∧ ((upd1 (w143_38) (x143_1) (v18))) 2 = Dc.2.2.2.2.2.2 from hu2) (show ∀ t, 0 ≤ t → t < ((x143_1 + 1)) → RTL ((wq24)) ((wq26)) ((wq28)) ((upd1 (w143_34) (x143_1) (v17))) t (Dc.2.2.2.1 t) by assumption) rfl
              · refine Ew_of (pcₚ := 124) (fun _ => x_aload_n rfl l116_0) ?_
                refine w_gT H (o := 5) (t := 33) rfl (H.perm 5 rfl) rfl rfl rfl rfl rfl rfl ?_
                refine Ew_of (pcₚ := 128) (fun _ => x_iload_n rfl l116_1) ?_
                refine Ew_of (pcₚ := 129) (fun _ => x_aload_n rfl l116_0) ?_
                refine w_gT H (o := 5) (t := 28) rfl (H.perm 5 rfl) rfl rfl rfl rfl rfl rfl ?_
                refine Ew_of (pcₚ := 133) (fun _ => x_iload_n rfl l116_1) ?_
                refine w_lI H (o := 28) (n := 192) rfl (H.perm 28 rfl) rfl rfl (H.fix 28 rfl rfl) (show 0 ≤ x116_1 ∧ x116_1 < ((192 : Nat) : Int) from q_1805 b15 j116_1) (by decide) (fun v30 ev30 qv30 => ?_)
                have qv30 : (-1 : Int) ≤ v30 ∧ v30 ≤ 512 := qv30
                have ev30 : (w28) (x116_1) = v30 := (congrFun ((funext (hA_116 28 rfl)).trans ((funext (hA11 28 rfl)).trans ((funext (hA_55 28 rfl)).trans ((funext (hA_7 28 rfl)).trans (ew28))))) (x116_1)).symm.trans ev30
                refine w_sI H (o := 33) (n := 192) rfl (H.perm 33 rfl) rfl rfl (H.fix 33 rfl rfl) (show 0 ≤ x116_1 ∧ x116_1 < ((192 : Nat) : Int) from q_1805 b15 j116_1) (by decide) (show (-1 : Int) ≤ v30 ∧ v30 ≤ 512 from qv30) (fun σ H => ?_)
                refine Ew_of (pcₚ := 138) (fun _ => x_iinc (len := 3) rfl (l116_1)) ?_
                refine Ew_of (pcₚ := 116) (fun _ => x_goto rfl rfl) ?_
                have : ∀ i, (0 : Int) ≤ i → i < ((x116_1 + 1)) → ((upd1 (w116_33) (x116_1) (v30))) i = ((w28)) i := pt_copy j116_3 (by omega)
                exact ih116 _ (msE hm116 q_1808 (q_1809 b15)) _ σ _ _ ((x116_1 + 1)) (rk_o (l116_0) rfl rfl) (rk_s) H (hS_116) (SA_upd (hA_116) rfl)  (upd1 (w116_33) (x116_1) (v30)) (congrArg (fun q => upd1 q (x116_1) (v30)) (ew116_33)) (show inr ((x116_1 + 1)) from q_1807 b15 j116_1) (show (0) ≤ ((x116_1 + 1)) from q_14 j116_1) (show ((x116_1 + 1)) ≤ (0) ∨ ((x116_1 + 1)) ≤ ((192)) from q_1806 b15) (show ∀ i, 0 ≤ i → i < ((x116_1 + 1)) → ((upd1 (w116_33) (x116_1) (v30))) i = ((w28)) i by assumption) rfl
          · have hTl := hT.2.2.1 ((x55_1)) (by omega) (by omega)
            refine Ew_of (pcₚ := 63) (fun _ => x_aload_n rfl l55_0) ?_
            refine w_gT H (o := 5) (t := 31) rfl (H.perm 5 rfl) rfl rfl rfl rfl rfl rfl ?_
            refine Ew_of (pcₚ := 67) (fun _ => x_iload_n rfl l55_1) ?_
            refine Ew_of (pcₚ := 68) (fun _ => x_aload_n rfl l55_0) ?_
            refine w_gT H (o := 5) (t := 27) rfl (H.perm 5 rfl) rfl rfl rfl rfl rfl rfl ?_
            refine Ew_of (pcₚ := 72) (fun _ => x_iload_n rfl l55_1) ?_
            refine w_lI H (o := 27) (n := 256) rfl (H.perm 27 rfl) rfl rfl (H.fix 27 rfl rfl) (show 0 ≤ x55_1 ∧ x55_1 < ((256 : Nat) : Int) from q_23 b7 j55_1) (by decide) (fun v31 ev31 qv31 => ?_)
            have qv31 : (0 : Int) ≤ v31 ∧ v31 ≤ 11 := qv31
            have ev31 : (w27) (x55_1) = v31 := (congrFun ((funext (hA_55 27 rfl)).trans ((funext (hA_7 27 rfl)).trans (ew27))) (x55_1)).symm.trans ev31
            refine w_sI H (o := 31) (n := 256) rfl (H.perm 31 rfl) rfl rfl (H.fix 31 rfl rfl) (show 0 ≤ x55_1 ∧ x55_1 < ((256 : Nat) : Int) from q_23 b7 j55_1) (by decide) (show (0 : Int) ≤ v31 ∧ v31 ≤ 11 from qv31) (fun σ H => ?_)
            refine Ew_of (pcₚ := 75) (fun _ => x_aload_n rfl l55_0) ?_
            refine Ew_of (pcₚ := 76) (fun _ => x_aload_n rfl l55_0) ?_
            refine w_gT H (o := 5) (t := 31) rfl (H.perm 5 rfl) rfl rfl rfl rfl rfl rfl ?_
            refine Ew_of (pcₚ := 80) (fun _ => x_iload_n rfl l55_1) ?_
            refine w_lI H (o := 31) (n := 256) rfl (H.perm 31 rfl) rfl rfl (H.fix 31 rfl rfl) (show 0 ≤ x55_1 ∧ x55_1 < ((256 : Nat) : Int) from q_23 b7 j55_1) (by decide) (fun v32 ev32 qv32 => ?_)
            have qv32 : (0 : Int) ≤ v32 ∧ v32 ≤ 11 := qv32
            have ev32 : (upd1 (w55_31) (x55_1) (v31)) (x55_1) = v32 := (congrFun (congrArg (fun q => upd1 q (x55_1) (v31)) (ew55_31)) (x55_1)).symm.trans ev32
            refine Ew_of (pcₚ := 82) (fun _ => x_aload_n rfl l55_0) ?_
            refine w_gI H (o := 5) (w := y55_5_10) rfl (H.perm 5 rfl) rfl rfl rfl (fun _ => rfl) (ey55_5_10) ?_
            have hls : ((upd1 (w55_31) (x55_1) (v31))) ((x55_1)) = ((w27)) ((x55_1)) := by rw [upd1_s]; omega
            refine w_icmple (t := 97) rfl rfl (show inr (v32) from q_1389 qv32) (show inr (y55_5_10) from q_1389 r6) (fun b33 => ?_) (fun b33 => ?_)
            · refine Ew_of (pcₚ := 98) (fun _ => x_aload_n rfl l55_0) ?_
              refine w_gI H (o := 5) (w := y55_5_10) rfl (H.perm 5 rfl) rfl rfl rfl (fun _ => rfl) (ey55_5_10) ?_
              refine w_pI H (o := 5) rfl rfl (H.perm 5 rfl) rfl rfl rfl (fun _ => rfl) rfl (show (0 : Int) ≤ y55_5_10 ∧ y55_5_10 ≤ 11 from r6) (fun σ H => ?_)
              have hdx : ((w27)) ((x55_1) + 1 - 1) = ((w27)) ((x55_1)) := by congr 1; omega
              refine Ew_of (pcₚ := 107) (fun _ => x_iinc (len := 3) rfl (l55_1)) ?_
              refine Ew_of (pcₚ := 55) (fun _ => x_goto rfl rfl) ?_
              have : ∀ i, (0 : Int) ≤ i → i < ((x55_1 + 1)) → ((upd1 (w55_31) (x55_1) (v31))) i = ((w27)) i := pt_copy j55_3 (by omega)
              have : ∀ i, (0 : Int) ≤ i → i < ((x55_1 + 1)) → ((w27)) i ≤ (y55_5_10) := fun i a b => by by_cases e : i = ((x55_1 + 1)) - 1; rw [e]; omega; have := j55_4 i a (by omega); omega
              exact ih55 _ (msE hm55 q_26 (q_27 b7)) _ σ _ _ ((x55_1 + 1)) (rk_o (l55_0) rfl rfl) (rk_s) H (SF_upd (hS_55) rfl) (SA_upd (hA_55) rfl) (y55_5_10) (rfl) (upd1 (w55_31) (x55_1) (v31)) (congrArg (fun q => upd1 q (x55_1) (v31)) (ew55_31)) (show inr ((x55_1 + 1)) from q_25 b7 j55_1) (show (0) ≤ ((x55_1 + 1)) from q_14 j55_1) (show ((x55_1 + 1)) ≤ (0) ∨ ((x55_1 + 1)) ≤ ((256)) from q_24 b7) (show ∀ i, 0 ≤ i → i < ((x55_1 + 1)) → ((upd1 (w55_31) (x55_1) (v31))) i = ((w27)) i by assumption) (show ∀ i, 0 ≤ i → i < ((x55_1 + 1)) → ((w27)) i ≤ (y55_5_10) by assumption) (show (y55_5_10) ≤ T from j55_5) rfl
            · refine Ew_of (pcₚ := 89) (fun _ => x_aload_n rfl l55_0) ?_
              refine w_gT H (o := 5) (t := 31) rfl (H.perm 5 rfl) rfl rfl rfl rfl rfl rfl ?_
              refine Ew_of (pcₚ := 93) (fun _ => x_iload_n rfl l55_1) ?_
              refine w_lI H (o := 31) (n := 256) rfl (H.perm 31 rfl) rfl rfl (H.fix 31 rfl rfl) (show 0 ≤ x55_1 ∧ x55_1 < ((256 : Nat) : Int) from q_23 b7 j55_1) (by decide) (fun v34 ev34 qv34 => ?_)
              have qv34 : (0 : Int) ≤ v34 ∧ v34 ≤ 11 := qv34
              have ev34 : (upd1 (w55_31) (x55_1) (v31)) (x55_1) = v34 := (congrFun (congrArg (fun q => upd1 q (x55_1) (v31)) (ew55_31)) (x55_1)).symm.trans ev34
              refine Ew_of (pcₚ := 101) (fun _ => x_goto rfl rfl) ?_
              refine w_pI H (o := 5) rfl rfl (H.perm 5 rfl) rfl rfl rfl (fun _ => rfl) rfl (show (0 : Int) ≤ v34 ∧ v34 ≤ 11 from qv34) (fun σ H => ?_)
              have hdx : ((w27)) ((x55_1) + 1 - 1) = ((w27)) ((x55_1)) := by congr 1; omega
              refine Ew_of (pcₚ := 107) (fun _ => x_iinc (len := 3) rfl (l55_1)) ?_
              refine Ew_of (pcₚ := 55) (fun _ => x_goto rfl rfl) ?_
              have : ∀ i, (0 : Int) ≤ i → i < ((x55_1 + 1)) → ((upd1 (w55_31) (x55_1) (v31))) i = ((w27)) i := pt_copy j55_3 (by omega)
              have : ∀ i, (0 : Int) ≤ i → i < ((x55_1 + 1)) → ((w27)) i ≤ (v34) := fun i a b => by by_cases e : i = ((x55_1 + 1)) - 1; rw [e]; omega; have := j55_4 i a (by omega); omega
              exact ih55 _ (msE hm55 q_26 (q_27 b7)) _ σ _ _ ((x55_1 + 1)) (rk_o (l55_0) rfl rfl) (rk_s) H (SF_upd (hS_55) rfl) (SA_upd (hA_55) rfl) (v34) (rfl) (upd1 (w55_31) (x55_1) (v31)) (congrArg (fun q => upd1 q (x55_1) (v31)) (ew55_31)) (show inr ((x55_1 + 1)) from q_25 b7 j55_1) (show (0) ≤ ((x55_1 + 1)) from q_14 j55_1) (show ((x55_1 + 1)) ≤ (0) ∨ ((x55_1 + 1)) ≤ ((256)) from q_24 b7) (show ∀ i, 0 ≤ i → i < ((x55_1 + 1)) → ((upd1 (w55_31) (x55_1) (v31))) i = ((w27)) i by assumption) (show ∀ i, 0 ≤ i → i < ((x55_1 + 1)) → ((w27)) i ≤ (v34) by assumption) (show (v34) ≤ T by omega) rfl
      · have hrd0 := (hrdi.2.2.resolve_right (fun q => by have := q.1; omega))
        have : RTA ((A 35)) ((A 36)) ((A 37)) ((w7_34)) Dc.2.2.2.1 := fun t a b => ⟨by rw [j7_3 t a (by omega), hrd0.2.2.1 t a b], .inl (by rw [hrd0.2.2.1 t a b]; decide)⟩
        have : RCO ((0)) (Dc.2.2.1.2) ((A 31)) ((A 32)) := .inl (by omega)
        have : (0) = Dc.2.2.1.1 := hrd0.2.1.symm
        have : ((w7_38)) 0 = Dc.2.2.2.2.1 ∧ ((w7_38)) 1 = Dc.2.2.2.2.2.1 ∧ ((w7_38)) 2 = Dc.2.2.2.2.2.2 := ⟨by rw [hrd0.2.2.2.1]; omega, by rw [hrd0.2.2.2.2.1]; omega, by rw [hrd0.2.2.2.2.2]; omega⟩
        exact w_ret rfl (k σ _ _ H (SF_trans (SF_upd (SF_refl) rfl) hS_7 (any_sub rfl)) (SA_trans (SA_refl) hA_7 (any_subA rfl)) (0) ((hS_7 5 10 rfl)) (A 31) (funext (hA_7 31 rfl)) (A 32) (funext (hA_7 32 rfl)) (w7_34) (ew7_34) (A 35) (funext (hA_7 35 rfl)) (A 36) (funext (hA_7 36 rfl)) (A 37) (funext (hA_7 37 rfl)) (w7_38) (ew7_38) (show RT ((A 35)) ((A 36)) ((A 37)) ((w7_34)) by assumption) (show 1 ≤ ((w7_38)) 0 ∧ 1 ≤ ((w7_38)) 1 ∧ 1 ≤ ((w7_38)) 2 from q_1810 b4 j7_4 j7_5 j7_6) (show RTA ((A 35)) ((A 36)) ((A 37)) ((w7_34)) Dc.2.2.2.1 by assumption) (show RCO ((0)) (Dc.2.2.1.2) ((A 31)) ((A 32)) by assumption) (show (0) = Dc.2.2.1.1 by assumption) (show ((w7_38)) 0 = Dc.2.2.2.2.1 ∧ ((w7_38)) 1 = Dc.2.2.2.2.2.1 ∧ ((w7_38)) 2 = Dc.2.2.2.2.2.2 by assumption))
    · refine Ew_of (pcₚ := 13) (fun _ => x_aload_n rfl l7_0) ?_
      refine w_gT H (o := 5) (t := 34) rfl (H.perm 5 rfl) rfl rfl rfl rfl rfl rfl ?_
      refine Ew_of (pcₚ := 17) (fun _ => x_iload_n rfl l7_1) ?_
      refine Ew_of (pcₚ := 18) (fun _ => x_iconst rfl) ?_
      refine w_sI H (o := 34) (n := 3) rfl (H.perm 34 rfl) rfl rfl (H.fix 34 rfl rfl) (show 0 ≤ x7_1 ∧ x7_1 < ((3 : Nat) : Int) from q_1801 b4 j7_1) (by decide) (show (-1 : Int) ≤ (-1) ∧ (-1) ≤ 9 from q_1811) (fun σ H => ?_)
      refine Ew_of (pcₚ := 20) (fun _ => x_aload_n rfl l7_0) ?_
      refine w_gT H (o := 5) (t := 38) rfl (H.perm 5 rfl) rfl rfl rfl rfl rfl rfl ?_
      refine Ew_of (pcₚ := 24) (fun _ => x_iload_n rfl l7_1) ?_
      refine Ew_of (pcₚ := 25) (fun _ => x_iload_n rfl l7_1) ?_
      refine w_ifne (t := 32) rfl rfl (show inr (x7_1) from j7_0) (fun b35 => ?_) (fun b35 => ?_)
      · refine Ew_of (pcₚ := 35) (fun _ => x_ldc2 (z := 4) rfl (by decide)) ?_
        refine Ew_of (pcₚ := 36) (fun _ => x_iload_n rfl l7_1) ?_
        refine w_i2l rfl (show inr (x7_1) from j7_0) ?_
        refine w_lmul rfl ?_
        refine w_sJ H (o := 38) (n := 3) rfl (H.perm 38 rfl) rfl rfl (H.fix 38 rfl rfl) (show 0 ≤ x7_1 ∧ x7_1 < ((3 : Nat) : Int) from q_1801 b4 j7_1) (by decide) (show (-9223372036854775808 : Int) ≤ (4 * x7_1) ∧ (4 * x7_1) ≤ 9223372036854775807 from q_1812 b4 j7_1) (fun σ H => ?_)
        refine Ew_of (pcₚ := 42) (fun _ => x_iinc (len := 3) rfl (l7_1)) ?_
        refine Ew_of (pcₚ := 7) (fun _ => x_goto rfl rfl) ?_
        have : ∀ t, (0 : Int) ≤ t → t < ((x7_1 + 1)) → ((upd1 (w7_34) (x7_1) ((-1)))) t = -1 := fun t a b => by simp only [upd1]; split; omega; exact j7_3 t a (by omega)
        have hu0 : 0 < ((x7_1 + 1)) → ((upd1 (w7_38) (x7_1) ((4 * x7_1)))) 0 = 1 := by simp only [upd1]; omega
        have hu1 : 1 < ((x7_1 + 1)) → ((upd1 (w7_38) (x7_1) ((4 * x7_1)))) 1 = 4 := by simp only [upd1]; omega
        have hu2 : 2 < ((x7_1 + 1)) → ((upd1 (w7_38) (x7_1) ((4 * x7_1)))) 2 = 8 := by simp only [upd1]; omega
        exact ih7 _ (msE hm7 q_813 (q_814 b4)) _ σ _ _ ((x7_1 + 1)) (rk_o (l7_0) rfl rfl) (rk_s) H (hS_7) (SA_upd (SA_upd (hA_7) rfl) rfl)  (upd1 (w7_34) (x7_1) ((-1))) (congrArg (fun q => upd1 q (x7_1) ((-1))) (ew7_34)) (upd1 (w7_38) (x7_1) ((4 * x7_1))) (congrArg (fun q => upd1 q (x7_1) ((4 * x7_1))) (ew7_38)) (show inr ((x7_1 + 1)) from q_1804 b4 j7_1) (show (0) ≤ ((x7_1 + 1)) from q_14 j7_1) (show ((x7_1 + 1)) ≤ (0) ∨ ((x7_1 + 1)) ≤ (3) from q_1803 b4) (show ∀ t, 0 ≤ t → t < ((x7_1 + 1)) → ((upd1 (w7_34) (x7_1) ((-1)))) t = -1 by assumption) (show 0 < ((x7_1 + 1)) → ((upd1 (w7_38) (x7_1) ((4 * x7_1)))) 0 = 1 from hu0) (show 1 < ((x7_1 + 1)) → ((upd1 (w7_38) (x7_1) ((4 * x7_1)))) 1 = 4 from hu1) (show 2 < ((x7_1 + 1)) → ((upd1 (w7_38) (x7_1) ((4 * x7_1)))) 2 = 8 from hu2) rfl
      · refine Ew_of (pcₚ := 29) (fun _ => x_lconst (z := 1) rfl (by decide)) ?_
        refine Ew_of (pcₚ := 38) (fun _ => x_goto rfl rfl) ?_
        refine w_sJ H (o := 38) (n := 3) rfl (H.perm 38 rfl) rfl rfl (H.fix 38 rfl rfl) (show 0 ≤ x7_1 ∧ x7_1 < ((3 : Nat) : Int) from q_1814 b35 j7_1) (by decide) (show (-9223372036854775808 : Int) ≤ 1 ∧ 1 ≤ 9223372036854775807 from q_1813) (fun σ H => ?_)
        refine Ew_of (pcₚ := 42) (fun _ => x_iinc (len := 3) rfl (l7_1)) ?_
        refine Ew_of (pcₚ := 7) (fun _ => x_goto rfl rfl) ?_
        have : ∀ t, (0 : Int) ≤ t → t < ((x7_1 + 1)) → ((upd1 (w7_34) (x7_1) ((-1)))) t = -1 := fun t a b => by simp only [upd1]; split; omega; exact j7_3 t a (by omega)
        have hu0 : 0 < ((x7_1 + 1)) → ((upd1 (w7_38) (x7_1) (1))) 0 = 1 := by simp only [upd1]; omega
        have hu1 : 1 < ((x7_1 + 1)) → ((upd1 (w7_38) (x7_1) (1))) 1 = 4 := by simp only [upd1]; omega
        have hu2 : 2 < ((x7_1 + 1)) → ((upd1 (w7_38) (x7_1) (1))) 2 = 8 := by simp only [upd1]; omega
        exact ih7 _ (msE hm7 q_813 (q_1818 b35)) _ σ _ _ ((x7_1 + 1)) (rk_o (l7_0) rfl rfl) (rk_s) H (hS_7) (SA_upd (SA_upd (hA_7) rfl) rfl)  (upd1 (w7_34) (x7_1) ((-1))) (congrArg (fun q => upd1 q (x7_1) ((-1))) (ew7_34)) (upd1 (w7_38) (x7_1) (1)) (congrArg (fun q => upd1 q (x7_1) (1)) (ew7_38)) (show inr ((x7_1 + 1)) from q_1817 b35) (show (0) ≤ ((x7_1 + 1)) from q_1816 b35) (show ((x7_1 + 1)) ≤ (0) ∨ ((x7_1 + 1)) ≤ (3) from q_1815 b35) (show ∀ t, 0 ≤ t → t < ((x7_1 + 1)) → ((upd1 (w7_34) (x7_1) ((-1)))) t = -1 by assumption) (show 0 < ((x7_1 + 1)) → ((upd1 (w7_38) (x7_1) (1))) 0 = 1 from hu0) (show 1 < ((x7_1 + 1)) → ((upd1 (w7_38) (x7_1) (1))) 1 = 4 from hu1) (show 2 < ((x7_1 + 1)) → ((upd1 (w7_38) (x7_1) (1))) 2 = 8 from hu2) rfl


end
section
/-! 22d -/
theorem due_u {I : Int → Int} {a n q : Int} (hn : 0 ≤ n ∧ n ≤ 8) (hq : q = nvl I a n.toNat + (if n = 2 then 256 else 0)) : q < 18446744073709551616 := by
  have w := nvl_rng (f := I) (n := n.toNat) (a := a)
  rw [show ((n.toNat : Nat) : Int) = n by omega] at w
  have m : p2 (8 * n) ≤ p2 64 := p2_mono (by omega)
  have e : p2 64 = 18446744073709551616 := by decide
  by_cases c : n = 2
  · rw [if_pos c] at hq
    have m2 : p2 (8 * n) = 65536 := by rw [c]; decide
    omega
  · rw [if_neg c] at hq
    omega
theorem wn_g {q l : Int} (h : 0 ≤ q) (hu : q < 18446744073709551616) (h2 : q < 9223372036854775808 ∧ l = q ∨ 9223372036854775808 ≤ q ∧ l = q - 18446744073709551616) : wnF l = wn8 q := by
  have := wn8_eq q
  have := wnF_eq l
  omega

theorem S78_s {st I : Int → Int} {a qE z l qo ql : Int} {XT : Int → Tb} (h : HID ((0 < l → st 0 = bvA I a qE ((XT 0).1)) ∧ (1 < l → st 1 = bvA I a (qE - (XT 0).1) ((XT 1).1)) ∧ (2 < l → st 2 = bvA I a (qE - (XT 0).1 - (XT 1).1) ((XT 2).1)))) (hl : HID (ql = qE - (if 0 < l then (XT 0).1 else 0) - (if 1 < l then (XT 1).1 else 0) - (if 2 < l then (XT 2).1 else 0))) (ho : HID (l = 0 ∧ qo = (XT 0).1 ∨ l = 1 ∧ qo = (XT 1).1 ∨ l = 2 ∧ qo = (XT 2).1)) (hz : QEQ z (bvA I a ql qo)) :
    HID ((0 < l + 1 → upd1 st l z 0 = bvA I a qE ((XT 0).1)) ∧ (1 < l + 1 → upd1 st l z 1 = bvA I a (qE - (XT 0).1) ((XT 1).1)) ∧ (2 < l + 1 → upd1 st l z 2 = bvA I a (qE - (XT 0).1 - (XT 1).1) ((XT 2).1))) := by
  have hz : z = bvA I a ql qo := hz
  have hl : ql = qE - (if 0 < l then (XT 0).1 else 0) - (if 1 < l then (XT 1).1 else 0) - (if 2 < l then (XT 2).1 else 0) := hl
  obtain ⟨h0, h1, h2⟩ := h
  show (0 < l + 1 → upd1 st l z 0 = bvA I a qE ((XT 0).1)) ∧ (1 < l + 1 → upd1 st l z 1 = bvA I a (qE - (XT 0).1) ((XT 1).1)) ∧ (2 < l + 1 → upd1 st l z 2 = bvA I a (qE - (XT 0).1 - (XT 1).1) ((XT 2).1))
  rcases ho with ⟨e, f⟩ | ⟨e, f⟩ | ⟨e, f⟩
  · subst e
    rw [if_neg (show ¬ (0 : Int) < 0 by decide), if_neg (show ¬ (1 : Int) < 0 by decide), if_neg (show ¬ (2 : Int) < 0 by decide)] at hl
    refine ⟨fun _ => ?_, fun w => absurd w (by decide), fun w => absurd w (by decide)⟩
    rw [upd1_s, hz, hl, f, show qE - 0 - 0 - 0 = qE by omega]
  · subst e
    rw [if_pos (show (0 : Int) < 1 by decide), if_neg (show ¬ (1 : Int) < 1 by decide), if_neg (show ¬ (2 : Int) < 1 by decide)] at hl
    refine ⟨fun _ => ?_, fun _ => ?_, fun w => absurd w (by decide)⟩
    · rw [upd1_o (by decide)]; exact h0 (by decide)
    · rw [upd1_s, hz, hl, f, show qE - (XT 0).1 - 0 - 0 = qE - (XT 0).1 by omega]
  · subst e
    rw [if_pos (show (0 : Int) < 2 by decide), if_pos (show (1 : Int) < 2 by decide), if_neg (show ¬ (2 : Int) < 2 by decide)] at hl
    refine ⟨fun _ => ?_, fun _ => ?_, fun _ => ?_⟩
    · rw [upd1_o (by decide)]; exact h0 (by decide)
    · rw [upd1_o (by decide)]; exact h1 (by decide)
    · rw [upd1_s, hz, hl, f, show qE - (XT 0).1 - (XT 1).1 - 0 = qE - (XT 0).1 - (XT 1).1 by omega]
theorem L78_s {left qE l qo ql : Int} {XT : Int → Tb} (hl : HID (ql = qE - (if 0 < l then (XT 0).1 else 0) - (if 1 < l then (XT 1).1 else 0) - (if 2 < l then (XT 2).1 else 0))) (ho : HID (l = 0 ∧ qo = (XT 0).1 ∨ l = 1 ∧ qo = (XT 1).1 ∨ l = 2 ∧ qo = (XT 2).1)) (e2 : left = ql - qo) : HID (left = qE - (if 0 < l + 1 then (XT 0).1 else 0) - (if 1 < l + 1 then (XT 1).1 else 0) - (if 2 < l + 1 then (XT 2).1 else 0)) := by
  have hl : ql = qE - (if 0 < l then (XT 0).1 else 0) - (if 1 < l then (XT 1).1 else 0) - (if 2 < l then (XT 2).1 else 0) := hl
  show left = qE - (if 0 < l + 1 then (XT 0).1 else 0) - (if 1 < l + 1 then (XT 1).1 else 0) - (if 2 < l + 1 then (XT 2).1 else 0)
  rcases ho with ⟨e, f⟩ | ⟨e, f⟩ | ⟨e, f⟩
  · subst e
    rw [if_neg (show ¬ (0 : Int) < 0 by decide), if_neg (show ¬ (1 : Int) < 0 by decide), if_neg (show ¬ (2 : Int) < 0 by decide)] at hl
    rw [if_pos (show (0 : Int) < 0 + 1 by decide), if_neg (show ¬ (1 : Int) < 0 + 1 by decide), if_neg (show ¬ (2 : Int) < 0 + 1 by decide)]
    omega
  · subst e
    rw [if_pos (show (0 : Int) < 1 by decide), if_neg (show ¬ (1 : Int) < 1 by decide), if_neg (show ¬ (2 : Int) < 1 by decide)] at hl
    rw [if_pos (show (0 : Int) < 1 + 1 by decide), if_pos (show (1 : Int) < 1 + 1 by decide), if_neg (show ¬ (2 : Int) < 1 + 1 by decide)]
    omega
  · subst e
    rw [if_pos (show (0 : Int) < 2 by decide), if_pos (show (1 : Int) < 2 by decide), if_neg (show ¬ (2 : Int) < 2 by decide)] at hl
    rw [if_pos (show (0 : Int) < 2 + 1 by decide), if_pos (show (1 : Int) < 2 + 1 by decide), if_pos (show (2 : Int) < 2 + 1 by decide)]
    omega
theorem TUcY {I : Int → Int} {p a b : Int} {X : List Int} (hm : a = MSK (PLS X)) (hw : b % 4294967296 = nvl I (p + 4) 4) (e : a = b) : TUc I p X := by
  unfold TUc
  rw [← hm, ← hw, e]
theorem TUcN {I : Int → Int} {p a b : Int} {X : List Int} (hm : a = MSK (PLS X)) (hw : b % 4294967296 = nvl I (p + 4) 4) (ha : inr a) (hb : inr b) (e : a ≠ b) : ¬ TUc I p X := by
  intro q
  unfold TUc at q
  rw [← hm, ← hw] at q
  clear hm hw
  unfold inr at ha hb
  omega


end
