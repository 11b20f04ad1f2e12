theorem M272 {σ0 σ : rS} {D N : Nat → Nat} {F : hF} {A : hA} {d c s : Nat} {Q : wQ} (H : HS σ0 σ D N F A) {a1 a2 : Int} (w14 : Int → Int) (ew14 : A 14 = w14) (h0 : inr (a1)) (h1 : inr (a2)) (h2 : 0 ≤ (a1) ∧ (a1) ≤ 65536 ∧ 0 ≤ (a2) ∧ (a2) ≤ 65536) (k : ∀ (z : Int) σ Fₚ Aₚ, HS σ0 σ D N Fₚ Aₚ → SF [(5, 19), (5, 44), (5, 45)] F Fₚ → SA [39, 40, 41, 42, 43, 44] A Aₚ → ∀ v40 : Int → Int, Aₚ 40 = v40 → (inr (z)) → ((z) = -1 ∨ 2 ≤ (z) ∧ (z) ≤ 255) → (WBA ((w14)) ((a1)) ((a2)) ((z)) (-1) ((v40))) → Q (some (I z)) σ c s) : Ew 272 (d + 2) 0 (rargs 0 [.ref (D 5), I a1, I a2]) [] σ c s Q := by
  refine Ew_of (pcₚ := 1) (fun _ => x_aload_n rfl rfl) ?_
  refine Ew_of (pcₚ := 2) (fun _ => x_iload_n rfl rfl) ?_
  refine Ew_of (pcₚ := 3) (fun _ => x_iload_n rfl rfl) ?_
  refine Ew_of (pcₚ := 5) (fun _ => x_bipush (z := 6) rfl (by decide)) ?_
  refine Ew_of (pcₚ := 7) (fun _ => x_bipush (z := 11) rfl (by decide)) ?_
  refine w_inv H (o := 5) rfl rfl rfl (H.perm 5 rfl) rfl rfl (by rfl) (M261 H (w14) (ew14) (show inr (a1) from h0) (show inr (a2) from h1) (show inr (6) from q_756) (show inr (11) from q_326) (show 0 ≤ (a1) ∧ (a1) ≤ 65536 ∧ (a2) ≤ 65536 ∧ 0 ≤ (a2) from q_1400 h2) (show 6 ≤ (6) ∧ (6) ≤ 9 ∧ 0 ≤ (11) ∧ (11) ≤ 63 from q_1399) (fun z5 σ F1 A2 H hS3 hA4 y6 ey7 wq8 ewq9 pz5_0 pz5_1 pz5_2 pz5_3 => ⟨rfl, ?_⟩))
  have r10 : (0 : Int) ≤ y6 ∧ y6 ≤ 20 := rngE (show (0 : Int) ≤ F1 5 19 ∧ F1 5 19 ≤ 20 from H.frng 5 19) (show F1 5 19 = y6 from (ey7))
  obtain ⟨ok_, oo_, en_, WP_, hQ_, hc_⟩ := pz5_3
  obtain ⟨q3, hq3⟩ : ∃ q : Int, q = (z5) := ⟨_, rfl⟩
  have hdr : (z5) ≠ -1 → ok_ = 1 ∧ (y6) = oo_ ∧ q3 = en_ ∧ ∀ i, 0 ≤ i → i < 256 → ((wq8)) i = WP_ i := fun z => by rcases hc_ with ⟨x, y⟩ | ⟨x, y, y2, w, u⟩; (exact absurd y z); (exact ⟨x, w, by omega, u⟩)
  have hd0 : (z5) = -1 → ok_ = 0 := fun z => by rcases hc_ with ⟨x, y⟩ | ⟨x, y, y2, w, u⟩; (exact x); (omega)
  refine Ew_of (pcₚ := 11) (fun _ => x_istore_n rfl) ?_
  refine Ew_of (pcₚ := 12) (fun _ => x_iload_n rfl rk_s) ?_
  refine w_iflt (t := 24) rfl rfl (show inr (z5) from pz5_0) (fun b11 => ?_) (fun b11 => ?_)
  · refine Ew_of (pcₚ := 25) (fun _ => x_iconst rfl) ?_
    have : WBA ((w14)) ((a1)) ((a2)) (-1) (-1) ((A 40)) := by first | exact WBA_s hQ_ (hd0 (by omega)) rfl | exact WBA_o hQ_ (by omega) hop (by omega) rfl
    exact w_ireturn rfl (k ((-1)) σ _ _ H (SF_trans (SF_refl) hS3 (any_sub rfl)) (SA_trans (SA_refl) hA4 (any_subA rfl)) (A 40) (funext (hA4 40 rfl)) (show inr ((-1)) from q_63) (show ((-1)) = -1 ∨ 2 ≤ ((-1)) ∧ ((-1)) ≤ 255 by first | exact q_1401 | omega) (show WBA ((w14)) (a1) (a2) (((-1))) (-1) ((A 40)) by assumption))
  · refine Ew_of (pcₚ := 16) (fun _ => x_aload_n rfl (rk_o (rfl) rfl rfl)) ?_
    refine Ew_of (pcₚ := 17) (fun _ => x_iload_n rfl rk_s) ?_
    refine Ew_of (pcₚ := 18) (fun _ => x_iload_n rfl (rk_o (rfl) rfl rfl)) ?_
    refine w_inv H (o := 5) rfl rfl rfl (H.perm 5 rfl) rfl rfl (by rfl) (M267 H (w14) ((funext (hA4 14 rfl)).trans (ew14)) (show inr (z5) from pz5_0) (show inr (a2) from h1) (show 0 ≤ (z5) ∧ (z5) ≤ 65536 ∧ 0 ≤ (a2) ∧ (a2) ≤ 65536 from q_1402 b11 h2 pz5_1 pz5_2) (fun z16 σ F12 A13 H hS14 hA15 y17 ey18 y19 ey20 pz16_0 pz16_1 pz16_2 => ⟨rretB rfl pz16_0, ?_⟩))
    have r21 : (0 : Int) ≤ y17 ∧ y17 ≤ 524288 := rngE (show (0 : Int) ≤ F12 5 44 ∧ F12 5 44 ≤ 524288 from H.frng 5 44) (show F12 5 44 = y17 from (ey18))
    have r22 : (-100 : Int) ≤ y19 ∧ y19 ≤ 524288 := rngE (show (-100 : Int) ≤ F12 5 45 ∧ F12 5 45 ≤ 524288 from H.frng 5 45) (show F12 5 45 = y19 from (ey20))
    have hop := pz16_2
    rw [← hq3] at hop
    obtain ⟨k1_, k2_, k3_, k4_⟩ := hdr (by omega)
    subst k3_
    refine w_ifne (t := 26) rfl rfl (show inr (z16) by omega) (fun b23 => ?_) (fun b23 => ?_)
    · have hsh : SH ((wq8)) 0 64 ((y6)) 11 := pz5_2 (by omega)
      have hs12 := SH_12 hsh
      have hp5 := p2_5 (o := (y6)) ⟨hsh.1, hsh.2.1⟩
      have ho1 : OPS ((w14)) (q3) ((a2)) 1 ((y19)) := by have h := hop; rw [show z16 = 1 by omega] at h; exact h
      obtain ⟨ql, hql⟩ : ∃ q : Int, q = (y19) := ⟨_, rfl⟩
      rw [← hql] at ho1
      refine Ew_of (pcₚ := 27) (fun _ => x_aload_n rfl (rk_o (rfl) rfl rfl)) ?_
      refine Ew_of (pcₚ := 28) (fun _ => x_aload_n rfl (rk_o (rfl) rfl rfl)) ?_
      refine w_gT H (o := 5) (t := 39) rfl (H.perm 5 rfl) rfl rfl rfl rfl rfl rfl ?_
      refine Ew_of (pcₚ := 32) (fun _ => x_iconst rfl) ?_
      refine Ew_of (pcₚ := 34) (fun _ => x_bipush (z := 12) rfl (by decide)) ?_
      refine Ew_of (pcₚ := 35) (fun _ => x_aload_n rfl (rk_o (rfl) rfl rfl)) ?_
      refine w_gI H (o := 5) (w := y6) rfl (H.perm 5 rfl) rfl rfl rfl (fun _ => rfl) ((hS14 5 19 rfl).trans (ey7)) ?_
      refine Ew_of (pcₚ := 39) (fun _ => x_aload_n rfl (rk_o (rfl) rfl rfl)) ?_
      refine w_gT H (o := 5) (t := 42) rfl (H.perm 5 rfl) rfl rfl rfl rfl rfl rfl ?_
      refine Ew_of (pcₚ := 43) (fun _ => x_aload_n rfl (rk_o (rfl) rfl rfl)) ?_
      refine w_gT H (o := 5) (t := 43) rfl (H.perm 5 rfl) rfl rfl rfl rfl rfl rfl ?_
      refine Ew_of (pcₚ := 47) (fun _ => x_aload_n rfl (rk_o (rfl) rfl rfl)) ?_
      refine w_gT H (o := 5) (t := 44) rfl (H.perm 5 rfl) rfl rfl rfl rfl rfl rfl ?_
      refine Ew_of (pcₚ := 51) (fun _ => x_iconst rfl) ?_
      refine w_inv H (o := 5) rfl rfl rfl (H.perm 5 rfl) rfl rfl (by rfl) (M262_39_42_43_44 H (wq8) ((funext (hA15 39 rfl)).trans (ewq9)) (A 42) ((funext (hA15 42 rfl)).trans (funext (hA4 42 rfl))) (A 43) ((funext (hA15 43 rfl)).trans (funext (hA4 43 rfl))) (A 44) ((funext (hA15 44 rfl)).trans (funext (hA4 44 rfl))) (11) (show inr (0) from q_2) (show inr (12) from q_599) (show inr (y6) by omega) (show inr (0) from q_2) (show SH ((wq8)) (0) (12) (y6) (11) by assumption) (show 0 ≤ (0) ∧ 1 ≤ (12) ∧ (12) ≤ 64 ∧ (0) + (12) ≤ 256 from q_1404) (show 0 ≤ (0) ∧ (0) + p2 ((y6)) ≤ 64 by omega) (show (12) * 5 ≤ 64 from q_1403) (fun σ F24 A25 H hS26 hA27 wq29 ewq30 wq31 ewq32 wq33 ewq34 pz28_0 pz28_1 pz28_2 pz28_3 pz28_4 => ⟨rfl, ?_⟩))
      have hLD := pz28_4
      refine Ew_of (pcₚ := 55) (fun _ => x_aload_n rfl (rk_o (rfl) rfl rfl)) ?_
      refine w_gI H (o := 5) (w := y19) rfl (H.perm 5 rfl) rfl rfl rfl (fun _ => rfl) ((hS26 5 45 rfl).trans (ey20)) ?_
      refine Ew_of (pcₚ := 59) (fun _ => x_iconst rfl) ?_
      refine Ew_of (pcₚ := 60) (fun _ => x_aload_n rfl (rk_o (rfl) rfl rfl)) ?_
      refine w_gI H (o := 5) (w := y6) rfl (H.perm 5 rfl) rfl rfl rfl (fun _ => rfl) (((hS26 5 19 rfl).trans (hS14 5 19 rfl)).trans (ey7)) ?_
      refine w_imul rfl ?_
      refine w_icmpge (t := 69) rfl rfl (show inr (y19) by omega) (show inr ((2 * y6)) by omega) (fun b35 => ?_) (fun b35 => ?_)
      · refine Ew_of (pcₚ := 70) (fun _ => x_aload_n rfl (rk_o (rfl) rfl rfl)) ?_
        refine Ew_of (pcₚ := 71) (fun _ => x_aload_n rfl (rk_o (rfl) rfl rfl)) ?_
        refine w_gI H (o := 5) (w := y6) rfl (H.perm 5 rfl) rfl rfl rfl (fun _ => rfl) (((hS26 5 19 rfl).trans (hS14 5 19 rfl)).trans (ey7)) ?_
        refine w_inv H (o := 5) rfl rfl rfl (H.perm 5 rfl) rfl rfl (by rfl) (M268 H (y17) (((hS26 5 44 rfl).trans (ey18))) (y19) (((hS26 5 45 rfl).trans (ey20))) (w14) ((funext (hA27 14 rfl)).trans ((funext (hA15 14 rfl)).trans ((funext (hA4 14 rfl)).trans (ew14)))) (show inr (y6) by omega) (show 0 ≤ (y6) ∧ (y6) ≤ 31 by omega) (show 0 ≤ (y17) ∧ (y17) + (y19) ≤ 524288 by omega) (show (y6) ≤ (y19) by omega) (fun z40 σ F36 A37 H hS38 hA39 y41 ey42 pz40_0 pz40_1 pz40_2 pz40_3 => ⟨rfl, ?_⟩))
        have r43 : (-100 : Int) ≤ y41 ∧ y41 ≤ 524288 := rngE (show (-100 : Int) ≤ F36 5 45 ∧ F36 5 45 ≤ 524288 from H.frng 5 45) (show F36 5 45 = y41 from (ey42))
        have hv1 := pz40_3
        refine w_l2i rfl ?_
        refine Ew_of (pcₚ := 80) (fun _ => x_istore rfl) ?_
        refine Ew_of (pcₚ := 81) (fun _ => x_aload_n rfl (rk_o (rk_o (rfl) rfl rfl) rfl rfl)) ?_
        refine Ew_of (pcₚ := 82) (fun _ => x_aload_n rfl (rk_o (rk_o (rfl) rfl rfl) rfl rfl)) ?_
        refine w_gI H (o := 5) (w := y6) rfl (H.perm 5 rfl) rfl rfl rfl (fun _ => rfl) ((((hS38 5 19 rfl).trans (hS26 5 19 rfl)).trans (hS14 5 19 rfl)).trans (ey7)) ?_
        refine w_inv H (o := 5) rfl rfl rfl (H.perm 5 rfl) rfl rfl (by rfl) (M268 H (y17) ((((hS38 5 44 rfl).trans (hS26 5 44 rfl)).trans (ey18))) (y41) ((ey42)) (w14) ((funext (hA39 14 rfl)).trans ((funext (hA27 14 rfl)).trans ((funext (hA15 14 rfl)).trans ((funext (hA4 14 rfl)).trans (ew14))))) (show inr (y6) by omega) (show 0 ≤ (y6) ∧ (y6) ≤ 31 by omega) (show 0 ≤ (y17) ∧ (y17) + (y41) ≤ 524288 by omega) (show (y6) ≤ (y41) from q_1405 b35 pz40_1) (fun z48 σ F44 A45 H hS46 hA47 y49 ey50 pz48_0 pz48_1 pz48_2 pz48_3 => ⟨rfl, ?_⟩))
        have r51 : (-100 : Int) ≤ y49 ∧ y49 ≤ 524288 := rngE (show (-100 : Int) ≤ F44 5 45 ∧ F44 5 45 ≤ 524288 from H.frng 5 45) (show F44 5 45 = y49 from (ey50))
        have hv2 := pz48_3
        refine w_l2i rfl ?_
        refine Ew_of (pcₚ := 91) (fun _ => x_istore rfl) ?_
        refine Ew_of (pcₚ := 92) (fun _ => x_iconst rfl) ?_
        refine Ew_of (pcₚ := 94) (fun _ => x_istore rfl) ?_
        refine Ew_of (pcₚ := 95) (fun _ => x_iconst rfl) ?_
        refine Ew_of (pcₚ := 97) (fun _ => x_istore rfl) ?_
        have : IMP (((1) : Int) = 1 ∧ ((0) : Int) ≤ 254) (WBO ((w14)) ((a1)) ((a2)) (WP_) (oo_) (q3) ((z40)) ((z48)) ((y49)) ((0)) ((A 40))) := fun _ => WBO_0 hQ_ (by omega) ho1 (by omega) (by rw [← k2_]; exact hv1) (by omega) (by rw [← k2_]; exact hv2) (by omega) (by omega) rfl
        have : IMP (((1) : Int) = 0 ∧ ((0) : Int) ≤ 254) (WBO ((w14)) ((a1)) ((a2)) (WP_) (oo_) (q3) ((z48)) ((z40)) ((y49)) ((0)) ((A 40))) := fun z => absurd z.1 (by omega)
        have : IMP (((0) : Int) = 255) (WBA ((w14)) ((a1)) ((a2)) (-1) (-1) ((A 40))) := fun z => absurd z (by omega)
        suffices hl97 : ∀ (m : Nat), ∀ (ls : rO) (σ : rS) (F_97 : hF) (A_97 : hA) (x97_4 : Int) (x97_5 : Int) (x97_6 : Int) (x97_7 : Int), rlook ls 0 = some (.ref (D 5)) → rlook ls 4 = some (I (x97_4)) → rlook ls 5 = some (I (x97_5)) → rlook ls 6 = some (I (x97_6)) → rlook ls 7 = some (I (x97_7)) → HS σ0 σ D N F_97 A_97 → SF [(5, 45)] F44 F_97 → SA [40] A45 A_97 → ∀ y97_5_45 : Int, F_97 5 45 = y97_5_45 → ∀ w97_40 : Int → Int, A_97 40 = w97_40 → (inr (x97_4)) → (inr (x97_5)) → (inr (x97_6)) → (inr (x97_7)) → (0 ≤ (x97_4) ∧ (x97_4) < p2 ((y6))) → (0 ≤ (x97_5) ∧ (x97_5) < p2 ((y6))) → (0 ≤ (x97_6) ∧ (x97_6) ≤ 255) → ((x97_7) = 0 ∨ (x97_7) = 1) → (0 ≤ (y17) ∧ (y17) + (y97_5_45) ≤ 524288) → (0 ≤ (y97_5_45)) → (IMP (((x97_7) : Int) = 1 ∧ ((x97_6) : Int) ≤ 254) (WBO ((w14)) ((a1)) ((a2)) (WP_) (oo_) (q3) ((x97_4)) ((x97_5)) ((y97_5_45)) ((x97_6)) ((w97_40)))) → (IMP (((x97_7) : Int) = 0 ∧ ((x97_6) : Int) ≤ 254) (WBO ((w14)) ((a1)) ((a2)) (WP_) (oo_) (q3) ((x97_5)) ((x97_4)) ((y97_5_45)) ((x97_6)) ((w97_40)))) → (IMP (((x97_6) : Int) = 255) (WBA ((w14)) ((a1)) ((a2)) (-1) (-1) ((w97_40)))) → (255 - (x97_6)).toNat = m → Ew 272 (d + 2) 97 ls [] σ c s Q from
          hl97 _ _ σ _ _ (z40) (z48) (0) (1) (rk_o (rk_o (rk_o (rk_o (rk_o (rfl) rfl rfl) rfl rfl) rfl rfl) rfl rfl) rfl rfl) (rk_o (rk_o (rk_o (rk_s) rfl rfl) rfl rfl) rfl rfl) (rk_o (rk_o (rk_s) rfl rfl) rfl rfl) (rk_o (rk_s) rfl rfl) (rk_s) H (SF_refl) (SA_refl) (y49) ((ey50)) (A 40) ((funext (hA47 40 rfl)).trans ((funext (hA39 40 rfl)).trans ((funext (hA27 40 rfl)).trans ((funext (hA15 40 rfl)).trans (funext (hA4 40 rfl)))))) (show inr (z40) by omega) (show inr (z48) by omega) (show inr (0) from q_2) (show inr (1) from q_135) (show 0 ≤ (z40) ∧ (z40) < p2 ((y6)) from pz40_2) (show 0 ≤ (z48) ∧ (z48) < p2 ((y6)) from pz48_2) (show 0 ≤ (0) ∧ (0) ≤ 255 from q_1407) (show (1) = 0 ∨ (1) = 1 from q_49) (show 0 ≤ (y17) ∧ (y17) + (y49) ≤ 524288 by omega) (show 0 ≤ (y49) from q_1406 b35 pz40_1 pz48_1) (show IMP (((1) : Int) = 1 ∧ ((0) : Int) ≤ 254) (WBO ((w14)) ((a1)) ((a2)) (WP_) (oo_) (q3) ((z40)) ((z48)) ((y49)) ((0)) ((A 40))) by assumption) (show IMP (((1) : Int) = 0 ∧ ((0) : Int) ≤ 254) (WBO ((w14)) ((a1)) ((a2)) (WP_) (oo_) (q3) ((z48)) ((z40)) ((y49)) ((0)) ((A 40))) by assumption) (show IMP (((0) : Int) = 255) (WBA ((w14)) ((a1)) ((a2)) (-1) (-1) ((A 40))) by assumption) rfl
        as_aux_lemma =>
        intro m
        induction m using Nat.strongRecOn with
        | _ m ih97 =>
          intro ls σ F_97 A_97 x97_4 x97_5 x97_6 x97_7 l97_0 l97_4 l97_5 l97_6 l97_7 H hS_97 hA_97 y97_5_45 ey97_5_45 w97_40 ew97_40 j97_0 j97_1 j97_2 j97_3 j97_4 j97_5 j97_6 j97_7 j97_8 j97_9 j97_10 j97_11 j97_12 hm97
          have r52 : (-100 : Int) ≤ y97_5_45 ∧ y97_5_45 ≤ 524288 := rngE (show (-100 : Int) ≤ F_97 5 45 ∧ F_97 5 45 ≤ 524288 from H.frng 5 45) (show F_97 5 45 = y97_5_45 from (ey97_5_45))
          have hpo_ : p2 ((y6)) = p2 oo_ := by rw [k2_]
          have j97_1 : IMP (((x97_7) : Int) = 1 ∧ ((x97_6) : Int) ≤ 254) (WBO ((w14)) ((a1)) ((a2)) (WP_) (oo_) (q3) ((x97_4)) ((x97_5)) ((y97_5_45)) ((x97_6)) ((w97_40))) := j97_10
          have j97_0 : IMP (((x97_7) : Int) = 0 ∧ ((x97_6) : Int) ≤ 254) (WBO ((w14)) ((a1)) ((a2)) (WP_) (oo_) (q3) ((x97_5)) ((x97_4)) ((y97_5_45)) ((x97_6)) ((w97_40))) := j97_11
          have j97_b : IMP (((x97_6) : Int) = 255) (WBA ((w14)) ((a1)) ((a2)) (-1) (-1) ((w97_40))) := j97_12
          refine Ew_of (pcₚ := 99) (fun _ => x_iload rfl l97_6) ?_
          refine Ew_of (pcₚ := 102) (fun _ => x_sipush (z := 255) rfl (by decide)) ?_
          refine w_icmpge (t := 253) rfl rfl (show inr (x97_6) from j97_2) (show inr (255) from q_297) (fun b53 => ?_) (fun b53 => ?_)
          · refine Ew_of (pcₚ := 254) (fun _ => x_iconst rfl) ?_
            have : WBA ((w14)) ((a1)) ((a2)) (-1) (-1) ((w97_40)) := j97_b (by omega)
            exact w_ireturn rfl (k ((-1)) σ _ _ H (SF_trans (SF_trans (SF_trans (SF_trans (SF_trans (SF_trans (SF_refl) hS3 (any_sub rfl)) hS14 (any_sub rfl)) hS26 (any_sub rfl)) hS38 (any_sub rfl)) hS46 (any_sub rfl)) hS_97 (any_sub rfl)) (SA_trans (SA_trans (SA_trans (SA_trans (SA_trans (SA_trans (SA_refl) hA4 (any_subA rfl)) hA15 (any_subA rfl)) hA27 (any_subA rfl)) hA39 (any_subA rfl)) hA47 (any_subA rfl)) hA_97 (any_subA rfl)) (w97_40) (ew97_40) (show inr ((-1)) from q_63) (show ((-1)) = -1 ∨ 2 ≤ ((-1)) ∧ ((-1)) ≤ 255 by first | exact q_1401 | omega) (show WBA ((w14)) (a1) (a2) (((-1))) (-1) ((w97_40)) by assumption))
          · have hbad : IMP ((x97_6) = 254) (∀ g2 : Int → Int, WBA ((w14)) ((a1)) ((a2)) (-1) (-1) g2) := fun z g2 => by rcases (show (x97_7) = 0 ∨ (x97_7) = 1 from j97_7) with y | y; (exact WBO_n (j97_0 ⟨y, by omega⟩) (by omega) rfl); (exact WBO_n (j97_1 ⟨y, by omega⟩) (by omega) rfl)
            obtain ⟨q6, hq6⟩ : ∃ q : Int, q = (x97_6) := ⟨_, rfl⟩
            obtain ⟨q7, hq7⟩ : ∃ q : Int, q = (x97_7) := ⟨_, rfl⟩
            refine Ew_of (pcₚ := 107) (fun _ => x_iload rfl l97_7) ?_
            have hc117 : ∀ (tc117_0 : Int), ∀ (ls : rO) (σ : rS) (F_c117 : hF) (A_c117 : hA) , rlook ls 0 = some (.ref (D 5)) → rlook ls 4 = some (I (x97_4)) → rlook ls 5 = some (I (x97_5)) → rlook ls 6 = some (I (x97_6)) → rlook ls 7 = some (I (x97_7)) → HS σ0 σ D N F_c117 A_c117 → SF [] F_97 F_c117 → SA [] A_97 A_c117 → (inr (tc117_0)) → (((x97_7) = (0) ∧ (tc117_0) = (x97_5)) ∨ ((x97_7) ≠ (0) ∧ (tc117_0) = (x97_4))) → Ew 272 (d + 2) 117 ls [I (tc117_0)] σ c s Q := by
             as_aux_lemma =>
              intro tc117_0 ls σ F_c117 A_c117  lc117_0 lc117_4 lc117_5 lc117_6 lc117_7 H hS_c117 hA_c117   jc117_0 jc117_1
              refine Ew_of (pcₚ := 119) (fun _ => x_istore rfl) ?_
              have hti := (pz28_0) ((tc117_0)) (by omega) (by omega)
              rw [Int.zero_add] at hti
              have hto := (pz28_0) ((x97_4)) (by omega) (by omega)
              rw [Int.zero_add] at hto
              have htw := (pz28_0) ((x97_5)) (by omega) (by omega)
              rw [Int.zero_add] at htw
              have hT8 := TST_r (P := WP_) (k := (tc117_0)) (by omega) hLD (fun i x y => k4_ i x (by omega)) (by omega) (by omega) (by omega)
              have hT4 := TST_r (P := WP_) (k := (x97_4)) (by omega) hLD (fun i x y => k4_ i x (by omega)) (by omega) (by omega) (by omega)
              have hT5 := TST_r (P := WP_) (k := (x97_5)) (by omega) hLD (fun i x y => k4_ i x (by omega)) (by omega) (by omega) (by omega)
              rw [k2_] at hT8 hT4 hT5
              refine Ew_of (pcₚ := 120) (fun _ => x_aload_n rfl (rk_o (lc117_0) rfl rfl)) ?_
              refine w_gT H (o := 5) (t := 40) rfl (H.perm 5 rfl) rfl rfl rfl rfl rfl rfl ?_
              refine Ew_of (pcₚ := 125) (fun _ => x_iload rfl (rk_o (lc117_6) rfl rfl)) ?_
              refine Ew_of (pcₚ := 126) (fun _ => x_aload_n rfl (rk_o (lc117_0) rfl rfl)) ?_
              refine w_gT H (o := 5) (t := 42) rfl (H.perm 5 rfl) rfl rfl rfl rfl rfl rfl ?_
              refine Ew_of (pcₚ := 131) (fun _ => x_iload rfl rk_s) ?_
              refine w_lI H (o := 42) (n := 64) rfl (H.perm 42 rfl) rfl rfl (H.fix 42 rfl rfl) (show 0 ≤ tc117_0 ∧ tc117_0 < ((64 : Nat) : Int) by omega) (by decide) (fun v54 ev54 qv54 => ?_)
              have qv54 : (-1 : Int) ≤ v54 ∧ v54 ≤ 11 := qv54
              have ev54 : (wq29) (tc117_0) = v54 := (congrFun ((funext (hA_c117 42 rfl)).trans ((funext (hA_97 42 rfl)).trans ((funext (hA47 42 rfl)).trans ((funext (hA39 42 rfl)).trans (ewq30))))) (tc117_0)).symm.trans ev54
              have hs8 := ev54
              rw [hs8] at hT8
              refine w_sI H (o := 40) (n := 256) rfl (H.perm 40 rfl) rfl rfl (H.fix 40 rfl rfl) (show 0 ≤ x97_6 ∧ x97_6 < ((256 : Nat) : Int) from q_1409 b53 j97_6) (by decide) (show (-1 : Int) ≤ v54 ∧ v54 ≤ 15 from q_1408 qv54) (fun σ H => ?_)
              refine Ew_of (pcₚ := 136) (fun _ => x_iinc (len := 3) rfl (rk_o (lc117_6) rfl rfl)) ?_
              refine Ew_of (pcₚ := 137) (fun _ => x_aload_n rfl (rk_o (rk_o (lc117_0) rfl rfl) rfl rfl)) ?_
              refine w_gT H (o := 5) (t := 43) rfl (H.perm 5 rfl) rfl rfl rfl rfl rfl rfl ?_
              refine Ew_of (pcₚ := 142) (fun _ => x_iload rfl (rk_o (rk_s) rfl rfl)) ?_
              refine w_lI H (o := 43) (n := 64) rfl (H.perm 43 rfl) rfl rfl (H.fix 43 rfl rfl) (show 0 ≤ tc117_0 ∧ tc117_0 < ((64 : Nat) : Int) by omega) (by decide) (fun v55 ev55 qv55 => ?_)
              have qv55 : (0 : Int) ≤ v55 ∧ v55 ≤ 6 := qv55
              have ev55 : (wq31) (tc117_0) = v55 := (congrFun ((funext (hA_c117 43 rfl)).trans ((funext (hA_97 43 rfl)).trans ((funext (hA47 43 rfl)).trans ((funext (hA39 43 rfl)).trans (ewq32))))) (tc117_0)).symm.trans ev55
              refine Ew_of (pcₚ := 145) (fun _ => x_istore rfl) ?_
              have hb9 := ev55
              rw [hb9] at hti
              rw [hb9] at hT8
              have hpb := p2_le9 (o := (v55)) (by omega)
              refine Ew_of (pcₚ := 146) (fun _ => x_aload_n rfl (rk_o (rk_o (rk_o (lc117_0) rfl rfl) rfl rfl) rfl rfl)) ?_
              refine w_gI H (o := 5) (w := y97_5_45) rfl (H.perm 5 rfl) rfl rfl rfl (fun _ => rfl) ((hS_c117 5 45 rfl).trans (ey97_5_45)) ?_
              refine Ew_of (pcₚ := 151) (fun _ => x_iload rfl rk_s) ?_
              refine w_icmpge (t := 193) rfl rfl (show inr (y97_5_45) from q_1410 r52) (show inr (v55) from q_1104 qv55) (fun b56 => ?_) (fun b56 => ?_)
              · refine Ew_of (pcₚ := 194) (fun _ => x_aload_n rfl (rk_o (rk_o (rk_o (lc117_0) rfl rfl) rfl rfl) rfl rfl)) ?_
                refine w_gT H (o := 5) (t := 44) rfl (H.perm 5 rfl) rfl rfl rfl rfl rfl rfl ?_
                refine Ew_of (pcₚ := 199) (fun _ => x_iload rfl (rk_o (rk_o (rk_s) rfl rfl) rfl rfl)) ?_
                refine w_lI H (o := 44) (n := 64) rfl (H.perm 44 rfl) rfl rfl (H.fix 44 rfl rfl) (show 0 ≤ tc117_0 ∧ tc117_0 < ((64 : Nat) : Int) by omega) (by decide) (fun v57 ev57 qv57 => ?_)
                have qv57 : (0 : Int) ≤ v57 ∧ v57 ≤ 63 := qv57
                have ev57 : (wq33) (tc117_0) = v57 := (congrFun ((funext (hA_c117 44 rfl)).trans ((funext (hA_97 44 rfl)).trans ((funext (hA47 44 rfl)).trans ((funext (hA39 44 rfl)).trans (ewq34))))) (tc117_0)).symm.trans ev57
                have hz9 := ev57
                rw [hz9] at hT8
                refine Ew_of (pcₚ := 201) (fun _ => x_aload_n rfl (rk_o (rk_o (rk_o (lc117_0) rfl rfl) rfl rfl) rfl rfl)) ?_
                refine Ew_of (pcₚ := 203) (fun _ => x_iload rfl rk_s) ?_
                refine w_inv H (o := 5) rfl rfl rfl (H.perm 5 rfl) rfl rfl (by rfl) (M268 H (y17) (((((((hS_c117 5 44 rfl).trans (hS_97 5 44 rfl)).trans (hS46 5 44 rfl)).trans (hS38 5 44 rfl)).trans (hS26 5 44 rfl)).trans (ey18))) (y97_5_45) (((hS_c117 5 45 rfl).trans (ey97_5_45))) (w14) ((funext (hA_c117 14 rfl)).trans ((funext (hA_97 14 rfl)).trans ((funext (hA47 14 rfl)).trans ((funext (hA39 14 rfl)).trans ((funext (hA27 14 rfl)).trans ((funext (hA15 14 rfl)).trans ((funext (hA4 14 rfl)).trans (ew14)))))))) (show inr (v55) from q_1104 qv55) (show 0 ≤ (v55) ∧ (v55) ≤ 31 from q_1411 qv55) (show 0 ≤ (y17) ∧ (y17) + (y97_5_45) ≤ 524288 from j97_8) (show (v55) ≤ (y97_5_45) from b56) (fun z62 σ F58 A59 H hS60 hA61 y63 ey64 pz62_0 pz62_1 pz62_2 pz62_3 => ⟨rfl, ?_⟩))
                have r65 : (-100 : Int) ≤ y63 ∧ y63 ≤ 524288 := rngE (show (-100 : Int) ≤ F58 5 45 ∧ F58 5 45 ≤ 524288 from H.frng 5 45) (show F58 5 45 = y63 from (ey64))
                have hv9 := pz62_3
                refine w_l2i rfl ?_
                refine w_iadd rfl ?_
                refine Ew_of (pcₚ := 210) (fun _ => x_istore rfl) ?_
                refine Ew_of (pcₚ := 212) (fun _ => x_iload rfl (rk_o (rk_o (rk_o (rk_o (lc117_7) rfl rfl) rfl rfl) rfl rfl) rfl rfl)) ?_
                have hc222 : ∀ (tc222_0 : Int), ∀ (ls : rO) (σ : rS) (F_c222 : hF) (A_c222 : hA) , rlook ls 0 = some (.ref (D 5)) → rlook ls 5 = some (I (x97_5)) → rlook ls 6 = some (I ((x97_6 + 1))) → rlook ls 7 = some (I (x97_7)) → rlook ls 8 = some (I ((v57 + z62))) → HS σ0 σ D N F_c222 A_c222 → SF [] F58 F_c222 → SA [] A59 A_c222 → (inr (tc222_0)) → (((x97_7) = (0) ∧ (tc222_0) = (x97_4)) ∨ ((x97_7) ≠ (0) ∧ (tc222_0) = ((v57 + z62)))) → Ew 272 (d + 2) 222 ls [I (tc222_0)] σ c s Q := by
                 as_aux_lemma =>
                  intro tc222_0 ls σ F_c222 A_c222  lc222_0 lc222_5 lc222_6 lc222_7 lc222_8 H hS_c222 hA_c222   jc222_0 jc222_1
                  refine Ew_of (pcₚ := 224) (fun _ => x_istore rfl) ?_
                  refine Ew_of (pcₚ := 226) (fun _ => x_iload rfl (rk_o (lc222_7) rfl rfl)) ?_
                  have hc236 : ∀ (tc236_0 : Int), ∀ (ls : rO) (σ : rS) (F_c236 : hF) (A_c236 : hA) , rlook ls 0 = some (.ref (D 5)) → rlook ls 4 = some (I (tc222_0)) → rlook ls 6 = some (I ((x97_6 + 1))) → rlook ls 7 = some (I (x97_7)) → HS σ0 σ D N F_c236 A_c236 → SF [] F_c222 F_c236 → SA [] A_c222 A_c236 → (inr (tc236_0)) → (((x97_7) = (0) ∧ (tc236_0) = ((v57 + z62))) ∨ ((x97_7) ≠ (0) ∧ (tc236_0) = (x97_5))) → Ew 272 (d + 2) 236 ls [I (tc236_0)] σ c s Q := by
                   as_aux_lemma =>
                    intro tc236_0 ls σ F_c236 A_c236  lc236_0 lc236_4 lc236_6 lc236_7 H hS_c236 hA_c236   jc236_0 jc236_1
                    refine Ew_of (pcₚ := 238) (fun _ => x_istore rfl) ?_
                    refine Ew_of (pcₚ := 240) (fun _ => x_iload rfl (rk_o (lc236_7) rfl rfl)) ?_
                    refine w_ifne (t := 247) rfl rfl (show inr (x97_7) from j97_3) (fun b66 => ?_) (fun b66 => ?_)
                    · refine Ew_of (pcₚ := 248) (fun _ => x_iconst rfl) ?_
                      refine Ew_of (pcₚ := 250) (fun _ => x_istore rfl) ?_
                      refine Ew_of (pcₚ := 97) (fun _ => x_goto rfl rfl) ?_
                      have : IMP (((0) : Int) = 1 ∧ (((x97_6 + 1)) : Int) ≤ 254) (WBO ((w14)) ((a1)) ((a2)) (WP_) (oo_) (q3) ((tc222_0)) ((tc236_0)) ((y63)) (((x97_6 + 1))) ((upd1 (w97_40) (x97_6) (v54)))) := by first | exact fun q => absurd q.1 (by omega) | (exact fun q => by have q1 := q.1; have q2 := q.2; exact WBO_s (j97_0 ⟨by omega, by omega⟩) (by omega) (by omega) (by omega) hT8 (by omega) (by omega) hv9 (by omega) (by omega) (by omega) (by omega) (by omega))
                      have : IMP (((0) : Int) = 0 ∧ (((x97_6 + 1)) : Int) ≤ 254) (WBO ((w14)) ((a1)) ((a2)) (WP_) (oo_) (q3) ((tc236_0)) ((tc222_0)) ((y63)) (((x97_6 + 1))) ((upd1 (w97_40) (x97_6) (v54)))) := by first | exact fun q => absurd q.1 (by omega) | (exact fun q => by have q1 := q.1; have q2 := q.2; exact WBO_s (j97_1 ⟨by omega, by omega⟩) (by omega) (by omega) (by omega) hT8 (by omega) (by omega) hv9 (by omega) (by omega) (by omega) (by omega) (by omega))
                      have : IMP ((((x97_6 + 1)) : Int) = 255) (WBA ((w14)) ((a1)) ((a2)) (-1) (-1) ((upd1 (w97_40) (x97_6) (v54)))) := fun z => hbad (by omega) _
                      exact ih97 _ (msE hm97 q_1416 (q_1417 b53)) _ σ _ _ (tc222_0) (tc236_0) ((x97_6 + 1)) (0) (rk_o (rk_o (lc236_0) rfl rfl) rfl rfl) (rk_o (rk_o (lc236_4) rfl rfl) rfl rfl) (rk_o (rk_s) rfl rfl) (rk_o (rk_o (lc236_6) rfl rfl) rfl rfl) (rk_s) H (SF_trans (SF_trans (SF_trans (SF_trans (hS_97) hS_c117 (any_sub rfl)) hS60 (any_sub rfl)) hS_c222 (any_sub rfl)) hS_c236 (any_sub rfl)) (SA_trans (SA_trans (SA_trans (SA_upd (SA_trans (hA_97) hA_c117 (any_subA rfl)) rfl) hA61 (any_subA rfl)) hA_c222 (any_subA rfl)) hA_c236 (any_subA rfl)) (y63) ((((hS_c236 5 45 rfl).trans (hS_c222 5 45 rfl)).trans (ey64))) (upd1 (w97_40) (x97_6) (v54)) ((funext (hA_c236 40 rfl)).trans ((funext (hA_c222 40 rfl)).trans ((funext (hA61 40 rfl)).trans (congrArg (fun q => upd1 q (x97_6) (v54)) ((funext (hA_c117 40 rfl)).trans (ew97_40)))))) (show inr (tc222_0) from jc222_0) (show inr (tc236_0) from jc236_0) (show inr ((x97_6 + 1)) from q_1415 b53 j97_6) (show inr (0) from q_2) (show 0 ≤ (tc222_0) ∧ (tc222_0) < p2 ((y6)) by omega) (show 0 ≤ (tc236_0) ∧ (tc236_0) < p2 ((y6)) by omega) (show 0 ≤ ((x97_6 + 1)) ∧ ((x97_6 + 1)) ≤ 255 from q_1414 b53 j97_6) (show (0) = 0 ∨ (0) = 1 from q_45) (show 0 ≤ (y17) ∧ (y17) + (y63) ≤ 524288 from q_1413 j97_8 pz62_1 qv55) (show 0 ≤ (y63) from q_1412 b56 pz62_1) (show IMP (((0) : Int) = 1 ∧ (((x97_6 + 1)) : Int) ≤ 254) (WBO ((w14)) ((a1)) ((a2)) (WP_) (oo_) (q3) ((tc222_0)) ((tc236_0)) ((y63)) (((x97_6 + 1))) ((upd1 (w97_40) (x97_6) (v54)))) by assumption) (show IMP (((0) : Int) = 0 ∧ (((x97_6 + 1)) : Int) ≤ 254) (WBO ((w14)) ((a1)) ((a2)) (WP_) (oo_) (q3) ((tc236_0)) ((tc222_0)) ((y63)) (((x97_6 + 1))) ((upd1 (w97_40) (x97_6) (v54)))) by assumption) (show IMP ((((x97_6 + 1)) : Int) = 255) (WBA ((w14)) ((a1)) ((a2)) (-1) (-1) ((upd1 (w97_40) (x97_6) (v54)))) by assumption) rfl
                    · refine Ew_of (pcₚ := 244) (fun _ => x_iconst rfl) ?_
                      refine Ew_of (pcₚ := 248) (fun _ => x_goto rfl rfl) ?_
                      refine Ew_of (pcₚ := 250) (fun _ => x_istore rfl) ?_
                      refine Ew_of (pcₚ := 97) (fun _ => x_goto rfl rfl) ?_
                      have : IMP (((1) : Int) = 1 ∧ (((x97_6 + 1)) : Int) ≤ 254) (WBO ((w14)) ((a1)) ((a2)) (WP_) (oo_) (q3) ((tc222_0)) ((tc236_0)) ((y63)) (((x97_6 + 1))) ((upd1 (w97_40) (x97_6) (v54)))) := by first | exact fun q => absurd q.1 (by omega) | (exact fun q => by have q1 := q.1; have q2 := q.2; exact WBO_s (j97_0 ⟨by omega, by omega⟩) (by omega) (by omega) (by omega) hT8 (by omega) (by omega) hv9 (by omega) (by omega) (by omega) (by omega) (by omega))
                      have : IMP (((1) : Int) = 0 ∧ (((x97_6 + 1)) : Int) ≤ 254) (WBO ((w14)) ((a1)) ((a2)) (WP_) (oo_) (q3) ((tc236_0)) ((tc222_0)) ((y63)) (((x97_6 + 1))) ((upd1 (w97_40) (x97_6) (v54)))) := by first | exact fun q => absurd q.1 (by omega) | (exact fun q => by have q1 := q.1; have q2 := q.2; exact WBO_s (j97_1 ⟨by omega, by omega⟩) (by omega) (by omega) (by omega) hT8 (by omega) (by omega) hv9 (by omega) (by omega) (by omega) (by omega) (by omega))
                      have : IMP ((((x97_6 + 1)) : Int) = 255) (WBA ((w14)) ((a1)) ((a2)) (-1) (-1) ((upd1 (w97_40) (x97_6) (v54)))) := fun z => hbad (by omega) _
                      exact ih97 _ (msE hm97 q_1416 (q_1417 b53)) _ σ _ _ (tc222_0) (tc236_0) ((x97_6 + 1)) (1) (rk_o (rk_o (lc236_0) rfl rfl) rfl rfl) (rk_o (rk_o (lc236_4) rfl rfl) rfl rfl) (rk_o (rk_s) rfl rfl) (rk_o (rk_o (lc236_6) rfl rfl) rfl rfl) (rk_s) H (SF_trans (SF_trans (SF_trans (SF_trans (hS_97) hS_c117 (any_sub rfl)) hS60 (any_sub rfl)) hS_c222 (any_sub rfl)) hS_c236 (any_sub rfl)) (SA_trans (SA_trans (SA_trans (SA_upd (SA_trans (hA_97) hA_c117 (any_subA rfl)) rfl) hA61 (any_subA rfl)) hA_c222 (any_subA rfl)) hA_c236 (any_subA rfl)) (y63) ((((hS_c236 5 45 rfl).trans (hS_c222 5 45 rfl)).trans (ey64))) (upd1 (w97_40) (x97_6) (v54)) ((funext (hA_c236 40 rfl)).trans ((funext (hA_c222 40 rfl)).trans ((funext (hA61 40 rfl)).trans (congrArg (fun q => upd1 q (x97_6) (v54)) ((funext (hA_c117 40 rfl)).trans (ew97_40)))))) (show inr (tc222_0) from jc222_0) (show inr (tc236_0) from jc236_0) (show inr ((x97_6 + 1)) from q_1415 b53 j97_6) (show inr (1) from q_135) (show 0 ≤ (tc222_0) ∧ (tc222_0) < p2 ((y6)) by omega) (show 0 ≤ (tc236_0) ∧ (tc236_0) < p2 ((y6)) by omega) (show 0 ≤ ((x97_6 + 1)) ∧ ((x97_6 + 1)) ≤ 255 from q_1414 b53 j97_6) (show (1) = 0 ∨ (1) = 1 from q_49) (show 0 ≤ (y17) ∧ (y17) + (y63) ≤ 524288 from q_1413 j97_8 pz62_1 qv55) (show 0 ≤ (y63) from q_1412 b56 pz62_1) (show IMP (((1) : Int) = 1 ∧ (((x97_6 + 1)) : Int) ≤ 254) (WBO ((w14)) ((a1)) ((a2)) (WP_) (oo_) (q3) ((tc222_0)) ((tc236_0)) ((y63)) (((x97_6 + 1))) ((upd1 (w97_40) (x97_6) (v54)))) by assumption) (show IMP (((1) : Int) = 0 ∧ (((x97_6 + 1)) : Int) ≤ 254) (WBO ((w14)) ((a1)) ((a2)) (WP_) (oo_) (q3) ((tc236_0)) ((tc222_0)) ((y63)) (((x97_6 + 1))) ((upd1 (w97_40) (x97_6) (v54)))) by assumption) (show IMP ((((x97_6 + 1)) : Int) = 255) (WBA ((w14)) ((a1)) ((a2)) (-1) (-1) ((upd1 (w97_40) (x97_6) (v54)))) by assumption) rfl
                  refine w_ifeq (t := 234) rfl rfl (show inr (x97_7) from j97_3) (fun b67 => ?_) (fun b67 => ?_)
                  · refine Ew_of (pcₚ := 236) (fun _ => x_iload rfl (rk_o (lc222_8) rfl rfl)) ?_
                    exact hc236 ((v57 + z62)) _ σ _ _  (rk_o (lc222_0) rfl rfl) (rk_s) (rk_o (lc222_6) rfl rfl) (rk_o (lc222_7) rfl rfl) H (SF_refl) (SA_refl)   (show inr ((v57 + z62)) by omega) (show ((x97_7) = (0) ∧ ((v57 + z62)) = ((v57 + z62))) ∨ ((x97_7) ≠ (0) ∧ ((v57 + z62)) = (x97_5)) from q_1418 b67)
                  · refine Ew_of (pcₚ := 231) (fun _ => x_iload rfl (rk_o (lc222_5) rfl rfl)) ?_
                    refine Ew_of (pcₚ := 236) (fun _ => x_goto rfl rfl) ?_
                    exact hc236 (x97_5) _ σ _ _  (rk_o (lc222_0) rfl rfl) (rk_s) (rk_o (lc222_6) rfl rfl) (rk_o (lc222_7) rfl rfl) H (SF_refl) (SA_refl)   (show inr (x97_5) by omega) (show ((x97_7) = (0) ∧ (x97_5) = ((v57 + z62))) ∨ ((x97_7) ≠ (0) ∧ (x97_5) = (x97_5)) from q_1419 b67)
                refine w_ifeq (t := 220) rfl rfl (show inr (x97_7) from j97_3) (fun b68 => ?_) (fun b68 => ?_)
                · refine Ew_of (pcₚ := 222) (fun _ => x_iload rfl (rk_o (rk_o (rk_o (rk_o (lc117_4) rfl rfl) rfl rfl) rfl rfl) rfl rfl)) ?_
                  exact hc222 (x97_4) _ σ _ _  (rk_o (rk_o (rk_o (rk_o (lc117_0) rfl rfl) rfl rfl) rfl rfl) rfl rfl) (rk_o (rk_o (rk_o (rk_o (lc117_5) rfl rfl) rfl rfl) rfl rfl) rfl rfl) (rk_o (rk_o (rk_s) rfl rfl) rfl rfl) (rk_o (rk_o (rk_o (rk_o (lc117_7) rfl rfl) rfl rfl) rfl rfl) rfl rfl) (rk_s) H (SF_refl) (SA_refl)   (show inr (x97_4) by omega) (show ((x97_7) = (0) ∧ (x97_4) = (x97_4)) ∨ ((x97_7) ≠ (0) ∧ (x97_4) = ((v57 + z62))) from q_1420 b68)
                · refine Ew_of (pcₚ := 217) (fun _ => x_iload rfl rk_s) ?_
                  refine Ew_of (pcₚ := 222) (fun _ => x_goto rfl rfl) ?_
                  exact hc222 ((v57 + z62)) _ σ _ _  (rk_o (rk_o (rk_o (rk_o (lc117_0) rfl rfl) rfl rfl) rfl rfl) rfl rfl) (rk_o (rk_o (rk_o (rk_o (lc117_5) rfl rfl) rfl rfl) rfl rfl) rfl rfl) (rk_o (rk_o (rk_s) rfl rfl) rfl rfl) (rk_o (rk_o (rk_o (rk_o (lc117_7) rfl rfl) rfl rfl) rfl rfl) rfl rfl) (rk_s) H (SF_refl) (SA_refl)   (show inr ((v57 + z62)) by omega) (show ((x97_7) = (0) ∧ ((v57 + z62)) = (x97_4)) ∨ ((x97_7) ≠ (0) ∧ ((v57 + z62)) = ((v57 + z62))) from q_1421 b68)
              · refine Ew_of (pcₚ := 156) (fun _ => x_iload rfl (rk_o (rk_s) rfl rfl)) ?_
                refine Ew_of (pcₚ := 159) (fun _ => x_sipush (z := 255) rfl (by decide)) ?_
                refine w_icmpne (t := 164) rfl rfl (show inr ((x97_6 + 1)) from q_1415 b53 j97_6) (show inr (255) from q_297) (fun b69 => ?_) (fun b69 => ?_)
                · refine Ew_of (pcₚ := 165) (fun _ => x_aload_n rfl (rk_o (rk_o (rk_o (lc117_0) rfl rfl) rfl rfl) rfl rfl)) ?_
                  refine w_gT H (o := 5) (t := 40) rfl (H.perm 5 rfl) rfl rfl rfl rfl rfl rfl ?_
                  refine Ew_of (pcₚ := 170) (fun _ => x_iload rfl (rk_o (rk_s) rfl rfl)) ?_
                  refine Ew_of (pcₚ := 171) (fun _ => x_aload_n rfl (rk_o (rk_o (rk_o (lc117_0) rfl rfl) rfl rfl) rfl rfl)) ?_
                  refine w_gT H (o := 5) (t := 42) rfl (H.perm 5 rfl) rfl rfl rfl rfl rfl rfl ?_
                  refine Ew_of (pcₚ := 176) (fun _ => x_iload rfl (rk_o (rk_o (rk_o (lc117_7) rfl rfl) rfl rfl) rfl rfl)) ?_
                  have hc186 : ∀ (tc186_0 : Int), ∀ (ls : rO) (σ : rS) (F_c186 : hF) (A_c186 : hA) , rlook ls 6 = some (I ((x97_6 + 1))) → HS σ0 σ D N F_c186 A_c186 → SF [] F_c117 F_c186 → SA [] (updA A_c117 40 (x97_6) (v54)) A_c186 → (inr (tc186_0)) → (((x97_7) = (0) ∧ (tc186_0) = (x97_4)) ∨ ((x97_7) ≠ (0) ∧ (tc186_0) = (x97_5))) → Ew 272 (d + 2) 186 ls [I (tc186_0), .ref (D 42), I ((x97_6 + 1)), .ref (D 40)] σ c s Q := by
                   as_aux_lemma =>
                    intro tc186_0 ls σ F_c186 A_c186  lc186_6 H hS_c186 hA_c186   jc186_0 jc186_1
                    obtain ⟨qi, hqi⟩ : ∃ q : Int, q = (tc186_0) := ⟨_, rfl⟩
                    have hq7i : q7 = 0 ∧ qi = x97_4 ∨ q7 = 1 ∧ qi = x97_5 := by omega
                    refine w_lI H (o := 42) (n := 64) rfl (H.perm 42 rfl) rfl rfl (H.fix 42 rfl rfl) (show 0 ≤ tc186_0 ∧ tc186_0 < ((64 : Nat) : Int) by omega) (by decide) (fun v70 ev70 qv70 => ?_)
                    have qv70 : (-1 : Int) ≤ v70 ∧ v70 ≤ 11 := qv70
                    have ev70 : (wq29) (tc186_0) = v70 := (congrFun ((funext (hA_c186 42 rfl)).trans ((funext (hA_c117 42 rfl)).trans ((funext (hA_97 42 rfl)).trans ((funext (hA47 42 rfl)).trans ((funext (hA39 42 rfl)).trans (ewq30)))))) (tc186_0)).symm.trans ev70
                    have hs5 := ev70
                    rw [← hqi] at hs5
                    refine w_sI H (o := 40) (n := 256) rfl (H.perm 40 rfl) rfl rfl (H.fix 40 rfl rfl) (show 0 ≤ (x97_6 + 1) ∧ (x97_6 + 1) < ((256 : Nat) : Int) from q_1422 b53 j97_6) (by decide) (show (-1 : Int) ≤ v70 ∧ v70 ≤ 15 from q_1408 qv70) (fun σ H => ?_)
                    refine Ew_of (pcₚ := 190) (fun _ => x_iload rfl lc186_6) ?_
                    refine Ew_of (pcₚ := 191) (fun _ => x_iconst rfl) ?_
                    refine w_iadd rfl ?_
                    have : WBA ((w14)) ((a1)) ((a2)) ((((x97_6 + 1) + 1))) (-1) ((upd1 (upd1 (w97_40) (x97_6) (v54)) ((x97_6 + 1)) (v70))) := by rcases (show q7 = 0 ∨ q7 = 1 by omega) with y | y; (exact WBO_e (j97_0 ⟨by omega, by omega⟩) (by omega) (by omega) (by omega) hT8 (by omega) (by have h := hT4; rw [show x97_4 = qi by omega, hs5] at h; exact h) (by omega) (by omega) (by omega) (by omega)); (exact WBO_e (j97_1 ⟨by omega, by omega⟩) (by omega) (by omega) (by omega) hT8 (by omega) (by have h := hT5; rw [show x97_5 = qi by omega, hs5] at h; exact h) (by omega) (by omega) (by omega) (by omega))
                    exact w_ireturn rfl (k (((x97_6 + 1) + 1)) σ _ _ H (SF_trans (SF_trans (SF_trans (SF_trans (SF_trans (SF_trans (SF_trans (SF_trans (SF_refl) hS3 (any_sub rfl)) hS14 (any_sub rfl)) hS26 (any_sub rfl)) hS38 (any_sub rfl)) hS46 (any_sub rfl)) hS_97 (any_sub rfl)) hS_c117 (any_sub rfl)) hS_c186 (any_sub rfl)) (SA_upd (SA_trans (SA_upd (SA_trans (SA_trans (SA_trans (SA_trans (SA_trans (SA_trans (SA_trans (SA_refl) hA4 (any_subA rfl)) hA15 (any_subA rfl)) hA27 (any_subA rfl)) hA39 (any_subA rfl)) hA47 (any_subA rfl)) hA_97 (any_subA rfl)) hA_c117 (any_subA rfl)) rfl) hA_c186 (any_subA rfl)) rfl) (upd1 (upd1 (w97_40) (x97_6) (v54)) ((x97_6 + 1)) (v70)) (congrArg (fun q => upd1 q ((x97_6 + 1)) (v70)) ((funext (hA_c186 40 rfl)).trans (congrArg (fun q => upd1 q (x97_6) (v54)) ((funext (hA_c117 40 rfl)).trans (ew97_40))))) (show inr (((x97_6 + 1) + 1)) from q_1423 b53 j97_6) (show (((x97_6 + 1) + 1)) = -1 ∨ 2 ≤ (((x97_6 + 1) + 1)) ∧ (((x97_6 + 1) + 1)) ≤ 255 by omega) (show WBA ((w14)) (a1) (a2) ((((x97_6 + 1) + 1))) (-1) ((upd1 (upd1 (w97_40) (x97_6) (v54)) ((x97_6 + 1)) (v70))) by assumption))
                  refine w_ifeq (t := 184) rfl rfl (show inr (x97_7) from j97_3) (fun b71 => ?_) (fun b71 => ?_)
                  · refine Ew_of (pcₚ := 186) (fun _ => x_iload rfl (rk_o (rk_o (rk_o (lc117_4) rfl rfl) rfl rfl) rfl rfl)) ?_
                    exact hc186 (x97_4) _ σ _ _  (rk_o (rk_s) rfl rfl) H (SF_refl) (SA_refl)   (show inr (x97_4) by omega) (show ((x97_7) = (0) ∧ (x97_4) = (x97_4)) ∨ ((x97_7) ≠ (0) ∧ (x97_4) = (x97_5)) from q_1424 b71)
                  · refine Ew_of (pcₚ := 181) (fun _ => x_iload rfl (rk_o (rk_o (rk_o (lc117_5) rfl rfl) rfl rfl) rfl rfl)) ?_
                    refine Ew_of (pcₚ := 186) (fun _ => x_goto rfl rfl) ?_
                    exact hc186 (x97_5) _ σ _ _  (rk_o (rk_s) rfl rfl) H (SF_refl) (SA_refl)   (show inr (x97_5) by omega) (show ((x97_7) = (0) ∧ (x97_5) = (x97_4)) ∨ ((x97_7) ≠ (0) ∧ (x97_5) = (x97_5)) from q_1425 b71)
                · refine Ew_of (pcₚ := 163) (fun _ => x_iconst rfl) ?_
                  have : WBA ((w14)) ((a1)) ((a2)) (-1) (-1) ((upd1 (w97_40) (x97_6) (v54))) := hbad (by omega) _
                  exact w_ireturn rfl (k ((-1)) σ _ _ H (SF_trans (SF_trans (SF_trans (SF_trans (SF_trans (SF_trans (SF_trans (SF_refl) hS3 (any_sub rfl)) hS14 (any_sub rfl)) hS26 (any_sub rfl)) hS38 (any_sub rfl)) hS46 (any_sub rfl)) hS_97 (any_sub rfl)) hS_c117 (any_sub rfl)) (SA_upd (SA_trans (SA_trans (SA_trans (SA_trans (SA_trans (SA_trans (SA_trans (SA_refl) hA4 (any_subA rfl)) hA15 (any_subA rfl)) hA27 (any_subA rfl)) hA39 (any_subA rfl)) hA47 (any_subA rfl)) hA_97 (any_subA rfl)) hA_c117 (any_subA rfl)) rfl) (upd1 (w97_40) (x97_6) (v54)) (congrArg (fun q => upd1 q (x97_6) (v54)) ((funext (hA_c117 40 rfl)).trans (ew97_40))) (show inr ((-1)) from q_63) (show ((-1)) = -1 ∨ 2 ≤ ((-1)) ∧ ((-1)) ≤ 255 by first | exact q_1401 | omega) (show WBA ((w14)) (a1) (a2) (((-1))) (-1) ((upd1 (w97_40) (x97_6) (v54))) by assumption))
            refine w_ifeq (t := 115) rfl rfl (show inr (x97_7) from j97_3) (fun b72 => ?_) (fun b72 => ?_)
            · refine Ew_of (pcₚ := 117) (fun _ => x_iload rfl l97_5) ?_
              exact hc117 (x97_5) _ σ _ _  (l97_0) (l97_4) (l97_5) (l97_6) (l97_7) H (SF_refl) (SA_refl)   (show inr (x97_5) by omega) (show ((x97_7) = (0) ∧ (x97_5) = (x97_5)) ∨ ((x97_7) ≠ (0) ∧ (x97_5) = (x97_4)) from q_1424 b72)
            · refine Ew_of (pcₚ := 112) (fun _ => x_iload rfl l97_4) ?_
              refine Ew_of (pcₚ := 117) (fun _ => x_goto rfl rfl) ?_
              exact hc117 (x97_4) _ σ _ _  (l97_0) (l97_4) (l97_5) (l97_6) (l97_7) H (SF_refl) (SA_refl)   (show inr (x97_4) by omega) (show ((x97_7) = (0) ∧ (x97_4) = (x97_5)) ∨ ((x97_7) ≠ (0) ∧ (x97_4) = (x97_4)) from q_1425 b72)
      · refine Ew_of (pcₚ := 68) (fun _ => x_iconst rfl) ?_
        have : WBA ((w14)) ((a1)) ((a2)) (-1) (-1) ((A 40)) := WBA_l hQ_ (by omega) ho1 (by omega) rfl
        exact w_ireturn rfl (k ((-1)) σ _ _ H (SF_trans (SF_trans (SF_trans (SF_refl) hS3 (any_sub rfl)) hS14 (any_sub rfl)) hS26 (any_sub rfl)) (SA_trans (SA_trans (SA_trans (SA_refl) hA4 (any_subA rfl)) hA15 (any_subA rfl)) hA27 (any_subA rfl)) (A 40) ((funext (hA27 40 rfl)).trans ((funext (hA15 40 rfl)).trans (funext (hA4 40 rfl)))) (show inr ((-1)) from q_63) (show ((-1)) = -1 ∨ 2 ≤ ((-1)) ∧ ((-1)) ≤ 255 by first | exact q_1401 | omega) (show WBA ((w14)) (a1) (a2) (((-1))) (-1) ((A 40)) by assumption))
    · refine Ew_of (pcₚ := 25) (fun _ => x_iconst rfl) ?_
      have : WBA ((w14)) ((a1)) ((a2)) (-1) (-1) ((A 40)) := by first | exact WBA_s hQ_ (hd0 (by omega)) rfl | exact WBA_o hQ_ (by omega) hop (by omega) rfl
      exact w_ireturn rfl (k ((-1)) σ _ _ H (SF_trans (SF_trans (SF_refl) hS3 (any_sub rfl)) hS14 (any_sub rfl)) (SA_trans (SA_trans (SA_refl) hA4 (any_subA rfl)) hA15 (any_subA rfl)) (A 40) ((funext (hA15 40 rfl)).trans (funext (hA4 40 rfl))) (show inr ((-1)) from q_63) (show ((-1)) = -1 ∨ 2 ≤ ((-1)) ∧ ((-1)) ≤ 255 by first | exact q_1401 | omega) (show WBA ((w14)) (a1) (a2) (((-1))) (-1) ((A 40)) by assumption))

theorem M273 {σ0 σ : rS} {D N : Nat → Nat} {F : hF} {A : hA} {d c s : Nat} {Q : wQ} (H : HS σ0 σ D N F A) {a1 a2 a3 : Int} (u5_10 : Int) (eu5_10 : F 5 10 = u5_10) (u5_39 : Int) (eu5_39 : F 5 39 = u5_39) (w14 : Int → Int) (ew14 : A 14 = w14) (w31 : Int → Int) (ew31 : A 31 = w31) (w32 : Int → Int) (ew32 : A 32 = w32) (w46 : Int → Int) (ew46 : A 46 = w46) (GG : Int → Int) (h0 : inr (a1)) (h1 : inr (a2)) (h2 : inr (a3)) (h3 : ∀ i, 0 ≤ i → i < 256 → ((w31)) i = GG i) (h4 : 0 ≤ (a1) ∧ (a1) ≤ 65536 ∧ 0 ≤ (a2) ∧ (a2) ≤ 65536) (h5 : 0 ≤ (a3) ∧ (u5_39) + (a3) ≤ 131072) (h6 : 0 ≤ (u5_39)) (h7 : 0 ≤ (u5_10)) (h8 : fl ((w32)) (p2 ((u5_10))) = CELS (GG) ((u5_10))) (k : ∀ (z : Int) σ Fₚ Aₚ, HS σ0 σ D N Fₚ Aₚ → SF [(5, 39), (5, 44), (5, 45)] F Fₚ → SA [46] A Aₚ → ∀ y5_39 : Int, Fₚ 5 39 = y5_39 → ∀ v46 : Int → Int, Aₚ 46 = v46 → ((z) = 0 ∨ (z) = 1) → ((u5_39) ≤ (y5_39) ∧ (y5_39) ≤ (u5_39) + (a3)) → (DCA ((w14)) (GG) ((a1)) ((a2)) ((u5_10)) ((a3)) (sc ((w46)) 0 ((u5_39))) ((z)) (sc ((v46)) 0 ((y5_39)))) → ((z) = 0 ∨ (y5_39) = (u5_39) + (a3)) → Q (some (I z)) σ c s) : Ew 273 (d + 2) 0 (rargs 0 [.ref (D 5), I a1, I a2, I a3]) [] σ c s Q := by
  have r1 : (0 : Int) ≤ u5_10 ∧ u5_10 ≤ 11 := rngE (show (0 : Int) ≤ F 5 10 ∧ F 5 10 ≤ 11 from H.frng 5 10) (show F 5 10 = u5_10 from (eu5_10))
  have r2 : (0 : Int) ≤ u5_39 ∧ u5_39 ≤ 131072 := rngE (show (0 : Int) ≤ F 5 39 ∧ F 5 39 ≤ 131072 from H.frng 5 39) (show F 5 39 = u5_39 from (eu5_39))
  refine Ew_of (pcₚ := 1) (fun _ => x_aload_n rfl rfl) ?_
  refine Ew_of (pcₚ := 2) (fun _ => x_iload_n rfl rfl) ?_
  refine Ew_of (pcₚ := 3) (fun _ => x_iload_n rfl rfl) ?_
  refine w_inv H (o := 5) rfl rfl rfl (H.perm 5 rfl) rfl rfl (by rfl) (M267 H (w14) (ew14) (show inr (a1) from h0) (show inr (a2) from h1) (show 0 ≤ (a1) ∧ (a1) ≤ 65536 ∧ 0 ≤ (a2) ∧ (a2) ≤ 65536 from h4) (fun z7 σ F3 A4 H hS5 hA6 y8 ey9 y10 ey11 pz7_0 pz7_1 pz7_2 => ⟨rretB rfl pz7_0, ?_⟩))
  have r12 : (0 : Int) ≤ y8 ∧ y8 ≤ 524288 := rngE (show (0 : Int) ≤ F3 5 44 ∧ F3 5 44 ≤ 524288 from H.frng 5 44) (show F3 5 44 = y8 from (ey9))
  have r13 : (-100 : Int) ≤ y10 ∧ y10 ≤ 524288 := rngE (show (-100 : Int) ≤ F3 5 45 ∧ F3 5 45 ≤ 524288 from H.frng 5 45) (show F3 5 45 = y10 from (ey11))
  have hop := pz7_2
  refine w_ifne (t := 11) rfl rfl (show inr (z7) from q_138 pz7_0) (fun b14 => ?_) (fun b14 => ?_)
  · have hop1 : OPS ((w14)) ((a1)) ((a2)) 1 ((y10)) := by have h := hop; rw [show z7 = 1 by omega] at h; exact h
    refine Ew_of (pcₚ := 12) (fun _ => x_iconst rfl) ?_
    refine Ew_of (pcₚ := 14) (fun _ => x_istore rfl) ?_
    have : DCI ((w14)) (GG) ((a1)) ((a2)) ((u5_10)) ((a3)) (sc ((w46)) 0 ((u5_39))) 0 ((y10)) (sc ((w46)) 0 ((u5_39))) := DCI_0 hop1 (by omega)
    suffices hl14 : ∀ (m : Nat), ∀ (ls : rO) (σ : rS) (F_14 : hF) (A_14 : hA) (x14_4 : Int), rlook ls 0 = some (.ref (D 5)) → rlook ls 3 = some (I (a3)) → rlook ls 4 = some (I (x14_4)) → HS σ0 σ D N F_14 A_14 → SF [(5, 39), (5, 45)] F3 F_14 → SA [46] A4 A_14 → ∀ y14_5_39 : Int, F_14 5 39 = y14_5_39 → ∀ y14_5_45 : Int, F_14 5 45 = y14_5_45 → ∀ w14_46 : Int → Int, A_14 46 = w14_46 → (inr (x14_4)) → ((0) ≤ (x14_4)) → ((x14_4) ≤ (0) ∨ (x14_4) ≤ ((a3))) → ((y14_5_39) = (u5_39) + (x14_4)) → (0 ≤ (y14_5_45)) → (0 ≤ (y8) ∧ (y8) + (y14_5_45) ≤ 524288) → ((y8) = 8 * (a1)) → (DCI ((w14)) (GG) ((a1)) ((a2)) ((u5_10)) ((a3)) (sc ((w46)) 0 ((u5_39))) ((x14_4)) ((y14_5_45)) (sc ((w14_46)) 0 ((y14_5_39)))) → (((a3)) - (x14_4)).toNat = m → Ew 273 (d + 2) 14 ls [] σ c s Q from
      hl14 _ _ σ _ _ (0) (rk_o (rfl) rfl rfl) (rk_o (rfl) rfl rfl) (rk_s) H (SF_refl) (SA_refl) (u5_39) (((hS5 5 39 rfl).trans (eu5_39))) (y10) ((ey11)) (w46) ((funext (hA6 46 rfl)).trans (ew46)) (show inr (0) from q_2) (show (0) ≤ (0) from q_1) (show (0) ≤ (0) ∨ (0) ≤ ((a3)) from q_5) (show (u5_39) = (u5_39) + (0) from q_365) (show 0 ≤ (y10) from q_1428 b14 pz7_0 pz7_1) (show 0 ≤ (y8) ∧ (y8) + (y10) ≤ 524288 from q_1427 b14 h4 pz7_0 pz7_1 r12 r13) (show (y8) = 8 * (a1) from q_1426 b14 pz7_0 pz7_1) (show DCI ((w14)) (GG) ((a1)) ((a2)) ((u5_10)) ((a3)) (sc ((w46)) 0 ((u5_39))) ((0)) ((y10)) (sc ((w46)) 0 ((u5_39))) by assumption) rfl
    as_aux_lemma =>
    intro m
    induction m using Nat.strongRecOn with
    | _ m ih14 =>
      intro ls σ F_14 A_14 x14_4 l14_0 l14_3 l14_4 H hS_14 hA_14 y14_5_39 ey14_5_39 y14_5_45 ey14_5_45 w14_46 ew14_46 j14_0 j14_1 j14_2 j14_3 j14_4 j14_5 j14_6 j14_7 hm14
      have r15 : (0 : Int) ≤ y14_5_39 ∧ y14_5_39 ≤ 131072 := rngE (show (0 : Int) ≤ F_14 5 39 ∧ F_14 5 39 ≤ 131072 from H.frng 5 39) (show F_14 5 39 = y14_5_39 from (ey14_5_39))
      have r16 : (-100 : Int) ≤ y14_5_45 ∧ y14_5_45 ≤ 524288 := rngE (show (-100 : Int) ≤ F_14 5 45 ∧ F_14 5 45 ≤ 524288 from H.frng 5 45) (show F_14 5 45 = y14_5_45 from (ey14_5_45))
      have j14_i : DCI ((w14)) (GG) ((a1)) ((a2)) ((u5_10)) ((a3)) (sc ((w46)) 0 ((u5_39))) ((x14_4)) ((y14_5_45)) (sc ((w14_46)) 0 ((y14_5_39))) := j14_7
      refine Ew_of (pcₚ := 16) (fun _ => x_iload rfl l14_4) ?_
      refine Ew_of (pcₚ := 17) (fun _ => x_iload_n rfl l14_3) ?_
      refine w_icmpge (t := 139) rfl rfl (show inr (x14_4) from j14_0) (show inr (a3) from h2) (fun b17 => ?_) (fun b17 => ?_)
      · refine Ew_of (pcₚ := 140) (fun _ => x_aload_n rfl l14_0) ?_
        refine w_gI H (o := 5) (w := y14_5_45) rfl (H.perm 5 rfl) rfl rfl rfl (fun _ => rfl) (ey14_5_45) ?_
        refine w_ifne (t := 150) rfl rfl (show inr (y14_5_45) from q_1410 r16) (fun b18 => ?_) (fun b18 => ?_)
        · refine Ew_of (pcₚ := 151) (fun _ => x_iconst rfl) ?_
          have : DCA ((w14)) (GG) ((a1)) ((a2)) ((u5_10)) ((a3)) (sc ((w46)) 0 ((u5_39))) ((0)) (sc ((w14_46)) 0 ((y14_5_39))) := by first | exact DCA_y (DCI_e j14_i (by omega) (by omega)) (by omega) | exact DCA_f (DCI_x j14_i (by omega) (by omega)) (by omega)
          exact w_ireturn rfl (k (0) σ _ _ H (SF_trans (SF_trans (SF_refl) hS5 (any_sub rfl)) hS_14 (any_sub rfl)) (SA_trans (SA_trans (SA_refl) hA6 (any_subA rfl)) hA_14 (any_subA rfl)) (y14_5_39) ((ey14_5_39)) (w14_46) (ew14_46) (show (0) = 0 ∨ (0) = 1 by first | exact q_45 | omega) (show (u5_39) ≤ (y14_5_39) ∧ (y14_5_39) ≤ (u5_39) + a3 from q_1430 h5 j14_1 j14_2 j14_3) (show DCA ((w14)) (GG) (a1) (a2) ((u5_10)) (a3) (sc ((w46)) 0 ((u5_39))) ((0)) (sc ((w14_46)) 0 ((y14_5_39))) by assumption) (show (0) = 0 ∨ (y14_5_39) = (u5_39) + a3 by first | exact q_1429 | omega))
        · refine Ew_of (pcₚ := 147) (fun _ => x_iconst rfl) ?_
          refine Ew_of (pcₚ := 151) (fun _ => x_goto rfl rfl) ?_
          have : DCA ((w14)) (GG) ((a1)) ((a2)) ((u5_10)) ((a3)) (sc ((w46)) 0 ((u5_39))) ((1)) (sc ((w14_46)) 0 ((y14_5_39))) := by first | exact DCA_y (DCI_e j14_i (by omega) (by omega)) (by omega) | exact DCA_f (DCI_x j14_i (by omega) (by omega)) (by omega)
          exact w_ireturn rfl (k (1) σ _ _ H (SF_trans (SF_trans (SF_refl) hS5 (any_sub rfl)) hS_14 (any_sub rfl)) (SA_trans (SA_trans (SA_refl) hA6 (any_subA rfl)) hA_14 (any_subA rfl)) (y14_5_39) ((ey14_5_39)) (w14_46) (ew14_46) (show (1) = 0 ∨ (1) = 1 by first | exact q_49 | omega) (show (u5_39) ≤ (y14_5_39) ∧ (y14_5_39) ≤ (u5_39) + a3 from q_1430 h5 j14_1 j14_2 j14_3) (show DCA ((w14)) (GG) (a1) (a2) ((u5_10)) (a3) (sc ((w46)) 0 ((u5_39))) ((1)) (sc ((w14_46)) 0 ((y14_5_39))) by assumption) (show (1) = 0 ∨ (y14_5_39) = (u5_39) + a3 by omega))
      · refine Ew_of (pcₚ := 21) (fun _ => x_iconst rfl) ?_
        refine Ew_of (pcₚ := 23) (fun _ => x_istore rfl) ?_
        refine Ew_of (pcₚ := 24) (fun _ => x_iconst rfl) ?_
        refine Ew_of (pcₚ := 26) (fun _ => x_istore rfl) ?_
        have : p2 (1 - 1) = 1 := by decide
        have : (0 : Int) = pk ((w14)) (8 * (a1)) ((y14_5_45)) (1 - 1) := pk_00 (by omega)
        suffices hl26 : ∀ (m : Nat), ∀ (ls : rO) (σ : rS) (F_26 : hF) (A_26 : hA) (x26_5 : Int) (x26_6 : Int), rlook ls 0 = some (.ref (D 5)) → rlook ls 3 = some (I (a3)) → rlook ls 4 = some (I (x14_4)) → rlook ls 5 = some (I (x26_5)) → rlook ls 6 = some (I (x26_6)) → HS σ0 σ D N F_26 A_26 → SF [] F_14 F_26 → SA [] A_14 A_26 → (inr (x26_5)) → (inr (x26_6)) → (1 ≤ (x26_6)) → (0 ≤ (x26_5) ∧ (x26_5) < p2 ((x26_6) - 1)) → ((x26_6) ≤ (u5_10) + 1) → ((x26_5) = pk ((w14)) (8 * (a1)) ((y14_5_45)) ((x26_6) - 1)) → ((u5_10) + 1 - (x26_6)).toNat = m → Ew 273 (d + 2) 26 ls [] σ c s Q from
          hl26 _ _ σ _ _ (0) (1) (rk_o (rk_o (l14_0) rfl rfl) rfl rfl) (rk_o (rk_o (l14_3) rfl rfl) rfl rfl) (rk_o (rk_o (l14_4) rfl rfl) rfl rfl) (rk_o (rk_s) rfl rfl) (rk_s) H (SF_refl) (SA_refl)   (show inr (0) from q_2) (show inr (1) from q_135) (show 1 ≤ (1) from q_1387) (show 0 ≤ (0) ∧ (0) < p2 ((1) - 1) by omega) (show (1) ≤ (u5_10) + 1 from q_1431 r1) (show (0) = pk ((w14)) (8 * (a1)) ((y14_5_45)) ((1) - 1) by assumption) rfl
        as_aux_lemma =>
        intro m
        induction m using Nat.strongRecOn with
        | _ m ih26 =>
          intro ls σ F_26 A_26 x26_5 x26_6 l26_0 l26_3 l26_4 l26_5 l26_6 H hS_26 hA_26   j26_0 j26_1 j26_2 j26_3 j26_4 j26_5 hm26
          have j26_k : (x26_5) = pk ((w14)) (8 * (a1)) ((y14_5_45)) ((x26_6) - 1) := j26_5
          refine Ew_of (pcₚ := 28) (fun _ => x_iload rfl l26_6) ?_
          refine Ew_of (pcₚ := 29) (fun _ => x_aload_n rfl l26_0) ?_
          refine w_gI H (o := 5) (w := u5_10) rfl (H.perm 5 rfl) rfl rfl rfl (fun _ => rfl) ((((hS_26 5 10 rfl).trans (hS_14 5 10 rfl)).trans (hS5 5 10 rfl)).trans (eu5_10)) ?_
          refine w_icmpgt (t := 78) rfl rfl (show inr (x26_6) from j26_1) (show inr (u5_10) from q_1389 r1) (fun b19 => ?_) (fun b19 => ?_)
          · have : p2 ((x26_6) - 1) ≤ p2 11 := p2_mono (by omega)
            have : p2 11 = 2048 := by decide
            have hT6 : (x26_6) - 1 = (u5_10) := q_1432 b19 j26_4
            have hcel : (x26_5) = pk ((w14)) (8 * (a1)) ((y14_5_45)) ((u5_10)) := by rw [← hT6]; exact j26_k
            have hlt : (x26_5) < p2 ((u5_10)) := by rw [← hT6]; omega
            refine Ew_of (pcₚ := 79) (fun _ => x_aload_n rfl l26_0) ?_
            refine w_gT H (o := 5) (t := 32) rfl (H.perm 5 rfl) rfl rfl rfl rfl rfl rfl ?_
            refine Ew_of (pcₚ := 84) (fun _ => x_iload rfl l26_5) ?_
            refine w_lI H (o := 32) (n := 2048) rfl (H.perm 32 rfl) rfl rfl (H.fix 32 rfl rfl) (show 0 ≤ x26_5 ∧ x26_5 < ((2048 : Nat) : Int) by omega) (by decide) (fun v20 ev20 qv20 => ?_)
            have qv20 : (0 : Int) ≤ v20 ∧ v20 ≤ 255 := qv20
            have ev20 : (w32) (x26_5) = v20 := (congrFun ((funext (hA_26 32 rfl)).trans ((funext (hA_14 32 rfl)).trans ((funext (hA6 32 rfl)).trans (ew32)))) (x26_5)).symm.trans ev20
            have hsy : (v20) = (CELS (GG) ((u5_10))).getD ((x26_5) : Int).toNat 0 := by have h := CEL_at (h8) (c := (x26_5)) (by omega) hlt; rw [ev20] at h; exact h
            have hr256 : 0 ≤ (v20) ∧ (v20) ≤ 255 := qv20
            refine Ew_of (pcₚ := 87) (fun _ => x_istore rfl) ?_
            refine Ew_of (pcₚ := 88) (fun _ => x_aload_n rfl (rk_o (l26_0) rfl rfl)) ?_
            refine Ew_of (pcₚ := 89) (fun _ => x_dup rfl rfl) ?_
            refine w_gI H (o := 5) (w := y14_5_45) rfl (H.perm 5 rfl) rfl rfl rfl (fun _ => rfl) ((hS_26 5 45 rfl).trans (ey14_5_45)) ?_
            refine Ew_of (pcₚ := 93) (fun _ => x_aload_n rfl (rk_o (l26_0) rfl rfl)) ?_
            refine w_gT H (o := 5) (t := 31) rfl (H.perm 5 rfl) rfl rfl rfl rfl rfl rfl ?_
            refine Ew_of (pcₚ := 98) (fun _ => x_iload rfl rk_s) ?_
            refine w_lI H (o := 31) (n := 256) rfl (H.perm 31 rfl) rfl rfl (H.fix 31 rfl rfl) (show 0 ≤ v20 ∧ v20 < ((256 : Nat) : Int) from q_1433 hr256) (by decide) (fun v21 ev21 qv21 => ?_)
            have qv21 : (0 : Int) ≤ v21 ∧ v21 ≤ 11 := qv21
            have ev21 : (w31) (v20) = v21 := (congrFun ((funext (hA_26 31 rfl)).trans ((funext (hA_14 31 rfl)).trans ((funext (hA6 31 rfl)).trans (ew31)))) (v20)).symm.trans ev21
            have hgl := ev21
            have hGG : GG ((v20)) = (v21) := by rw [← (h3) ((v20)) (by omega) (by omega)]; exact hgl
            refine w_isub rfl ?_
            refine w_pI H (o := 5) rfl rfl (H.perm 5 rfl) rfl rfl rfl (fun _ => rfl) rfl (show (-100 : Int) ≤ (y14_5_45 - v21) ∧ (y14_5_45 - v21) ≤ 524288 from q_1434 j14_4 qv21 r16) (fun σ H => ?_)
            refine Ew_of (pcₚ := 104) (fun _ => x_aload_n rfl (rk_o (l26_0) rfl rfl)) ?_
            refine w_gI H (o := 5) (w := (y14_5_45 - v21)) rfl (H.perm 5 rfl) rfl rfl rfl (fun _ => rfl) rfl ?_
            refine w_ifge (t := 112) rfl rfl (show inr ((y14_5_45 - v21)) from q_1435 qv21 r16) (fun b22 => ?_) (fun b22 => ?_)
            · refine Ew_of (pcₚ := 113) (fun _ => x_aload_n rfl (rk_o (l26_0) rfl rfl)) ?_
              refine w_gT H (o := 5) (t := 46) rfl (H.perm 5 rfl) rfl rfl rfl rfl rfl rfl ?_
              refine Ew_of (pcₚ := 117) (fun _ => x_aload_n rfl (rk_o (l26_0) rfl rfl)) ?_
              refine w_gI H (o := 5) (w := y14_5_39) rfl (H.perm 5 rfl) rfl rfl rfl (fun _ => rfl) ((hS_26 5 39 rfl).trans (ey14_5_39)) ?_
              refine Ew_of (pcₚ := 122) (fun _ => x_iload rfl rk_s) ?_
              refine w_sI H (o := 46) (n := 131072) rfl (H.perm 46 rfl) rfl rfl (H.fix 46 rfl rfl) (show 0 ≤ y14_5_39 ∧ y14_5_39 < ((131072 : Nat) : Int) from q_1436 b17 h5 j14_3 r15) (by decide) (show (0 : Int) ≤ v20 ∧ v20 ≤ 255 from hr256) (fun σ H => ?_)
              refine Ew_of (pcₚ := 124) (fun _ => x_aload_n rfl (rk_o (l26_0) rfl rfl)) ?_
              refine Ew_of (pcₚ := 125) (fun _ => x_dup rfl rfl) ?_
              refine w_gI H (o := 5) (w := y14_5_39) rfl (H.perm 5 rfl) rfl rfl rfl (fun _ => rfl) ((hS_26 5 39 rfl).trans (ey14_5_39)) ?_
              refine Ew_of (pcₚ := 129) (fun _ => x_iconst rfl) ?_
              refine w_iadd rfl ?_
              refine w_pI H (o := 5) rfl rfl (H.perm 5 rfl) rfl rfl rfl (fun _ => rfl) rfl (show (0 : Int) ≤ (y14_5_39 + 1) ∧ (y14_5_39 + 1) ≤ 131072 from q_1437 b17 h5 j14_3 r15) (fun σ H => ?_)
              refine Ew_of (pcₚ := 136) (fun _ => x_iinc (len := 3) rfl (rk_o (l26_4) rfl rfl)) ?_
              refine Ew_of (pcₚ := 14) (fun _ => x_goto rfl rfl) ?_
              have : DCI ((w14)) (GG) ((a1)) ((a2)) ((u5_10)) ((a3)) (sc ((w46)) 0 ((u5_39))) (((x14_4 + 1))) (((y14_5_45 - v21))) (sc ((upd1 (w14_46) (y14_5_39) (v20))) 0 (((y14_5_39 + 1)))) := DCI_s j14_i (by omega) hcel hsy (by omega) (by omega) rfl (sc_w hr256 (by omega) (by omega))
              exact ih14 _ (msE hm14 q_16 (q_17 b17)) _ σ _ _ ((x14_4 + 1)) (rk_o (rk_o (l26_0) rfl rfl) rfl rfl) (rk_o (rk_o (l26_3) rfl rfl) rfl rfl) (rk_s) H (SF_upd (SF_upd (SF_trans (hS_14) hS_26 (any_sub rfl)) rfl) rfl) (SA_upd (SA_trans (hA_14) hA_26 (any_subA rfl)) rfl) ((y14_5_39 + 1)) (rfl) ((y14_5_45 - v21)) (rfl) (upd1 (w14_46) (y14_5_39) (v20)) (congrArg (fun q => upd1 q (y14_5_39) (v20)) ((funext (hA_26 46 rfl)).trans (ew14_46))) (show inr ((x14_4 + 1)) from q_1439 j14_1 j14_3 r15 r2) (show (0) ≤ ((x14_4 + 1)) from q_14 j14_1) (show ((x14_4 + 1)) ≤ (0) ∨ ((x14_4 + 1)) ≤ ((a3)) from q_13 b17) (show ((y14_5_39 + 1)) = (u5_39) + ((x14_4 + 1)) from q_541 j14_3) (show 0 ≤ ((y14_5_45 - v21)) from b22) (show 0 ≤ (y8) ∧ (y8) + ((y14_5_45 - v21)) ≤ 524288 from q_1438 j14_5 qv21) (show (y8) = 8 * (a1) from j14_6) (show DCI ((w14)) (GG) ((a1)) ((a2)) ((u5_10)) ((a3)) (sc ((w46)) 0 ((u5_39))) (((x14_4 + 1))) (((y14_5_45 - v21))) (sc ((upd1 (w14_46) (y14_5_39) (v20))) 0 (((y14_5_39 + 1)))) by assumption) rfl
            · refine Ew_of (pcₚ := 111) (fun _ => x_iconst rfl) ?_
              have : DCA ((w14)) (GG) ((a1)) ((a2)) ((u5_10)) ((a3)) (sc ((w46)) 0 ((u5_39))) ((0)) (sc ((w14_46)) 0 ((y14_5_39))) := DCA_f (DCI_f j14_i (by omega) hcel hsy (by omega)) (by omega)
              exact w_ireturn rfl (k (0) σ _ _ H (SF_upd (SF_trans (SF_trans (SF_trans (SF_refl) hS5 (any_sub rfl)) hS_14 (any_sub rfl)) hS_26 (any_sub rfl)) rfl) (SA_trans (SA_trans (SA_trans (SA_refl) hA6 (any_subA rfl)) hA_14 (any_subA rfl)) hA_26 (any_subA rfl)) (y14_5_39) (((hS_26 5 39 rfl).trans (ey14_5_39))) (w14_46) ((funext (hA_26 46 rfl)).trans (ew14_46)) (show (0) = 0 ∨ (0) = 1 by first | exact q_45 | omega) (show (u5_39) ≤ (y14_5_39) ∧ (y14_5_39) ≤ (u5_39) + a3 from q_1440 b17 j14_1 j14_3) (show DCA ((w14)) (GG) (a1) (a2) ((u5_10)) (a3) (sc ((w46)) 0 ((u5_39))) ((0)) (sc ((w14_46)) 0 ((y14_5_39))) by assumption) (show (0) = 0 ∨ (y14_5_39) = (u5_39) + a3 by first | exact q_1429 | omega))
          · have hc69 : ∀ (tc69_0 : Int), ∀ (tc69_1 : Int), ∀ (ls : rO) (σ : rS) (F_c69 : hF) (A_c69 : hA) , rlook ls 0 = some (.ref (D 5)) → rlook ls 3 = some (I (a3)) → rlook ls 4 = some (I (x14_4)) → rlook ls 6 = some (I (x26_6)) → HS σ0 σ D N F_c69 A_c69 → SF [] F_26 F_c69 → SA [] A_26 A_c69 → (inr (tc69_1)) → (inr (tc69_0)) → ((tc69_0) = 2 * (x26_5)) → (0 ≤ (tc69_1) ∧ (tc69_1) ≤ 1) → ((x26_6) ≤ (y14_5_45) ∧ (tc69_1) = bt ((w14)) (8 * (a1) + (y14_5_45) - (x26_6)) ∨ (y14_5_45) < (x26_6) ∧ ((tc69_1) : Int) = 0) → Ew 273 (d + 2) 69 ls [I (tc69_1), I (tc69_0)] σ c s Q := by
             as_aux_lemma =>
              intro tc69_0 tc69_1 ls σ F_c69 A_c69  lc69_0 lc69_3 lc69_4 lc69_6 H hS_c69 hA_c69   jc69_0 jc69_1 jc69_2 jc69_3 jc69_4
              have hps := p2_s (y := (x26_6) - 1) (by omega)
              have hpe : p2 ((x26_6) + 1 - 1) = p2 ((x26_6) - 1 + 1) := by congr 1; omega
              have hc69 : (x26_6) ≤ (y14_5_45) ∧ (tc69_1) = bt ((w14)) (8 * (a1) + (y14_5_45) - (x26_6)) ∨ (y14_5_45) < (x26_6) ∧ ((tc69_1) : Int) = 0 := jc69_4
              refine w_iadd rfl ?_
              have hk26 : ((tc69_0 + tc69_1)) = pk ((w14)) (8 * (a1)) ((y14_5_45)) ((x26_6) + 1 - 1) := pk_up (q := 8 * (a1) + (y14_5_45) - (x26_6)) j26_k (by omega) (by omega) (by omega) (by rcases hc69 with ⟨x, y⟩ | ⟨x, y⟩; (exact .inl ⟨by omega, y, by omega⟩); (exact .inr ⟨by omega, y⟩)) (by omega)
              refine Ew_of (pcₚ := 72) (fun _ => x_istore rfl) ?_
              refine Ew_of (pcₚ := 75) (fun _ => x_iinc (len := 3) rfl (rk_o (lc69_6) rfl rfl)) ?_
              refine Ew_of (pcₚ := 26) (fun _ => x_goto rfl rfl) ?_
              have : ((tc69_0 + tc69_1)) = pk ((w14)) (8 * (a1)) ((y14_5_45)) (((x26_6 + 1)) - 1) := hk26
              exact ih26 _ (msE hm26 q_77 (q_890 b19)) _ σ _ _ ((tc69_0 + tc69_1)) ((x26_6 + 1)) (rk_o (rk_o (lc69_0) rfl rfl) rfl rfl) (rk_o (rk_o (lc69_3) rfl rfl) rfl rfl) (rk_o (rk_o (lc69_4) rfl rfl) rfl rfl) (rk_o (rk_s) rfl rfl) (rk_s) H (SF_trans (hS_26) hS_c69 (any_sub rfl)) (SA_trans (hA_26) hA_c69 (any_subA rfl))   (show inr ((tc69_0 + tc69_1)) by omega) (show inr ((x26_6 + 1)) from q_1391 b19 j26_2 r1) (show 1 ≤ ((x26_6 + 1)) from q_888 j26_2) (show 0 ≤ ((tc69_0 + tc69_1)) ∧ ((tc69_0 + tc69_1)) < p2 (((x26_6 + 1)) - 1) by omega) (show ((x26_6 + 1)) ≤ (u5_10) + 1 from q_167 b19) (hk26) rfl
            have hps := p2_s (y := (x26_6) - 1) (by omega)
            have : p2 ((x26_6) - 1) ≤ p2 11 := p2_mono (by omega)
            have : p2 11 = 2048 := by decide
            have hpe : p2 ((x26_6) + 1 - 1) = p2 ((x26_6) - 1 + 1) := by congr 1; omega
            refine Ew_of (pcₚ := 36) (fun _ => x_iconst rfl) ?_
            refine Ew_of (pcₚ := 38) (fun _ => x_iload rfl l26_5) ?_
            refine w_imul rfl ?_
            refine Ew_of (pcₚ := 40) (fun _ => x_aload_n rfl l26_0) ?_
            refine w_gI H (o := 5) (w := y14_5_45) rfl (H.perm 5 rfl) rfl rfl rfl (fun _ => rfl) ((hS_26 5 45 rfl).trans (ey14_5_45)) ?_
            refine Ew_of (pcₚ := 45) (fun _ => x_iload rfl l26_6) ?_
            refine w_isub rfl ?_
            refine w_iflt (t := 68) rfl rfl (show inr ((y14_5_45 - x26_6)) from q_1441 j14_4 j26_1 j26_2 r16) (fun b23 => ?_) (fun b23 => ?_)
            · refine Ew_of (pcₚ := 69) (fun _ => x_iconst rfl) ?_
              have : (x26_6) ≤ (y14_5_45) ∧ (0) = bt ((w14)) (8 * (a1) + (y14_5_45) - (x26_6)) ∨ (y14_5_45) < (x26_6) ∧ ((0) : Int) = 0 := by first | exact .inl ⟨by omega, hbt⟩ | exact .inr ⟨by omega, by omega⟩
              exact hc69 ((2 * x26_5)) (0) _ σ _ _  (l26_0) (l26_3) (l26_4) (l26_6) H (SF_refl) (SA_refl)   (show inr (0) from q_2) (show inr ((2 * x26_5)) by omega) (show ((2 * x26_5)) = 2 * (x26_5) from q_1442) (show 0 ≤ (0) ∧ (0) ≤ 1 from q_32) (show (x26_6) ≤ (y14_5_45) ∧ (0) = bt ((w14)) (8 * (a1) + (y14_5_45) - (x26_6)) ∨ (y14_5_45) < (x26_6) ∧ ((0) : Int) = 0 by assumption)
            · refine Ew_of (pcₚ := 50) (fun _ => x_aload_n rfl l26_0) ?_
              refine Ew_of (pcₚ := 51) (fun _ => x_aload_n rfl l26_0) ?_
              refine w_gI H (o := 5) (w := y8) rfl (H.perm 5 rfl) rfl rfl rfl (fun _ => rfl) (((hS_26 5 44 rfl).trans (hS_14 5 44 rfl)).trans (ey9)) ?_
              refine Ew_of (pcₚ := 55) (fun _ => x_aload_n rfl l26_0) ?_
              refine w_gI H (o := 5) (w := y14_5_45) rfl (H.perm 5 rfl) rfl rfl rfl (fun _ => rfl) ((hS_26 5 45 rfl).trans (ey14_5_45)) ?_
              refine w_iadd rfl ?_
              refine Ew_of (pcₚ := 61) (fun _ => x_iload rfl l26_6) ?_
              refine w_isub rfl ?_
              refine w_inv H (o := 5) rfl rfl rfl (H.perm 5 rfl) rfl rfl (by rfl) (M259 H (w14) ((funext (hA_26 14 rfl)).trans ((funext (hA_14 14 rfl)).trans ((funext (hA6 14 rfl)).trans (ew14)))) (show inr (((y8 + y14_5_45) - x26_6)) from q_1444 b23 j14_5 j26_2) (show 0 ≤ (((y8 + y14_5_45) - x26_6)) ∧ (((y8 + y14_5_45) - x26_6)) < 524288 from q_1443 b23 j14_5 j26_2) (fun z28 σ F24 A25 H hS26 hA27 pz28_0 pz28_1 pz28_2 => ⟨rfl, ?_⟩))
              have hbt : (z28) = bt ((w14)) (8 * (a1) + (y14_5_45) - (x26_6)) := by have h := pz28_2; rw [show (y8) + (y14_5_45) - (x26_6) = 8 * (a1) + (y14_5_45) - (x26_6) by omega] at h; exact h
              refine Ew_of (pcₚ := 69) (fun _ => x_goto rfl rfl) ?_
              have : (x26_6) ≤ (y14_5_45) ∧ (z28) = bt ((w14)) (8 * (a1) + (y14_5_45) - (x26_6)) ∨ (y14_5_45) < (x26_6) ∧ ((z28) : Int) = 0 := by first | exact .inl ⟨by omega, hbt⟩ | exact .inr ⟨by omega, by omega⟩
              exact hc69 ((2 * x26_5)) (z28) _ σ _ _  (l26_0) (l26_3) (l26_4) (l26_6) H (SF_trans (SF_refl) hS26 (any_sub rfl)) (SA_trans (SA_refl) hA27 (any_subA rfl))   (show inr (z28) from pz28_0) (show inr ((2 * x26_5)) by omega) (show ((2 * x26_5)) = 2 * (x26_5) from q_1442) (show 0 ≤ (z28) ∧ (z28) ≤ 1 from pz28_1) (show (x26_6) ≤ (y14_5_45) ∧ (z28) = bt ((w14)) (8 * (a1) + (y14_5_45) - (x26_6)) ∨ (y14_5_45) < (x26_6) ∧ ((z28) : Int) = 0 by assumption)
  · refine Ew_of (pcₚ := 10) (fun _ => x_iconst rfl) ?_
    have : DCA ((w14)) (GG) ((a1)) ((a2)) ((u5_10)) ((a3)) (sc ((w46)) 0 ((u5_39))) ((0)) (sc ((w46)) 0 ((u5_39))) := DCA_f (DCF_n hop (by omega)) (by omega)
    exact w_ireturn rfl (k (0) σ _ _ H (SF_trans (SF_refl) hS5 (any_sub rfl)) (SA_trans (SA_refl) hA6 (any_subA rfl)) (u5_39) (((hS5 5 39 rfl).trans (eu5_39))) (w46) ((funext (hA6 46 rfl)).trans (ew46)) (show (0) = 0 ∨ (0) = 1 by first | exact q_45 | omega) (show (u5_39) ≤ (u5_39) ∧ (u5_39) ≤ (u5_39) + a3 from q_1446 h5) (show DCA ((w14)) (GG) (a1) (a2) ((u5_10)) (a3) (sc ((w46)) 0 ((u5_39))) ((0)) (sc ((w46)) 0 ((u5_39))) by assumption) (show (0) = 0 ∨ (u5_39) = (u5_39) + a3 by first | exact q_1445 | omega))

theorem M271 {σ0 σ : rS} {D N : Nat → Nat} {F : hF} {A : hA} {d c s : Nat} {Q : wQ} (H : HS σ0 σ D N F A) {a1 a2 : Int} (w14 : Int → Int) (ew14 : A 14 = w14) (h0 : inr (a1)) (h1 : inr (a2)) (h2 : 0 ≤ (a1) ∧ (a1) ≤ 65536 ∧ 0 ≤ (a2) ∧ (a2) ≤ 65536) (k : ∀ (z : Int) σ Fₚ Aₚ, HS σ0 σ D N Fₚ Aₚ → SF [(5, 10), (5, 19), (5, 44), (5, 45)] F Fₚ → SA [31, 32, 39, 40, 41, 42, 43, 44] A Aₚ → ∀ y5_10 : Int, Fₚ 5 10 = y5_10 → ∀ v31 : Int → Int, Aₚ 31 = v31 → ∀ v32 : Int → Int, Aₚ 32 = v32 → (inr (z)) → ((z) = -1 ∨ (a1) < (z) ∧ (z) ≤ (a2)) → ((z) ≠ -1 → CI ((v31)) ((y5_10))) → (DSA ((w14)) ((a1)) ((a2)) ((z)) ((y5_10)) ((v31))) → (IMP ((z) ≠ -1) (fl ((v32)) (p2 ((y5_10))) = CELS ((v31)) ((y5_10)))) → Q (some (I z)) σ c s) : Ew 271 (d + 3) 0 (rargs 0 [.ref (D 5), I a1, I a2]) [] σ c s Q := by
  refine Ew_of (pcₚ := 1) (fun _ => x_iload_n rfl rfl) ?_
  refine Ew_of (pcₚ := 2) (fun _ => x_iload_n rfl rfl) ?_
  refine w_icmplt (t := 7) rfl rfl (show inr (a1) from h0) (show inr (a2) from h1) (fun b1 => ?_) (fun b1 => ?_)
  · refine Ew_of (pcₚ := 8) (fun _ => x_aload_n rfl rfl) ?_
    refine w_gT H (o := 5) (t := 1) rfl (H.perm 5 rfl) rfl rfl rfl rfl rfl rfl ?_
    refine w_gT H (o := 1) (t := 14) rfl (H.perm 1 rfl) rfl rfl rfl rfl rfl rfl ?_
    refine Ew_of (pcₚ := 15) (fun _ => x_iload_n rfl rfl) ?_
    refine w_lI H (o := 14) (n := 65536) rfl (H.perm 14 rfl) rfl rfl (H.fix 14 rfl rfl) (show 0 ≤ a1 ∧ a1 < ((65536 : Nat) : Int) from q_1447 b1 h2) (by decide) (fun v2 ev2 qv2 => ?_)
    have qv2 : (0 : Int) ≤ v2 ∧ v2 ≤ 255 := qv2
    have ev2 : (w14) (a1) = v2 := (congrFun (ew14) (a1)).symm.trans ev2
    have hx := ev2
    refine Ew_of (pcₚ := 17) (fun _ => x_istore_n rfl) ?_
    refine Ew_of (pcₚ := 18) (fun _ => x_iload_n rfl (rk_o (rfl) rfl rfl)) ?_
    refine Ew_of (pcₚ := 19) (fun _ => x_iconst rfl) ?_
    refine w_iadd rfl ?_
    refine Ew_of (pcₚ := 21) (fun _ => x_iload_n rfl rk_s) ?_
    refine Ew_of (pcₚ := 23) (fun _ => x_bipush (z := 127) rfl (by decide)) ?_
    have hc38 : ∀ (tc38_0 : Int), ∀ (ls : rO) (σ : rS) (F_c38 : hF) (A_c38 : hA) , rlook ls 0 = some (.ref (D 5)) → rlook ls 1 = some (I (a1)) → rlook ls 2 = some (I (a2)) → rlook ls 3 = some (I (v2)) → HS σ0 σ D N F_c38 A_c38 → SF [] F F_c38 → SA [] A A_c38 → (inr (tc38_0)) → (((v2) ≤ (127) ∧ (tc38_0) = (v2)) ∨ ((v2) > (127) ∧ (tc38_0) = ((((v2 - 127) + 1) / 2)))) → Ew 271 (d + 3) 38 ls [I (tc38_0), I ((a1 + 1))] σ c s Q := by
     as_aux_lemma =>
      intro tc38_0 ls σ F_c38 A_c38  lc38_0 lc38_1 lc38_2 lc38_3 H hS_c38 hA_c38   jc38_0 jc38_1
      refine w_iadd rfl ?_
      refine Ew_of (pcₚ := 41) (fun _ => x_istore rfl) ?_
      have hen : dEn ((w14)) ((a1)) = (((a1 + 1) + tc38_0)) := by rcases (show 127 < ((w14)) ((a1)) ∨ ((w14)) ((a1)) ≤ 127 from q_1448) with z | z; (rw [dEn_1 z]; omega); (rw [dEn_0 z]; omega)
      refine Ew_of (pcₚ := 43) (fun _ => x_iload rfl rk_s) ?_
      refine Ew_of (pcₚ := 44) (fun _ => x_iload_n rfl (rk_o (lc38_2) rfl rfl)) ?_
      refine w_icmple (t := 49) rfl rfl (show inr (((a1 + 1) + tc38_0)) from q_1449 h2 jc38_0 jc38_1 qv2) (show inr (a2) from h1) (fun b3 => ?_) (fun b3 => ?_)
      · refine Ew_of (pcₚ := 50) (fun _ => x_iload_n rfl (rk_o (lc38_3) rfl rfl)) ?_
        refine Ew_of (pcₚ := 52) (fun _ => x_bipush (z := 127) rfl (by decide)) ?_
        refine w_isub rfl ?_
        refine Ew_of (pcₚ := 55) (fun _ => x_istore rfl) ?_
        have hc145 : ∀ (ls : rO) (σ : rS) (F_c145 : hF) (A_c145 : hA) (xc145_5 : Int), rlook ls 0 = some (.ref (D 5)) → rlook ls 4 = some (I (((a1 + 1) + tc38_0))) → rlook ls 5 = some (I (xc145_5)) → HS σ0 σ D N F_c145 A_c145 → SF [(5, 19), (5, 44), (5, 45)] F_c38 F_c145 → SA [39, 40, 41, 42, 43, 44] A_c38 A_c145 → ∀ wc145_40 : Int → Int, A_c145 40 = wc145_40 → (inr (xc145_5)) → ((xc145_5) = -1 ∨ 1 ≤ (xc145_5) ∧ (xc145_5) ≤ 255) → (IMP ((xc145_5) = -1) (DWN ((w14)) ((a1)) ((a2)))) → (IMP ((xc145_5) ≠ -1) (DWA ((w14)) ((a1)) ((a2)) ((xc145_5)) ((wc145_40)))) → Ew 271 (d + 3) 145 ls [] σ c s Q := by
         as_aux_lemma =>
          intro  ls σ F_c145 A_c145 xc145_5 lc145_0 lc145_4 lc145_5 H hS_c145 hA_c145  wc145_40 ewc145_40 jc145_0 jc145_1 jc145_2 jc145_3
          have k145n : IMP ((xc145_5) = -1) (DWN ((w14)) ((a1)) ((a2))) := jc145_2
          have k145a : IMP ((xc145_5) ≠ -1) (DWA ((w14)) ((a1)) ((a2)) ((xc145_5)) ((wc145_40))) := jc145_3
          refine Ew_of (pcₚ := 147) (fun _ => x_iload rfl lc145_5) ?_
          refine w_ifge (t := 152) rfl rfl (show inr (xc145_5) from jc145_0) (fun b4 => ?_) (fun b4 => ?_)
          · have hDW := k145a (by omega)
            refine Ew_of (pcₚ := 153) (fun _ => x_iconst rfl) ?_
            refine Ew_of (pcₚ := 155) (fun _ => x_istore rfl) ?_
            refine Ew_of (pcₚ := 156) (fun _ => x_iconst rfl) ?_
            refine Ew_of (pcₚ := 158) (fun _ => x_istore rfl) ?_
            refine Ew_of (pcₚ := 159) (fun _ => x_iconst rfl) ?_
            refine Ew_of (pcₚ := 161) (fun _ => x_istore rfl) ?_
            have : su (fun i => wk (((wc145_40)) i)) (0 : Int).toNat = 0 := rfl
            have : su (fun i => on1 (((wc145_40)) i)) (0 : Int).toNat = 0 := rfl
            suffices hl161 : ∀ (m : Nat), ∀ (ls : rO) (σ : rS) (F_161 : hF) (A_161 : hA) (x161_6 : Int) (x161_7 : Int) (x161_8 : Int), rlook ls 0 = some (.ref (D 5)) → rlook ls 4 = some (I (((a1 + 1) + tc38_0))) → rlook ls 5 = some (I (xc145_5)) → rlook ls 6 = some (I (x161_6)) → rlook ls 7 = some (I (x161_7)) → rlook ls 8 = some (I (x161_8)) → HS σ0 σ D N F_161 A_161 → SF [] F_c145 F_161 → SA [] A_c145 A_161 → (inr (x161_6)) → (inr (x161_7)) → (inr (x161_8)) → ((0) ≤ (x161_8)) → ((x161_8) ≤ (0) ∨ (x161_8) ≤ ((xc145_5))) → ((x161_6) = su (fun i => wk (((wc145_40)) i)) ((x161_8) : Int).toNat) → ((x161_7) = su (fun i => on1 (((wc145_40)) i)) ((x161_8) : Int).toNat) → (0 ≤ (x161_6) ∧ (x161_6) ≤ 16384 * (x161_8)) → (0 ≤ (x161_7) ∧ (x161_7) ≤ (x161_8)) → (((xc145_5)) - (x161_8)).toNat = m → Ew 271 (d + 3) 161 ls [] σ c s Q from
              hl161 _ _ σ _ _ (0) (0) (0) (rk_o (rk_o (rk_o (lc145_0) rfl rfl) rfl rfl) rfl rfl) (rk_o (rk_o (rk_o (lc145_4) rfl rfl) rfl rfl) rfl rfl) (rk_o (rk_o (rk_o (lc145_5) rfl rfl) rfl rfl) rfl rfl) (rk_o (rk_o (rk_s) rfl rfl) rfl rfl) (rk_o (rk_s) rfl rfl) (rk_s) H (SF_refl) (SA_refl)   (show inr (0) from q_2) (show inr (0) from q_2) (show inr (0) from q_2) (show (0) ≤ (0) from q_1) (show (0) ≤ (0) ∨ (0) ≤ ((xc145_5)) from q_5) (show (0) = su (fun i => wk (((wc145_40)) i)) ((0) : Int).toNat by omega) (show (0) = su (fun i => on1 (((wc145_40)) i)) ((0) : Int).toNat by omega) (show 0 ≤ (0) ∧ (0) ≤ 16384 * (0) from q_1450) (show 0 ≤ (0) ∧ (0) ≤ (0) from q_4) rfl
            as_aux_lemma =>
            intro m
            induction m using Nat.strongRecOn with
            | _ m ih161 =>
              intro ls σ F_161 A_161 x161_6 x161_7 x161_8 l161_0 l161_4 l161_5 l161_6 l161_7 l161_8 H hS_161 hA_161   j161_0 j161_1 j161_2 j161_3 j161_4 j161_5 j161_6 j161_7 j161_8 hm161
              refine Ew_of (pcₚ := 163) (fun _ => x_iload rfl l161_8) ?_
              refine Ew_of (pcₚ := 165) (fun _ => x_iload rfl l161_5) ?_
              refine w_icmpge (t := 225) rfl rfl (show inr (x161_8) from j161_2) (show inr (xc145_5) from jc145_0) (fun b5 => ?_) (fun b5 => ?_)
              · have hn8 : su (fun i => wk (((wc145_40)) i)) ((x161_8) : Int).toNat = su (fun i => wk (((wc145_40)) i)) ((xc145_5) : Int).toNat := by rw [show (x161_8) = (xc145_5) by omega]
                have hn9 : su (fun i => on1 (((wc145_40)) i)) ((x161_8) : Int).toNat = su (fun i => on1 (((wc145_40)) i)) ((xc145_5) : Int).toNat := by rw [show (x161_8) = (xc145_5) by omega]
                have hsm : (x161_6) = su (fun i => wk (((wc145_40)) i)) ((xc145_5) : Int).toNat := by omega
                obtain ⟨q7, hq7⟩ : ∃ q : Int, q = (x161_7) := ⟨_, rfl⟩
                have hon_ : q7 = su (fun i => on1 (((wc145_40)) i)) ((xc145_5) : Int).toNat := by omega
                refine Ew_of (pcₚ := 227) (fun _ => x_iload rfl l161_6) ?_
                refine w_ifne (t := 232) rfl rfl (show inr (x161_6) from j161_0) (fun b6 => ?_) (fun b6 => ?_)
                · refine Ew_of (pcₚ := 234) (fun _ => x_iload rfl l161_6) ?_
                  refine w_stat24 rfl rfl (by rfl) (M260 H (show inr (x161_6) from j161_0) (show 0 ≤ (x161_6) from q_1451 j161_7) (fun z11 σ F7 A8 H hS9 hA10 pz11_0 pz11_1 pz11_2 => ⟨rfl, ?_⟩))
                  have hz1 := p2_s (y := (z11)) (by omega)
                  have hzp := p2_pos ((z11))
                  have hzc : (z11) < 23 := p2_lt (by omega) (by rw [show p2 23 = 8388608 from by decide]; omega)
                  refine Ew_of (pcₚ := 238) (fun _ => x_iconst rfl) ?_
                  refine w_iadd rfl ?_
                  refine Ew_of (pcₚ := 241) (fun _ => x_istore rfl) ?_
                  refine Ew_of (pcₚ := 242) (fun _ => x_iconst rfl) ?_
                  refine Ew_of (pcₚ := 244) (fun _ => x_iload rfl rk_s) ?_
                  refine w_ishl1 rfl (show 0 ≤ (z11 + 1) ∧ (z11 + 1) ≤ 31 from q_1452 hzc pz11_1) ?_
                  refine Ew_of (pcₚ := 247) (fun _ => x_iload rfl (rk_o (l161_6) rfl rfl)) ?_
                  refine w_isub rfl ?_
                  refine Ew_of (pcₚ := 250) (fun _ => x_istore rfl) ?_
                  have h11 : 11 ≤ z11 → 2048 ≤ (x161_6) := fun q => by have := p2_mono (x := 11) (y := z11) q; rw [show p2 11 = 2048 by decide] at this; omega
                  refine Ew_of (pcₚ := 252) (fun _ => x_iload rfl (rk_o (rk_s) rfl rfl)) ?_
                  refine Ew_of (pcₚ := 254) (fun _ => x_bipush (z := 11) rfl (by decide)) ?_
                  refine w_icmpgt (t := 266) rfl rfl (show inr ((z11 + 1)) from q_1453 hzc pz11_1) (show inr (11) from q_326) (fun b13 => ?_) (fun b13 => ?_)
                  · refine Ew_of (pcₚ := 267) (fun _ => x_iconst rfl) ?_
                    have r14 : (0 : Int) ≤ F 5 10 ∧ F 5 10 ≤ 11 := rngE (show (0 : Int) ≤ F7 5 10 ∧ F7 5 10 ≤ 11 from H.frng 5 10) (show F7 5 10 = F 5 10 from ((((hS9 5 10 rfl).trans (hS_161 5 10 rfl)).trans (hS_c145 5 10 rfl)).trans (hS_c38 5 10 rfl)))
                    have : DSA ((w14)) ((a1)) ((a2)) (((-1))) ((F 5 10)) ((A 31)) := by first | exact DSA_t hDW hsm (h11 (by omega)) (by omega) | exact DSA_p (k := z11) hDW hsm (by omega) (by omega) (by omega) (pzMISS_2 (by omega)) rfl (by omega)
                    have : IMP (((-1)) ≠ -1) (fl ((A 32)) (p2 ((F 5 10))) = CELS ((A 31)) ((F 5 10))) := fun z => absurd rfl z
                    exact w_ireturn rfl (k ((-1)) σ _ _ H (SF_trans (SF_trans (SF_trans (SF_trans (SF_refl) hS_c38 (any_sub rfl)) hS_c145 (any_sub rfl)) hS_161 (any_sub rfl)) hS9 (any_sub rfl)) (SA_trans (SA_trans (SA_trans (SA_trans (SA_refl) hA_c38 (any_subA rfl)) hA_c145 (any_subA rfl)) hA_161 (any_subA rfl)) hA10 (any_subA rfl)) (F 5 10) (((((hS9 5 10 rfl).trans (hS_161 5 10 rfl)).trans (hS_c145 5 10 rfl)).trans (hS_c38 5 10 rfl))) (A 31) ((funext (hA10 31 rfl)).trans ((funext (hA_161 31 rfl)).trans ((funext (hA_c145 31 rfl)).trans (funext (hA_c38 31 rfl))))) (A 32) ((funext (hA10 32 rfl)).trans ((funext (hA_161 32 rfl)).trans ((funext (hA_c145 32 rfl)).trans (funext (hA_c38 32 rfl))))) (show inr ((-1)) from q_63) (show ((-1)) = -1 ∨ a1 < ((-1)) ∧ ((-1)) ≤ a2 by first | exact q_1454 | omega) (show ((-1)) ≠ -1 → CI ((A 31)) ((F 5 10)) by first | assumption | exact fun h => absurd rfl h | exact fun h => absurd h (by decide) | omega) (show DSA ((w14)) (a1) (a2) (((-1))) ((F 5 10)) ((A 31)) by assumption) (show IMP (((-1)) ≠ -1) (fl ((A 32)) (p2 ((F 5 10))) = CELS ((A 31)) ((F 5 10))) by assumption))
                  · refine Ew_of (pcₚ := 258) (fun _ => x_aload_n rfl (rk_o (rk_o (l161_0) rfl rfl) rfl rfl)) ?_
                    refine Ew_of (pcₚ := 260) (fun _ => x_iload rfl rk_s) ?_
                    refine w_inv H (o := 5) rfl rfl rfl (H.perm 5 rfl) rfl rfl (by rfl) (M270 H (show inr ((p2 ((z11 + 1)) - x161_6)) by omega) (fun z19 σ F15 A16 H hS17 hA18 pz19_0 pz19_1 pz19_2 => ⟨rretB rfl pz19_0, ?_⟩))
                    refine w_ifne (t := 268) rfl rfl (show inr (z19) from q_138 pz19_0) (fun b20 => ?_) (fun b20 => ?_)
                    · refine Ew_of (pcₚ := 269) (fun _ => x_aload_n rfl (rk_o (rk_o (l161_0) rfl rfl) rfl rfl)) ?_
                      refine w_gT H (o := 5) (t := 40) rfl (H.perm 5 rfl) rfl rfl rfl rfl rfl rfl ?_
                      refine Ew_of (pcₚ := 274) (fun _ => x_iload rfl (rk_o (rk_o (l161_5) rfl rfl) rfl rfl)) ?_
                      refine Ew_of (pcₚ := 276) (fun _ => x_iload rfl rk_s) ?_
                      refine w_stat24 rfl rfl (by rfl) (M260 H (show inr ((p2 ((z11 + 1)) - x161_6)) by omega) (show 0 ≤ ((p2 ((z11 + 1)) - x161_6)) by omega) (fun z25 σ F21 A22 H hS23 hA24 pz25_0 pz25_1 pz25_2 => ⟨rfl, ?_⟩))
                      have hrr : p2 ((z25)) = ((p2 ((z11 + 1)) - x161_6)) := IP_eq (pz19_1 (by omega)) (by omega) (by omega) (by omega)
                      have hds := desc_ok (w := (wc145_40)) (n := (xc145_5)) (sum := (x161_6)) (z := ((z11 + 1)) - 1) (r := (z25)) (by omega) (by omega) (by rw [show ((z11 + 1)) - 1 = z11 by omega]; omega) (by rw [show ((z11 + 1)) - 1 = z11 by omega]; omega) (by omega) (by omega) (by rw [show ((z11 + 1)) - 1 = z11 by omega]; omega)
                      have hou := on1_upd (w := (wc145_40)) (n := (xc145_5)) (v := (z25) + 1) (by omega)
                      have hoo := on1_eq ((z25) + 1)
                      rw [show ((z11 + 1)) - 1 + 1 = ((z11 + 1)) by omega] at hds
                      have hr1 : (z25) = 0 ∧ ((p2 ((z11 + 1)) - x161_6)) = 1 ∨ 1 ≤ (z25) ∧ 2 ≤ ((p2 ((z11 + 1)) - x161_6)) := by rcases (show (z25) = 0 ∨ 1 ≤ (z25) by omega) with z | z; (exact .inl ⟨z, by rw [← hrr, z]; decide⟩); (exact .inr ⟨z, by rw [← hrr]; have := p2_mono (x := 1) (y := (z25)) z; rw [show p2 1 = 2 by decide] at this; exact this⟩)
                      refine Ew_of (pcₚ := 280) (fun _ => x_iconst rfl) ?_
                      refine w_iadd rfl ?_
                      refine w_sI H (o := 40) (n := 256) rfl (H.perm 40 rfl) rfl rfl (H.fix 40 rfl rfl) (show 0 ≤ xc145_5 ∧ xc145_5 < ((256 : Nat) : Int) from q_1455 b4 b5 j161_4 jc145_1) (by decide) (show (-1 : Int) ≤ (z25 + 1) ∧ (z25 + 1) ≤ 15 by omega) (fun σ H => ?_)
                      refine Ew_of (pcₚ := 284) (fun _ => x_iload rfl (rk_o (rk_o (l161_7) rfl rfl) rfl rfl)) ?_
                      refine Ew_of (pcₚ := 285) (fun _ => x_aload_n rfl (rk_o (rk_o (l161_0) rfl rfl) rfl rfl)) ?_
                      refine w_gT H (o := 5) (t := 40) rfl (H.perm 5 rfl) rfl rfl rfl rfl rfl rfl ?_
                      refine Ew_of (pcₚ := 290) (fun _ => x_iload rfl (rk_o (rk_o (l161_5) rfl rfl) rfl rfl)) ?_
                      refine w_lI H (o := 40) (n := 256) rfl (H.perm 40 rfl) rfl rfl (H.fix 40 rfl rfl) (show 0 ≤ xc145_5 ∧ xc145_5 < ((256 : Nat) : Int) from q_1455 b4 b5 j161_4 jc145_1) (by decide) (fun v26 ev26 qv26 => ?_)
                      have qv26 : (-1 : Int) ≤ v26 ∧ v26 ≤ 15 := qv26
                      have ev26 : (upd1 (wc145_40) (xc145_5) ((z25 + 1))) (xc145_5) = v26 := (congrFun (congrArg (fun q => upd1 q (xc145_5) ((z25 + 1))) ((funext (hA24 40 rfl)).trans ((funext (hA18 40 rfl)).trans ((funext (hA10 40 rfl)).trans ((funext (hA_161 40 rfl)).trans (ewc145_40)))))) (xc145_5)).symm.trans ev26
                      have hw1 := ev26
                      rw [upd1_s] at hw1
                      refine Ew_of (pcₚ := 292) (fun _ => x_iconst rfl) ?_
                      have hc300 : ∀ (tc300_0 : Int), ∀ (ls : rO) (σ : rS) (F_c300 : hF) (A_c300 : hA) , rlook ls 0 = some (.ref (D 5)) → rlook ls 4 = some (I (((a1 + 1) + tc38_0))) → rlook ls 5 = some (I (xc145_5)) → rlook ls 8 = some (I ((z11 + 1))) → HS σ0 σ D N F_c300 A_c300 → SF [] F21 F_c300 → SA [] (updA A22 40 (xc145_5) ((z25 + 1))) A_c300 → (inr (tc300_0)) → (((v26) ≠ (1) ∧ (tc300_0) = (0)) ∨ ((v26) = (1) ∧ (tc300_0) = (1))) → Ew 271 (d + 3) 300 ls [I (tc300_0), I (x161_7)] σ c s Q := by
                       as_aux_lemma =>
                        intro tc300_0 ls σ F_c300 A_c300  lc300_0 lc300_4 lc300_5 lc300_8 H hS_c300 hA_c300   jc300_0 jc300_1
                        refine w_iadd rfl ?_
                        refine Ew_of (pcₚ := 303) (fun _ => x_istore rfl) ?_
                        refine Ew_of (pcₚ := 305) (fun _ => x_iload rfl rk_s) ?_
                        refine Ew_of (pcₚ := 306) (fun _ => x_iconst rfl) ?_
                        refine w_icmpge (t := 311) rfl rfl (show inr ((x161_7 + tc300_0)) by omega) (show inr (2) from q_122) (fun b27 => ?_) (fun b27 => ?_)
                        · have hci := CI_of (w := (upd1 (wc145_40) (xc145_5) ((z25 + 1)))) (n := (xc145_5)) (t := ((z11 + 1))) (by omega) (by omega) (by omega) (by omega) hds.2.1 hds.2.2 (by omega)
                          refine Ew_of (pcₚ := 312) (fun _ => x_aload_n rfl (rk_o (lc300_0) rfl rfl)) ?_
                          refine Ew_of (pcₚ := 314) (fun _ => x_iload rfl (rk_o (lc300_8) rfl rfl)) ?_
                          refine w_pI H (o := 5) rfl rfl (H.perm 5 rfl) rfl rfl rfl (fun _ => rfl) rfl (show (0 : Int) ≤ (z11 + 1) ∧ (z11 + 1) ≤ 11 from q_1456 b13 pz11_1) (fun σ H => ?_)
                          refine Ew_of (pcₚ := 318) (fun _ => x_iconst rfl) ?_
                          refine Ew_of (pcₚ := 320) (fun _ => x_istore rfl) ?_
                          have : ∀ i, (0 : Int) ≤ i → i < 0 → ((A 31)) i = lw ((upd1 (wc145_40) (xc145_5) ((z25 + 1)))) ((xc145_5)) (((z11 + 1))) i := fun i a b => absurd b (by omega)
                          suffices hl320 : ∀ (m : Nat), ∀ (ls : rO) (σ : rS) (F_320 : hF) (A_320 : hA) (x320_10 : Int), rlook ls 0 = some (.ref (D 5)) → rlook ls 4 = some (I (((a1 + 1) + tc38_0))) → rlook ls 5 = some (I (xc145_5)) → rlook ls 8 = some (I ((z11 + 1))) → rlook ls 10 = some (I (x320_10)) → HS σ0 σ D N F_320 A_320 → SF [] (updF F_c300 5 10 ((z11 + 1))) F_320 → SA [31] A_c300 A_320 → ∀ w320_31 : Int → Int, A_320 31 = w320_31 → (inr (x320_10)) → ((0) ≤ (x320_10)) → ((x320_10) ≤ (0) ∨ (x320_10) ≤ ((256))) → (∀ i, 0 ≤ i → i < (x320_10) → ((w320_31)) i = lw ((upd1 (wc145_40) (xc145_5) ((z25 + 1)))) ((xc145_5)) (((z11 + 1))) i) → (((256)) - (x320_10)).toNat = m → Ew 271 (d + 3) 320 ls [] σ c s Q from
                            hl320 _ _ σ _ _ (0) (rk_o (rk_o (lc300_0) rfl rfl) rfl rfl) (rk_o (rk_o (lc300_4) rfl rfl) rfl rfl) (rk_o (rk_o (lc300_5) rfl rfl) rfl rfl) (rk_o (rk_o (lc300_8) rfl rfl) rfl rfl) (rk_s) H (SF_refl) (SA_refl)  (A 31) ((funext (hA_c300 31 rfl)).trans ((funext (hA24 31 rfl)).trans ((funext (hA18 31 rfl)).trans ((funext (hA10 31 rfl)).trans ((funext (hA_161 31 rfl)).trans ((funext (hA_c145 31 rfl)).trans (funext (hA_c38 31 rfl)))))))) (show inr (0) from q_2) (show (0) ≤ (0) from q_1) (show (0) ≤ (0) ∨ (0) ≤ ((256)) from q_0) (show ∀ i, 0 ≤ i → i < (0) → ((A 31)) i = lw ((upd1 (wc145_40) (xc145_5) ((z25 + 1)))) ((xc145_5)) (((z11 + 1))) i by assumption) rfl
                          as_aux_lemma =>
                          intro m
                          induction m using Nat.strongRecOn with
                          | _ m ih320 =>
                            intro ls σ F_320 A_320 x320_10 l320_0 l320_4 l320_5 l320_8 l320_10 H hS_320 hA_320  w320_31 ew320_31 j320_0 j320_1 j320_2 j320_3 hm320
                            refine Ew_of (pcₚ := 322) (fun _ => x_iload rfl l320_10) ?_
                            refine Ew_of (pcₚ := 325) (fun _ => x_sipush (z := 256) rfl (by decide)) ?_
                            refine w_icmpge (t := 374) rfl rfl (show inr (x320_10) from j320_0) (show inr (256) from q_3) (fun b28 => ?_) (fun b28 => ?_)
                            · have hcl : CI ((w320_31)) (((z11 + 1))) := CI_congr hci (fun i a b => j320_3 i a (by omega))
                              refine Ew_of (pcₚ := 375) (fun _ => x_aload_n rfl l320_0) ?_
                              refine w_inv H (o := 5) rfl rfl rfl (H.perm 5 rfl) rfl rfl (by rfl) (M269 H ((z11 + 1)) ((hS_320 5 10 rfl)) (w320_31) (ew320_31) (hcl) (fun σ F29 A30 H hS31 hA32 wq34 ewq35 pz33_0 => ⟨rfl, ?_⟩))
                              have : (((a1 + 1) + tc38_0)) ≠ -1 → CI ((w320_31)) (((z11 + 1))) := fun _ => hcl
                              have : DSA ((w14)) ((a1)) ((a2)) ((((a1 + 1) + tc38_0))) (((z11 + 1))) ((w320_31)) := DSA_y (k := z11) (r := z25) (ones := q7) hDW hsm hon_ (by omega) (by omega) (by omega) (by omega) rfl (by omega) hrr (by omega) hen.symm (by omega) (fun i a b => j320_3 i a (by omega))
                              have : IMP ((((a1 + 1) + tc38_0)) ≠ -1) (fl ((wq34)) (p2 (((z11 + 1)))) = CELS ((w320_31)) (((z11 + 1)))) := fun _ => pz33_0
                              refine Ew_of (pcₚ := 380) (fun _ => x_iload rfl l320_4) ?_
                              exact w_ireturn rfl (k (((a1 + 1) + tc38_0)) σ _ _ H (SF_trans (SF_trans (SF_upd (SF_trans (SF_trans (SF_trans (SF_trans (SF_trans (SF_trans (SF_trans (SF_refl) hS_c38 (any_sub rfl)) hS_c145 (any_sub rfl)) hS_161 (any_sub rfl)) hS9 (any_sub rfl)) hS17 (any_sub rfl)) hS23 (any_sub rfl)) hS_c300 (any_sub rfl)) rfl) hS_320 (any_sub rfl)) hS31 (any_sub rfl)) (SA_trans (SA_trans (SA_trans (SA_upd (SA_trans (SA_trans (SA_trans (SA_trans (SA_trans (SA_trans (SA_refl) hA_c38 (any_subA rfl)) hA_c145 (any_subA rfl)) hA_161 (any_subA rfl)) hA10 (any_subA rfl)) hA18 (any_subA rfl)) hA24 (any_subA rfl)) rfl) hA_c300 (any_subA rfl)) hA_320 (any_subA rfl)) hA32 (any_subA rfl)) ((z11 + 1)) (((hS31 5 10 rfl).trans (hS_320 5 10 rfl))) (w320_31) ((funext (hA32 31 rfl)).trans (ew320_31)) (wq34) (ewq35) (show inr (((a1 + 1) + tc38_0)) from q_1457 b3 h2 jc38_0) (show (((a1 + 1) + tc38_0)) = -1 ∨ a1 < (((a1 + 1) + tc38_0)) ∧ (((a1 + 1) + tc38_0)) ≤ a2 by omega) (show (((a1 + 1) + tc38_0)) ≠ -1 → CI ((w320_31)) (((z11 + 1))) by first | assumption | exact fun h => absurd rfl h | exact fun h => absurd h (by decide) | omega) (show DSA ((w14)) (a1) (a2) ((((a1 + 1) + tc38_0))) (((z11 + 1))) ((w320_31)) by assumption) (show IMP ((((a1 + 1) + tc38_0)) ≠ -1) (fl ((wq34)) (p2 (((z11 + 1)))) = CELS ((w320_31)) (((z11 + 1)))) by assumption))
                            · have hlw := lw_eq ((upd1 (wc145_40) (xc145_5) ((z25 + 1)))) ((xc145_5)) (((z11 + 1))) ((x320_10))
                              have hwt := fun q => hds.2.1 ((x320_10)) (by omega) q
                              refine Ew_of (pcₚ := 329) (fun _ => x_aload_n rfl l320_0) ?_
                              refine w_gT H (o := 5) (t := 31) rfl (H.perm 5 rfl) rfl rfl rfl rfl rfl rfl ?_
                              refine Ew_of (pcₚ := 334) (fun _ => x_iload rfl l320_10) ?_
                              refine Ew_of (pcₚ := 336) (fun _ => x_iload rfl l320_10) ?_
                              refine Ew_of (pcₚ := 338) (fun _ => x_iload rfl l320_5) ?_
                              refine w_icmpgt (t := 366) rfl rfl (show inr (x320_10) from j320_0) (show inr (xc145_5) from jc145_0) (fun b36 => ?_) (fun b36 => ?_)
                              · refine Ew_of (pcₚ := 367) (fun _ => x_iconst rfl) ?_
                                refine w_sI H (o := 31) (n := 256) rfl (H.perm 31 rfl) rfl rfl (H.fix 31 rfl rfl) (show 0 ≤ x320_10 ∧ x320_10 < ((256 : Nat) : Int) from q_23 b28 j320_1) (by decide) (show (0 : Int) ≤ 0 ∧ 0 ≤ 11 from q_1458) (fun σ H => ?_)
                                refine Ew_of (pcₚ := 371) (fun _ => x_iinc (len := 3) rfl (l320_10)) ?_
                                refine Ew_of (pcₚ := 320) (fun _ => x_goto rfl rfl) ?_
                                have : ∀ i, (0 : Int) ≤ i → i < ((x320_10 + 1)) → ((upd1 (w320_31) (x320_10) (0))) i = lw ((upd1 (wc145_40) (xc145_5) ((z25 + 1)))) ((xc145_5)) (((z11 + 1))) i := pt_upd j320_3 (by omega)
                                exact ih320 _ (msE hm320 q_26 (q_27 b28)) _ σ _ _ ((x320_10 + 1)) (rk_o (l320_0) rfl rfl) (rk_o (l320_4) rfl rfl) (rk_o (l320_5) rfl rfl) (rk_o (l320_8) rfl rfl) (rk_s) H (hS_320) (SA_upd (hA_320) rfl)  (upd1 (w320_31) (x320_10) (0)) (congrArg (fun q => upd1 q (x320_10) (0)) (ew320_31)) (show inr ((x320_10 + 1)) from q_25 b28 j320_1) (show (0) ≤ ((x320_10 + 1)) from q_14 j320_1) (show ((x320_10 + 1)) ≤ (0) ∨ ((x320_10 + 1)) ≤ ((256)) from q_24 b28) (show ∀ i, 0 ≤ i → i < ((x320_10 + 1)) → ((upd1 (w320_31) (x320_10) (0))) i = lw ((upd1 (wc145_40) (xc145_5) ((z25 + 1)))) ((xc145_5)) (((z11 + 1))) i by assumption) rfl
                              · refine Ew_of (pcₚ := 342) (fun _ => x_aload_n rfl l320_0) ?_
                                refine w_gT H (o := 5) (t := 40) rfl (H.perm 5 rfl) rfl rfl rfl rfl rfl rfl ?_
                                refine Ew_of (pcₚ := 347) (fun _ => x_iload rfl l320_10) ?_
                                refine w_lI H (o := 40) (n := 256) rfl (H.perm 40 rfl) rfl rfl (H.fix 40 rfl rfl) (show 0 ≤ x320_10 ∧ x320_10 < ((256 : Nat) : Int) from q_23 b28 j320_1) (by decide) (fun v37 ev37 qv37 => ?_)
                                have qv37 : (-1 : Int) ≤ v37 ∧ v37 ≤ 15 := qv37
                                have ev37 : (upd1 (wc145_40) (xc145_5) ((z25 + 1))) (x320_10) = v37 := (congrFun ((funext (hA_320 40 rfl)).trans ((funext (hA_c300 40 rfl)).trans (congrArg (fun q => upd1 q (xc145_5) ((z25 + 1))) ((funext (hA24 40 rfl)).trans ((funext (hA18 40 rfl)).trans ((funext (hA10 40 rfl)).trans ((funext (hA_161 40 rfl)).trans (ewc145_40)))))))) (x320_10)).symm.trans ev37
                                refine w_ifle (t := 366) rfl rfl (show inr (v37) from q_1459 qv37) (fun b38 => ?_) (fun b38 => ?_)
                                · refine Ew_of (pcₚ := 367) (fun _ => x_iconst rfl) ?_
                                  refine w_sI H (o := 31) (n := 256) rfl (H.perm 31 rfl) rfl rfl (H.fix 31 rfl rfl) (show 0 ≤ x320_10 ∧ x320_10 < ((256 : Nat) : Int) from q_23 b28 j320_1) (by decide) (show (0 : Int) ≤ 0 ∧ 0 ≤ 11 from q_1458) (fun σ H => ?_)
                                  refine Ew_of (pcₚ := 371) (fun _ => x_iinc (len := 3) rfl (l320_10)) ?_
                                  refine Ew_of (pcₚ := 320) (fun _ => x_goto rfl rfl) ?_
                                  have : ∀ i, (0 : Int) ≤ i → i < ((x320_10 + 1)) → ((upd1 (w320_31) (x320_10) (0))) i = lw ((upd1 (wc145_40) (xc145_5) ((z25 + 1)))) ((xc145_5)) (((z11 + 1))) i := pt_upd j320_3 (by omega)
                                  exact ih320 _ (msE hm320 q_26 (q_27 b28)) _ σ _ _ ((x320_10 + 1)) (rk_o (l320_0) rfl rfl) (rk_o (l320_4) rfl rfl) (rk_o (l320_5) rfl rfl) (rk_o (l320_8) rfl rfl) (rk_s) H (hS_320) (SA_upd (hA_320) rfl)  (upd1 (w320_31) (x320_10) (0)) (congrArg (fun q => upd1 q (x320_10) (0)) (ew320_31)) (show inr ((x320_10 + 1)) from q_25 b28 j320_1) (show (0) ≤ ((x320_10 + 1)) from q_14 j320_1) (show ((x320_10 + 1)) ≤ (0) ∨ ((x320_10 + 1)) ≤ ((256)) from q_24 b28) (show ∀ i, 0 ≤ i → i < ((x320_10 + 1)) → ((upd1 (w320_31) (x320_10) (0))) i = lw ((upd1 (wc145_40) (xc145_5) ((z25 + 1)))) ((xc145_5)) (((z11 + 1))) i by assumption) rfl
                                · refine Ew_of (pcₚ := 353) (fun _ => x_iload rfl l320_8) ?_
                                  refine Ew_of (pcₚ := 354) (fun _ => x_iconst rfl) ?_
                                  refine w_iadd rfl ?_
                                  refine Ew_of (pcₚ := 356) (fun _ => x_aload_n rfl l320_0) ?_
                                  refine w_gT H (o := 5) (t := 40) rfl (H.perm 5 rfl) rfl rfl rfl rfl rfl rfl ?_
                                  refine Ew_of (pcₚ := 361) (fun _ => x_iload rfl l320_10) ?_
                                  refine w_lI H (o := 40) (n := 256) rfl (H.perm 40 rfl) rfl rfl (H.fix 40 rfl rfl) (show 0 ≤ x320_10 ∧ x320_10 < ((256 : Nat) : Int) from q_23 b28 j320_1) (by decide) (fun v39 ev39 qv39 => ?_)
                                  have qv39 : (-1 : Int) ≤ v39 ∧ v39 ≤ 15 := qv39
                                  have ev39 : (upd1 (wc145_40) (xc145_5) ((z25 + 1))) (x320_10) = v39 := (congrFun ((funext (hA_320 40 rfl)).trans ((funext (hA_c300 40 rfl)).trans (congrArg (fun q => upd1 q (xc145_5) ((z25 + 1))) ((funext (hA24 40 rfl)).trans ((funext (hA18 40 rfl)).trans ((funext (hA10 40 rfl)).trans ((funext (hA_161 40 rfl)).trans (ewc145_40)))))))) (x320_10)).symm.trans ev39
                                  refine w_isub rfl ?_
                                  refine Ew_of (pcₚ := 367) (fun _ => x_goto rfl rfl) ?_
                                  refine w_sI H (o := 31) (n := 256) rfl (H.perm 31 rfl) rfl rfl (H.fix 31 rfl rfl) (show 0 ≤ x320_10 ∧ x320_10 < ((256 : Nat) : Int) from q_23 b28 j320_1) (by decide) (show (0 : Int) ≤ (((z11 + 1) + 1) - v39) ∧ (((z11 + 1) + 1) - v39) ≤ 11 by omega) (fun σ H => ?_)
                                  refine Ew_of (pcₚ := 371) (fun _ => x_iinc (len := 3) rfl (l320_10)) ?_
                                  refine Ew_of (pcₚ := 320) (fun _ => x_goto rfl rfl) ?_
                                  have : ∀ i, (0 : Int) ≤ i → i < ((x320_10 + 1)) → ((upd1 (w320_31) (x320_10) ((((z11 + 1) + 1) - v39)))) i = lw ((upd1 (wc145_40) (xc145_5) ((z25 + 1)))) ((xc145_5)) (((z11 + 1))) i := pt_upd j320_3 (by omega)
                                  exact ih320 _ (msE hm320 q_26 (q_27 b28)) _ σ _ _ ((x320_10 + 1)) (rk_o (l320_0) rfl rfl) (rk_o (l320_4) rfl rfl) (rk_o (l320_5) rfl rfl) (rk_o (l320_8) rfl rfl) (rk_s) H (hS_320) (SA_upd (hA_320) rfl)  (upd1 (w320_31) (x320_10) ((((z11 + 1) + 1) - v39))) (congrArg (fun q => upd1 q (x320_10) ((((z11 + 1) + 1) - v39))) (ew320_31)) (show inr ((x320_10 + 1)) from q_25 b28 j320_1) (show (0) ≤ ((x320_10 + 1)) from q_14 j320_1) (show ((x320_10 + 1)) ≤ (0) ∨ ((x320_10 + 1)) ≤ ((256)) from q_24 b28) (show ∀ i, 0 ≤ i → i < ((x320_10 + 1)) → ((upd1 (w320_31) (x320_10) ((((z11 + 1) + 1) - v39)))) i = lw ((upd1 (wc145_40) (xc145_5) ((z25 + 1)))) ((xc145_5)) (((z11 + 1))) i by assumption) rfl
                        · refine Ew_of (pcₚ := 310) (fun _ => x_iconst rfl) ?_
                          have r40 : (0 : Int) ≤ F 5 10 ∧ F 5 10 ≤ 11 := rngE (show (0 : Int) ≤ F_c300 5 10 ∧ F_c300 5 10 ≤ 11 from H.frng 5 10) (show F_c300 5 10 = F 5 10 from (((((((hS_c300 5 10 rfl).trans (hS23 5 10 rfl)).trans (hS17 5 10 rfl)).trans (hS9 5 10 rfl)).trans (hS_161 5 10 rfl)).trans (hS_c145 5 10 rfl)).trans (hS_c38 5 10 rfl)))
                          have : DSA ((w14)) ((a1)) ((a2)) (((-1))) ((F 5 10)) ((A 31)) := DSA_o (k := z11) (ones := q7) hDW hsm hon_ (by omega) (by omega) (by omega) rfl (by omega) (by omega)
                          have : IMP (((-1)) ≠ -1) (fl ((A 32)) (p2 ((F 5 10))) = CELS ((A 31)) ((F 5 10))) := fun z => absurd rfl z
                          exact w_ireturn rfl (k ((-1)) σ _ _ H (SF_trans (SF_trans (SF_trans (SF_trans (SF_trans (SF_trans (SF_trans (SF_refl) hS_c38 (any_sub rfl)) hS_c145 (any_sub rfl)) hS_161 (any_sub rfl)) hS9 (any_sub rfl)) hS17 (any_sub rfl)) hS23 (any_sub rfl)) hS_c300 (any_sub rfl)) (SA_trans (SA_upd (SA_trans (SA_trans (SA_trans (SA_trans (SA_trans (SA_trans (SA_refl) hA_c38 (any_subA rfl)) hA_c145 (any_subA rfl)) hA_161 (any_subA rfl)) hA10 (any_subA rfl)) hA18 (any_subA rfl)) hA24 (any_subA rfl)) rfl) hA_c300 (any_subA rfl)) (F 5 10) ((((((((hS_c300 5 10 rfl).trans (hS23 5 10 rfl)).trans (hS17 5 10 rfl)).trans (hS9 5 10 rfl)).trans (hS_161 5 10 rfl)).trans (hS_c145 5 10 rfl)).trans (hS_c38 5 10 rfl))) (A 31) ((funext (hA_c300 31 rfl)).trans ((funext (hA24 31 rfl)).trans ((funext (hA18 31 rfl)).trans ((funext (hA10 31 rfl)).trans ((funext (hA_161 31 rfl)).trans ((funext (hA_c145 31 rfl)).trans (funext (hA_c38 31 rfl)))))))) (A 32) ((funext (hA_c300 32 rfl)).trans ((funext (hA24 32 rfl)).trans ((funext (hA18 32 rfl)).trans ((funext (hA10 32 rfl)).trans ((funext (hA_161 32 rfl)).trans ((funext (hA_c145 32 rfl)).trans (funext (hA_c38 32 rfl)))))))) (show inr ((-1)) from q_63) (show ((-1)) = -1 ∨ a1 < ((-1)) ∧ ((-1)) ≤ a2 by first | exact q_1454 | omega) (show ((-1)) ≠ -1 → CI ((A 31)) ((F 5 10)) by first | assumption | exact fun h => absurd rfl h | exact fun h => absurd h (by decide) | omega) (show DSA ((w14)) (a1) (a2) (((-1))) ((F 5 10)) ((A 31)) by assumption) (show IMP (((-1)) ≠ -1) (fl ((A 32)) (p2 ((F 5 10))) = CELS ((A 31)) ((F 5 10))) by assumption))
                      refine w_icmpne (t := 299) rfl rfl (show inr (v26) from q_1459 qv26) (show inr (1) from q_135) (fun b41 => ?_) (fun b41 => ?_)
                      · refine Ew_of (pcₚ := 300) (fun _ => x_iconst rfl) ?_
                        exact hc300 (0) _ σ _ _  (rk_o (rk_o (l161_0) rfl rfl) rfl rfl) (rk_o (rk_o (l161_4) rfl rfl) rfl rfl) (rk_o (rk_o (l161_5) rfl rfl) rfl rfl) (rk_o (rk_s) rfl rfl) H (SF_refl) (SA_refl)   (show inr (0) from q_2) (show ((v26) ≠ (1) ∧ (0) = (0)) ∨ ((v26) = (1) ∧ (0) = (1)) from q_1273 b41)
                      · refine Ew_of (pcₚ := 296) (fun _ => x_iconst rfl) ?_
                        refine Ew_of (pcₚ := 300) (fun _ => x_goto rfl rfl) ?_
                        exact hc300 (1) _ σ _ _  (rk_o (rk_o (l161_0) rfl rfl) rfl rfl) (rk_o (rk_o (l161_4) rfl rfl) rfl rfl) (rk_o (rk_o (l161_5) rfl rfl) rfl rfl) (rk_o (rk_s) rfl rfl) H (SF_refl) (SA_refl)   (show inr (1) from q_135) (show ((v26) ≠ (1) ∧ (1) = (0)) ∨ ((v26) = (1) ∧ (1) = (1)) from q_1274 b41)
                    · refine Ew_of (pcₚ := 267) (fun _ => x_iconst rfl) ?_
                      have r42 : (0 : Int) ≤ F 5 10 ∧ F 5 10 ≤ 11 := rngE (show (0 : Int) ≤ F15 5 10 ∧ F15 5 10 ≤ 11 from H.frng 5 10) (show F15 5 10 = F 5 10 from (((((hS17 5 10 rfl).trans (hS9 5 10 rfl)).trans (hS_161 5 10 rfl)).trans (hS_c145 5 10 rfl)).trans (hS_c38 5 10 rfl)))
                      have : DSA ((w14)) ((a1)) ((a2)) (((-1))) ((F 5 10)) ((A 31)) := by first | exact DSA_t hDW hsm (h11 (by omega)) (by omega) | exact DSA_p (k := z11) hDW hsm (by omega) (by omega) (by omega) (pz19_2 (by omega)) rfl (by omega)
                      have : IMP (((-1)) ≠ -1) (fl ((A 32)) (p2 ((F 5 10))) = CELS ((A 31)) ((F 5 10))) := fun z => absurd rfl z
                      exact w_ireturn rfl (k ((-1)) σ _ _ H (SF_trans (SF_trans (SF_trans (SF_trans (SF_trans (SF_refl) hS_c38 (any_sub rfl)) hS_c145 (any_sub rfl)) hS_161 (any_sub rfl)) hS9 (any_sub rfl)) hS17 (any_sub rfl)) (SA_trans (SA_trans (SA_trans (SA_trans (SA_trans (SA_refl) hA_c38 (any_subA rfl)) hA_c145 (any_subA rfl)) hA_161 (any_subA rfl)) hA10 (any_subA rfl)) hA18 (any_subA rfl)) (F 5 10) ((((((hS17 5 10 rfl).trans (hS9 5 10 rfl)).trans (hS_161 5 10 rfl)).trans (hS_c145 5 10 rfl)).trans (hS_c38 5 10 rfl))) (A 31) ((funext (hA18 31 rfl)).trans ((funext (hA10 31 rfl)).trans ((funext (hA_161 31 rfl)).trans ((funext (hA_c145 31 rfl)).trans (funext (hA_c38 31 rfl)))))) (A 32) ((funext (hA18 32 rfl)).trans ((funext (hA10 32 rfl)).trans ((funext (hA_161 32 rfl)).trans ((funext (hA_c145 32 rfl)).trans (funext (hA_c38 32 rfl)))))) (show inr ((-1)) from q_63) (show ((-1)) = -1 ∨ a1 < ((-1)) ∧ ((-1)) ≤ a2 by first | exact q_1454 | omega) (show ((-1)) ≠ -1 → CI ((A 31)) ((F 5 10)) by first | assumption | exact fun h => absurd rfl h | exact fun h => absurd h (by decide) | omega) (show DSA ((w14)) (a1) (a2) (((-1))) ((F 5 10)) ((A 31)) by assumption) (show IMP (((-1)) ≠ -1) (fl ((A 32)) (p2 ((F 5 10))) = CELS ((A 31)) ((F 5 10))) by assumption))
                · refine Ew_of (pcₚ := 231) (fun _ => x_iconst rfl) ?_
                  have r43 : (0 : Int) ≤ F 5 10 ∧ F 5 10 ≤ 11 := rngE (show (0 : Int) ≤ F_161 5 10 ∧ F_161 5 10 ≤ 11 from H.frng 5 10) (show F_161 5 10 = F 5 10 from (((hS_161 5 10 rfl).trans (hS_c145 5 10 rfl)).trans (hS_c38 5 10 rfl)))
                  have : DSA ((w14)) ((a1)) ((a2)) (((-1))) ((F 5 10)) ((A 31)) := DSA_0 hDW hsm (by omega) (by omega)
                  have : IMP (((-1)) ≠ -1) (fl ((A 32)) (p2 ((F 5 10))) = CELS ((A 31)) ((F 5 10))) := fun z => absurd rfl z
                  exact w_ireturn rfl (k ((-1)) σ _ _ H (SF_trans (SF_trans (SF_trans (SF_refl) hS_c38 (any_sub rfl)) hS_c145 (any_sub rfl)) hS_161 (any_sub rfl)) (SA_trans (SA_trans (SA_trans (SA_refl) hA_c38 (any_subA rfl)) hA_c145 (any_subA rfl)) hA_161 (any_subA rfl)) (F 5 10) ((((hS_161 5 10 rfl).trans (hS_c145 5 10 rfl)).trans (hS_c38 5 10 rfl))) (A 31) ((funext (hA_161 31 rfl)).trans ((funext (hA_c145 31 rfl)).trans (funext (hA_c38 31 rfl)))) (A 32) ((funext (hA_161 32 rfl)).trans ((funext (hA_c145 32 rfl)).trans (funext (hA_c38 32 rfl)))) (show inr ((-1)) from q_63) (show ((-1)) = -1 ∨ a1 < ((-1)) ∧ ((-1)) ≤ a2 by first | exact q_1454 | omega) (show ((-1)) ≠ -1 → CI ((A 31)) ((F 5 10)) by first | assumption | exact fun h => absurd rfl h | exact fun h => absurd h (by decide) | omega) (show DSA ((w14)) (a1) (a2) (((-1))) ((F 5 10)) ((A 31)) by assumption) (show IMP (((-1)) ≠ -1) (fl ((A 32)) (p2 ((F 5 10))) = CELS ((A 31)) ((F 5 10))) by assumption))
              · have hsw := su_s (f := fun i => wk (((wc145_40)) i)) (i := (x161_8)) (by omega)
                have hso := su_s (f := fun i => on1 (((wc145_40)) i)) (i := (x161_8)) (by omega)
                have hwk := wk_eq (((wc145_40)) ((x161_8)))
                have hon := on1_eq (((wc145_40)) ((x161_8)))
                refine Ew_of (pcₚ := 170) (fun _ => x_iload rfl l161_6) ?_
                refine Ew_of (pcₚ := 171) (fun _ => x_aload_n rfl l161_0) ?_
                refine w_gT H (o := 5) (t := 40) rfl (H.perm 5 rfl) rfl rfl rfl rfl rfl rfl ?_
                refine Ew_of (pcₚ := 176) (fun _ => x_iload rfl l161_8) ?_
                refine w_lI H (o := 40) (n := 256) rfl (H.perm 40 rfl) rfl rfl (H.fix 40 rfl rfl) (show 0 ≤ x161_8 ∧ x161_8 < ((256 : Nat) : Int) from q_1460 b5 j161_3 j161_4 jc145_1) (by decide) (fun v44 ev44 qv44 => ?_)
                have qv44 : (-1 : Int) ≤ v44 ∧ v44 ≤ 15 := qv44
                have ev44 : (wc145_40) (x161_8) = v44 := (congrFun ((funext (hA_161 40 rfl)).trans (ewc145_40)) (x161_8)).symm.trans ev44
                have hpw2 : p2 (((wc145_40)) ((x161_8)) - 1) ≤ p2 14 := p2_mono (by omega)
                have hp14 : p2 14 = 16384 := by decide
                have hpw3 := p2_pos (((wc145_40)) ((x161_8)) - 1)
                have hc195 : ∀ (tc195_0 : Int), ∀ (ls : rO) (σ : rS) (F_c195 : hF) (A_c195 : hA) , rlook ls 0 = some (.ref (D 5)) → rlook ls 4 = some (I (((a1 + 1) + tc38_0))) → rlook ls 5 = some (I (xc145_5)) → rlook ls 7 = some (I (x161_7)) → rlook ls 8 = some (I (x161_8)) → HS σ0 σ D N F_c195 A_c195 → SF [] F_161 F_c195 → SA [] A_161 A_c195 → (inr (tc195_0)) → (((v44) ≤ (0) ∧ (tc195_0) = (0)) ∨ ((v44) > (0) ∧ (-1) ≤ ((wc145_40) (x161_8)) ∧ ((wc145_40) (x161_8)) ≤ 15 ∧ (tc195_0) = (p2 (((wc145_40) (x161_8) - 1))))) → Ew 271 (d + 3) 195 ls [I (tc195_0), I (x161_6)] σ c s Q := by
                 as_aux_lemma =>
                  intro tc195_0 ls σ F_c195 A_c195  lc195_0 lc195_4 lc195_5 lc195_7 lc195_8 H hS_c195 hA_c195   jc195_0 jc195_1
                  refine w_iadd rfl ?_
                  refine Ew_of (pcₚ := 198) (fun _ => x_istore rfl) ?_
                  refine Ew_of (pcₚ := 200) (fun _ => x_iload rfl (rk_o (lc195_7) rfl rfl)) ?_
                  refine Ew_of (pcₚ := 201) (fun _ => x_aload_n rfl (rk_o (lc195_0) rfl rfl)) ?_
                  refine w_gT H (o := 5) (t := 40) rfl (H.perm 5 rfl) rfl rfl rfl rfl rfl rfl ?_
                  refine Ew_of (pcₚ := 206) (fun _ => x_iload rfl (rk_o (lc195_8) rfl rfl)) ?_
                  refine w_lI H (o := 40) (n := 256) rfl (H.perm 40 rfl) rfl rfl (H.fix 40 rfl rfl) (show 0 ≤ x161_8 ∧ x161_8 < ((256 : Nat) : Int) from q_1460 b5 j161_3 j161_4 jc145_1) (by decide) (fun v45 ev45 qv45 => ?_)
                  have qv45 : (-1 : Int) ≤ v45 ∧ v45 ≤ 15 := qv45
                  have ev45 : (wc145_40) (x161_8) = v45 := (congrFun ((funext (hA_c195 40 rfl)).trans ((funext (hA_161 40 rfl)).trans (ewc145_40))) (x161_8)).symm.trans ev45
                  refine Ew_of (pcₚ := 208) (fun _ => x_iconst rfl) ?_
                  refine w_icmpne (t := 215) rfl rfl (show inr (v45) from q_1459 qv45) (show inr (1) from q_135) (fun b46 => ?_) (fun b46 => ?_)
                  · refine Ew_of (pcₚ := 216) (fun _ => x_iconst rfl) ?_
                    refine w_iadd rfl ?_
                    refine Ew_of (pcₚ := 219) (fun _ => x_istore rfl) ?_
                    refine Ew_of (pcₚ := 222) (fun _ => x_iinc (len := 3) rfl (rk_o (rk_o (lc195_8) rfl rfl) rfl rfl)) ?_
                    refine Ew_of (pcₚ := 161) (fun _ => x_goto rfl rfl) ?_
                    exact ih161 _ (msE hm161 q_16 (q_17 b5)) _ σ _ _ ((x161_6 + tc195_0)) ((x161_7 + 0)) ((x161_8 + 1)) (rk_o (rk_o (rk_o (lc195_0) rfl rfl) rfl rfl) rfl rfl) (rk_o (rk_o (rk_o (lc195_4) rfl rfl) rfl rfl) rfl rfl) (rk_o (rk_o (rk_o (lc195_5) rfl rfl) rfl rfl) rfl rfl) (rk_o (rk_o (rk_s) rfl rfl) rfl rfl) (rk_o (rk_s) rfl rfl) (rk_s) H (SF_trans (hS_161) hS_c195 (any_sub rfl)) (SA_trans (hA_161) hA_c195 (any_subA rfl))   (show inr ((x161_6 + tc195_0)) by omega) (show inr ((x161_7 + 0)) from q_1464 j161_1 j161_8) (show inr ((x161_8 + 1)) from q_1463 b5 j161_7 jc145_0) (show (0) ≤ ((x161_8 + 1)) from q_1462 j161_7) (show ((x161_8 + 1)) ≤ (0) ∨ ((x161_8 + 1)) ≤ ((xc145_5)) from q_13 b5) (show ((x161_6 + tc195_0)) = su (fun i => wk (((wc145_40)) i)) (((x161_8 + 1)) : Int).toNat by omega) (show ((x161_7 + 0)) = su (fun i => on1 (((wc145_40)) i)) (((x161_8 + 1)) : Int).toNat by omega) (show 0 ≤ ((x161_6 + tc195_0)) ∧ ((x161_6 + tc195_0)) ≤ 16384 * ((x161_8 + 1)) by omega) (show 0 ≤ ((x161_7 + 0)) ∧ ((x161_7 + 0)) ≤ ((x161_8 + 1)) from q_1461 j161_8) rfl
                  · refine Ew_of (pcₚ := 212) (fun _ => x_iconst rfl) ?_
                    refine Ew_of (pcₚ := 216) (fun _ => x_goto rfl rfl) ?_
                    refine w_iadd rfl ?_
                    refine Ew_of (pcₚ := 219) (fun _ => x_istore rfl) ?_
                    refine Ew_of (pcₚ := 222) (fun _ => x_iinc (len := 3) rfl (rk_o (rk_o (lc195_8) rfl rfl) rfl rfl)) ?_
                    refine Ew_of (pcₚ := 161) (fun _ => x_goto rfl rfl) ?_
                    exact ih161 _ (msE hm161 q_16 (q_17 b5)) _ σ _ _ ((x161_6 + tc195_0)) ((x161_7 + 1)) ((x161_8 + 1)) (rk_o (rk_o (rk_o (lc195_0) rfl rfl) rfl rfl) rfl rfl) (rk_o (rk_o (rk_o (lc195_4) rfl rfl) rfl rfl) rfl rfl) (rk_o (rk_o (rk_o (lc195_5) rfl rfl) rfl rfl) rfl rfl) (rk_o (rk_o (rk_s) rfl rfl) rfl rfl) (rk_o (rk_s) rfl rfl) (rk_s) H (SF_trans (hS_161) hS_c195 (any_sub rfl)) (SA_trans (hA_161) hA_c195 (any_subA rfl))   (show inr ((x161_6 + tc195_0)) by omega) (show inr ((x161_7 + 1)) by omega) (show inr ((x161_8 + 1)) from q_1463 b5 j161_7 jc145_0) (show (0) ≤ ((x161_8 + 1)) from q_1462 j161_7) (show ((x161_8 + 1)) ≤ (0) ∨ ((x161_8 + 1)) ≤ ((xc145_5)) from q_13 b5) (show ((x161_6 + tc195_0)) = su (fun i => wk (((wc145_40)) i)) (((x161_8 + 1)) : Int).toNat by omega) (show ((x161_7 + 1)) = su (fun i => on1 (((wc145_40)) i)) (((x161_8 + 1)) : Int).toNat by omega) (show 0 ≤ ((x161_6 + tc195_0)) ∧ ((x161_6 + tc195_0)) ≤ 16384 * ((x161_8 + 1)) by omega) (show 0 ≤ ((x161_7 + 1)) ∧ ((x161_7 + 1)) ≤ ((x161_8 + 1)) from q_1465 j161_8) rfl
                refine w_ifle (t := 194) rfl rfl (show inr (v44) from q_1459 qv44) (fun b47 => ?_) (fun b47 => ?_)
                · refine Ew_of (pcₚ := 195) (fun _ => x_iconst rfl) ?_
                  exact hc195 (0) _ σ _ _  (l161_0) (l161_4) (l161_5) (l161_7) (l161_8) H (SF_refl) (SA_refl)   (show inr (0) from q_2) (show ((v44) ≤ (0) ∧ (0) = (0)) ∨ ((v44) > (0) ∧ (-1) ≤ ((wc145_40) (x161_8)) ∧ ((wc145_40) (x161_8)) ≤ 15 ∧ (0) = (p2 (((wc145_40) (x161_8) - 1)))) from q_1466 b47)
                · refine Ew_of (pcₚ := 181) (fun _ => x_iconst rfl) ?_
                  refine Ew_of (pcₚ := 182) (fun _ => x_aload_n rfl l161_0) ?_
                  refine w_gT H (o := 5) (t := 40) rfl (H.perm 5 rfl) rfl rfl rfl rfl rfl rfl ?_
                  refine Ew_of (pcₚ := 187) (fun _ => x_iload rfl l161_8) ?_
                  refine w_lI H (o := 40) (n := 256) rfl (H.perm 40 rfl) rfl rfl (H.fix 40 rfl rfl) (show 0 ≤ x161_8 ∧ x161_8 < ((256 : Nat) : Int) from q_1460 b5 j161_3 j161_4 jc145_1) (by decide) (fun v48 ev48 qv48 => ?_)
                  have qv48 : (-1 : Int) ≤ v48 ∧ v48 ≤ 15 := qv48
                  have ev48 : (wc145_40) (x161_8) = v48 := (congrFun ((funext (hA_161 40 rfl)).trans (ewc145_40)) (x161_8)).symm.trans ev48
                  refine Ew_of (pcₚ := 189) (fun _ => x_iconst rfl) ?_
                  refine w_isub rfl ?_
                  have hpw : p2 (((v48 - 1))) = p2 (((wc145_40)) ((x161_8)) - 1) := by congr 1; omega
                  have : p2 (((v48 - 1))) ≤ p2 14 := p2_mono (by omega)
                  have : p2 14 = 16384 := by decide
                  have := p2_pos (((v48 - 1)))
                  refine w_ishl1 rfl (show 0 ≤ (v48 - 1) ∧ (v48 - 1) ≤ 31 from q_1467 b47 ev44 ev48 qv48) ?_
                  refine Ew_of (pcₚ := 195) (fun _ => x_goto rfl rfl) ?_
                  exact hc195 (p2 ((v48 - 1))) _ σ _ _  (l161_0) (l161_4) (l161_5) (l161_7) (l161_8) H (SF_refl) (SA_refl)   (show inr (p2 ((v48 - 1))) by omega) (show ((v44) ≤ (0) ∧ (p2 ((v48 - 1))) = (0)) ∨ ((v44) > (0) ∧ (-1) ≤ ((wc145_40) (x161_8)) ∧ ((wc145_40) (x161_8)) ≤ 15 ∧ (p2 ((v48 - 1))) = (p2 (((wc145_40) (x161_8) - 1)))) from q_1468 b47 ev48 hpw qv48)
          · refine Ew_of (pcₚ := 151) (fun _ => x_iconst rfl) ?_
            have r50 : (0 : Int) ≤ F 5 10 ∧ F 5 10 ≤ 11 := rngE (show (0 : Int) ≤ F_c145 5 10 ∧ F_c145 5 10 ≤ 11 from H.frng 5 10) (show F_c145 5 10 = F 5 10 from ((hS_c145 5 10 rfl).trans (hS_c38 5 10 rfl)))
            have : DSA ((w14)) ((a1)) ((a2)) (((-1))) ((F 5 10)) ((A 31)) := DSA_n (k145n (by omega)) (by omega)
            have : IMP (((-1)) ≠ -1) (fl ((A 32)) (p2 ((F 5 10))) = CELS ((A 31)) ((F 5 10))) := fun z => absurd rfl z
            exact w_ireturn rfl (k ((-1)) σ _ _ H (SF_trans (SF_trans (SF_refl) hS_c38 (any_sub rfl)) hS_c145 (any_sub rfl)) (SA_trans (SA_trans (SA_refl) hA_c38 (any_subA rfl)) hA_c145 (any_subA rfl)) (F 5 10) (((hS_c145 5 10 rfl).trans (hS_c38 5 10 rfl))) (A 31) ((funext (hA_c145 31 rfl)).trans (funext (hA_c38 31 rfl))) (A 32) ((funext (hA_c145 32 rfl)).trans (funext (hA_c38 32 rfl))) (show inr ((-1)) from q_63) (show ((-1)) = -1 ∨ a1 < ((-1)) ∧ ((-1)) ≤ a2 by first | exact q_1454 | omega) (show ((-1)) ≠ -1 → CI ((A 31)) ((F 5 10)) by first | assumption | exact fun h => absurd rfl h | exact fun h => absurd h (by decide) | omega) (show DSA ((w14)) (a1) (a2) (((-1))) ((F 5 10)) ((A 31)) by assumption) (show IMP (((-1)) ≠ -1) (fl ((A 32)) (p2 ((F 5 10))) = CELS ((A 31)) ((F 5 10))) by assumption))
        refine Ew_of (pcₚ := 56) (fun _ => x_iload_n rfl (rk_o (rk_o (lc38_3) rfl rfl) rfl rfl)) ?_
        refine Ew_of (pcₚ := 58) (fun _ => x_bipush (z := 127) rfl (by decide)) ?_
        refine w_icmple (t := 134) rfl rfl (show inr (v2) from q_299 qv2) (show inr (127) from q_1119) (fun b51 => ?_) (fun b51 => ?_)
        · refine Ew_of (pcₚ := 135) (fun _ => x_aload_n rfl (rk_o (rk_o (lc38_0) rfl rfl) rfl rfl)) ?_
          refine Ew_of (pcₚ := 136) (fun _ => x_iload_n rfl (rk_o (rk_o (lc38_1) rfl rfl) rfl rfl)) ?_
          refine Ew_of (pcₚ := 137) (fun _ => x_iconst rfl) ?_
          refine w_iadd rfl ?_
          refine Ew_of (pcₚ := 140) (fun _ => x_iload rfl (rk_o (rk_s) rfl rfl)) ?_
          refine w_inv H (o := 5) rfl rfl rfl (H.perm 5 rfl) rfl rfl (by rfl) (M272 H (w14) ((funext (hA_c38 14 rfl)).trans (ew14)) (show inr ((a1 + 1)) from q_1470 h2) (show inr (((a1 + 1) + tc38_0)) from q_1457 b3 h2 jc38_0) (show 0 ≤ ((a1 + 1)) ∧ ((a1 + 1)) ≤ 65536 ∧ 0 ≤ (((a1 + 1) + tc38_0)) ∧ (((a1 + 1) + tc38_0)) ≤ 65536 from q_1469 b1 b3 h2 jc38_1 qv2) (fun z56 σ F52 A53 H hS54 hA55 wq57 ewq58 pz56_0 pz56_1 pz56_2 => ⟨rfl, ?_⟩))
          refine Ew_of (pcₚ := 145) (fun _ => x_istore rfl) ?_
          have : IMP ((z56) = -1) (DWN ((w14)) ((a1)) ((a2))) := by first | exact fun z => absurd z (by omega) | exact fun z => DWN_s (by omega) (by omega) hen.symm (by omega) pz56_2 z (by omega)
          have : IMP ((z56) ≠ -1) (DWA ((w14)) ((a1)) ((a2)) ((z56)) ((wq57))) := by first | exact fun z => DWA_s (by omega) (by omega) hen.symm (by omega) pz56_2 z | exact fun _ => DWA_d (by omega) (by omega) (by omega) (by omega) (fun i a b => j64_w i a (by omega))
          exact hc145  _ σ _ _ (z56) (rk_o (rk_o (rk_o (lc38_0) rfl rfl) rfl rfl) rfl rfl) (rk_o (rk_o (rk_s) rfl rfl) rfl rfl) (rk_s) H (SF_trans (SF_refl) hS54 (any_sub rfl)) (SA_trans (SA_refl) hA55 (any_subA rfl))  (wq57) (ewq58) (show inr (z56) from pz56_0) (show (z56) = -1 ∨ 1 ≤ (z56) ∧ (z56) ≤ 255 by omega) (show IMP ((z56) = -1) (DWN ((w14)) ((a1)) ((a2))) by assumption) (show IMP ((z56) ≠ -1) (DWA ((w14)) ((a1)) ((a2)) ((z56)) ((wq57))) by assumption)
        · refine Ew_of (pcₚ := 62) (fun _ => x_iconst rfl) ?_
          refine Ew_of (pcₚ := 64) (fun _ => x_istore rfl) ?_
          have : ∀ i, 0 ≤ i → i < (0 : Int) → ((A 40)) i = dDW ((w14)) ((a1)) i := fun i a b => absurd b (by omega)
          suffices hl64 : ∀ (m : Nat), ∀ (ls : rO) (σ : rS) (F_64 : hF) (A_64 : hA) (x64_6 : Int), rlook ls 0 = some (.ref (D 5)) → rlook ls 1 = some (I (a1)) → rlook ls 4 = some (I (((a1 + 1) + tc38_0))) → rlook ls 5 = some (I ((v2 - 127))) → rlook ls 6 = some (I (x64_6)) → HS σ0 σ D N F_64 A_64 → SF [] F_c38 F_64 → SA [40] A_c38 A_64 → ∀ w64_40 : Int → Int, A_64 40 = w64_40 → (inr (x64_6)) → ((0) ≤ (x64_6)) → ((x64_6) ≤ (0) ∨ (x64_6) ≤ (((v2 - 127)))) → (∀ i, 0 ≤ i → i < (x64_6) → ((w64_40)) i = dDW ((w14)) ((a1)) i) → ((((v2 - 127))) - (x64_6)).toNat = m → Ew 271 (d + 3) 64 ls [] σ c s Q from
            hl64 _ _ σ _ _ (0) (rk_o (rk_o (rk_o (lc38_0) rfl rfl) rfl rfl) rfl rfl) (rk_o (rk_o (rk_o (lc38_1) rfl rfl) rfl rfl) rfl rfl) (rk_o (rk_o (rk_s) rfl rfl) rfl rfl) (rk_o (rk_s) rfl rfl) (rk_s) H (SF_refl) (SA_refl)  (A 40) (funext (hA_c38 40 rfl)) (show inr (0) from q_2) (show (0) ≤ (0) from q_1) (show (0) ≤ (0) ∨ (0) ≤ (((v2 - 127))) from q_1471) (show ∀ i, 0 ≤ i → i < (0) → ((A 40)) i = dDW ((w14)) ((a1)) i by assumption) rfl
          as_aux_lemma =>
          intro m
          induction m using Nat.strongRecOn with
          | _ m ih64 =>
            intro ls σ F_64 A_64 x64_6 l64_0 l64_1 l64_4 l64_5 l64_6 H hS_64 hA_64  w64_40 ew64_40 j64_0 j64_1 j64_2 j64_3 hm64
            have j64_w : ∀ i, 0 ≤ i → i < (x64_6) → ((w64_40)) i = dDW ((w14)) ((a1)) i := by assumption
            refine Ew_of (pcₚ := 66) (fun _ => x_iload rfl l64_6) ?_
            refine Ew_of (pcₚ := 68) (fun _ => x_iload rfl l64_5) ?_
            refine w_icmpge (t := 131) rfl rfl (show inr (x64_6) from j64_0) (show inr ((v2 - 127)) from q_1472 b51 qv2) (fun b59 => ?_) (fun b59 => ?_)
            · refine Ew_of (pcₚ := 145) (fun _ => x_goto rfl rfl) ?_
              have : IMP (((v2 - 127)) = -1) (DWN ((w14)) ((a1)) ((a2))) := by first | exact fun z => absurd z (by omega) | exact fun z => DWN_s (by omega) (by omega) hen.symm (by omega) pz56_2 z (by omega)
              have : IMP (((v2 - 127)) ≠ -1) (DWA ((w14)) ((a1)) ((a2)) (((v2 - 127))) ((w64_40))) := by first | exact fun z => DWA_s (by omega) (by omega) hen.symm (by omega) pz56_2 z | exact fun _ => DWA_d (by omega) (by omega) (by omega) (by omega) (fun i a b => j64_w i a (by omega))
              exact hc145  _ σ _ _ ((v2 - 127)) (l64_0) (l64_4) (l64_5) H (SF_trans (SF_refl) hS_64 (any_sub rfl)) (SA_trans (SA_refl) hA_64 (any_subA rfl))  (w64_40) (ew64_40) (show inr ((v2 - 127)) from q_1472 b51 qv2) (show ((v2 - 127)) = -1 ∨ 1 ≤ ((v2 - 127)) ∧ ((v2 - 127)) ≤ 255 from q_1473 b51 qv2) (show IMP (((v2 - 127)) = -1) (DWN ((w14)) ((a1)) ((a2))) by assumption) (show IMP (((v2 - 127)) ≠ -1) (DWA ((w14)) ((a1)) ((a2)) (((v2 - 127))) ((w64_40))) by assumption)
            · refine Ew_of (pcₚ := 72) (fun _ => x_aload_n rfl l64_0) ?_
              refine w_gT H (o := 5) (t := 40) rfl (H.perm 5 rfl) rfl rfl rfl rfl rfl rfl ?_
              refine Ew_of (pcₚ := 77) (fun _ => x_iload rfl l64_6) ?_
              refine Ew_of (pcₚ := 79) (fun _ => x_iload rfl l64_6) ?_
              refine Ew_of (pcₚ := 80) (fun _ => x_iconst rfl) ?_
              refine w_irem rfl (show inr (x64_6) ∧ 0 ≤ x64_6 from q_1235 j64_0 j64_1) (show inr (2) ∧ 0 < 2 from q_1234) ?_
              refine w_ifne (t := 105) rfl rfl (show inr ((x64_6 % 2)) from q_1474) (fun b60 => ?_) (fun b60 => ?_)
              · refine Ew_of (pcₚ := 106) (fun _ => x_aload_n rfl l64_0) ?_
                refine w_gT H (o := 5) (t := 1) rfl (H.perm 5 rfl) rfl rfl rfl rfl rfl rfl ?_
                refine w_gT H (o := 1) (t := 14) rfl (H.perm 1 rfl) rfl rfl rfl rfl rfl rfl ?_
                refine Ew_of (pcₚ := 113) (fun _ => x_iload_n rfl l64_1) ?_
                refine Ew_of (pcₚ := 114) (fun _ => x_iconst rfl) ?_
                refine w_iadd rfl ?_
                refine Ew_of (pcₚ := 117) (fun _ => x_iload rfl l64_6) ?_
                refine Ew_of (pcₚ := 118) (fun _ => x_iconst rfl) ?_
                refine w_idiv rfl (show inr (x64_6) ∧ 0 ≤ x64_6 from q_1235 j64_0 j64_1) (show inr (2) ∧ 0 < 2 from q_1234) ?_
                refine w_iadd rfl ?_
                refine w_lI H (o := 14) (n := 65536) rfl (H.perm 14 rfl) rfl rfl (H.fix 14 rfl rfl) (show 0 ≤ ((a1 + 1) + (x64_6 / 2)) ∧ ((a1 + 1) + (x64_6 / 2)) < ((65536 : Nat) : Int) by omega) (by decide) (fun v61 ev61 qv61 => ?_)
                have qv61 : (0 : Int) ≤ v61 ∧ v61 ≤ 255 := qv61
                have ev61 : (w14) (((a1 + 1) + (x64_6 / 2))) = v61 := (congrFun ((funext (hA_64 14 rfl)).trans ((funext (hA_c38 14 rfl)).trans (ew14))) (((a1 + 1) + (x64_6 / 2)))).symm.trans ev61
                have hv5 := ev61
                refine Ew_of (pcₚ := 123) (fun _ => x_bipush (z := 15) rfl (by decide)) ?_
                refine w_iandG rfl ?_
                have g62 : inr (andI (v61) (15)) := toI_inr _
                have hr15 : 0 ≤ ((andI (v61) (15))) ∧ ((andI (v61) (15))) ≤ 15 := by first | (rw [andI_15]; omega) | (rw [srI_d (by omega) (by omega), show p2 4 = 16 by decide]; omega)
                refine w_sI H (o := 40) (n := 256) rfl (H.perm 40 rfl) rfl rfl (H.fix 40 rfl rfl) (show 0 ≤ x64_6 ∧ x64_6 < ((256 : Nat) : Int) from q_1476 b59 j64_1 qv2) (by decide) (show (-1 : Int) ≤ (andI (v61) (15)) ∧ (andI (v61) (15)) ≤ 15 from q_1475 hr15) (fun σ H => ?_)
                refine Ew_of (pcₚ := 128) (fun _ => x_iinc (len := 3) rfl (l64_6)) ?_
                refine Ew_of (pcₚ := 64) (fun _ => x_goto rfl rfl) ?_
                have : ∀ i, 0 ≤ i → i < ((x64_6 + 1)) → ((upd1 (w64_40) (x64_6) ((andI (v61) (15))))) i = dDW ((w14)) ((a1)) i := by first | exact pt_upd j64_w (by rw [dDW_0 (by omega) (by omega) (by omega) rfl hv4, srI_d (by omega) (by omega), show p2 4 = 16 by decide]) | exact pt_upd j64_w (by rw [dDW_1 (by omega) (by omega) (by omega) rfl hv5]; exact andI_15 _)
                exact ih64 _ (msE hm64 q_1479 (q_1480 b59)) _ σ _ _ ((x64_6 + 1)) (rk_o (l64_0) rfl rfl) (rk_o (l64_1) rfl rfl) (rk_o (l64_4) rfl rfl) (rk_o (l64_5) rfl rfl) (rk_s) H (hS_64) (SA_upd (hA_64) rfl)  (upd1 (w64_40) (x64_6) ((andI (v61) (15)))) (congrArg (fun q => upd1 q (x64_6) ((andI (v61) (15)))) (ew64_40)) (show inr ((x64_6 + 1)) from q_1478 b59 j64_1 qv2) (show (0) ≤ ((x64_6 + 1)) from q_14 j64_1) (show ((x64_6 + 1)) ≤ (0) ∨ ((x64_6 + 1)) ≤ (((v2 - 127))) from q_1477 b59) (show ∀ i, 0 ≤ i → i < ((x64_6 + 1)) → ((upd1 (w64_40) (x64_6) ((andI (v61) (15))))) i = dDW ((w14)) ((a1)) i by assumption) rfl
              · refine Ew_of (pcₚ := 85) (fun _ => x_aload_n rfl l64_0) ?_
                refine w_gT H (o := 5) (t := 1) rfl (H.perm 5 rfl) rfl rfl rfl rfl rfl rfl ?_
                refine w_gT H (o := 1) (t := 14) rfl (H.perm 1 rfl) rfl rfl rfl rfl rfl rfl ?_
                refine Ew_of (pcₚ := 92) (fun _ => x_iload_n rfl l64_1) ?_
                refine Ew_of (pcₚ := 93) (fun _ => x_iconst rfl) ?_
                refine w_iadd rfl ?_
                refine Ew_of (pcₚ := 96) (fun _ => x_iload rfl l64_6) ?_
                refine Ew_of (pcₚ := 97) (fun _ => x_iconst rfl) ?_
                refine w_idiv rfl (show inr (x64_6) ∧ 0 ≤ x64_6 from q_1235 j64_0 j64_1) (show inr (2) ∧ 0 < 2 from q_1234) ?_
                refine w_iadd rfl ?_
                refine w_lI H (o := 14) (n := 65536) rfl (H.perm 14 rfl) rfl rfl (H.fix 14 rfl rfl) (show 0 ≤ ((a1 + 1) + (x64_6 / 2)) ∧ ((a1 + 1) + (x64_6 / 2)) < ((65536 : Nat) : Int) by omega) (by decide) (fun v63 ev63 qv63 => ?_)
                have qv63 : (0 : Int) ≤ v63 ∧ v63 ≤ 255 := qv63
                have ev63 : (w14) (((a1 + 1) + (x64_6 / 2))) = v63 := (congrFun ((funext (hA_64 14 rfl)).trans ((funext (hA_c38 14 rfl)).trans (ew14))) (((a1 + 1) + (x64_6 / 2)))).symm.trans ev63
                have hv4 := ev63
                refine Ew_of (pcₚ := 101) (fun _ => x_iconst rfl) ?_
                refine w_ishrG rfl ?_
                have g64 : inr (srI (v63) (4)) := toI_inr _
                refine Ew_of (pcₚ := 124) (fun _ => x_goto rfl rfl) ?_
                have hr15 : 0 ≤ ((srI (v63) (4))) ∧ ((srI (v63) (4))) ≤ 15 := by first | (rw [andI_15]; omega) | (rw [srI_d (by omega) (by omega), show p2 4 = 16 by decide]; omega)
                refine w_sI H (o := 40) (n := 256) rfl (H.perm 40 rfl) rfl rfl (H.fix 40 rfl rfl) (show 0 ≤ x64_6 ∧ x64_6 < ((256 : Nat) : Int) from q_1476 b59 j64_1 qv2) (by decide) (show (-1 : Int) ≤ (srI (v63) (4)) ∧ (srI (v63) (4)) ≤ 15 from q_1475 hr15) (fun σ H => ?_)
                refine Ew_of (pcₚ := 128) (fun _ => x_iinc (len := 3) rfl (l64_6)) ?_
                refine Ew_of (pcₚ := 64) (fun _ => x_goto rfl rfl) ?_
                have : ∀ i, 0 ≤ i → i < ((x64_6 + 1)) → ((upd1 (w64_40) (x64_6) ((srI (v63) (4))))) i = dDW ((w14)) ((a1)) i := by first | exact pt_upd j64_w (by rw [dDW_0 (by omega) (by omega) (by omega) rfl hv4, srI_d (by omega) (by omega), show p2 4 = 16 by decide]) | exact pt_upd j64_w (by rw [dDW_1 (by omega) (by omega) (by omega) rfl hv5]; exact andI_15 _)
                exact ih64 _ (msE hm64 q_1479 (q_1480 b59)) _ σ _ _ ((x64_6 + 1)) (rk_o (l64_0) rfl rfl) (rk_o (l64_1) rfl rfl) (rk_o (l64_4) rfl rfl) (rk_o (l64_5) rfl rfl) (rk_s) H (hS_64) (SA_upd (hA_64) rfl)  (upd1 (w64_40) (x64_6) ((srI (v63) (4)))) (congrArg (fun q => upd1 q (x64_6) ((srI (v63) (4)))) (ew64_40)) (show inr ((x64_6 + 1)) from q_1478 b59 j64_1 qv2) (show (0) ≤ ((x64_6 + 1)) from q_14 j64_1) (show ((x64_6 + 1)) ≤ (0) ∨ ((x64_6 + 1)) ≤ (((v2 - 127))) from q_1477 b59) (show ∀ i, 0 ≤ i → i < ((x64_6 + 1)) → ((upd1 (w64_40) (x64_6) ((srI (v63) (4))))) i = dDW ((w14)) ((a1)) i by assumption) rfl
      · refine Ew_of (pcₚ := 48) (fun _ => x_iconst rfl) ?_
        have r65 : (0 : Int) ≤ F 5 10 ∧ F 5 10 ≤ 11 := rngE (show (0 : Int) ≤ F_c38 5 10 ∧ F_c38 5 10 ≤ 11 from H.frng 5 10) (show F_c38 5 10 = F 5 10 from (hS_c38 5 10 rfl))
        have : DSA ((w14)) ((a1)) ((a2)) (((-1))) ((F 5 10)) ((A 31)) := DSA_n (.inr ⟨by omega, .inl (by omega)⟩) (by omega)
        have : IMP (((-1)) ≠ -1) (fl ((A 32)) (p2 ((F 5 10))) = CELS ((A 31)) ((F 5 10))) := fun z => absurd rfl z
        exact w_ireturn rfl (k ((-1)) σ _ _ H (SF_trans (SF_refl) hS_c38 (any_sub rfl)) (SA_trans (SA_refl) hA_c38 (any_subA rfl)) (F 5 10) ((hS_c38 5 10 rfl)) (A 31) (funext (hA_c38 31 rfl)) (A 32) (funext (hA_c38 32 rfl)) (show inr ((-1)) from q_63) (show ((-1)) = -1 ∨ a1 < ((-1)) ∧ ((-1)) ≤ a2 by first | exact q_1454 | omega) (show ((-1)) ≠ -1 → CI ((A 31)) ((F 5 10)) by first | assumption | exact fun h => absurd rfl h | exact fun h => absurd h (by decide) | omega) (show DSA ((w14)) (a1) (a2) (((-1))) ((F 5 10)) ((A 31)) by assumption) (show IMP (((-1)) ≠ -1) (fl ((A 32)) (p2 ((F 5 10))) = CELS ((A 31)) ((F 5 10))) by assumption))
    refine w_icmple (t := 37) rfl rfl (show inr (v2) from q_299 qv2) (show inr (127) from q_1119) (fun b66 => ?_) (fun b66 => ?_)
    · refine Ew_of (pcₚ := 38) (fun _ => x_iload_n rfl rk_s) ?_
      exact hc38 (v2) _ σ _ _  (rk_o (rfl) rfl rfl) (rk_o (rfl) rfl rfl) (rk_o (rfl) rfl rfl) (rk_s) H (SF_refl) (SA_refl)   (show inr (v2) from q_1482 b66 qv2) (show ((v2) ≤ (127) ∧ (v2) = (v2)) ∨ ((v2) > (127) ∧ (v2) = ((((v2 - 127) + 1) / 2))) from q_1481 b66)
    · refine Ew_of (pcₚ := 27) (fun _ => x_iload_n rfl rk_s) ?_
      refine Ew_of (pcₚ := 29) (fun _ => x_bipush (z := 127) rfl (by decide)) ?_
      refine w_isub rfl ?_
      refine Ew_of (pcₚ := 31) (fun _ => x_iconst rfl) ?_
      refine w_iadd rfl ?_
      refine Ew_of (pcₚ := 33) (fun _ => x_iconst rfl) ?_
      refine w_idiv rfl (show inr (((v2 - 127) + 1)) ∧ 0 ≤ ((v2 - 127) + 1) from q_1483 b66 qv2) (show inr (2) ∧ 0 < 2 from q_1234) ?_
      refine Ew_of (pcₚ := 38) (fun _ => x_goto rfl rfl) ?_
      exact hc38 ((((v2 - 127) + 1) / 2)) _ σ _ _  (rk_o (rfl) rfl rfl) (rk_o (rfl) rfl rfl) (rk_o (rfl) rfl rfl) (rk_s) H (SF_refl) (SA_refl)   (show inr ((((v2 - 127) + 1) / 2)) from q_1485 b66 qv2) (show ((v2) ≤ (127) ∧ ((((v2 - 127) + 1) / 2)) = (v2)) ∨ ((v2) > (127) ∧ ((((v2 - 127) + 1) / 2)) = ((((v2 - 127) + 1) / 2))) from q_1484 b66)
  · refine Ew_of (pcₚ := 6) (fun _ => x_iconst rfl) ?_
    have r67 : (0 : Int) ≤ F 5 10 ∧ F 5 10 ≤ 11 := H.frng 5 10
    have : DSA ((w14)) ((a1)) ((a2)) (((-1))) ((F 5 10)) ((A 31)) := DSA_n (.inl (by omega)) (by omega)
    have : IMP (((-1)) ≠ -1) (fl ((A 32)) (p2 ((F 5 10))) = CELS ((A 31)) ((F 5 10))) := fun z => absurd rfl z
    exact w_ireturn rfl (k ((-1)) σ _ _ H (SF_refl) (SA_refl) (F 5 10) (rfl) (A 31) (rfl) (A 32) (rfl) (show inr ((-1)) from q_63) (show ((-1)) = -1 ∨ a1 < ((-1)) ∧ ((-1)) ≤ a2 by first | exact q_1454 | omega) (show ((-1)) ≠ -1 → CI ((A 31)) ((F 5 10)) by first | assumption | exact fun h => absurd rfl h | exact fun h => absurd h (by decide) | omega) (show DSA ((w14)) (a1) (a2) (((-1))) ((F 5 10)) ((A 31)) by assumption) (show IMP (((-1)) ≠ -1) (fl ((A 32)) (p2 ((F 5 10))) = CELS ((A 31)) ((F 5 10))) by assumption))

