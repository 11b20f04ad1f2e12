theorem M423f {σ0 σ : rS} {D N : Nat → Nat} {F : hF} {A : hA} {d c s : Nat} {Q : wQ} (H : HS σ0 σ D N F A) {a1 : Int} (u6_35 : Int) (eu6_35 : F 6 35 = u6_35) (u6_53 : Int) (eu6_53 : F 6 53 = u6_53) (w69 : Int → Int) (ew69 : A 69 = w69) (w78 : Int → Int) (ew78 : A 78 = w78) (w84 : Int → Int) (ew84 : A 84 = w84) (h0 : inr (a1)) (h1 : 5 ≤ (a1) ∧ (a1) ≤ 6) (h2 : 2 ≤ (u6_53) ∧ (u6_53) ≤ 255) (h3 : ∀ i, (0 : Int) ≤ i → i < 64 → 0 ≤ ((w78)) i) (h4 : su (fun i => ((w78)) i) 64 = (u6_53)) (h5 : 2 ≤ su (fun i => pos1 (((w78)) i)) 64) (h6 : CW ((w78)) ((w84)) ((u6_53)) 11) (h7 : CZ ((w78)) 11) (k : ∀ (z : Int) σ Fₚ Aₚ, HS σ0 σ D N Fₚ Aₚ → SF [(6, 35)] F Fₚ → SA [69, 71, 72, 73, 74, 75, 76, 77] A Aₚ → ∀ y6_35 : Int, Fₚ 6 35 = y6_35 → ∀ v69 : Int → Int, Aₚ 69 = v69 → (inr (z)) → (1 ≤ (z) ∧ (z) ≤ 256) → (0 ≤ (y6_35) ∧ (y6_35) ≤ 2047) → (IMP (MDX ((w69)) ((u6_35))) (∃ C, MDB ((v69)) ((y6_35)) C ∧ (C.length : Int) = (y6_35) ∧ byw C = [(z) - 1] ++ (byw (STB (dvP ((w78)) ((u6_53)) (p2 ((a1)))) ((a1))) ++ byw (WSB (((a1), 12, (dvP ((w78)) ((u6_53)) (p2 ((a1))))) : Tb) ((w84)) ((u6_53)))) ∧ ((byw (STB (dvP ((w78)) ((u6_53)) (p2 ((a1)))) ((a1))) ++ byw (WSB (((a1), 12, (dvP ((w78)) ((u6_53)) (p2 ((a1))))) : Tb) ((w84)) ((u6_53)))).length : Int) = (z) - 1)) → ((y6_35) = 8 * (z)) → Q (some (I z)) σ c s) : Ew 423 (d + 2) 0 (rargs 0 [.ref (D 6), I a1]) [] σ c s Q := by
  have r1 : (0 : Int) ≤ u6_35 ∧ u6_35 ≤ 100000000 := rngE (show (0 : Int) ≤ F 6 35 ∧ F 6 35 ≤ 100000000 from H.frng 6 35) (show F 6 35 = u6_35 from (eu6_35))
  have r2 : (-1 : Int) ≤ u6_53 ∧ u6_53 ≤ 255 := rngE (show (-1 : Int) ≤ F 6 53 ∧ F 6 53 ≤ 255 from H.frng 6 53) (show F 6 53 = u6_53 from (eu6_53))
  have hp5 := p2_5 (o := (a1)) (by omega)
  have hcz : CZ ((w78)) 11 := h7
  have hcw : CW ((w78)) ((w84)) ((u6_53)) 11 := h6
  have hcp := CZ_pos hcz (by omega) (by omega)
  refine Ew_of (pcₚ := 1) (fun _ => x_aload_n rfl rfl) ?_
  refine w_inv H (o := 6) rfl rfl rfl (H.perm 6 rfl) rfl rfl (by rfl) (M391 H (u6_35) ((eu6_35)) (w69) (ew69)  (fun σ F3 A4 H hS5 hA6 y8 ey9 wq10 ewq11 pz7_0 pz7_1 => ⟨rfl, ?_⟩))
  have r12 : (0 : Int) ≤ y8 ∧ y8 ≤ 100000000 := rngE (show (0 : Int) ≤ F3 6 35 ∧ F3 6 35 ≤ 100000000 from H.frng 6 35) (show F3 6 35 = y8 from (ey9))
  have hb4 : IMP (MDX ((w69)) ((u6_35))) (MDB ((wq10)) ((y8)) []) := fun q => by rw [show (y8) = 0 by omega]; exact pz7_1 q
  refine Ew_of (pcₚ := 5) (fun _ => x_aload_n rfl rfl) ?_
  refine Ew_of (pcₚ := 6) (fun _ => x_iconst rfl) ?_
  refine Ew_of (pcₚ := 8) (fun _ => x_bipush (z := 8) rfl (by decide)) ?_
  refine w_inv H (o := 6) rfl rfl rfl (H.perm 6 rfl) rfl rfl (by rfl) (M389 H (y8) ((ey9)) (wq10) (ewq11) (show inr (0) from q_2) (show inr (8) from q_141) (show 0 ≤ (8) ∧ (8) ≤ 31 from q_2497) (show 0 ≤ (y8) ∧ (y8) ≤ 90000000 from q_2496 pz7_0 r12) (fun σ F13 A14 H hS15 hA16 y18 ey19 wq20 ewq21 pz17_0 pz17_1 => ⟨rfl, ?_⟩))
  have r22 : (0 : Int) ≤ y18 ∧ y18 ≤ 100000000 := rngE (show (0 : Int) ≤ F13 6 35 ∧ F13 6 35 ≤ 100000000 from H.frng 6 35) (show F13 6 35 = y18 from (ey19))
  have hb11 : IMP (MDX ((w69)) ((u6_35))) (MDB ((wq20)) ((y18)) (btw 0 8)) := fun q => by have h := pz17_1 (by omega) [] (hb4 q); rw [List.nil_append] at h; exact h
  refine Ew_of (pcₚ := 12) (fun _ => x_aload_n rfl rfl) ?_
  refine Ew_of (pcₚ := 13) (fun _ => x_aload_n rfl rfl) ?_
  refine w_gI H (o := 6) (w := u6_53) rfl (H.perm 6 rfl) rfl rfl rfl (fun _ => rfl) (((hS15 6 53 rfl).trans (hS5 6 53 rfl)).trans (eu6_53)) ?_
  refine Ew_of (pcₚ := 17) (fun _ => x_iload_n rfl rfl) ?_
  refine w_inv H (o := 6) rfl rfl rfl (H.perm 6 rfl) rfl rfl (by rfl) (M411b H (w78) ((funext (hA16 78 rfl)).trans ((funext (hA6 78 rfl)).trans (ew78))) (show inr (u6_53) from q_2500 r2) (show inr (a1) from h0) (show 1 ≤ (u6_53) ∧ (u6_53) ≤ 8001 from q_2499 h2 r2) (show 5 ≤ (a1) ∧ (a1) ≤ 9 from q_2498 h1) (h3) (show su (fun i => ((w78)) i) 64 = (u6_53) by omega) (show su (fun i => pos1 (((w78)) i)) 64 ≤ p2 ((a1)) by omega) (fun σ F23 A24 H hS25 hA26 wq28 ewq29 pz27_0 pz27_1 pz27_2 => ⟨rfl, ?_⟩))
  have hdv := pz27_0
  have hsh : SH ((wq28)) 0 64 ((a1)) 11 := SH_div (by omega) hdv (by omega) hcz
  have hPD : (dvP ((w78)) ((u6_53)) (p2 ((a1)))) = cutP 64 ((wq28)) := dvP_e pz27_2
  have hz12 : ∀ i, 12 ≤ i → i < 64 → ((wq28)) i = 0 := fun i a b => by have h1 := hdv i (by omega) b; have h2 := hcz i (by omega) b (by omega); omega
  refine Ew_of (pcₚ := 21) (fun _ => x_aload_n rfl rfl) ?_
  refine Ew_of (pcₚ := 22) (fun _ => x_aload_n rfl rfl) ?_
  refine w_gT H (o := 6) (t := 75) rfl (H.perm 6 rfl) rfl rfl rfl rfl rfl rfl ?_
  refine Ew_of (pcₚ := 26) (fun _ => x_iconst rfl) ?_
  refine Ew_of (pcₚ := 27) (fun _ => x_iload_n rfl rfl) ?_
  refine w_inv H (o := 6) rfl rfl rfl (H.perm 6 rfl) rfl rfl (by rfl) (M412_75 H (y18) (((hS25 6 35 rfl).trans (ey19))) (wq20) ((funext (hA26 69 rfl)).trans (ewq21)) (wq28) (ewq29) (11) (show inr (0) from q_2) (show inr (a1) from h0) (hsh) (show 0 ≤ (0) ∧ (0) + 64 ≤ 64 from q_2503) (show 0 ≤ (y18) ∧ (y18) ≤ 1000000 from q_2502 pz17_0 pz7_0 r22) (show 0 ≤ (11) from q_2501) (fun σ F30 A31 H hS32 hA33 y35 ey36 wq37 ewq38 pz34_0 pz34_1 pz34_2 => ⟨rfl, ?_⟩))
  have r39 : (0 : Int) ≤ y35 ∧ y35 ≤ 100000000 := rngE (show (0 : Int) ≤ F30 6 35 ∧ F30 6 35 ≤ 100000000 from H.frng 6 35) (show F30 6 35 = y35 from (ey36))
  have hb30 : IMP (MDX ((w69)) ((u6_35))) (MDB ((wq37)) ((y35)) (pd8 (btw 0 8 ++ STB (dvP ((w78)) ((u6_53)) (p2 ((a1)))) ((a1))))) := fun q => by have h := pz34_1 (by omega) _ (hb11 q); rw [sh0, ← hPD] at h; exact h
  refine Ew_of (pcₚ := 31) (fun _ => x_aload_n rfl rfl) ?_
  refine Ew_of (pcₚ := 32) (fun _ => x_aload_n rfl rfl) ?_
  refine w_gT H (o := 6) (t := 75) rfl (H.perm 6 rfl) rfl rfl rfl rfl rfl rfl ?_
  refine Ew_of (pcₚ := 36) (fun _ => x_iconst rfl) ?_
  refine Ew_of (pcₚ := 38) (fun _ => x_bipush (z := 64) rfl (by decide)) ?_
  refine Ew_of (pcₚ := 39) (fun _ => x_iload_n rfl rfl) ?_
  refine Ew_of (pcₚ := 42) (fun _ => x_sipush (z := 1536) rfl (by decide)) ?_
  refine w_inv H (o := 6) rfl rfl rfl (H.perm 6 rfl) rfl rfl (by rfl) (M407_75 H (A 71) ((funext (hA33 71 rfl)).trans ((funext (hA26 71 rfl)).trans ((funext (hA16 71 rfl)).trans (funext (hA6 71 rfl))))) (A 72) ((funext (hA33 72 rfl)).trans ((funext (hA26 72 rfl)).trans ((funext (hA16 72 rfl)).trans (funext (hA6 72 rfl))))) (A 73) ((funext (hA33 73 rfl)).trans ((funext (hA26 73 rfl)).trans ((funext (hA16 73 rfl)).trans (funext (hA6 73 rfl))))) (wq28) ((funext (hA33 75 rfl)).trans (ewq29)) (11) (show inr (0) from q_2) (show inr (64) from q_151) (show inr (a1) from h0) (show inr (1536) from q_2505) (hsh) (show 0 ≤ (0) ∧ 1 ≤ (64) ∧ (64) ≤ 64 ∧ (0) + (64) ≤ 64 from q_2504) (show 0 ≤ (1536) ∧ (1536) + p2 ((a1)) ≤ 2048 by omega) (fun σ F40 A41 H hS42 hA43 wq45 ewq46 wq47 ewq48 wq49 ewq50 pz44_0 pz44_1 pz44_2 pz44_3 pz44_4 => ⟨rfl, ?_⟩))
  have hti := pz44_1
  have hLD := pz44_0
  have hTB : TBX (((a1), 12, (dvP ((w78)) ((u6_53)) (p2 ((a1))))) : Tb) ((a1)) (sh ((wq45)) 1536) (sh ((wq47)) 1536) (sh ((wq49)) 1536) := TBX_LD hLD (by omega) (by omega) (fun i a b => by rw [hPD, cutP_in (by omega), sh0]) (fun i a b => by rw [sh0]; exact hz12 i a b)
  refine Ew_of (pcₚ := 46) (fun _ => x_aload_n rfl rfl) ?_
  refine Ew_of (pcₚ := 49) (fun _ => x_sipush (z := 1536) rfl (by decide)) ?_
  refine Ew_of (pcₚ := 50) (fun _ => x_iload_n rfl rfl) ?_
  refine Ew_of (pcₚ := 51) (fun _ => x_aload_n rfl rfl) ?_
  refine w_gT H (o := 6) (t := 84) rfl (H.perm 6 rfl) rfl rfl rfl rfl rfl rfl ?_
  refine Ew_of (pcₚ := 55) (fun _ => x_aload_n rfl rfl) ?_
  refine w_gI H (o := 6) (w := u6_53) rfl (H.perm 6 rfl) rfl rfl rfl (fun _ => rfl) ((((((hS42 6 53 rfl).trans (hS32 6 53 rfl)).trans (hS25 6 53 rfl)).trans (hS15 6 53 rfl)).trans (hS5 6 53 rfl)).trans (eu6_53)) ?_
  refine Ew_of (pcₚ := 59) (fun _ => x_iconst rfl) ?_
  refine w_isub rfl ?_
  refine w_lI H (o := 84) (n := 257) rfl (H.perm 84 rfl) rfl rfl (H.fix 84 rfl rfl) (show 0 ≤ (u6_53 - 1) ∧ (u6_53 - 1) < ((257 : Nat) : Int) from q_2506 h2 r2) (by decide) (fun v51 ev51 qv51 => ?_)
  have qv51 : (-2147483648 : Int) ≤ v51 ∧ v51 ≤ 2147483647 := qv51
  have ev51 : (w84) ((u6_53 - 1)) = v51 := (congrFun ((funext (hA43 84 rfl)).trans ((funext (hA33 84 rfl)).trans ((funext (hA26 84 rfl)).trans ((funext (hA16 84 rfl)).trans ((funext (hA6 84 rfl)).trans (ew84)))))) ((u6_53 - 1))).symm.trans ev51
  have hw61 := hcw ((u6_53) - 1) (by omega) (by omega)
  rw [ev51] at hw61
  have hd61 := DVI_m hdv (s := (v51)) (by omega) (by omega) hw61.2.2
  have : 1 ≤ mass ((sh ((wq28)) 0) ((v51))) := by show 1 ≤ mass (((wq28)) (0 + (v51))); rw [Int.zero_add]; exact hd61.1
  have : (1 : Int) = 1 → mass ((sh ((wq28)) 0) ((v51))) < p2 ((a1)) := fun _ => by have := mass_lt hdv (p := p2 ((a1))) (by omega) (by omega) (s := (v51)) (by omega) (by omega); show mass (((wq28)) (0 + (v51))) < _; rw [Int.zero_add]; exact this
  refine Ew_of (pcₚ := 62) (fun _ => x_iconst rfl) ?_
  obtain ⟨qw1, hqw1⟩ : ∃ q : Int, q = (v51) := ⟨_, rfl⟩
  have hww1 : ((w84)) ((u6_53) - 1) = qw1 := by rw [hqw1]; exact ev51
  have hml1 := mass_lt hdv (p := p2 ((a1))) (by omega) (by omega) (s := (v51)) (by omega) (by omega)
  have hmg1 := (DVI_m hdv (s := (v51)) (by omega) (by omega) (by have h := hcw ((u6_53) - 1) (by omega) (by omega); rw [ev51] at h; exact h.2.2)).1
  refine w_inv H (o := 6) rfl rfl rfl (H.perm 6 rfl) rfl rfl (by rfl) (M408 H (wq45) (ewq46) (wq47) (ewq48) (wq49) (ewq50) (sh ((wq28)) 0) (show inr (1536) from q_2505) (show inr (a1) from h0) (show inr (v51) from q_18 qv51) (show inr (1) from q_135) (show (1) = 0 ∨ (1) = 1 from q_49) (pz44_0) (show 5 ≤ (a1) ∧ (a1) ≤ 9 from q_2498 h1) (show 0 ≤ (1536) ∧ (1536) + p2 ((a1)) ≤ 2048 by omega) (show 0 ≤ (v51) ∧ (v51) < 64 by omega) (show 1 ≤ mass ((sh ((wq28)) 0) (v51)) by assumption) (show (1) = 1 → mass ((sh ((wq28)) 0) (v51)) < p2 ((a1)) by assumption) (fun z56 σ F52 A53 H hS54 hA55 pz56_0 pz56_1 pz56_2 => ⟨rfl, ?_⟩))
  have hlo1 : loF (((a1), 12, (dvP ((w78)) ((u6_53)) (p2 ((a1))))) : Tb) qw1 = (z56) := by rw [hqw1]; exact loF_e hTB (LOW_1 hLD pz56_2 (by omega) (by rw [sh0]; exact ⟨hmg1, hml1⟩))
  refine Ew_of (pcₚ := 66) (fun _ => x_istore_n rfl) ?_
  refine Ew_of (pcₚ := 67) (fun _ => x_aload_n rfl (rk_o (rfl) rfl rfl)) ?_
  refine Ew_of (pcₚ := 70) (fun _ => x_sipush (z := 1536) rfl (by decide)) ?_
  refine Ew_of (pcₚ := 71) (fun _ => x_iload_n rfl (rk_o (rfl) rfl rfl)) ?_
  refine Ew_of (pcₚ := 72) (fun _ => x_aload_n rfl (rk_o (rfl) rfl rfl)) ?_
  refine w_gT H (o := 6) (t := 84) rfl (H.perm 6 rfl) rfl rfl rfl rfl rfl rfl ?_
  refine Ew_of (pcₚ := 76) (fun _ => x_aload_n rfl (rk_o (rfl) rfl rfl)) ?_
  refine w_gI H (o := 6) (w := u6_53) rfl (H.perm 6 rfl) rfl rfl rfl (fun _ => rfl) (((((((hS54 6 53 rfl).trans (hS42 6 53 rfl)).trans (hS32 6 53 rfl)).trans (hS25 6 53 rfl)).trans (hS15 6 53 rfl)).trans (hS5 6 53 rfl)).trans (eu6_53)) ?_
  refine Ew_of (pcₚ := 80) (fun _ => x_iconst rfl) ?_
  refine w_isub rfl ?_
  refine w_lI H (o := 84) (n := 257) rfl (H.perm 84 rfl) rfl rfl (H.fix 84 rfl rfl) (show 0 ≤ (u6_53 - 2) ∧ (u6_53 - 2) < ((257 : Nat) : Int) from q_2507 h2 r2) (by decide) (fun v57 ev57 qv57 => ?_)
  have qv57 : (-2147483648 : Int) ≤ v57 ∧ v57 ≤ 2147483647 := qv57
  have ev57 : (w84) ((u6_53 - 2)) = v57 := (congrFun ((funext (hA55 84 rfl)).trans ((funext (hA43 84 rfl)).trans ((funext (hA33 84 rfl)).trans ((funext (hA26 84 rfl)).trans ((funext (hA16 84 rfl)).trans ((funext (hA6 84 rfl)).trans (ew84))))))) ((u6_53 - 2))).symm.trans ev57
  have hw82 := hcw ((u6_53) - 2) (by omega) (by omega)
  rw [ev57] at hw82
  have hd82 := DVI_m hdv (s := (v57)) (by omega) (by omega) hw82.2.2
  have : 1 ≤ mass ((sh ((wq28)) 0) ((v57))) := by show 1 ≤ mass (((wq28)) (0 + (v57))); rw [Int.zero_add]; exact hd82.1
  have : (1 : Int) = 1 → mass ((sh ((wq28)) 0) ((v57))) < p2 ((a1)) := fun _ => by have := mass_lt hdv (p := p2 ((a1))) (by omega) (by omega) (s := (v57)) (by omega) (by omega); show mass (((wq28)) (0 + (v57))) < _; rw [Int.zero_add]; exact this
  refine Ew_of (pcₚ := 83) (fun _ => x_iconst rfl) ?_
  obtain ⟨qw2, hqw2⟩ : ∃ q : Int, q = (v57) := ⟨_, rfl⟩
  have hww2 : ((w84)) ((u6_53) - 2) = qw2 := by rw [hqw2]; exact ev57
  have hml2 := mass_lt hdv (p := p2 ((a1))) (by omega) (by omega) (s := (v57)) (by omega) (by omega)
  have hmg2 := (DVI_m hdv (s := (v57)) (by omega) (by omega) (by have h := hcw ((u6_53) - 2) (by omega) (by omega); rw [ev57] at h; exact h.2.2)).1
  refine w_inv H (o := 6) rfl rfl rfl (H.perm 6 rfl) rfl rfl (by rfl) (M408 H (wq45) ((funext (hA55 71 rfl)).trans (ewq46)) (wq47) ((funext (hA55 72 rfl)).trans (ewq48)) (wq49) ((funext (hA55 73 rfl)).trans (ewq50)) (sh ((wq28)) 0) (show inr (1536) from q_2505) (show inr (a1) from h0) (show inr (v57) from q_18 qv57) (show inr (1) from q_135) (show (1) = 0 ∨ (1) = 1 from q_49) (pz44_0) (show 5 ≤ (a1) ∧ (a1) ≤ 9 from q_2498 h1) (show 0 ≤ (1536) ∧ (1536) + p2 ((a1)) ≤ 2048 by omega) (show 0 ≤ (v57) ∧ (v57) < 64 by omega) (show 1 ≤ mass ((sh ((wq28)) 0) (v57)) by assumption) (show (1) = 1 → mass ((sh ((wq28)) 0) (v57)) < p2 ((a1)) by assumption) (fun z62 σ F58 A59 H hS60 hA61 pz62_0 pz62_1 pz62_2 => ⟨rfl, ?_⟩))
  have hlo2 : loF (((a1), 12, (dvP ((w78)) ((u6_53)) (p2 ((a1))))) : Tb) qw2 = (z62) := by rw [hqw2]; exact loF_e hTB (LOW_1 hLD pz62_2 (by omega) (by rw [sh0]; exact ⟨hmg2, hml2⟩))
  refine Ew_of (pcₚ := 87) (fun _ => x_istore_n rfl) ?_
  refine Ew_of (pcₚ := 88) (fun _ => x_aload_n rfl (rk_o (rk_o (rfl) rfl rfl) rfl rfl)) ?_
  refine w_gI H (o := 6) (w := u6_53) rfl (H.perm 6 rfl) rfl rfl rfl (fun _ => rfl) ((((((((hS60 6 53 rfl).trans (hS54 6 53 rfl)).trans (hS42 6 53 rfl)).trans (hS32 6 53 rfl)).trans (hS25 6 53 rfl)).trans (hS15 6 53 rfl)).trans (hS5 6 53 rfl)).trans (eu6_53)) ?_
  refine Ew_of (pcₚ := 92) (fun _ => x_iconst rfl) ?_
  refine w_isub rfl ?_
  refine Ew_of (pcₚ := 95) (fun _ => x_istore rfl) ?_
  have : ∃ B, WSO (((a1), 12, (dvP ((w78)) ((u6_53)) (p2 ((a1))))) : Tb) ((w84)) ((u6_53)) (((u6_53 - 3))) ((z56)) ((z62)) B ∧ IMP (MDX ((w69)) ((u6_35))) (MDB ((wq37)) ((y35)) (pd8 (btw 0 8 ++ STB (dvP ((w78)) ((u6_53)) (p2 ((a1)))) ((a1))) ++ B)) := ⟨[], WSO_0 hlo1 hww1 hlo2 hww2 (by omega), fun q => by rw [List.append_nil]; exact hb30 q⟩
  suffices hl95 : ∀ (m : Nat), ∀ (ls : rO) (σ : rS) (F_95 : hF) (A_95 : hA) (x95_2 : Int) (x95_3 : Int) (x95_4 : Int), rlook ls 0 = some (.ref (D 6)) → rlook ls 1 = some (I (a1)) → rlook ls 2 = some (I (x95_2)) → rlook ls 3 = some (I (x95_3)) → rlook ls 4 = some (I (x95_4)) → HS σ0 σ D N F_95 A_95 → SF [(6, 35)] F58 F_95 → SA [69] A59 A_95 → ∀ y95_6_35 : Int, F_95 6 35 = y95_6_35 → ∀ w95_69 : Int → Int, A_95 69 = w95_69 → (inr (x95_2)) → (inr (x95_3)) → (inr (x95_4)) → (-1 ≤ (x95_4) ∧ (x95_4) ≤ (u6_53) - 3) → (0 ≤ (x95_2) ∧ (x95_2) < p2 ((a1))) → (0 ≤ (x95_3) ∧ (x95_3) < p2 ((a1))) → ((y35) ≤ (y95_6_35) ∧ (y95_6_35) ≤ (y35) + 6 * ((u6_53) - 3 - (x95_4))) → (∃ B, WSO (((a1), 12, (dvP ((w78)) ((u6_53)) (p2 ((a1))))) : Tb) ((w84)) ((u6_53)) ((x95_4)) ((x95_2)) ((x95_3)) B ∧ IMP (MDX ((w69)) ((u6_35))) (MDB ((w95_69)) ((y95_6_35)) (pd8 (btw 0 8 ++ STB (dvP ((w78)) ((u6_53)) (p2 ((a1)))) ((a1))) ++ B))) → ((x95_4) + 1).toNat = m → Ew 423 (d + 2) 95 ls [] σ c s Q from
    hl95 _ _ σ _ _ (z56) (z62) ((u6_53 - 3)) (rk_o (rk_o (rk_o (rfl) rfl rfl) rfl rfl) rfl rfl) (rk_o (rk_o (rk_o (rfl) rfl rfl) rfl rfl) rfl rfl) (rk_o (rk_o (rk_s) rfl rfl) rfl rfl) (rk_o (rk_s) rfl rfl) (rk_s) H (SF_refl) (SA_refl) (y35) (((((hS60 6 35 rfl).trans (hS54 6 35 rfl)).trans (hS42 6 35 rfl)).trans (ey36))) (wq37) ((funext (hA61 69 rfl)).trans ((funext (hA55 69 rfl)).trans ((funext (hA43 69 rfl)).trans (ewq38)))) (show inr (z56) from pz56_0) (show inr (z62) from pz62_0) (show inr ((u6_53 - 3)) from q_2510 r2) (show -1 ≤ ((u6_53 - 3)) ∧ ((u6_53 - 3)) ≤ (u6_53) - 3 from q_2509 h2) (show 0 ≤ (z56) ∧ (z56) < p2 ((a1)) from pz56_1) (show 0 ≤ (z62) ∧ (z62) < p2 ((a1)) from pz62_1) (show (y35) ≤ (y35) ∧ (y35) ≤ (y35) + 6 * ((u6_53) - 3 - ((u6_53 - 3))) from q_2508) (show ∃ B, WSO (((a1), 12, (dvP ((w78)) ((u6_53)) (p2 ((a1))))) : Tb) ((w84)) ((u6_53)) (((u6_53 - 3))) ((z56)) ((z62)) B ∧ IMP (MDX ((w69)) ((u6_35))) (MDB ((wq37)) ((y35)) (pd8 (btw 0 8 ++ STB (dvP ((w78)) ((u6_53)) (p2 ((a1)))) ((a1))) ++ B)) by assumption) rfl
  as_aux_lemma =>
  intro m
  induction m using Nat.strongRecOn with
  | _ m ih95 =>
    intro ls σ F_95 A_95 x95_2 x95_3 x95_4 l95_0 l95_1 l95_2 l95_3 l95_4 H hS_95 hA_95 y95_6_35 ey95_6_35 w95_69 ew95_69 j95_0 j95_1 j95_2 j95_3 j95_4 j95_5 j95_6 j95_7 hm95
    have r63 : (0 : Int) ≤ y95_6_35 ∧ y95_6_35 ≤ 100000000 := rngE (show (0 : Int) ≤ F_95 6 35 ∧ F_95 6 35 ≤ 100000000 from H.frng 6 35) (show F_95 6 35 = y95_6_35 from (ey95_6_35))
    have j95_w : ∃ B, WSO (((a1), 12, (dvP ((w78)) ((u6_53)) (p2 ((a1))))) : Tb) ((w84)) ((u6_53)) ((x95_4)) ((x95_2)) ((x95_3)) B ∧ IMP (MDX ((w69)) ((u6_35))) (MDB ((w95_69)) ((y95_6_35)) (pd8 (btw 0 8 ++ STB (dvP ((w78)) ((u6_53)) (p2 ((a1)))) ((a1))) ++ B)) := by assumption
    obtain ⟨B_, hWS, hMB⟩ := j95_w
    refine Ew_of (pcₚ := 97) (fun _ => x_iload rfl l95_4) ?_
    refine w_iflt (t := 157) rfl rfl (show inr (x95_4) from j95_2) (fun b64 => ?_) (fun b64 => ?_)
    · refine Ew_of (pcₚ := 158) (fun _ => x_aload_n rfl l95_0) ?_
      refine Ew_of (pcₚ := 159) (fun _ => x_iload_n rfl l95_2) ?_
      refine Ew_of (pcₚ := 160) (fun _ => x_iload_n rfl l95_1) ?_
      refine w_inv H (o := 6) rfl rfl rfl (H.perm 6 rfl) rfl rfl (by rfl) (M389 H (y95_6_35) ((ey95_6_35)) (w95_69) (ew95_69) (show inr (x95_2) from j95_0) (show inr (a1) from h0) (show 0 ≤ (a1) ∧ (a1) ≤ 31 from q_2512 h1) (show 0 ≤ (y95_6_35) ∧ (y95_6_35) ≤ 90000000 from q_2511 j95_3 j95_6 pz17_0 pz34_0 pz7_0 r2 r63) (fun σ F65 A66 H hS67 hA68 y70 ey71 wq72 ewq73 pz69_0 pz69_1 => ⟨rfl, ?_⟩))
      have r74 : (0 : Int) ≤ y70 ∧ y70 ≤ 100000000 := rngE (show (0 : Int) ≤ F65 6 35 ∧ F65 6 35 ≤ 100000000 from H.frng 6 35) (show F65 6 35 = y70 from (ey71))
      have hM4 := fun q => pz69_1 (by omega) _ (hMB q)
      refine Ew_of (pcₚ := 164) (fun _ => x_aload_n rfl l95_0) ?_
      refine Ew_of (pcₚ := 165) (fun _ => x_iload_n rfl l95_3) ?_
      refine Ew_of (pcₚ := 166) (fun _ => x_iload_n rfl l95_1) ?_
      refine w_inv H (o := 6) rfl rfl rfl (H.perm 6 rfl) rfl rfl (by rfl) (M389 H (y70) ((ey71)) (wq72) (ewq73) (show inr (x95_3) from j95_1) (show inr (a1) from h0) (show 0 ≤ (a1) ∧ (a1) ≤ 31 from q_2512 h1) (show 0 ≤ (y70) ∧ (y70) ≤ 90000000 by omega) (fun σ F75 A76 H hS77 hA78 y80 ey81 wq82 ewq83 pz79_0 pz79_1 => ⟨rfl, ?_⟩))
      have r84 : (0 : Int) ≤ y80 ∧ y80 ≤ 100000000 := rngE (show (0 : Int) ≤ F75 6 35 ∧ F75 6 35 ≤ 100000000 from H.frng 6 35) (show F75 6 35 = y80 from (ey81))
      have hM5 := fun q => pz79_1 (by omega) _ (hM4 q)
      refine Ew_of (pcₚ := 170) (fun _ => x_aload_n rfl l95_0) ?_
      refine Ew_of (pcₚ := 171) (fun _ => x_iconst rfl) ?_
      refine Ew_of (pcₚ := 172) (fun _ => x_iconst rfl) ?_
      refine w_inv H (o := 6) rfl rfl rfl (H.perm 6 rfl) rfl rfl (by rfl) (M389 H (y80) ((ey81)) (wq82) (ewq83) (show inr (1) from q_135) (show inr (1) from q_135) (show 0 ≤ (1) ∧ (1) ≤ 31 from q_2204) (show 0 ≤ (y80) ∧ (y80) ≤ 90000000 by omega) (fun σ F85 A86 H hS87 hA88 y90 ey91 wq92 ewq93 pz89_0 pz89_1 => ⟨rfl, ?_⟩))
      have r94 : (0 : Int) ≤ y90 ∧ y90 ≤ 100000000 := rngE (show (0 : Int) ≤ F85 6 35 ∧ F85 6 35 ≤ 100000000 from H.frng 6 35) (show F85 6 35 = y90 from (ey91))
      have hM6 := fun q => pz89_1 (by omega) _ (hM5 q)
      refine Ew_of (pcₚ := 176) (fun _ => x_aload_n rfl l95_0) ?_
      refine w_inv H (o := 6) rfl rfl rfl (H.perm 6 rfl) rfl rfl (by rfl) (M390 H (y90) ((ey91)) (wq92) (ewq93) (show 0 ≤ (y90) ∧ (y90) ≤ 99000000 by omega) (fun σ F95 A96 H hS97 hA98 y100 ey101 pz99_0 pz99_1 pz99_2 => ⟨rfl, ?_⟩))
      have r102 : (0 : Int) ≤ y100 ∧ y100 ≤ 100000000 := rngE (show (0 : Int) ≤ F95 6 35 ∧ F95 6 35 ≤ 100000000 from H.frng 6 35) (show F95 6 35 = y100 from (ey101))
      have hM7 := fun q => pz99_1 _ (hM6 q)
      have hWE := WSO_e hWS (by omega) (L := (a1)) rfl
      refine Ew_of (pcₚ := 180) (fun _ => x_aload_n rfl l95_0) ?_
      refine w_gT H (o := 6) (t := 69) rfl (H.perm 6 rfl) rfl rfl rfl rfl rfl rfl ?_
      refine Ew_of (pcₚ := 184) (fun _ => x_iconst rfl) ?_
      refine Ew_of (pcₚ := 185) (fun _ => x_aload_n rfl l95_0) ?_
      refine w_gI H (o := 6) (w := y100) rfl (H.perm 6 rfl) rfl rfl rfl (fun _ => rfl) (ey101) ?_
      refine Ew_of (pcₚ := 190) (fun _ => x_bipush (z := 8) rfl (by decide)) ?_
      refine w_idiv rfl (show inr (y100) ∧ 0 ≤ y100 from q_1990 r102) (show inr (8) ∧ 0 < 8 from q_1054) ?_
      refine Ew_of (pcₚ := 192) (fun _ => x_iconst rfl) ?_
      refine w_isub rfl ?_
      refine w_sI H (o := 69) (n := 24000) rfl (H.perm 69 rfl) rfl rfl (H.fix 69 rfl rfl) (show 0 ≤ 0 ∧ 0 < ((24000 : Nat) : Int) from q_2513) (by decide) (show (0 : Int) ≤ ((y100 / 8) - 1) ∧ ((y100 / 8) - 1) ≤ 255 by omega) (fun σ H => ?_)
      refine Ew_of (pcₚ := 195) (fun _ => x_aload_n rfl l95_0) ?_
      refine w_gI H (o := 6) (w := y100) rfl (H.perm 6 rfl) rfl rfl rfl (fun _ => rfl) (ey101) ?_
      refine Ew_of (pcₚ := 200) (fun _ => x_bipush (z := 8) rfl (by decide)) ?_
      refine w_idiv rfl (show inr (y100) ∧ 0 ≤ y100 from q_1990 r102) (show inr (8) ∧ 0 < 8 from q_1054) ?_
      have : IMP (MDX ((w69)) ((u6_35))) (∃ C, MDB ((upd1 (wq92) (0) (((y100 / 8) - 1)))) ((y100)) C ∧ (C.length : Int) = (y100) ∧ byw C = [((y100 / 8)) - 1] ++ (byw (STB (dvP ((w78)) ((u6_53)) (p2 ((a1)))) ((a1))) ++ byw (WSB (((a1), 12, (dvP ((w78)) ((u6_53)) (p2 ((a1))))) : Tb) ((w84)) ((u6_53)))) ∧ ((byw (STB (dvP ((w78)) ((u6_53)) (p2 ((a1)))) ((a1))) ++ byw (WSB (((a1), 12, (dvP ((w78)) ((u6_53)) (p2 ((a1))))) : Tb) ((w84)) ((u6_53)))).length : Int) = ((y100 / 8)) - 1) := fun q => by have h := hM7 q; simp only [List.append_assoc] at h; rw [← hWE] at h; obtain ⟨C, c1, c2, c3, c4, c5⟩ := BYS_e h rfl (by omega); exact ⟨C, c1, c2, c4, c5⟩
      exact w_ireturn rfl (k ((y100 / 8)) σ _ _ H (SF_trans (SF_trans (SF_trans (SF_trans (SF_trans (SF_trans (SF_trans (SF_trans (SF_trans (SF_trans (SF_trans (SF_trans (SF_refl) hS5 (any_sub rfl)) hS15 (any_sub rfl)) hS25 (any_sub rfl)) hS32 (any_sub rfl)) hS42 (any_sub rfl)) hS54 (any_sub rfl)) hS60 (any_sub rfl)) hS_95 (any_sub rfl)) hS67 (any_sub rfl)) hS77 (any_sub rfl)) hS87 (any_sub rfl)) hS97 (any_sub rfl)) (SA_upd (SA_trans (SA_trans (SA_trans (SA_trans (SA_trans (SA_trans (SA_trans (SA_trans (SA_trans (SA_trans (SA_trans (SA_trans (SA_refl) hA6 (any_subA rfl)) hA16 (any_subA rfl)) hA26 (any_subA rfl)) hA33 (any_subA rfl)) hA43 (any_subA rfl)) hA55 (any_subA rfl)) hA61 (any_subA rfl)) hA_95 (any_subA rfl)) hA68 (any_subA rfl)) hA78 (any_subA rfl)) hA88 (any_subA rfl)) hA98 (any_subA rfl)) rfl) (y100) ((ey101)) (upd1 (wq92) (0) (((y100 / 8) - 1))) (congrArg (fun q => upd1 q (0) (((y100 / 8) - 1))) ((funext (hA98 69 rfl)).trans (ewq93))) (show inr ((y100 / 8)) from q_2514 pz99_2 r102) (show 1 ≤ ((y100 / 8)) ∧ ((y100 / 8)) ≤ 256 by omega) (show 0 ≤ (y100) ∧ (y100) ≤ 2047 by omega) (show IMP (MDX ((w69)) ((u6_35))) (∃ C, MDB ((upd1 (wq92) (0) (((y100 / 8) - 1)))) ((y100)) C ∧ (C.length : Int) = (y100) ∧ byw C = [((y100 / 8)) - 1] ++ (byw (STB (dvP ((w78)) ((u6_53)) (p2 (a1))) (a1)) ++ byw (WSB ((a1, 12, (dvP ((w78)) ((u6_53)) (p2 (a1)))) : Tb) ((w84)) ((u6_53)))) ∧ ((byw (STB (dvP ((w78)) ((u6_53)) (p2 (a1))) (a1)) ++ byw (WSB ((a1, 12, (dvP ((w78)) ((u6_53)) (p2 (a1)))) : Tb) ((w84)) ((u6_53)))).length : Int) = ((y100 / 8)) - 1) by assumption) (show (y100) = 8 * ((y100 / 8)) from q_2635 pz99_2))
    · refine Ew_of (pcₚ := 101) (fun _ => x_aload_n rfl l95_0) ?_
      refine Ew_of (pcₚ := 104) (fun _ => x_sipush (z := 1536) rfl (by decide)) ?_
      refine Ew_of (pcₚ := 105) (fun _ => x_iload_n rfl l95_1) ?_
      refine Ew_of (pcₚ := 106) (fun _ => x_aload_n rfl l95_0) ?_
      refine w_gT H (o := 6) (t := 84) rfl (H.perm 6 rfl) rfl rfl rfl rfl rfl rfl ?_
      refine Ew_of (pcₚ := 111) (fun _ => x_iload rfl l95_4) ?_
      refine w_lI H (o := 84) (n := 257) rfl (H.perm 84 rfl) rfl rfl (H.fix 84 rfl rfl) (show 0 ≤ x95_4 ∧ x95_4 < ((257 : Nat) : Int) from q_2515 b64 j95_6 r2) (by decide) (fun v103 ev103 qv103 => ?_)
      have qv103 : (-2147483648 : Int) ≤ v103 ∧ v103 ≤ 2147483647 := qv103
      have ev103 : (w84) (x95_4) = v103 := (congrFun ((funext (hA_95 84 rfl)).trans ((funext (hA61 84 rfl)).trans ((funext (hA55 84 rfl)).trans ((funext (hA43 84 rfl)).trans ((funext (hA33 84 rfl)).trans ((funext (hA26 84 rfl)).trans ((funext (hA16 84 rfl)).trans ((funext (hA6 84 rfl)).trans (ew84))))))))) (x95_4)).symm.trans ev103
      have hw112 := hcw ((x95_4)) (by omega) (by omega)
      rw [ev103] at hw112
      have hd112 := DVI_m hdv (s := (v103)) (by omega) (by omega) hw112.2.2
      have : 1 ≤ mass ((sh ((wq28)) 0) ((v103))) := by show 1 ≤ mass (((wq28)) (0 + (v103))); rw [Int.zero_add]; exact hd112.1
      have : 1 ≤ mass ((sh ((wq28)) 0) ((v103))) ∧ mass ((sh ((wq28)) 0) ((v103))) ≤ p2 ((a1)) := ⟨by assumption, by have := mass_lt hdv (p := p2 ((a1))) (by omega) (by omega) (s := (v103)) (by omega) (by omega); show mass (((wq28)) (0 + (v103))) ≤ _; rw [Int.zero_add]; omega⟩
      refine Ew_of (pcₚ := 113) (fun _ => x_iload_n rfl l95_2) ?_
      obtain ⟨qw3, hqw3⟩ : ∃ q : Int, q = (v103) := ⟨_, rfl⟩
      have hww3 : ((w84)) ((x95_4)) = qw3 := by rw [hqw3]; exact ev103
      refine w_inv H (o := 6) rfl rfl rfl (H.perm 6 rfl) rfl rfl (by rfl) (M409 H (wq45) ((funext (hA_95 71 rfl)).trans ((funext (hA61 71 rfl)).trans ((funext (hA55 71 rfl)).trans (ewq46)))) (wq47) ((funext (hA_95 72 rfl)).trans ((funext (hA61 72 rfl)).trans ((funext (hA55 72 rfl)).trans (ewq48)))) (wq49) ((funext (hA_95 73 rfl)).trans ((funext (hA61 73 rfl)).trans ((funext (hA55 73 rfl)).trans (ewq50)))) (sh ((wq28)) 0) (show inr (1536) from q_2505) (show inr (a1) from h0) (show inr (v103) from q_18 qv103) (show inr (x95_2) from j95_0) (pz44_0) (show 5 ≤ (a1) ∧ (a1) ≤ 9 from q_2498 h1) (show 0 ≤ (1536) ∧ (1536) + p2 ((a1)) ≤ 2048 by omega) (show 0 ≤ (v103) ∧ (v103) < 64 by omega) (show 1 ≤ mass ((sh ((wq28)) 0) (v103)) ∧ mass ((sh ((wq28)) 0) (v103)) ≤ p2 ((a1)) by assumption) (show 0 ≤ (x95_2) ∧ (x95_2) < p2 ((a1)) from j95_4) (fun z108 σ F104 A105 H hS106 hA107 pz108_0 pz108_1 pz108_2 => ⟨rfl, ?_⟩))
      have hld3 : ldF (((a1), 12, (dvP ((w78)) ((u6_53)) (p2 ((a1))))) : Tb) qw3 ((x95_2)) = (z108) := by rw [hqw3]; exact ldF_e hTB pz108_2
      have hts3 := hTB.2 ((z108)) (by omega) (by omega)
      have hdv3 := LD_dv (st := (x95_2)) hLD (k := (z108)) (by omega) (by omega)
      refine Ew_of (pcₚ := 118) (fun _ => x_istore rfl) ?_
      have htk := hti ((z108)) (by omega) (by omega)
      refine Ew_of (pcₚ := 119) (fun _ => x_aload_n rfl (rk_o (l95_0) rfl rfl)) ?_
      refine Ew_of (pcₚ := 120) (fun _ => x_iload_n rfl (rk_o (l95_2) rfl rfl)) ?_
      refine Ew_of (pcₚ := 121) (fun _ => x_aload_n rfl (rk_o (l95_0) rfl rfl)) ?_
      refine w_gT H (o := 6) (t := 73) rfl (H.perm 6 rfl) rfl rfl rfl rfl rfl rfl ?_
      refine Ew_of (pcₚ := 127) (fun _ => x_sipush (z := 1536) rfl (by decide)) ?_
      refine Ew_of (pcₚ := 129) (fun _ => x_iload rfl rk_s) ?_
      refine w_iadd rfl ?_
      refine w_lI H (o := 73) (n := 2048) rfl (H.perm 73 rfl) rfl rfl (H.fix 73 rfl rfl) (show 0 ≤ (1536 + z108) ∧ (1536 + z108) < ((2048 : Nat) : Int) by omega) (by decide) (fun v109 ev109 qv109 => ?_)
      have qv109 : (0 : Int) ≤ v109 ∧ v109 ≤ 511 := qv109
      have ev109 : (wq49) ((1536 + z108)) = v109 := (congrFun ((funext (hA107 73 rfl)).trans ((funext (hA_95 73 rfl)).trans ((funext (hA61 73 rfl)).trans ((funext (hA55 73 rfl)).trans (ewq50))))) ((1536 + z108))).symm.trans ev109
      have hba3 := ev109
      refine w_isub rfl ?_
      refine Ew_of (pcₚ := 133) (fun _ => x_aload_n rfl (rk_o (l95_0) rfl rfl)) ?_
      refine w_gT H (o := 6) (t := 72) rfl (H.perm 6 rfl) rfl rfl rfl rfl rfl rfl ?_
      refine Ew_of (pcₚ := 139) (fun _ => x_sipush (z := 1536) rfl (by decide)) ?_
      refine Ew_of (pcₚ := 141) (fun _ => x_iload rfl rk_s) ?_
      refine w_iadd rfl ?_
      refine w_lI H (o := 72) (n := 2048) rfl (H.perm 72 rfl) rfl rfl (H.fix 72 rfl rfl) (show 0 ≤ (1536 + z108) ∧ (1536 + z108) < ((2048 : Nat) : Int) by omega) (by decide) (fun v110 ev110 qv110 => ?_)
      have qv110 : (0 : Int) ≤ v110 ∧ v110 ≤ 9 := qv110
      have ev110 : (wq47) ((1536 + z108)) = v110 := (congrFun ((funext (hA107 72 rfl)).trans ((funext (hA_95 72 rfl)).trans ((funext (hA61 72 rfl)).trans ((funext (hA55 72 rfl)).trans (ewq48))))) ((1536 + z108))).symm.trans ev110
      have hbi3 := ev110
      have hbt3 : (tsF (((a1), 12, (dvP ((w78)) ((u6_53)) (p2 ((a1))))) : Tb) ((z108))).2.1 = (v110) := by rw [hts3]; exact hbi3
      have hbc3 : btw (((x95_2 - v109))) ((v110)) = btw ((x95_2)) ((v110)) := btw_congr (by rw [← hbi3, ← hba3]; exact hdv3)
      refine w_inv H (o := 6) rfl rfl rfl (H.perm 6 rfl) rfl rfl (by rfl) (M389 H (y95_6_35) (((hS106 6 35 rfl).trans (ey95_6_35))) (w95_69) ((funext (hA107 69 rfl)).trans (ew95_69)) (show inr ((x95_2 - v109)) from q_2517 j95_0 j95_4 qv109) (show inr (v110) from q_1732 qv110) (show 0 ≤ (v110) ∧ (v110) ≤ 31 from q_1731 qv110) (show 0 ≤ (y95_6_35) ∧ (y95_6_35) ≤ 90000000 from q_2516 b64 j95_6 pz17_0 pz34_0 pz7_0 r2 r63) (fun σ F111 A112 H hS113 hA114 y116 ey117 wq118 ewq119 pz115_0 pz115_1 => ⟨rfl, ?_⟩))
      have r120 : (0 : Int) ≤ y116 ∧ y116 ≤ 100000000 := rngE (show (0 : Int) ≤ F111 6 35 ∧ F111 6 35 ≤ 100000000 from H.frng 6 35) (show F111 6 35 = y116 from (ey117))
      have hmp3 := pz115_1
      rw [hbc3] at hmp3
      have hMB3 := fun q => hmp3 (by omega) _ (hMB q)
      have hWS3 := WSO_s hWS (by omega) hww3 hld3 hbt3 rfl rfl
      refine Ew_of (pcₚ := 147) (fun _ => x_iload_n rfl (rk_o (l95_3) rfl rfl)) ?_
      refine Ew_of (pcₚ := 148) (fun _ => x_istore_n rfl) ?_
      refine Ew_of (pcₚ := 150) (fun _ => x_iload rfl (rk_o (rk_s) rfl rfl)) ?_
      refine Ew_of (pcₚ := 151) (fun _ => x_istore_n rfl) ?_
      refine Ew_of (pcₚ := 154) (fun _ => x_iinc (len := 3) rfl (rk_o (rk_o (rk_o (l95_4) rfl rfl) rfl rfl) rfl rfl)) ?_
      refine Ew_of (pcₚ := 95) (fun _ => x_goto rfl rfl) ?_
      have : ∃ B, WSO (((a1), 12, (dvP ((w78)) ((u6_53)) (p2 ((a1))))) : Tb) ((w84)) ((u6_53)) (((x95_4 + (-1)))) ((x95_3)) ((z108)) B ∧ IMP (MDX ((w69)) ((u6_35))) (MDB ((wq118)) ((y116)) (pd8 (btw 0 8 ++ STB (dvP ((w78)) ((u6_53)) (p2 ((a1)))) ((a1))) ++ B)) := ⟨_, hWS3, fun q => by rw [← List.append_assoc]; exact hMB3 q⟩
      exact ih95 _ (msE hm95 q_2020 (q_2021 b64)) _ σ _ _ (x95_3) (z108) ((x95_4 + (-1))) (rk_o (rk_o (rk_o (rk_o (l95_0) rfl rfl) rfl rfl) rfl rfl) rfl rfl) (rk_o (rk_o (rk_o (rk_o (l95_1) rfl rfl) rfl rfl) rfl rfl) rfl rfl) (rk_o (rk_o (rk_s) rfl rfl) rfl rfl) (rk_o (rk_s) rfl rfl) (rk_s) H (SF_trans (SF_trans (hS_95) hS106 (any_sub rfl)) hS113 (any_sub rfl)) (SA_trans (SA_trans (hA_95) hA107 (any_subA rfl)) hA114 (any_subA rfl)) (y116) ((ey117)) (wq118) (ewq119) (show inr (x95_3) from j95_1) (show inr (z108) from pz108_0) (show inr ((x95_4 + (-1))) from q_431 b64 j95_2) (show -1 ≤ ((x95_4 + (-1))) ∧ ((x95_4 + (-1))) ≤ (u6_53) - 3 from q_2518 b64 j95_6) (show 0 ≤ (x95_3) ∧ (x95_3) < p2 ((a1)) from j95_5) (show 0 ≤ (z108) ∧ (z108) < p2 ((a1)) from pz108_1) (show (y35) ≤ (y116) ∧ (y116) ≤ (y35) + 6 * ((u6_53) - 3 - ((x95_4 + (-1)))) by omega) (show ∃ B, WSO (((a1), 12, (dvP ((w78)) ((u6_53)) (p2 ((a1))))) : Tb) ((w84)) ((u6_53)) (((x95_4 + (-1)))) ((x95_3)) ((z108)) B ∧ IMP (MDX ((w69)) ((u6_35))) (MDB ((wq118)) ((y116)) (pd8 (btw 0 8 ++ STB (dvP ((w78)) ((u6_53)) (p2 ((a1)))) ((a1))) ++ B)) by assumption) rfl

theorem M422f {σ0 σ : rS} {D N : Nat → Nat} {F : hF} {A : hA} {d c s : Nat} {Q : wQ} (H : HS σ0 σ D N F A) {a1 : Int} (u6_35 : Int) (eu6_35 : F 6 35 = u6_35) (w69 : Int → Int) (ew69 : A 69 = w69) (w82 : Int → Int) (ew82 : A 82 = w82) (h0 : inr (a1)) (h1 : 1 ≤ (a1) ∧ (a1) ≤ 11) (h2 : CI ((w82)) ((a1))) (k : ∀ (z : Int) σ Fₚ Aₚ, HS σ0 σ D N Fₚ Aₚ → SF [(6, 35), (6, 53)] F Fₚ → SA [69, 71, 72, 73, 74, 75, 76, 77, 78, 84] A Aₚ → ∀ y6_35 : Int, Fₚ 6 35 = y6_35 → ∀ v69 : Int → Int, Aₚ 69 = v69 → (inr (z)) → ((z) = -2 ∨ 1 ≤ (z) ∧ (z) ≤ 128) → ((z) = -2 ∨ 0 ≤ (y6_35) ∧ (y6_35) ≤ 2047) → (IMP (MDX ((w69)) ((u6_35))) (DRF ((z)) (DSC (wtF ((w82)) ((a1))) (lzN ((w82)) 256)) ((v69)) ((y6_35)))) → Q (some (I z)) σ c s) : Ew 422 (d + 3) 0 (rargs 0 [.ref (D 6), I a1]) [] σ c s Q := by
  have r1 : (0 : Int) ≤ u6_35 ∧ u6_35 ≤ 100000000 := rngE (show (0 : Int) ≤ F 6 35 ∧ F 6 35 ≤ 100000000 from H.frng 6 35) (show F 6 35 = u6_35 from (eu6_35))
  have hmx0 : IMP (MDX ((w69)) ((u6_35))) (MDX ((w69)) ((u6_35))) := fun q => q
  refine Ew_of (pcₚ := 1) (fun _ => x_aload_n rfl rfl) ?_
  refine Ew_of (pcₚ := 4) (fun _ => x_sipush (z := 255) rfl (by decide)) ?_
  refine w_pI H (o := 6) rfl rfl (H.perm 6 rfl) rfl rfl rfl (fun _ => rfl) rfl (show (-1 : Int) ≤ 255 ∧ 255 ≤ 255 from q_2519) (fun σ H => ?_)
  have hci : CI ((w82)) ((a1)) := h2
  have hbd := CI_BD hci
  have : EXN ((w82)) 255 := by obtain ⟨i, a, b, c⟩ := CI_some hci; exact ⟨i, a, by omega, c⟩
  have : ∀ i, (255) < i → i < 256 → ((w82)) i = 0 := fun i a b => by omega
  suffices hl7 : ∀ (m : Nat), ∀ (ls : rO) (σ : rS) (F_7 : hF) (A_7 : hA) , rlook ls 0 = some (.ref (D 6)) → rlook ls 1 = some (I (a1)) → HS σ0 σ D N F_7 A_7 → SF [(6, 53)] (updF F 6 53 (255)) F_7 → SA [] A A_7 → ∀ y7_6_53 : Int, F_7 6 53 = y7_6_53 → (0 ≤ (y7_6_53) ∧ (y7_6_53) ≤ 255) → (EXN ((w82)) ((y7_6_53))) → (∀ i, (y7_6_53) < i → i < 256 → ((w82)) i = 0) → ((y7_6_53) + 1).toNat = m → Ew 422 (d + 3) 7 ls [] σ c s Q from
    hl7 _ _ σ _ _  (rfl) (rfl) H (SF_refl) (SA_refl) (255) (rfl)  (show 0 ≤ (255) ∧ (255) ≤ 255 from q_390) (show EXN ((w82)) ((255)) by assumption) (show ∀ i, (255) < i → i < 256 → ((w82)) i = 0 by assumption) rfl
  as_aux_lemma =>
  intro m
  induction m using Nat.strongRecOn with
  | _ m ih7 =>
    intro ls σ F_7 A_7  l7_0 l7_1 H hS_7 hA_7 y7_6_53 ey7_6_53  j7_0 j7_1 j7_2 hm7
    have r2 : (-1 : Int) ≤ y7_6_53 ∧ y7_6_53 ≤ 255 := rngE (show (-1 : Int) ≤ F_7 6 53 ∧ F_7 6 53 ≤ 255 from H.frng 6 53) (show F_7 6 53 = y7_6_53 from (ey7_6_53))
    have j7_z : ∀ i, (y7_6_53) < i → i < 256 → ((w82)) i = 0 := by assumption
    refine Ew_of (pcₚ := 8) (fun _ => x_aload_n rfl l7_0) ?_
    refine w_gT H (o := 6) (t := 82) rfl (H.perm 6 rfl) rfl rfl rfl rfl rfl rfl ?_
    refine Ew_of (pcₚ := 12) (fun _ => x_aload_n rfl l7_0) ?_
    refine w_gI H (o := 6) (w := y7_6_53) rfl (H.perm 6 rfl) rfl rfl rfl (fun _ => rfl) (ey7_6_53) ?_
    refine w_lI H (o := 82) (n := 256) rfl (H.perm 82 rfl) rfl rfl (H.fix 82 rfl rfl) (show 0 ≤ y7_6_53 ∧ y7_6_53 < ((256 : Nat) : Int) from q_2520 j7_0 r2) (by decide) (fun v3 ev3 qv3 => ?_)
    have qv3 : (-2147483648 : Int) ≤ v3 ∧ v3 ≤ 2147483647 := qv3
    have ev3 : (w82) (y7_6_53) = v3 := (congrFun ((funext (hA_7 82 rfl)).trans (ew82)) (y7_6_53)).symm.trans ev3
    have he16 := ev3
    refine w_ifne (t := 32) rfl rfl (show inr (v3) from q_18 qv3) (fun b4 => ?_) (fun b4 => ?_)
    · have hlz : (y7_6_53) = lzN ((w82)) 256 := lzN_is (by omega) (by omega) (.inr (by rw [he16]; omega)) (fun i a b => j7_z i a (by omega))
      refine Ew_of (pcₚ := 33) (fun _ => x_iconst rfl) ?_
      refine Ew_of (pcₚ := 34) (fun _ => x_istore_n rfl) ?_
      have : ∀ i, (0 : Int) ≤ i → i < 0 → ((A 78)) (0 + i) = 0 := fun i a b => absurd b (by omega)
      suffices hl34 : ∀ (m : Nat), ∀ (ls : rO) (σ : rS) (F_34 : hF) (A_34 : hA) (x34_2 : Int), rlook ls 0 = some (.ref (D 6)) → rlook ls 1 = some (I (a1)) → rlook ls 2 = some (I (x34_2)) → HS σ0 σ D N F_34 A_34 → SF [] F_7 F_34 → SA [78] A_7 A_34 → ∀ w34_78 : Int → Int, A_34 78 = w34_78 → (inr (x34_2)) → ((0) ≤ (x34_2)) → ((x34_2) ≤ (0) ∨ (x34_2) ≤ ((256))) → (∀ i, 0 ≤ i → i < (x34_2) → ((w34_78)) (0 + i) = 0) → (((256)) - (x34_2)).toNat = m → Ew 422 (d + 3) 34 ls [] σ c s Q from
        hl34 _ _ σ _ _ (0) (rk_o (l7_0) rfl rfl) (rk_o (l7_1) rfl rfl) (rk_s) H (SF_refl) (SA_refl)  (A 78) (funext (hA_7 78 rfl)) (show inr (0) from q_2) (show (0) ≤ (0) from q_1) (show (0) ≤ (0) ∨ (0) ≤ ((256)) from q_0) (show ∀ i, 0 ≤ i → i < (0) → ((A 78)) (0 + i) = 0 by assumption) rfl
      as_aux_lemma =>
      intro m
      induction m using Nat.strongRecOn with
      | _ m ih34 =>
        intro ls σ F_34 A_34 x34_2 l34_0 l34_1 l34_2 H hS_34 hA_34  w34_78 ew34_78 j34_0 j34_1 j34_2 j34_3 hm34
        refine Ew_of (pcₚ := 35) (fun _ => x_iload_n rfl l34_2) ?_
        refine Ew_of (pcₚ := 38) (fun _ => x_sipush (z := 256) rfl (by decide)) ?_
        refine w_icmpge (t := 54) rfl rfl (show inr (x34_2) from j34_0) (show inr (256) from q_3) (fun b5 => ?_) (fun b5 => ?_)
        · refine Ew_of (pcₚ := 55) (fun _ => x_iconst rfl) ?_
          refine Ew_of (pcₚ := 56) (fun _ => x_istore_n rfl) ?_
          refine Ew_of (pcₚ := 57) (fun _ => x_iconst rfl) ?_
          refine Ew_of (pcₚ := 58) (fun _ => x_istore_n rfl) ?_
          have hz : ∀ i, (0 : Int) ≤ i → i < 64 → ((w34_78)) i = 0 := fun i a b => by have := j34_3 i a (by omega); rw [Int.zero_add] at this; exact this
          have : su (fun i => ((w34_78)) i) 64 = 0 := su_z (g := (w34_78)) (fun x => x) rfl (fun i a b => hz i a (by omega))
          have : su (fun i => pos1 (((w34_78)) i)) 64 = 0 := su_z (g := (w34_78)) pos1 rfl (fun i a b => hz i a (by omega))
          have : ∀ i, (0 : Int) ≤ i → i < 64 → 0 ≤ ((w34_78)) i := fun i a b => by rw [hz i a b]; decide
          have : ∀ i, (0 : Int) ≤ i → i < 64 → ((w34_78)) i ≤ 0 := fun i a b => by rw [hz i a b]; decide
          have : CW ((w34_78)) ((A 84)) 0 11 := fun j a b => absurd b (by omega)
          have : CZ ((w34_78)) 11 := fun i a b c => hz i c b
          have : ∀ i, 0 ≤ i → i < 0 → ((A 84)) i = wtF ((w82)) ((a1)) i := fun i a b => by omega
          have : CTI ((A 84)) ((w34_78)) (0) := CTI_0 hz
          have : KND ((A 84)) (0) (0) := KND_0
          suffices hl58 : ∀ (m : Nat), ∀ (ls : rO) (σ : rS) (F_58 : hF) (A_58 : hA) (x58_2 : Int) (x58_3 : Int), rlook ls 0 = some (.ref (D 6)) → rlook ls 1 = some (I (a1)) → rlook ls 2 = some (I (x58_2)) → rlook ls 3 = some (I (x58_3)) → HS σ0 σ D N F_58 A_58 → SF [] F_34 F_58 → SA [78, 84] A_34 A_58 → ∀ w58_78 : Int → Int, A_58 78 = w58_78 → ∀ w58_84 : Int → Int, A_58 84 = w58_84 → (inr (x58_2)) → (inr (x58_3)) → ((0) ≤ (x58_3)) → ((x58_3) ≤ (0) ∨ (x58_3) ≤ ((y7_6_53))) → (su (fun i => ((w58_78)) i) 64 = (x58_3)) → (su (fun i => pos1 (((w58_78)) i)) 64 = (x58_2)) → (∀ i, (0 : Int) ≤ i → i < 64 → 0 ≤ ((w58_78)) i) → (CW ((w58_78)) ((w58_84)) ((x58_3)) 11) → (CZ ((w58_78)) 11) → (0 ≤ (x58_2) ∧ (x58_2) ≤ (x58_3)) → (∀ i, (0 : Int) ≤ i → i < 64 → ((w58_78)) i ≤ (x58_3)) → (∀ i, 0 ≤ i → i < (x58_3) → ((w58_84)) i = wtF ((w82)) ((a1)) i) → (CTI ((w58_84)) ((w58_78)) ((x58_3))) → (KND ((w58_84)) ((x58_3)) ((x58_2))) → (((y7_6_53)) - (x58_3)).toNat = m → Ew 422 (d + 3) 58 ls [] σ c s Q from
            hl58 _ _ σ _ _ (0) (0) (rk_o (rk_o (l34_0) rfl rfl) rfl rfl) (rk_o (rk_o (l34_1) rfl rfl) rfl rfl) (rk_o (rk_s) rfl rfl) (rk_s) H (SF_refl) (SA_refl)  (w34_78) (ew34_78) (A 84) ((funext (hA_34 84 rfl)).trans (funext (hA_7 84 rfl))) (show inr (0) from q_2) (show inr (0) from q_2) (show (0) ≤ (0) from q_1) (show (0) ≤ (0) ∨ (0) ≤ ((y7_6_53)) from q_5) (show su (fun i => ((w34_78)) i) 64 = (0) by omega) (show su (fun i => pos1 (((w34_78)) i)) 64 = (0) by omega) (show ∀ i, (0 : Int) ≤ i → i < 64 → 0 ≤ ((w34_78)) i by assumption) (show CW ((w34_78)) ((A 84)) ((0)) 11 by assumption) (show CZ ((w34_78)) 11 by assumption) (show 0 ≤ (0) ∧ (0) ≤ (0) from q_4) (show ∀ i, (0 : Int) ≤ i → i < 64 → ((w34_78)) i ≤ (0) by assumption) (show ∀ i, 0 ≤ i → i < (0) → ((A 84)) i = wtF ((w82)) ((a1)) i by assumption) (show CTI ((A 84)) ((w34_78)) ((0)) by assumption) (show KND ((A 84)) ((0)) ((0)) by assumption) rfl
          as_aux_lemma =>
          intro m
          induction m using Nat.strongRecOn with
          | _ m ih58 =>
            intro ls σ F_58 A_58 x58_2 x58_3 l58_0 l58_1 l58_2 l58_3 H hS_58 hA_58  w58_78 ew58_78 w58_84 ew58_84 j58_0 j58_1 j58_2 j58_3 j58_4 j58_5 j58_6 j58_7 j58_8 j58_9 j58_10 j58_11 j58_12 j58_13 hm58
            have jnn : ∀ i, (0 : Int) ≤ i → i < 64 → 0 ≤ ((w58_78)) i := by assumption
            have jup : ∀ i, (0 : Int) ≤ i → i < 64 → ((w58_78)) i ≤ (x58_3) := by assumption
            have jcw : CW ((w58_78)) ((w58_84)) ((x58_3)) 11 := j58_7
            have jcz : CZ ((w58_78)) 11 := j58_8
            have j58_w : ∀ i, 0 ≤ i → i < (x58_3) → ((w58_84)) i = wtF ((w82)) ((a1)) i := by assumption
            have j58_c : CTI ((w58_84)) ((w58_78)) ((x58_3)) := j58_12
            have j58_k : KND ((w58_84)) ((x58_3)) ((x58_2)) := j58_13
            obtain ⟨ql3, hql3⟩ : ∃ q : Int, q = (x58_3) := ⟨_, rfl⟩
            refine Ew_of (pcₚ := 59) (fun _ => x_iload_n rfl l58_3) ?_
            refine Ew_of (pcₚ := 60) (fun _ => x_aload_n rfl l58_0) ?_
            refine w_gI H (o := 6) (w := y7_6_53) rfl (H.perm 6 rfl) rfl rfl rfl (fun _ => rfl) (((hS_58 6 53 rfl).trans (hS_34 6 53 rfl)).trans (ey7_6_53)) ?_
            refine w_icmpge (t := 121) rfl rfl (show inr (x58_3) from j58_1) (show inr (y7_6_53) from q_2500 r2) (fun b6 => ?_) (fun b6 => ?_)
            · have h3w : (x58_3) = (y7_6_53) := q_2521 b6 j58_3 j7_0
              have hcwF : CW ((w58_78)) ((w58_84)) ((y7_6_53)) 11 := by rw [← h3w]; assumption
              have hct : CTI ((w58_84)) ((w58_78)) ((y7_6_53)) := by rw [← h3w]; exact j58_c
              have hkn : KND ((w58_84)) ((y7_6_53)) ((x58_2)) := by rw [← h3w]; exact j58_k
              have hDS : DSC ((w58_84)) ((y7_6_53)) = DSC (wtF ((w82)) ((a1))) (lzN ((w82)) 256) := by rw [← hlz]; exact DSC_cg (fun i a b => j58_w i a (by omega))
              have hw15 : ∀ s, 0 ≤ s → s < (y7_6_53) → 0 ≤ ((w58_84)) s ∧ ((w58_84)) s ≤ 15 := fun s a b => by have := hcwF s a b; omega
              refine Ew_of (pcₚ := 122) (fun _ => x_aload_n rfl l58_0) ?_
              refine w_gI H (o := 6) (w := y7_6_53) rfl (H.perm 6 rfl) rfl rfl rfl (fun _ => rfl) (((hS_58 6 53 rfl).trans (hS_34 6 53 rfl)).trans (ey7_6_53)) ?_
              refine Ew_of (pcₚ := 128) (fun _ => x_sipush (z := 128) rfl (by decide)) ?_
              have hc147 : ∀ (tc147_0 : Int), ∀ (ls : rO) (σ : rS) (F_c147 : hF) (A_c147 : hA) , rlook ls 0 = some (.ref (D 6)) → rlook ls 2 = some (I (x58_2)) → HS σ0 σ D N F_c147 A_c147 → SF [] F_58 F_c147 → SA [] A_58 A_c147 → (inr (tc147_0)) → (((y7_6_53) ≤ (128) ∧ (tc147_0) = ((1 + ((y7_6_53 + 1) / 2)))) ∨ ((y7_6_53) > (128) ∧ (tc147_0) = (9999))) → Ew 422 (d + 3) 147 ls [I (tc147_0)] σ c s Q := by
               as_aux_lemma =>
                intro tc147_0 ls σ F_c147 A_c147  lc147_0 lc147_2 H hS_c147 hA_c147   jc147_0 jc147_1
                refine Ew_of (pcₚ := 148) (fun _ => x_istore_n rfl) ?_
                have hc172 : ∀ (tc172_0 : Int), ∀ (ls : rO) (σ : rS) (F_c172 : hF) (A_c172 : hA) , rlook ls 0 = some (.ref (D 6)) → rlook ls 2 = some (I (x58_2)) → rlook ls 3 = some (I (tc147_0)) → HS σ0 σ D N F_c172 A_c172 → SF [(6, 35)] F_c147 F_c172 → SA [69, 71, 72, 73, 74, 75, 76, 77] A_c147 A_c172 → ∀ yc172_6_35 : Int, F_c172 6 35 = yc172_6_35 → ∀ wc172_69 : Int → Int, A_c172 69 = wc172_69 → (inr (tc172_0)) → ((tc172_0) = 9999 ∨ 1 ≤ (tc172_0) ∧ (tc172_0) ≤ 256 ∧ 2 ≤ (x58_2) ∧ 2 ≤ (y7_6_53)) → (IMP (MDX ((w69)) ((u6_35))) (D5 ((w58_84)) ((y7_6_53)) 5 ((tc172_0)))) → (IMP (MDX ((w69)) ((u6_35))) (MDX ((wc172_69)) ((yc172_6_35)))) → Ew 422 (d + 3) 172 ls [I (tc172_0)] σ c s Q := by
                 as_aux_lemma =>
                  intro tc172_0 ls σ F_c172 A_c172  lc172_0 lc172_2 lc172_3 H hS_c172 hA_c172 yc172_6_35 eyc172_6_35 wc172_69 ewc172_69 jc172_0 jc172_1 jc172_2 jc172_3
                  have r7 : (0 : Int) ≤ yc172_6_35 ∧ yc172_6_35 ≤ 100000000 := rngE (show (0 : Int) ≤ F_c172 6 35 ∧ F_c172 6 35 ≤ 100000000 from H.frng 6 35) (show F_c172 6 35 = yc172_6_35 from (eyc172_6_35))
                  have hx5 : IMP (MDX ((w69)) ((u6_35))) (D5 ((w58_84)) ((y7_6_53)) 5 ((tc172_0))) := jc172_2
                  have hmx5 : IMP (MDX ((w69)) ((u6_35))) (MDX ((wc172_69)) ((yc172_6_35))) := jc172_3
                  refine Ew_of (pcₚ := 174) (fun _ => x_istore rfl) ?_
                  have hc199 : ∀ (tc199_0 : Int), ∀ (ls : rO) (σ : rS) (F_c199 : hF) (A_c199 : hA) , rlook ls 0 = some (.ref (D 6)) → rlook ls 3 = some (I (tc147_0)) → rlook ls 4 = some (I (tc172_0)) → HS σ0 σ D N F_c199 A_c199 → SF [(6, 35)] F_c172 F_c199 → SA [69, 71, 72, 73, 74, 75, 76, 77] A_c172 A_c199 → ∀ yc199_6_35 : Int, F_c199 6 35 = yc199_6_35 → ∀ wc199_69 : Int → Int, A_c199 69 = wc199_69 → (inr (tc199_0)) → ((tc199_0) = 9999 ∨ 1 ≤ (tc199_0) ∧ (tc199_0) ≤ 256 ∧ 2 ≤ (x58_2) ∧ 2 ≤ (y7_6_53)) → (IMP (MDX ((w69)) ((u6_35))) (D5 ((w58_84)) ((y7_6_53)) 6 ((tc199_0)))) → (IMP (MDX ((w69)) ((u6_35))) (MDX ((wc199_69)) ((yc199_6_35)))) → Ew 422 (d + 3) 199 ls [I (tc199_0)] σ c s Q := by
                   as_aux_lemma =>
                    intro tc199_0 ls σ F_c199 A_c199  lc199_0 lc199_3 lc199_4 H hS_c199 hA_c199 yc199_6_35 eyc199_6_35 wc199_69 ewc199_69 jc199_0 jc199_1 jc199_2 jc199_3
                    have r8 : (0 : Int) ≤ yc199_6_35 ∧ yc199_6_35 ≤ 100000000 := rngE (show (0 : Int) ≤ F_c199 6 35 ∧ F_c199 6 35 ≤ 100000000 from H.frng 6 35) (show F_c199 6 35 = yc199_6_35 from (eyc199_6_35))
                    have hx6 : IMP (MDX ((w69)) ((u6_35))) (D5 ((w58_84)) ((y7_6_53)) 6 ((tc199_0))) := jc199_2
                    have hmx6 : IMP (MDX ((w69)) ((u6_35))) (MDX ((wc199_69)) ((yc199_6_35))) := jc199_3
                    refine Ew_of (pcₚ := 201) (fun _ => x_istore rfl) ?_
                    refine Ew_of (pcₚ := 203) (fun _ => x_iload rfl (rk_o (lc199_4) rfl rfl)) ?_
                    refine Ew_of (pcₚ := 205) (fun _ => x_iload rfl rk_s) ?_
                    have hc215 : ∀ (tc215_0 : Int), ∀ (ls : rO) (σ : rS) (F_c215 : hF) (A_c215 : hA) , rlook ls 0 = some (.ref (D 6)) → rlook ls 3 = some (I (tc147_0)) → rlook ls 4 = some (I (tc172_0)) → rlook ls 5 = some (I (tc199_0)) → HS σ0 σ D N F_c215 A_c215 → SF [] F_c199 F_c215 → SA [] A_c199 A_c215 → (inr (tc215_0)) → (((tc172_0) ≥ (tc199_0) ∧ (tc215_0) = (tc199_0)) ∨ ((tc172_0) < (tc199_0) ∧ (tc215_0) = (tc172_0))) → Ew 422 (d + 3) 215 ls [I (tc215_0)] σ c s Q := by
                     as_aux_lemma =>
                      intro tc215_0 ls σ F_c215 A_c215  lc215_0 lc215_3 lc215_4 lc215_5 H hS_c215 hA_c215   jc215_0 jc215_1
                      refine Ew_of (pcₚ := 217) (fun _ => x_istore rfl) ?_
                      obtain ⟨qm, hqm⟩ : ∃ q : Int, q = (tc215_0) := ⟨_, rfl⟩
                      have hm17 : qm = (tc172_0) ∧ (tc172_0) < (tc199_0) ∨ qm = (tc199_0) ∧ (tc199_0) ≤ (tc172_0) := by omega
                      refine Ew_of (pcₚ := 219) (fun _ => x_iload rfl rk_s) ?_
                      refine Ew_of (pcₚ := 222) (fun _ => x_sipush (z := 128) rfl (by decide)) ?_
                      have hc233 : ∀ (tc233_0 : Int), ∀ (ls : rO) (σ : rS) (F_c233 : hF) (A_c233 : hA) , rlook ls 0 = some (.ref (D 6)) → rlook ls 3 = some (I (tc147_0)) → rlook ls 4 = some (I (tc172_0)) → rlook ls 5 = some (I (tc199_0)) → HS σ0 σ D N F_c233 A_c233 → SF [] F_c215 F_c233 → SA [] A_c215 A_c233 → (inr (tc233_0)) → (((tc215_0) ≤ (128) ∧ (tc233_0) = (tc215_0)) ∨ ((tc215_0) > (128) ∧ (tc233_0) = (9999))) → Ew 422 (d + 3) 233 ls [I (tc233_0)] σ c s Q := by
                       as_aux_lemma =>
                        intro tc233_0 ls σ F_c233 A_c233  lc233_0 lc233_3 lc233_4 lc233_5 H hS_c233 hA_c233   jc233_0 jc233_1
                        refine Ew_of (pcₚ := 235) (fun _ => x_istore rfl) ?_
                        have hsx : IMP (MDX ((w69)) ((u6_35))) ((tc233_0) = 9999 ∧ ¬ BYS ((w58_84)) ((y7_6_53)) ∨ (tc233_0) = 1 + ((stB ((w58_84)) ((y7_6_53))).length : Int) ∧ (tc233_0) ≤ 128 ∧ BYS ((w58_84)) ((y7_6_53))) := fun q => SX_of (hx5 q) (hx6 q) hm17 (by omega)
                        refine Ew_of (pcₚ := 236) (fun _ => x_iload_n rfl (rk_o (lc233_3) rfl rfl)) ?_
                        refine Ew_of (pcₚ := 239) (fun _ => x_sipush (z := 9999) rfl (by decide)) ?_
                        have hc253 : ∀ (ls : rO) (σ : rS) (F_c253 : hF) (A_c253 : hA) , rlook ls 0 = some (.ref (D 6)) → rlook ls 3 = some (I (tc147_0)) → rlook ls 4 = some (I (tc172_0)) → rlook ls 5 = some (I (tc199_0)) → rlook ls 6 = some (I (tc233_0)) → HS σ0 σ D N F_c253 A_c253 → SF [] F_c233 F_c253 → SA [] A_c233 A_c253 → (((tc147_0) ≠ (9999)) ∨ ((tc147_0) = (9999) ∧ (tc233_0) ≠ (9999))) → Ew 422 (d + 3) 253 ls [] σ c s Q := by
                         as_aux_lemma =>
                          intro  ls σ F_c253 A_c253  lc253_0 lc253_3 lc253_4 lc253_5 lc253_6 H hS_c253 hA_c253   jc253_0
                          refine Ew_of (pcₚ := 254) (fun _ => x_iload_n rfl lc253_3) ?_
                          refine Ew_of (pcₚ := 256) (fun _ => x_iload rfl lc253_6) ?_
                          refine w_icmpgt (t := 337) rfl rfl (show inr (tc147_0) from jc147_0) (show inr (tc233_0) from jc233_0) (fun b9 => ?_) (fun b9 => ?_)
                          · refine Ew_of (pcₚ := 338) (fun _ => x_aload_n rfl lc253_0) ?_
                            refine Ew_of (pcₚ := 340) (fun _ => x_iload rfl lc253_4) ?_
                            refine Ew_of (pcₚ := 342) (fun _ => x_iload rfl lc253_5) ?_
                            refine w_icmpgt (t := 349) rfl rfl (show inr (tc172_0) from jc172_0) (show inr (tc199_0) from jc199_0) (fun b10 => ?_) (fun b10 => ?_)
                            · refine Ew_of (pcₚ := 351) (fun _ => x_bipush (z := 6) rfl (by decide)) ?_
                              obtain ⟨qo, hqo⟩ : ∃ q : Int, q = (6) := ⟨_, rfl⟩
                              have hqc : (tc172_0) ≤ (tc199_0) ∧ qo = 5 ∨ (tc199_0) < (tc172_0) ∧ qo = 6 := by omega
                              refine w_inv H (o := 6) rfl rfl rfl (H.perm 6 rfl) rfl rfl (by rfl) (M423f H (yc199_6_35) (((((hS_c253 6 35 rfl).trans (hS_c233 6 35 rfl)).trans (hS_c215 6 35 rfl)).trans (eyc199_6_35))) (y7_6_53) ((((((((((hS_c253 6 53 rfl).trans (hS_c233 6 53 rfl)).trans (hS_c215 6 53 rfl)).trans (hS_c199 6 53 rfl)).trans (hS_c172 6 53 rfl)).trans (hS_c147 6 53 rfl)).trans (hS_58 6 53 rfl)).trans (hS_34 6 53 rfl)).trans (ey7_6_53))) (wc199_69) ((funext (hA_c253 69 rfl)).trans ((funext (hA_c233 69 rfl)).trans ((funext (hA_c215 69 rfl)).trans (ewc199_69)))) (w58_78) ((funext (hA_c253 78 rfl)).trans ((funext (hA_c233 78 rfl)).trans ((funext (hA_c215 78 rfl)).trans ((funext (hA_c199 78 rfl)).trans ((funext (hA_c172 78 rfl)).trans ((funext (hA_c147 78 rfl)).trans (ew58_78))))))) (w58_84) ((funext (hA_c253 84 rfl)).trans ((funext (hA_c233 84 rfl)).trans ((funext (hA_c215 84 rfl)).trans ((funext (hA_c199 84 rfl)).trans ((funext (hA_c172 84 rfl)).trans ((funext (hA_c147 84 rfl)).trans (ew58_84))))))) (show inr (6) from q_756) (show 5 ≤ (6) ∧ (6) ≤ 6 from q_2104) (show 2 ≤ (y7_6_53) ∧ (y7_6_53) ≤ 255 from q_2522 b10 j7_0 jc172_1 jc199_1 r2) (jnn) (show su (fun i => ((w58_78)) i) 64 = (y7_6_53) by omega) (show 2 ≤ su (fun i => pos1 (((w58_78)) i)) 64 by omega) (hcwF) (jcz) (fun z15 σ F11 A12 H hS13 hA14 y16 ey17 wq18 ewq19 pz15_0 pz15_1 pz15_2 pz15_3 pz15_4 => ⟨rfl, ?_⟩))
                              have r20 : (0 : Int) ≤ y16 ∧ y16 ≤ 100000000 := rngE (show (0 : Int) ≤ F11 6 35 ∧ F11 6 35 ≤ 100000000 from H.frng 6 35) (show F11 6 35 = y16 from (ey17))
                              have hfi : IMP (MDX ((w69)) ((u6_35))) (((stB ((w58_84)) ((y7_6_53))).length : Int) = z15 - 1 ∧ ∃ C, MDB ((wq18)) ((y16)) C ∧ byw C = [z15 - 1] ++ stB ((w58_84)) ((y7_6_53))) := fun q => by have hy := (BYQ (CTI_AG hct) (pz15_3 (hmx6 q))); rw [← hqo] at hy; rcases hsx q with ⟨a, b⟩ | ⟨a, b, c⟩; (exfalso; omega); have ho := SX_ord (hx5 q) (hx6 q) c; rcases hqc with ⟨d, e⟩ | ⟨d, e⟩; (rw [e, ← ho.1 d] at hy; exact hy); (rw [e, ← ho.2 d] at hy; exact hy)
                              refine Ew_of (pcₚ := 356) (fun _ => x_istore rfl) ?_
                              refine Ew_of (pcₚ := 358) (fun _ => x_iload rfl (rk_o (lc253_6) rfl rfl)) ?_
                              have : IMP (MDX ((w69)) ((u6_35))) (DRF ((tc233_0)) (DSC (wtF ((w82)) ((a1))) (lzN ((w82)) 256)) ((wq18)) ((y16))) := fun q => by rcases hsx q with ⟨a, b⟩ | ⟨a, b, c⟩; (exfalso; omega); obtain ⟨h1, C, h2, h3⟩ := hfi q; exact .inr ⟨C, by rw [← hDS, DSC_s c (by omega), h3, ← h1], h2, by omega, by omega⟩
                              exact w_ireturn rfl (k (tc233_0) σ _ _ H (SF_trans (SF_trans (SF_trans (SF_trans (SF_trans (SF_trans (SF_trans (SF_trans (SF_trans (SF_trans (SF_upd (SF_refl) rfl) hS_7 (any_sub rfl)) hS_34 (any_sub rfl)) hS_58 (any_sub rfl)) hS_c147 (any_sub rfl)) hS_c172 (any_sub rfl)) hS_c199 (any_sub rfl)) hS_c215 (any_sub rfl)) hS_c233 (any_sub rfl)) hS_c253 (any_sub rfl)) hS13 (any_sub rfl)) (SA_trans (SA_trans (SA_trans (SA_trans (SA_trans (SA_trans (SA_trans (SA_trans (SA_trans (SA_trans (SA_refl) hA_7 (any_subA rfl)) hA_34 (any_subA rfl)) hA_58 (any_subA rfl)) hA_c147 (any_subA rfl)) hA_c172 (any_subA rfl)) hA_c199 (any_subA rfl)) hA_c215 (any_subA rfl)) hA_c233 (any_subA rfl)) hA_c253 (any_subA rfl)) hA14 (any_subA rfl)) (y16) ((ey17)) (wq18) (ewq19) (show inr (tc233_0) from jc233_0) (show (tc233_0) = -2 ∨ 1 ≤ (tc233_0) ∧ (tc233_0) ≤ 128 by omega) (show (tc233_0) = -2 ∨ 0 ≤ (y16) ∧ (y16) ≤ 2047 from q_2523 pz15_2) (show IMP (MDX ((w69)) ((u6_35))) (DRF ((tc233_0)) (DSC (wtF ((w82)) (a1)) (lzN ((w82)) 256)) ((wq18)) ((y16))) by assumption))
                            · refine Ew_of (pcₚ := 346) (fun _ => x_iconst rfl) ?_
                              refine Ew_of (pcₚ := 351) (fun _ => x_goto rfl rfl) ?_
                              obtain ⟨qo, hqo⟩ : ∃ q : Int, q = (5) := ⟨_, rfl⟩
                              have hqc : (tc172_0) ≤ (tc199_0) ∧ qo = 5 ∨ (tc199_0) < (tc172_0) ∧ qo = 6 := by omega
                              refine w_inv H (o := 6) rfl rfl rfl (H.perm 6 rfl) rfl rfl (by rfl) (M423f H (yc199_6_35) (((((hS_c253 6 35 rfl).trans (hS_c233 6 35 rfl)).trans (hS_c215 6 35 rfl)).trans (eyc199_6_35))) (y7_6_53) ((((((((((hS_c253 6 53 rfl).trans (hS_c233 6 53 rfl)).trans (hS_c215 6 53 rfl)).trans (hS_c199 6 53 rfl)).trans (hS_c172 6 53 rfl)).trans (hS_c147 6 53 rfl)).trans (hS_58 6 53 rfl)).trans (hS_34 6 53 rfl)).trans (ey7_6_53))) (wc199_69) ((funext (hA_c253 69 rfl)).trans ((funext (hA_c233 69 rfl)).trans ((funext (hA_c215 69 rfl)).trans (ewc199_69)))) (w58_78) ((funext (hA_c253 78 rfl)).trans ((funext (hA_c233 78 rfl)).trans ((funext (hA_c215 78 rfl)).trans ((funext (hA_c199 78 rfl)).trans ((funext (hA_c172 78 rfl)).trans ((funext (hA_c147 78 rfl)).trans (ew58_78))))))) (w58_84) ((funext (hA_c253 84 rfl)).trans ((funext (hA_c233 84 rfl)).trans ((funext (hA_c215 84 rfl)).trans ((funext (hA_c199 84 rfl)).trans ((funext (hA_c172 84 rfl)).trans ((funext (hA_c147 84 rfl)).trans (ew58_84))))))) (show inr (5) from q_727) (show 5 ≤ (5) ∧ (5) ≤ 6 from q_2106) (show 2 ≤ (y7_6_53) ∧ (y7_6_53) ≤ 255 by omega) (jnn) (show su (fun i => ((w58_78)) i) 64 = (y7_6_53) by omega) (show 2 ≤ su (fun i => pos1 (((w58_78)) i)) 64 by omega) (hcwF) (jcz) (fun z25 σ F21 A22 H hS23 hA24 y26 ey27 wq28 ewq29 pz25_0 pz25_1 pz25_2 pz25_3 pz25_4 => ⟨rfl, ?_⟩))
                              have r30 : (0 : Int) ≤ y26 ∧ y26 ≤ 100000000 := rngE (show (0 : Int) ≤ F21 6 35 ∧ F21 6 35 ≤ 100000000 from H.frng 6 35) (show F21 6 35 = y26 from (ey27))
                              have hfi : IMP (MDX ((w69)) ((u6_35))) (((stB ((w58_84)) ((y7_6_53))).length : Int) = z25 - 1 ∧ ∃ C, MDB ((wq28)) ((y26)) C ∧ byw C = [z25 - 1] ++ stB ((w58_84)) ((y7_6_53))) := fun q => by have hy := (BYQ (CTI_AG hct) (pz25_3 (hmx6 q))); rw [← hqo] at hy; rcases hsx q with ⟨a, b⟩ | ⟨a, b, c⟩; (exfalso; omega); have ho := SX_ord (hx5 q) (hx6 q) c; rcases hqc with ⟨d, e⟩ | ⟨d, e⟩; (rw [e, ← ho.1 d] at hy; exact hy); (rw [e, ← ho.2 d] at hy; exact hy)
                              refine Ew_of (pcₚ := 356) (fun _ => x_istore rfl) ?_
                              refine Ew_of (pcₚ := 358) (fun _ => x_iload rfl (rk_o (lc253_6) rfl rfl)) ?_
                              have : IMP (MDX ((w69)) ((u6_35))) (DRF ((tc233_0)) (DSC (wtF ((w82)) ((a1))) (lzN ((w82)) 256)) ((wq28)) ((y26))) := fun q => by rcases hsx q with ⟨a, b⟩ | ⟨a, b, c⟩; (exfalso; omega); obtain ⟨h1, C, h2, h3⟩ := hfi q; exact .inr ⟨C, by rw [← hDS, DSC_s c (by omega), h3, ← h1], h2, by omega, by omega⟩
                              exact w_ireturn rfl (k (tc233_0) σ _ _ H (SF_trans (SF_trans (SF_trans (SF_trans (SF_trans (SF_trans (SF_trans (SF_trans (SF_trans (SF_trans (SF_upd (SF_refl) rfl) hS_7 (any_sub rfl)) hS_34 (any_sub rfl)) hS_58 (any_sub rfl)) hS_c147 (any_sub rfl)) hS_c172 (any_sub rfl)) hS_c199 (any_sub rfl)) hS_c215 (any_sub rfl)) hS_c233 (any_sub rfl)) hS_c253 (any_sub rfl)) hS23 (any_sub rfl)) (SA_trans (SA_trans (SA_trans (SA_trans (SA_trans (SA_trans (SA_trans (SA_trans (SA_trans (SA_trans (SA_refl) hA_7 (any_subA rfl)) hA_34 (any_subA rfl)) hA_58 (any_subA rfl)) hA_c147 (any_subA rfl)) hA_c172 (any_subA rfl)) hA_c199 (any_subA rfl)) hA_c215 (any_subA rfl)) hA_c233 (any_subA rfl)) hA_c253 (any_subA rfl)) hA24 (any_subA rfl)) (y26) ((ey27)) (wq28) (ewq29) (show inr (tc233_0) from jc233_0) (show (tc233_0) = -2 ∨ 1 ≤ (tc233_0) ∧ (tc233_0) ≤ 128 by omega) (show (tc233_0) = -2 ∨ 0 ≤ (y26) ∧ (y26) ≤ 2047 from q_2523 pz25_2) (show IMP (MDX ((w69)) ((u6_35))) (DRF ((tc233_0)) (DSC (wtF ((w82)) (a1)) (lzN ((w82)) 256)) ((wq28)) ((y26))) by assumption))
                          · refine Ew_of (pcₚ := 260) (fun _ => x_aload_n rfl lc253_0) ?_
                            refine w_inv H (o := 6) rfl rfl rfl (H.perm 6 rfl) rfl rfl (by rfl) (M391 H (yc199_6_35) (((((hS_c253 6 35 rfl).trans (hS_c233 6 35 rfl)).trans (hS_c215 6 35 rfl)).trans (eyc199_6_35))) (wc199_69) ((funext (hA_c253 69 rfl)).trans ((funext (hA_c233 69 rfl)).trans ((funext (hA_c215 69 rfl)).trans (ewc199_69))))  (fun σ F31 A32 H hS33 hA34 y36 ey37 wq38 ewq39 pz35_0 pz35_1 => ⟨rfl, ?_⟩))
                            have r40 : (0 : Int) ≤ y36 ∧ y36 ≤ 100000000 := rngE (show (0 : Int) ≤ F31 6 35 ∧ F31 6 35 ≤ 100000000 from H.frng 6 35) (show F31 6 35 = y36 from (ey37))
                            have hb63 : IMP (MDX ((w69)) ((u6_35))) (MDB ((wq38)) ((y36)) []) := fun q => by rw [show (y36) = 0 by omega]; exact pz35_1 (hmx6 q)
                            refine Ew_of (pcₚ := 264) (fun _ => x_aload_n rfl lc253_0) ?_
                            refine Ew_of (pcₚ := 266) (fun _ => x_bipush (z := 127) rfl (by decide)) ?_
                            refine Ew_of (pcₚ := 267) (fun _ => x_aload_n rfl lc253_0) ?_
                            refine w_gI H (o := 6) (w := y7_6_53) rfl (H.perm 6 rfl) rfl rfl rfl (fun _ => rfl) ((((((((((hS33 6 53 rfl).trans (hS_c253 6 53 rfl)).trans (hS_c233 6 53 rfl)).trans (hS_c215 6 53 rfl)).trans (hS_c199 6 53 rfl)).trans (hS_c172 6 53 rfl)).trans (hS_c147 6 53 rfl)).trans (hS_58 6 53 rfl)).trans (hS_34 6 53 rfl)).trans (ey7_6_53)) ?_
                            refine w_iadd rfl ?_
                            refine Ew_of (pcₚ := 273) (fun _ => x_bipush (z := 8) rfl (by decide)) ?_
                            refine w_inv H (o := 6) rfl rfl rfl (H.perm 6 rfl) rfl rfl (by rfl) (M389 H (y36) ((ey37)) (wq38) (ewq39) (show inr ((127 + y7_6_53)) from q_2524 r2) (show inr (8) from q_141) (show 0 ≤ (8) ∧ (8) ≤ 31 from q_2497) (show 0 ≤ (y36) ∧ (y36) ≤ 90000000 from q_2496 pz35_0 r40) (fun σ F41 A42 H hS43 hA44 y46 ey47 wq48 ewq49 pz45_0 pz45_1 => ⟨rfl, ?_⟩))
                            have r50 : (0 : Int) ≤ y46 ∧ y46 ≤ 100000000 := rngE (show (0 : Int) ≤ F41 6 35 ∧ F41 6 35 ≤ 100000000 from H.frng 6 35) (show F41 6 35 = y46 from (ey47))
                            have hp79 : IMP (MDX ((w69)) ((u6_35))) (MDB ((wq48)) ((y46)) (btw (127 + (y7_6_53)) 8)) := fun q => by have h := pz45_1 (by omega) [] (hb63 q); rw [List.nil_append] at h; exact h
                            refine Ew_of (pcₚ := 277) (fun _ => x_iconst rfl) ?_
                            refine Ew_of (pcₚ := 279) (fun _ => x_istore rfl) ?_
                            have : IMP (MDX ((w69)) ((u6_35))) (MDB ((wq48)) ((y46)) (btw (127 + (y7_6_53)) 8 ++ drP ((w58_84)) ((y7_6_53)) ((0)))) := fun q => by rw [drP_0, List.append_nil]; exact hp79 q
                            suffices hl279 : ∀ (m : Nat), ∀ (ls : rO) (σ : rS) (F_279 : hF) (A_279 : hA) (x279_7 : Int), rlook ls 0 = some (.ref (D 6)) → rlook ls 3 = some (I (tc147_0)) → rlook ls 7 = some (I (x279_7)) → HS σ0 σ D N F_279 A_279 → SF [(6, 35)] F41 F_279 → SA [69] A42 A_279 → ∀ y279_6_35 : Int, F_279 6 35 = y279_6_35 → ∀ w279_69 : Int → Int, A_279 69 = w279_69 → (inr (x279_7)) → (0 ≤ (x279_7) ∧ (x279_7) ≤ (y7_6_53) + 1) → ((y46) ≤ (y279_6_35) ∧ (y279_6_35) ≤ (y46) + 4 * (x279_7)) → ((x279_7) % 2 = 0) → ((y279_6_35) = 8 + 4 * (x279_7)) → (IMP (MDX ((w69)) ((u6_35))) (MDB ((w279_69)) ((y279_6_35)) (btw (127 + (y7_6_53)) 8 ++ drP ((w58_84)) ((y7_6_53)) ((x279_7))))) → ((y7_6_53) + 1 - (x279_7)).toNat = m → Ew 422 (d + 3) 279 ls [] σ c s Q from
                              hl279 _ _ σ _ _ (0) (rk_o (lc253_0) rfl rfl) (rk_o (lc253_3) rfl rfl) (rk_s) H (SF_refl) (SA_refl) (y46) ((ey47)) (wq48) (ewq49) (show inr (0) from q_2) (show 0 ≤ (0) ∧ (0) ≤ (y7_6_53) + 1 from q_2526 r2) (show (y46) ≤ (y46) ∧ (y46) ≤ (y46) + 4 * (0) from q_2525) (show (0) % 2 = 0 by omega) (show (y46) = 8 + 4 * (0) from q_2636 pz35_0 pz45_0 r40) (show IMP (MDX ((w69)) ((u6_35))) (MDB ((wq48)) ((y46)) (btw (127 + (y7_6_53)) 8 ++ drP ((w58_84)) ((y7_6_53)) ((0)))) by assumption) rfl
                            as_aux_lemma =>
                            intro m
                            induction m using Nat.strongRecOn with
                            | _ m ih279 =>
                              intro ls σ F_279 A_279 x279_7 l279_0 l279_3 l279_7 H hS_279 hA_279 y279_6_35 ey279_6_35 w279_69 ew279_69 j279_0 j279_1 j279_2 j279_3 j279_4 j279_5 hm279
                              have r51 : (0 : Int) ≤ y279_6_35 ∧ y279_6_35 ≤ 100000000 := rngE (show (0 : Int) ≤ F_279 6 35 ∧ F_279 6 35 ≤ 100000000 from H.frng 6 35) (show F_279 6 35 = y279_6_35 from (ey279_6_35))
                              have j279_m : IMP (MDX ((w69)) ((u6_35))) (MDB ((w279_69)) ((y279_6_35)) (btw (127 + (y7_6_53)) 8 ++ drP ((w58_84)) ((y7_6_53)) ((x279_7)))) := by assumption
                              refine Ew_of (pcₚ := 281) (fun _ => x_iload rfl l279_7) ?_
                              refine Ew_of (pcₚ := 282) (fun _ => x_aload_n rfl l279_0) ?_
                              refine w_gI H (o := 6) (w := y7_6_53) rfl (H.perm 6 rfl) rfl rfl rfl (fun _ => rfl) ((((((((((((hS_279 6 53 rfl).trans (hS43 6 53 rfl)).trans (hS33 6 53 rfl)).trans (hS_c253 6 53 rfl)).trans (hS_c233 6 53 rfl)).trans (hS_c215 6 53 rfl)).trans (hS_c199 6 53 rfl)).trans (hS_c172 6 53 rfl)).trans (hS_c147 6 53 rfl)).trans (hS_58 6 53 rfl)).trans (hS_34 6 53 rfl)).trans (ey7_6_53)) ?_
                              refine w_icmpge (t := 335) rfl rfl (show inr (x279_7) from j279_0) (show inr (y7_6_53) from q_2500 r2) (fun b52 => ?_) (fun b52 => ?_)
                              · refine Ew_of (pcₚ := 336) (fun _ => x_iload_n rfl l279_3) ?_
                                have : IMP (MDX ((w69)) ((u6_35))) (DRF ((tc147_0)) (DSC (wtF ((w82)) ((a1))) (lzN ((w82)) 256)) ((w279_69)) ((y279_6_35))) := fun q => .inr ⟨_, by rw [← hDS, DSC_d (by omega) (by rcases hsx q with ⟨a, b⟩ | ⟨a, b, c⟩; (exact .inl b); (exact .inr (by omega))), ← drP_e (i := (x279_7)) (by omega) (by omega) (by omega) hw15], j279_m q, by omega, by omega⟩
                                exact w_ireturn rfl (k (tc147_0) σ _ _ H (SF_trans (SF_trans (SF_trans (SF_trans (SF_trans (SF_trans (SF_trans (SF_trans (SF_trans (SF_trans (SF_trans (SF_trans (SF_upd (SF_refl) rfl) hS_7 (any_sub rfl)) hS_34 (any_sub rfl)) hS_58 (any_sub rfl)) hS_c147 (any_sub rfl)) hS_c172 (any_sub rfl)) hS_c199 (any_sub rfl)) hS_c215 (any_sub rfl)) hS_c233 (any_sub rfl)) hS_c253 (any_sub rfl)) hS33 (any_sub rfl)) hS43 (any_sub rfl)) hS_279 (any_sub rfl)) (SA_trans (SA_trans (SA_trans (SA_trans (SA_trans (SA_trans (SA_trans (SA_trans (SA_trans (SA_trans (SA_trans (SA_trans (SA_refl) hA_7 (any_subA rfl)) hA_34 (any_subA rfl)) hA_58 (any_subA rfl)) hA_c147 (any_subA rfl)) hA_c172 (any_subA rfl)) hA_c199 (any_subA rfl)) hA_c215 (any_subA rfl)) hA_c233 (any_subA rfl)) hA_c253 (any_subA rfl)) hA34 (any_subA rfl)) hA44 (any_subA rfl)) hA_279 (any_subA rfl)) (y279_6_35) ((ey279_6_35)) (w279_69) (ew279_69) (show inr (tc147_0) from jc147_0) (show (tc147_0) = -2 ∨ 1 ≤ (tc147_0) ∧ (tc147_0) ≤ 128 by omega) (show (tc147_0) = -2 ∨ 0 ≤ (y279_6_35) ∧ (y279_6_35) ≤ 2047 from q_2637 j279_1 j279_4 r2 r51) (show IMP (MDX ((w69)) ((u6_35))) (DRF ((tc147_0)) (DSC (wtF ((w82)) (a1)) (lzN ((w82)) 256)) ((w279_69)) ((y279_6_35))) by assumption))
                              · refine Ew_of (pcₚ := 289) (fun _ => x_aload_n rfl l279_0) ?_
                                refine Ew_of (pcₚ := 291) (fun _ => x_iload rfl l279_7) ?_
                                refine Ew_of (pcₚ := 292) (fun _ => x_iconst rfl) ?_
                                refine w_iadd rfl ?_
                                refine Ew_of (pcₚ := 294) (fun _ => x_aload_n rfl l279_0) ?_
                                refine w_gI H (o := 6) (w := y7_6_53) rfl (H.perm 6 rfl) rfl rfl rfl (fun _ => rfl) ((((((((((((hS_279 6 53 rfl).trans (hS43 6 53 rfl)).trans (hS33 6 53 rfl)).trans (hS_c253 6 53 rfl)).trans (hS_c233 6 53 rfl)).trans (hS_c215 6 53 rfl)).trans (hS_c199 6 53 rfl)).trans (hS_c172 6 53 rfl)).trans (hS_c147 6 53 rfl)).trans (hS_58 6 53 rfl)).trans (hS_34 6 53 rfl)).trans (ey7_6_53)) ?_
                                have hc313 : ∀ (tc313_0 : Int), ∀ (ls : rO) (σ : rS) (F_c313 : hF) (A_c313 : hA) , rlook ls 0 = some (.ref (D 6)) → rlook ls 3 = some (I (tc147_0)) → rlook ls 7 = some (I (x279_7)) → HS σ0 σ D N F_c313 A_c313 → SF [] F_279 F_c313 → SA [] A_279 A_c313 → (inr (tc313_0)) → ((((x279_7 + 1)) ≥ (y7_6_53) ∧ (tc313_0) = (0)) ∨ (((x279_7 + 1)) < (y7_6_53) ∧ (-2147483648) ≤ ((w58_84) ((x279_7 + 1))) ∧ ((w58_84) ((x279_7 + 1))) ≤ 2147483647 ∧ (tc313_0) = ((w58_84) ((x279_7 + 1))))) → Ew 422 (d + 3) 313 ls [I (tc313_0), .ref (D 6)] σ c s Q := by
                                 as_aux_lemma =>
                                  intro tc313_0 ls σ F_c313 A_c313  lc313_0 lc313_3 lc313_7 H hS_c313 hA_c313   jc313_0 jc313_1
                                  obtain ⟨yv, hyv⟩ : ∃ y : Int, y = (tc313_0) := ⟨_, rfl⟩
                                  have hyc : (x279_7) + 1 < (y7_6_53) ∧ ((w58_84)) ((x279_7) + 1) = yv ∨ (y7_6_53) ≤ (x279_7) + 1 ∧ yv = 0 := by omega
                                  have hy15 : 0 ≤ yv ∧ yv ≤ 15 := by rcases hyc with ⟨a, b⟩ | ⟨a, b⟩; (have h := hw15 ((x279_7) + 1) (by omega) a; rw [b] at h; exact h); omega
                                  refine Ew_of (pcₚ := 314) (fun _ => x_iconst rfl) ?_
                                  refine w_inv H (o := 6) rfl rfl rfl (H.perm 6 rfl) rfl rfl (by rfl) (M389 H (y279_6_35) (((hS_c313 6 35 rfl).trans (ey279_6_35))) (w279_69) ((funext (hA_c313 69 rfl)).trans (ew279_69)) (show inr (tc313_0) from jc313_0) (show inr (4) from q_216) (show 0 ≤ (4) ∧ (4) ≤ 31 from q_2449) (show 0 ≤ (y279_6_35) ∧ (y279_6_35) ≤ 90000000 from q_2638 b52 j279_4 r2 r51) (fun σ F53 A54 H hS55 hA56 y58 ey59 wq60 ewq61 pz57_0 pz57_1 => ⟨rfl, ?_⟩))
                                  have r62 : (0 : Int) ≤ y58 ∧ y58 ≤ 100000000 := rngE (show (0 : Int) ≤ F53 6 35 ∧ F53 6 35 ≤ 100000000 from H.frng 6 35) (show F53 6 35 = y58 from (ey59))
                                  have hp17 := fun q => pz57_1 (by omega) _ (j279_m q)
                                  rw [← hyv] at hp17
                                  refine Ew_of (pcₚ := 318) (fun _ => x_aload_n rfl lc313_0) ?_
                                  refine Ew_of (pcₚ := 319) (fun _ => x_aload_n rfl lc313_0) ?_
                                  refine w_gT H (o := 6) (t := 84) rfl (H.perm 6 rfl) rfl rfl rfl rfl rfl rfl ?_
                                  refine Ew_of (pcₚ := 324) (fun _ => x_iload rfl lc313_7) ?_
                                  refine w_lI H (o := 84) (n := 257) rfl (H.perm 84 rfl) rfl rfl (H.fix 84 rfl rfl) (show 0 ≤ x279_7 ∧ x279_7 < ((257 : Nat) : Int) from q_2529 b52 j279_1 r2) (by decide) (fun v63 ev63 qv63 => ?_)
                                  have qv63 : (-2147483648 : Int) ≤ v63 ∧ v63 ≤ 2147483647 := qv63
                                  have ev63 : (w58_84) (x279_7) = v63 := (congrFun ((funext (hA56 84 rfl)).trans ((funext (hA_c313 84 rfl)).trans ((funext (hA_279 84 rfl)).trans ((funext (hA44 84 rfl)).trans ((funext (hA34 84 rfl)).trans ((funext (hA_c253 84 rfl)).trans ((funext (hA_c233 84 rfl)).trans ((funext (hA_c215 84 rfl)).trans ((funext (hA_c199 84 rfl)).trans ((funext (hA_c172 84 rfl)).trans ((funext (hA_c147 84 rfl)).trans (ew58_84)))))))))))) (x279_7)).symm.trans ev63
                                  obtain ⟨xv, hxv⟩ : ∃ x : Int, x = (v63) := ⟨_, rfl⟩
                                  have hxx7 : ((w58_84)) ((x279_7)) = xv := by rw [hxv]; exact ev63
                                  have hx15 := hw15 ((x279_7)) (by omega) (by omega)
                                  rw [hxx7] at hx15
                                  refine Ew_of (pcₚ := 326) (fun _ => x_iconst rfl) ?_
                                  refine w_inv H (o := 6) rfl rfl rfl (H.perm 6 rfl) rfl rfl (by rfl) (M389 H (y58) ((ey59)) (wq60) (ewq61) (show inr (v63) from q_18 qv63) (show inr (4) from q_216) (show 0 ≤ (4) ∧ (4) ≤ 31 from q_2449) (show 0 ≤ (y58) ∧ (y58) ≤ 90000000 from q_2639 b52 j279_4 pz57_0 r2 r62) (fun σ F64 A65 H hS66 hA67 y69 ey70 wq71 ewq72 pz68_0 pz68_1 => ⟨rfl, ?_⟩))
                                  have r73 : (0 : Int) ≤ y69 ∧ y69 ≤ 100000000 := rngE (show (0 : Int) ≤ F64 6 35 ∧ F64 6 35 ≤ 100000000 from H.frng 6 35) (show F64 6 35 = y69 from (ey70))
                                  have hp29 : IMP (MDX ((w69)) ((u6_35))) (MDB ((wq71)) ((y69)) (btw (127 + (y7_6_53)) 8 ++ drP ((w58_84)) ((y7_6_53)) ((x279_7) + 2))) := fun q => by have h := pz68_1 (by omega) _ (hp17 q); rw [← hxv] at h; rw [drP_s (w := (w58_84)) (k := (y7_6_53)) (i := (x279_7)) (j := (x279_7) + 2) (by omega) (by omega) rfl hxx7 hyc, btw_84 hx15 hy15]; simp only [← List.append_assoc] at h ⊢; exact h
                                  refine Ew_of (pcₚ := 332) (fun _ => x_iinc (len := 3) rfl (lc313_7)) ?_
                                  refine Ew_of (pcₚ := 279) (fun _ => x_goto rfl rfl) ?_
                                  have : IMP (MDX ((w69)) ((u6_35))) (MDB ((wq71)) ((y69)) (btw (127 + (y7_6_53)) 8 ++ drP ((w58_84)) ((y7_6_53)) (((x279_7 + 2))))) := hp29
                                  exact ih279 _ (msE hm279 q_2534 (q_2164 b52)) _ σ _ _ ((x279_7 + 2)) (rk_o (lc313_0) rfl rfl) (rk_o (lc313_3) rfl rfl) (rk_s) H (SF_trans (SF_trans (SF_trans (hS_279) hS_c313 (any_sub rfl)) hS55 (any_sub rfl)) hS66 (any_sub rfl)) (SA_trans (SA_trans (SA_trans (hA_279) hA_c313 (any_subA rfl)) hA56 (any_subA rfl)) hA67 (any_subA rfl)) (y69) ((ey70)) (wq71) (ewq72) (show inr ((x279_7 + 2)) from q_2533 b52 j279_2 r2) (show 0 ≤ ((x279_7 + 2)) ∧ ((x279_7 + 2)) ≤ (y7_6_53) + 1 from q_2532 b52 j279_2) (show (y46) ≤ (y69) ∧ (y69) ≤ (y46) + 4 * ((x279_7 + 2)) from q_2531 j279_2 pz57_0 pz68_0) (show ((x279_7 + 2)) % 2 = 0 by omega) (show (y69) = 8 + 4 * ((x279_7 + 2)) from q_2640 j279_4 pz57_0 pz68_0) (hp29) rfl
                                refine w_icmpge (t := 312) rfl rfl (show inr ((x279_7 + 1)) from q_2535 b52 j279_2 r2) (show inr (y7_6_53) from q_2500 r2) (fun b74 => ?_) (fun b74 => ?_)
                                · refine Ew_of (pcₚ := 313) (fun _ => x_iconst rfl) ?_
                                  exact hc313 (0) _ σ _ _  (l279_0) (l279_3) (l279_7) H (SF_refl) (SA_refl)   (show inr (0) from q_2) (show (((x279_7 + 1)) ≥ (y7_6_53) ∧ (0) = (0)) ∨ (((x279_7 + 1)) < (y7_6_53) ∧ (-2147483648) ≤ ((w58_84) ((x279_7 + 1))) ∧ ((w58_84) ((x279_7 + 1))) ≤ 2147483647 ∧ (0) = ((w58_84) ((x279_7 + 1)))) from q_2536 b74)
                                · refine Ew_of (pcₚ := 301) (fun _ => x_aload_n rfl l279_0) ?_
                                  refine w_gT H (o := 6) (t := 84) rfl (H.perm 6 rfl) rfl rfl rfl rfl rfl rfl ?_
                                  refine Ew_of (pcₚ := 306) (fun _ => x_iload rfl l279_7) ?_
                                  refine Ew_of (pcₚ := 307) (fun _ => x_iconst rfl) ?_
                                  refine w_iadd rfl ?_
                                  refine w_lI H (o := 84) (n := 257) rfl (H.perm 84 rfl) rfl rfl (H.fix 84 rfl rfl) (show 0 ≤ (x279_7 + 1) ∧ (x279_7 + 1) < ((257 : Nat) : Int) from q_2537 b74 j279_2 r2) (by decide) (fun v75 ev75 qv75 => ?_)
                                  have qv75 : (-2147483648 : Int) ≤ v75 ∧ v75 ≤ 2147483647 := qv75
                                  have ev75 : (w58_84) ((x279_7 + 1)) = v75 := (congrFun ((funext (hA_279 84 rfl)).trans ((funext (hA44 84 rfl)).trans ((funext (hA34 84 rfl)).trans ((funext (hA_c253 84 rfl)).trans ((funext (hA_c233 84 rfl)).trans ((funext (hA_c215 84 rfl)).trans ((funext (hA_c199 84 rfl)).trans ((funext (hA_c172 84 rfl)).trans ((funext (hA_c147 84 rfl)).trans (ew58_84)))))))))) ((x279_7 + 1))).symm.trans ev75
                                  refine Ew_of (pcₚ := 313) (fun _ => x_goto rfl rfl) ?_
                                  exact hc313 (v75) _ σ _ _  (l279_0) (l279_3) (l279_7) H (SF_refl) (SA_refl)   (show inr (v75) from q_18 qv75) (show (((x279_7 + 1)) ≥ (y7_6_53) ∧ (v75) = (0)) ∨ (((x279_7 + 1)) < (y7_6_53) ∧ (-2147483648) ≤ ((w58_84) ((x279_7 + 1))) ∧ ((w58_84) ((x279_7 + 1))) ≤ 2147483647 ∧ (v75) = ((w58_84) ((x279_7 + 1)))) from q_2538 b74 ev75 qv75)
                        refine w_icmpne (t := 253) rfl rfl (show inr (tc147_0) from jc147_0) (show inr (9999) from q_2539) (fun b76 => ?_) (fun b76 => ?_)
                        · exact hc253  _ σ _ _  (rk_o (lc233_0) rfl rfl) (rk_o (lc233_3) rfl rfl) (rk_o (lc233_4) rfl rfl) (rk_o (lc233_5) rfl rfl) (rk_s) H (SF_refl) (SA_refl)   (show ((tc147_0) ≠ (9999)) ∨ ((tc147_0) = (9999) ∧ (tc233_0) ≠ (9999)) from q_2540 b76)
                        · refine Ew_of (pcₚ := 244) (fun _ => x_iload rfl rk_s) ?_
                          refine Ew_of (pcₚ := 247) (fun _ => x_sipush (z := 9999) rfl (by decide)) ?_
                          refine w_icmpne (t := 253) rfl rfl (show inr (tc233_0) from jc233_0) (show inr (9999) from q_2539) (fun b77 => ?_) (fun b77 => ?_)
                          · exact hc253  _ σ _ _  (rk_o (lc233_0) rfl rfl) (rk_o (lc233_3) rfl rfl) (rk_o (lc233_4) rfl rfl) (rk_o (lc233_5) rfl rfl) (rk_s) H (SF_refl) (SA_refl)   (show ((tc147_0) ≠ (9999)) ∨ ((tc147_0) = (9999) ∧ (tc233_0) ≠ (9999)) from q_2541 b76 b77)
                          · refine Ew_of (pcₚ := 252) (fun _ => x_bipush (z := -2) rfl (by decide)) ?_
                            have : IMP (MDX ((w69)) ((u6_35))) (DRF (((-2))) (DSC (wtF ((w82)) ((a1))) (lzN ((w82)) 256)) ((wc199_69)) ((yc199_6_35))) := fun q => .inl ⟨rfl, by rw [← hDS]; exact DSC_n (by rcases hsx q with ⟨a, b⟩ | ⟨a, b, c⟩; (exact b); (exfalso; omega)) (by omega), hmx6 q⟩
                            exact w_ireturn rfl (k ((-2)) σ _ _ H (SF_trans (SF_trans (SF_trans (SF_trans (SF_trans (SF_trans (SF_trans (SF_trans (SF_upd (SF_refl) rfl) hS_7 (any_sub rfl)) hS_34 (any_sub rfl)) hS_58 (any_sub rfl)) hS_c147 (any_sub rfl)) hS_c172 (any_sub rfl)) hS_c199 (any_sub rfl)) hS_c215 (any_sub rfl)) hS_c233 (any_sub rfl)) (SA_trans (SA_trans (SA_trans (SA_trans (SA_trans (SA_trans (SA_trans (SA_trans (SA_refl) hA_7 (any_subA rfl)) hA_34 (any_subA rfl)) hA_58 (any_subA rfl)) hA_c147 (any_subA rfl)) hA_c172 (any_subA rfl)) hA_c199 (any_subA rfl)) hA_c215 (any_subA rfl)) hA_c233 (any_subA rfl)) (yc199_6_35) ((((hS_c233 6 35 rfl).trans (hS_c215 6 35 rfl)).trans (eyc199_6_35))) (wc199_69) ((funext (hA_c233 69 rfl)).trans ((funext (hA_c215 69 rfl)).trans (ewc199_69))) (show inr ((-2)) from q_362) (show ((-2)) = -2 ∨ 1 ≤ ((-2)) ∧ ((-2)) ≤ 128 by first | exact q_2543 | omega) (show ((-2)) = -2 ∨ 0 ≤ (yc199_6_35) ∧ (yc199_6_35) ≤ 2047 by first | exact q_2542 | omega) (show IMP (MDX ((w69)) ((u6_35))) (DRF (((-2))) (DSC (wtF ((w82)) (a1)) (lzN ((w82)) 256)) ((wc199_69)) ((yc199_6_35))) by assumption))
                      refine w_icmple (t := 231) rfl rfl (show inr (tc215_0) from jc215_0) (show inr (128) from q_313) (fun b78 => ?_) (fun b78 => ?_)
                      · refine Ew_of (pcₚ := 233) (fun _ => x_iload rfl rk_s) ?_
                        exact hc233 (tc215_0) _ σ _ _  (rk_o (lc215_0) rfl rfl) (rk_o (lc215_3) rfl rfl) (rk_o (lc215_4) rfl rfl) (rk_o (lc215_5) rfl rfl) H (SF_refl) (SA_refl)   (show inr (tc215_0) from jc215_0) (show ((tc215_0) ≤ (128) ∧ (tc215_0) = (tc215_0)) ∨ ((tc215_0) > (128) ∧ (tc215_0) = (9999)) from q_2544 b78)
                      · refine Ew_of (pcₚ := 228) (fun _ => x_sipush (z := 9999) rfl (by decide)) ?_
                        refine Ew_of (pcₚ := 233) (fun _ => x_goto rfl rfl) ?_
                        exact hc233 (9999) _ σ _ _  (rk_o (lc215_0) rfl rfl) (rk_o (lc215_3) rfl rfl) (rk_o (lc215_4) rfl rfl) (rk_o (lc215_5) rfl rfl) H (SF_refl) (SA_refl)   (show inr (9999) from q_2539) (show ((tc215_0) ≤ (128) ∧ (9999) = (tc215_0)) ∨ ((tc215_0) > (128) ∧ (9999) = (9999)) from q_2545 b78)
                    refine w_icmpge (t := 213) rfl rfl (show inr (tc172_0) from jc172_0) (show inr (tc199_0) from jc199_0) (fun b79 => ?_) (fun b79 => ?_)
                    · refine Ew_of (pcₚ := 215) (fun _ => x_iload rfl rk_s) ?_
                      exact hc215 (tc199_0) _ σ _ _  (rk_o (lc199_0) rfl rfl) (rk_o (lc199_3) rfl rfl) (rk_o (lc199_4) rfl rfl) (rk_s) H (SF_refl) (SA_refl)   (show inr (tc199_0) from jc199_0) (show ((tc172_0) ≥ (tc199_0) ∧ (tc199_0) = (tc199_0)) ∨ ((tc172_0) < (tc199_0) ∧ (tc199_0) = (tc172_0)) from q_2546 b79)
                    · refine Ew_of (pcₚ := 210) (fun _ => x_iload rfl (rk_o (lc199_4) rfl rfl)) ?_
                      refine Ew_of (pcₚ := 215) (fun _ => x_goto rfl rfl) ?_
                      exact hc215 (tc172_0) _ σ _ _  (rk_o (lc199_0) rfl rfl) (rk_o (lc199_3) rfl rfl) (rk_o (lc199_4) rfl rfl) (rk_s) H (SF_refl) (SA_refl)   (show inr (tc172_0) from jc172_0) (show ((tc172_0) ≥ (tc199_0) ∧ (tc172_0) = (tc199_0)) ∨ ((tc172_0) < (tc199_0) ∧ (tc172_0) = (tc172_0)) from q_2547 b79)
                  refine Ew_of (pcₚ := 175) (fun _ => x_iload_n rfl (rk_o (lc172_2) rfl rfl)) ?_
                  refine Ew_of (pcₚ := 176) (fun _ => x_iconst rfl) ?_
                  refine w_icmplt (t := 187) rfl rfl (show inr (x58_2) from j58_0) (show inr (2) from q_122) (fun b80 => ?_) (fun b80 => ?_)
                  · refine Ew_of (pcₚ := 190) (fun _ => x_sipush (z := 9999) rfl (by decide)) ?_
                    refine Ew_of (pcₚ := 199) (fun _ => x_goto rfl rfl) ?_
                    have : IMP (MDX ((w69)) ((u6_35))) (D5 ((w58_84)) ((y7_6_53)) 6 ((9999))) := by first | exact fun _ => D5_0 hkn (by omega) | exact fun q => D5_1 hkn (by omega) (by omega) (BYQ (CTI_AG hct) (pzMISS_3 (hmx5 q))).1
                    have : IMP (MDX ((w69)) ((u6_35))) (MDX ((wc172_69)) ((yc172_6_35))) := by first | exact hmx5 | exact fun q => by obtain ⟨C, c, _⟩ := (BYQ (CTI_AG hct) (pzMISS_3 (hmx5 q))).2; exact ⟨C, c⟩
                    exact hc199 (9999) _ σ _ _  (rk_o (lc172_0) rfl rfl) (rk_o (lc172_3) rfl rfl) (rk_s) H (SF_refl) (SA_refl) (yc172_6_35) ((eyc172_6_35)) (wc172_69) (ewc172_69) (show inr (9999) from q_2539) (show (9999) = 9999 ∨ 1 ≤ (9999) ∧ (9999) ≤ 256 ∧ 2 ≤ (x58_2) ∧ 2 ≤ (y7_6_53) from q_2548) (show IMP (MDX ((w69)) ((u6_35))) (D5 ((w58_84)) ((y7_6_53)) 6 ((9999))) by assumption) (hmx5)
                  · refine Ew_of (pcₚ := 180) (fun _ => x_aload_n rfl (rk_o (lc172_0) rfl rfl)) ?_
                    refine w_gI H (o := 6) (w := y7_6_53) rfl (H.perm 6 rfl) rfl rfl rfl (fun _ => rfl) (((((hS_c172 6 53 rfl).trans (hS_c147 6 53 rfl)).trans (hS_58 6 53 rfl)).trans (hS_34 6 53 rfl)).trans (ey7_6_53)) ?_
                    refine Ew_of (pcₚ := 184) (fun _ => x_iconst rfl) ?_
                    refine w_icmpge (t := 193) rfl rfl (show inr (y7_6_53) from q_2500 r2) (show inr (2) from q_122) (fun b81 => ?_) (fun b81 => ?_)
                    · refine Ew_of (pcₚ := 194) (fun _ => x_aload_n rfl (rk_o (lc172_0) rfl rfl)) ?_
                      refine Ew_of (pcₚ := 196) (fun _ => x_bipush (z := 6) rfl (by decide)) ?_
                      refine w_inv H (o := 6) rfl rfl rfl (H.perm 6 rfl) rfl rfl (by rfl) (M423f H (yc172_6_35) ((eyc172_6_35)) (y7_6_53) ((((((hS_c172 6 53 rfl).trans (hS_c147 6 53 rfl)).trans (hS_58 6 53 rfl)).trans (hS_34 6 53 rfl)).trans (ey7_6_53))) (wc172_69) (ewc172_69) (w58_78) ((funext (hA_c172 78 rfl)).trans ((funext (hA_c147 78 rfl)).trans (ew58_78))) (w58_84) ((funext (hA_c172 84 rfl)).trans ((funext (hA_c147 84 rfl)).trans (ew58_84))) (show inr (6) from q_756) (show 5 ≤ (6) ∧ (6) ≤ 6 from q_2104) (show 2 ≤ (y7_6_53) ∧ (y7_6_53) ≤ 255 from q_2549 b81 r2) (jnn) (show su (fun i => ((w58_78)) i) 64 = (y7_6_53) by omega) (show 2 ≤ su (fun i => pos1 (((w58_78)) i)) 64 by omega) (hcwF) (jcz) (fun z86 σ F82 A83 H hS84 hA85 y87 ey88 wq89 ewq90 pz86_0 pz86_1 pz86_2 pz86_3 pz86_4 => ⟨rfl, ?_⟩))
                      have r91 : (0 : Int) ≤ y87 ∧ y87 ≤ 100000000 := rngE (show (0 : Int) ≤ F82 6 35 ∧ F82 6 35 ≤ 100000000 from H.frng 6 35) (show F82 6 35 = y87 from (ey88))
                      have : IMP (MDX ((w69)) ((u6_35))) (D5 ((w58_84)) ((y7_6_53)) 6 ((z86))) := by first | exact fun _ => D5_0 hkn (by omega) | exact fun q => D5_1 hkn (by omega) (by omega) (BYQ (CTI_AG hct) (pz86_3 (hmx5 q))).1
                      have : IMP (MDX ((w69)) ((u6_35))) (MDX ((wq89)) ((y87))) := by first | exact hmx5 | exact fun q => by obtain ⟨C, c, _⟩ := (BYQ (CTI_AG hct) (pz86_3 (hmx5 q))).2; exact ⟨C, c⟩
                      exact hc199 (z86) _ σ _ _  (rk_o (lc172_0) rfl rfl) (rk_o (lc172_3) rfl rfl) (rk_s) H (SF_trans (SF_refl) hS84 (any_sub rfl)) (SA_trans (SA_refl) hA85 (any_subA rfl)) (y87) ((ey88)) (wq89) (ewq90) (show inr (z86) from pz86_0) (show (z86) = 9999 ∨ 1 ≤ (z86) ∧ (z86) ≤ 256 ∧ 2 ≤ (x58_2) ∧ 2 ≤ (y7_6_53) from q_2550 b80 b81 pz86_1) (show IMP (MDX ((w69)) ((u6_35))) (D5 ((w58_84)) ((y7_6_53)) 6 ((z86))) by assumption) (show IMP (MDX ((w69)) ((u6_35))) (MDX ((wq89)) ((y87))) by assumption)
                    · refine Ew_of (pcₚ := 190) (fun _ => x_sipush (z := 9999) rfl (by decide)) ?_
                      refine Ew_of (pcₚ := 199) (fun _ => x_goto rfl rfl) ?_
                      have : IMP (MDX ((w69)) ((u6_35))) (D5 ((w58_84)) ((y7_6_53)) 6 ((9999))) := by first | exact fun _ => D5_0 hkn (by omega) | exact fun q => D5_1 hkn (by omega) (by omega) (BYQ (CTI_AG hct) (pz86_3 (hmx5 q))).1
                      have : IMP (MDX ((w69)) ((u6_35))) (MDX ((wc172_69)) ((yc172_6_35))) := by first | exact hmx5 | exact fun q => by obtain ⟨C, c, _⟩ := (BYQ (CTI_AG hct) (pz86_3 (hmx5 q))).2; exact ⟨C, c⟩
                      exact hc199 (9999) _ σ _ _  (rk_o (lc172_0) rfl rfl) (rk_o (lc172_3) rfl rfl) (rk_s) H (SF_refl) (SA_refl) (yc172_6_35) ((eyc172_6_35)) (wc172_69) (ewc172_69) (show inr (9999) from q_2539) (show (9999) = 9999 ∨ 1 ≤ (9999) ∧ (9999) ≤ 256 ∧ 2 ≤ (x58_2) ∧ 2 ≤ (y7_6_53) from q_2548) (show IMP (MDX ((w69)) ((u6_35))) (D5 ((w58_84)) ((y7_6_53)) 6 ((9999))) by assumption) (hmx5)
                refine Ew_of (pcₚ := 149) (fun _ => x_iload_n rfl (rk_o (lc147_2) rfl rfl)) ?_
                refine Ew_of (pcₚ := 150) (fun _ => x_iconst rfl) ?_
                refine w_icmplt (t := 161) rfl rfl (show inr (x58_2) from j58_0) (show inr (2) from q_122) (fun b92 => ?_) (fun b92 => ?_)
                · refine Ew_of (pcₚ := 164) (fun _ => x_sipush (z := 9999) rfl (by decide)) ?_
                  refine Ew_of (pcₚ := 172) (fun _ => x_goto rfl rfl) ?_
                  have : IMP (MDX ((w69)) ((u6_35))) (D5 ((w58_84)) ((y7_6_53)) 5 ((9999))) := by first | exact fun _ => D5_0 hkn (by omega) | exact fun q => D5_1 hkn (by omega) (by omega) (BYQ (CTI_AG hct) (pzMISS_3 (hmx0 q))).1
                  have : IMP (MDX ((w69)) ((u6_35))) (MDX ((w69)) ((u6_35))) := by first | exact hmx0 | exact fun q => by obtain ⟨C, c, _⟩ := (BYQ (CTI_AG hct) (pzMISS_3 (hmx0 q))).2; exact ⟨C, c⟩
                  exact hc172 (9999) _ σ _ _  (rk_o (lc147_0) rfl rfl) (rk_o (lc147_2) rfl rfl) (rk_s) H (SF_refl) (SA_refl) (u6_35) ((((((hS_c147 6 35 rfl).trans (hS_58 6 35 rfl)).trans (hS_34 6 35 rfl)).trans (hS_7 6 35 rfl)).trans (eu6_35))) (w69) ((funext (hA_c147 69 rfl)).trans ((funext (hA_58 69 rfl)).trans ((funext (hA_34 69 rfl)).trans ((funext (hA_7 69 rfl)).trans (ew69))))) (show inr (9999) from q_2539) (show (9999) = 9999 ∨ 1 ≤ (9999) ∧ (9999) ≤ 256 ∧ 2 ≤ (x58_2) ∧ 2 ≤ (y7_6_53) from q_2548) (show IMP (MDX ((w69)) ((u6_35))) (D5 ((w58_84)) ((y7_6_53)) 5 ((9999))) by assumption) (hmx0)
                · refine Ew_of (pcₚ := 154) (fun _ => x_aload_n rfl (rk_o (lc147_0) rfl rfl)) ?_
                  refine w_gI H (o := 6) (w := y7_6_53) rfl (H.perm 6 rfl) rfl rfl rfl (fun _ => rfl) ((((hS_c147 6 53 rfl).trans (hS_58 6 53 rfl)).trans (hS_34 6 53 rfl)).trans (ey7_6_53)) ?_
                  refine Ew_of (pcₚ := 158) (fun _ => x_iconst rfl) ?_
                  refine w_icmpge (t := 167) rfl rfl (show inr (y7_6_53) from q_2500 r2) (show inr (2) from q_122) (fun b93 => ?_) (fun b93 => ?_)
                  · refine Ew_of (pcₚ := 168) (fun _ => x_aload_n rfl (rk_o (lc147_0) rfl rfl)) ?_
                    refine Ew_of (pcₚ := 169) (fun _ => x_iconst rfl) ?_
                    refine w_inv H (o := 6) rfl rfl rfl (H.perm 6 rfl) rfl rfl (by rfl) (M423f H (u6_35) ((((((hS_c147 6 35 rfl).trans (hS_58 6 35 rfl)).trans (hS_34 6 35 rfl)).trans (hS_7 6 35 rfl)).trans (eu6_35))) (y7_6_53) (((((hS_c147 6 53 rfl).trans (hS_58 6 53 rfl)).trans (hS_34 6 53 rfl)).trans (ey7_6_53))) (w69) ((funext (hA_c147 69 rfl)).trans ((funext (hA_58 69 rfl)).trans ((funext (hA_34 69 rfl)).trans ((funext (hA_7 69 rfl)).trans (ew69))))) (w58_78) ((funext (hA_c147 78 rfl)).trans (ew58_78)) (w58_84) ((funext (hA_c147 84 rfl)).trans (ew58_84)) (show inr (5) from q_727) (show 5 ≤ (5) ∧ (5) ≤ 6 from q_2106) (show 2 ≤ (y7_6_53) ∧ (y7_6_53) ≤ 255 from q_2549 b93 r2) (jnn) (show su (fun i => ((w58_78)) i) 64 = (y7_6_53) by omega) (show 2 ≤ su (fun i => pos1 (((w58_78)) i)) 64 by omega) (hcwF) (jcz) (fun z98 σ F94 A95 H hS96 hA97 y99 ey100 wq101 ewq102 pz98_0 pz98_1 pz98_2 pz98_3 pz98_4 => ⟨rfl, ?_⟩))
                    have r103 : (0 : Int) ≤ y99 ∧ y99 ≤ 100000000 := rngE (show (0 : Int) ≤ F94 6 35 ∧ F94 6 35 ≤ 100000000 from H.frng 6 35) (show F94 6 35 = y99 from (ey100))
                    have : IMP (MDX ((w69)) ((u6_35))) (D5 ((w58_84)) ((y7_6_53)) 5 ((z98))) := by first | exact fun _ => D5_0 hkn (by omega) | exact fun q => D5_1 hkn (by omega) (by omega) (BYQ (CTI_AG hct) (pz98_3 (hmx0 q))).1
                    have : IMP (MDX ((w69)) ((u6_35))) (MDX ((wq101)) ((y99))) := by first | exact hmx0 | exact fun q => by obtain ⟨C, c, _⟩ := (BYQ (CTI_AG hct) (pz98_3 (hmx0 q))).2; exact ⟨C, c⟩
                    exact hc172 (z98) _ σ _ _  (rk_o (lc147_0) rfl rfl) (rk_o (lc147_2) rfl rfl) (rk_s) H (SF_trans (SF_refl) hS96 (any_sub rfl)) (SA_trans (SA_refl) hA97 (any_subA rfl)) (y99) ((ey100)) (wq101) (ewq102) (show inr (z98) from pz98_0) (show (z98) = 9999 ∨ 1 ≤ (z98) ∧ (z98) ≤ 256 ∧ 2 ≤ (x58_2) ∧ 2 ≤ (y7_6_53) from q_2550 b92 b93 pz98_1) (show IMP (MDX ((w69)) ((u6_35))) (D5 ((w58_84)) ((y7_6_53)) 5 ((z98))) by assumption) (show IMP (MDX ((w69)) ((u6_35))) (MDX ((wq101)) ((y99))) by assumption)
                  · refine Ew_of (pcₚ := 164) (fun _ => x_sipush (z := 9999) rfl (by decide)) ?_
                    refine Ew_of (pcₚ := 172) (fun _ => x_goto rfl rfl) ?_
                    have : IMP (MDX ((w69)) ((u6_35))) (D5 ((w58_84)) ((y7_6_53)) 5 ((9999))) := by first | exact fun _ => D5_0 hkn (by omega) | exact fun q => D5_1 hkn (by omega) (by omega) (BYQ (CTI_AG hct) (pz98_3 (hmx0 q))).1
                    have : IMP (MDX ((w69)) ((u6_35))) (MDX ((w69)) ((u6_35))) := by first | exact hmx0 | exact fun q => by obtain ⟨C, c, _⟩ := (BYQ (CTI_AG hct) (pz98_3 (hmx0 q))).2; exact ⟨C, c⟩
                    exact hc172 (9999) _ σ _ _  (rk_o (lc147_0) rfl rfl) (rk_o (lc147_2) rfl rfl) (rk_s) H (SF_refl) (SA_refl) (u6_35) ((((((hS_c147 6 35 rfl).trans (hS_58 6 35 rfl)).trans (hS_34 6 35 rfl)).trans (hS_7 6 35 rfl)).trans (eu6_35))) (w69) ((funext (hA_c147 69 rfl)).trans ((funext (hA_58 69 rfl)).trans ((funext (hA_34 69 rfl)).trans ((funext (hA_7 69 rfl)).trans (ew69))))) (show inr (9999) from q_2539) (show (9999) = 9999 ∨ 1 ≤ (9999) ∧ (9999) ≤ 256 ∧ 2 ≤ (x58_2) ∧ 2 ≤ (y7_6_53) from q_2548) (show IMP (MDX ((w69)) ((u6_35))) (D5 ((w58_84)) ((y7_6_53)) 5 ((9999))) by assumption) (hmx0)
              refine w_icmple (t := 137) rfl rfl (show inr (y7_6_53) from q_2500 r2) (show inr (128) from q_313) (fun b104 => ?_) (fun b104 => ?_)
              · refine Ew_of (pcₚ := 138) (fun _ => x_iconst rfl) ?_
                refine Ew_of (pcₚ := 139) (fun _ => x_aload_n rfl l58_0) ?_
                refine w_gI H (o := 6) (w := y7_6_53) rfl (H.perm 6 rfl) rfl rfl rfl (fun _ => rfl) (((hS_58 6 53 rfl).trans (hS_34 6 53 rfl)).trans (ey7_6_53)) ?_
                refine Ew_of (pcₚ := 143) (fun _ => x_iconst rfl) ?_
                refine w_iadd rfl ?_
                refine Ew_of (pcₚ := 145) (fun _ => x_iconst rfl) ?_
                refine w_idiv rfl (show inr ((y7_6_53 + 1)) ∧ 0 ≤ (y7_6_53 + 1) from q_2551 b104 r2) (show inr (2) ∧ 0 < 2 from q_1234) ?_
                refine w_iadd rfl ?_
                exact hc147 ((1 + ((y7_6_53 + 1) / 2))) _ σ _ _  (l58_0) (l58_2) H (SF_refl) (SA_refl)   (show inr ((1 + ((y7_6_53 + 1) / 2))) from q_2553 b104 r2) (show ((y7_6_53) ≤ (128) ∧ ((1 + ((y7_6_53 + 1) / 2))) = ((1 + ((y7_6_53 + 1) / 2)))) ∨ ((y7_6_53) > (128) ∧ ((1 + ((y7_6_53 + 1) / 2))) = (9999)) from q_2552 b104)
              · refine Ew_of (pcₚ := 134) (fun _ => x_sipush (z := 9999) rfl (by decide)) ?_
                refine Ew_of (pcₚ := 147) (fun _ => x_goto rfl rfl) ?_
                exact hc147 (9999) _ σ _ _  (l58_0) (l58_2) H (SF_refl) (SA_refl)   (show inr (9999) from q_2539) (show ((y7_6_53) ≤ (128) ∧ (9999) = ((1 + ((y7_6_53 + 1) / 2)))) ∨ ((y7_6_53) > (128) ∧ (9999) = (9999)) from q_2554 b104)
            · have hcb := hci.2.2.1 ((x58_3)) (by omega) (by omega)
              refine Ew_of (pcₚ := 67) (fun _ => x_aload_n rfl l58_0) ?_
              refine w_gT H (o := 6) (t := 84) rfl (H.perm 6 rfl) rfl rfl rfl rfl rfl rfl ?_
              refine Ew_of (pcₚ := 71) (fun _ => x_iload_n rfl l58_3) ?_
              refine Ew_of (pcₚ := 72) (fun _ => x_aload_n rfl l58_0) ?_
              refine Ew_of (pcₚ := 73) (fun _ => x_iload_n rfl l58_3) ?_
              refine Ew_of (pcₚ := 74) (fun _ => x_iload_n rfl l58_1) ?_
              refine w_inv H (o := 6) rfl rfl rfl (H.perm 6 rfl) rfl rfl (by rfl) (M421 H (w82) ((funext (hA_58 82 rfl)).trans ((funext (hA_34 82 rfl)).trans ((funext (hA_7 82 rfl)).trans (ew82)))) (show inr (x58_3) from j58_1) (show inr (a1) from h0) (show 0 ≤ (x58_3) ∧ (x58_3) ≤ 255 from q_2556 b6 j58_2 r2) (show 0 ≤ (a1) ∧ (a1) ≤ 11 from q_2555 h1) (show BD ((w82)) by assumption) (fun z109 σ F105 A106 H hS107 hA108 pz109_0 pz109_1 => ⟨rfl, ?_⟩))
              have hz77 : 0 ≤ (z109) ∧ (z109) ≤ 11 := by omega
              have hwq : ((z109) : Int) = wtF ((w82)) ((a1)) ql3 := by rw [hql3]; have := wtF_eq ((w82)) ((a1)) ((x58_3)); omega
              refine w_sI H (o := 84) (n := 257) rfl (H.perm 84 rfl) rfl rfl (H.fix 84 rfl rfl) (show 0 ≤ x58_3 ∧ x58_3 < ((257 : Nat) : Int) from q_2558 b6 j58_2 r2) (by decide) (show (-2147483648 : Int) ≤ z109 ∧ z109 ≤ 2147483647 from q_2557 hz77) (fun σ H => ?_)
              refine Ew_of (pcₚ := 79) (fun _ => x_aload_n rfl l58_0) ?_
              refine w_gT H (o := 6) (t := 78) rfl (H.perm 6 rfl) rfl rfl rfl rfl rfl rfl ?_
              refine Ew_of (pcₚ := 83) (fun _ => x_aload_n rfl l58_0) ?_
              refine w_gT H (o := 6) (t := 84) rfl (H.perm 6 rfl) rfl rfl rfl rfl rfl rfl ?_
              refine Ew_of (pcₚ := 87) (fun _ => x_iload_n rfl l58_3) ?_
              refine w_lI H (o := 84) (n := 257) rfl (H.perm 84 rfl) rfl rfl (H.fix 84 rfl rfl) (show 0 ≤ x58_3 ∧ x58_3 < ((257 : Nat) : Int) from q_2558 b6 j58_2 r2) (by decide) (fun v110 ev110 qv110 => ?_)
              have qv110 : (-2147483648 : Int) ≤ v110 ∧ v110 ≤ 2147483647 := qv110
              have ev110 : (upd1 (w58_84) (x58_3) (z109)) (x58_3) = v110 := (congrFun (congrArg (fun q => upd1 q (x58_3) (z109)) ((funext (hA108 84 rfl)).trans (ew58_84))) (x58_3)).symm.trans ev110
              have hv1 := ev110
              rw [upd1_s] at hv1
              have hn1 := jnn ((v110)) (by omega) (by omega)
              have hk1 : ∀ q, q = (v110) → ((w58_78)) q = ((w58_78)) ((v110)) := fun q e => by rw [e]
              refine w_lI H (o := 78) (n := 256) rfl (H.perm 78 rfl) rfl rfl (H.fix 78 rfl rfl) (show 0 ≤ v110 ∧ v110 < ((256 : Nat) : Int) by omega) (by decide) (fun v111 ev111 qv111 => ?_)
              have qv111 : (-2147483648 : Int) ≤ v111 ∧ v111 ≤ 2147483647 := qv111
              have ev111 : (w58_78) (v110) = v111 := (congrFun ((funext (hA108 78 rfl)).trans (ew58_78)) (v110)).symm.trans ev111
              have hc89 := ev111
              refine w_ifne (t := 98) rfl rfl (show inr (v111) from q_18 qv111) (fun b112 => ?_) (fun b112 => ?_)
              · refine Ew_of (pcₚ := 99) (fun _ => x_iload_n rfl l58_2) ?_
                refine Ew_of (pcₚ := 100) (fun _ => x_istore_n rfl) ?_
                refine Ew_of (pcₚ := 101) (fun _ => x_aload_n rfl (rk_o (l58_0) rfl rfl)) ?_
                refine w_gT H (o := 6) (t := 78) rfl (H.perm 6 rfl) rfl rfl rfl rfl rfl rfl ?_
                refine Ew_of (pcₚ := 105) (fun _ => x_aload_n rfl (rk_o (l58_0) rfl rfl)) ?_
                refine w_gT H (o := 6) (t := 84) rfl (H.perm 6 rfl) rfl rfl rfl rfl rfl rfl ?_
                refine Ew_of (pcₚ := 109) (fun _ => x_iload_n rfl (rk_o (l58_3) rfl rfl)) ?_
                refine w_lI H (o := 84) (n := 257) rfl (H.perm 84 rfl) rfl rfl (H.fix 84 rfl rfl) (show 0 ≤ x58_3 ∧ x58_3 < ((257 : Nat) : Int) from q_2558 b6 j58_2 r2) (by decide) (fun v113 ev113 qv113 => ?_)
                have qv113 : (-2147483648 : Int) ≤ v113 ∧ v113 ≤ 2147483647 := qv113
                have ev113 : (upd1 (w58_84) (x58_3) (z109)) (x58_3) = v113 := (congrFun (congrArg (fun q => upd1 q (x58_3) (z109)) ((funext (hA108 84 rfl)).trans (ew58_84))) (x58_3)).symm.trans ev113
                have hv2 := ev113
                rw [upd1_s] at hv2
                have hn2 := jnn ((v113)) (by omega) (by omega)
                have hu2 := jup ((v113)) (by omega) (by omega)
                have hs1 := su_upd1 (g := (w58_78)) (fun x => x) (j := (v113)) (v := ((w58_78)) ((v113)) + 1) (n := 64) (by omega) (by omega)
                have hs2 := su_upd1 (g := (w58_78)) pos1 (j := (v113)) (v := ((w58_78)) ((v113)) + 1) (n := 64) (by omega) (by omega)
                have hp1 := pos1_eq (((w58_78)) ((v113)))
                have hp2 := pos1_eq (((w58_78)) ((v113)) + 1)
                have hcc := hk1 ((v113)) (by omega)
                refine Ew_of (pcₚ := 111) (fun _ => x_dup2 rfl rfl rfl) ?_
                refine w_lI H (o := 78) (n := 256) rfl (H.perm 78 rfl) rfl rfl (H.fix 78 rfl rfl) (show 0 ≤ v113 ∧ v113 < ((256 : Nat) : Int) by omega) (by decide) (fun v114 ev114 qv114 => ?_)
                have qv114 : (-2147483648 : Int) ≤ v114 ∧ v114 ≤ 2147483647 := qv114
                have ev114 : (w58_78) (v113) = v114 := (congrFun ((funext (hA108 78 rfl)).trans (ew58_78)) (v113)).symm.trans ev114
                refine Ew_of (pcₚ := 113) (fun _ => x_iconst rfl) ?_
                refine w_iadd rfl ?_
                have hxx : ((v114 + 1)) = ((w58_78)) ((v113)) + 1 := q_11 ev114
                rw [← hxx] at hs1 hs2 hp2
                have hcw2 : CW (upd1 ((w58_78)) ((v113)) (((v114 + 1)))) ((upd1 (w58_84) (x58_3) (z109))) ((x58_3) + 1) 11 := by rw [hv2]; exact CW_next jcw rfl (by omega) (by omega) (by omega) (by omega)
                have hcz2 : CZ (upd1 ((w58_78)) ((v113)) (((v114 + 1)))) 11 := CZ_upd jcz (by omega)
                have : ∀ i, (0 : Int) ≤ i → i < 64 → 0 ≤ (upd1 ((w58_78)) ((v113)) (((v114 + 1)))) i := fun i a b => by by_cases e : i = (v113); (rw [e, upd1_s]; omega); (rw [upd1_o e]; exact jnn i a b)
                have : ∀ i, (0 : Int) ≤ i → i < 64 → (upd1 ((w58_78)) ((v113)) (((v114 + 1)))) i ≤ (x58_3) + 1 := fun i a b => by by_cases e : i = (v113); (rw [e, upd1_s]; omega); (rw [upd1_o e]; have := jup i a b; omega)
                refine w_sI H (o := 78) (n := 256) rfl (H.perm 78 rfl) rfl rfl (H.fix 78 rfl rfl) (show 0 ≤ v113 ∧ v113 < ((256 : Nat) : Int) by omega) (by decide) (show (-2147483648 : Int) ≤ (v114 + 1) ∧ (v114 + 1) ≤ 2147483647 by omega) (fun σ H => ?_)
                refine Ew_of (pcₚ := 118) (fun _ => x_iinc (len := 3) rfl (rk_o (l58_3) rfl rfl)) ?_
                refine Ew_of (pcₚ := 58) (fun _ => x_goto rfl rfl) ?_
                have : ∀ i, 0 ≤ i → i < ((x58_3 + 1)) → ((upd1 (w58_84) (x58_3) (z109))) i = wtF ((w82)) ((a1)) i := fun i a b => by by_cases q : i = ql3; (rw [q, hql3, upd1_s, ← hql3]; exact hwq); (rw [upd1_o (by rw [← hql3]; exact q)]; exact j58_w i a (by omega))
                have : CTI ((upd1 (w58_84) (x58_3) (z109))) ((upd1 (w58_78) (v113) ((v114 + 1)))) (((x58_3 + 1))) := by rw [hv2]; exact CTI_s j58_c (by omega) (by omega) hxx rfl
                have : KND ((upd1 (w58_84) (x58_3) (z109))) (((x58_3 + 1))) ((x58_2)) := by rw [hv2]; exact KND_s j58_k j58_c (by omega) (by omega) (by omega) rfl
                exact ih58 _ (msE hm58 q_16 (q_17 b6)) _ σ _ _ (x58_2) ((x58_3 + 1)) (rk_o (rk_o (l58_0) rfl rfl) rfl rfl) (rk_o (rk_o (l58_1) rfl rfl) rfl rfl) (rk_o (rk_s) rfl rfl) (rk_s) H (SF_trans (hS_58) hS107 (any_sub rfl)) (SA_upd (SA_upd (SA_trans (hA_58) hA108 (any_subA rfl)) rfl) rfl)  (upd1 (w58_78) (v113) ((v114 + 1))) (congrArg (fun q => upd1 q (v113) ((v114 + 1))) ((funext (hA108 78 rfl)).trans (ew58_78))) (upd1 (w58_84) (x58_3) (z109)) (congrArg (fun q => upd1 q (x58_3) (z109)) ((funext (hA108 84 rfl)).trans (ew58_84))) (show inr (x58_2) from j58_0) (show inr ((x58_3 + 1)) from q_2560 b6 j58_2 r2) (show (0) ≤ ((x58_3 + 1)) from q_14 j58_2) (show ((x58_3 + 1)) ≤ (0) ∨ ((x58_3 + 1)) ≤ ((y7_6_53)) from q_13 b6) (show su (fun i => ((upd1 (w58_78) (v113) ((v114 + 1)))) i) 64 = ((x58_3 + 1)) by omega) (show su (fun i => pos1 (((upd1 (w58_78) (v113) ((v114 + 1)))) i)) 64 = (x58_2) by omega) (show ∀ i, (0 : Int) ≤ i → i < 64 → 0 ≤ ((upd1 (w58_78) (v113) ((v114 + 1)))) i by assumption) (hcw2) (hcz2) (show 0 ≤ (x58_2) ∧ (x58_2) ≤ ((x58_3 + 1)) from q_2559 j58_9) (show ∀ i, (0 : Int) ≤ i → i < 64 → ((upd1 (w58_78) (v113) ((v114 + 1)))) i ≤ ((x58_3 + 1)) by assumption) (show ∀ i, 0 ≤ i → i < ((x58_3 + 1)) → ((upd1 (w58_84) (x58_3) (z109))) i = wtF ((w82)) ((a1)) i by assumption) (show CTI ((upd1 (w58_84) (x58_3) (z109))) ((upd1 (w58_78) (v113) ((v114 + 1)))) (((x58_3 + 1))) by assumption) (show KND ((upd1 (w58_84) (x58_3) (z109))) (((x58_3 + 1))) ((x58_2)) by assumption) rfl
              · refine Ew_of (pcₚ := 93) (fun _ => x_iload_n rfl l58_2) ?_
                refine Ew_of (pcₚ := 94) (fun _ => x_iconst rfl) ?_
                refine w_iadd rfl ?_
                refine Ew_of (pcₚ := 99) (fun _ => x_goto rfl rfl) ?_
                refine Ew_of (pcₚ := 100) (fun _ => x_istore_n rfl) ?_
                refine Ew_of (pcₚ := 101) (fun _ => x_aload_n rfl (rk_o (l58_0) rfl rfl)) ?_
                refine w_gT H (o := 6) (t := 78) rfl (H.perm 6 rfl) rfl rfl rfl rfl rfl rfl ?_
                refine Ew_of (pcₚ := 105) (fun _ => x_aload_n rfl (rk_o (l58_0) rfl rfl)) ?_
                refine w_gT H (o := 6) (t := 84) rfl (H.perm 6 rfl) rfl rfl rfl rfl rfl rfl ?_
                refine Ew_of (pcₚ := 109) (fun _ => x_iload_n rfl (rk_o (l58_3) rfl rfl)) ?_
                refine w_lI H (o := 84) (n := 257) rfl (H.perm 84 rfl) rfl rfl (H.fix 84 rfl rfl) (show 0 ≤ x58_3 ∧ x58_3 < ((257 : Nat) : Int) from q_2558 b6 j58_2 r2) (by decide) (fun v115 ev115 qv115 => ?_)
                have qv115 : (-2147483648 : Int) ≤ v115 ∧ v115 ≤ 2147483647 := qv115
                have ev115 : (upd1 (w58_84) (x58_3) (z109)) (x58_3) = v115 := (congrFun (congrArg (fun q => upd1 q (x58_3) (z109)) ((funext (hA108 84 rfl)).trans (ew58_84))) (x58_3)).symm.trans ev115
                have hv2 := ev115
                rw [upd1_s] at hv2
                have hn2 := jnn ((v115)) (by omega) (by omega)
                have hu2 := jup ((v115)) (by omega) (by omega)
                have hs1 := su_upd1 (g := (w58_78)) (fun x => x) (j := (v115)) (v := ((w58_78)) ((v115)) + 1) (n := 64) (by omega) (by omega)
                have hs2 := su_upd1 (g := (w58_78)) pos1 (j := (v115)) (v := ((w58_78)) ((v115)) + 1) (n := 64) (by omega) (by omega)
                have hp1 := pos1_eq (((w58_78)) ((v115)))
                have hp2 := pos1_eq (((w58_78)) ((v115)) + 1)
                have hcc := hk1 ((v115)) (by omega)
                refine Ew_of (pcₚ := 111) (fun _ => x_dup2 rfl rfl rfl) ?_
                refine w_lI H (o := 78) (n := 256) rfl (H.perm 78 rfl) rfl rfl (H.fix 78 rfl rfl) (show 0 ≤ v115 ∧ v115 < ((256 : Nat) : Int) by omega) (by decide) (fun v116 ev116 qv116 => ?_)
                have qv116 : (-2147483648 : Int) ≤ v116 ∧ v116 ≤ 2147483647 := qv116
                have ev116 : (w58_78) (v115) = v116 := (congrFun ((funext (hA108 78 rfl)).trans (ew58_78)) (v115)).symm.trans ev116
                refine Ew_of (pcₚ := 113) (fun _ => x_iconst rfl) ?_
                refine w_iadd rfl ?_
                have hxx : ((v116 + 1)) = ((w58_78)) ((v115)) + 1 := q_11 ev116
                rw [← hxx] at hs1 hs2 hp2
                have hcw2 : CW (upd1 ((w58_78)) ((v115)) (((v116 + 1)))) ((upd1 (w58_84) (x58_3) (z109))) ((x58_3) + 1) 11 := by rw [hv2]; exact CW_next jcw rfl (by omega) (by omega) (by omega) (by omega)
                have hcz2 : CZ (upd1 ((w58_78)) ((v115)) (((v116 + 1)))) 11 := CZ_upd jcz (by omega)
                have : ∀ i, (0 : Int) ≤ i → i < 64 → 0 ≤ (upd1 ((w58_78)) ((v115)) (((v116 + 1)))) i := fun i a b => by by_cases e : i = (v115); (rw [e, upd1_s]; omega); (rw [upd1_o e]; exact jnn i a b)
                have : ∀ i, (0 : Int) ≤ i → i < 64 → (upd1 ((w58_78)) ((v115)) (((v116 + 1)))) i ≤ (x58_3) + 1 := fun i a b => by by_cases e : i = (v115); (rw [e, upd1_s]; omega); (rw [upd1_o e]; have := jup i a b; omega)
                refine w_sI H (o := 78) (n := 256) rfl (H.perm 78 rfl) rfl rfl (H.fix 78 rfl rfl) (show 0 ≤ v115 ∧ v115 < ((256 : Nat) : Int) by omega) (by decide) (show (-2147483648 : Int) ≤ (v116 + 1) ∧ (v116 + 1) ≤ 2147483647 by omega) (fun σ H => ?_)
                refine Ew_of (pcₚ := 118) (fun _ => x_iinc (len := 3) rfl (rk_o (l58_3) rfl rfl)) ?_
                refine Ew_of (pcₚ := 58) (fun _ => x_goto rfl rfl) ?_
                have : ∀ i, 0 ≤ i → i < ((x58_3 + 1)) → ((upd1 (w58_84) (x58_3) (z109))) i = wtF ((w82)) ((a1)) i := fun i a b => by by_cases q : i = ql3; (rw [q, hql3, upd1_s, ← hql3]; exact hwq); (rw [upd1_o (by rw [← hql3]; exact q)]; exact j58_w i a (by omega))
                have : CTI ((upd1 (w58_84) (x58_3) (z109))) ((upd1 (w58_78) (v115) ((v116 + 1)))) (((x58_3 + 1))) := by rw [hv2]; exact CTI_s j58_c (by omega) (by omega) hxx rfl
                have : KND ((upd1 (w58_84) (x58_3) (z109))) (((x58_3 + 1))) (((x58_2 + 1))) := by rw [hv2]; exact KND_s j58_k j58_c (by omega) (by omega) (by omega) rfl
                exact ih58 _ (msE hm58 q_16 (q_17 b6)) _ σ _ _ ((x58_2 + 1)) ((x58_3 + 1)) (rk_o (rk_o (l58_0) rfl rfl) rfl rfl) (rk_o (rk_o (l58_1) rfl rfl) rfl rfl) (rk_o (rk_s) rfl rfl) (rk_s) H (SF_trans (hS_58) hS107 (any_sub rfl)) (SA_upd (SA_upd (SA_trans (hA_58) hA108 (any_subA rfl)) rfl) rfl)  (upd1 (w58_78) (v115) ((v116 + 1))) (congrArg (fun q => upd1 q (v115) ((v116 + 1))) ((funext (hA108 78 rfl)).trans (ew58_78))) (upd1 (w58_84) (x58_3) (z109)) (congrArg (fun q => upd1 q (x58_3) (z109)) ((funext (hA108 84 rfl)).trans (ew58_84))) (show inr ((x58_2 + 1)) from q_2561 b6 j58_9 r2) (show inr ((x58_3 + 1)) from q_2560 b6 j58_2 r2) (show (0) ≤ ((x58_3 + 1)) from q_14 j58_2) (show ((x58_3 + 1)) ≤ (0) ∨ ((x58_3 + 1)) ≤ ((y7_6_53)) from q_13 b6) (show su (fun i => ((upd1 (w58_78) (v115) ((v116 + 1)))) i) 64 = ((x58_3 + 1)) by omega) (show su (fun i => pos1 (((upd1 (w58_78) (v115) ((v116 + 1)))) i)) 64 = ((x58_2 + 1)) by omega) (show ∀ i, (0 : Int) ≤ i → i < 64 → 0 ≤ ((upd1 (w58_78) (v115) ((v116 + 1)))) i by assumption) (hcw2) (hcz2) (show 0 ≤ ((x58_2 + 1)) ∧ ((x58_2 + 1)) ≤ ((x58_3 + 1)) from q_1465 j58_9) (show ∀ i, (0 : Int) ≤ i → i < 64 → ((upd1 (w58_78) (v115) ((v116 + 1)))) i ≤ ((x58_3 + 1)) by assumption) (show ∀ i, 0 ≤ i → i < ((x58_3 + 1)) → ((upd1 (w58_84) (x58_3) (z109))) i = wtF ((w82)) ((a1)) i by assumption) (show CTI ((upd1 (w58_84) (x58_3) (z109))) ((upd1 (w58_78) (v115) ((v116 + 1)))) (((x58_3 + 1))) by assumption) (show KND ((upd1 (w58_84) (x58_3) (z109))) (((x58_3 + 1))) (((x58_2 + 1))) by assumption) rfl
        · refine Ew_of (pcₚ := 42) (fun _ => x_aload_n rfl l34_0) ?_
          refine w_gT H (o := 6) (t := 78) rfl (H.perm 6 rfl) rfl rfl rfl rfl rfl rfl ?_
          refine Ew_of (pcₚ := 46) (fun _ => x_iload_n rfl l34_2) ?_
          refine Ew_of (pcₚ := 47) (fun _ => x_iconst rfl) ?_
          refine w_sI H (o := 78) (n := 256) rfl (H.perm 78 rfl) rfl rfl (H.fix 78 rfl rfl) (show 0 ≤ x34_2 ∧ x34_2 < ((256 : Nat) : Int) from q_23 b5 j34_1) (by decide) (show (-2147483648 : Int) ≤ 0 ∧ 0 ≤ 2147483647 from q_22) (fun σ H => ?_)
          refine Ew_of (pcₚ := 51) (fun _ => x_iinc (len := 3) rfl (l34_2)) ?_
          refine Ew_of (pcₚ := 34) (fun _ => x_goto rfl rfl) ?_
          have : ∀ i, (0 : Int) ≤ i → i < ((x34_2 + 1)) → ((upd1 (w34_78) (x34_2) (0))) (0 + i) = 0 := share_z j34_3
          exact ih34 _ (msE hm34 q_26 (q_27 b5)) _ σ _ _ ((x34_2 + 1)) (rk_o (l34_0) rfl rfl) (rk_o (l34_1) rfl rfl) (rk_s) H (hS_34) (SA_upd (hA_34) rfl)  (upd1 (w34_78) (x34_2) (0)) (congrArg (fun q => upd1 q (x34_2) (0)) (ew34_78)) (show inr ((x34_2 + 1)) from q_25 b5 j34_1) (show (0) ≤ ((x34_2 + 1)) from q_14 j34_1) (show ((x34_2 + 1)) ≤ (0) ∨ ((x34_2 + 1)) ≤ ((256)) from q_24 b5) (show ∀ i, 0 ≤ i → i < ((x34_2 + 1)) → ((upd1 (w34_78) (x34_2) (0))) (0 + i) = 0 by assumption) rfl
    · obtain ⟨qk, hqk⟩ : ∃ q : Int, q = (y7_6_53) := ⟨_, rfl⟩
      have hzk : ((w82)) qk = 0 := by rw [hqk, he16]; omega
      refine Ew_of (pcₚ := 20) (fun _ => x_aload_n rfl l7_0) ?_
      refine Ew_of (pcₚ := 21) (fun _ => x_dup rfl rfl) ?_
      refine w_gI H (o := 6) (w := y7_6_53) rfl (H.perm 6 rfl) rfl rfl rfl (fun _ => rfl) (ey7_6_53) ?_
      refine Ew_of (pcₚ := 25) (fun _ => x_iconst rfl) ?_
      refine w_isub rfl ?_
      refine w_pI H (o := 6) rfl rfl (H.perm 6 rfl) rfl rfl rfl (fun _ => rfl) rfl (show (-1 : Int) ≤ (y7_6_53 - 1) ∧ (y7_6_53 - 1) ≤ 255 from q_2562 j7_0 r2) (fun σ H => ?_)
      refine Ew_of (pcₚ := 7) (fun _ => x_goto rfl rfl) ?_
      have : EXN ((w82)) (((y7_6_53 - 1))) := EXN_less (show EXN ((w82)) _ from by assumption) (by omega) (by omega)
      have := EXN_nn (show EXN ((w82)) (((y7_6_53 - 1))) from by assumption)
      have : ∀ i, ((y7_6_53 - 1)) < i → i < 256 → ((w82)) i = 0 := fun i a b => by by_cases q : i = qk; (rw [q]; exact hzk); exact j7_z i (by omega) b
      exact ih7 _ (msE hm7 q_2563 (q_2564 j7_0)) _ σ _ _  (l7_0) (l7_1) H (SF_upd (hS_7) rfl) (hA_7) ((y7_6_53 - 1)) (rfl)  (show 0 ≤ ((y7_6_53 - 1)) ∧ ((y7_6_53 - 1)) ≤ 255 by omega) (show EXN ((w82)) (((y7_6_53 - 1))) by assumption) (show ∀ i, ((y7_6_53 - 1)) < i → i < 256 → ((w82)) i = 0 by assumption) rfl

