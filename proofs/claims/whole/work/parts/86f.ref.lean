/-- Writer.byStates -/
theorem M423f {σ0 σ : rS} {D N : Nat → Nat} {F : hF} {A : hA} {d c s : Nat} {Q : wQ} (H : HS σ0 σ D N F A) {a1 : Int} (u6_35 : Int) (eu6_35 : F 6 35 = u6_35) (u6_53 : Int) (eu6_53 : F 6 53 = u6_53) (w69 : Int → Int) (ew69 : A 69 = w69) (w78 : Int → Int) (ew78 : A 78 = w78) (w84 : Int → Int) (ew84 : A 84 = w84) (h0 : inr (a1)) (h1 : 5 ≤ (a1) ∧ (a1) ≤ 6) (h2 : 2 ≤ (u6_53) ∧ (u6_53) ≤ 255) (h3 : ∀ i, (0 : Int) ≤ i → i < 64 → 0 ≤ ((w78)) i) (h4 : su (fun i => ((w78)) i) 64 = (u6_53)) (h5 : 2 ≤ su (fun i => pos1 (((w78)) i)) 64) (h6 : CW ((w78)) ((w84)) ((u6_53)) 11) (h7 : CZ ((w78)) 11) (k : ∀ (z : Int) σ F' A', HS σ0 σ D N F' A' → SF [(6, 35)] F F' → SA [69, 71, 72, 73, 74, 75, 76, 77] A A' → ∀ y6_35 : Int, F' 6 35 = y6_35 → ∀ v69 : Int → Int, A' 69 = v69 → (inr (z)) → (1 ≤ (z) ∧ (z) ≤ 256) → (0 ≤ (y6_35) ∧ (y6_35) ≤ 2047) → (IMP (MDX ((w69)) ((u6_35))) (∃ C, MDB ((v69)) ((y6_35)) C ∧ (C.length : Int) = (y6_35) ∧ byw C = [(z) - 1] ++ (byw (STB (dvP ((w78)) ((u6_53)) (p2 ((a1)))) ((a1))) ++ byw (WSB (((a1), 12, (dvP ((w78)) ((u6_53)) (p2 ((a1))))) : Tb) ((w84)) ((u6_53)))) ∧ ((byw (STB (dvP ((w78)) ((u6_53)) (p2 ((a1)))) ((a1))) ++ byw (WSB (((a1), 12, (dvP ((w78)) ((u6_53)) (p2 ((a1))))) : Tb) ((w84)) ((u6_53)))).length : Int) = (z) - 1)) → ((y6_35) = 8 * (z)) → Q (some (I z)) σ c s) : Ew 423 (d + 2) 0 (rargs 0 [.ref (D 6), I a1]) [] σ c s Q := by
  have r1 : (0 : Int) ≤ u6_35 ∧ u6_35 ≤ 100000000 := by have h1 : (0 : Int) ≤ F 6 35 ∧ F 6 35 ≤ 100000000 := H.frng 6 35; rw [show F 6 35 = u6_35 from (eu6_35)] at h1; exact h1
  have r2 : (-1 : Int) ≤ u6_53 ∧ u6_53 ≤ 255 := by have h1 : (-1 : Int) ≤ F 6 53 ∧ F 6 53 ≤ 255 := H.frng 6 53; rw [show F 6 53 = u6_53 from (eu6_53)] at h1; exact h1
  have hp5 := p2_5 (o := (a1)) (by omega)
  have hcz : CZ ((w78)) 11 := by assumption
  have hcw : CW ((w78)) ((w84)) ((u6_53)) 11 := by assumption
  have hcp := CZ_pos hcz (by omega) (by omega)
  refine Ew_of (pc' := 1) (fun _ => x_aload_n rfl rfl) ?_
  refine w_inv H (o := 6) rfl rfl rfl (H.perm 6 rfl) rfl rfl (by rfl) (M391 H (u6_35) ((eu6_35)) (w69) (ew69)  (fun σ F3 A4 H hS5 hA6 y8 ey9 wq10 ewq11 pz7_0 pz7_1 => ⟨rfl, ?_⟩))
  have r12 : (0 : Int) ≤ y8 ∧ y8 ≤ 100000000 := by have h1 : (0 : Int) ≤ F3 6 35 ∧ F3 6 35 ≤ 100000000 := H.frng 6 35; rw [show F3 6 35 = y8 from (ey9)] at h1; exact h1
  have hb4 := pz7_1
  refine Ew_of (pc' := 5) (fun _ => x_aload_n rfl rfl) ?_
  refine Ew_of (pc' := 6) (fun _ => x_iconst rfl) ?_
  refine Ew_of (pc' := 8) (fun _ => x_bipush (z := 8) rfl (by decide)) ?_
  refine w_inv H (o := 6) rfl rfl rfl (H.perm 6 rfl) rfl rfl (by rfl) (M389 H (y8) ((ey9)) (wq10) (ewq11) (show inr (0) by omega) (show inr (8) by omega) (show 0 ≤ (8) ∧ (8) ≤ 31 by omega) (show 0 ≤ (y8) ∧ (y8) ≤ 90000000 by omega) (fun σ F13 A14 H hS15 hA16 y18 ey19 wq20 ewq21 pz17_0 pz17_1 => ⟨rfl, ?_⟩))
  have r22 : (0 : Int) ≤ y18 ∧ y18 ≤ 100000000 := by have h1 : (0 : Int) ≤ F13 6 35 ∧ F13 6 35 ≤ 100000000 := H.frng 6 35; rw [show F13 6 35 = y18 from (ey19)] at h1; exact h1
  have hb11 : IMP (MDX ((w69)) ((u6_35))) (MDB ((wq20)) ((y18)) (btw 0 8)) := fun q => by have h := pz17_1 (by omega) [] (hb4 q); rw [List.nil_append] at h; exact h
  refine Ew_of (pc' := 12) (fun _ => x_aload_n rfl rfl) ?_
  refine Ew_of (pc' := 13) (fun _ => x_aload_n rfl rfl) ?_
  refine w_gI H (o := 6) (w := u6_53) rfl (H.perm 6 rfl) rfl rfl rfl (fun _ => rfl) (((hS15 6 53 rfl).trans (hS5 6 53 rfl)).trans (eu6_53)) ?_
  refine Ew_of (pc' := 17) (fun _ => x_iload_n rfl rfl) ?_
  refine w_inv H (o := 6) rfl rfl rfl (H.perm 6 rfl) rfl rfl (by rfl) (M411b H (w78) ((funext (hA16 78 rfl)).trans ((funext (hA6 78 rfl)).trans (ew78))) (show inr (u6_53) by omega) (show inr (a1) by omega) (show 1 ≤ (u6_53) ∧ (u6_53) ≤ 8001 by omega) (show 5 ≤ (a1) ∧ (a1) ≤ 9 by omega) (show ∀ i, (0 : Int) ≤ i → i < 64 → 0 ≤ ((w78)) i by assumption) (show su (fun i => ((w78)) i) 64 = (u6_53) by omega) (show su (fun i => pos1 (((w78)) i)) 64 ≤ p2 ((a1)) by omega) (fun σ F23 A24 H hS25 hA26 wq28 ewq29 pz27_0 pz27_1 pz27_2 => ⟨rfl, ?_⟩))
  have hdv := pz27_0
  have hsh : SH ((wq28)) 0 64 ((a1)) 11 := SH_div (by omega) hdv (by omega) hcz
  have hPD : (dvP ((w78)) ((u6_53)) (p2 ((a1)))) = cutP 64 ((wq28)) := dvP_e pz27_2
  have hz12 : ∀ i, 12 ≤ i → i < 64 → ((wq28)) i = 0 := fun i a b => by have h1 := hdv i (by omega) b; have h2 := hcz i (by omega) b (by omega); omega
  refine Ew_of (pc' := 21) (fun _ => x_aload_n rfl rfl) ?_
  refine Ew_of (pc' := 22) (fun _ => x_aload_n rfl rfl) ?_
  refine w_gT H (o := 6) (t := 75) rfl (H.perm 6 rfl) rfl rfl rfl rfl rfl rfl ?_
  refine Ew_of (pc' := 26) (fun _ => x_iconst rfl) ?_
  refine Ew_of (pc' := 27) (fun _ => x_iload_n rfl rfl) ?_
  refine w_inv H (o := 6) rfl rfl rfl (H.perm 6 rfl) rfl rfl (by rfl) (M412_75 H (y18) (((hS25 6 35 rfl).trans (ey19))) (wq20) ((funext (hA26 69 rfl)).trans (ewq21)) (wq28) (ewq29) (11) (show inr (0) by omega) (show inr (a1) by omega) (show SH ((wq28)) (0) 64 (a1) (11) by assumption) (show 0 ≤ (0) ∧ (0) + 64 ≤ 64 by omega) (show 0 ≤ (y18) ∧ (y18) ≤ 1000000 by omega) (show 0 ≤ (11) by omega) (fun σ F30 A31 H hS32 hA33 y35 ey36 wq37 ewq38 pz34_0 pz34_1 pz34_2 => ⟨rfl, ?_⟩))
  have r39 : (0 : Int) ≤ y35 ∧ y35 ≤ 100000000 := by have h1 : (0 : Int) ≤ F30 6 35 ∧ F30 6 35 ≤ 100000000 := H.frng 6 35; rw [show F30 6 35 = y35 from (ey36)] at h1; exact h1
  have hb30 : IMP (MDX ((w69)) ((u6_35))) (MDB ((wq37)) ((y35)) (pd8 (btw 0 8 ++ STB (dvP ((w78)) ((u6_53)) (p2 ((a1)))) ((a1))))) := fun q => by have h := pz34_1 (by omega) _ (hb11 q); rw [sh0, ← hPD] at h; exact h
  refine Ew_of (pc' := 31) (fun _ => x_aload_n rfl rfl) ?_
  refine Ew_of (pc' := 32) (fun _ => x_aload_n rfl rfl) ?_
  refine w_gT H (o := 6) (t := 75) rfl (H.perm 6 rfl) rfl rfl rfl rfl rfl rfl ?_
  refine Ew_of (pc' := 36) (fun _ => x_iconst rfl) ?_
  refine Ew_of (pc' := 38) (fun _ => x_bipush (z := 64) rfl (by decide)) ?_
  refine Ew_of (pc' := 39) (fun _ => x_iload_n rfl rfl) ?_
  refine Ew_of (pc' := 42) (fun _ => x_sipush (z := 1536) rfl (by decide)) ?_
  refine w_inv H (o := 6) rfl rfl rfl (H.perm 6 rfl) rfl rfl (by rfl) (M407_75 H (A 71) ((funext (hA33 71 rfl)).trans ((funext (hA26 71 rfl)).trans ((funext (hA16 71 rfl)).trans (funext (hA6 71 rfl))))) (A 72) ((funext (hA33 72 rfl)).trans ((funext (hA26 72 rfl)).trans ((funext (hA16 72 rfl)).trans (funext (hA6 72 rfl))))) (A 73) ((funext (hA33 73 rfl)).trans ((funext (hA26 73 rfl)).trans ((funext (hA16 73 rfl)).trans (funext (hA6 73 rfl))))) (wq28) ((funext (hA33 75 rfl)).trans (ewq29)) (11) (show inr (0) by omega) (show inr (64) by omega) (show inr (a1) by omega) (show inr (1536) by omega) (show SH ((wq28)) (0) (64) (a1) (11) by assumption) (show 0 ≤ (0) ∧ 1 ≤ (64) ∧ (64) ≤ 64 ∧ (0) + (64) ≤ 64 by omega) (show 0 ≤ (1536) ∧ (1536) + p2 ((a1)) ≤ 2048 by omega) (fun σ F40 A41 H hS42 hA43 wq45 ewq46 wq47 ewq48 wq49 ewq50 pz44_0 pz44_1 pz44_2 pz44_3 pz44_4 => ⟨rfl, ?_⟩))
  have hti := pz44_1
  have hLD := pz44_0
  have hTB : TBX (((a1), 12, (dvP ((w78)) ((u6_53)) (p2 ((a1))))) : Tb) ((a1)) (sh ((wq45)) 1536) (sh ((wq47)) 1536) (sh ((wq49)) 1536) := TBX_LD hLD (by omega) (by omega) (fun i a b => by rw [hPD, cutP_in (by omega), sh0]) (fun i a b => by rw [sh0]; exact hz12 i a b)
  refine Ew_of (pc' := 46) (fun _ => x_aload_n rfl rfl) ?_
  refine Ew_of (pc' := 49) (fun _ => x_sipush (z := 1536) rfl (by decide)) ?_
  refine Ew_of (pc' := 50) (fun _ => x_iload_n rfl rfl) ?_
  refine Ew_of (pc' := 51) (fun _ => x_aload_n rfl rfl) ?_
  refine w_gT H (o := 6) (t := 84) rfl (H.perm 6 rfl) rfl rfl rfl rfl rfl rfl ?_
  refine Ew_of (pc' := 55) (fun _ => x_aload_n rfl rfl) ?_
  refine w_gI H (o := 6) (w := u6_53) rfl (H.perm 6 rfl) rfl rfl rfl (fun _ => rfl) ((((((hS42 6 53 rfl).trans (hS32 6 53 rfl)).trans (hS25 6 53 rfl)).trans (hS15 6 53 rfl)).trans (hS5 6 53 rfl)).trans (eu6_53)) ?_
  refine Ew_of (pc' := 59) (fun _ => x_iconst rfl) ?_
  refine w_isub rfl ?_
  refine w_lI H (o := 84) (n := 257) rfl (H.perm 84 rfl) rfl rfl (H.fix 84 rfl rfl) (show 0 ≤ (u6_53 - 1) ∧ (u6_53 - 1) < ((257 : Nat) : Int) by omega) (by decide) (fun v51 ev51 qv51 => ?_)
  have qv51 : (-2147483648 : Int) ≤ v51 ∧ v51 ≤ 2147483647 := qv51
  have ev51 : (w84) ((u6_53 - 1)) = v51 := (congrFun ((funext (hA43 84 rfl)).trans ((funext (hA33 84 rfl)).trans ((funext (hA26 84 rfl)).trans ((funext (hA16 84 rfl)).trans ((funext (hA6 84 rfl)).trans (ew84)))))) ((u6_53 - 1))).symm.trans ev51
  have hw61 := hcw ((u6_53) - 1) (by omega) (by omega)
  rw [ev51] at hw61
  have hd61 := DVI_m hdv (s := (v51)) (by omega) (by omega) hw61.2.2
  have : 1 ≤ mass ((sh ((wq28)) 0) ((v51))) := by show 1 ≤ mass (((wq28)) (0 + (v51))); rw [Int.zero_add]; exact hd61.1
  have : (1 : Int) = 1 → mass ((sh ((wq28)) 0) ((v51))) < p2 ((a1)) := fun _ => by have := mass_lt hdv (p := p2 ((a1))) (by omega) (by omega) (s := (v51)) (by omega) (by omega); show mass (((wq28)) (0 + (v51))) < _; rw [Int.zero_add]; exact this
  refine Ew_of (pc' := 62) (fun _ => x_iconst rfl) ?_
  obtain ⟨qw1, hqw1⟩ : ∃ q : Int, q = (v51) := ⟨_, rfl⟩
  have hww1 : ((w84)) ((u6_53) - 1) = qw1 := by rw [hqw1]; exact ev51
  have hml1 := mass_lt hdv (p := p2 ((a1))) (by omega) (by omega) (s := (v51)) (by omega) (by omega)
  have hmg1 := (DVI_m hdv (s := (v51)) (by omega) (by omega) (by have h := hcw ((u6_53) - 1) (by omega) (by omega); rw [ev51] at h; exact h.2.2)).1
  refine w_inv H (o := 6) rfl rfl rfl (H.perm 6 rfl) rfl rfl (by rfl) (M408 H (wq45) (ewq46) (wq47) (ewq48) (wq49) (ewq50) (sh ((wq28)) 0) (show inr (1536) by omega) (show inr (a1) by omega) (show inr (v51) by omega) (show inr (1) by omega) (show (1) = 0 ∨ (1) = 1 by omega) (show LD (sh ((wq28)) 0) 64 ((a1)) (sh ((wq45)) ((1536))) (sh ((wq47)) ((1536))) (sh ((wq49)) ((1536))) by assumption) (show 5 ≤ (a1) ∧ (a1) ≤ 9 by omega) (show 0 ≤ (1536) ∧ (1536) + p2 ((a1)) ≤ 2048 by omega) (show 0 ≤ (v51) ∧ (v51) < 64 by omega) (show 1 ≤ mass ((sh ((wq28)) 0) (v51)) by assumption) (show (1) = 1 → mass ((sh ((wq28)) 0) (v51)) < p2 ((a1)) by assumption) (fun z56 σ F52 A53 H hS54 hA55 pz56_0 pz56_1 pz56_2 => ⟨rfl, ?_⟩))
  have hlo1 : loF (((a1), 12, (dvP ((w78)) ((u6_53)) (p2 ((a1))))) : Tb) qw1 = (z56) := by rw [hqw1]; exact loF_e hTB (LOW_1 hLD pz56_2 (by omega) (by rw [sh0]; exact ⟨hmg1, hml1⟩))
  refine Ew_of (pc' := 66) (fun _ => x_istore_n rfl) ?_
  refine Ew_of (pc' := 67) (fun _ => x_aload_n rfl (rk_o (rfl) rfl rfl)) ?_
  refine Ew_of (pc' := 70) (fun _ => x_sipush (z := 1536) rfl (by decide)) ?_
  refine Ew_of (pc' := 71) (fun _ => x_iload_n rfl (rk_o (rfl) rfl rfl)) ?_
  refine Ew_of (pc' := 72) (fun _ => x_aload_n rfl (rk_o (rfl) rfl rfl)) ?_
  refine w_gT H (o := 6) (t := 84) rfl (H.perm 6 rfl) rfl rfl rfl rfl rfl rfl ?_
  refine Ew_of (pc' := 76) (fun _ => x_aload_n rfl (rk_o (rfl) rfl rfl)) ?_
  refine w_gI H (o := 6) (w := u6_53) rfl (H.perm 6 rfl) rfl rfl rfl (fun _ => rfl) (((((((hS54 6 53 rfl).trans (hS42 6 53 rfl)).trans (hS32 6 53 rfl)).trans (hS25 6 53 rfl)).trans (hS15 6 53 rfl)).trans (hS5 6 53 rfl)).trans (eu6_53)) ?_
  refine Ew_of (pc' := 80) (fun _ => x_iconst rfl) ?_
  refine w_isub rfl ?_
  refine w_lI H (o := 84) (n := 257) rfl (H.perm 84 rfl) rfl rfl (H.fix 84 rfl rfl) (show 0 ≤ (u6_53 - 2) ∧ (u6_53 - 2) < ((257 : Nat) : Int) by omega) (by decide) (fun v57 ev57 qv57 => ?_)
  have qv57 : (-2147483648 : Int) ≤ v57 ∧ v57 ≤ 2147483647 := qv57
  have ev57 : (w84) ((u6_53 - 2)) = v57 := (congrFun ((funext (hA55 84 rfl)).trans ((funext (hA43 84 rfl)).trans ((funext (hA33 84 rfl)).trans ((funext (hA26 84 rfl)).trans ((funext (hA16 84 rfl)).trans ((funext (hA6 84 rfl)).trans (ew84))))))) ((u6_53 - 2))).symm.trans ev57
  have hw82 := hcw ((u6_53) - 2) (by omega) (by omega)
  rw [ev57] at hw82
  have hd82 := DVI_m hdv (s := (v57)) (by omega) (by omega) hw82.2.2
  have : 1 ≤ mass ((sh ((wq28)) 0) ((v57))) := by show 1 ≤ mass (((wq28)) (0 + (v57))); rw [Int.zero_add]; exact hd82.1
  have : (1 : Int) = 1 → mass ((sh ((wq28)) 0) ((v57))) < p2 ((a1)) := fun _ => by have := mass_lt hdv (p := p2 ((a1))) (by omega) (by omega) (s := (v57)) (by omega) (by omega); show mass (((wq28)) (0 + (v57))) < _; rw [Int.zero_add]; exact this
  refine Ew_of (pc' := 83) (fun _ => x_iconst rfl) ?_
  obtain ⟨qw2, hqw2⟩ : ∃ q : Int, q = (v57) := ⟨_, rfl⟩
  have hww2 : ((w84)) ((u6_53) - 2) = qw2 := by rw [hqw2]; exact ev57
  have hml2 := mass_lt hdv (p := p2 ((a1))) (by omega) (by omega) (s := (v57)) (by omega) (by omega)
  have hmg2 := (DVI_m hdv (s := (v57)) (by omega) (by omega) (by have h := hcw ((u6_53) - 2) (by omega) (by omega); rw [ev57] at h; exact h.2.2)).1
  refine w_inv H (o := 6) rfl rfl rfl (H.perm 6 rfl) rfl rfl (by rfl) (M408 H (wq45) ((funext (hA55 71 rfl)).trans (ewq46)) (wq47) ((funext (hA55 72 rfl)).trans (ewq48)) (wq49) ((funext (hA55 73 rfl)).trans (ewq50)) (sh ((wq28)) 0) (show inr (1536) by omega) (show inr (a1) by omega) (show inr (v57) by omega) (show inr (1) by omega) (show (1) = 0 ∨ (1) = 1 by omega) (show LD (sh ((wq28)) 0) 64 ((a1)) (sh ((wq45)) ((1536))) (sh ((wq47)) ((1536))) (sh ((wq49)) ((1536))) by assumption) (show 5 ≤ (a1) ∧ (a1) ≤ 9 by omega) (show 0 ≤ (1536) ∧ (1536) + p2 ((a1)) ≤ 2048 by omega) (show 0 ≤ (v57) ∧ (v57) < 64 by omega) (show 1 ≤ mass ((sh ((wq28)) 0) (v57)) by assumption) (show (1) = 1 → mass ((sh ((wq28)) 0) (v57)) < p2 ((a1)) by assumption) (fun z62 σ F58 A59 H hS60 hA61 pz62_0 pz62_1 pz62_2 => ⟨rfl, ?_⟩))
  have hlo2 : loF (((a1), 12, (dvP ((w78)) ((u6_53)) (p2 ((a1))))) : Tb) qw2 = (z62) := by rw [hqw2]; exact loF_e hTB (LOW_1 hLD pz62_2 (by omega) (by rw [sh0]; exact ⟨hmg2, hml2⟩))
  refine Ew_of (pc' := 87) (fun _ => x_istore_n rfl) ?_
  refine Ew_of (pc' := 88) (fun _ => x_aload_n rfl (rk_o (rk_o (rfl) rfl rfl) rfl rfl)) ?_
  refine w_gI H (o := 6) (w := u6_53) rfl (H.perm 6 rfl) rfl rfl rfl (fun _ => rfl) ((((((((hS60 6 53 rfl).trans (hS54 6 53 rfl)).trans (hS42 6 53 rfl)).trans (hS32 6 53 rfl)).trans (hS25 6 53 rfl)).trans (hS15 6 53 rfl)).trans (hS5 6 53 rfl)).trans (eu6_53)) ?_
  refine Ew_of (pc' := 92) (fun _ => x_iconst rfl) ?_
  refine w_isub rfl ?_
  refine Ew_of (pc' := 95) (fun _ => x_istore rfl) ?_
  have : ∃ B, WSO (((a1), 12, (dvP ((w78)) ((u6_53)) (p2 ((a1))))) : Tb) ((w84)) ((u6_53)) (((u6_53 - 3))) ((z56)) ((z62)) B ∧ IMP (MDX ((w69)) ((u6_35))) (MDB ((wq37)) ((y35)) (pd8 (btw 0 8 ++ STB (dvP ((w78)) ((u6_53)) (p2 ((a1)))) ((a1))) ++ B)) := ⟨[], WSO_0 hlo1 hww1 hlo2 hww2 (by omega), fun q => by rw [List.append_nil]; exact hb30 q⟩
  suffices hl95 : ∀ (m : Nat), ∀ (ls : rO) (σ : rS) (F_95 : hF) (A_95 : hA) (x95_2 : Int) (x95_3 : Int) (x95_4 : Int), rlook ls 0 = some (.ref (D 6)) → rlook ls 1 = some (I (a1)) → rlook ls 2 = some (I (x95_2)) → rlook ls 3 = some (I (x95_3)) → rlook ls 4 = some (I (x95_4)) → HS σ0 σ D N F_95 A_95 → SF [(6, 35)] F58 F_95 → SA [69] A59 A_95 → ∀ y95_6_35 : Int, F_95 6 35 = y95_6_35 → ∀ w95_69 : Int → Int, A_95 69 = w95_69 → (inr (x95_2)) → (inr (x95_3)) → (inr (x95_4)) → (-1 ≤ (x95_4) ∧ (x95_4) ≤ (u6_53) - 3) → (0 ≤ (x95_2) ∧ (x95_2) < p2 ((a1))) → (0 ≤ (x95_3) ∧ (x95_3) < p2 ((a1))) → ((y35) ≤ (y95_6_35) ∧ (y95_6_35) ≤ (y35) + 6 * ((u6_53) - 3 - (x95_4))) → (∃ B, WSO (((a1), 12, (dvP ((w78)) ((u6_53)) (p2 ((a1))))) : Tb) ((w84)) ((u6_53)) ((x95_4)) ((x95_2)) ((x95_3)) B ∧ IMP (MDX ((w69)) ((u6_35))) (MDB ((w95_69)) ((y95_6_35)) (pd8 (btw 0 8 ++ STB (dvP ((w78)) ((u6_53)) (p2 ((a1)))) ((a1))) ++ B))) → ((x95_4) + 1).toNat = m → Ew 423 (d + 2) 95 ls [] σ c s Q from
    hl95 _ _ σ _ _ (z56) (z62) ((u6_53 - 3)) (rk_o (rk_o (rk_o (rfl) rfl rfl) rfl rfl) rfl rfl) (rk_o (rk_o (rk_o (rfl) rfl rfl) rfl rfl) rfl rfl) (rk_o (rk_o (rk_s) rfl rfl) rfl rfl) (rk_o (rk_s) rfl rfl) (rk_s) H (SF_refl) (SA_refl) (y35) (((((hS60 6 35 rfl).trans (hS54 6 35 rfl)).trans (hS42 6 35 rfl)).trans (ey36))) (wq37) ((funext (hA61 69 rfl)).trans ((funext (hA55 69 rfl)).trans ((funext (hA43 69 rfl)).trans (ewq38)))) (show inr (z56) by omega) (show inr (z62) by omega) (show inr ((u6_53 - 3)) by omega) (show -1 ≤ ((u6_53 - 3)) ∧ ((u6_53 - 3)) ≤ (u6_53) - 3 by omega) (show 0 ≤ (z56) ∧ (z56) < p2 ((a1)) by omega) (show 0 ≤ (z62) ∧ (z62) < p2 ((a1)) by omega) (show (y35) ≤ (y35) ∧ (y35) ≤ (y35) + 6 * ((u6_53) - 3 - ((u6_53 - 3))) by omega) (show ∃ B, WSO (((a1), 12, (dvP ((w78)) ((u6_53)) (p2 ((a1))))) : Tb) ((w84)) ((u6_53)) (((u6_53 - 3))) ((z56)) ((z62)) B ∧ IMP (MDX ((w69)) ((u6_35))) (MDB ((wq37)) ((y35)) (pd8 (btw 0 8 ++ STB (dvP ((w78)) ((u6_53)) (p2 ((a1)))) ((a1))) ++ B)) by assumption) rfl
  as_aux_lemma =>
  intro m
  induction m using Nat.strongRecOn with
  | _ m ih95 =>
    intro ls σ F_95 A_95 x95_2 x95_3 x95_4 l95_0 l95_1 l95_2 l95_3 l95_4 H hS_95 hA_95 y95_6_35 ey95_6_35 w95_69 ew95_69 j95_0 j95_1 j95_2 j95_3 j95_4 j95_5 j95_6 j95_7 hm95
    have r63 : (0 : Int) ≤ y95_6_35 ∧ y95_6_35 ≤ 100000000 := by have h1 : (0 : Int) ≤ F_95 6 35 ∧ F_95 6 35 ≤ 100000000 := H.frng 6 35; rw [show F_95 6 35 = y95_6_35 from (ey95_6_35)] at h1; exact h1
    have j95_w : ∃ B, WSO (((a1), 12, (dvP ((w78)) ((u6_53)) (p2 ((a1))))) : Tb) ((w84)) ((u6_53)) ((x95_4)) ((x95_2)) ((x95_3)) B ∧ IMP (MDX ((w69)) ((u6_35))) (MDB ((w95_69)) ((y95_6_35)) (pd8 (btw 0 8 ++ STB (dvP ((w78)) ((u6_53)) (p2 ((a1)))) ((a1))) ++ B)) := by assumption
    obtain ⟨B_, hWS, hMB⟩ := j95_w
    refine Ew_of (pc' := 97) (fun _ => x_iload rfl l95_4) ?_
    refine w_iflt (t := 157) rfl rfl (show inr (x95_4) by omega) (fun b64 => ?_) (fun b64 => ?_)
    · refine Ew_of (pc' := 158) (fun _ => x_aload_n rfl l95_0) ?_
      refine Ew_of (pc' := 159) (fun _ => x_iload_n rfl l95_2) ?_
      refine Ew_of (pc' := 160) (fun _ => x_iload_n rfl l95_1) ?_
      refine w_inv H (o := 6) rfl rfl rfl (H.perm 6 rfl) rfl rfl (by rfl) (M389 H (y95_6_35) ((ey95_6_35)) (w95_69) (ew95_69) (show inr (x95_2) by omega) (show inr (a1) by omega) (show 0 ≤ (a1) ∧ (a1) ≤ 31 by omega) (show 0 ≤ (y95_6_35) ∧ (y95_6_35) ≤ 90000000 by omega) (fun σ F65 A66 H hS67 hA68 y70 ey71 wq72 ewq73 pz69_0 pz69_1 => ⟨rfl, ?_⟩))
      have r74 : (0 : Int) ≤ y70 ∧ y70 ≤ 100000000 := by have h1 : (0 : Int) ≤ F65 6 35 ∧ F65 6 35 ≤ 100000000 := H.frng 6 35; rw [show F65 6 35 = y70 from (ey71)] at h1; exact h1
      have hM4 := fun q => pz69_1 (by omega) _ (hMB q)
      refine Ew_of (pc' := 164) (fun _ => x_aload_n rfl l95_0) ?_
      refine Ew_of (pc' := 165) (fun _ => x_iload_n rfl l95_3) ?_
      refine Ew_of (pc' := 166) (fun _ => x_iload_n rfl l95_1) ?_
      refine w_inv H (o := 6) rfl rfl rfl (H.perm 6 rfl) rfl rfl (by rfl) (M389 H (y70) ((ey71)) (wq72) (ewq73) (show inr (x95_3) by omega) (show inr (a1) by omega) (show 0 ≤ (a1) ∧ (a1) ≤ 31 by omega) (show 0 ≤ (y70) ∧ (y70) ≤ 90000000 by omega) (fun σ F75 A76 H hS77 hA78 y80 ey81 wq82 ewq83 pz79_0 pz79_1 => ⟨rfl, ?_⟩))
      have r84 : (0 : Int) ≤ y80 ∧ y80 ≤ 100000000 := by have h1 : (0 : Int) ≤ F75 6 35 ∧ F75 6 35 ≤ 100000000 := H.frng 6 35; rw [show F75 6 35 = y80 from (ey81)] at h1; exact h1
      have hM5 := fun q => pz79_1 (by omega) _ (hM4 q)
      refine Ew_of (pc' := 170) (fun _ => x_aload_n rfl l95_0) ?_
      refine Ew_of (pc' := 171) (fun _ => x_iconst rfl) ?_
      refine Ew_of (pc' := 172) (fun _ => x_iconst rfl) ?_
      refine w_inv H (o := 6) rfl rfl rfl (H.perm 6 rfl) rfl rfl (by rfl) (M389 H (y80) ((ey81)) (wq82) (ewq83) (show inr (1) by omega) (show inr (1) by omega) (show 0 ≤ (1) ∧ (1) ≤ 31 by omega) (show 0 ≤ (y80) ∧ (y80) ≤ 90000000 by omega) (fun σ F85 A86 H hS87 hA88 y90 ey91 wq92 ewq93 pz89_0 pz89_1 => ⟨rfl, ?_⟩))
      have r94 : (0 : Int) ≤ y90 ∧ y90 ≤ 100000000 := by have h1 : (0 : Int) ≤ F85 6 35 ∧ F85 6 35 ≤ 100000000 := H.frng 6 35; rw [show F85 6 35 = y90 from (ey91)] at h1; exact h1
      have hM6 := fun q => pz89_1 (by omega) _ (hM5 q)
      refine Ew_of (pc' := 176) (fun _ => x_aload_n rfl l95_0) ?_
      refine w_inv H (o := 6) rfl rfl rfl (H.perm 6 rfl) rfl rfl (by rfl) (M390 H (y90) ((ey91)) (wq92) (ewq93) (show 0 ≤ (y90) ∧ (y90) ≤ 99000000 by omega) (fun σ F95 A96 H hS97 hA98 y100 ey101 pz99_0 pz99_1 pz99_2 => ⟨rfl, ?_⟩))
      have r102 : (0 : Int) ≤ y100 ∧ y100 ≤ 100000000 := by have h1 : (0 : Int) ≤ F95 6 35 ∧ F95 6 35 ≤ 100000000 := H.frng 6 35; rw [show F95 6 35 = y100 from (ey101)] at h1; exact h1
      have hM7 := fun q => pz99_1 _ (hM6 q)
      have hWE := WSO_e hWS (by omega) (L := (a1)) rfl
      refine Ew_of (pc' := 180) (fun _ => x_aload_n rfl l95_0) ?_
      refine w_gT H (o := 6) (t := 69) rfl (H.perm 6 rfl) rfl rfl rfl rfl rfl rfl ?_
      refine Ew_of (pc' := 184) (fun _ => x_iconst rfl) ?_
      refine Ew_of (pc' := 185) (fun _ => x_aload_n rfl l95_0) ?_
      refine w_gI H (o := 6) (w := y100) rfl (H.perm 6 rfl) rfl rfl rfl (fun _ => rfl) (ey101) ?_
      refine Ew_of (pc' := 190) (fun _ => x_bipush (z := 8) rfl (by decide)) ?_
      refine w_idiv rfl (show inr (y100) ∧ 0 ≤ y100 by omega) (show inr (8) ∧ 0 < 8 by omega) ?_
      refine Ew_of (pc' := 192) (fun _ => x_iconst rfl) ?_
      refine w_isub rfl ?_
      refine w_sI H (o := 69) (n := 24000) rfl (H.perm 69 rfl) rfl rfl (H.fix 69 rfl rfl) (show 0 ≤ 0 ∧ 0 < ((24000 : Nat) : Int) by omega) (by decide) (show (0 : Int) ≤ ((y100 / 8) - 1) ∧ ((y100 / 8) - 1) ≤ 255 by omega) (fun σ H => ?_)
      refine Ew_of (pc' := 195) (fun _ => x_aload_n rfl l95_0) ?_
      refine w_gI H (o := 6) (w := y100) rfl (H.perm 6 rfl) rfl rfl rfl (fun _ => rfl) (ey101) ?_
      refine Ew_of (pc' := 200) (fun _ => x_bipush (z := 8) rfl (by decide)) ?_
      refine w_idiv rfl (show inr (y100) ∧ 0 ≤ y100 by omega) (show inr (8) ∧ 0 < 8 by omega) ?_
      have : IMP (MDX ((w69)) ((u6_35))) (∃ C, MDB ((upd1 (wq92) (0) (((y100 / 8) - 1)))) ((y100)) C ∧ (C.length : Int) = (y100) ∧ byw C = [((y100 / 8)) - 1] ++ (byw (STB (dvP ((w78)) ((u6_53)) (p2 ((a1)))) ((a1))) ++ byw (WSB (((a1), 12, (dvP ((w78)) ((u6_53)) (p2 ((a1))))) : Tb) ((w84)) ((u6_53)))) ∧ ((byw (STB (dvP ((w78)) ((u6_53)) (p2 ((a1)))) ((a1))) ++ byw (WSB (((a1), 12, (dvP ((w78)) ((u6_53)) (p2 ((a1))))) : Tb) ((w84)) ((u6_53)))).length : Int) = ((y100 / 8)) - 1) := fun q => by have h := hM7 q; simp only [List.append_assoc] at h; rw [← hWE] at h; obtain ⟨C, c1, c2, c3, c4, c5⟩ := BYS_e h rfl (by omega); exact ⟨C, c1, c2, c4, c5⟩
      exact w_ireturn rfl (k ((y100 / 8)) σ _ _ H (SF_trans (SF_trans (SF_trans (SF_trans (SF_trans (SF_trans (SF_trans (SF_trans (SF_trans (SF_trans (SF_trans (SF_trans (SF_refl) hS5 (any_sub rfl)) hS15 (any_sub rfl)) hS25 (any_sub rfl)) hS32 (any_sub rfl)) hS42 (any_sub rfl)) hS54 (any_sub rfl)) hS60 (any_sub rfl)) hS_95 (any_sub rfl)) hS67 (any_sub rfl)) hS77 (any_sub rfl)) hS87 (any_sub rfl)) hS97 (any_sub rfl)) (SA_upd (SA_trans (SA_trans (SA_trans (SA_trans (SA_trans (SA_trans (SA_trans (SA_trans (SA_trans (SA_trans (SA_trans (SA_trans (SA_refl) hA6 (any_subA rfl)) hA16 (any_subA rfl)) hA26 (any_subA rfl)) hA33 (any_subA rfl)) hA43 (any_subA rfl)) hA55 (any_subA rfl)) hA61 (any_subA rfl)) hA_95 (any_subA rfl)) hA68 (any_subA rfl)) hA78 (any_subA rfl)) hA88 (any_subA rfl)) hA98 (any_subA rfl)) rfl) (y100) ((ey101)) (upd1 (wq92) (0) (((y100 / 8) - 1))) (congrArg (fun q => upd1 q (0) (((y100 / 8) - 1))) ((funext (hA98 69 rfl)).trans (ewq93))) (show inr ((y100 / 8)) by omega) (show 1 ≤ ((y100 / 8)) ∧ ((y100 / 8)) ≤ 256 by omega) (show 0 ≤ (y100) ∧ (y100) ≤ 2047 by omega) (show IMP (MDX ((w69)) ((u6_35))) (∃ C, MDB ((upd1 (wq92) (0) (((y100 / 8) - 1)))) ((y100)) C ∧ (C.length : Int) = (y100) ∧ byw C = [((y100 / 8)) - 1] ++ (byw (STB (dvP ((w78)) ((u6_53)) (p2 (a1))) (a1)) ++ byw (WSB ((a1, 12, (dvP ((w78)) ((u6_53)) (p2 (a1)))) : Tb) ((w84)) ((u6_53)))) ∧ ((byw (STB (dvP ((w78)) ((u6_53)) (p2 (a1))) (a1)) ++ byw (WSB ((a1, 12, (dvP ((w78)) ((u6_53)) (p2 (a1)))) : Tb) ((w84)) ((u6_53)))).length : Int) = ((y100 / 8)) - 1) by assumption) (show (y100) = 8 * ((y100 / 8)) by omega))
    · refine Ew_of (pc' := 101) (fun _ => x_aload_n rfl l95_0) ?_
      refine Ew_of (pc' := 104) (fun _ => x_sipush (z := 1536) rfl (by decide)) ?_
      refine Ew_of (pc' := 105) (fun _ => x_iload_n rfl l95_1) ?_
      refine Ew_of (pc' := 106) (fun _ => x_aload_n rfl l95_0) ?_
      refine w_gT H (o := 6) (t := 84) rfl (H.perm 6 rfl) rfl rfl rfl rfl rfl rfl ?_
      refine Ew_of (pc' := 111) (fun _ => x_iload rfl l95_4) ?_
      refine w_lI H (o := 84) (n := 257) rfl (H.perm 84 rfl) rfl rfl (H.fix 84 rfl rfl) (show 0 ≤ x95_4 ∧ x95_4 < ((257 : Nat) : Int) by omega) (by decide) (fun v103 ev103 qv103 => ?_)
      have qv103 : (-2147483648 : Int) ≤ v103 ∧ v103 ≤ 2147483647 := qv103
      have ev103 : (w84) (x95_4) = v103 := (congrFun ((funext (hA_95 84 rfl)).trans ((funext (hA61 84 rfl)).trans ((funext (hA55 84 rfl)).trans ((funext (hA43 84 rfl)).trans ((funext (hA33 84 rfl)).trans ((funext (hA26 84 rfl)).trans ((funext (hA16 84 rfl)).trans ((funext (hA6 84 rfl)).trans (ew84))))))))) (x95_4)).symm.trans ev103
      have hw112 := hcw ((x95_4)) (by omega) (by omega)
      rw [ev103] at hw112
      have hd112 := DVI_m hdv (s := (v103)) (by omega) (by omega) hw112.2.2
      have : 1 ≤ mass ((sh ((wq28)) 0) ((v103))) := by show 1 ≤ mass (((wq28)) (0 + (v103))); rw [Int.zero_add]; exact hd112.1
      have : 1 ≤ mass ((sh ((wq28)) 0) ((v103))) ∧ mass ((sh ((wq28)) 0) ((v103))) ≤ p2 ((a1)) := ⟨by assumption, by have := mass_lt hdv (p := p2 ((a1))) (by omega) (by omega) (s := (v103)) (by omega) (by omega); show mass (((wq28)) (0 + (v103))) ≤ _; rw [Int.zero_add]; omega⟩
      refine Ew_of (pc' := 113) (fun _ => x_iload_n rfl l95_2) ?_
      obtain ⟨qw3, hqw3⟩ : ∃ q : Int, q = (v103) := ⟨_, rfl⟩
      have hww3 : ((w84)) ((x95_4)) = qw3 := by rw [hqw3]; exact ev103
      refine w_inv H (o := 6) rfl rfl rfl (H.perm 6 rfl) rfl rfl (by rfl) (M409 H (wq45) ((funext (hA_95 71 rfl)).trans ((funext (hA61 71 rfl)).trans ((funext (hA55 71 rfl)).trans (ewq46)))) (wq47) ((funext (hA_95 72 rfl)).trans ((funext (hA61 72 rfl)).trans ((funext (hA55 72 rfl)).trans (ewq48)))) (wq49) ((funext (hA_95 73 rfl)).trans ((funext (hA61 73 rfl)).trans ((funext (hA55 73 rfl)).trans (ewq50)))) (sh ((wq28)) 0) (show inr (1536) by omega) (show inr (a1) by omega) (show inr (v103) by omega) (show inr (x95_2) by omega) (show LD (sh ((wq28)) 0) 64 ((a1)) (sh ((wq45)) ((1536))) (sh ((wq47)) ((1536))) (sh ((wq49)) ((1536))) by assumption) (show 5 ≤ (a1) ∧ (a1) ≤ 9 by omega) (show 0 ≤ (1536) ∧ (1536) + p2 ((a1)) ≤ 2048 by omega) (show 0 ≤ (v103) ∧ (v103) < 64 by omega) (show 1 ≤ mass ((sh ((wq28)) 0) (v103)) ∧ mass ((sh ((wq28)) 0) (v103)) ≤ p2 ((a1)) by assumption) (show 0 ≤ (x95_2) ∧ (x95_2) < p2 ((a1)) by omega) (fun z108 σ F104 A105 H hS106 hA107 pz108_0 pz108_1 pz108_2 => ⟨rfl, ?_⟩))
      have hld3 : ldF (((a1), 12, (dvP ((w78)) ((u6_53)) (p2 ((a1))))) : Tb) qw3 ((x95_2)) = (z108) := by rw [hqw3]; exact ldF_e hTB pz108_2
      have hts3 := hTB.2 ((z108)) (by omega) (by omega)
      have hdv3 := LD_dv (st := (x95_2)) hLD (k := (z108)) (by omega) (by omega)
      refine Ew_of (pc' := 118) (fun _ => x_istore rfl) ?_
      have htk := hti ((z108)) (by omega) (by omega)
      refine Ew_of (pc' := 119) (fun _ => x_aload_n rfl (rk_o (l95_0) rfl rfl)) ?_
      refine Ew_of (pc' := 120) (fun _ => x_iload_n rfl (rk_o (l95_2) rfl rfl)) ?_
      refine Ew_of (pc' := 121) (fun _ => x_aload_n rfl (rk_o (l95_0) rfl rfl)) ?_
      refine w_gT H (o := 6) (t := 73) rfl (H.perm 6 rfl) rfl rfl rfl rfl rfl rfl ?_
      refine Ew_of (pc' := 127) (fun _ => x_sipush (z := 1536) rfl (by decide)) ?_
      refine Ew_of (pc' := 129) (fun _ => x_iload rfl rk_s) ?_
      refine w_iadd rfl ?_
      refine w_lI H (o := 73) (n := 2048) rfl (H.perm 73 rfl) rfl rfl (H.fix 73 rfl rfl) (show 0 ≤ (1536 + z108) ∧ (1536 + z108) < ((2048 : Nat) : Int) by omega) (by decide) (fun v109 ev109 qv109 => ?_)
      have qv109 : (0 : Int) ≤ v109 ∧ v109 ≤ 511 := qv109
      have ev109 : (wq49) ((1536 + z108)) = v109 := (congrFun ((funext (hA107 73 rfl)).trans ((funext (hA_95 73 rfl)).trans ((funext (hA61 73 rfl)).trans ((funext (hA55 73 rfl)).trans (ewq50))))) ((1536 + z108))).symm.trans ev109
      have hba3 := ev109
      refine w_isub rfl ?_
      refine Ew_of (pc' := 133) (fun _ => x_aload_n rfl (rk_o (l95_0) rfl rfl)) ?_
      refine w_gT H (o := 6) (t := 72) rfl (H.perm 6 rfl) rfl rfl rfl rfl rfl rfl ?_
      refine Ew_of (pc' := 139) (fun _ => x_sipush (z := 1536) rfl (by decide)) ?_
      refine Ew_of (pc' := 141) (fun _ => x_iload rfl rk_s) ?_
      refine w_iadd rfl ?_
      refine w_lI H (o := 72) (n := 2048) rfl (H.perm 72 rfl) rfl rfl (H.fix 72 rfl rfl) (show 0 ≤ (1536 + z108) ∧ (1536 + z108) < ((2048 : Nat) : Int) by omega) (by decide) (fun v110 ev110 qv110 => ?_)
      have qv110 : (0 : Int) ≤ v110 ∧ v110 ≤ 9 := qv110
      have ev110 : (wq47) ((1536 + z108)) = v110 := (congrFun ((funext (hA107 72 rfl)).trans ((funext (hA_95 72 rfl)).trans ((funext (hA61 72 rfl)).trans ((funext (hA55 72 rfl)).trans (ewq48))))) ((1536 + z108))).symm.trans ev110
      have hbi3 := ev110
      have hbt3 : (tsF (((a1), 12, (dvP ((w78)) ((u6_53)) (p2 ((a1))))) : Tb) ((z108))).2.1 = (v110) := by rw [hts3]; exact hbi3
      have hbc3 : btw (((x95_2 - v109))) ((v110)) = btw ((x95_2)) ((v110)) := btw_congr (by rw [← hbi3, ← hba3]; exact hdv3)
      refine w_inv H (o := 6) rfl rfl rfl (H.perm 6 rfl) rfl rfl (by rfl) (M389 H (y95_6_35) (((hS106 6 35 rfl).trans (ey95_6_35))) (w95_69) ((funext (hA107 69 rfl)).trans (ew95_69)) (show inr ((x95_2 - v109)) by omega) (show inr (v110) by omega) (show 0 ≤ (v110) ∧ (v110) ≤ 31 by omega) (show 0 ≤ (y95_6_35) ∧ (y95_6_35) ≤ 90000000 by omega) (fun σ F111 A112 H hS113 hA114 y116 ey117 wq118 ewq119 pz115_0 pz115_1 => ⟨rfl, ?_⟩))
      have r120 : (0 : Int) ≤ y116 ∧ y116 ≤ 100000000 := by have h1 : (0 : Int) ≤ F111 6 35 ∧ F111 6 35 ≤ 100000000 := H.frng 6 35; rw [show F111 6 35 = y116 from (ey117)] at h1; exact h1
      have hmp3 := pz115_1
      rw [hbc3] at hmp3
      have hMB3 := fun q => hmp3 (by omega) _ (hMB q)
      have hWS3 := WSO_s hWS (by omega) hww3 hld3 hbt3 rfl rfl
      refine Ew_of (pc' := 147) (fun _ => x_iload_n rfl (rk_o (l95_3) rfl rfl)) ?_
      refine Ew_of (pc' := 148) (fun _ => x_istore_n rfl) ?_
      refine Ew_of (pc' := 150) (fun _ => x_iload rfl (rk_o (rk_s) rfl rfl)) ?_
      refine Ew_of (pc' := 151) (fun _ => x_istore_n rfl) ?_
      refine Ew_of (pc' := 154) (fun _ => x_iinc (len := 3) rfl (rk_o (rk_o (rk_o (l95_4) rfl rfl) rfl rfl) rfl rfl)) ?_
      refine Ew_of (pc' := 95) (fun _ => x_goto rfl rfl) ?_
      have : ∃ B, WSO (((a1), 12, (dvP ((w78)) ((u6_53)) (p2 ((a1))))) : Tb) ((w84)) ((u6_53)) (((x95_4 + (-1)))) ((x95_3)) ((z108)) B ∧ IMP (MDX ((w69)) ((u6_35))) (MDB ((wq118)) ((y116)) (pd8 (btw 0 8 ++ STB (dvP ((w78)) ((u6_53)) (p2 ((a1)))) ((a1))) ++ B)) := ⟨_, hWS3, fun q => by rw [← List.append_assoc]; exact hMB3 q⟩
      exact ih95 _ (by omega) _ σ _ _ (x95_3) (z108) ((x95_4 + (-1))) (rk_o (rk_o (rk_o (rk_o (l95_0) rfl rfl) rfl rfl) rfl rfl) rfl rfl) (rk_o (rk_o (rk_o (rk_o (l95_1) rfl rfl) rfl rfl) rfl rfl) rfl rfl) (rk_o (rk_o (rk_s) rfl rfl) rfl rfl) (rk_o (rk_s) rfl rfl) (rk_s) H (SF_trans (SF_trans (hS_95) hS106 (any_sub rfl)) hS113 (any_sub rfl)) (SA_trans (SA_trans (hA_95) hA107 (any_subA rfl)) hA114 (any_subA rfl)) (y116) ((ey117)) (wq118) (ewq119) (show inr (x95_3) by omega) (show inr (z108) by omega) (show inr ((x95_4 + (-1))) by omega) (show -1 ≤ ((x95_4 + (-1))) ∧ ((x95_4 + (-1))) ≤ (u6_53) - 3 by omega) (show 0 ≤ (x95_3) ∧ (x95_3) < p2 ((a1)) by omega) (show 0 ≤ (z108) ∧ (z108) < p2 ((a1)) by omega) (show (y35) ≤ (y116) ∧ (y116) ≤ (y35) + 6 * ((u6_53) - 3 - ((x95_4 + (-1)))) by omega) (show ∃ B, WSO (((a1), 12, (dvP ((w78)) ((u6_53)) (p2 ((a1))))) : Tb) ((w84)) ((u6_53)) (((x95_4 + (-1)))) ((x95_3)) ((z108)) B ∧ IMP (MDX ((w69)) ((u6_35))) (MDB ((wq118)) ((y116)) (pd8 (btw 0 8 ++ STB (dvP ((w78)) ((u6_53)) (p2 ((a1)))) ((a1))) ++ B)) by assumption) rfl
