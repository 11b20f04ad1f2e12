/-! what is there, or is made -/
def W_h : vV := [vent VPH 0]
def ι_h : List Nat := [0]
theorem vs_h : VS VPH W_h ι_h := VS_of (by decide +kernel)
theorem KEP_refl {g : Nat → Bool} {x0 : Nat} {D N : Nat → Nat} {F : hF} {A : hA} : KEP g x0 D N F A D N F A := fun _ _ _ => ⟨rfl, fun _ => ⟨rfl, rfl, rfl⟩⟩
theorem T_h_tok {g : Nat → Bool} {σ : rS} {D N : Nat → Nat} {F : hF} {A : hA} {d c s : Nat} {Q : wQ} (X : PHI g σ D N F A) (hg : g 2 = true) (k : Q (some (.ref (D 41))) σ c s) : Ew 36 d 0 (rargs 0 [.ref (D 0)]) [] σ c s Q := by
  obtain ⟨HX, HT, hg0, hPF, -⟩ := X
  have H := HWs_sub HX vs_h (SPH_of (gs := [0]) (by intro j hj; simp at hj; subst hj; exact hg0) rfl (by decide +kernel))
  have pf : F 0 8 = (D 41 : Int) := hPF (0, 0, 8, 41) (List.mem_of_getElem? (i := 40) rfl) hg0 hg
  refine Ew_of (pcₚ := 1) (fun _ => x_aload_n rfl rfl) ?_
  refine v_g H (o := 0) (v := .ref (D 41)) rfl rfl rfl rfl rfl (vrf pf) ?_
  refine Ew_of (pcₚ := 30) (fun _ => x_ifnonnull_t rfl rfl) ?_
  refine Ew_of (pcₚ := 31) (fun _ => x_aload_n rfl rfl) ?_
  refine v_g H (o := 0) (v := .ref (D 41)) rfl rfl rfl rfl rfl (vrf pf) ?_
  exact ⟨_, _, _, _, x_areturn rfl, k⟩
theorem T_the_tok {g : Nat → Bool} {σ : rS} {D N : Nat → Nat} {F : hF} {A : hA} {d c s : Nat} {Q : wQ} (X : PHI g σ D N F A) (k : ∀ (gₚ : Nat → Bool) (σₚ : rS) (Dₚ Nₚ : Nat → Nat) (Fₚ : hF) (Aₚ : hA) (cₚ sₚ : Nat), PHI gₚ σₚ Dₚ Nₚ Fₚ Aₚ → STP g σ D N A c s gₚ σₚ Dₚ Nₚ Aₚ cₚ sₚ → KEP g 0 D N F A Dₚ Nₚ Fₚ Aₚ → gₚ 2 = true → (∀ j, g j = true → gₚ j = true) → Q (some (.ref (Dₚ 41))) σₚ cₚ sₚ) : Ew 36 (d + 4) 0 (rargs 0 [.ref (D 0)]) [] σ c s Q := by
  cases hj : g 2 with
  | true => exact T_h_tok X hj (k g σ D N F A c s X STP_refl KEP_refl hj (fun _ h => h))
  | false =>
    cases h1 : g 1 with
    | true =>
      exact T_mk_tok (d := d + 1) X hj h1 (fun σₚ Dₚ Nₚ Fₚ Aₚ cₚ sₚ X' S' K' => k _ σₚ Dₚ Nₚ Fₚ Aₚ cₚ sₚ X' S' K' (gset_m rfl) (fun _ h => gset_o h))
    | false =>
      exact T_mk_tokF (d := d + 0) X h1 hj  (fun σₚ Dₚ Nₚ Fₚ Aₚ cₚ sₚ X' S' K' => k _ σₚ Dₚ Nₚ Fₚ Aₚ cₚ sₚ X' S' K' (gset_m rfl) (fun _ h => gset_o h))
theorem T_h_tag {g : Nat → Bool} {σ : rS} {D N : Nat → Nat} {F : hF} {A : hA} {d c s : Nat} {Q : wQ} (X : PHI g σ D N F A) (hg : g 3 = true) (k : Q (some (.ref (D 44))) σ c s) : Ew 37 d 0 (rargs 0 [.ref (D 0)]) [] σ c s Q := by
  obtain ⟨HX, HT, hg0, hPF, -⟩ := X
  have H := HWs_sub HX vs_h (SPH_of (gs := [0]) (by intro j hj; simp at hj; subst hj; exact hg0) rfl (by decide +kernel))
  have pf : F 0 9 = (D 44 : Int) := hPF (0, 0, 9, 44) (List.mem_of_getElem? (i := 43) rfl) hg0 hg
  refine Ew_of (pcₚ := 1) (fun _ => x_aload_n rfl rfl) ?_
  refine v_g H (o := 0) (v := .ref (D 44)) rfl rfl rfl rfl rfl (vrf pf) ?_
  refine Ew_of (pcₚ := 26) (fun _ => x_ifnonnull_t rfl rfl) ?_
  refine Ew_of (pcₚ := 27) (fun _ => x_aload_n rfl rfl) ?_
  refine v_g H (o := 0) (v := .ref (D 44)) rfl rfl rfl rfl rfl (vrf pf) ?_
  exact ⟨_, _, _, _, x_areturn rfl, k⟩
theorem T_the_tag {g : Nat → Bool} {σ : rS} {D N : Nat → Nat} {F : hF} {A : hA} {d c s : Nat} {Q : wQ} (X : PHI g σ D N F A) (k : ∀ (gₚ : Nat → Bool) (σₚ : rS) (Dₚ Nₚ : Nat → Nat) (Fₚ : hF) (Aₚ : hA) (cₚ sₚ : Nat), PHI gₚ σₚ Dₚ Nₚ Fₚ Aₚ → STP g σ D N A c s gₚ σₚ Dₚ Nₚ Aₚ cₚ sₚ → KEP g 0 D N F A Dₚ Nₚ Fₚ Aₚ → gₚ 3 = true → (∀ j, g j = true → gₚ j = true) → Q (some (.ref (Dₚ 44))) σₚ cₚ sₚ) : Ew 37 (d + 4) 0 (rargs 0 [.ref (D 0)]) [] σ c s Q := by
  cases hj : g 3 with
  | true => exact T_h_tag X hj (k g σ D N F A c s X STP_refl KEP_refl hj (fun _ h => h))
  | false =>
    cases h1 : g 1 with
    | true =>
      exact T_mk_tag (d := d + 1) X hj h1 (fun σₚ Dₚ Nₚ Fₚ Aₚ cₚ sₚ X' S' K' => k _ σₚ Dₚ Nₚ Fₚ Aₚ cₚ sₚ X' S' K' (gset_m rfl) (fun _ h => gset_o h))
    | false =>
      exact T_mk_tagF (d := d + 0) X h1 hj  (fun σₚ Dₚ Nₚ Fₚ Aₚ cₚ sₚ X' S' K' => k _ σₚ Dₚ Nₚ Fₚ Aₚ cₚ sₚ X' S' K' (gset_m rfl) (fun _ h => gset_o h))
theorem T_h_pac {g : Nat → Bool} {σ : rS} {D N : Nat → Nat} {F : hF} {A : hA} {d c s : Nat} {Q : wQ} (X : PHI g σ D N F A) (hg : g 5 = true) (k : Q (some (.ref (D 75))) σ c s) : Ew 39 d 0 (rargs 0 [.ref (D 0)]) [] σ c s Q := by
  obtain ⟨HX, HT, hg0, hPF, -⟩ := X
  have H := HWs_sub HX vs_h (SPH_of (gs := [0]) (by intro j hj; simp at hj; subst hj; exact hg0) rfl (by decide +kernel))
  have pf : F 0 11 = (D 75 : Int) := hPF (0, 0, 11, 75) (List.mem_of_getElem? (i := 74) rfl) hg0 hg
  refine Ew_of (pcₚ := 1) (fun _ => x_aload_n rfl rfl) ?_
  refine v_g H (o := 0) (v := .ref (D 75)) rfl rfl rfl rfl rfl (vrf pf) ?_
  refine Ew_of (pcₚ := 30) (fun _ => x_ifnonnull_t rfl rfl) ?_
  refine Ew_of (pcₚ := 31) (fun _ => x_aload_n rfl rfl) ?_
  refine v_g H (o := 0) (v := .ref (D 75)) rfl rfl rfl rfl rfl (vrf pf) ?_
  exact ⟨_, _, _, _, x_areturn rfl, k⟩
theorem T_the_pac {g : Nat → Bool} {σ : rS} {D N : Nat → Nat} {F : hF} {A : hA} {d c s : Nat} {Q : wQ} (X : PHI g σ D N F A) (k : ∀ (gₚ : Nat → Bool) (σₚ : rS) (Dₚ Nₚ : Nat → Nat) (Fₚ : hF) (Aₚ : hA) (cₚ sₚ : Nat), PHI gₚ σₚ Dₚ Nₚ Fₚ Aₚ → STP g σ D N A c s gₚ σₚ Dₚ Nₚ Aₚ cₚ sₚ → KEP g 0 D N F A Dₚ Nₚ Fₚ Aₚ → gₚ 5 = true → (∀ j, g j = true → gₚ j = true) → Q (some (.ref (Dₚ 75))) σₚ cₚ sₚ) : Ew 39 (d + 4) 0 (rargs 0 [.ref (D 0)]) [] σ c s Q := by
  cases hj : g 5 with
  | true => exact T_h_pac X hj (k g σ D N F A c s X STP_refl KEP_refl hj (fun _ h => h))
  | false =>
    cases h1 : g 1 with
    | true =>
      cases h4 : g 4 with
      | true =>
        exact T_mk_pac (d := d + 0) X hj h1 h4 (fun σₚ Dₚ Nₚ Fₚ Aₚ cₚ sₚ X' S' K' => k _ σₚ Dₚ Nₚ Fₚ Aₚ cₚ sₚ X' S' K' (gset_m rfl) (fun _ h => gset_o h))
      | false =>
        exact T_mk_pacK (d := d + 0) X h4 hj h1 (fun σₚ Dₚ Nₚ Fₚ Aₚ cₚ sₚ X' S' K' => k _ σₚ Dₚ Nₚ Fₚ Aₚ cₚ sₚ X' S' K' (gset_m rfl) (fun _ h => gset_o h))
    | false =>
      cases h4 : g 4 with
      | true =>
        exact T_mk_pacF (d := d + 0) X h1 hj h4 (fun σₚ Dₚ Nₚ Fₚ Aₚ cₚ sₚ X' S' K' => k _ σₚ Dₚ Nₚ Fₚ Aₚ cₚ sₚ X' S' K' (gset_m rfl) (fun _ h => gset_o h))
      | false =>
        exact T_mk_pacFK (d := d + 0) X h1 h4 hj  (fun σₚ Dₚ Nₚ Fₚ Aₚ cₚ sₚ X' S' K' => k _ σₚ Dₚ Nₚ Fₚ Aₚ cₚ sₚ X' S' K' (gset_m rfl) (fun _ h => gset_o h))
theorem T_h_unp {g : Nat → Bool} {σ : rS} {D N : Nat → Nat} {F : hF} {A : hA} {d c s : Nat} {Q : wQ} (X : PHI g σ D N F A) (hg : g 6 = true) (k : Q (some (.ref (D 200))) σ c s) : Ew 40 d 0 (rargs 0 [.ref (D 0)]) [] σ c s Q := by
  obtain ⟨HX, HT, hg0, hPF, -⟩ := X
  have H := HWs_sub HX vs_h (SPH_of (gs := [0]) (by intro j hj; simp at hj; subst hj; exact hg0) rfl (by decide +kernel))
  have pf : F 0 12 = (D 200 : Int) := hPF (0, 0, 12, 200) (List.mem_of_getElem? (i := 199) rfl) hg0 hg
  refine Ew_of (pcₚ := 1) (fun _ => x_aload_n rfl rfl) ?_
  refine v_g H (o := 0) (v := .ref (D 200)) rfl rfl rfl rfl rfl (vrf pf) ?_
  refine Ew_of (pcₚ := 22) (fun _ => x_ifnonnull_t rfl rfl) ?_
  refine Ew_of (pcₚ := 23) (fun _ => x_aload_n rfl rfl) ?_
  refine v_g H (o := 0) (v := .ref (D 200)) rfl rfl rfl rfl rfl (vrf pf) ?_
  exact ⟨_, _, _, _, x_areturn rfl, k⟩
theorem T_the_unp {g : Nat → Bool} {σ : rS} {D N : Nat → Nat} {F : hF} {A : hA} {d c s : Nat} {Q : wQ} (X : PHI g σ D N F A) (k : ∀ (gₚ : Nat → Bool) (σₚ : rS) (Dₚ Nₚ : Nat → Nat) (Fₚ : hF) (Aₚ : hA) (cₚ sₚ : Nat), PHI gₚ σₚ Dₚ Nₚ Fₚ Aₚ → STP g σ D N A c s gₚ σₚ Dₚ Nₚ Aₚ cₚ sₚ → KEP g 0 D N F A Dₚ Nₚ Fₚ Aₚ → gₚ 6 = true → (∀ j, g j = true → gₚ j = true) → Q (some (.ref (Dₚ 200))) σₚ cₚ sₚ) : Ew 40 (d + 4) 0 (rargs 0 [.ref (D 0)]) [] σ c s Q := by
  cases hj : g 6 with
  | true => exact T_h_unp X hj (k g σ D N F A c s X STP_refl KEP_refl hj (fun _ h => h))
  | false =>
    cases h4 : g 4 with
    | true =>
      exact T_mk_unp (d := d + 0) X hj h4 (fun σₚ Dₚ Nₚ Fₚ Aₚ cₚ sₚ X' S' K' => k _ σₚ Dₚ Nₚ Fₚ Aₚ cₚ sₚ X' S' K' (gset_m rfl) (fun _ h => gset_o h))
    | false =>
      exact T_mk_unpK (d := d + 0) X h4 hj  (fun σₚ Dₚ Nₚ Fₚ Aₚ cₚ sₚ X' S' K' => k _ σₚ Dₚ Nₚ Fₚ Aₚ cₚ sₚ X' S' K' (gset_m rfl) (fun _ h => gset_o h))
