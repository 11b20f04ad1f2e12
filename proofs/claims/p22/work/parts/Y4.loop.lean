/-! the law: its loop -/
theorem law_loop {d L CB SB : Nat} {xs : Nat → Int} {Q : wQ} {D2 N2 : Nat → Nat} (hx : ∀ j, inr (xs j)) (hL : L ≤ 3072) (hQ : ∀ (g : Nat → Bool) (σ : rS) (D N : Nat → Nat) (F : hF) (A : hA) (c s : Nat), PHI g σ D N F A → (c : Int) ≤ CB + PCg g N → (s : Int) ≤ SB + PSg g N → Q (some (I 1)) σ c s) : ∀ (n : Nat) {g : Nat → Bool} {σ : rS} {D N : Nat → Nat} {F F2 : hF} {A A2 : hA} {c s : Nat} (X : PHI g σ D N F A) (Y : RHI σ D2 N2 F2 A2) (hs : SEP g D D2) (hc : SCR σ L xs) (hE : EQS (A 10) (A2 12)) {i : Int} (hi : 0 ≤ i ∧ i ≤ 4000) (hn : (L : Int) - i < n) {ls : rO} (l0 : rlook ls 0 = some (.ref 11)) (l1 : rlook ls 1 = some (.ref (D 0))) (l2 : rlook ls 2 = some (.ref (D2 0))) (l3 : rlook ls 3 = some (I i)) (r1 : (c : Int) ≤ CB + PCg g N) (r2 : (s : Int) ≤ SB + PSg g N), Ew 455 (d + 14) 18 ls [] σ c s Q := by
  intro n
  induction n with
  | zero =>
    intro g σ D N F F2 A A2 c s X Y hs hc hE i hi hn ls l0 l1 l2 l3 r1 r2
    refine Ew_of (pcₚ := 19) (fun _ => x_iload_n rfl l3) ?_
    refine Ew_of (pcₚ := 20) (fun _ => x_aload_n rfl l0) ?_
    refine w_slen hc rfl (by omega) ?_
    refine Ew_of (pcₚ := 23) (fun _ => x_bipush rfl (z := 6) (by decide)) ?_
    refine w_isub rfl ?_
    refine w_icmpgt (t := 1071) rfl rfl (show inr i by omega) (show inr ((L : Int) - 6) by omega) (fun b => ?_) (fun b => ?_)
    · refine Ew_of (pcₚ := 1072) (fun _ => x_iconst rfl) ?_
      exact w_ireturn rfl (hQ g σ D N F A c s X r1 r2)
    · exfalso
      omega
  | succ n ih =>
    intro g σ D N F F2 A A2 c s X Y hs hc hE i hi hn ls l0 l1 l2 l3 r1 r2
    refine Ew_of (pcₚ := 19) (fun _ => x_iload_n rfl l3) ?_
    refine Ew_of (pcₚ := 20) (fun _ => x_aload_n rfl l0) ?_
    refine w_slen hc rfl (by omega) ?_
    refine Ew_of (pcₚ := 23) (fun _ => x_bipush rfl (z := 6) (by decide)) ?_
    refine w_isub rfl ?_
    refine w_icmpgt (t := 1071) rfl rfl (show inr i by omega) (show inr ((L : Int) - 6) by omega) (fun b => ?_) (fun b => ?_)
    · refine Ew_of (pcₚ := 1072) (fun _ => x_iconst rfl) ?_
      exact w_ireturn rfl (hQ g σ D N F A c s X r1 r2)
    · have go : ∀ (gₚ : Nat → Bool) (σₚ : rS) (Dₚ Nₚ : Nat → Nat) (Fₚ : hF) (Aₚ : hA) (F2ₚ : hF) (A2ₚ : hA) (cₚ sₚ : Nat), PHI gₚ σₚ Dₚ Nₚ Fₚ Aₚ → RHI σₚ D2 N2 F2ₚ A2ₚ → SEP gₚ Dₚ D2 → SCR σₚ L xs → Dₚ 0 = D 0 → RMG g N c s gₚ Nₚ cₚ sₚ → EQS (Aₚ 10) (A2ₚ 12) → Ew 455 (d + 14) 1065 ls [] σₚ cₚ sₚ Q := by
        intro gₚ σₚ Dₚ Nₚ Fₚ Aₚ F2ₚ A2ₚ cₚ sₚ X' Y' hs' hc' d0 rm hE'
        obtain ⟨m1, m2⟩ := rm
        refine Ew_of (pcₚ := 1068) (fun _ => x_iinc (m := 6) (len := 3) rfl l3) ?_
        refine Ew_of (pcₚ := 18) (fun _ => x_goto rfl rfl) ?_
        exact ih X' Y' hs' hc' hE' (by omega) (by omega) (rk_o l0 rfl rfl) (by rw [d0]; exact rk_o l1 rfl rfl) (rk_o l2 rfl rfl) rk_s (by omega) (by omega)
      refine Ew_of (pcₚ := 28) (fun _ => x_aload_n rfl l0) ?_
      refine Ew_of (pcₚ := 29) (fun _ => x_iload_n rfl l3) ?_
      refine w_scr hc rfl (by omega) (by omega) ?_
      refine Ew_of (pcₚ := 32) (fun _ => x_bipush rfl (z := 31) (by decide)) ?_
      refine w_iand rfl (hx _) (show inr 31 by omega) (fun z hz _ hb => ?_)
      rcases (show z = 0 ∨ z = 1 ∨ z = 2 ∨ z = 3 ∨ z = 4 ∨ z = 5 ∨ z = 6 ∨ z = 7 ∨ z = 8 ∨ z = 9 ∨ z = 10 ∨ z = 11 ∨ z = 12 ∨ z = 13 ∨ z = 14 ∨ z = 15 ∨ z = 16 ∨ z = 17 ∨ z = 18 ∨ z = 19 ∨ z = 20 ∨ z = 21 ∨ z = 22 ∨ 22 < z by have := hb (by omega); omega) with rfl | rfl | rfl | rfl | rfl | rfl | rfl | rfl | rfl | rfl | rfl | rfl | rfl | rfl | rfl | rfl | rfl | rfl | rfl | rfl | rfl | rfl | rfl | hd
      · refine w_tsk 0 140 rfl hz (by omega) (by decide) rfl rfl ?_
        exact LC_0 (d := d) X Y hs hc hE hx (by omega) ⟨by omega, by omega⟩ l0 l1 l2 l3 go
      · refine w_tsk 1 203 rfl hz (by omega) (by decide) rfl rfl ?_
        exact LC_1 (d := d) X Y hs hc hE hx (by omega) ⟨by omega, by omega⟩ l0 l1 l2 l3 go
      · refine w_tsk 2 276 rfl hz (by omega) (by decide) rfl rfl ?_
        exact LC_2 (d := d) X Y hs hc hE hx (by omega) ⟨by omega, by omega⟩ l0 l1 l2 l3 go
      · refine w_tsk 3 319 rfl hz (by omega) (by decide) rfl rfl ?_
        exact LC_3 (d := d) X Y hs hc hE hx (by omega) ⟨by omega, by omega⟩ l0 l1 l2 l3 go
      · refine w_tsk 4 352 rfl hz (by omega) (by decide) rfl rfl ?_
        exact LC_4 (d := d) X Y hs hc hE hx (by omega) ⟨by omega, by omega⟩ l0 l1 l2 l3 go
      · refine w_tsk 5 405 rfl hz (by omega) (by decide) rfl rfl ?_
        exact LC_5 (d := d) X Y hs hc hE hx (by omega) ⟨by omega, by omega⟩ l0 l1 l2 l3 go
      · refine w_tsk 6 428 rfl hz (by omega) (by decide) rfl rfl ?_
        exact LC_6 (d := d) X Y hs hc hE hx (by omega) ⟨by omega, by omega⟩ l0 l1 l2 l3 go
      · refine w_tsk 7 461 rfl hz (by omega) (by decide) rfl rfl ?_
        exact LC_7 (d := d) X Y hs hc hE hx (by omega) ⟨by omega, by omega⟩ l0 l1 l2 l3 go
      · refine w_tsk 8 494 rfl hz (by omega) (by decide) rfl rfl ?_
        exact LC_8 (d := d) X Y hs hc hE hx (by omega) ⟨by omega, by omega⟩ l0 l1 l2 l3 go
      · refine w_tsk 9 527 rfl hz (by omega) (by decide) rfl rfl ?_
        exact LC_9 (d := d) X Y hs hc hE hx (by omega) ⟨by omega, by omega⟩ l0 l1 l2 l3 go
      · refine w_tsk 10 550 rfl hz (by omega) (by decide) rfl rfl ?_
        exact LC_10 (d := d) X Y hs hc hE hx (by omega) ⟨by omega, by omega⟩ l0 l1 l2 l3 go
      · refine w_tsk 11 603 rfl hz (by omega) (by decide) rfl rfl ?_
        exact LC_11 (d := d) X Y hs hc hE hx (by omega) ⟨by omega, by omega⟩ l0 l1 l2 l3 go
      · refine w_tsk 12 686 rfl hz (by omega) (by decide) rfl rfl ?_
        exact LC_12 (d := d) X Y hs hc hE hx (by omega) ⟨by omega, by omega⟩ l0 l1 l2 l3 go
      · refine w_tsk 13 755 rfl hz (by omega) (by decide) rfl rfl ?_
        exact LC_13 (d := d) X Y hs hc hE hx (by omega) ⟨by omega, by omega⟩ l0 l1 l2 l3 go
      · refine w_tsk 14 778 rfl hz (by omega) (by decide) rfl rfl ?_
        exact LC_14 (d := d) X Y hs hc hE hx (by omega) ⟨by omega, by omega⟩ l0 l1 l2 l3 go
      · refine w_tsk 15 801 rfl hz (by omega) (by decide) rfl rfl ?_
        exact LC_15 (d := d) X Y hs hc hE hx (by omega) ⟨by omega, by omega⟩ l0 l1 l2 l3 go
      · refine w_tsk 16 824 rfl hz (by omega) (by decide) rfl rfl ?_
        exact LC_16 (d := d) X Y hs hc hE hx (by omega) ⟨by omega, by omega⟩ l0 l1 l2 l3 go
      · refine w_tsk 17 867 rfl hz (by omega) (by decide) rfl rfl ?_
        exact LC_17 (d := d) X Y hs hc hE hx (by omega) ⟨by omega, by omega⟩ l0 l1 l2 l3 go
      · refine w_tsk 18 920 rfl hz (by omega) (by decide) rfl rfl ?_
        exact LC_18 (d := d) X Y hs hc hE hx (by omega) ⟨by omega, by omega⟩ l0 l1 l2 l3 go
      · refine w_tsk 19 943 rfl hz (by omega) (by decide) rfl rfl ?_
        exact LC_19 (d := d) X Y hs hc hE hx (by omega) ⟨by omega, by omega⟩ l0 l1 l2 l3 go
      · refine w_tsk 20 986 rfl hz (by omega) (by decide) rfl rfl ?_
        exact LC_20 (d := d) X Y hs hc hE hx (by omega) ⟨by omega, by omega⟩ l0 l1 l2 l3 go
      · refine w_tsk 21 1019 rfl hz (by omega) (by decide) rfl rfl ?_
        exact LC_21 (d := d) X Y hs hc hE hx (by omega) ⟨by omega, by omega⟩ l0 l1 l2 l3 go
      · refine w_tsk 22 1042 rfl hz (by omega) (by decide) rfl rfl ?_
        exact LC_22 (d := d) X Y hs hc hE hx (by omega) ⟨by omega, by omega⟩ l0 l1 l2 l3 go
      · refine w_tsd 1065 rfl hz (by omega) rfl ?_
        exact go g σ D N F A F2 A2 c s X Y hs hc rfl ⟨Int.le_refl _, Int.le_refl _⟩ hE
