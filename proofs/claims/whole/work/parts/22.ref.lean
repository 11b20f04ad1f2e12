/-- Tokens.append -/
theorem M368 {σ0 σ : rS} {D N : Nat → Nat} {F : hF} {A : hA} {d c s : Nat} {Q : wQ} (H : HS σ0 σ D N F A) {a1 a2 : Int} (h0 : inr a1) (h1 : inr a2) (h2 : 0 ≤ F 3 5 ∧ F 3 5 ≤ 16384) (h3 : 0 ≤ a1 ∧ a1 ≤ a2 ∧ a2 ≤ 65536 ∧ F 3 5 + (a2 - a1) ≤ 16384) (k : ∀ σ F' A', HS σ0 σ D N F' A' → SF [(3, 5)] F F' → SA [18] A A' → ((F' 3 5) = (F 3 5) + (a2 - a1)) → Q none σ c s) : Ew 368 (d + 0) 0 (rargs 0 [.ref (D 3), I a1, I a2]) [] σ c s Q := by
  have rp3_5 : (-2147483648 : Int) ≤ F 3 5 ∧ F 3 5 ≤ 2147483647 := H.frng 3 5
  refine Ew_of (pc' := 1) (fun _ => x_iload_n rfl rfl) ?_
  refine Ew_of (pc' := 2) (fun _ => x_istore_n rfl) ?_
  have r1 : (-2147483648 : Int) ≤ F 3 5 ∧ F 3 5 ≤ 2147483647 := by have h1 : (-2147483648 : Int) ≤ F 3 5 ∧ F 3 5 ≤ 2147483647 := H.frng 3 5; have h2 : F 3 5 = F 3 5 := rfl; omega
  suffices hl2 : ∀ (m : Nat) (ls : rO) (σ : rS) (F_2 : hF) (A_2 : hA) (x2_3 : Int), rlook ls 0 = some (.ref (D 3)) → rlook ls 2 = some (I (a2)) → rlook ls 3 = some (I (x2_3)) → HS σ0 σ D N F_2 A_2 → SF [(3, 5)] F F_2 → SA [18] A A_2 → (inr x2_3) → ((a1) ≤ x2_3) → (x2_3 ≤ (a1) ∨ x2_3 ≤ (a2)) → ((F_2 3 5) = (F 3 5) + (x2_3 - a1)) → ((a2) - x2_3).toNat = m → Ew 368 (d + 0) 2 ls [] σ c s Q from
    hl2 _ _ _ _ _ (a1) (rk_o (rfl) rfl rfl) (rk_o (rfl) rfl rfl) (rk_s) H SF_refl SA_refl (by show inr (a1); omega) (by show (a1) ≤ (a1); omega) (by show (a1) ≤ (a1) ∨ (a1) ≤ ((a2)); omega) (by have : (-2147483648 : Int) ≤ F 3 5 ∧ F 3 5 ≤ 2147483647 := H.frng 3 5; have : F 3 5 = F 3 5 := rfl; show (F 3 5) = (F 3 5) + ((a1) - a1); omega) rfl
  intro m
  induction m using Nat.strongRecOn with
  | _ m ih2 =>
    intro ls σ F_2 A_2 x2_3 l2_0 l2_2 l2_3 H hS_2 hA_2 j2_0 j2_1 j2_2 j2_3 hm2
    have r2 : (-2147483648 : Int) ≤ F_2 3 5 ∧ F_2 3 5 ≤ 2147483647 := by have h1 : (-2147483648 : Int) ≤ F_2 3 5 ∧ F_2 3 5 ≤ 2147483647 := H.frng 3 5; have h2 : F_2 3 5 = F_2 3 5 := rfl; omega
    refine Ew_of (pc' := 3) (fun _ => x_iload_n rfl l2_3) ?_
    refine Ew_of (pc' := 4) (fun _ => x_iload_n rfl l2_2) ?_
    refine w_icmpge (t := 41) rfl rfl (show inr (x2_3) by omega) (show inr (a2) by omega) (fun b3 => ?_) (fun b3 => ?_)
    · exact w_ret rfl (k σ _ _ H (SF_trans (SF_refl) hS_2 (any_sub rfl)) (SA_trans (SA_refl) hA_2 (any_subA rfl)) (by have : (-2147483648 : Int) ≤ F_2 3 5 ∧ F_2 3 5 ≤ 2147483647 := H.frng 3 5; have : F_2 3 5 = F_2 3 5 := rfl; show (F_2 3 5) = (F 3 5) + (a2 - a1); omega))
    · refine Ew_of (pc' := 8) (fun _ => x_aload_n rfl l2_0) ?_
      refine w_gT H (o := 3) (t := 18) rfl (H.perm 3 rfl) rfl rfl rfl rfl rfl rfl ?_
      refine Ew_of (pc' := 12) (fun _ => x_aload_n rfl l2_0) ?_
      refine w_gI H (o := 3) (w := F_2 3 5) rfl (H.perm 3 rfl) rfl rfl rfl (fun _ => rfl) rfl ?_
      have r4 : (-2147483648 : Int) ≤ F_2 3 5 ∧ F_2 3 5 ≤ 2147483647 := by have h1 : (-2147483648 : Int) ≤ F_2 3 5 ∧ F_2 3 5 ≤ 2147483647 := H.frng 3 5; have h2 : F_2 3 5 = F_2 3 5 := rfl; omega
      refine Ew_of (pc' := 16) (fun _ => x_aload_n rfl l2_0) ?_
      refine w_gT H (o := 3) (t := 1) rfl (H.perm 3 rfl) rfl rfl rfl rfl rfl rfl ?_
      refine w_gT H (o := 1) (t := 14) rfl (H.perm 1 rfl) rfl rfl rfl rfl rfl rfl ?_
      refine Ew_of (pc' := 23) (fun _ => x_iload_n rfl l2_3) ?_
      refine w_lI H (o := 14) (n := 65536) rfl (H.perm 14 rfl) rfl rfl (H.fix 14 rfl rfl) (show 0 ≤ x2_3 ∧ x2_3 < ((65536 : Nat) : Int) by omega) (by decide) (fun v5 ev5 qv5 => ?_)
      have qv5 : (0 : Int) ≤ v5 ∧ v5 ≤ 255 := qv5
      have ev5 : A_2 14 (x2_3) = v5 := ev5
      have ev5 : A 14 (x2_3) = v5 := by have : A_2 14 (x2_3) = A 14 (x2_3) := hA_2 14 rfl (x2_3); omega
      refine w_sI H (o := 18) (n := 16384) rfl (H.perm 18 rfl) rfl rfl (H.fix 18 rfl rfl) (show 0 ≤ F_2 3 5 ∧ F_2 3 5 < ((16384 : Nat) : Int) by omega) (by decide) (show (0 : Int) ≤ v5 ∧ v5 ≤ 255 by omega) (fun σ H => ?_)
      refine Ew_of (pc' := 26) (fun _ => x_aload_n rfl l2_0) ?_
      refine Ew_of (pc' := 27) (fun _ => x_dup rfl rfl) ?_
      refine w_gI H (o := 3) (w := F_2 3 5) rfl (H.perm 3 rfl) rfl rfl rfl (fun _ => rfl) rfl ?_
      have r6 : (-2147483648 : Int) ≤ F_2 3 5 ∧ F_2 3 5 ≤ 2147483647 := by have h1 : (-2147483648 : Int) ≤ F_2 3 5 ∧ F_2 3 5 ≤ 2147483647 := H.frng 3 5; have h2 : F_2 3 5 = F_2 3 5 := rfl; omega
      refine Ew_of (pc' := 31) (fun _ => x_iconst rfl) ?_
      refine w_iadd rfl ?_
      refine w_pI H (o := 3) rfl rfl (H.perm 3 rfl) rfl rfl rfl (fun _ => rfl) rfl (show (-2147483648 : Int) ≤ (F_2 3 5 + 1) ∧ (F_2 3 5 + 1) ≤ 2147483647 by omega) (fun σ H => ?_)
      refine Ew_of (pc' := 38) (fun _ => x_iinc (len := 3) rfl (l2_3)) ?_
      refine Ew_of (pc' := 2) (fun _ => x_goto rfl rfl) ?_
      exact ih2 _ (by omega) _ σ _ _ ((x2_3 + 1)) (rk_o (l2_0) rfl rfl) (rk_o (l2_2) rfl rfl) (rk_s) H (SF_upd (hS_2) rfl) (SA_upd (hA_2) rfl) (by show inr ((x2_3 + 1)); omega) (by show (a1) ≤ ((x2_3 + 1)); omega) (by show ((x2_3 + 1)) ≤ (a1) ∨ ((x2_3 + 1)) ≤ ((a2)); omega) (by have : (-2147483648 : Int) ≤ (updF F_2 3 5 ((F_2 3 5 + 1))) 3 5 ∧ (updF F_2 3 5 ((F_2 3 5 + 1))) 3 5 ≤ 2147483647 := H.frng 3 5; have : (updF F_2 3 5 ((F_2 3 5 + 1))) 3 5 = (F_2 3 5 + 1) := rfl; show ((updF F_2 3 5 ((F_2 3 5 + 1))) 3 5) = (F 3 5) + (((x2_3 + 1)) - a1); omega) rfl
/-- Tokens.sequence -/
theorem M365 {σ0 σ : rS} {D N : Nat → Nat} {F : hF} {A : hA} {d c s : Nat} {Q : wQ} (H : HS σ0 σ D N F A) {a1 a2 a3 a4 : Int} (h0 : inr a1) (h1 : inr a2) (h2 : inr a3) (h3 : inr a4) (h4 : 0 ≤ a1 ∧ a1 ≤ a2 ∧ a2 ≤ 16384) (h5 : a3 = 0 ∨ 4 ≤ a3) (h6 : a3 ≤ 16384 ∧ 0 ≤ a4 ∧ a4 ≤ 16384) (h7 : 0 ≤ F 3 10 ∧ F 3 10 ≤ 5000000) (k : ∀ σ F' A', HS σ0 σ D N F' A' → SF [(3, 10)] F F' → SA [20] A A' → ((F 3 10) ≤ (F' 3 10) ∧ (F' 3 10) ≤ (F 3 10) + (a2 - a1) + 140) → Q none σ c s) : Ew 365 (d + 2) 0 (rargs 0 [.ref (D 3), I a1, I a2, I a3, I a4]) [] σ c s Q := by
  have rp3_10 : (-2147483648 : Int) ≤ F 3 10 ∧ F 3 10 ≤ 2147483647 := H.frng 3 10
  refine Ew_of (pc' := 1) (fun _ => x_iload_n rfl rfl) ?_
  refine Ew_of (pc' := 2) (fun _ => x_iload_n rfl rfl) ?_
  refine w_isub rfl ?_
  refine Ew_of (pc' := 5) (fun _ => x_istore rfl) ?_
  refine Ew_of (pc' := 6) (fun _ => x_iload_n rfl (rk_o (rfl) rfl rfl)) ?_
  refine Ew_of (pc' := 7) (fun _ => x_iconst rfl) ?_
  refine w_isub rfl ?_
  refine Ew_of (pc' := 10) (fun _ => x_istore rfl) ?_
  refine Ew_of (pc' := 11) (fun _ => x_aload_n rfl (rk_o (rk_o (rfl) rfl rfl) rfl rfl)) ?_
  refine Ew_of (pc' := 13) (fun _ => x_iload rfl (rk_o (rk_s) rfl rfl)) ?_
  refine Ew_of (pc' := 15) (fun _ => x_bipush (z := 15) rfl (by decide)) ?_
  refine w_icmple (t := 23) rfl rfl (show inr ((a2 - a1)) by omega) (show inr (15) by omega) (fun b1 => ?_) (fun b1 => ?_)
  · refine Ew_of (pc' := 25) (fun _ => x_iload rfl (rk_o (rk_s) rfl rfl)) ?_
    refine Ew_of (pc' := 27) (fun _ => x_bipush (z := 16) rfl (by decide)) ?_
    refine w_imul rfl ?_
    refine Ew_of (pc' := 29) (fun _ => x_iload_n rfl (rk_o (rk_o (rfl) rfl rfl) rfl rfl)) ?_
    refine w_ifne (t := 36) rfl rfl (show inr (a3) by omega) (fun b2 => ?_) (fun b2 => ?_)
    · refine Ew_of (pc' := 38) (fun _ => x_iload rfl rk_s) ?_
      refine Ew_of (pc' := 40) (fun _ => x_bipush (z := 15) rfl (by decide)) ?_
      refine w_icmple (t := 48) rfl rfl (show inr ((a3 - 4)) by omega) (show inr (15) by omega) (fun b3 => ?_) (fun b3 => ?_)
      · refine Ew_of (pc' := 50) (fun _ => x_iload rfl rk_s) ?_
        refine w_iadd rfl ?_
        have r9 : (-2147483648 : Int) ≤ F 3 10 ∧ F 3 10 ≤ 2147483647 := by have : (-2147483648 : Int) ≤ F 3 10 ∧ F 3 10 ≤ 2147483647 := H.frng 3 10; have : F 3 10 = F 3 10 := rfl; omega
        refine w_inv H (o := 3) rfl rfl rfl (H.perm 3 rfl) rfl rfl (by rfl) (M363 H (by show inr ((((a2 - a1) * 16) + (a3 - 4))); omega) (by show 0 ≤ ((((a2 - a1) * 16) + (a3 - 4))) ∧ ((((a2 - a1) * 16) + (a3 - 4))) ≤ 255; omega) (by have : (-2147483648 : Int) ≤ F 3 10 ∧ F 3 10 ≤ 2147483647 := H.frng 3 10; have : F 3 10 = F 3 10 := rfl; show 0 ≤ (F 3 10) ∧ (F 3 10) ≤ 100000000; omega) (fun σ F4 A5 H hS6 hA7 pz80 => ⟨rfl, ?_⟩))
        have pz80 : (F4 3 10) = (F 3 10) + 1 := by have : (F4 3 10) = (F 3 10) + 1 := pz80; omega
        refine Ew_of (pc' := 55) (fun _ => x_aload_n rfl (rk_o (rk_o (rfl) rfl rfl) rfl rfl)) ?_
        refine Ew_of (pc' := 57) (fun _ => x_iload rfl (rk_o (rk_s) rfl rfl)) ?_
        have r15 : (-2147483648 : Int) ≤ F4 3 10 ∧ F4 3 10 ≤ 2147483647 := by have : (-2147483648 : Int) ≤ F4 3 10 ∧ F4 3 10 ≤ 2147483647 := H.frng 3 10; have : F4 3 10 = F4 3 10 := rfl; omega
        refine w_inv H (o := 3) rfl rfl rfl (H.perm 3 rfl) rfl rfl (by rfl) (M364 H (by show inr ((a2 - a1)); omega) (by show -10 ≤ ((a2 - a1)) ∧ ((a2 - a1)) ≤ 100000; omega) (by have : (-2147483648 : Int) ≤ F4 3 10 ∧ F4 3 10 ≤ 2147483647 := H.frng 3 10; have : F4 3 10 = F4 3 10 := rfl; show 0 ≤ (F4 3 10) ∧ (F4 3 10) ≤ 10000000; omega) (fun σ F10 A11 H hS12 hA13 pz140 => ⟨rfl, ?_⟩))
        have pz140 : (F10 3 10) * 255 ≤ (F4 3 10) * 255 + 255 + ((a2 - a1)) + 10 ∧ (F4 3 10) ≤ (F10 3 10) := by have : F4 3 10 = F4 3 10 := rfl; have : (F10 3 10) * 255 ≤ (F4 3 10) * 255 + 255 + ((a2 - a1)) + 10 ∧ (F4 3 10) ≤ (F10 3 10) := pz140; omega
        refine Ew_of (pc' := 61) (fun _ => x_iload_n rfl (rk_o (rk_o (rfl) rfl rfl) rfl rfl)) ?_
        refine Ew_of (pc' := 63) (fun _ => x_istore rfl) ?_
        have r16 : (-2147483648 : Int) ≤ F10 3 10 ∧ F10 3 10 ≤ 2147483647 := by have h1 : (-2147483648 : Int) ≤ F10 3 10 ∧ F10 3 10 ≤ 2147483647 := H.frng 3 10; have h2 : F10 3 10 = F10 3 10 := rfl; omega
        suffices hl63 : ∀ (m : Nat) (ls : rO) (σ : rS) (F_63 : hF) (A_63 : hA) (x63_7 : Int), rlook ls 0 = some (.ref (D 3)) → rlook ls 2 = some (I (a2)) → rlook ls 3 = some (I (a3)) → rlook ls 4 = some (I (a4)) → rlook ls 6 = some (I ((a3 - 4))) → rlook ls 7 = some (I (x63_7)) → HS σ0 σ D N F_63 A_63 → SF [(3, 10)] F10 F_63 → SA [20] A11 A_63 → (inr x63_7) → ((a1) ≤ x63_7) → (x63_7 ≤ (a1) ∨ x63_7 ≤ (a2)) → ((F_63 3 10) = (F10 3 10) + (x63_7 - a1)) → ((a2) - x63_7).toNat = m → Ew 365 (d + 2) 63 ls [] σ c s Q from
          hl63 _ _ _ _ _ (a1) (rk_o (rk_o (rk_o (rfl) rfl rfl) rfl rfl) rfl rfl) (rk_o (rk_o (rk_o (rfl) rfl rfl) rfl rfl) rfl rfl) (rk_o (rk_o (rk_o (rfl) rfl rfl) rfl rfl) rfl rfl) (rk_o (rk_o (rk_o (rfl) rfl rfl) rfl rfl) rfl rfl) (rk_o (rk_s) rfl rfl) (rk_s) H SF_refl SA_refl (by show inr (a1); omega) (by show (a1) ≤ (a1); omega) (by show (a1) ≤ (a1) ∨ (a1) ≤ ((a2)); omega) (by have : (-2147483648 : Int) ≤ F10 3 10 ∧ F10 3 10 ≤ 2147483647 := H.frng 3 10; have : F10 3 10 = F10 3 10 := rfl; show (F10 3 10) = (F10 3 10) + ((a1) - a1); omega) rfl
        intro m
        induction m using Nat.strongRecOn with
        | _ m ih63 =>
          intro ls σ F_63 A_63 x63_7 l63_0 l63_2 l63_3 l63_4 l63_6 l63_7 H hS_63 hA_63 j63_0 j63_1 j63_2 j63_3 hm63
          have r17 : (-2147483648 : Int) ≤ F_63 3 10 ∧ F_63 3 10 ≤ 2147483647 := by have h1 : (-2147483648 : Int) ≤ F_63 3 10 ∧ F_63 3 10 ≤ 2147483647 := H.frng 3 10; have h2 : F_63 3 10 = F_63 3 10 := rfl; omega
          refine Ew_of (pc' := 65) (fun _ => x_iload rfl l63_7) ?_
          refine Ew_of (pc' := 66) (fun _ => x_iload_n rfl l63_2) ?_
          refine w_icmpge (t := 86) rfl rfl (show inr (x63_7) by omega) (show inr (a2) by omega) (fun b18 => ?_) (fun b18 => ?_)
          · refine Ew_of (pc' := 87) (fun _ => x_iload_n rfl l63_3) ?_
            refine w_ifne (t := 91) rfl rfl (show inr (a3) by omega) (fun b19 => ?_) (fun b19 => ?_)
            · refine Ew_of (pc' := 92) (fun _ => x_aload_n rfl l63_0) ?_
              refine Ew_of (pc' := 94) (fun _ => x_iload rfl l63_4) ?_
              refine Ew_of (pc' := 97) (fun _ => x_sipush (z := 256) rfl (by decide)) ?_
              refine w_irem rfl (show inr (a4) ∧ 0 ≤ a4 by omega) (show inr (256) ∧ 0 < 256 by omega) ?_
              have r25 : (-2147483648 : Int) ≤ F_63 3 10 ∧ F_63 3 10 ≤ 2147483647 := by have : (-2147483648 : Int) ≤ F_63 3 10 ∧ F_63 3 10 ≤ 2147483647 := H.frng 3 10; have : F_63 3 10 = F_63 3 10 := rfl; omega
              refine w_inv H (o := 3) rfl rfl rfl (H.perm 3 rfl) rfl rfl (by rfl) (M363 H (by show inr ((a4 % 256)); omega) (by show 0 ≤ ((a4 % 256)) ∧ ((a4 % 256)) ≤ 255; omega) (by have : (-2147483648 : Int) ≤ F_63 3 10 ∧ F_63 3 10 ≤ 2147483647 := H.frng 3 10; have : F_63 3 10 = F_63 3 10 := rfl; show 0 ≤ (F_63 3 10) ∧ (F_63 3 10) ≤ 100000000; omega) (fun σ F20 A21 H hS22 hA23 pz240 => ⟨rfl, ?_⟩))
              have pz240 : (F20 3 10) = (F_63 3 10) + 1 := by have : F_63 3 10 = F_63 3 10 := rfl; have : (F20 3 10) = (F_63 3 10) + 1 := pz240; omega
              refine Ew_of (pc' := 102) (fun _ => x_aload_n rfl l63_0) ?_
              refine Ew_of (pc' := 104) (fun _ => x_iload rfl l63_4) ?_
              refine Ew_of (pc' := 107) (fun _ => x_sipush (z := 256) rfl (by decide)) ?_
              refine w_idiv rfl (show inr (a4) ∧ 0 ≤ a4 by omega) (show inr (256) ∧ 0 < 256 by omega) ?_
              have r31 : (-2147483648 : Int) ≤ F20 3 10 ∧ F20 3 10 ≤ 2147483647 := by have : (-2147483648 : Int) ≤ F20 3 10 ∧ F20 3 10 ≤ 2147483647 := H.frng 3 10; have : F20 3 10 = F20 3 10 := rfl; omega
              refine w_inv H (o := 3) rfl rfl rfl (H.perm 3 rfl) rfl rfl (by rfl) (M363 H (by show inr ((a4 / 256)); omega) (by show 0 ≤ ((a4 / 256)) ∧ ((a4 / 256)) ≤ 255; omega) (by have : (-2147483648 : Int) ≤ F20 3 10 ∧ F20 3 10 ≤ 2147483647 := H.frng 3 10; have : F20 3 10 = F20 3 10 := rfl; show 0 ≤ (F20 3 10) ∧ (F20 3 10) ≤ 100000000; omega) (fun σ F26 A27 H hS28 hA29 pz300 => ⟨rfl, ?_⟩))
              have pz300 : (F26 3 10) = (F20 3 10) + 1 := by have : F20 3 10 = F20 3 10 := rfl; have : (F26 3 10) = (F20 3 10) + 1 := pz300; omega
              refine Ew_of (pc' := 112) (fun _ => x_aload_n rfl l63_0) ?_
              refine Ew_of (pc' := 114) (fun _ => x_iload rfl l63_6) ?_
              have r37 : (-2147483648 : Int) ≤ F26 3 10 ∧ F26 3 10 ≤ 2147483647 := by have : (-2147483648 : Int) ≤ F26 3 10 ∧ F26 3 10 ≤ 2147483647 := H.frng 3 10; have : F26 3 10 = F26 3 10 := rfl; omega
              refine w_inv H (o := 3) rfl rfl rfl (H.perm 3 rfl) rfl rfl (by rfl) (M364 H (by show inr ((a3 - 4)); omega) (by show -10 ≤ ((a3 - 4)) ∧ ((a3 - 4)) ≤ 100000; omega) (by have : (-2147483648 : Int) ≤ F26 3 10 ∧ F26 3 10 ≤ 2147483647 := H.frng 3 10; have : F26 3 10 = F26 3 10 := rfl; show 0 ≤ (F26 3 10) ∧ (F26 3 10) ≤ 10000000; omega) (fun σ F32 A33 H hS34 hA35 pz360 => ⟨rfl, ?_⟩))
              have pz360 : (F32 3 10) * 255 ≤ (F26 3 10) * 255 + 255 + ((a3 - 4)) + 10 ∧ (F26 3 10) ≤ (F32 3 10) := by have : F26 3 10 = F26 3 10 := rfl; have : (F32 3 10) * 255 ≤ (F26 3 10) * 255 + 255 + ((a3 - 4)) + 10 ∧ (F26 3 10) ≤ (F32 3 10) := pz360; omega
              exact w_ret rfl (k σ _ _ H (SF_trans (SF_trans (SF_trans (SF_trans (SF_trans (SF_trans (SF_refl) hS6 (any_sub rfl)) hS12 (any_sub rfl)) hS_63 (any_sub rfl)) hS22 (any_sub rfl)) hS28 (any_sub rfl)) hS34 (any_sub rfl)) (SA_trans (SA_trans (SA_trans (SA_trans (SA_trans (SA_trans (SA_refl) hA7 (any_subA rfl)) hA13 (any_subA rfl)) hA_63 (any_subA rfl)) hA23 (any_subA rfl)) hA29 (any_subA rfl)) hA35 (any_subA rfl)) (by have : (-2147483648 : Int) ≤ F32 3 10 ∧ F32 3 10 ≤ 2147483647 := H.frng 3 10; have : F32 3 10 = F32 3 10 := rfl; show (F 3 10) ≤ (F32 3 10) ∧ (F32 3 10) ≤ (F 3 10) + (a2 - a1) + 140; omega))
            · exact w_ret rfl (k σ _ _ H (SF_trans (SF_trans (SF_trans (SF_refl) hS6 (any_sub rfl)) hS12 (any_sub rfl)) hS_63 (any_sub rfl)) (SA_trans (SA_trans (SA_trans (SA_refl) hA7 (any_subA rfl)) hA13 (any_subA rfl)) hA_63 (any_subA rfl)) (by have : (-2147483648 : Int) ≤ F_63 3 10 ∧ F_63 3 10 ≤ 2147483647 := H.frng 3 10; have : F_63 3 10 = F_63 3 10 := rfl; show (F 3 10) ≤ (F_63 3 10) ∧ (F_63 3 10) ≤ (F 3 10) + (a2 - a1) + 140; omega))
          · refine Ew_of (pc' := 70) (fun _ => x_aload_n rfl l63_0) ?_
            refine Ew_of (pc' := 71) (fun _ => x_aload_n rfl l63_0) ?_
            refine w_gT H (o := 3) (t := 18) rfl (H.perm 3 rfl) rfl rfl rfl rfl rfl rfl ?_
            refine Ew_of (pc' := 76) (fun _ => x_iload rfl l63_7) ?_
            refine w_lI H (o := 18) (n := 16384) rfl (H.perm 18 rfl) rfl rfl (H.fix 18 rfl rfl) (show 0 ≤ x63_7 ∧ x63_7 < ((16384 : Nat) : Int) by omega) (by decide) (fun v38 ev38 qv38 => ?_)
            have qv38 : (0 : Int) ≤ v38 ∧ v38 ≤ 255 := qv38
            have ev38 : A_63 18 (x63_7) = v38 := ev38
            have ev38 : A 18 (x63_7) = v38 := by have : A_63 18 (x63_7) = A11 18 (x63_7) := hA_63 18 rfl (x63_7); have : A11 18 (x63_7) = A5 18 (x63_7) := hA13 18 rfl (x63_7); have : A5 18 (x63_7) = A 18 (x63_7) := hA7 18 rfl (x63_7); omega
            have r44 : (-2147483648 : Int) ≤ F_63 3 10 ∧ F_63 3 10 ≤ 2147483647 := by have : (-2147483648 : Int) ≤ F_63 3 10 ∧ F_63 3 10 ≤ 2147483647 := H.frng 3 10; have : F_63 3 10 = F_63 3 10 := rfl; omega
            refine w_inv H (o := 3) rfl rfl rfl (H.perm 3 rfl) rfl rfl (by rfl) (M363 H (by show inr (v38); omega) (by show 0 ≤ (v38) ∧ (v38) ≤ 255; omega) (by have : (-2147483648 : Int) ≤ F_63 3 10 ∧ F_63 3 10 ≤ 2147483647 := H.frng 3 10; have : F_63 3 10 = F_63 3 10 := rfl; show 0 ≤ (F_63 3 10) ∧ (F_63 3 10) ≤ 100000000; omega) (fun σ F39 A40 H hS41 hA42 pz430 => ⟨rfl, ?_⟩))
            have pz430 : (F39 3 10) = (F_63 3 10) + 1 := by have : F_63 3 10 = F_63 3 10 := rfl; have : (F39 3 10) = (F_63 3 10) + 1 := pz430; omega
            refine Ew_of (pc' := 83) (fun _ => x_iinc (len := 3) rfl (l63_7)) ?_
            refine Ew_of (pc' := 63) (fun _ => x_goto rfl rfl) ?_
            exact ih63 _ (by omega) _ σ _ _ ((x63_7 + 1)) (rk_o (l63_0) rfl rfl) (rk_o (l63_2) rfl rfl) (rk_o (l63_3) rfl rfl) (rk_o (l63_4) rfl rfl) (rk_o (l63_6) rfl rfl) (rk_s) H (SF_trans (hS_63) hS41 (any_sub rfl)) (SA_trans (hA_63) hA42 (any_subA rfl)) (by show inr ((x63_7 + 1)); omega) (by show (a1) ≤ ((x63_7 + 1)); omega) (by show ((x63_7 + 1)) ≤ (a1) ∨ ((x63_7 + 1)) ≤ ((a2)); omega) (by have : (-2147483648 : Int) ≤ F39 3 10 ∧ F39 3 10 ≤ 2147483647 := H.frng 3 10; have : F39 3 10 = F39 3 10 := rfl; show (F39 3 10) = (F10 3 10) + (((x63_7 + 1)) - a1); omega) rfl
      · refine Ew_of (pc' := 45) (fun _ => x_bipush (z := 15) rfl (by decide)) ?_
        refine Ew_of (pc' := 50) (fun _ => x_goto rfl rfl) ?_
        refine w_iadd rfl ?_
        have r50 : (-2147483648 : Int) ≤ F 3 10 ∧ F 3 10 ≤ 2147483647 := by have : (-2147483648 : Int) ≤ F 3 10 ∧ F 3 10 ≤ 2147483647 := H.frng 3 10; have : F 3 10 = F 3 10 := rfl; omega
        refine w_inv H (o := 3) rfl rfl rfl (H.perm 3 rfl) rfl rfl (by rfl) (M363 H (by show inr ((((a2 - a1) * 16) + 15)); omega) (by show 0 ≤ ((((a2 - a1) * 16) + 15)) ∧ ((((a2 - a1) * 16) + 15)) ≤ 255; omega) (by have : (-2147483648 : Int) ≤ F 3 10 ∧ F 3 10 ≤ 2147483647 := H.frng 3 10; have : F 3 10 = F 3 10 := rfl; show 0 ≤ (F 3 10) ∧ (F 3 10) ≤ 100000000; omega) (fun σ F45 A46 H hS47 hA48 pz490 => ⟨rfl, ?_⟩))
        have pz490 : (F45 3 10) = (F 3 10) + 1 := by have : (F45 3 10) = (F 3 10) + 1 := pz490; omega
        refine Ew_of (pc' := 55) (fun _ => x_aload_n rfl (rk_o (rk_o (rfl) rfl rfl) rfl rfl)) ?_
        refine Ew_of (pc' := 57) (fun _ => x_iload rfl (rk_o (rk_s) rfl rfl)) ?_
        have r56 : (-2147483648 : Int) ≤ F45 3 10 ∧ F45 3 10 ≤ 2147483647 := by have : (-2147483648 : Int) ≤ F45 3 10 ∧ F45 3 10 ≤ 2147483647 := H.frng 3 10; have : F45 3 10 = F45 3 10 := rfl; omega
        refine w_inv H (o := 3) rfl rfl rfl (H.perm 3 rfl) rfl rfl (by rfl) (M364 H (by show inr ((a2 - a1)); omega) (by show -10 ≤ ((a2 - a1)) ∧ ((a2 - a1)) ≤ 100000; omega) (by have : (-2147483648 : Int) ≤ F45 3 10 ∧ F45 3 10 ≤ 2147483647 := H.frng 3 10; have : F45 3 10 = F45 3 10 := rfl; show 0 ≤ (F45 3 10) ∧ (F45 3 10) ≤ 10000000; omega) (fun σ F51 A52 H hS53 hA54 pz550 => ⟨rfl, ?_⟩))
        have pz550 : (F51 3 10) * 255 ≤ (F45 3 10) * 255 + 255 + ((a2 - a1)) + 10 ∧ (F45 3 10) ≤ (F51 3 10) := by have : F45 3 10 = F45 3 10 := rfl; have : (F51 3 10) * 255 ≤ (F45 3 10) * 255 + 255 + ((a2 - a1)) + 10 ∧ (F45 3 10) ≤ (F51 3 10) := pz550; omega
        refine Ew_of (pc' := 61) (fun _ => x_iload_n rfl (rk_o (rk_o (rfl) rfl rfl) rfl rfl)) ?_
        refine Ew_of (pc' := 63) (fun _ => x_istore rfl) ?_
        have r57 : (-2147483648 : Int) ≤ F51 3 10 ∧ F51 3 10 ≤ 2147483647 := by have h1 : (-2147483648 : Int) ≤ F51 3 10 ∧ F51 3 10 ≤ 2147483647 := H.frng 3 10; have h2 : F51 3 10 = F51 3 10 := rfl; omega
        suffices hl63 : ∀ (m : Nat) (ls : rO) (σ : rS) (F_63 : hF) (A_63 : hA) (x63_7 : Int), rlook ls 0 = some (.ref (D 3)) → rlook ls 2 = some (I (a2)) → rlook ls 3 = some (I (a3)) → rlook ls 4 = some (I (a4)) → rlook ls 6 = some (I ((a3 - 4))) → rlook ls 7 = some (I (x63_7)) → HS σ0 σ D N F_63 A_63 → SF [(3, 10)] F51 F_63 → SA [20] A52 A_63 → (inr x63_7) → ((a1) ≤ x63_7) → (x63_7 ≤ (a1) ∨ x63_7 ≤ (a2)) → ((F_63 3 10) = (F51 3 10) + (x63_7 - a1)) → ((a2) - x63_7).toNat = m → Ew 365 (d + 2) 63 ls [] σ c s Q from
          hl63 _ _ _ _ _ (a1) (rk_o (rk_o (rk_o (rfl) rfl rfl) rfl rfl) rfl rfl) (rk_o (rk_o (rk_o (rfl) rfl rfl) rfl rfl) rfl rfl) (rk_o (rk_o (rk_o (rfl) rfl rfl) rfl rfl) rfl rfl) (rk_o (rk_o (rk_o (rfl) rfl rfl) rfl rfl) rfl rfl) (rk_o (rk_s) rfl rfl) (rk_s) H SF_refl SA_refl (by show inr (a1); omega) (by show (a1) ≤ (a1); omega) (by show (a1) ≤ (a1) ∨ (a1) ≤ ((a2)); omega) (by have : (-2147483648 : Int) ≤ F51 3 10 ∧ F51 3 10 ≤ 2147483647 := H.frng 3 10; have : F51 3 10 = F51 3 10 := rfl; show (F51 3 10) = (F51 3 10) + ((a1) - a1); omega) rfl
        intro m
        induction m using Nat.strongRecOn with
        | _ m ih63 =>
          intro ls σ F_63 A_63 x63_7 l63_0 l63_2 l63_3 l63_4 l63_6 l63_7 H hS_63 hA_63 j63_0 j63_1 j63_2 j63_3 hm63
          have r58 : (-2147483648 : Int) ≤ F_63 3 10 ∧ F_63 3 10 ≤ 2147483647 := by have h1 : (-2147483648 : Int) ≤ F_63 3 10 ∧ F_63 3 10 ≤ 2147483647 := H.frng 3 10; have h2 : F_63 3 10 = F_63 3 10 := rfl; omega
          refine Ew_of (pc' := 65) (fun _ => x_iload rfl l63_7) ?_
          refine Ew_of (pc' := 66) (fun _ => x_iload_n rfl l63_2) ?_
          refine w_icmpge (t := 86) rfl rfl (show inr (x63_7) by omega) (show inr (a2) by omega) (fun b59 => ?_) (fun b59 => ?_)
          · refine Ew_of (pc' := 87) (fun _ => x_iload_n rfl l63_3) ?_
            refine w_ifne (t := 91) rfl rfl (show inr (a3) by omega) (fun b60 => ?_) (fun b60 => ?_)
            · refine Ew_of (pc' := 92) (fun _ => x_aload_n rfl l63_0) ?_
              refine Ew_of (pc' := 94) (fun _ => x_iload rfl l63_4) ?_
              refine Ew_of (pc' := 97) (fun _ => x_sipush (z := 256) rfl (by decide)) ?_
              refine w_irem rfl (show inr (a4) ∧ 0 ≤ a4 by omega) (show inr (256) ∧ 0 < 256 by omega) ?_
              have r66 : (-2147483648 : Int) ≤ F_63 3 10 ∧ F_63 3 10 ≤ 2147483647 := by have : (-2147483648 : Int) ≤ F_63 3 10 ∧ F_63 3 10 ≤ 2147483647 := H.frng 3 10; have : F_63 3 10 = F_63 3 10 := rfl; omega
              refine w_inv H (o := 3) rfl rfl rfl (H.perm 3 rfl) rfl rfl (by rfl) (M363 H (by show inr ((a4 % 256)); omega) (by show 0 ≤ ((a4 % 256)) ∧ ((a4 % 256)) ≤ 255; omega) (by have : (-2147483648 : Int) ≤ F_63 3 10 ∧ F_63 3 10 ≤ 2147483647 := H.frng 3 10; have : F_63 3 10 = F_63 3 10 := rfl; show 0 ≤ (F_63 3 10) ∧ (F_63 3 10) ≤ 100000000; omega) (fun σ F61 A62 H hS63 hA64 pz650 => ⟨rfl, ?_⟩))
              have pz650 : (F61 3 10) = (F_63 3 10) + 1 := by have : F_63 3 10 = F_63 3 10 := rfl; have : (F61 3 10) = (F_63 3 10) + 1 := pz650; omega
              refine Ew_of (pc' := 102) (fun _ => x_aload_n rfl l63_0) ?_
              refine Ew_of (pc' := 104) (fun _ => x_iload rfl l63_4) ?_
              refine Ew_of (pc' := 107) (fun _ => x_sipush (z := 256) rfl (by decide)) ?_
              refine w_idiv rfl (show inr (a4) ∧ 0 ≤ a4 by omega) (show inr (256) ∧ 0 < 256 by omega) ?_
              have r72 : (-2147483648 : Int) ≤ F61 3 10 ∧ F61 3 10 ≤ 2147483647 := by have : (-2147483648 : Int) ≤ F61 3 10 ∧ F61 3 10 ≤ 2147483647 := H.frng 3 10; have : F61 3 10 = F61 3 10 := rfl; omega
              refine w_inv H (o := 3) rfl rfl rfl (H.perm 3 rfl) rfl rfl (by rfl) (M363 H (by show inr ((a4 / 256)); omega) (by show 0 ≤ ((a4 / 256)) ∧ ((a4 / 256)) ≤ 255; omega) (by have : (-2147483648 : Int) ≤ F61 3 10 ∧ F61 3 10 ≤ 2147483647 := H.frng 3 10; have : F61 3 10 = F61 3 10 := rfl; show 0 ≤ (F61 3 10) ∧ (F61 3 10) ≤ 100000000; omega) (fun σ F67 A68 H hS69 hA70 pz710 => ⟨rfl, ?_⟩))
              have pz710 : (F67 3 10) = (F61 3 10) + 1 := by have : F61 3 10 = F61 3 10 := rfl; have : (F67 3 10) = (F61 3 10) + 1 := pz710; omega
              refine Ew_of (pc' := 112) (fun _ => x_aload_n rfl l63_0) ?_
              refine Ew_of (pc' := 114) (fun _ => x_iload rfl l63_6) ?_
              have r78 : (-2147483648 : Int) ≤ F67 3 10 ∧ F67 3 10 ≤ 2147483647 := by have : (-2147483648 : Int) ≤ F67 3 10 ∧ F67 3 10 ≤ 2147483647 := H.frng 3 10; have : F67 3 10 = F67 3 10 := rfl; omega
              refine w_inv H (o := 3) rfl rfl rfl (H.perm 3 rfl) rfl rfl (by rfl) (M364 H (by show inr ((a3 - 4)); omega) (by show -10 ≤ ((a3 - 4)) ∧ ((a3 - 4)) ≤ 100000; omega) (by have : (-2147483648 : Int) ≤ F67 3 10 ∧ F67 3 10 ≤ 2147483647 := H.frng 3 10; have : F67 3 10 = F67 3 10 := rfl; show 0 ≤ (F67 3 10) ∧ (F67 3 10) ≤ 10000000; omega) (fun σ F73 A74 H hS75 hA76 pz770 => ⟨rfl, ?_⟩))
              have pz770 : (F73 3 10) * 255 ≤ (F67 3 10) * 255 + 255 + ((a3 - 4)) + 10 ∧ (F67 3 10) ≤ (F73 3 10) := by have : F67 3 10 = F67 3 10 := rfl; have : (F73 3 10) * 255 ≤ (F67 3 10) * 255 + 255 + ((a3 - 4)) + 10 ∧ (F67 3 10) ≤ (F73 3 10) := pz770; omega
              exact w_ret rfl (k σ _ _ H (SF_trans (SF_trans (SF_trans (SF_trans (SF_trans (SF_trans (SF_refl) hS47 (any_sub rfl)) hS53 (any_sub rfl)) hS_63 (any_sub rfl)) hS63 (any_sub rfl)) hS69 (any_sub rfl)) hS75 (any_sub rfl)) (SA_trans (SA_trans (SA_trans (SA_trans (SA_trans (SA_trans (SA_refl) hA48 (any_subA rfl)) hA54 (any_subA rfl)) hA_63 (any_subA rfl)) hA64 (any_subA rfl)) hA70 (any_subA rfl)) hA76 (any_subA rfl)) (by have : (-2147483648 : Int) ≤ F73 3 10 ∧ F73 3 10 ≤ 2147483647 := H.frng 3 10; have : F73 3 10 = F73 3 10 := rfl; show (F 3 10) ≤ (F73 3 10) ∧ (F73 3 10) ≤ (F 3 10) + (a2 - a1) + 140; omega))
            · exact w_ret rfl (k σ _ _ H (SF_trans (SF_trans (SF_trans (SF_refl) hS47 (any_sub rfl)) hS53 (any_sub rfl)) hS_63 (any_sub rfl)) (SA_trans (SA_trans (SA_trans (SA_refl) hA48 (any_subA rfl)) hA54 (any_subA rfl)) hA_63 (any_subA rfl)) (by have : (-2147483648 : Int) ≤ F_63 3 10 ∧ F_63 3 10 ≤ 2147483647 := H.frng 3 10; have : F_63 3 10 = F_63 3 10 := rfl; show (F 3 10) ≤ (F_63 3 10) ∧ (F_63 3 10) ≤ (F 3 10) + (a2 - a1) + 140; omega))
          · refine Ew_of (pc' := 70) (fun _ => x_aload_n rfl l63_0) ?_
            refine Ew_of (pc' := 71) (fun _ => x_aload_n rfl l63_0) ?_
            refine w_gT H (o := 3) (t := 18) rfl (H.perm 3 rfl) rfl rfl rfl rfl rfl rfl ?_
            refine Ew_of (pc' := 76) (fun _ => x_iload rfl l63_7) ?_
            refine w_lI H (o := 18) (n := 16384) rfl (H.perm 18 rfl) rfl rfl (H.fix 18 rfl rfl) (show 0 ≤ x63_7 ∧ x63_7 < ((16384 : Nat) : Int) by omega) (by decide) (fun v79 ev79 qv79 => ?_)
            have qv79 : (0 : Int) ≤ v79 ∧ v79 ≤ 255 := qv79
            have ev79 : A_63 18 (x63_7) = v79 := ev79
            have ev79 : A 18 (x63_7) = v79 := by have : A_63 18 (x63_7) = A52 18 (x63_7) := hA_63 18 rfl (x63_7); have : A52 18 (x63_7) = A46 18 (x63_7) := hA54 18 rfl (x63_7); have : A46 18 (x63_7) = A 18 (x63_7) := hA48 18 rfl (x63_7); omega
            have r85 : (-2147483648 : Int) ≤ F_63 3 10 ∧ F_63 3 10 ≤ 2147483647 := by have : (-2147483648 : Int) ≤ F_63 3 10 ∧ F_63 3 10 ≤ 2147483647 := H.frng 3 10; have : F_63 3 10 = F_63 3 10 := rfl; omega
            refine w_inv H (o := 3) rfl rfl rfl (H.perm 3 rfl) rfl rfl (by rfl) (M363 H (by show inr (v79); omega) (by show 0 ≤ (v79) ∧ (v79) ≤ 255; omega) (by have : (-2147483648 : Int) ≤ F_63 3 10 ∧ F_63 3 10 ≤ 2147483647 := H.frng 3 10; have : F_63 3 10 = F_63 3 10 := rfl; show 0 ≤ (F_63 3 10) ∧ (F_63 3 10) ≤ 100000000; omega) (fun σ F80 A81 H hS82 hA83 pz840 => ⟨rfl, ?_⟩))
            have pz840 : (F80 3 10) = (F_63 3 10) + 1 := by have : F_63 3 10 = F_63 3 10 := rfl; have : (F80 3 10) = (F_63 3 10) + 1 := pz840; omega
            refine Ew_of (pc' := 83) (fun _ => x_iinc (len := 3) rfl (l63_7)) ?_
            refine Ew_of (pc' := 63) (fun _ => x_goto rfl rfl) ?_
            exact ih63 _ (by omega) _ σ _ _ ((x63_7 + 1)) (rk_o (l63_0) rfl rfl) (rk_o (l63_2) rfl rfl) (rk_o (l63_3) rfl rfl) (rk_o (l63_4) rfl rfl) (rk_o (l63_6) rfl rfl) (rk_s) H (SF_trans (hS_63) hS82 (any_sub rfl)) (SA_trans (hA_63) hA83 (any_subA rfl)) (by show inr ((x63_7 + 1)); omega) (by show (a1) ≤ ((x63_7 + 1)); omega) (by show ((x63_7 + 1)) ≤ (a1) ∨ ((x63_7 + 1)) ≤ ((a2)); omega) (by have : (-2147483648 : Int) ≤ F80 3 10 ∧ F80 3 10 ≤ 2147483647 := H.frng 3 10; have : F80 3 10 = F80 3 10 := rfl; show (F80 3 10) = (F51 3 10) + (((x63_7 + 1)) - a1); omega) rfl
    · refine Ew_of (pc' := 33) (fun _ => x_iconst rfl) ?_
      refine Ew_of (pc' := 50) (fun _ => x_goto rfl rfl) ?_
      refine w_iadd rfl ?_
      have r91 : (-2147483648 : Int) ≤ F 3 10 ∧ F 3 10 ≤ 2147483647 := by have : (-2147483648 : Int) ≤ F 3 10 ∧ F 3 10 ≤ 2147483647 := H.frng 3 10; have : F 3 10 = F 3 10 := rfl; omega
      refine w_inv H (o := 3) rfl rfl rfl (H.perm 3 rfl) rfl rfl (by rfl) (M363 H (by show inr ((((a2 - a1) * 16) + 0)); omega) (by show 0 ≤ ((((a2 - a1) * 16) + 0)) ∧ ((((a2 - a1) * 16) + 0)) ≤ 255; omega) (by have : (-2147483648 : Int) ≤ F 3 10 ∧ F 3 10 ≤ 2147483647 := H.frng 3 10; have : F 3 10 = F 3 10 := rfl; show 0 ≤ (F 3 10) ∧ (F 3 10) ≤ 100000000; omega) (fun σ F86 A87 H hS88 hA89 pz900 => ⟨rfl, ?_⟩))
      have pz900 : (F86 3 10) = (F 3 10) + 1 := by have : (F86 3 10) = (F 3 10) + 1 := pz900; omega
      refine Ew_of (pc' := 55) (fun _ => x_aload_n rfl (rk_o (rk_o (rfl) rfl rfl) rfl rfl)) ?_
      refine Ew_of (pc' := 57) (fun _ => x_iload rfl (rk_o (rk_s) rfl rfl)) ?_
      have r97 : (-2147483648 : Int) ≤ F86 3 10 ∧ F86 3 10 ≤ 2147483647 := by have : (-2147483648 : Int) ≤ F86 3 10 ∧ F86 3 10 ≤ 2147483647 := H.frng 3 10; have : F86 3 10 = F86 3 10 := rfl; omega
      refine w_inv H (o := 3) rfl rfl rfl (H.perm 3 rfl) rfl rfl (by rfl) (M364 H (by show inr ((a2 - a1)); omega) (by show -10 ≤ ((a2 - a1)) ∧ ((a2 - a1)) ≤ 100000; omega) (by have : (-2147483648 : Int) ≤ F86 3 10 ∧ F86 3 10 ≤ 2147483647 := H.frng 3 10; have : F86 3 10 = F86 3 10 := rfl; show 0 ≤ (F86 3 10) ∧ (F86 3 10) ≤ 10000000; omega) (fun σ F92 A93 H hS94 hA95 pz960 => ⟨rfl, ?_⟩))
      have pz960 : (F92 3 10) * 255 ≤ (F86 3 10) * 255 + 255 + ((a2 - a1)) + 10 ∧ (F86 3 10) ≤ (F92 3 10) := by have : F86 3 10 = F86 3 10 := rfl; have : (F92 3 10) * 255 ≤ (F86 3 10) * 255 + 255 + ((a2 - a1)) + 10 ∧ (F86 3 10) ≤ (F92 3 10) := pz960; omega
      refine Ew_of (pc' := 61) (fun _ => x_iload_n rfl (rk_o (rk_o (rfl) rfl rfl) rfl rfl)) ?_
      refine Ew_of (pc' := 63) (fun _ => x_istore rfl) ?_
      have r98 : (-2147483648 : Int) ≤ F92 3 10 ∧ F92 3 10 ≤ 2147483647 := by have h1 : (-2147483648 : Int) ≤ F92 3 10 ∧ F92 3 10 ≤ 2147483647 := H.frng 3 10; have h2 : F92 3 10 = F92 3 10 := rfl; omega
      suffices hl63 : ∀ (m : Nat) (ls : rO) (σ : rS) (F_63 : hF) (A_63 : hA) (x63_7 : Int), rlook ls 0 = some (.ref (D 3)) → rlook ls 2 = some (I (a2)) → rlook ls 3 = some (I (a3)) → rlook ls 4 = some (I (a4)) → rlook ls 6 = some (I ((a3 - 4))) → rlook ls 7 = some (I (x63_7)) → HS σ0 σ D N F_63 A_63 → SF [(3, 10)] F92 F_63 → SA [20] A93 A_63 → (inr x63_7) → ((a1) ≤ x63_7) → (x63_7 ≤ (a1) ∨ x63_7 ≤ (a2)) → ((F_63 3 10) = (F92 3 10) + (x63_7 - a1)) → ((a2) - x63_7).toNat = m → Ew 365 (d + 2) 63 ls [] σ c s Q from
        hl63 _ _ _ _ _ (a1) (rk_o (rk_o (rk_o (rfl) rfl rfl) rfl rfl) rfl rfl) (rk_o (rk_o (rk_o (rfl) rfl rfl) rfl rfl) rfl rfl) (rk_o (rk_o (rk_o (rfl) rfl rfl) rfl rfl) rfl rfl) (rk_o (rk_o (rk_o (rfl) rfl rfl) rfl rfl) rfl rfl) (rk_o (rk_s) rfl rfl) (rk_s) H SF_refl SA_refl (by show inr (a1); omega) (by show (a1) ≤ (a1); omega) (by show (a1) ≤ (a1) ∨ (a1) ≤ ((a2)); omega) (by have : (-2147483648 : Int) ≤ F92 3 10 ∧ F92 3 10 ≤ 2147483647 := H.frng 3 10; have : F92 3 10 = F92 3 10 := rfl; show (F92 3 10) = (F92 3 10) + ((a1) - a1); omega) rfl
      intro m
      induction m using Nat.strongRecOn with
      | _ m ih63 =>
        intro ls σ F_63 A_63 x63_7 l63_0 l63_2 l63_3 l63_4 l63_6 l63_7 H hS_63 hA_63 j63_0 j63_1 j63_2 j63_3 hm63
        have r99 : (-2147483648 : Int) ≤ F_63 3 10 ∧ F_63 3 10 ≤ 2147483647 := by have h1 : (-2147483648 : Int) ≤ F_63 3 10 ∧ F_63 3 10 ≤ 2147483647 := H.frng 3 10; have h2 : F_63 3 10 = F_63 3 10 := rfl; omega
        refine Ew_of (pc' := 65) (fun _ => x_iload rfl l63_7) ?_
        refine Ew_of (pc' := 66) (fun _ => x_iload_n rfl l63_2) ?_
        refine w_icmpge (t := 86) rfl rfl (show inr (x63_7) by omega) (show inr (a2) by omega) (fun b100 => ?_) (fun b100 => ?_)
        · refine Ew_of (pc' := 87) (fun _ => x_iload_n rfl l63_3) ?_
          refine w_ifne (t := 91) rfl rfl (show inr (a3) by omega) (fun b101 => ?_) (fun b101 => ?_)
          · refine Ew_of (pc' := 92) (fun _ => x_aload_n rfl l63_0) ?_
            refine Ew_of (pc' := 94) (fun _ => x_iload rfl l63_4) ?_
            refine Ew_of (pc' := 97) (fun _ => x_sipush (z := 256) rfl (by decide)) ?_
            refine w_irem rfl (show inr (a4) ∧ 0 ≤ a4 by omega) (show inr (256) ∧ 0 < 256 by omega) ?_
            have r107 : (-2147483648 : Int) ≤ F_63 3 10 ∧ F_63 3 10 ≤ 2147483647 := by have : (-2147483648 : Int) ≤ F_63 3 10 ∧ F_63 3 10 ≤ 2147483647 := H.frng 3 10; have : F_63 3 10 = F_63 3 10 := rfl; omega
            refine w_inv H (o := 3) rfl rfl rfl (H.perm 3 rfl) rfl rfl (by rfl) (M363 H (by show inr ((a4 % 256)); omega) (by show 0 ≤ ((a4 % 256)) ∧ ((a4 % 256)) ≤ 255; omega) (by have : (-2147483648 : Int) ≤ F_63 3 10 ∧ F_63 3 10 ≤ 2147483647 := H.frng 3 10; have : F_63 3 10 = F_63 3 10 := rfl; show 0 ≤ (F_63 3 10) ∧ (F_63 3 10) ≤ 100000000; omega) (fun σ F102 A103 H hS104 hA105 pz1060 => ⟨rfl, ?_⟩))
            have pz1060 : (F102 3 10) = (F_63 3 10) + 1 := by have : F_63 3 10 = F_63 3 10 := rfl; have : (F102 3 10) = (F_63 3 10) + 1 := pz1060; omega
            refine Ew_of (pc' := 102) (fun _ => x_aload_n rfl l63_0) ?_
            refine Ew_of (pc' := 104) (fun _ => x_iload rfl l63_4) ?_
            refine Ew_of (pc' := 107) (fun _ => x_sipush (z := 256) rfl (by decide)) ?_
            refine w_idiv rfl (show inr (a4) ∧ 0 ≤ a4 by omega) (show inr (256) ∧ 0 < 256 by omega) ?_
            have r113 : (-2147483648 : Int) ≤ F102 3 10 ∧ F102 3 10 ≤ 2147483647 := by have : (-2147483648 : Int) ≤ F102 3 10 ∧ F102 3 10 ≤ 2147483647 := H.frng 3 10; have : F102 3 10 = F102 3 10 := rfl; omega
            refine w_inv H (o := 3) rfl rfl rfl (H.perm 3 rfl) rfl rfl (by rfl) (M363 H (by show inr ((a4 / 256)); omega) (by show 0 ≤ ((a4 / 256)) ∧ ((a4 / 256)) ≤ 255; omega) (by have : (-2147483648 : Int) ≤ F102 3 10 ∧ F102 3 10 ≤ 2147483647 := H.frng 3 10; have : F102 3 10 = F102 3 10 := rfl; show 0 ≤ (F102 3 10) ∧ (F102 3 10) ≤ 100000000; omega) (fun σ F108 A109 H hS110 hA111 pz1120 => ⟨rfl, ?_⟩))
            have pz1120 : (F108 3 10) = (F102 3 10) + 1 := by have : F102 3 10 = F102 3 10 := rfl; have : (F108 3 10) = (F102 3 10) + 1 := pz1120; omega
            refine Ew_of (pc' := 112) (fun _ => x_aload_n rfl l63_0) ?_
            refine Ew_of (pc' := 114) (fun _ => x_iload rfl l63_6) ?_
            have r119 : (-2147483648 : Int) ≤ F108 3 10 ∧ F108 3 10 ≤ 2147483647 := by have : (-2147483648 : Int) ≤ F108 3 10 ∧ F108 3 10 ≤ 2147483647 := H.frng 3 10; have : F108 3 10 = F108 3 10 := rfl; omega
            refine w_inv H (o := 3) rfl rfl rfl (H.perm 3 rfl) rfl rfl (by rfl) (M364 H (by show inr ((a3 - 4)); omega) (by show -10 ≤ ((a3 - 4)) ∧ ((a3 - 4)) ≤ 100000; omega) (by have : (-2147483648 : Int) ≤ F108 3 10 ∧ F108 3 10 ≤ 2147483647 := H.frng 3 10; have : F108 3 10 = F108 3 10 := rfl; show 0 ≤ (F108 3 10) ∧ (F108 3 10) ≤ 10000000; omega) (fun σ F114 A115 H hS116 hA117 pz1180 => ⟨rfl, ?_⟩))
            have pz1180 : (F114 3 10) * 255 ≤ (F108 3 10) * 255 + 255 + ((a3 - 4)) + 10 ∧ (F108 3 10) ≤ (F114 3 10) := by have : F108 3 10 = F108 3 10 := rfl; have : (F114 3 10) * 255 ≤ (F108 3 10) * 255 + 255 + ((a3 - 4)) + 10 ∧ (F108 3 10) ≤ (F114 3 10) := pz1180; omega
            exact w_ret rfl (k σ _ _ H (SF_trans (SF_trans (SF_trans (SF_trans (SF_trans (SF_trans (SF_refl) hS88 (any_sub rfl)) hS94 (any_sub rfl)) hS_63 (any_sub rfl)) hS104 (any_sub rfl)) hS110 (any_sub rfl)) hS116 (any_sub rfl)) (SA_trans (SA_trans (SA_trans (SA_trans (SA_trans (SA_trans (SA_refl) hA89 (any_subA rfl)) hA95 (any_subA rfl)) hA_63 (any_subA rfl)) hA105 (any_subA rfl)) hA111 (any_subA rfl)) hA117 (any_subA rfl)) (by have : (-2147483648 : Int) ≤ F114 3 10 ∧ F114 3 10 ≤ 2147483647 := H.frng 3 10; have : F114 3 10 = F114 3 10 := rfl; show (F 3 10) ≤ (F114 3 10) ∧ (F114 3 10) ≤ (F 3 10) + (a2 - a1) + 140; omega))
          · exact w_ret rfl (k σ _ _ H (SF_trans (SF_trans (SF_trans (SF_refl) hS88 (any_sub rfl)) hS94 (any_sub rfl)) hS_63 (any_sub rfl)) (SA_trans (SA_trans (SA_trans (SA_refl) hA89 (any_subA rfl)) hA95 (any_subA rfl)) hA_63 (any_subA rfl)) (by have : (-2147483648 : Int) ≤ F_63 3 10 ∧ F_63 3 10 ≤ 2147483647 := H.frng 3 10; have : F_63 3 10 = F_63 3 10 := rfl; show (F 3 10) ≤ (F_63 3 10) ∧ (F_63 3 10) ≤ (F 3 10) + (a2 - a1) + 140; omega))
        · refine Ew_of (pc' := 70) (fun _ => x_aload_n rfl l63_0) ?_
          refine Ew_of (pc' := 71) (fun _ => x_aload_n rfl l63_0) ?_
          refine w_gT H (o := 3) (t := 18) rfl (H.perm 3 rfl) rfl rfl rfl rfl rfl rfl ?_
          refine Ew_of (pc' := 76) (fun _ => x_iload rfl l63_7) ?_
          refine w_lI H (o := 18) (n := 16384) rfl (H.perm 18 rfl) rfl rfl (H.fix 18 rfl rfl) (show 0 ≤ x63_7 ∧ x63_7 < ((16384 : Nat) : Int) by omega) (by decide) (fun v120 ev120 qv120 => ?_)
          have qv120 : (0 : Int) ≤ v120 ∧ v120 ≤ 255 := qv120
          have ev120 : A_63 18 (x63_7) = v120 := ev120
          have ev120 : A 18 (x63_7) = v120 := by have : A_63 18 (x63_7) = A93 18 (x63_7) := hA_63 18 rfl (x63_7); have : A93 18 (x63_7) = A87 18 (x63_7) := hA95 18 rfl (x63_7); have : A87 18 (x63_7) = A 18 (x63_7) := hA89 18 rfl (x63_7); omega
          have r126 : (-2147483648 : Int) ≤ F_63 3 10 ∧ F_63 3 10 ≤ 2147483647 := by have : (-2147483648 : Int) ≤ F_63 3 10 ∧ F_63 3 10 ≤ 2147483647 := H.frng 3 10; have : F_63 3 10 = F_63 3 10 := rfl; omega
          refine w_inv H (o := 3) rfl rfl rfl (H.perm 3 rfl) rfl rfl (by rfl) (M363 H (by show inr (v120); omega) (by show 0 ≤ (v120) ∧ (v120) ≤ 255; omega) (by have : (-2147483648 : Int) ≤ F_63 3 10 ∧ F_63 3 10 ≤ 2147483647 := H.frng 3 10; have : F_63 3 10 = F_63 3 10 := rfl; show 0 ≤ (F_63 3 10) ∧ (F_63 3 10) ≤ 100000000; omega) (fun σ F121 A122 H hS123 hA124 pz1250 => ⟨rfl, ?_⟩))
          have pz1250 : (F121 3 10) = (F_63 3 10) + 1 := by have : F_63 3 10 = F_63 3 10 := rfl; have : (F121 3 10) = (F_63 3 10) + 1 := pz1250; omega
          refine Ew_of (pc' := 83) (fun _ => x_iinc (len := 3) rfl (l63_7)) ?_
          refine Ew_of (pc' := 63) (fun _ => x_goto rfl rfl) ?_
          exact ih63 _ (by omega) _ σ _ _ ((x63_7 + 1)) (rk_o (l63_0) rfl rfl) (rk_o (l63_2) rfl rfl) (rk_o (l63_3) rfl rfl) (rk_o (l63_4) rfl rfl) (rk_o (l63_6) rfl rfl) (rk_s) H (SF_trans (hS_63) hS123 (any_sub rfl)) (SA_trans (hA_63) hA124 (any_subA rfl)) (by show inr ((x63_7 + 1)); omega) (by show (a1) ≤ ((x63_7 + 1)); omega) (by show ((x63_7 + 1)) ≤ (a1) ∨ ((x63_7 + 1)) ≤ ((a2)); omega) (by have : (-2147483648 : Int) ≤ F121 3 10 ∧ F121 3 10 ≤ 2147483647 := H.frng 3 10; have : F121 3 10 = F121 3 10 := rfl; show (F121 3 10) = (F92 3 10) + (((x63_7 + 1)) - a1); omega) rfl
  · refine Ew_of (pc' := 20) (fun _ => x_bipush (z := 15) rfl (by decide)) ?_
    refine Ew_of (pc' := 25) (fun _ => x_goto rfl rfl) ?_
    refine Ew_of (pc' := 27) (fun _ => x_bipush (z := 16) rfl (by decide)) ?_
    refine w_imul rfl ?_
    refine Ew_of (pc' := 29) (fun _ => x_iload_n rfl (rk_o (rk_o (rfl) rfl rfl) rfl rfl)) ?_
    refine w_ifne (t := 36) rfl rfl (show inr (a3) by omega) (fun b127 => ?_) (fun b127 => ?_)
    · refine Ew_of (pc' := 38) (fun _ => x_iload rfl rk_s) ?_
      refine Ew_of (pc' := 40) (fun _ => x_bipush (z := 15) rfl (by decide)) ?_
      refine w_icmple (t := 48) rfl rfl (show inr ((a3 - 4)) by omega) (show inr (15) by omega) (fun b128 => ?_) (fun b128 => ?_)
      · refine Ew_of (pc' := 50) (fun _ => x_iload rfl rk_s) ?_
        refine w_iadd rfl ?_
        have r134 : (-2147483648 : Int) ≤ F 3 10 ∧ F 3 10 ≤ 2147483647 := by have : (-2147483648 : Int) ≤ F 3 10 ∧ F 3 10 ≤ 2147483647 := H.frng 3 10; have : F 3 10 = F 3 10 := rfl; omega
        refine w_inv H (o := 3) rfl rfl rfl (H.perm 3 rfl) rfl rfl (by rfl) (M363 H (by show inr (((15 * 16) + (a3 - 4))); omega) (by show 0 ≤ (((15 * 16) + (a3 - 4))) ∧ (((15 * 16) + (a3 - 4))) ≤ 255; omega) (by have : (-2147483648 : Int) ≤ F 3 10 ∧ F 3 10 ≤ 2147483647 := H.frng 3 10; have : F 3 10 = F 3 10 := rfl; show 0 ≤ (F 3 10) ∧ (F 3 10) ≤ 100000000; omega) (fun σ F129 A130 H hS131 hA132 pz1330 => ⟨rfl, ?_⟩))
        have pz1330 : (F129 3 10) = (F 3 10) + 1 := by have : (F129 3 10) = (F 3 10) + 1 := pz1330; omega
        refine Ew_of (pc' := 55) (fun _ => x_aload_n rfl (rk_o (rk_o (rfl) rfl rfl) rfl rfl)) ?_
        refine Ew_of (pc' := 57) (fun _ => x_iload rfl (rk_o (rk_s) rfl rfl)) ?_
        have r140 : (-2147483648 : Int) ≤ F129 3 10 ∧ F129 3 10 ≤ 2147483647 := by have : (-2147483648 : Int) ≤ F129 3 10 ∧ F129 3 10 ≤ 2147483647 := H.frng 3 10; have : F129 3 10 = F129 3 10 := rfl; omega
        refine w_inv H (o := 3) rfl rfl rfl (H.perm 3 rfl) rfl rfl (by rfl) (M364 H (by show inr ((a2 - a1)); omega) (by show -10 ≤ ((a2 - a1)) ∧ ((a2 - a1)) ≤ 100000; omega) (by have : (-2147483648 : Int) ≤ F129 3 10 ∧ F129 3 10 ≤ 2147483647 := H.frng 3 10; have : F129 3 10 = F129 3 10 := rfl; show 0 ≤ (F129 3 10) ∧ (F129 3 10) ≤ 10000000; omega) (fun σ F135 A136 H hS137 hA138 pz1390 => ⟨rfl, ?_⟩))
        have pz1390 : (F135 3 10) * 255 ≤ (F129 3 10) * 255 + 255 + ((a2 - a1)) + 10 ∧ (F129 3 10) ≤ (F135 3 10) := by have : F129 3 10 = F129 3 10 := rfl; have : (F135 3 10) * 255 ≤ (F129 3 10) * 255 + 255 + ((a2 - a1)) + 10 ∧ (F129 3 10) ≤ (F135 3 10) := pz1390; omega
        refine Ew_of (pc' := 61) (fun _ => x_iload_n rfl (rk_o (rk_o (rfl) rfl rfl) rfl rfl)) ?_
        refine Ew_of (pc' := 63) (fun _ => x_istore rfl) ?_
        have r141 : (-2147483648 : Int) ≤ F135 3 10 ∧ F135 3 10 ≤ 2147483647 := by have h1 : (-2147483648 : Int) ≤ F135 3 10 ∧ F135 3 10 ≤ 2147483647 := H.frng 3 10; have h2 : F135 3 10 = F135 3 10 := rfl; omega
        suffices hl63 : ∀ (m : Nat) (ls : rO) (σ : rS) (F_63 : hF) (A_63 : hA) (x63_7 : Int), rlook ls 0 = some (.ref (D 3)) → rlook ls 2 = some (I (a2)) → rlook ls 3 = some (I (a3)) → rlook ls 4 = some (I (a4)) → rlook ls 6 = some (I ((a3 - 4))) → rlook ls 7 = some (I (x63_7)) → HS σ0 σ D N F_63 A_63 → SF [(3, 10)] F135 F_63 → SA [20] A136 A_63 → (inr x63_7) → ((a1) ≤ x63_7) → (x63_7 ≤ (a1) ∨ x63_7 ≤ (a2)) → ((F_63 3 10) = (F135 3 10) + (x63_7 - a1)) → ((a2) - x63_7).toNat = m → Ew 365 (d + 2) 63 ls [] σ c s Q from
          hl63 _ _ _ _ _ (a1) (rk_o (rk_o (rk_o (rfl) rfl rfl) rfl rfl) rfl rfl) (rk_o (rk_o (rk_o (rfl) rfl rfl) rfl rfl) rfl rfl) (rk_o (rk_o (rk_o (rfl) rfl rfl) rfl rfl) rfl rfl) (rk_o (rk_o (rk_o (rfl) rfl rfl) rfl rfl) rfl rfl) (rk_o (rk_s) rfl rfl) (rk_s) H SF_refl SA_refl (by show inr (a1); omega) (by show (a1) ≤ (a1); omega) (by show (a1) ≤ (a1) ∨ (a1) ≤ ((a2)); omega) (by have : (-2147483648 : Int) ≤ F135 3 10 ∧ F135 3 10 ≤ 2147483647 := H.frng 3 10; have : F135 3 10 = F135 3 10 := rfl; show (F135 3 10) = (F135 3 10) + ((a1) - a1); omega) rfl
        intro m
        induction m using Nat.strongRecOn with
        | _ m ih63 =>
          intro ls σ F_63 A_63 x63_7 l63_0 l63_2 l63_3 l63_4 l63_6 l63_7 H hS_63 hA_63 j63_0 j63_1 j63_2 j63_3 hm63
          have r142 : (-2147483648 : Int) ≤ F_63 3 10 ∧ F_63 3 10 ≤ 2147483647 := by have h1 : (-2147483648 : Int) ≤ F_63 3 10 ∧ F_63 3 10 ≤ 2147483647 := H.frng 3 10; have h2 : F_63 3 10 = F_63 3 10 := rfl; omega
          refine Ew_of (pc' := 65) (fun _ => x_iload rfl l63_7) ?_
          refine Ew_of (pc' := 66) (fun _ => x_iload_n rfl l63_2) ?_
          refine w_icmpge (t := 86) rfl rfl (show inr (x63_7) by omega) (show inr (a2) by omega) (fun b143 => ?_) (fun b143 => ?_)
          · refine Ew_of (pc' := 87) (fun _ => x_iload_n rfl l63_3) ?_
            refine w_ifne (t := 91) rfl rfl (show inr (a3) by omega) (fun b144 => ?_) (fun b144 => ?_)
            · refine Ew_of (pc' := 92) (fun _ => x_aload_n rfl l63_0) ?_
              refine Ew_of (pc' := 94) (fun _ => x_iload rfl l63_4) ?_
              refine Ew_of (pc' := 97) (fun _ => x_sipush (z := 256) rfl (by decide)) ?_
              refine w_irem rfl (show inr (a4) ∧ 0 ≤ a4 by omega) (show inr (256) ∧ 0 < 256 by omega) ?_
              have r150 : (-2147483648 : Int) ≤ F_63 3 10 ∧ F_63 3 10 ≤ 2147483647 := by have : (-2147483648 : Int) ≤ F_63 3 10 ∧ F_63 3 10 ≤ 2147483647 := H.frng 3 10; have : F_63 3 10 = F_63 3 10 := rfl; omega
              refine w_inv H (o := 3) rfl rfl rfl (H.perm 3 rfl) rfl rfl (by rfl) (M363 H (by show inr ((a4 % 256)); omega) (by show 0 ≤ ((a4 % 256)) ∧ ((a4 % 256)) ≤ 255; omega) (by have : (-2147483648 : Int) ≤ F_63 3 10 ∧ F_63 3 10 ≤ 2147483647 := H.frng 3 10; have : F_63 3 10 = F_63 3 10 := rfl; show 0 ≤ (F_63 3 10) ∧ (F_63 3 10) ≤ 100000000; omega) (fun σ F145 A146 H hS147 hA148 pz1490 => ⟨rfl, ?_⟩))
              have pz1490 : (F145 3 10) = (F_63 3 10) + 1 := by have : F_63 3 10 = F_63 3 10 := rfl; have : (F145 3 10) = (F_63 3 10) + 1 := pz1490; omega
              refine Ew_of (pc' := 102) (fun _ => x_aload_n rfl l63_0) ?_
              refine Ew_of (pc' := 104) (fun _ => x_iload rfl l63_4) ?_
              refine Ew_of (pc' := 107) (fun _ => x_sipush (z := 256) rfl (by decide)) ?_
              refine w_idiv rfl (show inr (a4) ∧ 0 ≤ a4 by omega) (show inr (256) ∧ 0 < 256 by omega) ?_
              have r156 : (-2147483648 : Int) ≤ F145 3 10 ∧ F145 3 10 ≤ 2147483647 := by have : (-2147483648 : Int) ≤ F145 3 10 ∧ F145 3 10 ≤ 2147483647 := H.frng 3 10; have : F145 3 10 = F145 3 10 := rfl; omega
              refine w_inv H (o := 3) rfl rfl rfl (H.perm 3 rfl) rfl rfl (by rfl) (M363 H (by show inr ((a4 / 256)); omega) (by show 0 ≤ ((a4 / 256)) ∧ ((a4 / 256)) ≤ 255; omega) (by have : (-2147483648 : Int) ≤ F145 3 10 ∧ F145 3 10 ≤ 2147483647 := H.frng 3 10; have : F145 3 10 = F145 3 10 := rfl; show 0 ≤ (F145 3 10) ∧ (F145 3 10) ≤ 100000000; omega) (fun σ F151 A152 H hS153 hA154 pz1550 => ⟨rfl, ?_⟩))
              have pz1550 : (F151 3 10) = (F145 3 10) + 1 := by have : F145 3 10 = F145 3 10 := rfl; have : (F151 3 10) = (F145 3 10) + 1 := pz1550; omega
              refine Ew_of (pc' := 112) (fun _ => x_aload_n rfl l63_0) ?_
              refine Ew_of (pc' := 114) (fun _ => x_iload rfl l63_6) ?_
              have r162 : (-2147483648 : Int) ≤ F151 3 10 ∧ F151 3 10 ≤ 2147483647 := by have : (-2147483648 : Int) ≤ F151 3 10 ∧ F151 3 10 ≤ 2147483647 := H.frng 3 10; have : F151 3 10 = F151 3 10 := rfl; omega
              refine w_inv H (o := 3) rfl rfl rfl (H.perm 3 rfl) rfl rfl (by rfl) (M364 H (by show inr ((a3 - 4)); omega) (by show -10 ≤ ((a3 - 4)) ∧ ((a3 - 4)) ≤ 100000; omega) (by have : (-2147483648 : Int) ≤ F151 3 10 ∧ F151 3 10 ≤ 2147483647 := H.frng 3 10; have : F151 3 10 = F151 3 10 := rfl; show 0 ≤ (F151 3 10) ∧ (F151 3 10) ≤ 10000000; omega) (fun σ F157 A158 H hS159 hA160 pz1610 => ⟨rfl, ?_⟩))
              have pz1610 : (F157 3 10) * 255 ≤ (F151 3 10) * 255 + 255 + ((a3 - 4)) + 10 ∧ (F151 3 10) ≤ (F157 3 10) := by have : F151 3 10 = F151 3 10 := rfl; have : (F157 3 10) * 255 ≤ (F151 3 10) * 255 + 255 + ((a3 - 4)) + 10 ∧ (F151 3 10) ≤ (F157 3 10) := pz1610; omega
              exact w_ret rfl (k σ _ _ H (SF_trans (SF_trans (SF_trans (SF_trans (SF_trans (SF_trans (SF_refl) hS131 (any_sub rfl)) hS137 (any_sub rfl)) hS_63 (any_sub rfl)) hS147 (any_sub rfl)) hS153 (any_sub rfl)) hS159 (any_sub rfl)) (SA_trans (SA_trans (SA_trans (SA_trans (SA_trans (SA_trans (SA_refl) hA132 (any_subA rfl)) hA138 (any_subA rfl)) hA_63 (any_subA rfl)) hA148 (any_subA rfl)) hA154 (any_subA rfl)) hA160 (any_subA rfl)) (by have : (-2147483648 : Int) ≤ F157 3 10 ∧ F157 3 10 ≤ 2147483647 := H.frng 3 10; have : F157 3 10 = F157 3 10 := rfl; show (F 3 10) ≤ (F157 3 10) ∧ (F157 3 10) ≤ (F 3 10) + (a2 - a1) + 140; omega))
            · exact w_ret rfl (k σ _ _ H (SF_trans (SF_trans (SF_trans (SF_refl) hS131 (any_sub rfl)) hS137 (any_sub rfl)) hS_63 (any_sub rfl)) (SA_trans (SA_trans (SA_trans (SA_refl) hA132 (any_subA rfl)) hA138 (any_subA rfl)) hA_63 (any_subA rfl)) (by have : (-2147483648 : Int) ≤ F_63 3 10 ∧ F_63 3 10 ≤ 2147483647 := H.frng 3 10; have : F_63 3 10 = F_63 3 10 := rfl; show (F 3 10) ≤ (F_63 3 10) ∧ (F_63 3 10) ≤ (F 3 10) + (a2 - a1) + 140; omega))
          · refine Ew_of (pc' := 70) (fun _ => x_aload_n rfl l63_0) ?_
            refine Ew_of (pc' := 71) (fun _ => x_aload_n rfl l63_0) ?_
            refine w_gT H (o := 3) (t := 18) rfl (H.perm 3 rfl) rfl rfl rfl rfl rfl rfl ?_
            refine Ew_of (pc' := 76) (fun _ => x_iload rfl l63_7) ?_
            refine w_lI H (o := 18) (n := 16384) rfl (H.perm 18 rfl) rfl rfl (H.fix 18 rfl rfl) (show 0 ≤ x63_7 ∧ x63_7 < ((16384 : Nat) : Int) by omega) (by decide) (fun v163 ev163 qv163 => ?_)
            have qv163 : (0 : Int) ≤ v163 ∧ v163 ≤ 255 := qv163
            have ev163 : A_63 18 (x63_7) = v163 := ev163
            have ev163 : A 18 (x63_7) = v163 := by have : A_63 18 (x63_7) = A136 18 (x63_7) := hA_63 18 rfl (x63_7); have : A136 18 (x63_7) = A130 18 (x63_7) := hA138 18 rfl (x63_7); have : A130 18 (x63_7) = A 18 (x63_7) := hA132 18 rfl (x63_7); omega
            have r169 : (-2147483648 : Int) ≤ F_63 3 10 ∧ F_63 3 10 ≤ 2147483647 := by have : (-2147483648 : Int) ≤ F_63 3 10 ∧ F_63 3 10 ≤ 2147483647 := H.frng 3 10; have : F_63 3 10 = F_63 3 10 := rfl; omega
            refine w_inv H (o := 3) rfl rfl rfl (H.perm 3 rfl) rfl rfl (by rfl) (M363 H (by show inr (v163); omega) (by show 0 ≤ (v163) ∧ (v163) ≤ 255; omega) (by have : (-2147483648 : Int) ≤ F_63 3 10 ∧ F_63 3 10 ≤ 2147483647 := H.frng 3 10; have : F_63 3 10 = F_63 3 10 := rfl; show 0 ≤ (F_63 3 10) ∧ (F_63 3 10) ≤ 100000000; omega) (fun σ F164 A165 H hS166 hA167 pz1680 => ⟨rfl, ?_⟩))
            have pz1680 : (F164 3 10) = (F_63 3 10) + 1 := by have : F_63 3 10 = F_63 3 10 := rfl; have : (F164 3 10) = (F_63 3 10) + 1 := pz1680; omega
            refine Ew_of (pc' := 83) (fun _ => x_iinc (len := 3) rfl (l63_7)) ?_
            refine Ew_of (pc' := 63) (fun _ => x_goto rfl rfl) ?_
            exact ih63 _ (by omega) _ σ _ _ ((x63_7 + 1)) (rk_o (l63_0) rfl rfl) (rk_o (l63_2) rfl rfl) (rk_o (l63_3) rfl rfl) (rk_o (l63_4) rfl rfl) (rk_o (l63_6) rfl rfl) (rk_s) H (SF_trans (hS_63) hS166 (any_sub rfl)) (SA_trans (hA_63) hA167 (any_subA rfl)) (by show inr ((x63_7 + 1)); omega) (by show (a1) ≤ ((x63_7 + 1)); omega) (by show ((x63_7 + 1)) ≤ (a1) ∨ ((x63_7 + 1)) ≤ ((a2)); omega) (by have : (-2147483648 : Int) ≤ F164 3 10 ∧ F164 3 10 ≤ 2147483647 := H.frng 3 10; have : F164 3 10 = F164 3 10 := rfl; show (F164 3 10) = (F135 3 10) + (((x63_7 + 1)) - a1); omega) rfl
      · refine Ew_of (pc' := 45) (fun _ => x_bipush (z := 15) rfl (by decide)) ?_
        refine Ew_of (pc' := 50) (fun _ => x_goto rfl rfl) ?_
        refine w_iadd rfl ?_
        have r175 : (-2147483648 : Int) ≤ F 3 10 ∧ F 3 10 ≤ 2147483647 := by have : (-2147483648 : Int) ≤ F 3 10 ∧ F 3 10 ≤ 2147483647 := H.frng 3 10; have : F 3 10 = F 3 10 := rfl; omega
        refine w_inv H (o := 3) rfl rfl rfl (H.perm 3 rfl) rfl rfl (by rfl) (M363 H (by show inr (((15 * 16) + 15)); omega) (by show 0 ≤ (((15 * 16) + 15)) ∧ (((15 * 16) + 15)) ≤ 255; omega) (by have : (-2147483648 : Int) ≤ F 3 10 ∧ F 3 10 ≤ 2147483647 := H.frng 3 10; have : F 3 10 = F 3 10 := rfl; show 0 ≤ (F 3 10) ∧ (F 3 10) ≤ 100000000; omega) (fun σ F170 A171 H hS172 hA173 pz1740 => ⟨rfl, ?_⟩))
        have pz1740 : (F170 3 10) = (F 3 10) + 1 := by have : (F170 3 10) = (F 3 10) + 1 := pz1740; omega
        refine Ew_of (pc' := 55) (fun _ => x_aload_n rfl (rk_o (rk_o (rfl) rfl rfl) rfl rfl)) ?_
        refine Ew_of (pc' := 57) (fun _ => x_iload rfl (rk_o (rk_s) rfl rfl)) ?_
        have r181 : (-2147483648 : Int) ≤ F170 3 10 ∧ F170 3 10 ≤ 2147483647 := by have : (-2147483648 : Int) ≤ F170 3 10 ∧ F170 3 10 ≤ 2147483647 := H.frng 3 10; have : F170 3 10 = F170 3 10 := rfl; omega
        refine w_inv H (o := 3) rfl rfl rfl (H.perm 3 rfl) rfl rfl (by rfl) (M364 H (by show inr ((a2 - a1)); omega) (by show -10 ≤ ((a2 - a1)) ∧ ((a2 - a1)) ≤ 100000; omega) (by have : (-2147483648 : Int) ≤ F170 3 10 ∧ F170 3 10 ≤ 2147483647 := H.frng 3 10; have : F170 3 10 = F170 3 10 := rfl; show 0 ≤ (F170 3 10) ∧ (F170 3 10) ≤ 10000000; omega) (fun σ F176 A177 H hS178 hA179 pz1800 => ⟨rfl, ?_⟩))
        have pz1800 : (F176 3 10) * 255 ≤ (F170 3 10) * 255 + 255 + ((a2 - a1)) + 10 ∧ (F170 3 10) ≤ (F176 3 10) := by have : F170 3 10 = F170 3 10 := rfl; have : (F176 3 10) * 255 ≤ (F170 3 10) * 255 + 255 + ((a2 - a1)) + 10 ∧ (F170 3 10) ≤ (F176 3 10) := pz1800; omega
        refine Ew_of (pc' := 61) (fun _ => x_iload_n rfl (rk_o (rk_o (rfl) rfl rfl) rfl rfl)) ?_
        refine Ew_of (pc' := 63) (fun _ => x_istore rfl) ?_
        have r182 : (-2147483648 : Int) ≤ F176 3 10 ∧ F176 3 10 ≤ 2147483647 := by have h1 : (-2147483648 : Int) ≤ F176 3 10 ∧ F176 3 10 ≤ 2147483647 := H.frng 3 10; have h2 : F176 3 10 = F176 3 10 := rfl; omega
        suffices hl63 : ∀ (m : Nat) (ls : rO) (σ : rS) (F_63 : hF) (A_63 : hA) (x63_7 : Int), rlook ls 0 = some (.ref (D 3)) → rlook ls 2 = some (I (a2)) → rlook ls 3 = some (I (a3)) → rlook ls 4 = some (I (a4)) → rlook ls 6 = some (I ((a3 - 4))) → rlook ls 7 = some (I (x63_7)) → HS σ0 σ D N F_63 A_63 → SF [(3, 10)] F176 F_63 → SA [20] A177 A_63 → (inr x63_7) → ((a1) ≤ x63_7) → (x63_7 ≤ (a1) ∨ x63_7 ≤ (a2)) → ((F_63 3 10) = (F176 3 10) + (x63_7 - a1)) → ((a2) - x63_7).toNat = m → Ew 365 (d + 2) 63 ls [] σ c s Q from
          hl63 _ _ _ _ _ (a1) (rk_o (rk_o (rk_o (rfl) rfl rfl) rfl rfl) rfl rfl) (rk_o (rk_o (rk_o (rfl) rfl rfl) rfl rfl) rfl rfl) (rk_o (rk_o (rk_o (rfl) rfl rfl) rfl rfl) rfl rfl) (rk_o (rk_o (rk_o (rfl) rfl rfl) rfl rfl) rfl rfl) (rk_o (rk_s) rfl rfl) (rk_s) H SF_refl SA_refl (by show inr (a1); omega) (by show (a1) ≤ (a1); omega) (by show (a1) ≤ (a1) ∨ (a1) ≤ ((a2)); omega) (by have : (-2147483648 : Int) ≤ F176 3 10 ∧ F176 3 10 ≤ 2147483647 := H.frng 3 10; have : F176 3 10 = F176 3 10 := rfl; show (F176 3 10) = (F176 3 10) + ((a1) - a1); omega) rfl
        intro m
        induction m using Nat.strongRecOn with
        | _ m ih63 =>
          intro ls σ F_63 A_63 x63_7 l63_0 l63_2 l63_3 l63_4 l63_6 l63_7 H hS_63 hA_63 j63_0 j63_1 j63_2 j63_3 hm63
          have r183 : (-2147483648 : Int) ≤ F_63 3 10 ∧ F_63 3 10 ≤ 2147483647 := by have h1 : (-2147483648 : Int) ≤ F_63 3 10 ∧ F_63 3 10 ≤ 2147483647 := H.frng 3 10; have h2 : F_63 3 10 = F_63 3 10 := rfl; omega
          refine Ew_of (pc' := 65) (fun _ => x_iload rfl l63_7) ?_
          refine Ew_of (pc' := 66) (fun _ => x_iload_n rfl l63_2) ?_
          refine w_icmpge (t := 86) rfl rfl (show inr (x63_7) by omega) (show inr (a2) by omega) (fun b184 => ?_) (fun b184 => ?_)
          · refine Ew_of (pc' := 87) (fun _ => x_iload_n rfl l63_3) ?_
            refine w_ifne (t := 91) rfl rfl (show inr (a3) by omega) (fun b185 => ?_) (fun b185 => ?_)
            · refine Ew_of (pc' := 92) (fun _ => x_aload_n rfl l63_0) ?_
              refine Ew_of (pc' := 94) (fun _ => x_iload rfl l63_4) ?_
              refine Ew_of (pc' := 97) (fun _ => x_sipush (z := 256) rfl (by decide)) ?_
              refine w_irem rfl (show inr (a4) ∧ 0 ≤ a4 by omega) (show inr (256) ∧ 0 < 256 by omega) ?_
              have r191 : (-2147483648 : Int) ≤ F_63 3 10 ∧ F_63 3 10 ≤ 2147483647 := by have : (-2147483648 : Int) ≤ F_63 3 10 ∧ F_63 3 10 ≤ 2147483647 := H.frng 3 10; have : F_63 3 10 = F_63 3 10 := rfl; omega
              refine w_inv H (o := 3) rfl rfl rfl (H.perm 3 rfl) rfl rfl (by rfl) (M363 H (by show inr ((a4 % 256)); omega) (by show 0 ≤ ((a4 % 256)) ∧ ((a4 % 256)) ≤ 255; omega) (by have : (-2147483648 : Int) ≤ F_63 3 10 ∧ F_63 3 10 ≤ 2147483647 := H.frng 3 10; have : F_63 3 10 = F_63 3 10 := rfl; show 0 ≤ (F_63 3 10) ∧ (F_63 3 10) ≤ 100000000; omega) (fun σ F186 A187 H hS188 hA189 pz1900 => ⟨rfl, ?_⟩))
              have pz1900 : (F186 3 10) = (F_63 3 10) + 1 := by have : F_63 3 10 = F_63 3 10 := rfl; have : (F186 3 10) = (F_63 3 10) + 1 := pz1900; omega
              refine Ew_of (pc' := 102) (fun _ => x_aload_n rfl l63_0) ?_
              refine Ew_of (pc' := 104) (fun _ => x_iload rfl l63_4) ?_
              refine Ew_of (pc' := 107) (fun _ => x_sipush (z := 256) rfl (by decide)) ?_
              refine w_idiv rfl (show inr (a4) ∧ 0 ≤ a4 by omega) (show inr (256) ∧ 0 < 256 by omega) ?_
              have r197 : (-2147483648 : Int) ≤ F186 3 10 ∧ F186 3 10 ≤ 2147483647 := by have : (-2147483648 : Int) ≤ F186 3 10 ∧ F186 3 10 ≤ 2147483647 := H.frng 3 10; have : F186 3 10 = F186 3 10 := rfl; omega
              refine w_inv H (o := 3) rfl rfl rfl (H.perm 3 rfl) rfl rfl (by rfl) (M363 H (by show inr ((a4 / 256)); omega) (by show 0 ≤ ((a4 / 256)) ∧ ((a4 / 256)) ≤ 255; omega) (by have : (-2147483648 : Int) ≤ F186 3 10 ∧ F186 3 10 ≤ 2147483647 := H.frng 3 10; have : F186 3 10 = F186 3 10 := rfl; show 0 ≤ (F186 3 10) ∧ (F186 3 10) ≤ 100000000; omega) (fun σ F192 A193 H hS194 hA195 pz1960 => ⟨rfl, ?_⟩))
              have pz1960 : (F192 3 10) = (F186 3 10) + 1 := by have : F186 3 10 = F186 3 10 := rfl; have : (F192 3 10) = (F186 3 10) + 1 := pz1960; omega
              refine Ew_of (pc' := 112) (fun _ => x_aload_n rfl l63_0) ?_
              refine Ew_of (pc' := 114) (fun _ => x_iload rfl l63_6) ?_
              have r203 : (-2147483648 : Int) ≤ F192 3 10 ∧ F192 3 10 ≤ 2147483647 := by have : (-2147483648 : Int) ≤ F192 3 10 ∧ F192 3 10 ≤ 2147483647 := H.frng 3 10; have : F192 3 10 = F192 3 10 := rfl; omega
              refine w_inv H (o := 3) rfl rfl rfl (H.perm 3 rfl) rfl rfl (by rfl) (M364 H (by show inr ((a3 - 4)); omega) (by show -10 ≤ ((a3 - 4)) ∧ ((a3 - 4)) ≤ 100000; omega) (by have : (-2147483648 : Int) ≤ F192 3 10 ∧ F192 3 10 ≤ 2147483647 := H.frng 3 10; have : F192 3 10 = F192 3 10 := rfl; show 0 ≤ (F192 3 10) ∧ (F192 3 10) ≤ 10000000; omega) (fun σ F198 A199 H hS200 hA201 pz2020 => ⟨rfl, ?_⟩))
              have pz2020 : (F198 3 10) * 255 ≤ (F192 3 10) * 255 + 255 + ((a3 - 4)) + 10 ∧ (F192 3 10) ≤ (F198 3 10) := by have : F192 3 10 = F192 3 10 := rfl; have : (F198 3 10) * 255 ≤ (F192 3 10) * 255 + 255 + ((a3 - 4)) + 10 ∧ (F192 3 10) ≤ (F198 3 10) := pz2020; omega
              exact w_ret rfl (k σ _ _ H (SF_trans (SF_trans (SF_trans (SF_trans (SF_trans (SF_trans (SF_refl) hS172 (any_sub rfl)) hS178 (any_sub rfl)) hS_63 (any_sub rfl)) hS188 (any_sub rfl)) hS194 (any_sub rfl)) hS200 (any_sub rfl)) (SA_trans (SA_trans (SA_trans (SA_trans (SA_trans (SA_trans (SA_refl) hA173 (any_subA rfl)) hA179 (any_subA rfl)) hA_63 (any_subA rfl)) hA189 (any_subA rfl)) hA195 (any_subA rfl)) hA201 (any_subA rfl)) (by have : (-2147483648 : Int) ≤ F198 3 10 ∧ F198 3 10 ≤ 2147483647 := H.frng 3 10; have : F198 3 10 = F198 3 10 := rfl; show (F 3 10) ≤ (F198 3 10) ∧ (F198 3 10) ≤ (F 3 10) + (a2 - a1) + 140; omega))
            · exact w_ret rfl (k σ _ _ H (SF_trans (SF_trans (SF_trans (SF_refl) hS172 (any_sub rfl)) hS178 (any_sub rfl)) hS_63 (any_sub rfl)) (SA_trans (SA_trans (SA_trans (SA_refl) hA173 (any_subA rfl)) hA179 (any_subA rfl)) hA_63 (any_subA rfl)) (by have : (-2147483648 : Int) ≤ F_63 3 10 ∧ F_63 3 10 ≤ 2147483647 := H.frng 3 10; have : F_63 3 10 = F_63 3 10 := rfl; show (F 3 10) ≤ (F_63 3 10) ∧ (F_63 3 10) ≤ (F 3 10) + (a2 - a1) + 140; omega))
          · refine Ew_of (pc' := 70) (fun _ => x_aload_n rfl l63_0) ?_
            refine Ew_of (pc' := 71) (fun _ => x_aload_n rfl l63_0) ?_
            refine w_gT H (o := 3) (t := 18) rfl (H.perm 3 rfl) rfl rfl rfl rfl rfl rfl ?_
            refine Ew_of (pc' := 76) (fun _ => x_iload rfl l63_7) ?_
            refine w_lI H (o := 18) (n := 16384) rfl (H.perm 18 rfl) rfl rfl (H.fix 18 rfl rfl) (show 0 ≤ x63_7 ∧ x63_7 < ((16384 : Nat) : Int) by omega) (by decide) (fun v204 ev204 qv204 => ?_)
            have qv204 : (0 : Int) ≤ v204 ∧ v204 ≤ 255 := qv204
            have ev204 : A_63 18 (x63_7) = v204 := ev204
            have ev204 : A 18 (x63_7) = v204 := by have : A_63 18 (x63_7) = A177 18 (x63_7) := hA_63 18 rfl (x63_7); have : A177 18 (x63_7) = A171 18 (x63_7) := hA179 18 rfl (x63_7); have : A171 18 (x63_7) = A 18 (x63_7) := hA173 18 rfl (x63_7); omega
            have r210 : (-2147483648 : Int) ≤ F_63 3 10 ∧ F_63 3 10 ≤ 2147483647 := by have : (-2147483648 : Int) ≤ F_63 3 10 ∧ F_63 3 10 ≤ 2147483647 := H.frng 3 10; have : F_63 3 10 = F_63 3 10 := rfl; omega
            refine w_inv H (o := 3) rfl rfl rfl (H.perm 3 rfl) rfl rfl (by rfl) (M363 H (by show inr (v204); omega) (by show 0 ≤ (v204) ∧ (v204) ≤ 255; omega) (by have : (-2147483648 : Int) ≤ F_63 3 10 ∧ F_63 3 10 ≤ 2147483647 := H.frng 3 10; have : F_63 3 10 = F_63 3 10 := rfl; show 0 ≤ (F_63 3 10) ∧ (F_63 3 10) ≤ 100000000; omega) (fun σ F205 A206 H hS207 hA208 pz2090 => ⟨rfl, ?_⟩))
            have pz2090 : (F205 3 10) = (F_63 3 10) + 1 := by have : F_63 3 10 = F_63 3 10 := rfl; have : (F205 3 10) = (F_63 3 10) + 1 := pz2090; omega
            refine Ew_of (pc' := 83) (fun _ => x_iinc (len := 3) rfl (l63_7)) ?_
            refine Ew_of (pc' := 63) (fun _ => x_goto rfl rfl) ?_
            exact ih63 _ (by omega) _ σ _ _ ((x63_7 + 1)) (rk_o (l63_0) rfl rfl) (rk_o (l63_2) rfl rfl) (rk_o (l63_3) rfl rfl) (rk_o (l63_4) rfl rfl) (rk_o (l63_6) rfl rfl) (rk_s) H (SF_trans (hS_63) hS207 (any_sub rfl)) (SA_trans (hA_63) hA208 (any_subA rfl)) (by show inr ((x63_7 + 1)); omega) (by show (a1) ≤ ((x63_7 + 1)); omega) (by show ((x63_7 + 1)) ≤ (a1) ∨ ((x63_7 + 1)) ≤ ((a2)); omega) (by have : (-2147483648 : Int) ≤ F205 3 10 ∧ F205 3 10 ≤ 2147483647 := H.frng 3 10; have : F205 3 10 = F205 3 10 := rfl; show (F205 3 10) = (F176 3 10) + (((x63_7 + 1)) - a1); omega) rfl
    · refine Ew_of (pc' := 33) (fun _ => x_iconst rfl) ?_
      refine Ew_of (pc' := 50) (fun _ => x_goto rfl rfl) ?_
      refine w_iadd rfl ?_
      have r216 : (-2147483648 : Int) ≤ F 3 10 ∧ F 3 10 ≤ 2147483647 := by have : (-2147483648 : Int) ≤ F 3 10 ∧ F 3 10 ≤ 2147483647 := H.frng 3 10; have : F 3 10 = F 3 10 := rfl; omega
      refine w_inv H (o := 3) rfl rfl rfl (H.perm 3 rfl) rfl rfl (by rfl) (M363 H (by show inr (((15 * 16) + 0)); omega) (by show 0 ≤ (((15 * 16) + 0)) ∧ (((15 * 16) + 0)) ≤ 255; omega) (by have : (-2147483648 : Int) ≤ F 3 10 ∧ F 3 10 ≤ 2147483647 := H.frng 3 10; have : F 3 10 = F 3 10 := rfl; show 0 ≤ (F 3 10) ∧ (F 3 10) ≤ 100000000; omega) (fun σ F211 A212 H hS213 hA214 pz2150 => ⟨rfl, ?_⟩))
      have pz2150 : (F211 3 10) = (F 3 10) + 1 := by have : (F211 3 10) = (F 3 10) + 1 := pz2150; omega
      refine Ew_of (pc' := 55) (fun _ => x_aload_n rfl (rk_o (rk_o (rfl) rfl rfl) rfl rfl)) ?_
      refine Ew_of (pc' := 57) (fun _ => x_iload rfl (rk_o (rk_s) rfl rfl)) ?_
      have r222 : (-2147483648 : Int) ≤ F211 3 10 ∧ F211 3 10 ≤ 2147483647 := by have : (-2147483648 : Int) ≤ F211 3 10 ∧ F211 3 10 ≤ 2147483647 := H.frng 3 10; have : F211 3 10 = F211 3 10 := rfl; omega
      refine w_inv H (o := 3) rfl rfl rfl (H.perm 3 rfl) rfl rfl (by rfl) (M364 H (by show inr ((a2 - a1)); omega) (by show -10 ≤ ((a2 - a1)) ∧ ((a2 - a1)) ≤ 100000; omega) (by have : (-2147483648 : Int) ≤ F211 3 10 ∧ F211 3 10 ≤ 2147483647 := H.frng 3 10; have : F211 3 10 = F211 3 10 := rfl; show 0 ≤ (F211 3 10) ∧ (F211 3 10) ≤ 10000000; omega) (fun σ F217 A218 H hS219 hA220 pz2210 => ⟨rfl, ?_⟩))
      have pz2210 : (F217 3 10) * 255 ≤ (F211 3 10) * 255 + 255 + ((a2 - a1)) + 10 ∧ (F211 3 10) ≤ (F217 3 10) := by have : F211 3 10 = F211 3 10 := rfl; have : (F217 3 10) * 255 ≤ (F211 3 10) * 255 + 255 + ((a2 - a1)) + 10 ∧ (F211 3 10) ≤ (F217 3 10) := pz2210; omega
      refine Ew_of (pc' := 61) (fun _ => x_iload_n rfl (rk_o (rk_o (rfl) rfl rfl) rfl rfl)) ?_
      refine Ew_of (pc' := 63) (fun _ => x_istore rfl) ?_
      have r223 : (-2147483648 : Int) ≤ F217 3 10 ∧ F217 3 10 ≤ 2147483647 := by have h1 : (-2147483648 : Int) ≤ F217 3 10 ∧ F217 3 10 ≤ 2147483647 := H.frng 3 10; have h2 : F217 3 10 = F217 3 10 := rfl; omega
      suffices hl63 : ∀ (m : Nat) (ls : rO) (σ : rS) (F_63 : hF) (A_63 : hA) (x63_7 : Int), rlook ls 0 = some (.ref (D 3)) → rlook ls 2 = some (I (a2)) → rlook ls 3 = some (I (a3)) → rlook ls 4 = some (I (a4)) → rlook ls 6 = some (I ((a3 - 4))) → rlook ls 7 = some (I (x63_7)) → HS σ0 σ D N F_63 A_63 → SF [(3, 10)] F217 F_63 → SA [20] A218 A_63 → (inr x63_7) → ((a1) ≤ x63_7) → (x63_7 ≤ (a1) ∨ x63_7 ≤ (a2)) → ((F_63 3 10) = (F217 3 10) + (x63_7 - a1)) → ((a2) - x63_7).toNat = m → Ew 365 (d + 2) 63 ls [] σ c s Q from
        hl63 _ _ _ _ _ (a1) (rk_o (rk_o (rk_o (rfl) rfl rfl) rfl rfl) rfl rfl) (rk_o (rk_o (rk_o (rfl) rfl rfl) rfl rfl) rfl rfl) (rk_o (rk_o (rk_o (rfl) rfl rfl) rfl rfl) rfl rfl) (rk_o (rk_o (rk_o (rfl) rfl rfl) rfl rfl) rfl rfl) (rk_o (rk_s) rfl rfl) (rk_s) H SF_refl SA_refl (by show inr (a1); omega) (by show (a1) ≤ (a1); omega) (by show (a1) ≤ (a1) ∨ (a1) ≤ ((a2)); omega) (by have : (-2147483648 : Int) ≤ F217 3 10 ∧ F217 3 10 ≤ 2147483647 := H.frng 3 10; have : F217 3 10 = F217 3 10 := rfl; show (F217 3 10) = (F217 3 10) + ((a1) - a1); omega) rfl
      intro m
      induction m using Nat.strongRecOn with
      | _ m ih63 =>
        intro ls σ F_63 A_63 x63_7 l63_0 l63_2 l63_3 l63_4 l63_6 l63_7 H hS_63 hA_63 j63_0 j63_1 j63_2 j63_3 hm63
        have r224 : (-2147483648 : Int) ≤ F_63 3 10 ∧ F_63 3 10 ≤ 2147483647 := by have h1 : (-2147483648 : Int) ≤ F_63 3 10 ∧ F_63 3 10 ≤ 2147483647 := H.frng 3 10; have h2 : F_63 3 10 = F_63 3 10 := rfl; omega
        refine Ew_of (pc' := 65) (fun _ => x_iload rfl l63_7) ?_
        refine Ew_of (pc' := 66) (fun _ => x_iload_n rfl l63_2) ?_
        refine w_icmpge (t := 86) rfl rfl (show inr (x63_7) by omega) (show inr (a2) by omega) (fun b225 => ?_) (fun b225 => ?_)
        · refine Ew_of (pc' := 87) (fun _ => x_iload_n rfl l63_3) ?_
          refine w_ifne (t := 91) rfl rfl (show inr (a3) by omega) (fun b226 => ?_) (fun b226 => ?_)
          · refine Ew_of (pc' := 92) (fun _ => x_aload_n rfl l63_0) ?_
            refine Ew_of (pc' := 94) (fun _ => x_iload rfl l63_4) ?_
            refine Ew_of (pc' := 97) (fun _ => x_sipush (z := 256) rfl (by decide)) ?_
            refine w_irem rfl (show inr (a4) ∧ 0 ≤ a4 by omega) (show inr (256) ∧ 0 < 256 by omega) ?_
            have r232 : (-2147483648 : Int) ≤ F_63 3 10 ∧ F_63 3 10 ≤ 2147483647 := by have : (-2147483648 : Int) ≤ F_63 3 10 ∧ F_63 3 10 ≤ 2147483647 := H.frng 3 10; have : F_63 3 10 = F_63 3 10 := rfl; omega
            refine w_inv H (o := 3) rfl rfl rfl (H.perm 3 rfl) rfl rfl (by rfl) (M363 H (by show inr ((a4 % 256)); omega) (by show 0 ≤ ((a4 % 256)) ∧ ((a4 % 256)) ≤ 255; omega) (by have : (-2147483648 : Int) ≤ F_63 3 10 ∧ F_63 3 10 ≤ 2147483647 := H.frng 3 10; have : F_63 3 10 = F_63 3 10 := rfl; show 0 ≤ (F_63 3 10) ∧ (F_63 3 10) ≤ 100000000; omega) (fun σ F227 A228 H hS229 hA230 pz2310 => ⟨rfl, ?_⟩))
            have pz2310 : (F227 3 10) = (F_63 3 10) + 1 := by have : F_63 3 10 = F_63 3 10 := rfl; have : (F227 3 10) = (F_63 3 10) + 1 := pz2310; omega
            refine Ew_of (pc' := 102) (fun _ => x_aload_n rfl l63_0) ?_
            refine Ew_of (pc' := 104) (fun _ => x_iload rfl l63_4) ?_
            refine Ew_of (pc' := 107) (fun _ => x_sipush (z := 256) rfl (by decide)) ?_
            refine w_idiv rfl (show inr (a4) ∧ 0 ≤ a4 by omega) (show inr (256) ∧ 0 < 256 by omega) ?_
            have r238 : (-2147483648 : Int) ≤ F227 3 10 ∧ F227 3 10 ≤ 2147483647 := by have : (-2147483648 : Int) ≤ F227 3 10 ∧ F227 3 10 ≤ 2147483647 := H.frng 3 10; have : F227 3 10 = F227 3 10 := rfl; omega
            refine w_inv H (o := 3) rfl rfl rfl (H.perm 3 rfl) rfl rfl (by rfl) (M363 H (by show inr ((a4 / 256)); omega) (by show 0 ≤ ((a4 / 256)) ∧ ((a4 / 256)) ≤ 255; omega) (by have : (-2147483648 : Int) ≤ F227 3 10 ∧ F227 3 10 ≤ 2147483647 := H.frng 3 10; have : F227 3 10 = F227 3 10 := rfl; show 0 ≤ (F227 3 10) ∧ (F227 3 10) ≤ 100000000; omega) (fun σ F233 A234 H hS235 hA236 pz2370 => ⟨rfl, ?_⟩))
            have pz2370 : (F233 3 10) = (F227 3 10) + 1 := by have : F227 3 10 = F227 3 10 := rfl; have : (F233 3 10) = (F227 3 10) + 1 := pz2370; omega
            refine Ew_of (pc' := 112) (fun _ => x_aload_n rfl l63_0) ?_
            refine Ew_of (pc' := 114) (fun _ => x_iload rfl l63_6) ?_
            have r244 : (-2147483648 : Int) ≤ F233 3 10 ∧ F233 3 10 ≤ 2147483647 := by have : (-2147483648 : Int) ≤ F233 3 10 ∧ F233 3 10 ≤ 2147483647 := H.frng 3 10; have : F233 3 10 = F233 3 10 := rfl; omega
            refine w_inv H (o := 3) rfl rfl rfl (H.perm 3 rfl) rfl rfl (by rfl) (M364 H (by show inr ((a3 - 4)); omega) (by show -10 ≤ ((a3 - 4)) ∧ ((a3 - 4)) ≤ 100000; omega) (by have : (-2147483648 : Int) ≤ F233 3 10 ∧ F233 3 10 ≤ 2147483647 := H.frng 3 10; have : F233 3 10 = F233 3 10 := rfl; show 0 ≤ (F233 3 10) ∧ (F233 3 10) ≤ 10000000; omega) (fun σ F239 A240 H hS241 hA242 pz2430 => ⟨rfl, ?_⟩))
            have pz2430 : (F239 3 10) * 255 ≤ (F233 3 10) * 255 + 255 + ((a3 - 4)) + 10 ∧ (F233 3 10) ≤ (F239 3 10) := by have : F233 3 10 = F233 3 10 := rfl; have : (F239 3 10) * 255 ≤ (F233 3 10) * 255 + 255 + ((a3 - 4)) + 10 ∧ (F233 3 10) ≤ (F239 3 10) := pz2430; omega
            exact w_ret rfl (k σ _ _ H (SF_trans (SF_trans (SF_trans (SF_trans (SF_trans (SF_trans (SF_refl) hS213 (any_sub rfl)) hS219 (any_sub rfl)) hS_63 (any_sub rfl)) hS229 (any_sub rfl)) hS235 (any_sub rfl)) hS241 (any_sub rfl)) (SA_trans (SA_trans (SA_trans (SA_trans (SA_trans (SA_trans (SA_refl) hA214 (any_subA rfl)) hA220 (any_subA rfl)) hA_63 (any_subA rfl)) hA230 (any_subA rfl)) hA236 (any_subA rfl)) hA242 (any_subA rfl)) (by have : (-2147483648 : Int) ≤ F239 3 10 ∧ F239 3 10 ≤ 2147483647 := H.frng 3 10; have : F239 3 10 = F239 3 10 := rfl; show (F 3 10) ≤ (F239 3 10) ∧ (F239 3 10) ≤ (F 3 10) + (a2 - a1) + 140; omega))
          · exact w_ret rfl (k σ _ _ H (SF_trans (SF_trans (SF_trans (SF_refl) hS213 (any_sub rfl)) hS219 (any_sub rfl)) hS_63 (any_sub rfl)) (SA_trans (SA_trans (SA_trans (SA_refl) hA214 (any_subA rfl)) hA220 (any_subA rfl)) hA_63 (any_subA rfl)) (by have : (-2147483648 : Int) ≤ F_63 3 10 ∧ F_63 3 10 ≤ 2147483647 := H.frng 3 10; have : F_63 3 10 = F_63 3 10 := rfl; show (F 3 10) ≤ (F_63 3 10) ∧ (F_63 3 10) ≤ (F 3 10) + (a2 - a1) + 140; omega))
        · refine Ew_of (pc' := 70) (fun _ => x_aload_n rfl l63_0) ?_
          refine Ew_of (pc' := 71) (fun _ => x_aload_n rfl l63_0) ?_
          refine w_gT H (o := 3) (t := 18) rfl (H.perm 3 rfl) rfl rfl rfl rfl rfl rfl ?_
          refine Ew_of (pc' := 76) (fun _ => x_iload rfl l63_7) ?_
          refine w_lI H (o := 18) (n := 16384) rfl (H.perm 18 rfl) rfl rfl (H.fix 18 rfl rfl) (show 0 ≤ x63_7 ∧ x63_7 < ((16384 : Nat) : Int) by omega) (by decide) (fun v245 ev245 qv245 => ?_)
          have qv245 : (0 : Int) ≤ v245 ∧ v245 ≤ 255 := qv245
          have ev245 : A_63 18 (x63_7) = v245 := ev245
          have ev245 : A 18 (x63_7) = v245 := by have : A_63 18 (x63_7) = A218 18 (x63_7) := hA_63 18 rfl (x63_7); have : A218 18 (x63_7) = A212 18 (x63_7) := hA220 18 rfl (x63_7); have : A212 18 (x63_7) = A 18 (x63_7) := hA214 18 rfl (x63_7); omega
          have r251 : (-2147483648 : Int) ≤ F_63 3 10 ∧ F_63 3 10 ≤ 2147483647 := by have : (-2147483648 : Int) ≤ F_63 3 10 ∧ F_63 3 10 ≤ 2147483647 := H.frng 3 10; have : F_63 3 10 = F_63 3 10 := rfl; omega
          refine w_inv H (o := 3) rfl rfl rfl (H.perm 3 rfl) rfl rfl (by rfl) (M363 H (by show inr (v245); omega) (by show 0 ≤ (v245) ∧ (v245) ≤ 255; omega) (by have : (-2147483648 : Int) ≤ F_63 3 10 ∧ F_63 3 10 ≤ 2147483647 := H.frng 3 10; have : F_63 3 10 = F_63 3 10 := rfl; show 0 ≤ (F_63 3 10) ∧ (F_63 3 10) ≤ 100000000; omega) (fun σ F246 A247 H hS248 hA249 pz2500 => ⟨rfl, ?_⟩))
          have pz2500 : (F246 3 10) = (F_63 3 10) + 1 := by have : F_63 3 10 = F_63 3 10 := rfl; have : (F246 3 10) = (F_63 3 10) + 1 := pz2500; omega
          refine Ew_of (pc' := 83) (fun _ => x_iinc (len := 3) rfl (l63_7)) ?_
          refine Ew_of (pc' := 63) (fun _ => x_goto rfl rfl) ?_
          exact ih63 _ (by omega) _ σ _ _ ((x63_7 + 1)) (rk_o (l63_0) rfl rfl) (rk_o (l63_2) rfl rfl) (rk_o (l63_3) rfl rfl) (rk_o (l63_4) rfl rfl) (rk_o (l63_6) rfl rfl) (rk_s) H (SF_trans (hS_63) hS248 (any_sub rfl)) (SA_trans (hA_63) hA249 (any_subA rfl)) (by show inr ((x63_7 + 1)); omega) (by show (a1) ≤ ((x63_7 + 1)); omega) (by show ((x63_7 + 1)) ≤ (a1) ∨ ((x63_7 + 1)) ≤ ((a2)); omega) (by have : (-2147483648 : Int) ≤ F246 3 10 ∧ F246 3 10 ≤ 2147483647 := H.frng 3 10; have : F246 3 10 = F246 3 10 := rfl; show (F246 3 10) = (F217 3 10) + (((x63_7 + 1)) - a1); omega) rfl
/-- Tokens.writeBlock -/
theorem M366 {σ0 σ : rS} {D N : Nat → Nat} {F : hF} {A : hA} {d c s : Nat} {Q : wQ} (H : HS σ0 σ D N F A) {a1 a2 : Int} (h0 : inr a1) (h1 : inr a2) (h2 : 0 ≤ F 3 5 ∧ F 3 5 ≤ 16384) (h3 : 0 ≤ a1 ∧ a1 ≤ F 3 5) (k : ∀ σ F' A', HS σ0 σ D N F' A' → SF [(3, 6), (3, 10)] F F' → SA [20] A A' → (0 ≤ (F' 3 10) ∧ (F' 3 10) ≤ 3000000) → Q none σ c s) : Ew 366 (d + 3) 0 (rargs 0 [.ref (D 3), I a1, I a2]) [] σ c s Q := by
  have rp3_5 : (-2147483648 : Int) ≤ F 3 5 ∧ F 3 5 ≤ 2147483647 := H.frng 3 5
  refine Ew_of (pc' := 1) (fun _ => x_aload_n rfl rfl) ?_
  refine Ew_of (pc' := 2) (fun _ => x_iconst rfl) ?_
  refine w_pI H (o := 3) rfl rfl (H.perm 3 rfl) rfl rfl rfl (fun _ => rfl) rfl (show (-2147483648 : Int) ≤ 0 ∧ 0 ≤ 2147483647 by omega) (fun σ H => ?_)
  refine Ew_of (pc' := 6) (fun _ => x_iload_n rfl rfl) ?_
  refine Ew_of (pc' := 7) (fun _ => x_istore_n rfl) ?_
  refine Ew_of (pc' := 8) (fun _ => x_iload_n rfl (rk_o (rfl) rfl rfl)) ?_
  refine Ew_of (pc' := 10) (fun _ => x_istore rfl) ?_
  have r1 : (-2147483648 : Int) ≤ F 3 5 ∧ F 3 5 ≤ 2147483647 := by have h1 : (-2147483648 : Int) ≤ (updF F 3 10 (0)) 3 5 ∧ (updF F 3 10 (0)) 3 5 ≤ 2147483647 := H.frng 3 5; have h2 : (updF F 3 10 (0)) 3 5 = F 3 5 := rfl; omega
  have r2 : (-2147483648 : Int) ≤ 0 ∧ 0 ≤ 2147483647 := by have h1 : (-2147483648 : Int) ≤ (updF F 3 10 (0)) 3 10 ∧ (updF F 3 10 (0)) 3 10 ≤ 2147483647 := H.frng 3 10; have h2 : (updF F 3 10 (0)) 3 10 = 0 := rfl; omega
  suffices hl10 : ∀ (m : Nat) (ls : rO) (σ : rS) (F_10 : hF) (A_10 : hA) (x10_3 : Int) (x10_4 : Int), rlook ls 0 = some (.ref (D 3)) → rlook ls 2 = some (I (a2)) → rlook ls 3 = some (I (x10_3)) → rlook ls 4 = some (I (x10_4)) → HS σ0 σ D N F_10 A_10 → SF [(3, 6), (3, 10)] (updF F 3 10 (0)) F_10 → SA [20] A A_10 → (inr x10_3) → (inr x10_4) → (a1 ≤ x10_3 ∧ x10_3 ≤ x10_4 ∧ x10_4 ≤ (F 3 5)) → (0 ≤ (F_10 3 10) ∧ (F_10 3 10) ≤ 141 * (x10_3 - a1)) → ((F 3 5) - x10_4).toNat = m → Ew 366 (d + 3) 10 ls [] σ c s Q from
    hl10 _ _ _ _ _ (a1) (a1) (rk_o (rk_o (rfl) rfl rfl) rfl rfl) (rk_o (rk_o (rfl) rfl rfl) rfl rfl) (rk_o (rk_s) rfl rfl) (rk_s) H SF_refl SA_refl (by show inr (a1); omega) (by show inr (a1); omega) (by show a1 ≤ (a1) ∧ (a1) ≤ (a1) ∧ (a1) ≤ (F 3 5); omega) (by have : (-2147483648 : Int) ≤ (updF F 3 10 (0)) 3 10 ∧ (updF F 3 10 (0)) 3 10 ≤ 2147483647 := H.frng 3 10; have : (updF F 3 10 (0)) 3 10 = 0 := rfl; show 0 ≤ ((updF F 3 10 (0)) 3 10) ∧ ((updF F 3 10 (0)) 3 10) ≤ 141 * ((a1) - a1); omega) rfl
  intro m
  induction m using Nat.strongRecOn with
  | _ m ih10 =>
    intro ls σ F_10 A_10 x10_3 x10_4 l10_0 l10_2 l10_3 l10_4 H hS_10 hA_10 j10_0 j10_1 j10_2 j10_3 hm10
    have r3 : (-2147483648 : Int) ≤ F 3 5 ∧ F 3 5 ≤ 2147483647 := by have h1 : (-2147483648 : Int) ≤ F_10 3 5 ∧ F_10 3 5 ≤ 2147483647 := H.frng 3 5; have h2 : F_10 3 5 = F 3 5 := (hS_10 3 5 rfl); omega
    have r4 : (-2147483648 : Int) ≤ F_10 3 10 ∧ F_10 3 10 ≤ 2147483647 := by have h1 : (-2147483648 : Int) ≤ F_10 3 10 ∧ F_10 3 10 ≤ 2147483647 := H.frng 3 10; have h2 : F_10 3 10 = F_10 3 10 := rfl; omega
    refine Ew_of (pc' := 12) (fun _ => x_iload rfl l10_4) ?_
    refine Ew_of (pc' := 13) (fun _ => x_aload_n rfl l10_0) ?_
    refine w_gI H (o := 3) (w := F 3 5) rfl (H.perm 3 rfl) rfl rfl rfl (fun _ => rfl) (hS_10 3 5 rfl) ?_
    have r5 : (-2147483648 : Int) ≤ F 3 5 ∧ F 3 5 ≤ 2147483647 := by have h1 : (-2147483648 : Int) ≤ F_10 3 5 ∧ F_10 3 5 ≤ 2147483647 := H.frng 3 5; have h2 : F_10 3 5 = F 3 5 := (hS_10 3 5 rfl); omega
    refine w_icmpge (t := 68) rfl rfl (show inr (x10_4) by omega) (show inr (F 3 5) by omega) (fun b6 => ?_) (fun b6 => ?_)
    · refine Ew_of (pc' := 69) (fun _ => x_aload_n rfl l10_0) ?_
      refine Ew_of (pc' := 70) (fun _ => x_iload_n rfl l10_3) ?_
      refine Ew_of (pc' := 71) (fun _ => x_aload_n rfl l10_0) ?_
      refine w_gI H (o := 3) (w := F 3 5) rfl (H.perm 3 rfl) rfl rfl rfl (fun _ => rfl) (hS_10 3 5 rfl) ?_
      have r7 : (-2147483648 : Int) ≤ F 3 5 ∧ F 3 5 ≤ 2147483647 := by have h1 : (-2147483648 : Int) ≤ F_10 3 5 ∧ F_10 3 5 ≤ 2147483647 := H.frng 3 5; have h2 : F_10 3 5 = F 3 5 := (hS_10 3 5 rfl); omega
      refine Ew_of (pc' := 75) (fun _ => x_iconst rfl) ?_
      refine Ew_of (pc' := 76) (fun _ => x_iconst rfl) ?_
      have r13 : (-2147483648 : Int) ≤ F_10 3 10 ∧ F_10 3 10 ≤ 2147483647 := by have : (-2147483648 : Int) ≤ F_10 3 10 ∧ F_10 3 10 ≤ 2147483647 := H.frng 3 10; have : F_10 3 10 = F_10 3 10 := rfl; omega
      refine w_inv H (o := 3) rfl rfl rfl (H.perm 3 rfl) rfl rfl (by rfl) (M365 H (by show inr (x10_3); omega) (by show inr (F 3 5); omega) (by show inr (0); omega) (by show inr (0); omega) (by show 0 ≤ (x10_3) ∧ (x10_3) ≤ (F 3 5) ∧ (F 3 5) ≤ 16384; omega) (by show (0) = 0 ∨ 4 ≤ (0); omega) (by show (0) ≤ 16384 ∧ 0 ≤ (0) ∧ (0) ≤ 16384; omega) (by have : (-2147483648 : Int) ≤ F_10 3 10 ∧ F_10 3 10 ≤ 2147483647 := H.frng 3 10; have : F_10 3 10 = F_10 3 10 := rfl; show 0 ≤ (F_10 3 10) ∧ (F_10 3 10) ≤ 5000000; omega) (fun σ F8 A9 H hS10 hA11 pz120 => ⟨rfl, ?_⟩))
      have pz120 : (F_10 3 10) ≤ (F8 3 10) ∧ (F8 3 10) ≤ (F_10 3 10) + ((F 3 5) - (x10_3)) + 140 := by have : F_10 3 10 = F_10 3 10 := rfl; have : (F_10 3 10) ≤ (F8 3 10) ∧ (F8 3 10) ≤ (F_10 3 10) + ((F 3 5) - (x10_3)) + 140 := pz120; omega
      exact w_ret rfl (k σ _ _ H (SF_trans (SF_trans (SF_upd (SF_refl) rfl) hS_10 (any_sub rfl)) hS10 (any_sub rfl)) (SA_trans (SA_trans (SA_refl) hA_10 (any_subA rfl)) hA11 (any_subA rfl)) (by have : (-2147483648 : Int) ≤ F8 3 10 ∧ F8 3 10 ≤ 2147483647 := H.frng 3 10; have : F8 3 10 = F8 3 10 := rfl; show 0 ≤ (F8 3 10) ∧ (F8 3 10) ≤ 3000000; omega))
    · refine Ew_of (pc' := 20) (fun _ => x_aload_n rfl l10_0) ?_
      refine Ew_of (pc' := 22) (fun _ => x_iload rfl l10_4) ?_
      refine Ew_of (pc' := 23) (fun _ => x_iload_n rfl l10_2) ?_
      have r19 : (-2147483648 : Int) ≤ F 3 5 ∧ F 3 5 ≤ 2147483647 := by have : (-2147483648 : Int) ≤ F_10 3 5 ∧ F_10 3 5 ≤ 2147483647 := H.frng 3 5; have : F_10 3 5 = F 3 5 := (hS_10 3 5 rfl); omega
      refine w_inv H (o := 3) rfl rfl rfl (H.perm 3 rfl) rfl rfl (by rfl) (M362 H (by show inr (x10_4); omega) (by show inr (a2); omega) (by have : (-2147483648 : Int) ≤ F_10 3 5 ∧ F_10 3 5 ≤ 2147483647 := H.frng 3 5; have : F_10 3 5 = F 3 5 := (hS_10 3 5 rfl); show 0 ≤ (F_10 3 5) ∧ (F_10 3 5) ≤ 16384; omega) (by show 0 ≤ (x10_4) ∧ (x10_4) < 16384; omega) (fun z18 σ F14 A15 H hS16 hA17 pz180 pz181 pz182 pz183 => ⟨rfl, ?_⟩))
      have pz182 : z18 = 0 ∨ 4 ≤ z18 ∧ z18 ≤ (F 3 5) - 5 - (x10_4) := by have : F_10 3 5 = F 3 5 := (hS_10 3 5 rfl); have : z18 = 0 ∨ 4 ≤ z18 ∧ z18 ≤ (F_10 3 5) - 5 - (x10_4) := pz182; omega
      have pz183 : z18 = 0 ∨ (F14 3 6) < (x10_4) := by have : z18 = 0 ∨ (F14 3 6) < (x10_4) := pz183; omega
      refine Ew_of (pc' := 28) (fun _ => x_istore rfl) ?_
      refine Ew_of (pc' := 30) (fun _ => x_iload rfl rk_s) ?_
      refine w_ifne (t := 39) rfl rfl (show inr (z18) by omega) (fun b20 => ?_) (fun b20 => ?_)
      · refine Ew_of (pc' := 40) (fun _ => x_aload_n rfl (rk_o (l10_0) rfl rfl)) ?_
        refine Ew_of (pc' := 41) (fun _ => x_iload_n rfl (rk_o (l10_3) rfl rfl)) ?_
        refine Ew_of (pc' := 43) (fun _ => x_iload rfl (rk_o (l10_4) rfl rfl)) ?_
        refine Ew_of (pc' := 45) (fun _ => x_iload rfl rk_s) ?_
        refine Ew_of (pc' := 47) (fun _ => x_iload rfl (rk_o (l10_4) rfl rfl)) ?_
        refine Ew_of (pc' := 48) (fun _ => x_aload_n rfl (rk_o (l10_0) rfl rfl)) ?_
        refine w_gI H (o := 3) (w := F14 3 6) rfl (H.perm 3 rfl) rfl rfl rfl (fun _ => rfl) rfl ?_
        have r21 : (0 : Int) ≤ F14 3 6 ∧ F14 3 6 ≤ 16384 := by have h1 : (0 : Int) ≤ F14 3 6 ∧ F14 3 6 ≤ 16384 := H.frng 3 6; have h2 : F14 3 6 = F14 3 6 := rfl; omega
        refine w_isub rfl ?_
        have r27 : (-2147483648 : Int) ≤ F_10 3 10 ∧ F_10 3 10 ≤ 2147483647 := by have : (-2147483648 : Int) ≤ F14 3 10 ∧ F14 3 10 ≤ 2147483647 := H.frng 3 10; have : F14 3 10 = F_10 3 10 := (hS16 3 10 rfl); omega
        refine w_inv H (o := 3) rfl rfl rfl (H.perm 3 rfl) rfl rfl (by rfl) (M365 H (by show inr (x10_3); omega) (by show inr (x10_4); omega) (by show inr (z18); omega) (by show inr ((x10_4 - F14 3 6)); omega) (by show 0 ≤ (x10_3) ∧ (x10_3) ≤ (x10_4) ∧ (x10_4) ≤ 16384; omega) (by show (z18) = 0 ∨ 4 ≤ (z18); omega) (by show (z18) ≤ 16384 ∧ 0 ≤ ((x10_4 - F14 3 6)) ∧ ((x10_4 - F14 3 6)) ≤ 16384; omega) (by have : (-2147483648 : Int) ≤ F14 3 10 ∧ F14 3 10 ≤ 2147483647 := H.frng 3 10; have : F14 3 10 = F_10 3 10 := (hS16 3 10 rfl); show 0 ≤ (F14 3 10) ∧ (F14 3 10) ≤ 5000000; omega) (fun σ F22 A23 H hS24 hA25 pz260 => ⟨rfl, ?_⟩))
        have pz260 : (F_10 3 10) ≤ (F22 3 10) ∧ (F22 3 10) ≤ (F_10 3 10) + ((x10_4) - (x10_3)) + 140 := by have : F14 3 10 = F_10 3 10 := (hS16 3 10 rfl); have : (F14 3 10) ≤ (F22 3 10) ∧ (F22 3 10) ≤ (F14 3 10) + ((x10_4) - (x10_3)) + 140 := pz260; omega
        refine Ew_of (pc' := 57) (fun _ => x_iload rfl (rk_o (l10_4) rfl rfl)) ?_
        refine Ew_of (pc' := 59) (fun _ => x_iload rfl rk_s) ?_
        refine w_iadd rfl ?_
        refine Ew_of (pc' := 62) (fun _ => x_istore rfl) ?_
        refine Ew_of (pc' := 64) (fun _ => x_iload rfl rk_s) ?_
        refine Ew_of (pc' := 65) (fun _ => x_istore_n rfl) ?_
        refine Ew_of (pc' := 10) (fun _ => x_goto rfl rfl) ?_
        exact ih10 _ (by omega) _ σ _ _ ((x10_4 + z18)) ((x10_4 + z18)) (rk_o (rk_o (rk_o (l10_0) rfl rfl) rfl rfl) rfl rfl) (rk_o (rk_o (rk_o (l10_2) rfl rfl) rfl rfl) rfl rfl) (rk_s) (rk_o (rk_s) rfl rfl) H (SF_trans (SF_trans (hS_10) hS16 (any_sub rfl)) hS24 (any_sub rfl)) (SA_trans (SA_trans (hA_10) hA17 (any_subA rfl)) hA25 (any_subA rfl)) (by show inr ((x10_4 + z18)); omega) (by show inr ((x10_4 + z18)); omega) (by show a1 ≤ ((x10_4 + z18)) ∧ ((x10_4 + z18)) ≤ ((x10_4 + z18)) ∧ ((x10_4 + z18)) ≤ (F 3 5); omega) (by have : (-2147483648 : Int) ≤ F22 3 10 ∧ F22 3 10 ≤ 2147483647 := H.frng 3 10; have : F22 3 10 = F22 3 10 := rfl; show 0 ≤ (F22 3 10) ∧ (F22 3 10) ≤ 141 * (((x10_4 + z18)) - a1); omega) rfl
      · refine Ew_of (pc' := 36) (fun _ => x_iinc (len := 3) rfl (rk_o (l10_4) rfl rfl)) ?_
        refine Ew_of (pc' := 10) (fun _ => x_goto rfl rfl) ?_
        exact ih10 _ (by omega) _ σ _ _ (x10_3) ((x10_4 + 1)) (rk_o (rk_o (l10_0) rfl rfl) rfl rfl) (rk_o (rk_o (l10_2) rfl rfl) rfl rfl) (rk_o (rk_o (l10_3) rfl rfl) rfl rfl) (rk_s) H (SF_trans (hS_10) hS16 (any_sub rfl)) (SA_trans (hA_10) hA17 (any_subA rfl)) (by show inr (x10_3); omega) (by show inr ((x10_4 + 1)); omega) (by show a1 ≤ (x10_3) ∧ (x10_3) ≤ ((x10_4 + 1)) ∧ ((x10_4 + 1)) ≤ (F 3 5); omega) (by have : (-2147483648 : Int) ≤ F14 3 10 ∧ F14 3 10 ≤ 2147483647 := H.frng 3 10; have : F14 3 10 = F_10 3 10 := (hS16 3 10 rfl); show 0 ≤ (F14 3 10) ∧ (F14 3 10) ≤ 141 * ((x10_3) - a1); omega) rfl
/-- Tokens.show -/
theorem M369_19 {σ0 σ : rS} {D N : Nat → Nat} {F : hF} {A : hA} {d c s : Nat} {Q : wQ} (H : HS σ0 σ D N F A) {a2 : Int} (h0 : inr a2) (h1 : 0 ≤ a2 ∧ a2 ≤ 100000000) (k : ∀ (z : Int) σ F' A', HS σ0 σ D N F' A' → SF [(1, 3)] F F' → SA [15] A A' → (inr z) → (z = -1 ∨ z = a2) → Q (some (I z)) σ c s) : Ew 369 (d + 0) 0 (rargs 0 [.ref (D 3), .ref (D 19), I a2]) [] σ c s Q := by
  refine Ew_of (pc' := 1) (fun _ => x_iload_n rfl rfl) ?_
  refine Ew_of (pc' := 3) (fun _ => x_ldc (z := 65536) rfl (by decide)) ?_
  refine w_icmple (t := 8) rfl rfl (show inr (a2) by omega) (show inr (65536) by omega) (fun b1 => ?_) (fun b1 => ?_)
  · refine Ew_of (pc' := 9) (fun _ => x_iconst rfl) ?_
    refine Ew_of (pc' := 10) (fun _ => x_istore_n rfl) ?_
    suffices hl10 : ∀ (m : Nat) (ls : rO) (σ : rS) (F_10 : hF) (A_10 : hA) (x10_3 : Int), rlook ls 0 = some (.ref (D 3)) → rlook ls 1 = some (.ref (D 19)) → rlook ls 2 = some (I (a2)) → rlook ls 3 = some (I (x10_3)) → HS σ0 σ D N F_10 A_10 → SF [] F F_10 → SA [15] A A_10 → (inr x10_3) → ((0) ≤ x10_3) → (x10_3 ≤ (0) ∨ x10_3 ≤ (a2)) → ((a2) - x10_3).toNat = m → Ew 369 (d + 0) 10 ls [] σ c s Q from
      hl10 _ _ _ _ _ (0) (rk_o (rfl) rfl rfl) (rk_o (rfl) rfl rfl) (rk_o (rfl) rfl rfl) (rk_s) H SF_refl SA_refl (by show inr (0); omega) (by show (0) ≤ (0); omega) (by show (0) ≤ (0) ∨ (0) ≤ ((a2)); omega) rfl
    intro m
    induction m using Nat.strongRecOn with
    | _ m ih10 =>
      intro ls σ F_10 A_10 x10_3 l10_0 l10_1 l10_2 l10_3 H hS_10 hA_10 j10_0 j10_1 j10_2 hm10
      refine Ew_of (pc' := 11) (fun _ => x_iload_n rfl l10_3) ?_
      refine Ew_of (pc' := 12) (fun _ => x_iload_n rfl l10_2) ?_
      refine w_icmpge (t := 33) rfl rfl (show inr (x10_3) by omega) (show inr (a2) by omega) (fun b2 => ?_) (fun b2 => ?_)
      · refine Ew_of (pc' := 34) (fun _ => x_aload_n rfl l10_0) ?_
        refine w_gT H (o := 3) (t := 1) rfl (H.perm 3 rfl) rfl rfl rfl rfl rfl rfl ?_
        refine Ew_of (pc' := 38) (fun _ => x_iload_n rfl l10_2) ?_
        refine w_pI H (o := 1) rfl rfl (H.perm 1 rfl) rfl rfl rfl (fun _ => rfl) rfl (show (0 : Int) ≤ a2 ∧ a2 ≤ 65536 by omega) (fun σ H => ?_)
        refine Ew_of (pc' := 42) (fun _ => x_iload_n rfl l10_2) ?_
        exact w_ireturn rfl (k (a2) σ _ _ H (SF_upd (SF_trans (SF_refl) hS_10 (any_sub rfl)) rfl) (SA_trans (SA_refl) hA_10 (any_subA rfl)) (by show inr (a2); omega) (by show (a2) = -1 ∨ (a2) = a2; omega))
      · refine Ew_of (pc' := 16) (fun _ => x_aload_n rfl l10_0) ?_
        refine w_gT H (o := 3) (t := 1) rfl (H.perm 3 rfl) rfl rfl rfl rfl rfl rfl ?_
        refine w_gT H (o := 1) (t := 15) rfl (H.perm 1 rfl) rfl rfl rfl rfl rfl rfl ?_
        refine Ew_of (pc' := 23) (fun _ => x_iload_n rfl l10_3) ?_
        refine Ew_of (pc' := 24) (fun _ => x_aload_n rfl l10_1) ?_
        refine Ew_of (pc' := 25) (fun _ => x_iload_n rfl l10_3) ?_
        refine w_lI H (o := 19) (n := 70000) rfl (H.perm 19 rfl) rfl rfl (H.fix 19 rfl rfl) (show 0 ≤ x10_3 ∧ x10_3 < ((70000 : Nat) : Int) by omega) (by decide) (fun v3 ev3 qv3 => ?_)
        have qv3 : (0 : Int) ≤ v3 ∧ v3 ≤ 255 := qv3
        have ev3 : A_10 19 (x10_3) = v3 := ev3
        have ev3 : A 19 (x10_3) = v3 := by have : A_10 19 (x10_3) = A 19 (x10_3) := hA_10 19 rfl (x10_3); omega
        refine w_sI H (o := 15) (n := 65536) rfl (H.perm 15 rfl) rfl rfl (H.fix 15 rfl rfl) (show 0 ≤ x10_3 ∧ x10_3 < ((65536 : Nat) : Int) by omega) (by decide) (show (0 : Int) ≤ v3 ∧ v3 ≤ 255 by omega) (fun σ H => ?_)
        refine Ew_of (pc' := 30) (fun _ => x_iinc (len := 3) rfl (l10_3)) ?_
        refine Ew_of (pc' := 10) (fun _ => x_goto rfl rfl) ?_
        exact ih10 _ (by omega) _ σ _ _ ((x10_3 + 1)) (rk_o (l10_0) rfl rfl) (rk_o (l10_1) rfl rfl) (rk_o (l10_2) rfl rfl) (rk_s) H (hS_10) (SA_upd (hA_10) rfl) (by show inr ((x10_3 + 1)); omega) (by show (0) ≤ ((x10_3 + 1)); omega) (by show ((x10_3 + 1)) ≤ (0) ∨ ((x10_3 + 1)) ≤ ((a2)); omega) rfl
  · refine Ew_of (pc' := 7) (fun _ => x_iconst rfl) ?_
    exact w_ireturn rfl (k ((-1)) σ _ _ H (SF_refl) (SA_refl) (by show inr ((-1)); omega) (by show ((-1)) = -1 ∨ ((-1)) = a2; omega))
/-- Tokens.show -/
theorem M369_20 {σ0 σ : rS} {D N : Nat → Nat} {F : hF} {A : hA} {d c s : Nat} {Q : wQ} (H : HS σ0 σ D N F A) {a2 : Int} (h0 : inr a2) (h1 : 0 ≤ a2 ∧ a2 ≤ 100000000) (k : ∀ (z : Int) σ F' A', HS σ0 σ D N F' A' → SF [(1, 3)] F F' → SA [15] A A' → (inr z) → (z = -1 ∨ z = a2) → Q (some (I z)) σ c s) : Ew 369 (d + 0) 0 (rargs 0 [.ref (D 3), .ref (D 20), I a2]) [] σ c s Q := by
  refine Ew_of (pc' := 1) (fun _ => x_iload_n rfl rfl) ?_
  refine Ew_of (pc' := 3) (fun _ => x_ldc (z := 65536) rfl (by decide)) ?_
  refine w_icmple (t := 8) rfl rfl (show inr (a2) by omega) (show inr (65536) by omega) (fun b1 => ?_) (fun b1 => ?_)
  · refine Ew_of (pc' := 9) (fun _ => x_iconst rfl) ?_
    refine Ew_of (pc' := 10) (fun _ => x_istore_n rfl) ?_
    suffices hl10 : ∀ (m : Nat) (ls : rO) (σ : rS) (F_10 : hF) (A_10 : hA) (x10_3 : Int), rlook ls 0 = some (.ref (D 3)) → rlook ls 1 = some (.ref (D 20)) → rlook ls 2 = some (I (a2)) → rlook ls 3 = some (I (x10_3)) → HS σ0 σ D N F_10 A_10 → SF [] F F_10 → SA [15] A A_10 → (inr x10_3) → ((0) ≤ x10_3) → (x10_3 ≤ (0) ∨ x10_3 ≤ (a2)) → ((a2) - x10_3).toNat = m → Ew 369 (d + 0) 10 ls [] σ c s Q from
      hl10 _ _ _ _ _ (0) (rk_o (rfl) rfl rfl) (rk_o (rfl) rfl rfl) (rk_o (rfl) rfl rfl) (rk_s) H SF_refl SA_refl (by show inr (0); omega) (by show (0) ≤ (0); omega) (by show (0) ≤ (0) ∨ (0) ≤ ((a2)); omega) rfl
    intro m
    induction m using Nat.strongRecOn with
    | _ m ih10 =>
      intro ls σ F_10 A_10 x10_3 l10_0 l10_1 l10_2 l10_3 H hS_10 hA_10 j10_0 j10_1 j10_2 hm10
      refine Ew_of (pc' := 11) (fun _ => x_iload_n rfl l10_3) ?_
      refine Ew_of (pc' := 12) (fun _ => x_iload_n rfl l10_2) ?_
      refine w_icmpge (t := 33) rfl rfl (show inr (x10_3) by omega) (show inr (a2) by omega) (fun b2 => ?_) (fun b2 => ?_)
      · refine Ew_of (pc' := 34) (fun _ => x_aload_n rfl l10_0) ?_
        refine w_gT H (o := 3) (t := 1) rfl (H.perm 3 rfl) rfl rfl rfl rfl rfl rfl ?_
        refine Ew_of (pc' := 38) (fun _ => x_iload_n rfl l10_2) ?_
        refine w_pI H (o := 1) rfl rfl (H.perm 1 rfl) rfl rfl rfl (fun _ => rfl) rfl (show (0 : Int) ≤ a2 ∧ a2 ≤ 65536 by omega) (fun σ H => ?_)
        refine Ew_of (pc' := 42) (fun _ => x_iload_n rfl l10_2) ?_
        exact w_ireturn rfl (k (a2) σ _ _ H (SF_upd (SF_trans (SF_refl) hS_10 (any_sub rfl)) rfl) (SA_trans (SA_refl) hA_10 (any_subA rfl)) (by show inr (a2); omega) (by show (a2) = -1 ∨ (a2) = a2; omega))
      · refine Ew_of (pc' := 16) (fun _ => x_aload_n rfl l10_0) ?_
        refine w_gT H (o := 3) (t := 1) rfl (H.perm 3 rfl) rfl rfl rfl rfl rfl rfl ?_
        refine w_gT H (o := 1) (t := 15) rfl (H.perm 1 rfl) rfl rfl rfl rfl rfl rfl ?_
        refine Ew_of (pc' := 23) (fun _ => x_iload_n rfl l10_3) ?_
        refine Ew_of (pc' := 24) (fun _ => x_aload_n rfl l10_1) ?_
        refine Ew_of (pc' := 25) (fun _ => x_iload_n rfl l10_3) ?_
        refine w_lI H (o := 20) (n := 70000) rfl (H.perm 20 rfl) rfl rfl (H.fix 20 rfl rfl) (show 0 ≤ x10_3 ∧ x10_3 < ((70000 : Nat) : Int) by omega) (by decide) (fun v3 ev3 qv3 => ?_)
        have qv3 : (0 : Int) ≤ v3 ∧ v3 ≤ 255 := qv3
        have ev3 : A_10 20 (x10_3) = v3 := ev3
        have ev3 : A 20 (x10_3) = v3 := by have : A_10 20 (x10_3) = A 20 (x10_3) := hA_10 20 rfl (x10_3); omega
        refine w_sI H (o := 15) (n := 65536) rfl (H.perm 15 rfl) rfl rfl (H.fix 15 rfl rfl) (show 0 ≤ x10_3 ∧ x10_3 < ((65536 : Nat) : Int) by omega) (by decide) (show (0 : Int) ≤ v3 ∧ v3 ≤ 255 by omega) (fun σ H => ?_)
        refine Ew_of (pc' := 30) (fun _ => x_iinc (len := 3) rfl (l10_3)) ?_
        refine Ew_of (pc' := 10) (fun _ => x_goto rfl rfl) ?_
        exact ih10 _ (by omega) _ σ _ _ ((x10_3 + 1)) (rk_o (l10_0) rfl rfl) (rk_o (l10_1) rfl rfl) (rk_o (l10_2) rfl rfl) (rk_s) H (hS_10) (SA_upd (hA_10) rfl) (by show inr ((x10_3 + 1)); omega) (by show (0) ≤ ((x10_3 + 1)); omega) (by show ((x10_3 + 1)) ≤ (0) ∨ ((x10_3 + 1)) ≤ ((a2)); omega) rfl
  · refine Ew_of (pc' := 7) (fun _ => x_iconst rfl) ?_
    exact w_ireturn rfl (k ((-1)) σ _ _ H (SF_refl) (SA_refl) (by show inr ((-1)); omega) (by show ((-1)) = -1 ∨ ((-1)) = a2; omega))
/-- Tokens.show -/
theorem M369_22 {σ0 σ : rS} {D N : Nat → Nat} {F : hF} {A : hA} {d c s : Nat} {Q : wQ} (H : HS σ0 σ D N F A) {a2 : Int} (h0 : inr a2) (h1 : 0 ≤ a2 ∧ a2 ≤ 100000000) (k : ∀ (z : Int) σ F' A', HS σ0 σ D N F' A' → SF [(1, 3)] F F' → SA [15] A A' → (inr z) → (z = -1 ∨ z = a2) → Q (some (I z)) σ c s) : Ew 369 (d + 0) 0 (rargs 0 [.ref (D 3), .ref (D 22), I a2]) [] σ c s Q := by
  refine Ew_of (pc' := 1) (fun _ => x_iload_n rfl rfl) ?_
  refine Ew_of (pc' := 3) (fun _ => x_ldc (z := 65536) rfl (by decide)) ?_
  refine w_icmple (t := 8) rfl rfl (show inr (a2) by omega) (show inr (65536) by omega) (fun b1 => ?_) (fun b1 => ?_)
  · refine Ew_of (pc' := 9) (fun _ => x_iconst rfl) ?_
    refine Ew_of (pc' := 10) (fun _ => x_istore_n rfl) ?_
    suffices hl10 : ∀ (m : Nat) (ls : rO) (σ : rS) (F_10 : hF) (A_10 : hA) (x10_3 : Int), rlook ls 0 = some (.ref (D 3)) → rlook ls 1 = some (.ref (D 22)) → rlook ls 2 = some (I (a2)) → rlook ls 3 = some (I (x10_3)) → HS σ0 σ D N F_10 A_10 → SF [] F F_10 → SA [15] A A_10 → (inr x10_3) → ((0) ≤ x10_3) → (x10_3 ≤ (0) ∨ x10_3 ≤ (a2)) → ((a2) - x10_3).toNat = m → Ew 369 (d + 0) 10 ls [] σ c s Q from
      hl10 _ _ _ _ _ (0) (rk_o (rfl) rfl rfl) (rk_o (rfl) rfl rfl) (rk_o (rfl) rfl rfl) (rk_s) H SF_refl SA_refl (by show inr (0); omega) (by show (0) ≤ (0); omega) (by show (0) ≤ (0) ∨ (0) ≤ ((a2)); omega) rfl
    intro m
    induction m using Nat.strongRecOn with
    | _ m ih10 =>
      intro ls σ F_10 A_10 x10_3 l10_0 l10_1 l10_2 l10_3 H hS_10 hA_10 j10_0 j10_1 j10_2 hm10
      refine Ew_of (pc' := 11) (fun _ => x_iload_n rfl l10_3) ?_
      refine Ew_of (pc' := 12) (fun _ => x_iload_n rfl l10_2) ?_
      refine w_icmpge (t := 33) rfl rfl (show inr (x10_3) by omega) (show inr (a2) by omega) (fun b2 => ?_) (fun b2 => ?_)
      · refine Ew_of (pc' := 34) (fun _ => x_aload_n rfl l10_0) ?_
        refine w_gT H (o := 3) (t := 1) rfl (H.perm 3 rfl) rfl rfl rfl rfl rfl rfl ?_
        refine Ew_of (pc' := 38) (fun _ => x_iload_n rfl l10_2) ?_
        refine w_pI H (o := 1) rfl rfl (H.perm 1 rfl) rfl rfl rfl (fun _ => rfl) rfl (show (0 : Int) ≤ a2 ∧ a2 ≤ 65536 by omega) (fun σ H => ?_)
        refine Ew_of (pc' := 42) (fun _ => x_iload_n rfl l10_2) ?_
        exact w_ireturn rfl (k (a2) σ _ _ H (SF_upd (SF_trans (SF_refl) hS_10 (any_sub rfl)) rfl) (SA_trans (SA_refl) hA_10 (any_subA rfl)) (by show inr (a2); omega) (by show (a2) = -1 ∨ (a2) = a2; omega))
      · refine Ew_of (pc' := 16) (fun _ => x_aload_n rfl l10_0) ?_
        refine w_gT H (o := 3) (t := 1) rfl (H.perm 3 rfl) rfl rfl rfl rfl rfl rfl ?_
        refine w_gT H (o := 1) (t := 15) rfl (H.perm 1 rfl) rfl rfl rfl rfl rfl rfl ?_
        refine Ew_of (pc' := 23) (fun _ => x_iload_n rfl l10_3) ?_
        refine Ew_of (pc' := 24) (fun _ => x_aload_n rfl l10_1) ?_
        refine Ew_of (pc' := 25) (fun _ => x_iload_n rfl l10_3) ?_
        refine w_lI H (o := 22) (n := 65536) rfl (H.perm 22 rfl) rfl rfl (H.fix 22 rfl rfl) (show 0 ≤ x10_3 ∧ x10_3 < ((65536 : Nat) : Int) by omega) (by decide) (fun v3 ev3 qv3 => ?_)
        have qv3 : (0 : Int) ≤ v3 ∧ v3 ≤ 255 := qv3
        have ev3 : A_10 22 (x10_3) = v3 := ev3
        have ev3 : A 22 (x10_3) = v3 := by have : A_10 22 (x10_3) = A 22 (x10_3) := hA_10 22 rfl (x10_3); omega
        refine w_sI H (o := 15) (n := 65536) rfl (H.perm 15 rfl) rfl rfl (H.fix 15 rfl rfl) (show 0 ≤ x10_3 ∧ x10_3 < ((65536 : Nat) : Int) by omega) (by decide) (show (0 : Int) ≤ v3 ∧ v3 ≤ 255 by omega) (fun σ H => ?_)
        refine Ew_of (pc' := 30) (fun _ => x_iinc (len := 3) rfl (l10_3)) ?_
        refine Ew_of (pc' := 10) (fun _ => x_goto rfl rfl) ?_
        exact ih10 _ (by omega) _ σ _ _ ((x10_3 + 1)) (rk_o (l10_0) rfl rfl) (rk_o (l10_1) rfl rfl) (rk_o (l10_2) rfl rfl) (rk_s) H (hS_10) (SA_upd (hA_10) rfl) (by show inr ((x10_3 + 1)); omega) (by show (0) ≤ ((x10_3 + 1)); omega) (by show ((x10_3 + 1)) ≤ (0) ∨ ((x10_3 + 1)) ≤ ((a2)); omega) rfl
  · refine Ew_of (pc' := 7) (fun _ => x_iconst rfl) ?_
    exact w_ireturn rfl (k ((-1)) σ _ _ H (SF_refl) (SA_refl) (by show inr ((-1)); omega) (by show ((-1)) = -1 ∨ ((-1)) = a2; omega))
/-- Tokens.block -/
theorem M370 {σ0 σ : rS} {D N : Nat → Nat} {F : hF} {A : hA} {d c s : Nat} {Q : wQ} (H : HS σ0 σ D N F A) {a1 : Int} (h0 : inr a1) (h1 : F 3 2 + F 1 1 ≤ 16384) (k : ∀ (z : Int) σ F' A', HS σ0 σ D N F' A' → SF [(1, 3), (3, 5), (3, 6), (3, 10)] F F' → SA [15, 18, 20] A A' → (inr z) → Q (some (I z)) σ c s) : Ew 370 (d + 4) 0 (rargs 0 [.ref (D 3), I a1]) [] σ c s Q := by
  have rp1_1 : (0 : Int) ≤ F 1 1 ∧ F 1 1 ≤ 65536 := H.frng 1 1
  have rp3_2 : (0 : Int) ≤ F 3 2 ∧ F 3 2 ≤ 65536 := H.frng 3 2
  refine Ew_of (pc' := 1) (fun _ => x_iload_n rfl rfl) ?_
  refine w_iflt (t := 9) rfl rfl (show inr (a1) by omega) (fun b1 => ?_) (fun b1 => ?_)
  · refine Ew_of (pc' := 10) (fun _ => x_iconst rfl) ?_
    exact w_ireturn rfl (k ((-1)) σ _ _ H (SF_refl) (SA_refl) (by show inr ((-1)); omega))
  · refine Ew_of (pc' := 5) (fun _ => x_iload_n rfl rfl) ?_
    refine Ew_of (pc' := 6) (fun _ => x_iconst rfl) ?_
    refine w_icmple (t := 11) rfl rfl (show inr (a1) by omega) (show inr (3) by omega) (fun b2 => ?_) (fun b2 => ?_)
    · refine Ew_of (pc' := 12) (fun _ => x_aload_n rfl rfl) ?_
      have r8 : (0 : Int) ≤ F 3 2 ∧ F 3 2 ≤ 65536 := by have : (0 : Int) ≤ F 3 2 ∧ F 3 2 ≤ 65536 := H.frng 3 2; have : F 3 2 = F 3 2 := rfl; omega
      refine w_inv H (o := 3) rfl rfl rfl (H.perm 3 rfl) rfl rfl (by rfl) (M367 H (by have : (0 : Int) ≤ F 3 2 ∧ F 3 2 ≤ 65536 := H.frng 3 2; have : F 3 2 = F 3 2 := rfl; show (F 3 2) ≤ 16384; omega) (fun σ F3 A4 H hS5 hA6 pz70 => ⟨rfl, ?_⟩))
      have pz70 : (F3 3 5) = (F 3 2) := by have : (F3 3 5) = (F 3 2) := pz70; omega
      refine Ew_of (pc' := 16) (fun _ => x_aload_n rfl rfl) ?_
      refine Ew_of (pc' := 17) (fun _ => x_iconst rfl) ?_
      refine Ew_of (pc' := 18) (fun _ => x_aload_n rfl rfl) ?_
      refine w_gT H (o := 3) (t := 1) rfl (H.perm 3 rfl) rfl rfl rfl rfl rfl rfl ?_
      refine w_gI H (o := 1) (w := F 1 1) rfl (H.perm 1 rfl) rfl rfl rfl (fun _ => rfl) (hS5 1 1 rfl) ?_
      have r9 : (0 : Int) ≤ F 1 1 ∧ F 1 1 ≤ 65536 := by have h1 : (0 : Int) ≤ F3 1 1 ∧ F3 1 1 ≤ 65536 := H.frng 1 1; have h2 : F3 1 1 = F 1 1 := (hS5 1 1 rfl); omega
      have r15 : (-2147483648 : Int) ≤ F3 3 5 ∧ F3 3 5 ≤ 2147483647 := by have : (-2147483648 : Int) ≤ F3 3 5 ∧ F3 3 5 ≤ 2147483647 := H.frng 3 5; have : F3 3 5 = F3 3 5 := rfl; omega
      refine w_inv H (o := 3) rfl rfl rfl (H.perm 3 rfl) rfl rfl (by rfl) (M368 H (by show inr (0); omega) (by show inr (F 1 1); omega) (by have : (-2147483648 : Int) ≤ F3 3 5 ∧ F3 3 5 ≤ 2147483647 := H.frng 3 5; have : F3 3 5 = F3 3 5 := rfl; show 0 ≤ (F3 3 5) ∧ (F3 3 5) ≤ 16384; omega) (by have : (-2147483648 : Int) ≤ F3 3 5 ∧ F3 3 5 ≤ 2147483647 := H.frng 3 5; have : F3 3 5 = F3 3 5 := rfl; show 0 ≤ (0) ∧ (0) ≤ (F 1 1) ∧ (F 1 1) ≤ 65536 ∧ (F3 3 5) + ((F 1 1) - (0)) ≤ 16384; omega) (fun σ F10 A11 H hS12 hA13 pz140 => ⟨rfl, ?_⟩))
      have pz140 : (F10 3 5) = (F3 3 5) + ((F 1 1) - (0)) := by have : F3 3 5 = F3 3 5 := rfl; have : (F10 3 5) = (F3 3 5) + ((F 1 1) - (0)) := pz140; omega
      refine Ew_of (pc' := 28) (fun _ => x_aload_n rfl rfl) ?_
      refine Ew_of (pc' := 29) (fun _ => x_aload_n rfl rfl) ?_
      refine w_gI H (o := 3) (w := F 3 2) rfl (H.perm 3 rfl) rfl rfl rfl (fun _ => rfl) ((hS12 3 2 rfl).trans (hS5 3 2 rfl)) ?_
      have r16 : (0 : Int) ≤ F 3 2 ∧ F 3 2 ≤ 65536 := by have h1 : (0 : Int) ≤ F10 3 2 ∧ F10 3 2 ≤ 65536 := H.frng 3 2; have h2 : F10 3 2 = F 3 2 := ((hS12 3 2 rfl).trans (hS5 3 2 rfl)); omega
      refine Ew_of (pc' := 33) (fun _ => x_iload_n rfl rfl) ?_
      refine w_inv H (o := 3) rfl rfl rfl (H.perm 3 rfl) rfl rfl (by rfl) (M366 H (by show inr (F 3 2); omega) (by show inr (a1); omega) (by have : (-2147483648 : Int) ≤ F10 3 5 ∧ F10 3 5 ≤ 2147483647 := H.frng 3 5; have : F10 3 5 = F10 3 5 := rfl; show 0 ≤ (F10 3 5) ∧ (F10 3 5) ≤ 16384; omega) (by have : (-2147483648 : Int) ≤ F10 3 5 ∧ F10 3 5 ≤ 2147483647 := H.frng 3 5; have : F10 3 5 = F10 3 5 := rfl; show 0 ≤ (F 3 2) ∧ (F 3 2) ≤ (F10 3 5); omega) (fun σ F17 A18 H hS19 hA20 pz210 => ⟨rfl, ?_⟩))
      have pz210 : 0 ≤ (F17 3 10) ∧ (F17 3 10) ≤ 3000000 := by have : 0 ≤ (F17 3 10) ∧ (F17 3 10) ≤ 3000000 := pz210; omega
      refine Ew_of (pc' := 37) (fun _ => x_aload_n rfl rfl) ?_
      refine Ew_of (pc' := 38) (fun _ => x_aload_n rfl rfl) ?_
      refine w_gT H (o := 3) (t := 20) rfl (H.perm 3 rfl) rfl rfl rfl rfl rfl rfl ?_
      refine Ew_of (pc' := 42) (fun _ => x_aload_n rfl rfl) ?_
      refine w_gI H (o := 3) (w := F17 3 10) rfl (H.perm 3 rfl) rfl rfl rfl (fun _ => rfl) rfl ?_
      have r22 : (-2147483648 : Int) ≤ F17 3 10 ∧ F17 3 10 ≤ 2147483647 := by have h1 : (-2147483648 : Int) ≤ F17 3 10 ∧ F17 3 10 ≤ 2147483647 := H.frng 3 10; have h2 : F17 3 10 = F17 3 10 := rfl; omega
      refine w_inv H (o := 3) rfl rfl rfl (H.perm 3 rfl) rfl rfl (by rfl) (M369_20 H (by show inr (F17 3 10); omega) (by show 0 ≤ (F17 3 10) ∧ (F17 3 10) ≤ 100000000; omega) (fun z27 σ F23 A24 H hS25 hA26 pz270 pz271 => ⟨rfl, ?_⟩))
      exact w_ireturn rfl (k (z27) σ _ _ H (SF_trans (SF_trans (SF_trans (SF_trans (SF_refl) hS5 (any_sub rfl)) hS12 (any_sub rfl)) hS19 (any_sub rfl)) hS25 (any_sub rfl)) (SA_trans (SA_trans (SA_trans (SA_trans (SA_refl) hA6 (any_subA rfl)) hA13 (any_subA rfl)) hA20 (any_subA rfl)) hA26 (any_subA rfl)) (by show inr (z27); omega))
    · refine Ew_of (pc' := 10) (fun _ => x_iconst rfl) ?_
      exact w_ireturn rfl (k ((-1)) σ _ _ H (SF_refl) (SA_refl) (by show inr ((-1)); omega))
/-- Tokens.makeNumber -/
theorem M377 {σ0 σ : rS} {D N : Nat → Nat} {F : hF} {A : hA} {d c s : Nat} {Q : wQ} (H : HS σ0 σ D N F A) {a1 a2 : Int} (h0 : inrJ a1) (h1 : inr a2) (h2 : 0 ≤ a2 ∧ a2 ≤ 8) (h3 : 0 ≤ F 3 8 ∧ F 3 8 ≤ 10000000) (k : ∀ σ F' A', HS σ0 σ D N F' A' → SF [(3, 8)] F F' → SA [19] A A' → ((F' 3 8) = (F 3 8) + a2) → Q none σ c s) : Ew 377 (d + 1) 0 (rargs 0 [.ref (D 3), J a1, I a2]) [] σ c s Q := by
  have rp3_8 : (-2147483648 : Int) ≤ F 3 8 ∧ F 3 8 ≤ 2147483647 := H.frng 3 8
  refine Ew_of (pc' := 1) (fun _ => x_iconst rfl) ?_
  refine Ew_of (pc' := 3) (fun _ => x_istore rfl) ?_
  have r1 : (-2147483648 : Int) ≤ F 3 8 ∧ F 3 8 ≤ 2147483647 := by have h1 : (-2147483648 : Int) ≤ F 3 8 ∧ F 3 8 ≤ 2147483647 := H.frng 3 8; have h2 : F 3 8 = F 3 8 := rfl; omega
  suffices hl3 : ∀ (m : Nat) (ls : rO) (σ : rS) (F_3 : hF) (A_3 : hA) (x3_4 : Int), rlook ls 0 = some (.ref (D 3)) → rlook ls 1 = some (J (a1)) → rlook ls 3 = some (I (a2)) → rlook ls 4 = some (I (x3_4)) → HS σ0 σ D N F_3 A_3 → SF [(3, 8)] F F_3 → SA [19] A A_3 → (inr x3_4) → ((0) ≤ x3_4) → (x3_4 ≤ (0) ∨ x3_4 ≤ (a2)) → ((F_3 3 8) = (F 3 8) + x3_4) → ((a2) - x3_4).toNat = m → Ew 377 (d + 1) 3 ls [] σ c s Q from
    hl3 _ _ _ _ _ (0) (rk_o (rfl) rfl rfl) (rk_o (rfl) rfl rfl) (rk_o (rfl) rfl rfl) (rk_s) H SF_refl SA_refl (by show inr (0); omega) (by show (0) ≤ (0); omega) (by show (0) ≤ (0) ∨ (0) ≤ ((a2)); omega) (by have : (-2147483648 : Int) ≤ F 3 8 ∧ F 3 8 ≤ 2147483647 := H.frng 3 8; have : F 3 8 = F 3 8 := rfl; show (F 3 8) = (F 3 8) + (0); omega) rfl
  intro m
  induction m using Nat.strongRecOn with
  | _ m ih3 =>
    intro ls σ F_3 A_3 x3_4 l3_0 l3_1 l3_3 l3_4 H hS_3 hA_3 j3_0 j3_1 j3_2 j3_3 hm3
    have r2 : (-2147483648 : Int) ≤ F_3 3 8 ∧ F_3 3 8 ≤ 2147483647 := by have h1 : (-2147483648 : Int) ≤ F_3 3 8 ∧ F_3 3 8 ≤ 2147483647 := H.frng 3 8; have h2 : F_3 3 8 = F_3 3 8 := rfl; omega
    refine Ew_of (pc' := 5) (fun _ => x_iload rfl l3_4) ?_
    refine Ew_of (pc' := 6) (fun _ => x_iload_n rfl l3_3) ?_
    refine w_icmpge (t := 31) rfl rfl (show inr (x3_4) by omega) (show inr (a2) by omega) (fun b3 => ?_) (fun b3 => ?_)
    · exact w_ret rfl (k σ _ _ H (SF_trans (SF_refl) hS_3 (any_sub rfl)) (SA_trans (SA_refl) hA_3 (any_subA rfl)) (by have : (-2147483648 : Int) ≤ F_3 3 8 ∧ F_3 3 8 ≤ 2147483647 := H.frng 3 8; have : F_3 3 8 = F_3 3 8 := rfl; show (F_3 3 8) = (F 3 8) + a2; omega))
    · refine Ew_of (pc' := 10) (fun _ => x_aload_n rfl l3_0) ?_
      refine Ew_of (pc' := 11) (fun _ => x_lload_n rfl l3_1) ?_
      refine Ew_of (pc' := 13) (fun _ => x_bipush (z := 8) rfl (by decide)) ?_
      refine Ew_of (pc' := 15) (fun _ => x_iload rfl l3_4) ?_
      refine w_imul rfl ?_
      refine w_lshrA rfl (fun z4 gz4 => ?_)
      refine Ew_of (pc' := 20) (fun _ => x_ldc2 (z := 255) rfl (by decide)) ?_
      refine w_land rfl (show inrJ (z4) by omega) (show inrJ (255) by omega) (fun z5 gz5 gaz5 gbz5 => ?_)
      refine w_l2i rfl ?_
      have r11 : (-2147483648 : Int) ≤ F_3 3 8 ∧ F_3 3 8 ≤ 2147483647 := by have : (-2147483648 : Int) ≤ F_3 3 8 ∧ F_3 3 8 ≤ 2147483647 := H.frng 3 8; have : F_3 3 8 = F_3 3 8 := rfl; omega
      refine w_inv H (o := 3) rfl rfl rfl (H.perm 3 rfl) rfl rfl (by rfl) (M376 H (by show inr (z5); omega) (by show 0 ≤ (z5) ∧ (z5) ≤ 255; omega) (by have : (-2147483648 : Int) ≤ F_3 3 8 ∧ F_3 3 8 ≤ 2147483647 := H.frng 3 8; have : F_3 3 8 = F_3 3 8 := rfl; show 0 ≤ (F_3 3 8) ∧ (F_3 3 8) ≤ 100000000; omega) (fun σ F6 A7 H hS8 hA9 pz100 => ⟨rfl, ?_⟩))
      have pz100 : (F6 3 8) = (F_3 3 8) + 1 := by have : F_3 3 8 = F_3 3 8 := rfl; have : (F6 3 8) = (F_3 3 8) + 1 := pz100; omega
      refine Ew_of (pc' := 28) (fun _ => x_iinc (len := 3) rfl (l3_4)) ?_
      refine Ew_of (pc' := 3) (fun _ => x_goto rfl rfl) ?_
      exact ih3 _ (by omega) _ σ _ _ ((x3_4 + 1)) (rk_o (l3_0) rfl rfl) (rk_o (l3_1) rfl rfl) (rk_o (l3_3) rfl rfl) (rk_s) H (SF_trans (hS_3) hS8 (any_sub rfl)) (SA_trans (hA_3) hA9 (any_subA rfl)) (by show inr ((x3_4 + 1)); omega) (by show (0) ≤ ((x3_4 + 1)); omega) (by show ((x3_4 + 1)) ≤ (0) ∨ ((x3_4 + 1)) ≤ ((a2)); omega) (by have : (-2147483648 : Int) ≤ F6 3 8 ∧ F6 3 8 ≤ 2147483647 := H.frng 3 8; have : F6 3 8 = F6 3 8 := rfl; show (F6 3 8) = (F 3 8) + ((x3_4 + 1)); omega) rfl
