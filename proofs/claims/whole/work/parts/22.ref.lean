/-- Tokens.append -/
theorem M368 {σ0 σ : rS} {D N : Nat → Nat} {F : hF} {A : hA} {d c s : Nat} {Q : wQ} (H : HS σ0 σ D N F A) {a1 a2 : Int} (h0 : inr a1) (h1 : inr a2) (h2 : 0 ≤ F 3 5 ∧ F 3 5 ≤ 16384) (h3 : 0 ≤ a1 ∧ a1 ≤ a2 ∧ a2 ≤ 65536 ∧ F 3 5 + (a2 - a1) ≤ 16384) (k : ∀ σ F' A', HS σ0 σ D N F' A' → SF [(3, 5)] F F' → SA [18] A A' → ((F' 3 5) = (F 3 5) + (a2 - a1)) → Q none σ c s) : Ew 368 (d + 0) 0 (rargs 0 [.ref (D 3), I a1, I a2]) [] σ c s Q := by
  have rp3_5 : (-2147483648 : Int) ≤ F 3 5 ∧ F 3 5 ≤ 2147483647 := H.frng 3 5
  refine Ew_of (pc' := 1) (fun _ => x_iload_n rfl rfl) ?_
  refine Ew_of (pc' := 2) (fun _ => x_istore_n rfl) ?_
  have r1 : (-2147483648 : Int) ≤ F 3 5 ∧ F 3 5 ≤ 2147483647 := by have h1 : (-2147483648 : Int) ≤ F 3 5 ∧ F 3 5 ≤ 2147483647 := H.frng 3 5; have h2 : F 3 5 = F 3 5 := rfl; omega
  suffices hl2 : ∀ (m : Nat) (ls : rO) (σ : rS) (F_2 : hF) (A_2 : hA) (x2_3 : Int), rlook ls 0 = some (.ref (D 3)) → rlook ls 2 = some (I a2) → rlook ls 3 = some (I x2_3) → HS σ0 σ D N F_2 A_2 → SF [(3, 5)] F F_2 → SA [18] A A_2 → (inr x2_3) → ((a1) ≤ x2_3) → (x2_3 ≤ (a1) ∨ x2_3 ≤ (a2)) → ((F_2 3 5) = (F 3 5) + (x2_3 - a1)) → ((a2) - x2_3).toNat = m → Ew 368 (d + 0) 2 ls [] σ c s Q from
    hl2 _ _ _ _ _ (a1) (rk_o (rfl) rfl rfl) (rk_o (rfl) rfl rfl) (rk_s) H SF_refl SA_refl (by show inr (a1); omega) (by show (a1) ≤ (a1); omega) (by show (a1) ≤ (a1) ∨ (a1) ≤ ((a2)); omega) (by have : (-2147483648 : Int) ≤ F 3 5 ∧ F 3 5 ≤ 2147483647 := H.frng 3 5; have : F 3 5 = F 3 5 := rfl; show (F 3 5) = (F 3 5) + ((a1) - a1); omega) rfl
  intro m
  induction m using Nat.strongRecOn with
  | _ m ih2 =>
    intro ls σ F_2 A_2 x2_3 l2_0 l2_2 l2_3 H hS_2 hA_2 j2_0 j2_1 j2_2 j2_3 hm2
    have r2 : (-2147483648 : Int) ≤ F_2 3 5 ∧ F_2 3 5 ≤ 2147483647 := by have h1 : (-2147483648 : Int) ≤ F_2 3 5 ∧ F_2 3 5 ≤ 2147483647 := H.frng 3 5; have h2 : F_2 3 5 = F_2 3 5 := rfl; omega
    refine Ew_of (pc' := 3) (fun _ => x_iload_n rfl l2_3) ?_
    refine Ew_of (pc' := 4) (fun _ => x_iload_n rfl l2_2) ?_
    refine w_icmpge (t := 41) rfl rfl (show inr (x2_3) by omega) (show inr (a2) by omega) (fun b3 => ?_) (fun b3 => ?_)
    · exact w_ret rfl (k σ _ _ H (SF_trans (SF_refl) hS_2 (any_sub rfl)) (SA_trans (SA_refl) hA_2 (any_subA rfl)) (by have : (-2147483648 : Int) ≤ F_2 3 5 ∧ F_2 3 5 ≤ 2147483647 := H.frng 3 5; have : F_2 3 5 = F_2 3 5 := rfl; show (F_2 3 5) = (F 3 5) + (a2 - a1); omega))
    · refine Ew_of (pc' := 8) (fun _ => x_aload_n rfl l2_0) ?_
      refine w_gT H (o := 3) (t := 18) rfl (H.perm 3 rfl) rfl rfl rfl rfl rfl rfl ?_
      refine Ew_of (pc' := 12) (fun _ => x_aload_n rfl l2_0) ?_
      refine w_gI H (o := 3) (w := F_2 3 5) rfl (H.perm 3 rfl) rfl rfl rfl (fun _ => rfl) rfl ?_
      have r4 : (-2147483648 : Int) ≤ F_2 3 5 ∧ F_2 3 5 ≤ 2147483647 := by have h1 : (-2147483648 : Int) ≤ F_2 3 5 ∧ F_2 3 5 ≤ 2147483647 := H.frng 3 5; have h2 : F_2 3 5 = F_2 3 5 := rfl; omega
      refine Ew_of (pc' := 16) (fun _ => x_aload_n rfl l2_0) ?_
      refine w_gT H (o := 3) (t := 1) rfl (H.perm 3 rfl) rfl rfl rfl rfl rfl rfl ?_
      refine w_gT H (o := 1) (t := 14) rfl (H.perm 1 rfl) rfl rfl rfl rfl rfl rfl ?_
      refine Ew_of (pc' := 23) (fun _ => x_iload_n rfl l2_3) ?_
      refine w_lI H (o := 14) (n := 65536) rfl (H.perm 14 rfl) rfl rfl (H.fix 14 rfl rfl) (show 0 ≤ x2_3 ∧ x2_3 < ((65536 : Nat) : Int) by omega) (by decide) (fun v5 ev5 qv5 => ?_)
      have qv5 : (0 : Int) ≤ v5 ∧ v5 ≤ 255 := qv5
      have ev5 : A_2 14 (x2_3) = v5 := ev5
      have ev5 : A 14 (x2_3) = v5 := by have : A_2 14 (x2_3) = A 14 (x2_3) := hA_2 14 rfl (x2_3); omega
      refine w_sI H (o := 18) (n := 16384) rfl (H.perm 18 rfl) rfl rfl (H.fix 18 rfl rfl) (show 0 ≤ F_2 3 5 ∧ F_2 3 5 < ((16384 : Nat) : Int) by omega) (by decide) (show (0 : Int) ≤ v5 ∧ v5 ≤ 255 by omega) (fun σ H => ?_)
      refine Ew_of (pc' := 26) (fun _ => x_aload_n rfl l2_0) ?_
      refine Ew_of (pc' := 27) (fun _ => x_dup rfl rfl) ?_
      refine w_gI H (o := 3) (w := F_2 3 5) rfl (H.perm 3 rfl) rfl rfl rfl (fun _ => rfl) rfl ?_
      have r6 : (-2147483648 : Int) ≤ F_2 3 5 ∧ F_2 3 5 ≤ 2147483647 := by have h1 : (-2147483648 : Int) ≤ F_2 3 5 ∧ F_2 3 5 ≤ 2147483647 := H.frng 3 5; have h2 : F_2 3 5 = F_2 3 5 := rfl; omega
      refine Ew_of (pc' := 31) (fun _ => x_iconst rfl) ?_
      refine w_iadd rfl ?_
      refine w_pI H (o := 3) rfl rfl (H.perm 3 rfl) rfl rfl rfl (fun _ => rfl) rfl (show (-2147483648 : Int) ≤ (F_2 3 5 + 1) ∧ (F_2 3 5 + 1) ≤ 2147483647 by omega) (fun σ H => ?_)
      refine Ew_of (pc' := 38) (fun _ => x_iinc (len := 3) rfl (l2_3)) ?_
      refine Ew_of (pc' := 2) (fun _ => x_goto rfl rfl) ?_
      exact ih2 _ (by omega) _ σ _ _ ((x2_3 + 1)) (rk_o (l2_0) rfl rfl) (rk_o (l2_2) rfl rfl) (rk_s) H (SF_upd (hS_2) rfl) (SA_upd (hA_2) rfl) (by show inr ((x2_3 + 1)); omega) (by show (a1) ≤ ((x2_3 + 1)); omega) (by show ((x2_3 + 1)) ≤ (a1) ∨ ((x2_3 + 1)) ≤ ((a2)); omega) (by have : (-2147483648 : Int) ≤ (updF F_2 3 5 ((F_2 3 5 + 1))) 3 5 ∧ (updF F_2 3 5 ((F_2 3 5 + 1))) 3 5 ≤ 2147483647 := H.frng 3 5; have : (updF F_2 3 5 ((F_2 3 5 + 1))) 3 5 = (F_2 3 5 + 1) := rfl; show ((updF F_2 3 5 ((F_2 3 5 + 1))) 3 5) = (F 3 5) + (((x2_3 + 1)) - a1); omega) rfl
/-- Tokens.sequence -/
theorem M365 {σ0 σ : rS} {D N : Nat → Nat} {F : hF} {A : hA} {d c s : Nat} {Q : wQ} (H : HS σ0 σ D N F A) {a1 a2 a3 a4 : Int} (h0 : inr a1) (h1 : inr a2) (h2 : inr a3) (h3 : inr a4) (h4 : 0 ≤ a1 ∧ a1 ≤ a2 ∧ a2 ≤ 16384) (h5 : a3 = 0 ∨ 4 ≤ a3) (h6 : a3 ≤ 16384 ∧ 0 ≤ a4 ∧ a4 ≤ 16384) (h7 : 0 ≤ F 3 10 ∧ F 3 10 ≤ 5000000) (k : ∀ σ F' A', HS σ0 σ D N F' A' → SF [(3, 10)] F F' → SA [20] A A' → ((F 3 10) ≤ (F' 3 10) ∧ (F' 3 10) ≤ (F 3 10) + (a2 - a1) + 140) → Q none σ c s) : Ew 365 (d + 2) 0 (rargs 0 [.ref (D 3), I a1, I a2, I a3, I a4]) [] σ c s Q := by
  have rp3_10 : (-2147483648 : Int) ≤ F 3 10 ∧ F 3 10 ≤ 2147483647 := H.frng 3 10
  refine Ew_of (pc' := 1) (fun _ => x_iload_n rfl rfl) ?_
  refine Ew_of (pc' := 2) (fun _ => x_iload_n rfl rfl) ?_
  refine w_isub rfl ?_
  refine Ew_of (pc' := 5) (fun _ => x_istore rfl) ?_
  refine Ew_of (pc' := 6) (fun _ => x_iload_n rfl (rk_o (rfl) rfl rfl)) ?_
  refine Ew_of (pc' := 7) (fun _ => x_iconst rfl) ?_
  refine w_isub rfl ?_
  refine Ew_of (pc' := 10) (fun _ => x_istore rfl) ?_
  refine Ew_of (pc' := 11) (fun _ => x_aload_n rfl (rk_o (rk_o (rfl) rfl rfl) rfl rfl)) ?_
  refine Ew_of (pc' := 13) (fun _ => x_iload rfl (rk_o (rk_s) rfl rfl)) ?_
  refine Ew_of (pc' := 15) (fun _ => x_bipush (z := 15) rfl (by decide)) ?_
  refine w_icmple (t := 23) rfl rfl (show inr ((a2 - a1)) by omega) (show inr (15) by omega) (fun b1 => ?_) (fun b1 => ?_)
  · refine Ew_of (pc' := 25) (fun _ => x_iload rfl (rk_o (rk_s) rfl rfl)) ?_
    refine Ew_of (pc' := 27) (fun _ => x_bipush (z := 16) rfl (by decide)) ?_
    refine w_imul rfl ?_
    refine Ew_of (pc' := 29) (fun _ => x_iload_n rfl (rk_o (rk_o (rfl) rfl rfl) rfl rfl)) ?_
    refine w_ifne (t := 36) rfl rfl (show inr (a3) by omega) (fun b2 => ?_) (fun b2 => ?_)
    · refine Ew_of (pc' := 38) (fun _ => x_iload rfl rk_s) ?_
      refine Ew_of (pc' := 40) (fun _ => x_bipush (z := 15) rfl (by decide)) ?_
      refine w_icmple (t := 48) rfl rfl (show inr ((a3 - 4)) by omega) (show inr (15) by omega) (fun b3 => ?_) (fun b3 => ?_)
      · refine Ew_of (pc' := 50) (fun _ => x_iload rfl rk_s) ?_
        refine w_iadd rfl ?_
        refine w_inv H (o := 3) rfl rfl rfl (H.perm 3 rfl) rfl rfl (by rfl) (M363 H (by show inr ((((a2 - a1) * 16) + (a3 - 4))); omega) (by show 0 ≤ ((((a2 - a1) * 16) + (a3 - 4))) ∧ ((((a2 - a1) * 16) + (a3 - 4))) ≤ 255; omega) (by have : (-2147483648 : Int) ≤ F 3 10 ∧ F 3 10 ≤ 2147483647 := H.frng 3 10; have : F 3 10 = F 3 10 := rfl; show 0 ≤ (F 3 10) ∧ (F 3 10) ≤ 100000000; omega) (fun σ F4 A5 H hS6 hA7 pz80 => ⟨rfl, ?_⟩))
        have pz80 : (F4 3 10) = (F 3 10) + 1 := by have : (F4 3 10) = (F 3 10) + 1 := pz80; omega
        refine Ew_of (pc' := 55) (fun _ => x_aload_n rfl (rk_o (rk_o (rfl) rfl rfl) rfl rfl)) ?_
        refine Ew_of (pc' := 57) (fun _ => x_iload rfl (rk_o (rk_s) rfl rfl)) ?_
        refine w_inv H (o := 3) rfl rfl rfl (H.perm 3 rfl) rfl rfl (by rfl) (M364 H (by show inr ((a2 - a1)); omega) (by show -10 ≤ ((a2 - a1)) ∧ ((a2 - a1)) ≤ 100000; omega) (by have : (-2147483648 : Int) ≤ F4 3 10 ∧ F4 3 10 ≤ 2147483647 := H.frng 3 10; have : F4 3 10 = F4 3 10 := rfl; show 0 ≤ (F4 3 10) ∧ (F4 3 10) ≤ 10000000; omega) (fun σ F9 A10 H hS11 hA12 pz130 => ⟨rfl, ?_⟩))
        have pz130 : (F9 3 10) * 255 ≤ (F4 3 10) * 255 + 255 + ((a2 - a1)) + 10 ∧ (F4 3 10) ≤ (F9 3 10) := by have : F4 3 10 = F4 3 10 := rfl; have : (F9 3 10) * 255 ≤ (F4 3 10) * 255 + 255 + ((a2 - a1)) + 10 ∧ (F4 3 10) ≤ (F9 3 10) := pz130; omega
        refine Ew_of (pc' := 61) (fun _ => x_iload_n rfl (rk_o (rk_o (rfl) rfl rfl) rfl rfl)) ?_
        refine Ew_of (pc' := 63) (fun _ => x_istore rfl) ?_
        have r14 : (-2147483648 : Int) ≤ F9 3 10 ∧ F9 3 10 ≤ 2147483647 := by have h1 : (-2147483648 : Int) ≤ F9 3 10 ∧ F9 3 10 ≤ 2147483647 := H.frng 3 10; have h2 : F9 3 10 = F9 3 10 := rfl; omega
        suffices hl63 : ∀ (m : Nat) (ls : rO) (σ : rS) (F_63 : hF) (A_63 : hA) (x63_7 : Int), rlook ls 0 = some (.ref (D 3)) → rlook ls 2 = some (I a2) → rlook ls 3 = some (I a3) → rlook ls 4 = some (I a4) → rlook ls 6 = some (I (a3 - 4)) → rlook ls 7 = some (I x63_7) → HS σ0 σ D N F_63 A_63 → SF [(3, 10)] F9 F_63 → SA [20] A10 A_63 → (inr x63_7) → ((a1) ≤ x63_7) → (x63_7 ≤ (a1) ∨ x63_7 ≤ (a2)) → ((F_63 3 10) = (F9 3 10) + (x63_7 - a1)) → ((a2) - x63_7).toNat = m → Ew 365 (d + 2) 63 ls [] σ c s Q from
          hl63 _ _ _ _ _ (a1) (rk_o (rk_o (rk_o (rfl) rfl rfl) rfl rfl) rfl rfl) (rk_o (rk_o (rk_o (rfl) rfl rfl) rfl rfl) rfl rfl) (rk_o (rk_o (rk_o (rfl) rfl rfl) rfl rfl) rfl rfl) (rk_o (rk_o (rk_o (rfl) rfl rfl) rfl rfl) rfl rfl) (rk_o (rk_s) rfl rfl) (rk_s) H SF_refl SA_refl (by show inr (a1); omega) (by show (a1) ≤ (a1); omega) (by show (a1) ≤ (a1) ∨ (a1) ≤ ((a2)); omega) (by have : (-2147483648 : Int) ≤ F9 3 10 ∧ F9 3 10 ≤ 2147483647 := H.frng 3 10; have : F9 3 10 = F9 3 10 := rfl; show (F9 3 10) = (F9 3 10) + ((a1) - a1); omega) rfl
        intro m
        induction m using Nat.strongRecOn with
        | _ m ih63 =>
          intro ls σ F_63 A_63 x63_7 l63_0 l63_2 l63_3 l63_4 l63_6 l63_7 H hS_63 hA_63 j63_0 j63_1 j63_2 j63_3 hm63
          have r15 : (-2147483648 : Int) ≤ F_63 3 10 ∧ F_63 3 10 ≤ 2147483647 := by have h1 : (-2147483648 : Int) ≤ F_63 3 10 ∧ F_63 3 10 ≤ 2147483647 := H.frng 3 10; have h2 : F_63 3 10 = F_63 3 10 := rfl; omega
          refine Ew_of (pc' := 65) (fun _ => x_iload rfl l63_7) ?_
          refine Ew_of (pc' := 66) (fun _ => x_iload_n rfl l63_2) ?_
          refine w_icmpge (t := 86) rfl rfl (show inr (x63_7) by omega) (show inr (a2) by omega) (fun b16 => ?_) (fun b16 => ?_)
          · refine Ew_of (pc' := 87) (fun _ => x_iload_n rfl l63_3) ?_
            refine w_ifne (t := 91) rfl rfl (show inr (a3) by omega) (fun b17 => ?_) (fun b17 => ?_)
            · refine Ew_of (pc' := 92) (fun _ => x_aload_n rfl l63_0) ?_
              refine Ew_of (pc' := 94) (fun _ => x_iload rfl l63_4) ?_
              refine Ew_of (pc' := 97) (fun _ => x_sipush (z := 256) rfl (by decide)) ?_
              refine w_irem rfl (show inr (a4) ∧ 0 ≤ a4 by omega) (show inr (256) ∧ 0 < 256 by omega) ?_
              refine w_inv H (o := 3) rfl rfl rfl (H.perm 3 rfl) rfl rfl (by rfl) (M363 H (by show inr ((a4 % 256)); omega) (by show 0 ≤ ((a4 % 256)) ∧ ((a4 % 256)) ≤ 255; omega) (by have : (-2147483648 : Int) ≤ F_63 3 10 ∧ F_63 3 10 ≤ 2147483647 := H.frng 3 10; have : F_63 3 10 = F_63 3 10 := rfl; show 0 ≤ (F_63 3 10) ∧ (F_63 3 10) ≤ 100000000; omega) (fun σ F18 A19 H hS20 hA21 pz220 => ⟨rfl, ?_⟩))
              have pz220 : (F18 3 10) = (F_63 3 10) + 1 := by have : F_63 3 10 = F_63 3 10 := rfl; have : (F18 3 10) = (F_63 3 10) + 1 := pz220; omega
              refine Ew_of (pc' := 102) (fun _ => x_aload_n rfl l63_0) ?_
              refine Ew_of (pc' := 104) (fun _ => x_iload rfl l63_4) ?_
              refine Ew_of (pc' := 107) (fun _ => x_sipush (z := 256) rfl (by decide)) ?_
              refine w_idiv rfl (show inr (a4) ∧ 0 ≤ a4 by omega) (show inr (256) ∧ 0 < 256 by omega) ?_
              refine w_inv H (o := 3) rfl rfl rfl (H.perm 3 rfl) rfl rfl (by rfl) (M363 H (by show inr ((a4 / 256)); omega) (by show 0 ≤ ((a4 / 256)) ∧ ((a4 / 256)) ≤ 255; omega) (by have : (-2147483648 : Int) ≤ F18 3 10 ∧ F18 3 10 ≤ 2147483647 := H.frng 3 10; have : F18 3 10 = F18 3 10 := rfl; show 0 ≤ (F18 3 10) ∧ (F18 3 10) ≤ 100000000; omega) (fun σ F23 A24 H hS25 hA26 pz270 => ⟨rfl, ?_⟩))
              have pz270 : (F23 3 10) = (F18 3 10) + 1 := by have : F18 3 10 = F18 3 10 := rfl; have : (F23 3 10) = (F18 3 10) + 1 := pz270; omega
              refine Ew_of (pc' := 112) (fun _ => x_aload_n rfl l63_0) ?_
              refine Ew_of (pc' := 114) (fun _ => x_iload rfl l63_6) ?_
              refine w_inv H (o := 3) rfl rfl rfl (H.perm 3 rfl) rfl rfl (by rfl) (M364 H (by show inr ((a3 - 4)); omega) (by show -10 ≤ ((a3 - 4)) ∧ ((a3 - 4)) ≤ 100000; omega) (by have : (-2147483648 : Int) ≤ F23 3 10 ∧ F23 3 10 ≤ 2147483647 := H.frng 3 10; have : F23 3 10 = F23 3 10 := rfl; show 0 ≤ (F23 3 10) ∧ (F23 3 10) ≤ 10000000; omega) (fun σ F28 A29 H hS30 hA31 pz320 => ⟨rfl, ?_⟩))
              have pz320 : (F28 3 10) * 255 ≤ (F23 3 10) * 255 + 255 + ((a3 - 4)) + 10 ∧ (F23 3 10) ≤ (F28 3 10) := by have : F23 3 10 = F23 3 10 := rfl; have : (F28 3 10) * 255 ≤ (F23 3 10) * 255 + 255 + ((a3 - 4)) + 10 ∧ (F23 3 10) ≤ (F28 3 10) := pz320; omega
              exact w_ret rfl (k σ _ _ H (SF_trans (SF_trans (SF_trans (SF_trans (SF_trans (SF_trans (SF_refl) hS6 (any_sub rfl)) hS11 (any_sub rfl)) hS_63 (any_sub rfl)) hS20 (any_sub rfl)) hS25 (any_sub rfl)) hS30 (any_sub rfl)) (SA_trans (SA_trans (SA_trans (SA_trans (SA_trans (SA_trans (SA_refl) hA7 (any_subA rfl)) hA12 (any_subA rfl)) hA_63 (any_subA rfl)) hA21 (any_subA rfl)) hA26 (any_subA rfl)) hA31 (any_subA rfl)) (by have : (-2147483648 : Int) ≤ F28 3 10 ∧ F28 3 10 ≤ 2147483647 := H.frng 3 10; have : F28 3 10 = F28 3 10 := rfl; show (F 3 10) ≤ (F28 3 10) ∧ (F28 3 10) ≤ (F 3 10) + (a2 - a1) + 140; omega))
            · exact w_ret rfl (k σ _ _ H (SF_trans (SF_trans (SF_trans (SF_refl) hS6 (any_sub rfl)) hS11 (any_sub rfl)) hS_63 (any_sub rfl)) (SA_trans (SA_trans (SA_trans (SA_refl) hA7 (any_subA rfl)) hA12 (any_subA rfl)) hA_63 (any_subA rfl)) (by have : (-2147483648 : Int) ≤ F_63 3 10 ∧ F_63 3 10 ≤ 2147483647 := H.frng 3 10; have : F_63 3 10 = F_63 3 10 := rfl; show (F 3 10) ≤ (F_63 3 10) ∧ (F_63 3 10) ≤ (F 3 10) + (a2 - a1) + 140; omega))
          · refine Ew_of (pc' := 70) (fun _ => x_aload_n rfl l63_0) ?_
            refine Ew_of (pc' := 71) (fun _ => x_aload_n rfl l63_0) ?_
            refine w_gT H (o := 3) (t := 18) rfl (H.perm 3 rfl) rfl rfl rfl rfl rfl rfl ?_
            refine Ew_of (pc' := 76) (fun _ => x_iload rfl l63_7) ?_
            refine w_lI H (o := 18) (n := 16384) rfl (H.perm 18 rfl) rfl rfl (H.fix 18 rfl rfl) (show 0 ≤ x63_7 ∧ x63_7 < ((16384 : Nat) : Int) by omega) (by decide) (fun v33 ev33 qv33 => ?_)
            have qv33 : (0 : Int) ≤ v33 ∧ v33 ≤ 255 := qv33
            have ev33 : A_63 18 (x63_7) = v33 := ev33
            have ev33 : A 18 (x63_7) = v33 := by have : A_63 18 (x63_7) = A10 18 (x63_7) := hA_63 18 rfl (x63_7); have : A10 18 (x63_7) = A5 18 (x63_7) := hA12 18 rfl (x63_7); have : A5 18 (x63_7) = A 18 (x63_7) := hA7 18 rfl (x63_7); omega
            refine w_inv H (o := 3) rfl rfl rfl (H.perm 3 rfl) rfl rfl (by rfl) (M363 H (by show inr (v33); omega) (by show 0 ≤ (v33) ∧ (v33) ≤ 255; omega) (by have : (-2147483648 : Int) ≤ F_63 3 10 ∧ F_63 3 10 ≤ 2147483647 := H.frng 3 10; have : F_63 3 10 = F_63 3 10 := rfl; show 0 ≤ (F_63 3 10) ∧ (F_63 3 10) ≤ 100000000; omega) (fun σ F34 A35 H hS36 hA37 pz380 => ⟨rfl, ?_⟩))
            have pz380 : (F34 3 10) = (F_63 3 10) + 1 := by have : F_63 3 10 = F_63 3 10 := rfl; have : (F34 3 10) = (F_63 3 10) + 1 := pz380; omega
            refine Ew_of (pc' := 83) (fun _ => x_iinc (len := 3) rfl (l63_7)) ?_
            refine Ew_of (pc' := 63) (fun _ => x_goto rfl rfl) ?_
            exact ih63 _ (by omega) _ σ _ _ ((x63_7 + 1)) (rk_o (l63_0) rfl rfl) (rk_o (l63_2) rfl rfl) (rk_o (l63_3) rfl rfl) (rk_o (l63_4) rfl rfl) (rk_o (l63_6) rfl rfl) (rk_s) H (SF_trans (hS_63) hS36 (any_sub rfl)) (SA_trans (hA_63) hA37 (any_subA rfl)) (by show inr ((x63_7 + 1)); omega) (by show (a1) ≤ ((x63_7 + 1)); omega) (by show ((x63_7 + 1)) ≤ (a1) ∨ ((x63_7 + 1)) ≤ ((a2)); omega) (by have : (-2147483648 : Int) ≤ F34 3 10 ∧ F34 3 10 ≤ 2147483647 := H.frng 3 10; have : F34 3 10 = F34 3 10 := rfl; show (F34 3 10) = (F9 3 10) + (((x63_7 + 1)) - a1); omega) rfl
      · refine Ew_of (pc' := 45) (fun _ => x_bipush (z := 15) rfl (by decide)) ?_
        refine Ew_of (pc' := 50) (fun _ => x_goto rfl rfl) ?_
        refine w_iadd rfl ?_
        refine w_inv H (o := 3) rfl rfl rfl (H.perm 3 rfl) rfl rfl (by rfl) (M363 H (by show inr ((((a2 - a1) * 16) + 15)); omega) (by show 0 ≤ ((((a2 - a1) * 16) + 15)) ∧ ((((a2 - a1) * 16) + 15)) ≤ 255; omega) (by have : (-2147483648 : Int) ≤ F 3 10 ∧ F 3 10 ≤ 2147483647 := H.frng 3 10; have : F 3 10 = F 3 10 := rfl; show 0 ≤ (F 3 10) ∧ (F 3 10) ≤ 100000000; omega) (fun σ F39 A40 H hS41 hA42 pz430 => ⟨rfl, ?_⟩))
        have pz430 : (F39 3 10) = (F 3 10) + 1 := by have : (F39 3 10) = (F 3 10) + 1 := pz430; omega
        refine Ew_of (pc' := 55) (fun _ => x_aload_n rfl (rk_o (rk_o (rfl) rfl rfl) rfl rfl)) ?_
        refine Ew_of (pc' := 57) (fun _ => x_iload rfl (rk_o (rk_s) rfl rfl)) ?_
        refine w_inv H (o := 3) rfl rfl rfl (H.perm 3 rfl) rfl rfl (by rfl) (M364 H (by show inr ((a2 - a1)); omega) (by show -10 ≤ ((a2 - a1)) ∧ ((a2 - a1)) ≤ 100000; omega) (by have : (-2147483648 : Int) ≤ F39 3 10 ∧ F39 3 10 ≤ 2147483647 := H.frng 3 10; have : F39 3 10 = F39 3 10 := rfl; show 0 ≤ (F39 3 10) ∧ (F39 3 10) ≤ 10000000; omega) (fun σ F44 A45 H hS46 hA47 pz480 => ⟨rfl, ?_⟩))
        have pz480 : (F44 3 10) * 255 ≤ (F39 3 10) * 255 + 255 + ((a2 - a1)) + 10 ∧ (F39 3 10) ≤ (F44 3 10) := by have : F39 3 10 = F39 3 10 := rfl; have : (F44 3 10) * 255 ≤ (F39 3 10) * 255 + 255 + ((a2 - a1)) + 10 ∧ (F39 3 10) ≤ (F44 3 10) := pz480; omega
        refine Ew_of (pc' := 61) (fun _ => x_iload_n rfl (rk_o (rk_o (rfl) rfl rfl) rfl rfl)) ?_
        refine Ew_of (pc' := 63) (fun _ => x_istore rfl) ?_
        have r49 : (-2147483648 : Int) ≤ F44 3 10 ∧ F44 3 10 ≤ 2147483647 := by have h1 : (-2147483648 : Int) ≤ F44 3 10 ∧ F44 3 10 ≤ 2147483647 := H.frng 3 10; have h2 : F44 3 10 = F44 3 10 := rfl; omega
        suffices hl63 : ∀ (m : Nat) (ls : rO) (σ : rS) (F_63 : hF) (A_63 : hA) (x63_7 : Int), rlook ls 0 = some (.ref (D 3)) → rlook ls 2 = some (I a2) → rlook ls 3 = some (I a3) → rlook ls 4 = some (I a4) → rlook ls 6 = some (I (a3 - 4)) → rlook ls 7 = some (I x63_7) → HS σ0 σ D N F_63 A_63 → SF [(3, 10)] F44 F_63 → SA [20] A45 A_63 → (inr x63_7) → ((a1) ≤ x63_7) → (x63_7 ≤ (a1) ∨ x63_7 ≤ (a2)) → ((F_63 3 10) = (F44 3 10) + (x63_7 - a1)) → ((a2) - x63_7).toNat = m → Ew 365 (d + 2) 63 ls [] σ c s Q from
          hl63 _ _ _ _ _ (a1) (rk_o (rk_o (rk_o (rfl) rfl rfl) rfl rfl) rfl rfl) (rk_o (rk_o (rk_o (rfl) rfl rfl) rfl rfl) rfl rfl) (rk_o (rk_o (rk_o (rfl) rfl rfl) rfl rfl) rfl rfl) (rk_o (rk_o (rk_o (rfl) rfl rfl) rfl rfl) rfl rfl) (rk_o (rk_s) rfl rfl) (rk_s) H SF_refl SA_refl (by show inr (a1); omega) (by show (a1) ≤ (a1); omega) (by show (a1) ≤ (a1) ∨ (a1) ≤ ((a2)); omega) (by have : (-2147483648 : Int) ≤ F44 3 10 ∧ F44 3 10 ≤ 2147483647 := H.frng 3 10; have : F44 3 10 = F44 3 10 := rfl; show (F44 3 10) = (F44 3 10) + ((a1) - a1); omega) rfl
        intro m
        induction m using Nat.strongRecOn with
        | _ m ih63 =>
          intro ls σ F_63 A_63 x63_7 l63_0 l63_2 l63_3 l63_4 l63_6 l63_7 H hS_63 hA_63 j63_0 j63_1 j63_2 j63_3 hm63
          have r50 : (-2147483648 : Int) ≤ F_63 3 10 ∧ F_63 3 10 ≤ 2147483647 := by have h1 : (-2147483648 : Int) ≤ F_63 3 10 ∧ F_63 3 10 ≤ 2147483647 := H.frng 3 10; have h2 : F_63 3 10 = F_63 3 10 := rfl; omega
          refine Ew_of (pc' := 65) (fun _ => x_iload rfl l63_7) ?_
          refine Ew_of (pc' := 66) (fun _ => x_iload_n rfl l63_2) ?_
          refine w_icmpge (t := 86) rfl rfl (show inr (x63_7) by omega) (show inr (a2) by omega) (fun b51 => ?_) (fun b51 => ?_)
          · refine Ew_of (pc' := 87) (fun _ => x_iload_n rfl l63_3) ?_
            refine w_ifne (t := 91) rfl rfl (show inr (a3) by omega) (fun b52 => ?_) (fun b52 => ?_)
            · refine Ew_of (pc' := 92) (fun _ => x_aload_n rfl l63_0) ?_
              refine Ew_of (pc' := 94) (fun _ => x_iload rfl l63_4) ?_
              refine Ew_of (pc' := 97) (fun _ => x_sipush (z := 256) rfl (by decide)) ?_
              refine w_irem rfl (show inr (a4) ∧ 0 ≤ a4 by omega) (show inr (256) ∧ 0 < 256 by omega) ?_
              refine w_inv H (o := 3) rfl rfl rfl (H.perm 3 rfl) rfl rfl (by rfl) (M363 H (by show inr ((a4 % 256)); omega) (by show 0 ≤ ((a4 % 256)) ∧ ((a4 % 256)) ≤ 255; omega) (by have : (-2147483648 : Int) ≤ F_63 3 10 ∧ F_63 3 10 ≤ 2147483647 := H.frng 3 10; have : F_63 3 10 = F_63 3 10 := rfl; show 0 ≤ (F_63 3 10) ∧ (F_63 3 10) ≤ 100000000; omega) (fun σ F53 A54 H hS55 hA56 pz570 => ⟨rfl, ?_⟩))
              have pz570 : (F53 3 10) = (F_63 3 10) + 1 := by have : F_63 3 10 = F_63 3 10 := rfl; have : (F53 3 10) = (F_63 3 10) + 1 := pz570; omega
              refine Ew_of (pc' := 102) (fun _ => x_aload_n rfl l63_0) ?_
              refine Ew_of (pc' := 104) (fun _ => x_iload rfl l63_4) ?_
              refine Ew_of (pc' := 107) (fun _ => x_sipush (z := 256) rfl (by decide)) ?_
              refine w_idiv rfl (show inr (a4) ∧ 0 ≤ a4 by omega) (show inr (256) ∧ 0 < 256 by omega) ?_
              refine w_inv H (o := 3) rfl rfl rfl (H.perm 3 rfl) rfl rfl (by rfl) (M363 H (by show inr ((a4 / 256)); omega) (by show 0 ≤ ((a4 / 256)) ∧ ((a4 / 256)) ≤ 255; omega) (by have : (-2147483648 : Int) ≤ F53 3 10 ∧ F53 3 10 ≤ 2147483647 := H.frng 3 10; have : F53 3 10 = F53 3 10 := rfl; show 0 ≤ (F53 3 10) ∧ (F53 3 10) ≤ 100000000; omega) (fun σ F58 A59 H hS60 hA61 pz620 => ⟨rfl, ?_⟩))
              have pz620 : (F58 3 10) = (F53 3 10) + 1 := by have : F53 3 10 = F53 3 10 := rfl; have : (F58 3 10) = (F53 3 10) + 1 := pz620; omega
              refine Ew_of (pc' := 112) (fun _ => x_aload_n rfl l63_0) ?_
              refine Ew_of (pc' := 114) (fun _ => x_iload rfl l63_6) ?_
              refine w_inv H (o := 3) rfl rfl rfl (H.perm 3 rfl) rfl rfl (by rfl) (M364 H (by show inr ((a3 - 4)); omega) (by show -10 ≤ ((a3 - 4)) ∧ ((a3 - 4)) ≤ 100000; omega) (by have : (-2147483648 : Int) ≤ F58 3 10 ∧ F58 3 10 ≤ 2147483647 := H.frng 3 10; have : F58 3 10 = F58 3 10 := rfl; show 0 ≤ (F58 3 10) ∧ (F58 3 10) ≤ 10000000; omega) (fun σ F63 A64 H hS65 hA66 pz670 => ⟨rfl, ?_⟩))
              have pz670 : (F63 3 10) * 255 ≤ (F58 3 10) * 255 + 255 + ((a3 - 4)) + 10 ∧ (F58 3 10) ≤ (F63 3 10) := by have : F58 3 10 = F58 3 10 := rfl; have : (F63 3 10) * 255 ≤ (F58 3 10) * 255 + 255 + ((a3 - 4)) + 10 ∧ (F58 3 10) ≤ (F63 3 10) := pz670; omega
              exact w_ret rfl (k σ _ _ H (SF_trans (SF_trans (SF_trans (SF_trans (SF_trans (SF_trans (SF_refl) hS41 (any_sub rfl)) hS46 (any_sub rfl)) hS_63 (any_sub rfl)) hS55 (any_sub rfl)) hS60 (any_sub rfl)) hS65 (any_sub rfl)) (SA_trans (SA_trans (SA_trans (SA_trans (SA_trans (SA_trans (SA_refl) hA42 (any_subA rfl)) hA47 (any_subA rfl)) hA_63 (any_subA rfl)) hA56 (any_subA rfl)) hA61 (any_subA rfl)) hA66 (any_subA rfl)) (by have : (-2147483648 : Int) ≤ F63 3 10 ∧ F63 3 10 ≤ 2147483647 := H.frng 3 10; have : F63 3 10 = F63 3 10 := rfl; show (F 3 10) ≤ (F63 3 10) ∧ (F63 3 10) ≤ (F 3 10) + (a2 - a1) + 140; omega))
            · exact w_ret rfl (k σ _ _ H (SF_trans (SF_trans (SF_trans (SF_refl) hS41 (any_sub rfl)) hS46 (any_sub rfl)) hS_63 (any_sub rfl)) (SA_trans (SA_trans (SA_trans (SA_refl) hA42 (any_subA rfl)) hA47 (any_subA rfl)) hA_63 (any_subA rfl)) (by have : (-2147483648 : Int) ≤ F_63 3 10 ∧ F_63 3 10 ≤ 2147483647 := H.frng 3 10; have : F_63 3 10 = F_63 3 10 := rfl; show (F 3 10) ≤ (F_63 3 10) ∧ (F_63 3 10) ≤ (F 3 10) + (a2 - a1) + 140; omega))
          · refine Ew_of (pc' := 70) (fun _ => x_aload_n rfl l63_0) ?_
            refine Ew_of (pc' := 71) (fun _ => x_aload_n rfl l63_0) ?_
            refine w_gT H (o := 3) (t := 18) rfl (H.perm 3 rfl) rfl rfl rfl rfl rfl rfl ?_
            refine Ew_of (pc' := 76) (fun _ => x_iload rfl l63_7) ?_
            refine w_lI H (o := 18) (n := 16384) rfl (H.perm 18 rfl) rfl rfl (H.fix 18 rfl rfl) (show 0 ≤ x63_7 ∧ x63_7 < ((16384 : Nat) : Int) by omega) (by decide) (fun v68 ev68 qv68 => ?_)
            have qv68 : (0 : Int) ≤ v68 ∧ v68 ≤ 255 := qv68
            have ev68 : A_63 18 (x63_7) = v68 := ev68
            have ev68 : A 18 (x63_7) = v68 := by have : A_63 18 (x63_7) = A45 18 (x63_7) := hA_63 18 rfl (x63_7); have : A45 18 (x63_7) = A40 18 (x63_7) := hA47 18 rfl (x63_7); have : A40 18 (x63_7) = A 18 (x63_7) := hA42 18 rfl (x63_7); omega
            refine w_inv H (o := 3) rfl rfl rfl (H.perm 3 rfl) rfl rfl (by rfl) (M363 H (by show inr (v68); omega) (by show 0 ≤ (v68) ∧ (v68) ≤ 255; omega) (by have : (-2147483648 : Int) ≤ F_63 3 10 ∧ F_63 3 10 ≤ 2147483647 := H.frng 3 10; have : F_63 3 10 = F_63 3 10 := rfl; show 0 ≤ (F_63 3 10) ∧ (F_63 3 10) ≤ 100000000; omega) (fun σ F69 A70 H hS71 hA72 pz730 => ⟨rfl, ?_⟩))
            have pz730 : (F69 3 10) = (F_63 3 10) + 1 := by have : F_63 3 10 = F_63 3 10 := rfl; have : (F69 3 10) = (F_63 3 10) + 1 := pz730; omega
            refine Ew_of (pc' := 83) (fun _ => x_iinc (len := 3) rfl (l63_7)) ?_
            refine Ew_of (pc' := 63) (fun _ => x_goto rfl rfl) ?_
            exact ih63 _ (by omega) _ σ _ _ ((x63_7 + 1)) (rk_o (l63_0) rfl rfl) (rk_o (l63_2) rfl rfl) (rk_o (l63_3) rfl rfl) (rk_o (l63_4) rfl rfl) (rk_o (l63_6) rfl rfl) (rk_s) H (SF_trans (hS_63) hS71 (any_sub rfl)) (SA_trans (hA_63) hA72 (any_subA rfl)) (by show inr ((x63_7 + 1)); omega) (by show (a1) ≤ ((x63_7 + 1)); omega) (by show ((x63_7 + 1)) ≤ (a1) ∨ ((x63_7 + 1)) ≤ ((a2)); omega) (by have : (-2147483648 : Int) ≤ F69 3 10 ∧ F69 3 10 ≤ 2147483647 := H.frng 3 10; have : F69 3 10 = F69 3 10 := rfl; show (F69 3 10) = (F44 3 10) + (((x63_7 + 1)) - a1); omega) rfl
    · refine Ew_of (pc' := 33) (fun _ => x_iconst rfl) ?_
      refine Ew_of (pc' := 50) (fun _ => x_goto rfl rfl) ?_
      refine w_iadd rfl ?_
      refine w_inv H (o := 3) rfl rfl rfl (H.perm 3 rfl) rfl rfl (by rfl) (M363 H (by show inr ((((a2 - a1) * 16) + 0)); omega) (by show 0 ≤ ((((a2 - a1) * 16) + 0)) ∧ ((((a2 - a1) * 16) + 0)) ≤ 255; omega) (by have : (-2147483648 : Int) ≤ F 3 10 ∧ F 3 10 ≤ 2147483647 := H.frng 3 10; have : F 3 10 = F 3 10 := rfl; show 0 ≤ (F 3 10) ∧ (F 3 10) ≤ 100000000; omega) (fun σ F74 A75 H hS76 hA77 pz780 => ⟨rfl, ?_⟩))
      have pz780 : (F74 3 10) = (F 3 10) + 1 := by have : (F74 3 10) = (F 3 10) + 1 := pz780; omega
      refine Ew_of (pc' := 55) (fun _ => x_aload_n rfl (rk_o (rk_o (rfl) rfl rfl) rfl rfl)) ?_
      refine Ew_of (pc' := 57) (fun _ => x_iload rfl (rk_o (rk_s) rfl rfl)) ?_
      refine w_inv H (o := 3) rfl rfl rfl (H.perm 3 rfl) rfl rfl (by rfl) (M364 H (by show inr ((a2 - a1)); omega) (by show -10 ≤ ((a2 - a1)) ∧ ((a2 - a1)) ≤ 100000; omega) (by have : (-2147483648 : Int) ≤ F74 3 10 ∧ F74 3 10 ≤ 2147483647 := H.frng 3 10; have : F74 3 10 = F74 3 10 := rfl; show 0 ≤ (F74 3 10) ∧ (F74 3 10) ≤ 10000000; omega) (fun σ F79 A80 H hS81 hA82 pz830 => ⟨rfl, ?_⟩))
      have pz830 : (F79 3 10) * 255 ≤ (F74 3 10) * 255 + 255 + ((a2 - a1)) + 10 ∧ (F74 3 10) ≤ (F79 3 10) := by have : F74 3 10 = F74 3 10 := rfl; have : (F79 3 10) * 255 ≤ (F74 3 10) * 255 + 255 + ((a2 - a1)) + 10 ∧ (F74 3 10) ≤ (F79 3 10) := pz830; omega
      refine Ew_of (pc' := 61) (fun _ => x_iload_n rfl (rk_o (rk_o (rfl) rfl rfl) rfl rfl)) ?_
      refine Ew_of (pc' := 63) (fun _ => x_istore rfl) ?_
      have r84 : (-2147483648 : Int) ≤ F79 3 10 ∧ F79 3 10 ≤ 2147483647 := by have h1 : (-2147483648 : Int) ≤ F79 3 10 ∧ F79 3 10 ≤ 2147483647 := H.frng 3 10; have h2 : F79 3 10 = F79 3 10 := rfl; omega
      suffices hl63 : ∀ (m : Nat) (ls : rO) (σ : rS) (F_63 : hF) (A_63 : hA) (x63_7 : Int), rlook ls 0 = some (.ref (D 3)) → rlook ls 2 = some (I a2) → rlook ls 3 = some (I a3) → rlook ls 4 = some (I a4) → rlook ls 6 = some (I (a3 - 4)) → rlook ls 7 = some (I x63_7) → HS σ0 σ D N F_63 A_63 → SF [(3, 10)] F79 F_63 → SA [20] A80 A_63 → (inr x63_7) → ((a1) ≤ x63_7) → (x63_7 ≤ (a1) ∨ x63_7 ≤ (a2)) → ((F_63 3 10) = (F79 3 10) + (x63_7 - a1)) → ((a2) - x63_7).toNat = m → Ew 365 (d + 2) 63 ls [] σ c s Q from
        hl63 _ _ _ _ _ (a1) (rk_o (rk_o (rk_o (rfl) rfl rfl) rfl rfl) rfl rfl) (rk_o (rk_o (rk_o (rfl) rfl rfl) rfl rfl) rfl rfl) (rk_o (rk_o (rk_o (rfl) rfl rfl) rfl rfl) rfl rfl) (rk_o (rk_o (rk_o (rfl) rfl rfl) rfl rfl) rfl rfl) (rk_o (rk_s) rfl rfl) (rk_s) H SF_refl SA_refl (by show inr (a1); omega) (by show (a1) ≤ (a1); omega) (by show (a1) ≤ (a1) ∨ (a1) ≤ ((a2)); omega) (by have : (-2147483648 : Int) ≤ F79 3 10 ∧ F79 3 10 ≤ 2147483647 := H.frng 3 10; have : F79 3 10 = F79 3 10 := rfl; show (F79 3 10) = (F79 3 10) + ((a1) - a1); omega) rfl
      intro m
      induction m using Nat.strongRecOn with
      | _ m ih63 =>
        intro ls σ F_63 A_63 x63_7 l63_0 l63_2 l63_3 l63_4 l63_6 l63_7 H hS_63 hA_63 j63_0 j63_1 j63_2 j63_3 hm63
        have r85 : (-2147483648 : Int) ≤ F_63 3 10 ∧ F_63 3 10 ≤ 2147483647 := by have h1 : (-2147483648 : Int) ≤ F_63 3 10 ∧ F_63 3 10 ≤ 2147483647 := H.frng 3 10; have h2 : F_63 3 10 = F_63 3 10 := rfl; omega
        refine Ew_of (pc' := 65) (fun _ => x_iload rfl l63_7) ?_
        refine Ew_of (pc' := 66) (fun _ => x_iload_n rfl l63_2) ?_
        refine w_icmpge (t := 86) rfl rfl (show inr (x63_7) by omega) (show inr (a2) by omega) (fun b86 => ?_) (fun b86 => ?_)
        · refine Ew_of (pc' := 87) (fun _ => x_iload_n rfl l63_3) ?_
          refine w_ifne (t := 91) rfl rfl (show inr (a3) by omega) (fun b87 => ?_) (fun b87 => ?_)
          · refine Ew_of (pc' := 92) (fun _ => x_aload_n rfl l63_0) ?_
            refine Ew_of (pc' := 94) (fun _ => x_iload rfl l63_4) ?_
            refine Ew_of (pc' := 97) (fun _ => x_sipush (z := 256) rfl (by decide)) ?_
            refine w_irem rfl (show inr (a4) ∧ 0 ≤ a4 by omega) (show inr (256) ∧ 0 < 256 by omega) ?_
            refine w_inv H (o := 3) rfl rfl rfl (H.perm 3 rfl) rfl rfl (by rfl) (M363 H (by show inr ((a4 % 256)); omega) (by show 0 ≤ ((a4 % 256)) ∧ ((a4 % 256)) ≤ 255; omega) (by have : (-2147483648 : Int) ≤ F_63 3 10 ∧ F_63 3 10 ≤ 2147483647 := H.frng 3 10; have : F_63 3 10 = F_63 3 10 := rfl; show 0 ≤ (F_63 3 10) ∧ (F_63 3 10) ≤ 100000000; omega) (fun σ F88 A89 H hS90 hA91 pz920 => ⟨rfl, ?_⟩))
            have pz920 : (F88 3 10) = (F_63 3 10) + 1 := by have : F_63 3 10 = F_63 3 10 := rfl; have : (F88 3 10) = (F_63 3 10) + 1 := pz920; omega
            refine Ew_of (pc' := 102) (fun _ => x_aload_n rfl l63_0) ?_
            refine Ew_of (pc' := 104) (fun _ => x_iload rfl l63_4) ?_
            refine Ew_of (pc' := 107) (fun _ => x_sipush (z := 256) rfl (by decide)) ?_
            refine w_idiv rfl (show inr (a4) ∧ 0 ≤ a4 by omega) (show inr (256) ∧ 0 < 256 by omega) ?_
            refine w_inv H (o := 3) rfl rfl rfl (H.perm 3 rfl) rfl rfl (by rfl) (M363 H (by show inr ((a4 / 256)); omega) (by show 0 ≤ ((a4 / 256)) ∧ ((a4 / 256)) ≤ 255; omega) (by have : (-2147483648 : Int) ≤ F88 3 10 ∧ F88 3 10 ≤ 2147483647 := H.frng 3 10; have : F88 3 10 = F88 3 10 := rfl; show 0 ≤ (F88 3 10) ∧ (F88 3 10) ≤ 100000000; omega) (fun σ F93 A94 H hS95 hA96 pz970 => ⟨rfl, ?_⟩))
            have pz970 : (F93 3 10) = (F88 3 10) + 1 := by have : F88 3 10 = F88 3 10 := rfl; have : (F93 3 10) = (F88 3 10) + 1 := pz970; omega
            refine Ew_of (pc' := 112) (fun _ => x_aload_n rfl l63_0) ?_
            refine Ew_of (pc' := 114) (fun _ => x_iload rfl l63_6) ?_
            refine w_inv H (o := 3) rfl rfl rfl (H.perm 3 rfl) rfl rfl (by rfl) (M364 H (by show inr ((a3 - 4)); omega) (by show -10 ≤ ((a3 - 4)) ∧ ((a3 - 4)) ≤ 100000; omega) (by have : (-2147483648 : Int) ≤ F93 3 10 ∧ F93 3 10 ≤ 2147483647 := H.frng 3 10; have : F93 3 10 = F93 3 10 := rfl; show 0 ≤ (F93 3 10) ∧ (F93 3 10) ≤ 10000000; omega) (fun σ F98 A99 H hS100 hA101 pz1020 => ⟨rfl, ?_⟩))
            have pz1020 : (F98 3 10) * 255 ≤ (F93 3 10) * 255 + 255 + ((a3 - 4)) + 10 ∧ (F93 3 10) ≤ (F98 3 10) := by have : F93 3 10 = F93 3 10 := rfl; have : (F98 3 10) * 255 ≤ (F93 3 10) * 255 + 255 + ((a3 - 4)) + 10 ∧ (F93 3 10) ≤ (F98 3 10) := pz1020; omega
            exact w_ret rfl (k σ _ _ H (SF_trans (SF_trans (SF_trans (SF_trans (SF_trans (SF_trans (SF_refl) hS76 (any_sub rfl)) hS81 (any_sub rfl)) hS_63 (any_sub rfl)) hS90 (any_sub rfl)) hS95 (any_sub rfl)) hS100 (any_sub rfl)) (SA_trans (SA_trans (SA_trans (SA_trans (SA_trans (SA_trans (SA_refl) hA77 (any_subA rfl)) hA82 (any_subA rfl)) hA_63 (any_subA rfl)) hA91 (any_subA rfl)) hA96 (any_subA rfl)) hA101 (any_subA rfl)) (by have : (-2147483648 : Int) ≤ F98 3 10 ∧ F98 3 10 ≤ 2147483647 := H.frng 3 10; have : F98 3 10 = F98 3 10 := rfl; show (F 3 10) ≤ (F98 3 10) ∧ (F98 3 10) ≤ (F 3 10) + (a2 - a1) + 140; omega))
          · exact w_ret rfl (k σ _ _ H (SF_trans (SF_trans (SF_trans (SF_refl) hS76 (any_sub rfl)) hS81 (any_sub rfl)) hS_63 (any_sub rfl)) (SA_trans (SA_trans (SA_trans (SA_refl) hA77 (any_subA rfl)) hA82 (any_subA rfl)) hA_63 (any_subA rfl)) (by have : (-2147483648 : Int) ≤ F_63 3 10 ∧ F_63 3 10 ≤ 2147483647 := H.frng 3 10; have : F_63 3 10 = F_63 3 10 := rfl; show (F 3 10) ≤ (F_63 3 10) ∧ (F_63 3 10) ≤ (F 3 10) + (a2 - a1) + 140; omega))
        · refine Ew_of (pc' := 70) (fun _ => x_aload_n rfl l63_0) ?_
          refine Ew_of (pc' := 71) (fun _ => x_aload_n rfl l63_0) ?_
          refine w_gT H (o := 3) (t := 18) rfl (H.perm 3 rfl) rfl rfl rfl rfl rfl rfl ?_
          refine Ew_of (pc' := 76) (fun _ => x_iload rfl l63_7) ?_
          refine w_lI H (o := 18) (n := 16384) rfl (H.perm 18 rfl) rfl rfl (H.fix 18 rfl rfl) (show 0 ≤ x63_7 ∧ x63_7 < ((16384 : Nat) : Int) by omega) (by decide) (fun v103 ev103 qv103 => ?_)
          have qv103 : (0 : Int) ≤ v103 ∧ v103 ≤ 255 := qv103
          have ev103 : A_63 18 (x63_7) = v103 := ev103
          have ev103 : A 18 (x63_7) = v103 := by have : A_63 18 (x63_7) = A80 18 (x63_7) := hA_63 18 rfl (x63_7); have : A80 18 (x63_7) = A75 18 (x63_7) := hA82 18 rfl (x63_7); have : A75 18 (x63_7) = A 18 (x63_7) := hA77 18 rfl (x63_7); omega
          refine w_inv H (o := 3) rfl rfl rfl (H.perm 3 rfl) rfl rfl (by rfl) (M363 H (by show inr (v103); omega) (by show 0 ≤ (v103) ∧ (v103) ≤ 255; omega) (by have : (-2147483648 : Int) ≤ F_63 3 10 ∧ F_63 3 10 ≤ 2147483647 := H.frng 3 10; have : F_63 3 10 = F_63 3 10 := rfl; show 0 ≤ (F_63 3 10) ∧ (F_63 3 10) ≤ 100000000; omega) (fun σ F104 A105 H hS106 hA107 pz1080 => ⟨rfl, ?_⟩))
          have pz1080 : (F104 3 10) = (F_63 3 10) + 1 := by have : F_63 3 10 = F_63 3 10 := rfl; have : (F104 3 10) = (F_63 3 10) + 1 := pz1080; omega
          refine Ew_of (pc' := 83) (fun _ => x_iinc (len := 3) rfl (l63_7)) ?_
          refine Ew_of (pc' := 63) (fun _ => x_goto rfl rfl) ?_
          exact ih63 _ (by omega) _ σ _ _ ((x63_7 + 1)) (rk_o (l63_0) rfl rfl) (rk_o (l63_2) rfl rfl) (rk_o (l63_3) rfl rfl) (rk_o (l63_4) rfl rfl) (rk_o (l63_6) rfl rfl) (rk_s) H (SF_trans (hS_63) hS106 (any_sub rfl)) (SA_trans (hA_63) hA107 (any_subA rfl)) (by show inr ((x63_7 + 1)); omega) (by show (a1) ≤ ((x63_7 + 1)); omega) (by show ((x63_7 + 1)) ≤ (a1) ∨ ((x63_7 + 1)) ≤ ((a2)); omega) (by have : (-2147483648 : Int) ≤ F104 3 10 ∧ F104 3 10 ≤ 2147483647 := H.frng 3 10; have : F104 3 10 = F104 3 10 := rfl; show (F104 3 10) = (F79 3 10) + (((x63_7 + 1)) - a1); omega) rfl
  · refine Ew_of (pc' := 20) (fun _ => x_bipush (z := 15) rfl (by decide)) ?_
    refine Ew_of (pc' := 25) (fun _ => x_goto rfl rfl) ?_
    refine Ew_of (pc' := 27) (fun _ => x_bipush (z := 16) rfl (by decide)) ?_
    refine w_imul rfl ?_
    refine Ew_of (pc' := 29) (fun _ => x_iload_n rfl (rk_o (rk_o (rfl) rfl rfl) rfl rfl)) ?_
    refine w_ifne (t := 36) rfl rfl (show inr (a3) by omega) (fun b109 => ?_) (fun b109 => ?_)
    · refine Ew_of (pc' := 38) (fun _ => x_iload rfl rk_s) ?_
      refine Ew_of (pc' := 40) (fun _ => x_bipush (z := 15) rfl (by decide)) ?_
      refine w_icmple (t := 48) rfl rfl (show inr ((a3 - 4)) by omega) (show inr (15) by omega) (fun b110 => ?_) (fun b110 => ?_)
      · refine Ew_of (pc' := 50) (fun _ => x_iload rfl rk_s) ?_
        refine w_iadd rfl ?_
        refine w_inv H (o := 3) rfl rfl rfl (H.perm 3 rfl) rfl rfl (by rfl) (M363 H (by show inr (((15 * 16) + (a3 - 4))); omega) (by show 0 ≤ (((15 * 16) + (a3 - 4))) ∧ (((15 * 16) + (a3 - 4))) ≤ 255; omega) (by have : (-2147483648 : Int) ≤ F 3 10 ∧ F 3 10 ≤ 2147483647 := H.frng 3 10; have : F 3 10 = F 3 10 := rfl; show 0 ≤ (F 3 10) ∧ (F 3 10) ≤ 100000000; omega) (fun σ F111 A112 H hS113 hA114 pz1150 => ⟨rfl, ?_⟩))
        have pz1150 : (F111 3 10) = (F 3 10) + 1 := by have : (F111 3 10) = (F 3 10) + 1 := pz1150; omega
        refine Ew_of (pc' := 55) (fun _ => x_aload_n rfl (rk_o (rk_o (rfl) rfl rfl) rfl rfl)) ?_
        refine Ew_of (pc' := 57) (fun _ => x_iload rfl (rk_o (rk_s) rfl rfl)) ?_
        refine w_inv H (o := 3) rfl rfl rfl (H.perm 3 rfl) rfl rfl (by rfl) (M364 H (by show inr ((a2 - a1)); omega) (by show -10 ≤ ((a2 - a1)) ∧ ((a2 - a1)) ≤ 100000; omega) (by have : (-2147483648 : Int) ≤ F111 3 10 ∧ F111 3 10 ≤ 2147483647 := H.frng 3 10; have : F111 3 10 = F111 3 10 := rfl; show 0 ≤ (F111 3 10) ∧ (F111 3 10) ≤ 10000000; omega) (fun σ F116 A117 H hS118 hA119 pz1200 => ⟨rfl, ?_⟩))
        have pz1200 : (F116 3 10) * 255 ≤ (F111 3 10) * 255 + 255 + ((a2 - a1)) + 10 ∧ (F111 3 10) ≤ (F116 3 10) := by have : F111 3 10 = F111 3 10 := rfl; have : (F116 3 10) * 255 ≤ (F111 3 10) * 255 + 255 + ((a2 - a1)) + 10 ∧ (F111 3 10) ≤ (F116 3 10) := pz1200; omega
        refine Ew_of (pc' := 61) (fun _ => x_iload_n rfl (rk_o (rk_o (rfl) rfl rfl) rfl rfl)) ?_
        refine Ew_of (pc' := 63) (fun _ => x_istore rfl) ?_
        have r121 : (-2147483648 : Int) ≤ F116 3 10 ∧ F116 3 10 ≤ 2147483647 := by have h1 : (-2147483648 : Int) ≤ F116 3 10 ∧ F116 3 10 ≤ 2147483647 := H.frng 3 10; have h2 : F116 3 10 = F116 3 10 := rfl; omega
        suffices hl63 : ∀ (m : Nat) (ls : rO) (σ : rS) (F_63 : hF) (A_63 : hA) (x63_7 : Int), rlook ls 0 = some (.ref (D 3)) → rlook ls 2 = some (I a2) → rlook ls 3 = some (I a3) → rlook ls 4 = some (I a4) → rlook ls 6 = some (I (a3 - 4)) → rlook ls 7 = some (I x63_7) → HS σ0 σ D N F_63 A_63 → SF [(3, 10)] F116 F_63 → SA [20] A117 A_63 → (inr x63_7) → ((a1) ≤ x63_7) → (x63_7 ≤ (a1) ∨ x63_7 ≤ (a2)) → ((F_63 3 10) = (F116 3 10) + (x63_7 - a1)) → ((a2) - x63_7).toNat = m → Ew 365 (d + 2) 63 ls [] σ c s Q from
          hl63 _ _ _ _ _ (a1) (rk_o (rk_o (rk_o (rfl) rfl rfl) rfl rfl) rfl rfl) (rk_o (rk_o (rk_o (rfl) rfl rfl) rfl rfl) rfl rfl) (rk_o (rk_o (rk_o (rfl) rfl rfl) rfl rfl) rfl rfl) (rk_o (rk_o (rk_o (rfl) rfl rfl) rfl rfl) rfl rfl) (rk_o (rk_s) rfl rfl) (rk_s) H SF_refl SA_refl (by show inr (a1); omega) (by show (a1) ≤ (a1); omega) (by show (a1) ≤ (a1) ∨ (a1) ≤ ((a2)); omega) (by have : (-2147483648 : Int) ≤ F116 3 10 ∧ F116 3 10 ≤ 2147483647 := H.frng 3 10; have : F116 3 10 = F116 3 10 := rfl; show (F116 3 10) = (F116 3 10) + ((a1) - a1); omega) rfl
        intro m
        induction m using Nat.strongRecOn with
        | _ m ih63 =>
          intro ls σ F_63 A_63 x63_7 l63_0 l63_2 l63_3 l63_4 l63_6 l63_7 H hS_63 hA_63 j63_0 j63_1 j63_2 j63_3 hm63
          have r122 : (-2147483648 : Int) ≤ F_63 3 10 ∧ F_63 3 10 ≤ 2147483647 := by have h1 : (-2147483648 : Int) ≤ F_63 3 10 ∧ F_63 3 10 ≤ 2147483647 := H.frng 3 10; have h2 : F_63 3 10 = F_63 3 10 := rfl; omega
          refine Ew_of (pc' := 65) (fun _ => x_iload rfl l63_7) ?_
          refine Ew_of (pc' := 66) (fun _ => x_iload_n rfl l63_2) ?_
          refine w_icmpge (t := 86) rfl rfl (show inr (x63_7) by omega) (show inr (a2) by omega) (fun b123 => ?_) (fun b123 => ?_)
          · refine Ew_of (pc' := 87) (fun _ => x_iload_n rfl l63_3) ?_
            refine w_ifne (t := 91) rfl rfl (show inr (a3) by omega) (fun b124 => ?_) (fun b124 => ?_)
            · refine Ew_of (pc' := 92) (fun _ => x_aload_n rfl l63_0) ?_
              refine Ew_of (pc' := 94) (fun _ => x_iload rfl l63_4) ?_
              refine Ew_of (pc' := 97) (fun _ => x_sipush (z := 256) rfl (by decide)) ?_
              refine w_irem rfl (show inr (a4) ∧ 0 ≤ a4 by omega) (show inr (256) ∧ 0 < 256 by omega) ?_
              refine w_inv H (o := 3) rfl rfl rfl (H.perm 3 rfl) rfl rfl (by rfl) (M363 H (by show inr ((a4 % 256)); omega) (by show 0 ≤ ((a4 % 256)) ∧ ((a4 % 256)) ≤ 255; omega) (by have : (-2147483648 : Int) ≤ F_63 3 10 ∧ F_63 3 10 ≤ 2147483647 := H.frng 3 10; have : F_63 3 10 = F_63 3 10 := rfl; show 0 ≤ (F_63 3 10) ∧ (F_63 3 10) ≤ 100000000; omega) (fun σ F125 A126 H hS127 hA128 pz1290 => ⟨rfl, ?_⟩))
              have pz1290 : (F125 3 10) = (F_63 3 10) + 1 := by have : F_63 3 10 = F_63 3 10 := rfl; have : (F125 3 10) = (F_63 3 10) + 1 := pz1290; omega
              refine Ew_of (pc' := 102) (fun _ => x_aload_n rfl l63_0) ?_
              refine Ew_of (pc' := 104) (fun _ => x_iload rfl l63_4) ?_
              refine Ew_of (pc' := 107) (fun _ => x_sipush (z := 256) rfl (by decide)) ?_
              refine w_idiv rfl (show inr (a4) ∧ 0 ≤ a4 by omega) (show inr (256) ∧ 0 < 256 by omega) ?_
              refine w_inv H (o := 3) rfl rfl rfl (H.perm 3 rfl) rfl rfl (by rfl) (M363 H (by show inr ((a4 / 256)); omega) (by show 0 ≤ ((a4 / 256)) ∧ ((a4 / 256)) ≤ 255; omega) (by have : (-2147483648 : Int) ≤ F125 3 10 ∧ F125 3 10 ≤ 2147483647 := H.frng 3 10; have : F125 3 10 = F125 3 10 := rfl; show 0 ≤ (F125 3 10) ∧ (F125 3 10) ≤ 100000000; omega) (fun σ F130 A131 H hS132 hA133 pz1340 => ⟨rfl, ?_⟩))
              have pz1340 : (F130 3 10) = (F125 3 10) + 1 := by have : F125 3 10 = F125 3 10 := rfl; have : (F130 3 10) = (F125 3 10) + 1 := pz1340; omega
              refine Ew_of (pc' := 112) (fun _ => x_aload_n rfl l63_0) ?_
              refine Ew_of (pc' := 114) (fun _ => x_iload rfl l63_6) ?_
              refine w_inv H (o := 3) rfl rfl rfl (H.perm 3 rfl) rfl rfl (by rfl) (M364 H (by show inr ((a3 - 4)); omega) (by show -10 ≤ ((a3 - 4)) ∧ ((a3 - 4)) ≤ 100000; omega) (by have : (-2147483648 : Int) ≤ F130 3 10 ∧ F130 3 10 ≤ 2147483647 := H.frng 3 10; have : F130 3 10 = F130 3 10 := rfl; show 0 ≤ (F130 3 10) ∧ (F130 3 10) ≤ 10000000; omega) (fun σ F135 A136 H hS137 hA138 pz1390 => ⟨rfl, ?_⟩))
              have pz1390 : (F135 3 10) * 255 ≤ (F130 3 10) * 255 + 255 + ((a3 - 4)) + 10 ∧ (F130 3 10) ≤ (F135 3 10) := by have : F130 3 10 = F130 3 10 := rfl; have : (F135 3 10) * 255 ≤ (F130 3 10) * 255 + 255 + ((a3 - 4)) + 10 ∧ (F130 3 10) ≤ (F135 3 10) := pz1390; omega
              exact w_ret rfl (k σ _ _ H (SF_trans (SF_trans (SF_trans (SF_trans (SF_trans (SF_trans (SF_refl) hS113 (any_sub rfl)) hS118 (any_sub rfl)) hS_63 (any_sub rfl)) hS127 (any_sub rfl)) hS132 (any_sub rfl)) hS137 (any_sub rfl)) (SA_trans (SA_trans (SA_trans (SA_trans (SA_trans (SA_trans (SA_refl) hA114 (any_subA rfl)) hA119 (any_subA rfl)) hA_63 (any_subA rfl)) hA128 (any_subA rfl)) hA133 (any_subA rfl)) hA138 (any_subA rfl)) (by have : (-2147483648 : Int) ≤ F135 3 10 ∧ F135 3 10 ≤ 2147483647 := H.frng 3 10; have : F135 3 10 = F135 3 10 := rfl; show (F 3 10) ≤ (F135 3 10) ∧ (F135 3 10) ≤ (F 3 10) + (a2 - a1) + 140; omega))
            · exact w_ret rfl (k σ _ _ H (SF_trans (SF_trans (SF_trans (SF_refl) hS113 (any_sub rfl)) hS118 (any_sub rfl)) hS_63 (any_sub rfl)) (SA_trans (SA_trans (SA_trans (SA_refl) hA114 (any_subA rfl)) hA119 (any_subA rfl)) hA_63 (any_subA rfl)) (by have : (-2147483648 : Int) ≤ F_63 3 10 ∧ F_63 3 10 ≤ 2147483647 := H.frng 3 10; have : F_63 3 10 = F_63 3 10 := rfl; show (F 3 10) ≤ (F_63 3 10) ∧ (F_63 3 10) ≤ (F 3 10) + (a2 - a1) + 140; omega))
          · refine Ew_of (pc' := 70) (fun _ => x_aload_n rfl l63_0) ?_
            refine Ew_of (pc' := 71) (fun _ => x_aload_n rfl l63_0) ?_
            refine w_gT H (o := 3) (t := 18) rfl (H.perm 3 rfl) rfl rfl rfl rfl rfl rfl ?_
            refine Ew_of (pc' := 76) (fun _ => x_iload rfl l63_7) ?_
            refine w_lI H (o := 18) (n := 16384) rfl (H.perm 18 rfl) rfl rfl (H.fix 18 rfl rfl) (show 0 ≤ x63_7 ∧ x63_7 < ((16384 : Nat) : Int) by omega) (by decide) (fun v140 ev140 qv140 => ?_)
            have qv140 : (0 : Int) ≤ v140 ∧ v140 ≤ 255 := qv140
            have ev140 : A_63 18 (x63_7) = v140 := ev140
            have ev140 : A 18 (x63_7) = v140 := by have : A_63 18 (x63_7) = A117 18 (x63_7) := hA_63 18 rfl (x63_7); have : A117 18 (x63_7) = A112 18 (x63_7) := hA119 18 rfl (x63_7); have : A112 18 (x63_7) = A 18 (x63_7) := hA114 18 rfl (x63_7); omega
            refine w_inv H (o := 3) rfl rfl rfl (H.perm 3 rfl) rfl rfl (by rfl) (M363 H (by show inr (v140); omega) (by show 0 ≤ (v140) ∧ (v140) ≤ 255; omega) (by have : (-2147483648 : Int) ≤ F_63 3 10 ∧ F_63 3 10 ≤ 2147483647 := H.frng 3 10; have : F_63 3 10 = F_63 3 10 := rfl; show 0 ≤ (F_63 3 10) ∧ (F_63 3 10) ≤ 100000000; omega) (fun σ F141 A142 H hS143 hA144 pz1450 => ⟨rfl, ?_⟩))
            have pz1450 : (F141 3 10) = (F_63 3 10) + 1 := by have : F_63 3 10 = F_63 3 10 := rfl; have : (F141 3 10) = (F_63 3 10) + 1 := pz1450; omega
            refine Ew_of (pc' := 83) (fun _ => x_iinc (len := 3) rfl (l63_7)) ?_
            refine Ew_of (pc' := 63) (fun _ => x_goto rfl rfl) ?_
            exact ih63 _ (by omega) _ σ _ _ ((x63_7 + 1)) (rk_o (l63_0) rfl rfl) (rk_o (l63_2) rfl rfl) (rk_o (l63_3) rfl rfl) (rk_o (l63_4) rfl rfl) (rk_o (l63_6) rfl rfl) (rk_s) H (SF_trans (hS_63) hS143 (any_sub rfl)) (SA_trans (hA_63) hA144 (any_subA rfl)) (by show inr ((x63_7 + 1)); omega) (by show (a1) ≤ ((x63_7 + 1)); omega) (by show ((x63_7 + 1)) ≤ (a1) ∨ ((x63_7 + 1)) ≤ ((a2)); omega) (by have : (-2147483648 : Int) ≤ F141 3 10 ∧ F141 3 10 ≤ 2147483647 := H.frng 3 10; have : F141 3 10 = F141 3 10 := rfl; show (F141 3 10) = (F116 3 10) + (((x63_7 + 1)) - a1); omega) rfl
      · refine Ew_of (pc' := 45) (fun _ => x_bipush (z := 15) rfl (by decide)) ?_
        refine Ew_of (pc' := 50) (fun _ => x_goto rfl rfl) ?_
        refine w_iadd rfl ?_
        refine w_inv H (o := 3) rfl rfl rfl (H.perm 3 rfl) rfl rfl (by rfl) (M363 H (by show inr (((15 * 16) + 15)); omega) (by show 0 ≤ (((15 * 16) + 15)) ∧ (((15 * 16) + 15)) ≤ 255; omega) (by have : (-2147483648 : Int) ≤ F 3 10 ∧ F 3 10 ≤ 2147483647 := H.frng 3 10; have : F 3 10 = F 3 10 := rfl; show 0 ≤ (F 3 10) ∧ (F 3 10) ≤ 100000000; omega) (fun σ F146 A147 H hS148 hA149 pz1500 => ⟨rfl, ?_⟩))
        have pz1500 : (F146 3 10) = (F 3 10) + 1 := by have : (F146 3 10) = (F 3 10) + 1 := pz1500; omega
        refine Ew_of (pc' := 55) (fun _ => x_aload_n rfl (rk_o (rk_o (rfl) rfl rfl) rfl rfl)) ?_
        refine Ew_of (pc' := 57) (fun _ => x_iload rfl (rk_o (rk_s) rfl rfl)) ?_
        refine w_inv H (o := 3) rfl rfl rfl (H.perm 3 rfl) rfl rfl (by rfl) (M364 H (by show inr ((a2 - a1)); omega) (by show -10 ≤ ((a2 - a1)) ∧ ((a2 - a1)) ≤ 100000; omega) (by have : (-2147483648 : Int) ≤ F146 3 10 ∧ F146 3 10 ≤ 2147483647 := H.frng 3 10; have : F146 3 10 = F146 3 10 := rfl; show 0 ≤ (F146 3 10) ∧ (F146 3 10) ≤ 10000000; omega) (fun σ F151 A152 H hS153 hA154 pz1550 => ⟨rfl, ?_⟩))
        have pz1550 : (F151 3 10) * 255 ≤ (F146 3 10) * 255 + 255 + ((a2 - a1)) + 10 ∧ (F146 3 10) ≤ (F151 3 10) := by have : F146 3 10 = F146 3 10 := rfl; have : (F151 3 10) * 255 ≤ (F146 3 10) * 255 + 255 + ((a2 - a1)) + 10 ∧ (F146 3 10) ≤ (F151 3 10) := pz1550; omega
        refine Ew_of (pc' := 61) (fun _ => x_iload_n rfl (rk_o (rk_o (rfl) rfl rfl) rfl rfl)) ?_
        refine Ew_of (pc' := 63) (fun _ => x_istore rfl) ?_
        have r156 : (-2147483648 : Int) ≤ F151 3 10 ∧ F151 3 10 ≤ 2147483647 := by have h1 : (-2147483648 : Int) ≤ F151 3 10 ∧ F151 3 10 ≤ 2147483647 := H.frng 3 10; have h2 : F151 3 10 = F151 3 10 := rfl; omega
        suffices hl63 : ∀ (m : Nat) (ls : rO) (σ : rS) (F_63 : hF) (A_63 : hA) (x63_7 : Int), rlook ls 0 = some (.ref (D 3)) → rlook ls 2 = some (I a2) → rlook ls 3 = some (I a3) → rlook ls 4 = some (I a4) → rlook ls 6 = some (I (a3 - 4)) → rlook ls 7 = some (I x63_7) → HS σ0 σ D N F_63 A_63 → SF [(3, 10)] F151 F_63 → SA [20] A152 A_63 → (inr x63_7) → ((a1) ≤ x63_7) → (x63_7 ≤ (a1) ∨ x63_7 ≤ (a2)) → ((F_63 3 10) = (F151 3 10) + (x63_7 - a1)) → ((a2) - x63_7).toNat = m → Ew 365 (d + 2) 63 ls [] σ c s Q from
          hl63 _ _ _ _ _ (a1) (rk_o (rk_o (rk_o (rfl) rfl rfl) rfl rfl) rfl rfl) (rk_o (rk_o (rk_o (rfl) rfl rfl) rfl rfl) rfl rfl) (rk_o (rk_o (rk_o (rfl) rfl rfl) rfl rfl) rfl rfl) (rk_o (rk_o (rk_o (rfl) rfl rfl) rfl rfl) rfl rfl) (rk_o (rk_s) rfl rfl) (rk_s) H SF_refl SA_refl (by show inr (a1); omega) (by show (a1) ≤ (a1); omega) (by show (a1) ≤ (a1) ∨ (a1) ≤ ((a2)); omega) (by have : (-2147483648 : Int) ≤ F151 3 10 ∧ F151 3 10 ≤ 2147483647 := H.frng 3 10; have : F151 3 10 = F151 3 10 := rfl; show (F151 3 10) = (F151 3 10) + ((a1) - a1); omega) rfl
        intro m
        induction m using Nat.strongRecOn with
        | _ m ih63 =>
          intro ls σ F_63 A_63 x63_7 l63_0 l63_2 l63_3 l63_4 l63_6 l63_7 H hS_63 hA_63 j63_0 j63_1 j63_2 j63_3 hm63
          have r157 : (-2147483648 : Int) ≤ F_63 3 10 ∧ F_63 3 10 ≤ 2147483647 := by have h1 : (-2147483648 : Int) ≤ F_63 3 10 ∧ F_63 3 10 ≤ 2147483647 := H.frng 3 10; have h2 : F_63 3 10 = F_63 3 10 := rfl; omega
          refine Ew_of (pc' := 65) (fun _ => x_iload rfl l63_7) ?_
          refine Ew_of (pc' := 66) (fun _ => x_iload_n rfl l63_2) ?_
          refine w_icmpge (t := 86) rfl rfl (show inr (x63_7) by omega) (show inr (a2) by omega) (fun b158 => ?_) (fun b158 => ?_)
          · refine Ew_of (pc' := 87) (fun _ => x_iload_n rfl l63_3) ?_
            refine w_ifne (t := 91) rfl rfl (show inr (a3) by omega) (fun b159 => ?_) (fun b159 => ?_)
            · refine Ew_of (pc' := 92) (fun _ => x_aload_n rfl l63_0) ?_
              refine Ew_of (pc' := 94) (fun _ => x_iload rfl l63_4) ?_
              refine Ew_of (pc' := 97) (fun _ => x_sipush (z := 256) rfl (by decide)) ?_
              refine w_irem rfl (show inr (a4) ∧ 0 ≤ a4 by omega) (show inr (256) ∧ 0 < 256 by omega) ?_
              refine w_inv H (o := 3) rfl rfl rfl (H.perm 3 rfl) rfl rfl (by rfl) (M363 H (by show inr ((a4 % 256)); omega) (by show 0 ≤ ((a4 % 256)) ∧ ((a4 % 256)) ≤ 255; omega) (by have : (-2147483648 : Int) ≤ F_63 3 10 ∧ F_63 3 10 ≤ 2147483647 := H.frng 3 10; have : F_63 3 10 = F_63 3 10 := rfl; show 0 ≤ (F_63 3 10) ∧ (F_63 3 10) ≤ 100000000; omega) (fun σ F160 A161 H hS162 hA163 pz1640 => ⟨rfl, ?_⟩))
              have pz1640 : (F160 3 10) = (F_63 3 10) + 1 := by have : F_63 3 10 = F_63 3 10 := rfl; have : (F160 3 10) = (F_63 3 10) + 1 := pz1640; omega
              refine Ew_of (pc' := 102) (fun _ => x_aload_n rfl l63_0) ?_
              refine Ew_of (pc' := 104) (fun _ => x_iload rfl l63_4) ?_
              refine Ew_of (pc' := 107) (fun _ => x_sipush (z := 256) rfl (by decide)) ?_
              refine w_idiv rfl (show inr (a4) ∧ 0 ≤ a4 by omega) (show inr (256) ∧ 0 < 256 by omega) ?_
              refine w_inv H (o := 3) rfl rfl rfl (H.perm 3 rfl) rfl rfl (by rfl) (M363 H (by show inr ((a4 / 256)); omega) (by show 0 ≤ ((a4 / 256)) ∧ ((a4 / 256)) ≤ 255; omega) (by have : (-2147483648 : Int) ≤ F160 3 10 ∧ F160 3 10 ≤ 2147483647 := H.frng 3 10; have : F160 3 10 = F160 3 10 := rfl; show 0 ≤ (F160 3 10) ∧ (F160 3 10) ≤ 100000000; omega) (fun σ F165 A166 H hS167 hA168 pz1690 => ⟨rfl, ?_⟩))
              have pz1690 : (F165 3 10) = (F160 3 10) + 1 := by have : F160 3 10 = F160 3 10 := rfl; have : (F165 3 10) = (F160 3 10) + 1 := pz1690; omega
              refine Ew_of (pc' := 112) (fun _ => x_aload_n rfl l63_0) ?_
              refine Ew_of (pc' := 114) (fun _ => x_iload rfl l63_6) ?_
              refine w_inv H (o := 3) rfl rfl rfl (H.perm 3 rfl) rfl rfl (by rfl) (M364 H (by show inr ((a3 - 4)); omega) (by show -10 ≤ ((a3 - 4)) ∧ ((a3 - 4)) ≤ 100000; omega) (by have : (-2147483648 : Int) ≤ F165 3 10 ∧ F165 3 10 ≤ 2147483647 := H.frng 3 10; have : F165 3 10 = F165 3 10 := rfl; show 0 ≤ (F165 3 10) ∧ (F165 3 10) ≤ 10000000; omega) (fun σ F170 A171 H hS172 hA173 pz1740 => ⟨rfl, ?_⟩))
              have pz1740 : (F170 3 10) * 255 ≤ (F165 3 10) * 255 + 255 + ((a3 - 4)) + 10 ∧ (F165 3 10) ≤ (F170 3 10) := by have : F165 3 10 = F165 3 10 := rfl; have : (F170 3 10) * 255 ≤ (F165 3 10) * 255 + 255 + ((a3 - 4)) + 10 ∧ (F165 3 10) ≤ (F170 3 10) := pz1740; omega
              exact w_ret rfl (k σ _ _ H (SF_trans (SF_trans (SF_trans (SF_trans (SF_trans (SF_trans (SF_refl) hS148 (any_sub rfl)) hS153 (any_sub rfl)) hS_63 (any_sub rfl)) hS162 (any_sub rfl)) hS167 (any_sub rfl)) hS172 (any_sub rfl)) (SA_trans (SA_trans (SA_trans (SA_trans (SA_trans (SA_trans (SA_refl) hA149 (any_subA rfl)) hA154 (any_subA rfl)) hA_63 (any_subA rfl)) hA163 (any_subA rfl)) hA168 (any_subA rfl)) hA173 (any_subA rfl)) (by have : (-2147483648 : Int) ≤ F170 3 10 ∧ F170 3 10 ≤ 2147483647 := H.frng 3 10; have : F170 3 10 = F170 3 10 := rfl; show (F 3 10) ≤ (F170 3 10) ∧ (F170 3 10) ≤ (F 3 10) + (a2 - a1) + 140; omega))
            · exact w_ret rfl (k σ _ _ H (SF_trans (SF_trans (SF_trans (SF_refl) hS148 (any_sub rfl)) hS153 (any_sub rfl)) hS_63 (any_sub rfl)) (SA_trans (SA_trans (SA_trans (SA_refl) hA149 (any_subA rfl)) hA154 (any_subA rfl)) hA_63 (any_subA rfl)) (by have : (-2147483648 : Int) ≤ F_63 3 10 ∧ F_63 3 10 ≤ 2147483647 := H.frng 3 10; have : F_63 3 10 = F_63 3 10 := rfl; show (F 3 10) ≤ (F_63 3 10) ∧ (F_63 3 10) ≤ (F 3 10) + (a2 - a1) + 140; omega))
          · refine Ew_of (pc' := 70) (fun _ => x_aload_n rfl l63_0) ?_
            refine Ew_of (pc' := 71) (fun _ => x_aload_n rfl l63_0) ?_
            refine w_gT H (o := 3) (t := 18) rfl (H.perm 3 rfl) rfl rfl rfl rfl rfl rfl ?_
            refine Ew_of (pc' := 76) (fun _ => x_iload rfl l63_7) ?_
            refine w_lI H (o := 18) (n := 16384) rfl (H.perm 18 rfl) rfl rfl (H.fix 18 rfl rfl) (show 0 ≤ x63_7 ∧ x63_7 < ((16384 : Nat) : Int) by omega) (by decide) (fun v175 ev175 qv175 => ?_)
            have qv175 : (0 : Int) ≤ v175 ∧ v175 ≤ 255 := qv175
            have ev175 : A_63 18 (x63_7) = v175 := ev175
            have ev175 : A 18 (x63_7) = v175 := by have : A_63 18 (x63_7) = A152 18 (x63_7) := hA_63 18 rfl (x63_7); have : A152 18 (x63_7) = A147 18 (x63_7) := hA154 18 rfl (x63_7); have : A147 18 (x63_7) = A 18 (x63_7) := hA149 18 rfl (x63_7); omega
            refine w_inv H (o := 3) rfl rfl rfl (H.perm 3 rfl) rfl rfl (by rfl) (M363 H (by show inr (v175); omega) (by show 0 ≤ (v175) ∧ (v175) ≤ 255; omega) (by have : (-2147483648 : Int) ≤ F_63 3 10 ∧ F_63 3 10 ≤ 2147483647 := H.frng 3 10; have : F_63 3 10 = F_63 3 10 := rfl; show 0 ≤ (F_63 3 10) ∧ (F_63 3 10) ≤ 100000000; omega) (fun σ F176 A177 H hS178 hA179 pz1800 => ⟨rfl, ?_⟩))
            have pz1800 : (F176 3 10) = (F_63 3 10) + 1 := by have : F_63 3 10 = F_63 3 10 := rfl; have : (F176 3 10) = (F_63 3 10) + 1 := pz1800; omega
            refine Ew_of (pc' := 83) (fun _ => x_iinc (len := 3) rfl (l63_7)) ?_
            refine Ew_of (pc' := 63) (fun _ => x_goto rfl rfl) ?_
            exact ih63 _ (by omega) _ σ _ _ ((x63_7 + 1)) (rk_o (l63_0) rfl rfl) (rk_o (l63_2) rfl rfl) (rk_o (l63_3) rfl rfl) (rk_o (l63_4) rfl rfl) (rk_o (l63_6) rfl rfl) (rk_s) H (SF_trans (hS_63) hS178 (any_sub rfl)) (SA_trans (hA_63) hA179 (any_subA rfl)) (by show inr ((x63_7 + 1)); omega) (by show (a1) ≤ ((x63_7 + 1)); omega) (by show ((x63_7 + 1)) ≤ (a1) ∨ ((x63_7 + 1)) ≤ ((a2)); omega) (by have : (-2147483648 : Int) ≤ F176 3 10 ∧ F176 3 10 ≤ 2147483647 := H.frng 3 10; have : F176 3 10 = F176 3 10 := rfl; show (F176 3 10) = (F151 3 10) + (((x63_7 + 1)) - a1); omega) rfl
    · refine Ew_of (pc' := 33) (fun _ => x_iconst rfl) ?_
      refine Ew_of (pc' := 50) (fun _ => x_goto rfl rfl) ?_
      refine w_iadd rfl ?_
      refine w_inv H (o := 3) rfl rfl rfl (H.perm 3 rfl) rfl rfl (by rfl) (M363 H (by show inr (((15 * 16) + 0)); omega) (by show 0 ≤ (((15 * 16) + 0)) ∧ (((15 * 16) + 0)) ≤ 255; omega) (by have : (-2147483648 : Int) ≤ F 3 10 ∧ F 3 10 ≤ 2147483647 := H.frng 3 10; have : F 3 10 = F 3 10 := rfl; show 0 ≤ (F 3 10) ∧ (F 3 10) ≤ 100000000; omega) (fun σ F181 A182 H hS183 hA184 pz1850 => ⟨rfl, ?_⟩))
      have pz1850 : (F181 3 10) = (F 3 10) + 1 := by have : (F181 3 10) = (F 3 10) + 1 := pz1850; omega
      refine Ew_of (pc' := 55) (fun _ => x_aload_n rfl (rk_o (rk_o (rfl) rfl rfl) rfl rfl)) ?_
      refine Ew_of (pc' := 57) (fun _ => x_iload rfl (rk_o (rk_s) rfl rfl)) ?_
      refine w_inv H (o := 3) rfl rfl rfl (H.perm 3 rfl) rfl rfl (by rfl) (M364 H (by show inr ((a2 - a1)); omega) (by show -10 ≤ ((a2 - a1)) ∧ ((a2 - a1)) ≤ 100000; omega) (by have : (-2147483648 : Int) ≤ F181 3 10 ∧ F181 3 10 ≤ 2147483647 := H.frng 3 10; have : F181 3 10 = F181 3 10 := rfl; show 0 ≤ (F181 3 10) ∧ (F181 3 10) ≤ 10000000; omega) (fun σ F186 A187 H hS188 hA189 pz1900 => ⟨rfl, ?_⟩))
      have pz1900 : (F186 3 10) * 255 ≤ (F181 3 10) * 255 + 255 + ((a2 - a1)) + 10 ∧ (F181 3 10) ≤ (F186 3 10) := by have : F181 3 10 = F181 3 10 := rfl; have : (F186 3 10) * 255 ≤ (F181 3 10) * 255 + 255 + ((a2 - a1)) + 10 ∧ (F181 3 10) ≤ (F186 3 10) := pz1900; omega
      refine Ew_of (pc' := 61) (fun _ => x_iload_n rfl (rk_o (rk_o (rfl) rfl rfl) rfl rfl)) ?_
      refine Ew_of (pc' := 63) (fun _ => x_istore rfl) ?_
      have r191 : (-2147483648 : Int) ≤ F186 3 10 ∧ F186 3 10 ≤ 2147483647 := by have h1 : (-2147483648 : Int) ≤ F186 3 10 ∧ F186 3 10 ≤ 2147483647 := H.frng 3 10; have h2 : F186 3 10 = F186 3 10 := rfl; omega
      suffices hl63 : ∀ (m : Nat) (ls : rO) (σ : rS) (F_63 : hF) (A_63 : hA) (x63_7 : Int), rlook ls 0 = some (.ref (D 3)) → rlook ls 2 = some (I a2) → rlook ls 3 = some (I a3) → rlook ls 4 = some (I a4) → rlook ls 6 = some (I (a3 - 4)) → rlook ls 7 = some (I x63_7) → HS σ0 σ D N F_63 A_63 → SF [(3, 10)] F186 F_63 → SA [20] A187 A_63 → (inr x63_7) → ((a1) ≤ x63_7) → (x63_7 ≤ (a1) ∨ x63_7 ≤ (a2)) → ((F_63 3 10) = (F186 3 10) + (x63_7 - a1)) → ((a2) - x63_7).toNat = m → Ew 365 (d + 2) 63 ls [] σ c s Q from
        hl63 _ _ _ _ _ (a1) (rk_o (rk_o (rk_o (rfl) rfl rfl) rfl rfl) rfl rfl) (rk_o (rk_o (rk_o (rfl) rfl rfl) rfl rfl) rfl rfl) (rk_o (rk_o (rk_o (rfl) rfl rfl) rfl rfl) rfl rfl) (rk_o (rk_o (rk_o (rfl) rfl rfl) rfl rfl) rfl rfl) (rk_o (rk_s) rfl rfl) (rk_s) H SF_refl SA_refl (by show inr (a1); omega) (by show (a1) ≤ (a1); omega) (by show (a1) ≤ (a1) ∨ (a1) ≤ ((a2)); omega) (by have : (-2147483648 : Int) ≤ F186 3 10 ∧ F186 3 10 ≤ 2147483647 := H.frng 3 10; have : F186 3 10 = F186 3 10 := rfl; show (F186 3 10) = (F186 3 10) + ((a1) - a1); omega) rfl
      intro m
      induction m using Nat.strongRecOn with
      | _ m ih63 =>
        intro ls σ F_63 A_63 x63_7 l63_0 l63_2 l63_3 l63_4 l63_6 l63_7 H hS_63 hA_63 j63_0 j63_1 j63_2 j63_3 hm63
        have r192 : (-2147483648 : Int) ≤ F_63 3 10 ∧ F_63 3 10 ≤ 2147483647 := by have h1 : (-2147483648 : Int) ≤ F_63 3 10 ∧ F_63 3 10 ≤ 2147483647 := H.frng 3 10; have h2 : F_63 3 10 = F_63 3 10 := rfl; omega
        refine Ew_of (pc' := 65) (fun _ => x_iload rfl l63_7) ?_
        refine Ew_of (pc' := 66) (fun _ => x_iload_n rfl l63_2) ?_
        refine w_icmpge (t := 86) rfl rfl (show inr (x63_7) by omega) (show inr (a2) by omega) (fun b193 => ?_) (fun b193 => ?_)
        · refine Ew_of (pc' := 87) (fun _ => x_iload_n rfl l63_3) ?_
          refine w_ifne (t := 91) rfl rfl (show inr (a3) by omega) (fun b194 => ?_) (fun b194 => ?_)
          · refine Ew_of (pc' := 92) (fun _ => x_aload_n rfl l63_0) ?_
            refine Ew_of (pc' := 94) (fun _ => x_iload rfl l63_4) ?_
            refine Ew_of (pc' := 97) (fun _ => x_sipush (z := 256) rfl (by decide)) ?_
            refine w_irem rfl (show inr (a4) ∧ 0 ≤ a4 by omega) (show inr (256) ∧ 0 < 256 by omega) ?_
            refine w_inv H (o := 3) rfl rfl rfl (H.perm 3 rfl) rfl rfl (by rfl) (M363 H (by show inr ((a4 % 256)); omega) (by show 0 ≤ ((a4 % 256)) ∧ ((a4 % 256)) ≤ 255; omega) (by have : (-2147483648 : Int) ≤ F_63 3 10 ∧ F_63 3 10 ≤ 2147483647 := H.frng 3 10; have : F_63 3 10 = F_63 3 10 := rfl; show 0 ≤ (F_63 3 10) ∧ (F_63 3 10) ≤ 100000000; omega) (fun σ F195 A196 H hS197 hA198 pz1990 => ⟨rfl, ?_⟩))
            have pz1990 : (F195 3 10) = (F_63 3 10) + 1 := by have : F_63 3 10 = F_63 3 10 := rfl; have : (F195 3 10) = (F_63 3 10) + 1 := pz1990; omega
            refine Ew_of (pc' := 102) (fun _ => x_aload_n rfl l63_0) ?_
            refine Ew_of (pc' := 104) (fun _ => x_iload rfl l63_4) ?_
            refine Ew_of (pc' := 107) (fun _ => x_sipush (z := 256) rfl (by decide)) ?_
            refine w_idiv rfl (show inr (a4) ∧ 0 ≤ a4 by omega) (show inr (256) ∧ 0 < 256 by omega) ?_
            refine w_inv H (o := 3) rfl rfl rfl (H.perm 3 rfl) rfl rfl (by rfl) (M363 H (by show inr ((a4 / 256)); omega) (by show 0 ≤ ((a4 / 256)) ∧ ((a4 / 256)) ≤ 255; omega) (by have : (-2147483648 : Int) ≤ F195 3 10 ∧ F195 3 10 ≤ 2147483647 := H.frng 3 10; have : F195 3 10 = F195 3 10 := rfl; show 0 ≤ (F195 3 10) ∧ (F195 3 10) ≤ 100000000; omega) (fun σ F200 A201 H hS202 hA203 pz2040 => ⟨rfl, ?_⟩))
            have pz2040 : (F200 3 10) = (F195 3 10) + 1 := by have : F195 3 10 = F195 3 10 := rfl; have : (F200 3 10) = (F195 3 10) + 1 := pz2040; omega
            refine Ew_of (pc' := 112) (fun _ => x_aload_n rfl l63_0) ?_
            refine Ew_of (pc' := 114) (fun _ => x_iload rfl l63_6) ?_
            refine w_inv H (o := 3) rfl rfl rfl (H.perm 3 rfl) rfl rfl (by rfl) (M364 H (by show inr ((a3 - 4)); omega) (by show -10 ≤ ((a3 - 4)) ∧ ((a3 - 4)) ≤ 100000; omega) (by have : (-2147483648 : Int) ≤ F200 3 10 ∧ F200 3 10 ≤ 2147483647 := H.frng 3 10; have : F200 3 10 = F200 3 10 := rfl; show 0 ≤ (F200 3 10) ∧ (F200 3 10) ≤ 10000000; omega) (fun σ F205 A206 H hS207 hA208 pz2090 => ⟨rfl, ?_⟩))
            have pz2090 : (F205 3 10) * 255 ≤ (F200 3 10) * 255 + 255 + ((a3 - 4)) + 10 ∧ (F200 3 10) ≤ (F205 3 10) := by have : F200 3 10 = F200 3 10 := rfl; have : (F205 3 10) * 255 ≤ (F200 3 10) * 255 + 255 + ((a3 - 4)) + 10 ∧ (F200 3 10) ≤ (F205 3 10) := pz2090; omega
            exact w_ret rfl (k σ _ _ H (SF_trans (SF_trans (SF_trans (SF_trans (SF_trans (SF_trans (SF_refl) hS183 (any_sub rfl)) hS188 (any_sub rfl)) hS_63 (any_sub rfl)) hS197 (any_sub rfl)) hS202 (any_sub rfl)) hS207 (any_sub rfl)) (SA_trans (SA_trans (SA_trans (SA_trans (SA_trans (SA_trans (SA_refl) hA184 (any_subA rfl)) hA189 (any_subA rfl)) hA_63 (any_subA rfl)) hA198 (any_subA rfl)) hA203 (any_subA rfl)) hA208 (any_subA rfl)) (by have : (-2147483648 : Int) ≤ F205 3 10 ∧ F205 3 10 ≤ 2147483647 := H.frng 3 10; have : F205 3 10 = F205 3 10 := rfl; show (F 3 10) ≤ (F205 3 10) ∧ (F205 3 10) ≤ (F 3 10) + (a2 - a1) + 140; omega))
          · exact w_ret rfl (k σ _ _ H (SF_trans (SF_trans (SF_trans (SF_refl) hS183 (any_sub rfl)) hS188 (any_sub rfl)) hS_63 (any_sub rfl)) (SA_trans (SA_trans (SA_trans (SA_refl) hA184 (any_subA rfl)) hA189 (any_subA rfl)) hA_63 (any_subA rfl)) (by have : (-2147483648 : Int) ≤ F_63 3 10 ∧ F_63 3 10 ≤ 2147483647 := H.frng 3 10; have : F_63 3 10 = F_63 3 10 := rfl; show (F 3 10) ≤ (F_63 3 10) ∧ (F_63 3 10) ≤ (F 3 10) + (a2 - a1) + 140; omega))
        · refine Ew_of (pc' := 70) (fun _ => x_aload_n rfl l63_0) ?_
          refine Ew_of (pc' := 71) (fun _ => x_aload_n rfl l63_0) ?_
          refine w_gT H (o := 3) (t := 18) rfl (H.perm 3 rfl) rfl rfl rfl rfl rfl rfl ?_
          refine Ew_of (pc' := 76) (fun _ => x_iload rfl l63_7) ?_
          refine w_lI H (o := 18) (n := 16384) rfl (H.perm 18 rfl) rfl rfl (H.fix 18 rfl rfl) (show 0 ≤ x63_7 ∧ x63_7 < ((16384 : Nat) : Int) by omega) (by decide) (fun v210 ev210 qv210 => ?_)
          have qv210 : (0 : Int) ≤ v210 ∧ v210 ≤ 255 := qv210
          have ev210 : A_63 18 (x63_7) = v210 := ev210
          have ev210 : A 18 (x63_7) = v210 := by have : A_63 18 (x63_7) = A187 18 (x63_7) := hA_63 18 rfl (x63_7); have : A187 18 (x63_7) = A182 18 (x63_7) := hA189 18 rfl (x63_7); have : A182 18 (x63_7) = A 18 (x63_7) := hA184 18 rfl (x63_7); omega
          refine w_inv H (o := 3) rfl rfl rfl (H.perm 3 rfl) rfl rfl (by rfl) (M363 H (by show inr (v210); omega) (by show 0 ≤ (v210) ∧ (v210) ≤ 255; omega) (by have : (-2147483648 : Int) ≤ F_63 3 10 ∧ F_63 3 10 ≤ 2147483647 := H.frng 3 10; have : F_63 3 10 = F_63 3 10 := rfl; show 0 ≤ (F_63 3 10) ∧ (F_63 3 10) ≤ 100000000; omega) (fun σ F211 A212 H hS213 hA214 pz2150 => ⟨rfl, ?_⟩))
          have pz2150 : (F211 3 10) = (F_63 3 10) + 1 := by have : F_63 3 10 = F_63 3 10 := rfl; have : (F211 3 10) = (F_63 3 10) + 1 := pz2150; omega
          refine Ew_of (pc' := 83) (fun _ => x_iinc (len := 3) rfl (l63_7)) ?_
          refine Ew_of (pc' := 63) (fun _ => x_goto rfl rfl) ?_
          exact ih63 _ (by omega) _ σ _ _ ((x63_7 + 1)) (rk_o (l63_0) rfl rfl) (rk_o (l63_2) rfl rfl) (rk_o (l63_3) rfl rfl) (rk_o (l63_4) rfl rfl) (rk_o (l63_6) rfl rfl) (rk_s) H (SF_trans (hS_63) hS213 (any_sub rfl)) (SA_trans (hA_63) hA214 (any_subA rfl)) (by show inr ((x63_7 + 1)); omega) (by show (a1) ≤ ((x63_7 + 1)); omega) (by show ((x63_7 + 1)) ≤ (a1) ∨ ((x63_7 + 1)) ≤ ((a2)); omega) (by have : (-2147483648 : Int) ≤ F211 3 10 ∧ F211 3 10 ≤ 2147483647 := H.frng 3 10; have : F211 3 10 = F211 3 10 := rfl; show (F211 3 10) = (F186 3 10) + (((x63_7 + 1)) - a1); omega) rfl
/-- Tokens.writeBlock -/
theorem M366 {σ0 σ : rS} {D N : Nat → Nat} {F : hF} {A : hA} {d c s : Nat} {Q : wQ} (H : HS σ0 σ D N F A) {a1 a2 : Int} (h0 : inr a1) (h1 : inr a2) (h2 : 0 ≤ F 3 5 ∧ F 3 5 ≤ 16384) (h3 : 0 ≤ a1 ∧ a1 ≤ F 3 5) (k : ∀ σ F' A', HS σ0 σ D N F' A' → SF [(3, 6), (3, 10)] F F' → SA [20] A A' → (0 ≤ (F' 3 10) ∧ (F' 3 10) ≤ 3000000) → Q none σ c s) : Ew 366 (d + 3) 0 (rargs 0 [.ref (D 3), I a1, I a2]) [] σ c s Q := by
  have rp3_5 : (-2147483648 : Int) ≤ F 3 5 ∧ F 3 5 ≤ 2147483647 := H.frng 3 5
  refine Ew_of (pc' := 1) (fun _ => x_aload_n rfl rfl) ?_
  refine Ew_of (pc' := 2) (fun _ => x_iconst rfl) ?_
  refine w_pI H (o := 3) rfl rfl (H.perm 3 rfl) rfl rfl rfl (fun _ => rfl) rfl (show (-2147483648 : Int) ≤ 0 ∧ 0 ≤ 2147483647 by omega) (fun σ H => ?_)
  refine Ew_of (pc' := 6) (fun _ => x_iload_n rfl rfl) ?_
  refine Ew_of (pc' := 7) (fun _ => x_istore_n rfl) ?_
  refine Ew_of (pc' := 8) (fun _ => x_iload_n rfl (rk_o (rfl) rfl rfl)) ?_
  refine Ew_of (pc' := 10) (fun _ => x_istore rfl) ?_
  have r1 : (-2147483648 : Int) ≤ F 3 5 ∧ F 3 5 ≤ 2147483647 := by have h1 : (-2147483648 : Int) ≤ (updF F 3 10 (0)) 3 5 ∧ (updF F 3 10 (0)) 3 5 ≤ 2147483647 := H.frng 3 5; have h2 : (updF F 3 10 (0)) 3 5 = F 3 5 := rfl; omega
  have r2 : (-2147483648 : Int) ≤ 0 ∧ 0 ≤ 2147483647 := by have h1 : (-2147483648 : Int) ≤ (updF F 3 10 (0)) 3 10 ∧ (updF F 3 10 (0)) 3 10 ≤ 2147483647 := H.frng 3 10; have h2 : (updF F 3 10 (0)) 3 10 = 0 := rfl; omega
  suffices hl10 : ∀ (m : Nat) (ls : rO) (σ : rS) (F_10 : hF) (A_10 : hA) (x10_3 : Int) (x10_4 : Int), rlook ls 0 = some (.ref (D 3)) → rlook ls 2 = some (I a2) → rlook ls 3 = some (I x10_3) → rlook ls 4 = some (I x10_4) → HS σ0 σ D N F_10 A_10 → SF [(3, 6), (3, 10)] (updF F 3 10 (0)) F_10 → SA [20] A A_10 → (inr x10_3) → (inr x10_4) → (a1 ≤ x10_3 ∧ x10_3 ≤ x10_4 ∧ x10_4 ≤ (F 3 5)) → (0 ≤ (F_10 3 10) ∧ (F_10 3 10) ≤ 141 * (x10_3 - a1)) → ((F 3 5) - x10_4).toNat = m → Ew 366 (d + 3) 10 ls [] σ c s Q from
    hl10 _ _ _ _ _ (a1) (a1) (rk_o (rk_o (rfl) rfl rfl) rfl rfl) (rk_o (rk_o (rfl) rfl rfl) rfl rfl) (rk_o (rk_s) rfl rfl) (rk_s) H SF_refl SA_refl (by show inr (a1); omega) (by show inr (a1); omega) (by show a1 ≤ (a1) ∧ (a1) ≤ (a1) ∧ (a1) ≤ (F 3 5); omega) (by have : (-2147483648 : Int) ≤ (updF F 3 10 (0)) 3 10 ∧ (updF F 3 10 (0)) 3 10 ≤ 2147483647 := H.frng 3 10; have : (updF F 3 10 (0)) 3 10 = 0 := rfl; show 0 ≤ ((updF F 3 10 (0)) 3 10) ∧ ((updF F 3 10 (0)) 3 10) ≤ 141 * ((a1) - a1); omega) rfl
  intro m
  induction m using Nat.strongRecOn with
  | _ m ih10 =>
    intro ls σ F_10 A_10 x10_3 x10_4 l10_0 l10_2 l10_3 l10_4 H hS_10 hA_10 j10_0 j10_1 j10_2 j10_3 hm10
    have r3 : (-2147483648 : Int) ≤ F 3 5 ∧ F 3 5 ≤ 2147483647 := by have h1 : (-2147483648 : Int) ≤ F_10 3 5 ∧ F_10 3 5 ≤ 2147483647 := H.frng 3 5; have h2 : F_10 3 5 = F 3 5 := (hS_10 3 5 rfl); omega
    have r4 : (-2147483648 : Int) ≤ F_10 3 10 ∧ F_10 3 10 ≤ 2147483647 := by have h1 : (-2147483648 : Int) ≤ F_10 3 10 ∧ F_10 3 10 ≤ 2147483647 := H.frng 3 10; have h2 : F_10 3 10 = F_10 3 10 := rfl; omega
    refine Ew_of (pc' := 12) (fun _ => x_iload rfl l10_4) ?_
    refine Ew_of (pc' := 13) (fun _ => x_aload_n rfl l10_0) ?_
    refine w_gI H (o := 3) (w := F 3 5) rfl (H.perm 3 rfl) rfl rfl rfl (fun _ => rfl) (hS_10 3 5 rfl) ?_
    have r5 : (-2147483648 : Int) ≤ F 3 5 ∧ F 3 5 ≤ 2147483647 := by have h1 : (-2147483648 : Int) ≤ F_10 3 5 ∧ F_10 3 5 ≤ 2147483647 := H.frng 3 5; have h2 : F_10 3 5 = F 3 5 := (hS_10 3 5 rfl); omega
    refine w_icmpge (t := 68) rfl rfl (show inr (x10_4) by omega) (show inr (F 3 5) by omega) (fun b6 => ?_) (fun b6 => ?_)
    · refine Ew_of (pc' := 69) (fun _ => x_aload_n rfl l10_0) ?_
      refine Ew_of (pc' := 70) (fun _ => x_iload_n rfl l10_3) ?_
      refine Ew_of (pc' := 71) (fun _ => x_aload_n rfl l10_0) ?_
      refine w_gI H (o := 3) (w := F 3 5) rfl (H.perm 3 rfl) rfl rfl rfl (fun _ => rfl) (hS_10 3 5 rfl) ?_
      have r7 : (-2147483648 : Int) ≤ F 3 5 ∧ F 3 5 ≤ 2147483647 := by have h1 : (-2147483648 : Int) ≤ F_10 3 5 ∧ F_10 3 5 ≤ 2147483647 := H.frng 3 5; have h2 : F_10 3 5 = F 3 5 := (hS_10 3 5 rfl); omega
      refine Ew_of (pc' := 75) (fun _ => x_iconst rfl) ?_
      refine Ew_of (pc' := 76) (fun _ => x_iconst rfl) ?_
      refine w_inv H (o := 3) rfl rfl rfl (H.perm 3 rfl) rfl rfl (by rfl) (M365 H (by show inr (x10_3); omega) (by show inr (F 3 5); omega) (by show inr (0); omega) (by show inr (0); omega) (by show 0 ≤ (x10_3) ∧ (x10_3) ≤ (F 3 5) ∧ (F 3 5) ≤ 16384; omega) (by show (0) = 0 ∨ 4 ≤ (0); omega) (by show (0) ≤ 16384 ∧ 0 ≤ (0) ∧ (0) ≤ 16384; omega) (by have : (-2147483648 : Int) ≤ F_10 3 10 ∧ F_10 3 10 ≤ 2147483647 := H.frng 3 10; have : F_10 3 10 = F_10 3 10 := rfl; show 0 ≤ (F_10 3 10) ∧ (F_10 3 10) ≤ 5000000; omega) (fun σ F8 A9 H hS10 hA11 pz120 => ⟨rfl, ?_⟩))
      have pz120 : (F_10 3 10) ≤ (F8 3 10) ∧ (F8 3 10) ≤ (F_10 3 10) + ((F 3 5) - (x10_3)) + 140 := by have : F_10 3 10 = F_10 3 10 := rfl; have : (F_10 3 10) ≤ (F8 3 10) ∧ (F8 3 10) ≤ (F_10 3 10) + ((F 3 5) - (x10_3)) + 140 := pz120; omega
      exact w_ret rfl (k σ _ _ H (SF_trans (SF_trans (SF_upd (SF_refl) rfl) hS_10 (any_sub rfl)) hS10 (any_sub rfl)) (SA_trans (SA_trans (SA_refl) hA_10 (any_subA rfl)) hA11 (any_subA rfl)) (by have : (-2147483648 : Int) ≤ F8 3 10 ∧ F8 3 10 ≤ 2147483647 := H.frng 3 10; have : F8 3 10 = F8 3 10 := rfl; show 0 ≤ (F8 3 10) ∧ (F8 3 10) ≤ 3000000; omega))
    · refine Ew_of (pc' := 20) (fun _ => x_aload_n rfl l10_0) ?_
      refine Ew_of (pc' := 22) (fun _ => x_iload rfl l10_4) ?_
      refine Ew_of (pc' := 23) (fun _ => x_iload_n rfl l10_2) ?_
      refine w_inv H (o := 3) rfl rfl rfl (H.perm 3 rfl) rfl rfl (by rfl) (M362 H (by show inr (x10_4); omega) (by show inr (a2); omega) (by have : (-2147483648 : Int) ≤ F_10 3 5 ∧ F_10 3 5 ≤ 2147483647 := H.frng 3 5; have : F_10 3 5 = F 3 5 := (hS_10 3 5 rfl); show 0 ≤ (F_10 3 5) ∧ (F_10 3 5) ≤ 16384; omega) (by show 0 ≤ (x10_4) ∧ (x10_4) < 16384; omega) (fun z17 σ F13 A14 H hS15 hA16 pz170 pz171 pz172 pz173 => ⟨rfl, ?_⟩))
      have pz172 : z17 = 0 ∨ 4 ≤ z17 ∧ z17 ≤ (F 3 5) - 5 - (x10_4) := by have : F_10 3 5 = F 3 5 := (hS_10 3 5 rfl); have : z17 = 0 ∨ 4 ≤ z17 ∧ z17 ≤ (F_10 3 5) - 5 - (x10_4) := pz172; omega
      have pz173 : z17 = 0 ∨ (F13 3 6) < (x10_4) := by have : z17 = 0 ∨ (F13 3 6) < (x10_4) := pz173; omega
      refine Ew_of (pc' := 28) (fun _ => x_istore rfl) ?_
      refine Ew_of (pc' := 30) (fun _ => x_iload rfl rk_s) ?_
      refine w_ifne (t := 39) rfl rfl (show inr (z17) by omega) (fun b18 => ?_) (fun b18 => ?_)
      · refine Ew_of (pc' := 40) (fun _ => x_aload_n rfl (rk_o (l10_0) rfl rfl)) ?_
        refine Ew_of (pc' := 41) (fun _ => x_iload_n rfl (rk_o (l10_3) rfl rfl)) ?_
        refine Ew_of (pc' := 43) (fun _ => x_iload rfl (rk_o (l10_4) rfl rfl)) ?_
        refine Ew_of (pc' := 45) (fun _ => x_iload rfl rk_s) ?_
        refine Ew_of (pc' := 47) (fun _ => x_iload rfl (rk_o (l10_4) rfl rfl)) ?_
        refine Ew_of (pc' := 48) (fun _ => x_aload_n rfl (rk_o (l10_0) rfl rfl)) ?_
        refine w_gI H (o := 3) (w := F13 3 6) rfl (H.perm 3 rfl) rfl rfl rfl (fun _ => rfl) rfl ?_
        have r19 : (0 : Int) ≤ F13 3 6 ∧ F13 3 6 ≤ 16384 := by have h1 : (0 : Int) ≤ F13 3 6 ∧ F13 3 6 ≤ 16384 := H.frng 3 6; have h2 : F13 3 6 = F13 3 6 := rfl; omega
        refine w_isub rfl ?_
        refine w_inv H (o := 3) rfl rfl rfl (H.perm 3 rfl) rfl rfl (by rfl) (M365 H (by show inr (x10_3); omega) (by show inr (x10_4); omega) (by show inr (z17); omega) (by show inr ((x10_4 - F13 3 6)); omega) (by show 0 ≤ (x10_3) ∧ (x10_3) ≤ (x10_4) ∧ (x10_4) ≤ 16384; omega) (by show (z17) = 0 ∨ 4 ≤ (z17); omega) (by show (z17) ≤ 16384 ∧ 0 ≤ ((x10_4 - F13 3 6)) ∧ ((x10_4 - F13 3 6)) ≤ 16384; omega) (by have : (-2147483648 : Int) ≤ F13 3 10 ∧ F13 3 10 ≤ 2147483647 := H.frng 3 10; have : F13 3 10 = F_10 3 10 := (hS15 3 10 rfl); show 0 ≤ (F13 3 10) ∧ (F13 3 10) ≤ 5000000; omega) (fun σ F20 A21 H hS22 hA23 pz240 => ⟨rfl, ?_⟩))
        have pz240 : (F_10 3 10) ≤ (F20 3 10) ∧ (F20 3 10) ≤ (F_10 3 10) + ((x10_4) - (x10_3)) + 140 := by have : F13 3 10 = F_10 3 10 := (hS15 3 10 rfl); have : (F13 3 10) ≤ (F20 3 10) ∧ (F20 3 10) ≤ (F13 3 10) + ((x10_4) - (x10_3)) + 140 := pz240; omega
        refine Ew_of (pc' := 57) (fun _ => x_iload rfl (rk_o (l10_4) rfl rfl)) ?_
        refine Ew_of (pc' := 59) (fun _ => x_iload rfl rk_s) ?_
        refine w_iadd rfl ?_
        refine Ew_of (pc' := 62) (fun _ => x_istore rfl) ?_
        refine Ew_of (pc' := 64) (fun _ => x_iload rfl rk_s) ?_
        refine Ew_of (pc' := 65) (fun _ => x_istore_n rfl) ?_
        refine Ew_of (pc' := 10) (fun _ => x_goto rfl rfl) ?_
        exact ih10 _ (by omega) _ σ _ _ ((x10_4 + z17)) ((x10_4 + z17)) (rk_o (rk_o (rk_o (l10_0) rfl rfl) rfl rfl) rfl rfl) (rk_o (rk_o (rk_o (l10_2) rfl rfl) rfl rfl) rfl rfl) (rk_s) (rk_o (rk_s) rfl rfl) H (SF_trans (SF_trans (hS_10) hS15 (any_sub rfl)) hS22 (any_sub rfl)) (SA_trans (SA_trans (hA_10) hA16 (any_subA rfl)) hA23 (any_subA rfl)) (by show inr ((x10_4 + z17)); omega) (by show inr ((x10_4 + z17)); omega) (by show a1 ≤ ((x10_4 + z17)) ∧ ((x10_4 + z17)) ≤ ((x10_4 + z17)) ∧ ((x10_4 + z17)) ≤ (F 3 5); omega) (by have : (-2147483648 : Int) ≤ F20 3 10 ∧ F20 3 10 ≤ 2147483647 := H.frng 3 10; have : F20 3 10 = F20 3 10 := rfl; show 0 ≤ (F20 3 10) ∧ (F20 3 10) ≤ 141 * (((x10_4 + z17)) - a1); omega) rfl
      · refine Ew_of (pc' := 36) (fun _ => x_iinc (len := 3) rfl (rk_o (l10_4) rfl rfl)) ?_
        refine Ew_of (pc' := 10) (fun _ => x_goto rfl rfl) ?_
        exact ih10 _ (by omega) _ σ _ _ (x10_3) ((x10_4 + 1)) (rk_o (rk_o (l10_0) rfl rfl) rfl rfl) (rk_o (rk_o (l10_2) rfl rfl) rfl rfl) (rk_o (rk_o (l10_3) rfl rfl) rfl rfl) (rk_s) H (SF_trans (hS_10) hS15 (any_sub rfl)) (SA_trans (hA_10) hA16 (any_subA rfl)) (by show inr (x10_3); omega) (by show inr ((x10_4 + 1)); omega) (by show a1 ≤ (x10_3) ∧ (x10_3) ≤ ((x10_4 + 1)) ∧ ((x10_4 + 1)) ≤ (F 3 5); omega) (by have : (-2147483648 : Int) ≤ F13 3 10 ∧ F13 3 10 ≤ 2147483647 := H.frng 3 10; have : F13 3 10 = F_10 3 10 := (hS15 3 10 rfl); show 0 ≤ (F13 3 10) ∧ (F13 3 10) ≤ 141 * ((x10_3) - a1); omega) rfl
/-- Tokens.show -/
theorem M369_19 {σ0 σ : rS} {D N : Nat → Nat} {F : hF} {A : hA} {d c s : Nat} {Q : wQ} (H : HS σ0 σ D N F A) {a2 : Int} (h0 : inr a2) (h1 : 0 ≤ a2 ∧ a2 ≤ 100000000) (k : ∀ (z : Int) σ F' A', HS σ0 σ D N F' A' → SF [(1, 3)] F F' → SA [15] A A' → (inr z) → (z = -1 ∨ z = a2) → Q (some (I z)) σ c s) : Ew 369 (d + 0) 0 (rargs 0 [.ref (D 3), .ref (D 19), I a2]) [] σ c s Q := by
  refine Ew_of (pc' := 1) (fun _ => x_iload_n rfl rfl) ?_
  refine Ew_of (pc' := 3) (fun _ => x_ldc (z := 65536) rfl (by decide)) ?_
  refine w_icmple (t := 8) rfl rfl (show inr (a2) by omega) (show inr (65536) by omega) (fun b1 => ?_) (fun b1 => ?_)
  · refine Ew_of (pc' := 9) (fun _ => x_iconst rfl) ?_
    refine Ew_of (pc' := 10) (fun _ => x_istore_n rfl) ?_
    suffices hl10 : ∀ (m : Nat) (ls : rO) (σ : rS) (F_10 : hF) (A_10 : hA) (x10_3 : Int), rlook ls 0 = some (.ref (D 3)) → rlook ls 1 = some (.ref (D 19)) → rlook ls 2 = some (I a2) → rlook ls 3 = some (I x10_3) → HS σ0 σ D N F_10 A_10 → SF [] F F_10 → SA [15] A A_10 → (inr x10_3) → ((0) ≤ x10_3) → (x10_3 ≤ (0) ∨ x10_3 ≤ (a2)) → ((a2) - x10_3).toNat = m → Ew 369 (d + 0) 10 ls [] σ c s Q from
      hl10 _ _ _ _ _ (0) (rk_o (rfl) rfl rfl) (rk_o (rfl) rfl rfl) (rk_o (rfl) rfl rfl) (rk_s) H SF_refl SA_refl (by show inr (0); omega) (by show (0) ≤ (0); omega) (by show (0) ≤ (0) ∨ (0) ≤ ((a2)); omega) rfl
    intro m
    induction m using Nat.strongRecOn with
    | _ m ih10 =>
      intro ls σ F_10 A_10 x10_3 l10_0 l10_1 l10_2 l10_3 H hS_10 hA_10 j10_0 j10_1 j10_2 hm10
      refine Ew_of (pc' := 11) (fun _ => x_iload_n rfl l10_3) ?_
      refine Ew_of (pc' := 12) (fun _ => x_iload_n rfl l10_2) ?_
      refine w_icmpge (t := 33) rfl rfl (show inr (x10_3) by omega) (show inr (a2) by omega) (fun b2 => ?_) (fun b2 => ?_)
      · refine Ew_of (pc' := 34) (fun _ => x_aload_n rfl l10_0) ?_
        refine w_gT H (o := 3) (t := 1) rfl (H.perm 3 rfl) rfl rfl rfl rfl rfl rfl ?_
        refine Ew_of (pc' := 38) (fun _ => x_iload_n rfl l10_2) ?_
        refine w_pI H (o := 1) rfl rfl (H.perm 1 rfl) rfl rfl rfl (fun _ => rfl) rfl (show (0 : Int) ≤ a2 ∧ a2 ≤ 65536 by omega) (fun σ H => ?_)
        refine Ew_of (pc' := 42) (fun _ => x_iload_n rfl l10_2) ?_
        exact w_ireturn rfl (k (a2) σ _ _ H (SF_upd (SF_trans (SF_refl) hS_10 (any_sub rfl)) rfl) (SA_trans (SA_refl) hA_10 (any_subA rfl)) (by show inr (a2); omega) (by show (a2) = -1 ∨ (a2) = a2; omega))
      · refine Ew_of (pc' := 16) (fun _ => x_aload_n rfl l10_0) ?_
        refine w_gT H (o := 3) (t := 1) rfl (H.perm 3 rfl) rfl rfl rfl rfl rfl rfl ?_
        refine w_gT H (o := 1) (t := 15) rfl (H.perm 1 rfl) rfl rfl rfl rfl rfl rfl ?_
        refine Ew_of (pc' := 23) (fun _ => x_iload_n rfl l10_3) ?_
        refine Ew_of (pc' := 24) (fun _ => x_aload_n rfl l10_1) ?_
        refine Ew_of (pc' := 25) (fun _ => x_iload_n rfl l10_3) ?_
        refine w_lI H (o := 19) (n := 70000) rfl (H.perm 19 rfl) rfl rfl (H.fix 19 rfl rfl) (show 0 ≤ x10_3 ∧ x10_3 < ((70000 : Nat) : Int) by omega) (by decide) (fun v3 ev3 qv3 => ?_)
        have qv3 : (0 : Int) ≤ v3 ∧ v3 ≤ 255 := qv3
        have ev3 : A_10 19 (x10_3) = v3 := ev3
        have ev3 : A 19 (x10_3) = v3 := by have : A_10 19 (x10_3) = A 19 (x10_3) := hA_10 19 rfl (x10_3); omega
        refine w_sI H (o := 15) (n := 65536) rfl (H.perm 15 rfl) rfl rfl (H.fix 15 rfl rfl) (show 0 ≤ x10_3 ∧ x10_3 < ((65536 : Nat) : Int) by omega) (by decide) (show (0 : Int) ≤ v3 ∧ v3 ≤ 255 by omega) (fun σ H => ?_)
        refine Ew_of (pc' := 30) (fun _ => x_iinc (len := 3) rfl (l10_3)) ?_
        refine Ew_of (pc' := 10) (fun _ => x_goto rfl rfl) ?_
        exact ih10 _ (by omega) _ σ _ _ ((x10_3 + 1)) (rk_o (l10_0) rfl rfl) (rk_o (l10_1) rfl rfl) (rk_o (l10_2) rfl rfl) (rk_s) H (hS_10) (SA_upd (hA_10) rfl) (by show inr ((x10_3 + 1)); omega) (by show (0) ≤ ((x10_3 + 1)); omega) (by show ((x10_3 + 1)) ≤ (0) ∨ ((x10_3 + 1)) ≤ ((a2)); omega) rfl
  · refine Ew_of (pc' := 7) (fun _ => x_iconst rfl) ?_
    exact w_ireturn rfl (k ((-1)) σ _ _ H (SF_refl) (SA_refl) (by show inr ((-1)); omega) (by show ((-1)) = -1 ∨ ((-1)) = a2; omega))
/-- Tokens.show -/
theorem M369_20 {σ0 σ : rS} {D N : Nat → Nat} {F : hF} {A : hA} {d c s : Nat} {Q : wQ} (H : HS σ0 σ D N F A) {a2 : Int} (h0 : inr a2) (h1 : 0 ≤ a2 ∧ a2 ≤ 100000000) (k : ∀ (z : Int) σ F' A', HS σ0 σ D N F' A' → SF [(1, 3)] F F' → SA [15] A A' → (inr z) → (z = -1 ∨ z = a2) → Q (some (I z)) σ c s) : Ew 369 (d + 0) 0 (rargs 0 [.ref (D 3), .ref (D 20), I a2]) [] σ c s Q := by
  refine Ew_of (pc' := 1) (fun _ => x_iload_n rfl rfl) ?_
  refine Ew_of (pc' := 3) (fun _ => x_ldc (z := 65536) rfl (by decide)) ?_
  refine w_icmple (t := 8) rfl rfl (show inr (a2) by omega) (show inr (65536) by omega) (fun b1 => ?_) (fun b1 => ?_)
  · refine Ew_of (pc' := 9) (fun _ => x_iconst rfl) ?_
    refine Ew_of (pc' := 10) (fun _ => x_istore_n rfl) ?_
    suffices hl10 : ∀ (m : Nat) (ls : rO) (σ : rS) (F_10 : hF) (A_10 : hA) (x10_3 : Int), rlook ls 0 = some (.ref (D 3)) → rlook ls 1 = some (.ref (D 20)) → rlook ls 2 = some (I a2) → rlook ls 3 = some (I x10_3) → HS σ0 σ D N F_10 A_10 → SF [] F F_10 → SA [15] A A_10 → (inr x10_3) → ((0) ≤ x10_3) → (x10_3 ≤ (0) ∨ x10_3 ≤ (a2)) → ((a2) - x10_3).toNat = m → Ew 369 (d + 0) 10 ls [] σ c s Q from
      hl10 _ _ _ _ _ (0) (rk_o (rfl) rfl rfl) (rk_o (rfl) rfl rfl) (rk_o (rfl) rfl rfl) (rk_s) H SF_refl SA_refl (by show inr (0); omega) (by show (0) ≤ (0); omega) (by show (0) ≤ (0) ∨ (0) ≤ ((a2)); omega) rfl
    intro m
    induction m using Nat.strongRecOn with
    | _ m ih10 =>
      intro ls σ F_10 A_10 x10_3 l10_0 l10_1 l10_2 l10_3 H hS_10 hA_10 j10_0 j10_1 j10_2 hm10
      refine Ew_of (pc' := 11) (fun _ => x_iload_n rfl l10_3) ?_
      refine Ew_of (pc' := 12) (fun _ => x_iload_n rfl l10_2) ?_
      refine w_icmpge (t := 33) rfl rfl (show inr (x10_3) by omega) (show inr (a2) by omega) (fun b2 => ?_) (fun b2 => ?_)
      · refine Ew_of (pc' := 34) (fun _ => x_aload_n rfl l10_0) ?_
        refine w_gT H (o := 3) (t := 1) rfl (H.perm 3 rfl) rfl rfl rfl rfl rfl rfl ?_
        refine Ew_of (pc' := 38) (fun _ => x_iload_n rfl l10_2) ?_
        refine w_pI H (o := 1) rfl rfl (H.perm 1 rfl) rfl rfl rfl (fun _ => rfl) rfl (show (0 : Int) ≤ a2 ∧ a2 ≤ 65536 by omega) (fun σ H => ?_)
        refine Ew_of (pc' := 42) (fun _ => x_iload_n rfl l10_2) ?_
        exact w_ireturn rfl (k (a2) σ _ _ H (SF_upd (SF_trans (SF_refl) hS_10 (any_sub rfl)) rfl) (SA_trans (SA_refl) hA_10 (any_subA rfl)) (by show inr (a2); omega) (by show (a2) = -1 ∨ (a2) = a2; omega))
      · refine Ew_of (pc' := 16) (fun _ => x_aload_n rfl l10_0) ?_
        refine w_gT H (o := 3) (t := 1) rfl (H.perm 3 rfl) rfl rfl rfl rfl rfl rfl ?_
        refine w_gT H (o := 1) (t := 15) rfl (H.perm 1 rfl) rfl rfl rfl rfl rfl rfl ?_
        refine Ew_of (pc' := 23) (fun _ => x_iload_n rfl l10_3) ?_
        refine Ew_of (pc' := 24) (fun _ => x_aload_n rfl l10_1) ?_
        refine Ew_of (pc' := 25) (fun _ => x_iload_n rfl l10_3) ?_
        refine w_lI H (o := 20) (n := 70000) rfl (H.perm 20 rfl) rfl rfl (H.fix 20 rfl rfl) (show 0 ≤ x10_3 ∧ x10_3 < ((70000 : Nat) : Int) by omega) (by decide) (fun v3 ev3 qv3 => ?_)
        have qv3 : (0 : Int) ≤ v3 ∧ v3 ≤ 255 := qv3
        have ev3 : A_10 20 (x10_3) = v3 := ev3
        have ev3 : A 20 (x10_3) = v3 := by have : A_10 20 (x10_3) = A 20 (x10_3) := hA_10 20 rfl (x10_3); omega
        refine w_sI H (o := 15) (n := 65536) rfl (H.perm 15 rfl) rfl rfl (H.fix 15 rfl rfl) (show 0 ≤ x10_3 ∧ x10_3 < ((65536 : Nat) : Int) by omega) (by decide) (show (0 : Int) ≤ v3 ∧ v3 ≤ 255 by omega) (fun σ H => ?_)
        refine Ew_of (pc' := 30) (fun _ => x_iinc (len := 3) rfl (l10_3)) ?_
        refine Ew_of (pc' := 10) (fun _ => x_goto rfl rfl) ?_
        exact ih10 _ (by omega) _ σ _ _ ((x10_3 + 1)) (rk_o (l10_0) rfl rfl) (rk_o (l10_1) rfl rfl) (rk_o (l10_2) rfl rfl) (rk_s) H (hS_10) (SA_upd (hA_10) rfl) (by show inr ((x10_3 + 1)); omega) (by show (0) ≤ ((x10_3 + 1)); omega) (by show ((x10_3 + 1)) ≤ (0) ∨ ((x10_3 + 1)) ≤ ((a2)); omega) rfl
  · refine Ew_of (pc' := 7) (fun _ => x_iconst rfl) ?_
    exact w_ireturn rfl (k ((-1)) σ _ _ H (SF_refl) (SA_refl) (by show inr ((-1)); omega) (by show ((-1)) = -1 ∨ ((-1)) = a2; omega))
/-- Tokens.show -/
theorem M369_22 {σ0 σ : rS} {D N : Nat → Nat} {F : hF} {A : hA} {d c s : Nat} {Q : wQ} (H : HS σ0 σ D N F A) {a2 : Int} (h0 : inr a2) (h1 : 0 ≤ a2 ∧ a2 ≤ 100000000) (k : ∀ (z : Int) σ F' A', HS σ0 σ D N F' A' → SF [(1, 3)] F F' → SA [15] A A' → (inr z) → (z = -1 ∨ z = a2) → Q (some (I z)) σ c s) : Ew 369 (d + 0) 0 (rargs 0 [.ref (D 3), .ref (D 22), I a2]) [] σ c s Q := by
  refine Ew_of (pc' := 1) (fun _ => x_iload_n rfl rfl) ?_
  refine Ew_of (pc' := 3) (fun _ => x_ldc (z := 65536) rfl (by decide)) ?_
  refine w_icmple (t := 8) rfl rfl (show inr (a2) by omega) (show inr (65536) by omega) (fun b1 => ?_) (fun b1 => ?_)
  · refine Ew_of (pc' := 9) (fun _ => x_iconst rfl) ?_
    refine Ew_of (pc' := 10) (fun _ => x_istore_n rfl) ?_
    suffices hl10 : ∀ (m : Nat) (ls : rO) (σ : rS) (F_10 : hF) (A_10 : hA) (x10_3 : Int), rlook ls 0 = some (.ref (D 3)) → rlook ls 1 = some (.ref (D 22)) → rlook ls 2 = some (I a2) → rlook ls 3 = some (I x10_3) → HS σ0 σ D N F_10 A_10 → SF [] F F_10 → SA [15] A A_10 → (inr x10_3) → ((0) ≤ x10_3) → (x10_3 ≤ (0) ∨ x10_3 ≤ (a2)) → ((a2) - x10_3).toNat = m → Ew 369 (d + 0) 10 ls [] σ c s Q from
      hl10 _ _ _ _ _ (0) (rk_o (rfl) rfl rfl) (rk_o (rfl) rfl rfl) (rk_o (rfl) rfl rfl) (rk_s) H SF_refl SA_refl (by show inr (0); omega) (by show (0) ≤ (0); omega) (by show (0) ≤ (0) ∨ (0) ≤ ((a2)); omega) rfl
    intro m
    induction m using Nat.strongRecOn with
    | _ m ih10 =>
      intro ls σ F_10 A_10 x10_3 l10_0 l10_1 l10_2 l10_3 H hS_10 hA_10 j10_0 j10_1 j10_2 hm10
      refine Ew_of (pc' := 11) (fun _ => x_iload_n rfl l10_3) ?_
      refine Ew_of (pc' := 12) (fun _ => x_iload_n rfl l10_2) ?_
      refine w_icmpge (t := 33) rfl rfl (show inr (x10_3) by omega) (show inr (a2) by omega) (fun b2 => ?_) (fun b2 => ?_)
      · refine Ew_of (pc' := 34) (fun _ => x_aload_n rfl l10_0) ?_
        refine w_gT H (o := 3) (t := 1) rfl (H.perm 3 rfl) rfl rfl rfl rfl rfl rfl ?_
        refine Ew_of (pc' := 38) (fun _ => x_iload_n rfl l10_2) ?_
        refine w_pI H (o := 1) rfl rfl (H.perm 1 rfl) rfl rfl rfl (fun _ => rfl) rfl (show (0 : Int) ≤ a2 ∧ a2 ≤ 65536 by omega) (fun σ H => ?_)
        refine Ew_of (pc' := 42) (fun _ => x_iload_n rfl l10_2) ?_
        exact w_ireturn rfl (k (a2) σ _ _ H (SF_upd (SF_trans (SF_refl) hS_10 (any_sub rfl)) rfl) (SA_trans (SA_refl) hA_10 (any_subA rfl)) (by show inr (a2); omega) (by show (a2) = -1 ∨ (a2) = a2; omega))
      · refine Ew_of (pc' := 16) (fun _ => x_aload_n rfl l10_0) ?_
        refine w_gT H (o := 3) (t := 1) rfl (H.perm 3 rfl) rfl rfl rfl rfl rfl rfl ?_
        refine w_gT H (o := 1) (t := 15) rfl (H.perm 1 rfl) rfl rfl rfl rfl rfl rfl ?_
        refine Ew_of (pc' := 23) (fun _ => x_iload_n rfl l10_3) ?_
        refine Ew_of (pc' := 24) (fun _ => x_aload_n rfl l10_1) ?_
        refine Ew_of (pc' := 25) (fun _ => x_iload_n rfl l10_3) ?_
        refine w_lI H (o := 22) (n := 65536) rfl (H.perm 22 rfl) rfl rfl (H.fix 22 rfl rfl) (show 0 ≤ x10_3 ∧ x10_3 < ((65536 : Nat) : Int) by omega) (by decide) (fun v3 ev3 qv3 => ?_)
        have qv3 : (0 : Int) ≤ v3 ∧ v3 ≤ 255 := qv3
        have ev3 : A_10 22 (x10_3) = v3 := ev3
        have ev3 : A 22 (x10_3) = v3 := by have : A_10 22 (x10_3) = A 22 (x10_3) := hA_10 22 rfl (x10_3); omega
        refine w_sI H (o := 15) (n := 65536) rfl (H.perm 15 rfl) rfl rfl (H.fix 15 rfl rfl) (show 0 ≤ x10_3 ∧ x10_3 < ((65536 : Nat) : Int) by omega) (by decide) (show (0 : Int) ≤ v3 ∧ v3 ≤ 255 by omega) (fun σ H => ?_)
        refine Ew_of (pc' := 30) (fun _ => x_iinc (len := 3) rfl (l10_3)) ?_
        refine Ew_of (pc' := 10) (fun _ => x_goto rfl rfl) ?_
        exact ih10 _ (by omega) _ σ _ _ ((x10_3 + 1)) (rk_o (l10_0) rfl rfl) (rk_o (l10_1) rfl rfl) (rk_o (l10_2) rfl rfl) (rk_s) H (hS_10) (SA_upd (hA_10) rfl) (by show inr ((x10_3 + 1)); omega) (by show (0) ≤ ((x10_3 + 1)); omega) (by show ((x10_3 + 1)) ≤ (0) ∨ ((x10_3 + 1)) ≤ ((a2)); omega) rfl
  · refine Ew_of (pc' := 7) (fun _ => x_iconst rfl) ?_
    exact w_ireturn rfl (k ((-1)) σ _ _ H (SF_refl) (SA_refl) (by show inr ((-1)); omega) (by show ((-1)) = -1 ∨ ((-1)) = a2; omega))
/-- Tokens.block -/
theorem M370 {σ0 σ : rS} {D N : Nat → Nat} {F : hF} {A : hA} {d c s : Nat} {Q : wQ} (H : HS σ0 σ D N F A) {a1 : Int} (h0 : inr a1) (h1 : F 3 2 + F 1 1 ≤ 16384) (k : ∀ (z : Int) σ F' A', HS σ0 σ D N F' A' → SF [(1, 3), (3, 5), (3, 6), (3, 10)] F F' → SA [15, 18, 20] A A' → (inr z) → Q (some (I z)) σ c s) : Ew 370 (d + 4) 0 (rargs 0 [.ref (D 3), I a1]) [] σ c s Q := by
  have rp1_1 : (0 : Int) ≤ F 1 1 ∧ F 1 1 ≤ 65536 := H.frng 1 1
  have rp3_2 : (0 : Int) ≤ F 3 2 ∧ F 3 2 ≤ 65536 := H.frng 3 2
  refine Ew_of (pc' := 1) (fun _ => x_iload_n rfl rfl) ?_
  refine w_iflt (t := 9) rfl rfl (show inr (a1) by omega) (fun b1 => ?_) (fun b1 => ?_)
  · refine Ew_of (pc' := 10) (fun _ => x_iconst rfl) ?_
    exact w_ireturn rfl (k ((-1)) σ _ _ H (SF_refl) (SA_refl) (by show inr ((-1)); omega))
  · refine Ew_of (pc' := 5) (fun _ => x_iload_n rfl rfl) ?_
    refine Ew_of (pc' := 6) (fun _ => x_iconst rfl) ?_
    refine w_icmple (t := 11) rfl rfl (show inr (a1) by omega) (show inr (3) by omega) (fun b2 => ?_) (fun b2 => ?_)
    · refine Ew_of (pc' := 12) (fun _ => x_aload_n rfl rfl) ?_
      refine w_inv H (o := 3) rfl rfl rfl (H.perm 3 rfl) rfl rfl (by rfl) (M367 H (by have : (0 : Int) ≤ F 3 2 ∧ F 3 2 ≤ 65536 := H.frng 3 2; have : F 3 2 = F 3 2 := rfl; show (F 3 2) ≤ 16384; omega) (fun σ F3 A4 H hS5 hA6 pz70 => ⟨rfl, ?_⟩))
      have pz70 : (F3 3 5) = (F 3 2) := by have : (F3 3 5) = (F 3 2) := pz70; omega
      refine Ew_of (pc' := 16) (fun _ => x_aload_n rfl rfl) ?_
      refine Ew_of (pc' := 17) (fun _ => x_iconst rfl) ?_
      refine Ew_of (pc' := 18) (fun _ => x_aload_n rfl rfl) ?_
      refine w_gT H (o := 3) (t := 1) rfl (H.perm 3 rfl) rfl rfl rfl rfl rfl rfl ?_
      refine w_gI H (o := 1) (w := F 1 1) rfl (H.perm 1 rfl) rfl rfl rfl (fun _ => rfl) (hS5 1 1 rfl) ?_
      have r8 : (0 : Int) ≤ F 1 1 ∧ F 1 1 ≤ 65536 := by have h1 : (0 : Int) ≤ F3 1 1 ∧ F3 1 1 ≤ 65536 := H.frng 1 1; have h2 : F3 1 1 = F 1 1 := (hS5 1 1 rfl); omega
      refine w_inv H (o := 3) rfl rfl rfl (H.perm 3 rfl) rfl rfl (by rfl) (M368 H (by show inr (0); omega) (by show inr (F 1 1); omega) (by have : (-2147483648 : Int) ≤ F3 3 5 ∧ F3 3 5 ≤ 2147483647 := H.frng 3 5; have : F3 3 5 = F3 3 5 := rfl; show 0 ≤ (F3 3 5) ∧ (F3 3 5) ≤ 16384; omega) (by have : (-2147483648 : Int) ≤ F3 3 5 ∧ F3 3 5 ≤ 2147483647 := H.frng 3 5; have : F3 3 5 = F3 3 5 := rfl; show 0 ≤ (0) ∧ (0) ≤ (F 1 1) ∧ (F 1 1) ≤ 65536 ∧ (F3 3 5) + ((F 1 1) - (0)) ≤ 16384; omega) (fun σ F9 A10 H hS11 hA12 pz130 => ⟨rfl, ?_⟩))
      have pz130 : (F9 3 5) = (F3 3 5) + ((F 1 1) - (0)) := by have : F3 3 5 = F3 3 5 := rfl; have : (F9 3 5) = (F3 3 5) + ((F 1 1) - (0)) := pz130; omega
      refine Ew_of (pc' := 28) (fun _ => x_aload_n rfl rfl) ?_
      refine Ew_of (pc' := 29) (fun _ => x_aload_n rfl rfl) ?_
      refine w_gI H (o := 3) (w := F 3 2) rfl (H.perm 3 rfl) rfl rfl rfl (fun _ => rfl) ((hS11 3 2 rfl).trans (hS5 3 2 rfl)) ?_
      have r14 : (0 : Int) ≤ F 3 2 ∧ F 3 2 ≤ 65536 := by have h1 : (0 : Int) ≤ F9 3 2 ∧ F9 3 2 ≤ 65536 := H.frng 3 2; have h2 : F9 3 2 = F 3 2 := ((hS11 3 2 rfl).trans (hS5 3 2 rfl)); omega
      refine Ew_of (pc' := 33) (fun _ => x_iload_n rfl rfl) ?_
      refine w_inv H (o := 3) rfl rfl rfl (H.perm 3 rfl) rfl rfl (by rfl) (M366 H (by show inr (F 3 2); omega) (by show inr (a1); omega) (by have : (-2147483648 : Int) ≤ F9 3 5 ∧ F9 3 5 ≤ 2147483647 := H.frng 3 5; have : F9 3 5 = F9 3 5 := rfl; show 0 ≤ (F9 3 5) ∧ (F9 3 5) ≤ 16384; omega) (by have : (-2147483648 : Int) ≤ F9 3 5 ∧ F9 3 5 ≤ 2147483647 := H.frng 3 5; have : F9 3 5 = F9 3 5 := rfl; show 0 ≤ (F 3 2) ∧ (F 3 2) ≤ (F9 3 5); omega) (fun σ F15 A16 H hS17 hA18 pz190 => ⟨rfl, ?_⟩))
      have pz190 : 0 ≤ (F15 3 10) ∧ (F15 3 10) ≤ 3000000 := by have : 0 ≤ (F15 3 10) ∧ (F15 3 10) ≤ 3000000 := pz190; omega
      refine Ew_of (pc' := 37) (fun _ => x_aload_n rfl rfl) ?_
      refine Ew_of (pc' := 38) (fun _ => x_aload_n rfl rfl) ?_
      refine w_gT H (o := 3) (t := 20) rfl (H.perm 3 rfl) rfl rfl rfl rfl rfl rfl ?_
      refine Ew_of (pc' := 42) (fun _ => x_aload_n rfl rfl) ?_
      refine w_gI H (o := 3) (w := F15 3 10) rfl (H.perm 3 rfl) rfl rfl rfl (fun _ => rfl) rfl ?_
      have r20 : (-2147483648 : Int) ≤ F15 3 10 ∧ F15 3 10 ≤ 2147483647 := by have h1 : (-2147483648 : Int) ≤ F15 3 10 ∧ F15 3 10 ≤ 2147483647 := H.frng 3 10; have h2 : F15 3 10 = F15 3 10 := rfl; omega
      refine w_inv H (o := 3) rfl rfl rfl (H.perm 3 rfl) rfl rfl (by rfl) (M369_20 H (by show inr (F15 3 10); omega) (by show 0 ≤ (F15 3 10) ∧ (F15 3 10) ≤ 100000000; omega) (fun z25 σ F21 A22 H hS23 hA24 pz250 pz251 => ⟨rfl, ?_⟩))
      exact w_ireturn rfl (k (z25) σ _ _ H (SF_trans (SF_trans (SF_trans (SF_trans (SF_refl) hS5 (any_sub rfl)) hS11 (any_sub rfl)) hS17 (any_sub rfl)) hS23 (any_sub rfl)) (SA_trans (SA_trans (SA_trans (SA_trans (SA_refl) hA6 (any_subA rfl)) hA12 (any_subA rfl)) hA18 (any_subA rfl)) hA24 (any_subA rfl)) (by show inr (z25); omega))
    · refine Ew_of (pc' := 10) (fun _ => x_iconst rfl) ?_
      exact w_ireturn rfl (k ((-1)) σ _ _ H (SF_refl) (SA_refl) (by show inr ((-1)); omega))
/-- Tokens.makeNumber -/
theorem M377 {σ0 σ : rS} {D N : Nat → Nat} {F : hF} {A : hA} {d c s : Nat} {Q : wQ} (H : HS σ0 σ D N F A) {a1 a2 : Int} (h0 : inrJ a1) (h1 : inr a2) (h2 : 0 ≤ a2 ∧ a2 ≤ 8) (h3 : 0 ≤ F 3 8 ∧ F 3 8 ≤ 10000000) (k : ∀ σ F' A', HS σ0 σ D N F' A' → SF [(3, 8)] F F' → SA [19] A A' → ((F' 3 8) = (F 3 8) + a2) → Q none σ c s) : Ew 377 (d + 1) 0 (rargs 0 [.ref (D 3), J a1, I a2]) [] σ c s Q := by
  have rp3_8 : (-2147483648 : Int) ≤ F 3 8 ∧ F 3 8 ≤ 2147483647 := H.frng 3 8
  refine Ew_of (pc' := 1) (fun _ => x_iconst rfl) ?_
  refine Ew_of (pc' := 3) (fun _ => x_istore rfl) ?_
  have r1 : (-2147483648 : Int) ≤ F 3 8 ∧ F 3 8 ≤ 2147483647 := by have h1 : (-2147483648 : Int) ≤ F 3 8 ∧ F 3 8 ≤ 2147483647 := H.frng 3 8; have h2 : F 3 8 = F 3 8 := rfl; omega
  suffices hl3 : ∀ (m : Nat) (ls : rO) (σ : rS) (F_3 : hF) (A_3 : hA) (x3_4 : Int), rlook ls 0 = some (.ref (D 3)) → rlook ls 1 = some (J a1) → rlook ls 3 = some (I a2) → rlook ls 4 = some (I x3_4) → HS σ0 σ D N F_3 A_3 → SF [(3, 8)] F F_3 → SA [19] A A_3 → (inr x3_4) → ((0) ≤ x3_4) → (x3_4 ≤ (0) ∨ x3_4 ≤ (a2)) → ((F_3 3 8) = (F 3 8) + x3_4) → ((a2) - x3_4).toNat = m → Ew 377 (d + 1) 3 ls [] σ c s Q from
    hl3 _ _ _ _ _ (0) (rk_o (rfl) rfl rfl) (rk_o (rfl) rfl rfl) (rk_o (rfl) rfl rfl) (rk_s) H SF_refl SA_refl (by show inr (0); omega) (by show (0) ≤ (0); omega) (by show (0) ≤ (0) ∨ (0) ≤ ((a2)); omega) (by have : (-2147483648 : Int) ≤ F 3 8 ∧ F 3 8 ≤ 2147483647 := H.frng 3 8; have : F 3 8 = F 3 8 := rfl; show (F 3 8) = (F 3 8) + (0); omega) rfl
  intro m
  induction m using Nat.strongRecOn with
  | _ m ih3 =>
    intro ls σ F_3 A_3 x3_4 l3_0 l3_1 l3_3 l3_4 H hS_3 hA_3 j3_0 j3_1 j3_2 j3_3 hm3
    have r2 : (-2147483648 : Int) ≤ F_3 3 8 ∧ F_3 3 8 ≤ 2147483647 := by have h1 : (-2147483648 : Int) ≤ F_3 3 8 ∧ F_3 3 8 ≤ 2147483647 := H.frng 3 8; have h2 : F_3 3 8 = F_3 3 8 := rfl; omega
    refine Ew_of (pc' := 5) (fun _ => x_iload rfl l3_4) ?_
    refine Ew_of (pc' := 6) (fun _ => x_iload_n rfl l3_3) ?_
    refine w_icmpge (t := 31) rfl rfl (show inr (x3_4) by omega) (show inr (a2) by omega) (fun b3 => ?_) (fun b3 => ?_)
    · exact w_ret rfl (k σ _ _ H (SF_trans (SF_refl) hS_3 (any_sub rfl)) (SA_trans (SA_refl) hA_3 (any_subA rfl)) (by have : (-2147483648 : Int) ≤ F_3 3 8 ∧ F_3 3 8 ≤ 2147483647 := H.frng 3 8; have : F_3 3 8 = F_3 3 8 := rfl; show (F_3 3 8) = (F 3 8) + a2; omega))
    · refine Ew_of (pc' := 10) (fun _ => x_aload_n rfl l3_0) ?_
      refine Ew_of (pc' := 11) (fun _ => x_lload_n rfl l3_1) ?_
      refine Ew_of (pc' := 13) (fun _ => x_bipush (z := 8) rfl (by decide)) ?_
      refine Ew_of (pc' := 15) (fun _ => x_iload rfl l3_4) ?_
      refine w_imul rfl ?_
      refine w_lshrA rfl (fun z4 gz4 => ?_)
      refine Ew_of (pc' := 20) (fun _ => x_ldc2 (z := 255) rfl (by decide)) ?_
      refine w_land rfl (show inrJ (z4) by omega) (show inrJ (255) by omega) (fun z5 gz5 gaz5 gbz5 => ?_)
      refine w_l2i rfl ?_
      refine w_inv H (o := 3) rfl rfl rfl (H.perm 3 rfl) rfl rfl (by rfl) (M376 H (by show inr (z5); omega) (by show 0 ≤ (z5) ∧ (z5) ≤ 255; omega) (by have : (-2147483648 : Int) ≤ F_3 3 8 ∧ F_3 3 8 ≤ 2147483647 := H.frng 3 8; have : F_3 3 8 = F_3 3 8 := rfl; show 0 ≤ (F_3 3 8) ∧ (F_3 3 8) ≤ 100000000; omega) (fun σ F6 A7 H hS8 hA9 pz100 => ⟨rfl, ?_⟩))
      have pz100 : (F6 3 8) = (F_3 3 8) + 1 := by have : F_3 3 8 = F_3 3 8 := rfl; have : (F6 3 8) = (F_3 3 8) + 1 := pz100; omega
      refine Ew_of (pc' := 28) (fun _ => x_iinc (len := 3) rfl (l3_4)) ?_
      refine Ew_of (pc' := 3) (fun _ => x_goto rfl rfl) ?_
      exact ih3 _ (by omega) _ σ _ _ ((x3_4 + 1)) (rk_o (l3_0) rfl rfl) (rk_o (l3_1) rfl rfl) (rk_o (l3_3) rfl rfl) (rk_s) H (SF_trans (hS_3) hS8 (any_sub rfl)) (SA_trans (hA_3) hA9 (any_subA rfl)) (by show inr ((x3_4 + 1)); omega) (by show (0) ≤ ((x3_4 + 1)); omega) (by show ((x3_4 + 1)) ≤ (0) ∨ ((x3_4 + 1)) ≤ ((a2)); omega) (by have : (-2147483648 : Int) ≤ F6 3 8 ∧ F6 3 8 ≤ 2147483647 := H.frng 3 8; have : F6 3 8 = F6 3 8 := rfl; show (F6 3 8) = (F 3 8) + ((x3_4 + 1)); omega) rfl
