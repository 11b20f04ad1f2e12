/-- Writer.describe -/
theorem M422 {σ0 σ : rS} {D N : Nat → Nat} {F : hF} {A : hA} {d c s : Nat} {Q : wQ} (H : HS σ0 σ D N F A) {a1 : Int} (w82 : Int → Int) (ew82 : A 82 = w82) (h0 : inr (a1)) (h1 : 1 ≤ (a1) ∧ (a1) ≤ 11) (h2 : CI ((w82)) ((a1))) (k : ∀ (z : Int) σ F' A', HS σ0 σ D N F' A' → SF [(6, 35), (6, 53)] F F' → SA [69, 71, 72, 73, 74, 75, 76, 77, 78, 84] A A' → ∀ y6_35 : Int, F' 6 35 = y6_35 → (inr (z)) → ((z) = -2 ∨ 1 ≤ (z) ∧ (z) ≤ 128) → ((z) = -2 ∨ 0 ≤ (y6_35) ∧ (y6_35) ≤ 2047) → Q (some (I z)) σ c s) : Ew 422 (d + 3) 0 (rargs 0 [.ref (D 6), I a1]) [] σ c s Q := by
  refine Ew_of (pc' := 1) (fun _ => x_aload_n rfl rfl) ?_
  refine Ew_of (pc' := 4) (fun _ => x_sipush (z := 255) rfl (by decide)) ?_
  refine w_pI H (o := 6) rfl rfl (H.perm 6 rfl) rfl rfl rfl (fun _ => rfl) rfl (show (-1 : Int) ≤ 255 ∧ 255 ≤ 255 by omega) (fun σ H => ?_)
  have hci : CI ((w82)) ((a1)) := by assumption
  have hbd := CI_BD hci
  have : EXN ((w82)) 255 := by obtain ⟨i, a, b, c⟩ := CI_some hci; exact ⟨i, a, by omega, c⟩
  suffices hl7 : ∀ (m : Nat), ∀ (ls : rO) (σ : rS) (F_7 : hF) (A_7 : hA) , rlook ls 0 = some (.ref (D 6)) → rlook ls 1 = some (I (a1)) → HS σ0 σ D N F_7 A_7 → SF [(6, 53)] (updF F 6 53 (255)) F_7 → SA [] A A_7 → ∀ y7_6_53 : Int, F_7 6 53 = y7_6_53 → (0 ≤ (y7_6_53) ∧ (y7_6_53) ≤ 255) → (EXN ((w82)) ((y7_6_53))) → ((y7_6_53) + 1).toNat = m → Ew 422 (d + 3) 7 ls [] σ c s Q from
    hl7 _ _ σ _ _  (rfl) (rfl) H (SF_refl) (SA_refl) (255) (rfl)  (show 0 ≤ (255) ∧ (255) ≤ 255 by omega) (show EXN ((w82)) ((255)) by assumption) rfl
  as_aux_lemma =>
  intro m
  induction m using Nat.strongRecOn with
  | _ m ih7 =>
    intro ls σ F_7 A_7  l7_0 l7_1 H hS_7 hA_7 y7_6_53 ey7_6_53  j7_0 j7_1 hm7
    have r1 : (-1 : Int) ≤ y7_6_53 ∧ y7_6_53 ≤ 255 := by have h1 : (-1 : Int) ≤ F_7 6 53 ∧ F_7 6 53 ≤ 255 := H.frng 6 53; rw [show F_7 6 53 = y7_6_53 from (ey7_6_53)] at h1; exact h1
    refine Ew_of (pc' := 8) (fun _ => x_aload_n rfl l7_0) ?_
    refine w_gT H (o := 6) (t := 82) rfl (H.perm 6 rfl) rfl rfl rfl rfl rfl rfl ?_
    refine Ew_of (pc' := 12) (fun _ => x_aload_n rfl l7_0) ?_
    refine w_gI H (o := 6) (w := y7_6_53) rfl (H.perm 6 rfl) rfl rfl rfl (fun _ => rfl) (ey7_6_53) ?_
    refine w_lI H (o := 82) (n := 256) rfl (H.perm 82 rfl) rfl rfl (H.fix 82 rfl rfl) (show 0 ≤ y7_6_53 ∧ y7_6_53 < ((256 : Nat) : Int) by omega) (by decide) (fun v2 ev2 qv2 => ?_)
    have qv2 : (-2147483648 : Int) ≤ v2 ∧ v2 ≤ 2147483647 := qv2
    have ev2 : (w82) (y7_6_53) = v2 := (congrFun ((funext (hA_7 82 rfl)).trans (ew82)) (y7_6_53)).symm.trans ev2
    refine w_ifne (t := 32) rfl rfl (show inr (v2) by omega) (fun b3 => ?_) (fun b3 => ?_)
    · refine Ew_of (pc' := 33) (fun _ => x_iconst rfl) ?_
      refine Ew_of (pc' := 34) (fun _ => x_istore_n rfl) ?_
      have : ∀ i, (0 : Int) ≤ i → i < 0 → ((A 78)) (0 + i) = 0 := fun i a b => absurd b (by omega)
      suffices hl34 : ∀ (m : Nat), ∀ (ls : rO) (σ : rS) (F_34 : hF) (A_34 : hA) (x34_2 : Int), rlook ls 0 = some (.ref (D 6)) → rlook ls 1 = some (I (a1)) → rlook ls 2 = some (I (x34_2)) → HS σ0 σ D N F_34 A_34 → SF [] F_7 F_34 → SA [78] A_7 A_34 → ∀ w34_78 : Int → Int, A_34 78 = w34_78 → (inr (x34_2)) → ((0) ≤ (x34_2)) → ((x34_2) ≤ (0) ∨ (x34_2) ≤ ((256))) → (∀ i, 0 ≤ i → i < (x34_2) → ((w34_78)) (0 + i) = 0) → (((256)) - (x34_2)).toNat = m → Ew 422 (d + 3) 34 ls [] σ c s Q from
        hl34 _ _ σ _ _ (0) (rk_o (l7_0) rfl rfl) (rk_o (l7_1) rfl rfl) (rk_s) H (SF_refl) (SA_refl)  (A 78) (funext (hA_7 78 rfl)) (show inr (0) by omega) (show (0) ≤ (0) by omega) (show (0) ≤ (0) ∨ (0) ≤ ((256)) by omega) (show ∀ i, 0 ≤ i → i < (0) → ((A 78)) (0 + i) = 0 by assumption) rfl
      as_aux_lemma =>
      intro m
      induction m using Nat.strongRecOn with
      | _ m ih34 =>
        intro ls σ F_34 A_34 x34_2 l34_0 l34_1 l34_2 H hS_34 hA_34  w34_78 ew34_78 j34_0 j34_1 j34_2 j34_3 hm34
        refine Ew_of (pc' := 35) (fun _ => x_iload_n rfl l34_2) ?_
        refine Ew_of (pc' := 38) (fun _ => x_sipush (z := 256) rfl (by decide)) ?_
        refine w_icmpge (t := 54) rfl rfl (show inr (x34_2) by omega) (show inr (256) by omega) (fun b4 => ?_) (fun b4 => ?_)
        · refine Ew_of (pc' := 55) (fun _ => x_iconst rfl) ?_
          refine Ew_of (pc' := 56) (fun _ => x_istore_n rfl) ?_
          refine Ew_of (pc' := 57) (fun _ => x_iconst rfl) ?_
          refine Ew_of (pc' := 58) (fun _ => x_istore_n rfl) ?_
          have hz : ∀ i, (0 : Int) ≤ i → i < 64 → ((w34_78)) i = 0 := fun i a b => by have := j34_3 i a (by omega); rw [Int.zero_add] at this; exact this
          have : su (fun i => ((w34_78)) i) 64 = 0 := su_z (g := (w34_78)) (fun x => x) rfl (fun i a b => hz i a (by omega))
          have : su (fun i => pos1 (((w34_78)) i)) 64 = 0 := su_z (g := (w34_78)) pos1 rfl (fun i a b => hz i a (by omega))
          have : ∀ i, (0 : Int) ≤ i → i < 64 → 0 ≤ ((w34_78)) i := fun i a b => by rw [hz i a b]; decide
          have : ∀ i, (0 : Int) ≤ i → i < 64 → ((w34_78)) i ≤ 0 := fun i a b => by rw [hz i a b]; decide
          have : CW ((w34_78)) ((A 84)) 0 11 := fun j a b => absurd b (by omega)
          have : CZ ((w34_78)) 11 := fun i a b c => hz i c b
          suffices hl58 : ∀ (m : Nat), ∀ (ls : rO) (σ : rS) (F_58 : hF) (A_58 : hA) (x58_2 : Int) (x58_3 : Int), rlook ls 0 = some (.ref (D 6)) → rlook ls 1 = some (I (a1)) → rlook ls 2 = some (I (x58_2)) → rlook ls 3 = some (I (x58_3)) → HS σ0 σ D N F_58 A_58 → SF [] F_34 F_58 → SA [78, 84] A_34 A_58 → ∀ w58_78 : Int → Int, A_58 78 = w58_78 → ∀ w58_84 : Int → Int, A_58 84 = w58_84 → (inr (x58_2)) → (inr (x58_3)) → ((0) ≤ (x58_3)) → ((x58_3) ≤ (0) ∨ (x58_3) ≤ ((y7_6_53))) → (su (fun i => ((w58_78)) i) 64 = (x58_3)) → (su (fun i => pos1 (((w58_78)) i)) 64 = (x58_2)) → (∀ i, (0 : Int) ≤ i → i < 64 → 0 ≤ ((w58_78)) i) → (CW ((w58_78)) ((w58_84)) ((x58_3)) 11) → (CZ ((w58_78)) 11) → (0 ≤ (x58_2) ∧ (x58_2) ≤ (x58_3)) → (∀ i, (0 : Int) ≤ i → i < 64 → ((w58_78)) i ≤ (x58_3)) → (((y7_6_53)) - (x58_3)).toNat = m → Ew 422 (d + 3) 58 ls [] σ c s Q from
            hl58 _ _ σ _ _ (0) (0) (rk_o (rk_o (l34_0) rfl rfl) rfl rfl) (rk_o (rk_o (l34_1) rfl rfl) rfl rfl) (rk_o (rk_s) rfl rfl) (rk_s) H (SF_refl) (SA_refl)  (w34_78) (ew34_78) (A 84) ((funext (hA_34 84 rfl)).trans (funext (hA_7 84 rfl))) (show inr (0) by omega) (show inr (0) by omega) (show (0) ≤ (0) by omega) (show (0) ≤ (0) ∨ (0) ≤ ((y7_6_53)) by omega) (show su (fun i => ((w34_78)) i) 64 = (0) by omega) (show su (fun i => pos1 (((w34_78)) i)) 64 = (0) by omega) (show ∀ i, (0 : Int) ≤ i → i < 64 → 0 ≤ ((w34_78)) i by assumption) (show CW ((w34_78)) ((A 84)) ((0)) 11 by assumption) (show CZ ((w34_78)) 11 by assumption) (show 0 ≤ (0) ∧ (0) ≤ (0) by omega) (show ∀ i, (0 : Int) ≤ i → i < 64 → ((w34_78)) i ≤ (0) by assumption) rfl
          as_aux_lemma =>
          intro m
          induction m using Nat.strongRecOn with
          | _ m ih58 =>
            intro ls σ F_58 A_58 x58_2 x58_3 l58_0 l58_1 l58_2 l58_3 H hS_58 hA_58  w58_78 ew58_78 w58_84 ew58_84 j58_0 j58_1 j58_2 j58_3 j58_4 j58_5 j58_6 j58_7 j58_8 j58_9 j58_10 hm58
            have jnn : ∀ i, (0 : Int) ≤ i → i < 64 → 0 ≤ ((w58_78)) i := by assumption
            have jup : ∀ i, (0 : Int) ≤ i → i < 64 → ((w58_78)) i ≤ (x58_3) := by assumption
            have jcw : CW ((w58_78)) ((w58_84)) ((x58_3)) 11 := by assumption
            have jcz : CZ ((w58_78)) 11 := by assumption
            refine Ew_of (pc' := 59) (fun _ => x_iload_n rfl l58_3) ?_
            refine Ew_of (pc' := 60) (fun _ => x_aload_n rfl l58_0) ?_
            refine w_gI H (o := 6) (w := y7_6_53) rfl (H.perm 6 rfl) rfl rfl rfl (fun _ => rfl) (((hS_58 6 53 rfl).trans (hS_34 6 53 rfl)).trans (ey7_6_53)) ?_
            refine w_icmpge (t := 121) rfl rfl (show inr (x58_3) by omega) (show inr (y7_6_53) by omega) (fun b5 => ?_) (fun b5 => ?_)
            · have h3w : (x58_3) = (y7_6_53) := by omega
              have hcwF : CW ((w58_78)) ((w58_84)) ((y7_6_53)) 11 := by rw [← h3w]; assumption
              refine Ew_of (pc' := 122) (fun _ => x_aload_n rfl l58_0) ?_
              refine w_gI H (o := 6) (w := y7_6_53) rfl (H.perm 6 rfl) rfl rfl rfl (fun _ => rfl) (((hS_58 6 53 rfl).trans (hS_34 6 53 rfl)).trans (ey7_6_53)) ?_
              refine Ew_of (pc' := 128) (fun _ => x_sipush (z := 128) rfl (by decide)) ?_
              have hc147 : ∀ (tc147_0 : Int), ∀ (ls : rO) (σ : rS) (F_c147 : hF) (A_c147 : hA) , rlook ls 0 = some (.ref (D 6)) → rlook ls 2 = some (I (x58_2)) → HS σ0 σ D N F_c147 A_c147 → SF [] F_58 F_c147 → SA [] A_58 A_c147 → (inr (tc147_0)) → (((y7_6_53) ≤ (128) ∧ (tc147_0) = ((1 + ((y7_6_53 + 1) / 2)))) ∨ ((y7_6_53) > (128) ∧ (tc147_0) = (9999))) → Ew 422 (d + 3) 147 ls [I (tc147_0)] σ c s Q := by
               as_aux_lemma =>
                intro tc147_0 ls σ F_c147 A_c147  lc147_0 lc147_2 H hS_c147 hA_c147   jc147_0 jc147_1
                refine Ew_of (pc' := 148) (fun _ => x_istore_n rfl) ?_
                have hc172 : ∀ (tc172_0 : Int), ∀ (ls : rO) (σ : rS) (F_c172 : hF) (A_c172 : hA) , rlook ls 0 = some (.ref (D 6)) → rlook ls 2 = some (I (x58_2)) → rlook ls 3 = some (I (tc147_0)) → HS σ0 σ D N F_c172 A_c172 → SF [(6, 35)] F_c147 F_c172 → SA [69, 71, 72, 73, 74, 75, 76, 77] A_c147 A_c172 → (inr (tc172_0)) → ((tc172_0) = 9999 ∨ 1 ≤ (tc172_0) ∧ (tc172_0) ≤ 256 ∧ 2 ≤ (x58_2) ∧ 2 ≤ (y7_6_53)) → Ew 422 (d + 3) 172 ls [I (tc172_0)] σ c s Q := by
                 as_aux_lemma =>
                  intro tc172_0 ls σ F_c172 A_c172  lc172_0 lc172_2 lc172_3 H hS_c172 hA_c172   jc172_0 jc172_1
                  refine Ew_of (pc' := 174) (fun _ => x_istore rfl) ?_
                  have hc199 : ∀ (tc199_0 : Int), ∀ (ls : rO) (σ : rS) (F_c199 : hF) (A_c199 : hA) , rlook ls 0 = some (.ref (D 6)) → rlook ls 3 = some (I (tc147_0)) → rlook ls 4 = some (I (tc172_0)) → HS σ0 σ D N F_c199 A_c199 → SF [(6, 35)] F_c172 F_c199 → SA [69, 71, 72, 73, 74, 75, 76, 77] A_c172 A_c199 → (inr (tc199_0)) → ((tc199_0) = 9999 ∨ 1 ≤ (tc199_0) ∧ (tc199_0) ≤ 256 ∧ 2 ≤ (x58_2) ∧ 2 ≤ (y7_6_53)) → Ew 422 (d + 3) 199 ls [I (tc199_0)] σ c s Q := by
                   as_aux_lemma =>
                    intro tc199_0 ls σ F_c199 A_c199  lc199_0 lc199_3 lc199_4 H hS_c199 hA_c199   jc199_0 jc199_1
                    refine Ew_of (pc' := 201) (fun _ => x_istore rfl) ?_
                    refine Ew_of (pc' := 203) (fun _ => x_iload rfl (rk_o (lc199_4) rfl rfl)) ?_
                    refine Ew_of (pc' := 205) (fun _ => x_iload rfl rk_s) ?_
                    have hc215 : ∀ (tc215_0 : Int), ∀ (ls : rO) (σ : rS) (F_c215 : hF) (A_c215 : hA) , rlook ls 0 = some (.ref (D 6)) → rlook ls 3 = some (I (tc147_0)) → rlook ls 4 = some (I (tc172_0)) → rlook ls 5 = some (I (tc199_0)) → HS σ0 σ D N F_c215 A_c215 → SF [] F_c199 F_c215 → SA [] A_c199 A_c215 → (inr (tc215_0)) → (((tc172_0) ≥ (tc199_0) ∧ (tc215_0) = (tc199_0)) ∨ ((tc172_0) < (tc199_0) ∧ (tc215_0) = (tc172_0))) → Ew 422 (d + 3) 215 ls [I (tc215_0)] σ c s Q := by
                     as_aux_lemma =>
                      intro tc215_0 ls σ F_c215 A_c215  lc215_0 lc215_3 lc215_4 lc215_5 H hS_c215 hA_c215   jc215_0 jc215_1
                      refine Ew_of (pc' := 217) (fun _ => x_istore rfl) ?_
                      refine Ew_of (pc' := 219) (fun _ => x_iload rfl rk_s) ?_
                      refine Ew_of (pc' := 222) (fun _ => x_sipush (z := 128) rfl (by decide)) ?_
                      have hc233 : ∀ (tc233_0 : Int), ∀ (ls : rO) (σ : rS) (F_c233 : hF) (A_c233 : hA) , rlook ls 0 = some (.ref (D 6)) → rlook ls 3 = some (I (tc147_0)) → rlook ls 4 = some (I (tc172_0)) → rlook ls 5 = some (I (tc199_0)) → HS σ0 σ D N F_c233 A_c233 → SF [] F_c215 F_c233 → SA [] A_c215 A_c233 → (inr (tc233_0)) → (((tc215_0) ≤ (128) ∧ (tc233_0) = (tc215_0)) ∨ ((tc215_0) > (128) ∧ (tc233_0) = (9999))) → Ew 422 (d + 3) 233 ls [I (tc233_0)] σ c s Q := by
                       as_aux_lemma =>
                        intro tc233_0 ls σ F_c233 A_c233  lc233_0 lc233_3 lc233_4 lc233_5 H hS_c233 hA_c233   jc233_0 jc233_1
                        refine Ew_of (pc' := 235) (fun _ => x_istore rfl) ?_
                        refine Ew_of (pc' := 236) (fun _ => x_iload_n rfl (rk_o (lc233_3) rfl rfl)) ?_
                        refine Ew_of (pc' := 239) (fun _ => x_sipush (z := 9999) rfl (by decide)) ?_
                        have hc253 : ∀ (ls : rO) (σ : rS) (F_c253 : hF) (A_c253 : hA) , rlook ls 0 = some (.ref (D 6)) → rlook ls 3 = some (I (tc147_0)) → rlook ls 4 = some (I (tc172_0)) → rlook ls 5 = some (I (tc199_0)) → rlook ls 6 = some (I (tc233_0)) → HS σ0 σ D N F_c253 A_c253 → SF [] F_c233 F_c253 → SA [] A_c233 A_c253 → (((tc147_0) ≠ (9999)) ∨ ((tc147_0) = (9999) ∧ (tc233_0) ≠ (9999))) → Ew 422 (d + 3) 253 ls [] σ c s Q := by
                         as_aux_lemma =>
                          intro  ls σ F_c253 A_c253  lc253_0 lc253_3 lc253_4 lc253_5 lc253_6 H hS_c253 hA_c253   jc253_0
                          refine Ew_of (pc' := 254) (fun _ => x_iload_n rfl lc253_3) ?_
                          refine Ew_of (pc' := 256) (fun _ => x_iload rfl lc253_6) ?_
                          refine w_icmpgt (t := 337) rfl rfl (show inr (tc147_0) by omega) (show inr (tc233_0) by omega) (fun b6 => ?_) (fun b6 => ?_)
                          · refine Ew_of (pc' := 338) (fun _ => x_aload_n rfl lc253_0) ?_
                            refine Ew_of (pc' := 340) (fun _ => x_iload rfl lc253_4) ?_
                            refine Ew_of (pc' := 342) (fun _ => x_iload rfl lc253_5) ?_
                            refine w_icmpgt (t := 349) rfl rfl (show inr (tc172_0) by omega) (show inr (tc199_0) by omega) (fun b7 => ?_) (fun b7 => ?_)
                            · refine Ew_of (pc' := 351) (fun _ => x_bipush (z := 6) rfl (by decide)) ?_
                              refine w_inv H (o := 6) rfl rfl rfl (H.perm 6 rfl) rfl rfl (by rfl) (M423 H (y7_6_53) ((((((((((hS_c253 6 53 rfl).trans (hS_c233 6 53 rfl)).trans (hS_c215 6 53 rfl)).trans (hS_c199 6 53 rfl)).trans (hS_c172 6 53 rfl)).trans (hS_c147 6 53 rfl)).trans (hS_58 6 53 rfl)).trans (hS_34 6 53 rfl)).trans (ey7_6_53))) (w58_78) ((funext (hA_c253 78 rfl)).trans ((funext (hA_c233 78 rfl)).trans ((funext (hA_c215 78 rfl)).trans ((funext (hA_c199 78 rfl)).trans ((funext (hA_c172 78 rfl)).trans ((funext (hA_c147 78 rfl)).trans (ew58_78))))))) (w58_84) ((funext (hA_c253 84 rfl)).trans ((funext (hA_c233 84 rfl)).trans ((funext (hA_c215 84 rfl)).trans ((funext (hA_c199 84 rfl)).trans ((funext (hA_c172 84 rfl)).trans ((funext (hA_c147 84 rfl)).trans (ew58_84))))))) (show inr (6) by omega) (show 5 ≤ (6) ∧ (6) ≤ 6 by omega) (show 2 ≤ (y7_6_53) ∧ (y7_6_53) ≤ 255 by omega) (show ∀ i, (0 : Int) ≤ i → i < 64 → 0 ≤ ((w58_78)) i by assumption) (show su (fun i => ((w58_78)) i) 64 = (y7_6_53) by omega) (show 2 ≤ su (fun i => pos1 (((w58_78)) i)) 64 by omega) (show CW ((w58_78)) ((w58_84)) ((y7_6_53)) 11 by assumption) (show CZ ((w58_78)) 11 by assumption) (fun z12 σ F8 A9 H hS10 hA11 y13 ey14 pz12_0 pz12_1 pz12_2 => ⟨rfl, ?_⟩))
                              have r15 : (0 : Int) ≤ y13 ∧ y13 ≤ 100000000 := by have h1 : (0 : Int) ≤ F8 6 35 ∧ F8 6 35 ≤ 100000000 := H.frng 6 35; rw [show F8 6 35 = y13 from (ey14)] at h1; exact h1
                              refine Ew_of (pc' := 356) (fun _ => x_istore rfl) ?_
                              refine Ew_of (pc' := 358) (fun _ => x_iload rfl (rk_o (lc253_6) rfl rfl)) ?_
                              exact w_ireturn rfl (k (tc233_0) σ _ _ H (SF_trans (SF_trans (SF_trans (SF_trans (SF_trans (SF_trans (SF_trans (SF_trans (SF_trans (SF_trans (SF_upd (SF_refl) rfl) hS_7 (any_sub rfl)) hS_34 (any_sub rfl)) hS_58 (any_sub rfl)) hS_c147 (any_sub rfl)) hS_c172 (any_sub rfl)) hS_c199 (any_sub rfl)) hS_c215 (any_sub rfl)) hS_c233 (any_sub rfl)) hS_c253 (any_sub rfl)) hS10 (any_sub rfl)) (SA_trans (SA_trans (SA_trans (SA_trans (SA_trans (SA_trans (SA_trans (SA_trans (SA_trans (SA_trans (SA_refl) hA_7 (any_subA rfl)) hA_34 (any_subA rfl)) hA_58 (any_subA rfl)) hA_c147 (any_subA rfl)) hA_c172 (any_subA rfl)) hA_c199 (any_subA rfl)) hA_c215 (any_subA rfl)) hA_c233 (any_subA rfl)) hA_c253 (any_subA rfl)) hA11 (any_subA rfl)) (y13) ((ey14)) (show inr (tc233_0) by omega) (show (tc233_0) = -2 ∨ 1 ≤ (tc233_0) ∧ (tc233_0) ≤ 128 by omega) (show (tc233_0) = -2 ∨ 0 ≤ (y13) ∧ (y13) ≤ 2047 by omega))
                            · refine Ew_of (pc' := 346) (fun _ => x_iconst rfl) ?_
                              refine Ew_of (pc' := 351) (fun _ => x_goto rfl rfl) ?_
                              refine w_inv H (o := 6) rfl rfl rfl (H.perm 6 rfl) rfl rfl (by rfl) (M423 H (y7_6_53) ((((((((((hS_c253 6 53 rfl).trans (hS_c233 6 53 rfl)).trans (hS_c215 6 53 rfl)).trans (hS_c199 6 53 rfl)).trans (hS_c172 6 53 rfl)).trans (hS_c147 6 53 rfl)).trans (hS_58 6 53 rfl)).trans (hS_34 6 53 rfl)).trans (ey7_6_53))) (w58_78) ((funext (hA_c253 78 rfl)).trans ((funext (hA_c233 78 rfl)).trans ((funext (hA_c215 78 rfl)).trans ((funext (hA_c199 78 rfl)).trans ((funext (hA_c172 78 rfl)).trans ((funext (hA_c147 78 rfl)).trans (ew58_78))))))) (w58_84) ((funext (hA_c253 84 rfl)).trans ((funext (hA_c233 84 rfl)).trans ((funext (hA_c215 84 rfl)).trans ((funext (hA_c199 84 rfl)).trans ((funext (hA_c172 84 rfl)).trans ((funext (hA_c147 84 rfl)).trans (ew58_84))))))) (show inr (5) by omega) (show 5 ≤ (5) ∧ (5) ≤ 6 by omega) (show 2 ≤ (y7_6_53) ∧ (y7_6_53) ≤ 255 by omega) (show ∀ i, (0 : Int) ≤ i → i < 64 → 0 ≤ ((w58_78)) i by assumption) (show su (fun i => ((w58_78)) i) 64 = (y7_6_53) by omega) (show 2 ≤ su (fun i => pos1 (((w58_78)) i)) 64 by omega) (show CW ((w58_78)) ((w58_84)) ((y7_6_53)) 11 by assumption) (show CZ ((w58_78)) 11 by assumption) (fun z20 σ F16 A17 H hS18 hA19 y21 ey22 pz20_0 pz20_1 pz20_2 => ⟨rfl, ?_⟩))
                              have r23 : (0 : Int) ≤ y21 ∧ y21 ≤ 100000000 := by have h1 : (0 : Int) ≤ F16 6 35 ∧ F16 6 35 ≤ 100000000 := H.frng 6 35; rw [show F16 6 35 = y21 from (ey22)] at h1; exact h1
                              refine Ew_of (pc' := 356) (fun _ => x_istore rfl) ?_
                              refine Ew_of (pc' := 358) (fun _ => x_iload rfl (rk_o (lc253_6) rfl rfl)) ?_
                              exact w_ireturn rfl (k (tc233_0) σ _ _ H (SF_trans (SF_trans (SF_trans (SF_trans (SF_trans (SF_trans (SF_trans (SF_trans (SF_trans (SF_trans (SF_upd (SF_refl) rfl) hS_7 (any_sub rfl)) hS_34 (any_sub rfl)) hS_58 (any_sub rfl)) hS_c147 (any_sub rfl)) hS_c172 (any_sub rfl)) hS_c199 (any_sub rfl)) hS_c215 (any_sub rfl)) hS_c233 (any_sub rfl)) hS_c253 (any_sub rfl)) hS18 (any_sub rfl)) (SA_trans (SA_trans (SA_trans (SA_trans (SA_trans (SA_trans (SA_trans (SA_trans (SA_trans (SA_trans (SA_refl) hA_7 (any_subA rfl)) hA_34 (any_subA rfl)) hA_58 (any_subA rfl)) hA_c147 (any_subA rfl)) hA_c172 (any_subA rfl)) hA_c199 (any_subA rfl)) hA_c215 (any_subA rfl)) hA_c233 (any_subA rfl)) hA_c253 (any_subA rfl)) hA19 (any_subA rfl)) (y21) ((ey22)) (show inr (tc233_0) by omega) (show (tc233_0) = -2 ∨ 1 ≤ (tc233_0) ∧ (tc233_0) ≤ 128 by omega) (show (tc233_0) = -2 ∨ 0 ≤ (y21) ∧ (y21) ≤ 2047 by omega))
                          · refine Ew_of (pc' := 260) (fun _ => x_aload_n rfl lc253_0) ?_
                            have r24 : (0 : Int) ≤ F_c199 6 35 ∧ F_c199 6 35 ≤ 100000000 := by have h1 : (0 : Int) ≤ F_c253 6 35 ∧ F_c253 6 35 ≤ 100000000 := H.frng 6 35; rw [show F_c253 6 35 = F_c199 6 35 from (((hS_c253 6 35 rfl).trans (hS_c233 6 35 rfl)).trans (hS_c215 6 35 rfl))] at h1; exact h1
                            refine w_inv H (o := 6) rfl rfl rfl (H.perm 6 rfl) rfl rfl (by rfl) (M391 H (F_c199 6 35) ((((hS_c253 6 35 rfl).trans (hS_c233 6 35 rfl)).trans (hS_c215 6 35 rfl))) (A_c199 69) ((funext (hA_c253 69 rfl)).trans ((funext (hA_c233 69 rfl)).trans (funext (hA_c215 69 rfl))))  (fun σ F25 A26 H hS27 hA28 y30 ey31 wq32 ewq33 pz29_0 pz29_1 => ⟨rfl, ?_⟩))
                            have r34 : (0 : Int) ≤ y30 ∧ y30 ≤ 100000000 := by have h1 : (0 : Int) ≤ F25 6 35 ∧ F25 6 35 ≤ 100000000 := H.frng 6 35; rw [show F25 6 35 = y30 from (ey31)] at h1; exact h1
                            refine Ew_of (pc' := 264) (fun _ => x_aload_n rfl lc253_0) ?_
                            refine Ew_of (pc' := 266) (fun _ => x_bipush (z := 127) rfl (by decide)) ?_
                            refine Ew_of (pc' := 267) (fun _ => x_aload_n rfl lc253_0) ?_
                            refine w_gI H (o := 6) (w := y7_6_53) rfl (H.perm 6 rfl) rfl rfl rfl (fun _ => rfl) ((((((((((hS27 6 53 rfl).trans (hS_c253 6 53 rfl)).trans (hS_c233 6 53 rfl)).trans (hS_c215 6 53 rfl)).trans (hS_c199 6 53 rfl)).trans (hS_c172 6 53 rfl)).trans (hS_c147 6 53 rfl)).trans (hS_58 6 53 rfl)).trans (hS_34 6 53 rfl)).trans (ey7_6_53)) ?_
                            refine w_iadd rfl ?_
                            refine Ew_of (pc' := 273) (fun _ => x_bipush (z := 8) rfl (by decide)) ?_
                            refine w_inv H (o := 6) rfl rfl rfl (H.perm 6 rfl) rfl rfl (by rfl) (M389 H (y30) ((ey31)) (wq32) (ewq33) (show inr ((127 + y7_6_53)) by omega) (show inr (8) by omega) (show 0 ≤ (8) ∧ (8) ≤ 31 by omega) (show 0 ≤ (y30) ∧ (y30) ≤ 90000000 by omega) (fun σ F35 A36 H hS37 hA38 y40 ey41 wq42 ewq43 pz39_0 pz39_1 => ⟨rfl, ?_⟩))
                            have r44 : (0 : Int) ≤ y40 ∧ y40 ≤ 100000000 := by have h1 : (0 : Int) ≤ F35 6 35 ∧ F35 6 35 ≤ 100000000 := H.frng 6 35; rw [show F35 6 35 = y40 from (ey41)] at h1; exact h1
                            refine Ew_of (pc' := 277) (fun _ => x_iconst rfl) ?_
                            refine Ew_of (pc' := 279) (fun _ => x_istore rfl) ?_
                            suffices hl279 : ∀ (m : Nat), ∀ (ls : rO) (σ : rS) (F_279 : hF) (A_279 : hA) (x279_7 : Int), rlook ls 0 = some (.ref (D 6)) → rlook ls 3 = some (I (tc147_0)) → rlook ls 7 = some (I (x279_7)) → HS σ0 σ D N F_279 A_279 → SF [(6, 35)] F35 F_279 → SA [69] A36 A_279 → ∀ y279_6_35 : Int, F_279 6 35 = y279_6_35 → (inr (x279_7)) → (0 ≤ (x279_7) ∧ (x279_7) ≤ (y7_6_53) + 1) → ((y40) ≤ (y279_6_35) ∧ (y279_6_35) ≤ (y40) + 4 * (x279_7)) → ((y7_6_53) + 1 - (x279_7)).toNat = m → Ew 422 (d + 3) 279 ls [] σ c s Q from
                              hl279 _ _ σ _ _ (0) (rk_o (lc253_0) rfl rfl) (rk_o (lc253_3) rfl rfl) (rk_s) H (SF_refl) (SA_refl) (y40) ((ey41))  (show inr (0) by omega) (show 0 ≤ (0) ∧ (0) ≤ (y7_6_53) + 1 by omega) (show (y40) ≤ (y40) ∧ (y40) ≤ (y40) + 4 * (0) by omega) rfl
                            as_aux_lemma =>
                            intro m
                            induction m using Nat.strongRecOn with
                            | _ m ih279 =>
                              intro ls σ F_279 A_279 x279_7 l279_0 l279_3 l279_7 H hS_279 hA_279 y279_6_35 ey279_6_35  j279_0 j279_1 j279_2 hm279
                              have r45 : (0 : Int) ≤ y279_6_35 ∧ y279_6_35 ≤ 100000000 := by have h1 : (0 : Int) ≤ F_279 6 35 ∧ F_279 6 35 ≤ 100000000 := H.frng 6 35; rw [show F_279 6 35 = y279_6_35 from (ey279_6_35)] at h1; exact h1
                              refine Ew_of (pc' := 281) (fun _ => x_iload rfl l279_7) ?_
                              refine Ew_of (pc' := 282) (fun _ => x_aload_n rfl l279_0) ?_
                              refine w_gI H (o := 6) (w := y7_6_53) rfl (H.perm 6 rfl) rfl rfl rfl (fun _ => rfl) ((((((((((((hS_279 6 53 rfl).trans (hS37 6 53 rfl)).trans (hS27 6 53 rfl)).trans (hS_c253 6 53 rfl)).trans (hS_c233 6 53 rfl)).trans (hS_c215 6 53 rfl)).trans (hS_c199 6 53 rfl)).trans (hS_c172 6 53 rfl)).trans (hS_c147 6 53 rfl)).trans (hS_58 6 53 rfl)).trans (hS_34 6 53 rfl)).trans (ey7_6_53)) ?_
                              refine w_icmpge (t := 335) rfl rfl (show inr (x279_7) by omega) (show inr (y7_6_53) by omega) (fun b46 => ?_) (fun b46 => ?_)
                              · refine Ew_of (pc' := 336) (fun _ => x_iload_n rfl l279_3) ?_
                                exact w_ireturn rfl (k (tc147_0) σ _ _ H (SF_trans (SF_trans (SF_trans (SF_trans (SF_trans (SF_trans (SF_trans (SF_trans (SF_trans (SF_trans (SF_trans (SF_trans (SF_upd (SF_refl) rfl) hS_7 (any_sub rfl)) hS_34 (any_sub rfl)) hS_58 (any_sub rfl)) hS_c147 (any_sub rfl)) hS_c172 (any_sub rfl)) hS_c199 (any_sub rfl)) hS_c215 (any_sub rfl)) hS_c233 (any_sub rfl)) hS_c253 (any_sub rfl)) hS27 (any_sub rfl)) hS37 (any_sub rfl)) hS_279 (any_sub rfl)) (SA_trans (SA_trans (SA_trans (SA_trans (SA_trans (SA_trans (SA_trans (SA_trans (SA_trans (SA_trans (SA_trans (SA_trans (SA_refl) hA_7 (any_subA rfl)) hA_34 (any_subA rfl)) hA_58 (any_subA rfl)) hA_c147 (any_subA rfl)) hA_c172 (any_subA rfl)) hA_c199 (any_subA rfl)) hA_c215 (any_subA rfl)) hA_c233 (any_subA rfl)) hA_c253 (any_subA rfl)) hA28 (any_subA rfl)) hA38 (any_subA rfl)) hA_279 (any_subA rfl)) (y279_6_35) ((ey279_6_35)) (show inr (tc147_0) by omega) (show (tc147_0) = -2 ∨ 1 ≤ (tc147_0) ∧ (tc147_0) ≤ 128 by omega) (show (tc147_0) = -2 ∨ 0 ≤ (y279_6_35) ∧ (y279_6_35) ≤ 2047 by omega))
                              · refine Ew_of (pc' := 289) (fun _ => x_aload_n rfl l279_0) ?_
                                refine Ew_of (pc' := 291) (fun _ => x_iload rfl l279_7) ?_
                                refine Ew_of (pc' := 292) (fun _ => x_iconst rfl) ?_
                                refine w_iadd rfl ?_
                                refine Ew_of (pc' := 294) (fun _ => x_aload_n rfl l279_0) ?_
                                refine w_gI H (o := 6) (w := y7_6_53) rfl (H.perm 6 rfl) rfl rfl rfl (fun _ => rfl) ((((((((((((hS_279 6 53 rfl).trans (hS37 6 53 rfl)).trans (hS27 6 53 rfl)).trans (hS_c253 6 53 rfl)).trans (hS_c233 6 53 rfl)).trans (hS_c215 6 53 rfl)).trans (hS_c199 6 53 rfl)).trans (hS_c172 6 53 rfl)).trans (hS_c147 6 53 rfl)).trans (hS_58 6 53 rfl)).trans (hS_34 6 53 rfl)).trans (ey7_6_53)) ?_
                                have hc313 : ∀ (tc313_0 : Int), ∀ (ls : rO) (σ : rS) (F_c313 : hF) (A_c313 : hA) , rlook ls 0 = some (.ref (D 6)) → rlook ls 3 = some (I (tc147_0)) → rlook ls 7 = some (I (x279_7)) → HS σ0 σ D N F_c313 A_c313 → SF [] F_279 F_c313 → SA [] A_279 A_c313 → (inr (tc313_0)) → ((((x279_7 + 1)) ≥ (y7_6_53) ∧ (tc313_0) = (0)) ∨ (((x279_7 + 1)) < (y7_6_53) ∧ (-2147483648) ≤ ((w58_84) ((x279_7 + 1))) ∧ ((w58_84) ((x279_7 + 1))) ≤ 2147483647 ∧ (tc313_0) = ((w58_84) ((x279_7 + 1))))) → Ew 422 (d + 3) 313 ls [I (tc313_0), .ref (D 6)] σ c s Q := by
                                 as_aux_lemma =>
                                  intro tc313_0 ls σ F_c313 A_c313  lc313_0 lc313_3 lc313_7 H hS_c313 hA_c313   jc313_0 jc313_1
                                  refine Ew_of (pc' := 314) (fun _ => x_iconst rfl) ?_
                                  refine w_inv H (o := 6) rfl rfl rfl (H.perm 6 rfl) rfl rfl (by rfl) (M389 H (y279_6_35) (((hS_c313 6 35 rfl).trans (ey279_6_35))) (A_279 69) (funext (hA_c313 69 rfl)) (show inr (tc313_0) by omega) (show inr (4) by omega) (show 0 ≤ (4) ∧ (4) ≤ 31 by omega) (show 0 ≤ (y279_6_35) ∧ (y279_6_35) ≤ 90000000 by omega) (fun σ F47 A48 H hS49 hA50 y52 ey53 wq54 ewq55 pz51_0 pz51_1 => ⟨rfl, ?_⟩))
                                  have r56 : (0 : Int) ≤ y52 ∧ y52 ≤ 100000000 := by have h1 : (0 : Int) ≤ F47 6 35 ∧ F47 6 35 ≤ 100000000 := H.frng 6 35; rw [show F47 6 35 = y52 from (ey53)] at h1; exact h1
                                  refine Ew_of (pc' := 318) (fun _ => x_aload_n rfl lc313_0) ?_
                                  refine Ew_of (pc' := 319) (fun _ => x_aload_n rfl lc313_0) ?_
                                  refine w_gT H (o := 6) (t := 84) rfl (H.perm 6 rfl) rfl rfl rfl rfl rfl rfl ?_
                                  refine Ew_of (pc' := 324) (fun _ => x_iload rfl lc313_7) ?_
                                  refine w_lI H (o := 84) (n := 257) rfl (H.perm 84 rfl) rfl rfl (H.fix 84 rfl rfl) (show 0 ≤ x279_7 ∧ x279_7 < ((257 : Nat) : Int) by omega) (by decide) (fun v57 ev57 qv57 => ?_)
                                  have qv57 : (-2147483648 : Int) ≤ v57 ∧ v57 ≤ 2147483647 := qv57
                                  have ev57 : (w58_84) (x279_7) = v57 := (congrFun ((funext (hA50 84 rfl)).trans ((funext (hA_c313 84 rfl)).trans ((funext (hA_279 84 rfl)).trans ((funext (hA38 84 rfl)).trans ((funext (hA28 84 rfl)).trans ((funext (hA_c253 84 rfl)).trans ((funext (hA_c233 84 rfl)).trans ((funext (hA_c215 84 rfl)).trans ((funext (hA_c199 84 rfl)).trans ((funext (hA_c172 84 rfl)).trans ((funext (hA_c147 84 rfl)).trans (ew58_84)))))))))))) (x279_7)).symm.trans ev57
                                  refine Ew_of (pc' := 326) (fun _ => x_iconst rfl) ?_
                                  refine w_inv H (o := 6) rfl rfl rfl (H.perm 6 rfl) rfl rfl (by rfl) (M389 H (y52) ((ey53)) (wq54) (ewq55) (show inr (v57) by omega) (show inr (4) by omega) (show 0 ≤ (4) ∧ (4) ≤ 31 by omega) (show 0 ≤ (y52) ∧ (y52) ≤ 90000000 by omega) (fun σ F58 A59 H hS60 hA61 y63 ey64 wq65 ewq66 pz62_0 pz62_1 => ⟨rfl, ?_⟩))
                                  have r67 : (0 : Int) ≤ y63 ∧ y63 ≤ 100000000 := by have h1 : (0 : Int) ≤ F58 6 35 ∧ F58 6 35 ≤ 100000000 := H.frng 6 35; rw [show F58 6 35 = y63 from (ey64)] at h1; exact h1
                                  refine Ew_of (pc' := 332) (fun _ => x_iinc (len := 3) rfl (lc313_7)) ?_
                                  refine Ew_of (pc' := 279) (fun _ => x_goto rfl rfl) ?_
                                  exact ih279 _ (by omega) _ σ _ _ ((x279_7 + 2)) (rk_o (lc313_0) rfl rfl) (rk_o (lc313_3) rfl rfl) (rk_s) H (SF_trans (SF_trans (SF_trans (hS_279) hS_c313 (any_sub rfl)) hS49 (any_sub rfl)) hS60 (any_sub rfl)) (SA_trans (SA_trans (SA_trans (hA_279) hA_c313 (any_subA rfl)) hA50 (any_subA rfl)) hA61 (any_subA rfl)) (y63) ((ey64))  (show inr ((x279_7 + 2)) by omega) (show 0 ≤ ((x279_7 + 2)) ∧ ((x279_7 + 2)) ≤ (y7_6_53) + 1 by omega) (show (y40) ≤ (y63) ∧ (y63) ≤ (y40) + 4 * ((x279_7 + 2)) by omega) rfl
                                refine w_icmpge (t := 312) rfl rfl (show inr ((x279_7 + 1)) by omega) (show inr (y7_6_53) by omega) (fun b68 => ?_) (fun b68 => ?_)
                                · refine Ew_of (pc' := 313) (fun _ => x_iconst rfl) ?_
                                  exact hc313 (0) _ σ _ _  (l279_0) (l279_3) (l279_7) H (SF_refl) (SA_refl)   (show inr (0) by omega) (show (((x279_7 + 1)) ≥ (y7_6_53) ∧ (0) = (0)) ∨ (((x279_7 + 1)) < (y7_6_53) ∧ (-2147483648) ≤ ((w58_84) ((x279_7 + 1))) ∧ ((w58_84) ((x279_7 + 1))) ≤ 2147483647 ∧ (0) = ((w58_84) ((x279_7 + 1)))) by omega)
                                · refine Ew_of (pc' := 301) (fun _ => x_aload_n rfl l279_0) ?_
                                  refine w_gT H (o := 6) (t := 84) rfl (H.perm 6 rfl) rfl rfl rfl rfl rfl rfl ?_
                                  refine Ew_of (pc' := 306) (fun _ => x_iload rfl l279_7) ?_
                                  refine Ew_of (pc' := 307) (fun _ => x_iconst rfl) ?_
                                  refine w_iadd rfl ?_
                                  refine w_lI H (o := 84) (n := 257) rfl (H.perm 84 rfl) rfl rfl (H.fix 84 rfl rfl) (show 0 ≤ (x279_7 + 1) ∧ (x279_7 + 1) < ((257 : Nat) : Int) by omega) (by decide) (fun v69 ev69 qv69 => ?_)
                                  have qv69 : (-2147483648 : Int) ≤ v69 ∧ v69 ≤ 2147483647 := qv69
                                  have ev69 : (w58_84) ((x279_7 + 1)) = v69 := (congrFun ((funext (hA_279 84 rfl)).trans ((funext (hA38 84 rfl)).trans ((funext (hA28 84 rfl)).trans ((funext (hA_c253 84 rfl)).trans ((funext (hA_c233 84 rfl)).trans ((funext (hA_c215 84 rfl)).trans ((funext (hA_c199 84 rfl)).trans ((funext (hA_c172 84 rfl)).trans ((funext (hA_c147 84 rfl)).trans (ew58_84)))))))))) ((x279_7 + 1))).symm.trans ev69
                                  refine Ew_of (pc' := 313) (fun _ => x_goto rfl rfl) ?_
                                  exact hc313 (v69) _ σ _ _  (l279_0) (l279_3) (l279_7) H (SF_refl) (SA_refl)   (show inr (v69) by omega) (show (((x279_7 + 1)) ≥ (y7_6_53) ∧ (v69) = (0)) ∨ (((x279_7 + 1)) < (y7_6_53) ∧ (-2147483648) ≤ ((w58_84) ((x279_7 + 1))) ∧ ((w58_84) ((x279_7 + 1))) ≤ 2147483647 ∧ (v69) = ((w58_84) ((x279_7 + 1)))) by omega)
                        refine w_icmpne (t := 253) rfl rfl (show inr (tc147_0) by omega) (show inr (9999) by omega) (fun b70 => ?_) (fun b70 => ?_)
                        · exact hc253  _ σ _ _  (rk_o (lc233_0) rfl rfl) (rk_o (lc233_3) rfl rfl) (rk_o (lc233_4) rfl rfl) (rk_o (lc233_5) rfl rfl) (rk_s) H (SF_refl) (SA_refl)   (show ((tc147_0) ≠ (9999)) ∨ ((tc147_0) = (9999) ∧ (tc233_0) ≠ (9999)) by omega)
                        · refine Ew_of (pc' := 244) (fun _ => x_iload rfl rk_s) ?_
                          refine Ew_of (pc' := 247) (fun _ => x_sipush (z := 9999) rfl (by decide)) ?_
                          refine w_icmpne (t := 253) rfl rfl (show inr (tc233_0) by omega) (show inr (9999) by omega) (fun b71 => ?_) (fun b71 => ?_)
                          · exact hc253  _ σ _ _  (rk_o (lc233_0) rfl rfl) (rk_o (lc233_3) rfl rfl) (rk_o (lc233_4) rfl rfl) (rk_o (lc233_5) rfl rfl) (rk_s) H (SF_refl) (SA_refl)   (show ((tc147_0) ≠ (9999)) ∨ ((tc147_0) = (9999) ∧ (tc233_0) ≠ (9999)) by omega)
                          · refine Ew_of (pc' := 252) (fun _ => x_bipush (z := -2) rfl (by decide)) ?_
                            have r72 : (0 : Int) ≤ F_c199 6 35 ∧ F_c199 6 35 ≤ 100000000 := by have h1 : (0 : Int) ≤ F_c233 6 35 ∧ F_c233 6 35 ≤ 100000000 := H.frng 6 35; rw [show F_c233 6 35 = F_c199 6 35 from ((hS_c233 6 35 rfl).trans (hS_c215 6 35 rfl))] at h1; exact h1
                            exact w_ireturn rfl (k ((-2)) σ _ _ H (SF_trans (SF_trans (SF_trans (SF_trans (SF_trans (SF_trans (SF_trans (SF_trans (SF_upd (SF_refl) rfl) hS_7 (any_sub rfl)) hS_34 (any_sub rfl)) hS_58 (any_sub rfl)) hS_c147 (any_sub rfl)) hS_c172 (any_sub rfl)) hS_c199 (any_sub rfl)) hS_c215 (any_sub rfl)) hS_c233 (any_sub rfl)) (SA_trans (SA_trans (SA_trans (SA_trans (SA_trans (SA_trans (SA_trans (SA_trans (SA_refl) hA_7 (any_subA rfl)) hA_34 (any_subA rfl)) hA_58 (any_subA rfl)) hA_c147 (any_subA rfl)) hA_c172 (any_subA rfl)) hA_c199 (any_subA rfl)) hA_c215 (any_subA rfl)) hA_c233 (any_subA rfl)) (F_c199 6 35) (((hS_c233 6 35 rfl).trans (hS_c215 6 35 rfl))) (show inr ((-2)) by omega) (show ((-2)) = -2 ∨ 1 ≤ ((-2)) ∧ ((-2)) ≤ 128 by omega) (show ((-2)) = -2 ∨ 0 ≤ (F_c199 6 35) ∧ (F_c199 6 35) ≤ 2047 by omega))
                      refine w_icmple (t := 231) rfl rfl (show inr (tc215_0) by omega) (show inr (128) by omega) (fun b73 => ?_) (fun b73 => ?_)
                      · refine Ew_of (pc' := 233) (fun _ => x_iload rfl rk_s) ?_
                        exact hc233 (tc215_0) _ σ _ _  (rk_o (lc215_0) rfl rfl) (rk_o (lc215_3) rfl rfl) (rk_o (lc215_4) rfl rfl) (rk_o (lc215_5) rfl rfl) H (SF_refl) (SA_refl)   (show inr (tc215_0) by omega) (show ((tc215_0) ≤ (128) ∧ (tc215_0) = (tc215_0)) ∨ ((tc215_0) > (128) ∧ (tc215_0) = (9999)) by omega)
                      · refine Ew_of (pc' := 228) (fun _ => x_sipush (z := 9999) rfl (by decide)) ?_
                        refine Ew_of (pc' := 233) (fun _ => x_goto rfl rfl) ?_
                        exact hc233 (9999) _ σ _ _  (rk_o (lc215_0) rfl rfl) (rk_o (lc215_3) rfl rfl) (rk_o (lc215_4) rfl rfl) (rk_o (lc215_5) rfl rfl) H (SF_refl) (SA_refl)   (show inr (9999) by omega) (show ((tc215_0) ≤ (128) ∧ (9999) = (tc215_0)) ∨ ((tc215_0) > (128) ∧ (9999) = (9999)) by omega)
                    refine w_icmpge (t := 213) rfl rfl (show inr (tc172_0) by omega) (show inr (tc199_0) by omega) (fun b74 => ?_) (fun b74 => ?_)
                    · refine Ew_of (pc' := 215) (fun _ => x_iload rfl rk_s) ?_
                      exact hc215 (tc199_0) _ σ _ _  (rk_o (lc199_0) rfl rfl) (rk_o (lc199_3) rfl rfl) (rk_o (lc199_4) rfl rfl) (rk_s) H (SF_refl) (SA_refl)   (show inr (tc199_0) by omega) (show ((tc172_0) ≥ (tc199_0) ∧ (tc199_0) = (tc199_0)) ∨ ((tc172_0) < (tc199_0) ∧ (tc199_0) = (tc172_0)) by omega)
                    · refine Ew_of (pc' := 210) (fun _ => x_iload rfl (rk_o (lc199_4) rfl rfl)) ?_
                      refine Ew_of (pc' := 215) (fun _ => x_goto rfl rfl) ?_
                      exact hc215 (tc172_0) _ σ _ _  (rk_o (lc199_0) rfl rfl) (rk_o (lc199_3) rfl rfl) (rk_o (lc199_4) rfl rfl) (rk_s) H (SF_refl) (SA_refl)   (show inr (tc172_0) by omega) (show ((tc172_0) ≥ (tc199_0) ∧ (tc172_0) = (tc199_0)) ∨ ((tc172_0) < (tc199_0) ∧ (tc172_0) = (tc172_0)) by omega)
                  refine Ew_of (pc' := 175) (fun _ => x_iload_n rfl (rk_o (lc172_2) rfl rfl)) ?_
                  refine Ew_of (pc' := 176) (fun _ => x_iconst rfl) ?_
                  refine w_icmplt (t := 187) rfl rfl (show inr (x58_2) by omega) (show inr (2) by omega) (fun b75 => ?_) (fun b75 => ?_)
                  · refine Ew_of (pc' := 190) (fun _ => x_sipush (z := 9999) rfl (by decide)) ?_
                    refine Ew_of (pc' := 199) (fun _ => x_goto rfl rfl) ?_
                    exact hc199 (9999) _ σ _ _  (rk_o (lc172_0) rfl rfl) (rk_o (lc172_3) rfl rfl) (rk_s) H (SF_refl) (SA_refl)   (show inr (9999) by omega) (show (9999) = 9999 ∨ 1 ≤ (9999) ∧ (9999) ≤ 256 ∧ 2 ≤ (x58_2) ∧ 2 ≤ (y7_6_53) by omega)
                  · refine Ew_of (pc' := 180) (fun _ => x_aload_n rfl (rk_o (lc172_0) rfl rfl)) ?_
                    refine w_gI H (o := 6) (w := y7_6_53) rfl (H.perm 6 rfl) rfl rfl rfl (fun _ => rfl) (((((hS_c172 6 53 rfl).trans (hS_c147 6 53 rfl)).trans (hS_58 6 53 rfl)).trans (hS_34 6 53 rfl)).trans (ey7_6_53)) ?_
                    refine Ew_of (pc' := 184) (fun _ => x_iconst rfl) ?_
                    refine w_icmpge (t := 193) rfl rfl (show inr (y7_6_53) by omega) (show inr (2) by omega) (fun b76 => ?_) (fun b76 => ?_)
                    · refine Ew_of (pc' := 194) (fun _ => x_aload_n rfl (rk_o (lc172_0) rfl rfl)) ?_
                      refine Ew_of (pc' := 196) (fun _ => x_bipush (z := 6) rfl (by decide)) ?_
                      refine w_inv H (o := 6) rfl rfl rfl (H.perm 6 rfl) rfl rfl (by rfl) (M423 H (y7_6_53) ((((((hS_c172 6 53 rfl).trans (hS_c147 6 53 rfl)).trans (hS_58 6 53 rfl)).trans (hS_34 6 53 rfl)).trans (ey7_6_53))) (w58_78) ((funext (hA_c172 78 rfl)).trans ((funext (hA_c147 78 rfl)).trans (ew58_78))) (w58_84) ((funext (hA_c172 84 rfl)).trans ((funext (hA_c147 84 rfl)).trans (ew58_84))) (show inr (6) by omega) (show 5 ≤ (6) ∧ (6) ≤ 6 by omega) (show 2 ≤ (y7_6_53) ∧ (y7_6_53) ≤ 255 by omega) (show ∀ i, (0 : Int) ≤ i → i < 64 → 0 ≤ ((w58_78)) i by assumption) (show su (fun i => ((w58_78)) i) 64 = (y7_6_53) by omega) (show 2 ≤ su (fun i => pos1 (((w58_78)) i)) 64 by omega) (show CW ((w58_78)) ((w58_84)) ((y7_6_53)) 11 by assumption) (show CZ ((w58_78)) 11 by assumption) (fun z81 σ F77 A78 H hS79 hA80 y82 ey83 pz81_0 pz81_1 pz81_2 => ⟨rfl, ?_⟩))
                      have r84 : (0 : Int) ≤ y82 ∧ y82 ≤ 100000000 := by have h1 : (0 : Int) ≤ F77 6 35 ∧ F77 6 35 ≤ 100000000 := H.frng 6 35; rw [show F77 6 35 = y82 from (ey83)] at h1; exact h1
                      exact hc199 (z81) _ σ _ _  (rk_o (lc172_0) rfl rfl) (rk_o (lc172_3) rfl rfl) (rk_s) H (SF_trans (SF_refl) hS79 (any_sub rfl)) (SA_trans (SA_refl) hA80 (any_subA rfl))   (show inr (z81) by omega) (show (z81) = 9999 ∨ 1 ≤ (z81) ∧ (z81) ≤ 256 ∧ 2 ≤ (x58_2) ∧ 2 ≤ (y7_6_53) by omega)
                    · refine Ew_of (pc' := 190) (fun _ => x_sipush (z := 9999) rfl (by decide)) ?_
                      refine Ew_of (pc' := 199) (fun _ => x_goto rfl rfl) ?_
                      exact hc199 (9999) _ σ _ _  (rk_o (lc172_0) rfl rfl) (rk_o (lc172_3) rfl rfl) (rk_s) H (SF_refl) (SA_refl)   (show inr (9999) by omega) (show (9999) = 9999 ∨ 1 ≤ (9999) ∧ (9999) ≤ 256 ∧ 2 ≤ (x58_2) ∧ 2 ≤ (y7_6_53) by omega)
                refine Ew_of (pc' := 149) (fun _ => x_iload_n rfl (rk_o (lc147_2) rfl rfl)) ?_
                refine Ew_of (pc' := 150) (fun _ => x_iconst rfl) ?_
                refine w_icmplt (t := 161) rfl rfl (show inr (x58_2) by omega) (show inr (2) by omega) (fun b85 => ?_) (fun b85 => ?_)
                · refine Ew_of (pc' := 164) (fun _ => x_sipush (z := 9999) rfl (by decide)) ?_
                  refine Ew_of (pc' := 172) (fun _ => x_goto rfl rfl) ?_
                  exact hc172 (9999) _ σ _ _  (rk_o (lc147_0) rfl rfl) (rk_o (lc147_2) rfl rfl) (rk_s) H (SF_refl) (SA_refl)   (show inr (9999) by omega) (show (9999) = 9999 ∨ 1 ≤ (9999) ∧ (9999) ≤ 256 ∧ 2 ≤ (x58_2) ∧ 2 ≤ (y7_6_53) by omega)
                · refine Ew_of (pc' := 154) (fun _ => x_aload_n rfl (rk_o (lc147_0) rfl rfl)) ?_
                  refine w_gI H (o := 6) (w := y7_6_53) rfl (H.perm 6 rfl) rfl rfl rfl (fun _ => rfl) ((((hS_c147 6 53 rfl).trans (hS_58 6 53 rfl)).trans (hS_34 6 53 rfl)).trans (ey7_6_53)) ?_
                  refine Ew_of (pc' := 158) (fun _ => x_iconst rfl) ?_
                  refine w_icmpge (t := 167) rfl rfl (show inr (y7_6_53) by omega) (show inr (2) by omega) (fun b86 => ?_) (fun b86 => ?_)
                  · refine Ew_of (pc' := 168) (fun _ => x_aload_n rfl (rk_o (lc147_0) rfl rfl)) ?_
                    refine Ew_of (pc' := 169) (fun _ => x_iconst rfl) ?_
                    refine w_inv H (o := 6) rfl rfl rfl (H.perm 6 rfl) rfl rfl (by rfl) (M423 H (y7_6_53) (((((hS_c147 6 53 rfl).trans (hS_58 6 53 rfl)).trans (hS_34 6 53 rfl)).trans (ey7_6_53))) (w58_78) ((funext (hA_c147 78 rfl)).trans (ew58_78)) (w58_84) ((funext (hA_c147 84 rfl)).trans (ew58_84)) (show inr (5) by omega) (show 5 ≤ (5) ∧ (5) ≤ 6 by omega) (show 2 ≤ (y7_6_53) ∧ (y7_6_53) ≤ 255 by omega) (show ∀ i, (0 : Int) ≤ i → i < 64 → 0 ≤ ((w58_78)) i by assumption) (show su (fun i => ((w58_78)) i) 64 = (y7_6_53) by omega) (show 2 ≤ su (fun i => pos1 (((w58_78)) i)) 64 by omega) (show CW ((w58_78)) ((w58_84)) ((y7_6_53)) 11 by assumption) (show CZ ((w58_78)) 11 by assumption) (fun z91 σ F87 A88 H hS89 hA90 y92 ey93 pz91_0 pz91_1 pz91_2 => ⟨rfl, ?_⟩))
                    have r94 : (0 : Int) ≤ y92 ∧ y92 ≤ 100000000 := by have h1 : (0 : Int) ≤ F87 6 35 ∧ F87 6 35 ≤ 100000000 := H.frng 6 35; rw [show F87 6 35 = y92 from (ey93)] at h1; exact h1
                    exact hc172 (z91) _ σ _ _  (rk_o (lc147_0) rfl rfl) (rk_o (lc147_2) rfl rfl) (rk_s) H (SF_trans (SF_refl) hS89 (any_sub rfl)) (SA_trans (SA_refl) hA90 (any_subA rfl))   (show inr (z91) by omega) (show (z91) = 9999 ∨ 1 ≤ (z91) ∧ (z91) ≤ 256 ∧ 2 ≤ (x58_2) ∧ 2 ≤ (y7_6_53) by omega)
                  · refine Ew_of (pc' := 164) (fun _ => x_sipush (z := 9999) rfl (by decide)) ?_
                    refine Ew_of (pc' := 172) (fun _ => x_goto rfl rfl) ?_
                    exact hc172 (9999) _ σ _ _  (rk_o (lc147_0) rfl rfl) (rk_o (lc147_2) rfl rfl) (rk_s) H (SF_refl) (SA_refl)   (show inr (9999) by omega) (show (9999) = 9999 ∨ 1 ≤ (9999) ∧ (9999) ≤ 256 ∧ 2 ≤ (x58_2) ∧ 2 ≤ (y7_6_53) by omega)
              refine w_icmple (t := 137) rfl rfl (show inr (y7_6_53) by omega) (show inr (128) by omega) (fun b95 => ?_) (fun b95 => ?_)
              · refine Ew_of (pc' := 138) (fun _ => x_iconst rfl) ?_
                refine Ew_of (pc' := 139) (fun _ => x_aload_n rfl l58_0) ?_
                refine w_gI H (o := 6) (w := y7_6_53) rfl (H.perm 6 rfl) rfl rfl rfl (fun _ => rfl) (((hS_58 6 53 rfl).trans (hS_34 6 53 rfl)).trans (ey7_6_53)) ?_
                refine Ew_of (pc' := 143) (fun _ => x_iconst rfl) ?_
                refine w_iadd rfl ?_
                refine Ew_of (pc' := 145) (fun _ => x_iconst rfl) ?_
                refine w_idiv rfl (show inr ((y7_6_53 + 1)) ∧ 0 ≤ (y7_6_53 + 1) by omega) (show inr (2) ∧ 0 < 2 by omega) ?_
                refine w_iadd rfl ?_
                exact hc147 ((1 + ((y7_6_53 + 1) / 2))) _ σ _ _  (l58_0) (l58_2) H (SF_refl) (SA_refl)   (show inr ((1 + ((y7_6_53 + 1) / 2))) by omega) (show ((y7_6_53) ≤ (128) ∧ ((1 + ((y7_6_53 + 1) / 2))) = ((1 + ((y7_6_53 + 1) / 2)))) ∨ ((y7_6_53) > (128) ∧ ((1 + ((y7_6_53 + 1) / 2))) = (9999)) by omega)
              · refine Ew_of (pc' := 134) (fun _ => x_sipush (z := 9999) rfl (by decide)) ?_
                refine Ew_of (pc' := 147) (fun _ => x_goto rfl rfl) ?_
                exact hc147 (9999) _ σ _ _  (l58_0) (l58_2) H (SF_refl) (SA_refl)   (show inr (9999) by omega) (show ((y7_6_53) ≤ (128) ∧ (9999) = ((1 + ((y7_6_53 + 1) / 2)))) ∨ ((y7_6_53) > (128) ∧ (9999) = (9999)) by omega)
            · have hcb := hci.2.2.1 ((x58_3)) (by omega) (by omega)
              refine Ew_of (pc' := 67) (fun _ => x_aload_n rfl l58_0) ?_
              refine w_gT H (o := 6) (t := 84) rfl (H.perm 6 rfl) rfl rfl rfl rfl rfl rfl ?_
              refine Ew_of (pc' := 71) (fun _ => x_iload_n rfl l58_3) ?_
              refine Ew_of (pc' := 72) (fun _ => x_aload_n rfl l58_0) ?_
              refine Ew_of (pc' := 73) (fun _ => x_iload_n rfl l58_3) ?_
              refine Ew_of (pc' := 74) (fun _ => x_iload_n rfl l58_1) ?_
              refine w_inv H (o := 6) rfl rfl rfl (H.perm 6 rfl) rfl rfl (by rfl) (M421 H (w82) ((funext (hA_58 82 rfl)).trans ((funext (hA_34 82 rfl)).trans ((funext (hA_7 82 rfl)).trans (ew82)))) (show inr (x58_3) by omega) (show inr (a1) by omega) (show 0 ≤ (x58_3) ∧ (x58_3) ≤ 255 by omega) (show 0 ≤ (a1) ∧ (a1) ≤ 11 by omega) (show BD ((w82)) by assumption) (fun z100 σ F96 A97 H hS98 hA99 pz100_0 pz100_1 => ⟨rfl, ?_⟩))
              have hz77 : 0 ≤ (z100) ∧ (z100) ≤ 11 := by omega
              refine w_sI H (o := 84) (n := 257) rfl (H.perm 84 rfl) rfl rfl (H.fix 84 rfl rfl) (show 0 ≤ x58_3 ∧ x58_3 < ((257 : Nat) : Int) by omega) (by decide) (show (-2147483648 : Int) ≤ z100 ∧ z100 ≤ 2147483647 by omega) (fun σ H => ?_)
              refine Ew_of (pc' := 79) (fun _ => x_aload_n rfl l58_0) ?_
              refine w_gT H (o := 6) (t := 78) rfl (H.perm 6 rfl) rfl rfl rfl rfl rfl rfl ?_
              refine Ew_of (pc' := 83) (fun _ => x_aload_n rfl l58_0) ?_
              refine w_gT H (o := 6) (t := 84) rfl (H.perm 6 rfl) rfl rfl rfl rfl rfl rfl ?_
              refine Ew_of (pc' := 87) (fun _ => x_iload_n rfl l58_3) ?_
              refine w_lI H (o := 84) (n := 257) rfl (H.perm 84 rfl) rfl rfl (H.fix 84 rfl rfl) (show 0 ≤ x58_3 ∧ x58_3 < ((257 : Nat) : Int) by omega) (by decide) (fun v101 ev101 qv101 => ?_)
              have qv101 : (-2147483648 : Int) ≤ v101 ∧ v101 ≤ 2147483647 := qv101
              have ev101 : (upd1 (w58_84) (x58_3) (z100)) (x58_3) = v101 := (congrFun (congrArg (fun q => upd1 q (x58_3) (z100)) ((funext (hA99 84 rfl)).trans (ew58_84))) (x58_3)).symm.trans ev101
              have hv1 := ev101
              rw [upd1_s] at hv1
              have hn1 := jnn ((v101)) (by omega) (by omega)
              have hk1 : ∀ q, q = (v101) → ((w58_78)) q = ((w58_78)) ((v101)) := fun q e => by rw [e]
              refine w_lI H (o := 78) (n := 256) rfl (H.perm 78 rfl) rfl rfl (H.fix 78 rfl rfl) (show 0 ≤ v101 ∧ v101 < ((256 : Nat) : Int) by omega) (by decide) (fun v102 ev102 qv102 => ?_)
              have qv102 : (-2147483648 : Int) ≤ v102 ∧ v102 ≤ 2147483647 := qv102
              have ev102 : (w58_78) (v101) = v102 := (congrFun ((funext (hA99 78 rfl)).trans (ew58_78)) (v101)).symm.trans ev102
              have hc89 := ev102
              refine w_ifne (t := 98) rfl rfl (show inr (v102) by omega) (fun b103 => ?_) (fun b103 => ?_)
              · refine Ew_of (pc' := 99) (fun _ => x_iload_n rfl l58_2) ?_
                refine Ew_of (pc' := 100) (fun _ => x_istore_n rfl) ?_
                refine Ew_of (pc' := 101) (fun _ => x_aload_n rfl (rk_o (l58_0) rfl rfl)) ?_
                refine w_gT H (o := 6) (t := 78) rfl (H.perm 6 rfl) rfl rfl rfl rfl rfl rfl ?_
                refine Ew_of (pc' := 105) (fun _ => x_aload_n rfl (rk_o (l58_0) rfl rfl)) ?_
                refine w_gT H (o := 6) (t := 84) rfl (H.perm 6 rfl) rfl rfl rfl rfl rfl rfl ?_
                refine Ew_of (pc' := 109) (fun _ => x_iload_n rfl (rk_o (l58_3) rfl rfl)) ?_
                refine w_lI H (o := 84) (n := 257) rfl (H.perm 84 rfl) rfl rfl (H.fix 84 rfl rfl) (show 0 ≤ x58_3 ∧ x58_3 < ((257 : Nat) : Int) by omega) (by decide) (fun v104 ev104 qv104 => ?_)
                have qv104 : (-2147483648 : Int) ≤ v104 ∧ v104 ≤ 2147483647 := qv104
                have ev104 : (upd1 (w58_84) (x58_3) (z100)) (x58_3) = v104 := (congrFun (congrArg (fun q => upd1 q (x58_3) (z100)) ((funext (hA99 84 rfl)).trans (ew58_84))) (x58_3)).symm.trans ev104
                have hv2 := ev104
                rw [upd1_s] at hv2
                have hn2 := jnn ((v104)) (by omega) (by omega)
                have hu2 := jup ((v104)) (by omega) (by omega)
                have hs1 := su_upd1 (g := (w58_78)) (fun x => x) (j := (v104)) (v := ((w58_78)) ((v104)) + 1) (n := 64) (by omega) (by omega)
                have hs2 := su_upd1 (g := (w58_78)) pos1 (j := (v104)) (v := ((w58_78)) ((v104)) + 1) (n := 64) (by omega) (by omega)
                have hp1 := pos1_eq (((w58_78)) ((v104)))
                have hp2 := pos1_eq (((w58_78)) ((v104)) + 1)
                have hcc := hk1 ((v104)) (by omega)
                refine Ew_of (pc' := 111) (fun _ => x_dup2 rfl rfl rfl) ?_
                refine w_lI H (o := 78) (n := 256) rfl (H.perm 78 rfl) rfl rfl (H.fix 78 rfl rfl) (show 0 ≤ v104 ∧ v104 < ((256 : Nat) : Int) by omega) (by decide) (fun v105 ev105 qv105 => ?_)
                have qv105 : (-2147483648 : Int) ≤ v105 ∧ v105 ≤ 2147483647 := qv105
                have ev105 : (w58_78) (v104) = v105 := (congrFun ((funext (hA99 78 rfl)).trans (ew58_78)) (v104)).symm.trans ev105
                refine Ew_of (pc' := 113) (fun _ => x_iconst rfl) ?_
                refine w_iadd rfl ?_
                have hxx : ((v105 + 1)) = ((w58_78)) ((v104)) + 1 := by omega
                rw [← hxx] at hs1 hs2 hp2
                have hcw2 : CW (upd1 ((w58_78)) ((v104)) (((v105 + 1)))) ((upd1 (w58_84) (x58_3) (z100))) ((x58_3) + 1) 11 := by rw [hv2]; exact CW_next jcw rfl (by omega) (by omega) (by omega) (by omega)
                have hcz2 : CZ (upd1 ((w58_78)) ((v104)) (((v105 + 1)))) 11 := CZ_upd jcz (by omega)
                have : ∀ i, (0 : Int) ≤ i → i < 64 → 0 ≤ (upd1 ((w58_78)) ((v104)) (((v105 + 1)))) i := fun i a b => by by_cases e : i = (v104); (rw [e, upd1_s]; omega); (rw [upd1_o e]; exact jnn i a b)
                have : ∀ i, (0 : Int) ≤ i → i < 64 → (upd1 ((w58_78)) ((v104)) (((v105 + 1)))) i ≤ (x58_3) + 1 := fun i a b => by by_cases e : i = (v104); (rw [e, upd1_s]; omega); (rw [upd1_o e]; have := jup i a b; omega)
                refine w_sI H (o := 78) (n := 256) rfl (H.perm 78 rfl) rfl rfl (H.fix 78 rfl rfl) (show 0 ≤ v104 ∧ v104 < ((256 : Nat) : Int) by omega) (by decide) (show (-2147483648 : Int) ≤ (v105 + 1) ∧ (v105 + 1) ≤ 2147483647 by omega) (fun σ H => ?_)
                refine Ew_of (pc' := 118) (fun _ => x_iinc (len := 3) rfl (rk_o (l58_3) rfl rfl)) ?_
                refine Ew_of (pc' := 58) (fun _ => x_goto rfl rfl) ?_
                exact ih58 _ (by omega) _ σ _ _ (x58_2) ((x58_3 + 1)) (rk_o (rk_o (l58_0) rfl rfl) rfl rfl) (rk_o (rk_o (l58_1) rfl rfl) rfl rfl) (rk_o (rk_s) rfl rfl) (rk_s) H (SF_trans (hS_58) hS98 (any_sub rfl)) (SA_upd (SA_upd (SA_trans (hA_58) hA99 (any_subA rfl)) rfl) rfl)  (upd1 (w58_78) (v104) ((v105 + 1))) (congrArg (fun q => upd1 q (v104) ((v105 + 1))) ((funext (hA99 78 rfl)).trans (ew58_78))) (upd1 (w58_84) (x58_3) (z100)) (congrArg (fun q => upd1 q (x58_3) (z100)) ((funext (hA99 84 rfl)).trans (ew58_84))) (show inr (x58_2) by omega) (show inr ((x58_3 + 1)) by omega) (show (0) ≤ ((x58_3 + 1)) by omega) (show ((x58_3 + 1)) ≤ (0) ∨ ((x58_3 + 1)) ≤ ((y7_6_53)) by omega) (show su (fun i => ((upd1 (w58_78) (v104) ((v105 + 1)))) i) 64 = ((x58_3 + 1)) by omega) (show su (fun i => pos1 (((upd1 (w58_78) (v104) ((v105 + 1)))) i)) 64 = (x58_2) by omega) (show ∀ i, (0 : Int) ≤ i → i < 64 → 0 ≤ ((upd1 (w58_78) (v104) ((v105 + 1)))) i by assumption) (show CW ((upd1 (w58_78) (v104) ((v105 + 1)))) ((upd1 (w58_84) (x58_3) (z100))) (((x58_3 + 1))) 11 by assumption) (show CZ ((upd1 (w58_78) (v104) ((v105 + 1)))) 11 by assumption) (show 0 ≤ (x58_2) ∧ (x58_2) ≤ ((x58_3 + 1)) by omega) (show ∀ i, (0 : Int) ≤ i → i < 64 → ((upd1 (w58_78) (v104) ((v105 + 1)))) i ≤ ((x58_3 + 1)) by assumption) rfl
              · refine Ew_of (pc' := 93) (fun _ => x_iload_n rfl l58_2) ?_
                refine Ew_of (pc' := 94) (fun _ => x_iconst rfl) ?_
                refine w_iadd rfl ?_
                refine Ew_of (pc' := 99) (fun _ => x_goto rfl rfl) ?_
                refine Ew_of (pc' := 100) (fun _ => x_istore_n rfl) ?_
                refine Ew_of (pc' := 101) (fun _ => x_aload_n rfl (rk_o (l58_0) rfl rfl)) ?_
                refine w_gT H (o := 6) (t := 78) rfl (H.perm 6 rfl) rfl rfl rfl rfl rfl rfl ?_
                refine Ew_of (pc' := 105) (fun _ => x_aload_n rfl (rk_o (l58_0) rfl rfl)) ?_
                refine w_gT H (o := 6) (t := 84) rfl (H.perm 6 rfl) rfl rfl rfl rfl rfl rfl ?_
                refine Ew_of (pc' := 109) (fun _ => x_iload_n rfl (rk_o (l58_3) rfl rfl)) ?_
                refine w_lI H (o := 84) (n := 257) rfl (H.perm 84 rfl) rfl rfl (H.fix 84 rfl rfl) (show 0 ≤ x58_3 ∧ x58_3 < ((257 : Nat) : Int) by omega) (by decide) (fun v106 ev106 qv106 => ?_)
                have qv106 : (-2147483648 : Int) ≤ v106 ∧ v106 ≤ 2147483647 := qv106
                have ev106 : (upd1 (w58_84) (x58_3) (z100)) (x58_3) = v106 := (congrFun (congrArg (fun q => upd1 q (x58_3) (z100)) ((funext (hA99 84 rfl)).trans (ew58_84))) (x58_3)).symm.trans ev106
                have hv2 := ev106
                rw [upd1_s] at hv2
                have hn2 := jnn ((v106)) (by omega) (by omega)
                have hu2 := jup ((v106)) (by omega) (by omega)
                have hs1 := su_upd1 (g := (w58_78)) (fun x => x) (j := (v106)) (v := ((w58_78)) ((v106)) + 1) (n := 64) (by omega) (by omega)
                have hs2 := su_upd1 (g := (w58_78)) pos1 (j := (v106)) (v := ((w58_78)) ((v106)) + 1) (n := 64) (by omega) (by omega)
                have hp1 := pos1_eq (((w58_78)) ((v106)))
                have hp2 := pos1_eq (((w58_78)) ((v106)) + 1)
                have hcc := hk1 ((v106)) (by omega)
                refine Ew_of (pc' := 111) (fun _ => x_dup2 rfl rfl rfl) ?_
                refine w_lI H (o := 78) (n := 256) rfl (H.perm 78 rfl) rfl rfl (H.fix 78 rfl rfl) (show 0 ≤ v106 ∧ v106 < ((256 : Nat) : Int) by omega) (by decide) (fun v107 ev107 qv107 => ?_)
                have qv107 : (-2147483648 : Int) ≤ v107 ∧ v107 ≤ 2147483647 := qv107
                have ev107 : (w58_78) (v106) = v107 := (congrFun ((funext (hA99 78 rfl)).trans (ew58_78)) (v106)).symm.trans ev107
                refine Ew_of (pc' := 113) (fun _ => x_iconst rfl) ?_
                refine w_iadd rfl ?_
                have hxx : ((v107 + 1)) = ((w58_78)) ((v106)) + 1 := by omega
                rw [← hxx] at hs1 hs2 hp2
                have hcw2 : CW (upd1 ((w58_78)) ((v106)) (((v107 + 1)))) ((upd1 (w58_84) (x58_3) (z100))) ((x58_3) + 1) 11 := by rw [hv2]; exact CW_next jcw rfl (by omega) (by omega) (by omega) (by omega)
                have hcz2 : CZ (upd1 ((w58_78)) ((v106)) (((v107 + 1)))) 11 := CZ_upd jcz (by omega)
                have : ∀ i, (0 : Int) ≤ i → i < 64 → 0 ≤ (upd1 ((w58_78)) ((v106)) (((v107 + 1)))) i := fun i a b => by by_cases e : i = (v106); (rw [e, upd1_s]; omega); (rw [upd1_o e]; exact jnn i a b)
                have : ∀ i, (0 : Int) ≤ i → i < 64 → (upd1 ((w58_78)) ((v106)) (((v107 + 1)))) i ≤ (x58_3) + 1 := fun i a b => by by_cases e : i = (v106); (rw [e, upd1_s]; omega); (rw [upd1_o e]; have := jup i a b; omega)
                refine w_sI H (o := 78) (n := 256) rfl (H.perm 78 rfl) rfl rfl (H.fix 78 rfl rfl) (show 0 ≤ v106 ∧ v106 < ((256 : Nat) : Int) by omega) (by decide) (show (-2147483648 : Int) ≤ (v107 + 1) ∧ (v107 + 1) ≤ 2147483647 by omega) (fun σ H => ?_)
                refine Ew_of (pc' := 118) (fun _ => x_iinc (len := 3) rfl (rk_o (l58_3) rfl rfl)) ?_
                refine Ew_of (pc' := 58) (fun _ => x_goto rfl rfl) ?_
                exact ih58 _ (by omega) _ σ _ _ ((x58_2 + 1)) ((x58_3 + 1)) (rk_o (rk_o (l58_0) rfl rfl) rfl rfl) (rk_o (rk_o (l58_1) rfl rfl) rfl rfl) (rk_o (rk_s) rfl rfl) (rk_s) H (SF_trans (hS_58) hS98 (any_sub rfl)) (SA_upd (SA_upd (SA_trans (hA_58) hA99 (any_subA rfl)) rfl) rfl)  (upd1 (w58_78) (v106) ((v107 + 1))) (congrArg (fun q => upd1 q (v106) ((v107 + 1))) ((funext (hA99 78 rfl)).trans (ew58_78))) (upd1 (w58_84) (x58_3) (z100)) (congrArg (fun q => upd1 q (x58_3) (z100)) ((funext (hA99 84 rfl)).trans (ew58_84))) (show inr ((x58_2 + 1)) by omega) (show inr ((x58_3 + 1)) by omega) (show (0) ≤ ((x58_3 + 1)) by omega) (show ((x58_3 + 1)) ≤ (0) ∨ ((x58_3 + 1)) ≤ ((y7_6_53)) by omega) (show su (fun i => ((upd1 (w58_78) (v106) ((v107 + 1)))) i) 64 = ((x58_3 + 1)) by omega) (show su (fun i => pos1 (((upd1 (w58_78) (v106) ((v107 + 1)))) i)) 64 = ((x58_2 + 1)) by omega) (show ∀ i, (0 : Int) ≤ i → i < 64 → 0 ≤ ((upd1 (w58_78) (v106) ((v107 + 1)))) i by assumption) (show CW ((upd1 (w58_78) (v106) ((v107 + 1)))) ((upd1 (w58_84) (x58_3) (z100))) (((x58_3 + 1))) 11 by assumption) (show CZ ((upd1 (w58_78) (v106) ((v107 + 1)))) 11 by assumption) (show 0 ≤ ((x58_2 + 1)) ∧ ((x58_2 + 1)) ≤ ((x58_3 + 1)) by omega) (show ∀ i, (0 : Int) ≤ i → i < 64 → ((upd1 (w58_78) (v106) ((v107 + 1)))) i ≤ ((x58_3 + 1)) by assumption) rfl
        · refine Ew_of (pc' := 42) (fun _ => x_aload_n rfl l34_0) ?_
          refine w_gT H (o := 6) (t := 78) rfl (H.perm 6 rfl) rfl rfl rfl rfl rfl rfl ?_
          refine Ew_of (pc' := 46) (fun _ => x_iload_n rfl l34_2) ?_
          refine Ew_of (pc' := 47) (fun _ => x_iconst rfl) ?_
          refine w_sI H (o := 78) (n := 256) rfl (H.perm 78 rfl) rfl rfl (H.fix 78 rfl rfl) (show 0 ≤ x34_2 ∧ x34_2 < ((256 : Nat) : Int) by omega) (by decide) (show (-2147483648 : Int) ≤ 0 ∧ 0 ≤ 2147483647 by omega) (fun σ H => ?_)
          refine Ew_of (pc' := 51) (fun _ => x_iinc (len := 3) rfl (l34_2)) ?_
          refine Ew_of (pc' := 34) (fun _ => x_goto rfl rfl) ?_
          have : ∀ i, (0 : Int) ≤ i → i < ((x34_2 + 1)) → ((upd1 (w34_78) (x34_2) (0))) (0 + i) = 0 := share_z j34_3
          exact ih34 _ (by omega) _ σ _ _ ((x34_2 + 1)) (rk_o (l34_0) rfl rfl) (rk_o (l34_1) rfl rfl) (rk_s) H (hS_34) (SA_upd (hA_34) rfl)  (upd1 (w34_78) (x34_2) (0)) (congrArg (fun q => upd1 q (x34_2) (0)) (ew34_78)) (show inr ((x34_2 + 1)) by omega) (show (0) ≤ ((x34_2 + 1)) by omega) (show ((x34_2 + 1)) ≤ (0) ∨ ((x34_2 + 1)) ≤ ((256)) by omega) (show ∀ i, 0 ≤ i → i < ((x34_2 + 1)) → ((upd1 (w34_78) (x34_2) (0))) (0 + i) = 0 by assumption) rfl
    · refine Ew_of (pc' := 20) (fun _ => x_aload_n rfl l7_0) ?_
      refine Ew_of (pc' := 21) (fun _ => x_dup rfl rfl) ?_
      refine w_gI H (o := 6) (w := y7_6_53) rfl (H.perm 6 rfl) rfl rfl rfl (fun _ => rfl) (ey7_6_53) ?_
      refine Ew_of (pc' := 25) (fun _ => x_iconst rfl) ?_
      refine w_isub rfl ?_
      refine w_pI H (o := 6) rfl rfl (H.perm 6 rfl) rfl rfl rfl (fun _ => rfl) rfl (show (-1 : Int) ≤ (y7_6_53 - 1) ∧ (y7_6_53 - 1) ≤ 255 by omega) (fun σ H => ?_)
      refine Ew_of (pc' := 7) (fun _ => x_goto rfl rfl) ?_
      have : EXN ((w82)) (((y7_6_53 - 1))) := EXN_less (show EXN ((w82)) _ from by assumption) (by omega) (by omega)
      have := EXN_nn (show EXN ((w82)) (((y7_6_53 - 1))) from by assumption)
      exact ih7 _ (by omega) _ σ _ _  (l7_0) (l7_1) H (SF_upd (hS_7) rfl) (hA_7) ((y7_6_53 - 1)) (rfl)  (show 0 ≤ ((y7_6_53 - 1)) ∧ ((y7_6_53 - 1)) ≤ 255 by omega) (show EXN ((w82)) (((y7_6_53 - 1))) by assumption) rfl
