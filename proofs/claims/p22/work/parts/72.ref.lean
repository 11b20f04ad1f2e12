/-- Writer.describe -/
theorem M422 {σ0 σ : rS} {D N : Nat → Nat} {F : hF} {A : hA} {d c s : Nat} {Q : wQ} (H : HS σ0 σ D N F A) {a1 : Int} (w82 : Int → Int) (ew82 : A 82 = w82) (h0 : inr (a1)) (h1 : 1 ≤ (a1) ∧ (a1) ≤ 11) (h2 : CI ((w82)) ((a1))) (k : ∀ (z : Int) σ Fₚ Aₚ, HS σ0 σ D N Fₚ Aₚ → SF [(6, 35), (6, 53)] F Fₚ → SA [69, 71, 72, 73, 74, 75, 76, 77, 78, 84] A Aₚ → ∀ y6_35 : Int, Fₚ 6 35 = y6_35 → (inr (z)) → ((z) = -2 ∨ 1 ≤ (z) ∧ (z) ≤ 128) → ((z) = -2 ∨ 0 ≤ (y6_35) ∧ (y6_35) ≤ 2047) → Q (some (I z)) σ c s) : Ew 422 (d + 3) 0 (rargs 0 [.ref (D 6), I a1]) [] σ c s Q := by
  refine Ew_of (pcₚ := 1) (fun _ => x_aload_n rfl rfl) ?_
  refine Ew_of (pcₚ := 4) (fun _ => x_sipush (z := 255) rfl (by decide)) ?_
  refine w_pI H (o := 6) rfl rfl (H.perm 6 rfl) rfl rfl rfl (fun _ => rfl) rfl (show (-1 : Int) ≤ 255 ∧ 255 ≤ 255 from q_2214) (fun σ H => ?_)
  have hci : CI ((w82)) ((a1)) := h2
  have hbd := CI_BD hci
  have : EXN ((w82)) 255 := by obtain ⟨i, a, b, c⟩ := CI_some hci; exact ⟨i, a, by omega, c⟩
  suffices hl7 : ∀ (m : Nat), ∀ (ls : rO) (σ : rS) (F_7 : hF) (A_7 : hA) , rlook ls 0 = some (.ref (D 6)) → rlook ls 1 = some (I (a1)) → HS σ0 σ D N F_7 A_7 → SF [(6, 53)] (updF F 6 53 (255)) F_7 → SA [] A A_7 → ∀ y7_6_53 : Int, F_7 6 53 = y7_6_53 → (0 ≤ (y7_6_53) ∧ (y7_6_53) ≤ 255) → (EXN ((w82)) ((y7_6_53))) → ((y7_6_53) + 1).toNat = m → Ew 422 (d + 3) 7 ls [] σ c s Q from
    hl7 _ _ σ _ _  (rfl) (rfl) H (SF_refl) (SA_refl) (255) (rfl)  (show 0 ≤ (255) ∧ (255) ≤ 255 from q_134) (show EXN ((w82)) ((255)) by assumption) rfl
  as_aux_lemma =>
  intro m
  induction m using Nat.strongRecOn with
  | _ m ih7 =>
    intro ls σ F_7 A_7  l7_0 l7_1 H hS_7 hA_7 y7_6_53 ey7_6_53  j7_0 j7_1 hm7
    have r1 : (-1 : Int) ≤ y7_6_53 ∧ y7_6_53 ≤ 255 := rngE (show (-1 : Int) ≤ F_7 6 53 ∧ F_7 6 53 ≤ 255 from H.frng 6 53) (show F_7 6 53 = y7_6_53 from (ey7_6_53))
    refine Ew_of (pcₚ := 8) (fun _ => x_aload_n rfl l7_0) ?_
    refine w_gT H (o := 6) (t := 82) rfl (H.perm 6 rfl) rfl rfl rfl rfl rfl rfl ?_
    refine Ew_of (pcₚ := 12) (fun _ => x_aload_n rfl l7_0) ?_
    refine w_gI H (o := 6) (w := y7_6_53) rfl (H.perm 6 rfl) rfl rfl rfl (fun _ => rfl) (ey7_6_53) ?_
    refine w_lI H (o := 82) (n := 256) rfl (H.perm 82 rfl) rfl rfl (H.fix 82 rfl rfl) (show 0 ≤ y7_6_53 ∧ y7_6_53 < ((256 : Nat) : Int) from q_2215 j7_0 r1) (by decide) (fun v2 ev2 qv2 => ?_)
    have qv2 : (-2147483648 : Int) ≤ v2 ∧ v2 ≤ 2147483647 := qv2
    have ev2 : (w82) (y7_6_53) = v2 := (congrFun ((funext (hA_7 82 rfl)).trans (ew82)) (y7_6_53)).symm.trans ev2
    refine w_ifne (t := 32) rfl rfl (show inr (v2) from q_22 qv2) (fun b3 => ?_) (fun b3 => ?_)
    · refine Ew_of (pcₚ := 33) (fun _ => x_iconst rfl) ?_
      refine Ew_of (pcₚ := 34) (fun _ => x_istore_n rfl) ?_
      have : ∀ i, (0 : Int) ≤ i → i < 0 → ((A 78)) (0 + i) = 0 := fun i a b => absurd b (by omega)
      suffices hl34 : ∀ (m : Nat), ∀ (ls : rO) (σ : rS) (F_34 : hF) (A_34 : hA) (x34_2 : Int), rlook ls 0 = some (.ref (D 6)) → rlook ls 1 = some (I (a1)) → rlook ls 2 = some (I (x34_2)) → HS σ0 σ D N F_34 A_34 → SF [] F_7 F_34 → SA [78] A_7 A_34 → ∀ w34_78 : Int → Int, A_34 78 = w34_78 → (inr (x34_2)) → ((0) ≤ (x34_2)) → ((x34_2) ≤ (0) ∨ (x34_2) ≤ ((256))) → (∀ i, 0 ≤ i → i < (x34_2) → ((w34_78)) (0 + i) = 0) → (((256)) - (x34_2)).toNat = m → Ew 422 (d + 3) 34 ls [] σ c s Q from
        hl34 _ _ σ _ _ (0) (rk_o (l7_0) rfl rfl) (rk_o (l7_1) rfl rfl) (rk_s) H (SF_refl) (SA_refl)  (A 78) (funext (hA_7 78 rfl)) (show inr (0) from q_20) (show (0) ≤ (0) from q_25) (show (0) ≤ (0) ∨ (0) ≤ ((256)) from q_976) (show ∀ i, 0 ≤ i → i < (0) → ((A 78)) (0 + i) = 0 by assumption) rfl
      as_aux_lemma =>
      intro m
      induction m using Nat.strongRecOn with
      | _ m ih34 =>
        intro ls σ F_34 A_34 x34_2 l34_0 l34_1 l34_2 H hS_34 hA_34  w34_78 ew34_78 j34_0 j34_1 j34_2 j34_3 hm34
        refine Ew_of (pcₚ := 35) (fun _ => x_iload_n rfl l34_2) ?_
        refine Ew_of (pcₚ := 38) (fun _ => x_sipush (z := 256) rfl (by decide)) ?_
        refine w_icmpge (t := 54) rfl rfl (show inr (x34_2) from j34_0) (show inr (256) from q_716) (fun b4 => ?_) (fun b4 => ?_)
        · refine Ew_of (pcₚ := 55) (fun _ => x_iconst rfl) ?_
          refine Ew_of (pcₚ := 56) (fun _ => x_istore_n rfl) ?_
          refine Ew_of (pcₚ := 57) (fun _ => x_iconst rfl) ?_
          refine Ew_of (pcₚ := 58) (fun _ => x_istore_n rfl) ?_
          have hz : ∀ i, (0 : Int) ≤ i → i < 64 → ((w34_78)) i = 0 := fun i a b => by have := j34_3 i a (by omega); rw [Int.zero_add] at this; exact this
          have : su (fun i => ((w34_78)) i) 64 = 0 := su_z (g := (w34_78)) (fun x => x) rfl (fun i a b => hz i a (by omega))
          have : su (fun i => pos1 (((w34_78)) i)) 64 = 0 := su_z (g := (w34_78)) pos1 rfl (fun i a b => hz i a (by omega))
          have : ∀ i, (0 : Int) ≤ i → i < 64 → 0 ≤ ((w34_78)) i := fun i a b => by rw [hz i a b]; decide
          have : ∀ i, (0 : Int) ≤ i → i < 64 → ((w34_78)) i ≤ 0 := fun i a b => by rw [hz i a b]; decide
          have : CW ((w34_78)) ((A 84)) 0 11 := fun j a b => absurd b (by omega)
          have : CZ ((w34_78)) 11 := fun i a b c => hz i c b
          suffices hl58 : ∀ (m : Nat), ∀ (ls : rO) (σ : rS) (F_58 : hF) (A_58 : hA) (x58_2 : Int) (x58_3 : Int), rlook ls 0 = some (.ref (D 6)) → rlook ls 1 = some (I (a1)) → rlook ls 2 = some (I (x58_2)) → rlook ls 3 = some (I (x58_3)) → HS σ0 σ D N F_58 A_58 → SF [] F_34 F_58 → SA [78, 84] A_34 A_58 → ∀ w58_78 : Int → Int, A_58 78 = w58_78 → ∀ w58_84 : Int → Int, A_58 84 = w58_84 → (inr (x58_2)) → (inr (x58_3)) → ((0) ≤ (x58_3)) → ((x58_3) ≤ (0) ∨ (x58_3) ≤ ((y7_6_53))) → (su (fun i => ((w58_78)) i) 64 = (x58_3)) → (su (fun i => pos1 (((w58_78)) i)) 64 = (x58_2)) → (∀ i, (0 : Int) ≤ i → i < 64 → 0 ≤ ((w58_78)) i) → (CW ((w58_78)) ((w58_84)) ((x58_3)) 11) → (CZ ((w58_78)) 11) → (0 ≤ (x58_2) ∧ (x58_2) ≤ (x58_3)) → (∀ i, (0 : Int) ≤ i → i < 64 → ((w58_78)) i ≤ (x58_3)) → (((y7_6_53)) - (x58_3)).toNat = m → Ew 422 (d + 3) 58 ls [] σ c s Q from
            hl58 _ _ σ _ _ (0) (0) (rk_o (rk_o (l34_0) rfl rfl) rfl rfl) (rk_o (rk_o (l34_1) rfl rfl) rfl rfl) (rk_o (rk_s) rfl rfl) (rk_s) H (SF_refl) (SA_refl)  (w34_78) (ew34_78) (A 84) ((funext (hA_34 84 rfl)).trans (funext (hA_7 84 rfl))) (show inr (0) from q_20) (show inr (0) from q_20) (show (0) ≤ (0) from q_25) (show (0) ≤ (0) ∨ (0) ≤ ((y7_6_53)) from q_24) (show su (fun i => ((w34_78)) i) 64 = (0) by omega) (show su (fun i => pos1 (((w34_78)) i)) 64 = (0) by omega) (show ∀ i, (0 : Int) ≤ i → i < 64 → 0 ≤ ((w34_78)) i by assumption) (show CW ((w34_78)) ((A 84)) ((0)) 11 by assumption) (show CZ ((w34_78)) 11 by assumption) (show 0 ≤ (0) ∧ (0) ≤ (0) from q_1200) (show ∀ i, (0 : Int) ≤ i → i < 64 → ((w34_78)) i ≤ (0) by assumption) rfl
          as_aux_lemma =>
          intro m
          induction m using Nat.strongRecOn with
          | _ m ih58 =>
            intro ls σ F_58 A_58 x58_2 x58_3 l58_0 l58_1 l58_2 l58_3 H hS_58 hA_58  w58_78 ew58_78 w58_84 ew58_84 j58_0 j58_1 j58_2 j58_3 j58_4 j58_5 j58_6 j58_7 j58_8 j58_9 j58_10 hm58
            have jnn : ∀ i, (0 : Int) ≤ i → i < 64 → 0 ≤ ((w58_78)) i := by assumption
            have jup : ∀ i, (0 : Int) ≤ i → i < 64 → ((w58_78)) i ≤ (x58_3) := by assumption
            have jcw : CW ((w58_78)) ((w58_84)) ((x58_3)) 11 := j58_7
            have jcz : CZ ((w58_78)) 11 := j58_8
            refine Ew_of (pcₚ := 59) (fun _ => x_iload_n rfl l58_3) ?_
            refine Ew_of (pcₚ := 60) (fun _ => x_aload_n rfl l58_0) ?_
            refine w_gI H (o := 6) (w := y7_6_53) rfl (H.perm 6 rfl) rfl rfl rfl (fun _ => rfl) (((hS_58 6 53 rfl).trans (hS_34 6 53 rfl)).trans (ey7_6_53)) ?_
            refine w_icmpge (t := 121) rfl rfl (show inr (x58_3) from j58_1) (show inr (y7_6_53) from q_2195 r1) (fun b5 => ?_) (fun b5 => ?_)
            · have h3w : (x58_3) = (y7_6_53) := q_2216 b5 j58_3 j7_0
              have hcwF : CW ((w58_78)) ((w58_84)) ((y7_6_53)) 11 := by rw [← h3w]; assumption
              refine Ew_of (pcₚ := 122) (fun _ => x_aload_n rfl l58_0) ?_
              refine w_gI H (o := 6) (w := y7_6_53) rfl (H.perm 6 rfl) rfl rfl rfl (fun _ => rfl) (((hS_58 6 53 rfl).trans (hS_34 6 53 rfl)).trans (ey7_6_53)) ?_
              refine Ew_of (pcₚ := 128) (fun _ => x_sipush (z := 128) rfl (by decide)) ?_
              have hc147 : ∀ (tc147_0 : Int), ∀ (ls : rO) (σ : rS) (F_c147 : hF) (A_c147 : hA) , rlook ls 0 = some (.ref (D 6)) → rlook ls 2 = some (I (x58_2)) → HS σ0 σ D N F_c147 A_c147 → SF [] F_58 F_c147 → SA [] A_58 A_c147 → (inr (tc147_0)) → (((y7_6_53) ≤ (128) ∧ (tc147_0) = ((1 + ((y7_6_53 + 1) / 2)))) ∨ ((y7_6_53) > (128) ∧ (tc147_0) = (9999))) → Ew 422 (d + 3) 147 ls [I (tc147_0)] σ c s Q := by
               as_aux_lemma =>
                intro tc147_0 ls σ F_c147 A_c147  lc147_0 lc147_2 H hS_c147 hA_c147   jc147_0 jc147_1
                refine Ew_of (pcₚ := 148) (fun _ => x_istore_n rfl) ?_
                have hc172 : ∀ (tc172_0 : Int), ∀ (ls : rO) (σ : rS) (F_c172 : hF) (A_c172 : hA) , rlook ls 0 = some (.ref (D 6)) → rlook ls 2 = some (I (x58_2)) → rlook ls 3 = some (I (tc147_0)) → HS σ0 σ D N F_c172 A_c172 → SF [(6, 35)] F_c147 F_c172 → SA [69, 71, 72, 73, 74, 75, 76, 77] A_c147 A_c172 → (inr (tc172_0)) → ((tc172_0) = 9999 ∨ 1 ≤ (tc172_0) ∧ (tc172_0) ≤ 256 ∧ 2 ≤ (x58_2) ∧ 2 ≤ (y7_6_53)) → Ew 422 (d + 3) 172 ls [I (tc172_0)] σ c s Q := by
                 as_aux_lemma =>
                  intro tc172_0 ls σ F_c172 A_c172  lc172_0 lc172_2 lc172_3 H hS_c172 hA_c172   jc172_0 jc172_1
                  refine Ew_of (pcₚ := 174) (fun _ => x_istore rfl) ?_
                  have hc199 : ∀ (tc199_0 : Int), ∀ (ls : rO) (σ : rS) (F_c199 : hF) (A_c199 : hA) , rlook ls 0 = some (.ref (D 6)) → rlook ls 3 = some (I (tc147_0)) → rlook ls 4 = some (I (tc172_0)) → HS σ0 σ D N F_c199 A_c199 → SF [(6, 35)] F_c172 F_c199 → SA [69, 71, 72, 73, 74, 75, 76, 77] A_c172 A_c199 → (inr (tc199_0)) → ((tc199_0) = 9999 ∨ 1 ≤ (tc199_0) ∧ (tc199_0) ≤ 256 ∧ 2 ≤ (x58_2) ∧ 2 ≤ (y7_6_53)) → Ew 422 (d + 3) 199 ls [I (tc199_0)] σ c s Q := by
                   as_aux_lemma =>
                    intro tc199_0 ls σ F_c199 A_c199  lc199_0 lc199_3 lc199_4 H hS_c199 hA_c199   jc199_0 jc199_1
                    refine Ew_of (pcₚ := 201) (fun _ => x_istore rfl) ?_
                    refine Ew_of (pcₚ := 203) (fun _ => x_iload rfl (rk_o (lc199_4) rfl rfl)) ?_
                    refine Ew_of (pcₚ := 205) (fun _ => x_iload rfl rk_s) ?_
                    have hc215 : ∀ (tc215_0 : Int), ∀ (ls : rO) (σ : rS) (F_c215 : hF) (A_c215 : hA) , rlook ls 0 = some (.ref (D 6)) → rlook ls 3 = some (I (tc147_0)) → rlook ls 4 = some (I (tc172_0)) → rlook ls 5 = some (I (tc199_0)) → HS σ0 σ D N F_c215 A_c215 → SF [] F_c199 F_c215 → SA [] A_c199 A_c215 → (inr (tc215_0)) → (((tc172_0) ≥ (tc199_0) ∧ (tc215_0) = (tc199_0)) ∨ ((tc172_0) < (tc199_0) ∧ (tc215_0) = (tc172_0))) → Ew 422 (d + 3) 215 ls [I (tc215_0)] σ c s Q := by
                     as_aux_lemma =>
                      intro tc215_0 ls σ F_c215 A_c215  lc215_0 lc215_3 lc215_4 lc215_5 H hS_c215 hA_c215   jc215_0 jc215_1
                      refine Ew_of (pcₚ := 217) (fun _ => x_istore rfl) ?_
                      refine Ew_of (pcₚ := 219) (fun _ => x_iload rfl rk_s) ?_
                      refine Ew_of (pcₚ := 222) (fun _ => x_sipush (z := 128) rfl (by decide)) ?_
                      have hc233 : ∀ (tc233_0 : Int), ∀ (ls : rO) (σ : rS) (F_c233 : hF) (A_c233 : hA) , rlook ls 0 = some (.ref (D 6)) → rlook ls 3 = some (I (tc147_0)) → rlook ls 4 = some (I (tc172_0)) → rlook ls 5 = some (I (tc199_0)) → HS σ0 σ D N F_c233 A_c233 → SF [] F_c215 F_c233 → SA [] A_c215 A_c233 → (inr (tc233_0)) → (((tc215_0) ≤ (128) ∧ (tc233_0) = (tc215_0)) ∨ ((tc215_0) > (128) ∧ (tc233_0) = (9999))) → Ew 422 (d + 3) 233 ls [I (tc233_0)] σ c s Q := by
                       as_aux_lemma =>
                        intro tc233_0 ls σ F_c233 A_c233  lc233_0 lc233_3 lc233_4 lc233_5 H hS_c233 hA_c233   jc233_0 jc233_1
                        refine Ew_of (pcₚ := 235) (fun _ => x_istore rfl) ?_
                        refine Ew_of (pcₚ := 236) (fun _ => x_iload_n rfl (rk_o (lc233_3) rfl rfl)) ?_
                        refine Ew_of (pcₚ := 239) (fun _ => x_sipush (z := 9999) rfl (by decide)) ?_
                        have hc253 : ∀ (ls : rO) (σ : rS) (F_c253 : hF) (A_c253 : hA) , rlook ls 0 = some (.ref (D 6)) → rlook ls 3 = some (I (tc147_0)) → rlook ls 4 = some (I (tc172_0)) → rlook ls 5 = some (I (tc199_0)) → rlook ls 6 = some (I (tc233_0)) → HS σ0 σ D N F_c253 A_c253 → SF [] F_c233 F_c253 → SA [] A_c233 A_c253 → (((tc147_0) ≠ (9999)) ∨ ((tc147_0) = (9999) ∧ (tc233_0) ≠ (9999))) → Ew 422 (d + 3) 253 ls [] σ c s Q := by
                         as_aux_lemma =>
                          intro  ls σ F_c253 A_c253  lc253_0 lc253_3 lc253_4 lc253_5 lc253_6 H hS_c253 hA_c253   jc253_0
                          refine Ew_of (pcₚ := 254) (fun _ => x_iload_n rfl lc253_3) ?_
                          refine Ew_of (pcₚ := 256) (fun _ => x_iload rfl lc253_6) ?_
                          refine w_icmpgt (t := 337) rfl rfl (show inr (tc147_0) from jc147_0) (show inr (tc233_0) from jc233_0) (fun b6 => ?_) (fun b6 => ?_)
                          · refine Ew_of (pcₚ := 338) (fun _ => x_aload_n rfl lc253_0) ?_
                            refine Ew_of (pcₚ := 340) (fun _ => x_iload rfl lc253_4) ?_
                            refine Ew_of (pcₚ := 342) (fun _ => x_iload rfl lc253_5) ?_
                            refine w_icmpgt (t := 349) rfl rfl (show inr (tc172_0) from jc172_0) (show inr (tc199_0) from jc199_0) (fun b7 => ?_) (fun b7 => ?_)
                            · refine Ew_of (pcₚ := 351) (fun _ => x_bipush (z := 6) rfl (by decide)) ?_
                              refine w_inv H (o := 6) rfl rfl rfl (H.perm 6 rfl) rfl rfl (by rfl) (M423 H (y7_6_53) ((((((((((hS_c253 6 53 rfl).trans (hS_c233 6 53 rfl)).trans (hS_c215 6 53 rfl)).trans (hS_c199 6 53 rfl)).trans (hS_c172 6 53 rfl)).trans (hS_c147 6 53 rfl)).trans (hS_58 6 53 rfl)).trans (hS_34 6 53 rfl)).trans (ey7_6_53))) (w58_78) ((funext (hA_c253 78 rfl)).trans ((funext (hA_c233 78 rfl)).trans ((funext (hA_c215 78 rfl)).trans ((funext (hA_c199 78 rfl)).trans ((funext (hA_c172 78 rfl)).trans ((funext (hA_c147 78 rfl)).trans (ew58_78))))))) (w58_84) ((funext (hA_c253 84 rfl)).trans ((funext (hA_c233 84 rfl)).trans ((funext (hA_c215 84 rfl)).trans ((funext (hA_c199 84 rfl)).trans ((funext (hA_c172 84 rfl)).trans ((funext (hA_c147 84 rfl)).trans (ew58_84))))))) (show inr (6) from q_545) (show 5 ≤ (6) ∧ (6) ≤ 6 from q_1818) (show 2 ≤ (y7_6_53) ∧ (y7_6_53) ≤ 255 from q_2217 b7 j7_0 jc172_1 jc199_1 r1) (show ∀ i, (0 : Int) ≤ i → i < 64 → 0 ≤ ((w58_78)) i from jnn) (show su (fun i => ((w58_78)) i) 64 = (y7_6_53) by omega) (show 2 ≤ su (fun i => pos1 (((w58_78)) i)) 64 by omega) (show CW ((w58_78)) ((w58_84)) ((y7_6_53)) 11 from hcwF) (show CZ ((w58_78)) 11 from jcz) (fun z12 σ F8 A9 H hS10 hA11 y13 ey14 pz12_0 pz12_1 pz12_2 => ⟨rfl, ?_⟩))
                              have r15 : (0 : Int) ≤ y13 ∧ y13 ≤ 100000000 := rngE (show (0 : Int) ≤ F8 6 35 ∧ F8 6 35 ≤ 100000000 from H.frng 6 35) (show F8 6 35 = y13 from (ey14))
                              refine Ew_of (pcₚ := 356) (fun _ => x_istore rfl) ?_
                              refine Ew_of (pcₚ := 358) (fun _ => x_iload rfl (rk_o (lc253_6) rfl rfl)) ?_
                              exact w_ireturn rfl (k (tc233_0) σ _ _ H (SF_trans (SF_trans (SF_trans (SF_trans (SF_trans (SF_trans (SF_trans (SF_trans (SF_trans (SF_trans (SF_upd (SF_refl) rfl) hS_7 (any_sub rfl)) hS_34 (any_sub rfl)) hS_58 (any_sub rfl)) hS_c147 (any_sub rfl)) hS_c172 (any_sub rfl)) hS_c199 (any_sub rfl)) hS_c215 (any_sub rfl)) hS_c233 (any_sub rfl)) hS_c253 (any_sub rfl)) hS10 (any_sub rfl)) (SA_trans (SA_trans (SA_trans (SA_trans (SA_trans (SA_trans (SA_trans (SA_trans (SA_trans (SA_trans (SA_refl) hA_7 (any_subA rfl)) hA_34 (any_subA rfl)) hA_58 (any_subA rfl)) hA_c147 (any_subA rfl)) hA_c172 (any_subA rfl)) hA_c199 (any_subA rfl)) hA_c215 (any_subA rfl)) hA_c233 (any_subA rfl)) hA_c253 (any_subA rfl)) hA11 (any_subA rfl)) (y13) ((ey14)) (show inr (tc233_0) from jc233_0) (show (tc233_0) = -2 ∨ 1 ≤ (tc233_0) ∧ (tc233_0) ≤ 128 by omega) (show (tc233_0) = -2 ∨ 0 ≤ (y13) ∧ (y13) ≤ 2047 from q_2218 pz12_2))
                            · refine Ew_of (pcₚ := 346) (fun _ => x_iconst rfl) ?_
                              refine Ew_of (pcₚ := 351) (fun _ => x_goto rfl rfl) ?_
                              refine w_inv H (o := 6) rfl rfl rfl (H.perm 6 rfl) rfl rfl (by rfl) (M423 H (y7_6_53) ((((((((((hS_c253 6 53 rfl).trans (hS_c233 6 53 rfl)).trans (hS_c215 6 53 rfl)).trans (hS_c199 6 53 rfl)).trans (hS_c172 6 53 rfl)).trans (hS_c147 6 53 rfl)).trans (hS_58 6 53 rfl)).trans (hS_34 6 53 rfl)).trans (ey7_6_53))) (w58_78) ((funext (hA_c253 78 rfl)).trans ((funext (hA_c233 78 rfl)).trans ((funext (hA_c215 78 rfl)).trans ((funext (hA_c199 78 rfl)).trans ((funext (hA_c172 78 rfl)).trans ((funext (hA_c147 78 rfl)).trans (ew58_78))))))) (w58_84) ((funext (hA_c253 84 rfl)).trans ((funext (hA_c233 84 rfl)).trans ((funext (hA_c215 84 rfl)).trans ((funext (hA_c199 84 rfl)).trans ((funext (hA_c172 84 rfl)).trans ((funext (hA_c147 84 rfl)).trans (ew58_84))))))) (show inr (5) from q_509) (show 5 ≤ (5) ∧ (5) ≤ 6 from q_1820) (show 2 ≤ (y7_6_53) ∧ (y7_6_53) ≤ 255 by omega) (show ∀ i, (0 : Int) ≤ i → i < 64 → 0 ≤ ((w58_78)) i from jnn) (show su (fun i => ((w58_78)) i) 64 = (y7_6_53) by omega) (show 2 ≤ su (fun i => pos1 (((w58_78)) i)) 64 by omega) (show CW ((w58_78)) ((w58_84)) ((y7_6_53)) 11 from hcwF) (show CZ ((w58_78)) 11 from jcz) (fun z20 σ F16 A17 H hS18 hA19 y21 ey22 pz20_0 pz20_1 pz20_2 => ⟨rfl, ?_⟩))
                              have r23 : (0 : Int) ≤ y21 ∧ y21 ≤ 100000000 := rngE (show (0 : Int) ≤ F16 6 35 ∧ F16 6 35 ≤ 100000000 from H.frng 6 35) (show F16 6 35 = y21 from (ey22))
                              refine Ew_of (pcₚ := 356) (fun _ => x_istore rfl) ?_
                              refine Ew_of (pcₚ := 358) (fun _ => x_iload rfl (rk_o (lc253_6) rfl rfl)) ?_
                              exact w_ireturn rfl (k (tc233_0) σ _ _ H (SF_trans (SF_trans (SF_trans (SF_trans (SF_trans (SF_trans (SF_trans (SF_trans (SF_trans (SF_trans (SF_upd (SF_refl) rfl) hS_7 (any_sub rfl)) hS_34 (any_sub rfl)) hS_58 (any_sub rfl)) hS_c147 (any_sub rfl)) hS_c172 (any_sub rfl)) hS_c199 (any_sub rfl)) hS_c215 (any_sub rfl)) hS_c233 (any_sub rfl)) hS_c253 (any_sub rfl)) hS18 (any_sub rfl)) (SA_trans (SA_trans (SA_trans (SA_trans (SA_trans (SA_trans (SA_trans (SA_trans (SA_trans (SA_trans (SA_refl) hA_7 (any_subA rfl)) hA_34 (any_subA rfl)) hA_58 (any_subA rfl)) hA_c147 (any_subA rfl)) hA_c172 (any_subA rfl)) hA_c199 (any_subA rfl)) hA_c215 (any_subA rfl)) hA_c233 (any_subA rfl)) hA_c253 (any_subA rfl)) hA19 (any_subA rfl)) (y21) ((ey22)) (show inr (tc233_0) from jc233_0) (show (tc233_0) = -2 ∨ 1 ≤ (tc233_0) ∧ (tc233_0) ≤ 128 by omega) (show (tc233_0) = -2 ∨ 0 ≤ (y21) ∧ (y21) ≤ 2047 from q_2218 pz20_2))
                          · refine Ew_of (pcₚ := 260) (fun _ => x_aload_n rfl lc253_0) ?_
                            refine w_inv H (o := 6) rfl rfl rfl (H.perm 6 rfl) rfl rfl (by rfl) (M391 H  (fun σ F24 A25 H hS26 hA27 y29 ey30 pz28_0 => ⟨rfl, ?_⟩))
                            have r31 : (0 : Int) ≤ y29 ∧ y29 ≤ 100000000 := rngE (show (0 : Int) ≤ F24 6 35 ∧ F24 6 35 ≤ 100000000 from H.frng 6 35) (show F24 6 35 = y29 from (ey30))
                            refine Ew_of (pcₚ := 264) (fun _ => x_aload_n rfl lc253_0) ?_
                            refine Ew_of (pcₚ := 266) (fun _ => x_bipush (z := 127) rfl (by decide)) ?_
                            refine Ew_of (pcₚ := 267) (fun _ => x_aload_n rfl lc253_0) ?_
                            refine w_gI H (o := 6) (w := y7_6_53) rfl (H.perm 6 rfl) rfl rfl rfl (fun _ => rfl) ((((((((((hS26 6 53 rfl).trans (hS_c253 6 53 rfl)).trans (hS_c233 6 53 rfl)).trans (hS_c215 6 53 rfl)).trans (hS_c199 6 53 rfl)).trans (hS_c172 6 53 rfl)).trans (hS_c147 6 53 rfl)).trans (hS_58 6 53 rfl)).trans (hS_34 6 53 rfl)).trans (ey7_6_53)) ?_
                            refine w_iadd rfl ?_
                            refine Ew_of (pcₚ := 273) (fun _ => x_bipush (z := 8) rfl (by decide)) ?_
                            refine w_inv H (o := 6) rfl rfl rfl (H.perm 6 rfl) rfl rfl (by rfl) (M389 H (y29) ((ey30)) (show inr ((127 + y7_6_53)) from q_2219 r1) (show inr (8) from q_96) (show 0 ≤ (8) ∧ (8) ≤ 31 from q_2192) (show 0 ≤ (y29) ∧ (y29) ≤ 90000000 from q_2191 pz28_0 r31) (fun σ F32 A33 H hS34 hA35 y37 ey38 pz36_0 => ⟨rfl, ?_⟩))
                            have r39 : (0 : Int) ≤ y37 ∧ y37 ≤ 100000000 := rngE (show (0 : Int) ≤ F32 6 35 ∧ F32 6 35 ≤ 100000000 from H.frng 6 35) (show F32 6 35 = y37 from (ey38))
                            refine Ew_of (pcₚ := 277) (fun _ => x_iconst rfl) ?_
                            refine Ew_of (pcₚ := 279) (fun _ => x_istore rfl) ?_
                            suffices hl279 : ∀ (m : Nat), ∀ (ls : rO) (σ : rS) (F_279 : hF) (A_279 : hA) (x279_7 : Int), rlook ls 0 = some (.ref (D 6)) → rlook ls 3 = some (I (tc147_0)) → rlook ls 7 = some (I (x279_7)) → HS σ0 σ D N F_279 A_279 → SF [(6, 35)] F32 F_279 → SA [69] A33 A_279 → ∀ y279_6_35 : Int, F_279 6 35 = y279_6_35 → (inr (x279_7)) → (0 ≤ (x279_7) ∧ (x279_7) ≤ (y7_6_53) + 1) → ((y37) ≤ (y279_6_35) ∧ (y279_6_35) ≤ (y37) + 4 * (x279_7)) → ((y7_6_53) + 1 - (x279_7)).toNat = m → Ew 422 (d + 3) 279 ls [] σ c s Q from
                              hl279 _ _ σ _ _ (0) (rk_o (lc253_0) rfl rfl) (rk_o (lc253_3) rfl rfl) (rk_s) H (SF_refl) (SA_refl) (y37) ((ey38))  (show inr (0) from q_20) (show 0 ≤ (0) ∧ (0) ≤ (y7_6_53) + 1 from q_2221 r1) (show (y37) ≤ (y37) ∧ (y37) ≤ (y37) + 4 * (0) from q_2220) rfl
                            as_aux_lemma =>
                            intro m
                            induction m using Nat.strongRecOn with
                            | _ m ih279 =>
                              intro ls σ F_279 A_279 x279_7 l279_0 l279_3 l279_7 H hS_279 hA_279 y279_6_35 ey279_6_35  j279_0 j279_1 j279_2 hm279
                              have r40 : (0 : Int) ≤ y279_6_35 ∧ y279_6_35 ≤ 100000000 := rngE (show (0 : Int) ≤ F_279 6 35 ∧ F_279 6 35 ≤ 100000000 from H.frng 6 35) (show F_279 6 35 = y279_6_35 from (ey279_6_35))
                              refine Ew_of (pcₚ := 281) (fun _ => x_iload rfl l279_7) ?_
                              refine Ew_of (pcₚ := 282) (fun _ => x_aload_n rfl l279_0) ?_
                              refine w_gI H (o := 6) (w := y7_6_53) rfl (H.perm 6 rfl) rfl rfl rfl (fun _ => rfl) ((((((((((((hS_279 6 53 rfl).trans (hS34 6 53 rfl)).trans (hS26 6 53 rfl)).trans (hS_c253 6 53 rfl)).trans (hS_c233 6 53 rfl)).trans (hS_c215 6 53 rfl)).trans (hS_c199 6 53 rfl)).trans (hS_c172 6 53 rfl)).trans (hS_c147 6 53 rfl)).trans (hS_58 6 53 rfl)).trans (hS_34 6 53 rfl)).trans (ey7_6_53)) ?_
                              refine w_icmpge (t := 335) rfl rfl (show inr (x279_7) from j279_0) (show inr (y7_6_53) from q_2195 r1) (fun b41 => ?_) (fun b41 => ?_)
                              · refine Ew_of (pcₚ := 336) (fun _ => x_iload_n rfl l279_3) ?_
                                exact w_ireturn rfl (k (tc147_0) σ _ _ H (SF_trans (SF_trans (SF_trans (SF_trans (SF_trans (SF_trans (SF_trans (SF_trans (SF_trans (SF_trans (SF_trans (SF_trans (SF_upd (SF_refl) rfl) hS_7 (any_sub rfl)) hS_34 (any_sub rfl)) hS_58 (any_sub rfl)) hS_c147 (any_sub rfl)) hS_c172 (any_sub rfl)) hS_c199 (any_sub rfl)) hS_c215 (any_sub rfl)) hS_c233 (any_sub rfl)) hS_c253 (any_sub rfl)) hS26 (any_sub rfl)) hS34 (any_sub rfl)) hS_279 (any_sub rfl)) (SA_trans (SA_trans (SA_trans (SA_trans (SA_trans (SA_trans (SA_trans (SA_trans (SA_trans (SA_trans (SA_trans (SA_trans (SA_refl) hA_7 (any_subA rfl)) hA_34 (any_subA rfl)) hA_58 (any_subA rfl)) hA_c147 (any_subA rfl)) hA_c172 (any_subA rfl)) hA_c199 (any_subA rfl)) hA_c215 (any_subA rfl)) hA_c233 (any_subA rfl)) hA_c253 (any_subA rfl)) hA27 (any_subA rfl)) hA35 (any_subA rfl)) hA_279 (any_subA rfl)) (y279_6_35) ((ey279_6_35)) (show inr (tc147_0) from jc147_0) (show (tc147_0) = -2 ∨ 1 ≤ (tc147_0) ∧ (tc147_0) ≤ 128 by omega) (show (tc147_0) = -2 ∨ 0 ≤ (y279_6_35) ∧ (y279_6_35) ≤ 2047 from q_2222 j279_1 j279_2 pz28_0 pz36_0 r1 r40))
                              · refine Ew_of (pcₚ := 289) (fun _ => x_aload_n rfl l279_0) ?_
                                refine Ew_of (pcₚ := 291) (fun _ => x_iload rfl l279_7) ?_
                                refine Ew_of (pcₚ := 292) (fun _ => x_iconst rfl) ?_
                                refine w_iadd rfl ?_
                                refine Ew_of (pcₚ := 294) (fun _ => x_aload_n rfl l279_0) ?_
                                refine w_gI H (o := 6) (w := y7_6_53) rfl (H.perm 6 rfl) rfl rfl rfl (fun _ => rfl) ((((((((((((hS_279 6 53 rfl).trans (hS34 6 53 rfl)).trans (hS26 6 53 rfl)).trans (hS_c253 6 53 rfl)).trans (hS_c233 6 53 rfl)).trans (hS_c215 6 53 rfl)).trans (hS_c199 6 53 rfl)).trans (hS_c172 6 53 rfl)).trans (hS_c147 6 53 rfl)).trans (hS_58 6 53 rfl)).trans (hS_34 6 53 rfl)).trans (ey7_6_53)) ?_
                                have hc313 : ∀ (tc313_0 : Int), ∀ (ls : rO) (σ : rS) (F_c313 : hF) (A_c313 : hA) , rlook ls 0 = some (.ref (D 6)) → rlook ls 3 = some (I (tc147_0)) → rlook ls 7 = some (I (x279_7)) → HS σ0 σ D N F_c313 A_c313 → SF [] F_279 F_c313 → SA [] A_279 A_c313 → (inr (tc313_0)) → ((((x279_7 + 1)) ≥ (y7_6_53) ∧ (tc313_0) = (0)) ∨ (((x279_7 + 1)) < (y7_6_53) ∧ (-2147483648) ≤ ((w58_84) ((x279_7 + 1))) ∧ ((w58_84) ((x279_7 + 1))) ≤ 2147483647 ∧ (tc313_0) = ((w58_84) ((x279_7 + 1))))) → Ew 422 (d + 3) 313 ls [I (tc313_0), .ref (D 6)] σ c s Q := by
                                 as_aux_lemma =>
                                  intro tc313_0 ls σ F_c313 A_c313  lc313_0 lc313_3 lc313_7 H hS_c313 hA_c313   jc313_0 jc313_1
                                  refine Ew_of (pcₚ := 314) (fun _ => x_iconst rfl) ?_
                                  refine w_inv H (o := 6) rfl rfl rfl (H.perm 6 rfl) rfl rfl (by rfl) (M389 H (y279_6_35) (((hS_c313 6 35 rfl).trans (ey279_6_35))) (show inr (tc313_0) from jc313_0) (show inr (4) from q_2) (show 0 ≤ (4) ∧ (4) ≤ 31 from q_2158) (show 0 ≤ (y279_6_35) ∧ (y279_6_35) ≤ 90000000 from q_2223 b41 j279_2 pz28_0 pz36_0 r1 r40) (fun σ F42 A43 H hS44 hA45 y47 ey48 pz46_0 => ⟨rfl, ?_⟩))
                                  have r49 : (0 : Int) ≤ y47 ∧ y47 ≤ 100000000 := rngE (show (0 : Int) ≤ F42 6 35 ∧ F42 6 35 ≤ 100000000 from H.frng 6 35) (show F42 6 35 = y47 from (ey48))
                                  refine Ew_of (pcₚ := 318) (fun _ => x_aload_n rfl lc313_0) ?_
                                  refine Ew_of (pcₚ := 319) (fun _ => x_aload_n rfl lc313_0) ?_
                                  refine w_gT H (o := 6) (t := 84) rfl (H.perm 6 rfl) rfl rfl rfl rfl rfl rfl ?_
                                  refine Ew_of (pcₚ := 324) (fun _ => x_iload rfl lc313_7) ?_
                                  refine w_lI H (o := 84) (n := 257) rfl (H.perm 84 rfl) rfl rfl (H.fix 84 rfl rfl) (show 0 ≤ x279_7 ∧ x279_7 < ((257 : Nat) : Int) from q_2224 b41 j279_1 r1) (by decide) (fun v50 ev50 qv50 => ?_)
                                  have qv50 : (-2147483648 : Int) ≤ v50 ∧ v50 ≤ 2147483647 := qv50
                                  have ev50 : (w58_84) (x279_7) = v50 := (congrFun ((funext (hA45 84 rfl)).trans ((funext (hA_c313 84 rfl)).trans ((funext (hA_279 84 rfl)).trans ((funext (hA35 84 rfl)).trans ((funext (hA27 84 rfl)).trans ((funext (hA_c253 84 rfl)).trans ((funext (hA_c233 84 rfl)).trans ((funext (hA_c215 84 rfl)).trans ((funext (hA_c199 84 rfl)).trans ((funext (hA_c172 84 rfl)).trans ((funext (hA_c147 84 rfl)).trans (ew58_84)))))))))))) (x279_7)).symm.trans ev50
                                  refine Ew_of (pcₚ := 326) (fun _ => x_iconst rfl) ?_
                                  refine w_inv H (o := 6) rfl rfl rfl (H.perm 6 rfl) rfl rfl (by rfl) (M389 H (y47) ((ey48)) (show inr (v50) from q_22 qv50) (show inr (4) from q_2) (show 0 ≤ (4) ∧ (4) ≤ 31 from q_2158) (show 0 ≤ (y47) ∧ (y47) ≤ 90000000 from q_2225 b41 j279_2 pz28_0 pz36_0 pz46_0 r1 r49) (fun σ F51 A52 H hS53 hA54 y56 ey57 pz55_0 => ⟨rfl, ?_⟩))
                                  have r58 : (0 : Int) ≤ y56 ∧ y56 ≤ 100000000 := rngE (show (0 : Int) ≤ F51 6 35 ∧ F51 6 35 ≤ 100000000 from H.frng 6 35) (show F51 6 35 = y56 from (ey57))
                                  refine Ew_of (pcₚ := 332) (fun _ => x_iinc (len := 3) rfl (lc313_7)) ?_
                                  refine Ew_of (pcₚ := 279) (fun _ => x_goto rfl rfl) ?_
                                  exact ih279 _ (msE hm279 q_2229 (q_1870 b41)) _ σ _ _ ((x279_7 + 2)) (rk_o (lc313_0) rfl rfl) (rk_o (lc313_3) rfl rfl) (rk_s) H (SF_trans (SF_trans (SF_trans (hS_279) hS_c313 (any_sub rfl)) hS44 (any_sub rfl)) hS53 (any_sub rfl)) (SA_trans (SA_trans (SA_trans (hA_279) hA_c313 (any_subA rfl)) hA45 (any_subA rfl)) hA54 (any_subA rfl)) (y56) ((ey57))  (show inr ((x279_7 + 2)) from q_2228 b41 j279_2 r1) (show 0 ≤ ((x279_7 + 2)) ∧ ((x279_7 + 2)) ≤ (y7_6_53) + 1 from q_2227 b41 j279_2) (show (y37) ≤ (y56) ∧ (y56) ≤ (y37) + 4 * ((x279_7 + 2)) from q_2226 j279_2 pz46_0 pz55_0) rfl
                                refine w_icmpge (t := 312) rfl rfl (show inr ((x279_7 + 1)) from q_2230 b41 j279_2 r1) (show inr (y7_6_53) from q_2195 r1) (fun b59 => ?_) (fun b59 => ?_)
                                · refine Ew_of (pcₚ := 313) (fun _ => x_iconst rfl) ?_
                                  exact hc313 (0) _ σ _ _  (l279_0) (l279_3) (l279_7) H (SF_refl) (SA_refl)   (show inr (0) from q_20) (show (((x279_7 + 1)) ≥ (y7_6_53) ∧ (0) = (0)) ∨ (((x279_7 + 1)) < (y7_6_53) ∧ (-2147483648) ≤ ((w58_84) ((x279_7 + 1))) ∧ ((w58_84) ((x279_7 + 1))) ≤ 2147483647 ∧ (0) = ((w58_84) ((x279_7 + 1)))) from q_2231 b59)
                                · refine Ew_of (pcₚ := 301) (fun _ => x_aload_n rfl l279_0) ?_
                                  refine w_gT H (o := 6) (t := 84) rfl (H.perm 6 rfl) rfl rfl rfl rfl rfl rfl ?_
                                  refine Ew_of (pcₚ := 306) (fun _ => x_iload rfl l279_7) ?_
                                  refine Ew_of (pcₚ := 307) (fun _ => x_iconst rfl) ?_
                                  refine w_iadd rfl ?_
                                  refine w_lI H (o := 84) (n := 257) rfl (H.perm 84 rfl) rfl rfl (H.fix 84 rfl rfl) (show 0 ≤ (x279_7 + 1) ∧ (x279_7 + 1) < ((257 : Nat) : Int) from q_2232 b59 j279_2 r1) (by decide) (fun v60 ev60 qv60 => ?_)
                                  have qv60 : (-2147483648 : Int) ≤ v60 ∧ v60 ≤ 2147483647 := qv60
                                  have ev60 : (w58_84) ((x279_7 + 1)) = v60 := (congrFun ((funext (hA_279 84 rfl)).trans ((funext (hA35 84 rfl)).trans ((funext (hA27 84 rfl)).trans ((funext (hA_c253 84 rfl)).trans ((funext (hA_c233 84 rfl)).trans ((funext (hA_c215 84 rfl)).trans ((funext (hA_c199 84 rfl)).trans ((funext (hA_c172 84 rfl)).trans ((funext (hA_c147 84 rfl)).trans (ew58_84)))))))))) ((x279_7 + 1))).symm.trans ev60
                                  refine Ew_of (pcₚ := 313) (fun _ => x_goto rfl rfl) ?_
                                  exact hc313 (v60) _ σ _ _  (l279_0) (l279_3) (l279_7) H (SF_refl) (SA_refl)   (show inr (v60) from q_22 qv60) (show (((x279_7 + 1)) ≥ (y7_6_53) ∧ (v60) = (0)) ∨ (((x279_7 + 1)) < (y7_6_53) ∧ (-2147483648) ≤ ((w58_84) ((x279_7 + 1))) ∧ ((w58_84) ((x279_7 + 1))) ≤ 2147483647 ∧ (v60) = ((w58_84) ((x279_7 + 1)))) from q_2233 b59 ev60 qv60)
                        refine w_icmpne (t := 253) rfl rfl (show inr (tc147_0) from jc147_0) (show inr (9999) from q_2234) (fun b61 => ?_) (fun b61 => ?_)
                        · exact hc253  _ σ _ _  (rk_o (lc233_0) rfl rfl) (rk_o (lc233_3) rfl rfl) (rk_o (lc233_4) rfl rfl) (rk_o (lc233_5) rfl rfl) (rk_s) H (SF_refl) (SA_refl)   (show ((tc147_0) ≠ (9999)) ∨ ((tc147_0) = (9999) ∧ (tc233_0) ≠ (9999)) from q_2235 b61)
                        · refine Ew_of (pcₚ := 244) (fun _ => x_iload rfl rk_s) ?_
                          refine Ew_of (pcₚ := 247) (fun _ => x_sipush (z := 9999) rfl (by decide)) ?_
                          refine w_icmpne (t := 253) rfl rfl (show inr (tc233_0) from jc233_0) (show inr (9999) from q_2234) (fun b62 => ?_) (fun b62 => ?_)
                          · exact hc253  _ σ _ _  (rk_o (lc233_0) rfl rfl) (rk_o (lc233_3) rfl rfl) (rk_o (lc233_4) rfl rfl) (rk_o (lc233_5) rfl rfl) (rk_s) H (SF_refl) (SA_refl)   (show ((tc147_0) ≠ (9999)) ∨ ((tc147_0) = (9999) ∧ (tc233_0) ≠ (9999)) from q_2236 b61 b62)
                          · refine Ew_of (pcₚ := 252) (fun _ => x_bipush (z := -2) rfl (by decide)) ?_
                            have r63 : (0 : Int) ≤ F_c199 6 35 ∧ F_c199 6 35 ≤ 100000000 := rngE (show (0 : Int) ≤ F_c233 6 35 ∧ F_c233 6 35 ≤ 100000000 from H.frng 6 35) (show F_c233 6 35 = F_c199 6 35 from ((hS_c233 6 35 rfl).trans (hS_c215 6 35 rfl)))
                            exact w_ireturn rfl (k ((-2)) σ _ _ H (SF_trans (SF_trans (SF_trans (SF_trans (SF_trans (SF_trans (SF_trans (SF_trans (SF_upd (SF_refl) rfl) hS_7 (any_sub rfl)) hS_34 (any_sub rfl)) hS_58 (any_sub rfl)) hS_c147 (any_sub rfl)) hS_c172 (any_sub rfl)) hS_c199 (any_sub rfl)) hS_c215 (any_sub rfl)) hS_c233 (any_sub rfl)) (SA_trans (SA_trans (SA_trans (SA_trans (SA_trans (SA_trans (SA_trans (SA_trans (SA_refl) hA_7 (any_subA rfl)) hA_34 (any_subA rfl)) hA_58 (any_subA rfl)) hA_c147 (any_subA rfl)) hA_c172 (any_subA rfl)) hA_c199 (any_subA rfl)) hA_c215 (any_subA rfl)) hA_c233 (any_subA rfl)) (F_c199 6 35) (((hS_c233 6 35 rfl).trans (hS_c215 6 35 rfl))) (show inr ((-2)) from q_107) (show ((-2)) = -2 ∨ 1 ≤ ((-2)) ∧ ((-2)) ≤ 128 by first | exact q_2238 | omega) (show ((-2)) = -2 ∨ 0 ≤ (F_c199 6 35) ∧ (F_c199 6 35) ≤ 2047 by first | exact q_2237 | omega))
                      refine w_icmple (t := 231) rfl rfl (show inr (tc215_0) from jc215_0) (show inr (128) from q_53) (fun b64 => ?_) (fun b64 => ?_)
                      · refine Ew_of (pcₚ := 233) (fun _ => x_iload rfl rk_s) ?_
                        exact hc233 (tc215_0) _ σ _ _  (rk_o (lc215_0) rfl rfl) (rk_o (lc215_3) rfl rfl) (rk_o (lc215_4) rfl rfl) (rk_o (lc215_5) rfl rfl) H (SF_refl) (SA_refl)   (show inr (tc215_0) from jc215_0) (show ((tc215_0) ≤ (128) ∧ (tc215_0) = (tc215_0)) ∨ ((tc215_0) > (128) ∧ (tc215_0) = (9999)) from q_2239 b64)
                      · refine Ew_of (pcₚ := 228) (fun _ => x_sipush (z := 9999) rfl (by decide)) ?_
                        refine Ew_of (pcₚ := 233) (fun _ => x_goto rfl rfl) ?_
                        exact hc233 (9999) _ σ _ _  (rk_o (lc215_0) rfl rfl) (rk_o (lc215_3) rfl rfl) (rk_o (lc215_4) rfl rfl) (rk_o (lc215_5) rfl rfl) H (SF_refl) (SA_refl)   (show inr (9999) from q_2234) (show ((tc215_0) ≤ (128) ∧ (9999) = (tc215_0)) ∨ ((tc215_0) > (128) ∧ (9999) = (9999)) from q_2240 b64)
                    refine w_icmpge (t := 213) rfl rfl (show inr (tc172_0) from jc172_0) (show inr (tc199_0) from jc199_0) (fun b65 => ?_) (fun b65 => ?_)
                    · refine Ew_of (pcₚ := 215) (fun _ => x_iload rfl rk_s) ?_
                      exact hc215 (tc199_0) _ σ _ _  (rk_o (lc199_0) rfl rfl) (rk_o (lc199_3) rfl rfl) (rk_o (lc199_4) rfl rfl) (rk_s) H (SF_refl) (SA_refl)   (show inr (tc199_0) from jc199_0) (show ((tc172_0) ≥ (tc199_0) ∧ (tc199_0) = (tc199_0)) ∨ ((tc172_0) < (tc199_0) ∧ (tc199_0) = (tc172_0)) from q_2241 b65)
                    · refine Ew_of (pcₚ := 210) (fun _ => x_iload rfl (rk_o (lc199_4) rfl rfl)) ?_
                      refine Ew_of (pcₚ := 215) (fun _ => x_goto rfl rfl) ?_
                      exact hc215 (tc172_0) _ σ _ _  (rk_o (lc199_0) rfl rfl) (rk_o (lc199_3) rfl rfl) (rk_o (lc199_4) rfl rfl) (rk_s) H (SF_refl) (SA_refl)   (show inr (tc172_0) from jc172_0) (show ((tc172_0) ≥ (tc199_0) ∧ (tc172_0) = (tc199_0)) ∨ ((tc172_0) < (tc199_0) ∧ (tc172_0) = (tc172_0)) from q_2242 b65)
                  refine Ew_of (pcₚ := 175) (fun _ => x_iload_n rfl (rk_o (lc172_2) rfl rfl)) ?_
                  refine Ew_of (pcₚ := 176) (fun _ => x_iconst rfl) ?_
                  refine w_icmplt (t := 187) rfl rfl (show inr (x58_2) from j58_0) (show inr (2) from q_55) (fun b66 => ?_) (fun b66 => ?_)
                  · refine Ew_of (pcₚ := 190) (fun _ => x_sipush (z := 9999) rfl (by decide)) ?_
                    refine Ew_of (pcₚ := 199) (fun _ => x_goto rfl rfl) ?_
                    exact hc199 (9999) _ σ _ _  (rk_o (lc172_0) rfl rfl) (rk_o (lc172_3) rfl rfl) (rk_s) H (SF_refl) (SA_refl)   (show inr (9999) from q_2234) (show (9999) = 9999 ∨ 1 ≤ (9999) ∧ (9999) ≤ 256 ∧ 2 ≤ (x58_2) ∧ 2 ≤ (y7_6_53) from q_2243)
                  · refine Ew_of (pcₚ := 180) (fun _ => x_aload_n rfl (rk_o (lc172_0) rfl rfl)) ?_
                    refine w_gI H (o := 6) (w := y7_6_53) rfl (H.perm 6 rfl) rfl rfl rfl (fun _ => rfl) (((((hS_c172 6 53 rfl).trans (hS_c147 6 53 rfl)).trans (hS_58 6 53 rfl)).trans (hS_34 6 53 rfl)).trans (ey7_6_53)) ?_
                    refine Ew_of (pcₚ := 184) (fun _ => x_iconst rfl) ?_
                    refine w_icmpge (t := 193) rfl rfl (show inr (y7_6_53) from q_2195 r1) (show inr (2) from q_55) (fun b67 => ?_) (fun b67 => ?_)
                    · refine Ew_of (pcₚ := 194) (fun _ => x_aload_n rfl (rk_o (lc172_0) rfl rfl)) ?_
                      refine Ew_of (pcₚ := 196) (fun _ => x_bipush (z := 6) rfl (by decide)) ?_
                      refine w_inv H (o := 6) rfl rfl rfl (H.perm 6 rfl) rfl rfl (by rfl) (M423 H (y7_6_53) ((((((hS_c172 6 53 rfl).trans (hS_c147 6 53 rfl)).trans (hS_58 6 53 rfl)).trans (hS_34 6 53 rfl)).trans (ey7_6_53))) (w58_78) ((funext (hA_c172 78 rfl)).trans ((funext (hA_c147 78 rfl)).trans (ew58_78))) (w58_84) ((funext (hA_c172 84 rfl)).trans ((funext (hA_c147 84 rfl)).trans (ew58_84))) (show inr (6) from q_545) (show 5 ≤ (6) ∧ (6) ≤ 6 from q_1818) (show 2 ≤ (y7_6_53) ∧ (y7_6_53) ≤ 255 from q_2244 b67 r1) (show ∀ i, (0 : Int) ≤ i → i < 64 → 0 ≤ ((w58_78)) i from jnn) (show su (fun i => ((w58_78)) i) 64 = (y7_6_53) by omega) (show 2 ≤ su (fun i => pos1 (((w58_78)) i)) 64 by omega) (show CW ((w58_78)) ((w58_84)) ((y7_6_53)) 11 from hcwF) (show CZ ((w58_78)) 11 from jcz) (fun z72 σ F68 A69 H hS70 hA71 y73 ey74 pz72_0 pz72_1 pz72_2 => ⟨rfl, ?_⟩))
                      have r75 : (0 : Int) ≤ y73 ∧ y73 ≤ 100000000 := rngE (show (0 : Int) ≤ F68 6 35 ∧ F68 6 35 ≤ 100000000 from H.frng 6 35) (show F68 6 35 = y73 from (ey74))
                      exact hc199 (z72) _ σ _ _  (rk_o (lc172_0) rfl rfl) (rk_o (lc172_3) rfl rfl) (rk_s) H (SF_trans (SF_refl) hS70 (any_sub rfl)) (SA_trans (SA_refl) hA71 (any_subA rfl))   (show inr (z72) from pz72_0) (show (z72) = 9999 ∨ 1 ≤ (z72) ∧ (z72) ≤ 256 ∧ 2 ≤ (x58_2) ∧ 2 ≤ (y7_6_53) from q_2245 b66 b67 pz72_1)
                    · refine Ew_of (pcₚ := 190) (fun _ => x_sipush (z := 9999) rfl (by decide)) ?_
                      refine Ew_of (pcₚ := 199) (fun _ => x_goto rfl rfl) ?_
                      exact hc199 (9999) _ σ _ _  (rk_o (lc172_0) rfl rfl) (rk_o (lc172_3) rfl rfl) (rk_s) H (SF_refl) (SA_refl)   (show inr (9999) from q_2234) (show (9999) = 9999 ∨ 1 ≤ (9999) ∧ (9999) ≤ 256 ∧ 2 ≤ (x58_2) ∧ 2 ≤ (y7_6_53) from q_2243)
                refine Ew_of (pcₚ := 149) (fun _ => x_iload_n rfl (rk_o (lc147_2) rfl rfl)) ?_
                refine Ew_of (pcₚ := 150) (fun _ => x_iconst rfl) ?_
                refine w_icmplt (t := 161) rfl rfl (show inr (x58_2) from j58_0) (show inr (2) from q_55) (fun b76 => ?_) (fun b76 => ?_)
                · refine Ew_of (pcₚ := 164) (fun _ => x_sipush (z := 9999) rfl (by decide)) ?_
                  refine Ew_of (pcₚ := 172) (fun _ => x_goto rfl rfl) ?_
                  exact hc172 (9999) _ σ _ _  (rk_o (lc147_0) rfl rfl) (rk_o (lc147_2) rfl rfl) (rk_s) H (SF_refl) (SA_refl)   (show inr (9999) from q_2234) (show (9999) = 9999 ∨ 1 ≤ (9999) ∧ (9999) ≤ 256 ∧ 2 ≤ (x58_2) ∧ 2 ≤ (y7_6_53) from q_2243)
                · refine Ew_of (pcₚ := 154) (fun _ => x_aload_n rfl (rk_o (lc147_0) rfl rfl)) ?_
                  refine w_gI H (o := 6) (w := y7_6_53) rfl (H.perm 6 rfl) rfl rfl rfl (fun _ => rfl) ((((hS_c147 6 53 rfl).trans (hS_58 6 53 rfl)).trans (hS_34 6 53 rfl)).trans (ey7_6_53)) ?_
                  refine Ew_of (pcₚ := 158) (fun _ => x_iconst rfl) ?_
                  refine w_icmpge (t := 167) rfl rfl (show inr (y7_6_53) from q_2195 r1) (show inr (2) from q_55) (fun b77 => ?_) (fun b77 => ?_)
                  · refine Ew_of (pcₚ := 168) (fun _ => x_aload_n rfl (rk_o (lc147_0) rfl rfl)) ?_
                    refine Ew_of (pcₚ := 169) (fun _ => x_iconst rfl) ?_
                    refine w_inv H (o := 6) rfl rfl rfl (H.perm 6 rfl) rfl rfl (by rfl) (M423 H (y7_6_53) (((((hS_c147 6 53 rfl).trans (hS_58 6 53 rfl)).trans (hS_34 6 53 rfl)).trans (ey7_6_53))) (w58_78) ((funext (hA_c147 78 rfl)).trans (ew58_78)) (w58_84) ((funext (hA_c147 84 rfl)).trans (ew58_84)) (show inr (5) from q_509) (show 5 ≤ (5) ∧ (5) ≤ 6 from q_1820) (show 2 ≤ (y7_6_53) ∧ (y7_6_53) ≤ 255 from q_2244 b77 r1) (show ∀ i, (0 : Int) ≤ i → i < 64 → 0 ≤ ((w58_78)) i from jnn) (show su (fun i => ((w58_78)) i) 64 = (y7_6_53) by omega) (show 2 ≤ su (fun i => pos1 (((w58_78)) i)) 64 by omega) (show CW ((w58_78)) ((w58_84)) ((y7_6_53)) 11 from hcwF) (show CZ ((w58_78)) 11 from jcz) (fun z82 σ F78 A79 H hS80 hA81 y83 ey84 pz82_0 pz82_1 pz82_2 => ⟨rfl, ?_⟩))
                    have r85 : (0 : Int) ≤ y83 ∧ y83 ≤ 100000000 := rngE (show (0 : Int) ≤ F78 6 35 ∧ F78 6 35 ≤ 100000000 from H.frng 6 35) (show F78 6 35 = y83 from (ey84))
                    exact hc172 (z82) _ σ _ _  (rk_o (lc147_0) rfl rfl) (rk_o (lc147_2) rfl rfl) (rk_s) H (SF_trans (SF_refl) hS80 (any_sub rfl)) (SA_trans (SA_refl) hA81 (any_subA rfl))   (show inr (z82) from pz82_0) (show (z82) = 9999 ∨ 1 ≤ (z82) ∧ (z82) ≤ 256 ∧ 2 ≤ (x58_2) ∧ 2 ≤ (y7_6_53) from q_2245 b76 b77 pz82_1)
                  · refine Ew_of (pcₚ := 164) (fun _ => x_sipush (z := 9999) rfl (by decide)) ?_
                    refine Ew_of (pcₚ := 172) (fun _ => x_goto rfl rfl) ?_
                    exact hc172 (9999) _ σ _ _  (rk_o (lc147_0) rfl rfl) (rk_o (lc147_2) rfl rfl) (rk_s) H (SF_refl) (SA_refl)   (show inr (9999) from q_2234) (show (9999) = 9999 ∨ 1 ≤ (9999) ∧ (9999) ≤ 256 ∧ 2 ≤ (x58_2) ∧ 2 ≤ (y7_6_53) from q_2243)
              refine w_icmple (t := 137) rfl rfl (show inr (y7_6_53) from q_2195 r1) (show inr (128) from q_53) (fun b86 => ?_) (fun b86 => ?_)
              · refine Ew_of (pcₚ := 138) (fun _ => x_iconst rfl) ?_
                refine Ew_of (pcₚ := 139) (fun _ => x_aload_n rfl l58_0) ?_
                refine w_gI H (o := 6) (w := y7_6_53) rfl (H.perm 6 rfl) rfl rfl rfl (fun _ => rfl) (((hS_58 6 53 rfl).trans (hS_34 6 53 rfl)).trans (ey7_6_53)) ?_
                refine Ew_of (pcₚ := 143) (fun _ => x_iconst rfl) ?_
                refine w_iadd rfl ?_
                refine Ew_of (pcₚ := 145) (fun _ => x_iconst rfl) ?_
                refine w_idiv rfl (show inr ((y7_6_53 + 1)) ∧ 0 ≤ (y7_6_53 + 1) from q_2246 b86 r1) (show inr (2) ∧ 0 < 2 from q_967) ?_
                refine w_iadd rfl ?_
                exact hc147 ((1 + ((y7_6_53 + 1) / 2))) _ σ _ _  (l58_0) (l58_2) H (SF_refl) (SA_refl)   (show inr ((1 + ((y7_6_53 + 1) / 2))) from q_2248 b86 r1) (show ((y7_6_53) ≤ (128) ∧ ((1 + ((y7_6_53 + 1) / 2))) = ((1 + ((y7_6_53 + 1) / 2)))) ∨ ((y7_6_53) > (128) ∧ ((1 + ((y7_6_53 + 1) / 2))) = (9999)) from q_2247 b86)
              · refine Ew_of (pcₚ := 134) (fun _ => x_sipush (z := 9999) rfl (by decide)) ?_
                refine Ew_of (pcₚ := 147) (fun _ => x_goto rfl rfl) ?_
                exact hc147 (9999) _ σ _ _  (l58_0) (l58_2) H (SF_refl) (SA_refl)   (show inr (9999) from q_2234) (show ((y7_6_53) ≤ (128) ∧ (9999) = ((1 + ((y7_6_53 + 1) / 2)))) ∨ ((y7_6_53) > (128) ∧ (9999) = (9999)) from q_2249 b86)
            · have hcb := hci.2.2.1 ((x58_3)) (by omega) (by omega)
              refine Ew_of (pcₚ := 67) (fun _ => x_aload_n rfl l58_0) ?_
              refine w_gT H (o := 6) (t := 84) rfl (H.perm 6 rfl) rfl rfl rfl rfl rfl rfl ?_
              refine Ew_of (pcₚ := 71) (fun _ => x_iload_n rfl l58_3) ?_
              refine Ew_of (pcₚ := 72) (fun _ => x_aload_n rfl l58_0) ?_
              refine Ew_of (pcₚ := 73) (fun _ => x_iload_n rfl l58_3) ?_
              refine Ew_of (pcₚ := 74) (fun _ => x_iload_n rfl l58_1) ?_
              refine w_inv H (o := 6) rfl rfl rfl (H.perm 6 rfl) rfl rfl (by rfl) (M421 H (w82) ((funext (hA_58 82 rfl)).trans ((funext (hA_34 82 rfl)).trans ((funext (hA_7 82 rfl)).trans (ew82)))) (show inr (x58_3) from j58_1) (show inr (a1) from h0) (show 0 ≤ (x58_3) ∧ (x58_3) ≤ 255 from q_2251 b5 j58_2 r1) (show 0 ≤ (a1) ∧ (a1) ≤ 11 from q_2250 h1) (show BD ((w82)) by assumption) (fun z91 σ F87 A88 H hS89 hA90 pz91_0 pz91_1 => ⟨rfl, ?_⟩))
              have hz77 : 0 ≤ (z91) ∧ (z91) ≤ 11 := by omega
              refine w_sI H (o := 84) (n := 257) rfl (H.perm 84 rfl) rfl rfl (H.fix 84 rfl rfl) (show 0 ≤ x58_3 ∧ x58_3 < ((257 : Nat) : Int) from q_2253 b5 j58_2 r1) (by decide) (show (-2147483648 : Int) ≤ z91 ∧ z91 ≤ 2147483647 from q_2252 hz77) (fun σ H => ?_)
              refine Ew_of (pcₚ := 79) (fun _ => x_aload_n rfl l58_0) ?_
              refine w_gT H (o := 6) (t := 78) rfl (H.perm 6 rfl) rfl rfl rfl rfl rfl rfl ?_
              refine Ew_of (pcₚ := 83) (fun _ => x_aload_n rfl l58_0) ?_
              refine w_gT H (o := 6) (t := 84) rfl (H.perm 6 rfl) rfl rfl rfl rfl rfl rfl ?_
              refine Ew_of (pcₚ := 87) (fun _ => x_iload_n rfl l58_3) ?_
              refine w_lI H (o := 84) (n := 257) rfl (H.perm 84 rfl) rfl rfl (H.fix 84 rfl rfl) (show 0 ≤ x58_3 ∧ x58_3 < ((257 : Nat) : Int) from q_2253 b5 j58_2 r1) (by decide) (fun v92 ev92 qv92 => ?_)
              have qv92 : (-2147483648 : Int) ≤ v92 ∧ v92 ≤ 2147483647 := qv92
              have ev92 : (upd1 (w58_84) (x58_3) (z91)) (x58_3) = v92 := (congrFun (congrArg (fun q => upd1 q (x58_3) (z91)) ((funext (hA90 84 rfl)).trans (ew58_84))) (x58_3)).symm.trans ev92
              have hv1 := ev92
              rw [upd1_s] at hv1
              have hn1 := jnn ((v92)) (by omega) (by omega)
              have hk1 : ∀ q, q = (v92) → ((w58_78)) q = ((w58_78)) ((v92)) := fun q e => by rw [e]
              refine w_lI H (o := 78) (n := 256) rfl (H.perm 78 rfl) rfl rfl (H.fix 78 rfl rfl) (show 0 ≤ v92 ∧ v92 < ((256 : Nat) : Int) by omega) (by decide) (fun v93 ev93 qv93 => ?_)
              have qv93 : (-2147483648 : Int) ≤ v93 ∧ v93 ≤ 2147483647 := qv93
              have ev93 : (w58_78) (v92) = v93 := (congrFun ((funext (hA90 78 rfl)).trans (ew58_78)) (v92)).symm.trans ev93
              have hc89 := ev93
              refine w_ifne (t := 98) rfl rfl (show inr (v93) from q_22 qv93) (fun b94 => ?_) (fun b94 => ?_)
              · refine Ew_of (pcₚ := 99) (fun _ => x_iload_n rfl l58_2) ?_
                refine Ew_of (pcₚ := 100) (fun _ => x_istore_n rfl) ?_
                refine Ew_of (pcₚ := 101) (fun _ => x_aload_n rfl (rk_o (l58_0) rfl rfl)) ?_
                refine w_gT H (o := 6) (t := 78) rfl (H.perm 6 rfl) rfl rfl rfl rfl rfl rfl ?_
                refine Ew_of (pcₚ := 105) (fun _ => x_aload_n rfl (rk_o (l58_0) rfl rfl)) ?_
                refine w_gT H (o := 6) (t := 84) rfl (H.perm 6 rfl) rfl rfl rfl rfl rfl rfl ?_
                refine Ew_of (pcₚ := 109) (fun _ => x_iload_n rfl (rk_o (l58_3) rfl rfl)) ?_
                refine w_lI H (o := 84) (n := 257) rfl (H.perm 84 rfl) rfl rfl (H.fix 84 rfl rfl) (show 0 ≤ x58_3 ∧ x58_3 < ((257 : Nat) : Int) from q_2253 b5 j58_2 r1) (by decide) (fun v95 ev95 qv95 => ?_)
                have qv95 : (-2147483648 : Int) ≤ v95 ∧ v95 ≤ 2147483647 := qv95
                have ev95 : (upd1 (w58_84) (x58_3) (z91)) (x58_3) = v95 := (congrFun (congrArg (fun q => upd1 q (x58_3) (z91)) ((funext (hA90 84 rfl)).trans (ew58_84))) (x58_3)).symm.trans ev95
                have hv2 := ev95
                rw [upd1_s] at hv2
                have hn2 := jnn ((v95)) (by omega) (by omega)
                have hu2 := jup ((v95)) (by omega) (by omega)
                have hs1 := su_upd1 (g := (w58_78)) (fun x => x) (j := (v95)) (v := ((w58_78)) ((v95)) + 1) (n := 64) (by omega) (by omega)
                have hs2 := su_upd1 (g := (w58_78)) pos1 (j := (v95)) (v := ((w58_78)) ((v95)) + 1) (n := 64) (by omega) (by omega)
                have hp1 := pos1_eq (((w58_78)) ((v95)))
                have hp2 := pos1_eq (((w58_78)) ((v95)) + 1)
                have hcc := hk1 ((v95)) (by omega)
                refine Ew_of (pcₚ := 111) (fun _ => x_dup2 rfl rfl rfl) ?_
                refine w_lI H (o := 78) (n := 256) rfl (H.perm 78 rfl) rfl rfl (H.fix 78 rfl rfl) (show 0 ≤ v95 ∧ v95 < ((256 : Nat) : Int) by omega) (by decide) (fun v96 ev96 qv96 => ?_)
                have qv96 : (-2147483648 : Int) ≤ v96 ∧ v96 ≤ 2147483647 := qv96
                have ev96 : (w58_78) (v95) = v96 := (congrFun ((funext (hA90 78 rfl)).trans (ew58_78)) (v95)).symm.trans ev96
                refine Ew_of (pcₚ := 113) (fun _ => x_iconst rfl) ?_
                refine w_iadd rfl ?_
                have hxx : ((v96 + 1)) = ((w58_78)) ((v95)) + 1 := q_1902 ev96
                rw [← hxx] at hs1 hs2 hp2
                have hcw2 : CW (upd1 ((w58_78)) ((v95)) (((v96 + 1)))) ((upd1 (w58_84) (x58_3) (z91))) ((x58_3) + 1) 11 := by rw [hv2]; exact CW_next jcw rfl (by omega) (by omega) (by omega) (by omega)
                have hcz2 : CZ (upd1 ((w58_78)) ((v95)) (((v96 + 1)))) 11 := CZ_upd jcz (by omega)
                have : ∀ i, (0 : Int) ≤ i → i < 64 → 0 ≤ (upd1 ((w58_78)) ((v95)) (((v96 + 1)))) i := fun i a b => by by_cases e : i = (v95); (rw [e, upd1_s]; omega); (rw [upd1_o e]; exact jnn i a b)
                have : ∀ i, (0 : Int) ≤ i → i < 64 → (upd1 ((w58_78)) ((v95)) (((v96 + 1)))) i ≤ (x58_3) + 1 := fun i a b => by by_cases e : i = (v95); (rw [e, upd1_s]; omega); (rw [upd1_o e]; have := jup i a b; omega)
                refine w_sI H (o := 78) (n := 256) rfl (H.perm 78 rfl) rfl rfl (H.fix 78 rfl rfl) (show 0 ≤ v95 ∧ v95 < ((256 : Nat) : Int) by omega) (by decide) (show (-2147483648 : Int) ≤ (v96 + 1) ∧ (v96 + 1) ≤ 2147483647 by omega) (fun σ H => ?_)
                refine Ew_of (pcₚ := 118) (fun _ => x_iinc (len := 3) rfl (rk_o (l58_3) rfl rfl)) ?_
                refine Ew_of (pcₚ := 58) (fun _ => x_goto rfl rfl) ?_
                exact ih58 _ (msE hm58 q_31 (q_34 b5)) _ σ _ _ (x58_2) ((x58_3 + 1)) (rk_o (rk_o (l58_0) rfl rfl) rfl rfl) (rk_o (rk_o (l58_1) rfl rfl) rfl rfl) (rk_o (rk_s) rfl rfl) (rk_s) H (SF_trans (hS_58) hS89 (any_sub rfl)) (SA_upd (SA_upd (SA_trans (hA_58) hA90 (any_subA rfl)) rfl) rfl)  (upd1 (w58_78) (v95) ((v96 + 1))) (congrArg (fun q => upd1 q (v95) ((v96 + 1))) ((funext (hA90 78 rfl)).trans (ew58_78))) (upd1 (w58_84) (x58_3) (z91)) (congrArg (fun q => upd1 q (x58_3) (z91)) ((funext (hA90 84 rfl)).trans (ew58_84))) (show inr (x58_2) from j58_0) (show inr ((x58_3 + 1)) from q_2255 b5 j58_2 r1) (show (0) ≤ ((x58_3 + 1)) from q_29 j58_2) (show ((x58_3 + 1)) ≤ (0) ∨ ((x58_3 + 1)) ≤ ((y7_6_53)) from q_33 b5) (show su (fun i => ((upd1 (w58_78) (v95) ((v96 + 1)))) i) 64 = ((x58_3 + 1)) by omega) (show su (fun i => pos1 (((upd1 (w58_78) (v95) ((v96 + 1)))) i)) 64 = (x58_2) by omega) (show ∀ i, (0 : Int) ≤ i → i < 64 → 0 ≤ ((upd1 (w58_78) (v95) ((v96 + 1)))) i by assumption) (show CW ((upd1 (w58_78) (v95) ((v96 + 1)))) ((upd1 (w58_84) (x58_3) (z91))) (((x58_3 + 1))) 11 from hcw2) (show CZ ((upd1 (w58_78) (v95) ((v96 + 1)))) 11 from hcz2) (show 0 ≤ (x58_2) ∧ (x58_2) ≤ ((x58_3 + 1)) from q_2254 j58_9) (show ∀ i, (0 : Int) ≤ i → i < 64 → ((upd1 (w58_78) (v95) ((v96 + 1)))) i ≤ ((x58_3 + 1)) by assumption) rfl
              · refine Ew_of (pcₚ := 93) (fun _ => x_iload_n rfl l58_2) ?_
                refine Ew_of (pcₚ := 94) (fun _ => x_iconst rfl) ?_
                refine w_iadd rfl ?_
                refine Ew_of (pcₚ := 99) (fun _ => x_goto rfl rfl) ?_
                refine Ew_of (pcₚ := 100) (fun _ => x_istore_n rfl) ?_
                refine Ew_of (pcₚ := 101) (fun _ => x_aload_n rfl (rk_o (l58_0) rfl rfl)) ?_
                refine w_gT H (o := 6) (t := 78) rfl (H.perm 6 rfl) rfl rfl rfl rfl rfl rfl ?_
                refine Ew_of (pcₚ := 105) (fun _ => x_aload_n rfl (rk_o (l58_0) rfl rfl)) ?_
                refine w_gT H (o := 6) (t := 84) rfl (H.perm 6 rfl) rfl rfl rfl rfl rfl rfl ?_
                refine Ew_of (pcₚ := 109) (fun _ => x_iload_n rfl (rk_o (l58_3) rfl rfl)) ?_
                refine w_lI H (o := 84) (n := 257) rfl (H.perm 84 rfl) rfl rfl (H.fix 84 rfl rfl) (show 0 ≤ x58_3 ∧ x58_3 < ((257 : Nat) : Int) from q_2253 b5 j58_2 r1) (by decide) (fun v97 ev97 qv97 => ?_)
                have qv97 : (-2147483648 : Int) ≤ v97 ∧ v97 ≤ 2147483647 := qv97
                have ev97 : (upd1 (w58_84) (x58_3) (z91)) (x58_3) = v97 := (congrFun (congrArg (fun q => upd1 q (x58_3) (z91)) ((funext (hA90 84 rfl)).trans (ew58_84))) (x58_3)).symm.trans ev97
                have hv2 := ev97
                rw [upd1_s] at hv2
                have hn2 := jnn ((v97)) (by omega) (by omega)
                have hu2 := jup ((v97)) (by omega) (by omega)
                have hs1 := su_upd1 (g := (w58_78)) (fun x => x) (j := (v97)) (v := ((w58_78)) ((v97)) + 1) (n := 64) (by omega) (by omega)
                have hs2 := su_upd1 (g := (w58_78)) pos1 (j := (v97)) (v := ((w58_78)) ((v97)) + 1) (n := 64) (by omega) (by omega)
                have hp1 := pos1_eq (((w58_78)) ((v97)))
                have hp2 := pos1_eq (((w58_78)) ((v97)) + 1)
                have hcc := hk1 ((v97)) (by omega)
                refine Ew_of (pcₚ := 111) (fun _ => x_dup2 rfl rfl rfl) ?_
                refine w_lI H (o := 78) (n := 256) rfl (H.perm 78 rfl) rfl rfl (H.fix 78 rfl rfl) (show 0 ≤ v97 ∧ v97 < ((256 : Nat) : Int) by omega) (by decide) (fun v98 ev98 qv98 => ?_)
                have qv98 : (-2147483648 : Int) ≤ v98 ∧ v98 ≤ 2147483647 := qv98
                have ev98 : (w58_78) (v97) = v98 := (congrFun ((funext (hA90 78 rfl)).trans (ew58_78)) (v97)).symm.trans ev98
                refine Ew_of (pcₚ := 113) (fun _ => x_iconst rfl) ?_
                refine w_iadd rfl ?_
                have hxx : ((v98 + 1)) = ((w58_78)) ((v97)) + 1 := q_1902 ev98
                rw [← hxx] at hs1 hs2 hp2
                have hcw2 : CW (upd1 ((w58_78)) ((v97)) (((v98 + 1)))) ((upd1 (w58_84) (x58_3) (z91))) ((x58_3) + 1) 11 := by rw [hv2]; exact CW_next jcw rfl (by omega) (by omega) (by omega) (by omega)
                have hcz2 : CZ (upd1 ((w58_78)) ((v97)) (((v98 + 1)))) 11 := CZ_upd jcz (by omega)
                have : ∀ i, (0 : Int) ≤ i → i < 64 → 0 ≤ (upd1 ((w58_78)) ((v97)) (((v98 + 1)))) i := fun i a b => by by_cases e : i = (v97); (rw [e, upd1_s]; omega); (rw [upd1_o e]; exact jnn i a b)
                have : ∀ i, (0 : Int) ≤ i → i < 64 → (upd1 ((w58_78)) ((v97)) (((v98 + 1)))) i ≤ (x58_3) + 1 := fun i a b => by by_cases e : i = (v97); (rw [e, upd1_s]; omega); (rw [upd1_o e]; have := jup i a b; omega)
                refine w_sI H (o := 78) (n := 256) rfl (H.perm 78 rfl) rfl rfl (H.fix 78 rfl rfl) (show 0 ≤ v97 ∧ v97 < ((256 : Nat) : Int) by omega) (by decide) (show (-2147483648 : Int) ≤ (v98 + 1) ∧ (v98 + 1) ≤ 2147483647 by omega) (fun σ H => ?_)
                refine Ew_of (pcₚ := 118) (fun _ => x_iinc (len := 3) rfl (rk_o (l58_3) rfl rfl)) ?_
                refine Ew_of (pcₚ := 58) (fun _ => x_goto rfl rfl) ?_
                exact ih58 _ (msE hm58 q_31 (q_34 b5)) _ σ _ _ ((x58_2 + 1)) ((x58_3 + 1)) (rk_o (rk_o (l58_0) rfl rfl) rfl rfl) (rk_o (rk_o (l58_1) rfl rfl) rfl rfl) (rk_o (rk_s) rfl rfl) (rk_s) H (SF_trans (hS_58) hS89 (any_sub rfl)) (SA_upd (SA_upd (SA_trans (hA_58) hA90 (any_subA rfl)) rfl) rfl)  (upd1 (w58_78) (v97) ((v98 + 1))) (congrArg (fun q => upd1 q (v97) ((v98 + 1))) ((funext (hA90 78 rfl)).trans (ew58_78))) (upd1 (w58_84) (x58_3) (z91)) (congrArg (fun q => upd1 q (x58_3) (z91)) ((funext (hA90 84 rfl)).trans (ew58_84))) (show inr ((x58_2 + 1)) from q_2256 b5 j58_9 r1) (show inr ((x58_3 + 1)) from q_2255 b5 j58_2 r1) (show (0) ≤ ((x58_3 + 1)) from q_29 j58_2) (show ((x58_3 + 1)) ≤ (0) ∨ ((x58_3 + 1)) ≤ ((y7_6_53)) from q_33 b5) (show su (fun i => ((upd1 (w58_78) (v97) ((v98 + 1)))) i) 64 = ((x58_3 + 1)) by omega) (show su (fun i => pos1 (((upd1 (w58_78) (v97) ((v98 + 1)))) i)) 64 = ((x58_2 + 1)) by omega) (show ∀ i, (0 : Int) ≤ i → i < 64 → 0 ≤ ((upd1 (w58_78) (v97) ((v98 + 1)))) i by assumption) (show CW ((upd1 (w58_78) (v97) ((v98 + 1)))) ((upd1 (w58_84) (x58_3) (z91))) (((x58_3 + 1))) 11 from hcw2) (show CZ ((upd1 (w58_78) (v97) ((v98 + 1)))) 11 from hcz2) (show 0 ≤ ((x58_2 + 1)) ∧ ((x58_2 + 1)) ≤ ((x58_3 + 1)) from q_1216 j58_9) (show ∀ i, (0 : Int) ≤ i → i < 64 → ((upd1 (w58_78) (v97) ((v98 + 1)))) i ≤ ((x58_3 + 1)) by assumption) rfl
        · refine Ew_of (pcₚ := 42) (fun _ => x_aload_n rfl l34_0) ?_
          refine w_gT H (o := 6) (t := 78) rfl (H.perm 6 rfl) rfl rfl rfl rfl rfl rfl ?_
          refine Ew_of (pcₚ := 46) (fun _ => x_iload_n rfl l34_2) ?_
          refine Ew_of (pcₚ := 47) (fun _ => x_iconst rfl) ?_
          refine w_sI H (o := 78) (n := 256) rfl (H.perm 78 rfl) rfl rfl (H.fix 78 rfl rfl) (show 0 ≤ x34_2 ∧ x34_2 < ((256 : Nat) : Int) from q_1030 b4 j34_1) (by decide) (show (-2147483648 : Int) ≤ 0 ∧ 0 ≤ 2147483647 from q_240) (fun σ H => ?_)
          refine Ew_of (pcₚ := 51) (fun _ => x_iinc (len := 3) rfl (l34_2)) ?_
          refine Ew_of (pcₚ := 34) (fun _ => x_goto rfl rfl) ?_
          have : ∀ i, (0 : Int) ≤ i → i < ((x34_2 + 1)) → ((upd1 (w34_78) (x34_2) (0))) (0 + i) = 0 := share_z j34_3
          exact ih34 _ (msE hm34 q_1033 (q_1034 b4)) _ σ _ _ ((x34_2 + 1)) (rk_o (l34_0) rfl rfl) (rk_o (l34_1) rfl rfl) (rk_s) H (hS_34) (SA_upd (hA_34) rfl)  (upd1 (w34_78) (x34_2) (0)) (congrArg (fun q => upd1 q (x34_2) (0)) (ew34_78)) (show inr ((x34_2 + 1)) from q_1032 b4 j34_1) (show (0) ≤ ((x34_2 + 1)) from q_29 j34_1) (show ((x34_2 + 1)) ≤ (0) ∨ ((x34_2 + 1)) ≤ ((256)) from q_1031 b4) (show ∀ i, 0 ≤ i → i < ((x34_2 + 1)) → ((upd1 (w34_78) (x34_2) (0))) (0 + i) = 0 by assumption) rfl
    · refine Ew_of (pcₚ := 20) (fun _ => x_aload_n rfl l7_0) ?_
      refine Ew_of (pcₚ := 21) (fun _ => x_dup rfl rfl) ?_
      refine w_gI H (o := 6) (w := y7_6_53) rfl (H.perm 6 rfl) rfl rfl rfl (fun _ => rfl) (ey7_6_53) ?_
      refine Ew_of (pcₚ := 25) (fun _ => x_iconst rfl) ?_
      refine w_isub rfl ?_
      refine w_pI H (o := 6) rfl rfl (H.perm 6 rfl) rfl rfl rfl (fun _ => rfl) rfl (show (-1 : Int) ≤ (y7_6_53 - 1) ∧ (y7_6_53 - 1) ≤ 255 from q_2257 j7_0 r1) (fun σ H => ?_)
      refine Ew_of (pcₚ := 7) (fun _ => x_goto rfl rfl) ?_
      have : EXN ((w82)) (((y7_6_53 - 1))) := EXN_less (show EXN ((w82)) _ from by assumption) (by omega) (by omega)
      have := EXN_nn (show EXN ((w82)) (((y7_6_53 - 1))) from by assumption)
      exact ih7 _ (msE hm7 q_2258 (q_2259 j7_0)) _ σ _ _  (l7_0) (l7_1) H (SF_upd (hS_7) rfl) (hA_7) ((y7_6_53 - 1)) (rfl)  (show 0 ≤ ((y7_6_53 - 1)) ∧ ((y7_6_53 - 1)) ≤ 255 by omega) (show EXN ((w82)) (((y7_6_53 - 1))) by assumption) rfl
