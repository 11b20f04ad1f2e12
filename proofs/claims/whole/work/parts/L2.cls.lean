abbrev V144 : vV := [(0, 6, [(4, 0), (4, 0), (4, 0), (4, 0), (4, 0), (4, 0), (4, 0), (4, 0), (4, 0), (4, 0), (4, 0), (4, 0), (4, 0), (4, 0), (4, 0), (0, 0), (0, 0), (4, 0), (4, 0)]), (0, 5, [(4, 0), (4, 0), (4, 0), (4, 0), (0, 0), (0, 0), (0, 0), (4, 0), (4, 0), (0, 0), (0, 0), (0, 0), (0, 0), (0, 0), (0, 0), (0, 0), (0, 0), (0, 0), (0, 0)]), (1, 1, []), (1, 1, []), (1, 1, []), (1, 7, []), (1, 1, []), (1, 1, []), (1, 1, []), (1, 1, []), (0, 9, [(4, 0), (4, 0), (4, 0)]), (1, 2, [])]
set_option maxHeartbeats 16000000 in
/-- Packer.tellSymbols: this, this.finder, this.finder.literals, this.finder.lengths, this.finder.distances, this.symbols, this.symbols.0, this.numbers, this.symbols.1, this.symbols.2, this.next, this.next.latest -/
theorem C144 {σE : rS} {D N : Nat → Nat} {F : hF} {A : hA} {d c s : Nat} {Q : wQ} (H : HW V144 σE D N F A) (HT : STC σE)  (pf1 : F 0 1 = (D 1 : Int)) (pf2 : F 1 1 = (D 2 : Int)) (pf3 : F 1 2 = (D 3 : Int)) (pf4 : F 1 3 = (D 4 : Int)) (pf5 : F 0 13 = (D 5 : Int)) (pf6 : A 5 0 = (D 6 : Int)) (pf7 : F 0 14 = (D 7 : Int)) (pf8 : A 5 1 = (D 8 : Int)) (pf9 : A 5 2 = (D 9 : Int)) (pf10 : F 0 7 = (D 10 : Int)) (pf11 : F 10 2 = (D 11 : Int)) (n2 : Int) (en2 : (N 2 : Int) = n2) (n3 : Int) (en3 : (N 3 : Int) = n3) (n4 : Int) (en4 : (N 4 : Int) = n4) (n5 : Int) (en5 : (N 5 : Int) = n5) (n6 : Int) (en6 : (N 6 : Int) = n6) (n7 : Int) (en7 : (N 7 : Int) = n7) (n8 : Int) (en8 : (N 8 : Int) = n8) (n9 : Int) (en9 : (N 9 : Int) = n9) (n11 : Int) (en11 : (N 11 : Int) = n11) (u1_4 : Int) (eu1_4 : F 1 4 = u1_4) (w2 : Int → Int) (ew2 : A 2 = w2) (w3 : Int → Int) (ew3 : A 3 = w3) (w4 : Int → Int) (ew4 : A 4 = w4) (w6 : Int → Int) (ew6 : A 6 = w6) (w7 : Int → Int) (ew7 : A 7 = w7) (w8 : Int → Int) (ew8 : A 8 = w8) (w9 : Int → Int) (ew9 : A 9 = w9) (w11 : Int → Int) (ew11 : A 11 = w11) (h0 : (n2) = (n3) ∧ (n4) = (n3) ∧ (n3) ≤ 65536 ∧ ((n3) = 0 ∨ 64 ≤ (n3)) ∧ lgq ((n3)) = 0) (h1 : 0 ≤ (u1_4) ∧ (u1_4) ≤ (n3)) (h2 : DSI ((w4)) ((u1_4))) (h3 : (n5) = 3 ∧ (n6) = (n7) ∧ (n8) = (n7) ∧ (n9) = (n7) ∧ lgq ((n7)) = 0 ∧ (n7) ≤ 16384) (h4 : (n11) = 3) (k : ∀ (σ : rS) (D' N' : Nat → Nat) (F' : hF) (A' : hA) (c' s' : Nat), HW V144 σ D' N' F' A' → OUT (V144).length D N σE c s D' N' σ c' s' → SD [5, 6, 7, 8, 9] D D' → SD [5, 6, 7, 8, 9] N N' → SF [(0, 13), (0, 14)] F F' → SA [5, 6, 7, 8, 9, 11] A A' → F' 0 13 = (D' 5 : Int) → A' 5 0 = (D' 6 : Int) → F' 0 14 = (D' 7 : Int) → A' 5 1 = (D' 8 : Int) → A' 5 2 = (D' 9 : Int) → ∀ m5 : Int, (N' 5 : Int) = m5 → ∀ m6 : Int, (N' 6 : Int) = m6 → ∀ m7 : Int, (N' 7 : Int) = m7 → ∀ m8 : Int, (N' 8 : Int) = m8 → ∀ m9 : Int, (N' 9 : Int) = m9 → ∀ v6 : Int → Int, A' 6 = v6 → ∀ v7 : Int → Int, A' 7 = v7 → ∀ v8 : Int → Int, A' 8 = v8 → ∀ v9 : Int → Int, A' 9 = v9 → ∀ v11 : Int → Int, A' 11 = v11 → ((m5) = 3 ∧ (m6) = (m7) ∧ (m8) = (m7) ∧ (m9) = (m7) ∧ lgq ((m7)) = 0 ∧ (m7) ≤ 16384) → ((u1_4) ≤ (m7)) → (RNG ((v6)) ((u1_4)) 36) → (RNG ((v8)) ((u1_4)) 32) → (RNG ((v9)) ((u1_4)) 53) → (IMP (1 ≤ ((w11)) 0 ∧ 1 ≤ ((w11)) 1 ∧ 1 ≤ ((w11)) 2) (TSL ((v6)) ((v8)) ((v9)) ((v7)) ((w2)) ((w3)) ((w4)) (((w11)) 0, ((w11)) 1, ((w11)) 2) ((u1_4)) ((v11)))) → Q none σ c' s') : Ew 144 (d + 2) 0 (rargs 0 [.ref (D 0)]) [] σE c s Q := by
  have O := OUT_refl (n := (V144).length) (D := D) (N := N) (σ := σE) (c := c) (s := s)
  have HE := H
  have r1 : HID ((-2147483648 : Int) ≤ u1_4 ∧ u1_4 ≤ 2147483647) := krg_e (show (-2147483648 : Int) ≤ F 1 4 ∧ F 1 4 ≤ 2147483647 from H.krg 1 4 (by decide)) (show F 1 4 = u1_4 from (eu1_4))
  replace pf1 := HIDm pf1
  replace pf2 := HIDm pf2
  replace pf3 := HIDm pf3
  replace pf4 := HIDm pf4
  replace pf5 := HIDm pf5
  replace pf6 := HIDm pf6
  replace pf7 := HIDm pf7
  replace pf8 := HIDm pf8
  replace pf9 := HIDm pf9
  replace pf10 := HIDm pf10
  replace pf11 := HIDm pf11
  replace en2 := HIDm en2
  replace en3 := HIDm en3
  replace en4 := HIDm en4
  replace en5 := HIDm en5
  replace en6 := HIDm en6
  replace en7 := HIDm en7
  replace en8 := HIDm en8
  replace en9 := HIDm en9
  replace en11 := HIDm en11
  replace eu1_4 := HIDm eu1_4
  have r2 : HID ((0 : Int) ≤ n2 ∧ n2 ≤ 1000000) := nrng (H.nle 2 (by decide)) (show (N 2 : Int) = n2 from en2)
  have r3 : HID ((0 : Int) ≤ n3 ∧ n3 ≤ 1000000) := nrng (H.nle 3 (by decide)) (show (N 3 : Int) = n3 from en3)
  have r4 : HID ((0 : Int) ≤ n4 ∧ n4 ≤ 1000000) := nrng (H.nle 4 (by decide)) (show (N 4 : Int) = n4 from en4)
  have r5 : HID ((0 : Int) ≤ n5 ∧ n5 ≤ 1000000) := nrng (H.nle 5 (by decide)) (show (N 5 : Int) = n5 from en5)
  have r6 : HID ((0 : Int) ≤ n6 ∧ n6 ≤ 1000000) := nrng (H.nle 6 (by decide)) (show (N 6 : Int) = n6 from en6)
  have r7 : HID ((0 : Int) ≤ n7 ∧ n7 ≤ 1000000) := nrng (H.nle 7 (by decide)) (show (N 7 : Int) = n7 from en7)
  have r8 : HID ((0 : Int) ≤ n8 ∧ n8 ≤ 1000000) := nrng (H.nle 8 (by decide)) (show (N 8 : Int) = n8 from en8)
  have r9 : HID ((0 : Int) ≤ n9 ∧ n9 ≤ 1000000) := nrng (H.nle 9 (by decide)) (show (N 9 : Int) = n9 from en9)
  have r10 : HID ((0 : Int) ≤ n11 ∧ n11 ≤ 1000000) := nrng (H.nle 11 (by decide)) (show (N 11 : Int) = n11 from en11)
  have hds : DSI ((w4)) ((u1_4)) := by assumption
  refine Ew_of (pc' := 1) (fun _ => x_aload_n rfl rfl) ?_
  refine v_g H (o := 0) (v := .ref (D 1)) rfl rfl rfl rfl rfl (vrf (pf1)) ?_
  refine v_g H (o := 1) (v := I (u1_4)) rfl rfl rfl rfl rfl (congrArg (fun z : Int => I z) ((eu1_4) : F 1 4 = u1_4)) ?_
  refine Ew_of (pc' := 8) (fun _ => x_istore_n rfl) ?_
  have hc47 : ∀ (ls : rO) (σ : rS) (D_c47 N_c47 : Nat → Nat) (c_c47 s_c47 : Nat) (F_c47 : hF) (A_c47 : hA) , rlook ls 0 = some (.ref (D_c47 0)) → rlook ls 1 = some (I (u1_4)) → HW V144 σ D_c47 N_c47 F_c47 A_c47 → OUT (V144).length D N σE c s D_c47 N_c47 σ c_c47 s_c47 → SD [5, 6, 7, 8, 9] D D_c47 → SD [5, 6, 7, 8, 9] N N_c47 → SF [(0, 13), (0, 14)] F F_c47 → SA [5, 6, 7, 8, 9] A A_c47 → F_c47 0 13 = (D_c47 5 : Int) → A_c47 5 0 = (D_c47 6 : Int) → F_c47 0 14 = (D_c47 7 : Int) → A_c47 5 1 = (D_c47 8 : Int) → A_c47 5 2 = (D_c47 9 : Int) → ∀ mc47_5 : Int, (N_c47 5 : Int) = mc47_5 → ∀ mc47_6 : Int, (N_c47 6 : Int) = mc47_6 → ∀ mc47_7 : Int, (N_c47 7 : Int) = mc47_7 → ∀ mc47_8 : Int, (N_c47 8 : Int) = mc47_8 → ∀ mc47_9 : Int, (N_c47 9 : Int) = mc47_9 → ((mc47_5) = 3 ∧ (mc47_6) = (mc47_7) ∧ (mc47_8) = (mc47_7) ∧ (mc47_9) = (mc47_7) ∧ lgq ((mc47_7)) = 0 ∧ (mc47_7) ≤ 16384) → ((u1_4) ≤ (mc47_7)) → Ew 144 (d + 2) 47 ls [] σ c_c47 s_c47 Q := by
   as_aux_lemma =>
    intro  ls σ D_c47 N_c47 c_c47 s_c47 F_c47 A_c47  lc47_0 lc47_1 H O hD_c47 hN_c47 hS_c47 hA_c47 pmc47_5 pmc47_6 pmc47_7 pmc47_8 pmc47_9 mc47_5 emc47_5 mc47_6 emc47_6 mc47_7 emc47_7 mc47_8 emc47_8 mc47_9 emc47_9   jc47_0 jc47_1
    replace pmc47_5 := HIDm pmc47_5
    replace pmc47_6 := HIDm pmc47_6
    replace pmc47_7 := HIDm pmc47_7
    replace pmc47_8 := HIDm pmc47_8
    replace pmc47_9 := HIDm pmc47_9
    replace emc47_5 := HIDm emc47_5
    replace emc47_6 := HIDm emc47_6
    replace emc47_7 := HIDm emc47_7
    replace emc47_8 := HIDm emc47_8
    replace emc47_9 := HIDm emc47_9
    have pf_c47_0_1 : HID (F_c47 0 1 = (D_c47 1 : Int)) := (hS_c47 0 1 rfl).trans ((pf1).trans (congrArg (fun q : Nat => (q : Int)) (hD_c47 1 rfl).symm))
    have pf_c47_0_7 : HID (F_c47 0 7 = (D_c47 10 : Int)) := (hS_c47 0 7 rfl).trans ((pf10).trans (congrArg (fun q : Nat => (q : Int)) (hD_c47 10 rfl).symm))
    have pf_c47_1_1 : HID (F_c47 1 1 = (D_c47 2 : Int)) := (hS_c47 1 1 rfl).trans ((pf2).trans (congrArg (fun q : Nat => (q : Int)) (hD_c47 2 rfl).symm))
    have pf_c47_1_2 : HID (F_c47 1 2 = (D_c47 3 : Int)) := (hS_c47 1 2 rfl).trans ((pf3).trans (congrArg (fun q : Nat => (q : Int)) (hD_c47 3 rfl).symm))
    have pf_c47_1_3 : HID (F_c47 1 3 = (D_c47 4 : Int)) := (hS_c47 1 3 rfl).trans ((pf4).trans (congrArg (fun q : Nat => (q : Int)) (hD_c47 4 rfl).symm))
    have pf_c47_10_2 : HID (F_c47 10 2 = (D_c47 11 : Int)) := (hS_c47 10 2 rfl).trans ((pf11).trans (congrArg (fun q : Nat => (q : Int)) (hD_c47 11 rfl).symm))
    have r11 : HID ((0 : Int) ≤ mc47_5 ∧ mc47_5 ≤ 1000000) := nrng (H.nle 5 (by decide)) (show (N_c47 5 : Int) = mc47_5 from emc47_5)
    have r12 : HID ((0 : Int) ≤ mc47_6 ∧ mc47_6 ≤ 1000000) := nrng (H.nle 6 (by decide)) (show (N_c47 6 : Int) = mc47_6 from emc47_6)
    have r13 : HID ((0 : Int) ≤ mc47_7 ∧ mc47_7 ≤ 1000000) := nrng (H.nle 7 (by decide)) (show (N_c47 7 : Int) = mc47_7 from emc47_7)
    have r14 : HID ((0 : Int) ≤ mc47_8 ∧ mc47_8 ≤ 1000000) := nrng (H.nle 8 (by decide)) (show (N_c47 8 : Int) = mc47_8 from emc47_8)
    have r15 : HID ((0 : Int) ≤ mc47_9 ∧ mc47_9 ≤ 1000000) := nrng (H.nle 9 (by decide)) (show (N_c47 9 : Int) = mc47_9 from emc47_9)
    refine Ew_of (pc' := 48) (fun _ => x_iconst rfl) ?_
    refine Ew_of (pc' := 49) (fun _ => x_istore_n rfl) ?_
    have hr00 : RNG ((A_c47 6)) (0) 36 := RNG_0
    have hr01 : RNG ((A_c47 8)) (0) 32 := RNG_0
    have hr02 : RNG ((A_c47 9)) (0) 53 := RNG_0
    have : IMP (1 ≤ ((w11)) 0 ∧ 1 ≤ ((w11)) 1 ∧ 1 ≤ ((w11)) 2) (TSL ((A_c47 6)) ((A_c47 8)) ((A_c47 9)) ((A_c47 7)) ((w2)) ((w3)) ((w4)) (((w11)) 0, ((w11)) 1, ((w11)) 2) (0) ((w11))) := fun q => TSL_0 q
    suffices hl49 : ∀ (m : Nat), ∀ (ls : rO) (σ : rS) (F_49 : hF) (A_49 : hA) (x49_2 : Int), rlook ls 0 = some (.ref (D_c47 0)) → rlook ls 1 = some (I (u1_4)) → rlook ls 2 = some (I (x49_2)) → HW V144 σ D_c47 N_c47 F_49 A_49 → OUT (V144).length D N σE c s D_c47 N_c47 σ c_c47 s_c47 → SF [] F_c47 F_49 → SA [6, 7, 8, 9, 11] A_c47 A_49 → ∀ w49_6 : Int → Int, A_49 6 = w49_6 → ∀ w49_7 : Int → Int, A_49 7 = w49_7 → ∀ w49_8 : Int → Int, A_49 8 = w49_8 → ∀ w49_9 : Int → Int, A_49 9 = w49_9 → ∀ w49_11 : Int → Int, A_49 11 = w49_11 → (inr (x49_2)) → ((0) ≤ (x49_2)) → ((x49_2) ≤ (0) ∨ (x49_2) ≤ ((u1_4))) → (RNG ((w49_6)) ((x49_2)) 36) → (RNG ((w49_8)) ((x49_2)) 32) → (RNG ((w49_9)) ((x49_2)) 53) → (IMP (1 ≤ ((w11)) 0 ∧ 1 ≤ ((w11)) 1 ∧ 1 ≤ ((w11)) 2) (TSL ((w49_6)) ((w49_8)) ((w49_9)) ((w49_7)) ((w2)) ((w3)) ((w4)) (((w11)) 0, ((w11)) 1, ((w11)) 2) ((x49_2)) ((w49_11)))) → (((u1_4)) - (x49_2)).toNat = m → Ew 144 (d + 2) 49 ls [] σ c_c47 s_c47 Q from
      hl49 _ _ _ _ _ (0) (rk_o (lc47_0) rfl rfl) (rk_o (lc47_1) rfl rfl) (rk_s) H O (SF_refl) (SA_refl)    (A_c47 6) (rfl) (A_c47 7) (rfl) (A_c47 8) (rfl) (A_c47 9) (rfl) (w11) ((funext (hA_c47 11 rfl)).trans (ew11)) (show inr (0) by omega) (show (0) ≤ (0) by omega) (show (0) ≤ (0) ∨ (0) ≤ ((u1_4)) by have qh0 := HIDe r1; omega) (show RNG ((A_c47 6)) ((0)) 36 by assumption) (show RNG ((A_c47 8)) ((0)) 32 by assumption) (show RNG ((A_c47 9)) ((0)) 53 by assumption) (show IMP (1 ≤ ((w11)) 0 ∧ 1 ≤ ((w11)) 1 ∧ 1 ≤ ((w11)) 2) (TSL ((A_c47 6)) ((A_c47 8)) ((A_c47 9)) ((A_c47 7)) ((w2)) ((w3)) ((w4)) (((w11)) 0, ((w11)) 1, ((w11)) 2) ((0)) ((w11))) by assumption) rfl
    as_aux_lemma =>
    intro m
    induction m using Nat.strongRecOn with
    | _ m ih49 =>
      intro ls σ F_49 A_49 x49_2 l49_0 l49_1 l49_2 H O hS_49 hA_49    w49_6 ew49_6 w49_7 ew49_7 w49_8 ew49_8 w49_9 ew49_9 w49_11 ew49_11 j49_0 j49_1 j49_2 j49_3 j49_4 j49_5 j49_6 hm49
      have hr0 : RNG ((w49_6)) ((x49_2)) 36 := by assumption
      have hr1 : RNG ((w49_8)) ((x49_2)) 32 := by assumption
      have hr2 : RNG ((w49_9)) ((x49_2)) 53 := by assumption
      have j49_t : IMP (1 ≤ ((w11)) 0 ∧ 1 ≤ ((w11)) 1 ∧ 1 ≤ ((w11)) 2) (TSL ((w49_6)) ((w49_8)) ((w49_9)) ((w49_7)) ((w2)) ((w3)) ((w4)) (((w11)) 0, ((w11)) 1, ((w11)) 2) ((x49_2)) ((w49_11))) := by assumption
      obtain ⟨ql2, hql2⟩ : ∃ q : Int, q = (x49_2) := ⟨_, rfl⟩
      refine Ew_of (pc' := 50) (fun _ => x_iload_n rfl l49_2) ?_
      refine Ew_of (pc' := 51) (fun _ => x_iload_n rfl l49_1) ?_
      refine w_icmpge (t := 164) rfl rfl (show inr (x49_2) by omega) (show inr (u1_4) by have qh0 := HIDe r1; omega) (fun b16 => ?_) (fun b16 => ?_)
      · have hl2 : (x49_2) = (u1_4) := by (have qg0 := HIDe r1; omega)
        have hq0 : RNG ((w49_6)) ((u1_4)) 36 := by rw [← hl2]; assumption
        have hq1 : RNG ((w49_8)) ((u1_4)) 32 := by rw [← hl2]; assumption
        have hq2 : RNG ((w49_9)) ((u1_4)) 53 := by rw [← hl2]; assumption
        have : IMP (1 ≤ ((w11)) 0 ∧ 1 ≤ ((w11)) 1 ∧ 1 ≤ ((w11)) 2) (TSL ((w49_6)) ((w49_8)) ((w49_9)) ((w49_7)) ((w2)) ((w3)) ((w4)) (((w11)) 0, ((w11)) 1, ((w11)) 2) ((u1_4)) ((w49_11))) := by rw [← hl2]; exact j49_t
        exact w_ret rfl (k _ _ _ _ _ _ _ H O (SD_trans (SD_refl) hD_c47 (any_subA rfl)) (SD_trans (SD_refl) hN_c47 (any_subA rfl)) (SF_trans (SF_trans (SF_refl) hS_c47 (any_sub rfl)) hS_49 (any_sub rfl)) (SA_trans (SA_trans (SA_refl) hA_c47 (any_subA rfl)) hA_49 (any_subA rfl)) (((hS_49 0 13 rfl)).trans (pmc47_5)) ((congrFun ((funext (hA_49 5 rfl))) 0).trans (pmc47_6)) (((hS_49 0 14 rfl)).trans (pmc47_7)) ((congrFun ((funext (hA_49 5 rfl))) 1).trans (pmc47_8)) ((congrFun ((funext (hA_49 5 rfl))) 2).trans (pmc47_9)) (mc47_5) (emc47_5) (mc47_6) (emc47_6) (mc47_7) (emc47_7) (mc47_8) (emc47_8) (mc47_9) (emc47_9) (w49_6) (ew49_6) (w49_7) (ew49_7) (w49_8) (ew49_8) (w49_9) (ew49_9) (w49_11) (ew49_11) (show (mc47_5) = 3 ∧ (mc47_6) = (mc47_7) ∧ (mc47_8) = (mc47_7) ∧ (mc47_9) = (mc47_7) ∧ lgq ((mc47_7)) = 0 ∧ (mc47_7) ≤ 16384 by have qh0 := HIDe r11; have qh1 := HIDe r12; have qh2 := HIDe r13; have qh3 := HIDe r14; have qh4 := HIDe r15; omega) (show (u1_4) ≤ (mc47_7) by have qh0 := HIDe r1; have qh1 := HIDe r13; omega) (show RNG ((w49_6)) ((u1_4)) 36 by assumption) (show RNG ((w49_8)) ((u1_4)) 32 by assumption) (show RNG ((w49_9)) ((u1_4)) 53 by assumption) (show IMP (1 ≤ ((w11)) 0 ∧ 1 ≤ ((w11)) 1 ∧ 1 ≤ ((w11)) 2) (TSL ((w49_6)) ((w49_8)) ((w49_9)) ((w49_7)) ((w2)) ((w3)) ((w4)) (((w11)) 0, ((w11)) 1, ((w11)) 2) ((u1_4)) ((w49_11))) by assumption))
      · refine Ew_of (pc' := 55) (fun _ => x_aload_n rfl l49_0) ?_
        refine v_g H (o := 0) (v := .ref (D_c47 1)) rfl rfl rfl rfl rfl (vrf (((hS_49 0 1 rfl)).trans (pf_c47_0_1))) ?_
        refine v_g H (o := 1) (v := .ref (D_c47 2)) rfl rfl rfl rfl rfl (vrf (((hS_49 1 1 rfl)).trans (pf_c47_1_1))) ?_
        refine Ew_of (pc' := 62) (fun _ => x_iload_n rfl l49_2) ?_
        refine v_lI H (o := 2) rfl rfl rfl rfl (n := n2) ((congrArg (fun q : Nat => (q : Int)) (hN_c47 2 rfl)).trans (en2)) (show 0 ≤ x49_2 ∧ x49_2 < n2 by have qh0 := HIDe r2; omega) (fun v17 ev17 qv17 => ?_)
        replace qv17 := HIDm qv17
        have ev17 : (w2) (x49_2) = v17 := (congrFun ((funext (hA_49 2 rfl)).trans ((funext (hA_c47 2 rfl)).trans (ew2))) (x49_2)).symm.trans ev17
        have hli := ev17
        refine Ew_of (pc' := 64) (fun _ => x_istore_n rfl) ?_
        refine Ew_of (pc' := 65) (fun _ => x_aload_n rfl (rk_o (l49_0) rfl rfl)) ?_
        refine v_g H (o := 0) (v := .ref (D_c47 7)) rfl rfl rfl rfl rfl (vrf (((hS_49 0 14 rfl)).trans (pmc47_7))) ?_
        refine Ew_of (pc' := 69) (fun _ => x_iload_n rfl (rk_o (l49_2) rfl rfl)) ?_
        refine Ew_of (pc' := 70) (fun _ => x_aload_n rfl (rk_o (l49_0) rfl rfl)) ?_
        refine v_g H (o := 0) (v := .ref (D_c47 10)) rfl rfl rfl rfl rfl (vrf (((hS_49 0 7 rfl)).trans (pf_c47_0_7))) ?_
        refine Ew_of (pc' := 74) (fun _ => x_aload_n rfl (rk_o (l49_0) rfl rfl)) ?_
        refine v_g H (o := 0) (v := .ref (D_c47 1)) rfl rfl rfl rfl rfl (vrf (((hS_49 0 1 rfl)).trans (pf_c47_0_1))) ?_
        refine v_g H (o := 1) (v := .ref (D_c47 4)) rfl rfl rfl rfl rfl (vrf (((hS_49 1 3 rfl)).trans (pf_c47_1_3))) ?_
        refine Ew_of (pc' := 81) (fun _ => x_iload_n rfl (rk_o (l49_2) rfl rfl)) ?_
        refine v_lI H (o := 4) rfl rfl rfl rfl (n := n4) ((congrArg (fun q : Nat => (q : Int)) (hN_c47 4 rfl)).trans (en4)) (show 0 ≤ x49_2 ∧ x49_2 < n4 by have qh0 := HIDe r4; omega) (fun v18 ev18 qv18 => ?_)
        replace qv18 := HIDm qv18
        have ev18 : (w4) (x49_2) = v18 := (congrFun ((funext (hA_49 4 rfl)).trans ((funext (hA_c47 4 rfl)).trans (ew4))) (x49_2)).symm.trans ev18
        have hdi := ev18
        have hdv := hds ((x49_2)) (by omega) (by omega)
        rw [ev18] at hdv
        refine Ew_of (pc' := 83) (fun _ => x_iload_n rfl rk_s) ?_
        refine v_inv H (o := 10) rfl rfl rfl rfl rfl rfl (by rfl) (C190 (D := pul [10, 11] D_c47) (N := pul [10, 11] N_c47) (HW_sub H (VS_of (show vsub V144 V190 [10, 11] = true by decide +kernel))) (((hS_49 10 2 rfl)).trans (pf_c47_10_2)) (n11) ((congrArg (fun q : Nat => (q : Int)) (hN_c47 11 rfl)).trans (en11)) (w49_11) (ew49_11) (show inr (v18) by have qh0 := HIDe qv18; omega) (show inr (v17) by have qh0 := HIDe qv17; omega) (show 1 ≤ (v18) ∧ (v18) ≤ 16384 by have qh0 := HIDe qv18; omega) (show (n11) = 3 by have qh0 := HIDe r10; omega) (fun z19 σ19 F19' A19' H' O' hS19 hA19 pz19_0 pz19_1 pz19_2 => ⟨rfl, ?_⟩))
        refine v_back (c := c_c47) (s := s_c47) H (show vsub V144 V190 [10, 11] = true by decide +kernel) H' O' (fun F19 A19 H O' eF19 eA19 => ?_)
        have O := OUT_trans O O'
        -- Stand.leastFor
        have hnu := pz19_2
        obtain ⟨qnu, hqnu⟩ : ∃ q : Int, q = (z19) := ⟨_, rfl⟩
        refine v_sI H (o := 7) (z := z19) rfl rfl rfl rfl (n := mc47_7) (emc47_7) (show 0 ≤ x49_2 ∧ x49_2 < mc47_7 by have qh0 := HIDe r13; omega) (show inr (z19) by omega) (fun σ H O' => ?_)
        have O := OUT_trans O O'
        refine Ew_of (pc' := 88) (fun _ => x_aload_n rfl (rk_o (l49_0) rfl rfl)) ?_
        refine v_g H (o := 0) (v := .ref (D_c47 10)) rfl rfl rfl rfl rfl (vrf (((((show F19 0 7 = F_49 0 7 from (eF19 0 7))).trans (hS_49 0 7 rfl))).trans (pf_c47_0_7))) ?_
        refine Ew_of (pc' := 92) (fun _ => x_aload_n rfl (rk_o (l49_0) rfl rfl)) ?_
        refine v_g H (o := 0) (v := .ref (D_c47 7)) rfl rfl rfl rfl rfl (vrf (((((show F19 0 14 = F_49 0 14 from (eF19 0 14))).trans (hS_49 0 14 rfl))).trans (pmc47_7))) ?_
        refine Ew_of (pc' := 96) (fun _ => x_iload_n rfl (rk_o (l49_2) rfl rfl)) ?_
        refine v_lI H (o := 7) rfl rfl rfl rfl (n := mc47_7) (emc47_7) (show 0 ≤ x49_2 ∧ x49_2 < mc47_7 by have qh0 := HIDe r13; omega) (fun v20 ev20 qv20 => ?_)
        replace qv20 := HIDm qv20
        have ev20 : (upd1 (w49_7) (x49_2) (z19)) (x49_2) = v20 := (congrFun (congrArg (fun q => upd1 q (x49_2) (z19)) (((show A19 7 = A_49 7 from (eA19 7))).trans (ew49_7))) (x49_2)).symm.trans ev20
        have hnq : ((v20) : Int) = qnu := by have w := ev20; rw [upd1_s] at w; (have qg0 := HIDe qv20; omega)
        have hnv : 1 ≤ ((v20) : Int) ∧ ((v20) : Int) ≤ 16387 := by have w := ev20; rw [upd1_s] at w; (have qg0 := HIDe qv20; omega)
        refine w_i2l rfl (show inr (v20) by have qh0 := HIDe qv20; omega) ?_
        refine Ew_of (pc' := 99) (fun _ => x_iload_n rfl rk_s) ?_
        refine v_inv H (o := 10) rfl rfl rfl rfl rfl rfl (by rfl) (C189 (D := pul [10, 11] D_c47) (N := pul [10, 11] N_c47) (HW_sub H (VS_of (show vsub V144 V189 [10, 11] = true by decide +kernel))) (((((show F19 10 2 = F_49 10 2 from (eF19 10 2).trans (hS19 0 2 rfl))).trans (hS_49 10 2 rfl))).trans (pf_c47_10_2)) (n11) ((congrArg (fun q : Nat => (q : Int)) (hN_c47 11 rfl)).trans (en11)) (w49_11) (((show A19 11 = A_49 11 from (eA19 11).trans (funext (hA19 1 rfl)))).trans (ew49_11)) (show inrJ (v20) by have qh0 := HIDe qv20; omega) (show inr (v17) by have qh0 := HIDe qv17; omega) (show 1 ≤ (v20) by have qh0 := HIDe qv20; omega) (show (n11) = 3 by have qh0 := HIDe r10; omega) (show (v20) ≤ 9000000000000000000 by have qh0 := HIDe qv20; omega) (fun z21 σ21 F21' A21' H' O' hS21 hA21 w21_1 ew21_1 pz21_0 pz21_1 => ⟨rfl, ?_⟩))
        refine v_back (c := c_c47) (s := s_c47) H (show vsub V144 V189 [10, 11] = true by decide +kernel) H' O' (fun F21 A21 H O' eF21 eA21 => ?_)
        have O := OUT_trans O O'
        -- Stand.tellDistance
        have htd := pz21_1
        rw [hnq, hqnu] at htd
        refine Ew_of (pc' := 103) (fun _ => x_pop2 rfl) ?_
        refine Ew_of (pc' := 104) (fun _ => x_aload_n rfl (rk_o (l49_0) rfl rfl)) ?_
        refine v_g H (o := 0) (v := .ref (D_c47 5)) rfl rfl rfl rfl rfl (vrf ((((((show F21 0 13 = F19 0 13 from (eF21 0 13))).trans ((show F19 0 13 = F_49 0 13 from (eF19 0 13)))).trans (hS_49 0 13 rfl))).trans (pmc47_5))) ?_
        refine Ew_of (pc' := 108) (fun _ => x_iconst rfl) ?_
        refine v_lR H (o := 5) rfl rfl rfl rfl rfl (n := mc47_5) (emc47_5) (show 0 ≤ 0 ∧ 0 < mc47_5 by have qh0 := HIDe r11; omega) (z := ((D_c47 6 : Nat) : Int)) (v := .ref (D_c47 6)) ((congrFun (((((show A21 5 = (updA A19 7 (x49_2) (z19)) 5 from (eA21 5))).trans ((show A19 5 = A_49 5 from (eA19 5)))).trans (funext (hA_49 5 rfl)))) 0).trans (pmc47_6)) (vrf rfl) ?_
        refine Ew_of (pc' := 110) (fun _ => x_iload_n rfl (rk_o (l49_2) rfl rfl)) ?_
        refine Ew_of (pc' := 111) (fun _ => x_iload_n rfl rk_s) ?_
        refine Ew_of (pc' := 114) (fun _ => x_getstatic rfl) ?_
        refine w_stat24 rfl rfl (by rfl) (C145_S7 (D := pul [] D_c47) (N := pul [] N_c47) (HW_sub H (VS_of (show vsub V144 V145_S7 [] = true by decide +kernel))) (STC_out HT HE O) (show inr (v17) by have qh0 := HIDe qv17; omega) (fun z22 σ22 F22' A22' H' O' hS22 hA22 pz22_0 pz22_1 pz22_2 => ⟨rfl, ?_⟩))
        refine v_back (c := c_c47) (s := s_c47) H (show vsub V144 V145_S7 [] = true by decide +kernel) H' O' (fun F22 A22 H O' eF22 eA22 => ?_)
        have O := OUT_trans O O'
        -- Packer.symbolFor
        have hv0 : 0 ≤ ((z22) : Int) ∧ ((z22) : Int) < 36 := by omega
        have hy0 := pz22_2
        refine v_sI H (o := 6) (z := z22) rfl rfl rfl rfl (n := mc47_6) (emc47_6) (show 0 ≤ x49_2 ∧ x49_2 < mc47_6 by have qh0 := HIDe r12; omega) (show inr (z22) by omega) (fun σ H O' => ?_)
        have O := OUT_trans O O'
        refine Ew_of (pc' := 119) (fun _ => x_aload_n rfl (rk_o (l49_0) rfl rfl)) ?_
        refine v_g H (o := 0) (v := .ref (D_c47 5)) rfl rfl rfl rfl rfl (vrf (((((((show F22 0 13 = F21 0 13 from (eF22 0 13))).trans ((show F21 0 13 = F19 0 13 from (eF21 0 13)))).trans ((show F19 0 13 = F_49 0 13 from (eF19 0 13)))).trans (hS_49 0 13 rfl))).trans (pmc47_5))) ?_
        refine Ew_of (pc' := 123) (fun _ => x_iconst rfl) ?_
        refine v_lR H (o := 5) rfl rfl rfl rfl rfl (n := mc47_5) (emc47_5) (show 0 ≤ 1 ∧ 1 < mc47_5 by have qh0 := HIDe r11; omega) (z := ((D_c47 8 : Nat) : Int)) (v := .ref (D_c47 8)) ((congrFun ((((((show A22 5 = A21 5 from (eA22 5))).trans ((show A21 5 = (updA A19 7 (x49_2) (z19)) 5 from (eA21 5)))).trans ((show A19 5 = A_49 5 from (eA19 5)))).trans (funext (hA_49 5 rfl)))) 1).trans (pmc47_8)) (vrf rfl) ?_
        refine Ew_of (pc' := 125) (fun _ => x_iload_n rfl (rk_o (l49_2) rfl rfl)) ?_
        refine Ew_of (pc' := 126) (fun _ => x_aload_n rfl (rk_o (l49_0) rfl rfl)) ?_
        refine v_g H (o := 0) (v := .ref (D_c47 7)) rfl rfl rfl rfl rfl (vrf (((((((show F22 0 14 = F21 0 14 from (eF22 0 14))).trans ((show F21 0 14 = F19 0 14 from (eF21 0 14)))).trans ((show F19 0 14 = F_49 0 14 from (eF19 0 14)))).trans (hS_49 0 14 rfl))).trans (pmc47_7))) ?_
        refine Ew_of (pc' := 130) (fun _ => x_iload_n rfl (rk_o (l49_2) rfl rfl)) ?_
        refine v_lI H (o := 7) rfl rfl rfl rfl (n := mc47_7) (emc47_7) (show 0 ≤ x49_2 ∧ x49_2 < mc47_7 by have qh0 := HIDe r13; omega) (fun v23 ev23 qv23 => ?_)
        replace qv23 := HIDm qv23
        have ev23 : (upd1 (w49_7) (x49_2) (z19)) (x49_2) = v23 := (congrFun (((show A22 7 = A21 7 from (eA22 7))).trans (((show A21 7 = (updA A19 7 (x49_2) (z19)) 7 from (eA21 7))).trans (congrArg (fun q => upd1 q (x49_2) (z19)) (((show A19 7 = A_49 7 from (eA19 7))).trans (ew49_7))))) (x49_2)).symm.trans ev23
        have hnr : ((v23) : Int) = qnu := by have w := ev23; rw [upd1_s] at w; (have qg0 := HIDe qv23; omega)
        have hnv2 : 1 ≤ ((v23) : Int) := by have w := ev23; rw [upd1_s] at w; (have qg0 := HIDe qv23; omega)
        refine w_stat25 rfl rfl (by rfl) (C45 (D := pul [] D_c47) (N := pul [] N_c47) (HW_sub H (VS_of (show vsub V144 V45 [] = true by decide +kernel))) (show inr (v23) by have qh0 := HIDe qv23; omega) (show 1 ≤ (v23) by have qh0 := HIDe qv23; omega) (fun z24 σ24 F24' A24' H' O' hS24 hA24 pz24_0 pz24_1 pz24_2 => ⟨rfl, ?_⟩))
        refine v_back (c := c_c47) (s := s_c47) H (show vsub V144 V45 [] = true by decide +kernel) H' O' (fun F24 A24 H O' eF24 eA24 => ?_)
        have O := OUT_trans O O'
        -- PackHouse.highestBit
        refine v_sI H (o := 8) (z := z24) rfl rfl rfl rfl (n := mc47_8) (emc47_8) (show 0 ≤ x49_2 ∧ x49_2 < mc47_8 by have qh0 := HIDe r14; omega) (show inr (z24) by omega) (fun σ H O' => ?_)
        have O := OUT_trans O O'
        refine Ew_of (pc' := 136) (fun _ => x_aload_n rfl (rk_o (l49_0) rfl rfl)) ?_
        refine v_g H (o := 0) (v := .ref (D_c47 5)) rfl rfl rfl rfl rfl (vrf ((((((((show F24 0 13 = F22 0 13 from (eF24 0 13))).trans ((show F22 0 13 = F21 0 13 from (eF22 0 13)))).trans ((show F21 0 13 = F19 0 13 from (eF21 0 13)))).trans ((show F19 0 13 = F_49 0 13 from (eF19 0 13)))).trans (hS_49 0 13 rfl))).trans (pmc47_5))) ?_
        refine Ew_of (pc' := 140) (fun _ => x_iconst rfl) ?_
        refine v_lR H (o := 5) rfl rfl rfl rfl rfl (n := mc47_5) (emc47_5) (show 0 ≤ 2 ∧ 2 < mc47_5 by have qh0 := HIDe r11; omega) (z := ((D_c47 9 : Nat) : Int)) (v := .ref (D_c47 9)) ((congrFun (((((((show A24 5 = (updA A22 6 (x49_2) (z22)) 5 from (eA24 5))).trans ((show A22 5 = A21 5 from (eA22 5)))).trans ((show A21 5 = (updA A19 7 (x49_2) (z19)) 5 from (eA21 5)))).trans ((show A19 5 = A_49 5 from (eA19 5)))).trans (funext (hA_49 5 rfl)))) 2).trans (pmc47_9)) (vrf rfl) ?_
        refine Ew_of (pc' := 142) (fun _ => x_iload_n rfl (rk_o (l49_2) rfl rfl)) ?_
        refine Ew_of (pc' := 143) (fun _ => x_aload_n rfl (rk_o (l49_0) rfl rfl)) ?_
        refine v_g H (o := 0) (v := .ref (D_c47 1)) rfl rfl rfl rfl rfl (vrf ((((((((show F24 0 1 = F22 0 1 from (eF24 0 1))).trans ((show F22 0 1 = F21 0 1 from (eF22 0 1)))).trans ((show F21 0 1 = F19 0 1 from (eF21 0 1)))).trans ((show F19 0 1 = F_49 0 1 from (eF19 0 1)))).trans (hS_49 0 1 rfl))).trans (pf_c47_0_1))) ?_
        refine v_g H (o := 1) (v := .ref (D_c47 3)) rfl rfl rfl rfl rfl (vrf ((((((((show F24 1 2 = F22 1 2 from (eF24 1 2))).trans ((show F22 1 2 = F21 1 2 from (eF22 1 2)))).trans ((show F21 1 2 = F19 1 2 from (eF21 1 2)))).trans ((show F19 1 2 = F_49 1 2 from (eF19 1 2)))).trans (hS_49 1 2 rfl))).trans (pf_c47_1_2))) ?_
        refine Ew_of (pc' := 150) (fun _ => x_iload_n rfl (rk_o (l49_2) rfl rfl)) ?_
        refine v_lI H (o := 3) rfl rfl rfl rfl (n := n3) ((congrArg (fun q : Nat => (q : Int)) (hN_c47 3 rfl)).trans (en3)) (show 0 ≤ x49_2 ∧ x49_2 < n3 by have qh0 := HIDe r3; omega) (fun v25 ev25 qv25 => ?_)
        replace qv25 := HIDm qv25
        have ev25 : (w3) (x49_2) = v25 := (congrFun (((show A24 3 = (updA A22 6 (x49_2) (z22)) 3 from (eA24 3))).trans (((show A22 3 = A21 3 from (eA22 3))).trans (((show A21 3 = (updA A19 7 (x49_2) (z19)) 3 from (eA21 3))).trans (((show A19 3 = A_49 3 from (eA19 3))).trans ((funext (hA_49 3 rfl)).trans ((funext (hA_c47 3 rfl)).trans (ew3))))))) (x49_2)).symm.trans ev25
        have hle_ := ev25
        refine Ew_of (pc' := 154) (fun _ => x_getstatic rfl) ?_
        refine w_stat24 rfl rfl (by rfl) (C145_S9 (D := pul [] D_c47) (N := pul [] N_c47) (HW_sub H (VS_of (show vsub V144 V145_S9 [] = true by decide +kernel))) (STC_out HT HE O) (show inr (v25) by have qh0 := HIDe qv25; omega) (fun z26 σ26 F26' A26' H' O' hS26 hA26 pz26_0 pz26_1 pz26_2 => ⟨rfl, ?_⟩))
        refine v_back (c := c_c47) (s := s_c47) H (show vsub V144 V145_S9 [] = true by decide +kernel) H' O' (fun F26 A26 H O' eF26 eA26 => ?_)
        have O := OUT_trans O O'
        -- Packer.symbolFor
        have hy2 := pz26_2
        refine v_sI H (o := 9) (z := z26) rfl rfl rfl rfl (n := mc47_9) (emc47_9) (show 0 ≤ x49_2 ∧ x49_2 < mc47_9 by have qh0 := HIDe r15; omega) (show inr (z26) by omega) (fun σ H O' => ?_)
        have O := OUT_trans O O'
        refine Ew_of (pc' := 161) (fun _ => x_iinc (len := 3) rfl (rk_o (l49_2) rfl rfl)) ?_
        refine Ew_of (pc' := 49) (fun _ => x_goto rfl rfl) ?_
        have hs0 : RNG ((upd1 (w49_6) (x49_2) (z22))) (((x49_2 + 1))) 36 := RNG_s hr0 rfl (by omega)
        have hs1 : RNG ((upd1 (w49_8) (x49_2) (z24))) (((x49_2 + 1))) 32 := RNG_s hr1 rfl (by omega)
        have hs2 : RNG ((upd1 (w49_9) (x49_2) (z26))) (((x49_2 + 1))) 53 := RNG_s hr2 rfl (by omega)
        have : IMP (1 ≤ ((w11)) 0 ∧ 1 ≤ ((w11)) 1 ∧ 1 ≤ ((w11)) 2) (TSL ((upd1 (w49_6) (x49_2) (z22))) ((upd1 (w49_8) (x49_2) (z24))) ((upd1 (w49_9) (x49_2) (z26))) ((upd1 (w49_7) (x49_2) (z19))) ((w2)) ((w3)) ((w4)) (((w11)) 0, ((w11)) 1, ((w11)) 2) (((x49_2 + 1))) ((w21_1))) := fun q => TSL_s (j49_t q) (by omega) rfl hdi hli hle_ (by omega) (hnu (j49_t q).2.2.1) (htd (j49_t q).2.2) hy0 hy2 (by omega) (by omega)
        exact ih49 _ (by omega) _ _ _ _ ((x49_2 + 1)) (rk_o (rk_o (l49_0) rfl rfl) rfl rfl) (rk_o (rk_o (l49_1) rfl rfl) rfl rfl) (rk_s) H O (SF_trans (SF_trans (SF_trans (SF_trans (SF_trans (hS_49) (SF_glu (ι := [10, 11]) hS19 eF19 (by decide +kernel)) (any_sub (l' := []) rfl)) (SF_glu (ι := [10, 11]) hS21 eF21 (by decide +kernel)) (any_sub (l' := []) rfl)) (SF_glu (ι := []) hS22 eF22 (by decide +kernel)) (any_sub (l' := []) rfl)) (SF_glu (ι := []) hS24 eF24 (by decide +kernel)) (any_sub (l' := []) rfl)) (SF_glu (ι := []) hS26 eF26 (by decide +kernel)) (any_sub (l' := []) rfl)) (SA_upd (SA_trans (SA_upd (SA_trans (SA_upd (SA_trans (SA_trans (SA_upd (SA_trans (hA_49) (SA_glu (ι := [10, 11]) hA19 eA19 (by decide +kernel)) (any_subA (l' := []) rfl)) rfl) (SA_glu (ι := [10, 11]) hA21 eA21 (by decide +kernel)) (any_subA (l' := [11]) rfl)) (SA_glu (ι := []) hA22 eA22 (by decide +kernel)) (any_subA (l' := []) rfl)) rfl) (SA_glu (ι := []) hA24 eA24 (by decide +kernel)) (any_subA (l' := []) rfl)) rfl) (SA_glu (ι := []) hA26 eA26 (by decide +kernel)) (any_subA (l' := []) rfl)) rfl)    (upd1 (w49_6) (x49_2) (z22)) (((show A26 6 = (updA A24 8 (x49_2) (z24)) 6 from (eA26 6))).trans (((show A24 6 = (updA A22 6 (x49_2) (z22)) 6 from (eA24 6))).trans (congrArg (fun q => upd1 q (x49_2) (z22)) (((show A22 6 = A21 6 from (eA22 6))).trans (((show A21 6 = (updA A19 7 (x49_2) (z19)) 6 from (eA21 6))).trans (((show A19 6 = A_49 6 from (eA19 6))).trans (ew49_6))))))) (upd1 (w49_7) (x49_2) (z19)) (((show A26 7 = (updA A24 8 (x49_2) (z24)) 7 from (eA26 7))).trans (((show A24 7 = (updA A22 6 (x49_2) (z22)) 7 from (eA24 7))).trans (((show A22 7 = A21 7 from (eA22 7))).trans (((show A21 7 = (updA A19 7 (x49_2) (z19)) 7 from (eA21 7))).trans (congrArg (fun q => upd1 q (x49_2) (z19)) (((show A19 7 = A_49 7 from (eA19 7))).trans (ew49_7))))))) (upd1 (w49_8) (x49_2) (z24)) (((show A26 8 = (updA A24 8 (x49_2) (z24)) 8 from (eA26 8))).trans (congrArg (fun q => upd1 q (x49_2) (z24)) (((show A24 8 = (updA A22 6 (x49_2) (z22)) 8 from (eA24 8))).trans (((show A22 8 = A21 8 from (eA22 8))).trans (((show A21 8 = (updA A19 7 (x49_2) (z19)) 8 from (eA21 8))).trans (((show A19 8 = A_49 8 from (eA19 8))).trans (ew49_8))))))) (upd1 (w49_9) (x49_2) (z26)) (congrArg (fun q => upd1 q (x49_2) (z26)) (((show A26 9 = (updA A24 8 (x49_2) (z24)) 9 from (eA26 9))).trans (((show A24 9 = (updA A22 6 (x49_2) (z22)) 9 from (eA24 9))).trans (((show A22 9 = A21 9 from (eA22 9))).trans (((show A21 9 = (updA A19 7 (x49_2) (z19)) 9 from (eA21 9))).trans (((show A19 9 = A_49 9 from (eA19 9))).trans (ew49_9))))))) (w21_1) (((show A26 11 = (updA A24 8 (x49_2) (z24)) 11 from (eA26 11))).trans (((show A24 11 = (updA A22 6 (x49_2) (z22)) 11 from (eA24 11))).trans (((show A22 11 = A21 11 from (eA22 11))).trans ((eA21 11).trans ew21_1)))) (show inr ((x49_2 + 1)) by omega) (show (0) ≤ ((x49_2 + 1)) by omega) (show ((x49_2 + 1)) ≤ (0) ∨ ((x49_2 + 1)) ≤ ((u1_4)) by have qh0 := HIDe r1; omega) (show RNG ((upd1 (w49_6) (x49_2) (z22))) (((x49_2 + 1))) 36 by assumption) (show RNG ((upd1 (w49_8) (x49_2) (z24))) (((x49_2 + 1))) 32 by assumption) (show RNG ((upd1 (w49_9) (x49_2) (z26))) (((x49_2 + 1))) 53 by assumption) (show IMP (1 ≤ ((w11)) 0 ∧ 1 ≤ ((w11)) 1 ∧ 1 ≤ ((w11)) 2) (TSL ((upd1 (w49_6) (x49_2) (z22))) ((upd1 (w49_8) (x49_2) (z24))) ((upd1 (w49_9) (x49_2) (z26))) ((upd1 (w49_7) (x49_2) (z19))) ((w2)) ((w3)) ((w4)) (((w11)) 0, ((w11)) 1, ((w11)) 2) (((x49_2 + 1))) ((w21_1))) by assumption) rfl
  refine Ew_of (pc' := 9) (fun _ => x_aload_n rfl (rk_o (rfl) rfl rfl)) ?_
  refine v_g H (o := 0) (v := .ref (D 7)) rfl rfl rfl rfl rfl (vrf (pf7)) ?_
  refine v_len H (o := 7) rfl rfl rfl rfl (n := n7) (en7) ?_
  refine Ew_of (pc' := 14) (fun _ => x_iload_n rfl rk_s) ?_
  refine w_icmpge (t := 47) rfl rfl (show inr (n7) by have qh0 := HIDe r7; omega) (show inr (u1_4) by have qh0 := HIDe r1; omega) (fun b27 => ?_) (fun b27 => ?_)
  · exact hc47  _ _ _ _ _ _ _ _  (rk_o (rfl) rfl rfl) (rk_s) H O (SD_refl) (SD_refl) (SF_refl) (SA_refl) (pf5) (pf6) (pf7) (pf8) (pf9) (n5) (en5) (n6) (en6) (n7) (en7) (n8) (en8) (n9) (en9)   (show (n5) = 3 ∧ (n6) = (n7) ∧ (n8) = (n7) ∧ (n9) = (n7) ∧ lgq ((n7)) = 0 ∧ (n7) ≤ 16384 by have qh0 := HIDe r5; have qh1 := HIDe r6; have qh2 := HIDe r7; have qh3 := HIDe r8; have qh4 := HIDe r9; omega) (show (u1_4) ≤ (n7) by have qh0 := HIDe r1; have qh1 := HIDe r7; omega)
  · refine Ew_of (pc' := 18) (fun _ => x_iload_n rfl rk_s) ?_
    refine Ew_of (pc' := 19) (fun _ => x_aload_n rfl (rk_o (rfl) rfl rfl)) ?_
    refine v_g H (o := 0) (v := .ref (D 1)) rfl rfl rfl rfl rfl (vrf (pf1)) ?_
    refine v_g H (o := 1) (v := .ref (D 3)) rfl rfl rfl rfl rfl (vrf (pf3)) ?_
    refine v_len H (o := 3) rfl rfl rfl rfl (n := n3) (en3) ?_
    refine v_max rfl rfl (show inr (u1_4) by have qh0 := HIDe r1; omega) (show inr (n3) by have qh0 := HIDe r3; omega) (fun z28 gz28 => ?_)
    refine Ew_of (pc' := 30) (fun _ => x_istore_n rfl) ?_
    have hlz : lgq ((z28)) = 0 := lgq_e (b := (n3)) (by (have qg0 := HIDe r3; omega)) (by (have qg0 := HIDe r3; omega))
    have hlt : (n7) < (z28) ∧ (z28) ≤ 16384 := by have w := lgq_i hlz; (have qg0 := HIDe r7; omega)
    have hg0 := grow_ok2 (m := (n7)) (n := (z28)) (by (have qg0 := HIDe r7; omega)) (by (have qg0 := HIDe r7; omega)) (by (have qg0 := HIDe r7; omega)) hlz
    have hg1 := hg0.1
    have hg2 := hg0.2.1
    have hgm0 := (grow_ok2 (m := (n6)) (n := (z28)) (by (have qg0 := HIDe r6; have qg1 := HIDe r7; omega)) (by (have qg0 := HIDe r6; have qg1 := HIDe r7; omega)) (lgq_e (b := (n7)) (by (have qg0 := HIDe r6; have qg1 := HIDe r7; omega)) (by (have qg0 := HIDe r6; have qg1 := HIDe r7; omega))) hlz).2.2
    have hgm1 := (grow_ok2 (m := (n8)) (n := (z28)) (by (have qg0 := HIDe r7; have qg1 := HIDe r8; omega)) (by (have qg0 := HIDe r7; have qg1 := HIDe r8; omega)) (lgq_e (b := (n7)) (by (have qg0 := HIDe r7; have qg1 := HIDe r8; omega)) (by (have qg0 := HIDe r7; have qg1 := HIDe r8; omega))) hlz).2.2
    have hgm2 := (grow_ok2 (m := (n9)) (n := (z28)) (by (have qg0 := HIDe r7; have qg1 := HIDe r9; omega)) (by (have qg0 := HIDe r7; have qg1 := HIDe r9; omega)) (lgq_e (b := (n7)) (by (have qg0 := HIDe r7; have qg1 := HIDe r9; omega)) (by (have qg0 := HIDe r7; have qg1 := HIDe r9; omega))) hlz).2.2
    refine Ew_of (pc' := 31) (fun _ => x_aload_n rfl (rk_o (rk_o (rfl) rfl rfl) rfl rfl)) ?_
    refine Ew_of (pc' := 32) (fun _ => x_iload_n rfl rk_s) ?_
    refine v_newI H (p := 0) (k := 14) (t := 7) (n := z28) rfl rfl rfl (fun _ => rfl) rfl rfl rfl rfl (fun z => vrf (z := (z : Int)) rfl) rfl rfl rfl rfl (by decide +kernel) rfl (m := n7) (en7) (show 0 ≤ z28 ∧ z28 ≤ 1000000 by omega) (show pC (n7 : Int).toNat + 1 ≤ pC (z28 : Int).toNat by assumption) (show pS (n7 : Int).toNat + z28 ≤ pS (z28 : Int).toNat by assumption) (fun σ D29 N29 F29 A29 H O' hD29 hN29 em29 hS29 pm29 hA29 ga29 => ?_)
    replace pm29 := HIDm pm29
    replace em29 := HIDm em29
    have O := OUT_trans O O'
    have pe29_5_0 : HID (A29 5 0 = (D29 6 : Int)) := (congrFun (funext (hA29 5 rfl)) 0).trans ((pf6).trans (congrArg (fun q : Nat => (q : Int)) (hD29 6 rfl).symm))
    have pe29_5_1 : HID (A29 5 1 = (D29 8 : Int)) := (congrFun (funext (hA29 5 rfl)) 1).trans ((pf8).trans (congrArg (fun q : Nat => (q : Int)) (hD29 8 rfl).symm))
    have pe29_5_2 : HID (A29 5 2 = (D29 9 : Int)) := (congrFun (funext (hA29 5 rfl)) 2).trans ((pf9).trans (congrArg (fun q : Nat => (q : Int)) (hD29 9 rfl).symm))
    have pf29_0_1 : HID (F29 0 1 = (D29 1 : Int)) := (hS29 0 1 rfl).trans ((pf1).trans (congrArg (fun q : Nat => (q : Int)) (hD29 1 rfl).symm))
    have pf29_0_13 : HID (F29 0 13 = (D29 5 : Int)) := (hS29 0 13 rfl).trans ((pf5).trans (congrArg (fun q : Nat => (q : Int)) (hD29 5 rfl).symm))
    have pf29_0_14 : HID (F29 0 14 = (D29 7 : Int)) := pm29
    have pf29_0_7 : HID (F29 0 7 = (D29 10 : Int)) := (hS29 0 7 rfl).trans ((pf10).trans (congrArg (fun q : Nat => (q : Int)) (hD29 10 rfl).symm))
    have pf29_1_1 : HID (F29 1 1 = (D29 2 : Int)) := (hS29 1 1 rfl).trans ((pf2).trans (congrArg (fun q : Nat => (q : Int)) (hD29 2 rfl).symm))
    have pf29_1_2 : HID (F29 1 2 = (D29 3 : Int)) := (hS29 1 2 rfl).trans ((pf3).trans (congrArg (fun q : Nat => (q : Int)) (hD29 3 rfl).symm))
    have pf29_1_3 : HID (F29 1 3 = (D29 4 : Int)) := (hS29 1 3 rfl).trans ((pf4).trans (congrArg (fun q : Nat => (q : Int)) (hD29 4 rfl).symm))
    have pf29_10_2 : HID (F29 10 2 = (D29 11 : Int)) := (hS29 10 2 rfl).trans ((pf11).trans (congrArg (fun q : Nat => (q : Int)) (hD29 11 rfl).symm))
    refine Ew_of (pc' := 38) (fun _ => x_aload_n rfl (rk_o (rk_o (rfl) rfl rfl) rfl rfl)) ?_
    refine Ew_of (pc' := 39) (fun _ => x_iconst rfl) ?_
    refine Ew_of (pc' := 40) (fun _ => x_iload_n rfl rk_s) ?_
    refine Ew_stk (show ([I (z28), I (3), .ref (D 0)] : List Value) = [I (z28), I (3), .ref (D29 0)] by rw [show D29 0 = D 0 from ((hD29 0 rfl))]) ?_
    refine v_multi H (p := 0) (k := 13) (t := 5) (a := 6) (b := 8) (e := 9) (n := z28) rfl rfl rfl (fun _ => rfl) rfl rfl rfl rfl (fun z => vrf (z := (z : Int)) rfl) rfl rfl rfl rfl (by decide +kernel) rfl rfl rfl (by decide +kernel) rfl rfl rfl (by decide +kernel) rfl rfl rfl (by decide +kernel) (by decide) (((congrArg (fun q : Nat => (q : Int)) (hN29 5 rfl)).trans (en5)).trans (show n5 = 3 by have qh0 := HIDe r5; omega)) (m0 := n6) ((congrArg (fun q : Nat => (q : Int)) (hN29 6 rfl)).trans (en6)) (m1 := n8) ((congrArg (fun q : Nat => (q : Int)) (hN29 8 rfl)).trans (en8)) (m2 := n9) ((congrArg (fun q : Nat => (q : Int)) (hN29 9 rfl)).trans (en9)) (show 0 ≤ z28 ∧ z28 ≤ 1000000 by omega) (show pC (n6 : Int).toNat + 2 ≤ pC (z28 : Int).toNat ∧ pS (n6 : Int).toNat + z28 + 1 ≤ pS (z28 : Int).toNat by assumption) (show pC (n8 : Int).toNat + 2 ≤ pC (z28 : Int).toNat ∧ pS (n8 : Int).toNat + z28 + 1 ≤ pS (z28 : Int).toNat by assumption) (show pC (n9 : Int).toNat + 2 ≤ pC (z28 : Int).toNat ∧ pS (n9 : Int).toNat + z28 + 1 ≤ pS (z28 : Int).toNat by assumption) (fun σ D30 N30 F30 A30 H O' hD30 hN30 em30_t em30_0 em30_1 em30_2 hS30 pm30 hA30 pj30_0 pj30_1 pj30_2 => ?_)
    replace pm30 := HIDm pm30
    replace em30_t := HIDm em30_t
    replace em30_0 := HIDm em30_0
    replace em30_1 := HIDm em30_1
    replace em30_2 := HIDm em30_2
    replace pj30_0 := HIDm pj30_0
    replace pj30_1 := HIDm pj30_1
    replace pj30_2 := HIDm pj30_2
    have O := OUT_trans O O'
    have pe30_5_0 : HID (A30 5 0 = (D30 6 : Int)) := pj30_0
    have pe30_5_1 : HID (A30 5 1 = (D30 8 : Int)) := pj30_1
    have pe30_5_2 : HID (A30 5 2 = (D30 9 : Int)) := pj30_2
    have pf30_0_1 : HID (F30 0 1 = (D30 1 : Int)) := (hS30 0 1 rfl).trans ((pf29_0_1).trans (congrArg (fun q : Nat => (q : Int)) (hD30 1 rfl).symm))
    have pf30_0_13 : HID (F30 0 13 = (D30 5 : Int)) := pm30
    have pf30_0_14 : HID (F30 0 14 = (D30 7 : Int)) := (hS30 0 14 rfl).trans ((pf29_0_14).trans (congrArg (fun q : Nat => (q : Int)) (hD30 7 rfl).symm))
    have pf30_0_7 : HID (F30 0 7 = (D30 10 : Int)) := (hS30 0 7 rfl).trans ((pf29_0_7).trans (congrArg (fun q : Nat => (q : Int)) (hD30 10 rfl).symm))
    have pf30_1_1 : HID (F30 1 1 = (D30 2 : Int)) := (hS30 1 1 rfl).trans ((pf29_1_1).trans (congrArg (fun q : Nat => (q : Int)) (hD30 2 rfl).symm))
    have pf30_1_2 : HID (F30 1 2 = (D30 3 : Int)) := (hS30 1 2 rfl).trans ((pf29_1_2).trans (congrArg (fun q : Nat => (q : Int)) (hD30 3 rfl).symm))
    have pf30_1_3 : HID (F30 1 3 = (D30 4 : Int)) := (hS30 1 3 rfl).trans ((pf29_1_3).trans (congrArg (fun q : Nat => (q : Int)) (hD30 4 rfl).symm))
    have pf30_10_2 : HID (F30 10 2 = (D30 11 : Int)) := (hS30 10 2 rfl).trans ((pf29_10_2).trans (congrArg (fun q : Nat => (q : Int)) (hD30 11 rfl).symm))
    have r31 : (0 : Int) ≤ 3 ∧ 3 ≤ 1000000 := by have h1 := H.nle 5 (by decide); have h2 : (N30 5 : Int) = 3 := em30_t; omega
    have r32 : HID ((0 : Int) ≤ z28 ∧ z28 ≤ 1000000) := nrng (H.nle 6 (by decide)) (show (N30 6 : Int) = z28 from em30_0)
    exact hc47  _ _ _ _ _ _ _ _  ((rk_o (rk_o (rfl) rfl rfl) rfl rfl).trans (congrArg (fun q : Nat => some (Value.ref q)) ((((hD30 0 rfl)).trans ((hD29 0 rfl)))).symm)) (rk_o (rk_s) rfl rfl) H O (SD_trans (SD_trans (SD_refl) hD29 (any_subA rfl)) hD30 (any_subA rfl)) (SD_trans (SD_trans (SD_refl) hN29 (any_subA rfl)) hN30 (any_subA rfl)) (SF_trans (SF_trans (SF_refl) hS29 (any_sub rfl)) hS30 (any_sub rfl)) (SA_trans (SA_trans (SA_refl) hA29 (any_subA rfl)) hA30 (any_subA rfl)) (pf30_0_13) (pe30_5_0) (pf30_0_14) (pe30_5_1) (pe30_5_2) (3) (em30_t) (z28) (em30_0) (z28) ((congrArg (fun q : Nat => (q : Int)) (hN30 7 rfl)).trans (em29)) (z28) (em30_1) (z28) (em30_2)   (show (3) = 3 ∧ (z28) = (z28) ∧ (z28) = (z28) ∧ (z28) = (z28) ∧ lgq ((z28)) = 0 ∧ (z28) ≤ 16384 by have qh0 := HIDe r32; omega) (show (u1_4) ≤ (z28) by have qh0 := HIDe r1; have qh1 := HIDe r32; omega)
