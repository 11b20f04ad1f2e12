abbrev V144 : vV := [(0, 6, [(4, 0), (4, 0), (4, 0), (4, 0), (4, 0), (4, 0), (4, 0), (4, 0), (4, 0), (4, 0), (4, 0), (4, 0), (4, 0), (4, 0), (4, 0), (0, 0), (0, 0), (4, 0), (4, 0)]), (0, 5, [(4, 0), (4, 0), (4, 0), (4, 0), (0, 0), (0, 0), (0, 0), (4, 0), (4, 0), (0, 0), (0, 0), (0, 0), (0, 0), (0, 0), (0, 0), (0, 0), (0, 0), (0, 0), (0, 0)]), (1, 1, []), (1, 1, []), (1, 1, []), (1, 7, []), (1, 1, []), (1, 1, []), (1, 1, []), (1, 1, []), (0, 9, [(4, 0), (4, 0), (4, 0)]), (1, 2, [])]
theorem len_V144_oz_L2cls : (V144).length = 12 := by decide +kernel
theorem oz_L2cls_1 : vsub V144 V190 [10, 11] = true := by decide +kernel
theorem oz_L2cls_2 : vsub V144 V189 [10, 11] = true := by decide +kernel
theorem oz_L2cls_3 : vsub V144 V145_S7 [] = true := by decide +kernel
theorem oz_L2cls_4 : vsub V144 V45 [] = true := by decide +kernel
theorem oz_L2cls_5 : vsub V144 V145_S9 [] = true := by decide +kernel
def oz_L2clsl_0 : List (Nat × Nat) := [(0, 13), (0, 14)]
theorem oz_L2cls_6 : (oz_L2clsl_0).all (fun p => !tbz 24576 (Nat.add (Nat.mul 32 p.1) p.2)) = true := by decide +kernel
def oz_L2clsl_1 : List Nat := [5, 6, 7, 8, 9, 11]
theorem oz_L2cls_7 : (oz_L2clsl_1).all (fun p => !tbz 3040 p) = true := by decide +kernel
def oz_L2clsl_2 : List Nat := [5, 6, 7, 8, 9]
theorem oz_L2cls_8 : (oz_L2clsl_2).all (fun p => !tbz 992 p) = true := by decide +kernel
def oz_L2clsl_3 : List Nat := [10, 11]
theorem oz_L2cls_9 : okc oz_L2clsl_3 5642 = true := by decide +kernel
def oz_L2clsl_4 : List Nat := []
theorem oz_L2cls_10 : okc oz_L2clsl_4 0 = true := by decide +kernel
set_option maxHeartbeats 16000000 in
/-- Packer.tellSymbols: this, this.finder, this.finder.literals, this.finder.lengths, this.finder.distances, this.symbols, this.symbols.0, this.numbers, this.symbols.1, this.symbols.2, this.next, this.next.latest -/
theorem C144 {σE : rS} {D N : Nat → Nat} {F : hF} {A : hA} {d c s : Nat} {Q : wQ} (H : HW V144 σE D N F A) (HT : STC σE)  (pf1 : HID (F 0 1 = (D 1 : Int))) (pf2 : HID (F 1 1 = (D 2 : Int))) (pf3 : HID (F 1 2 = (D 3 : Int))) (pf4 : HID (F 1 3 = (D 4 : Int))) (pf5 : HID (F 0 13 = (D 5 : Int))) (pf6 : HID (A 5 0 = (D 6 : Int))) (pf7 : HID (F 0 14 = (D 7 : Int))) (pf8 : HID (A 5 1 = (D 8 : Int))) (pf9 : HID (A 5 2 = (D 9 : Int))) (pf10 : HID (F 0 7 = (D 10 : Int))) (pf11 : HID (F 10 2 = (D 11 : Int))) (n2 : Int) (en2 : HID ((N 2 : Int) = n2)) (n3 : Int) (en3 : HID ((N 3 : Int) = n3)) (n4 : Int) (en4 : HID ((N 4 : Int) = n4)) (n5 : Int) (en5 : HID ((N 5 : Int) = n5)) (n6 : Int) (en6 : HID ((N 6 : Int) = n6)) (n7 : Int) (en7 : HID ((N 7 : Int) = n7)) (n8 : Int) (en8 : HID ((N 8 : Int) = n8)) (n9 : Int) (en9 : HID ((N 9 : Int) = n9)) (n11 : Int) (en11 : HID ((N 11 : Int) = n11)) (u1_4 : Int) (eu1_4 : HID (F 1 4 = u1_4)) (w4 : Int → Int) (ew4 : A 4 = w4) (w6 : Int → Int) (ew6 : A 6 = w6) (w8 : Int → Int) (ew8 : A 8 = w8) (w9 : Int → Int) (ew9 : A 9 = w9) (h0 : (n2) = (n3) ∧ (n4) = (n3) ∧ (n3) ≤ 65536 ∧ ((n3) = 0 ∨ 64 ≤ (n3)) ∧ lgq ((n3)) = 0) (h1 : 0 ≤ (u1_4) ∧ (u1_4) ≤ (n3)) (h2 : DSI ((w4)) ((u1_4))) (h3 : (n5) = 3 ∧ (n6) = (n7) ∧ (n8) = (n7) ∧ (n9) = (n7) ∧ lgq ((n7)) = 0 ∧ (n7) ≤ 16384) (h4 : (n11) = 3) (k : ∀ (σ : rS) (Dₚ Nₚ : Nat → Nat) (Fₚ : hF) (Aₚ : hA) (cₚ sₚ : Nat), HW V144 σ Dₚ Nₚ Fₚ Aₚ → OUT (V144).length D N σE c s Dₚ Nₚ σ cₚ sₚ → SD [5, 6, 7, 8, 9] D Dₚ → SD [5, 6, 7, 8, 9] N Nₚ → SF [(0, 13), (0, 14)] F Fₚ → SA [5, 6, 7, 8, 9, 11] A Aₚ → Fₚ 0 13 = (Dₚ 5 : Int) → Aₚ 5 0 = (Dₚ 6 : Int) → Fₚ 0 14 = (Dₚ 7 : Int) → Aₚ 5 1 = (Dₚ 8 : Int) → Aₚ 5 2 = (Dₚ 9 : Int) → ∀ m5 : Int, (Nₚ 5 : Int) = m5 → ∀ m6 : Int, (Nₚ 6 : Int) = m6 → ∀ m7 : Int, (Nₚ 7 : Int) = m7 → ∀ m8 : Int, (Nₚ 8 : Int) = m8 → ∀ m9 : Int, (Nₚ 9 : Int) = m9 → ∀ v6 : Int → Int, Aₚ 6 = v6 → ∀ v8 : Int → Int, Aₚ 8 = v8 → ∀ v9 : Int → Int, Aₚ 9 = v9 → ((m5) = 3 ∧ (m6) = (m7) ∧ (m8) = (m7) ∧ (m9) = (m7) ∧ lgq ((m7)) = 0 ∧ (m7) ≤ 16384) → ((u1_4) ≤ (m7)) → (RNG ((v6)) ((u1_4)) 36) → (RNG ((v8)) ((u1_4)) 32) → (RNG ((v9)) ((u1_4)) 53) → Q none σ cₚ sₚ) : Ew 144 (d + 2) 0 (rargs 0 [.ref (D 0)]) [] σE c s Q := by
  have O := OUT_refl (n := (V144).length) (D := D) (N := N) (σ := σE) (c := c) (s := s)
  have HE := H
  have r1 : HID ((-2147483648 : Int) ≤ u1_4 ∧ u1_4 ≤ 2147483647) := krg_e (show (-2147483648 : Int) ≤ F 1 4 ∧ F 1 4 ≤ 2147483647 from H.krg 1 4 (ltn len_V144_oz_L2cls rfl)) (show F 1 4 = u1_4 from (eu1_4))
  have r3 : HID ((0 : Int) ≤ n3 ∧ n3 ≤ 1000000) := nrng (H.nle 3 (ltn len_V144_oz_L2cls rfl)) (show (N 3 : Int) = n3 from en3)
  have r6 : HID ((0 : Int) ≤ n6 ∧ n6 ≤ 1000000) := nrng (H.nle 6 (ltn len_V144_oz_L2cls rfl)) (show (N 6 : Int) = n6 from en6)
  have r7 : HID ((0 : Int) ≤ n7 ∧ n7 ≤ 1000000) := nrng (H.nle 7 (ltn len_V144_oz_L2cls rfl)) (show (N 7 : Int) = n7 from en7)
  have r8 : HID ((0 : Int) ≤ n8 ∧ n8 ≤ 1000000) := nrng (H.nle 8 (ltn len_V144_oz_L2cls rfl)) (show (N 8 : Int) = n8 from en8)
  have r9 : HID ((0 : Int) ≤ n9 ∧ n9 ≤ 1000000) := nrng (H.nle 9 (ltn len_V144_oz_L2cls rfl)) (show (N 9 : Int) = n9 from en9)
  have hds : DSI ((w4)) ((u1_4)) := h2
  refine Ew_of (pcₚ := 1) (fun _ => x_aload_n rfl rfl) ?_
  refine v_g H (o := 0) (v := .ref (D 1)) rfl rfl rfl rfl rfl (vrf (pf1)) ?_
  refine v_g H (o := 1) (v := I (u1_4)) rfl rfl rfl rfl rfl (congrArg (fun z : Int => I z) ((eu1_4) : F 1 4 = u1_4)) ?_
  refine Ew_of (pcₚ := 8) (fun _ => x_istore_n rfl) ?_
  have hc47 : ∀ (ls : rO) (σ : rS) (D_c47 N_c47 : Nat → Nat) (c_c47 s_c47 : Nat) (F_c47 : hF) (A_c47 : hA) , rlook ls 0 = some (.ref (D_c47 0)) → rlook ls 1 = some (I (u1_4)) → HW V144 σ D_c47 N_c47 F_c47 A_c47 → OUT (V144).length D N σE c s D_c47 N_c47 σ c_c47 s_c47 → SD [5, 6, 7, 8, 9] D D_c47 → SD [5, 6, 7, 8, 9] N N_c47 → SF [(0, 13), (0, 14)] F F_c47 → SA [5, 6, 7, 8, 9] A A_c47 → F_c47 0 13 = (D_c47 5 : Int) → A_c47 5 0 = (D_c47 6 : Int) → F_c47 0 14 = (D_c47 7 : Int) → A_c47 5 1 = (D_c47 8 : Int) → A_c47 5 2 = (D_c47 9 : Int) → ∀ mc47_5 : Int, (N_c47 5 : Int) = mc47_5 → ∀ mc47_6 : Int, (N_c47 6 : Int) = mc47_6 → ∀ mc47_7 : Int, (N_c47 7 : Int) = mc47_7 → ∀ mc47_8 : Int, (N_c47 8 : Int) = mc47_8 → ∀ mc47_9 : Int, (N_c47 9 : Int) = mc47_9 → ((mc47_5) = 3 ∧ (mc47_6) = (mc47_7) ∧ (mc47_8) = (mc47_7) ∧ (mc47_9) = (mc47_7) ∧ lgq ((mc47_7)) = 0 ∧ (mc47_7) ≤ 16384) → ((u1_4) ≤ (mc47_7)) → Ew 144 (d + 2) 47 ls [] σ c_c47 s_c47 Q := by
   as_aux_lemma =>
    intro  ls σ D_c47 N_c47 c_c47 s_c47 F_c47 A_c47  lc47_0 lc47_1 H O hD_c47 hN_c47 hS_c47 hA_c47 pmc47_5 pmc47_6 pmc47_7 pmc47_8 pmc47_9 mc47_5 emc47_5 mc47_6 emc47_6 mc47_7 emc47_7 mc47_8 emc47_8 mc47_9 emc47_9   jc47_0 jc47_1
    have cF_c47 : SF oz_L2clsl_0 F F_c47 := SF_trans (SF_refl) hS_c47 (any_sub (by decide +kernel))
    have mF_c47 := SFm_of cF_c47 oz_L2cls_6
    have cA_c47 : SA oz_L2clsl_1 A A_c47 := SA_trans (SA_refl) hA_c47 (any_subA (by decide +kernel))
    have mA_c47 := SAm_of cA_c47 oz_L2cls_7
    have cD_c47 : SD oz_L2clsl_2 D D_c47 := SD_trans (SD_refl) hD_c47 (any_subA (by decide +kernel))
    have mD_c47 := SDm_of cD_c47 oz_L2cls_8
    have cN_c47 : SD oz_L2clsl_2 N N_c47 := SD_trans (SD_refl) hN_c47 (any_subA (by decide +kernel))
    have mN_c47 := SDm_of cN_c47 oz_L2cls_8
    replace pmc47_5 := HIDm pmc47_5
    replace pmc47_6 := HIDm pmc47_6
    replace pmc47_7 := HIDm pmc47_7
    replace pmc47_8 := HIDm pmc47_8
    replace pmc47_9 := HIDm pmc47_9
    replace emc47_5 := HIDm emc47_5
    replace emc47_6 := HIDm emc47_6
    replace emc47_7 := HIDm emc47_7
    replace emc47_8 := HIDm emc47_8
    replace emc47_9 := HIDm emc47_9
    have r11 : HID ((0 : Int) ≤ mc47_5 ∧ mc47_5 ≤ 1000000) := nrng (H.nle 5 (ltn len_V144_oz_L2cls rfl)) (show (N_c47 5 : Int) = mc47_5 from emc47_5)
    have r13 : HID ((0 : Int) ≤ mc47_7 ∧ mc47_7 ≤ 1000000) := nrng (H.nle 7 (ltn len_V144_oz_L2cls rfl)) (show (N_c47 7 : Int) = mc47_7 from emc47_7)
    refine Ew_of (pcₚ := 48) (fun _ => x_iconst rfl) ?_
    refine Ew_of (pcₚ := 49) (fun _ => x_istore_n rfl) ?_
    have hr00 : RNG ((A_c47 6)) (0) 36 := RNG_0
    have hr01 : RNG ((A_c47 8)) (0) 32 := RNG_0
    have hr02 : RNG ((A_c47 9)) (0) 53 := RNG_0
    suffices hl49 : ∀ (m : Nat), ∀ (ls : rO) (σ : rS) (F_49 : hF) (A_49 : hA) (x49_2 : Int), rlook ls 0 = some (.ref (D_c47 0)) → rlook ls 1 = some (I (u1_4)) → rlook ls 2 = some (I (x49_2)) → HW V144 σ D_c47 N_c47 F_49 A_49 → OUT (V144).length D N σE c s D_c47 N_c47 σ c_c47 s_c47 → SF [] F_c47 F_49 → SA [6, 7, 8, 9, 11] A_c47 A_49 → ∀ w49_6 : Int → Int, A_49 6 = w49_6 → ∀ w49_8 : Int → Int, A_49 8 = w49_8 → ∀ w49_9 : Int → Int, A_49 9 = w49_9 → (inr (x49_2)) → ((0) ≤ (x49_2)) → ((x49_2) ≤ (0) ∨ (x49_2) ≤ ((u1_4))) → (RNG ((w49_6)) ((x49_2)) 36) → (RNG ((w49_8)) ((x49_2)) 32) → (RNG ((w49_9)) ((x49_2)) 53) → (((u1_4)) - (x49_2)).toNat = m → Ew 144 (d + 2) 49 ls [] σ c_c47 s_c47 Q from
      hl49 _ _ _ _ _ (0) (rk_o (lc47_0) rfl rfl) (rk_o (lc47_1) rfl rfl) (rk_s) H O (SF_refl) (SA_refl)    (A_c47 6) (rfl) (A_c47 8) (rfl) (A_c47 9) (rfl) (show inr (0) from q_20) (show (0) ≤ (0) from q_25) (show (0) ≤ (0) ∨ (0) ≤ ((u1_4)) from q_24) (show RNG ((A_c47 6)) ((0)) 36 from hr00) (show RNG ((A_c47 8)) ((0)) 32 from hr01) (show RNG ((A_c47 9)) ((0)) 53 from hr02) rfl
    as_aux_lemma =>
    intro m
    induction m using Nat.strongRecOn with
    | _ m ih49 =>
      intro ls σ F_49 A_49 x49_2 l49_0 l49_1 l49_2 H O hS_49 hA_49    w49_6 ew49_6 w49_8 ew49_8 w49_9 ew49_9 j49_0 j49_1 j49_2 j49_3 j49_4 j49_5 hm49
      have cF_49 : SF oz_L2clsl_0 F F_49 := SF_trans (cF_c47) hS_49 (any_sub (by decide +kernel))
      have mF_49 := SFm_of cF_49 oz_L2cls_6
      have cA_49 : SA oz_L2clsl_1 A A_49 := SA_trans (cA_c47) hA_49 (any_subA (by decide +kernel))
      have mA_49 := SAm_of cA_49 oz_L2cls_7
      have hr0 : RNG ((w49_6)) ((x49_2)) 36 := j49_3
      have hr1 : RNG ((w49_8)) ((x49_2)) 32 := j49_4
      have hr2 : RNG ((w49_9)) ((x49_2)) 53 := j49_5
      refine Ew_of (pcₚ := 50) (fun _ => x_iload_n rfl l49_2) ?_
      refine Ew_of (pcₚ := 51) (fun _ => x_iload_n rfl l49_1) ?_
      refine w_icmpge (t := 164) rfl rfl (show inr (x49_2) from j49_0) (show inr (u1_4) from q_4000 (HIDe r1) h1) (fun b16 => ?_) (fun b16 => ?_)
      · have hl2 : (x49_2) = (u1_4) := by (have qg0 := HIDe r1; omega)
        have hq0 : RNG ((w49_6)) ((u1_4)) 36 := by rw [← hl2]; assumption
        have hq1 : RNG ((w49_8)) ((u1_4)) 32 := by rw [← hl2]; assumption
        have hq2 : RNG ((w49_9)) ((u1_4)) 53 := by rw [← hl2]; assumption
        exact w_ret rfl (k _ _ _ _ _ _ _ H O (cD_c47) (cN_c47) (cF_49) (cA_49) (((hS_49 0 13 rfl)).trans (pmc47_5)) ((congrFun ((funext (hA_49 5 rfl))) 0).trans (pmc47_6)) (((hS_49 0 14 rfl)).trans (pmc47_7)) ((congrFun ((funext (hA_49 5 rfl))) 1).trans (pmc47_8)) ((congrFun ((funext (hA_49 5 rfl))) 2).trans (pmc47_9)) (mc47_5) (emc47_5) (mc47_6) (emc47_6) (mc47_7) (emc47_7) (mc47_8) (emc47_8) (mc47_9) (emc47_9) (w49_6) (ew49_6) (w49_8) (ew49_8) (w49_9) (ew49_9) (show (mc47_5) = 3 ∧ (mc47_6) = (mc47_7) ∧ (mc47_8) = (mc47_7) ∧ (mc47_9) = (mc47_7) ∧ lgq ((mc47_7)) = 0 ∧ (mc47_7) ≤ 16384 from jc47_0) (show (u1_4) ≤ (mc47_7) from jc47_1) (show RNG ((w49_6)) ((u1_4)) 36 from hq0) (show RNG ((w49_8)) ((u1_4)) 32 from hq1) (show RNG ((w49_9)) ((u1_4)) 53 from hq2))
      · refine Ew_of (pcₚ := 55) (fun _ => x_aload_n rfl l49_0) ?_
        refine v_g H (o := 0) (v := .ref (D_c47 1)) rfl rfl rfl rfl rfl (vrf ((mF_49 0 1 rfl).trans ((pf1).trans (congrArg (fun q : Nat => (q : Int)) (mD_c47 1 rfl).symm)))) ?_
        refine v_g H (o := 1) (v := .ref (D_c47 2)) rfl rfl rfl rfl rfl (vrf ((mF_49 1 1 rfl).trans ((pf2).trans (congrArg (fun q : Nat => (q : Int)) (mD_c47 2 rfl).symm)))) ?_
        refine Ew_of (pcₚ := 62) (fun _ => x_iload_n rfl l49_2) ?_
        refine v_lI H (o := 2) rfl rfl rfl rfl (n := n2) ((congrArg (fun q : Nat => (q : Int)) (mN_c47 2 rfl)).trans (en2)) (show 0 ≤ x49_2 ∧ x49_2 < n2 from q_4001 b16 h0 h1 j49_1) (fun v17 ev17 (qv17 : HID _) => ?_)
        have ev17 : (A 2) (x49_2) = v17 := (congrFun (funext (mA_49 2 rfl)) (x49_2)).symm.trans ev17
        refine Ew_of (pcₚ := 64) (fun _ => x_istore_n rfl) ?_
        refine Ew_of (pcₚ := 65) (fun _ => x_aload_n rfl (rk_o (l49_0) rfl rfl)) ?_
        refine v_g H (o := 0) (v := .ref (D_c47 7)) rfl rfl rfl rfl rfl (vrf (((hS_49 0 14 rfl)).trans (pmc47_7))) ?_
        refine Ew_of (pcₚ := 69) (fun _ => x_iload_n rfl (rk_o (l49_2) rfl rfl)) ?_
        refine Ew_of (pcₚ := 70) (fun _ => x_aload_n rfl (rk_o (l49_0) rfl rfl)) ?_
        refine v_g H (o := 0) (v := .ref (D_c47 10)) rfl rfl rfl rfl rfl (vrf ((mF_49 0 7 rfl).trans ((pf10).trans (congrArg (fun q : Nat => (q : Int)) (mD_c47 10 rfl).symm)))) ?_
        refine Ew_of (pcₚ := 74) (fun _ => x_aload_n rfl (rk_o (l49_0) rfl rfl)) ?_
        refine v_g H (o := 0) (v := .ref (D_c47 1)) rfl rfl rfl rfl rfl (vrf ((mF_49 0 1 rfl).trans ((pf1).trans (congrArg (fun q : Nat => (q : Int)) (mD_c47 1 rfl).symm)))) ?_
        refine v_g H (o := 1) (v := .ref (D_c47 4)) rfl rfl rfl rfl rfl (vrf ((mF_49 1 3 rfl).trans ((pf4).trans (congrArg (fun q : Nat => (q : Int)) (mD_c47 4 rfl).symm)))) ?_
        refine Ew_of (pcₚ := 81) (fun _ => x_iload_n rfl (rk_o (l49_2) rfl rfl)) ?_
        refine v_lI H (o := 4) rfl rfl rfl rfl (n := n4) ((congrArg (fun q : Nat => (q : Int)) (mN_c47 4 rfl)).trans (en4)) (show 0 ≤ x49_2 ∧ x49_2 < n4 from q_4002 b16 h0 h1 j49_1) (fun v18 ev18 (qv18 : HID _) => ?_)
        have ev18 : (w4) (x49_2) = v18 := (congrFun ((funext (mA_49 4 rfl)).trans (ew4)) (x49_2)).symm.trans ev18
        have hdv := hds ((x49_2)) (by omega) (by omega)
        rw [ev18] at hdv
        refine Ew_of (pcₚ := 83) (fun _ => x_iload_n rfl rk_s) ?_
        refine v_inv H (o := 10) rfl rfl rfl rfl rfl rfl (by rfl) (C190 (D := puc 5642 D_c47) (N := puc 5642 N_c47) (HW_subc H oz_L2cls_1 oz_L2cls_9) ((mF_49 10 2 rfl).trans ((pf11).trans (congrArg (fun q : Nat => (q : Int)) (mD_c47 11 rfl).symm))) (n11) ((congrArg (fun q : Nat => (q : Int)) (mN_c47 11 rfl)).trans (en11)) (show inr (v18) from (HIDe qv18)) (show inr (v17) from (HIDe qv17)) (show 1 ≤ (v18) ∧ (v18) ≤ 16384 by have qh0 := HIDe qv18; omega) (show (n11) = 3 from h4) (fun z19 σ19 F19ₚ A19ₚ Hₚ Oₚ hS19 hA19 pz19_0 pz19_1 => ⟨rfl, ?_⟩))
        refine v_backc (c := c_c47) (s := s_c47) H oz_L2cls_1 oz_L2cls_9 Hₚ Oₚ (fun F19 A19 H Oₚ eF19 eA19 => ?_)
        have O := OUT_trans O Oₚ
        -- Stand.leastFor
        have cF19 : SF oz_L2clsl_0 F F19 := SF_trans (cF_49) (SF_gluc (ι := oz_L2clsl_3) oz_L2cls_9 hS19 eF19 (by decide +kernel)) (any_sub (lₚ := []) (by decide +kernel))
        have mF19 := SFm_of cF19 oz_L2cls_6
        have cA19 : SA oz_L2clsl_1 A A19 := SA_trans (cA_49) (SA_gluc (ι := oz_L2clsl_3) oz_L2cls_9 hA19 eA19 (by decide +kernel)) (any_subA (lₚ := []) (by decide +kernel))
        have mA19 := SAm_of cA19 oz_L2cls_7
        refine v_sI H (o := 7) (z := z19) rfl rfl rfl rfl (n := mc47_7) (emc47_7) (show 0 ≤ x49_2 ∧ x49_2 < mc47_7 from q_4003 b16 j49_1 jc47_1) (show inr (z19) from pz19_0) (fun σ H Oₚ => ?_)
        have O := OUT_trans O Oₚ
        have cAu20 : SA oz_L2clsl_1 A (updA A19 7 (x49_2) (z19)) := SA_upd (cA19) rfl
        have mAu20 := SAm_of cAu20 oz_L2cls_7
        refine Ew_of (pcₚ := 88) (fun _ => x_aload_n rfl (rk_o (l49_0) rfl rfl)) ?_
        refine v_g H (o := 0) (v := .ref (D_c47 10)) rfl rfl rfl rfl rfl (vrf ((mF19 0 7 rfl).trans ((pf10).trans (congrArg (fun q : Nat => (q : Int)) (mD_c47 10 rfl).symm)))) ?_
        refine Ew_of (pcₚ := 92) (fun _ => x_aload_n rfl (rk_o (l49_0) rfl rfl)) ?_
        refine v_g H (o := 0) (v := .ref (D_c47 7)) rfl rfl rfl rfl rfl (vrf (((((show F19 0 14 = F_49 0 14 from (eF19 0 14))).trans (hS_49 0 14 rfl))).trans (pmc47_7))) ?_
        refine Ew_of (pcₚ := 96) (fun _ => x_iload_n rfl (rk_o (l49_2) rfl rfl)) ?_
        refine v_lI H (o := 7) rfl rfl rfl rfl (n := mc47_7) (emc47_7) (show 0 ≤ x49_2 ∧ x49_2 < mc47_7 from q_4003 b16 j49_1 jc47_1) (fun v21 ev21 (qv21 : HID _) => ?_)
        have ev21 : (upd1 (A_49 7) (x49_2) (z19)) (x49_2) = v21 := (congrFun (congrArg (fun q => upd1 q (x49_2) (z19)) ((show A19 7 = A_49 7 from (eA19 7)))) (x49_2)).symm.trans ev21
        have hnv : 1 ≤ ((v21) : Int) ∧ ((v21) : Int) ≤ 16387 := by have w := ev21; rw [upd1_s] at w; (have qg0 := HIDe qv21; omega)
        refine w_i2l rfl (show inr (v21) from (HIDe qv21)) ?_
        refine Ew_of (pcₚ := 99) (fun _ => x_iload_n rfl rk_s) ?_
        refine v_inv H (o := 10) rfl rfl rfl rfl rfl rfl (by rfl) (C189 (D := puc 5642 D_c47) (N := puc 5642 N_c47) (HW_subc H oz_L2cls_2 oz_L2cls_9) ((mF19 10 2 rfl).trans ((pf11).trans (congrArg (fun q : Nat => (q : Int)) (mD_c47 11 rfl).symm))) (n11) ((congrArg (fun q : Nat => (q : Int)) (mN_c47 11 rfl)).trans (en11)) (show inrJ (v21) from q_4006 hnv) (show inr (v17) from (HIDe qv17)) (show 1 ≤ (v21) from q_4005 hnv) (show (n11) = 3 from h4) (show (v21) ≤ 9000000000000000000 from q_4004 hnv) (fun z22 σ22 F22ₚ A22ₚ Hₚ Oₚ hS22 hA22 pz22_0 => ⟨rfl, ?_⟩))
        refine v_backc (c := c_c47) (s := s_c47) H oz_L2cls_2 oz_L2cls_9 Hₚ Oₚ (fun F22 A22 H Oₚ eF22 eA22 => ?_)
        have O := OUT_trans O Oₚ
        -- Stand.tellDistance
        have cF22 : SF oz_L2clsl_0 F F22 := SF_trans (cF19) (SF_gluc (ι := oz_L2clsl_3) oz_L2cls_9 hS22 eF22 (by decide +kernel)) (any_sub (lₚ := []) (by decide +kernel))
        have mF22 := SFm_of cF22 oz_L2cls_6
        have cA22 : SA oz_L2clsl_1 A A22 := SA_trans (cAu20) (SA_gluc (ι := oz_L2clsl_3) oz_L2cls_9 hA22 eA22 (by decide +kernel)) (any_subA (lₚ := [11]) (by decide +kernel))
        have mA22 := SAm_of cA22 oz_L2cls_7
        refine Ew_of (pcₚ := 103) (fun _ => x_pop2 rfl) ?_
        refine Ew_of (pcₚ := 104) (fun _ => x_aload_n rfl (rk_o (l49_0) rfl rfl)) ?_
        refine v_g H (o := 0) (v := .ref (D_c47 5)) rfl rfl rfl rfl rfl (vrf ((((((show F22 0 13 = F19 0 13 from (eF22 0 13))).trans ((show F19 0 13 = F_49 0 13 from (eF19 0 13)))).trans (hS_49 0 13 rfl))).trans (pmc47_5))) ?_
        refine Ew_of (pcₚ := 108) (fun _ => x_iconst rfl) ?_
        refine v_lR H (o := 5) rfl rfl rfl rfl rfl (n := mc47_5) (emc47_5) (show 0 ≤ 0 ∧ 0 < mc47_5 from q_4007 (HIDe r11) jc47_0) (z := ((D_c47 6 : Nat) : Int)) (v := .ref (D_c47 6)) ((congrFun (((((show A22 5 = (updA A19 7 (x49_2) (z19)) 5 from (eA22 5))).trans ((show A19 5 = A_49 5 from (eA19 5)))).trans (funext (hA_49 5 rfl)))) 0).trans (pmc47_6)) (vrf rfl) ?_
        refine Ew_of (pcₚ := 110) (fun _ => x_iload_n rfl (rk_o (l49_2) rfl rfl)) ?_
        refine Ew_of (pcₚ := 111) (fun _ => x_iload_n rfl rk_s) ?_
        refine Ew_of (pcₚ := 114) (fun _ => x_getstatic rfl) ?_
        refine w_stat24 rfl rfl (by rfl) (C145_S7 (D := puc 0 D_c47) (N := puc 0 N_c47) (HW_subc H oz_L2cls_3 oz_L2cls_10) (STC_out HT HE O) (show inr (v17) from (HIDe qv17)) (fun z23 σ23 F23ₚ A23ₚ Hₚ Oₚ hS23 hA23 pz23_0 pz23_1 => ⟨rfl, ?_⟩))
        refine v_backc (c := c_c47) (s := s_c47) H oz_L2cls_3 oz_L2cls_10 Hₚ Oₚ (fun F23 A23 H Oₚ eF23 eA23 => ?_)
        have O := OUT_trans O Oₚ
        -- Packer.symbolFor
        have cF23 : SF oz_L2clsl_0 F F23 := SF_trans (cF22) (SF_gluc (ι := oz_L2clsl_4) oz_L2cls_10 hS23 eF23 (by decide +kernel)) (any_sub (lₚ := []) (by decide +kernel))
        have mF23 := SFm_of cF23 oz_L2cls_6
        have cA23 : SA oz_L2clsl_1 A A23 := SA_trans (cA22) (SA_gluc (ι := oz_L2clsl_4) oz_L2cls_10 hA23 eA23 (by decide +kernel)) (any_subA (lₚ := []) (by decide +kernel))
        have mA23 := SAm_of cA23 oz_L2cls_7
        have hv0 : 0 ≤ ((z23) : Int) ∧ ((z23) : Int) < 36 := pz23_1
        refine v_sI H (o := 6) (z := z23) rfl rfl rfl rfl (n := mc47_6) (emc47_6) (show 0 ≤ x49_2 ∧ x49_2 < mc47_6 from q_4008 b16 j49_1 jc47_0 jc47_1) (show inr (z23) from pz23_0) (fun σ H Oₚ => ?_)
        have O := OUT_trans O Oₚ
        have cAu24 : SA oz_L2clsl_1 A (updA A23 6 (x49_2) (z23)) := SA_upd (cA23) rfl
        have mAu24 := SAm_of cAu24 oz_L2cls_7
        refine Ew_of (pcₚ := 119) (fun _ => x_aload_n rfl (rk_o (l49_0) rfl rfl)) ?_
        refine v_g H (o := 0) (v := .ref (D_c47 5)) rfl rfl rfl rfl rfl (vrf (((((((show F23 0 13 = F22 0 13 from (eF23 0 13))).trans ((show F22 0 13 = F19 0 13 from (eF22 0 13)))).trans ((show F19 0 13 = F_49 0 13 from (eF19 0 13)))).trans (hS_49 0 13 rfl))).trans (pmc47_5))) ?_
        refine Ew_of (pcₚ := 123) (fun _ => x_iconst rfl) ?_
        refine v_lR H (o := 5) rfl rfl rfl rfl rfl (n := mc47_5) (emc47_5) (show 0 ≤ 1 ∧ 1 < mc47_5 from q_4009 (HIDe r11) jc47_0) (z := ((D_c47 8 : Nat) : Int)) (v := .ref (D_c47 8)) ((congrFun ((((((show A23 5 = A22 5 from (eA23 5))).trans ((show A22 5 = (updA A19 7 (x49_2) (z19)) 5 from (eA22 5)))).trans ((show A19 5 = A_49 5 from (eA19 5)))).trans (funext (hA_49 5 rfl)))) 1).trans (pmc47_8)) (vrf rfl) ?_
        refine Ew_of (pcₚ := 125) (fun _ => x_iload_n rfl (rk_o (l49_2) rfl rfl)) ?_
        refine Ew_of (pcₚ := 126) (fun _ => x_aload_n rfl (rk_o (l49_0) rfl rfl)) ?_
        refine v_g H (o := 0) (v := .ref (D_c47 7)) rfl rfl rfl rfl rfl (vrf (((((((show F23 0 14 = F22 0 14 from (eF23 0 14))).trans ((show F22 0 14 = F19 0 14 from (eF22 0 14)))).trans ((show F19 0 14 = F_49 0 14 from (eF19 0 14)))).trans (hS_49 0 14 rfl))).trans (pmc47_7))) ?_
        refine Ew_of (pcₚ := 130) (fun _ => x_iload_n rfl (rk_o (l49_2) rfl rfl)) ?_
        refine v_lI H (o := 7) rfl rfl rfl rfl (n := mc47_7) (emc47_7) (show 0 ≤ x49_2 ∧ x49_2 < mc47_7 from q_4003 b16 j49_1 jc47_1) (fun v25 ev25 (qv25 : HID _) => ?_)
        have ev25 : (upd1 (A_49 7) (x49_2) (z19)) (x49_2) = v25 := (congrFun (((show A23 7 = A22 7 from (eA23 7))).trans (((show A22 7 = (updA A19 7 (x49_2) (z19)) 7 from (eA22 7))).trans (congrArg (fun q => upd1 q (x49_2) (z19)) ((show A19 7 = A_49 7 from (eA19 7)))))) (x49_2)).symm.trans ev25
        have hnv2 : 1 ≤ ((v25) : Int) := by have w := ev25; rw [upd1_s] at w; (have qg0 := HIDe qv25; omega)
        refine w_stat25 rfl rfl (by rfl) (C45 (D := puc 0 D_c47) (N := puc 0 N_c47) (HW_subc H oz_L2cls_4 oz_L2cls_10) (show inr (v25) from (HIDe qv25)) (show 1 ≤ (v25) from hnv2) (fun z26 σ26 F26ₚ A26ₚ Hₚ Oₚ hS26 hA26 pz26_0 pz26_1 pz26_2 => ⟨rfl, ?_⟩))
        refine v_backc (c := c_c47) (s := s_c47) H oz_L2cls_4 oz_L2cls_10 Hₚ Oₚ (fun F26 A26 H Oₚ eF26 eA26 => ?_)
        have O := OUT_trans O Oₚ
        -- PackHouse.highestBit
        have cF26 : SF oz_L2clsl_0 F F26 := SF_trans (cF23) (SF_gluc (ι := oz_L2clsl_4) oz_L2cls_10 hS26 eF26 (by decide +kernel)) (any_sub (lₚ := []) (by decide +kernel))
        have mF26 := SFm_of cF26 oz_L2cls_6
        have cA26 : SA oz_L2clsl_1 A A26 := SA_trans (cAu24) (SA_gluc (ι := oz_L2clsl_4) oz_L2cls_10 hA26 eA26 (by decide +kernel)) (any_subA (lₚ := []) (by decide +kernel))
        have mA26 := SAm_of cA26 oz_L2cls_7
        refine v_sI H (o := 8) (z := z26) rfl rfl rfl rfl (n := mc47_8) (emc47_8) (show 0 ≤ x49_2 ∧ x49_2 < mc47_8 from q_4010 b16 j49_1 jc47_0 jc47_1) (show inr (z26) from pz26_0) (fun σ H Oₚ => ?_)
        have O := OUT_trans O Oₚ
        have cAu27 : SA oz_L2clsl_1 A (updA A26 8 (x49_2) (z26)) := SA_upd (cA26) rfl
        have mAu27 := SAm_of cAu27 oz_L2cls_7
        refine Ew_of (pcₚ := 136) (fun _ => x_aload_n rfl (rk_o (l49_0) rfl rfl)) ?_
        refine v_g H (o := 0) (v := .ref (D_c47 5)) rfl rfl rfl rfl rfl (vrf ((((((((show F26 0 13 = F23 0 13 from (eF26 0 13))).trans ((show F23 0 13 = F22 0 13 from (eF23 0 13)))).trans ((show F22 0 13 = F19 0 13 from (eF22 0 13)))).trans ((show F19 0 13 = F_49 0 13 from (eF19 0 13)))).trans (hS_49 0 13 rfl))).trans (pmc47_5))) ?_
        refine Ew_of (pcₚ := 140) (fun _ => x_iconst rfl) ?_
        refine v_lR H (o := 5) rfl rfl rfl rfl rfl (n := mc47_5) (emc47_5) (show 0 ≤ 2 ∧ 2 < mc47_5 from q_4011 jc47_0) (z := ((D_c47 9 : Nat) : Int)) (v := .ref (D_c47 9)) ((congrFun (((((((show A26 5 = (updA A23 6 (x49_2) (z23)) 5 from (eA26 5))).trans ((show A23 5 = A22 5 from (eA23 5)))).trans ((show A22 5 = (updA A19 7 (x49_2) (z19)) 5 from (eA22 5)))).trans ((show A19 5 = A_49 5 from (eA19 5)))).trans (funext (hA_49 5 rfl)))) 2).trans (pmc47_9)) (vrf rfl) ?_
        refine Ew_of (pcₚ := 142) (fun _ => x_iload_n rfl (rk_o (l49_2) rfl rfl)) ?_
        refine Ew_of (pcₚ := 143) (fun _ => x_aload_n rfl (rk_o (l49_0) rfl rfl)) ?_
        refine v_g H (o := 0) (v := .ref (D_c47 1)) rfl rfl rfl rfl rfl (vrf ((mF26 0 1 rfl).trans ((pf1).trans (congrArg (fun q : Nat => (q : Int)) (mD_c47 1 rfl).symm)))) ?_
        refine v_g H (o := 1) (v := .ref (D_c47 3)) rfl rfl rfl rfl rfl (vrf ((mF26 1 2 rfl).trans ((pf3).trans (congrArg (fun q : Nat => (q : Int)) (mD_c47 3 rfl).symm)))) ?_
        refine Ew_of (pcₚ := 150) (fun _ => x_iload_n rfl (rk_o (l49_2) rfl rfl)) ?_
        refine v_lI H (o := 3) rfl rfl rfl rfl (n := n3) ((congrArg (fun q : Nat => (q : Int)) (mN_c47 3 rfl)).trans (en3)) (show 0 ≤ x49_2 ∧ x49_2 < n3 from q_4012 b16 h1 j49_1) (fun v28 ev28 (qv28 : HID _) => ?_)
        have ev28 : (A 3) (x49_2) = v28 := (congrFun (funext (mAu27 3 rfl)) (x49_2)).symm.trans ev28
        refine Ew_of (pcₚ := 154) (fun _ => x_getstatic rfl) ?_
        refine w_stat24 rfl rfl (by rfl) (C145_S9 (D := puc 0 D_c47) (N := puc 0 N_c47) (HW_subc H oz_L2cls_5 oz_L2cls_10) (STC_out HT HE O) (show inr (v28) from (HIDe qv28)) (fun z29 σ29 F29ₚ A29ₚ Hₚ Oₚ hS29 hA29 pz29_0 pz29_1 => ⟨rfl, ?_⟩))
        refine v_backc (c := c_c47) (s := s_c47) H oz_L2cls_5 oz_L2cls_10 Hₚ Oₚ (fun F29 A29 H Oₚ eF29 eA29 => ?_)
        have O := OUT_trans O Oₚ
        -- Packer.symbolFor
        have cF29 : SF oz_L2clsl_0 F F29 := SF_trans (cF26) (SF_gluc (ι := oz_L2clsl_4) oz_L2cls_10 hS29 eF29 (by decide +kernel)) (any_sub (lₚ := []) (by decide +kernel))
        have mF29 := SFm_of cF29 oz_L2cls_6
        have cA29 : SA oz_L2clsl_1 A A29 := SA_trans (cAu27) (SA_gluc (ι := oz_L2clsl_4) oz_L2cls_10 hA29 eA29 (by decide +kernel)) (any_subA (lₚ := []) (by decide +kernel))
        have mA29 := SAm_of cA29 oz_L2cls_7
        refine v_sI H (o := 9) (z := z29) rfl rfl rfl rfl (n := mc47_9) (emc47_9) (show 0 ≤ x49_2 ∧ x49_2 < mc47_9 from q_4013 b16 j49_1 jc47_0 jc47_1) (show inr (z29) from pz29_0) (fun σ H Oₚ => ?_)
        have O := OUT_trans O Oₚ
        have cAu30 : SA oz_L2clsl_1 A (updA A29 9 (x49_2) (z29)) := SA_upd (cA29) rfl
        have mAu30 := SAm_of cAu30 oz_L2cls_7
        refine Ew_of (pcₚ := 161) (fun _ => x_iinc (len := 3) rfl (rk_o (l49_2) rfl rfl)) ?_
        refine Ew_of (pcₚ := 49) (fun _ => x_goto rfl rfl) ?_
        have hs0 : RNG ((upd1 (w49_6) (x49_2) (z23))) (((x49_2 + 1))) 36 := RNG_s hr0 rfl (by omega)
        have hs1 : RNG ((upd1 (w49_8) (x49_2) (z26))) (((x49_2 + 1))) 32 := RNG_s hr1 rfl (by omega)
        have hs2 : RNG ((upd1 (w49_9) (x49_2) (z29))) (((x49_2 + 1))) 53 := RNG_s hr2 rfl (by omega)
        exact ih49 _ (msE hm49 q_31 (q_34 b16)) _ _ _ _ ((x49_2 + 1)) (rk_o (rk_o (l49_0) rfl rfl) rfl rfl) (rk_o (rk_o (l49_1) rfl rfl) rfl rfl) (rk_s) H O (SF_trans (SF_trans (SF_trans (SF_trans (SF_trans (hS_49) (SF_gluc (ι := oz_L2clsl_3) oz_L2cls_9 hS19 eF19 (by decide +kernel)) (any_sub (lₚ := []) (by decide +kernel))) (SF_gluc (ι := oz_L2clsl_3) oz_L2cls_9 hS22 eF22 (by decide +kernel)) (any_sub (lₚ := []) (by decide +kernel))) (SF_gluc (ι := oz_L2clsl_4) oz_L2cls_10 hS23 eF23 (by decide +kernel)) (any_sub (lₚ := []) (by decide +kernel))) (SF_gluc (ι := oz_L2clsl_4) oz_L2cls_10 hS26 eF26 (by decide +kernel)) (any_sub (lₚ := []) (by decide +kernel))) (SF_gluc (ι := oz_L2clsl_4) oz_L2cls_10 hS29 eF29 (by decide +kernel)) (any_sub (lₚ := []) (by decide +kernel))) (SA_upd (SA_trans (SA_upd (SA_trans (SA_upd (SA_trans (SA_trans (SA_upd (SA_trans (hA_49) (SA_gluc (ι := oz_L2clsl_3) oz_L2cls_9 hA19 eA19 (by decide +kernel)) (any_subA (lₚ := []) (by decide +kernel))) rfl) (SA_gluc (ι := oz_L2clsl_3) oz_L2cls_9 hA22 eA22 (by decide +kernel)) (any_subA (lₚ := [11]) (by decide +kernel))) (SA_gluc (ι := oz_L2clsl_4) oz_L2cls_10 hA23 eA23 (by decide +kernel)) (any_subA (lₚ := []) (by decide +kernel))) rfl) (SA_gluc (ι := oz_L2clsl_4) oz_L2cls_10 hA26 eA26 (by decide +kernel)) (any_subA (lₚ := []) (by decide +kernel))) rfl) (SA_gluc (ι := oz_L2clsl_4) oz_L2cls_10 hA29 eA29 (by decide +kernel)) (any_subA (lₚ := []) (by decide +kernel))) rfl)    (upd1 (w49_6) (x49_2) (z23)) (((show A29 6 = (updA A26 8 (x49_2) (z26)) 6 from (eA29 6))).trans (((show A26 6 = (updA A23 6 (x49_2) (z23)) 6 from (eA26 6))).trans (congrArg (fun q => upd1 q (x49_2) (z23)) (((show A23 6 = A22 6 from (eA23 6))).trans (((show A22 6 = (updA A19 7 (x49_2) (z19)) 6 from (eA22 6))).trans (((show A19 6 = A_49 6 from (eA19 6))).trans (ew49_6))))))) (upd1 (w49_8) (x49_2) (z26)) (((show A29 8 = (updA A26 8 (x49_2) (z26)) 8 from (eA29 8))).trans (congrArg (fun q => upd1 q (x49_2) (z26)) (((show A26 8 = (updA A23 6 (x49_2) (z23)) 8 from (eA26 8))).trans (((show A23 8 = A22 8 from (eA23 8))).trans (((show A22 8 = (updA A19 7 (x49_2) (z19)) 8 from (eA22 8))).trans (((show A19 8 = A_49 8 from (eA19 8))).trans (ew49_8))))))) (upd1 (w49_9) (x49_2) (z29)) (congrArg (fun q => upd1 q (x49_2) (z29)) (((show A29 9 = (updA A26 8 (x49_2) (z26)) 9 from (eA29 9))).trans (((show A26 9 = (updA A23 6 (x49_2) (z23)) 9 from (eA26 9))).trans (((show A23 9 = A22 9 from (eA23 9))).trans (((show A22 9 = (updA A19 7 (x49_2) (z19)) 9 from (eA22 9))).trans (((show A19 9 = A_49 9 from (eA19 9))).trans (ew49_9))))))) (show inr ((x49_2 + 1)) from q_4014 (HIDe r13) b16 j49_1 jc47_1) (show (0) ≤ ((x49_2 + 1)) from q_29 j49_1) (show ((x49_2 + 1)) ≤ (0) ∨ ((x49_2 + 1)) ≤ ((u1_4)) from q_33 b16) (show RNG ((upd1 (w49_6) (x49_2) (z23))) (((x49_2 + 1))) 36 from hs0) (show RNG ((upd1 (w49_8) (x49_2) (z26))) (((x49_2 + 1))) 32 from hs1) (show RNG ((upd1 (w49_9) (x49_2) (z29))) (((x49_2 + 1))) 53 from hs2) rfl
  refine Ew_of (pcₚ := 9) (fun _ => x_aload_n rfl (rk_o (rfl) rfl rfl)) ?_
  refine v_g H (o := 0) (v := .ref (D 7)) rfl rfl rfl rfl rfl (vrf (pf7)) ?_
  refine v_len H (o := 7) rfl rfl rfl rfl (n := n7) (en7) ?_
  refine Ew_of (pcₚ := 14) (fun _ => x_iload_n rfl rk_s) ?_
  refine w_icmpge (t := 47) rfl rfl (show inr (n7) from q_2511 (HIDe r7)) (show inr (u1_4) from q_4000 (HIDe r1) h1) (fun b31 => ?_) (fun b31 => ?_)
  · exact hc47  _ _ _ _ _ _ _ _  (rk_o (rfl) rfl rfl) (rk_s) H O (SD_refl) (SD_refl) (SF_refl) (SA_refl) (pf5) (pf6) (pf7) (pf8) (pf9) (n5) (en5) (n6) (en6) (n7) (en7) (n8) (en8) (n9) (en9)   (show (n5) = 3 ∧ (n6) = (n7) ∧ (n8) = (n7) ∧ (n9) = (n7) ∧ lgq ((n7)) = 0 ∧ (n7) ≤ 16384 from h3) (show (u1_4) ≤ (n7) from b31)
  · refine Ew_of (pcₚ := 18) (fun _ => x_iload_n rfl rk_s) ?_
    refine Ew_of (pcₚ := 19) (fun _ => x_aload_n rfl (rk_o (rfl) rfl rfl)) ?_
    refine v_g H (o := 0) (v := .ref (D 1)) rfl rfl rfl rfl rfl (vrf (pf1)) ?_
    refine v_g H (o := 1) (v := .ref (D 3)) rfl rfl rfl rfl rfl (vrf (pf3)) ?_
    refine v_len H (o := 3) rfl rfl rfl rfl (n := n3) (en3) ?_
    refine v_max rfl rfl (show inr (u1_4) from q_4000 (HIDe r1) h1) (show inr (n3) from q_2511 (HIDe r3)) (fun z32 gz32 => ?_)
    refine Ew_of (pcₚ := 30) (fun _ => x_istore_n rfl) ?_
    have hlz : lgq ((z32)) = 0 := lgq_e (b := (n3)) (by (have qg0 := HIDe r3; omega)) (by (have qg0 := HIDe r3; omega))
    have hlt : (n7) < (z32) ∧ (z32) ≤ 16384 := by have w := lgq_i hlz; (have qg0 := HIDe r7; omega)
    have hg0 := grow_ok2 (m := (n7)) (n := (z32)) (by (have qg0 := HIDe r7; omega)) (by (have qg0 := HIDe r7; omega)) (by (have qg0 := HIDe r7; omega)) hlz
    have hg1 := hg0.1
    have hg2 := hg0.2.1
    have hgm0 := (grow_ok2 (m := (n6)) (n := (z32)) (by (have qg0 := HIDe r6; have qg1 := HIDe r7; omega)) (by (have qg0 := HIDe r6; have qg1 := HIDe r7; omega)) (lgq_e (b := (n7)) (by (have qg0 := HIDe r6; have qg1 := HIDe r7; omega)) (by (have qg0 := HIDe r6; have qg1 := HIDe r7; omega))) hlz).2.2
    have hgm1 := (grow_ok2 (m := (n8)) (n := (z32)) (by (have qg0 := HIDe r7; have qg1 := HIDe r8; omega)) (by (have qg0 := HIDe r7; have qg1 := HIDe r8; omega)) (lgq_e (b := (n7)) (by (have qg0 := HIDe r7; have qg1 := HIDe r8; omega)) (by (have qg0 := HIDe r7; have qg1 := HIDe r8; omega))) hlz).2.2
    have hgm2 := (grow_ok2 (m := (n9)) (n := (z32)) (by (have qg0 := HIDe r7; have qg1 := HIDe r9; omega)) (by (have qg0 := HIDe r7; have qg1 := HIDe r9; omega)) (lgq_e (b := (n7)) (by (have qg0 := HIDe r7; have qg1 := HIDe r9; omega)) (by (have qg0 := HIDe r7; have qg1 := HIDe r9; omega))) hlz).2.2
    refine Ew_of (pcₚ := 31) (fun _ => x_aload_n rfl (rk_o (rk_o (rfl) rfl rfl) rfl rfl)) ?_
    refine Ew_of (pcₚ := 32) (fun _ => x_iload_n rfl rk_s) ?_
    refine v_newI H (p := 0) (k := 14) (t := 7) (n := z32) rfl rfl rfl (fun _ => rfl) rfl rfl rfl rfl (fun z => vrf (z := (z : Int)) rfl) rfl rfl rfl rfl (by decide +kernel) rfl (m := n7) (en7) (show 0 ≤ z32 ∧ z32 ≤ 1000000 from q_4015 (HIDe r7) hlt) (show pC (n7 : Int).toNat + 1 ≤ pC (z32 : Int).toNat by assumption) (show pS (n7 : Int).toNat + z32 ≤ pS (z32 : Int).toNat by assumption) (fun σ D33 N33 F33 A33 H Oₚ hD33 hN33 (em33 : HID _) hS33 (pm33 : HID _) hA33 ga33 => ?_)
    have O := OUT_trans O Oₚ
    have cF33 : SF oz_L2clsl_0 F F33 := SF_trans (SF_refl) hS33 (any_sub (by decide +kernel))
    have mF33 := SFm_of cF33 oz_L2cls_6
    have cA33 : SA oz_L2clsl_1 A A33 := SA_trans (SA_refl) hA33 (any_subA (by decide +kernel))
    have mA33 := SAm_of cA33 oz_L2cls_7
    have cD33 : SD oz_L2clsl_2 D D33 := SD_trans (SD_refl) hD33 (any_subA (by decide +kernel))
    have mD33 := SDm_of cD33 oz_L2cls_8
    have cN33 : SD oz_L2clsl_2 N N33 := SD_trans (SD_refl) hN33 (any_subA (by decide +kernel))
    have mN33 := SDm_of cN33 oz_L2cls_8
    have pe33_5_0 : HID (A33 5 0 = (D33 6 : Int)) := (congrFun (funext (hA33 5 rfl)) 0).trans ((pf6).trans (congrArg (fun q : Nat => (q : Int)) (hD33 6 rfl).symm))
    have pe33_5_1 : HID (A33 5 1 = (D33 8 : Int)) := (congrFun (funext (hA33 5 rfl)) 1).trans ((pf8).trans (congrArg (fun q : Nat => (q : Int)) (hD33 8 rfl).symm))
    have pe33_5_2 : HID (A33 5 2 = (D33 9 : Int)) := (congrFun (funext (hA33 5 rfl)) 2).trans ((pf9).trans (congrArg (fun q : Nat => (q : Int)) (hD33 9 rfl).symm))
    have pf33_0_13 : HID (F33 0 13 = (D33 5 : Int)) := (hS33 0 13 rfl).trans ((pf5).trans (congrArg (fun q : Nat => (q : Int)) (hD33 5 rfl).symm))
    have pf33_0_14 : HID (F33 0 14 = (D33 7 : Int)) := pm33
    refine Ew_of (pcₚ := 38) (fun _ => x_aload_n rfl (rk_o (rk_o (rfl) rfl rfl) rfl rfl)) ?_
    refine Ew_of (pcₚ := 39) (fun _ => x_iconst rfl) ?_
    refine Ew_of (pcₚ := 40) (fun _ => x_iload_n rfl rk_s) ?_
    refine Ew_stk (congrArg (fun qz : Nat => ([I (z32), I (3), .ref qz] : List Value)) (show D33 0 = D 0 from mD33 0 rfl).symm) ?_
    refine v_multi H (p := 0) (k := 13) (t := 5) (a := 6) (b := 8) (e := 9) (n := z32) rfl rfl rfl (fun _ => rfl) rfl rfl rfl rfl (fun z => vrf (z := (z : Int)) rfl) rfl rfl rfl rfl (by decide +kernel) rfl rfl rfl (by decide +kernel) rfl rfl rfl (by decide +kernel) rfl rfl rfl (by decide +kernel) (by decide) (((congrArg (fun q : Nat => (q : Int)) (hN33 5 rfl)).trans (en5)).trans (show n5 = 3 from q_4016 h3)) (m0 := n6) ((congrArg (fun q : Nat => (q : Int)) (hN33 6 rfl)).trans (en6)) (m1 := n8) ((congrArg (fun q : Nat => (q : Int)) (hN33 8 rfl)).trans (en8)) (m2 := n9) ((congrArg (fun q : Nat => (q : Int)) (hN33 9 rfl)).trans (en9)) (show 0 ≤ z32 ∧ z32 ≤ 1000000 from q_4015 (HIDe r7) hlt) (show pC (n6 : Int).toNat + 2 ≤ pC (z32 : Int).toNat ∧ pS (n6 : Int).toNat + z32 + 1 ≤ pS (z32 : Int).toNat by assumption) (show pC (n8 : Int).toNat + 2 ≤ pC (z32 : Int).toNat ∧ pS (n8 : Int).toNat + z32 + 1 ≤ pS (z32 : Int).toNat by assumption) (show pC (n9 : Int).toNat + 2 ≤ pC (z32 : Int).toNat ∧ pS (n9 : Int).toNat + z32 + 1 ≤ pS (z32 : Int).toNat by assumption) (fun σ D34 N34 F34 A34 H Oₚ hD34 hN34 (em34_t : HID _) (em34_0 : HID _) (em34_1 : HID _) (em34_2 : HID _) hS34 (pm34 : HID _) hA34 (pj34_0 : HID _) (pj34_1 : HID _) (pj34_2 : HID _) => ?_)
    have O := OUT_trans O Oₚ
    have cF34 : SF oz_L2clsl_0 F F34 := SF_trans (cF33) hS34 (any_sub (by decide +kernel))
    have mF34 := SFm_of cF34 oz_L2cls_6
    have cA34 : SA oz_L2clsl_1 A A34 := SA_trans (cA33) hA34 (any_subA (by decide +kernel))
    have mA34 := SAm_of cA34 oz_L2cls_7
    have cD34 : SD oz_L2clsl_2 D D34 := SD_trans (cD33) hD34 (any_subA (by decide +kernel))
    have mD34 := SDm_of cD34 oz_L2cls_8
    have cN34 : SD oz_L2clsl_2 N N34 := SD_trans (cN33) hN34 (any_subA (by decide +kernel))
    have mN34 := SDm_of cN34 oz_L2cls_8
    have pe34_5_0 : HID (A34 5 0 = (D34 6 : Int)) := pj34_0
    have pe34_5_1 : HID (A34 5 1 = (D34 8 : Int)) := pj34_1
    have pe34_5_2 : HID (A34 5 2 = (D34 9 : Int)) := pj34_2
    have pf34_0_13 : HID (F34 0 13 = (D34 5 : Int)) := pm34
    have pf34_0_14 : HID (F34 0 14 = (D34 7 : Int)) := (hS34 0 14 rfl).trans ((pf33_0_14).trans (congrArg (fun q : Nat => (q : Int)) (hD34 7 rfl).symm))
    have r35 : (0 : Int) ≤ 3 ∧ 3 ≤ 1000000 := by omega
    exact hc47  _ _ _ _ _ _ _ _  ((rk_o (rk_o (rfl) rfl rfl) rfl rfl).trans (congrArg (fun q : Nat => some (Value.ref q)) (mD34 0 rfl).symm)) (rk_o (rk_s) rfl rfl) H O (SD_trans (SD_trans (SD_refl) hD33 (any_subA (by decide +kernel))) hD34 (any_subA (by decide +kernel))) (SD_trans (SD_trans (SD_refl) hN33 (any_subA (by decide +kernel))) hN34 (any_subA (by decide +kernel))) (SF_trans (SF_trans (SF_refl) hS33 (any_sub (by decide +kernel))) hS34 (any_sub (by decide +kernel))) (SA_trans (SA_trans (SA_refl) hA33 (any_subA (by decide +kernel))) hA34 (any_subA (by decide +kernel))) (pf34_0_13) (pe34_5_0) (pf34_0_14) (pe34_5_1) (pe34_5_2) (3) (em34_t) (z32) (em34_0) (z32) ((congrArg (fun q : Nat => (q : Int)) (hN34 7 rfl)).trans (em33)) (z32) (em34_1) (z32) (em34_2)   (show (3) = 3 ∧ (z32) = (z32) ∧ (z32) = (z32) ∧ (z32) = (z32) ∧ lgq ((z32)) = 0 ∧ (z32) ≤ 16384 from q_4018 hlt hlz) (show (u1_4) ≤ (z32) from q_4017 gz32 h1)
