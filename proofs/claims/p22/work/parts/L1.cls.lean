abbrev V139 : vV := [(0, 6, [(4, 0), (4, 0), (4, 0), (4, 0), (4, 0), (4, 0), (4, 0), (4, 0), (4, 0), (4, 0), (4, 0), (4, 0), (4, 0), (4, 0), (4, 0), (0, 0), (0, 0), (4, 0), (4, 0)]), (0, 5, [(4, 0), (4, 0), (4, 0), (4, 0), (0, 0), (0, 0), (0, 0), (4, 0), (4, 0), (0, 0), (0, 0), (0, 0), (0, 0), (0, 0), (0, 0), (0, 0), (0, 0), (0, 0), (0, 0)]), (0, 7, [(4, 0), (0, 0), (1, 0), (0, 0), (0, 0)]), (1, 0, []), (1, 1, []), (1, 1, []), (1, 1, []), (1, 1, []), (1, 1, []), (1, 1, []), (0, 7, [(4, 0), (0, 0), (1, 0), (0, 0), (0, 0)]), (1, 0, []), (1, 1, [])]
theorem len_V139_oz_L1cls : (V139).length = 13 := by decide +kernel
theorem oz_L1cls_1 : vsub V139 V123 [1, 2, 3, 4, 5] = true := by decide +kernel
theorem oz_L1cls_2 : vmov V139 [1, 2, 3, 4, 5] [3] = true := by decide +kernel
theorem oz_L1cls_3 : vsub V139 V125 [1, 2, 3, 4, 6, 7, 8] = true := by decide +kernel
theorem oz_L1cls_4 : vmov V139 [1, 2, 3, 4, 6, 7, 8] [4, 5, 6] = true := by decide +kernel
theorem oz_L1cls_5 : vsub V139 V156 [10] = true := by decide +kernel
theorem oz_L1cls_6 : vsub V139 V161_Br [10, 3, 11] = true := by decide +kernel
theorem oz_L1cls_7 : vmov V139 [10, 3, 11] [2] = true := by decide +kernel
def oz_L1clsl_0 : List (Nat × Nat) := [(1, 1), (1, 2), (1, 3), (1, 4), (1, 5), (1, 6), (1, 8), (1, 12), (1, 13), (1, 14), (1, 15), (1, 16), (1, 17), (1, 18), (10, 0), (10, 1), (10, 2), (10, 3), (10, 4)]
theorem oz_L1cls_8 : (oz_L1clsl_0).all (fun p => !tbz 66215598113548212554245672891256115552683840193056235868358289842488811499199857052947673000181760 (Nat.add (Nat.mul 32 p.1) p.2)) = true := by decide +kernel
def oz_L1clsl_1 : List Nat := [4, 5, 6, 7, 8, 11, 12]
theorem oz_L1cls_9 : (oz_L1clsl_1).all (fun p => !tbz 6640 p) = true := by decide +kernel
def oz_L1clsl_2 : List Nat := [4, 6, 7, 8, 11]
theorem oz_L1cls_10 : (oz_L1clsl_2).all (fun p => !tbz 2512 p) = true := by decide +kernel
def oz_L1clsl_3 : List Nat := [1, 2, 3, 4, 5]
theorem oz_L1cls_11 : okc oz_L1clsl_3 344135042049 = true := by decide +kernel
def oz_L1clsl_4 : List Nat := [1, 2, 3, 4, 6, 7, 8]
theorem oz_L1cls_12 : okc oz_L1clsl_4 144361891534996481 = true := by decide +kernel
def oz_L1clsl_5 : List Nat := [10]
theorem oz_L1cls_13 : okc oz_L1clsl_5 10 = true := by decide +kernel
def oz_L1clsl_6 : List Nat := [10, 3, 11]
theorem oz_L1cls_14 : okc oz_L1clsl_6 2885130 = true := by decide +kernel
set_option maxHeartbeats 16000000 in
/-- Packer.findSequences: this, this.finder, this.finder.data, this.finder.data.bytes, this.finder.back, this.finder.heads, this.finder.literals, this.finder.lengths, this.finder.distances, this.settings, this.literals, this.literals.bytes, this.byteCounts -/
theorem C139 {σE : rS} {D N : Nat → Nat} {F : hF} {A : hA} {d c s : Nat} {Q : wQ} (H : HW V139 σE D N F A) {a1 a2 : Int} (pf1 : HID (F 0 1 = (D 1 : Int))) (pf2 : HID (F 1 0 = (D 2 : Int))) (pf3 : HID (F 2 0 = (D 3 : Int))) (pf4 : HID (F 1 8 = (D 4 : Int))) (pf5 : HID (F 1 7 = (D 5 : Int))) (pf6 : HID (F 1 1 = (D 6 : Int))) (pf7 : HID (F 1 2 = (D 7 : Int))) (pf8 : HID (F 1 3 = (D 8 : Int))) (pf9 : HID (F 0 0 = (D 9 : Int))) (pf10 : HID (F 0 9 = (D 10 : Int))) (pf11 : HID (F 10 0 = (D 11 : Int))) (pf12 : HID (F 0 11 = (D 12 : Int))) (n3 : Int) (en3 : HID ((N 3 : Int) = n3)) (n4 : Int) (en4 : HID ((N 4 : Int) = n4)) (n5 : Int) (en5 : HID ((N 5 : Int) = n5)) (n6 : Int) (en6 : HID ((N 6 : Int) = n6)) (n7 : Int) (en7 : HID ((N 7 : Int) = n7)) (n8 : Int) (en8 : HID ((N 8 : Int) = n8)) (n9 : Int) (en9 : HID ((N 9 : Int) = n9)) (n11 : Int) (en11 : HID ((N 11 : Int) = n11)) (n12 : Int) (en12 : HID ((N 12 : Int) = n12)) (u1_4 : Int) (eu1_4 : HID (F 1 4 = u1_4)) (u1_6 : Int) (eu1_6 : HID (F 1 6 = u1_6)) (u1_10 : Int) (eu1_10 : HID (F 1 10 = u1_10)) (u2_1 : Int) (eu2_1 : HID (F 2 1 = u2_1)) (u10_1 : Int) (eu10_1 : HID (F 10 1 = u10_1)) (w3 : Int → Int) (ew3 : A 3 = w3) (w4 : Int → Int) (ew4 : A 4 = w4) (w5 : Int → Int) (ew5 : A 5 = w5) (w8 : Int → Int) (ew8 : A 8 = w8) (w9 : Int → Int) (ew9 : A 9 = w9) (w11 : Int → Int) (ew11 : A 11 = w11) (w12 : Int → Int) (ew12 : A 12 = w12) (h0 : inr (a1)) (h1 : inr (a2)) (h2 : 0 ≤ (u2_1) ∧ (u2_1) ≤ (n3) ∧ (n3) ≤ 65536 ∧ (u2_1) ≤ 16384) (h3 : 1 ≤ (u1_10) ∧ (u1_10) ≤ 8) (h4 : BKI ((w3)) ((w4)) ((u1_10)) ((u1_6))) (h5 : HDI ((w3)) ((w5)) ((u1_10)) ((u1_6))) (h6 : (n5) = 2048) (h7 : 0 ≤ (u1_6) ∧ (u1_6) ≤ (n4) ∧ (n4) ≤ 16384) (h8 : (n6) = (n7) ∧ (n8) = (n7) ∧ (n7) ≤ 65536 ∧ ((n7) = 0 ∨ 64 ≤ (n7)) ∧ lgq ((n7)) = 0) (h9 : (u1_10) = ((w9)) 1) (h10 : 0 ≤ (a1) ∧ (a1) ≤ (a2) ∧ (a2) ≤ (u2_1)) (h11 : (n9) = 10) (h12 : 0 ≤ (u10_1) ∧ (u10_1) ≤ (n11) ∧ (n11) ≤ 65536) (h13 : (n12) = 256) (k : ∀ (σ : rS) (Dₚ Nₚ : Nat → Nat) (Fₚ : hF) (Aₚ : hA) (cₚ sₚ : Nat), HW V139 σ Dₚ Nₚ Fₚ Aₚ → OUT (V139).length D N σE c s Dₚ Nₚ σ cₚ sₚ → SD [4, 6, 7, 8, 11] D Dₚ → SD [4, 6, 7, 8, 11] N Nₚ → SF [(1, 1), (1, 2), (1, 3), (1, 4), (1, 5), (1, 6), (1, 8), (1, 12), (1, 13), (1, 14), (1, 15), (1, 16), (1, 17), (1, 18), (10, 0), (10, 1), (10, 2), (10, 3), (10, 4)] F Fₚ → SA [4, 5, 6, 7, 8, 11, 12] A Aₚ → Fₚ 1 8 = (Dₚ 4 : Int) → Fₚ 1 1 = (Dₚ 6 : Int) → Fₚ 1 2 = (Dₚ 7 : Int) → Fₚ 1 3 = (Dₚ 8 : Int) → Fₚ 10 0 = (Dₚ 11 : Int) → ∀ m4 : Int, (Nₚ 4 : Int) = m4 → ∀ m6 : Int, (Nₚ 6 : Int) = m6 → ∀ m7 : Int, (Nₚ 7 : Int) = m7 → ∀ m8 : Int, (Nₚ 8 : Int) = m8 → ∀ m11 : Int, (Nₚ 11 : Int) = m11 → ∀ y1_4 : Int, Fₚ 1 4 = y1_4 → ∀ y1_6 : Int, Fₚ 1 6 = y1_6 → ∀ y10_1 : Int, Fₚ 10 1 = y10_1 → ∀ v4 : Int → Int, Aₚ 4 = v4 → ∀ v5 : Int → Int, Aₚ 5 = v5 → ∀ v8 : Int → Int, Aₚ 8 = v8 → ∀ v11 : Int → Int, Aₚ 11 = v11 → ∀ v12 : Int → Int, Aₚ 12 = v12 → (0 ≤ (y1_6) ∧ (u1_6) ≤ (y1_6) ∧ (y1_6) ≤ (m4) ∧ (m4) ≤ 16384) → ((m6) = (m7) ∧ (m8) = (m7) ∧ (m7) ≤ 65536 ∧ ((m7) = 0 ∨ 64 ≤ (m7)) ∧ lgq ((m7)) = 0) → (BKI ((w3)) ((v4)) ((u1_10)) ((y1_6))) → (HDI ((w3)) ((v5)) ((u1_10)) ((y1_6))) → (0 ≤ (y1_4) ∧ (y1_4) ≤ (m7) ∧ (y1_4) ≤ (a2) - (a1)) → (DSI ((v8)) ((y1_4))) → (0 ≤ (y10_1) ∧ (y10_1) ≤ (m11) ∧ (m11) ≤ 65536) → (CTN (ub ((v11))) ((v12)) ((y10_1)) 256) → Q none σ cₚ sₚ) : Ew 139 (d + 4) 0 (rargs 0 [.ref (D 0), I a1, I a2]) [] σE c s Q := by
  have O := OUT_refl (n := (V139).length) (D := D) (N := N) (σ := σE) (c := c) (s := s)
  have HE := H
  have r6 : HID ((0 : Int) ≤ n3 ∧ n3 ≤ 1000000) := nrng (H.nle 3 (ltn len_V139_oz_L1cls rfl)) (show (N 3 : Int) = n3 from en3)
  have r12 : HID ((0 : Int) ≤ n9 ∧ n9 ≤ 1000000) := nrng (H.nle 9 (ltn len_V139_oz_L1cls rfl)) (show (N 9 : Int) = n9 from en9)
  have r13 : HID ((0 : Int) ≤ n11 ∧ n11 ≤ 1000000) := nrng (H.nle 11 (ltn len_V139_oz_L1cls rfl)) (show (N 11 : Int) = n11 from en11)
  refine Ew_of (pcₚ := 1) (fun _ => x_aload_n rfl rfl) ?_
  refine v_g H (o := 0) (v := .ref (D 1)) rfl rfl rfl rfl rfl (vrf (pf1)) ?_
  refine Ew_of (pcₚ := 5) (fun _ => x_iload_n rfl rfl) ?_
  refine v_inv H (o := 1) rfl rfl rfl rfl rfl rfl (by rfl) (C123 (D := puc 344135042049 D) (N := puc 344135042049 N) (HW_subc H oz_L1cls_1 oz_L1cls_11) (pf2) (pf3) (pf4) (pf5) (n3) (en3) (n4) (en4) (n5) (en5) (u1_6) ((eu1_6)) (u1_10) ((eu1_10)) (u2_1) ((eu2_1)) (w3) (ew3) (w4) (ew4) (w5) (ew5) (show inr (a2) from h1) (show 0 ≤ (u2_1) ∧ (u2_1) ≤ (n3) ∧ (n3) ≤ 65536 ∧ (u2_1) ≤ 16384 from h2) (show 1 ≤ (u1_10) ∧ (u1_10) ≤ 8 from h3) (show 0 ≤ (a2) ∧ (a2) ≤ (u2_1) from q_3989 h10) (show BKI ((w3)) ((w4)) ((u1_10)) ((u1_6)) from h4) (show HDI ((w3)) ((w5)) ((u1_10)) ((u1_6)) from h5) (show (n5) = 2048 from h6) (show 0 ≤ (u1_6) ∧ (u1_6) ≤ (n4) ∧ (n4) ≤ 16384 from h7) (fun σ15 D15ₚ N15ₚ F15ₚ A15ₚ c15 s15 Hₚ Oₚ hD15 hN15 hS15 hA15 (pm15_3 : HID _) m15_3 (em15_3 : HID _) y15_0_6 (ey15_0_6 : HID _) w15_3 ew15_3 w15_4 ew15_4 pz15_0 pz15_1 pz15_2 pz15_3 pz15_4 => ⟨rfl, ?_⟩))
  refine v_backMc (c := c) (s := s) H oz_L1cls_1 oz_L1cls_11 Hₚ Oₚ hD15 oz_L1cls_2 (fun D15 N15 F15 A15 H Oₚ eD15 eN15 eF15 eA15 => ?_)
  have O := OUT_trans O Oₚ
  -- Finder.lay
  have cF15 : SF oz_L1clsl_0 F F15 := SF_trans (SF_refl) (SF_gluc (ι := oz_L1clsl_3) oz_L1cls_11 hS15 eF15 (by decide +kernel)) (any_sub (lₚ := [(1, 6), (1, 8)]) (by decide +kernel))
  have mF15 := SFm_of cF15 oz_L1cls_8
  have cA15 : SA oz_L1clsl_1 A A15 := SA_trans (SA_refl) (SA_gluc (ι := oz_L1clsl_3) oz_L1cls_11 hA15 eA15 (by decide +kernel)) (any_subA (lₚ := [4, 5]) (by decide +kernel))
  have mA15 := SAm_of cA15 oz_L1cls_9
  have cD15 : SD oz_L1clsl_2 D D15 := SD_trans (SD_refl) (SD_gluc (ι := oz_L1clsl_3) oz_L1cls_11 hD15 eD15 (by decide +kernel)) (any_subA (lₚ := [4]) (by decide +kernel))
  have mD15 := SDm_of cD15 oz_L1cls_10
  have cN15 : SD oz_L1clsl_2 N N15 := SD_trans (SD_refl) (SD_gluc (ι := oz_L1clsl_3) oz_L1cls_11 hN15 eN15 (by decide +kernel)) (any_subA (lₚ := [4]) (by decide +kernel))
  have mN15 := SDm_of cN15 oz_L1cls_10
  have pf15_1_1 : HID (F15 1 1 = (D15 6 : Int)) := ((show F15 1 1 = F 1 1 from (eF15 1 1).trans (hS15 0 1 rfl))).trans ((pf6).trans (congrArg (fun q : Nat => (q : Int)) ((show D15 6 = D 6 from (eD15 6))).symm))
  have pf15_1_2 : HID (F15 1 2 = (D15 7 : Int)) := ((show F15 1 2 = F 1 2 from (eF15 1 2).trans (hS15 0 2 rfl))).trans ((pf7).trans (congrArg (fun q : Nat => (q : Int)) ((show D15 7 = D 7 from (eD15 7))).symm))
  have pf15_1_3 : HID (F15 1 3 = (D15 8 : Int)) := ((show F15 1 3 = F 1 3 from (eF15 1 3).trans (hS15 0 3 rfl))).trans ((pf8).trans (congrArg (fun q : Nat => (q : Int)) ((show D15 8 = D 8 from (eD15 8))).symm))
  have pf15_1_8 : HID (F15 1 8 = (D15 4 : Int)) := (eF15 1 8).trans (pm15_3.trans (congrArg (fun q : Nat => (q : Int)) (eD15 4).symm))
  have pf15_10_0 : HID (F15 10 0 = (D15 11 : Int)) := ((show F15 10 0 = F 10 0 from (eF15 10 0))).trans ((pf11).trans (congrArg (fun q : Nat => (q : Int)) ((show D15 11 = D 11 from (eD15 11))).symm))
  refine Ew_of (pcₚ := 9) (fun _ => x_aload_n rfl rfl) ?_
  refine Ew_stk (congrArg (fun qz : Nat => ([.ref qz] : List Value)) (show D15 0 = D 0 from mD15 0 rfl).symm) ?_
  refine v_g H (o := 0) (v := .ref (D15 1)) rfl rfl rfl rfl rfl (vrf ((mF15 0 1 rfl).trans ((pf1).trans (congrArg (fun q : Nat => (q : Int)) (mD15 1 rfl).symm)))) ?_
  refine Ew_of (pcₚ := 13) (fun _ => x_iload_n rfl rfl) ?_
  refine Ew_of (pcₚ := 14) (fun _ => x_iload_n rfl rfl) ?_
  refine Ew_of (pcₚ := 15) (fun _ => x_iload_n rfl rfl) ?_
  refine Ew_of (pcₚ := 16) (fun _ => x_iload_n rfl rfl) ?_
  refine Ew_of (pcₚ := 17) (fun _ => x_aload_n rfl rfl) ?_
  refine Ew_stk (congrArg (fun qz : Nat => ([.ref qz, I (a2), I (a2), I (a2), I (a1), .ref (D15 1)] : List Value)) (show D15 0 = D 0 from mD15 0 rfl).symm) ?_
  refine v_g H (o := 0) (v := .ref (D15 9)) rfl rfl rfl rfl rfl (vrf ((mF15 0 0 rfl).trans ((pf9).trans (congrArg (fun q : Nat => (q : Int)) (mD15 9 rfl).symm)))) ?_
  refine Ew_of (pcₚ := 21) (fun _ => x_iconst rfl) ?_
  refine v_lI H (o := 9) rfl rfl rfl rfl (n := n9) ((congrArg (fun q : Nat => (q : Int)) (mN15 9 rfl)).trans (en9)) (show 0 ≤ 1 ∧ 1 < n9 from q_3990 (HIDe r12) h11) (fun v18 ev18 (qv18 : HID _) => ?_)
  have ev18 : (w9) (1) = v18 := (congrFun ((funext (mA15 9 rfl)).trans (ew9)) (1)).symm.trans ev18
  have hsl := ev18
  refine w_isub rfl ?_
  refine v_inv H (o := 1) rfl rfl rfl rfl rfl rfl (by rfl) (C125 (D := puc 144361891534996481 D15) (N := puc 144361891534996481 N15) (HW_subc H oz_L1cls_3 oz_L1cls_12) ((mF15 1 0 rfl).trans ((pf2).trans (congrArg (fun q : Nat => (q : Int)) (mD15 2 rfl).symm))) ((mF15 2 0 rfl).trans ((pf3).trans (congrArg (fun q : Nat => (q : Int)) (mD15 3 rfl).symm))) (pf15_1_8) (pf15_1_1) (pf15_1_2) (pf15_1_3) (n3) ((congrArg (fun q : Nat => (q : Int)) (mN15 3 rfl)).trans (en3)) (m15_3) ((congrArg (fun q : Nat => (q : Int)) (eN15 4)).trans em15_3) (n6) ((congrArg (fun q : Nat => (q : Int)) (show N15 6 = N 6 from (eN15 6))).trans (en6)) (n7) ((congrArg (fun q : Nat => (q : Int)) (show N15 7 = N 7 from (eN15 7))).trans (en7)) (n8) ((congrArg (fun q : Nat => (q : Int)) (show N15 8 = N 8 from (eN15 8))).trans (en8)) (u1_4) ((((show F15 1 4 = F 1 4 from (eF15 1 4).trans (hS15 0 4 rfl))).trans (eu1_4))) (F 1 5) (((show F15 1 5 = F 1 5 from (eF15 1 5).trans (hS15 0 5 rfl)))) (y15_0_6) (((eF15 1 6).trans ey15_0_6)) (u1_10) (((mF15 1 10 rfl).trans (eu1_10))) (u2_1) (((mF15 2 1 rfl).trans (eu2_1))) (w3) ((funext (mA15 3 rfl)).trans (ew3)) (w15_3) ((eA15 4).trans ew15_3) (A 6) ((show A15 6 = A 6 from (eA15 6))) (A 7) ((show A15 7 = A 7 from (eA15 7))) (w8) (((show A15 8 = A 8 from (eA15 8))).trans (ew8)) (show inr (a1) from h0) (show inr (a2) from h1) (show inr (a2) from h1) (show inr ((a2 - v18)) from q_3992 (HIDe qv18) ev18 h10 h9 pz15_0 pz15_1) (show 0 ≤ (u2_1) ∧ (u2_1) ≤ (n3) ∧ (n3) ≤ 65536 ∧ (u2_1) ≤ 16384 from h2) (show 1 ≤ (u1_10) ∧ (u1_10) ≤ 8 from h3) (show 0 ≤ (a1) ∧ (a1) ≤ (a2) ∧ (a2) ≤ (u2_1) from h10) (show (a2) ≤ (a2) ∧ ((a2 - v18)) < (a2) ∧ ((a2 - v18)) < (y15_0_6) from q_3991 ev18 h3 h9 pz15_1) (show 0 ≤ (y15_0_6) ∧ (y15_0_6) ≤ (m15_3) ∧ (m15_3) ≤ 16384 from q_2768 h7 pz15_0) (show BKI ((w3)) ((w15_3)) ((u1_10)) ((y15_0_6)) from pz15_3) (show (n6) = (n7) ∧ (n8) = (n7) ∧ (n7) ≤ 65536 ∧ ((n7) = 0 ∨ 64 ≤ (n7)) ∧ lgq ((n7)) = 0 from h8) (fun σ20 D20ₚ N20ₚ F20ₚ A20ₚ c20 s20 Hₚ Oₚ hD20 hN20 hS20 hA20 (pm20_4 : HID _) (pm20_5 : HID _) (pm20_6 : HID _) m20_4 (em20_4 : HID _) m20_5 (em20_5 : HID _) m20_6 (em20_6 : HID _) y20_0_4 (ey20_0_4 : HID _) y20_0_5 (ey20_0_5 : HID _) w20_4 ew20_4 w20_5 ew20_5 w20_6 ew20_6 pz20_0 pz20_1 pz20_2 pz20_3 => ⟨rfl, ?_⟩))
  refine v_backMc (c := (c + c15)) (s := (s + s15)) H oz_L1cls_3 oz_L1cls_12 Hₚ Oₚ hD20 oz_L1cls_4 (fun D20 N20 F20 A20 H Oₚ eD20 eN20 eF20 eA20 => ?_)
  have O := OUT_trans O Oₚ
  -- Finder.go
  have cF20 : SF oz_L1clsl_0 F F20 := SF_trans (cF15) (SF_gluc (ι := oz_L1clsl_4) oz_L1cls_12 hS20 eF20 (by decide +kernel)) (any_sub (lₚ := [(1, 1), (1, 2), (1, 3), (1, 4), (1, 5), (1, 12), (1, 13), (1, 14), (1, 15), (1, 16), (1, 17), (1, 18)]) (by decide +kernel))
  have mF20 := SFm_of cF20 oz_L1cls_8
  have cA20 : SA oz_L1clsl_1 A A20 := SA_trans (cA15) (SA_gluc (ι := oz_L1clsl_4) oz_L1cls_12 hA20 eA20 (by decide +kernel)) (any_subA (lₚ := [6, 7, 8]) (by decide +kernel))
  have mA20 := SAm_of cA20 oz_L1cls_9
  have cD20 : SD oz_L1clsl_2 D D20 := SD_trans (cD15) (SD_gluc (ι := oz_L1clsl_4) oz_L1cls_12 hD20 eD20 (by decide +kernel)) (any_subA (lₚ := [6, 7, 8]) (by decide +kernel))
  have mD20 := SDm_of cD20 oz_L1cls_10
  have cN20 : SD oz_L1clsl_2 N N20 := SD_trans (cN15) (SD_gluc (ι := oz_L1clsl_4) oz_L1cls_12 hN20 eN20 (by decide +kernel)) (any_subA (lₚ := [6, 7, 8]) (by decide +kernel))
  have mN20 := SDm_of cN20 oz_L1cls_10
  have pf20_1_1 : HID (F20 1 1 = (D20 6 : Int)) := (eF20 1 1).trans (pm20_4.trans (congrArg (fun q : Nat => (q : Int)) (eD20 6).symm))
  have pf20_1_2 : HID (F20 1 2 = (D20 7 : Int)) := (eF20 1 2).trans (pm20_5.trans (congrArg (fun q : Nat => (q : Int)) (eD20 7).symm))
  have pf20_1_3 : HID (F20 1 3 = (D20 8 : Int)) := (eF20 1 3).trans (pm20_6.trans (congrArg (fun q : Nat => (q : Int)) (eD20 8).symm))
  have pf20_1_8 : HID (F20 1 8 = (D20 4 : Int)) := ((show F20 1 8 = F15 1 8 from (eF20 1 8).trans (hS20 0 8 rfl))).trans ((pf15_1_8).trans (congrArg (fun q : Nat => (q : Int)) ((show D20 4 = D15 4 from (eD20 4).trans (hD20 3 rfl))).symm))
  have pf20_10_0 : HID (F20 10 0 = (D20 11 : Int)) := ((show F20 10 0 = F15 10 0 from (eF20 10 0))).trans ((pf15_10_0).trans (congrArg (fun q : Nat => (q : Int)) ((show D20 11 = D15 11 from (eD20 11))).symm))
  have r21 : HID ((0 : Int) ≤ m20_4 ∧ m20_4 ≤ 1000000) := nrng (H.nle 6 (ltn len_V139_oz_L1cls rfl)) (show (N20 6 : Int) = m20_4 from (congrArg (fun q : Nat => (q : Int)) (eN20 6)).trans em20_4)
  have r22 : HID ((0 : Int) ≤ m20_5 ∧ m20_5 ≤ 1000000) := nrng (H.nle 7 (ltn len_V139_oz_L1cls rfl)) (show (N20 7 : Int) = m20_5 from (congrArg (fun q : Nat => (q : Int)) (eN20 7)).trans em20_5)
  have r23 : HID ((0 : Int) ≤ m20_6 ∧ m20_6 ≤ 1000000) := nrng (H.nle 8 (ltn len_V139_oz_L1cls rfl)) (show (N20 8 : Int) = m20_6 from (congrArg (fun q : Nat => (q : Int)) (eN20 8)).trans em20_6)
  have r24 : HID ((-2147483648 : Int) ≤ y20_0_4 ∧ y20_0_4 ≤ 2147483647) := krg_e (show (-2147483648 : Int) ≤ F20 1 4 ∧ F20 1 4 ≤ 2147483647 from H.krg 1 4 (ltn len_V139_oz_L1cls rfl)) (show F20 1 4 = y20_0_4 from ((eF20 1 4).trans ey20_0_4))
  have r25 : HID ((-2147483648 : Int) ≤ y20_0_5 ∧ y20_0_5 ≤ 2147483647) := krg_e (show (-2147483648 : Int) ≤ F20 1 5 ∧ F20 1 5 ≤ 2147483647 from H.krg 1 5 (ltn len_V139_oz_L1cls rfl)) (show F20 1 5 = y20_0_5 from ((eF20 1 5).trans ey20_0_5))
  have hlnq : (m20_4) = (m20_5) ∧ (m20_6) = (m20_5) ∧ (m20_5) ≤ 65536 ∧ ((m20_5) = 0 ∨ 64 ≤ (m20_5)) ∧ lgq ((m20_5)) = 0 := by (have qg0 := HIDe r21; have qg1 := HIDe r22; have qg2 := HIDe r23; omega)
  refine Ew_of (pcₚ := 27) (fun _ => x_aload_n rfl rfl) ?_
  refine Ew_stk (congrArg (fun qz : Nat => ([.ref qz] : List Value)) (show D20 0 = D 0 from mD20 0 rfl).symm) ?_
  refine v_g H (o := 0) (v := .ref (D20 10)) rfl rfl rfl rfl rfl (vrf ((mF20 0 9 rfl).trans ((pf10).trans (congrArg (fun q : Nat => (q : Int)) (mD20 10 rfl).symm)))) ?_
  refine v_inv H (o := 10) rfl rfl rfl rfl rfl rfl (by rfl) (C156h (D := puc 10 D20) (N := puc 10 N20) (HW_subc H oz_L1cls_5 oz_L1cls_13) (u10_1) (((((show F20 10 1 = F15 10 1 from (eF20 10 1))).trans ((show F15 10 1 = F 10 1 from (eF15 10 1)))).trans (eu10_1))) (F 10 2) ((((show F20 10 2 = F15 10 2 from (eF20 10 2))).trans ((show F15 10 2 = F 10 2 from (eF15 10 2))))) (F 10 4) ((((show F20 10 4 = F15 10 4 from (eF20 10 4))).trans ((show F15 10 4 = F 10 4 from (eF15 10 4)))))  (fun σ28 F28ₚ A28ₚ Hₚ Oₚ hS28 hA28 y28_0_1 (ey28_0_1 : HID _) y28_0_2 (ey28_0_2 : HID _) y28_0_4 (ey28_0_4 : HID _) pz28_0 => ⟨rfl, ?_⟩))
  refine v_backc (c := ((c + c15) + c20)) (s := ((s + s15) + s20)) H oz_L1cls_5 oz_L1cls_13 Hₚ Oₚ (fun F28 A28 H Oₚ eF28 eA28 => ?_)
  have O := OUT_trans O Oₚ
  -- Row.clear
  have cF28 : SF oz_L1clsl_0 F F28 := SF_trans (cF20) (SF_gluc (ι := oz_L1clsl_5) oz_L1cls_13 hS28 eF28 (by decide +kernel)) (any_sub (lₚ := [(10, 1), (10, 2), (10, 3), (10, 4)]) (by decide +kernel))
  have mF28 := SFm_of cF28 oz_L1cls_8
  have cA28 : SA oz_L1clsl_1 A A28 := SA_trans (cA20) (SA_gluc (ι := oz_L1clsl_5) oz_L1cls_13 hA28 eA28 (by decide +kernel)) (any_subA (lₚ := []) (by decide +kernel))
  have mA28 := SAm_of cA28 oz_L1cls_9
  refine Ew_of (pcₚ := 34) (fun _ => x_iload_n rfl rfl) ?_
  refine Ew_of (pcₚ := 35) (fun _ => x_istore_n rfl) ?_
  refine Ew_of (pcₚ := 36) (fun _ => x_iconst rfl) ?_
  refine Ew_of (pcₚ := 38) (fun _ => x_istore rfl) ?_
  have : su (fun j => ((w20_4)) j + ((w20_5)) j) (0 : Int).toNat = 0 := rfl
  have hfd : FDI ((w20_4)) ((w20_5)) ((w20_6)) ((y20_0_4)) ((a2) - (a1) - (y20_0_5)) ((u1_10)) := pz20_3
  have hds : DSI ((w20_6)) ((y20_0_4)) := fun j p q => (hfd.1 j p q).2.2
  suffices hl38 : ∀ (m : Nat), ∀ (ls : rO) (σ : rS) (D_38 N_38 : Nat → Nat) (c_38 s_38 : Nat) (F_38 : hF) (A_38 : hA) (x38_3 : Int) (x38_4 : Int), rlook ls 0 = some (.ref (D_38 0)) → rlook ls 3 = some (I (x38_3)) → rlook ls 4 = some (I (x38_4)) → HW V139 σ D_38 N_38 F_38 A_38 → OUT (V139).length D N σE c s D_38 N_38 σ c_38 s_38 → SD [11] D20 D_38 → SD [11] N20 N_38 → SF [(10, 0), (10, 1), (10, 2)] F28 F_38 → SA [11] A28 A_38 → F_38 10 0 = (D_38 11 : Int) → ∀ m38_11 : Int, (N_38 11 : Int) = m38_11 → ∀ y38_10_1 : Int, F_38 10 1 = y38_10_1 → (inr (x38_3)) → (inr (x38_4)) → ((0) ≤ (x38_4)) → ((x38_4) ≤ (0) ∨ (x38_4) ≤ ((y20_0_4))) → (0 ≤ (y38_10_1) ∧ (y38_10_1) ≤ (m38_11) ∧ (m38_11) ≤ 65536) → ((x38_3) = (a1) + su (fun j => ((w20_4)) j + ((w20_5)) j) ((x38_4) : Int).toNat) → (((y20_0_4)) - (x38_4)).toNat = m → Ew 139 (d + 4) 38 ls [] σ c_38 s_38 Q from
    hl38 _ _ _ _ _ _ _ _ _ (a1) (0) ((rk_o (rk_o (rfl) rfl rfl) rfl rfl).trans (congrArg (fun q : Nat => some (Value.ref q)) (mD20 0 rfl).symm)) (rk_o (rk_s) rfl rfl) (rk_s) H O (SD_refl) (SD_refl) (SF_refl) (SA_refl) ((((show F28 10 0 = F20 10 0 from (eF28 10 0).trans (hS28 0 0 rfl)))).trans (pf20_10_0)) (n11) ((congrArg (fun q : Nat => (q : Int)) (show N20 11 = N15 11 from (eN20 11))).trans ((congrArg (fun q : Nat => (q : Int)) (show N15 11 = N 11 from (eN15 11))).trans (en11))) (y28_0_1) (((eF28 10 1).trans ey28_0_1))  (show inr (a1) from h0) (show inr (0) from q_20) (show (0) ≤ (0) from q_25) (show (0) ≤ (0) ∨ (0) ≤ ((y20_0_4)) from q_24) (show 0 ≤ (y28_0_1) ∧ (y28_0_1) ≤ (n11) ∧ (n11) ≤ 65536 from q_3960 (HIDe r13) h12 pz28_0) (show (a1) = (a1) + su (fun j => ((w20_4)) j + ((w20_5)) j) ((0) : Int).toNat by omega) rfl
  as_aux_lemma =>
  intro m
  induction m using Nat.strongRecOn with
  | _ m ih38 =>
    intro ls σ D_38 N_38 c_38 s_38 F_38 A_38 x38_3 x38_4 l38_0 l38_3 l38_4 H O hD_38 hN_38 hS_38 hA_38 pm38_11 m38_11 em38_11 y38_10_1 ey38_10_1  j38_0 j38_1 j38_2 j38_3 j38_4 j38_5 hm38
    have cF_38 : SF oz_L1clsl_0 F F_38 := SF_trans (cF28) hS_38 (any_sub (by decide +kernel))
    have mF_38 := SFm_of cF_38 oz_L1cls_8
    have cA_38 : SA oz_L1clsl_1 A A_38 := SA_trans (cA28) hA_38 (any_subA (by decide +kernel))
    have mA_38 := SAm_of cA_38 oz_L1cls_9
    have cD_38 : SD oz_L1clsl_2 D D_38 := SD_trans (cD20) hD_38 (any_subA (by decide +kernel))
    have mD_38 := SDm_of cD_38 oz_L1cls_10
    have cN_38 : SD oz_L1clsl_2 N N_38 := SD_trans (cN20) hN_38 (any_subA (by decide +kernel))
    have mN_38 := SDm_of cN_38 oz_L1cls_10
    replace pm38_11 := HIDm pm38_11
    replace em38_11 := HIDm em38_11
    replace ey38_10_1 := HIDm ey38_10_1
    try clear pz15_2
    try clear pz20_0
    have pf_38_1_1 : HID (F_38 1 1 = (D_38 6 : Int)) := (hS_38 1 1 rfl).trans (((((show F28 1 1 = F20 1 1 from (eF28 1 1)))).trans (pf20_1_1)).trans (congrArg (fun q : Nat => (q : Int)) (hD_38 6 rfl).symm))
    have pf_38_1_2 : HID (F_38 1 2 = (D_38 7 : Int)) := (hS_38 1 2 rfl).trans (((((show F28 1 2 = F20 1 2 from (eF28 1 2)))).trans (pf20_1_2)).trans (congrArg (fun q : Nat => (q : Int)) (hD_38 7 rfl).symm))
    have pf_38_1_3 : HID (F_38 1 3 = (D_38 8 : Int)) := (hS_38 1 3 rfl).trans (((((show F28 1 3 = F20 1 3 from (eF28 1 3)))).trans (pf20_1_3)).trans (congrArg (fun q : Nat => (q : Int)) (hD_38 8 rfl).symm))
    have pf_38_1_8 : HID (F_38 1 8 = (D_38 4 : Int)) := (hS_38 1 8 rfl).trans (((((show F28 1 8 = F20 1 8 from (eF28 1 8)))).trans (pf20_1_8)).trans (congrArg (fun q : Nat => (q : Int)) (hD_38 4 rfl).symm))
    refine Ew_of (pcₚ := 40) (fun _ => x_iload rfl l38_4) ?_
    refine Ew_of (pcₚ := 41) (fun _ => x_aload_n rfl l38_0) ?_
    refine v_g H (o := 0) (v := .ref (D_38 1)) rfl rfl rfl rfl rfl (vrf ((mF_38 0 1 rfl).trans ((pf1).trans (congrArg (fun q : Nat => (q : Int)) (mD_38 1 rfl).symm)))) ?_
    refine v_g H (o := 1) (v := I (y20_0_4)) rfl rfl rfl rfl rfl (congrArg (fun z : Int => I z) ((((hS_38 1 4 rfl).trans ((show F28 1 4 = F20 1 4 from (eF28 1 4)))).trans ((eF20 1 4).trans ey20_0_4)) : F_38 1 4 = y20_0_4)) ?_
    refine w_icmpge (t := 108) rfl rfl (show inr (x38_4) from j38_1) (show inr (y20_0_4) from q_3993 (HIDe r24) pz20_1) (fun b34 => ?_) (fun b34 => ?_)
    · refine Ew_of (pcₚ := 109) (fun _ => x_aload_n rfl l38_0) ?_
      refine v_g H (o := 0) (v := .ref (D_38 10)) rfl rfl rfl rfl rfl (vrf ((mF_38 0 9 rfl).trans ((pf10).trans (congrArg (fun q : Nat => (q : Int)) (mD_38 10 rfl).symm)))) ?_
      have hle : (x38_4) = (y20_0_4) := by (have qg0 := HIDe r24; omega)
      have hst : su (fun j => ((w20_4)) j + ((w20_5)) j) ((x38_4) : Int).toNat = (a2) - (a1) - (y20_0_5) := by rw [hle]; exact hfd.2
      refine Ew_of (pcₚ := 113) (fun _ => x_aload_n rfl l38_0) ?_
      refine v_g H (o := 0) (v := .ref (D_38 1)) rfl rfl rfl rfl rfl (vrf ((mF_38 0 1 rfl).trans ((pf1).trans (congrArg (fun q : Nat => (q : Int)) (mD_38 1 rfl).symm)))) ?_
      refine v_g H (o := 1) (v := .ref (D_38 2)) rfl rfl rfl rfl rfl (vrf ((mF_38 1 0 rfl).trans ((pf2).trans (congrArg (fun q : Nat => (q : Int)) (mD_38 2 rfl).symm)))) ?_
      refine v_g H (o := 2) (v := .ref (D_38 3)) rfl rfl rfl rfl rfl (vrf ((mF_38 2 0 rfl).trans ((pf3).trans (congrArg (fun q : Nat => (q : Int)) (mD_38 3 rfl).symm)))) ?_
      refine Ew_of (pcₚ := 123) (fun _ => x_iload_n rfl l38_3) ?_
      refine Ew_of (pcₚ := 124) (fun _ => x_aload_n rfl l38_0) ?_
      refine v_g H (o := 0) (v := .ref (D_38 1)) rfl rfl rfl rfl rfl (vrf ((mF_38 0 1 rfl).trans ((pf1).trans (congrArg (fun q : Nat => (q : Int)) (mD_38 1 rfl).symm)))) ?_
      refine v_g H (o := 1) (v := I (y20_0_5)) rfl rfl rfl rfl rfl (congrArg (fun z : Int => I z) ((((hS_38 1 5 rfl).trans ((show F28 1 5 = F20 1 5 from (eF28 1 5)))).trans ((eF20 1 5).trans ey20_0_5)) : F_38 1 5 = y20_0_5)) ?_
      refine v_inv H (o := 10) rfl rfl rfl rfl rfl rfl (by rfl) (C161_Br (D := puc 2885130 D_38) (N := puc 2885130 N_38) (HW_subc H oz_L1cls_6 oz_L1cls_14) (pm38_11) (n3) ((congrArg (fun q : Nat => (q : Int)) (mN_38 3 rfl)).trans (en3)) (m38_11) (em38_11) (y38_10_1) ((ey38_10_1)) (A_38 11) (rfl) (show inr (x38_3) from j38_0) (show inr (y20_0_5) from q_3994 (HIDe r25) pz20_2) (show 0 ≤ (y38_10_1) ∧ (y38_10_1) ≤ (m38_11) ∧ (m38_11) ≤ 65536 from j38_4) (show (y20_0_5) < 0 ∨ 0 ≤ (x38_3) ∧ (x38_3) + (y20_0_5) ≤ (n3) by have qh0 := HIDe r25; have qh1 := HIDe r6; omega) (fun σ35 D35ₚ N35ₚ F35ₚ A35ₚ c35 s35 Hₚ Oₚ hD35 hN35 hS35 hA35 (pm35_2 : HID _) m35_2 (em35_2 : HID _) y35_0_1 (ey35_0_1 : HID _) w35_2 ew35_2 pz35_0 pz35_1 pz35_2 => ⟨rfl, ?_⟩))
      refine v_backMc (c := c_38) (s := s_38) H oz_L1cls_6 oz_L1cls_14 Hₚ Oₚ hD35 oz_L1cls_7 (fun D35 N35 F35 A35 H Oₚ eD35 eN35 eF35 eA35 => ?_)
      have O := OUT_trans O Oₚ
      -- Row.addPart
      have cF35 : SF oz_L1clsl_0 F F35 := SF_trans (cF_38) (SF_gluc (ι := oz_L1clsl_6) oz_L1cls_14 hS35 eF35 (by decide +kernel)) (any_sub (lₚ := [(10, 0), (10, 1), (10, 2)]) (by decide +kernel))
      have mF35 := SFm_of cF35 oz_L1cls_8
      have cA35 : SA oz_L1clsl_1 A A35 := SA_trans (cA_38) (SA_gluc (ι := oz_L1clsl_6) oz_L1cls_14 hA35 eA35 (by decide +kernel)) (any_subA (lₚ := [11]) (by decide +kernel))
      have mA35 := SAm_of cA35 oz_L1cls_9
      have cD35 : SD oz_L1clsl_2 D D35 := SD_trans (cD_38) (SD_gluc (ι := oz_L1clsl_6) oz_L1cls_14 hD35 eD35 (by decide +kernel)) (any_subA (lₚ := [11]) (by decide +kernel))
      have mD35 := SDm_of cD35 oz_L1cls_10
      have cN35 : SD oz_L1clsl_2 N N35 := SD_trans (cN_38) (SD_gluc (ι := oz_L1clsl_6) oz_L1cls_14 hN35 eN35 (by decide +kernel)) (any_subA (lₚ := [11]) (by decide +kernel))
      have mN35 := SDm_of cN35 oz_L1cls_10
      have pf35_1_1 : HID (F35 1 1 = (D35 6 : Int)) := ((show F35 1 1 = F_38 1 1 from (eF35 1 1))).trans ((pf_38_1_1).trans (congrArg (fun q : Nat => (q : Int)) ((show D35 6 = D_38 6 from (eD35 6))).symm))
      have pf35_1_2 : HID (F35 1 2 = (D35 7 : Int)) := ((show F35 1 2 = F_38 1 2 from (eF35 1 2))).trans ((pf_38_1_2).trans (congrArg (fun q : Nat => (q : Int)) ((show D35 7 = D_38 7 from (eD35 7))).symm))
      have pf35_1_3 : HID (F35 1 3 = (D35 8 : Int)) := ((show F35 1 3 = F_38 1 3 from (eF35 1 3))).trans ((pf_38_1_3).trans (congrArg (fun q : Nat => (q : Int)) ((show D35 8 = D_38 8 from (eD35 8))).symm))
      have pf35_1_8 : HID (F35 1 8 = (D35 4 : Int)) := ((show F35 1 8 = F_38 1 8 from (eF35 1 8))).trans ((pf_38_1_8).trans (congrArg (fun q : Nat => (q : Int)) ((show D35 4 = D_38 4 from (eD35 4))).symm))
      have pf35_10_0 : HID (F35 10 0 = (D35 11 : Int)) := (eF35 10 0).trans (pm35_2.trans (congrArg (fun q : Nat => (q : Int)) (eD35 11).symm))
      have r37 : HID ((-2147483648 : Int) ≤ y35_0_1 ∧ y35_0_1 ≤ 2147483647) := krg_e (show (-2147483648 : Int) ≤ F35 10 1 ∧ F35 10 1 ≤ 2147483647 from H.krg 10 1 (ltn len_V139_oz_L1cls rfl)) (show F35 10 1 = y35_0_1 from ((eF35 10 1).trans ey35_0_1))
      refine Ew_of (pcₚ := 134) (fun _ => x_aload_n rfl l38_0) ?_
      refine Ew_stk (congrArg (fun qz : Nat => ([.ref qz] : List Value)) (show D35 0 = D_38 0 from ((show D35 0 = D_38 0 from (eD35 0)))).symm) ?_
      refine v_g H (o := 0) (v := .ref (D35 12)) rfl rfl rfl rfl rfl (vrf ((mF35 0 11 rfl).trans ((pf12).trans (congrArg (fun q : Nat => (q : Int)) (mD35 12 rfl).symm)))) ?_
      refine Ew_of (pcₚ := 138) (fun _ => x_iconst rfl) ?_
      refine v_fil H (t := 12) (v := 0) rfl rfl rfl rfl rfl (show inr (0) from q_20) (fun σ A38 H Oₚ hA38 ga38 => ?_)
      have O := OUT_trans O Oₚ
      have cA38 : SA oz_L1clsl_1 A A38 := SA_trans (cA35) hA38 (any_subA (by decide +kernel))
      have mA38 := SAm_of cA38 oz_L1cls_9
      refine Ew_of (pcₚ := 142) (fun _ => x_iconst rfl) ?_
      refine Ew_of (pcₚ := 144) (fun _ => x_istore rfl) ?_
      have hb0 : CTN (ub ((w35_2))) ((A38 12)) (0) 256 := CTN_0 ga38
      suffices hl144 : ∀ (m : Nat), ∀ (ls : rO) (σ : rS) (F_144 : hF) (A_144 : hA) (x144_4 : Int), rlook ls 0 = some (.ref (D35 0)) → rlook ls 4 = some (I (x144_4)) → HW V139 σ D35 N35 F_144 A_144 → OUT (V139).length D N σE c s D35 N35 σ (c_38 + c35) (s_38 + s35) → SF [] F35 F_144 → SA [12] A38 A_144 → ∀ w144_12 : Int → Int, A_144 12 = w144_12 → (inr (x144_4)) → ((0) ≤ (x144_4)) → ((x144_4) ≤ (0) ∨ (x144_4) ≤ ((y35_0_1))) → (CTN (ub ((w35_2))) ((w144_12)) ((x144_4)) 256) → (((y35_0_1)) - (x144_4)).toNat = m → Ew 139 (d + 4) 144 ls [] σ (c_38 + c35) (s_38 + s35) Q from
        hl144 _ _ _ _ _ (0) ((rk_o (l38_0) rfl rfl).trans (congrArg (fun q : Nat => some (Value.ref q)) (((show D35 0 = D_38 0 from (eD35 0)))).symm)) (rk_s) H O (SF_refl) (SA_refl)    (A38 12) (rfl) (show inr (0) from q_20) (show (0) ≤ (0) from q_25) (show (0) ≤ (0) ∨ (0) ≤ ((y35_0_1)) from q_24) (show CTN (ub ((w35_2))) ((A38 12)) ((0)) 256 from hb0) rfl
      as_aux_lemma =>
      intro m
      induction m using Nat.strongRecOn with
      | _ m ih144 =>
        intro ls σ F_144 A_144 x144_4 l144_0 l144_4 H O hS_144 hA_144    w144_12 ew144_12 j144_0 j144_1 j144_2 j144_3 hm144
        have cF_144 : SF oz_L1clsl_0 F F_144 := SF_trans (cF35) hS_144 (any_sub (by decide +kernel))
        have mF_144 := SFm_of cF_144 oz_L1cls_8
        have cA_144 : SA oz_L1clsl_1 A A_144 := SA_trans (cA38) hA_144 (any_subA (by decide +kernel))
        have mA_144 := SAm_of cA_144 oz_L1cls_9
        try clear pz35_1
        have hct : CTN (ub ((w35_2))) ((w144_12)) ((x144_4)) 256 := j144_3
        refine Ew_of (pcₚ := 146) (fun _ => x_iload rfl l144_4) ?_
        refine Ew_of (pcₚ := 147) (fun _ => x_aload_n rfl l144_0) ?_
        refine v_g H (o := 0) (v := .ref (D35 10)) rfl rfl rfl rfl rfl (vrf ((mF_144 0 9 rfl).trans ((pf10).trans (congrArg (fun q : Nat => (q : Int)) (mD35 10 rfl).symm)))) ?_
        refine v_g H (o := 10) (v := I (y35_0_1)) rfl rfl rfl rfl rfl (congrArg (fun z : Int => I z) (((hS_144 10 1 rfl).trans ((eF35 10 1).trans ey35_0_1)) : F_144 10 1 = y35_0_1)) ?_
        refine w_icmpge (t := 185) rfl rfl (show inr (x144_4) from j144_0) (show inr (y35_0_1) from q_884 pz35_0) (fun b39 => ?_) (fun b39 => ?_)
        · have hl4 : (x144_4) = (y35_0_1) := by (have qg0 := HIDe r37; omega)
          have hct2 : CTN (ub ((w35_2))) ((w144_12)) ((y35_0_1)) 256 := by rw [← hl4]; assumption
          exact w_ret rfl (k _ _ _ _ _ _ _ H O (cD35) (cN35) (cF_144) (cA_144) (((hS_144 1 8 rfl)).trans (pf35_1_8)) (((hS_144 1 1 rfl)).trans (pf35_1_1)) (((hS_144 1 2 rfl)).trans (pf35_1_2)) (((hS_144 1 3 rfl)).trans (pf35_1_3)) (((hS_144 10 0 rfl)).trans (pf35_10_0)) (m15_3) ((congrArg (fun q : Nat => (q : Int)) (show N35 4 = N_38 4 from (eN35 4))).trans ((congrArg (fun q : Nat => (q : Int)) (hN_38 4 rfl)).trans ((congrArg (fun q : Nat => (q : Int)) (show N20 4 = N15 4 from (eN20 4).trans (hN20 3 rfl))).trans ((congrArg (fun q : Nat => (q : Int)) (eN15 4)).trans em15_3)))) (m20_4) ((congrArg (fun q : Nat => (q : Int)) (show N35 6 = N_38 6 from (eN35 6))).trans ((congrArg (fun q : Nat => (q : Int)) (hN_38 6 rfl)).trans ((congrArg (fun q : Nat => (q : Int)) (eN20 6)).trans em20_4))) (m20_5) ((congrArg (fun q : Nat => (q : Int)) (show N35 7 = N_38 7 from (eN35 7))).trans ((congrArg (fun q : Nat => (q : Int)) (hN_38 7 rfl)).trans ((congrArg (fun q : Nat => (q : Int)) (eN20 7)).trans em20_5))) (m20_6) ((congrArg (fun q : Nat => (q : Int)) (show N35 8 = N_38 8 from (eN35 8))).trans ((congrArg (fun q : Nat => (q : Int)) (hN_38 8 rfl)).trans ((congrArg (fun q : Nat => (q : Int)) (eN20 8)).trans em20_6))) (m35_2) ((congrArg (fun q : Nat => (q : Int)) (eN35 11)).trans em35_2) (y20_0_4) ((((((hS_144 1 4 rfl).trans ((show F35 1 4 = F_38 1 4 from (eF35 1 4)))).trans (hS_38 1 4 rfl)).trans ((show F28 1 4 = F20 1 4 from (eF28 1 4)))).trans ((eF20 1 4).trans ey20_0_4))) (y15_0_6) (((((((hS_144 1 6 rfl).trans ((show F35 1 6 = F_38 1 6 from (eF35 1 6)))).trans (hS_38 1 6 rfl)).trans ((show F28 1 6 = F20 1 6 from (eF28 1 6)))).trans ((show F20 1 6 = F15 1 6 from (eF20 1 6).trans (hS20 0 6 rfl)))).trans ((eF15 1 6).trans ey15_0_6))) (y35_0_1) (((hS_144 10 1 rfl).trans ((eF35 10 1).trans ey35_0_1))) (w15_3) ((funext (hA_144 4 rfl)).trans ((funext (hA38 4 rfl)).trans (((show A35 4 = A_38 4 from (eA35 4))).trans ((funext (hA_38 4 rfl)).trans (((show A28 4 = A20 4 from (eA28 4))).trans (((show A20 4 = A15 4 from (eA20 4).trans (funext (hA20 3 rfl)))).trans ((eA15 4).trans ew15_3))))))) (w15_4) ((funext (hA_144 5 rfl)).trans ((funext (hA38 5 rfl)).trans (((show A35 5 = A_38 5 from (eA35 5))).trans ((funext (hA_38 5 rfl)).trans (((show A28 5 = A20 5 from (eA28 5))).trans (((show A20 5 = A15 5 from (eA20 5))).trans ((eA15 5).trans ew15_4))))))) (w20_6) ((funext (hA_144 8 rfl)).trans ((funext (hA38 8 rfl)).trans (((show A35 8 = A_38 8 from (eA35 8))).trans ((funext (hA_38 8 rfl)).trans (((show A28 8 = A20 8 from (eA28 8))).trans ((eA20 8).trans ew20_6)))))) (w35_2) ((funext (hA_144 11 rfl)).trans ((funext (hA38 11 rfl)).trans ((eA35 11).trans ew35_2))) (w144_12) (ew144_12) (show 0 ≤ (y15_0_6) ∧ (u1_6) ≤ (y15_0_6) ∧ (y15_0_6) ≤ (m15_3) ∧ (m15_3) ≤ 16384 from q_2777 h7 pz15_0) (show (m20_4) = (m20_5) ∧ (m20_6) = (m20_5) ∧ (m20_5) ≤ 65536 ∧ ((m20_5) = 0 ∨ 64 ≤ (m20_5)) ∧ lgq ((m20_5)) = 0 from hlnq) (show BKI ((w3)) ((w15_3)) ((u1_10)) ((y15_0_6)) from pz15_3) (show HDI ((w3)) ((w15_4)) ((u1_10)) ((y15_0_6)) from pz15_4) (show 0 ≤ (y20_0_4) ∧ (y20_0_4) ≤ (m20_5) ∧ (y20_0_4) ≤ a2 - a1 from pz20_1) (show DSI ((w20_6)) ((y20_0_4)) from hds) (show 0 ≤ (y35_0_1) ∧ (y35_0_1) ≤ (m35_2) ∧ (m35_2) ≤ 65536 from pz35_0) (show CTN (ub ((w35_2))) ((w144_12)) ((y35_0_1)) 256 from hct2))
        · refine Ew_of (pcₚ := 157) (fun _ => x_aload_n rfl l144_0) ?_
          refine v_g H (o := 0) (v := .ref (D35 12)) rfl rfl rfl rfl rfl (vrf ((mF_144 0 11 rfl).trans ((pf12).trans (congrArg (fun q : Nat => (q : Int)) (mD35 12 rfl).symm)))) ?_
          refine Ew_of (pcₚ := 161) (fun _ => x_aload_n rfl l144_0) ?_
          refine v_g H (o := 0) (v := .ref (D35 10)) rfl rfl rfl rfl rfl (vrf ((mF_144 0 9 rfl).trans ((pf10).trans (congrArg (fun q : Nat => (q : Int)) (mD35 10 rfl).symm)))) ?_
          refine v_g H (o := 10) (v := .ref (D35 11)) rfl rfl rfl rfl rfl (vrf (((hS_144 10 0 rfl)).trans (pf35_10_0))) ?_
          refine Ew_of (pcₚ := 169) (fun _ => x_iload rfl l144_4) ?_
          refine v_lB H (o := 11) rfl rfl rfl rfl (n := m35_2) ((congrArg (fun q : Nat => (q : Int)) (eN35 11)).trans em35_2) (show 0 ≤ x144_4 ∧ x144_4 < m35_2 from q_3995 b39 j144_1 pz35_0) (fun v40 ev40 (qv40 : HID _) => ?_)
          have ev40 : (w35_2) (x144_4) = v40 := (congrFun ((funext (hA_144 11 rfl)).trans ((funext (hA38 11 rfl)).trans ((eA35 11).trans ew35_2))) (x144_4)).symm.trans ev40
          have hbv := ev40
          refine Ew_of (pcₚ := 173) (fun _ => x_sipush (z := 255) rfl (by decide)) ?_
          refine v_and255 rfl ?_
          have hub : ub ((w35_2)) ((x144_4)) = (((v40 % 256)) : Int) := by unfold ub; (have qg0 := HIDe qv40; omega)
          refine Ew_of (pcₚ := 175) (fun _ => x_dup2 rfl rfl rfl) ?_
          refine v_lI H (o := 12) rfl rfl rfl rfl (n := n12) ((congrArg (fun q : Nat => (q : Int)) (mN35 12 rfl)).trans (en12)) (show 0 ≤ (v40 % 256) ∧ (v40 % 256) < n12 from q_3996 h13) (fun v41 ev41 (qv41 : HID _) => ?_)
          have ev41 : (w144_12) ((v40 % 256)) = v41 := (congrFun (ew144_12) ((v40 % 256))).symm.trans ev41
          have hcv := ev41
          have hcl := CTN_le hct (s := ((v40 % 256))) (by (have qg0 := HIDe qv40; omega)) (by (have qg0 := HIDe qv40; omega)) (by (have qg0 := HIDe qv40; omega))
          rw [hcv] at hcl
          refine Ew_of (pcₚ := 177) (fun _ => x_iconst rfl) ?_
          refine w_iadd rfl ?_
          refine v_sI H (o := 12) (z := (v41 + 1)) rfl rfl rfl rfl (n := n12) ((congrArg (fun q : Nat => (q : Int)) (mN35 12 rfl)).trans (en12)) (show 0 ≤ (v40 % 256) ∧ (v40 % 256) < n12 from q_3996 h13) (show inr ((v41 + 1)) by have qh0 := HIDe qv41; omega) (fun σ H Oₚ => ?_)
          have O := OUT_trans O Oₚ
          have cAu42 : SA oz_L1clsl_1 A (updA A_144 12 ((v40 % 256)) ((v41 + 1))) := SA_upd (cA_144) rfl
          have mAu42 := SAm_of cAu42 oz_L1cls_9
          refine Ew_of (pcₚ := 182) (fun _ => x_iinc (len := 3) rfl (l144_4)) ?_
          refine Ew_of (pcₚ := 144) (fun _ => x_goto rfl rfl) ?_
          have hcs : CTN (ub ((w35_2))) ((upd1 (w144_12) ((v40 % 256)) ((v41 + 1)))) (((x144_4 + 1))) 256 := CTN_s hct (by (have qg0 := HIDe qv40; have qg1 := HIDe qv41; omega)) rfl hub (by (have qg0 := HIDe qv40; have qg1 := HIDe qv41; omega))
          exact ih144 _ (msE hm144 q_31 (q_34 b39)) _ _ _ _ ((x144_4 + 1)) (rk_o (l144_0) rfl rfl) (rk_s) H O (hS_144) (SA_upd (hA_144) rfl)    (upd1 (w144_12) ((v40 % 256)) ((v41 + 1))) (congrArg (fun q => upd1 q ((v40 % 256)) ((v41 + 1))) (ew144_12)) (show inr ((x144_4 + 1)) from q_3997 b39 j144_1 pz35_0) (show (0) ≤ ((x144_4 + 1)) from q_29 j144_1) (show ((x144_4 + 1)) ≤ (0) ∨ ((x144_4 + 1)) ≤ ((y35_0_1)) from q_33 b39) (show CTN (ub ((w35_2))) ((upd1 (w144_12) ((v40 % 256)) ((v41 + 1)))) (((x144_4 + 1))) 256 from hcs) rfl
    · refine Ew_of (pcₚ := 51) (fun _ => x_aload_n rfl l38_0) ?_
      have hfp := FDI_part (i := (x38_4)) hfd (by omega) (by omega) (by omega)
      have hfj := hfd.1 ((x38_4)) (by omega) (by omega)
      refine v_g H (o := 0) (v := .ref (D_38 10)) rfl rfl rfl rfl rfl (vrf ((mF_38 0 9 rfl).trans ((pf10).trans (congrArg (fun q : Nat => (q : Int)) (mD_38 10 rfl).symm)))) ?_
      refine Ew_of (pcₚ := 55) (fun _ => x_aload_n rfl l38_0) ?_
      refine v_g H (o := 0) (v := .ref (D_38 1)) rfl rfl rfl rfl rfl (vrf ((mF_38 0 1 rfl).trans ((pf1).trans (congrArg (fun q : Nat => (q : Int)) (mD_38 1 rfl).symm)))) ?_
      refine v_g H (o := 1) (v := .ref (D_38 2)) rfl rfl rfl rfl rfl (vrf ((mF_38 1 0 rfl).trans ((pf2).trans (congrArg (fun q : Nat => (q : Int)) (mD_38 2 rfl).symm)))) ?_
      refine v_g H (o := 2) (v := .ref (D_38 3)) rfl rfl rfl rfl rfl (vrf ((mF_38 2 0 rfl).trans ((pf3).trans (congrArg (fun q : Nat => (q : Int)) (mD_38 3 rfl).symm)))) ?_
      refine Ew_of (pcₚ := 65) (fun _ => x_iload_n rfl l38_3) ?_
      refine Ew_of (pcₚ := 66) (fun _ => x_aload_n rfl l38_0) ?_
      refine v_g H (o := 0) (v := .ref (D_38 1)) rfl rfl rfl rfl rfl (vrf ((mF_38 0 1 rfl).trans ((pf1).trans (congrArg (fun q : Nat => (q : Int)) (mD_38 1 rfl).symm)))) ?_
      refine v_g H (o := 1) (v := .ref (D_38 6)) rfl rfl rfl rfl rfl (vrf (pf_38_1_1)) ?_
      refine Ew_of (pcₚ := 74) (fun _ => x_iload rfl l38_4) ?_
      refine v_lI H (o := 6) rfl rfl rfl rfl (n := m20_4) ((congrArg (fun q : Nat => (q : Int)) (hN_38 6 rfl)).trans ((congrArg (fun q : Nat => (q : Int)) (eN20 6)).trans em20_4)) (show 0 ≤ x38_4 ∧ x38_4 < m20_4 from q_3998 b34 hlnq j38_2 pz20_1) (fun v43 ev43 (qv43 : HID _) => ?_)
      have ev43 : (w20_4) (x38_4) = v43 := (congrFun ((funext (hA_38 6 rfl)).trans (((show A28 6 = A20 6 from (eA28 6))).trans ((eA20 6).trans ew20_4))) (x38_4)).symm.trans ev43
      have hse := ev43
      refine v_inv H (o := 10) rfl rfl rfl rfl rfl rfl (by rfl) (C161_Br (D := puc 2885130 D_38) (N := puc 2885130 N_38) (HW_subc H oz_L1cls_6 oz_L1cls_14) (pm38_11) (n3) ((congrArg (fun q : Nat => (q : Int)) (mN_38 3 rfl)).trans (en3)) (m38_11) (em38_11) (y38_10_1) ((ey38_10_1)) (A_38 11) (rfl) (show inr (x38_3) from j38_0) (show inr (v43) from (HIDe qv43)) (show 0 ≤ (y38_10_1) ∧ (y38_10_1) ≤ (m38_11) ∧ (m38_11) ≤ 65536 from j38_4) (show (v43) < 0 ∨ 0 ≤ (x38_3) ∧ (x38_3) + (v43) ≤ (n3) by have qh0 := HIDe qv43; have qh1 := HIDe r6; omega) (fun σ44 D44ₚ N44ₚ F44ₚ A44ₚ c44 s44 Hₚ Oₚ hD44 hN44 hS44 hA44 (pm44_2 : HID _) m44_2 (em44_2 : HID _) y44_0_1 (ey44_0_1 : HID _) w44_2 ew44_2 pz44_0 pz44_1 pz44_2 => ⟨rfl, ?_⟩))
      refine v_backMc (c := c_38) (s := s_38) H oz_L1cls_6 oz_L1cls_14 Hₚ Oₚ hD44 oz_L1cls_7 (fun D44 N44 F44 A44 H Oₚ eD44 eN44 eF44 eA44 => ?_)
      have O := OUT_trans O Oₚ
      -- Row.addPart
      have cF44 : SF oz_L1clsl_0 F F44 := SF_trans (cF_38) (SF_gluc (ι := oz_L1clsl_6) oz_L1cls_14 hS44 eF44 (by decide +kernel)) (any_sub (lₚ := [(10, 0), (10, 1), (10, 2)]) (by decide +kernel))
      have mF44 := SFm_of cF44 oz_L1cls_8
      have cA44 : SA oz_L1clsl_1 A A44 := SA_trans (cA_38) (SA_gluc (ι := oz_L1clsl_6) oz_L1cls_14 hA44 eA44 (by decide +kernel)) (any_subA (lₚ := [11]) (by decide +kernel))
      have mA44 := SAm_of cA44 oz_L1cls_9
      have cD44 : SD oz_L1clsl_2 D D44 := SD_trans (cD_38) (SD_gluc (ι := oz_L1clsl_6) oz_L1cls_14 hD44 eD44 (by decide +kernel)) (any_subA (lₚ := [11]) (by decide +kernel))
      have mD44 := SDm_of cD44 oz_L1cls_10
      have cN44 : SD oz_L1clsl_2 N N44 := SD_trans (cN_38) (SD_gluc (ι := oz_L1clsl_6) oz_L1cls_14 hN44 eN44 (by decide +kernel)) (any_subA (lₚ := [11]) (by decide +kernel))
      have mN44 := SDm_of cN44 oz_L1cls_10
      have pf44_1_1 : HID (F44 1 1 = (D44 6 : Int)) := ((show F44 1 1 = F_38 1 1 from (eF44 1 1))).trans ((pf_38_1_1).trans (congrArg (fun q : Nat => (q : Int)) ((show D44 6 = D_38 6 from (eD44 6))).symm))
      have pf44_1_2 : HID (F44 1 2 = (D44 7 : Int)) := ((show F44 1 2 = F_38 1 2 from (eF44 1 2))).trans ((pf_38_1_2).trans (congrArg (fun q : Nat => (q : Int)) ((show D44 7 = D_38 7 from (eD44 7))).symm))
      have pf44_1_3 : HID (F44 1 3 = (D44 8 : Int)) := ((show F44 1 3 = F_38 1 3 from (eF44 1 3))).trans ((pf_38_1_3).trans (congrArg (fun q : Nat => (q : Int)) ((show D44 8 = D_38 8 from (eD44 8))).symm))
      have pf44_1_8 : HID (F44 1 8 = (D44 4 : Int)) := ((show F44 1 8 = F_38 1 8 from (eF44 1 8))).trans ((pf_38_1_8).trans (congrArg (fun q : Nat => (q : Int)) ((show D44 4 = D_38 4 from (eD44 4))).symm))
      have pf44_10_0 : HID (F44 10 0 = (D44 11 : Int)) := (eF44 10 0).trans (pm44_2.trans (congrArg (fun q : Nat => (q : Int)) (eD44 11).symm))
      refine Ew_of (pcₚ := 79) (fun _ => x_iload_n rfl l38_3) ?_
      refine Ew_of (pcₚ := 80) (fun _ => x_aload_n rfl l38_0) ?_
      refine Ew_stk (congrArg (fun qz : Nat => ([.ref qz, I (x38_3)] : List Value)) (show D44 0 = D_38 0 from ((show D44 0 = D_38 0 from (eD44 0)))).symm) ?_
      refine v_g H (o := 0) (v := .ref (D44 1)) rfl rfl rfl rfl rfl (vrf ((mF44 0 1 rfl).trans ((pf1).trans (congrArg (fun q : Nat => (q : Int)) (mD44 1 rfl).symm)))) ?_
      refine v_g H (o := 1) (v := .ref (D44 6)) rfl rfl rfl rfl rfl (vrf (pf44_1_1)) ?_
      refine Ew_of (pcₚ := 88) (fun _ => x_iload rfl l38_4) ?_
      refine v_lI H (o := 6) rfl rfl rfl rfl (n := m20_4) ((congrArg (fun q : Nat => (q : Int)) (show N44 6 = N_38 6 from (eN44 6))).trans ((congrArg (fun q : Nat => (q : Int)) (hN_38 6 rfl)).trans ((congrArg (fun q : Nat => (q : Int)) (eN20 6)).trans em20_4))) (show 0 ≤ x38_4 ∧ x38_4 < m20_4 from q_3998 b34 hlnq j38_2 pz20_1) (fun v47 ev47 (qv47 : HID _) => ?_)
      have ev47 : (w20_4) (x38_4) = v47 := (congrFun (((show A44 6 = A_38 6 from (eA44 6))).trans ((funext (hA_38 6 rfl)).trans (((show A28 6 = A20 6 from (eA28 6))).trans ((eA20 6).trans ew20_4)))) (x38_4)).symm.trans ev47
      have hsf := ev47
      refine Ew_of (pcₚ := 90) (fun _ => x_aload_n rfl l38_0) ?_
      refine Ew_stk (congrArg (fun qz : Nat => ([.ref qz, I (v47), I (x38_3)] : List Value)) (show D44 0 = D_38 0 from ((show D44 0 = D_38 0 from (eD44 0)))).symm) ?_
      refine v_g H (o := 0) (v := .ref (D44 1)) rfl rfl rfl rfl rfl (vrf ((mF44 0 1 rfl).trans ((pf1).trans (congrArg (fun q : Nat => (q : Int)) (mD44 1 rfl).symm)))) ?_
      refine v_g H (o := 1) (v := .ref (D44 7)) rfl rfl rfl rfl rfl (vrf (pf44_1_2)) ?_
      refine Ew_of (pcₚ := 98) (fun _ => x_iload rfl l38_4) ?_
      refine v_lI H (o := 7) rfl rfl rfl rfl (n := m20_5) ((congrArg (fun q : Nat => (q : Int)) (show N44 7 = N_38 7 from (eN44 7))).trans ((congrArg (fun q : Nat => (q : Int)) (hN_38 7 rfl)).trans ((congrArg (fun q : Nat => (q : Int)) (eN20 7)).trans em20_5))) (show 0 ≤ x38_4 ∧ x38_4 < m20_5 from q_2779 b34 j38_2 pz20_1) (fun v48 ev48 (qv48 : HID _) => ?_)
      have ev48 : (w20_5) (x38_4) = v48 := (congrFun (((show A44 7 = A_38 7 from (eA44 7))).trans ((funext (hA_38 7 rfl)).trans (((show A28 7 = A20 7 from (eA28 7))).trans ((eA20 7).trans ew20_5)))) (x38_4)).symm.trans ev48
      have hsg := ev48
      refine w_iadd rfl ?_
      refine w_iadd rfl ?_
      refine Ew_of (pcₚ := 102) (fun _ => x_istore_n rfl) ?_
      refine Ew_of (pcₚ := 105) (fun _ => x_iinc (len := 3) rfl (rk_o (l38_4) rfl rfl)) ?_
      refine Ew_of (pcₚ := 38) (fun _ => x_goto rfl rfl) ?_
      exact ih38 _ (msE hm38 q_31 (q_34 b34)) _ _ _ _ _ _ _ _ ((x38_3 + (v47 + v48))) ((x38_4 + 1)) ((rk_o (rk_o (l38_0) rfl rfl) rfl rfl).trans (congrArg (fun q : Nat => some (Value.ref q)) (((show D44 0 = D_38 0 from (eD44 0)))).symm)) (rk_o (rk_s) rfl rfl) (rk_s) H O (SD_trans (hD_38) (SD_gluc (ι := oz_L1clsl_6) oz_L1cls_14 hD44 eD44 (by decide +kernel)) (any_subA (lₚ := [11]) (by decide +kernel))) (SD_trans (hN_38) (SD_gluc (ι := oz_L1clsl_6) oz_L1cls_14 hN44 eN44 (by decide +kernel)) (any_subA (lₚ := [11]) (by decide +kernel))) (SF_trans (hS_38) (SF_gluc (ι := oz_L1clsl_6) oz_L1cls_14 hS44 eF44 (by decide +kernel)) (any_sub (lₚ := [(10, 0), (10, 1), (10, 2)]) (by decide +kernel))) (SA_trans (hA_38) (SA_gluc (ι := oz_L1clsl_6) oz_L1cls_14 hA44 eA44 (by decide +kernel)) (any_subA (lₚ := [11]) (by decide +kernel))) (pf44_10_0) (m44_2) ((congrArg (fun q : Nat => (q : Int)) (eN44 11)).trans em44_2) (y44_0_1) (((eF44 10 1).trans ey44_0_1))  (show inr ((x38_3 + (v47 + v48))) by have qh0 := HIDe qv47; have qh1 := HIDe qv48; omega) (show inr ((x38_4 + 1)) from q_3999 b34 hlnq j38_2 pz20_1) (show (0) ≤ ((x38_4 + 1)) from q_29 j38_2) (show ((x38_4 + 1)) ≤ (0) ∨ ((x38_4 + 1)) ≤ ((y20_0_4)) from q_33 b34) (show 0 ≤ (y44_0_1) ∧ (y44_0_1) ≤ (m44_2) ∧ (m44_2) ≤ 65536 from pz44_0) (show ((x38_3 + (v47 + v48))) = (a1) + su (fun j => ((w20_4)) j + ((w20_5)) j) (((x38_4 + 1)) : Int).toNat by have qh0 := HIDe qv47; have qh1 := HIDe qv48; omega) rfl
