abbrev V154_Row_c20 : vV := [(0, 6, [(4, 0), (4, 0), (4, 0), (4, 0), (4, 0), (4, 0), (4, 0), (4, 0), (4, 0), (4, 0), (4, 0), (4, 0), (4, 0), (4, 0), (4, 0), (0, 0), (0, 0), (4, 0), (4, 0)]), (0, 7, [(4, 0), (0, 0), (1, 0), (0, 0), (0, 0)]), (1, 1, []), (1, 7, []), (0, 5, [(4, 0), (4, 0), (4, 0), (4, 0), (0, 0), (0, 0), (0, 0), (4, 0), (4, 0), (0, 0), (0, 0), (0, 0), (0, 0), (0, 0), (0, 0), (0, 0), (0, 0), (0, 0), (0, 0)]), (1, 1, []), (1, 5, []), (0, 8, [(0, 0), (0, 0), (4, 0), (4, 0), (4, 0), (4, 0), (4, 0), (4, 0), (4, 0), (4, 0), (4, 0), (0, 0), (0, 0)]), (1, 1, []), (1, 1, []), (1, 1, []), (1, 1, []), (1, 1, []), (1, 1, []), (1, 1, []), (1, 1, []), (1, 0, []), (0, 7, [(4, 0), (0, 0), (1, 0), (0, 0), (0, 0)]), (1, 0, [])]
theorem len_V154_Row_c20_oz_M1cls : (V154_Row_c20).length = 19 := by decide +kernel
theorem oz_M1cls_1 : vsub V154_Row_c20 V146_c10 [0, 2, 3, 4, 5] = true := by decide +kernel
theorem oz_M1cls_2 : vsub V154_Row_c20 V149_Share_c20 [0, 7, 2, 3, 4, 5, 8, 9, 10, 11, 12, 13, 14, 15, 17, 18] = true := by decide +kernel
theorem oz_M1cls_3 : vmov V154_Row_c20 [0, 7, 2, 3, 4, 5, 8, 9, 10, 11, 12, 13, 14, 15, 17, 18] [15] = true := by decide +kernel
theorem oz_M1cls_4 : vsub V154_Row_c20 V148_Row_Share [0, 1, 7, 4, 2, 8, 16] = true := by decide +kernel
theorem oz_M1cls_5 : vmov V154_Row_c20 [0, 1, 7, 4, 2, 8, 16] [6] = true := by decide +kernel
def oz_M1clsl_0 : List (Nat × Nat) := [(0, 15), (1, 0), (1, 1), (1, 2), (1, 3), (1, 4), (7, 0), (17, 0), (17, 1), (17, 2), (17, 3), (17, 4)]
theorem oz_M1cls_6 : (oz_M1clsl_0).all (fun p => !tbz 1785168993674740324699221679849797601599495816542200520014379811212377152010446386942595344246023919077035284490020885851904126990450811753743001364339778254471725056 (Nat.add (Nat.mul 32 p.1) p.2)) = true := by decide +kernel
def oz_M1clsl_1 : List Nat := [2, 8, 9, 10, 11, 12, 13, 14, 15, 16, 18]
theorem oz_M1cls_7 : (oz_M1clsl_1).all (fun p => !tbz 392964 p) = true := by decide +kernel
def oz_M1clsl_2 : List Nat := [16, 18]
theorem oz_M1cls_8 : (oz_M1clsl_2).all (fun p => !tbz 327680 p) = true := by decide +kernel
def oz_M1clsl_3 : List Nat := [0, 2, 3, 4, 5]
theorem oz_M1cls_9 : okc oz_M1clsl_3 344135042048 = true := by decide +kernel
def oz_M1clsl_4 : List Nat := [0, 7, 2, 3, 4, 5, 8, 9, 10, 11, 12, 13, 14, 15, 17, 18]
theorem oz_M1cls_10 : okc oz_M1clsl_4 785459270299262667050200073870083854175744 = true := by decide +kernel
def oz_M1clsl_5 : List Nat := [0, 1, 7, 4, 2, 8, 16]
theorem oz_M1cls_11 : okc oz_M1clsl_5 288511989106082304 = true := by decide +kernel
set_option maxHeartbeats 16000000 in
/-- Packer.packOwnShare: this, #1, this.symbolCounts, this.symbols, this.finder, this.symbols.0, this.ownTables, this.ownTables.0, this.ownTables.0.points, this.ownTables.0.masses, this.ownTables.0.mostBits, this.ownTables.0.starts, this.ownTables.0.used, this.ownTables.0.symbolAt, this.ownTables.0.numberAt, this.ownTables.0.placeOf, #1.bytes, this.told, this.told.bytes -/
theorem C154_Row_c20 {σE : rS} {D N : Nat → Nat} {F : hF} {A : hA} {d c s : Nat} {Q : wQ} (H : HW V154_Row_c20 σE D N F A) (HT : STC σE)  (pf2 : HID (F 0 12 = (D 2 : Int))) (pf3 : HID (F 0 13 = (D 3 : Int))) (pf4 : HID (F 0 1 = (D 4 : Int))) (pf5 : HID (A 3 0 = (D 5 : Int))) (pf6 : HID (F 0 4 = (D 6 : Int))) (pf7 : HID (A 6 0 = (D 7 : Int))) (pf8 : HID (F 7 2 = (D 8 : Int))) (pf9 : HID (F 7 3 = (D 9 : Int))) (pf10 : HID (F 7 4 = (D 10 : Int))) (pf11 : HID (F 7 5 = (D 11 : Int))) (pf12 : HID (F 7 6 = (D 12 : Int))) (pf13 : HID (F 7 7 = (D 13 : Int))) (pf14 : HID (F 7 8 = (D 14 : Int))) (pf15 : HID (F 7 9 = (D 15 : Int))) (pf16 : HID (F 1 0 = (D 16 : Int))) (pf17 : HID (F 0 10 = (D 17 : Int))) (pf18 : HID (F 17 0 = (D 18 : Int))) (n2 : Int) (en2 : HID ((N 2 : Int) = n2)) (n3 : Int) (en3 : HID ((N 3 : Int) = n3)) (n5 : Int) (en5 : HID ((N 5 : Int) = n5)) (n6 : Int) (en6 : HID ((N 6 : Int) = n6)) (n8 : Int) (en8 : HID ((N 8 : Int) = n8)) (n9 : Int) (en9 : HID ((N 9 : Int) = n9)) (n10 : Int) (en10 : HID ((N 10 : Int) = n10)) (n11 : Int) (en11 : HID ((N 11 : Int) = n11)) (n12 : Int) (en12 : HID ((N 12 : Int) = n12)) (n13 : Int) (en13 : HID ((N 13 : Int) = n13)) (n14 : Int) (en14 : HID ((N 14 : Int) = n14)) (n15 : Int) (en15 : HID ((N 15 : Int) = n15)) (n16 : Int) (en16 : HID ((N 16 : Int) = n16)) (n18 : Int) (en18 : HID ((N 18 : Int) = n18)) (u1_1 : Int) (eu1_1 : HID (F 1 1 = u1_1)) (u1_4 : Int) (eu1_4 : HID (F 1 4 = u1_4)) (u4_4 : Int) (eu4_4 : HID (F 4 4 = u4_4)) (u7_1 : Int) (eu7_1 : HID (F 7 1 = u7_1)) (u17_1 : Int) (eu17_1 : HID (F 17 1 = u17_1)) (w5 : Int → Int) (ew5 : A 5 = w5) (h0 : inr (0)) (h1 : (n2) = 53 ∧ (n3) = 3) (h2 : 1 ≤ (u4_4) ∧ (u4_4) ≤ (n5) ∧ (n5) ≤ 65536) (h3 : RNG ((w5)) ((u4_4)) 36) (h4 : SHZD ((n8)) ((n9)) ((n10)) ((n11)) ((n12)) ((n13)) ((n14)) ((n15)) ((u7_1)) 36 512) (h5 : 0 ≤ (u1_1) ∧ (u1_1) ≤ (n16) ∧ (n16) ≤ 65536) (h6 : 0 ≤ (u1_4) ∧ (u1_4) ≤ 7) (h7 : 0 ≤ (u17_1) ∧ (u17_1) ≤ (n18) ∧ (n18) ≤ 65536) (h8 : (n6) = 3) (k : ∀ (σ : rS) (Dₚ Nₚ : Nat → Nat) (Fₚ : hF) (Aₚ : hA) (cₚ sₚ : Nat), HW V154_Row_c20 σ Dₚ Nₚ Fₚ Aₚ → OUT (V154_Row_c20).length D N σE c s Dₚ Nₚ σ cₚ sₚ → SD [16, 18] D Dₚ → SD [16, 18] N Nₚ → SF [(0, 15), (1, 0), (1, 1), (1, 2), (1, 3), (1, 4), (7, 0), (17, 0), (17, 1), (17, 2), (17, 3), (17, 4)] F Fₚ → SA [2, 8, 9, 10, 11, 12, 13, 14, 15, 16, 18] A Aₚ → Fₚ 1 0 = (Dₚ 16 : Int) → Fₚ 17 0 = (Dₚ 18 : Int) → ∀ m16 : Int, (Nₚ 16 : Int) = m16 → ∀ m18 : Int, (Nₚ 18 : Int) = m18 → ∀ y1_1 : Int, Fₚ 1 1 = y1_1 → ∀ y1_4 : Int, Fₚ 1 4 = y1_4 → ∀ y17_1 : Int, Fₚ 17 1 = y17_1 → (0 ≤ (y1_1) ∧ (y1_1) ≤ (m16) ∧ (m16) ≤ 65536) → (0 ≤ (y1_4) ∧ (y1_4) ≤ 7) → (0 ≤ (y17_1) ∧ (y17_1) ≤ (m18) ∧ (m18) ≤ 65536) → Q none σ cₚ sₚ) : Ew 154 (d + 4) 0 (rargs 0 [.ref (D 0), .ref (D 1), I 0]) [] σE c s Q := by
  have O := OUT_refl (n := (V154_Row_c20).length) (D := D) (N := N) (σ := σE) (c := c) (s := s)
  have HE := H
  have r3 : HID ((-2147483648 : Int) ≤ u4_4 ∧ u4_4 ≤ 2147483647) := krg_e (show (-2147483648 : Int) ≤ F 4 4 ∧ F 4 4 ≤ 2147483647 from H.krg 4 4 (ltn len_V154_Row_c20_oz_M1cls rfl)) (show F 4 4 = u4_4 from (eu4_4))
  have r4 : HID ((-2147483648 : Int) ≤ u7_1 ∧ u7_1 ≤ 2147483647) := krg_e (show (-2147483648 : Int) ≤ F 7 1 ∧ F 7 1 ≤ 2147483647 from H.krg 7 1 (ltn len_V154_Row_c20_oz_M1cls rfl)) (show F 7 1 = u7_1 from (eu7_1))
  have r6 : HID ((0 : Int) ≤ n2 ∧ n2 ≤ 1000000) := nrng (H.nle 2 (ltn len_V154_Row_c20_oz_M1cls rfl)) (show (N 2 : Int) = n2 from en2)
  have r9 : HID ((0 : Int) ≤ n6 ∧ n6 ≤ 1000000) := nrng (H.nle 6 (ltn len_V154_Row_c20_oz_M1cls rfl)) (show (N 6 : Int) = n6 from en6)
  have r10 : HID ((0 : Int) ≤ n8 ∧ n8 ≤ 1000000) := nrng (H.nle 8 (ltn len_V154_Row_c20_oz_M1cls rfl)) (show (N 8 : Int) = n8 from en8)
  have hrg : RNG ((w5)) ((u4_4)) 36 := h3
  have hszq : SHZD ((n8)) ((n9)) ((n10)) ((n11)) ((n12)) ((n13)) ((n14)) ((n15)) ((u7_1)) 36 512 := h4
  unfold SHZD at hszq
  have hsF : (u7_1) = 36 ∧ (n8) = (u7_1) := by (have qg0 := HIDe r10; have qg1 := HIDe r4; omega)
  clear hszq
  refine Ew_of (pcₚ := 1) (fun _ => x_aload_n rfl rfl) ?_
  refine Ew_of (pcₚ := 2) (fun _ => x_iload_n rfl rfl) ?_
  refine v_inv H (o := 0) rfl rfl rfl rfl rfl rfl (by rfl) (C146_c10 (D := puc 344135042048 D) (N := puc 344135042048 N) (HW_subc H oz_M1cls_1 oz_M1cls_9) (pf2) (pf3) (pf4) (pf5) (n2) (en2) (n3) (en3) (n5) (en5) (u4_4) ((eu4_4)) (A 2) (rfl) (w5) (ew5) (show inr (0) from h0) (show (n2) = 53 ∧ (n3) = 3 from h1) (show 0 ≤ (u4_4) ∧ (u4_4) ≤ (n5) ∧ (n5) ≤ 65536 from q_4118 h2) (show RNG ((w5)) ((u4_4)) 36 from hrg) (fun z20 σ20 F20ₚ A20ₚ Hₚ Oₚ hS20 hA20 w20_1 ew20_1 pz20_0 pz20_1 pz20_2 pz20_3 => ⟨rfl, ?_⟩))
  refine v_backc (c := c) (s := s) H oz_M1cls_1 oz_M1cls_9 Hₚ Oₚ (fun F20 A20 H Oₚ eF20 eA20 => ?_)
  have O := OUT_trans O Oₚ
  -- Packer.countSymbols
  have cF20 : SF oz_M1clsl_0 F F20 := SF_trans (SF_refl) (SF_gluc (ι := oz_M1clsl_3) oz_M1cls_9 hS20 eF20 (by decide +kernel)) (any_sub (lₚ := []) (by decide +kernel))
  have mF20 := SFm_of cF20 oz_M1cls_6
  have cA20 : SA oz_M1clsl_1 A A20 := SA_trans (SA_refl) (SA_gluc (ι := oz_M1clsl_3) oz_M1cls_9 hA20 eA20 (by decide +kernel)) (any_subA (lₚ := [2]) (by decide +kernel))
  have mA20 := SAm_of cA20 oz_M1cls_7
  have hct : CTN ((w5)) ((w20_1)) ((u4_4)) 53 := pz20_1
  have hps : ((z20) : Int) = su (fun i => pos1 (((w20_1)) i)) 53 := pz20_2
  have hpr := pz20_3
  refine Ew_of (pcₚ := 6) (fun _ => x_istore_n rfl) ?_
  refine Ew_of (pcₚ := 7) (fun _ => x_aload_n rfl (rk_o (rfl) rfl rfl)) ?_
  refine Ew_of (pcₚ := 8) (fun _ => x_aload_n rfl (rk_o (rfl) rfl rfl)) ?_
  refine Ew_of (pcₚ := 9) (fun _ => x_aload_n rfl (rk_o (rfl) rfl rfl)) ?_
  refine v_g H (o := 0) (v := .ref (D 6)) rfl rfl rfl rfl rfl (vrf ((mF20 0 4 rfl).trans (pf6))) ?_
  refine Ew_of (pcₚ := 13) (fun _ => x_iload_n rfl (rk_o (rfl) rfl rfl)) ?_
  refine v_lR H (o := 6) rfl rfl rfl rfl rfl (n := n6) (en6) (show 0 ≤ 0 ∧ 0 < n6 from q_4133 (HIDe r9) h8) (z := ((D 7 : Nat) : Int)) (v := .ref (D 7)) ((mA20 6 rfl 0).trans (pf7)) (vrf rfl) ?_
  refine Ew_of (pcₚ := 15) (fun _ => x_aload_n rfl (rk_o (rfl) rfl rfl)) ?_
  refine Ew_of (pcₚ := 16) (fun _ => x_aload_n rfl (rk_o (rfl) rfl rfl)) ?_
  refine v_g H (o := 0) (v := .ref (D 6)) rfl rfl rfl rfl rfl (vrf ((mF20 0 4 rfl).trans (pf6))) ?_
  refine Ew_of (pcₚ := 20) (fun _ => x_iload_n rfl (rk_o (rfl) rfl rfl)) ?_
  refine v_lR H (o := 6) rfl rfl rfl rfl rfl (n := n6) (en6) (show 0 ≤ 0 ∧ 0 < n6 from q_4133 (HIDe r9) h8) (z := ((D 7 : Nat) : Int)) (v := .ref (D 7)) ((mA20 6 rfl 0).trans (pf7)) (vrf rfl) ?_
  refine Ew_of (pcₚ := 22) (fun _ => x_iload_n rfl (rk_o (rfl) rfl rfl)) ?_
  refine Ew_of (pcₚ := 23) (fun _ => x_iload_n rfl rk_s) ?_
  refine Ew_of (pcₚ := 26) (fun _ => x_ldc_w (z := 2147483647) rfl (by decide)) ?_
  refine v_inv H (o := 0) rfl rfl rfl rfl rfl rfl (by rfl) (C149_Share_c20 (D := puc 785459270299262667050200073870083854175744 D) (N := puc 785459270299262667050200073870083854175744 N) (HW_subc H oz_M1cls_2 oz_M1cls_10) (STC_out HT HE O) ((mF20 0 12 rfl).trans (pf2)) ((mF20 0 13 rfl).trans (pf3)) ((mF20 0 1 rfl).trans (pf4)) ((mA20 3 rfl 0).trans (pf5)) ((mF20 7 2 rfl).trans (pf8)) ((mF20 7 3 rfl).trans (pf9)) ((mF20 7 4 rfl).trans (pf10)) ((mF20 7 5 rfl).trans (pf11)) ((mF20 7 6 rfl).trans (pf12)) ((mF20 7 7 rfl).trans (pf13)) ((mF20 7 8 rfl).trans (pf14)) ((mF20 7 9 rfl).trans (pf15)) ((mF20 0 10 rfl).trans (pf17)) ((((show F20 17 0 = F 17 0 from (eF20 17 0)))).trans (pf18)) (n2) (en2) (n3) (en3) (n5) (en5) (n8) (en8) (n9) (en9) (n10) (en10) (n11) (en11) (n12) (en12) (n13) (en13) (n14) (en14) (n15) (en15) (n18) (en18) (u7_1) (((mF20 7 1 rfl).trans (eu7_1))) (u4_4) (((mF20 4 4 rfl).trans (eu4_4))) (u17_1) ((((show F20 17 1 = F 17 1 from (eF20 17 1))).trans (eu17_1))) (w20_1) ((eA20 2).trans ew20_1) (w5) ((funext (mA20 5 rfl)).trans (ew5)) (show inr (0) from h0) (show inr (z20) from pz20_0) (show inr (2147483647) from q_2970) (show (n2) = 53 ∧ (n3) = 3 from h1) (show 1 ≤ (u4_4) ∧ (u4_4) ≤ (n5) ∧ (n5) ≤ 65536 from h2) (show RNG ((w5)) ((u4_4)) 36 from hrg) (show CTN ((w5)) ((w20_1)) ((u4_4)) 53 from hct) (show (z20) = su (fun i => pos1 (((w20_1)) i)) 53 by assumption) (show 0 ≤ (z20) ∧ (z20) ≤ 53 from pz20_3) (show SHZD ((n8)) ((n9)) ((n10)) ((n11)) ((n12)) ((n13)) ((n14)) ((n15)) ((u7_1)) 36 512 from h4) (show 0 ≤ (u17_1) ∧ (u17_1) ≤ (n18) ∧ (n18) ≤ 65536 from h7) (fun z21 σ21 D21ₚ N21ₚ F21ₚ A21ₚ c21 s21 Hₚ Oₚ hD21 hN21 hS21 hA21 (pm21_15 : HID _) m21_15 (em21_15 : HID _) y21_14_1 (ey21_14_1 : HID _) pz21_0 pz21_1 pz21_2 pz21_3 => ⟨rfl, ?_⟩))
  refine v_backMc (c := c) (s := s) H oz_M1cls_2 oz_M1cls_10 Hₚ Oₚ hD21 oz_M1cls_3 (fun D21 N21 F21 A21 H Oₚ eD21 eN21 eF21 eA21 => ?_)
  have O := OUT_trans O Oₚ
  -- Packer.bestOrder
  have cF21 : SF oz_M1clsl_0 F F21 := SF_trans (cF20) (SF_gluc (ι := oz_M1clsl_4) oz_M1cls_10 hS21 eF21 (by decide +kernel)) (any_sub (lₚ := [(0, 15), (7, 0), (17, 0), (17, 1), (17, 2), (17, 3), (17, 4)]) (by decide +kernel))
  have mF21 := SFm_of cF21 oz_M1cls_6
  have cA21 : SA oz_M1clsl_1 A A21 := SA_trans (cA20) (SA_gluc (ι := oz_M1clsl_4) oz_M1cls_10 hA21 eA21 (by decide +kernel)) (any_subA (lₚ := [8, 9, 10, 11, 12, 13, 14, 15, 18]) (by decide +kernel))
  have mA21 := SAm_of cA21 oz_M1cls_7
  have cD21 : SD oz_M1clsl_2 D D21 := SD_trans (SD_refl) (SD_gluc (ι := oz_M1clsl_4) oz_M1cls_10 hD21 eD21 (by decide +kernel)) (any_subA (lₚ := [18]) (by decide +kernel))
  have mD21 := SDm_of cD21 oz_M1cls_8
  have cN21 : SD oz_M1clsl_2 N N21 := SD_trans (SD_refl) (SD_gluc (ι := oz_M1clsl_4) oz_M1cls_10 hN21 eN21 (by decide +kernel)) (any_subA (lₚ := [18]) (by decide +kernel))
  have mN21 := SDm_of cN21 oz_M1cls_8
  have pf21_1_0 : HID (F21 1 0 = (D21 16 : Int)) := ((show F21 1 0 = F20 1 0 from (eF21 1 0))).trans (((((show F20 1 0 = F 1 0 from (eF20 1 0)))).trans (pf16)).trans (congrArg (fun q : Nat => (q : Int)) ((show D21 16 = D 16 from (eD21 16))).symm))
  have pf21_17_0 : HID (F21 17 0 = (D21 18 : Int)) := (eF21 17 0).trans (pm21_15.trans (congrArg (fun q : Nat => (q : Int)) (eD21 18).symm))
  have hcn : CNT ((w20_1)) ((u7_1)) ((u4_4)) ((z21)) := CTN_CNT hct (by (have qg0 := HIDe r3; have qg1 := HIDe r4; omega)) (by rw [hsF.1]; exact hrg) (by (have qg0 := HIDe r3; have qg1 := HIDe r4; omega)) (by (have qg0 := HIDe r3; have qg1 := HIDe r4; omega)) (by (have qg0 := HIDe r3; have qg1 := HIDe r4; omega)) hps (by (have qg0 := HIDe r3; have qg1 := HIDe r4; omega))
  try clear pz21_1
  try clear pz21_2
  refine Ew_stk (show ([I (z21), .ref (D 7), .ref (D 1), .ref (D 0)] : List Value) = [I (z21), .ref (D21 7), .ref (D21 1), .ref (D21 0)] by rw [show D21 0 = D 0 from mD21 0 rfl, show D21 1 = D 1 from mD21 1 rfl, show D21 7 = D 7 from mD21 7 rfl]) ?_
  refine v_inv H (o := 0) rfl rfl rfl rfl rfl rfl (by rfl) (C148_Row_Share (D := puc 288511989106082304 D21) (N := puc 288511989106082304 N21) (HW_subc H oz_M1cls_4 oz_M1cls_11) ((mF21 0 1 rfl).trans ((pf4).trans (congrArg (fun q : Nat => (q : Int)) (mD21 4 rfl).symm))) ((mF21 0 12 rfl).trans ((pf2).trans (congrArg (fun q : Nat => (q : Int)) (mD21 2 rfl).symm))) ((mF21 7 2 rfl).trans ((pf8).trans (congrArg (fun q : Nat => (q : Int)) (mD21 8 rfl).symm))) (pf21_1_0) (n2) ((congrArg (fun q : Nat => (q : Int)) (mN21 2 rfl)).trans (en2)) (n8) ((congrArg (fun q : Nat => (q : Int)) (mN21 8 rfl)).trans (en8)) (n16) ((congrArg (fun q : Nat => (q : Int)) (show N21 16 = N 16 from (eN21 16))).trans (en16)) (u1_1) (((((show F21 1 1 = F20 1 1 from (eF21 1 1))).trans ((show F20 1 1 = F 1 1 from (eF20 1 1)))).trans (eu1_1))) (u1_4) (((((show F21 1 4 = F20 1 4 from (eF21 1 4))).trans ((show F20 1 4 = F 1 4 from (eF20 1 4)))).trans (eu1_4))) (F21 7 0) (rfl) (u7_1) (((mF21 7 1 rfl).trans (eu7_1))) (u4_4) (((mF21 4 4 rfl).trans (eu4_4))) (w20_1) (((show A21 2 = A20 2 from (eA21 2).trans (funext (hA21 2 rfl)))).trans ((eA20 2).trans ew20_1)) (A21 8) (rfl) (show inr (z21) from pz21_0) (show CNT ((w20_1)) ((u7_1)) ((u4_4)) (z21) from hcn) (show (u7_1) ≤ (n2) ∧ (n8) = (u7_1) from q_4134 (HIDe r6) h1 hsF) (show 0 ≤ (u1_1) ∧ (u1_1) ≤ (n16) ∧ (n16) ≤ 65536 from h5) (show 0 ≤ (u1_4) ∧ (u1_4) ≤ 7 from h6) (fun σ25 D25ₚ N25ₚ F25ₚ A25ₚ c25 s25 Hₚ Oₚ hD25 hN25 hS25 hA25 (pm25_6 : HID _) m25_6 (em25_6 : HID _) y25_1_1 (ey25_1_1 : HID _) y25_1_4 (ey25_1_4 : HID _) y25_2_0 (ey25_2_0 : HID _) w25_5 ew25_5 pz25_0 pz25_1 pz25_2 pz25_3 pz25_4 pz25_5 => ⟨rfl, ?_⟩))
  refine v_backMc (c := (c + c21)) (s := (s + s21)) H oz_M1cls_4 oz_M1cls_11 Hₚ Oₚ hD25 oz_M1cls_5 (fun D25 N25 F25 A25 H Oₚ eD25 eN25 eF25 eA25 => ?_)
  have O := OUT_trans O Oₚ
  -- Packer.packShare
  have cF25 : SF oz_M1clsl_0 F F25 := SF_trans (cF21) (SF_gluc (ι := oz_M1clsl_5) oz_M1cls_11 hS25 eF25 (by decide +kernel)) (any_sub (lₚ := [(1, 0), (1, 1), (1, 2), (1, 3), (1, 4), (7, 0)]) (by decide +kernel))
  have mF25 := SFm_of cF25 oz_M1cls_6
  have cA25 : SA oz_M1clsl_1 A A25 := SA_trans (cA21) (SA_gluc (ι := oz_M1clsl_5) oz_M1cls_11 hA25 eA25 (by decide +kernel)) (any_subA (lₚ := [8, 16]) (by decide +kernel))
  have mA25 := SAm_of cA25 oz_M1cls_7
  have cD25 : SD oz_M1clsl_2 D D25 := SD_trans (cD21) (SD_gluc (ι := oz_M1clsl_5) oz_M1cls_11 hD25 eD25 (by decide +kernel)) (any_subA (lₚ := [16]) (by decide +kernel))
  have mD25 := SDm_of cD25 oz_M1cls_8
  have cN25 : SD oz_M1clsl_2 N N25 := SD_trans (cN21) (SD_gluc (ι := oz_M1clsl_5) oz_M1cls_11 hN25 eN25 (by decide +kernel)) (any_subA (lₚ := [16]) (by decide +kernel))
  have mN25 := SDm_of cN25 oz_M1cls_8
  have pf25_1_0 : HID (F25 1 0 = (D25 16 : Int)) := (eF25 1 0).trans (pm25_6.trans (congrArg (fun q : Nat => (q : Int)) (eD25 16).symm))
  have pf25_17_0 : HID (F25 17 0 = (D25 18 : Int)) := ((show F25 17 0 = F21 17 0 from (eF25 17 0))).trans ((pf21_17_0).trans (congrArg (fun q : Nat => (q : Int)) ((show D25 18 = D21 18 from (eD25 18))).symm))
  exact w_ret rfl (k _ _ _ _ _ _ _ H O (cD25) (cN25) (cF25) (cA25) (pf25_1_0) (pf25_17_0) (m25_6) ((congrArg (fun q : Nat => (q : Int)) (eN25 16)).trans em25_6) (m21_15) ((congrArg (fun q : Nat => (q : Int)) (show N25 18 = N21 18 from (eN25 18))).trans ((congrArg (fun q : Nat => (q : Int)) (eN21 18)).trans em21_15)) (y25_1_1) (((eF25 1 1).trans ey25_1_1)) (y25_1_4) (((eF25 1 4).trans ey25_1_4)) (y21_14_1) ((((show F25 17 1 = F21 17 1 from (eF25 17 1))).trans ((eF21 17 1).trans ey21_14_1))) (show 0 ≤ (y25_1_1) ∧ (y25_1_1) ≤ (m25_6) ∧ (m25_6) ≤ 65536 from pz25_3) (show 0 ≤ (y25_1_4) ∧ (y25_1_4) ≤ 7 from q_3436 pz25_4) (show 0 ≤ (y21_14_1) ∧ (y21_14_1) ≤ (m21_15) ∧ (m21_15) ≤ 65536 from pz21_3))
abbrev V154_Row_c21 : vV := [(0, 6, [(4, 0), (4, 0), (4, 0), (4, 0), (4, 0), (4, 0), (4, 0), (4, 0), (4, 0), (4, 0), (4, 0), (4, 0), (4, 0), (4, 0), (4, 0), (0, 0), (0, 0), (4, 0), (4, 0)]), (0, 7, [(4, 0), (0, 0), (1, 0), (0, 0), (0, 0)]), (1, 1, []), (1, 7, []), (0, 5, [(4, 0), (4, 0), (4, 0), (4, 0), (0, 0), (0, 0), (0, 0), (4, 0), (4, 0), (0, 0), (0, 0), (0, 0), (0, 0), (0, 0), (0, 0), (0, 0), (0, 0), (0, 0), (0, 0)]), (1, 1, []), (1, 5, []), (0, 8, [(0, 0), (0, 0), (4, 0), (4, 0), (4, 0), (4, 0), (4, 0), (4, 0), (4, 0), (4, 0), (4, 0), (0, 0), (0, 0)]), (1, 1, []), (1, 1, []), (1, 1, []), (1, 1, []), (1, 1, []), (1, 1, []), (1, 1, []), (1, 1, []), (1, 0, []), (0, 7, [(4, 0), (0, 0), (1, 0), (0, 0), (0, 0)]), (1, 0, [])]
theorem len_V154_Row_c21_oz_M1cls : (V154_Row_c21).length = 19 := by decide +kernel
theorem oz_M1cls_13 : vsub V154_Row_c21 V146_c11 [0, 2, 3, 4, 5] = true := by decide +kernel
theorem oz_M1cls_14 : vsub V154_Row_c21 V149_Share_c21 [0, 7, 2, 3, 4, 5, 8, 9, 10, 11, 12, 13, 14, 15, 17, 18] = true := by decide +kernel
theorem oz_M1cls_15 : vmov V154_Row_c21 [0, 7, 2, 3, 4, 5, 8, 9, 10, 11, 12, 13, 14, 15, 17, 18] [15] = true := by decide +kernel
theorem oz_M1cls_16 : vsub V154_Row_c21 V148_Row_Share [0, 1, 7, 4, 2, 8, 16] = true := by decide +kernel
theorem oz_M1cls_17 : vmov V154_Row_c21 [0, 1, 7, 4, 2, 8, 16] [6] = true := by decide +kernel
set_option maxHeartbeats 16000000 in
/-- Packer.packOwnShare: this, #1, this.symbolCounts, this.symbols, this.finder, this.symbols.1, this.ownTables, this.ownTables.1, this.ownTables.1.points, this.ownTables.1.masses, this.ownTables.1.mostBits, this.ownTables.1.starts, this.ownTables.1.used, this.ownTables.1.symbolAt, this.ownTables.1.numberAt, this.ownTables.1.placeOf, #1.bytes, this.told, this.told.bytes -/
theorem C154_Row_c21 {σE : rS} {D N : Nat → Nat} {F : hF} {A : hA} {d c s : Nat} {Q : wQ} (H : HW V154_Row_c21 σE D N F A) (HT : STC σE)  (pf2 : HID (F 0 12 = (D 2 : Int))) (pf3 : HID (F 0 13 = (D 3 : Int))) (pf4 : HID (F 0 1 = (D 4 : Int))) (pf5 : HID (A 3 1 = (D 5 : Int))) (pf6 : HID (F 0 4 = (D 6 : Int))) (pf7 : HID (A 6 1 = (D 7 : Int))) (pf8 : HID (F 7 2 = (D 8 : Int))) (pf9 : HID (F 7 3 = (D 9 : Int))) (pf10 : HID (F 7 4 = (D 10 : Int))) (pf11 : HID (F 7 5 = (D 11 : Int))) (pf12 : HID (F 7 6 = (D 12 : Int))) (pf13 : HID (F 7 7 = (D 13 : Int))) (pf14 : HID (F 7 8 = (D 14 : Int))) (pf15 : HID (F 7 9 = (D 15 : Int))) (pf16 : HID (F 1 0 = (D 16 : Int))) (pf17 : HID (F 0 10 = (D 17 : Int))) (pf18 : HID (F 17 0 = (D 18 : Int))) (n2 : Int) (en2 : HID ((N 2 : Int) = n2)) (n3 : Int) (en3 : HID ((N 3 : Int) = n3)) (n5 : Int) (en5 : HID ((N 5 : Int) = n5)) (n6 : Int) (en6 : HID ((N 6 : Int) = n6)) (n8 : Int) (en8 : HID ((N 8 : Int) = n8)) (n9 : Int) (en9 : HID ((N 9 : Int) = n9)) (n10 : Int) (en10 : HID ((N 10 : Int) = n10)) (n11 : Int) (en11 : HID ((N 11 : Int) = n11)) (n12 : Int) (en12 : HID ((N 12 : Int) = n12)) (n13 : Int) (en13 : HID ((N 13 : Int) = n13)) (n14 : Int) (en14 : HID ((N 14 : Int) = n14)) (n15 : Int) (en15 : HID ((N 15 : Int) = n15)) (n16 : Int) (en16 : HID ((N 16 : Int) = n16)) (n18 : Int) (en18 : HID ((N 18 : Int) = n18)) (u1_1 : Int) (eu1_1 : HID (F 1 1 = u1_1)) (u1_4 : Int) (eu1_4 : HID (F 1 4 = u1_4)) (u4_4 : Int) (eu4_4 : HID (F 4 4 = u4_4)) (u7_1 : Int) (eu7_1 : HID (F 7 1 = u7_1)) (u17_1 : Int) (eu17_1 : HID (F 17 1 = u17_1)) (w5 : Int → Int) (ew5 : A 5 = w5) (h0 : inr (1)) (h1 : (n2) = 53 ∧ (n3) = 3) (h2 : 1 ≤ (u4_4) ∧ (u4_4) ≤ (n5) ∧ (n5) ≤ 65536) (h3 : RNG ((w5)) ((u4_4)) 32) (h4 : SHZD ((n8)) ((n9)) ((n10)) ((n11)) ((n12)) ((n13)) ((n14)) ((n15)) ((u7_1)) 32 256) (h5 : 0 ≤ (u1_1) ∧ (u1_1) ≤ (n16) ∧ (n16) ≤ 65536) (h6 : 0 ≤ (u1_4) ∧ (u1_4) ≤ 7) (h7 : 0 ≤ (u17_1) ∧ (u17_1) ≤ (n18) ∧ (n18) ≤ 65536) (h8 : (n6) = 3) (k : ∀ (σ : rS) (Dₚ Nₚ : Nat → Nat) (Fₚ : hF) (Aₚ : hA) (cₚ sₚ : Nat), HW V154_Row_c21 σ Dₚ Nₚ Fₚ Aₚ → OUT (V154_Row_c21).length D N σE c s Dₚ Nₚ σ cₚ sₚ → SD [16, 18] D Dₚ → SD [16, 18] N Nₚ → SF [(0, 15), (1, 0), (1, 1), (1, 2), (1, 3), (1, 4), (7, 0), (17, 0), (17, 1), (17, 2), (17, 3), (17, 4)] F Fₚ → SA [2, 8, 9, 10, 11, 12, 13, 14, 15, 16, 18] A Aₚ → Fₚ 1 0 = (Dₚ 16 : Int) → Fₚ 17 0 = (Dₚ 18 : Int) → ∀ m16 : Int, (Nₚ 16 : Int) = m16 → ∀ m18 : Int, (Nₚ 18 : Int) = m18 → ∀ y1_1 : Int, Fₚ 1 1 = y1_1 → ∀ y1_4 : Int, Fₚ 1 4 = y1_4 → ∀ y17_1 : Int, Fₚ 17 1 = y17_1 → (0 ≤ (y1_1) ∧ (y1_1) ≤ (m16) ∧ (m16) ≤ 65536) → (0 ≤ (y1_4) ∧ (y1_4) ≤ 7) → (0 ≤ (y17_1) ∧ (y17_1) ≤ (m18) ∧ (m18) ≤ 65536) → Q none σ cₚ sₚ) : Ew 154 (d + 4) 0 (rargs 0 [.ref (D 0), .ref (D 1), I 1]) [] σE c s Q := by
  have O := OUT_refl (n := (V154_Row_c21).length) (D := D) (N := N) (σ := σE) (c := c) (s := s)
  have HE := H
  have r3 : HID ((-2147483648 : Int) ≤ u4_4 ∧ u4_4 ≤ 2147483647) := krg_e (show (-2147483648 : Int) ≤ F 4 4 ∧ F 4 4 ≤ 2147483647 from H.krg 4 4 (ltn len_V154_Row_c21_oz_M1cls rfl)) (show F 4 4 = u4_4 from (eu4_4))
  have r4 : HID ((-2147483648 : Int) ≤ u7_1 ∧ u7_1 ≤ 2147483647) := krg_e (show (-2147483648 : Int) ≤ F 7 1 ∧ F 7 1 ≤ 2147483647 from H.krg 7 1 (ltn len_V154_Row_c21_oz_M1cls rfl)) (show F 7 1 = u7_1 from (eu7_1))
  have r6 : HID ((0 : Int) ≤ n2 ∧ n2 ≤ 1000000) := nrng (H.nle 2 (ltn len_V154_Row_c21_oz_M1cls rfl)) (show (N 2 : Int) = n2 from en2)
  have r9 : HID ((0 : Int) ≤ n6 ∧ n6 ≤ 1000000) := nrng (H.nle 6 (ltn len_V154_Row_c21_oz_M1cls rfl)) (show (N 6 : Int) = n6 from en6)
  have r10 : HID ((0 : Int) ≤ n8 ∧ n8 ≤ 1000000) := nrng (H.nle 8 (ltn len_V154_Row_c21_oz_M1cls rfl)) (show (N 8 : Int) = n8 from en8)
  have hrg : RNG ((w5)) ((u4_4)) 32 := h3
  have hszq : SHZD ((n8)) ((n9)) ((n10)) ((n11)) ((n12)) ((n13)) ((n14)) ((n15)) ((u7_1)) 32 256 := h4
  unfold SHZD at hszq
  have hsF : (u7_1) = 32 ∧ (n8) = (u7_1) := by (have qg0 := HIDe r10; have qg1 := HIDe r4; omega)
  clear hszq
  refine Ew_of (pcₚ := 1) (fun _ => x_aload_n rfl rfl) ?_
  refine Ew_of (pcₚ := 2) (fun _ => x_iload_n rfl rfl) ?_
  refine v_inv H (o := 0) rfl rfl rfl rfl rfl rfl (by rfl) (C146_c11 (D := puc 344135042048 D) (N := puc 344135042048 N) (HW_subc H oz_M1cls_13 oz_M1cls_9) (pf2) (pf3) (pf4) (pf5) (n2) (en2) (n3) (en3) (n5) (en5) (u4_4) ((eu4_4)) (A 2) (rfl) (w5) (ew5) (show inr (1) from h0) (show (n2) = 53 ∧ (n3) = 3 from h1) (show 0 ≤ (u4_4) ∧ (u4_4) ≤ (n5) ∧ (n5) ≤ 65536 from q_4118 h2) (show RNG ((w5)) ((u4_4)) 32 from hrg) (fun z20 σ20 F20ₚ A20ₚ Hₚ Oₚ hS20 hA20 w20_1 ew20_1 pz20_0 pz20_1 pz20_2 pz20_3 => ⟨rfl, ?_⟩))
  refine v_backc (c := c) (s := s) H oz_M1cls_13 oz_M1cls_9 Hₚ Oₚ (fun F20 A20 H Oₚ eF20 eA20 => ?_)
  have O := OUT_trans O Oₚ
  -- Packer.countSymbols
  have cF20 : SF oz_M1clsl_0 F F20 := SF_trans (SF_refl) (SF_gluc (ι := oz_M1clsl_3) oz_M1cls_9 hS20 eF20 (by decide +kernel)) (any_sub (lₚ := []) (by decide +kernel))
  have mF20 := SFm_of cF20 oz_M1cls_6
  have cA20 : SA oz_M1clsl_1 A A20 := SA_trans (SA_refl) (SA_gluc (ι := oz_M1clsl_3) oz_M1cls_9 hA20 eA20 (by decide +kernel)) (any_subA (lₚ := [2]) (by decide +kernel))
  have mA20 := SAm_of cA20 oz_M1cls_7
  have hct : CTN ((w5)) ((w20_1)) ((u4_4)) 53 := pz20_1
  have hps : ((z20) : Int) = su (fun i => pos1 (((w20_1)) i)) 53 := pz20_2
  have hpr := pz20_3
  refine Ew_of (pcₚ := 6) (fun _ => x_istore_n rfl) ?_
  refine Ew_of (pcₚ := 7) (fun _ => x_aload_n rfl (rk_o (rfl) rfl rfl)) ?_
  refine Ew_of (pcₚ := 8) (fun _ => x_aload_n rfl (rk_o (rfl) rfl rfl)) ?_
  refine Ew_of (pcₚ := 9) (fun _ => x_aload_n rfl (rk_o (rfl) rfl rfl)) ?_
  refine v_g H (o := 0) (v := .ref (D 6)) rfl rfl rfl rfl rfl (vrf ((mF20 0 4 rfl).trans (pf6))) ?_
  refine Ew_of (pcₚ := 13) (fun _ => x_iload_n rfl (rk_o (rfl) rfl rfl)) ?_
  refine v_lR H (o := 6) rfl rfl rfl rfl rfl (n := n6) (en6) (show 0 ≤ 1 ∧ 1 < n6 from q_4135 (HIDe r9) h8) (z := ((D 7 : Nat) : Int)) (v := .ref (D 7)) ((mA20 6 rfl 1).trans (pf7)) (vrf rfl) ?_
  refine Ew_of (pcₚ := 15) (fun _ => x_aload_n rfl (rk_o (rfl) rfl rfl)) ?_
  refine Ew_of (pcₚ := 16) (fun _ => x_aload_n rfl (rk_o (rfl) rfl rfl)) ?_
  refine v_g H (o := 0) (v := .ref (D 6)) rfl rfl rfl rfl rfl (vrf ((mF20 0 4 rfl).trans (pf6))) ?_
  refine Ew_of (pcₚ := 20) (fun _ => x_iload_n rfl (rk_o (rfl) rfl rfl)) ?_
  refine v_lR H (o := 6) rfl rfl rfl rfl rfl (n := n6) (en6) (show 0 ≤ 1 ∧ 1 < n6 from q_4135 (HIDe r9) h8) (z := ((D 7 : Nat) : Int)) (v := .ref (D 7)) ((mA20 6 rfl 1).trans (pf7)) (vrf rfl) ?_
  refine Ew_of (pcₚ := 22) (fun _ => x_iload_n rfl (rk_o (rfl) rfl rfl)) ?_
  refine Ew_of (pcₚ := 23) (fun _ => x_iload_n rfl rk_s) ?_
  refine Ew_of (pcₚ := 26) (fun _ => x_ldc_w (z := 2147483647) rfl (by decide)) ?_
  refine v_inv H (o := 0) rfl rfl rfl rfl rfl rfl (by rfl) (C149_Share_c21 (D := puc 785459270299262667050200073870083854175744 D) (N := puc 785459270299262667050200073870083854175744 N) (HW_subc H oz_M1cls_14 oz_M1cls_10) (STC_out HT HE O) ((mF20 0 12 rfl).trans (pf2)) ((mF20 0 13 rfl).trans (pf3)) ((mF20 0 1 rfl).trans (pf4)) ((mA20 3 rfl 1).trans (pf5)) ((mF20 7 2 rfl).trans (pf8)) ((mF20 7 3 rfl).trans (pf9)) ((mF20 7 4 rfl).trans (pf10)) ((mF20 7 5 rfl).trans (pf11)) ((mF20 7 6 rfl).trans (pf12)) ((mF20 7 7 rfl).trans (pf13)) ((mF20 7 8 rfl).trans (pf14)) ((mF20 7 9 rfl).trans (pf15)) ((mF20 0 10 rfl).trans (pf17)) ((((show F20 17 0 = F 17 0 from (eF20 17 0)))).trans (pf18)) (n2) (en2) (n3) (en3) (n5) (en5) (n8) (en8) (n9) (en9) (n10) (en10) (n11) (en11) (n12) (en12) (n13) (en13) (n14) (en14) (n15) (en15) (n18) (en18) (u7_1) (((mF20 7 1 rfl).trans (eu7_1))) (u4_4) (((mF20 4 4 rfl).trans (eu4_4))) (u17_1) ((((show F20 17 1 = F 17 1 from (eF20 17 1))).trans (eu17_1))) (w20_1) ((eA20 2).trans ew20_1) (w5) ((funext (mA20 5 rfl)).trans (ew5)) (show inr (1) from h0) (show inr (z20) from pz20_0) (show inr (2147483647) from q_2970) (show (n2) = 53 ∧ (n3) = 3 from h1) (show 1 ≤ (u4_4) ∧ (u4_4) ≤ (n5) ∧ (n5) ≤ 65536 from h2) (show RNG ((w5)) ((u4_4)) 32 from hrg) (show CTN ((w5)) ((w20_1)) ((u4_4)) 53 from hct) (show (z20) = su (fun i => pos1 (((w20_1)) i)) 53 by assumption) (show 0 ≤ (z20) ∧ (z20) ≤ 53 from pz20_3) (show SHZD ((n8)) ((n9)) ((n10)) ((n11)) ((n12)) ((n13)) ((n14)) ((n15)) ((u7_1)) 32 256 from h4) (show 0 ≤ (u17_1) ∧ (u17_1) ≤ (n18) ∧ (n18) ≤ 65536 from h7) (fun z21 σ21 D21ₚ N21ₚ F21ₚ A21ₚ c21 s21 Hₚ Oₚ hD21 hN21 hS21 hA21 (pm21_15 : HID _) m21_15 (em21_15 : HID _) y21_14_1 (ey21_14_1 : HID _) pz21_0 pz21_1 pz21_2 pz21_3 => ⟨rfl, ?_⟩))
  refine v_backMc (c := c) (s := s) H oz_M1cls_14 oz_M1cls_10 Hₚ Oₚ hD21 oz_M1cls_15 (fun D21 N21 F21 A21 H Oₚ eD21 eN21 eF21 eA21 => ?_)
  have O := OUT_trans O Oₚ
  -- Packer.bestOrder
  have cF21 : SF oz_M1clsl_0 F F21 := SF_trans (cF20) (SF_gluc (ι := oz_M1clsl_4) oz_M1cls_10 hS21 eF21 (by decide +kernel)) (any_sub (lₚ := [(0, 15), (7, 0), (17, 0), (17, 1), (17, 2), (17, 3), (17, 4)]) (by decide +kernel))
  have mF21 := SFm_of cF21 oz_M1cls_6
  have cA21 : SA oz_M1clsl_1 A A21 := SA_trans (cA20) (SA_gluc (ι := oz_M1clsl_4) oz_M1cls_10 hA21 eA21 (by decide +kernel)) (any_subA (lₚ := [8, 9, 10, 11, 12, 13, 14, 15, 18]) (by decide +kernel))
  have mA21 := SAm_of cA21 oz_M1cls_7
  have cD21 : SD oz_M1clsl_2 D D21 := SD_trans (SD_refl) (SD_gluc (ι := oz_M1clsl_4) oz_M1cls_10 hD21 eD21 (by decide +kernel)) (any_subA (lₚ := [18]) (by decide +kernel))
  have mD21 := SDm_of cD21 oz_M1cls_8
  have cN21 : SD oz_M1clsl_2 N N21 := SD_trans (SD_refl) (SD_gluc (ι := oz_M1clsl_4) oz_M1cls_10 hN21 eN21 (by decide +kernel)) (any_subA (lₚ := [18]) (by decide +kernel))
  have mN21 := SDm_of cN21 oz_M1cls_8
  have pf21_1_0 : HID (F21 1 0 = (D21 16 : Int)) := ((show F21 1 0 = F20 1 0 from (eF21 1 0))).trans (((((show F20 1 0 = F 1 0 from (eF20 1 0)))).trans (pf16)).trans (congrArg (fun q : Nat => (q : Int)) ((show D21 16 = D 16 from (eD21 16))).symm))
  have pf21_17_0 : HID (F21 17 0 = (D21 18 : Int)) := (eF21 17 0).trans (pm21_15.trans (congrArg (fun q : Nat => (q : Int)) (eD21 18).symm))
  have hcn : CNT ((w20_1)) ((u7_1)) ((u4_4)) ((z21)) := CTN_CNT hct (by (have qg0 := HIDe r3; have qg1 := HIDe r4; omega)) (by rw [hsF.1]; exact hrg) (by (have qg0 := HIDe r3; have qg1 := HIDe r4; omega)) (by (have qg0 := HIDe r3; have qg1 := HIDe r4; omega)) (by (have qg0 := HIDe r3; have qg1 := HIDe r4; omega)) hps (by (have qg0 := HIDe r3; have qg1 := HIDe r4; omega))
  try clear pz21_1
  try clear pz21_2
  refine Ew_stk (show ([I (z21), .ref (D 7), .ref (D 1), .ref (D 0)] : List Value) = [I (z21), .ref (D21 7), .ref (D21 1), .ref (D21 0)] by rw [show D21 0 = D 0 from mD21 0 rfl, show D21 1 = D 1 from mD21 1 rfl, show D21 7 = D 7 from mD21 7 rfl]) ?_
  refine v_inv H (o := 0) rfl rfl rfl rfl rfl rfl (by rfl) (C148_Row_Share (D := puc 288511989106082304 D21) (N := puc 288511989106082304 N21) (HW_subc H oz_M1cls_16 oz_M1cls_11) ((mF21 0 1 rfl).trans ((pf4).trans (congrArg (fun q : Nat => (q : Int)) (mD21 4 rfl).symm))) ((mF21 0 12 rfl).trans ((pf2).trans (congrArg (fun q : Nat => (q : Int)) (mD21 2 rfl).symm))) ((mF21 7 2 rfl).trans ((pf8).trans (congrArg (fun q : Nat => (q : Int)) (mD21 8 rfl).symm))) (pf21_1_0) (n2) ((congrArg (fun q : Nat => (q : Int)) (mN21 2 rfl)).trans (en2)) (n8) ((congrArg (fun q : Nat => (q : Int)) (mN21 8 rfl)).trans (en8)) (n16) ((congrArg (fun q : Nat => (q : Int)) (show N21 16 = N 16 from (eN21 16))).trans (en16)) (u1_1) (((((show F21 1 1 = F20 1 1 from (eF21 1 1))).trans ((show F20 1 1 = F 1 1 from (eF20 1 1)))).trans (eu1_1))) (u1_4) (((((show F21 1 4 = F20 1 4 from (eF21 1 4))).trans ((show F20 1 4 = F 1 4 from (eF20 1 4)))).trans (eu1_4))) (F21 7 0) (rfl) (u7_1) (((mF21 7 1 rfl).trans (eu7_1))) (u4_4) (((mF21 4 4 rfl).trans (eu4_4))) (w20_1) (((show A21 2 = A20 2 from (eA21 2).trans (funext (hA21 2 rfl)))).trans ((eA20 2).trans ew20_1)) (A21 8) (rfl) (show inr (z21) from pz21_0) (show CNT ((w20_1)) ((u7_1)) ((u4_4)) (z21) from hcn) (show (u7_1) ≤ (n2) ∧ (n8) = (u7_1) from q_4136 (HIDe r6) h1 hsF) (show 0 ≤ (u1_1) ∧ (u1_1) ≤ (n16) ∧ (n16) ≤ 65536 from h5) (show 0 ≤ (u1_4) ∧ (u1_4) ≤ 7 from h6) (fun σ25 D25ₚ N25ₚ F25ₚ A25ₚ c25 s25 Hₚ Oₚ hD25 hN25 hS25 hA25 (pm25_6 : HID _) m25_6 (em25_6 : HID _) y25_1_1 (ey25_1_1 : HID _) y25_1_4 (ey25_1_4 : HID _) y25_2_0 (ey25_2_0 : HID _) w25_5 ew25_5 pz25_0 pz25_1 pz25_2 pz25_3 pz25_4 pz25_5 => ⟨rfl, ?_⟩))
  refine v_backMc (c := (c + c21)) (s := (s + s21)) H oz_M1cls_16 oz_M1cls_11 Hₚ Oₚ hD25 oz_M1cls_17 (fun D25 N25 F25 A25 H Oₚ eD25 eN25 eF25 eA25 => ?_)
  have O := OUT_trans O Oₚ
  -- Packer.packShare
  have cF25 : SF oz_M1clsl_0 F F25 := SF_trans (cF21) (SF_gluc (ι := oz_M1clsl_5) oz_M1cls_11 hS25 eF25 (by decide +kernel)) (any_sub (lₚ := [(1, 0), (1, 1), (1, 2), (1, 3), (1, 4), (7, 0)]) (by decide +kernel))
  have mF25 := SFm_of cF25 oz_M1cls_6
  have cA25 : SA oz_M1clsl_1 A A25 := SA_trans (cA21) (SA_gluc (ι := oz_M1clsl_5) oz_M1cls_11 hA25 eA25 (by decide +kernel)) (any_subA (lₚ := [8, 16]) (by decide +kernel))
  have mA25 := SAm_of cA25 oz_M1cls_7
  have cD25 : SD oz_M1clsl_2 D D25 := SD_trans (cD21) (SD_gluc (ι := oz_M1clsl_5) oz_M1cls_11 hD25 eD25 (by decide +kernel)) (any_subA (lₚ := [16]) (by decide +kernel))
  have mD25 := SDm_of cD25 oz_M1cls_8
  have cN25 : SD oz_M1clsl_2 N N25 := SD_trans (cN21) (SD_gluc (ι := oz_M1clsl_5) oz_M1cls_11 hN25 eN25 (by decide +kernel)) (any_subA (lₚ := [16]) (by decide +kernel))
  have mN25 := SDm_of cN25 oz_M1cls_8
  have pf25_1_0 : HID (F25 1 0 = (D25 16 : Int)) := (eF25 1 0).trans (pm25_6.trans (congrArg (fun q : Nat => (q : Int)) (eD25 16).symm))
  have pf25_17_0 : HID (F25 17 0 = (D25 18 : Int)) := ((show F25 17 0 = F21 17 0 from (eF25 17 0))).trans ((pf21_17_0).trans (congrArg (fun q : Nat => (q : Int)) ((show D25 18 = D21 18 from (eD25 18))).symm))
  exact w_ret rfl (k _ _ _ _ _ _ _ H O (cD25) (cN25) (cF25) (cA25) (pf25_1_0) (pf25_17_0) (m25_6) ((congrArg (fun q : Nat => (q : Int)) (eN25 16)).trans em25_6) (m21_15) ((congrArg (fun q : Nat => (q : Int)) (show N25 18 = N21 18 from (eN25 18))).trans ((congrArg (fun q : Nat => (q : Int)) (eN21 18)).trans em21_15)) (y25_1_1) (((eF25 1 1).trans ey25_1_1)) (y25_1_4) (((eF25 1 4).trans ey25_1_4)) (y21_14_1) ((((show F25 17 1 = F21 17 1 from (eF25 17 1))).trans ((eF21 17 1).trans ey21_14_1))) (show 0 ≤ (y25_1_1) ∧ (y25_1_1) ≤ (m25_6) ∧ (m25_6) ≤ 65536 from pz25_3) (show 0 ≤ (y25_1_4) ∧ (y25_1_4) ≤ 7 from q_3436 pz25_4) (show 0 ≤ (y21_14_1) ∧ (y21_14_1) ≤ (m21_15) ∧ (m21_15) ≤ 65536 from pz21_3))
abbrev V154_Row_c22 : vV := [(0, 6, [(4, 0), (4, 0), (4, 0), (4, 0), (4, 0), (4, 0), (4, 0), (4, 0), (4, 0), (4, 0), (4, 0), (4, 0), (4, 0), (4, 0), (4, 0), (0, 0), (0, 0), (4, 0), (4, 0)]), (0, 7, [(4, 0), (0, 0), (1, 0), (0, 0), (0, 0)]), (1, 1, []), (1, 7, []), (0, 5, [(4, 0), (4, 0), (4, 0), (4, 0), (0, 0), (0, 0), (0, 0), (4, 0), (4, 0), (0, 0), (0, 0), (0, 0), (0, 0), (0, 0), (0, 0), (0, 0), (0, 0), (0, 0), (0, 0)]), (1, 1, []), (1, 5, []), (0, 8, [(0, 0), (0, 0), (4, 0), (4, 0), (4, 0), (4, 0), (4, 0), (4, 0), (4, 0), (4, 0), (4, 0), (0, 0), (0, 0)]), (1, 1, []), (1, 1, []), (1, 1, []), (1, 1, []), (1, 1, []), (1, 1, []), (1, 1, []), (1, 1, []), (1, 0, []), (0, 7, [(4, 0), (0, 0), (1, 0), (0, 0), (0, 0)]), (1, 0, [])]
theorem len_V154_Row_c22_oz_M1cls : (V154_Row_c22).length = 19 := by decide +kernel
theorem oz_M1cls_19 : vsub V154_Row_c22 V146_c12 [0, 2, 3, 4, 5] = true := by decide +kernel
theorem oz_M1cls_20 : vsub V154_Row_c22 V149_Share_c22 [0, 7, 2, 3, 4, 5, 8, 9, 10, 11, 12, 13, 14, 15, 17, 18] = true := by decide +kernel
theorem oz_M1cls_21 : vmov V154_Row_c22 [0, 7, 2, 3, 4, 5, 8, 9, 10, 11, 12, 13, 14, 15, 17, 18] [15] = true := by decide +kernel
theorem oz_M1cls_22 : vsub V154_Row_c22 V148_Row_Share [0, 1, 7, 4, 2, 8, 16] = true := by decide +kernel
theorem oz_M1cls_23 : vmov V154_Row_c22 [0, 1, 7, 4, 2, 8, 16] [6] = true := by decide +kernel
set_option maxHeartbeats 16000000 in
/-- Packer.packOwnShare: this, #1, this.symbolCounts, this.symbols, this.finder, this.symbols.2, this.ownTables, this.ownTables.2, this.ownTables.2.points, this.ownTables.2.masses, this.ownTables.2.mostBits, this.ownTables.2.starts, this.ownTables.2.used, this.ownTables.2.symbolAt, this.ownTables.2.numberAt, this.ownTables.2.placeOf, #1.bytes, this.told, this.told.bytes -/
theorem C154_Row_c22 {σE : rS} {D N : Nat → Nat} {F : hF} {A : hA} {d c s : Nat} {Q : wQ} (H : HW V154_Row_c22 σE D N F A) (HT : STC σE)  (pf2 : HID (F 0 12 = (D 2 : Int))) (pf3 : HID (F 0 13 = (D 3 : Int))) (pf4 : HID (F 0 1 = (D 4 : Int))) (pf5 : HID (A 3 2 = (D 5 : Int))) (pf6 : HID (F 0 4 = (D 6 : Int))) (pf7 : HID (A 6 2 = (D 7 : Int))) (pf8 : HID (F 7 2 = (D 8 : Int))) (pf9 : HID (F 7 3 = (D 9 : Int))) (pf10 : HID (F 7 4 = (D 10 : Int))) (pf11 : HID (F 7 5 = (D 11 : Int))) (pf12 : HID (F 7 6 = (D 12 : Int))) (pf13 : HID (F 7 7 = (D 13 : Int))) (pf14 : HID (F 7 8 = (D 14 : Int))) (pf15 : HID (F 7 9 = (D 15 : Int))) (pf16 : HID (F 1 0 = (D 16 : Int))) (pf17 : HID (F 0 10 = (D 17 : Int))) (pf18 : HID (F 17 0 = (D 18 : Int))) (n2 : Int) (en2 : HID ((N 2 : Int) = n2)) (n3 : Int) (en3 : HID ((N 3 : Int) = n3)) (n5 : Int) (en5 : HID ((N 5 : Int) = n5)) (n6 : Int) (en6 : HID ((N 6 : Int) = n6)) (n8 : Int) (en8 : HID ((N 8 : Int) = n8)) (n9 : Int) (en9 : HID ((N 9 : Int) = n9)) (n10 : Int) (en10 : HID ((N 10 : Int) = n10)) (n11 : Int) (en11 : HID ((N 11 : Int) = n11)) (n12 : Int) (en12 : HID ((N 12 : Int) = n12)) (n13 : Int) (en13 : HID ((N 13 : Int) = n13)) (n14 : Int) (en14 : HID ((N 14 : Int) = n14)) (n15 : Int) (en15 : HID ((N 15 : Int) = n15)) (n16 : Int) (en16 : HID ((N 16 : Int) = n16)) (n18 : Int) (en18 : HID ((N 18 : Int) = n18)) (u1_1 : Int) (eu1_1 : HID (F 1 1 = u1_1)) (u1_4 : Int) (eu1_4 : HID (F 1 4 = u1_4)) (u4_4 : Int) (eu4_4 : HID (F 4 4 = u4_4)) (u7_1 : Int) (eu7_1 : HID (F 7 1 = u7_1)) (u17_1 : Int) (eu17_1 : HID (F 17 1 = u17_1)) (w5 : Int → Int) (ew5 : A 5 = w5) (h0 : inr (2)) (h1 : (n2) = 53 ∧ (n3) = 3) (h2 : 1 ≤ (u4_4) ∧ (u4_4) ≤ (n5) ∧ (n5) ≤ 65536) (h3 : RNG ((w5)) ((u4_4)) 53) (h4 : SHZD ((n8)) ((n9)) ((n10)) ((n11)) ((n12)) ((n13)) ((n14)) ((n15)) ((u7_1)) 53 512) (h5 : 0 ≤ (u1_1) ∧ (u1_1) ≤ (n16) ∧ (n16) ≤ 65536) (h6 : 0 ≤ (u1_4) ∧ (u1_4) ≤ 7) (h7 : 0 ≤ (u17_1) ∧ (u17_1) ≤ (n18) ∧ (n18) ≤ 65536) (h8 : (n6) = 3) (k : ∀ (σ : rS) (Dₚ Nₚ : Nat → Nat) (Fₚ : hF) (Aₚ : hA) (cₚ sₚ : Nat), HW V154_Row_c22 σ Dₚ Nₚ Fₚ Aₚ → OUT (V154_Row_c22).length D N σE c s Dₚ Nₚ σ cₚ sₚ → SD [16, 18] D Dₚ → SD [16, 18] N Nₚ → SF [(0, 15), (1, 0), (1, 1), (1, 2), (1, 3), (1, 4), (7, 0), (17, 0), (17, 1), (17, 2), (17, 3), (17, 4)] F Fₚ → SA [2, 8, 9, 10, 11, 12, 13, 14, 15, 16, 18] A Aₚ → Fₚ 1 0 = (Dₚ 16 : Int) → Fₚ 17 0 = (Dₚ 18 : Int) → ∀ m16 : Int, (Nₚ 16 : Int) = m16 → ∀ m18 : Int, (Nₚ 18 : Int) = m18 → ∀ y1_1 : Int, Fₚ 1 1 = y1_1 → ∀ y1_4 : Int, Fₚ 1 4 = y1_4 → ∀ y17_1 : Int, Fₚ 17 1 = y17_1 → (0 ≤ (y1_1) ∧ (y1_1) ≤ (m16) ∧ (m16) ≤ 65536) → (0 ≤ (y1_4) ∧ (y1_4) ≤ 7) → (0 ≤ (y17_1) ∧ (y17_1) ≤ (m18) ∧ (m18) ≤ 65536) → Q none σ cₚ sₚ) : Ew 154 (d + 4) 0 (rargs 0 [.ref (D 0), .ref (D 1), I 2]) [] σE c s Q := by
  have O := OUT_refl (n := (V154_Row_c22).length) (D := D) (N := N) (σ := σE) (c := c) (s := s)
  have HE := H
  have r3 : HID ((-2147483648 : Int) ≤ u4_4 ∧ u4_4 ≤ 2147483647) := krg_e (show (-2147483648 : Int) ≤ F 4 4 ∧ F 4 4 ≤ 2147483647 from H.krg 4 4 (ltn len_V154_Row_c22_oz_M1cls rfl)) (show F 4 4 = u4_4 from (eu4_4))
  have r4 : HID ((-2147483648 : Int) ≤ u7_1 ∧ u7_1 ≤ 2147483647) := krg_e (show (-2147483648 : Int) ≤ F 7 1 ∧ F 7 1 ≤ 2147483647 from H.krg 7 1 (ltn len_V154_Row_c22_oz_M1cls rfl)) (show F 7 1 = u7_1 from (eu7_1))
  have r10 : HID ((0 : Int) ≤ n8 ∧ n8 ≤ 1000000) := nrng (H.nle 8 (ltn len_V154_Row_c22_oz_M1cls rfl)) (show (N 8 : Int) = n8 from en8)
  have hrg : RNG ((w5)) ((u4_4)) 53 := h3
  have hszq : SHZD ((n8)) ((n9)) ((n10)) ((n11)) ((n12)) ((n13)) ((n14)) ((n15)) ((u7_1)) 53 512 := h4
  unfold SHZD at hszq
  have hsF : (u7_1) = 53 ∧ (n8) = (u7_1) := by (have qg0 := HIDe r10; have qg1 := HIDe r4; omega)
  clear hszq
  refine Ew_of (pcₚ := 1) (fun _ => x_aload_n rfl rfl) ?_
  refine Ew_of (pcₚ := 2) (fun _ => x_iload_n rfl rfl) ?_
  refine v_inv H (o := 0) rfl rfl rfl rfl rfl rfl (by rfl) (C146_c12 (D := puc 344135042048 D) (N := puc 344135042048 N) (HW_subc H oz_M1cls_19 oz_M1cls_9) (pf2) (pf3) (pf4) (pf5) (n2) (en2) (n3) (en3) (n5) (en5) (u4_4) ((eu4_4)) (A 2) (rfl) (w5) (ew5) (show inr (2) from h0) (show (n2) = 53 ∧ (n3) = 3 from h1) (show 0 ≤ (u4_4) ∧ (u4_4) ≤ (n5) ∧ (n5) ≤ 65536 from q_4118 h2) (show RNG ((w5)) ((u4_4)) 53 from hrg) (fun z20 σ20 F20ₚ A20ₚ Hₚ Oₚ hS20 hA20 w20_1 ew20_1 pz20_0 pz20_1 pz20_2 pz20_3 => ⟨rfl, ?_⟩))
  refine v_backc (c := c) (s := s) H oz_M1cls_19 oz_M1cls_9 Hₚ Oₚ (fun F20 A20 H Oₚ eF20 eA20 => ?_)
  have O := OUT_trans O Oₚ
  -- Packer.countSymbols
  have cF20 : SF oz_M1clsl_0 F F20 := SF_trans (SF_refl) (SF_gluc (ι := oz_M1clsl_3) oz_M1cls_9 hS20 eF20 (by decide +kernel)) (any_sub (lₚ := []) (by decide +kernel))
  have mF20 := SFm_of cF20 oz_M1cls_6
  have cA20 : SA oz_M1clsl_1 A A20 := SA_trans (SA_refl) (SA_gluc (ι := oz_M1clsl_3) oz_M1cls_9 hA20 eA20 (by decide +kernel)) (any_subA (lₚ := [2]) (by decide +kernel))
  have mA20 := SAm_of cA20 oz_M1cls_7
  have hct : CTN ((w5)) ((w20_1)) ((u4_4)) 53 := pz20_1
  have hps : ((z20) : Int) = su (fun i => pos1 (((w20_1)) i)) 53 := pz20_2
  have hpr := pz20_3
  refine Ew_of (pcₚ := 6) (fun _ => x_istore_n rfl) ?_
  refine Ew_of (pcₚ := 7) (fun _ => x_aload_n rfl (rk_o (rfl) rfl rfl)) ?_
  refine Ew_of (pcₚ := 8) (fun _ => x_aload_n rfl (rk_o (rfl) rfl rfl)) ?_
  refine Ew_of (pcₚ := 9) (fun _ => x_aload_n rfl (rk_o (rfl) rfl rfl)) ?_
  refine v_g H (o := 0) (v := .ref (D 6)) rfl rfl rfl rfl rfl (vrf ((mF20 0 4 rfl).trans (pf6))) ?_
  refine Ew_of (pcₚ := 13) (fun _ => x_iload_n rfl (rk_o (rfl) rfl rfl)) ?_
  refine v_lR H (o := 6) rfl rfl rfl rfl rfl (n := n6) (en6) (show 0 ≤ 2 ∧ 2 < n6 from q_2748 h8) (z := ((D 7 : Nat) : Int)) (v := .ref (D 7)) ((mA20 6 rfl 2).trans (pf7)) (vrf rfl) ?_
  refine Ew_of (pcₚ := 15) (fun _ => x_aload_n rfl (rk_o (rfl) rfl rfl)) ?_
  refine Ew_of (pcₚ := 16) (fun _ => x_aload_n rfl (rk_o (rfl) rfl rfl)) ?_
  refine v_g H (o := 0) (v := .ref (D 6)) rfl rfl rfl rfl rfl (vrf ((mF20 0 4 rfl).trans (pf6))) ?_
  refine Ew_of (pcₚ := 20) (fun _ => x_iload_n rfl (rk_o (rfl) rfl rfl)) ?_
  refine v_lR H (o := 6) rfl rfl rfl rfl rfl (n := n6) (en6) (show 0 ≤ 2 ∧ 2 < n6 from q_2748 h8) (z := ((D 7 : Nat) : Int)) (v := .ref (D 7)) ((mA20 6 rfl 2).trans (pf7)) (vrf rfl) ?_
  refine Ew_of (pcₚ := 22) (fun _ => x_iload_n rfl (rk_o (rfl) rfl rfl)) ?_
  refine Ew_of (pcₚ := 23) (fun _ => x_iload_n rfl rk_s) ?_
  refine Ew_of (pcₚ := 26) (fun _ => x_ldc_w (z := 2147483647) rfl (by decide)) ?_
  refine v_inv H (o := 0) rfl rfl rfl rfl rfl rfl (by rfl) (C149_Share_c22 (D := puc 785459270299262667050200073870083854175744 D) (N := puc 785459270299262667050200073870083854175744 N) (HW_subc H oz_M1cls_20 oz_M1cls_10) (STC_out HT HE O) ((mF20 0 12 rfl).trans (pf2)) ((mF20 0 13 rfl).trans (pf3)) ((mF20 0 1 rfl).trans (pf4)) ((mA20 3 rfl 2).trans (pf5)) ((mF20 7 2 rfl).trans (pf8)) ((mF20 7 3 rfl).trans (pf9)) ((mF20 7 4 rfl).trans (pf10)) ((mF20 7 5 rfl).trans (pf11)) ((mF20 7 6 rfl).trans (pf12)) ((mF20 7 7 rfl).trans (pf13)) ((mF20 7 8 rfl).trans (pf14)) ((mF20 7 9 rfl).trans (pf15)) ((mF20 0 10 rfl).trans (pf17)) ((((show F20 17 0 = F 17 0 from (eF20 17 0)))).trans (pf18)) (n2) (en2) (n3) (en3) (n5) (en5) (n8) (en8) (n9) (en9) (n10) (en10) (n11) (en11) (n12) (en12) (n13) (en13) (n14) (en14) (n15) (en15) (n18) (en18) (u7_1) (((mF20 7 1 rfl).trans (eu7_1))) (u4_4) (((mF20 4 4 rfl).trans (eu4_4))) (u17_1) ((((show F20 17 1 = F 17 1 from (eF20 17 1))).trans (eu17_1))) (w20_1) ((eA20 2).trans ew20_1) (w5) ((funext (mA20 5 rfl)).trans (ew5)) (show inr (2) from h0) (show inr (z20) from pz20_0) (show inr (2147483647) from q_2970) (show (n2) = 53 ∧ (n3) = 3 from h1) (show 1 ≤ (u4_4) ∧ (u4_4) ≤ (n5) ∧ (n5) ≤ 65536 from h2) (show RNG ((w5)) ((u4_4)) 53 from hrg) (show CTN ((w5)) ((w20_1)) ((u4_4)) 53 from hct) (show (z20) = su (fun i => pos1 (((w20_1)) i)) 53 by assumption) (show 0 ≤ (z20) ∧ (z20) ≤ 53 from pz20_3) (show SHZD ((n8)) ((n9)) ((n10)) ((n11)) ((n12)) ((n13)) ((n14)) ((n15)) ((u7_1)) 53 512 from h4) (show 0 ≤ (u17_1) ∧ (u17_1) ≤ (n18) ∧ (n18) ≤ 65536 from h7) (fun z21 σ21 D21ₚ N21ₚ F21ₚ A21ₚ c21 s21 Hₚ Oₚ hD21 hN21 hS21 hA21 (pm21_15 : HID _) m21_15 (em21_15 : HID _) y21_14_1 (ey21_14_1 : HID _) pz21_0 pz21_1 pz21_2 pz21_3 => ⟨rfl, ?_⟩))
  refine v_backMc (c := c) (s := s) H oz_M1cls_20 oz_M1cls_10 Hₚ Oₚ hD21 oz_M1cls_21 (fun D21 N21 F21 A21 H Oₚ eD21 eN21 eF21 eA21 => ?_)
  have O := OUT_trans O Oₚ
  -- Packer.bestOrder
  have cF21 : SF oz_M1clsl_0 F F21 := SF_trans (cF20) (SF_gluc (ι := oz_M1clsl_4) oz_M1cls_10 hS21 eF21 (by decide +kernel)) (any_sub (lₚ := [(0, 15), (7, 0), (17, 0), (17, 1), (17, 2), (17, 3), (17, 4)]) (by decide +kernel))
  have mF21 := SFm_of cF21 oz_M1cls_6
  have cA21 : SA oz_M1clsl_1 A A21 := SA_trans (cA20) (SA_gluc (ι := oz_M1clsl_4) oz_M1cls_10 hA21 eA21 (by decide +kernel)) (any_subA (lₚ := [8, 9, 10, 11, 12, 13, 14, 15, 18]) (by decide +kernel))
  have mA21 := SAm_of cA21 oz_M1cls_7
  have cD21 : SD oz_M1clsl_2 D D21 := SD_trans (SD_refl) (SD_gluc (ι := oz_M1clsl_4) oz_M1cls_10 hD21 eD21 (by decide +kernel)) (any_subA (lₚ := [18]) (by decide +kernel))
  have mD21 := SDm_of cD21 oz_M1cls_8
  have cN21 : SD oz_M1clsl_2 N N21 := SD_trans (SD_refl) (SD_gluc (ι := oz_M1clsl_4) oz_M1cls_10 hN21 eN21 (by decide +kernel)) (any_subA (lₚ := [18]) (by decide +kernel))
  have mN21 := SDm_of cN21 oz_M1cls_8
  have pf21_1_0 : HID (F21 1 0 = (D21 16 : Int)) := ((show F21 1 0 = F20 1 0 from (eF21 1 0))).trans (((((show F20 1 0 = F 1 0 from (eF20 1 0)))).trans (pf16)).trans (congrArg (fun q : Nat => (q : Int)) ((show D21 16 = D 16 from (eD21 16))).symm))
  have pf21_17_0 : HID (F21 17 0 = (D21 18 : Int)) := (eF21 17 0).trans (pm21_15.trans (congrArg (fun q : Nat => (q : Int)) (eD21 18).symm))
  have hcn : CNT ((w20_1)) ((u7_1)) ((u4_4)) ((z21)) := CTN_CNT hct (by (have qg0 := HIDe r3; have qg1 := HIDe r4; omega)) (by rw [hsF.1]; exact hrg) (by (have qg0 := HIDe r3; have qg1 := HIDe r4; omega)) (by (have qg0 := HIDe r3; have qg1 := HIDe r4; omega)) (by (have qg0 := HIDe r3; have qg1 := HIDe r4; omega)) hps (by (have qg0 := HIDe r3; have qg1 := HIDe r4; omega))
  try clear pz21_1
  try clear pz21_2
  refine Ew_stk (show ([I (z21), .ref (D 7), .ref (D 1), .ref (D 0)] : List Value) = [I (z21), .ref (D21 7), .ref (D21 1), .ref (D21 0)] by rw [show D21 0 = D 0 from mD21 0 rfl, show D21 1 = D 1 from mD21 1 rfl, show D21 7 = D 7 from mD21 7 rfl]) ?_
  refine v_inv H (o := 0) rfl rfl rfl rfl rfl rfl (by rfl) (C148_Row_Share (D := puc 288511989106082304 D21) (N := puc 288511989106082304 N21) (HW_subc H oz_M1cls_22 oz_M1cls_11) ((mF21 0 1 rfl).trans ((pf4).trans (congrArg (fun q : Nat => (q : Int)) (mD21 4 rfl).symm))) ((mF21 0 12 rfl).trans ((pf2).trans (congrArg (fun q : Nat => (q : Int)) (mD21 2 rfl).symm))) ((mF21 7 2 rfl).trans ((pf8).trans (congrArg (fun q : Nat => (q : Int)) (mD21 8 rfl).symm))) (pf21_1_0) (n2) ((congrArg (fun q : Nat => (q : Int)) (mN21 2 rfl)).trans (en2)) (n8) ((congrArg (fun q : Nat => (q : Int)) (mN21 8 rfl)).trans (en8)) (n16) ((congrArg (fun q : Nat => (q : Int)) (show N21 16 = N 16 from (eN21 16))).trans (en16)) (u1_1) (((((show F21 1 1 = F20 1 1 from (eF21 1 1))).trans ((show F20 1 1 = F 1 1 from (eF20 1 1)))).trans (eu1_1))) (u1_4) (((((show F21 1 4 = F20 1 4 from (eF21 1 4))).trans ((show F20 1 4 = F 1 4 from (eF20 1 4)))).trans (eu1_4))) (F21 7 0) (rfl) (u7_1) (((mF21 7 1 rfl).trans (eu7_1))) (u4_4) (((mF21 4 4 rfl).trans (eu4_4))) (w20_1) (((show A21 2 = A20 2 from (eA21 2).trans (funext (hA21 2 rfl)))).trans ((eA20 2).trans ew20_1)) (A21 8) (rfl) (show inr (z21) from pz21_0) (show CNT ((w20_1)) ((u7_1)) ((u4_4)) (z21) from hcn) (show (u7_1) ≤ (n2) ∧ (n8) = (u7_1) from q_4137 h1 hsF) (show 0 ≤ (u1_1) ∧ (u1_1) ≤ (n16) ∧ (n16) ≤ 65536 from h5) (show 0 ≤ (u1_4) ∧ (u1_4) ≤ 7 from h6) (fun σ25 D25ₚ N25ₚ F25ₚ A25ₚ c25 s25 Hₚ Oₚ hD25 hN25 hS25 hA25 (pm25_6 : HID _) m25_6 (em25_6 : HID _) y25_1_1 (ey25_1_1 : HID _) y25_1_4 (ey25_1_4 : HID _) y25_2_0 (ey25_2_0 : HID _) w25_5 ew25_5 pz25_0 pz25_1 pz25_2 pz25_3 pz25_4 pz25_5 => ⟨rfl, ?_⟩))
  refine v_backMc (c := (c + c21)) (s := (s + s21)) H oz_M1cls_22 oz_M1cls_11 Hₚ Oₚ hD25 oz_M1cls_23 (fun D25 N25 F25 A25 H Oₚ eD25 eN25 eF25 eA25 => ?_)
  have O := OUT_trans O Oₚ
  -- Packer.packShare
  have cF25 : SF oz_M1clsl_0 F F25 := SF_trans (cF21) (SF_gluc (ι := oz_M1clsl_5) oz_M1cls_11 hS25 eF25 (by decide +kernel)) (any_sub (lₚ := [(1, 0), (1, 1), (1, 2), (1, 3), (1, 4), (7, 0)]) (by decide +kernel))
  have mF25 := SFm_of cF25 oz_M1cls_6
  have cA25 : SA oz_M1clsl_1 A A25 := SA_trans (cA21) (SA_gluc (ι := oz_M1clsl_5) oz_M1cls_11 hA25 eA25 (by decide +kernel)) (any_subA (lₚ := [8, 16]) (by decide +kernel))
  have mA25 := SAm_of cA25 oz_M1cls_7
  have cD25 : SD oz_M1clsl_2 D D25 := SD_trans (cD21) (SD_gluc (ι := oz_M1clsl_5) oz_M1cls_11 hD25 eD25 (by decide +kernel)) (any_subA (lₚ := [16]) (by decide +kernel))
  have mD25 := SDm_of cD25 oz_M1cls_8
  have cN25 : SD oz_M1clsl_2 N N25 := SD_trans (cN21) (SD_gluc (ι := oz_M1clsl_5) oz_M1cls_11 hN25 eN25 (by decide +kernel)) (any_subA (lₚ := [16]) (by decide +kernel))
  have mN25 := SDm_of cN25 oz_M1cls_8
  have pf25_1_0 : HID (F25 1 0 = (D25 16 : Int)) := (eF25 1 0).trans (pm25_6.trans (congrArg (fun q : Nat => (q : Int)) (eD25 16).symm))
  have pf25_17_0 : HID (F25 17 0 = (D25 18 : Int)) := ((show F25 17 0 = F21 17 0 from (eF25 17 0))).trans ((pf21_17_0).trans (congrArg (fun q : Nat => (q : Int)) ((show D25 18 = D21 18 from (eD25 18))).symm))
  exact w_ret rfl (k _ _ _ _ _ _ _ H O (cD25) (cN25) (cF25) (cA25) (pf25_1_0) (pf25_17_0) (m25_6) ((congrArg (fun q : Nat => (q : Int)) (eN25 16)).trans em25_6) (m21_15) ((congrArg (fun q : Nat => (q : Int)) (show N25 18 = N21 18 from (eN25 18))).trans ((congrArg (fun q : Nat => (q : Int)) (eN21 18)).trans em21_15)) (y25_1_1) (((eF25 1 1).trans ey25_1_1)) (y25_1_4) (((eF25 1 4).trans ey25_1_4)) (y21_14_1) ((((show F25 17 1 = F21 17 1 from (eF25 17 1))).trans ((eF21 17 1).trans ey21_14_1))) (show 0 ≤ (y25_1_1) ∧ (y25_1_1) ≤ (m25_6) ∧ (m25_6) ≤ 65536 from pz25_3) (show 0 ≤ (y25_1_4) ∧ (y25_1_4) ≤ 7 from q_3436 pz25_4) (show 0 ≤ (y21_14_1) ∧ (y21_14_1) ≤ (m21_15) ∧ (m21_15) ≤ 65536 from pz21_3))
