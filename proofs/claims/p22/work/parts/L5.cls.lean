abbrev V142 : vV := [(0, 6, [(4, 0), (4, 0), (4, 0), (4, 0), (4, 0), (4, 0), (4, 0), (4, 0), (4, 0), (4, 0), (4, 0), (4, 0), (4, 0), (4, 0), (4, 0), (0, 0), (0, 0), (4, 0), (4, 0)]), (0, 7, [(4, 0), (0, 0), (1, 0), (0, 0), (0, 0)]), (1, 0, []), (0, 7, [(4, 0), (0, 0), (1, 0), (0, 0), (0, 0)]), (1, 0, []), (0, 7, [(4, 0), (0, 0), (1, 0), (0, 0), (0, 0)]), (1, 0, []), (0, 9, [(4, 0), (4, 0), (4, 0)]), (0, 3, [(4, 0), (4, 0), (4, 0), (0, 0), (4, 0), (4, 0), (4, 0), (4, 0), (4, 0), (4, 0), (4, 0), (4, 0), (4, 0), (0, 0), (0, 0), (0, 0), (0, 0)]), (1, 1, []), (1, 1, [])]
theorem len_V142_oz_L5cls : (V142).length = 11 := by decide +kernel
theorem oz_L5cls_1 : vsub V142 V160 [1, 2] = true := by decide +kernel
theorem oz_L5cls_2 : vmov V142 [1, 2] [1] = true := by decide +kernel
theorem oz_L5cls_3 : vsub V142 V111_Row_Br [8, 1, 4, 2, 10, 9] = true := by decide +kernel
theorem oz_L5cls_4 : vmov V142 [8, 1, 4, 2, 10, 9] [3] = true := by decide +kernel
theorem oz_L5cls_5 : vsub V142 V112_Br [8, 4, 10] = true := by decide +kernel
theorem oz_L5cls_6 : vsub V142 V161_Br [1, 6, 2] = true := by decide +kernel
theorem oz_L5cls_7 : vmov V142 [1, 6, 2] [2] = true := by decide +kernel
def oz_L5clsl_0 : List (Nat × Nat) := [(1, 0), (1, 1), (1, 2), (1, 3), (1, 4)]
theorem oz_L5cls_8 : (oz_L5clsl_0).all (fun p => !tbz 133143986176 (Nat.add (Nat.mul 32 p.1) p.2)) = true := by decide +kernel
def oz_L5clsl_1 : List Nat := [2]
theorem oz_L5cls_9 : (oz_L5clsl_1).all (fun p => !tbz 4 p) = true := by decide +kernel
def oz_L5clsl_2 : List Nat := [1, 2]
theorem oz_L5cls_10 : okc oz_L5clsl_2 1025 = true := by decide +kernel
def oz_L5clsl_3 : List Nat := [8, 1, 4, 2, 10, 9]
theorem oz_L5cls_11 : okc oz_L5clsl_3 317346813051400 = true := by decide +kernel
def oz_L5clsl_4 : List Nat := [8, 4, 10]
theorem oz_L5cls_12 : okc oz_L5clsl_4 2623496 = true := by decide +kernel
def oz_L5clsl_5 : List Nat := [1, 6, 2]
theorem oz_L5cls_13 : okc oz_L5clsl_5 527361 = true := by decide +kernel
set_option maxHeartbeats 16000000 in
/-- Packer.packCoded: this, this.packed, this.packed.bytes, this.literals, this.literals.bytes, this.told, this.told.bytes, this.next, this.next.codes, this.next.codes.codes, this.next.codes.lengths -/
theorem C142 {σE : rS} {D N : Nat → Nat} {F : hF} {A : hA} {d c s : Nat} {Q : wQ} (H : HW V142 σE D N F A) {a1 : Int} (pf1 : HID (F 0 8 = (D 1 : Int))) (pf2 : HID (F 1 0 = (D 2 : Int))) (pf3 : HID (F 0 9 = (D 3 : Int))) (pf4 : HID (F 3 0 = (D 4 : Int))) (pf5 : HID (F 0 10 = (D 5 : Int))) (pf6 : HID (F 5 0 = (D 6 : Int))) (pf7 : HID (F 0 7 = (D 7 : Int))) (pf8 : HID (F 7 0 = (D 8 : Int))) (pf9 : HID (F 8 1 = (D 9 : Int))) (pf10 : HID (F 8 0 = (D 10 : Int))) (n2 : Int) (en2 : HID ((N 2 : Int) = n2)) (n4 : Int) (en4 : HID ((N 4 : Int) = n4)) (n6 : Int) (en6 : HID ((N 6 : Int) = n6)) (n9 : Int) (en9 : HID ((N 9 : Int) = n9)) (n10 : Int) (en10 : HID ((N 10 : Int) = n10)) (u1_1 : Int) (eu1_1 : HID (F 1 1 = u1_1)) (u1_4 : Int) (eu1_4 : HID (F 1 4 = u1_4)) (u3_1 : Int) (eu3_1 : HID (F 3 1 = u3_1)) (u5_1 : Int) (eu5_1 : HID (F 5 1 = u5_1)) (u8_3 : Int) (eu8_3 : HID (F 8 3 = u8_3)) (w10 : Int → Int) (ew10 : A 10 = w10) (h0 : inr (a1)) (h1 : 0 ≤ (u1_1) ∧ (u1_1) ≤ (n2) ∧ (n2) ≤ 65536) (h2 : 0 ≤ (u1_4) ∧ (u1_4) ≤ 7) (h3 : 0 ≤ (u3_1) ∧ (u3_1) ≤ (n4) ∧ (n4) ≤ 65536) (h4 : 0 ≤ (u5_1) ∧ (u5_1) ≤ (n6) ∧ (n6) ≤ 65536) (h5 : 0 ≤ (a1) ∧ (a1) ≤ 1000000) (h6 : (n9) = 256) (h7 : 0 ≤ (u8_3) ∧ (u8_3) ≤ 11) (h8 : LNG ((w10)) ((u8_3))) (h9 : (n10) = 256) (k : ∀ (σ : rS) (Dₚ Nₚ : Nat → Nat) (Fₚ : hF) (Aₚ : hA) (cₚ sₚ : Nat), HW V142 σ Dₚ Nₚ Fₚ Aₚ → OUT (V142).length D N σE c s Dₚ Nₚ σ cₚ sₚ → SD [2] D Dₚ → SD [2] N Nₚ → SF [(1, 0), (1, 1), (1, 2), (1, 3), (1, 4)] F Fₚ → SA [2] A Aₚ → Fₚ 1 0 = (Dₚ 2 : Int) → ∀ m2 : Int, (Nₚ 2 : Int) = m2 → ∀ y1_1 : Int, Fₚ 1 1 = y1_1 → ∀ y1_4 : Int, Fₚ 1 4 = y1_4 → (0 ≤ (y1_1) ∧ (y1_1) ≤ (m2) ∧ (m2) ≤ 65536) → (0 ≤ (y1_4) ∧ (y1_4) ≤ 7) → Q none σ cₚ sₚ) : Ew 142 (d + 3) 0 (rargs 0 [.ref (D 0), I a1]) [] σE c s Q := by
  have O := OUT_refl (n := (V142).length) (D := D) (N := N) (σ := σE) (c := c) (s := s)
  have HE := H
  have r3 : HID ((-2147483648 : Int) ≤ u3_1 ∧ u3_1 ≤ 2147483647) := krg_e (show (-2147483648 : Int) ≤ F 3 1 ∧ F 3 1 ≤ 2147483647 from H.krg 3 1 (ltn len_V142_oz_L5cls rfl)) (show F 3 1 = u3_1 from (eu3_1))
  have r7 : HID ((0 : Int) ≤ n4 ∧ n4 ≤ 1000000) := nrng (H.nle 4 (ltn len_V142_oz_L5cls rfl)) (show (N 4 : Int) = n4 from en4)
  refine Ew_of (pcₚ := 1) (fun _ => x_aload_n rfl rfl) ?_
  refine v_g H (o := 0) (v := .ref (D 3)) rfl rfl rfl rfl rfl (vrf (pf3)) ?_
  refine v_g H (o := 3) (v := I (u3_1)) rfl rfl rfl rfl rfl (congrArg (fun z : Int => I z) ((eu3_1) : F 3 1 = u3_1)) ?_
  refine Ew_of (pcₚ := 8) (fun _ => x_istore_n rfl) ?_
  refine Ew_of (pcₚ := 9) (fun _ => x_iload_n rfl rk_s) ?_
  refine Ew_of (pcₚ := 12) (fun _ => x_sipush (z := 1024) rfl (by decide)) ?_
  have hc20 : ∀ (tc20_0 : Int), ∀ (ls : rO) (σ : rS) (F_c20 : hF) (A_c20 : hA) , rlook ls 0 = some (.ref (D 0)) → rlook ls 1 = some (I (a1)) → rlook ls 2 = some (I (u3_1)) → HW V142 σ D N F_c20 A_c20 → OUT (V142).length D N σE c s D N σ c s → SF [] F F_c20 → SA [] A A_c20 → (inr (tc20_0)) → (((u3_1) ≥ (1024) ∧ (tc20_0) = (4)) ∨ ((u3_1) < (1024) ∧ (tc20_0) = (1))) → Ew 142 (d + 3) 20 ls [I (tc20_0)] σ c s Q := by
   as_aux_lemma =>
    intro tc20_0 ls σ F_c20 A_c20  lc20_0 lc20_1 lc20_2 H O hS_c20 hA_c20     jc20_0 jc20_1
    have cF_c20 : SF oz_L5clsl_0 F F_c20 := SF_trans (SF_refl) hS_c20 (any_sub (by decide +kernel))
    have mF_c20 := SFm_of cF_c20 oz_L5cls_8
    have cA_c20 : SA oz_L5clsl_1 A A_c20 := SA_trans (SA_refl) hA_c20 (any_subA (by decide +kernel))
    have mA_c20 := SAm_of cA_c20 oz_L5cls_9
    refine Ew_of (pcₚ := 21) (fun _ => x_istore_n rfl) ?_
    refine Ew_of (pcₚ := 22) (fun _ => x_iload_n rfl (rk_o (lc20_2) rfl rfl)) ?_
    refine Ew_of (pcₚ := 23) (fun _ => x_iload_n rfl rk_s) ?_
    refine w_iadd rfl ?_
    refine Ew_of (pcₚ := 25) (fun _ => x_iconst rfl) ?_
    refine w_isub rfl ?_
    refine Ew_of (pcₚ := 27) (fun _ => x_iload_n rfl rk_s) ?_
    refine w_idiv rfl (show inr (((u3_1 + tc20_0) - 1)) ∧ 0 ≤ ((u3_1 + tc20_0) - 1) from q_3905 h3 jc20_1) (show inr (tc20_0) ∧ 0 < tc20_0 from q_3904 jc20_0 jc20_1) ?_
    have hea : 0 ≤ (((((u3_1 + tc20_0) - 1) / tc20_0)) : Int) ∧ (((((u3_1 + tc20_0) - 1) / tc20_0)) : Int) ≤ 65536 ∧ (((tc20_0) : Int) = 1 ∧ (((((u3_1 + tc20_0) - 1) / tc20_0)) : Int) = (u3_1) ∨ ((tc20_0) : Int) = 4 ∧ 1024 ≤ (u3_1) ∧ 4 * (((((u3_1 + tc20_0) - 1) / tc20_0)) : Int) ≤ (u3_1) + 3 ∧ (u3_1) ≤ 4 * (((((u3_1 + tc20_0) - 1) / tc20_0)) : Int)) := by rcases (show ((tc20_0) : Int) = 1 ∧ (u3_1) < 1024 ∨ ((tc20_0) : Int) = 4 ∧ 1024 ≤ (u3_1) by (have qg0 := HIDe r3; omega)) with q | q <;> rw [q.1] <;> (have qg0 := HIDe r3; omega)
    refine Ew_of (pcₚ := 30) (fun _ => x_istore rfl) ?_
    refine Ew_of (pcₚ := 31) (fun _ => x_iload_n rfl (rk_o (rk_s) rfl rfl)) ?_
    refine Ew_of (pcₚ := 32) (fun _ => x_iconst rfl) ?_
    have hc60 : ∀ (tc60_0 : Int), ∀ (ls : rO) (σ : rS) (F_c60 : hF) (A_c60 : hA) , rlook ls 0 = some (.ref (D 0)) → rlook ls 1 = some (I (a1)) → rlook ls 2 = some (I (u3_1)) → rlook ls 3 = some (I (tc20_0)) → rlook ls 4 = some (I ((((u3_1 + tc20_0) - 1) / tc20_0))) → HW V142 σ D N F_c60 A_c60 → OUT (V142).length D N σE c s D N σ c s → SF [] F_c20 F_c60 → SA [] A_c20 A_c60 → (inr (tc60_0)) → (((tc20_0) ≠ (1) ∧ (u3_1) ≥ (16384) ∧ (tc60_0) = (5)) ∨ ((tc20_0) ≠ (1) ∧ (u3_1) < (16384) ∧ ((a1 - 4)) ≥ (16384) ∧ (tc60_0) = (5)) ∨ ((tc20_0) ≠ (1) ∧ (u3_1) < (16384) ∧ ((a1 - 4)) < (16384) ∧ (tc60_0) = (4)) ∨ ((tc20_0) = (1) ∧ (tc60_0) = (3))) → Ew 142 (d + 3) 60 ls [I (tc60_0)] σ c s Q := by
     as_aux_lemma =>
      intro tc60_0 ls σ F_c60 A_c60  lc60_0 lc60_1 lc60_2 lc60_3 lc60_4 H O hS_c60 hA_c60     jc60_0 jc60_1
      have cF_c60 : SF oz_L5clsl_0 F F_c60 := SF_trans (cF_c20) hS_c60 (any_sub (by decide +kernel))
      have mF_c60 := SFm_of cF_c60 oz_L5cls_8
      have cA_c60 : SA oz_L5clsl_1 A A_c60 := SA_trans (cA_c20) hA_c60 (any_subA (by decide +kernel))
      have mA_c60 := SAm_of cA_c60 oz_L5cls_9
      refine Ew_of (pcₚ := 62) (fun _ => x_istore rfl) ?_
      refine Ew_of (pcₚ := 63) (fun _ => x_iload_n rfl (rk_o (lc60_3) rfl rfl)) ?_
      refine Ew_of (pcₚ := 64) (fun _ => x_iconst rfl) ?_
      have hc75 : ∀ (tc75_0 : Int), ∀ (ls : rO) (σ : rS) (F_c75 : hF) (A_c75 : hA) , rlook ls 0 = some (.ref (D 0)) → rlook ls 1 = some (I (a1)) → rlook ls 2 = some (I (u3_1)) → rlook ls 3 = some (I (tc20_0)) → rlook ls 4 = some (I ((((u3_1 + tc20_0) - 1) / tc20_0))) → rlook ls 5 = some (I (tc60_0)) → HW V142 σ D N F_c75 A_c75 → OUT (V142).length D N σE c s D N σ c s → SF [] F_c60 F_c75 → SA [] A_c60 A_c75 → (inr (tc75_0)) → (((tc20_0) ≠ (1) ∧ (tc75_0) = ((tc60_0 - 2))) ∨ ((tc20_0) = (1) ∧ (tc75_0) = (0))) → Ew 142 (d + 3) 75 ls [I (tc75_0)] σ c s Q := by
       as_aux_lemma =>
        intro tc75_0 ls σ F_c75 A_c75  lc75_0 lc75_1 lc75_2 lc75_3 lc75_4 lc75_5 H O hS_c75 hA_c75     jc75_0 jc75_1
        have cF_c75 : SF oz_L5clsl_0 F F_c75 := SF_trans (cF_c60) hS_c75 (any_sub (by decide +kernel))
        have mF_c75 := SFm_of cF_c75 oz_L5cls_8
        have cA_c75 : SA oz_L5clsl_1 A A_c75 := SA_trans (cA_c60) hA_c75 (any_subA (by decide +kernel))
        have mA_c75 := SAm_of cA_c75 oz_L5cls_9
        refine Ew_of (pcₚ := 77) (fun _ => x_istore rfl) ?_
        refine Ew_of (pcₚ := 78) (fun _ => x_iload_n rfl (rk_o (lc75_3) rfl rfl)) ?_
        refine Ew_of (pcₚ := 79) (fun _ => x_iconst rfl) ?_
        have hc94 : ∀ (tc94_0 : Int), ∀ (ls : rO) (σ : rS) (F_c94 : hF) (A_c94 : hA) , rlook ls 0 = some (.ref (D 0)) → rlook ls 1 = some (I (a1)) → rlook ls 2 = some (I (u3_1)) → rlook ls 3 = some (I (tc20_0)) → rlook ls 4 = some (I ((((u3_1 + tc20_0) - 1) / tc20_0))) → rlook ls 5 = some (I (tc60_0)) → rlook ls 6 = some (I (tc75_0)) → HW V142 σ D N F_c94 A_c94 → OUT (V142).length D N σE c s D N σ c s → SF [] F_c75 F_c94 → SA [] A_c75 A_c94 → (inr (tc94_0)) → (((tc20_0) ≠ (1) ∧ (tc94_0) = (((4 * tc75_0) + 6))) ∨ ((tc20_0) = (1) ∧ (tc94_0) = (10))) → Ew 142 (d + 3) 94 ls [I (tc94_0)] σ c s Q := by
         as_aux_lemma =>
          intro tc94_0 ls σ F_c94 A_c94  lc94_0 lc94_1 lc94_2 lc94_3 lc94_4 lc94_5 lc94_6 H O hS_c94 hA_c94     jc94_0 jc94_1
          have cF_c94 : SF oz_L5clsl_0 F F_c94 := SF_trans (cF_c75) hS_c94 (any_sub (by decide +kernel))
          have mF_c94 := SFm_of cF_c94 oz_L5cls_8
          have cA_c94 : SA oz_L5clsl_1 A A_c94 := SA_trans (cA_c75) hA_c94 (any_subA (by decide +kernel))
          have mA_c94 := SAm_of cA_c94 oz_L5cls_9
          refine Ew_of (pcₚ := 96) (fun _ => x_istore rfl) ?_
          refine Ew_of (pcₚ := 97) (fun _ => x_aload_n rfl (rk_o (lc94_0) rfl rfl)) ?_
          refine v_g H (o := 0) (v := .ref (D 1)) rfl rfl rfl rfl rfl (vrf ((mF_c94 0 8 rfl).trans (pf1))) ?_
          refine Ew_of (pcₚ := 101) (fun _ => x_iload_n rfl (rk_o (lc94_1) rfl rfl)) ?_
          refine Ew_of (pcₚ := 103) (fun _ => x_iload rfl (rk_o (lc94_5) rfl rfl)) ?_
          refine w_isub rfl ?_
          refine w_i2l rfl (show inr ((a1 - tc60_0)) by omega) ?_
          refine Ew_of (pcₚ := 106) (fun _ => x_iconst rfl) ?_
          refine Ew_of (pcₚ := 108) (fun _ => x_iload rfl rk_s) ?_
          refine w_iadd rfl ?_
          refine w_lshlA rfl (fun z11 gz11 => ?_)
          refine Ew_of (pcₚ := 111) (fun _ => x_iload_n rfl (rk_o (lc94_2) rfl rfl)) ?_
          refine w_i2l rfl (show inr (u3_1) from q_884 h3) ?_
          refine Ew_of (pcₚ := 113) (fun _ => x_iconst rfl) ?_
          refine w_lshlA rfl (fun z12 gz12 => ?_)
          refine w_lorA rfl (fun z13 gz13 => ?_)
          refine Ew_of (pcₚ := 117) (fun _ => x_iload rfl (rk_o (lc94_6) rfl rfl)) ?_
          refine Ew_of (pcₚ := 118) (fun _ => x_iconst rfl) ?_
          refine w_ishlA rfl (fun z14 gz14 => ?_)
          refine w_i2l rfl (show inr (z14) from gz14) ?_
          refine w_lorA rfl (fun z15 gz15 => ?_)
          refine Ew_of (pcₚ := 122) (fun _ => x_aload_n rfl (rk_o (lc94_0) rfl rfl)) ?_
          have r16 : HID ((-2147483648 : Int) ≤ F 0 16 ∧ F 0 16 ≤ 2147483647) := krg_e (show (-2147483648 : Int) ≤ F_c94 0 16 ∧ F_c94 0 16 ≤ 2147483647 from H.krg 0 16 (ltn len_V142_oz_L5cls rfl)) (show F_c94 0 16 = F 0 16 from (mF_c94 0 16 rfl))
          refine v_g H (o := 0) (v := I (F 0 16)) rfl rfl rfl rfl rfl (congrArg (fun z : Int => I z) ((mF_c94 0 16 rfl) : F_c94 0 16 = F 0 16)) ?_
          refine w_i2l rfl (show inr (F 0 16) from q_22 (HIDe r16)) ?_
          refine w_lorA rfl (fun z17 gz17 => ?_)
          refine Ew_of (pcₚ := 129) (fun _ => x_iload rfl (rk_o (lc94_5) rfl rfl)) ?_
          refine v_inv H (o := 1) rfl rfl rfl rfl rfl rfl (by rfl) (C160 (D := puc 1025 D) (N := puc 1025 N) (HW_subc H oz_L5cls_1 oz_L5cls_10) ((((((hS_c94 1 0 rfl).trans (hS_c75 1 0 rfl)).trans (hS_c60 1 0 rfl)).trans (hS_c20 1 0 rfl))).trans (pf2)) (n2) (en2) (u1_1) ((((((hS_c94 1 1 rfl).trans (hS_c75 1 1 rfl)).trans (hS_c60 1 1 rfl)).trans (hS_c20 1 1 rfl)).trans (eu1_1))) (show inrJ (z17) from gz17) (show inr (tc60_0) from jc60_0) (show 0 ≤ (u1_1) ∧ (u1_1) ≤ (n2) ∧ (n2) ≤ 65536 from h1) (fun σ18 D18ₚ N18ₚ F18ₚ A18ₚ c18 s18 Hₚ Oₚ hD18 hN18 hS18 hA18 (pm18_1 : HID _) m18_1 (em18_1 : HID _) y18_0_1 (ey18_0_1 : HID _) pz18_0 pz18_1 => ⟨rfl, ?_⟩))
          refine v_backMc (c := c) (s := s) H oz_L5cls_1 oz_L5cls_10 Hₚ Oₚ hD18 oz_L5cls_2 (fun D18 N18 F18 A18 H Oₚ eD18 eN18 eF18 eA18 => ?_)
          have O := OUT_trans O Oₚ
          -- Row.addNumber
          have cF18 : SF oz_L5clsl_0 F F18 := SF_trans (cF_c94) (SF_gluc (ι := oz_L5clsl_2) oz_L5cls_10 hS18 eF18 (by decide +kernel)) (any_sub (lₚ := [(1, 0), (1, 1), (1, 2)]) (by decide +kernel))
          have mF18 := SFm_of cF18 oz_L5cls_8
          have cA18 : SA oz_L5clsl_1 A A18 := SA_trans (cA_c94) (SA_gluc (ι := oz_L5clsl_2) oz_L5cls_10 hA18 eA18 (by decide +kernel)) (any_subA (lₚ := [2]) (by decide +kernel))
          have mA18 := SAm_of cA18 oz_L5cls_9
          have cD18 : SD oz_L5clsl_1 D D18 := SD_trans (SD_refl) (SD_gluc (ι := oz_L5clsl_2) oz_L5cls_10 hD18 eD18 (by decide +kernel)) (any_subA (lₚ := [2]) (by decide +kernel))
          have mD18 := SDm_of cD18 oz_L5cls_9
          have cN18 : SD oz_L5clsl_1 N N18 := SD_trans (SD_refl) (SD_gluc (ι := oz_L5clsl_2) oz_L5cls_10 hN18 eN18 (by decide +kernel)) (any_subA (lₚ := [2]) (by decide +kernel))
          have mN18 := SDm_of cN18 oz_L5cls_9
          have pf18_1_0 : HID (F18 1 0 = (D18 2 : Int)) := (eF18 1 0).trans (pm18_1.trans (congrArg (fun q : Nat => (q : Int)) (eD18 2).symm))
          have hc162 : ∀ (ls : rO) (σ : rS) (D_c162 N_c162 : Nat → Nat) (c_c162 s_c162 : Nat) (F_c162 : hF) (A_c162 : hA) , rlook ls 0 = some (.ref (D_c162 0)) → rlook ls 2 = some (I (u3_1)) → rlook ls 3 = some (I (tc20_0)) → rlook ls 4 = some (I ((((u3_1 + tc20_0) - 1) / tc20_0))) → HW V142 σ D_c162 N_c162 F_c162 A_c162 → OUT (V142).length D N σE c s D_c162 N_c162 σ c_c162 s_c162 → SD [2] D18 D_c162 → SD [2] N18 N_c162 → SF [(1, 0), (1, 1), (1, 2)] F18 F_c162 → SA [2] A18 A_c162 → F_c162 1 0 = (D_c162 2 : Int) → ∀ mc162_2 : Int, (N_c162 2 : Int) = mc162_2 → ∀ yc162_1_1 : Int, F_c162 1 1 = yc162_1_1 → (0 ≤ (yc162_1_1) ∧ (yc162_1_1) ≤ (mc162_2) ∧ (mc162_2) ≤ 65536) → Ew 142 (d + 3) 162 ls [] σ c_c162 s_c162 Q := by
           as_aux_lemma =>
            intro  ls σ D_c162 N_c162 c_c162 s_c162 F_c162 A_c162  lc162_0 lc162_2 lc162_3 lc162_4 H O hD_c162 hN_c162 hS_c162 hA_c162 pmc162_2 mc162_2 emc162_2 yc162_1_1 eyc162_1_1  jc162_0
            have cF_c162 : SF oz_L5clsl_0 F F_c162 := SF_trans (cF18) hS_c162 (any_sub (by decide +kernel))
            have mF_c162 := SFm_of cF_c162 oz_L5cls_8
            have cA_c162 : SA oz_L5clsl_1 A A_c162 := SA_trans (cA18) hA_c162 (any_subA (by decide +kernel))
            have mA_c162 := SAm_of cA_c162 oz_L5cls_9
            have cD_c162 : SD oz_L5clsl_1 D D_c162 := SD_trans (cD18) hD_c162 (any_subA (by decide +kernel))
            have mD_c162 := SDm_of cD_c162 oz_L5cls_9
            have cN_c162 : SD oz_L5clsl_1 N N_c162 := SD_trans (cN18) hN_c162 (any_subA (by decide +kernel))
            have mN_c162 := SDm_of cN_c162 oz_L5cls_9
            replace pmc162_2 := HIDm pmc162_2
            replace emc162_2 := HIDm emc162_2
            replace eyc162_1_1 := HIDm eyc162_1_1
            try clear pz18_1
            try clear pz18_1
            refine Ew_of (pcₚ := 163) (fun _ => x_iconst rfl) ?_
            refine Ew_of (pcₚ := 165) (fun _ => x_istore rfl) ?_
            suffices hl165 : ∀ (m : Nat), ∀ (ls : rO) (σ : rS) (D_165 N_165 : Nat → Nat) (c_165 s_165 : Nat) (F_165 : hF) (A_165 : hA) (x165_8 : Int), rlook ls 0 = some (.ref (D_165 0)) → rlook ls 2 = some (I (u3_1)) → rlook ls 3 = some (I (tc20_0)) → rlook ls 4 = some (I ((((u3_1 + tc20_0) - 1) / tc20_0))) → rlook ls 8 = some (I (x165_8)) → HW V142 σ D_165 N_165 F_165 A_165 → OUT (V142).length D N σE c s D_165 N_165 σ c_165 s_165 → SD [2] D_c162 D_165 → SD [2] N_c162 N_165 → SF [(1, 0), (1, 1), (1, 2)] F_c162 F_165 → SA [2] A_c162 A_165 → F_165 1 0 = (D_165 2 : Int) → ∀ m165_2 : Int, (N_165 2 : Int) = m165_2 → ∀ y165_1_1 : Int, F_165 1 1 = y165_1_1 → (inr (x165_8)) → (0 ≤ (x165_8) ∧ (x165_8) ≤ 4) → (0 ≤ (y165_1_1) ∧ (y165_1_1) ≤ (m165_2) ∧ (m165_2) ≤ 65536) → (4 - (x165_8)).toNat = m → Ew 142 (d + 3) 165 ls [] σ c_165 s_165 Q from
              hl165 _ _ _ _ _ _ _ _ _ (0) (rk_o (lc162_0) rfl rfl) (rk_o (lc162_2) rfl rfl) (rk_o (lc162_3) rfl rfl) (rk_o (lc162_4) rfl rfl) (rk_s) H O (SD_refl) (SD_refl) (SF_refl) (SA_refl) (pmc162_2) (mc162_2) (emc162_2) (yc162_1_1) ((eyc162_1_1))  (show inr (0) from q_20) (show 0 ≤ (0) ∧ (0) ≤ 4 from q_1353) (show 0 ≤ (yc162_1_1) ∧ (yc162_1_1) ≤ (mc162_2) ∧ (mc162_2) ≤ 65536 from jc162_0) rfl
            as_aux_lemma =>
            intro m
            induction m using Nat.strongRecOn with
            | _ m ih165 =>
              intro ls σ D_165 N_165 c_165 s_165 F_165 A_165 x165_8 l165_0 l165_2 l165_3 l165_4 l165_8 H O hD_165 hN_165 hS_165 hA_165 pm165_2 m165_2 em165_2 y165_1_1 ey165_1_1  j165_0 j165_1 j165_2 hm165
              have cF_165 : SF oz_L5clsl_0 F F_165 := SF_trans (cF_c162) hS_165 (any_sub (by decide +kernel))
              have mF_165 := SFm_of cF_165 oz_L5cls_8
              have cA_165 : SA oz_L5clsl_1 A A_165 := SA_trans (cA_c162) hA_165 (any_subA (by decide +kernel))
              have mA_165 := SAm_of cA_165 oz_L5cls_9
              have cD_165 : SD oz_L5clsl_1 D D_165 := SD_trans (cD_c162) hD_165 (any_subA (by decide +kernel))
              have mD_165 := SDm_of cD_165 oz_L5cls_9
              have cN_165 : SD oz_L5clsl_1 N N_165 := SD_trans (cN_c162) hN_165 (any_subA (by decide +kernel))
              have mN_165 := SDm_of cN_165 oz_L5cls_9
              replace pm165_2 := HIDm pm165_2
              replace em165_2 := HIDm em165_2
              replace ey165_1_1 := HIDm ey165_1_1
              refine Ew_of (pcₚ := 167) (fun _ => x_iload rfl l165_8) ?_
              refine Ew_of (pcₚ := 168) (fun _ => x_iload_n rfl l165_3) ?_
              refine Ew_of (pcₚ := 169) (fun _ => x_iconst rfl) ?_
              refine w_isub rfl ?_
              refine w_icmpge (t := 217) rfl rfl (show inr (x165_8) from j165_0) (show inr ((tc20_0 - 1)) from q_4026 hea jc20_0 jc94_1) (fun b25 => ?_) (fun b25 => ?_)
              · refine Ew_of (pcₚ := 218) (fun _ => x_iconst rfl) ?_
                refine Ew_of (pcₚ := 220) (fun _ => x_istore rfl) ?_
                suffices hl220 : ∀ (m : Nat), ∀ (ls : rO) (σ : rS) (D_220 N_220 : Nat → Nat) (c_220 s_220 : Nat) (F_220 : hF) (A_220 : hA) (x220_8 : Int), rlook ls 0 = some (.ref (D_220 0)) → rlook ls 2 = some (I (u3_1)) → rlook ls 3 = some (I (tc20_0)) → rlook ls 4 = some (I ((((u3_1 + tc20_0) - 1) / tc20_0))) → rlook ls 8 = some (I (x220_8)) → HW V142 σ D_220 N_220 F_220 A_220 → OUT (V142).length D N σE c s D_220 N_220 σ c_220 s_220 → SD [2] D_165 D_220 → SD [2] N_165 N_220 → SF [(1, 0), (1, 1), (1, 2), (1, 3), (1, 4)] F_165 F_220 → SA [2] A_165 A_220 → F_220 1 0 = (D_220 2 : Int) → ∀ m220_2 : Int, (N_220 2 : Int) = m220_2 → ∀ y220_1_1 : Int, F_220 1 1 = y220_1_1 → ∀ y220_1_4 : Int, F_220 1 4 = y220_1_4 → (inr (x220_8)) → (0 ≤ (x220_8) ∧ (x220_8) ≤ 4) → (0 ≤ (y220_1_1) ∧ (y220_1_1) ≤ (m220_2) ∧ (m220_2) ≤ 65536) → (0 ≤ (y220_1_4) ∧ (y220_1_4) ≤ 7) → (4 - (x220_8)).toNat = m → Ew 142 (d + 3) 220 ls [] σ c_220 s_220 Q from
                  hl220 _ _ _ _ _ _ _ _ _ (0) (rk_o (l165_0) rfl rfl) (rk_o (l165_2) rfl rfl) (rk_o (l165_3) rfl rfl) (rk_o (l165_4) rfl rfl) (rk_s) H O (SD_refl) (SD_refl) (SF_refl) (SA_refl) (pm165_2) (m165_2) (em165_2) (y165_1_1) ((ey165_1_1)) (u1_4) (((((((((hS_165 1 4 rfl).trans (hS_c162 1 4 rfl)).trans ((show F18 1 4 = F_c94 1 4 from (eF18 1 4).trans (hS18 0 4 rfl)))).trans (hS_c94 1 4 rfl)).trans (hS_c75 1 4 rfl)).trans (hS_c60 1 4 rfl)).trans (hS_c20 1 4 rfl)).trans (eu1_4)))  (show inr (0) from q_20) (show 0 ≤ (0) ∧ (0) ≤ 4 from q_1353) (show 0 ≤ (y165_1_1) ∧ (y165_1_1) ≤ (m165_2) ∧ (m165_2) ≤ 65536 from j165_2) (show 0 ≤ (u1_4) ∧ (u1_4) ≤ 7 from h2) rfl
                as_aux_lemma =>
                intro m
                induction m using Nat.strongRecOn with
                | _ m ih220 =>
                  intro ls σ D_220 N_220 c_220 s_220 F_220 A_220 x220_8 l220_0 l220_2 l220_3 l220_4 l220_8 H O hD_220 hN_220 hS_220 hA_220 pm220_2 m220_2 em220_2 y220_1_1 ey220_1_1 y220_1_4 ey220_1_4  j220_0 j220_1 j220_2 j220_3 hm220
                  have cF_220 : SF oz_L5clsl_0 F F_220 := SF_trans (cF_165) hS_220 (any_sub (by decide +kernel))
                  have mF_220 := SFm_of cF_220 oz_L5cls_8
                  have cA_220 : SA oz_L5clsl_1 A A_220 := SA_trans (cA_165) hA_220 (any_subA (by decide +kernel))
                  have mA_220 := SAm_of cA_220 oz_L5cls_9
                  have cD_220 : SD oz_L5clsl_1 D D_220 := SD_trans (cD_165) hD_220 (any_subA (by decide +kernel))
                  have mD_220 := SDm_of cD_220 oz_L5cls_9
                  have cN_220 : SD oz_L5clsl_1 N N_220 := SD_trans (cN_165) hN_220 (any_subA (by decide +kernel))
                  have mN_220 := SDm_of cN_220 oz_L5cls_9
                  replace pm220_2 := HIDm pm220_2
                  replace em220_2 := HIDm em220_2
                  replace ey220_1_1 := HIDm ey220_1_1
                  replace ey220_1_4 := HIDm ey220_1_4
                  refine Ew_of (pcₚ := 222) (fun _ => x_iload rfl l220_8) ?_
                  refine Ew_of (pcₚ := 223) (fun _ => x_iload_n rfl l220_3) ?_
                  refine w_icmpge (t := 269) rfl rfl (show inr (x220_8) from j220_0) (show inr (tc20_0) from jc20_0) (fun b29 => ?_) (fun b29 => ?_)
                  · exact w_ret rfl (k _ _ _ _ _ _ _ H O (cD_220) (cN_220) (cF_220) (cA_220) (pm220_2) (m220_2) (em220_2) (y220_1_1) ((ey220_1_1)) (y220_1_4) ((ey220_1_4)) (show 0 ≤ (y220_1_1) ∧ (y220_1_1) ≤ (m220_2) ∧ (m220_2) ≤ 65536 from j220_2) (show 0 ≤ (y220_1_4) ∧ (y220_1_4) ≤ 7 from j220_3))
                  · refine Ew_of (pcₚ := 227) (fun _ => x_aload_n rfl l220_0) ?_
                    refine v_g H (o := 0) (v := .ref (D_220 7)) rfl rfl rfl rfl rfl (vrf ((mF_220 0 7 rfl).trans ((pf7).trans (congrArg (fun q : Nat => (q : Int)) (mD_220 7 rfl).symm)))) ?_
                    refine v_g H (o := 7) (v := .ref (D_220 8)) rfl rfl rfl rfl rfl (vrf ((mF_220 7 0 rfl).trans ((pf8).trans (congrArg (fun q : Nat => (q : Int)) (mD_220 8 rfl).symm)))) ?_
                    refine Ew_of (pcₚ := 234) (fun _ => x_aload_n rfl l220_0) ?_
                    refine v_g H (o := 0) (v := .ref (D_220 1)) rfl rfl rfl rfl rfl (vrf ((mF_220 0 8 rfl).trans ((pf1).trans (congrArg (fun q : Nat => (q : Int)) (mD_220 1 rfl).symm)))) ?_
                    refine Ew_of (pcₚ := 238) (fun _ => x_aload_n rfl l220_0) ?_
                    refine v_g H (o := 0) (v := .ref (D_220 3)) rfl rfl rfl rfl rfl (vrf ((mF_220 0 9 rfl).trans ((pf3).trans (congrArg (fun q : Nat => (q : Int)) (mD_220 3 rfl).symm)))) ?_
                    refine v_g H (o := 3) (v := .ref (D_220 4)) rfl rfl rfl rfl rfl (vrf ((mF_220 3 0 rfl).trans ((pf4).trans (congrArg (fun q : Nat => (q : Int)) (mD_220 4 rfl).symm)))) ?_
                    have hpr : 0 ≤ (x220_8) * ((((u3_1 + tc20_0) - 1) / tc20_0)) ∧ (x220_8) * ((((u3_1 + tc20_0) - 1) / tc20_0)) ≤ (u3_1) ∧ 0 ≤ ((x220_8) + 1) * ((((u3_1 + tc20_0) - 1) / tc20_0)) ∧ ((x220_8) + 1) * ((((u3_1 + tc20_0) - 1) / tc20_0)) ≤ 300000 ∧ (x220_8) * ((((u3_1 + tc20_0) - 1) / tc20_0)) ≤ ((x220_8) + 1) * ((((u3_1 + tc20_0) - 1) / tc20_0)) := by rcases (show (x220_8) = 0 ∨ (x220_8) = 1 ∨ (x220_8) = 2 ∨ (x220_8) = 3 by (have qg0 := HIDe r3; omega)) with q | q | q | q <;> rw [q] <;> (have qg0 := HIDe r3; omega)
                    refine Ew_of (pcₚ := 246) (fun _ => x_iload rfl l220_8) ?_
                    refine Ew_of (pcₚ := 248) (fun _ => x_iload rfl l220_4) ?_
                    refine w_imul rfl ?_
                    refine Ew_of (pcₚ := 250) (fun _ => x_iload_n rfl l220_2) ?_
                    refine Ew_of (pcₚ := 252) (fun _ => x_iload rfl l220_8) ?_
                    refine Ew_of (pcₚ := 253) (fun _ => x_iconst rfl) ?_
                    refine w_iadd rfl ?_
                    refine Ew_of (pcₚ := 256) (fun _ => x_iload rfl l220_4) ?_
                    refine w_imul rfl ?_
                    refine v_min rfl rfl (show inr (u3_1) from q_884 h3) (show inr (((x220_8 + 1) * (((u3_1 + tc20_0) - 1) / tc20_0))) from q_4027 hpr) (fun z30 gz30 => ?_)
                    refine v_inv H (o := 8) rfl rfl rfl rfl rfl rfl (by rfl) (C111_Row_Br (D := puc 317346813051400 D_220) (N := puc 317346813051400 N_220) (HW_subc H oz_L5cls_3 oz_L5cls_11) (pm220_2) ((mF_220 8 0 rfl).trans ((pf10).trans (congrArg (fun q : Nat => (q : Int)) (mD_220 10 rfl).symm))) ((mF_220 8 1 rfl).trans ((pf9).trans (congrArg (fun q : Nat => (q : Int)) (mD_220 9 rfl).symm))) (n4) ((congrArg (fun q : Nat => (q : Int)) (mN_220 4 rfl)).trans (en4)) (m220_2) (em220_2) (n10) ((congrArg (fun q : Nat => (q : Int)) (mN_220 10 rfl)).trans (en10)) (n9) ((congrArg (fun q : Nat => (q : Int)) (mN_220 9 rfl)).trans (en9)) (u8_3) (((mF_220 8 3 rfl).trans (eu8_3))) (y220_1_1) ((ey220_1_1)) (y220_1_4) ((ey220_1_4)) (w10) ((funext (mA_220 10 rfl)).trans (ew10)) (show inr ((x220_8 * (((u3_1 + tc20_0) - 1) / tc20_0))) from q_4031 hpr) (show inr (z30) from q_4030 gz30 h3 hpr) (show 0 ≤ (y220_1_1) ∧ (y220_1_1) ≤ (m220_2) ∧ (m220_2) ≤ 65536 from j220_2) (show 0 ≤ (y220_1_4) ∧ (y220_1_4) ≤ 7 from j220_3) (show 0 ≤ ((x220_8 * (((u3_1 + tc20_0) - 1) / tc20_0))) ∧ ((x220_8 * (((u3_1 + tc20_0) - 1) / tc20_0))) ≤ (z30) ∧ (z30) ≤ (n4) ∧ (n4) ≤ 65536 from q_4029 (HIDe r7) gz30 h3 hpr) (show 0 ≤ ((u8_3)) ∧ ((u8_3)) ≤ 11 from h7) (show LNG ((w10)) ((u8_3)) from h8) (show (n10) = 256 ∧ (n9) = 256 from q_4028 h6 h9) (fun σ31 D31ₚ N31ₚ F31ₚ A31ₚ c31 s31 Hₚ Oₚ hD31 hN31 hS31 hA31 (pm31_3 : HID _) m31_3 (em31_3 : HID _) y31_1_1 (ey31_1_1 : HID _) y31_1_4 (ey31_1_4 : HID _) pz31_0 pz31_1 pz31_2 => ⟨rfl, ?_⟩))
                    refine v_backMc (c := c_220) (s := s_220) H oz_L5cls_3 oz_L5cls_11 Hₚ Oₚ hD31 oz_L5cls_4 (fun D31 N31 F31 A31 H Oₚ eD31 eN31 eF31 eA31 => ?_)
                    have O := OUT_trans O Oₚ
                    -- Codes.pack
                    have cF31 : SF oz_L5clsl_0 F F31 := SF_trans (cF_220) (SF_gluc (ι := oz_L5clsl_3) oz_L5cls_11 hS31 eF31 (by decide +kernel)) (any_sub (lₚ := [(1, 0), (1, 1), (1, 2), (1, 3), (1, 4)]) (by decide +kernel))
                    have mF31 := SFm_of cF31 oz_L5cls_8
                    have cA31 : SA oz_L5clsl_1 A A31 := SA_trans (cA_220) (SA_gluc (ι := oz_L5clsl_3) oz_L5cls_11 hA31 eA31 (by decide +kernel)) (any_subA (lₚ := [2]) (by decide +kernel))
                    have mA31 := SAm_of cA31 oz_L5cls_9
                    have cD31 : SD oz_L5clsl_1 D D31 := SD_trans (cD_220) (SD_gluc (ι := oz_L5clsl_3) oz_L5cls_11 hD31 eD31 (by decide +kernel)) (any_subA (lₚ := [2]) (by decide +kernel))
                    have mD31 := SDm_of cD31 oz_L5cls_9
                    have cN31 : SD oz_L5clsl_1 N N31 := SD_trans (cN_220) (SD_gluc (ι := oz_L5clsl_3) oz_L5cls_11 hN31 eN31 (by decide +kernel)) (any_subA (lₚ := [2]) (by decide +kernel))
                    have mN31 := SDm_of cN31 oz_L5cls_9
                    have pf31_1_0 : HID (F31 1 0 = (D31 2 : Int)) := (eF31 1 0).trans (pm31_3.trans (congrArg (fun q : Nat => (q : Int)) (eD31 2).symm))
                    refine Ew_of (pcₚ := 266) (fun _ => x_iinc (len := 3) rfl (l220_8)) ?_
                    refine Ew_of (pcₚ := 220) (fun _ => x_goto rfl rfl) ?_
                    exact ih220 _ (by omega) _ _ _ _ _ _ _ _ ((x220_8 + 1)) ((rk_o (l220_0) rfl rfl).trans (congrArg (fun q : Nat => some (Value.ref q)) (((show D31 0 = D_220 0 from (eD31 0)))).symm)) (rk_o (l220_2) rfl rfl) (rk_o (l220_3) rfl rfl) (rk_o (l220_4) rfl rfl) (rk_s) H O (SD_trans (hD_220) (SD_gluc (ι := oz_L5clsl_3) oz_L5cls_11 hD31 eD31 (by decide +kernel)) (any_subA (lₚ := [2]) (by decide +kernel))) (SD_trans (hN_220) (SD_gluc (ι := oz_L5clsl_3) oz_L5cls_11 hN31 eN31 (by decide +kernel)) (any_subA (lₚ := [2]) (by decide +kernel))) (SF_trans (hS_220) (SF_gluc (ι := oz_L5clsl_3) oz_L5cls_11 hS31 eF31 (by decide +kernel)) (any_sub (lₚ := [(1, 0), (1, 1), (1, 2), (1, 3), (1, 4)]) (by decide +kernel))) (SA_trans (hA_220) (SA_gluc (ι := oz_L5clsl_3) oz_L5cls_11 hA31 eA31 (by decide +kernel)) (any_subA (lₚ := [2]) (by decide +kernel))) (pf31_1_0) (m31_3) ((congrArg (fun q : Nat => (q : Int)) (eN31 2)).trans em31_3) (y31_1_1) (((eF31 1 1).trans ey31_1_1)) (y31_1_4) (((eF31 1 4).trans ey31_1_4))  (show inr ((x220_8 + 1)) from q_4032 j220_1) (show 0 ≤ ((x220_8 + 1)) ∧ ((x220_8 + 1)) ≤ 4 by omega) (show 0 ≤ (y31_1_1) ∧ (y31_1_1) ≤ (m31_3) ∧ (m31_3) ≤ 65536 from pz31_0) (show 0 ≤ (y31_1_4) ∧ (y31_1_4) ≤ 7 from q_3436 pz31_1) rfl
              · refine Ew_of (pcₚ := 174) (fun _ => x_aload_n rfl l165_0) ?_
                refine v_g H (o := 0) (v := .ref (D_165 1)) rfl rfl rfl rfl rfl (vrf ((mF_165 0 8 rfl).trans ((pf1).trans (congrArg (fun q : Nat => (q : Int)) (mD_165 1 rfl).symm)))) ?_
                refine Ew_of (pcₚ := 178) (fun _ => x_aload_n rfl l165_0) ?_
                refine v_g H (o := 0) (v := .ref (D_165 7)) rfl rfl rfl rfl rfl (vrf ((mF_165 0 7 rfl).trans ((pf7).trans (congrArg (fun q : Nat => (q : Int)) (mD_165 7 rfl).symm)))) ?_
                refine v_g H (o := 7) (v := .ref (D_165 8)) rfl rfl rfl rfl rfl (vrf ((mF_165 7 0 rfl).trans ((pf8).trans (congrArg (fun q : Nat => (q : Int)) (mD_165 8 rfl).symm)))) ?_
                refine Ew_of (pcₚ := 185) (fun _ => x_aload_n rfl l165_0) ?_
                refine v_g H (o := 0) (v := .ref (D_165 3)) rfl rfl rfl rfl rfl (vrf ((mF_165 0 9 rfl).trans ((pf3).trans (congrArg (fun q : Nat => (q : Int)) (mD_165 3 rfl).symm)))) ?_
                refine v_g H (o := 3) (v := .ref (D_165 4)) rfl rfl rfl rfl rfl (vrf ((mF_165 3 0 rfl).trans ((pf4).trans (congrArg (fun q : Nat => (q : Int)) (mD_165 4 rfl).symm)))) ?_
                have hpr : 0 ≤ (x165_8) * ((((u3_1 + tc20_0) - 1) / tc20_0)) ∧ ((x165_8) + 1) * ((((u3_1 + tc20_0) - 1) / tc20_0)) ≤ (u3_1) ∧ (x165_8) * ((((u3_1 + tc20_0) - 1) / tc20_0)) ≤ ((x165_8) + 1) * ((((u3_1 + tc20_0) - 1) / tc20_0)) := by rcases (show (x165_8) = 0 ∨ (x165_8) = 1 ∨ (x165_8) = 2 by (have qg0 := HIDe r3; omega)) with q | q | q <;> rw [q] <;> (have qg0 := HIDe r3; omega)
                refine Ew_of (pcₚ := 193) (fun _ => x_iload rfl l165_8) ?_
                refine Ew_of (pcₚ := 195) (fun _ => x_iload rfl l165_4) ?_
                refine w_imul rfl ?_
                refine Ew_of (pcₚ := 198) (fun _ => x_iload rfl l165_8) ?_
                refine Ew_of (pcₚ := 199) (fun _ => x_iconst rfl) ?_
                refine w_iadd rfl ?_
                refine Ew_of (pcₚ := 202) (fun _ => x_iload rfl l165_4) ?_
                refine w_imul rfl ?_
                refine v_inv H (o := 8) rfl rfl rfl rfl rfl rfl (by rfl) (C112_Br (D := puc 2623496 D_165) (N := puc 2623496 N_165) (HW_subc H oz_L5cls_5 oz_L5cls_12) ((mF_165 8 0 rfl).trans ((pf10).trans (congrArg (fun q : Nat => (q : Int)) (mD_165 10 rfl).symm))) (n4) ((congrArg (fun q : Nat => (q : Int)) (mN_165 4 rfl)).trans (en4)) (n10) ((congrArg (fun q : Nat => (q : Int)) (mN_165 10 rfl)).trans (en10)) (u8_3) (((mF_165 8 3 rfl).trans (eu8_3))) (w10) ((funext (mA_165 10 rfl)).trans (ew10)) (show inr ((x165_8 * (((u3_1 + tc20_0) - 1) / tc20_0))) from q_4035 h3 hpr) (show inr (((x165_8 + 1) * (((u3_1 + tc20_0) - 1) / tc20_0))) from q_4034 h3 hpr) (show 0 ≤ ((x165_8 * (((u3_1 + tc20_0) - 1) / tc20_0))) ∧ (((x165_8 + 1) * (((u3_1 + tc20_0) - 1) / tc20_0))) ≤ (n4) ∧ (n4) ≤ 65536 from q_4033 h3 hpr) (show 0 ≤ ((u8_3)) ∧ ((u8_3)) ≤ 11 from h7) (show LNG ((w10)) ((u8_3)) from h8) (show (n10) = 256 from h9) (fun z35 σ35 F35ₚ A35ₚ Hₚ Oₚ hS35 hA35 pz35_0 pz35_1 => ⟨rfl, ?_⟩))
                refine v_backc (c := c_165) (s := s_165) H oz_L5cls_5 oz_L5cls_12 Hₚ Oₚ (fun F35 A35 H Oₚ eF35 eA35 => ?_)
                have O := OUT_trans O Oₚ
                -- Codes.packedSize
                have cF35 : SF oz_L5clsl_0 F F35 := SF_trans (cF_165) (SF_gluc (ι := oz_L5clsl_4) oz_L5cls_12 hS35 eF35 (by decide +kernel)) (any_sub (lₚ := []) (by decide +kernel))
                have mF35 := SFm_of cF35 oz_L5cls_8
                have cA35 : SA oz_L5clsl_1 A A35 := SA_trans (cA_165) (SA_gluc (ι := oz_L5clsl_4) oz_L5cls_12 hA35 eA35 (by decide +kernel)) (any_subA (lₚ := []) (by decide +kernel))
                have mA35 := SAm_of cA35 oz_L5cls_9
                refine w_i2l rfl (show inr (z35) from pz35_0) ?_
                refine Ew_of (pcₚ := 208) (fun _ => x_iconst rfl) ?_
                refine v_inv H (o := 1) rfl rfl rfl rfl rfl rfl (by rfl) (C160 (D := puc 1025 D_165) (N := puc 1025 N_165) (HW_subc H oz_L5cls_1 oz_L5cls_10) ((((show F35 1 0 = F_165 1 0 from (eF35 1 0)))).trans (pm165_2)) (m165_2) (em165_2) (y165_1_1) ((((show F35 1 1 = F_165 1 1 from (eF35 1 1))).trans (ey165_1_1))) (show inrJ (z35) from q_4036 pz35_1) (show inr (2) from q_55) (show 0 ≤ (y165_1_1) ∧ (y165_1_1) ≤ (m165_2) ∧ (m165_2) ≤ 65536 from j165_2) (fun σ36 D36ₚ N36ₚ F36ₚ A36ₚ c36 s36 Hₚ Oₚ hD36 hN36 hS36 hA36 (pm36_1 : HID _) m36_1 (em36_1 : HID _) y36_0_1 (ey36_0_1 : HID _) pz36_0 pz36_1 => ⟨rfl, ?_⟩))
                refine v_backMc (c := c_165) (s := s_165) H oz_L5cls_1 oz_L5cls_10 Hₚ Oₚ hD36 oz_L5cls_2 (fun D36 N36 F36 A36 H Oₚ eD36 eN36 eF36 eA36 => ?_)
                have O := OUT_trans O Oₚ
                -- Row.addNumber
                have cF36 : SF oz_L5clsl_0 F F36 := SF_trans (cF35) (SF_gluc (ι := oz_L5clsl_2) oz_L5cls_10 hS36 eF36 (by decide +kernel)) (any_sub (lₚ := [(1, 0), (1, 1), (1, 2)]) (by decide +kernel))
                have mF36 := SFm_of cF36 oz_L5cls_8
                have cA36 : SA oz_L5clsl_1 A A36 := SA_trans (cA35) (SA_gluc (ι := oz_L5clsl_2) oz_L5cls_10 hA36 eA36 (by decide +kernel)) (any_subA (lₚ := [2]) (by decide +kernel))
                have mA36 := SAm_of cA36 oz_L5cls_9
                have cD36 : SD oz_L5clsl_1 D D36 := SD_trans (cD_165) (SD_gluc (ι := oz_L5clsl_2) oz_L5cls_10 hD36 eD36 (by decide +kernel)) (any_subA (lₚ := [2]) (by decide +kernel))
                have mD36 := SDm_of cD36 oz_L5cls_9
                have cN36 : SD oz_L5clsl_1 N N36 := SD_trans (cN_165) (SD_gluc (ι := oz_L5clsl_2) oz_L5cls_10 hN36 eN36 (by decide +kernel)) (any_subA (lₚ := [2]) (by decide +kernel))
                have mN36 := SDm_of cN36 oz_L5cls_9
                have pf36_1_0 : HID (F36 1 0 = (D36 2 : Int)) := (eF36 1 0).trans (pm36_1.trans (congrArg (fun q : Nat => (q : Int)) (eD36 2).symm))
                try clear pz36_1
                refine Ew_of (pcₚ := 214) (fun _ => x_iinc (len := 3) rfl (l165_8)) ?_
                refine Ew_of (pcₚ := 165) (fun _ => x_goto rfl rfl) ?_
                exact ih165 _ (by omega) _ _ _ _ _ _ _ _ ((x165_8 + 1)) ((rk_o (l165_0) rfl rfl).trans (congrArg (fun q : Nat => some (Value.ref q)) (((show D36 0 = D_165 0 from (eD36 0)))).symm)) (rk_o (l165_2) rfl rfl) (rk_o (l165_3) rfl rfl) (rk_o (l165_4) rfl rfl) (rk_s) H O (SD_trans (hD_165) (SD_gluc (ι := oz_L5clsl_2) oz_L5cls_10 hD36 eD36 (by decide +kernel)) (any_subA (lₚ := [2]) (by decide +kernel))) (SD_trans (hN_165) (SD_gluc (ι := oz_L5clsl_2) oz_L5cls_10 hN36 eN36 (by decide +kernel)) (any_subA (lₚ := [2]) (by decide +kernel))) (SF_trans (SF_trans (hS_165) (SF_gluc (ι := oz_L5clsl_4) oz_L5cls_12 hS35 eF35 (by decide +kernel)) (any_sub (lₚ := []) (by decide +kernel))) (SF_gluc (ι := oz_L5clsl_2) oz_L5cls_10 hS36 eF36 (by decide +kernel)) (any_sub (lₚ := [(1, 0), (1, 1), (1, 2)]) (by decide +kernel))) (SA_trans (SA_trans (hA_165) (SA_gluc (ι := oz_L5clsl_4) oz_L5cls_12 hA35 eA35 (by decide +kernel)) (any_subA (lₚ := []) (by decide +kernel))) (SA_gluc (ι := oz_L5clsl_2) oz_L5cls_10 hA36 eA36 (by decide +kernel)) (any_subA (lₚ := [2]) (by decide +kernel))) (pf36_1_0) (m36_1) ((congrArg (fun q : Nat => (q : Int)) (eN36 2)).trans em36_1) (y36_0_1) (((eF36 1 1).trans ey36_0_1))  (show inr ((x165_8 + 1)) from q_4032 j165_1) (show 0 ≤ ((x165_8 + 1)) ∧ ((x165_8 + 1)) ≤ 4 by omega) (show 0 ≤ (y36_0_1) ∧ (y36_0_1) ≤ (m36_1) ∧ (m36_1) ≤ 65536 from pz36_0) rfl
          try clear pz18_1
          refine Ew_of (pcₚ := 133) (fun _ => x_aload_n rfl (rk_o (lc94_0) rfl rfl)) ?_
          refine Ew_stk (congrArg (fun qz : Nat => ([.ref qz] : List Value)) (show D18 0 = D 0 from mD18 0 rfl).symm) ?_
          refine v_g H (o := 0) (v := I (F 0 16)) rfl rfl rfl rfl rfl (congrArg (fun z : Int => I z) ((mF18 0 16 rfl) : F18 0 16 = F 0 16)) ?_
          refine Ew_of (pcₚ := 137) (fun _ => x_iconst rfl) ?_
          refine w_icmpne (t := 162) rfl rfl (show inr (F 0 16) from q_22 (HIDe r16)) (show inr (2) from q_55) (fun b39 => ?_) (fun b39 => ?_)
          · exact hc162  _ _ _ _ _ _ _ _  ((rk_o (lc94_0) rfl rfl).trans (congrArg (fun q : Nat => some (Value.ref q)) (mD18 0 rfl).symm)) (rk_o (lc94_2) rfl rfl) (rk_o (lc94_3) rfl rfl) (rk_o (lc94_4) rfl rfl) H O (SD_refl) (SD_refl) (SF_refl) (SA_refl) (pf18_1_0) (m18_1) ((congrArg (fun q : Nat => (q : Int)) (eN18 2)).trans em18_1) (y18_0_1) (((eF18 1 1).trans ey18_0_1))  (show 0 ≤ (y18_0_1) ∧ (y18_0_1) ≤ (m18_1) ∧ (m18_1) ≤ 65536 from pz18_0)
          · refine Ew_of (pcₚ := 141) (fun _ => x_aload_n rfl (rk_o (lc94_0) rfl rfl)) ?_
            refine Ew_stk (congrArg (fun qz : Nat => ([.ref qz] : List Value)) (show D18 0 = D 0 from mD18 0 rfl).symm) ?_
            refine v_g H (o := 0) (v := .ref (D18 1)) rfl rfl rfl rfl rfl (vrf ((mF18 0 8 rfl).trans ((pf1).trans (congrArg (fun q : Nat => (q : Int)) (mD18 1 rfl).symm)))) ?_
            refine Ew_of (pcₚ := 145) (fun _ => x_aload_n rfl (rk_o (lc94_0) rfl rfl)) ?_
            refine Ew_stk (congrArg (fun qz : Nat => ([.ref qz, .ref (D18 1)] : List Value)) (show D18 0 = D 0 from mD18 0 rfl).symm) ?_
            refine v_g H (o := 0) (v := .ref (D18 5)) rfl rfl rfl rfl rfl (vrf ((mF18 0 10 rfl).trans ((pf5).trans (congrArg (fun q : Nat => (q : Int)) (mD18 5 rfl).symm)))) ?_
            refine v_g H (o := 5) (v := .ref (D18 6)) rfl rfl rfl rfl rfl (vrf ((mF18 5 0 rfl).trans ((pf6).trans (congrArg (fun q : Nat => (q : Int)) (mD18 6 rfl).symm)))) ?_
            refine Ew_of (pcₚ := 152) (fun _ => x_iconst rfl) ?_
            refine Ew_of (pcₚ := 153) (fun _ => x_aload_n rfl (rk_o (lc94_0) rfl rfl)) ?_
            refine Ew_stk (congrArg (fun qz : Nat => ([.ref qz, I (0), .ref (D18 6), .ref (D18 1)] : List Value)) (show D18 0 = D 0 from mD18 0 rfl).symm) ?_
            refine v_g H (o := 0) (v := .ref (D18 5)) rfl rfl rfl rfl rfl (vrf ((mF18 0 10 rfl).trans ((pf5).trans (congrArg (fun q : Nat => (q : Int)) (mD18 5 rfl).symm)))) ?_
            refine v_g H (o := 5) (v := I (u5_1)) rfl rfl rfl rfl rfl (congrArg (fun z : Int => I z) (((mF18 5 1 rfl).trans (eu5_1)) : F18 5 1 = u5_1)) ?_
            refine v_inv H (o := 1) rfl rfl rfl rfl rfl rfl (by rfl) (C161_Br (D := puc 527361 D18) (N := puc 527361 N18) (HW_subc H oz_L5cls_6 oz_L5cls_13) (pf18_1_0) (n6) ((congrArg (fun q : Nat => (q : Int)) (mN18 6 rfl)).trans (en6)) (m18_1) ((congrArg (fun q : Nat => (q : Int)) (eN18 2)).trans em18_1) (y18_0_1) (((eF18 1 1).trans ey18_0_1)) (A18 2) (rfl) (show inr (0) from q_20) (show inr (u5_1) from q_884 h4) (show 0 ≤ (y18_0_1) ∧ (y18_0_1) ≤ (m18_1) ∧ (m18_1) ≤ 65536 from pz18_0) (show (u5_1) < 0 ∨ 0 ≤ (0) ∧ (0) + (u5_1) ≤ (n6) from q_2548 h4) (fun σ40 D40ₚ N40ₚ F40ₚ A40ₚ c40 s40 Hₚ Oₚ hD40 hN40 hS40 hA40 (pm40_2 : HID _) m40_2 (em40_2 : HID _) y40_0_1 (ey40_0_1 : HID _) w40_2 ew40_2 pz40_0 pz40_1 pz40_2 => ⟨rfl, ?_⟩))
            refine v_backMc (c := (c + c18)) (s := (s + s18)) H oz_L5cls_6 oz_L5cls_13 Hₚ Oₚ hD40 oz_L5cls_7 (fun D40 N40 F40 A40 H Oₚ eD40 eN40 eF40 eA40 => ?_)
            have O := OUT_trans O Oₚ
            -- Row.addPart
            have cF40 : SF oz_L5clsl_0 F F40 := SF_trans (cF18) (SF_gluc (ι := oz_L5clsl_5) oz_L5cls_13 hS40 eF40 (by decide +kernel)) (any_sub (lₚ := [(1, 0), (1, 1), (1, 2)]) (by decide +kernel))
            have mF40 := SFm_of cF40 oz_L5cls_8
            have cA40 : SA oz_L5clsl_1 A A40 := SA_trans (cA18) (SA_gluc (ι := oz_L5clsl_5) oz_L5cls_13 hA40 eA40 (by decide +kernel)) (any_subA (lₚ := [2]) (by decide +kernel))
            have mA40 := SAm_of cA40 oz_L5cls_9
            have cD40 : SD oz_L5clsl_1 D D40 := SD_trans (cD18) (SD_gluc (ι := oz_L5clsl_5) oz_L5cls_13 hD40 eD40 (by decide +kernel)) (any_subA (lₚ := [2]) (by decide +kernel))
            have mD40 := SDm_of cD40 oz_L5cls_9
            have cN40 : SD oz_L5clsl_1 N N40 := SD_trans (cN18) (SD_gluc (ι := oz_L5clsl_5) oz_L5cls_13 hN40 eN40 (by decide +kernel)) (any_subA (lₚ := [2]) (by decide +kernel))
            have mN40 := SDm_of cN40 oz_L5cls_9
            have pf40_1_0 : HID (F40 1 0 = (D40 2 : Int)) := (eF40 1 0).trans (pm40_2.trans (congrArg (fun q : Nat => (q : Int)) (eD40 2).symm))
            exact hc162  _ _ _ _ _ _ _ _  ((rk_o (lc94_0) rfl rfl).trans (congrArg (fun q : Nat => some (Value.ref q)) (mD40 0 rfl).symm)) (rk_o (lc94_2) rfl rfl) (rk_o (lc94_3) rfl rfl) (rk_o (lc94_4) rfl rfl) H O (SD_trans (SD_refl) (SD_gluc (ι := oz_L5clsl_5) oz_L5cls_13 hD40 eD40 (by decide +kernel)) (any_subA (lₚ := [2]) (by decide +kernel))) (SD_trans (SD_refl) (SD_gluc (ι := oz_L5clsl_5) oz_L5cls_13 hN40 eN40 (by decide +kernel)) (any_subA (lₚ := [2]) (by decide +kernel))) (SF_trans (SF_refl) (SF_gluc (ι := oz_L5clsl_5) oz_L5cls_13 hS40 eF40 (by decide +kernel)) (any_sub (lₚ := [(1, 0), (1, 1), (1, 2)]) (by decide +kernel))) (SA_trans (SA_refl) (SA_gluc (ι := oz_L5clsl_5) oz_L5cls_13 hA40 eA40 (by decide +kernel)) (any_subA (lₚ := [2]) (by decide +kernel))) (pf40_1_0) (m40_2) ((congrArg (fun q : Nat => (q : Int)) (eN40 2)).trans em40_2) (y40_0_1) (((eF40 1 1).trans ey40_0_1))  (show 0 ≤ (y40_0_1) ∧ (y40_0_1) ≤ (m40_2) ∧ (m40_2) ≤ 65536 from pz40_0)
        refine w_icmpne (t := 87) rfl rfl (show inr (tc20_0) from jc20_0) (show inr (1) from q_23) (fun b43 => ?_) (fun b43 => ?_)
        · refine Ew_of (pcₚ := 88) (fun _ => x_iconst rfl) ?_
          refine Ew_of (pcₚ := 90) (fun _ => x_iload rfl rk_s) ?_
          refine w_imul rfl ?_
          refine Ew_of (pcₚ := 93) (fun _ => x_bipush (z := 6) rfl (by decide)) ?_
          refine w_iadd rfl ?_
          exact hc94 (((4 * tc75_0) + 6)) _ _ _ _  (rk_o (lc75_0) rfl rfl) (rk_o (lc75_1) rfl rfl) (rk_o (lc75_2) rfl rfl) (rk_o (lc75_3) rfl rfl) (rk_o (lc75_4) rfl rfl) (rk_o (lc75_5) rfl rfl) (rk_s) H O (SF_refl) (SA_refl)     (show inr (((4 * tc75_0) + 6)) by omega) (show ((tc20_0) ≠ (1) ∧ (((4 * tc75_0) + 6)) = (((4 * tc75_0) + 6))) ∨ ((tc20_0) = (1) ∧ (((4 * tc75_0) + 6)) = (10)) from q_4037 b43)
        · refine Ew_of (pcₚ := 84) (fun _ => x_bipush (z := 10) rfl (by decide)) ?_
          refine Ew_of (pcₚ := 94) (fun _ => x_goto rfl rfl) ?_
          exact hc94 (10) _ _ _ _  (rk_o (lc75_0) rfl rfl) (rk_o (lc75_1) rfl rfl) (rk_o (lc75_2) rfl rfl) (rk_o (lc75_3) rfl rfl) (rk_o (lc75_4) rfl rfl) (rk_o (lc75_5) rfl rfl) (rk_s) H O (SF_refl) (SA_refl)     (show inr (10) from q_532) (show ((tc20_0) ≠ (1) ∧ (10) = (((4 * tc75_0) + 6))) ∨ ((tc20_0) = (1) ∧ (10) = (10)) from q_4038 b43)
      refine w_icmpne (t := 71) rfl rfl (show inr (tc20_0) from jc20_0) (show inr (1) from q_23) (fun b44 => ?_) (fun b44 => ?_)
      · refine Ew_of (pcₚ := 73) (fun _ => x_iload rfl rk_s) ?_
        refine Ew_of (pcₚ := 74) (fun _ => x_iconst rfl) ?_
        refine w_isub rfl ?_
        exact hc75 ((tc60_0 - 2)) _ _ _ _  (rk_o (lc60_0) rfl rfl) (rk_o (lc60_1) rfl rfl) (rk_o (lc60_2) rfl rfl) (rk_o (lc60_3) rfl rfl) (rk_o (lc60_4) rfl rfl) (rk_s) H O (SF_refl) (SA_refl)     (show inr ((tc60_0 - 2)) by omega) (show ((tc20_0) ≠ (1) ∧ ((tc60_0 - 2)) = ((tc60_0 - 2))) ∨ ((tc20_0) = (1) ∧ ((tc60_0 - 2)) = (0)) from q_4039 b44)
      · refine Ew_of (pcₚ := 68) (fun _ => x_iconst rfl) ?_
        refine Ew_of (pcₚ := 75) (fun _ => x_goto rfl rfl) ?_
        exact hc75 (0) _ _ _ _  (rk_o (lc60_0) rfl rfl) (rk_o (lc60_1) rfl rfl) (rk_o (lc60_2) rfl rfl) (rk_o (lc60_3) rfl rfl) (rk_o (lc60_4) rfl rfl) (rk_s) H O (SF_refl) (SA_refl)     (show inr (0) from q_20) (show ((tc20_0) ≠ (1) ∧ (0) = ((tc60_0 - 2))) ∨ ((tc20_0) = (1) ∧ (0) = (0)) from q_4040 b44)
    refine w_icmpne (t := 39) rfl rfl (show inr (tc20_0) from jc20_0) (show inr (1) from q_23) (fun b45 => ?_) (fun b45 => ?_)
    · refine Ew_of (pcₚ := 40) (fun _ => x_iload_n rfl (rk_o (rk_o (lc20_2) rfl rfl) rfl rfl)) ?_
      refine Ew_of (pcₚ := 43) (fun _ => x_sipush (z := 16384) rfl (by decide)) ?_
      refine w_icmpge (t := 59) rfl rfl (show inr (u3_1) from q_884 h3) (show inr (16384) from q_2050) (fun b46 => ?_) (fun b46 => ?_)
      · refine Ew_of (pcₚ := 60) (fun _ => x_iconst rfl) ?_
        exact hc60 (5) _ _ _ _  (rk_o (rk_o (lc20_0) rfl rfl) rfl rfl) (rk_o (rk_o (lc20_1) rfl rfl) rfl rfl) (rk_o (rk_o (lc20_2) rfl rfl) rfl rfl) (rk_o (rk_s) rfl rfl) (rk_s) H O (SF_refl) (SA_refl)     (show inr (5) from q_509) (show ((tc20_0) ≠ (1) ∧ (u3_1) ≥ (16384) ∧ (5) = (5)) ∨ ((tc20_0) ≠ (1) ∧ (u3_1) < (16384) ∧ ((a1 - 4)) ≥ (16384) ∧ (5) = (5)) ∨ ((tc20_0) ≠ (1) ∧ (u3_1) < (16384) ∧ ((a1 - 4)) < (16384) ∧ (5) = (4)) ∨ ((tc20_0) = (1) ∧ (5) = (3)) from q_4041 b45 b46)
      · refine Ew_of (pcₚ := 47) (fun _ => x_iload_n rfl (rk_o (rk_o (lc20_1) rfl rfl) rfl rfl)) ?_
        refine Ew_of (pcₚ := 48) (fun _ => x_iconst rfl) ?_
        refine w_isub rfl ?_
        refine Ew_of (pcₚ := 52) (fun _ => x_sipush (z := 16384) rfl (by decide)) ?_
        refine w_icmpge (t := 59) rfl rfl (show inr ((a1 - 4)) from q_4042 h5) (show inr (16384) from q_2050) (fun b47 => ?_) (fun b47 => ?_)
        · refine Ew_of (pcₚ := 60) (fun _ => x_iconst rfl) ?_
          exact hc60 (5) _ _ _ _  (rk_o (rk_o (lc20_0) rfl rfl) rfl rfl) (rk_o (rk_o (lc20_1) rfl rfl) rfl rfl) (rk_o (rk_o (lc20_2) rfl rfl) rfl rfl) (rk_o (rk_s) rfl rfl) (rk_s) H O (SF_refl) (SA_refl)     (show inr (5) from q_509) (show ((tc20_0) ≠ (1) ∧ (u3_1) ≥ (16384) ∧ (5) = (5)) ∨ ((tc20_0) ≠ (1) ∧ (u3_1) < (16384) ∧ ((a1 - 4)) ≥ (16384) ∧ (5) = (5)) ∨ ((tc20_0) ≠ (1) ∧ (u3_1) < (16384) ∧ ((a1 - 4)) < (16384) ∧ (5) = (4)) ∨ ((tc20_0) = (1) ∧ (5) = (3)) from q_4043 b45 b46 b47)
        · refine Ew_of (pcₚ := 56) (fun _ => x_iconst rfl) ?_
          refine Ew_of (pcₚ := 60) (fun _ => x_goto rfl rfl) ?_
          exact hc60 (4) _ _ _ _  (rk_o (rk_o (lc20_0) rfl rfl) rfl rfl) (rk_o (rk_o (lc20_1) rfl rfl) rfl rfl) (rk_o (rk_o (lc20_2) rfl rfl) rfl rfl) (rk_o (rk_s) rfl rfl) (rk_s) H O (SF_refl) (SA_refl)     (show inr (4) from q_2) (show ((tc20_0) ≠ (1) ∧ (u3_1) ≥ (16384) ∧ (4) = (5)) ∨ ((tc20_0) ≠ (1) ∧ (u3_1) < (16384) ∧ ((a1 - 4)) ≥ (16384) ∧ (4) = (5)) ∨ ((tc20_0) ≠ (1) ∧ (u3_1) < (16384) ∧ ((a1 - 4)) < (16384) ∧ (4) = (4)) ∨ ((tc20_0) = (1) ∧ (4) = (3)) from q_4044 b45 b46 b47)
    · refine Ew_of (pcₚ := 36) (fun _ => x_iconst rfl) ?_
      refine Ew_of (pcₚ := 60) (fun _ => x_goto rfl rfl) ?_
      exact hc60 (3) _ _ _ _  (rk_o (rk_o (lc20_0) rfl rfl) rfl rfl) (rk_o (rk_o (lc20_1) rfl rfl) rfl rfl) (rk_o (rk_o (lc20_2) rfl rfl) rfl rfl) (rk_o (rk_s) rfl rfl) (rk_s) H O (SF_refl) (SA_refl)     (show inr (3) from q_66) (show ((tc20_0) ≠ (1) ∧ (u3_1) ≥ (16384) ∧ (3) = (5)) ∨ ((tc20_0) ≠ (1) ∧ (u3_1) < (16384) ∧ ((a1 - 4)) ≥ (16384) ∧ (3) = (5)) ∨ ((tc20_0) ≠ (1) ∧ (u3_1) < (16384) ∧ ((a1 - 4)) < (16384) ∧ (3) = (4)) ∨ ((tc20_0) = (1) ∧ (3) = (3)) from q_4045 b45)
  refine w_icmpge (t := 19) rfl rfl (show inr (u3_1) from q_884 h3) (show inr (1024) from q_1842) (fun b48 => ?_) (fun b48 => ?_)
  · refine Ew_of (pcₚ := 20) (fun _ => x_iconst rfl) ?_
    exact hc20 (4) _ _ _ _  (rk_o (rfl) rfl rfl) (rk_o (rfl) rfl rfl) (rk_s) H O (SF_refl) (SA_refl)     (show inr (4) from q_2) (show ((u3_1) ≥ (1024) ∧ (4) = (4)) ∨ ((u3_1) < (1024) ∧ (4) = (1)) from q_3918 b48)
  · refine Ew_of (pcₚ := 16) (fun _ => x_iconst rfl) ?_
    refine Ew_of (pcₚ := 20) (fun _ => x_goto rfl rfl) ?_
    exact hc20 (1) _ _ _ _  (rk_o (rfl) rfl rfl) (rk_o (rfl) rfl rfl) (rk_s) H O (SF_refl) (SA_refl)     (show inr (1) from q_23) (show ((u3_1) ≥ (1024) ∧ (1) = (4)) ∨ ((u3_1) < (1024) ∧ (1) = (1)) from q_3919 b48)
