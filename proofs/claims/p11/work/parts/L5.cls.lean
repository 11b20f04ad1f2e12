abbrev V142 : vV := [(0, 6, [(4, 0), (4, 0), (4, 0), (4, 0), (4, 0), (4, 0), (4, 0), (4, 0), (4, 0), (4, 0), (4, 0), (4, 0), (4, 0), (4, 0), (4, 0), (0, 0), (0, 0), (4, 0), (4, 0)]), (0, 7, [(4, 0), (0, 0), (1, 0), (0, 0), (0, 0)]), (1, 0, []), (0, 7, [(4, 0), (0, 0), (1, 0), (0, 0), (0, 0)]), (1, 0, []), (0, 7, [(4, 0), (0, 0), (1, 0), (0, 0), (0, 0)]), (1, 0, []), (0, 9, [(4, 0), (4, 0), (4, 0)]), (0, 3, [(4, 0), (4, 0), (4, 0), (0, 0), (4, 0), (4, 0), (4, 0), (4, 0), (4, 0), (4, 0), (4, 0), (4, 0), (4, 0), (0, 0), (0, 0), (0, 0), (0, 0)]), (1, 1, []), (1, 1, [])]
set_option maxHeartbeats 16000000 in
/-- Packer.packCoded: this, this.packed, this.packed.bytes, this.literals, this.literals.bytes, this.told, this.told.bytes, this.next, this.next.codes, this.next.codes.codes, this.next.codes.lengths -/
theorem C142 {σE : rS} {D N : Nat → Nat} {F : hF} {A : hA} {d c s : Nat} {Q : wQ} (H : HW V142 σE D N F A) {a1 : Int} (pf1 : F 0 8 = (D 1 : Int)) (pf2 : F 1 0 = (D 2 : Int)) (pf3 : F 0 9 = (D 3 : Int)) (pf4 : F 3 0 = (D 4 : Int)) (pf5 : F 0 10 = (D 5 : Int)) (pf6 : F 5 0 = (D 6 : Int)) (pf7 : F 0 7 = (D 7 : Int)) (pf8 : F 7 0 = (D 8 : Int)) (pf9 : F 8 1 = (D 9 : Int)) (pf10 : F 8 0 = (D 10 : Int)) (n2 : Int) (en2 : (N 2 : Int) = n2) (n4 : Int) (en4 : (N 4 : Int) = n4) (n6 : Int) (en6 : (N 6 : Int) = n6) (n9 : Int) (en9 : (N 9 : Int) = n9) (n10 : Int) (en10 : (N 10 : Int) = n10) (u1_1 : Int) (eu1_1 : F 1 1 = u1_1) (u1_4 : Int) (eu1_4 : F 1 4 = u1_4) (u3_1 : Int) (eu3_1 : F 3 1 = u3_1) (u5_1 : Int) (eu5_1 : F 5 1 = u5_1) (u8_3 : Int) (eu8_3 : F 8 3 = u8_3) (w10 : Int → Int) (ew10 : A 10 = w10) (h0 : inr (a1)) (h1 : 0 ≤ (u1_1) ∧ (u1_1) ≤ (n2) ∧ (n2) ≤ 65536) (h2 : 0 ≤ (u1_4) ∧ (u1_4) ≤ 7) (h3 : 0 ≤ (u3_1) ∧ (u3_1) ≤ (n4) ∧ (n4) ≤ 65536) (h4 : 0 ≤ (u5_1) ∧ (u5_1) ≤ (n6) ∧ (n6) ≤ 65536) (h5 : 0 ≤ (a1) ∧ (a1) ≤ 1000000) (h6 : (n9) = 256) (h7 : 0 ≤ (u8_3) ∧ (u8_3) ≤ 11) (h8 : LNG ((w10)) ((u8_3))) (h9 : (n10) = 256) (k : ∀ (σ : rS) (Dₚ Nₚ : Nat → Nat) (Fₚ : hF) (Aₚ : hA) (cₚ sₚ : Nat), HW V142 σ Dₚ Nₚ Fₚ Aₚ → OUT (V142).length D N σE c s Dₚ Nₚ σ cₚ sₚ → SD [2] D Dₚ → SD [2] N Nₚ → SF [(1, 0), (1, 1), (1, 2), (1, 3), (1, 4)] F Fₚ → SA [2] A Aₚ → Fₚ 1 0 = (Dₚ 2 : Int) → ∀ m2 : Int, (Nₚ 2 : Int) = m2 → ∀ y1_1 : Int, Fₚ 1 1 = y1_1 → ∀ y1_4 : Int, Fₚ 1 4 = y1_4 → (0 ≤ (y1_1) ∧ (y1_1) ≤ (m2) ∧ (m2) ≤ 65536) → (0 ≤ (y1_4) ∧ (y1_4) ≤ 7) → Q none σ cₚ sₚ) : Ew 142 (d + 3) 0 (rargs 0 [.ref (D 0), I a1]) [] σE c s Q := by
  have O := OUT_refl (n := (V142).length) (D := D) (N := N) (σ := σE) (c := c) (s := s)
  have HE := H
  have r1 : HID ((-2147483648 : Int) ≤ u1_1 ∧ u1_1 ≤ 2147483647) := krg_e (show (-2147483648 : Int) ≤ F 1 1 ∧ F 1 1 ≤ 2147483647 from H.krg 1 1 (by decide)) (show F 1 1 = u1_1 from (eu1_1))
  have r2 : HID ((-2147483648 : Int) ≤ u1_4 ∧ u1_4 ≤ 2147483647) := krg_e (show (-2147483648 : Int) ≤ F 1 4 ∧ F 1 4 ≤ 2147483647 from H.krg 1 4 (by decide)) (show F 1 4 = u1_4 from (eu1_4))
  have r3 : HID ((-2147483648 : Int) ≤ u3_1 ∧ u3_1 ≤ 2147483647) := krg_e (show (-2147483648 : Int) ≤ F 3 1 ∧ F 3 1 ≤ 2147483647 from H.krg 3 1 (by decide)) (show F 3 1 = u3_1 from (eu3_1))
  have r4 : HID ((-2147483648 : Int) ≤ u5_1 ∧ u5_1 ≤ 2147483647) := krg_e (show (-2147483648 : Int) ≤ F 5 1 ∧ F 5 1 ≤ 2147483647 from H.krg 5 1 (by decide)) (show F 5 1 = u5_1 from (eu5_1))
  have r5 : HID ((-2147483648 : Int) ≤ u8_3 ∧ u8_3 ≤ 2147483647) := krg_e (show (-2147483648 : Int) ≤ F 8 3 ∧ F 8 3 ≤ 2147483647 from H.krg 8 3 (by decide)) (show F 8 3 = u8_3 from (eu8_3))
  replace pf1 := HIDm pf1
  replace pf2 := HIDm pf2
  replace pf3 := HIDm pf3
  replace pf4 := HIDm pf4
  replace pf5 := HIDm pf5
  replace pf6 := HIDm pf6
  replace pf7 := HIDm pf7
  replace pf8 := HIDm pf8
  replace pf9 := HIDm pf9
  replace pf10 := HIDm pf10
  replace en2 := HIDm en2
  replace en4 := HIDm en4
  replace en6 := HIDm en6
  replace en9 := HIDm en9
  replace en10 := HIDm en10
  replace eu1_1 := HIDm eu1_1
  replace eu1_4 := HIDm eu1_4
  replace eu3_1 := HIDm eu3_1
  replace eu5_1 := HIDm eu5_1
  replace eu8_3 := HIDm eu8_3
  have r6 : HID ((0 : Int) ≤ n2 ∧ n2 ≤ 1000000) := nrng (H.nle 2 (by decide)) (show (N 2 : Int) = n2 from en2)
  have r7 : HID ((0 : Int) ≤ n4 ∧ n4 ≤ 1000000) := nrng (H.nle 4 (by decide)) (show (N 4 : Int) = n4 from en4)
  have r8 : HID ((0 : Int) ≤ n6 ∧ n6 ≤ 1000000) := nrng (H.nle 6 (by decide)) (show (N 6 : Int) = n6 from en6)
  have r9 : HID ((0 : Int) ≤ n9 ∧ n9 ≤ 1000000) := nrng (H.nle 9 (by decide)) (show (N 9 : Int) = n9 from en9)
  have r10 : HID ((0 : Int) ≤ n10 ∧ n10 ≤ 1000000) := nrng (H.nle 10 (by decide)) (show (N 10 : Int) = n10 from en10)
  refine Ew_of (pcₚ := 1) (fun _ => x_aload_n rfl rfl) ?_
  refine v_g H (o := 0) (v := .ref (D 3)) rfl rfl rfl rfl rfl (vrf (pf3)) ?_
  refine v_g H (o := 3) (v := I (u3_1)) rfl rfl rfl rfl rfl (congrArg (fun z : Int => I z) ((eu3_1) : F 3 1 = u3_1)) ?_
  refine Ew_of (pcₚ := 8) (fun _ => x_istore_n rfl) ?_
  refine Ew_of (pcₚ := 9) (fun _ => x_iload_n rfl rk_s) ?_
  refine Ew_of (pcₚ := 12) (fun _ => x_sipush (z := 1024) rfl (by decide)) ?_
  have hc20 : ∀ (tc20_0 : Int), ∀ (ls : rO) (σ : rS) (F_c20 : hF) (A_c20 : hA) , rlook ls 0 = some (.ref (D 0)) → rlook ls 1 = some (I (a1)) → rlook ls 2 = some (I (u3_1)) → HW V142 σ D N F_c20 A_c20 → OUT (V142).length D N σE c s D N σ c s → SF [] F F_c20 → SA [] A A_c20 → (inr (tc20_0)) → (((u3_1) ≥ (1024) ∧ (tc20_0) = (4)) ∨ ((u3_1) < (1024) ∧ (tc20_0) = (1))) → Ew 142 (d + 3) 20 ls [I (tc20_0)] σ c s Q := by
   as_aux_lemma =>
    intro tc20_0 ls σ F_c20 A_c20  lc20_0 lc20_1 lc20_2 H O hS_c20 hA_c20     jc20_0 jc20_1
    refine Ew_of (pcₚ := 21) (fun _ => x_istore_n rfl) ?_
    refine Ew_of (pcₚ := 22) (fun _ => x_iload_n rfl (rk_o (lc20_2) rfl rfl)) ?_
    refine Ew_of (pcₚ := 23) (fun _ => x_iload_n rfl rk_s) ?_
    refine w_iadd rfl ?_
    refine Ew_of (pcₚ := 25) (fun _ => x_iconst rfl) ?_
    refine w_isub rfl ?_
    refine Ew_of (pcₚ := 27) (fun _ => x_iload_n rfl rk_s) ?_
    refine w_idiv rfl (show inr (((u3_1 + tc20_0) - 1)) ∧ 0 ≤ ((u3_1 + tc20_0) - 1) by have qh0 := HIDe r3; omega) (show inr (tc20_0) ∧ 0 < tc20_0 by omega) ?_
    have hea : 0 ≤ (((((u3_1 + tc20_0) - 1) / tc20_0)) : Int) ∧ (((((u3_1 + tc20_0) - 1) / tc20_0)) : Int) ≤ 65536 ∧ (((tc20_0) : Int) = 1 ∧ (((((u3_1 + tc20_0) - 1) / tc20_0)) : Int) = (u3_1) ∨ ((tc20_0) : Int) = 4 ∧ 1024 ≤ (u3_1) ∧ 4 * (((((u3_1 + tc20_0) - 1) / tc20_0)) : Int) ≤ (u3_1) + 3 ∧ (u3_1) ≤ 4 * (((((u3_1 + tc20_0) - 1) / tc20_0)) : Int)) := by rcases (show ((tc20_0) : Int) = 1 ∧ (u3_1) < 1024 ∨ ((tc20_0) : Int) = 4 ∧ 1024 ≤ (u3_1) by (have qg0 := HIDe r3; omega)) with q | q <;> rw [q.1] <;> (have qg0 := HIDe r3; omega)
    refine Ew_of (pcₚ := 30) (fun _ => x_istore rfl) ?_
    refine Ew_of (pcₚ := 31) (fun _ => x_iload_n rfl (rk_o (rk_s) rfl rfl)) ?_
    refine Ew_of (pcₚ := 32) (fun _ => x_iconst rfl) ?_
    have hc60 : ∀ (tc60_0 : Int), ∀ (ls : rO) (σ : rS) (F_c60 : hF) (A_c60 : hA) , rlook ls 0 = some (.ref (D 0)) → rlook ls 1 = some (I (a1)) → rlook ls 2 = some (I (u3_1)) → rlook ls 3 = some (I (tc20_0)) → rlook ls 4 = some (I ((((u3_1 + tc20_0) - 1) / tc20_0))) → HW V142 σ D N F_c60 A_c60 → OUT (V142).length D N σE c s D N σ c s → SF [] F_c20 F_c60 → SA [] A_c20 A_c60 → (inr (tc60_0)) → (((tc20_0) ≠ (1) ∧ (u3_1) ≥ (16384) ∧ (tc60_0) = (5)) ∨ ((tc20_0) ≠ (1) ∧ (u3_1) < (16384) ∧ ((a1 - 4)) ≥ (16384) ∧ (tc60_0) = (5)) ∨ ((tc20_0) ≠ (1) ∧ (u3_1) < (16384) ∧ ((a1 - 4)) < (16384) ∧ (tc60_0) = (4)) ∨ ((tc20_0) = (1) ∧ (tc60_0) = (3))) → Ew 142 (d + 3) 60 ls [I (tc60_0)] σ c s Q := by
     as_aux_lemma =>
      intro tc60_0 ls σ F_c60 A_c60  lc60_0 lc60_1 lc60_2 lc60_3 lc60_4 H O hS_c60 hA_c60     jc60_0 jc60_1
      refine Ew_of (pcₚ := 62) (fun _ => x_istore rfl) ?_
      refine Ew_of (pcₚ := 63) (fun _ => x_iload_n rfl (rk_o (lc60_3) rfl rfl)) ?_
      refine Ew_of (pcₚ := 64) (fun _ => x_iconst rfl) ?_
      have hc75 : ∀ (tc75_0 : Int), ∀ (ls : rO) (σ : rS) (F_c75 : hF) (A_c75 : hA) , rlook ls 0 = some (.ref (D 0)) → rlook ls 1 = some (I (a1)) → rlook ls 2 = some (I (u3_1)) → rlook ls 3 = some (I (tc20_0)) → rlook ls 4 = some (I ((((u3_1 + tc20_0) - 1) / tc20_0))) → rlook ls 5 = some (I (tc60_0)) → HW V142 σ D N F_c75 A_c75 → OUT (V142).length D N σE c s D N σ c s → SF [] F_c60 F_c75 → SA [] A_c60 A_c75 → (inr (tc75_0)) → (((tc20_0) ≠ (1) ∧ (tc75_0) = ((tc60_0 - 2))) ∨ ((tc20_0) = (1) ∧ (tc75_0) = (0))) → Ew 142 (d + 3) 75 ls [I (tc75_0)] σ c s Q := by
       as_aux_lemma =>
        intro tc75_0 ls σ F_c75 A_c75  lc75_0 lc75_1 lc75_2 lc75_3 lc75_4 lc75_5 H O hS_c75 hA_c75     jc75_0 jc75_1
        refine Ew_of (pcₚ := 77) (fun _ => x_istore rfl) ?_
        refine Ew_of (pcₚ := 78) (fun _ => x_iload_n rfl (rk_o (lc75_3) rfl rfl)) ?_
        refine Ew_of (pcₚ := 79) (fun _ => x_iconst rfl) ?_
        have hc94 : ∀ (tc94_0 : Int), ∀ (ls : rO) (σ : rS) (F_c94 : hF) (A_c94 : hA) , rlook ls 0 = some (.ref (D 0)) → rlook ls 1 = some (I (a1)) → rlook ls 2 = some (I (u3_1)) → rlook ls 3 = some (I (tc20_0)) → rlook ls 4 = some (I ((((u3_1 + tc20_0) - 1) / tc20_0))) → rlook ls 5 = some (I (tc60_0)) → rlook ls 6 = some (I (tc75_0)) → HW V142 σ D N F_c94 A_c94 → OUT (V142).length D N σE c s D N σ c s → SF [] F_c75 F_c94 → SA [] A_c75 A_c94 → (inr (tc94_0)) → (((tc20_0) ≠ (1) ∧ (tc94_0) = (((4 * tc75_0) + 6))) ∨ ((tc20_0) = (1) ∧ (tc94_0) = (10))) → Ew 142 (d + 3) 94 ls [I (tc94_0)] σ c s Q := by
         as_aux_lemma =>
          intro tc94_0 ls σ F_c94 A_c94  lc94_0 lc94_1 lc94_2 lc94_3 lc94_4 lc94_5 lc94_6 H O hS_c94 hA_c94     jc94_0 jc94_1
          refine Ew_of (pcₚ := 96) (fun _ => x_istore rfl) ?_
          refine Ew_of (pcₚ := 97) (fun _ => x_aload_n rfl (rk_o (lc94_0) rfl rfl)) ?_
          refine v_g H (o := 0) (v := .ref (D 1)) rfl rfl rfl rfl rfl (vrf ((((((hS_c94 0 8 rfl).trans (hS_c75 0 8 rfl)).trans (hS_c60 0 8 rfl)).trans (hS_c20 0 8 rfl))).trans (pf1))) ?_
          refine Ew_of (pcₚ := 101) (fun _ => x_iload_n rfl (rk_o (lc94_1) rfl rfl)) ?_
          refine Ew_of (pcₚ := 103) (fun _ => x_iload rfl (rk_o (lc94_5) rfl rfl)) ?_
          refine w_isub rfl ?_
          refine w_i2l rfl (show inr ((a1 - tc60_0)) by omega) ?_
          refine Ew_of (pcₚ := 106) (fun _ => x_iconst rfl) ?_
          refine Ew_of (pcₚ := 108) (fun _ => x_iload rfl rk_s) ?_
          refine w_iadd rfl ?_
          refine w_lshlA rfl (fun z11 gz11 => ?_)
          refine Ew_of (pcₚ := 111) (fun _ => x_iload_n rfl (rk_o (lc94_2) rfl rfl)) ?_
          refine w_i2l rfl (show inr (u3_1) by have qh0 := HIDe r3; omega) ?_
          refine Ew_of (pcₚ := 113) (fun _ => x_iconst rfl) ?_
          refine w_lshlA rfl (fun z12 gz12 => ?_)
          refine w_lorA rfl (fun z13 gz13 => ?_)
          refine Ew_of (pcₚ := 117) (fun _ => x_iload rfl (rk_o (lc94_6) rfl rfl)) ?_
          refine Ew_of (pcₚ := 118) (fun _ => x_iconst rfl) ?_
          refine w_ishlA rfl (fun z14 gz14 => ?_)
          refine w_i2l rfl (show inr (z14) by omega) ?_
          refine w_lorA rfl (fun z15 gz15 => ?_)
          refine Ew_of (pcₚ := 122) (fun _ => x_aload_n rfl (rk_o (lc94_0) rfl rfl)) ?_
          have r16 : HID ((-2147483648 : Int) ≤ F 0 16 ∧ F 0 16 ≤ 2147483647) := krg_e (show (-2147483648 : Int) ≤ F_c94 0 16 ∧ F_c94 0 16 ≤ 2147483647 from H.krg 0 16 (by decide)) (show F_c94 0 16 = F 0 16 from ((((hS_c94 0 16 rfl).trans (hS_c75 0 16 rfl)).trans (hS_c60 0 16 rfl)).trans (hS_c20 0 16 rfl)))
          refine v_g H (o := 0) (v := I (F 0 16)) rfl rfl rfl rfl rfl (congrArg (fun z : Int => I z) (((((hS_c94 0 16 rfl).trans (hS_c75 0 16 rfl)).trans (hS_c60 0 16 rfl)).trans (hS_c20 0 16 rfl)) : F_c94 0 16 = F 0 16)) ?_
          refine w_i2l rfl (show inr (F 0 16) by have qh0 := HIDe r16; omega) ?_
          refine w_lorA rfl (fun z17 gz17 => ?_)
          refine Ew_of (pcₚ := 129) (fun _ => x_iload rfl (rk_o (lc94_5) rfl rfl)) ?_
          refine v_inv H (o := 1) rfl rfl rfl rfl rfl rfl (by rfl) (C160 (D := pul [1, 2] D) (N := pul [1, 2] N) (HW_sub H (VS_of (show vsub V142 V160 [1, 2] = true by decide +kernel))) ((((((hS_c94 1 0 rfl).trans (hS_c75 1 0 rfl)).trans (hS_c60 1 0 rfl)).trans (hS_c20 1 0 rfl))).trans (pf2)) (n2) (en2) (u1_1) ((((((hS_c94 1 1 rfl).trans (hS_c75 1 1 rfl)).trans (hS_c60 1 1 rfl)).trans (hS_c20 1 1 rfl)).trans (eu1_1))) (show inrJ (z17) by omega) (show inr (tc60_0) by omega) (show 0 ≤ (u1_1) ∧ (u1_1) ≤ (n2) ∧ (n2) ≤ 65536 by have qh0 := HIDe r1; have qh1 := HIDe r6; omega) (fun σ18 D18ₚ N18ₚ F18ₚ A18ₚ c18 s18 Hₚ Oₚ hD18 hN18 hS18 hA18 pm18_1 m18_1 em18_1 y18_0_1 ey18_0_1 pz18_0 pz18_1 => ⟨rfl, ?_⟩))
          replace pm18_1 := HIDm pm18_1
          replace em18_1 := HIDm em18_1
          replace ey18_0_1 := HIDm ey18_0_1
          refine v_backM (c := c) (s := s) H (show vsub V142 V160 [1, 2] = true by decide +kernel) Hₚ Oₚ hD18 (show vmov V142 [1, 2] [1] = true by decide +kernel) (fun D18 N18 F18 A18 H Oₚ eD18 eN18 eF18 eA18 => ?_)
          have O := OUT_trans O Oₚ
          -- Row.addNumber
          have pf18_0_10 : HID (F18 0 10 = (D18 5 : Int)) := ((show F18 0 10 = F_c94 0 10 from (eF18 0 10))).trans (((((((hS_c94 0 10 rfl).trans (hS_c75 0 10 rfl)).trans (hS_c60 0 10 rfl)).trans (hS_c20 0 10 rfl))).trans (pf5)).trans (congrArg (fun q : Nat => (q : Int)) ((show D18 5 = D 5 from (eD18 5))).symm))
          have pf18_0_7 : HID (F18 0 7 = (D18 7 : Int)) := ((show F18 0 7 = F_c94 0 7 from (eF18 0 7))).trans (((((((hS_c94 0 7 rfl).trans (hS_c75 0 7 rfl)).trans (hS_c60 0 7 rfl)).trans (hS_c20 0 7 rfl))).trans (pf7)).trans (congrArg (fun q : Nat => (q : Int)) ((show D18 7 = D 7 from (eD18 7))).symm))
          have pf18_0_8 : HID (F18 0 8 = (D18 1 : Int)) := ((show F18 0 8 = F_c94 0 8 from (eF18 0 8))).trans (((((((hS_c94 0 8 rfl).trans (hS_c75 0 8 rfl)).trans (hS_c60 0 8 rfl)).trans (hS_c20 0 8 rfl))).trans (pf1)).trans (congrArg (fun q : Nat => (q : Int)) ((show D18 1 = D 1 from (eD18 1).trans (hD18 0 rfl))).symm))
          have pf18_0_9 : HID (F18 0 9 = (D18 3 : Int)) := ((show F18 0 9 = F_c94 0 9 from (eF18 0 9))).trans (((((((hS_c94 0 9 rfl).trans (hS_c75 0 9 rfl)).trans (hS_c60 0 9 rfl)).trans (hS_c20 0 9 rfl))).trans (pf3)).trans (congrArg (fun q : Nat => (q : Int)) ((show D18 3 = D 3 from (eD18 3))).symm))
          have pf18_1_0 : HID (F18 1 0 = (D18 2 : Int)) := (eF18 1 0).trans (pm18_1.trans (congrArg (fun q : Nat => (q : Int)) (eD18 2).symm))
          have pf18_3_0 : HID (F18 3 0 = (D18 4 : Int)) := ((show F18 3 0 = F_c94 3 0 from (eF18 3 0))).trans (((((((hS_c94 3 0 rfl).trans (hS_c75 3 0 rfl)).trans (hS_c60 3 0 rfl)).trans (hS_c20 3 0 rfl))).trans (pf4)).trans (congrArg (fun q : Nat => (q : Int)) ((show D18 4 = D 4 from (eD18 4))).symm))
          have pf18_5_0 : HID (F18 5 0 = (D18 6 : Int)) := ((show F18 5 0 = F_c94 5 0 from (eF18 5 0))).trans (((((((hS_c94 5 0 rfl).trans (hS_c75 5 0 rfl)).trans (hS_c60 5 0 rfl)).trans (hS_c20 5 0 rfl))).trans (pf6)).trans (congrArg (fun q : Nat => (q : Int)) ((show D18 6 = D 6 from (eD18 6))).symm))
          have pf18_7_0 : HID (F18 7 0 = (D18 8 : Int)) := ((show F18 7 0 = F_c94 7 0 from (eF18 7 0))).trans (((((((hS_c94 7 0 rfl).trans (hS_c75 7 0 rfl)).trans (hS_c60 7 0 rfl)).trans (hS_c20 7 0 rfl))).trans (pf8)).trans (congrArg (fun q : Nat => (q : Int)) ((show D18 8 = D 8 from (eD18 8))).symm))
          have pf18_8_0 : HID (F18 8 0 = (D18 10 : Int)) := ((show F18 8 0 = F_c94 8 0 from (eF18 8 0))).trans (((((((hS_c94 8 0 rfl).trans (hS_c75 8 0 rfl)).trans (hS_c60 8 0 rfl)).trans (hS_c20 8 0 rfl))).trans (pf10)).trans (congrArg (fun q : Nat => (q : Int)) ((show D18 10 = D 10 from (eD18 10))).symm))
          have pf18_8_1 : HID (F18 8 1 = (D18 9 : Int)) := ((show F18 8 1 = F_c94 8 1 from (eF18 8 1))).trans (((((((hS_c94 8 1 rfl).trans (hS_c75 8 1 rfl)).trans (hS_c60 8 1 rfl)).trans (hS_c20 8 1 rfl))).trans (pf9)).trans (congrArg (fun q : Nat => (q : Int)) ((show D18 9 = D 9 from (eD18 9))).symm))
          have r19 : HID ((0 : Int) ≤ m18_1 ∧ m18_1 ≤ 1000000) := nrng (H.nle 2 (by decide)) (show (N18 2 : Int) = m18_1 from (congrArg (fun q : Nat => (q : Int)) (eN18 2)).trans em18_1)
          have r20 : HID ((-2147483648 : Int) ≤ y18_0_1 ∧ y18_0_1 ≤ 2147483647) := krg_e (show (-2147483648 : Int) ≤ F18 1 1 ∧ F18 1 1 ≤ 2147483647 from H.krg 1 1 (by decide)) (show F18 1 1 = y18_0_1 from ((eF18 1 1).trans ey18_0_1))
          have hc162 : ∀ (ls : rO) (σ : rS) (D_c162 N_c162 : Nat → Nat) (c_c162 s_c162 : Nat) (F_c162 : hF) (A_c162 : hA) , rlook ls 0 = some (.ref (D_c162 0)) → rlook ls 2 = some (I (u3_1)) → rlook ls 3 = some (I (tc20_0)) → rlook ls 4 = some (I ((((u3_1 + tc20_0) - 1) / tc20_0))) → HW V142 σ D_c162 N_c162 F_c162 A_c162 → OUT (V142).length D N σE c s D_c162 N_c162 σ c_c162 s_c162 → SD [2] D18 D_c162 → SD [2] N18 N_c162 → SF [(1, 0), (1, 1), (1, 2)] F18 F_c162 → SA [2] A18 A_c162 → F_c162 1 0 = (D_c162 2 : Int) → ∀ mc162_2 : Int, (N_c162 2 : Int) = mc162_2 → ∀ yc162_1_1 : Int, F_c162 1 1 = yc162_1_1 → (0 ≤ (yc162_1_1) ∧ (yc162_1_1) ≤ (mc162_2) ∧ (mc162_2) ≤ 65536) → Ew 142 (d + 3) 162 ls [] σ c_c162 s_c162 Q := by
           as_aux_lemma =>
            intro  ls σ D_c162 N_c162 c_c162 s_c162 F_c162 A_c162  lc162_0 lc162_2 lc162_3 lc162_4 H O hD_c162 hN_c162 hS_c162 hA_c162 pmc162_2 mc162_2 emc162_2 yc162_1_1 eyc162_1_1  jc162_0
            replace pmc162_2 := HIDm pmc162_2
            replace emc162_2 := HIDm emc162_2
            replace eyc162_1_1 := HIDm eyc162_1_1
            try clear pz18_1
            have pf_c162_0_10 : HID (F_c162 0 10 = (D_c162 5 : Int)) := (hS_c162 0 10 rfl).trans ((pf18_0_10).trans (congrArg (fun q : Nat => (q : Int)) (hD_c162 5 rfl).symm))
            have pf_c162_0_7 : HID (F_c162 0 7 = (D_c162 7 : Int)) := (hS_c162 0 7 rfl).trans ((pf18_0_7).trans (congrArg (fun q : Nat => (q : Int)) (hD_c162 7 rfl).symm))
            have pf_c162_0_8 : HID (F_c162 0 8 = (D_c162 1 : Int)) := (hS_c162 0 8 rfl).trans ((pf18_0_8).trans (congrArg (fun q : Nat => (q : Int)) (hD_c162 1 rfl).symm))
            have pf_c162_0_9 : HID (F_c162 0 9 = (D_c162 3 : Int)) := (hS_c162 0 9 rfl).trans ((pf18_0_9).trans (congrArg (fun q : Nat => (q : Int)) (hD_c162 3 rfl).symm))
            have pf_c162_3_0 : HID (F_c162 3 0 = (D_c162 4 : Int)) := (hS_c162 3 0 rfl).trans ((pf18_3_0).trans (congrArg (fun q : Nat => (q : Int)) (hD_c162 4 rfl).symm))
            have pf_c162_5_0 : HID (F_c162 5 0 = (D_c162 6 : Int)) := (hS_c162 5 0 rfl).trans ((pf18_5_0).trans (congrArg (fun q : Nat => (q : Int)) (hD_c162 6 rfl).symm))
            have pf_c162_7_0 : HID (F_c162 7 0 = (D_c162 8 : Int)) := (hS_c162 7 0 rfl).trans ((pf18_7_0).trans (congrArg (fun q : Nat => (q : Int)) (hD_c162 8 rfl).symm))
            have pf_c162_8_0 : HID (F_c162 8 0 = (D_c162 10 : Int)) := (hS_c162 8 0 rfl).trans ((pf18_8_0).trans (congrArg (fun q : Nat => (q : Int)) (hD_c162 10 rfl).symm))
            have pf_c162_8_1 : HID (F_c162 8 1 = (D_c162 9 : Int)) := (hS_c162 8 1 rfl).trans ((pf18_8_1).trans (congrArg (fun q : Nat => (q : Int)) (hD_c162 9 rfl).symm))
            have r21 : HID ((0 : Int) ≤ mc162_2 ∧ mc162_2 ≤ 1000000) := nrng (H.nle 2 (by decide)) (show (N_c162 2 : Int) = mc162_2 from emc162_2)
            have r22 : HID ((-2147483648 : Int) ≤ yc162_1_1 ∧ yc162_1_1 ≤ 2147483647) := krg_e (show (-2147483648 : Int) ≤ F_c162 1 1 ∧ F_c162 1 1 ≤ 2147483647 from H.krg 1 1 (by decide)) (show F_c162 1 1 = yc162_1_1 from (eyc162_1_1))
            try clear pz18_1
            refine Ew_of (pcₚ := 163) (fun _ => x_iconst rfl) ?_
            refine Ew_of (pcₚ := 165) (fun _ => x_istore rfl) ?_
            suffices hl165 : ∀ (m : Nat), ∀ (ls : rO) (σ : rS) (D_165 N_165 : Nat → Nat) (c_165 s_165 : Nat) (F_165 : hF) (A_165 : hA) (x165_8 : Int), rlook ls 0 = some (.ref (D_165 0)) → rlook ls 2 = some (I (u3_1)) → rlook ls 3 = some (I (tc20_0)) → rlook ls 4 = some (I ((((u3_1 + tc20_0) - 1) / tc20_0))) → rlook ls 8 = some (I (x165_8)) → HW V142 σ D_165 N_165 F_165 A_165 → OUT (V142).length D N σE c s D_165 N_165 σ c_165 s_165 → SD [2] D_c162 D_165 → SD [2] N_c162 N_165 → SF [(1, 0), (1, 1), (1, 2)] F_c162 F_165 → SA [2] A_c162 A_165 → F_165 1 0 = (D_165 2 : Int) → ∀ m165_2 : Int, (N_165 2 : Int) = m165_2 → ∀ y165_1_1 : Int, F_165 1 1 = y165_1_1 → (inr (x165_8)) → (0 ≤ (x165_8) ∧ (x165_8) ≤ 4) → (0 ≤ (y165_1_1) ∧ (y165_1_1) ≤ (m165_2) ∧ (m165_2) ≤ 65536) → (4 - (x165_8)).toNat = m → Ew 142 (d + 3) 165 ls [] σ c_165 s_165 Q from
              hl165 _ _ _ _ _ _ _ _ _ (0) (rk_o (lc162_0) rfl rfl) (rk_o (lc162_2) rfl rfl) (rk_o (lc162_3) rfl rfl) (rk_o (lc162_4) rfl rfl) (rk_s) H O (SD_refl) (SD_refl) (SF_refl) (SA_refl) (pmc162_2) (mc162_2) (emc162_2) (yc162_1_1) ((eyc162_1_1))  (show inr (0) by omega) (show 0 ≤ (0) ∧ (0) ≤ 4 by omega) (show 0 ≤ (yc162_1_1) ∧ (yc162_1_1) ≤ (mc162_2) ∧ (mc162_2) ≤ 65536 by have qh0 := HIDe r21; have qh1 := HIDe r22; omega) rfl
            as_aux_lemma =>
            intro m
            induction m using Nat.strongRecOn with
            | _ m ih165 =>
              intro ls σ D_165 N_165 c_165 s_165 F_165 A_165 x165_8 l165_0 l165_2 l165_3 l165_4 l165_8 H O hD_165 hN_165 hS_165 hA_165 pm165_2 m165_2 em165_2 y165_1_1 ey165_1_1  j165_0 j165_1 j165_2 hm165
              replace pm165_2 := HIDm pm165_2
              replace em165_2 := HIDm em165_2
              replace ey165_1_1 := HIDm ey165_1_1
              have pf_165_0_10 : HID (F_165 0 10 = (D_165 5 : Int)) := (hS_165 0 10 rfl).trans ((pf_c162_0_10).trans (congrArg (fun q : Nat => (q : Int)) (hD_165 5 rfl).symm))
              have pf_165_0_7 : HID (F_165 0 7 = (D_165 7 : Int)) := (hS_165 0 7 rfl).trans ((pf_c162_0_7).trans (congrArg (fun q : Nat => (q : Int)) (hD_165 7 rfl).symm))
              have pf_165_0_8 : HID (F_165 0 8 = (D_165 1 : Int)) := (hS_165 0 8 rfl).trans ((pf_c162_0_8).trans (congrArg (fun q : Nat => (q : Int)) (hD_165 1 rfl).symm))
              have pf_165_0_9 : HID (F_165 0 9 = (D_165 3 : Int)) := (hS_165 0 9 rfl).trans ((pf_c162_0_9).trans (congrArg (fun q : Nat => (q : Int)) (hD_165 3 rfl).symm))
              have pf_165_3_0 : HID (F_165 3 0 = (D_165 4 : Int)) := (hS_165 3 0 rfl).trans ((pf_c162_3_0).trans (congrArg (fun q : Nat => (q : Int)) (hD_165 4 rfl).symm))
              have pf_165_5_0 : HID (F_165 5 0 = (D_165 6 : Int)) := (hS_165 5 0 rfl).trans ((pf_c162_5_0).trans (congrArg (fun q : Nat => (q : Int)) (hD_165 6 rfl).symm))
              have pf_165_7_0 : HID (F_165 7 0 = (D_165 8 : Int)) := (hS_165 7 0 rfl).trans ((pf_c162_7_0).trans (congrArg (fun q : Nat => (q : Int)) (hD_165 8 rfl).symm))
              have pf_165_8_0 : HID (F_165 8 0 = (D_165 10 : Int)) := (hS_165 8 0 rfl).trans ((pf_c162_8_0).trans (congrArg (fun q : Nat => (q : Int)) (hD_165 10 rfl).symm))
              have pf_165_8_1 : HID (F_165 8 1 = (D_165 9 : Int)) := (hS_165 8 1 rfl).trans ((pf_c162_8_1).trans (congrArg (fun q : Nat => (q : Int)) (hD_165 9 rfl).symm))
              have r23 : HID ((0 : Int) ≤ m165_2 ∧ m165_2 ≤ 1000000) := nrng (H.nle 2 (by decide)) (show (N_165 2 : Int) = m165_2 from em165_2)
              have r24 : HID ((-2147483648 : Int) ≤ y165_1_1 ∧ y165_1_1 ≤ 2147483647) := krg_e (show (-2147483648 : Int) ≤ F_165 1 1 ∧ F_165 1 1 ≤ 2147483647 from H.krg 1 1 (by decide)) (show F_165 1 1 = y165_1_1 from (ey165_1_1))
              refine Ew_of (pcₚ := 167) (fun _ => x_iload rfl l165_8) ?_
              refine Ew_of (pcₚ := 168) (fun _ => x_iload_n rfl l165_3) ?_
              refine Ew_of (pcₚ := 169) (fun _ => x_iconst rfl) ?_
              refine w_isub rfl ?_
              refine w_icmpge (t := 217) rfl rfl (show inr (x165_8) by omega) (show inr ((tc20_0 - 1)) by omega) (fun b25 => ?_) (fun b25 => ?_)
              · refine Ew_of (pcₚ := 218) (fun _ => x_iconst rfl) ?_
                refine Ew_of (pcₚ := 220) (fun _ => x_istore rfl) ?_
                suffices hl220 : ∀ (m : Nat), ∀ (ls : rO) (σ : rS) (D_220 N_220 : Nat → Nat) (c_220 s_220 : Nat) (F_220 : hF) (A_220 : hA) (x220_8 : Int), rlook ls 0 = some (.ref (D_220 0)) → rlook ls 2 = some (I (u3_1)) → rlook ls 3 = some (I (tc20_0)) → rlook ls 4 = some (I ((((u3_1 + tc20_0) - 1) / tc20_0))) → rlook ls 8 = some (I (x220_8)) → HW V142 σ D_220 N_220 F_220 A_220 → OUT (V142).length D N σE c s D_220 N_220 σ c_220 s_220 → SD [2] D_165 D_220 → SD [2] N_165 N_220 → SF [(1, 0), (1, 1), (1, 2), (1, 3), (1, 4)] F_165 F_220 → SA [2] A_165 A_220 → F_220 1 0 = (D_220 2 : Int) → ∀ m220_2 : Int, (N_220 2 : Int) = m220_2 → ∀ y220_1_1 : Int, F_220 1 1 = y220_1_1 → ∀ y220_1_4 : Int, F_220 1 4 = y220_1_4 → (inr (x220_8)) → (0 ≤ (x220_8) ∧ (x220_8) ≤ 4) → (0 ≤ (y220_1_1) ∧ (y220_1_1) ≤ (m220_2) ∧ (m220_2) ≤ 65536) → (0 ≤ (y220_1_4) ∧ (y220_1_4) ≤ 7) → (4 - (x220_8)).toNat = m → Ew 142 (d + 3) 220 ls [] σ c_220 s_220 Q from
                  hl220 _ _ _ _ _ _ _ _ _ (0) (rk_o (l165_0) rfl rfl) (rk_o (l165_2) rfl rfl) (rk_o (l165_3) rfl rfl) (rk_o (l165_4) rfl rfl) (rk_s) H O (SD_refl) (SD_refl) (SF_refl) (SA_refl) (pm165_2) (m165_2) (em165_2) (y165_1_1) ((ey165_1_1)) (u1_4) (((((((((hS_165 1 4 rfl).trans (hS_c162 1 4 rfl)).trans ((show F18 1 4 = F_c94 1 4 from (eF18 1 4).trans (hS18 0 4 rfl)))).trans (hS_c94 1 4 rfl)).trans (hS_c75 1 4 rfl)).trans (hS_c60 1 4 rfl)).trans (hS_c20 1 4 rfl)).trans (eu1_4)))  (show inr (0) by omega) (show 0 ≤ (0) ∧ (0) ≤ 4 by omega) (show 0 ≤ (y165_1_1) ∧ (y165_1_1) ≤ (m165_2) ∧ (m165_2) ≤ 65536 by have qh0 := HIDe r23; have qh1 := HIDe r24; omega) (show 0 ≤ (u1_4) ∧ (u1_4) ≤ 7 by have qh0 := HIDe r2; omega) rfl
                as_aux_lemma =>
                intro m
                induction m using Nat.strongRecOn with
                | _ m ih220 =>
                  intro ls σ D_220 N_220 c_220 s_220 F_220 A_220 x220_8 l220_0 l220_2 l220_3 l220_4 l220_8 H O hD_220 hN_220 hS_220 hA_220 pm220_2 m220_2 em220_2 y220_1_1 ey220_1_1 y220_1_4 ey220_1_4  j220_0 j220_1 j220_2 j220_3 hm220
                  replace pm220_2 := HIDm pm220_2
                  replace em220_2 := HIDm em220_2
                  replace ey220_1_1 := HIDm ey220_1_1
                  replace ey220_1_4 := HIDm ey220_1_4
                  have pf_220_0_10 : HID (F_220 0 10 = (D_220 5 : Int)) := (hS_220 0 10 rfl).trans ((pf_165_0_10).trans (congrArg (fun q : Nat => (q : Int)) (hD_220 5 rfl).symm))
                  have pf_220_0_7 : HID (F_220 0 7 = (D_220 7 : Int)) := (hS_220 0 7 rfl).trans ((pf_165_0_7).trans (congrArg (fun q : Nat => (q : Int)) (hD_220 7 rfl).symm))
                  have pf_220_0_8 : HID (F_220 0 8 = (D_220 1 : Int)) := (hS_220 0 8 rfl).trans ((pf_165_0_8).trans (congrArg (fun q : Nat => (q : Int)) (hD_220 1 rfl).symm))
                  have pf_220_0_9 : HID (F_220 0 9 = (D_220 3 : Int)) := (hS_220 0 9 rfl).trans ((pf_165_0_9).trans (congrArg (fun q : Nat => (q : Int)) (hD_220 3 rfl).symm))
                  have pf_220_3_0 : HID (F_220 3 0 = (D_220 4 : Int)) := (hS_220 3 0 rfl).trans ((pf_165_3_0).trans (congrArg (fun q : Nat => (q : Int)) (hD_220 4 rfl).symm))
                  have pf_220_5_0 : HID (F_220 5 0 = (D_220 6 : Int)) := (hS_220 5 0 rfl).trans ((pf_165_5_0).trans (congrArg (fun q : Nat => (q : Int)) (hD_220 6 rfl).symm))
                  have pf_220_7_0 : HID (F_220 7 0 = (D_220 8 : Int)) := (hS_220 7 0 rfl).trans ((pf_165_7_0).trans (congrArg (fun q : Nat => (q : Int)) (hD_220 8 rfl).symm))
                  have pf_220_8_0 : HID (F_220 8 0 = (D_220 10 : Int)) := (hS_220 8 0 rfl).trans ((pf_165_8_0).trans (congrArg (fun q : Nat => (q : Int)) (hD_220 10 rfl).symm))
                  have pf_220_8_1 : HID (F_220 8 1 = (D_220 9 : Int)) := (hS_220 8 1 rfl).trans ((pf_165_8_1).trans (congrArg (fun q : Nat => (q : Int)) (hD_220 9 rfl).symm))
                  have r26 : HID ((0 : Int) ≤ m220_2 ∧ m220_2 ≤ 1000000) := nrng (H.nle 2 (by decide)) (show (N_220 2 : Int) = m220_2 from em220_2)
                  have r27 : HID ((-2147483648 : Int) ≤ y220_1_1 ∧ y220_1_1 ≤ 2147483647) := krg_e (show (-2147483648 : Int) ≤ F_220 1 1 ∧ F_220 1 1 ≤ 2147483647 from H.krg 1 1 (by decide)) (show F_220 1 1 = y220_1_1 from (ey220_1_1))
                  have r28 : HID ((-2147483648 : Int) ≤ y220_1_4 ∧ y220_1_4 ≤ 2147483647) := krg_e (show (-2147483648 : Int) ≤ F_220 1 4 ∧ F_220 1 4 ≤ 2147483647 from H.krg 1 4 (by decide)) (show F_220 1 4 = y220_1_4 from (ey220_1_4))
                  refine Ew_of (pcₚ := 222) (fun _ => x_iload rfl l220_8) ?_
                  refine Ew_of (pcₚ := 223) (fun _ => x_iload_n rfl l220_3) ?_
                  refine w_icmpge (t := 269) rfl rfl (show inr (x220_8) by omega) (show inr (tc20_0) by omega) (fun b29 => ?_) (fun b29 => ?_)
                  · exact w_ret rfl (k _ _ _ _ _ _ _ H O (SD_trans (SD_trans (SD_trans (SD_trans (SD_refl) (SD_glu (ι := [1, 2]) hD18 eD18 (by decide +kernel)) (any_subA (lₚ := [2]) rfl)) hD_c162 (any_subA rfl)) hD_165 (any_subA rfl)) hD_220 (any_subA rfl)) (SD_trans (SD_trans (SD_trans (SD_trans (SD_refl) (SD_glu (ι := [1, 2]) hN18 eN18 (by decide +kernel)) (any_subA (lₚ := [2]) rfl)) hN_c162 (any_subA rfl)) hN_165 (any_subA rfl)) hN_220 (any_subA rfl)) (SF_trans (SF_trans (SF_trans (SF_trans (SF_trans (SF_trans (SF_trans (SF_trans (SF_refl) hS_c20 (any_sub rfl)) hS_c60 (any_sub rfl)) hS_c75 (any_sub rfl)) hS_c94 (any_sub rfl)) (SF_glu (ι := [1, 2]) hS18 eF18 (by decide +kernel)) (any_sub (lₚ := [(1, 0), (1, 1), (1, 2)]) rfl)) hS_c162 (any_sub rfl)) hS_165 (any_sub rfl)) hS_220 (any_sub rfl)) (SA_trans (SA_trans (SA_trans (SA_trans (SA_trans (SA_trans (SA_trans (SA_trans (SA_refl) hA_c20 (any_subA rfl)) hA_c60 (any_subA rfl)) hA_c75 (any_subA rfl)) hA_c94 (any_subA rfl)) (SA_glu (ι := [1, 2]) hA18 eA18 (by decide +kernel)) (any_subA (lₚ := [2]) rfl)) hA_c162 (any_subA rfl)) hA_165 (any_subA rfl)) hA_220 (any_subA rfl)) (pm220_2) (m220_2) (em220_2) (y220_1_1) ((ey220_1_1)) (y220_1_4) ((ey220_1_4)) (show 0 ≤ (y220_1_1) ∧ (y220_1_1) ≤ (m220_2) ∧ (m220_2) ≤ 65536 by have qh0 := HIDe r26; have qh1 := HIDe r27; omega) (show 0 ≤ (y220_1_4) ∧ (y220_1_4) ≤ 7 by have qh0 := HIDe r28; omega))
                  · refine Ew_of (pcₚ := 227) (fun _ => x_aload_n rfl l220_0) ?_
                    refine v_g H (o := 0) (v := .ref (D_220 7)) rfl rfl rfl rfl rfl (vrf (pf_220_0_7)) ?_
                    refine v_g H (o := 7) (v := .ref (D_220 8)) rfl rfl rfl rfl rfl (vrf (pf_220_7_0)) ?_
                    refine Ew_of (pcₚ := 234) (fun _ => x_aload_n rfl l220_0) ?_
                    refine v_g H (o := 0) (v := .ref (D_220 1)) rfl rfl rfl rfl rfl (vrf (pf_220_0_8)) ?_
                    refine Ew_of (pcₚ := 238) (fun _ => x_aload_n rfl l220_0) ?_
                    refine v_g H (o := 0) (v := .ref (D_220 3)) rfl rfl rfl rfl rfl (vrf (pf_220_0_9)) ?_
                    refine v_g H (o := 3) (v := .ref (D_220 4)) rfl rfl rfl rfl rfl (vrf (pf_220_3_0)) ?_
                    have hpr : 0 ≤ (x220_8) * ((((u3_1 + tc20_0) - 1) / tc20_0)) ∧ (x220_8) * ((((u3_1 + tc20_0) - 1) / tc20_0)) ≤ (u3_1) ∧ 0 ≤ ((x220_8) + 1) * ((((u3_1 + tc20_0) - 1) / tc20_0)) ∧ ((x220_8) + 1) * ((((u3_1 + tc20_0) - 1) / tc20_0)) ≤ 300000 ∧ (x220_8) * ((((u3_1 + tc20_0) - 1) / tc20_0)) ≤ ((x220_8) + 1) * ((((u3_1 + tc20_0) - 1) / tc20_0)) := by rcases (show (x220_8) = 0 ∨ (x220_8) = 1 ∨ (x220_8) = 2 ∨ (x220_8) = 3 by (have qg0 := HIDe r3; omega)) with q | q | q | q <;> rw [q] <;> (have qg0 := HIDe r3; omega)
                    refine Ew_of (pcₚ := 246) (fun _ => x_iload rfl l220_8) ?_
                    refine Ew_of (pcₚ := 248) (fun _ => x_iload rfl l220_4) ?_
                    refine w_imul rfl ?_
                    refine Ew_of (pcₚ := 250) (fun _ => x_iload_n rfl l220_2) ?_
                    refine Ew_of (pcₚ := 252) (fun _ => x_iload rfl l220_8) ?_
                    refine Ew_of (pcₚ := 253) (fun _ => x_iconst rfl) ?_
                    refine w_iadd rfl ?_
                    refine Ew_of (pcₚ := 256) (fun _ => x_iload rfl l220_4) ?_
                    refine w_imul rfl ?_
                    refine v_min rfl rfl (show inr (u3_1) by have qh0 := HIDe r3; omega) (show inr (((x220_8 + 1) * (((u3_1 + tc20_0) - 1) / tc20_0))) by have qh0 := HIDe r3; omega) (fun z30 gz30 => ?_)
                    refine v_inv H (o := 8) rfl rfl rfl rfl rfl rfl (by rfl) (C111_Row_Br (D := pul [8, 1, 4, 2, 10, 9] D_220) (N := pul [8, 1, 4, 2, 10, 9] N_220) (HW_sub H (VS_of (show vsub V142 V111_Row_Br [8, 1, 4, 2, 10, 9] = true by decide +kernel))) (pm220_2) (pf_220_8_0) (pf_220_8_1) (n4) ((congrArg (fun q : Nat => (q : Int)) (hN_220 4 rfl)).trans ((congrArg (fun q : Nat => (q : Int)) (hN_165 4 rfl)).trans ((congrArg (fun q : Nat => (q : Int)) (hN_c162 4 rfl)).trans ((congrArg (fun q : Nat => (q : Int)) (show N18 4 = N 4 from (eN18 4))).trans (en4))))) (m220_2) (em220_2) (n10) ((congrArg (fun q : Nat => (q : Int)) (hN_220 10 rfl)).trans ((congrArg (fun q : Nat => (q : Int)) (hN_165 10 rfl)).trans ((congrArg (fun q : Nat => (q : Int)) (hN_c162 10 rfl)).trans ((congrArg (fun q : Nat => (q : Int)) (show N18 10 = N 10 from (eN18 10))).trans (en10))))) (n9) ((congrArg (fun q : Nat => (q : Int)) (hN_220 9 rfl)).trans ((congrArg (fun q : Nat => (q : Int)) (hN_165 9 rfl)).trans ((congrArg (fun q : Nat => (q : Int)) (hN_c162 9 rfl)).trans ((congrArg (fun q : Nat => (q : Int)) (show N18 9 = N 9 from (eN18 9))).trans (en9))))) (u8_3) ((((((((((hS_220 8 3 rfl).trans (hS_165 8 3 rfl)).trans (hS_c162 8 3 rfl)).trans ((show F18 8 3 = F_c94 8 3 from (eF18 8 3)))).trans (hS_c94 8 3 rfl)).trans (hS_c75 8 3 rfl)).trans (hS_c60 8 3 rfl)).trans (hS_c20 8 3 rfl)).trans (eu8_3))) (y220_1_1) ((ey220_1_1)) (y220_1_4) ((ey220_1_4)) (w10) ((funext (hA_220 10 rfl)).trans ((funext (hA_165 10 rfl)).trans ((funext (hA_c162 10 rfl)).trans (((show A18 10 = A_c94 10 from (eA18 10))).trans ((funext (hA_c94 10 rfl)).trans ((funext (hA_c75 10 rfl)).trans ((funext (hA_c60 10 rfl)).trans ((funext (hA_c20 10 rfl)).trans (ew10))))))))) (show inr ((x220_8 * (((u3_1 + tc20_0) - 1) / tc20_0))) by have qh0 := HIDe r3; omega) (show inr (z30) by omega) (show 0 ≤ (y220_1_1) ∧ (y220_1_1) ≤ (m220_2) ∧ (m220_2) ≤ 65536 by have qh0 := HIDe r26; have qh1 := HIDe r27; omega) (show 0 ≤ (y220_1_4) ∧ (y220_1_4) ≤ 7 by have qh0 := HIDe r28; omega) (show 0 ≤ ((x220_8 * (((u3_1 + tc20_0) - 1) / tc20_0))) ∧ ((x220_8 * (((u3_1 + tc20_0) - 1) / tc20_0))) ≤ (z30) ∧ (z30) ≤ (n4) ∧ (n4) ≤ 65536 by have qh0 := HIDe r3; have qh1 := HIDe r7; omega) (show 0 ≤ ((u8_3)) ∧ ((u8_3)) ≤ 11 by have qh0 := HIDe r5; omega) (show LNG ((w10)) ((u8_3)) by assumption) (show (n10) = 256 ∧ (n9) = 256 by have qh0 := HIDe r10; have qh1 := HIDe r9; omega) (fun σ31 D31ₚ N31ₚ F31ₚ A31ₚ c31 s31 Hₚ Oₚ hD31 hN31 hS31 hA31 pm31_3 m31_3 em31_3 y31_1_1 ey31_1_1 y31_1_4 ey31_1_4 pz31_0 pz31_1 pz31_2 => ⟨rfl, ?_⟩))
                    replace pm31_3 := HIDm pm31_3
                    replace em31_3 := HIDm em31_3
                    replace ey31_1_1 := HIDm ey31_1_1
                    replace ey31_1_4 := HIDm ey31_1_4
                    refine v_backM (c := c_220) (s := s_220) H (show vsub V142 V111_Row_Br [8, 1, 4, 2, 10, 9] = true by decide +kernel) Hₚ Oₚ hD31 (show vmov V142 [8, 1, 4, 2, 10, 9] [3] = true by decide +kernel) (fun D31 N31 F31 A31 H Oₚ eD31 eN31 eF31 eA31 => ?_)
                    have O := OUT_trans O Oₚ
                    -- Codes.pack
                    have pf31_0_10 : HID (F31 0 10 = (D31 5 : Int)) := ((show F31 0 10 = F_220 0 10 from (eF31 0 10))).trans ((pf_220_0_10).trans (congrArg (fun q : Nat => (q : Int)) ((show D31 5 = D_220 5 from (eD31 5))).symm))
                    have pf31_0_7 : HID (F31 0 7 = (D31 7 : Int)) := ((show F31 0 7 = F_220 0 7 from (eF31 0 7))).trans ((pf_220_0_7).trans (congrArg (fun q : Nat => (q : Int)) ((show D31 7 = D_220 7 from (eD31 7))).symm))
                    have pf31_0_8 : HID (F31 0 8 = (D31 1 : Int)) := ((show F31 0 8 = F_220 0 8 from (eF31 0 8))).trans ((pf_220_0_8).trans (congrArg (fun q : Nat => (q : Int)) ((show D31 1 = D_220 1 from (eD31 1).trans (hD31 1 rfl))).symm))
                    have pf31_0_9 : HID (F31 0 9 = (D31 3 : Int)) := ((show F31 0 9 = F_220 0 9 from (eF31 0 9))).trans ((pf_220_0_9).trans (congrArg (fun q : Nat => (q : Int)) ((show D31 3 = D_220 3 from (eD31 3))).symm))
                    have pf31_1_0 : HID (F31 1 0 = (D31 2 : Int)) := (eF31 1 0).trans (pm31_3.trans (congrArg (fun q : Nat => (q : Int)) (eD31 2).symm))
                    have pf31_3_0 : HID (F31 3 0 = (D31 4 : Int)) := ((show F31 3 0 = F_220 3 0 from (eF31 3 0))).trans ((pf_220_3_0).trans (congrArg (fun q : Nat => (q : Int)) ((show D31 4 = D_220 4 from (eD31 4).trans (hD31 2 rfl))).symm))
                    have pf31_5_0 : HID (F31 5 0 = (D31 6 : Int)) := ((show F31 5 0 = F_220 5 0 from (eF31 5 0))).trans ((pf_220_5_0).trans (congrArg (fun q : Nat => (q : Int)) ((show D31 6 = D_220 6 from (eD31 6))).symm))
                    have pf31_7_0 : HID (F31 7 0 = (D31 8 : Int)) := ((show F31 7 0 = F_220 7 0 from (eF31 7 0))).trans ((pf_220_7_0).trans (congrArg (fun q : Nat => (q : Int)) ((show D31 8 = D_220 8 from (eD31 8).trans (hD31 0 rfl))).symm))
                    have pf31_8_0 : HID (F31 8 0 = (D31 10 : Int)) := ((show F31 8 0 = F_220 8 0 from (eF31 8 0).trans (hS31 0 0 rfl))).trans ((pf_220_8_0).trans (congrArg (fun q : Nat => (q : Int)) ((show D31 10 = D_220 10 from (eD31 10).trans (hD31 4 rfl))).symm))
                    have pf31_8_1 : HID (F31 8 1 = (D31 9 : Int)) := ((show F31 8 1 = F_220 8 1 from (eF31 8 1).trans (hS31 0 1 rfl))).trans ((pf_220_8_1).trans (congrArg (fun q : Nat => (q : Int)) ((show D31 9 = D_220 9 from (eD31 9).trans (hD31 5 rfl))).symm))
                    have r32 : HID ((0 : Int) ≤ m31_3 ∧ m31_3 ≤ 1000000) := nrng (H.nle 2 (by decide)) (show (N31 2 : Int) = m31_3 from (congrArg (fun q : Nat => (q : Int)) (eN31 2)).trans em31_3)
                    have r33 : HID ((-2147483648 : Int) ≤ y31_1_1 ∧ y31_1_1 ≤ 2147483647) := krg_e (show (-2147483648 : Int) ≤ F31 1 1 ∧ F31 1 1 ≤ 2147483647 from H.krg 1 1 (by decide)) (show F31 1 1 = y31_1_1 from ((eF31 1 1).trans ey31_1_1))
                    have r34 : HID ((-2147483648 : Int) ≤ y31_1_4 ∧ y31_1_4 ≤ 2147483647) := krg_e (show (-2147483648 : Int) ≤ F31 1 4 ∧ F31 1 4 ≤ 2147483647 from H.krg 1 4 (by decide)) (show F31 1 4 = y31_1_4 from ((eF31 1 4).trans ey31_1_4))
                    refine Ew_of (pcₚ := 266) (fun _ => x_iinc (len := 3) rfl (l220_8)) ?_
                    refine Ew_of (pcₚ := 220) (fun _ => x_goto rfl rfl) ?_
                    exact ih220 _ (by omega) _ _ _ _ _ _ _ _ ((x220_8 + 1)) ((rk_o (l220_0) rfl rfl).trans (congrArg (fun q : Nat => some (Value.ref q)) (((show D31 0 = D_220 0 from (eD31 0)))).symm)) (rk_o (l220_2) rfl rfl) (rk_o (l220_3) rfl rfl) (rk_o (l220_4) rfl rfl) (rk_s) H O (SD_trans (hD_220) (SD_glu (ι := [8, 1, 4, 2, 10, 9]) hD31 eD31 (by decide +kernel)) (any_subA (lₚ := [2]) rfl)) (SD_trans (hN_220) (SD_glu (ι := [8, 1, 4, 2, 10, 9]) hN31 eN31 (by decide +kernel)) (any_subA (lₚ := [2]) rfl)) (SF_trans (hS_220) (SF_glu (ι := [8, 1, 4, 2, 10, 9]) hS31 eF31 (by decide +kernel)) (any_sub (lₚ := [(1, 0), (1, 1), (1, 2), (1, 3), (1, 4)]) rfl)) (SA_trans (hA_220) (SA_glu (ι := [8, 1, 4, 2, 10, 9]) hA31 eA31 (by decide +kernel)) (any_subA (lₚ := [2]) rfl)) (pf31_1_0) (m31_3) ((congrArg (fun q : Nat => (q : Int)) (eN31 2)).trans em31_3) (y31_1_1) (((eF31 1 1).trans ey31_1_1)) (y31_1_4) (((eF31 1 4).trans ey31_1_4))  (show inr ((x220_8 + 1)) by omega) (show 0 ≤ ((x220_8 + 1)) ∧ ((x220_8 + 1)) ≤ 4 by omega) (show 0 ≤ (y31_1_1) ∧ (y31_1_1) ≤ (m31_3) ∧ (m31_3) ≤ 65536 by have qh0 := HIDe r32; have qh1 := HIDe r33; omega) (show 0 ≤ (y31_1_4) ∧ (y31_1_4) ≤ 7 by have qh0 := HIDe r34; omega) rfl
              · refine Ew_of (pcₚ := 174) (fun _ => x_aload_n rfl l165_0) ?_
                refine v_g H (o := 0) (v := .ref (D_165 1)) rfl rfl rfl rfl rfl (vrf (pf_165_0_8)) ?_
                refine Ew_of (pcₚ := 178) (fun _ => x_aload_n rfl l165_0) ?_
                refine v_g H (o := 0) (v := .ref (D_165 7)) rfl rfl rfl rfl rfl (vrf (pf_165_0_7)) ?_
                refine v_g H (o := 7) (v := .ref (D_165 8)) rfl rfl rfl rfl rfl (vrf (pf_165_7_0)) ?_
                refine Ew_of (pcₚ := 185) (fun _ => x_aload_n rfl l165_0) ?_
                refine v_g H (o := 0) (v := .ref (D_165 3)) rfl rfl rfl rfl rfl (vrf (pf_165_0_9)) ?_
                refine v_g H (o := 3) (v := .ref (D_165 4)) rfl rfl rfl rfl rfl (vrf (pf_165_3_0)) ?_
                have hpr : 0 ≤ (x165_8) * ((((u3_1 + tc20_0) - 1) / tc20_0)) ∧ ((x165_8) + 1) * ((((u3_1 + tc20_0) - 1) / tc20_0)) ≤ (u3_1) ∧ (x165_8) * ((((u3_1 + tc20_0) - 1) / tc20_0)) ≤ ((x165_8) + 1) * ((((u3_1 + tc20_0) - 1) / tc20_0)) := by rcases (show (x165_8) = 0 ∨ (x165_8) = 1 ∨ (x165_8) = 2 by (have qg0 := HIDe r3; omega)) with q | q | q <;> rw [q] <;> (have qg0 := HIDe r3; omega)
                refine Ew_of (pcₚ := 193) (fun _ => x_iload rfl l165_8) ?_
                refine Ew_of (pcₚ := 195) (fun _ => x_iload rfl l165_4) ?_
                refine w_imul rfl ?_
                refine Ew_of (pcₚ := 198) (fun _ => x_iload rfl l165_8) ?_
                refine Ew_of (pcₚ := 199) (fun _ => x_iconst rfl) ?_
                refine w_iadd rfl ?_
                refine Ew_of (pcₚ := 202) (fun _ => x_iload rfl l165_4) ?_
                refine w_imul rfl ?_
                refine v_inv H (o := 8) rfl rfl rfl rfl rfl rfl (by rfl) (C112_Br (D := pul [8, 4, 10] D_165) (N := pul [8, 4, 10] N_165) (HW_sub H (VS_of (show vsub V142 V112_Br [8, 4, 10] = true by decide +kernel))) (pf_165_8_0) (n4) ((congrArg (fun q : Nat => (q : Int)) (hN_165 4 rfl)).trans ((congrArg (fun q : Nat => (q : Int)) (hN_c162 4 rfl)).trans ((congrArg (fun q : Nat => (q : Int)) (show N18 4 = N 4 from (eN18 4))).trans (en4)))) (n10) ((congrArg (fun q : Nat => (q : Int)) (hN_165 10 rfl)).trans ((congrArg (fun q : Nat => (q : Int)) (hN_c162 10 rfl)).trans ((congrArg (fun q : Nat => (q : Int)) (show N18 10 = N 10 from (eN18 10))).trans (en10)))) (u8_3) (((((((((hS_165 8 3 rfl).trans (hS_c162 8 3 rfl)).trans ((show F18 8 3 = F_c94 8 3 from (eF18 8 3)))).trans (hS_c94 8 3 rfl)).trans (hS_c75 8 3 rfl)).trans (hS_c60 8 3 rfl)).trans (hS_c20 8 3 rfl)).trans (eu8_3))) (w10) ((funext (hA_165 10 rfl)).trans ((funext (hA_c162 10 rfl)).trans (((show A18 10 = A_c94 10 from (eA18 10))).trans ((funext (hA_c94 10 rfl)).trans ((funext (hA_c75 10 rfl)).trans ((funext (hA_c60 10 rfl)).trans ((funext (hA_c20 10 rfl)).trans (ew10)))))))) (show inr ((x165_8 * (((u3_1 + tc20_0) - 1) / tc20_0))) by have qh0 := HIDe r3; omega) (show inr (((x165_8 + 1) * (((u3_1 + tc20_0) - 1) / tc20_0))) by have qh0 := HIDe r3; omega) (show 0 ≤ ((x165_8 * (((u3_1 + tc20_0) - 1) / tc20_0))) ∧ (((x165_8 + 1) * (((u3_1 + tc20_0) - 1) / tc20_0))) ≤ (n4) ∧ (n4) ≤ 65536 by have qh0 := HIDe r3; have qh1 := HIDe r7; omega) (show 0 ≤ ((u8_3)) ∧ ((u8_3)) ≤ 11 by have qh0 := HIDe r5; omega) (show LNG ((w10)) ((u8_3)) by assumption) (show (n10) = 256 by have qh0 := HIDe r10; omega) (fun z35 σ35 F35ₚ A35ₚ Hₚ Oₚ hS35 hA35 pz35_0 pz35_1 => ⟨rfl, ?_⟩))
                refine v_back (c := c_165) (s := s_165) H (show vsub V142 V112_Br [8, 4, 10] = true by decide +kernel) Hₚ Oₚ (fun F35 A35 H Oₚ eF35 eA35 => ?_)
                have O := OUT_trans O Oₚ
                -- Codes.packedSize
                refine w_i2l rfl (show inr (z35) by omega) ?_
                refine Ew_of (pcₚ := 208) (fun _ => x_iconst rfl) ?_
                refine v_inv H (o := 1) rfl rfl rfl rfl rfl rfl (by rfl) (C160 (D := pul [1, 2] D_165) (N := pul [1, 2] N_165) (HW_sub H (VS_of (show vsub V142 V160 [1, 2] = true by decide +kernel))) ((((show F35 1 0 = F_165 1 0 from (eF35 1 0)))).trans (pm165_2)) (m165_2) (em165_2) (y165_1_1) ((((show F35 1 1 = F_165 1 1 from (eF35 1 1))).trans (ey165_1_1))) (show inrJ (z35) by omega) (show inr (2) by omega) (show 0 ≤ (y165_1_1) ∧ (y165_1_1) ≤ (m165_2) ∧ (m165_2) ≤ 65536 by have qh0 := HIDe r23; have qh1 := HIDe r24; omega) (fun σ36 D36ₚ N36ₚ F36ₚ A36ₚ c36 s36 Hₚ Oₚ hD36 hN36 hS36 hA36 pm36_1 m36_1 em36_1 y36_0_1 ey36_0_1 pz36_0 pz36_1 => ⟨rfl, ?_⟩))
                replace pm36_1 := HIDm pm36_1
                replace em36_1 := HIDm em36_1
                replace ey36_0_1 := HIDm ey36_0_1
                refine v_backM (c := c_165) (s := s_165) H (show vsub V142 V160 [1, 2] = true by decide +kernel) Hₚ Oₚ hD36 (show vmov V142 [1, 2] [1] = true by decide +kernel) (fun D36 N36 F36 A36 H Oₚ eD36 eN36 eF36 eA36 => ?_)
                have O := OUT_trans O Oₚ
                -- Row.addNumber
                have pf36_0_10 : HID (F36 0 10 = (D36 5 : Int)) := ((show F36 0 10 = F35 0 10 from (eF36 0 10))).trans (((((show F35 0 10 = F_165 0 10 from (eF35 0 10)))).trans (pf_165_0_10)).trans (congrArg (fun q : Nat => (q : Int)) ((show D36 5 = D_165 5 from (eD36 5))).symm))
                have pf36_0_7 : HID (F36 0 7 = (D36 7 : Int)) := ((show F36 0 7 = F35 0 7 from (eF36 0 7))).trans (((((show F35 0 7 = F_165 0 7 from (eF35 0 7)))).trans (pf_165_0_7)).trans (congrArg (fun q : Nat => (q : Int)) ((show D36 7 = D_165 7 from (eD36 7))).symm))
                have pf36_0_8 : HID (F36 0 8 = (D36 1 : Int)) := ((show F36 0 8 = F35 0 8 from (eF36 0 8))).trans (((((show F35 0 8 = F_165 0 8 from (eF35 0 8)))).trans (pf_165_0_8)).trans (congrArg (fun q : Nat => (q : Int)) ((show D36 1 = D_165 1 from (eD36 1).trans (hD36 0 rfl))).symm))
                have pf36_0_9 : HID (F36 0 9 = (D36 3 : Int)) := ((show F36 0 9 = F35 0 9 from (eF36 0 9))).trans (((((show F35 0 9 = F_165 0 9 from (eF35 0 9)))).trans (pf_165_0_9)).trans (congrArg (fun q : Nat => (q : Int)) ((show D36 3 = D_165 3 from (eD36 3))).symm))
                have pf36_1_0 : HID (F36 1 0 = (D36 2 : Int)) := (eF36 1 0).trans (pm36_1.trans (congrArg (fun q : Nat => (q : Int)) (eD36 2).symm))
                have pf36_3_0 : HID (F36 3 0 = (D36 4 : Int)) := ((show F36 3 0 = F35 3 0 from (eF36 3 0))).trans (((((show F35 3 0 = F_165 3 0 from (eF35 3 0)))).trans (pf_165_3_0)).trans (congrArg (fun q : Nat => (q : Int)) ((show D36 4 = D_165 4 from (eD36 4))).symm))
                have pf36_5_0 : HID (F36 5 0 = (D36 6 : Int)) := ((show F36 5 0 = F35 5 0 from (eF36 5 0))).trans (((((show F35 5 0 = F_165 5 0 from (eF35 5 0)))).trans (pf_165_5_0)).trans (congrArg (fun q : Nat => (q : Int)) ((show D36 6 = D_165 6 from (eD36 6))).symm))
                have pf36_7_0 : HID (F36 7 0 = (D36 8 : Int)) := ((show F36 7 0 = F35 7 0 from (eF36 7 0))).trans (((((show F35 7 0 = F_165 7 0 from (eF35 7 0)))).trans (pf_165_7_0)).trans (congrArg (fun q : Nat => (q : Int)) ((show D36 8 = D_165 8 from (eD36 8))).symm))
                have pf36_8_0 : HID (F36 8 0 = (D36 10 : Int)) := ((show F36 8 0 = F35 8 0 from (eF36 8 0))).trans (((((show F35 8 0 = F_165 8 0 from (eF35 8 0).trans (hS35 0 0 rfl)))).trans (pf_165_8_0)).trans (congrArg (fun q : Nat => (q : Int)) ((show D36 10 = D_165 10 from (eD36 10))).symm))
                have pf36_8_1 : HID (F36 8 1 = (D36 9 : Int)) := ((show F36 8 1 = F35 8 1 from (eF36 8 1))).trans (((((show F35 8 1 = F_165 8 1 from (eF35 8 1).trans (hS35 0 1 rfl)))).trans (pf_165_8_1)).trans (congrArg (fun q : Nat => (q : Int)) ((show D36 9 = D_165 9 from (eD36 9))).symm))
                have r37 : HID ((0 : Int) ≤ m36_1 ∧ m36_1 ≤ 1000000) := nrng (H.nle 2 (by decide)) (show (N36 2 : Int) = m36_1 from (congrArg (fun q : Nat => (q : Int)) (eN36 2)).trans em36_1)
                have r38 : HID ((-2147483648 : Int) ≤ y36_0_1 ∧ y36_0_1 ≤ 2147483647) := krg_e (show (-2147483648 : Int) ≤ F36 1 1 ∧ F36 1 1 ≤ 2147483647 from H.krg 1 1 (by decide)) (show F36 1 1 = y36_0_1 from ((eF36 1 1).trans ey36_0_1))
                try clear pz36_1
                refine Ew_of (pcₚ := 214) (fun _ => x_iinc (len := 3) rfl (l165_8)) ?_
                refine Ew_of (pcₚ := 165) (fun _ => x_goto rfl rfl) ?_
                exact ih165 _ (by omega) _ _ _ _ _ _ _ _ ((x165_8 + 1)) ((rk_o (l165_0) rfl rfl).trans (congrArg (fun q : Nat => some (Value.ref q)) (((show D36 0 = D_165 0 from (eD36 0)))).symm)) (rk_o (l165_2) rfl rfl) (rk_o (l165_3) rfl rfl) (rk_o (l165_4) rfl rfl) (rk_s) H O (SD_trans (hD_165) (SD_glu (ι := [1, 2]) hD36 eD36 (by decide +kernel)) (any_subA (lₚ := [2]) rfl)) (SD_trans (hN_165) (SD_glu (ι := [1, 2]) hN36 eN36 (by decide +kernel)) (any_subA (lₚ := [2]) rfl)) (SF_trans (SF_trans (hS_165) (SF_glu (ι := [8, 4, 10]) hS35 eF35 (by decide +kernel)) (any_sub (lₚ := []) rfl)) (SF_glu (ι := [1, 2]) hS36 eF36 (by decide +kernel)) (any_sub (lₚ := [(1, 0), (1, 1), (1, 2)]) rfl)) (SA_trans (SA_trans (hA_165) (SA_glu (ι := [8, 4, 10]) hA35 eA35 (by decide +kernel)) (any_subA (lₚ := []) rfl)) (SA_glu (ι := [1, 2]) hA36 eA36 (by decide +kernel)) (any_subA (lₚ := [2]) rfl)) (pf36_1_0) (m36_1) ((congrArg (fun q : Nat => (q : Int)) (eN36 2)).trans em36_1) (y36_0_1) (((eF36 1 1).trans ey36_0_1))  (show inr ((x165_8 + 1)) by omega) (show 0 ≤ ((x165_8 + 1)) ∧ ((x165_8 + 1)) ≤ 4 by omega) (show 0 ≤ (y36_0_1) ∧ (y36_0_1) ≤ (m36_1) ∧ (m36_1) ≤ 65536 by have qh0 := HIDe r37; have qh1 := HIDe r38; omega) rfl
          try clear pz18_1
          refine Ew_of (pcₚ := 133) (fun _ => x_aload_n rfl (rk_o (lc94_0) rfl rfl)) ?_
          refine Ew_stk (show ([.ref (D 0)] : List Value) = [.ref (D18 0)] by rw [show D18 0 = D 0 from ((show D18 0 = D 0 from (eD18 0)))]) ?_
          refine v_g H (o := 0) (v := I (F 0 16)) rfl rfl rfl rfl rfl (congrArg (fun z : Int => I z) (((((((show F18 0 16 = F_c94 0 16 from (eF18 0 16))).trans (hS_c94 0 16 rfl)).trans (hS_c75 0 16 rfl)).trans (hS_c60 0 16 rfl)).trans (hS_c20 0 16 rfl)) : F18 0 16 = F 0 16)) ?_
          refine Ew_of (pcₚ := 137) (fun _ => x_iconst rfl) ?_
          refine w_icmpne (t := 162) rfl rfl (show inr (F 0 16) by have qh0 := HIDe r16; omega) (show inr (2) by omega) (fun b39 => ?_) (fun b39 => ?_)
          · exact hc162  _ _ _ _ _ _ _ _  ((rk_o (lc94_0) rfl rfl).trans (congrArg (fun q : Nat => some (Value.ref q)) (((show D18 0 = D 0 from (eD18 0)))).symm)) (rk_o (lc94_2) rfl rfl) (rk_o (lc94_3) rfl rfl) (rk_o (lc94_4) rfl rfl) H O (SD_refl) (SD_refl) (SF_refl) (SA_refl) (pf18_1_0) (m18_1) ((congrArg (fun q : Nat => (q : Int)) (eN18 2)).trans em18_1) (y18_0_1) (((eF18 1 1).trans ey18_0_1))  (show 0 ≤ (y18_0_1) ∧ (y18_0_1) ≤ (m18_1) ∧ (m18_1) ≤ 65536 by have qh0 := HIDe r19; have qh1 := HIDe r20; omega)
          · refine Ew_of (pcₚ := 141) (fun _ => x_aload_n rfl (rk_o (lc94_0) rfl rfl)) ?_
            refine Ew_stk (show ([.ref (D 0)] : List Value) = [.ref (D18 0)] by rw [show D18 0 = D 0 from ((show D18 0 = D 0 from (eD18 0)))]) ?_
            refine v_g H (o := 0) (v := .ref (D18 1)) rfl rfl rfl rfl rfl (vrf (pf18_0_8)) ?_
            refine Ew_of (pcₚ := 145) (fun _ => x_aload_n rfl (rk_o (lc94_0) rfl rfl)) ?_
            refine Ew_stk (show ([.ref (D 0), .ref (D18 1)] : List Value) = [.ref (D18 0), .ref (D18 1)] by rw [show D18 0 = D 0 from ((show D18 0 = D 0 from (eD18 0)))]) ?_
            refine v_g H (o := 0) (v := .ref (D18 5)) rfl rfl rfl rfl rfl (vrf (pf18_0_10)) ?_
            refine v_g H (o := 5) (v := .ref (D18 6)) rfl rfl rfl rfl rfl (vrf (pf18_5_0)) ?_
            refine Ew_of (pcₚ := 152) (fun _ => x_iconst rfl) ?_
            refine Ew_of (pcₚ := 153) (fun _ => x_aload_n rfl (rk_o (lc94_0) rfl rfl)) ?_
            refine Ew_stk (show ([.ref (D 0), I (0), .ref (D18 6), .ref (D18 1)] : List Value) = [.ref (D18 0), I (0), .ref (D18 6), .ref (D18 1)] by rw [show D18 0 = D 0 from ((show D18 0 = D 0 from (eD18 0)))]) ?_
            refine v_g H (o := 0) (v := .ref (D18 5)) rfl rfl rfl rfl rfl (vrf (pf18_0_10)) ?_
            refine v_g H (o := 5) (v := I (u5_1)) rfl rfl rfl rfl rfl (congrArg (fun z : Int => I z) ((((((((show F18 5 1 = F_c94 5 1 from (eF18 5 1))).trans (hS_c94 5 1 rfl)).trans (hS_c75 5 1 rfl)).trans (hS_c60 5 1 rfl)).trans (hS_c20 5 1 rfl)).trans (eu5_1)) : F18 5 1 = u5_1)) ?_
            refine v_inv H (o := 1) rfl rfl rfl rfl rfl rfl (by rfl) (C161_Br (D := pul [1, 6, 2] D18) (N := pul [1, 6, 2] N18) (HW_sub H (VS_of (show vsub V142 V161_Br [1, 6, 2] = true by decide +kernel))) (pf18_1_0) (n6) ((congrArg (fun q : Nat => (q : Int)) (show N18 6 = N 6 from (eN18 6))).trans (en6)) (m18_1) ((congrArg (fun q : Nat => (q : Int)) (eN18 2)).trans em18_1) (y18_0_1) (((eF18 1 1).trans ey18_0_1)) (A18 2) (rfl) (show inr (0) by omega) (show inr (u5_1) by have qh0 := HIDe r4; omega) (show 0 ≤ (y18_0_1) ∧ (y18_0_1) ≤ (m18_1) ∧ (m18_1) ≤ 65536 by have qh0 := HIDe r19; have qh1 := HIDe r20; omega) (show (u5_1) < 0 ∨ 0 ≤ (0) ∧ (0) + (u5_1) ≤ (n6) by have qh0 := HIDe r4; have qh1 := HIDe r8; omega) (fun σ40 D40ₚ N40ₚ F40ₚ A40ₚ c40 s40 Hₚ Oₚ hD40 hN40 hS40 hA40 pm40_2 m40_2 em40_2 y40_0_1 ey40_0_1 w40_2 ew40_2 pz40_0 pz40_1 pz40_2 => ⟨rfl, ?_⟩))
            replace pm40_2 := HIDm pm40_2
            replace em40_2 := HIDm em40_2
            replace ey40_0_1 := HIDm ey40_0_1
            refine v_backM (c := (c + c18)) (s := (s + s18)) H (show vsub V142 V161_Br [1, 6, 2] = true by decide +kernel) Hₚ Oₚ hD40 (show vmov V142 [1, 6, 2] [2] = true by decide +kernel) (fun D40 N40 F40 A40 H Oₚ eD40 eN40 eF40 eA40 => ?_)
            have O := OUT_trans O Oₚ
            -- Row.addPart
            have pf40_0_10 : HID (F40 0 10 = (D40 5 : Int)) := ((show F40 0 10 = F18 0 10 from (eF40 0 10))).trans ((pf18_0_10).trans (congrArg (fun q : Nat => (q : Int)) ((show D40 5 = D18 5 from (eD40 5))).symm))
            have pf40_0_7 : HID (F40 0 7 = (D40 7 : Int)) := ((show F40 0 7 = F18 0 7 from (eF40 0 7))).trans ((pf18_0_7).trans (congrArg (fun q : Nat => (q : Int)) ((show D40 7 = D18 7 from (eD40 7))).symm))
            have pf40_0_8 : HID (F40 0 8 = (D40 1 : Int)) := ((show F40 0 8 = F18 0 8 from (eF40 0 8))).trans ((pf18_0_8).trans (congrArg (fun q : Nat => (q : Int)) ((show D40 1 = D18 1 from (eD40 1).trans (hD40 0 rfl))).symm))
            have pf40_0_9 : HID (F40 0 9 = (D40 3 : Int)) := ((show F40 0 9 = F18 0 9 from (eF40 0 9))).trans ((pf18_0_9).trans (congrArg (fun q : Nat => (q : Int)) ((show D40 3 = D18 3 from (eD40 3))).symm))
            have pf40_1_0 : HID (F40 1 0 = (D40 2 : Int)) := (eF40 1 0).trans (pm40_2.trans (congrArg (fun q : Nat => (q : Int)) (eD40 2).symm))
            have pf40_3_0 : HID (F40 3 0 = (D40 4 : Int)) := ((show F40 3 0 = F18 3 0 from (eF40 3 0))).trans ((pf18_3_0).trans (congrArg (fun q : Nat => (q : Int)) ((show D40 4 = D18 4 from (eD40 4))).symm))
            have pf40_5_0 : HID (F40 5 0 = (D40 6 : Int)) := ((show F40 5 0 = F18 5 0 from (eF40 5 0))).trans ((pf18_5_0).trans (congrArg (fun q : Nat => (q : Int)) ((show D40 6 = D18 6 from (eD40 6).trans (hD40 1 rfl))).symm))
            have pf40_7_0 : HID (F40 7 0 = (D40 8 : Int)) := ((show F40 7 0 = F18 7 0 from (eF40 7 0))).trans ((pf18_7_0).trans (congrArg (fun q : Nat => (q : Int)) ((show D40 8 = D18 8 from (eD40 8))).symm))
            have pf40_8_0 : HID (F40 8 0 = (D40 10 : Int)) := ((show F40 8 0 = F18 8 0 from (eF40 8 0))).trans ((pf18_8_0).trans (congrArg (fun q : Nat => (q : Int)) ((show D40 10 = D18 10 from (eD40 10))).symm))
            have pf40_8_1 : HID (F40 8 1 = (D40 9 : Int)) := ((show F40 8 1 = F18 8 1 from (eF40 8 1))).trans ((pf18_8_1).trans (congrArg (fun q : Nat => (q : Int)) ((show D40 9 = D18 9 from (eD40 9))).symm))
            have r41 : HID ((0 : Int) ≤ m40_2 ∧ m40_2 ≤ 1000000) := nrng (H.nle 2 (by decide)) (show (N40 2 : Int) = m40_2 from (congrArg (fun q : Nat => (q : Int)) (eN40 2)).trans em40_2)
            have r42 : HID ((-2147483648 : Int) ≤ y40_0_1 ∧ y40_0_1 ≤ 2147483647) := krg_e (show (-2147483648 : Int) ≤ F40 1 1 ∧ F40 1 1 ≤ 2147483647 from H.krg 1 1 (by decide)) (show F40 1 1 = y40_0_1 from ((eF40 1 1).trans ey40_0_1))
            exact hc162  _ _ _ _ _ _ _ _  ((rk_o (lc94_0) rfl rfl).trans (congrArg (fun q : Nat => some (Value.ref q)) ((((show D40 0 = D18 0 from (eD40 0))).trans ((show D18 0 = D 0 from (eD18 0))))).symm)) (rk_o (lc94_2) rfl rfl) (rk_o (lc94_3) rfl rfl) (rk_o (lc94_4) rfl rfl) H O (SD_trans (SD_refl) (SD_glu (ι := [1, 6, 2]) hD40 eD40 (by decide +kernel)) (any_subA (lₚ := [2]) rfl)) (SD_trans (SD_refl) (SD_glu (ι := [1, 6, 2]) hN40 eN40 (by decide +kernel)) (any_subA (lₚ := [2]) rfl)) (SF_trans (SF_refl) (SF_glu (ι := [1, 6, 2]) hS40 eF40 (by decide +kernel)) (any_sub (lₚ := [(1, 0), (1, 1), (1, 2)]) rfl)) (SA_trans (SA_refl) (SA_glu (ι := [1, 6, 2]) hA40 eA40 (by decide +kernel)) (any_subA (lₚ := [2]) rfl)) (pf40_1_0) (m40_2) ((congrArg (fun q : Nat => (q : Int)) (eN40 2)).trans em40_2) (y40_0_1) (((eF40 1 1).trans ey40_0_1))  (show 0 ≤ (y40_0_1) ∧ (y40_0_1) ≤ (m40_2) ∧ (m40_2) ≤ 65536 by have qh0 := HIDe r41; have qh1 := HIDe r42; omega)
        refine w_icmpne (t := 87) rfl rfl (show inr (tc20_0) by omega) (show inr (1) by omega) (fun b43 => ?_) (fun b43 => ?_)
        · refine Ew_of (pcₚ := 88) (fun _ => x_iconst rfl) ?_
          refine Ew_of (pcₚ := 90) (fun _ => x_iload rfl rk_s) ?_
          refine w_imul rfl ?_
          refine Ew_of (pcₚ := 93) (fun _ => x_bipush (z := 6) rfl (by decide)) ?_
          refine w_iadd rfl ?_
          exact hc94 (((4 * tc75_0) + 6)) _ _ _ _  (rk_o (lc75_0) rfl rfl) (rk_o (lc75_1) rfl rfl) (rk_o (lc75_2) rfl rfl) (rk_o (lc75_3) rfl rfl) (rk_o (lc75_4) rfl rfl) (rk_o (lc75_5) rfl rfl) (rk_s) H O (SF_refl) (SA_refl)     (show inr (((4 * tc75_0) + 6)) by omega) (show ((tc20_0) ≠ (1) ∧ (((4 * tc75_0) + 6)) = (((4 * tc75_0) + 6))) ∨ ((tc20_0) = (1) ∧ (((4 * tc75_0) + 6)) = (10)) by omega)
        · refine Ew_of (pcₚ := 84) (fun _ => x_bipush (z := 10) rfl (by decide)) ?_
          refine Ew_of (pcₚ := 94) (fun _ => x_goto rfl rfl) ?_
          exact hc94 (10) _ _ _ _  (rk_o (lc75_0) rfl rfl) (rk_o (lc75_1) rfl rfl) (rk_o (lc75_2) rfl rfl) (rk_o (lc75_3) rfl rfl) (rk_o (lc75_4) rfl rfl) (rk_o (lc75_5) rfl rfl) (rk_s) H O (SF_refl) (SA_refl)     (show inr (10) by omega) (show ((tc20_0) ≠ (1) ∧ (10) = (((4 * tc75_0) + 6))) ∨ ((tc20_0) = (1) ∧ (10) = (10)) by omega)
      refine w_icmpne (t := 71) rfl rfl (show inr (tc20_0) by omega) (show inr (1) by omega) (fun b44 => ?_) (fun b44 => ?_)
      · refine Ew_of (pcₚ := 73) (fun _ => x_iload rfl rk_s) ?_
        refine Ew_of (pcₚ := 74) (fun _ => x_iconst rfl) ?_
        refine w_isub rfl ?_
        exact hc75 ((tc60_0 - 2)) _ _ _ _  (rk_o (lc60_0) rfl rfl) (rk_o (lc60_1) rfl rfl) (rk_o (lc60_2) rfl rfl) (rk_o (lc60_3) rfl rfl) (rk_o (lc60_4) rfl rfl) (rk_s) H O (SF_refl) (SA_refl)     (show inr ((tc60_0 - 2)) by omega) (show ((tc20_0) ≠ (1) ∧ ((tc60_0 - 2)) = ((tc60_0 - 2))) ∨ ((tc20_0) = (1) ∧ ((tc60_0 - 2)) = (0)) by omega)
      · refine Ew_of (pcₚ := 68) (fun _ => x_iconst rfl) ?_
        refine Ew_of (pcₚ := 75) (fun _ => x_goto rfl rfl) ?_
        exact hc75 (0) _ _ _ _  (rk_o (lc60_0) rfl rfl) (rk_o (lc60_1) rfl rfl) (rk_o (lc60_2) rfl rfl) (rk_o (lc60_3) rfl rfl) (rk_o (lc60_4) rfl rfl) (rk_s) H O (SF_refl) (SA_refl)     (show inr (0) by omega) (show ((tc20_0) ≠ (1) ∧ (0) = ((tc60_0 - 2))) ∨ ((tc20_0) = (1) ∧ (0) = (0)) by omega)
    refine w_icmpne (t := 39) rfl rfl (show inr (tc20_0) by omega) (show inr (1) by omega) (fun b45 => ?_) (fun b45 => ?_)
    · refine Ew_of (pcₚ := 40) (fun _ => x_iload_n rfl (rk_o (rk_o (lc20_2) rfl rfl) rfl rfl)) ?_
      refine Ew_of (pcₚ := 43) (fun _ => x_sipush (z := 16384) rfl (by decide)) ?_
      refine w_icmpge (t := 59) rfl rfl (show inr (u3_1) by have qh0 := HIDe r3; omega) (show inr (16384) by omega) (fun b46 => ?_) (fun b46 => ?_)
      · refine Ew_of (pcₚ := 60) (fun _ => x_iconst rfl) ?_
        exact hc60 (5) _ _ _ _  (rk_o (rk_o (lc20_0) rfl rfl) rfl rfl) (rk_o (rk_o (lc20_1) rfl rfl) rfl rfl) (rk_o (rk_o (lc20_2) rfl rfl) rfl rfl) (rk_o (rk_s) rfl rfl) (rk_s) H O (SF_refl) (SA_refl)     (show inr (5) by omega) (show ((tc20_0) ≠ (1) ∧ (u3_1) ≥ (16384) ∧ (5) = (5)) ∨ ((tc20_0) ≠ (1) ∧ (u3_1) < (16384) ∧ ((a1 - 4)) ≥ (16384) ∧ (5) = (5)) ∨ ((tc20_0) ≠ (1) ∧ (u3_1) < (16384) ∧ ((a1 - 4)) < (16384) ∧ (5) = (4)) ∨ ((tc20_0) = (1) ∧ (5) = (3)) by have qh0 := HIDe r3; omega)
      · refine Ew_of (pcₚ := 47) (fun _ => x_iload_n rfl (rk_o (rk_o (lc20_1) rfl rfl) rfl rfl)) ?_
        refine Ew_of (pcₚ := 48) (fun _ => x_iconst rfl) ?_
        refine w_isub rfl ?_
        refine Ew_of (pcₚ := 52) (fun _ => x_sipush (z := 16384) rfl (by decide)) ?_
        refine w_icmpge (t := 59) rfl rfl (show inr ((a1 - 4)) by omega) (show inr (16384) by omega) (fun b47 => ?_) (fun b47 => ?_)
        · refine Ew_of (pcₚ := 60) (fun _ => x_iconst rfl) ?_
          exact hc60 (5) _ _ _ _  (rk_o (rk_o (lc20_0) rfl rfl) rfl rfl) (rk_o (rk_o (lc20_1) rfl rfl) rfl rfl) (rk_o (rk_o (lc20_2) rfl rfl) rfl rfl) (rk_o (rk_s) rfl rfl) (rk_s) H O (SF_refl) (SA_refl)     (show inr (5) by omega) (show ((tc20_0) ≠ (1) ∧ (u3_1) ≥ (16384) ∧ (5) = (5)) ∨ ((tc20_0) ≠ (1) ∧ (u3_1) < (16384) ∧ ((a1 - 4)) ≥ (16384) ∧ (5) = (5)) ∨ ((tc20_0) ≠ (1) ∧ (u3_1) < (16384) ∧ ((a1 - 4)) < (16384) ∧ (5) = (4)) ∨ ((tc20_0) = (1) ∧ (5) = (3)) by have qh0 := HIDe r3; omega)
        · refine Ew_of (pcₚ := 56) (fun _ => x_iconst rfl) ?_
          refine Ew_of (pcₚ := 60) (fun _ => x_goto rfl rfl) ?_
          exact hc60 (4) _ _ _ _  (rk_o (rk_o (lc20_0) rfl rfl) rfl rfl) (rk_o (rk_o (lc20_1) rfl rfl) rfl rfl) (rk_o (rk_o (lc20_2) rfl rfl) rfl rfl) (rk_o (rk_s) rfl rfl) (rk_s) H O (SF_refl) (SA_refl)     (show inr (4) by omega) (show ((tc20_0) ≠ (1) ∧ (u3_1) ≥ (16384) ∧ (4) = (5)) ∨ ((tc20_0) ≠ (1) ∧ (u3_1) < (16384) ∧ ((a1 - 4)) ≥ (16384) ∧ (4) = (5)) ∨ ((tc20_0) ≠ (1) ∧ (u3_1) < (16384) ∧ ((a1 - 4)) < (16384) ∧ (4) = (4)) ∨ ((tc20_0) = (1) ∧ (4) = (3)) by have qh0 := HIDe r3; omega)
    · refine Ew_of (pcₚ := 36) (fun _ => x_iconst rfl) ?_
      refine Ew_of (pcₚ := 60) (fun _ => x_goto rfl rfl) ?_
      exact hc60 (3) _ _ _ _  (rk_o (rk_o (lc20_0) rfl rfl) rfl rfl) (rk_o (rk_o (lc20_1) rfl rfl) rfl rfl) (rk_o (rk_o (lc20_2) rfl rfl) rfl rfl) (rk_o (rk_s) rfl rfl) (rk_s) H O (SF_refl) (SA_refl)     (show inr (3) by omega) (show ((tc20_0) ≠ (1) ∧ (u3_1) ≥ (16384) ∧ (3) = (5)) ∨ ((tc20_0) ≠ (1) ∧ (u3_1) < (16384) ∧ ((a1 - 4)) ≥ (16384) ∧ (3) = (5)) ∨ ((tc20_0) ≠ (1) ∧ (u3_1) < (16384) ∧ ((a1 - 4)) < (16384) ∧ (3) = (4)) ∨ ((tc20_0) = (1) ∧ (3) = (3)) by have qh0 := HIDe r3; omega)
  refine w_icmpge (t := 19) rfl rfl (show inr (u3_1) by have qh0 := HIDe r3; omega) (show inr (1024) by omega) (fun b48 => ?_) (fun b48 => ?_)
  · refine Ew_of (pcₚ := 20) (fun _ => x_iconst rfl) ?_
    exact hc20 (4) _ _ _ _  (rk_o (rfl) rfl rfl) (rk_o (rfl) rfl rfl) (rk_s) H O (SF_refl) (SA_refl)     (show inr (4) by omega) (show ((u3_1) ≥ (1024) ∧ (4) = (4)) ∨ ((u3_1) < (1024) ∧ (4) = (1)) by have qh0 := HIDe r3; omega)
  · refine Ew_of (pcₚ := 16) (fun _ => x_iconst rfl) ?_
    refine Ew_of (pcₚ := 20) (fun _ => x_goto rfl rfl) ?_
    exact hc20 (1) _ _ _ _  (rk_o (rfl) rfl rfl) (rk_o (rfl) rfl rfl) (rk_s) H O (SF_refl) (SA_refl)     (show inr (1) by omega) (show ((u3_1) ≥ (1024) ∧ (1) = (4)) ∨ ((u3_1) < (1024) ∧ (1) = (1)) by have qh0 := HIDe r3; omega)
