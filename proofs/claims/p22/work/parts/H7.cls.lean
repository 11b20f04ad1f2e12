abbrev V246 : vV := [(0, 12, [(4, 0), (4, 0), (4, 0), (4, 0), (4, 0), (4, 0), (4, 0), (4, 0), (0, 0), (0, 0), (4, 0), (0, 0), (4, 0), (4, 0), (0, 0), (2, 0), (0, 0), (0, 0), (0, 0), (0, 0), (0, 0), (0, 0)]), (1, 0, []), (0, 7, [(4, 0), (0, 0), (1, 0), (0, 0), (0, 0)]), (1, 0, []), (0, 9, [(4, 0), (4, 0), (4, 0)]), (0, 3, [(4, 0), (4, 0), (4, 0), (0, 0), (4, 0), (4, 0), (4, 0), (4, 0), (4, 0), (4, 0), (4, 0), (4, 0), (4, 0), (0, 0), (0, 0), (0, 0), (0, 0)]), (1, 1, []), (0, 2, [(4, 0), (0, 0), (0, 0)])]
theorem len_V246_oz_H7cls : (V246).length = 8 := by decide +kernel
theorem oz_H7cls_1 : vsub V246 V110_Br_Row [5, 1, 2, 6, 3, 7] = true := by decide +kernel
theorem oz_H7cls_2 : vsub V246 V232 [0] = true := by decide +kernel
theorem oz_H7cls_3 : vsub V246 V42_Br [1] = true := by decide +kernel
def oz_H7clsl_0 : List (Nat × Nat) := [(0, 9), (0, 21), (2, 1), (7, 0), (7, 1), (7, 2)]
theorem oz_H7cls_4 : (oz_H7clsl_0).all (fun p => !tbz 188719626670054478562669105609137414715460010957820900855872692945408 (Nat.add (Nat.mul 32 p.1) p.2)) = true := by decide +kernel
def oz_H7clsl_1 : List Nat := [3]
theorem oz_H7cls_5 : (oz_H7clsl_1).all (fun p => !tbz 8 p) = true := by decide +kernel
def oz_H7clsl_2 : List Nat := [5, 1, 2, 6, 3, 7]
theorem oz_H7cls_6 : okc oz_H7clsl_2 246497568883205 = true := by decide +kernel
def oz_H7clsl_3 : List Nat := [0]
theorem oz_H7cls_7 : okc oz_H7clsl_3 0 = true := by decide +kernel
def oz_H7clsl_4 : List Nat := [1]
theorem oz_H7cls_8 : okc oz_H7clsl_4 1 = true := by decide +kernel
set_option maxHeartbeats 16000000 in
/-- Unpacker.unpackStreams: this, this.in, this.literals, this.literals.bytes, this.now, this.now.codes, this.now.codes.cells, this.now.codes.source -/
theorem C246 {σE : rS} {D N : Nat → Nat} {F : hF} {A : hA} {d c s : Nat} {Q : wQ} (H : HW V246 σE D N F A) {a1 a2 a3 : Int} (pf1 : HID (F 0 7 = (D 1 : Int))) (pf2 : HID (F 0 4 = (D 2 : Int))) (pf3 : HID (F 2 0 = (D 3 : Int))) (pf4 : HID (F 0 3 = (D 4 : Int))) (pf5 : HID (F 4 0 = (D 5 : Int))) (pf6 : HID (F 5 2 = (D 6 : Int))) (pf7 : HID (F 5 9 = (D 7 : Int))) (n1 : Int) (en1 : HID ((N 1 : Int) = n1)) (n3 : Int) (en3 : HID ((N 3 : Int) = n3)) (n6 : Int) (en6 : HID ((N 6 : Int) = n6)) (u0_9 : Int) (eu0_9 : HID (F 0 9 = u0_9)) (u2_1 : Int) (eu2_1 : HID (F 2 1 = u2_1)) (u5_3 : Int) (eu5_3 : HID (F 5 3 = u5_3)) (w6 : Int → Int) (ew6 : A 6 = w6) (h0 : inr (a1)) (h1 : inr (a2)) (h2 : inr (a3)) (h3 : 0 ≤ (u0_9) ∧ (u0_9) ≤ (a1) ∧ (a1) ≤ (n1) ∧ (n1) ≤ 65536) (h4 : 0 ≤ (a2) ∧ (a2) ≤ 131072) (h5 : (a3) = 1 ∨ (a3) = 4) (h6 : 0 ≤ (u2_1) ∧ (u2_1) ≤ (n3) ∧ (n3) ≤ 65536) (h7 : 0 ≤ (u5_3) ∧ (u5_3) ≤ 11) (h8 : CEL ((w6))) (h9 : (n6) = 2048) (k : ∀ (z : Int) (σ : rS) (Fₚ : hF) (Aₚ : hA), HW V246 σ D N Fₚ Aₚ → OUT (V246).length D N σE c s D N σ c s → SF [(0, 9), (0, 21), (2, 1), (7, 0), (7, 1), (7, 2)] F Fₚ → SA [3] A Aₚ → ∀ y0_9 : Int, Fₚ 0 9 = y0_9 → ∀ y2_1 : Int, Fₚ 2 1 = y2_1 → (inr (z)) → (0 ≤ (z) ∧ (z) ≤ 17) → (0 ≤ (y0_9) ∧ (y0_9) ≤ (a1)) → (0 ≤ (y2_1) ∧ (y2_1) ≤ (n3) ∧ (n3) ≤ 65536) → Q (some (I z)) σ c s) : Ew 246 (d + 3) 0 (rargs 0 [.ref (D 0), I a1, I a2, I a3]) [] σE c s Q := by
  have O := OUT_refl (n := (V246).length) (D := D) (N := N) (σ := σE) (c := c) (s := s)
  have HE := H
  have r1 : (-2147483648 : Int) ≤ u0_9 ∧ u0_9 ≤ 2147483647 := rngE (show (-2147483648 : Int) ≤ F 0 9 ∧ F 0 9 ≤ 2147483647 from H.krg 0 9 (ltn len_V246_oz_H7cls rfl)) (show F 0 9 = u0_9 from (eu0_9))
  have r2 : (-2147483648 : Int) ≤ u2_1 ∧ u2_1 ≤ 2147483647 := rngE (show (-2147483648 : Int) ≤ F 2 1 ∧ F 2 1 ≤ 2147483647 from H.krg 2 1 (ltn len_V246_oz_H7cls rfl)) (show F 2 1 = u2_1 from (eu2_1))
  have r3 : (-2147483648 : Int) ≤ u5_3 ∧ u5_3 ≤ 2147483647 := rngE (show (-2147483648 : Int) ≤ F 5 3 ∧ F 5 3 ≤ 2147483647 from H.krg 5 3 (ltn len_V246_oz_H7cls rfl)) (show F 5 3 = u5_3 from (eu5_3))
  have r4 : (0 : Int) ≤ n1 ∧ n1 ≤ 1000000 := nleE (H.nle 1 (ltn len_V246_oz_H7cls rfl)) (show (N 1 : Int) = n1 from en1)
  have r5 : (0 : Int) ≤ n3 ∧ n3 ≤ 1000000 := nleE (H.nle 3 (ltn len_V246_oz_H7cls rfl)) (show (N 3 : Int) = n3 from en3)
  have r6 : (0 : Int) ≤ n6 ∧ n6 ≤ 1000000 := nleE (H.nle 6 (ltn len_V246_oz_H7cls rfl)) (show (N 6 : Int) = n6 from en6)
  refine Ew_of (pcₚ := 1) (fun _ => x_aload_n rfl rfl) ?_
  refine v_g H (o := 0) (v := I (u0_9)) rfl rfl rfl rfl rfl (congrArg (fun z : Int => I z) ((eu0_9) : F 0 9 = u0_9)) ?_
  refine Ew_of (pcₚ := 6) (fun _ => x_istore rfl) ?_
  have hc95 : ∀ (ls : rO) (σ : rS) (F_c95 : hF) (A_c95 : hA) , rlook ls 0 = some (.ref (D 0)) → rlook ls 1 = some (I (a1)) → rlook ls 2 = some (I (a2)) → rlook ls 3 = some (I (a3)) → rlook ls 4 = some (I (u0_9)) → HW V246 σ D N F_c95 A_c95 → OUT (V246).length D N σE c s D N σ c s → SF [(0, 9)] F F_c95 → SA [] A A_c95 → ∀ yc95_0_9 : Int, F_c95 0 9 = yc95_0_9 → (0 ≤ (yc95_0_9) ∧ (yc95_0_9) ≤ (a1)) → ((a3) = 1 ∨ (u0_9) + 6 ≤ (a1) ∧ (yc95_0_9) + su (fun j => nmb ((A 1)) ((u0_9) + 2 * j) 2 2) (3 : Int).toNat ≤ (a1)) → ((a3) = 1 ∨ NNS (fun j => nmb ((A 1)) ((u0_9) + 2 * j) 2 2) 3) → Ew 246 (d + 3) 95 ls [] σ c s Q := by
   as_aux_lemma =>
    intro  ls σ F_c95 A_c95  lc95_0 lc95_1 lc95_2 lc95_3 lc95_4 H O hS_c95 hA_c95   yc95_0_9 eyc95_0_9  jc95_0 jc95_1 jc95_2
    have cF_c95 : SF oz_H7clsl_0 F F_c95 := SF_trans (SF_refl) hS_c95 (any_sub (by decide +kernel))
    have mF_c95 := SFm_of cF_c95 oz_H7cls_4
    have cA_c95 : SA oz_H7clsl_1 A A_c95 := SA_trans (SA_refl) hA_c95 (any_subA (by decide +kernel))
    have mA_c95 := SAm_of cA_c95 oz_H7cls_5
    replace eyc95_0_9 := HIDm eyc95_0_9
    have r7 : (-2147483648 : Int) ≤ yc95_0_9 ∧ yc95_0_9 ≤ 2147483647 := rngE (show (-2147483648 : Int) ≤ F_c95 0 9 ∧ F_c95 0 9 ≤ 2147483647 from H.krg 0 9 (ltn len_V246_oz_H7cls rfl)) (show F_c95 0 9 = yc95_0_9 from (eyc95_0_9))
    refine Ew_of (pcₚ := 96) (fun _ => x_iload_n rfl lc95_2) ?_
    refine Ew_of (pcₚ := 97) (fun _ => x_iload_n rfl lc95_3) ?_
    refine w_iadd rfl ?_
    refine Ew_of (pcₚ := 99) (fun _ => x_iconst rfl) ?_
    refine w_isub rfl ?_
    refine Ew_of (pcₚ := 101) (fun _ => x_iload_n rfl lc95_3) ?_
    refine w_idiv rfl (show inr (((a2 + a3) - 1)) ∧ 0 ≤ ((a2 + a3) - 1) from q_3724 h4 h5) (show inr (a3) ∧ 0 < a3 from q_3723 h2 h5) ?_
    have hea : 0 ≤ (((((a2 + a3) - 1) / a3)) : Int) ∧ (((((a2 + a3) - 1) / a3)) : Int) ≤ 131072 := by rcases (show (a3) = 1 ∨ (a3) = 4 from h5) with q | q <;> rw [q] <;> omega
    refine Ew_of (pcₚ := 104) (fun _ => x_istore rfl) ?_
    refine Ew_of (pcₚ := 105) (fun _ => x_iconst rfl) ?_
    refine Ew_of (pcₚ := 107) (fun _ => x_istore rfl) ?_
    have hz1 : su (fun j => nmb ((A 1)) ((u0_9) + 2 * j) 2 2) (0 : Int).toNat = 0 := rfl
    suffices hl107 : ∀ (m : Nat), ∀ (ls : rO) (σ : rS) (F_107 : hF) (A_107 : hA) (x107_6 : Int), rlook ls 0 = some (.ref (D 0)) → rlook ls 1 = some (I (a1)) → rlook ls 2 = some (I (a2)) → rlook ls 3 = some (I (a3)) → rlook ls 4 = some (I (u0_9)) → rlook ls 5 = some (I ((((a2 + a3) - 1) / a3))) → rlook ls 6 = some (I (x107_6)) → HW V246 σ D N F_107 A_107 → OUT (V246).length D N σE c s D N σ c s → SF [(0, 9), (2, 1), (7, 0), (7, 1), (7, 2)] F_c95 F_107 → SA [3] A_c95 A_107 → ∀ y107_0_9 : Int, F_107 0 9 = y107_0_9 → ∀ y107_2_1 : Int, F_107 2 1 = y107_2_1 → (inr (x107_6)) → ((0) ≤ (x107_6)) → ((x107_6) ≤ (0) ∨ (x107_6) ≤ ((a3))) → (0 ≤ (y107_0_9) ∧ (y107_0_9) ≤ (a1)) → (0 ≤ (y107_2_1) ∧ (y107_2_1) ≤ (n3) ∧ (n3) ≤ 65536) → ((a3) = 1 ∨ 3 < (x107_6) ∨ (y107_0_9) + su (fun j => nmb ((A 1)) ((u0_9) + 2 * j) 2 2) (3 : Int).toNat ≤ (a1) + su (fun j => nmb ((A 1)) ((u0_9) + 2 * j) 2 2) ((x107_6) : Int).toNat) → (((a3)) - (x107_6)).toNat = m → Ew 246 (d + 3) 107 ls [] σ c s Q from
      hl107 _ _ _ _ _ (0) (rk_o (rk_o (lc95_0) rfl rfl) rfl rfl) (rk_o (rk_o (lc95_1) rfl rfl) rfl rfl) (rk_o (rk_o (lc95_2) rfl rfl) rfl rfl) (rk_o (rk_o (lc95_3) rfl rfl) rfl rfl) (rk_o (rk_o (lc95_4) rfl rfl) rfl rfl) (rk_o (rk_s) rfl rfl) (rk_s) H O (SF_refl) (SA_refl)   (yc95_0_9) ((eyc95_0_9)) (u2_1) (((hS_c95 2 1 rfl).trans (eu2_1)))  (show inr (0) from q_20) (show (0) ≤ (0) from q_25) (show (0) ≤ (0) ∨ (0) ≤ ((a3)) from q_24) (show 0 ≤ (yc95_0_9) ∧ (yc95_0_9) ≤ (a1) from jc95_0) (show 0 ≤ (u2_1) ∧ (u2_1) ≤ (n3) ∧ (n3) ≤ 65536 from h6) (show (a3) = 1 ∨ 3 < (0) ∨ (yc95_0_9) + su (fun j => nmb ((A 1)) ((u0_9) + 2 * j) 2 2) (3 : Int).toNat ≤ (a1) + su (fun j => nmb ((A 1)) ((u0_9) + 2 * j) 2 2) ((0) : Int).toNat by omega) rfl
    as_aux_lemma =>
    intro m
    induction m using Nat.strongRecOn with
    | _ m ih107 =>
      intro ls σ F_107 A_107 x107_6 l107_0 l107_1 l107_2 l107_3 l107_4 l107_5 l107_6 H O hS_107 hA_107   y107_0_9 ey107_0_9 y107_2_1 ey107_2_1  j107_0 j107_1 j107_2 j107_3 j107_4 j107_5 hm107
      have cF_107 : SF oz_H7clsl_0 F F_107 := SF_trans (cF_c95) hS_107 (any_sub (by decide +kernel))
      have mF_107 := SFm_of cF_107 oz_H7cls_4
      have cA_107 : SA oz_H7clsl_1 A A_107 := SA_trans (cA_c95) hA_107 (any_subA (by decide +kernel))
      have mA_107 := SAm_of cA_107 oz_H7cls_5
      replace ey107_0_9 := HIDm ey107_0_9
      replace ey107_2_1 := HIDm ey107_2_1
      have r8 : (-2147483648 : Int) ≤ y107_0_9 ∧ y107_0_9 ≤ 2147483647 := rngE (show (-2147483648 : Int) ≤ F_107 0 9 ∧ F_107 0 9 ≤ 2147483647 from H.krg 0 9 (ltn len_V246_oz_H7cls rfl)) (show F_107 0 9 = y107_0_9 from (ey107_0_9))
      have r9 : (-2147483648 : Int) ≤ y107_2_1 ∧ y107_2_1 ≤ 2147483647 := rngE (show (-2147483648 : Int) ≤ F_107 2 1 ∧ F_107 2 1 ≤ 2147483647 from H.krg 2 1 (ltn len_V246_oz_H7cls rfl)) (show F_107 2 1 = y107_2_1 from (ey107_2_1))
      refine Ew_of (pcₚ := 109) (fun _ => x_iload rfl l107_6) ?_
      refine Ew_of (pcₚ := 110) (fun _ => x_iload_n rfl l107_3) ?_
      refine w_icmpge (t := 227) rfl rfl (show inr (x107_6) from j107_0) (show inr (a3) from h2) (fun b10 => ?_) (fun b10 => ?_)
      · refine Ew_of (pcₚ := 228) (fun _ => x_iconst rfl) ?_
        exact w_ireturn rfl (k (0) _ _ _ H O (cF_107) (cA_107) (y107_0_9) ((ey107_0_9)) (y107_2_1) ((ey107_2_1)) (show inr (0) from q_20) (show 0 ≤ (0) ∧ (0) ≤ 17 by first | exact q_3589 | omega) (show 0 ≤ (y107_0_9) ∧ (y107_0_9) ≤ a1 from j107_3) (show 0 ≤ (y107_2_1) ∧ (y107_2_1) ≤ (n3) ∧ (n3) ≤ 65536 from j107_4))
      · refine Ew_of (pcₚ := 115) (fun _ => x_iload rfl l107_6) ?_
        refine Ew_of (pcₚ := 116) (fun _ => x_iload_n rfl l107_3) ?_
        refine Ew_of (pcₚ := 117) (fun _ => x_iconst rfl) ?_
        refine w_isub rfl ?_
        have hc126 : ∀ (tc126_0 : Int), ∀ (ls : rO) (σ : rS) (F_c126 : hF) (A_c126 : hA) , rlook ls 0 = some (.ref (D 0)) → rlook ls 1 = some (I (a1)) → rlook ls 2 = some (I (a2)) → rlook ls 3 = some (I (a3)) → rlook ls 4 = some (I (u0_9)) → rlook ls 5 = some (I ((((a2 + a3) - 1) / a3))) → rlook ls 6 = some (I (x107_6)) → HW V246 σ D N F_c126 A_c126 → OUT (V246).length D N σE c s D N σ c s → SF [] F_107 F_c126 → SA [] A_107 A_c126 → (inr (tc126_0)) → (((x107_6) ≠ ((a3 - 1)) ∧ (tc126_0) = (0)) ∨ ((x107_6) = ((a3 - 1)) ∧ (tc126_0) = (1))) → Ew 246 (d + 3) 126 ls [I (tc126_0)] σ c s Q := by
         as_aux_lemma =>
          intro tc126_0 ls σ F_c126 A_c126  lc126_0 lc126_1 lc126_2 lc126_3 lc126_4 lc126_5 lc126_6 H O hS_c126 hA_c126     jc126_0 jc126_1
          have cF_c126 : SF oz_H7clsl_0 F F_c126 := SF_trans (cF_107) hS_c126 (any_sub (by decide +kernel))
          have mF_c126 := SFm_of cF_c126 oz_H7cls_4
          have cA_c126 : SA oz_H7clsl_1 A A_c126 := SA_trans (cA_107) hA_c126 (any_subA (by decide +kernel))
          have mA_c126 := SAm_of cA_c126 oz_H7cls_5
          refine Ew_of (pcₚ := 128) (fun _ => x_istore rfl) ?_
          have hc158 : ∀ (tc158_0 : Int), ∀ (ls : rO) (σ : rS) (F_c158 : hF) (A_c158 : hA) , rlook ls 0 = some (.ref (D 0)) → rlook ls 1 = some (I (a1)) → rlook ls 2 = some (I (a2)) → rlook ls 3 = some (I (a3)) → rlook ls 4 = some (I (u0_9)) → rlook ls 5 = some (I ((((a2 + a3) - 1) / a3))) → rlook ls 6 = some (I (x107_6)) → rlook ls 7 = some (I (tc126_0)) → HW V246 σ D N F_c158 A_c158 → OUT (V246).length D N σE c s D N σ c s → SF [] F_c126 F_c158 → SA [] A_c126 A_c158 → (inr (tc158_0)) → ((y107_0_9) ≤ (tc158_0) ∧ (tc158_0) ≤ (a1)) → ((a3) = 1 ∨ 3 ≤ (x107_6) ∨ (tc158_0) + su (fun j => nmb ((A 1)) ((u0_9) + 2 * j) 2 2) (3 : Int).toNat ≤ (a1) + su (fun j => nmb ((A 1)) ((u0_9) + 2 * j) 2 2) ((x107_6) + 1 : Int).toNat) → Ew 246 (d + 3) 158 ls [I (tc158_0)] σ c s Q := by
           as_aux_lemma =>
            intro tc158_0 ls σ F_c158 A_c158  lc158_0 lc158_1 lc158_2 lc158_3 lc158_4 lc158_5 lc158_6 lc158_7 H O hS_c158 hA_c158     jc158_0 jc158_1 jc158_2
            have cF_c158 : SF oz_H7clsl_0 F F_c158 := SF_trans (cF_c126) hS_c158 (any_sub (by decide +kernel))
            have mF_c158 := SFm_of cF_c158 oz_H7cls_4
            have cA_c158 : SA oz_H7clsl_1 A A_c158 := SA_trans (cA_c126) hA_c158 (any_subA (by decide +kernel))
            have mA_c158 := SAm_of cA_c158 oz_H7cls_5
            refine Ew_of (pcₚ := 160) (fun _ => x_istore rfl) ?_
            refine Ew_of (pcₚ := 161) (fun _ => x_aload_n rfl (rk_o (lc158_0) rfl rfl)) ?_
            refine v_g H (o := 0) (v := .ref (D 4)) rfl rfl rfl rfl rfl (vrf ((mF_c158 0 3 rfl).trans (pf4))) ?_
            refine v_g H (o := 4) (v := .ref (D 5)) rfl rfl rfl rfl rfl (vrf ((mF_c158 4 0 rfl).trans (pf5))) ?_
            refine Ew_of (pcₚ := 168) (fun _ => x_aload_n rfl (rk_o (lc158_0) rfl rfl)) ?_
            refine v_g H (o := 0) (v := .ref (D 1)) rfl rfl rfl rfl rfl (vrf ((mF_c158 0 7 rfl).trans (pf1))) ?_
            refine Ew_of (pcₚ := 172) (fun _ => x_aload_n rfl (rk_o (lc158_0) rfl rfl)) ?_
            refine v_g H (o := 0) (v := I (y107_0_9)) rfl rfl rfl rfl rfl (congrArg (fun z : Int => I z) ((((hS_c158 0 9 rfl).trans (hS_c126 0 9 rfl)).trans (ey107_0_9)) : F_c158 0 9 = y107_0_9)) ?_
            refine Ew_of (pcₚ := 177) (fun _ => x_iload rfl rk_s) ?_
            have hc194 : ∀ (tc194_0 : Int), ∀ (ls : rO) (σ : rS) (F_c194 : hF) (A_c194 : hA) , rlook ls 0 = some (.ref (D 0)) → rlook ls 1 = some (I (a1)) → rlook ls 2 = some (I (a2)) → rlook ls 3 = some (I (a3)) → rlook ls 4 = some (I (u0_9)) → rlook ls 5 = some (I ((((a2 + a3) - 1) / a3))) → rlook ls 6 = some (I (x107_6)) → rlook ls 8 = some (I (tc158_0)) → HW V246 σ D N F_c194 A_c194 → OUT (V246).length D N σE c s D N σ c s → SF [] F_c158 F_c194 → SA [] A_c158 A_c194 → (inr (tc194_0)) → Ew 246 (d + 3) 194 ls [I (tc194_0), I (tc158_0), I (y107_0_9), .ref (D 1), .ref (D 5)] σ c s Q := by
             as_aux_lemma =>
              intro tc194_0 ls σ F_c194 A_c194  lc194_0 lc194_1 lc194_2 lc194_3 lc194_4 lc194_5 lc194_6 lc194_8 H O hS_c194 hA_c194     jc194_0
              have cF_c194 : SF oz_H7clsl_0 F F_c194 := SF_trans (cF_c158) hS_c194 (any_sub (by decide +kernel))
              have mF_c194 := SFm_of cF_c194 oz_H7cls_4
              have cA_c194 : SA oz_H7clsl_1 A A_c194 := SA_trans (cA_c158) hA_c194 (any_subA (by decide +kernel))
              have mA_c194 := SAm_of cA_c194 oz_H7cls_5
              refine Ew_of (pcₚ := 195) (fun _ => x_aload_n rfl lc194_0) ?_
              refine v_g H (o := 0) (v := .ref (D 2)) rfl rfl rfl rfl rfl (vrf ((mF_c194 0 4 rfl).trans (pf2))) ?_
              refine v_inv H (o := 5) rfl rfl rfl rfl rfl rfl (by rfl) (C110_Br_Row (D := puc 246497568883205 D) (N := puc 246497568883205 N) (HW_subc H oz_H7cls_1 oz_H7cls_6) ((mF_c194 5 2 rfl).trans (pf6)) ((mF_c194 2 0 rfl).trans (pf3)) ((mF_c194 5 9 rfl).trans (pf7)) (n1) (en1) (n6) (en6) (n3) (en3) (u5_3) (((mF_c194 5 3 rfl).trans (eu5_3))) (y107_2_1) (((((hS_c194 2 1 rfl).trans (hS_c158 2 1 rfl)).trans (hS_c126 2 1 rfl)).trans (ey107_2_1))) (w6) ((funext (mA_c194 6 rfl)).trans (ew6)) (show inr (y107_0_9) from q_275 j107_3 r8) (show inr (tc158_0) from jc158_0) (show inr (tc194_0) from jc194_0) (show 0 ≤ (y107_0_9) ∧ (y107_0_9) ≤ 65536 ∧ 0 ≤ (tc158_0) ∧ (tc158_0) ≤ (n1) ∧ (n1) ≤ 65536 ∧ (y107_0_9) ≤ 200000 from q_3725 h3 j107_3 jc158_1) (show 0 ≤ ((u5_3)) ∧ ((u5_3)) ≤ 11 from h7) (show CEL ((w6)) from h8) (show (n6) = 2048 from h9) (show 0 ≤ (y107_2_1) ∧ (y107_2_1) ≤ (n3) ∧ (n3) ≤ 65536 from j107_4) (fun z11 σ11 F11ₚ A11ₚ Hₚ Oₚ hS11 hA11 y11_2_1 (ey11_2_1 : HID _) pz11_0 pz11_1 pz11_2 => ⟨rretB rfl pz11_0, ?_⟩))
              refine v_backc (c := c) (s := s) H oz_H7cls_1 oz_H7cls_6 Hₚ Oₚ (fun F11 A11 H Oₚ eF11 eA11 => ?_)
              have O := OUT_trans O Oₚ
              -- Codes.unpack
              have cF11 : SF oz_H7clsl_0 F F11 := SF_trans (cF_c194) (SF_gluc (ι := oz_H7clsl_2) oz_H7cls_6 hS11 eF11 (by decide +kernel)) (any_sub (lₚ := [(2, 1), (7, 0), (7, 1), (7, 2)]) (by decide +kernel))
              have mF11 := SFm_of cF11 oz_H7cls_4
              have cA11 : SA oz_H7clsl_1 A A11 := SA_trans (cA_c194) (SA_gluc (ι := oz_H7clsl_2) oz_H7cls_6 hA11 eA11 (by decide +kernel)) (any_subA (lₚ := [3]) (by decide +kernel))
              have mA11 := SAm_of cA11 oz_H7cls_5
              have r12 : (-2147483648 : Int) ≤ y11_2_1 ∧ y11_2_1 ≤ 2147483647 := rngE (show (-2147483648 : Int) ≤ F11 2 1 ∧ F11 2 1 ≤ 2147483647 from H.krg 2 1 (ltn len_V246_oz_H7cls rfl)) (show F11 2 1 = y11_2_1 from ((eF11 2 1).trans ey11_2_1))
              refine w_ifne (t := 215) rfl rfl (show inr (z11) from q_15 pz11_0) (fun b13 => ?_) (fun b13 => ?_)
              · refine Ew_of (pcₚ := 216) (fun _ => x_aload_n rfl lc194_0) ?_
                refine Ew_of (pcₚ := 218) (fun _ => x_iload rfl lc194_8) ?_
                refine v_p H (o := 0) (z := tc158_0) (v := I (tc158_0)) rfl rfl rfl rfl rfl rfl rfl rfl (show (-2147483648 : Int) ≤ tc158_0 ∧ tc158_0 ≤ 2147483647 from q_61 jc158_0) (fun σ H Oₚ => ?_)
                have O := OUT_trans O Oₚ
                have cFu14 : SF oz_H7clsl_0 F (updF F11 0 9 (tc158_0)) := SF_upd (cF11) rfl
                have mFu14 := SFm_of cFu14 oz_H7cls_4
                refine Ew_of (pcₚ := 224) (fun _ => x_iinc (len := 3) rfl (lc194_6)) ?_
                refine Ew_of (pcₚ := 107) (fun _ => x_goto rfl rfl) ?_
                skip
                exact ih107 _ (msE hm107 q_31 (q_34 b10)) _ _ _ _ ((x107_6 + 1)) (rk_o (lc194_0) rfl rfl) (rk_o (lc194_1) rfl rfl) (rk_o (lc194_2) rfl rfl) (rk_o (lc194_3) rfl rfl) (rk_o (lc194_4) rfl rfl) (rk_o (lc194_5) rfl rfl) (rk_s) H O (SF_upd (SF_trans (SF_trans (SF_trans (SF_trans (hS_107) hS_c126 (any_sub (by decide +kernel))) hS_c158 (any_sub (by decide +kernel))) hS_c194 (any_sub (by decide +kernel))) (SF_gluc (ι := oz_H7clsl_2) oz_H7cls_6 hS11 eF11 (by decide +kernel)) (any_sub (lₚ := [(2, 1), (7, 0), (7, 1), (7, 2)]) (by decide +kernel))) rfl) (SA_trans (SA_trans (SA_trans (SA_trans (hA_107) hA_c126 (any_subA (by decide +kernel))) hA_c158 (any_subA (by decide +kernel))) hA_c194 (any_subA (by decide +kernel))) (SA_gluc (ι := oz_H7clsl_2) oz_H7cls_6 hA11 eA11 (by decide +kernel)) (any_subA (lₚ := [3]) (by decide +kernel)))   (tc158_0) (rfl) (y11_2_1) (((eF11 2 1).trans ey11_2_1))  (show inr ((x107_6 + 1)) from q_3727 b10 h5 j107_1) (show (0) ≤ ((x107_6 + 1)) from q_29 j107_1) (show ((x107_6 + 1)) ≤ (0) ∨ ((x107_6 + 1)) ≤ ((a3)) from q_33 b10) (show 0 ≤ (tc158_0) ∧ (tc158_0) ≤ (a1) from q_3726 j107_3 jc158_1) (show 0 ≤ (y11_2_1) ∧ (y11_2_1) ≤ (n3) ∧ (n3) ≤ 65536 from pz11_1) (show (a3) = 1 ∨ 3 < ((x107_6 + 1)) ∨ (tc158_0) + su (fun j => nmb ((A 1)) ((u0_9) + 2 * j) 2 2) (3 : Int).toNat ≤ (a1) + su (fun j => nmb ((A 1)) ((u0_9) + 2 * j) 2 2) (((x107_6 + 1)) : Int).toNat by omega) rfl
              · refine Ew_of (pcₚ := 205) (fun _ => x_aload_n rfl lc194_0) ?_
                refine Ew_of (pcₚ := 207) (fun _ => x_bipush (z := 14) rfl (by decide)) ?_
                refine Ew_of (pcₚ := 208) (fun _ => x_aload_n rfl lc194_0) ?_
                refine v_g H (o := 0) (v := I (y107_0_9)) rfl rfl rfl rfl rfl (congrArg (fun z : Int => I z) (((((((show F11 0 9 = F_c194 0 9 from (eF11 0 9))).trans (hS_c194 0 9 rfl)).trans (hS_c158 0 9 rfl)).trans (hS_c126 0 9 rfl)).trans (ey107_0_9)) : F11 0 9 = y107_0_9)) ?_
                have r15 : (-2147483648 : Int) ≤ F 0 21 ∧ F 0 21 ≤ 2147483647 := rngE (show (-2147483648 : Int) ≤ F11 0 21 ∧ F11 0 21 ≤ 2147483647 from H.krg 0 21 (ltn len_V246_oz_H7cls rfl)) (show F11 0 21 = F 0 21 from (((((((show F11 0 21 = F_c194 0 21 from (eF11 0 21))).trans (hS_c194 0 21 rfl)).trans (hS_c158 0 21 rfl)).trans (hS_c126 0 21 rfl)).trans (hS_107 0 21 rfl)).trans (hS_c95 0 21 rfl)))
                refine v_inv H (o := 0) rfl rfl rfl rfl rfl rfl (by rfl) (C232 (D := puc 0 D) (N := puc 0 N) (HW_subc H oz_H7cls_2 oz_H7cls_7) (F 0 21) ((((((((show F11 0 21 = F_c194 0 21 from (eF11 0 21))).trans (hS_c194 0 21 rfl)).trans (hS_c158 0 21 rfl)).trans (hS_c126 0 21 rfl)).trans (hS_107 0 21 rfl)).trans (hS_c95 0 21 rfl))) (show inr (14) from q_1358) (show inr (y107_0_9) from q_275 j107_3 r8) (fun z16 σ16 F16ₚ A16ₚ Hₚ Oₚ hS16 hA16 y16_0_21 (ey16_0_21 : HID _) pz16_0 pz16_1 pz16_2 => ⟨rfl, ?_⟩))
                refine v_backc (c := c) (s := s) H oz_H7cls_2 oz_H7cls_7 Hₚ Oₚ (fun F16 A16 H Oₚ eF16 eA16 => ?_)
                have O := OUT_trans O Oₚ
                -- Unpacker.fail
                have cF16 : SF oz_H7clsl_0 F F16 := SF_trans (cF11) (SF_gluc (ι := oz_H7clsl_3) oz_H7cls_7 hS16 eF16 (by decide +kernel)) (any_sub (lₚ := [(0, 21)]) (by decide +kernel))
                have mF16 := SFm_of cF16 oz_H7cls_4
                have cA16 : SA oz_H7clsl_1 A A16 := SA_trans (cA11) (SA_gluc (ι := oz_H7clsl_3) oz_H7cls_7 hA16 eA16 (by decide +kernel)) (any_subA (lₚ := []) (by decide +kernel))
                have mA16 := SAm_of cA16 oz_H7cls_5
                have r17 : (-2147483648 : Int) ≤ y16_0_21 ∧ y16_0_21 ≤ 2147483647 := rngE (show (-2147483648 : Int) ≤ F16 0 21 ∧ F16 0 21 ≤ 2147483647 from H.krg 0 21 (ltn len_V246_oz_H7cls rfl)) (show F16 0 21 = y16_0_21 from ((eF16 0 21).trans ey16_0_21))
                exact w_ireturn rfl (k (z16) _ _ _ H O (cF16) (cA16) (y107_0_9) ((((((((show F16 0 9 = F11 0 9 from (eF16 0 9).trans (hS16 0 9 rfl))).trans ((show F11 0 9 = F_c194 0 9 from (eF11 0 9)))).trans (hS_c194 0 9 rfl)).trans (hS_c158 0 9 rfl)).trans (hS_c126 0 9 rfl)).trans (ey107_0_9))) (y11_2_1) ((((show F16 2 1 = F11 2 1 from (eF16 2 1))).trans ((eF11 2 1).trans ey11_2_1))) (show inr (z16) from pz16_0) (show 0 ≤ (z16) ∧ (z16) ≤ 17 from q_3728 pz16_1) (show 0 ≤ (y107_0_9) ∧ (y107_0_9) ≤ a1 from j107_3) (show 0 ≤ (y11_2_1) ∧ (y11_2_1) ≤ (n3) ∧ (n3) ≤ 65536 from pz11_1))
            refine Ew_of (pcₚ := 179) (fun _ => x_iload rfl (rk_o (lc158_7) rfl rfl)) ?_
            refine w_ifeq (t := 192) rfl rfl (show inr (tc126_0) from jc126_0) (fun b18 => ?_) (fun b18 => ?_)
            · refine Ew_of (pcₚ := 194) (fun _ => x_iload rfl (rk_o (lc158_5) rfl rfl)) ?_
              exact hc194 ((((a2 + a3) - 1) / a3)) _ _ _ _  (rk_o (lc158_0) rfl rfl) (rk_o (lc158_1) rfl rfl) (rk_o (lc158_2) rfl rfl) (rk_o (lc158_3) rfl rfl) (rk_o (lc158_4) rfl rfl) (rk_o (lc158_5) rfl rfl) (rk_o (lc158_6) rfl rfl) (rk_s) H O (SF_refl) (SA_refl)     (show inr ((((a2 + a3) - 1) / a3)) from q_3729 hea)
            · refine Ew_of (pcₚ := 183) (fun _ => x_iload_n rfl (rk_o (lc158_2) rfl rfl)) ?_
              refine Ew_of (pcₚ := 185) (fun _ => x_iload rfl (rk_o (lc158_6) rfl rfl)) ?_
              refine Ew_of (pcₚ := 187) (fun _ => x_iload rfl (rk_o (lc158_5) rfl rfl)) ?_
              refine w_imulA rfl (fun z19 gz19 => ?_)
              refine w_isubA rfl (fun z20 gz20 => ?_)
              refine Ew_of (pcₚ := 194) (fun _ => x_goto rfl rfl) ?_
              exact hc194 (z20) _ _ _ _  (rk_o (lc158_0) rfl rfl) (rk_o (lc158_1) rfl rfl) (rk_o (lc158_2) rfl rfl) (rk_o (lc158_3) rfl rfl) (rk_o (lc158_4) rfl rfl) (rk_o (lc158_5) rfl rfl) (rk_o (lc158_6) rfl rfl) (rk_s) H O (SF_refl) (SA_refl)     (show inr (z20) from gz20)
          refine Ew_of (pcₚ := 130) (fun _ => x_iload rfl rk_s) ?_
          refine w_ifeq (t := 137) rfl rfl (show inr (tc126_0) from jc126_0) (fun b21 => ?_) (fun b21 => ?_)
          · have hnr := NNS_at (Or.resolve_left (show (a3) = 1 ∨ NNS (fun j => nmb ((A 1)) ((u0_9) + 2 * j) 2 2) 3 by assumption) (by omega)) (i := (x107_6)) (by omega) (by omega)
            have hnt : su (fun j => nmb ((A 1)) ((u0_9) + 2 * j) 2 2) ((x107_6) + 1 : Int).toNat = su (fun j => nmb ((A 1)) ((u0_9) + 2 * j) 2 2) ((x107_6) : Int).toNat + nmb ((A 1)) ((u0_9) + 2 * (x107_6)) 2 2 := su_s (f := fun j => nmb ((A 1)) ((u0_9) + 2 * j) 2 2) (i := (x107_6)) (by omega)
            refine Ew_of (pcₚ := 138) (fun _ => x_aload_n rfl (rk_o (lc126_0) rfl rfl)) ?_
            refine v_g H (o := 0) (v := I (y107_0_9)) rfl rfl rfl rfl rfl (congrArg (fun z : Int => I z) (((hS_c126 0 9 rfl).trans (ey107_0_9)) : F_c126 0 9 = y107_0_9)) ?_
            refine Ew_of (pcₚ := 142) (fun _ => x_aload_n rfl (rk_o (lc126_0) rfl rfl)) ?_
            refine v_g H (o := 0) (v := .ref (D 1)) rfl rfl rfl rfl rfl (vrf ((mF_c126 0 7 rfl).trans (pf1))) ?_
            refine Ew_of (pcₚ := 147) (fun _ => x_iload rfl (rk_o (lc126_4) rfl rfl)) ?_
            refine Ew_of (pcₚ := 148) (fun _ => x_iconst rfl) ?_
            refine Ew_of (pcₚ := 150) (fun _ => x_iload rfl (rk_o (lc126_6) rfl rfl)) ?_
            refine w_imul rfl ?_
            refine w_iadd rfl ?_
            refine Ew_of (pcₚ := 153) (fun _ => x_iconst rfl) ?_
            refine w_stat25 rfl rfl (by rfl) (C42_Brf (D := puc 1 D) (N := puc 1 N) (HW_subc H oz_H7cls_3 oz_H7cls_8) (n1) (en1) (A 1) (funext (mA_c126 1 rfl)) (show inr ((u0_9 + (2 * x107_6))) from q_3730 b10 h3 h5 j107_1) (show inr (2) from q_55) (show (2) ≤ 0 ∨ 0 ≤ ((u0_9 + (2 * x107_6))) ∧ ((u0_9 + (2 * x107_6))) + (2) ≤ (n1) by omega) (show 0 ≤ (2) ∧ (2) ≤ 8 from q_2379) (fun z22 σ22 F22ₚ A22ₚ Hₚ Oₚ hS22 hA22 pz22_0 pz22_1 pz22_2 => ⟨rfl, ?_⟩))
            refine v_backc (c := c) (s := s) H oz_H7cls_3 oz_H7cls_8 Hₚ Oₚ (fun F22 A22 H Oₚ eF22 eA22 => ?_)
            have O := OUT_trans O Oₚ
            -- PackHouse.number
            have cF22 : SF oz_H7clsl_0 F F22 := SF_trans (cF_c126) (SF_gluc (ι := oz_H7clsl_4) oz_H7cls_8 hS22 eF22 (by decide +kernel)) (any_sub (lₚ := []) (by decide +kernel))
            have mF22 := SFm_of cF22 oz_H7cls_4
            have cA22 : SA oz_H7clsl_1 A A22 := SA_trans (cA_c126) (SA_gluc (ι := oz_H7clsl_4) oz_H7cls_8 hA22 eA22 (by decide +kernel)) (any_subA (lₚ := []) (by decide +kernel))
            have mA22 := SAm_of cA22 oz_H7cls_5
            have hnu : ((z22) : Int) = nmb ((A 1)) ((u0_9) + 2 * (x107_6)) 2 2 := pz22_2
            have hnb2 := nb2 pz22_1
            refine w_l2i rfl ?_
            refine w_iadd rfl ?_
            exact hc158 ((y107_0_9 + z22)) _ _ _ _  (rk_o (lc126_0) rfl rfl) (rk_o (lc126_1) rfl rfl) (rk_o (lc126_2) rfl rfl) (rk_o (lc126_3) rfl rfl) (rk_o (lc126_4) rfl rfl) (rk_o (lc126_5) rfl rfl) (rk_o (lc126_6) rfl rfl) (rk_s) H O (SF_trans (SF_refl) (SF_gluc (ι := oz_H7clsl_4) oz_H7cls_8 hS22 eF22 (by decide +kernel)) (any_sub (lₚ := []) (by decide +kernel))) (SA_trans (SA_refl) (SA_gluc (ι := oz_H7clsl_4) oz_H7cls_8 hA22 eA22 (by decide +kernel)) (any_subA (lₚ := []) (by decide +kernel)))     (show inr ((y107_0_9 + z22)) by omega) (show (y107_0_9) ≤ ((y107_0_9 + z22)) ∧ ((y107_0_9 + z22)) ≤ (a1) by omega) (show (a3) = 1 ∨ 3 ≤ (x107_6) ∨ ((y107_0_9 + z22)) + su (fun j => nmb ((A 1)) ((u0_9) + 2 * j) 2 2) (3 : Int).toNat ≤ (a1) + su (fun j => nmb ((A 1)) ((u0_9) + 2 * j) 2 2) ((x107_6) + 1 : Int).toNat by omega)
          · refine Ew_of (pcₚ := 134) (fun _ => x_iload_n rfl (rk_o (lc126_1) rfl rfl)) ?_
            refine Ew_of (pcₚ := 158) (fun _ => x_goto rfl rfl) ?_
            exact hc158 (a1) _ _ _ _  (rk_o (lc126_0) rfl rfl) (rk_o (lc126_1) rfl rfl) (rk_o (lc126_2) rfl rfl) (rk_o (lc126_3) rfl rfl) (rk_o (lc126_4) rfl rfl) (rk_o (lc126_5) rfl rfl) (rk_o (lc126_6) rfl rfl) (rk_s) H O (SF_refl) (SA_refl)     (show inr (a1) from h0) (show (y107_0_9) ≤ (a1) ∧ (a1) ≤ (a1) from q_2651 j107_3) (show (a3) = 1 ∨ 3 ≤ (x107_6) ∨ (a1) + su (fun j => nmb ((A 1)) ((u0_9) + 2 * j) 2 2) (3 : Int).toNat ≤ (a1) + su (fun j => nmb ((A 1)) ((u0_9) + 2 * j) 2 2) ((x107_6) + 1 : Int).toNat by omega)
        refine w_icmpne (t := 125) rfl rfl (show inr (x107_6) from j107_0) (show inr ((a3 - 1)) from q_3731 h5) (fun b23 => ?_) (fun b23 => ?_)
        · refine Ew_of (pcₚ := 126) (fun _ => x_iconst rfl) ?_
          exact hc126 (0) _ _ _ _  (l107_0) (l107_1) (l107_2) (l107_3) (l107_4) (l107_5) (l107_6) H O (SF_refl) (SA_refl)     (show inr (0) from q_20) (show ((x107_6) ≠ ((a3 - 1)) ∧ (0) = (0)) ∨ ((x107_6) = ((a3 - 1)) ∧ (0) = (1)) from q_1484 b23)
        · refine Ew_of (pcₚ := 122) (fun _ => x_iconst rfl) ?_
          refine Ew_of (pcₚ := 126) (fun _ => x_goto rfl rfl) ?_
          exact hc126 (1) _ _ _ _  (l107_0) (l107_1) (l107_2) (l107_3) (l107_4) (l107_5) (l107_6) H O (SF_refl) (SA_refl)     (show inr (1) from q_23) (show ((x107_6) ≠ ((a3 - 1)) ∧ (1) = (0)) ∨ ((x107_6) = ((a3 - 1)) ∧ (1) = (1)) from q_1485 b23)
  refine Ew_of (pcₚ := 7) (fun _ => x_iload_n rfl (rk_o (rfl) rfl rfl)) ?_
  refine Ew_of (pcₚ := 8) (fun _ => x_iconst rfl) ?_
  refine w_icmpne (t := 95) rfl rfl (show inr (a3) from h2) (show inr (4) from q_2) (fun b24 => ?_) (fun b24 => ?_)
  · have hmk : (a3) = 1 ∨ NNS (fun j => nmb ((A 1)) ((u0_9) + 2 * j) 2 2) 3 := by first | assumption | exact .inl (by omega)
    exact hc95  _ _ _ _  (rk_o (rfl) rfl rfl) (rk_o (rfl) rfl rfl) (rk_o (rfl) rfl rfl) (rk_o (rfl) rfl rfl) (rk_s) H O (SF_refl) (SA_refl)   (u0_9) ((eu0_9))  (show 0 ≤ (u0_9) ∧ (u0_9) ≤ (a1) from q_2797 h3) (show (a3) = 1 ∨ (u0_9) + 6 ≤ (a1) ∧ (u0_9) + su (fun j => nmb ((A 1)) ((u0_9) + 2 * j) 2 2) (3 : Int).toNat ≤ (a1) by omega) (show (a3) = 1 ∨ NNS (fun j => nmb ((A 1)) ((u0_9) + 2 * j) 2 2) 3 from hmk)
  · refine Ew_of (pcₚ := 13) (fun _ => x_bipush (z := 6) rfl (by decide)) ?_
    refine Ew_of (pcₚ := 15) (fun _ => x_istore rfl) ?_
    refine Ew_of (pcₚ := 16) (fun _ => x_iconst rfl) ?_
    refine Ew_of (pcₚ := 18) (fun _ => x_istore rfl) ?_
    have hz0 : su (fun j => nmb ((A 1)) ((u0_9) + 2 * j) 2 2) (0 : Int).toNat = 0 := rfl
    have hn0 : NNS (fun j => nmb ((A 1)) ((u0_9) + 2 * j) 2 2) 0 := fun j qa qb => by omega
    suffices hl18 : ∀ (m : Nat), ∀ (ls : rO) (σ : rS) (F_18 : hF) (A_18 : hA) (x18_5 : Int) (x18_6 : Int), rlook ls 0 = some (.ref (D 0)) → rlook ls 1 = some (I (a1)) → rlook ls 2 = some (I (a2)) → rlook ls 3 = some (I (a3)) → rlook ls 4 = some (I (u0_9)) → rlook ls 5 = some (I (x18_5)) → rlook ls 6 = some (I (x18_6)) → HW V246 σ D N F_18 A_18 → OUT (V246).length D N σE c s D N σ c s → SF [] F F_18 → SA [] A A_18 → (inr (x18_5)) → (inr (x18_6)) → ((0) ≤ (x18_6)) → ((x18_6) ≤ (0) ∨ (x18_6) ≤ (3)) → ((x18_5) = 6 + su (fun j => nmb ((A 1)) ((u0_9) + 2 * j) 2 2) ((x18_6) : Int).toNat) → (NNS (fun j => nmb ((A 1)) ((u0_9) + 2 * j) 2 2) (x18_6)) → ((x18_6) ≤ 0 ∨ (u0_9) + 6 ≤ (a1)) → (0 ≤ su (fun j => nmb ((A 1)) ((u0_9) + 2 * j) 2 2) ((x18_6) : Int).toNat ∧ su (fun j => nmb ((A 1)) ((u0_9) + 2 * j) 2 2) ((x18_6) : Int).toNat ≤ 65535 * (x18_6)) → ((3) - (x18_6)).toNat = m → Ew 246 (d + 3) 18 ls [] σ c s Q from
      hl18 _ _ _ _ _ (6) (0) (rk_o (rk_o (rk_o (rfl) rfl rfl) rfl rfl) rfl rfl) (rk_o (rk_o (rk_o (rfl) rfl rfl) rfl rfl) rfl rfl) (rk_o (rk_o (rk_o (rfl) rfl rfl) rfl rfl) rfl rfl) (rk_o (rk_o (rk_o (rfl) rfl rfl) rfl rfl) rfl rfl) (rk_o (rk_o (rk_s) rfl rfl) rfl rfl) (rk_o (rk_s) rfl rfl) (rk_s) H O (SF_refl) (SA_refl)     (show inr (6) from q_545) (show inr (0) from q_20) (show (0) ≤ (0) from q_25) (show (0) ≤ (0) ∨ (0) ≤ (3) from q_1534) (show (6) = 6 + su (fun j => nmb ((A 1)) ((u0_9) + 2 * j) 2 2) ((0) : Int).toNat by omega) (show NNS (fun j => nmb ((A 1)) ((u0_9) + 2 * j) 2 2) (0) by assumption) (show (0) ≤ 0 ∨ (u0_9) + 6 ≤ (a1) from q_3732) (show 0 ≤ su (fun j => nmb ((A 1)) ((u0_9) + 2 * j) 2 2) ((0) : Int).toNat ∧ su (fun j => nmb ((A 1)) ((u0_9) + 2 * j) 2 2) ((0) : Int).toNat ≤ 65535 * (0) by omega) rfl
    as_aux_lemma =>
    intro m
    induction m using Nat.strongRecOn with
    | _ m ih18 =>
      intro ls σ F_18 A_18 x18_5 x18_6 l18_0 l18_1 l18_2 l18_3 l18_4 l18_5 l18_6 H O hS_18 hA_18     j18_0 j18_1 j18_2 j18_3 j18_4 j18_5 j18_6 j18_7 hm18
      have cF_18 : SF oz_H7clsl_0 F F_18 := SF_trans (SF_refl) hS_18 (any_sub (by decide +kernel))
      have mF_18 := SFm_of cF_18 oz_H7cls_4
      have cA_18 : SA oz_H7clsl_1 A A_18 := SA_trans (SA_refl) hA_18 (any_subA (by decide +kernel))
      have mA_18 := SAm_of cA_18 oz_H7cls_5
      have hnn : NNS (fun j => nmb ((A 1)) ((u0_9) + 2 * j) 2 2) (x18_6) := by assumption
      refine Ew_of (pcₚ := 20) (fun _ => x_iload rfl l18_6) ?_
      refine Ew_of (pcₚ := 21) (fun _ => x_iconst rfl) ?_
      refine w_icmpge (t := 64) rfl rfl (show inr (x18_6) from j18_1) (show inr (3) from q_66) (fun b25 => ?_) (fun b25 => ?_)
      · refine Ew_of (pcₚ := 66) (fun _ => x_iload rfl l18_5) ?_
        refine Ew_of (pcₚ := 67) (fun _ => x_iload_n rfl l18_1) ?_
        refine Ew_of (pcₚ := 68) (fun _ => x_aload_n rfl l18_0) ?_
        refine v_g H (o := 0) (v := I (u0_9)) rfl rfl rfl rfl rfl (congrArg (fun z : Int => I z) (((hS_18 0 9 rfl).trans (eu0_9)) : F_18 0 9 = u0_9)) ?_
        refine w_isub rfl ?_
        refine w_icmple (t := 84) rfl rfl (show inr (x18_5) from j18_0) (show inr ((a1 - u0_9)) from q_3592 h3) (fun b26 => ?_) (fun b26 => ?_)
        · have hl6 : (x18_6) = 3 := q_3733 b25 j18_3 j18_6
          have hnx : (a3) = 1 ∨ NNS (fun j => nmb ((A 1)) ((u0_9) + 2 * j) 2 2) 3 := .inr (by rw [← hl6]; assumption)
          have hsx : su (fun j => nmb ((A 1)) ((u0_9) + 2 * j) 2 2) ((x18_6) : Int).toNat = su (fun j => nmb ((A 1)) ((u0_9) + 2 * j) 2 2) (3 : Int).toNat := by rw [hl6]
          refine Ew_of (pcₚ := 85) (fun _ => x_aload_n rfl l18_0) ?_
          refine Ew_of (pcₚ := 86) (fun _ => x_dup rfl rfl) ?_
          refine v_g H (o := 0) (v := I (u0_9)) rfl rfl rfl rfl rfl (congrArg (fun z : Int => I z) (((hS_18 0 9 rfl).trans (eu0_9)) : F_18 0 9 = u0_9)) ?_
          refine Ew_of (pcₚ := 91) (fun _ => x_bipush (z := 6) rfl (by decide)) ?_
          refine w_iadd rfl ?_
          refine v_p H (o := 0) (z := (u0_9 + 6)) (v := I ((u0_9 + 6))) rfl rfl rfl rfl rfl rfl rfl rfl (show (-2147483648 : Int) ≤ (u0_9 + 6) ∧ (u0_9 + 6) ≤ 2147483647 from q_3734 h3) (fun σ H Oₚ => ?_)
          have O := OUT_trans O Oₚ
          have cFu27 : SF oz_H7clsl_0 F (updF F_18 0 9 ((u0_9 + 6))) := SF_upd (cF_18) rfl
          have mFu27 := SFm_of cFu27 oz_H7cls_4
          have hmk : (a3) = 1 ∨ NNS (fun j => nmb ((A 1)) ((u0_9) + 2 * j) 2 2) 3 := by first | assumption | exact .inl (by omega)
          exact hc95  _ _ _ _  (l18_0) (l18_1) (l18_2) (l18_3) (l18_4) H O (SF_upd (SF_trans (SF_refl) hS_18 (any_sub (by decide +kernel))) rfl) (SA_trans (SA_refl) hA_18 (any_subA (by decide +kernel)))   ((u0_9 + 6)) (rfl)  (show 0 ≤ ((u0_9 + 6)) ∧ ((u0_9 + 6)) ≤ (a1) from q_3735 h3 hl6 j18_6) (show (a3) = 1 ∨ (u0_9) + 6 ≤ (a1) ∧ ((u0_9 + 6)) + su (fun j => nmb ((A 1)) ((u0_9) + 2 * j) 2 2) (3 : Int).toNat ≤ (a1) by omega) (show (a3) = 1 ∨ NNS (fun j => nmb ((A 1)) ((u0_9) + 2 * j) 2 2) 3 from hmk)
        · refine Ew_of (pcₚ := 76) (fun _ => x_aload_n rfl l18_0) ?_
          refine Ew_of (pcₚ := 78) (fun _ => x_bipush (z := 14) rfl (by decide)) ?_
          refine Ew_of (pcₚ := 80) (fun _ => x_iload rfl l18_4) ?_
          have r28 : (-2147483648 : Int) ≤ F 0 21 ∧ F 0 21 ≤ 2147483647 := rngE (show (-2147483648 : Int) ≤ F_18 0 21 ∧ F_18 0 21 ≤ 2147483647 from H.krg 0 21 (ltn len_V246_oz_H7cls rfl)) (show F_18 0 21 = F 0 21 from (hS_18 0 21 rfl))
          refine v_inv H (o := 0) rfl rfl rfl rfl rfl rfl (by rfl) (C232 (D := puc 0 D) (N := puc 0 N) (HW_subc H oz_H7cls_2 oz_H7cls_7) (F 0 21) ((hS_18 0 21 rfl)) (show inr (14) from q_1358) (show inr (u0_9) from q_3585 h3) (fun z29 σ29 F29ₚ A29ₚ Hₚ Oₚ hS29 hA29 y29_0_21 (ey29_0_21 : HID _) pz29_0 pz29_1 pz29_2 => ⟨rfl, ?_⟩))
          refine v_backc (c := c) (s := s) H oz_H7cls_2 oz_H7cls_7 Hₚ Oₚ (fun F29 A29 H Oₚ eF29 eA29 => ?_)
          have O := OUT_trans O Oₚ
          -- Unpacker.fail
          have cF29 : SF oz_H7clsl_0 F F29 := SF_trans (cF_18) (SF_gluc (ι := oz_H7clsl_3) oz_H7cls_7 hS29 eF29 (by decide +kernel)) (any_sub (lₚ := [(0, 21)]) (by decide +kernel))
          have mF29 := SFm_of cF29 oz_H7cls_4
          have cA29 : SA oz_H7clsl_1 A A29 := SA_trans (cA_18) (SA_gluc (ι := oz_H7clsl_3) oz_H7cls_7 hA29 eA29 (by decide +kernel)) (any_subA (lₚ := []) (by decide +kernel))
          have mA29 := SAm_of cA29 oz_H7cls_5
          have r30 : (-2147483648 : Int) ≤ y29_0_21 ∧ y29_0_21 ≤ 2147483647 := rngE (show (-2147483648 : Int) ≤ F29 0 21 ∧ F29 0 21 ≤ 2147483647 from H.krg 0 21 (ltn len_V246_oz_H7cls rfl)) (show F29 0 21 = y29_0_21 from ((eF29 0 21).trans ey29_0_21))
          exact w_ireturn rfl (k (z29) _ _ _ H O (cF29) (cA29) (u0_9) (((((show F29 0 9 = F_18 0 9 from (eF29 0 9).trans (hS29 0 9 rfl))).trans (hS_18 0 9 rfl)).trans (eu0_9))) (u2_1) (((((show F29 2 1 = F_18 2 1 from (eF29 2 1))).trans (hS_18 2 1 rfl)).trans (eu2_1))) (show inr (z29) from pz29_0) (show 0 ≤ (z29) ∧ (z29) ≤ 17 from q_3728 pz29_1) (show 0 ≤ (u0_9) ∧ (u0_9) ≤ a1 from q_2797 h3) (show 0 ≤ (u2_1) ∧ (u2_1) ≤ (n3) ∧ (n3) ≤ 65536 from h6))
      · refine Ew_of (pcₚ := 25) (fun _ => x_iload_n rfl l18_1) ?_
        refine Ew_of (pcₚ := 26) (fun _ => x_aload_n rfl l18_0) ?_
        refine v_g H (o := 0) (v := I (u0_9)) rfl rfl rfl rfl rfl (congrArg (fun z : Int => I z) (((hS_18 0 9 rfl).trans (eu0_9)) : F_18 0 9 = u0_9)) ?_
        refine w_isub rfl ?_
        refine Ew_of (pcₚ := 32) (fun _ => x_bipush (z := 6) rfl (by decide)) ?_
        refine w_icmplt (t := 64) rfl rfl (show inr ((a1 - u0_9)) from q_3592 h3) (show inr (6) from q_545) (fun b31 => ?_) (fun b31 => ?_)
        · refine Ew_of (pcₚ := 66) (fun _ => x_iload rfl l18_5) ?_
          refine Ew_of (pcₚ := 67) (fun _ => x_iload_n rfl l18_1) ?_
          refine Ew_of (pcₚ := 68) (fun _ => x_aload_n rfl l18_0) ?_
          refine v_g H (o := 0) (v := I (u0_9)) rfl rfl rfl rfl rfl (congrArg (fun z : Int => I z) (((hS_18 0 9 rfl).trans (eu0_9)) : F_18 0 9 = u0_9)) ?_
          refine w_isub rfl ?_
          refine w_icmple (t := 84) rfl rfl (show inr (x18_5) from j18_0) (show inr ((a1 - u0_9)) from q_3736 b31 h3) (fun b32 => ?_) (fun b32 => ?_)
          · have hl6 : (x18_6) = 3 := by omega
            have hnx : (a3) = 1 ∨ NNS (fun j => nmb ((A 1)) ((u0_9) + 2 * j) 2 2) 3 := .inr (by rw [← hl6]; assumption)
            have hsx : su (fun j => nmb ((A 1)) ((u0_9) + 2 * j) 2 2) ((x18_6) : Int).toNat = su (fun j => nmb ((A 1)) ((u0_9) + 2 * j) 2 2) (3 : Int).toNat := by rw [hl6]
            refine Ew_of (pcₚ := 85) (fun _ => x_aload_n rfl l18_0) ?_
            refine Ew_of (pcₚ := 86) (fun _ => x_dup rfl rfl) ?_
            refine v_g H (o := 0) (v := I (u0_9)) rfl rfl rfl rfl rfl (congrArg (fun z : Int => I z) (((hS_18 0 9 rfl).trans (eu0_9)) : F_18 0 9 = u0_9)) ?_
            refine Ew_of (pcₚ := 91) (fun _ => x_bipush (z := 6) rfl (by decide)) ?_
            refine w_iadd rfl ?_
            refine v_p H (o := 0) (z := (u0_9 + 6)) (v := I ((u0_9 + 6))) rfl rfl rfl rfl rfl rfl rfl rfl (show (-2147483648 : Int) ≤ (u0_9 + 6) ∧ (u0_9 + 6) ≤ 2147483647 from q_3734 h3) (fun σ H Oₚ => ?_)
            have O := OUT_trans O Oₚ
            have cFu33 : SF oz_H7clsl_0 F (updF F_18 0 9 ((u0_9 + 6))) := SF_upd (cF_18) rfl
            have mFu33 := SFm_of cFu33 oz_H7cls_4
            have hmk : (a3) = 1 ∨ NNS (fun j => nmb ((A 1)) ((u0_9) + 2 * j) 2 2) 3 := by first | assumption | exact .inl (by omega)
            exact hc95  _ _ _ _  (l18_0) (l18_1) (l18_2) (l18_3) (l18_4) H O (SF_upd (SF_trans (SF_refl) hS_18 (any_sub (by decide +kernel))) rfl) (SA_trans (SA_refl) hA_18 (any_subA (by decide +kernel)))   ((u0_9 + 6)) (rfl)  (show 0 ≤ ((u0_9 + 6)) ∧ ((u0_9 + 6)) ≤ (a1) from q_3735 h3 hl6 j18_6) (show (a3) = 1 ∨ (u0_9) + 6 ≤ (a1) ∧ ((u0_9 + 6)) + su (fun j => nmb ((A 1)) ((u0_9) + 2 * j) 2 2) (3 : Int).toNat ≤ (a1) by omega) (show (a3) = 1 ∨ NNS (fun j => nmb ((A 1)) ((u0_9) + 2 * j) 2 2) 3 from hmk)
          · refine Ew_of (pcₚ := 76) (fun _ => x_aload_n rfl l18_0) ?_
            refine Ew_of (pcₚ := 78) (fun _ => x_bipush (z := 14) rfl (by decide)) ?_
            refine Ew_of (pcₚ := 80) (fun _ => x_iload rfl l18_4) ?_
            have r34 : (-2147483648 : Int) ≤ F 0 21 ∧ F 0 21 ≤ 2147483647 := rngE (show (-2147483648 : Int) ≤ F_18 0 21 ∧ F_18 0 21 ≤ 2147483647 from H.krg 0 21 (ltn len_V246_oz_H7cls rfl)) (show F_18 0 21 = F 0 21 from (hS_18 0 21 rfl))
            refine v_inv H (o := 0) rfl rfl rfl rfl rfl rfl (by rfl) (C232 (D := puc 0 D) (N := puc 0 N) (HW_subc H oz_H7cls_2 oz_H7cls_7) (F 0 21) ((hS_18 0 21 rfl)) (show inr (14) from q_1358) (show inr (u0_9) from q_3585 h3) (fun z35 σ35 F35ₚ A35ₚ Hₚ Oₚ hS35 hA35 y35_0_21 (ey35_0_21 : HID _) pz35_0 pz35_1 pz35_2 => ⟨rfl, ?_⟩))
            refine v_backc (c := c) (s := s) H oz_H7cls_2 oz_H7cls_7 Hₚ Oₚ (fun F35 A35 H Oₚ eF35 eA35 => ?_)
            have O := OUT_trans O Oₚ
            -- Unpacker.fail
            have cF35 : SF oz_H7clsl_0 F F35 := SF_trans (cF_18) (SF_gluc (ι := oz_H7clsl_3) oz_H7cls_7 hS35 eF35 (by decide +kernel)) (any_sub (lₚ := [(0, 21)]) (by decide +kernel))
            have mF35 := SFm_of cF35 oz_H7cls_4
            have cA35 : SA oz_H7clsl_1 A A35 := SA_trans (cA_18) (SA_gluc (ι := oz_H7clsl_3) oz_H7cls_7 hA35 eA35 (by decide +kernel)) (any_subA (lₚ := []) (by decide +kernel))
            have mA35 := SAm_of cA35 oz_H7cls_5
            have r36 : (-2147483648 : Int) ≤ y35_0_21 ∧ y35_0_21 ≤ 2147483647 := rngE (show (-2147483648 : Int) ≤ F35 0 21 ∧ F35 0 21 ≤ 2147483647 from H.krg 0 21 (ltn len_V246_oz_H7cls rfl)) (show F35 0 21 = y35_0_21 from ((eF35 0 21).trans ey35_0_21))
            exact w_ireturn rfl (k (z35) _ _ _ H O (cF35) (cA35) (u0_9) (((((show F35 0 9 = F_18 0 9 from (eF35 0 9).trans (hS35 0 9 rfl))).trans (hS_18 0 9 rfl)).trans (eu0_9))) (u2_1) (((((show F35 2 1 = F_18 2 1 from (eF35 2 1))).trans (hS_18 2 1 rfl)).trans (eu2_1))) (show inr (z35) from pz35_0) (show 0 ≤ (z35) ∧ (z35) ≤ 17 from q_3728 pz35_1) (show 0 ≤ (u0_9) ∧ (u0_9) ≤ a1 from q_2797 h3) (show 0 ≤ (u2_1) ∧ (u2_1) ≤ (n3) ∧ (n3) ≤ 65536 from h6))
        · refine Ew_of (pcₚ := 37) (fun _ => x_iload rfl l18_5) ?_
          refine Ew_of (pcₚ := 38) (fun _ => x_aload_n rfl l18_0) ?_
          refine v_g H (o := 0) (v := .ref (D 1)) rfl rfl rfl rfl rfl (vrf ((mF_18 0 7 rfl).trans (pf1))) ?_
          refine Ew_of (pcₚ := 42) (fun _ => x_aload_n rfl l18_0) ?_
          refine v_g H (o := 0) (v := I (u0_9)) rfl rfl rfl rfl rfl (congrArg (fun z : Int => I z) (((hS_18 0 9 rfl).trans (eu0_9)) : F_18 0 9 = u0_9)) ?_
          refine Ew_of (pcₚ := 46) (fun _ => x_iconst rfl) ?_
          refine Ew_of (pcₚ := 48) (fun _ => x_iload rfl l18_6) ?_
          refine w_imul rfl ?_
          refine w_iadd rfl ?_
          refine Ew_of (pcₚ := 51) (fun _ => x_iconst rfl) ?_
          refine w_stat25 rfl rfl (by rfl) (C42_Brf (D := puc 1 D) (N := puc 1 N) (HW_subc H oz_H7cls_3 oz_H7cls_8) (n1) (en1) (A 1) (funext (mA_18 1 rfl)) (show inr ((u0_9 + (2 * x18_6))) from q_3738 b25 b31 h3 j18_2) (show inr (2) from q_55) (show (2) ≤ 0 ∨ 0 ≤ ((u0_9 + (2 * x18_6))) ∧ ((u0_9 + (2 * x18_6))) + (2) ≤ (n1) from q_3737 b25 b31 h3 j18_2) (show 0 ≤ (2) ∧ (2) ≤ 8 from q_2379) (fun z37 σ37 F37ₚ A37ₚ Hₚ Oₚ hS37 hA37 pz37_0 pz37_1 pz37_2 => ⟨rfl, ?_⟩))
          refine v_backc (c := c) (s := s) H oz_H7cls_3 oz_H7cls_8 Hₚ Oₚ (fun F37 A37 H Oₚ eF37 eA37 => ?_)
          have O := OUT_trans O Oₚ
          -- PackHouse.number
          have cF37 : SF oz_H7clsl_0 F F37 := SF_trans (cF_18) (SF_gluc (ι := oz_H7clsl_4) oz_H7cls_8 hS37 eF37 (by decide +kernel)) (any_sub (lₚ := []) (by decide +kernel))
          have mF37 := SFm_of cF37 oz_H7cls_4
          have cA37 : SA oz_H7clsl_1 A A37 := SA_trans (cA_18) (SA_gluc (ι := oz_H7clsl_4) oz_H7cls_8 hA37 eA37 (by decide +kernel)) (any_subA (lₚ := []) (by decide +kernel))
          have mA37 := SAm_of cA37 oz_H7cls_5
          have hnb := nb2 pz37_1
          have hnq : ((z37) : Int) = nmb ((A 1)) ((u0_9) + 2 * (x18_6)) 2 2 := pz37_2
          have hnv : 0 ≤ (fun j => nmb ((A 1)) ((u0_9) + 2 * j) 2 2) ((x18_6)) ∧ (fun j => nmb ((A 1)) ((u0_9) + 2 * j) 2 2) ((x18_6)) ≤ 65535 := by show 0 ≤ nmb ((A 1)) ((u0_9) + 2 * (x18_6)) 2 2 ∧ nmb ((A 1)) ((u0_9) + 2 * (x18_6)) 2 2 ≤ 65535; omega
          have hss : su (fun j => nmb ((A 1)) ((u0_9) + 2 * j) 2 2) ((x18_6) + 1 : Int).toNat = su (fun j => nmb ((A 1)) ((u0_9) + 2 * j) 2 2) ((x18_6) : Int).toNat + nmb ((A 1)) ((u0_9) + 2 * (x18_6)) 2 2 := su_s (f := fun j => nmb ((A 1)) ((u0_9) + 2 * j) 2 2) (i := (x18_6)) (by omega)
          refine w_l2i rfl ?_
          refine w_iadd rfl ?_
          refine Ew_of (pcₚ := 58) (fun _ => x_istore rfl) ?_
          refine Ew_of (pcₚ := 61) (fun _ => x_iinc (len := 3) rfl (rk_o (l18_6) rfl rfl)) ?_
          refine Ew_of (pcₚ := 18) (fun _ => x_goto rfl rfl) ?_
          have hn1 : NNS (fun j => nmb ((A 1)) ((u0_9) + 2 * j) 2 2) ((x18_6 + 1)) := NNS_s hnn rfl hnv
          exact ih18 _ (msE hm18 q_595 (q_596 b25)) _ _ _ _ ((x18_5 + z37)) ((x18_6 + 1)) (rk_o (rk_o (l18_0) rfl rfl) rfl rfl) (rk_o (rk_o (l18_1) rfl rfl) rfl rfl) (rk_o (rk_o (l18_2) rfl rfl) rfl rfl) (rk_o (rk_o (l18_3) rfl rfl) rfl rfl) (rk_o (rk_o (l18_4) rfl rfl) rfl rfl) (rk_o (rk_s) rfl rfl) (rk_s) H O (SF_trans (hS_18) (SF_gluc (ι := oz_H7clsl_4) oz_H7cls_8 hS37 eF37 (by decide +kernel)) (any_sub (lₚ := []) (by decide +kernel))) (SA_trans (hA_18) (SA_gluc (ι := oz_H7clsl_4) oz_H7cls_8 hA37 eA37 (by decide +kernel)) (any_subA (lₚ := []) (by decide +kernel)))     (show inr ((x18_5 + z37)) by omega) (show inr ((x18_6 + 1)) from q_1542 b25 j18_2) (show (0) ≤ ((x18_6 + 1)) from q_29 j18_2) (show ((x18_6 + 1)) ≤ (0) ∨ ((x18_6 + 1)) ≤ (3) from q_1541 b25) (show ((x18_5 + z37)) = 6 + su (fun j => nmb ((A 1)) ((u0_9) + 2 * j) 2 2) (((x18_6 + 1)) : Int).toNat by omega) (show NNS (fun j => nmb ((A 1)) ((u0_9) + 2 * j) 2 2) ((x18_6 + 1)) from hn1) (show ((x18_6 + 1)) ≤ 0 ∨ (u0_9) + 6 ≤ (a1) from q_3739 b31) (show 0 ≤ su (fun j => nmb ((A 1)) ((u0_9) + 2 * j) 2 2) (((x18_6 + 1)) : Int).toNat ∧ su (fun j => nmb ((A 1)) ((u0_9) + 2 * j) 2 2) (((x18_6 + 1)) : Int).toNat ≤ 65535 * ((x18_6 + 1)) by omega) rfl
