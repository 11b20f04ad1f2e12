abbrev V246 : vV := [(0, 12, [(4, 0), (4, 0), (4, 0), (4, 0), (4, 0), (4, 0), (4, 0), (4, 0), (0, 0), (0, 0), (4, 0), (0, 0), (4, 0), (4, 0), (0, 0), (2, 0), (0, 0), (0, 0), (0, 0), (0, 0), (0, 0), (0, 0)]), (1, 0, []), (0, 7, [(4, 0), (0, 0), (1, 0), (0, 0), (0, 0)]), (1, 0, []), (0, 9, [(4, 0), (4, 0), (4, 0)]), (0, 3, [(4, 0), (4, 0), (4, 0), (0, 0), (4, 0), (4, 0), (4, 0), (4, 0), (4, 0), (4, 0), (4, 0), (4, 0), (4, 0), (0, 0), (0, 0), (0, 0), (0, 0)]), (1, 1, []), (0, 2, [(4, 0), (0, 0), (0, 0)])]
theorem len_V246_oz_H7cls : (V246).length = 8 := by decide +kernel
theorem oz_H7cls_1 : vsub V246 V110_Br_Row [5, 1, 2, 6, 3, 7] = true := by decide +kernel
theorem oz_H7cls_2 : vsub V246 V232 [0] = true := by decide +kernel
theorem oz_H7cls_3 : vsub V246 V42_Br [1] = true := by decide +kernel
def oz_H7clsl_0 : List (Nat × Nat) := [(0, 9), (0, 21), (2, 1), (7, 0), (7, 1), (7, 2)]
theorem oz_H7cls_4 : (oz_H7clsl_0).all (fun p => !tbz 188719626670054478562669105609137414715460010957820900855872692945408 (Nat.add (Nat.mul 32 p.1) p.2)) = true := by decide +kernel
def oz_H7clsl_1 : List Nat := [3]
theorem oz_H7cls_5 : (oz_H7clsl_1).all (fun p => !tbz 8 p) = true := by decide +kernel
def oz_H7clsl_2 : List Nat := [5, 1, 2, 6, 3, 7]
theorem oz_H7cls_6 : okc oz_H7clsl_2 246497568883205 = true := by decide +kernel
def oz_H7clsl_3 : List Nat := [0]
theorem oz_H7cls_7 : okc oz_H7clsl_3 0 = true := by decide +kernel
def oz_H7clsl_4 : List Nat := [1]
theorem oz_H7cls_8 : okc oz_H7clsl_4 1 = true := by decide +kernel
set_option maxHeartbeats 16000000 in
theorem C246 {σE : rS} {D N : Nat → Nat} {F : hF} {A : hA} {d c s : Nat} {Q : wQ} (H : HW V246 σE D N F A) {a1 a2 a3 : Int} (pf1 : HID (F 0 7 = (D 1 : Int))) (pf2 : HID (F 0 4 = (D 2 : Int))) (pf3 : HID (F 2 0 = (D 3 : Int))) (pf4 : HID (F 0 3 = (D 4 : Int))) (pf5 : HID (F 4 0 = (D 5 : Int))) (pf6 : HID (F 5 2 = (D 6 : Int))) (pf7 : HID (F 5 9 = (D 7 : Int))) (n1 : Int) (en1 : HID ((N 1 : Int) = n1)) (n3 : Int) (en3 : HID ((N 3 : Int) = n3)) (n6 : Int) (en6 : HID ((N 6 : Int) = n6)) (u0_9 : Int) (eu0_9 : HID (F 0 9 = u0_9)) (u0_21 : Int) (eu0_21 : HID (F 0 21 = u0_21)) (u2_1 : Int) (eu2_1 : HID (F 2 1 = u2_1)) (u5_3 : Int) (eu5_3 : HID (F 5 3 = u5_3)) (w1 : Int → Int) (ew1 : A 1 = w1) (w3 : Int → Int) (ew3 : A 3 = w3) (w6 : Int → Int) (ew6 : A 6 = w6) (GG : Int → Int) (h0 : inr (a1)) (h1 : inr (a2)) (h2 : inr (a3)) (h3 : 0 ≤ (u0_9) ∧ (u0_9) ≤ (a1) ∧ (a1) ≤ (n1) ∧ (n1) ≤ 65536) (h4 : 0 ≤ (a2) ∧ (a2) ≤ 131072) (h5 : (a3) = 1 ∨ (a3) = 4) (h6 : 0 ≤ (u2_1) ∧ (u2_1) ≤ (n3) ∧ (n3) ≤ 65536) (h7 : (a3) = 1 ∨ 3 * (((a2) + 3) / 4) ≤ (a2)) (h8 : (u2_1) = 0) (h9 : CI GG ((u5_3))) (h10 : fl ((w6)) (p2 ((u5_3))) = (CELS GG ((u5_3))).map (clF GG)) (h11 : 0 ≤ (u5_3) ∧ (u5_3) ≤ 11) (h12 : CEL ((w6))) (h13 : (n6) = 2048) (k : ∀ (z : Int) (σ : rS) (Fₚ : hF) (Aₚ : hA), HW V246 σ D N Fₚ Aₚ → OUT (V246).length D N σE c s D N σ c s → SF [(0, 9), (0, 21), (2, 1), (7, 0), (7, 1), (7, 2)] F Fₚ → SA [3] A Aₚ → ∀ y0_9 : Int, Fₚ 0 9 = y0_9 → ∀ y0_21 : Int, Fₚ 0 21 = y0_21 → ∀ y2_1 : Int, Fₚ 2 1 = y2_1 → ∀ v3 : Int → Int, Aₚ 3 = v3 → (inr (z)) → (0 ≤ (z) ∧ (z) ≤ 17) → (0 ≤ (y0_9) ∧ (y0_9) ≤ (a1)) → (0 ≤ (y2_1) ∧ (y2_1) ≤ (n3) ∧ (n3) ≤ 65536) → (STU (STF (ub8 ((w1))) GG ((u5_3)) ((a2)) ((a3) - 1) ((u0_9)) ((a1))) ((z)) ((y0_21)) ((v3)) ((y2_1)) ((n3))) → ((z) ≠ 0 ∨ (y0_9) = (a1)) → ((z) ≠ 0 ∨ (y0_21) = (u0_21)) → Q (some (I z)) σ c s) : Ew 246 (d + 3) 0 (rargs 0 [.ref (D 0), I a1, I a2, I a3]) [] σE c s Q := by
  have O := OUT_refl (n := (V246).length) (D := D) (N := N) (σ := σE) (c := c) (s := s)
  have HE := H
  have r1 : (-2147483648 : Int) ≤ u0_9 ∧ u0_9 ≤ 2147483647 := rngE (show (-2147483648 : Int) ≤ F 0 9 ∧ F 0 9 ≤ 2147483647 from H.krg 0 9 (ltn len_V246_oz_H7cls rfl)) (show F 0 9 = u0_9 from (eu0_9))
  have r2 : (-2147483648 : Int) ≤ u0_21 ∧ u0_21 ≤ 2147483647 := rngE (show (-2147483648 : Int) ≤ F 0 21 ∧ F 0 21 ≤ 2147483647 from H.krg 0 21 (ltn len_V246_oz_H7cls rfl)) (show F 0 21 = u0_21 from (eu0_21))
  have r3 : (-2147483648 : Int) ≤ u2_1 ∧ u2_1 ≤ 2147483647 := rngE (show (-2147483648 : Int) ≤ F 2 1 ∧ F 2 1 ≤ 2147483647 from H.krg 2 1 (ltn len_V246_oz_H7cls rfl)) (show F 2 1 = u2_1 from (eu2_1))
  have r4 : (-2147483648 : Int) ≤ u5_3 ∧ u5_3 ≤ 2147483647 := rngE (show (-2147483648 : Int) ≤ F 5 3 ∧ F 5 3 ≤ 2147483647 from H.krg 5 3 (ltn len_V246_oz_H7cls rfl)) (show F 5 3 = u5_3 from (eu5_3))
  have r5 : (0 : Int) ≤ n1 ∧ n1 ≤ 1000000 := nleE (H.nle 1 (ltn len_V246_oz_H7cls rfl)) (show (N 1 : Int) = n1 from en1)
  have r6 : (0 : Int) ≤ n3 ∧ n3 ≤ 1000000 := nleE (H.nle 3 (ltn len_V246_oz_H7cls rfl)) (show (N 3 : Int) = n3 from en3)
  have r7 : (0 : Int) ≤ n6 ∧ n6 ≤ 1000000 := nleE (H.nle 6 (ltn len_V246_oz_H7cls rfl)) (show (N 6 : Int) = n6 from en6)
  refine Ew_of (pcₚ := 1) (fun _ => x_aload_n rfl rfl) ?_
  refine v_g H (o := 0) (v := I (u0_9)) rfl rfl rfl rfl rfl (congrArg (fun z : Int => I z) ((eu0_9) : F 0 9 = u0_9)) ?_
  refine Ew_of (pcₚ := 6) (fun _ => x_istore rfl) ?_
  have hc95 : ∀ (ls : rO) (σ : rS) (F_c95 : hF) (A_c95 : hA) , rlook ls 0 = some (.ref (D 0)) → rlook ls 1 = some (I (a1)) → rlook ls 2 = some (I (a2)) → rlook ls 3 = some (I (a3)) → rlook ls 4 = some (I (u0_9)) → HW V246 σ D N F_c95 A_c95 → OUT (V246).length D N σE c s D N σ c s → SF [(0, 9)] F F_c95 → SA [] A A_c95 → ∀ yc95_0_9 : Int, F_c95 0 9 = yc95_0_9 → (0 ≤ (yc95_0_9) ∧ (yc95_0_9) ≤ (a1)) → ((a3) = 1 ∨ (u0_9) + 6 ≤ (a1) ∧ (yc95_0_9) + su (fun j => nmb ((w1)) ((u0_9) + 2 * j) 2 2) (3 : Int).toNat ≤ (a1)) → ((a3) = 1 ∨ NNS (fun j => nmb ((w1)) ((u0_9) + 2 * j) 2 2) 3) → (((a3) = 1 ∧ (yc95_0_9) = (u0_9) ∨ (a3) = 4 ∧ (yc95_0_9) = (u0_9) + 6 ∧ 6 + (nvl (ub8 ((w1))) ((u0_9)) 2 + nvl (ub8 ((w1))) ((u0_9) + 2) 2 + nvl (ub8 ((w1))) ((u0_9) + 4) 2) ≤ (a1) - (u0_9))) → ((u0_21) = (u0_21)) → Ew 246 (d + 3) 95 ls [] σ c s Q := by
   as_aux_lemma =>
    intro  ls σ F_c95 A_c95  lc95_0 lc95_1 lc95_2 lc95_3 lc95_4 H O hS_c95 hA_c95   yc95_0_9 eyc95_0_9  jc95_0 jc95_1 jc95_2 jc95_3 jc95_4
    have cF_c95 : SF oz_H7clsl_0 F F_c95 := SF_trans (SF_refl) hS_c95 (any_sub (by decide +kernel))
    have mF_c95 := SFm_of cF_c95 oz_H7cls_4
    have cA_c95 : SA oz_H7clsl_1 A A_c95 := SA_trans (SA_refl) hA_c95 (any_subA (by decide +kernel))
    have mA_c95 := SAm_of cA_c95 oz_H7cls_5
    replace eyc95_0_9 := HIDm eyc95_0_9
    have r8 : (-2147483648 : Int) ≤ yc95_0_9 ∧ yc95_0_9 ≤ 2147483647 := rngE (show (-2147483648 : Int) ≤ F_c95 0 9 ∧ F_c95 0 9 ≤ 2147483647 from H.krg 0 9 (ltn len_V246_oz_H7cls rfl)) (show F_c95 0 9 = yc95_0_9 from (eyc95_0_9))
    have k95 : ((a3) = 1 ∧ (yc95_0_9) = (u0_9) ∨ (a3) = 4 ∧ (yc95_0_9) = (u0_9) + 6 ∧ 6 + (nvl (ub8 ((w1))) ((u0_9)) 2 + nvl (ub8 ((w1))) ((u0_9) + 2) 2 + nvl (ub8 ((w1))) ((u0_9) + 4) 2) ≤ (a1) - (u0_9)) := jc95_3
    refine Ew_of (pcₚ := 96) (fun _ => x_iload_n rfl lc95_2) ?_
    refine Ew_of (pcₚ := 97) (fun _ => x_iload_n rfl lc95_3) ?_
    refine w_iadd rfl ?_
    refine Ew_of (pcₚ := 99) (fun _ => x_iconst rfl) ?_
    refine w_isub rfl ?_
    refine Ew_of (pcₚ := 101) (fun _ => x_iload_n rfl lc95_3) ?_
    refine w_idiv rfl (show inr (((a2 + a3) - 1)) ∧ 0 ≤ ((a2 + a3) - 1) from q_4112 h4 h5) (show inr (a3) ∧ 0 < a3 from q_4111 h2 h5) ?_
    have hea : 0 ≤ (((((a2 + a3) - 1) / a3)) : Int) ∧ (((((a2 + a3) - 1) / a3)) : Int) ≤ 131072 := by rcases (show (a3) = 1 ∨ (a3) = 4 from h5) with q | q <;> rw [q] <;> omega
    have hl5v : (a3) = 1 ∧ (((((a2 + a3) - 1) / a3)) : Int) = (a2) ∨ (a3) = 4 ∧ (((((a2 + a3) - 1) / a3)) : Int) = ((a2) + 3) / 4 := by rcases (show (a3) = 1 ∨ (a3) = 4 from h5) with q | q; (exact .inl ⟨q, by rw [q]; omega⟩); (exact .inr ⟨q, by rw [q]; omega⟩)
    refine Ew_of (pcₚ := 104) (fun _ => x_istore rfl) ?_
    refine Ew_of (pcₚ := 105) (fun _ => x_iconst rfl) ?_
    refine Ew_of (pcₚ := 107) (fun _ => x_istore rfl) ?_
    have hz1 : su (fun j => nmb ((w1)) ((u0_9) + 2 * j) 2 2) (0 : Int).toNat = 0 := rfl
    have hsj : ∃ A : List Int, SIR (STF (ub8 ((w1))) GG ((u5_3)) ((a2)) ((a3) - 1) ((u0_9)) ((a1))) (ub8 ((w1))) GG ((u5_3)) ((a2)) ((a3)) (((((a2 + a3) - 1) / a3))) ((u0_9)) ((a1)) ((0 : Int)) ((yc95_0_9)) A ∧ LKP ((w3)) ((u2_1)) ((n3)) A := by rcases k95 with ⟨x, y⟩ | ⟨x, y, z⟩; (exact ⟨[], SIR_1 x (by omega) (by omega) (by omega) (by omega), LKP_z (by omega)⟩); (exact ⟨[], SIR_4 x (by omega) (by omega) (by omega) (by omega) z, LKP_z (by omega)⟩)
    suffices hl107 : ∀ (m : Nat), ∀ (ls : rO) (σ : rS) (F_107 : hF) (A_107 : hA) (x107_6 : Int), rlook ls 0 = some (.ref (D 0)) → rlook ls 1 = some (I (a1)) → rlook ls 2 = some (I (a2)) → rlook ls 3 = some (I (a3)) → rlook ls 4 = some (I (u0_9)) → rlook ls 5 = some (I ((((a2 + a3) - 1) / a3))) → rlook ls 6 = some (I (x107_6)) → HW V246 σ D N F_107 A_107 → OUT (V246).length D N σE c s D N σ c s → SF [(0, 9), (2, 1), (7, 0), (7, 1), (7, 2)] F_c95 F_107 → SA [3] A_c95 A_107 → ∀ y107_0_9 : Int, F_107 0 9 = y107_0_9 → ∀ y107_2_1 : Int, F_107 2 1 = y107_2_1 → ∀ w107_3 : Int → Int, A_107 3 = w107_3 → (inr (x107_6)) → ((0) ≤ (x107_6)) → ((x107_6) ≤ (0) ∨ (x107_6) ≤ ((a3))) → (0 ≤ (y107_0_9) ∧ (y107_0_9) ≤ (a1)) → (0 ≤ (y107_2_1) ∧ (y107_2_1) ≤ (n3) ∧ (n3) ≤ 65536) → ((a3) = 1 ∨ 3 < (x107_6) ∨ (y107_0_9) + su (fun j => nmb ((w1)) ((u0_9) + 2 * j) 2 2) (3 : Int).toNat ≤ (a1) + su (fun j => nmb ((w1)) ((u0_9) + 2 * j) 2 2) ((x107_6) : Int).toNat) → (∃ A : List Int, SIR (STF (ub8 ((w1))) GG ((u5_3)) ((a2)) ((a3) - 1) ((u0_9)) ((a1))) (ub8 ((w1))) GG ((u5_3)) ((a2)) ((a3)) (((((a2 + a3) - 1) / a3))) ((u0_9)) ((a1)) ((x107_6)) ((y107_0_9)) A ∧ LKP ((w107_3)) ((y107_2_1)) ((n3)) A) → ((x107_6) < (a3) ∨ (y107_0_9) = (a1)) → ((u0_21) = (u0_21)) → (((a3)) - (x107_6)).toNat = m → Ew 246 (d + 3) 107 ls [] σ c s Q from
      hl107 _ _ _ _ _ (0) (rk_o (rk_o (lc95_0) rfl rfl) rfl rfl) (rk_o (rk_o (lc95_1) rfl rfl) rfl rfl) (rk_o (rk_o (lc95_2) rfl rfl) rfl rfl) (rk_o (rk_o (lc95_3) rfl rfl) rfl rfl) (rk_o (rk_o (lc95_4) rfl rfl) rfl rfl) (rk_o (rk_s) rfl rfl) (rk_s) H O (SF_refl) (SA_refl)   (yc95_0_9) ((eyc95_0_9)) (u2_1) (((hS_c95 2 1 rfl).trans (eu2_1))) (w3) ((funext (hA_c95 3 rfl)).trans (ew3)) (show inr (0) from q_2) (show (0) ≤ (0) from q_1) (show (0) ≤ (0) ∨ (0) ≤ ((a3)) from q_5) (show 0 ≤ (yc95_0_9) ∧ (yc95_0_9) ≤ (a1) from jc95_0) (show 0 ≤ (u2_1) ∧ (u2_1) ≤ (n3) ∧ (n3) ≤ 65536 from h6) (show (a3) = 1 ∨ 3 < (0) ∨ (yc95_0_9) + su (fun j => nmb ((w1)) ((u0_9) + 2 * j) 2 2) (3 : Int).toNat ≤ (a1) + su (fun j => nmb ((w1)) ((u0_9) + 2 * j) 2 2) ((0) : Int).toNat by omega) (show ∃ A : List Int, SIR (STF (ub8 ((w1))) GG ((u5_3)) ((a2)) ((a3) - 1) ((u0_9)) ((a1))) (ub8 ((w1))) GG ((u5_3)) ((a2)) ((a3)) (((((a2 + a3) - 1) / a3))) ((u0_9)) ((a1)) ((0)) ((yc95_0_9)) A ∧ LKP ((w3)) ((u2_1)) ((n3)) A by assumption) (show (0) < (a3) ∨ (yc95_0_9) = (a1) from q_4113 h5) (show (u0_21) = (u0_21) from jc95_4) rfl
    as_aux_lemma =>
    intro m
    induction m using Nat.strongRecOn with
    | _ m ih107 =>
      intro ls σ F_107 A_107 x107_6 l107_0 l107_1 l107_2 l107_3 l107_4 l107_5 l107_6 H O hS_107 hA_107   y107_0_9 ey107_0_9 y107_2_1 ey107_2_1 w107_3 ew107_3 j107_0 j107_1 j107_2 j107_3 j107_4 j107_5 j107_6 j107_7 j107_8 hm107
      have cF_107 : SF oz_H7clsl_0 F F_107 := SF_trans (cF_c95) hS_107 (any_sub (by decide +kernel))
      have mF_107 := SFm_of cF_107 oz_H7cls_4
      have cA_107 : SA oz_H7clsl_1 A A_107 := SA_trans (cA_c95) hA_107 (any_subA (by decide +kernel))
      have mA_107 := SAm_of cA_107 oz_H7cls_5
      replace ey107_0_9 := HIDm ey107_0_9
      replace ey107_2_1 := HIDm ey107_2_1
      have r9 : (-2147483648 : Int) ≤ y107_0_9 ∧ y107_0_9 ≤ 2147483647 := rngE (show (-2147483648 : Int) ≤ F_107 0 9 ∧ F_107 0 9 ≤ 2147483647 from H.krg 0 9 (ltn len_V246_oz_H7cls rfl)) (show F_107 0 9 = y107_0_9 from (ey107_0_9))
      have r10 : (-2147483648 : Int) ≤ y107_2_1 ∧ y107_2_1 ≤ 2147483647 := rngE (show (-2147483648 : Int) ≤ F_107 2 1 ∧ F_107 2 1 ≤ 2147483647 from H.krg 2 1 (ltn len_V246_oz_H7cls rfl)) (show F_107 2 1 = y107_2_1 from (ey107_2_1))
      have j107_s : ∃ A : List Int, SIR (STF (ub8 ((w1))) GG ((u5_3)) ((a2)) ((a3) - 1) ((u0_9)) ((a1))) (ub8 ((w1))) GG ((u5_3)) ((a2)) ((a3)) (((((a2 + a3) - 1) / a3))) ((u0_9)) ((a1)) ((x107_6)) ((y107_0_9)) A ∧ LKP ((w107_3)) ((y107_2_1)) ((n3)) A := by assumption
      obtain ⟨A_, hSI, hLK⟩ := j107_s
      refine Ew_of (pcₚ := 109) (fun _ => x_iload rfl l107_6) ?_
      refine Ew_of (pcₚ := 110) (fun _ => x_iload_n rfl l107_3) ?_
      refine w_icmpge (t := 227) rfl rfl (show inr (x107_6) from j107_0) (show inr (a3) from h2) (fun b11 => ?_) (fun b11 => ?_)
      · refine Ew_of (pcₚ := 228) (fun _ => x_iconst rfl) ?_
        have hST : STU (STF (ub8 ((w1))) GG ((u5_3)) ((a2)) ((a3) - 1) ((u0_9)) ((a1))) ((0)) ((u0_21)) ((w107_3)) ((y107_2_1)) ((n3)) := .inr ⟨by omega, A_, SIR_e hSI (by omega), hLK⟩
        exact w_ireturn rfl (k (0) _ _ _ H O (cF_107) (cA_107) (y107_0_9) ((ey107_0_9)) (u0_21) ((((hS_107 0 21 rfl).trans (hS_c95 0 21 rfl)).trans (eu0_21))) (y107_2_1) ((ey107_2_1)) (w107_3) (ew107_3) (show inr (0) from q_2) (show 0 ≤ (0) ∧ (0) ≤ 17 by first | exact q_3949 | omega) (show 0 ≤ (y107_0_9) ∧ (y107_0_9) ≤ a1 from j107_3) (show 0 ≤ (y107_2_1) ∧ (y107_2_1) ≤ (n3) ∧ (n3) ≤ 65536 from j107_4) (hST) (show (0) ≠ 0 ∨ (y107_0_9) = a1 by first | exact q_4114 b11 h3 j107_3 j107_7 | omega) (show (0) ≠ 0 ∨ (u0_21) = (u0_21) by first | exact q_3969 j107_8 | omega))
      · refine Ew_of (pcₚ := 115) (fun _ => x_iload rfl l107_6) ?_
        refine Ew_of (pcₚ := 116) (fun _ => x_iload_n rfl l107_3) ?_
        refine Ew_of (pcₚ := 117) (fun _ => x_iconst rfl) ?_
        refine w_isub rfl ?_
        have hc126 : ∀ (tc126_0 : Int), ∀ (ls : rO) (σ : rS) (F_c126 : hF) (A_c126 : hA) , rlook ls 0 = some (.ref (D 0)) → rlook ls 1 = some (I (a1)) → rlook ls 2 = some (I (a2)) → rlook ls 3 = some (I (a3)) → rlook ls 4 = some (I (u0_9)) → rlook ls 5 = some (I ((((a2 + a3) - 1) / a3))) → rlook ls 6 = some (I (x107_6)) → HW V246 σ D N F_c126 A_c126 → OUT (V246).length D N σE c s D N σ c s → SF [] F_107 F_c126 → SA [] A_107 A_c126 → (inr (tc126_0)) → (((x107_6) ≠ ((a3 - 1)) ∧ (tc126_0) = (0)) ∨ ((x107_6) = ((a3 - 1)) ∧ (tc126_0) = (1))) → Ew 246 (d + 3) 126 ls [I (tc126_0)] σ c s Q := by
         as_aux_lemma =>
          intro tc126_0 ls σ F_c126 A_c126  lc126_0 lc126_1 lc126_2 lc126_3 lc126_4 lc126_5 lc126_6 H O hS_c126 hA_c126     jc126_0 jc126_1
          have cF_c126 : SF oz_H7clsl_0 F F_c126 := SF_trans (cF_107) hS_c126 (any_sub (by decide +kernel))
          have mF_c126 := SFm_of cF_c126 oz_H7cls_4
          have cA_c126 : SA oz_H7clsl_1 A A_c126 := SA_trans (cA_107) hA_c126 (any_subA (by decide +kernel))
          have mA_c126 := SAm_of cA_c126 oz_H7cls_5
          refine Ew_of (pcₚ := 128) (fun _ => x_istore rfl) ?_
          have hc158 : ∀ (tc158_0 : Int), ∀ (ls : rO) (σ : rS) (F_c158 : hF) (A_c158 : hA) , rlook ls 0 = some (.ref (D 0)) → rlook ls 1 = some (I (a1)) → rlook ls 2 = some (I (a2)) → rlook ls 3 = some (I (a3)) → rlook ls 4 = some (I (u0_9)) → rlook ls 5 = some (I ((((a2 + a3) - 1) / a3))) → rlook ls 6 = some (I (x107_6)) → rlook ls 7 = some (I (tc126_0)) → HW V246 σ D N F_c158 A_c158 → OUT (V246).length D N σE c s D N σ c s → SF [] F_c126 F_c158 → SA [] A_c126 A_c158 → (inr (tc158_0)) → ((y107_0_9) ≤ (tc158_0) ∧ (tc158_0) ≤ (a1)) → ((a3) = 1 ∨ 3 ≤ (x107_6) ∨ (tc158_0) + su (fun j => nmb ((w1)) ((u0_9) + 2 * j) 2 2) (3 : Int).toNat ≤ (a1) + su (fun j => nmb ((w1)) ((u0_9) + 2 * j) 2 2) ((x107_6) + 1 : Int).toNat) → (((tc126_0) = 1 ∧ (tc158_0) = (a1) ∨ (tc126_0) = 0 ∧ (tc158_0) = (y107_0_9) + nvl (ub8 ((w1))) ((u0_9) + 2 * (x107_6)) 2)) → Ew 246 (d + 3) 158 ls [I (tc158_0)] σ c s Q := by
           as_aux_lemma =>
            intro tc158_0 ls σ F_c158 A_c158  lc158_0 lc158_1 lc158_2 lc158_3 lc158_4 lc158_5 lc158_6 lc158_7 H O hS_c158 hA_c158     jc158_0 jc158_1 jc158_2 jc158_3
            have cF_c158 : SF oz_H7clsl_0 F F_c158 := SF_trans (cF_c126) hS_c158 (any_sub (by decide +kernel))
            have mF_c158 := SFm_of cF_c158 oz_H7cls_4
            have cA_c158 : SA oz_H7clsl_1 A A_c158 := SA_trans (cA_c126) hA_c158 (any_subA (by decide +kernel))
            have mA_c158 := SAm_of cA_c158 oz_H7cls_5
            refine Ew_of (pcₚ := 160) (fun _ => x_istore rfl) ?_
            obtain ⟨q7, hq7⟩ : ∃ q : Int, q = (tc126_0) := ⟨_, rfl⟩
            have hq7c : q7 = 1 ∧ (x107_6) = (a3) - 1 ∨ q7 = 0 ∧ (x107_6) ≠ (a3) - 1 := by omega
            have h158 : ((tc126_0) = 1 ∧ (tc158_0) = (a1) ∨ (tc126_0) = 0 ∧ (tc158_0) = (y107_0_9) + nvl (ub8 ((w1))) ((u0_9) + 2 * (x107_6)) 2) := jc158_3
            refine Ew_of (pcₚ := 161) (fun _ => x_aload_n rfl (rk_o (lc158_0) rfl rfl)) ?_
            refine v_g H (o := 0) (v := .ref (D 4)) rfl rfl rfl rfl rfl (vrf ((mF_c158 0 3 rfl).trans (pf4))) ?_
            refine v_g H (o := 4) (v := .ref (D 5)) rfl rfl rfl rfl rfl (vrf ((mF_c158 4 0 rfl).trans (pf5))) ?_
            refine Ew_of (pcₚ := 168) (fun _ => x_aload_n rfl (rk_o (lc158_0) rfl rfl)) ?_
            refine v_g H (o := 0) (v := .ref (D 1)) rfl rfl rfl rfl rfl (vrf ((mF_c158 0 7 rfl).trans (pf1))) ?_
            refine Ew_of (pcₚ := 172) (fun _ => x_aload_n rfl (rk_o (lc158_0) rfl rfl)) ?_
            refine v_g H (o := 0) (v := I (y107_0_9)) rfl rfl rfl rfl rfl (congrArg (fun z : Int => I z) ((((hS_c158 0 9 rfl).trans (hS_c126 0 9 rfl)).trans (ey107_0_9)) : F_c158 0 9 = y107_0_9)) ?_
            refine Ew_of (pcₚ := 177) (fun _ => x_iload rfl rk_s) ?_
            have hc194 : ∀ (tc194_0 : Int), ∀ (ls : rO) (σ : rS) (F_c194 : hF) (A_c194 : hA) , rlook ls 0 = some (.ref (D 0)) → rlook ls 1 = some (I (a1)) → rlook ls 2 = some (I (a2)) → rlook ls 3 = some (I (a3)) → rlook ls 4 = some (I (u0_9)) → rlook ls 5 = some (I ((((a2 + a3) - 1) / a3))) → rlook ls 6 = some (I (x107_6)) → rlook ls 8 = some (I (tc158_0)) → HW V246 σ D N F_c194 A_c194 → OUT (V246).length D N σE c s D N σ c s → SF [] F_c158 F_c194 → SA [] A_c158 A_c194 → (inr (tc194_0)) → (0 ≤ (tc194_0)) → ((q7 = 1 ∧ (tc194_0) = (a2) - (x107_6) * ((((a2 + a3) - 1) / a3)) ∨ q7 = 0 ∧ (tc194_0) = ((((a2 + a3) - 1) / a3)))) → Ew 246 (d + 3) 194 ls [I (tc194_0), I (tc158_0), I (y107_0_9), .ref (D 1), .ref (D 5)] σ c s Q := by
             as_aux_lemma =>
              intro tc194_0 ls σ F_c194 A_c194  lc194_0 lc194_1 lc194_2 lc194_3 lc194_4 lc194_5 lc194_6 lc194_8 H O hS_c194 hA_c194     jc194_0 jc194_1 jc194_2
              have cF_c194 : SF oz_H7clsl_0 F F_c194 := SF_trans (cF_c158) hS_c194 (any_sub (by decide +kernel))
              have mF_c194 := SFm_of cF_c194 oz_H7cls_4
              have cA_c194 : SA oz_H7clsl_1 A A_c194 := SA_trans (cA_c158) hA_c194 (any_subA (by decide +kernel))
              have mA_c194 := SAm_of cA_c194 oz_H7cls_5
              refine Ew_of (pcₚ := 195) (fun _ => x_aload_n rfl lc194_0) ?_
              refine v_g H (o := 0) (v := .ref (D 2)) rfl rfl rfl rfl rfl (vrf ((mF_c194 0 4 rfl).trans (pf2))) ?_
              have hcn : (x107_6) = (a3) - 1 ∧ (tc158_0) = (a1) ∧ (tc194_0) = (a2) - (x107_6) * ((((a2 + a3) - 1) / a3)) ∨ (x107_6) ≠ (a3) - 1 ∧ (tc158_0) = (y107_0_9) + nvl (ub8 ((w1))) ((u0_9) + 2 * (x107_6)) 2 ∧ (tc194_0) = ((((a2 + a3) - 1) / a3)) := by have k194 : (q7 = 1 ∧ (tc194_0) = (a2) - (x107_6) * ((((a2 + a3) - 1) / a3)) ∨ q7 = 0 ∧ (tc194_0) = ((((a2 + a3) - 1) / a3))) := (by assumption); omega
              refine v_inv H (o := 5) rfl rfl rfl rfl rfl rfl (by rfl) (C110_Br_Row (D := puc 246497568883205 D) (N := puc 246497568883205 N) (HW_subc H oz_H7cls_1 oz_H7cls_6) ((mF_c194 5 2 rfl).trans (pf6)) ((mF_c194 2 0 rfl).trans (pf3)) ((mF_c194 5 9 rfl).trans (pf7)) (n1) (en1) (n6) (en6) (n3) (en3) (u5_3) (((mF_c194 5 3 rfl).trans (eu5_3))) (y107_2_1) (((((hS_c194 2 1 rfl).trans (hS_c158 2 1 rfl)).trans (hS_c126 2 1 rfl)).trans (ey107_2_1))) (w1) ((funext (mA_c194 1 rfl)).trans (ew1)) (w6) ((funext (mA_c194 6 rfl)).trans (ew6)) (w107_3) ((funext (hA_c194 3 rfl)).trans ((funext (hA_c158 3 rfl)).trans ((funext (hA_c126 3 rfl)).trans (ew107_3)))) (GG) (A_) (show inr (y107_0_9) from q_512 j107_3 r9) (show inr (tc158_0) from jc158_0) (show inr (tc194_0) from jc194_0) (show 0 ≤ (y107_0_9) ∧ (y107_0_9) ≤ 65536 ∧ 0 ≤ (tc158_0) ∧ (tc158_0) ≤ (n1) ∧ (n1) ≤ 65536 ∧ (y107_0_9) ≤ 200000 from q_4115 h3 j107_3 jc158_1) (show 0 ≤ ((u5_3)) ∧ ((u5_3)) ≤ 11 from h11) (h12) (show (n6) = 2048 from h13) (show 0 ≤ (y107_2_1) ∧ (y107_2_1) ≤ (n3) ∧ (n3) ≤ 65536 from j107_4) (show 0 ≤ (tc194_0) from jc194_1) (h9) (show fl ((w6)) (p2 ((u5_3))) = (CELS (GG) ((u5_3))).map (clF (GG)) by assumption) (show LKP ((w107_3)) ((y107_2_1)) ((n3)) (A_) by assumption) (fun z12 σ12 F12ₚ A12ₚ Hₚ Oₚ hS12 hA12 y12_2_1 (ey12_2_1 : HID _) w12_4 ew12_4 pz12_0 pz12_1 pz12_2 pz12_3 => ⟨rretB rfl pz12_0, ?_⟩))
              refine v_backc (c := c) (s := s) H oz_H7cls_1 oz_H7cls_6 Hₚ Oₚ (fun F12 A12 H Oₚ eF12 eA12 => ?_)
              have O := OUT_trans O Oₚ
              -- Codes.unpack
              have cF12 : SF oz_H7clsl_0 F F12 := SF_trans (cF_c194) (SF_gluc (ι := oz_H7clsl_2) oz_H7cls_6 hS12 eF12 (by decide +kernel)) (any_sub (lₚ := [(2, 1), (7, 0), (7, 1), (7, 2)]) (by decide +kernel))
              have mF12 := SFm_of cF12 oz_H7cls_4
              have cA12 : SA oz_H7clsl_1 A A12 := SA_trans (cA_c194) (SA_gluc (ι := oz_H7clsl_2) oz_H7cls_6 hA12 eA12 (by decide +kernel)) (any_subA (lₚ := [3]) (by decide +kernel))
              have mA12 := SAm_of cA12 oz_H7cls_5
              have r13 : (-2147483648 : Int) ≤ y12_2_1 ∧ y12_2_1 ≤ 2147483647 := rngE (show (-2147483648 : Int) ≤ F12 2 1 ∧ F12 2 1 ≤ 2147483647 from H.krg 2 1 (ltn len_V246_oz_H7cls rfl)) (show F12 2 1 = y12_2_1 from ((eF12 2 1).trans ey12_2_1))
              have hDC := pz12_3
              refine w_ifne (t := 215) rfl rfl (show inr (z12) from q_138 pz12_0) (fun b14 => ?_) (fun b14 => ?_)
              · refine Ew_of (pcₚ := 216) (fun _ => x_aload_n rfl lc194_0) ?_
                refine Ew_of (pcₚ := 218) (fun _ => x_iload rfl lc194_8) ?_
                refine v_p H (o := 0) (z := tc158_0) (v := I (tc158_0)) rfl rfl rfl rfl rfl rfl rfl rfl (show (-2147483648 : Int) ≤ tc158_0 ∧ tc158_0 ≤ 2147483647 from q_31 jc158_0) (fun σ H Oₚ => ?_)
                have O := OUT_trans O Oₚ
                have cFu15 : SF oz_H7clsl_0 F (updF F12 0 9 (tc158_0)) := SF_upd (cF12) rfl
                have mFu15 := SFm_of cFu15 oz_H7cls_4
                refine Ew_of (pcₚ := 224) (fun _ => x_iinc (len := 3) rfl (lc194_6)) ?_
                refine Ew_of (pcₚ := 107) (fun _ => x_goto rfl rfl) ?_
                have hsj : ∃ A : List Int, SIR (STF (ub8 ((w1))) GG ((u5_3)) ((a2)) ((a3) - 1) ((u0_9)) ((a1))) (ub8 ((w1))) GG ((u5_3)) ((a2)) ((a3)) (((((a2 + a3) - 1) / a3))) ((u0_9)) ((a1)) (((x107_6 + 1))) ((tc158_0)) A ∧ LKP ((w12_4)) ((y12_2_1)) ((n3)) A := by rcases hDC with ⟨x, _⟩ | ⟨_, B, x, y⟩; (omega); (exact ⟨B, SIR_s hSI (by omega) hcn x rfl, y⟩)
                exact ih107 _ (msE hm107 q_16 (q_17 b11)) _ _ _ _ ((x107_6 + 1)) (rk_o (lc194_0) rfl rfl) (rk_o (lc194_1) rfl rfl) (rk_o (lc194_2) rfl rfl) (rk_o (lc194_3) rfl rfl) (rk_o (lc194_4) rfl rfl) (rk_o (lc194_5) rfl rfl) (rk_s) H O (SF_upd (SF_trans (SF_trans (SF_trans (SF_trans (hS_107) hS_c126 (any_sub (by decide +kernel))) hS_c158 (any_sub (by decide +kernel))) hS_c194 (any_sub (by decide +kernel))) (SF_gluc (ι := oz_H7clsl_2) oz_H7cls_6 hS12 eF12 (by decide +kernel)) (any_sub (lₚ := [(2, 1), (7, 0), (7, 1), (7, 2)]) (by decide +kernel))) rfl) (SA_trans (SA_trans (SA_trans (SA_trans (hA_107) hA_c126 (any_subA (by decide +kernel))) hA_c158 (any_subA (by decide +kernel))) hA_c194 (any_subA (by decide +kernel))) (SA_gluc (ι := oz_H7clsl_2) oz_H7cls_6 hA12 eA12 (by decide +kernel)) (any_subA (lₚ := [3]) (by decide +kernel)))   (tc158_0) (rfl) (y12_2_1) (((eF12 2 1).trans ey12_2_1)) (w12_4) ((eA12 3).trans ew12_4) (show inr ((x107_6 + 1)) from q_4117 b11 h5 j107_1) (show (0) ≤ ((x107_6 + 1)) from q_14 j107_1) (show ((x107_6 + 1)) ≤ (0) ∨ ((x107_6 + 1)) ≤ ((a3)) from q_13 b11) (show 0 ≤ (tc158_0) ∧ (tc158_0) ≤ (a1) from q_4116 j107_3 jc158_1) (show 0 ≤ (y12_2_1) ∧ (y12_2_1) ≤ (n3) ∧ (n3) ≤ 65536 from pz12_1) (show (a3) = 1 ∨ 3 < ((x107_6 + 1)) ∨ (tc158_0) + su (fun j => nmb ((w1)) ((u0_9) + 2 * j) 2 2) (3 : Int).toNat ≤ (a1) + su (fun j => nmb ((w1)) ((u0_9) + 2 * j) 2 2) (((x107_6 + 1)) : Int).toNat by omega) (hsj) (show ((x107_6 + 1)) < (a3) ∨ (tc158_0) = (a1) by omega) (show (u0_21) = (u0_21) from j107_8) rfl
              · refine Ew_of (pcₚ := 205) (fun _ => x_aload_n rfl lc194_0) ?_
                refine Ew_of (pcₚ := 207) (fun _ => x_bipush (z := 14) rfl (by decide)) ?_
                refine Ew_of (pcₚ := 208) (fun _ => x_aload_n rfl lc194_0) ?_
                refine v_g H (o := 0) (v := I (y107_0_9)) rfl rfl rfl rfl rfl (congrArg (fun z : Int => I z) (((((((show F12 0 9 = F_c194 0 9 from (eF12 0 9))).trans (hS_c194 0 9 rfl)).trans (hS_c158 0 9 rfl)).trans (hS_c126 0 9 rfl)).trans (ey107_0_9)) : F12 0 9 = y107_0_9)) ?_
                refine v_inv H (o := 0) rfl rfl rfl rfl rfl rfl (by rfl) (C232 (D := puc 0 D) (N := puc 0 N) (HW_subc H oz_H7cls_2 oz_H7cls_7) (u0_21) (((((((((show F12 0 21 = F_c194 0 21 from (eF12 0 21))).trans (hS_c194 0 21 rfl)).trans (hS_c158 0 21 rfl)).trans (hS_c126 0 21 rfl)).trans (hS_107 0 21 rfl)).trans (hS_c95 0 21 rfl)).trans (eu0_21))) (show inr (14) from q_1607) (show inr (y107_0_9) from q_512 j107_3 r9) (fun z16 σ16 F16ₚ A16ₚ Hₚ Oₚ hS16 hA16 y16_0_21 (ey16_0_21 : HID _) pz16_0 pz16_1 pz16_2 => ⟨rfl, ?_⟩))
                refine v_backc (c := c) (s := s) H oz_H7cls_2 oz_H7cls_7 Hₚ Oₚ (fun F16 A16 H Oₚ eF16 eA16 => ?_)
                have O := OUT_trans O Oₚ
                -- Unpacker.fail
                have cF16 : SF oz_H7clsl_0 F F16 := SF_trans (cF12) (SF_gluc (ι := oz_H7clsl_3) oz_H7cls_7 hS16 eF16 (by decide +kernel)) (any_sub (lₚ := [(0, 21)]) (by decide +kernel))
                have mF16 := SFm_of cF16 oz_H7cls_4
                have cA16 : SA oz_H7clsl_1 A A16 := SA_trans (cA12) (SA_gluc (ι := oz_H7clsl_3) oz_H7cls_7 hA16 eA16 (by decide +kernel)) (any_subA (lₚ := []) (by decide +kernel))
                have mA16 := SAm_of cA16 oz_H7cls_5
                have r17 : (-2147483648 : Int) ≤ y16_0_21 ∧ y16_0_21 ≤ 2147483647 := rngE (show (-2147483648 : Int) ≤ F16 0 21 ∧ F16 0 21 ≤ 2147483647 from H.krg 0 21 (ltn len_V246_oz_H7cls rfl)) (show F16 0 21 = y16_0_21 from ((eF16 0 21).trans ey16_0_21))
                have hST : STU (STF (ub8 ((w1))) GG ((u5_3)) ((a2)) ((a3) - 1) ((u0_9)) ((a1))) ((z16)) ((y16_0_21)) ((w12_4)) ((y12_2_1)) ((n3)) := by rcases hDC with ⟨_, x⟩ | ⟨x, _⟩; (exact STU_f (SIR_f hSI (by omega) hcn x) (by omega) (by omega)); (omega)
                exact w_ireturn rfl (k (z16) _ _ _ H O (cF16) (cA16) (y107_0_9) ((((((((show F16 0 9 = F12 0 9 from (eF16 0 9).trans (hS16 0 9 rfl))).trans ((show F12 0 9 = F_c194 0 9 from (eF12 0 9)))).trans (hS_c194 0 9 rfl)).trans (hS_c158 0 9 rfl)).trans (hS_c126 0 9 rfl)).trans (ey107_0_9))) (y16_0_21) (((eF16 0 21).trans ey16_0_21)) (y12_2_1) ((((show F16 2 1 = F12 2 1 from (eF16 2 1))).trans ((eF12 2 1).trans ey12_2_1))) (w12_4) (((show A16 3 = A12 3 from (eA16 3))).trans ((eA12 3).trans ew12_4)) (show inr (z16) from pz16_0) (show 0 ≤ (z16) ∧ (z16) ≤ 17 from q_4119 pz16_1) (show 0 ≤ (y107_0_9) ∧ (y107_0_9) ≤ a1 from j107_3) (show 0 ≤ (y12_2_1) ∧ (y12_2_1) ≤ (n3) ∧ (n3) ≤ 65536 from pz12_1) (hST) (show (z16) ≠ 0 ∨ (y107_0_9) = a1 from q_4118 pz16_1) (show (z16) ≠ 0 ∨ (y16_0_21) = (u0_21) from q_4118 pz16_1))
            refine Ew_of (pcₚ := 179) (fun _ => x_iload rfl (rk_o (lc158_7) rfl rfl)) ?_
            refine w_ifeq (t := 192) rfl rfl (show inr (tc126_0) from jc126_0) (fun b18 => ?_) (fun b18 => ?_)
            · refine Ew_of (pcₚ := 194) (fun _ => x_iload rfl (rk_o (lc158_5) rfl rfl)) ?_
              have : (q7 = 1 ∧ ((((a2 + a3) - 1) / a3)) = (a2) - (x107_6) * ((((a2 + a3) - 1) / a3)) ∨ q7 = 0 ∧ ((((a2 + a3) - 1) / a3)) = ((((a2 + a3) - 1) / a3))) := by exact .inr ⟨by omega, rfl⟩
              exact hc194 ((((a2 + a3) - 1) / a3)) _ _ _ _  (rk_o (lc158_0) rfl rfl) (rk_o (lc158_1) rfl rfl) (rk_o (lc158_2) rfl rfl) (rk_o (lc158_3) rfl rfl) (rk_o (lc158_4) rfl rfl) (rk_o (lc158_5) rfl rfl) (rk_o (lc158_6) rfl rfl) (rk_s) H O (SF_refl) (SA_refl)     (show inr ((((a2 + a3) - 1) / a3)) from q_4121 hea) (show 0 ≤ ((((a2 + a3) - 1) / a3)) from q_4120 hea) (show (q7 = 1 ∧ ((((a2 + a3) - 1) / a3)) = (a2) - (x107_6) * ((((a2 + a3) - 1) / a3)) ∨ q7 = 0 ∧ ((((a2 + a3) - 1) / a3)) = ((((a2 + a3) - 1) / a3))) by assumption)
            · have hml : 0 ≤ (x107_6) * ((((a2 + a3) - 1) / a3)) ∧ (x107_6) * ((((a2 + a3) - 1) / a3)) ≤ (a2) := by rcases (show (a3) = 1 ∨ (a3) = 4 from h5) with q | q; (rw [show ((x107_6) : Int) = 0 by omega]; omega); (rw [show ((x107_6) : Int) = 3 by omega]; omega)
              refine Ew_of (pcₚ := 183) (fun _ => x_iload_n rfl (rk_o (lc158_2) rfl rfl)) ?_
              refine Ew_of (pcₚ := 185) (fun _ => x_iload rfl (rk_o (lc158_6) rfl rfl)) ?_
              refine Ew_of (pcₚ := 187) (fun _ => x_iload rfl (rk_o (lc158_5) rfl rfl)) ?_
              refine w_imul rfl ?_
              refine w_isub rfl ?_
              refine Ew_of (pcₚ := 194) (fun _ => x_goto rfl rfl) ?_
              have : (q7 = 1 ∧ ((a2 - (x107_6 * (((a2 + a3) - 1) / a3)))) = (a2) - (x107_6) * ((((a2 + a3) - 1) / a3)) ∨ q7 = 0 ∧ ((a2 - (x107_6 * (((a2 + a3) - 1) / a3)))) = ((((a2 + a3) - 1) / a3))) := by exact .inl ⟨by omega, rfl⟩
              exact hc194 ((a2 - (x107_6 * (((a2 + a3) - 1) / a3)))) _ _ _ _  (rk_o (lc158_0) rfl rfl) (rk_o (lc158_1) rfl rfl) (rk_o (lc158_2) rfl rfl) (rk_o (lc158_3) rfl rfl) (rk_o (lc158_4) rfl rfl) (rk_o (lc158_5) rfl rfl) (rk_o (lc158_6) rfl rfl) (rk_s) H O (SF_refl) (SA_refl)     (show inr ((a2 - (x107_6 * (((a2 + a3) - 1) / a3)))) from q_4123 h4 hml) (show 0 ≤ ((a2 - (x107_6 * (((a2 + a3) - 1) / a3)))) from q_4122 hml) (show (q7 = 1 ∧ ((a2 - (x107_6 * (((a2 + a3) - 1) / a3)))) = (a2) - (x107_6) * ((((a2 + a3) - 1) / a3)) ∨ q7 = 0 ∧ ((a2 - (x107_6 * (((a2 + a3) - 1) / a3)))) = ((((a2 + a3) - 1) / a3))) by assumption)
          refine Ew_of (pcₚ := 130) (fun _ => x_iload rfl rk_s) ?_
          refine w_ifeq (t := 137) rfl rfl (show inr (tc126_0) from jc126_0) (fun b19 => ?_) (fun b19 => ?_)
          · have hnr := NNS_at (Or.resolve_left (jc95_2) (by omega)) (i := (x107_6)) (by omega) (by omega)
            have hnt : su (fun j => nmb ((w1)) ((u0_9) + 2 * j) 2 2) ((x107_6) + 1 : Int).toNat = su (fun j => nmb ((w1)) ((u0_9) + 2 * j) 2 2) ((x107_6) : Int).toNat + nmb ((w1)) ((u0_9) + 2 * (x107_6)) 2 2 := su_s (f := fun j => nmb ((w1)) ((u0_9) + 2 * j) 2 2) (i := (x107_6)) (by omega)
            refine Ew_of (pcₚ := 138) (fun _ => x_aload_n rfl (rk_o (lc126_0) rfl rfl)) ?_
            refine v_g H (o := 0) (v := I (y107_0_9)) rfl rfl rfl rfl rfl (congrArg (fun z : Int => I z) (((hS_c126 0 9 rfl).trans (ey107_0_9)) : F_c126 0 9 = y107_0_9)) ?_
            refine Ew_of (pcₚ := 142) (fun _ => x_aload_n rfl (rk_o (lc126_0) rfl rfl)) ?_
            refine v_g H (o := 0) (v := .ref (D 1)) rfl rfl rfl rfl rfl (vrf ((mF_c126 0 7 rfl).trans (pf1))) ?_
            refine Ew_of (pcₚ := 147) (fun _ => x_iload rfl (rk_o (lc126_4) rfl rfl)) ?_
            refine Ew_of (pcₚ := 148) (fun _ => x_iconst rfl) ?_
            refine Ew_of (pcₚ := 150) (fun _ => x_iload rfl (rk_o (lc126_6) rfl rfl)) ?_
            refine w_imul rfl ?_
            refine w_iadd rfl ?_
            refine Ew_of (pcₚ := 153) (fun _ => x_iconst rfl) ?_
            refine w_stat25 rfl rfl (by rfl) (C42_Brf (D := puc 1 D) (N := puc 1 N) (HW_subc H oz_H7cls_3 oz_H7cls_8) (n1) (en1) (w1) ((funext (mA_c126 1 rfl)).trans (ew1)) (show inr ((u0_9 + (2 * x107_6))) from q_4124 b11 h3 h5 j107_1) (show inr (2) from q_122) (show (2) ≤ 0 ∨ 0 ≤ ((u0_9 + (2 * x107_6))) ∧ ((u0_9 + (2 * x107_6))) + (2) ≤ (n1) by omega) (show 0 ≤ (2) ∧ (2) ≤ 8 from q_2748) (fun z20 σ20 F20ₚ A20ₚ Hₚ Oₚ hS20 hA20 pz20_0 pz20_1 pz20_2 => ⟨rfl, ?_⟩))
            refine v_backc (c := c) (s := s) H oz_H7cls_3 oz_H7cls_8 Hₚ Oₚ (fun F20 A20 H Oₚ eF20 eA20 => ?_)
            have O := OUT_trans O Oₚ
            -- PackHouse.number
            have cF20 : SF oz_H7clsl_0 F F20 := SF_trans (cF_c126) (SF_gluc (ι := oz_H7clsl_4) oz_H7cls_8 hS20 eF20 (by decide +kernel)) (any_sub (lₚ := []) (by decide +kernel))
            have mF20 := SFm_of cF20 oz_H7cls_4
            have cA20 : SA oz_H7clsl_1 A A20 := SA_trans (cA_c126) (SA_gluc (ι := oz_H7clsl_4) oz_H7cls_8 hA20 eA20 (by decide +kernel)) (any_subA (lₚ := []) (by decide +kernel))
            have mA20 := SAm_of cA20 oz_H7cls_5
            have hnu : ((z20) : Int) = nmb ((w1)) ((u0_9) + 2 * (x107_6)) 2 2 := pz20_2
            have hnb2 := nb2 pz20_1
            have hnv2 : ((z20) : Int) = nvl (ub8 ((w1))) ((u0_9) + 2 * (x107_6)) 2 := (nmb_nn pz20_2 (by decide) pz20_0).trans nvl_u
            refine w_l2i rfl ?_
            refine w_iadd rfl ?_
            have : ((tc126_0) = 1 ∧ ((y107_0_9 + z20)) = (a1) ∨ (tc126_0) = 0 ∧ ((y107_0_9 + z20)) = (y107_0_9) + nvl (ub8 ((w1))) ((u0_9) + 2 * (x107_6)) 2) := by exact .inr ⟨by omega, by rw [← hnv2]⟩
            exact hc158 ((y107_0_9 + z20)) _ _ _ _  (rk_o (lc126_0) rfl rfl) (rk_o (lc126_1) rfl rfl) (rk_o (lc126_2) rfl rfl) (rk_o (lc126_3) rfl rfl) (rk_o (lc126_4) rfl rfl) (rk_o (lc126_5) rfl rfl) (rk_o (lc126_6) rfl rfl) (rk_s) H O (SF_trans (SF_refl) (SF_gluc (ι := oz_H7clsl_4) oz_H7cls_8 hS20 eF20 (by decide +kernel)) (any_sub (lₚ := []) (by decide +kernel))) (SA_trans (SA_refl) (SA_gluc (ι := oz_H7clsl_4) oz_H7cls_8 hA20 eA20 (by decide +kernel)) (any_subA (lₚ := []) (by decide +kernel)))     (show inr ((y107_0_9 + z20)) by omega) (show (y107_0_9) ≤ ((y107_0_9 + z20)) ∧ ((y107_0_9 + z20)) ≤ (a1) by omega) (show (a3) = 1 ∨ 3 ≤ (x107_6) ∨ ((y107_0_9 + z20)) + su (fun j => nmb ((w1)) ((u0_9) + 2 * j) 2 2) (3 : Int).toNat ≤ (a1) + su (fun j => nmb ((w1)) ((u0_9) + 2 * j) 2 2) ((x107_6) + 1 : Int).toNat by omega) (show ((tc126_0) = 1 ∧ ((y107_0_9 + z20)) = (a1) ∨ (tc126_0) = 0 ∧ ((y107_0_9 + z20)) = (y107_0_9) + nvl (ub8 ((w1))) ((u0_9) + 2 * (x107_6)) 2) by assumption)
          · refine Ew_of (pcₚ := 134) (fun _ => x_iload_n rfl (rk_o (lc126_1) rfl rfl)) ?_
            refine Ew_of (pcₚ := 158) (fun _ => x_goto rfl rfl) ?_
            have : ((tc126_0) = 1 ∧ (a1) = (a1) ∨ (tc126_0) = 0 ∧ (a1) = (y107_0_9) + nvl (ub8 ((w1))) ((u0_9) + 2 * (x107_6)) 2) := by exact .inl ⟨by omega, rfl⟩
            exact hc158 (a1) _ _ _ _  (rk_o (lc126_0) rfl rfl) (rk_o (lc126_1) rfl rfl) (rk_o (lc126_2) rfl rfl) (rk_o (lc126_3) rfl rfl) (rk_o (lc126_4) rfl rfl) (rk_o (lc126_5) rfl rfl) (rk_o (lc126_6) rfl rfl) (rk_s) H O (SF_refl) (SA_refl)     (show inr (a1) from h0) (show (y107_0_9) ≤ (a1) ∧ (a1) ≤ (a1) from q_84 j107_3) (show (a3) = 1 ∨ 3 ≤ (x107_6) ∨ (a1) + su (fun j => nmb ((w1)) ((u0_9) + 2 * j) 2 2) (3 : Int).toNat ≤ (a1) + su (fun j => nmb ((w1)) ((u0_9) + 2 * j) 2 2) ((x107_6) + 1 : Int).toNat by omega) (show ((tc126_0) = 1 ∧ (a1) = (a1) ∨ (tc126_0) = 0 ∧ (a1) = (y107_0_9) + nvl (ub8 ((w1))) ((u0_9) + 2 * (x107_6)) 2) by assumption)
        refine w_icmpne (t := 125) rfl rfl (show inr (x107_6) from j107_0) (show inr ((a3 - 1)) from q_4125 h5) (fun b21 => ?_) (fun b21 => ?_)
        · refine Ew_of (pcₚ := 126) (fun _ => x_iconst rfl) ?_
          exact hc126 (0) _ _ _ _  (l107_0) (l107_1) (l107_2) (l107_3) (l107_4) (l107_5) (l107_6) H O (SF_refl) (SA_refl)     (show inr (0) from q_2) (show ((x107_6) ≠ ((a3 - 1)) ∧ (0) = (0)) ∨ ((x107_6) = ((a3 - 1)) ∧ (0) = (1)) from q_1737 b21)
        · refine Ew_of (pcₚ := 122) (fun _ => x_iconst rfl) ?_
          refine Ew_of (pcₚ := 126) (fun _ => x_goto rfl rfl) ?_
          exact hc126 (1) _ _ _ _  (l107_0) (l107_1) (l107_2) (l107_3) (l107_4) (l107_5) (l107_6) H O (SF_refl) (SA_refl)     (show inr (1) from q_135) (show ((x107_6) ≠ ((a3 - 1)) ∧ (1) = (0)) ∨ ((x107_6) = ((a3 - 1)) ∧ (1) = (1)) from q_1738 b21)
  refine Ew_of (pcₚ := 7) (fun _ => x_iload_n rfl (rk_o (rfl) rfl rfl)) ?_
  refine Ew_of (pcₚ := 8) (fun _ => x_iconst rfl) ?_
  refine w_icmpne (t := 95) rfl rfl (show inr (a3) from h2) (show inr (4) from q_216) (fun b22 => ?_) (fun b22 => ?_)
  · have hmk : (a3) = 1 ∨ NNS (fun j => nmb ((w1)) ((u0_9) + 2 * j) 2 2) 3 := by exact .inl (by omega)
    have : ((a3) = 1 ∧ (u0_9) = (u0_9) ∨ (a3) = 4 ∧ (u0_9) = (u0_9) + 6 ∧ 6 + (nvl (ub8 ((w1))) ((u0_9)) 2 + nvl (ub8 ((w1))) ((u0_9) + 2) 2 + nvl (ub8 ((w1))) ((u0_9) + 4) 2) ≤ (a1) - (u0_9)) := by exact .inl ⟨by omega, by omega⟩
    exact hc95  _ _ _ _  (rk_o (rfl) rfl rfl) (rk_o (rfl) rfl rfl) (rk_o (rfl) rfl rfl) (rk_o (rfl) rfl rfl) (rk_s) H O (SF_refl) (SA_refl)   (u0_9) ((eu0_9))  (show 0 ≤ (u0_9) ∧ (u0_9) ≤ (a1) from q_3100 h3) (show (a3) = 1 ∨ (u0_9) + 6 ≤ (a1) ∧ (u0_9) + su (fun j => nmb ((w1)) ((u0_9) + 2 * j) 2 2) (3 : Int).toNat ≤ (a1) by omega) (hmk) (show ((a3) = 1 ∧ (u0_9) = (u0_9) ∨ (a3) = 4 ∧ (u0_9) = (u0_9) + 6 ∧ 6 + (nvl (ub8 ((w1))) ((u0_9)) 2 + nvl (ub8 ((w1))) ((u0_9) + 2) 2 + nvl (ub8 ((w1))) ((u0_9) + 4) 2) ≤ (a1) - (u0_9)) by assumption) (show (u0_21) = (u0_21) from q_303)
  · refine Ew_of (pcₚ := 13) (fun _ => x_bipush (z := 6) rfl (by decide)) ?_
    refine Ew_of (pcₚ := 15) (fun _ => x_istore rfl) ?_
    refine Ew_of (pcₚ := 16) (fun _ => x_iconst rfl) ?_
    refine Ew_of (pcₚ := 18) (fun _ => x_istore rfl) ?_
    have hz0 : su (fun j => nmb ((w1)) ((u0_9) + 2 * j) 2 2) (0 : Int).toNat = 0 := rfl
    have hn0 : NNS (fun j => nmb ((w1)) ((u0_9) + 2 * j) 2 2) 0 := fun j qa qb => by omega
    suffices hl18 : ∀ (m : Nat), ∀ (ls : rO) (σ : rS) (F_18 : hF) (A_18 : hA) (x18_5 : Int) (x18_6 : Int), rlook ls 0 = some (.ref (D 0)) → rlook ls 1 = some (I (a1)) → rlook ls 2 = some (I (a2)) → rlook ls 3 = some (I (a3)) → rlook ls 4 = some (I (u0_9)) → rlook ls 5 = some (I (x18_5)) → rlook ls 6 = some (I (x18_6)) → HW V246 σ D N F_18 A_18 → OUT (V246).length D N σE c s D N σ c s → SF [] F F_18 → SA [] A A_18 → (inr (x18_5)) → (inr (x18_6)) → ((0) ≤ (x18_6)) → ((x18_6) ≤ (0) ∨ (x18_6) ≤ (3)) → ((x18_5) = 6 + su (fun j => nmb ((w1)) ((u0_9) + 2 * j) 2 2) ((x18_6) : Int).toNat) → (NNS (fun j => nmb ((w1)) ((u0_9) + 2 * j) 2 2) (x18_6)) → ((x18_6) ≤ 0 ∨ (u0_9) + 6 ≤ (a1)) → (0 ≤ su (fun j => nmb ((w1)) ((u0_9) + 2 * j) 2 2) ((x18_6) : Int).toNat ∧ su (fun j => nmb ((w1)) ((u0_9) + 2 * j) 2 2) ((x18_6) : Int).toNat ≤ 65535 * (x18_6)) → ((3) - (x18_6)).toNat = m → Ew 246 (d + 3) 18 ls [] σ c s Q from
      hl18 _ _ _ _ _ (6) (0) (rk_o (rk_o (rk_o (rfl) rfl rfl) rfl rfl) rfl rfl) (rk_o (rk_o (rk_o (rfl) rfl rfl) rfl rfl) rfl rfl) (rk_o (rk_o (rk_o (rfl) rfl rfl) rfl rfl) rfl rfl) (rk_o (rk_o (rk_o (rfl) rfl rfl) rfl rfl) rfl rfl) (rk_o (rk_o (rk_s) rfl rfl) rfl rfl) (rk_o (rk_s) rfl rfl) (rk_s) H O (SF_refl) (SA_refl)     (show inr (6) from q_756) (show inr (0) from q_2) (show (0) ≤ (0) from q_1) (show (0) ≤ (0) ∨ (0) ≤ (3) from q_1793) (show (6) = 6 + su (fun j => nmb ((w1)) ((u0_9) + 2 * j) 2 2) ((0) : Int).toNat by omega) (hn0) (show (0) ≤ 0 ∨ (u0_9) + 6 ≤ (a1) from q_4126) (show 0 ≤ su (fun j => nmb ((w1)) ((u0_9) + 2 * j) 2 2) ((0) : Int).toNat ∧ su (fun j => nmb ((w1)) ((u0_9) + 2 * j) 2 2) ((0) : Int).toNat ≤ 65535 * (0) by omega) rfl
    as_aux_lemma =>
    intro m
    induction m using Nat.strongRecOn with
    | _ m ih18 =>
      intro ls σ F_18 A_18 x18_5 x18_6 l18_0 l18_1 l18_2 l18_3 l18_4 l18_5 l18_6 H O hS_18 hA_18     j18_0 j18_1 j18_2 j18_3 j18_4 j18_5 j18_6 j18_7 hm18
      have cF_18 : SF oz_H7clsl_0 F F_18 := SF_trans (SF_refl) hS_18 (any_sub (by decide +kernel))
      have mF_18 := SFm_of cF_18 oz_H7cls_4
      have cA_18 : SA oz_H7clsl_1 A A_18 := SA_trans (SA_refl) hA_18 (any_subA (by decide +kernel))
      have mA_18 := SAm_of cA_18 oz_H7cls_5
      have hnn : NNS (fun j => nmb ((w1)) ((u0_9) + 2 * j) 2 2) (x18_6) := by assumption
      refine Ew_of (pcₚ := 20) (fun _ => x_iload rfl l18_6) ?_
      refine Ew_of (pcₚ := 21) (fun _ => x_iconst rfl) ?_
      refine w_icmpge (t := 64) rfl rfl (show inr (x18_6) from j18_1) (show inr (3) from q_246) (fun b23 => ?_) (fun b23 => ?_)
      · refine Ew_of (pcₚ := 66) (fun _ => x_iload rfl l18_5) ?_
        refine Ew_of (pcₚ := 67) (fun _ => x_iload_n rfl l18_1) ?_
        refine Ew_of (pcₚ := 68) (fun _ => x_aload_n rfl l18_0) ?_
        refine v_g H (o := 0) (v := I (u0_9)) rfl rfl rfl rfl rfl (congrArg (fun z : Int => I z) (((hS_18 0 9 rfl).trans (eu0_9)) : F_18 0 9 = u0_9)) ?_
        refine w_isub rfl ?_
        refine w_icmple (t := 84) rfl rfl (show inr (x18_5) from j18_0) (show inr ((a1 - u0_9)) from q_3952 h3) (fun b24 => ?_) (fun b24 => ?_)
        · have hl6 : (x18_6) = 3 := q_4127 b23 j18_3 j18_6
          have hnx : (a3) = 1 ∨ NNS (fun j => nmb ((w1)) ((u0_9) + 2 * j) 2 2) 3 := .inr (by rw [← hl6]; assumption)
          have hsx : su (fun j => nmb ((w1)) ((u0_9) + 2 * j) 2 2) ((x18_6) : Int).toNat = su (fun j => nmb ((w1)) ((u0_9) + 2 * j) 2 2) (3 : Int).toNat := by rw [hl6]
          have hsu3 := su_nm (show NNS (fun j => nmb ((w1)) ((u0_9) + 2 * j) 2 2) 3 by rw [← hl6]; exact hnn)
          refine Ew_of (pcₚ := 85) (fun _ => x_aload_n rfl l18_0) ?_
          refine Ew_of (pcₚ := 86) (fun _ => x_dup rfl rfl) ?_
          refine v_g H (o := 0) (v := I (u0_9)) rfl rfl rfl rfl rfl (congrArg (fun z : Int => I z) (((hS_18 0 9 rfl).trans (eu0_9)) : F_18 0 9 = u0_9)) ?_
          refine Ew_of (pcₚ := 91) (fun _ => x_bipush (z := 6) rfl (by decide)) ?_
          refine w_iadd rfl ?_
          refine v_p H (o := 0) (z := (u0_9 + 6)) (v := I ((u0_9 + 6))) rfl rfl rfl rfl rfl rfl rfl rfl (show (-2147483648 : Int) ≤ (u0_9 + 6) ∧ (u0_9 + 6) ≤ 2147483647 from q_4128 h3) (fun σ H Oₚ => ?_)
          have O := OUT_trans O Oₚ
          have cFu25 : SF oz_H7clsl_0 F (updF F_18 0 9 ((u0_9 + 6))) := SF_upd (cF_18) rfl
          have mFu25 := SFm_of cFu25 oz_H7cls_4
          have hmk : (a3) = 1 ∨ NNS (fun j => nmb ((w1)) ((u0_9) + 2 * j) 2 2) 3 := hnx
          have : ((a3) = 1 ∧ ((u0_9 + 6)) = (u0_9) ∨ (a3) = 4 ∧ ((u0_9 + 6)) = (u0_9) + 6 ∧ 6 + (nvl (ub8 ((w1))) ((u0_9)) 2 + nvl (ub8 ((w1))) ((u0_9) + 2) 2 + nvl (ub8 ((w1))) ((u0_9) + 4) 2) ≤ (a1) - (u0_9)) := by (exact .inr ⟨by omega, by omega, by rw [← hsu3]; omega⟩)
          exact hc95  _ _ _ _  (l18_0) (l18_1) (l18_2) (l18_3) (l18_4) H O (SF_upd (SF_trans (SF_refl) hS_18 (any_sub (by decide +kernel))) rfl) (SA_trans (SA_refl) hA_18 (any_subA (by decide +kernel)))   ((u0_9 + 6)) (rfl)  (show 0 ≤ ((u0_9 + 6)) ∧ ((u0_9 + 6)) ≤ (a1) from q_4129 h3 hl6 j18_6) (show (a3) = 1 ∨ (u0_9) + 6 ≤ (a1) ∧ ((u0_9 + 6)) + su (fun j => nmb ((w1)) ((u0_9) + 2 * j) 2 2) (3 : Int).toNat ≤ (a1) by omega) (hmk) (show ((a3) = 1 ∧ ((u0_9 + 6)) = (u0_9) ∨ (a3) = 4 ∧ ((u0_9 + 6)) = (u0_9) + 6 ∧ 6 + (nvl (ub8 ((w1))) ((u0_9)) 2 + nvl (ub8 ((w1))) ((u0_9) + 2) 2 + nvl (ub8 ((w1))) ((u0_9) + 4) 2) ≤ (a1) - (u0_9)) by assumption) (show (u0_21) = (u0_21) from q_303)
        · refine Ew_of (pcₚ := 76) (fun _ => x_aload_n rfl l18_0) ?_
          refine Ew_of (pcₚ := 78) (fun _ => x_bipush (z := 14) rfl (by decide)) ?_
          refine Ew_of (pcₚ := 80) (fun _ => x_iload rfl l18_4) ?_
          refine v_inv H (o := 0) rfl rfl rfl rfl rfl rfl (by rfl) (C232 (D := puc 0 D) (N := puc 0 N) (HW_subc H oz_H7cls_2 oz_H7cls_7) (u0_21) (((hS_18 0 21 rfl).trans (eu0_21))) (show inr (14) from q_1607) (show inr (u0_9) from q_3943 h3) (fun z26 σ26 F26ₚ A26ₚ Hₚ Oₚ hS26 hA26 y26_0_21 (ey26_0_21 : HID _) pz26_0 pz26_1 pz26_2 => ⟨rfl, ?_⟩))
          refine v_backc (c := c) (s := s) H oz_H7cls_2 oz_H7cls_7 Hₚ Oₚ (fun F26 A26 H Oₚ eF26 eA26 => ?_)
          have O := OUT_trans O Oₚ
          -- Unpacker.fail
          have cF26 : SF oz_H7clsl_0 F F26 := SF_trans (cF_18) (SF_gluc (ι := oz_H7clsl_3) oz_H7cls_7 hS26 eF26 (by decide +kernel)) (any_sub (lₚ := [(0, 21)]) (by decide +kernel))
          have mF26 := SFm_of cF26 oz_H7cls_4
          have cA26 : SA oz_H7clsl_1 A A26 := SA_trans (cA_18) (SA_gluc (ι := oz_H7clsl_3) oz_H7cls_7 hA26 eA26 (by decide +kernel)) (any_subA (lₚ := []) (by decide +kernel))
          have mA26 := SAm_of cA26 oz_H7cls_5
          have r27 : (-2147483648 : Int) ≤ y26_0_21 ∧ y26_0_21 ≤ 2147483647 := rngE (show (-2147483648 : Int) ≤ F26 0 21 ∧ F26 0 21 ≤ 2147483647 from H.krg 0 21 (ltn len_V246_oz_H7cls rfl)) (show F26 0 21 = y26_0_21 from ((eF26 0 21).trans ey26_0_21))
          have hn2a := nvl2_r (I := ub8 ((w1))) (a := (u0_9))
          have hn2b := nvl2_r (I := ub8 ((w1))) (a := (u0_9) + 2)
          have hn2c := nvl2_r (I := ub8 ((w1))) (a := (u0_9) + 4)
          have hST : STU (STF (ub8 ((w1))) GG ((u5_3)) ((a2)) ((a3) - 1) ((u0_9)) ((a1))) ((z26)) ((y26_0_21)) ((w3)) ((u2_1)) ((n3)) := by exact STU_f (ST_b (by omega) (by have hs_ := su_nm (show NNS (fun j => nmb ((w1)) ((u0_9) + 2 * j) 2 2) 3 by have h := hnn; rw [show ((x18_6) : Int) = 3 by omega] at h; exact h); rw [show (3 : Int).toNat = ((x18_6) : Int).toNat by omega] at hs_; omega)) (by omega) (by omega)
          exact w_ireturn rfl (k (z26) _ _ _ H O (cF26) (cA26) (u0_9) (((((show F26 0 9 = F_18 0 9 from (eF26 0 9).trans (hS26 0 9 rfl))).trans (hS_18 0 9 rfl)).trans (eu0_9))) (y26_0_21) (((eF26 0 21).trans ey26_0_21)) (u2_1) (((((show F26 2 1 = F_18 2 1 from (eF26 2 1))).trans (hS_18 2 1 rfl)).trans (eu2_1))) (w3) (((show A26 3 = A_18 3 from (eA26 3))).trans ((funext (hA_18 3 rfl)).trans (ew3))) (show inr (z26) from pz26_0) (show 0 ≤ (z26) ∧ (z26) ≤ 17 from q_4119 pz26_1) (show 0 ≤ (u0_9) ∧ (u0_9) ≤ a1 from q_3100 h3) (show 0 ≤ (u2_1) ∧ (u2_1) ≤ (n3) ∧ (n3) ≤ 65536 from h6) (hST) (show (z26) ≠ 0 ∨ (u0_9) = a1 from q_4118 pz26_1) (show (z26) ≠ 0 ∨ (y26_0_21) = (u0_21) from q_4118 pz26_1))
      · refine Ew_of (pcₚ := 25) (fun _ => x_iload_n rfl l18_1) ?_
        refine Ew_of (pcₚ := 26) (fun _ => x_aload_n rfl l18_0) ?_
        refine v_g H (o := 0) (v := I (u0_9)) rfl rfl rfl rfl rfl (congrArg (fun z : Int => I z) (((hS_18 0 9 rfl).trans (eu0_9)) : F_18 0 9 = u0_9)) ?_
        refine w_isub rfl ?_
        refine Ew_of (pcₚ := 32) (fun _ => x_bipush (z := 6) rfl (by decide)) ?_
        refine w_icmplt (t := 64) rfl rfl (show inr ((a1 - u0_9)) from q_3952 h3) (show inr (6) from q_756) (fun b28 => ?_) (fun b28 => ?_)
        · refine Ew_of (pcₚ := 66) (fun _ => x_iload rfl l18_5) ?_
          refine Ew_of (pcₚ := 67) (fun _ => x_iload_n rfl l18_1) ?_
          refine Ew_of (pcₚ := 68) (fun _ => x_aload_n rfl l18_0) ?_
          refine v_g H (o := 0) (v := I (u0_9)) rfl rfl rfl rfl rfl (congrArg (fun z : Int => I z) (((hS_18 0 9 rfl).trans (eu0_9)) : F_18 0 9 = u0_9)) ?_
          refine w_isub rfl ?_
          refine w_icmple (t := 84) rfl rfl (show inr (x18_5) from j18_0) (show inr ((a1 - u0_9)) from q_4130 b28 h3) (fun b29 => ?_) (fun b29 => ?_)
          · have hl6 : (x18_6) = 3 := by omega
            have hnx : (a3) = 1 ∨ NNS (fun j => nmb ((w1)) ((u0_9) + 2 * j) 2 2) 3 := .inr (by rw [← hl6]; assumption)
            have hsx : su (fun j => nmb ((w1)) ((u0_9) + 2 * j) 2 2) ((x18_6) : Int).toNat = su (fun j => nmb ((w1)) ((u0_9) + 2 * j) 2 2) (3 : Int).toNat := by rw [hl6]
            have hsu3 := su_nm (show NNS (fun j => nmb ((w1)) ((u0_9) + 2 * j) 2 2) 3 by rw [← hl6]; exact hnn)
            refine Ew_of (pcₚ := 85) (fun _ => x_aload_n rfl l18_0) ?_
            refine Ew_of (pcₚ := 86) (fun _ => x_dup rfl rfl) ?_
            refine v_g H (o := 0) (v := I (u0_9)) rfl rfl rfl rfl rfl (congrArg (fun z : Int => I z) (((hS_18 0 9 rfl).trans (eu0_9)) : F_18 0 9 = u0_9)) ?_
            refine Ew_of (pcₚ := 91) (fun _ => x_bipush (z := 6) rfl (by decide)) ?_
            refine w_iadd rfl ?_
            refine v_p H (o := 0) (z := (u0_9 + 6)) (v := I ((u0_9 + 6))) rfl rfl rfl rfl rfl rfl rfl rfl (show (-2147483648 : Int) ≤ (u0_9 + 6) ∧ (u0_9 + 6) ≤ 2147483647 from q_4128 h3) (fun σ H Oₚ => ?_)
            have O := OUT_trans O Oₚ
            have cFu30 : SF oz_H7clsl_0 F (updF F_18 0 9 ((u0_9 + 6))) := SF_upd (cF_18) rfl
            have mFu30 := SFm_of cFu30 oz_H7cls_4
            have hmk : (a3) = 1 ∨ NNS (fun j => nmb ((w1)) ((u0_9) + 2 * j) 2 2) 3 := hnx
            have : ((a3) = 1 ∧ ((u0_9 + 6)) = (u0_9) ∨ (a3) = 4 ∧ ((u0_9 + 6)) = (u0_9) + 6 ∧ 6 + (nvl (ub8 ((w1))) ((u0_9)) 2 + nvl (ub8 ((w1))) ((u0_9) + 2) 2 + nvl (ub8 ((w1))) ((u0_9) + 4) 2) ≤ (a1) - (u0_9)) := by exact .inl ⟨by omega, by omega⟩
            exact hc95  _ _ _ _  (l18_0) (l18_1) (l18_2) (l18_3) (l18_4) H O (SF_upd (SF_trans (SF_refl) hS_18 (any_sub (by decide +kernel))) rfl) (SA_trans (SA_refl) hA_18 (any_subA (by decide +kernel)))   ((u0_9 + 6)) (rfl)  (show 0 ≤ ((u0_9 + 6)) ∧ ((u0_9 + 6)) ≤ (a1) from q_4129 h3 hl6 j18_6) (show (a3) = 1 ∨ (u0_9) + 6 ≤ (a1) ∧ ((u0_9 + 6)) + su (fun j => nmb ((w1)) ((u0_9) + 2 * j) 2 2) (3 : Int).toNat ≤ (a1) by omega) (hmk) (show ((a3) = 1 ∧ ((u0_9 + 6)) = (u0_9) ∨ (a3) = 4 ∧ ((u0_9 + 6)) = (u0_9) + 6 ∧ 6 + (nvl (ub8 ((w1))) ((u0_9)) 2 + nvl (ub8 ((w1))) ((u0_9) + 2) 2 + nvl (ub8 ((w1))) ((u0_9) + 4) 2) ≤ (a1) - (u0_9)) by assumption) (show (u0_21) = (u0_21) from q_303)
          · refine Ew_of (pcₚ := 76) (fun _ => x_aload_n rfl l18_0) ?_
            refine Ew_of (pcₚ := 78) (fun _ => x_bipush (z := 14) rfl (by decide)) ?_
            refine Ew_of (pcₚ := 80) (fun _ => x_iload rfl l18_4) ?_
            refine v_inv H (o := 0) rfl rfl rfl rfl rfl rfl (by rfl) (C232 (D := puc 0 D) (N := puc 0 N) (HW_subc H oz_H7cls_2 oz_H7cls_7) (u0_21) (((hS_18 0 21 rfl).trans (eu0_21))) (show inr (14) from q_1607) (show inr (u0_9) from q_3943 h3) (fun z31 σ31 F31ₚ A31ₚ Hₚ Oₚ hS31 hA31 y31_0_21 (ey31_0_21 : HID _) pz31_0 pz31_1 pz31_2 => ⟨rfl, ?_⟩))
            refine v_backc (c := c) (s := s) H oz_H7cls_2 oz_H7cls_7 Hₚ Oₚ (fun F31 A31 H Oₚ eF31 eA31 => ?_)
            have O := OUT_trans O Oₚ
            -- Unpacker.fail
            have cF31 : SF oz_H7clsl_0 F F31 := SF_trans (cF_18) (SF_gluc (ι := oz_H7clsl_3) oz_H7cls_7 hS31 eF31 (by decide +kernel)) (any_sub (lₚ := [(0, 21)]) (by decide +kernel))
            have mF31 := SFm_of cF31 oz_H7cls_4
            have cA31 : SA oz_H7clsl_1 A A31 := SA_trans (cA_18) (SA_gluc (ι := oz_H7clsl_3) oz_H7cls_7 hA31 eA31 (by decide +kernel)) (any_subA (lₚ := []) (by decide +kernel))
            have mA31 := SAm_of cA31 oz_H7cls_5
            have r32 : (-2147483648 : Int) ≤ y31_0_21 ∧ y31_0_21 ≤ 2147483647 := rngE (show (-2147483648 : Int) ≤ F31 0 21 ∧ F31 0 21 ≤ 2147483647 from H.krg 0 21 (ltn len_V246_oz_H7cls rfl)) (show F31 0 21 = y31_0_21 from ((eF31 0 21).trans ey31_0_21))
            have hn2a := nvl2_r (I := ub8 ((w1))) (a := (u0_9))
            have hn2b := nvl2_r (I := ub8 ((w1))) (a := (u0_9) + 2)
            have hn2c := nvl2_r (I := ub8 ((w1))) (a := (u0_9) + 4)
            have hST : STU (STF (ub8 ((w1))) GG ((u5_3)) ((a2)) ((a3) - 1) ((u0_9)) ((a1))) ((z31)) ((y31_0_21)) ((w3)) ((u2_1)) ((n3)) := by exact STU_f (ST_b (by omega) (by omega)) (by omega) (by omega)
            exact w_ireturn rfl (k (z31) _ _ _ H O (cF31) (cA31) (u0_9) (((((show F31 0 9 = F_18 0 9 from (eF31 0 9).trans (hS31 0 9 rfl))).trans (hS_18 0 9 rfl)).trans (eu0_9))) (y31_0_21) (((eF31 0 21).trans ey31_0_21)) (u2_1) (((((show F31 2 1 = F_18 2 1 from (eF31 2 1))).trans (hS_18 2 1 rfl)).trans (eu2_1))) (w3) (((show A31 3 = A_18 3 from (eA31 3))).trans ((funext (hA_18 3 rfl)).trans (ew3))) (show inr (z31) from pz31_0) (show 0 ≤ (z31) ∧ (z31) ≤ 17 from q_4119 pz31_1) (show 0 ≤ (u0_9) ∧ (u0_9) ≤ a1 from q_3100 h3) (show 0 ≤ (u2_1) ∧ (u2_1) ≤ (n3) ∧ (n3) ≤ 65536 from h6) (hST) (show (z31) ≠ 0 ∨ (u0_9) = a1 from q_4118 pz31_1) (show (z31) ≠ 0 ∨ (y31_0_21) = (u0_21) from q_4118 pz31_1))
        · refine Ew_of (pcₚ := 37) (fun _ => x_iload rfl l18_5) ?_
          refine Ew_of (pcₚ := 38) (fun _ => x_aload_n rfl l18_0) ?_
          refine v_g H (o := 0) (v := .ref (D 1)) rfl rfl rfl rfl rfl (vrf ((mF_18 0 7 rfl).trans (pf1))) ?_
          refine Ew_of (pcₚ := 42) (fun _ => x_aload_n rfl l18_0) ?_
          refine v_g H (o := 0) (v := I (u0_9)) rfl rfl rfl rfl rfl (congrArg (fun z : Int => I z) (((hS_18 0 9 rfl).trans (eu0_9)) : F_18 0 9 = u0_9)) ?_
          refine Ew_of (pcₚ := 46) (fun _ => x_iconst rfl) ?_
          refine Ew_of (pcₚ := 48) (fun _ => x_iload rfl l18_6) ?_
          refine w_imul rfl ?_
          refine w_iadd rfl ?_
          refine Ew_of (pcₚ := 51) (fun _ => x_iconst rfl) ?_
          refine w_stat25 rfl rfl (by rfl) (C42_Brf (D := puc 1 D) (N := puc 1 N) (HW_subc H oz_H7cls_3 oz_H7cls_8) (n1) (en1) (w1) ((funext (mA_18 1 rfl)).trans (ew1)) (show inr ((u0_9 + (2 * x18_6))) from q_4132 b23 b28 h3 j18_2) (show inr (2) from q_122) (show (2) ≤ 0 ∨ 0 ≤ ((u0_9 + (2 * x18_6))) ∧ ((u0_9 + (2 * x18_6))) + (2) ≤ (n1) from q_4131 b23 b28 h3 j18_2) (show 0 ≤ (2) ∧ (2) ≤ 8 from q_2748) (fun z33 σ33 F33ₚ A33ₚ Hₚ Oₚ hS33 hA33 pz33_0 pz33_1 pz33_2 => ⟨rfl, ?_⟩))
          refine v_backc (c := c) (s := s) H oz_H7cls_3 oz_H7cls_8 Hₚ Oₚ (fun F33 A33 H Oₚ eF33 eA33 => ?_)
          have O := OUT_trans O Oₚ
          -- PackHouse.number
          have cF33 : SF oz_H7clsl_0 F F33 := SF_trans (cF_18) (SF_gluc (ι := oz_H7clsl_4) oz_H7cls_8 hS33 eF33 (by decide +kernel)) (any_sub (lₚ := []) (by decide +kernel))
          have mF33 := SFm_of cF33 oz_H7cls_4
          have cA33 : SA oz_H7clsl_1 A A33 := SA_trans (cA_18) (SA_gluc (ι := oz_H7clsl_4) oz_H7cls_8 hA33 eA33 (by decide +kernel)) (any_subA (lₚ := []) (by decide +kernel))
          have mA33 := SAm_of cA33 oz_H7cls_5
          have hnb := nb2 pz33_1
          have hnq : ((z33) : Int) = nmb ((w1)) ((u0_9) + 2 * (x18_6)) 2 2 := pz33_2
          have hnv : 0 ≤ (fun j => nmb ((w1)) ((u0_9) + 2 * j) 2 2) ((x18_6)) ∧ (fun j => nmb ((w1)) ((u0_9) + 2 * j) 2 2) ((x18_6)) ≤ 65535 := by show 0 ≤ nmb ((w1)) ((u0_9) + 2 * (x18_6)) 2 2 ∧ nmb ((w1)) ((u0_9) + 2 * (x18_6)) 2 2 ≤ 65535; omega
          have hss : su (fun j => nmb ((w1)) ((u0_9) + 2 * j) 2 2) ((x18_6) + 1 : Int).toNat = su (fun j => nmb ((w1)) ((u0_9) + 2 * j) 2 2) ((x18_6) : Int).toNat + nmb ((w1)) ((u0_9) + 2 * (x18_6)) 2 2 := su_s (f := fun j => nmb ((w1)) ((u0_9) + 2 * j) 2 2) (i := (x18_6)) (by omega)
          refine w_l2i rfl ?_
          refine w_iadd rfl ?_
          refine Ew_of (pcₚ := 58) (fun _ => x_istore rfl) ?_
          refine Ew_of (pcₚ := 61) (fun _ => x_iinc (len := 3) rfl (rk_o (l18_6) rfl rfl)) ?_
          refine Ew_of (pcₚ := 18) (fun _ => x_goto rfl rfl) ?_
          have hn1 : NNS (fun j => nmb ((w1)) ((u0_9) + 2 * j) 2 2) ((x18_6 + 1)) := NNS_s hnn rfl hnv
          exact ih18 _ (msE hm18 q_813 (q_814 b23)) _ _ _ _ ((x18_5 + z33)) ((x18_6 + 1)) (rk_o (rk_o (l18_0) rfl rfl) rfl rfl) (rk_o (rk_o (l18_1) rfl rfl) rfl rfl) (rk_o (rk_o (l18_2) rfl rfl) rfl rfl) (rk_o (rk_o (l18_3) rfl rfl) rfl rfl) (rk_o (rk_o (l18_4) rfl rfl) rfl rfl) (rk_o (rk_s) rfl rfl) (rk_s) H O (SF_trans (hS_18) (SF_gluc (ι := oz_H7clsl_4) oz_H7cls_8 hS33 eF33 (by decide +kernel)) (any_sub (lₚ := []) (by decide +kernel))) (SA_trans (hA_18) (SA_gluc (ι := oz_H7clsl_4) oz_H7cls_8 hA33 eA33 (by decide +kernel)) (any_subA (lₚ := []) (by decide +kernel)))     (show inr ((x18_5 + z33)) by omega) (show inr ((x18_6 + 1)) from q_1804 b23 j18_2) (show (0) ≤ ((x18_6 + 1)) from q_14 j18_2) (show ((x18_6 + 1)) ≤ (0) ∨ ((x18_6 + 1)) ≤ (3) from q_1803 b23) (show ((x18_5 + z33)) = 6 + su (fun j => nmb ((w1)) ((u0_9) + 2 * j) 2 2) (((x18_6 + 1)) : Int).toNat by omega) (hn1) (show ((x18_6 + 1)) ≤ 0 ∨ (u0_9) + 6 ≤ (a1) from q_4133 b28) (show 0 ≤ su (fun j => nmb ((w1)) ((u0_9) + 2 * j) 2 2) (((x18_6 + 1)) : Int).toNat ∧ su (fun j => nmb ((w1)) ((u0_9) + 2 * j) 2 2) (((x18_6 + 1)) : Int).toNat ≤ 65535 * ((x18_6 + 1)) by omega) rfl

