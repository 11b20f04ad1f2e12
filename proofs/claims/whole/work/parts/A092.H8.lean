abbrev V245_vd : vV := [(0, 12, [(4, 0), (4, 0), (4, 0), (4, 0), (4, 0), (4, 0), (4, 0), (4, 0), (0, 0), (0, 0), (4, 0), (0, 0), (4, 0), (4, 0), (0, 0), (2, 0), (0, 0), (0, 0), (0, 0), (0, 0), (0, 0), (0, 0)]), (1, 0, []), (0, 7, [(4, 0), (0, 0), (1, 0), (0, 0), (0, 0)]), (1, 0, []), (0, 3, [(4, 0), (4, 0), (4, 0), (0, 0), (4, 0), (4, 0), (4, 0), (4, 0), (4, 0), (4, 0), (4, 0), (4, 0), (4, 0), (0, 0), (0, 0), (0, 0), (0, 0)]), (1, 1, []), (1, 1, []), (1, 1, []), (1, 1, []), (1, 1, []), (1, 1, []), (1, 1, []), (1, 1, []), (0, 8, [(0, 0), (0, 0), (4, 0), (4, 0), (4, 0), (4, 0), (4, 0), (4, 0), (4, 0), (4, 0), (4, 0), (0, 0), (0, 0)]), (1, 1, []), (1, 1, []), (1, 1, []), (1, 1, []), (1, 1, []), (1, 1, []), (1, 1, []), (1, 1, []), (0, 4, [(4, 0), (4, 0), (0, 0), (4, 0), (4, 0)]), (0, 3, [(4, 0), (4, 0), (4, 0), (0, 0), (4, 0), (4, 0), (4, 0), (4, 0), (4, 0), (4, 0), (4, 0), (4, 0), (4, 0), (0, 0), (0, 0), (0, 0), (0, 0)]), (1, 1, []), (0, 9, [(4, 0), (4, 0), (4, 0)]), (0, 2, [(4, 0), (0, 0), (0, 0)]), (0, 2, [(4, 0), (0, 0), (0, 0)])]
theorem len_V245_vd_oz_H8cls : (V245_vd).length = 28 := by decide +kernel
theorem oz_H8cls_1 : vsub V245_vd V234 [0] = true := by decide +kernel
theorem oz_H8cls_2 : vsub V245_vd V232 [0] = true := by decide +kernel
theorem oz_H8cls_3 : vsub V245_vd V157 [2, 3] = true := by decide +kernel
theorem oz_H8cls_4 : vmov V245_vd [2, 3] [1] = true := by decide +kernel
theorem oz_H8cls_5 : vsub V245_vd V246 [0, 1, 2, 3, 25, 4, 7, 26] = true := by decide +kernel
theorem oz_H8cls_6 : vsub V245_vd V246 [0, 1, 2, 3, 25, 23, 24, 27] = true := by decide +kernel
theorem oz_H8cls_7 : vsub V245_vd V107_Br [4, 1, 8, 5, 6, 7, 13, 14, 15, 16, 17, 18, 20, 19, 21, 26] = true := by decide +kernel
theorem oz_H8cls_8 : vsub V245_vd V42_Br [1] = true := by decide +kernel
def oz_H8clsl_0 : List (Nat × Nat) := [(0, 9), (0, 19), (0, 21), (2, 0), (2, 1), (4, 3), (13, 0), (13, 10), (13, 11), (13, 12), (25, 0), (26, 0), (26, 1), (26, 2), (27, 0), (27, 1), (27, 2)]
theorem oz_H8cls_9 : (oz_H8clsl_0).all (fun p => !tbz 861022090262425787410924876646376992719926805490778893616854251356190744730248151970306947208015667339052794181132570952144752378252296153171806733822658878261833070203666022283608633095097154123580256412643028176523539726654882413301111216752952508493429473792 (Nat.add (Nat.mul 32 p.1) p.2)) = true := by decide +kernel
def oz_H8clsl_1 : List Nat := [3, 5, 6, 7, 8, 14, 15, 16, 17, 18, 19, 20, 21]
theorem oz_H8cls_10 : (oz_H8clsl_1).all (fun p => !tbz 4178408 p) = true := by decide +kernel
def oz_H8clsl_2 : List Nat := [3]
theorem oz_H8cls_11 : (oz_H8clsl_2).all (fun p => !tbz 8 p) = true := by decide +kernel
def oz_H8clsl_3 : List Nat := [0]
theorem oz_H8cls_12 : okc oz_H8clsl_3 0 = true := by decide +kernel
def oz_H8clsl_4 : List Nat := [2, 3]
theorem oz_H8cls_13 : okc oz_H8clsl_4 1538 = true := by decide +kernel
def oz_H8clsl_5 : List Nat := [0, 1, 2, 3, 25, 4, 7, 26]
theorem oz_H8cls_14 : okc oz_H8clsl_5 239933916203668996608 = true := by decide +kernel
def oz_H8clsl_6 : List Nat := [0, 1, 2, 3, 25, 23, 24, 27]
theorem oz_H8cls_15 : okc oz_H8clsl_6 249464201518254653952 = true := by decide +kernel
def oz_H8clsl_7 : List Nat := [4, 1, 8, 5, 6, 7, 13, 14, 15, 16, 17, 18, 20, 19, 21, 26]
theorem oz_H8cls_16 : okc oz_H8clsl_7 1134249362957509134822339095058552035738116 = true := by decide +kernel
def oz_H8clsl_8 : List Nat := [1]
theorem oz_H8cls_17 : okc oz_H8clsl_8 1 = true := by decide +kernel
set_option maxHeartbeats 16000000 in
theorem C245_vd {σE : rS} {D N : Nat → Nat} {F : hF} {A : hA} {d c s : Nat} {Q : wQ} (H : HW V245_vd σE D N F A)  (pf1 : HID (F 0 7 = (D 1 : Int))) (pf2 : HID (F 0 4 = (D 2 : Int))) (pf3 : HID (F 2 0 = (D 3 : Int))) (pf4 : HID (F 0 1 = (D 4 : Int))) (pf5 : HID (F 4 0 = (D 5 : Int))) (pf6 : HID (F 4 1 = (D 6 : Int))) (pf7 : HID (F 4 2 = (D 7 : Int))) (pf8 : HID (F 4 4 = (D 8 : Int))) (pf9 : HID (F 4 5 = (D 9 : Int))) (pf10 : HID (F 4 10 = (D 10 : Int))) (pf11 : HID (F 4 11 = (D 11 : Int))) (pf12 : HID (F 4 12 = (D 12 : Int))) (pf13 : HID (F 4 6 = (D 13 : Int))) (pf14 : HID (F 13 2 = (D 14 : Int))) (pf15 : HID (F 13 3 = (D 15 : Int))) (pf16 : HID (F 13 4 = (D 16 : Int))) (pf17 : HID (F 13 5 = (D 17 : Int))) (pf18 : HID (F 13 6 = (D 18 : Int))) (pf19 : HID (F 13 7 = (D 19 : Int))) (pf20 : HID (F 13 8 = (D 20 : Int))) (pf21 : HID (F 13 9 = (D 21 : Int))) (pf22 : HID (F 0 12 = (D 22 : Int))) (pf23 : HID (F 22 3 = (D 23 : Int))) (pf24 : HID (F 23 2 = (D 24 : Int))) (pf25 : HID (F 0 3 = (D 25 : Int))) (pf26 : HID (F 4 9 = (D 26 : Int))) (pf27 : HID (F 23 9 = (D 27 : Int))) (n1 : Int) (en1 : HID ((N 1 : Int) = n1)) (n3 : Int) (en3 : HID ((N 3 : Int) = n3)) (n5 : Int) (en5 : HID ((N 5 : Int) = n5)) (n6 : Int) (en6 : HID ((N 6 : Int) = n6)) (n7 : Int) (en7 : HID ((N 7 : Int) = n7)) (n8 : Int) (en8 : HID ((N 8 : Int) = n8)) (n9 : Int) (en9 : HID ((N 9 : Int) = n9)) (n10 : Int) (en10 : HID ((N 10 : Int) = n10)) (n11 : Int) (en11 : HID ((N 11 : Int) = n11)) (n12 : Int) (en12 : HID ((N 12 : Int) = n12)) (n14 : Int) (en14 : HID ((N 14 : Int) = n14)) (n15 : Int) (en15 : HID ((N 15 : Int) = n15)) (n16 : Int) (en16 : HID ((N 16 : Int) = n16)) (n17 : Int) (en17 : HID ((N 17 : Int) = n17)) (n18 : Int) (en18 : HID ((N 18 : Int) = n18)) (n19 : Int) (en19 : HID ((N 19 : Int) = n19)) (n20 : Int) (en20 : HID ((N 20 : Int) = n20)) (n21 : Int) (en21 : HID ((N 21 : Int) = n21)) (n24 : Int) (en24 : HID ((N 24 : Int) = n24)) (u0_8 : Int) (eu0_8 : HID (F 0 8 = u0_8)) (u0_9 : Int) (eu0_9 : HID (F 0 9 = u0_9)) (u0_15 : Int) (eu0_15 : HID (F 0 15 = u0_15)) (u0_18 : Int) (eu0_18 : HID (F 0 18 = u0_18)) (u0_19 : Int) (eu0_19 : HID (F 0 19 = u0_19)) (u0_21 : Int) (eu0_21 : HID (F 0 21 = u0_21)) (u2_1 : Int) (eu2_1 : HID (F 2 1 = u2_1)) (u4_3 : Int) (eu4_3 : HID (F 4 3 = u4_3)) (u13_1 : Int) (eu13_1 : HID (F 13 1 = u13_1)) (u23_3 : Int) (eu23_3 : HID (F 23 3 = u23_3)) (u25_0 : Int) (eu25_0 : HID (F 25 0 = u25_0)) (w1 : Int → Int) (ew1 : A 1 = w1) (w3 : Int → Int) (ew3 : A 3 = w3) (w7 : Int → Int) (ew7 : A 7 = w7) (w24 : Int → Int) (ew24 : A 24 = w24) (CC : Int × (Int → Int)) (h0 : 0 ≤ (u0_9) ∧ (u0_9) ≤ (u0_8) ∧ (u0_8) ≤ (n1) ∧ (n1) ≤ 65536) (h1 : (u0_9) < (u0_18) ∧ (u0_18) ≤ (u0_8)) (h2 : andI (((w1)) ((u0_9))) 2 ≠ 0) (h3 : 0 ≤ (u0_15)) (h4 : 0 ≤ (u2_1) ∧ (u2_1) ≤ (n3) ∧ (n3) ≤ 65536) (h5 : (u2_1) = 0) (h6 : CDZD ((n5)) ((n6)) ((n7)) ((n8)) ((n9)) ((n10)) ((n11)) ((n12))) (h7 : SHZD ((n14)) ((n15)) ((n16)) ((n17)) ((n18)) ((n19)) ((n20)) ((n21)) ((u13_1)) 12 64) (h8 : (n24) = 2048) (h9 : (u25_0) = -1 ∨ (u25_0) = (((D 4 : Nat) : Int)) ∨ (u25_0) = (((D 23 : Nat) : Int))) (h10 : (u25_0) ≠ (((D 4 : Nat) : Int)) ∨ 0 ≤ (u4_3) ∧ (u4_3) ≤ 11) (h11 : (u25_0) ≠ (((D 23 : Nat) : Int)) ∨ 0 ≤ (u23_3) ∧ (u23_3) ≤ 11) (h12 : CEL ((w7))) (h13 : CEL ((w24))) (h14 : SLB ((u25_0)) ((((D 4 : Nat) : Int))) (CDO (CC) ((u4_3)) ((w7)))) (h15 : SLB ((u25_0)) ((((D 23 : Nat) : Int))) (CDO (CC) ((u23_3)) ((w24)))) (h16 : NLC ((u25_0)) (CC)) (k : ∀ (z : Int) (σ : rS) (Dₚ Nₚ : Nat → Nat) (Fₚ : hF) (Aₚ : hA) (cₚ sₚ : Nat), HW V245_vd σ Dₚ Nₚ Fₚ Aₚ → OUT (V245_vd).length D N σE c s Dₚ Nₚ σ cₚ sₚ → SD [3] D Dₚ → SD [3] N Nₚ → SF [(0, 9), (0, 19), (0, 21), (2, 0), (2, 1), (4, 3), (13, 0), (13, 10), (13, 11), (13, 12), (25, 0), (26, 0), (26, 1), (26, 2), (27, 0), (27, 1), (27, 2)] F Fₚ → SA [3, 5, 6, 7, 8, 14, 15, 16, 17, 18, 19, 20, 21] A Aₚ → Fₚ 2 0 = (Dₚ 3 : Int) → ∀ m3 : Int, (Nₚ 3 : Int) = m3 → ∀ y0_9 : Int, Fₚ 0 9 = y0_9 → ∀ y0_19 : Int, Fₚ 0 19 = y0_19 → ∀ y0_21 : Int, Fₚ 0 21 = y0_21 → ∀ y2_1 : Int, Fₚ 2 1 = y2_1 → ∀ y4_3 : Int, Fₚ 4 3 = y4_3 → ∀ y25_0 : Int, Fₚ 25 0 = y25_0 → ∀ v3 : Int → Int, Aₚ 3 = v3 → ∀ v7 : Int → Int, Aₚ 7 = v7 → (inr (z)) → (0 ≤ (z) ∧ (z) ≤ 17) → (0 ≤ (y0_9) ∧ (y0_9) ≤ (u0_18)) → (0 ≤ (y2_1) ∧ (y2_1) ≤ (m3) ∧ (m3) ≤ 65536) → ((z) ≠ 0 ∨ 0 ≤ (y0_19) ∧ (y0_19) ≤ 131072 ∧ ((y0_19) ≤ (m3) ∨ (m3) = 65536)) → ((z) ≠ 0 ∨ (y25_0) = -1 ∨ (y25_0) = (((Dₚ 4 : Nat) : Int)) ∨ (y25_0) = (((Dₚ 23 : Nat) : Int))) → ((z) ≠ 0 ∨ (y25_0) ≠ (((Dₚ 4 : Nat) : Int)) ∨ 0 ≤ (y4_3) ∧ (y4_3) ≤ 11) → ((z) ≠ 0 ∨ (y25_0) ≠ (((Dₚ 23 : Nat) : Int)) ∨ 0 ≤ (u23_3) ∧ (u23_3) ≤ 11) → (CEL ((v7))) → (CEL ((w24))) → (CLA (LTF (ub8 ((w1))) ((u0_9)) ((u0_18)) (moF ((u0_15))) CC.1 CC.2) ((z)) ((y0_21)) ((y0_9)) ((y0_19)) ((y2_1)) ((v3))) → (IMP ((z) = 0) (SLB ((y25_0)) ((((Dₚ 4 : Nat) : Int))) (CDO ((LTF (ub8 ((w1))) ((u0_9)) ((u0_18)) (moF ((u0_15))) CC.1 CC.2).2.2.2.2) ((y4_3)) ((v7))))) → (IMP ((z) = 0) (SLB ((y25_0)) ((((Dₚ 23 : Nat) : Int))) (CDO ((LTF (ub8 ((w1))) ((u0_9)) ((u0_18)) (moF ((u0_15))) CC.1 CC.2).2.2.2.2) ((u23_3)) ((w24))))) → (IMP ((z) = 0) (NLC ((y25_0)) ((LTF (ub8 ((w1))) ((u0_9)) ((u0_18)) (moF ((u0_15))) CC.1 CC.2).2.2.2.2))) → ((z) ≠ 0 ∨ (y0_19) ≤ moF ((u0_15))) → ((z) ≠ 0 ∨ (y0_21) = (u0_21)) → Q (some (I z)) σ cₚ sₚ) : Ew 245 (d + 5) 0 (rargs 0 [.ref (D 0)]) [] σE c s Q := by
  have O := OUT_refl (n := (V245_vd).length) (D := D) (N := N) (σ := σE) (c := c) (s := s)
  have HE := H
  have r1 : (-2147483648 : Int) ≤ u0_8 ∧ u0_8 ≤ 2147483647 := rngE (show (-2147483648 : Int) ≤ F 0 8 ∧ F 0 8 ≤ 2147483647 from H.krg 0 8 (ltn len_V245_vd_oz_H8cls rfl)) (show F 0 8 = u0_8 from (eu0_8))
  have r2 : (-2147483648 : Int) ≤ u0_9 ∧ u0_9 ≤ 2147483647 := rngE (show (-2147483648 : Int) ≤ F 0 9 ∧ F 0 9 ≤ 2147483647 from H.krg 0 9 (ltn len_V245_vd_oz_H8cls rfl)) (show F 0 9 = u0_9 from (eu0_9))
  have r3 : (-9223372036854775808 : Int) ≤ u0_15 ∧ u0_15 ≤ 9223372036854775807 := rngE (show (-9223372036854775808 : Int) ≤ F 0 15 ∧ F 0 15 ≤ 9223372036854775807 from H.krg 0 15 (ltn len_V245_vd_oz_H8cls rfl)) (show F 0 15 = u0_15 from (eu0_15))
  have r4 : (-2147483648 : Int) ≤ u0_18 ∧ u0_18 ≤ 2147483647 := rngE (show (-2147483648 : Int) ≤ F 0 18 ∧ F 0 18 ≤ 2147483647 from H.krg 0 18 (ltn len_V245_vd_oz_H8cls rfl)) (show F 0 18 = u0_18 from (eu0_18))
  have r5 : (-2147483648 : Int) ≤ u0_19 ∧ u0_19 ≤ 2147483647 := rngE (show (-2147483648 : Int) ≤ F 0 19 ∧ F 0 19 ≤ 2147483647 from H.krg 0 19 (ltn len_V245_vd_oz_H8cls rfl)) (show F 0 19 = u0_19 from (eu0_19))
  have r6 : (-2147483648 : Int) ≤ u0_21 ∧ u0_21 ≤ 2147483647 := rngE (show (-2147483648 : Int) ≤ F 0 21 ∧ F 0 21 ≤ 2147483647 from H.krg 0 21 (ltn len_V245_vd_oz_H8cls rfl)) (show F 0 21 = u0_21 from (eu0_21))
  have r7 : (-2147483648 : Int) ≤ u2_1 ∧ u2_1 ≤ 2147483647 := rngE (show (-2147483648 : Int) ≤ F 2 1 ∧ F 2 1 ≤ 2147483647 from H.krg 2 1 (ltn len_V245_vd_oz_H8cls rfl)) (show F 2 1 = u2_1 from (eu2_1))
  have r8 : (-2147483648 : Int) ≤ u4_3 ∧ u4_3 ≤ 2147483647 := rngE (show (-2147483648 : Int) ≤ F 4 3 ∧ F 4 3 ≤ 2147483647 from H.krg 4 3 (ltn len_V245_vd_oz_H8cls rfl)) (show F 4 3 = u4_3 from (eu4_3))
  have r9 : (-2147483648 : Int) ≤ u13_1 ∧ u13_1 ≤ 2147483647 := rngE (show (-2147483648 : Int) ≤ F 13 1 ∧ F 13 1 ≤ 2147483647 from H.krg 13 1 (ltn len_V245_vd_oz_H8cls rfl)) (show F 13 1 = u13_1 from (eu13_1))
  have r10 : (-2147483648 : Int) ≤ u23_3 ∧ u23_3 ≤ 2147483647 := rngE (show (-2147483648 : Int) ≤ F 23 3 ∧ F 23 3 ≤ 2147483647 from H.krg 23 3 (ltn len_V245_vd_oz_H8cls rfl)) (show F 23 3 = u23_3 from (eu23_3))
  have r11 : (0 : Int) ≤ n1 ∧ n1 ≤ 1000000 := nleE (H.nle 1 (ltn len_V245_vd_oz_H8cls rfl)) (show (N 1 : Int) = n1 from en1)
  have r12 : (0 : Int) ≤ n3 ∧ n3 ≤ 1000000 := nleE (H.nle 3 (ltn len_V245_vd_oz_H8cls rfl)) (show (N 3 : Int) = n3 from en3)
  have r13 : (0 : Int) ≤ n5 ∧ n5 ≤ 1000000 := nleE (H.nle 5 (ltn len_V245_vd_oz_H8cls rfl)) (show (N 5 : Int) = n5 from en5)
  have r14 : (0 : Int) ≤ n6 ∧ n6 ≤ 1000000 := nleE (H.nle 6 (ltn len_V245_vd_oz_H8cls rfl)) (show (N 6 : Int) = n6 from en6)
  have r15 : (0 : Int) ≤ n7 ∧ n7 ≤ 1000000 := nleE (H.nle 7 (ltn len_V245_vd_oz_H8cls rfl)) (show (N 7 : Int) = n7 from en7)
  have r16 : (0 : Int) ≤ n8 ∧ n8 ≤ 1000000 := nleE (H.nle 8 (ltn len_V245_vd_oz_H8cls rfl)) (show (N 8 : Int) = n8 from en8)
  have r17 : (0 : Int) ≤ n9 ∧ n9 ≤ 1000000 := nleE (H.nle 9 (ltn len_V245_vd_oz_H8cls rfl)) (show (N 9 : Int) = n9 from en9)
  have r18 : (0 : Int) ≤ n10 ∧ n10 ≤ 1000000 := nleE (H.nle 10 (ltn len_V245_vd_oz_H8cls rfl)) (show (N 10 : Int) = n10 from en10)
  have r19 : (0 : Int) ≤ n11 ∧ n11 ≤ 1000000 := nleE (H.nle 11 (ltn len_V245_vd_oz_H8cls rfl)) (show (N 11 : Int) = n11 from en11)
  have r20 : (0 : Int) ≤ n12 ∧ n12 ≤ 1000000 := nleE (H.nle 12 (ltn len_V245_vd_oz_H8cls rfl)) (show (N 12 : Int) = n12 from en12)
  have r21 : (0 : Int) ≤ n14 ∧ n14 ≤ 1000000 := nleE (H.nle 14 (ltn len_V245_vd_oz_H8cls rfl)) (show (N 14 : Int) = n14 from en14)
  have r22 : (0 : Int) ≤ n15 ∧ n15 ≤ 1000000 := nleE (H.nle 15 (ltn len_V245_vd_oz_H8cls rfl)) (show (N 15 : Int) = n15 from en15)
  have r23 : (0 : Int) ≤ n16 ∧ n16 ≤ 1000000 := nleE (H.nle 16 (ltn len_V245_vd_oz_H8cls rfl)) (show (N 16 : Int) = n16 from en16)
  have r24 : (0 : Int) ≤ n17 ∧ n17 ≤ 1000000 := nleE (H.nle 17 (ltn len_V245_vd_oz_H8cls rfl)) (show (N 17 : Int) = n17 from en17)
  have r25 : (0 : Int) ≤ n18 ∧ n18 ≤ 1000000 := nleE (H.nle 18 (ltn len_V245_vd_oz_H8cls rfl)) (show (N 18 : Int) = n18 from en18)
  have r26 : (0 : Int) ≤ n19 ∧ n19 ≤ 1000000 := nleE (H.nle 19 (ltn len_V245_vd_oz_H8cls rfl)) (show (N 19 : Int) = n19 from en19)
  have r27 : (0 : Int) ≤ n20 ∧ n20 ≤ 1000000 := nleE (H.nle 20 (ltn len_V245_vd_oz_H8cls rfl)) (show (N 20 : Int) = n20 from en20)
  have r28 : (0 : Int) ≤ n21 ∧ n21 ≤ 1000000 := nleE (H.nle 21 (ltn len_V245_vd_oz_H8cls rfl)) (show (N 21 : Int) = n21 from en21)
  have r29 : (0 : Int) ≤ n24 ∧ n24 ≤ 1000000 := nleE (H.nle 24 (ltn len_V245_vd_oz_H8cls rfl)) (show (N 24 : Int) = n24 from en24)
  have hc132 : ∀ (ls : rO) (σ : rS) (F_c132 : hF) (A_c132 : hA) (xc132_1 : Int) (xc132_2 : Int) (xc132_3 : Int) (xc132_4 : Int) (xc132_8 : Int) (xc132_9 : Int), rlook ls 0 = some (.ref (D 0)) → rlook ls 1 = some (I (xc132_1)) → rlook ls 2 = some (I (xc132_2)) → rlook ls 3 = some (I (xc132_3)) → rlook ls 4 = some (I (xc132_4)) → rlook ls 8 = some (I (xc132_8)) → rlook ls 9 = some (I (xc132_9)) → HW V245_vd σ D N F_c132 A_c132 → OUT (V245_vd).length D N σE c s D N σ c s → SF [] F F_c132 → SA [] A A_c132 → (inr (xc132_1)) → (inr (xc132_2)) → (inr (xc132_3)) → (inr (xc132_4)) → (inr (xc132_8)) → (inr (xc132_9)) → ((xc132_1) = (u0_9)) → (0 ≤ (xc132_8) ∧ (xc132_8) ≤ 262143) → (0 ≤ (xc132_9) ∧ (xc132_9) ≤ 262143) → (2 ≤ (xc132_2) ∧ (xc132_2) ≤ 3) → (0 ≤ (xc132_3) ∧ (xc132_3) ≤ 3) → (3 ≤ (xc132_4) ∧ (xc132_4) ≤ 5) → ((xc132_4) ≤ (u0_18) - (u0_9)) → (LTF (ub8 ((w1))) ((u0_9)) ((u0_18)) (moF ((u0_15))) CC.1 CC.2 = LT2 (ub8 ((w1))) ((u0_9)) ((u0_18)) (moF ((u0_15))) CC.1 CC.2 ((xc132_2)) ((xc132_3)) ((xc132_4)) ((xc132_8)) ((xc132_9))) → Ew 245 (d + 5) 132 ls [] σ c s Q := by
   as_aux_lemma =>
    intro  ls σ F_c132 A_c132 xc132_1 xc132_2 xc132_3 xc132_4 xc132_8 xc132_9 lc132_0 lc132_1 lc132_2 lc132_3 lc132_4 lc132_8 lc132_9 H O hS_c132 hA_c132     jc132_0 jc132_1 jc132_2 jc132_3 jc132_4 jc132_5 jc132_6 jc132_7 jc132_8 jc132_9 jc132_10 jc132_11 jc132_12 jc132_13
    have cF_c132 : SF oz_H8clsl_0 F F_c132 := SF_trans (SF_refl) hS_c132 (any_sub (by decide +kernel))
    have mF_c132 := SFm_of cF_c132 oz_H8cls_9
    have cA_c132 : SA oz_H8clsl_1 A A_c132 := SA_trans (SA_refl) hA_c132 (any_subA (by decide +kernel))
    have mA_c132 := SAm_of cA_c132 oz_H8cls_10
    have hnek : (((D 4 : Nat) : Int)) ≠ (((D 23 : Nat) : Int)) := dneZ H 4 23 rfl rfl rfl
    have hC0_0 : SLB ((u25_0)) ((((D 4 : Nat) : Int))) (CDO (CC) ((u4_3)) ((w7))) := h14
    have hC0_1 : SLB ((u25_0)) ((((D 23 : Nat) : Int))) (CDO (CC) ((u23_3)) ((w24))) := h15
    have hNL : NLC ((u25_0)) (CC) := h16
    have hR : LTF (ub8 ((w1))) ((u0_9)) ((u0_18)) (moF ((u0_15))) CC.1 CC.2 = LT2 (ub8 ((w1))) ((u0_9)) ((u0_18)) (moF ((u0_15))) CC.1 CC.2 ((xc132_2)) ((xc132_3)) ((xc132_4)) ((xc132_8)) ((xc132_9)) := jc132_13
    refine Ew_of (pcₚ := 134) (fun _ => x_iload rfl lc132_8) ?_
    refine Ew_of (pcₚ := 135) (fun _ => x_aload_n rfl lc132_0) ?_
    refine v_inv H (o := 0) rfl rfl rfl rfl rfl rfl (by rfl) (C234 (D := puc 0 D) (N := puc 0 N) (HW_subc H oz_H8cls_1 oz_H8cls_12) (u0_15) (((mF_c132 0 15 rfl).trans (eu0_15))) (show 0 ≤ (u0_15) from h3) (fun z30 σ30 F30ₚ A30ₚ Hₚ Oₚ hS30 hA30 pz30_0 pz30_1 pz30_2 => ⟨rfl, ?_⟩))
    refine v_backc (c := c) (s := s) H oz_H8cls_1 oz_H8cls_12 Hₚ Oₚ (fun F30 A30 H Oₚ eF30 eA30 => ?_)
    have O := OUT_trans O Oₚ
    -- Unpacker.blockMost
    have cF30 : SF oz_H8clsl_0 F F30 := SF_trans (cF_c132) (SF_gluc (ι := oz_H8clsl_3) oz_H8cls_12 hS30 eF30 (by decide +kernel)) (any_sub (lₚ := []) (by decide +kernel))
    have mF30 := SFm_of cF30 oz_H8cls_9
    have cA30 : SA oz_H8clsl_1 A A30 := SA_trans (cA_c132) (SA_gluc (ι := oz_H8clsl_3) oz_H8cls_12 hA30 eA30 (by decide +kernel)) (any_subA (lₚ := []) (by decide +kernel))
    have mA30 := SAm_of cA30 oz_H8cls_10
    have hmo := pz30_2
    refine w_icmpgt (t := 158) rfl rfl (show inr (xc132_8) from jc132_4) (show inr (z30) from pz30_0) (fun b31 => ?_) (fun b31 => ?_)
    · refine Ew_of (pcₚ := 159) (fun _ => x_aload_n rfl lc132_0) ?_
      refine Ew_of (pcₚ := 161) (fun _ => x_bipush (z := 11) rfl (by decide)) ?_
      refine Ew_of (pcₚ := 162) (fun _ => x_iload_n rfl lc132_1) ?_
      refine v_inv H (o := 0) rfl rfl rfl rfl rfl rfl (by rfl) (C232 (D := puc 0 D) (N := puc 0 N) (HW_subc H oz_H8cls_2 oz_H8cls_12) (u0_21) (((((show F30 0 21 = F_c132 0 21 from (eF30 0 21).trans (hS30 0 21 rfl))).trans (hS_c132 0 21 rfl)).trans (eu0_21))) (show inr (11) from q_326) (show inr (xc132_1) from jc132_0) (fun z32 σ32 F32ₚ A32ₚ Hₚ Oₚ hS32 hA32 y32_0_21 (ey32_0_21 : HID _) pz32_0 pz32_1 pz32_2 => ⟨rfl, ?_⟩))
      refine v_backc (c := c) (s := s) H oz_H8cls_2 oz_H8cls_12 Hₚ Oₚ (fun F32 A32 H Oₚ eF32 eA32 => ?_)
      have O := OUT_trans O Oₚ
      -- Unpacker.fail
      have cF32 : SF oz_H8clsl_0 F F32 := SF_trans (cF30) (SF_gluc (ι := oz_H8clsl_3) oz_H8cls_12 hS32 eF32 (by decide +kernel)) (any_sub (lₚ := [(0, 21)]) (by decide +kernel))
      have mF32 := SFm_of cF32 oz_H8cls_9
      have cA32 : SA oz_H8clsl_1 A A32 := SA_trans (cA30) (SA_gluc (ι := oz_H8clsl_3) oz_H8cls_12 hA32 eA32 (by decide +kernel)) (any_subA (lₚ := []) (by decide +kernel))
      have mA32 := SAm_of cA32 oz_H8cls_10
      have r33 : (-2147483648 : Int) ≤ y32_0_21 ∧ y32_0_21 ≤ 2147483647 := rngE (show (-2147483648 : Int) ≤ F32 0 21 ∧ F32 0 21 ≤ 2147483647 from H.krg 0 21 (ltn len_V245_vd_oz_H8cls rfl)) (show F32 0 21 = y32_0_21 from ((eF32 0 21).trans ey32_0_21))
      have hCL : CLA (LTF (ub8 ((w1))) ((u0_9)) ((u0_18)) (moF ((u0_15))) CC.1 CC.2) ((z32)) ((y32_0_21)) ((u0_9)) ((u0_19)) ((u2_1)) ((w3)) := CLA_f (hR.trans (LT2_11 (by omega) (by omega))) (by decide) (by omega) (by omega)
      try have nz_0 : ¬ (((z32) : Int) = 0) := by omega
      have hcf0 : IMP (((z32) : Int) = 0) (SLB ((u25_0)) ((((D 4 : Nat) : Int))) (CDO ((LTF (ub8 ((w1))) ((u0_9)) ((u0_18)) (moF ((u0_15))) CC.1 CC.2).2.2.2.2) ((u4_3)) ((w7)))) := fun q => absurd q (by first | exact nz_0 | omega)
      have hcf1 : IMP (((z32) : Int) = 0) (SLB ((u25_0)) ((((D 23 : Nat) : Int))) (CDO ((LTF (ub8 ((w1))) ((u0_9)) ((u0_18)) (moF ((u0_15))) CC.1 CC.2).2.2.2.2) ((u23_3)) ((w24)))) := fun q => absurd q (by first | exact nz_0 | omega)
      have hcf2 : IMP (((z32) : Int) = 0) (NLC ((u25_0)) ((LTF (ub8 ((w1))) ((u0_9)) ((u0_18)) (moF ((u0_15))) CC.1 CC.2).2.2.2.2)) := fun q => absurd q (by first | exact nz_0 | omega)
      exact w_ireturn rfl (k (z32) _ _ _ _ _ _ _ H O (SD_refl) (SD_refl) (cF32) (cA32) ((((((show F32 2 0 = F30 2 0 from (eF32 2 0))).trans ((show F30 2 0 = F_c132 2 0 from (eF30 2 0)))).trans (hS_c132 2 0 rfl))).trans (pf3)) (n3) (en3) (u0_9) ((((((show F32 0 9 = F30 0 9 from (eF32 0 9).trans (hS32 0 9 rfl))).trans ((show F30 0 9 = F_c132 0 9 from (eF30 0 9).trans (hS30 0 9 rfl)))).trans (hS_c132 0 9 rfl)).trans (eu0_9))) (u0_19) ((((((show F32 0 19 = F30 0 19 from (eF32 0 19).trans (hS32 0 19 rfl))).trans ((show F30 0 19 = F_c132 0 19 from (eF30 0 19).trans (hS30 0 19 rfl)))).trans (hS_c132 0 19 rfl)).trans (eu0_19))) (y32_0_21) (((eF32 0 21).trans ey32_0_21)) (u2_1) ((((((show F32 2 1 = F30 2 1 from (eF32 2 1))).trans ((show F30 2 1 = F_c132 2 1 from (eF30 2 1)))).trans (hS_c132 2 1 rfl)).trans (eu2_1))) (u4_3) ((((((show F32 4 3 = F30 4 3 from (eF32 4 3))).trans ((show F30 4 3 = F_c132 4 3 from (eF30 4 3)))).trans (hS_c132 4 3 rfl)).trans (eu4_3))) (u25_0) ((((((show F32 25 0 = F30 25 0 from (eF32 25 0))).trans ((show F30 25 0 = F_c132 25 0 from (eF30 25 0)))).trans (hS_c132 25 0 rfl)).trans (eu25_0))) (w3) (((show A32 3 = A30 3 from (eA32 3))).trans (((show A30 3 = A_c132 3 from (eA30 3))).trans ((funext (hA_c132 3 rfl)).trans (ew3)))) (w7) (((show A32 7 = A30 7 from (eA32 7))).trans (((show A30 7 = A_c132 7 from (eA30 7))).trans ((funext (hA_c132 7 rfl)).trans (ew7)))) (show inr (z32) from pz32_0) (show 0 ≤ (z32) ∧ (z32) ≤ 17 from q_4032 pz32_1) (show 0 ≤ (u0_9) ∧ (u0_9) ≤ (u0_18) from q_4136 h0 h1) (show 0 ≤ (u2_1) ∧ (u2_1) ≤ (n3) ∧ (n3) ≤ 65536 from h4) (show (z32) ≠ 0 ∨ 0 ≤ (u0_19) ∧ (u0_19) ≤ 131072 ∧ ((u0_19) ≤ (n3) ∨ (n3) = 65536) from q_4031 pz32_1) (show (z32) ≠ 0 ∨ (u25_0) = -1 ∨ (u25_0) = (((D 4 : Nat) : Int)) ∨ (u25_0) = (((D 23 : Nat) : Int)) from q_4135 pz32_1) (show (z32) ≠ 0 ∨ (u25_0) ≠ (((D 4 : Nat) : Int)) ∨ 0 ≤ (u4_3) ∧ (u4_3) ≤ 11 from q_4134 pz32_1) (show (z32) ≠ 0 ∨ (u25_0) ≠ (((D 23 : Nat) : Int)) ∨ 0 ≤ (u23_3) ∧ (u23_3) ≤ 11 from q_4134 pz32_1) (h12) (h13) (hCL) (show IMP ((z32) = 0) (SLB ((u25_0)) ((((D 4 : Nat) : Int))) (CDO ((LTF (ub8 ((w1))) ((u0_9)) ((u0_18)) (moF ((u0_15))) CC.1 CC.2).2.2.2.2) ((u4_3)) ((w7)))) by assumption) (show IMP ((z32) = 0) (SLB ((u25_0)) ((((D 23 : Nat) : Int))) (CDO ((LTF (ub8 ((w1))) ((u0_9)) ((u0_18)) (moF ((u0_15))) CC.1 CC.2).2.2.2.2) ((u23_3)) ((w24)))) by assumption) (show IMP ((z32) = 0) (NLC ((u25_0)) ((LTF (ub8 ((w1))) ((u0_9)) ((u0_18)) (moF ((u0_15))) CC.1 CC.2).2.2.2.2)) by assumption) (show (z32) ≠ 0 ∨ (u0_19) ≤ moF ((u0_15)) from q_4030 pz32_1) (show (z32) ≠ 0 ∨ (y32_0_21) = (u0_21) from q_4029 pz32_1))
    · refine Ew_of (pcₚ := 142) (fun _ => x_iload_n rfl lc132_3) ?_
      have hc166 : ∀ (ls : rO) (σ : rS) (F_c166 : hF) (A_c166 : hA) , rlook ls 0 = some (.ref (D 0)) → rlook ls 1 = some (I (xc132_1)) → rlook ls 2 = some (I (xc132_2)) → rlook ls 3 = some (I (xc132_3)) → rlook ls 4 = some (I (xc132_4)) → rlook ls 8 = some (I (xc132_8)) → rlook ls 9 = some (I (xc132_9)) → HW V245_vd σ D N F_c166 A_c166 → OUT (V245_vd).length D N σE c s D N σ c s → SF [] F30 F_c166 → SA [] A30 A_c166 → (((xc132_3) ≤ (0)) ∨ ((xc132_3) > (0) ∧ (xc132_8) ≥ ((3 * ((xc132_8 + 3) / 4))))) → Ew 245 (d + 5) 166 ls [] σ c s Q := by
       as_aux_lemma =>
        intro  ls σ F_c166 A_c166  lc166_0 lc166_1 lc166_2 lc166_3 lc166_4 lc166_8 lc166_9 H O hS_c166 hA_c166     jc166_0
        have cF_c166 : SF oz_H8clsl_0 F F_c166 := SF_trans (cF30) hS_c166 (any_sub (by decide +kernel))
        have mF_c166 := SFm_of cF_c166 oz_H8cls_9
        have cA_c166 : SA oz_H8clsl_1 A A_c166 := SA_trans (cA30) hA_c166 (any_subA (by decide +kernel))
        have mA_c166 := SAm_of cA_c166 oz_H8cls_10
        have hc189 : ∀ (ls : rO) (σ : rS) (F_c189 : hF) (A_c189 : hA) , rlook ls 0 = some (.ref (D 0)) → rlook ls 2 = some (I (xc132_2)) → rlook ls 3 = some (I (xc132_3)) → rlook ls 4 = some (I (xc132_4)) → rlook ls 8 = some (I (xc132_8)) → rlook ls 9 = some (I (xc132_9)) → HW V245_vd σ D N F_c189 A_c189 → OUT (V245_vd).length D N σE c s D N σ c s → SF [] F_c166 F_c189 → SA [] A_c166 A_c189 → ((xc132_2) = 2 ∨ (xc132_2) = 3 ∧ (u25_0) ≠ -1) → ((u0_21) = (u0_21)) → Ew 245 (d + 5) 189 ls [] σ c s Q := by
         as_aux_lemma =>
          intro  ls σ F_c189 A_c189  lc189_0 lc189_2 lc189_3 lc189_4 lc189_8 lc189_9 H O hS_c189 hA_c189     jc189_0 jc189_1
          have cF_c189 : SF oz_H8clsl_0 F F_c189 := SF_trans (cF_c166) hS_c189 (any_sub (by decide +kernel))
          have mF_c189 := SFm_of cF_c189 oz_H8cls_9
          have cA_c189 : SA oz_H8clsl_1 A A_c189 := SA_trans (cA_c166) hA_c189 (any_subA (by decide +kernel))
          have mA_c189 := SAm_of cA_c189 oz_H8cls_10
          have hnot : ¬ (moF ((u0_15)) < (xc132_8) ∨ 0 < (xc132_3) ∧ (xc132_8) < 3 * (((xc132_8) + 3) / 4)) := by omega
          have hk13 : ¬ ((xc132_2) = 3 ∧ CC.1 = 0) := fun q => by have q1 := q.1; have q2 := q.2; have := NLC_y hNL (by omega); omega
          refine Ew_of (pcₚ := 190) (fun _ => x_aload_n rfl lc189_0) ?_
          refine Ew_of (pcₚ := 191) (fun _ => x_dup rfl rfl) ?_
          refine v_g H (o := 0) (v := I (u0_9)) rfl rfl rfl rfl rfl (congrArg (fun z : Int => I z) ((((((hS_c189 0 9 rfl).trans (hS_c166 0 9 rfl)).trans ((show F30 0 9 = F_c132 0 9 from (eF30 0 9).trans (hS30 0 9 rfl)))).trans (hS_c132 0 9 rfl)).trans (eu0_9)) : F_c189 0 9 = u0_9)) ?_
          refine Ew_of (pcₚ := 196) (fun _ => x_iload rfl lc189_4) ?_
          refine w_iadd rfl ?_
          refine v_p H (o := 0) (z := (u0_9 + xc132_4)) (v := I ((u0_9 + xc132_4))) rfl rfl rfl rfl rfl rfl rfl rfl (show (-2147483648 : Int) ≤ (u0_9 + xc132_4) ∧ (u0_9 + xc132_4) ≤ 2147483647 from q_4137 h0 h1 jc132_11 jc132_12) (fun σ H Oₚ => ?_)
          have O := OUT_trans O Oₚ
          have cFu34 : SF oz_H8clsl_0 F (updF F_c189 0 9 ((u0_9 + xc132_4))) := SF_upd (cF_c189) rfl
          have mFu34 := SFm_of cFu34 oz_H8cls_9
          refine Ew_of (pcₚ := 201) (fun _ => x_aload_n rfl lc189_0) ?_
          refine v_g H (o := 0) (v := I (u0_18)) rfl rfl rfl rfl rfl (congrArg (fun z : Int => I z) (((mFu34 0 18 rfl).trans (eu0_18)) : (updF F_c189 0 9 ((u0_9 + xc132_4))) 0 18 = u0_18)) ?_
          refine Ew_of (pcₚ := 205) (fun _ => x_aload_n rfl lc189_0) ?_
          refine v_g H (o := 0) (v := I ((u0_9 + xc132_4))) rfl rfl rfl rfl rfl (congrArg (fun z : Int => I z) (rfl : (updF F_c189 0 9 ((u0_9 + xc132_4))) 0 9 = (u0_9 + xc132_4))) ?_
          refine w_isub rfl ?_
          refine Ew_of (pcₚ := 211) (fun _ => x_iload rfl lc189_9) ?_
          refine w_icmpge (t := 225) rfl rfl (show inr ((u0_18 - (u0_9 + xc132_4))) from q_4138 h0 h1 jc132_11 jc132_12) (show inr (xc132_9) from jc132_5) (fun b35 => ?_) (fun b35 => ?_)
          · refine Ew_of (pcₚ := 226) (fun _ => x_aload_n rfl lc189_0) ?_
            refine v_g H (o := 0) (v := I ((u0_9 + xc132_4))) rfl rfl rfl rfl rfl (congrArg (fun z : Int => I z) (rfl : (updF F_c189 0 9 ((u0_9 + xc132_4))) 0 9 = (u0_9 + xc132_4))) ?_
            refine Ew_of (pcₚ := 231) (fun _ => x_iload rfl lc189_9) ?_
            refine w_iadd rfl ?_
            refine Ew_of (pcₚ := 234) (fun _ => x_istore rfl) ?_
            have hc291 : ∀ (ls : rO) (σ : rS) (F_c291 : hF) (A_c291 : hA) , rlook ls 0 = some (.ref (D 0)) → rlook ls 3 = some (I (xc132_3)) → rlook ls 8 = some (I (xc132_8)) → rlook ls 10 = some (I (((u0_9 + xc132_4) + xc132_9))) → HW V245_vd σ D N F_c291 A_c291 → OUT (V245_vd).length D N σE c s D N σ c s → SF [(0, 9), (4, 3), (13, 0), (13, 10), (13, 11), (13, 12), (25, 0), (26, 0), (26, 1), (26, 2)] (updF F_c189 0 9 ((u0_9 + xc132_4))) F_c291 → SA [5, 6, 7, 8, 14, 15, 16, 17, 18, 19, 20, 21] A_c189 A_c291 → ∀ yc291_0_9 : Int, F_c291 0 9 = yc291_0_9 → ∀ yc291_4_3 : Int, F_c291 4 3 = yc291_4_3 → ∀ yc291_25_0 : Int, F_c291 25 0 = yc291_25_0 → ∀ wc291_7 : Int → Int, A_c291 7 = wc291_7 → (0 ≤ (yc291_0_9) ∧ (yc291_0_9) ≤ (((u0_9 + xc132_4) + xc132_9))) → ((yc291_25_0) ≠ -1) → ((yc291_25_0) = -1 ∨ (yc291_25_0) = (((D 4 : Nat) : Int)) ∨ (yc291_25_0) = (((D 23 : Nat) : Int))) → ((yc291_25_0) ≠ (((D 4 : Nat) : Int)) ∨ 0 ≤ (yc291_4_3) ∧ (yc291_4_3) ≤ 11) → ((yc291_25_0) ≠ (((D 23 : Nat) : Int)) ∨ 0 ≤ (u23_3) ∧ (u23_3) ≤ 11) → (CEL ((wc291_7))) → (CEL ((w24))) → (∃ C2 : Int × (Int → Int), LTF (ub8 ((w1))) ((u0_9)) ((u0_18)) (moF ((u0_15))) CC.1 CC.2 = LT3 (ub8 ((w1))) ((yc291_0_9)) ((((u0_9 + xc132_4) + xc132_9))) ((xc132_3)) ((xc132_8)) C2.1 C2.2 ∧ 1 ≤ C2.1 ∧ SLB ((yc291_25_0)) ((((D 4 : Nat) : Int))) (CDO (C2) ((yc291_4_3)) ((wc291_7))) ∧ SLB ((yc291_25_0)) ((((D 23 : Nat) : Int))) (CDO (C2) ((u23_3)) ((w24)))) → ((u0_21) = (u0_21)) → Ew 245 (d + 5) 291 ls [] σ c s Q := by
             as_aux_lemma =>
              intro  ls σ F_c291 A_c291  lc291_0 lc291_3 lc291_8 lc291_10 H O hS_c291 hA_c291   yc291_0_9 eyc291_0_9 yc291_4_3 eyc291_4_3 yc291_25_0 eyc291_25_0 wc291_7 ewc291_7 jc291_0 jc291_1 jc291_2 jc291_3 jc291_4 jc291_5 jc291_6 jc291_7 jc291_8
              have cF_c291 : SF oz_H8clsl_0 F F_c291 := SF_trans (cFu34) hS_c291 (any_sub (by decide +kernel))
              have mF_c291 := SFm_of cF_c291 oz_H8cls_9
              have cA_c291 : SA oz_H8clsl_1 A A_c291 := SA_trans (cA_c189) hA_c291 (any_subA (by decide +kernel))
              have mA_c291 := SAm_of cA_c291 oz_H8cls_10
              replace eyc291_0_9 := HIDm eyc291_0_9
              replace eyc291_4_3 := HIDm eyc291_4_3
              replace eyc291_25_0 := HIDm eyc291_25_0
              have r36 : (-2147483648 : Int) ≤ yc291_0_9 ∧ yc291_0_9 ≤ 2147483647 := rngE (show (-2147483648 : Int) ≤ F_c291 0 9 ∧ F_c291 0 9 ≤ 2147483647 from H.krg 0 9 (ltn len_V245_vd_oz_H8cls rfl)) (show F_c291 0 9 = yc291_0_9 from (eyc291_0_9))
              have r37 : (-2147483648 : Int) ≤ yc291_4_3 ∧ yc291_4_3 ≤ 2147483647 := rngE (show (-2147483648 : Int) ≤ F_c291 4 3 ∧ F_c291 4 3 ≤ 2147483647 from H.krg 4 3 (ltn len_V245_vd_oz_H8cls rfl)) (show F_c291 4 3 = yc291_4_3 from (eyc291_4_3))
              have k291 : ∃ C2 : Int × (Int → Int), LTF (ub8 ((w1))) ((u0_9)) ((u0_18)) (moF ((u0_15))) CC.1 CC.2 = LT3 (ub8 ((w1))) ((yc291_0_9)) ((((u0_9 + xc132_4) + xc132_9))) ((xc132_3)) ((xc132_8)) C2.1 C2.2 ∧ 1 ≤ C2.1 ∧ SLB ((yc291_25_0)) ((((D 4 : Nat) : Int))) (CDO (C2) ((yc291_4_3)) ((wc291_7))) ∧ SLB ((yc291_25_0)) ((((D 23 : Nat) : Int))) (CDO (C2) ((u23_3)) ((w24))) := by assumption
              obtain ⟨C2_, hLT3, hC21, hCs0, hCs1⟩ := k291
              have hln : 0 ≤ ((xc132_8) : Int) := q_4139 jc132_7
              have hl_ : HID (((xc132_3) : Int) = 0 ∨ 3 * (((xc132_8) + 3) / 4) ≤ (xc132_8)) := (Decidable.em ((0 : Int) < (xc132_3))).elim (fun a_ => .inr (Int.not_lt.mp fun b_ => hnot (.inr ⟨a_, b_⟩))) (fun a_ => .inl (by omega))
              refine Ew_of (pcₚ := 292) (fun _ => x_aload_n rfl lc291_0) ?_
              refine Ew_of (pcₚ := 294) (fun _ => x_iload rfl lc291_8) ?_
              refine v_p H (o := 0) (z := xc132_8) (v := I (xc132_8)) rfl rfl rfl rfl rfl rfl rfl rfl (show (-2147483648 : Int) ≤ xc132_8 ∧ xc132_8 ≤ 2147483647 from q_4140 hln jc132_7) (fun σ H Oₚ => ?_)
              have O := OUT_trans O Oₚ
              have cFu38 : SF oz_H8clsl_0 F (updF F_c291 0 19 (xc132_8)) := SF_upd (cF_c291) rfl
              have mFu38 := SFm_of cFu38 oz_H8cls_9
              refine Ew_of (pcₚ := 298) (fun _ => x_aload_n rfl lc291_0) ?_
              refine v_g H (o := 0) (v := .ref (D 2)) rfl rfl rfl rfl rfl (vrf ((mFu38 0 4 rfl).trans (pf2))) ?_
              refine Ew_of (pcₚ := 303) (fun _ => x_iload rfl lc291_8) ?_
              refine Ew_of (pcₚ := 305) (fun _ => x_ldc (z := 65536) rfl (by decide)) ?_
              refine v_min rfl rfl (show inr (xc132_8) from jc132_4) (show inr (65536) from q_52) (fun z39 gz39 => ?_)
              refine v_inv H (o := 2) rfl rfl rfl rfl rfl rfl (by rfl) (C157 (D := puc 1538 D) (N := puc 1538 N) (HW_subc H oz_H8cls_3 oz_H8cls_13) (((((((hS_c291 2 0 rfl).trans (hS_c189 2 0 rfl)).trans (hS_c166 2 0 rfl)).trans ((show F30 2 0 = F_c132 2 0 from (eF30 2 0)))).trans (hS_c132 2 0 rfl))).trans (pf3)) (n3) (en3) (u2_1) (((((((hS_c291 2 1 rfl).trans (hS_c189 2 1 rfl)).trans (hS_c166 2 1 rfl)).trans ((show F30 2 1 = F_c132 2 1 from (eF30 2 1)))).trans (hS_c132 2 1 rfl)).trans (eu2_1))) (w3) ((funext (hA_c291 3 rfl)).trans ((funext (hA_c189 3 rfl)).trans ((funext (hA_c166 3 rfl)).trans (((show A30 3 = A_c132 3 from (eA30 3))).trans ((funext (hA_c132 3 rfl)).trans (ew3)))))) (show inr (z39) from q_4141 gz39 hln jc132_7) (show 0 ≤ (u2_1) ∧ (u2_1) ≤ (n3) ∧ (n3) ≤ 65536 from h4) (fun z40 σ40 D40ₚ N40ₚ F40ₚ A40ₚ c40 s40 Hₚ Oₚ hD40 hN40 hS40 hA40 (pm40_1 : HID _) m40_1 (em40_1 : HID _) w40_1 ew40_1 pz40_0 pz40_1 pz40_2 pz40_3 pz40_4 => ⟨rretB rfl pz40_0, ?_⟩))
              refine v_backMc (c := c) (s := s) H oz_H8cls_3 oz_H8cls_13 Hₚ Oₚ hD40 oz_H8cls_4 (fun D40 N40 F40 A40 H Oₚ eD40 eN40 eF40 eA40 => ?_)
              have O := OUT_trans O Oₚ
              -- Row.reserve
              have cF40 : SF oz_H8clsl_0 F F40 := SF_trans (cFu38) (SF_gluc (ι := oz_H8clsl_4) oz_H8cls_13 hS40 eF40 (by decide +kernel)) (any_sub (lₚ := [(2, 0)]) (by decide +kernel))
              have mF40 := SFm_of cF40 oz_H8cls_9
              have cA40 : SA oz_H8clsl_1 A A40 := SA_trans (cA_c291) (SA_gluc (ι := oz_H8clsl_4) oz_H8cls_13 hA40 eA40 (by decide +kernel)) (any_subA (lₚ := [3]) (by decide +kernel))
              have mA40 := SAm_of cA40 oz_H8cls_10
              have cD40 : SD oz_H8clsl_2 D D40 := SD_trans (SD_refl) (SD_gluc (ι := oz_H8clsl_4) oz_H8cls_13 hD40 eD40 (by decide +kernel)) (any_subA (lₚ := [3]) (by decide +kernel))
              have mD40 := SDm_of cD40 oz_H8cls_11
              have cN40 : SD oz_H8clsl_2 N N40 := SD_trans (SD_refl) (SD_gluc (ι := oz_H8clsl_4) oz_H8cls_13 hN40 eN40 (by decide +kernel)) (any_subA (lₚ := [3]) (by decide +kernel))
              have mN40 := SDm_of cN40 oz_H8cls_11
              have pf40_2_0 : HID (F40 2 0 = (D40 3 : Int)) := (eF40 2 0).trans (pm40_1.trans (congrArg (fun q : Nat => (q : Int)) (eD40 3).symm))
              have r41 : (0 : Int) ≤ m40_1 ∧ m40_1 ≤ 1000000 := nleE (H.nle 3 (ltn len_V245_vd_oz_H8cls rfl)) (show (N40 3 : Int) = m40_1 from (congrArg (fun q : Nat => (q : Int)) (eN40 3)).trans em40_1)
              have hdd42 : ((D40 4 : Nat) : Int) = ((D 4 : Nat) : Int) := congrArg (fun q : Nat => (q : Int)) (show D40 4 = D 4 from (eD40 4))
              have hdd43 : ((D40 23 : Nat) : Int) = ((D 23 : Nat) : Int) := congrArg (fun q : Nat => (q : Int)) (show D40 23 = D 23 from (eD40 23))
              have hrs : (xc132_8) ≤ (m40_1) ∨ (m40_1) = 65536 := by omega
              have hCs0 : SLB ((yc291_25_0)) ((((D40 4 : Nat) : Int))) (CDO (C2_) ((yc291_4_3)) ((wc291_7))) := Or.imp_left (fun w e => w (e.trans (by first | rfl | assumption))) hCs0
              have hCs1 : SLB ((yc291_25_0)) ((((D40 23 : Nat) : Int))) (CDO (C2_) ((u23_3)) ((w24))) := Or.imp_left (fun w e => w (e.trans (by first | rfl | assumption))) hCs1
              try clear pz40_2
              refine Ew_of (pcₚ := 312) (fun _ => x_pop rfl rfl) ?_
              have hczp : CDZD ((n5)) ((n6)) ((n7)) ((n8)) ((n9)) ((n10)) ((n11)) ((n12)) := h6
              unfold CDZD at hczp
              have hwzp : SHZD ((n14)) ((n15)) ((n16)) ((n17)) ((n18)) ((n19)) ((n20)) ((n21)) ((u13_1)) 12 64 := h7
              unfold SHZD at hwzp
              refine Ew_of (pcₚ := 313) (fun _ => x_aload_n rfl lc291_0) ?_
              refine Ew_of (pcₚ := 315) (fun _ => x_iload rfl lc291_10) ?_
              refine Ew_of (pcₚ := 317) (fun _ => x_iload rfl lc291_8) ?_
              refine Ew_of (pcₚ := 318) (fun _ => x_iload_n rfl lc291_3) ?_
              refine w_ifne (t := 325) rfl rfl (show inr (xc132_3) from jc132_2) (fun b44 => ?_) (fun b44 => ?_)
              · refine Ew_of (pcₚ := 326) (fun _ => x_iconst rfl) ?_
                refine Ew_stk (congrArg (fun qz : Nat => ([I (4), I (xc132_8), I (((u0_9 + xc132_4) + xc132_9)), .ref qz] : List Value)) (show D40 0 = D 0 from mD40 0 rfl).symm) ?_
                rcases (show yc291_25_0 = ((D40 4 : Nat) : Int) ∨ yc291_25_0 = ((D40 23 : Nat) : Int) by first | assumption | omega) with b45 | b45
                · have pb46 : HID (F40 25 0 = ((D40 4 : Nat) : Int)) := ((((show F40 25 0 = (updF F_c291 0 19 (xc132_8)) 25 0 from (eF40 25 0))).trans (eyc291_25_0))).trans b45
                  have hCD := Or.resolve_left hCs0 (fun w => w b45)
                  have hT2 : (yc291_4_3) = C2_.1 := hCD.1
                  have hCI_ : CI C2_.2 ((yc291_4_3)) := hCD.2.1
                  have hFL_ : fl ((wc291_7)) (p2 ((yc291_4_3))) = (CELS C2_.2 ((yc291_4_3))).map (clF C2_.2) := hCD.2.2
                  refine v_inv H (o := 0) rfl rfl rfl rfl rfl rfl (by rfl) (C246 (D := puc 239933916203668996608 D40) (N := puc 239933916203668996608 N40) (HW_subc H oz_H8cls_5 oz_H8cls_14) ((mF40 0 7 rfl).trans ((pf1).trans (congrArg (fun q : Nat => (q : Int)) (mD40 1 rfl).symm))) ((mF40 0 4 rfl).trans ((pf2).trans (congrArg (fun q : Nat => (q : Int)) (mD40 2 rfl).symm))) (pf40_2_0) ((mF40 0 3 rfl).trans ((pf25).trans (congrArg (fun q : Nat => (q : Int)) (mD40 25 rfl).symm))) (pb46) ((mF40 4 2 rfl).trans ((pf7).trans (congrArg (fun q : Nat => (q : Int)) (mD40 7 rfl).symm))) ((mF40 4 9 rfl).trans ((pf26).trans (congrArg (fun q : Nat => (q : Int)) (mD40 26 rfl).symm))) (n1) ((congrArg (fun q : Nat => (q : Int)) (mN40 1 rfl)).trans (en1)) (m40_1) ((congrArg (fun q : Nat => (q : Int)) (eN40 3)).trans em40_1) (n7) ((congrArg (fun q : Nat => (q : Int)) (mN40 7 rfl)).trans (en7)) (yc291_0_9) ((((show F40 0 9 = (updF F_c291 0 19 (xc132_8)) 0 9 from (eF40 0 9))).trans (eyc291_0_9))) (u0_21) (((((((((show F40 0 21 = (updF F_c291 0 19 (xc132_8)) 0 21 from (eF40 0 21))).trans (hS_c291 0 21 rfl)).trans (hS_c189 0 21 rfl)).trans (hS_c166 0 21 rfl)).trans ((show F30 0 21 = F_c132 0 21 from (eF30 0 21).trans (hS30 0 21 rfl)))).trans (hS_c132 0 21 rfl)).trans (eu0_21))) (u2_1) (((((((((show F40 2 1 = (updF F_c291 0 19 (xc132_8)) 2 1 from (eF40 2 1).trans (hS40 0 1 rfl))).trans (hS_c291 2 1 rfl)).trans (hS_c189 2 1 rfl)).trans (hS_c166 2 1 rfl)).trans ((show F30 2 1 = F_c132 2 1 from (eF30 2 1)))).trans (hS_c132 2 1 rfl)).trans (eu2_1))) (yc291_4_3) ((((show F40 4 3 = (updF F_c291 0 19 (xc132_8)) 4 3 from (eF40 4 3))).trans (eyc291_4_3))) (w1) ((funext (mA40 1 rfl)).trans (ew1)) (w40_1) ((eA40 3).trans ew40_1) (wc291_7) (((show A40 7 = A_c291 7 from (eA40 7))).trans (ewc291_7)) (C2_.2) (show inr (((u0_9 + xc132_4) + xc132_9)) from q_4145 b35 h0 h1 jc291_0) (show inr (xc132_8) from jc132_4) (show inr (4) from q_216) (show 0 ≤ (yc291_0_9) ∧ (yc291_0_9) ≤ (((u0_9 + xc132_4) + xc132_9)) ∧ (((u0_9 + xc132_4) + xc132_9)) ≤ (n1) ∧ (n1) ≤ 65536 from q_4144 b35 h0 h1 jc291_0) (show 0 ≤ (xc132_8) ∧ (xc132_8) ≤ 131072 from q_4143 b31 hln pz30_1) (show (4) = 1 ∨ (4) = 4 from q_4142) (show 0 ≤ (u2_1) ∧ (u2_1) ≤ (m40_1) ∧ (m40_1) ≤ 65536 from pz40_1) (show (4) = 1 ∨ 3 * (((xc132_8) + 3) / 4) ≤ (xc132_8) by omega) (show (u2_1) = 0 from h5) (hCI_) (hFL_) (show 0 ≤ (yc291_4_3) ∧ (yc291_4_3) ≤ 11 by omega) (jc291_5) (show (n7) = 2048 by omega) (fun z47 σ47 F47ₚ A47ₚ Hₚ Oₚ hS47 hA47 y47_0_9 (ey47_0_9 : HID _) y47_0_21 (ey47_0_21 : HID _) y47_2_1 (ey47_2_1 : HID _) w47_3 ew47_3 pz47_0 pz47_1 pz47_2 pz47_3 pz47_4 pz47_5 pz47_6 => ⟨rfl, ?_⟩))
                  refine v_backc (c := (c + c40)) (s := (s + s40)) H oz_H8cls_5 oz_H8cls_14 Hₚ Oₚ (fun F47 A47 H Oₚ eF47 eA47 => ?_)
                  have O := OUT_trans O Oₚ
                  -- Unpacker.unpackStreams
                  have cF47 : SF oz_H8clsl_0 F F47 := SF_trans (cF40) (SF_gluc (ι := oz_H8clsl_5) oz_H8cls_14 hS47 eF47 (by decide +kernel)) (any_sub (lₚ := [(0, 9), (0, 21), (2, 1), (26, 0), (26, 1), (26, 2)]) (by decide +kernel))
                  have mF47 := SFm_of cF47 oz_H8cls_9
                  have cA47 : SA oz_H8clsl_1 A A47 := SA_trans (cA40) (SA_gluc (ι := oz_H8clsl_5) oz_H8cls_14 hA47 eA47 (by decide +kernel)) (any_subA (lₚ := [3]) (by decide +kernel))
                  have mA47 := SAm_of cA47 oz_H8cls_10
                  have r48 : (-2147483648 : Int) ≤ y47_0_9 ∧ y47_0_9 ≤ 2147483647 := rngE (show (-2147483648 : Int) ≤ F47 0 9 ∧ F47 0 9 ≤ 2147483647 from H.krg 0 9 (ltn len_V245_vd_oz_H8cls rfl)) (show F47 0 9 = y47_0_9 from ((eF47 0 9).trans ey47_0_9))
                  have r49 : (-2147483648 : Int) ≤ y47_0_21 ∧ y47_0_21 ≤ 2147483647 := rngE (show (-2147483648 : Int) ≤ F47 0 21 ∧ F47 0 21 ≤ 2147483647 from H.krg 0 21 (ltn len_V245_vd_oz_H8cls rfl)) (show F47 0 21 = y47_0_21 from ((eF47 0 21).trans ey47_0_21))
                  have r50 : (-2147483648 : Int) ≤ y47_2_1 ∧ y47_2_1 ≤ 2147483647 := rngE (show (-2147483648 : Int) ≤ F47 2 1 ∧ F47 2 1 ≤ 2147483647 from H.krg 2 1 (ltn len_V245_vd_oz_H8cls rfl)) (show F47 2 1 = y47_2_1 from ((eF47 2 1).trans ey47_2_1))
                  have hPL : ((z47) : Int) ≠ 0 ∨ (y47_0_21) = (u0_21) := pz47_6
                  have hS_ := pz47_4
                  rw [hT2] at hS_
                  have hU : CLA (LTF (ub8 ((w1))) ((u0_9)) ((u0_18)) (moF ((u0_15))) CC.1 CC.2) ((z47)) ((y47_0_21)) ((y47_0_9)) ((xc132_8)) ((y47_2_1)) ((w47_3)) ∧ (((z47) : Int) = 0 → _) := LT3_u hLT3 (by first | exact .inl ⟨by assumption, rfl⟩ | exact .inr ⟨by assumption, by decide⟩ | omega) hS_ hln hl_ pz47_5 rfl hrs
                  have hCL : CLA (LTF (ub8 ((w1))) ((u0_9)) ((u0_18)) (moF ((u0_15))) CC.1 CC.2) ((z47)) ((y47_0_21)) ((y47_0_9)) ((xc132_8)) ((y47_2_1)) ((w47_3)) := hU.1
                  have hcf0 : IMP (((z47) : Int) = 0) (SLB ((yc291_25_0)) ((((D40 4 : Nat) : Int))) (CDO ((LTF (ub8 ((w1))) ((u0_9)) ((u0_18)) (moF ((u0_15))) CC.1 CC.2).2.2.2.2) ((yc291_4_3)) ((wc291_7)))) := fun q => by rw [hU.2 q]; exact hCs0
                  have hcf1 : IMP (((z47) : Int) = 0) (SLB ((yc291_25_0)) ((((D40 23 : Nat) : Int))) (CDO ((LTF (ub8 ((w1))) ((u0_9)) ((u0_18)) (moF ((u0_15))) CC.1 CC.2).2.2.2.2) ((u23_3)) ((w24)))) := fun q => by rw [hU.2 q]; exact hCs1
                  have hcf2 : IMP (((z47) : Int) = 0) (NLC ((yc291_25_0)) ((LTF (ub8 ((w1))) ((u0_9)) ((u0_18)) (moF ((u0_15))) CC.1 CC.2).2.2.2.2)) := fun q => by rw [hU.2 q]; exact .inr ⟨by first | assumption | omega, hC21⟩
                  try clear pz47_5
                  try clear pz47_6
                  exact w_ireturn rfl (k (z47) _ _ _ _ _ _ _ H O (cD40) (cN40) (cF47) (cA47) ((((show F47 2 0 = F40 2 0 from (eF47 2 0).trans (hS47 2 0 rfl)))).trans (pf40_2_0)) (m40_1) ((congrArg (fun q : Nat => (q : Int)) (eN40 3)).trans em40_1) (y47_0_9) (((eF47 0 9).trans ey47_0_9)) (xc132_8) ((((show F47 0 19 = F40 0 19 from (eF47 0 19).trans (hS47 0 19 rfl))).trans ((show F40 0 19 = (updF F_c291 0 19 (xc132_8)) 0 19 from (eF40 0 19))))) (y47_0_21) (((eF47 0 21).trans ey47_0_21)) (y47_2_1) (((eF47 2 1).trans ey47_2_1)) (yc291_4_3) (((((show F47 4 3 = F40 4 3 from (eF47 4 3).trans (hS47 5 3 rfl))).trans ((show F40 4 3 = (updF F_c291 0 19 (xc132_8)) 4 3 from (eF40 4 3)))).trans (eyc291_4_3))) (yc291_25_0) (((((show F47 25 0 = F40 25 0 from (eF47 25 0).trans (hS47 4 0 rfl))).trans ((show F40 25 0 = (updF F_c291 0 19 (xc132_8)) 25 0 from (eF40 25 0)))).trans (eyc291_25_0))) (w47_3) ((eA47 3).trans ew47_3) (wc291_7) (((show A47 7 = A40 7 from (eA47 7).trans (funext (hA47 6 rfl)))).trans (((show A40 7 = A_c291 7 from (eA40 7))).trans (ewc291_7))) (show inr (z47) from pz47_0) (show 0 ≤ (z47) ∧ (z47) ≤ 17 from pz47_1) (show 0 ≤ (y47_0_9) ∧ (y47_0_9) ≤ (u0_18) from q_4148 b35 pz47_2) (show 0 ≤ (y47_2_1) ∧ (y47_2_1) ≤ (m40_1) ∧ (m40_1) ≤ 65536 from pz47_3) (show (z47) ≠ 0 ∨ 0 ≤ (xc132_8) ∧ (xc132_8) ≤ 131072 ∧ ((xc132_8) ≤ (m40_1) ∨ (m40_1) = 65536) from q_4147 b31 hln hrs pz30_1) (show (z47) ≠ 0 ∨ (yc291_25_0) = -1 ∨ (yc291_25_0) = (((D40 4 : Nat) : Int)) ∨ (yc291_25_0) = (((D40 23 : Nat) : Int)) by omega) (show (z47) ≠ 0 ∨ (yc291_25_0) ≠ (((D40 4 : Nat) : Int)) ∨ 0 ≤ (yc291_4_3) ∧ (yc291_4_3) ≤ 11 by omega) (show (z47) ≠ 0 ∨ (yc291_25_0) ≠ (((D40 23 : Nat) : Int)) ∨ 0 ≤ (u23_3) ∧ (u23_3) ≤ 11 by omega) (jc291_5) (jc291_6) (hCL) (show IMP ((z47) = 0) (SLB ((yc291_25_0)) ((((D40 4 : Nat) : Int))) (CDO ((LTF (ub8 ((w1))) ((u0_9)) ((u0_18)) (moF ((u0_15))) CC.1 CC.2).2.2.2.2) ((yc291_4_3)) ((wc291_7)))) by assumption) (show IMP ((z47) = 0) (SLB ((yc291_25_0)) ((((D40 23 : Nat) : Int))) (CDO ((LTF (ub8 ((w1))) ((u0_9)) ((u0_18)) (moF ((u0_15))) CC.1 CC.2).2.2.2.2) ((u23_3)) ((w24)))) by assumption) (show IMP ((z47) = 0) (NLC ((yc291_25_0)) ((LTF (ub8 ((w1))) ((u0_9)) ((u0_18)) (moF ((u0_15))) CC.1 CC.2).2.2.2.2)) by assumption) (show (z47) ≠ 0 ∨ (xc132_8) ≤ moF ((u0_15)) from q_4146 b31 pz30_2) (show (z47) ≠ 0 ∨ (y47_0_21) = (u0_21) from hPL))
                · have pb51 : HID (F40 25 0 = ((D40 23 : Nat) : Int)) := ((((show F40 25 0 = (updF F_c291 0 19 (xc132_8)) 25 0 from (eF40 25 0))).trans (eyc291_25_0))).trans b45
                  have hCD := Or.resolve_left hCs1 (fun w => w b45)
                  have hT2 : (u23_3) = C2_.1 := hCD.1
                  have hCI_ : CI C2_.2 ((u23_3)) := hCD.2.1
                  have hFL_ : fl ((w24)) (p2 ((u23_3))) = (CELS C2_.2 ((u23_3))).map (clF C2_.2) := hCD.2.2
                  refine v_inv H (o := 0) rfl rfl rfl rfl rfl rfl (by rfl) (C246 (D := puc 249464201518254653952 D40) (N := puc 249464201518254653952 N40) (HW_subc H oz_H8cls_6 oz_H8cls_15) ((mF40 0 7 rfl).trans ((pf1).trans (congrArg (fun q : Nat => (q : Int)) (mD40 1 rfl).symm))) ((mF40 0 4 rfl).trans ((pf2).trans (congrArg (fun q : Nat => (q : Int)) (mD40 2 rfl).symm))) (pf40_2_0) ((mF40 0 3 rfl).trans ((pf25).trans (congrArg (fun q : Nat => (q : Int)) (mD40 25 rfl).symm))) (pb51) ((mF40 23 2 rfl).trans ((pf24).trans (congrArg (fun q : Nat => (q : Int)) (mD40 24 rfl).symm))) ((mF40 23 9 rfl).trans ((pf27).trans (congrArg (fun q : Nat => (q : Int)) (mD40 27 rfl).symm))) (n1) ((congrArg (fun q : Nat => (q : Int)) (mN40 1 rfl)).trans (en1)) (m40_1) ((congrArg (fun q : Nat => (q : Int)) (eN40 3)).trans em40_1) (n24) ((congrArg (fun q : Nat => (q : Int)) (mN40 24 rfl)).trans (en24)) (yc291_0_9) ((((show F40 0 9 = (updF F_c291 0 19 (xc132_8)) 0 9 from (eF40 0 9))).trans (eyc291_0_9))) (u0_21) (((((((((show F40 0 21 = (updF F_c291 0 19 (xc132_8)) 0 21 from (eF40 0 21))).trans (hS_c291 0 21 rfl)).trans (hS_c189 0 21 rfl)).trans (hS_c166 0 21 rfl)).trans ((show F30 0 21 = F_c132 0 21 from (eF30 0 21).trans (hS30 0 21 rfl)))).trans (hS_c132 0 21 rfl)).trans (eu0_21))) (u2_1) (((((((((show F40 2 1 = (updF F_c291 0 19 (xc132_8)) 2 1 from (eF40 2 1).trans (hS40 0 1 rfl))).trans (hS_c291 2 1 rfl)).trans (hS_c189 2 1 rfl)).trans (hS_c166 2 1 rfl)).trans ((show F30 2 1 = F_c132 2 1 from (eF30 2 1)))).trans (hS_c132 2 1 rfl)).trans (eu2_1))) (u23_3) (((mF40 23 3 rfl).trans (eu23_3))) (w1) ((funext (mA40 1 rfl)).trans (ew1)) (w40_1) ((eA40 3).trans ew40_1) (w24) ((funext (mA40 24 rfl)).trans (ew24)) (C2_.2) (show inr (((u0_9 + xc132_4) + xc132_9)) from q_4145 b35 h0 h1 jc291_0) (show inr (xc132_8) from jc132_4) (show inr (4) from q_216) (show 0 ≤ (yc291_0_9) ∧ (yc291_0_9) ≤ (((u0_9 + xc132_4) + xc132_9)) ∧ (((u0_9 + xc132_4) + xc132_9)) ≤ (n1) ∧ (n1) ≤ 65536 from q_4144 b35 h0 h1 jc291_0) (show 0 ≤ (xc132_8) ∧ (xc132_8) ≤ 131072 from q_4143 b31 hln pz30_1) (show (4) = 1 ∨ (4) = 4 from q_4142) (show 0 ≤ (u2_1) ∧ (u2_1) ≤ (m40_1) ∧ (m40_1) ≤ 65536 from pz40_1) (show (4) = 1 ∨ 3 * (((xc132_8) + 3) / 4) ≤ (xc132_8) by omega) (show (u2_1) = 0 from h5) (hCI_) (hFL_) (show 0 ≤ (u23_3) ∧ (u23_3) ≤ 11 by omega) (jc291_6) (show (n24) = 2048 from h8) (fun z52 σ52 F52ₚ A52ₚ Hₚ Oₚ hS52 hA52 y52_0_9 (ey52_0_9 : HID _) y52_0_21 (ey52_0_21 : HID _) y52_2_1 (ey52_2_1 : HID _) w52_3 ew52_3 pz52_0 pz52_1 pz52_2 pz52_3 pz52_4 pz52_5 pz52_6 => ⟨rfl, ?_⟩))
                  refine v_backc (c := (c + c40)) (s := (s + s40)) H oz_H8cls_6 oz_H8cls_15 Hₚ Oₚ (fun F52 A52 H Oₚ eF52 eA52 => ?_)
                  have O := OUT_trans O Oₚ
                  -- Unpacker.unpackStreams
                  have cF52 : SF oz_H8clsl_0 F F52 := SF_trans (cF40) (SF_gluc (ι := oz_H8clsl_6) oz_H8cls_15 hS52 eF52 (by decide +kernel)) (any_sub (lₚ := [(0, 9), (0, 21), (2, 1), (27, 0), (27, 1), (27, 2)]) (by decide +kernel))
                  have mF52 := SFm_of cF52 oz_H8cls_9
                  have cA52 : SA oz_H8clsl_1 A A52 := SA_trans (cA40) (SA_gluc (ι := oz_H8clsl_6) oz_H8cls_15 hA52 eA52 (by decide +kernel)) (any_subA (lₚ := [3]) (by decide +kernel))
                  have mA52 := SAm_of cA52 oz_H8cls_10
                  have r53 : (-2147483648 : Int) ≤ y52_0_9 ∧ y52_0_9 ≤ 2147483647 := rngE (show (-2147483648 : Int) ≤ F52 0 9 ∧ F52 0 9 ≤ 2147483647 from H.krg 0 9 (ltn len_V245_vd_oz_H8cls rfl)) (show F52 0 9 = y52_0_9 from ((eF52 0 9).trans ey52_0_9))
                  have r54 : (-2147483648 : Int) ≤ y52_0_21 ∧ y52_0_21 ≤ 2147483647 := rngE (show (-2147483648 : Int) ≤ F52 0 21 ∧ F52 0 21 ≤ 2147483647 from H.krg 0 21 (ltn len_V245_vd_oz_H8cls rfl)) (show F52 0 21 = y52_0_21 from ((eF52 0 21).trans ey52_0_21))
                  have r55 : (-2147483648 : Int) ≤ y52_2_1 ∧ y52_2_1 ≤ 2147483647 := rngE (show (-2147483648 : Int) ≤ F52 2 1 ∧ F52 2 1 ≤ 2147483647 from H.krg 2 1 (ltn len_V245_vd_oz_H8cls rfl)) (show F52 2 1 = y52_2_1 from ((eF52 2 1).trans ey52_2_1))
                  have hPL : ((z52) : Int) ≠ 0 ∨ (y52_0_21) = (u0_21) := pz52_6
                  have hS_ := pz52_4
                  rw [hT2] at hS_
                  have hU : CLA (LTF (ub8 ((w1))) ((u0_9)) ((u0_18)) (moF ((u0_15))) CC.1 CC.2) ((z52)) ((y52_0_21)) ((y52_0_9)) ((xc132_8)) ((y52_2_1)) ((w52_3)) ∧ (((z52) : Int) = 0 → _) := LT3_u hLT3 (by first | exact .inl ⟨by assumption, rfl⟩ | exact .inr ⟨by assumption, by decide⟩ | omega) hS_ hln hl_ pz52_5 rfl hrs
                  have hCL : CLA (LTF (ub8 ((w1))) ((u0_9)) ((u0_18)) (moF ((u0_15))) CC.1 CC.2) ((z52)) ((y52_0_21)) ((y52_0_9)) ((xc132_8)) ((y52_2_1)) ((w52_3)) := hU.1
                  have hcf0 : IMP (((z52) : Int) = 0) (SLB ((yc291_25_0)) ((((D40 4 : Nat) : Int))) (CDO ((LTF (ub8 ((w1))) ((u0_9)) ((u0_18)) (moF ((u0_15))) CC.1 CC.2).2.2.2.2) ((yc291_4_3)) ((wc291_7)))) := fun q => by rw [hU.2 q]; exact hCs0
                  have hcf1 : IMP (((z52) : Int) = 0) (SLB ((yc291_25_0)) ((((D40 23 : Nat) : Int))) (CDO ((LTF (ub8 ((w1))) ((u0_9)) ((u0_18)) (moF ((u0_15))) CC.1 CC.2).2.2.2.2) ((u23_3)) ((w24)))) := fun q => by rw [hU.2 q]; exact hCs1
                  have hcf2 : IMP (((z52) : Int) = 0) (NLC ((yc291_25_0)) ((LTF (ub8 ((w1))) ((u0_9)) ((u0_18)) (moF ((u0_15))) CC.1 CC.2).2.2.2.2)) := fun q => by rw [hU.2 q]; exact .inr ⟨by first | assumption | omega, hC21⟩
                  try clear pz52_5
                  try clear pz52_6
                  exact w_ireturn rfl (k (z52) _ _ _ _ _ _ _ H O (cD40) (cN40) (cF52) (cA52) ((((show F52 2 0 = F40 2 0 from (eF52 2 0).trans (hS52 2 0 rfl)))).trans (pf40_2_0)) (m40_1) ((congrArg (fun q : Nat => (q : Int)) (eN40 3)).trans em40_1) (y52_0_9) (((eF52 0 9).trans ey52_0_9)) (xc132_8) ((((show F52 0 19 = F40 0 19 from (eF52 0 19).trans (hS52 0 19 rfl))).trans ((show F40 0 19 = (updF F_c291 0 19 (xc132_8)) 0 19 from (eF40 0 19))))) (y52_0_21) (((eF52 0 21).trans ey52_0_21)) (y52_2_1) (((eF52 2 1).trans ey52_2_1)) (yc291_4_3) (((((show F52 4 3 = F40 4 3 from (eF52 4 3))).trans ((show F40 4 3 = (updF F_c291 0 19 (xc132_8)) 4 3 from (eF40 4 3)))).trans (eyc291_4_3))) (yc291_25_0) (((((show F52 25 0 = F40 25 0 from (eF52 25 0).trans (hS52 4 0 rfl))).trans ((show F40 25 0 = (updF F_c291 0 19 (xc132_8)) 25 0 from (eF40 25 0)))).trans (eyc291_25_0))) (w52_3) ((eA52 3).trans ew52_3) (wc291_7) (((show A52 7 = A40 7 from (eA52 7))).trans (((show A40 7 = A_c291 7 from (eA40 7))).trans (ewc291_7))) (show inr (z52) from pz52_0) (show 0 ≤ (z52) ∧ (z52) ≤ 17 from pz52_1) (show 0 ≤ (y52_0_9) ∧ (y52_0_9) ≤ (u0_18) from q_4148 b35 pz52_2) (show 0 ≤ (y52_2_1) ∧ (y52_2_1) ≤ (m40_1) ∧ (m40_1) ≤ 65536 from pz52_3) (show (z52) ≠ 0 ∨ 0 ≤ (xc132_8) ∧ (xc132_8) ≤ 131072 ∧ ((xc132_8) ≤ (m40_1) ∨ (m40_1) = 65536) from q_4147 b31 hln hrs pz30_1) (show (z52) ≠ 0 ∨ (yc291_25_0) = -1 ∨ (yc291_25_0) = (((D40 4 : Nat) : Int)) ∨ (yc291_25_0) = (((D40 23 : Nat) : Int)) by omega) (show (z52) ≠ 0 ∨ (yc291_25_0) ≠ (((D40 4 : Nat) : Int)) ∨ 0 ≤ (yc291_4_3) ∧ (yc291_4_3) ≤ 11 by omega) (show (z52) ≠ 0 ∨ (yc291_25_0) ≠ (((D40 23 : Nat) : Int)) ∨ 0 ≤ (u23_3) ∧ (u23_3) ≤ 11 by omega) (jc291_5) (jc291_6) (hCL) (show IMP ((z52) = 0) (SLB ((yc291_25_0)) ((((D40 4 : Nat) : Int))) (CDO ((LTF (ub8 ((w1))) ((u0_9)) ((u0_18)) (moF ((u0_15))) CC.1 CC.2).2.2.2.2) ((yc291_4_3)) ((wc291_7)))) by assumption) (show IMP ((z52) = 0) (SLB ((yc291_25_0)) ((((D40 23 : Nat) : Int))) (CDO ((LTF (ub8 ((w1))) ((u0_9)) ((u0_18)) (moF ((u0_15))) CC.1 CC.2).2.2.2.2) ((u23_3)) ((w24)))) by assumption) (show IMP ((z52) = 0) (NLC ((yc291_25_0)) ((LTF (ub8 ((w1))) ((u0_9)) ((u0_18)) (moF ((u0_15))) CC.1 CC.2).2.2.2.2)) by assumption) (show (z52) ≠ 0 ∨ (xc132_8) ≤ moF ((u0_15)) from q_4146 b31 pz30_2) (show (z52) ≠ 0 ∨ (y52_0_21) = (u0_21) from hPL))
              · refine Ew_of (pcₚ := 322) (fun _ => x_iconst rfl) ?_
                refine Ew_of (pcₚ := 326) (fun _ => x_goto rfl rfl) ?_
                refine Ew_stk (congrArg (fun qz : Nat => ([I (1), I (xc132_8), I (((u0_9 + xc132_4) + xc132_9)), .ref qz] : List Value)) (show D40 0 = D 0 from mD40 0 rfl).symm) ?_
                rcases (show yc291_25_0 = ((D40 4 : Nat) : Int) ∨ yc291_25_0 = ((D40 23 : Nat) : Int) by first | assumption | omega) with b56 | b56
                · have pb57 : HID (F40 25 0 = ((D40 4 : Nat) : Int)) := ((((show F40 25 0 = (updF F_c291 0 19 (xc132_8)) 25 0 from (eF40 25 0))).trans (eyc291_25_0))).trans b56
                  have hCD := Or.resolve_left hCs0 (fun w => w b56)
                  have hT2 : (yc291_4_3) = C2_.1 := hCD.1
                  have hCI_ : CI C2_.2 ((yc291_4_3)) := hCD.2.1
                  have hFL_ : fl ((wc291_7)) (p2 ((yc291_4_3))) = (CELS C2_.2 ((yc291_4_3))).map (clF C2_.2) := hCD.2.2
                  refine v_inv H (o := 0) rfl rfl rfl rfl rfl rfl (by rfl) (C246 (D := puc 239933916203668996608 D40) (N := puc 239933916203668996608 N40) (HW_subc H oz_H8cls_5 oz_H8cls_14) ((mF40 0 7 rfl).trans ((pf1).trans (congrArg (fun q : Nat => (q : Int)) (mD40 1 rfl).symm))) ((mF40 0 4 rfl).trans ((pf2).trans (congrArg (fun q : Nat => (q : Int)) (mD40 2 rfl).symm))) (pf40_2_0) ((mF40 0 3 rfl).trans ((pf25).trans (congrArg (fun q : Nat => (q : Int)) (mD40 25 rfl).symm))) (pb57) ((mF40 4 2 rfl).trans ((pf7).trans (congrArg (fun q : Nat => (q : Int)) (mD40 7 rfl).symm))) ((mF40 4 9 rfl).trans ((pf26).trans (congrArg (fun q : Nat => (q : Int)) (mD40 26 rfl).symm))) (n1) ((congrArg (fun q : Nat => (q : Int)) (mN40 1 rfl)).trans (en1)) (m40_1) ((congrArg (fun q : Nat => (q : Int)) (eN40 3)).trans em40_1) (n7) ((congrArg (fun q : Nat => (q : Int)) (mN40 7 rfl)).trans (en7)) (yc291_0_9) ((((show F40 0 9 = (updF F_c291 0 19 (xc132_8)) 0 9 from (eF40 0 9))).trans (eyc291_0_9))) (u0_21) (((((((((show F40 0 21 = (updF F_c291 0 19 (xc132_8)) 0 21 from (eF40 0 21))).trans (hS_c291 0 21 rfl)).trans (hS_c189 0 21 rfl)).trans (hS_c166 0 21 rfl)).trans ((show F30 0 21 = F_c132 0 21 from (eF30 0 21).trans (hS30 0 21 rfl)))).trans (hS_c132 0 21 rfl)).trans (eu0_21))) (u2_1) (((((((((show F40 2 1 = (updF F_c291 0 19 (xc132_8)) 2 1 from (eF40 2 1).trans (hS40 0 1 rfl))).trans (hS_c291 2 1 rfl)).trans (hS_c189 2 1 rfl)).trans (hS_c166 2 1 rfl)).trans ((show F30 2 1 = F_c132 2 1 from (eF30 2 1)))).trans (hS_c132 2 1 rfl)).trans (eu2_1))) (yc291_4_3) ((((show F40 4 3 = (updF F_c291 0 19 (xc132_8)) 4 3 from (eF40 4 3))).trans (eyc291_4_3))) (w1) ((funext (mA40 1 rfl)).trans (ew1)) (w40_1) ((eA40 3).trans ew40_1) (wc291_7) (((show A40 7 = A_c291 7 from (eA40 7))).trans (ewc291_7)) (C2_.2) (show inr (((u0_9 + xc132_4) + xc132_9)) from q_4145 b35 h0 h1 jc291_0) (show inr (xc132_8) from jc132_4) (show inr (1) from q_135) (show 0 ≤ (yc291_0_9) ∧ (yc291_0_9) ≤ (((u0_9 + xc132_4) + xc132_9)) ∧ (((u0_9 + xc132_4) + xc132_9)) ≤ (n1) ∧ (n1) ≤ 65536 from q_4144 b35 h0 h1 jc291_0) (show 0 ≤ (xc132_8) ∧ (xc132_8) ≤ 131072 from q_4143 b31 hln pz30_1) (show (1) = 1 ∨ (1) = 4 from q_4150) (show 0 ≤ (u2_1) ∧ (u2_1) ≤ (m40_1) ∧ (m40_1) ≤ 65536 from pz40_1) (show (1) = 1 ∨ 3 * (((xc132_8) + 3) / 4) ≤ (xc132_8) from q_4149) (show (u2_1) = 0 from h5) (hCI_) (hFL_) (show 0 ≤ (yc291_4_3) ∧ (yc291_4_3) ≤ 11 by omega) (jc291_5) (show (n7) = 2048 by omega) (fun z58 σ58 F58ₚ A58ₚ Hₚ Oₚ hS58 hA58 y58_0_9 (ey58_0_9 : HID _) y58_0_21 (ey58_0_21 : HID _) y58_2_1 (ey58_2_1 : HID _) w58_3 ew58_3 pz58_0 pz58_1 pz58_2 pz58_3 pz58_4 pz58_5 pz58_6 => ⟨rfl, ?_⟩))
                  refine v_backc (c := (c + c40)) (s := (s + s40)) H oz_H8cls_5 oz_H8cls_14 Hₚ Oₚ (fun F58 A58 H Oₚ eF58 eA58 => ?_)
                  have O := OUT_trans O Oₚ
                  -- Unpacker.unpackStreams
                  have cF58 : SF oz_H8clsl_0 F F58 := SF_trans (cF40) (SF_gluc (ι := oz_H8clsl_5) oz_H8cls_14 hS58 eF58 (by decide +kernel)) (any_sub (lₚ := [(0, 9), (0, 21), (2, 1), (26, 0), (26, 1), (26, 2)]) (by decide +kernel))
                  have mF58 := SFm_of cF58 oz_H8cls_9
                  have cA58 : SA oz_H8clsl_1 A A58 := SA_trans (cA40) (SA_gluc (ι := oz_H8clsl_5) oz_H8cls_14 hA58 eA58 (by decide +kernel)) (any_subA (lₚ := [3]) (by decide +kernel))
                  have mA58 := SAm_of cA58 oz_H8cls_10
                  have r59 : (-2147483648 : Int) ≤ y58_0_9 ∧ y58_0_9 ≤ 2147483647 := rngE (show (-2147483648 : Int) ≤ F58 0 9 ∧ F58 0 9 ≤ 2147483647 from H.krg 0 9 (ltn len_V245_vd_oz_H8cls rfl)) (show F58 0 9 = y58_0_9 from ((eF58 0 9).trans ey58_0_9))
                  have r60 : (-2147483648 : Int) ≤ y58_0_21 ∧ y58_0_21 ≤ 2147483647 := rngE (show (-2147483648 : Int) ≤ F58 0 21 ∧ F58 0 21 ≤ 2147483647 from H.krg 0 21 (ltn len_V245_vd_oz_H8cls rfl)) (show F58 0 21 = y58_0_21 from ((eF58 0 21).trans ey58_0_21))
                  have r61 : (-2147483648 : Int) ≤ y58_2_1 ∧ y58_2_1 ≤ 2147483647 := rngE (show (-2147483648 : Int) ≤ F58 2 1 ∧ F58 2 1 ≤ 2147483647 from H.krg 2 1 (ltn len_V245_vd_oz_H8cls rfl)) (show F58 2 1 = y58_2_1 from ((eF58 2 1).trans ey58_2_1))
                  have hPL : ((z58) : Int) ≠ 0 ∨ (y58_0_21) = (u0_21) := pz58_6
                  have hS_ := pz58_4
                  rw [hT2] at hS_
                  have hU : CLA (LTF (ub8 ((w1))) ((u0_9)) ((u0_18)) (moF ((u0_15))) CC.1 CC.2) ((z58)) ((y58_0_21)) ((y58_0_9)) ((xc132_8)) ((y58_2_1)) ((w58_3)) ∧ (((z58) : Int) = 0 → _) := LT3_u hLT3 (by first | exact .inl ⟨by assumption, rfl⟩ | exact .inr ⟨by assumption, by decide⟩ | omega) hS_ hln hl_ pz58_5 rfl hrs
                  have hCL : CLA (LTF (ub8 ((w1))) ((u0_9)) ((u0_18)) (moF ((u0_15))) CC.1 CC.2) ((z58)) ((y58_0_21)) ((y58_0_9)) ((xc132_8)) ((y58_2_1)) ((w58_3)) := hU.1
                  have hcf0 : IMP (((z58) : Int) = 0) (SLB ((yc291_25_0)) ((((D40 4 : Nat) : Int))) (CDO ((LTF (ub8 ((w1))) ((u0_9)) ((u0_18)) (moF ((u0_15))) CC.1 CC.2).2.2.2.2) ((yc291_4_3)) ((wc291_7)))) := fun q => by rw [hU.2 q]; exact hCs0
                  have hcf1 : IMP (((z58) : Int) = 0) (SLB ((yc291_25_0)) ((((D40 23 : Nat) : Int))) (CDO ((LTF (ub8 ((w1))) ((u0_9)) ((u0_18)) (moF ((u0_15))) CC.1 CC.2).2.2.2.2) ((u23_3)) ((w24)))) := fun q => by rw [hU.2 q]; exact hCs1
                  have hcf2 : IMP (((z58) : Int) = 0) (NLC ((yc291_25_0)) ((LTF (ub8 ((w1))) ((u0_9)) ((u0_18)) (moF ((u0_15))) CC.1 CC.2).2.2.2.2)) := fun q => by rw [hU.2 q]; exact .inr ⟨by first | assumption | omega, hC21⟩
                  try clear pz58_5
                  try clear pz58_6
                  exact w_ireturn rfl (k (z58) _ _ _ _ _ _ _ H O (cD40) (cN40) (cF58) (cA58) ((((show F58 2 0 = F40 2 0 from (eF58 2 0).trans (hS58 2 0 rfl)))).trans (pf40_2_0)) (m40_1) ((congrArg (fun q : Nat => (q : Int)) (eN40 3)).trans em40_1) (y58_0_9) (((eF58 0 9).trans ey58_0_9)) (xc132_8) ((((show F58 0 19 = F40 0 19 from (eF58 0 19).trans (hS58 0 19 rfl))).trans ((show F40 0 19 = (updF F_c291 0 19 (xc132_8)) 0 19 from (eF40 0 19))))) (y58_0_21) (((eF58 0 21).trans ey58_0_21)) (y58_2_1) (((eF58 2 1).trans ey58_2_1)) (yc291_4_3) (((((show F58 4 3 = F40 4 3 from (eF58 4 3).trans (hS58 5 3 rfl))).trans ((show F40 4 3 = (updF F_c291 0 19 (xc132_8)) 4 3 from (eF40 4 3)))).trans (eyc291_4_3))) (yc291_25_0) (((((show F58 25 0 = F40 25 0 from (eF58 25 0).trans (hS58 4 0 rfl))).trans ((show F40 25 0 = (updF F_c291 0 19 (xc132_8)) 25 0 from (eF40 25 0)))).trans (eyc291_25_0))) (w58_3) ((eA58 3).trans ew58_3) (wc291_7) (((show A58 7 = A40 7 from (eA58 7).trans (funext (hA58 6 rfl)))).trans (((show A40 7 = A_c291 7 from (eA40 7))).trans (ewc291_7))) (show inr (z58) from pz58_0) (show 0 ≤ (z58) ∧ (z58) ≤ 17 from pz58_1) (show 0 ≤ (y58_0_9) ∧ (y58_0_9) ≤ (u0_18) from q_4148 b35 pz58_2) (show 0 ≤ (y58_2_1) ∧ (y58_2_1) ≤ (m40_1) ∧ (m40_1) ≤ 65536 from pz58_3) (show (z58) ≠ 0 ∨ 0 ≤ (xc132_8) ∧ (xc132_8) ≤ 131072 ∧ ((xc132_8) ≤ (m40_1) ∨ (m40_1) = 65536) from q_4147 b31 hln hrs pz30_1) (show (z58) ≠ 0 ∨ (yc291_25_0) = -1 ∨ (yc291_25_0) = (((D40 4 : Nat) : Int)) ∨ (yc291_25_0) = (((D40 23 : Nat) : Int)) by omega) (show (z58) ≠ 0 ∨ (yc291_25_0) ≠ (((D40 4 : Nat) : Int)) ∨ 0 ≤ (yc291_4_3) ∧ (yc291_4_3) ≤ 11 by omega) (show (z58) ≠ 0 ∨ (yc291_25_0) ≠ (((D40 23 : Nat) : Int)) ∨ 0 ≤ (u23_3) ∧ (u23_3) ≤ 11 by omega) (jc291_5) (jc291_6) (hCL) (show IMP ((z58) = 0) (SLB ((yc291_25_0)) ((((D40 4 : Nat) : Int))) (CDO ((LTF (ub8 ((w1))) ((u0_9)) ((u0_18)) (moF ((u0_15))) CC.1 CC.2).2.2.2.2) ((yc291_4_3)) ((wc291_7)))) by assumption) (show IMP ((z58) = 0) (SLB ((yc291_25_0)) ((((D40 23 : Nat) : Int))) (CDO ((LTF (ub8 ((w1))) ((u0_9)) ((u0_18)) (moF ((u0_15))) CC.1 CC.2).2.2.2.2) ((u23_3)) ((w24)))) by assumption) (show IMP ((z58) = 0) (NLC ((yc291_25_0)) ((LTF (ub8 ((w1))) ((u0_9)) ((u0_18)) (moF ((u0_15))) CC.1 CC.2).2.2.2.2)) by assumption) (show (z58) ≠ 0 ∨ (xc132_8) ≤ moF ((u0_15)) from q_4146 b31 pz30_2) (show (z58) ≠ 0 ∨ (y58_0_21) = (u0_21) from hPL))
                · have pb62 : HID (F40 25 0 = ((D40 23 : Nat) : Int)) := ((((show F40 25 0 = (updF F_c291 0 19 (xc132_8)) 25 0 from (eF40 25 0))).trans (eyc291_25_0))).trans b56
                  have hCD := Or.resolve_left hCs1 (fun w => w b56)
                  have hT2 : (u23_3) = C2_.1 := hCD.1
                  have hCI_ : CI C2_.2 ((u23_3)) := hCD.2.1
                  have hFL_ : fl ((w24)) (p2 ((u23_3))) = (CELS C2_.2 ((u23_3))).map (clF C2_.2) := hCD.2.2
                  refine v_inv H (o := 0) rfl rfl rfl rfl rfl rfl (by rfl) (C246 (D := puc 249464201518254653952 D40) (N := puc 249464201518254653952 N40) (HW_subc H oz_H8cls_6 oz_H8cls_15) ((mF40 0 7 rfl).trans ((pf1).trans (congrArg (fun q : Nat => (q : Int)) (mD40 1 rfl).symm))) ((mF40 0 4 rfl).trans ((pf2).trans (congrArg (fun q : Nat => (q : Int)) (mD40 2 rfl).symm))) (pf40_2_0) ((mF40 0 3 rfl).trans ((pf25).trans (congrArg (fun q : Nat => (q : Int)) (mD40 25 rfl).symm))) (pb62) ((mF40 23 2 rfl).trans ((pf24).trans (congrArg (fun q : Nat => (q : Int)) (mD40 24 rfl).symm))) ((mF40 23 9 rfl).trans ((pf27).trans (congrArg (fun q : Nat => (q : Int)) (mD40 27 rfl).symm))) (n1) ((congrArg (fun q : Nat => (q : Int)) (mN40 1 rfl)).trans (en1)) (m40_1) ((congrArg (fun q : Nat => (q : Int)) (eN40 3)).trans em40_1) (n24) ((congrArg (fun q : Nat => (q : Int)) (mN40 24 rfl)).trans (en24)) (yc291_0_9) ((((show F40 0 9 = (updF F_c291 0 19 (xc132_8)) 0 9 from (eF40 0 9))).trans (eyc291_0_9))) (u0_21) (((((((((show F40 0 21 = (updF F_c291 0 19 (xc132_8)) 0 21 from (eF40 0 21))).trans (hS_c291 0 21 rfl)).trans (hS_c189 0 21 rfl)).trans (hS_c166 0 21 rfl)).trans ((show F30 0 21 = F_c132 0 21 from (eF30 0 21).trans (hS30 0 21 rfl)))).trans (hS_c132 0 21 rfl)).trans (eu0_21))) (u2_1) (((((((((show F40 2 1 = (updF F_c291 0 19 (xc132_8)) 2 1 from (eF40 2 1).trans (hS40 0 1 rfl))).trans (hS_c291 2 1 rfl)).trans (hS_c189 2 1 rfl)).trans (hS_c166 2 1 rfl)).trans ((show F30 2 1 = F_c132 2 1 from (eF30 2 1)))).trans (hS_c132 2 1 rfl)).trans (eu2_1))) (u23_3) (((mF40 23 3 rfl).trans (eu23_3))) (w1) ((funext (mA40 1 rfl)).trans (ew1)) (w40_1) ((eA40 3).trans ew40_1) (w24) ((funext (mA40 24 rfl)).trans (ew24)) (C2_.2) (show inr (((u0_9 + xc132_4) + xc132_9)) from q_4145 b35 h0 h1 jc291_0) (show inr (xc132_8) from jc132_4) (show inr (1) from q_135) (show 0 ≤ (yc291_0_9) ∧ (yc291_0_9) ≤ (((u0_9 + xc132_4) + xc132_9)) ∧ (((u0_9 + xc132_4) + xc132_9)) ≤ (n1) ∧ (n1) ≤ 65536 from q_4144 b35 h0 h1 jc291_0) (show 0 ≤ (xc132_8) ∧ (xc132_8) ≤ 131072 from q_4143 b31 hln pz30_1) (show (1) = 1 ∨ (1) = 4 from q_4150) (show 0 ≤ (u2_1) ∧ (u2_1) ≤ (m40_1) ∧ (m40_1) ≤ 65536 from pz40_1) (show (1) = 1 ∨ 3 * (((xc132_8) + 3) / 4) ≤ (xc132_8) from q_4149) (show (u2_1) = 0 from h5) (hCI_) (hFL_) (show 0 ≤ (u23_3) ∧ (u23_3) ≤ 11 by omega) (jc291_6) (show (n24) = 2048 from h8) (fun z63 σ63 F63ₚ A63ₚ Hₚ Oₚ hS63 hA63 y63_0_9 (ey63_0_9 : HID _) y63_0_21 (ey63_0_21 : HID _) y63_2_1 (ey63_2_1 : HID _) w63_3 ew63_3 pz63_0 pz63_1 pz63_2 pz63_3 pz63_4 pz63_5 pz63_6 => ⟨rfl, ?_⟩))
                  refine v_backc (c := (c + c40)) (s := (s + s40)) H oz_H8cls_6 oz_H8cls_15 Hₚ Oₚ (fun F63 A63 H Oₚ eF63 eA63 => ?_)
                  have O := OUT_trans O Oₚ
                  -- Unpacker.unpackStreams
                  have cF63 : SF oz_H8clsl_0 F F63 := SF_trans (cF40) (SF_gluc (ι := oz_H8clsl_6) oz_H8cls_15 hS63 eF63 (by decide +kernel)) (any_sub (lₚ := [(0, 9), (0, 21), (2, 1), (27, 0), (27, 1), (27, 2)]) (by decide +kernel))
                  have mF63 := SFm_of cF63 oz_H8cls_9
                  have cA63 : SA oz_H8clsl_1 A A63 := SA_trans (cA40) (SA_gluc (ι := oz_H8clsl_6) oz_H8cls_15 hA63 eA63 (by decide +kernel)) (any_subA (lₚ := [3]) (by decide +kernel))
                  have mA63 := SAm_of cA63 oz_H8cls_10
                  have r64 : (-2147483648 : Int) ≤ y63_0_9 ∧ y63_0_9 ≤ 2147483647 := rngE (show (-2147483648 : Int) ≤ F63 0 9 ∧ F63 0 9 ≤ 2147483647 from H.krg 0 9 (ltn len_V245_vd_oz_H8cls rfl)) (show F63 0 9 = y63_0_9 from ((eF63 0 9).trans ey63_0_9))
                  have r65 : (-2147483648 : Int) ≤ y63_0_21 ∧ y63_0_21 ≤ 2147483647 := rngE (show (-2147483648 : Int) ≤ F63 0 21 ∧ F63 0 21 ≤ 2147483647 from H.krg 0 21 (ltn len_V245_vd_oz_H8cls rfl)) (show F63 0 21 = y63_0_21 from ((eF63 0 21).trans ey63_0_21))
                  have r66 : (-2147483648 : Int) ≤ y63_2_1 ∧ y63_2_1 ≤ 2147483647 := rngE (show (-2147483648 : Int) ≤ F63 2 1 ∧ F63 2 1 ≤ 2147483647 from H.krg 2 1 (ltn len_V245_vd_oz_H8cls rfl)) (show F63 2 1 = y63_2_1 from ((eF63 2 1).trans ey63_2_1))
                  have hPL : ((z63) : Int) ≠ 0 ∨ (y63_0_21) = (u0_21) := pz63_6
                  have hS_ := pz63_4
                  rw [hT2] at hS_
                  have hU : CLA (LTF (ub8 ((w1))) ((u0_9)) ((u0_18)) (moF ((u0_15))) CC.1 CC.2) ((z63)) ((y63_0_21)) ((y63_0_9)) ((xc132_8)) ((y63_2_1)) ((w63_3)) ∧ (((z63) : Int) = 0 → _) := LT3_u hLT3 (by first | exact .inl ⟨by assumption, rfl⟩ | exact .inr ⟨by assumption, by decide⟩ | omega) hS_ hln hl_ pz63_5 rfl hrs
                  have hCL : CLA (LTF (ub8 ((w1))) ((u0_9)) ((u0_18)) (moF ((u0_15))) CC.1 CC.2) ((z63)) ((y63_0_21)) ((y63_0_9)) ((xc132_8)) ((y63_2_1)) ((w63_3)) := hU.1
                  have hcf0 : IMP (((z63) : Int) = 0) (SLB ((yc291_25_0)) ((((D40 4 : Nat) : Int))) (CDO ((LTF (ub8 ((w1))) ((u0_9)) ((u0_18)) (moF ((u0_15))) CC.1 CC.2).2.2.2.2) ((yc291_4_3)) ((wc291_7)))) := fun q => by rw [hU.2 q]; exact hCs0
                  have hcf1 : IMP (((z63) : Int) = 0) (SLB ((yc291_25_0)) ((((D40 23 : Nat) : Int))) (CDO ((LTF (ub8 ((w1))) ((u0_9)) ((u0_18)) (moF ((u0_15))) CC.1 CC.2).2.2.2.2) ((u23_3)) ((w24)))) := fun q => by rw [hU.2 q]; exact hCs1
                  have hcf2 : IMP (((z63) : Int) = 0) (NLC ((yc291_25_0)) ((LTF (ub8 ((w1))) ((u0_9)) ((u0_18)) (moF ((u0_15))) CC.1 CC.2).2.2.2.2)) := fun q => by rw [hU.2 q]; exact .inr ⟨by first | assumption | omega, hC21⟩
                  try clear pz63_5
                  try clear pz63_6
                  exact w_ireturn rfl (k (z63) _ _ _ _ _ _ _ H O (cD40) (cN40) (cF63) (cA63) ((((show F63 2 0 = F40 2 0 from (eF63 2 0).trans (hS63 2 0 rfl)))).trans (pf40_2_0)) (m40_1) ((congrArg (fun q : Nat => (q : Int)) (eN40 3)).trans em40_1) (y63_0_9) (((eF63 0 9).trans ey63_0_9)) (xc132_8) ((((show F63 0 19 = F40 0 19 from (eF63 0 19).trans (hS63 0 19 rfl))).trans ((show F40 0 19 = (updF F_c291 0 19 (xc132_8)) 0 19 from (eF40 0 19))))) (y63_0_21) (((eF63 0 21).trans ey63_0_21)) (y63_2_1) (((eF63 2 1).trans ey63_2_1)) (yc291_4_3) (((((show F63 4 3 = F40 4 3 from (eF63 4 3))).trans ((show F40 4 3 = (updF F_c291 0 19 (xc132_8)) 4 3 from (eF40 4 3)))).trans (eyc291_4_3))) (yc291_25_0) (((((show F63 25 0 = F40 25 0 from (eF63 25 0).trans (hS63 4 0 rfl))).trans ((show F40 25 0 = (updF F_c291 0 19 (xc132_8)) 25 0 from (eF40 25 0)))).trans (eyc291_25_0))) (w63_3) ((eA63 3).trans ew63_3) (wc291_7) (((show A63 7 = A40 7 from (eA63 7))).trans (((show A40 7 = A_c291 7 from (eA40 7))).trans (ewc291_7))) (show inr (z63) from pz63_0) (show 0 ≤ (z63) ∧ (z63) ≤ 17 from pz63_1) (show 0 ≤ (y63_0_9) ∧ (y63_0_9) ≤ (u0_18) from q_4148 b35 pz63_2) (show 0 ≤ (y63_2_1) ∧ (y63_2_1) ≤ (m40_1) ∧ (m40_1) ≤ 65536 from pz63_3) (show (z63) ≠ 0 ∨ 0 ≤ (xc132_8) ∧ (xc132_8) ≤ 131072 ∧ ((xc132_8) ≤ (m40_1) ∨ (m40_1) = 65536) from q_4147 b31 hln hrs pz30_1) (show (z63) ≠ 0 ∨ (yc291_25_0) = -1 ∨ (yc291_25_0) = (((D40 4 : Nat) : Int)) ∨ (yc291_25_0) = (((D40 23 : Nat) : Int)) by omega) (show (z63) ≠ 0 ∨ (yc291_25_0) ≠ (((D40 4 : Nat) : Int)) ∨ 0 ≤ (yc291_4_3) ∧ (yc291_4_3) ≤ 11 by omega) (show (z63) ≠ 0 ∨ (yc291_25_0) ≠ (((D40 23 : Nat) : Int)) ∨ 0 ≤ (u23_3) ∧ (u23_3) ≤ 11 by omega) (jc291_5) (jc291_6) (hCL) (show IMP ((z63) = 0) (SLB ((yc291_25_0)) ((((D40 4 : Nat) : Int))) (CDO ((LTF (ub8 ((w1))) ((u0_9)) ((u0_18)) (moF ((u0_15))) CC.1 CC.2).2.2.2.2) ((yc291_4_3)) ((wc291_7)))) by assumption) (show IMP ((z63) = 0) (SLB ((yc291_25_0)) ((((D40 23 : Nat) : Int))) (CDO ((LTF (ub8 ((w1))) ((u0_9)) ((u0_18)) (moF ((u0_15))) CC.1 CC.2).2.2.2.2) ((u23_3)) ((w24)))) by assumption) (show IMP ((z63) = 0) (NLC ((yc291_25_0)) ((LTF (ub8 ((w1))) ((u0_9)) ((u0_18)) (moF ((u0_15))) CC.1 CC.2).2.2.2.2)) by assumption) (show (z63) ≠ 0 ∨ (xc132_8) ≤ moF ((u0_15)) from q_4146 b31 pz30_2) (show (z63) ≠ 0 ∨ (y63_0_21) = (u0_21) from hPL))
            refine Ew_of (pcₚ := 235) (fun _ => x_iload_n rfl (rk_o (lc189_2) rfl rfl)) ?_
            refine Ew_of (pcₚ := 236) (fun _ => x_iconst rfl) ?_
            refine w_icmpne (t := 291) rfl rfl (show inr (xc132_2) from jc132_1) (show inr (2) from q_122) (fun b67 => ?_) (fun b67 => ?_)
            · have : ∃ C2 : Int × (Int → Int), LTF (ub8 ((w1))) ((u0_9)) ((u0_18)) (moF ((u0_15))) CC.1 CC.2 = LT3 (ub8 ((w1))) (((u0_9 + xc132_4))) ((((u0_9 + xc132_4) + xc132_9))) ((xc132_3)) ((xc132_8)) C2.1 C2.2 ∧ 1 ≤ C2.1 ∧ SLB ((u25_0)) ((((D 4 : Nat) : Int))) (CDO (C2) ((u4_3)) ((w7))) ∧ SLB ((u25_0)) ((((D 23 : Nat) : Int))) (CDO (C2) ((u23_3)) ((w24))) := by first | exact ⟨(((u4_3)), (DSF (ub8 ((w1))) (qat) ((((u0_9 + xc132_4) + xc132_9)))).2.2.2), hR.trans (LT2_2 (by omega) hnot (by omega) (by omega) (by omega) (by omega) (DSA_1 hds (by omega)).1), CI_t1 (hCI2 (by omega)), .inr (CDO_of (hCI2 (by omega)) (hCX2 (by omega)) (DSA_1 hds (by omega)).2 rfl), .inl (by omega)⟩ | exact ⟨CC, hR.trans (LT2_k (by omega) hnot hk13 (by omega) (by omega) (by omega) (by omega)), NLC_y hNL (by omega), hC0_0, hC0_1⟩
              exact hc291  _ _ _ _  (rk_o (lc189_0) rfl rfl) (rk_o (lc189_3) rfl rfl) (rk_o (lc189_8) rfl rfl) (rk_s) H O (SF_refl) (SA_refl)   ((u0_9 + xc132_4)) (rfl) (u4_3) ((((((hS_c189 4 3 rfl).trans (hS_c166 4 3 rfl)).trans ((show F30 4 3 = F_c132 4 3 from (eF30 4 3)))).trans (hS_c132 4 3 rfl)).trans (eu4_3))) (u25_0) ((((((hS_c189 25 0 rfl).trans (hS_c166 25 0 rfl)).trans ((show F30 25 0 = F_c132 25 0 from (eF30 25 0)))).trans (hS_c132 25 0 rfl)).trans (eu25_0))) (w7) ((funext (hA_c189 7 rfl)).trans ((funext (hA_c166 7 rfl)).trans (((show A30 7 = A_c132 7 from (eA30 7))).trans ((funext (hA_c132 7 rfl)).trans (ew7))))) (show 0 ≤ ((u0_9 + xc132_4)) ∧ ((u0_9 + xc132_4)) ≤ (((u0_9 + xc132_4) + xc132_9)) from q_4151 h0 jc132_11 jc132_8) (show (u25_0) ≠ -1 by omega) (show (u25_0) = -1 ∨ (u25_0) = (((D 4 : Nat) : Int)) ∨ (u25_0) = (((D 23 : Nat) : Int)) from h9) (show (u25_0) ≠ (((D 4 : Nat) : Int)) ∨ 0 ≤ (u4_3) ∧ (u4_3) ≤ 11 from h10) (show (u25_0) ≠ (((D 23 : Nat) : Int)) ∨ 0 ≤ (u23_3) ∧ (u23_3) ≤ 11 from h11) (h12) (h13) (show ∃ C2 : Int × (Int → Int), LTF (ub8 ((w1))) ((u0_9)) ((u0_18)) (moF ((u0_15))) CC.1 CC.2 = LT3 (ub8 ((w1))) (((u0_9 + xc132_4))) ((((u0_9 + xc132_4) + xc132_9))) ((xc132_3)) ((xc132_8)) C2.1 C2.2 ∧ 1 ≤ C2.1 ∧ SLB ((u25_0)) ((((D 4 : Nat) : Int))) (CDO (C2) ((u4_3)) ((w7))) ∧ SLB ((u25_0)) ((((D 23 : Nat) : Int))) (CDO (C2) ((u23_3)) ((w24))) by assumption) (show (u0_21) = (u0_21) from jc189_1)
            · refine Ew_of (pcₚ := 240) (fun _ => x_aload_n rfl (rk_o (lc189_0) rfl rfl)) ?_
              refine v_g H (o := 0) (v := .ref (D 4)) rfl rfl rfl rfl rfl (vrf ((mFu34 0 1 rfl).trans (pf4))) ?_
              refine Ew_of (pcₚ := 244) (fun _ => x_aload_n rfl (rk_o (lc189_0) rfl rfl)) ?_
              refine v_g H (o := 0) (v := .ref (D 1)) rfl rfl rfl rfl rfl (vrf ((mFu34 0 7 rfl).trans (pf1))) ?_
              refine Ew_of (pcₚ := 248) (fun _ => x_aload_n rfl (rk_o (lc189_0) rfl rfl)) ?_
              refine v_g H (o := 0) (v := I ((u0_9 + xc132_4))) rfl rfl rfl rfl rfl (congrArg (fun z : Int => I z) (rfl : (updF F_c189 0 9 ((u0_9 + xc132_4))) 0 9 = (u0_9 + xc132_4))) ?_
              refine Ew_of (pcₚ := 253) (fun _ => x_iload rfl rk_s) ?_
              have hczo : CDZD ((n5)) ((n6)) ((n7)) ((n8)) ((n9)) ((n10)) ((n11)) ((n12)) := h6
              unfold CDZD at hczo
              have hwzo : SHZD ((n14)) ((n15)) ((n16)) ((n17)) ((n18)) ((n19)) ((n20)) ((n21)) ((u13_1)) 12 64 := h7
              unfold SHZD at hwzo
              obtain ⟨qat, hqat⟩ : ∃ q : Int, q = ((u0_9 + xc132_4)) := ⟨_, rfl⟩
              refine v_inv H (o := 4) rfl rfl rfl rfl rfl rfl (by rfl) (C107_Br (D := puc 1134249362957509134822339095058552035738116 D) (N := puc 1134249362957509134822339095058552035738116 N) (HW_subc H oz_H8cls_7 oz_H8cls_16) ((mFu34 4 4 rfl).trans (pf8)) ((mFu34 4 0 rfl).trans (pf5)) ((mFu34 4 1 rfl).trans (pf6)) ((mFu34 4 2 rfl).trans (pf7)) ((mFu34 4 6 rfl).trans (pf13)) ((mFu34 13 2 rfl).trans (pf14)) ((mFu34 13 3 rfl).trans (pf15)) ((mFu34 13 4 rfl).trans (pf16)) ((mFu34 13 5 rfl).trans (pf17)) ((mFu34 13 6 rfl).trans (pf18)) ((mFu34 13 8 rfl).trans (pf20)) ((mFu34 13 7 rfl).trans (pf19)) ((mFu34 13 9 rfl).trans (pf21)) ((mFu34 4 9 rfl).trans (pf26)) (n1) (en1) (n8) (en8) (n5) (en5) (n6) (en6) (n7) (en7) (n14) (en14) (n15) (en15) (n16) (en16) (n17) (en17) (n18) (en18) (n20) (en20) (n19) (en19) (n21) (en21) (u4_3) ((((((hS_c189 4 3 rfl).trans (hS_c166 4 3 rfl)).trans ((show F30 4 3 = F_c132 4 3 from (eF30 4 3)))).trans (hS_c132 4 3 rfl)).trans (eu4_3))) (u13_1) (((mFu34 13 1 rfl).trans (eu13_1))) (w1) ((funext (mA_c189 1 rfl)).trans (ew1)) (A 5) ((funext (hA_c189 5 rfl)).trans ((funext (hA_c166 5 rfl)).trans (((show A30 5 = A_c132 5 from (eA30 5))).trans (funext (hA_c132 5 rfl))))) (A 6) ((funext (hA_c189 6 rfl)).trans ((funext (hA_c166 6 rfl)).trans (((show A30 6 = A_c132 6 from (eA30 6))).trans (funext (hA_c132 6 rfl))))) (w7) ((funext (hA_c189 7 rfl)).trans ((funext (hA_c166 7 rfl)).trans (((show A30 7 = A_c132 7 from (eA30 7))).trans ((funext (hA_c132 7 rfl)).trans (ew7))))) (show inr ((u0_9 + xc132_4)) from q_4154 h0 h1 jc132_11 jc132_12) (show inr (((u0_9 + xc132_4) + xc132_9)) from q_4153 b35 h0 h1 jc132_11 jc132_8) (show 0 ≤ ((u0_9 + xc132_4)) ∧ ((u0_9 + xc132_4)) ≤ 65536 ∧ 0 ≤ (((u0_9 + xc132_4) + xc132_9)) ∧ (((u0_9 + xc132_4) + xc132_9)) ≤ (n1) ∧ (n1) ≤ 65536 from q_4152 b35 h0 h1 jc132_11 jc132_12 jc132_8) (show (n8) = 256 ∧ (n5) = 256 ∧ (n6) = 256 ∧ (n7) = 2048 by omega) (show (n14) = (u13_1) ∧ (n15) = (u13_1) ∧ (n16) = (u13_1) ∧ (n17) = (u13_1) ∧ (n18) = (u13_1) ∧ (n20) = (n19) ∧ (n21) = (n19) ∧ 1 ≤ (u13_1) ∧ (u13_1) ≤ 64 ∧ (u13_1) = 12 ∧ (n19) = 64 by omega) (h12) (fun z68 σ68 F68ₚ A68ₚ Hₚ Oₚ hS68 hA68 y68_0_3 (ey68_0_3 : HID _) w68_3 ew68_3 w68_4 ew68_4 w68_5 ew68_5 pz68_0 pz68_1 pz68_2 pz68_3 pz68_4 pz68_5 pz68_6 pz68_7 => ⟨rfl, ?_⟩))
              refine v_backc (c := c) (s := s) H oz_H8cls_7 oz_H8cls_16 Hₚ Oₚ (fun F68 A68 H Oₚ eF68 eA68 => ?_)
              have O := OUT_trans O Oₚ
              -- Codes.hear
              have cF68 : SF oz_H8clsl_0 F F68 := SF_trans (cFu34) (SF_gluc (ι := oz_H8clsl_7) oz_H8cls_16 hS68 eF68 (by decide +kernel)) (any_sub (lₚ := [(4, 3), (13, 0), (13, 10), (13, 11), (13, 12), (26, 0), (26, 1), (26, 2)]) (by decide +kernel))
              have mF68 := SFm_of cF68 oz_H8cls_9
              have cA68 : SA oz_H8clsl_1 A A68 := SA_trans (cA_c189) (SA_gluc (ι := oz_H8clsl_7) oz_H8cls_16 hA68 eA68 (by decide +kernel)) (any_subA (lₚ := [5, 6, 7, 8, 14, 15, 16, 17, 18, 19, 20, 21]) (by decide +kernel))
              have mA68 := SAm_of cA68 oz_H8cls_10
              have r69 : (-2147483648 : Int) ≤ y68_0_3 ∧ y68_0_3 ≤ 2147483647 := rngE (show (-2147483648 : Int) ≤ F68 4 3 ∧ F68 4 3 ≤ 2147483647 from H.krg 4 3 (ltn len_V245_vd_oz_H8cls rfl)) (show F68 4 3 = y68_0_3 from ((eF68 4 3).trans ey68_0_3))
              (try clear hczo); (try clear hwzo)
              have hhr : z68 = -1 ∨ 0 ≤ z68 ∧ z68 ≤ (((u0_9 + xc132_4) + xc132_9)) ∧ 0 ≤ (y68_0_3) ∧ (y68_0_3) ≤ 11 := by omega
              have hds := pz68_5
              rw [← hqat] at hds
              rw [show qat + (xc132_9) = (((u0_9 + xc132_4) + xc132_9)) by omega] at hds
              have hCI2 := pz68_6
              have hCX2 := pz68_7
              try clear pz68_1
              try clear pz68_3
              refine Ew_of (pcₚ := 258) (fun _ => x_istore rfl) ?_
              refine Ew_of (pcₚ := 260) (fun _ => x_iload rfl rk_s) ?_
              refine w_ifge (t := 274) rfl rfl (show inr (z68) from pz68_0) (fun b70 => ?_) (fun b70 => ?_)
              · refine Ew_of (pcₚ := 275) (fun _ => x_aload_n rfl (rk_o (rk_o (lc189_0) rfl rfl) rfl rfl)) ?_
                refine v_g H (o := 0) (v := .ref (D 25)) rfl rfl rfl rfl rfl (vrf ((mF68 0 3 rfl).trans (pf25))) ?_
                refine Ew_of (pcₚ := 279) (fun _ => x_aload_n rfl (rk_o (rk_o (lc189_0) rfl rfl) rfl rfl)) ?_
                refine v_g H (o := 0) (v := .ref (D 4)) rfl rfl rfl rfl rfl (vrf ((mF68 0 1 rfl).trans (pf4))) ?_
                refine v_p H (o := 25) (z := ((D 4 : Nat) : Int)) (v := .ref (D 4)) rfl rfl rfl rfl rfl rfl (vrf rfl) rfl (show (-1 : Int) ≤ ((D 4 : Nat) : Int) by omega) (fun σ H Oₚ => ?_)
                have O := OUT_trans O Oₚ
                have cFu71 : SF oz_H8clsl_0 F (updF F68 25 0 ((D 4 : Nat) : Int)) := SF_upd (cF68) rfl
                have mFu71 := SFm_of cFu71 oz_H8cls_9
                refine Ew_of (pcₚ := 286) (fun _ => x_aload_n rfl (rk_o (rk_o (lc189_0) rfl rfl) rfl rfl)) ?_
                refine Ew_of (pcₚ := 288) (fun _ => x_iload rfl rk_s) ?_
                refine v_p H (o := 0) (z := z68) (v := I (z68)) rfl rfl rfl rfl rfl rfl rfl rfl (show (-2147483648 : Int) ≤ z68 ∧ z68 ≤ 2147483647 from q_4155 b70 pz68_0) (fun σ H Oₚ => ?_)
                have O := OUT_trans O Oₚ
                have cFu72 : SF oz_H8clsl_0 F (updF (updF F68 25 0 ((D 4 : Nat) : Int)) 0 9 (z68)) := SF_upd (cFu71) rfl
                have mFu72 := SFm_of cFu72 oz_H8cls_9
                have : ∃ C2 : Int × (Int → Int), LTF (ub8 ((w1))) ((u0_9)) ((u0_18)) (moF ((u0_15))) CC.1 CC.2 = LT3 (ub8 ((w1))) ((z68)) ((((u0_9 + xc132_4) + xc132_9))) ((xc132_3)) ((xc132_8)) C2.1 C2.2 ∧ 1 ≤ C2.1 ∧ SLB ((((D 4 : Nat) : Int))) ((((D 4 : Nat) : Int))) (CDO (C2) ((y68_0_3)) ((w68_5))) ∧ SLB ((((D 4 : Nat) : Int))) ((((D 23 : Nat) : Int))) (CDO (C2) ((u23_3)) ((w24))) := by first | exact ⟨(((y68_0_3)), (DSF (ub8 ((w1))) (qat) ((((u0_9 + xc132_4) + xc132_9)))).2.2.2), hR.trans (LT2_2 (by omega) hnot (by omega) (by omega) (by omega) (by omega) (DSA_1 hds (by omega)).1), CI_t1 (hCI2 (by omega)), .inr (CDO_of (hCI2 (by omega)) (hCX2 (by omega)) (DSA_1 hds (by omega)).2 rfl), .inl (by omega)⟩ | exact ⟨CC, hR.trans (LT2_k (by omega) hnot hk13 (by omega) (by omega) (by omega) (by omega)), NLC_y hNL (by omega), hC0_0, hC0_1⟩
                exact hc291  _ _ _ _  (rk_o (rk_o (lc189_0) rfl rfl) rfl rfl) (rk_o (rk_o (lc189_3) rfl rfl) rfl rfl) (rk_o (rk_o (lc189_8) rfl rfl) rfl rfl) (rk_o (rk_s) rfl rfl) H O (SF_upd (SF_upd (SF_trans (SF_refl) (SF_gluc (ι := oz_H8clsl_7) oz_H8cls_16 hS68 eF68 (by decide +kernel)) (any_sub (lₚ := [(4, 3), (13, 0), (13, 10), (13, 11), (13, 12), (26, 0), (26, 1), (26, 2)]) (by decide +kernel))) rfl) rfl) (SA_trans (SA_refl) (SA_gluc (ι := oz_H8clsl_7) oz_H8cls_16 hA68 eA68 (by decide +kernel)) (any_subA (lₚ := [5, 6, 7, 8, 14, 15, 16, 17, 18, 19, 20, 21]) (by decide +kernel)))   (z68) (rfl) (y68_0_3) (((eF68 4 3).trans ey68_0_3)) (((D 4 : Nat) : Int)) (rfl) (w68_5) ((eA68 7).trans ew68_5) (show 0 ≤ (z68) ∧ (z68) ≤ (((u0_9 + xc132_4) + xc132_9)) from q_4159 b70 h0 hhr jc132_11 jc132_8) (show (((D 4 : Nat) : Int)) ≠ -1 by omega) (show (((D 4 : Nat) : Int)) = -1 ∨ (((D 4 : Nat) : Int)) = (((D 4 : Nat) : Int)) ∨ (((D 4 : Nat) : Int)) = (((D 23 : Nat) : Int)) from q_4158) (show (((D 4 : Nat) : Int)) ≠ (((D 4 : Nat) : Int)) ∨ 0 ≤ (y68_0_3) ∧ (y68_0_3) ≤ 11 from q_4157 b70 hhr r69) (show (((D 4 : Nat) : Int)) ≠ (((D 23 : Nat) : Int)) ∨ 0 ≤ (u23_3) ∧ (u23_3) ≤ 11 from q_4156 hnek) (pz68_2) (h13) (show ∃ C2 : Int × (Int → Int), LTF (ub8 ((w1))) ((u0_9)) ((u0_18)) (moF ((u0_15))) CC.1 CC.2 = LT3 (ub8 ((w1))) ((z68)) ((((u0_9 + xc132_4) + xc132_9))) ((xc132_3)) ((xc132_8)) C2.1 C2.2 ∧ 1 ≤ C2.1 ∧ SLB ((((D 4 : Nat) : Int))) ((((D 4 : Nat) : Int))) (CDO (C2) ((y68_0_3)) ((w68_5))) ∧ SLB ((((D 4 : Nat) : Int))) ((((D 23 : Nat) : Int))) (CDO (C2) ((u23_3)) ((w24))) by assumption) (show (u0_21) = (u0_21) from jc189_1)
              · refine Ew_of (pcₚ := 264) (fun _ => x_aload_n rfl (rk_o (rk_o (lc189_0) rfl rfl) rfl rfl)) ?_
                refine Ew_of (pcₚ := 266) (fun _ => x_bipush (z := 12) rfl (by decide)) ?_
                refine Ew_of (pcₚ := 267) (fun _ => x_aload_n rfl (rk_o (rk_o (lc189_0) rfl rfl) rfl rfl)) ?_
                refine v_g H (o := 0) (v := I ((u0_9 + xc132_4))) rfl rfl rfl rfl rfl (congrArg (fun z : Int => I z) (((show F68 0 9 = (updF F_c189 0 9 ((u0_9 + xc132_4))) 0 9 from (eF68 0 9))) : F68 0 9 = (u0_9 + xc132_4))) ?_
                refine v_inv H (o := 0) rfl rfl rfl rfl rfl rfl (by rfl) (C232 (D := puc 0 D) (N := puc 0 N) (HW_subc H oz_H8cls_2 oz_H8cls_12) (u0_21) ((((((((show F68 0 21 = (updF F_c189 0 9 ((u0_9 + xc132_4))) 0 21 from (eF68 0 21))).trans (hS_c189 0 21 rfl)).trans (hS_c166 0 21 rfl)).trans ((show F30 0 21 = F_c132 0 21 from (eF30 0 21).trans (hS30 0 21 rfl)))).trans (hS_c132 0 21 rfl)).trans (eu0_21))) (show inr (12) from q_599) (show inr ((u0_9 + xc132_4)) from q_4154 h0 h1 jc132_11 jc132_12) (fun z73 σ73 F73ₚ A73ₚ Hₚ Oₚ hS73 hA73 y73_0_21 (ey73_0_21 : HID _) pz73_0 pz73_1 pz73_2 => ⟨rfl, ?_⟩))
                refine v_backc (c := c) (s := s) H oz_H8cls_2 oz_H8cls_12 Hₚ Oₚ (fun F73 A73 H Oₚ eF73 eA73 => ?_)
                have O := OUT_trans O Oₚ
                -- Unpacker.fail
                have cF73 : SF oz_H8clsl_0 F F73 := SF_trans (cF68) (SF_gluc (ι := oz_H8clsl_3) oz_H8cls_12 hS73 eF73 (by decide +kernel)) (any_sub (lₚ := [(0, 21)]) (by decide +kernel))
                have mF73 := SFm_of cF73 oz_H8cls_9
                have cA73 : SA oz_H8clsl_1 A A73 := SA_trans (cA68) (SA_gluc (ι := oz_H8clsl_3) oz_H8cls_12 hA73 eA73 (by decide +kernel)) (any_subA (lₚ := []) (by decide +kernel))
                have mA73 := SAm_of cA73 oz_H8cls_10
                have r74 : (-2147483648 : Int) ≤ y73_0_21 ∧ y73_0_21 ≤ 2147483647 := rngE (show (-2147483648 : Int) ≤ F73 0 21 ∧ F73 0 21 ≤ 2147483647 from H.krg 0 21 (ltn len_V245_vd_oz_H8cls rfl)) (show F73 0 21 = y73_0_21 from ((eF73 0 21).trans ey73_0_21))
                have hCL : CLA (LTF (ub8 ((w1))) ((u0_9)) ((u0_18)) (moF ((u0_15))) CC.1 CC.2) ((z73)) ((y73_0_21)) (((u0_9 + xc132_4))) ((u0_19)) ((u2_1)) ((w3)) := CLA_f (hR.trans (LT2_12 (by omega) hnot (by omega) (by omega) (p := qat) (by omega) (to := (((u0_9 + xc132_4) + xc132_9))) (by omega) (DSA_n1 (fun i => u8_rng _) (by omega) (by have h := hds; rw [show z68 = -1 by omega] at h; exact h)))) (by decide) (by omega) (by omega)
                try have nz_1 : ¬ (((z73) : Int) = 0) := by omega
                have hcf0 : IMP (((z73) : Int) = 0) (SLB ((u25_0)) ((((D 4 : Nat) : Int))) (CDO ((LTF (ub8 ((w1))) ((u0_9)) ((u0_18)) (moF ((u0_15))) CC.1 CC.2).2.2.2.2) ((y68_0_3)) ((w68_5)))) := fun q => absurd q (by first | exact nz_1 | omega)
                have hcf1 : IMP (((z73) : Int) = 0) (SLB ((u25_0)) ((((D 23 : Nat) : Int))) (CDO ((LTF (ub8 ((w1))) ((u0_9)) ((u0_18)) (moF ((u0_15))) CC.1 CC.2).2.2.2.2) ((u23_3)) ((w24)))) := fun q => absurd q (by first | exact nz_1 | omega)
                have hcf2 : IMP (((z73) : Int) = 0) (NLC ((u25_0)) ((LTF (ub8 ((w1))) ((u0_9)) ((u0_18)) (moF ((u0_15))) CC.1 CC.2).2.2.2.2)) := fun q => absurd q (by first | exact nz_1 | omega)
                exact w_ireturn rfl (k (z73) _ _ _ _ _ _ _ H O (SD_refl) (SD_refl) (cF73) (cA73) (((((((((show F73 2 0 = F68 2 0 from (eF73 2 0))).trans ((show F68 2 0 = (updF F_c189 0 9 ((u0_9 + xc132_4))) 2 0 from (eF68 2 0)))).trans (hS_c189 2 0 rfl)).trans (hS_c166 2 0 rfl)).trans ((show F30 2 0 = F_c132 2 0 from (eF30 2 0)))).trans (hS_c132 2 0 rfl))).trans (pf3)) (n3) (en3) ((u0_9 + xc132_4)) ((((show F73 0 9 = F68 0 9 from (eF73 0 9).trans (hS73 0 9 rfl))).trans ((show F68 0 9 = (updF F_c189 0 9 ((u0_9 + xc132_4))) 0 9 from (eF68 0 9))))) (u0_19) (((((((((show F73 0 19 = F68 0 19 from (eF73 0 19).trans (hS73 0 19 rfl))).trans ((show F68 0 19 = (updF F_c189 0 9 ((u0_9 + xc132_4))) 0 19 from (eF68 0 19)))).trans (hS_c189 0 19 rfl)).trans (hS_c166 0 19 rfl)).trans ((show F30 0 19 = F_c132 0 19 from (eF30 0 19).trans (hS30 0 19 rfl)))).trans (hS_c132 0 19 rfl)).trans (eu0_19))) (y73_0_21) (((eF73 0 21).trans ey73_0_21)) (u2_1) (((((((((show F73 2 1 = F68 2 1 from (eF73 2 1))).trans ((show F68 2 1 = (updF F_c189 0 9 ((u0_9 + xc132_4))) 2 1 from (eF68 2 1)))).trans (hS_c189 2 1 rfl)).trans (hS_c166 2 1 rfl)).trans ((show F30 2 1 = F_c132 2 1 from (eF30 2 1)))).trans (hS_c132 2 1 rfl)).trans (eu2_1))) (y68_0_3) ((((show F73 4 3 = F68 4 3 from (eF73 4 3))).trans ((eF68 4 3).trans ey68_0_3))) (u25_0) (((((((((show F73 25 0 = F68 25 0 from (eF73 25 0))).trans ((show F68 25 0 = (updF F_c189 0 9 ((u0_9 + xc132_4))) 25 0 from (eF68 25 0)))).trans (hS_c189 25 0 rfl)).trans (hS_c166 25 0 rfl)).trans ((show F30 25 0 = F_c132 25 0 from (eF30 25 0)))).trans (hS_c132 25 0 rfl)).trans (eu25_0))) (w3) (((show A73 3 = A68 3 from (eA73 3))).trans (((show A68 3 = A_c189 3 from (eA68 3))).trans ((funext (hA_c189 3 rfl)).trans ((funext (hA_c166 3 rfl)).trans (((show A30 3 = A_c132 3 from (eA30 3))).trans ((funext (hA_c132 3 rfl)).trans (ew3))))))) (w68_5) (((show A73 7 = A68 7 from (eA73 7))).trans ((eA68 7).trans ew68_5)) (show inr (z73) from pz73_0) (show 0 ≤ (z73) ∧ (z73) ≤ 17 from q_4166 pz73_1) (show 0 ≤ ((u0_9 + xc132_4)) ∧ ((u0_9 + xc132_4)) ≤ (u0_18) from q_4165 h0 jc132_11 jc132_12) (show 0 ≤ (u2_1) ∧ (u2_1) ≤ (n3) ∧ (n3) ≤ 65536 from h4) (show (z73) ≠ 0 ∨ 0 ≤ (u0_19) ∧ (u0_19) ≤ 131072 ∧ ((u0_19) ≤ (n3) ∨ (n3) = 65536) from q_4164 pz73_1) (show (z73) ≠ 0 ∨ (u25_0) = -1 ∨ (u25_0) = (((D 4 : Nat) : Int)) ∨ (u25_0) = (((D 23 : Nat) : Int)) from q_4163 pz73_1) (show (z73) ≠ 0 ∨ (u25_0) ≠ (((D 4 : Nat) : Int)) ∨ 0 ≤ (y68_0_3) ∧ (y68_0_3) ≤ 11 from q_4162 pz73_1) (show (z73) ≠ 0 ∨ (u25_0) ≠ (((D 23 : Nat) : Int)) ∨ 0 ≤ (u23_3) ∧ (u23_3) ≤ 11 from q_4162 pz73_1) (pz68_2) (h13) (hCL) (show IMP ((z73) = 0) (SLB ((u25_0)) ((((D 4 : Nat) : Int))) (CDO ((LTF (ub8 ((w1))) ((u0_9)) ((u0_18)) (moF ((u0_15))) CC.1 CC.2).2.2.2.2) ((y68_0_3)) ((w68_5)))) by assumption) (show IMP ((z73) = 0) (SLB ((u25_0)) ((((D 23 : Nat) : Int))) (CDO ((LTF (ub8 ((w1))) ((u0_9)) ((u0_18)) (moF ((u0_15))) CC.1 CC.2).2.2.2.2) ((u23_3)) ((w24)))) by assumption) (show IMP ((z73) = 0) (NLC ((u25_0)) ((LTF (ub8 ((w1))) ((u0_9)) ((u0_18)) (moF ((u0_15))) CC.1 CC.2).2.2.2.2)) by assumption) (show (z73) ≠ 0 ∨ (u0_19) ≤ moF ((u0_15)) from q_4161 pz73_1) (show (z73) ≠ 0 ∨ (y73_0_21) = (u0_21) from q_4160 pz73_1))
          · refine Ew_of (pcₚ := 215) (fun _ => x_aload_n rfl lc189_0) ?_
            refine Ew_of (pcₚ := 217) (fun _ => x_bipush (z := 10) rfl (by decide)) ?_
            refine Ew_of (pcₚ := 218) (fun _ => x_aload_n rfl lc189_0) ?_
            refine v_g H (o := 0) (v := I (u0_18)) rfl rfl rfl rfl rfl (congrArg (fun z : Int => I z) (((mFu34 0 18 rfl).trans (eu0_18)) : (updF F_c189 0 9 ((u0_9 + xc132_4))) 0 18 = u0_18)) ?_
            refine v_inv H (o := 0) rfl rfl rfl rfl rfl rfl (by rfl) (C232 (D := puc 0 D) (N := puc 0 N) (HW_subc H oz_H8cls_2 oz_H8cls_12) (u0_21) ((((((hS_c189 0 21 rfl).trans (hS_c166 0 21 rfl)).trans ((show F30 0 21 = F_c132 0 21 from (eF30 0 21).trans (hS30 0 21 rfl)))).trans (hS_c132 0 21 rfl)).trans (eu0_21))) (show inr (10) from q_746) (show inr (u0_18) from q_18 r4) (fun z75 σ75 F75ₚ A75ₚ Hₚ Oₚ hS75 hA75 y75_0_21 (ey75_0_21 : HID _) pz75_0 pz75_1 pz75_2 => ⟨rfl, ?_⟩))
            refine v_backc (c := c) (s := s) H oz_H8cls_2 oz_H8cls_12 Hₚ Oₚ (fun F75 A75 H Oₚ eF75 eA75 => ?_)
            have O := OUT_trans O Oₚ
            -- Unpacker.fail
            have cF75 : SF oz_H8clsl_0 F F75 := SF_trans (cFu34) (SF_gluc (ι := oz_H8clsl_3) oz_H8cls_12 hS75 eF75 (by decide +kernel)) (any_sub (lₚ := [(0, 21)]) (by decide +kernel))
            have mF75 := SFm_of cF75 oz_H8cls_9
            have cA75 : SA oz_H8clsl_1 A A75 := SA_trans (cA_c189) (SA_gluc (ι := oz_H8clsl_3) oz_H8cls_12 hA75 eA75 (by decide +kernel)) (any_subA (lₚ := []) (by decide +kernel))
            have mA75 := SAm_of cA75 oz_H8cls_10
            have r76 : (-2147483648 : Int) ≤ y75_0_21 ∧ y75_0_21 ≤ 2147483647 := rngE (show (-2147483648 : Int) ≤ F75 0 21 ∧ F75 0 21 ≤ 2147483647 from H.krg 0 21 (ltn len_V245_vd_oz_H8cls rfl)) (show F75 0 21 = y75_0_21 from ((eF75 0 21).trans ey75_0_21))
            have hCL : CLA (LTF (ub8 ((w1))) ((u0_9)) ((u0_18)) (moF ((u0_15))) CC.1 CC.2) ((z75)) ((y75_0_21)) (((u0_9 + xc132_4))) ((u0_19)) ((u2_1)) ((w3)) := CLA_f (hR.trans (LT2_10 (by omega) hnot hk13 (by omega))) (by decide) (by omega) (by omega)
            try have nz_2 : ¬ (((z75) : Int) = 0) := by omega
            have hcf0 : IMP (((z75) : Int) = 0) (SLB ((u25_0)) ((((D 4 : Nat) : Int))) (CDO ((LTF (ub8 ((w1))) ((u0_9)) ((u0_18)) (moF ((u0_15))) CC.1 CC.2).2.2.2.2) ((u4_3)) ((w7)))) := fun q => absurd q (by first | exact nz_2 | omega)
            have hcf1 : IMP (((z75) : Int) = 0) (SLB ((u25_0)) ((((D 23 : Nat) : Int))) (CDO ((LTF (ub8 ((w1))) ((u0_9)) ((u0_18)) (moF ((u0_15))) CC.1 CC.2).2.2.2.2) ((u23_3)) ((w24)))) := fun q => absurd q (by first | exact nz_2 | omega)
            have hcf2 : IMP (((z75) : Int) = 0) (NLC ((u25_0)) ((LTF (ub8 ((w1))) ((u0_9)) ((u0_18)) (moF ((u0_15))) CC.1 CC.2).2.2.2.2)) := fun q => absurd q (by first | exact nz_2 | omega)
            exact w_ireturn rfl (k (z75) _ _ _ _ _ _ _ H O (SD_refl) (SD_refl) (cF75) (cA75) ((((((((show F75 2 0 = (updF F_c189 0 9 ((u0_9 + xc132_4))) 2 0 from (eF75 2 0))).trans (hS_c189 2 0 rfl)).trans (hS_c166 2 0 rfl)).trans ((show F30 2 0 = F_c132 2 0 from (eF30 2 0)))).trans (hS_c132 2 0 rfl))).trans (pf3)) (n3) (en3) ((u0_9 + xc132_4)) (((show F75 0 9 = (updF F_c189 0 9 ((u0_9 + xc132_4))) 0 9 from (eF75 0 9).trans (hS75 0 9 rfl)))) (u0_19) ((((((((show F75 0 19 = (updF F_c189 0 9 ((u0_9 + xc132_4))) 0 19 from (eF75 0 19).trans (hS75 0 19 rfl))).trans (hS_c189 0 19 rfl)).trans (hS_c166 0 19 rfl)).trans ((show F30 0 19 = F_c132 0 19 from (eF30 0 19).trans (hS30 0 19 rfl)))).trans (hS_c132 0 19 rfl)).trans (eu0_19))) (y75_0_21) (((eF75 0 21).trans ey75_0_21)) (u2_1) ((((((((show F75 2 1 = (updF F_c189 0 9 ((u0_9 + xc132_4))) 2 1 from (eF75 2 1))).trans (hS_c189 2 1 rfl)).trans (hS_c166 2 1 rfl)).trans ((show F30 2 1 = F_c132 2 1 from (eF30 2 1)))).trans (hS_c132 2 1 rfl)).trans (eu2_1))) (u4_3) ((((((((show F75 4 3 = (updF F_c189 0 9 ((u0_9 + xc132_4))) 4 3 from (eF75 4 3))).trans (hS_c189 4 3 rfl)).trans (hS_c166 4 3 rfl)).trans ((show F30 4 3 = F_c132 4 3 from (eF30 4 3)))).trans (hS_c132 4 3 rfl)).trans (eu4_3))) (u25_0) ((((((((show F75 25 0 = (updF F_c189 0 9 ((u0_9 + xc132_4))) 25 0 from (eF75 25 0))).trans (hS_c189 25 0 rfl)).trans (hS_c166 25 0 rfl)).trans ((show F30 25 0 = F_c132 25 0 from (eF30 25 0)))).trans (hS_c132 25 0 rfl)).trans (eu25_0))) (w3) (((show A75 3 = A_c189 3 from (eA75 3))).trans ((funext (hA_c189 3 rfl)).trans ((funext (hA_c166 3 rfl)).trans (((show A30 3 = A_c132 3 from (eA30 3))).trans ((funext (hA_c132 3 rfl)).trans (ew3)))))) (w7) (((show A75 7 = A_c189 7 from (eA75 7))).trans ((funext (hA_c189 7 rfl)).trans ((funext (hA_c166 7 rfl)).trans (((show A30 7 = A_c132 7 from (eA30 7))).trans ((funext (hA_c132 7 rfl)).trans (ew7)))))) (show inr (z75) from pz75_0) (show 0 ≤ (z75) ∧ (z75) ≤ 17 from q_4022 pz75_1) (show 0 ≤ ((u0_9 + xc132_4)) ∧ ((u0_9 + xc132_4)) ≤ (u0_18) from q_4165 h0 jc132_11 jc132_12) (show 0 ≤ (u2_1) ∧ (u2_1) ≤ (n3) ∧ (n3) ≤ 65536 from h4) (show (z75) ≠ 0 ∨ 0 ≤ (u0_19) ∧ (u0_19) ≤ 131072 ∧ ((u0_19) ≤ (n3) ∨ (n3) = 65536) from q_4019 pz75_1) (show (z75) ≠ 0 ∨ (u25_0) = -1 ∨ (u25_0) = (((D 4 : Nat) : Int)) ∨ (u25_0) = (((D 23 : Nat) : Int)) from q_4168 pz75_1) (show (z75) ≠ 0 ∨ (u25_0) ≠ (((D 4 : Nat) : Int)) ∨ 0 ≤ (u4_3) ∧ (u4_3) ≤ 11 from q_4167 pz75_1) (show (z75) ≠ 0 ∨ (u25_0) ≠ (((D 23 : Nat) : Int)) ∨ 0 ≤ (u23_3) ∧ (u23_3) ≤ 11 from q_4167 pz75_1) (h12) (h13) (hCL) (show IMP ((z75) = 0) (SLB ((u25_0)) ((((D 4 : Nat) : Int))) (CDO ((LTF (ub8 ((w1))) ((u0_9)) ((u0_18)) (moF ((u0_15))) CC.1 CC.2).2.2.2.2) ((u4_3)) ((w7)))) by assumption) (show IMP ((z75) = 0) (SLB ((u25_0)) ((((D 23 : Nat) : Int))) (CDO ((LTF (ub8 ((w1))) ((u0_9)) ((u0_18)) (moF ((u0_15))) CC.1 CC.2).2.2.2.2) ((u23_3)) ((w24)))) by assumption) (show IMP ((z75) = 0) (NLC ((u25_0)) ((LTF (ub8 ((w1))) ((u0_9)) ((u0_18)) (moF ((u0_15))) CC.1 CC.2).2.2.2.2)) by assumption) (show (z75) ≠ 0 ∨ (u0_19) ≤ moF ((u0_15)) from q_4018 pz75_1) (show (z75) ≠ 0 ∨ (y75_0_21) = (u0_21) from q_4017 pz75_1))
        have hnot : ¬ (moF ((u0_15)) < (xc132_8) ∨ 0 < (xc132_3) ∧ (xc132_8) < 3 * (((xc132_8) + 3) / 4)) := by omega
        refine Ew_of (pcₚ := 167) (fun _ => x_iload_n rfl lc166_2) ?_
        refine Ew_of (pcₚ := 168) (fun _ => x_iconst rfl) ?_
        refine w_icmpne (t := 189) rfl rfl (show inr (xc132_2) from jc132_1) (show inr (3) from q_246) (fun b77 => ?_) (fun b77 => ?_)
        · exact hc189  _ _ _ _  (lc166_0) (lc166_2) (lc166_3) (lc166_4) (lc166_8) (lc166_9) H O (SF_refl) (SA_refl)     (show (xc132_2) = 2 ∨ (xc132_2) = 3 ∧ (u25_0) ≠ -1 by omega) (show (u0_21) = (u0_21) from q_303)
        · refine Ew_of (pcₚ := 172) (fun _ => x_aload_n rfl lc166_0) ?_
          refine v_g H (o := 0) (v := .ref (D 25)) rfl rfl rfl rfl rfl (vrf ((mF_c166 0 3 rfl).trans (pf25))) ?_
          rcases (show u25_0 = -1 ∨ u25_0 = ((D 4 : Nat) : Int) ∨ u25_0 = ((D 23 : Nat) : Int) from h9) with b78 | b78 | b78
          · refine v_g H (o := 25) (v := .null) rfl rfl rfl rfl rfl (vrn (show _ < 0 by rw [(((((hS_c166 25 0 rfl).trans ((show F30 25 0 = F_c132 25 0 from (eF30 25 0)))).trans (hS_c132 25 0 rfl)).trans (eu25_0))).trans b78]; decide)) ?_
            refine Ew_of (pcₚ := 181) (fun _ => x_ifnonnull_f rfl rfl) ?_
            refine Ew_of (pcₚ := 182) (fun _ => x_aload_n rfl lc166_0) ?_
            refine Ew_of (pcₚ := 184) (fun _ => x_bipush (z := 13) rfl (by decide)) ?_
            refine Ew_of (pcₚ := 185) (fun _ => x_iload_n rfl lc166_1) ?_
            refine v_inv H (o := 0) rfl rfl rfl rfl rfl rfl (by rfl) (C232 (D := puc 0 D) (N := puc 0 N) (HW_subc H oz_H8cls_2 oz_H8cls_12) (u0_21) (((((hS_c166 0 21 rfl).trans ((show F30 0 21 = F_c132 0 21 from (eF30 0 21).trans (hS30 0 21 rfl)))).trans (hS_c132 0 21 rfl)).trans (eu0_21))) (show inr (13) from q_350) (show inr (xc132_1) from jc132_0) (fun z79 σ79 F79ₚ A79ₚ Hₚ Oₚ hS79 hA79 y79_0_21 (ey79_0_21 : HID _) pz79_0 pz79_1 pz79_2 => ⟨rfl, ?_⟩))
            refine v_backc (c := c) (s := s) H oz_H8cls_2 oz_H8cls_12 Hₚ Oₚ (fun F79 A79 H Oₚ eF79 eA79 => ?_)
            have O := OUT_trans O Oₚ
            -- Unpacker.fail
            have cF79 : SF oz_H8clsl_0 F F79 := SF_trans (cF_c166) (SF_gluc (ι := oz_H8clsl_3) oz_H8cls_12 hS79 eF79 (by decide +kernel)) (any_sub (lₚ := [(0, 21)]) (by decide +kernel))
            have mF79 := SFm_of cF79 oz_H8cls_9
            have cA79 : SA oz_H8clsl_1 A A79 := SA_trans (cA_c166) (SA_gluc (ι := oz_H8clsl_3) oz_H8cls_12 hA79 eA79 (by decide +kernel)) (any_subA (lₚ := []) (by decide +kernel))
            have mA79 := SAm_of cA79 oz_H8cls_10
            have r80 : (-2147483648 : Int) ≤ y79_0_21 ∧ y79_0_21 ≤ 2147483647 := rngE (show (-2147483648 : Int) ≤ F79 0 21 ∧ F79 0 21 ≤ 2147483647 from H.krg 0 21 (ltn len_V245_vd_oz_H8cls rfl)) (show F79 0 21 = y79_0_21 from ((eF79 0 21).trans ey79_0_21))
            have hCL : CLA (LTF (ub8 ((w1))) ((u0_9)) ((u0_18)) (moF ((u0_15))) CC.1 CC.2) ((z79)) ((y79_0_21)) ((u0_9)) ((u0_19)) ((u2_1)) ((w3)) := CLA_f (hR.trans (LT2_13 (by omega) hnot ⟨by omega, NLC_n hNL (by omega)⟩)) (by decide) (by omega) (by omega)
            try have nz_3 : ¬ (((z79) : Int) = 0) := by omega
            have hcf0 : IMP (((z79) : Int) = 0) (SLB ((u25_0)) ((((D 4 : Nat) : Int))) (CDO ((LTF (ub8 ((w1))) ((u0_9)) ((u0_18)) (moF ((u0_15))) CC.1 CC.2).2.2.2.2) ((u4_3)) ((w7)))) := fun q => absurd q (by first | exact nz_3 | omega)
            have hcf1 : IMP (((z79) : Int) = 0) (SLB ((u25_0)) ((((D 23 : Nat) : Int))) (CDO ((LTF (ub8 ((w1))) ((u0_9)) ((u0_18)) (moF ((u0_15))) CC.1 CC.2).2.2.2.2) ((u23_3)) ((w24)))) := fun q => absurd q (by first | exact nz_3 | omega)
            have hcf2 : IMP (((z79) : Int) = 0) (NLC ((u25_0)) ((LTF (ub8 ((w1))) ((u0_9)) ((u0_18)) (moF ((u0_15))) CC.1 CC.2).2.2.2.2)) := fun q => absurd q (by first | exact nz_3 | omega)
            exact w_ireturn rfl (k (z79) _ _ _ _ _ _ _ H O (SD_refl) (SD_refl) (cF79) (cA79) (((((((show F79 2 0 = F_c166 2 0 from (eF79 2 0))).trans (hS_c166 2 0 rfl)).trans ((show F30 2 0 = F_c132 2 0 from (eF30 2 0)))).trans (hS_c132 2 0 rfl))).trans (pf3)) (n3) (en3) (u0_9) (((((((show F79 0 9 = F_c166 0 9 from (eF79 0 9).trans (hS79 0 9 rfl))).trans (hS_c166 0 9 rfl)).trans ((show F30 0 9 = F_c132 0 9 from (eF30 0 9).trans (hS30 0 9 rfl)))).trans (hS_c132 0 9 rfl)).trans (eu0_9))) (u0_19) (((((((show F79 0 19 = F_c166 0 19 from (eF79 0 19).trans (hS79 0 19 rfl))).trans (hS_c166 0 19 rfl)).trans ((show F30 0 19 = F_c132 0 19 from (eF30 0 19).trans (hS30 0 19 rfl)))).trans (hS_c132 0 19 rfl)).trans (eu0_19))) (y79_0_21) (((eF79 0 21).trans ey79_0_21)) (u2_1) (((((((show F79 2 1 = F_c166 2 1 from (eF79 2 1))).trans (hS_c166 2 1 rfl)).trans ((show F30 2 1 = F_c132 2 1 from (eF30 2 1)))).trans (hS_c132 2 1 rfl)).trans (eu2_1))) (u4_3) (((((((show F79 4 3 = F_c166 4 3 from (eF79 4 3))).trans (hS_c166 4 3 rfl)).trans ((show F30 4 3 = F_c132 4 3 from (eF30 4 3)))).trans (hS_c132 4 3 rfl)).trans (eu4_3))) (u25_0) (((((((show F79 25 0 = F_c166 25 0 from (eF79 25 0))).trans (hS_c166 25 0 rfl)).trans ((show F30 25 0 = F_c132 25 0 from (eF30 25 0)))).trans (hS_c132 25 0 rfl)).trans (eu25_0))) (w3) (((show A79 3 = A_c166 3 from (eA79 3))).trans ((funext (hA_c166 3 rfl)).trans (((show A30 3 = A_c132 3 from (eA30 3))).trans ((funext (hA_c132 3 rfl)).trans (ew3))))) (w7) (((show A79 7 = A_c166 7 from (eA79 7))).trans ((funext (hA_c166 7 rfl)).trans (((show A30 7 = A_c132 7 from (eA30 7))).trans ((funext (hA_c132 7 rfl)).trans (ew7))))) (show inr (z79) from pz79_0) (show 0 ≤ (z79) ∧ (z79) ≤ 17 from q_4174 pz79_1) (show 0 ≤ (u0_9) ∧ (u0_9) ≤ (u0_18) from q_4136 h0 h1) (show 0 ≤ (u2_1) ∧ (u2_1) ≤ (n3) ∧ (n3) ≤ 65536 from h4) (show (z79) ≠ 0 ∨ 0 ≤ (u0_19) ∧ (u0_19) ≤ 131072 ∧ ((u0_19) ≤ (n3) ∨ (n3) = 65536) from q_4173 pz79_1) (show (z79) ≠ 0 ∨ (u25_0) = -1 ∨ (u25_0) = (((D 4 : Nat) : Int)) ∨ (u25_0) = (((D 23 : Nat) : Int)) from q_4172 pz79_1) (show (z79) ≠ 0 ∨ (u25_0) ≠ (((D 4 : Nat) : Int)) ∨ 0 ≤ (u4_3) ∧ (u4_3) ≤ 11 from q_4171 pz79_1) (show (z79) ≠ 0 ∨ (u25_0) ≠ (((D 23 : Nat) : Int)) ∨ 0 ≤ (u23_3) ∧ (u23_3) ≤ 11 from q_4171 pz79_1) (h12) (h13) (hCL) (show IMP ((z79) = 0) (SLB ((u25_0)) ((((D 4 : Nat) : Int))) (CDO ((LTF (ub8 ((w1))) ((u0_9)) ((u0_18)) (moF ((u0_15))) CC.1 CC.2).2.2.2.2) ((u4_3)) ((w7)))) by assumption) (show IMP ((z79) = 0) (SLB ((u25_0)) ((((D 23 : Nat) : Int))) (CDO ((LTF (ub8 ((w1))) ((u0_9)) ((u0_18)) (moF ((u0_15))) CC.1 CC.2).2.2.2.2) ((u23_3)) ((w24)))) by assumption) (show IMP ((z79) = 0) (NLC ((u25_0)) ((LTF (ub8 ((w1))) ((u0_9)) ((u0_18)) (moF ((u0_15))) CC.1 CC.2).2.2.2.2)) by assumption) (show (z79) ≠ 0 ∨ (u0_19) ≤ moF ((u0_15)) from q_4170 pz79_1) (show (z79) ≠ 0 ∨ (y79_0_21) = (u0_21) from q_4169 pz79_1))
          · refine v_g H (o := 25) (v := .ref (D 4)) rfl rfl rfl rfl rfl (vrf ((((((hS_c166 25 0 rfl).trans ((show F30 25 0 = F_c132 25 0 from (eF30 25 0)))).trans (hS_c132 25 0 rfl)).trans (eu25_0))).trans b78)) ?_
            refine Ew_of (pcₚ := 189) (fun _ => x_ifnonnull_t rfl rfl) ?_
            exact hc189  _ _ _ _  (lc166_0) (lc166_2) (lc166_3) (lc166_4) (lc166_8) (lc166_9) H O (SF_refl) (SA_refl)     (show (xc132_2) = 2 ∨ (xc132_2) = 3 ∧ (u25_0) ≠ -1 by omega) (show (u0_21) = (u0_21) from q_303)
          · refine v_g H (o := 25) (v := .ref (D 23)) rfl rfl rfl rfl rfl (vrf ((((((hS_c166 25 0 rfl).trans ((show F30 25 0 = F_c132 25 0 from (eF30 25 0)))).trans (hS_c132 25 0 rfl)).trans (eu25_0))).trans b78)) ?_
            refine Ew_of (pcₚ := 189) (fun _ => x_ifnonnull_t rfl rfl) ?_
            exact hc189  _ _ _ _  (lc166_0) (lc166_2) (lc166_3) (lc166_4) (lc166_8) (lc166_9) H O (SF_refl) (SA_refl)     (show (xc132_2) = 2 ∨ (xc132_2) = 3 ∧ (u25_0) ≠ -1 by omega) (show (u0_21) = (u0_21) from q_303)
      refine w_ifle (t := 166) rfl rfl (show inr (xc132_3) from jc132_2) (fun b81 => ?_) (fun b81 => ?_)
      · exact hc166  _ _ _ _  (lc132_0) (lc132_1) (lc132_2) (lc132_3) (lc132_4) (lc132_8) (lc132_9) H O (SF_refl) (SA_refl)     (show ((xc132_3) ≤ (0)) ∨ ((xc132_3) > (0) ∧ (xc132_8) ≥ ((3 * ((xc132_8 + 3) / 4)))) from q_4175 b81)
      · refine Ew_of (pcₚ := 147) (fun _ => x_iload rfl lc132_8) ?_
        refine Ew_of (pcₚ := 148) (fun _ => x_iconst rfl) ?_
        refine Ew_of (pcₚ := 150) (fun _ => x_iload rfl lc132_8) ?_
        refine Ew_of (pcₚ := 151) (fun _ => x_iconst rfl) ?_
        refine w_iadd rfl ?_
        refine Ew_of (pcₚ := 153) (fun _ => x_iconst rfl) ?_
        refine w_idiv rfl (show inr ((xc132_8 + 3)) ∧ 0 ≤ (xc132_8 + 3) from q_4176 jc132_7) (show inr (4) ∧ 0 < 4 from q_1074) ?_
        refine w_imul rfl ?_
        refine w_icmpge (t := 166) rfl rfl (show inr (xc132_8) from jc132_4) (show inr ((3 * ((xc132_8 + 3) / 4))) from q_4177 jc132_7) (fun b82 => ?_) (fun b82 => ?_)
        · exact hc166  _ _ _ _  (lc132_0) (lc132_1) (lc132_2) (lc132_3) (lc132_4) (lc132_8) (lc132_9) H O (SF_refl) (SA_refl)     (show ((xc132_3) ≤ (0)) ∨ ((xc132_3) > (0) ∧ (xc132_8) ≥ ((3 * ((xc132_8 + 3) / 4)))) from q_4178 b81 b82)
        · refine Ew_of (pcₚ := 159) (fun _ => x_aload_n rfl lc132_0) ?_
          refine Ew_of (pcₚ := 161) (fun _ => x_bipush (z := 11) rfl (by decide)) ?_
          refine Ew_of (pcₚ := 162) (fun _ => x_iload_n rfl lc132_1) ?_
          refine v_inv H (o := 0) rfl rfl rfl rfl rfl rfl (by rfl) (C232 (D := puc 0 D) (N := puc 0 N) (HW_subc H oz_H8cls_2 oz_H8cls_12) (u0_21) (((((show F30 0 21 = F_c132 0 21 from (eF30 0 21).trans (hS30 0 21 rfl))).trans (hS_c132 0 21 rfl)).trans (eu0_21))) (show inr (11) from q_326) (show inr (xc132_1) from jc132_0) (fun z83 σ83 F83ₚ A83ₚ Hₚ Oₚ hS83 hA83 y83_0_21 (ey83_0_21 : HID _) pz83_0 pz83_1 pz83_2 => ⟨rfl, ?_⟩))
          refine v_backc (c := c) (s := s) H oz_H8cls_2 oz_H8cls_12 Hₚ Oₚ (fun F83 A83 H Oₚ eF83 eA83 => ?_)
          have O := OUT_trans O Oₚ
          -- Unpacker.fail
          have cF83 : SF oz_H8clsl_0 F F83 := SF_trans (cF30) (SF_gluc (ι := oz_H8clsl_3) oz_H8cls_12 hS83 eF83 (by decide +kernel)) (any_sub (lₚ := [(0, 21)]) (by decide +kernel))
          have mF83 := SFm_of cF83 oz_H8cls_9
          have cA83 : SA oz_H8clsl_1 A A83 := SA_trans (cA30) (SA_gluc (ι := oz_H8clsl_3) oz_H8cls_12 hA83 eA83 (by decide +kernel)) (any_subA (lₚ := []) (by decide +kernel))
          have mA83 := SAm_of cA83 oz_H8cls_10
          have r84 : (-2147483648 : Int) ≤ y83_0_21 ∧ y83_0_21 ≤ 2147483647 := rngE (show (-2147483648 : Int) ≤ F83 0 21 ∧ F83 0 21 ≤ 2147483647 from H.krg 0 21 (ltn len_V245_vd_oz_H8cls rfl)) (show F83 0 21 = y83_0_21 from ((eF83 0 21).trans ey83_0_21))
          have hCL : CLA (LTF (ub8 ((w1))) ((u0_9)) ((u0_18)) (moF ((u0_15))) CC.1 CC.2) ((z83)) ((y83_0_21)) ((u0_9)) ((u0_19)) ((u2_1)) ((w3)) := CLA_f (hR.trans (LT2_11 (by omega) (by omega))) (by decide) (by omega) (by omega)
          try have nz_4 : ¬ (((z83) : Int) = 0) := by omega
          have hcf0 : IMP (((z83) : Int) = 0) (SLB ((u25_0)) ((((D 4 : Nat) : Int))) (CDO ((LTF (ub8 ((w1))) ((u0_9)) ((u0_18)) (moF ((u0_15))) CC.1 CC.2).2.2.2.2) ((u4_3)) ((w7)))) := fun q => absurd q (by first | exact nz_4 | omega)
          have hcf1 : IMP (((z83) : Int) = 0) (SLB ((u25_0)) ((((D 23 : Nat) : Int))) (CDO ((LTF (ub8 ((w1))) ((u0_9)) ((u0_18)) (moF ((u0_15))) CC.1 CC.2).2.2.2.2) ((u23_3)) ((w24)))) := fun q => absurd q (by first | exact nz_4 | omega)
          have hcf2 : IMP (((z83) : Int) = 0) (NLC ((u25_0)) ((LTF (ub8 ((w1))) ((u0_9)) ((u0_18)) (moF ((u0_15))) CC.1 CC.2).2.2.2.2)) := fun q => absurd q (by first | exact nz_4 | omega)
          exact w_ireturn rfl (k (z83) _ _ _ _ _ _ _ H O (SD_refl) (SD_refl) (cF83) (cA83) ((((((show F83 2 0 = F30 2 0 from (eF83 2 0))).trans ((show F30 2 0 = F_c132 2 0 from (eF30 2 0)))).trans (hS_c132 2 0 rfl))).trans (pf3)) (n3) (en3) (u0_9) ((((((show F83 0 9 = F30 0 9 from (eF83 0 9).trans (hS83 0 9 rfl))).trans ((show F30 0 9 = F_c132 0 9 from (eF30 0 9).trans (hS30 0 9 rfl)))).trans (hS_c132 0 9 rfl)).trans (eu0_9))) (u0_19) ((((((show F83 0 19 = F30 0 19 from (eF83 0 19).trans (hS83 0 19 rfl))).trans ((show F30 0 19 = F_c132 0 19 from (eF30 0 19).trans (hS30 0 19 rfl)))).trans (hS_c132 0 19 rfl)).trans (eu0_19))) (y83_0_21) (((eF83 0 21).trans ey83_0_21)) (u2_1) ((((((show F83 2 1 = F30 2 1 from (eF83 2 1))).trans ((show F30 2 1 = F_c132 2 1 from (eF30 2 1)))).trans (hS_c132 2 1 rfl)).trans (eu2_1))) (u4_3) ((((((show F83 4 3 = F30 4 3 from (eF83 4 3))).trans ((show F30 4 3 = F_c132 4 3 from (eF30 4 3)))).trans (hS_c132 4 3 rfl)).trans (eu4_3))) (u25_0) ((((((show F83 25 0 = F30 25 0 from (eF83 25 0))).trans ((show F30 25 0 = F_c132 25 0 from (eF30 25 0)))).trans (hS_c132 25 0 rfl)).trans (eu25_0))) (w3) (((show A83 3 = A30 3 from (eA83 3))).trans (((show A30 3 = A_c132 3 from (eA30 3))).trans ((funext (hA_c132 3 rfl)).trans (ew3)))) (w7) (((show A83 7 = A30 7 from (eA83 7))).trans (((show A30 7 = A_c132 7 from (eA30 7))).trans ((funext (hA_c132 7 rfl)).trans (ew7)))) (show inr (z83) from pz83_0) (show 0 ≤ (z83) ∧ (z83) ≤ 17 from q_4032 pz83_1) (show 0 ≤ (u0_9) ∧ (u0_9) ≤ (u0_18) from q_4136 h0 h1) (show 0 ≤ (u2_1) ∧ (u2_1) ≤ (n3) ∧ (n3) ≤ 65536 from h4) (show (z83) ≠ 0 ∨ 0 ≤ (u0_19) ∧ (u0_19) ≤ 131072 ∧ ((u0_19) ≤ (n3) ∨ (n3) = 65536) from q_4031 pz83_1) (show (z83) ≠ 0 ∨ (u25_0) = -1 ∨ (u25_0) = (((D 4 : Nat) : Int)) ∨ (u25_0) = (((D 23 : Nat) : Int)) from q_4135 pz83_1) (show (z83) ≠ 0 ∨ (u25_0) ≠ (((D 4 : Nat) : Int)) ∨ 0 ≤ (u4_3) ∧ (u4_3) ≤ 11 from q_4134 pz83_1) (show (z83) ≠ 0 ∨ (u25_0) ≠ (((D 23 : Nat) : Int)) ∨ 0 ≤ (u23_3) ∧ (u23_3) ≤ 11 from q_4134 pz83_1) (h12) (h13) (hCL) (show IMP ((z83) = 0) (SLB ((u25_0)) ((((D 4 : Nat) : Int))) (CDO ((LTF (ub8 ((w1))) ((u0_9)) ((u0_18)) (moF ((u0_15))) CC.1 CC.2).2.2.2.2) ((u4_3)) ((w7)))) by assumption) (show IMP ((z83) = 0) (SLB ((u25_0)) ((((D 23 : Nat) : Int))) (CDO ((LTF (ub8 ((w1))) ((u0_9)) ((u0_18)) (moF ((u0_15))) CC.1 CC.2).2.2.2.2) ((u23_3)) ((w24)))) by assumption) (show IMP ((z83) = 0) (NLC ((u25_0)) ((LTF (ub8 ((w1))) ((u0_9)) ((u0_18)) (moF ((u0_15))) CC.1 CC.2).2.2.2.2)) by assumption) (show (z83) ≠ 0 ∨ (u0_19) ≤ moF ((u0_15)) from q_4030 pz83_1) (show (z83) ≠ 0 ∨ (y83_0_21) = (u0_21) from q_4029 pz83_1))
  have hnek : (((D 4 : Nat) : Int)) ≠ (((D 23 : Nat) : Int)) := dneZ H 4 23 rfl rfl rfl
  have hC0_0 : SLB ((u25_0)) ((((D 4 : Nat) : Int))) (CDO (CC) ((u4_3)) ((w7))) := h14
  have hC0_1 : SLB ((u25_0)) ((((D 23 : Nat) : Int))) (CDO (CC) ((u23_3)) ((w24))) := h15
  have hNL : NLC ((u25_0)) (CC) := h16
  refine Ew_of (pcₚ := 1) (fun _ => x_aload_n rfl rfl) ?_
  refine v_g H (o := 0) (v := I (u0_9)) rfl rfl rfl rfl rfl (congrArg (fun z : Int => I z) ((eu0_9) : F 0 9 = u0_9)) ?_
  refine Ew_of (pcₚ := 5) (fun _ => x_istore_n rfl) ?_
  refine Ew_of (pcₚ := 6) (fun _ => x_aload_n rfl (rk_o (rfl) rfl rfl)) ?_
  refine v_g H (o := 0) (v := .ref (D 1)) rfl rfl rfl rfl rfl (vrf (pf1)) ?_
  refine Ew_of (pcₚ := 10) (fun _ => x_aload_n rfl (rk_o (rfl) rfl rfl)) ?_
  refine v_g H (o := 0) (v := I (u0_9)) rfl rfl rfl rfl rfl (congrArg (fun z : Int => I z) ((eu0_9) : F 0 9 = u0_9)) ?_
  refine v_lB H (o := 1) rfl rfl rfl rfl (n := n1) (en1) (show 0 ≤ u0_9 ∧ u0_9 < n1 from q_4179 h0 h1) (fun v85 ev85 qv85 => ?_)
  have ev85 : (w1) (u0_9) = v85 := (congrFun (ew1) (u0_9)).symm.trans ev85
  have hbr : ∀ i, (-128 : Int) ≤ (w1) i ∧ (w1) i ≤ 127 := fun i => by have h1 : (-128 : Int) ≤ A 1 i ∧ A 1 i ≤ 127 := H.arg 1 i (by decide) rfl; rw [show A 1 = w1 from ew1] at h1; exact h1
  have hby := hbr ((u0_9))
  have hbe := ev85
  have ha3 := andI_3 ((v85))
  obtain ⟨qb, hqb⟩ : ∃ q : Int, q = (v85) := ⟨_, rfl⟩
  have hIb : (ub8 ((w1))) ((u0_9)) = qb % 256 := by show u8 _ = _; rw [hbe, hqb]; rfl
  refine Ew_of (pcₚ := 15) (fun _ => x_iconst rfl) ?_
  refine w_iandE rfl (show inr (v85) from q_97 qv85) (show inr (3) from q_246) (fun z86 gz86 gaz86 gbz86 gez86 => ?_)
  have hkk : ((z86) : Int) = 2 ∨ ((z86) : Int) = 3 := by have w := and23 hby (by assumption); rw [hbe] at w; omega
  refine Ew_of (pcₚ := 17) (fun _ => x_istore_n rfl) ?_
  refine Ew_of (pcₚ := 18) (fun _ => x_aload_n rfl (rk_o (rk_o (rfl) rfl rfl) rfl rfl)) ?_
  refine v_g H (o := 0) (v := .ref (D 1)) rfl rfl rfl rfl rfl (vrf (pf1)) ?_
  refine Ew_of (pcₚ := 22) (fun _ => x_aload_n rfl (rk_o (rk_o (rfl) rfl rfl) rfl rfl)) ?_
  refine v_g H (o := 0) (v := I (u0_9)) rfl rfl rfl rfl rfl (congrArg (fun z : Int => I z) ((eu0_9) : F 0 9 = u0_9)) ?_
  refine v_lB H (o := 1) rfl rfl rfl rfl (n := n1) (en1) (show 0 ≤ u0_9 ∧ u0_9 < n1 from q_4179 h0 h1) (fun v87 ev87 qv87 => ?_)
  have ev87 : (w1) (u0_9) = v87 := (congrFun (ew1) (u0_9)).symm.trans ev87
  have hbf := ev87
  refine Ew_of (pcₚ := 27) (fun _ => x_iconst rfl) ?_
  refine w_ishrK 2 4 (by decide) (by decide) rfl (show inr (v87) from q_97 qv87) (fun z88 gz88 dz88 => ?_)
  have ha4 := andI_3 ((z88))
  refine Ew_of (pcₚ := 29) (fun _ => x_iconst rfl) ?_
  refine w_iandE rfl (show inr (z88) from gz88) (show inr (3) from q_246) (fun z89 gz89 gaz89 gbz89 gez89 => ?_)
  refine Ew_of (pcₚ := 31) (fun _ => x_istore_n rfl) ?_
  obtain ⟨qx, hqx⟩ : ∃ q : Int, (ub8 ((w1))) ((u0_9)) = q := ⟨_, rfl⟩
  have hk2 : (z86) = qx % 4 := by omega
  have hl3_ : (z89) = qx / 4 % 4 := by omega
  refine Ew_of (pcₚ := 32) (fun _ => x_iload_n rfl rk_s) ?_
  refine Ew_of (pcₚ := 33) (fun _ => x_iconst rfl) ?_
  have hc43 : ∀ (tc43_0 : Int), ∀ (ls : rO) (σ : rS) (F_c43 : hF) (A_c43 : hA) , rlook ls 0 = some (.ref (D 0)) → rlook ls 1 = some (I (u0_9)) → rlook ls 2 = some (I (z86)) → rlook ls 3 = some (I (z89)) → HW V245_vd σ D N F_c43 A_c43 → OUT (V245_vd).length D N σE c s D N σ c s → SF [] F F_c43 → SA [] A A_c43 → (inr (tc43_0)) → (((z89) ≥ (2) ∧ (tc43_0) = ((z89 + 2))) ∨ ((z89) < (2) ∧ (tc43_0) = (3))) → Ew 245 (d + 5) 43 ls [I (tc43_0)] σ c s Q := by
   as_aux_lemma =>
    intro tc43_0 ls σ F_c43 A_c43  lc43_0 lc43_1 lc43_2 lc43_3 H O hS_c43 hA_c43     jc43_0 jc43_1
    have cF_c43 : SF oz_H8clsl_0 F F_c43 := SF_trans (SF_refl) hS_c43 (any_sub (by decide +kernel))
    have mF_c43 := SFm_of cF_c43 oz_H8cls_9
    have cA_c43 : SA oz_H8clsl_1 A A_c43 := SA_trans (SA_refl) hA_c43 (any_subA (by decide +kernel))
    have mA_c43 := SAm_of cA_c43 oz_H8cls_10
    refine Ew_of (pcₚ := 45) (fun _ => x_istore rfl) ?_
    have hb4 : (tc43_0) = lcB ((z89)) := by have := lcB_eq ((z89)); omega
    refine Ew_of (pcₚ := 46) (fun _ => x_aload_n rfl (rk_o (lc43_0) rfl rfl)) ?_
    refine v_g H (o := 0) (v := I (u0_18)) rfl rfl rfl rfl rfl (congrArg (fun z : Int => I z) (((mF_c43 0 18 rfl).trans (eu0_18)) : F_c43 0 18 = u0_18)) ?_
    refine Ew_of (pcₚ := 50) (fun _ => x_aload_n rfl (rk_o (lc43_0) rfl rfl)) ?_
    refine v_g H (o := 0) (v := I (u0_9)) rfl rfl rfl rfl rfl (congrArg (fun z : Int => I z) (((hS_c43 0 9 rfl).trans (eu0_9)) : F_c43 0 9 = u0_9)) ?_
    refine w_isub rfl ?_
    refine Ew_of (pcₚ := 56) (fun _ => x_iload rfl rk_s) ?_
    refine w_icmpge (t := 70) rfl rfl (show inr ((u0_18 - u0_9)) from q_4180 h0 h1) (show inr (tc43_0) from jc43_0) (fun b90 => ?_) (fun b90 => ?_)
    · refine Ew_of (pcₚ := 71) (fun _ => x_iload_n rfl (rk_o (lc43_3) rfl rfl)) ?_
      refine Ew_of (pcₚ := 72) (fun _ => x_iconst rfl) ?_
      have hc86 : ∀ (tc86_0 : Int), ∀ (ls : rO) (σ : rS) (F_c86 : hF) (A_c86 : hA) , rlook ls 0 = some (.ref (D 0)) → rlook ls 1 = some (I (u0_9)) → rlook ls 2 = some (I (z86)) → rlook ls 3 = some (I (z89)) → rlook ls 4 = some (I (tc43_0)) → HW V245_vd σ D N F_c86 A_c86 → OUT (V245_vd).length D N σE c s D N σ c s → SF [] F_c43 F_c86 → SA [] A_c43 A_c86 → (inr (tc86_0)) → (((z89) ≥ (2) ∧ (tc86_0) = (((4 * z89) + 6))) ∨ ((z89) < (2) ∧ (tc86_0) = (10))) → Ew 245 (d + 5) 86 ls [I (tc86_0)] σ c s Q := by
       as_aux_lemma =>
        intro tc86_0 ls σ F_c86 A_c86  lc86_0 lc86_1 lc86_2 lc86_3 lc86_4 H O hS_c86 hA_c86     jc86_0 jc86_1
        have cF_c86 : SF oz_H8clsl_0 F F_c86 := SF_trans (cF_c43) hS_c86 (any_sub (by decide +kernel))
        have mF_c86 := SFm_of cF_c86 oz_H8cls_9
        have cA_c86 : SA oz_H8clsl_1 A A_c86 := SA_trans (cA_c43) hA_c86 (any_subA (by decide +kernel))
        have mA_c86 := SAm_of cA_c86 oz_H8cls_10
        refine Ew_of (pcₚ := 88) (fun _ => x_istore rfl) ?_
        have hpw : 1 ≤ p2 ((tc86_0)) ∧ p2 ((tc86_0)) ≤ 262144 := ⟨p2_pos _, by have := p2_mono (x := (tc86_0)) (y := 18) (by omega); rw [show p2 18 = 262144 from by decide] at this; exact this⟩
        have hw5 : (tc86_0) = lcW ((z89)) := by have := lcW_eq ((z89)); omega
        refine Ew_of (pcₚ := 89) (fun _ => x_aload_n rfl (rk_o (lc86_0) rfl rfl)) ?_
        refine v_g H (o := 0) (v := .ref (D 1)) rfl rfl rfl rfl rfl (vrf ((mF_c86 0 7 rfl).trans (pf1))) ?_
        refine Ew_of (pcₚ := 93) (fun _ => x_aload_n rfl (rk_o (lc86_0) rfl rfl)) ?_
        refine v_g H (o := 0) (v := I (u0_9)) rfl rfl rfl rfl rfl (congrArg (fun z : Int => I z) ((((hS_c86 0 9 rfl).trans (hS_c43 0 9 rfl)).trans (eu0_9)) : F_c86 0 9 = u0_9)) ?_
        refine Ew_of (pcₚ := 98) (fun _ => x_iload rfl (rk_o (lc86_4) rfl rfl)) ?_
        refine w_stat25 rfl rfl (by rfl) (C42_Brf (D := puc 1 D) (N := puc 1 N) (HW_subc H oz_H8cls_8 oz_H8cls_17) (n1) (en1) (w1) ((funext (mA_c86 1 rfl)).trans (ew1)) (show inr (u0_9) from q_3943 h0) (show inr (tc43_0) from jc43_0) (show (tc43_0) ≤ 0 ∨ 0 ≤ (u0_9) ∧ (u0_9) + (tc43_0) ≤ (n1) from q_4182 b90 h0 h1) (show 0 ≤ (tc43_0) ∧ (tc43_0) ≤ 8 from q_4181 hl3_ jc43_1) (fun z91 σ91 F91ₚ A91ₚ Hₚ Oₚ hS91 hA91 pz91_0 pz91_1 pz91_2 => ⟨rfl, ?_⟩))
        refine v_backc (c := c) (s := s) H oz_H8cls_8 oz_H8cls_17 Hₚ Oₚ (fun F91 A91 H Oₚ eF91 eA91 => ?_)
        have O := OUT_trans O Oₚ
        -- PackHouse.number
        have cF91 : SF oz_H8clsl_0 F F91 := SF_trans (cF_c86) (SF_gluc (ι := oz_H8clsl_8) oz_H8cls_17 hS91 eF91 (by decide +kernel)) (any_sub (lₚ := []) (by decide +kernel))
        have mF91 := SFm_of cF91 oz_H8cls_9
        have cA91 : SA oz_H8clsl_1 A A91 := SA_trans (cA_c86) (SA_gluc (ι := oz_H8clsl_8) oz_H8cls_17 hA91 eA91 (by decide +kernel)) (any_subA (lₚ := []) (by decide +kernel))
        have mA91 := SAm_of cA91 oz_H8cls_10
        have hN : z91 = nvl (ub8 ((w1))) ((u0_9)) ((tc43_0) : Int).toNat := (nmb_nn pz91_2 (by omega) pz91_0).trans nvl_u
        have hNb : 0 ≤ z91 ∧ z91 ≤ 1099511627775 := by rw [hN]; have h := nvl_lt (I := ub8 ((w1))) (a := (u0_9)) (n := (tc43_0)) (by omega); exact ⟨h.1, h.2.2.2.2.2.2 (by omega)⟩
        refine Ew_of (pcₚ := 102) (fun _ => x_iconst rfl) ?_
        refine w_lshrK 4 16 (by decide) (by decide) rfl (show inrJ (z91) from pz91_0) (fun z92 gz92 dz92 => ?_)
        refine Ew_of (pcₚ := 105) (fun _ => x_lstore rfl) ?_
        refine Ew_of (pcₚ := 107) (fun _ => x_lload rfl rk2_s) ?_
        refine w_l2iW rfl ?_
        have g93 : inr (w32 (z92)) := w32_r _
        refine Ew_of (pcₚ := 109) (fun _ => x_iconst rfl) ?_
        refine Ew_of (pcₚ := 111) (fun _ => x_iload rfl (rk2_o (rk_s) rfl rfl)) ?_
        refine w_ishl1 rfl (show 0 ≤ tc86_0 ∧ tc86_0 ≤ 31 from q_4183 hl3_ jc86_1) ?_
        refine Ew_of (pcₚ := 113) (fun _ => x_iconst rfl) ?_
        refine w_isub rfl ?_
        refine w_iandE rfl (show inr ((w32 (z92))) from g93) (show inr ((p2 (tc86_0) - 1)) from q_4184 hpw) (fun z95 gz95 gaz95 gbz95 gez95 => ?_)
        have h8 : (z95) = (z92) % p2 ((tc86_0)) := by have := andI_w (x := (z92)) (L := (tc86_0)) (by omega); omega
        have h8n : (z95) = nvl (ub8 ((w1))) ((u0_9)) ((tc43_0) : Int).toNat / 16 % p2 (lcW ((z89))) := by rw [h8, ← hw5, ← hN, show (z92) = z91 / 16 by omega]
        have h8b : 0 ≤ (z95) ∧ (z95) < p2 ((tc86_0)) := by rw [h8]; exact ⟨Int.emod_nonneg _ (by omega), Int.emod_lt_of_pos _ (by omega)⟩
        refine Ew_of (pcₚ := 117) (fun _ => x_istore rfl) ?_
        refine Ew_of (pcₚ := 119) (fun _ => x_lload rfl (rk_o (rk2_s) rfl rfl)) ?_
        refine Ew_of (pcₚ := 121) (fun _ => x_iload rfl (rk_o (rk2_o (rk_s) rfl rfl) rfl rfl)) ?_
        refine w_lshrX rfl (show inrJ (z92) by omega) (fun z96 gz96 dz96 => ?_)
        have h121 : (z96) = (z92) / p2 ((tc86_0)) := by omega
        have hw21 := andI_w (x := (z96)) (L := (tc86_0)) (by omega)
        refine w_l2iW rfl ?_
        have g97 : inr (w32 (z96)) := w32_r _
        refine Ew_of (pcₚ := 124) (fun _ => x_iconst rfl) ?_
        refine Ew_of (pcₚ := 126) (fun _ => x_iload rfl (rk_o (rk2_o (rk_s) rfl rfl) rfl rfl)) ?_
        refine w_ishl1 rfl (show 0 ≤ tc86_0 ∧ tc86_0 ≤ 31 from q_4183 hl3_ jc86_1) ?_
        refine Ew_of (pcₚ := 128) (fun _ => x_iconst rfl) ?_
        refine w_isub rfl ?_
        refine w_iandE rfl (show inr ((w32 (z96))) from g97) (show inr ((p2 (tc86_0) - 1)) from q_4184 hpw) (fun z99 gz99 gaz99 gbz99 gez99 => ?_)
        have h9 : (z99) = (z92) / p2 ((tc86_0)) % p2 ((tc86_0)) := by rw [← h121]; omega
        have h9n : (z99) = nvl (ub8 ((w1))) ((u0_9)) ((tc43_0) : Int).toNat / 16 / p2 (lcW ((z89))) % p2 (lcW ((z89))) := by rw [h9, ← hw5, ← hN, show (z92) = z91 / 16 by omega]
        have h9b : 0 ≤ (z99) ∧ (z99) < p2 ((tc86_0)) := by rw [h9]; exact ⟨Int.emod_nonneg _ (by omega), Int.emod_lt_of_pos _ (by omega)⟩
        refine Ew_of (pcₚ := 132) (fun _ => x_istore rfl) ?_
        have : LTF (ub8 ((w1))) ((u0_9)) ((u0_18)) (moF ((u0_15))) CC.1 CC.2 = LT2 (ub8 ((w1))) ((u0_9)) ((u0_18)) (moF ((u0_15))) CC.1 CC.2 ((z86)) ((z89)) ((tc43_0)) ((z95)) ((z99)) := LTF_2 (by omega) hqx hk2 (by omega) hl3_ hb4 h8n h9n
        exact hc132  _ _ _ _ (u0_9) (z86) (z89) (tc43_0) (z95) (z99) (rk_o (rk_o (rk2_o (rk_o (lc86_0) rfl rfl) rfl rfl) rfl rfl) rfl rfl) (rk_o (rk_o (rk2_o (rk_o (lc86_1) rfl rfl) rfl rfl) rfl rfl) rfl rfl) (rk_o (rk_o (rk2_o (rk_o (lc86_2) rfl rfl) rfl rfl) rfl rfl) rfl rfl) (rk_o (rk_o (rk2_o (rk_o (lc86_3) rfl rfl) rfl rfl) rfl rfl) rfl rfl) (rk_o (rk_o (rk2_o (rk_o (lc86_4) rfl rfl) rfl rfl) rfl rfl) rfl rfl) (rk_o (rk_s) rfl rfl) (rk_s) H O (SF_trans (SF_trans (SF_trans (SF_refl) hS_c43 (any_sub (by decide +kernel))) hS_c86 (any_sub (by decide +kernel))) (SF_gluc (ι := oz_H8clsl_8) oz_H8cls_17 hS91 eF91 (by decide +kernel)) (any_sub (lₚ := []) (by decide +kernel))) (SA_trans (SA_trans (SA_trans (SA_refl) hA_c43 (any_subA (by decide +kernel))) hA_c86 (any_subA (by decide +kernel))) (SA_gluc (ι := oz_H8clsl_8) oz_H8cls_17 hA91 eA91 (by decide +kernel)) (any_subA (lₚ := []) (by decide +kernel)))     (show inr (u0_9) from q_3943 h0) (show inr (z86) from gz86) (show inr (z89) from gz89) (show inr (tc43_0) from jc43_0) (show inr (z95) from gz95) (show inr (z99) from gz99) (show (u0_9) = (u0_9) from q_303) (show 0 ≤ (z95) ∧ (z95) ≤ 262143 from q_4188 h8b hpw) (show 0 ≤ (z99) ∧ (z99) ≤ 262143 from q_4188 h9b hpw) (show 2 ≤ (z86) ∧ (z86) ≤ 3 from q_4187 hkk) (show 0 ≤ (z89) ∧ (z89) ≤ 3 from q_4186 hl3_) (show 3 ≤ (tc43_0) ∧ (tc43_0) ≤ 5 from q_4185 hl3_ jc43_1) (show (tc43_0) ≤ (u0_18) - (u0_9) from b90) (show LTF (ub8 ((w1))) ((u0_9)) ((u0_18)) (moF ((u0_15))) CC.1 CC.2 = LT2 (ub8 ((w1))) ((u0_9)) ((u0_18)) (moF ((u0_15))) CC.1 CC.2 ((z86)) ((z89)) ((tc43_0)) ((z95)) ((z99)) by assumption)
      refine w_icmpge (t := 80) rfl rfl (show inr (z89) from gz89) (show inr (2) from q_122) (fun b100 => ?_) (fun b100 => ?_)
      · refine Ew_of (pcₚ := 81) (fun _ => x_iconst rfl) ?_
        refine Ew_of (pcₚ := 82) (fun _ => x_iload_n rfl (rk_o (lc43_3) rfl rfl)) ?_
        refine w_imul rfl ?_
        refine Ew_of (pcₚ := 85) (fun _ => x_bipush (z := 6) rfl (by decide)) ?_
        refine w_iadd rfl ?_
        exact hc86 (((4 * z89) + 6)) _ _ _ _  (rk_o (lc43_0) rfl rfl) (rk_o (lc43_1) rfl rfl) (rk_o (lc43_2) rfl rfl) (rk_o (lc43_3) rfl rfl) (rk_s) H O (SF_refl) (SA_refl)     (show inr (((4 * z89) + 6)) from q_4190 b100 hl3_) (show ((z89) ≥ (2) ∧ (((4 * z89) + 6)) = (((4 * z89) + 6))) ∨ ((z89) < (2) ∧ (((4 * z89) + 6)) = (10)) from q_4189 b100)
      · refine Ew_of (pcₚ := 77) (fun _ => x_bipush (z := 10) rfl (by decide)) ?_
        refine Ew_of (pcₚ := 86) (fun _ => x_goto rfl rfl) ?_
        exact hc86 (10) _ _ _ _  (rk_o (lc43_0) rfl rfl) (rk_o (lc43_1) rfl rfl) (rk_o (lc43_2) rfl rfl) (rk_o (lc43_3) rfl rfl) (rk_s) H O (SF_refl) (SA_refl)     (show inr (10) from q_746) (show ((z89) ≥ (2) ∧ (10) = (((4 * z89) + 6))) ∨ ((z89) < (2) ∧ (10) = (10)) from q_4191 b100)
    · refine Ew_of (pcₚ := 60) (fun _ => x_aload_n rfl (rk_o (lc43_0) rfl rfl)) ?_
      refine Ew_of (pcₚ := 62) (fun _ => x_bipush (z := 10) rfl (by decide)) ?_
      refine Ew_of (pcₚ := 63) (fun _ => x_aload_n rfl (rk_o (lc43_0) rfl rfl)) ?_
      refine v_g H (o := 0) (v := I (u0_18)) rfl rfl rfl rfl rfl (congrArg (fun z : Int => I z) (((mF_c43 0 18 rfl).trans (eu0_18)) : F_c43 0 18 = u0_18)) ?_
      refine v_inv H (o := 0) rfl rfl rfl rfl rfl rfl (by rfl) (C232 (D := puc 0 D) (N := puc 0 N) (HW_subc H oz_H8cls_2 oz_H8cls_12) (u0_21) (((hS_c43 0 21 rfl).trans (eu0_21))) (show inr (10) from q_746) (show inr (u0_18) from q_18 r4) (fun z101 σ101 F101ₚ A101ₚ Hₚ Oₚ hS101 hA101 y101_0_21 (ey101_0_21 : HID _) pz101_0 pz101_1 pz101_2 => ⟨rfl, ?_⟩))
      refine v_backc (c := c) (s := s) H oz_H8cls_2 oz_H8cls_12 Hₚ Oₚ (fun F101 A101 H Oₚ eF101 eA101 => ?_)
      have O := OUT_trans O Oₚ
      -- Unpacker.fail
      have cF101 : SF oz_H8clsl_0 F F101 := SF_trans (cF_c43) (SF_gluc (ι := oz_H8clsl_3) oz_H8cls_12 hS101 eF101 (by decide +kernel)) (any_sub (lₚ := [(0, 21)]) (by decide +kernel))
      have mF101 := SFm_of cF101 oz_H8cls_9
      have cA101 : SA oz_H8clsl_1 A A101 := SA_trans (cA_c43) (SA_gluc (ι := oz_H8clsl_3) oz_H8cls_12 hA101 eA101 (by decide +kernel)) (any_subA (lₚ := []) (by decide +kernel))
      have mA101 := SAm_of cA101 oz_H8cls_10
      have r102 : (-2147483648 : Int) ≤ y101_0_21 ∧ y101_0_21 ≤ 2147483647 := rngE (show (-2147483648 : Int) ≤ F101 0 21 ∧ F101 0 21 ≤ 2147483647 from H.krg 0 21 (ltn len_V245_vd_oz_H8cls rfl)) (show F101 0 21 = y101_0_21 from ((eF101 0 21).trans ey101_0_21))
      have hCL : CLA (LTF (ub8 ((w1))) ((u0_9)) ((u0_18)) (moF ((u0_15))) CC.1 CC.2) ((z101)) ((y101_0_21)) ((u0_9)) ((u0_19)) ((u2_1)) ((w3)) := CLA_f (LTF_h (b := (tc43_0)) (by omega) hqx (.inr ⟨by omega, by rw [← hl3_]; exact hb4⟩) (by omega)) (by decide) (by omega) (by omega)
      try have nz_5 : ¬ (((z101) : Int) = 0) := by omega
      have hcf0 : IMP (((z101) : Int) = 0) (SLB ((u25_0)) ((((D 4 : Nat) : Int))) (CDO ((LTF (ub8 ((w1))) ((u0_9)) ((u0_18)) (moF ((u0_15))) CC.1 CC.2).2.2.2.2) ((u4_3)) ((w7)))) := fun q => absurd q (by first | exact nz_5 | omega)
      have hcf1 : IMP (((z101) : Int) = 0) (SLB ((u25_0)) ((((D 23 : Nat) : Int))) (CDO ((LTF (ub8 ((w1))) ((u0_9)) ((u0_18)) (moF ((u0_15))) CC.1 CC.2).2.2.2.2) ((u23_3)) ((w24)))) := fun q => absurd q (by first | exact nz_5 | omega)
      have hcf2 : IMP (((z101) : Int) = 0) (NLC ((u25_0)) ((LTF (ub8 ((w1))) ((u0_9)) ((u0_18)) (moF ((u0_15))) CC.1 CC.2).2.2.2.2)) := fun q => absurd q (by first | exact nz_5 | omega)
      exact w_ireturn rfl (k (z101) _ _ _ _ _ _ _ H O (SD_refl) (SD_refl) (cF101) (cA101) (((((show F101 2 0 = F_c43 2 0 from (eF101 2 0))).trans (hS_c43 2 0 rfl))).trans (pf3)) (n3) (en3) (u0_9) (((((show F101 0 9 = F_c43 0 9 from (eF101 0 9).trans (hS101 0 9 rfl))).trans (hS_c43 0 9 rfl)).trans (eu0_9))) (u0_19) (((((show F101 0 19 = F_c43 0 19 from (eF101 0 19).trans (hS101 0 19 rfl))).trans (hS_c43 0 19 rfl)).trans (eu0_19))) (y101_0_21) (((eF101 0 21).trans ey101_0_21)) (u2_1) (((((show F101 2 1 = F_c43 2 1 from (eF101 2 1))).trans (hS_c43 2 1 rfl)).trans (eu2_1))) (u4_3) (((((show F101 4 3 = F_c43 4 3 from (eF101 4 3))).trans (hS_c43 4 3 rfl)).trans (eu4_3))) (u25_0) (((((show F101 25 0 = F_c43 25 0 from (eF101 25 0))).trans (hS_c43 25 0 rfl)).trans (eu25_0))) (w3) (((show A101 3 = A_c43 3 from (eA101 3))).trans ((funext (hA_c43 3 rfl)).trans (ew3))) (w7) (((show A101 7 = A_c43 7 from (eA101 7))).trans ((funext (hA_c43 7 rfl)).trans (ew7))) (show inr (z101) from pz101_0) (show 0 ≤ (z101) ∧ (z101) ≤ 17 from q_4022 pz101_1) (show 0 ≤ (u0_9) ∧ (u0_9) ≤ (u0_18) from q_4136 h0 h1) (show 0 ≤ (u2_1) ∧ (u2_1) ≤ (n3) ∧ (n3) ≤ 65536 from h4) (show (z101) ≠ 0 ∨ 0 ≤ (u0_19) ∧ (u0_19) ≤ 131072 ∧ ((u0_19) ≤ (n3) ∨ (n3) = 65536) from q_4019 pz101_1) (show (z101) ≠ 0 ∨ (u25_0) = -1 ∨ (u25_0) = (((D 4 : Nat) : Int)) ∨ (u25_0) = (((D 23 : Nat) : Int)) from q_4168 pz101_1) (show (z101) ≠ 0 ∨ (u25_0) ≠ (((D 4 : Nat) : Int)) ∨ 0 ≤ (u4_3) ∧ (u4_3) ≤ 11 from q_4167 pz101_1) (show (z101) ≠ 0 ∨ (u25_0) ≠ (((D 23 : Nat) : Int)) ∨ 0 ≤ (u23_3) ∧ (u23_3) ≤ 11 from q_4167 pz101_1) (h12) (h13) (hCL) (show IMP ((z101) = 0) (SLB ((u25_0)) ((((D 4 : Nat) : Int))) (CDO ((LTF (ub8 ((w1))) ((u0_9)) ((u0_18)) (moF ((u0_15))) CC.1 CC.2).2.2.2.2) ((u4_3)) ((w7)))) by assumption) (show IMP ((z101) = 0) (SLB ((u25_0)) ((((D 23 : Nat) : Int))) (CDO ((LTF (ub8 ((w1))) ((u0_9)) ((u0_18)) (moF ((u0_15))) CC.1 CC.2).2.2.2.2) ((u23_3)) ((w24)))) by assumption) (show IMP ((z101) = 0) (NLC ((u25_0)) ((LTF (ub8 ((w1))) ((u0_9)) ((u0_18)) (moF ((u0_15))) CC.1 CC.2).2.2.2.2)) by assumption) (show (z101) ≠ 0 ∨ (u0_19) ≤ moF ((u0_15)) from q_4018 pz101_1) (show (z101) ≠ 0 ∨ (y101_0_21) = (u0_21) from q_4017 pz101_1))
  refine w_icmpge (t := 40) rfl rfl (show inr (z89) from gz89) (show inr (2) from q_122) (fun b103 => ?_) (fun b103 => ?_)
  · refine Ew_of (pcₚ := 41) (fun _ => x_iload_n rfl rk_s) ?_
    refine Ew_of (pcₚ := 42) (fun _ => x_iconst rfl) ?_
    refine w_iadd rfl ?_
    exact hc43 ((z89 + 2)) _ _ _ _  (rk_o (rk_o (rk_o (rfl) rfl rfl) rfl rfl) rfl rfl) (rk_o (rk_o (rk_s) rfl rfl) rfl rfl) (rk_o (rk_s) rfl rfl) (rk_s) H O (SF_refl) (SA_refl)     (show inr ((z89 + 2)) from q_4193 b103 hl3_) (show ((z89) ≥ (2) ∧ ((z89 + 2)) = ((z89 + 2))) ∨ ((z89) < (2) ∧ ((z89 + 2)) = (3)) from q_4192 b103)
  · refine Ew_of (pcₚ := 37) (fun _ => x_iconst rfl) ?_
    refine Ew_of (pcₚ := 43) (fun _ => x_goto rfl rfl) ?_
    exact hc43 (3) _ _ _ _  (rk_o (rk_o (rk_o (rfl) rfl rfl) rfl rfl) rfl rfl) (rk_o (rk_o (rk_s) rfl rfl) rfl rfl) (rk_o (rk_s) rfl rfl) (rk_s) H O (SF_refl) (SA_refl)     (show inr (3) from q_246) (show ((z89) ≥ (2) ∧ (3) = ((z89 + 2))) ∨ ((z89) < (2) ∧ (3) = (3)) from q_4194 b103)
abbrev V245_vn : vV := [(0, 12, [(4, 0), (4, 0), (4, 0), (4, 0), (4, 0), (4, 0), (4, 0), (4, 0), (0, 0), (0, 0), (4, 0), (0, 0), (4, 0), (4, 0), (0, 0), (2, 0), (0, 0), (0, 0), (0, 0), (0, 0), (0, 0), (0, 0)]), (1, 0, []), (0, 7, [(4, 0), (0, 0), (1, 0), (0, 0), (0, 0)]), (1, 0, []), (0, 3, [(4, 0), (4, 0), (4, 0), (0, 0), (4, 0), (4, 0), (4, 0), (4, 0), (4, 0), (4, 0), (4, 0), (4, 0), (4, 0), (0, 0), (0, 0), (0, 0), (0, 0)]), (1, 1, []), (1, 1, []), (1, 1, []), (1, 1, []), (1, 1, []), (1, 1, []), (1, 1, []), (1, 1, []), (0, 8, [(0, 0), (0, 0), (4, 0), (4, 0), (4, 0), (4, 0), (4, 0), (4, 0), (4, 0), (4, 0), (4, 0), (0, 0), (0, 0)]), (1, 1, []), (1, 1, []), (1, 1, []), (1, 1, []), (1, 1, []), (1, 1, []), (1, 1, []), (1, 1, []), (0, 9, [(4, 0), (4, 0), (4, 0)]), (0, 2, [(4, 0), (0, 0), (0, 0)])]
theorem len_V245_vn_oz_H8cls : (V245_vn).length = 24 := by decide +kernel
theorem oz_H8cls_19 : vsub V245_vn V234 [0] = true := by decide +kernel
theorem oz_H8cls_20 : vsub V245_vn V232 [0] = true := by decide +kernel
theorem oz_H8cls_21 : vsub V245_vn V157 [2, 3] = true := by decide +kernel
theorem oz_H8cls_22 : vmov V245_vn [2, 3] [1] = true := by decide +kernel
theorem oz_H8cls_23 : vsub V245_vn V246 [0, 1, 2, 3, 22, 4, 7, 23] = true := by decide +kernel
theorem oz_H8cls_24 : vsub V245_vn V107_Br [4, 1, 8, 5, 6, 7, 13, 14, 15, 16, 17, 18, 20, 19, 21, 23] = true := by decide +kernel
theorem oz_H8cls_25 : vsub V245_vn V42_Br [1] = true := by decide +kernel
def oz_H8clsl_9 : List (Nat × Nat) := [(0, 9), (0, 19), (0, 21), (2, 0), (2, 1), (4, 3), (13, 0), (13, 10), (13, 11), (13, 12), (22, 0), (23, 0), (23, 1), (23, 2)]
theorem oz_H8cls_26 : (oz_H8clsl_9).all (fun p => !tbz 2530316507086725051691175498731202403688895163667818898961498911804946166452733570384416326366757954087871769510801076331578780984874986497152091036723570434302910461615314928555653504355221548864673103477605991565650035200 (Nat.add (Nat.mul 32 p.1) p.2)) = true := by decide +kernel
def oz_H8clsl_10 : List Nat := [0, 1, 2, 3, 22, 4, 7, 23]
theorem oz_H8cls_27 : okc oz_H8clsl_10 212263799886946238976 = true := by decide +kernel
def oz_H8clsl_11 : List Nat := [4, 1, 8, 5, 6, 7, 13, 14, 15, 16, 17, 18, 20, 19, 21, 23]
theorem oz_H8cls_28 : okc oz_H8clsl_11 1003580934059868764852403245804753042539012 = true := by decide +kernel
set_option maxHeartbeats 16000000 in
theorem C245_vn {σE : rS} {D N : Nat → Nat} {F : hF} {A : hA} {d c s : Nat} {Q : wQ} (H : HW V245_vn σE D N F A)  (pf1 : HID (F 0 7 = (D 1 : Int))) (pf2 : HID (F 0 4 = (D 2 : Int))) (pf3 : HID (F 2 0 = (D 3 : Int))) (pf4 : HID (F 0 1 = (D 4 : Int))) (pf5 : HID (F 4 0 = (D 5 : Int))) (pf6 : HID (F 4 1 = (D 6 : Int))) (pf7 : HID (F 4 2 = (D 7 : Int))) (pf8 : HID (F 4 4 = (D 8 : Int))) (pf9 : HID (F 4 5 = (D 9 : Int))) (pf10 : HID (F 4 10 = (D 10 : Int))) (pf11 : HID (F 4 11 = (D 11 : Int))) (pf12 : HID (F 4 12 = (D 12 : Int))) (pf13 : HID (F 4 6 = (D 13 : Int))) (pf14 : HID (F 13 2 = (D 14 : Int))) (pf15 : HID (F 13 3 = (D 15 : Int))) (pf16 : HID (F 13 4 = (D 16 : Int))) (pf17 : HID (F 13 5 = (D 17 : Int))) (pf18 : HID (F 13 6 = (D 18 : Int))) (pf19 : HID (F 13 7 = (D 19 : Int))) (pf20 : HID (F 13 8 = (D 20 : Int))) (pf21 : HID (F 13 9 = (D 21 : Int))) (pf22 : HID (F 0 3 = (D 22 : Int))) (pf23 : HID (F 4 9 = (D 23 : Int))) (n1 : Int) (en1 : HID ((N 1 : Int) = n1)) (n3 : Int) (en3 : HID ((N 3 : Int) = n3)) (n5 : Int) (en5 : HID ((N 5 : Int) = n5)) (n6 : Int) (en6 : HID ((N 6 : Int) = n6)) (n7 : Int) (en7 : HID ((N 7 : Int) = n7)) (n8 : Int) (en8 : HID ((N 8 : Int) = n8)) (n9 : Int) (en9 : HID ((N 9 : Int) = n9)) (n10 : Int) (en10 : HID ((N 10 : Int) = n10)) (n11 : Int) (en11 : HID ((N 11 : Int) = n11)) (n12 : Int) (en12 : HID ((N 12 : Int) = n12)) (n14 : Int) (en14 : HID ((N 14 : Int) = n14)) (n15 : Int) (en15 : HID ((N 15 : Int) = n15)) (n16 : Int) (en16 : HID ((N 16 : Int) = n16)) (n17 : Int) (en17 : HID ((N 17 : Int) = n17)) (n18 : Int) (en18 : HID ((N 18 : Int) = n18)) (n19 : Int) (en19 : HID ((N 19 : Int) = n19)) (n20 : Int) (en20 : HID ((N 20 : Int) = n20)) (n21 : Int) (en21 : HID ((N 21 : Int) = n21)) (u0_8 : Int) (eu0_8 : HID (F 0 8 = u0_8)) (u0_9 : Int) (eu0_9 : HID (F 0 9 = u0_9)) (u0_15 : Int) (eu0_15 : HID (F 0 15 = u0_15)) (u0_18 : Int) (eu0_18 : HID (F 0 18 = u0_18)) (u0_19 : Int) (eu0_19 : HID (F 0 19 = u0_19)) (u0_21 : Int) (eu0_21 : HID (F 0 21 = u0_21)) (u2_1 : Int) (eu2_1 : HID (F 2 1 = u2_1)) (u4_3 : Int) (eu4_3 : HID (F 4 3 = u4_3)) (u13_1 : Int) (eu13_1 : HID (F 13 1 = u13_1)) (u22_0 : Int) (eu22_0 : HID (F 22 0 = u22_0)) (w1 : Int → Int) (ew1 : A 1 = w1) (w3 : Int → Int) (ew3 : A 3 = w3) (w7 : Int → Int) (ew7 : A 7 = w7) (CC : Int × (Int → Int)) (h0 : 0 ≤ (u0_9) ∧ (u0_9) ≤ (u0_8) ∧ (u0_8) ≤ (n1) ∧ (n1) ≤ 65536) (h1 : (u0_9) < (u0_18) ∧ (u0_18) ≤ (u0_8)) (h2 : andI (((w1)) ((u0_9))) 2 ≠ 0) (h3 : 0 ≤ (u0_15)) (h4 : 0 ≤ (u2_1) ∧ (u2_1) ≤ (n3) ∧ (n3) ≤ 65536) (h5 : (u2_1) = 0) (h6 : CDZD ((n5)) ((n6)) ((n7)) ((n8)) ((n9)) ((n10)) ((n11)) ((n12))) (h7 : SHZD ((n14)) ((n15)) ((n16)) ((n17)) ((n18)) ((n19)) ((n20)) ((n21)) ((u13_1)) 12 64) (h8 : (u22_0) = -1 ∨ (u22_0) = (((D 4 : Nat) : Int))) (h9 : (u22_0) ≠ (((D 4 : Nat) : Int)) ∨ 0 ≤ (u4_3) ∧ (u4_3) ≤ 11) (h10 : CEL ((w7))) (h11 : SLB ((u22_0)) ((((D 4 : Nat) : Int))) (CDO (CC) ((u4_3)) ((w7)))) (h12 : NLC ((u22_0)) (CC)) (k : ∀ (z : Int) (σ : rS) (Dₚ Nₚ : Nat → Nat) (Fₚ : hF) (Aₚ : hA) (cₚ sₚ : Nat), HW V245_vn σ Dₚ Nₚ Fₚ Aₚ → OUT (V245_vn).length D N σE c s Dₚ Nₚ σ cₚ sₚ → SD [3] D Dₚ → SD [3] N Nₚ → SF [(0, 9), (0, 19), (0, 21), (2, 0), (2, 1), (4, 3), (13, 0), (13, 10), (13, 11), (13, 12), (22, 0), (23, 0), (23, 1), (23, 2)] F Fₚ → SA [3, 5, 6, 7, 8, 14, 15, 16, 17, 18, 19, 20, 21] A Aₚ → Fₚ 2 0 = (Dₚ 3 : Int) → ∀ m3 : Int, (Nₚ 3 : Int) = m3 → ∀ y0_9 : Int, Fₚ 0 9 = y0_9 → ∀ y0_19 : Int, Fₚ 0 19 = y0_19 → ∀ y0_21 : Int, Fₚ 0 21 = y0_21 → ∀ y2_1 : Int, Fₚ 2 1 = y2_1 → ∀ y4_3 : Int, Fₚ 4 3 = y4_3 → ∀ y22_0 : Int, Fₚ 22 0 = y22_0 → ∀ v3 : Int → Int, Aₚ 3 = v3 → ∀ v7 : Int → Int, Aₚ 7 = v7 → (inr (z)) → (0 ≤ (z) ∧ (z) ≤ 17) → (0 ≤ (y0_9) ∧ (y0_9) ≤ (u0_18)) → (0 ≤ (y2_1) ∧ (y2_1) ≤ (m3) ∧ (m3) ≤ 65536) → ((z) ≠ 0 ∨ 0 ≤ (y0_19) ∧ (y0_19) ≤ 131072 ∧ ((y0_19) ≤ (m3) ∨ (m3) = 65536)) → ((z) ≠ 0 ∨ (y22_0) = -1 ∨ (y22_0) = (((Dₚ 4 : Nat) : Int))) → ((z) ≠ 0 ∨ (y22_0) ≠ (((Dₚ 4 : Nat) : Int)) ∨ 0 ≤ (y4_3) ∧ (y4_3) ≤ 11) → (CEL ((v7))) → (CLA (LTF (ub8 ((w1))) ((u0_9)) ((u0_18)) (moF ((u0_15))) CC.1 CC.2) ((z)) ((y0_21)) ((y0_9)) ((y0_19)) ((y2_1)) ((v3))) → (IMP ((z) = 0) (SLB ((y22_0)) ((((Dₚ 4 : Nat) : Int))) (CDO ((LTF (ub8 ((w1))) ((u0_9)) ((u0_18)) (moF ((u0_15))) CC.1 CC.2).2.2.2.2) ((y4_3)) ((v7))))) → (IMP ((z) = 0) (NLC ((y22_0)) ((LTF (ub8 ((w1))) ((u0_9)) ((u0_18)) (moF ((u0_15))) CC.1 CC.2).2.2.2.2))) → ((z) ≠ 0 ∨ (y0_19) ≤ moF ((u0_15))) → ((z) ≠ 0 ∨ (y0_21) = (u0_21)) → Q (some (I z)) σ cₚ sₚ) : Ew 245 (d + 5) 0 (rargs 0 [.ref (D 0)]) [] σE c s Q := by
  have O := OUT_refl (n := (V245_vn).length) (D := D) (N := N) (σ := σE) (c := c) (s := s)
  have HE := H
  have r1 : (-2147483648 : Int) ≤ u0_8 ∧ u0_8 ≤ 2147483647 := rngE (show (-2147483648 : Int) ≤ F 0 8 ∧ F 0 8 ≤ 2147483647 from H.krg 0 8 (ltn len_V245_vn_oz_H8cls rfl)) (show F 0 8 = u0_8 from (eu0_8))
  have r2 : (-2147483648 : Int) ≤ u0_9 ∧ u0_9 ≤ 2147483647 := rngE (show (-2147483648 : Int) ≤ F 0 9 ∧ F 0 9 ≤ 2147483647 from H.krg 0 9 (ltn len_V245_vn_oz_H8cls rfl)) (show F 0 9 = u0_9 from (eu0_9))
  have r3 : (-9223372036854775808 : Int) ≤ u0_15 ∧ u0_15 ≤ 9223372036854775807 := rngE (show (-9223372036854775808 : Int) ≤ F 0 15 ∧ F 0 15 ≤ 9223372036854775807 from H.krg 0 15 (ltn len_V245_vn_oz_H8cls rfl)) (show F 0 15 = u0_15 from (eu0_15))
  have r4 : (-2147483648 : Int) ≤ u0_18 ∧ u0_18 ≤ 2147483647 := rngE (show (-2147483648 : Int) ≤ F 0 18 ∧ F 0 18 ≤ 2147483647 from H.krg 0 18 (ltn len_V245_vn_oz_H8cls rfl)) (show F 0 18 = u0_18 from (eu0_18))
  have r5 : (-2147483648 : Int) ≤ u0_19 ∧ u0_19 ≤ 2147483647 := rngE (show (-2147483648 : Int) ≤ F 0 19 ∧ F 0 19 ≤ 2147483647 from H.krg 0 19 (ltn len_V245_vn_oz_H8cls rfl)) (show F 0 19 = u0_19 from (eu0_19))
  have r6 : (-2147483648 : Int) ≤ u0_21 ∧ u0_21 ≤ 2147483647 := rngE (show (-2147483648 : Int) ≤ F 0 21 ∧ F 0 21 ≤ 2147483647 from H.krg 0 21 (ltn len_V245_vn_oz_H8cls rfl)) (show F 0 21 = u0_21 from (eu0_21))
  have r7 : (-2147483648 : Int) ≤ u2_1 ∧ u2_1 ≤ 2147483647 := rngE (show (-2147483648 : Int) ≤ F 2 1 ∧ F 2 1 ≤ 2147483647 from H.krg 2 1 (ltn len_V245_vn_oz_H8cls rfl)) (show F 2 1 = u2_1 from (eu2_1))
  have r8 : (-2147483648 : Int) ≤ u4_3 ∧ u4_3 ≤ 2147483647 := rngE (show (-2147483648 : Int) ≤ F 4 3 ∧ F 4 3 ≤ 2147483647 from H.krg 4 3 (ltn len_V245_vn_oz_H8cls rfl)) (show F 4 3 = u4_3 from (eu4_3))
  have r9 : (-2147483648 : Int) ≤ u13_1 ∧ u13_1 ≤ 2147483647 := rngE (show (-2147483648 : Int) ≤ F 13 1 ∧ F 13 1 ≤ 2147483647 from H.krg 13 1 (ltn len_V245_vn_oz_H8cls rfl)) (show F 13 1 = u13_1 from (eu13_1))
  have r10 : (0 : Int) ≤ n1 ∧ n1 ≤ 1000000 := nleE (H.nle 1 (ltn len_V245_vn_oz_H8cls rfl)) (show (N 1 : Int) = n1 from en1)
  have r11 : (0 : Int) ≤ n3 ∧ n3 ≤ 1000000 := nleE (H.nle 3 (ltn len_V245_vn_oz_H8cls rfl)) (show (N 3 : Int) = n3 from en3)
  have r12 : (0 : Int) ≤ n5 ∧ n5 ≤ 1000000 := nleE (H.nle 5 (ltn len_V245_vn_oz_H8cls rfl)) (show (N 5 : Int) = n5 from en5)
  have r13 : (0 : Int) ≤ n6 ∧ n6 ≤ 1000000 := nleE (H.nle 6 (ltn len_V245_vn_oz_H8cls rfl)) (show (N 6 : Int) = n6 from en6)
  have r14 : (0 : Int) ≤ n7 ∧ n7 ≤ 1000000 := nleE (H.nle 7 (ltn len_V245_vn_oz_H8cls rfl)) (show (N 7 : Int) = n7 from en7)
  have r15 : (0 : Int) ≤ n8 ∧ n8 ≤ 1000000 := nleE (H.nle 8 (ltn len_V245_vn_oz_H8cls rfl)) (show (N 8 : Int) = n8 from en8)
  have r16 : (0 : Int) ≤ n9 ∧ n9 ≤ 1000000 := nleE (H.nle 9 (ltn len_V245_vn_oz_H8cls rfl)) (show (N 9 : Int) = n9 from en9)
  have r17 : (0 : Int) ≤ n10 ∧ n10 ≤ 1000000 := nleE (H.nle 10 (ltn len_V245_vn_oz_H8cls rfl)) (show (N 10 : Int) = n10 from en10)
  have r18 : (0 : Int) ≤ n11 ∧ n11 ≤ 1000000 := nleE (H.nle 11 (ltn len_V245_vn_oz_H8cls rfl)) (show (N 11 : Int) = n11 from en11)
  have r19 : (0 : Int) ≤ n12 ∧ n12 ≤ 1000000 := nleE (H.nle 12 (ltn len_V245_vn_oz_H8cls rfl)) (show (N 12 : Int) = n12 from en12)
  have r20 : (0 : Int) ≤ n14 ∧ n14 ≤ 1000000 := nleE (H.nle 14 (ltn len_V245_vn_oz_H8cls rfl)) (show (N 14 : Int) = n14 from en14)
  have r21 : (0 : Int) ≤ n15 ∧ n15 ≤ 1000000 := nleE (H.nle 15 (ltn len_V245_vn_oz_H8cls rfl)) (show (N 15 : Int) = n15 from en15)
  have r22 : (0 : Int) ≤ n16 ∧ n16 ≤ 1000000 := nleE (H.nle 16 (ltn len_V245_vn_oz_H8cls rfl)) (show (N 16 : Int) = n16 from en16)
  have r23 : (0 : Int) ≤ n17 ∧ n17 ≤ 1000000 := nleE (H.nle 17 (ltn len_V245_vn_oz_H8cls rfl)) (show (N 17 : Int) = n17 from en17)
  have r24 : (0 : Int) ≤ n18 ∧ n18 ≤ 1000000 := nleE (H.nle 18 (ltn len_V245_vn_oz_H8cls rfl)) (show (N 18 : Int) = n18 from en18)
  have r25 : (0 : Int) ≤ n19 ∧ n19 ≤ 1000000 := nleE (H.nle 19 (ltn len_V245_vn_oz_H8cls rfl)) (show (N 19 : Int) = n19 from en19)
  have r26 : (0 : Int) ≤ n20 ∧ n20 ≤ 1000000 := nleE (H.nle 20 (ltn len_V245_vn_oz_H8cls rfl)) (show (N 20 : Int) = n20 from en20)
  have r27 : (0 : Int) ≤ n21 ∧ n21 ≤ 1000000 := nleE (H.nle 21 (ltn len_V245_vn_oz_H8cls rfl)) (show (N 21 : Int) = n21 from en21)
  have hc132 : ∀ (ls : rO) (σ : rS) (F_c132 : hF) (A_c132 : hA) (xc132_1 : Int) (xc132_2 : Int) (xc132_3 : Int) (xc132_4 : Int) (xc132_8 : Int) (xc132_9 : Int), rlook ls 0 = some (.ref (D 0)) → rlook ls 1 = some (I (xc132_1)) → rlook ls 2 = some (I (xc132_2)) → rlook ls 3 = some (I (xc132_3)) → rlook ls 4 = some (I (xc132_4)) → rlook ls 8 = some (I (xc132_8)) → rlook ls 9 = some (I (xc132_9)) → HW V245_vn σ D N F_c132 A_c132 → OUT (V245_vn).length D N σE c s D N σ c s → SF [] F F_c132 → SA [] A A_c132 → (inr (xc132_1)) → (inr (xc132_2)) → (inr (xc132_3)) → (inr (xc132_4)) → (inr (xc132_8)) → (inr (xc132_9)) → ((xc132_1) = (u0_9)) → (0 ≤ (xc132_8) ∧ (xc132_8) ≤ 262143) → (0 ≤ (xc132_9) ∧ (xc132_9) ≤ 262143) → (2 ≤ (xc132_2) ∧ (xc132_2) ≤ 3) → (0 ≤ (xc132_3) ∧ (xc132_3) ≤ 3) → (3 ≤ (xc132_4) ∧ (xc132_4) ≤ 5) → ((xc132_4) ≤ (u0_18) - (u0_9)) → (LTF (ub8 ((w1))) ((u0_9)) ((u0_18)) (moF ((u0_15))) CC.1 CC.2 = LT2 (ub8 ((w1))) ((u0_9)) ((u0_18)) (moF ((u0_15))) CC.1 CC.2 ((xc132_2)) ((xc132_3)) ((xc132_4)) ((xc132_8)) ((xc132_9))) → Ew 245 (d + 5) 132 ls [] σ c s Q := by
   as_aux_lemma =>
    intro  ls σ F_c132 A_c132 xc132_1 xc132_2 xc132_3 xc132_4 xc132_8 xc132_9 lc132_0 lc132_1 lc132_2 lc132_3 lc132_4 lc132_8 lc132_9 H O hS_c132 hA_c132     jc132_0 jc132_1 jc132_2 jc132_3 jc132_4 jc132_5 jc132_6 jc132_7 jc132_8 jc132_9 jc132_10 jc132_11 jc132_12 jc132_13
    have cF_c132 : SF oz_H8clsl_9 F F_c132 := SF_trans (SF_refl) hS_c132 (any_sub (by decide +kernel))
    have mF_c132 := SFm_of cF_c132 oz_H8cls_26
    have cA_c132 : SA oz_H8clsl_1 A A_c132 := SA_trans (SA_refl) hA_c132 (any_subA (by decide +kernel))
    have mA_c132 := SAm_of cA_c132 oz_H8cls_10
    have hC0_0 : SLB ((u22_0)) ((((D 4 : Nat) : Int))) (CDO (CC) ((u4_3)) ((w7))) := h11
    have hNL : NLC ((u22_0)) (CC) := h12
    have hR : LTF (ub8 ((w1))) ((u0_9)) ((u0_18)) (moF ((u0_15))) CC.1 CC.2 = LT2 (ub8 ((w1))) ((u0_9)) ((u0_18)) (moF ((u0_15))) CC.1 CC.2 ((xc132_2)) ((xc132_3)) ((xc132_4)) ((xc132_8)) ((xc132_9)) := jc132_13
    refine Ew_of (pcₚ := 134) (fun _ => x_iload rfl lc132_8) ?_
    refine Ew_of (pcₚ := 135) (fun _ => x_aload_n rfl lc132_0) ?_
    refine v_inv H (o := 0) rfl rfl rfl rfl rfl rfl (by rfl) (C234 (D := puc 0 D) (N := puc 0 N) (HW_subc H oz_H8cls_19 oz_H8cls_12) (u0_15) (((mF_c132 0 15 rfl).trans (eu0_15))) (show 0 ≤ (u0_15) from h3) (fun z28 σ28 F28ₚ A28ₚ Hₚ Oₚ hS28 hA28 pz28_0 pz28_1 pz28_2 => ⟨rfl, ?_⟩))
    refine v_backc (c := c) (s := s) H oz_H8cls_19 oz_H8cls_12 Hₚ Oₚ (fun F28 A28 H Oₚ eF28 eA28 => ?_)
    have O := OUT_trans O Oₚ
    -- Unpacker.blockMost
    have cF28 : SF oz_H8clsl_9 F F28 := SF_trans (cF_c132) (SF_gluc (ι := oz_H8clsl_3) oz_H8cls_12 hS28 eF28 (by decide +kernel)) (any_sub (lₚ := []) (by decide +kernel))
    have mF28 := SFm_of cF28 oz_H8cls_26
    have cA28 : SA oz_H8clsl_1 A A28 := SA_trans (cA_c132) (SA_gluc (ι := oz_H8clsl_3) oz_H8cls_12 hA28 eA28 (by decide +kernel)) (any_subA (lₚ := []) (by decide +kernel))
    have mA28 := SAm_of cA28 oz_H8cls_10
    have hmo := pz28_2
    refine w_icmpgt (t := 158) rfl rfl (show inr (xc132_8) from jc132_4) (show inr (z28) from pz28_0) (fun b29 => ?_) (fun b29 => ?_)
    · refine Ew_of (pcₚ := 159) (fun _ => x_aload_n rfl lc132_0) ?_
      refine Ew_of (pcₚ := 161) (fun _ => x_bipush (z := 11) rfl (by decide)) ?_
      refine Ew_of (pcₚ := 162) (fun _ => x_iload_n rfl lc132_1) ?_
      refine v_inv H (o := 0) rfl rfl rfl rfl rfl rfl (by rfl) (C232 (D := puc 0 D) (N := puc 0 N) (HW_subc H oz_H8cls_20 oz_H8cls_12) (u0_21) (((((show F28 0 21 = F_c132 0 21 from (eF28 0 21).trans (hS28 0 21 rfl))).trans (hS_c132 0 21 rfl)).trans (eu0_21))) (show inr (11) from q_326) (show inr (xc132_1) from jc132_0) (fun z30 σ30 F30ₚ A30ₚ Hₚ Oₚ hS30 hA30 y30_0_21 (ey30_0_21 : HID _) pz30_0 pz30_1 pz30_2 => ⟨rfl, ?_⟩))
      refine v_backc (c := c) (s := s) H oz_H8cls_20 oz_H8cls_12 Hₚ Oₚ (fun F30 A30 H Oₚ eF30 eA30 => ?_)
      have O := OUT_trans O Oₚ
      -- Unpacker.fail
      have cF30 : SF oz_H8clsl_9 F F30 := SF_trans (cF28) (SF_gluc (ι := oz_H8clsl_3) oz_H8cls_12 hS30 eF30 (by decide +kernel)) (any_sub (lₚ := [(0, 21)]) (by decide +kernel))
      have mF30 := SFm_of cF30 oz_H8cls_26
      have cA30 : SA oz_H8clsl_1 A A30 := SA_trans (cA28) (SA_gluc (ι := oz_H8clsl_3) oz_H8cls_12 hA30 eA30 (by decide +kernel)) (any_subA (lₚ := []) (by decide +kernel))
      have mA30 := SAm_of cA30 oz_H8cls_10
      have r31 : (-2147483648 : Int) ≤ y30_0_21 ∧ y30_0_21 ≤ 2147483647 := rngE (show (-2147483648 : Int) ≤ F30 0 21 ∧ F30 0 21 ≤ 2147483647 from H.krg 0 21 (ltn len_V245_vn_oz_H8cls rfl)) (show F30 0 21 = y30_0_21 from ((eF30 0 21).trans ey30_0_21))
      have hCL : CLA (LTF (ub8 ((w1))) ((u0_9)) ((u0_18)) (moF ((u0_15))) CC.1 CC.2) ((z30)) ((y30_0_21)) ((u0_9)) ((u0_19)) ((u2_1)) ((w3)) := CLA_f (hR.trans (LT2_11 (by omega) (by omega))) (by decide) (by omega) (by omega)
      have hcf0 : IMP (((z30) : Int) = 0) (SLB ((u22_0)) ((((D 4 : Nat) : Int))) (CDO ((LTF (ub8 ((w1))) ((u0_9)) ((u0_18)) (moF ((u0_15))) CC.1 CC.2).2.2.2.2) ((u4_3)) ((w7)))) := fun q => absurd q (by omega)
      have hcf1 : IMP (((z30) : Int) = 0) (NLC ((u22_0)) ((LTF (ub8 ((w1))) ((u0_9)) ((u0_18)) (moF ((u0_15))) CC.1 CC.2).2.2.2.2)) := fun q => absurd q (by omega)
      exact w_ireturn rfl (k (z30) _ _ _ _ _ _ _ H O (SD_refl) (SD_refl) (cF30) (cA30) ((((((show F30 2 0 = F28 2 0 from (eF30 2 0))).trans ((show F28 2 0 = F_c132 2 0 from (eF28 2 0)))).trans (hS_c132 2 0 rfl))).trans (pf3)) (n3) (en3) (u0_9) ((((((show F30 0 9 = F28 0 9 from (eF30 0 9).trans (hS30 0 9 rfl))).trans ((show F28 0 9 = F_c132 0 9 from (eF28 0 9).trans (hS28 0 9 rfl)))).trans (hS_c132 0 9 rfl)).trans (eu0_9))) (u0_19) ((((((show F30 0 19 = F28 0 19 from (eF30 0 19).trans (hS30 0 19 rfl))).trans ((show F28 0 19 = F_c132 0 19 from (eF28 0 19).trans (hS28 0 19 rfl)))).trans (hS_c132 0 19 rfl)).trans (eu0_19))) (y30_0_21) (((eF30 0 21).trans ey30_0_21)) (u2_1) ((((((show F30 2 1 = F28 2 1 from (eF30 2 1))).trans ((show F28 2 1 = F_c132 2 1 from (eF28 2 1)))).trans (hS_c132 2 1 rfl)).trans (eu2_1))) (u4_3) ((((((show F30 4 3 = F28 4 3 from (eF30 4 3))).trans ((show F28 4 3 = F_c132 4 3 from (eF28 4 3)))).trans (hS_c132 4 3 rfl)).trans (eu4_3))) (u22_0) ((((((show F30 22 0 = F28 22 0 from (eF30 22 0))).trans ((show F28 22 0 = F_c132 22 0 from (eF28 22 0)))).trans (hS_c132 22 0 rfl)).trans (eu22_0))) (w3) (((show A30 3 = A28 3 from (eA30 3))).trans (((show A28 3 = A_c132 3 from (eA28 3))).trans ((funext (hA_c132 3 rfl)).trans (ew3)))) (w7) (((show A30 7 = A28 7 from (eA30 7))).trans (((show A28 7 = A_c132 7 from (eA28 7))).trans ((funext (hA_c132 7 rfl)).trans (ew7)))) (show inr (z30) from pz30_0) (show 0 ≤ (z30) ∧ (z30) ≤ 17 from q_4032 pz30_1) (show 0 ≤ (u0_9) ∧ (u0_9) ≤ (u0_18) from q_4136 h0 h1) (show 0 ≤ (u2_1) ∧ (u2_1) ≤ (n3) ∧ (n3) ≤ 65536 from h4) (show (z30) ≠ 0 ∨ 0 ≤ (u0_19) ∧ (u0_19) ≤ 131072 ∧ ((u0_19) ≤ (n3) ∨ (n3) = 65536) from q_4031 pz30_1) (show (z30) ≠ 0 ∨ (u22_0) = -1 ∨ (u22_0) = (((D 4 : Nat) : Int)) from q_4195 pz30_1) (show (z30) ≠ 0 ∨ (u22_0) ≠ (((D 4 : Nat) : Int)) ∨ 0 ≤ (u4_3) ∧ (u4_3) ≤ 11 from q_4134 pz30_1) (h10) (hCL) (show IMP ((z30) = 0) (SLB ((u22_0)) ((((D 4 : Nat) : Int))) (CDO ((LTF (ub8 ((w1))) ((u0_9)) ((u0_18)) (moF ((u0_15))) CC.1 CC.2).2.2.2.2) ((u4_3)) ((w7)))) by assumption) (show IMP ((z30) = 0) (NLC ((u22_0)) ((LTF (ub8 ((w1))) ((u0_9)) ((u0_18)) (moF ((u0_15))) CC.1 CC.2).2.2.2.2)) by assumption) (show (z30) ≠ 0 ∨ (u0_19) ≤ moF ((u0_15)) from q_4030 pz30_1) (show (z30) ≠ 0 ∨ (y30_0_21) = (u0_21) from q_4029 pz30_1))
    · refine Ew_of (pcₚ := 142) (fun _ => x_iload_n rfl lc132_3) ?_
      have hc166 : ∀ (ls : rO) (σ : rS) (F_c166 : hF) (A_c166 : hA) , rlook ls 0 = some (.ref (D 0)) → rlook ls 1 = some (I (xc132_1)) → rlook ls 2 = some (I (xc132_2)) → rlook ls 3 = some (I (xc132_3)) → rlook ls 4 = some (I (xc132_4)) → rlook ls 8 = some (I (xc132_8)) → rlook ls 9 = some (I (xc132_9)) → HW V245_vn σ D N F_c166 A_c166 → OUT (V245_vn).length D N σE c s D N σ c s → SF [] F28 F_c166 → SA [] A28 A_c166 → (((xc132_3) ≤ (0)) ∨ ((xc132_3) > (0) ∧ (xc132_8) ≥ ((3 * ((xc132_8 + 3) / 4))))) → Ew 245 (d + 5) 166 ls [] σ c s Q := by
       as_aux_lemma =>
        intro  ls σ F_c166 A_c166  lc166_0 lc166_1 lc166_2 lc166_3 lc166_4 lc166_8 lc166_9 H O hS_c166 hA_c166     jc166_0
        have cF_c166 : SF oz_H8clsl_9 F F_c166 := SF_trans (cF28) hS_c166 (any_sub (by decide +kernel))
        have mF_c166 := SFm_of cF_c166 oz_H8cls_26
        have cA_c166 : SA oz_H8clsl_1 A A_c166 := SA_trans (cA28) hA_c166 (any_subA (by decide +kernel))
        have mA_c166 := SAm_of cA_c166 oz_H8cls_10
        have hc189 : ∀ (ls : rO) (σ : rS) (F_c189 : hF) (A_c189 : hA) , rlook ls 0 = some (.ref (D 0)) → rlook ls 2 = some (I (xc132_2)) → rlook ls 3 = some (I (xc132_3)) → rlook ls 4 = some (I (xc132_4)) → rlook ls 8 = some (I (xc132_8)) → rlook ls 9 = some (I (xc132_9)) → HW V245_vn σ D N F_c189 A_c189 → OUT (V245_vn).length D N σE c s D N σ c s → SF [] F_c166 F_c189 → SA [] A_c166 A_c189 → ((xc132_2) = 2 ∨ (xc132_2) = 3 ∧ (u22_0) ≠ -1) → ((u0_21) = (u0_21)) → Ew 245 (d + 5) 189 ls [] σ c s Q := by
         as_aux_lemma =>
          intro  ls σ F_c189 A_c189  lc189_0 lc189_2 lc189_3 lc189_4 lc189_8 lc189_9 H O hS_c189 hA_c189     jc189_0 jc189_1
          have cF_c189 : SF oz_H8clsl_9 F F_c189 := SF_trans (cF_c166) hS_c189 (any_sub (by decide +kernel))
          have mF_c189 := SFm_of cF_c189 oz_H8cls_26
          have cA_c189 : SA oz_H8clsl_1 A A_c189 := SA_trans (cA_c166) hA_c189 (any_subA (by decide +kernel))
          have mA_c189 := SAm_of cA_c189 oz_H8cls_10
          have hnot : ¬ (moF ((u0_15)) < (xc132_8) ∨ 0 < (xc132_3) ∧ (xc132_8) < 3 * (((xc132_8) + 3) / 4)) := by omega
          have hk13 : ¬ ((xc132_2) = 3 ∧ CC.1 = 0) := fun q => by have q1 := q.1; have q2 := q.2; have := NLC_y hNL (by omega); omega
          refine Ew_of (pcₚ := 190) (fun _ => x_aload_n rfl lc189_0) ?_
          refine Ew_of (pcₚ := 191) (fun _ => x_dup rfl rfl) ?_
          refine v_g H (o := 0) (v := I (u0_9)) rfl rfl rfl rfl rfl (congrArg (fun z : Int => I z) ((((((hS_c189 0 9 rfl).trans (hS_c166 0 9 rfl)).trans ((show F28 0 9 = F_c132 0 9 from (eF28 0 9).trans (hS28 0 9 rfl)))).trans (hS_c132 0 9 rfl)).trans (eu0_9)) : F_c189 0 9 = u0_9)) ?_
          refine Ew_of (pcₚ := 196) (fun _ => x_iload rfl lc189_4) ?_
          refine w_iadd rfl ?_
          refine v_p H (o := 0) (z := (u0_9 + xc132_4)) (v := I ((u0_9 + xc132_4))) rfl rfl rfl rfl rfl rfl rfl rfl (show (-2147483648 : Int) ≤ (u0_9 + xc132_4) ∧ (u0_9 + xc132_4) ≤ 2147483647 from q_4137 h0 h1 jc132_11 jc132_12) (fun σ H Oₚ => ?_)
          have O := OUT_trans O Oₚ
          have cFu32 : SF oz_H8clsl_9 F (updF F_c189 0 9 ((u0_9 + xc132_4))) := SF_upd (cF_c189) rfl
          have mFu32 := SFm_of cFu32 oz_H8cls_26
          refine Ew_of (pcₚ := 201) (fun _ => x_aload_n rfl lc189_0) ?_
          refine v_g H (o := 0) (v := I (u0_18)) rfl rfl rfl rfl rfl (congrArg (fun z : Int => I z) (((mFu32 0 18 rfl).trans (eu0_18)) : (updF F_c189 0 9 ((u0_9 + xc132_4))) 0 18 = u0_18)) ?_
          refine Ew_of (pcₚ := 205) (fun _ => x_aload_n rfl lc189_0) ?_
          refine v_g H (o := 0) (v := I ((u0_9 + xc132_4))) rfl rfl rfl rfl rfl (congrArg (fun z : Int => I z) (rfl : (updF F_c189 0 9 ((u0_9 + xc132_4))) 0 9 = (u0_9 + xc132_4))) ?_
          refine w_isub rfl ?_
          refine Ew_of (pcₚ := 211) (fun _ => x_iload rfl lc189_9) ?_
          refine w_icmpge (t := 225) rfl rfl (show inr ((u0_18 - (u0_9 + xc132_4))) from q_4138 h0 h1 jc132_11 jc132_12) (show inr (xc132_9) from jc132_5) (fun b33 => ?_) (fun b33 => ?_)
          · refine Ew_of (pcₚ := 226) (fun _ => x_aload_n rfl lc189_0) ?_
            refine v_g H (o := 0) (v := I ((u0_9 + xc132_4))) rfl rfl rfl rfl rfl (congrArg (fun z : Int => I z) (rfl : (updF F_c189 0 9 ((u0_9 + xc132_4))) 0 9 = (u0_9 + xc132_4))) ?_
            refine Ew_of (pcₚ := 231) (fun _ => x_iload rfl lc189_9) ?_
            refine w_iadd rfl ?_
            refine Ew_of (pcₚ := 234) (fun _ => x_istore rfl) ?_
            have hc291 : ∀ (ls : rO) (σ : rS) (F_c291 : hF) (A_c291 : hA) , rlook ls 0 = some (.ref (D 0)) → rlook ls 3 = some (I (xc132_3)) → rlook ls 8 = some (I (xc132_8)) → rlook ls 10 = some (I (((u0_9 + xc132_4) + xc132_9))) → HW V245_vn σ D N F_c291 A_c291 → OUT (V245_vn).length D N σE c s D N σ c s → SF [(0, 9), (4, 3), (13, 0), (13, 10), (13, 11), (13, 12), (22, 0), (23, 0), (23, 1), (23, 2)] (updF F_c189 0 9 ((u0_9 + xc132_4))) F_c291 → SA [5, 6, 7, 8, 14, 15, 16, 17, 18, 19, 20, 21] A_c189 A_c291 → ∀ yc291_0_9 : Int, F_c291 0 9 = yc291_0_9 → ∀ yc291_4_3 : Int, F_c291 4 3 = yc291_4_3 → ∀ yc291_22_0 : Int, F_c291 22 0 = yc291_22_0 → ∀ wc291_7 : Int → Int, A_c291 7 = wc291_7 → (0 ≤ (yc291_0_9) ∧ (yc291_0_9) ≤ (((u0_9 + xc132_4) + xc132_9))) → ((yc291_22_0) ≠ -1) → ((yc291_22_0) = -1 ∨ (yc291_22_0) = (((D 4 : Nat) : Int))) → ((yc291_22_0) ≠ (((D 4 : Nat) : Int)) ∨ 0 ≤ (yc291_4_3) ∧ (yc291_4_3) ≤ 11) → (CEL ((wc291_7))) → (∃ C2 : Int × (Int → Int), LTF (ub8 ((w1))) ((u0_9)) ((u0_18)) (moF ((u0_15))) CC.1 CC.2 = LT3 (ub8 ((w1))) ((yc291_0_9)) ((((u0_9 + xc132_4) + xc132_9))) ((xc132_3)) ((xc132_8)) C2.1 C2.2 ∧ 1 ≤ C2.1 ∧ SLB ((yc291_22_0)) ((((D 4 : Nat) : Int))) (CDO (C2) ((yc291_4_3)) ((wc291_7)))) → ((u0_21) = (u0_21)) → Ew 245 (d + 5) 291 ls [] σ c s Q := by
             as_aux_lemma =>
              intro  ls σ F_c291 A_c291  lc291_0 lc291_3 lc291_8 lc291_10 H O hS_c291 hA_c291   yc291_0_9 eyc291_0_9 yc291_4_3 eyc291_4_3 yc291_22_0 eyc291_22_0 wc291_7 ewc291_7 jc291_0 jc291_1 jc291_2 jc291_3 jc291_4 jc291_5 jc291_6
              have cF_c291 : SF oz_H8clsl_9 F F_c291 := SF_trans (cFu32) hS_c291 (any_sub (by decide +kernel))
              have mF_c291 := SFm_of cF_c291 oz_H8cls_26
              have cA_c291 : SA oz_H8clsl_1 A A_c291 := SA_trans (cA_c189) hA_c291 (any_subA (by decide +kernel))
              have mA_c291 := SAm_of cA_c291 oz_H8cls_10
              replace eyc291_0_9 := HIDm eyc291_0_9
              replace eyc291_4_3 := HIDm eyc291_4_3
              replace eyc291_22_0 := HIDm eyc291_22_0
              have r34 : (-2147483648 : Int) ≤ yc291_0_9 ∧ yc291_0_9 ≤ 2147483647 := rngE (show (-2147483648 : Int) ≤ F_c291 0 9 ∧ F_c291 0 9 ≤ 2147483647 from H.krg 0 9 (ltn len_V245_vn_oz_H8cls rfl)) (show F_c291 0 9 = yc291_0_9 from (eyc291_0_9))
              have r35 : (-2147483648 : Int) ≤ yc291_4_3 ∧ yc291_4_3 ≤ 2147483647 := rngE (show (-2147483648 : Int) ≤ F_c291 4 3 ∧ F_c291 4 3 ≤ 2147483647 from H.krg 4 3 (ltn len_V245_vn_oz_H8cls rfl)) (show F_c291 4 3 = yc291_4_3 from (eyc291_4_3))
              have k291 : ∃ C2 : Int × (Int → Int), LTF (ub8 ((w1))) ((u0_9)) ((u0_18)) (moF ((u0_15))) CC.1 CC.2 = LT3 (ub8 ((w1))) ((yc291_0_9)) ((((u0_9 + xc132_4) + xc132_9))) ((xc132_3)) ((xc132_8)) C2.1 C2.2 ∧ 1 ≤ C2.1 ∧ SLB ((yc291_22_0)) ((((D 4 : Nat) : Int))) (CDO (C2) ((yc291_4_3)) ((wc291_7))) := by assumption
              obtain ⟨C2_, hLT3, hC21, hCs0⟩ := k291
              have hln : 0 ≤ ((xc132_8) : Int) := q_4139 jc132_7
              have hl_ : HID (((xc132_3) : Int) = 0 ∨ 3 * (((xc132_8) + 3) / 4) ≤ (xc132_8)) := (Decidable.em ((0 : Int) < (xc132_3))).elim (fun a_ => .inr (Int.not_lt.mp fun b_ => hnot (.inr ⟨a_, b_⟩))) (fun a_ => .inl (by omega))
              refine Ew_of (pcₚ := 292) (fun _ => x_aload_n rfl lc291_0) ?_
              refine Ew_of (pcₚ := 294) (fun _ => x_iload rfl lc291_8) ?_
              refine v_p H (o := 0) (z := xc132_8) (v := I (xc132_8)) rfl rfl rfl rfl rfl rfl rfl rfl (show (-2147483648 : Int) ≤ xc132_8 ∧ xc132_8 ≤ 2147483647 from q_4140 hln jc132_7) (fun σ H Oₚ => ?_)
              have O := OUT_trans O Oₚ
              have cFu36 : SF oz_H8clsl_9 F (updF F_c291 0 19 (xc132_8)) := SF_upd (cF_c291) rfl
              have mFu36 := SFm_of cFu36 oz_H8cls_26
              refine Ew_of (pcₚ := 298) (fun _ => x_aload_n rfl lc291_0) ?_
              refine v_g H (o := 0) (v := .ref (D 2)) rfl rfl rfl rfl rfl (vrf ((mFu36 0 4 rfl).trans (pf2))) ?_
              refine Ew_of (pcₚ := 303) (fun _ => x_iload rfl lc291_8) ?_
              refine Ew_of (pcₚ := 305) (fun _ => x_ldc (z := 65536) rfl (by decide)) ?_
              refine v_min rfl rfl (show inr (xc132_8) from jc132_4) (show inr (65536) from q_52) (fun z37 gz37 => ?_)
              refine v_inv H (o := 2) rfl rfl rfl rfl rfl rfl (by rfl) (C157 (D := puc 1538 D) (N := puc 1538 N) (HW_subc H oz_H8cls_21 oz_H8cls_13) (((((((hS_c291 2 0 rfl).trans (hS_c189 2 0 rfl)).trans (hS_c166 2 0 rfl)).trans ((show F28 2 0 = F_c132 2 0 from (eF28 2 0)))).trans (hS_c132 2 0 rfl))).trans (pf3)) (n3) (en3) (u2_1) (((((((hS_c291 2 1 rfl).trans (hS_c189 2 1 rfl)).trans (hS_c166 2 1 rfl)).trans ((show F28 2 1 = F_c132 2 1 from (eF28 2 1)))).trans (hS_c132 2 1 rfl)).trans (eu2_1))) (w3) ((funext (hA_c291 3 rfl)).trans ((funext (hA_c189 3 rfl)).trans ((funext (hA_c166 3 rfl)).trans (((show A28 3 = A_c132 3 from (eA28 3))).trans ((funext (hA_c132 3 rfl)).trans (ew3)))))) (show inr (z37) from q_4141 gz37 hln jc132_7) (show 0 ≤ (u2_1) ∧ (u2_1) ≤ (n3) ∧ (n3) ≤ 65536 from h4) (fun z38 σ38 D38ₚ N38ₚ F38ₚ A38ₚ c38 s38 Hₚ Oₚ hD38 hN38 hS38 hA38 (pm38_1 : HID _) m38_1 (em38_1 : HID _) w38_1 ew38_1 pz38_0 pz38_1 pz38_2 pz38_3 pz38_4 => ⟨rretB rfl pz38_0, ?_⟩))
              refine v_backMc (c := c) (s := s) H oz_H8cls_21 oz_H8cls_13 Hₚ Oₚ hD38 oz_H8cls_22 (fun D38 N38 F38 A38 H Oₚ eD38 eN38 eF38 eA38 => ?_)
              have O := OUT_trans O Oₚ
              -- Row.reserve
              have cF38 : SF oz_H8clsl_9 F F38 := SF_trans (cFu36) (SF_gluc (ι := oz_H8clsl_4) oz_H8cls_13 hS38 eF38 (by decide +kernel)) (any_sub (lₚ := [(2, 0)]) (by decide +kernel))
              have mF38 := SFm_of cF38 oz_H8cls_26
              have cA38 : SA oz_H8clsl_1 A A38 := SA_trans (cA_c291) (SA_gluc (ι := oz_H8clsl_4) oz_H8cls_13 hA38 eA38 (by decide +kernel)) (any_subA (lₚ := [3]) (by decide +kernel))
              have mA38 := SAm_of cA38 oz_H8cls_10
              have cD38 : SD oz_H8clsl_2 D D38 := SD_trans (SD_refl) (SD_gluc (ι := oz_H8clsl_4) oz_H8cls_13 hD38 eD38 (by decide +kernel)) (any_subA (lₚ := [3]) (by decide +kernel))
              have mD38 := SDm_of cD38 oz_H8cls_11
              have cN38 : SD oz_H8clsl_2 N N38 := SD_trans (SD_refl) (SD_gluc (ι := oz_H8clsl_4) oz_H8cls_13 hN38 eN38 (by decide +kernel)) (any_subA (lₚ := [3]) (by decide +kernel))
              have mN38 := SDm_of cN38 oz_H8cls_11
              have pf38_2_0 : HID (F38 2 0 = (D38 3 : Int)) := (eF38 2 0).trans (pm38_1.trans (congrArg (fun q : Nat => (q : Int)) (eD38 3).symm))
              have r39 : (0 : Int) ≤ m38_1 ∧ m38_1 ≤ 1000000 := nleE (H.nle 3 (ltn len_V245_vn_oz_H8cls rfl)) (show (N38 3 : Int) = m38_1 from (congrArg (fun q : Nat => (q : Int)) (eN38 3)).trans em38_1)
              have hdd40 : ((D38 4 : Nat) : Int) = ((D 4 : Nat) : Int) := congrArg (fun q : Nat => (q : Int)) (show D38 4 = D 4 from (eD38 4))
              have hrs : (xc132_8) ≤ (m38_1) ∨ (m38_1) = 65536 := by omega
              have hCs0 : SLB ((yc291_22_0)) ((((D38 4 : Nat) : Int))) (CDO (C2_) ((yc291_4_3)) ((wc291_7))) := Or.imp_left (fun w e => w (e.trans (by first | rfl | assumption))) hCs0
              try clear pz38_2
              refine Ew_of (pcₚ := 312) (fun _ => x_pop rfl rfl) ?_
              have hczp : CDZD ((n5)) ((n6)) ((n7)) ((n8)) ((n9)) ((n10)) ((n11)) ((n12)) := h6
              unfold CDZD at hczp
              have hwzp : SHZD ((n14)) ((n15)) ((n16)) ((n17)) ((n18)) ((n19)) ((n20)) ((n21)) ((u13_1)) 12 64 := h7
              unfold SHZD at hwzp
              refine Ew_of (pcₚ := 313) (fun _ => x_aload_n rfl lc291_0) ?_
              refine Ew_of (pcₚ := 315) (fun _ => x_iload rfl lc291_10) ?_
              refine Ew_of (pcₚ := 317) (fun _ => x_iload rfl lc291_8) ?_
              refine Ew_of (pcₚ := 318) (fun _ => x_iload_n rfl lc291_3) ?_
              refine w_ifne (t := 325) rfl rfl (show inr (xc132_3) from jc132_2) (fun b41 => ?_) (fun b41 => ?_)
              · refine Ew_of (pcₚ := 326) (fun _ => x_iconst rfl) ?_
                refine Ew_stk (congrArg (fun qz : Nat => ([I (4), I (xc132_8), I (((u0_9 + xc132_4) + xc132_9)), .ref qz] : List Value)) (show D38 0 = D 0 from mD38 0 rfl).symm) ?_
                rcases (show yc291_22_0 = ((D38 4 : Nat) : Int) by first | assumption | omega) with b42
                · have pb43 : HID (F38 22 0 = ((D38 4 : Nat) : Int)) := ((((show F38 22 0 = (updF F_c291 0 19 (xc132_8)) 22 0 from (eF38 22 0))).trans (eyc291_22_0))).trans b42
                  have hCD := Or.resolve_left hCs0 (fun w => w b42)
                  have hT2 : (yc291_4_3) = C2_.1 := hCD.1
                  have hCI_ : CI C2_.2 ((yc291_4_3)) := hCD.2.1
                  have hFL_ : fl ((wc291_7)) (p2 ((yc291_4_3))) = (CELS C2_.2 ((yc291_4_3))).map (clF C2_.2) := hCD.2.2
                  refine v_inv H (o := 0) rfl rfl rfl rfl rfl rfl (by rfl) (C246 (D := puc 212263799886946238976 D38) (N := puc 212263799886946238976 N38) (HW_subc H oz_H8cls_23 oz_H8cls_27) ((mF38 0 7 rfl).trans ((pf1).trans (congrArg (fun q : Nat => (q : Int)) (mD38 1 rfl).symm))) ((mF38 0 4 rfl).trans ((pf2).trans (congrArg (fun q : Nat => (q : Int)) (mD38 2 rfl).symm))) (pf38_2_0) ((mF38 0 3 rfl).trans ((pf22).trans (congrArg (fun q : Nat => (q : Int)) (mD38 22 rfl).symm))) (pb43) ((mF38 4 2 rfl).trans ((pf7).trans (congrArg (fun q : Nat => (q : Int)) (mD38 7 rfl).symm))) ((mF38 4 9 rfl).trans ((pf23).trans (congrArg (fun q : Nat => (q : Int)) (mD38 23 rfl).symm))) (n1) ((congrArg (fun q : Nat => (q : Int)) (mN38 1 rfl)).trans (en1)) (m38_1) ((congrArg (fun q : Nat => (q : Int)) (eN38 3)).trans em38_1) (n7) ((congrArg (fun q : Nat => (q : Int)) (mN38 7 rfl)).trans (en7)) (yc291_0_9) ((((show F38 0 9 = (updF F_c291 0 19 (xc132_8)) 0 9 from (eF38 0 9))).trans (eyc291_0_9))) (u0_21) (((((((((show F38 0 21 = (updF F_c291 0 19 (xc132_8)) 0 21 from (eF38 0 21))).trans (hS_c291 0 21 rfl)).trans (hS_c189 0 21 rfl)).trans (hS_c166 0 21 rfl)).trans ((show F28 0 21 = F_c132 0 21 from (eF28 0 21).trans (hS28 0 21 rfl)))).trans (hS_c132 0 21 rfl)).trans (eu0_21))) (u2_1) (((((((((show F38 2 1 = (updF F_c291 0 19 (xc132_8)) 2 1 from (eF38 2 1).trans (hS38 0 1 rfl))).trans (hS_c291 2 1 rfl)).trans (hS_c189 2 1 rfl)).trans (hS_c166 2 1 rfl)).trans ((show F28 2 1 = F_c132 2 1 from (eF28 2 1)))).trans (hS_c132 2 1 rfl)).trans (eu2_1))) (yc291_4_3) ((((show F38 4 3 = (updF F_c291 0 19 (xc132_8)) 4 3 from (eF38 4 3))).trans (eyc291_4_3))) (w1) ((funext (mA38 1 rfl)).trans (ew1)) (w38_1) ((eA38 3).trans ew38_1) (wc291_7) (((show A38 7 = A_c291 7 from (eA38 7))).trans (ewc291_7)) (C2_.2) (show inr (((u0_9 + xc132_4) + xc132_9)) from q_4145 b33 h0 h1 jc291_0) (show inr (xc132_8) from jc132_4) (show inr (4) from q_216) (show 0 ≤ (yc291_0_9) ∧ (yc291_0_9) ≤ (((u0_9 + xc132_4) + xc132_9)) ∧ (((u0_9 + xc132_4) + xc132_9)) ≤ (n1) ∧ (n1) ≤ 65536 from q_4144 b33 h0 h1 jc291_0) (show 0 ≤ (xc132_8) ∧ (xc132_8) ≤ 131072 from q_4143 b29 hln pz28_1) (show (4) = 1 ∨ (4) = 4 from q_4142) (show 0 ≤ (u2_1) ∧ (u2_1) ≤ (m38_1) ∧ (m38_1) ≤ 65536 from pz38_1) (show (4) = 1 ∨ 3 * (((xc132_8) + 3) / 4) ≤ (xc132_8) by omega) (show (u2_1) = 0 from h5) (hCI_) (hFL_) (show 0 ≤ (yc291_4_3) ∧ (yc291_4_3) ≤ 11 by omega) (jc291_4) (show (n7) = 2048 by omega) (fun z44 σ44 F44ₚ A44ₚ Hₚ Oₚ hS44 hA44 y44_0_9 (ey44_0_9 : HID _) y44_0_21 (ey44_0_21 : HID _) y44_2_1 (ey44_2_1 : HID _) w44_3 ew44_3 pz44_0 pz44_1 pz44_2 pz44_3 pz44_4 pz44_5 pz44_6 => ⟨rfl, ?_⟩))
                  refine v_backc (c := (c + c38)) (s := (s + s38)) H oz_H8cls_23 oz_H8cls_27 Hₚ Oₚ (fun F44 A44 H Oₚ eF44 eA44 => ?_)
                  have O := OUT_trans O Oₚ
                  -- Unpacker.unpackStreams
                  have cF44 : SF oz_H8clsl_9 F F44 := SF_trans (cF38) (SF_gluc (ι := oz_H8clsl_10) oz_H8cls_27 hS44 eF44 (by decide +kernel)) (any_sub (lₚ := [(0, 9), (0, 21), (2, 1), (23, 0), (23, 1), (23, 2)]) (by decide +kernel))
                  have mF44 := SFm_of cF44 oz_H8cls_26
                  have cA44 : SA oz_H8clsl_1 A A44 := SA_trans (cA38) (SA_gluc (ι := oz_H8clsl_10) oz_H8cls_27 hA44 eA44 (by decide +kernel)) (any_subA (lₚ := [3]) (by decide +kernel))
                  have mA44 := SAm_of cA44 oz_H8cls_10
                  have r45 : (-2147483648 : Int) ≤ y44_0_9 ∧ y44_0_9 ≤ 2147483647 := rngE (show (-2147483648 : Int) ≤ F44 0 9 ∧ F44 0 9 ≤ 2147483647 from H.krg 0 9 (ltn len_V245_vn_oz_H8cls rfl)) (show F44 0 9 = y44_0_9 from ((eF44 0 9).trans ey44_0_9))
                  have r46 : (-2147483648 : Int) ≤ y44_0_21 ∧ y44_0_21 ≤ 2147483647 := rngE (show (-2147483648 : Int) ≤ F44 0 21 ∧ F44 0 21 ≤ 2147483647 from H.krg 0 21 (ltn len_V245_vn_oz_H8cls rfl)) (show F44 0 21 = y44_0_21 from ((eF44 0 21).trans ey44_0_21))
                  have r47 : (-2147483648 : Int) ≤ y44_2_1 ∧ y44_2_1 ≤ 2147483647 := rngE (show (-2147483648 : Int) ≤ F44 2 1 ∧ F44 2 1 ≤ 2147483647 from H.krg 2 1 (ltn len_V245_vn_oz_H8cls rfl)) (show F44 2 1 = y44_2_1 from ((eF44 2 1).trans ey44_2_1))
                  have hPL : ((z44) : Int) ≠ 0 ∨ (y44_0_21) = (u0_21) := pz44_6
                  have hS_ := pz44_4
                  rw [hT2] at hS_
                  have hU : CLA (LTF (ub8 ((w1))) ((u0_9)) ((u0_18)) (moF ((u0_15))) CC.1 CC.2) ((z44)) ((y44_0_21)) ((y44_0_9)) ((xc132_8)) ((y44_2_1)) ((w44_3)) ∧ (((z44) : Int) = 0 → _) := LT3_u hLT3 (by first | exact .inl ⟨by assumption, rfl⟩ | exact .inr ⟨by assumption, by decide⟩ | omega) hS_ hln hl_ pz44_5 rfl hrs
                  have hCL : CLA (LTF (ub8 ((w1))) ((u0_9)) ((u0_18)) (moF ((u0_15))) CC.1 CC.2) ((z44)) ((y44_0_21)) ((y44_0_9)) ((xc132_8)) ((y44_2_1)) ((w44_3)) := hU.1
                  have hcf0 : IMP (((z44) : Int) = 0) (SLB ((yc291_22_0)) ((((D38 4 : Nat) : Int))) (CDO ((LTF (ub8 ((w1))) ((u0_9)) ((u0_18)) (moF ((u0_15))) CC.1 CC.2).2.2.2.2) ((yc291_4_3)) ((wc291_7)))) := fun q => by rw [hU.2 q]; exact hCs0
                  have hcf1 : IMP (((z44) : Int) = 0) (NLC ((yc291_22_0)) ((LTF (ub8 ((w1))) ((u0_9)) ((u0_18)) (moF ((u0_15))) CC.1 CC.2).2.2.2.2)) := fun q => by rw [hU.2 q]; exact .inr ⟨by first | assumption | omega, hC21⟩
                  try clear pz44_5
                  try clear pz44_6
                  exact w_ireturn rfl (k (z44) _ _ _ _ _ _ _ H O (cD38) (cN38) (cF44) (cA44) ((((show F44 2 0 = F38 2 0 from (eF44 2 0).trans (hS44 2 0 rfl)))).trans (pf38_2_0)) (m38_1) ((congrArg (fun q : Nat => (q : Int)) (eN38 3)).trans em38_1) (y44_0_9) (((eF44 0 9).trans ey44_0_9)) (xc132_8) ((((show F44 0 19 = F38 0 19 from (eF44 0 19).trans (hS44 0 19 rfl))).trans ((show F38 0 19 = (updF F_c291 0 19 (xc132_8)) 0 19 from (eF38 0 19))))) (y44_0_21) (((eF44 0 21).trans ey44_0_21)) (y44_2_1) (((eF44 2 1).trans ey44_2_1)) (yc291_4_3) (((((show F44 4 3 = F38 4 3 from (eF44 4 3).trans (hS44 5 3 rfl))).trans ((show F38 4 3 = (updF F_c291 0 19 (xc132_8)) 4 3 from (eF38 4 3)))).trans (eyc291_4_3))) (yc291_22_0) (((((show F44 22 0 = F38 22 0 from (eF44 22 0).trans (hS44 4 0 rfl))).trans ((show F38 22 0 = (updF F_c291 0 19 (xc132_8)) 22 0 from (eF38 22 0)))).trans (eyc291_22_0))) (w44_3) ((eA44 3).trans ew44_3) (wc291_7) (((show A44 7 = A38 7 from (eA44 7).trans (funext (hA44 6 rfl)))).trans (((show A38 7 = A_c291 7 from (eA38 7))).trans (ewc291_7))) (show inr (z44) from pz44_0) (show 0 ≤ (z44) ∧ (z44) ≤ 17 from pz44_1) (show 0 ≤ (y44_0_9) ∧ (y44_0_9) ≤ (u0_18) from q_4148 b33 pz44_2) (show 0 ≤ (y44_2_1) ∧ (y44_2_1) ≤ (m38_1) ∧ (m38_1) ≤ 65536 from pz44_3) (show (z44) ≠ 0 ∨ 0 ≤ (xc132_8) ∧ (xc132_8) ≤ 131072 ∧ ((xc132_8) ≤ (m38_1) ∨ (m38_1) = 65536) from q_4147 b29 hln hrs pz28_1) (show (z44) ≠ 0 ∨ (yc291_22_0) = -1 ∨ (yc291_22_0) = (((D38 4 : Nat) : Int)) by omega) (show (z44) ≠ 0 ∨ (yc291_22_0) ≠ (((D38 4 : Nat) : Int)) ∨ 0 ≤ (yc291_4_3) ∧ (yc291_4_3) ≤ 11 by omega) (jc291_4) (hCL) (show IMP ((z44) = 0) (SLB ((yc291_22_0)) ((((D38 4 : Nat) : Int))) (CDO ((LTF (ub8 ((w1))) ((u0_9)) ((u0_18)) (moF ((u0_15))) CC.1 CC.2).2.2.2.2) ((yc291_4_3)) ((wc291_7)))) by assumption) (show IMP ((z44) = 0) (NLC ((yc291_22_0)) ((LTF (ub8 ((w1))) ((u0_9)) ((u0_18)) (moF ((u0_15))) CC.1 CC.2).2.2.2.2)) by assumption) (show (z44) ≠ 0 ∨ (xc132_8) ≤ moF ((u0_15)) from q_4146 b29 pz28_2) (show (z44) ≠ 0 ∨ (y44_0_21) = (u0_21) from hPL))
              · refine Ew_of (pcₚ := 322) (fun _ => x_iconst rfl) ?_
                refine Ew_of (pcₚ := 326) (fun _ => x_goto rfl rfl) ?_
                refine Ew_stk (congrArg (fun qz : Nat => ([I (1), I (xc132_8), I (((u0_9 + xc132_4) + xc132_9)), .ref qz] : List Value)) (show D38 0 = D 0 from mD38 0 rfl).symm) ?_
                rcases (show yc291_22_0 = ((D38 4 : Nat) : Int) by first | assumption | omega) with b48
                · have pb49 : HID (F38 22 0 = ((D38 4 : Nat) : Int)) := ((((show F38 22 0 = (updF F_c291 0 19 (xc132_8)) 22 0 from (eF38 22 0))).trans (eyc291_22_0))).trans b48
                  have hCD := Or.resolve_left hCs0 (fun w => w b48)
                  have hT2 : (yc291_4_3) = C2_.1 := hCD.1
                  have hCI_ : CI C2_.2 ((yc291_4_3)) := hCD.2.1
                  have hFL_ : fl ((wc291_7)) (p2 ((yc291_4_3))) = (CELS C2_.2 ((yc291_4_3))).map (clF C2_.2) := hCD.2.2
                  refine v_inv H (o := 0) rfl rfl rfl rfl rfl rfl (by rfl) (C246 (D := puc 212263799886946238976 D38) (N := puc 212263799886946238976 N38) (HW_subc H oz_H8cls_23 oz_H8cls_27) ((mF38 0 7 rfl).trans ((pf1).trans (congrArg (fun q : Nat => (q : Int)) (mD38 1 rfl).symm))) ((mF38 0 4 rfl).trans ((pf2).trans (congrArg (fun q : Nat => (q : Int)) (mD38 2 rfl).symm))) (pf38_2_0) ((mF38 0 3 rfl).trans ((pf22).trans (congrArg (fun q : Nat => (q : Int)) (mD38 22 rfl).symm))) (pb49) ((mF38 4 2 rfl).trans ((pf7).trans (congrArg (fun q : Nat => (q : Int)) (mD38 7 rfl).symm))) ((mF38 4 9 rfl).trans ((pf23).trans (congrArg (fun q : Nat => (q : Int)) (mD38 23 rfl).symm))) (n1) ((congrArg (fun q : Nat => (q : Int)) (mN38 1 rfl)).trans (en1)) (m38_1) ((congrArg (fun q : Nat => (q : Int)) (eN38 3)).trans em38_1) (n7) ((congrArg (fun q : Nat => (q : Int)) (mN38 7 rfl)).trans (en7)) (yc291_0_9) ((((show F38 0 9 = (updF F_c291 0 19 (xc132_8)) 0 9 from (eF38 0 9))).trans (eyc291_0_9))) (u0_21) (((((((((show F38 0 21 = (updF F_c291 0 19 (xc132_8)) 0 21 from (eF38 0 21))).trans (hS_c291 0 21 rfl)).trans (hS_c189 0 21 rfl)).trans (hS_c166 0 21 rfl)).trans ((show F28 0 21 = F_c132 0 21 from (eF28 0 21).trans (hS28 0 21 rfl)))).trans (hS_c132 0 21 rfl)).trans (eu0_21))) (u2_1) (((((((((show F38 2 1 = (updF F_c291 0 19 (xc132_8)) 2 1 from (eF38 2 1).trans (hS38 0 1 rfl))).trans (hS_c291 2 1 rfl)).trans (hS_c189 2 1 rfl)).trans (hS_c166 2 1 rfl)).trans ((show F28 2 1 = F_c132 2 1 from (eF28 2 1)))).trans (hS_c132 2 1 rfl)).trans (eu2_1))) (yc291_4_3) ((((show F38 4 3 = (updF F_c291 0 19 (xc132_8)) 4 3 from (eF38 4 3))).trans (eyc291_4_3))) (w1) ((funext (mA38 1 rfl)).trans (ew1)) (w38_1) ((eA38 3).trans ew38_1) (wc291_7) (((show A38 7 = A_c291 7 from (eA38 7))).trans (ewc291_7)) (C2_.2) (show inr (((u0_9 + xc132_4) + xc132_9)) from q_4145 b33 h0 h1 jc291_0) (show inr (xc132_8) from jc132_4) (show inr (1) from q_135) (show 0 ≤ (yc291_0_9) ∧ (yc291_0_9) ≤ (((u0_9 + xc132_4) + xc132_9)) ∧ (((u0_9 + xc132_4) + xc132_9)) ≤ (n1) ∧ (n1) ≤ 65536 from q_4144 b33 h0 h1 jc291_0) (show 0 ≤ (xc132_8) ∧ (xc132_8) ≤ 131072 from q_4143 b29 hln pz28_1) (show (1) = 1 ∨ (1) = 4 from q_4150) (show 0 ≤ (u2_1) ∧ (u2_1) ≤ (m38_1) ∧ (m38_1) ≤ 65536 from pz38_1) (show (1) = 1 ∨ 3 * (((xc132_8) + 3) / 4) ≤ (xc132_8) from q_4149) (show (u2_1) = 0 from h5) (hCI_) (hFL_) (show 0 ≤ (yc291_4_3) ∧ (yc291_4_3) ≤ 11 by omega) (jc291_4) (show (n7) = 2048 by omega) (fun z50 σ50 F50ₚ A50ₚ Hₚ Oₚ hS50 hA50 y50_0_9 (ey50_0_9 : HID _) y50_0_21 (ey50_0_21 : HID _) y50_2_1 (ey50_2_1 : HID _) w50_3 ew50_3 pz50_0 pz50_1 pz50_2 pz50_3 pz50_4 pz50_5 pz50_6 => ⟨rfl, ?_⟩))
                  refine v_backc (c := (c + c38)) (s := (s + s38)) H oz_H8cls_23 oz_H8cls_27 Hₚ Oₚ (fun F50 A50 H Oₚ eF50 eA50 => ?_)
                  have O := OUT_trans O Oₚ
                  -- Unpacker.unpackStreams
                  have cF50 : SF oz_H8clsl_9 F F50 := SF_trans (cF38) (SF_gluc (ι := oz_H8clsl_10) oz_H8cls_27 hS50 eF50 (by decide +kernel)) (any_sub (lₚ := [(0, 9), (0, 21), (2, 1), (23, 0), (23, 1), (23, 2)]) (by decide +kernel))
                  have mF50 := SFm_of cF50 oz_H8cls_26
                  have cA50 : SA oz_H8clsl_1 A A50 := SA_trans (cA38) (SA_gluc (ι := oz_H8clsl_10) oz_H8cls_27 hA50 eA50 (by decide +kernel)) (any_subA (lₚ := [3]) (by decide +kernel))
                  have mA50 := SAm_of cA50 oz_H8cls_10
                  have r51 : (-2147483648 : Int) ≤ y50_0_9 ∧ y50_0_9 ≤ 2147483647 := rngE (show (-2147483648 : Int) ≤ F50 0 9 ∧ F50 0 9 ≤ 2147483647 from H.krg 0 9 (ltn len_V245_vn_oz_H8cls rfl)) (show F50 0 9 = y50_0_9 from ((eF50 0 9).trans ey50_0_9))
                  have r52 : (-2147483648 : Int) ≤ y50_0_21 ∧ y50_0_21 ≤ 2147483647 := rngE (show (-2147483648 : Int) ≤ F50 0 21 ∧ F50 0 21 ≤ 2147483647 from H.krg 0 21 (ltn len_V245_vn_oz_H8cls rfl)) (show F50 0 21 = y50_0_21 from ((eF50 0 21).trans ey50_0_21))
                  have r53 : (-2147483648 : Int) ≤ y50_2_1 ∧ y50_2_1 ≤ 2147483647 := rngE (show (-2147483648 : Int) ≤ F50 2 1 ∧ F50 2 1 ≤ 2147483647 from H.krg 2 1 (ltn len_V245_vn_oz_H8cls rfl)) (show F50 2 1 = y50_2_1 from ((eF50 2 1).trans ey50_2_1))
                  have hPL : ((z50) : Int) ≠ 0 ∨ (y50_0_21) = (u0_21) := pz50_6
                  have hS_ := pz50_4
                  rw [hT2] at hS_
                  have hU : CLA (LTF (ub8 ((w1))) ((u0_9)) ((u0_18)) (moF ((u0_15))) CC.1 CC.2) ((z50)) ((y50_0_21)) ((y50_0_9)) ((xc132_8)) ((y50_2_1)) ((w50_3)) ∧ (((z50) : Int) = 0 → _) := LT3_u hLT3 (by first | exact .inl ⟨by assumption, rfl⟩ | exact .inr ⟨by assumption, by decide⟩ | omega) hS_ hln hl_ pz50_5 rfl hrs
                  have hCL : CLA (LTF (ub8 ((w1))) ((u0_9)) ((u0_18)) (moF ((u0_15))) CC.1 CC.2) ((z50)) ((y50_0_21)) ((y50_0_9)) ((xc132_8)) ((y50_2_1)) ((w50_3)) := hU.1
                  have hcf0 : IMP (((z50) : Int) = 0) (SLB ((yc291_22_0)) ((((D38 4 : Nat) : Int))) (CDO ((LTF (ub8 ((w1))) ((u0_9)) ((u0_18)) (moF ((u0_15))) CC.1 CC.2).2.2.2.2) ((yc291_4_3)) ((wc291_7)))) := fun q => by rw [hU.2 q]; exact hCs0
                  have hcf1 : IMP (((z50) : Int) = 0) (NLC ((yc291_22_0)) ((LTF (ub8 ((w1))) ((u0_9)) ((u0_18)) (moF ((u0_15))) CC.1 CC.2).2.2.2.2)) := fun q => by rw [hU.2 q]; exact .inr ⟨by first | assumption | omega, hC21⟩
                  try clear pz50_5
                  try clear pz50_6
                  exact w_ireturn rfl (k (z50) _ _ _ _ _ _ _ H O (cD38) (cN38) (cF50) (cA50) ((((show F50 2 0 = F38 2 0 from (eF50 2 0).trans (hS50 2 0 rfl)))).trans (pf38_2_0)) (m38_1) ((congrArg (fun q : Nat => (q : Int)) (eN38 3)).trans em38_1) (y50_0_9) (((eF50 0 9).trans ey50_0_9)) (xc132_8) ((((show F50 0 19 = F38 0 19 from (eF50 0 19).trans (hS50 0 19 rfl))).trans ((show F38 0 19 = (updF F_c291 0 19 (xc132_8)) 0 19 from (eF38 0 19))))) (y50_0_21) (((eF50 0 21).trans ey50_0_21)) (y50_2_1) (((eF50 2 1).trans ey50_2_1)) (yc291_4_3) (((((show F50 4 3 = F38 4 3 from (eF50 4 3).trans (hS50 5 3 rfl))).trans ((show F38 4 3 = (updF F_c291 0 19 (xc132_8)) 4 3 from (eF38 4 3)))).trans (eyc291_4_3))) (yc291_22_0) (((((show F50 22 0 = F38 22 0 from (eF50 22 0).trans (hS50 4 0 rfl))).trans ((show F38 22 0 = (updF F_c291 0 19 (xc132_8)) 22 0 from (eF38 22 0)))).trans (eyc291_22_0))) (w50_3) ((eA50 3).trans ew50_3) (wc291_7) (((show A50 7 = A38 7 from (eA50 7).trans (funext (hA50 6 rfl)))).trans (((show A38 7 = A_c291 7 from (eA38 7))).trans (ewc291_7))) (show inr (z50) from pz50_0) (show 0 ≤ (z50) ∧ (z50) ≤ 17 from pz50_1) (show 0 ≤ (y50_0_9) ∧ (y50_0_9) ≤ (u0_18) from q_4148 b33 pz50_2) (show 0 ≤ (y50_2_1) ∧ (y50_2_1) ≤ (m38_1) ∧ (m38_1) ≤ 65536 from pz50_3) (show (z50) ≠ 0 ∨ 0 ≤ (xc132_8) ∧ (xc132_8) ≤ 131072 ∧ ((xc132_8) ≤ (m38_1) ∨ (m38_1) = 65536) from q_4147 b29 hln hrs pz28_1) (show (z50) ≠ 0 ∨ (yc291_22_0) = -1 ∨ (yc291_22_0) = (((D38 4 : Nat) : Int)) by omega) (show (z50) ≠ 0 ∨ (yc291_22_0) ≠ (((D38 4 : Nat) : Int)) ∨ 0 ≤ (yc291_4_3) ∧ (yc291_4_3) ≤ 11 by omega) (jc291_4) (hCL) (show IMP ((z50) = 0) (SLB ((yc291_22_0)) ((((D38 4 : Nat) : Int))) (CDO ((LTF (ub8 ((w1))) ((u0_9)) ((u0_18)) (moF ((u0_15))) CC.1 CC.2).2.2.2.2) ((yc291_4_3)) ((wc291_7)))) by assumption) (show IMP ((z50) = 0) (NLC ((yc291_22_0)) ((LTF (ub8 ((w1))) ((u0_9)) ((u0_18)) (moF ((u0_15))) CC.1 CC.2).2.2.2.2)) by assumption) (show (z50) ≠ 0 ∨ (xc132_8) ≤ moF ((u0_15)) from q_4146 b29 pz28_2) (show (z50) ≠ 0 ∨ (y50_0_21) = (u0_21) from hPL))
            refine Ew_of (pcₚ := 235) (fun _ => x_iload_n rfl (rk_o (lc189_2) rfl rfl)) ?_
            refine Ew_of (pcₚ := 236) (fun _ => x_iconst rfl) ?_
            refine w_icmpne (t := 291) rfl rfl (show inr (xc132_2) from jc132_1) (show inr (2) from q_122) (fun b54 => ?_) (fun b54 => ?_)
            · have : ∃ C2 : Int × (Int → Int), LTF (ub8 ((w1))) ((u0_9)) ((u0_18)) (moF ((u0_15))) CC.1 CC.2 = LT3 (ub8 ((w1))) (((u0_9 + xc132_4))) ((((u0_9 + xc132_4) + xc132_9))) ((xc132_3)) ((xc132_8)) C2.1 C2.2 ∧ 1 ≤ C2.1 ∧ SLB ((u22_0)) ((((D 4 : Nat) : Int))) (CDO (C2) ((u4_3)) ((w7))) := by first | exact ⟨(((u4_3)), (DSF (ub8 ((w1))) (qat) ((((u0_9 + xc132_4) + xc132_9)))).2.2.2), hR.trans (LT2_2 (by omega) hnot (by omega) (by omega) (by omega) (by omega) (DSA_1 hds (by omega)).1), CI_t1 (hCI2 (by omega)), .inr (CDO_of (hCI2 (by omega)) (hCX2 (by omega)) (DSA_1 hds (by omega)).2 rfl)⟩ | exact ⟨CC, hR.trans (LT2_k (by omega) hnot hk13 (by omega) (by omega) (by omega) (by omega)), NLC_y hNL (by omega), hC0_0⟩
              exact hc291  _ _ _ _  (rk_o (lc189_0) rfl rfl) (rk_o (lc189_3) rfl rfl) (rk_o (lc189_8) rfl rfl) (rk_s) H O (SF_refl) (SA_refl)   ((u0_9 + xc132_4)) (rfl) (u4_3) ((((((hS_c189 4 3 rfl).trans (hS_c166 4 3 rfl)).trans ((show F28 4 3 = F_c132 4 3 from (eF28 4 3)))).trans (hS_c132 4 3 rfl)).trans (eu4_3))) (u22_0) ((((((hS_c189 22 0 rfl).trans (hS_c166 22 0 rfl)).trans ((show F28 22 0 = F_c132 22 0 from (eF28 22 0)))).trans (hS_c132 22 0 rfl)).trans (eu22_0))) (w7) ((funext (hA_c189 7 rfl)).trans ((funext (hA_c166 7 rfl)).trans (((show A28 7 = A_c132 7 from (eA28 7))).trans ((funext (hA_c132 7 rfl)).trans (ew7))))) (show 0 ≤ ((u0_9 + xc132_4)) ∧ ((u0_9 + xc132_4)) ≤ (((u0_9 + xc132_4) + xc132_9)) from q_4151 h0 jc132_11 jc132_8) (show (u22_0) ≠ -1 by omega) (show (u22_0) = -1 ∨ (u22_0) = (((D 4 : Nat) : Int)) from h8) (show (u22_0) ≠ (((D 4 : Nat) : Int)) ∨ 0 ≤ (u4_3) ∧ (u4_3) ≤ 11 from h9) (h10) (show ∃ C2 : Int × (Int → Int), LTF (ub8 ((w1))) ((u0_9)) ((u0_18)) (moF ((u0_15))) CC.1 CC.2 = LT3 (ub8 ((w1))) (((u0_9 + xc132_4))) ((((u0_9 + xc132_4) + xc132_9))) ((xc132_3)) ((xc132_8)) C2.1 C2.2 ∧ 1 ≤ C2.1 ∧ SLB ((u22_0)) ((((D 4 : Nat) : Int))) (CDO (C2) ((u4_3)) ((w7))) by assumption) (show (u0_21) = (u0_21) from jc189_1)
            · refine Ew_of (pcₚ := 240) (fun _ => x_aload_n rfl (rk_o (lc189_0) rfl rfl)) ?_
              refine v_g H (o := 0) (v := .ref (D 4)) rfl rfl rfl rfl rfl (vrf ((mFu32 0 1 rfl).trans (pf4))) ?_
              refine Ew_of (pcₚ := 244) (fun _ => x_aload_n rfl (rk_o (lc189_0) rfl rfl)) ?_
              refine v_g H (o := 0) (v := .ref (D 1)) rfl rfl rfl rfl rfl (vrf ((mFu32 0 7 rfl).trans (pf1))) ?_
              refine Ew_of (pcₚ := 248) (fun _ => x_aload_n rfl (rk_o (lc189_0) rfl rfl)) ?_
              refine v_g H (o := 0) (v := I ((u0_9 + xc132_4))) rfl rfl rfl rfl rfl (congrArg (fun z : Int => I z) (rfl : (updF F_c189 0 9 ((u0_9 + xc132_4))) 0 9 = (u0_9 + xc132_4))) ?_
              refine Ew_of (pcₚ := 253) (fun _ => x_iload rfl rk_s) ?_
              have hczo : CDZD ((n5)) ((n6)) ((n7)) ((n8)) ((n9)) ((n10)) ((n11)) ((n12)) := h6
              unfold CDZD at hczo
              have hwzo : SHZD ((n14)) ((n15)) ((n16)) ((n17)) ((n18)) ((n19)) ((n20)) ((n21)) ((u13_1)) 12 64 := h7
              unfold SHZD at hwzo
              obtain ⟨qat, hqat⟩ : ∃ q : Int, q = ((u0_9 + xc132_4)) := ⟨_, rfl⟩
              refine v_inv H (o := 4) rfl rfl rfl rfl rfl rfl (by rfl) (C107_Br (D := puc 1003580934059868764852403245804753042539012 D) (N := puc 1003580934059868764852403245804753042539012 N) (HW_subc H oz_H8cls_24 oz_H8cls_28) ((mFu32 4 4 rfl).trans (pf8)) ((mFu32 4 0 rfl).trans (pf5)) ((mFu32 4 1 rfl).trans (pf6)) ((mFu32 4 2 rfl).trans (pf7)) ((mFu32 4 6 rfl).trans (pf13)) ((mFu32 13 2 rfl).trans (pf14)) ((mFu32 13 3 rfl).trans (pf15)) ((mFu32 13 4 rfl).trans (pf16)) ((mFu32 13 5 rfl).trans (pf17)) ((mFu32 13 6 rfl).trans (pf18)) ((mFu32 13 8 rfl).trans (pf20)) ((mFu32 13 7 rfl).trans (pf19)) ((mFu32 13 9 rfl).trans (pf21)) ((mFu32 4 9 rfl).trans (pf23)) (n1) (en1) (n8) (en8) (n5) (en5) (n6) (en6) (n7) (en7) (n14) (en14) (n15) (en15) (n16) (en16) (n17) (en17) (n18) (en18) (n20) (en20) (n19) (en19) (n21) (en21) (u4_3) ((((((hS_c189 4 3 rfl).trans (hS_c166 4 3 rfl)).trans ((show F28 4 3 = F_c132 4 3 from (eF28 4 3)))).trans (hS_c132 4 3 rfl)).trans (eu4_3))) (u13_1) (((mFu32 13 1 rfl).trans (eu13_1))) (w1) ((funext (mA_c189 1 rfl)).trans (ew1)) (A 5) ((funext (hA_c189 5 rfl)).trans ((funext (hA_c166 5 rfl)).trans (((show A28 5 = A_c132 5 from (eA28 5))).trans (funext (hA_c132 5 rfl))))) (A 6) ((funext (hA_c189 6 rfl)).trans ((funext (hA_c166 6 rfl)).trans (((show A28 6 = A_c132 6 from (eA28 6))).trans (funext (hA_c132 6 rfl))))) (w7) ((funext (hA_c189 7 rfl)).trans ((funext (hA_c166 7 rfl)).trans (((show A28 7 = A_c132 7 from (eA28 7))).trans ((funext (hA_c132 7 rfl)).trans (ew7))))) (show inr ((u0_9 + xc132_4)) from q_4154 h0 h1 jc132_11 jc132_12) (show inr (((u0_9 + xc132_4) + xc132_9)) from q_4153 b33 h0 h1 jc132_11 jc132_8) (show 0 ≤ ((u0_9 + xc132_4)) ∧ ((u0_9 + xc132_4)) ≤ 65536 ∧ 0 ≤ (((u0_9 + xc132_4) + xc132_9)) ∧ (((u0_9 + xc132_4) + xc132_9)) ≤ (n1) ∧ (n1) ≤ 65536 from q_4152 b33 h0 h1 jc132_11 jc132_12 jc132_8) (show (n8) = 256 ∧ (n5) = 256 ∧ (n6) = 256 ∧ (n7) = 2048 by omega) (show (n14) = (u13_1) ∧ (n15) = (u13_1) ∧ (n16) = (u13_1) ∧ (n17) = (u13_1) ∧ (n18) = (u13_1) ∧ (n20) = (n19) ∧ (n21) = (n19) ∧ 1 ≤ (u13_1) ∧ (u13_1) ≤ 64 ∧ (u13_1) = 12 ∧ (n19) = 64 by omega) (h10) (fun z55 σ55 F55ₚ A55ₚ Hₚ Oₚ hS55 hA55 y55_0_3 (ey55_0_3 : HID _) w55_3 ew55_3 w55_4 ew55_4 w55_5 ew55_5 pz55_0 pz55_1 pz55_2 pz55_3 pz55_4 pz55_5 pz55_6 pz55_7 => ⟨rfl, ?_⟩))
              refine v_backc (c := c) (s := s) H oz_H8cls_24 oz_H8cls_28 Hₚ Oₚ (fun F55 A55 H Oₚ eF55 eA55 => ?_)
              have O := OUT_trans O Oₚ
              -- Codes.hear
              have cF55 : SF oz_H8clsl_9 F F55 := SF_trans (cFu32) (SF_gluc (ι := oz_H8clsl_11) oz_H8cls_28 hS55 eF55 (by decide +kernel)) (any_sub (lₚ := [(4, 3), (13, 0), (13, 10), (13, 11), (13, 12), (23, 0), (23, 1), (23, 2)]) (by decide +kernel))
              have mF55 := SFm_of cF55 oz_H8cls_26
              have cA55 : SA oz_H8clsl_1 A A55 := SA_trans (cA_c189) (SA_gluc (ι := oz_H8clsl_11) oz_H8cls_28 hA55 eA55 (by decide +kernel)) (any_subA (lₚ := [5, 6, 7, 8, 14, 15, 16, 17, 18, 19, 20, 21]) (by decide +kernel))
              have mA55 := SAm_of cA55 oz_H8cls_10
              have r56 : (-2147483648 : Int) ≤ y55_0_3 ∧ y55_0_3 ≤ 2147483647 := rngE (show (-2147483648 : Int) ≤ F55 4 3 ∧ F55 4 3 ≤ 2147483647 from H.krg 4 3 (ltn len_V245_vn_oz_H8cls rfl)) (show F55 4 3 = y55_0_3 from ((eF55 4 3).trans ey55_0_3))
              (try clear hczo); (try clear hwzo)
              have hhr : z55 = -1 ∨ 0 ≤ z55 ∧ z55 ≤ (((u0_9 + xc132_4) + xc132_9)) ∧ 0 ≤ (y55_0_3) ∧ (y55_0_3) ≤ 11 := by omega
              have hds := pz55_5
              rw [← hqat] at hds
              rw [show qat + (xc132_9) = (((u0_9 + xc132_4) + xc132_9)) by omega] at hds
              have hCI2 := pz55_6
              have hCX2 := pz55_7
              try clear pz55_1
              try clear pz55_3
              refine Ew_of (pcₚ := 258) (fun _ => x_istore rfl) ?_
              refine Ew_of (pcₚ := 260) (fun _ => x_iload rfl rk_s) ?_
              refine w_ifge (t := 274) rfl rfl (show inr (z55) from pz55_0) (fun b57 => ?_) (fun b57 => ?_)
              · refine Ew_of (pcₚ := 275) (fun _ => x_aload_n rfl (rk_o (rk_o (lc189_0) rfl rfl) rfl rfl)) ?_
                refine v_g H (o := 0) (v := .ref (D 22)) rfl rfl rfl rfl rfl (vrf ((mF55 0 3 rfl).trans (pf22))) ?_
                refine Ew_of (pcₚ := 279) (fun _ => x_aload_n rfl (rk_o (rk_o (lc189_0) rfl rfl) rfl rfl)) ?_
                refine v_g H (o := 0) (v := .ref (D 4)) rfl rfl rfl rfl rfl (vrf ((mF55 0 1 rfl).trans (pf4))) ?_
                refine v_p H (o := 22) (z := ((D 4 : Nat) : Int)) (v := .ref (D 4)) rfl rfl rfl rfl rfl rfl (vrf rfl) rfl (show (-1 : Int) ≤ ((D 4 : Nat) : Int) by omega) (fun σ H Oₚ => ?_)
                have O := OUT_trans O Oₚ
                have cFu58 : SF oz_H8clsl_9 F (updF F55 22 0 ((D 4 : Nat) : Int)) := SF_upd (cF55) rfl
                have mFu58 := SFm_of cFu58 oz_H8cls_26
                refine Ew_of (pcₚ := 286) (fun _ => x_aload_n rfl (rk_o (rk_o (lc189_0) rfl rfl) rfl rfl)) ?_
                refine Ew_of (pcₚ := 288) (fun _ => x_iload rfl rk_s) ?_
                refine v_p H (o := 0) (z := z55) (v := I (z55)) rfl rfl rfl rfl rfl rfl rfl rfl (show (-2147483648 : Int) ≤ z55 ∧ z55 ≤ 2147483647 from q_4155 b57 pz55_0) (fun σ H Oₚ => ?_)
                have O := OUT_trans O Oₚ
                have cFu59 : SF oz_H8clsl_9 F (updF (updF F55 22 0 ((D 4 : Nat) : Int)) 0 9 (z55)) := SF_upd (cFu58) rfl
                have mFu59 := SFm_of cFu59 oz_H8cls_26
                have : ∃ C2 : Int × (Int → Int), LTF (ub8 ((w1))) ((u0_9)) ((u0_18)) (moF ((u0_15))) CC.1 CC.2 = LT3 (ub8 ((w1))) ((z55)) ((((u0_9 + xc132_4) + xc132_9))) ((xc132_3)) ((xc132_8)) C2.1 C2.2 ∧ 1 ≤ C2.1 ∧ SLB ((((D 4 : Nat) : Int))) ((((D 4 : Nat) : Int))) (CDO (C2) ((y55_0_3)) ((w55_5))) := by first | exact ⟨(((y55_0_3)), (DSF (ub8 ((w1))) (qat) ((((u0_9 + xc132_4) + xc132_9)))).2.2.2), hR.trans (LT2_2 (by omega) hnot (by omega) (by omega) (by omega) (by omega) (DSA_1 hds (by omega)).1), CI_t1 (hCI2 (by omega)), .inr (CDO_of (hCI2 (by omega)) (hCX2 (by omega)) (DSA_1 hds (by omega)).2 rfl)⟩ | exact ⟨CC, hR.trans (LT2_k (by omega) hnot hk13 (by omega) (by omega) (by omega) (by omega)), NLC_y hNL (by omega), hC0_0⟩
                exact hc291  _ _ _ _  (rk_o (rk_o (lc189_0) rfl rfl) rfl rfl) (rk_o (rk_o (lc189_3) rfl rfl) rfl rfl) (rk_o (rk_o (lc189_8) rfl rfl) rfl rfl) (rk_o (rk_s) rfl rfl) H O (SF_upd (SF_upd (SF_trans (SF_refl) (SF_gluc (ι := oz_H8clsl_11) oz_H8cls_28 hS55 eF55 (by decide +kernel)) (any_sub (lₚ := [(4, 3), (13, 0), (13, 10), (13, 11), (13, 12), (23, 0), (23, 1), (23, 2)]) (by decide +kernel))) rfl) rfl) (SA_trans (SA_refl) (SA_gluc (ι := oz_H8clsl_11) oz_H8cls_28 hA55 eA55 (by decide +kernel)) (any_subA (lₚ := [5, 6, 7, 8, 14, 15, 16, 17, 18, 19, 20, 21]) (by decide +kernel)))   (z55) (rfl) (y55_0_3) (((eF55 4 3).trans ey55_0_3)) (((D 4 : Nat) : Int)) (rfl) (w55_5) ((eA55 7).trans ew55_5) (show 0 ≤ (z55) ∧ (z55) ≤ (((u0_9 + xc132_4) + xc132_9)) from q_4159 b57 h0 hhr jc132_11 jc132_8) (show (((D 4 : Nat) : Int)) ≠ -1 by omega) (show (((D 4 : Nat) : Int)) = -1 ∨ (((D 4 : Nat) : Int)) = (((D 4 : Nat) : Int)) from q_4196) (show (((D 4 : Nat) : Int)) ≠ (((D 4 : Nat) : Int)) ∨ 0 ≤ (y55_0_3) ∧ (y55_0_3) ≤ 11 from q_4157 b57 hhr r56) (pz55_2) (show ∃ C2 : Int × (Int → Int), LTF (ub8 ((w1))) ((u0_9)) ((u0_18)) (moF ((u0_15))) CC.1 CC.2 = LT3 (ub8 ((w1))) ((z55)) ((((u0_9 + xc132_4) + xc132_9))) ((xc132_3)) ((xc132_8)) C2.1 C2.2 ∧ 1 ≤ C2.1 ∧ SLB ((((D 4 : Nat) : Int))) ((((D 4 : Nat) : Int))) (CDO (C2) ((y55_0_3)) ((w55_5))) by assumption) (show (u0_21) = (u0_21) from jc189_1)
              · refine Ew_of (pcₚ := 264) (fun _ => x_aload_n rfl (rk_o (rk_o (lc189_0) rfl rfl) rfl rfl)) ?_
                refine Ew_of (pcₚ := 266) (fun _ => x_bipush (z := 12) rfl (by decide)) ?_
                refine Ew_of (pcₚ := 267) (fun _ => x_aload_n rfl (rk_o (rk_o (lc189_0) rfl rfl) rfl rfl)) ?_
                refine v_g H (o := 0) (v := I ((u0_9 + xc132_4))) rfl rfl rfl rfl rfl (congrArg (fun z : Int => I z) (((show F55 0 9 = (updF F_c189 0 9 ((u0_9 + xc132_4))) 0 9 from (eF55 0 9))) : F55 0 9 = (u0_9 + xc132_4))) ?_
                refine v_inv H (o := 0) rfl rfl rfl rfl rfl rfl (by rfl) (C232 (D := puc 0 D) (N := puc 0 N) (HW_subc H oz_H8cls_20 oz_H8cls_12) (u0_21) ((((((((show F55 0 21 = (updF F_c189 0 9 ((u0_9 + xc132_4))) 0 21 from (eF55 0 21))).trans (hS_c189 0 21 rfl)).trans (hS_c166 0 21 rfl)).trans ((show F28 0 21 = F_c132 0 21 from (eF28 0 21).trans (hS28 0 21 rfl)))).trans (hS_c132 0 21 rfl)).trans (eu0_21))) (show inr (12) from q_599) (show inr ((u0_9 + xc132_4)) from q_4154 h0 h1 jc132_11 jc132_12) (fun z60 σ60 F60ₚ A60ₚ Hₚ Oₚ hS60 hA60 y60_0_21 (ey60_0_21 : HID _) pz60_0 pz60_1 pz60_2 => ⟨rfl, ?_⟩))
                refine v_backc (c := c) (s := s) H oz_H8cls_20 oz_H8cls_12 Hₚ Oₚ (fun F60 A60 H Oₚ eF60 eA60 => ?_)
                have O := OUT_trans O Oₚ
                -- Unpacker.fail
                have cF60 : SF oz_H8clsl_9 F F60 := SF_trans (cF55) (SF_gluc (ι := oz_H8clsl_3) oz_H8cls_12 hS60 eF60 (by decide +kernel)) (any_sub (lₚ := [(0, 21)]) (by decide +kernel))
                have mF60 := SFm_of cF60 oz_H8cls_26
                have cA60 : SA oz_H8clsl_1 A A60 := SA_trans (cA55) (SA_gluc (ι := oz_H8clsl_3) oz_H8cls_12 hA60 eA60 (by decide +kernel)) (any_subA (lₚ := []) (by decide +kernel))
                have mA60 := SAm_of cA60 oz_H8cls_10
                have r61 : (-2147483648 : Int) ≤ y60_0_21 ∧ y60_0_21 ≤ 2147483647 := rngE (show (-2147483648 : Int) ≤ F60 0 21 ∧ F60 0 21 ≤ 2147483647 from H.krg 0 21 (ltn len_V245_vn_oz_H8cls rfl)) (show F60 0 21 = y60_0_21 from ((eF60 0 21).trans ey60_0_21))
                have hCL : CLA (LTF (ub8 ((w1))) ((u0_9)) ((u0_18)) (moF ((u0_15))) CC.1 CC.2) ((z60)) ((y60_0_21)) (((u0_9 + xc132_4))) ((u0_19)) ((u2_1)) ((w3)) := CLA_f (hR.trans (LT2_12 (by omega) hnot (by omega) (by omega) (p := qat) (by omega) (to := (((u0_9 + xc132_4) + xc132_9))) (by omega) (DSA_n1 (fun i => u8_rng _) (by omega) (by have h := hds; rw [show z55 = -1 by omega] at h; exact h)))) (by decide) (by omega) (by omega)
                have hcf0 : IMP (((z60) : Int) = 0) (SLB ((u22_0)) ((((D 4 : Nat) : Int))) (CDO ((LTF (ub8 ((w1))) ((u0_9)) ((u0_18)) (moF ((u0_15))) CC.1 CC.2).2.2.2.2) ((y55_0_3)) ((w55_5)))) := fun q => absurd q (by omega)
                have hcf1 : IMP (((z60) : Int) = 0) (NLC ((u22_0)) ((LTF (ub8 ((w1))) ((u0_9)) ((u0_18)) (moF ((u0_15))) CC.1 CC.2).2.2.2.2)) := fun q => absurd q (by omega)
                exact w_ireturn rfl (k (z60) _ _ _ _ _ _ _ H O (SD_refl) (SD_refl) (cF60) (cA60) (((((((((show F60 2 0 = F55 2 0 from (eF60 2 0))).trans ((show F55 2 0 = (updF F_c189 0 9 ((u0_9 + xc132_4))) 2 0 from (eF55 2 0)))).trans (hS_c189 2 0 rfl)).trans (hS_c166 2 0 rfl)).trans ((show F28 2 0 = F_c132 2 0 from (eF28 2 0)))).trans (hS_c132 2 0 rfl))).trans (pf3)) (n3) (en3) ((u0_9 + xc132_4)) ((((show F60 0 9 = F55 0 9 from (eF60 0 9).trans (hS60 0 9 rfl))).trans ((show F55 0 9 = (updF F_c189 0 9 ((u0_9 + xc132_4))) 0 9 from (eF55 0 9))))) (u0_19) (((((((((show F60 0 19 = F55 0 19 from (eF60 0 19).trans (hS60 0 19 rfl))).trans ((show F55 0 19 = (updF F_c189 0 9 ((u0_9 + xc132_4))) 0 19 from (eF55 0 19)))).trans (hS_c189 0 19 rfl)).trans (hS_c166 0 19 rfl)).trans ((show F28 0 19 = F_c132 0 19 from (eF28 0 19).trans (hS28 0 19 rfl)))).trans (hS_c132 0 19 rfl)).trans (eu0_19))) (y60_0_21) (((eF60 0 21).trans ey60_0_21)) (u2_1) (((((((((show F60 2 1 = F55 2 1 from (eF60 2 1))).trans ((show F55 2 1 = (updF F_c189 0 9 ((u0_9 + xc132_4))) 2 1 from (eF55 2 1)))).trans (hS_c189 2 1 rfl)).trans (hS_c166 2 1 rfl)).trans ((show F28 2 1 = F_c132 2 1 from (eF28 2 1)))).trans (hS_c132 2 1 rfl)).trans (eu2_1))) (y55_0_3) ((((show F60 4 3 = F55 4 3 from (eF60 4 3))).trans ((eF55 4 3).trans ey55_0_3))) (u22_0) (((((((((show F60 22 0 = F55 22 0 from (eF60 22 0))).trans ((show F55 22 0 = (updF F_c189 0 9 ((u0_9 + xc132_4))) 22 0 from (eF55 22 0)))).trans (hS_c189 22 0 rfl)).trans (hS_c166 22 0 rfl)).trans ((show F28 22 0 = F_c132 22 0 from (eF28 22 0)))).trans (hS_c132 22 0 rfl)).trans (eu22_0))) (w3) (((show A60 3 = A55 3 from (eA60 3))).trans (((show A55 3 = A_c189 3 from (eA55 3))).trans ((funext (hA_c189 3 rfl)).trans ((funext (hA_c166 3 rfl)).trans (((show A28 3 = A_c132 3 from (eA28 3))).trans ((funext (hA_c132 3 rfl)).trans (ew3))))))) (w55_5) (((show A60 7 = A55 7 from (eA60 7))).trans ((eA55 7).trans ew55_5)) (show inr (z60) from pz60_0) (show 0 ≤ (z60) ∧ (z60) ≤ 17 from q_4166 pz60_1) (show 0 ≤ ((u0_9 + xc132_4)) ∧ ((u0_9 + xc132_4)) ≤ (u0_18) from q_4165 h0 jc132_11 jc132_12) (show 0 ≤ (u2_1) ∧ (u2_1) ≤ (n3) ∧ (n3) ≤ 65536 from h4) (show (z60) ≠ 0 ∨ 0 ≤ (u0_19) ∧ (u0_19) ≤ 131072 ∧ ((u0_19) ≤ (n3) ∨ (n3) = 65536) from q_4164 pz60_1) (show (z60) ≠ 0 ∨ (u22_0) = -1 ∨ (u22_0) = (((D 4 : Nat) : Int)) from q_4197 pz60_1) (show (z60) ≠ 0 ∨ (u22_0) ≠ (((D 4 : Nat) : Int)) ∨ 0 ≤ (y55_0_3) ∧ (y55_0_3) ≤ 11 from q_4162 pz60_1) (pz55_2) (hCL) (show IMP ((z60) = 0) (SLB ((u22_0)) ((((D 4 : Nat) : Int))) (CDO ((LTF (ub8 ((w1))) ((u0_9)) ((u0_18)) (moF ((u0_15))) CC.1 CC.2).2.2.2.2) ((y55_0_3)) ((w55_5)))) by assumption) (show IMP ((z60) = 0) (NLC ((u22_0)) ((LTF (ub8 ((w1))) ((u0_9)) ((u0_18)) (moF ((u0_15))) CC.1 CC.2).2.2.2.2)) by assumption) (show (z60) ≠ 0 ∨ (u0_19) ≤ moF ((u0_15)) from q_4161 pz60_1) (show (z60) ≠ 0 ∨ (y60_0_21) = (u0_21) from q_4160 pz60_1))
          · refine Ew_of (pcₚ := 215) (fun _ => x_aload_n rfl lc189_0) ?_
            refine Ew_of (pcₚ := 217) (fun _ => x_bipush (z := 10) rfl (by decide)) ?_
            refine Ew_of (pcₚ := 218) (fun _ => x_aload_n rfl lc189_0) ?_
            refine v_g H (o := 0) (v := I (u0_18)) rfl rfl rfl rfl rfl (congrArg (fun z : Int => I z) (((mFu32 0 18 rfl).trans (eu0_18)) : (updF F_c189 0 9 ((u0_9 + xc132_4))) 0 18 = u0_18)) ?_
            refine v_inv H (o := 0) rfl rfl rfl rfl rfl rfl (by rfl) (C232 (D := puc 0 D) (N := puc 0 N) (HW_subc H oz_H8cls_20 oz_H8cls_12) (u0_21) ((((((hS_c189 0 21 rfl).trans (hS_c166 0 21 rfl)).trans ((show F28 0 21 = F_c132 0 21 from (eF28 0 21).trans (hS28 0 21 rfl)))).trans (hS_c132 0 21 rfl)).trans (eu0_21))) (show inr (10) from q_746) (show inr (u0_18) from q_18 r4) (fun z62 σ62 F62ₚ A62ₚ Hₚ Oₚ hS62 hA62 y62_0_21 (ey62_0_21 : HID _) pz62_0 pz62_1 pz62_2 => ⟨rfl, ?_⟩))
            refine v_backc (c := c) (s := s) H oz_H8cls_20 oz_H8cls_12 Hₚ Oₚ (fun F62 A62 H Oₚ eF62 eA62 => ?_)
            have O := OUT_trans O Oₚ
            -- Unpacker.fail
            have cF62 : SF oz_H8clsl_9 F F62 := SF_trans (cFu32) (SF_gluc (ι := oz_H8clsl_3) oz_H8cls_12 hS62 eF62 (by decide +kernel)) (any_sub (lₚ := [(0, 21)]) (by decide +kernel))
            have mF62 := SFm_of cF62 oz_H8cls_26
            have cA62 : SA oz_H8clsl_1 A A62 := SA_trans (cA_c189) (SA_gluc (ι := oz_H8clsl_3) oz_H8cls_12 hA62 eA62 (by decide +kernel)) (any_subA (lₚ := []) (by decide +kernel))
            have mA62 := SAm_of cA62 oz_H8cls_10
            have r63 : (-2147483648 : Int) ≤ y62_0_21 ∧ y62_0_21 ≤ 2147483647 := rngE (show (-2147483648 : Int) ≤ F62 0 21 ∧ F62 0 21 ≤ 2147483647 from H.krg 0 21 (ltn len_V245_vn_oz_H8cls rfl)) (show F62 0 21 = y62_0_21 from ((eF62 0 21).trans ey62_0_21))
            have hCL : CLA (LTF (ub8 ((w1))) ((u0_9)) ((u0_18)) (moF ((u0_15))) CC.1 CC.2) ((z62)) ((y62_0_21)) (((u0_9 + xc132_4))) ((u0_19)) ((u2_1)) ((w3)) := CLA_f (hR.trans (LT2_10 (by omega) hnot hk13 (by omega))) (by decide) (by omega) (by omega)
            have hcf0 : IMP (((z62) : Int) = 0) (SLB ((u22_0)) ((((D 4 : Nat) : Int))) (CDO ((LTF (ub8 ((w1))) ((u0_9)) ((u0_18)) (moF ((u0_15))) CC.1 CC.2).2.2.2.2) ((u4_3)) ((w7)))) := fun q => absurd q (by omega)
            have hcf1 : IMP (((z62) : Int) = 0) (NLC ((u22_0)) ((LTF (ub8 ((w1))) ((u0_9)) ((u0_18)) (moF ((u0_15))) CC.1 CC.2).2.2.2.2)) := fun q => absurd q (by omega)
            exact w_ireturn rfl (k (z62) _ _ _ _ _ _ _ H O (SD_refl) (SD_refl) (cF62) (cA62) ((((((((show F62 2 0 = (updF F_c189 0 9 ((u0_9 + xc132_4))) 2 0 from (eF62 2 0))).trans (hS_c189 2 0 rfl)).trans (hS_c166 2 0 rfl)).trans ((show F28 2 0 = F_c132 2 0 from (eF28 2 0)))).trans (hS_c132 2 0 rfl))).trans (pf3)) (n3) (en3) ((u0_9 + xc132_4)) (((show F62 0 9 = (updF F_c189 0 9 ((u0_9 + xc132_4))) 0 9 from (eF62 0 9).trans (hS62 0 9 rfl)))) (u0_19) ((((((((show F62 0 19 = (updF F_c189 0 9 ((u0_9 + xc132_4))) 0 19 from (eF62 0 19).trans (hS62 0 19 rfl))).trans (hS_c189 0 19 rfl)).trans (hS_c166 0 19 rfl)).trans ((show F28 0 19 = F_c132 0 19 from (eF28 0 19).trans (hS28 0 19 rfl)))).trans (hS_c132 0 19 rfl)).trans (eu0_19))) (y62_0_21) (((eF62 0 21).trans ey62_0_21)) (u2_1) ((((((((show F62 2 1 = (updF F_c189 0 9 ((u0_9 + xc132_4))) 2 1 from (eF62 2 1))).trans (hS_c189 2 1 rfl)).trans (hS_c166 2 1 rfl)).trans ((show F28 2 1 = F_c132 2 1 from (eF28 2 1)))).trans (hS_c132 2 1 rfl)).trans (eu2_1))) (u4_3) ((((((((show F62 4 3 = (updF F_c189 0 9 ((u0_9 + xc132_4))) 4 3 from (eF62 4 3))).trans (hS_c189 4 3 rfl)).trans (hS_c166 4 3 rfl)).trans ((show F28 4 3 = F_c132 4 3 from (eF28 4 3)))).trans (hS_c132 4 3 rfl)).trans (eu4_3))) (u22_0) ((((((((show F62 22 0 = (updF F_c189 0 9 ((u0_9 + xc132_4))) 22 0 from (eF62 22 0))).trans (hS_c189 22 0 rfl)).trans (hS_c166 22 0 rfl)).trans ((show F28 22 0 = F_c132 22 0 from (eF28 22 0)))).trans (hS_c132 22 0 rfl)).trans (eu22_0))) (w3) (((show A62 3 = A_c189 3 from (eA62 3))).trans ((funext (hA_c189 3 rfl)).trans ((funext (hA_c166 3 rfl)).trans (((show A28 3 = A_c132 3 from (eA28 3))).trans ((funext (hA_c132 3 rfl)).trans (ew3)))))) (w7) (((show A62 7 = A_c189 7 from (eA62 7))).trans ((funext (hA_c189 7 rfl)).trans ((funext (hA_c166 7 rfl)).trans (((show A28 7 = A_c132 7 from (eA28 7))).trans ((funext (hA_c132 7 rfl)).trans (ew7)))))) (show inr (z62) from pz62_0) (show 0 ≤ (z62) ∧ (z62) ≤ 17 from q_4022 pz62_1) (show 0 ≤ ((u0_9 + xc132_4)) ∧ ((u0_9 + xc132_4)) ≤ (u0_18) from q_4165 h0 jc132_11 jc132_12) (show 0 ≤ (u2_1) ∧ (u2_1) ≤ (n3) ∧ (n3) ≤ 65536 from h4) (show (z62) ≠ 0 ∨ 0 ≤ (u0_19) ∧ (u0_19) ≤ 131072 ∧ ((u0_19) ≤ (n3) ∨ (n3) = 65536) from q_4019 pz62_1) (show (z62) ≠ 0 ∨ (u22_0) = -1 ∨ (u22_0) = (((D 4 : Nat) : Int)) from q_4198 pz62_1) (show (z62) ≠ 0 ∨ (u22_0) ≠ (((D 4 : Nat) : Int)) ∨ 0 ≤ (u4_3) ∧ (u4_3) ≤ 11 from q_4167 pz62_1) (h10) (hCL) (show IMP ((z62) = 0) (SLB ((u22_0)) ((((D 4 : Nat) : Int))) (CDO ((LTF (ub8 ((w1))) ((u0_9)) ((u0_18)) (moF ((u0_15))) CC.1 CC.2).2.2.2.2) ((u4_3)) ((w7)))) by assumption) (show IMP ((z62) = 0) (NLC ((u22_0)) ((LTF (ub8 ((w1))) ((u0_9)) ((u0_18)) (moF ((u0_15))) CC.1 CC.2).2.2.2.2)) by assumption) (show (z62) ≠ 0 ∨ (u0_19) ≤ moF ((u0_15)) from q_4018 pz62_1) (show (z62) ≠ 0 ∨ (y62_0_21) = (u0_21) from q_4017 pz62_1))
        have hnot : ¬ (moF ((u0_15)) < (xc132_8) ∨ 0 < (xc132_3) ∧ (xc132_8) < 3 * (((xc132_8) + 3) / 4)) := by omega
        refine Ew_of (pcₚ := 167) (fun _ => x_iload_n rfl lc166_2) ?_
        refine Ew_of (pcₚ := 168) (fun _ => x_iconst rfl) ?_
        refine w_icmpne (t := 189) rfl rfl (show inr (xc132_2) from jc132_1) (show inr (3) from q_246) (fun b64 => ?_) (fun b64 => ?_)
        · exact hc189  _ _ _ _  (lc166_0) (lc166_2) (lc166_3) (lc166_4) (lc166_8) (lc166_9) H O (SF_refl) (SA_refl)     (show (xc132_2) = 2 ∨ (xc132_2) = 3 ∧ (u22_0) ≠ -1 by omega) (show (u0_21) = (u0_21) from q_303)
        · refine Ew_of (pcₚ := 172) (fun _ => x_aload_n rfl lc166_0) ?_
          refine v_g H (o := 0) (v := .ref (D 22)) rfl rfl rfl rfl rfl (vrf ((mF_c166 0 3 rfl).trans (pf22))) ?_
          rcases (show u22_0 = -1 ∨ u22_0 = ((D 4 : Nat) : Int) from h8) with b65 | b65
          · refine v_g H (o := 22) (v := .null) rfl rfl rfl rfl rfl (vrn (show _ < 0 by rw [(((((hS_c166 22 0 rfl).trans ((show F28 22 0 = F_c132 22 0 from (eF28 22 0)))).trans (hS_c132 22 0 rfl)).trans (eu22_0))).trans b65]; decide)) ?_
            refine Ew_of (pcₚ := 181) (fun _ => x_ifnonnull_f rfl rfl) ?_
            refine Ew_of (pcₚ := 182) (fun _ => x_aload_n rfl lc166_0) ?_
            refine Ew_of (pcₚ := 184) (fun _ => x_bipush (z := 13) rfl (by decide)) ?_
            refine Ew_of (pcₚ := 185) (fun _ => x_iload_n rfl lc166_1) ?_
            refine v_inv H (o := 0) rfl rfl rfl rfl rfl rfl (by rfl) (C232 (D := puc 0 D) (N := puc 0 N) (HW_subc H oz_H8cls_20 oz_H8cls_12) (u0_21) (((((hS_c166 0 21 rfl).trans ((show F28 0 21 = F_c132 0 21 from (eF28 0 21).trans (hS28 0 21 rfl)))).trans (hS_c132 0 21 rfl)).trans (eu0_21))) (show inr (13) from q_350) (show inr (xc132_1) from jc132_0) (fun z66 σ66 F66ₚ A66ₚ Hₚ Oₚ hS66 hA66 y66_0_21 (ey66_0_21 : HID _) pz66_0 pz66_1 pz66_2 => ⟨rfl, ?_⟩))
            refine v_backc (c := c) (s := s) H oz_H8cls_20 oz_H8cls_12 Hₚ Oₚ (fun F66 A66 H Oₚ eF66 eA66 => ?_)
            have O := OUT_trans O Oₚ
            -- Unpacker.fail
            have cF66 : SF oz_H8clsl_9 F F66 := SF_trans (cF_c166) (SF_gluc (ι := oz_H8clsl_3) oz_H8cls_12 hS66 eF66 (by decide +kernel)) (any_sub (lₚ := [(0, 21)]) (by decide +kernel))
            have mF66 := SFm_of cF66 oz_H8cls_26
            have cA66 : SA oz_H8clsl_1 A A66 := SA_trans (cA_c166) (SA_gluc (ι := oz_H8clsl_3) oz_H8cls_12 hA66 eA66 (by decide +kernel)) (any_subA (lₚ := []) (by decide +kernel))
            have mA66 := SAm_of cA66 oz_H8cls_10
            have r67 : (-2147483648 : Int) ≤ y66_0_21 ∧ y66_0_21 ≤ 2147483647 := rngE (show (-2147483648 : Int) ≤ F66 0 21 ∧ F66 0 21 ≤ 2147483647 from H.krg 0 21 (ltn len_V245_vn_oz_H8cls rfl)) (show F66 0 21 = y66_0_21 from ((eF66 0 21).trans ey66_0_21))
            have hCL : CLA (LTF (ub8 ((w1))) ((u0_9)) ((u0_18)) (moF ((u0_15))) CC.1 CC.2) ((z66)) ((y66_0_21)) ((u0_9)) ((u0_19)) ((u2_1)) ((w3)) := CLA_f (hR.trans (LT2_13 (by omega) hnot ⟨by omega, NLC_n hNL (by omega)⟩)) (by decide) (by omega) (by omega)
            have hcf0 : IMP (((z66) : Int) = 0) (SLB ((u22_0)) ((((D 4 : Nat) : Int))) (CDO ((LTF (ub8 ((w1))) ((u0_9)) ((u0_18)) (moF ((u0_15))) CC.1 CC.2).2.2.2.2) ((u4_3)) ((w7)))) := fun q => absurd q (by omega)
            have hcf1 : IMP (((z66) : Int) = 0) (NLC ((u22_0)) ((LTF (ub8 ((w1))) ((u0_9)) ((u0_18)) (moF ((u0_15))) CC.1 CC.2).2.2.2.2)) := fun q => absurd q (by omega)
            exact w_ireturn rfl (k (z66) _ _ _ _ _ _ _ H O (SD_refl) (SD_refl) (cF66) (cA66) (((((((show F66 2 0 = F_c166 2 0 from (eF66 2 0))).trans (hS_c166 2 0 rfl)).trans ((show F28 2 0 = F_c132 2 0 from (eF28 2 0)))).trans (hS_c132 2 0 rfl))).trans (pf3)) (n3) (en3) (u0_9) (((((((show F66 0 9 = F_c166 0 9 from (eF66 0 9).trans (hS66 0 9 rfl))).trans (hS_c166 0 9 rfl)).trans ((show F28 0 9 = F_c132 0 9 from (eF28 0 9).trans (hS28 0 9 rfl)))).trans (hS_c132 0 9 rfl)).trans (eu0_9))) (u0_19) (((((((show F66 0 19 = F_c166 0 19 from (eF66 0 19).trans (hS66 0 19 rfl))).trans (hS_c166 0 19 rfl)).trans ((show F28 0 19 = F_c132 0 19 from (eF28 0 19).trans (hS28 0 19 rfl)))).trans (hS_c132 0 19 rfl)).trans (eu0_19))) (y66_0_21) (((eF66 0 21).trans ey66_0_21)) (u2_1) (((((((show F66 2 1 = F_c166 2 1 from (eF66 2 1))).trans (hS_c166 2 1 rfl)).trans ((show F28 2 1 = F_c132 2 1 from (eF28 2 1)))).trans (hS_c132 2 1 rfl)).trans (eu2_1))) (u4_3) (((((((show F66 4 3 = F_c166 4 3 from (eF66 4 3))).trans (hS_c166 4 3 rfl)).trans ((show F28 4 3 = F_c132 4 3 from (eF28 4 3)))).trans (hS_c132 4 3 rfl)).trans (eu4_3))) (u22_0) (((((((show F66 22 0 = F_c166 22 0 from (eF66 22 0))).trans (hS_c166 22 0 rfl)).trans ((show F28 22 0 = F_c132 22 0 from (eF28 22 0)))).trans (hS_c132 22 0 rfl)).trans (eu22_0))) (w3) (((show A66 3 = A_c166 3 from (eA66 3))).trans ((funext (hA_c166 3 rfl)).trans (((show A28 3 = A_c132 3 from (eA28 3))).trans ((funext (hA_c132 3 rfl)).trans (ew3))))) (w7) (((show A66 7 = A_c166 7 from (eA66 7))).trans ((funext (hA_c166 7 rfl)).trans (((show A28 7 = A_c132 7 from (eA28 7))).trans ((funext (hA_c132 7 rfl)).trans (ew7))))) (show inr (z66) from pz66_0) (show 0 ≤ (z66) ∧ (z66) ≤ 17 from q_4174 pz66_1) (show 0 ≤ (u0_9) ∧ (u0_9) ≤ (u0_18) from q_4136 h0 h1) (show 0 ≤ (u2_1) ∧ (u2_1) ≤ (n3) ∧ (n3) ≤ 65536 from h4) (show (z66) ≠ 0 ∨ 0 ≤ (u0_19) ∧ (u0_19) ≤ 131072 ∧ ((u0_19) ≤ (n3) ∨ (n3) = 65536) from q_4173 pz66_1) (show (z66) ≠ 0 ∨ (u22_0) = -1 ∨ (u22_0) = (((D 4 : Nat) : Int)) from q_4199 pz66_1) (show (z66) ≠ 0 ∨ (u22_0) ≠ (((D 4 : Nat) : Int)) ∨ 0 ≤ (u4_3) ∧ (u4_3) ≤ 11 from q_4171 pz66_1) (h10) (hCL) (show IMP ((z66) = 0) (SLB ((u22_0)) ((((D 4 : Nat) : Int))) (CDO ((LTF (ub8 ((w1))) ((u0_9)) ((u0_18)) (moF ((u0_15))) CC.1 CC.2).2.2.2.2) ((u4_3)) ((w7)))) by assumption) (show IMP ((z66) = 0) (NLC ((u22_0)) ((LTF (ub8 ((w1))) ((u0_9)) ((u0_18)) (moF ((u0_15))) CC.1 CC.2).2.2.2.2)) by assumption) (show (z66) ≠ 0 ∨ (u0_19) ≤ moF ((u0_15)) from q_4170 pz66_1) (show (z66) ≠ 0 ∨ (y66_0_21) = (u0_21) from q_4169 pz66_1))
          · refine v_g H (o := 22) (v := .ref (D 4)) rfl rfl rfl rfl rfl (vrf ((((((hS_c166 22 0 rfl).trans ((show F28 22 0 = F_c132 22 0 from (eF28 22 0)))).trans (hS_c132 22 0 rfl)).trans (eu22_0))).trans b65)) ?_
            refine Ew_of (pcₚ := 189) (fun _ => x_ifnonnull_t rfl rfl) ?_
            exact hc189  _ _ _ _  (lc166_0) (lc166_2) (lc166_3) (lc166_4) (lc166_8) (lc166_9) H O (SF_refl) (SA_refl)     (show (xc132_2) = 2 ∨ (xc132_2) = 3 ∧ (u22_0) ≠ -1 by omega) (show (u0_21) = (u0_21) from q_303)
      refine w_ifle (t := 166) rfl rfl (show inr (xc132_3) from jc132_2) (fun b68 => ?_) (fun b68 => ?_)
      · exact hc166  _ _ _ _  (lc132_0) (lc132_1) (lc132_2) (lc132_3) (lc132_4) (lc132_8) (lc132_9) H O (SF_refl) (SA_refl)     (show ((xc132_3) ≤ (0)) ∨ ((xc132_3) > (0) ∧ (xc132_8) ≥ ((3 * ((xc132_8 + 3) / 4)))) from q_4175 b68)
      · refine Ew_of (pcₚ := 147) (fun _ => x_iload rfl lc132_8) ?_
        refine Ew_of (pcₚ := 148) (fun _ => x_iconst rfl) ?_
        refine Ew_of (pcₚ := 150) (fun _ => x_iload rfl lc132_8) ?_
        refine Ew_of (pcₚ := 151) (fun _ => x_iconst rfl) ?_
        refine w_iadd rfl ?_
        refine Ew_of (pcₚ := 153) (fun _ => x_iconst rfl) ?_
        refine w_idiv rfl (show inr ((xc132_8 + 3)) ∧ 0 ≤ (xc132_8 + 3) from q_4176 jc132_7) (show inr (4) ∧ 0 < 4 from q_1074) ?_
        refine w_imul rfl ?_
        refine w_icmpge (t := 166) rfl rfl (show inr (xc132_8) from jc132_4) (show inr ((3 * ((xc132_8 + 3) / 4))) from q_4177 jc132_7) (fun b69 => ?_) (fun b69 => ?_)
        · exact hc166  _ _ _ _  (lc132_0) (lc132_1) (lc132_2) (lc132_3) (lc132_4) (lc132_8) (lc132_9) H O (SF_refl) (SA_refl)     (show ((xc132_3) ≤ (0)) ∨ ((xc132_3) > (0) ∧ (xc132_8) ≥ ((3 * ((xc132_8 + 3) / 4)))) from q_4178 b68 b69)
        · refine Ew_of (pcₚ := 159) (fun _ => x_aload_n rfl lc132_0) ?_
          refine Ew_of (pcₚ := 161) (fun _ => x_bipush (z := 11) rfl (by decide)) ?_
          refine Ew_of (pcₚ := 162) (fun _ => x_iload_n rfl lc132_1) ?_
          refine v_inv H (o := 0) rfl rfl rfl rfl rfl rfl (by rfl) (C232 (D := puc 0 D) (N := puc 0 N) (HW_subc H oz_H8cls_20 oz_H8cls_12) (u0_21) (((((show F28 0 21 = F_c132 0 21 from (eF28 0 21).trans (hS28 0 21 rfl))).trans (hS_c132 0 21 rfl)).trans (eu0_21))) (show inr (11) from q_326) (show inr (xc132_1) from jc132_0) (fun z70 σ70 F70ₚ A70ₚ Hₚ Oₚ hS70 hA70 y70_0_21 (ey70_0_21 : HID _) pz70_0 pz70_1 pz70_2 => ⟨rfl, ?_⟩))
          refine v_backc (c := c) (s := s) H oz_H8cls_20 oz_H8cls_12 Hₚ Oₚ (fun F70 A70 H Oₚ eF70 eA70 => ?_)
          have O := OUT_trans O Oₚ
          -- Unpacker.fail
          have cF70 : SF oz_H8clsl_9 F F70 := SF_trans (cF28) (SF_gluc (ι := oz_H8clsl_3) oz_H8cls_12 hS70 eF70 (by decide +kernel)) (any_sub (lₚ := [(0, 21)]) (by decide +kernel))
          have mF70 := SFm_of cF70 oz_H8cls_26
          have cA70 : SA oz_H8clsl_1 A A70 := SA_trans (cA28) (SA_gluc (ι := oz_H8clsl_3) oz_H8cls_12 hA70 eA70 (by decide +kernel)) (any_subA (lₚ := []) (by decide +kernel))
          have mA70 := SAm_of cA70 oz_H8cls_10
          have r71 : (-2147483648 : Int) ≤ y70_0_21 ∧ y70_0_21 ≤ 2147483647 := rngE (show (-2147483648 : Int) ≤ F70 0 21 ∧ F70 0 21 ≤ 2147483647 from H.krg 0 21 (ltn len_V245_vn_oz_H8cls rfl)) (show F70 0 21 = y70_0_21 from ((eF70 0 21).trans ey70_0_21))
          have hCL : CLA (LTF (ub8 ((w1))) ((u0_9)) ((u0_18)) (moF ((u0_15))) CC.1 CC.2) ((z70)) ((y70_0_21)) ((u0_9)) ((u0_19)) ((u2_1)) ((w3)) := CLA_f (hR.trans (LT2_11 (by omega) (by omega))) (by decide) (by omega) (by omega)
          have hcf0 : IMP (((z70) : Int) = 0) (SLB ((u22_0)) ((((D 4 : Nat) : Int))) (CDO ((LTF (ub8 ((w1))) ((u0_9)) ((u0_18)) (moF ((u0_15))) CC.1 CC.2).2.2.2.2) ((u4_3)) ((w7)))) := fun q => absurd q (by omega)
          have hcf1 : IMP (((z70) : Int) = 0) (NLC ((u22_0)) ((LTF (ub8 ((w1))) ((u0_9)) ((u0_18)) (moF ((u0_15))) CC.1 CC.2).2.2.2.2)) := fun q => absurd q (by omega)
          exact w_ireturn rfl (k (z70) _ _ _ _ _ _ _ H O (SD_refl) (SD_refl) (cF70) (cA70) ((((((show F70 2 0 = F28 2 0 from (eF70 2 0))).trans ((show F28 2 0 = F_c132 2 0 from (eF28 2 0)))).trans (hS_c132 2 0 rfl))).trans (pf3)) (n3) (en3) (u0_9) ((((((show F70 0 9 = F28 0 9 from (eF70 0 9).trans (hS70 0 9 rfl))).trans ((show F28 0 9 = F_c132 0 9 from (eF28 0 9).trans (hS28 0 9 rfl)))).trans (hS_c132 0 9 rfl)).trans (eu0_9))) (u0_19) ((((((show F70 0 19 = F28 0 19 from (eF70 0 19).trans (hS70 0 19 rfl))).trans ((show F28 0 19 = F_c132 0 19 from (eF28 0 19).trans (hS28 0 19 rfl)))).trans (hS_c132 0 19 rfl)).trans (eu0_19))) (y70_0_21) (((eF70 0 21).trans ey70_0_21)) (u2_1) ((((((show F70 2 1 = F28 2 1 from (eF70 2 1))).trans ((show F28 2 1 = F_c132 2 1 from (eF28 2 1)))).trans (hS_c132 2 1 rfl)).trans (eu2_1))) (u4_3) ((((((show F70 4 3 = F28 4 3 from (eF70 4 3))).trans ((show F28 4 3 = F_c132 4 3 from (eF28 4 3)))).trans (hS_c132 4 3 rfl)).trans (eu4_3))) (u22_0) ((((((show F70 22 0 = F28 22 0 from (eF70 22 0))).trans ((show F28 22 0 = F_c132 22 0 from (eF28 22 0)))).trans (hS_c132 22 0 rfl)).trans (eu22_0))) (w3) (((show A70 3 = A28 3 from (eA70 3))).trans (((show A28 3 = A_c132 3 from (eA28 3))).trans ((funext (hA_c132 3 rfl)).trans (ew3)))) (w7) (((show A70 7 = A28 7 from (eA70 7))).trans (((show A28 7 = A_c132 7 from (eA28 7))).trans ((funext (hA_c132 7 rfl)).trans (ew7)))) (show inr (z70) from pz70_0) (show 0 ≤ (z70) ∧ (z70) ≤ 17 from q_4032 pz70_1) (show 0 ≤ (u0_9) ∧ (u0_9) ≤ (u0_18) from q_4136 h0 h1) (show 0 ≤ (u2_1) ∧ (u2_1) ≤ (n3) ∧ (n3) ≤ 65536 from h4) (show (z70) ≠ 0 ∨ 0 ≤ (u0_19) ∧ (u0_19) ≤ 131072 ∧ ((u0_19) ≤ (n3) ∨ (n3) = 65536) from q_4031 pz70_1) (show (z70) ≠ 0 ∨ (u22_0) = -1 ∨ (u22_0) = (((D 4 : Nat) : Int)) from q_4195 pz70_1) (show (z70) ≠ 0 ∨ (u22_0) ≠ (((D 4 : Nat) : Int)) ∨ 0 ≤ (u4_3) ∧ (u4_3) ≤ 11 from q_4134 pz70_1) (h10) (hCL) (show IMP ((z70) = 0) (SLB ((u22_0)) ((((D 4 : Nat) : Int))) (CDO ((LTF (ub8 ((w1))) ((u0_9)) ((u0_18)) (moF ((u0_15))) CC.1 CC.2).2.2.2.2) ((u4_3)) ((w7)))) by assumption) (show IMP ((z70) = 0) (NLC ((u22_0)) ((LTF (ub8 ((w1))) ((u0_9)) ((u0_18)) (moF ((u0_15))) CC.1 CC.2).2.2.2.2)) by assumption) (show (z70) ≠ 0 ∨ (u0_19) ≤ moF ((u0_15)) from q_4030 pz70_1) (show (z70) ≠ 0 ∨ (y70_0_21) = (u0_21) from q_4029 pz70_1))
  have hC0_0 : SLB ((u22_0)) ((((D 4 : Nat) : Int))) (CDO (CC) ((u4_3)) ((w7))) := h11
  have hNL : NLC ((u22_0)) (CC) := h12
  refine Ew_of (pcₚ := 1) (fun _ => x_aload_n rfl rfl) ?_
  refine v_g H (o := 0) (v := I (u0_9)) rfl rfl rfl rfl rfl (congrArg (fun z : Int => I z) ((eu0_9) : F 0 9 = u0_9)) ?_
  refine Ew_of (pcₚ := 5) (fun _ => x_istore_n rfl) ?_
  refine Ew_of (pcₚ := 6) (fun _ => x_aload_n rfl (rk_o (rfl) rfl rfl)) ?_
  refine v_g H (o := 0) (v := .ref (D 1)) rfl rfl rfl rfl rfl (vrf (pf1)) ?_
  refine Ew_of (pcₚ := 10) (fun _ => x_aload_n rfl (rk_o (rfl) rfl rfl)) ?_
  refine v_g H (o := 0) (v := I (u0_9)) rfl rfl rfl rfl rfl (congrArg (fun z : Int => I z) ((eu0_9) : F 0 9 = u0_9)) ?_
  refine v_lB H (o := 1) rfl rfl rfl rfl (n := n1) (en1) (show 0 ≤ u0_9 ∧ u0_9 < n1 from q_4179 h0 h1) (fun v72 ev72 qv72 => ?_)
  have ev72 : (w1) (u0_9) = v72 := (congrFun (ew1) (u0_9)).symm.trans ev72
  have hbr : ∀ i, (-128 : Int) ≤ (w1) i ∧ (w1) i ≤ 127 := fun i => by have h1 : (-128 : Int) ≤ A 1 i ∧ A 1 i ≤ 127 := H.arg 1 i (by decide) rfl; rw [show A 1 = w1 from ew1] at h1; exact h1
  have hby := hbr ((u0_9))
  have hbe := ev72
  have ha3 := andI_3 ((v72))
  obtain ⟨qb, hqb⟩ : ∃ q : Int, q = (v72) := ⟨_, rfl⟩
  have hIb : (ub8 ((w1))) ((u0_9)) = qb % 256 := by show u8 _ = _; rw [hbe, hqb]; rfl
  refine Ew_of (pcₚ := 15) (fun _ => x_iconst rfl) ?_
  refine w_iandE rfl (show inr (v72) from q_97 qv72) (show inr (3) from q_246) (fun z73 gz73 gaz73 gbz73 gez73 => ?_)
  have hkk : ((z73) : Int) = 2 ∨ ((z73) : Int) = 3 := by have w := and23 hby (by assumption); rw [hbe] at w; omega
  refine Ew_of (pcₚ := 17) (fun _ => x_istore_n rfl) ?_
  refine Ew_of (pcₚ := 18) (fun _ => x_aload_n rfl (rk_o (rk_o (rfl) rfl rfl) rfl rfl)) ?_
  refine v_g H (o := 0) (v := .ref (D 1)) rfl rfl rfl rfl rfl (vrf (pf1)) ?_
  refine Ew_of (pcₚ := 22) (fun _ => x_aload_n rfl (rk_o (rk_o (rfl) rfl rfl) rfl rfl)) ?_
  refine v_g H (o := 0) (v := I (u0_9)) rfl rfl rfl rfl rfl (congrArg (fun z : Int => I z) ((eu0_9) : F 0 9 = u0_9)) ?_
  refine v_lB H (o := 1) rfl rfl rfl rfl (n := n1) (en1) (show 0 ≤ u0_9 ∧ u0_9 < n1 from q_4179 h0 h1) (fun v74 ev74 qv74 => ?_)
  have ev74 : (w1) (u0_9) = v74 := (congrFun (ew1) (u0_9)).symm.trans ev74
  have hbf := ev74
  refine Ew_of (pcₚ := 27) (fun _ => x_iconst rfl) ?_
  refine w_ishrK 2 4 (by decide) (by decide) rfl (show inr (v74) from q_97 qv74) (fun z75 gz75 dz75 => ?_)
  have ha4 := andI_3 ((z75))
  refine Ew_of (pcₚ := 29) (fun _ => x_iconst rfl) ?_
  refine w_iandE rfl (show inr (z75) from gz75) (show inr (3) from q_246) (fun z76 gz76 gaz76 gbz76 gez76 => ?_)
  refine Ew_of (pcₚ := 31) (fun _ => x_istore_n rfl) ?_
  obtain ⟨qx, hqx⟩ : ∃ q : Int, (ub8 ((w1))) ((u0_9)) = q := ⟨_, rfl⟩
  have hk2 : (z73) = qx % 4 := by omega
  have hl3_ : (z76) = qx / 4 % 4 := by omega
  refine Ew_of (pcₚ := 32) (fun _ => x_iload_n rfl rk_s) ?_
  refine Ew_of (pcₚ := 33) (fun _ => x_iconst rfl) ?_
  have hc43 : ∀ (tc43_0 : Int), ∀ (ls : rO) (σ : rS) (F_c43 : hF) (A_c43 : hA) , rlook ls 0 = some (.ref (D 0)) → rlook ls 1 = some (I (u0_9)) → rlook ls 2 = some (I (z73)) → rlook ls 3 = some (I (z76)) → HW V245_vn σ D N F_c43 A_c43 → OUT (V245_vn).length D N σE c s D N σ c s → SF [] F F_c43 → SA [] A A_c43 → (inr (tc43_0)) → (((z76) ≥ (2) ∧ (tc43_0) = ((z76 + 2))) ∨ ((z76) < (2) ∧ (tc43_0) = (3))) → Ew 245 (d + 5) 43 ls [I (tc43_0)] σ c s Q := by
   as_aux_lemma =>
    intro tc43_0 ls σ F_c43 A_c43  lc43_0 lc43_1 lc43_2 lc43_3 H O hS_c43 hA_c43     jc43_0 jc43_1
    have cF_c43 : SF oz_H8clsl_9 F F_c43 := SF_trans (SF_refl) hS_c43 (any_sub (by decide +kernel))
    have mF_c43 := SFm_of cF_c43 oz_H8cls_26
    have cA_c43 : SA oz_H8clsl_1 A A_c43 := SA_trans (SA_refl) hA_c43 (any_subA (by decide +kernel))
    have mA_c43 := SAm_of cA_c43 oz_H8cls_10
    refine Ew_of (pcₚ := 45) (fun _ => x_istore rfl) ?_
    have hb4 : (tc43_0) = lcB ((z76)) := by have := lcB_eq ((z76)); omega
    refine Ew_of (pcₚ := 46) (fun _ => x_aload_n rfl (rk_o (lc43_0) rfl rfl)) ?_
    refine v_g H (o := 0) (v := I (u0_18)) rfl rfl rfl rfl rfl (congrArg (fun z : Int => I z) (((mF_c43 0 18 rfl).trans (eu0_18)) : F_c43 0 18 = u0_18)) ?_
    refine Ew_of (pcₚ := 50) (fun _ => x_aload_n rfl (rk_o (lc43_0) rfl rfl)) ?_
    refine v_g H (o := 0) (v := I (u0_9)) rfl rfl rfl rfl rfl (congrArg (fun z : Int => I z) (((hS_c43 0 9 rfl).trans (eu0_9)) : F_c43 0 9 = u0_9)) ?_
    refine w_isub rfl ?_
    refine Ew_of (pcₚ := 56) (fun _ => x_iload rfl rk_s) ?_
    refine w_icmpge (t := 70) rfl rfl (show inr ((u0_18 - u0_9)) from q_4180 h0 h1) (show inr (tc43_0) from jc43_0) (fun b77 => ?_) (fun b77 => ?_)
    · refine Ew_of (pcₚ := 71) (fun _ => x_iload_n rfl (rk_o (lc43_3) rfl rfl)) ?_
      refine Ew_of (pcₚ := 72) (fun _ => x_iconst rfl) ?_
      have hc86 : ∀ (tc86_0 : Int), ∀ (ls : rO) (σ : rS) (F_c86 : hF) (A_c86 : hA) , rlook ls 0 = some (.ref (D 0)) → rlook ls 1 = some (I (u0_9)) → rlook ls 2 = some (I (z73)) → rlook ls 3 = some (I (z76)) → rlook ls 4 = some (I (tc43_0)) → HW V245_vn σ D N F_c86 A_c86 → OUT (V245_vn).length D N σE c s D N σ c s → SF [] F_c43 F_c86 → SA [] A_c43 A_c86 → (inr (tc86_0)) → (((z76) ≥ (2) ∧ (tc86_0) = (((4 * z76) + 6))) ∨ ((z76) < (2) ∧ (tc86_0) = (10))) → Ew 245 (d + 5) 86 ls [I (tc86_0)] σ c s Q := by
       as_aux_lemma =>
        intro tc86_0 ls σ F_c86 A_c86  lc86_0 lc86_1 lc86_2 lc86_3 lc86_4 H O hS_c86 hA_c86     jc86_0 jc86_1
        have cF_c86 : SF oz_H8clsl_9 F F_c86 := SF_trans (cF_c43) hS_c86 (any_sub (by decide +kernel))
        have mF_c86 := SFm_of cF_c86 oz_H8cls_26
        have cA_c86 : SA oz_H8clsl_1 A A_c86 := SA_trans (cA_c43) hA_c86 (any_subA (by decide +kernel))
        have mA_c86 := SAm_of cA_c86 oz_H8cls_10
        refine Ew_of (pcₚ := 88) (fun _ => x_istore rfl) ?_
        have hpw : 1 ≤ p2 ((tc86_0)) ∧ p2 ((tc86_0)) ≤ 262144 := ⟨p2_pos _, by have := p2_mono (x := (tc86_0)) (y := 18) (by omega); rw [show p2 18 = 262144 from by decide] at this; exact this⟩
        have hw5 : (tc86_0) = lcW ((z76)) := by have := lcW_eq ((z76)); omega
        refine Ew_of (pcₚ := 89) (fun _ => x_aload_n rfl (rk_o (lc86_0) rfl rfl)) ?_
        refine v_g H (o := 0) (v := .ref (D 1)) rfl rfl rfl rfl rfl (vrf ((mF_c86 0 7 rfl).trans (pf1))) ?_
        refine Ew_of (pcₚ := 93) (fun _ => x_aload_n rfl (rk_o (lc86_0) rfl rfl)) ?_
        refine v_g H (o := 0) (v := I (u0_9)) rfl rfl rfl rfl rfl (congrArg (fun z : Int => I z) ((((hS_c86 0 9 rfl).trans (hS_c43 0 9 rfl)).trans (eu0_9)) : F_c86 0 9 = u0_9)) ?_
        refine Ew_of (pcₚ := 98) (fun _ => x_iload rfl (rk_o (lc86_4) rfl rfl)) ?_
        refine w_stat25 rfl rfl (by rfl) (C42_Brf (D := puc 1 D) (N := puc 1 N) (HW_subc H oz_H8cls_25 oz_H8cls_17) (n1) (en1) (w1) ((funext (mA_c86 1 rfl)).trans (ew1)) (show inr (u0_9) from q_3943 h0) (show inr (tc43_0) from jc43_0) (show (tc43_0) ≤ 0 ∨ 0 ≤ (u0_9) ∧ (u0_9) + (tc43_0) ≤ (n1) from q_4182 b77 h0 h1) (show 0 ≤ (tc43_0) ∧ (tc43_0) ≤ 8 from q_4181 hl3_ jc43_1) (fun z78 σ78 F78ₚ A78ₚ Hₚ Oₚ hS78 hA78 pz78_0 pz78_1 pz78_2 => ⟨rfl, ?_⟩))
        refine v_backc (c := c) (s := s) H oz_H8cls_25 oz_H8cls_17 Hₚ Oₚ (fun F78 A78 H Oₚ eF78 eA78 => ?_)
        have O := OUT_trans O Oₚ
        -- PackHouse.number
        have cF78 : SF oz_H8clsl_9 F F78 := SF_trans (cF_c86) (SF_gluc (ι := oz_H8clsl_8) oz_H8cls_17 hS78 eF78 (by decide +kernel)) (any_sub (lₚ := []) (by decide +kernel))
        have mF78 := SFm_of cF78 oz_H8cls_26
        have cA78 : SA oz_H8clsl_1 A A78 := SA_trans (cA_c86) (SA_gluc (ι := oz_H8clsl_8) oz_H8cls_17 hA78 eA78 (by decide +kernel)) (any_subA (lₚ := []) (by decide +kernel))
        have mA78 := SAm_of cA78 oz_H8cls_10
        have hN : z78 = nvl (ub8 ((w1))) ((u0_9)) ((tc43_0) : Int).toNat := (nmb_nn pz78_2 (by omega) pz78_0).trans nvl_u
        have hNb : 0 ≤ z78 ∧ z78 ≤ 1099511627775 := by rw [hN]; have h := nvl_lt (I := ub8 ((w1))) (a := (u0_9)) (n := (tc43_0)) (by omega); exact ⟨h.1, h.2.2.2.2.2.2 (by omega)⟩
        refine Ew_of (pcₚ := 102) (fun _ => x_iconst rfl) ?_
        refine w_lshrK 4 16 (by decide) (by decide) rfl (show inrJ (z78) from pz78_0) (fun z79 gz79 dz79 => ?_)
        refine Ew_of (pcₚ := 105) (fun _ => x_lstore rfl) ?_
        refine Ew_of (pcₚ := 107) (fun _ => x_lload rfl rk2_s) ?_
        refine w_l2iW rfl ?_
        have g80 : inr (w32 (z79)) := w32_r _
        refine Ew_of (pcₚ := 109) (fun _ => x_iconst rfl) ?_
        refine Ew_of (pcₚ := 111) (fun _ => x_iload rfl (rk2_o (rk_s) rfl rfl)) ?_
        refine w_ishl1 rfl (show 0 ≤ tc86_0 ∧ tc86_0 ≤ 31 from q_4183 hl3_ jc86_1) ?_
        refine Ew_of (pcₚ := 113) (fun _ => x_iconst rfl) ?_
        refine w_isub rfl ?_
        refine w_iandE rfl (show inr ((w32 (z79))) from g80) (show inr ((p2 (tc86_0) - 1)) from q_4184 hpw) (fun z82 gz82 gaz82 gbz82 gez82 => ?_)
        have h8 : (z82) = (z79) % p2 ((tc86_0)) := by have := andI_w (x := (z79)) (L := (tc86_0)) (by omega); omega
        have h8n : (z82) = nvl (ub8 ((w1))) ((u0_9)) ((tc43_0) : Int).toNat / 16 % p2 (lcW ((z76))) := by rw [h8, ← hw5, ← hN, show (z79) = z78 / 16 by omega]
        have h8b : 0 ≤ (z82) ∧ (z82) < p2 ((tc86_0)) := by rw [h8]; exact ⟨Int.emod_nonneg _ (by omega), Int.emod_lt_of_pos _ (by omega)⟩
        refine Ew_of (pcₚ := 117) (fun _ => x_istore rfl) ?_
        refine Ew_of (pcₚ := 119) (fun _ => x_lload rfl (rk_o (rk2_s) rfl rfl)) ?_
        refine Ew_of (pcₚ := 121) (fun _ => x_iload rfl (rk_o (rk2_o (rk_s) rfl rfl) rfl rfl)) ?_
        refine w_lshrX rfl (show inrJ (z79) by omega) (fun z83 gz83 dz83 => ?_)
        have h121 : (z83) = (z79) / p2 ((tc86_0)) := by omega
        have hw21 := andI_w (x := (z83)) (L := (tc86_0)) (by omega)
        refine w_l2iW rfl ?_
        have g84 : inr (w32 (z83)) := w32_r _
        refine Ew_of (pcₚ := 124) (fun _ => x_iconst rfl) ?_
        refine Ew_of (pcₚ := 126) (fun _ => x_iload rfl (rk_o (rk2_o (rk_s) rfl rfl) rfl rfl)) ?_
        refine w_ishl1 rfl (show 0 ≤ tc86_0 ∧ tc86_0 ≤ 31 from q_4183 hl3_ jc86_1) ?_
        refine Ew_of (pcₚ := 128) (fun _ => x_iconst rfl) ?_
        refine w_isub rfl ?_
        refine w_iandE rfl (show inr ((w32 (z83))) from g84) (show inr ((p2 (tc86_0) - 1)) from q_4184 hpw) (fun z86 gz86 gaz86 gbz86 gez86 => ?_)
        have h9 : (z86) = (z79) / p2 ((tc86_0)) % p2 ((tc86_0)) := by rw [← h121]; omega
        have h9n : (z86) = nvl (ub8 ((w1))) ((u0_9)) ((tc43_0) : Int).toNat / 16 / p2 (lcW ((z76))) % p2 (lcW ((z76))) := by rw [h9, ← hw5, ← hN, show (z79) = z78 / 16 by omega]
        have h9b : 0 ≤ (z86) ∧ (z86) < p2 ((tc86_0)) := by rw [h9]; exact ⟨Int.emod_nonneg _ (by omega), Int.emod_lt_of_pos _ (by omega)⟩
        refine Ew_of (pcₚ := 132) (fun _ => x_istore rfl) ?_
        have : LTF (ub8 ((w1))) ((u0_9)) ((u0_18)) (moF ((u0_15))) CC.1 CC.2 = LT2 (ub8 ((w1))) ((u0_9)) ((u0_18)) (moF ((u0_15))) CC.1 CC.2 ((z73)) ((z76)) ((tc43_0)) ((z82)) ((z86)) := LTF_2 (by omega) hqx hk2 (by omega) hl3_ hb4 h8n h9n
        exact hc132  _ _ _ _ (u0_9) (z73) (z76) (tc43_0) (z82) (z86) (rk_o (rk_o (rk2_o (rk_o (lc86_0) rfl rfl) rfl rfl) rfl rfl) rfl rfl) (rk_o (rk_o (rk2_o (rk_o (lc86_1) rfl rfl) rfl rfl) rfl rfl) rfl rfl) (rk_o (rk_o (rk2_o (rk_o (lc86_2) rfl rfl) rfl rfl) rfl rfl) rfl rfl) (rk_o (rk_o (rk2_o (rk_o (lc86_3) rfl rfl) rfl rfl) rfl rfl) rfl rfl) (rk_o (rk_o (rk2_o (rk_o (lc86_4) rfl rfl) rfl rfl) rfl rfl) rfl rfl) (rk_o (rk_s) rfl rfl) (rk_s) H O (SF_trans (SF_trans (SF_trans (SF_refl) hS_c43 (any_sub (by decide +kernel))) hS_c86 (any_sub (by decide +kernel))) (SF_gluc (ι := oz_H8clsl_8) oz_H8cls_17 hS78 eF78 (by decide +kernel)) (any_sub (lₚ := []) (by decide +kernel))) (SA_trans (SA_trans (SA_trans (SA_refl) hA_c43 (any_subA (by decide +kernel))) hA_c86 (any_subA (by decide +kernel))) (SA_gluc (ι := oz_H8clsl_8) oz_H8cls_17 hA78 eA78 (by decide +kernel)) (any_subA (lₚ := []) (by decide +kernel)))     (show inr (u0_9) from q_3943 h0) (show inr (z73) from gz73) (show inr (z76) from gz76) (show inr (tc43_0) from jc43_0) (show inr (z82) from gz82) (show inr (z86) from gz86) (show (u0_9) = (u0_9) from q_303) (show 0 ≤ (z82) ∧ (z82) ≤ 262143 from q_4188 h8b hpw) (show 0 ≤ (z86) ∧ (z86) ≤ 262143 from q_4188 h9b hpw) (show 2 ≤ (z73) ∧ (z73) ≤ 3 from q_4187 hkk) (show 0 ≤ (z76) ∧ (z76) ≤ 3 from q_4186 hl3_) (show 3 ≤ (tc43_0) ∧ (tc43_0) ≤ 5 from q_4185 hl3_ jc43_1) (show (tc43_0) ≤ (u0_18) - (u0_9) from b77) (show LTF (ub8 ((w1))) ((u0_9)) ((u0_18)) (moF ((u0_15))) CC.1 CC.2 = LT2 (ub8 ((w1))) ((u0_9)) ((u0_18)) (moF ((u0_15))) CC.1 CC.2 ((z73)) ((z76)) ((tc43_0)) ((z82)) ((z86)) by assumption)
      refine w_icmpge (t := 80) rfl rfl (show inr (z76) from gz76) (show inr (2) from q_122) (fun b87 => ?_) (fun b87 => ?_)
      · refine Ew_of (pcₚ := 81) (fun _ => x_iconst rfl) ?_
        refine Ew_of (pcₚ := 82) (fun _ => x_iload_n rfl (rk_o (lc43_3) rfl rfl)) ?_
        refine w_imul rfl ?_
        refine Ew_of (pcₚ := 85) (fun _ => x_bipush (z := 6) rfl (by decide)) ?_
        refine w_iadd rfl ?_
        exact hc86 (((4 * z76) + 6)) _ _ _ _  (rk_o (lc43_0) rfl rfl) (rk_o (lc43_1) rfl rfl) (rk_o (lc43_2) rfl rfl) (rk_o (lc43_3) rfl rfl) (rk_s) H O (SF_refl) (SA_refl)     (show inr (((4 * z76) + 6)) from q_4190 b87 hl3_) (show ((z76) ≥ (2) ∧ (((4 * z76) + 6)) = (((4 * z76) + 6))) ∨ ((z76) < (2) ∧ (((4 * z76) + 6)) = (10)) from q_4189 b87)
      · refine Ew_of (pcₚ := 77) (fun _ => x_bipush (z := 10) rfl (by decide)) ?_
        refine Ew_of (pcₚ := 86) (fun _ => x_goto rfl rfl) ?_
        exact hc86 (10) _ _ _ _  (rk_o (lc43_0) rfl rfl) (rk_o (lc43_1) rfl rfl) (rk_o (lc43_2) rfl rfl) (rk_o (lc43_3) rfl rfl) (rk_s) H O (SF_refl) (SA_refl)     (show inr (10) from q_746) (show ((z76) ≥ (2) ∧ (10) = (((4 * z76) + 6))) ∨ ((z76) < (2) ∧ (10) = (10)) from q_4191 b87)
    · refine Ew_of (pcₚ := 60) (fun _ => x_aload_n rfl (rk_o (lc43_0) rfl rfl)) ?_
      refine Ew_of (pcₚ := 62) (fun _ => x_bipush (z := 10) rfl (by decide)) ?_
      refine Ew_of (pcₚ := 63) (fun _ => x_aload_n rfl (rk_o (lc43_0) rfl rfl)) ?_
      refine v_g H (o := 0) (v := I (u0_18)) rfl rfl rfl rfl rfl (congrArg (fun z : Int => I z) (((mF_c43 0 18 rfl).trans (eu0_18)) : F_c43 0 18 = u0_18)) ?_
      refine v_inv H (o := 0) rfl rfl rfl rfl rfl rfl (by rfl) (C232 (D := puc 0 D) (N := puc 0 N) (HW_subc H oz_H8cls_20 oz_H8cls_12) (u0_21) (((hS_c43 0 21 rfl).trans (eu0_21))) (show inr (10) from q_746) (show inr (u0_18) from q_18 r4) (fun z88 σ88 F88ₚ A88ₚ Hₚ Oₚ hS88 hA88 y88_0_21 (ey88_0_21 : HID _) pz88_0 pz88_1 pz88_2 => ⟨rfl, ?_⟩))
      refine v_backc (c := c) (s := s) H oz_H8cls_20 oz_H8cls_12 Hₚ Oₚ (fun F88 A88 H Oₚ eF88 eA88 => ?_)
      have O := OUT_trans O Oₚ
      -- Unpacker.fail
      have cF88 : SF oz_H8clsl_9 F F88 := SF_trans (cF_c43) (SF_gluc (ι := oz_H8clsl_3) oz_H8cls_12 hS88 eF88 (by decide +kernel)) (any_sub (lₚ := [(0, 21)]) (by decide +kernel))
      have mF88 := SFm_of cF88 oz_H8cls_26
      have cA88 : SA oz_H8clsl_1 A A88 := SA_trans (cA_c43) (SA_gluc (ι := oz_H8clsl_3) oz_H8cls_12 hA88 eA88 (by decide +kernel)) (any_subA (lₚ := []) (by decide +kernel))
      have mA88 := SAm_of cA88 oz_H8cls_10
      have r89 : (-2147483648 : Int) ≤ y88_0_21 ∧ y88_0_21 ≤ 2147483647 := rngE (show (-2147483648 : Int) ≤ F88 0 21 ∧ F88 0 21 ≤ 2147483647 from H.krg 0 21 (ltn len_V245_vn_oz_H8cls rfl)) (show F88 0 21 = y88_0_21 from ((eF88 0 21).trans ey88_0_21))
      have hCL : CLA (LTF (ub8 ((w1))) ((u0_9)) ((u0_18)) (moF ((u0_15))) CC.1 CC.2) ((z88)) ((y88_0_21)) ((u0_9)) ((u0_19)) ((u2_1)) ((w3)) := CLA_f (LTF_h (b := (tc43_0)) (by omega) hqx (.inr ⟨by omega, by rw [← hl3_]; exact hb4⟩) (by omega)) (by decide) (by omega) (by omega)
      have hcf0 : IMP (((z88) : Int) = 0) (SLB ((u22_0)) ((((D 4 : Nat) : Int))) (CDO ((LTF (ub8 ((w1))) ((u0_9)) ((u0_18)) (moF ((u0_15))) CC.1 CC.2).2.2.2.2) ((u4_3)) ((w7)))) := fun q => absurd q (by omega)
      have hcf1 : IMP (((z88) : Int) = 0) (NLC ((u22_0)) ((LTF (ub8 ((w1))) ((u0_9)) ((u0_18)) (moF ((u0_15))) CC.1 CC.2).2.2.2.2)) := fun q => absurd q (by omega)
      exact w_ireturn rfl (k (z88) _ _ _ _ _ _ _ H O (SD_refl) (SD_refl) (cF88) (cA88) (((((show F88 2 0 = F_c43 2 0 from (eF88 2 0))).trans (hS_c43 2 0 rfl))).trans (pf3)) (n3) (en3) (u0_9) (((((show F88 0 9 = F_c43 0 9 from (eF88 0 9).trans (hS88 0 9 rfl))).trans (hS_c43 0 9 rfl)).trans (eu0_9))) (u0_19) (((((show F88 0 19 = F_c43 0 19 from (eF88 0 19).trans (hS88 0 19 rfl))).trans (hS_c43 0 19 rfl)).trans (eu0_19))) (y88_0_21) (((eF88 0 21).trans ey88_0_21)) (u2_1) (((((show F88 2 1 = F_c43 2 1 from (eF88 2 1))).trans (hS_c43 2 1 rfl)).trans (eu2_1))) (u4_3) (((((show F88 4 3 = F_c43 4 3 from (eF88 4 3))).trans (hS_c43 4 3 rfl)).trans (eu4_3))) (u22_0) (((((show F88 22 0 = F_c43 22 0 from (eF88 22 0))).trans (hS_c43 22 0 rfl)).trans (eu22_0))) (w3) (((show A88 3 = A_c43 3 from (eA88 3))).trans ((funext (hA_c43 3 rfl)).trans (ew3))) (w7) (((show A88 7 = A_c43 7 from (eA88 7))).trans ((funext (hA_c43 7 rfl)).trans (ew7))) (show inr (z88) from pz88_0) (show 0 ≤ (z88) ∧ (z88) ≤ 17 from q_4022 pz88_1) (show 0 ≤ (u0_9) ∧ (u0_9) ≤ (u0_18) from q_4136 h0 h1) (show 0 ≤ (u2_1) ∧ (u2_1) ≤ (n3) ∧ (n3) ≤ 65536 from h4) (show (z88) ≠ 0 ∨ 0 ≤ (u0_19) ∧ (u0_19) ≤ 131072 ∧ ((u0_19) ≤ (n3) ∨ (n3) = 65536) from q_4019 pz88_1) (show (z88) ≠ 0 ∨ (u22_0) = -1 ∨ (u22_0) = (((D 4 : Nat) : Int)) from q_4198 pz88_1) (show (z88) ≠ 0 ∨ (u22_0) ≠ (((D 4 : Nat) : Int)) ∨ 0 ≤ (u4_3) ∧ (u4_3) ≤ 11 from q_4167 pz88_1) (h10) (hCL) (show IMP ((z88) = 0) (SLB ((u22_0)) ((((D 4 : Nat) : Int))) (CDO ((LTF (ub8 ((w1))) ((u0_9)) ((u0_18)) (moF ((u0_15))) CC.1 CC.2).2.2.2.2) ((u4_3)) ((w7)))) by assumption) (show IMP ((z88) = 0) (NLC ((u22_0)) ((LTF (ub8 ((w1))) ((u0_9)) ((u0_18)) (moF ((u0_15))) CC.1 CC.2).2.2.2.2)) by assumption) (show (z88) ≠ 0 ∨ (u0_19) ≤ moF ((u0_15)) from q_4018 pz88_1) (show (z88) ≠ 0 ∨ (y88_0_21) = (u0_21) from q_4017 pz88_1))
  refine w_icmpge (t := 40) rfl rfl (show inr (z76) from gz76) (show inr (2) from q_122) (fun b90 => ?_) (fun b90 => ?_)
  · refine Ew_of (pcₚ := 41) (fun _ => x_iload_n rfl rk_s) ?_
    refine Ew_of (pcₚ := 42) (fun _ => x_iconst rfl) ?_
    refine w_iadd rfl ?_
    exact hc43 ((z76 + 2)) _ _ _ _  (rk_o (rk_o (rk_o (rfl) rfl rfl) rfl rfl) rfl rfl) (rk_o (rk_o (rk_s) rfl rfl) rfl rfl) (rk_o (rk_s) rfl rfl) (rk_s) H O (SF_refl) (SA_refl)     (show inr ((z76 + 2)) from q_4193 b90 hl3_) (show ((z76) ≥ (2) ∧ ((z76 + 2)) = ((z76 + 2))) ∨ ((z76) < (2) ∧ ((z76 + 2)) = (3)) from q_4192 b90)
  · refine Ew_of (pcₚ := 37) (fun _ => x_iconst rfl) ?_
    refine Ew_of (pcₚ := 43) (fun _ => x_goto rfl rfl) ?_
    exact hc43 (3) _ _ _ _  (rk_o (rk_o (rk_o (rfl) rfl rfl) rfl rfl) rfl rfl) (rk_o (rk_o (rk_s) rfl rfl) rfl rfl) (rk_o (rk_s) rfl rfl) (rk_s) H O (SF_refl) (SA_refl)     (show inr (3) from q_246) (show ((z76) ≥ (2) ∧ (3) = ((z76 + 2))) ∨ ((z76) < (2) ∧ (3) = (3)) from q_4194 b90)

