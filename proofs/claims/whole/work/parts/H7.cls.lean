abbrev V246 : vV := [(0, 12, [(4, 0), (4, 0), (4, 0), (4, 0), (4, 0), (4, 0), (4, 0), (4, 0), (0, 0), (0, 0), (4, 0), (0, 0), (4, 0), (4, 0), (0, 0), (2, 0), (0, 0), (0, 0), (0, 0), (0, 0), (0, 0), (0, 0)]), (1, 0, []), (0, 7, [(4, 0), (0, 0), (1, 0), (0, 0), (0, 0)]), (1, 0, []), (0, 9, [(4, 0), (4, 0), (4, 0)]), (0, 3, [(4, 0), (4, 0), (4, 0), (0, 0), (4, 0), (4, 0), (4, 0), (4, 0), (4, 0), (4, 0), (4, 0), (4, 0), (4, 0), (0, 0), (0, 0), (0, 0), (0, 0)]), (1, 1, []), (0, 2, [(4, 0), (0, 0), (0, 0)])]
set_option maxHeartbeats 16000000 in
/-- Unpacker.unpackStreams: this, this.in, this.literals, this.literals.bytes, this.now, this.now.codes, this.now.codes.cells, this.now.codes.source -/
theorem C246 {σE : rS} {D N : Nat → Nat} {F : hF} {A : hA} {d c s : Nat} {Q : wQ} (H : HW V246 σE D N F A) {a1 a2 a3 : Int} (pf1 : F 0 7 = (D 1 : Int)) (pf2 : F 0 4 = (D 2 : Int)) (pf3 : F 2 0 = (D 3 : Int)) (pf4 : F 0 3 = (D 4 : Int)) (pf5 : F 4 0 = (D 5 : Int)) (pf6 : F 5 2 = (D 6 : Int)) (pf7 : F 5 9 = (D 7 : Int)) (n1 : Int) (en1 : (N 1 : Int) = n1) (n3 : Int) (en3 : (N 3 : Int) = n3) (n6 : Int) (en6 : (N 6 : Int) = n6) (u0_9 : Int) (eu0_9 : F 0 9 = u0_9) (u0_21 : Int) (eu0_21 : F 0 21 = u0_21) (u2_1 : Int) (eu2_1 : F 2 1 = u2_1) (u5_3 : Int) (eu5_3 : F 5 3 = u5_3) (w1 : Int → Int) (ew1 : A 1 = w1) (w3 : Int → Int) (ew3 : A 3 = w3) (w6 : Int → Int) (ew6 : A 6 = w6) (GG : Int → Int) (h0 : inr (a1)) (h1 : inr (a2)) (h2 : inr (a3)) (h3 : 0 ≤ (u0_9) ∧ (u0_9) ≤ (a1) ∧ (a1) ≤ (n1) ∧ (n1) ≤ 65536) (h4 : 0 ≤ (a2) ∧ (a2) ≤ 131072) (h5 : (a3) = 1 ∨ (a3) = 4) (h6 : 0 ≤ (u2_1) ∧ (u2_1) ≤ (n3) ∧ (n3) ≤ 65536) (h7 : (a3) = 1 ∨ 3 * (((a2) + 3) / 4) ≤ (a2)) (h8 : (u2_1) = 0) (h9 : CI GG ((u5_3))) (h10 : fl ((w6)) (p2 ((u5_3))) = (CELS GG ((u5_3))).map (clF GG)) (h11 : 0 ≤ (u5_3) ∧ (u5_3) ≤ 11) (h12 : CEL ((w6))) (h13 : (n6) = 2048) (k : ∀ (z : Int) (σ : rS) (F' : hF) (A' : hA), HW V246 σ D N F' A' → OUT (V246).length D N σE c s D N σ c s → SF [(0, 9), (0, 21), (2, 1), (7, 0), (7, 1), (7, 2)] F F' → SA [3] A A' → ∀ y0_9 : Int, F' 0 9 = y0_9 → ∀ y0_21 : Int, F' 0 21 = y0_21 → ∀ y2_1 : Int, F' 2 1 = y2_1 → ∀ v3 : Int → Int, A' 3 = v3 → (inr (z)) → (0 ≤ (z) ∧ (z) ≤ 17) → (0 ≤ (y0_9) ∧ (y0_9) ≤ (a1)) → (0 ≤ (y2_1) ∧ (y2_1) ≤ (n3) ∧ (n3) ≤ 65536) → (STU (STF (ub8 ((w1))) GG ((u5_3)) ((a2)) ((a3) - 1) ((u0_9)) ((a1))) ((z)) ((y0_21)) ((v3)) ((y2_1)) ((n3))) → ((z) ≠ 0 ∨ (y0_9) = (a1)) → ((z) ≠ 0 ∨ (y0_21) = (u0_21)) → Q (some (I z)) σ c s) : Ew 246 (d + 3) 0 (rargs 0 [.ref (D 0), I a1, I a2, I a3]) [] σE c s Q := by
  have O := OUT_refl (n := (V246).length) (D := D) (N := N) (σ := σE) (c := c) (s := s)
  have HE := H
  have r1 : (-2147483648 : Int) ≤ u0_9 ∧ u0_9 ≤ 2147483647 := by have h1 : (-2147483648 : Int) ≤ F 0 9 ∧ F 0 9 ≤ 2147483647 := H.krg 0 9 (by decide); rw [show F 0 9 = u0_9 from (eu0_9)] at h1; exact h1
  have r2 : (-2147483648 : Int) ≤ u0_21 ∧ u0_21 ≤ 2147483647 := by have h1 : (-2147483648 : Int) ≤ F 0 21 ∧ F 0 21 ≤ 2147483647 := H.krg 0 21 (by decide); rw [show F 0 21 = u0_21 from (eu0_21)] at h1; exact h1
  have r3 : (-2147483648 : Int) ≤ u2_1 ∧ u2_1 ≤ 2147483647 := by have h1 : (-2147483648 : Int) ≤ F 2 1 ∧ F 2 1 ≤ 2147483647 := H.krg 2 1 (by decide); rw [show F 2 1 = u2_1 from (eu2_1)] at h1; exact h1
  have r4 : (-2147483648 : Int) ≤ u5_3 ∧ u5_3 ≤ 2147483647 := by have h1 : (-2147483648 : Int) ≤ F 5 3 ∧ F 5 3 ≤ 2147483647 := H.krg 5 3 (by decide); rw [show F 5 3 = u5_3 from (eu5_3)] at h1; exact h1
  replace pf1 := HIDm pf1
  replace pf2 := HIDm pf2
  replace pf3 := HIDm pf3
  replace pf4 := HIDm pf4
  replace pf5 := HIDm pf5
  replace pf6 := HIDm pf6
  replace pf7 := HIDm pf7
  replace en1 := HIDm en1
  replace en3 := HIDm en3
  replace en6 := HIDm en6
  replace eu0_9 := HIDm eu0_9
  replace eu0_21 := HIDm eu0_21
  replace eu2_1 := HIDm eu2_1
  replace eu5_3 := HIDm eu5_3
  have r5 : (0 : Int) ≤ n1 ∧ n1 ≤ 1000000 := by have h1 := H.nle 1 (by decide); have h2 : (N 1 : Int) = n1 := en1; omega
  have r6 : (0 : Int) ≤ n3 ∧ n3 ≤ 1000000 := by have h1 := H.nle 3 (by decide); have h2 : (N 3 : Int) = n3 := en3; omega
  have r7 : (0 : Int) ≤ n6 ∧ n6 ≤ 1000000 := by have h1 := H.nle 6 (by decide); have h2 : (N 6 : Int) = n6 := en6; omega
  refine Ew_of (pc' := 1) (fun _ => x_aload_n rfl rfl) ?_
  refine v_g H (o := 0) (v := I (u0_9)) rfl rfl rfl rfl rfl (congrArg (fun z : Int => I z) ((eu0_9) : F 0 9 = u0_9)) ?_
  refine Ew_of (pc' := 6) (fun _ => x_istore rfl) ?_
  have hc95 : ∀ (ls : rO) (σ : rS) (F_c95 : hF) (A_c95 : hA) , rlook ls 0 = some (.ref (D 0)) → rlook ls 1 = some (I (a1)) → rlook ls 2 = some (I (a2)) → rlook ls 3 = some (I (a3)) → rlook ls 4 = some (I (u0_9)) → HW V246 σ D N F_c95 A_c95 → OUT (V246).length D N σE c s D N σ c s → SF [(0, 9)] F F_c95 → SA [] A A_c95 → ∀ yc95_0_9 : Int, F_c95 0 9 = yc95_0_9 → (0 ≤ (yc95_0_9) ∧ (yc95_0_9) ≤ (a1)) → ((a3) = 1 ∨ (u0_9) + 6 ≤ (a1) ∧ (yc95_0_9) + su (fun j => nmb ((w1)) ((u0_9) + 2 * j) 2 2) (3 : Int).toNat ≤ (a1)) → ((a3) = 1 ∨ NNS (fun j => nmb ((w1)) ((u0_9) + 2 * j) 2 2) 3) → (((a3) = 1 ∧ (yc95_0_9) = (u0_9) ∨ (a3) = 4 ∧ (yc95_0_9) = (u0_9) + 6 ∧ 6 + (nvl (ub8 ((w1))) ((u0_9)) 2 + nvl (ub8 ((w1))) ((u0_9) + 2) 2 + nvl (ub8 ((w1))) ((u0_9) + 4) 2) ≤ (a1) - (u0_9))) → ((u0_21) = (u0_21)) → Ew 246 (d + 3) 95 ls [] σ c s Q := by
   as_aux_lemma =>
    intro  ls σ F_c95 A_c95  lc95_0 lc95_1 lc95_2 lc95_3 lc95_4 H O hS_c95 hA_c95   yc95_0_9 eyc95_0_9  jc95_0 jc95_1 jc95_2 jc95_3 jc95_4
    replace eyc95_0_9 := HIDm eyc95_0_9
    have r8 : (-2147483648 : Int) ≤ yc95_0_9 ∧ yc95_0_9 ≤ 2147483647 := by have h1 : (-2147483648 : Int) ≤ F_c95 0 9 ∧ F_c95 0 9 ≤ 2147483647 := H.krg 0 9 (by decide); rw [show F_c95 0 9 = yc95_0_9 from (eyc95_0_9)] at h1; exact h1
    have k95 : ((a3) = 1 ∧ (yc95_0_9) = (u0_9) ∨ (a3) = 4 ∧ (yc95_0_9) = (u0_9) + 6 ∧ 6 + (nvl (ub8 ((w1))) ((u0_9)) 2 + nvl (ub8 ((w1))) ((u0_9) + 2) 2 + nvl (ub8 ((w1))) ((u0_9) + 4) 2) ≤ (a1) - (u0_9)) := by assumption
    refine Ew_of (pc' := 96) (fun _ => x_iload_n rfl lc95_2) ?_
    refine Ew_of (pc' := 97) (fun _ => x_iload_n rfl lc95_3) ?_
    refine w_iadd rfl ?_
    refine Ew_of (pc' := 99) (fun _ => x_iconst rfl) ?_
    refine w_isub rfl ?_
    refine Ew_of (pc' := 101) (fun _ => x_iload_n rfl lc95_3) ?_
    refine w_idiv rfl (show inr (((a2 + a3) - 1)) ∧ 0 ≤ ((a2 + a3) - 1) by omega) (show inr (a3) ∧ 0 < a3 by omega) ?_
    have hea : 0 ≤ (((((a2 + a3) - 1) / a3)) : Int) ∧ (((((a2 + a3) - 1) / a3)) : Int) ≤ 131072 := by rcases (show (a3) = 1 ∨ (a3) = 4 by assumption) with q | q <;> rw [q] <;> omega
    have hl5v : (a3) = 1 ∧ (((((a2 + a3) - 1) / a3)) : Int) = (a2) ∨ (a3) = 4 ∧ (((((a2 + a3) - 1) / a3)) : Int) = ((a2) + 3) / 4 := by rcases (show (a3) = 1 ∨ (a3) = 4 by assumption) with q | q; (exact .inl ⟨q, by rw [q]; omega⟩); (exact .inr ⟨q, by rw [q]; omega⟩)
    refine Ew_of (pc' := 104) (fun _ => x_istore rfl) ?_
    refine Ew_of (pc' := 105) (fun _ => x_iconst rfl) ?_
    refine Ew_of (pc' := 107) (fun _ => x_istore rfl) ?_
    have hz1 : su (fun j => nmb ((w1)) ((u0_9) + 2 * j) 2 2) (0 : Int).toNat = 0 := rfl
    have hsj : ∃ A : List Int, SIR (STF (ub8 ((w1))) GG ((u5_3)) ((a2)) ((a3) - 1) ((u0_9)) ((a1))) (ub8 ((w1))) GG ((u5_3)) ((a2)) ((a3)) (((((a2 + a3) - 1) / a3))) ((u0_9)) ((a1)) ((0 : Int)) ((yc95_0_9)) A ∧ LKP ((w3)) ((u2_1)) ((n3)) A := by rcases k95 with ⟨x, y⟩ | ⟨x, y, z⟩; (exact ⟨[], SIR_1 x (by omega) (by omega) (by omega) (by omega), LKP_z (by omega)⟩); (exact ⟨[], SIR_4 x (by omega) (by omega) (by omega) (by omega) z, LKP_z (by omega)⟩)
    suffices hl107 : ∀ (m : Nat), ∀ (ls : rO) (σ : rS) (F_107 : hF) (A_107 : hA) (x107_6 : Int), rlook ls 0 = some (.ref (D 0)) → rlook ls 1 = some (I (a1)) → rlook ls 2 = some (I (a2)) → rlook ls 3 = some (I (a3)) → rlook ls 4 = some (I (u0_9)) → rlook ls 5 = some (I ((((a2 + a3) - 1) / a3))) → rlook ls 6 = some (I (x107_6)) → HW V246 σ D N F_107 A_107 → OUT (V246).length D N σE c s D N σ c s → SF [(0, 9), (2, 1), (7, 0), (7, 1), (7, 2)] F_c95 F_107 → SA [3] A_c95 A_107 → ∀ y107_0_9 : Int, F_107 0 9 = y107_0_9 → ∀ y107_2_1 : Int, F_107 2 1 = y107_2_1 → ∀ w107_3 : Int → Int, A_107 3 = w107_3 → (inr (x107_6)) → ((0) ≤ (x107_6)) → ((x107_6) ≤ (0) ∨ (x107_6) ≤ ((a3))) → (0 ≤ (y107_0_9) ∧ (y107_0_9) ≤ (a1)) → (0 ≤ (y107_2_1) ∧ (y107_2_1) ≤ (n3) ∧ (n3) ≤ 65536) → ((a3) = 1 ∨ 3 < (x107_6) ∨ (y107_0_9) + su (fun j => nmb ((w1)) ((u0_9) + 2 * j) 2 2) (3 : Int).toNat ≤ (a1) + su (fun j => nmb ((w1)) ((u0_9) + 2 * j) 2 2) ((x107_6) : Int).toNat) → (∃ A : List Int, SIR (STF (ub8 ((w1))) GG ((u5_3)) ((a2)) ((a3) - 1) ((u0_9)) ((a1))) (ub8 ((w1))) GG ((u5_3)) ((a2)) ((a3)) (((((a2 + a3) - 1) / a3))) ((u0_9)) ((a1)) ((x107_6)) ((y107_0_9)) A ∧ LKP ((w107_3)) ((y107_2_1)) ((n3)) A) → ((x107_6) < (a3) ∨ (y107_0_9) = (a1)) → ((u0_21) = (u0_21)) → (((a3)) - (x107_6)).toNat = m → Ew 246 (d + 3) 107 ls [] σ c s Q from
      hl107 _ _ _ _ _ (0) (rk_o (rk_o (lc95_0) rfl rfl) rfl rfl) (rk_o (rk_o (lc95_1) rfl rfl) rfl rfl) (rk_o (rk_o (lc95_2) rfl rfl) rfl rfl) (rk_o (rk_o (lc95_3) rfl rfl) rfl rfl) (rk_o (rk_o (lc95_4) rfl rfl) rfl rfl) (rk_o (rk_s) rfl rfl) (rk_s) H O (SF_refl) (SA_refl)   (yc95_0_9) ((eyc95_0_9)) (u2_1) (((hS_c95 2 1 rfl).trans (eu2_1))) (w3) ((funext (hA_c95 3 rfl)).trans (ew3)) (show inr (0) by omega) (show (0) ≤ (0) by omega) (show (0) ≤ (0) ∨ (0) ≤ ((a3)) by omega) (show 0 ≤ (yc95_0_9) ∧ (yc95_0_9) ≤ (a1) by omega) (show 0 ≤ (u2_1) ∧ (u2_1) ≤ (n3) ∧ (n3) ≤ 65536 by omega) (show (a3) = 1 ∨ 3 < (0) ∨ (yc95_0_9) + su (fun j => nmb ((w1)) ((u0_9) + 2 * j) 2 2) (3 : Int).toNat ≤ (a1) + su (fun j => nmb ((w1)) ((u0_9) + 2 * j) 2 2) ((0) : Int).toNat by omega) (show ∃ A : List Int, SIR (STF (ub8 ((w1))) GG ((u5_3)) ((a2)) ((a3) - 1) ((u0_9)) ((a1))) (ub8 ((w1))) GG ((u5_3)) ((a2)) ((a3)) (((((a2 + a3) - 1) / a3))) ((u0_9)) ((a1)) ((0)) ((yc95_0_9)) A ∧ LKP ((w3)) ((u2_1)) ((n3)) A by assumption) (show (0) < (a3) ∨ (yc95_0_9) = (a1) by omega) (show (u0_21) = (u0_21) by omega) rfl
    as_aux_lemma =>
    intro m
    induction m using Nat.strongRecOn with
    | _ m ih107 =>
      intro ls σ F_107 A_107 x107_6 l107_0 l107_1 l107_2 l107_3 l107_4 l107_5 l107_6 H O hS_107 hA_107   y107_0_9 ey107_0_9 y107_2_1 ey107_2_1 w107_3 ew107_3 j107_0 j107_1 j107_2 j107_3 j107_4 j107_5 j107_6 j107_7 j107_8 hm107
      replace ey107_0_9 := HIDm ey107_0_9
      replace ey107_2_1 := HIDm ey107_2_1
      have r9 : (-2147483648 : Int) ≤ y107_0_9 ∧ y107_0_9 ≤ 2147483647 := by have h1 : (-2147483648 : Int) ≤ F_107 0 9 ∧ F_107 0 9 ≤ 2147483647 := H.krg 0 9 (by decide); rw [show F_107 0 9 = y107_0_9 from (ey107_0_9)] at h1; exact h1
      have r10 : (-2147483648 : Int) ≤ y107_2_1 ∧ y107_2_1 ≤ 2147483647 := by have h1 : (-2147483648 : Int) ≤ F_107 2 1 ∧ F_107 2 1 ≤ 2147483647 := H.krg 2 1 (by decide); rw [show F_107 2 1 = y107_2_1 from (ey107_2_1)] at h1; exact h1
      have j107_s : ∃ A : List Int, SIR (STF (ub8 ((w1))) GG ((u5_3)) ((a2)) ((a3) - 1) ((u0_9)) ((a1))) (ub8 ((w1))) GG ((u5_3)) ((a2)) ((a3)) (((((a2 + a3) - 1) / a3))) ((u0_9)) ((a1)) ((x107_6)) ((y107_0_9)) A ∧ LKP ((w107_3)) ((y107_2_1)) ((n3)) A := by assumption
      obtain ⟨A_, hSI, hLK⟩ := j107_s
      refine Ew_of (pc' := 109) (fun _ => x_iload rfl l107_6) ?_
      refine Ew_of (pc' := 110) (fun _ => x_iload_n rfl l107_3) ?_
      refine w_icmpge (t := 227) rfl rfl (show inr (x107_6) by omega) (show inr (a3) by omega) (fun b11 => ?_) (fun b11 => ?_)
      · refine Ew_of (pc' := 228) (fun _ => x_iconst rfl) ?_
        have hST : STU (STF (ub8 ((w1))) GG ((u5_3)) ((a2)) ((a3) - 1) ((u0_9)) ((a1))) ((0)) ((u0_21)) ((w107_3)) ((y107_2_1)) ((n3)) := .inr ⟨by omega, A_, SIR_e hSI (by omega), hLK⟩
        exact w_ireturn rfl (k (0) _ _ _ H O (SF_trans (SF_trans (SF_refl) hS_c95 (any_sub rfl)) hS_107 (any_sub rfl)) (SA_trans (SA_trans (SA_refl) hA_c95 (any_subA rfl)) hA_107 (any_subA rfl)) (y107_0_9) ((ey107_0_9)) (u0_21) ((((hS_107 0 21 rfl).trans (hS_c95 0 21 rfl)).trans (eu0_21))) (y107_2_1) ((ey107_2_1)) (w107_3) (ew107_3) (show inr (0) by omega) (show 0 ≤ (0) ∧ (0) ≤ 17 by omega) (show 0 ≤ (y107_0_9) ∧ (y107_0_9) ≤ a1 by omega) (show 0 ≤ (y107_2_1) ∧ (y107_2_1) ≤ (n3) ∧ (n3) ≤ 65536 by omega) (show STU (STF (ub8 ((w1))) GG ((u5_3)) (a2) (a3 - 1) ((u0_9)) (a1)) ((0)) ((u0_21)) ((w107_3)) ((y107_2_1)) ((n3)) by assumption) (show (0) ≠ 0 ∨ (y107_0_9) = a1 by omega) (show (0) ≠ 0 ∨ (u0_21) = (u0_21) by omega))
      · refine Ew_of (pc' := 115) (fun _ => x_iload rfl l107_6) ?_
        refine Ew_of (pc' := 116) (fun _ => x_iload_n rfl l107_3) ?_
        refine Ew_of (pc' := 117) (fun _ => x_iconst rfl) ?_
        refine w_isub rfl ?_
        have hc126 : ∀ (tc126_0 : Int), ∀ (ls : rO) (σ : rS) (F_c126 : hF) (A_c126 : hA) , rlook ls 0 = some (.ref (D 0)) → rlook ls 1 = some (I (a1)) → rlook ls 2 = some (I (a2)) → rlook ls 3 = some (I (a3)) → rlook ls 4 = some (I (u0_9)) → rlook ls 5 = some (I ((((a2 + a3) - 1) / a3))) → rlook ls 6 = some (I (x107_6)) → HW V246 σ D N F_c126 A_c126 → OUT (V246).length D N σE c s D N σ c s → SF [] F_107 F_c126 → SA [] A_107 A_c126 → (inr (tc126_0)) → (((x107_6) ≠ ((a3 - 1)) ∧ (tc126_0) = (0)) ∨ ((x107_6) = ((a3 - 1)) ∧ (tc126_0) = (1))) → Ew 246 (d + 3) 126 ls [I (tc126_0)] σ c s Q := by
         as_aux_lemma =>
          intro tc126_0 ls σ F_c126 A_c126  lc126_0 lc126_1 lc126_2 lc126_3 lc126_4 lc126_5 lc126_6 H O hS_c126 hA_c126     jc126_0 jc126_1
          refine Ew_of (pc' := 128) (fun _ => x_istore rfl) ?_
          have hc158 : ∀ (tc158_0 : Int), ∀ (ls : rO) (σ : rS) (F_c158 : hF) (A_c158 : hA) , rlook ls 0 = some (.ref (D 0)) → rlook ls 1 = some (I (a1)) → rlook ls 2 = some (I (a2)) → rlook ls 3 = some (I (a3)) → rlook ls 4 = some (I (u0_9)) → rlook ls 5 = some (I ((((a2 + a3) - 1) / a3))) → rlook ls 6 = some (I (x107_6)) → rlook ls 7 = some (I (tc126_0)) → HW V246 σ D N F_c158 A_c158 → OUT (V246).length D N σE c s D N σ c s → SF [] F_c126 F_c158 → SA [] A_c126 A_c158 → (inr (tc158_0)) → ((y107_0_9) ≤ (tc158_0) ∧ (tc158_0) ≤ (a1)) → ((a3) = 1 ∨ 3 ≤ (x107_6) ∨ (tc158_0) + su (fun j => nmb ((w1)) ((u0_9) + 2 * j) 2 2) (3 : Int).toNat ≤ (a1) + su (fun j => nmb ((w1)) ((u0_9) + 2 * j) 2 2) ((x107_6) + 1 : Int).toNat) → (((tc126_0) = 1 ∧ (tc158_0) = (a1) ∨ (tc126_0) = 0 ∧ (tc158_0) = (y107_0_9) + nvl (ub8 ((w1))) ((u0_9) + 2 * (x107_6)) 2)) → Ew 246 (d + 3) 158 ls [I (tc158_0)] σ c s Q := by
           as_aux_lemma =>
            intro tc158_0 ls σ F_c158 A_c158  lc158_0 lc158_1 lc158_2 lc158_3 lc158_4 lc158_5 lc158_6 lc158_7 H O hS_c158 hA_c158     jc158_0 jc158_1 jc158_2 jc158_3
            refine Ew_of (pc' := 160) (fun _ => x_istore rfl) ?_
            obtain ⟨q7, hq7⟩ : ∃ q : Int, q = (tc126_0) := ⟨_, rfl⟩
            have hq7c : q7 = 1 ∧ (x107_6) = (a3) - 1 ∨ q7 = 0 ∧ (x107_6) ≠ (a3) - 1 := by omega
            have h158 : ((tc126_0) = 1 ∧ (tc158_0) = (a1) ∨ (tc126_0) = 0 ∧ (tc158_0) = (y107_0_9) + nvl (ub8 ((w1))) ((u0_9) + 2 * (x107_6)) 2) := by assumption
            refine Ew_of (pc' := 161) (fun _ => x_aload_n rfl (rk_o (lc158_0) rfl rfl)) ?_
            refine v_g H (o := 0) (v := .ref (D 4)) rfl rfl rfl rfl rfl (vrf ((((((hS_c158 0 3 rfl).trans (hS_c126 0 3 rfl)).trans (hS_107 0 3 rfl)).trans (hS_c95 0 3 rfl))).trans (pf4))) ?_
            refine v_g H (o := 4) (v := .ref (D 5)) rfl rfl rfl rfl rfl (vrf ((((((hS_c158 4 0 rfl).trans (hS_c126 4 0 rfl)).trans (hS_107 4 0 rfl)).trans (hS_c95 4 0 rfl))).trans (pf5))) ?_
            refine Ew_of (pc' := 168) (fun _ => x_aload_n rfl (rk_o (lc158_0) rfl rfl)) ?_
            refine v_g H (o := 0) (v := .ref (D 1)) rfl rfl rfl rfl rfl (vrf ((((((hS_c158 0 7 rfl).trans (hS_c126 0 7 rfl)).trans (hS_107 0 7 rfl)).trans (hS_c95 0 7 rfl))).trans (pf1))) ?_
            refine Ew_of (pc' := 172) (fun _ => x_aload_n rfl (rk_o (lc158_0) rfl rfl)) ?_
            refine v_g H (o := 0) (v := I (y107_0_9)) rfl rfl rfl rfl rfl (congrArg (fun z : Int => I z) ((((hS_c158 0 9 rfl).trans (hS_c126 0 9 rfl)).trans (ey107_0_9)) : F_c158 0 9 = y107_0_9)) ?_
            refine Ew_of (pc' := 177) (fun _ => x_iload rfl rk_s) ?_
            have hc194 : ∀ (tc194_0 : Int), ∀ (ls : rO) (σ : rS) (F_c194 : hF) (A_c194 : hA) , rlook ls 0 = some (.ref (D 0)) → rlook ls 1 = some (I (a1)) → rlook ls 2 = some (I (a2)) → rlook ls 3 = some (I (a3)) → rlook ls 4 = some (I (u0_9)) → rlook ls 5 = some (I ((((a2 + a3) - 1) / a3))) → rlook ls 6 = some (I (x107_6)) → rlook ls 8 = some (I (tc158_0)) → HW V246 σ D N F_c194 A_c194 → OUT (V246).length D N σE c s D N σ c s → SF [] F_c158 F_c194 → SA [] A_c158 A_c194 → (inr (tc194_0)) → (0 ≤ (tc194_0)) → ((q7 = 1 ∧ (tc194_0) = (a2) - (x107_6) * ((((a2 + a3) - 1) / a3)) ∨ q7 = 0 ∧ (tc194_0) = ((((a2 + a3) - 1) / a3)))) → Ew 246 (d + 3) 194 ls [I (tc194_0), I (tc158_0), I (y107_0_9), .ref (D 1), .ref (D 5)] σ c s Q := by
             as_aux_lemma =>
              intro tc194_0 ls σ F_c194 A_c194  lc194_0 lc194_1 lc194_2 lc194_3 lc194_4 lc194_5 lc194_6 lc194_8 H O hS_c194 hA_c194     jc194_0 jc194_1 jc194_2
              refine Ew_of (pc' := 195) (fun _ => x_aload_n rfl lc194_0) ?_
              refine v_g H (o := 0) (v := .ref (D 2)) rfl rfl rfl rfl rfl (vrf (((((((hS_c194 0 4 rfl).trans (hS_c158 0 4 rfl)).trans (hS_c126 0 4 rfl)).trans (hS_107 0 4 rfl)).trans (hS_c95 0 4 rfl))).trans (pf2))) ?_
              have hcn : (x107_6) = (a3) - 1 ∧ (tc158_0) = (a1) ∧ (tc194_0) = (a2) - (x107_6) * ((((a2 + a3) - 1) / a3)) ∨ (x107_6) ≠ (a3) - 1 ∧ (tc158_0) = (y107_0_9) + nvl (ub8 ((w1))) ((u0_9) + 2 * (x107_6)) 2 ∧ (tc194_0) = ((((a2 + a3) - 1) / a3)) := by have k194 : (q7 = 1 ∧ (tc194_0) = (a2) - (x107_6) * ((((a2 + a3) - 1) / a3)) ∨ q7 = 0 ∧ (tc194_0) = ((((a2 + a3) - 1) / a3))) := by assumption; omega
              refine v_inv H (o := 5) rfl rfl rfl rfl rfl rfl (by rfl) (C110_Br_Row (D := pul [5, 1, 2, 6, 3, 7] D) (N := pul [5, 1, 2, 6, 3, 7] N) (HW_sub H (VS_of (show vsub V246 V110_Br_Row [5, 1, 2, 6, 3, 7] = true by decide +kernel))) (((((((hS_c194 5 2 rfl).trans (hS_c158 5 2 rfl)).trans (hS_c126 5 2 rfl)).trans (hS_107 5 2 rfl)).trans (hS_c95 5 2 rfl))).trans (pf6)) (((((((hS_c194 2 0 rfl).trans (hS_c158 2 0 rfl)).trans (hS_c126 2 0 rfl)).trans (hS_107 2 0 rfl)).trans (hS_c95 2 0 rfl))).trans (pf3)) (((((((hS_c194 5 9 rfl).trans (hS_c158 5 9 rfl)).trans (hS_c126 5 9 rfl)).trans (hS_107 5 9 rfl)).trans (hS_c95 5 9 rfl))).trans (pf7)) (n1) (en1) (n6) (en6) (n3) (en3) (u5_3) (((((((hS_c194 5 3 rfl).trans (hS_c158 5 3 rfl)).trans (hS_c126 5 3 rfl)).trans (hS_107 5 3 rfl)).trans (hS_c95 5 3 rfl)).trans (eu5_3))) (y107_2_1) (((((hS_c194 2 1 rfl).trans (hS_c158 2 1 rfl)).trans (hS_c126 2 1 rfl)).trans (ey107_2_1))) (w1) ((funext (hA_c194 1 rfl)).trans ((funext (hA_c158 1 rfl)).trans ((funext (hA_c126 1 rfl)).trans ((funext (hA_107 1 rfl)).trans ((funext (hA_c95 1 rfl)).trans (ew1)))))) (w6) ((funext (hA_c194 6 rfl)).trans ((funext (hA_c158 6 rfl)).trans ((funext (hA_c126 6 rfl)).trans ((funext (hA_107 6 rfl)).trans ((funext (hA_c95 6 rfl)).trans (ew6)))))) (w107_3) ((funext (hA_c194 3 rfl)).trans ((funext (hA_c158 3 rfl)).trans ((funext (hA_c126 3 rfl)).trans (ew107_3)))) (GG) (A_) (show inr (y107_0_9) by omega) (show inr (tc158_0) by omega) (show inr (tc194_0) by omega) (show 0 ≤ (y107_0_9) ∧ (y107_0_9) ≤ 65536 ∧ 0 ≤ (tc158_0) ∧ (tc158_0) ≤ (n1) ∧ (n1) ≤ 65536 ∧ (y107_0_9) ≤ 200000 by omega) (show 0 ≤ ((u5_3)) ∧ ((u5_3)) ≤ 11 by omega) (show CEL ((w6)) by assumption) (show (n6) = 2048 by omega) (show 0 ≤ (y107_2_1) ∧ (y107_2_1) ≤ (n3) ∧ (n3) ≤ 65536 by omega) (show 0 ≤ (tc194_0) by omega) (show CI (GG) ((u5_3)) by assumption) (show fl ((w6)) (p2 ((u5_3))) = (CELS (GG) ((u5_3))).map (clF (GG)) by assumption) (show LKP ((w107_3)) ((y107_2_1)) ((n3)) (A_) by assumption) (fun z12 σ12 F12' A12' H' O' hS12 hA12 y12_2_1 ey12_2_1 w12_4 ew12_4 pz12_0 pz12_1 pz12_2 pz12_3 => ⟨rretB rfl pz12_0, ?_⟩))
              replace ey12_2_1 := HIDm ey12_2_1
              refine v_back (c := c) (s := s) H (show vsub V246 V110_Br_Row [5, 1, 2, 6, 3, 7] = true by decide +kernel) H' O' (fun F12 A12 H O' eF12 eA12 => ?_)
              have O := OUT_trans O O'
              -- Codes.unpack
              have r13 : (-2147483648 : Int) ≤ y12_2_1 ∧ y12_2_1 ≤ 2147483647 := by have h1 : (-2147483648 : Int) ≤ F12 2 1 ∧ F12 2 1 ≤ 2147483647 := H.krg 2 1 (by decide); rw [show F12 2 1 = y12_2_1 from ((eF12 2 1).trans ey12_2_1)] at h1; exact h1
              have hDC := pz12_3
              refine w_ifne (t := 215) rfl rfl (show inr (z12) by omega) (fun b14 => ?_) (fun b14 => ?_)
              · refine Ew_of (pc' := 216) (fun _ => x_aload_n rfl lc194_0) ?_
                refine Ew_of (pc' := 218) (fun _ => x_iload rfl lc194_8) ?_
                refine v_p H (o := 0) (z := tc158_0) (v := I (tc158_0)) rfl rfl rfl rfl rfl rfl rfl rfl (show (-2147483648 : Int) ≤ tc158_0 ∧ tc158_0 ≤ 2147483647 by omega) (fun σ H O' => ?_)
                have O := OUT_trans O O'
                refine Ew_of (pc' := 224) (fun _ => x_iinc (len := 3) rfl (lc194_6)) ?_
                refine Ew_of (pc' := 107) (fun _ => x_goto rfl rfl) ?_
                have hsj : ∃ A : List Int, SIR (STF (ub8 ((w1))) GG ((u5_3)) ((a2)) ((a3) - 1) ((u0_9)) ((a1))) (ub8 ((w1))) GG ((u5_3)) ((a2)) ((a3)) (((((a2 + a3) - 1) / a3))) ((u0_9)) ((a1)) (((x107_6 + 1))) ((tc158_0)) A ∧ LKP ((w12_4)) ((y12_2_1)) ((n3)) A := by rcases hDC with ⟨x, _⟩ | ⟨_, B, x, y⟩; (omega); (exact ⟨B, SIR_s hSI (by omega) hcn x rfl, y⟩)
                exact ih107 _ (by omega) _ _ _ _ ((x107_6 + 1)) (rk_o (lc194_0) rfl rfl) (rk_o (lc194_1) rfl rfl) (rk_o (lc194_2) rfl rfl) (rk_o (lc194_3) rfl rfl) (rk_o (lc194_4) rfl rfl) (rk_o (lc194_5) rfl rfl) (rk_s) H O (SF_upd (SF_trans (SF_trans (SF_trans (SF_trans (hS_107) hS_c126 (any_sub rfl)) hS_c158 (any_sub rfl)) hS_c194 (any_sub rfl)) (SF_glu (ι := [5, 1, 2, 6, 3, 7]) hS12 eF12 (by decide +kernel)) (any_sub (l' := [(2, 1), (7, 0), (7, 1), (7, 2)]) rfl)) rfl) (SA_trans (SA_trans (SA_trans (SA_trans (hA_107) hA_c126 (any_subA rfl)) hA_c158 (any_subA rfl)) hA_c194 (any_subA rfl)) (SA_glu (ι := [5, 1, 2, 6, 3, 7]) hA12 eA12 (by decide +kernel)) (any_subA (l' := [3]) rfl))   (tc158_0) (rfl) (y12_2_1) (((eF12 2 1).trans ey12_2_1)) (w12_4) ((eA12 3).trans ew12_4) (show inr ((x107_6 + 1)) by omega) (show (0) ≤ ((x107_6 + 1)) by omega) (show ((x107_6 + 1)) ≤ (0) ∨ ((x107_6 + 1)) ≤ ((a3)) by omega) (show 0 ≤ (tc158_0) ∧ (tc158_0) ≤ (a1) by omega) (show 0 ≤ (y12_2_1) ∧ (y12_2_1) ≤ (n3) ∧ (n3) ≤ 65536 by omega) (show (a3) = 1 ∨ 3 < ((x107_6 + 1)) ∨ (tc158_0) + su (fun j => nmb ((w1)) ((u0_9) + 2 * j) 2 2) (3 : Int).toNat ≤ (a1) + su (fun j => nmb ((w1)) ((u0_9) + 2 * j) 2 2) (((x107_6 + 1)) : Int).toNat by omega) (show ∃ A : List Int, SIR (STF (ub8 ((w1))) GG ((u5_3)) ((a2)) ((a3) - 1) ((u0_9)) ((a1))) (ub8 ((w1))) GG ((u5_3)) ((a2)) ((a3)) (((((a2 + a3) - 1) / a3))) ((u0_9)) ((a1)) (((x107_6 + 1))) ((tc158_0)) A ∧ LKP ((w12_4)) ((y12_2_1)) ((n3)) A by assumption) (show ((x107_6 + 1)) < (a3) ∨ (tc158_0) = (a1) by omega) (show (u0_21) = (u0_21) by omega) rfl
              · refine Ew_of (pc' := 205) (fun _ => x_aload_n rfl lc194_0) ?_
                refine Ew_of (pc' := 207) (fun _ => x_bipush (z := 14) rfl (by decide)) ?_
                refine Ew_of (pc' := 208) (fun _ => x_aload_n rfl lc194_0) ?_
                refine v_g H (o := 0) (v := I (y107_0_9)) rfl rfl rfl rfl rfl (congrArg (fun z : Int => I z) (((((((show F12 0 9 = F_c194 0 9 from (eF12 0 9))).trans (hS_c194 0 9 rfl)).trans (hS_c158 0 9 rfl)).trans (hS_c126 0 9 rfl)).trans (ey107_0_9)) : F12 0 9 = y107_0_9)) ?_
                refine v_inv H (o := 0) rfl rfl rfl rfl rfl rfl (by rfl) (C232 (D := pul [0] D) (N := pul [0] N) (HW_sub H (VS_of (show vsub V246 V232 [0] = true by decide +kernel))) (u0_21) (((((((((show F12 0 21 = F_c194 0 21 from (eF12 0 21))).trans (hS_c194 0 21 rfl)).trans (hS_c158 0 21 rfl)).trans (hS_c126 0 21 rfl)).trans (hS_107 0 21 rfl)).trans (hS_c95 0 21 rfl)).trans (eu0_21))) (show inr (14) by omega) (show inr (y107_0_9) by omega) (fun z15 σ15 F15' A15' H' O' hS15 hA15 y15_0_21 ey15_0_21 pz15_0 pz15_1 pz15_2 => ⟨rfl, ?_⟩))
                replace ey15_0_21 := HIDm ey15_0_21
                refine v_back (c := c) (s := s) H (show vsub V246 V232 [0] = true by decide +kernel) H' O' (fun F15 A15 H O' eF15 eA15 => ?_)
                have O := OUT_trans O O'
                -- Unpacker.fail
                have r16 : (-2147483648 : Int) ≤ y15_0_21 ∧ y15_0_21 ≤ 2147483647 := by have h1 : (-2147483648 : Int) ≤ F15 0 21 ∧ F15 0 21 ≤ 2147483647 := H.krg 0 21 (by decide); rw [show F15 0 21 = y15_0_21 from ((eF15 0 21).trans ey15_0_21)] at h1; exact h1
                have hST : STU (STF (ub8 ((w1))) GG ((u5_3)) ((a2)) ((a3) - 1) ((u0_9)) ((a1))) ((z15)) ((y15_0_21)) ((w12_4)) ((y12_2_1)) ((n3)) := by rcases hDC with ⟨_, x⟩ | ⟨x, _⟩; (exact STU_f (SIR_f hSI (by omega) hcn x) (by omega) (by omega)); (omega)
                exact w_ireturn rfl (k (z15) _ _ _ H O (SF_trans (SF_trans (SF_trans (SF_trans (SF_trans (SF_trans (SF_trans (SF_refl) hS_c95 (any_sub rfl)) hS_107 (any_sub rfl)) hS_c126 (any_sub rfl)) hS_c158 (any_sub rfl)) hS_c194 (any_sub rfl)) (SF_glu (ι := [5, 1, 2, 6, 3, 7]) hS12 eF12 (by decide +kernel)) (any_sub (l' := [(2, 1), (7, 0), (7, 1), (7, 2)]) rfl)) (SF_glu (ι := [0]) hS15 eF15 (by decide +kernel)) (any_sub (l' := [(0, 21)]) rfl)) (SA_trans (SA_trans (SA_trans (SA_trans (SA_trans (SA_trans (SA_trans (SA_refl) hA_c95 (any_subA rfl)) hA_107 (any_subA rfl)) hA_c126 (any_subA rfl)) hA_c158 (any_subA rfl)) hA_c194 (any_subA rfl)) (SA_glu (ι := [5, 1, 2, 6, 3, 7]) hA12 eA12 (by decide +kernel)) (any_subA (l' := [3]) rfl)) (SA_glu (ι := [0]) hA15 eA15 (by decide +kernel)) (any_subA (l' := []) rfl)) (y107_0_9) ((((((((show F15 0 9 = F12 0 9 from (eF15 0 9).trans (hS15 0 9 rfl))).trans ((show F12 0 9 = F_c194 0 9 from (eF12 0 9)))).trans (hS_c194 0 9 rfl)).trans (hS_c158 0 9 rfl)).trans (hS_c126 0 9 rfl)).trans (ey107_0_9))) (y15_0_21) (((eF15 0 21).trans ey15_0_21)) (y12_2_1) ((((show F15 2 1 = F12 2 1 from (eF15 2 1))).trans ((eF12 2 1).trans ey12_2_1))) (w12_4) (((show A15 3 = A12 3 from (eA15 3))).trans ((eA12 3).trans ew12_4)) (show inr (z15) by omega) (show 0 ≤ (z15) ∧ (z15) ≤ 17 by omega) (show 0 ≤ (y107_0_9) ∧ (y107_0_9) ≤ a1 by omega) (show 0 ≤ (y12_2_1) ∧ (y12_2_1) ≤ (n3) ∧ (n3) ≤ 65536 by omega) (show STU (STF (ub8 ((w1))) GG ((u5_3)) (a2) (a3 - 1) ((u0_9)) (a1)) ((z15)) ((y15_0_21)) ((w12_4)) ((y12_2_1)) ((n3)) by assumption) (show (z15) ≠ 0 ∨ (y107_0_9) = a1 by omega) (show (z15) ≠ 0 ∨ (y15_0_21) = (u0_21) by omega))
            refine Ew_of (pc' := 179) (fun _ => x_iload rfl (rk_o (lc158_7) rfl rfl)) ?_
            refine w_ifeq (t := 192) rfl rfl (show inr (tc126_0) by omega) (fun b17 => ?_) (fun b17 => ?_)
            · refine Ew_of (pc' := 194) (fun _ => x_iload rfl (rk_o (lc158_5) rfl rfl)) ?_
              have : (q7 = 1 ∧ ((((a2 + a3) - 1) / a3)) = (a2) - (x107_6) * ((((a2 + a3) - 1) / a3)) ∨ q7 = 0 ∧ ((((a2 + a3) - 1) / a3)) = ((((a2 + a3) - 1) / a3))) := by first | exact .inl ⟨by omega, rfl⟩ | exact .inr ⟨by omega, rfl⟩
              exact hc194 ((((a2 + a3) - 1) / a3)) _ _ _ _  (rk_o (lc158_0) rfl rfl) (rk_o (lc158_1) rfl rfl) (rk_o (lc158_2) rfl rfl) (rk_o (lc158_3) rfl rfl) (rk_o (lc158_4) rfl rfl) (rk_o (lc158_5) rfl rfl) (rk_o (lc158_6) rfl rfl) (rk_s) H O (SF_refl) (SA_refl)     (show inr ((((a2 + a3) - 1) / a3)) by omega) (show 0 ≤ ((((a2 + a3) - 1) / a3)) by omega) (show (q7 = 1 ∧ ((((a2 + a3) - 1) / a3)) = (a2) - (x107_6) * ((((a2 + a3) - 1) / a3)) ∨ q7 = 0 ∧ ((((a2 + a3) - 1) / a3)) = ((((a2 + a3) - 1) / a3))) by assumption)
            · have hml : 0 ≤ (x107_6) * ((((a2 + a3) - 1) / a3)) ∧ (x107_6) * ((((a2 + a3) - 1) / a3)) ≤ (a2) := by rcases (show (a3) = 1 ∨ (a3) = 4 by assumption) with q | q; (rw [show ((x107_6) : Int) = 0 by omega]; omega); (rw [show ((x107_6) : Int) = 3 by omega]; omega)
              refine Ew_of (pc' := 183) (fun _ => x_iload_n rfl (rk_o (lc158_2) rfl rfl)) ?_
              refine Ew_of (pc' := 185) (fun _ => x_iload rfl (rk_o (lc158_6) rfl rfl)) ?_
              refine Ew_of (pc' := 187) (fun _ => x_iload rfl (rk_o (lc158_5) rfl rfl)) ?_
              refine w_imul rfl ?_
              refine w_isub rfl ?_
              refine Ew_of (pc' := 194) (fun _ => x_goto rfl rfl) ?_
              have : (q7 = 1 ∧ ((a2 - (x107_6 * (((a2 + a3) - 1) / a3)))) = (a2) - (x107_6) * ((((a2 + a3) - 1) / a3)) ∨ q7 = 0 ∧ ((a2 - (x107_6 * (((a2 + a3) - 1) / a3)))) = ((((a2 + a3) - 1) / a3))) := by first | exact .inl ⟨by omega, rfl⟩ | exact .inr ⟨by omega, rfl⟩
              exact hc194 ((a2 - (x107_6 * (((a2 + a3) - 1) / a3)))) _ _ _ _  (rk_o (lc158_0) rfl rfl) (rk_o (lc158_1) rfl rfl) (rk_o (lc158_2) rfl rfl) (rk_o (lc158_3) rfl rfl) (rk_o (lc158_4) rfl rfl) (rk_o (lc158_5) rfl rfl) (rk_o (lc158_6) rfl rfl) (rk_s) H O (SF_refl) (SA_refl)     (show inr ((a2 - (x107_6 * (((a2 + a3) - 1) / a3)))) by omega) (show 0 ≤ ((a2 - (x107_6 * (((a2 + a3) - 1) / a3)))) by omega) (show (q7 = 1 ∧ ((a2 - (x107_6 * (((a2 + a3) - 1) / a3)))) = (a2) - (x107_6) * ((((a2 + a3) - 1) / a3)) ∨ q7 = 0 ∧ ((a2 - (x107_6 * (((a2 + a3) - 1) / a3)))) = ((((a2 + a3) - 1) / a3))) by assumption)
          refine Ew_of (pc' := 130) (fun _ => x_iload rfl rk_s) ?_
          refine w_ifeq (t := 137) rfl rfl (show inr (tc126_0) by omega) (fun b18 => ?_) (fun b18 => ?_)
          · have hnr := NNS_at (Or.resolve_left (show (a3) = 1 ∨ NNS (fun j => nmb ((w1)) ((u0_9) + 2 * j) 2 2) 3 by assumption) (by omega)) (i := (x107_6)) (by omega) (by omega)
            have hnt : su (fun j => nmb ((w1)) ((u0_9) + 2 * j) 2 2) ((x107_6) + 1 : Int).toNat = su (fun j => nmb ((w1)) ((u0_9) + 2 * j) 2 2) ((x107_6) : Int).toNat + nmb ((w1)) ((u0_9) + 2 * (x107_6)) 2 2 := su_s (f := fun j => nmb ((w1)) ((u0_9) + 2 * j) 2 2) (i := (x107_6)) (by omega)
            refine Ew_of (pc' := 138) (fun _ => x_aload_n rfl (rk_o (lc126_0) rfl rfl)) ?_
            refine v_g H (o := 0) (v := I (y107_0_9)) rfl rfl rfl rfl rfl (congrArg (fun z : Int => I z) (((hS_c126 0 9 rfl).trans (ey107_0_9)) : F_c126 0 9 = y107_0_9)) ?_
            refine Ew_of (pc' := 142) (fun _ => x_aload_n rfl (rk_o (lc126_0) rfl rfl)) ?_
            refine v_g H (o := 0) (v := .ref (D 1)) rfl rfl rfl rfl rfl (vrf (((((hS_c126 0 7 rfl).trans (hS_107 0 7 rfl)).trans (hS_c95 0 7 rfl))).trans (pf1))) ?_
            refine Ew_of (pc' := 147) (fun _ => x_iload rfl (rk_o (lc126_4) rfl rfl)) ?_
            refine Ew_of (pc' := 148) (fun _ => x_iconst rfl) ?_
            refine Ew_of (pc' := 150) (fun _ => x_iload rfl (rk_o (lc126_6) rfl rfl)) ?_
            refine w_imul rfl ?_
            refine w_iadd rfl ?_
            refine Ew_of (pc' := 153) (fun _ => x_iconst rfl) ?_
            refine w_stat25 rfl rfl (by rfl) (C42_Brf (D := pul [1] D) (N := pul [1] N) (HW_sub H (VS_of (show vsub V246 V42_Br [1] = true by decide +kernel))) (n1) (en1) (w1) ((funext (hA_c126 1 rfl)).trans ((funext (hA_107 1 rfl)).trans ((funext (hA_c95 1 rfl)).trans (ew1)))) (show inr ((u0_9 + (2 * x107_6))) by omega) (show inr (2) by omega) (show (2) ≤ 0 ∨ 0 ≤ ((u0_9 + (2 * x107_6))) ∧ ((u0_9 + (2 * x107_6))) + (2) ≤ (n1) by omega) (show 0 ≤ (2) ∧ (2) ≤ 8 by omega) (fun z19 σ19 F19' A19' H' O' hS19 hA19 pz19_0 pz19_1 pz19_2 => ⟨rfl, ?_⟩))
            refine v_back (c := c) (s := s) H (show vsub V246 V42_Br [1] = true by decide +kernel) H' O' (fun F19 A19 H O' eF19 eA19 => ?_)
            have O := OUT_trans O O'
            -- PackHouse.number
            have hnu : ((z19) : Int) = nmb ((w1)) ((u0_9) + 2 * (x107_6)) 2 2 := pz19_2
            have hnb2 := nb2 pz19_1
            have hnv2 : ((z19) : Int) = nvl (ub8 ((w1))) ((u0_9) + 2 * (x107_6)) 2 := (nmb_nn pz19_2 (by decide) pz19_0).trans nvl_u
            refine w_l2i rfl ?_
            refine w_iadd rfl ?_
            have : ((tc126_0) = 1 ∧ ((y107_0_9 + z19)) = (a1) ∨ (tc126_0) = 0 ∧ ((y107_0_9 + z19)) = (y107_0_9) + nvl (ub8 ((w1))) ((u0_9) + 2 * (x107_6)) 2) := by first | exact .inl ⟨by omega, rfl⟩ | exact .inr ⟨by omega, by rw [← hnv2]⟩
            exact hc158 ((y107_0_9 + z19)) _ _ _ _  (rk_o (lc126_0) rfl rfl) (rk_o (lc126_1) rfl rfl) (rk_o (lc126_2) rfl rfl) (rk_o (lc126_3) rfl rfl) (rk_o (lc126_4) rfl rfl) (rk_o (lc126_5) rfl rfl) (rk_o (lc126_6) rfl rfl) (rk_s) H O (SF_trans (SF_refl) (SF_glu (ι := [1]) hS19 eF19 (by decide +kernel)) (any_sub (l' := []) rfl)) (SA_trans (SA_refl) (SA_glu (ι := [1]) hA19 eA19 (by decide +kernel)) (any_subA (l' := []) rfl))     (show inr ((y107_0_9 + z19)) by omega) (show (y107_0_9) ≤ ((y107_0_9 + z19)) ∧ ((y107_0_9 + z19)) ≤ (a1) by omega) (show (a3) = 1 ∨ 3 ≤ (x107_6) ∨ ((y107_0_9 + z19)) + su (fun j => nmb ((w1)) ((u0_9) + 2 * j) 2 2) (3 : Int).toNat ≤ (a1) + su (fun j => nmb ((w1)) ((u0_9) + 2 * j) 2 2) ((x107_6) + 1 : Int).toNat by omega) (show ((tc126_0) = 1 ∧ ((y107_0_9 + z19)) = (a1) ∨ (tc126_0) = 0 ∧ ((y107_0_9 + z19)) = (y107_0_9) + nvl (ub8 ((w1))) ((u0_9) + 2 * (x107_6)) 2) by assumption)
          · refine Ew_of (pc' := 134) (fun _ => x_iload_n rfl (rk_o (lc126_1) rfl rfl)) ?_
            refine Ew_of (pc' := 158) (fun _ => x_goto rfl rfl) ?_
            have : ((tc126_0) = 1 ∧ (a1) = (a1) ∨ (tc126_0) = 0 ∧ (a1) = (y107_0_9) + nvl (ub8 ((w1))) ((u0_9) + 2 * (x107_6)) 2) := by first | exact .inl ⟨by omega, rfl⟩ | exact .inr ⟨by omega, by rw [← hnv2]⟩
            exact hc158 (a1) _ _ _ _  (rk_o (lc126_0) rfl rfl) (rk_o (lc126_1) rfl rfl) (rk_o (lc126_2) rfl rfl) (rk_o (lc126_3) rfl rfl) (rk_o (lc126_4) rfl rfl) (rk_o (lc126_5) rfl rfl) (rk_o (lc126_6) rfl rfl) (rk_s) H O (SF_refl) (SA_refl)     (show inr (a1) by omega) (show (y107_0_9) ≤ (a1) ∧ (a1) ≤ (a1) by omega) (show (a3) = 1 ∨ 3 ≤ (x107_6) ∨ (a1) + su (fun j => nmb ((w1)) ((u0_9) + 2 * j) 2 2) (3 : Int).toNat ≤ (a1) + su (fun j => nmb ((w1)) ((u0_9) + 2 * j) 2 2) ((x107_6) + 1 : Int).toNat by omega) (show ((tc126_0) = 1 ∧ (a1) = (a1) ∨ (tc126_0) = 0 ∧ (a1) = (y107_0_9) + nvl (ub8 ((w1))) ((u0_9) + 2 * (x107_6)) 2) by assumption)
        refine w_icmpne (t := 125) rfl rfl (show inr (x107_6) by omega) (show inr ((a3 - 1)) by omega) (fun b20 => ?_) (fun b20 => ?_)
        · refine Ew_of (pc' := 126) (fun _ => x_iconst rfl) ?_
          exact hc126 (0) _ _ _ _  (l107_0) (l107_1) (l107_2) (l107_3) (l107_4) (l107_5) (l107_6) H O (SF_refl) (SA_refl)     (show inr (0) by omega) (show ((x107_6) ≠ ((a3 - 1)) ∧ (0) = (0)) ∨ ((x107_6) = ((a3 - 1)) ∧ (0) = (1)) by omega)
        · refine Ew_of (pc' := 122) (fun _ => x_iconst rfl) ?_
          refine Ew_of (pc' := 126) (fun _ => x_goto rfl rfl) ?_
          exact hc126 (1) _ _ _ _  (l107_0) (l107_1) (l107_2) (l107_3) (l107_4) (l107_5) (l107_6) H O (SF_refl) (SA_refl)     (show inr (1) by omega) (show ((x107_6) ≠ ((a3 - 1)) ∧ (1) = (0)) ∨ ((x107_6) = ((a3 - 1)) ∧ (1) = (1)) by omega)
  refine Ew_of (pc' := 7) (fun _ => x_iload_n rfl (rk_o (rfl) rfl rfl)) ?_
  refine Ew_of (pc' := 8) (fun _ => x_iconst rfl) ?_
  refine w_icmpne (t := 95) rfl rfl (show inr (a3) by omega) (show inr (4) by omega) (fun b21 => ?_) (fun b21 => ?_)
  · have hmk : (a3) = 1 ∨ NNS (fun j => nmb ((w1)) ((u0_9) + 2 * j) 2 2) 3 := by first | assumption | exact .inl (by omega)
    have : ((a3) = 1 ∧ (u0_9) = (u0_9) ∨ (a3) = 4 ∧ (u0_9) = (u0_9) + 6 ∧ 6 + (nvl (ub8 ((w1))) ((u0_9)) 2 + nvl (ub8 ((w1))) ((u0_9) + 2) 2 + nvl (ub8 ((w1))) ((u0_9) + 4) 2) ≤ (a1) - (u0_9)) := by first | exact .inl ⟨by omega, by omega⟩ | exact .inr ⟨by omega, by omega, by rw [← hsu3]; omega⟩
    exact hc95  _ _ _ _  (rk_o (rfl) rfl rfl) (rk_o (rfl) rfl rfl) (rk_o (rfl) rfl rfl) (rk_o (rfl) rfl rfl) (rk_s) H O (SF_refl) (SA_refl)   (u0_9) ((eu0_9))  (show 0 ≤ (u0_9) ∧ (u0_9) ≤ (a1) by omega) (show (a3) = 1 ∨ (u0_9) + 6 ≤ (a1) ∧ (u0_9) + su (fun j => nmb ((w1)) ((u0_9) + 2 * j) 2 2) (3 : Int).toNat ≤ (a1) by omega) (show (a3) = 1 ∨ NNS (fun j => nmb ((w1)) ((u0_9) + 2 * j) 2 2) 3 by assumption) (show ((a3) = 1 ∧ (u0_9) = (u0_9) ∨ (a3) = 4 ∧ (u0_9) = (u0_9) + 6 ∧ 6 + (nvl (ub8 ((w1))) ((u0_9)) 2 + nvl (ub8 ((w1))) ((u0_9) + 2) 2 + nvl (ub8 ((w1))) ((u0_9) + 4) 2) ≤ (a1) - (u0_9)) by assumption) (show (u0_21) = (u0_21) by omega)
  · refine Ew_of (pc' := 13) (fun _ => x_bipush (z := 6) rfl (by decide)) ?_
    refine Ew_of (pc' := 15) (fun _ => x_istore rfl) ?_
    refine Ew_of (pc' := 16) (fun _ => x_iconst rfl) ?_
    refine Ew_of (pc' := 18) (fun _ => x_istore rfl) ?_
    have hz0 : su (fun j => nmb ((w1)) ((u0_9) + 2 * j) 2 2) (0 : Int).toNat = 0 := rfl
    have hn0 : NNS (fun j => nmb ((w1)) ((u0_9) + 2 * j) 2 2) 0 := fun j qa qb => by omega
    suffices hl18 : ∀ (m : Nat), ∀ (ls : rO) (σ : rS) (F_18 : hF) (A_18 : hA) (x18_5 : Int) (x18_6 : Int), rlook ls 0 = some (.ref (D 0)) → rlook ls 1 = some (I (a1)) → rlook ls 2 = some (I (a2)) → rlook ls 3 = some (I (a3)) → rlook ls 4 = some (I (u0_9)) → rlook ls 5 = some (I (x18_5)) → rlook ls 6 = some (I (x18_6)) → HW V246 σ D N F_18 A_18 → OUT (V246).length D N σE c s D N σ c s → SF [] F F_18 → SA [] A A_18 → (inr (x18_5)) → (inr (x18_6)) → ((0) ≤ (x18_6)) → ((x18_6) ≤ (0) ∨ (x18_6) ≤ (3)) → ((x18_5) = 6 + su (fun j => nmb ((w1)) ((u0_9) + 2 * j) 2 2) ((x18_6) : Int).toNat) → (NNS (fun j => nmb ((w1)) ((u0_9) + 2 * j) 2 2) (x18_6)) → ((x18_6) ≤ 0 ∨ (u0_9) + 6 ≤ (a1)) → (0 ≤ su (fun j => nmb ((w1)) ((u0_9) + 2 * j) 2 2) ((x18_6) : Int).toNat ∧ su (fun j => nmb ((w1)) ((u0_9) + 2 * j) 2 2) ((x18_6) : Int).toNat ≤ 65535 * (x18_6)) → ((3) - (x18_6)).toNat = m → Ew 246 (d + 3) 18 ls [] σ c s Q from
      hl18 _ _ _ _ _ (6) (0) (rk_o (rk_o (rk_o (rfl) rfl rfl) rfl rfl) rfl rfl) (rk_o (rk_o (rk_o (rfl) rfl rfl) rfl rfl) rfl rfl) (rk_o (rk_o (rk_o (rfl) rfl rfl) rfl rfl) rfl rfl) (rk_o (rk_o (rk_o (rfl) rfl rfl) rfl rfl) rfl rfl) (rk_o (rk_o (rk_s) rfl rfl) rfl rfl) (rk_o (rk_s) rfl rfl) (rk_s) H O (SF_refl) (SA_refl)     (show inr (6) by omega) (show inr (0) by omega) (show (0) ≤ (0) by omega) (show (0) ≤ (0) ∨ (0) ≤ (3) by omega) (show (6) = 6 + su (fun j => nmb ((w1)) ((u0_9) + 2 * j) 2 2) ((0) : Int).toNat by omega) (show NNS (fun j => nmb ((w1)) ((u0_9) + 2 * j) 2 2) (0) by assumption) (show (0) ≤ 0 ∨ (u0_9) + 6 ≤ (a1) by omega) (show 0 ≤ su (fun j => nmb ((w1)) ((u0_9) + 2 * j) 2 2) ((0) : Int).toNat ∧ su (fun j => nmb ((w1)) ((u0_9) + 2 * j) 2 2) ((0) : Int).toNat ≤ 65535 * (0) by omega) rfl
    as_aux_lemma =>
    intro m
    induction m using Nat.strongRecOn with
    | _ m ih18 =>
      intro ls σ F_18 A_18 x18_5 x18_6 l18_0 l18_1 l18_2 l18_3 l18_4 l18_5 l18_6 H O hS_18 hA_18     j18_0 j18_1 j18_2 j18_3 j18_4 j18_5 j18_6 j18_7 hm18
      have hnn : NNS (fun j => nmb ((w1)) ((u0_9) + 2 * j) 2 2) (x18_6) := by assumption
      refine Ew_of (pc' := 20) (fun _ => x_iload rfl l18_6) ?_
      refine Ew_of (pc' := 21) (fun _ => x_iconst rfl) ?_
      refine w_icmpge (t := 64) rfl rfl (show inr (x18_6) by omega) (show inr (3) by omega) (fun b22 => ?_) (fun b22 => ?_)
      · refine Ew_of (pc' := 66) (fun _ => x_iload rfl l18_5) ?_
        refine Ew_of (pc' := 67) (fun _ => x_iload_n rfl l18_1) ?_
        refine Ew_of (pc' := 68) (fun _ => x_aload_n rfl l18_0) ?_
        refine v_g H (o := 0) (v := I (u0_9)) rfl rfl rfl rfl rfl (congrArg (fun z : Int => I z) (((hS_18 0 9 rfl).trans (eu0_9)) : F_18 0 9 = u0_9)) ?_
        refine w_isub rfl ?_
        refine w_icmple (t := 84) rfl rfl (show inr (x18_5) by omega) (show inr ((a1 - u0_9)) by omega) (fun b23 => ?_) (fun b23 => ?_)
        · have hl6 : (x18_6) = 3 := by omega
          have hnx : (a3) = 1 ∨ NNS (fun j => nmb ((w1)) ((u0_9) + 2 * j) 2 2) 3 := .inr (by rw [← hl6]; assumption)
          have hsx : su (fun j => nmb ((w1)) ((u0_9) + 2 * j) 2 2) ((x18_6) : Int).toNat = su (fun j => nmb ((w1)) ((u0_9) + 2 * j) 2 2) (3 : Int).toNat := by rw [hl6]
          have hsu3 := su_nm (show NNS (fun j => nmb ((w1)) ((u0_9) + 2 * j) 2 2) 3 by rw [← hl6]; exact hnn)
          refine Ew_of (pc' := 85) (fun _ => x_aload_n rfl l18_0) ?_
          refine Ew_of (pc' := 86) (fun _ => x_dup rfl rfl) ?_
          refine v_g H (o := 0) (v := I (u0_9)) rfl rfl rfl rfl rfl (congrArg (fun z : Int => I z) (((hS_18 0 9 rfl).trans (eu0_9)) : F_18 0 9 = u0_9)) ?_
          refine Ew_of (pc' := 91) (fun _ => x_bipush (z := 6) rfl (by decide)) ?_
          refine w_iadd rfl ?_
          refine v_p H (o := 0) (z := (u0_9 + 6)) (v := I ((u0_9 + 6))) rfl rfl rfl rfl rfl rfl rfl rfl (show (-2147483648 : Int) ≤ (u0_9 + 6) ∧ (u0_9 + 6) ≤ 2147483647 by omega) (fun σ H O' => ?_)
          have O := OUT_trans O O'
          have hmk : (a3) = 1 ∨ NNS (fun j => nmb ((w1)) ((u0_9) + 2 * j) 2 2) 3 := by first | assumption | exact .inl (by omega)
          have : ((a3) = 1 ∧ ((u0_9 + 6)) = (u0_9) ∨ (a3) = 4 ∧ ((u0_9 + 6)) = (u0_9) + 6 ∧ 6 + (nvl (ub8 ((w1))) ((u0_9)) 2 + nvl (ub8 ((w1))) ((u0_9) + 2) 2 + nvl (ub8 ((w1))) ((u0_9) + 4) 2) ≤ (a1) - (u0_9)) := by first | exact .inl ⟨by omega, by omega⟩ | exact .inr ⟨by omega, by omega, by rw [← hsu3]; omega⟩
          exact hc95  _ _ _ _  (l18_0) (l18_1) (l18_2) (l18_3) (l18_4) H O (SF_upd (SF_trans (SF_refl) hS_18 (any_sub rfl)) rfl) (SA_trans (SA_refl) hA_18 (any_subA rfl))   ((u0_9 + 6)) (rfl)  (show 0 ≤ ((u0_9 + 6)) ∧ ((u0_9 + 6)) ≤ (a1) by omega) (show (a3) = 1 ∨ (u0_9) + 6 ≤ (a1) ∧ ((u0_9 + 6)) + su (fun j => nmb ((w1)) ((u0_9) + 2 * j) 2 2) (3 : Int).toNat ≤ (a1) by omega) (show (a3) = 1 ∨ NNS (fun j => nmb ((w1)) ((u0_9) + 2 * j) 2 2) 3 by assumption) (show ((a3) = 1 ∧ ((u0_9 + 6)) = (u0_9) ∨ (a3) = 4 ∧ ((u0_9 + 6)) = (u0_9) + 6 ∧ 6 + (nvl (ub8 ((w1))) ((u0_9)) 2 + nvl (ub8 ((w1))) ((u0_9) + 2) 2 + nvl (ub8 ((w1))) ((u0_9) + 4) 2) ≤ (a1) - (u0_9)) by assumption) (show (u0_21) = (u0_21) by omega)
        · refine Ew_of (pc' := 76) (fun _ => x_aload_n rfl l18_0) ?_
          refine Ew_of (pc' := 78) (fun _ => x_bipush (z := 14) rfl (by decide)) ?_
          refine Ew_of (pc' := 80) (fun _ => x_iload rfl l18_4) ?_
          refine v_inv H (o := 0) rfl rfl rfl rfl rfl rfl (by rfl) (C232 (D := pul [0] D) (N := pul [0] N) (HW_sub H (VS_of (show vsub V246 V232 [0] = true by decide +kernel))) (u0_21) (((hS_18 0 21 rfl).trans (eu0_21))) (show inr (14) by omega) (show inr (u0_9) by omega) (fun z24 σ24 F24' A24' H' O' hS24 hA24 y24_0_21 ey24_0_21 pz24_0 pz24_1 pz24_2 => ⟨rfl, ?_⟩))
          replace ey24_0_21 := HIDm ey24_0_21
          refine v_back (c := c) (s := s) H (show vsub V246 V232 [0] = true by decide +kernel) H' O' (fun F24 A24 H O' eF24 eA24 => ?_)
          have O := OUT_trans O O'
          -- Unpacker.fail
          have r25 : (-2147483648 : Int) ≤ y24_0_21 ∧ y24_0_21 ≤ 2147483647 := by have h1 : (-2147483648 : Int) ≤ F24 0 21 ∧ F24 0 21 ≤ 2147483647 := H.krg 0 21 (by decide); rw [show F24 0 21 = y24_0_21 from ((eF24 0 21).trans ey24_0_21)] at h1; exact h1
          have hn2a := nvl2_r (I := ub8 ((w1))) (a := (u0_9))
          have hn2b := nvl2_r (I := ub8 ((w1))) (a := (u0_9) + 2)
          have hn2c := nvl2_r (I := ub8 ((w1))) (a := (u0_9) + 4)
          have hST : STU (STF (ub8 ((w1))) GG ((u5_3)) ((a2)) ((a3) - 1) ((u0_9)) ((a1))) ((z24)) ((y24_0_21)) ((w3)) ((u2_1)) ((n3)) := by first | exact STU_f (ST_b (by omega) (by have hs_ := su_nm (show NNS (fun j => nmb ((w1)) ((u0_9) + 2 * j) 2 2) 3 by have h := hnn; rw [show ((x18_6) : Int) = 3 by omega] at h; exact h); rw [show ((x18_6) : Int) = 3 by omega] at *; rw [← hs_]; omega)) (by omega) (by omega) | exact STU_f (ST_b (by omega) (by omega)) (by omega) (by omega)
          exact w_ireturn rfl (k (z24) _ _ _ H O (SF_trans (SF_trans (SF_refl) hS_18 (any_sub rfl)) (SF_glu (ι := [0]) hS24 eF24 (by decide +kernel)) (any_sub (l' := [(0, 21)]) rfl)) (SA_trans (SA_trans (SA_refl) hA_18 (any_subA rfl)) (SA_glu (ι := [0]) hA24 eA24 (by decide +kernel)) (any_subA (l' := []) rfl)) (u0_9) (((((show F24 0 9 = F_18 0 9 from (eF24 0 9).trans (hS24 0 9 rfl))).trans (hS_18 0 9 rfl)).trans (eu0_9))) (y24_0_21) (((eF24 0 21).trans ey24_0_21)) (u2_1) (((((show F24 2 1 = F_18 2 1 from (eF24 2 1))).trans (hS_18 2 1 rfl)).trans (eu2_1))) (w3) (((show A24 3 = A_18 3 from (eA24 3))).trans ((funext (hA_18 3 rfl)).trans (ew3))) (show inr (z24) by omega) (show 0 ≤ (z24) ∧ (z24) ≤ 17 by omega) (show 0 ≤ (u0_9) ∧ (u0_9) ≤ a1 by omega) (show 0 ≤ (u2_1) ∧ (u2_1) ≤ (n3) ∧ (n3) ≤ 65536 by omega) (show STU (STF (ub8 ((w1))) GG ((u5_3)) (a2) (a3 - 1) ((u0_9)) (a1)) ((z24)) ((y24_0_21)) ((w3)) ((u2_1)) ((n3)) by assumption) (show (z24) ≠ 0 ∨ (u0_9) = a1 by omega) (show (z24) ≠ 0 ∨ (y24_0_21) = (u0_21) by omega))
      · refine Ew_of (pc' := 25) (fun _ => x_iload_n rfl l18_1) ?_
        refine Ew_of (pc' := 26) (fun _ => x_aload_n rfl l18_0) ?_
        refine v_g H (o := 0) (v := I (u0_9)) rfl rfl rfl rfl rfl (congrArg (fun z : Int => I z) (((hS_18 0 9 rfl).trans (eu0_9)) : F_18 0 9 = u0_9)) ?_
        refine w_isub rfl ?_
        refine Ew_of (pc' := 32) (fun _ => x_bipush (z := 6) rfl (by decide)) ?_
        refine w_icmplt (t := 64) rfl rfl (show inr ((a1 - u0_9)) by omega) (show inr (6) by omega) (fun b26 => ?_) (fun b26 => ?_)
        · refine Ew_of (pc' := 66) (fun _ => x_iload rfl l18_5) ?_
          refine Ew_of (pc' := 67) (fun _ => x_iload_n rfl l18_1) ?_
          refine Ew_of (pc' := 68) (fun _ => x_aload_n rfl l18_0) ?_
          refine v_g H (o := 0) (v := I (u0_9)) rfl rfl rfl rfl rfl (congrArg (fun z : Int => I z) (((hS_18 0 9 rfl).trans (eu0_9)) : F_18 0 9 = u0_9)) ?_
          refine w_isub rfl ?_
          refine w_icmple (t := 84) rfl rfl (show inr (x18_5) by omega) (show inr ((a1 - u0_9)) by omega) (fun b27 => ?_) (fun b27 => ?_)
          · have hl6 : (x18_6) = 3 := by omega
            have hnx : (a3) = 1 ∨ NNS (fun j => nmb ((w1)) ((u0_9) + 2 * j) 2 2) 3 := .inr (by rw [← hl6]; assumption)
            have hsx : su (fun j => nmb ((w1)) ((u0_9) + 2 * j) 2 2) ((x18_6) : Int).toNat = su (fun j => nmb ((w1)) ((u0_9) + 2 * j) 2 2) (3 : Int).toNat := by rw [hl6]
            have hsu3 := su_nm (show NNS (fun j => nmb ((w1)) ((u0_9) + 2 * j) 2 2) 3 by rw [← hl6]; exact hnn)
            refine Ew_of (pc' := 85) (fun _ => x_aload_n rfl l18_0) ?_
            refine Ew_of (pc' := 86) (fun _ => x_dup rfl rfl) ?_
            refine v_g H (o := 0) (v := I (u0_9)) rfl rfl rfl rfl rfl (congrArg (fun z : Int => I z) (((hS_18 0 9 rfl).trans (eu0_9)) : F_18 0 9 = u0_9)) ?_
            refine Ew_of (pc' := 91) (fun _ => x_bipush (z := 6) rfl (by decide)) ?_
            refine w_iadd rfl ?_
            refine v_p H (o := 0) (z := (u0_9 + 6)) (v := I ((u0_9 + 6))) rfl rfl rfl rfl rfl rfl rfl rfl (show (-2147483648 : Int) ≤ (u0_9 + 6) ∧ (u0_9 + 6) ≤ 2147483647 by omega) (fun σ H O' => ?_)
            have O := OUT_trans O O'
            have hmk : (a3) = 1 ∨ NNS (fun j => nmb ((w1)) ((u0_9) + 2 * j) 2 2) 3 := by first | assumption | exact .inl (by omega)
            have : ((a3) = 1 ∧ ((u0_9 + 6)) = (u0_9) ∨ (a3) = 4 ∧ ((u0_9 + 6)) = (u0_9) + 6 ∧ 6 + (nvl (ub8 ((w1))) ((u0_9)) 2 + nvl (ub8 ((w1))) ((u0_9) + 2) 2 + nvl (ub8 ((w1))) ((u0_9) + 4) 2) ≤ (a1) - (u0_9)) := by first | exact .inl ⟨by omega, by omega⟩ | exact .inr ⟨by omega, by omega, by rw [← hsu3]; omega⟩
            exact hc95  _ _ _ _  (l18_0) (l18_1) (l18_2) (l18_3) (l18_4) H O (SF_upd (SF_trans (SF_refl) hS_18 (any_sub rfl)) rfl) (SA_trans (SA_refl) hA_18 (any_subA rfl))   ((u0_9 + 6)) (rfl)  (show 0 ≤ ((u0_9 + 6)) ∧ ((u0_9 + 6)) ≤ (a1) by omega) (show (a3) = 1 ∨ (u0_9) + 6 ≤ (a1) ∧ ((u0_9 + 6)) + su (fun j => nmb ((w1)) ((u0_9) + 2 * j) 2 2) (3 : Int).toNat ≤ (a1) by omega) (show (a3) = 1 ∨ NNS (fun j => nmb ((w1)) ((u0_9) + 2 * j) 2 2) 3 by assumption) (show ((a3) = 1 ∧ ((u0_9 + 6)) = (u0_9) ∨ (a3) = 4 ∧ ((u0_9 + 6)) = (u0_9) + 6 ∧ 6 + (nvl (ub8 ((w1))) ((u0_9)) 2 + nvl (ub8 ((w1))) ((u0_9) + 2) 2 + nvl (ub8 ((w1))) ((u0_9) + 4) 2) ≤ (a1) - (u0_9)) by assumption) (show (u0_21) = (u0_21) by omega)
          · refine Ew_of (pc' := 76) (fun _ => x_aload_n rfl l18_0) ?_
            refine Ew_of (pc' := 78) (fun _ => x_bipush (z := 14) rfl (by decide)) ?_
            refine Ew_of (pc' := 80) (fun _ => x_iload rfl l18_4) ?_
            refine v_inv H (o := 0) rfl rfl rfl rfl rfl rfl (by rfl) (C232 (D := pul [0] D) (N := pul [0] N) (HW_sub H (VS_of (show vsub V246 V232 [0] = true by decide +kernel))) (u0_21) (((hS_18 0 21 rfl).trans (eu0_21))) (show inr (14) by omega) (show inr (u0_9) by omega) (fun z28 σ28 F28' A28' H' O' hS28 hA28 y28_0_21 ey28_0_21 pz28_0 pz28_1 pz28_2 => ⟨rfl, ?_⟩))
            replace ey28_0_21 := HIDm ey28_0_21
            refine v_back (c := c) (s := s) H (show vsub V246 V232 [0] = true by decide +kernel) H' O' (fun F28 A28 H O' eF28 eA28 => ?_)
            have O := OUT_trans O O'
            -- Unpacker.fail
            have r29 : (-2147483648 : Int) ≤ y28_0_21 ∧ y28_0_21 ≤ 2147483647 := by have h1 : (-2147483648 : Int) ≤ F28 0 21 ∧ F28 0 21 ≤ 2147483647 := H.krg 0 21 (by decide); rw [show F28 0 21 = y28_0_21 from ((eF28 0 21).trans ey28_0_21)] at h1; exact h1
            have hn2a := nvl2_r (I := ub8 ((w1))) (a := (u0_9))
            have hn2b := nvl2_r (I := ub8 ((w1))) (a := (u0_9) + 2)
            have hn2c := nvl2_r (I := ub8 ((w1))) (a := (u0_9) + 4)
            have hST : STU (STF (ub8 ((w1))) GG ((u5_3)) ((a2)) ((a3) - 1) ((u0_9)) ((a1))) ((z28)) ((y28_0_21)) ((w3)) ((u2_1)) ((n3)) := by first | exact STU_f (ST_b (by omega) (by have hs_ := su_nm (show NNS (fun j => nmb ((w1)) ((u0_9) + 2 * j) 2 2) 3 by have h := hnn; rw [show ((x18_6) : Int) = 3 by omega] at h; exact h); rw [show ((x18_6) : Int) = 3 by omega] at *; rw [← hs_]; omega)) (by omega) (by omega) | exact STU_f (ST_b (by omega) (by omega)) (by omega) (by omega)
            exact w_ireturn rfl (k (z28) _ _ _ H O (SF_trans (SF_trans (SF_refl) hS_18 (any_sub rfl)) (SF_glu (ι := [0]) hS28 eF28 (by decide +kernel)) (any_sub (l' := [(0, 21)]) rfl)) (SA_trans (SA_trans (SA_refl) hA_18 (any_subA rfl)) (SA_glu (ι := [0]) hA28 eA28 (by decide +kernel)) (any_subA (l' := []) rfl)) (u0_9) (((((show F28 0 9 = F_18 0 9 from (eF28 0 9).trans (hS28 0 9 rfl))).trans (hS_18 0 9 rfl)).trans (eu0_9))) (y28_0_21) (((eF28 0 21).trans ey28_0_21)) (u2_1) (((((show F28 2 1 = F_18 2 1 from (eF28 2 1))).trans (hS_18 2 1 rfl)).trans (eu2_1))) (w3) (((show A28 3 = A_18 3 from (eA28 3))).trans ((funext (hA_18 3 rfl)).trans (ew3))) (show inr (z28) by omega) (show 0 ≤ (z28) ∧ (z28) ≤ 17 by omega) (show 0 ≤ (u0_9) ∧ (u0_9) ≤ a1 by omega) (show 0 ≤ (u2_1) ∧ (u2_1) ≤ (n3) ∧ (n3) ≤ 65536 by omega) (show STU (STF (ub8 ((w1))) GG ((u5_3)) (a2) (a3 - 1) ((u0_9)) (a1)) ((z28)) ((y28_0_21)) ((w3)) ((u2_1)) ((n3)) by assumption) (show (z28) ≠ 0 ∨ (u0_9) = a1 by omega) (show (z28) ≠ 0 ∨ (y28_0_21) = (u0_21) by omega))
        · refine Ew_of (pc' := 37) (fun _ => x_iload rfl l18_5) ?_
          refine Ew_of (pc' := 38) (fun _ => x_aload_n rfl l18_0) ?_
          refine v_g H (o := 0) (v := .ref (D 1)) rfl rfl rfl rfl rfl (vrf (((hS_18 0 7 rfl)).trans (pf1))) ?_
          refine Ew_of (pc' := 42) (fun _ => x_aload_n rfl l18_0) ?_
          refine v_g H (o := 0) (v := I (u0_9)) rfl rfl rfl rfl rfl (congrArg (fun z : Int => I z) (((hS_18 0 9 rfl).trans (eu0_9)) : F_18 0 9 = u0_9)) ?_
          refine Ew_of (pc' := 46) (fun _ => x_iconst rfl) ?_
          refine Ew_of (pc' := 48) (fun _ => x_iload rfl l18_6) ?_
          refine w_imul rfl ?_
          refine w_iadd rfl ?_
          refine Ew_of (pc' := 51) (fun _ => x_iconst rfl) ?_
          refine w_stat25 rfl rfl (by rfl) (C42_Brf (D := pul [1] D) (N := pul [1] N) (HW_sub H (VS_of (show vsub V246 V42_Br [1] = true by decide +kernel))) (n1) (en1) (w1) ((funext (hA_18 1 rfl)).trans (ew1)) (show inr ((u0_9 + (2 * x18_6))) by omega) (show inr (2) by omega) (show (2) ≤ 0 ∨ 0 ≤ ((u0_9 + (2 * x18_6))) ∧ ((u0_9 + (2 * x18_6))) + (2) ≤ (n1) by omega) (show 0 ≤ (2) ∧ (2) ≤ 8 by omega) (fun z30 σ30 F30' A30' H' O' hS30 hA30 pz30_0 pz30_1 pz30_2 => ⟨rfl, ?_⟩))
          refine v_back (c := c) (s := s) H (show vsub V246 V42_Br [1] = true by decide +kernel) H' O' (fun F30 A30 H O' eF30 eA30 => ?_)
          have O := OUT_trans O O'
          -- PackHouse.number
          have hnb := nb2 pz30_1
          have hnq : ((z30) : Int) = nmb ((w1)) ((u0_9) + 2 * (x18_6)) 2 2 := pz30_2
          have hnv : 0 ≤ (fun j => nmb ((w1)) ((u0_9) + 2 * j) 2 2) ((x18_6)) ∧ (fun j => nmb ((w1)) ((u0_9) + 2 * j) 2 2) ((x18_6)) ≤ 65535 := by show 0 ≤ nmb ((w1)) ((u0_9) + 2 * (x18_6)) 2 2 ∧ nmb ((w1)) ((u0_9) + 2 * (x18_6)) 2 2 ≤ 65535; omega
          have hss : su (fun j => nmb ((w1)) ((u0_9) + 2 * j) 2 2) ((x18_6) + 1 : Int).toNat = su (fun j => nmb ((w1)) ((u0_9) + 2 * j) 2 2) ((x18_6) : Int).toNat + nmb ((w1)) ((u0_9) + 2 * (x18_6)) 2 2 := su_s (f := fun j => nmb ((w1)) ((u0_9) + 2 * j) 2 2) (i := (x18_6)) (by omega)
          refine w_l2i rfl ?_
          refine w_iadd rfl ?_
          refine Ew_of (pc' := 58) (fun _ => x_istore rfl) ?_
          refine Ew_of (pc' := 61) (fun _ => x_iinc (len := 3) rfl (rk_o (l18_6) rfl rfl)) ?_
          refine Ew_of (pc' := 18) (fun _ => x_goto rfl rfl) ?_
          have hn1 : NNS (fun j => nmb ((w1)) ((u0_9) + 2 * j) 2 2) ((x18_6 + 1)) := NNS_s hnn rfl hnv
          exact ih18 _ (by omega) _ _ _ _ ((x18_5 + z30)) ((x18_6 + 1)) (rk_o (rk_o (l18_0) rfl rfl) rfl rfl) (rk_o (rk_o (l18_1) rfl rfl) rfl rfl) (rk_o (rk_o (l18_2) rfl rfl) rfl rfl) (rk_o (rk_o (l18_3) rfl rfl) rfl rfl) (rk_o (rk_o (l18_4) rfl rfl) rfl rfl) (rk_o (rk_s) rfl rfl) (rk_s) H O (SF_trans (hS_18) (SF_glu (ι := [1]) hS30 eF30 (by decide +kernel)) (any_sub (l' := []) rfl)) (SA_trans (hA_18) (SA_glu (ι := [1]) hA30 eA30 (by decide +kernel)) (any_subA (l' := []) rfl))     (show inr ((x18_5 + z30)) by omega) (show inr ((x18_6 + 1)) by omega) (show (0) ≤ ((x18_6 + 1)) by omega) (show ((x18_6 + 1)) ≤ (0) ∨ ((x18_6 + 1)) ≤ (3) by omega) (show ((x18_5 + z30)) = 6 + su (fun j => nmb ((w1)) ((u0_9) + 2 * j) 2 2) (((x18_6 + 1)) : Int).toNat by omega) (show NNS (fun j => nmb ((w1)) ((u0_9) + 2 * j) 2 2) ((x18_6 + 1)) by assumption) (show ((x18_6 + 1)) ≤ 0 ∨ (u0_9) + 6 ≤ (a1) by omega) (show 0 ≤ su (fun j => nmb ((w1)) ((u0_9) + 2 * j) 2 2) (((x18_6 + 1)) : Int).toNat ∧ su (fun j => nmb ((w1)) ((u0_9) + 2 * j) 2 2) (((x18_6 + 1)) : Int).toNat ≤ 65535 * ((x18_6 + 1)) by omega) rfl
