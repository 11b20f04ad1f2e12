theorem len_V249_c10_vd_oz_I0acls : (V249_c10_vd).length = 26 := by decide +kernel
theorem oz_I0acls_1 : vsub V249_c10_vd V184_Br [3, 1, 9, 4, 5, 6, 7, 8, 10, 11] = true := by decide +kernel
theorem oz_I0acls_2 : vsub V249_c10_vd V232 [0] = true := by decide +kernel
theorem oz_I0acls_3 : vsub V249_c10_vd V168 [3, 9, 4, 5, 6, 7, 8, 10, 11] = true := by decide +kernel
def oz_I0aclsl_0 : List Nat := [4, 5, 6, 7, 8, 9, 10, 11, 13]
theorem oz_I0acls_4 : (oz_I0aclsl_0).all (fun p => !tbz 12272 p) = true := by decide +kernel
def oz_I0aclsl_1 : List (Nat × Nat) := [(0, 9), (0, 21), (3, 0), (3, 10), (3, 11), (3, 12)]
theorem oz_I0acls_5 : (oz_I0aclsl_1).all (fun p => !tbz 567986697064761036208116582056448 (Nat.add (Nat.mul 32 p.1) p.2)) = true := by decide +kernel
def oz_I0aclsl_2 : List Nat := [3, 1, 9, 4, 5, 6, 7, 8, 10, 11]
theorem oz_I0acls_6 : okc oz_I0aclsl_2 26643665609639073069400579 = true := by decide +kernel
def oz_I0aclsl_3 : List Nat := [0]
theorem oz_I0acls_7 : okc oz_I0aclsl_3 0 = true := by decide +kernel
def oz_I0aclsl_4 : List Nat := [3, 9, 4, 5, 6, 7, 8, 10, 11]
theorem oz_I0acls_8 : okc oz_I0aclsl_4 52038409393826314588675 = true := by decide +kernel
/-- Unpacker.unpackTable: this, this.in, this.ownTables, this.ownTables.0, this.ownTables.0.points, this.ownTables.0.masses, this.ownTables.0.mostBits, this.ownTables.0.starts, this.ownTables.0.used, this.ownTables.0.symbolAt, this.ownTables.0.numberAt, this.ownTables.0.placeOf, this.now, this.now.tables, this.known, this.dictionary, this.dictionary.tables, this.dictionary.tables.0, this.dictionary.tables.0.points, this.dictionary.tables.0.masses, this.dictionary.tables.0.mostBits, this.dictionary.tables.0.starts, this.dictionary.tables.0.symbolAt, this.dictionary.tables.0.numberAt, this.dictionary.tables.0.placeOf, this.known.0 -/
theorem C249_c10_vdo {σE : rS} {D N : Nat → Nat} {F : hF} {A : hA} {d c s : Nat} {Q : wQ} (H : HW V249_c10_vd σE D N F A) (HT : STC σE) {a2 a3 : Int} (pf1 : HID (F 0 7 = (D 1 : Int))) (pf2 : HID (F 0 2 = (D 2 : Int))) (pf3 : HID (A 2 0 = (D 3 : Int))) (pf4 : HID (F 3 2 = (D 4 : Int))) (pf5 : HID (F 3 3 = (D 5 : Int))) (pf6 : HID (F 3 4 = (D 6 : Int))) (pf7 : HID (F 3 5 = (D 7 : Int))) (pf8 : HID (F 3 6 = (D 8 : Int))) (pf9 : HID (F 3 7 = (D 9 : Int))) (pf10 : HID (F 3 8 = (D 10 : Int))) (pf11 : HID (F 3 9 = (D 11 : Int))) (pf12 : HID (F 0 3 = (D 12 : Int))) (pf13 : HID (F 12 1 = (D 13 : Int))) (pf14 : HID (F 0 0 = (D 14 : Int))) (pf15 : HID (F 0 12 = (D 15 : Int))) (pf16 : HID (F 15 4 = (D 16 : Int))) (pf17 : HID (A 16 0 = (D 17 : Int))) (pf18 : HID (F 17 2 = (D 18 : Int))) (pf19 : HID (F 17 3 = (D 19 : Int))) (pf20 : HID (F 17 4 = (D 20 : Int))) (pf21 : HID (F 17 5 = (D 21 : Int))) (pf22 : HID (F 17 7 = (D 22 : Int))) (pf23 : HID (F 17 8 = (D 23 : Int))) (pf24 : HID (F 17 9 = (D 24 : Int))) (pf25 : HID (A 14 0 = (D 25 : Int))) (n1 : Int) (en1 : HID ((N 1 : Int) = n1)) (n2 : Int) (en2 : HID ((N 2 : Int) = n2)) (n4 : Int) (en4 : HID ((N 4 : Int) = n4)) (n5 : Int) (en5 : HID ((N 5 : Int) = n5)) (n6 : Int) (en6 : HID ((N 6 : Int) = n6)) (n7 : Int) (en7 : HID ((N 7 : Int) = n7)) (n8 : Int) (en8 : HID ((N 8 : Int) = n8)) (n9 : Int) (en9 : HID ((N 9 : Int) = n9)) (n10 : Int) (en10 : HID ((N 10 : Int) = n10)) (n11 : Int) (en11 : HID ((N 11 : Int) = n11)) (n13 : Int) (en13 : HID ((N 13 : Int) = n13)) (n14 : Int) (en14 : HID ((N 14 : Int) = n14)) (n16 : Int) (en16 : HID ((N 16 : Int) = n16)) (n18 : Int) (en18 : HID ((N 18 : Int) = n18)) (n19 : Int) (en19 : HID ((N 19 : Int) = n19)) (n20 : Int) (en20 : HID ((N 20 : Int) = n20)) (n21 : Int) (en21 : HID ((N 21 : Int) = n21)) (n22 : Int) (en22 : HID ((N 22 : Int) = n22)) (n23 : Int) (en23 : HID ((N 23 : Int) = n23)) (n24 : Int) (en24 : HID ((N 24 : Int) = n24)) (u0_8 : Int) (eu0_8 : HID (F 0 8 = u0_8)) (u0_9 : Int) (eu0_9 : HID (F 0 9 = u0_9)) (u0_18 : Int) (eu0_18 : HID (F 0 18 = u0_18)) (u3_0 : Int) (eu3_0 : HID (F 3 0 = u3_0)) (u3_1 : Int) (eu3_1 : HID (F 3 1 = u3_1)) (u17_0 : Int) (eu17_0 : HID (F 17 0 = u17_0)) (u17_1 : Int) (eu17_1 : HID (F 17 1 = u17_1)) (w4 : Int → Int) (ew4 : A 4 = w4) (w5 : Int → Int) (ew5 : A 5 = w5) (w6 : Int → Int) (ew6 : A 6 = w6) (w7 : Int → Int) (ew7 : A 7 = w7) (w9 : Int → Int) (ew9 : A 9 = w9) (w10 : Int → Int) (ew10 : A 10 = w10) (w11 : Int → Int) (ew11 : A 11 = w11) (w13 : Int → Int) (ew13 : A 13 = w13) (w18 : Int → Int) (ew18 : A 18 = w18) (w19 : Int → Int) (ew19 : A 19 = w19) (w20 : Int → Int) (ew20 : A 20 = w20) (w21 : Int → Int) (ew21 : A 21 = w21) (w22 : Int → Int) (ew22 : A 22 = w22) (w23 : Int → Int) (ew23 : A 23 = w23) (w24 : Int → Int) (ew24 : A 24 = w24) (h0 : inr (0)) (h1 : inr (a2)) (h2 : inr (a3)) (h3 : 0 ≤ (u0_9) ∧ (u0_9) ≤ (u0_8) ∧ (u0_8) ≤ (n1) ∧ (n1) ≤ 65536) (h4 : (u0_9) ≤ (u0_18) ∧ (u0_18) ≤ (u0_8)) (h5 : 0 ≤ (a2) ∧ (a2) ≤ 3) (h6 : SHZD ((n4)) ((n5)) ((n6)) ((n7)) ((n8)) ((n9)) ((n10)) ((n11)) ((u3_1)) 36 512) (h7 : (n13) = 3 ∧ (n14) = 3 ∧ (n2) = 3) (h8 : TI3 (((w13)) 0) ((((D 25 : Nat) : Int))) ((((D 3 : Nat) : Int))) ((((D 17 : Nat) : Int)))) (h9 : SLB (((w13)) 0) ((((D 3 : Nat) : Int))) (SL ((w4)) ((u3_1)) ((u3_0)) ((w5)) ((w6)) ((w7)) ((w9)) ((w10)) ((w11)))) (h10 : SLB (((w13)) 0) ((((D 17 : Nat) : Int))) (SL ((w18)) ((u17_1)) ((u17_0)) ((w19)) ((w20)) ((w21)) ((w22)) ((w23)) ((w24)))) (h11 : ORB (((w13)) 0) ((((D 3 : Nat) : Int))) ((u3_0)) 9) (h12 : ORB (((w13)) 0) ((((D 17 : Nat) : Int))) ((u17_0)) 9) (k : ∀ (z : Int) (σ : rS) (Fₚ : hF) (Aₚ : hA), HW V249_c10_vd σ D N Fₚ Aₚ → OUT (V249_c10_vd).length D N σE c s D N σ c s → SF [(0, 9), (0, 21), (3, 0), (3, 10), (3, 11), (3, 12)] F Fₚ → SA [4, 5, 6, 7, 8, 9, 10, 11, 13] A Aₚ → ∀ y0_9 : Int, Fₚ 0 9 = y0_9 → ∀ y3_0 : Int, Fₚ 3 0 = y3_0 → ∀ v4 : Int → Int, Aₚ 4 = v4 → ∀ v5 : Int → Int, Aₚ 5 = v5 → ∀ v6 : Int → Int, Aₚ 6 = v6 → ∀ v7 : Int → Int, Aₚ 7 = v7 → ∀ v9 : Int → Int, Aₚ 9 = v9 → ∀ v10 : Int → Int, Aₚ 10 = v10 → ∀ v11 : Int → Int, Aₚ 11 = v11 → ∀ v13 : Int → Int, Aₚ 13 = v13 → (inr (z)) → (0 ≤ (z) ∧ (z) ≤ 17) → (0 ≤ (y0_9) ∧ (u0_9) ≤ (y0_9) ∧ (y0_9) ≤ (u0_8)) → ((y0_9) ≤ (u0_18)) → ((IMP ((z) = 0) (((v13)) 0 ≠ -1))) → (IMP ((z) = 0) (TI3 (((v13)) 0) ((((D 25 : Nat) : Int))) ((((D 3 : Nat) : Int))) ((((D 17 : Nat) : Int))))) → (IMP ((z) = 0) (SLB (((v13)) 0) ((((D 3 : Nat) : Int))) (SL ((v4)) ((u3_1)) ((y3_0)) ((v5)) ((v6)) ((v7)) ((v9)) ((v10)) ((v11))))) → (IMP ((z) = 0) (SLB (((v13)) 0) ((((D 17 : Nat) : Int))) (SL ((w18)) ((u17_1)) ((u17_0)) ((w19)) ((w20)) ((w21)) ((w22)) ((w23)) ((w24))))) → (IMP ((z) = 0) (ORB (((v13)) 0) ((((D 3 : Nat) : Int))) ((y3_0)) 9)) → (IMP ((z) = 0) (ORB (((v13)) 0) ((((D 17 : Nat) : Int))) ((u17_0)) 9)) → (0 = 0 ∨ ((v13)) 0 = ((w13)) 0) → (0 = 1 ∨ ((v13)) 1 = ((w13)) 1) → (0 = 2 ∨ ((v13)) 2 = ((w13)) 2) → Q (some (I z)) σ c s) : Ew 249 (d + 2) 0 (rargs 0 [.ref (D 0), I 0, I a2, I a3]) [] σE c s Q := by
  have O := OUT_refl (n := (V249_c10_vd).length) (D := D) (N := N) (σ := σE) (c := c) (s := s)
  have HE := H
  have r1 : (-2147483648 : Int) ≤ u0_8 ∧ u0_8 ≤ 2147483647 := rngE (show (-2147483648 : Int) ≤ F 0 8 ∧ F 0 8 ≤ 2147483647 from H.krg 0 8 (ltn len_V249_c10_vd_oz_I0acls rfl)) (show F 0 8 = u0_8 from (eu0_8))
  have r2 : (-2147483648 : Int) ≤ u0_9 ∧ u0_9 ≤ 2147483647 := rngE (show (-2147483648 : Int) ≤ F 0 9 ∧ F 0 9 ≤ 2147483647 from H.krg 0 9 (ltn len_V249_c10_vd_oz_I0acls rfl)) (show F 0 9 = u0_9 from (eu0_9))
  have r3 : (-2147483648 : Int) ≤ u0_18 ∧ u0_18 ≤ 2147483647 := rngE (show (-2147483648 : Int) ≤ F 0 18 ∧ F 0 18 ≤ 2147483647 from H.krg 0 18 (ltn len_V249_c10_vd_oz_I0acls rfl)) (show F 0 18 = u0_18 from (eu0_18))
  have r4 : (-2147483648 : Int) ≤ u3_0 ∧ u3_0 ≤ 2147483647 := rngE (show (-2147483648 : Int) ≤ F 3 0 ∧ F 3 0 ≤ 2147483647 from H.krg 3 0 (ltn len_V249_c10_vd_oz_I0acls rfl)) (show F 3 0 = u3_0 from (eu3_0))
  have r5 : (-2147483648 : Int) ≤ u3_1 ∧ u3_1 ≤ 2147483647 := rngE (show (-2147483648 : Int) ≤ F 3 1 ∧ F 3 1 ≤ 2147483647 from H.krg 3 1 (ltn len_V249_c10_vd_oz_I0acls rfl)) (show F 3 1 = u3_1 from (eu3_1))
  have r6 : (-2147483648 : Int) ≤ u17_0 ∧ u17_0 ≤ 2147483647 := rngE (show (-2147483648 : Int) ≤ F 17 0 ∧ F 17 0 ≤ 2147483647 from H.krg 17 0 (ltn len_V249_c10_vd_oz_I0acls rfl)) (show F 17 0 = u17_0 from (eu17_0))
  have r7 : (-2147483648 : Int) ≤ u17_1 ∧ u17_1 ≤ 2147483647 := rngE (show (-2147483648 : Int) ≤ F 17 1 ∧ F 17 1 ≤ 2147483647 from H.krg 17 1 (ltn len_V249_c10_vd_oz_I0acls rfl)) (show F 17 1 = u17_1 from (eu17_1))
  have r8 : (0 : Int) ≤ n1 ∧ n1 ≤ 1000000 := nleE (H.nle 1 (ltn len_V249_c10_vd_oz_I0acls rfl)) (show (N 1 : Int) = n1 from en1)
  have r9 : (0 : Int) ≤ n2 ∧ n2 ≤ 1000000 := nleE (H.nle 2 (ltn len_V249_c10_vd_oz_I0acls rfl)) (show (N 2 : Int) = n2 from en2)
  have r10 : (0 : Int) ≤ n4 ∧ n4 ≤ 1000000 := nleE (H.nle 4 (ltn len_V249_c10_vd_oz_I0acls rfl)) (show (N 4 : Int) = n4 from en4)
  have r11 : (0 : Int) ≤ n5 ∧ n5 ≤ 1000000 := nleE (H.nle 5 (ltn len_V249_c10_vd_oz_I0acls rfl)) (show (N 5 : Int) = n5 from en5)
  have r12 : (0 : Int) ≤ n6 ∧ n6 ≤ 1000000 := nleE (H.nle 6 (ltn len_V249_c10_vd_oz_I0acls rfl)) (show (N 6 : Int) = n6 from en6)
  have r13 : (0 : Int) ≤ n7 ∧ n7 ≤ 1000000 := nleE (H.nle 7 (ltn len_V249_c10_vd_oz_I0acls rfl)) (show (N 7 : Int) = n7 from en7)
  have r14 : (0 : Int) ≤ n8 ∧ n8 ≤ 1000000 := nleE (H.nle 8 (ltn len_V249_c10_vd_oz_I0acls rfl)) (show (N 8 : Int) = n8 from en8)
  have r15 : (0 : Int) ≤ n9 ∧ n9 ≤ 1000000 := nleE (H.nle 9 (ltn len_V249_c10_vd_oz_I0acls rfl)) (show (N 9 : Int) = n9 from en9)
  have r16 : (0 : Int) ≤ n10 ∧ n10 ≤ 1000000 := nleE (H.nle 10 (ltn len_V249_c10_vd_oz_I0acls rfl)) (show (N 10 : Int) = n10 from en10)
  have r17 : (0 : Int) ≤ n11 ∧ n11 ≤ 1000000 := nleE (H.nle 11 (ltn len_V249_c10_vd_oz_I0acls rfl)) (show (N 11 : Int) = n11 from en11)
  have r18 : (0 : Int) ≤ n13 ∧ n13 ≤ 1000000 := nleE (H.nle 13 (ltn len_V249_c10_vd_oz_I0acls rfl)) (show (N 13 : Int) = n13 from en13)
  have r19 : (0 : Int) ≤ n14 ∧ n14 ≤ 1000000 := nleE (H.nle 14 (ltn len_V249_c10_vd_oz_I0acls rfl)) (show (N 14 : Int) = n14 from en14)
  have hszq : SHZD ((n4)) ((n5)) ((n6)) ((n7)) ((n8)) ((n9)) ((n10)) ((n11)) ((u3_1)) 36 512 := h6
  unfold SHZD at hszq
  have hnea : (((D 25 : Nat) : Int)) ≠ (((D 3 : Nat) : Int)) := dneZ H 25 3 rfl rfl rfl
  have hneb : (((D 25 : Nat) : Int)) ≠ (((D 17 : Nat) : Int)) := dneZ H 25 17 rfl rfl rfl
  have hnec : (((D 3 : Nat) : Int)) ≠ (((D 17 : Nat) : Int)) := dneZ H 3 17 rfl rfl rfl
  refine Ew_of (pcₚ := 1) (fun _ => x_iload_n rfl rfl) ?_
  refine Ew_of (pcₚ := 2) (fun _ => x_iconst rfl) ?_
  refine w_icmpne (t := 29) rfl rfl (show inr (a2) from h1) (show inr (3) from q_66) (fun b20 => ?_) (fun b20 => ?_)
  · refine Ew_of (pcₚ := 30) (fun _ => x_aload_n rfl rfl) ?_
    refine v_g H (o := 0) (v := .ref (D 12)) rfl rfl rfl rfl rfl (vrf (pf12)) ?_
    refine v_g H (o := 12) (v := .ref (D 13)) rfl rfl rfl rfl rfl (vrf (pf13)) ?_
    refine Ew_of (pcₚ := 37) (fun _ => x_iload_n rfl rfl) ?_
    refine Ew_of (pcₚ := 38) (fun _ => x_iload_n rfl rfl) ?_
    refine w_ifne (t := 50) rfl rfl (show inr (a2) from h1) (fun b21 => ?_) (fun b21 => ?_)
    · refine Ew_of (pcₚ := 51) (fun _ => x_aload_n rfl rfl) ?_
      refine v_g H (o := 0) (v := .ref (D 2)) rfl rfl rfl rfl rfl (vrf (pf2)) ?_
      refine Ew_of (pcₚ := 55) (fun _ => x_iload_n rfl rfl) ?_
      have hs_ := upd1_s (a := ((w13))) (j := 0) (z := (((D 3 : Nat) : Int)))
      have hu0_ : (0 : Int) = 0 ∨ upd1 ((w13)) 0 ((((D 3 : Nat) : Int))) 0 = ((w13)) 0 := by by_cases w : (0 : Int) = 0; exact .inl (by omega); exact .inr (upd1_o w)
      have hu1_ : (0 : Int) = 1 ∨ upd1 ((w13)) 0 ((((D 3 : Nat) : Int))) 1 = ((w13)) 1 := by by_cases w : (1 : Int) = 0; exact .inl (by omega); exact .inr (upd1_o w)
      have hu2_ : (0 : Int) = 2 ∨ upd1 ((w13)) 0 ((((D 3 : Nat) : Int))) 2 = ((w13)) 2 := by by_cases w : (2 : Int) = 0; exact .inl (by omega); exact .inr (upd1_o w)
      refine v_lR H (o := 2) rfl rfl rfl rfl rfl (n := n2) (en2) (show 0 ≤ 0 ∧ 0 < n2 from q_3792 h7 r9) (z := ((D 3 : Nat) : Int)) (v := .ref (D 3)) (pf3) (vrf rfl) ?_
      refine v_sR H (o := 13) (z := ((D 3 : Nat) : Int)) (v := .ref (D 3)) rfl rfl rfl rfl rfl (n := n13) (en13) (show 0 ≤ 0 ∧ 0 < n13 from q_3793 h7 r18) (show (-1 : Int) ≤ ((D 3 : Nat) : Int) by omega) (vrf rfl) (rkinR H (x := 3) rfl rfl rfl) (fun σ H Oₚ => ?_)
      have O := OUT_trans O Oₚ
      have cAu22 : SA oz_I0aclsl_0 A (updA A 13 (0) (((D 3 : Nat) : Int))) := SA_upd (SA_refl) rfl
      have mAu22 := SAm_of cAu22 oz_I0acls_4
      refine Ew_of (pcₚ := 58) (fun _ => x_iload_n rfl rfl) ?_
      refine Ew_of (pcₚ := 59) (fun _ => x_iconst rfl) ?_
      refine w_icmpne (t := 138) rfl rfl (show inr (a2) from h1) (show inr (1) from q_23) (fun b23 => ?_) (fun b23 => ?_)
      · refine Ew_of (pcₚ := 139) (fun _ => x_iload_n rfl rfl) ?_
        refine Ew_of (pcₚ := 140) (fun _ => x_iconst rfl) ?_
        refine w_icmpne (t := 190) rfl rfl (show inr (a2) from h1) (show inr (2) from q_55) (fun b24 => ?_) (fun b24 => ?_)
        · refine Ew_of (pcₚ := 191) (fun _ => x_iconst rfl) ?_
          have hfi0 : IMP (((0) : Int) = 0) (TI3 (((upd1 (w13) (0) (((D 3 : Nat) : Int)))) 0) ((((D 25 : Nat) : Int))) ((((D 3 : Nat) : Int))) ((((D 17 : Nat) : Int)))) := by exact fun q => absurd q (by omega)
          have hfi1 : IMP (((0) : Int) = 0) (SLB (((upd1 (w13) (0) (((D 3 : Nat) : Int)))) 0) ((((D 3 : Nat) : Int))) (SL ((w4)) ((u3_1)) ((u3_0)) ((w5)) ((w6)) ((w7)) ((w9)) ((w10)) ((w11)))) := by exact fun q => absurd q (by omega)
          have hfi2 : IMP (((0) : Int) = 0) (SLB (((upd1 (w13) (0) (((D 3 : Nat) : Int)))) 0) ((((D 17 : Nat) : Int))) (SL ((w18)) ((u17_1)) ((u17_0)) ((w19)) ((w20)) ((w21)) ((w22)) ((w23)) ((w24)))) := by exact fun q => absurd q (by omega)
          have hfi3 : IMP (((0) : Int) = 0) (ORB (((upd1 (w13) (0) (((D 3 : Nat) : Int)))) 0) ((((D 3 : Nat) : Int))) ((u3_0)) 9) := by exact fun q => absurd q (by omega)
          have hfi4 : IMP (((0) : Int) = 0) (ORB (((upd1 (w13) (0) (((D 3 : Nat) : Int)))) 0) ((((D 17 : Nat) : Int))) ((u17_0)) 9) := by exact fun q => absurd q (by omega)
          have hfn : (IMP (((0) : Int) = 0) (((upd1 (w13) (0) (((D 3 : Nat) : Int)))) 0 ≠ -1)) := by exact fun q => absurd q (by omega)
          exact w_ireturn rfl (k (0) _ _ _ H O (SF_refl) (cAu22) (u0_9) ((eu0_9)) (u3_0) ((eu3_0)) (w4) (ew4) (w5) (ew5) (w6) (ew6) (w7) (ew7) (w9) (ew9) (w10) (ew10) (w11) (ew11) (upd1 (w13) (0) (((D 3 : Nat) : Int))) (congrArg (fun q => upd1 q (0) (((D 3 : Nat) : Int))) (ew13)) (show inr (0) from h0) (show 0 ≤ (0) ∧ (0) ≤ 17 by first | exact q_3589 | omega) (show 0 ≤ (u0_9) ∧ (u0_9) ≤ (u0_9) ∧ (u0_9) ≤ (u0_8) from q_3590 h3) (show (u0_9) ≤ (u0_18) from q_1468 h4) (show (IMP ((0) = 0) (((upd1 (w13) (0) (((D 3 : Nat) : Int)))) 0 ≠ -1)) by assumption) (show IMP ((0) = 0) (TI3 (((upd1 (w13) (0) (((D 3 : Nat) : Int)))) 0) ((((D 25 : Nat) : Int))) ((((D 3 : Nat) : Int))) ((((D 17 : Nat) : Int)))) by assumption) (show IMP ((0) = 0) (SLB (((upd1 (w13) (0) (((D 3 : Nat) : Int)))) 0) ((((D 3 : Nat) : Int))) (SL ((w4)) ((u3_1)) ((u3_0)) ((w5)) ((w6)) ((w7)) ((w9)) ((w10)) ((w11)))) by assumption) (show IMP ((0) = 0) (SLB (((upd1 (w13) (0) (((D 3 : Nat) : Int)))) 0) ((((D 17 : Nat) : Int))) (SL ((w18)) ((u17_1)) ((u17_0)) ((w19)) ((w20)) ((w21)) ((w22)) ((w23)) ((w24)))) by assumption) (show IMP ((0) = 0) (ORB (((upd1 (w13) (0) (((D 3 : Nat) : Int)))) 0) ((((D 3 : Nat) : Int))) ((u3_0)) 9) by assumption) (show IMP ((0) = 0) (ORB (((upd1 (w13) (0) (((D 3 : Nat) : Int)))) 0) ((((D 17 : Nat) : Int))) ((u17_0)) 9) by assumption) (show 0 = 0 ∨ ((upd1 (w13) (0) (((D 3 : Nat) : Int)))) 0 = ((w13)) 0 by first | exact q_3497 | omega) (show 0 = 1 ∨ ((upd1 (w13) (0) (((D 3 : Nat) : Int)))) 1 = ((w13)) 1 by omega) (show 0 = 2 ∨ ((upd1 (w13) (0) (((D 3 : Nat) : Int)))) 2 = ((w13)) 2 by omega))
        · refine Ew_of (pcₚ := 144) (fun _ => x_aload_n rfl rfl) ?_
          refine v_g H (o := 0) (v := .ref (D 2)) rfl rfl rfl rfl rfl (vrf (pf2)) ?_
          refine Ew_of (pcₚ := 148) (fun _ => x_iload_n rfl rfl) ?_
          refine v_lR H (o := 2) rfl rfl rfl rfl rfl (n := n2) (en2) (show 0 ≤ 0 ∧ 0 < n2 from q_3792 h7 r9) (z := ((D 3 : Nat) : Int)) (v := .ref (D 3)) ((mAu22 2 rfl 0).trans (pf3)) (vrf rfl) ?_
          refine Ew_of (pcₚ := 150) (fun _ => x_aload_n rfl rfl) ?_
          refine v_g H (o := 0) (v := .ref (D 1)) rfl rfl rfl rfl rfl (vrf (pf1)) ?_
          refine Ew_of (pcₚ := 154) (fun _ => x_aload_n rfl rfl) ?_
          refine v_g H (o := 0) (v := I (u0_9)) rfl rfl rfl rfl rfl (congrArg (fun z : Int => I z) ((eu0_9) : F 0 9 = u0_9)) ?_
          refine Ew_of (pcₚ := 158) (fun _ => x_aload_n rfl rfl) ?_
          refine v_g H (o := 0) (v := I (u0_18)) rfl rfl rfl rfl rfl (congrArg (fun z : Int => I z) ((eu0_18) : F 0 18 = u0_18)) ?_
          refine Ew_of (pcₚ := 164) (fun _ => x_getstatic rfl) ?_
          refine Ew_of (pcₚ := 165) (fun _ => x_iload_n rfl rfl) ?_
          refine v_stI (STC_out HT HE O) (b := 2) (n := 3) rfl rfl rfl rfl (show 0 ≤ 0 ∧ 0 < 3 from q_3495) (fun v25 ev25 qv25 => ?_)
          have hgo := ev25
          have hgv : ((v25) : Int) = 9 := by rw [← hgo]; rfl
          have hpg : p2 ((v25)) = 512 := by rw [hgv]; decide
          refine v_inv H (o := 3) rfl rfl rfl rfl rfl rfl (by rfl) (C184_Br (D := puc 26643665609639073069400579 D) (N := puc 26643665609639073069400579 N) (HW_subc H oz_I0acls_1 oz_I0acls_6) (pf9) (pf4) (pf5) (pf6) (pf7) (pf8) (pf10) (pf11) (n1) (en1) (n9) (en9) (n4) (en4) (n5) (en5) (n6) (en6) (n7) (en7) (n8) (en8) (n10) (en10) (n11) (en11) (u3_0) ((eu3_0)) (u3_1) ((eu3_1)) (w9) (ew9) (w4) (ew4) (w5) (ew5) (w6) (ew6) (w7) (ew7) (w10) (ew10) (w11) (ew11) (show inr (u0_9) from q_3585 h3) (show inr (u0_18) from q_22 r3) (show inr (v25) from qv25) (show 0 ≤ (u0_9) ∧ (u0_9) ≤ (u0_18) ∧ (u0_18) ≤ (n1) ∧ (n1) ≤ 65536 from q_3794 h3 h4) (show 5 ≤ (v25) ∧ (v25) ≤ 9 ∧ p2 (v25) ≤ (n9) by omega) (show (n4) = (u3_1) ∧ (n5) = (u3_1) ∧ (n6) = (u3_1) ∧ (n7) = (u3_1) ∧ (n8) = (u3_1) ∧ (n10) = (n9) ∧ (n11) = (n9) ∧ 1 ≤ (u3_1) ∧ (u3_1) ≤ 64 by omega) (fun z26 σ26 F26ₚ A26ₚ Hₚ Oₚ hS26 hA26 y26_0_0 (ey26_0_0 : HID _) w26_2 ew26_2 w26_3 ew26_3 w26_4 ew26_4 w26_5 ew26_5 w26_6 ew26_6 w26_8 ew26_8 w26_9 ew26_9 (pq26_0 : HID _) pz26_0 pz26_1 pz26_2 pz26_3 => ⟨rfl, ?_⟩))
          refine v_backc (c := c) (s := s) H oz_I0acls_1 oz_I0acls_6 Hₚ Oₚ (fun F26 A26 H Oₚ eF26 eA26 => ?_)
          have O := OUT_trans O Oₚ
          -- Share.hear
          have cF26 : SF oz_I0aclsl_1 F F26 := SF_trans (SF_refl) (SF_gluc (ι := oz_I0aclsl_2) oz_I0acls_6 hS26 eF26 (by decide +kernel)) (any_sub (lₚ := [(3, 0), (3, 10), (3, 11), (3, 12)]) (by decide +kernel))
          have mF26 := SFm_of cF26 oz_I0acls_5
          have cA26 : SA oz_I0aclsl_0 A A26 := SA_trans (cAu22) (SA_gluc (ι := oz_I0aclsl_2) oz_I0acls_6 hA26 eA26 (by decide +kernel)) (any_subA (lₚ := [4, 5, 6, 7, 8, 9, 10, 11]) (by decide +kernel))
          have mA26 := SAm_of cA26 oz_I0acls_4
          have pl26_0 : HID (F26 3 10 = (D 1 : Int)) := (eF26 3 10).trans (pq26_0)
          have r27 : (-2147483648 : Int) ≤ y26_0_0 ∧ y26_0_0 ≤ 2147483647 := rngE (show (-2147483648 : Int) ≤ F26 3 0 ∧ F26 3 0 ≤ 2147483647 from H.krg 3 0 (ltn len_V249_c10_vd_oz_I0acls rfl)) (show F26 3 0 = y26_0_0 from ((eF26 3 0).trans ey26_0_0))
          refine Ew_of (pcₚ := 171) (fun _ => x_istore rfl) ?_
          refine Ew_of (pcₚ := 173) (fun _ => x_iload rfl rk_s) ?_
          refine w_ifge (t := 184) rfl rfl (show inr (z26) from pz26_0) (fun b28 => ?_) (fun b28 => ?_)
          · have hown := Or.resolve_left pz26_3 (by omega)
            have hord : (y26_0_0) ≤ 9 := q_3795 b28 hgv pz26_2 r27
            refine Ew_of (pcₚ := 185) (fun _ => x_aload_n rfl (rk_o (rfl) rfl rfl)) ?_
            refine Ew_of (pcₚ := 187) (fun _ => x_iload rfl rk_s) ?_
            refine v_p H (o := 0) (z := z26) (v := I (z26)) rfl rfl rfl rfl rfl rfl rfl rfl (show (-2147483648 : Int) ≤ z26 ∧ z26 ≤ 2147483647 from q_3761 b28 pz26_0) (fun σ H Oₚ => ?_)
            have O := OUT_trans O Oₚ
            have cFu29 : SF oz_I0aclsl_1 F (updF F26 0 9 (z26)) := SF_upd (cF26) rfl
            have mFu29 := SFm_of cFu29 oz_I0acls_5
            refine Ew_of (pcₚ := 191) (fun _ => x_iconst rfl) ?_
            have hfi0 : IMP (((0) : Int) = 0) (TI3 (((upd1 (w13) (0) (((D 3 : Nat) : Int)))) 0) ((((D 25 : Nat) : Int))) ((((D 3 : Nat) : Int))) ((((D 17 : Nat) : Int)))) := by exact fun _ => .inr (by omega)
            have hfi1 : IMP (((0) : Int) = 0) (SLB (((upd1 (w13) (0) (((D 3 : Nat) : Int)))) 0) ((((D 3 : Nat) : Int))) (SL ((w26_3)) ((u3_1)) ((y26_0_0)) ((w26_4)) ((w26_5)) ((w26_6)) ((w26_2)) ((w26_8)) ((w26_9)))) := by exact fun _ => .inr hown
            have hfi2 : IMP (((0) : Int) = 0) (SLB (((upd1 (w13) (0) (((D 3 : Nat) : Int)))) 0) ((((D 17 : Nat) : Int))) (SL ((w18)) ((u17_1)) ((u17_0)) ((w19)) ((w20)) ((w21)) ((w22)) ((w23)) ((w24)))) := by exact fun _ => .inl (by omega)
            have hfi3 : IMP (((0) : Int) = 0) (ORB (((upd1 (w13) (0) (((D 3 : Nat) : Int)))) 0) ((((D 3 : Nat) : Int))) ((y26_0_0)) 9) := by exact fun _ => .inr (by omega)
            have hfi4 : IMP (((0) : Int) = 0) (ORB (((upd1 (w13) (0) (((D 3 : Nat) : Int)))) 0) ((((D 17 : Nat) : Int))) ((u17_0)) 9) := by exact fun _ => .inl (by omega)
            have hfn : (IMP (((0) : Int) = 0) (((upd1 (w13) (0) (((D 3 : Nat) : Int)))) 0 ≠ -1)) := by exact fun _ => (by omega)
            exact w_ireturn rfl (k (0) _ _ _ H O (cFu29) (cA26) (z26) (rfl) (y26_0_0) (((eF26 3 0).trans ey26_0_0)) (w26_3) ((eA26 4).trans ew26_3) (w26_4) ((eA26 5).trans ew26_4) (w26_5) ((eA26 6).trans ew26_5) (w26_6) ((eA26 7).trans ew26_6) (w26_2) ((eA26 9).trans ew26_2) (w26_8) ((eA26 10).trans ew26_8) (w26_9) ((eA26 11).trans ew26_9) (upd1 (w13) (0) (((D 3 : Nat) : Int))) (((show A26 13 = (updA A 13 (0) (((D 3 : Nat) : Int))) 13 from (eA26 13))).trans (congrArg (fun q => upd1 q (0) (((D 3 : Nat) : Int))) (ew13))) (show inr (0) from h0) (show 0 ≤ (0) ∧ (0) ≤ 17 by first | exact q_3589 | omega) (show 0 ≤ (z26) ∧ (u0_9) ≤ (z26) ∧ (z26) ≤ (u0_8) from q_3797 b28 h3 h4 pz26_1 pz26_3) (show (z26) ≤ (u0_18) from q_3796 b28 pz26_1 pz26_3 r3) (show (IMP ((0) = 0) (((upd1 (w13) (0) (((D 3 : Nat) : Int)))) 0 ≠ -1)) by assumption) (show IMP ((0) = 0) (TI3 (((upd1 (w13) (0) (((D 3 : Nat) : Int)))) 0) ((((D 25 : Nat) : Int))) ((((D 3 : Nat) : Int))) ((((D 17 : Nat) : Int)))) by assumption) (show IMP ((0) = 0) (SLB (((upd1 (w13) (0) (((D 3 : Nat) : Int)))) 0) ((((D 3 : Nat) : Int))) (SL ((w26_3)) ((u3_1)) ((y26_0_0)) ((w26_4)) ((w26_5)) ((w26_6)) ((w26_2)) ((w26_8)) ((w26_9)))) by assumption) (show IMP ((0) = 0) (SLB (((upd1 (w13) (0) (((D 3 : Nat) : Int)))) 0) ((((D 17 : Nat) : Int))) (SL ((w18)) ((u17_1)) ((u17_0)) ((w19)) ((w20)) ((w21)) ((w22)) ((w23)) ((w24)))) by assumption) (show IMP ((0) = 0) (ORB (((upd1 (w13) (0) (((D 3 : Nat) : Int)))) 0) ((((D 3 : Nat) : Int))) ((y26_0_0)) 9) by assumption) (show IMP ((0) = 0) (ORB (((upd1 (w13) (0) (((D 3 : Nat) : Int)))) 0) ((((D 17 : Nat) : Int))) ((u17_0)) 9) by assumption) (show 0 = 0 ∨ ((upd1 (w13) (0) (((D 3 : Nat) : Int)))) 0 = ((w13)) 0 by first | exact q_3497 | omega) (show 0 = 1 ∨ ((upd1 (w13) (0) (((D 3 : Nat) : Int)))) 1 = ((w13)) 1 by omega) (show 0 = 2 ∨ ((upd1 (w13) (0) (((D 3 : Nat) : Int)))) 2 = ((w13)) 2 by omega))
          · refine Ew_of (pcₚ := 177) (fun _ => x_aload_n rfl (rk_o (rfl) rfl rfl)) ?_
            refine Ew_of (pcₚ := 179) (fun _ => x_bipush (z := 16) rfl (by decide)) ?_
            refine Ew_of (pcₚ := 180) (fun _ => x_iload_n rfl (rk_o (rfl) rfl rfl)) ?_
            have r30 : (-2147483648 : Int) ≤ F 0 21 ∧ F 0 21 ≤ 2147483647 := rngE (show (-2147483648 : Int) ≤ F26 0 21 ∧ F26 0 21 ≤ 2147483647 from H.krg 0 21 (ltn len_V249_c10_vd_oz_I0acls rfl)) (show F26 0 21 = F 0 21 from ((show F26 0 21 = F 0 21 from (eF26 0 21))))
            refine v_inv H (o := 0) rfl rfl rfl rfl rfl rfl (by rfl) (C232 (D := puc 0 D) (N := puc 0 N) (HW_subc H oz_I0acls_2 oz_I0acls_7) (F 0 21) (((show F26 0 21 = F 0 21 from (eF26 0 21)))) (show inr (16) from q_86) (show inr (a3) from h2) (fun z31 σ31 F31ₚ A31ₚ Hₚ Oₚ hS31 hA31 y31_0_21 (ey31_0_21 : HID _) pz31_0 pz31_1 pz31_2 => ⟨rfl, ?_⟩))
            refine v_backc (c := c) (s := s) H oz_I0acls_2 oz_I0acls_7 Hₚ Oₚ (fun F31 A31 H Oₚ eF31 eA31 => ?_)
            have O := OUT_trans O Oₚ
            -- Unpacker.fail
            have cF31 : SF oz_I0aclsl_1 F F31 := SF_trans (cF26) (SF_gluc (ι := oz_I0aclsl_3) oz_I0acls_7 hS31 eF31 (by decide +kernel)) (any_sub (lₚ := [(0, 21)]) (by decide +kernel))
            have mF31 := SFm_of cF31 oz_I0acls_5
            have cA31 : SA oz_I0aclsl_0 A A31 := SA_trans (cA26) (SA_gluc (ι := oz_I0aclsl_3) oz_I0acls_7 hA31 eA31 (by decide +kernel)) (any_subA (lₚ := []) (by decide +kernel))
            have mA31 := SAm_of cA31 oz_I0acls_4
            have r32 : (-2147483648 : Int) ≤ y31_0_21 ∧ y31_0_21 ≤ 2147483647 := rngE (show (-2147483648 : Int) ≤ F31 0 21 ∧ F31 0 21 ≤ 2147483647 from H.krg 0 21 (ltn len_V249_c10_vd_oz_I0acls rfl)) (show F31 0 21 = y31_0_21 from ((eF31 0 21).trans ey31_0_21))
            have hfi0 : IMP (((z31) : Int) = 0) (TI3 (((upd1 (w13) (0) (((D 3 : Nat) : Int)))) 0) ((((D 25 : Nat) : Int))) ((((D 3 : Nat) : Int))) ((((D 17 : Nat) : Int)))) := by exact fun q => absurd q (by omega)
            have hfi1 : IMP (((z31) : Int) = 0) (SLB (((upd1 (w13) (0) (((D 3 : Nat) : Int)))) 0) ((((D 3 : Nat) : Int))) (SL ((w26_3)) ((u3_1)) ((y26_0_0)) ((w26_4)) ((w26_5)) ((w26_6)) ((w26_2)) ((w26_8)) ((w26_9)))) := by exact fun q => absurd q (by omega)
            have hfi2 : IMP (((z31) : Int) = 0) (SLB (((upd1 (w13) (0) (((D 3 : Nat) : Int)))) 0) ((((D 17 : Nat) : Int))) (SL ((w18)) ((u17_1)) ((u17_0)) ((w19)) ((w20)) ((w21)) ((w22)) ((w23)) ((w24)))) := by exact fun q => absurd q (by omega)
            have hfi3 : IMP (((z31) : Int) = 0) (ORB (((upd1 (w13) (0) (((D 3 : Nat) : Int)))) 0) ((((D 3 : Nat) : Int))) ((y26_0_0)) 9) := by exact fun q => absurd q (by omega)
            have hfi4 : IMP (((z31) : Int) = 0) (ORB (((upd1 (w13) (0) (((D 3 : Nat) : Int)))) 0) ((((D 17 : Nat) : Int))) ((u17_0)) 9) := by exact fun q => absurd q (by omega)
            have hfn : (IMP (((z31) : Int) = 0) (((upd1 (w13) (0) (((D 3 : Nat) : Int)))) 0 ≠ -1)) := by exact fun q => absurd q (by omega)
            exact w_ireturn rfl (k (z31) _ _ _ H O (cF31) (cA31) (u0_9) (((((show F31 0 9 = F26 0 9 from (eF31 0 9).trans (hS31 0 9 rfl))).trans ((show F26 0 9 = F 0 9 from (eF26 0 9)))).trans (eu0_9))) (y26_0_0) ((((show F31 3 0 = F26 3 0 from (eF31 3 0))).trans ((eF26 3 0).trans ey26_0_0))) (w26_3) (((show A31 4 = A26 4 from (eA31 4))).trans ((eA26 4).trans ew26_3)) (w26_4) (((show A31 5 = A26 5 from (eA31 5))).trans ((eA26 5).trans ew26_4)) (w26_5) (((show A31 6 = A26 6 from (eA31 6))).trans ((eA26 6).trans ew26_5)) (w26_6) (((show A31 7 = A26 7 from (eA31 7))).trans ((eA26 7).trans ew26_6)) (w26_2) (((show A31 9 = A26 9 from (eA31 9))).trans ((eA26 9).trans ew26_2)) (w26_8) (((show A31 10 = A26 10 from (eA31 10))).trans ((eA26 10).trans ew26_8)) (w26_9) (((show A31 11 = A26 11 from (eA31 11))).trans ((eA26 11).trans ew26_9)) (upd1 (w13) (0) (((D 3 : Nat) : Int))) (((show A31 13 = A26 13 from (eA31 13))).trans (((show A26 13 = (updA A 13 (0) (((D 3 : Nat) : Int))) 13 from (eA26 13))).trans (congrArg (fun q => upd1 q (0) (((D 3 : Nat) : Int))) (ew13)))) (show inr (z31) from pz31_0) (show 0 ≤ (z31) ∧ (z31) ≤ 17 from q_3798 pz31_1) (show 0 ≤ (u0_9) ∧ (u0_9) ≤ (u0_9) ∧ (u0_9) ≤ (u0_8) from q_3590 h3) (show (u0_9) ≤ (u0_18) from q_1468 h4) (show (IMP ((z31) = 0) (((upd1 (w13) (0) (((D 3 : Nat) : Int)))) 0 ≠ -1)) from hfn) (show IMP ((z31) = 0) (TI3 (((upd1 (w13) (0) (((D 3 : Nat) : Int)))) 0) ((((D 25 : Nat) : Int))) ((((D 3 : Nat) : Int))) ((((D 17 : Nat) : Int)))) from hfi0) (show IMP ((z31) = 0) (SLB (((upd1 (w13) (0) (((D 3 : Nat) : Int)))) 0) ((((D 3 : Nat) : Int))) (SL ((w26_3)) ((u3_1)) ((y26_0_0)) ((w26_4)) ((w26_5)) ((w26_6)) ((w26_2)) ((w26_8)) ((w26_9)))) from hfi1) (show IMP ((z31) = 0) (SLB (((upd1 (w13) (0) (((D 3 : Nat) : Int)))) 0) ((((D 17 : Nat) : Int))) (SL ((w18)) ((u17_1)) ((u17_0)) ((w19)) ((w20)) ((w21)) ((w22)) ((w23)) ((w24)))) from hfi2) (show IMP ((z31) = 0) (ORB (((upd1 (w13) (0) (((D 3 : Nat) : Int)))) 0) ((((D 3 : Nat) : Int))) ((y26_0_0)) 9) from hfi3) (show IMP ((z31) = 0) (ORB (((upd1 (w13) (0) (((D 3 : Nat) : Int)))) 0) ((((D 17 : Nat) : Int))) ((u17_0)) 9) from hfi4) (show 0 = 0 ∨ ((upd1 (w13) (0) (((D 3 : Nat) : Int)))) 0 = ((w13)) 0 by first | exact q_3497 | omega) (show 0 = 1 ∨ ((upd1 (w13) (0) (((D 3 : Nat) : Int)))) 1 = ((w13)) 1 by omega) (show 0 = 2 ∨ ((upd1 (w13) (0) (((D 3 : Nat) : Int)))) 2 = ((w13)) 2 by omega))
      · refine Ew_of (pcₚ := 63) (fun _ => x_aload_n rfl rfl) ?_
        refine v_g H (o := 0) (v := I (u0_9)) rfl rfl rfl rfl rfl (congrArg (fun z : Int => I z) ((eu0_9) : F 0 9 = u0_9)) ?_
        refine Ew_of (pcₚ := 67) (fun _ => x_aload_n rfl rfl) ?_
        refine v_g H (o := 0) (v := I (u0_18)) rfl rfl rfl rfl rfl (congrArg (fun z : Int => I z) ((eu0_18) : F 0 18 = u0_18)) ?_
        refine w_icmplt (t := 84) rfl rfl (show inr (u0_9) from q_3585 h3) (show inr (u0_18) from q_22 r3) (fun b33 => ?_) (fun b33 => ?_)
        · refine Ew_of (pcₚ := 85) (fun _ => x_aload_n rfl rfl) ?_
          refine v_g H (o := 0) (v := .ref (D 1)) rfl rfl rfl rfl rfl (vrf (pf1)) ?_
          refine Ew_of (pcₚ := 89) (fun _ => x_aload_n rfl rfl) ?_
          refine Ew_of (pcₚ := 90) (fun _ => x_dup rfl rfl) ?_
          refine v_g H (o := 0) (v := I (u0_9)) rfl rfl rfl rfl rfl (congrArg (fun z : Int => I z) ((eu0_9) : F 0 9 = u0_9)) ?_
          refine Ew_of (pcₚ := 94) (fun _ => x_dup_x1 rfl rfl) ?_
          refine Ew_of (pcₚ := 95) (fun _ => x_iconst rfl) ?_
          refine w_iadd rfl ?_
          refine v_p H (o := 0) (z := (u0_9 + 1)) (v := I ((u0_9 + 1))) rfl rfl rfl rfl rfl rfl rfl rfl (show (-2147483648 : Int) ≤ (u0_9 + 1) ∧ (u0_9 + 1) ≤ 2147483647 from q_3799 h3) (fun σ H Oₚ => ?_)
          have O := OUT_trans O Oₚ
          have cFu34 : SF oz_I0aclsl_1 F (updF F 0 9 ((u0_9 + 1))) := SF_upd (SF_refl) rfl
          have mFu34 := SFm_of cFu34 oz_I0acls_5
          refine v_lB H (o := 1) rfl rfl rfl rfl (n := n1) (en1) (show 0 ≤ u0_9 ∧ u0_9 < n1 from q_3635 b33 h3 h4) (fun v35 ev35 qv35 => ?_)
          have ev35 : (A 1) (u0_9) = v35 := (congrFun (funext (mAu22 1 rfl)) (u0_9)).symm.trans ev35
          refine Ew_of (pcₚ := 103) (fun _ => x_sipush (z := 255) rfl (by decide)) ?_
          refine w_iand rfl (show inr (v35) from q_2536 qv35) (show inr (255) from q_36) (fun z36 gz36 gaz36 gbz36 => ?_)
          refine Ew_of (pcₚ := 106) (fun _ => x_istore rfl) ?_
          refine Ew_of (pcₚ := 108) (fun _ => x_iload rfl rk_s) ?_
          refine Ew_of (pcₚ := 111) (fun _ => x_getstatic rfl) ?_
          refine Ew_of (pcₚ := 112) (fun _ => x_iload_n rfl (rk_o (rfl) rfl rfl)) ?_
          refine v_stI (STC_out HT HE O) (b := 3) (n := 3) rfl rfl rfl rfl (show 0 ≤ 0 ∧ 0 < 3 from q_3495) (fun v37 ev37 qv37 => ?_)
          have hlv := ev37
          have hlw : ((v37) : Int) = 35 := by rw [← hlv]; rfl
          refine w_icmple (t := 124) rfl rfl (show inr (z36) from gz36) (show inr (v37) from qv37) (fun b38 => ?_) (fun b38 => ?_)
          · refine Ew_of (pcₚ := 125) (fun _ => x_aload_n rfl (rk_o (rfl) rfl rfl)) ?_
            refine v_g H (o := 0) (v := .ref (D 2)) rfl rfl rfl rfl rfl (vrf ((mFu34 0 2 rfl).trans (pf2))) ?_
            refine Ew_of (pcₚ := 129) (fun _ => x_iload_n rfl (rk_o (rfl) rfl rfl)) ?_
            refine v_lR H (o := 2) rfl rfl rfl rfl rfl (n := n2) (en2) (show 0 ≤ 0 ∧ 0 < n2 from q_3792 h7 r9) (z := ((D 3 : Nat) : Int)) (v := .ref (D 3)) ((mAu22 2 rfl 0).trans (pf3)) (vrf rfl) ?_
            refine Ew_of (pcₚ := 132) (fun _ => x_iload rfl rk_s) ?_
            refine v_inv H (o := 3) rfl rfl rfl rfl rfl rfl (by rfl) (C168 (D := puc 52038409393826314588675 D) (N := puc 52038409393826314588675 N) (HW_subc H oz_I0acls_3 oz_I0acls_8) ((mFu34 3 7 rfl).trans (pf9)) ((mFu34 3 2 rfl).trans (pf4)) ((mFu34 3 3 rfl).trans (pf5)) ((mFu34 3 4 rfl).trans (pf6)) ((mFu34 3 5 rfl).trans (pf7)) ((mFu34 3 6 rfl).trans (pf8)) ((mFu34 3 8 rfl).trans (pf10)) ((mFu34 3 9 rfl).trans (pf11)) (n9) (en9) (n4) (en4) (n5) (en5) (n6) (en6) (n7) (en7) (n8) (en8) (n10) (en10) (n11) (en11) (u3_0) ((eu3_0)) (u3_1) (((mFu34 3 1 rfl).trans (eu3_1))) (w9) (ew9) (w4) (ew4) (w5) (ew5) (w6) (ew6) (w7) (ew7) (w10) (ew10) (w11) (ew11) (show inr (z36) from gz36) (show (n9) ≥ 1 by omega) (show (n4) = (u3_1) ∧ (n5) = (u3_1) ∧ (n6) = (u3_1) ∧ (n7) = (u3_1) ∧ (n8) = (u3_1) ∧ (n10) = (n9) ∧ (n11) = (n9) ∧ 1 ≤ (u3_1) ∧ (u3_1) ≤ 64 by omega) (show 0 ≤ (z36) ∧ (z36) < ((u3_1)) by omega) (fun σ39 F39ₚ A39ₚ Hₚ Oₚ hS39 hA39 y39_0_0 (ey39_0_0 : HID _) w39_1 ew39_1 w39_2 ew39_2 w39_3 ew39_3 w39_4 ew39_4 w39_5 ew39_5 w39_7 ew39_7 w39_8 ew39_8 pz39_0 pz39_1 => ⟨rfl, ?_⟩))
            refine v_backc (c := c) (s := s) H oz_I0acls_3 oz_I0acls_8 Hₚ Oₚ (fun F39 A39 H Oₚ eF39 eA39 => ?_)
            have O := OUT_trans O Oₚ
            -- Share.becomeAlone
            have cF39 : SF oz_I0aclsl_1 F F39 := SF_trans (cFu34) (SF_gluc (ι := oz_I0aclsl_4) oz_I0acls_8 hS39 eF39 (by decide +kernel)) (any_sub (lₚ := [(3, 0)]) (by decide +kernel))
            have mF39 := SFm_of cF39 oz_I0acls_5
            have cA39 : SA oz_I0aclsl_0 A A39 := SA_trans (cAu22) (SA_gluc (ι := oz_I0aclsl_4) oz_I0acls_8 hA39 eA39 (by decide +kernel)) (any_subA (lₚ := [4, 5, 6, 7, 8, 9, 10, 11]) (by decide +kernel))
            have mA39 := SAm_of cA39 oz_I0acls_4
            have r40 : (-2147483648 : Int) ≤ y39_0_0 ∧ y39_0_0 ≤ 2147483647 := rngE (show (-2147483648 : Int) ≤ F39 3 0 ∧ F39 3 0 ≤ 2147483647 from H.krg 3 0 (ltn len_V249_c10_vd_oz_I0acls rfl)) (show F39 3 0 = y39_0_0 from ((eF39 3 0).trans ey39_0_0))
            have hown := pz39_0
            refine Ew_of (pcₚ := 190) (fun _ => x_goto rfl rfl) ?_
            refine Ew_of (pcₚ := 191) (fun _ => x_iconst rfl) ?_
            have hfi0 : IMP (((0) : Int) = 0) (TI3 (((upd1 (w13) (0) (((D 3 : Nat) : Int)))) 0) ((((D 25 : Nat) : Int))) ((((D 3 : Nat) : Int))) ((((D 17 : Nat) : Int)))) := by exact fun _ => .inr (by omega)
            have hfi1 : IMP (((0) : Int) = 0) (SLB (((upd1 (w13) (0) (((D 3 : Nat) : Int)))) 0) ((((D 3 : Nat) : Int))) (SL ((w39_2)) ((u3_1)) ((y39_0_0)) ((w39_3)) ((w39_4)) ((w39_5)) ((w39_1)) ((w39_7)) ((w39_8)))) := by exact fun _ => .inr hown
            have hfi2 : IMP (((0) : Int) = 0) (SLB (((upd1 (w13) (0) (((D 3 : Nat) : Int)))) 0) ((((D 17 : Nat) : Int))) (SL ((w18)) ((u17_1)) ((u17_0)) ((w19)) ((w20)) ((w21)) ((w22)) ((w23)) ((w24)))) := by exact fun _ => .inl (by omega)
            have hfi3 : IMP (((0) : Int) = 0) (ORB (((upd1 (w13) (0) (((D 3 : Nat) : Int)))) 0) ((((D 3 : Nat) : Int))) ((y39_0_0)) 9) := by exact fun _ => .inr (by omega)
            have hfi4 : IMP (((0) : Int) = 0) (ORB (((upd1 (w13) (0) (((D 3 : Nat) : Int)))) 0) ((((D 17 : Nat) : Int))) ((u17_0)) 9) := by exact fun _ => .inl (by omega)
            have hfn : (IMP (((0) : Int) = 0) (((upd1 (w13) (0) (((D 3 : Nat) : Int)))) 0 ≠ -1)) := by exact fun _ => (by omega)
            exact w_ireturn rfl (k (0) _ _ _ H O (cF39) (cA39) ((u0_9 + 1)) (((show F39 0 9 = (updF F 0 9 ((u0_9 + 1))) 0 9 from (eF39 0 9)))) (y39_0_0) (((eF39 3 0).trans ey39_0_0)) (w39_2) ((eA39 4).trans ew39_2) (w39_3) ((eA39 5).trans ew39_3) (w39_4) ((eA39 6).trans ew39_4) (w39_5) ((eA39 7).trans ew39_5) (w39_1) ((eA39 9).trans ew39_1) (w39_7) ((eA39 10).trans ew39_7) (w39_8) ((eA39 11).trans ew39_8) (upd1 (w13) (0) (((D 3 : Nat) : Int))) (((show A39 13 = (updA A 13 (0) (((D 3 : Nat) : Int))) 13 from (eA39 13))).trans (congrArg (fun q => upd1 q (0) (((D 3 : Nat) : Int))) (ew13))) (show inr (0) from h0) (show 0 ≤ (0) ∧ (0) ≤ 17 by first | exact q_3589 | omega) (show 0 ≤ ((u0_9 + 1)) ∧ (u0_9) ≤ ((u0_9 + 1)) ∧ ((u0_9 + 1)) ≤ (u0_8) from q_3800 b33 h3 h4) (show ((u0_9 + 1)) ≤ (u0_18) from q_1328 b33) (show (IMP ((0) = 0) (((upd1 (w13) (0) (((D 3 : Nat) : Int)))) 0 ≠ -1)) by assumption) (show IMP ((0) = 0) (TI3 (((upd1 (w13) (0) (((D 3 : Nat) : Int)))) 0) ((((D 25 : Nat) : Int))) ((((D 3 : Nat) : Int))) ((((D 17 : Nat) : Int)))) by assumption) (show IMP ((0) = 0) (SLB (((upd1 (w13) (0) (((D 3 : Nat) : Int)))) 0) ((((D 3 : Nat) : Int))) (SL ((w39_2)) ((u3_1)) ((y39_0_0)) ((w39_3)) ((w39_4)) ((w39_5)) ((w39_1)) ((w39_7)) ((w39_8)))) by assumption) (show IMP ((0) = 0) (SLB (((upd1 (w13) (0) (((D 3 : Nat) : Int)))) 0) ((((D 17 : Nat) : Int))) (SL ((w18)) ((u17_1)) ((u17_0)) ((w19)) ((w20)) ((w21)) ((w22)) ((w23)) ((w24)))) by assumption) (show IMP ((0) = 0) (ORB (((upd1 (w13) (0) (((D 3 : Nat) : Int)))) 0) ((((D 3 : Nat) : Int))) ((y39_0_0)) 9) by assumption) (show IMP ((0) = 0) (ORB (((upd1 (w13) (0) (((D 3 : Nat) : Int)))) 0) ((((D 17 : Nat) : Int))) ((u17_0)) 9) by assumption) (show 0 = 0 ∨ ((upd1 (w13) (0) (((D 3 : Nat) : Int)))) 0 = ((w13)) 0 by first | exact q_3497 | omega) (show 0 = 1 ∨ ((upd1 (w13) (0) (((D 3 : Nat) : Int)))) 1 = ((w13)) 1 by omega) (show 0 = 2 ∨ ((upd1 (w13) (0) (((D 3 : Nat) : Int)))) 2 = ((w13)) 2 by omega))
          · refine Ew_of (pcₚ := 117) (fun _ => x_aload_n rfl (rk_o (rfl) rfl rfl)) ?_
            refine Ew_of (pcₚ := 119) (fun _ => x_bipush (z := 16) rfl (by decide)) ?_
            refine Ew_of (pcₚ := 120) (fun _ => x_iload_n rfl (rk_o (rfl) rfl rfl)) ?_
            have r41 : (-2147483648 : Int) ≤ F 0 21 ∧ F 0 21 ≤ 2147483647 := H.krg 0 21 (ltn len_V249_c10_vd_oz_I0acls rfl)
            refine v_inv H (o := 0) rfl rfl rfl rfl rfl rfl (by rfl) (C232 (D := puc 0 D) (N := puc 0 N) (HW_subc H oz_I0acls_2 oz_I0acls_7) (F 0 21) (rfl) (show inr (16) from q_86) (show inr (a3) from h2) (fun z42 σ42 F42ₚ A42ₚ Hₚ Oₚ hS42 hA42 y42_0_21 (ey42_0_21 : HID _) pz42_0 pz42_1 pz42_2 => ⟨rfl, ?_⟩))
            refine v_backc (c := c) (s := s) H oz_I0acls_2 oz_I0acls_7 Hₚ Oₚ (fun F42 A42 H Oₚ eF42 eA42 => ?_)
            have O := OUT_trans O Oₚ
            -- Unpacker.fail
            have cF42 : SF oz_I0aclsl_1 F F42 := SF_trans (cFu34) (SF_gluc (ι := oz_I0aclsl_3) oz_I0acls_7 hS42 eF42 (by decide +kernel)) (any_sub (lₚ := [(0, 21)]) (by decide +kernel))
            have mF42 := SFm_of cF42 oz_I0acls_5
            have cA42 : SA oz_I0aclsl_0 A A42 := SA_trans (cAu22) (SA_gluc (ι := oz_I0aclsl_3) oz_I0acls_7 hA42 eA42 (by decide +kernel)) (any_subA (lₚ := []) (by decide +kernel))
            have mA42 := SAm_of cA42 oz_I0acls_4
            have r43 : (-2147483648 : Int) ≤ y42_0_21 ∧ y42_0_21 ≤ 2147483647 := rngE (show (-2147483648 : Int) ≤ F42 0 21 ∧ F42 0 21 ≤ 2147483647 from H.krg 0 21 (ltn len_V249_c10_vd_oz_I0acls rfl)) (show F42 0 21 = y42_0_21 from ((eF42 0 21).trans ey42_0_21))
            have hfi0 : IMP (((z42) : Int) = 0) (TI3 (((upd1 (w13) (0) (((D 3 : Nat) : Int)))) 0) ((((D 25 : Nat) : Int))) ((((D 3 : Nat) : Int))) ((((D 17 : Nat) : Int)))) := by exact fun q => absurd q (by omega)
            have hfi1 : IMP (((z42) : Int) = 0) (SLB (((upd1 (w13) (0) (((D 3 : Nat) : Int)))) 0) ((((D 3 : Nat) : Int))) (SL ((w4)) ((u3_1)) ((u3_0)) ((w5)) ((w6)) ((w7)) ((w9)) ((w10)) ((w11)))) := by exact fun q => absurd q (by omega)
            have hfi2 : IMP (((z42) : Int) = 0) (SLB (((upd1 (w13) (0) (((D 3 : Nat) : Int)))) 0) ((((D 17 : Nat) : Int))) (SL ((w18)) ((u17_1)) ((u17_0)) ((w19)) ((w20)) ((w21)) ((w22)) ((w23)) ((w24)))) := by exact fun q => absurd q (by omega)
            have hfi3 : IMP (((z42) : Int) = 0) (ORB (((upd1 (w13) (0) (((D 3 : Nat) : Int)))) 0) ((((D 3 : Nat) : Int))) ((u3_0)) 9) := by exact fun q => absurd q (by omega)
            have hfi4 : IMP (((z42) : Int) = 0) (ORB (((upd1 (w13) (0) (((D 3 : Nat) : Int)))) 0) ((((D 17 : Nat) : Int))) ((u17_0)) 9) := by exact fun q => absurd q (by omega)
            have hfn : (IMP (((z42) : Int) = 0) (((upd1 (w13) (0) (((D 3 : Nat) : Int)))) 0 ≠ -1)) := by exact fun q => absurd q (by omega)
            exact w_ireturn rfl (k (z42) _ _ _ H O (cF42) (cA42) ((u0_9 + 1)) (((show F42 0 9 = (updF F 0 9 ((u0_9 + 1))) 0 9 from (eF42 0 9).trans (hS42 0 9 rfl)))) (u3_0) ((((show F42 3 0 = (updF F 0 9 ((u0_9 + 1))) 3 0 from (eF42 3 0))).trans (eu3_0))) (w4) (((show A42 4 = (updA A 13 (0) (((D 3 : Nat) : Int))) 4 from (eA42 4))).trans (ew4)) (w5) (((show A42 5 = (updA A 13 (0) (((D 3 : Nat) : Int))) 5 from (eA42 5))).trans (ew5)) (w6) (((show A42 6 = (updA A 13 (0) (((D 3 : Nat) : Int))) 6 from (eA42 6))).trans (ew6)) (w7) (((show A42 7 = (updA A 13 (0) (((D 3 : Nat) : Int))) 7 from (eA42 7))).trans (ew7)) (w9) (((show A42 9 = (updA A 13 (0) (((D 3 : Nat) : Int))) 9 from (eA42 9))).trans (ew9)) (w10) (((show A42 10 = (updA A 13 (0) (((D 3 : Nat) : Int))) 10 from (eA42 10))).trans (ew10)) (w11) (((show A42 11 = (updA A 13 (0) (((D 3 : Nat) : Int))) 11 from (eA42 11))).trans (ew11)) (upd1 (w13) (0) (((D 3 : Nat) : Int))) (((show A42 13 = (updA A 13 (0) (((D 3 : Nat) : Int))) 13 from (eA42 13))).trans (congrArg (fun q => upd1 q (0) (((D 3 : Nat) : Int))) (ew13))) (show inr (z42) from pz42_0) (show 0 ≤ (z42) ∧ (z42) ≤ 17 from q_3798 pz42_1) (show 0 ≤ ((u0_9 + 1)) ∧ (u0_9) ≤ ((u0_9 + 1)) ∧ ((u0_9 + 1)) ≤ (u0_8) from q_3800 b33 h3 h4) (show ((u0_9 + 1)) ≤ (u0_18) from q_1328 b33) (show (IMP ((z42) = 0) (((upd1 (w13) (0) (((D 3 : Nat) : Int)))) 0 ≠ -1)) from hfn) (show IMP ((z42) = 0) (TI3 (((upd1 (w13) (0) (((D 3 : Nat) : Int)))) 0) ((((D 25 : Nat) : Int))) ((((D 3 : Nat) : Int))) ((((D 17 : Nat) : Int)))) from hfi0) (show IMP ((z42) = 0) (SLB (((upd1 (w13) (0) (((D 3 : Nat) : Int)))) 0) ((((D 3 : Nat) : Int))) (SL ((w4)) ((u3_1)) ((u3_0)) ((w5)) ((w6)) ((w7)) ((w9)) ((w10)) ((w11)))) from hfi1) (show IMP ((z42) = 0) (SLB (((upd1 (w13) (0) (((D 3 : Nat) : Int)))) 0) ((((D 17 : Nat) : Int))) (SL ((w18)) ((u17_1)) ((u17_0)) ((w19)) ((w20)) ((w21)) ((w22)) ((w23)) ((w24)))) from hfi2) (show IMP ((z42) = 0) (ORB (((upd1 (w13) (0) (((D 3 : Nat) : Int)))) 0) ((((D 3 : Nat) : Int))) ((u3_0)) 9) from hfi3) (show IMP ((z42) = 0) (ORB (((upd1 (w13) (0) (((D 3 : Nat) : Int)))) 0) ((((D 17 : Nat) : Int))) ((u17_0)) 9) from hfi4) (show 0 = 0 ∨ ((upd1 (w13) (0) (((D 3 : Nat) : Int)))) 0 = ((w13)) 0 by first | exact q_3497 | omega) (show 0 = 1 ∨ ((upd1 (w13) (0) (((D 3 : Nat) : Int)))) 1 = ((w13)) 1 by omega) (show 0 = 2 ∨ ((upd1 (w13) (0) (((D 3 : Nat) : Int)))) 2 = ((w13)) 2 by omega))
        · refine Ew_of (pcₚ := 74) (fun _ => x_aload_n rfl rfl) ?_
          refine Ew_of (pcₚ := 76) (fun _ => x_bipush (z := 10) rfl (by decide)) ?_
          refine Ew_of (pcₚ := 77) (fun _ => x_aload_n rfl rfl) ?_
          refine v_g H (o := 0) (v := I (u0_18)) rfl rfl rfl rfl rfl (congrArg (fun z : Int => I z) ((eu0_18) : F 0 18 = u0_18)) ?_
          have r44 : (-2147483648 : Int) ≤ F 0 21 ∧ F 0 21 ≤ 2147483647 := H.krg 0 21 (ltn len_V249_c10_vd_oz_I0acls rfl)
          refine v_inv H (o := 0) rfl rfl rfl rfl rfl rfl (by rfl) (C232 (D := puc 0 D) (N := puc 0 N) (HW_subc H oz_I0acls_2 oz_I0acls_7) (F 0 21) (rfl) (show inr (10) from q_532) (show inr (u0_18) from q_22 r3) (fun z45 σ45 F45ₚ A45ₚ Hₚ Oₚ hS45 hA45 y45_0_21 (ey45_0_21 : HID _) pz45_0 pz45_1 pz45_2 => ⟨rfl, ?_⟩))
          refine v_backc (c := c) (s := s) H oz_I0acls_2 oz_I0acls_7 Hₚ Oₚ (fun F45 A45 H Oₚ eF45 eA45 => ?_)
          have O := OUT_trans O Oₚ
          -- Unpacker.fail
          have cF45 : SF oz_I0aclsl_1 F F45 := SF_trans (SF_refl) (SF_gluc (ι := oz_I0aclsl_3) oz_I0acls_7 hS45 eF45 (by decide +kernel)) (any_sub (lₚ := [(0, 21)]) (by decide +kernel))
          have mF45 := SFm_of cF45 oz_I0acls_5
          have cA45 : SA oz_I0aclsl_0 A A45 := SA_trans (cAu22) (SA_gluc (ι := oz_I0aclsl_3) oz_I0acls_7 hA45 eA45 (by decide +kernel)) (any_subA (lₚ := []) (by decide +kernel))
          have mA45 := SAm_of cA45 oz_I0acls_4
          have r46 : (-2147483648 : Int) ≤ y45_0_21 ∧ y45_0_21 ≤ 2147483647 := rngE (show (-2147483648 : Int) ≤ F45 0 21 ∧ F45 0 21 ≤ 2147483647 from H.krg 0 21 (ltn len_V249_c10_vd_oz_I0acls rfl)) (show F45 0 21 = y45_0_21 from ((eF45 0 21).trans ey45_0_21))
          have hfi0 : IMP (((z45) : Int) = 0) (TI3 (((upd1 (w13) (0) (((D 3 : Nat) : Int)))) 0) ((((D 25 : Nat) : Int))) ((((D 3 : Nat) : Int))) ((((D 17 : Nat) : Int)))) := by exact fun q => absurd q (by omega)
          have hfi1 : IMP (((z45) : Int) = 0) (SLB (((upd1 (w13) (0) (((D 3 : Nat) : Int)))) 0) ((((D 3 : Nat) : Int))) (SL ((w4)) ((u3_1)) ((u3_0)) ((w5)) ((w6)) ((w7)) ((w9)) ((w10)) ((w11)))) := by exact fun q => absurd q (by omega)
          have hfi2 : IMP (((z45) : Int) = 0) (SLB (((upd1 (w13) (0) (((D 3 : Nat) : Int)))) 0) ((((D 17 : Nat) : Int))) (SL ((w18)) ((u17_1)) ((u17_0)) ((w19)) ((w20)) ((w21)) ((w22)) ((w23)) ((w24)))) := by exact fun q => absurd q (by omega)
          have hfi3 : IMP (((z45) : Int) = 0) (ORB (((upd1 (w13) (0) (((D 3 : Nat) : Int)))) 0) ((((D 3 : Nat) : Int))) ((u3_0)) 9) := by exact fun q => absurd q (by omega)
          have hfi4 : IMP (((z45) : Int) = 0) (ORB (((upd1 (w13) (0) (((D 3 : Nat) : Int)))) 0) ((((D 17 : Nat) : Int))) ((u17_0)) 9) := by exact fun q => absurd q (by omega)
          have hfn : (IMP (((z45) : Int) = 0) (((upd1 (w13) (0) (((D 3 : Nat) : Int)))) 0 ≠ -1)) := by exact fun q => absurd q (by omega)
          exact w_ireturn rfl (k (z45) _ _ _ H O (cF45) (cA45) (u0_9) ((((show F45 0 9 = F 0 9 from (eF45 0 9).trans (hS45 0 9 rfl))).trans (eu0_9))) (u3_0) ((((show F45 3 0 = F 3 0 from (eF45 3 0))).trans (eu3_0))) (w4) (((show A45 4 = (updA A 13 (0) (((D 3 : Nat) : Int))) 4 from (eA45 4))).trans (ew4)) (w5) (((show A45 5 = (updA A 13 (0) (((D 3 : Nat) : Int))) 5 from (eA45 5))).trans (ew5)) (w6) (((show A45 6 = (updA A 13 (0) (((D 3 : Nat) : Int))) 6 from (eA45 6))).trans (ew6)) (w7) (((show A45 7 = (updA A 13 (0) (((D 3 : Nat) : Int))) 7 from (eA45 7))).trans (ew7)) (w9) (((show A45 9 = (updA A 13 (0) (((D 3 : Nat) : Int))) 9 from (eA45 9))).trans (ew9)) (w10) (((show A45 10 = (updA A 13 (0) (((D 3 : Nat) : Int))) 10 from (eA45 10))).trans (ew10)) (w11) (((show A45 11 = (updA A 13 (0) (((D 3 : Nat) : Int))) 11 from (eA45 11))).trans (ew11)) (upd1 (w13) (0) (((D 3 : Nat) : Int))) (((show A45 13 = (updA A 13 (0) (((D 3 : Nat) : Int))) 13 from (eA45 13))).trans (congrArg (fun q => upd1 q (0) (((D 3 : Nat) : Int))) (ew13))) (show inr (z45) from pz45_0) (show 0 ≤ (z45) ∧ (z45) ≤ 17 from q_3651 pz45_1) (show 0 ≤ (u0_9) ∧ (u0_9) ≤ (u0_9) ∧ (u0_9) ≤ (u0_8) from q_3590 h3) (show (u0_9) ≤ (u0_18) from q_1468 h4) (show (IMP ((z45) = 0) (((upd1 (w13) (0) (((D 3 : Nat) : Int)))) 0 ≠ -1)) from hfn) (show IMP ((z45) = 0) (TI3 (((upd1 (w13) (0) (((D 3 : Nat) : Int)))) 0) ((((D 25 : Nat) : Int))) ((((D 3 : Nat) : Int))) ((((D 17 : Nat) : Int)))) from hfi0) (show IMP ((z45) = 0) (SLB (((upd1 (w13) (0) (((D 3 : Nat) : Int)))) 0) ((((D 3 : Nat) : Int))) (SL ((w4)) ((u3_1)) ((u3_0)) ((w5)) ((w6)) ((w7)) ((w9)) ((w10)) ((w11)))) from hfi1) (show IMP ((z45) = 0) (SLB (((upd1 (w13) (0) (((D 3 : Nat) : Int)))) 0) ((((D 17 : Nat) : Int))) (SL ((w18)) ((u17_1)) ((u17_0)) ((w19)) ((w20)) ((w21)) ((w22)) ((w23)) ((w24)))) from hfi2) (show IMP ((z45) = 0) (ORB (((upd1 (w13) (0) (((D 3 : Nat) : Int)))) 0) ((((D 3 : Nat) : Int))) ((u3_0)) 9) from hfi3) (show IMP ((z45) = 0) (ORB (((upd1 (w13) (0) (((D 3 : Nat) : Int)))) 0) ((((D 17 : Nat) : Int))) ((u17_0)) 9) from hfi4) (show 0 = 0 ∨ ((upd1 (w13) (0) (((D 3 : Nat) : Int)))) 0 = ((w13)) 0 by first | exact q_3497 | omega) (show 0 = 1 ∨ ((upd1 (w13) (0) (((D 3 : Nat) : Int)))) 1 = ((w13)) 1 by omega) (show 0 = 2 ∨ ((upd1 (w13) (0) (((D 3 : Nat) : Int)))) 2 = ((w13)) 2 by omega))
    · refine Ew_of (pcₚ := 42) (fun _ => x_aload_n rfl rfl) ?_
      refine v_g H (o := 0) (v := .ref (D 14)) rfl rfl rfl rfl rfl (vrf (pf14)) ?_
      refine Ew_of (pcₚ := 46) (fun _ => x_iload_n rfl rfl) ?_
      refine v_lR H (o := 14) rfl rfl rfl rfl rfl (n := n14) (en14) (show 0 ≤ 0 ∧ 0 < n14 from q_3801 h7 r19) (z := ((D 25 : Nat) : Int)) (v := .ref (D 25)) (pf25) (vrf rfl) ?_
      have hs_ := upd1_s (a := ((w13))) (j := 0) (z := (((D 25 : Nat) : Int)))
      have hu0_ : (0 : Int) = 0 ∨ upd1 ((w13)) 0 ((((D 25 : Nat) : Int))) 0 = ((w13)) 0 := by by_cases w : (0 : Int) = 0; exact .inl (by omega); exact .inr (upd1_o w)
      have hu1_ : (0 : Int) = 1 ∨ upd1 ((w13)) 0 ((((D 25 : Nat) : Int))) 1 = ((w13)) 1 := by by_cases w : (1 : Int) = 0; exact .inl (by omega); exact .inr (upd1_o w)
      have hu2_ : (0 : Int) = 2 ∨ upd1 ((w13)) 0 ((((D 25 : Nat) : Int))) 2 = ((w13)) 2 := by by_cases w : (2 : Int) = 0; exact .inl (by omega); exact .inr (upd1_o w)
      refine Ew_of (pcₚ := 56) (fun _ => x_goto rfl rfl) ?_
      refine v_sR H (o := 13) (z := ((D 25 : Nat) : Int)) (v := .ref (D 25)) rfl rfl rfl rfl rfl (n := n13) (en13) (show 0 ≤ 0 ∧ 0 < n13 from q_3793 h7 r18) (show (-1 : Int) ≤ ((D 25 : Nat) : Int) by omega) (vrf rfl) (rkinR H (x := 25) rfl rfl rfl) (fun σ H Oₚ => ?_)
      have O := OUT_trans O Oₚ
      have cAu47 : SA oz_I0aclsl_0 A (updA A 13 (0) (((D 25 : Nat) : Int))) := SA_upd (SA_refl) rfl
      have mAu47 := SAm_of cAu47 oz_I0acls_4
      refine Ew_of (pcₚ := 58) (fun _ => x_iload_n rfl rfl) ?_
      refine Ew_of (pcₚ := 59) (fun _ => x_iconst rfl) ?_
      refine w_icmpne (t := 138) rfl rfl (show inr (a2) from h1) (show inr (1) from q_23) (fun b48 => ?_) (fun b48 => ?_)
      · refine Ew_of (pcₚ := 139) (fun _ => x_iload_n rfl rfl) ?_
        refine Ew_of (pcₚ := 140) (fun _ => x_iconst rfl) ?_
        refine w_icmpne (t := 190) rfl rfl (show inr (a2) from h1) (show inr (2) from q_55) (fun b49 => ?_) (fun b49 => ?_)
        · refine Ew_of (pcₚ := 191) (fun _ => x_iconst rfl) ?_
          have hfi0 : IMP (((0) : Int) = 0) (TI3 (((upd1 (w13) (0) (((D 25 : Nat) : Int)))) 0) ((((D 25 : Nat) : Int))) ((((D 3 : Nat) : Int))) ((((D 17 : Nat) : Int)))) := by exact fun _ => .inr (by omega)
          have hfi1 : IMP (((0) : Int) = 0) (SLB (((upd1 (w13) (0) (((D 25 : Nat) : Int)))) 0) ((((D 3 : Nat) : Int))) (SL ((w4)) ((u3_1)) ((u3_0)) ((w5)) ((w6)) ((w7)) ((w9)) ((w10)) ((w11)))) := by exact fun _ => .inl (by omega)
          have hfi2 : IMP (((0) : Int) = 0) (SLB (((upd1 (w13) (0) (((D 25 : Nat) : Int)))) 0) ((((D 17 : Nat) : Int))) (SL ((w18)) ((u17_1)) ((u17_0)) ((w19)) ((w20)) ((w21)) ((w22)) ((w23)) ((w24)))) := by exact fun _ => .inl (by omega)
          have hfi3 : IMP (((0) : Int) = 0) (ORB (((upd1 (w13) (0) (((D 25 : Nat) : Int)))) 0) ((((D 3 : Nat) : Int))) ((u3_0)) 9) := by exact fun _ => .inl (by omega)
          have hfi4 : IMP (((0) : Int) = 0) (ORB (((upd1 (w13) (0) (((D 25 : Nat) : Int)))) 0) ((((D 17 : Nat) : Int))) ((u17_0)) 9) := by exact fun _ => .inl (by omega)
          have hfn : (IMP (((0) : Int) = 0) (((upd1 (w13) (0) (((D 25 : Nat) : Int)))) 0 ≠ -1)) := by exact fun _ => (by omega)
          exact w_ireturn rfl (k (0) _ _ _ H O (SF_refl) (cAu47) (u0_9) ((eu0_9)) (u3_0) ((eu3_0)) (w4) (ew4) (w5) (ew5) (w6) (ew6) (w7) (ew7) (w9) (ew9) (w10) (ew10) (w11) (ew11) (upd1 (w13) (0) (((D 25 : Nat) : Int))) (congrArg (fun q => upd1 q (0) (((D 25 : Nat) : Int))) (ew13)) (show inr (0) from h0) (show 0 ≤ (0) ∧ (0) ≤ 17 by first | exact q_3589 | omega) (show 0 ≤ (u0_9) ∧ (u0_9) ≤ (u0_9) ∧ (u0_9) ≤ (u0_8) from q_3590 h3) (show (u0_9) ≤ (u0_18) from q_1468 h4) (show (IMP ((0) = 0) (((upd1 (w13) (0) (((D 25 : Nat) : Int)))) 0 ≠ -1)) by assumption) (show IMP ((0) = 0) (TI3 (((upd1 (w13) (0) (((D 25 : Nat) : Int)))) 0) ((((D 25 : Nat) : Int))) ((((D 3 : Nat) : Int))) ((((D 17 : Nat) : Int)))) by assumption) (show IMP ((0) = 0) (SLB (((upd1 (w13) (0) (((D 25 : Nat) : Int)))) 0) ((((D 3 : Nat) : Int))) (SL ((w4)) ((u3_1)) ((u3_0)) ((w5)) ((w6)) ((w7)) ((w9)) ((w10)) ((w11)))) by assumption) (show IMP ((0) = 0) (SLB (((upd1 (w13) (0) (((D 25 : Nat) : Int)))) 0) ((((D 17 : Nat) : Int))) (SL ((w18)) ((u17_1)) ((u17_0)) ((w19)) ((w20)) ((w21)) ((w22)) ((w23)) ((w24)))) by assumption) (show IMP ((0) = 0) (ORB (((upd1 (w13) (0) (((D 25 : Nat) : Int)))) 0) ((((D 3 : Nat) : Int))) ((u3_0)) 9) by assumption) (show IMP ((0) = 0) (ORB (((upd1 (w13) (0) (((D 25 : Nat) : Int)))) 0) ((((D 17 : Nat) : Int))) ((u17_0)) 9) by assumption) (show 0 = 0 ∨ ((upd1 (w13) (0) (((D 25 : Nat) : Int)))) 0 = ((w13)) 0 by first | exact q_3497 | omega) (show 0 = 1 ∨ ((upd1 (w13) (0) (((D 25 : Nat) : Int)))) 1 = ((w13)) 1 by omega) (show 0 = 2 ∨ ((upd1 (w13) (0) (((D 25 : Nat) : Int)))) 2 = ((w13)) 2 by omega))
        · refine Ew_of (pcₚ := 144) (fun _ => x_aload_n rfl rfl) ?_
          refine v_g H (o := 0) (v := .ref (D 2)) rfl rfl rfl rfl rfl (vrf (pf2)) ?_
          refine Ew_of (pcₚ := 148) (fun _ => x_iload_n rfl rfl) ?_
          refine v_lR H (o := 2) rfl rfl rfl rfl rfl (n := n2) (en2) (show 0 ≤ 0 ∧ 0 < n2 from q_3792 h7 r9) (z := ((D 3 : Nat) : Int)) (v := .ref (D 3)) ((mAu47 2 rfl 0).trans (pf3)) (vrf rfl) ?_
          refine Ew_of (pcₚ := 150) (fun _ => x_aload_n rfl rfl) ?_
          refine v_g H (o := 0) (v := .ref (D 1)) rfl rfl rfl rfl rfl (vrf (pf1)) ?_
          refine Ew_of (pcₚ := 154) (fun _ => x_aload_n rfl rfl) ?_
          refine v_g H (o := 0) (v := I (u0_9)) rfl rfl rfl rfl rfl (congrArg (fun z : Int => I z) ((eu0_9) : F 0 9 = u0_9)) ?_
          refine Ew_of (pcₚ := 158) (fun _ => x_aload_n rfl rfl) ?_
          refine v_g H (o := 0) (v := I (u0_18)) rfl rfl rfl rfl rfl (congrArg (fun z : Int => I z) ((eu0_18) : F 0 18 = u0_18)) ?_
          refine Ew_of (pcₚ := 164) (fun _ => x_getstatic rfl) ?_
          refine Ew_of (pcₚ := 165) (fun _ => x_iload_n rfl rfl) ?_
          refine v_stI (STC_out HT HE O) (b := 2) (n := 3) rfl rfl rfl rfl (show 0 ≤ 0 ∧ 0 < 3 from q_3495) (fun v50 ev50 qv50 => ?_)
          have hgo := ev50
          have hgv : ((v50) : Int) = 9 := by rw [← hgo]; rfl
          have hpg : p2 ((v50)) = 512 := by rw [hgv]; decide
          refine v_inv H (o := 3) rfl rfl rfl rfl rfl rfl (by rfl) (C184_Br (D := puc 26643665609639073069400579 D) (N := puc 26643665609639073069400579 N) (HW_subc H oz_I0acls_1 oz_I0acls_6) (pf9) (pf4) (pf5) (pf6) (pf7) (pf8) (pf10) (pf11) (n1) (en1) (n9) (en9) (n4) (en4) (n5) (en5) (n6) (en6) (n7) (en7) (n8) (en8) (n10) (en10) (n11) (en11) (u3_0) ((eu3_0)) (u3_1) ((eu3_1)) (w9) (ew9) (w4) (ew4) (w5) (ew5) (w6) (ew6) (w7) (ew7) (w10) (ew10) (w11) (ew11) (show inr (u0_9) from q_3585 h3) (show inr (u0_18) from q_22 r3) (show inr (v50) from qv50) (show 0 ≤ (u0_9) ∧ (u0_9) ≤ (u0_18) ∧ (u0_18) ≤ (n1) ∧ (n1) ≤ 65536 from q_3794 h3 h4) (show 5 ≤ (v50) ∧ (v50) ≤ 9 ∧ p2 (v50) ≤ (n9) by omega) (show (n4) = (u3_1) ∧ (n5) = (u3_1) ∧ (n6) = (u3_1) ∧ (n7) = (u3_1) ∧ (n8) = (u3_1) ∧ (n10) = (n9) ∧ (n11) = (n9) ∧ 1 ≤ (u3_1) ∧ (u3_1) ≤ 64 by omega) (fun z51 σ51 F51ₚ A51ₚ Hₚ Oₚ hS51 hA51 y51_0_0 (ey51_0_0 : HID _) w51_2 ew51_2 w51_3 ew51_3 w51_4 ew51_4 w51_5 ew51_5 w51_6 ew51_6 w51_8 ew51_8 w51_9 ew51_9 (pq51_0 : HID _) pz51_0 pz51_1 pz51_2 pz51_3 => ⟨rfl, ?_⟩))
          refine v_backc (c := c) (s := s) H oz_I0acls_1 oz_I0acls_6 Hₚ Oₚ (fun F51 A51 H Oₚ eF51 eA51 => ?_)
          have O := OUT_trans O Oₚ
          -- Share.hear
          have cF51 : SF oz_I0aclsl_1 F F51 := SF_trans (SF_refl) (SF_gluc (ι := oz_I0aclsl_2) oz_I0acls_6 hS51 eF51 (by decide +kernel)) (any_sub (lₚ := [(3, 0), (3, 10), (3, 11), (3, 12)]) (by decide +kernel))
          have mF51 := SFm_of cF51 oz_I0acls_5
          have cA51 : SA oz_I0aclsl_0 A A51 := SA_trans (cAu47) (SA_gluc (ι := oz_I0aclsl_2) oz_I0acls_6 hA51 eA51 (by decide +kernel)) (any_subA (lₚ := [4, 5, 6, 7, 8, 9, 10, 11]) (by decide +kernel))
          have mA51 := SAm_of cA51 oz_I0acls_4
          have pl51_0 : HID (F51 3 10 = (D 1 : Int)) := (eF51 3 10).trans (pq51_0)
          have r52 : (-2147483648 : Int) ≤ y51_0_0 ∧ y51_0_0 ≤ 2147483647 := rngE (show (-2147483648 : Int) ≤ F51 3 0 ∧ F51 3 0 ≤ 2147483647 from H.krg 3 0 (ltn len_V249_c10_vd_oz_I0acls rfl)) (show F51 3 0 = y51_0_0 from ((eF51 3 0).trans ey51_0_0))
          refine Ew_of (pcₚ := 171) (fun _ => x_istore rfl) ?_
          refine Ew_of (pcₚ := 173) (fun _ => x_iload rfl rk_s) ?_
          refine w_ifge (t := 184) rfl rfl (show inr (z51) from pz51_0) (fun b53 => ?_) (fun b53 => ?_)
          · have hown := Or.resolve_left pz51_3 (by omega)
            have hord : (y51_0_0) ≤ 9 := q_3795 b53 hgv pz51_2 r52
            refine Ew_of (pcₚ := 185) (fun _ => x_aload_n rfl (rk_o (rfl) rfl rfl)) ?_
            refine Ew_of (pcₚ := 187) (fun _ => x_iload rfl rk_s) ?_
            refine v_p H (o := 0) (z := z51) (v := I (z51)) rfl rfl rfl rfl rfl rfl rfl rfl (show (-2147483648 : Int) ≤ z51 ∧ z51 ≤ 2147483647 from q_3761 b53 pz51_0) (fun σ H Oₚ => ?_)
            have O := OUT_trans O Oₚ
            have cFu54 : SF oz_I0aclsl_1 F (updF F51 0 9 (z51)) := SF_upd (cF51) rfl
            have mFu54 := SFm_of cFu54 oz_I0acls_5
            refine Ew_of (pcₚ := 191) (fun _ => x_iconst rfl) ?_
            have hfi0 : IMP (((0) : Int) = 0) (TI3 (((upd1 (w13) (0) (((D 25 : Nat) : Int)))) 0) ((((D 25 : Nat) : Int))) ((((D 3 : Nat) : Int))) ((((D 17 : Nat) : Int)))) := by exact fun q => absurd q (by omega)
            have hfi1 : IMP (((0) : Int) = 0) (SLB (((upd1 (w13) (0) (((D 25 : Nat) : Int)))) 0) ((((D 3 : Nat) : Int))) (SL ((w51_3)) ((u3_1)) ((y51_0_0)) ((w51_4)) ((w51_5)) ((w51_6)) ((w51_2)) ((w51_8)) ((w51_9)))) := by exact fun q => absurd q (by omega)
            have hfi2 : IMP (((0) : Int) = 0) (SLB (((upd1 (w13) (0) (((D 25 : Nat) : Int)))) 0) ((((D 17 : Nat) : Int))) (SL ((w18)) ((u17_1)) ((u17_0)) ((w19)) ((w20)) ((w21)) ((w22)) ((w23)) ((w24)))) := by exact fun q => absurd q (by omega)
            have hfi3 : IMP (((0) : Int) = 0) (ORB (((upd1 (w13) (0) (((D 25 : Nat) : Int)))) 0) ((((D 3 : Nat) : Int))) ((y51_0_0)) 9) := by exact fun q => absurd q (by omega)
            have hfi4 : IMP (((0) : Int) = 0) (ORB (((upd1 (w13) (0) (((D 25 : Nat) : Int)))) 0) ((((D 17 : Nat) : Int))) ((u17_0)) 9) := by exact fun q => absurd q (by omega)
            have hfn : (IMP (((0) : Int) = 0) (((upd1 (w13) (0) (((D 25 : Nat) : Int)))) 0 ≠ -1)) := by exact fun q => absurd q (by omega)
            exact w_ireturn rfl (k (0) _ _ _ H O (cFu54) (cA51) (z51) (rfl) (y51_0_0) (((eF51 3 0).trans ey51_0_0)) (w51_3) ((eA51 4).trans ew51_3) (w51_4) ((eA51 5).trans ew51_4) (w51_5) ((eA51 6).trans ew51_5) (w51_6) ((eA51 7).trans ew51_6) (w51_2) ((eA51 9).trans ew51_2) (w51_8) ((eA51 10).trans ew51_8) (w51_9) ((eA51 11).trans ew51_9) (upd1 (w13) (0) (((D 25 : Nat) : Int))) (((show A51 13 = (updA A 13 (0) (((D 25 : Nat) : Int))) 13 from (eA51 13))).trans (congrArg (fun q => upd1 q (0) (((D 25 : Nat) : Int))) (ew13))) (show inr (0) from h0) (show 0 ≤ (0) ∧ (0) ≤ 17 by first | exact q_3589 | omega) (show 0 ≤ (z51) ∧ (u0_9) ≤ (z51) ∧ (z51) ≤ (u0_8) from q_3797 b53 h3 h4 pz51_1 pz51_3) (show (z51) ≤ (u0_18) from q_3796 b53 pz51_1 pz51_3 r3) (show (IMP ((0) = 0) (((upd1 (w13) (0) (((D 25 : Nat) : Int)))) 0 ≠ -1)) by assumption) (show IMP ((0) = 0) (TI3 (((upd1 (w13) (0) (((D 25 : Nat) : Int)))) 0) ((((D 25 : Nat) : Int))) ((((D 3 : Nat) : Int))) ((((D 17 : Nat) : Int)))) by assumption) (show IMP ((0) = 0) (SLB (((upd1 (w13) (0) (((D 25 : Nat) : Int)))) 0) ((((D 3 : Nat) : Int))) (SL ((w51_3)) ((u3_1)) ((y51_0_0)) ((w51_4)) ((w51_5)) ((w51_6)) ((w51_2)) ((w51_8)) ((w51_9)))) by assumption) (show IMP ((0) = 0) (SLB (((upd1 (w13) (0) (((D 25 : Nat) : Int)))) 0) ((((D 17 : Nat) : Int))) (SL ((w18)) ((u17_1)) ((u17_0)) ((w19)) ((w20)) ((w21)) ((w22)) ((w23)) ((w24)))) by assumption) (show IMP ((0) = 0) (ORB (((upd1 (w13) (0) (((D 25 : Nat) : Int)))) 0) ((((D 3 : Nat) : Int))) ((y51_0_0)) 9) by assumption) (show IMP ((0) = 0) (ORB (((upd1 (w13) (0) (((D 25 : Nat) : Int)))) 0) ((((D 17 : Nat) : Int))) ((u17_0)) 9) by assumption) (show 0 = 0 ∨ ((upd1 (w13) (0) (((D 25 : Nat) : Int)))) 0 = ((w13)) 0 by first | exact q_3497 | omega) (show 0 = 1 ∨ ((upd1 (w13) (0) (((D 25 : Nat) : Int)))) 1 = ((w13)) 1 by omega) (show 0 = 2 ∨ ((upd1 (w13) (0) (((D 25 : Nat) : Int)))) 2 = ((w13)) 2 by omega))
          · refine Ew_of (pcₚ := 177) (fun _ => x_aload_n rfl (rk_o (rfl) rfl rfl)) ?_
            refine Ew_of (pcₚ := 179) (fun _ => x_bipush (z := 16) rfl (by decide)) ?_
            refine Ew_of (pcₚ := 180) (fun _ => x_iload_n rfl (rk_o (rfl) rfl rfl)) ?_
            have r55 : (-2147483648 : Int) ≤ F 0 21 ∧ F 0 21 ≤ 2147483647 := rngE (show (-2147483648 : Int) ≤ F51 0 21 ∧ F51 0 21 ≤ 2147483647 from H.krg 0 21 (ltn len_V249_c10_vd_oz_I0acls rfl)) (show F51 0 21 = F 0 21 from ((show F51 0 21 = F 0 21 from (eF51 0 21))))
            refine v_inv H (o := 0) rfl rfl rfl rfl rfl rfl (by rfl) (C232 (D := puc 0 D) (N := puc 0 N) (HW_subc H oz_I0acls_2 oz_I0acls_7) (F 0 21) (((show F51 0 21 = F 0 21 from (eF51 0 21)))) (show inr (16) from q_86) (show inr (a3) from h2) (fun z56 σ56 F56ₚ A56ₚ Hₚ Oₚ hS56 hA56 y56_0_21 (ey56_0_21 : HID _) pz56_0 pz56_1 pz56_2 => ⟨rfl, ?_⟩))
            refine v_backc (c := c) (s := s) H oz_I0acls_2 oz_I0acls_7 Hₚ Oₚ (fun F56 A56 H Oₚ eF56 eA56 => ?_)
            have O := OUT_trans O Oₚ
            -- Unpacker.fail
            have cF56 : SF oz_I0aclsl_1 F F56 := SF_trans (cF51) (SF_gluc (ι := oz_I0aclsl_3) oz_I0acls_7 hS56 eF56 (by decide +kernel)) (any_sub (lₚ := [(0, 21)]) (by decide +kernel))
            have mF56 := SFm_of cF56 oz_I0acls_5
            have cA56 : SA oz_I0aclsl_0 A A56 := SA_trans (cA51) (SA_gluc (ι := oz_I0aclsl_3) oz_I0acls_7 hA56 eA56 (by decide +kernel)) (any_subA (lₚ := []) (by decide +kernel))
            have mA56 := SAm_of cA56 oz_I0acls_4
            have r57 : (-2147483648 : Int) ≤ y56_0_21 ∧ y56_0_21 ≤ 2147483647 := rngE (show (-2147483648 : Int) ≤ F56 0 21 ∧ F56 0 21 ≤ 2147483647 from H.krg 0 21 (ltn len_V249_c10_vd_oz_I0acls rfl)) (show F56 0 21 = y56_0_21 from ((eF56 0 21).trans ey56_0_21))
            have hfi0 : IMP (((z56) : Int) = 0) (TI3 (((upd1 (w13) (0) (((D 25 : Nat) : Int)))) 0) ((((D 25 : Nat) : Int))) ((((D 3 : Nat) : Int))) ((((D 17 : Nat) : Int)))) := by exact fun q => absurd q (by omega)
            have hfi1 : IMP (((z56) : Int) = 0) (SLB (((upd1 (w13) (0) (((D 25 : Nat) : Int)))) 0) ((((D 3 : Nat) : Int))) (SL ((w51_3)) ((u3_1)) ((y51_0_0)) ((w51_4)) ((w51_5)) ((w51_6)) ((w51_2)) ((w51_8)) ((w51_9)))) := by exact fun q => absurd q (by omega)
            have hfi2 : IMP (((z56) : Int) = 0) (SLB (((upd1 (w13) (0) (((D 25 : Nat) : Int)))) 0) ((((D 17 : Nat) : Int))) (SL ((w18)) ((u17_1)) ((u17_0)) ((w19)) ((w20)) ((w21)) ((w22)) ((w23)) ((w24)))) := by exact fun q => absurd q (by omega)
            have hfi3 : IMP (((z56) : Int) = 0) (ORB (((upd1 (w13) (0) (((D 25 : Nat) : Int)))) 0) ((((D 3 : Nat) : Int))) ((y51_0_0)) 9) := by exact fun q => absurd q (by omega)
            have hfi4 : IMP (((z56) : Int) = 0) (ORB (((upd1 (w13) (0) (((D 25 : Nat) : Int)))) 0) ((((D 17 : Nat) : Int))) ((u17_0)) 9) := by exact fun q => absurd q (by omega)
            have hfn : (IMP (((z56) : Int) = 0) (((upd1 (w13) (0) (((D 25 : Nat) : Int)))) 0 ≠ -1)) := by exact fun q => absurd q (by omega)
            exact w_ireturn rfl (k (z56) _ _ _ H O (cF56) (cA56) (u0_9) (((((show F56 0 9 = F51 0 9 from (eF56 0 9).trans (hS56 0 9 rfl))).trans ((show F51 0 9 = F 0 9 from (eF51 0 9)))).trans (eu0_9))) (y51_0_0) ((((show F56 3 0 = F51 3 0 from (eF56 3 0))).trans ((eF51 3 0).trans ey51_0_0))) (w51_3) (((show A56 4 = A51 4 from (eA56 4))).trans ((eA51 4).trans ew51_3)) (w51_4) (((show A56 5 = A51 5 from (eA56 5))).trans ((eA51 5).trans ew51_4)) (w51_5) (((show A56 6 = A51 6 from (eA56 6))).trans ((eA51 6).trans ew51_5)) (w51_6) (((show A56 7 = A51 7 from (eA56 7))).trans ((eA51 7).trans ew51_6)) (w51_2) (((show A56 9 = A51 9 from (eA56 9))).trans ((eA51 9).trans ew51_2)) (w51_8) (((show A56 10 = A51 10 from (eA56 10))).trans ((eA51 10).trans ew51_8)) (w51_9) (((show A56 11 = A51 11 from (eA56 11))).trans ((eA51 11).trans ew51_9)) (upd1 (w13) (0) (((D 25 : Nat) : Int))) (((show A56 13 = A51 13 from (eA56 13))).trans (((show A51 13 = (updA A 13 (0) (((D 25 : Nat) : Int))) 13 from (eA51 13))).trans (congrArg (fun q => upd1 q (0) (((D 25 : Nat) : Int))) (ew13)))) (show inr (z56) from pz56_0) (show 0 ≤ (z56) ∧ (z56) ≤ 17 from q_3798 pz56_1) (show 0 ≤ (u0_9) ∧ (u0_9) ≤ (u0_9) ∧ (u0_9) ≤ (u0_8) from q_3590 h3) (show (u0_9) ≤ (u0_18) from q_1468 h4) (show (IMP ((z56) = 0) (((upd1 (w13) (0) (((D 25 : Nat) : Int)))) 0 ≠ -1)) from hfn) (show IMP ((z56) = 0) (TI3 (((upd1 (w13) (0) (((D 25 : Nat) : Int)))) 0) ((((D 25 : Nat) : Int))) ((((D 3 : Nat) : Int))) ((((D 17 : Nat) : Int)))) from hfi0) (show IMP ((z56) = 0) (SLB (((upd1 (w13) (0) (((D 25 : Nat) : Int)))) 0) ((((D 3 : Nat) : Int))) (SL ((w51_3)) ((u3_1)) ((y51_0_0)) ((w51_4)) ((w51_5)) ((w51_6)) ((w51_2)) ((w51_8)) ((w51_9)))) from hfi1) (show IMP ((z56) = 0) (SLB (((upd1 (w13) (0) (((D 25 : Nat) : Int)))) 0) ((((D 17 : Nat) : Int))) (SL ((w18)) ((u17_1)) ((u17_0)) ((w19)) ((w20)) ((w21)) ((w22)) ((w23)) ((w24)))) from hfi2) (show IMP ((z56) = 0) (ORB (((upd1 (w13) (0) (((D 25 : Nat) : Int)))) 0) ((((D 3 : Nat) : Int))) ((y51_0_0)) 9) from hfi3) (show IMP ((z56) = 0) (ORB (((upd1 (w13) (0) (((D 25 : Nat) : Int)))) 0) ((((D 17 : Nat) : Int))) ((u17_0)) 9) from hfi4) (show 0 = 0 ∨ ((upd1 (w13) (0) (((D 25 : Nat) : Int)))) 0 = ((w13)) 0 by first | exact q_3497 | omega) (show 0 = 1 ∨ ((upd1 (w13) (0) (((D 25 : Nat) : Int)))) 1 = ((w13)) 1 by omega) (show 0 = 2 ∨ ((upd1 (w13) (0) (((D 25 : Nat) : Int)))) 2 = ((w13)) 2 by omega))
      · refine Ew_of (pcₚ := 63) (fun _ => x_aload_n rfl rfl) ?_
        refine v_g H (o := 0) (v := I (u0_9)) rfl rfl rfl rfl rfl (congrArg (fun z : Int => I z) ((eu0_9) : F 0 9 = u0_9)) ?_
        refine Ew_of (pcₚ := 67) (fun _ => x_aload_n rfl rfl) ?_
        refine v_g H (o := 0) (v := I (u0_18)) rfl rfl rfl rfl rfl (congrArg (fun z : Int => I z) ((eu0_18) : F 0 18 = u0_18)) ?_
        refine w_icmplt (t := 84) rfl rfl (show inr (u0_9) from q_3585 h3) (show inr (u0_18) from q_22 r3) (fun b58 => ?_) (fun b58 => ?_)
        · refine Ew_of (pcₚ := 85) (fun _ => x_aload_n rfl rfl) ?_
          refine v_g H (o := 0) (v := .ref (D 1)) rfl rfl rfl rfl rfl (vrf (pf1)) ?_
          refine Ew_of (pcₚ := 89) (fun _ => x_aload_n rfl rfl) ?_
          refine Ew_of (pcₚ := 90) (fun _ => x_dup rfl rfl) ?_
          refine v_g H (o := 0) (v := I (u0_9)) rfl rfl rfl rfl rfl (congrArg (fun z : Int => I z) ((eu0_9) : F 0 9 = u0_9)) ?_
          refine Ew_of (pcₚ := 94) (fun _ => x_dup_x1 rfl rfl) ?_
          refine Ew_of (pcₚ := 95) (fun _ => x_iconst rfl) ?_
          refine w_iadd rfl ?_
          refine v_p H (o := 0) (z := (u0_9 + 1)) (v := I ((u0_9 + 1))) rfl rfl rfl rfl rfl rfl rfl rfl (show (-2147483648 : Int) ≤ (u0_9 + 1) ∧ (u0_9 + 1) ≤ 2147483647 from q_3799 h3) (fun σ H Oₚ => ?_)
          have O := OUT_trans O Oₚ
          have cFu59 : SF oz_I0aclsl_1 F (updF F 0 9 ((u0_9 + 1))) := SF_upd (SF_refl) rfl
          have mFu59 := SFm_of cFu59 oz_I0acls_5
          refine v_lB H (o := 1) rfl rfl rfl rfl (n := n1) (en1) (show 0 ≤ u0_9 ∧ u0_9 < n1 from q_3635 b58 h3 h4) (fun v60 ev60 qv60 => ?_)
          have ev60 : (A 1) (u0_9) = v60 := (congrFun (funext (mAu47 1 rfl)) (u0_9)).symm.trans ev60
          refine Ew_of (pcₚ := 103) (fun _ => x_sipush (z := 255) rfl (by decide)) ?_
          refine w_iand rfl (show inr (v60) from q_2536 qv60) (show inr (255) from q_36) (fun z61 gz61 gaz61 gbz61 => ?_)
          refine Ew_of (pcₚ := 106) (fun _ => x_istore rfl) ?_
          refine Ew_of (pcₚ := 108) (fun _ => x_iload rfl rk_s) ?_
          refine Ew_of (pcₚ := 111) (fun _ => x_getstatic rfl) ?_
          refine Ew_of (pcₚ := 112) (fun _ => x_iload_n rfl (rk_o (rfl) rfl rfl)) ?_
          refine v_stI (STC_out HT HE O) (b := 3) (n := 3) rfl rfl rfl rfl (show 0 ≤ 0 ∧ 0 < 3 from q_3495) (fun v62 ev62 qv62 => ?_)
          have hlv := ev62
          have hlw : ((v62) : Int) = 35 := by rw [← hlv]; rfl
          refine w_icmple (t := 124) rfl rfl (show inr (z61) from gz61) (show inr (v62) from qv62) (fun b63 => ?_) (fun b63 => ?_)
          · refine Ew_of (pcₚ := 125) (fun _ => x_aload_n rfl (rk_o (rfl) rfl rfl)) ?_
            refine v_g H (o := 0) (v := .ref (D 2)) rfl rfl rfl rfl rfl (vrf ((mFu59 0 2 rfl).trans (pf2))) ?_
            refine Ew_of (pcₚ := 129) (fun _ => x_iload_n rfl (rk_o (rfl) rfl rfl)) ?_
            refine v_lR H (o := 2) rfl rfl rfl rfl rfl (n := n2) (en2) (show 0 ≤ 0 ∧ 0 < n2 from q_3792 h7 r9) (z := ((D 3 : Nat) : Int)) (v := .ref (D 3)) ((mAu47 2 rfl 0).trans (pf3)) (vrf rfl) ?_
            refine Ew_of (pcₚ := 132) (fun _ => x_iload rfl rk_s) ?_
            refine v_inv H (o := 3) rfl rfl rfl rfl rfl rfl (by rfl) (C168 (D := puc 52038409393826314588675 D) (N := puc 52038409393826314588675 N) (HW_subc H oz_I0acls_3 oz_I0acls_8) ((mFu59 3 7 rfl).trans (pf9)) ((mFu59 3 2 rfl).trans (pf4)) ((mFu59 3 3 rfl).trans (pf5)) ((mFu59 3 4 rfl).trans (pf6)) ((mFu59 3 5 rfl).trans (pf7)) ((mFu59 3 6 rfl).trans (pf8)) ((mFu59 3 8 rfl).trans (pf10)) ((mFu59 3 9 rfl).trans (pf11)) (n9) (en9) (n4) (en4) (n5) (en5) (n6) (en6) (n7) (en7) (n8) (en8) (n10) (en10) (n11) (en11) (u3_0) ((eu3_0)) (u3_1) (((mFu59 3 1 rfl).trans (eu3_1))) (w9) (ew9) (w4) (ew4) (w5) (ew5) (w6) (ew6) (w7) (ew7) (w10) (ew10) (w11) (ew11) (show inr (z61) from gz61) (show (n9) ≥ 1 by omega) (show (n4) = (u3_1) ∧ (n5) = (u3_1) ∧ (n6) = (u3_1) ∧ (n7) = (u3_1) ∧ (n8) = (u3_1) ∧ (n10) = (n9) ∧ (n11) = (n9) ∧ 1 ≤ (u3_1) ∧ (u3_1) ≤ 64 by omega) (show 0 ≤ (z61) ∧ (z61) < ((u3_1)) by omega) (fun σ64 F64ₚ A64ₚ Hₚ Oₚ hS64 hA64 y64_0_0 (ey64_0_0 : HID _) w64_1 ew64_1 w64_2 ew64_2 w64_3 ew64_3 w64_4 ew64_4 w64_5 ew64_5 w64_7 ew64_7 w64_8 ew64_8 pz64_0 pz64_1 => ⟨rfl, ?_⟩))
            refine v_backc (c := c) (s := s) H oz_I0acls_3 oz_I0acls_8 Hₚ Oₚ (fun F64 A64 H Oₚ eF64 eA64 => ?_)
            have O := OUT_trans O Oₚ
            -- Share.becomeAlone
            have cF64 : SF oz_I0aclsl_1 F F64 := SF_trans (cFu59) (SF_gluc (ι := oz_I0aclsl_4) oz_I0acls_8 hS64 eF64 (by decide +kernel)) (any_sub (lₚ := [(3, 0)]) (by decide +kernel))
            have mF64 := SFm_of cF64 oz_I0acls_5
            have cA64 : SA oz_I0aclsl_0 A A64 := SA_trans (cAu47) (SA_gluc (ι := oz_I0aclsl_4) oz_I0acls_8 hA64 eA64 (by decide +kernel)) (any_subA (lₚ := [4, 5, 6, 7, 8, 9, 10, 11]) (by decide +kernel))
            have mA64 := SAm_of cA64 oz_I0acls_4
            have r65 : (-2147483648 : Int) ≤ y64_0_0 ∧ y64_0_0 ≤ 2147483647 := rngE (show (-2147483648 : Int) ≤ F64 3 0 ∧ F64 3 0 ≤ 2147483647 from H.krg 3 0 (ltn len_V249_c10_vd_oz_I0acls rfl)) (show F64 3 0 = y64_0_0 from ((eF64 3 0).trans ey64_0_0))
            have hown := pz64_0
            refine Ew_of (pcₚ := 190) (fun _ => x_goto rfl rfl) ?_
            refine Ew_of (pcₚ := 191) (fun _ => x_iconst rfl) ?_
            have hfi0 : IMP (((0) : Int) = 0) (TI3 (((upd1 (w13) (0) (((D 25 : Nat) : Int)))) 0) ((((D 25 : Nat) : Int))) ((((D 3 : Nat) : Int))) ((((D 17 : Nat) : Int)))) := by exact fun q => absurd q (by omega)
            have hfi1 : IMP (((0) : Int) = 0) (SLB (((upd1 (w13) (0) (((D 25 : Nat) : Int)))) 0) ((((D 3 : Nat) : Int))) (SL ((w64_2)) ((u3_1)) ((y64_0_0)) ((w64_3)) ((w64_4)) ((w64_5)) ((w64_1)) ((w64_7)) ((w64_8)))) := by exact fun q => absurd q (by omega)
            have hfi2 : IMP (((0) : Int) = 0) (SLB (((upd1 (w13) (0) (((D 25 : Nat) : Int)))) 0) ((((D 17 : Nat) : Int))) (SL ((w18)) ((u17_1)) ((u17_0)) ((w19)) ((w20)) ((w21)) ((w22)) ((w23)) ((w24)))) := by exact fun q => absurd q (by omega)
            have hfi3 : IMP (((0) : Int) = 0) (ORB (((upd1 (w13) (0) (((D 25 : Nat) : Int)))) 0) ((((D 3 : Nat) : Int))) ((y64_0_0)) 9) := by exact fun q => absurd q (by omega)
            have hfi4 : IMP (((0) : Int) = 0) (ORB (((upd1 (w13) (0) (((D 25 : Nat) : Int)))) 0) ((((D 17 : Nat) : Int))) ((u17_0)) 9) := by exact fun q => absurd q (by omega)
            have hfn : (IMP (((0) : Int) = 0) (((upd1 (w13) (0) (((D 25 : Nat) : Int)))) 0 ≠ -1)) := by exact fun q => absurd q (by omega)
            exact w_ireturn rfl (k (0) _ _ _ H O (cF64) (cA64) ((u0_9 + 1)) (((show F64 0 9 = (updF F 0 9 ((u0_9 + 1))) 0 9 from (eF64 0 9)))) (y64_0_0) (((eF64 3 0).trans ey64_0_0)) (w64_2) ((eA64 4).trans ew64_2) (w64_3) ((eA64 5).trans ew64_3) (w64_4) ((eA64 6).trans ew64_4) (w64_5) ((eA64 7).trans ew64_5) (w64_1) ((eA64 9).trans ew64_1) (w64_7) ((eA64 10).trans ew64_7) (w64_8) ((eA64 11).trans ew64_8) (upd1 (w13) (0) (((D 25 : Nat) : Int))) (((show A64 13 = (updA A 13 (0) (((D 25 : Nat) : Int))) 13 from (eA64 13))).trans (congrArg (fun q => upd1 q (0) (((D 25 : Nat) : Int))) (ew13))) (show inr (0) from h0) (show 0 ≤ (0) ∧ (0) ≤ 17 by first | exact q_3589 | omega) (show 0 ≤ ((u0_9 + 1)) ∧ (u0_9) ≤ ((u0_9 + 1)) ∧ ((u0_9 + 1)) ≤ (u0_8) from q_3800 b58 h3 h4) (show ((u0_9 + 1)) ≤ (u0_18) from q_1328 b58) (show (IMP ((0) = 0) (((upd1 (w13) (0) (((D 25 : Nat) : Int)))) 0 ≠ -1)) by assumption) (show IMP ((0) = 0) (TI3 (((upd1 (w13) (0) (((D 25 : Nat) : Int)))) 0) ((((D 25 : Nat) : Int))) ((((D 3 : Nat) : Int))) ((((D 17 : Nat) : Int)))) by assumption) (show IMP ((0) = 0) (SLB (((upd1 (w13) (0) (((D 25 : Nat) : Int)))) 0) ((((D 3 : Nat) : Int))) (SL ((w64_2)) ((u3_1)) ((y64_0_0)) ((w64_3)) ((w64_4)) ((w64_5)) ((w64_1)) ((w64_7)) ((w64_8)))) by assumption) (show IMP ((0) = 0) (SLB (((upd1 (w13) (0) (((D 25 : Nat) : Int)))) 0) ((((D 17 : Nat) : Int))) (SL ((w18)) ((u17_1)) ((u17_0)) ((w19)) ((w20)) ((w21)) ((w22)) ((w23)) ((w24)))) by assumption) (show IMP ((0) = 0) (ORB (((upd1 (w13) (0) (((D 25 : Nat) : Int)))) 0) ((((D 3 : Nat) : Int))) ((y64_0_0)) 9) by assumption) (show IMP ((0) = 0) (ORB (((upd1 (w13) (0) (((D 25 : Nat) : Int)))) 0) ((((D 17 : Nat) : Int))) ((u17_0)) 9) by assumption) (show 0 = 0 ∨ ((upd1 (w13) (0) (((D 25 : Nat) : Int)))) 0 = ((w13)) 0 by first | exact q_3497 | omega) (show 0 = 1 ∨ ((upd1 (w13) (0) (((D 25 : Nat) : Int)))) 1 = ((w13)) 1 by omega) (show 0 = 2 ∨ ((upd1 (w13) (0) (((D 25 : Nat) : Int)))) 2 = ((w13)) 2 by omega))
          · refine Ew_of (pcₚ := 117) (fun _ => x_aload_n rfl (rk_o (rfl) rfl rfl)) ?_
            refine Ew_of (pcₚ := 119) (fun _ => x_bipush (z := 16) rfl (by decide)) ?_
            refine Ew_of (pcₚ := 120) (fun _ => x_iload_n rfl (rk_o (rfl) rfl rfl)) ?_
            have r66 : (-2147483648 : Int) ≤ F 0 21 ∧ F 0 21 ≤ 2147483647 := H.krg 0 21 (ltn len_V249_c10_vd_oz_I0acls rfl)
            refine v_inv H (o := 0) rfl rfl rfl rfl rfl rfl (by rfl) (C232 (D := puc 0 D) (N := puc 0 N) (HW_subc H oz_I0acls_2 oz_I0acls_7) (F 0 21) (rfl) (show inr (16) from q_86) (show inr (a3) from h2) (fun z67 σ67 F67ₚ A67ₚ Hₚ Oₚ hS67 hA67 y67_0_21 (ey67_0_21 : HID _) pz67_0 pz67_1 pz67_2 => ⟨rfl, ?_⟩))
            refine v_backc (c := c) (s := s) H oz_I0acls_2 oz_I0acls_7 Hₚ Oₚ (fun F67 A67 H Oₚ eF67 eA67 => ?_)
            have O := OUT_trans O Oₚ
            -- Unpacker.fail
            have cF67 : SF oz_I0aclsl_1 F F67 := SF_trans (cFu59) (SF_gluc (ι := oz_I0aclsl_3) oz_I0acls_7 hS67 eF67 (by decide +kernel)) (any_sub (lₚ := [(0, 21)]) (by decide +kernel))
            have mF67 := SFm_of cF67 oz_I0acls_5
            have cA67 : SA oz_I0aclsl_0 A A67 := SA_trans (cAu47) (SA_gluc (ι := oz_I0aclsl_3) oz_I0acls_7 hA67 eA67 (by decide +kernel)) (any_subA (lₚ := []) (by decide +kernel))
            have mA67 := SAm_of cA67 oz_I0acls_4
            have r68 : (-2147483648 : Int) ≤ y67_0_21 ∧ y67_0_21 ≤ 2147483647 := rngE (show (-2147483648 : Int) ≤ F67 0 21 ∧ F67 0 21 ≤ 2147483647 from H.krg 0 21 (ltn len_V249_c10_vd_oz_I0acls rfl)) (show F67 0 21 = y67_0_21 from ((eF67 0 21).trans ey67_0_21))
            have hfi0 : IMP (((z67) : Int) = 0) (TI3 (((upd1 (w13) (0) (((D 25 : Nat) : Int)))) 0) ((((D 25 : Nat) : Int))) ((((D 3 : Nat) : Int))) ((((D 17 : Nat) : Int)))) := by exact fun q => absurd q (by omega)
            have hfi1 : IMP (((z67) : Int) = 0) (SLB (((upd1 (w13) (0) (((D 25 : Nat) : Int)))) 0) ((((D 3 : Nat) : Int))) (SL ((w4)) ((u3_1)) ((u3_0)) ((w5)) ((w6)) ((w7)) ((w9)) ((w10)) ((w11)))) := by exact fun q => absurd q (by omega)
            have hfi2 : IMP (((z67) : Int) = 0) (SLB (((upd1 (w13) (0) (((D 25 : Nat) : Int)))) 0) ((((D 17 : Nat) : Int))) (SL ((w18)) ((u17_1)) ((u17_0)) ((w19)) ((w20)) ((w21)) ((w22)) ((w23)) ((w24)))) := by exact fun q => absurd q (by omega)
            have hfi3 : IMP (((z67) : Int) = 0) (ORB (((upd1 (w13) (0) (((D 25 : Nat) : Int)))) 0) ((((D 3 : Nat) : Int))) ((u3_0)) 9) := by exact fun q => absurd q (by omega)
            have hfi4 : IMP (((z67) : Int) = 0) (ORB (((upd1 (w13) (0) (((D 25 : Nat) : Int)))) 0) ((((D 17 : Nat) : Int))) ((u17_0)) 9) := by exact fun q => absurd q (by omega)
            have hfn : (IMP (((z67) : Int) = 0) (((upd1 (w13) (0) (((D 25 : Nat) : Int)))) 0 ≠ -1)) := by exact fun q => absurd q (by omega)
            exact w_ireturn rfl (k (z67) _ _ _ H O (cF67) (cA67) ((u0_9 + 1)) (((show F67 0 9 = (updF F 0 9 ((u0_9 + 1))) 0 9 from (eF67 0 9).trans (hS67 0 9 rfl)))) (u3_0) ((((show F67 3 0 = (updF F 0 9 ((u0_9 + 1))) 3 0 from (eF67 3 0))).trans (eu3_0))) (w4) (((show A67 4 = (updA A 13 (0) (((D 25 : Nat) : Int))) 4 from (eA67 4))).trans (ew4)) (w5) (((show A67 5 = (updA A 13 (0) (((D 25 : Nat) : Int))) 5 from (eA67 5))).trans (ew5)) (w6) (((show A67 6 = (updA A 13 (0) (((D 25 : Nat) : Int))) 6 from (eA67 6))).trans (ew6)) (w7) (((show A67 7 = (updA A 13 (0) (((D 25 : Nat) : Int))) 7 from (eA67 7))).trans (ew7)) (w9) (((show A67 9 = (updA A 13 (0) (((D 25 : Nat) : Int))) 9 from (eA67 9))).trans (ew9)) (w10) (((show A67 10 = (updA A 13 (0) (((D 25 : Nat) : Int))) 10 from (eA67 10))).trans (ew10)) (w11) (((show A67 11 = (updA A 13 (0) (((D 25 : Nat) : Int))) 11 from (eA67 11))).trans (ew11)) (upd1 (w13) (0) (((D 25 : Nat) : Int))) (((show A67 13 = (updA A 13 (0) (((D 25 : Nat) : Int))) 13 from (eA67 13))).trans (congrArg (fun q => upd1 q (0) (((D 25 : Nat) : Int))) (ew13))) (show inr (z67) from pz67_0) (show 0 ≤ (z67) ∧ (z67) ≤ 17 from q_3798 pz67_1) (show 0 ≤ ((u0_9 + 1)) ∧ (u0_9) ≤ ((u0_9 + 1)) ∧ ((u0_9 + 1)) ≤ (u0_8) from q_3800 b58 h3 h4) (show ((u0_9 + 1)) ≤ (u0_18) from q_1328 b58) (show (IMP ((z67) = 0) (((upd1 (w13) (0) (((D 25 : Nat) : Int)))) 0 ≠ -1)) from hfn) (show IMP ((z67) = 0) (TI3 (((upd1 (w13) (0) (((D 25 : Nat) : Int)))) 0) ((((D 25 : Nat) : Int))) ((((D 3 : Nat) : Int))) ((((D 17 : Nat) : Int)))) from hfi0) (show IMP ((z67) = 0) (SLB (((upd1 (w13) (0) (((D 25 : Nat) : Int)))) 0) ((((D 3 : Nat) : Int))) (SL ((w4)) ((u3_1)) ((u3_0)) ((w5)) ((w6)) ((w7)) ((w9)) ((w10)) ((w11)))) from hfi1) (show IMP ((z67) = 0) (SLB (((upd1 (w13) (0) (((D 25 : Nat) : Int)))) 0) ((((D 17 : Nat) : Int))) (SL ((w18)) ((u17_1)) ((u17_0)) ((w19)) ((w20)) ((w21)) ((w22)) ((w23)) ((w24)))) from hfi2) (show IMP ((z67) = 0) (ORB (((upd1 (w13) (0) (((D 25 : Nat) : Int)))) 0) ((((D 3 : Nat) : Int))) ((u3_0)) 9) from hfi3) (show IMP ((z67) = 0) (ORB (((upd1 (w13) (0) (((D 25 : Nat) : Int)))) 0) ((((D 17 : Nat) : Int))) ((u17_0)) 9) from hfi4) (show 0 = 0 ∨ ((upd1 (w13) (0) (((D 25 : Nat) : Int)))) 0 = ((w13)) 0 by first | exact q_3497 | omega) (show 0 = 1 ∨ ((upd1 (w13) (0) (((D 25 : Nat) : Int)))) 1 = ((w13)) 1 by omega) (show 0 = 2 ∨ ((upd1 (w13) (0) (((D 25 : Nat) : Int)))) 2 = ((w13)) 2 by omega))
        · refine Ew_of (pcₚ := 74) (fun _ => x_aload_n rfl rfl) ?_
          refine Ew_of (pcₚ := 76) (fun _ => x_bipush (z := 10) rfl (by decide)) ?_
          refine Ew_of (pcₚ := 77) (fun _ => x_aload_n rfl rfl) ?_
          refine v_g H (o := 0) (v := I (u0_18)) rfl rfl rfl rfl rfl (congrArg (fun z : Int => I z) ((eu0_18) : F 0 18 = u0_18)) ?_
          have r69 : (-2147483648 : Int) ≤ F 0 21 ∧ F 0 21 ≤ 2147483647 := H.krg 0 21 (ltn len_V249_c10_vd_oz_I0acls rfl)
          refine v_inv H (o := 0) rfl rfl rfl rfl rfl rfl (by rfl) (C232 (D := puc 0 D) (N := puc 0 N) (HW_subc H oz_I0acls_2 oz_I0acls_7) (F 0 21) (rfl) (show inr (10) from q_532) (show inr (u0_18) from q_22 r3) (fun z70 σ70 F70ₚ A70ₚ Hₚ Oₚ hS70 hA70 y70_0_21 (ey70_0_21 : HID _) pz70_0 pz70_1 pz70_2 => ⟨rfl, ?_⟩))
          refine v_backc (c := c) (s := s) H oz_I0acls_2 oz_I0acls_7 Hₚ Oₚ (fun F70 A70 H Oₚ eF70 eA70 => ?_)
          have O := OUT_trans O Oₚ
          -- Unpacker.fail
          have cF70 : SF oz_I0aclsl_1 F F70 := SF_trans (SF_refl) (SF_gluc (ι := oz_I0aclsl_3) oz_I0acls_7 hS70 eF70 (by decide +kernel)) (any_sub (lₚ := [(0, 21)]) (by decide +kernel))
          have mF70 := SFm_of cF70 oz_I0acls_5
          have cA70 : SA oz_I0aclsl_0 A A70 := SA_trans (cAu47) (SA_gluc (ι := oz_I0aclsl_3) oz_I0acls_7 hA70 eA70 (by decide +kernel)) (any_subA (lₚ := []) (by decide +kernel))
          have mA70 := SAm_of cA70 oz_I0acls_4
          have r71 : (-2147483648 : Int) ≤ y70_0_21 ∧ y70_0_21 ≤ 2147483647 := rngE (show (-2147483648 : Int) ≤ F70 0 21 ∧ F70 0 21 ≤ 2147483647 from H.krg 0 21 (ltn len_V249_c10_vd_oz_I0acls rfl)) (show F70 0 21 = y70_0_21 from ((eF70 0 21).trans ey70_0_21))
          have hfi0 : IMP (((z70) : Int) = 0) (TI3 (((upd1 (w13) (0) (((D 25 : Nat) : Int)))) 0) ((((D 25 : Nat) : Int))) ((((D 3 : Nat) : Int))) ((((D 17 : Nat) : Int)))) := by exact fun q => absurd q (by omega)
          have hfi1 : IMP (((z70) : Int) = 0) (SLB (((upd1 (w13) (0) (((D 25 : Nat) : Int)))) 0) ((((D 3 : Nat) : Int))) (SL ((w4)) ((u3_1)) ((u3_0)) ((w5)) ((w6)) ((w7)) ((w9)) ((w10)) ((w11)))) := by exact fun q => absurd q (by omega)
          have hfi2 : IMP (((z70) : Int) = 0) (SLB (((upd1 (w13) (0) (((D 25 : Nat) : Int)))) 0) ((((D 17 : Nat) : Int))) (SL ((w18)) ((u17_1)) ((u17_0)) ((w19)) ((w20)) ((w21)) ((w22)) ((w23)) ((w24)))) := by exact fun q => absurd q (by omega)
          have hfi3 : IMP (((z70) : Int) = 0) (ORB (((upd1 (w13) (0) (((D 25 : Nat) : Int)))) 0) ((((D 3 : Nat) : Int))) ((u3_0)) 9) := by exact fun q => absurd q (by omega)
          have hfi4 : IMP (((z70) : Int) = 0) (ORB (((upd1 (w13) (0) (((D 25 : Nat) : Int)))) 0) ((((D 17 : Nat) : Int))) ((u17_0)) 9) := by exact fun q => absurd q (by omega)
          have hfn : (IMP (((z70) : Int) = 0) (((upd1 (w13) (0) (((D 25 : Nat) : Int)))) 0 ≠ -1)) := by exact fun q => absurd q (by omega)
          exact w_ireturn rfl (k (z70) _ _ _ H O (cF70) (cA70) (u0_9) ((((show F70 0 9 = F 0 9 from (eF70 0 9).trans (hS70 0 9 rfl))).trans (eu0_9))) (u3_0) ((((show F70 3 0 = F 3 0 from (eF70 3 0))).trans (eu3_0))) (w4) (((show A70 4 = (updA A 13 (0) (((D 25 : Nat) : Int))) 4 from (eA70 4))).trans (ew4)) (w5) (((show A70 5 = (updA A 13 (0) (((D 25 : Nat) : Int))) 5 from (eA70 5))).trans (ew5)) (w6) (((show A70 6 = (updA A 13 (0) (((D 25 : Nat) : Int))) 6 from (eA70 6))).trans (ew6)) (w7) (((show A70 7 = (updA A 13 (0) (((D 25 : Nat) : Int))) 7 from (eA70 7))).trans (ew7)) (w9) (((show A70 9 = (updA A 13 (0) (((D 25 : Nat) : Int))) 9 from (eA70 9))).trans (ew9)) (w10) (((show A70 10 = (updA A 13 (0) (((D 25 : Nat) : Int))) 10 from (eA70 10))).trans (ew10)) (w11) (((show A70 11 = (updA A 13 (0) (((D 25 : Nat) : Int))) 11 from (eA70 11))).trans (ew11)) (upd1 (w13) (0) (((D 25 : Nat) : Int))) (((show A70 13 = (updA A 13 (0) (((D 25 : Nat) : Int))) 13 from (eA70 13))).trans (congrArg (fun q => upd1 q (0) (((D 25 : Nat) : Int))) (ew13))) (show inr (z70) from pz70_0) (show 0 ≤ (z70) ∧ (z70) ≤ 17 from q_3651 pz70_1) (show 0 ≤ (u0_9) ∧ (u0_9) ≤ (u0_9) ∧ (u0_9) ≤ (u0_8) from q_3590 h3) (show (u0_9) ≤ (u0_18) from q_1468 h4) (show (IMP ((z70) = 0) (((upd1 (w13) (0) (((D 25 : Nat) : Int)))) 0 ≠ -1)) from hfn) (show IMP ((z70) = 0) (TI3 (((upd1 (w13) (0) (((D 25 : Nat) : Int)))) 0) ((((D 25 : Nat) : Int))) ((((D 3 : Nat) : Int))) ((((D 17 : Nat) : Int)))) from hfi0) (show IMP ((z70) = 0) (SLB (((upd1 (w13) (0) (((D 25 : Nat) : Int)))) 0) ((((D 3 : Nat) : Int))) (SL ((w4)) ((u3_1)) ((u3_0)) ((w5)) ((w6)) ((w7)) ((w9)) ((w10)) ((w11)))) from hfi1) (show IMP ((z70) = 0) (SLB (((upd1 (w13) (0) (((D 25 : Nat) : Int)))) 0) ((((D 17 : Nat) : Int))) (SL ((w18)) ((u17_1)) ((u17_0)) ((w19)) ((w20)) ((w21)) ((w22)) ((w23)) ((w24)))) from hfi2) (show IMP ((z70) = 0) (ORB (((upd1 (w13) (0) (((D 25 : Nat) : Int)))) 0) ((((D 3 : Nat) : Int))) ((u3_0)) 9) from hfi3) (show IMP ((z70) = 0) (ORB (((upd1 (w13) (0) (((D 25 : Nat) : Int)))) 0) ((((D 17 : Nat) : Int))) ((u17_0)) 9) from hfi4) (show 0 = 0 ∨ ((upd1 (w13) (0) (((D 25 : Nat) : Int)))) 0 = ((w13)) 0 by first | exact q_3497 | omega) (show 0 = 1 ∨ ((upd1 (w13) (0) (((D 25 : Nat) : Int)))) 1 = ((w13)) 1 by omega) (show 0 = 2 ∨ ((upd1 (w13) (0) (((D 25 : Nat) : Int)))) 2 = ((w13)) 2 by omega))
  · refine Ew_of (pcₚ := 6) (fun _ => x_aload_n rfl rfl) ?_
    refine v_g H (o := 0) (v := .ref (D 12)) rfl rfl rfl rfl rfl (vrf (pf12)) ?_
    refine v_g H (o := 12) (v := .ref (D 13)) rfl rfl rfl rfl rfl (vrf (pf13)) ?_
    refine Ew_of (pcₚ := 13) (fun _ => x_iload_n rfl rfl) ?_
    rcases (show (w13) (0) = -1 ∨ (w13) (0) = ((D 25 : Nat) : Int) ∨ (w13) (0) = ((D 3 : Nat) : Int) ∨ (w13) (0) = ((D 17 : Nat) : Int) by assumption) with b72 | b72 | b72 | b72
    · refine v_lR H (o := 13) rfl rfl rfl rfl rfl (n := n13) (en13) (show 0 ≤ 0 ∧ 0 < n13 from q_3793 h7 r18) (z := (-1)) (v := .null) ((congrFun (ew13) (0)).trans b72) (rfl) ?_
      refine Ew_of (pcₚ := 17) (fun _ => x_ifnonnull_f rfl rfl) ?_
      refine Ew_of (pcₚ := 18) (fun _ => x_aload_n rfl rfl) ?_
      refine Ew_of (pcₚ := 20) (fun _ => x_bipush (z := 16) rfl (by decide)) ?_
      refine Ew_of (pcₚ := 21) (fun _ => x_iload_n rfl rfl) ?_
      have r73 : (-2147483648 : Int) ≤ F 0 21 ∧ F 0 21 ≤ 2147483647 := H.krg 0 21 (ltn len_V249_c10_vd_oz_I0acls rfl)
      refine v_inv H (o := 0) rfl rfl rfl rfl rfl rfl (by rfl) (C232 (D := puc 0 D) (N := puc 0 N) (HW_subc H oz_I0acls_2 oz_I0acls_7) (F 0 21) (rfl) (show inr (16) from q_86) (show inr (a3) from h2) (fun z74 σ74 F74ₚ A74ₚ Hₚ Oₚ hS74 hA74 y74_0_21 (ey74_0_21 : HID _) pz74_0 pz74_1 pz74_2 => ⟨rfl, ?_⟩))
      refine v_backc (c := c) (s := s) H oz_I0acls_2 oz_I0acls_7 Hₚ Oₚ (fun F74 A74 H Oₚ eF74 eA74 => ?_)
      have O := OUT_trans O Oₚ
      -- Unpacker.fail
      have cF74 : SF oz_I0aclsl_1 F F74 := SF_trans (SF_refl) (SF_gluc (ι := oz_I0aclsl_3) oz_I0acls_7 hS74 eF74 (by decide +kernel)) (any_sub (lₚ := [(0, 21)]) (by decide +kernel))
      have mF74 := SFm_of cF74 oz_I0acls_5
      have cA74 : SA oz_I0aclsl_0 A A74 := SA_trans (SA_refl) (SA_gluc (ι := oz_I0aclsl_3) oz_I0acls_7 hA74 eA74 (by decide +kernel)) (any_subA (lₚ := []) (by decide +kernel))
      have mA74 := SAm_of cA74 oz_I0acls_4
      have r75 : (-2147483648 : Int) ≤ y74_0_21 ∧ y74_0_21 ≤ 2147483647 := rngE (show (-2147483648 : Int) ≤ F74 0 21 ∧ F74 0 21 ≤ 2147483647 from H.krg 0 21 (ltn len_V249_c10_vd_oz_I0acls rfl)) (show F74 0 21 = y74_0_21 from ((eF74 0 21).trans ey74_0_21))
      refine Ew_of (pcₚ := 28) (fun _ => x_goto rfl rfl) ?_
      have hfi0 : IMP (((z74) : Int) = 0) (TI3 (((w13)) 0) ((((D 25 : Nat) : Int))) ((((D 3 : Nat) : Int))) ((((D 17 : Nat) : Int)))) := by exact fun q => absurd q (by omega)
      have hfi1 : IMP (((z74) : Int) = 0) (SLB (((w13)) 0) ((((D 3 : Nat) : Int))) (SL ((w4)) ((u3_1)) ((u3_0)) ((w5)) ((w6)) ((w7)) ((w9)) ((w10)) ((w11)))) := by exact fun q => absurd q (by omega)
      have hfi2 : IMP (((z74) : Int) = 0) (SLB (((w13)) 0) ((((D 17 : Nat) : Int))) (SL ((w18)) ((u17_1)) ((u17_0)) ((w19)) ((w20)) ((w21)) ((w22)) ((w23)) ((w24)))) := by exact fun q => absurd q (by omega)
      have hfi3 : IMP (((z74) : Int) = 0) (ORB (((w13)) 0) ((((D 3 : Nat) : Int))) ((u3_0)) 9) := by exact fun q => absurd q (by omega)
      have hfi4 : IMP (((z74) : Int) = 0) (ORB (((w13)) 0) ((((D 17 : Nat) : Int))) ((u17_0)) 9) := by exact fun q => absurd q (by omega)
      have hfn : (IMP (((z74) : Int) = 0) (((w13)) 0 ≠ -1)) := by exact fun q => absurd q (by omega)
      exact w_ireturn rfl (k (z74) _ _ _ H O (cF74) (cA74) (u0_9) ((((show F74 0 9 = F 0 9 from (eF74 0 9).trans (hS74 0 9 rfl))).trans (eu0_9))) (u3_0) ((((show F74 3 0 = F 3 0 from (eF74 3 0))).trans (eu3_0))) (w4) (((show A74 4 = A 4 from (eA74 4))).trans (ew4)) (w5) (((show A74 5 = A 5 from (eA74 5))).trans (ew5)) (w6) (((show A74 6 = A 6 from (eA74 6))).trans (ew6)) (w7) (((show A74 7 = A 7 from (eA74 7))).trans (ew7)) (w9) (((show A74 9 = A 9 from (eA74 9))).trans (ew9)) (w10) (((show A74 10 = A 10 from (eA74 10))).trans (ew10)) (w11) (((show A74 11 = A 11 from (eA74 11))).trans (ew11)) (w13) (((show A74 13 = A 13 from (eA74 13))).trans (ew13)) (show inr (z74) from pz74_0) (show 0 ≤ (z74) ∧ (z74) ≤ 17 from q_3798 pz74_1) (show 0 ≤ (u0_9) ∧ (u0_9) ≤ (u0_9) ∧ (u0_9) ≤ (u0_8) from q_3590 h3) (show (u0_9) ≤ (u0_18) from q_1468 h4) (show (IMP ((z74) = 0) (((w13)) 0 ≠ -1)) from hfn) (show IMP ((z74) = 0) (TI3 (((w13)) 0) ((((D 25 : Nat) : Int))) ((((D 3 : Nat) : Int))) ((((D 17 : Nat) : Int)))) from hfi0) (show IMP ((z74) = 0) (SLB (((w13)) 0) ((((D 3 : Nat) : Int))) (SL ((w4)) ((u3_1)) ((u3_0)) ((w5)) ((w6)) ((w7)) ((w9)) ((w10)) ((w11)))) from hfi1) (show IMP ((z74) = 0) (SLB (((w13)) 0) ((((D 17 : Nat) : Int))) (SL ((w18)) ((u17_1)) ((u17_0)) ((w19)) ((w20)) ((w21)) ((w22)) ((w23)) ((w24)))) from hfi2) (show IMP ((z74) = 0) (ORB (((w13)) 0) ((((D 3 : Nat) : Int))) ((u3_0)) 9) from hfi3) (show IMP ((z74) = 0) (ORB (((w13)) 0) ((((D 17 : Nat) : Int))) ((u17_0)) 9) from hfi4) (show 0 = 0 ∨ ((w13)) 0 = ((w13)) 0 by first | exact q_3804 | omega) (show 0 = 1 ∨ ((w13)) 1 = ((w13)) 1 by first | exact q_3803 | omega) (show 0 = 2 ∨ ((w13)) 2 = ((w13)) 2 by first | exact q_3802 | omega))
    · refine v_lR H (o := 13) rfl rfl rfl rfl rfl (n := n13) (en13) (show 0 ≤ 0 ∧ 0 < n13 from q_3793 h7 r18) (z := ((D 25 : Nat) : Int)) (v := .ref (D 25)) ((congrFun (ew13) (0)).trans b72) (vrf rfl) ?_
      refine Ew_of (pcₚ := 27) (fun _ => x_ifnonnull_t rfl rfl) ?_
      refine Ew_of (pcₚ := 28) (fun _ => x_iconst rfl) ?_
      have hfi0 : IMP (((0) : Int) = 0) (TI3 (((w13)) 0) ((((D 25 : Nat) : Int))) ((((D 3 : Nat) : Int))) ((((D 17 : Nat) : Int)))) := by exact fun _ => (by assumption)
      have hfi1 : IMP (((0) : Int) = 0) (SLB (((w13)) 0) ((((D 3 : Nat) : Int))) (SL ((w4)) ((u3_1)) ((u3_0)) ((w5)) ((w6)) ((w7)) ((w9)) ((w10)) ((w11)))) := by exact fun _ => (by assumption)
      have hfi2 : IMP (((0) : Int) = 0) (SLB (((w13)) 0) ((((D 17 : Nat) : Int))) (SL ((w18)) ((u17_1)) ((u17_0)) ((w19)) ((w20)) ((w21)) ((w22)) ((w23)) ((w24)))) := by exact fun _ => (by assumption)
      have hfi3 : IMP (((0) : Int) = 0) (ORB (((w13)) 0) ((((D 3 : Nat) : Int))) ((u3_0)) 9) := by exact fun _ => (by assumption)
      have hfi4 : IMP (((0) : Int) = 0) (ORB (((w13)) 0) ((((D 17 : Nat) : Int))) ((u17_0)) 9) := by exact fun _ => (by assumption)
      have hfn : (IMP (((0) : Int) = 0) (((w13)) 0 ≠ -1)) := by exact fun _ => (by omega)
      exact w_ireturn rfl (k (0) _ _ _ H O (SF_refl) (SA_refl) (u0_9) ((eu0_9)) (u3_0) ((eu3_0)) (w4) (ew4) (w5) (ew5) (w6) (ew6) (w7) (ew7) (w9) (ew9) (w10) (ew10) (w11) (ew11) (w13) (ew13) (show inr (0) from h0) (show 0 ≤ (0) ∧ (0) ≤ 17 by first | exact q_3589 | omega) (show 0 ≤ (u0_9) ∧ (u0_9) ≤ (u0_9) ∧ (u0_9) ≤ (u0_8) from q_3590 h3) (show (u0_9) ≤ (u0_18) from q_1468 h4) (show (IMP ((0) = 0) (((w13)) 0 ≠ -1)) by assumption) (show IMP ((0) = 0) (TI3 (((w13)) 0) ((((D 25 : Nat) : Int))) ((((D 3 : Nat) : Int))) ((((D 17 : Nat) : Int)))) by assumption) (show IMP ((0) = 0) (SLB (((w13)) 0) ((((D 3 : Nat) : Int))) (SL ((w4)) ((u3_1)) ((u3_0)) ((w5)) ((w6)) ((w7)) ((w9)) ((w10)) ((w11)))) by assumption) (show IMP ((0) = 0) (SLB (((w13)) 0) ((((D 17 : Nat) : Int))) (SL ((w18)) ((u17_1)) ((u17_0)) ((w19)) ((w20)) ((w21)) ((w22)) ((w23)) ((w24)))) by assumption) (show IMP ((0) = 0) (ORB (((w13)) 0) ((((D 3 : Nat) : Int))) ((u3_0)) 9) by assumption) (show IMP ((0) = 0) (ORB (((w13)) 0) ((((D 17 : Nat) : Int))) ((u17_0)) 9) by assumption) (show 0 = 0 ∨ ((w13)) 0 = ((w13)) 0 by first | exact q_3804 | omega) (show 0 = 1 ∨ ((w13)) 1 = ((w13)) 1 by first | exact q_3803 | omega) (show 0 = 2 ∨ ((w13)) 2 = ((w13)) 2 by first | exact q_3802 | omega))
    · refine v_lR H (o := 13) rfl rfl rfl rfl rfl (n := n13) (en13) (show 0 ≤ 0 ∧ 0 < n13 from q_3793 h7 r18) (z := ((D 3 : Nat) : Int)) (v := .ref (D 3)) ((congrFun (ew13) (0)).trans b72) (vrf rfl) ?_
      refine Ew_of (pcₚ := 27) (fun _ => x_ifnonnull_t rfl rfl) ?_
      refine Ew_of (pcₚ := 28) (fun _ => x_iconst rfl) ?_
      have hfi0 : IMP (((0) : Int) = 0) (TI3 (((w13)) 0) ((((D 25 : Nat) : Int))) ((((D 3 : Nat) : Int))) ((((D 17 : Nat) : Int)))) := by exact fun _ => (by assumption)
      have hfi1 : IMP (((0) : Int) = 0) (SLB (((w13)) 0) ((((D 3 : Nat) : Int))) (SL ((w4)) ((u3_1)) ((u3_0)) ((w5)) ((w6)) ((w7)) ((w9)) ((w10)) ((w11)))) := by exact fun _ => (by assumption)
      have hfi2 : IMP (((0) : Int) = 0) (SLB (((w13)) 0) ((((D 17 : Nat) : Int))) (SL ((w18)) ((u17_1)) ((u17_0)) ((w19)) ((w20)) ((w21)) ((w22)) ((w23)) ((w24)))) := by exact fun _ => (by assumption)
      have hfi3 : IMP (((0) : Int) = 0) (ORB (((w13)) 0) ((((D 3 : Nat) : Int))) ((u3_0)) 9) := by exact fun _ => (by assumption)
      have hfi4 : IMP (((0) : Int) = 0) (ORB (((w13)) 0) ((((D 17 : Nat) : Int))) ((u17_0)) 9) := by exact fun _ => (by assumption)
      have hfn : (IMP (((0) : Int) = 0) (((w13)) 0 ≠ -1)) := by exact fun _ => (by omega)
      exact w_ireturn rfl (k (0) _ _ _ H O (SF_refl) (SA_refl) (u0_9) ((eu0_9)) (u3_0) ((eu3_0)) (w4) (ew4) (w5) (ew5) (w6) (ew6) (w7) (ew7) (w9) (ew9) (w10) (ew10) (w11) (ew11) (w13) (ew13) (show inr (0) from h0) (show 0 ≤ (0) ∧ (0) ≤ 17 by first | exact q_3589 | omega) (show 0 ≤ (u0_9) ∧ (u0_9) ≤ (u0_9) ∧ (u0_9) ≤ (u0_8) from q_3590 h3) (show (u0_9) ≤ (u0_18) from q_1468 h4) (show (IMP ((0) = 0) (((w13)) 0 ≠ -1)) by assumption) (show IMP ((0) = 0) (TI3 (((w13)) 0) ((((D 25 : Nat) : Int))) ((((D 3 : Nat) : Int))) ((((D 17 : Nat) : Int)))) by assumption) (show IMP ((0) = 0) (SLB (((w13)) 0) ((((D 3 : Nat) : Int))) (SL ((w4)) ((u3_1)) ((u3_0)) ((w5)) ((w6)) ((w7)) ((w9)) ((w10)) ((w11)))) by assumption) (show IMP ((0) = 0) (SLB (((w13)) 0) ((((D 17 : Nat) : Int))) (SL ((w18)) ((u17_1)) ((u17_0)) ((w19)) ((w20)) ((w21)) ((w22)) ((w23)) ((w24)))) by assumption) (show IMP ((0) = 0) (ORB (((w13)) 0) ((((D 3 : Nat) : Int))) ((u3_0)) 9) by assumption) (show IMP ((0) = 0) (ORB (((w13)) 0) ((((D 17 : Nat) : Int))) ((u17_0)) 9) by assumption) (show 0 = 0 ∨ ((w13)) 0 = ((w13)) 0 by first | exact q_3804 | omega) (show 0 = 1 ∨ ((w13)) 1 = ((w13)) 1 by first | exact q_3803 | omega) (show 0 = 2 ∨ ((w13)) 2 = ((w13)) 2 by first | exact q_3802 | omega))
    · refine v_lR H (o := 13) rfl rfl rfl rfl rfl (n := n13) (en13) (show 0 ≤ 0 ∧ 0 < n13 from q_3793 h7 r18) (z := ((D 17 : Nat) : Int)) (v := .ref (D 17)) ((congrFun (ew13) (0)).trans b72) (vrf rfl) ?_
      refine Ew_of (pcₚ := 27) (fun _ => x_ifnonnull_t rfl rfl) ?_
      refine Ew_of (pcₚ := 28) (fun _ => x_iconst rfl) ?_
      have hfi0 : IMP (((0) : Int) = 0) (TI3 (((w13)) 0) ((((D 25 : Nat) : Int))) ((((D 3 : Nat) : Int))) ((((D 17 : Nat) : Int)))) := by exact fun _ => (by assumption)
      have hfi1 : IMP (((0) : Int) = 0) (SLB (((w13)) 0) ((((D 3 : Nat) : Int))) (SL ((w4)) ((u3_1)) ((u3_0)) ((w5)) ((w6)) ((w7)) ((w9)) ((w10)) ((w11)))) := by exact fun _ => (by assumption)
      have hfi2 : IMP (((0) : Int) = 0) (SLB (((w13)) 0) ((((D 17 : Nat) : Int))) (SL ((w18)) ((u17_1)) ((u17_0)) ((w19)) ((w20)) ((w21)) ((w22)) ((w23)) ((w24)))) := by exact fun _ => (by assumption)
      have hfi3 : IMP (((0) : Int) = 0) (ORB (((w13)) 0) ((((D 3 : Nat) : Int))) ((u3_0)) 9) := by exact fun _ => (by assumption)
      have hfi4 : IMP (((0) : Int) = 0) (ORB (((w13)) 0) ((((D 17 : Nat) : Int))) ((u17_0)) 9) := by exact fun _ => (by assumption)
      have hfn : (IMP (((0) : Int) = 0) (((w13)) 0 ≠ -1)) := by exact fun _ => (by omega)
      exact w_ireturn rfl (k (0) _ _ _ H O (SF_refl) (SA_refl) (u0_9) ((eu0_9)) (u3_0) ((eu3_0)) (w4) (ew4) (w5) (ew5) (w6) (ew6) (w7) (ew7) (w9) (ew9) (w10) (ew10) (w11) (ew11) (w13) (ew13) (show inr (0) from h0) (show 0 ≤ (0) ∧ (0) ≤ 17 by first | exact q_3589 | omega) (show 0 ≤ (u0_9) ∧ (u0_9) ≤ (u0_9) ∧ (u0_9) ≤ (u0_8) from q_3590 h3) (show (u0_9) ≤ (u0_18) from q_1468 h4) (show (IMP ((0) = 0) (((w13)) 0 ≠ -1)) by assumption) (show IMP ((0) = 0) (TI3 (((w13)) 0) ((((D 25 : Nat) : Int))) ((((D 3 : Nat) : Int))) ((((D 17 : Nat) : Int)))) by assumption) (show IMP ((0) = 0) (SLB (((w13)) 0) ((((D 3 : Nat) : Int))) (SL ((w4)) ((u3_1)) ((u3_0)) ((w5)) ((w6)) ((w7)) ((w9)) ((w10)) ((w11)))) by assumption) (show IMP ((0) = 0) (SLB (((w13)) 0) ((((D 17 : Nat) : Int))) (SL ((w18)) ((u17_1)) ((u17_0)) ((w19)) ((w20)) ((w21)) ((w22)) ((w23)) ((w24)))) by assumption) (show IMP ((0) = 0) (ORB (((w13)) 0) ((((D 3 : Nat) : Int))) ((u3_0)) 9) by assumption) (show IMP ((0) = 0) (ORB (((w13)) 0) ((((D 17 : Nat) : Int))) ((u17_0)) 9) by assumption) (show 0 = 0 ∨ ((w13)) 0 = ((w13)) 0 by first | exact q_3804 | omega) (show 0 = 1 ∨ ((w13)) 1 = ((w13)) 1 by first | exact q_3803 | omega) (show 0 = 2 ∨ ((w13)) 2 = ((w13)) 2 by first | exact q_3802 | omega))
theorem len_V249_c11_vd_oz_I0acls : (V249_c11_vd).length = 26 := by decide +kernel
theorem oz_I0acls_10 : vsub V249_c11_vd V184_Br [3, 1, 9, 4, 5, 6, 7, 8, 10, 11] = true := by decide +kernel
theorem oz_I0acls_11 : vsub V249_c11_vd V232 [0] = true := by decide +kernel
theorem oz_I0acls_12 : vsub V249_c11_vd V168 [3, 9, 4, 5, 6, 7, 8, 10, 11] = true := by decide +kernel
/-- Unpacker.unpackTable: this, this.in, this.ownTables, this.ownTables.1, this.ownTables.1.points, this.ownTables.1.masses, this.ownTables.1.mostBits, this.ownTables.1.starts, this.ownTables.1.used, this.ownTables.1.symbolAt, this.ownTables.1.numberAt, this.ownTables.1.placeOf, this.now, this.now.tables, this.known, this.dictionary, this.dictionary.tables, this.dictionary.tables.1, this.dictionary.tables.1.points, this.dictionary.tables.1.masses, this.dictionary.tables.1.mostBits, this.dictionary.tables.1.starts, this.dictionary.tables.1.symbolAt, this.dictionary.tables.1.numberAt, this.dictionary.tables.1.placeOf, this.known.1 -/
theorem C249_c11_vdo {σE : rS} {D N : Nat → Nat} {F : hF} {A : hA} {d c s : Nat} {Q : wQ} (H : HW V249_c11_vd σE D N F A) (HT : STC σE) {a2 a3 : Int} (pf1 : HID (F 0 7 = (D 1 : Int))) (pf2 : HID (F 0 2 = (D 2 : Int))) (pf3 : HID (A 2 1 = (D 3 : Int))) (pf4 : HID (F 3 2 = (D 4 : Int))) (pf5 : HID (F 3 3 = (D 5 : Int))) (pf6 : HID (F 3 4 = (D 6 : Int))) (pf7 : HID (F 3 5 = (D 7 : Int))) (pf8 : HID (F 3 6 = (D 8 : Int))) (pf9 : HID (F 3 7 = (D 9 : Int))) (pf10 : HID (F 3 8 = (D 10 : Int))) (pf11 : HID (F 3 9 = (D 11 : Int))) (pf12 : HID (F 0 3 = (D 12 : Int))) (pf13 : HID (F 12 1 = (D 13 : Int))) (pf14 : HID (F 0 0 = (D 14 : Int))) (pf15 : HID (F 0 12 = (D 15 : Int))) (pf16 : HID (F 15 4 = (D 16 : Int))) (pf17 : HID (A 16 1 = (D 17 : Int))) (pf18 : HID (F 17 2 = (D 18 : Int))) (pf19 : HID (F 17 3 = (D 19 : Int))) (pf20 : HID (F 17 4 = (D 20 : Int))) (pf21 : HID (F 17 5 = (D 21 : Int))) (pf22 : HID (F 17 7 = (D 22 : Int))) (pf23 : HID (F 17 8 = (D 23 : Int))) (pf24 : HID (F 17 9 = (D 24 : Int))) (pf25 : HID (A 14 1 = (D 25 : Int))) (n1 : Int) (en1 : HID ((N 1 : Int) = n1)) (n2 : Int) (en2 : HID ((N 2 : Int) = n2)) (n4 : Int) (en4 : HID ((N 4 : Int) = n4)) (n5 : Int) (en5 : HID ((N 5 : Int) = n5)) (n6 : Int) (en6 : HID ((N 6 : Int) = n6)) (n7 : Int) (en7 : HID ((N 7 : Int) = n7)) (n8 : Int) (en8 : HID ((N 8 : Int) = n8)) (n9 : Int) (en9 : HID ((N 9 : Int) = n9)) (n10 : Int) (en10 : HID ((N 10 : Int) = n10)) (n11 : Int) (en11 : HID ((N 11 : Int) = n11)) (n13 : Int) (en13 : HID ((N 13 : Int) = n13)) (n14 : Int) (en14 : HID ((N 14 : Int) = n14)) (n16 : Int) (en16 : HID ((N 16 : Int) = n16)) (n18 : Int) (en18 : HID ((N 18 : Int) = n18)) (n19 : Int) (en19 : HID ((N 19 : Int) = n19)) (n20 : Int) (en20 : HID ((N 20 : Int) = n20)) (n21 : Int) (en21 : HID ((N 21 : Int) = n21)) (n22 : Int) (en22 : HID ((N 22 : Int) = n22)) (n23 : Int) (en23 : HID ((N 23 : Int) = n23)) (n24 : Int) (en24 : HID ((N 24 : Int) = n24)) (u0_8 : Int) (eu0_8 : HID (F 0 8 = u0_8)) (u0_9 : Int) (eu0_9 : HID (F 0 9 = u0_9)) (u0_18 : Int) (eu0_18 : HID (F 0 18 = u0_18)) (u3_0 : Int) (eu3_0 : HID (F 3 0 = u3_0)) (u3_1 : Int) (eu3_1 : HID (F 3 1 = u3_1)) (u17_0 : Int) (eu17_0 : HID (F 17 0 = u17_0)) (u17_1 : Int) (eu17_1 : HID (F 17 1 = u17_1)) (w4 : Int → Int) (ew4 : A 4 = w4) (w5 : Int → Int) (ew5 : A 5 = w5) (w6 : Int → Int) (ew6 : A 6 = w6) (w7 : Int → Int) (ew7 : A 7 = w7) (w9 : Int → Int) (ew9 : A 9 = w9) (w10 : Int → Int) (ew10 : A 10 = w10) (w11 : Int → Int) (ew11 : A 11 = w11) (w13 : Int → Int) (ew13 : A 13 = w13) (w18 : Int → Int) (ew18 : A 18 = w18) (w19 : Int → Int) (ew19 : A 19 = w19) (w20 : Int → Int) (ew20 : A 20 = w20) (w21 : Int → Int) (ew21 : A 21 = w21) (w22 : Int → Int) (ew22 : A 22 = w22) (w23 : Int → Int) (ew23 : A 23 = w23) (w24 : Int → Int) (ew24 : A 24 = w24) (h0 : inr (1)) (h1 : inr (a2)) (h2 : inr (a3)) (h3 : 0 ≤ (u0_9) ∧ (u0_9) ≤ (u0_8) ∧ (u0_8) ≤ (n1) ∧ (n1) ≤ 65536) (h4 : (u0_9) ≤ (u0_18) ∧ (u0_18) ≤ (u0_8)) (h5 : 0 ≤ (a2) ∧ (a2) ≤ 3) (h6 : SHZD ((n4)) ((n5)) ((n6)) ((n7)) ((n8)) ((n9)) ((n10)) ((n11)) ((u3_1)) 32 256) (h7 : (n13) = 3 ∧ (n14) = 3 ∧ (n2) = 3) (h8 : TI3 (((w13)) 1) ((((D 25 : Nat) : Int))) ((((D 3 : Nat) : Int))) ((((D 17 : Nat) : Int)))) (h9 : SLB (((w13)) 1) ((((D 3 : Nat) : Int))) (SL ((w4)) ((u3_1)) ((u3_0)) ((w5)) ((w6)) ((w7)) ((w9)) ((w10)) ((w11)))) (h10 : SLB (((w13)) 1) ((((D 17 : Nat) : Int))) (SL ((w18)) ((u17_1)) ((u17_0)) ((w19)) ((w20)) ((w21)) ((w22)) ((w23)) ((w24)))) (h11 : ORB (((w13)) 1) ((((D 3 : Nat) : Int))) ((u3_0)) 8) (h12 : ORB (((w13)) 1) ((((D 17 : Nat) : Int))) ((u17_0)) 8) (k : ∀ (z : Int) (σ : rS) (Fₚ : hF) (Aₚ : hA), HW V249_c11_vd σ D N Fₚ Aₚ → OUT (V249_c11_vd).length D N σE c s D N σ c s → SF [(0, 9), (0, 21), (3, 0), (3, 10), (3, 11), (3, 12)] F Fₚ → SA [4, 5, 6, 7, 8, 9, 10, 11, 13] A Aₚ → ∀ y0_9 : Int, Fₚ 0 9 = y0_9 → ∀ y3_0 : Int, Fₚ 3 0 = y3_0 → ∀ v4 : Int → Int, Aₚ 4 = v4 → ∀ v5 : Int → Int, Aₚ 5 = v5 → ∀ v6 : Int → Int, Aₚ 6 = v6 → ∀ v7 : Int → Int, Aₚ 7 = v7 → ∀ v9 : Int → Int, Aₚ 9 = v9 → ∀ v10 : Int → Int, Aₚ 10 = v10 → ∀ v11 : Int → Int, Aₚ 11 = v11 → ∀ v13 : Int → Int, Aₚ 13 = v13 → (inr (z)) → (0 ≤ (z) ∧ (z) ≤ 17) → (0 ≤ (y0_9) ∧ (u0_9) ≤ (y0_9) ∧ (y0_9) ≤ (u0_8)) → ((y0_9) ≤ (u0_18)) → ((IMP ((z) = 0) (((v13)) 1 ≠ -1))) → (IMP ((z) = 0) (TI3 (((v13)) 1) ((((D 25 : Nat) : Int))) ((((D 3 : Nat) : Int))) ((((D 17 : Nat) : Int))))) → (IMP ((z) = 0) (SLB (((v13)) 1) ((((D 3 : Nat) : Int))) (SL ((v4)) ((u3_1)) ((y3_0)) ((v5)) ((v6)) ((v7)) ((v9)) ((v10)) ((v11))))) → (IMP ((z) = 0) (SLB (((v13)) 1) ((((D 17 : Nat) : Int))) (SL ((w18)) ((u17_1)) ((u17_0)) ((w19)) ((w20)) ((w21)) ((w22)) ((w23)) ((w24))))) → (IMP ((z) = 0) (ORB (((v13)) 1) ((((D 3 : Nat) : Int))) ((y3_0)) 8)) → (IMP ((z) = 0) (ORB (((v13)) 1) ((((D 17 : Nat) : Int))) ((u17_0)) 8)) → (1 = 0 ∨ ((v13)) 0 = ((w13)) 0) → (1 = 1 ∨ ((v13)) 1 = ((w13)) 1) → (1 = 2 ∨ ((v13)) 2 = ((w13)) 2) → Q (some (I z)) σ c s) : Ew 249 (d + 2) 0 (rargs 0 [.ref (D 0), I 1, I a2, I a3]) [] σE c s Q := by
  have O := OUT_refl (n := (V249_c11_vd).length) (D := D) (N := N) (σ := σE) (c := c) (s := s)
  have HE := H
  have r1 : (-2147483648 : Int) ≤ u0_8 ∧ u0_8 ≤ 2147483647 := rngE (show (-2147483648 : Int) ≤ F 0 8 ∧ F 0 8 ≤ 2147483647 from H.krg 0 8 (ltn len_V249_c11_vd_oz_I0acls rfl)) (show F 0 8 = u0_8 from (eu0_8))
  have r2 : (-2147483648 : Int) ≤ u0_9 ∧ u0_9 ≤ 2147483647 := rngE (show (-2147483648 : Int) ≤ F 0 9 ∧ F 0 9 ≤ 2147483647 from H.krg 0 9 (ltn len_V249_c11_vd_oz_I0acls rfl)) (show F 0 9 = u0_9 from (eu0_9))
  have r3 : (-2147483648 : Int) ≤ u0_18 ∧ u0_18 ≤ 2147483647 := rngE (show (-2147483648 : Int) ≤ F 0 18 ∧ F 0 18 ≤ 2147483647 from H.krg 0 18 (ltn len_V249_c11_vd_oz_I0acls rfl)) (show F 0 18 = u0_18 from (eu0_18))
  have r4 : (-2147483648 : Int) ≤ u3_0 ∧ u3_0 ≤ 2147483647 := rngE (show (-2147483648 : Int) ≤ F 3 0 ∧ F 3 0 ≤ 2147483647 from H.krg 3 0 (ltn len_V249_c11_vd_oz_I0acls rfl)) (show F 3 0 = u3_0 from (eu3_0))
  have r5 : (-2147483648 : Int) ≤ u3_1 ∧ u3_1 ≤ 2147483647 := rngE (show (-2147483648 : Int) ≤ F 3 1 ∧ F 3 1 ≤ 2147483647 from H.krg 3 1 (ltn len_V249_c11_vd_oz_I0acls rfl)) (show F 3 1 = u3_1 from (eu3_1))
  have r6 : (-2147483648 : Int) ≤ u17_0 ∧ u17_0 ≤ 2147483647 := rngE (show (-2147483648 : Int) ≤ F 17 0 ∧ F 17 0 ≤ 2147483647 from H.krg 17 0 (ltn len_V249_c11_vd_oz_I0acls rfl)) (show F 17 0 = u17_0 from (eu17_0))
  have r7 : (-2147483648 : Int) ≤ u17_1 ∧ u17_1 ≤ 2147483647 := rngE (show (-2147483648 : Int) ≤ F 17 1 ∧ F 17 1 ≤ 2147483647 from H.krg 17 1 (ltn len_V249_c11_vd_oz_I0acls rfl)) (show F 17 1 = u17_1 from (eu17_1))
  have r8 : (0 : Int) ≤ n1 ∧ n1 ≤ 1000000 := nleE (H.nle 1 (ltn len_V249_c11_vd_oz_I0acls rfl)) (show (N 1 : Int) = n1 from en1)
  have r9 : (0 : Int) ≤ n2 ∧ n2 ≤ 1000000 := nleE (H.nle 2 (ltn len_V249_c11_vd_oz_I0acls rfl)) (show (N 2 : Int) = n2 from en2)
  have r10 : (0 : Int) ≤ n4 ∧ n4 ≤ 1000000 := nleE (H.nle 4 (ltn len_V249_c11_vd_oz_I0acls rfl)) (show (N 4 : Int) = n4 from en4)
  have r11 : (0 : Int) ≤ n5 ∧ n5 ≤ 1000000 := nleE (H.nle 5 (ltn len_V249_c11_vd_oz_I0acls rfl)) (show (N 5 : Int) = n5 from en5)
  have r12 : (0 : Int) ≤ n6 ∧ n6 ≤ 1000000 := nleE (H.nle 6 (ltn len_V249_c11_vd_oz_I0acls rfl)) (show (N 6 : Int) = n6 from en6)
  have r13 : (0 : Int) ≤ n7 ∧ n7 ≤ 1000000 := nleE (H.nle 7 (ltn len_V249_c11_vd_oz_I0acls rfl)) (show (N 7 : Int) = n7 from en7)
  have r14 : (0 : Int) ≤ n8 ∧ n8 ≤ 1000000 := nleE (H.nle 8 (ltn len_V249_c11_vd_oz_I0acls rfl)) (show (N 8 : Int) = n8 from en8)
  have r15 : (0 : Int) ≤ n9 ∧ n9 ≤ 1000000 := nleE (H.nle 9 (ltn len_V249_c11_vd_oz_I0acls rfl)) (show (N 9 : Int) = n9 from en9)
  have r16 : (0 : Int) ≤ n10 ∧ n10 ≤ 1000000 := nleE (H.nle 10 (ltn len_V249_c11_vd_oz_I0acls rfl)) (show (N 10 : Int) = n10 from en10)
  have r17 : (0 : Int) ≤ n11 ∧ n11 ≤ 1000000 := nleE (H.nle 11 (ltn len_V249_c11_vd_oz_I0acls rfl)) (show (N 11 : Int) = n11 from en11)
  have r18 : (0 : Int) ≤ n13 ∧ n13 ≤ 1000000 := nleE (H.nle 13 (ltn len_V249_c11_vd_oz_I0acls rfl)) (show (N 13 : Int) = n13 from en13)
  have r19 : (0 : Int) ≤ n14 ∧ n14 ≤ 1000000 := nleE (H.nle 14 (ltn len_V249_c11_vd_oz_I0acls rfl)) (show (N 14 : Int) = n14 from en14)
  have hszq : SHZD ((n4)) ((n5)) ((n6)) ((n7)) ((n8)) ((n9)) ((n10)) ((n11)) ((u3_1)) 32 256 := h6
  unfold SHZD at hszq
  have hnea : (((D 25 : Nat) : Int)) ≠ (((D 3 : Nat) : Int)) := dneZ H 25 3 rfl rfl rfl
  have hneb : (((D 25 : Nat) : Int)) ≠ (((D 17 : Nat) : Int)) := dneZ H 25 17 rfl rfl rfl
  have hnec : (((D 3 : Nat) : Int)) ≠ (((D 17 : Nat) : Int)) := dneZ H 3 17 rfl rfl rfl
  refine Ew_of (pcₚ := 1) (fun _ => x_iload_n rfl rfl) ?_
  refine Ew_of (pcₚ := 2) (fun _ => x_iconst rfl) ?_
  refine w_icmpne (t := 29) rfl rfl (show inr (a2) from h1) (show inr (3) from q_66) (fun b20 => ?_) (fun b20 => ?_)
  · refine Ew_of (pcₚ := 30) (fun _ => x_aload_n rfl rfl) ?_
    refine v_g H (o := 0) (v := .ref (D 12)) rfl rfl rfl rfl rfl (vrf (pf12)) ?_
    refine v_g H (o := 12) (v := .ref (D 13)) rfl rfl rfl rfl rfl (vrf (pf13)) ?_
    refine Ew_of (pcₚ := 37) (fun _ => x_iload_n rfl rfl) ?_
    refine Ew_of (pcₚ := 38) (fun _ => x_iload_n rfl rfl) ?_
    refine w_ifne (t := 50) rfl rfl (show inr (a2) from h1) (fun b21 => ?_) (fun b21 => ?_)
    · refine Ew_of (pcₚ := 51) (fun _ => x_aload_n rfl rfl) ?_
      refine v_g H (o := 0) (v := .ref (D 2)) rfl rfl rfl rfl rfl (vrf (pf2)) ?_
      refine Ew_of (pcₚ := 55) (fun _ => x_iload_n rfl rfl) ?_
      have hs_ := upd1_s (a := ((w13))) (j := 1) (z := (((D 3 : Nat) : Int)))
      have hu0_ : (1 : Int) = 0 ∨ upd1 ((w13)) 1 ((((D 3 : Nat) : Int))) 0 = ((w13)) 0 := by by_cases w : (0 : Int) = 1; exact .inl (by omega); exact .inr (upd1_o w)
      have hu1_ : (1 : Int) = 1 ∨ upd1 ((w13)) 1 ((((D 3 : Nat) : Int))) 1 = ((w13)) 1 := by by_cases w : (1 : Int) = 1; exact .inl (by omega); exact .inr (upd1_o w)
      have hu2_ : (1 : Int) = 2 ∨ upd1 ((w13)) 1 ((((D 3 : Nat) : Int))) 2 = ((w13)) 2 := by by_cases w : (2 : Int) = 1; exact .inl (by omega); exact .inr (upd1_o w)
      refine v_lR H (o := 2) rfl rfl rfl rfl rfl (n := n2) (en2) (show 0 ≤ 1 ∧ 1 < n2 from q_3805 h7 r9) (z := ((D 3 : Nat) : Int)) (v := .ref (D 3)) (pf3) (vrf rfl) ?_
      refine v_sR H (o := 13) (z := ((D 3 : Nat) : Int)) (v := .ref (D 3)) rfl rfl rfl rfl rfl (n := n13) (en13) (show 0 ≤ 1 ∧ 1 < n13 from q_3806 h7 r18) (show (-1 : Int) ≤ ((D 3 : Nat) : Int) by omega) (vrf rfl) (rkinR H (x := 3) rfl rfl rfl) (fun σ H Oₚ => ?_)
      have O := OUT_trans O Oₚ
      have cAu22 : SA oz_I0aclsl_0 A (updA A 13 (1) (((D 3 : Nat) : Int))) := SA_upd (SA_refl) rfl
      have mAu22 := SAm_of cAu22 oz_I0acls_4
      refine Ew_of (pcₚ := 58) (fun _ => x_iload_n rfl rfl) ?_
      refine Ew_of (pcₚ := 59) (fun _ => x_iconst rfl) ?_
      refine w_icmpne (t := 138) rfl rfl (show inr (a2) from h1) (show inr (1) from h0) (fun b23 => ?_) (fun b23 => ?_)
      · refine Ew_of (pcₚ := 139) (fun _ => x_iload_n rfl rfl) ?_
        refine Ew_of (pcₚ := 140) (fun _ => x_iconst rfl) ?_
        refine w_icmpne (t := 190) rfl rfl (show inr (a2) from h1) (show inr (2) from q_55) (fun b24 => ?_) (fun b24 => ?_)
        · refine Ew_of (pcₚ := 191) (fun _ => x_iconst rfl) ?_
          have hfi0 : IMP (((0) : Int) = 0) (TI3 (((upd1 (w13) (1) (((D 3 : Nat) : Int)))) 1) ((((D 25 : Nat) : Int))) ((((D 3 : Nat) : Int))) ((((D 17 : Nat) : Int)))) := by exact fun q => absurd q (by omega)
          have hfi1 : IMP (((0) : Int) = 0) (SLB (((upd1 (w13) (1) (((D 3 : Nat) : Int)))) 1) ((((D 3 : Nat) : Int))) (SL ((w4)) ((u3_1)) ((u3_0)) ((w5)) ((w6)) ((w7)) ((w9)) ((w10)) ((w11)))) := by exact fun q => absurd q (by omega)
          have hfi2 : IMP (((0) : Int) = 0) (SLB (((upd1 (w13) (1) (((D 3 : Nat) : Int)))) 1) ((((D 17 : Nat) : Int))) (SL ((w18)) ((u17_1)) ((u17_0)) ((w19)) ((w20)) ((w21)) ((w22)) ((w23)) ((w24)))) := by exact fun q => absurd q (by omega)
          have hfi3 : IMP (((0) : Int) = 0) (ORB (((upd1 (w13) (1) (((D 3 : Nat) : Int)))) 1) ((((D 3 : Nat) : Int))) ((u3_0)) 8) := by exact fun q => absurd q (by omega)
          have hfi4 : IMP (((0) : Int) = 0) (ORB (((upd1 (w13) (1) (((D 3 : Nat) : Int)))) 1) ((((D 17 : Nat) : Int))) ((u17_0)) 8) := by exact fun q => absurd q (by omega)
          have hfn : (IMP (((0) : Int) = 0) (((upd1 (w13) (1) (((D 3 : Nat) : Int)))) 1 ≠ -1)) := by exact fun q => absurd q (by omega)
          exact w_ireturn rfl (k (0) _ _ _ H O (SF_refl) (cAu22) (u0_9) ((eu0_9)) (u3_0) ((eu3_0)) (w4) (ew4) (w5) (ew5) (w6) (ew6) (w7) (ew7) (w9) (ew9) (w10) (ew10) (w11) (ew11) (upd1 (w13) (1) (((D 3 : Nat) : Int))) (congrArg (fun q => upd1 q (1) (((D 3 : Nat) : Int))) (ew13)) (show inr (0) from q_20) (show 0 ≤ (0) ∧ (0) ≤ 17 by first | exact q_3589 | omega) (show 0 ≤ (u0_9) ∧ (u0_9) ≤ (u0_9) ∧ (u0_9) ≤ (u0_8) from q_3590 h3) (show (u0_9) ≤ (u0_18) from q_1468 h4) (show (IMP ((0) = 0) (((upd1 (w13) (1) (((D 3 : Nat) : Int)))) 1 ≠ -1)) by assumption) (show IMP ((0) = 0) (TI3 (((upd1 (w13) (1) (((D 3 : Nat) : Int)))) 1) ((((D 25 : Nat) : Int))) ((((D 3 : Nat) : Int))) ((((D 17 : Nat) : Int)))) by assumption) (show IMP ((0) = 0) (SLB (((upd1 (w13) (1) (((D 3 : Nat) : Int)))) 1) ((((D 3 : Nat) : Int))) (SL ((w4)) ((u3_1)) ((u3_0)) ((w5)) ((w6)) ((w7)) ((w9)) ((w10)) ((w11)))) by assumption) (show IMP ((0) = 0) (SLB (((upd1 (w13) (1) (((D 3 : Nat) : Int)))) 1) ((((D 17 : Nat) : Int))) (SL ((w18)) ((u17_1)) ((u17_0)) ((w19)) ((w20)) ((w21)) ((w22)) ((w23)) ((w24)))) by assumption) (show IMP ((0) = 0) (ORB (((upd1 (w13) (1) (((D 3 : Nat) : Int)))) 1) ((((D 3 : Nat) : Int))) ((u3_0)) 8) by assumption) (show IMP ((0) = 0) (ORB (((upd1 (w13) (1) (((D 3 : Nat) : Int)))) 1) ((((D 17 : Nat) : Int))) ((u17_0)) 8) by assumption) (show 1 = 0 ∨ ((upd1 (w13) (1) (((D 3 : Nat) : Int)))) 0 = ((w13)) 0 by omega) (show 1 = 1 ∨ ((upd1 (w13) (1) (((D 3 : Nat) : Int)))) 1 = ((w13)) 1 by first | exact q_3503 | omega) (show 1 = 2 ∨ ((upd1 (w13) (1) (((D 3 : Nat) : Int)))) 2 = ((w13)) 2 by omega))
        · refine Ew_of (pcₚ := 144) (fun _ => x_aload_n rfl rfl) ?_
          refine v_g H (o := 0) (v := .ref (D 2)) rfl rfl rfl rfl rfl (vrf (pf2)) ?_
          refine Ew_of (pcₚ := 148) (fun _ => x_iload_n rfl rfl) ?_
          refine v_lR H (o := 2) rfl rfl rfl rfl rfl (n := n2) (en2) (show 0 ≤ 1 ∧ 1 < n2 from q_3805 h7 r9) (z := ((D 3 : Nat) : Int)) (v := .ref (D 3)) ((mAu22 2 rfl 1).trans (pf3)) (vrf rfl) ?_
          refine Ew_of (pcₚ := 150) (fun _ => x_aload_n rfl rfl) ?_
          refine v_g H (o := 0) (v := .ref (D 1)) rfl rfl rfl rfl rfl (vrf (pf1)) ?_
          refine Ew_of (pcₚ := 154) (fun _ => x_aload_n rfl rfl) ?_
          refine v_g H (o := 0) (v := I (u0_9)) rfl rfl rfl rfl rfl (congrArg (fun z : Int => I z) ((eu0_9) : F 0 9 = u0_9)) ?_
          refine Ew_of (pcₚ := 158) (fun _ => x_aload_n rfl rfl) ?_
          refine v_g H (o := 0) (v := I (u0_18)) rfl rfl rfl rfl rfl (congrArg (fun z : Int => I z) ((eu0_18) : F 0 18 = u0_18)) ?_
          refine Ew_of (pcₚ := 164) (fun _ => x_getstatic rfl) ?_
          refine Ew_of (pcₚ := 165) (fun _ => x_iload_n rfl rfl) ?_
          refine v_stI (STC_out HT HE O) (b := 2) (n := 3) rfl rfl rfl rfl (show 0 ≤ 1 ∧ 1 < 3 from q_3502) (fun v25 ev25 qv25 => ?_)
          have hgo := ev25
          have hgv : ((v25) : Int) = 8 := by rw [← hgo]; rfl
          have hpg : p2 ((v25)) = 256 := by rw [hgv]; decide
          refine v_inv H (o := 3) rfl rfl rfl rfl rfl rfl (by rfl) (C184_Br (D := puc 26643665609639073069400579 D) (N := puc 26643665609639073069400579 N) (HW_subc H oz_I0acls_10 oz_I0acls_6) (pf9) (pf4) (pf5) (pf6) (pf7) (pf8) (pf10) (pf11) (n1) (en1) (n9) (en9) (n4) (en4) (n5) (en5) (n6) (en6) (n7) (en7) (n8) (en8) (n10) (en10) (n11) (en11) (u3_0) ((eu3_0)) (u3_1) ((eu3_1)) (w9) (ew9) (w4) (ew4) (w5) (ew5) (w6) (ew6) (w7) (ew7) (w10) (ew10) (w11) (ew11) (show inr (u0_9) from q_3585 h3) (show inr (u0_18) from q_22 r3) (show inr (v25) from qv25) (show 0 ≤ (u0_9) ∧ (u0_9) ≤ (u0_18) ∧ (u0_18) ≤ (n1) ∧ (n1) ≤ 65536 from q_3794 h3 h4) (show 5 ≤ (v25) ∧ (v25) ≤ 9 ∧ p2 (v25) ≤ (n9) by omega) (show (n4) = (u3_1) ∧ (n5) = (u3_1) ∧ (n6) = (u3_1) ∧ (n7) = (u3_1) ∧ (n8) = (u3_1) ∧ (n10) = (n9) ∧ (n11) = (n9) ∧ 1 ≤ (u3_1) ∧ (u3_1) ≤ 64 by omega) (fun z26 σ26 F26ₚ A26ₚ Hₚ Oₚ hS26 hA26 y26_0_0 (ey26_0_0 : HID _) w26_2 ew26_2 w26_3 ew26_3 w26_4 ew26_4 w26_5 ew26_5 w26_6 ew26_6 w26_8 ew26_8 w26_9 ew26_9 (pq26_0 : HID _) pz26_0 pz26_1 pz26_2 pz26_3 => ⟨rfl, ?_⟩))
          refine v_backc (c := c) (s := s) H oz_I0acls_10 oz_I0acls_6 Hₚ Oₚ (fun F26 A26 H Oₚ eF26 eA26 => ?_)
          have O := OUT_trans O Oₚ
          -- Share.hear
          have cF26 : SF oz_I0aclsl_1 F F26 := SF_trans (SF_refl) (SF_gluc (ι := oz_I0aclsl_2) oz_I0acls_6 hS26 eF26 (by decide +kernel)) (any_sub (lₚ := [(3, 0), (3, 10), (3, 11), (3, 12)]) (by decide +kernel))
          have mF26 := SFm_of cF26 oz_I0acls_5
          have cA26 : SA oz_I0aclsl_0 A A26 := SA_trans (cAu22) (SA_gluc (ι := oz_I0aclsl_2) oz_I0acls_6 hA26 eA26 (by decide +kernel)) (any_subA (lₚ := [4, 5, 6, 7, 8, 9, 10, 11]) (by decide +kernel))
          have mA26 := SAm_of cA26 oz_I0acls_4
          have pl26_0 : HID (F26 3 10 = (D 1 : Int)) := (eF26 3 10).trans (pq26_0)
          have r27 : (-2147483648 : Int) ≤ y26_0_0 ∧ y26_0_0 ≤ 2147483647 := rngE (show (-2147483648 : Int) ≤ F26 3 0 ∧ F26 3 0 ≤ 2147483647 from H.krg 3 0 (ltn len_V249_c11_vd_oz_I0acls rfl)) (show F26 3 0 = y26_0_0 from ((eF26 3 0).trans ey26_0_0))
          refine Ew_of (pcₚ := 171) (fun _ => x_istore rfl) ?_
          refine Ew_of (pcₚ := 173) (fun _ => x_iload rfl rk_s) ?_
          refine w_ifge (t := 184) rfl rfl (show inr (z26) from pz26_0) (fun b28 => ?_) (fun b28 => ?_)
          · have hown := Or.resolve_left pz26_3 (by omega)
            have hord : (y26_0_0) ≤ 8 := q_3807 b28 hgv pz26_2 r27
            refine Ew_of (pcₚ := 185) (fun _ => x_aload_n rfl (rk_o (rfl) rfl rfl)) ?_
            refine Ew_of (pcₚ := 187) (fun _ => x_iload rfl rk_s) ?_
            refine v_p H (o := 0) (z := z26) (v := I (z26)) rfl rfl rfl rfl rfl rfl rfl rfl (show (-2147483648 : Int) ≤ z26 ∧ z26 ≤ 2147483647 from q_3761 b28 pz26_0) (fun σ H Oₚ => ?_)
            have O := OUT_trans O Oₚ
            have cFu29 : SF oz_I0aclsl_1 F (updF F26 0 9 (z26)) := SF_upd (cF26) rfl
            have mFu29 := SFm_of cFu29 oz_I0acls_5
            refine Ew_of (pcₚ := 191) (fun _ => x_iconst rfl) ?_
            have hfi0 : IMP (((0) : Int) = 0) (TI3 (((upd1 (w13) (1) (((D 3 : Nat) : Int)))) 1) ((((D 25 : Nat) : Int))) ((((D 3 : Nat) : Int))) ((((D 17 : Nat) : Int)))) := by exact fun _ => .inr (by omega)
            have hfi1 : IMP (((0) : Int) = 0) (SLB (((upd1 (w13) (1) (((D 3 : Nat) : Int)))) 1) ((((D 3 : Nat) : Int))) (SL ((w26_3)) ((u3_1)) ((y26_0_0)) ((w26_4)) ((w26_5)) ((w26_6)) ((w26_2)) ((w26_8)) ((w26_9)))) := by exact fun _ => .inr hown
            have hfi2 : IMP (((0) : Int) = 0) (SLB (((upd1 (w13) (1) (((D 3 : Nat) : Int)))) 1) ((((D 17 : Nat) : Int))) (SL ((w18)) ((u17_1)) ((u17_0)) ((w19)) ((w20)) ((w21)) ((w22)) ((w23)) ((w24)))) := by exact fun _ => .inl (by omega)
            have hfi3 : IMP (((0) : Int) = 0) (ORB (((upd1 (w13) (1) (((D 3 : Nat) : Int)))) 1) ((((D 3 : Nat) : Int))) ((y26_0_0)) 8) := by exact fun _ => .inr (by omega)
            have hfi4 : IMP (((0) : Int) = 0) (ORB (((upd1 (w13) (1) (((D 3 : Nat) : Int)))) 1) ((((D 17 : Nat) : Int))) ((u17_0)) 8) := by exact fun _ => .inl (by omega)
            have hfn : (IMP (((0) : Int) = 0) (((upd1 (w13) (1) (((D 3 : Nat) : Int)))) 1 ≠ -1)) := by exact fun _ => (by omega)
            exact w_ireturn rfl (k (0) _ _ _ H O (cFu29) (cA26) (z26) (rfl) (y26_0_0) (((eF26 3 0).trans ey26_0_0)) (w26_3) ((eA26 4).trans ew26_3) (w26_4) ((eA26 5).trans ew26_4) (w26_5) ((eA26 6).trans ew26_5) (w26_6) ((eA26 7).trans ew26_6) (w26_2) ((eA26 9).trans ew26_2) (w26_8) ((eA26 10).trans ew26_8) (w26_9) ((eA26 11).trans ew26_9) (upd1 (w13) (1) (((D 3 : Nat) : Int))) (((show A26 13 = (updA A 13 (1) (((D 3 : Nat) : Int))) 13 from (eA26 13))).trans (congrArg (fun q => upd1 q (1) (((D 3 : Nat) : Int))) (ew13))) (show inr (0) from q_20) (show 0 ≤ (0) ∧ (0) ≤ 17 by first | exact q_3589 | omega) (show 0 ≤ (z26) ∧ (u0_9) ≤ (z26) ∧ (z26) ≤ (u0_8) from q_3797 b28 h3 h4 pz26_1 pz26_3) (show (z26) ≤ (u0_18) from q_3796 b28 pz26_1 pz26_3 r3) (show (IMP ((0) = 0) (((upd1 (w13) (1) (((D 3 : Nat) : Int)))) 1 ≠ -1)) by assumption) (show IMP ((0) = 0) (TI3 (((upd1 (w13) (1) (((D 3 : Nat) : Int)))) 1) ((((D 25 : Nat) : Int))) ((((D 3 : Nat) : Int))) ((((D 17 : Nat) : Int)))) by assumption) (show IMP ((0) = 0) (SLB (((upd1 (w13) (1) (((D 3 : Nat) : Int)))) 1) ((((D 3 : Nat) : Int))) (SL ((w26_3)) ((u3_1)) ((y26_0_0)) ((w26_4)) ((w26_5)) ((w26_6)) ((w26_2)) ((w26_8)) ((w26_9)))) by assumption) (show IMP ((0) = 0) (SLB (((upd1 (w13) (1) (((D 3 : Nat) : Int)))) 1) ((((D 17 : Nat) : Int))) (SL ((w18)) ((u17_1)) ((u17_0)) ((w19)) ((w20)) ((w21)) ((w22)) ((w23)) ((w24)))) by assumption) (show IMP ((0) = 0) (ORB (((upd1 (w13) (1) (((D 3 : Nat) : Int)))) 1) ((((D 3 : Nat) : Int))) ((y26_0_0)) 8) by assumption) (show IMP ((0) = 0) (ORB (((upd1 (w13) (1) (((D 3 : Nat) : Int)))) 1) ((((D 17 : Nat) : Int))) ((u17_0)) 8) by assumption) (show 1 = 0 ∨ ((upd1 (w13) (1) (((D 3 : Nat) : Int)))) 0 = ((w13)) 0 by omega) (show 1 = 1 ∨ ((upd1 (w13) (1) (((D 3 : Nat) : Int)))) 1 = ((w13)) 1 by first | exact q_3503 | omega) (show 1 = 2 ∨ ((upd1 (w13) (1) (((D 3 : Nat) : Int)))) 2 = ((w13)) 2 by omega))
          · refine Ew_of (pcₚ := 177) (fun _ => x_aload_n rfl (rk_o (rfl) rfl rfl)) ?_
            refine Ew_of (pcₚ := 179) (fun _ => x_bipush (z := 16) rfl (by decide)) ?_
            refine Ew_of (pcₚ := 180) (fun _ => x_iload_n rfl (rk_o (rfl) rfl rfl)) ?_
            have r30 : (-2147483648 : Int) ≤ F 0 21 ∧ F 0 21 ≤ 2147483647 := rngE (show (-2147483648 : Int) ≤ F26 0 21 ∧ F26 0 21 ≤ 2147483647 from H.krg 0 21 (ltn len_V249_c11_vd_oz_I0acls rfl)) (show F26 0 21 = F 0 21 from ((show F26 0 21 = F 0 21 from (eF26 0 21))))
            refine v_inv H (o := 0) rfl rfl rfl rfl rfl rfl (by rfl) (C232 (D := puc 0 D) (N := puc 0 N) (HW_subc H oz_I0acls_11 oz_I0acls_7) (F 0 21) (((show F26 0 21 = F 0 21 from (eF26 0 21)))) (show inr (16) from q_86) (show inr (a3) from h2) (fun z31 σ31 F31ₚ A31ₚ Hₚ Oₚ hS31 hA31 y31_0_21 (ey31_0_21 : HID _) pz31_0 pz31_1 pz31_2 => ⟨rfl, ?_⟩))
            refine v_backc (c := c) (s := s) H oz_I0acls_11 oz_I0acls_7 Hₚ Oₚ (fun F31 A31 H Oₚ eF31 eA31 => ?_)
            have O := OUT_trans O Oₚ
            -- Unpacker.fail
            have cF31 : SF oz_I0aclsl_1 F F31 := SF_trans (cF26) (SF_gluc (ι := oz_I0aclsl_3) oz_I0acls_7 hS31 eF31 (by decide +kernel)) (any_sub (lₚ := [(0, 21)]) (by decide +kernel))
            have mF31 := SFm_of cF31 oz_I0acls_5
            have cA31 : SA oz_I0aclsl_0 A A31 := SA_trans (cA26) (SA_gluc (ι := oz_I0aclsl_3) oz_I0acls_7 hA31 eA31 (by decide +kernel)) (any_subA (lₚ := []) (by decide +kernel))
            have mA31 := SAm_of cA31 oz_I0acls_4
            have r32 : (-2147483648 : Int) ≤ y31_0_21 ∧ y31_0_21 ≤ 2147483647 := rngE (show (-2147483648 : Int) ≤ F31 0 21 ∧ F31 0 21 ≤ 2147483647 from H.krg 0 21 (ltn len_V249_c11_vd_oz_I0acls rfl)) (show F31 0 21 = y31_0_21 from ((eF31 0 21).trans ey31_0_21))
            have hfi0 : IMP (((z31) : Int) = 0) (TI3 (((upd1 (w13) (1) (((D 3 : Nat) : Int)))) 1) ((((D 25 : Nat) : Int))) ((((D 3 : Nat) : Int))) ((((D 17 : Nat) : Int)))) := by exact fun q => absurd q (by omega)
            have hfi1 : IMP (((z31) : Int) = 0) (SLB (((upd1 (w13) (1) (((D 3 : Nat) : Int)))) 1) ((((D 3 : Nat) : Int))) (SL ((w26_3)) ((u3_1)) ((y26_0_0)) ((w26_4)) ((w26_5)) ((w26_6)) ((w26_2)) ((w26_8)) ((w26_9)))) := by exact fun q => absurd q (by omega)
            have hfi2 : IMP (((z31) : Int) = 0) (SLB (((upd1 (w13) (1) (((D 3 : Nat) : Int)))) 1) ((((D 17 : Nat) : Int))) (SL ((w18)) ((u17_1)) ((u17_0)) ((w19)) ((w20)) ((w21)) ((w22)) ((w23)) ((w24)))) := by exact fun q => absurd q (by omega)
            have hfi3 : IMP (((z31) : Int) = 0) (ORB (((upd1 (w13) (1) (((D 3 : Nat) : Int)))) 1) ((((D 3 : Nat) : Int))) ((y26_0_0)) 8) := by exact fun q => absurd q (by omega)
            have hfi4 : IMP (((z31) : Int) = 0) (ORB (((upd1 (w13) (1) (((D 3 : Nat) : Int)))) 1) ((((D 17 : Nat) : Int))) ((u17_0)) 8) := by exact fun q => absurd q (by omega)
            have hfn : (IMP (((z31) : Int) = 0) (((upd1 (w13) (1) (((D 3 : Nat) : Int)))) 1 ≠ -1)) := by exact fun q => absurd q (by omega)
            exact w_ireturn rfl (k (z31) _ _ _ H O (cF31) (cA31) (u0_9) (((((show F31 0 9 = F26 0 9 from (eF31 0 9).trans (hS31 0 9 rfl))).trans ((show F26 0 9 = F 0 9 from (eF26 0 9)))).trans (eu0_9))) (y26_0_0) ((((show F31 3 0 = F26 3 0 from (eF31 3 0))).trans ((eF26 3 0).trans ey26_0_0))) (w26_3) (((show A31 4 = A26 4 from (eA31 4))).trans ((eA26 4).trans ew26_3)) (w26_4) (((show A31 5 = A26 5 from (eA31 5))).trans ((eA26 5).trans ew26_4)) (w26_5) (((show A31 6 = A26 6 from (eA31 6))).trans ((eA26 6).trans ew26_5)) (w26_6) (((show A31 7 = A26 7 from (eA31 7))).trans ((eA26 7).trans ew26_6)) (w26_2) (((show A31 9 = A26 9 from (eA31 9))).trans ((eA26 9).trans ew26_2)) (w26_8) (((show A31 10 = A26 10 from (eA31 10))).trans ((eA26 10).trans ew26_8)) (w26_9) (((show A31 11 = A26 11 from (eA31 11))).trans ((eA26 11).trans ew26_9)) (upd1 (w13) (1) (((D 3 : Nat) : Int))) (((show A31 13 = A26 13 from (eA31 13))).trans (((show A26 13 = (updA A 13 (1) (((D 3 : Nat) : Int))) 13 from (eA26 13))).trans (congrArg (fun q => upd1 q (1) (((D 3 : Nat) : Int))) (ew13)))) (show inr (z31) from pz31_0) (show 0 ≤ (z31) ∧ (z31) ≤ 17 from q_3798 pz31_1) (show 0 ≤ (u0_9) ∧ (u0_9) ≤ (u0_9) ∧ (u0_9) ≤ (u0_8) from q_3590 h3) (show (u0_9) ≤ (u0_18) from q_1468 h4) (show (IMP ((z31) = 0) (((upd1 (w13) (1) (((D 3 : Nat) : Int)))) 1 ≠ -1)) from hfn) (show IMP ((z31) = 0) (TI3 (((upd1 (w13) (1) (((D 3 : Nat) : Int)))) 1) ((((D 25 : Nat) : Int))) ((((D 3 : Nat) : Int))) ((((D 17 : Nat) : Int)))) from hfi0) (show IMP ((z31) = 0) (SLB (((upd1 (w13) (1) (((D 3 : Nat) : Int)))) 1) ((((D 3 : Nat) : Int))) (SL ((w26_3)) ((u3_1)) ((y26_0_0)) ((w26_4)) ((w26_5)) ((w26_6)) ((w26_2)) ((w26_8)) ((w26_9)))) from hfi1) (show IMP ((z31) = 0) (SLB (((upd1 (w13) (1) (((D 3 : Nat) : Int)))) 1) ((((D 17 : Nat) : Int))) (SL ((w18)) ((u17_1)) ((u17_0)) ((w19)) ((w20)) ((w21)) ((w22)) ((w23)) ((w24)))) from hfi2) (show IMP ((z31) = 0) (ORB (((upd1 (w13) (1) (((D 3 : Nat) : Int)))) 1) ((((D 3 : Nat) : Int))) ((y26_0_0)) 8) from hfi3) (show IMP ((z31) = 0) (ORB (((upd1 (w13) (1) (((D 3 : Nat) : Int)))) 1) ((((D 17 : Nat) : Int))) ((u17_0)) 8) from hfi4) (show 1 = 0 ∨ ((upd1 (w13) (1) (((D 3 : Nat) : Int)))) 0 = ((w13)) 0 by omega) (show 1 = 1 ∨ ((upd1 (w13) (1) (((D 3 : Nat) : Int)))) 1 = ((w13)) 1 by first | exact q_3503 | omega) (show 1 = 2 ∨ ((upd1 (w13) (1) (((D 3 : Nat) : Int)))) 2 = ((w13)) 2 by omega))
      · refine Ew_of (pcₚ := 63) (fun _ => x_aload_n rfl rfl) ?_
        refine v_g H (o := 0) (v := I (u0_9)) rfl rfl rfl rfl rfl (congrArg (fun z : Int => I z) ((eu0_9) : F 0 9 = u0_9)) ?_
        refine Ew_of (pcₚ := 67) (fun _ => x_aload_n rfl rfl) ?_
        refine v_g H (o := 0) (v := I (u0_18)) rfl rfl rfl rfl rfl (congrArg (fun z : Int => I z) ((eu0_18) : F 0 18 = u0_18)) ?_
        refine w_icmplt (t := 84) rfl rfl (show inr (u0_9) from q_3585 h3) (show inr (u0_18) from q_22 r3) (fun b33 => ?_) (fun b33 => ?_)
        · refine Ew_of (pcₚ := 85) (fun _ => x_aload_n rfl rfl) ?_
          refine v_g H (o := 0) (v := .ref (D 1)) rfl rfl rfl rfl rfl (vrf (pf1)) ?_
          refine Ew_of (pcₚ := 89) (fun _ => x_aload_n rfl rfl) ?_
          refine Ew_of (pcₚ := 90) (fun _ => x_dup rfl rfl) ?_
          refine v_g H (o := 0) (v := I (u0_9)) rfl rfl rfl rfl rfl (congrArg (fun z : Int => I z) ((eu0_9) : F 0 9 = u0_9)) ?_
          refine Ew_of (pcₚ := 94) (fun _ => x_dup_x1 rfl rfl) ?_
          refine Ew_of (pcₚ := 95) (fun _ => x_iconst rfl) ?_
          refine w_iadd rfl ?_
          refine v_p H (o := 0) (z := (u0_9 + 1)) (v := I ((u0_9 + 1))) rfl rfl rfl rfl rfl rfl rfl rfl (show (-2147483648 : Int) ≤ (u0_9 + 1) ∧ (u0_9 + 1) ≤ 2147483647 from q_3799 h3) (fun σ H Oₚ => ?_)
          have O := OUT_trans O Oₚ
          have cFu34 : SF oz_I0aclsl_1 F (updF F 0 9 ((u0_9 + 1))) := SF_upd (SF_refl) rfl
          have mFu34 := SFm_of cFu34 oz_I0acls_5
          refine v_lB H (o := 1) rfl rfl rfl rfl (n := n1) (en1) (show 0 ≤ u0_9 ∧ u0_9 < n1 from q_3635 b33 h3 h4) (fun v35 ev35 qv35 => ?_)
          have ev35 : (A 1) (u0_9) = v35 := (congrFun (funext (mAu22 1 rfl)) (u0_9)).symm.trans ev35
          refine Ew_of (pcₚ := 103) (fun _ => x_sipush (z := 255) rfl (by decide)) ?_
          refine w_iand rfl (show inr (v35) from q_2536 qv35) (show inr (255) from q_36) (fun z36 gz36 gaz36 gbz36 => ?_)
          refine Ew_of (pcₚ := 106) (fun _ => x_istore rfl) ?_
          refine Ew_of (pcₚ := 108) (fun _ => x_iload rfl rk_s) ?_
          refine Ew_of (pcₚ := 111) (fun _ => x_getstatic rfl) ?_
          refine Ew_of (pcₚ := 112) (fun _ => x_iload_n rfl (rk_o (rfl) rfl rfl)) ?_
          refine v_stI (STC_out HT HE O) (b := 3) (n := 3) rfl rfl rfl rfl (show 0 ≤ 1 ∧ 1 < 3 from q_3502) (fun v37 ev37 qv37 => ?_)
          have hlv := ev37
          have hlw : ((v37) : Int) = 31 := by rw [← hlv]; rfl
          refine w_icmple (t := 124) rfl rfl (show inr (z36) from gz36) (show inr (v37) from qv37) (fun b38 => ?_) (fun b38 => ?_)
          · refine Ew_of (pcₚ := 125) (fun _ => x_aload_n rfl (rk_o (rfl) rfl rfl)) ?_
            refine v_g H (o := 0) (v := .ref (D 2)) rfl rfl rfl rfl rfl (vrf ((mFu34 0 2 rfl).trans (pf2))) ?_
            refine Ew_of (pcₚ := 129) (fun _ => x_iload_n rfl (rk_o (rfl) rfl rfl)) ?_
            refine v_lR H (o := 2) rfl rfl rfl rfl rfl (n := n2) (en2) (show 0 ≤ 1 ∧ 1 < n2 from q_3805 h7 r9) (z := ((D 3 : Nat) : Int)) (v := .ref (D 3)) ((mAu22 2 rfl 1).trans (pf3)) (vrf rfl) ?_
            refine Ew_of (pcₚ := 132) (fun _ => x_iload rfl rk_s) ?_
            refine v_inv H (o := 3) rfl rfl rfl rfl rfl rfl (by rfl) (C168 (D := puc 52038409393826314588675 D) (N := puc 52038409393826314588675 N) (HW_subc H oz_I0acls_12 oz_I0acls_8) ((mFu34 3 7 rfl).trans (pf9)) ((mFu34 3 2 rfl).trans (pf4)) ((mFu34 3 3 rfl).trans (pf5)) ((mFu34 3 4 rfl).trans (pf6)) ((mFu34 3 5 rfl).trans (pf7)) ((mFu34 3 6 rfl).trans (pf8)) ((mFu34 3 8 rfl).trans (pf10)) ((mFu34 3 9 rfl).trans (pf11)) (n9) (en9) (n4) (en4) (n5) (en5) (n6) (en6) (n7) (en7) (n8) (en8) (n10) (en10) (n11) (en11) (u3_0) ((eu3_0)) (u3_1) (((mFu34 3 1 rfl).trans (eu3_1))) (w9) (ew9) (w4) (ew4) (w5) (ew5) (w6) (ew6) (w7) (ew7) (w10) (ew10) (w11) (ew11) (show inr (z36) from gz36) (show (n9) ≥ 1 by omega) (show (n4) = (u3_1) ∧ (n5) = (u3_1) ∧ (n6) = (u3_1) ∧ (n7) = (u3_1) ∧ (n8) = (u3_1) ∧ (n10) = (n9) ∧ (n11) = (n9) ∧ 1 ≤ (u3_1) ∧ (u3_1) ≤ 64 by omega) (show 0 ≤ (z36) ∧ (z36) < ((u3_1)) by omega) (fun σ39 F39ₚ A39ₚ Hₚ Oₚ hS39 hA39 y39_0_0 (ey39_0_0 : HID _) w39_1 ew39_1 w39_2 ew39_2 w39_3 ew39_3 w39_4 ew39_4 w39_5 ew39_5 w39_7 ew39_7 w39_8 ew39_8 pz39_0 pz39_1 => ⟨rfl, ?_⟩))
            refine v_backc (c := c) (s := s) H oz_I0acls_12 oz_I0acls_8 Hₚ Oₚ (fun F39 A39 H Oₚ eF39 eA39 => ?_)
            have O := OUT_trans O Oₚ
            -- Share.becomeAlone
            have cF39 : SF oz_I0aclsl_1 F F39 := SF_trans (cFu34) (SF_gluc (ι := oz_I0aclsl_4) oz_I0acls_8 hS39 eF39 (by decide +kernel)) (any_sub (lₚ := [(3, 0)]) (by decide +kernel))
            have mF39 := SFm_of cF39 oz_I0acls_5
            have cA39 : SA oz_I0aclsl_0 A A39 := SA_trans (cAu22) (SA_gluc (ι := oz_I0aclsl_4) oz_I0acls_8 hA39 eA39 (by decide +kernel)) (any_subA (lₚ := [4, 5, 6, 7, 8, 9, 10, 11]) (by decide +kernel))
            have mA39 := SAm_of cA39 oz_I0acls_4
            have r40 : (-2147483648 : Int) ≤ y39_0_0 ∧ y39_0_0 ≤ 2147483647 := rngE (show (-2147483648 : Int) ≤ F39 3 0 ∧ F39 3 0 ≤ 2147483647 from H.krg 3 0 (ltn len_V249_c11_vd_oz_I0acls rfl)) (show F39 3 0 = y39_0_0 from ((eF39 3 0).trans ey39_0_0))
            have hown := pz39_0
            refine Ew_of (pcₚ := 190) (fun _ => x_goto rfl rfl) ?_
            refine Ew_of (pcₚ := 191) (fun _ => x_iconst rfl) ?_
            have hfi0 : IMP (((0) : Int) = 0) (TI3 (((upd1 (w13) (1) (((D 3 : Nat) : Int)))) 1) ((((D 25 : Nat) : Int))) ((((D 3 : Nat) : Int))) ((((D 17 : Nat) : Int)))) := by exact fun _ => .inr (by omega)
            have hfi1 : IMP (((0) : Int) = 0) (SLB (((upd1 (w13) (1) (((D 3 : Nat) : Int)))) 1) ((((D 3 : Nat) : Int))) (SL ((w39_2)) ((u3_1)) ((y39_0_0)) ((w39_3)) ((w39_4)) ((w39_5)) ((w39_1)) ((w39_7)) ((w39_8)))) := by exact fun _ => .inr hown
            have hfi2 : IMP (((0) : Int) = 0) (SLB (((upd1 (w13) (1) (((D 3 : Nat) : Int)))) 1) ((((D 17 : Nat) : Int))) (SL ((w18)) ((u17_1)) ((u17_0)) ((w19)) ((w20)) ((w21)) ((w22)) ((w23)) ((w24)))) := by exact fun _ => .inl (by omega)
            have hfi3 : IMP (((0) : Int) = 0) (ORB (((upd1 (w13) (1) (((D 3 : Nat) : Int)))) 1) ((((D 3 : Nat) : Int))) ((y39_0_0)) 8) := by exact fun _ => .inr (by omega)
            have hfi4 : IMP (((0) : Int) = 0) (ORB (((upd1 (w13) (1) (((D 3 : Nat) : Int)))) 1) ((((D 17 : Nat) : Int))) ((u17_0)) 8) := by exact fun _ => .inl (by omega)
            have hfn : (IMP (((0) : Int) = 0) (((upd1 (w13) (1) (((D 3 : Nat) : Int)))) 1 ≠ -1)) := by exact fun _ => (by omega)
            exact w_ireturn rfl (k (0) _ _ _ H O (cF39) (cA39) ((u0_9 + 1)) (((show F39 0 9 = (updF F 0 9 ((u0_9 + 1))) 0 9 from (eF39 0 9)))) (y39_0_0) (((eF39 3 0).trans ey39_0_0)) (w39_2) ((eA39 4).trans ew39_2) (w39_3) ((eA39 5).trans ew39_3) (w39_4) ((eA39 6).trans ew39_4) (w39_5) ((eA39 7).trans ew39_5) (w39_1) ((eA39 9).trans ew39_1) (w39_7) ((eA39 10).trans ew39_7) (w39_8) ((eA39 11).trans ew39_8) (upd1 (w13) (1) (((D 3 : Nat) : Int))) (((show A39 13 = (updA A 13 (1) (((D 3 : Nat) : Int))) 13 from (eA39 13))).trans (congrArg (fun q => upd1 q (1) (((D 3 : Nat) : Int))) (ew13))) (show inr (0) from q_20) (show 0 ≤ (0) ∧ (0) ≤ 17 by first | exact q_3589 | omega) (show 0 ≤ ((u0_9 + 1)) ∧ (u0_9) ≤ ((u0_9 + 1)) ∧ ((u0_9 + 1)) ≤ (u0_8) from q_3800 b33 h3 h4) (show ((u0_9 + 1)) ≤ (u0_18) from q_1328 b33) (show (IMP ((0) = 0) (((upd1 (w13) (1) (((D 3 : Nat) : Int)))) 1 ≠ -1)) by assumption) (show IMP ((0) = 0) (TI3 (((upd1 (w13) (1) (((D 3 : Nat) : Int)))) 1) ((((D 25 : Nat) : Int))) ((((D 3 : Nat) : Int))) ((((D 17 : Nat) : Int)))) by assumption) (show IMP ((0) = 0) (SLB (((upd1 (w13) (1) (((D 3 : Nat) : Int)))) 1) ((((D 3 : Nat) : Int))) (SL ((w39_2)) ((u3_1)) ((y39_0_0)) ((w39_3)) ((w39_4)) ((w39_5)) ((w39_1)) ((w39_7)) ((w39_8)))) by assumption) (show IMP ((0) = 0) (SLB (((upd1 (w13) (1) (((D 3 : Nat) : Int)))) 1) ((((D 17 : Nat) : Int))) (SL ((w18)) ((u17_1)) ((u17_0)) ((w19)) ((w20)) ((w21)) ((w22)) ((w23)) ((w24)))) by assumption) (show IMP ((0) = 0) (ORB (((upd1 (w13) (1) (((D 3 : Nat) : Int)))) 1) ((((D 3 : Nat) : Int))) ((y39_0_0)) 8) by assumption) (show IMP ((0) = 0) (ORB (((upd1 (w13) (1) (((D 3 : Nat) : Int)))) 1) ((((D 17 : Nat) : Int))) ((u17_0)) 8) by assumption) (show 1 = 0 ∨ ((upd1 (w13) (1) (((D 3 : Nat) : Int)))) 0 = ((w13)) 0 by omega) (show 1 = 1 ∨ ((upd1 (w13) (1) (((D 3 : Nat) : Int)))) 1 = ((w13)) 1 by first | exact q_3503 | omega) (show 1 = 2 ∨ ((upd1 (w13) (1) (((D 3 : Nat) : Int)))) 2 = ((w13)) 2 by omega))
          · refine Ew_of (pcₚ := 117) (fun _ => x_aload_n rfl (rk_o (rfl) rfl rfl)) ?_
            refine Ew_of (pcₚ := 119) (fun _ => x_bipush (z := 16) rfl (by decide)) ?_
            refine Ew_of (pcₚ := 120) (fun _ => x_iload_n rfl (rk_o (rfl) rfl rfl)) ?_
            have r41 : (-2147483648 : Int) ≤ F 0 21 ∧ F 0 21 ≤ 2147483647 := H.krg 0 21 (ltn len_V249_c11_vd_oz_I0acls rfl)
            refine v_inv H (o := 0) rfl rfl rfl rfl rfl rfl (by rfl) (C232 (D := puc 0 D) (N := puc 0 N) (HW_subc H oz_I0acls_11 oz_I0acls_7) (F 0 21) (rfl) (show inr (16) from q_86) (show inr (a3) from h2) (fun z42 σ42 F42ₚ A42ₚ Hₚ Oₚ hS42 hA42 y42_0_21 (ey42_0_21 : HID _) pz42_0 pz42_1 pz42_2 => ⟨rfl, ?_⟩))
            refine v_backc (c := c) (s := s) H oz_I0acls_11 oz_I0acls_7 Hₚ Oₚ (fun F42 A42 H Oₚ eF42 eA42 => ?_)
            have O := OUT_trans O Oₚ
            -- Unpacker.fail
            have cF42 : SF oz_I0aclsl_1 F F42 := SF_trans (cFu34) (SF_gluc (ι := oz_I0aclsl_3) oz_I0acls_7 hS42 eF42 (by decide +kernel)) (any_sub (lₚ := [(0, 21)]) (by decide +kernel))
            have mF42 := SFm_of cF42 oz_I0acls_5
            have cA42 : SA oz_I0aclsl_0 A A42 := SA_trans (cAu22) (SA_gluc (ι := oz_I0aclsl_3) oz_I0acls_7 hA42 eA42 (by decide +kernel)) (any_subA (lₚ := []) (by decide +kernel))
            have mA42 := SAm_of cA42 oz_I0acls_4
            have r43 : (-2147483648 : Int) ≤ y42_0_21 ∧ y42_0_21 ≤ 2147483647 := rngE (show (-2147483648 : Int) ≤ F42 0 21 ∧ F42 0 21 ≤ 2147483647 from H.krg 0 21 (ltn len_V249_c11_vd_oz_I0acls rfl)) (show F42 0 21 = y42_0_21 from ((eF42 0 21).trans ey42_0_21))
            have hfi0 : IMP (((z42) : Int) = 0) (TI3 (((upd1 (w13) (1) (((D 3 : Nat) : Int)))) 1) ((((D 25 : Nat) : Int))) ((((D 3 : Nat) : Int))) ((((D 17 : Nat) : Int)))) := by exact fun q => absurd q (by omega)
            have hfi1 : IMP (((z42) : Int) = 0) (SLB (((upd1 (w13) (1) (((D 3 : Nat) : Int)))) 1) ((((D 3 : Nat) : Int))) (SL ((w4)) ((u3_1)) ((u3_0)) ((w5)) ((w6)) ((w7)) ((w9)) ((w10)) ((w11)))) := by exact fun q => absurd q (by omega)
            have hfi2 : IMP (((z42) : Int) = 0) (SLB (((upd1 (w13) (1) (((D 3 : Nat) : Int)))) 1) ((((D 17 : Nat) : Int))) (SL ((w18)) ((u17_1)) ((u17_0)) ((w19)) ((w20)) ((w21)) ((w22)) ((w23)) ((w24)))) := by exact fun q => absurd q (by omega)
            have hfi3 : IMP (((z42) : Int) = 0) (ORB (((upd1 (w13) (1) (((D 3 : Nat) : Int)))) 1) ((((D 3 : Nat) : Int))) ((u3_0)) 8) := by exact fun q => absurd q (by omega)
            have hfi4 : IMP (((z42) : Int) = 0) (ORB (((upd1 (w13) (1) (((D 3 : Nat) : Int)))) 1) ((((D 17 : Nat) : Int))) ((u17_0)) 8) := by exact fun q => absurd q (by omega)
            have hfn : (IMP (((z42) : Int) = 0) (((upd1 (w13) (1) (((D 3 : Nat) : Int)))) 1 ≠ -1)) := by exact fun q => absurd q (by omega)
            exact w_ireturn rfl (k (z42) _ _ _ H O (cF42) (cA42) ((u0_9 + 1)) (((show F42 0 9 = (updF F 0 9 ((u0_9 + 1))) 0 9 from (eF42 0 9).trans (hS42 0 9 rfl)))) (u3_0) ((((show F42 3 0 = (updF F 0 9 ((u0_9 + 1))) 3 0 from (eF42 3 0))).trans (eu3_0))) (w4) (((show A42 4 = (updA A 13 (1) (((D 3 : Nat) : Int))) 4 from (eA42 4))).trans (ew4)) (w5) (((show A42 5 = (updA A 13 (1) (((D 3 : Nat) : Int))) 5 from (eA42 5))).trans (ew5)) (w6) (((show A42 6 = (updA A 13 (1) (((D 3 : Nat) : Int))) 6 from (eA42 6))).trans (ew6)) (w7) (((show A42 7 = (updA A 13 (1) (((D 3 : Nat) : Int))) 7 from (eA42 7))).trans (ew7)) (w9) (((show A42 9 = (updA A 13 (1) (((D 3 : Nat) : Int))) 9 from (eA42 9))).trans (ew9)) (w10) (((show A42 10 = (updA A 13 (1) (((D 3 : Nat) : Int))) 10 from (eA42 10))).trans (ew10)) (w11) (((show A42 11 = (updA A 13 (1) (((D 3 : Nat) : Int))) 11 from (eA42 11))).trans (ew11)) (upd1 (w13) (1) (((D 3 : Nat) : Int))) (((show A42 13 = (updA A 13 (1) (((D 3 : Nat) : Int))) 13 from (eA42 13))).trans (congrArg (fun q => upd1 q (1) (((D 3 : Nat) : Int))) (ew13))) (show inr (z42) from pz42_0) (show 0 ≤ (z42) ∧ (z42) ≤ 17 from q_3798 pz42_1) (show 0 ≤ ((u0_9 + 1)) ∧ (u0_9) ≤ ((u0_9 + 1)) ∧ ((u0_9 + 1)) ≤ (u0_8) from q_3800 b33 h3 h4) (show ((u0_9 + 1)) ≤ (u0_18) from q_1328 b33) (show (IMP ((z42) = 0) (((upd1 (w13) (1) (((D 3 : Nat) : Int)))) 1 ≠ -1)) from hfn) (show IMP ((z42) = 0) (TI3 (((upd1 (w13) (1) (((D 3 : Nat) : Int)))) 1) ((((D 25 : Nat) : Int))) ((((D 3 : Nat) : Int))) ((((D 17 : Nat) : Int)))) from hfi0) (show IMP ((z42) = 0) (SLB (((upd1 (w13) (1) (((D 3 : Nat) : Int)))) 1) ((((D 3 : Nat) : Int))) (SL ((w4)) ((u3_1)) ((u3_0)) ((w5)) ((w6)) ((w7)) ((w9)) ((w10)) ((w11)))) from hfi1) (show IMP ((z42) = 0) (SLB (((upd1 (w13) (1) (((D 3 : Nat) : Int)))) 1) ((((D 17 : Nat) : Int))) (SL ((w18)) ((u17_1)) ((u17_0)) ((w19)) ((w20)) ((w21)) ((w22)) ((w23)) ((w24)))) from hfi2) (show IMP ((z42) = 0) (ORB (((upd1 (w13) (1) (((D 3 : Nat) : Int)))) 1) ((((D 3 : Nat) : Int))) ((u3_0)) 8) from hfi3) (show IMP ((z42) = 0) (ORB (((upd1 (w13) (1) (((D 3 : Nat) : Int)))) 1) ((((D 17 : Nat) : Int))) ((u17_0)) 8) from hfi4) (show 1 = 0 ∨ ((upd1 (w13) (1) (((D 3 : Nat) : Int)))) 0 = ((w13)) 0 by omega) (show 1 = 1 ∨ ((upd1 (w13) (1) (((D 3 : Nat) : Int)))) 1 = ((w13)) 1 by first | exact q_3503 | omega) (show 1 = 2 ∨ ((upd1 (w13) (1) (((D 3 : Nat) : Int)))) 2 = ((w13)) 2 by omega))
        · refine Ew_of (pcₚ := 74) (fun _ => x_aload_n rfl rfl) ?_
          refine Ew_of (pcₚ := 76) (fun _ => x_bipush (z := 10) rfl (by decide)) ?_
          refine Ew_of (pcₚ := 77) (fun _ => x_aload_n rfl rfl) ?_
          refine v_g H (o := 0) (v := I (u0_18)) rfl rfl rfl rfl rfl (congrArg (fun z : Int => I z) ((eu0_18) : F 0 18 = u0_18)) ?_
          have r44 : (-2147483648 : Int) ≤ F 0 21 ∧ F 0 21 ≤ 2147483647 := H.krg 0 21 (ltn len_V249_c11_vd_oz_I0acls rfl)
          refine v_inv H (o := 0) rfl rfl rfl rfl rfl rfl (by rfl) (C232 (D := puc 0 D) (N := puc 0 N) (HW_subc H oz_I0acls_11 oz_I0acls_7) (F 0 21) (rfl) (show inr (10) from q_532) (show inr (u0_18) from q_22 r3) (fun z45 σ45 F45ₚ A45ₚ Hₚ Oₚ hS45 hA45 y45_0_21 (ey45_0_21 : HID _) pz45_0 pz45_1 pz45_2 => ⟨rfl, ?_⟩))
          refine v_backc (c := c) (s := s) H oz_I0acls_11 oz_I0acls_7 Hₚ Oₚ (fun F45 A45 H Oₚ eF45 eA45 => ?_)
          have O := OUT_trans O Oₚ
          -- Unpacker.fail
          have cF45 : SF oz_I0aclsl_1 F F45 := SF_trans (SF_refl) (SF_gluc (ι := oz_I0aclsl_3) oz_I0acls_7 hS45 eF45 (by decide +kernel)) (any_sub (lₚ := [(0, 21)]) (by decide +kernel))
          have mF45 := SFm_of cF45 oz_I0acls_5
          have cA45 : SA oz_I0aclsl_0 A A45 := SA_trans (cAu22) (SA_gluc (ι := oz_I0aclsl_3) oz_I0acls_7 hA45 eA45 (by decide +kernel)) (any_subA (lₚ := []) (by decide +kernel))
          have mA45 := SAm_of cA45 oz_I0acls_4
          have r46 : (-2147483648 : Int) ≤ y45_0_21 ∧ y45_0_21 ≤ 2147483647 := rngE (show (-2147483648 : Int) ≤ F45 0 21 ∧ F45 0 21 ≤ 2147483647 from H.krg 0 21 (ltn len_V249_c11_vd_oz_I0acls rfl)) (show F45 0 21 = y45_0_21 from ((eF45 0 21).trans ey45_0_21))
          have hfi0 : IMP (((z45) : Int) = 0) (TI3 (((upd1 (w13) (1) (((D 3 : Nat) : Int)))) 1) ((((D 25 : Nat) : Int))) ((((D 3 : Nat) : Int))) ((((D 17 : Nat) : Int)))) := by exact fun q => absurd q (by omega)
          have hfi1 : IMP (((z45) : Int) = 0) (SLB (((upd1 (w13) (1) (((D 3 : Nat) : Int)))) 1) ((((D 3 : Nat) : Int))) (SL ((w4)) ((u3_1)) ((u3_0)) ((w5)) ((w6)) ((w7)) ((w9)) ((w10)) ((w11)))) := by exact fun q => absurd q (by omega)
          have hfi2 : IMP (((z45) : Int) = 0) (SLB (((upd1 (w13) (1) (((D 3 : Nat) : Int)))) 1) ((((D 17 : Nat) : Int))) (SL ((w18)) ((u17_1)) ((u17_0)) ((w19)) ((w20)) ((w21)) ((w22)) ((w23)) ((w24)))) := by exact fun q => absurd q (by omega)
          have hfi3 : IMP (((z45) : Int) = 0) (ORB (((upd1 (w13) (1) (((D 3 : Nat) : Int)))) 1) ((((D 3 : Nat) : Int))) ((u3_0)) 8) := by exact fun q => absurd q (by omega)
          have hfi4 : IMP (((z45) : Int) = 0) (ORB (((upd1 (w13) (1) (((D 3 : Nat) : Int)))) 1) ((((D 17 : Nat) : Int))) ((u17_0)) 8) := by exact fun q => absurd q (by omega)
          have hfn : (IMP (((z45) : Int) = 0) (((upd1 (w13) (1) (((D 3 : Nat) : Int)))) 1 ≠ -1)) := by exact fun q => absurd q (by omega)
          exact w_ireturn rfl (k (z45) _ _ _ H O (cF45) (cA45) (u0_9) ((((show F45 0 9 = F 0 9 from (eF45 0 9).trans (hS45 0 9 rfl))).trans (eu0_9))) (u3_0) ((((show F45 3 0 = F 3 0 from (eF45 3 0))).trans (eu3_0))) (w4) (((show A45 4 = (updA A 13 (1) (((D 3 : Nat) : Int))) 4 from (eA45 4))).trans (ew4)) (w5) (((show A45 5 = (updA A 13 (1) (((D 3 : Nat) : Int))) 5 from (eA45 5))).trans (ew5)) (w6) (((show A45 6 = (updA A 13 (1) (((D 3 : Nat) : Int))) 6 from (eA45 6))).trans (ew6)) (w7) (((show A45 7 = (updA A 13 (1) (((D 3 : Nat) : Int))) 7 from (eA45 7))).trans (ew7)) (w9) (((show A45 9 = (updA A 13 (1) (((D 3 : Nat) : Int))) 9 from (eA45 9))).trans (ew9)) (w10) (((show A45 10 = (updA A 13 (1) (((D 3 : Nat) : Int))) 10 from (eA45 10))).trans (ew10)) (w11) (((show A45 11 = (updA A 13 (1) (((D 3 : Nat) : Int))) 11 from (eA45 11))).trans (ew11)) (upd1 (w13) (1) (((D 3 : Nat) : Int))) (((show A45 13 = (updA A 13 (1) (((D 3 : Nat) : Int))) 13 from (eA45 13))).trans (congrArg (fun q => upd1 q (1) (((D 3 : Nat) : Int))) (ew13))) (show inr (z45) from pz45_0) (show 0 ≤ (z45) ∧ (z45) ≤ 17 from q_3651 pz45_1) (show 0 ≤ (u0_9) ∧ (u0_9) ≤ (u0_9) ∧ (u0_9) ≤ (u0_8) from q_3590 h3) (show (u0_9) ≤ (u0_18) from q_1468 h4) (show (IMP ((z45) = 0) (((upd1 (w13) (1) (((D 3 : Nat) : Int)))) 1 ≠ -1)) from hfn) (show IMP ((z45) = 0) (TI3 (((upd1 (w13) (1) (((D 3 : Nat) : Int)))) 1) ((((D 25 : Nat) : Int))) ((((D 3 : Nat) : Int))) ((((D 17 : Nat) : Int)))) from hfi0) (show IMP ((z45) = 0) (SLB (((upd1 (w13) (1) (((D 3 : Nat) : Int)))) 1) ((((D 3 : Nat) : Int))) (SL ((w4)) ((u3_1)) ((u3_0)) ((w5)) ((w6)) ((w7)) ((w9)) ((w10)) ((w11)))) from hfi1) (show IMP ((z45) = 0) (SLB (((upd1 (w13) (1) (((D 3 : Nat) : Int)))) 1) ((((D 17 : Nat) : Int))) (SL ((w18)) ((u17_1)) ((u17_0)) ((w19)) ((w20)) ((w21)) ((w22)) ((w23)) ((w24)))) from hfi2) (show IMP ((z45) = 0) (ORB (((upd1 (w13) (1) (((D 3 : Nat) : Int)))) 1) ((((D 3 : Nat) : Int))) ((u3_0)) 8) from hfi3) (show IMP ((z45) = 0) (ORB (((upd1 (w13) (1) (((D 3 : Nat) : Int)))) 1) ((((D 17 : Nat) : Int))) ((u17_0)) 8) from hfi4) (show 1 = 0 ∨ ((upd1 (w13) (1) (((D 3 : Nat) : Int)))) 0 = ((w13)) 0 by omega) (show 1 = 1 ∨ ((upd1 (w13) (1) (((D 3 : Nat) : Int)))) 1 = ((w13)) 1 by first | exact q_3503 | omega) (show 1 = 2 ∨ ((upd1 (w13) (1) (((D 3 : Nat) : Int)))) 2 = ((w13)) 2 by omega))
    · refine Ew_of (pcₚ := 42) (fun _ => x_aload_n rfl rfl) ?_
      refine v_g H (o := 0) (v := .ref (D 14)) rfl rfl rfl rfl rfl (vrf (pf14)) ?_
      refine Ew_of (pcₚ := 46) (fun _ => x_iload_n rfl rfl) ?_
      refine v_lR H (o := 14) rfl rfl rfl rfl rfl (n := n14) (en14) (show 0 ≤ 1 ∧ 1 < n14 from q_3808 h7 r19) (z := ((D 25 : Nat) : Int)) (v := .ref (D 25)) (pf25) (vrf rfl) ?_
      have hs_ := upd1_s (a := ((w13))) (j := 1) (z := (((D 25 : Nat) : Int)))
      have hu0_ : (1 : Int) = 0 ∨ upd1 ((w13)) 1 ((((D 25 : Nat) : Int))) 0 = ((w13)) 0 := by by_cases w : (0 : Int) = 1; exact .inl (by omega); exact .inr (upd1_o w)
      have hu1_ : (1 : Int) = 1 ∨ upd1 ((w13)) 1 ((((D 25 : Nat) : Int))) 1 = ((w13)) 1 := by by_cases w : (1 : Int) = 1; exact .inl (by omega); exact .inr (upd1_o w)
      have hu2_ : (1 : Int) = 2 ∨ upd1 ((w13)) 1 ((((D 25 : Nat) : Int))) 2 = ((w13)) 2 := by by_cases w : (2 : Int) = 1; exact .inl (by omega); exact .inr (upd1_o w)
      refine Ew_of (pcₚ := 56) (fun _ => x_goto rfl rfl) ?_
      refine v_sR H (o := 13) (z := ((D 25 : Nat) : Int)) (v := .ref (D 25)) rfl rfl rfl rfl rfl (n := n13) (en13) (show 0 ≤ 1 ∧ 1 < n13 from q_3806 h7 r18) (show (-1 : Int) ≤ ((D 25 : Nat) : Int) by omega) (vrf rfl) (rkinR H (x := 25) rfl rfl rfl) (fun σ H Oₚ => ?_)
      have O := OUT_trans O Oₚ
      have cAu47 : SA oz_I0aclsl_0 A (updA A 13 (1) (((D 25 : Nat) : Int))) := SA_upd (SA_refl) rfl
      have mAu47 := SAm_of cAu47 oz_I0acls_4
      refine Ew_of (pcₚ := 58) (fun _ => x_iload_n rfl rfl) ?_
      refine Ew_of (pcₚ := 59) (fun _ => x_iconst rfl) ?_
      refine w_icmpne (t := 138) rfl rfl (show inr (a2) from h1) (show inr (1) from h0) (fun b48 => ?_) (fun b48 => ?_)
      · refine Ew_of (pcₚ := 139) (fun _ => x_iload_n rfl rfl) ?_
        refine Ew_of (pcₚ := 140) (fun _ => x_iconst rfl) ?_
        refine w_icmpne (t := 190) rfl rfl (show inr (a2) from h1) (show inr (2) from q_55) (fun b49 => ?_) (fun b49 => ?_)
        · refine Ew_of (pcₚ := 191) (fun _ => x_iconst rfl) ?_
          have hfi0 : IMP (((0) : Int) = 0) (TI3 (((upd1 (w13) (1) (((D 25 : Nat) : Int)))) 1) ((((D 25 : Nat) : Int))) ((((D 3 : Nat) : Int))) ((((D 17 : Nat) : Int)))) := by exact fun _ => .inr (by omega)
          have hfi1 : IMP (((0) : Int) = 0) (SLB (((upd1 (w13) (1) (((D 25 : Nat) : Int)))) 1) ((((D 3 : Nat) : Int))) (SL ((w4)) ((u3_1)) ((u3_0)) ((w5)) ((w6)) ((w7)) ((w9)) ((w10)) ((w11)))) := by exact fun _ => .inl (by omega)
          have hfi2 : IMP (((0) : Int) = 0) (SLB (((upd1 (w13) (1) (((D 25 : Nat) : Int)))) 1) ((((D 17 : Nat) : Int))) (SL ((w18)) ((u17_1)) ((u17_0)) ((w19)) ((w20)) ((w21)) ((w22)) ((w23)) ((w24)))) := by exact fun _ => .inl (by omega)
          have hfi3 : IMP (((0) : Int) = 0) (ORB (((upd1 (w13) (1) (((D 25 : Nat) : Int)))) 1) ((((D 3 : Nat) : Int))) ((u3_0)) 8) := by exact fun _ => .inl (by omega)
          have hfi4 : IMP (((0) : Int) = 0) (ORB (((upd1 (w13) (1) (((D 25 : Nat) : Int)))) 1) ((((D 17 : Nat) : Int))) ((u17_0)) 8) := by exact fun _ => .inl (by omega)
          have hfn : (IMP (((0) : Int) = 0) (((upd1 (w13) (1) (((D 25 : Nat) : Int)))) 1 ≠ -1)) := by exact fun _ => (by omega)
          exact w_ireturn rfl (k (0) _ _ _ H O (SF_refl) (cAu47) (u0_9) ((eu0_9)) (u3_0) ((eu3_0)) (w4) (ew4) (w5) (ew5) (w6) (ew6) (w7) (ew7) (w9) (ew9) (w10) (ew10) (w11) (ew11) (upd1 (w13) (1) (((D 25 : Nat) : Int))) (congrArg (fun q => upd1 q (1) (((D 25 : Nat) : Int))) (ew13)) (show inr (0) from q_20) (show 0 ≤ (0) ∧ (0) ≤ 17 by first | exact q_3589 | omega) (show 0 ≤ (u0_9) ∧ (u0_9) ≤ (u0_9) ∧ (u0_9) ≤ (u0_8) from q_3590 h3) (show (u0_9) ≤ (u0_18) from q_1468 h4) (show (IMP ((0) = 0) (((upd1 (w13) (1) (((D 25 : Nat) : Int)))) 1 ≠ -1)) by assumption) (show IMP ((0) = 0) (TI3 (((upd1 (w13) (1) (((D 25 : Nat) : Int)))) 1) ((((D 25 : Nat) : Int))) ((((D 3 : Nat) : Int))) ((((D 17 : Nat) : Int)))) by assumption) (show IMP ((0) = 0) (SLB (((upd1 (w13) (1) (((D 25 : Nat) : Int)))) 1) ((((D 3 : Nat) : Int))) (SL ((w4)) ((u3_1)) ((u3_0)) ((w5)) ((w6)) ((w7)) ((w9)) ((w10)) ((w11)))) by assumption) (show IMP ((0) = 0) (SLB (((upd1 (w13) (1) (((D 25 : Nat) : Int)))) 1) ((((D 17 : Nat) : Int))) (SL ((w18)) ((u17_1)) ((u17_0)) ((w19)) ((w20)) ((w21)) ((w22)) ((w23)) ((w24)))) by assumption) (show IMP ((0) = 0) (ORB (((upd1 (w13) (1) (((D 25 : Nat) : Int)))) 1) ((((D 3 : Nat) : Int))) ((u3_0)) 8) by assumption) (show IMP ((0) = 0) (ORB (((upd1 (w13) (1) (((D 25 : Nat) : Int)))) 1) ((((D 17 : Nat) : Int))) ((u17_0)) 8) by assumption) (show 1 = 0 ∨ ((upd1 (w13) (1) (((D 25 : Nat) : Int)))) 0 = ((w13)) 0 by omega) (show 1 = 1 ∨ ((upd1 (w13) (1) (((D 25 : Nat) : Int)))) 1 = ((w13)) 1 by first | exact q_3503 | omega) (show 1 = 2 ∨ ((upd1 (w13) (1) (((D 25 : Nat) : Int)))) 2 = ((w13)) 2 by omega))
        · refine Ew_of (pcₚ := 144) (fun _ => x_aload_n rfl rfl) ?_
          refine v_g H (o := 0) (v := .ref (D 2)) rfl rfl rfl rfl rfl (vrf (pf2)) ?_
          refine Ew_of (pcₚ := 148) (fun _ => x_iload_n rfl rfl) ?_
          refine v_lR H (o := 2) rfl rfl rfl rfl rfl (n := n2) (en2) (show 0 ≤ 1 ∧ 1 < n2 from q_3805 h7 r9) (z := ((D 3 : Nat) : Int)) (v := .ref (D 3)) ((mAu47 2 rfl 1).trans (pf3)) (vrf rfl) ?_
          refine Ew_of (pcₚ := 150) (fun _ => x_aload_n rfl rfl) ?_
          refine v_g H (o := 0) (v := .ref (D 1)) rfl rfl rfl rfl rfl (vrf (pf1)) ?_
          refine Ew_of (pcₚ := 154) (fun _ => x_aload_n rfl rfl) ?_
          refine v_g H (o := 0) (v := I (u0_9)) rfl rfl rfl rfl rfl (congrArg (fun z : Int => I z) ((eu0_9) : F 0 9 = u0_9)) ?_
          refine Ew_of (pcₚ := 158) (fun _ => x_aload_n rfl rfl) ?_
          refine v_g H (o := 0) (v := I (u0_18)) rfl rfl rfl rfl rfl (congrArg (fun z : Int => I z) ((eu0_18) : F 0 18 = u0_18)) ?_
          refine Ew_of (pcₚ := 164) (fun _ => x_getstatic rfl) ?_
          refine Ew_of (pcₚ := 165) (fun _ => x_iload_n rfl rfl) ?_
          refine v_stI (STC_out HT HE O) (b := 2) (n := 3) rfl rfl rfl rfl (show 0 ≤ 1 ∧ 1 < 3 from q_3502) (fun v50 ev50 qv50 => ?_)
          have hgo := ev50
          have hgv : ((v50) : Int) = 8 := by rw [← hgo]; rfl
          have hpg : p2 ((v50)) = 256 := by rw [hgv]; decide
          refine v_inv H (o := 3) rfl rfl rfl rfl rfl rfl (by rfl) (C184_Br (D := puc 26643665609639073069400579 D) (N := puc 26643665609639073069400579 N) (HW_subc H oz_I0acls_10 oz_I0acls_6) (pf9) (pf4) (pf5) (pf6) (pf7) (pf8) (pf10) (pf11) (n1) (en1) (n9) (en9) (n4) (en4) (n5) (en5) (n6) (en6) (n7) (en7) (n8) (en8) (n10) (en10) (n11) (en11) (u3_0) ((eu3_0)) (u3_1) ((eu3_1)) (w9) (ew9) (w4) (ew4) (w5) (ew5) (w6) (ew6) (w7) (ew7) (w10) (ew10) (w11) (ew11) (show inr (u0_9) from q_3585 h3) (show inr (u0_18) from q_22 r3) (show inr (v50) from qv50) (show 0 ≤ (u0_9) ∧ (u0_9) ≤ (u0_18) ∧ (u0_18) ≤ (n1) ∧ (n1) ≤ 65536 from q_3794 h3 h4) (show 5 ≤ (v50) ∧ (v50) ≤ 9 ∧ p2 (v50) ≤ (n9) by omega) (show (n4) = (u3_1) ∧ (n5) = (u3_1) ∧ (n6) = (u3_1) ∧ (n7) = (u3_1) ∧ (n8) = (u3_1) ∧ (n10) = (n9) ∧ (n11) = (n9) ∧ 1 ≤ (u3_1) ∧ (u3_1) ≤ 64 by omega) (fun z51 σ51 F51ₚ A51ₚ Hₚ Oₚ hS51 hA51 y51_0_0 (ey51_0_0 : HID _) w51_2 ew51_2 w51_3 ew51_3 w51_4 ew51_4 w51_5 ew51_5 w51_6 ew51_6 w51_8 ew51_8 w51_9 ew51_9 (pq51_0 : HID _) pz51_0 pz51_1 pz51_2 pz51_3 => ⟨rfl, ?_⟩))
          refine v_backc (c := c) (s := s) H oz_I0acls_10 oz_I0acls_6 Hₚ Oₚ (fun F51 A51 H Oₚ eF51 eA51 => ?_)
          have O := OUT_trans O Oₚ
          -- Share.hear
          have cF51 : SF oz_I0aclsl_1 F F51 := SF_trans (SF_refl) (SF_gluc (ι := oz_I0aclsl_2) oz_I0acls_6 hS51 eF51 (by decide +kernel)) (any_sub (lₚ := [(3, 0), (3, 10), (3, 11), (3, 12)]) (by decide +kernel))
          have mF51 := SFm_of cF51 oz_I0acls_5
          have cA51 : SA oz_I0aclsl_0 A A51 := SA_trans (cAu47) (SA_gluc (ι := oz_I0aclsl_2) oz_I0acls_6 hA51 eA51 (by decide +kernel)) (any_subA (lₚ := [4, 5, 6, 7, 8, 9, 10, 11]) (by decide +kernel))
          have mA51 := SAm_of cA51 oz_I0acls_4
          have pl51_0 : HID (F51 3 10 = (D 1 : Int)) := (eF51 3 10).trans (pq51_0)
          have r52 : (-2147483648 : Int) ≤ y51_0_0 ∧ y51_0_0 ≤ 2147483647 := rngE (show (-2147483648 : Int) ≤ F51 3 0 ∧ F51 3 0 ≤ 2147483647 from H.krg 3 0 (ltn len_V249_c11_vd_oz_I0acls rfl)) (show F51 3 0 = y51_0_0 from ((eF51 3 0).trans ey51_0_0))
          refine Ew_of (pcₚ := 171) (fun _ => x_istore rfl) ?_
          refine Ew_of (pcₚ := 173) (fun _ => x_iload rfl rk_s) ?_
          refine w_ifge (t := 184) rfl rfl (show inr (z51) from pz51_0) (fun b53 => ?_) (fun b53 => ?_)
          · have hown := Or.resolve_left pz51_3 (by omega)
            have hord : (y51_0_0) ≤ 8 := q_3807 b53 hgv pz51_2 r52
            refine Ew_of (pcₚ := 185) (fun _ => x_aload_n rfl (rk_o (rfl) rfl rfl)) ?_
            refine Ew_of (pcₚ := 187) (fun _ => x_iload rfl rk_s) ?_
            refine v_p H (o := 0) (z := z51) (v := I (z51)) rfl rfl rfl rfl rfl rfl rfl rfl (show (-2147483648 : Int) ≤ z51 ∧ z51 ≤ 2147483647 from q_3761 b53 pz51_0) (fun σ H Oₚ => ?_)
            have O := OUT_trans O Oₚ
            have cFu54 : SF oz_I0aclsl_1 F (updF F51 0 9 (z51)) := SF_upd (cF51) rfl
            have mFu54 := SFm_of cFu54 oz_I0acls_5
            refine Ew_of (pcₚ := 191) (fun _ => x_iconst rfl) ?_
            have hfi0 : IMP (((0) : Int) = 0) (TI3 (((upd1 (w13) (1) (((D 25 : Nat) : Int)))) 1) ((((D 25 : Nat) : Int))) ((((D 3 : Nat) : Int))) ((((D 17 : Nat) : Int)))) := by exact fun q => absurd q (by omega)
            have hfi1 : IMP (((0) : Int) = 0) (SLB (((upd1 (w13) (1) (((D 25 : Nat) : Int)))) 1) ((((D 3 : Nat) : Int))) (SL ((w51_3)) ((u3_1)) ((y51_0_0)) ((w51_4)) ((w51_5)) ((w51_6)) ((w51_2)) ((w51_8)) ((w51_9)))) := by exact fun q => absurd q (by omega)
            have hfi2 : IMP (((0) : Int) = 0) (SLB (((upd1 (w13) (1) (((D 25 : Nat) : Int)))) 1) ((((D 17 : Nat) : Int))) (SL ((w18)) ((u17_1)) ((u17_0)) ((w19)) ((w20)) ((w21)) ((w22)) ((w23)) ((w24)))) := by exact fun q => absurd q (by omega)
            have hfi3 : IMP (((0) : Int) = 0) (ORB (((upd1 (w13) (1) (((D 25 : Nat) : Int)))) 1) ((((D 3 : Nat) : Int))) ((y51_0_0)) 8) := by exact fun q => absurd q (by omega)
            have hfi4 : IMP (((0) : Int) = 0) (ORB (((upd1 (w13) (1) (((D 25 : Nat) : Int)))) 1) ((((D 17 : Nat) : Int))) ((u17_0)) 8) := by exact fun q => absurd q (by omega)
            have hfn : (IMP (((0) : Int) = 0) (((upd1 (w13) (1) (((D 25 : Nat) : Int)))) 1 ≠ -1)) := by exact fun q => absurd q (by omega)
            exact w_ireturn rfl (k (0) _ _ _ H O (cFu54) (cA51) (z51) (rfl) (y51_0_0) (((eF51 3 0).trans ey51_0_0)) (w51_3) ((eA51 4).trans ew51_3) (w51_4) ((eA51 5).trans ew51_4) (w51_5) ((eA51 6).trans ew51_5) (w51_6) ((eA51 7).trans ew51_6) (w51_2) ((eA51 9).trans ew51_2) (w51_8) ((eA51 10).trans ew51_8) (w51_9) ((eA51 11).trans ew51_9) (upd1 (w13) (1) (((D 25 : Nat) : Int))) (((show A51 13 = (updA A 13 (1) (((D 25 : Nat) : Int))) 13 from (eA51 13))).trans (congrArg (fun q => upd1 q (1) (((D 25 : Nat) : Int))) (ew13))) (show inr (0) from q_20) (show 0 ≤ (0) ∧ (0) ≤ 17 by first | exact q_3589 | omega) (show 0 ≤ (z51) ∧ (u0_9) ≤ (z51) ∧ (z51) ≤ (u0_8) from q_3797 b53 h3 h4 pz51_1 pz51_3) (show (z51) ≤ (u0_18) from q_3796 b53 pz51_1 pz51_3 r3) (show (IMP ((0) = 0) (((upd1 (w13) (1) (((D 25 : Nat) : Int)))) 1 ≠ -1)) by assumption) (show IMP ((0) = 0) (TI3 (((upd1 (w13) (1) (((D 25 : Nat) : Int)))) 1) ((((D 25 : Nat) : Int))) ((((D 3 : Nat) : Int))) ((((D 17 : Nat) : Int)))) by assumption) (show IMP ((0) = 0) (SLB (((upd1 (w13) (1) (((D 25 : Nat) : Int)))) 1) ((((D 3 : Nat) : Int))) (SL ((w51_3)) ((u3_1)) ((y51_0_0)) ((w51_4)) ((w51_5)) ((w51_6)) ((w51_2)) ((w51_8)) ((w51_9)))) by assumption) (show IMP ((0) = 0) (SLB (((upd1 (w13) (1) (((D 25 : Nat) : Int)))) 1) ((((D 17 : Nat) : Int))) (SL ((w18)) ((u17_1)) ((u17_0)) ((w19)) ((w20)) ((w21)) ((w22)) ((w23)) ((w24)))) by assumption) (show IMP ((0) = 0) (ORB (((upd1 (w13) (1) (((D 25 : Nat) : Int)))) 1) ((((D 3 : Nat) : Int))) ((y51_0_0)) 8) by assumption) (show IMP ((0) = 0) (ORB (((upd1 (w13) (1) (((D 25 : Nat) : Int)))) 1) ((((D 17 : Nat) : Int))) ((u17_0)) 8) by assumption) (show 1 = 0 ∨ ((upd1 (w13) (1) (((D 25 : Nat) : Int)))) 0 = ((w13)) 0 by omega) (show 1 = 1 ∨ ((upd1 (w13) (1) (((D 25 : Nat) : Int)))) 1 = ((w13)) 1 by first | exact q_3503 | omega) (show 1 = 2 ∨ ((upd1 (w13) (1) (((D 25 : Nat) : Int)))) 2 = ((w13)) 2 by omega))
          · refine Ew_of (pcₚ := 177) (fun _ => x_aload_n rfl (rk_o (rfl) rfl rfl)) ?_
            refine Ew_of (pcₚ := 179) (fun _ => x_bipush (z := 16) rfl (by decide)) ?_
            refine Ew_of (pcₚ := 180) (fun _ => x_iload_n rfl (rk_o (rfl) rfl rfl)) ?_
            have r55 : (-2147483648 : Int) ≤ F 0 21 ∧ F 0 21 ≤ 2147483647 := rngE (show (-2147483648 : Int) ≤ F51 0 21 ∧ F51 0 21 ≤ 2147483647 from H.krg 0 21 (ltn len_V249_c11_vd_oz_I0acls rfl)) (show F51 0 21 = F 0 21 from ((show F51 0 21 = F 0 21 from (eF51 0 21))))
            refine v_inv H (o := 0) rfl rfl rfl rfl rfl rfl (by rfl) (C232 (D := puc 0 D) (N := puc 0 N) (HW_subc H oz_I0acls_11 oz_I0acls_7) (F 0 21) (((show F51 0 21 = F 0 21 from (eF51 0 21)))) (show inr (16) from q_86) (show inr (a3) from h2) (fun z56 σ56 F56ₚ A56ₚ Hₚ Oₚ hS56 hA56 y56_0_21 (ey56_0_21 : HID _) pz56_0 pz56_1 pz56_2 => ⟨rfl, ?_⟩))
            refine v_backc (c := c) (s := s) H oz_I0acls_11 oz_I0acls_7 Hₚ Oₚ (fun F56 A56 H Oₚ eF56 eA56 => ?_)
            have O := OUT_trans O Oₚ
            -- Unpacker.fail
            have cF56 : SF oz_I0aclsl_1 F F56 := SF_trans (cF51) (SF_gluc (ι := oz_I0aclsl_3) oz_I0acls_7 hS56 eF56 (by decide +kernel)) (any_sub (lₚ := [(0, 21)]) (by decide +kernel))
            have mF56 := SFm_of cF56 oz_I0acls_5
            have cA56 : SA oz_I0aclsl_0 A A56 := SA_trans (cA51) (SA_gluc (ι := oz_I0aclsl_3) oz_I0acls_7 hA56 eA56 (by decide +kernel)) (any_subA (lₚ := []) (by decide +kernel))
            have mA56 := SAm_of cA56 oz_I0acls_4
            have r57 : (-2147483648 : Int) ≤ y56_0_21 ∧ y56_0_21 ≤ 2147483647 := rngE (show (-2147483648 : Int) ≤ F56 0 21 ∧ F56 0 21 ≤ 2147483647 from H.krg 0 21 (ltn len_V249_c11_vd_oz_I0acls rfl)) (show F56 0 21 = y56_0_21 from ((eF56 0 21).trans ey56_0_21))
            have hfi0 : IMP (((z56) : Int) = 0) (TI3 (((upd1 (w13) (1) (((D 25 : Nat) : Int)))) 1) ((((D 25 : Nat) : Int))) ((((D 3 : Nat) : Int))) ((((D 17 : Nat) : Int)))) := by exact fun q => absurd q (by omega)
            have hfi1 : IMP (((z56) : Int) = 0) (SLB (((upd1 (w13) (1) (((D 25 : Nat) : Int)))) 1) ((((D 3 : Nat) : Int))) (SL ((w51_3)) ((u3_1)) ((y51_0_0)) ((w51_4)) ((w51_5)) ((w51_6)) ((w51_2)) ((w51_8)) ((w51_9)))) := by exact fun q => absurd q (by omega)
            have hfi2 : IMP (((z56) : Int) = 0) (SLB (((upd1 (w13) (1) (((D 25 : Nat) : Int)))) 1) ((((D 17 : Nat) : Int))) (SL ((w18)) ((u17_1)) ((u17_0)) ((w19)) ((w20)) ((w21)) ((w22)) ((w23)) ((w24)))) := by exact fun q => absurd q (by omega)
            have hfi3 : IMP (((z56) : Int) = 0) (ORB (((upd1 (w13) (1) (((D 25 : Nat) : Int)))) 1) ((((D 3 : Nat) : Int))) ((y51_0_0)) 8) := by exact fun q => absurd q (by omega)
            have hfi4 : IMP (((z56) : Int) = 0) (ORB (((upd1 (w13) (1) (((D 25 : Nat) : Int)))) 1) ((((D 17 : Nat) : Int))) ((u17_0)) 8) := by exact fun q => absurd q (by omega)
            have hfn : (IMP (((z56) : Int) = 0) (((upd1 (w13) (1) (((D 25 : Nat) : Int)))) 1 ≠ -1)) := by exact fun q => absurd q (by omega)
            exact w_ireturn rfl (k (z56) _ _ _ H O (cF56) (cA56) (u0_9) (((((show F56 0 9 = F51 0 9 from (eF56 0 9).trans (hS56 0 9 rfl))).trans ((show F51 0 9 = F 0 9 from (eF51 0 9)))).trans (eu0_9))) (y51_0_0) ((((show F56 3 0 = F51 3 0 from (eF56 3 0))).trans ((eF51 3 0).trans ey51_0_0))) (w51_3) (((show A56 4 = A51 4 from (eA56 4))).trans ((eA51 4).trans ew51_3)) (w51_4) (((show A56 5 = A51 5 from (eA56 5))).trans ((eA51 5).trans ew51_4)) (w51_5) (((show A56 6 = A51 6 from (eA56 6))).trans ((eA51 6).trans ew51_5)) (w51_6) (((show A56 7 = A51 7 from (eA56 7))).trans ((eA51 7).trans ew51_6)) (w51_2) (((show A56 9 = A51 9 from (eA56 9))).trans ((eA51 9).trans ew51_2)) (w51_8) (((show A56 10 = A51 10 from (eA56 10))).trans ((eA51 10).trans ew51_8)) (w51_9) (((show A56 11 = A51 11 from (eA56 11))).trans ((eA51 11).trans ew51_9)) (upd1 (w13) (1) (((D 25 : Nat) : Int))) (((show A56 13 = A51 13 from (eA56 13))).trans (((show A51 13 = (updA A 13 (1) (((D 25 : Nat) : Int))) 13 from (eA51 13))).trans (congrArg (fun q => upd1 q (1) (((D 25 : Nat) : Int))) (ew13)))) (show inr (z56) from pz56_0) (show 0 ≤ (z56) ∧ (z56) ≤ 17 from q_3798 pz56_1) (show 0 ≤ (u0_9) ∧ (u0_9) ≤ (u0_9) ∧ (u0_9) ≤ (u0_8) from q_3590 h3) (show (u0_9) ≤ (u0_18) from q_1468 h4) (show (IMP ((z56) = 0) (((upd1 (w13) (1) (((D 25 : Nat) : Int)))) 1 ≠ -1)) from hfn) (show IMP ((z56) = 0) (TI3 (((upd1 (w13) (1) (((D 25 : Nat) : Int)))) 1) ((((D 25 : Nat) : Int))) ((((D 3 : Nat) : Int))) ((((D 17 : Nat) : Int)))) from hfi0) (show IMP ((z56) = 0) (SLB (((upd1 (w13) (1) (((D 25 : Nat) : Int)))) 1) ((((D 3 : Nat) : Int))) (SL ((w51_3)) ((u3_1)) ((y51_0_0)) ((w51_4)) ((w51_5)) ((w51_6)) ((w51_2)) ((w51_8)) ((w51_9)))) from hfi1) (show IMP ((z56) = 0) (SLB (((upd1 (w13) (1) (((D 25 : Nat) : Int)))) 1) ((((D 17 : Nat) : Int))) (SL ((w18)) ((u17_1)) ((u17_0)) ((w19)) ((w20)) ((w21)) ((w22)) ((w23)) ((w24)))) from hfi2) (show IMP ((z56) = 0) (ORB (((upd1 (w13) (1) (((D 25 : Nat) : Int)))) 1) ((((D 3 : Nat) : Int))) ((y51_0_0)) 8) from hfi3) (show IMP ((z56) = 0) (ORB (((upd1 (w13) (1) (((D 25 : Nat) : Int)))) 1) ((((D 17 : Nat) : Int))) ((u17_0)) 8) from hfi4) (show 1 = 0 ∨ ((upd1 (w13) (1) (((D 25 : Nat) : Int)))) 0 = ((w13)) 0 by omega) (show 1 = 1 ∨ ((upd1 (w13) (1) (((D 25 : Nat) : Int)))) 1 = ((w13)) 1 by first | exact q_3503 | omega) (show 1 = 2 ∨ ((upd1 (w13) (1) (((D 25 : Nat) : Int)))) 2 = ((w13)) 2 by omega))
      · refine Ew_of (pcₚ := 63) (fun _ => x_aload_n rfl rfl) ?_
        refine v_g H (o := 0) (v := I (u0_9)) rfl rfl rfl rfl rfl (congrArg (fun z : Int => I z) ((eu0_9) : F 0 9 = u0_9)) ?_
        refine Ew_of (pcₚ := 67) (fun _ => x_aload_n rfl rfl) ?_
        refine v_g H (o := 0) (v := I (u0_18)) rfl rfl rfl rfl rfl (congrArg (fun z : Int => I z) ((eu0_18) : F 0 18 = u0_18)) ?_
        refine w_icmplt (t := 84) rfl rfl (show inr (u0_9) from q_3585 h3) (show inr (u0_18) from q_22 r3) (fun b58 => ?_) (fun b58 => ?_)
        · refine Ew_of (pcₚ := 85) (fun _ => x_aload_n rfl rfl) ?_
          refine v_g H (o := 0) (v := .ref (D 1)) rfl rfl rfl rfl rfl (vrf (pf1)) ?_
          refine Ew_of (pcₚ := 89) (fun _ => x_aload_n rfl rfl) ?_
          refine Ew_of (pcₚ := 90) (fun _ => x_dup rfl rfl) ?_
          refine v_g H (o := 0) (v := I (u0_9)) rfl rfl rfl rfl rfl (congrArg (fun z : Int => I z) ((eu0_9) : F 0 9 = u0_9)) ?_
          refine Ew_of (pcₚ := 94) (fun _ => x_dup_x1 rfl rfl) ?_
          refine Ew_of (pcₚ := 95) (fun _ => x_iconst rfl) ?_
          refine w_iadd rfl ?_
          refine v_p H (o := 0) (z := (u0_9 + 1)) (v := I ((u0_9 + 1))) rfl rfl rfl rfl rfl rfl rfl rfl (show (-2147483648 : Int) ≤ (u0_9 + 1) ∧ (u0_9 + 1) ≤ 2147483647 from q_3799 h3) (fun σ H Oₚ => ?_)
          have O := OUT_trans O Oₚ
          have cFu59 : SF oz_I0aclsl_1 F (updF F 0 9 ((u0_9 + 1))) := SF_upd (SF_refl) rfl
          have mFu59 := SFm_of cFu59 oz_I0acls_5
          refine v_lB H (o := 1) rfl rfl rfl rfl (n := n1) (en1) (show 0 ≤ u0_9 ∧ u0_9 < n1 from q_3635 b58 h3 h4) (fun v60 ev60 qv60 => ?_)
          have ev60 : (A 1) (u0_9) = v60 := (congrFun (funext (mAu47 1 rfl)) (u0_9)).symm.trans ev60
          refine Ew_of (pcₚ := 103) (fun _ => x_sipush (z := 255) rfl (by decide)) ?_
          refine w_iand rfl (show inr (v60) from q_2536 qv60) (show inr (255) from q_36) (fun z61 gz61 gaz61 gbz61 => ?_)
          refine Ew_of (pcₚ := 106) (fun _ => x_istore rfl) ?_
          refine Ew_of (pcₚ := 108) (fun _ => x_iload rfl rk_s) ?_
          refine Ew_of (pcₚ := 111) (fun _ => x_getstatic rfl) ?_
          refine Ew_of (pcₚ := 112) (fun _ => x_iload_n rfl (rk_o (rfl) rfl rfl)) ?_
          refine v_stI (STC_out HT HE O) (b := 3) (n := 3) rfl rfl rfl rfl (show 0 ≤ 1 ∧ 1 < 3 from q_3502) (fun v62 ev62 qv62 => ?_)
          have hlv := ev62
          have hlw : ((v62) : Int) = 31 := by rw [← hlv]; rfl
          refine w_icmple (t := 124) rfl rfl (show inr (z61) from gz61) (show inr (v62) from qv62) (fun b63 => ?_) (fun b63 => ?_)
          · refine Ew_of (pcₚ := 125) (fun _ => x_aload_n rfl (rk_o (rfl) rfl rfl)) ?_
            refine v_g H (o := 0) (v := .ref (D 2)) rfl rfl rfl rfl rfl (vrf ((mFu59 0 2 rfl).trans (pf2))) ?_
            refine Ew_of (pcₚ := 129) (fun _ => x_iload_n rfl (rk_o (rfl) rfl rfl)) ?_
            refine v_lR H (o := 2) rfl rfl rfl rfl rfl (n := n2) (en2) (show 0 ≤ 1 ∧ 1 < n2 from q_3805 h7 r9) (z := ((D 3 : Nat) : Int)) (v := .ref (D 3)) ((mAu47 2 rfl 1).trans (pf3)) (vrf rfl) ?_
            refine Ew_of (pcₚ := 132) (fun _ => x_iload rfl rk_s) ?_
            refine v_inv H (o := 3) rfl rfl rfl rfl rfl rfl (by rfl) (C168 (D := puc 52038409393826314588675 D) (N := puc 52038409393826314588675 N) (HW_subc H oz_I0acls_12 oz_I0acls_8) ((mFu59 3 7 rfl).trans (pf9)) ((mFu59 3 2 rfl).trans (pf4)) ((mFu59 3 3 rfl).trans (pf5)) ((mFu59 3 4 rfl).trans (pf6)) ((mFu59 3 5 rfl).trans (pf7)) ((mFu59 3 6 rfl).trans (pf8)) ((mFu59 3 8 rfl).trans (pf10)) ((mFu59 3 9 rfl).trans (pf11)) (n9) (en9) (n4) (en4) (n5) (en5) (n6) (en6) (n7) (en7) (n8) (en8) (n10) (en10) (n11) (en11) (u3_0) ((eu3_0)) (u3_1) (((mFu59 3 1 rfl).trans (eu3_1))) (w9) (ew9) (w4) (ew4) (w5) (ew5) (w6) (ew6) (w7) (ew7) (w10) (ew10) (w11) (ew11) (show inr (z61) from gz61) (show (n9) ≥ 1 by omega) (show (n4) = (u3_1) ∧ (n5) = (u3_1) ∧ (n6) = (u3_1) ∧ (n7) = (u3_1) ∧ (n8) = (u3_1) ∧ (n10) = (n9) ∧ (n11) = (n9) ∧ 1 ≤ (u3_1) ∧ (u3_1) ≤ 64 by omega) (show 0 ≤ (z61) ∧ (z61) < ((u3_1)) by omega) (fun σ64 F64ₚ A64ₚ Hₚ Oₚ hS64 hA64 y64_0_0 (ey64_0_0 : HID _) w64_1 ew64_1 w64_2 ew64_2 w64_3 ew64_3 w64_4 ew64_4 w64_5 ew64_5 w64_7 ew64_7 w64_8 ew64_8 pz64_0 pz64_1 => ⟨rfl, ?_⟩))
            refine v_backc (c := c) (s := s) H oz_I0acls_12 oz_I0acls_8 Hₚ Oₚ (fun F64 A64 H Oₚ eF64 eA64 => ?_)
            have O := OUT_trans O Oₚ
            -- Share.becomeAlone
            have cF64 : SF oz_I0aclsl_1 F F64 := SF_trans (cFu59) (SF_gluc (ι := oz_I0aclsl_4) oz_I0acls_8 hS64 eF64 (by decide +kernel)) (any_sub (lₚ := [(3, 0)]) (by decide +kernel))
            have mF64 := SFm_of cF64 oz_I0acls_5
            have cA64 : SA oz_I0aclsl_0 A A64 := SA_trans (cAu47) (SA_gluc (ι := oz_I0aclsl_4) oz_I0acls_8 hA64 eA64 (by decide +kernel)) (any_subA (lₚ := [4, 5, 6, 7, 8, 9, 10, 11]) (by decide +kernel))
            have mA64 := SAm_of cA64 oz_I0acls_4
            have r65 : (-2147483648 : Int) ≤ y64_0_0 ∧ y64_0_0 ≤ 2147483647 := rngE (show (-2147483648 : Int) ≤ F64 3 0 ∧ F64 3 0 ≤ 2147483647 from H.krg 3 0 (ltn len_V249_c11_vd_oz_I0acls rfl)) (show F64 3 0 = y64_0_0 from ((eF64 3 0).trans ey64_0_0))
            have hown := pz64_0
            refine Ew_of (pcₚ := 190) (fun _ => x_goto rfl rfl) ?_
            refine Ew_of (pcₚ := 191) (fun _ => x_iconst rfl) ?_
            have hfi0 : IMP (((0) : Int) = 0) (TI3 (((upd1 (w13) (1) (((D 25 : Nat) : Int)))) 1) ((((D 25 : Nat) : Int))) ((((D 3 : Nat) : Int))) ((((D 17 : Nat) : Int)))) := by exact fun q => absurd q (by omega)
            have hfi1 : IMP (((0) : Int) = 0) (SLB (((upd1 (w13) (1) (((D 25 : Nat) : Int)))) 1) ((((D 3 : Nat) : Int))) (SL ((w64_2)) ((u3_1)) ((y64_0_0)) ((w64_3)) ((w64_4)) ((w64_5)) ((w64_1)) ((w64_7)) ((w64_8)))) := by exact fun q => absurd q (by omega)
            have hfi2 : IMP (((0) : Int) = 0) (SLB (((upd1 (w13) (1) (((D 25 : Nat) : Int)))) 1) ((((D 17 : Nat) : Int))) (SL ((w18)) ((u17_1)) ((u17_0)) ((w19)) ((w20)) ((w21)) ((w22)) ((w23)) ((w24)))) := by exact fun q => absurd q (by omega)
            have hfi3 : IMP (((0) : Int) = 0) (ORB (((upd1 (w13) (1) (((D 25 : Nat) : Int)))) 1) ((((D 3 : Nat) : Int))) ((y64_0_0)) 8) := by exact fun q => absurd q (by omega)
            have hfi4 : IMP (((0) : Int) = 0) (ORB (((upd1 (w13) (1) (((D 25 : Nat) : Int)))) 1) ((((D 17 : Nat) : Int))) ((u17_0)) 8) := by exact fun q => absurd q (by omega)
            have hfn : (IMP (((0) : Int) = 0) (((upd1 (w13) (1) (((D 25 : Nat) : Int)))) 1 ≠ -1)) := by exact fun q => absurd q (by omega)
            exact w_ireturn rfl (k (0) _ _ _ H O (cF64) (cA64) ((u0_9 + 1)) (((show F64 0 9 = (updF F 0 9 ((u0_9 + 1))) 0 9 from (eF64 0 9)))) (y64_0_0) (((eF64 3 0).trans ey64_0_0)) (w64_2) ((eA64 4).trans ew64_2) (w64_3) ((eA64 5).trans ew64_3) (w64_4) ((eA64 6).trans ew64_4) (w64_5) ((eA64 7).trans ew64_5) (w64_1) ((eA64 9).trans ew64_1) (w64_7) ((eA64 10).trans ew64_7) (w64_8) ((eA64 11).trans ew64_8) (upd1 (w13) (1) (((D 25 : Nat) : Int))) (((show A64 13 = (updA A 13 (1) (((D 25 : Nat) : Int))) 13 from (eA64 13))).trans (congrArg (fun q => upd1 q (1) (((D 25 : Nat) : Int))) (ew13))) (show inr (0) from q_20) (show 0 ≤ (0) ∧ (0) ≤ 17 by first | exact q_3589 | omega) (show 0 ≤ ((u0_9 + 1)) ∧ (u0_9) ≤ ((u0_9 + 1)) ∧ ((u0_9 + 1)) ≤ (u0_8) from q_3800 b58 h3 h4) (show ((u0_9 + 1)) ≤ (u0_18) from q_1328 b58) (show (IMP ((0) = 0) (((upd1 (w13) (1) (((D 25 : Nat) : Int)))) 1 ≠ -1)) by assumption) (show IMP ((0) = 0) (TI3 (((upd1 (w13) (1) (((D 25 : Nat) : Int)))) 1) ((((D 25 : Nat) : Int))) ((((D 3 : Nat) : Int))) ((((D 17 : Nat) : Int)))) by assumption) (show IMP ((0) = 0) (SLB (((upd1 (w13) (1) (((D 25 : Nat) : Int)))) 1) ((((D 3 : Nat) : Int))) (SL ((w64_2)) ((u3_1)) ((y64_0_0)) ((w64_3)) ((w64_4)) ((w64_5)) ((w64_1)) ((w64_7)) ((w64_8)))) by assumption) (show IMP ((0) = 0) (SLB (((upd1 (w13) (1) (((D 25 : Nat) : Int)))) 1) ((((D 17 : Nat) : Int))) (SL ((w18)) ((u17_1)) ((u17_0)) ((w19)) ((w20)) ((w21)) ((w22)) ((w23)) ((w24)))) by assumption) (show IMP ((0) = 0) (ORB (((upd1 (w13) (1) (((D 25 : Nat) : Int)))) 1) ((((D 3 : Nat) : Int))) ((y64_0_0)) 8) by assumption) (show IMP ((0) = 0) (ORB (((upd1 (w13) (1) (((D 25 : Nat) : Int)))) 1) ((((D 17 : Nat) : Int))) ((u17_0)) 8) by assumption) (show 1 = 0 ∨ ((upd1 (w13) (1) (((D 25 : Nat) : Int)))) 0 = ((w13)) 0 by omega) (show 1 = 1 ∨ ((upd1 (w13) (1) (((D 25 : Nat) : Int)))) 1 = ((w13)) 1 by first | exact q_3503 | omega) (show 1 = 2 ∨ ((upd1 (w13) (1) (((D 25 : Nat) : Int)))) 2 = ((w13)) 2 by omega))
          · refine Ew_of (pcₚ := 117) (fun _ => x_aload_n rfl (rk_o (rfl) rfl rfl)) ?_
            refine Ew_of (pcₚ := 119) (fun _ => x_bipush (z := 16) rfl (by decide)) ?_
            refine Ew_of (pcₚ := 120) (fun _ => x_iload_n rfl (rk_o (rfl) rfl rfl)) ?_
            have r66 : (-2147483648 : Int) ≤ F 0 21 ∧ F 0 21 ≤ 2147483647 := H.krg 0 21 (ltn len_V249_c11_vd_oz_I0acls rfl)
            refine v_inv H (o := 0) rfl rfl rfl rfl rfl rfl (by rfl) (C232 (D := puc 0 D) (N := puc 0 N) (HW_subc H oz_I0acls_11 oz_I0acls_7) (F 0 21) (rfl) (show inr (16) from q_86) (show inr (a3) from h2) (fun z67 σ67 F67ₚ A67ₚ Hₚ Oₚ hS67 hA67 y67_0_21 (ey67_0_21 : HID _) pz67_0 pz67_1 pz67_2 => ⟨rfl, ?_⟩))
            refine v_backc (c := c) (s := s) H oz_I0acls_11 oz_I0acls_7 Hₚ Oₚ (fun F67 A67 H Oₚ eF67 eA67 => ?_)
            have O := OUT_trans O Oₚ
            -- Unpacker.fail
            have cF67 : SF oz_I0aclsl_1 F F67 := SF_trans (cFu59) (SF_gluc (ι := oz_I0aclsl_3) oz_I0acls_7 hS67 eF67 (by decide +kernel)) (any_sub (lₚ := [(0, 21)]) (by decide +kernel))
            have mF67 := SFm_of cF67 oz_I0acls_5
            have cA67 : SA oz_I0aclsl_0 A A67 := SA_trans (cAu47) (SA_gluc (ι := oz_I0aclsl_3) oz_I0acls_7 hA67 eA67 (by decide +kernel)) (any_subA (lₚ := []) (by decide +kernel))
            have mA67 := SAm_of cA67 oz_I0acls_4
            have r68 : (-2147483648 : Int) ≤ y67_0_21 ∧ y67_0_21 ≤ 2147483647 := rngE (show (-2147483648 : Int) ≤ F67 0 21 ∧ F67 0 21 ≤ 2147483647 from H.krg 0 21 (ltn len_V249_c11_vd_oz_I0acls rfl)) (show F67 0 21 = y67_0_21 from ((eF67 0 21).trans ey67_0_21))
            have hfi0 : IMP (((z67) : Int) = 0) (TI3 (((upd1 (w13) (1) (((D 25 : Nat) : Int)))) 1) ((((D 25 : Nat) : Int))) ((((D 3 : Nat) : Int))) ((((D 17 : Nat) : Int)))) := by exact fun q => absurd q (by omega)
            have hfi1 : IMP (((z67) : Int) = 0) (SLB (((upd1 (w13) (1) (((D 25 : Nat) : Int)))) 1) ((((D 3 : Nat) : Int))) (SL ((w4)) ((u3_1)) ((u3_0)) ((w5)) ((w6)) ((w7)) ((w9)) ((w10)) ((w11)))) := by exact fun q => absurd q (by omega)
            have hfi2 : IMP (((z67) : Int) = 0) (SLB (((upd1 (w13) (1) (((D 25 : Nat) : Int)))) 1) ((((D 17 : Nat) : Int))) (SL ((w18)) ((u17_1)) ((u17_0)) ((w19)) ((w20)) ((w21)) ((w22)) ((w23)) ((w24)))) := by exact fun q => absurd q (by omega)
            have hfi3 : IMP (((z67) : Int) = 0) (ORB (((upd1 (w13) (1) (((D 25 : Nat) : Int)))) 1) ((((D 3 : Nat) : Int))) ((u3_0)) 8) := by exact fun q => absurd q (by omega)
            have hfi4 : IMP (((z67) : Int) = 0) (ORB (((upd1 (w13) (1) (((D 25 : Nat) : Int)))) 1) ((((D 17 : Nat) : Int))) ((u17_0)) 8) := by exact fun q => absurd q (by omega)
            have hfn : (IMP (((z67) : Int) = 0) (((upd1 (w13) (1) (((D 25 : Nat) : Int)))) 1 ≠ -1)) := by exact fun q => absurd q (by omega)
            exact w_ireturn rfl (k (z67) _ _ _ H O (cF67) (cA67) ((u0_9 + 1)) (((show F67 0 9 = (updF F 0 9 ((u0_9 + 1))) 0 9 from (eF67 0 9).trans (hS67 0 9 rfl)))) (u3_0) ((((show F67 3 0 = (updF F 0 9 ((u0_9 + 1))) 3 0 from (eF67 3 0))).trans (eu3_0))) (w4) (((show A67 4 = (updA A 13 (1) (((D 25 : Nat) : Int))) 4 from (eA67 4))).trans (ew4)) (w5) (((show A67 5 = (updA A 13 (1) (((D 25 : Nat) : Int))) 5 from (eA67 5))).trans (ew5)) (w6) (((show A67 6 = (updA A 13 (1) (((D 25 : Nat) : Int))) 6 from (eA67 6))).trans (ew6)) (w7) (((show A67 7 = (updA A 13 (1) (((D 25 : Nat) : Int))) 7 from (eA67 7))).trans (ew7)) (w9) (((show A67 9 = (updA A 13 (1) (((D 25 : Nat) : Int))) 9 from (eA67 9))).trans (ew9)) (w10) (((show A67 10 = (updA A 13 (1) (((D 25 : Nat) : Int))) 10 from (eA67 10))).trans (ew10)) (w11) (((show A67 11 = (updA A 13 (1) (((D 25 : Nat) : Int))) 11 from (eA67 11))).trans (ew11)) (upd1 (w13) (1) (((D 25 : Nat) : Int))) (((show A67 13 = (updA A 13 (1) (((D 25 : Nat) : Int))) 13 from (eA67 13))).trans (congrArg (fun q => upd1 q (1) (((D 25 : Nat) : Int))) (ew13))) (show inr (z67) from pz67_0) (show 0 ≤ (z67) ∧ (z67) ≤ 17 from q_3798 pz67_1) (show 0 ≤ ((u0_9 + 1)) ∧ (u0_9) ≤ ((u0_9 + 1)) ∧ ((u0_9 + 1)) ≤ (u0_8) from q_3800 b58 h3 h4) (show ((u0_9 + 1)) ≤ (u0_18) from q_1328 b58) (show (IMP ((z67) = 0) (((upd1 (w13) (1) (((D 25 : Nat) : Int)))) 1 ≠ -1)) from hfn) (show IMP ((z67) = 0) (TI3 (((upd1 (w13) (1) (((D 25 : Nat) : Int)))) 1) ((((D 25 : Nat) : Int))) ((((D 3 : Nat) : Int))) ((((D 17 : Nat) : Int)))) from hfi0) (show IMP ((z67) = 0) (SLB (((upd1 (w13) (1) (((D 25 : Nat) : Int)))) 1) ((((D 3 : Nat) : Int))) (SL ((w4)) ((u3_1)) ((u3_0)) ((w5)) ((w6)) ((w7)) ((w9)) ((w10)) ((w11)))) from hfi1) (show IMP ((z67) = 0) (SLB (((upd1 (w13) (1) (((D 25 : Nat) : Int)))) 1) ((((D 17 : Nat) : Int))) (SL ((w18)) ((u17_1)) ((u17_0)) ((w19)) ((w20)) ((w21)) ((w22)) ((w23)) ((w24)))) from hfi2) (show IMP ((z67) = 0) (ORB (((upd1 (w13) (1) (((D 25 : Nat) : Int)))) 1) ((((D 3 : Nat) : Int))) ((u3_0)) 8) from hfi3) (show IMP ((z67) = 0) (ORB (((upd1 (w13) (1) (((D 25 : Nat) : Int)))) 1) ((((D 17 : Nat) : Int))) ((u17_0)) 8) from hfi4) (show 1 = 0 ∨ ((upd1 (w13) (1) (((D 25 : Nat) : Int)))) 0 = ((w13)) 0 by omega) (show 1 = 1 ∨ ((upd1 (w13) (1) (((D 25 : Nat) : Int)))) 1 = ((w13)) 1 by first | exact q_3503 | omega) (show 1 = 2 ∨ ((upd1 (w13) (1) (((D 25 : Nat) : Int)))) 2 = ((w13)) 2 by omega))
        · refine Ew_of (pcₚ := 74) (fun _ => x_aload_n rfl rfl) ?_
          refine Ew_of (pcₚ := 76) (fun _ => x_bipush (z := 10) rfl (by decide)) ?_
          refine Ew_of (pcₚ := 77) (fun _ => x_aload_n rfl rfl) ?_
          refine v_g H (o := 0) (v := I (u0_18)) rfl rfl rfl rfl rfl (congrArg (fun z : Int => I z) ((eu0_18) : F 0 18 = u0_18)) ?_
          have r69 : (-2147483648 : Int) ≤ F 0 21 ∧ F 0 21 ≤ 2147483647 := H.krg 0 21 (ltn len_V249_c11_vd_oz_I0acls rfl)
          refine v_inv H (o := 0) rfl rfl rfl rfl rfl rfl (by rfl) (C232 (D := puc 0 D) (N := puc 0 N) (HW_subc H oz_I0acls_11 oz_I0acls_7) (F 0 21) (rfl) (show inr (10) from q_532) (show inr (u0_18) from q_22 r3) (fun z70 σ70 F70ₚ A70ₚ Hₚ Oₚ hS70 hA70 y70_0_21 (ey70_0_21 : HID _) pz70_0 pz70_1 pz70_2 => ⟨rfl, ?_⟩))
          refine v_backc (c := c) (s := s) H oz_I0acls_11 oz_I0acls_7 Hₚ Oₚ (fun F70 A70 H Oₚ eF70 eA70 => ?_)
          have O := OUT_trans O Oₚ
          -- Unpacker.fail
          have cF70 : SF oz_I0aclsl_1 F F70 := SF_trans (SF_refl) (SF_gluc (ι := oz_I0aclsl_3) oz_I0acls_7 hS70 eF70 (by decide +kernel)) (any_sub (lₚ := [(0, 21)]) (by decide +kernel))
          have mF70 := SFm_of cF70 oz_I0acls_5
          have cA70 : SA oz_I0aclsl_0 A A70 := SA_trans (cAu47) (SA_gluc (ι := oz_I0aclsl_3) oz_I0acls_7 hA70 eA70 (by decide +kernel)) (any_subA (lₚ := []) (by decide +kernel))
          have mA70 := SAm_of cA70 oz_I0acls_4
          have r71 : (-2147483648 : Int) ≤ y70_0_21 ∧ y70_0_21 ≤ 2147483647 := rngE (show (-2147483648 : Int) ≤ F70 0 21 ∧ F70 0 21 ≤ 2147483647 from H.krg 0 21 (ltn len_V249_c11_vd_oz_I0acls rfl)) (show F70 0 21 = y70_0_21 from ((eF70 0 21).trans ey70_0_21))
          have hfi0 : IMP (((z70) : Int) = 0) (TI3 (((upd1 (w13) (1) (((D 25 : Nat) : Int)))) 1) ((((D 25 : Nat) : Int))) ((((D 3 : Nat) : Int))) ((((D 17 : Nat) : Int)))) := by exact fun q => absurd q (by omega)
          have hfi1 : IMP (((z70) : Int) = 0) (SLB (((upd1 (w13) (1) (((D 25 : Nat) : Int)))) 1) ((((D 3 : Nat) : Int))) (SL ((w4)) ((u3_1)) ((u3_0)) ((w5)) ((w6)) ((w7)) ((w9)) ((w10)) ((w11)))) := by exact fun q => absurd q (by omega)
          have hfi2 : IMP (((z70) : Int) = 0) (SLB (((upd1 (w13) (1) (((D 25 : Nat) : Int)))) 1) ((((D 17 : Nat) : Int))) (SL ((w18)) ((u17_1)) ((u17_0)) ((w19)) ((w20)) ((w21)) ((w22)) ((w23)) ((w24)))) := by exact fun q => absurd q (by omega)
          have hfi3 : IMP (((z70) : Int) = 0) (ORB (((upd1 (w13) (1) (((D 25 : Nat) : Int)))) 1) ((((D 3 : Nat) : Int))) ((u3_0)) 8) := by exact fun q => absurd q (by omega)
          have hfi4 : IMP (((z70) : Int) = 0) (ORB (((upd1 (w13) (1) (((D 25 : Nat) : Int)))) 1) ((((D 17 : Nat) : Int))) ((u17_0)) 8) := by exact fun q => absurd q (by omega)
          have hfn : (IMP (((z70) : Int) = 0) (((upd1 (w13) (1) (((D 25 : Nat) : Int)))) 1 ≠ -1)) := by exact fun q => absurd q (by omega)
          exact w_ireturn rfl (k (z70) _ _ _ H O (cF70) (cA70) (u0_9) ((((show F70 0 9 = F 0 9 from (eF70 0 9).trans (hS70 0 9 rfl))).trans (eu0_9))) (u3_0) ((((show F70 3 0 = F 3 0 from (eF70 3 0))).trans (eu3_0))) (w4) (((show A70 4 = (updA A 13 (1) (((D 25 : Nat) : Int))) 4 from (eA70 4))).trans (ew4)) (w5) (((show A70 5 = (updA A 13 (1) (((D 25 : Nat) : Int))) 5 from (eA70 5))).trans (ew5)) (w6) (((show A70 6 = (updA A 13 (1) (((D 25 : Nat) : Int))) 6 from (eA70 6))).trans (ew6)) (w7) (((show A70 7 = (updA A 13 (1) (((D 25 : Nat) : Int))) 7 from (eA70 7))).trans (ew7)) (w9) (((show A70 9 = (updA A 13 (1) (((D 25 : Nat) : Int))) 9 from (eA70 9))).trans (ew9)) (w10) (((show A70 10 = (updA A 13 (1) (((D 25 : Nat) : Int))) 10 from (eA70 10))).trans (ew10)) (w11) (((show A70 11 = (updA A 13 (1) (((D 25 : Nat) : Int))) 11 from (eA70 11))).trans (ew11)) (upd1 (w13) (1) (((D 25 : Nat) : Int))) (((show A70 13 = (updA A 13 (1) (((D 25 : Nat) : Int))) 13 from (eA70 13))).trans (congrArg (fun q => upd1 q (1) (((D 25 : Nat) : Int))) (ew13))) (show inr (z70) from pz70_0) (show 0 ≤ (z70) ∧ (z70) ≤ 17 from q_3651 pz70_1) (show 0 ≤ (u0_9) ∧ (u0_9) ≤ (u0_9) ∧ (u0_9) ≤ (u0_8) from q_3590 h3) (show (u0_9) ≤ (u0_18) from q_1468 h4) (show (IMP ((z70) = 0) (((upd1 (w13) (1) (((D 25 : Nat) : Int)))) 1 ≠ -1)) from hfn) (show IMP ((z70) = 0) (TI3 (((upd1 (w13) (1) (((D 25 : Nat) : Int)))) 1) ((((D 25 : Nat) : Int))) ((((D 3 : Nat) : Int))) ((((D 17 : Nat) : Int)))) from hfi0) (show IMP ((z70) = 0) (SLB (((upd1 (w13) (1) (((D 25 : Nat) : Int)))) 1) ((((D 3 : Nat) : Int))) (SL ((w4)) ((u3_1)) ((u3_0)) ((w5)) ((w6)) ((w7)) ((w9)) ((w10)) ((w11)))) from hfi1) (show IMP ((z70) = 0) (SLB (((upd1 (w13) (1) (((D 25 : Nat) : Int)))) 1) ((((D 17 : Nat) : Int))) (SL ((w18)) ((u17_1)) ((u17_0)) ((w19)) ((w20)) ((w21)) ((w22)) ((w23)) ((w24)))) from hfi2) (show IMP ((z70) = 0) (ORB (((upd1 (w13) (1) (((D 25 : Nat) : Int)))) 1) ((((D 3 : Nat) : Int))) ((u3_0)) 8) from hfi3) (show IMP ((z70) = 0) (ORB (((upd1 (w13) (1) (((D 25 : Nat) : Int)))) 1) ((((D 17 : Nat) : Int))) ((u17_0)) 8) from hfi4) (show 1 = 0 ∨ ((upd1 (w13) (1) (((D 25 : Nat) : Int)))) 0 = ((w13)) 0 by omega) (show 1 = 1 ∨ ((upd1 (w13) (1) (((D 25 : Nat) : Int)))) 1 = ((w13)) 1 by first | exact q_3503 | omega) (show 1 = 2 ∨ ((upd1 (w13) (1) (((D 25 : Nat) : Int)))) 2 = ((w13)) 2 by omega))
  · refine Ew_of (pcₚ := 6) (fun _ => x_aload_n rfl rfl) ?_
    refine v_g H (o := 0) (v := .ref (D 12)) rfl rfl rfl rfl rfl (vrf (pf12)) ?_
    refine v_g H (o := 12) (v := .ref (D 13)) rfl rfl rfl rfl rfl (vrf (pf13)) ?_
    refine Ew_of (pcₚ := 13) (fun _ => x_iload_n rfl rfl) ?_
    rcases (show (w13) (1) = -1 ∨ (w13) (1) = ((D 25 : Nat) : Int) ∨ (w13) (1) = ((D 3 : Nat) : Int) ∨ (w13) (1) = ((D 17 : Nat) : Int) by assumption) with b72 | b72 | b72 | b72
    · refine v_lR H (o := 13) rfl rfl rfl rfl rfl (n := n13) (en13) (show 0 ≤ 1 ∧ 1 < n13 from q_3806 h7 r18) (z := (-1)) (v := .null) ((congrFun (ew13) (1)).trans b72) (rfl) ?_
      refine Ew_of (pcₚ := 17) (fun _ => x_ifnonnull_f rfl rfl) ?_
      refine Ew_of (pcₚ := 18) (fun _ => x_aload_n rfl rfl) ?_
      refine Ew_of (pcₚ := 20) (fun _ => x_bipush (z := 16) rfl (by decide)) ?_
      refine Ew_of (pcₚ := 21) (fun _ => x_iload_n rfl rfl) ?_
      have r73 : (-2147483648 : Int) ≤ F 0 21 ∧ F 0 21 ≤ 2147483647 := H.krg 0 21 (ltn len_V249_c11_vd_oz_I0acls rfl)
      refine v_inv H (o := 0) rfl rfl rfl rfl rfl rfl (by rfl) (C232 (D := puc 0 D) (N := puc 0 N) (HW_subc H oz_I0acls_11 oz_I0acls_7) (F 0 21) (rfl) (show inr (16) from q_86) (show inr (a3) from h2) (fun z74 σ74 F74ₚ A74ₚ Hₚ Oₚ hS74 hA74 y74_0_21 (ey74_0_21 : HID _) pz74_0 pz74_1 pz74_2 => ⟨rfl, ?_⟩))
      refine v_backc (c := c) (s := s) H oz_I0acls_11 oz_I0acls_7 Hₚ Oₚ (fun F74 A74 H Oₚ eF74 eA74 => ?_)
      have O := OUT_trans O Oₚ
      -- Unpacker.fail
      have cF74 : SF oz_I0aclsl_1 F F74 := SF_trans (SF_refl) (SF_gluc (ι := oz_I0aclsl_3) oz_I0acls_7 hS74 eF74 (by decide +kernel)) (any_sub (lₚ := [(0, 21)]) (by decide +kernel))
      have mF74 := SFm_of cF74 oz_I0acls_5
      have cA74 : SA oz_I0aclsl_0 A A74 := SA_trans (SA_refl) (SA_gluc (ι := oz_I0aclsl_3) oz_I0acls_7 hA74 eA74 (by decide +kernel)) (any_subA (lₚ := []) (by decide +kernel))
      have mA74 := SAm_of cA74 oz_I0acls_4
      have r75 : (-2147483648 : Int) ≤ y74_0_21 ∧ y74_0_21 ≤ 2147483647 := rngE (show (-2147483648 : Int) ≤ F74 0 21 ∧ F74 0 21 ≤ 2147483647 from H.krg 0 21 (ltn len_V249_c11_vd_oz_I0acls rfl)) (show F74 0 21 = y74_0_21 from ((eF74 0 21).trans ey74_0_21))
      refine Ew_of (pcₚ := 28) (fun _ => x_goto rfl rfl) ?_
      have hfi0 : IMP (((z74) : Int) = 0) (TI3 (((w13)) 1) ((((D 25 : Nat) : Int))) ((((D 3 : Nat) : Int))) ((((D 17 : Nat) : Int)))) := by exact fun q => absurd q (by omega)
      have hfi1 : IMP (((z74) : Int) = 0) (SLB (((w13)) 1) ((((D 3 : Nat) : Int))) (SL ((w4)) ((u3_1)) ((u3_0)) ((w5)) ((w6)) ((w7)) ((w9)) ((w10)) ((w11)))) := by exact fun q => absurd q (by omega)
      have hfi2 : IMP (((z74) : Int) = 0) (SLB (((w13)) 1) ((((D 17 : Nat) : Int))) (SL ((w18)) ((u17_1)) ((u17_0)) ((w19)) ((w20)) ((w21)) ((w22)) ((w23)) ((w24)))) := by exact fun q => absurd q (by omega)
      have hfi3 : IMP (((z74) : Int) = 0) (ORB (((w13)) 1) ((((D 3 : Nat) : Int))) ((u3_0)) 8) := by exact fun q => absurd q (by omega)
      have hfi4 : IMP (((z74) : Int) = 0) (ORB (((w13)) 1) ((((D 17 : Nat) : Int))) ((u17_0)) 8) := by exact fun q => absurd q (by omega)
      have hfn : (IMP (((z74) : Int) = 0) (((w13)) 1 ≠ -1)) := by exact fun q => absurd q (by omega)
      exact w_ireturn rfl (k (z74) _ _ _ H O (cF74) (cA74) (u0_9) ((((show F74 0 9 = F 0 9 from (eF74 0 9).trans (hS74 0 9 rfl))).trans (eu0_9))) (u3_0) ((((show F74 3 0 = F 3 0 from (eF74 3 0))).trans (eu3_0))) (w4) (((show A74 4 = A 4 from (eA74 4))).trans (ew4)) (w5) (((show A74 5 = A 5 from (eA74 5))).trans (ew5)) (w6) (((show A74 6 = A 6 from (eA74 6))).trans (ew6)) (w7) (((show A74 7 = A 7 from (eA74 7))).trans (ew7)) (w9) (((show A74 9 = A 9 from (eA74 9))).trans (ew9)) (w10) (((show A74 10 = A 10 from (eA74 10))).trans (ew10)) (w11) (((show A74 11 = A 11 from (eA74 11))).trans (ew11)) (w13) (((show A74 13 = A 13 from (eA74 13))).trans (ew13)) (show inr (z74) from pz74_0) (show 0 ≤ (z74) ∧ (z74) ≤ 17 from q_3798 pz74_1) (show 0 ≤ (u0_9) ∧ (u0_9) ≤ (u0_9) ∧ (u0_9) ≤ (u0_8) from q_3590 h3) (show (u0_9) ≤ (u0_18) from q_1468 h4) (show (IMP ((z74) = 0) (((w13)) 1 ≠ -1)) from hfn) (show IMP ((z74) = 0) (TI3 (((w13)) 1) ((((D 25 : Nat) : Int))) ((((D 3 : Nat) : Int))) ((((D 17 : Nat) : Int)))) from hfi0) (show IMP ((z74) = 0) (SLB (((w13)) 1) ((((D 3 : Nat) : Int))) (SL ((w4)) ((u3_1)) ((u3_0)) ((w5)) ((w6)) ((w7)) ((w9)) ((w10)) ((w11)))) from hfi1) (show IMP ((z74) = 0) (SLB (((w13)) 1) ((((D 17 : Nat) : Int))) (SL ((w18)) ((u17_1)) ((u17_0)) ((w19)) ((w20)) ((w21)) ((w22)) ((w23)) ((w24)))) from hfi2) (show IMP ((z74) = 0) (ORB (((w13)) 1) ((((D 3 : Nat) : Int))) ((u3_0)) 8) from hfi3) (show IMP ((z74) = 0) (ORB (((w13)) 1) ((((D 17 : Nat) : Int))) ((u17_0)) 8) from hfi4) (show 1 = 0 ∨ ((w13)) 0 = ((w13)) 0 by first | exact q_3811 | omega) (show 1 = 1 ∨ ((w13)) 1 = ((w13)) 1 by first | exact q_3810 | omega) (show 1 = 2 ∨ ((w13)) 2 = ((w13)) 2 by first | exact q_3809 | omega))
    · refine v_lR H (o := 13) rfl rfl rfl rfl rfl (n := n13) (en13) (show 0 ≤ 1 ∧ 1 < n13 from q_3806 h7 r18) (z := ((D 25 : Nat) : Int)) (v := .ref (D 25)) ((congrFun (ew13) (1)).trans b72) (vrf rfl) ?_
      refine Ew_of (pcₚ := 27) (fun _ => x_ifnonnull_t rfl rfl) ?_
      refine Ew_of (pcₚ := 28) (fun _ => x_iconst rfl) ?_
      have hfi0 : IMP (((0) : Int) = 0) (TI3 (((w13)) 1) ((((D 25 : Nat) : Int))) ((((D 3 : Nat) : Int))) ((((D 17 : Nat) : Int)))) := by exact fun _ => (by assumption)
      have hfi1 : IMP (((0) : Int) = 0) (SLB (((w13)) 1) ((((D 3 : Nat) : Int))) (SL ((w4)) ((u3_1)) ((u3_0)) ((w5)) ((w6)) ((w7)) ((w9)) ((w10)) ((w11)))) := by exact fun _ => (by assumption)
      have hfi2 : IMP (((0) : Int) = 0) (SLB (((w13)) 1) ((((D 17 : Nat) : Int))) (SL ((w18)) ((u17_1)) ((u17_0)) ((w19)) ((w20)) ((w21)) ((w22)) ((w23)) ((w24)))) := by exact fun _ => (by assumption)
      have hfi3 : IMP (((0) : Int) = 0) (ORB (((w13)) 1) ((((D 3 : Nat) : Int))) ((u3_0)) 8) := by exact fun _ => (by assumption)
      have hfi4 : IMP (((0) : Int) = 0) (ORB (((w13)) 1) ((((D 17 : Nat) : Int))) ((u17_0)) 8) := by exact fun _ => (by assumption)
      have hfn : (IMP (((0) : Int) = 0) (((w13)) 1 ≠ -1)) := by exact fun _ => (by omega)
      exact w_ireturn rfl (k (0) _ _ _ H O (SF_refl) (SA_refl) (u0_9) ((eu0_9)) (u3_0) ((eu3_0)) (w4) (ew4) (w5) (ew5) (w6) (ew6) (w7) (ew7) (w9) (ew9) (w10) (ew10) (w11) (ew11) (w13) (ew13) (show inr (0) from q_20) (show 0 ≤ (0) ∧ (0) ≤ 17 by first | exact q_3589 | omega) (show 0 ≤ (u0_9) ∧ (u0_9) ≤ (u0_9) ∧ (u0_9) ≤ (u0_8) from q_3590 h3) (show (u0_9) ≤ (u0_18) from q_1468 h4) (show (IMP ((0) = 0) (((w13)) 1 ≠ -1)) by assumption) (show IMP ((0) = 0) (TI3 (((w13)) 1) ((((D 25 : Nat) : Int))) ((((D 3 : Nat) : Int))) ((((D 17 : Nat) : Int)))) by assumption) (show IMP ((0) = 0) (SLB (((w13)) 1) ((((D 3 : Nat) : Int))) (SL ((w4)) ((u3_1)) ((u3_0)) ((w5)) ((w6)) ((w7)) ((w9)) ((w10)) ((w11)))) by assumption) (show IMP ((0) = 0) (SLB (((w13)) 1) ((((D 17 : Nat) : Int))) (SL ((w18)) ((u17_1)) ((u17_0)) ((w19)) ((w20)) ((w21)) ((w22)) ((w23)) ((w24)))) by assumption) (show IMP ((0) = 0) (ORB (((w13)) 1) ((((D 3 : Nat) : Int))) ((u3_0)) 8) by assumption) (show IMP ((0) = 0) (ORB (((w13)) 1) ((((D 17 : Nat) : Int))) ((u17_0)) 8) by assumption) (show 1 = 0 ∨ ((w13)) 0 = ((w13)) 0 by first | exact q_3811 | omega) (show 1 = 1 ∨ ((w13)) 1 = ((w13)) 1 by first | exact q_3810 | omega) (show 1 = 2 ∨ ((w13)) 2 = ((w13)) 2 by first | exact q_3809 | omega))
    · refine v_lR H (o := 13) rfl rfl rfl rfl rfl (n := n13) (en13) (show 0 ≤ 1 ∧ 1 < n13 from q_3806 h7 r18) (z := ((D 3 : Nat) : Int)) (v := .ref (D 3)) ((congrFun (ew13) (1)).trans b72) (vrf rfl) ?_
      refine Ew_of (pcₚ := 27) (fun _ => x_ifnonnull_t rfl rfl) ?_
      refine Ew_of (pcₚ := 28) (fun _ => x_iconst rfl) ?_
      have hfi0 : IMP (((0) : Int) = 0) (TI3 (((w13)) 1) ((((D 25 : Nat) : Int))) ((((D 3 : Nat) : Int))) ((((D 17 : Nat) : Int)))) := by exact fun _ => (by assumption)
      have hfi1 : IMP (((0) : Int) = 0) (SLB (((w13)) 1) ((((D 3 : Nat) : Int))) (SL ((w4)) ((u3_1)) ((u3_0)) ((w5)) ((w6)) ((w7)) ((w9)) ((w10)) ((w11)))) := by exact fun _ => (by assumption)
      have hfi2 : IMP (((0) : Int) = 0) (SLB (((w13)) 1) ((((D 17 : Nat) : Int))) (SL ((w18)) ((u17_1)) ((u17_0)) ((w19)) ((w20)) ((w21)) ((w22)) ((w23)) ((w24)))) := by exact fun _ => (by assumption)
      have hfi3 : IMP (((0) : Int) = 0) (ORB (((w13)) 1) ((((D 3 : Nat) : Int))) ((u3_0)) 8) := by exact fun _ => (by assumption)
      have hfi4 : IMP (((0) : Int) = 0) (ORB (((w13)) 1) ((((D 17 : Nat) : Int))) ((u17_0)) 8) := by exact fun _ => (by assumption)
      have hfn : (IMP (((0) : Int) = 0) (((w13)) 1 ≠ -1)) := by exact fun _ => (by omega)
      exact w_ireturn rfl (k (0) _ _ _ H O (SF_refl) (SA_refl) (u0_9) ((eu0_9)) (u3_0) ((eu3_0)) (w4) (ew4) (w5) (ew5) (w6) (ew6) (w7) (ew7) (w9) (ew9) (w10) (ew10) (w11) (ew11) (w13) (ew13) (show inr (0) from q_20) (show 0 ≤ (0) ∧ (0) ≤ 17 by first | exact q_3589 | omega) (show 0 ≤ (u0_9) ∧ (u0_9) ≤ (u0_9) ∧ (u0_9) ≤ (u0_8) from q_3590 h3) (show (u0_9) ≤ (u0_18) from q_1468 h4) (show (IMP ((0) = 0) (((w13)) 1 ≠ -1)) by assumption) (show IMP ((0) = 0) (TI3 (((w13)) 1) ((((D 25 : Nat) : Int))) ((((D 3 : Nat) : Int))) ((((D 17 : Nat) : Int)))) by assumption) (show IMP ((0) = 0) (SLB (((w13)) 1) ((((D 3 : Nat) : Int))) (SL ((w4)) ((u3_1)) ((u3_0)) ((w5)) ((w6)) ((w7)) ((w9)) ((w10)) ((w11)))) by assumption) (show IMP ((0) = 0) (SLB (((w13)) 1) ((((D 17 : Nat) : Int))) (SL ((w18)) ((u17_1)) ((u17_0)) ((w19)) ((w20)) ((w21)) ((w22)) ((w23)) ((w24)))) by assumption) (show IMP ((0) = 0) (ORB (((w13)) 1) ((((D 3 : Nat) : Int))) ((u3_0)) 8) by assumption) (show IMP ((0) = 0) (ORB (((w13)) 1) ((((D 17 : Nat) : Int))) ((u17_0)) 8) by assumption) (show 1 = 0 ∨ ((w13)) 0 = ((w13)) 0 by first | exact q_3811 | omega) (show 1 = 1 ∨ ((w13)) 1 = ((w13)) 1 by first | exact q_3810 | omega) (show 1 = 2 ∨ ((w13)) 2 = ((w13)) 2 by first | exact q_3809 | omega))
    · refine v_lR H (o := 13) rfl rfl rfl rfl rfl (n := n13) (en13) (show 0 ≤ 1 ∧ 1 < n13 from q_3806 h7 r18) (z := ((D 17 : Nat) : Int)) (v := .ref (D 17)) ((congrFun (ew13) (1)).trans b72) (vrf rfl) ?_
      refine Ew_of (pcₚ := 27) (fun _ => x_ifnonnull_t rfl rfl) ?_
      refine Ew_of (pcₚ := 28) (fun _ => x_iconst rfl) ?_
      have hfi0 : IMP (((0) : Int) = 0) (TI3 (((w13)) 1) ((((D 25 : Nat) : Int))) ((((D 3 : Nat) : Int))) ((((D 17 : Nat) : Int)))) := by exact fun _ => (by assumption)
      have hfi1 : IMP (((0) : Int) = 0) (SLB (((w13)) 1) ((((D 3 : Nat) : Int))) (SL ((w4)) ((u3_1)) ((u3_0)) ((w5)) ((w6)) ((w7)) ((w9)) ((w10)) ((w11)))) := by exact fun _ => (by assumption)
      have hfi2 : IMP (((0) : Int) = 0) (SLB (((w13)) 1) ((((D 17 : Nat) : Int))) (SL ((w18)) ((u17_1)) ((u17_0)) ((w19)) ((w20)) ((w21)) ((w22)) ((w23)) ((w24)))) := by exact fun _ => (by assumption)
      have hfi3 : IMP (((0) : Int) = 0) (ORB (((w13)) 1) ((((D 3 : Nat) : Int))) ((u3_0)) 8) := by exact fun _ => (by assumption)
      have hfi4 : IMP (((0) : Int) = 0) (ORB (((w13)) 1) ((((D 17 : Nat) : Int))) ((u17_0)) 8) := by exact fun _ => (by assumption)
      have hfn : (IMP (((0) : Int) = 0) (((w13)) 1 ≠ -1)) := by exact fun _ => (by omega)
      exact w_ireturn rfl (k (0) _ _ _ H O (SF_refl) (SA_refl) (u0_9) ((eu0_9)) (u3_0) ((eu3_0)) (w4) (ew4) (w5) (ew5) (w6) (ew6) (w7) (ew7) (w9) (ew9) (w10) (ew10) (w11) (ew11) (w13) (ew13) (show inr (0) from q_20) (show 0 ≤ (0) ∧ (0) ≤ 17 by first | exact q_3589 | omega) (show 0 ≤ (u0_9) ∧ (u0_9) ≤ (u0_9) ∧ (u0_9) ≤ (u0_8) from q_3590 h3) (show (u0_9) ≤ (u0_18) from q_1468 h4) (show (IMP ((0) = 0) (((w13)) 1 ≠ -1)) by assumption) (show IMP ((0) = 0) (TI3 (((w13)) 1) ((((D 25 : Nat) : Int))) ((((D 3 : Nat) : Int))) ((((D 17 : Nat) : Int)))) by assumption) (show IMP ((0) = 0) (SLB (((w13)) 1) ((((D 3 : Nat) : Int))) (SL ((w4)) ((u3_1)) ((u3_0)) ((w5)) ((w6)) ((w7)) ((w9)) ((w10)) ((w11)))) by assumption) (show IMP ((0) = 0) (SLB (((w13)) 1) ((((D 17 : Nat) : Int))) (SL ((w18)) ((u17_1)) ((u17_0)) ((w19)) ((w20)) ((w21)) ((w22)) ((w23)) ((w24)))) by assumption) (show IMP ((0) = 0) (ORB (((w13)) 1) ((((D 3 : Nat) : Int))) ((u3_0)) 8) by assumption) (show IMP ((0) = 0) (ORB (((w13)) 1) ((((D 17 : Nat) : Int))) ((u17_0)) 8) by assumption) (show 1 = 0 ∨ ((w13)) 0 = ((w13)) 0 by first | exact q_3811 | omega) (show 1 = 1 ∨ ((w13)) 1 = ((w13)) 1 by first | exact q_3810 | omega) (show 1 = 2 ∨ ((w13)) 2 = ((w13)) 2 by first | exact q_3809 | omega))
theorem len_V249_c12_vd_oz_I0acls : (V249_c12_vd).length = 26 := by decide +kernel
theorem oz_I0acls_14 : vsub V249_c12_vd V184_Br [3, 1, 9, 4, 5, 6, 7, 8, 10, 11] = true := by decide +kernel
theorem oz_I0acls_15 : vsub V249_c12_vd V232 [0] = true := by decide +kernel
theorem oz_I0acls_16 : vsub V249_c12_vd V168 [3, 9, 4, 5, 6, 7, 8, 10, 11] = true := by decide +kernel
/-- Unpacker.unpackTable: this, this.in, this.ownTables, this.ownTables.2, this.ownTables.2.points, this.ownTables.2.masses, this.ownTables.2.mostBits, this.ownTables.2.starts, this.ownTables.2.used, this.ownTables.2.symbolAt, this.ownTables.2.numberAt, this.ownTables.2.placeOf, this.now, this.now.tables, this.known, this.dictionary, this.dictionary.tables, this.dictionary.tables.2, this.dictionary.tables.2.points, this.dictionary.tables.2.masses, this.dictionary.tables.2.mostBits, this.dictionary.tables.2.starts, this.dictionary.tables.2.symbolAt, this.dictionary.tables.2.numberAt, this.dictionary.tables.2.placeOf, this.known.2 -/
theorem C249_c12_vdo {σE : rS} {D N : Nat → Nat} {F : hF} {A : hA} {d c s : Nat} {Q : wQ} (H : HW V249_c12_vd σE D N F A) (HT : STC σE) {a2 a3 : Int} (pf1 : HID (F 0 7 = (D 1 : Int))) (pf2 : HID (F 0 2 = (D 2 : Int))) (pf3 : HID (A 2 2 = (D 3 : Int))) (pf4 : HID (F 3 2 = (D 4 : Int))) (pf5 : HID (F 3 3 = (D 5 : Int))) (pf6 : HID (F 3 4 = (D 6 : Int))) (pf7 : HID (F 3 5 = (D 7 : Int))) (pf8 : HID (F 3 6 = (D 8 : Int))) (pf9 : HID (F 3 7 = (D 9 : Int))) (pf10 : HID (F 3 8 = (D 10 : Int))) (pf11 : HID (F 3 9 = (D 11 : Int))) (pf12 : HID (F 0 3 = (D 12 : Int))) (pf13 : HID (F 12 1 = (D 13 : Int))) (pf14 : HID (F 0 0 = (D 14 : Int))) (pf15 : HID (F 0 12 = (D 15 : Int))) (pf16 : HID (F 15 4 = (D 16 : Int))) (pf17 : HID (A 16 2 = (D 17 : Int))) (pf18 : HID (F 17 2 = (D 18 : Int))) (pf19 : HID (F 17 3 = (D 19 : Int))) (pf20 : HID (F 17 4 = (D 20 : Int))) (pf21 : HID (F 17 5 = (D 21 : Int))) (pf22 : HID (F 17 7 = (D 22 : Int))) (pf23 : HID (F 17 8 = (D 23 : Int))) (pf24 : HID (F 17 9 = (D 24 : Int))) (pf25 : HID (A 14 2 = (D 25 : Int))) (n1 : Int) (en1 : HID ((N 1 : Int) = n1)) (n2 : Int) (en2 : HID ((N 2 : Int) = n2)) (n4 : Int) (en4 : HID ((N 4 : Int) = n4)) (n5 : Int) (en5 : HID ((N 5 : Int) = n5)) (n6 : Int) (en6 : HID ((N 6 : Int) = n6)) (n7 : Int) (en7 : HID ((N 7 : Int) = n7)) (n8 : Int) (en8 : HID ((N 8 : Int) = n8)) (n9 : Int) (en9 : HID ((N 9 : Int) = n9)) (n10 : Int) (en10 : HID ((N 10 : Int) = n10)) (n11 : Int) (en11 : HID ((N 11 : Int) = n11)) (n13 : Int) (en13 : HID ((N 13 : Int) = n13)) (n14 : Int) (en14 : HID ((N 14 : Int) = n14)) (n16 : Int) (en16 : HID ((N 16 : Int) = n16)) (n18 : Int) (en18 : HID ((N 18 : Int) = n18)) (n19 : Int) (en19 : HID ((N 19 : Int) = n19)) (n20 : Int) (en20 : HID ((N 20 : Int) = n20)) (n21 : Int) (en21 : HID ((N 21 : Int) = n21)) (n22 : Int) (en22 : HID ((N 22 : Int) = n22)) (n23 : Int) (en23 : HID ((N 23 : Int) = n23)) (n24 : Int) (en24 : HID ((N 24 : Int) = n24)) (u0_8 : Int) (eu0_8 : HID (F 0 8 = u0_8)) (u0_9 : Int) (eu0_9 : HID (F 0 9 = u0_9)) (u0_18 : Int) (eu0_18 : HID (F 0 18 = u0_18)) (u3_0 : Int) (eu3_0 : HID (F 3 0 = u3_0)) (u3_1 : Int) (eu3_1 : HID (F 3 1 = u3_1)) (u17_0 : Int) (eu17_0 : HID (F 17 0 = u17_0)) (u17_1 : Int) (eu17_1 : HID (F 17 1 = u17_1)) (w4 : Int → Int) (ew4 : A 4 = w4) (w5 : Int → Int) (ew5 : A 5 = w5) (w6 : Int → Int) (ew6 : A 6 = w6) (w7 : Int → Int) (ew7 : A 7 = w7) (w9 : Int → Int) (ew9 : A 9 = w9) (w10 : Int → Int) (ew10 : A 10 = w10) (w11 : Int → Int) (ew11 : A 11 = w11) (w13 : Int → Int) (ew13 : A 13 = w13) (w18 : Int → Int) (ew18 : A 18 = w18) (w19 : Int → Int) (ew19 : A 19 = w19) (w20 : Int → Int) (ew20 : A 20 = w20) (w21 : Int → Int) (ew21 : A 21 = w21) (w22 : Int → Int) (ew22 : A 22 = w22) (w23 : Int → Int) (ew23 : A 23 = w23) (w24 : Int → Int) (ew24 : A 24 = w24) (h0 : inr (2)) (h1 : inr (a2)) (h2 : inr (a3)) (h3 : 0 ≤ (u0_9) ∧ (u0_9) ≤ (u0_8) ∧ (u0_8) ≤ (n1) ∧ (n1) ≤ 65536) (h4 : (u0_9) ≤ (u0_18) ∧ (u0_18) ≤ (u0_8)) (h5 : 0 ≤ (a2) ∧ (a2) ≤ 3) (h6 : SHZD ((n4)) ((n5)) ((n6)) ((n7)) ((n8)) ((n9)) ((n10)) ((n11)) ((u3_1)) 53 512) (h7 : (n13) = 3 ∧ (n14) = 3 ∧ (n2) = 3) (h8 : TI3 (((w13)) 2) ((((D 25 : Nat) : Int))) ((((D 3 : Nat) : Int))) ((((D 17 : Nat) : Int)))) (h9 : SLB (((w13)) 2) ((((D 3 : Nat) : Int))) (SL ((w4)) ((u3_1)) ((u3_0)) ((w5)) ((w6)) ((w7)) ((w9)) ((w10)) ((w11)))) (h10 : SLB (((w13)) 2) ((((D 17 : Nat) : Int))) (SL ((w18)) ((u17_1)) ((u17_0)) ((w19)) ((w20)) ((w21)) ((w22)) ((w23)) ((w24)))) (h11 : ORB (((w13)) 2) ((((D 3 : Nat) : Int))) ((u3_0)) 9) (h12 : ORB (((w13)) 2) ((((D 17 : Nat) : Int))) ((u17_0)) 9) (k : ∀ (z : Int) (σ : rS) (Fₚ : hF) (Aₚ : hA), HW V249_c12_vd σ D N Fₚ Aₚ → OUT (V249_c12_vd).length D N σE c s D N σ c s → SF [(0, 9), (0, 21), (3, 0), (3, 10), (3, 11), (3, 12)] F Fₚ → SA [4, 5, 6, 7, 8, 9, 10, 11, 13] A Aₚ → ∀ y0_9 : Int, Fₚ 0 9 = y0_9 → ∀ y3_0 : Int, Fₚ 3 0 = y3_0 → ∀ v4 : Int → Int, Aₚ 4 = v4 → ∀ v5 : Int → Int, Aₚ 5 = v5 → ∀ v6 : Int → Int, Aₚ 6 = v6 → ∀ v7 : Int → Int, Aₚ 7 = v7 → ∀ v9 : Int → Int, Aₚ 9 = v9 → ∀ v10 : Int → Int, Aₚ 10 = v10 → ∀ v11 : Int → Int, Aₚ 11 = v11 → ∀ v13 : Int → Int, Aₚ 13 = v13 → (inr (z)) → (0 ≤ (z) ∧ (z) ≤ 17) → (0 ≤ (y0_9) ∧ (u0_9) ≤ (y0_9) ∧ (y0_9) ≤ (u0_8)) → ((y0_9) ≤ (u0_18)) → ((IMP ((z) = 0) (((v13)) 2 ≠ -1))) → (IMP ((z) = 0) (TI3 (((v13)) 2) ((((D 25 : Nat) : Int))) ((((D 3 : Nat) : Int))) ((((D 17 : Nat) : Int))))) → (IMP ((z) = 0) (SLB (((v13)) 2) ((((D 3 : Nat) : Int))) (SL ((v4)) ((u3_1)) ((y3_0)) ((v5)) ((v6)) ((v7)) ((v9)) ((v10)) ((v11))))) → (IMP ((z) = 0) (SLB (((v13)) 2) ((((D 17 : Nat) : Int))) (SL ((w18)) ((u17_1)) ((u17_0)) ((w19)) ((w20)) ((w21)) ((w22)) ((w23)) ((w24))))) → (IMP ((z) = 0) (ORB (((v13)) 2) ((((D 3 : Nat) : Int))) ((y3_0)) 9)) → (IMP ((z) = 0) (ORB (((v13)) 2) ((((D 17 : Nat) : Int))) ((u17_0)) 9)) → (2 = 0 ∨ ((v13)) 0 = ((w13)) 0) → (2 = 1 ∨ ((v13)) 1 = ((w13)) 1) → (2 = 2 ∨ ((v13)) 2 = ((w13)) 2) → Q (some (I z)) σ c s) : Ew 249 (d + 2) 0 (rargs 0 [.ref (D 0), I 2, I a2, I a3]) [] σE c s Q := by
  have O := OUT_refl (n := (V249_c12_vd).length) (D := D) (N := N) (σ := σE) (c := c) (s := s)
  have HE := H
  have r1 : (-2147483648 : Int) ≤ u0_8 ∧ u0_8 ≤ 2147483647 := rngE (show (-2147483648 : Int) ≤ F 0 8 ∧ F 0 8 ≤ 2147483647 from H.krg 0 8 (ltn len_V249_c12_vd_oz_I0acls rfl)) (show F 0 8 = u0_8 from (eu0_8))
  have r2 : (-2147483648 : Int) ≤ u0_9 ∧ u0_9 ≤ 2147483647 := rngE (show (-2147483648 : Int) ≤ F 0 9 ∧ F 0 9 ≤ 2147483647 from H.krg 0 9 (ltn len_V249_c12_vd_oz_I0acls rfl)) (show F 0 9 = u0_9 from (eu0_9))
  have r3 : (-2147483648 : Int) ≤ u0_18 ∧ u0_18 ≤ 2147483647 := rngE (show (-2147483648 : Int) ≤ F 0 18 ∧ F 0 18 ≤ 2147483647 from H.krg 0 18 (ltn len_V249_c12_vd_oz_I0acls rfl)) (show F 0 18 = u0_18 from (eu0_18))
  have r4 : (-2147483648 : Int) ≤ u3_0 ∧ u3_0 ≤ 2147483647 := rngE (show (-2147483648 : Int) ≤ F 3 0 ∧ F 3 0 ≤ 2147483647 from H.krg 3 0 (ltn len_V249_c12_vd_oz_I0acls rfl)) (show F 3 0 = u3_0 from (eu3_0))
  have r5 : (-2147483648 : Int) ≤ u3_1 ∧ u3_1 ≤ 2147483647 := rngE (show (-2147483648 : Int) ≤ F 3 1 ∧ F 3 1 ≤ 2147483647 from H.krg 3 1 (ltn len_V249_c12_vd_oz_I0acls rfl)) (show F 3 1 = u3_1 from (eu3_1))
  have r6 : (-2147483648 : Int) ≤ u17_0 ∧ u17_0 ≤ 2147483647 := rngE (show (-2147483648 : Int) ≤ F 17 0 ∧ F 17 0 ≤ 2147483647 from H.krg 17 0 (ltn len_V249_c12_vd_oz_I0acls rfl)) (show F 17 0 = u17_0 from (eu17_0))
  have r7 : (-2147483648 : Int) ≤ u17_1 ∧ u17_1 ≤ 2147483647 := rngE (show (-2147483648 : Int) ≤ F 17 1 ∧ F 17 1 ≤ 2147483647 from H.krg 17 1 (ltn len_V249_c12_vd_oz_I0acls rfl)) (show F 17 1 = u17_1 from (eu17_1))
  have r8 : (0 : Int) ≤ n1 ∧ n1 ≤ 1000000 := nleE (H.nle 1 (ltn len_V249_c12_vd_oz_I0acls rfl)) (show (N 1 : Int) = n1 from en1)
  have r9 : (0 : Int) ≤ n2 ∧ n2 ≤ 1000000 := nleE (H.nle 2 (ltn len_V249_c12_vd_oz_I0acls rfl)) (show (N 2 : Int) = n2 from en2)
  have r10 : (0 : Int) ≤ n4 ∧ n4 ≤ 1000000 := nleE (H.nle 4 (ltn len_V249_c12_vd_oz_I0acls rfl)) (show (N 4 : Int) = n4 from en4)
  have r11 : (0 : Int) ≤ n5 ∧ n5 ≤ 1000000 := nleE (H.nle 5 (ltn len_V249_c12_vd_oz_I0acls rfl)) (show (N 5 : Int) = n5 from en5)
  have r12 : (0 : Int) ≤ n6 ∧ n6 ≤ 1000000 := nleE (H.nle 6 (ltn len_V249_c12_vd_oz_I0acls rfl)) (show (N 6 : Int) = n6 from en6)
  have r13 : (0 : Int) ≤ n7 ∧ n7 ≤ 1000000 := nleE (H.nle 7 (ltn len_V249_c12_vd_oz_I0acls rfl)) (show (N 7 : Int) = n7 from en7)
  have r14 : (0 : Int) ≤ n8 ∧ n8 ≤ 1000000 := nleE (H.nle 8 (ltn len_V249_c12_vd_oz_I0acls rfl)) (show (N 8 : Int) = n8 from en8)
  have r15 : (0 : Int) ≤ n9 ∧ n9 ≤ 1000000 := nleE (H.nle 9 (ltn len_V249_c12_vd_oz_I0acls rfl)) (show (N 9 : Int) = n9 from en9)
  have r16 : (0 : Int) ≤ n10 ∧ n10 ≤ 1000000 := nleE (H.nle 10 (ltn len_V249_c12_vd_oz_I0acls rfl)) (show (N 10 : Int) = n10 from en10)
  have r17 : (0 : Int) ≤ n11 ∧ n11 ≤ 1000000 := nleE (H.nle 11 (ltn len_V249_c12_vd_oz_I0acls rfl)) (show (N 11 : Int) = n11 from en11)
  have r18 : (0 : Int) ≤ n13 ∧ n13 ≤ 1000000 := nleE (H.nle 13 (ltn len_V249_c12_vd_oz_I0acls rfl)) (show (N 13 : Int) = n13 from en13)
  have r19 : (0 : Int) ≤ n14 ∧ n14 ≤ 1000000 := nleE (H.nle 14 (ltn len_V249_c12_vd_oz_I0acls rfl)) (show (N 14 : Int) = n14 from en14)
  have hszq : SHZD ((n4)) ((n5)) ((n6)) ((n7)) ((n8)) ((n9)) ((n10)) ((n11)) ((u3_1)) 53 512 := h6
  unfold SHZD at hszq
  have hnea : (((D 25 : Nat) : Int)) ≠ (((D 3 : Nat) : Int)) := dneZ H 25 3 rfl rfl rfl
  have hneb : (((D 25 : Nat) : Int)) ≠ (((D 17 : Nat) : Int)) := dneZ H 25 17 rfl rfl rfl
  have hnec : (((D 3 : Nat) : Int)) ≠ (((D 17 : Nat) : Int)) := dneZ H 3 17 rfl rfl rfl
  refine Ew_of (pcₚ := 1) (fun _ => x_iload_n rfl rfl) ?_
  refine Ew_of (pcₚ := 2) (fun _ => x_iconst rfl) ?_
  refine w_icmpne (t := 29) rfl rfl (show inr (a2) from h1) (show inr (3) from q_66) (fun b20 => ?_) (fun b20 => ?_)
  · refine Ew_of (pcₚ := 30) (fun _ => x_aload_n rfl rfl) ?_
    refine v_g H (o := 0) (v := .ref (D 12)) rfl rfl rfl rfl rfl (vrf (pf12)) ?_
    refine v_g H (o := 12) (v := .ref (D 13)) rfl rfl rfl rfl rfl (vrf (pf13)) ?_
    refine Ew_of (pcₚ := 37) (fun _ => x_iload_n rfl rfl) ?_
    refine Ew_of (pcₚ := 38) (fun _ => x_iload_n rfl rfl) ?_
    refine w_ifne (t := 50) rfl rfl (show inr (a2) from h1) (fun b21 => ?_) (fun b21 => ?_)
    · refine Ew_of (pcₚ := 51) (fun _ => x_aload_n rfl rfl) ?_
      refine v_g H (o := 0) (v := .ref (D 2)) rfl rfl rfl rfl rfl (vrf (pf2)) ?_
      refine Ew_of (pcₚ := 55) (fun _ => x_iload_n rfl rfl) ?_
      have hs_ := upd1_s (a := ((w13))) (j := 2) (z := (((D 3 : Nat) : Int)))
      have hu0_ : (2 : Int) = 0 ∨ upd1 ((w13)) 2 ((((D 3 : Nat) : Int))) 0 = ((w13)) 0 := by by_cases w : (0 : Int) = 2; exact .inl (by omega); exact .inr (upd1_o w)
      have hu1_ : (2 : Int) = 1 ∨ upd1 ((w13)) 2 ((((D 3 : Nat) : Int))) 1 = ((w13)) 1 := by by_cases w : (1 : Int) = 2; exact .inl (by omega); exact .inr (upd1_o w)
      have hu2_ : (2 : Int) = 2 ∨ upd1 ((w13)) 2 ((((D 3 : Nat) : Int))) 2 = ((w13)) 2 := by by_cases w : (2 : Int) = 2; exact .inl (by omega); exact .inr (upd1_o w)
      refine v_lR H (o := 2) rfl rfl rfl rfl rfl (n := n2) (en2) (show 0 ≤ 2 ∧ 2 < n2 from q_3812 h7) (z := ((D 3 : Nat) : Int)) (v := .ref (D 3)) (pf3) (vrf rfl) ?_
      refine v_sR H (o := 13) (z := ((D 3 : Nat) : Int)) (v := .ref (D 3)) rfl rfl rfl rfl rfl (n := n13) (en13) (show 0 ≤ 2 ∧ 2 < n13 from q_3813 h7) (show (-1 : Int) ≤ ((D 3 : Nat) : Int) by omega) (vrf rfl) (rkinR H (x := 3) rfl rfl rfl) (fun σ H Oₚ => ?_)
      have O := OUT_trans O Oₚ
      have cAu22 : SA oz_I0aclsl_0 A (updA A 13 (2) (((D 3 : Nat) : Int))) := SA_upd (SA_refl) rfl
      have mAu22 := SAm_of cAu22 oz_I0acls_4
      refine Ew_of (pcₚ := 58) (fun _ => x_iload_n rfl rfl) ?_
      refine Ew_of (pcₚ := 59) (fun _ => x_iconst rfl) ?_
      refine w_icmpne (t := 138) rfl rfl (show inr (a2) from h1) (show inr (1) from q_23) (fun b23 => ?_) (fun b23 => ?_)
      · refine Ew_of (pcₚ := 139) (fun _ => x_iload_n rfl rfl) ?_
        refine Ew_of (pcₚ := 140) (fun _ => x_iconst rfl) ?_
        refine w_icmpne (t := 190) rfl rfl (show inr (a2) from h1) (show inr (2) from h0) (fun b24 => ?_) (fun b24 => ?_)
        · refine Ew_of (pcₚ := 191) (fun _ => x_iconst rfl) ?_
          have hfi0 : IMP (((0) : Int) = 0) (TI3 (((upd1 (w13) (2) (((D 3 : Nat) : Int)))) 2) ((((D 25 : Nat) : Int))) ((((D 3 : Nat) : Int))) ((((D 17 : Nat) : Int)))) := by exact fun q => absurd q (by omega)
          have hfi1 : IMP (((0) : Int) = 0) (SLB (((upd1 (w13) (2) (((D 3 : Nat) : Int)))) 2) ((((D 3 : Nat) : Int))) (SL ((w4)) ((u3_1)) ((u3_0)) ((w5)) ((w6)) ((w7)) ((w9)) ((w10)) ((w11)))) := by exact fun q => absurd q (by omega)
          have hfi2 : IMP (((0) : Int) = 0) (SLB (((upd1 (w13) (2) (((D 3 : Nat) : Int)))) 2) ((((D 17 : Nat) : Int))) (SL ((w18)) ((u17_1)) ((u17_0)) ((w19)) ((w20)) ((w21)) ((w22)) ((w23)) ((w24)))) := by exact fun q => absurd q (by omega)
          have hfi3 : IMP (((0) : Int) = 0) (ORB (((upd1 (w13) (2) (((D 3 : Nat) : Int)))) 2) ((((D 3 : Nat) : Int))) ((u3_0)) 9) := by exact fun q => absurd q (by omega)
          have hfi4 : IMP (((0) : Int) = 0) (ORB (((upd1 (w13) (2) (((D 3 : Nat) : Int)))) 2) ((((D 17 : Nat) : Int))) ((u17_0)) 9) := by exact fun q => absurd q (by omega)
          have hfn : (IMP (((0) : Int) = 0) (((upd1 (w13) (2) (((D 3 : Nat) : Int)))) 2 ≠ -1)) := by exact fun q => absurd q (by omega)
          exact w_ireturn rfl (k (0) _ _ _ H O (SF_refl) (cAu22) (u0_9) ((eu0_9)) (u3_0) ((eu3_0)) (w4) (ew4) (w5) (ew5) (w6) (ew6) (w7) (ew7) (w9) (ew9) (w10) (ew10) (w11) (ew11) (upd1 (w13) (2) (((D 3 : Nat) : Int))) (congrArg (fun q => upd1 q (2) (((D 3 : Nat) : Int))) (ew13)) (show inr (0) from q_20) (show 0 ≤ (0) ∧ (0) ≤ 17 by first | exact q_3589 | omega) (show 0 ≤ (u0_9) ∧ (u0_9) ≤ (u0_9) ∧ (u0_9) ≤ (u0_8) from q_3590 h3) (show (u0_9) ≤ (u0_18) from q_1468 h4) (show (IMP ((0) = 0) (((upd1 (w13) (2) (((D 3 : Nat) : Int)))) 2 ≠ -1)) by assumption) (show IMP ((0) = 0) (TI3 (((upd1 (w13) (2) (((D 3 : Nat) : Int)))) 2) ((((D 25 : Nat) : Int))) ((((D 3 : Nat) : Int))) ((((D 17 : Nat) : Int)))) by assumption) (show IMP ((0) = 0) (SLB (((upd1 (w13) (2) (((D 3 : Nat) : Int)))) 2) ((((D 3 : Nat) : Int))) (SL ((w4)) ((u3_1)) ((u3_0)) ((w5)) ((w6)) ((w7)) ((w9)) ((w10)) ((w11)))) by assumption) (show IMP ((0) = 0) (SLB (((upd1 (w13) (2) (((D 3 : Nat) : Int)))) 2) ((((D 17 : Nat) : Int))) (SL ((w18)) ((u17_1)) ((u17_0)) ((w19)) ((w20)) ((w21)) ((w22)) ((w23)) ((w24)))) by assumption) (show IMP ((0) = 0) (ORB (((upd1 (w13) (2) (((D 3 : Nat) : Int)))) 2) ((((D 3 : Nat) : Int))) ((u3_0)) 9) by assumption) (show IMP ((0) = 0) (ORB (((upd1 (w13) (2) (((D 3 : Nat) : Int)))) 2) ((((D 17 : Nat) : Int))) ((u17_0)) 9) by assumption) (show 2 = 0 ∨ ((upd1 (w13) (2) (((D 3 : Nat) : Int)))) 0 = ((w13)) 0 by omega) (show 2 = 1 ∨ ((upd1 (w13) (2) (((D 3 : Nat) : Int)))) 1 = ((w13)) 1 by omega) (show 2 = 2 ∨ ((upd1 (w13) (2) (((D 3 : Nat) : Int)))) 2 = ((w13)) 2 by first | exact q_3508 | omega))
        · refine Ew_of (pcₚ := 144) (fun _ => x_aload_n rfl rfl) ?_
          refine v_g H (o := 0) (v := .ref (D 2)) rfl rfl rfl rfl rfl (vrf (pf2)) ?_
          refine Ew_of (pcₚ := 148) (fun _ => x_iload_n rfl rfl) ?_
          refine v_lR H (o := 2) rfl rfl rfl rfl rfl (n := n2) (en2) (show 0 ≤ 2 ∧ 2 < n2 from q_3812 h7) (z := ((D 3 : Nat) : Int)) (v := .ref (D 3)) ((mAu22 2 rfl 2).trans (pf3)) (vrf rfl) ?_
          refine Ew_of (pcₚ := 150) (fun _ => x_aload_n rfl rfl) ?_
          refine v_g H (o := 0) (v := .ref (D 1)) rfl rfl rfl rfl rfl (vrf (pf1)) ?_
          refine Ew_of (pcₚ := 154) (fun _ => x_aload_n rfl rfl) ?_
          refine v_g H (o := 0) (v := I (u0_9)) rfl rfl rfl rfl rfl (congrArg (fun z : Int => I z) ((eu0_9) : F 0 9 = u0_9)) ?_
          refine Ew_of (pcₚ := 158) (fun _ => x_aload_n rfl rfl) ?_
          refine v_g H (o := 0) (v := I (u0_18)) rfl rfl rfl rfl rfl (congrArg (fun z : Int => I z) ((eu0_18) : F 0 18 = u0_18)) ?_
          refine Ew_of (pcₚ := 164) (fun _ => x_getstatic rfl) ?_
          refine Ew_of (pcₚ := 165) (fun _ => x_iload_n rfl rfl) ?_
          refine v_stI (STC_out HT HE O) (b := 2) (n := 3) rfl rfl rfl rfl (show 0 ≤ 2 ∧ 2 < 3 from q_3507) (fun v25 ev25 qv25 => ?_)
          have hgo := ev25
          have hgv : ((v25) : Int) = 9 := by rw [← hgo]; rfl
          have hpg : p2 ((v25)) = 512 := by rw [hgv]; decide
          refine v_inv H (o := 3) rfl rfl rfl rfl rfl rfl (by rfl) (C184_Br (D := puc 26643665609639073069400579 D) (N := puc 26643665609639073069400579 N) (HW_subc H oz_I0acls_14 oz_I0acls_6) (pf9) (pf4) (pf5) (pf6) (pf7) (pf8) (pf10) (pf11) (n1) (en1) (n9) (en9) (n4) (en4) (n5) (en5) (n6) (en6) (n7) (en7) (n8) (en8) (n10) (en10) (n11) (en11) (u3_0) ((eu3_0)) (u3_1) ((eu3_1)) (w9) (ew9) (w4) (ew4) (w5) (ew5) (w6) (ew6) (w7) (ew7) (w10) (ew10) (w11) (ew11) (show inr (u0_9) from q_3585 h3) (show inr (u0_18) from q_22 r3) (show inr (v25) from qv25) (show 0 ≤ (u0_9) ∧ (u0_9) ≤ (u0_18) ∧ (u0_18) ≤ (n1) ∧ (n1) ≤ 65536 from q_3794 h3 h4) (show 5 ≤ (v25) ∧ (v25) ≤ 9 ∧ p2 (v25) ≤ (n9) by omega) (show (n4) = (u3_1) ∧ (n5) = (u3_1) ∧ (n6) = (u3_1) ∧ (n7) = (u3_1) ∧ (n8) = (u3_1) ∧ (n10) = (n9) ∧ (n11) = (n9) ∧ 1 ≤ (u3_1) ∧ (u3_1) ≤ 64 by omega) (fun z26 σ26 F26ₚ A26ₚ Hₚ Oₚ hS26 hA26 y26_0_0 (ey26_0_0 : HID _) w26_2 ew26_2 w26_3 ew26_3 w26_4 ew26_4 w26_5 ew26_5 w26_6 ew26_6 w26_8 ew26_8 w26_9 ew26_9 (pq26_0 : HID _) pz26_0 pz26_1 pz26_2 pz26_3 => ⟨rfl, ?_⟩))
          refine v_backc (c := c) (s := s) H oz_I0acls_14 oz_I0acls_6 Hₚ Oₚ (fun F26 A26 H Oₚ eF26 eA26 => ?_)
          have O := OUT_trans O Oₚ
          -- Share.hear
          have cF26 : SF oz_I0aclsl_1 F F26 := SF_trans (SF_refl) (SF_gluc (ι := oz_I0aclsl_2) oz_I0acls_6 hS26 eF26 (by decide +kernel)) (any_sub (lₚ := [(3, 0), (3, 10), (3, 11), (3, 12)]) (by decide +kernel))
          have mF26 := SFm_of cF26 oz_I0acls_5
          have cA26 : SA oz_I0aclsl_0 A A26 := SA_trans (cAu22) (SA_gluc (ι := oz_I0aclsl_2) oz_I0acls_6 hA26 eA26 (by decide +kernel)) (any_subA (lₚ := [4, 5, 6, 7, 8, 9, 10, 11]) (by decide +kernel))
          have mA26 := SAm_of cA26 oz_I0acls_4
          have pl26_0 : HID (F26 3 10 = (D 1 : Int)) := (eF26 3 10).trans (pq26_0)
          have r27 : (-2147483648 : Int) ≤ y26_0_0 ∧ y26_0_0 ≤ 2147483647 := rngE (show (-2147483648 : Int) ≤ F26 3 0 ∧ F26 3 0 ≤ 2147483647 from H.krg 3 0 (ltn len_V249_c12_vd_oz_I0acls rfl)) (show F26 3 0 = y26_0_0 from ((eF26 3 0).trans ey26_0_0))
          refine Ew_of (pcₚ := 171) (fun _ => x_istore rfl) ?_
          refine Ew_of (pcₚ := 173) (fun _ => x_iload rfl rk_s) ?_
          refine w_ifge (t := 184) rfl rfl (show inr (z26) from pz26_0) (fun b28 => ?_) (fun b28 => ?_)
          · have hown := Or.resolve_left pz26_3 (by omega)
            have hord : (y26_0_0) ≤ 9 := q_3795 b28 hgv pz26_2 r27
            refine Ew_of (pcₚ := 185) (fun _ => x_aload_n rfl (rk_o (rfl) rfl rfl)) ?_
            refine Ew_of (pcₚ := 187) (fun _ => x_iload rfl rk_s) ?_
            refine v_p H (o := 0) (z := z26) (v := I (z26)) rfl rfl rfl rfl rfl rfl rfl rfl (show (-2147483648 : Int) ≤ z26 ∧ z26 ≤ 2147483647 from q_3761 b28 pz26_0) (fun σ H Oₚ => ?_)
            have O := OUT_trans O Oₚ
            have cFu29 : SF oz_I0aclsl_1 F (updF F26 0 9 (z26)) := SF_upd (cF26) rfl
            have mFu29 := SFm_of cFu29 oz_I0acls_5
            refine Ew_of (pcₚ := 191) (fun _ => x_iconst rfl) ?_
            have hfi0 : IMP (((0) : Int) = 0) (TI3 (((upd1 (w13) (2) (((D 3 : Nat) : Int)))) 2) ((((D 25 : Nat) : Int))) ((((D 3 : Nat) : Int))) ((((D 17 : Nat) : Int)))) := by exact fun _ => .inr (by omega)
            have hfi1 : IMP (((0) : Int) = 0) (SLB (((upd1 (w13) (2) (((D 3 : Nat) : Int)))) 2) ((((D 3 : Nat) : Int))) (SL ((w26_3)) ((u3_1)) ((y26_0_0)) ((w26_4)) ((w26_5)) ((w26_6)) ((w26_2)) ((w26_8)) ((w26_9)))) := by exact fun _ => .inr hown
            have hfi2 : IMP (((0) : Int) = 0) (SLB (((upd1 (w13) (2) (((D 3 : Nat) : Int)))) 2) ((((D 17 : Nat) : Int))) (SL ((w18)) ((u17_1)) ((u17_0)) ((w19)) ((w20)) ((w21)) ((w22)) ((w23)) ((w24)))) := by exact fun _ => .inl (by omega)
            have hfi3 : IMP (((0) : Int) = 0) (ORB (((upd1 (w13) (2) (((D 3 : Nat) : Int)))) 2) ((((D 3 : Nat) : Int))) ((y26_0_0)) 9) := by exact fun _ => .inr (by omega)
            have hfi4 : IMP (((0) : Int) = 0) (ORB (((upd1 (w13) (2) (((D 3 : Nat) : Int)))) 2) ((((D 17 : Nat) : Int))) ((u17_0)) 9) := by exact fun _ => .inl (by omega)
            have hfn : (IMP (((0) : Int) = 0) (((upd1 (w13) (2) (((D 3 : Nat) : Int)))) 2 ≠ -1)) := by exact fun _ => (by omega)
            exact w_ireturn rfl (k (0) _ _ _ H O (cFu29) (cA26) (z26) (rfl) (y26_0_0) (((eF26 3 0).trans ey26_0_0)) (w26_3) ((eA26 4).trans ew26_3) (w26_4) ((eA26 5).trans ew26_4) (w26_5) ((eA26 6).trans ew26_5) (w26_6) ((eA26 7).trans ew26_6) (w26_2) ((eA26 9).trans ew26_2) (w26_8) ((eA26 10).trans ew26_8) (w26_9) ((eA26 11).trans ew26_9) (upd1 (w13) (2) (((D 3 : Nat) : Int))) (((show A26 13 = (updA A 13 (2) (((D 3 : Nat) : Int))) 13 from (eA26 13))).trans (congrArg (fun q => upd1 q (2) (((D 3 : Nat) : Int))) (ew13))) (show inr (0) from q_20) (show 0 ≤ (0) ∧ (0) ≤ 17 by first | exact q_3589 | omega) (show 0 ≤ (z26) ∧ (u0_9) ≤ (z26) ∧ (z26) ≤ (u0_8) from q_3797 b28 h3 h4 pz26_1 pz26_3) (show (z26) ≤ (u0_18) from q_3796 b28 pz26_1 pz26_3 r3) (show (IMP ((0) = 0) (((upd1 (w13) (2) (((D 3 : Nat) : Int)))) 2 ≠ -1)) by assumption) (show IMP ((0) = 0) (TI3 (((upd1 (w13) (2) (((D 3 : Nat) : Int)))) 2) ((((D 25 : Nat) : Int))) ((((D 3 : Nat) : Int))) ((((D 17 : Nat) : Int)))) by assumption) (show IMP ((0) = 0) (SLB (((upd1 (w13) (2) (((D 3 : Nat) : Int)))) 2) ((((D 3 : Nat) : Int))) (SL ((w26_3)) ((u3_1)) ((y26_0_0)) ((w26_4)) ((w26_5)) ((w26_6)) ((w26_2)) ((w26_8)) ((w26_9)))) by assumption) (show IMP ((0) = 0) (SLB (((upd1 (w13) (2) (((D 3 : Nat) : Int)))) 2) ((((D 17 : Nat) : Int))) (SL ((w18)) ((u17_1)) ((u17_0)) ((w19)) ((w20)) ((w21)) ((w22)) ((w23)) ((w24)))) by assumption) (show IMP ((0) = 0) (ORB (((upd1 (w13) (2) (((D 3 : Nat) : Int)))) 2) ((((D 3 : Nat) : Int))) ((y26_0_0)) 9) by assumption) (show IMP ((0) = 0) (ORB (((upd1 (w13) (2) (((D 3 : Nat) : Int)))) 2) ((((D 17 : Nat) : Int))) ((u17_0)) 9) by assumption) (show 2 = 0 ∨ ((upd1 (w13) (2) (((D 3 : Nat) : Int)))) 0 = ((w13)) 0 by omega) (show 2 = 1 ∨ ((upd1 (w13) (2) (((D 3 : Nat) : Int)))) 1 = ((w13)) 1 by omega) (show 2 = 2 ∨ ((upd1 (w13) (2) (((D 3 : Nat) : Int)))) 2 = ((w13)) 2 by first | exact q_3508 | omega))
          · refine Ew_of (pcₚ := 177) (fun _ => x_aload_n rfl (rk_o (rfl) rfl rfl)) ?_
            refine Ew_of (pcₚ := 179) (fun _ => x_bipush (z := 16) rfl (by decide)) ?_
            refine Ew_of (pcₚ := 180) (fun _ => x_iload_n rfl (rk_o (rfl) rfl rfl)) ?_
            have r30 : (-2147483648 : Int) ≤ F 0 21 ∧ F 0 21 ≤ 2147483647 := rngE (show (-2147483648 : Int) ≤ F26 0 21 ∧ F26 0 21 ≤ 2147483647 from H.krg 0 21 (ltn len_V249_c12_vd_oz_I0acls rfl)) (show F26 0 21 = F 0 21 from ((show F26 0 21 = F 0 21 from (eF26 0 21))))
            refine v_inv H (o := 0) rfl rfl rfl rfl rfl rfl (by rfl) (C232 (D := puc 0 D) (N := puc 0 N) (HW_subc H oz_I0acls_15 oz_I0acls_7) (F 0 21) (((show F26 0 21 = F 0 21 from (eF26 0 21)))) (show inr (16) from q_86) (show inr (a3) from h2) (fun z31 σ31 F31ₚ A31ₚ Hₚ Oₚ hS31 hA31 y31_0_21 (ey31_0_21 : HID _) pz31_0 pz31_1 pz31_2 => ⟨rfl, ?_⟩))
            refine v_backc (c := c) (s := s) H oz_I0acls_15 oz_I0acls_7 Hₚ Oₚ (fun F31 A31 H Oₚ eF31 eA31 => ?_)
            have O := OUT_trans O Oₚ
            -- Unpacker.fail
            have cF31 : SF oz_I0aclsl_1 F F31 := SF_trans (cF26) (SF_gluc (ι := oz_I0aclsl_3) oz_I0acls_7 hS31 eF31 (by decide +kernel)) (any_sub (lₚ := [(0, 21)]) (by decide +kernel))
            have mF31 := SFm_of cF31 oz_I0acls_5
            have cA31 : SA oz_I0aclsl_0 A A31 := SA_trans (cA26) (SA_gluc (ι := oz_I0aclsl_3) oz_I0acls_7 hA31 eA31 (by decide +kernel)) (any_subA (lₚ := []) (by decide +kernel))
            have mA31 := SAm_of cA31 oz_I0acls_4
            have r32 : (-2147483648 : Int) ≤ y31_0_21 ∧ y31_0_21 ≤ 2147483647 := rngE (show (-2147483648 : Int) ≤ F31 0 21 ∧ F31 0 21 ≤ 2147483647 from H.krg 0 21 (ltn len_V249_c12_vd_oz_I0acls rfl)) (show F31 0 21 = y31_0_21 from ((eF31 0 21).trans ey31_0_21))
            have hfi0 : IMP (((z31) : Int) = 0) (TI3 (((upd1 (w13) (2) (((D 3 : Nat) : Int)))) 2) ((((D 25 : Nat) : Int))) ((((D 3 : Nat) : Int))) ((((D 17 : Nat) : Int)))) := by exact fun q => absurd q (by omega)
            have hfi1 : IMP (((z31) : Int) = 0) (SLB (((upd1 (w13) (2) (((D 3 : Nat) : Int)))) 2) ((((D 3 : Nat) : Int))) (SL ((w26_3)) ((u3_1)) ((y26_0_0)) ((w26_4)) ((w26_5)) ((w26_6)) ((w26_2)) ((w26_8)) ((w26_9)))) := by exact fun q => absurd q (by omega)
            have hfi2 : IMP (((z31) : Int) = 0) (SLB (((upd1 (w13) (2) (((D 3 : Nat) : Int)))) 2) ((((D 17 : Nat) : Int))) (SL ((w18)) ((u17_1)) ((u17_0)) ((w19)) ((w20)) ((w21)) ((w22)) ((w23)) ((w24)))) := by exact fun q => absurd q (by omega)
            have hfi3 : IMP (((z31) : Int) = 0) (ORB (((upd1 (w13) (2) (((D 3 : Nat) : Int)))) 2) ((((D 3 : Nat) : Int))) ((y26_0_0)) 9) := by exact fun q => absurd q (by omega)
            have hfi4 : IMP (((z31) : Int) = 0) (ORB (((upd1 (w13) (2) (((D 3 : Nat) : Int)))) 2) ((((D 17 : Nat) : Int))) ((u17_0)) 9) := by exact fun q => absurd q (by omega)
            have hfn : (IMP (((z31) : Int) = 0) (((upd1 (w13) (2) (((D 3 : Nat) : Int)))) 2 ≠ -1)) := by exact fun q => absurd q (by omega)
            exact w_ireturn rfl (k (z31) _ _ _ H O (cF31) (cA31) (u0_9) (((((show F31 0 9 = F26 0 9 from (eF31 0 9).trans (hS31 0 9 rfl))).trans ((show F26 0 9 = F 0 9 from (eF26 0 9)))).trans (eu0_9))) (y26_0_0) ((((show F31 3 0 = F26 3 0 from (eF31 3 0))).trans ((eF26 3 0).trans ey26_0_0))) (w26_3) (((show A31 4 = A26 4 from (eA31 4))).trans ((eA26 4).trans ew26_3)) (w26_4) (((show A31 5 = A26 5 from (eA31 5))).trans ((eA26 5).trans ew26_4)) (w26_5) (((show A31 6 = A26 6 from (eA31 6))).trans ((eA26 6).trans ew26_5)) (w26_6) (((show A31 7 = A26 7 from (eA31 7))).trans ((eA26 7).trans ew26_6)) (w26_2) (((show A31 9 = A26 9 from (eA31 9))).trans ((eA26 9).trans ew26_2)) (w26_8) (((show A31 10 = A26 10 from (eA31 10))).trans ((eA26 10).trans ew26_8)) (w26_9) (((show A31 11 = A26 11 from (eA31 11))).trans ((eA26 11).trans ew26_9)) (upd1 (w13) (2) (((D 3 : Nat) : Int))) (((show A31 13 = A26 13 from (eA31 13))).trans (((show A26 13 = (updA A 13 (2) (((D 3 : Nat) : Int))) 13 from (eA26 13))).trans (congrArg (fun q => upd1 q (2) (((D 3 : Nat) : Int))) (ew13)))) (show inr (z31) from pz31_0) (show 0 ≤ (z31) ∧ (z31) ≤ 17 from q_3798 pz31_1) (show 0 ≤ (u0_9) ∧ (u0_9) ≤ (u0_9) ∧ (u0_9) ≤ (u0_8) from q_3590 h3) (show (u0_9) ≤ (u0_18) from q_1468 h4) (show (IMP ((z31) = 0) (((upd1 (w13) (2) (((D 3 : Nat) : Int)))) 2 ≠ -1)) from hfn) (show IMP ((z31) = 0) (TI3 (((upd1 (w13) (2) (((D 3 : Nat) : Int)))) 2) ((((D 25 : Nat) : Int))) ((((D 3 : Nat) : Int))) ((((D 17 : Nat) : Int)))) from hfi0) (show IMP ((z31) = 0) (SLB (((upd1 (w13) (2) (((D 3 : Nat) : Int)))) 2) ((((D 3 : Nat) : Int))) (SL ((w26_3)) ((u3_1)) ((y26_0_0)) ((w26_4)) ((w26_5)) ((w26_6)) ((w26_2)) ((w26_8)) ((w26_9)))) from hfi1) (show IMP ((z31) = 0) (SLB (((upd1 (w13) (2) (((D 3 : Nat) : Int)))) 2) ((((D 17 : Nat) : Int))) (SL ((w18)) ((u17_1)) ((u17_0)) ((w19)) ((w20)) ((w21)) ((w22)) ((w23)) ((w24)))) from hfi2) (show IMP ((z31) = 0) (ORB (((upd1 (w13) (2) (((D 3 : Nat) : Int)))) 2) ((((D 3 : Nat) : Int))) ((y26_0_0)) 9) from hfi3) (show IMP ((z31) = 0) (ORB (((upd1 (w13) (2) (((D 3 : Nat) : Int)))) 2) ((((D 17 : Nat) : Int))) ((u17_0)) 9) from hfi4) (show 2 = 0 ∨ ((upd1 (w13) (2) (((D 3 : Nat) : Int)))) 0 = ((w13)) 0 by omega) (show 2 = 1 ∨ ((upd1 (w13) (2) (((D 3 : Nat) : Int)))) 1 = ((w13)) 1 by omega) (show 2 = 2 ∨ ((upd1 (w13) (2) (((D 3 : Nat) : Int)))) 2 = ((w13)) 2 by first | exact q_3508 | omega))
      · refine Ew_of (pcₚ := 63) (fun _ => x_aload_n rfl rfl) ?_
        refine v_g H (o := 0) (v := I (u0_9)) rfl rfl rfl rfl rfl (congrArg (fun z : Int => I z) ((eu0_9) : F 0 9 = u0_9)) ?_
        refine Ew_of (pcₚ := 67) (fun _ => x_aload_n rfl rfl) ?_
        refine v_g H (o := 0) (v := I (u0_18)) rfl rfl rfl rfl rfl (congrArg (fun z : Int => I z) ((eu0_18) : F 0 18 = u0_18)) ?_
        refine w_icmplt (t := 84) rfl rfl (show inr (u0_9) from q_3585 h3) (show inr (u0_18) from q_22 r3) (fun b33 => ?_) (fun b33 => ?_)
        · refine Ew_of (pcₚ := 85) (fun _ => x_aload_n rfl rfl) ?_
          refine v_g H (o := 0) (v := .ref (D 1)) rfl rfl rfl rfl rfl (vrf (pf1)) ?_
          refine Ew_of (pcₚ := 89) (fun _ => x_aload_n rfl rfl) ?_
          refine Ew_of (pcₚ := 90) (fun _ => x_dup rfl rfl) ?_
          refine v_g H (o := 0) (v := I (u0_9)) rfl rfl rfl rfl rfl (congrArg (fun z : Int => I z) ((eu0_9) : F 0 9 = u0_9)) ?_
          refine Ew_of (pcₚ := 94) (fun _ => x_dup_x1 rfl rfl) ?_
          refine Ew_of (pcₚ := 95) (fun _ => x_iconst rfl) ?_
          refine w_iadd rfl ?_
          refine v_p H (o := 0) (z := (u0_9 + 1)) (v := I ((u0_9 + 1))) rfl rfl rfl rfl rfl rfl rfl rfl (show (-2147483648 : Int) ≤ (u0_9 + 1) ∧ (u0_9 + 1) ≤ 2147483647 from q_3799 h3) (fun σ H Oₚ => ?_)
          have O := OUT_trans O Oₚ
          have cFu34 : SF oz_I0aclsl_1 F (updF F 0 9 ((u0_9 + 1))) := SF_upd (SF_refl) rfl
          have mFu34 := SFm_of cFu34 oz_I0acls_5
          refine v_lB H (o := 1) rfl rfl rfl rfl (n := n1) (en1) (show 0 ≤ u0_9 ∧ u0_9 < n1 from q_3635 b33 h3 h4) (fun v35 ev35 qv35 => ?_)
          have ev35 : (A 1) (u0_9) = v35 := (congrFun (funext (mAu22 1 rfl)) (u0_9)).symm.trans ev35
          refine Ew_of (pcₚ := 103) (fun _ => x_sipush (z := 255) rfl (by decide)) ?_
          refine w_iand rfl (show inr (v35) from q_2536 qv35) (show inr (255) from q_36) (fun z36 gz36 gaz36 gbz36 => ?_)
          refine Ew_of (pcₚ := 106) (fun _ => x_istore rfl) ?_
          refine Ew_of (pcₚ := 108) (fun _ => x_iload rfl rk_s) ?_
          refine Ew_of (pcₚ := 111) (fun _ => x_getstatic rfl) ?_
          refine Ew_of (pcₚ := 112) (fun _ => x_iload_n rfl (rk_o (rfl) rfl rfl)) ?_
          refine v_stI (STC_out HT HE O) (b := 3) (n := 3) rfl rfl rfl rfl (show 0 ≤ 2 ∧ 2 < 3 from q_3507) (fun v37 ev37 qv37 => ?_)
          have hlv := ev37
          have hlw : ((v37) : Int) = 52 := by rw [← hlv]; rfl
          refine w_icmple (t := 124) rfl rfl (show inr (z36) from gz36) (show inr (v37) from qv37) (fun b38 => ?_) (fun b38 => ?_)
          · refine Ew_of (pcₚ := 125) (fun _ => x_aload_n rfl (rk_o (rfl) rfl rfl)) ?_
            refine v_g H (o := 0) (v := .ref (D 2)) rfl rfl rfl rfl rfl (vrf ((mFu34 0 2 rfl).trans (pf2))) ?_
            refine Ew_of (pcₚ := 129) (fun _ => x_iload_n rfl (rk_o (rfl) rfl rfl)) ?_
            refine v_lR H (o := 2) rfl rfl rfl rfl rfl (n := n2) (en2) (show 0 ≤ 2 ∧ 2 < n2 from q_3812 h7) (z := ((D 3 : Nat) : Int)) (v := .ref (D 3)) ((mAu22 2 rfl 2).trans (pf3)) (vrf rfl) ?_
            refine Ew_of (pcₚ := 132) (fun _ => x_iload rfl rk_s) ?_
            refine v_inv H (o := 3) rfl rfl rfl rfl rfl rfl (by rfl) (C168 (D := puc 52038409393826314588675 D) (N := puc 52038409393826314588675 N) (HW_subc H oz_I0acls_16 oz_I0acls_8) ((mFu34 3 7 rfl).trans (pf9)) ((mFu34 3 2 rfl).trans (pf4)) ((mFu34 3 3 rfl).trans (pf5)) ((mFu34 3 4 rfl).trans (pf6)) ((mFu34 3 5 rfl).trans (pf7)) ((mFu34 3 6 rfl).trans (pf8)) ((mFu34 3 8 rfl).trans (pf10)) ((mFu34 3 9 rfl).trans (pf11)) (n9) (en9) (n4) (en4) (n5) (en5) (n6) (en6) (n7) (en7) (n8) (en8) (n10) (en10) (n11) (en11) (u3_0) ((eu3_0)) (u3_1) (((mFu34 3 1 rfl).trans (eu3_1))) (w9) (ew9) (w4) (ew4) (w5) (ew5) (w6) (ew6) (w7) (ew7) (w10) (ew10) (w11) (ew11) (show inr (z36) from gz36) (show (n9) ≥ 1 by omega) (show (n4) = (u3_1) ∧ (n5) = (u3_1) ∧ (n6) = (u3_1) ∧ (n7) = (u3_1) ∧ (n8) = (u3_1) ∧ (n10) = (n9) ∧ (n11) = (n9) ∧ 1 ≤ (u3_1) ∧ (u3_1) ≤ 64 by omega) (show 0 ≤ (z36) ∧ (z36) < ((u3_1)) by omega) (fun σ39 F39ₚ A39ₚ Hₚ Oₚ hS39 hA39 y39_0_0 (ey39_0_0 : HID _) w39_1 ew39_1 w39_2 ew39_2 w39_3 ew39_3 w39_4 ew39_4 w39_5 ew39_5 w39_7 ew39_7 w39_8 ew39_8 pz39_0 pz39_1 => ⟨rfl, ?_⟩))
            refine v_backc (c := c) (s := s) H oz_I0acls_16 oz_I0acls_8 Hₚ Oₚ (fun F39 A39 H Oₚ eF39 eA39 => ?_)
            have O := OUT_trans O Oₚ
            -- Share.becomeAlone
            have cF39 : SF oz_I0aclsl_1 F F39 := SF_trans (cFu34) (SF_gluc (ι := oz_I0aclsl_4) oz_I0acls_8 hS39 eF39 (by decide +kernel)) (any_sub (lₚ := [(3, 0)]) (by decide +kernel))
            have mF39 := SFm_of cF39 oz_I0acls_5
            have cA39 : SA oz_I0aclsl_0 A A39 := SA_trans (cAu22) (SA_gluc (ι := oz_I0aclsl_4) oz_I0acls_8 hA39 eA39 (by decide +kernel)) (any_subA (lₚ := [4, 5, 6, 7, 8, 9, 10, 11]) (by decide +kernel))
            have mA39 := SAm_of cA39 oz_I0acls_4
            have r40 : (-2147483648 : Int) ≤ y39_0_0 ∧ y39_0_0 ≤ 2147483647 := rngE (show (-2147483648 : Int) ≤ F39 3 0 ∧ F39 3 0 ≤ 2147483647 from H.krg 3 0 (ltn len_V249_c12_vd_oz_I0acls rfl)) (show F39 3 0 = y39_0_0 from ((eF39 3 0).trans ey39_0_0))
            have hown := pz39_0
            refine Ew_of (pcₚ := 190) (fun _ => x_goto rfl rfl) ?_
            refine Ew_of (pcₚ := 191) (fun _ => x_iconst rfl) ?_
            have hfi0 : IMP (((0) : Int) = 0) (TI3 (((upd1 (w13) (2) (((D 3 : Nat) : Int)))) 2) ((((D 25 : Nat) : Int))) ((((D 3 : Nat) : Int))) ((((D 17 : Nat) : Int)))) := by exact fun _ => .inr (by omega)
            have hfi1 : IMP (((0) : Int) = 0) (SLB (((upd1 (w13) (2) (((D 3 : Nat) : Int)))) 2) ((((D 3 : Nat) : Int))) (SL ((w39_2)) ((u3_1)) ((y39_0_0)) ((w39_3)) ((w39_4)) ((w39_5)) ((w39_1)) ((w39_7)) ((w39_8)))) := by exact fun _ => .inr hown
            have hfi2 : IMP (((0) : Int) = 0) (SLB (((upd1 (w13) (2) (((D 3 : Nat) : Int)))) 2) ((((D 17 : Nat) : Int))) (SL ((w18)) ((u17_1)) ((u17_0)) ((w19)) ((w20)) ((w21)) ((w22)) ((w23)) ((w24)))) := by exact fun _ => .inl (by omega)
            have hfi3 : IMP (((0) : Int) = 0) (ORB (((upd1 (w13) (2) (((D 3 : Nat) : Int)))) 2) ((((D 3 : Nat) : Int))) ((y39_0_0)) 9) := by exact fun _ => .inr (by omega)
            have hfi4 : IMP (((0) : Int) = 0) (ORB (((upd1 (w13) (2) (((D 3 : Nat) : Int)))) 2) ((((D 17 : Nat) : Int))) ((u17_0)) 9) := by exact fun _ => .inl (by omega)
            have hfn : (IMP (((0) : Int) = 0) (((upd1 (w13) (2) (((D 3 : Nat) : Int)))) 2 ≠ -1)) := by exact fun _ => (by omega)
            exact w_ireturn rfl (k (0) _ _ _ H O (cF39) (cA39) ((u0_9 + 1)) (((show F39 0 9 = (updF F 0 9 ((u0_9 + 1))) 0 9 from (eF39 0 9)))) (y39_0_0) (((eF39 3 0).trans ey39_0_0)) (w39_2) ((eA39 4).trans ew39_2) (w39_3) ((eA39 5).trans ew39_3) (w39_4) ((eA39 6).trans ew39_4) (w39_5) ((eA39 7).trans ew39_5) (w39_1) ((eA39 9).trans ew39_1) (w39_7) ((eA39 10).trans ew39_7) (w39_8) ((eA39 11).trans ew39_8) (upd1 (w13) (2) (((D 3 : Nat) : Int))) (((show A39 13 = (updA A 13 (2) (((D 3 : Nat) : Int))) 13 from (eA39 13))).trans (congrArg (fun q => upd1 q (2) (((D 3 : Nat) : Int))) (ew13))) (show inr (0) from q_20) (show 0 ≤ (0) ∧ (0) ≤ 17 by first | exact q_3589 | omega) (show 0 ≤ ((u0_9 + 1)) ∧ (u0_9) ≤ ((u0_9 + 1)) ∧ ((u0_9 + 1)) ≤ (u0_8) from q_3800 b33 h3 h4) (show ((u0_9 + 1)) ≤ (u0_18) from q_1328 b33) (show (IMP ((0) = 0) (((upd1 (w13) (2) (((D 3 : Nat) : Int)))) 2 ≠ -1)) by assumption) (show IMP ((0) = 0) (TI3 (((upd1 (w13) (2) (((D 3 : Nat) : Int)))) 2) ((((D 25 : Nat) : Int))) ((((D 3 : Nat) : Int))) ((((D 17 : Nat) : Int)))) by assumption) (show IMP ((0) = 0) (SLB (((upd1 (w13) (2) (((D 3 : Nat) : Int)))) 2) ((((D 3 : Nat) : Int))) (SL ((w39_2)) ((u3_1)) ((y39_0_0)) ((w39_3)) ((w39_4)) ((w39_5)) ((w39_1)) ((w39_7)) ((w39_8)))) by assumption) (show IMP ((0) = 0) (SLB (((upd1 (w13) (2) (((D 3 : Nat) : Int)))) 2) ((((D 17 : Nat) : Int))) (SL ((w18)) ((u17_1)) ((u17_0)) ((w19)) ((w20)) ((w21)) ((w22)) ((w23)) ((w24)))) by assumption) (show IMP ((0) = 0) (ORB (((upd1 (w13) (2) (((D 3 : Nat) : Int)))) 2) ((((D 3 : Nat) : Int))) ((y39_0_0)) 9) by assumption) (show IMP ((0) = 0) (ORB (((upd1 (w13) (2) (((D 3 : Nat) : Int)))) 2) ((((D 17 : Nat) : Int))) ((u17_0)) 9) by assumption) (show 2 = 0 ∨ ((upd1 (w13) (2) (((D 3 : Nat) : Int)))) 0 = ((w13)) 0 by omega) (show 2 = 1 ∨ ((upd1 (w13) (2) (((D 3 : Nat) : Int)))) 1 = ((w13)) 1 by omega) (show 2 = 2 ∨ ((upd1 (w13) (2) (((D 3 : Nat) : Int)))) 2 = ((w13)) 2 by first | exact q_3508 | omega))
          · refine Ew_of (pcₚ := 117) (fun _ => x_aload_n rfl (rk_o (rfl) rfl rfl)) ?_
            refine Ew_of (pcₚ := 119) (fun _ => x_bipush (z := 16) rfl (by decide)) ?_
            refine Ew_of (pcₚ := 120) (fun _ => x_iload_n rfl (rk_o (rfl) rfl rfl)) ?_
            have r41 : (-2147483648 : Int) ≤ F 0 21 ∧ F 0 21 ≤ 2147483647 := H.krg 0 21 (ltn len_V249_c12_vd_oz_I0acls rfl)
            refine v_inv H (o := 0) rfl rfl rfl rfl rfl rfl (by rfl) (C232 (D := puc 0 D) (N := puc 0 N) (HW_subc H oz_I0acls_15 oz_I0acls_7) (F 0 21) (rfl) (show inr (16) from q_86) (show inr (a3) from h2) (fun z42 σ42 F42ₚ A42ₚ Hₚ Oₚ hS42 hA42 y42_0_21 (ey42_0_21 : HID _) pz42_0 pz42_1 pz42_2 => ⟨rfl, ?_⟩))
            refine v_backc (c := c) (s := s) H oz_I0acls_15 oz_I0acls_7 Hₚ Oₚ (fun F42 A42 H Oₚ eF42 eA42 => ?_)
            have O := OUT_trans O Oₚ
            -- Unpacker.fail
            have cF42 : SF oz_I0aclsl_1 F F42 := SF_trans (cFu34) (SF_gluc (ι := oz_I0aclsl_3) oz_I0acls_7 hS42 eF42 (by decide +kernel)) (any_sub (lₚ := [(0, 21)]) (by decide +kernel))
            have mF42 := SFm_of cF42 oz_I0acls_5
            have cA42 : SA oz_I0aclsl_0 A A42 := SA_trans (cAu22) (SA_gluc (ι := oz_I0aclsl_3) oz_I0acls_7 hA42 eA42 (by decide +kernel)) (any_subA (lₚ := []) (by decide +kernel))
            have mA42 := SAm_of cA42 oz_I0acls_4
            have r43 : (-2147483648 : Int) ≤ y42_0_21 ∧ y42_0_21 ≤ 2147483647 := rngE (show (-2147483648 : Int) ≤ F42 0 21 ∧ F42 0 21 ≤ 2147483647 from H.krg 0 21 (ltn len_V249_c12_vd_oz_I0acls rfl)) (show F42 0 21 = y42_0_21 from ((eF42 0 21).trans ey42_0_21))
            have hfi0 : IMP (((z42) : Int) = 0) (TI3 (((upd1 (w13) (2) (((D 3 : Nat) : Int)))) 2) ((((D 25 : Nat) : Int))) ((((D 3 : Nat) : Int))) ((((D 17 : Nat) : Int)))) := by exact fun q => absurd q (by omega)
            have hfi1 : IMP (((z42) : Int) = 0) (SLB (((upd1 (w13) (2) (((D 3 : Nat) : Int)))) 2) ((((D 3 : Nat) : Int))) (SL ((w4)) ((u3_1)) ((u3_0)) ((w5)) ((w6)) ((w7)) ((w9)) ((w10)) ((w11)))) := by exact fun q => absurd q (by omega)
            have hfi2 : IMP (((z42) : Int) = 0) (SLB (((upd1 (w13) (2) (((D 3 : Nat) : Int)))) 2) ((((D 17 : Nat) : Int))) (SL ((w18)) ((u17_1)) ((u17_0)) ((w19)) ((w20)) ((w21)) ((w22)) ((w23)) ((w24)))) := by exact fun q => absurd q (by omega)
            have hfi3 : IMP (((z42) : Int) = 0) (ORB (((upd1 (w13) (2) (((D 3 : Nat) : Int)))) 2) ((((D 3 : Nat) : Int))) ((u3_0)) 9) := by exact fun q => absurd q (by omega)
            have hfi4 : IMP (((z42) : Int) = 0) (ORB (((upd1 (w13) (2) (((D 3 : Nat) : Int)))) 2) ((((D 17 : Nat) : Int))) ((u17_0)) 9) := by exact fun q => absurd q (by omega)
            have hfn : (IMP (((z42) : Int) = 0) (((upd1 (w13) (2) (((D 3 : Nat) : Int)))) 2 ≠ -1)) := by exact fun q => absurd q (by omega)
            exact w_ireturn rfl (k (z42) _ _ _ H O (cF42) (cA42) ((u0_9 + 1)) (((show F42 0 9 = (updF F 0 9 ((u0_9 + 1))) 0 9 from (eF42 0 9).trans (hS42 0 9 rfl)))) (u3_0) ((((show F42 3 0 = (updF F 0 9 ((u0_9 + 1))) 3 0 from (eF42 3 0))).trans (eu3_0))) (w4) (((show A42 4 = (updA A 13 (2) (((D 3 : Nat) : Int))) 4 from (eA42 4))).trans (ew4)) (w5) (((show A42 5 = (updA A 13 (2) (((D 3 : Nat) : Int))) 5 from (eA42 5))).trans (ew5)) (w6) (((show A42 6 = (updA A 13 (2) (((D 3 : Nat) : Int))) 6 from (eA42 6))).trans (ew6)) (w7) (((show A42 7 = (updA A 13 (2) (((D 3 : Nat) : Int))) 7 from (eA42 7))).trans (ew7)) (w9) (((show A42 9 = (updA A 13 (2) (((D 3 : Nat) : Int))) 9 from (eA42 9))).trans (ew9)) (w10) (((show A42 10 = (updA A 13 (2) (((D 3 : Nat) : Int))) 10 from (eA42 10))).trans (ew10)) (w11) (((show A42 11 = (updA A 13 (2) (((D 3 : Nat) : Int))) 11 from (eA42 11))).trans (ew11)) (upd1 (w13) (2) (((D 3 : Nat) : Int))) (((show A42 13 = (updA A 13 (2) (((D 3 : Nat) : Int))) 13 from (eA42 13))).trans (congrArg (fun q => upd1 q (2) (((D 3 : Nat) : Int))) (ew13))) (show inr (z42) from pz42_0) (show 0 ≤ (z42) ∧ (z42) ≤ 17 from q_3798 pz42_1) (show 0 ≤ ((u0_9 + 1)) ∧ (u0_9) ≤ ((u0_9 + 1)) ∧ ((u0_9 + 1)) ≤ (u0_8) from q_3800 b33 h3 h4) (show ((u0_9 + 1)) ≤ (u0_18) from q_1328 b33) (show (IMP ((z42) = 0) (((upd1 (w13) (2) (((D 3 : Nat) : Int)))) 2 ≠ -1)) from hfn) (show IMP ((z42) = 0) (TI3 (((upd1 (w13) (2) (((D 3 : Nat) : Int)))) 2) ((((D 25 : Nat) : Int))) ((((D 3 : Nat) : Int))) ((((D 17 : Nat) : Int)))) from hfi0) (show IMP ((z42) = 0) (SLB (((upd1 (w13) (2) (((D 3 : Nat) : Int)))) 2) ((((D 3 : Nat) : Int))) (SL ((w4)) ((u3_1)) ((u3_0)) ((w5)) ((w6)) ((w7)) ((w9)) ((w10)) ((w11)))) from hfi1) (show IMP ((z42) = 0) (SLB (((upd1 (w13) (2) (((D 3 : Nat) : Int)))) 2) ((((D 17 : Nat) : Int))) (SL ((w18)) ((u17_1)) ((u17_0)) ((w19)) ((w20)) ((w21)) ((w22)) ((w23)) ((w24)))) from hfi2) (show IMP ((z42) = 0) (ORB (((upd1 (w13) (2) (((D 3 : Nat) : Int)))) 2) ((((D 3 : Nat) : Int))) ((u3_0)) 9) from hfi3) (show IMP ((z42) = 0) (ORB (((upd1 (w13) (2) (((D 3 : Nat) : Int)))) 2) ((((D 17 : Nat) : Int))) ((u17_0)) 9) from hfi4) (show 2 = 0 ∨ ((upd1 (w13) (2) (((D 3 : Nat) : Int)))) 0 = ((w13)) 0 by omega) (show 2 = 1 ∨ ((upd1 (w13) (2) (((D 3 : Nat) : Int)))) 1 = ((w13)) 1 by omega) (show 2 = 2 ∨ ((upd1 (w13) (2) (((D 3 : Nat) : Int)))) 2 = ((w13)) 2 by first | exact q_3508 | omega))
        · refine Ew_of (pcₚ := 74) (fun _ => x_aload_n rfl rfl) ?_
          refine Ew_of (pcₚ := 76) (fun _ => x_bipush (z := 10) rfl (by decide)) ?_
          refine Ew_of (pcₚ := 77) (fun _ => x_aload_n rfl rfl) ?_
          refine v_g H (o := 0) (v := I (u0_18)) rfl rfl rfl rfl rfl (congrArg (fun z : Int => I z) ((eu0_18) : F 0 18 = u0_18)) ?_
          have r44 : (-2147483648 : Int) ≤ F 0 21 ∧ F 0 21 ≤ 2147483647 := H.krg 0 21 (ltn len_V249_c12_vd_oz_I0acls rfl)
          refine v_inv H (o := 0) rfl rfl rfl rfl rfl rfl (by rfl) (C232 (D := puc 0 D) (N := puc 0 N) (HW_subc H oz_I0acls_15 oz_I0acls_7) (F 0 21) (rfl) (show inr (10) from q_532) (show inr (u0_18) from q_22 r3) (fun z45 σ45 F45ₚ A45ₚ Hₚ Oₚ hS45 hA45 y45_0_21 (ey45_0_21 : HID _) pz45_0 pz45_1 pz45_2 => ⟨rfl, ?_⟩))
          refine v_backc (c := c) (s := s) H oz_I0acls_15 oz_I0acls_7 Hₚ Oₚ (fun F45 A45 H Oₚ eF45 eA45 => ?_)
          have O := OUT_trans O Oₚ
          -- Unpacker.fail
          have cF45 : SF oz_I0aclsl_1 F F45 := SF_trans (SF_refl) (SF_gluc (ι := oz_I0aclsl_3) oz_I0acls_7 hS45 eF45 (by decide +kernel)) (any_sub (lₚ := [(0, 21)]) (by decide +kernel))
          have mF45 := SFm_of cF45 oz_I0acls_5
          have cA45 : SA oz_I0aclsl_0 A A45 := SA_trans (cAu22) (SA_gluc (ι := oz_I0aclsl_3) oz_I0acls_7 hA45 eA45 (by decide +kernel)) (any_subA (lₚ := []) (by decide +kernel))
          have mA45 := SAm_of cA45 oz_I0acls_4
          have r46 : (-2147483648 : Int) ≤ y45_0_21 ∧ y45_0_21 ≤ 2147483647 := rngE (show (-2147483648 : Int) ≤ F45 0 21 ∧ F45 0 21 ≤ 2147483647 from H.krg 0 21 (ltn len_V249_c12_vd_oz_I0acls rfl)) (show F45 0 21 = y45_0_21 from ((eF45 0 21).trans ey45_0_21))
          have hfi0 : IMP (((z45) : Int) = 0) (TI3 (((upd1 (w13) (2) (((D 3 : Nat) : Int)))) 2) ((((D 25 : Nat) : Int))) ((((D 3 : Nat) : Int))) ((((D 17 : Nat) : Int)))) := by exact fun q => absurd q (by omega)
          have hfi1 : IMP (((z45) : Int) = 0) (SLB (((upd1 (w13) (2) (((D 3 : Nat) : Int)))) 2) ((((D 3 : Nat) : Int))) (SL ((w4)) ((u3_1)) ((u3_0)) ((w5)) ((w6)) ((w7)) ((w9)) ((w10)) ((w11)))) := by exact fun q => absurd q (by omega)
          have hfi2 : IMP (((z45) : Int) = 0) (SLB (((upd1 (w13) (2) (((D 3 : Nat) : Int)))) 2) ((((D 17 : Nat) : Int))) (SL ((w18)) ((u17_1)) ((u17_0)) ((w19)) ((w20)) ((w21)) ((w22)) ((w23)) ((w24)))) := by exact fun q => absurd q (by omega)
          have hfi3 : IMP (((z45) : Int) = 0) (ORB (((upd1 (w13) (2) (((D 3 : Nat) : Int)))) 2) ((((D 3 : Nat) : Int))) ((u3_0)) 9) := by exact fun q => absurd q (by omega)
          have hfi4 : IMP (((z45) : Int) = 0) (ORB (((upd1 (w13) (2) (((D 3 : Nat) : Int)))) 2) ((((D 17 : Nat) : Int))) ((u17_0)) 9) := by exact fun q => absurd q (by omega)
          have hfn : (IMP (((z45) : Int) = 0) (((upd1 (w13) (2) (((D 3 : Nat) : Int)))) 2 ≠ -1)) := by exact fun q => absurd q (by omega)
          exact w_ireturn rfl (k (z45) _ _ _ H O (cF45) (cA45) (u0_9) ((((show F45 0 9 = F 0 9 from (eF45 0 9).trans (hS45 0 9 rfl))).trans (eu0_9))) (u3_0) ((((show F45 3 0 = F 3 0 from (eF45 3 0))).trans (eu3_0))) (w4) (((show A45 4 = (updA A 13 (2) (((D 3 : Nat) : Int))) 4 from (eA45 4))).trans (ew4)) (w5) (((show A45 5 = (updA A 13 (2) (((D 3 : Nat) : Int))) 5 from (eA45 5))).trans (ew5)) (w6) (((show A45 6 = (updA A 13 (2) (((D 3 : Nat) : Int))) 6 from (eA45 6))).trans (ew6)) (w7) (((show A45 7 = (updA A 13 (2) (((D 3 : Nat) : Int))) 7 from (eA45 7))).trans (ew7)) (w9) (((show A45 9 = (updA A 13 (2) (((D 3 : Nat) : Int))) 9 from (eA45 9))).trans (ew9)) (w10) (((show A45 10 = (updA A 13 (2) (((D 3 : Nat) : Int))) 10 from (eA45 10))).trans (ew10)) (w11) (((show A45 11 = (updA A 13 (2) (((D 3 : Nat) : Int))) 11 from (eA45 11))).trans (ew11)) (upd1 (w13) (2) (((D 3 : Nat) : Int))) (((show A45 13 = (updA A 13 (2) (((D 3 : Nat) : Int))) 13 from (eA45 13))).trans (congrArg (fun q => upd1 q (2) (((D 3 : Nat) : Int))) (ew13))) (show inr (z45) from pz45_0) (show 0 ≤ (z45) ∧ (z45) ≤ 17 from q_3651 pz45_1) (show 0 ≤ (u0_9) ∧ (u0_9) ≤ (u0_9) ∧ (u0_9) ≤ (u0_8) from q_3590 h3) (show (u0_9) ≤ (u0_18) from q_1468 h4) (show (IMP ((z45) = 0) (((upd1 (w13) (2) (((D 3 : Nat) : Int)))) 2 ≠ -1)) from hfn) (show IMP ((z45) = 0) (TI3 (((upd1 (w13) (2) (((D 3 : Nat) : Int)))) 2) ((((D 25 : Nat) : Int))) ((((D 3 : Nat) : Int))) ((((D 17 : Nat) : Int)))) from hfi0) (show IMP ((z45) = 0) (SLB (((upd1 (w13) (2) (((D 3 : Nat) : Int)))) 2) ((((D 3 : Nat) : Int))) (SL ((w4)) ((u3_1)) ((u3_0)) ((w5)) ((w6)) ((w7)) ((w9)) ((w10)) ((w11)))) from hfi1) (show IMP ((z45) = 0) (SLB (((upd1 (w13) (2) (((D 3 : Nat) : Int)))) 2) ((((D 17 : Nat) : Int))) (SL ((w18)) ((u17_1)) ((u17_0)) ((w19)) ((w20)) ((w21)) ((w22)) ((w23)) ((w24)))) from hfi2) (show IMP ((z45) = 0) (ORB (((upd1 (w13) (2) (((D 3 : Nat) : Int)))) 2) ((((D 3 : Nat) : Int))) ((u3_0)) 9) from hfi3) (show IMP ((z45) = 0) (ORB (((upd1 (w13) (2) (((D 3 : Nat) : Int)))) 2) ((((D 17 : Nat) : Int))) ((u17_0)) 9) from hfi4) (show 2 = 0 ∨ ((upd1 (w13) (2) (((D 3 : Nat) : Int)))) 0 = ((w13)) 0 by omega) (show 2 = 1 ∨ ((upd1 (w13) (2) (((D 3 : Nat) : Int)))) 1 = ((w13)) 1 by omega) (show 2 = 2 ∨ ((upd1 (w13) (2) (((D 3 : Nat) : Int)))) 2 = ((w13)) 2 by first | exact q_3508 | omega))
    · refine Ew_of (pcₚ := 42) (fun _ => x_aload_n rfl rfl) ?_
      refine v_g H (o := 0) (v := .ref (D 14)) rfl rfl rfl rfl rfl (vrf (pf14)) ?_
      refine Ew_of (pcₚ := 46) (fun _ => x_iload_n rfl rfl) ?_
      refine v_lR H (o := 14) rfl rfl rfl rfl rfl (n := n14) (en14) (show 0 ≤ 2 ∧ 2 < n14 from q_3814 h7) (z := ((D 25 : Nat) : Int)) (v := .ref (D 25)) (pf25) (vrf rfl) ?_
      have hs_ := upd1_s (a := ((w13))) (j := 2) (z := (((D 25 : Nat) : Int)))
      have hu0_ : (2 : Int) = 0 ∨ upd1 ((w13)) 2 ((((D 25 : Nat) : Int))) 0 = ((w13)) 0 := by by_cases w : (0 : Int) = 2; exact .inl (by omega); exact .inr (upd1_o w)
      have hu1_ : (2 : Int) = 1 ∨ upd1 ((w13)) 2 ((((D 25 : Nat) : Int))) 1 = ((w13)) 1 := by by_cases w : (1 : Int) = 2; exact .inl (by omega); exact .inr (upd1_o w)
      have hu2_ : (2 : Int) = 2 ∨ upd1 ((w13)) 2 ((((D 25 : Nat) : Int))) 2 = ((w13)) 2 := by by_cases w : (2 : Int) = 2; exact .inl (by omega); exact .inr (upd1_o w)
      refine Ew_of (pcₚ := 56) (fun _ => x_goto rfl rfl) ?_
      refine v_sR H (o := 13) (z := ((D 25 : Nat) : Int)) (v := .ref (D 25)) rfl rfl rfl rfl rfl (n := n13) (en13) (show 0 ≤ 2 ∧ 2 < n13 from q_3813 h7) (show (-1 : Int) ≤ ((D 25 : Nat) : Int) by omega) (vrf rfl) (rkinR H (x := 25) rfl rfl rfl) (fun σ H Oₚ => ?_)
      have O := OUT_trans O Oₚ
      have cAu47 : SA oz_I0aclsl_0 A (updA A 13 (2) (((D 25 : Nat) : Int))) := SA_upd (SA_refl) rfl
      have mAu47 := SAm_of cAu47 oz_I0acls_4
      refine Ew_of (pcₚ := 58) (fun _ => x_iload_n rfl rfl) ?_
      refine Ew_of (pcₚ := 59) (fun _ => x_iconst rfl) ?_
      refine w_icmpne (t := 138) rfl rfl (show inr (a2) from h1) (show inr (1) from q_23) (fun b48 => ?_) (fun b48 => ?_)
      · refine Ew_of (pcₚ := 139) (fun _ => x_iload_n rfl rfl) ?_
        refine Ew_of (pcₚ := 140) (fun _ => x_iconst rfl) ?_
        refine w_icmpne (t := 190) rfl rfl (show inr (a2) from h1) (show inr (2) from h0) (fun b49 => ?_) (fun b49 => ?_)
        · refine Ew_of (pcₚ := 191) (fun _ => x_iconst rfl) ?_
          have hfi0 : IMP (((0) : Int) = 0) (TI3 (((upd1 (w13) (2) (((D 25 : Nat) : Int)))) 2) ((((D 25 : Nat) : Int))) ((((D 3 : Nat) : Int))) ((((D 17 : Nat) : Int)))) := by exact fun _ => .inr (by omega)
          have hfi1 : IMP (((0) : Int) = 0) (SLB (((upd1 (w13) (2) (((D 25 : Nat) : Int)))) 2) ((((D 3 : Nat) : Int))) (SL ((w4)) ((u3_1)) ((u3_0)) ((w5)) ((w6)) ((w7)) ((w9)) ((w10)) ((w11)))) := by exact fun _ => .inl (by omega)
          have hfi2 : IMP (((0) : Int) = 0) (SLB (((upd1 (w13) (2) (((D 25 : Nat) : Int)))) 2) ((((D 17 : Nat) : Int))) (SL ((w18)) ((u17_1)) ((u17_0)) ((w19)) ((w20)) ((w21)) ((w22)) ((w23)) ((w24)))) := by exact fun _ => .inl (by omega)
          have hfi3 : IMP (((0) : Int) = 0) (ORB (((upd1 (w13) (2) (((D 25 : Nat) : Int)))) 2) ((((D 3 : Nat) : Int))) ((u3_0)) 9) := by exact fun _ => .inl (by omega)
          have hfi4 : IMP (((0) : Int) = 0) (ORB (((upd1 (w13) (2) (((D 25 : Nat) : Int)))) 2) ((((D 17 : Nat) : Int))) ((u17_0)) 9) := by exact fun _ => .inl (by omega)
          have hfn : (IMP (((0) : Int) = 0) (((upd1 (w13) (2) (((D 25 : Nat) : Int)))) 2 ≠ -1)) := by exact fun _ => (by omega)
          exact w_ireturn rfl (k (0) _ _ _ H O (SF_refl) (cAu47) (u0_9) ((eu0_9)) (u3_0) ((eu3_0)) (w4) (ew4) (w5) (ew5) (w6) (ew6) (w7) (ew7) (w9) (ew9) (w10) (ew10) (w11) (ew11) (upd1 (w13) (2) (((D 25 : Nat) : Int))) (congrArg (fun q => upd1 q (2) (((D 25 : Nat) : Int))) (ew13)) (show inr (0) from q_20) (show 0 ≤ (0) ∧ (0) ≤ 17 by first | exact q_3589 | omega) (show 0 ≤ (u0_9) ∧ (u0_9) ≤ (u0_9) ∧ (u0_9) ≤ (u0_8) from q_3590 h3) (show (u0_9) ≤ (u0_18) from q_1468 h4) (show (IMP ((0) = 0) (((upd1 (w13) (2) (((D 25 : Nat) : Int)))) 2 ≠ -1)) by assumption) (show IMP ((0) = 0) (TI3 (((upd1 (w13) (2) (((D 25 : Nat) : Int)))) 2) ((((D 25 : Nat) : Int))) ((((D 3 : Nat) : Int))) ((((D 17 : Nat) : Int)))) by assumption) (show IMP ((0) = 0) (SLB (((upd1 (w13) (2) (((D 25 : Nat) : Int)))) 2) ((((D 3 : Nat) : Int))) (SL ((w4)) ((u3_1)) ((u3_0)) ((w5)) ((w6)) ((w7)) ((w9)) ((w10)) ((w11)))) by assumption) (show IMP ((0) = 0) (SLB (((upd1 (w13) (2) (((D 25 : Nat) : Int)))) 2) ((((D 17 : Nat) : Int))) (SL ((w18)) ((u17_1)) ((u17_0)) ((w19)) ((w20)) ((w21)) ((w22)) ((w23)) ((w24)))) by assumption) (show IMP ((0) = 0) (ORB (((upd1 (w13) (2) (((D 25 : Nat) : Int)))) 2) ((((D 3 : Nat) : Int))) ((u3_0)) 9) by assumption) (show IMP ((0) = 0) (ORB (((upd1 (w13) (2) (((D 25 : Nat) : Int)))) 2) ((((D 17 : Nat) : Int))) ((u17_0)) 9) by assumption) (show 2 = 0 ∨ ((upd1 (w13) (2) (((D 25 : Nat) : Int)))) 0 = ((w13)) 0 by omega) (show 2 = 1 ∨ ((upd1 (w13) (2) (((D 25 : Nat) : Int)))) 1 = ((w13)) 1 by omega) (show 2 = 2 ∨ ((upd1 (w13) (2) (((D 25 : Nat) : Int)))) 2 = ((w13)) 2 by first | exact q_3508 | omega))
        · refine Ew_of (pcₚ := 144) (fun _ => x_aload_n rfl rfl) ?_
          refine v_g H (o := 0) (v := .ref (D 2)) rfl rfl rfl rfl rfl (vrf (pf2)) ?_
          refine Ew_of (pcₚ := 148) (fun _ => x_iload_n rfl rfl) ?_
          refine v_lR H (o := 2) rfl rfl rfl rfl rfl (n := n2) (en2) (show 0 ≤ 2 ∧ 2 < n2 from q_3812 h7) (z := ((D 3 : Nat) : Int)) (v := .ref (D 3)) ((mAu47 2 rfl 2).trans (pf3)) (vrf rfl) ?_
          refine Ew_of (pcₚ := 150) (fun _ => x_aload_n rfl rfl) ?_
          refine v_g H (o := 0) (v := .ref (D 1)) rfl rfl rfl rfl rfl (vrf (pf1)) ?_
          refine Ew_of (pcₚ := 154) (fun _ => x_aload_n rfl rfl) ?_
          refine v_g H (o := 0) (v := I (u0_9)) rfl rfl rfl rfl rfl (congrArg (fun z : Int => I z) ((eu0_9) : F 0 9 = u0_9)) ?_
          refine Ew_of (pcₚ := 158) (fun _ => x_aload_n rfl rfl) ?_
          refine v_g H (o := 0) (v := I (u0_18)) rfl rfl rfl rfl rfl (congrArg (fun z : Int => I z) ((eu0_18) : F 0 18 = u0_18)) ?_
          refine Ew_of (pcₚ := 164) (fun _ => x_getstatic rfl) ?_
          refine Ew_of (pcₚ := 165) (fun _ => x_iload_n rfl rfl) ?_
          refine v_stI (STC_out HT HE O) (b := 2) (n := 3) rfl rfl rfl rfl (show 0 ≤ 2 ∧ 2 < 3 from q_3507) (fun v50 ev50 qv50 => ?_)
          have hgo := ev50
          have hgv : ((v50) : Int) = 9 := by rw [← hgo]; rfl
          have hpg : p2 ((v50)) = 512 := by rw [hgv]; decide
          refine v_inv H (o := 3) rfl rfl rfl rfl rfl rfl (by rfl) (C184_Br (D := puc 26643665609639073069400579 D) (N := puc 26643665609639073069400579 N) (HW_subc H oz_I0acls_14 oz_I0acls_6) (pf9) (pf4) (pf5) (pf6) (pf7) (pf8) (pf10) (pf11) (n1) (en1) (n9) (en9) (n4) (en4) (n5) (en5) (n6) (en6) (n7) (en7) (n8) (en8) (n10) (en10) (n11) (en11) (u3_0) ((eu3_0)) (u3_1) ((eu3_1)) (w9) (ew9) (w4) (ew4) (w5) (ew5) (w6) (ew6) (w7) (ew7) (w10) (ew10) (w11) (ew11) (show inr (u0_9) from q_3585 h3) (show inr (u0_18) from q_22 r3) (show inr (v50) from qv50) (show 0 ≤ (u0_9) ∧ (u0_9) ≤ (u0_18) ∧ (u0_18) ≤ (n1) ∧ (n1) ≤ 65536 from q_3794 h3 h4) (show 5 ≤ (v50) ∧ (v50) ≤ 9 ∧ p2 (v50) ≤ (n9) by omega) (show (n4) = (u3_1) ∧ (n5) = (u3_1) ∧ (n6) = (u3_1) ∧ (n7) = (u3_1) ∧ (n8) = (u3_1) ∧ (n10) = (n9) ∧ (n11) = (n9) ∧ 1 ≤ (u3_1) ∧ (u3_1) ≤ 64 by omega) (fun z51 σ51 F51ₚ A51ₚ Hₚ Oₚ hS51 hA51 y51_0_0 (ey51_0_0 : HID _) w51_2 ew51_2 w51_3 ew51_3 w51_4 ew51_4 w51_5 ew51_5 w51_6 ew51_6 w51_8 ew51_8 w51_9 ew51_9 (pq51_0 : HID _) pz51_0 pz51_1 pz51_2 pz51_3 => ⟨rfl, ?_⟩))
          refine v_backc (c := c) (s := s) H oz_I0acls_14 oz_I0acls_6 Hₚ Oₚ (fun F51 A51 H Oₚ eF51 eA51 => ?_)
          have O := OUT_trans O Oₚ
          -- Share.hear
          have cF51 : SF oz_I0aclsl_1 F F51 := SF_trans (SF_refl) (SF_gluc (ι := oz_I0aclsl_2) oz_I0acls_6 hS51 eF51 (by decide +kernel)) (any_sub (lₚ := [(3, 0), (3, 10), (3, 11), (3, 12)]) (by decide +kernel))
          have mF51 := SFm_of cF51 oz_I0acls_5
          have cA51 : SA oz_I0aclsl_0 A A51 := SA_trans (cAu47) (SA_gluc (ι := oz_I0aclsl_2) oz_I0acls_6 hA51 eA51 (by decide +kernel)) (any_subA (lₚ := [4, 5, 6, 7, 8, 9, 10, 11]) (by decide +kernel))
          have mA51 := SAm_of cA51 oz_I0acls_4
          have pl51_0 : HID (F51 3 10 = (D 1 : Int)) := (eF51 3 10).trans (pq51_0)
          have r52 : (-2147483648 : Int) ≤ y51_0_0 ∧ y51_0_0 ≤ 2147483647 := rngE (show (-2147483648 : Int) ≤ F51 3 0 ∧ F51 3 0 ≤ 2147483647 from H.krg 3 0 (ltn len_V249_c12_vd_oz_I0acls rfl)) (show F51 3 0 = y51_0_0 from ((eF51 3 0).trans ey51_0_0))
          refine Ew_of (pcₚ := 171) (fun _ => x_istore rfl) ?_
          refine Ew_of (pcₚ := 173) (fun _ => x_iload rfl rk_s) ?_
          refine w_ifge (t := 184) rfl rfl (show inr (z51) from pz51_0) (fun b53 => ?_) (fun b53 => ?_)
          · have hown := Or.resolve_left pz51_3 (by omega)
            have hord : (y51_0_0) ≤ 9 := q_3795 b53 hgv pz51_2 r52
            refine Ew_of (pcₚ := 185) (fun _ => x_aload_n rfl (rk_o (rfl) rfl rfl)) ?_
            refine Ew_of (pcₚ := 187) (fun _ => x_iload rfl rk_s) ?_
            refine v_p H (o := 0) (z := z51) (v := I (z51)) rfl rfl rfl rfl rfl rfl rfl rfl (show (-2147483648 : Int) ≤ z51 ∧ z51 ≤ 2147483647 from q_3761 b53 pz51_0) (fun σ H Oₚ => ?_)
            have O := OUT_trans O Oₚ
            have cFu54 : SF oz_I0aclsl_1 F (updF F51 0 9 (z51)) := SF_upd (cF51) rfl
            have mFu54 := SFm_of cFu54 oz_I0acls_5
            refine Ew_of (pcₚ := 191) (fun _ => x_iconst rfl) ?_
            have hfi0 : IMP (((0) : Int) = 0) (TI3 (((upd1 (w13) (2) (((D 25 : Nat) : Int)))) 2) ((((D 25 : Nat) : Int))) ((((D 3 : Nat) : Int))) ((((D 17 : Nat) : Int)))) := by exact fun q => absurd q (by omega)
            have hfi1 : IMP (((0) : Int) = 0) (SLB (((upd1 (w13) (2) (((D 25 : Nat) : Int)))) 2) ((((D 3 : Nat) : Int))) (SL ((w51_3)) ((u3_1)) ((y51_0_0)) ((w51_4)) ((w51_5)) ((w51_6)) ((w51_2)) ((w51_8)) ((w51_9)))) := by exact fun q => absurd q (by omega)
            have hfi2 : IMP (((0) : Int) = 0) (SLB (((upd1 (w13) (2) (((D 25 : Nat) : Int)))) 2) ((((D 17 : Nat) : Int))) (SL ((w18)) ((u17_1)) ((u17_0)) ((w19)) ((w20)) ((w21)) ((w22)) ((w23)) ((w24)))) := by exact fun q => absurd q (by omega)
            have hfi3 : IMP (((0) : Int) = 0) (ORB (((upd1 (w13) (2) (((D 25 : Nat) : Int)))) 2) ((((D 3 : Nat) : Int))) ((y51_0_0)) 9) := by exact fun q => absurd q (by omega)
            have hfi4 : IMP (((0) : Int) = 0) (ORB (((upd1 (w13) (2) (((D 25 : Nat) : Int)))) 2) ((((D 17 : Nat) : Int))) ((u17_0)) 9) := by exact fun q => absurd q (by omega)
            have hfn : (IMP (((0) : Int) = 0) (((upd1 (w13) (2) (((D 25 : Nat) : Int)))) 2 ≠ -1)) := by exact fun q => absurd q (by omega)
            exact w_ireturn rfl (k (0) _ _ _ H O (cFu54) (cA51) (z51) (rfl) (y51_0_0) (((eF51 3 0).trans ey51_0_0)) (w51_3) ((eA51 4).trans ew51_3) (w51_4) ((eA51 5).trans ew51_4) (w51_5) ((eA51 6).trans ew51_5) (w51_6) ((eA51 7).trans ew51_6) (w51_2) ((eA51 9).trans ew51_2) (w51_8) ((eA51 10).trans ew51_8) (w51_9) ((eA51 11).trans ew51_9) (upd1 (w13) (2) (((D 25 : Nat) : Int))) (((show A51 13 = (updA A 13 (2) (((D 25 : Nat) : Int))) 13 from (eA51 13))).trans (congrArg (fun q => upd1 q (2) (((D 25 : Nat) : Int))) (ew13))) (show inr (0) from q_20) (show 0 ≤ (0) ∧ (0) ≤ 17 by first | exact q_3589 | omega) (show 0 ≤ (z51) ∧ (u0_9) ≤ (z51) ∧ (z51) ≤ (u0_8) from q_3797 b53 h3 h4 pz51_1 pz51_3) (show (z51) ≤ (u0_18) from q_3796 b53 pz51_1 pz51_3 r3) (show (IMP ((0) = 0) (((upd1 (w13) (2) (((D 25 : Nat) : Int)))) 2 ≠ -1)) by assumption) (show IMP ((0) = 0) (TI3 (((upd1 (w13) (2) (((D 25 : Nat) : Int)))) 2) ((((D 25 : Nat) : Int))) ((((D 3 : Nat) : Int))) ((((D 17 : Nat) : Int)))) by assumption) (show IMP ((0) = 0) (SLB (((upd1 (w13) (2) (((D 25 : Nat) : Int)))) 2) ((((D 3 : Nat) : Int))) (SL ((w51_3)) ((u3_1)) ((y51_0_0)) ((w51_4)) ((w51_5)) ((w51_6)) ((w51_2)) ((w51_8)) ((w51_9)))) by assumption) (show IMP ((0) = 0) (SLB (((upd1 (w13) (2) (((D 25 : Nat) : Int)))) 2) ((((D 17 : Nat) : Int))) (SL ((w18)) ((u17_1)) ((u17_0)) ((w19)) ((w20)) ((w21)) ((w22)) ((w23)) ((w24)))) by assumption) (show IMP ((0) = 0) (ORB (((upd1 (w13) (2) (((D 25 : Nat) : Int)))) 2) ((((D 3 : Nat) : Int))) ((y51_0_0)) 9) by assumption) (show IMP ((0) = 0) (ORB (((upd1 (w13) (2) (((D 25 : Nat) : Int)))) 2) ((((D 17 : Nat) : Int))) ((u17_0)) 9) by assumption) (show 2 = 0 ∨ ((upd1 (w13) (2) (((D 25 : Nat) : Int)))) 0 = ((w13)) 0 by omega) (show 2 = 1 ∨ ((upd1 (w13) (2) (((D 25 : Nat) : Int)))) 1 = ((w13)) 1 by omega) (show 2 = 2 ∨ ((upd1 (w13) (2) (((D 25 : Nat) : Int)))) 2 = ((w13)) 2 by first | exact q_3508 | omega))
          · refine Ew_of (pcₚ := 177) (fun _ => x_aload_n rfl (rk_o (rfl) rfl rfl)) ?_
            refine Ew_of (pcₚ := 179) (fun _ => x_bipush (z := 16) rfl (by decide)) ?_
            refine Ew_of (pcₚ := 180) (fun _ => x_iload_n rfl (rk_o (rfl) rfl rfl)) ?_
            have r55 : (-2147483648 : Int) ≤ F 0 21 ∧ F 0 21 ≤ 2147483647 := rngE (show (-2147483648 : Int) ≤ F51 0 21 ∧ F51 0 21 ≤ 2147483647 from H.krg 0 21 (ltn len_V249_c12_vd_oz_I0acls rfl)) (show F51 0 21 = F 0 21 from ((show F51 0 21 = F 0 21 from (eF51 0 21))))
            refine v_inv H (o := 0) rfl rfl rfl rfl rfl rfl (by rfl) (C232 (D := puc 0 D) (N := puc 0 N) (HW_subc H oz_I0acls_15 oz_I0acls_7) (F 0 21) (((show F51 0 21 = F 0 21 from (eF51 0 21)))) (show inr (16) from q_86) (show inr (a3) from h2) (fun z56 σ56 F56ₚ A56ₚ Hₚ Oₚ hS56 hA56 y56_0_21 (ey56_0_21 : HID _) pz56_0 pz56_1 pz56_2 => ⟨rfl, ?_⟩))
            refine v_backc (c := c) (s := s) H oz_I0acls_15 oz_I0acls_7 Hₚ Oₚ (fun F56 A56 H Oₚ eF56 eA56 => ?_)
            have O := OUT_trans O Oₚ
            -- Unpacker.fail
            have cF56 : SF oz_I0aclsl_1 F F56 := SF_trans (cF51) (SF_gluc (ι := oz_I0aclsl_3) oz_I0acls_7 hS56 eF56 (by decide +kernel)) (any_sub (lₚ := [(0, 21)]) (by decide +kernel))
            have mF56 := SFm_of cF56 oz_I0acls_5
            have cA56 : SA oz_I0aclsl_0 A A56 := SA_trans (cA51) (SA_gluc (ι := oz_I0aclsl_3) oz_I0acls_7 hA56 eA56 (by decide +kernel)) (any_subA (lₚ := []) (by decide +kernel))
            have mA56 := SAm_of cA56 oz_I0acls_4
            have r57 : (-2147483648 : Int) ≤ y56_0_21 ∧ y56_0_21 ≤ 2147483647 := rngE (show (-2147483648 : Int) ≤ F56 0 21 ∧ F56 0 21 ≤ 2147483647 from H.krg 0 21 (ltn len_V249_c12_vd_oz_I0acls rfl)) (show F56 0 21 = y56_0_21 from ((eF56 0 21).trans ey56_0_21))
            have hfi0 : IMP (((z56) : Int) = 0) (TI3 (((upd1 (w13) (2) (((D 25 : Nat) : Int)))) 2) ((((D 25 : Nat) : Int))) ((((D 3 : Nat) : Int))) ((((D 17 : Nat) : Int)))) := by exact fun q => absurd q (by omega)
            have hfi1 : IMP (((z56) : Int) = 0) (SLB (((upd1 (w13) (2) (((D 25 : Nat) : Int)))) 2) ((((D 3 : Nat) : Int))) (SL ((w51_3)) ((u3_1)) ((y51_0_0)) ((w51_4)) ((w51_5)) ((w51_6)) ((w51_2)) ((w51_8)) ((w51_9)))) := by exact fun q => absurd q (by omega)
            have hfi2 : IMP (((z56) : Int) = 0) (SLB (((upd1 (w13) (2) (((D 25 : Nat) : Int)))) 2) ((((D 17 : Nat) : Int))) (SL ((w18)) ((u17_1)) ((u17_0)) ((w19)) ((w20)) ((w21)) ((w22)) ((w23)) ((w24)))) := by exact fun q => absurd q (by omega)
            have hfi3 : IMP (((z56) : Int) = 0) (ORB (((upd1 (w13) (2) (((D 25 : Nat) : Int)))) 2) ((((D 3 : Nat) : Int))) ((y51_0_0)) 9) := by exact fun q => absurd q (by omega)
            have hfi4 : IMP (((z56) : Int) = 0) (ORB (((upd1 (w13) (2) (((D 25 : Nat) : Int)))) 2) ((((D 17 : Nat) : Int))) ((u17_0)) 9) := by exact fun q => absurd q (by omega)
            have hfn : (IMP (((z56) : Int) = 0) (((upd1 (w13) (2) (((D 25 : Nat) : Int)))) 2 ≠ -1)) := by exact fun q => absurd q (by omega)
            exact w_ireturn rfl (k (z56) _ _ _ H O (cF56) (cA56) (u0_9) (((((show F56 0 9 = F51 0 9 from (eF56 0 9).trans (hS56 0 9 rfl))).trans ((show F51 0 9 = F 0 9 from (eF51 0 9)))).trans (eu0_9))) (y51_0_0) ((((show F56 3 0 = F51 3 0 from (eF56 3 0))).trans ((eF51 3 0).trans ey51_0_0))) (w51_3) (((show A56 4 = A51 4 from (eA56 4))).trans ((eA51 4).trans ew51_3)) (w51_4) (((show A56 5 = A51 5 from (eA56 5))).trans ((eA51 5).trans ew51_4)) (w51_5) (((show A56 6 = A51 6 from (eA56 6))).trans ((eA51 6).trans ew51_5)) (w51_6) (((show A56 7 = A51 7 from (eA56 7))).trans ((eA51 7).trans ew51_6)) (w51_2) (((show A56 9 = A51 9 from (eA56 9))).trans ((eA51 9).trans ew51_2)) (w51_8) (((show A56 10 = A51 10 from (eA56 10))).trans ((eA51 10).trans ew51_8)) (w51_9) (((show A56 11 = A51 11 from (eA56 11))).trans ((eA51 11).trans ew51_9)) (upd1 (w13) (2) (((D 25 : Nat) : Int))) (((show A56 13 = A51 13 from (eA56 13))).trans (((show A51 13 = (updA A 13 (2) (((D 25 : Nat) : Int))) 13 from (eA51 13))).trans (congrArg (fun q => upd1 q (2) (((D 25 : Nat) : Int))) (ew13)))) (show inr (z56) from pz56_0) (show 0 ≤ (z56) ∧ (z56) ≤ 17 from q_3798 pz56_1) (show 0 ≤ (u0_9) ∧ (u0_9) ≤ (u0_9) ∧ (u0_9) ≤ (u0_8) from q_3590 h3) (show (u0_9) ≤ (u0_18) from q_1468 h4) (show (IMP ((z56) = 0) (((upd1 (w13) (2) (((D 25 : Nat) : Int)))) 2 ≠ -1)) from hfn) (show IMP ((z56) = 0) (TI3 (((upd1 (w13) (2) (((D 25 : Nat) : Int)))) 2) ((((D 25 : Nat) : Int))) ((((D 3 : Nat) : Int))) ((((D 17 : Nat) : Int)))) from hfi0) (show IMP ((z56) = 0) (SLB (((upd1 (w13) (2) (((D 25 : Nat) : Int)))) 2) ((((D 3 : Nat) : Int))) (SL ((w51_3)) ((u3_1)) ((y51_0_0)) ((w51_4)) ((w51_5)) ((w51_6)) ((w51_2)) ((w51_8)) ((w51_9)))) from hfi1) (show IMP ((z56) = 0) (SLB (((upd1 (w13) (2) (((D 25 : Nat) : Int)))) 2) ((((D 17 : Nat) : Int))) (SL ((w18)) ((u17_1)) ((u17_0)) ((w19)) ((w20)) ((w21)) ((w22)) ((w23)) ((w24)))) from hfi2) (show IMP ((z56) = 0) (ORB (((upd1 (w13) (2) (((D 25 : Nat) : Int)))) 2) ((((D 3 : Nat) : Int))) ((y51_0_0)) 9) from hfi3) (show IMP ((z56) = 0) (ORB (((upd1 (w13) (2) (((D 25 : Nat) : Int)))) 2) ((((D 17 : Nat) : Int))) ((u17_0)) 9) from hfi4) (show 2 = 0 ∨ ((upd1 (w13) (2) (((D 25 : Nat) : Int)))) 0 = ((w13)) 0 by omega) (show 2 = 1 ∨ ((upd1 (w13) (2) (((D 25 : Nat) : Int)))) 1 = ((w13)) 1 by omega) (show 2 = 2 ∨ ((upd1 (w13) (2) (((D 25 : Nat) : Int)))) 2 = ((w13)) 2 by first | exact q_3508 | omega))
      · refine Ew_of (pcₚ := 63) (fun _ => x_aload_n rfl rfl) ?_
        refine v_g H (o := 0) (v := I (u0_9)) rfl rfl rfl rfl rfl (congrArg (fun z : Int => I z) ((eu0_9) : F 0 9 = u0_9)) ?_
        refine Ew_of (pcₚ := 67) (fun _ => x_aload_n rfl rfl) ?_
        refine v_g H (o := 0) (v := I (u0_18)) rfl rfl rfl rfl rfl (congrArg (fun z : Int => I z) ((eu0_18) : F 0 18 = u0_18)) ?_
        refine w_icmplt (t := 84) rfl rfl (show inr (u0_9) from q_3585 h3) (show inr (u0_18) from q_22 r3) (fun b58 => ?_) (fun b58 => ?_)
        · refine Ew_of (pcₚ := 85) (fun _ => x_aload_n rfl rfl) ?_
          refine v_g H (o := 0) (v := .ref (D 1)) rfl rfl rfl rfl rfl (vrf (pf1)) ?_
          refine Ew_of (pcₚ := 89) (fun _ => x_aload_n rfl rfl) ?_
          refine Ew_of (pcₚ := 90) (fun _ => x_dup rfl rfl) ?_
          refine v_g H (o := 0) (v := I (u0_9)) rfl rfl rfl rfl rfl (congrArg (fun z : Int => I z) ((eu0_9) : F 0 9 = u0_9)) ?_
          refine Ew_of (pcₚ := 94) (fun _ => x_dup_x1 rfl rfl) ?_
          refine Ew_of (pcₚ := 95) (fun _ => x_iconst rfl) ?_
          refine w_iadd rfl ?_
          refine v_p H (o := 0) (z := (u0_9 + 1)) (v := I ((u0_9 + 1))) rfl rfl rfl rfl rfl rfl rfl rfl (show (-2147483648 : Int) ≤ (u0_9 + 1) ∧ (u0_9 + 1) ≤ 2147483647 from q_3799 h3) (fun σ H Oₚ => ?_)
          have O := OUT_trans O Oₚ
          have cFu59 : SF oz_I0aclsl_1 F (updF F 0 9 ((u0_9 + 1))) := SF_upd (SF_refl) rfl
          have mFu59 := SFm_of cFu59 oz_I0acls_5
          refine v_lB H (o := 1) rfl rfl rfl rfl (n := n1) (en1) (show 0 ≤ u0_9 ∧ u0_9 < n1 from q_3635 b58 h3 h4) (fun v60 ev60 qv60 => ?_)
          have ev60 : (A 1) (u0_9) = v60 := (congrFun (funext (mAu47 1 rfl)) (u0_9)).symm.trans ev60
          refine Ew_of (pcₚ := 103) (fun _ => x_sipush (z := 255) rfl (by decide)) ?_
          refine w_iand rfl (show inr (v60) from q_2536 qv60) (show inr (255) from q_36) (fun z61 gz61 gaz61 gbz61 => ?_)
          refine Ew_of (pcₚ := 106) (fun _ => x_istore rfl) ?_
          refine Ew_of (pcₚ := 108) (fun _ => x_iload rfl rk_s) ?_
          refine Ew_of (pcₚ := 111) (fun _ => x_getstatic rfl) ?_
          refine Ew_of (pcₚ := 112) (fun _ => x_iload_n rfl (rk_o (rfl) rfl rfl)) ?_
          refine v_stI (STC_out HT HE O) (b := 3) (n := 3) rfl rfl rfl rfl (show 0 ≤ 2 ∧ 2 < 3 from q_3507) (fun v62 ev62 qv62 => ?_)
          have hlv := ev62
          have hlw : ((v62) : Int) = 52 := by rw [← hlv]; rfl
          refine w_icmple (t := 124) rfl rfl (show inr (z61) from gz61) (show inr (v62) from qv62) (fun b63 => ?_) (fun b63 => ?_)
          · refine Ew_of (pcₚ := 125) (fun _ => x_aload_n rfl (rk_o (rfl) rfl rfl)) ?_
            refine v_g H (o := 0) (v := .ref (D 2)) rfl rfl rfl rfl rfl (vrf ((mFu59 0 2 rfl).trans (pf2))) ?_
            refine Ew_of (pcₚ := 129) (fun _ => x_iload_n rfl (rk_o (rfl) rfl rfl)) ?_
            refine v_lR H (o := 2) rfl rfl rfl rfl rfl (n := n2) (en2) (show 0 ≤ 2 ∧ 2 < n2 from q_3812 h7) (z := ((D 3 : Nat) : Int)) (v := .ref (D 3)) ((mAu47 2 rfl 2).trans (pf3)) (vrf rfl) ?_
            refine Ew_of (pcₚ := 132) (fun _ => x_iload rfl rk_s) ?_
            refine v_inv H (o := 3) rfl rfl rfl rfl rfl rfl (by rfl) (C168 (D := puc 52038409393826314588675 D) (N := puc 52038409393826314588675 N) (HW_subc H oz_I0acls_16 oz_I0acls_8) ((mFu59 3 7 rfl).trans (pf9)) ((mFu59 3 2 rfl).trans (pf4)) ((mFu59 3 3 rfl).trans (pf5)) ((mFu59 3 4 rfl).trans (pf6)) ((mFu59 3 5 rfl).trans (pf7)) ((mFu59 3 6 rfl).trans (pf8)) ((mFu59 3 8 rfl).trans (pf10)) ((mFu59 3 9 rfl).trans (pf11)) (n9) (en9) (n4) (en4) (n5) (en5) (n6) (en6) (n7) (en7) (n8) (en8) (n10) (en10) (n11) (en11) (u3_0) ((eu3_0)) (u3_1) (((mFu59 3 1 rfl).trans (eu3_1))) (w9) (ew9) (w4) (ew4) (w5) (ew5) (w6) (ew6) (w7) (ew7) (w10) (ew10) (w11) (ew11) (show inr (z61) from gz61) (show (n9) ≥ 1 by omega) (show (n4) = (u3_1) ∧ (n5) = (u3_1) ∧ (n6) = (u3_1) ∧ (n7) = (u3_1) ∧ (n8) = (u3_1) ∧ (n10) = (n9) ∧ (n11) = (n9) ∧ 1 ≤ (u3_1) ∧ (u3_1) ≤ 64 by omega) (show 0 ≤ (z61) ∧ (z61) < ((u3_1)) by omega) (fun σ64 F64ₚ A64ₚ Hₚ Oₚ hS64 hA64 y64_0_0 (ey64_0_0 : HID _) w64_1 ew64_1 w64_2 ew64_2 w64_3 ew64_3 w64_4 ew64_4 w64_5 ew64_5 w64_7 ew64_7 w64_8 ew64_8 pz64_0 pz64_1 => ⟨rfl, ?_⟩))
            refine v_backc (c := c) (s := s) H oz_I0acls_16 oz_I0acls_8 Hₚ Oₚ (fun F64 A64 H Oₚ eF64 eA64 => ?_)
            have O := OUT_trans O Oₚ
            -- Share.becomeAlone
            have cF64 : SF oz_I0aclsl_1 F F64 := SF_trans (cFu59) (SF_gluc (ι := oz_I0aclsl_4) oz_I0acls_8 hS64 eF64 (by decide +kernel)) (any_sub (lₚ := [(3, 0)]) (by decide +kernel))
            have mF64 := SFm_of cF64 oz_I0acls_5
            have cA64 : SA oz_I0aclsl_0 A A64 := SA_trans (cAu47) (SA_gluc (ι := oz_I0aclsl_4) oz_I0acls_8 hA64 eA64 (by decide +kernel)) (any_subA (lₚ := [4, 5, 6, 7, 8, 9, 10, 11]) (by decide +kernel))
            have mA64 := SAm_of cA64 oz_I0acls_4
            have r65 : (-2147483648 : Int) ≤ y64_0_0 ∧ y64_0_0 ≤ 2147483647 := rngE (show (-2147483648 : Int) ≤ F64 3 0 ∧ F64 3 0 ≤ 2147483647 from H.krg 3 0 (ltn len_V249_c12_vd_oz_I0acls rfl)) (show F64 3 0 = y64_0_0 from ((eF64 3 0).trans ey64_0_0))
            have hown := pz64_0
            refine Ew_of (pcₚ := 190) (fun _ => x_goto rfl rfl) ?_
            refine Ew_of (pcₚ := 191) (fun _ => x_iconst rfl) ?_
            have hfi0 : IMP (((0) : Int) = 0) (TI3 (((upd1 (w13) (2) (((D 25 : Nat) : Int)))) 2) ((((D 25 : Nat) : Int))) ((((D 3 : Nat) : Int))) ((((D 17 : Nat) : Int)))) := by exact fun q => absurd q (by omega)
            have hfi1 : IMP (((0) : Int) = 0) (SLB (((upd1 (w13) (2) (((D 25 : Nat) : Int)))) 2) ((((D 3 : Nat) : Int))) (SL ((w64_2)) ((u3_1)) ((y64_0_0)) ((w64_3)) ((w64_4)) ((w64_5)) ((w64_1)) ((w64_7)) ((w64_8)))) := by exact fun q => absurd q (by omega)
            have hfi2 : IMP (((0) : Int) = 0) (SLB (((upd1 (w13) (2) (((D 25 : Nat) : Int)))) 2) ((((D 17 : Nat) : Int))) (SL ((w18)) ((u17_1)) ((u17_0)) ((w19)) ((w20)) ((w21)) ((w22)) ((w23)) ((w24)))) := by exact fun q => absurd q (by omega)
            have hfi3 : IMP (((0) : Int) = 0) (ORB (((upd1 (w13) (2) (((D 25 : Nat) : Int)))) 2) ((((D 3 : Nat) : Int))) ((y64_0_0)) 9) := by exact fun q => absurd q (by omega)
            have hfi4 : IMP (((0) : Int) = 0) (ORB (((upd1 (w13) (2) (((D 25 : Nat) : Int)))) 2) ((((D 17 : Nat) : Int))) ((u17_0)) 9) := by exact fun q => absurd q (by omega)
            have hfn : (IMP (((0) : Int) = 0) (((upd1 (w13) (2) (((D 25 : Nat) : Int)))) 2 ≠ -1)) := by exact fun q => absurd q (by omega)
            exact w_ireturn rfl (k (0) _ _ _ H O (cF64) (cA64) ((u0_9 + 1)) (((show F64 0 9 = (updF F 0 9 ((u0_9 + 1))) 0 9 from (eF64 0 9)))) (y64_0_0) (((eF64 3 0).trans ey64_0_0)) (w64_2) ((eA64 4).trans ew64_2) (w64_3) ((eA64 5).trans ew64_3) (w64_4) ((eA64 6).trans ew64_4) (w64_5) ((eA64 7).trans ew64_5) (w64_1) ((eA64 9).trans ew64_1) (w64_7) ((eA64 10).trans ew64_7) (w64_8) ((eA64 11).trans ew64_8) (upd1 (w13) (2) (((D 25 : Nat) : Int))) (((show A64 13 = (updA A 13 (2) (((D 25 : Nat) : Int))) 13 from (eA64 13))).trans (congrArg (fun q => upd1 q (2) (((D 25 : Nat) : Int))) (ew13))) (show inr (0) from q_20) (show 0 ≤ (0) ∧ (0) ≤ 17 by first | exact q_3589 | omega) (show 0 ≤ ((u0_9 + 1)) ∧ (u0_9) ≤ ((u0_9 + 1)) ∧ ((u0_9 + 1)) ≤ (u0_8) from q_3800 b58 h3 h4) (show ((u0_9 + 1)) ≤ (u0_18) from q_1328 b58) (show (IMP ((0) = 0) (((upd1 (w13) (2) (((D 25 : Nat) : Int)))) 2 ≠ -1)) by assumption) (show IMP ((0) = 0) (TI3 (((upd1 (w13) (2) (((D 25 : Nat) : Int)))) 2) ((((D 25 : Nat) : Int))) ((((D 3 : Nat) : Int))) ((((D 17 : Nat) : Int)))) by assumption) (show IMP ((0) = 0) (SLB (((upd1 (w13) (2) (((D 25 : Nat) : Int)))) 2) ((((D 3 : Nat) : Int))) (SL ((w64_2)) ((u3_1)) ((y64_0_0)) ((w64_3)) ((w64_4)) ((w64_5)) ((w64_1)) ((w64_7)) ((w64_8)))) by assumption) (show IMP ((0) = 0) (SLB (((upd1 (w13) (2) (((D 25 : Nat) : Int)))) 2) ((((D 17 : Nat) : Int))) (SL ((w18)) ((u17_1)) ((u17_0)) ((w19)) ((w20)) ((w21)) ((w22)) ((w23)) ((w24)))) by assumption) (show IMP ((0) = 0) (ORB (((upd1 (w13) (2) (((D 25 : Nat) : Int)))) 2) ((((D 3 : Nat) : Int))) ((y64_0_0)) 9) by assumption) (show IMP ((0) = 0) (ORB (((upd1 (w13) (2) (((D 25 : Nat) : Int)))) 2) ((((D 17 : Nat) : Int))) ((u17_0)) 9) by assumption) (show 2 = 0 ∨ ((upd1 (w13) (2) (((D 25 : Nat) : Int)))) 0 = ((w13)) 0 by omega) (show 2 = 1 ∨ ((upd1 (w13) (2) (((D 25 : Nat) : Int)))) 1 = ((w13)) 1 by omega) (show 2 = 2 ∨ ((upd1 (w13) (2) (((D 25 : Nat) : Int)))) 2 = ((w13)) 2 by first | exact q_3508 | omega))
          · refine Ew_of (pcₚ := 117) (fun _ => x_aload_n rfl (rk_o (rfl) rfl rfl)) ?_
            refine Ew_of (pcₚ := 119) (fun _ => x_bipush (z := 16) rfl (by decide)) ?_
            refine Ew_of (pcₚ := 120) (fun _ => x_iload_n rfl (rk_o (rfl) rfl rfl)) ?_
            have r66 : (-2147483648 : Int) ≤ F 0 21 ∧ F 0 21 ≤ 2147483647 := H.krg 0 21 (ltn len_V249_c12_vd_oz_I0acls rfl)
            refine v_inv H (o := 0) rfl rfl rfl rfl rfl rfl (by rfl) (C232 (D := puc 0 D) (N := puc 0 N) (HW_subc H oz_I0acls_15 oz_I0acls_7) (F 0 21) (rfl) (show inr (16) from q_86) (show inr (a3) from h2) (fun z67 σ67 F67ₚ A67ₚ Hₚ Oₚ hS67 hA67 y67_0_21 (ey67_0_21 : HID _) pz67_0 pz67_1 pz67_2 => ⟨rfl, ?_⟩))
            refine v_backc (c := c) (s := s) H oz_I0acls_15 oz_I0acls_7 Hₚ Oₚ (fun F67 A67 H Oₚ eF67 eA67 => ?_)
            have O := OUT_trans O Oₚ
            -- Unpacker.fail
            have cF67 : SF oz_I0aclsl_1 F F67 := SF_trans (cFu59) (SF_gluc (ι := oz_I0aclsl_3) oz_I0acls_7 hS67 eF67 (by decide +kernel)) (any_sub (lₚ := [(0, 21)]) (by decide +kernel))
            have mF67 := SFm_of cF67 oz_I0acls_5
            have cA67 : SA oz_I0aclsl_0 A A67 := SA_trans (cAu47) (SA_gluc (ι := oz_I0aclsl_3) oz_I0acls_7 hA67 eA67 (by decide +kernel)) (any_subA (lₚ := []) (by decide +kernel))
            have mA67 := SAm_of cA67 oz_I0acls_4
            have r68 : (-2147483648 : Int) ≤ y67_0_21 ∧ y67_0_21 ≤ 2147483647 := rngE (show (-2147483648 : Int) ≤ F67 0 21 ∧ F67 0 21 ≤ 2147483647 from H.krg 0 21 (ltn len_V249_c12_vd_oz_I0acls rfl)) (show F67 0 21 = y67_0_21 from ((eF67 0 21).trans ey67_0_21))
            have hfi0 : IMP (((z67) : Int) = 0) (TI3 (((upd1 (w13) (2) (((D 25 : Nat) : Int)))) 2) ((((D 25 : Nat) : Int))) ((((D 3 : Nat) : Int))) ((((D 17 : Nat) : Int)))) := by exact fun q => absurd q (by omega)
            have hfi1 : IMP (((z67) : Int) = 0) (SLB (((upd1 (w13) (2) (((D 25 : Nat) : Int)))) 2) ((((D 3 : Nat) : Int))) (SL ((w4)) ((u3_1)) ((u3_0)) ((w5)) ((w6)) ((w7)) ((w9)) ((w10)) ((w11)))) := by exact fun q => absurd q (by omega)
            have hfi2 : IMP (((z67) : Int) = 0) (SLB (((upd1 (w13) (2) (((D 25 : Nat) : Int)))) 2) ((((D 17 : Nat) : Int))) (SL ((w18)) ((u17_1)) ((u17_0)) ((w19)) ((w20)) ((w21)) ((w22)) ((w23)) ((w24)))) := by exact fun q => absurd q (by omega)
            have hfi3 : IMP (((z67) : Int) = 0) (ORB (((upd1 (w13) (2) (((D 25 : Nat) : Int)))) 2) ((((D 3 : Nat) : Int))) ((u3_0)) 9) := by exact fun q => absurd q (by omega)
            have hfi4 : IMP (((z67) : Int) = 0) (ORB (((upd1 (w13) (2) (((D 25 : Nat) : Int)))) 2) ((((D 17 : Nat) : Int))) ((u17_0)) 9) := by exact fun q => absurd q (by omega)
            have hfn : (IMP (((z67) : Int) = 0) (((upd1 (w13) (2) (((D 25 : Nat) : Int)))) 2 ≠ -1)) := by exact fun q => absurd q (by omega)
            exact w_ireturn rfl (k (z67) _ _ _ H O (cF67) (cA67) ((u0_9 + 1)) (((show F67 0 9 = (updF F 0 9 ((u0_9 + 1))) 0 9 from (eF67 0 9).trans (hS67 0 9 rfl)))) (u3_0) ((((show F67 3 0 = (updF F 0 9 ((u0_9 + 1))) 3 0 from (eF67 3 0))).trans (eu3_0))) (w4) (((show A67 4 = (updA A 13 (2) (((D 25 : Nat) : Int))) 4 from (eA67 4))).trans (ew4)) (w5) (((show A67 5 = (updA A 13 (2) (((D 25 : Nat) : Int))) 5 from (eA67 5))).trans (ew5)) (w6) (((show A67 6 = (updA A 13 (2) (((D 25 : Nat) : Int))) 6 from (eA67 6))).trans (ew6)) (w7) (((show A67 7 = (updA A 13 (2) (((D 25 : Nat) : Int))) 7 from (eA67 7))).trans (ew7)) (w9) (((show A67 9 = (updA A 13 (2) (((D 25 : Nat) : Int))) 9 from (eA67 9))).trans (ew9)) (w10) (((show A67 10 = (updA A 13 (2) (((D 25 : Nat) : Int))) 10 from (eA67 10))).trans (ew10)) (w11) (((show A67 11 = (updA A 13 (2) (((D 25 : Nat) : Int))) 11 from (eA67 11))).trans (ew11)) (upd1 (w13) (2) (((D 25 : Nat) : Int))) (((show A67 13 = (updA A 13 (2) (((D 25 : Nat) : Int))) 13 from (eA67 13))).trans (congrArg (fun q => upd1 q (2) (((D 25 : Nat) : Int))) (ew13))) (show inr (z67) from pz67_0) (show 0 ≤ (z67) ∧ (z67) ≤ 17 from q_3798 pz67_1) (show 0 ≤ ((u0_9 + 1)) ∧ (u0_9) ≤ ((u0_9 + 1)) ∧ ((u0_9 + 1)) ≤ (u0_8) from q_3800 b58 h3 h4) (show ((u0_9 + 1)) ≤ (u0_18) from q_1328 b58) (show (IMP ((z67) = 0) (((upd1 (w13) (2) (((D 25 : Nat) : Int)))) 2 ≠ -1)) from hfn) (show IMP ((z67) = 0) (TI3 (((upd1 (w13) (2) (((D 25 : Nat) : Int)))) 2) ((((D 25 : Nat) : Int))) ((((D 3 : Nat) : Int))) ((((D 17 : Nat) : Int)))) from hfi0) (show IMP ((z67) = 0) (SLB (((upd1 (w13) (2) (((D 25 : Nat) : Int)))) 2) ((((D 3 : Nat) : Int))) (SL ((w4)) ((u3_1)) ((u3_0)) ((w5)) ((w6)) ((w7)) ((w9)) ((w10)) ((w11)))) from hfi1) (show IMP ((z67) = 0) (SLB (((upd1 (w13) (2) (((D 25 : Nat) : Int)))) 2) ((((D 17 : Nat) : Int))) (SL ((w18)) ((u17_1)) ((u17_0)) ((w19)) ((w20)) ((w21)) ((w22)) ((w23)) ((w24)))) from hfi2) (show IMP ((z67) = 0) (ORB (((upd1 (w13) (2) (((D 25 : Nat) : Int)))) 2) ((((D 3 : Nat) : Int))) ((u3_0)) 9) from hfi3) (show IMP ((z67) = 0) (ORB (((upd1 (w13) (2) (((D 25 : Nat) : Int)))) 2) ((((D 17 : Nat) : Int))) ((u17_0)) 9) from hfi4) (show 2 = 0 ∨ ((upd1 (w13) (2) (((D 25 : Nat) : Int)))) 0 = ((w13)) 0 by omega) (show 2 = 1 ∨ ((upd1 (w13) (2) (((D 25 : Nat) : Int)))) 1 = ((w13)) 1 by omega) (show 2 = 2 ∨ ((upd1 (w13) (2) (((D 25 : Nat) : Int)))) 2 = ((w13)) 2 by first | exact q_3508 | omega))
        · refine Ew_of (pcₚ := 74) (fun _ => x_aload_n rfl rfl) ?_
          refine Ew_of (pcₚ := 76) (fun _ => x_bipush (z := 10) rfl (by decide)) ?_
          refine Ew_of (pcₚ := 77) (fun _ => x_aload_n rfl rfl) ?_
          refine v_g H (o := 0) (v := I (u0_18)) rfl rfl rfl rfl rfl (congrArg (fun z : Int => I z) ((eu0_18) : F 0 18 = u0_18)) ?_
          have r69 : (-2147483648 : Int) ≤ F 0 21 ∧ F 0 21 ≤ 2147483647 := H.krg 0 21 (ltn len_V249_c12_vd_oz_I0acls rfl)
          refine v_inv H (o := 0) rfl rfl rfl rfl rfl rfl (by rfl) (C232 (D := puc 0 D) (N := puc 0 N) (HW_subc H oz_I0acls_15 oz_I0acls_7) (F 0 21) (rfl) (show inr (10) from q_532) (show inr (u0_18) from q_22 r3) (fun z70 σ70 F70ₚ A70ₚ Hₚ Oₚ hS70 hA70 y70_0_21 (ey70_0_21 : HID _) pz70_0 pz70_1 pz70_2 => ⟨rfl, ?_⟩))
          refine v_backc (c := c) (s := s) H oz_I0acls_15 oz_I0acls_7 Hₚ Oₚ (fun F70 A70 H Oₚ eF70 eA70 => ?_)
          have O := OUT_trans O Oₚ
          -- Unpacker.fail
          have cF70 : SF oz_I0aclsl_1 F F70 := SF_trans (SF_refl) (SF_gluc (ι := oz_I0aclsl_3) oz_I0acls_7 hS70 eF70 (by decide +kernel)) (any_sub (lₚ := [(0, 21)]) (by decide +kernel))
          have mF70 := SFm_of cF70 oz_I0acls_5
          have cA70 : SA oz_I0aclsl_0 A A70 := SA_trans (cAu47) (SA_gluc (ι := oz_I0aclsl_3) oz_I0acls_7 hA70 eA70 (by decide +kernel)) (any_subA (lₚ := []) (by decide +kernel))
          have mA70 := SAm_of cA70 oz_I0acls_4
          have r71 : (-2147483648 : Int) ≤ y70_0_21 ∧ y70_0_21 ≤ 2147483647 := rngE (show (-2147483648 : Int) ≤ F70 0 21 ∧ F70 0 21 ≤ 2147483647 from H.krg 0 21 (ltn len_V249_c12_vd_oz_I0acls rfl)) (show F70 0 21 = y70_0_21 from ((eF70 0 21).trans ey70_0_21))
          have hfi0 : IMP (((z70) : Int) = 0) (TI3 (((upd1 (w13) (2) (((D 25 : Nat) : Int)))) 2) ((((D 25 : Nat) : Int))) ((((D 3 : Nat) : Int))) ((((D 17 : Nat) : Int)))) := by exact fun q => absurd q (by omega)
          have hfi1 : IMP (((z70) : Int) = 0) (SLB (((upd1 (w13) (2) (((D 25 : Nat) : Int)))) 2) ((((D 3 : Nat) : Int))) (SL ((w4)) ((u3_1)) ((u3_0)) ((w5)) ((w6)) ((w7)) ((w9)) ((w10)) ((w11)))) := by exact fun q => absurd q (by omega)
          have hfi2 : IMP (((z70) : Int) = 0) (SLB (((upd1 (w13) (2) (((D 25 : Nat) : Int)))) 2) ((((D 17 : Nat) : Int))) (SL ((w18)) ((u17_1)) ((u17_0)) ((w19)) ((w20)) ((w21)) ((w22)) ((w23)) ((w24)))) := by exact fun q => absurd q (by omega)
          have hfi3 : IMP (((z70) : Int) = 0) (ORB (((upd1 (w13) (2) (((D 25 : Nat) : Int)))) 2) ((((D 3 : Nat) : Int))) ((u3_0)) 9) := by exact fun q => absurd q (by omega)
          have hfi4 : IMP (((z70) : Int) = 0) (ORB (((upd1 (w13) (2) (((D 25 : Nat) : Int)))) 2) ((((D 17 : Nat) : Int))) ((u17_0)) 9) := by exact fun q => absurd q (by omega)
          have hfn : (IMP (((z70) : Int) = 0) (((upd1 (w13) (2) (((D 25 : Nat) : Int)))) 2 ≠ -1)) := by exact fun q => absurd q (by omega)
          exact w_ireturn rfl (k (z70) _ _ _ H O (cF70) (cA70) (u0_9) ((((show F70 0 9 = F 0 9 from (eF70 0 9).trans (hS70 0 9 rfl))).trans (eu0_9))) (u3_0) ((((show F70 3 0 = F 3 0 from (eF70 3 0))).trans (eu3_0))) (w4) (((show A70 4 = (updA A 13 (2) (((D 25 : Nat) : Int))) 4 from (eA70 4))).trans (ew4)) (w5) (((show A70 5 = (updA A 13 (2) (((D 25 : Nat) : Int))) 5 from (eA70 5))).trans (ew5)) (w6) (((show A70 6 = (updA A 13 (2) (((D 25 : Nat) : Int))) 6 from (eA70 6))).trans (ew6)) (w7) (((show A70 7 = (updA A 13 (2) (((D 25 : Nat) : Int))) 7 from (eA70 7))).trans (ew7)) (w9) (((show A70 9 = (updA A 13 (2) (((D 25 : Nat) : Int))) 9 from (eA70 9))).trans (ew9)) (w10) (((show A70 10 = (updA A 13 (2) (((D 25 : Nat) : Int))) 10 from (eA70 10))).trans (ew10)) (w11) (((show A70 11 = (updA A 13 (2) (((D 25 : Nat) : Int))) 11 from (eA70 11))).trans (ew11)) (upd1 (w13) (2) (((D 25 : Nat) : Int))) (((show A70 13 = (updA A 13 (2) (((D 25 : Nat) : Int))) 13 from (eA70 13))).trans (congrArg (fun q => upd1 q (2) (((D 25 : Nat) : Int))) (ew13))) (show inr (z70) from pz70_0) (show 0 ≤ (z70) ∧ (z70) ≤ 17 from q_3651 pz70_1) (show 0 ≤ (u0_9) ∧ (u0_9) ≤ (u0_9) ∧ (u0_9) ≤ (u0_8) from q_3590 h3) (show (u0_9) ≤ (u0_18) from q_1468 h4) (show (IMP ((z70) = 0) (((upd1 (w13) (2) (((D 25 : Nat) : Int)))) 2 ≠ -1)) from hfn) (show IMP ((z70) = 0) (TI3 (((upd1 (w13) (2) (((D 25 : Nat) : Int)))) 2) ((((D 25 : Nat) : Int))) ((((D 3 : Nat) : Int))) ((((D 17 : Nat) : Int)))) from hfi0) (show IMP ((z70) = 0) (SLB (((upd1 (w13) (2) (((D 25 : Nat) : Int)))) 2) ((((D 3 : Nat) : Int))) (SL ((w4)) ((u3_1)) ((u3_0)) ((w5)) ((w6)) ((w7)) ((w9)) ((w10)) ((w11)))) from hfi1) (show IMP ((z70) = 0) (SLB (((upd1 (w13) (2) (((D 25 : Nat) : Int)))) 2) ((((D 17 : Nat) : Int))) (SL ((w18)) ((u17_1)) ((u17_0)) ((w19)) ((w20)) ((w21)) ((w22)) ((w23)) ((w24)))) from hfi2) (show IMP ((z70) = 0) (ORB (((upd1 (w13) (2) (((D 25 : Nat) : Int)))) 2) ((((D 3 : Nat) : Int))) ((u3_0)) 9) from hfi3) (show IMP ((z70) = 0) (ORB (((upd1 (w13) (2) (((D 25 : Nat) : Int)))) 2) ((((D 17 : Nat) : Int))) ((u17_0)) 9) from hfi4) (show 2 = 0 ∨ ((upd1 (w13) (2) (((D 25 : Nat) : Int)))) 0 = ((w13)) 0 by omega) (show 2 = 1 ∨ ((upd1 (w13) (2) (((D 25 : Nat) : Int)))) 1 = ((w13)) 1 by omega) (show 2 = 2 ∨ ((upd1 (w13) (2) (((D 25 : Nat) : Int)))) 2 = ((w13)) 2 by first | exact q_3508 | omega))
  · refine Ew_of (pcₚ := 6) (fun _ => x_aload_n rfl rfl) ?_
    refine v_g H (o := 0) (v := .ref (D 12)) rfl rfl rfl rfl rfl (vrf (pf12)) ?_
    refine v_g H (o := 12) (v := .ref (D 13)) rfl rfl rfl rfl rfl (vrf (pf13)) ?_
    refine Ew_of (pcₚ := 13) (fun _ => x_iload_n rfl rfl) ?_
    rcases (show (w13) (2) = -1 ∨ (w13) (2) = ((D 25 : Nat) : Int) ∨ (w13) (2) = ((D 3 : Nat) : Int) ∨ (w13) (2) = ((D 17 : Nat) : Int) by assumption) with b72 | b72 | b72 | b72
    · refine v_lR H (o := 13) rfl rfl rfl rfl rfl (n := n13) (en13) (show 0 ≤ 2 ∧ 2 < n13 from q_3813 h7) (z := (-1)) (v := .null) ((congrFun (ew13) (2)).trans b72) (rfl) ?_
      refine Ew_of (pcₚ := 17) (fun _ => x_ifnonnull_f rfl rfl) ?_
      refine Ew_of (pcₚ := 18) (fun _ => x_aload_n rfl rfl) ?_
      refine Ew_of (pcₚ := 20) (fun _ => x_bipush (z := 16) rfl (by decide)) ?_
      refine Ew_of (pcₚ := 21) (fun _ => x_iload_n rfl rfl) ?_
      have r73 : (-2147483648 : Int) ≤ F 0 21 ∧ F 0 21 ≤ 2147483647 := H.krg 0 21 (ltn len_V249_c12_vd_oz_I0acls rfl)
      refine v_inv H (o := 0) rfl rfl rfl rfl rfl rfl (by rfl) (C232 (D := puc 0 D) (N := puc 0 N) (HW_subc H oz_I0acls_15 oz_I0acls_7) (F 0 21) (rfl) (show inr (16) from q_86) (show inr (a3) from h2) (fun z74 σ74 F74ₚ A74ₚ Hₚ Oₚ hS74 hA74 y74_0_21 (ey74_0_21 : HID _) pz74_0 pz74_1 pz74_2 => ⟨rfl, ?_⟩))
      refine v_backc (c := c) (s := s) H oz_I0acls_15 oz_I0acls_7 Hₚ Oₚ (fun F74 A74 H Oₚ eF74 eA74 => ?_)
      have O := OUT_trans O Oₚ
      -- Unpacker.fail
      have cF74 : SF oz_I0aclsl_1 F F74 := SF_trans (SF_refl) (SF_gluc (ι := oz_I0aclsl_3) oz_I0acls_7 hS74 eF74 (by decide +kernel)) (any_sub (lₚ := [(0, 21)]) (by decide +kernel))
      have mF74 := SFm_of cF74 oz_I0acls_5
      have cA74 : SA oz_I0aclsl_0 A A74 := SA_trans (SA_refl) (SA_gluc (ι := oz_I0aclsl_3) oz_I0acls_7 hA74 eA74 (by decide +kernel)) (any_subA (lₚ := []) (by decide +kernel))
      have mA74 := SAm_of cA74 oz_I0acls_4
      have r75 : (-2147483648 : Int) ≤ y74_0_21 ∧ y74_0_21 ≤ 2147483647 := rngE (show (-2147483648 : Int) ≤ F74 0 21 ∧ F74 0 21 ≤ 2147483647 from H.krg 0 21 (ltn len_V249_c12_vd_oz_I0acls rfl)) (show F74 0 21 = y74_0_21 from ((eF74 0 21).trans ey74_0_21))
      refine Ew_of (pcₚ := 28) (fun _ => x_goto rfl rfl) ?_
      have hfi0 : IMP (((z74) : Int) = 0) (TI3 (((w13)) 2) ((((D 25 : Nat) : Int))) ((((D 3 : Nat) : Int))) ((((D 17 : Nat) : Int)))) := by exact fun q => absurd q (by omega)
      have hfi1 : IMP (((z74) : Int) = 0) (SLB (((w13)) 2) ((((D 3 : Nat) : Int))) (SL ((w4)) ((u3_1)) ((u3_0)) ((w5)) ((w6)) ((w7)) ((w9)) ((w10)) ((w11)))) := by exact fun q => absurd q (by omega)
      have hfi2 : IMP (((z74) : Int) = 0) (SLB (((w13)) 2) ((((D 17 : Nat) : Int))) (SL ((w18)) ((u17_1)) ((u17_0)) ((w19)) ((w20)) ((w21)) ((w22)) ((w23)) ((w24)))) := by exact fun q => absurd q (by omega)
      have hfi3 : IMP (((z74) : Int) = 0) (ORB (((w13)) 2) ((((D 3 : Nat) : Int))) ((u3_0)) 9) := by exact fun q => absurd q (by omega)
      have hfi4 : IMP (((z74) : Int) = 0) (ORB (((w13)) 2) ((((D 17 : Nat) : Int))) ((u17_0)) 9) := by exact fun q => absurd q (by omega)
      have hfn : (IMP (((z74) : Int) = 0) (((w13)) 2 ≠ -1)) := by exact fun q => absurd q (by omega)
      exact w_ireturn rfl (k (z74) _ _ _ H O (cF74) (cA74) (u0_9) ((((show F74 0 9 = F 0 9 from (eF74 0 9).trans (hS74 0 9 rfl))).trans (eu0_9))) (u3_0) ((((show F74 3 0 = F 3 0 from (eF74 3 0))).trans (eu3_0))) (w4) (((show A74 4 = A 4 from (eA74 4))).trans (ew4)) (w5) (((show A74 5 = A 5 from (eA74 5))).trans (ew5)) (w6) (((show A74 6 = A 6 from (eA74 6))).trans (ew6)) (w7) (((show A74 7 = A 7 from (eA74 7))).trans (ew7)) (w9) (((show A74 9 = A 9 from (eA74 9))).trans (ew9)) (w10) (((show A74 10 = A 10 from (eA74 10))).trans (ew10)) (w11) (((show A74 11 = A 11 from (eA74 11))).trans (ew11)) (w13) (((show A74 13 = A 13 from (eA74 13))).trans (ew13)) (show inr (z74) from pz74_0) (show 0 ≤ (z74) ∧ (z74) ≤ 17 from q_3798 pz74_1) (show 0 ≤ (u0_9) ∧ (u0_9) ≤ (u0_9) ∧ (u0_9) ≤ (u0_8) from q_3590 h3) (show (u0_9) ≤ (u0_18) from q_1468 h4) (show (IMP ((z74) = 0) (((w13)) 2 ≠ -1)) from hfn) (show IMP ((z74) = 0) (TI3 (((w13)) 2) ((((D 25 : Nat) : Int))) ((((D 3 : Nat) : Int))) ((((D 17 : Nat) : Int)))) from hfi0) (show IMP ((z74) = 0) (SLB (((w13)) 2) ((((D 3 : Nat) : Int))) (SL ((w4)) ((u3_1)) ((u3_0)) ((w5)) ((w6)) ((w7)) ((w9)) ((w10)) ((w11)))) from hfi1) (show IMP ((z74) = 0) (SLB (((w13)) 2) ((((D 17 : Nat) : Int))) (SL ((w18)) ((u17_1)) ((u17_0)) ((w19)) ((w20)) ((w21)) ((w22)) ((w23)) ((w24)))) from hfi2) (show IMP ((z74) = 0) (ORB (((w13)) 2) ((((D 3 : Nat) : Int))) ((u3_0)) 9) from hfi3) (show IMP ((z74) = 0) (ORB (((w13)) 2) ((((D 17 : Nat) : Int))) ((u17_0)) 9) from hfi4) (show 2 = 0 ∨ ((w13)) 0 = ((w13)) 0 by first | exact q_3817 | omega) (show 2 = 1 ∨ ((w13)) 1 = ((w13)) 1 by first | exact q_3816 | omega) (show 2 = 2 ∨ ((w13)) 2 = ((w13)) 2 by first | exact q_3815 | omega))
    · refine v_lR H (o := 13) rfl rfl rfl rfl rfl (n := n13) (en13) (show 0 ≤ 2 ∧ 2 < n13 from q_3813 h7) (z := ((D 25 : Nat) : Int)) (v := .ref (D 25)) ((congrFun (ew13) (2)).trans b72) (vrf rfl) ?_
      refine Ew_of (pcₚ := 27) (fun _ => x_ifnonnull_t rfl rfl) ?_
      refine Ew_of (pcₚ := 28) (fun _ => x_iconst rfl) ?_
      have hfi0 : IMP (((0) : Int) = 0) (TI3 (((w13)) 2) ((((D 25 : Nat) : Int))) ((((D 3 : Nat) : Int))) ((((D 17 : Nat) : Int)))) := by exact fun _ => (by assumption)
      have hfi1 : IMP (((0) : Int) = 0) (SLB (((w13)) 2) ((((D 3 : Nat) : Int))) (SL ((w4)) ((u3_1)) ((u3_0)) ((w5)) ((w6)) ((w7)) ((w9)) ((w10)) ((w11)))) := by exact fun _ => (by assumption)
      have hfi2 : IMP (((0) : Int) = 0) (SLB (((w13)) 2) ((((D 17 : Nat) : Int))) (SL ((w18)) ((u17_1)) ((u17_0)) ((w19)) ((w20)) ((w21)) ((w22)) ((w23)) ((w24)))) := by exact fun _ => (by assumption)
      have hfi3 : IMP (((0) : Int) = 0) (ORB (((w13)) 2) ((((D 3 : Nat) : Int))) ((u3_0)) 9) := by exact fun _ => (by assumption)
      have hfi4 : IMP (((0) : Int) = 0) (ORB (((w13)) 2) ((((D 17 : Nat) : Int))) ((u17_0)) 9) := by exact fun _ => (by assumption)
      have hfn : (IMP (((0) : Int) = 0) (((w13)) 2 ≠ -1)) := by exact fun _ => (by omega)
      exact w_ireturn rfl (k (0) _ _ _ H O (SF_refl) (SA_refl) (u0_9) ((eu0_9)) (u3_0) ((eu3_0)) (w4) (ew4) (w5) (ew5) (w6) (ew6) (w7) (ew7) (w9) (ew9) (w10) (ew10) (w11) (ew11) (w13) (ew13) (show inr (0) from q_20) (show 0 ≤ (0) ∧ (0) ≤ 17 by first | exact q_3589 | omega) (show 0 ≤ (u0_9) ∧ (u0_9) ≤ (u0_9) ∧ (u0_9) ≤ (u0_8) from q_3590 h3) (show (u0_9) ≤ (u0_18) from q_1468 h4) (show (IMP ((0) = 0) (((w13)) 2 ≠ -1)) by assumption) (show IMP ((0) = 0) (TI3 (((w13)) 2) ((((D 25 : Nat) : Int))) ((((D 3 : Nat) : Int))) ((((D 17 : Nat) : Int)))) by assumption) (show IMP ((0) = 0) (SLB (((w13)) 2) ((((D 3 : Nat) : Int))) (SL ((w4)) ((u3_1)) ((u3_0)) ((w5)) ((w6)) ((w7)) ((w9)) ((w10)) ((w11)))) by assumption) (show IMP ((0) = 0) (SLB (((w13)) 2) ((((D 17 : Nat) : Int))) (SL ((w18)) ((u17_1)) ((u17_0)) ((w19)) ((w20)) ((w21)) ((w22)) ((w23)) ((w24)))) by assumption) (show IMP ((0) = 0) (ORB (((w13)) 2) ((((D 3 : Nat) : Int))) ((u3_0)) 9) by assumption) (show IMP ((0) = 0) (ORB (((w13)) 2) ((((D 17 : Nat) : Int))) ((u17_0)) 9) by assumption) (show 2 = 0 ∨ ((w13)) 0 = ((w13)) 0 by first | exact q_3817 | omega) (show 2 = 1 ∨ ((w13)) 1 = ((w13)) 1 by first | exact q_3816 | omega) (show 2 = 2 ∨ ((w13)) 2 = ((w13)) 2 by first | exact q_3815 | omega))
    · refine v_lR H (o := 13) rfl rfl rfl rfl rfl (n := n13) (en13) (show 0 ≤ 2 ∧ 2 < n13 from q_3813 h7) (z := ((D 3 : Nat) : Int)) (v := .ref (D 3)) ((congrFun (ew13) (2)).trans b72) (vrf rfl) ?_
      refine Ew_of (pcₚ := 27) (fun _ => x_ifnonnull_t rfl rfl) ?_
      refine Ew_of (pcₚ := 28) (fun _ => x_iconst rfl) ?_
      have hfi0 : IMP (((0) : Int) = 0) (TI3 (((w13)) 2) ((((D 25 : Nat) : Int))) ((((D 3 : Nat) : Int))) ((((D 17 : Nat) : Int)))) := by exact fun _ => (by assumption)
      have hfi1 : IMP (((0) : Int) = 0) (SLB (((w13)) 2) ((((D 3 : Nat) : Int))) (SL ((w4)) ((u3_1)) ((u3_0)) ((w5)) ((w6)) ((w7)) ((w9)) ((w10)) ((w11)))) := by exact fun _ => (by assumption)
      have hfi2 : IMP (((0) : Int) = 0) (SLB (((w13)) 2) ((((D 17 : Nat) : Int))) (SL ((w18)) ((u17_1)) ((u17_0)) ((w19)) ((w20)) ((w21)) ((w22)) ((w23)) ((w24)))) := by exact fun _ => (by assumption)
      have hfi3 : IMP (((0) : Int) = 0) (ORB (((w13)) 2) ((((D 3 : Nat) : Int))) ((u3_0)) 9) := by exact fun _ => (by assumption)
      have hfi4 : IMP (((0) : Int) = 0) (ORB (((w13)) 2) ((((D 17 : Nat) : Int))) ((u17_0)) 9) := by exact fun _ => (by assumption)
      have hfn : (IMP (((0) : Int) = 0) (((w13)) 2 ≠ -1)) := by exact fun _ => (by omega)
      exact w_ireturn rfl (k (0) _ _ _ H O (SF_refl) (SA_refl) (u0_9) ((eu0_9)) (u3_0) ((eu3_0)) (w4) (ew4) (w5) (ew5) (w6) (ew6) (w7) (ew7) (w9) (ew9) (w10) (ew10) (w11) (ew11) (w13) (ew13) (show inr (0) from q_20) (show 0 ≤ (0) ∧ (0) ≤ 17 by first | exact q_3589 | omega) (show 0 ≤ (u0_9) ∧ (u0_9) ≤ (u0_9) ∧ (u0_9) ≤ (u0_8) from q_3590 h3) (show (u0_9) ≤ (u0_18) from q_1468 h4) (show (IMP ((0) = 0) (((w13)) 2 ≠ -1)) by assumption) (show IMP ((0) = 0) (TI3 (((w13)) 2) ((((D 25 : Nat) : Int))) ((((D 3 : Nat) : Int))) ((((D 17 : Nat) : Int)))) by assumption) (show IMP ((0) = 0) (SLB (((w13)) 2) ((((D 3 : Nat) : Int))) (SL ((w4)) ((u3_1)) ((u3_0)) ((w5)) ((w6)) ((w7)) ((w9)) ((w10)) ((w11)))) by assumption) (show IMP ((0) = 0) (SLB (((w13)) 2) ((((D 17 : Nat) : Int))) (SL ((w18)) ((u17_1)) ((u17_0)) ((w19)) ((w20)) ((w21)) ((w22)) ((w23)) ((w24)))) by assumption) (show IMP ((0) = 0) (ORB (((w13)) 2) ((((D 3 : Nat) : Int))) ((u3_0)) 9) by assumption) (show IMP ((0) = 0) (ORB (((w13)) 2) ((((D 17 : Nat) : Int))) ((u17_0)) 9) by assumption) (show 2 = 0 ∨ ((w13)) 0 = ((w13)) 0 by first | exact q_3817 | omega) (show 2 = 1 ∨ ((w13)) 1 = ((w13)) 1 by first | exact q_3816 | omega) (show 2 = 2 ∨ ((w13)) 2 = ((w13)) 2 by first | exact q_3815 | omega))
    · refine v_lR H (o := 13) rfl rfl rfl rfl rfl (n := n13) (en13) (show 0 ≤ 2 ∧ 2 < n13 from q_3813 h7) (z := ((D 17 : Nat) : Int)) (v := .ref (D 17)) ((congrFun (ew13) (2)).trans b72) (vrf rfl) ?_
      refine Ew_of (pcₚ := 27) (fun _ => x_ifnonnull_t rfl rfl) ?_
      refine Ew_of (pcₚ := 28) (fun _ => x_iconst rfl) ?_
      have hfi0 : IMP (((0) : Int) = 0) (TI3 (((w13)) 2) ((((D 25 : Nat) : Int))) ((((D 3 : Nat) : Int))) ((((D 17 : Nat) : Int)))) := by exact fun _ => (by assumption)
      have hfi1 : IMP (((0) : Int) = 0) (SLB (((w13)) 2) ((((D 3 : Nat) : Int))) (SL ((w4)) ((u3_1)) ((u3_0)) ((w5)) ((w6)) ((w7)) ((w9)) ((w10)) ((w11)))) := by exact fun _ => (by assumption)
      have hfi2 : IMP (((0) : Int) = 0) (SLB (((w13)) 2) ((((D 17 : Nat) : Int))) (SL ((w18)) ((u17_1)) ((u17_0)) ((w19)) ((w20)) ((w21)) ((w22)) ((w23)) ((w24)))) := by exact fun _ => (by assumption)
      have hfi3 : IMP (((0) : Int) = 0) (ORB (((w13)) 2) ((((D 3 : Nat) : Int))) ((u3_0)) 9) := by exact fun _ => (by assumption)
      have hfi4 : IMP (((0) : Int) = 0) (ORB (((w13)) 2) ((((D 17 : Nat) : Int))) ((u17_0)) 9) := by exact fun _ => (by assumption)
      have hfn : (IMP (((0) : Int) = 0) (((w13)) 2 ≠ -1)) := by exact fun _ => (by omega)
      exact w_ireturn rfl (k (0) _ _ _ H O (SF_refl) (SA_refl) (u0_9) ((eu0_9)) (u3_0) ((eu3_0)) (w4) (ew4) (w5) (ew5) (w6) (ew6) (w7) (ew7) (w9) (ew9) (w10) (ew10) (w11) (ew11) (w13) (ew13) (show inr (0) from q_20) (show 0 ≤ (0) ∧ (0) ≤ 17 by first | exact q_3589 | omega) (show 0 ≤ (u0_9) ∧ (u0_9) ≤ (u0_9) ∧ (u0_9) ≤ (u0_8) from q_3590 h3) (show (u0_9) ≤ (u0_18) from q_1468 h4) (show (IMP ((0) = 0) (((w13)) 2 ≠ -1)) by assumption) (show IMP ((0) = 0) (TI3 (((w13)) 2) ((((D 25 : Nat) : Int))) ((((D 3 : Nat) : Int))) ((((D 17 : Nat) : Int)))) by assumption) (show IMP ((0) = 0) (SLB (((w13)) 2) ((((D 3 : Nat) : Int))) (SL ((w4)) ((u3_1)) ((u3_0)) ((w5)) ((w6)) ((w7)) ((w9)) ((w10)) ((w11)))) by assumption) (show IMP ((0) = 0) (SLB (((w13)) 2) ((((D 17 : Nat) : Int))) (SL ((w18)) ((u17_1)) ((u17_0)) ((w19)) ((w20)) ((w21)) ((w22)) ((w23)) ((w24)))) by assumption) (show IMP ((0) = 0) (ORB (((w13)) 2) ((((D 3 : Nat) : Int))) ((u3_0)) 9) by assumption) (show IMP ((0) = 0) (ORB (((w13)) 2) ((((D 17 : Nat) : Int))) ((u17_0)) 9) by assumption) (show 2 = 0 ∨ ((w13)) 0 = ((w13)) 0 by first | exact q_3817 | omega) (show 2 = 1 ∨ ((w13)) 1 = ((w13)) 1 by first | exact q_3816 | omega) (show 2 = 2 ∨ ((w13)) 2 = ((w13)) 2 by first | exact q_3815 | omega))
theorem len_V249_c10_vn_oz_I0acls : (V249_c10_vn).length = 16 := by decide +kernel
theorem oz_I0acls_18 : vsub V249_c10_vn V184_Br [3, 1, 9, 4, 5, 6, 7, 8, 10, 11] = true := by decide +kernel
theorem oz_I0acls_19 : vsub V249_c10_vn V232 [0] = true := by decide +kernel
theorem oz_I0acls_20 : vsub V249_c10_vn V168 [3, 9, 4, 5, 6, 7, 8, 10, 11] = true := by decide +kernel
/-- Unpacker.unpackTable: this, this.in, this.ownTables, this.ownTables.0, this.ownTables.0.points, this.ownTables.0.masses, this.ownTables.0.mostBits, this.ownTables.0.starts, this.ownTables.0.used, this.ownTables.0.symbolAt, this.ownTables.0.numberAt, this.ownTables.0.placeOf, this.now, this.now.tables, this.known, this.known.0 -/
theorem C249_c10_vno {σE : rS} {D N : Nat → Nat} {F : hF} {A : hA} {d c s : Nat} {Q : wQ} (H : HW V249_c10_vn σE D N F A) (HT : STC σE) {a2 a3 : Int} (pf1 : HID (F 0 7 = (D 1 : Int))) (pf2 : HID (F 0 2 = (D 2 : Int))) (pf3 : HID (A 2 0 = (D 3 : Int))) (pf4 : HID (F 3 2 = (D 4 : Int))) (pf5 : HID (F 3 3 = (D 5 : Int))) (pf6 : HID (F 3 4 = (D 6 : Int))) (pf7 : HID (F 3 5 = (D 7 : Int))) (pf8 : HID (F 3 6 = (D 8 : Int))) (pf9 : HID (F 3 7 = (D 9 : Int))) (pf10 : HID (F 3 8 = (D 10 : Int))) (pf11 : HID (F 3 9 = (D 11 : Int))) (pf12 : HID (F 0 3 = (D 12 : Int))) (pf13 : HID (F 12 1 = (D 13 : Int))) (pf14 : HID (F 0 0 = (D 14 : Int))) (pf15 : HID (A 14 0 = (D 15 : Int))) (n1 : Int) (en1 : HID ((N 1 : Int) = n1)) (n2 : Int) (en2 : HID ((N 2 : Int) = n2)) (n4 : Int) (en4 : HID ((N 4 : Int) = n4)) (n5 : Int) (en5 : HID ((N 5 : Int) = n5)) (n6 : Int) (en6 : HID ((N 6 : Int) = n6)) (n7 : Int) (en7 : HID ((N 7 : Int) = n7)) (n8 : Int) (en8 : HID ((N 8 : Int) = n8)) (n9 : Int) (en9 : HID ((N 9 : Int) = n9)) (n10 : Int) (en10 : HID ((N 10 : Int) = n10)) (n11 : Int) (en11 : HID ((N 11 : Int) = n11)) (n13 : Int) (en13 : HID ((N 13 : Int) = n13)) (n14 : Int) (en14 : HID ((N 14 : Int) = n14)) (u0_8 : Int) (eu0_8 : HID (F 0 8 = u0_8)) (u0_9 : Int) (eu0_9 : HID (F 0 9 = u0_9)) (u0_18 : Int) (eu0_18 : HID (F 0 18 = u0_18)) (u3_0 : Int) (eu3_0 : HID (F 3 0 = u3_0)) (u3_1 : Int) (eu3_1 : HID (F 3 1 = u3_1)) (w4 : Int → Int) (ew4 : A 4 = w4) (w5 : Int → Int) (ew5 : A 5 = w5) (w6 : Int → Int) (ew6 : A 6 = w6) (w7 : Int → Int) (ew7 : A 7 = w7) (w9 : Int → Int) (ew9 : A 9 = w9) (w10 : Int → Int) (ew10 : A 10 = w10) (w11 : Int → Int) (ew11 : A 11 = w11) (w13 : Int → Int) (ew13 : A 13 = w13) (h0 : inr (0)) (h1 : inr (a2)) (h2 : inr (a3)) (h3 : 0 ≤ (u0_9) ∧ (u0_9) ≤ (u0_8) ∧ (u0_8) ≤ (n1) ∧ (n1) ≤ 65536) (h4 : (u0_9) ≤ (u0_18) ∧ (u0_18) ≤ (u0_8)) (h5 : 0 ≤ (a2) ∧ (a2) ≤ 3) (h6 : SHZD ((n4)) ((n5)) ((n6)) ((n7)) ((n8)) ((n9)) ((n10)) ((n11)) ((u3_1)) 36 512) (h7 : (n13) = 3 ∧ (n14) = 3 ∧ (n2) = 3) (h8 : TI2 (((w13)) 0) ((((D 15 : Nat) : Int))) ((((D 3 : Nat) : Int)))) (h9 : SLB (((w13)) 0) ((((D 3 : Nat) : Int))) (SL ((w4)) ((u3_1)) ((u3_0)) ((w5)) ((w6)) ((w7)) ((w9)) ((w10)) ((w11)))) (h10 : ORB (((w13)) 0) ((((D 3 : Nat) : Int))) ((u3_0)) 9) (k : ∀ (z : Int) (σ : rS) (Fₚ : hF) (Aₚ : hA), HW V249_c10_vn σ D N Fₚ Aₚ → OUT (V249_c10_vn).length D N σE c s D N σ c s → SF [(0, 9), (0, 21), (3, 0), (3, 10), (3, 11), (3, 12)] F Fₚ → SA [4, 5, 6, 7, 8, 9, 10, 11, 13] A Aₚ → ∀ y0_9 : Int, Fₚ 0 9 = y0_9 → ∀ y3_0 : Int, Fₚ 3 0 = y3_0 → ∀ v4 : Int → Int, Aₚ 4 = v4 → ∀ v5 : Int → Int, Aₚ 5 = v5 → ∀ v6 : Int → Int, Aₚ 6 = v6 → ∀ v7 : Int → Int, Aₚ 7 = v7 → ∀ v9 : Int → Int, Aₚ 9 = v9 → ∀ v10 : Int → Int, Aₚ 10 = v10 → ∀ v11 : Int → Int, Aₚ 11 = v11 → ∀ v13 : Int → Int, Aₚ 13 = v13 → (inr (z)) → (0 ≤ (z) ∧ (z) ≤ 17) → (0 ≤ (y0_9) ∧ (u0_9) ≤ (y0_9) ∧ (y0_9) ≤ (u0_8)) → ((y0_9) ≤ (u0_18)) → ((IMP ((z) = 0) (((v13)) 0 ≠ -1))) → (IMP ((z) = 0) (TI2 (((v13)) 0) ((((D 15 : Nat) : Int))) ((((D 3 : Nat) : Int))))) → (IMP ((z) = 0) (SLB (((v13)) 0) ((((D 3 : Nat) : Int))) (SL ((v4)) ((u3_1)) ((y3_0)) ((v5)) ((v6)) ((v7)) ((v9)) ((v10)) ((v11))))) → (IMP ((z) = 0) (ORB (((v13)) 0) ((((D 3 : Nat) : Int))) ((y3_0)) 9)) → (0 = 0 ∨ ((v13)) 0 = ((w13)) 0) → (0 = 1 ∨ ((v13)) 1 = ((w13)) 1) → (0 = 2 ∨ ((v13)) 2 = ((w13)) 2) → Q (some (I z)) σ c s) : Ew 249 (d + 2) 0 (rargs 0 [.ref (D 0), I 0, I a2, I a3]) [] σE c s Q := by
  have O := OUT_refl (n := (V249_c10_vn).length) (D := D) (N := N) (σ := σE) (c := c) (s := s)
  have HE := H
  have r1 : (-2147483648 : Int) ≤ u0_8 ∧ u0_8 ≤ 2147483647 := rngE (show (-2147483648 : Int) ≤ F 0 8 ∧ F 0 8 ≤ 2147483647 from H.krg 0 8 (ltn len_V249_c10_vn_oz_I0acls rfl)) (show F 0 8 = u0_8 from (eu0_8))
  have r2 : (-2147483648 : Int) ≤ u0_9 ∧ u0_9 ≤ 2147483647 := rngE (show (-2147483648 : Int) ≤ F 0 9 ∧ F 0 9 ≤ 2147483647 from H.krg 0 9 (ltn len_V249_c10_vn_oz_I0acls rfl)) (show F 0 9 = u0_9 from (eu0_9))
  have r3 : (-2147483648 : Int) ≤ u0_18 ∧ u0_18 ≤ 2147483647 := rngE (show (-2147483648 : Int) ≤ F 0 18 ∧ F 0 18 ≤ 2147483647 from H.krg 0 18 (ltn len_V249_c10_vn_oz_I0acls rfl)) (show F 0 18 = u0_18 from (eu0_18))
  have r4 : (-2147483648 : Int) ≤ u3_0 ∧ u3_0 ≤ 2147483647 := rngE (show (-2147483648 : Int) ≤ F 3 0 ∧ F 3 0 ≤ 2147483647 from H.krg 3 0 (ltn len_V249_c10_vn_oz_I0acls rfl)) (show F 3 0 = u3_0 from (eu3_0))
  have r5 : (-2147483648 : Int) ≤ u3_1 ∧ u3_1 ≤ 2147483647 := rngE (show (-2147483648 : Int) ≤ F 3 1 ∧ F 3 1 ≤ 2147483647 from H.krg 3 1 (ltn len_V249_c10_vn_oz_I0acls rfl)) (show F 3 1 = u3_1 from (eu3_1))
  have r6 : (0 : Int) ≤ n1 ∧ n1 ≤ 1000000 := nleE (H.nle 1 (ltn len_V249_c10_vn_oz_I0acls rfl)) (show (N 1 : Int) = n1 from en1)
  have r7 : (0 : Int) ≤ n2 ∧ n2 ≤ 1000000 := nleE (H.nle 2 (ltn len_V249_c10_vn_oz_I0acls rfl)) (show (N 2 : Int) = n2 from en2)
  have r8 : (0 : Int) ≤ n4 ∧ n4 ≤ 1000000 := nleE (H.nle 4 (ltn len_V249_c10_vn_oz_I0acls rfl)) (show (N 4 : Int) = n4 from en4)
  have r9 : (0 : Int) ≤ n5 ∧ n5 ≤ 1000000 := nleE (H.nle 5 (ltn len_V249_c10_vn_oz_I0acls rfl)) (show (N 5 : Int) = n5 from en5)
  have r10 : (0 : Int) ≤ n6 ∧ n6 ≤ 1000000 := nleE (H.nle 6 (ltn len_V249_c10_vn_oz_I0acls rfl)) (show (N 6 : Int) = n6 from en6)
  have r11 : (0 : Int) ≤ n7 ∧ n7 ≤ 1000000 := nleE (H.nle 7 (ltn len_V249_c10_vn_oz_I0acls rfl)) (show (N 7 : Int) = n7 from en7)
  have r12 : (0 : Int) ≤ n8 ∧ n8 ≤ 1000000 := nleE (H.nle 8 (ltn len_V249_c10_vn_oz_I0acls rfl)) (show (N 8 : Int) = n8 from en8)
  have r13 : (0 : Int) ≤ n9 ∧ n9 ≤ 1000000 := nleE (H.nle 9 (ltn len_V249_c10_vn_oz_I0acls rfl)) (show (N 9 : Int) = n9 from en9)
  have r14 : (0 : Int) ≤ n10 ∧ n10 ≤ 1000000 := nleE (H.nle 10 (ltn len_V249_c10_vn_oz_I0acls rfl)) (show (N 10 : Int) = n10 from en10)
  have r15 : (0 : Int) ≤ n11 ∧ n11 ≤ 1000000 := nleE (H.nle 11 (ltn len_V249_c10_vn_oz_I0acls rfl)) (show (N 11 : Int) = n11 from en11)
  have r16 : (0 : Int) ≤ n13 ∧ n13 ≤ 1000000 := nleE (H.nle 13 (ltn len_V249_c10_vn_oz_I0acls rfl)) (show (N 13 : Int) = n13 from en13)
  have r17 : (0 : Int) ≤ n14 ∧ n14 ≤ 1000000 := nleE (H.nle 14 (ltn len_V249_c10_vn_oz_I0acls rfl)) (show (N 14 : Int) = n14 from en14)
  have hszq : SHZD ((n4)) ((n5)) ((n6)) ((n7)) ((n8)) ((n9)) ((n10)) ((n11)) ((u3_1)) 36 512 := h6
  unfold SHZD at hszq
  have hnea : (((D 15 : Nat) : Int)) ≠ (((D 3 : Nat) : Int)) := dneZ H 15 3 rfl rfl rfl
  refine Ew_of (pcₚ := 1) (fun _ => x_iload_n rfl rfl) ?_
  refine Ew_of (pcₚ := 2) (fun _ => x_iconst rfl) ?_
  refine w_icmpne (t := 29) rfl rfl (show inr (a2) from h1) (show inr (3) from q_66) (fun b18 => ?_) (fun b18 => ?_)
  · refine Ew_of (pcₚ := 30) (fun _ => x_aload_n rfl rfl) ?_
    refine v_g H (o := 0) (v := .ref (D 12)) rfl rfl rfl rfl rfl (vrf (pf12)) ?_
    refine v_g H (o := 12) (v := .ref (D 13)) rfl rfl rfl rfl rfl (vrf (pf13)) ?_
    refine Ew_of (pcₚ := 37) (fun _ => x_iload_n rfl rfl) ?_
    refine Ew_of (pcₚ := 38) (fun _ => x_iload_n rfl rfl) ?_
    refine w_ifne (t := 50) rfl rfl (show inr (a2) from h1) (fun b19 => ?_) (fun b19 => ?_)
    · refine Ew_of (pcₚ := 51) (fun _ => x_aload_n rfl rfl) ?_
      refine v_g H (o := 0) (v := .ref (D 2)) rfl rfl rfl rfl rfl (vrf (pf2)) ?_
      refine Ew_of (pcₚ := 55) (fun _ => x_iload_n rfl rfl) ?_
      have hs_ := upd1_s (a := ((w13))) (j := 0) (z := (((D 3 : Nat) : Int)))
      have hu0_ : (0 : Int) = 0 ∨ upd1 ((w13)) 0 ((((D 3 : Nat) : Int))) 0 = ((w13)) 0 := by by_cases w : (0 : Int) = 0; exact .inl (by omega); exact .inr (upd1_o w)
      have hu1_ : (0 : Int) = 1 ∨ upd1 ((w13)) 0 ((((D 3 : Nat) : Int))) 1 = ((w13)) 1 := by by_cases w : (1 : Int) = 0; exact .inl (by omega); exact .inr (upd1_o w)
      have hu2_ : (0 : Int) = 2 ∨ upd1 ((w13)) 0 ((((D 3 : Nat) : Int))) 2 = ((w13)) 2 := by by_cases w : (2 : Int) = 0; exact .inl (by omega); exact .inr (upd1_o w)
      refine v_lR H (o := 2) rfl rfl rfl rfl rfl (n := n2) (en2) (show 0 ≤ 0 ∧ 0 < n2 from q_3792 h7 r7) (z := ((D 3 : Nat) : Int)) (v := .ref (D 3)) (pf3) (vrf rfl) ?_
      refine v_sR H (o := 13) (z := ((D 3 : Nat) : Int)) (v := .ref (D 3)) rfl rfl rfl rfl rfl (n := n13) (en13) (show 0 ≤ 0 ∧ 0 < n13 from q_3793 h7 r16) (show (-1 : Int) ≤ ((D 3 : Nat) : Int) by omega) (vrf rfl) (rkinR H (x := 3) rfl rfl rfl) (fun σ H Oₚ => ?_)
      have O := OUT_trans O Oₚ
      have cAu20 : SA oz_I0aclsl_0 A (updA A 13 (0) (((D 3 : Nat) : Int))) := SA_upd (SA_refl) rfl
      have mAu20 := SAm_of cAu20 oz_I0acls_4
      refine Ew_of (pcₚ := 58) (fun _ => x_iload_n rfl rfl) ?_
      refine Ew_of (pcₚ := 59) (fun _ => x_iconst rfl) ?_
      refine w_icmpne (t := 138) rfl rfl (show inr (a2) from h1) (show inr (1) from q_23) (fun b21 => ?_) (fun b21 => ?_)
      · refine Ew_of (pcₚ := 139) (fun _ => x_iload_n rfl rfl) ?_
        refine Ew_of (pcₚ := 140) (fun _ => x_iconst rfl) ?_
        refine w_icmpne (t := 190) rfl rfl (show inr (a2) from h1) (show inr (2) from q_55) (fun b22 => ?_) (fun b22 => ?_)
        · refine Ew_of (pcₚ := 191) (fun _ => x_iconst rfl) ?_
          have hfi0 : IMP (((0) : Int) = 0) (TI2 (((upd1 (w13) (0) (((D 3 : Nat) : Int)))) 0) ((((D 15 : Nat) : Int))) ((((D 3 : Nat) : Int)))) := by exact fun q => absurd q (by omega)
          have hfi1 : IMP (((0) : Int) = 0) (SLB (((upd1 (w13) (0) (((D 3 : Nat) : Int)))) 0) ((((D 3 : Nat) : Int))) (SL ((w4)) ((u3_1)) ((u3_0)) ((w5)) ((w6)) ((w7)) ((w9)) ((w10)) ((w11)))) := by exact fun q => absurd q (by omega)
          have hfi2 : IMP (((0) : Int) = 0) (ORB (((upd1 (w13) (0) (((D 3 : Nat) : Int)))) 0) ((((D 3 : Nat) : Int))) ((u3_0)) 9) := by exact fun q => absurd q (by omega)
          have hfn : (IMP (((0) : Int) = 0) (((upd1 (w13) (0) (((D 3 : Nat) : Int)))) 0 ≠ -1)) := by exact fun q => absurd q (by omega)
          exact w_ireturn rfl (k (0) _ _ _ H O (SF_refl) (cAu20) (u0_9) ((eu0_9)) (u3_0) ((eu3_0)) (w4) (ew4) (w5) (ew5) (w6) (ew6) (w7) (ew7) (w9) (ew9) (w10) (ew10) (w11) (ew11) (upd1 (w13) (0) (((D 3 : Nat) : Int))) (congrArg (fun q => upd1 q (0) (((D 3 : Nat) : Int))) (ew13)) (show inr (0) from h0) (show 0 ≤ (0) ∧ (0) ≤ 17 by first | exact q_3589 | omega) (show 0 ≤ (u0_9) ∧ (u0_9) ≤ (u0_9) ∧ (u0_9) ≤ (u0_8) from q_3590 h3) (show (u0_9) ≤ (u0_18) from q_1468 h4) (show (IMP ((0) = 0) (((upd1 (w13) (0) (((D 3 : Nat) : Int)))) 0 ≠ -1)) by assumption) (show IMP ((0) = 0) (TI2 (((upd1 (w13) (0) (((D 3 : Nat) : Int)))) 0) ((((D 15 : Nat) : Int))) ((((D 3 : Nat) : Int)))) by assumption) (show IMP ((0) = 0) (SLB (((upd1 (w13) (0) (((D 3 : Nat) : Int)))) 0) ((((D 3 : Nat) : Int))) (SL ((w4)) ((u3_1)) ((u3_0)) ((w5)) ((w6)) ((w7)) ((w9)) ((w10)) ((w11)))) by assumption) (show IMP ((0) = 0) (ORB (((upd1 (w13) (0) (((D 3 : Nat) : Int)))) 0) ((((D 3 : Nat) : Int))) ((u3_0)) 9) by assumption) (show 0 = 0 ∨ ((upd1 (w13) (0) (((D 3 : Nat) : Int)))) 0 = ((w13)) 0 by first | exact q_3497 | omega) (show 0 = 1 ∨ ((upd1 (w13) (0) (((D 3 : Nat) : Int)))) 1 = ((w13)) 1 by omega) (show 0 = 2 ∨ ((upd1 (w13) (0) (((D 3 : Nat) : Int)))) 2 = ((w13)) 2 by omega))
        · refine Ew_of (pcₚ := 144) (fun _ => x_aload_n rfl rfl) ?_
          refine v_g H (o := 0) (v := .ref (D 2)) rfl rfl rfl rfl rfl (vrf (pf2)) ?_
          refine Ew_of (pcₚ := 148) (fun _ => x_iload_n rfl rfl) ?_
          refine v_lR H (o := 2) rfl rfl rfl rfl rfl (n := n2) (en2) (show 0 ≤ 0 ∧ 0 < n2 from q_3792 h7 r7) (z := ((D 3 : Nat) : Int)) (v := .ref (D 3)) ((mAu20 2 rfl 0).trans (pf3)) (vrf rfl) ?_
          refine Ew_of (pcₚ := 150) (fun _ => x_aload_n rfl rfl) ?_
          refine v_g H (o := 0) (v := .ref (D 1)) rfl rfl rfl rfl rfl (vrf (pf1)) ?_
          refine Ew_of (pcₚ := 154) (fun _ => x_aload_n rfl rfl) ?_
          refine v_g H (o := 0) (v := I (u0_9)) rfl rfl rfl rfl rfl (congrArg (fun z : Int => I z) ((eu0_9) : F 0 9 = u0_9)) ?_
          refine Ew_of (pcₚ := 158) (fun _ => x_aload_n rfl rfl) ?_
          refine v_g H (o := 0) (v := I (u0_18)) rfl rfl rfl rfl rfl (congrArg (fun z : Int => I z) ((eu0_18) : F 0 18 = u0_18)) ?_
          refine Ew_of (pcₚ := 164) (fun _ => x_getstatic rfl) ?_
          refine Ew_of (pcₚ := 165) (fun _ => x_iload_n rfl rfl) ?_
          refine v_stI (STC_out HT HE O) (b := 2) (n := 3) rfl rfl rfl rfl (show 0 ≤ 0 ∧ 0 < 3 from q_3495) (fun v23 ev23 qv23 => ?_)
          have hgo := ev23
          have hgv : ((v23) : Int) = 9 := by rw [← hgo]; rfl
          have hpg : p2 ((v23)) = 512 := by rw [hgv]; decide
          refine v_inv H (o := 3) rfl rfl rfl rfl rfl rfl (by rfl) (C184_Br (D := puc 26643665609639073069400579 D) (N := puc 26643665609639073069400579 N) (HW_subc H oz_I0acls_18 oz_I0acls_6) (pf9) (pf4) (pf5) (pf6) (pf7) (pf8) (pf10) (pf11) (n1) (en1) (n9) (en9) (n4) (en4) (n5) (en5) (n6) (en6) (n7) (en7) (n8) (en8) (n10) (en10) (n11) (en11) (u3_0) ((eu3_0)) (u3_1) ((eu3_1)) (w9) (ew9) (w4) (ew4) (w5) (ew5) (w6) (ew6) (w7) (ew7) (w10) (ew10) (w11) (ew11) (show inr (u0_9) from q_3585 h3) (show inr (u0_18) from q_22 r3) (show inr (v23) from qv23) (show 0 ≤ (u0_9) ∧ (u0_9) ≤ (u0_18) ∧ (u0_18) ≤ (n1) ∧ (n1) ≤ 65536 from q_3794 h3 h4) (show 5 ≤ (v23) ∧ (v23) ≤ 9 ∧ p2 (v23) ≤ (n9) by omega) (show (n4) = (u3_1) ∧ (n5) = (u3_1) ∧ (n6) = (u3_1) ∧ (n7) = (u3_1) ∧ (n8) = (u3_1) ∧ (n10) = (n9) ∧ (n11) = (n9) ∧ 1 ≤ (u3_1) ∧ (u3_1) ≤ 64 by omega) (fun z24 σ24 F24ₚ A24ₚ Hₚ Oₚ hS24 hA24 y24_0_0 (ey24_0_0 : HID _) w24_2 ew24_2 w24_3 ew24_3 w24_4 ew24_4 w24_5 ew24_5 w24_6 ew24_6 w24_8 ew24_8 w24_9 ew24_9 (pq24_0 : HID _) pz24_0 pz24_1 pz24_2 pz24_3 => ⟨rfl, ?_⟩))
          refine v_backc (c := c) (s := s) H oz_I0acls_18 oz_I0acls_6 Hₚ Oₚ (fun F24 A24 H Oₚ eF24 eA24 => ?_)
          have O := OUT_trans O Oₚ
          -- Share.hear
          have cF24 : SF oz_I0aclsl_1 F F24 := SF_trans (SF_refl) (SF_gluc (ι := oz_I0aclsl_2) oz_I0acls_6 hS24 eF24 (by decide +kernel)) (any_sub (lₚ := [(3, 0), (3, 10), (3, 11), (3, 12)]) (by decide +kernel))
          have mF24 := SFm_of cF24 oz_I0acls_5
          have cA24 : SA oz_I0aclsl_0 A A24 := SA_trans (cAu20) (SA_gluc (ι := oz_I0aclsl_2) oz_I0acls_6 hA24 eA24 (by decide +kernel)) (any_subA (lₚ := [4, 5, 6, 7, 8, 9, 10, 11]) (by decide +kernel))
          have mA24 := SAm_of cA24 oz_I0acls_4
          have pl24_0 : HID (F24 3 10 = (D 1 : Int)) := (eF24 3 10).trans (pq24_0)
          have r25 : (-2147483648 : Int) ≤ y24_0_0 ∧ y24_0_0 ≤ 2147483647 := rngE (show (-2147483648 : Int) ≤ F24 3 0 ∧ F24 3 0 ≤ 2147483647 from H.krg 3 0 (ltn len_V249_c10_vn_oz_I0acls rfl)) (show F24 3 0 = y24_0_0 from ((eF24 3 0).trans ey24_0_0))
          refine Ew_of (pcₚ := 171) (fun _ => x_istore rfl) ?_
          refine Ew_of (pcₚ := 173) (fun _ => x_iload rfl rk_s) ?_
          refine w_ifge (t := 184) rfl rfl (show inr (z24) from pz24_0) (fun b26 => ?_) (fun b26 => ?_)
          · have hown := Or.resolve_left pz24_3 (by omega)
            have hord : (y24_0_0) ≤ 9 := q_3795 b26 hgv pz24_2 r25
            refine Ew_of (pcₚ := 185) (fun _ => x_aload_n rfl (rk_o (rfl) rfl rfl)) ?_
            refine Ew_of (pcₚ := 187) (fun _ => x_iload rfl rk_s) ?_
            refine v_p H (o := 0) (z := z24) (v := I (z24)) rfl rfl rfl rfl rfl rfl rfl rfl (show (-2147483648 : Int) ≤ z24 ∧ z24 ≤ 2147483647 from q_3761 b26 pz24_0) (fun σ H Oₚ => ?_)
            have O := OUT_trans O Oₚ
            have cFu27 : SF oz_I0aclsl_1 F (updF F24 0 9 (z24)) := SF_upd (cF24) rfl
            have mFu27 := SFm_of cFu27 oz_I0acls_5
            refine Ew_of (pcₚ := 191) (fun _ => x_iconst rfl) ?_
            have hfi0 : IMP (((0) : Int) = 0) (TI2 (((upd1 (w13) (0) (((D 3 : Nat) : Int)))) 0) ((((D 15 : Nat) : Int))) ((((D 3 : Nat) : Int)))) := by exact fun _ => .inr (by omega)
            have hfi1 : IMP (((0) : Int) = 0) (SLB (((upd1 (w13) (0) (((D 3 : Nat) : Int)))) 0) ((((D 3 : Nat) : Int))) (SL ((w24_3)) ((u3_1)) ((y24_0_0)) ((w24_4)) ((w24_5)) ((w24_6)) ((w24_2)) ((w24_8)) ((w24_9)))) := by exact fun _ => .inr hown
            have hfi2 : IMP (((0) : Int) = 0) (ORB (((upd1 (w13) (0) (((D 3 : Nat) : Int)))) 0) ((((D 3 : Nat) : Int))) ((y24_0_0)) 9) := by exact fun _ => .inr (by omega)
            have hfn : (IMP (((0) : Int) = 0) (((upd1 (w13) (0) (((D 3 : Nat) : Int)))) 0 ≠ -1)) := by exact fun _ => (by omega)
            exact w_ireturn rfl (k (0) _ _ _ H O (cFu27) (cA24) (z24) (rfl) (y24_0_0) (((eF24 3 0).trans ey24_0_0)) (w24_3) ((eA24 4).trans ew24_3) (w24_4) ((eA24 5).trans ew24_4) (w24_5) ((eA24 6).trans ew24_5) (w24_6) ((eA24 7).trans ew24_6) (w24_2) ((eA24 9).trans ew24_2) (w24_8) ((eA24 10).trans ew24_8) (w24_9) ((eA24 11).trans ew24_9) (upd1 (w13) (0) (((D 3 : Nat) : Int))) (((show A24 13 = (updA A 13 (0) (((D 3 : Nat) : Int))) 13 from (eA24 13))).trans (congrArg (fun q => upd1 q (0) (((D 3 : Nat) : Int))) (ew13))) (show inr (0) from h0) (show 0 ≤ (0) ∧ (0) ≤ 17 by first | exact q_3589 | omega) (show 0 ≤ (z24) ∧ (u0_9) ≤ (z24) ∧ (z24) ≤ (u0_8) from q_3797 b26 h3 h4 pz24_1 pz24_3) (show (z24) ≤ (u0_18) from q_3796 b26 pz24_1 pz24_3 r3) (show (IMP ((0) = 0) (((upd1 (w13) (0) (((D 3 : Nat) : Int)))) 0 ≠ -1)) by assumption) (show IMP ((0) = 0) (TI2 (((upd1 (w13) (0) (((D 3 : Nat) : Int)))) 0) ((((D 15 : Nat) : Int))) ((((D 3 : Nat) : Int)))) by assumption) (show IMP ((0) = 0) (SLB (((upd1 (w13) (0) (((D 3 : Nat) : Int)))) 0) ((((D 3 : Nat) : Int))) (SL ((w24_3)) ((u3_1)) ((y24_0_0)) ((w24_4)) ((w24_5)) ((w24_6)) ((w24_2)) ((w24_8)) ((w24_9)))) by assumption) (show IMP ((0) = 0) (ORB (((upd1 (w13) (0) (((D 3 : Nat) : Int)))) 0) ((((D 3 : Nat) : Int))) ((y24_0_0)) 9) by assumption) (show 0 = 0 ∨ ((upd1 (w13) (0) (((D 3 : Nat) : Int)))) 0 = ((w13)) 0 by first | exact q_3497 | omega) (show 0 = 1 ∨ ((upd1 (w13) (0) (((D 3 : Nat) : Int)))) 1 = ((w13)) 1 by omega) (show 0 = 2 ∨ ((upd1 (w13) (0) (((D 3 : Nat) : Int)))) 2 = ((w13)) 2 by omega))
          · refine Ew_of (pcₚ := 177) (fun _ => x_aload_n rfl (rk_o (rfl) rfl rfl)) ?_
            refine Ew_of (pcₚ := 179) (fun _ => x_bipush (z := 16) rfl (by decide)) ?_
            refine Ew_of (pcₚ := 180) (fun _ => x_iload_n rfl (rk_o (rfl) rfl rfl)) ?_
            have r28 : (-2147483648 : Int) ≤ F 0 21 ∧ F 0 21 ≤ 2147483647 := rngE (show (-2147483648 : Int) ≤ F24 0 21 ∧ F24 0 21 ≤ 2147483647 from H.krg 0 21 (ltn len_V249_c10_vn_oz_I0acls rfl)) (show F24 0 21 = F 0 21 from ((show F24 0 21 = F 0 21 from (eF24 0 21))))
            refine v_inv H (o := 0) rfl rfl rfl rfl rfl rfl (by rfl) (C232 (D := puc 0 D) (N := puc 0 N) (HW_subc H oz_I0acls_19 oz_I0acls_7) (F 0 21) (((show F24 0 21 = F 0 21 from (eF24 0 21)))) (show inr (16) from q_86) (show inr (a3) from h2) (fun z29 σ29 F29ₚ A29ₚ Hₚ Oₚ hS29 hA29 y29_0_21 (ey29_0_21 : HID _) pz29_0 pz29_1 pz29_2 => ⟨rfl, ?_⟩))
            refine v_backc (c := c) (s := s) H oz_I0acls_19 oz_I0acls_7 Hₚ Oₚ (fun F29 A29 H Oₚ eF29 eA29 => ?_)
            have O := OUT_trans O Oₚ
            -- Unpacker.fail
            have cF29 : SF oz_I0aclsl_1 F F29 := SF_trans (cF24) (SF_gluc (ι := oz_I0aclsl_3) oz_I0acls_7 hS29 eF29 (by decide +kernel)) (any_sub (lₚ := [(0, 21)]) (by decide +kernel))
            have mF29 := SFm_of cF29 oz_I0acls_5
            have cA29 : SA oz_I0aclsl_0 A A29 := SA_trans (cA24) (SA_gluc (ι := oz_I0aclsl_3) oz_I0acls_7 hA29 eA29 (by decide +kernel)) (any_subA (lₚ := []) (by decide +kernel))
            have mA29 := SAm_of cA29 oz_I0acls_4
            have r30 : (-2147483648 : Int) ≤ y29_0_21 ∧ y29_0_21 ≤ 2147483647 := rngE (show (-2147483648 : Int) ≤ F29 0 21 ∧ F29 0 21 ≤ 2147483647 from H.krg 0 21 (ltn len_V249_c10_vn_oz_I0acls rfl)) (show F29 0 21 = y29_0_21 from ((eF29 0 21).trans ey29_0_21))
            have hfi0 : IMP (((z29) : Int) = 0) (TI2 (((upd1 (w13) (0) (((D 3 : Nat) : Int)))) 0) ((((D 15 : Nat) : Int))) ((((D 3 : Nat) : Int)))) := by exact fun q => absurd q (by omega)
            have hfi1 : IMP (((z29) : Int) = 0) (SLB (((upd1 (w13) (0) (((D 3 : Nat) : Int)))) 0) ((((D 3 : Nat) : Int))) (SL ((w24_3)) ((u3_1)) ((y24_0_0)) ((w24_4)) ((w24_5)) ((w24_6)) ((w24_2)) ((w24_8)) ((w24_9)))) := by exact fun q => absurd q (by omega)
            have hfi2 : IMP (((z29) : Int) = 0) (ORB (((upd1 (w13) (0) (((D 3 : Nat) : Int)))) 0) ((((D 3 : Nat) : Int))) ((y24_0_0)) 9) := by exact fun q => absurd q (by omega)
            have hfn : (IMP (((z29) : Int) = 0) (((upd1 (w13) (0) (((D 3 : Nat) : Int)))) 0 ≠ -1)) := by exact fun q => absurd q (by omega)
            exact w_ireturn rfl (k (z29) _ _ _ H O (cF29) (cA29) (u0_9) (((((show F29 0 9 = F24 0 9 from (eF29 0 9).trans (hS29 0 9 rfl))).trans ((show F24 0 9 = F 0 9 from (eF24 0 9)))).trans (eu0_9))) (y24_0_0) ((((show F29 3 0 = F24 3 0 from (eF29 3 0))).trans ((eF24 3 0).trans ey24_0_0))) (w24_3) (((show A29 4 = A24 4 from (eA29 4))).trans ((eA24 4).trans ew24_3)) (w24_4) (((show A29 5 = A24 5 from (eA29 5))).trans ((eA24 5).trans ew24_4)) (w24_5) (((show A29 6 = A24 6 from (eA29 6))).trans ((eA24 6).trans ew24_5)) (w24_6) (((show A29 7 = A24 7 from (eA29 7))).trans ((eA24 7).trans ew24_6)) (w24_2) (((show A29 9 = A24 9 from (eA29 9))).trans ((eA24 9).trans ew24_2)) (w24_8) (((show A29 10 = A24 10 from (eA29 10))).trans ((eA24 10).trans ew24_8)) (w24_9) (((show A29 11 = A24 11 from (eA29 11))).trans ((eA24 11).trans ew24_9)) (upd1 (w13) (0) (((D 3 : Nat) : Int))) (((show A29 13 = A24 13 from (eA29 13))).trans (((show A24 13 = (updA A 13 (0) (((D 3 : Nat) : Int))) 13 from (eA24 13))).trans (congrArg (fun q => upd1 q (0) (((D 3 : Nat) : Int))) (ew13)))) (show inr (z29) from pz29_0) (show 0 ≤ (z29) ∧ (z29) ≤ 17 from q_3798 pz29_1) (show 0 ≤ (u0_9) ∧ (u0_9) ≤ (u0_9) ∧ (u0_9) ≤ (u0_8) from q_3590 h3) (show (u0_9) ≤ (u0_18) from q_1468 h4) (show (IMP ((z29) = 0) (((upd1 (w13) (0) (((D 3 : Nat) : Int)))) 0 ≠ -1)) from hfn) (show IMP ((z29) = 0) (TI2 (((upd1 (w13) (0) (((D 3 : Nat) : Int)))) 0) ((((D 15 : Nat) : Int))) ((((D 3 : Nat) : Int)))) from hfi0) (show IMP ((z29) = 0) (SLB (((upd1 (w13) (0) (((D 3 : Nat) : Int)))) 0) ((((D 3 : Nat) : Int))) (SL ((w24_3)) ((u3_1)) ((y24_0_0)) ((w24_4)) ((w24_5)) ((w24_6)) ((w24_2)) ((w24_8)) ((w24_9)))) from hfi1) (show IMP ((z29) = 0) (ORB (((upd1 (w13) (0) (((D 3 : Nat) : Int)))) 0) ((((D 3 : Nat) : Int))) ((y24_0_0)) 9) from hfi2) (show 0 = 0 ∨ ((upd1 (w13) (0) (((D 3 : Nat) : Int)))) 0 = ((w13)) 0 by first | exact q_3497 | omega) (show 0 = 1 ∨ ((upd1 (w13) (0) (((D 3 : Nat) : Int)))) 1 = ((w13)) 1 by omega) (show 0 = 2 ∨ ((upd1 (w13) (0) (((D 3 : Nat) : Int)))) 2 = ((w13)) 2 by omega))
      · refine Ew_of (pcₚ := 63) (fun _ => x_aload_n rfl rfl) ?_
        refine v_g H (o := 0) (v := I (u0_9)) rfl rfl rfl rfl rfl (congrArg (fun z : Int => I z) ((eu0_9) : F 0 9 = u0_9)) ?_
        refine Ew_of (pcₚ := 67) (fun _ => x_aload_n rfl rfl) ?_
        refine v_g H (o := 0) (v := I (u0_18)) rfl rfl rfl rfl rfl (congrArg (fun z : Int => I z) ((eu0_18) : F 0 18 = u0_18)) ?_
        refine w_icmplt (t := 84) rfl rfl (show inr (u0_9) from q_3585 h3) (show inr (u0_18) from q_22 r3) (fun b31 => ?_) (fun b31 => ?_)
        · refine Ew_of (pcₚ := 85) (fun _ => x_aload_n rfl rfl) ?_
          refine v_g H (o := 0) (v := .ref (D 1)) rfl rfl rfl rfl rfl (vrf (pf1)) ?_
          refine Ew_of (pcₚ := 89) (fun _ => x_aload_n rfl rfl) ?_
          refine Ew_of (pcₚ := 90) (fun _ => x_dup rfl rfl) ?_
          refine v_g H (o := 0) (v := I (u0_9)) rfl rfl rfl rfl rfl (congrArg (fun z : Int => I z) ((eu0_9) : F 0 9 = u0_9)) ?_
          refine Ew_of (pcₚ := 94) (fun _ => x_dup_x1 rfl rfl) ?_
          refine Ew_of (pcₚ := 95) (fun _ => x_iconst rfl) ?_
          refine w_iadd rfl ?_
          refine v_p H (o := 0) (z := (u0_9 + 1)) (v := I ((u0_9 + 1))) rfl rfl rfl rfl rfl rfl rfl rfl (show (-2147483648 : Int) ≤ (u0_9 + 1) ∧ (u0_9 + 1) ≤ 2147483647 from q_3799 h3) (fun σ H Oₚ => ?_)
          have O := OUT_trans O Oₚ
          have cFu32 : SF oz_I0aclsl_1 F (updF F 0 9 ((u0_9 + 1))) := SF_upd (SF_refl) rfl
          have mFu32 := SFm_of cFu32 oz_I0acls_5
          refine v_lB H (o := 1) rfl rfl rfl rfl (n := n1) (en1) (show 0 ≤ u0_9 ∧ u0_9 < n1 from q_3635 b31 h3 h4) (fun v33 ev33 qv33 => ?_)
          have ev33 : (A 1) (u0_9) = v33 := (congrFun (funext (mAu20 1 rfl)) (u0_9)).symm.trans ev33
          refine Ew_of (pcₚ := 103) (fun _ => x_sipush (z := 255) rfl (by decide)) ?_
          refine w_iand rfl (show inr (v33) from q_2536 qv33) (show inr (255) from q_36) (fun z34 gz34 gaz34 gbz34 => ?_)
          refine Ew_of (pcₚ := 106) (fun _ => x_istore rfl) ?_
          refine Ew_of (pcₚ := 108) (fun _ => x_iload rfl rk_s) ?_
          refine Ew_of (pcₚ := 111) (fun _ => x_getstatic rfl) ?_
          refine Ew_of (pcₚ := 112) (fun _ => x_iload_n rfl (rk_o (rfl) rfl rfl)) ?_
          refine v_stI (STC_out HT HE O) (b := 3) (n := 3) rfl rfl rfl rfl (show 0 ≤ 0 ∧ 0 < 3 from q_3495) (fun v35 ev35 qv35 => ?_)
          have hlv := ev35
          have hlw : ((v35) : Int) = 35 := by rw [← hlv]; rfl
          refine w_icmple (t := 124) rfl rfl (show inr (z34) from gz34) (show inr (v35) from qv35) (fun b36 => ?_) (fun b36 => ?_)
          · refine Ew_of (pcₚ := 125) (fun _ => x_aload_n rfl (rk_o (rfl) rfl rfl)) ?_
            refine v_g H (o := 0) (v := .ref (D 2)) rfl rfl rfl rfl rfl (vrf ((mFu32 0 2 rfl).trans (pf2))) ?_
            refine Ew_of (pcₚ := 129) (fun _ => x_iload_n rfl (rk_o (rfl) rfl rfl)) ?_
            refine v_lR H (o := 2) rfl rfl rfl rfl rfl (n := n2) (en2) (show 0 ≤ 0 ∧ 0 < n2 from q_3792 h7 r7) (z := ((D 3 : Nat) : Int)) (v := .ref (D 3)) ((mAu20 2 rfl 0).trans (pf3)) (vrf rfl) ?_
            refine Ew_of (pcₚ := 132) (fun _ => x_iload rfl rk_s) ?_
            refine v_inv H (o := 3) rfl rfl rfl rfl rfl rfl (by rfl) (C168 (D := puc 52038409393826314588675 D) (N := puc 52038409393826314588675 N) (HW_subc H oz_I0acls_20 oz_I0acls_8) ((mFu32 3 7 rfl).trans (pf9)) ((mFu32 3 2 rfl).trans (pf4)) ((mFu32 3 3 rfl).trans (pf5)) ((mFu32 3 4 rfl).trans (pf6)) ((mFu32 3 5 rfl).trans (pf7)) ((mFu32 3 6 rfl).trans (pf8)) ((mFu32 3 8 rfl).trans (pf10)) ((mFu32 3 9 rfl).trans (pf11)) (n9) (en9) (n4) (en4) (n5) (en5) (n6) (en6) (n7) (en7) (n8) (en8) (n10) (en10) (n11) (en11) (u3_0) ((eu3_0)) (u3_1) (((mFu32 3 1 rfl).trans (eu3_1))) (w9) (ew9) (w4) (ew4) (w5) (ew5) (w6) (ew6) (w7) (ew7) (w10) (ew10) (w11) (ew11) (show inr (z34) from gz34) (show (n9) ≥ 1 by omega) (show (n4) = (u3_1) ∧ (n5) = (u3_1) ∧ (n6) = (u3_1) ∧ (n7) = (u3_1) ∧ (n8) = (u3_1) ∧ (n10) = (n9) ∧ (n11) = (n9) ∧ 1 ≤ (u3_1) ∧ (u3_1) ≤ 64 by omega) (show 0 ≤ (z34) ∧ (z34) < ((u3_1)) by omega) (fun σ37 F37ₚ A37ₚ Hₚ Oₚ hS37 hA37 y37_0_0 (ey37_0_0 : HID _) w37_1 ew37_1 w37_2 ew37_2 w37_3 ew37_3 w37_4 ew37_4 w37_5 ew37_5 w37_7 ew37_7 w37_8 ew37_8 pz37_0 pz37_1 => ⟨rfl, ?_⟩))
            refine v_backc (c := c) (s := s) H oz_I0acls_20 oz_I0acls_8 Hₚ Oₚ (fun F37 A37 H Oₚ eF37 eA37 => ?_)
            have O := OUT_trans O Oₚ
            -- Share.becomeAlone
            have cF37 : SF oz_I0aclsl_1 F F37 := SF_trans (cFu32) (SF_gluc (ι := oz_I0aclsl_4) oz_I0acls_8 hS37 eF37 (by decide +kernel)) (any_sub (lₚ := [(3, 0)]) (by decide +kernel))
            have mF37 := SFm_of cF37 oz_I0acls_5
            have cA37 : SA oz_I0aclsl_0 A A37 := SA_trans (cAu20) (SA_gluc (ι := oz_I0aclsl_4) oz_I0acls_8 hA37 eA37 (by decide +kernel)) (any_subA (lₚ := [4, 5, 6, 7, 8, 9, 10, 11]) (by decide +kernel))
            have mA37 := SAm_of cA37 oz_I0acls_4
            have r38 : (-2147483648 : Int) ≤ y37_0_0 ∧ y37_0_0 ≤ 2147483647 := rngE (show (-2147483648 : Int) ≤ F37 3 0 ∧ F37 3 0 ≤ 2147483647 from H.krg 3 0 (ltn len_V249_c10_vn_oz_I0acls rfl)) (show F37 3 0 = y37_0_0 from ((eF37 3 0).trans ey37_0_0))
            have hown := pz37_0
            refine Ew_of (pcₚ := 190) (fun _ => x_goto rfl rfl) ?_
            refine Ew_of (pcₚ := 191) (fun _ => x_iconst rfl) ?_
            have hfi0 : IMP (((0) : Int) = 0) (TI2 (((upd1 (w13) (0) (((D 3 : Nat) : Int)))) 0) ((((D 15 : Nat) : Int))) ((((D 3 : Nat) : Int)))) := by exact fun _ => .inr (by omega)
            have hfi1 : IMP (((0) : Int) = 0) (SLB (((upd1 (w13) (0) (((D 3 : Nat) : Int)))) 0) ((((D 3 : Nat) : Int))) (SL ((w37_2)) ((u3_1)) ((y37_0_0)) ((w37_3)) ((w37_4)) ((w37_5)) ((w37_1)) ((w37_7)) ((w37_8)))) := by exact fun _ => .inr hown
            have hfi2 : IMP (((0) : Int) = 0) (ORB (((upd1 (w13) (0) (((D 3 : Nat) : Int)))) 0) ((((D 3 : Nat) : Int))) ((y37_0_0)) 9) := by exact fun _ => .inr (by omega)
            have hfn : (IMP (((0) : Int) = 0) (((upd1 (w13) (0) (((D 3 : Nat) : Int)))) 0 ≠ -1)) := by exact fun _ => (by omega)
            exact w_ireturn rfl (k (0) _ _ _ H O (cF37) (cA37) ((u0_9 + 1)) (((show F37 0 9 = (updF F 0 9 ((u0_9 + 1))) 0 9 from (eF37 0 9)))) (y37_0_0) (((eF37 3 0).trans ey37_0_0)) (w37_2) ((eA37 4).trans ew37_2) (w37_3) ((eA37 5).trans ew37_3) (w37_4) ((eA37 6).trans ew37_4) (w37_5) ((eA37 7).trans ew37_5) (w37_1) ((eA37 9).trans ew37_1) (w37_7) ((eA37 10).trans ew37_7) (w37_8) ((eA37 11).trans ew37_8) (upd1 (w13) (0) (((D 3 : Nat) : Int))) (((show A37 13 = (updA A 13 (0) (((D 3 : Nat) : Int))) 13 from (eA37 13))).trans (congrArg (fun q => upd1 q (0) (((D 3 : Nat) : Int))) (ew13))) (show inr (0) from h0) (show 0 ≤ (0) ∧ (0) ≤ 17 by first | exact q_3589 | omega) (show 0 ≤ ((u0_9 + 1)) ∧ (u0_9) ≤ ((u0_9 + 1)) ∧ ((u0_9 + 1)) ≤ (u0_8) from q_3800 b31 h3 h4) (show ((u0_9 + 1)) ≤ (u0_18) from q_1328 b31) (show (IMP ((0) = 0) (((upd1 (w13) (0) (((D 3 : Nat) : Int)))) 0 ≠ -1)) by assumption) (show IMP ((0) = 0) (TI2 (((upd1 (w13) (0) (((D 3 : Nat) : Int)))) 0) ((((D 15 : Nat) : Int))) ((((D 3 : Nat) : Int)))) by assumption) (show IMP ((0) = 0) (SLB (((upd1 (w13) (0) (((D 3 : Nat) : Int)))) 0) ((((D 3 : Nat) : Int))) (SL ((w37_2)) ((u3_1)) ((y37_0_0)) ((w37_3)) ((w37_4)) ((w37_5)) ((w37_1)) ((w37_7)) ((w37_8)))) by assumption) (show IMP ((0) = 0) (ORB (((upd1 (w13) (0) (((D 3 : Nat) : Int)))) 0) ((((D 3 : Nat) : Int))) ((y37_0_0)) 9) by assumption) (show 0 = 0 ∨ ((upd1 (w13) (0) (((D 3 : Nat) : Int)))) 0 = ((w13)) 0 by first | exact q_3497 | omega) (show 0 = 1 ∨ ((upd1 (w13) (0) (((D 3 : Nat) : Int)))) 1 = ((w13)) 1 by omega) (show 0 = 2 ∨ ((upd1 (w13) (0) (((D 3 : Nat) : Int)))) 2 = ((w13)) 2 by omega))
          · refine Ew_of (pcₚ := 117) (fun _ => x_aload_n rfl (rk_o (rfl) rfl rfl)) ?_
            refine Ew_of (pcₚ := 119) (fun _ => x_bipush (z := 16) rfl (by decide)) ?_
            refine Ew_of (pcₚ := 120) (fun _ => x_iload_n rfl (rk_o (rfl) rfl rfl)) ?_
            have r39 : (-2147483648 : Int) ≤ F 0 21 ∧ F 0 21 ≤ 2147483647 := H.krg 0 21 (ltn len_V249_c10_vn_oz_I0acls rfl)
            refine v_inv H (o := 0) rfl rfl rfl rfl rfl rfl (by rfl) (C232 (D := puc 0 D) (N := puc 0 N) (HW_subc H oz_I0acls_19 oz_I0acls_7) (F 0 21) (rfl) (show inr (16) from q_86) (show inr (a3) from h2) (fun z40 σ40 F40ₚ A40ₚ Hₚ Oₚ hS40 hA40 y40_0_21 (ey40_0_21 : HID _) pz40_0 pz40_1 pz40_2 => ⟨rfl, ?_⟩))
            refine v_backc (c := c) (s := s) H oz_I0acls_19 oz_I0acls_7 Hₚ Oₚ (fun F40 A40 H Oₚ eF40 eA40 => ?_)
            have O := OUT_trans O Oₚ
            -- Unpacker.fail
            have cF40 : SF oz_I0aclsl_1 F F40 := SF_trans (cFu32) (SF_gluc (ι := oz_I0aclsl_3) oz_I0acls_7 hS40 eF40 (by decide +kernel)) (any_sub (lₚ := [(0, 21)]) (by decide +kernel))
            have mF40 := SFm_of cF40 oz_I0acls_5
            have cA40 : SA oz_I0aclsl_0 A A40 := SA_trans (cAu20) (SA_gluc (ι := oz_I0aclsl_3) oz_I0acls_7 hA40 eA40 (by decide +kernel)) (any_subA (lₚ := []) (by decide +kernel))
            have mA40 := SAm_of cA40 oz_I0acls_4
            have r41 : (-2147483648 : Int) ≤ y40_0_21 ∧ y40_0_21 ≤ 2147483647 := rngE (show (-2147483648 : Int) ≤ F40 0 21 ∧ F40 0 21 ≤ 2147483647 from H.krg 0 21 (ltn len_V249_c10_vn_oz_I0acls rfl)) (show F40 0 21 = y40_0_21 from ((eF40 0 21).trans ey40_0_21))
            have hfi0 : IMP (((z40) : Int) = 0) (TI2 (((upd1 (w13) (0) (((D 3 : Nat) : Int)))) 0) ((((D 15 : Nat) : Int))) ((((D 3 : Nat) : Int)))) := by exact fun q => absurd q (by omega)
            have hfi1 : IMP (((z40) : Int) = 0) (SLB (((upd1 (w13) (0) (((D 3 : Nat) : Int)))) 0) ((((D 3 : Nat) : Int))) (SL ((w4)) ((u3_1)) ((u3_0)) ((w5)) ((w6)) ((w7)) ((w9)) ((w10)) ((w11)))) := by exact fun q => absurd q (by omega)
            have hfi2 : IMP (((z40) : Int) = 0) (ORB (((upd1 (w13) (0) (((D 3 : Nat) : Int)))) 0) ((((D 3 : Nat) : Int))) ((u3_0)) 9) := by exact fun q => absurd q (by omega)
            have hfn : (IMP (((z40) : Int) = 0) (((upd1 (w13) (0) (((D 3 : Nat) : Int)))) 0 ≠ -1)) := by exact fun q => absurd q (by omega)
            exact w_ireturn rfl (k (z40) _ _ _ H O (cF40) (cA40) ((u0_9 + 1)) (((show F40 0 9 = (updF F 0 9 ((u0_9 + 1))) 0 9 from (eF40 0 9).trans (hS40 0 9 rfl)))) (u3_0) ((((show F40 3 0 = (updF F 0 9 ((u0_9 + 1))) 3 0 from (eF40 3 0))).trans (eu3_0))) (w4) (((show A40 4 = (updA A 13 (0) (((D 3 : Nat) : Int))) 4 from (eA40 4))).trans (ew4)) (w5) (((show A40 5 = (updA A 13 (0) (((D 3 : Nat) : Int))) 5 from (eA40 5))).trans (ew5)) (w6) (((show A40 6 = (updA A 13 (0) (((D 3 : Nat) : Int))) 6 from (eA40 6))).trans (ew6)) (w7) (((show A40 7 = (updA A 13 (0) (((D 3 : Nat) : Int))) 7 from (eA40 7))).trans (ew7)) (w9) (((show A40 9 = (updA A 13 (0) (((D 3 : Nat) : Int))) 9 from (eA40 9))).trans (ew9)) (w10) (((show A40 10 = (updA A 13 (0) (((D 3 : Nat) : Int))) 10 from (eA40 10))).trans (ew10)) (w11) (((show A40 11 = (updA A 13 (0) (((D 3 : Nat) : Int))) 11 from (eA40 11))).trans (ew11)) (upd1 (w13) (0) (((D 3 : Nat) : Int))) (((show A40 13 = (updA A 13 (0) (((D 3 : Nat) : Int))) 13 from (eA40 13))).trans (congrArg (fun q => upd1 q (0) (((D 3 : Nat) : Int))) (ew13))) (show inr (z40) from pz40_0) (show 0 ≤ (z40) ∧ (z40) ≤ 17 from q_3798 pz40_1) (show 0 ≤ ((u0_9 + 1)) ∧ (u0_9) ≤ ((u0_9 + 1)) ∧ ((u0_9 + 1)) ≤ (u0_8) from q_3800 b31 h3 h4) (show ((u0_9 + 1)) ≤ (u0_18) from q_1328 b31) (show (IMP ((z40) = 0) (((upd1 (w13) (0) (((D 3 : Nat) : Int)))) 0 ≠ -1)) from hfn) (show IMP ((z40) = 0) (TI2 (((upd1 (w13) (0) (((D 3 : Nat) : Int)))) 0) ((((D 15 : Nat) : Int))) ((((D 3 : Nat) : Int)))) from hfi0) (show IMP ((z40) = 0) (SLB (((upd1 (w13) (0) (((D 3 : Nat) : Int)))) 0) ((((D 3 : Nat) : Int))) (SL ((w4)) ((u3_1)) ((u3_0)) ((w5)) ((w6)) ((w7)) ((w9)) ((w10)) ((w11)))) from hfi1) (show IMP ((z40) = 0) (ORB (((upd1 (w13) (0) (((D 3 : Nat) : Int)))) 0) ((((D 3 : Nat) : Int))) ((u3_0)) 9) from hfi2) (show 0 = 0 ∨ ((upd1 (w13) (0) (((D 3 : Nat) : Int)))) 0 = ((w13)) 0 by first | exact q_3497 | omega) (show 0 = 1 ∨ ((upd1 (w13) (0) (((D 3 : Nat) : Int)))) 1 = ((w13)) 1 by omega) (show 0 = 2 ∨ ((upd1 (w13) (0) (((D 3 : Nat) : Int)))) 2 = ((w13)) 2 by omega))
        · refine Ew_of (pcₚ := 74) (fun _ => x_aload_n rfl rfl) ?_
          refine Ew_of (pcₚ := 76) (fun _ => x_bipush (z := 10) rfl (by decide)) ?_
          refine Ew_of (pcₚ := 77) (fun _ => x_aload_n rfl rfl) ?_
          refine v_g H (o := 0) (v := I (u0_18)) rfl rfl rfl rfl rfl (congrArg (fun z : Int => I z) ((eu0_18) : F 0 18 = u0_18)) ?_
          have r42 : (-2147483648 : Int) ≤ F 0 21 ∧ F 0 21 ≤ 2147483647 := H.krg 0 21 (ltn len_V249_c10_vn_oz_I0acls rfl)
          refine v_inv H (o := 0) rfl rfl rfl rfl rfl rfl (by rfl) (C232 (D := puc 0 D) (N := puc 0 N) (HW_subc H oz_I0acls_19 oz_I0acls_7) (F 0 21) (rfl) (show inr (10) from q_532) (show inr (u0_18) from q_22 r3) (fun z43 σ43 F43ₚ A43ₚ Hₚ Oₚ hS43 hA43 y43_0_21 (ey43_0_21 : HID _) pz43_0 pz43_1 pz43_2 => ⟨rfl, ?_⟩))
          refine v_backc (c := c) (s := s) H oz_I0acls_19 oz_I0acls_7 Hₚ Oₚ (fun F43 A43 H Oₚ eF43 eA43 => ?_)
          have O := OUT_trans O Oₚ
          -- Unpacker.fail
          have cF43 : SF oz_I0aclsl_1 F F43 := SF_trans (SF_refl) (SF_gluc (ι := oz_I0aclsl_3) oz_I0acls_7 hS43 eF43 (by decide +kernel)) (any_sub (lₚ := [(0, 21)]) (by decide +kernel))
          have mF43 := SFm_of cF43 oz_I0acls_5
          have cA43 : SA oz_I0aclsl_0 A A43 := SA_trans (cAu20) (SA_gluc (ι := oz_I0aclsl_3) oz_I0acls_7 hA43 eA43 (by decide +kernel)) (any_subA (lₚ := []) (by decide +kernel))
          have mA43 := SAm_of cA43 oz_I0acls_4
          have r44 : (-2147483648 : Int) ≤ y43_0_21 ∧ y43_0_21 ≤ 2147483647 := rngE (show (-2147483648 : Int) ≤ F43 0 21 ∧ F43 0 21 ≤ 2147483647 from H.krg 0 21 (ltn len_V249_c10_vn_oz_I0acls rfl)) (show F43 0 21 = y43_0_21 from ((eF43 0 21).trans ey43_0_21))
          have hfi0 : IMP (((z43) : Int) = 0) (TI2 (((upd1 (w13) (0) (((D 3 : Nat) : Int)))) 0) ((((D 15 : Nat) : Int))) ((((D 3 : Nat) : Int)))) := by exact fun q => absurd q (by omega)
          have hfi1 : IMP (((z43) : Int) = 0) (SLB (((upd1 (w13) (0) (((D 3 : Nat) : Int)))) 0) ((((D 3 : Nat) : Int))) (SL ((w4)) ((u3_1)) ((u3_0)) ((w5)) ((w6)) ((w7)) ((w9)) ((w10)) ((w11)))) := by exact fun q => absurd q (by omega)
          have hfi2 : IMP (((z43) : Int) = 0) (ORB (((upd1 (w13) (0) (((D 3 : Nat) : Int)))) 0) ((((D 3 : Nat) : Int))) ((u3_0)) 9) := by exact fun q => absurd q (by omega)
          have hfn : (IMP (((z43) : Int) = 0) (((upd1 (w13) (0) (((D 3 : Nat) : Int)))) 0 ≠ -1)) := by exact fun q => absurd q (by omega)
          exact w_ireturn rfl (k (z43) _ _ _ H O (cF43) (cA43) (u0_9) ((((show F43 0 9 = F 0 9 from (eF43 0 9).trans (hS43 0 9 rfl))).trans (eu0_9))) (u3_0) ((((show F43 3 0 = F 3 0 from (eF43 3 0))).trans (eu3_0))) (w4) (((show A43 4 = (updA A 13 (0) (((D 3 : Nat) : Int))) 4 from (eA43 4))).trans (ew4)) (w5) (((show A43 5 = (updA A 13 (0) (((D 3 : Nat) : Int))) 5 from (eA43 5))).trans (ew5)) (w6) (((show A43 6 = (updA A 13 (0) (((D 3 : Nat) : Int))) 6 from (eA43 6))).trans (ew6)) (w7) (((show A43 7 = (updA A 13 (0) (((D 3 : Nat) : Int))) 7 from (eA43 7))).trans (ew7)) (w9) (((show A43 9 = (updA A 13 (0) (((D 3 : Nat) : Int))) 9 from (eA43 9))).trans (ew9)) (w10) (((show A43 10 = (updA A 13 (0) (((D 3 : Nat) : Int))) 10 from (eA43 10))).trans (ew10)) (w11) (((show A43 11 = (updA A 13 (0) (((D 3 : Nat) : Int))) 11 from (eA43 11))).trans (ew11)) (upd1 (w13) (0) (((D 3 : Nat) : Int))) (((show A43 13 = (updA A 13 (0) (((D 3 : Nat) : Int))) 13 from (eA43 13))).trans (congrArg (fun q => upd1 q (0) (((D 3 : Nat) : Int))) (ew13))) (show inr (z43) from pz43_0) (show 0 ≤ (z43) ∧ (z43) ≤ 17 from q_3651 pz43_1) (show 0 ≤ (u0_9) ∧ (u0_9) ≤ (u0_9) ∧ (u0_9) ≤ (u0_8) from q_3590 h3) (show (u0_9) ≤ (u0_18) from q_1468 h4) (show (IMP ((z43) = 0) (((upd1 (w13) (0) (((D 3 : Nat) : Int)))) 0 ≠ -1)) from hfn) (show IMP ((z43) = 0) (TI2 (((upd1 (w13) (0) (((D 3 : Nat) : Int)))) 0) ((((D 15 : Nat) : Int))) ((((D 3 : Nat) : Int)))) from hfi0) (show IMP ((z43) = 0) (SLB (((upd1 (w13) (0) (((D 3 : Nat) : Int)))) 0) ((((D 3 : Nat) : Int))) (SL ((w4)) ((u3_1)) ((u3_0)) ((w5)) ((w6)) ((w7)) ((w9)) ((w10)) ((w11)))) from hfi1) (show IMP ((z43) = 0) (ORB (((upd1 (w13) (0) (((D 3 : Nat) : Int)))) 0) ((((D 3 : Nat) : Int))) ((u3_0)) 9) from hfi2) (show 0 = 0 ∨ ((upd1 (w13) (0) (((D 3 : Nat) : Int)))) 0 = ((w13)) 0 by first | exact q_3497 | omega) (show 0 = 1 ∨ ((upd1 (w13) (0) (((D 3 : Nat) : Int)))) 1 = ((w13)) 1 by omega) (show 0 = 2 ∨ ((upd1 (w13) (0) (((D 3 : Nat) : Int)))) 2 = ((w13)) 2 by omega))
    · refine Ew_of (pcₚ := 42) (fun _ => x_aload_n rfl rfl) ?_
      refine v_g H (o := 0) (v := .ref (D 14)) rfl rfl rfl rfl rfl (vrf (pf14)) ?_
      refine Ew_of (pcₚ := 46) (fun _ => x_iload_n rfl rfl) ?_
      refine v_lR H (o := 14) rfl rfl rfl rfl rfl (n := n14) (en14) (show 0 ≤ 0 ∧ 0 < n14 from q_3801 h7 r17) (z := ((D 15 : Nat) : Int)) (v := .ref (D 15)) (pf15) (vrf rfl) ?_
      have hs_ := upd1_s (a := ((w13))) (j := 0) (z := (((D 15 : Nat) : Int)))
      have hu0_ : (0 : Int) = 0 ∨ upd1 ((w13)) 0 ((((D 15 : Nat) : Int))) 0 = ((w13)) 0 := by by_cases w : (0 : Int) = 0; exact .inl (by omega); exact .inr (upd1_o w)
      have hu1_ : (0 : Int) = 1 ∨ upd1 ((w13)) 0 ((((D 15 : Nat) : Int))) 1 = ((w13)) 1 := by by_cases w : (1 : Int) = 0; exact .inl (by omega); exact .inr (upd1_o w)
      have hu2_ : (0 : Int) = 2 ∨ upd1 ((w13)) 0 ((((D 15 : Nat) : Int))) 2 = ((w13)) 2 := by by_cases w : (2 : Int) = 0; exact .inl (by omega); exact .inr (upd1_o w)
      refine Ew_of (pcₚ := 56) (fun _ => x_goto rfl rfl) ?_
      refine v_sR H (o := 13) (z := ((D 15 : Nat) : Int)) (v := .ref (D 15)) rfl rfl rfl rfl rfl (n := n13) (en13) (show 0 ≤ 0 ∧ 0 < n13 from q_3793 h7 r16) (show (-1 : Int) ≤ ((D 15 : Nat) : Int) by omega) (vrf rfl) (rkinR H (x := 15) rfl rfl rfl) (fun σ H Oₚ => ?_)
      have O := OUT_trans O Oₚ
      have cAu45 : SA oz_I0aclsl_0 A (updA A 13 (0) (((D 15 : Nat) : Int))) := SA_upd (SA_refl) rfl
      have mAu45 := SAm_of cAu45 oz_I0acls_4
      refine Ew_of (pcₚ := 58) (fun _ => x_iload_n rfl rfl) ?_
      refine Ew_of (pcₚ := 59) (fun _ => x_iconst rfl) ?_
      refine w_icmpne (t := 138) rfl rfl (show inr (a2) from h1) (show inr (1) from q_23) (fun b46 => ?_) (fun b46 => ?_)
      · refine Ew_of (pcₚ := 139) (fun _ => x_iload_n rfl rfl) ?_
        refine Ew_of (pcₚ := 140) (fun _ => x_iconst rfl) ?_
        refine w_icmpne (t := 190) rfl rfl (show inr (a2) from h1) (show inr (2) from q_55) (fun b47 => ?_) (fun b47 => ?_)
        · refine Ew_of (pcₚ := 191) (fun _ => x_iconst rfl) ?_
          have hfi0 : IMP (((0) : Int) = 0) (TI2 (((upd1 (w13) (0) (((D 15 : Nat) : Int)))) 0) ((((D 15 : Nat) : Int))) ((((D 3 : Nat) : Int)))) := by exact fun _ => .inr (by omega)
          have hfi1 : IMP (((0) : Int) = 0) (SLB (((upd1 (w13) (0) (((D 15 : Nat) : Int)))) 0) ((((D 3 : Nat) : Int))) (SL ((w4)) ((u3_1)) ((u3_0)) ((w5)) ((w6)) ((w7)) ((w9)) ((w10)) ((w11)))) := by exact fun _ => .inl (by omega)
          have hfi2 : IMP (((0) : Int) = 0) (ORB (((upd1 (w13) (0) (((D 15 : Nat) : Int)))) 0) ((((D 3 : Nat) : Int))) ((u3_0)) 9) := by exact fun _ => .inl (by omega)
          have hfn : (IMP (((0) : Int) = 0) (((upd1 (w13) (0) (((D 15 : Nat) : Int)))) 0 ≠ -1)) := by exact fun _ => (by omega)
          exact w_ireturn rfl (k (0) _ _ _ H O (SF_refl) (cAu45) (u0_9) ((eu0_9)) (u3_0) ((eu3_0)) (w4) (ew4) (w5) (ew5) (w6) (ew6) (w7) (ew7) (w9) (ew9) (w10) (ew10) (w11) (ew11) (upd1 (w13) (0) (((D 15 : Nat) : Int))) (congrArg (fun q => upd1 q (0) (((D 15 : Nat) : Int))) (ew13)) (show inr (0) from h0) (show 0 ≤ (0) ∧ (0) ≤ 17 by first | exact q_3589 | omega) (show 0 ≤ (u0_9) ∧ (u0_9) ≤ (u0_9) ∧ (u0_9) ≤ (u0_8) from q_3590 h3) (show (u0_9) ≤ (u0_18) from q_1468 h4) (show (IMP ((0) = 0) (((upd1 (w13) (0) (((D 15 : Nat) : Int)))) 0 ≠ -1)) by assumption) (show IMP ((0) = 0) (TI2 (((upd1 (w13) (0) (((D 15 : Nat) : Int)))) 0) ((((D 15 : Nat) : Int))) ((((D 3 : Nat) : Int)))) by assumption) (show IMP ((0) = 0) (SLB (((upd1 (w13) (0) (((D 15 : Nat) : Int)))) 0) ((((D 3 : Nat) : Int))) (SL ((w4)) ((u3_1)) ((u3_0)) ((w5)) ((w6)) ((w7)) ((w9)) ((w10)) ((w11)))) by assumption) (show IMP ((0) = 0) (ORB (((upd1 (w13) (0) (((D 15 : Nat) : Int)))) 0) ((((D 3 : Nat) : Int))) ((u3_0)) 9) by assumption) (show 0 = 0 ∨ ((upd1 (w13) (0) (((D 15 : Nat) : Int)))) 0 = ((w13)) 0 by first | exact q_3497 | omega) (show 0 = 1 ∨ ((upd1 (w13) (0) (((D 15 : Nat) : Int)))) 1 = ((w13)) 1 by omega) (show 0 = 2 ∨ ((upd1 (w13) (0) (((D 15 : Nat) : Int)))) 2 = ((w13)) 2 by omega))
        · refine Ew_of (pcₚ := 144) (fun _ => x_aload_n rfl rfl) ?_
          refine v_g H (o := 0) (v := .ref (D 2)) rfl rfl rfl rfl rfl (vrf (pf2)) ?_
          refine Ew_of (pcₚ := 148) (fun _ => x_iload_n rfl rfl) ?_
          refine v_lR H (o := 2) rfl rfl rfl rfl rfl (n := n2) (en2) (show 0 ≤ 0 ∧ 0 < n2 from q_3792 h7 r7) (z := ((D 3 : Nat) : Int)) (v := .ref (D 3)) ((mAu45 2 rfl 0).trans (pf3)) (vrf rfl) ?_
          refine Ew_of (pcₚ := 150) (fun _ => x_aload_n rfl rfl) ?_
          refine v_g H (o := 0) (v := .ref (D 1)) rfl rfl rfl rfl rfl (vrf (pf1)) ?_
          refine Ew_of (pcₚ := 154) (fun _ => x_aload_n rfl rfl) ?_
          refine v_g H (o := 0) (v := I (u0_9)) rfl rfl rfl rfl rfl (congrArg (fun z : Int => I z) ((eu0_9) : F 0 9 = u0_9)) ?_
          refine Ew_of (pcₚ := 158) (fun _ => x_aload_n rfl rfl) ?_
          refine v_g H (o := 0) (v := I (u0_18)) rfl rfl rfl rfl rfl (congrArg (fun z : Int => I z) ((eu0_18) : F 0 18 = u0_18)) ?_
          refine Ew_of (pcₚ := 164) (fun _ => x_getstatic rfl) ?_
          refine Ew_of (pcₚ := 165) (fun _ => x_iload_n rfl rfl) ?_
          refine v_stI (STC_out HT HE O) (b := 2) (n := 3) rfl rfl rfl rfl (show 0 ≤ 0 ∧ 0 < 3 from q_3495) (fun v48 ev48 qv48 => ?_)
          have hgo := ev48
          have hgv : ((v48) : Int) = 9 := by rw [← hgo]; rfl
          have hpg : p2 ((v48)) = 512 := by rw [hgv]; decide
          refine v_inv H (o := 3) rfl rfl rfl rfl rfl rfl (by rfl) (C184_Br (D := puc 26643665609639073069400579 D) (N := puc 26643665609639073069400579 N) (HW_subc H oz_I0acls_18 oz_I0acls_6) (pf9) (pf4) (pf5) (pf6) (pf7) (pf8) (pf10) (pf11) (n1) (en1) (n9) (en9) (n4) (en4) (n5) (en5) (n6) (en6) (n7) (en7) (n8) (en8) (n10) (en10) (n11) (en11) (u3_0) ((eu3_0)) (u3_1) ((eu3_1)) (w9) (ew9) (w4) (ew4) (w5) (ew5) (w6) (ew6) (w7) (ew7) (w10) (ew10) (w11) (ew11) (show inr (u0_9) from q_3585 h3) (show inr (u0_18) from q_22 r3) (show inr (v48) from qv48) (show 0 ≤ (u0_9) ∧ (u0_9) ≤ (u0_18) ∧ (u0_18) ≤ (n1) ∧ (n1) ≤ 65536 from q_3794 h3 h4) (show 5 ≤ (v48) ∧ (v48) ≤ 9 ∧ p2 (v48) ≤ (n9) by omega) (show (n4) = (u3_1) ∧ (n5) = (u3_1) ∧ (n6) = (u3_1) ∧ (n7) = (u3_1) ∧ (n8) = (u3_1) ∧ (n10) = (n9) ∧ (n11) = (n9) ∧ 1 ≤ (u3_1) ∧ (u3_1) ≤ 64 by omega) (fun z49 σ49 F49ₚ A49ₚ Hₚ Oₚ hS49 hA49 y49_0_0 (ey49_0_0 : HID _) w49_2 ew49_2 w49_3 ew49_3 w49_4 ew49_4 w49_5 ew49_5 w49_6 ew49_6 w49_8 ew49_8 w49_9 ew49_9 (pq49_0 : HID _) pz49_0 pz49_1 pz49_2 pz49_3 => ⟨rfl, ?_⟩))
          refine v_backc (c := c) (s := s) H oz_I0acls_18 oz_I0acls_6 Hₚ Oₚ (fun F49 A49 H Oₚ eF49 eA49 => ?_)
          have O := OUT_trans O Oₚ
          -- Share.hear
          have cF49 : SF oz_I0aclsl_1 F F49 := SF_trans (SF_refl) (SF_gluc (ι := oz_I0aclsl_2) oz_I0acls_6 hS49 eF49 (by decide +kernel)) (any_sub (lₚ := [(3, 0), (3, 10), (3, 11), (3, 12)]) (by decide +kernel))
          have mF49 := SFm_of cF49 oz_I0acls_5
          have cA49 : SA oz_I0aclsl_0 A A49 := SA_trans (cAu45) (SA_gluc (ι := oz_I0aclsl_2) oz_I0acls_6 hA49 eA49 (by decide +kernel)) (any_subA (lₚ := [4, 5, 6, 7, 8, 9, 10, 11]) (by decide +kernel))
          have mA49 := SAm_of cA49 oz_I0acls_4
          have pl49_0 : HID (F49 3 10 = (D 1 : Int)) := (eF49 3 10).trans (pq49_0)
          have r50 : (-2147483648 : Int) ≤ y49_0_0 ∧ y49_0_0 ≤ 2147483647 := rngE (show (-2147483648 : Int) ≤ F49 3 0 ∧ F49 3 0 ≤ 2147483647 from H.krg 3 0 (ltn len_V249_c10_vn_oz_I0acls rfl)) (show F49 3 0 = y49_0_0 from ((eF49 3 0).trans ey49_0_0))
          refine Ew_of (pcₚ := 171) (fun _ => x_istore rfl) ?_
          refine Ew_of (pcₚ := 173) (fun _ => x_iload rfl rk_s) ?_
          refine w_ifge (t := 184) rfl rfl (show inr (z49) from pz49_0) (fun b51 => ?_) (fun b51 => ?_)
          · have hown := Or.resolve_left pz49_3 (by omega)
            have hord : (y49_0_0) ≤ 9 := q_3795 b51 hgv pz49_2 r50
            refine Ew_of (pcₚ := 185) (fun _ => x_aload_n rfl (rk_o (rfl) rfl rfl)) ?_
            refine Ew_of (pcₚ := 187) (fun _ => x_iload rfl rk_s) ?_
            refine v_p H (o := 0) (z := z49) (v := I (z49)) rfl rfl rfl rfl rfl rfl rfl rfl (show (-2147483648 : Int) ≤ z49 ∧ z49 ≤ 2147483647 from q_3761 b51 pz49_0) (fun σ H Oₚ => ?_)
            have O := OUT_trans O Oₚ
            have cFu52 : SF oz_I0aclsl_1 F (updF F49 0 9 (z49)) := SF_upd (cF49) rfl
            have mFu52 := SFm_of cFu52 oz_I0acls_5
            refine Ew_of (pcₚ := 191) (fun _ => x_iconst rfl) ?_
            have hfi0 : IMP (((0) : Int) = 0) (TI2 (((upd1 (w13) (0) (((D 15 : Nat) : Int)))) 0) ((((D 15 : Nat) : Int))) ((((D 3 : Nat) : Int)))) := by exact fun q => absurd q (by omega)
            have hfi1 : IMP (((0) : Int) = 0) (SLB (((upd1 (w13) (0) (((D 15 : Nat) : Int)))) 0) ((((D 3 : Nat) : Int))) (SL ((w49_3)) ((u3_1)) ((y49_0_0)) ((w49_4)) ((w49_5)) ((w49_6)) ((w49_2)) ((w49_8)) ((w49_9)))) := by exact fun q => absurd q (by omega)
            have hfi2 : IMP (((0) : Int) = 0) (ORB (((upd1 (w13) (0) (((D 15 : Nat) : Int)))) 0) ((((D 3 : Nat) : Int))) ((y49_0_0)) 9) := by exact fun q => absurd q (by omega)
            have hfn : (IMP (((0) : Int) = 0) (((upd1 (w13) (0) (((D 15 : Nat) : Int)))) 0 ≠ -1)) := by exact fun q => absurd q (by omega)
            exact w_ireturn rfl (k (0) _ _ _ H O (cFu52) (cA49) (z49) (rfl) (y49_0_0) (((eF49 3 0).trans ey49_0_0)) (w49_3) ((eA49 4).trans ew49_3) (w49_4) ((eA49 5).trans ew49_4) (w49_5) ((eA49 6).trans ew49_5) (w49_6) ((eA49 7).trans ew49_6) (w49_2) ((eA49 9).trans ew49_2) (w49_8) ((eA49 10).trans ew49_8) (w49_9) ((eA49 11).trans ew49_9) (upd1 (w13) (0) (((D 15 : Nat) : Int))) (((show A49 13 = (updA A 13 (0) (((D 15 : Nat) : Int))) 13 from (eA49 13))).trans (congrArg (fun q => upd1 q (0) (((D 15 : Nat) : Int))) (ew13))) (show inr (0) from h0) (show 0 ≤ (0) ∧ (0) ≤ 17 by first | exact q_3589 | omega) (show 0 ≤ (z49) ∧ (u0_9) ≤ (z49) ∧ (z49) ≤ (u0_8) from q_3797 b51 h3 h4 pz49_1 pz49_3) (show (z49) ≤ (u0_18) from q_3796 b51 pz49_1 pz49_3 r3) (show (IMP ((0) = 0) (((upd1 (w13) (0) (((D 15 : Nat) : Int)))) 0 ≠ -1)) by assumption) (show IMP ((0) = 0) (TI2 (((upd1 (w13) (0) (((D 15 : Nat) : Int)))) 0) ((((D 15 : Nat) : Int))) ((((D 3 : Nat) : Int)))) by assumption) (show IMP ((0) = 0) (SLB (((upd1 (w13) (0) (((D 15 : Nat) : Int)))) 0) ((((D 3 : Nat) : Int))) (SL ((w49_3)) ((u3_1)) ((y49_0_0)) ((w49_4)) ((w49_5)) ((w49_6)) ((w49_2)) ((w49_8)) ((w49_9)))) by assumption) (show IMP ((0) = 0) (ORB (((upd1 (w13) (0) (((D 15 : Nat) : Int)))) 0) ((((D 3 : Nat) : Int))) ((y49_0_0)) 9) by assumption) (show 0 = 0 ∨ ((upd1 (w13) (0) (((D 15 : Nat) : Int)))) 0 = ((w13)) 0 by first | exact q_3497 | omega) (show 0 = 1 ∨ ((upd1 (w13) (0) (((D 15 : Nat) : Int)))) 1 = ((w13)) 1 by omega) (show 0 = 2 ∨ ((upd1 (w13) (0) (((D 15 : Nat) : Int)))) 2 = ((w13)) 2 by omega))
          · refine Ew_of (pcₚ := 177) (fun _ => x_aload_n rfl (rk_o (rfl) rfl rfl)) ?_
            refine Ew_of (pcₚ := 179) (fun _ => x_bipush (z := 16) rfl (by decide)) ?_
            refine Ew_of (pcₚ := 180) (fun _ => x_iload_n rfl (rk_o (rfl) rfl rfl)) ?_
            have r53 : (-2147483648 : Int) ≤ F 0 21 ∧ F 0 21 ≤ 2147483647 := rngE (show (-2147483648 : Int) ≤ F49 0 21 ∧ F49 0 21 ≤ 2147483647 from H.krg 0 21 (ltn len_V249_c10_vn_oz_I0acls rfl)) (show F49 0 21 = F 0 21 from ((show F49 0 21 = F 0 21 from (eF49 0 21))))
            refine v_inv H (o := 0) rfl rfl rfl rfl rfl rfl (by rfl) (C232 (D := puc 0 D) (N := puc 0 N) (HW_subc H oz_I0acls_19 oz_I0acls_7) (F 0 21) (((show F49 0 21 = F 0 21 from (eF49 0 21)))) (show inr (16) from q_86) (show inr (a3) from h2) (fun z54 σ54 F54ₚ A54ₚ Hₚ Oₚ hS54 hA54 y54_0_21 (ey54_0_21 : HID _) pz54_0 pz54_1 pz54_2 => ⟨rfl, ?_⟩))
            refine v_backc (c := c) (s := s) H oz_I0acls_19 oz_I0acls_7 Hₚ Oₚ (fun F54 A54 H Oₚ eF54 eA54 => ?_)
            have O := OUT_trans O Oₚ
            -- Unpacker.fail
            have cF54 : SF oz_I0aclsl_1 F F54 := SF_trans (cF49) (SF_gluc (ι := oz_I0aclsl_3) oz_I0acls_7 hS54 eF54 (by decide +kernel)) (any_sub (lₚ := [(0, 21)]) (by decide +kernel))
            have mF54 := SFm_of cF54 oz_I0acls_5
            have cA54 : SA oz_I0aclsl_0 A A54 := SA_trans (cA49) (SA_gluc (ι := oz_I0aclsl_3) oz_I0acls_7 hA54 eA54 (by decide +kernel)) (any_subA (lₚ := []) (by decide +kernel))
            have mA54 := SAm_of cA54 oz_I0acls_4
            have r55 : (-2147483648 : Int) ≤ y54_0_21 ∧ y54_0_21 ≤ 2147483647 := rngE (show (-2147483648 : Int) ≤ F54 0 21 ∧ F54 0 21 ≤ 2147483647 from H.krg 0 21 (ltn len_V249_c10_vn_oz_I0acls rfl)) (show F54 0 21 = y54_0_21 from ((eF54 0 21).trans ey54_0_21))
            have hfi0 : IMP (((z54) : Int) = 0) (TI2 (((upd1 (w13) (0) (((D 15 : Nat) : Int)))) 0) ((((D 15 : Nat) : Int))) ((((D 3 : Nat) : Int)))) := by exact fun q => absurd q (by omega)
            have hfi1 : IMP (((z54) : Int) = 0) (SLB (((upd1 (w13) (0) (((D 15 : Nat) : Int)))) 0) ((((D 3 : Nat) : Int))) (SL ((w49_3)) ((u3_1)) ((y49_0_0)) ((w49_4)) ((w49_5)) ((w49_6)) ((w49_2)) ((w49_8)) ((w49_9)))) := by exact fun q => absurd q (by omega)
            have hfi2 : IMP (((z54) : Int) = 0) (ORB (((upd1 (w13) (0) (((D 15 : Nat) : Int)))) 0) ((((D 3 : Nat) : Int))) ((y49_0_0)) 9) := by exact fun q => absurd q (by omega)
            have hfn : (IMP (((z54) : Int) = 0) (((upd1 (w13) (0) (((D 15 : Nat) : Int)))) 0 ≠ -1)) := by exact fun q => absurd q (by omega)
            exact w_ireturn rfl (k (z54) _ _ _ H O (cF54) (cA54) (u0_9) (((((show F54 0 9 = F49 0 9 from (eF54 0 9).trans (hS54 0 9 rfl))).trans ((show F49 0 9 = F 0 9 from (eF49 0 9)))).trans (eu0_9))) (y49_0_0) ((((show F54 3 0 = F49 3 0 from (eF54 3 0))).trans ((eF49 3 0).trans ey49_0_0))) (w49_3) (((show A54 4 = A49 4 from (eA54 4))).trans ((eA49 4).trans ew49_3)) (w49_4) (((show A54 5 = A49 5 from (eA54 5))).trans ((eA49 5).trans ew49_4)) (w49_5) (((show A54 6 = A49 6 from (eA54 6))).trans ((eA49 6).trans ew49_5)) (w49_6) (((show A54 7 = A49 7 from (eA54 7))).trans ((eA49 7).trans ew49_6)) (w49_2) (((show A54 9 = A49 9 from (eA54 9))).trans ((eA49 9).trans ew49_2)) (w49_8) (((show A54 10 = A49 10 from (eA54 10))).trans ((eA49 10).trans ew49_8)) (w49_9) (((show A54 11 = A49 11 from (eA54 11))).trans ((eA49 11).trans ew49_9)) (upd1 (w13) (0) (((D 15 : Nat) : Int))) (((show A54 13 = A49 13 from (eA54 13))).trans (((show A49 13 = (updA A 13 (0) (((D 15 : Nat) : Int))) 13 from (eA49 13))).trans (congrArg (fun q => upd1 q (0) (((D 15 : Nat) : Int))) (ew13)))) (show inr (z54) from pz54_0) (show 0 ≤ (z54) ∧ (z54) ≤ 17 from q_3798 pz54_1) (show 0 ≤ (u0_9) ∧ (u0_9) ≤ (u0_9) ∧ (u0_9) ≤ (u0_8) from q_3590 h3) (show (u0_9) ≤ (u0_18) from q_1468 h4) (show (IMP ((z54) = 0) (((upd1 (w13) (0) (((D 15 : Nat) : Int)))) 0 ≠ -1)) from hfn) (show IMP ((z54) = 0) (TI2 (((upd1 (w13) (0) (((D 15 : Nat) : Int)))) 0) ((((D 15 : Nat) : Int))) ((((D 3 : Nat) : Int)))) from hfi0) (show IMP ((z54) = 0) (SLB (((upd1 (w13) (0) (((D 15 : Nat) : Int)))) 0) ((((D 3 : Nat) : Int))) (SL ((w49_3)) ((u3_1)) ((y49_0_0)) ((w49_4)) ((w49_5)) ((w49_6)) ((w49_2)) ((w49_8)) ((w49_9)))) from hfi1) (show IMP ((z54) = 0) (ORB (((upd1 (w13) (0) (((D 15 : Nat) : Int)))) 0) ((((D 3 : Nat) : Int))) ((y49_0_0)) 9) from hfi2) (show 0 = 0 ∨ ((upd1 (w13) (0) (((D 15 : Nat) : Int)))) 0 = ((w13)) 0 by first | exact q_3497 | omega) (show 0 = 1 ∨ ((upd1 (w13) (0) (((D 15 : Nat) : Int)))) 1 = ((w13)) 1 by omega) (show 0 = 2 ∨ ((upd1 (w13) (0) (((D 15 : Nat) : Int)))) 2 = ((w13)) 2 by omega))
      · refine Ew_of (pcₚ := 63) (fun _ => x_aload_n rfl rfl) ?_
        refine v_g H (o := 0) (v := I (u0_9)) rfl rfl rfl rfl rfl (congrArg (fun z : Int => I z) ((eu0_9) : F 0 9 = u0_9)) ?_
        refine Ew_of (pcₚ := 67) (fun _ => x_aload_n rfl rfl) ?_
        refine v_g H (o := 0) (v := I (u0_18)) rfl rfl rfl rfl rfl (congrArg (fun z : Int => I z) ((eu0_18) : F 0 18 = u0_18)) ?_
        refine w_icmplt (t := 84) rfl rfl (show inr (u0_9) from q_3585 h3) (show inr (u0_18) from q_22 r3) (fun b56 => ?_) (fun b56 => ?_)
        · refine Ew_of (pcₚ := 85) (fun _ => x_aload_n rfl rfl) ?_
          refine v_g H (o := 0) (v := .ref (D 1)) rfl rfl rfl rfl rfl (vrf (pf1)) ?_
          refine Ew_of (pcₚ := 89) (fun _ => x_aload_n rfl rfl) ?_
          refine Ew_of (pcₚ := 90) (fun _ => x_dup rfl rfl) ?_
          refine v_g H (o := 0) (v := I (u0_9)) rfl rfl rfl rfl rfl (congrArg (fun z : Int => I z) ((eu0_9) : F 0 9 = u0_9)) ?_
          refine Ew_of (pcₚ := 94) (fun _ => x_dup_x1 rfl rfl) ?_
          refine Ew_of (pcₚ := 95) (fun _ => x_iconst rfl) ?_
          refine w_iadd rfl ?_
          refine v_p H (o := 0) (z := (u0_9 + 1)) (v := I ((u0_9 + 1))) rfl rfl rfl rfl rfl rfl rfl rfl (show (-2147483648 : Int) ≤ (u0_9 + 1) ∧ (u0_9 + 1) ≤ 2147483647 from q_3799 h3) (fun σ H Oₚ => ?_)
          have O := OUT_trans O Oₚ
          have cFu57 : SF oz_I0aclsl_1 F (updF F 0 9 ((u0_9 + 1))) := SF_upd (SF_refl) rfl
          have mFu57 := SFm_of cFu57 oz_I0acls_5
          refine v_lB H (o := 1) rfl rfl rfl rfl (n := n1) (en1) (show 0 ≤ u0_9 ∧ u0_9 < n1 from q_3635 b56 h3 h4) (fun v58 ev58 qv58 => ?_)
          have ev58 : (A 1) (u0_9) = v58 := (congrFun (funext (mAu45 1 rfl)) (u0_9)).symm.trans ev58
          refine Ew_of (pcₚ := 103) (fun _ => x_sipush (z := 255) rfl (by decide)) ?_
          refine w_iand rfl (show inr (v58) from q_2536 qv58) (show inr (255) from q_36) (fun z59 gz59 gaz59 gbz59 => ?_)
          refine Ew_of (pcₚ := 106) (fun _ => x_istore rfl) ?_
          refine Ew_of (pcₚ := 108) (fun _ => x_iload rfl rk_s) ?_
          refine Ew_of (pcₚ := 111) (fun _ => x_getstatic rfl) ?_
          refine Ew_of (pcₚ := 112) (fun _ => x_iload_n rfl (rk_o (rfl) rfl rfl)) ?_
          refine v_stI (STC_out HT HE O) (b := 3) (n := 3) rfl rfl rfl rfl (show 0 ≤ 0 ∧ 0 < 3 from q_3495) (fun v60 ev60 qv60 => ?_)
          have hlv := ev60
          have hlw : ((v60) : Int) = 35 := by rw [← hlv]; rfl
          refine w_icmple (t := 124) rfl rfl (show inr (z59) from gz59) (show inr (v60) from qv60) (fun b61 => ?_) (fun b61 => ?_)
          · refine Ew_of (pcₚ := 125) (fun _ => x_aload_n rfl (rk_o (rfl) rfl rfl)) ?_
            refine v_g H (o := 0) (v := .ref (D 2)) rfl rfl rfl rfl rfl (vrf ((mFu57 0 2 rfl).trans (pf2))) ?_
            refine Ew_of (pcₚ := 129) (fun _ => x_iload_n rfl (rk_o (rfl) rfl rfl)) ?_
            refine v_lR H (o := 2) rfl rfl rfl rfl rfl (n := n2) (en2) (show 0 ≤ 0 ∧ 0 < n2 from q_3792 h7 r7) (z := ((D 3 : Nat) : Int)) (v := .ref (D 3)) ((mAu45 2 rfl 0).trans (pf3)) (vrf rfl) ?_
            refine Ew_of (pcₚ := 132) (fun _ => x_iload rfl rk_s) ?_
            refine v_inv H (o := 3) rfl rfl rfl rfl rfl rfl (by rfl) (C168 (D := puc 52038409393826314588675 D) (N := puc 52038409393826314588675 N) (HW_subc H oz_I0acls_20 oz_I0acls_8) ((mFu57 3 7 rfl).trans (pf9)) ((mFu57 3 2 rfl).trans (pf4)) ((mFu57 3 3 rfl).trans (pf5)) ((mFu57 3 4 rfl).trans (pf6)) ((mFu57 3 5 rfl).trans (pf7)) ((mFu57 3 6 rfl).trans (pf8)) ((mFu57 3 8 rfl).trans (pf10)) ((mFu57 3 9 rfl).trans (pf11)) (n9) (en9) (n4) (en4) (n5) (en5) (n6) (en6) (n7) (en7) (n8) (en8) (n10) (en10) (n11) (en11) (u3_0) ((eu3_0)) (u3_1) (((mFu57 3 1 rfl).trans (eu3_1))) (w9) (ew9) (w4) (ew4) (w5) (ew5) (w6) (ew6) (w7) (ew7) (w10) (ew10) (w11) (ew11) (show inr (z59) from gz59) (show (n9) ≥ 1 by omega) (show (n4) = (u3_1) ∧ (n5) = (u3_1) ∧ (n6) = (u3_1) ∧ (n7) = (u3_1) ∧ (n8) = (u3_1) ∧ (n10) = (n9) ∧ (n11) = (n9) ∧ 1 ≤ (u3_1) ∧ (u3_1) ≤ 64 by omega) (show 0 ≤ (z59) ∧ (z59) < ((u3_1)) by omega) (fun σ62 F62ₚ A62ₚ Hₚ Oₚ hS62 hA62 y62_0_0 (ey62_0_0 : HID _) w62_1 ew62_1 w62_2 ew62_2 w62_3 ew62_3 w62_4 ew62_4 w62_5 ew62_5 w62_7 ew62_7 w62_8 ew62_8 pz62_0 pz62_1 => ⟨rfl, ?_⟩))
            refine v_backc (c := c) (s := s) H oz_I0acls_20 oz_I0acls_8 Hₚ Oₚ (fun F62 A62 H Oₚ eF62 eA62 => ?_)
            have O := OUT_trans O Oₚ
            -- Share.becomeAlone
            have cF62 : SF oz_I0aclsl_1 F F62 := SF_trans (cFu57) (SF_gluc (ι := oz_I0aclsl_4) oz_I0acls_8 hS62 eF62 (by decide +kernel)) (any_sub (lₚ := [(3, 0)]) (by decide +kernel))
            have mF62 := SFm_of cF62 oz_I0acls_5
            have cA62 : SA oz_I0aclsl_0 A A62 := SA_trans (cAu45) (SA_gluc (ι := oz_I0aclsl_4) oz_I0acls_8 hA62 eA62 (by decide +kernel)) (any_subA (lₚ := [4, 5, 6, 7, 8, 9, 10, 11]) (by decide +kernel))
            have mA62 := SAm_of cA62 oz_I0acls_4
            have r63 : (-2147483648 : Int) ≤ y62_0_0 ∧ y62_0_0 ≤ 2147483647 := rngE (show (-2147483648 : Int) ≤ F62 3 0 ∧ F62 3 0 ≤ 2147483647 from H.krg 3 0 (ltn len_V249_c10_vn_oz_I0acls rfl)) (show F62 3 0 = y62_0_0 from ((eF62 3 0).trans ey62_0_0))
            have hown := pz62_0
            refine Ew_of (pcₚ := 190) (fun _ => x_goto rfl rfl) ?_
            refine Ew_of (pcₚ := 191) (fun _ => x_iconst rfl) ?_
            have hfi0 : IMP (((0) : Int) = 0) (TI2 (((upd1 (w13) (0) (((D 15 : Nat) : Int)))) 0) ((((D 15 : Nat) : Int))) ((((D 3 : Nat) : Int)))) := by exact fun q => absurd q (by omega)
            have hfi1 : IMP (((0) : Int) = 0) (SLB (((upd1 (w13) (0) (((D 15 : Nat) : Int)))) 0) ((((D 3 : Nat) : Int))) (SL ((w62_2)) ((u3_1)) ((y62_0_0)) ((w62_3)) ((w62_4)) ((w62_5)) ((w62_1)) ((w62_7)) ((w62_8)))) := by exact fun q => absurd q (by omega)
            have hfi2 : IMP (((0) : Int) = 0) (ORB (((upd1 (w13) (0) (((D 15 : Nat) : Int)))) 0) ((((D 3 : Nat) : Int))) ((y62_0_0)) 9) := by exact fun q => absurd q (by omega)
            have hfn : (IMP (((0) : Int) = 0) (((upd1 (w13) (0) (((D 15 : Nat) : Int)))) 0 ≠ -1)) := by exact fun q => absurd q (by omega)
            exact w_ireturn rfl (k (0) _ _ _ H O (cF62) (cA62) ((u0_9 + 1)) (((show F62 0 9 = (updF F 0 9 ((u0_9 + 1))) 0 9 from (eF62 0 9)))) (y62_0_0) (((eF62 3 0).trans ey62_0_0)) (w62_2) ((eA62 4).trans ew62_2) (w62_3) ((eA62 5).trans ew62_3) (w62_4) ((eA62 6).trans ew62_4) (w62_5) ((eA62 7).trans ew62_5) (w62_1) ((eA62 9).trans ew62_1) (w62_7) ((eA62 10).trans ew62_7) (w62_8) ((eA62 11).trans ew62_8) (upd1 (w13) (0) (((D 15 : Nat) : Int))) (((show A62 13 = (updA A 13 (0) (((D 15 : Nat) : Int))) 13 from (eA62 13))).trans (congrArg (fun q => upd1 q (0) (((D 15 : Nat) : Int))) (ew13))) (show inr (0) from h0) (show 0 ≤ (0) ∧ (0) ≤ 17 by first | exact q_3589 | omega) (show 0 ≤ ((u0_9 + 1)) ∧ (u0_9) ≤ ((u0_9 + 1)) ∧ ((u0_9 + 1)) ≤ (u0_8) from q_3800 b56 h3 h4) (show ((u0_9 + 1)) ≤ (u0_18) from q_1328 b56) (show (IMP ((0) = 0) (((upd1 (w13) (0) (((D 15 : Nat) : Int)))) 0 ≠ -1)) by assumption) (show IMP ((0) = 0) (TI2 (((upd1 (w13) (0) (((D 15 : Nat) : Int)))) 0) ((((D 15 : Nat) : Int))) ((((D 3 : Nat) : Int)))) by assumption) (show IMP ((0) = 0) (SLB (((upd1 (w13) (0) (((D 15 : Nat) : Int)))) 0) ((((D 3 : Nat) : Int))) (SL ((w62_2)) ((u3_1)) ((y62_0_0)) ((w62_3)) ((w62_4)) ((w62_5)) ((w62_1)) ((w62_7)) ((w62_8)))) by assumption) (show IMP ((0) = 0) (ORB (((upd1 (w13) (0) (((D 15 : Nat) : Int)))) 0) ((((D 3 : Nat) : Int))) ((y62_0_0)) 9) by assumption) (show 0 = 0 ∨ ((upd1 (w13) (0) (((D 15 : Nat) : Int)))) 0 = ((w13)) 0 by first | exact q_3497 | omega) (show 0 = 1 ∨ ((upd1 (w13) (0) (((D 15 : Nat) : Int)))) 1 = ((w13)) 1 by omega) (show 0 = 2 ∨ ((upd1 (w13) (0) (((D 15 : Nat) : Int)))) 2 = ((w13)) 2 by omega))
          · refine Ew_of (pcₚ := 117) (fun _ => x_aload_n rfl (rk_o (rfl) rfl rfl)) ?_
            refine Ew_of (pcₚ := 119) (fun _ => x_bipush (z := 16) rfl (by decide)) ?_
            refine Ew_of (pcₚ := 120) (fun _ => x_iload_n rfl (rk_o (rfl) rfl rfl)) ?_
            have r64 : (-2147483648 : Int) ≤ F 0 21 ∧ F 0 21 ≤ 2147483647 := H.krg 0 21 (ltn len_V249_c10_vn_oz_I0acls rfl)
            refine v_inv H (o := 0) rfl rfl rfl rfl rfl rfl (by rfl) (C232 (D := puc 0 D) (N := puc 0 N) (HW_subc H oz_I0acls_19 oz_I0acls_7) (F 0 21) (rfl) (show inr (16) from q_86) (show inr (a3) from h2) (fun z65 σ65 F65ₚ A65ₚ Hₚ Oₚ hS65 hA65 y65_0_21 (ey65_0_21 : HID _) pz65_0 pz65_1 pz65_2 => ⟨rfl, ?_⟩))
            refine v_backc (c := c) (s := s) H oz_I0acls_19 oz_I0acls_7 Hₚ Oₚ (fun F65 A65 H Oₚ eF65 eA65 => ?_)
            have O := OUT_trans O Oₚ
            -- Unpacker.fail
            have cF65 : SF oz_I0aclsl_1 F F65 := SF_trans (cFu57) (SF_gluc (ι := oz_I0aclsl_3) oz_I0acls_7 hS65 eF65 (by decide +kernel)) (any_sub (lₚ := [(0, 21)]) (by decide +kernel))
            have mF65 := SFm_of cF65 oz_I0acls_5
            have cA65 : SA oz_I0aclsl_0 A A65 := SA_trans (cAu45) (SA_gluc (ι := oz_I0aclsl_3) oz_I0acls_7 hA65 eA65 (by decide +kernel)) (any_subA (lₚ := []) (by decide +kernel))
            have mA65 := SAm_of cA65 oz_I0acls_4
            have r66 : (-2147483648 : Int) ≤ y65_0_21 ∧ y65_0_21 ≤ 2147483647 := rngE (show (-2147483648 : Int) ≤ F65 0 21 ∧ F65 0 21 ≤ 2147483647 from H.krg 0 21 (ltn len_V249_c10_vn_oz_I0acls rfl)) (show F65 0 21 = y65_0_21 from ((eF65 0 21).trans ey65_0_21))
            have hfi0 : IMP (((z65) : Int) = 0) (TI2 (((upd1 (w13) (0) (((D 15 : Nat) : Int)))) 0) ((((D 15 : Nat) : Int))) ((((D 3 : Nat) : Int)))) := by exact fun q => absurd q (by omega)
            have hfi1 : IMP (((z65) : Int) = 0) (SLB (((upd1 (w13) (0) (((D 15 : Nat) : Int)))) 0) ((((D 3 : Nat) : Int))) (SL ((w4)) ((u3_1)) ((u3_0)) ((w5)) ((w6)) ((w7)) ((w9)) ((w10)) ((w11)))) := by exact fun q => absurd q (by omega)
            have hfi2 : IMP (((z65) : Int) = 0) (ORB (((upd1 (w13) (0) (((D 15 : Nat) : Int)))) 0) ((((D 3 : Nat) : Int))) ((u3_0)) 9) := by exact fun q => absurd q (by omega)
            have hfn : (IMP (((z65) : Int) = 0) (((upd1 (w13) (0) (((D 15 : Nat) : Int)))) 0 ≠ -1)) := by exact fun q => absurd q (by omega)
            exact w_ireturn rfl (k (z65) _ _ _ H O (cF65) (cA65) ((u0_9 + 1)) (((show F65 0 9 = (updF F 0 9 ((u0_9 + 1))) 0 9 from (eF65 0 9).trans (hS65 0 9 rfl)))) (u3_0) ((((show F65 3 0 = (updF F 0 9 ((u0_9 + 1))) 3 0 from (eF65 3 0))).trans (eu3_0))) (w4) (((show A65 4 = (updA A 13 (0) (((D 15 : Nat) : Int))) 4 from (eA65 4))).trans (ew4)) (w5) (((show A65 5 = (updA A 13 (0) (((D 15 : Nat) : Int))) 5 from (eA65 5))).trans (ew5)) (w6) (((show A65 6 = (updA A 13 (0) (((D 15 : Nat) : Int))) 6 from (eA65 6))).trans (ew6)) (w7) (((show A65 7 = (updA A 13 (0) (((D 15 : Nat) : Int))) 7 from (eA65 7))).trans (ew7)) (w9) (((show A65 9 = (updA A 13 (0) (((D 15 : Nat) : Int))) 9 from (eA65 9))).trans (ew9)) (w10) (((show A65 10 = (updA A 13 (0) (((D 15 : Nat) : Int))) 10 from (eA65 10))).trans (ew10)) (w11) (((show A65 11 = (updA A 13 (0) (((D 15 : Nat) : Int))) 11 from (eA65 11))).trans (ew11)) (upd1 (w13) (0) (((D 15 : Nat) : Int))) (((show A65 13 = (updA A 13 (0) (((D 15 : Nat) : Int))) 13 from (eA65 13))).trans (congrArg (fun q => upd1 q (0) (((D 15 : Nat) : Int))) (ew13))) (show inr (z65) from pz65_0) (show 0 ≤ (z65) ∧ (z65) ≤ 17 from q_3798 pz65_1) (show 0 ≤ ((u0_9 + 1)) ∧ (u0_9) ≤ ((u0_9 + 1)) ∧ ((u0_9 + 1)) ≤ (u0_8) from q_3800 b56 h3 h4) (show ((u0_9 + 1)) ≤ (u0_18) from q_1328 b56) (show (IMP ((z65) = 0) (((upd1 (w13) (0) (((D 15 : Nat) : Int)))) 0 ≠ -1)) from hfn) (show IMP ((z65) = 0) (TI2 (((upd1 (w13) (0) (((D 15 : Nat) : Int)))) 0) ((((D 15 : Nat) : Int))) ((((D 3 : Nat) : Int)))) from hfi0) (show IMP ((z65) = 0) (SLB (((upd1 (w13) (0) (((D 15 : Nat) : Int)))) 0) ((((D 3 : Nat) : Int))) (SL ((w4)) ((u3_1)) ((u3_0)) ((w5)) ((w6)) ((w7)) ((w9)) ((w10)) ((w11)))) from hfi1) (show IMP ((z65) = 0) (ORB (((upd1 (w13) (0) (((D 15 : Nat) : Int)))) 0) ((((D 3 : Nat) : Int))) ((u3_0)) 9) from hfi2) (show 0 = 0 ∨ ((upd1 (w13) (0) (((D 15 : Nat) : Int)))) 0 = ((w13)) 0 by first | exact q_3497 | omega) (show 0 = 1 ∨ ((upd1 (w13) (0) (((D 15 : Nat) : Int)))) 1 = ((w13)) 1 by omega) (show 0 = 2 ∨ ((upd1 (w13) (0) (((D 15 : Nat) : Int)))) 2 = ((w13)) 2 by omega))
        · refine Ew_of (pcₚ := 74) (fun _ => x_aload_n rfl rfl) ?_
          refine Ew_of (pcₚ := 76) (fun _ => x_bipush (z := 10) rfl (by decide)) ?_
          refine Ew_of (pcₚ := 77) (fun _ => x_aload_n rfl rfl) ?_
          refine v_g H (o := 0) (v := I (u0_18)) rfl rfl rfl rfl rfl (congrArg (fun z : Int => I z) ((eu0_18) : F 0 18 = u0_18)) ?_
          have r67 : (-2147483648 : Int) ≤ F 0 21 ∧ F 0 21 ≤ 2147483647 := H.krg 0 21 (ltn len_V249_c10_vn_oz_I0acls rfl)
          refine v_inv H (o := 0) rfl rfl rfl rfl rfl rfl (by rfl) (C232 (D := puc 0 D) (N := puc 0 N) (HW_subc H oz_I0acls_19 oz_I0acls_7) (F 0 21) (rfl) (show inr (10) from q_532) (show inr (u0_18) from q_22 r3) (fun z68 σ68 F68ₚ A68ₚ Hₚ Oₚ hS68 hA68 y68_0_21 (ey68_0_21 : HID _) pz68_0 pz68_1 pz68_2 => ⟨rfl, ?_⟩))
          refine v_backc (c := c) (s := s) H oz_I0acls_19 oz_I0acls_7 Hₚ Oₚ (fun F68 A68 H Oₚ eF68 eA68 => ?_)
          have O := OUT_trans O Oₚ
          -- Unpacker.fail
          have cF68 : SF oz_I0aclsl_1 F F68 := SF_trans (SF_refl) (SF_gluc (ι := oz_I0aclsl_3) oz_I0acls_7 hS68 eF68 (by decide +kernel)) (any_sub (lₚ := [(0, 21)]) (by decide +kernel))
          have mF68 := SFm_of cF68 oz_I0acls_5
          have cA68 : SA oz_I0aclsl_0 A A68 := SA_trans (cAu45) (SA_gluc (ι := oz_I0aclsl_3) oz_I0acls_7 hA68 eA68 (by decide +kernel)) (any_subA (lₚ := []) (by decide +kernel))
          have mA68 := SAm_of cA68 oz_I0acls_4
          have r69 : (-2147483648 : Int) ≤ y68_0_21 ∧ y68_0_21 ≤ 2147483647 := rngE (show (-2147483648 : Int) ≤ F68 0 21 ∧ F68 0 21 ≤ 2147483647 from H.krg 0 21 (ltn len_V249_c10_vn_oz_I0acls rfl)) (show F68 0 21 = y68_0_21 from ((eF68 0 21).trans ey68_0_21))
          have hfi0 : IMP (((z68) : Int) = 0) (TI2 (((upd1 (w13) (0) (((D 15 : Nat) : Int)))) 0) ((((D 15 : Nat) : Int))) ((((D 3 : Nat) : Int)))) := by exact fun q => absurd q (by omega)
          have hfi1 : IMP (((z68) : Int) = 0) (SLB (((upd1 (w13) (0) (((D 15 : Nat) : Int)))) 0) ((((D 3 : Nat) : Int))) (SL ((w4)) ((u3_1)) ((u3_0)) ((w5)) ((w6)) ((w7)) ((w9)) ((w10)) ((w11)))) := by exact fun q => absurd q (by omega)
          have hfi2 : IMP (((z68) : Int) = 0) (ORB (((upd1 (w13) (0) (((D 15 : Nat) : Int)))) 0) ((((D 3 : Nat) : Int))) ((u3_0)) 9) := by exact fun q => absurd q (by omega)
          have hfn : (IMP (((z68) : Int) = 0) (((upd1 (w13) (0) (((D 15 : Nat) : Int)))) 0 ≠ -1)) := by exact fun q => absurd q (by omega)
          exact w_ireturn rfl (k (z68) _ _ _ H O (cF68) (cA68) (u0_9) ((((show F68 0 9 = F 0 9 from (eF68 0 9).trans (hS68 0 9 rfl))).trans (eu0_9))) (u3_0) ((((show F68 3 0 = F 3 0 from (eF68 3 0))).trans (eu3_0))) (w4) (((show A68 4 = (updA A 13 (0) (((D 15 : Nat) : Int))) 4 from (eA68 4))).trans (ew4)) (w5) (((show A68 5 = (updA A 13 (0) (((D 15 : Nat) : Int))) 5 from (eA68 5))).trans (ew5)) (w6) (((show A68 6 = (updA A 13 (0) (((D 15 : Nat) : Int))) 6 from (eA68 6))).trans (ew6)) (w7) (((show A68 7 = (updA A 13 (0) (((D 15 : Nat) : Int))) 7 from (eA68 7))).trans (ew7)) (w9) (((show A68 9 = (updA A 13 (0) (((D 15 : Nat) : Int))) 9 from (eA68 9))).trans (ew9)) (w10) (((show A68 10 = (updA A 13 (0) (((D 15 : Nat) : Int))) 10 from (eA68 10))).trans (ew10)) (w11) (((show A68 11 = (updA A 13 (0) (((D 15 : Nat) : Int))) 11 from (eA68 11))).trans (ew11)) (upd1 (w13) (0) (((D 15 : Nat) : Int))) (((show A68 13 = (updA A 13 (0) (((D 15 : Nat) : Int))) 13 from (eA68 13))).trans (congrArg (fun q => upd1 q (0) (((D 15 : Nat) : Int))) (ew13))) (show inr (z68) from pz68_0) (show 0 ≤ (z68) ∧ (z68) ≤ 17 from q_3651 pz68_1) (show 0 ≤ (u0_9) ∧ (u0_9) ≤ (u0_9) ∧ (u0_9) ≤ (u0_8) from q_3590 h3) (show (u0_9) ≤ (u0_18) from q_1468 h4) (show (IMP ((z68) = 0) (((upd1 (w13) (0) (((D 15 : Nat) : Int)))) 0 ≠ -1)) from hfn) (show IMP ((z68) = 0) (TI2 (((upd1 (w13) (0) (((D 15 : Nat) : Int)))) 0) ((((D 15 : Nat) : Int))) ((((D 3 : Nat) : Int)))) from hfi0) (show IMP ((z68) = 0) (SLB (((upd1 (w13) (0) (((D 15 : Nat) : Int)))) 0) ((((D 3 : Nat) : Int))) (SL ((w4)) ((u3_1)) ((u3_0)) ((w5)) ((w6)) ((w7)) ((w9)) ((w10)) ((w11)))) from hfi1) (show IMP ((z68) = 0) (ORB (((upd1 (w13) (0) (((D 15 : Nat) : Int)))) 0) ((((D 3 : Nat) : Int))) ((u3_0)) 9) from hfi2) (show 0 = 0 ∨ ((upd1 (w13) (0) (((D 15 : Nat) : Int)))) 0 = ((w13)) 0 by first | exact q_3497 | omega) (show 0 = 1 ∨ ((upd1 (w13) (0) (((D 15 : Nat) : Int)))) 1 = ((w13)) 1 by omega) (show 0 = 2 ∨ ((upd1 (w13) (0) (((D 15 : Nat) : Int)))) 2 = ((w13)) 2 by omega))
  · refine Ew_of (pcₚ := 6) (fun _ => x_aload_n rfl rfl) ?_
    refine v_g H (o := 0) (v := .ref (D 12)) rfl rfl rfl rfl rfl (vrf (pf12)) ?_
    refine v_g H (o := 12) (v := .ref (D 13)) rfl rfl rfl rfl rfl (vrf (pf13)) ?_
    refine Ew_of (pcₚ := 13) (fun _ => x_iload_n rfl rfl) ?_
    rcases (show (w13) (0) = -1 ∨ (w13) (0) = ((D 15 : Nat) : Int) ∨ (w13) (0) = ((D 3 : Nat) : Int) by assumption) with b70 | b70 | b70
    · refine v_lR H (o := 13) rfl rfl rfl rfl rfl (n := n13) (en13) (show 0 ≤ 0 ∧ 0 < n13 from q_3793 h7 r16) (z := (-1)) (v := .null) ((congrFun (ew13) (0)).trans b70) (rfl) ?_
      refine Ew_of (pcₚ := 17) (fun _ => x_ifnonnull_f rfl rfl) ?_
      refine Ew_of (pcₚ := 18) (fun _ => x_aload_n rfl rfl) ?_
      refine Ew_of (pcₚ := 20) (fun _ => x_bipush (z := 16) rfl (by decide)) ?_
      refine Ew_of (pcₚ := 21) (fun _ => x_iload_n rfl rfl) ?_
      have r71 : (-2147483648 : Int) ≤ F 0 21 ∧ F 0 21 ≤ 2147483647 := H.krg 0 21 (ltn len_V249_c10_vn_oz_I0acls rfl)
      refine v_inv H (o := 0) rfl rfl rfl rfl rfl rfl (by rfl) (C232 (D := puc 0 D) (N := puc 0 N) (HW_subc H oz_I0acls_19 oz_I0acls_7) (F 0 21) (rfl) (show inr (16) from q_86) (show inr (a3) from h2) (fun z72 σ72 F72ₚ A72ₚ Hₚ Oₚ hS72 hA72 y72_0_21 (ey72_0_21 : HID _) pz72_0 pz72_1 pz72_2 => ⟨rfl, ?_⟩))
      refine v_backc (c := c) (s := s) H oz_I0acls_19 oz_I0acls_7 Hₚ Oₚ (fun F72 A72 H Oₚ eF72 eA72 => ?_)
      have O := OUT_trans O Oₚ
      -- Unpacker.fail
      have cF72 : SF oz_I0aclsl_1 F F72 := SF_trans (SF_refl) (SF_gluc (ι := oz_I0aclsl_3) oz_I0acls_7 hS72 eF72 (by decide +kernel)) (any_sub (lₚ := [(0, 21)]) (by decide +kernel))
      have mF72 := SFm_of cF72 oz_I0acls_5
      have cA72 : SA oz_I0aclsl_0 A A72 := SA_trans (SA_refl) (SA_gluc (ι := oz_I0aclsl_3) oz_I0acls_7 hA72 eA72 (by decide +kernel)) (any_subA (lₚ := []) (by decide +kernel))
      have mA72 := SAm_of cA72 oz_I0acls_4
      have r73 : (-2147483648 : Int) ≤ y72_0_21 ∧ y72_0_21 ≤ 2147483647 := rngE (show (-2147483648 : Int) ≤ F72 0 21 ∧ F72 0 21 ≤ 2147483647 from H.krg 0 21 (ltn len_V249_c10_vn_oz_I0acls rfl)) (show F72 0 21 = y72_0_21 from ((eF72 0 21).trans ey72_0_21))
      refine Ew_of (pcₚ := 28) (fun _ => x_goto rfl rfl) ?_
      have hfi0 : IMP (((z72) : Int) = 0) (TI2 (((w13)) 0) ((((D 15 : Nat) : Int))) ((((D 3 : Nat) : Int)))) := by exact fun q => absurd q (by omega)
      have hfi1 : IMP (((z72) : Int) = 0) (SLB (((w13)) 0) ((((D 3 : Nat) : Int))) (SL ((w4)) ((u3_1)) ((u3_0)) ((w5)) ((w6)) ((w7)) ((w9)) ((w10)) ((w11)))) := by exact fun q => absurd q (by omega)
      have hfi2 : IMP (((z72) : Int) = 0) (ORB (((w13)) 0) ((((D 3 : Nat) : Int))) ((u3_0)) 9) := by exact fun q => absurd q (by omega)
      have hfn : (IMP (((z72) : Int) = 0) (((w13)) 0 ≠ -1)) := by exact fun q => absurd q (by omega)
      exact w_ireturn rfl (k (z72) _ _ _ H O (cF72) (cA72) (u0_9) ((((show F72 0 9 = F 0 9 from (eF72 0 9).trans (hS72 0 9 rfl))).trans (eu0_9))) (u3_0) ((((show F72 3 0 = F 3 0 from (eF72 3 0))).trans (eu3_0))) (w4) (((show A72 4 = A 4 from (eA72 4))).trans (ew4)) (w5) (((show A72 5 = A 5 from (eA72 5))).trans (ew5)) (w6) (((show A72 6 = A 6 from (eA72 6))).trans (ew6)) (w7) (((show A72 7 = A 7 from (eA72 7))).trans (ew7)) (w9) (((show A72 9 = A 9 from (eA72 9))).trans (ew9)) (w10) (((show A72 10 = A 10 from (eA72 10))).trans (ew10)) (w11) (((show A72 11 = A 11 from (eA72 11))).trans (ew11)) (w13) (((show A72 13 = A 13 from (eA72 13))).trans (ew13)) (show inr (z72) from pz72_0) (show 0 ≤ (z72) ∧ (z72) ≤ 17 from q_3798 pz72_1) (show 0 ≤ (u0_9) ∧ (u0_9) ≤ (u0_9) ∧ (u0_9) ≤ (u0_8) from q_3590 h3) (show (u0_9) ≤ (u0_18) from q_1468 h4) (show (IMP ((z72) = 0) (((w13)) 0 ≠ -1)) from hfn) (show IMP ((z72) = 0) (TI2 (((w13)) 0) ((((D 15 : Nat) : Int))) ((((D 3 : Nat) : Int)))) from hfi0) (show IMP ((z72) = 0) (SLB (((w13)) 0) ((((D 3 : Nat) : Int))) (SL ((w4)) ((u3_1)) ((u3_0)) ((w5)) ((w6)) ((w7)) ((w9)) ((w10)) ((w11)))) from hfi1) (show IMP ((z72) = 0) (ORB (((w13)) 0) ((((D 3 : Nat) : Int))) ((u3_0)) 9) from hfi2) (show 0 = 0 ∨ ((w13)) 0 = ((w13)) 0 by first | exact q_3804 | omega) (show 0 = 1 ∨ ((w13)) 1 = ((w13)) 1 by first | exact q_3803 | omega) (show 0 = 2 ∨ ((w13)) 2 = ((w13)) 2 by first | exact q_3802 | omega))
    · refine v_lR H (o := 13) rfl rfl rfl rfl rfl (n := n13) (en13) (show 0 ≤ 0 ∧ 0 < n13 from q_3793 h7 r16) (z := ((D 15 : Nat) : Int)) (v := .ref (D 15)) ((congrFun (ew13) (0)).trans b70) (vrf rfl) ?_
      refine Ew_of (pcₚ := 27) (fun _ => x_ifnonnull_t rfl rfl) ?_
      refine Ew_of (pcₚ := 28) (fun _ => x_iconst rfl) ?_
      have hfi0 : IMP (((0) : Int) = 0) (TI2 (((w13)) 0) ((((D 15 : Nat) : Int))) ((((D 3 : Nat) : Int)))) := by exact fun _ => (by assumption)
      have hfi1 : IMP (((0) : Int) = 0) (SLB (((w13)) 0) ((((D 3 : Nat) : Int))) (SL ((w4)) ((u3_1)) ((u3_0)) ((w5)) ((w6)) ((w7)) ((w9)) ((w10)) ((w11)))) := by exact fun _ => (by assumption)
      have hfi2 : IMP (((0) : Int) = 0) (ORB (((w13)) 0) ((((D 3 : Nat) : Int))) ((u3_0)) 9) := by exact fun _ => (by assumption)
      have hfn : (IMP (((0) : Int) = 0) (((w13)) 0 ≠ -1)) := by exact fun _ => (by omega)
      exact w_ireturn rfl (k (0) _ _ _ H O (SF_refl) (SA_refl) (u0_9) ((eu0_9)) (u3_0) ((eu3_0)) (w4) (ew4) (w5) (ew5) (w6) (ew6) (w7) (ew7) (w9) (ew9) (w10) (ew10) (w11) (ew11) (w13) (ew13) (show inr (0) from h0) (show 0 ≤ (0) ∧ (0) ≤ 17 by first | exact q_3589 | omega) (show 0 ≤ (u0_9) ∧ (u0_9) ≤ (u0_9) ∧ (u0_9) ≤ (u0_8) from q_3590 h3) (show (u0_9) ≤ (u0_18) from q_1468 h4) (show (IMP ((0) = 0) (((w13)) 0 ≠ -1)) by assumption) (show IMP ((0) = 0) (TI2 (((w13)) 0) ((((D 15 : Nat) : Int))) ((((D 3 : Nat) : Int)))) by assumption) (show IMP ((0) = 0) (SLB (((w13)) 0) ((((D 3 : Nat) : Int))) (SL ((w4)) ((u3_1)) ((u3_0)) ((w5)) ((w6)) ((w7)) ((w9)) ((w10)) ((w11)))) by assumption) (show IMP ((0) = 0) (ORB (((w13)) 0) ((((D 3 : Nat) : Int))) ((u3_0)) 9) by assumption) (show 0 = 0 ∨ ((w13)) 0 = ((w13)) 0 by first | exact q_3804 | omega) (show 0 = 1 ∨ ((w13)) 1 = ((w13)) 1 by first | exact q_3803 | omega) (show 0 = 2 ∨ ((w13)) 2 = ((w13)) 2 by first | exact q_3802 | omega))
    · refine v_lR H (o := 13) rfl rfl rfl rfl rfl (n := n13) (en13) (show 0 ≤ 0 ∧ 0 < n13 from q_3793 h7 r16) (z := ((D 3 : Nat) : Int)) (v := .ref (D 3)) ((congrFun (ew13) (0)).trans b70) (vrf rfl) ?_
      refine Ew_of (pcₚ := 27) (fun _ => x_ifnonnull_t rfl rfl) ?_
      refine Ew_of (pcₚ := 28) (fun _ => x_iconst rfl) ?_
      have hfi0 : IMP (((0) : Int) = 0) (TI2 (((w13)) 0) ((((D 15 : Nat) : Int))) ((((D 3 : Nat) : Int)))) := by exact fun _ => (by assumption)
      have hfi1 : IMP (((0) : Int) = 0) (SLB (((w13)) 0) ((((D 3 : Nat) : Int))) (SL ((w4)) ((u3_1)) ((u3_0)) ((w5)) ((w6)) ((w7)) ((w9)) ((w10)) ((w11)))) := by exact fun _ => (by assumption)
      have hfi2 : IMP (((0) : Int) = 0) (ORB (((w13)) 0) ((((D 3 : Nat) : Int))) ((u3_0)) 9) := by exact fun _ => (by assumption)
      have hfn : (IMP (((0) : Int) = 0) (((w13)) 0 ≠ -1)) := by exact fun _ => (by omega)
      exact w_ireturn rfl (k (0) _ _ _ H O (SF_refl) (SA_refl) (u0_9) ((eu0_9)) (u3_0) ((eu3_0)) (w4) (ew4) (w5) (ew5) (w6) (ew6) (w7) (ew7) (w9) (ew9) (w10) (ew10) (w11) (ew11) (w13) (ew13) (show inr (0) from h0) (show 0 ≤ (0) ∧ (0) ≤ 17 by first | exact q_3589 | omega) (show 0 ≤ (u0_9) ∧ (u0_9) ≤ (u0_9) ∧ (u0_9) ≤ (u0_8) from q_3590 h3) (show (u0_9) ≤ (u0_18) from q_1468 h4) (show (IMP ((0) = 0) (((w13)) 0 ≠ -1)) by assumption) (show IMP ((0) = 0) (TI2 (((w13)) 0) ((((D 15 : Nat) : Int))) ((((D 3 : Nat) : Int)))) by assumption) (show IMP ((0) = 0) (SLB (((w13)) 0) ((((D 3 : Nat) : Int))) (SL ((w4)) ((u3_1)) ((u3_0)) ((w5)) ((w6)) ((w7)) ((w9)) ((w10)) ((w11)))) by assumption) (show IMP ((0) = 0) (ORB (((w13)) 0) ((((D 3 : Nat) : Int))) ((u3_0)) 9) by assumption) (show 0 = 0 ∨ ((w13)) 0 = ((w13)) 0 by first | exact q_3804 | omega) (show 0 = 1 ∨ ((w13)) 1 = ((w13)) 1 by first | exact q_3803 | omega) (show 0 = 2 ∨ ((w13)) 2 = ((w13)) 2 by first | exact q_3802 | omega))
theorem len_V249_c11_vn_oz_I0acls : (V249_c11_vn).length = 16 := by decide +kernel
theorem oz_I0acls_22 : vsub V249_c11_vn V184_Br [3, 1, 9, 4, 5, 6, 7, 8, 10, 11] = true := by decide +kernel
theorem oz_I0acls_23 : vsub V249_c11_vn V232 [0] = true := by decide +kernel
theorem oz_I0acls_24 : vsub V249_c11_vn V168 [3, 9, 4, 5, 6, 7, 8, 10, 11] = true := by decide +kernel
/-- Unpacker.unpackTable: this, this.in, this.ownTables, this.ownTables.1, this.ownTables.1.points, this.ownTables.1.masses, this.ownTables.1.mostBits, this.ownTables.1.starts, this.ownTables.1.used, this.ownTables.1.symbolAt, this.ownTables.1.numberAt, this.ownTables.1.placeOf, this.now, this.now.tables, this.known, this.known.1 -/
theorem C249_c11_vno {σE : rS} {D N : Nat → Nat} {F : hF} {A : hA} {d c s : Nat} {Q : wQ} (H : HW V249_c11_vn σE D N F A) (HT : STC σE) {a2 a3 : Int} (pf1 : HID (F 0 7 = (D 1 : Int))) (pf2 : HID (F 0 2 = (D 2 : Int))) (pf3 : HID (A 2 1 = (D 3 : Int))) (pf4 : HID (F 3 2 = (D 4 : Int))) (pf5 : HID (F 3 3 = (D 5 : Int))) (pf6 : HID (F 3 4 = (D 6 : Int))) (pf7 : HID (F 3 5 = (D 7 : Int))) (pf8 : HID (F 3 6 = (D 8 : Int))) (pf9 : HID (F 3 7 = (D 9 : Int))) (pf10 : HID (F 3 8 = (D 10 : Int))) (pf11 : HID (F 3 9 = (D 11 : Int))) (pf12 : HID (F 0 3 = (D 12 : Int))) (pf13 : HID (F 12 1 = (D 13 : Int))) (pf14 : HID (F 0 0 = (D 14 : Int))) (pf15 : HID (A 14 1 = (D 15 : Int))) (n1 : Int) (en1 : HID ((N 1 : Int) = n1)) (n2 : Int) (en2 : HID ((N 2 : Int) = n2)) (n4 : Int) (en4 : HID ((N 4 : Int) = n4)) (n5 : Int) (en5 : HID ((N 5 : Int) = n5)) (n6 : Int) (en6 : HID ((N 6 : Int) = n6)) (n7 : Int) (en7 : HID ((N 7 : Int) = n7)) (n8 : Int) (en8 : HID ((N 8 : Int) = n8)) (n9 : Int) (en9 : HID ((N 9 : Int) = n9)) (n10 : Int) (en10 : HID ((N 10 : Int) = n10)) (n11 : Int) (en11 : HID ((N 11 : Int) = n11)) (n13 : Int) (en13 : HID ((N 13 : Int) = n13)) (n14 : Int) (en14 : HID ((N 14 : Int) = n14)) (u0_8 : Int) (eu0_8 : HID (F 0 8 = u0_8)) (u0_9 : Int) (eu0_9 : HID (F 0 9 = u0_9)) (u0_18 : Int) (eu0_18 : HID (F 0 18 = u0_18)) (u3_0 : Int) (eu3_0 : HID (F 3 0 = u3_0)) (u3_1 : Int) (eu3_1 : HID (F 3 1 = u3_1)) (w4 : Int → Int) (ew4 : A 4 = w4) (w5 : Int → Int) (ew5 : A 5 = w5) (w6 : Int → Int) (ew6 : A 6 = w6) (w7 : Int → Int) (ew7 : A 7 = w7) (w9 : Int → Int) (ew9 : A 9 = w9) (w10 : Int → Int) (ew10 : A 10 = w10) (w11 : Int → Int) (ew11 : A 11 = w11) (w13 : Int → Int) (ew13 : A 13 = w13) (h0 : inr (1)) (h1 : inr (a2)) (h2 : inr (a3)) (h3 : 0 ≤ (u0_9) ∧ (u0_9) ≤ (u0_8) ∧ (u0_8) ≤ (n1) ∧ (n1) ≤ 65536) (h4 : (u0_9) ≤ (u0_18) ∧ (u0_18) ≤ (u0_8)) (h5 : 0 ≤ (a2) ∧ (a2) ≤ 3) (h6 : SHZD ((n4)) ((n5)) ((n6)) ((n7)) ((n8)) ((n9)) ((n10)) ((n11)) ((u3_1)) 32 256) (h7 : (n13) = 3 ∧ (n14) = 3 ∧ (n2) = 3) (h8 : TI2 (((w13)) 1) ((((D 15 : Nat) : Int))) ((((D 3 : Nat) : Int)))) (h9 : SLB (((w13)) 1) ((((D 3 : Nat) : Int))) (SL ((w4)) ((u3_1)) ((u3_0)) ((w5)) ((w6)) ((w7)) ((w9)) ((w10)) ((w11)))) (h10 : ORB (((w13)) 1) ((((D 3 : Nat) : Int))) ((u3_0)) 8) (k : ∀ (z : Int) (σ : rS) (Fₚ : hF) (Aₚ : hA), HW V249_c11_vn σ D N Fₚ Aₚ → OUT (V249_c11_vn).length D N σE c s D N σ c s → SF [(0, 9), (0, 21), (3, 0), (3, 10), (3, 11), (3, 12)] F Fₚ → SA [4, 5, 6, 7, 8, 9, 10, 11, 13] A Aₚ → ∀ y0_9 : Int, Fₚ 0 9 = y0_9 → ∀ y3_0 : Int, Fₚ 3 0 = y3_0 → ∀ v4 : Int → Int, Aₚ 4 = v4 → ∀ v5 : Int → Int, Aₚ 5 = v5 → ∀ v6 : Int → Int, Aₚ 6 = v6 → ∀ v7 : Int → Int, Aₚ 7 = v7 → ∀ v9 : Int → Int, Aₚ 9 = v9 → ∀ v10 : Int → Int, Aₚ 10 = v10 → ∀ v11 : Int → Int, Aₚ 11 = v11 → ∀ v13 : Int → Int, Aₚ 13 = v13 → (inr (z)) → (0 ≤ (z) ∧ (z) ≤ 17) → (0 ≤ (y0_9) ∧ (u0_9) ≤ (y0_9) ∧ (y0_9) ≤ (u0_8)) → ((y0_9) ≤ (u0_18)) → ((IMP ((z) = 0) (((v13)) 1 ≠ -1))) → (IMP ((z) = 0) (TI2 (((v13)) 1) ((((D 15 : Nat) : Int))) ((((D 3 : Nat) : Int))))) → (IMP ((z) = 0) (SLB (((v13)) 1) ((((D 3 : Nat) : Int))) (SL ((v4)) ((u3_1)) ((y3_0)) ((v5)) ((v6)) ((v7)) ((v9)) ((v10)) ((v11))))) → (IMP ((z) = 0) (ORB (((v13)) 1) ((((D 3 : Nat) : Int))) ((y3_0)) 8)) → (1 = 0 ∨ ((v13)) 0 = ((w13)) 0) → (1 = 1 ∨ ((v13)) 1 = ((w13)) 1) → (1 = 2 ∨ ((v13)) 2 = ((w13)) 2) → Q (some (I z)) σ c s) : Ew 249 (d + 2) 0 (rargs 0 [.ref (D 0), I 1, I a2, I a3]) [] σE c s Q := by
  have O := OUT_refl (n := (V249_c11_vn).length) (D := D) (N := N) (σ := σE) (c := c) (s := s)
  have HE := H
  have r1 : (-2147483648 : Int) ≤ u0_8 ∧ u0_8 ≤ 2147483647 := rngE (show (-2147483648 : Int) ≤ F 0 8 ∧ F 0 8 ≤ 2147483647 from H.krg 0 8 (ltn len_V249_c11_vn_oz_I0acls rfl)) (show F 0 8 = u0_8 from (eu0_8))
  have r2 : (-2147483648 : Int) ≤ u0_9 ∧ u0_9 ≤ 2147483647 := rngE (show (-2147483648 : Int) ≤ F 0 9 ∧ F 0 9 ≤ 2147483647 from H.krg 0 9 (ltn len_V249_c11_vn_oz_I0acls rfl)) (show F 0 9 = u0_9 from (eu0_9))
  have r3 : (-2147483648 : Int) ≤ u0_18 ∧ u0_18 ≤ 2147483647 := rngE (show (-2147483648 : Int) ≤ F 0 18 ∧ F 0 18 ≤ 2147483647 from H.krg 0 18 (ltn len_V249_c11_vn_oz_I0acls rfl)) (show F 0 18 = u0_18 from (eu0_18))
  have r4 : (-2147483648 : Int) ≤ u3_0 ∧ u3_0 ≤ 2147483647 := rngE (show (-2147483648 : Int) ≤ F 3 0 ∧ F 3 0 ≤ 2147483647 from H.krg 3 0 (ltn len_V249_c11_vn_oz_I0acls rfl)) (show F 3 0 = u3_0 from (eu3_0))
  have r5 : (-2147483648 : Int) ≤ u3_1 ∧ u3_1 ≤ 2147483647 := rngE (show (-2147483648 : Int) ≤ F 3 1 ∧ F 3 1 ≤ 2147483647 from H.krg 3 1 (ltn len_V249_c11_vn_oz_I0acls rfl)) (show F 3 1 = u3_1 from (eu3_1))
  have r6 : (0 : Int) ≤ n1 ∧ n1 ≤ 1000000 := nleE (H.nle 1 (ltn len_V249_c11_vn_oz_I0acls rfl)) (show (N 1 : Int) = n1 from en1)
  have r7 : (0 : Int) ≤ n2 ∧ n2 ≤ 1000000 := nleE (H.nle 2 (ltn len_V249_c11_vn_oz_I0acls rfl)) (show (N 2 : Int) = n2 from en2)
  have r8 : (0 : Int) ≤ n4 ∧ n4 ≤ 1000000 := nleE (H.nle 4 (ltn len_V249_c11_vn_oz_I0acls rfl)) (show (N 4 : Int) = n4 from en4)
  have r9 : (0 : Int) ≤ n5 ∧ n5 ≤ 1000000 := nleE (H.nle 5 (ltn len_V249_c11_vn_oz_I0acls rfl)) (show (N 5 : Int) = n5 from en5)
  have r10 : (0 : Int) ≤ n6 ∧ n6 ≤ 1000000 := nleE (H.nle 6 (ltn len_V249_c11_vn_oz_I0acls rfl)) (show (N 6 : Int) = n6 from en6)
  have r11 : (0 : Int) ≤ n7 ∧ n7 ≤ 1000000 := nleE (H.nle 7 (ltn len_V249_c11_vn_oz_I0acls rfl)) (show (N 7 : Int) = n7 from en7)
  have r12 : (0 : Int) ≤ n8 ∧ n8 ≤ 1000000 := nleE (H.nle 8 (ltn len_V249_c11_vn_oz_I0acls rfl)) (show (N 8 : Int) = n8 from en8)
  have r13 : (0 : Int) ≤ n9 ∧ n9 ≤ 1000000 := nleE (H.nle 9 (ltn len_V249_c11_vn_oz_I0acls rfl)) (show (N 9 : Int) = n9 from en9)
  have r14 : (0 : Int) ≤ n10 ∧ n10 ≤ 1000000 := nleE (H.nle 10 (ltn len_V249_c11_vn_oz_I0acls rfl)) (show (N 10 : Int) = n10 from en10)
  have r15 : (0 : Int) ≤ n11 ∧ n11 ≤ 1000000 := nleE (H.nle 11 (ltn len_V249_c11_vn_oz_I0acls rfl)) (show (N 11 : Int) = n11 from en11)
  have r16 : (0 : Int) ≤ n13 ∧ n13 ≤ 1000000 := nleE (H.nle 13 (ltn len_V249_c11_vn_oz_I0acls rfl)) (show (N 13 : Int) = n13 from en13)
  have r17 : (0 : Int) ≤ n14 ∧ n14 ≤ 1000000 := nleE (H.nle 14 (ltn len_V249_c11_vn_oz_I0acls rfl)) (show (N 14 : Int) = n14 from en14)
  have hszq : SHZD ((n4)) ((n5)) ((n6)) ((n7)) ((n8)) ((n9)) ((n10)) ((n11)) ((u3_1)) 32 256 := h6
  unfold SHZD at hszq
  have hnea : (((D 15 : Nat) : Int)) ≠ (((D 3 : Nat) : Int)) := dneZ H 15 3 rfl rfl rfl
  refine Ew_of (pcₚ := 1) (fun _ => x_iload_n rfl rfl) ?_
  refine Ew_of (pcₚ := 2) (fun _ => x_iconst rfl) ?_
  refine w_icmpne (t := 29) rfl rfl (show inr (a2) from h1) (show inr (3) from q_66) (fun b18 => ?_) (fun b18 => ?_)
  · refine Ew_of (pcₚ := 30) (fun _ => x_aload_n rfl rfl) ?_
    refine v_g H (o := 0) (v := .ref (D 12)) rfl rfl rfl rfl rfl (vrf (pf12)) ?_
    refine v_g H (o := 12) (v := .ref (D 13)) rfl rfl rfl rfl rfl (vrf (pf13)) ?_
    refine Ew_of (pcₚ := 37) (fun _ => x_iload_n rfl rfl) ?_
    refine Ew_of (pcₚ := 38) (fun _ => x_iload_n rfl rfl) ?_
    refine w_ifne (t := 50) rfl rfl (show inr (a2) from h1) (fun b19 => ?_) (fun b19 => ?_)
    · refine Ew_of (pcₚ := 51) (fun _ => x_aload_n rfl rfl) ?_
      refine v_g H (o := 0) (v := .ref (D 2)) rfl rfl rfl rfl rfl (vrf (pf2)) ?_
      refine Ew_of (pcₚ := 55) (fun _ => x_iload_n rfl rfl) ?_
      have hs_ := upd1_s (a := ((w13))) (j := 1) (z := (((D 3 : Nat) : Int)))
      have hu0_ : (1 : Int) = 0 ∨ upd1 ((w13)) 1 ((((D 3 : Nat) : Int))) 0 = ((w13)) 0 := by by_cases w : (0 : Int) = 1; exact .inl (by omega); exact .inr (upd1_o w)
      have hu1_ : (1 : Int) = 1 ∨ upd1 ((w13)) 1 ((((D 3 : Nat) : Int))) 1 = ((w13)) 1 := by by_cases w : (1 : Int) = 1; exact .inl (by omega); exact .inr (upd1_o w)
      have hu2_ : (1 : Int) = 2 ∨ upd1 ((w13)) 1 ((((D 3 : Nat) : Int))) 2 = ((w13)) 2 := by by_cases w : (2 : Int) = 1; exact .inl (by omega); exact .inr (upd1_o w)
      refine v_lR H (o := 2) rfl rfl rfl rfl rfl (n := n2) (en2) (show 0 ≤ 1 ∧ 1 < n2 from q_3805 h7 r7) (z := ((D 3 : Nat) : Int)) (v := .ref (D 3)) (pf3) (vrf rfl) ?_
      refine v_sR H (o := 13) (z := ((D 3 : Nat) : Int)) (v := .ref (D 3)) rfl rfl rfl rfl rfl (n := n13) (en13) (show 0 ≤ 1 ∧ 1 < n13 from q_3806 h7 r16) (show (-1 : Int) ≤ ((D 3 : Nat) : Int) by omega) (vrf rfl) (rkinR H (x := 3) rfl rfl rfl) (fun σ H Oₚ => ?_)
      have O := OUT_trans O Oₚ
      have cAu20 : SA oz_I0aclsl_0 A (updA A 13 (1) (((D 3 : Nat) : Int))) := SA_upd (SA_refl) rfl
      have mAu20 := SAm_of cAu20 oz_I0acls_4
      refine Ew_of (pcₚ := 58) (fun _ => x_iload_n rfl rfl) ?_
      refine Ew_of (pcₚ := 59) (fun _ => x_iconst rfl) ?_
      refine w_icmpne (t := 138) rfl rfl (show inr (a2) from h1) (show inr (1) from h0) (fun b21 => ?_) (fun b21 => ?_)
      · refine Ew_of (pcₚ := 139) (fun _ => x_iload_n rfl rfl) ?_
        refine Ew_of (pcₚ := 140) (fun _ => x_iconst rfl) ?_
        refine w_icmpne (t := 190) rfl rfl (show inr (a2) from h1) (show inr (2) from q_55) (fun b22 => ?_) (fun b22 => ?_)
        · refine Ew_of (pcₚ := 191) (fun _ => x_iconst rfl) ?_
          have hfi0 : IMP (((0) : Int) = 0) (TI2 (((upd1 (w13) (1) (((D 3 : Nat) : Int)))) 1) ((((D 15 : Nat) : Int))) ((((D 3 : Nat) : Int)))) := by exact fun q => absurd q (by omega)
          have hfi1 : IMP (((0) : Int) = 0) (SLB (((upd1 (w13) (1) (((D 3 : Nat) : Int)))) 1) ((((D 3 : Nat) : Int))) (SL ((w4)) ((u3_1)) ((u3_0)) ((w5)) ((w6)) ((w7)) ((w9)) ((w10)) ((w11)))) := by exact fun q => absurd q (by omega)
          have hfi2 : IMP (((0) : Int) = 0) (ORB (((upd1 (w13) (1) (((D 3 : Nat) : Int)))) 1) ((((D 3 : Nat) : Int))) ((u3_0)) 8) := by exact fun q => absurd q (by omega)
          have hfn : (IMP (((0) : Int) = 0) (((upd1 (w13) (1) (((D 3 : Nat) : Int)))) 1 ≠ -1)) := by exact fun q => absurd q (by omega)
          exact w_ireturn rfl (k (0) _ _ _ H O (SF_refl) (cAu20) (u0_9) ((eu0_9)) (u3_0) ((eu3_0)) (w4) (ew4) (w5) (ew5) (w6) (ew6) (w7) (ew7) (w9) (ew9) (w10) (ew10) (w11) (ew11) (upd1 (w13) (1) (((D 3 : Nat) : Int))) (congrArg (fun q => upd1 q (1) (((D 3 : Nat) : Int))) (ew13)) (show inr (0) from q_20) (show 0 ≤ (0) ∧ (0) ≤ 17 by first | exact q_3589 | omega) (show 0 ≤ (u0_9) ∧ (u0_9) ≤ (u0_9) ∧ (u0_9) ≤ (u0_8) from q_3590 h3) (show (u0_9) ≤ (u0_18) from q_1468 h4) (show (IMP ((0) = 0) (((upd1 (w13) (1) (((D 3 : Nat) : Int)))) 1 ≠ -1)) by assumption) (show IMP ((0) = 0) (TI2 (((upd1 (w13) (1) (((D 3 : Nat) : Int)))) 1) ((((D 15 : Nat) : Int))) ((((D 3 : Nat) : Int)))) by assumption) (show IMP ((0) = 0) (SLB (((upd1 (w13) (1) (((D 3 : Nat) : Int)))) 1) ((((D 3 : Nat) : Int))) (SL ((w4)) ((u3_1)) ((u3_0)) ((w5)) ((w6)) ((w7)) ((w9)) ((w10)) ((w11)))) by assumption) (show IMP ((0) = 0) (ORB (((upd1 (w13) (1) (((D 3 : Nat) : Int)))) 1) ((((D 3 : Nat) : Int))) ((u3_0)) 8) by assumption) (show 1 = 0 ∨ ((upd1 (w13) (1) (((D 3 : Nat) : Int)))) 0 = ((w13)) 0 by omega) (show 1 = 1 ∨ ((upd1 (w13) (1) (((D 3 : Nat) : Int)))) 1 = ((w13)) 1 by first | exact q_3503 | omega) (show 1 = 2 ∨ ((upd1 (w13) (1) (((D 3 : Nat) : Int)))) 2 = ((w13)) 2 by omega))
        · refine Ew_of (pcₚ := 144) (fun _ => x_aload_n rfl rfl) ?_
          refine v_g H (o := 0) (v := .ref (D 2)) rfl rfl rfl rfl rfl (vrf (pf2)) ?_
          refine Ew_of (pcₚ := 148) (fun _ => x_iload_n rfl rfl) ?_
          refine v_lR H (o := 2) rfl rfl rfl rfl rfl (n := n2) (en2) (show 0 ≤ 1 ∧ 1 < n2 from q_3805 h7 r7) (z := ((D 3 : Nat) : Int)) (v := .ref (D 3)) ((mAu20 2 rfl 1).trans (pf3)) (vrf rfl) ?_
          refine Ew_of (pcₚ := 150) (fun _ => x_aload_n rfl rfl) ?_
          refine v_g H (o := 0) (v := .ref (D 1)) rfl rfl rfl rfl rfl (vrf (pf1)) ?_
          refine Ew_of (pcₚ := 154) (fun _ => x_aload_n rfl rfl) ?_
          refine v_g H (o := 0) (v := I (u0_9)) rfl rfl rfl rfl rfl (congrArg (fun z : Int => I z) ((eu0_9) : F 0 9 = u0_9)) ?_
          refine Ew_of (pcₚ := 158) (fun _ => x_aload_n rfl rfl) ?_
          refine v_g H (o := 0) (v := I (u0_18)) rfl rfl rfl rfl rfl (congrArg (fun z : Int => I z) ((eu0_18) : F 0 18 = u0_18)) ?_
          refine Ew_of (pcₚ := 164) (fun _ => x_getstatic rfl) ?_
          refine Ew_of (pcₚ := 165) (fun _ => x_iload_n rfl rfl) ?_
          refine v_stI (STC_out HT HE O) (b := 2) (n := 3) rfl rfl rfl rfl (show 0 ≤ 1 ∧ 1 < 3 from q_3502) (fun v23 ev23 qv23 => ?_)
          have hgo := ev23
          have hgv : ((v23) : Int) = 8 := by rw [← hgo]; rfl
          have hpg : p2 ((v23)) = 256 := by rw [hgv]; decide
          refine v_inv H (o := 3) rfl rfl rfl rfl rfl rfl (by rfl) (C184_Br (D := puc 26643665609639073069400579 D) (N := puc 26643665609639073069400579 N) (HW_subc H oz_I0acls_22 oz_I0acls_6) (pf9) (pf4) (pf5) (pf6) (pf7) (pf8) (pf10) (pf11) (n1) (en1) (n9) (en9) (n4) (en4) (n5) (en5) (n6) (en6) (n7) (en7) (n8) (en8) (n10) (en10) (n11) (en11) (u3_0) ((eu3_0)) (u3_1) ((eu3_1)) (w9) (ew9) (w4) (ew4) (w5) (ew5) (w6) (ew6) (w7) (ew7) (w10) (ew10) (w11) (ew11) (show inr (u0_9) from q_3585 h3) (show inr (u0_18) from q_22 r3) (show inr (v23) from qv23) (show 0 ≤ (u0_9) ∧ (u0_9) ≤ (u0_18) ∧ (u0_18) ≤ (n1) ∧ (n1) ≤ 65536 from q_3794 h3 h4) (show 5 ≤ (v23) ∧ (v23) ≤ 9 ∧ p2 (v23) ≤ (n9) by omega) (show (n4) = (u3_1) ∧ (n5) = (u3_1) ∧ (n6) = (u3_1) ∧ (n7) = (u3_1) ∧ (n8) = (u3_1) ∧ (n10) = (n9) ∧ (n11) = (n9) ∧ 1 ≤ (u3_1) ∧ (u3_1) ≤ 64 by omega) (fun z24 σ24 F24ₚ A24ₚ Hₚ Oₚ hS24 hA24 y24_0_0 (ey24_0_0 : HID _) w24_2 ew24_2 w24_3 ew24_3 w24_4 ew24_4 w24_5 ew24_5 w24_6 ew24_6 w24_8 ew24_8 w24_9 ew24_9 (pq24_0 : HID _) pz24_0 pz24_1 pz24_2 pz24_3 => ⟨rfl, ?_⟩))
          refine v_backc (c := c) (s := s) H oz_I0acls_22 oz_I0acls_6 Hₚ Oₚ (fun F24 A24 H Oₚ eF24 eA24 => ?_)
          have O := OUT_trans O Oₚ
          -- Share.hear
          have cF24 : SF oz_I0aclsl_1 F F24 := SF_trans (SF_refl) (SF_gluc (ι := oz_I0aclsl_2) oz_I0acls_6 hS24 eF24 (by decide +kernel)) (any_sub (lₚ := [(3, 0), (3, 10), (3, 11), (3, 12)]) (by decide +kernel))
          have mF24 := SFm_of cF24 oz_I0acls_5
          have cA24 : SA oz_I0aclsl_0 A A24 := SA_trans (cAu20) (SA_gluc (ι := oz_I0aclsl_2) oz_I0acls_6 hA24 eA24 (by decide +kernel)) (any_subA (lₚ := [4, 5, 6, 7, 8, 9, 10, 11]) (by decide +kernel))
          have mA24 := SAm_of cA24 oz_I0acls_4
          have pl24_0 : HID (F24 3 10 = (D 1 : Int)) := (eF24 3 10).trans (pq24_0)
          have r25 : (-2147483648 : Int) ≤ y24_0_0 ∧ y24_0_0 ≤ 2147483647 := rngE (show (-2147483648 : Int) ≤ F24 3 0 ∧ F24 3 0 ≤ 2147483647 from H.krg 3 0 (ltn len_V249_c11_vn_oz_I0acls rfl)) (show F24 3 0 = y24_0_0 from ((eF24 3 0).trans ey24_0_0))
          refine Ew_of (pcₚ := 171) (fun _ => x_istore rfl) ?_
          refine Ew_of (pcₚ := 173) (fun _ => x_iload rfl rk_s) ?_
          refine w_ifge (t := 184) rfl rfl (show inr (z24) from pz24_0) (fun b26 => ?_) (fun b26 => ?_)
          · have hown := Or.resolve_left pz24_3 (by omega)
            have hord : (y24_0_0) ≤ 8 := q_3807 b26 hgv pz24_2 r25
            refine Ew_of (pcₚ := 185) (fun _ => x_aload_n rfl (rk_o (rfl) rfl rfl)) ?_
            refine Ew_of (pcₚ := 187) (fun _ => x_iload rfl rk_s) ?_
            refine v_p H (o := 0) (z := z24) (v := I (z24)) rfl rfl rfl rfl rfl rfl rfl rfl (show (-2147483648 : Int) ≤ z24 ∧ z24 ≤ 2147483647 from q_3761 b26 pz24_0) (fun σ H Oₚ => ?_)
            have O := OUT_trans O Oₚ
            have cFu27 : SF oz_I0aclsl_1 F (updF F24 0 9 (z24)) := SF_upd (cF24) rfl
            have mFu27 := SFm_of cFu27 oz_I0acls_5
            refine Ew_of (pcₚ := 191) (fun _ => x_iconst rfl) ?_
            have hfi0 : IMP (((0) : Int) = 0) (TI2 (((upd1 (w13) (1) (((D 3 : Nat) : Int)))) 1) ((((D 15 : Nat) : Int))) ((((D 3 : Nat) : Int)))) := by exact fun _ => .inr (by omega)
            have hfi1 : IMP (((0) : Int) = 0) (SLB (((upd1 (w13) (1) (((D 3 : Nat) : Int)))) 1) ((((D 3 : Nat) : Int))) (SL ((w24_3)) ((u3_1)) ((y24_0_0)) ((w24_4)) ((w24_5)) ((w24_6)) ((w24_2)) ((w24_8)) ((w24_9)))) := by exact fun _ => .inr hown
            have hfi2 : IMP (((0) : Int) = 0) (ORB (((upd1 (w13) (1) (((D 3 : Nat) : Int)))) 1) ((((D 3 : Nat) : Int))) ((y24_0_0)) 8) := by exact fun _ => .inr (by omega)
            have hfn : (IMP (((0) : Int) = 0) (((upd1 (w13) (1) (((D 3 : Nat) : Int)))) 1 ≠ -1)) := by exact fun _ => (by omega)
            exact w_ireturn rfl (k (0) _ _ _ H O (cFu27) (cA24) (z24) (rfl) (y24_0_0) (((eF24 3 0).trans ey24_0_0)) (w24_3) ((eA24 4).trans ew24_3) (w24_4) ((eA24 5).trans ew24_4) (w24_5) ((eA24 6).trans ew24_5) (w24_6) ((eA24 7).trans ew24_6) (w24_2) ((eA24 9).trans ew24_2) (w24_8) ((eA24 10).trans ew24_8) (w24_9) ((eA24 11).trans ew24_9) (upd1 (w13) (1) (((D 3 : Nat) : Int))) (((show A24 13 = (updA A 13 (1) (((D 3 : Nat) : Int))) 13 from (eA24 13))).trans (congrArg (fun q => upd1 q (1) (((D 3 : Nat) : Int))) (ew13))) (show inr (0) from q_20) (show 0 ≤ (0) ∧ (0) ≤ 17 by first | exact q_3589 | omega) (show 0 ≤ (z24) ∧ (u0_9) ≤ (z24) ∧ (z24) ≤ (u0_8) from q_3797 b26 h3 h4 pz24_1 pz24_3) (show (z24) ≤ (u0_18) from q_3796 b26 pz24_1 pz24_3 r3) (show (IMP ((0) = 0) (((upd1 (w13) (1) (((D 3 : Nat) : Int)))) 1 ≠ -1)) by assumption) (show IMP ((0) = 0) (TI2 (((upd1 (w13) (1) (((D 3 : Nat) : Int)))) 1) ((((D 15 : Nat) : Int))) ((((D 3 : Nat) : Int)))) by assumption) (show IMP ((0) = 0) (SLB (((upd1 (w13) (1) (((D 3 : Nat) : Int)))) 1) ((((D 3 : Nat) : Int))) (SL ((w24_3)) ((u3_1)) ((y24_0_0)) ((w24_4)) ((w24_5)) ((w24_6)) ((w24_2)) ((w24_8)) ((w24_9)))) by assumption) (show IMP ((0) = 0) (ORB (((upd1 (w13) (1) (((D 3 : Nat) : Int)))) 1) ((((D 3 : Nat) : Int))) ((y24_0_0)) 8) by assumption) (show 1 = 0 ∨ ((upd1 (w13) (1) (((D 3 : Nat) : Int)))) 0 = ((w13)) 0 by omega) (show 1 = 1 ∨ ((upd1 (w13) (1) (((D 3 : Nat) : Int)))) 1 = ((w13)) 1 by first | exact q_3503 | omega) (show 1 = 2 ∨ ((upd1 (w13) (1) (((D 3 : Nat) : Int)))) 2 = ((w13)) 2 by omega))
          · refine Ew_of (pcₚ := 177) (fun _ => x_aload_n rfl (rk_o (rfl) rfl rfl)) ?_
            refine Ew_of (pcₚ := 179) (fun _ => x_bipush (z := 16) rfl (by decide)) ?_
            refine Ew_of (pcₚ := 180) (fun _ => x_iload_n rfl (rk_o (rfl) rfl rfl)) ?_
            have r28 : (-2147483648 : Int) ≤ F 0 21 ∧ F 0 21 ≤ 2147483647 := rngE (show (-2147483648 : Int) ≤ F24 0 21 ∧ F24 0 21 ≤ 2147483647 from H.krg 0 21 (ltn len_V249_c11_vn_oz_I0acls rfl)) (show F24 0 21 = F 0 21 from ((show F24 0 21 = F 0 21 from (eF24 0 21))))
            refine v_inv H (o := 0) rfl rfl rfl rfl rfl rfl (by rfl) (C232 (D := puc 0 D) (N := puc 0 N) (HW_subc H oz_I0acls_23 oz_I0acls_7) (F 0 21) (((show F24 0 21 = F 0 21 from (eF24 0 21)))) (show inr (16) from q_86) (show inr (a3) from h2) (fun z29 σ29 F29ₚ A29ₚ Hₚ Oₚ hS29 hA29 y29_0_21 (ey29_0_21 : HID _) pz29_0 pz29_1 pz29_2 => ⟨rfl, ?_⟩))
            refine v_backc (c := c) (s := s) H oz_I0acls_23 oz_I0acls_7 Hₚ Oₚ (fun F29 A29 H Oₚ eF29 eA29 => ?_)
            have O := OUT_trans O Oₚ
            -- Unpacker.fail
            have cF29 : SF oz_I0aclsl_1 F F29 := SF_trans (cF24) (SF_gluc (ι := oz_I0aclsl_3) oz_I0acls_7 hS29 eF29 (by decide +kernel)) (any_sub (lₚ := [(0, 21)]) (by decide +kernel))
            have mF29 := SFm_of cF29 oz_I0acls_5
            have cA29 : SA oz_I0aclsl_0 A A29 := SA_trans (cA24) (SA_gluc (ι := oz_I0aclsl_3) oz_I0acls_7 hA29 eA29 (by decide +kernel)) (any_subA (lₚ := []) (by decide +kernel))
            have mA29 := SAm_of cA29 oz_I0acls_4
            have r30 : (-2147483648 : Int) ≤ y29_0_21 ∧ y29_0_21 ≤ 2147483647 := rngE (show (-2147483648 : Int) ≤ F29 0 21 ∧ F29 0 21 ≤ 2147483647 from H.krg 0 21 (ltn len_V249_c11_vn_oz_I0acls rfl)) (show F29 0 21 = y29_0_21 from ((eF29 0 21).trans ey29_0_21))
            have hfi0 : IMP (((z29) : Int) = 0) (TI2 (((upd1 (w13) (1) (((D 3 : Nat) : Int)))) 1) ((((D 15 : Nat) : Int))) ((((D 3 : Nat) : Int)))) := by exact fun q => absurd q (by omega)
            have hfi1 : IMP (((z29) : Int) = 0) (SLB (((upd1 (w13) (1) (((D 3 : Nat) : Int)))) 1) ((((D 3 : Nat) : Int))) (SL ((w24_3)) ((u3_1)) ((y24_0_0)) ((w24_4)) ((w24_5)) ((w24_6)) ((w24_2)) ((w24_8)) ((w24_9)))) := by exact fun q => absurd q (by omega)
            have hfi2 : IMP (((z29) : Int) = 0) (ORB (((upd1 (w13) (1) (((D 3 : Nat) : Int)))) 1) ((((D 3 : Nat) : Int))) ((y24_0_0)) 8) := by exact fun q => absurd q (by omega)
            have hfn : (IMP (((z29) : Int) = 0) (((upd1 (w13) (1) (((D 3 : Nat) : Int)))) 1 ≠ -1)) := by exact fun q => absurd q (by omega)
            exact w_ireturn rfl (k (z29) _ _ _ H O (cF29) (cA29) (u0_9) (((((show F29 0 9 = F24 0 9 from (eF29 0 9).trans (hS29 0 9 rfl))).trans ((show F24 0 9 = F 0 9 from (eF24 0 9)))).trans (eu0_9))) (y24_0_0) ((((show F29 3 0 = F24 3 0 from (eF29 3 0))).trans ((eF24 3 0).trans ey24_0_0))) (w24_3) (((show A29 4 = A24 4 from (eA29 4))).trans ((eA24 4).trans ew24_3)) (w24_4) (((show A29 5 = A24 5 from (eA29 5))).trans ((eA24 5).trans ew24_4)) (w24_5) (((show A29 6 = A24 6 from (eA29 6))).trans ((eA24 6).trans ew24_5)) (w24_6) (((show A29 7 = A24 7 from (eA29 7))).trans ((eA24 7).trans ew24_6)) (w24_2) (((show A29 9 = A24 9 from (eA29 9))).trans ((eA24 9).trans ew24_2)) (w24_8) (((show A29 10 = A24 10 from (eA29 10))).trans ((eA24 10).trans ew24_8)) (w24_9) (((show A29 11 = A24 11 from (eA29 11))).trans ((eA24 11).trans ew24_9)) (upd1 (w13) (1) (((D 3 : Nat) : Int))) (((show A29 13 = A24 13 from (eA29 13))).trans (((show A24 13 = (updA A 13 (1) (((D 3 : Nat) : Int))) 13 from (eA24 13))).trans (congrArg (fun q => upd1 q (1) (((D 3 : Nat) : Int))) (ew13)))) (show inr (z29) from pz29_0) (show 0 ≤ (z29) ∧ (z29) ≤ 17 from q_3798 pz29_1) (show 0 ≤ (u0_9) ∧ (u0_9) ≤ (u0_9) ∧ (u0_9) ≤ (u0_8) from q_3590 h3) (show (u0_9) ≤ (u0_18) from q_1468 h4) (show (IMP ((z29) = 0) (((upd1 (w13) (1) (((D 3 : Nat) : Int)))) 1 ≠ -1)) from hfn) (show IMP ((z29) = 0) (TI2 (((upd1 (w13) (1) (((D 3 : Nat) : Int)))) 1) ((((D 15 : Nat) : Int))) ((((D 3 : Nat) : Int)))) from hfi0) (show IMP ((z29) = 0) (SLB (((upd1 (w13) (1) (((D 3 : Nat) : Int)))) 1) ((((D 3 : Nat) : Int))) (SL ((w24_3)) ((u3_1)) ((y24_0_0)) ((w24_4)) ((w24_5)) ((w24_6)) ((w24_2)) ((w24_8)) ((w24_9)))) from hfi1) (show IMP ((z29) = 0) (ORB (((upd1 (w13) (1) (((D 3 : Nat) : Int)))) 1) ((((D 3 : Nat) : Int))) ((y24_0_0)) 8) from hfi2) (show 1 = 0 ∨ ((upd1 (w13) (1) (((D 3 : Nat) : Int)))) 0 = ((w13)) 0 by omega) (show 1 = 1 ∨ ((upd1 (w13) (1) (((D 3 : Nat) : Int)))) 1 = ((w13)) 1 by first | exact q_3503 | omega) (show 1 = 2 ∨ ((upd1 (w13) (1) (((D 3 : Nat) : Int)))) 2 = ((w13)) 2 by omega))
      · refine Ew_of (pcₚ := 63) (fun _ => x_aload_n rfl rfl) ?_
        refine v_g H (o := 0) (v := I (u0_9)) rfl rfl rfl rfl rfl (congrArg (fun z : Int => I z) ((eu0_9) : F 0 9 = u0_9)) ?_
        refine Ew_of (pcₚ := 67) (fun _ => x_aload_n rfl rfl) ?_
        refine v_g H (o := 0) (v := I (u0_18)) rfl rfl rfl rfl rfl (congrArg (fun z : Int => I z) ((eu0_18) : F 0 18 = u0_18)) ?_
        refine w_icmplt (t := 84) rfl rfl (show inr (u0_9) from q_3585 h3) (show inr (u0_18) from q_22 r3) (fun b31 => ?_) (fun b31 => ?_)
        · refine Ew_of (pcₚ := 85) (fun _ => x_aload_n rfl rfl) ?_
          refine v_g H (o := 0) (v := .ref (D 1)) rfl rfl rfl rfl rfl (vrf (pf1)) ?_
          refine Ew_of (pcₚ := 89) (fun _ => x_aload_n rfl rfl) ?_
          refine Ew_of (pcₚ := 90) (fun _ => x_dup rfl rfl) ?_
          refine v_g H (o := 0) (v := I (u0_9)) rfl rfl rfl rfl rfl (congrArg (fun z : Int => I z) ((eu0_9) : F 0 9 = u0_9)) ?_
          refine Ew_of (pcₚ := 94) (fun _ => x_dup_x1 rfl rfl) ?_
          refine Ew_of (pcₚ := 95) (fun _ => x_iconst rfl) ?_
          refine w_iadd rfl ?_
          refine v_p H (o := 0) (z := (u0_9 + 1)) (v := I ((u0_9 + 1))) rfl rfl rfl rfl rfl rfl rfl rfl (show (-2147483648 : Int) ≤ (u0_9 + 1) ∧ (u0_9 + 1) ≤ 2147483647 from q_3799 h3) (fun σ H Oₚ => ?_)
          have O := OUT_trans O Oₚ
          have cFu32 : SF oz_I0aclsl_1 F (updF F 0 9 ((u0_9 + 1))) := SF_upd (SF_refl) rfl
          have mFu32 := SFm_of cFu32 oz_I0acls_5
          refine v_lB H (o := 1) rfl rfl rfl rfl (n := n1) (en1) (show 0 ≤ u0_9 ∧ u0_9 < n1 from q_3635 b31 h3 h4) (fun v33 ev33 qv33 => ?_)
          have ev33 : (A 1) (u0_9) = v33 := (congrFun (funext (mAu20 1 rfl)) (u0_9)).symm.trans ev33
          refine Ew_of (pcₚ := 103) (fun _ => x_sipush (z := 255) rfl (by decide)) ?_
          refine w_iand rfl (show inr (v33) from q_2536 qv33) (show inr (255) from q_36) (fun z34 gz34 gaz34 gbz34 => ?_)
          refine Ew_of (pcₚ := 106) (fun _ => x_istore rfl) ?_
          refine Ew_of (pcₚ := 108) (fun _ => x_iload rfl rk_s) ?_
          refine Ew_of (pcₚ := 111) (fun _ => x_getstatic rfl) ?_
          refine Ew_of (pcₚ := 112) (fun _ => x_iload_n rfl (rk_o (rfl) rfl rfl)) ?_
          refine v_stI (STC_out HT HE O) (b := 3) (n := 3) rfl rfl rfl rfl (show 0 ≤ 1 ∧ 1 < 3 from q_3502) (fun v35 ev35 qv35 => ?_)
          have hlv := ev35
          have hlw : ((v35) : Int) = 31 := by rw [← hlv]; rfl
          refine w_icmple (t := 124) rfl rfl (show inr (z34) from gz34) (show inr (v35) from qv35) (fun b36 => ?_) (fun b36 => ?_)
          · refine Ew_of (pcₚ := 125) (fun _ => x_aload_n rfl (rk_o (rfl) rfl rfl)) ?_
            refine v_g H (o := 0) (v := .ref (D 2)) rfl rfl rfl rfl rfl (vrf ((mFu32 0 2 rfl).trans (pf2))) ?_
            refine Ew_of (pcₚ := 129) (fun _ => x_iload_n rfl (rk_o (rfl) rfl rfl)) ?_
            refine v_lR H (o := 2) rfl rfl rfl rfl rfl (n := n2) (en2) (show 0 ≤ 1 ∧ 1 < n2 from q_3805 h7 r7) (z := ((D 3 : Nat) : Int)) (v := .ref (D 3)) ((mAu20 2 rfl 1).trans (pf3)) (vrf rfl) ?_
            refine Ew_of (pcₚ := 132) (fun _ => x_iload rfl rk_s) ?_
            refine v_inv H (o := 3) rfl rfl rfl rfl rfl rfl (by rfl) (C168 (D := puc 52038409393826314588675 D) (N := puc 52038409393826314588675 N) (HW_subc H oz_I0acls_24 oz_I0acls_8) ((mFu32 3 7 rfl).trans (pf9)) ((mFu32 3 2 rfl).trans (pf4)) ((mFu32 3 3 rfl).trans (pf5)) ((mFu32 3 4 rfl).trans (pf6)) ((mFu32 3 5 rfl).trans (pf7)) ((mFu32 3 6 rfl).trans (pf8)) ((mFu32 3 8 rfl).trans (pf10)) ((mFu32 3 9 rfl).trans (pf11)) (n9) (en9) (n4) (en4) (n5) (en5) (n6) (en6) (n7) (en7) (n8) (en8) (n10) (en10) (n11) (en11) (u3_0) ((eu3_0)) (u3_1) (((mFu32 3 1 rfl).trans (eu3_1))) (w9) (ew9) (w4) (ew4) (w5) (ew5) (w6) (ew6) (w7) (ew7) (w10) (ew10) (w11) (ew11) (show inr (z34) from gz34) (show (n9) ≥ 1 by omega) (show (n4) = (u3_1) ∧ (n5) = (u3_1) ∧ (n6) = (u3_1) ∧ (n7) = (u3_1) ∧ (n8) = (u3_1) ∧ (n10) = (n9) ∧ (n11) = (n9) ∧ 1 ≤ (u3_1) ∧ (u3_1) ≤ 64 by omega) (show 0 ≤ (z34) ∧ (z34) < ((u3_1)) by omega) (fun σ37 F37ₚ A37ₚ Hₚ Oₚ hS37 hA37 y37_0_0 (ey37_0_0 : HID _) w37_1 ew37_1 w37_2 ew37_2 w37_3 ew37_3 w37_4 ew37_4 w37_5 ew37_5 w37_7 ew37_7 w37_8 ew37_8 pz37_0 pz37_1 => ⟨rfl, ?_⟩))
            refine v_backc (c := c) (s := s) H oz_I0acls_24 oz_I0acls_8 Hₚ Oₚ (fun F37 A37 H Oₚ eF37 eA37 => ?_)
            have O := OUT_trans O Oₚ
            -- Share.becomeAlone
            have cF37 : SF oz_I0aclsl_1 F F37 := SF_trans (cFu32) (SF_gluc (ι := oz_I0aclsl_4) oz_I0acls_8 hS37 eF37 (by decide +kernel)) (any_sub (lₚ := [(3, 0)]) (by decide +kernel))
            have mF37 := SFm_of cF37 oz_I0acls_5
            have cA37 : SA oz_I0aclsl_0 A A37 := SA_trans (cAu20) (SA_gluc (ι := oz_I0aclsl_4) oz_I0acls_8 hA37 eA37 (by decide +kernel)) (any_subA (lₚ := [4, 5, 6, 7, 8, 9, 10, 11]) (by decide +kernel))
            have mA37 := SAm_of cA37 oz_I0acls_4
            have r38 : (-2147483648 : Int) ≤ y37_0_0 ∧ y37_0_0 ≤ 2147483647 := rngE (show (-2147483648 : Int) ≤ F37 3 0 ∧ F37 3 0 ≤ 2147483647 from H.krg 3 0 (ltn len_V249_c11_vn_oz_I0acls rfl)) (show F37 3 0 = y37_0_0 from ((eF37 3 0).trans ey37_0_0))
            have hown := pz37_0
            refine Ew_of (pcₚ := 190) (fun _ => x_goto rfl rfl) ?_
            refine Ew_of (pcₚ := 191) (fun _ => x_iconst rfl) ?_
            have hfi0 : IMP (((0) : Int) = 0) (TI2 (((upd1 (w13) (1) (((D 3 : Nat) : Int)))) 1) ((((D 15 : Nat) : Int))) ((((D 3 : Nat) : Int)))) := by exact fun _ => .inr (by omega)
            have hfi1 : IMP (((0) : Int) = 0) (SLB (((upd1 (w13) (1) (((D 3 : Nat) : Int)))) 1) ((((D 3 : Nat) : Int))) (SL ((w37_2)) ((u3_1)) ((y37_0_0)) ((w37_3)) ((w37_4)) ((w37_5)) ((w37_1)) ((w37_7)) ((w37_8)))) := by exact fun _ => .inr hown
            have hfi2 : IMP (((0) : Int) = 0) (ORB (((upd1 (w13) (1) (((D 3 : Nat) : Int)))) 1) ((((D 3 : Nat) : Int))) ((y37_0_0)) 8) := by exact fun _ => .inr (by omega)
            have hfn : (IMP (((0) : Int) = 0) (((upd1 (w13) (1) (((D 3 : Nat) : Int)))) 1 ≠ -1)) := by exact fun _ => (by omega)
            exact w_ireturn rfl (k (0) _ _ _ H O (cF37) (cA37) ((u0_9 + 1)) (((show F37 0 9 = (updF F 0 9 ((u0_9 + 1))) 0 9 from (eF37 0 9)))) (y37_0_0) (((eF37 3 0).trans ey37_0_0)) (w37_2) ((eA37 4).trans ew37_2) (w37_3) ((eA37 5).trans ew37_3) (w37_4) ((eA37 6).trans ew37_4) (w37_5) ((eA37 7).trans ew37_5) (w37_1) ((eA37 9).trans ew37_1) (w37_7) ((eA37 10).trans ew37_7) (w37_8) ((eA37 11).trans ew37_8) (upd1 (w13) (1) (((D 3 : Nat) : Int))) (((show A37 13 = (updA A 13 (1) (((D 3 : Nat) : Int))) 13 from (eA37 13))).trans (congrArg (fun q => upd1 q (1) (((D 3 : Nat) : Int))) (ew13))) (show inr (0) from q_20) (show 0 ≤ (0) ∧ (0) ≤ 17 by first | exact q_3589 | omega) (show 0 ≤ ((u0_9 + 1)) ∧ (u0_9) ≤ ((u0_9 + 1)) ∧ ((u0_9 + 1)) ≤ (u0_8) from q_3800 b31 h3 h4) (show ((u0_9 + 1)) ≤ (u0_18) from q_1328 b31) (show (IMP ((0) = 0) (((upd1 (w13) (1) (((D 3 : Nat) : Int)))) 1 ≠ -1)) by assumption) (show IMP ((0) = 0) (TI2 (((upd1 (w13) (1) (((D 3 : Nat) : Int)))) 1) ((((D 15 : Nat) : Int))) ((((D 3 : Nat) : Int)))) by assumption) (show IMP ((0) = 0) (SLB (((upd1 (w13) (1) (((D 3 : Nat) : Int)))) 1) ((((D 3 : Nat) : Int))) (SL ((w37_2)) ((u3_1)) ((y37_0_0)) ((w37_3)) ((w37_4)) ((w37_5)) ((w37_1)) ((w37_7)) ((w37_8)))) by assumption) (show IMP ((0) = 0) (ORB (((upd1 (w13) (1) (((D 3 : Nat) : Int)))) 1) ((((D 3 : Nat) : Int))) ((y37_0_0)) 8) by assumption) (show 1 = 0 ∨ ((upd1 (w13) (1) (((D 3 : Nat) : Int)))) 0 = ((w13)) 0 by omega) (show 1 = 1 ∨ ((upd1 (w13) (1) (((D 3 : Nat) : Int)))) 1 = ((w13)) 1 by first | exact q_3503 | omega) (show 1 = 2 ∨ ((upd1 (w13) (1) (((D 3 : Nat) : Int)))) 2 = ((w13)) 2 by omega))
          · refine Ew_of (pcₚ := 117) (fun _ => x_aload_n rfl (rk_o (rfl) rfl rfl)) ?_
            refine Ew_of (pcₚ := 119) (fun _ => x_bipush (z := 16) rfl (by decide)) ?_
            refine Ew_of (pcₚ := 120) (fun _ => x_iload_n rfl (rk_o (rfl) rfl rfl)) ?_
            have r39 : (-2147483648 : Int) ≤ F 0 21 ∧ F 0 21 ≤ 2147483647 := H.krg 0 21 (ltn len_V249_c11_vn_oz_I0acls rfl)
            refine v_inv H (o := 0) rfl rfl rfl rfl rfl rfl (by rfl) (C232 (D := puc 0 D) (N := puc 0 N) (HW_subc H oz_I0acls_23 oz_I0acls_7) (F 0 21) (rfl) (show inr (16) from q_86) (show inr (a3) from h2) (fun z40 σ40 F40ₚ A40ₚ Hₚ Oₚ hS40 hA40 y40_0_21 (ey40_0_21 : HID _) pz40_0 pz40_1 pz40_2 => ⟨rfl, ?_⟩))
            refine v_backc (c := c) (s := s) H oz_I0acls_23 oz_I0acls_7 Hₚ Oₚ (fun F40 A40 H Oₚ eF40 eA40 => ?_)
            have O := OUT_trans O Oₚ
            -- Unpacker.fail
            have cF40 : SF oz_I0aclsl_1 F F40 := SF_trans (cFu32) (SF_gluc (ι := oz_I0aclsl_3) oz_I0acls_7 hS40 eF40 (by decide +kernel)) (any_sub (lₚ := [(0, 21)]) (by decide +kernel))
            have mF40 := SFm_of cF40 oz_I0acls_5
            have cA40 : SA oz_I0aclsl_0 A A40 := SA_trans (cAu20) (SA_gluc (ι := oz_I0aclsl_3) oz_I0acls_7 hA40 eA40 (by decide +kernel)) (any_subA (lₚ := []) (by decide +kernel))
            have mA40 := SAm_of cA40 oz_I0acls_4
            have r41 : (-2147483648 : Int) ≤ y40_0_21 ∧ y40_0_21 ≤ 2147483647 := rngE (show (-2147483648 : Int) ≤ F40 0 21 ∧ F40 0 21 ≤ 2147483647 from H.krg 0 21 (ltn len_V249_c11_vn_oz_I0acls rfl)) (show F40 0 21 = y40_0_21 from ((eF40 0 21).trans ey40_0_21))
            have hfi0 : IMP (((z40) : Int) = 0) (TI2 (((upd1 (w13) (1) (((D 3 : Nat) : Int)))) 1) ((((D 15 : Nat) : Int))) ((((D 3 : Nat) : Int)))) := by exact fun q => absurd q (by omega)
            have hfi1 : IMP (((z40) : Int) = 0) (SLB (((upd1 (w13) (1) (((D 3 : Nat) : Int)))) 1) ((((D 3 : Nat) : Int))) (SL ((w4)) ((u3_1)) ((u3_0)) ((w5)) ((w6)) ((w7)) ((w9)) ((w10)) ((w11)))) := by exact fun q => absurd q (by omega)
            have hfi2 : IMP (((z40) : Int) = 0) (ORB (((upd1 (w13) (1) (((D 3 : Nat) : Int)))) 1) ((((D 3 : Nat) : Int))) ((u3_0)) 8) := by exact fun q => absurd q (by omega)
            have hfn : (IMP (((z40) : Int) = 0) (((upd1 (w13) (1) (((D 3 : Nat) : Int)))) 1 ≠ -1)) := by exact fun q => absurd q (by omega)
            exact w_ireturn rfl (k (z40) _ _ _ H O (cF40) (cA40) ((u0_9 + 1)) (((show F40 0 9 = (updF F 0 9 ((u0_9 + 1))) 0 9 from (eF40 0 9).trans (hS40 0 9 rfl)))) (u3_0) ((((show F40 3 0 = (updF F 0 9 ((u0_9 + 1))) 3 0 from (eF40 3 0))).trans (eu3_0))) (w4) (((show A40 4 = (updA A 13 (1) (((D 3 : Nat) : Int))) 4 from (eA40 4))).trans (ew4)) (w5) (((show A40 5 = (updA A 13 (1) (((D 3 : Nat) : Int))) 5 from (eA40 5))).trans (ew5)) (w6) (((show A40 6 = (updA A 13 (1) (((D 3 : Nat) : Int))) 6 from (eA40 6))).trans (ew6)) (w7) (((show A40 7 = (updA A 13 (1) (((D 3 : Nat) : Int))) 7 from (eA40 7))).trans (ew7)) (w9) (((show A40 9 = (updA A 13 (1) (((D 3 : Nat) : Int))) 9 from (eA40 9))).trans (ew9)) (w10) (((show A40 10 = (updA A 13 (1) (((D 3 : Nat) : Int))) 10 from (eA40 10))).trans (ew10)) (w11) (((show A40 11 = (updA A 13 (1) (((D 3 : Nat) : Int))) 11 from (eA40 11))).trans (ew11)) (upd1 (w13) (1) (((D 3 : Nat) : Int))) (((show A40 13 = (updA A 13 (1) (((D 3 : Nat) : Int))) 13 from (eA40 13))).trans (congrArg (fun q => upd1 q (1) (((D 3 : Nat) : Int))) (ew13))) (show inr (z40) from pz40_0) (show 0 ≤ (z40) ∧ (z40) ≤ 17 from q_3798 pz40_1) (show 0 ≤ ((u0_9 + 1)) ∧ (u0_9) ≤ ((u0_9 + 1)) ∧ ((u0_9 + 1)) ≤ (u0_8) from q_3800 b31 h3 h4) (show ((u0_9 + 1)) ≤ (u0_18) from q_1328 b31) (show (IMP ((z40) = 0) (((upd1 (w13) (1) (((D 3 : Nat) : Int)))) 1 ≠ -1)) from hfn) (show IMP ((z40) = 0) (TI2 (((upd1 (w13) (1) (((D 3 : Nat) : Int)))) 1) ((((D 15 : Nat) : Int))) ((((D 3 : Nat) : Int)))) from hfi0) (show IMP ((z40) = 0) (SLB (((upd1 (w13) (1) (((D 3 : Nat) : Int)))) 1) ((((D 3 : Nat) : Int))) (SL ((w4)) ((u3_1)) ((u3_0)) ((w5)) ((w6)) ((w7)) ((w9)) ((w10)) ((w11)))) from hfi1) (show IMP ((z40) = 0) (ORB (((upd1 (w13) (1) (((D 3 : Nat) : Int)))) 1) ((((D 3 : Nat) : Int))) ((u3_0)) 8) from hfi2) (show 1 = 0 ∨ ((upd1 (w13) (1) (((D 3 : Nat) : Int)))) 0 = ((w13)) 0 by omega) (show 1 = 1 ∨ ((upd1 (w13) (1) (((D 3 : Nat) : Int)))) 1 = ((w13)) 1 by first | exact q_3503 | omega) (show 1 = 2 ∨ ((upd1 (w13) (1) (((D 3 : Nat) : Int)))) 2 = ((w13)) 2 by omega))
        · refine Ew_of (pcₚ := 74) (fun _ => x_aload_n rfl rfl) ?_
          refine Ew_of (pcₚ := 76) (fun _ => x_bipush (z := 10) rfl (by decide)) ?_
          refine Ew_of (pcₚ := 77) (fun _ => x_aload_n rfl rfl) ?_
          refine v_g H (o := 0) (v := I (u0_18)) rfl rfl rfl rfl rfl (congrArg (fun z : Int => I z) ((eu0_18) : F 0 18 = u0_18)) ?_
          have r42 : (-2147483648 : Int) ≤ F 0 21 ∧ F 0 21 ≤ 2147483647 := H.krg 0 21 (ltn len_V249_c11_vn_oz_I0acls rfl)
          refine v_inv H (o := 0) rfl rfl rfl rfl rfl rfl (by rfl) (C232 (D := puc 0 D) (N := puc 0 N) (HW_subc H oz_I0acls_23 oz_I0acls_7) (F 0 21) (rfl) (show inr (10) from q_532) (show inr (u0_18) from q_22 r3) (fun z43 σ43 F43ₚ A43ₚ Hₚ Oₚ hS43 hA43 y43_0_21 (ey43_0_21 : HID _) pz43_0 pz43_1 pz43_2 => ⟨rfl, ?_⟩))
          refine v_backc (c := c) (s := s) H oz_I0acls_23 oz_I0acls_7 Hₚ Oₚ (fun F43 A43 H Oₚ eF43 eA43 => ?_)
          have O := OUT_trans O Oₚ
          -- Unpacker.fail
          have cF43 : SF oz_I0aclsl_1 F F43 := SF_trans (SF_refl) (SF_gluc (ι := oz_I0aclsl_3) oz_I0acls_7 hS43 eF43 (by decide +kernel)) (any_sub (lₚ := [(0, 21)]) (by decide +kernel))
          have mF43 := SFm_of cF43 oz_I0acls_5
          have cA43 : SA oz_I0aclsl_0 A A43 := SA_trans (cAu20) (SA_gluc (ι := oz_I0aclsl_3) oz_I0acls_7 hA43 eA43 (by decide +kernel)) (any_subA (lₚ := []) (by decide +kernel))
          have mA43 := SAm_of cA43 oz_I0acls_4
          have r44 : (-2147483648 : Int) ≤ y43_0_21 ∧ y43_0_21 ≤ 2147483647 := rngE (show (-2147483648 : Int) ≤ F43 0 21 ∧ F43 0 21 ≤ 2147483647 from H.krg 0 21 (ltn len_V249_c11_vn_oz_I0acls rfl)) (show F43 0 21 = y43_0_21 from ((eF43 0 21).trans ey43_0_21))
          have hfi0 : IMP (((z43) : Int) = 0) (TI2 (((upd1 (w13) (1) (((D 3 : Nat) : Int)))) 1) ((((D 15 : Nat) : Int))) ((((D 3 : Nat) : Int)))) := by exact fun q => absurd q (by omega)
          have hfi1 : IMP (((z43) : Int) = 0) (SLB (((upd1 (w13) (1) (((D 3 : Nat) : Int)))) 1) ((((D 3 : Nat) : Int))) (SL ((w4)) ((u3_1)) ((u3_0)) ((w5)) ((w6)) ((w7)) ((w9)) ((w10)) ((w11)))) := by exact fun q => absurd q (by omega)
          have hfi2 : IMP (((z43) : Int) = 0) (ORB (((upd1 (w13) (1) (((D 3 : Nat) : Int)))) 1) ((((D 3 : Nat) : Int))) ((u3_0)) 8) := by exact fun q => absurd q (by omega)
          have hfn : (IMP (((z43) : Int) = 0) (((upd1 (w13) (1) (((D 3 : Nat) : Int)))) 1 ≠ -1)) := by exact fun q => absurd q (by omega)
          exact w_ireturn rfl (k (z43) _ _ _ H O (cF43) (cA43) (u0_9) ((((show F43 0 9 = F 0 9 from (eF43 0 9).trans (hS43 0 9 rfl))).trans (eu0_9))) (u3_0) ((((show F43 3 0 = F 3 0 from (eF43 3 0))).trans (eu3_0))) (w4) (((show A43 4 = (updA A 13 (1) (((D 3 : Nat) : Int))) 4 from (eA43 4))).trans (ew4)) (w5) (((show A43 5 = (updA A 13 (1) (((D 3 : Nat) : Int))) 5 from (eA43 5))).trans (ew5)) (w6) (((show A43 6 = (updA A 13 (1) (((D 3 : Nat) : Int))) 6 from (eA43 6))).trans (ew6)) (w7) (((show A43 7 = (updA A 13 (1) (((D 3 : Nat) : Int))) 7 from (eA43 7))).trans (ew7)) (w9) (((show A43 9 = (updA A 13 (1) (((D 3 : Nat) : Int))) 9 from (eA43 9))).trans (ew9)) (w10) (((show A43 10 = (updA A 13 (1) (((D 3 : Nat) : Int))) 10 from (eA43 10))).trans (ew10)) (w11) (((show A43 11 = (updA A 13 (1) (((D 3 : Nat) : Int))) 11 from (eA43 11))).trans (ew11)) (upd1 (w13) (1) (((D 3 : Nat) : Int))) (((show A43 13 = (updA A 13 (1) (((D 3 : Nat) : Int))) 13 from (eA43 13))).trans (congrArg (fun q => upd1 q (1) (((D 3 : Nat) : Int))) (ew13))) (show inr (z43) from pz43_0) (show 0 ≤ (z43) ∧ (z43) ≤ 17 from q_3651 pz43_1) (show 0 ≤ (u0_9) ∧ (u0_9) ≤ (u0_9) ∧ (u0_9) ≤ (u0_8) from q_3590 h3) (show (u0_9) ≤ (u0_18) from q_1468 h4) (show (IMP ((z43) = 0) (((upd1 (w13) (1) (((D 3 : Nat) : Int)))) 1 ≠ -1)) from hfn) (show IMP ((z43) = 0) (TI2 (((upd1 (w13) (1) (((D 3 : Nat) : Int)))) 1) ((((D 15 : Nat) : Int))) ((((D 3 : Nat) : Int)))) from hfi0) (show IMP ((z43) = 0) (SLB (((upd1 (w13) (1) (((D 3 : Nat) : Int)))) 1) ((((D 3 : Nat) : Int))) (SL ((w4)) ((u3_1)) ((u3_0)) ((w5)) ((w6)) ((w7)) ((w9)) ((w10)) ((w11)))) from hfi1) (show IMP ((z43) = 0) (ORB (((upd1 (w13) (1) (((D 3 : Nat) : Int)))) 1) ((((D 3 : Nat) : Int))) ((u3_0)) 8) from hfi2) (show 1 = 0 ∨ ((upd1 (w13) (1) (((D 3 : Nat) : Int)))) 0 = ((w13)) 0 by omega) (show 1 = 1 ∨ ((upd1 (w13) (1) (((D 3 : Nat) : Int)))) 1 = ((w13)) 1 by first | exact q_3503 | omega) (show 1 = 2 ∨ ((upd1 (w13) (1) (((D 3 : Nat) : Int)))) 2 = ((w13)) 2 by omega))
    · refine Ew_of (pcₚ := 42) (fun _ => x_aload_n rfl rfl) ?_
      refine v_g H (o := 0) (v := .ref (D 14)) rfl rfl rfl rfl rfl (vrf (pf14)) ?_
      refine Ew_of (pcₚ := 46) (fun _ => x_iload_n rfl rfl) ?_
      refine v_lR H (o := 14) rfl rfl rfl rfl rfl (n := n14) (en14) (show 0 ≤ 1 ∧ 1 < n14 from q_3808 h7 r17) (z := ((D 15 : Nat) : Int)) (v := .ref (D 15)) (pf15) (vrf rfl) ?_
      have hs_ := upd1_s (a := ((w13))) (j := 1) (z := (((D 15 : Nat) : Int)))
      have hu0_ : (1 : Int) = 0 ∨ upd1 ((w13)) 1 ((((D 15 : Nat) : Int))) 0 = ((w13)) 0 := by by_cases w : (0 : Int) = 1; exact .inl (by omega); exact .inr (upd1_o w)
      have hu1_ : (1 : Int) = 1 ∨ upd1 ((w13)) 1 ((((D 15 : Nat) : Int))) 1 = ((w13)) 1 := by by_cases w : (1 : Int) = 1; exact .inl (by omega); exact .inr (upd1_o w)
      have hu2_ : (1 : Int) = 2 ∨ upd1 ((w13)) 1 ((((D 15 : Nat) : Int))) 2 = ((w13)) 2 := by by_cases w : (2 : Int) = 1; exact .inl (by omega); exact .inr (upd1_o w)
      refine Ew_of (pcₚ := 56) (fun _ => x_goto rfl rfl) ?_
      refine v_sR H (o := 13) (z := ((D 15 : Nat) : Int)) (v := .ref (D 15)) rfl rfl rfl rfl rfl (n := n13) (en13) (show 0 ≤ 1 ∧ 1 < n13 from q_3806 h7 r16) (show (-1 : Int) ≤ ((D 15 : Nat) : Int) by omega) (vrf rfl) (rkinR H (x := 15) rfl rfl rfl) (fun σ H Oₚ => ?_)
      have O := OUT_trans O Oₚ
      have cAu45 : SA oz_I0aclsl_0 A (updA A 13 (1) (((D 15 : Nat) : Int))) := SA_upd (SA_refl) rfl
      have mAu45 := SAm_of cAu45 oz_I0acls_4
      refine Ew_of (pcₚ := 58) (fun _ => x_iload_n rfl rfl) ?_
      refine Ew_of (pcₚ := 59) (fun _ => x_iconst rfl) ?_
      refine w_icmpne (t := 138) rfl rfl (show inr (a2) from h1) (show inr (1) from h0) (fun b46 => ?_) (fun b46 => ?_)
      · refine Ew_of (pcₚ := 139) (fun _ => x_iload_n rfl rfl) ?_
        refine Ew_of (pcₚ := 140) (fun _ => x_iconst rfl) ?_
        refine w_icmpne (t := 190) rfl rfl (show inr (a2) from h1) (show inr (2) from q_55) (fun b47 => ?_) (fun b47 => ?_)
        · refine Ew_of (pcₚ := 191) (fun _ => x_iconst rfl) ?_
          have hfi0 : IMP (((0) : Int) = 0) (TI2 (((upd1 (w13) (1) (((D 15 : Nat) : Int)))) 1) ((((D 15 : Nat) : Int))) ((((D 3 : Nat) : Int)))) := by exact fun _ => .inr (by omega)
          have hfi1 : IMP (((0) : Int) = 0) (SLB (((upd1 (w13) (1) (((D 15 : Nat) : Int)))) 1) ((((D 3 : Nat) : Int))) (SL ((w4)) ((u3_1)) ((u3_0)) ((w5)) ((w6)) ((w7)) ((w9)) ((w10)) ((w11)))) := by exact fun _ => .inl (by omega)
          have hfi2 : IMP (((0) : Int) = 0) (ORB (((upd1 (w13) (1) (((D 15 : Nat) : Int)))) 1) ((((D 3 : Nat) : Int))) ((u3_0)) 8) := by exact fun _ => .inl (by omega)
          have hfn : (IMP (((0) : Int) = 0) (((upd1 (w13) (1) (((D 15 : Nat) : Int)))) 1 ≠ -1)) := by exact fun _ => (by omega)
          exact w_ireturn rfl (k (0) _ _ _ H O (SF_refl) (cAu45) (u0_9) ((eu0_9)) (u3_0) ((eu3_0)) (w4) (ew4) (w5) (ew5) (w6) (ew6) (w7) (ew7) (w9) (ew9) (w10) (ew10) (w11) (ew11) (upd1 (w13) (1) (((D 15 : Nat) : Int))) (congrArg (fun q => upd1 q (1) (((D 15 : Nat) : Int))) (ew13)) (show inr (0) from q_20) (show 0 ≤ (0) ∧ (0) ≤ 17 by first | exact q_3589 | omega) (show 0 ≤ (u0_9) ∧ (u0_9) ≤ (u0_9) ∧ (u0_9) ≤ (u0_8) from q_3590 h3) (show (u0_9) ≤ (u0_18) from q_1468 h4) (show (IMP ((0) = 0) (((upd1 (w13) (1) (((D 15 : Nat) : Int)))) 1 ≠ -1)) by assumption) (show IMP ((0) = 0) (TI2 (((upd1 (w13) (1) (((D 15 : Nat) : Int)))) 1) ((((D 15 : Nat) : Int))) ((((D 3 : Nat) : Int)))) by assumption) (show IMP ((0) = 0) (SLB (((upd1 (w13) (1) (((D 15 : Nat) : Int)))) 1) ((((D 3 : Nat) : Int))) (SL ((w4)) ((u3_1)) ((u3_0)) ((w5)) ((w6)) ((w7)) ((w9)) ((w10)) ((w11)))) by assumption) (show IMP ((0) = 0) (ORB (((upd1 (w13) (1) (((D 15 : Nat) : Int)))) 1) ((((D 3 : Nat) : Int))) ((u3_0)) 8) by assumption) (show 1 = 0 ∨ ((upd1 (w13) (1) (((D 15 : Nat) : Int)))) 0 = ((w13)) 0 by omega) (show 1 = 1 ∨ ((upd1 (w13) (1) (((D 15 : Nat) : Int)))) 1 = ((w13)) 1 by first | exact q_3503 | omega) (show 1 = 2 ∨ ((upd1 (w13) (1) (((D 15 : Nat) : Int)))) 2 = ((w13)) 2 by omega))
        · refine Ew_of (pcₚ := 144) (fun _ => x_aload_n rfl rfl) ?_
          refine v_g H (o := 0) (v := .ref (D 2)) rfl rfl rfl rfl rfl (vrf (pf2)) ?_
          refine Ew_of (pcₚ := 148) (fun _ => x_iload_n rfl rfl) ?_
          refine v_lR H (o := 2) rfl rfl rfl rfl rfl (n := n2) (en2) (show 0 ≤ 1 ∧ 1 < n2 from q_3805 h7 r7) (z := ((D 3 : Nat) : Int)) (v := .ref (D 3)) ((mAu45 2 rfl 1).trans (pf3)) (vrf rfl) ?_
          refine Ew_of (pcₚ := 150) (fun _ => x_aload_n rfl rfl) ?_
          refine v_g H (o := 0) (v := .ref (D 1)) rfl rfl rfl rfl rfl (vrf (pf1)) ?_
          refine Ew_of (pcₚ := 154) (fun _ => x_aload_n rfl rfl) ?_
          refine v_g H (o := 0) (v := I (u0_9)) rfl rfl rfl rfl rfl (congrArg (fun z : Int => I z) ((eu0_9) : F 0 9 = u0_9)) ?_
          refine Ew_of (pcₚ := 158) (fun _ => x_aload_n rfl rfl) ?_
          refine v_g H (o := 0) (v := I (u0_18)) rfl rfl rfl rfl rfl (congrArg (fun z : Int => I z) ((eu0_18) : F 0 18 = u0_18)) ?_
          refine Ew_of (pcₚ := 164) (fun _ => x_getstatic rfl) ?_
          refine Ew_of (pcₚ := 165) (fun _ => x_iload_n rfl rfl) ?_
          refine v_stI (STC_out HT HE O) (b := 2) (n := 3) rfl rfl rfl rfl (show 0 ≤ 1 ∧ 1 < 3 from q_3502) (fun v48 ev48 qv48 => ?_)
          have hgo := ev48
          have hgv : ((v48) : Int) = 8 := by rw [← hgo]; rfl
          have hpg : p2 ((v48)) = 256 := by rw [hgv]; decide
          refine v_inv H (o := 3) rfl rfl rfl rfl rfl rfl (by rfl) (C184_Br (D := puc 26643665609639073069400579 D) (N := puc 26643665609639073069400579 N) (HW_subc H oz_I0acls_22 oz_I0acls_6) (pf9) (pf4) (pf5) (pf6) (pf7) (pf8) (pf10) (pf11) (n1) (en1) (n9) (en9) (n4) (en4) (n5) (en5) (n6) (en6) (n7) (en7) (n8) (en8) (n10) (en10) (n11) (en11) (u3_0) ((eu3_0)) (u3_1) ((eu3_1)) (w9) (ew9) (w4) (ew4) (w5) (ew5) (w6) (ew6) (w7) (ew7) (w10) (ew10) (w11) (ew11) (show inr (u0_9) from q_3585 h3) (show inr (u0_18) from q_22 r3) (show inr (v48) from qv48) (show 0 ≤ (u0_9) ∧ (u0_9) ≤ (u0_18) ∧ (u0_18) ≤ (n1) ∧ (n1) ≤ 65536 from q_3794 h3 h4) (show 5 ≤ (v48) ∧ (v48) ≤ 9 ∧ p2 (v48) ≤ (n9) by omega) (show (n4) = (u3_1) ∧ (n5) = (u3_1) ∧ (n6) = (u3_1) ∧ (n7) = (u3_1) ∧ (n8) = (u3_1) ∧ (n10) = (n9) ∧ (n11) = (n9) ∧ 1 ≤ (u3_1) ∧ (u3_1) ≤ 64 by omega) (fun z49 σ49 F49ₚ A49ₚ Hₚ Oₚ hS49 hA49 y49_0_0 (ey49_0_0 : HID _) w49_2 ew49_2 w49_3 ew49_3 w49_4 ew49_4 w49_5 ew49_5 w49_6 ew49_6 w49_8 ew49_8 w49_9 ew49_9 (pq49_0 : HID _) pz49_0 pz49_1 pz49_2 pz49_3 => ⟨rfl, ?_⟩))
          refine v_backc (c := c) (s := s) H oz_I0acls_22 oz_I0acls_6 Hₚ Oₚ (fun F49 A49 H Oₚ eF49 eA49 => ?_)
          have O := OUT_trans O Oₚ
          -- Share.hear
          have cF49 : SF oz_I0aclsl_1 F F49 := SF_trans (SF_refl) (SF_gluc (ι := oz_I0aclsl_2) oz_I0acls_6 hS49 eF49 (by decide +kernel)) (any_sub (lₚ := [(3, 0), (3, 10), (3, 11), (3, 12)]) (by decide +kernel))
          have mF49 := SFm_of cF49 oz_I0acls_5
          have cA49 : SA oz_I0aclsl_0 A A49 := SA_trans (cAu45) (SA_gluc (ι := oz_I0aclsl_2) oz_I0acls_6 hA49 eA49 (by decide +kernel)) (any_subA (lₚ := [4, 5, 6, 7, 8, 9, 10, 11]) (by decide +kernel))
          have mA49 := SAm_of cA49 oz_I0acls_4
          have pl49_0 : HID (F49 3 10 = (D 1 : Int)) := (eF49 3 10).trans (pq49_0)
          have r50 : (-2147483648 : Int) ≤ y49_0_0 ∧ y49_0_0 ≤ 2147483647 := rngE (show (-2147483648 : Int) ≤ F49 3 0 ∧ F49 3 0 ≤ 2147483647 from H.krg 3 0 (ltn len_V249_c11_vn_oz_I0acls rfl)) (show F49 3 0 = y49_0_0 from ((eF49 3 0).trans ey49_0_0))
          refine Ew_of (pcₚ := 171) (fun _ => x_istore rfl) ?_
          refine Ew_of (pcₚ := 173) (fun _ => x_iload rfl rk_s) ?_
          refine w_ifge (t := 184) rfl rfl (show inr (z49) from pz49_0) (fun b51 => ?_) (fun b51 => ?_)
          · have hown := Or.resolve_left pz49_3 (by omega)
            have hord : (y49_0_0) ≤ 8 := q_3807 b51 hgv pz49_2 r50
            refine Ew_of (pcₚ := 185) (fun _ => x_aload_n rfl (rk_o (rfl) rfl rfl)) ?_
            refine Ew_of (pcₚ := 187) (fun _ => x_iload rfl rk_s) ?_
            refine v_p H (o := 0) (z := z49) (v := I (z49)) rfl rfl rfl rfl rfl rfl rfl rfl (show (-2147483648 : Int) ≤ z49 ∧ z49 ≤ 2147483647 from q_3761 b51 pz49_0) (fun σ H Oₚ => ?_)
            have O := OUT_trans O Oₚ
            have cFu52 : SF oz_I0aclsl_1 F (updF F49 0 9 (z49)) := SF_upd (cF49) rfl
            have mFu52 := SFm_of cFu52 oz_I0acls_5
            refine Ew_of (pcₚ := 191) (fun _ => x_iconst rfl) ?_
            have hfi0 : IMP (((0) : Int) = 0) (TI2 (((upd1 (w13) (1) (((D 15 : Nat) : Int)))) 1) ((((D 15 : Nat) : Int))) ((((D 3 : Nat) : Int)))) := by exact fun q => absurd q (by omega)
            have hfi1 : IMP (((0) : Int) = 0) (SLB (((upd1 (w13) (1) (((D 15 : Nat) : Int)))) 1) ((((D 3 : Nat) : Int))) (SL ((w49_3)) ((u3_1)) ((y49_0_0)) ((w49_4)) ((w49_5)) ((w49_6)) ((w49_2)) ((w49_8)) ((w49_9)))) := by exact fun q => absurd q (by omega)
            have hfi2 : IMP (((0) : Int) = 0) (ORB (((upd1 (w13) (1) (((D 15 : Nat) : Int)))) 1) ((((D 3 : Nat) : Int))) ((y49_0_0)) 8) := by exact fun q => absurd q (by omega)
            have hfn : (IMP (((0) : Int) = 0) (((upd1 (w13) (1) (((D 15 : Nat) : Int)))) 1 ≠ -1)) := by exact fun q => absurd q (by omega)
            exact w_ireturn rfl (k (0) _ _ _ H O (cFu52) (cA49) (z49) (rfl) (y49_0_0) (((eF49 3 0).trans ey49_0_0)) (w49_3) ((eA49 4).trans ew49_3) (w49_4) ((eA49 5).trans ew49_4) (w49_5) ((eA49 6).trans ew49_5) (w49_6) ((eA49 7).trans ew49_6) (w49_2) ((eA49 9).trans ew49_2) (w49_8) ((eA49 10).trans ew49_8) (w49_9) ((eA49 11).trans ew49_9) (upd1 (w13) (1) (((D 15 : Nat) : Int))) (((show A49 13 = (updA A 13 (1) (((D 15 : Nat) : Int))) 13 from (eA49 13))).trans (congrArg (fun q => upd1 q (1) (((D 15 : Nat) : Int))) (ew13))) (show inr (0) from q_20) (show 0 ≤ (0) ∧ (0) ≤ 17 by first | exact q_3589 | omega) (show 0 ≤ (z49) ∧ (u0_9) ≤ (z49) ∧ (z49) ≤ (u0_8) from q_3797 b51 h3 h4 pz49_1 pz49_3) (show (z49) ≤ (u0_18) from q_3796 b51 pz49_1 pz49_3 r3) (show (IMP ((0) = 0) (((upd1 (w13) (1) (((D 15 : Nat) : Int)))) 1 ≠ -1)) by assumption) (show IMP ((0) = 0) (TI2 (((upd1 (w13) (1) (((D 15 : Nat) : Int)))) 1) ((((D 15 : Nat) : Int))) ((((D 3 : Nat) : Int)))) by assumption) (show IMP ((0) = 0) (SLB (((upd1 (w13) (1) (((D 15 : Nat) : Int)))) 1) ((((D 3 : Nat) : Int))) (SL ((w49_3)) ((u3_1)) ((y49_0_0)) ((w49_4)) ((w49_5)) ((w49_6)) ((w49_2)) ((w49_8)) ((w49_9)))) by assumption) (show IMP ((0) = 0) (ORB (((upd1 (w13) (1) (((D 15 : Nat) : Int)))) 1) ((((D 3 : Nat) : Int))) ((y49_0_0)) 8) by assumption) (show 1 = 0 ∨ ((upd1 (w13) (1) (((D 15 : Nat) : Int)))) 0 = ((w13)) 0 by omega) (show 1 = 1 ∨ ((upd1 (w13) (1) (((D 15 : Nat) : Int)))) 1 = ((w13)) 1 by first | exact q_3503 | omega) (show 1 = 2 ∨ ((upd1 (w13) (1) (((D 15 : Nat) : Int)))) 2 = ((w13)) 2 by omega))
          · refine Ew_of (pcₚ := 177) (fun _ => x_aload_n rfl (rk_o (rfl) rfl rfl)) ?_
            refine Ew_of (pcₚ := 179) (fun _ => x_bipush (z := 16) rfl (by decide)) ?_
            refine Ew_of (pcₚ := 180) (fun _ => x_iload_n rfl (rk_o (rfl) rfl rfl)) ?_
            have r53 : (-2147483648 : Int) ≤ F 0 21 ∧ F 0 21 ≤ 2147483647 := rngE (show (-2147483648 : Int) ≤ F49 0 21 ∧ F49 0 21 ≤ 2147483647 from H.krg 0 21 (ltn len_V249_c11_vn_oz_I0acls rfl)) (show F49 0 21 = F 0 21 from ((show F49 0 21 = F 0 21 from (eF49 0 21))))
            refine v_inv H (o := 0) rfl rfl rfl rfl rfl rfl (by rfl) (C232 (D := puc 0 D) (N := puc 0 N) (HW_subc H oz_I0acls_23 oz_I0acls_7) (F 0 21) (((show F49 0 21 = F 0 21 from (eF49 0 21)))) (show inr (16) from q_86) (show inr (a3) from h2) (fun z54 σ54 F54ₚ A54ₚ Hₚ Oₚ hS54 hA54 y54_0_21 (ey54_0_21 : HID _) pz54_0 pz54_1 pz54_2 => ⟨rfl, ?_⟩))
            refine v_backc (c := c) (s := s) H oz_I0acls_23 oz_I0acls_7 Hₚ Oₚ (fun F54 A54 H Oₚ eF54 eA54 => ?_)
            have O := OUT_trans O Oₚ
            -- Unpacker.fail
            have cF54 : SF oz_I0aclsl_1 F F54 := SF_trans (cF49) (SF_gluc (ι := oz_I0aclsl_3) oz_I0acls_7 hS54 eF54 (by decide +kernel)) (any_sub (lₚ := [(0, 21)]) (by decide +kernel))
            have mF54 := SFm_of cF54 oz_I0acls_5
            have cA54 : SA oz_I0aclsl_0 A A54 := SA_trans (cA49) (SA_gluc (ι := oz_I0aclsl_3) oz_I0acls_7 hA54 eA54 (by decide +kernel)) (any_subA (lₚ := []) (by decide +kernel))
            have mA54 := SAm_of cA54 oz_I0acls_4
            have r55 : (-2147483648 : Int) ≤ y54_0_21 ∧ y54_0_21 ≤ 2147483647 := rngE (show (-2147483648 : Int) ≤ F54 0 21 ∧ F54 0 21 ≤ 2147483647 from H.krg 0 21 (ltn len_V249_c11_vn_oz_I0acls rfl)) (show F54 0 21 = y54_0_21 from ((eF54 0 21).trans ey54_0_21))
            have hfi0 : IMP (((z54) : Int) = 0) (TI2 (((upd1 (w13) (1) (((D 15 : Nat) : Int)))) 1) ((((D 15 : Nat) : Int))) ((((D 3 : Nat) : Int)))) := by exact fun q => absurd q (by omega)
            have hfi1 : IMP (((z54) : Int) = 0) (SLB (((upd1 (w13) (1) (((D 15 : Nat) : Int)))) 1) ((((D 3 : Nat) : Int))) (SL ((w49_3)) ((u3_1)) ((y49_0_0)) ((w49_4)) ((w49_5)) ((w49_6)) ((w49_2)) ((w49_8)) ((w49_9)))) := by exact fun q => absurd q (by omega)
            have hfi2 : IMP (((z54) : Int) = 0) (ORB (((upd1 (w13) (1) (((D 15 : Nat) : Int)))) 1) ((((D 3 : Nat) : Int))) ((y49_0_0)) 8) := by exact fun q => absurd q (by omega)
            have hfn : (IMP (((z54) : Int) = 0) (((upd1 (w13) (1) (((D 15 : Nat) : Int)))) 1 ≠ -1)) := by exact fun q => absurd q (by omega)
            exact w_ireturn rfl (k (z54) _ _ _ H O (cF54) (cA54) (u0_9) (((((show F54 0 9 = F49 0 9 from (eF54 0 9).trans (hS54 0 9 rfl))).trans ((show F49 0 9 = F 0 9 from (eF49 0 9)))).trans (eu0_9))) (y49_0_0) ((((show F54 3 0 = F49 3 0 from (eF54 3 0))).trans ((eF49 3 0).trans ey49_0_0))) (w49_3) (((show A54 4 = A49 4 from (eA54 4))).trans ((eA49 4).trans ew49_3)) (w49_4) (((show A54 5 = A49 5 from (eA54 5))).trans ((eA49 5).trans ew49_4)) (w49_5) (((show A54 6 = A49 6 from (eA54 6))).trans ((eA49 6).trans ew49_5)) (w49_6) (((show A54 7 = A49 7 from (eA54 7))).trans ((eA49 7).trans ew49_6)) (w49_2) (((show A54 9 = A49 9 from (eA54 9))).trans ((eA49 9).trans ew49_2)) (w49_8) (((show A54 10 = A49 10 from (eA54 10))).trans ((eA49 10).trans ew49_8)) (w49_9) (((show A54 11 = A49 11 from (eA54 11))).trans ((eA49 11).trans ew49_9)) (upd1 (w13) (1) (((D 15 : Nat) : Int))) (((show A54 13 = A49 13 from (eA54 13))).trans (((show A49 13 = (updA A 13 (1) (((D 15 : Nat) : Int))) 13 from (eA49 13))).trans (congrArg (fun q => upd1 q (1) (((D 15 : Nat) : Int))) (ew13)))) (show inr (z54) from pz54_0) (show 0 ≤ (z54) ∧ (z54) ≤ 17 from q_3798 pz54_1) (show 0 ≤ (u0_9) ∧ (u0_9) ≤ (u0_9) ∧ (u0_9) ≤ (u0_8) from q_3590 h3) (show (u0_9) ≤ (u0_18) from q_1468 h4) (show (IMP ((z54) = 0) (((upd1 (w13) (1) (((D 15 : Nat) : Int)))) 1 ≠ -1)) from hfn) (show IMP ((z54) = 0) (TI2 (((upd1 (w13) (1) (((D 15 : Nat) : Int)))) 1) ((((D 15 : Nat) : Int))) ((((D 3 : Nat) : Int)))) from hfi0) (show IMP ((z54) = 0) (SLB (((upd1 (w13) (1) (((D 15 : Nat) : Int)))) 1) ((((D 3 : Nat) : Int))) (SL ((w49_3)) ((u3_1)) ((y49_0_0)) ((w49_4)) ((w49_5)) ((w49_6)) ((w49_2)) ((w49_8)) ((w49_9)))) from hfi1) (show IMP ((z54) = 0) (ORB (((upd1 (w13) (1) (((D 15 : Nat) : Int)))) 1) ((((D 3 : Nat) : Int))) ((y49_0_0)) 8) from hfi2) (show 1 = 0 ∨ ((upd1 (w13) (1) (((D 15 : Nat) : Int)))) 0 = ((w13)) 0 by omega) (show 1 = 1 ∨ ((upd1 (w13) (1) (((D 15 : Nat) : Int)))) 1 = ((w13)) 1 by first | exact q_3503 | omega) (show 1 = 2 ∨ ((upd1 (w13) (1) (((D 15 : Nat) : Int)))) 2 = ((w13)) 2 by omega))
      · refine Ew_of (pcₚ := 63) (fun _ => x_aload_n rfl rfl) ?_
        refine v_g H (o := 0) (v := I (u0_9)) rfl rfl rfl rfl rfl (congrArg (fun z : Int => I z) ((eu0_9) : F 0 9 = u0_9)) ?_
        refine Ew_of (pcₚ := 67) (fun _ => x_aload_n rfl rfl) ?_
        refine v_g H (o := 0) (v := I (u0_18)) rfl rfl rfl rfl rfl (congrArg (fun z : Int => I z) ((eu0_18) : F 0 18 = u0_18)) ?_
        refine w_icmplt (t := 84) rfl rfl (show inr (u0_9) from q_3585 h3) (show inr (u0_18) from q_22 r3) (fun b56 => ?_) (fun b56 => ?_)
        · refine Ew_of (pcₚ := 85) (fun _ => x_aload_n rfl rfl) ?_
          refine v_g H (o := 0) (v := .ref (D 1)) rfl rfl rfl rfl rfl (vrf (pf1)) ?_
          refine Ew_of (pcₚ := 89) (fun _ => x_aload_n rfl rfl) ?_
          refine Ew_of (pcₚ := 90) (fun _ => x_dup rfl rfl) ?_
          refine v_g H (o := 0) (v := I (u0_9)) rfl rfl rfl rfl rfl (congrArg (fun z : Int => I z) ((eu0_9) : F 0 9 = u0_9)) ?_
          refine Ew_of (pcₚ := 94) (fun _ => x_dup_x1 rfl rfl) ?_
          refine Ew_of (pcₚ := 95) (fun _ => x_iconst rfl) ?_
          refine w_iadd rfl ?_
          refine v_p H (o := 0) (z := (u0_9 + 1)) (v := I ((u0_9 + 1))) rfl rfl rfl rfl rfl rfl rfl rfl (show (-2147483648 : Int) ≤ (u0_9 + 1) ∧ (u0_9 + 1) ≤ 2147483647 from q_3799 h3) (fun σ H Oₚ => ?_)
          have O := OUT_trans O Oₚ
          have cFu57 : SF oz_I0aclsl_1 F (updF F 0 9 ((u0_9 + 1))) := SF_upd (SF_refl) rfl
          have mFu57 := SFm_of cFu57 oz_I0acls_5
          refine v_lB H (o := 1) rfl rfl rfl rfl (n := n1) (en1) (show 0 ≤ u0_9 ∧ u0_9 < n1 from q_3635 b56 h3 h4) (fun v58 ev58 qv58 => ?_)
          have ev58 : (A 1) (u0_9) = v58 := (congrFun (funext (mAu45 1 rfl)) (u0_9)).symm.trans ev58
          refine Ew_of (pcₚ := 103) (fun _ => x_sipush (z := 255) rfl (by decide)) ?_
          refine w_iand rfl (show inr (v58) from q_2536 qv58) (show inr (255) from q_36) (fun z59 gz59 gaz59 gbz59 => ?_)
          refine Ew_of (pcₚ := 106) (fun _ => x_istore rfl) ?_
          refine Ew_of (pcₚ := 108) (fun _ => x_iload rfl rk_s) ?_
          refine Ew_of (pcₚ := 111) (fun _ => x_getstatic rfl) ?_
          refine Ew_of (pcₚ := 112) (fun _ => x_iload_n rfl (rk_o (rfl) rfl rfl)) ?_
          refine v_stI (STC_out HT HE O) (b := 3) (n := 3) rfl rfl rfl rfl (show 0 ≤ 1 ∧ 1 < 3 from q_3502) (fun v60 ev60 qv60 => ?_)
          have hlv := ev60
          have hlw : ((v60) : Int) = 31 := by rw [← hlv]; rfl
          refine w_icmple (t := 124) rfl rfl (show inr (z59) from gz59) (show inr (v60) from qv60) (fun b61 => ?_) (fun b61 => ?_)
          · refine Ew_of (pcₚ := 125) (fun _ => x_aload_n rfl (rk_o (rfl) rfl rfl)) ?_
            refine v_g H (o := 0) (v := .ref (D 2)) rfl rfl rfl rfl rfl (vrf ((mFu57 0 2 rfl).trans (pf2))) ?_
            refine Ew_of (pcₚ := 129) (fun _ => x_iload_n rfl (rk_o (rfl) rfl rfl)) ?_
            refine v_lR H (o := 2) rfl rfl rfl rfl rfl (n := n2) (en2) (show 0 ≤ 1 ∧ 1 < n2 from q_3805 h7 r7) (z := ((D 3 : Nat) : Int)) (v := .ref (D 3)) ((mAu45 2 rfl 1).trans (pf3)) (vrf rfl) ?_
            refine Ew_of (pcₚ := 132) (fun _ => x_iload rfl rk_s) ?_
            refine v_inv H (o := 3) rfl rfl rfl rfl rfl rfl (by rfl) (C168 (D := puc 52038409393826314588675 D) (N := puc 52038409393826314588675 N) (HW_subc H oz_I0acls_24 oz_I0acls_8) ((mFu57 3 7 rfl).trans (pf9)) ((mFu57 3 2 rfl).trans (pf4)) ((mFu57 3 3 rfl).trans (pf5)) ((mFu57 3 4 rfl).trans (pf6)) ((mFu57 3 5 rfl).trans (pf7)) ((mFu57 3 6 rfl).trans (pf8)) ((mFu57 3 8 rfl).trans (pf10)) ((mFu57 3 9 rfl).trans (pf11)) (n9) (en9) (n4) (en4) (n5) (en5) (n6) (en6) (n7) (en7) (n8) (en8) (n10) (en10) (n11) (en11) (u3_0) ((eu3_0)) (u3_1) (((mFu57 3 1 rfl).trans (eu3_1))) (w9) (ew9) (w4) (ew4) (w5) (ew5) (w6) (ew6) (w7) (ew7) (w10) (ew10) (w11) (ew11) (show inr (z59) from gz59) (show (n9) ≥ 1 by omega) (show (n4) = (u3_1) ∧ (n5) = (u3_1) ∧ (n6) = (u3_1) ∧ (n7) = (u3_1) ∧ (n8) = (u3_1) ∧ (n10) = (n9) ∧ (n11) = (n9) ∧ 1 ≤ (u3_1) ∧ (u3_1) ≤ 64 by omega) (show 0 ≤ (z59) ∧ (z59) < ((u3_1)) by omega) (fun σ62 F62ₚ A62ₚ Hₚ Oₚ hS62 hA62 y62_0_0 (ey62_0_0 : HID _) w62_1 ew62_1 w62_2 ew62_2 w62_3 ew62_3 w62_4 ew62_4 w62_5 ew62_5 w62_7 ew62_7 w62_8 ew62_8 pz62_0 pz62_1 => ⟨rfl, ?_⟩))
            refine v_backc (c := c) (s := s) H oz_I0acls_24 oz_I0acls_8 Hₚ Oₚ (fun F62 A62 H Oₚ eF62 eA62 => ?_)
            have O := OUT_trans O Oₚ
            -- Share.becomeAlone
            have cF62 : SF oz_I0aclsl_1 F F62 := SF_trans (cFu57) (SF_gluc (ι := oz_I0aclsl_4) oz_I0acls_8 hS62 eF62 (by decide +kernel)) (any_sub (lₚ := [(3, 0)]) (by decide +kernel))
            have mF62 := SFm_of cF62 oz_I0acls_5
            have cA62 : SA oz_I0aclsl_0 A A62 := SA_trans (cAu45) (SA_gluc (ι := oz_I0aclsl_4) oz_I0acls_8 hA62 eA62 (by decide +kernel)) (any_subA (lₚ := [4, 5, 6, 7, 8, 9, 10, 11]) (by decide +kernel))
            have mA62 := SAm_of cA62 oz_I0acls_4
            have r63 : (-2147483648 : Int) ≤ y62_0_0 ∧ y62_0_0 ≤ 2147483647 := rngE (show (-2147483648 : Int) ≤ F62 3 0 ∧ F62 3 0 ≤ 2147483647 from H.krg 3 0 (ltn len_V249_c11_vn_oz_I0acls rfl)) (show F62 3 0 = y62_0_0 from ((eF62 3 0).trans ey62_0_0))
            have hown := pz62_0
            refine Ew_of (pcₚ := 190) (fun _ => x_goto rfl rfl) ?_
            refine Ew_of (pcₚ := 191) (fun _ => x_iconst rfl) ?_
            have hfi0 : IMP (((0) : Int) = 0) (TI2 (((upd1 (w13) (1) (((D 15 : Nat) : Int)))) 1) ((((D 15 : Nat) : Int))) ((((D 3 : Nat) : Int)))) := by exact fun q => absurd q (by omega)
            have hfi1 : IMP (((0) : Int) = 0) (SLB (((upd1 (w13) (1) (((D 15 : Nat) : Int)))) 1) ((((D 3 : Nat) : Int))) (SL ((w62_2)) ((u3_1)) ((y62_0_0)) ((w62_3)) ((w62_4)) ((w62_5)) ((w62_1)) ((w62_7)) ((w62_8)))) := by exact fun q => absurd q (by omega)
            have hfi2 : IMP (((0) : Int) = 0) (ORB (((upd1 (w13) (1) (((D 15 : Nat) : Int)))) 1) ((((D 3 : Nat) : Int))) ((y62_0_0)) 8) := by exact fun q => absurd q (by omega)
            have hfn : (IMP (((0) : Int) = 0) (((upd1 (w13) (1) (((D 15 : Nat) : Int)))) 1 ≠ -1)) := by exact fun q => absurd q (by omega)
            exact w_ireturn rfl (k (0) _ _ _ H O (cF62) (cA62) ((u0_9 + 1)) (((show F62 0 9 = (updF F 0 9 ((u0_9 + 1))) 0 9 from (eF62 0 9)))) (y62_0_0) (((eF62 3 0).trans ey62_0_0)) (w62_2) ((eA62 4).trans ew62_2) (w62_3) ((eA62 5).trans ew62_3) (w62_4) ((eA62 6).trans ew62_4) (w62_5) ((eA62 7).trans ew62_5) (w62_1) ((eA62 9).trans ew62_1) (w62_7) ((eA62 10).trans ew62_7) (w62_8) ((eA62 11).trans ew62_8) (upd1 (w13) (1) (((D 15 : Nat) : Int))) (((show A62 13 = (updA A 13 (1) (((D 15 : Nat) : Int))) 13 from (eA62 13))).trans (congrArg (fun q => upd1 q (1) (((D 15 : Nat) : Int))) (ew13))) (show inr (0) from q_20) (show 0 ≤ (0) ∧ (0) ≤ 17 by first | exact q_3589 | omega) (show 0 ≤ ((u0_9 + 1)) ∧ (u0_9) ≤ ((u0_9 + 1)) ∧ ((u0_9 + 1)) ≤ (u0_8) from q_3800 b56 h3 h4) (show ((u0_9 + 1)) ≤ (u0_18) from q_1328 b56) (show (IMP ((0) = 0) (((upd1 (w13) (1) (((D 15 : Nat) : Int)))) 1 ≠ -1)) by assumption) (show IMP ((0) = 0) (TI2 (((upd1 (w13) (1) (((D 15 : Nat) : Int)))) 1) ((((D 15 : Nat) : Int))) ((((D 3 : Nat) : Int)))) by assumption) (show IMP ((0) = 0) (SLB (((upd1 (w13) (1) (((D 15 : Nat) : Int)))) 1) ((((D 3 : Nat) : Int))) (SL ((w62_2)) ((u3_1)) ((y62_0_0)) ((w62_3)) ((w62_4)) ((w62_5)) ((w62_1)) ((w62_7)) ((w62_8)))) by assumption) (show IMP ((0) = 0) (ORB (((upd1 (w13) (1) (((D 15 : Nat) : Int)))) 1) ((((D 3 : Nat) : Int))) ((y62_0_0)) 8) by assumption) (show 1 = 0 ∨ ((upd1 (w13) (1) (((D 15 : Nat) : Int)))) 0 = ((w13)) 0 by omega) (show 1 = 1 ∨ ((upd1 (w13) (1) (((D 15 : Nat) : Int)))) 1 = ((w13)) 1 by first | exact q_3503 | omega) (show 1 = 2 ∨ ((upd1 (w13) (1) (((D 15 : Nat) : Int)))) 2 = ((w13)) 2 by omega))
          · refine Ew_of (pcₚ := 117) (fun _ => x_aload_n rfl (rk_o (rfl) rfl rfl)) ?_
            refine Ew_of (pcₚ := 119) (fun _ => x_bipush (z := 16) rfl (by decide)) ?_
            refine Ew_of (pcₚ := 120) (fun _ => x_iload_n rfl (rk_o (rfl) rfl rfl)) ?_
            have r64 : (-2147483648 : Int) ≤ F 0 21 ∧ F 0 21 ≤ 2147483647 := H.krg 0 21 (ltn len_V249_c11_vn_oz_I0acls rfl)
            refine v_inv H (o := 0) rfl rfl rfl rfl rfl rfl (by rfl) (C232 (D := puc 0 D) (N := puc 0 N) (HW_subc H oz_I0acls_23 oz_I0acls_7) (F 0 21) (rfl) (show inr (16) from q_86) (show inr (a3) from h2) (fun z65 σ65 F65ₚ A65ₚ Hₚ Oₚ hS65 hA65 y65_0_21 (ey65_0_21 : HID _) pz65_0 pz65_1 pz65_2 => ⟨rfl, ?_⟩))
            refine v_backc (c := c) (s := s) H oz_I0acls_23 oz_I0acls_7 Hₚ Oₚ (fun F65 A65 H Oₚ eF65 eA65 => ?_)
            have O := OUT_trans O Oₚ
            -- Unpacker.fail
            have cF65 : SF oz_I0aclsl_1 F F65 := SF_trans (cFu57) (SF_gluc (ι := oz_I0aclsl_3) oz_I0acls_7 hS65 eF65 (by decide +kernel)) (any_sub (lₚ := [(0, 21)]) (by decide +kernel))
            have mF65 := SFm_of cF65 oz_I0acls_5
            have cA65 : SA oz_I0aclsl_0 A A65 := SA_trans (cAu45) (SA_gluc (ι := oz_I0aclsl_3) oz_I0acls_7 hA65 eA65 (by decide +kernel)) (any_subA (lₚ := []) (by decide +kernel))
            have mA65 := SAm_of cA65 oz_I0acls_4
            have r66 : (-2147483648 : Int) ≤ y65_0_21 ∧ y65_0_21 ≤ 2147483647 := rngE (show (-2147483648 : Int) ≤ F65 0 21 ∧ F65 0 21 ≤ 2147483647 from H.krg 0 21 (ltn len_V249_c11_vn_oz_I0acls rfl)) (show F65 0 21 = y65_0_21 from ((eF65 0 21).trans ey65_0_21))
            have hfi0 : IMP (((z65) : Int) = 0) (TI2 (((upd1 (w13) (1) (((D 15 : Nat) : Int)))) 1) ((((D 15 : Nat) : Int))) ((((D 3 : Nat) : Int)))) := by exact fun q => absurd q (by omega)
            have hfi1 : IMP (((z65) : Int) = 0) (SLB (((upd1 (w13) (1) (((D 15 : Nat) : Int)))) 1) ((((D 3 : Nat) : Int))) (SL ((w4)) ((u3_1)) ((u3_0)) ((w5)) ((w6)) ((w7)) ((w9)) ((w10)) ((w11)))) := by exact fun q => absurd q (by omega)
            have hfi2 : IMP (((z65) : Int) = 0) (ORB (((upd1 (w13) (1) (((D 15 : Nat) : Int)))) 1) ((((D 3 : Nat) : Int))) ((u3_0)) 8) := by exact fun q => absurd q (by omega)
            have hfn : (IMP (((z65) : Int) = 0) (((upd1 (w13) (1) (((D 15 : Nat) : Int)))) 1 ≠ -1)) := by exact fun q => absurd q (by omega)
            exact w_ireturn rfl (k (z65) _ _ _ H O (cF65) (cA65) ((u0_9 + 1)) (((show F65 0 9 = (updF F 0 9 ((u0_9 + 1))) 0 9 from (eF65 0 9).trans (hS65 0 9 rfl)))) (u3_0) ((((show F65 3 0 = (updF F 0 9 ((u0_9 + 1))) 3 0 from (eF65 3 0))).trans (eu3_0))) (w4) (((show A65 4 = (updA A 13 (1) (((D 15 : Nat) : Int))) 4 from (eA65 4))).trans (ew4)) (w5) (((show A65 5 = (updA A 13 (1) (((D 15 : Nat) : Int))) 5 from (eA65 5))).trans (ew5)) (w6) (((show A65 6 = (updA A 13 (1) (((D 15 : Nat) : Int))) 6 from (eA65 6))).trans (ew6)) (w7) (((show A65 7 = (updA A 13 (1) (((D 15 : Nat) : Int))) 7 from (eA65 7))).trans (ew7)) (w9) (((show A65 9 = (updA A 13 (1) (((D 15 : Nat) : Int))) 9 from (eA65 9))).trans (ew9)) (w10) (((show A65 10 = (updA A 13 (1) (((D 15 : Nat) : Int))) 10 from (eA65 10))).trans (ew10)) (w11) (((show A65 11 = (updA A 13 (1) (((D 15 : Nat) : Int))) 11 from (eA65 11))).trans (ew11)) (upd1 (w13) (1) (((D 15 : Nat) : Int))) (((show A65 13 = (updA A 13 (1) (((D 15 : Nat) : Int))) 13 from (eA65 13))).trans (congrArg (fun q => upd1 q (1) (((D 15 : Nat) : Int))) (ew13))) (show inr (z65) from pz65_0) (show 0 ≤ (z65) ∧ (z65) ≤ 17 from q_3798 pz65_1) (show 0 ≤ ((u0_9 + 1)) ∧ (u0_9) ≤ ((u0_9 + 1)) ∧ ((u0_9 + 1)) ≤ (u0_8) from q_3800 b56 h3 h4) (show ((u0_9 + 1)) ≤ (u0_18) from q_1328 b56) (show (IMP ((z65) = 0) (((upd1 (w13) (1) (((D 15 : Nat) : Int)))) 1 ≠ -1)) from hfn) (show IMP ((z65) = 0) (TI2 (((upd1 (w13) (1) (((D 15 : Nat) : Int)))) 1) ((((D 15 : Nat) : Int))) ((((D 3 : Nat) : Int)))) from hfi0) (show IMP ((z65) = 0) (SLB (((upd1 (w13) (1) (((D 15 : Nat) : Int)))) 1) ((((D 3 : Nat) : Int))) (SL ((w4)) ((u3_1)) ((u3_0)) ((w5)) ((w6)) ((w7)) ((w9)) ((w10)) ((w11)))) from hfi1) (show IMP ((z65) = 0) (ORB (((upd1 (w13) (1) (((D 15 : Nat) : Int)))) 1) ((((D 3 : Nat) : Int))) ((u3_0)) 8) from hfi2) (show 1 = 0 ∨ ((upd1 (w13) (1) (((D 15 : Nat) : Int)))) 0 = ((w13)) 0 by omega) (show 1 = 1 ∨ ((upd1 (w13) (1) (((D 15 : Nat) : Int)))) 1 = ((w13)) 1 by first | exact q_3503 | omega) (show 1 = 2 ∨ ((upd1 (w13) (1) (((D 15 : Nat) : Int)))) 2 = ((w13)) 2 by omega))
        · refine Ew_of (pcₚ := 74) (fun _ => x_aload_n rfl rfl) ?_
          refine Ew_of (pcₚ := 76) (fun _ => x_bipush (z := 10) rfl (by decide)) ?_
          refine Ew_of (pcₚ := 77) (fun _ => x_aload_n rfl rfl) ?_
          refine v_g H (o := 0) (v := I (u0_18)) rfl rfl rfl rfl rfl (congrArg (fun z : Int => I z) ((eu0_18) : F 0 18 = u0_18)) ?_
          have r67 : (-2147483648 : Int) ≤ F 0 21 ∧ F 0 21 ≤ 2147483647 := H.krg 0 21 (ltn len_V249_c11_vn_oz_I0acls rfl)
          refine v_inv H (o := 0) rfl rfl rfl rfl rfl rfl (by rfl) (C232 (D := puc 0 D) (N := puc 0 N) (HW_subc H oz_I0acls_23 oz_I0acls_7) (F 0 21) (rfl) (show inr (10) from q_532) (show inr (u0_18) from q_22 r3) (fun z68 σ68 F68ₚ A68ₚ Hₚ Oₚ hS68 hA68 y68_0_21 (ey68_0_21 : HID _) pz68_0 pz68_1 pz68_2 => ⟨rfl, ?_⟩))
          refine v_backc (c := c) (s := s) H oz_I0acls_23 oz_I0acls_7 Hₚ Oₚ (fun F68 A68 H Oₚ eF68 eA68 => ?_)
          have O := OUT_trans O Oₚ
          -- Unpacker.fail
          have cF68 : SF oz_I0aclsl_1 F F68 := SF_trans (SF_refl) (SF_gluc (ι := oz_I0aclsl_3) oz_I0acls_7 hS68 eF68 (by decide +kernel)) (any_sub (lₚ := [(0, 21)]) (by decide +kernel))
          have mF68 := SFm_of cF68 oz_I0acls_5
          have cA68 : SA oz_I0aclsl_0 A A68 := SA_trans (cAu45) (SA_gluc (ι := oz_I0aclsl_3) oz_I0acls_7 hA68 eA68 (by decide +kernel)) (any_subA (lₚ := []) (by decide +kernel))
          have mA68 := SAm_of cA68 oz_I0acls_4
          have r69 : (-2147483648 : Int) ≤ y68_0_21 ∧ y68_0_21 ≤ 2147483647 := rngE (show (-2147483648 : Int) ≤ F68 0 21 ∧ F68 0 21 ≤ 2147483647 from H.krg 0 21 (ltn len_V249_c11_vn_oz_I0acls rfl)) (show F68 0 21 = y68_0_21 from ((eF68 0 21).trans ey68_0_21))
          have hfi0 : IMP (((z68) : Int) = 0) (TI2 (((upd1 (w13) (1) (((D 15 : Nat) : Int)))) 1) ((((D 15 : Nat) : Int))) ((((D 3 : Nat) : Int)))) := by exact fun q => absurd q (by omega)
          have hfi1 : IMP (((z68) : Int) = 0) (SLB (((upd1 (w13) (1) (((D 15 : Nat) : Int)))) 1) ((((D 3 : Nat) : Int))) (SL ((w4)) ((u3_1)) ((u3_0)) ((w5)) ((w6)) ((w7)) ((w9)) ((w10)) ((w11)))) := by exact fun q => absurd q (by omega)
          have hfi2 : IMP (((z68) : Int) = 0) (ORB (((upd1 (w13) (1) (((D 15 : Nat) : Int)))) 1) ((((D 3 : Nat) : Int))) ((u3_0)) 8) := by exact fun q => absurd q (by omega)
          have hfn : (IMP (((z68) : Int) = 0) (((upd1 (w13) (1) (((D 15 : Nat) : Int)))) 1 ≠ -1)) := by exact fun q => absurd q (by omega)
          exact w_ireturn rfl (k (z68) _ _ _ H O (cF68) (cA68) (u0_9) ((((show F68 0 9 = F 0 9 from (eF68 0 9).trans (hS68 0 9 rfl))).trans (eu0_9))) (u3_0) ((((show F68 3 0 = F 3 0 from (eF68 3 0))).trans (eu3_0))) (w4) (((show A68 4 = (updA A 13 (1) (((D 15 : Nat) : Int))) 4 from (eA68 4))).trans (ew4)) (w5) (((show A68 5 = (updA A 13 (1) (((D 15 : Nat) : Int))) 5 from (eA68 5))).trans (ew5)) (w6) (((show A68 6 = (updA A 13 (1) (((D 15 : Nat) : Int))) 6 from (eA68 6))).trans (ew6)) (w7) (((show A68 7 = (updA A 13 (1) (((D 15 : Nat) : Int))) 7 from (eA68 7))).trans (ew7)) (w9) (((show A68 9 = (updA A 13 (1) (((D 15 : Nat) : Int))) 9 from (eA68 9))).trans (ew9)) (w10) (((show A68 10 = (updA A 13 (1) (((D 15 : Nat) : Int))) 10 from (eA68 10))).trans (ew10)) (w11) (((show A68 11 = (updA A 13 (1) (((D 15 : Nat) : Int))) 11 from (eA68 11))).trans (ew11)) (upd1 (w13) (1) (((D 15 : Nat) : Int))) (((show A68 13 = (updA A 13 (1) (((D 15 : Nat) : Int))) 13 from (eA68 13))).trans (congrArg (fun q => upd1 q (1) (((D 15 : Nat) : Int))) (ew13))) (show inr (z68) from pz68_0) (show 0 ≤ (z68) ∧ (z68) ≤ 17 from q_3651 pz68_1) (show 0 ≤ (u0_9) ∧ (u0_9) ≤ (u0_9) ∧ (u0_9) ≤ (u0_8) from q_3590 h3) (show (u0_9) ≤ (u0_18) from q_1468 h4) (show (IMP ((z68) = 0) (((upd1 (w13) (1) (((D 15 : Nat) : Int)))) 1 ≠ -1)) from hfn) (show IMP ((z68) = 0) (TI2 (((upd1 (w13) (1) (((D 15 : Nat) : Int)))) 1) ((((D 15 : Nat) : Int))) ((((D 3 : Nat) : Int)))) from hfi0) (show IMP ((z68) = 0) (SLB (((upd1 (w13) (1) (((D 15 : Nat) : Int)))) 1) ((((D 3 : Nat) : Int))) (SL ((w4)) ((u3_1)) ((u3_0)) ((w5)) ((w6)) ((w7)) ((w9)) ((w10)) ((w11)))) from hfi1) (show IMP ((z68) = 0) (ORB (((upd1 (w13) (1) (((D 15 : Nat) : Int)))) 1) ((((D 3 : Nat) : Int))) ((u3_0)) 8) from hfi2) (show 1 = 0 ∨ ((upd1 (w13) (1) (((D 15 : Nat) : Int)))) 0 = ((w13)) 0 by omega) (show 1 = 1 ∨ ((upd1 (w13) (1) (((D 15 : Nat) : Int)))) 1 = ((w13)) 1 by first | exact q_3503 | omega) (show 1 = 2 ∨ ((upd1 (w13) (1) (((D 15 : Nat) : Int)))) 2 = ((w13)) 2 by omega))
  · refine Ew_of (pcₚ := 6) (fun _ => x_aload_n rfl rfl) ?_
    refine v_g H (o := 0) (v := .ref (D 12)) rfl rfl rfl rfl rfl (vrf (pf12)) ?_
    refine v_g H (o := 12) (v := .ref (D 13)) rfl rfl rfl rfl rfl (vrf (pf13)) ?_
    refine Ew_of (pcₚ := 13) (fun _ => x_iload_n rfl rfl) ?_
    rcases (show (w13) (1) = -1 ∨ (w13) (1) = ((D 15 : Nat) : Int) ∨ (w13) (1) = ((D 3 : Nat) : Int) by assumption) with b70 | b70 | b70
    · refine v_lR H (o := 13) rfl rfl rfl rfl rfl (n := n13) (en13) (show 0 ≤ 1 ∧ 1 < n13 from q_3806 h7 r16) (z := (-1)) (v := .null) ((congrFun (ew13) (1)).trans b70) (rfl) ?_
      refine Ew_of (pcₚ := 17) (fun _ => x_ifnonnull_f rfl rfl) ?_
      refine Ew_of (pcₚ := 18) (fun _ => x_aload_n rfl rfl) ?_
      refine Ew_of (pcₚ := 20) (fun _ => x_bipush (z := 16) rfl (by decide)) ?_
      refine Ew_of (pcₚ := 21) (fun _ => x_iload_n rfl rfl) ?_
      have r71 : (-2147483648 : Int) ≤ F 0 21 ∧ F 0 21 ≤ 2147483647 := H.krg 0 21 (ltn len_V249_c11_vn_oz_I0acls rfl)
      refine v_inv H (o := 0) rfl rfl rfl rfl rfl rfl (by rfl) (C232 (D := puc 0 D) (N := puc 0 N) (HW_subc H oz_I0acls_23 oz_I0acls_7) (F 0 21) (rfl) (show inr (16) from q_86) (show inr (a3) from h2) (fun z72 σ72 F72ₚ A72ₚ Hₚ Oₚ hS72 hA72 y72_0_21 (ey72_0_21 : HID _) pz72_0 pz72_1 pz72_2 => ⟨rfl, ?_⟩))
      refine v_backc (c := c) (s := s) H oz_I0acls_23 oz_I0acls_7 Hₚ Oₚ (fun F72 A72 H Oₚ eF72 eA72 => ?_)
      have O := OUT_trans O Oₚ
      -- Unpacker.fail
      have cF72 : SF oz_I0aclsl_1 F F72 := SF_trans (SF_refl) (SF_gluc (ι := oz_I0aclsl_3) oz_I0acls_7 hS72 eF72 (by decide +kernel)) (any_sub (lₚ := [(0, 21)]) (by decide +kernel))
      have mF72 := SFm_of cF72 oz_I0acls_5
      have cA72 : SA oz_I0aclsl_0 A A72 := SA_trans (SA_refl) (SA_gluc (ι := oz_I0aclsl_3) oz_I0acls_7 hA72 eA72 (by decide +kernel)) (any_subA (lₚ := []) (by decide +kernel))
      have mA72 := SAm_of cA72 oz_I0acls_4
      have r73 : (-2147483648 : Int) ≤ y72_0_21 ∧ y72_0_21 ≤ 2147483647 := rngE (show (-2147483648 : Int) ≤ F72 0 21 ∧ F72 0 21 ≤ 2147483647 from H.krg 0 21 (ltn len_V249_c11_vn_oz_I0acls rfl)) (show F72 0 21 = y72_0_21 from ((eF72 0 21).trans ey72_0_21))
      refine Ew_of (pcₚ := 28) (fun _ => x_goto rfl rfl) ?_
      have hfi0 : IMP (((z72) : Int) = 0) (TI2 (((w13)) 1) ((((D 15 : Nat) : Int))) ((((D 3 : Nat) : Int)))) := by exact fun q => absurd q (by omega)
      have hfi1 : IMP (((z72) : Int) = 0) (SLB (((w13)) 1) ((((D 3 : Nat) : Int))) (SL ((w4)) ((u3_1)) ((u3_0)) ((w5)) ((w6)) ((w7)) ((w9)) ((w10)) ((w11)))) := by exact fun q => absurd q (by omega)
      have hfi2 : IMP (((z72) : Int) = 0) (ORB (((w13)) 1) ((((D 3 : Nat) : Int))) ((u3_0)) 8) := by exact fun q => absurd q (by omega)
      have hfn : (IMP (((z72) : Int) = 0) (((w13)) 1 ≠ -1)) := by exact fun q => absurd q (by omega)
      exact w_ireturn rfl (k (z72) _ _ _ H O (cF72) (cA72) (u0_9) ((((show F72 0 9 = F 0 9 from (eF72 0 9).trans (hS72 0 9 rfl))).trans (eu0_9))) (u3_0) ((((show F72 3 0 = F 3 0 from (eF72 3 0))).trans (eu3_0))) (w4) (((show A72 4 = A 4 from (eA72 4))).trans (ew4)) (w5) (((show A72 5 = A 5 from (eA72 5))).trans (ew5)) (w6) (((show A72 6 = A 6 from (eA72 6))).trans (ew6)) (w7) (((show A72 7 = A 7 from (eA72 7))).trans (ew7)) (w9) (((show A72 9 = A 9 from (eA72 9))).trans (ew9)) (w10) (((show A72 10 = A 10 from (eA72 10))).trans (ew10)) (w11) (((show A72 11 = A 11 from (eA72 11))).trans (ew11)) (w13) (((show A72 13 = A 13 from (eA72 13))).trans (ew13)) (show inr (z72) from pz72_0) (show 0 ≤ (z72) ∧ (z72) ≤ 17 from q_3798 pz72_1) (show 0 ≤ (u0_9) ∧ (u0_9) ≤ (u0_9) ∧ (u0_9) ≤ (u0_8) from q_3590 h3) (show (u0_9) ≤ (u0_18) from q_1468 h4) (show (IMP ((z72) = 0) (((w13)) 1 ≠ -1)) from hfn) (show IMP ((z72) = 0) (TI2 (((w13)) 1) ((((D 15 : Nat) : Int))) ((((D 3 : Nat) : Int)))) from hfi0) (show IMP ((z72) = 0) (SLB (((w13)) 1) ((((D 3 : Nat) : Int))) (SL ((w4)) ((u3_1)) ((u3_0)) ((w5)) ((w6)) ((w7)) ((w9)) ((w10)) ((w11)))) from hfi1) (show IMP ((z72) = 0) (ORB (((w13)) 1) ((((D 3 : Nat) : Int))) ((u3_0)) 8) from hfi2) (show 1 = 0 ∨ ((w13)) 0 = ((w13)) 0 by first | exact q_3811 | omega) (show 1 = 1 ∨ ((w13)) 1 = ((w13)) 1 by first | exact q_3810 | omega) (show 1 = 2 ∨ ((w13)) 2 = ((w13)) 2 by first | exact q_3809 | omega))
    · refine v_lR H (o := 13) rfl rfl rfl rfl rfl (n := n13) (en13) (show 0 ≤ 1 ∧ 1 < n13 from q_3806 h7 r16) (z := ((D 15 : Nat) : Int)) (v := .ref (D 15)) ((congrFun (ew13) (1)).trans b70) (vrf rfl) ?_
      refine Ew_of (pcₚ := 27) (fun _ => x_ifnonnull_t rfl rfl) ?_
      refine Ew_of (pcₚ := 28) (fun _ => x_iconst rfl) ?_
      have hfi0 : IMP (((0) : Int) = 0) (TI2 (((w13)) 1) ((((D 15 : Nat) : Int))) ((((D 3 : Nat) : Int)))) := by exact fun _ => (by assumption)
      have hfi1 : IMP (((0) : Int) = 0) (SLB (((w13)) 1) ((((D 3 : Nat) : Int))) (SL ((w4)) ((u3_1)) ((u3_0)) ((w5)) ((w6)) ((w7)) ((w9)) ((w10)) ((w11)))) := by exact fun _ => (by assumption)
      have hfi2 : IMP (((0) : Int) = 0) (ORB (((w13)) 1) ((((D 3 : Nat) : Int))) ((u3_0)) 8) := by exact fun _ => (by assumption)
      have hfn : (IMP (((0) : Int) = 0) (((w13)) 1 ≠ -1)) := by exact fun _ => (by omega)
      exact w_ireturn rfl (k (0) _ _ _ H O (SF_refl) (SA_refl) (u0_9) ((eu0_9)) (u3_0) ((eu3_0)) (w4) (ew4) (w5) (ew5) (w6) (ew6) (w7) (ew7) (w9) (ew9) (w10) (ew10) (w11) (ew11) (w13) (ew13) (show inr (0) from q_20) (show 0 ≤ (0) ∧ (0) ≤ 17 by first | exact q_3589 | omega) (show 0 ≤ (u0_9) ∧ (u0_9) ≤ (u0_9) ∧ (u0_9) ≤ (u0_8) from q_3590 h3) (show (u0_9) ≤ (u0_18) from q_1468 h4) (show (IMP ((0) = 0) (((w13)) 1 ≠ -1)) by assumption) (show IMP ((0) = 0) (TI2 (((w13)) 1) ((((D 15 : Nat) : Int))) ((((D 3 : Nat) : Int)))) by assumption) (show IMP ((0) = 0) (SLB (((w13)) 1) ((((D 3 : Nat) : Int))) (SL ((w4)) ((u3_1)) ((u3_0)) ((w5)) ((w6)) ((w7)) ((w9)) ((w10)) ((w11)))) by assumption) (show IMP ((0) = 0) (ORB (((w13)) 1) ((((D 3 : Nat) : Int))) ((u3_0)) 8) by assumption) (show 1 = 0 ∨ ((w13)) 0 = ((w13)) 0 by first | exact q_3811 | omega) (show 1 = 1 ∨ ((w13)) 1 = ((w13)) 1 by first | exact q_3810 | omega) (show 1 = 2 ∨ ((w13)) 2 = ((w13)) 2 by first | exact q_3809 | omega))
    · refine v_lR H (o := 13) rfl rfl rfl rfl rfl (n := n13) (en13) (show 0 ≤ 1 ∧ 1 < n13 from q_3806 h7 r16) (z := ((D 3 : Nat) : Int)) (v := .ref (D 3)) ((congrFun (ew13) (1)).trans b70) (vrf rfl) ?_
      refine Ew_of (pcₚ := 27) (fun _ => x_ifnonnull_t rfl rfl) ?_
      refine Ew_of (pcₚ := 28) (fun _ => x_iconst rfl) ?_
      have hfi0 : IMP (((0) : Int) = 0) (TI2 (((w13)) 1) ((((D 15 : Nat) : Int))) ((((D 3 : Nat) : Int)))) := by exact fun _ => (by assumption)
      have hfi1 : IMP (((0) : Int) = 0) (SLB (((w13)) 1) ((((D 3 : Nat) : Int))) (SL ((w4)) ((u3_1)) ((u3_0)) ((w5)) ((w6)) ((w7)) ((w9)) ((w10)) ((w11)))) := by exact fun _ => (by assumption)
      have hfi2 : IMP (((0) : Int) = 0) (ORB (((w13)) 1) ((((D 3 : Nat) : Int))) ((u3_0)) 8) := by exact fun _ => (by assumption)
      have hfn : (IMP (((0) : Int) = 0) (((w13)) 1 ≠ -1)) := by exact fun _ => (by omega)
      exact w_ireturn rfl (k (0) _ _ _ H O (SF_refl) (SA_refl) (u0_9) ((eu0_9)) (u3_0) ((eu3_0)) (w4) (ew4) (w5) (ew5) (w6) (ew6) (w7) (ew7) (w9) (ew9) (w10) (ew10) (w11) (ew11) (w13) (ew13) (show inr (0) from q_20) (show 0 ≤ (0) ∧ (0) ≤ 17 by first | exact q_3589 | omega) (show 0 ≤ (u0_9) ∧ (u0_9) ≤ (u0_9) ∧ (u0_9) ≤ (u0_8) from q_3590 h3) (show (u0_9) ≤ (u0_18) from q_1468 h4) (show (IMP ((0) = 0) (((w13)) 1 ≠ -1)) by assumption) (show IMP ((0) = 0) (TI2 (((w13)) 1) ((((D 15 : Nat) : Int))) ((((D 3 : Nat) : Int)))) by assumption) (show IMP ((0) = 0) (SLB (((w13)) 1) ((((D 3 : Nat) : Int))) (SL ((w4)) ((u3_1)) ((u3_0)) ((w5)) ((w6)) ((w7)) ((w9)) ((w10)) ((w11)))) by assumption) (show IMP ((0) = 0) (ORB (((w13)) 1) ((((D 3 : Nat) : Int))) ((u3_0)) 8) by assumption) (show 1 = 0 ∨ ((w13)) 0 = ((w13)) 0 by first | exact q_3811 | omega) (show 1 = 1 ∨ ((w13)) 1 = ((w13)) 1 by first | exact q_3810 | omega) (show 1 = 2 ∨ ((w13)) 2 = ((w13)) 2 by first | exact q_3809 | omega))
theorem len_V249_c12_vn_oz_I0acls : (V249_c12_vn).length = 16 := by decide +kernel
theorem oz_I0acls_26 : vsub V249_c12_vn V184_Br [3, 1, 9, 4, 5, 6, 7, 8, 10, 11] = true := by decide +kernel
theorem oz_I0acls_27 : vsub V249_c12_vn V232 [0] = true := by decide +kernel
theorem oz_I0acls_28 : vsub V249_c12_vn V168 [3, 9, 4, 5, 6, 7, 8, 10, 11] = true := by decide +kernel
/-- Unpacker.unpackTable: this, this.in, this.ownTables, this.ownTables.2, this.ownTables.2.points, this.ownTables.2.masses, this.ownTables.2.mostBits, this.ownTables.2.starts, this.ownTables.2.used, this.ownTables.2.symbolAt, this.ownTables.2.numberAt, this.ownTables.2.placeOf, this.now, this.now.tables, this.known, this.known.2 -/
theorem C249_c12_vno {σE : rS} {D N : Nat → Nat} {F : hF} {A : hA} {d c s : Nat} {Q : wQ} (H : HW V249_c12_vn σE D N F A) (HT : STC σE) {a2 a3 : Int} (pf1 : HID (F 0 7 = (D 1 : Int))) (pf2 : HID (F 0 2 = (D 2 : Int))) (pf3 : HID (A 2 2 = (D 3 : Int))) (pf4 : HID (F 3 2 = (D 4 : Int))) (pf5 : HID (F 3 3 = (D 5 : Int))) (pf6 : HID (F 3 4 = (D 6 : Int))) (pf7 : HID (F 3 5 = (D 7 : Int))) (pf8 : HID (F 3 6 = (D 8 : Int))) (pf9 : HID (F 3 7 = (D 9 : Int))) (pf10 : HID (F 3 8 = (D 10 : Int))) (pf11 : HID (F 3 9 = (D 11 : Int))) (pf12 : HID (F 0 3 = (D 12 : Int))) (pf13 : HID (F 12 1 = (D 13 : Int))) (pf14 : HID (F 0 0 = (D 14 : Int))) (pf15 : HID (A 14 2 = (D 15 : Int))) (n1 : Int) (en1 : HID ((N 1 : Int) = n1)) (n2 : Int) (en2 : HID ((N 2 : Int) = n2)) (n4 : Int) (en4 : HID ((N 4 : Int) = n4)) (n5 : Int) (en5 : HID ((N 5 : Int) = n5)) (n6 : Int) (en6 : HID ((N 6 : Int) = n6)) (n7 : Int) (en7 : HID ((N 7 : Int) = n7)) (n8 : Int) (en8 : HID ((N 8 : Int) = n8)) (n9 : Int) (en9 : HID ((N 9 : Int) = n9)) (n10 : Int) (en10 : HID ((N 10 : Int) = n10)) (n11 : Int) (en11 : HID ((N 11 : Int) = n11)) (n13 : Int) (en13 : HID ((N 13 : Int) = n13)) (n14 : Int) (en14 : HID ((N 14 : Int) = n14)) (u0_8 : Int) (eu0_8 : HID (F 0 8 = u0_8)) (u0_9 : Int) (eu0_9 : HID (F 0 9 = u0_9)) (u0_18 : Int) (eu0_18 : HID (F 0 18 = u0_18)) (u3_0 : Int) (eu3_0 : HID (F 3 0 = u3_0)) (u3_1 : Int) (eu3_1 : HID (F 3 1 = u3_1)) (w4 : Int → Int) (ew4 : A 4 = w4) (w5 : Int → Int) (ew5 : A 5 = w5) (w6 : Int → Int) (ew6 : A 6 = w6) (w7 : Int → Int) (ew7 : A 7 = w7) (w9 : Int → Int) (ew9 : A 9 = w9) (w10 : Int → Int) (ew10 : A 10 = w10) (w11 : Int → Int) (ew11 : A 11 = w11) (w13 : Int → Int) (ew13 : A 13 = w13) (h0 : inr (2)) (h1 : inr (a2)) (h2 : inr (a3)) (h3 : 0 ≤ (u0_9) ∧ (u0_9) ≤ (u0_8) ∧ (u0_8) ≤ (n1) ∧ (n1) ≤ 65536) (h4 : (u0_9) ≤ (u0_18) ∧ (u0_18) ≤ (u0_8)) (h5 : 0 ≤ (a2) ∧ (a2) ≤ 3) (h6 : SHZD ((n4)) ((n5)) ((n6)) ((n7)) ((n8)) ((n9)) ((n10)) ((n11)) ((u3_1)) 53 512) (h7 : (n13) = 3 ∧ (n14) = 3 ∧ (n2) = 3) (h8 : TI2 (((w13)) 2) ((((D 15 : Nat) : Int))) ((((D 3 : Nat) : Int)))) (h9 : SLB (((w13)) 2) ((((D 3 : Nat) : Int))) (SL ((w4)) ((u3_1)) ((u3_0)) ((w5)) ((w6)) ((w7)) ((w9)) ((w10)) ((w11)))) (h10 : ORB (((w13)) 2) ((((D 3 : Nat) : Int))) ((u3_0)) 9) (k : ∀ (z : Int) (σ : rS) (Fₚ : hF) (Aₚ : hA), HW V249_c12_vn σ D N Fₚ Aₚ → OUT (V249_c12_vn).length D N σE c s D N σ c s → SF [(0, 9), (0, 21), (3, 0), (3, 10), (3, 11), (3, 12)] F Fₚ → SA [4, 5, 6, 7, 8, 9, 10, 11, 13] A Aₚ → ∀ y0_9 : Int, Fₚ 0 9 = y0_9 → ∀ y3_0 : Int, Fₚ 3 0 = y3_0 → ∀ v4 : Int → Int, Aₚ 4 = v4 → ∀ v5 : Int → Int, Aₚ 5 = v5 → ∀ v6 : Int → Int, Aₚ 6 = v6 → ∀ v7 : Int → Int, Aₚ 7 = v7 → ∀ v9 : Int → Int, Aₚ 9 = v9 → ∀ v10 : Int → Int, Aₚ 10 = v10 → ∀ v11 : Int → Int, Aₚ 11 = v11 → ∀ v13 : Int → Int, Aₚ 13 = v13 → (inr (z)) → (0 ≤ (z) ∧ (z) ≤ 17) → (0 ≤ (y0_9) ∧ (u0_9) ≤ (y0_9) ∧ (y0_9) ≤ (u0_8)) → ((y0_9) ≤ (u0_18)) → ((IMP ((z) = 0) (((v13)) 2 ≠ -1))) → (IMP ((z) = 0) (TI2 (((v13)) 2) ((((D 15 : Nat) : Int))) ((((D 3 : Nat) : Int))))) → (IMP ((z) = 0) (SLB (((v13)) 2) ((((D 3 : Nat) : Int))) (SL ((v4)) ((u3_1)) ((y3_0)) ((v5)) ((v6)) ((v7)) ((v9)) ((v10)) ((v11))))) → (IMP ((z) = 0) (ORB (((v13)) 2) ((((D 3 : Nat) : Int))) ((y3_0)) 9)) → (2 = 0 ∨ ((v13)) 0 = ((w13)) 0) → (2 = 1 ∨ ((v13)) 1 = ((w13)) 1) → (2 = 2 ∨ ((v13)) 2 = ((w13)) 2) → Q (some (I z)) σ c s) : Ew 249 (d + 2) 0 (rargs 0 [.ref (D 0), I 2, I a2, I a3]) [] σE c s Q := by
  have O := OUT_refl (n := (V249_c12_vn).length) (D := D) (N := N) (σ := σE) (c := c) (s := s)
  have HE := H
  have r1 : (-2147483648 : Int) ≤ u0_8 ∧ u0_8 ≤ 2147483647 := rngE (show (-2147483648 : Int) ≤ F 0 8 ∧ F 0 8 ≤ 2147483647 from H.krg 0 8 (ltn len_V249_c12_vn_oz_I0acls rfl)) (show F 0 8 = u0_8 from (eu0_8))
  have r2 : (-2147483648 : Int) ≤ u0_9 ∧ u0_9 ≤ 2147483647 := rngE (show (-2147483648 : Int) ≤ F 0 9 ∧ F 0 9 ≤ 2147483647 from H.krg 0 9 (ltn len_V249_c12_vn_oz_I0acls rfl)) (show F 0 9 = u0_9 from (eu0_9))
  have r3 : (-2147483648 : Int) ≤ u0_18 ∧ u0_18 ≤ 2147483647 := rngE (show (-2147483648 : Int) ≤ F 0 18 ∧ F 0 18 ≤ 2147483647 from H.krg 0 18 (ltn len_V249_c12_vn_oz_I0acls rfl)) (show F 0 18 = u0_18 from (eu0_18))
  have r4 : (-2147483648 : Int) ≤ u3_0 ∧ u3_0 ≤ 2147483647 := rngE (show (-2147483648 : Int) ≤ F 3 0 ∧ F 3 0 ≤ 2147483647 from H.krg 3 0 (ltn len_V249_c12_vn_oz_I0acls rfl)) (show F 3 0 = u3_0 from (eu3_0))
  have r5 : (-2147483648 : Int) ≤ u3_1 ∧ u3_1 ≤ 2147483647 := rngE (show (-2147483648 : Int) ≤ F 3 1 ∧ F 3 1 ≤ 2147483647 from H.krg 3 1 (ltn len_V249_c12_vn_oz_I0acls rfl)) (show F 3 1 = u3_1 from (eu3_1))
  have r6 : (0 : Int) ≤ n1 ∧ n1 ≤ 1000000 := nleE (H.nle 1 (ltn len_V249_c12_vn_oz_I0acls rfl)) (show (N 1 : Int) = n1 from en1)
  have r7 : (0 : Int) ≤ n2 ∧ n2 ≤ 1000000 := nleE (H.nle 2 (ltn len_V249_c12_vn_oz_I0acls rfl)) (show (N 2 : Int) = n2 from en2)
  have r8 : (0 : Int) ≤ n4 ∧ n4 ≤ 1000000 := nleE (H.nle 4 (ltn len_V249_c12_vn_oz_I0acls rfl)) (show (N 4 : Int) = n4 from en4)
  have r9 : (0 : Int) ≤ n5 ∧ n5 ≤ 1000000 := nleE (H.nle 5 (ltn len_V249_c12_vn_oz_I0acls rfl)) (show (N 5 : Int) = n5 from en5)
  have r10 : (0 : Int) ≤ n6 ∧ n6 ≤ 1000000 := nleE (H.nle 6 (ltn len_V249_c12_vn_oz_I0acls rfl)) (show (N 6 : Int) = n6 from en6)
  have r11 : (0 : Int) ≤ n7 ∧ n7 ≤ 1000000 := nleE (H.nle 7 (ltn len_V249_c12_vn_oz_I0acls rfl)) (show (N 7 : Int) = n7 from en7)
  have r12 : (0 : Int) ≤ n8 ∧ n8 ≤ 1000000 := nleE (H.nle 8 (ltn len_V249_c12_vn_oz_I0acls rfl)) (show (N 8 : Int) = n8 from en8)
  have r13 : (0 : Int) ≤ n9 ∧ n9 ≤ 1000000 := nleE (H.nle 9 (ltn len_V249_c12_vn_oz_I0acls rfl)) (show (N 9 : Int) = n9 from en9)
  have r14 : (0 : Int) ≤ n10 ∧ n10 ≤ 1000000 := nleE (H.nle 10 (ltn len_V249_c12_vn_oz_I0acls rfl)) (show (N 10 : Int) = n10 from en10)
  have r15 : (0 : Int) ≤ n11 ∧ n11 ≤ 1000000 := nleE (H.nle 11 (ltn len_V249_c12_vn_oz_I0acls rfl)) (show (N 11 : Int) = n11 from en11)
  have r16 : (0 : Int) ≤ n13 ∧ n13 ≤ 1000000 := nleE (H.nle 13 (ltn len_V249_c12_vn_oz_I0acls rfl)) (show (N 13 : Int) = n13 from en13)
  have r17 : (0 : Int) ≤ n14 ∧ n14 ≤ 1000000 := nleE (H.nle 14 (ltn len_V249_c12_vn_oz_I0acls rfl)) (show (N 14 : Int) = n14 from en14)
  have hszq : SHZD ((n4)) ((n5)) ((n6)) ((n7)) ((n8)) ((n9)) ((n10)) ((n11)) ((u3_1)) 53 512 := h6
  unfold SHZD at hszq
  have hnea : (((D 15 : Nat) : Int)) ≠ (((D 3 : Nat) : Int)) := dneZ H 15 3 rfl rfl rfl
  refine Ew_of (pcₚ := 1) (fun _ => x_iload_n rfl rfl) ?_
  refine Ew_of (pcₚ := 2) (fun _ => x_iconst rfl) ?_
  refine w_icmpne (t := 29) rfl rfl (show inr (a2) from h1) (show inr (3) from q_66) (fun b18 => ?_) (fun b18 => ?_)
  · refine Ew_of (pcₚ := 30) (fun _ => x_aload_n rfl rfl) ?_
    refine v_g H (o := 0) (v := .ref (D 12)) rfl rfl rfl rfl rfl (vrf (pf12)) ?_
    refine v_g H (o := 12) (v := .ref (D 13)) rfl rfl rfl rfl rfl (vrf (pf13)) ?_
    refine Ew_of (pcₚ := 37) (fun _ => x_iload_n rfl rfl) ?_
    refine Ew_of (pcₚ := 38) (fun _ => x_iload_n rfl rfl) ?_
    refine w_ifne (t := 50) rfl rfl (show inr (a2) from h1) (fun b19 => ?_) (fun b19 => ?_)
    · refine Ew_of (pcₚ := 51) (fun _ => x_aload_n rfl rfl) ?_
      refine v_g H (o := 0) (v := .ref (D 2)) rfl rfl rfl rfl rfl (vrf (pf2)) ?_
      refine Ew_of (pcₚ := 55) (fun _ => x_iload_n rfl rfl) ?_
      have hs_ := upd1_s (a := ((w13))) (j := 2) (z := (((D 3 : Nat) : Int)))
      have hu0_ : (2 : Int) = 0 ∨ upd1 ((w13)) 2 ((((D 3 : Nat) : Int))) 0 = ((w13)) 0 := by by_cases w : (0 : Int) = 2; exact .inl (by omega); exact .inr (upd1_o w)
      have hu1_ : (2 : Int) = 1 ∨ upd1 ((w13)) 2 ((((D 3 : Nat) : Int))) 1 = ((w13)) 1 := by by_cases w : (1 : Int) = 2; exact .inl (by omega); exact .inr (upd1_o w)
      have hu2_ : (2 : Int) = 2 ∨ upd1 ((w13)) 2 ((((D 3 : Nat) : Int))) 2 = ((w13)) 2 := by by_cases w : (2 : Int) = 2; exact .inl (by omega); exact .inr (upd1_o w)
      refine v_lR H (o := 2) rfl rfl rfl rfl rfl (n := n2) (en2) (show 0 ≤ 2 ∧ 2 < n2 from q_3812 h7) (z := ((D 3 : Nat) : Int)) (v := .ref (D 3)) (pf3) (vrf rfl) ?_
      refine v_sR H (o := 13) (z := ((D 3 : Nat) : Int)) (v := .ref (D 3)) rfl rfl rfl rfl rfl (n := n13) (en13) (show 0 ≤ 2 ∧ 2 < n13 from q_3813 h7) (show (-1 : Int) ≤ ((D 3 : Nat) : Int) by omega) (vrf rfl) (rkinR H (x := 3) rfl rfl rfl) (fun σ H Oₚ => ?_)
      have O := OUT_trans O Oₚ
      have cAu20 : SA oz_I0aclsl_0 A (updA A 13 (2) (((D 3 : Nat) : Int))) := SA_upd (SA_refl) rfl
      have mAu20 := SAm_of cAu20 oz_I0acls_4
      refine Ew_of (pcₚ := 58) (fun _ => x_iload_n rfl rfl) ?_
      refine Ew_of (pcₚ := 59) (fun _ => x_iconst rfl) ?_
      refine w_icmpne (t := 138) rfl rfl (show inr (a2) from h1) (show inr (1) from q_23) (fun b21 => ?_) (fun b21 => ?_)
      · refine Ew_of (pcₚ := 139) (fun _ => x_iload_n rfl rfl) ?_
        refine Ew_of (pcₚ := 140) (fun _ => x_iconst rfl) ?_
        refine w_icmpne (t := 190) rfl rfl (show inr (a2) from h1) (show inr (2) from h0) (fun b22 => ?_) (fun b22 => ?_)
        · refine Ew_of (pcₚ := 191) (fun _ => x_iconst rfl) ?_
          have hfi0 : IMP (((0) : Int) = 0) (TI2 (((upd1 (w13) (2) (((D 3 : Nat) : Int)))) 2) ((((D 15 : Nat) : Int))) ((((D 3 : Nat) : Int)))) := by exact fun q => absurd q (by omega)
          have hfi1 : IMP (((0) : Int) = 0) (SLB (((upd1 (w13) (2) (((D 3 : Nat) : Int)))) 2) ((((D 3 : Nat) : Int))) (SL ((w4)) ((u3_1)) ((u3_0)) ((w5)) ((w6)) ((w7)) ((w9)) ((w10)) ((w11)))) := by exact fun q => absurd q (by omega)
          have hfi2 : IMP (((0) : Int) = 0) (ORB (((upd1 (w13) (2) (((D 3 : Nat) : Int)))) 2) ((((D 3 : Nat) : Int))) ((u3_0)) 9) := by exact fun q => absurd q (by omega)
          have hfn : (IMP (((0) : Int) = 0) (((upd1 (w13) (2) (((D 3 : Nat) : Int)))) 2 ≠ -1)) := by exact fun q => absurd q (by omega)
          exact w_ireturn rfl (k (0) _ _ _ H O (SF_refl) (cAu20) (u0_9) ((eu0_9)) (u3_0) ((eu3_0)) (w4) (ew4) (w5) (ew5) (w6) (ew6) (w7) (ew7) (w9) (ew9) (w10) (ew10) (w11) (ew11) (upd1 (w13) (2) (((D 3 : Nat) : Int))) (congrArg (fun q => upd1 q (2) (((D 3 : Nat) : Int))) (ew13)) (show inr (0) from q_20) (show 0 ≤ (0) ∧ (0) ≤ 17 by first | exact q_3589 | omega) (show 0 ≤ (u0_9) ∧ (u0_9) ≤ (u0_9) ∧ (u0_9) ≤ (u0_8) from q_3590 h3) (show (u0_9) ≤ (u0_18) from q_1468 h4) (show (IMP ((0) = 0) (((upd1 (w13) (2) (((D 3 : Nat) : Int)))) 2 ≠ -1)) by assumption) (show IMP ((0) = 0) (TI2 (((upd1 (w13) (2) (((D 3 : Nat) : Int)))) 2) ((((D 15 : Nat) : Int))) ((((D 3 : Nat) : Int)))) by assumption) (show IMP ((0) = 0) (SLB (((upd1 (w13) (2) (((D 3 : Nat) : Int)))) 2) ((((D 3 : Nat) : Int))) (SL ((w4)) ((u3_1)) ((u3_0)) ((w5)) ((w6)) ((w7)) ((w9)) ((w10)) ((w11)))) by assumption) (show IMP ((0) = 0) (ORB (((upd1 (w13) (2) (((D 3 : Nat) : Int)))) 2) ((((D 3 : Nat) : Int))) ((u3_0)) 9) by assumption) (show 2 = 0 ∨ ((upd1 (w13) (2) (((D 3 : Nat) : Int)))) 0 = ((w13)) 0 by omega) (show 2 = 1 ∨ ((upd1 (w13) (2) (((D 3 : Nat) : Int)))) 1 = ((w13)) 1 by omega) (show 2 = 2 ∨ ((upd1 (w13) (2) (((D 3 : Nat) : Int)))) 2 = ((w13)) 2 by first | exact q_3508 | omega))
        · refine Ew_of (pcₚ := 144) (fun _ => x_aload_n rfl rfl) ?_
          refine v_g H (o := 0) (v := .ref (D 2)) rfl rfl rfl rfl rfl (vrf (pf2)) ?_
          refine Ew_of (pcₚ := 148) (fun _ => x_iload_n rfl rfl) ?_
          refine v_lR H (o := 2) rfl rfl rfl rfl rfl (n := n2) (en2) (show 0 ≤ 2 ∧ 2 < n2 from q_3812 h7) (z := ((D 3 : Nat) : Int)) (v := .ref (D 3)) ((mAu20 2 rfl 2).trans (pf3)) (vrf rfl) ?_
          refine Ew_of (pcₚ := 150) (fun _ => x_aload_n rfl rfl) ?_
          refine v_g H (o := 0) (v := .ref (D 1)) rfl rfl rfl rfl rfl (vrf (pf1)) ?_
          refine Ew_of (pcₚ := 154) (fun _ => x_aload_n rfl rfl) ?_
          refine v_g H (o := 0) (v := I (u0_9)) rfl rfl rfl rfl rfl (congrArg (fun z : Int => I z) ((eu0_9) : F 0 9 = u0_9)) ?_
          refine Ew_of (pcₚ := 158) (fun _ => x_aload_n rfl rfl) ?_
          refine v_g H (o := 0) (v := I (u0_18)) rfl rfl rfl rfl rfl (congrArg (fun z : Int => I z) ((eu0_18) : F 0 18 = u0_18)) ?_
          refine Ew_of (pcₚ := 164) (fun _ => x_getstatic rfl) ?_
          refine Ew_of (pcₚ := 165) (fun _ => x_iload_n rfl rfl) ?_
          refine v_stI (STC_out HT HE O) (b := 2) (n := 3) rfl rfl rfl rfl (show 0 ≤ 2 ∧ 2 < 3 from q_3507) (fun v23 ev23 qv23 => ?_)
          have hgo := ev23
          have hgv : ((v23) : Int) = 9 := by rw [← hgo]; rfl
          have hpg : p2 ((v23)) = 512 := by rw [hgv]; decide
          refine v_inv H (o := 3) rfl rfl rfl rfl rfl rfl (by rfl) (C184_Br (D := puc 26643665609639073069400579 D) (N := puc 26643665609639073069400579 N) (HW_subc H oz_I0acls_26 oz_I0acls_6) (pf9) (pf4) (pf5) (pf6) (pf7) (pf8) (pf10) (pf11) (n1) (en1) (n9) (en9) (n4) (en4) (n5) (en5) (n6) (en6) (n7) (en7) (n8) (en8) (n10) (en10) (n11) (en11) (u3_0) ((eu3_0)) (u3_1) ((eu3_1)) (w9) (ew9) (w4) (ew4) (w5) (ew5) (w6) (ew6) (w7) (ew7) (w10) (ew10) (w11) (ew11) (show inr (u0_9) from q_3585 h3) (show inr (u0_18) from q_22 r3) (show inr (v23) from qv23) (show 0 ≤ (u0_9) ∧ (u0_9) ≤ (u0_18) ∧ (u0_18) ≤ (n1) ∧ (n1) ≤ 65536 from q_3794 h3 h4) (show 5 ≤ (v23) ∧ (v23) ≤ 9 ∧ p2 (v23) ≤ (n9) by omega) (show (n4) = (u3_1) ∧ (n5) = (u3_1) ∧ (n6) = (u3_1) ∧ (n7) = (u3_1) ∧ (n8) = (u3_1) ∧ (n10) = (n9) ∧ (n11) = (n9) ∧ 1 ≤ (u3_1) ∧ (u3_1) ≤ 64 by omega) (fun z24 σ24 F24ₚ A24ₚ Hₚ Oₚ hS24 hA24 y24_0_0 (ey24_0_0 : HID _) w24_2 ew24_2 w24_3 ew24_3 w24_4 ew24_4 w24_5 ew24_5 w24_6 ew24_6 w24_8 ew24_8 w24_9 ew24_9 (pq24_0 : HID _) pz24_0 pz24_1 pz24_2 pz24_3 => ⟨rfl, ?_⟩))
          refine v_backc (c := c) (s := s) H oz_I0acls_26 oz_I0acls_6 Hₚ Oₚ (fun F24 A24 H Oₚ eF24 eA24 => ?_)
          have O := OUT_trans O Oₚ
          -- Share.hear
          have cF24 : SF oz_I0aclsl_1 F F24 := SF_trans (SF_refl) (SF_gluc (ι := oz_I0aclsl_2) oz_I0acls_6 hS24 eF24 (by decide +kernel)) (any_sub (lₚ := [(3, 0), (3, 10), (3, 11), (3, 12)]) (by decide +kernel))
          have mF24 := SFm_of cF24 oz_I0acls_5
          have cA24 : SA oz_I0aclsl_0 A A24 := SA_trans (cAu20) (SA_gluc (ι := oz_I0aclsl_2) oz_I0acls_6 hA24 eA24 (by decide +kernel)) (any_subA (lₚ := [4, 5, 6, 7, 8, 9, 10, 11]) (by decide +kernel))
          have mA24 := SAm_of cA24 oz_I0acls_4
          have pl24_0 : HID (F24 3 10 = (D 1 : Int)) := (eF24 3 10).trans (pq24_0)
          have r25 : (-2147483648 : Int) ≤ y24_0_0 ∧ y24_0_0 ≤ 2147483647 := rngE (show (-2147483648 : Int) ≤ F24 3 0 ∧ F24 3 0 ≤ 2147483647 from H.krg 3 0 (ltn len_V249_c12_vn_oz_I0acls rfl)) (show F24 3 0 = y24_0_0 from ((eF24 3 0).trans ey24_0_0))
          refine Ew_of (pcₚ := 171) (fun _ => x_istore rfl) ?_
          refine Ew_of (pcₚ := 173) (fun _ => x_iload rfl rk_s) ?_
          refine w_ifge (t := 184) rfl rfl (show inr (z24) from pz24_0) (fun b26 => ?_) (fun b26 => ?_)
          · have hown := Or.resolve_left pz24_3 (by omega)
            have hord : (y24_0_0) ≤ 9 := q_3795 b26 hgv pz24_2 r25
            refine Ew_of (pcₚ := 185) (fun _ => x_aload_n rfl (rk_o (rfl) rfl rfl)) ?_
            refine Ew_of (pcₚ := 187) (fun _ => x_iload rfl rk_s) ?_
            refine v_p H (o := 0) (z := z24) (v := I (z24)) rfl rfl rfl rfl rfl rfl rfl rfl (show (-2147483648 : Int) ≤ z24 ∧ z24 ≤ 2147483647 from q_3761 b26 pz24_0) (fun σ H Oₚ => ?_)
            have O := OUT_trans O Oₚ
            have cFu27 : SF oz_I0aclsl_1 F (updF F24 0 9 (z24)) := SF_upd (cF24) rfl
            have mFu27 := SFm_of cFu27 oz_I0acls_5
            refine Ew_of (pcₚ := 191) (fun _ => x_iconst rfl) ?_
            have hfi0 : IMP (((0) : Int) = 0) (TI2 (((upd1 (w13) (2) (((D 3 : Nat) : Int)))) 2) ((((D 15 : Nat) : Int))) ((((D 3 : Nat) : Int)))) := by exact fun _ => .inr (by omega)
            have hfi1 : IMP (((0) : Int) = 0) (SLB (((upd1 (w13) (2) (((D 3 : Nat) : Int)))) 2) ((((D 3 : Nat) : Int))) (SL ((w24_3)) ((u3_1)) ((y24_0_0)) ((w24_4)) ((w24_5)) ((w24_6)) ((w24_2)) ((w24_8)) ((w24_9)))) := by exact fun _ => .inr hown
            have hfi2 : IMP (((0) : Int) = 0) (ORB (((upd1 (w13) (2) (((D 3 : Nat) : Int)))) 2) ((((D 3 : Nat) : Int))) ((y24_0_0)) 9) := by exact fun _ => .inr (by omega)
            have hfn : (IMP (((0) : Int) = 0) (((upd1 (w13) (2) (((D 3 : Nat) : Int)))) 2 ≠ -1)) := by exact fun _ => (by omega)
            exact w_ireturn rfl (k (0) _ _ _ H O (cFu27) (cA24) (z24) (rfl) (y24_0_0) (((eF24 3 0).trans ey24_0_0)) (w24_3) ((eA24 4).trans ew24_3) (w24_4) ((eA24 5).trans ew24_4) (w24_5) ((eA24 6).trans ew24_5) (w24_6) ((eA24 7).trans ew24_6) (w24_2) ((eA24 9).trans ew24_2) (w24_8) ((eA24 10).trans ew24_8) (w24_9) ((eA24 11).trans ew24_9) (upd1 (w13) (2) (((D 3 : Nat) : Int))) (((show A24 13 = (updA A 13 (2) (((D 3 : Nat) : Int))) 13 from (eA24 13))).trans (congrArg (fun q => upd1 q (2) (((D 3 : Nat) : Int))) (ew13))) (show inr (0) from q_20) (show 0 ≤ (0) ∧ (0) ≤ 17 by first | exact q_3589 | omega) (show 0 ≤ (z24) ∧ (u0_9) ≤ (z24) ∧ (z24) ≤ (u0_8) from q_3797 b26 h3 h4 pz24_1 pz24_3) (show (z24) ≤ (u0_18) from q_3796 b26 pz24_1 pz24_3 r3) (show (IMP ((0) = 0) (((upd1 (w13) (2) (((D 3 : Nat) : Int)))) 2 ≠ -1)) by assumption) (show IMP ((0) = 0) (TI2 (((upd1 (w13) (2) (((D 3 : Nat) : Int)))) 2) ((((D 15 : Nat) : Int))) ((((D 3 : Nat) : Int)))) by assumption) (show IMP ((0) = 0) (SLB (((upd1 (w13) (2) (((D 3 : Nat) : Int)))) 2) ((((D 3 : Nat) : Int))) (SL ((w24_3)) ((u3_1)) ((y24_0_0)) ((w24_4)) ((w24_5)) ((w24_6)) ((w24_2)) ((w24_8)) ((w24_9)))) by assumption) (show IMP ((0) = 0) (ORB (((upd1 (w13) (2) (((D 3 : Nat) : Int)))) 2) ((((D 3 : Nat) : Int))) ((y24_0_0)) 9) by assumption) (show 2 = 0 ∨ ((upd1 (w13) (2) (((D 3 : Nat) : Int)))) 0 = ((w13)) 0 by omega) (show 2 = 1 ∨ ((upd1 (w13) (2) (((D 3 : Nat) : Int)))) 1 = ((w13)) 1 by omega) (show 2 = 2 ∨ ((upd1 (w13) (2) (((D 3 : Nat) : Int)))) 2 = ((w13)) 2 by first | exact q_3508 | omega))
          · refine Ew_of (pcₚ := 177) (fun _ => x_aload_n rfl (rk_o (rfl) rfl rfl)) ?_
            refine Ew_of (pcₚ := 179) (fun _ => x_bipush (z := 16) rfl (by decide)) ?_
            refine Ew_of (pcₚ := 180) (fun _ => x_iload_n rfl (rk_o (rfl) rfl rfl)) ?_
            have r28 : (-2147483648 : Int) ≤ F 0 21 ∧ F 0 21 ≤ 2147483647 := rngE (show (-2147483648 : Int) ≤ F24 0 21 ∧ F24 0 21 ≤ 2147483647 from H.krg 0 21 (ltn len_V249_c12_vn_oz_I0acls rfl)) (show F24 0 21 = F 0 21 from ((show F24 0 21 = F 0 21 from (eF24 0 21))))
            refine v_inv H (o := 0) rfl rfl rfl rfl rfl rfl (by rfl) (C232 (D := puc 0 D) (N := puc 0 N) (HW_subc H oz_I0acls_27 oz_I0acls_7) (F 0 21) (((show F24 0 21 = F 0 21 from (eF24 0 21)))) (show inr (16) from q_86) (show inr (a3) from h2) (fun z29 σ29 F29ₚ A29ₚ Hₚ Oₚ hS29 hA29 y29_0_21 (ey29_0_21 : HID _) pz29_0 pz29_1 pz29_2 => ⟨rfl, ?_⟩))
            refine v_backc (c := c) (s := s) H oz_I0acls_27 oz_I0acls_7 Hₚ Oₚ (fun F29 A29 H Oₚ eF29 eA29 => ?_)
            have O := OUT_trans O Oₚ
            -- Unpacker.fail
            have cF29 : SF oz_I0aclsl_1 F F29 := SF_trans (cF24) (SF_gluc (ι := oz_I0aclsl_3) oz_I0acls_7 hS29 eF29 (by decide +kernel)) (any_sub (lₚ := [(0, 21)]) (by decide +kernel))
            have mF29 := SFm_of cF29 oz_I0acls_5
            have cA29 : SA oz_I0aclsl_0 A A29 := SA_trans (cA24) (SA_gluc (ι := oz_I0aclsl_3) oz_I0acls_7 hA29 eA29 (by decide +kernel)) (any_subA (lₚ := []) (by decide +kernel))
            have mA29 := SAm_of cA29 oz_I0acls_4
            have r30 : (-2147483648 : Int) ≤ y29_0_21 ∧ y29_0_21 ≤ 2147483647 := rngE (show (-2147483648 : Int) ≤ F29 0 21 ∧ F29 0 21 ≤ 2147483647 from H.krg 0 21 (ltn len_V249_c12_vn_oz_I0acls rfl)) (show F29 0 21 = y29_0_21 from ((eF29 0 21).trans ey29_0_21))
            have hfi0 : IMP (((z29) : Int) = 0) (TI2 (((upd1 (w13) (2) (((D 3 : Nat) : Int)))) 2) ((((D 15 : Nat) : Int))) ((((D 3 : Nat) : Int)))) := by exact fun q => absurd q (by omega)
            have hfi1 : IMP (((z29) : Int) = 0) (SLB (((upd1 (w13) (2) (((D 3 : Nat) : Int)))) 2) ((((D 3 : Nat) : Int))) (SL ((w24_3)) ((u3_1)) ((y24_0_0)) ((w24_4)) ((w24_5)) ((w24_6)) ((w24_2)) ((w24_8)) ((w24_9)))) := by exact fun q => absurd q (by omega)
            have hfi2 : IMP (((z29) : Int) = 0) (ORB (((upd1 (w13) (2) (((D 3 : Nat) : Int)))) 2) ((((D 3 : Nat) : Int))) ((y24_0_0)) 9) := by exact fun q => absurd q (by omega)
            have hfn : (IMP (((z29) : Int) = 0) (((upd1 (w13) (2) (((D 3 : Nat) : Int)))) 2 ≠ -1)) := by exact fun q => absurd q (by omega)
            exact w_ireturn rfl (k (z29) _ _ _ H O (cF29) (cA29) (u0_9) (((((show F29 0 9 = F24 0 9 from (eF29 0 9).trans (hS29 0 9 rfl))).trans ((show F24 0 9 = F 0 9 from (eF24 0 9)))).trans (eu0_9))) (y24_0_0) ((((show F29 3 0 = F24 3 0 from (eF29 3 0))).trans ((eF24 3 0).trans ey24_0_0))) (w24_3) (((show A29 4 = A24 4 from (eA29 4))).trans ((eA24 4).trans ew24_3)) (w24_4) (((show A29 5 = A24 5 from (eA29 5))).trans ((eA24 5).trans ew24_4)) (w24_5) (((show A29 6 = A24 6 from (eA29 6))).trans ((eA24 6).trans ew24_5)) (w24_6) (((show A29 7 = A24 7 from (eA29 7))).trans ((eA24 7).trans ew24_6)) (w24_2) (((show A29 9 = A24 9 from (eA29 9))).trans ((eA24 9).trans ew24_2)) (w24_8) (((show A29 10 = A24 10 from (eA29 10))).trans ((eA24 10).trans ew24_8)) (w24_9) (((show A29 11 = A24 11 from (eA29 11))).trans ((eA24 11).trans ew24_9)) (upd1 (w13) (2) (((D 3 : Nat) : Int))) (((show A29 13 = A24 13 from (eA29 13))).trans (((show A24 13 = (updA A 13 (2) (((D 3 : Nat) : Int))) 13 from (eA24 13))).trans (congrArg (fun q => upd1 q (2) (((D 3 : Nat) : Int))) (ew13)))) (show inr (z29) from pz29_0) (show 0 ≤ (z29) ∧ (z29) ≤ 17 from q_3798 pz29_1) (show 0 ≤ (u0_9) ∧ (u0_9) ≤ (u0_9) ∧ (u0_9) ≤ (u0_8) from q_3590 h3) (show (u0_9) ≤ (u0_18) from q_1468 h4) (show (IMP ((z29) = 0) (((upd1 (w13) (2) (((D 3 : Nat) : Int)))) 2 ≠ -1)) from hfn) (show IMP ((z29) = 0) (TI2 (((upd1 (w13) (2) (((D 3 : Nat) : Int)))) 2) ((((D 15 : Nat) : Int))) ((((D 3 : Nat) : Int)))) from hfi0) (show IMP ((z29) = 0) (SLB (((upd1 (w13) (2) (((D 3 : Nat) : Int)))) 2) ((((D 3 : Nat) : Int))) (SL ((w24_3)) ((u3_1)) ((y24_0_0)) ((w24_4)) ((w24_5)) ((w24_6)) ((w24_2)) ((w24_8)) ((w24_9)))) from hfi1) (show IMP ((z29) = 0) (ORB (((upd1 (w13) (2) (((D 3 : Nat) : Int)))) 2) ((((D 3 : Nat) : Int))) ((y24_0_0)) 9) from hfi2) (show 2 = 0 ∨ ((upd1 (w13) (2) (((D 3 : Nat) : Int)))) 0 = ((w13)) 0 by omega) (show 2 = 1 ∨ ((upd1 (w13) (2) (((D 3 : Nat) : Int)))) 1 = ((w13)) 1 by omega) (show 2 = 2 ∨ ((upd1 (w13) (2) (((D 3 : Nat) : Int)))) 2 = ((w13)) 2 by first | exact q_3508 | omega))
      · refine Ew_of (pcₚ := 63) (fun _ => x_aload_n rfl rfl) ?_
        refine v_g H (o := 0) (v := I (u0_9)) rfl rfl rfl rfl rfl (congrArg (fun z : Int => I z) ((eu0_9) : F 0 9 = u0_9)) ?_
        refine Ew_of (pcₚ := 67) (fun _ => x_aload_n rfl rfl) ?_
        refine v_g H (o := 0) (v := I (u0_18)) rfl rfl rfl rfl rfl (congrArg (fun z : Int => I z) ((eu0_18) : F 0 18 = u0_18)) ?_
        refine w_icmplt (t := 84) rfl rfl (show inr (u0_9) from q_3585 h3) (show inr (u0_18) from q_22 r3) (fun b31 => ?_) (fun b31 => ?_)
        · refine Ew_of (pcₚ := 85) (fun _ => x_aload_n rfl rfl) ?_
          refine v_g H (o := 0) (v := .ref (D 1)) rfl rfl rfl rfl rfl (vrf (pf1)) ?_
          refine Ew_of (pcₚ := 89) (fun _ => x_aload_n rfl rfl) ?_
          refine Ew_of (pcₚ := 90) (fun _ => x_dup rfl rfl) ?_
          refine v_g H (o := 0) (v := I (u0_9)) rfl rfl rfl rfl rfl (congrArg (fun z : Int => I z) ((eu0_9) : F 0 9 = u0_9)) ?_
          refine Ew_of (pcₚ := 94) (fun _ => x_dup_x1 rfl rfl) ?_
          refine Ew_of (pcₚ := 95) (fun _ => x_iconst rfl) ?_
          refine w_iadd rfl ?_
          refine v_p H (o := 0) (z := (u0_9 + 1)) (v := I ((u0_9 + 1))) rfl rfl rfl rfl rfl rfl rfl rfl (show (-2147483648 : Int) ≤ (u0_9 + 1) ∧ (u0_9 + 1) ≤ 2147483647 from q_3799 h3) (fun σ H Oₚ => ?_)
          have O := OUT_trans O Oₚ
          have cFu32 : SF oz_I0aclsl_1 F (updF F 0 9 ((u0_9 + 1))) := SF_upd (SF_refl) rfl
          have mFu32 := SFm_of cFu32 oz_I0acls_5
          refine v_lB H (o := 1) rfl rfl rfl rfl (n := n1) (en1) (show 0 ≤ u0_9 ∧ u0_9 < n1 from q_3635 b31 h3 h4) (fun v33 ev33 qv33 => ?_)
          have ev33 : (A 1) (u0_9) = v33 := (congrFun (funext (mAu20 1 rfl)) (u0_9)).symm.trans ev33
          refine Ew_of (pcₚ := 103) (fun _ => x_sipush (z := 255) rfl (by decide)) ?_
          refine w_iand rfl (show inr (v33) from q_2536 qv33) (show inr (255) from q_36) (fun z34 gz34 gaz34 gbz34 => ?_)
          refine Ew_of (pcₚ := 106) (fun _ => x_istore rfl) ?_
          refine Ew_of (pcₚ := 108) (fun _ => x_iload rfl rk_s) ?_
          refine Ew_of (pcₚ := 111) (fun _ => x_getstatic rfl) ?_
          refine Ew_of (pcₚ := 112) (fun _ => x_iload_n rfl (rk_o (rfl) rfl rfl)) ?_
          refine v_stI (STC_out HT HE O) (b := 3) (n := 3) rfl rfl rfl rfl (show 0 ≤ 2 ∧ 2 < 3 from q_3507) (fun v35 ev35 qv35 => ?_)
          have hlv := ev35
          have hlw : ((v35) : Int) = 52 := by rw [← hlv]; rfl
          refine w_icmple (t := 124) rfl rfl (show inr (z34) from gz34) (show inr (v35) from qv35) (fun b36 => ?_) (fun b36 => ?_)
          · refine Ew_of (pcₚ := 125) (fun _ => x_aload_n rfl (rk_o (rfl) rfl rfl)) ?_
            refine v_g H (o := 0) (v := .ref (D 2)) rfl rfl rfl rfl rfl (vrf ((mFu32 0 2 rfl).trans (pf2))) ?_
            refine Ew_of (pcₚ := 129) (fun _ => x_iload_n rfl (rk_o (rfl) rfl rfl)) ?_
            refine v_lR H (o := 2) rfl rfl rfl rfl rfl (n := n2) (en2) (show 0 ≤ 2 ∧ 2 < n2 from q_3812 h7) (z := ((D 3 : Nat) : Int)) (v := .ref (D 3)) ((mAu20 2 rfl 2).trans (pf3)) (vrf rfl) ?_
            refine Ew_of (pcₚ := 132) (fun _ => x_iload rfl rk_s) ?_
            refine v_inv H (o := 3) rfl rfl rfl rfl rfl rfl (by rfl) (C168 (D := puc 52038409393826314588675 D) (N := puc 52038409393826314588675 N) (HW_subc H oz_I0acls_28 oz_I0acls_8) ((mFu32 3 7 rfl).trans (pf9)) ((mFu32 3 2 rfl).trans (pf4)) ((mFu32 3 3 rfl).trans (pf5)) ((mFu32 3 4 rfl).trans (pf6)) ((mFu32 3 5 rfl).trans (pf7)) ((mFu32 3 6 rfl).trans (pf8)) ((mFu32 3 8 rfl).trans (pf10)) ((mFu32 3 9 rfl).trans (pf11)) (n9) (en9) (n4) (en4) (n5) (en5) (n6) (en6) (n7) (en7) (n8) (en8) (n10) (en10) (n11) (en11) (u3_0) ((eu3_0)) (u3_1) (((mFu32 3 1 rfl).trans (eu3_1))) (w9) (ew9) (w4) (ew4) (w5) (ew5) (w6) (ew6) (w7) (ew7) (w10) (ew10) (w11) (ew11) (show inr (z34) from gz34) (show (n9) ≥ 1 by omega) (show (n4) = (u3_1) ∧ (n5) = (u3_1) ∧ (n6) = (u3_1) ∧ (n7) = (u3_1) ∧ (n8) = (u3_1) ∧ (n10) = (n9) ∧ (n11) = (n9) ∧ 1 ≤ (u3_1) ∧ (u3_1) ≤ 64 by omega) (show 0 ≤ (z34) ∧ (z34) < ((u3_1)) by omega) (fun σ37 F37ₚ A37ₚ Hₚ Oₚ hS37 hA37 y37_0_0 (ey37_0_0 : HID _) w37_1 ew37_1 w37_2 ew37_2 w37_3 ew37_3 w37_4 ew37_4 w37_5 ew37_5 w37_7 ew37_7 w37_8 ew37_8 pz37_0 pz37_1 => ⟨rfl, ?_⟩))
            refine v_backc (c := c) (s := s) H oz_I0acls_28 oz_I0acls_8 Hₚ Oₚ (fun F37 A37 H Oₚ eF37 eA37 => ?_)
            have O := OUT_trans O Oₚ
            -- Share.becomeAlone
            have cF37 : SF oz_I0aclsl_1 F F37 := SF_trans (cFu32) (SF_gluc (ι := oz_I0aclsl_4) oz_I0acls_8 hS37 eF37 (by decide +kernel)) (any_sub (lₚ := [(3, 0)]) (by decide +kernel))
            have mF37 := SFm_of cF37 oz_I0acls_5
            have cA37 : SA oz_I0aclsl_0 A A37 := SA_trans (cAu20) (SA_gluc (ι := oz_I0aclsl_4) oz_I0acls_8 hA37 eA37 (by decide +kernel)) (any_subA (lₚ := [4, 5, 6, 7, 8, 9, 10, 11]) (by decide +kernel))
            have mA37 := SAm_of cA37 oz_I0acls_4
            have r38 : (-2147483648 : Int) ≤ y37_0_0 ∧ y37_0_0 ≤ 2147483647 := rngE (show (-2147483648 : Int) ≤ F37 3 0 ∧ F37 3 0 ≤ 2147483647 from H.krg 3 0 (ltn len_V249_c12_vn_oz_I0acls rfl)) (show F37 3 0 = y37_0_0 from ((eF37 3 0).trans ey37_0_0))
            have hown := pz37_0
            refine Ew_of (pcₚ := 190) (fun _ => x_goto rfl rfl) ?_
            refine Ew_of (pcₚ := 191) (fun _ => x_iconst rfl) ?_
            have hfi0 : IMP (((0) : Int) = 0) (TI2 (((upd1 (w13) (2) (((D 3 : Nat) : Int)))) 2) ((((D 15 : Nat) : Int))) ((((D 3 : Nat) : Int)))) := by exact fun _ => .inr (by omega)
            have hfi1 : IMP (((0) : Int) = 0) (SLB (((upd1 (w13) (2) (((D 3 : Nat) : Int)))) 2) ((((D 3 : Nat) : Int))) (SL ((w37_2)) ((u3_1)) ((y37_0_0)) ((w37_3)) ((w37_4)) ((w37_5)) ((w37_1)) ((w37_7)) ((w37_8)))) := by exact fun _ => .inr hown
            have hfi2 : IMP (((0) : Int) = 0) (ORB (((upd1 (w13) (2) (((D 3 : Nat) : Int)))) 2) ((((D 3 : Nat) : Int))) ((y37_0_0)) 9) := by exact fun _ => .inr (by omega)
            have hfn : (IMP (((0) : Int) = 0) (((upd1 (w13) (2) (((D 3 : Nat) : Int)))) 2 ≠ -1)) := by exact fun _ => (by omega)
            exact w_ireturn rfl (k (0) _ _ _ H O (cF37) (cA37) ((u0_9 + 1)) (((show F37 0 9 = (updF F 0 9 ((u0_9 + 1))) 0 9 from (eF37 0 9)))) (y37_0_0) (((eF37 3 0).trans ey37_0_0)) (w37_2) ((eA37 4).trans ew37_2) (w37_3) ((eA37 5).trans ew37_3) (w37_4) ((eA37 6).trans ew37_4) (w37_5) ((eA37 7).trans ew37_5) (w37_1) ((eA37 9).trans ew37_1) (w37_7) ((eA37 10).trans ew37_7) (w37_8) ((eA37 11).trans ew37_8) (upd1 (w13) (2) (((D 3 : Nat) : Int))) (((show A37 13 = (updA A 13 (2) (((D 3 : Nat) : Int))) 13 from (eA37 13))).trans (congrArg (fun q => upd1 q (2) (((D 3 : Nat) : Int))) (ew13))) (show inr (0) from q_20) (show 0 ≤ (0) ∧ (0) ≤ 17 by first | exact q_3589 | omega) (show 0 ≤ ((u0_9 + 1)) ∧ (u0_9) ≤ ((u0_9 + 1)) ∧ ((u0_9 + 1)) ≤ (u0_8) from q_3800 b31 h3 h4) (show ((u0_9 + 1)) ≤ (u0_18) from q_1328 b31) (show (IMP ((0) = 0) (((upd1 (w13) (2) (((D 3 : Nat) : Int)))) 2 ≠ -1)) by assumption) (show IMP ((0) = 0) (TI2 (((upd1 (w13) (2) (((D 3 : Nat) : Int)))) 2) ((((D 15 : Nat) : Int))) ((((D 3 : Nat) : Int)))) by assumption) (show IMP ((0) = 0) (SLB (((upd1 (w13) (2) (((D 3 : Nat) : Int)))) 2) ((((D 3 : Nat) : Int))) (SL ((w37_2)) ((u3_1)) ((y37_0_0)) ((w37_3)) ((w37_4)) ((w37_5)) ((w37_1)) ((w37_7)) ((w37_8)))) by assumption) (show IMP ((0) = 0) (ORB (((upd1 (w13) (2) (((D 3 : Nat) : Int)))) 2) ((((D 3 : Nat) : Int))) ((y37_0_0)) 9) by assumption) (show 2 = 0 ∨ ((upd1 (w13) (2) (((D 3 : Nat) : Int)))) 0 = ((w13)) 0 by omega) (show 2 = 1 ∨ ((upd1 (w13) (2) (((D 3 : Nat) : Int)))) 1 = ((w13)) 1 by omega) (show 2 = 2 ∨ ((upd1 (w13) (2) (((D 3 : Nat) : Int)))) 2 = ((w13)) 2 by first | exact q_3508 | omega))
          · refine Ew_of (pcₚ := 117) (fun _ => x_aload_n rfl (rk_o (rfl) rfl rfl)) ?_
            refine Ew_of (pcₚ := 119) (fun _ => x_bipush (z := 16) rfl (by decide)) ?_
            refine Ew_of (pcₚ := 120) (fun _ => x_iload_n rfl (rk_o (rfl) rfl rfl)) ?_
            have r39 : (-2147483648 : Int) ≤ F 0 21 ∧ F 0 21 ≤ 2147483647 := H.krg 0 21 (ltn len_V249_c12_vn_oz_I0acls rfl)
            refine v_inv H (o := 0) rfl rfl rfl rfl rfl rfl (by rfl) (C232 (D := puc 0 D) (N := puc 0 N) (HW_subc H oz_I0acls_27 oz_I0acls_7) (F 0 21) (rfl) (show inr (16) from q_86) (show inr (a3) from h2) (fun z40 σ40 F40ₚ A40ₚ Hₚ Oₚ hS40 hA40 y40_0_21 (ey40_0_21 : HID _) pz40_0 pz40_1 pz40_2 => ⟨rfl, ?_⟩))
            refine v_backc (c := c) (s := s) H oz_I0acls_27 oz_I0acls_7 Hₚ Oₚ (fun F40 A40 H Oₚ eF40 eA40 => ?_)
            have O := OUT_trans O Oₚ
            -- Unpacker.fail
            have cF40 : SF oz_I0aclsl_1 F F40 := SF_trans (cFu32) (SF_gluc (ι := oz_I0aclsl_3) oz_I0acls_7 hS40 eF40 (by decide +kernel)) (any_sub (lₚ := [(0, 21)]) (by decide +kernel))
            have mF40 := SFm_of cF40 oz_I0acls_5
            have cA40 : SA oz_I0aclsl_0 A A40 := SA_trans (cAu20) (SA_gluc (ι := oz_I0aclsl_3) oz_I0acls_7 hA40 eA40 (by decide +kernel)) (any_subA (lₚ := []) (by decide +kernel))
            have mA40 := SAm_of cA40 oz_I0acls_4
            have r41 : (-2147483648 : Int) ≤ y40_0_21 ∧ y40_0_21 ≤ 2147483647 := rngE (show (-2147483648 : Int) ≤ F40 0 21 ∧ F40 0 21 ≤ 2147483647 from H.krg 0 21 (ltn len_V249_c12_vn_oz_I0acls rfl)) (show F40 0 21 = y40_0_21 from ((eF40 0 21).trans ey40_0_21))
            have hfi0 : IMP (((z40) : Int) = 0) (TI2 (((upd1 (w13) (2) (((D 3 : Nat) : Int)))) 2) ((((D 15 : Nat) : Int))) ((((D 3 : Nat) : Int)))) := by exact fun q => absurd q (by omega)
            have hfi1 : IMP (((z40) : Int) = 0) (SLB (((upd1 (w13) (2) (((D 3 : Nat) : Int)))) 2) ((((D 3 : Nat) : Int))) (SL ((w4)) ((u3_1)) ((u3_0)) ((w5)) ((w6)) ((w7)) ((w9)) ((w10)) ((w11)))) := by exact fun q => absurd q (by omega)
            have hfi2 : IMP (((z40) : Int) = 0) (ORB (((upd1 (w13) (2) (((D 3 : Nat) : Int)))) 2) ((((D 3 : Nat) : Int))) ((u3_0)) 9) := by exact fun q => absurd q (by omega)
            have hfn : (IMP (((z40) : Int) = 0) (((upd1 (w13) (2) (((D 3 : Nat) : Int)))) 2 ≠ -1)) := by exact fun q => absurd q (by omega)
            exact w_ireturn rfl (k (z40) _ _ _ H O (cF40) (cA40) ((u0_9 + 1)) (((show F40 0 9 = (updF F 0 9 ((u0_9 + 1))) 0 9 from (eF40 0 9).trans (hS40 0 9 rfl)))) (u3_0) ((((show F40 3 0 = (updF F 0 9 ((u0_9 + 1))) 3 0 from (eF40 3 0))).trans (eu3_0))) (w4) (((show A40 4 = (updA A 13 (2) (((D 3 : Nat) : Int))) 4 from (eA40 4))).trans (ew4)) (w5) (((show A40 5 = (updA A 13 (2) (((D 3 : Nat) : Int))) 5 from (eA40 5))).trans (ew5)) (w6) (((show A40 6 = (updA A 13 (2) (((D 3 : Nat) : Int))) 6 from (eA40 6))).trans (ew6)) (w7) (((show A40 7 = (updA A 13 (2) (((D 3 : Nat) : Int))) 7 from (eA40 7))).trans (ew7)) (w9) (((show A40 9 = (updA A 13 (2) (((D 3 : Nat) : Int))) 9 from (eA40 9))).trans (ew9)) (w10) (((show A40 10 = (updA A 13 (2) (((D 3 : Nat) : Int))) 10 from (eA40 10))).trans (ew10)) (w11) (((show A40 11 = (updA A 13 (2) (((D 3 : Nat) : Int))) 11 from (eA40 11))).trans (ew11)) (upd1 (w13) (2) (((D 3 : Nat) : Int))) (((show A40 13 = (updA A 13 (2) (((D 3 : Nat) : Int))) 13 from (eA40 13))).trans (congrArg (fun q => upd1 q (2) (((D 3 : Nat) : Int))) (ew13))) (show inr (z40) from pz40_0) (show 0 ≤ (z40) ∧ (z40) ≤ 17 from q_3798 pz40_1) (show 0 ≤ ((u0_9 + 1)) ∧ (u0_9) ≤ ((u0_9 + 1)) ∧ ((u0_9 + 1)) ≤ (u0_8) from q_3800 b31 h3 h4) (show ((u0_9 + 1)) ≤ (u0_18) from q_1328 b31) (show (IMP ((z40) = 0) (((upd1 (w13) (2) (((D 3 : Nat) : Int)))) 2 ≠ -1)) from hfn) (show IMP ((z40) = 0) (TI2 (((upd1 (w13) (2) (((D 3 : Nat) : Int)))) 2) ((((D 15 : Nat) : Int))) ((((D 3 : Nat) : Int)))) from hfi0) (show IMP ((z40) = 0) (SLB (((upd1 (w13) (2) (((D 3 : Nat) : Int)))) 2) ((((D 3 : Nat) : Int))) (SL ((w4)) ((u3_1)) ((u3_0)) ((w5)) ((w6)) ((w7)) ((w9)) ((w10)) ((w11)))) from hfi1) (show IMP ((z40) = 0) (ORB (((upd1 (w13) (2) (((D 3 : Nat) : Int)))) 2) ((((D 3 : Nat) : Int))) ((u3_0)) 9) from hfi2) (show 2 = 0 ∨ ((upd1 (w13) (2) (((D 3 : Nat) : Int)))) 0 = ((w13)) 0 by omega) (show 2 = 1 ∨ ((upd1 (w13) (2) (((D 3 : Nat) : Int)))) 1 = ((w13)) 1 by omega) (show 2 = 2 ∨ ((upd1 (w13) (2) (((D 3 : Nat) : Int)))) 2 = ((w13)) 2 by first | exact q_3508 | omega))
        · refine Ew_of (pcₚ := 74) (fun _ => x_aload_n rfl rfl) ?_
          refine Ew_of (pcₚ := 76) (fun _ => x_bipush (z := 10) rfl (by decide)) ?_
          refine Ew_of (pcₚ := 77) (fun _ => x_aload_n rfl rfl) ?_
          refine v_g H (o := 0) (v := I (u0_18)) rfl rfl rfl rfl rfl (congrArg (fun z : Int => I z) ((eu0_18) : F 0 18 = u0_18)) ?_
          have r42 : (-2147483648 : Int) ≤ F 0 21 ∧ F 0 21 ≤ 2147483647 := H.krg 0 21 (ltn len_V249_c12_vn_oz_I0acls rfl)
          refine v_inv H (o := 0) rfl rfl rfl rfl rfl rfl (by rfl) (C232 (D := puc 0 D) (N := puc 0 N) (HW_subc H oz_I0acls_27 oz_I0acls_7) (F 0 21) (rfl) (show inr (10) from q_532) (show inr (u0_18) from q_22 r3) (fun z43 σ43 F43ₚ A43ₚ Hₚ Oₚ hS43 hA43 y43_0_21 (ey43_0_21 : HID _) pz43_0 pz43_1 pz43_2 => ⟨rfl, ?_⟩))
          refine v_backc (c := c) (s := s) H oz_I0acls_27 oz_I0acls_7 Hₚ Oₚ (fun F43 A43 H Oₚ eF43 eA43 => ?_)
          have O := OUT_trans O Oₚ
          -- Unpacker.fail
          have cF43 : SF oz_I0aclsl_1 F F43 := SF_trans (SF_refl) (SF_gluc (ι := oz_I0aclsl_3) oz_I0acls_7 hS43 eF43 (by decide +kernel)) (any_sub (lₚ := [(0, 21)]) (by decide +kernel))
          have mF43 := SFm_of cF43 oz_I0acls_5
          have cA43 : SA oz_I0aclsl_0 A A43 := SA_trans (cAu20) (SA_gluc (ι := oz_I0aclsl_3) oz_I0acls_7 hA43 eA43 (by decide +kernel)) (any_subA (lₚ := []) (by decide +kernel))
          have mA43 := SAm_of cA43 oz_I0acls_4
          have r44 : (-2147483648 : Int) ≤ y43_0_21 ∧ y43_0_21 ≤ 2147483647 := rngE (show (-2147483648 : Int) ≤ F43 0 21 ∧ F43 0 21 ≤ 2147483647 from H.krg 0 21 (ltn len_V249_c12_vn_oz_I0acls rfl)) (show F43 0 21 = y43_0_21 from ((eF43 0 21).trans ey43_0_21))
          have hfi0 : IMP (((z43) : Int) = 0) (TI2 (((upd1 (w13) (2) (((D 3 : Nat) : Int)))) 2) ((((D 15 : Nat) : Int))) ((((D 3 : Nat) : Int)))) := by exact fun q => absurd q (by omega)
          have hfi1 : IMP (((z43) : Int) = 0) (SLB (((upd1 (w13) (2) (((D 3 : Nat) : Int)))) 2) ((((D 3 : Nat) : Int))) (SL ((w4)) ((u3_1)) ((u3_0)) ((w5)) ((w6)) ((w7)) ((w9)) ((w10)) ((w11)))) := by exact fun q => absurd q (by omega)
          have hfi2 : IMP (((z43) : Int) = 0) (ORB (((upd1 (w13) (2) (((D 3 : Nat) : Int)))) 2) ((((D 3 : Nat) : Int))) ((u3_0)) 9) := by exact fun q => absurd q (by omega)
          have hfn : (IMP (((z43) : Int) = 0) (((upd1 (w13) (2) (((D 3 : Nat) : Int)))) 2 ≠ -1)) := by exact fun q => absurd q (by omega)
          exact w_ireturn rfl (k (z43) _ _ _ H O (cF43) (cA43) (u0_9) ((((show F43 0 9 = F 0 9 from (eF43 0 9).trans (hS43 0 9 rfl))).trans (eu0_9))) (u3_0) ((((show F43 3 0 = F 3 0 from (eF43 3 0))).trans (eu3_0))) (w4) (((show A43 4 = (updA A 13 (2) (((D 3 : Nat) : Int))) 4 from (eA43 4))).trans (ew4)) (w5) (((show A43 5 = (updA A 13 (2) (((D 3 : Nat) : Int))) 5 from (eA43 5))).trans (ew5)) (w6) (((show A43 6 = (updA A 13 (2) (((D 3 : Nat) : Int))) 6 from (eA43 6))).trans (ew6)) (w7) (((show A43 7 = (updA A 13 (2) (((D 3 : Nat) : Int))) 7 from (eA43 7))).trans (ew7)) (w9) (((show A43 9 = (updA A 13 (2) (((D 3 : Nat) : Int))) 9 from (eA43 9))).trans (ew9)) (w10) (((show A43 10 = (updA A 13 (2) (((D 3 : Nat) : Int))) 10 from (eA43 10))).trans (ew10)) (w11) (((show A43 11 = (updA A 13 (2) (((D 3 : Nat) : Int))) 11 from (eA43 11))).trans (ew11)) (upd1 (w13) (2) (((D 3 : Nat) : Int))) (((show A43 13 = (updA A 13 (2) (((D 3 : Nat) : Int))) 13 from (eA43 13))).trans (congrArg (fun q => upd1 q (2) (((D 3 : Nat) : Int))) (ew13))) (show inr (z43) from pz43_0) (show 0 ≤ (z43) ∧ (z43) ≤ 17 from q_3651 pz43_1) (show 0 ≤ (u0_9) ∧ (u0_9) ≤ (u0_9) ∧ (u0_9) ≤ (u0_8) from q_3590 h3) (show (u0_9) ≤ (u0_18) from q_1468 h4) (show (IMP ((z43) = 0) (((upd1 (w13) (2) (((D 3 : Nat) : Int)))) 2 ≠ -1)) from hfn) (show IMP ((z43) = 0) (TI2 (((upd1 (w13) (2) (((D 3 : Nat) : Int)))) 2) ((((D 15 : Nat) : Int))) ((((D 3 : Nat) : Int)))) from hfi0) (show IMP ((z43) = 0) (SLB (((upd1 (w13) (2) (((D 3 : Nat) : Int)))) 2) ((((D 3 : Nat) : Int))) (SL ((w4)) ((u3_1)) ((u3_0)) ((w5)) ((w6)) ((w7)) ((w9)) ((w10)) ((w11)))) from hfi1) (show IMP ((z43) = 0) (ORB (((upd1 (w13) (2) (((D 3 : Nat) : Int)))) 2) ((((D 3 : Nat) : Int))) ((u3_0)) 9) from hfi2) (show 2 = 0 ∨ ((upd1 (w13) (2) (((D 3 : Nat) : Int)))) 0 = ((w13)) 0 by omega) (show 2 = 1 ∨ ((upd1 (w13) (2) (((D 3 : Nat) : Int)))) 1 = ((w13)) 1 by omega) (show 2 = 2 ∨ ((upd1 (w13) (2) (((D 3 : Nat) : Int)))) 2 = ((w13)) 2 by first | exact q_3508 | omega))
    · refine Ew_of (pcₚ := 42) (fun _ => x_aload_n rfl rfl) ?_
      refine v_g H (o := 0) (v := .ref (D 14)) rfl rfl rfl rfl rfl (vrf (pf14)) ?_
      refine Ew_of (pcₚ := 46) (fun _ => x_iload_n rfl rfl) ?_
      refine v_lR H (o := 14) rfl rfl rfl rfl rfl (n := n14) (en14) (show 0 ≤ 2 ∧ 2 < n14 from q_3814 h7) (z := ((D 15 : Nat) : Int)) (v := .ref (D 15)) (pf15) (vrf rfl) ?_
      have hs_ := upd1_s (a := ((w13))) (j := 2) (z := (((D 15 : Nat) : Int)))
      have hu0_ : (2 : Int) = 0 ∨ upd1 ((w13)) 2 ((((D 15 : Nat) : Int))) 0 = ((w13)) 0 := by by_cases w : (0 : Int) = 2; exact .inl (by omega); exact .inr (upd1_o w)
      have hu1_ : (2 : Int) = 1 ∨ upd1 ((w13)) 2 ((((D 15 : Nat) : Int))) 1 = ((w13)) 1 := by by_cases w : (1 : Int) = 2; exact .inl (by omega); exact .inr (upd1_o w)
      have hu2_ : (2 : Int) = 2 ∨ upd1 ((w13)) 2 ((((D 15 : Nat) : Int))) 2 = ((w13)) 2 := by by_cases w : (2 : Int) = 2; exact .inl (by omega); exact .inr (upd1_o w)
      refine Ew_of (pcₚ := 56) (fun _ => x_goto rfl rfl) ?_
      refine v_sR H (o := 13) (z := ((D 15 : Nat) : Int)) (v := .ref (D 15)) rfl rfl rfl rfl rfl (n := n13) (en13) (show 0 ≤ 2 ∧ 2 < n13 from q_3813 h7) (show (-1 : Int) ≤ ((D 15 : Nat) : Int) by omega) (vrf rfl) (rkinR H (x := 15) rfl rfl rfl) (fun σ H Oₚ => ?_)
      have O := OUT_trans O Oₚ
      have cAu45 : SA oz_I0aclsl_0 A (updA A 13 (2) (((D 15 : Nat) : Int))) := SA_upd (SA_refl) rfl
      have mAu45 := SAm_of cAu45 oz_I0acls_4
      refine Ew_of (pcₚ := 58) (fun _ => x_iload_n rfl rfl) ?_
      refine Ew_of (pcₚ := 59) (fun _ => x_iconst rfl) ?_
      refine w_icmpne (t := 138) rfl rfl (show inr (a2) from h1) (show inr (1) from q_23) (fun b46 => ?_) (fun b46 => ?_)
      · refine Ew_of (pcₚ := 139) (fun _ => x_iload_n rfl rfl) ?_
        refine Ew_of (pcₚ := 140) (fun _ => x_iconst rfl) ?_
        refine w_icmpne (t := 190) rfl rfl (show inr (a2) from h1) (show inr (2) from h0) (fun b47 => ?_) (fun b47 => ?_)
        · refine Ew_of (pcₚ := 191) (fun _ => x_iconst rfl) ?_
          have hfi0 : IMP (((0) : Int) = 0) (TI2 (((upd1 (w13) (2) (((D 15 : Nat) : Int)))) 2) ((((D 15 : Nat) : Int))) ((((D 3 : Nat) : Int)))) := by exact fun _ => .inr (by omega)
          have hfi1 : IMP (((0) : Int) = 0) (SLB (((upd1 (w13) (2) (((D 15 : Nat) : Int)))) 2) ((((D 3 : Nat) : Int))) (SL ((w4)) ((u3_1)) ((u3_0)) ((w5)) ((w6)) ((w7)) ((w9)) ((w10)) ((w11)))) := by exact fun _ => .inl (by omega)
          have hfi2 : IMP (((0) : Int) = 0) (ORB (((upd1 (w13) (2) (((D 15 : Nat) : Int)))) 2) ((((D 3 : Nat) : Int))) ((u3_0)) 9) := by exact fun _ => .inl (by omega)
          have hfn : (IMP (((0) : Int) = 0) (((upd1 (w13) (2) (((D 15 : Nat) : Int)))) 2 ≠ -1)) := by exact fun _ => (by omega)
          exact w_ireturn rfl (k (0) _ _ _ H O (SF_refl) (cAu45) (u0_9) ((eu0_9)) (u3_0) ((eu3_0)) (w4) (ew4) (w5) (ew5) (w6) (ew6) (w7) (ew7) (w9) (ew9) (w10) (ew10) (w11) (ew11) (upd1 (w13) (2) (((D 15 : Nat) : Int))) (congrArg (fun q => upd1 q (2) (((D 15 : Nat) : Int))) (ew13)) (show inr (0) from q_20) (show 0 ≤ (0) ∧ (0) ≤ 17 by first | exact q_3589 | omega) (show 0 ≤ (u0_9) ∧ (u0_9) ≤ (u0_9) ∧ (u0_9) ≤ (u0_8) from q_3590 h3) (show (u0_9) ≤ (u0_18) from q_1468 h4) (show (IMP ((0) = 0) (((upd1 (w13) (2) (((D 15 : Nat) : Int)))) 2 ≠ -1)) by assumption) (show IMP ((0) = 0) (TI2 (((upd1 (w13) (2) (((D 15 : Nat) : Int)))) 2) ((((D 15 : Nat) : Int))) ((((D 3 : Nat) : Int)))) by assumption) (show IMP ((0) = 0) (SLB (((upd1 (w13) (2) (((D 15 : Nat) : Int)))) 2) ((((D 3 : Nat) : Int))) (SL ((w4)) ((u3_1)) ((u3_0)) ((w5)) ((w6)) ((w7)) ((w9)) ((w10)) ((w11)))) by assumption) (show IMP ((0) = 0) (ORB (((upd1 (w13) (2) (((D 15 : Nat) : Int)))) 2) ((((D 3 : Nat) : Int))) ((u3_0)) 9) by assumption) (show 2 = 0 ∨ ((upd1 (w13) (2) (((D 15 : Nat) : Int)))) 0 = ((w13)) 0 by omega) (show 2 = 1 ∨ ((upd1 (w13) (2) (((D 15 : Nat) : Int)))) 1 = ((w13)) 1 by omega) (show 2 = 2 ∨ ((upd1 (w13) (2) (((D 15 : Nat) : Int)))) 2 = ((w13)) 2 by first | exact q_3508 | omega))
        · refine Ew_of (pcₚ := 144) (fun _ => x_aload_n rfl rfl) ?_
          refine v_g H (o := 0) (v := .ref (D 2)) rfl rfl rfl rfl rfl (vrf (pf2)) ?_
          refine Ew_of (pcₚ := 148) (fun _ => x_iload_n rfl rfl) ?_
          refine v_lR H (o := 2) rfl rfl rfl rfl rfl (n := n2) (en2) (show 0 ≤ 2 ∧ 2 < n2 from q_3812 h7) (z := ((D 3 : Nat) : Int)) (v := .ref (D 3)) ((mAu45 2 rfl 2).trans (pf3)) (vrf rfl) ?_
          refine Ew_of (pcₚ := 150) (fun _ => x_aload_n rfl rfl) ?_
          refine v_g H (o := 0) (v := .ref (D 1)) rfl rfl rfl rfl rfl (vrf (pf1)) ?_
          refine Ew_of (pcₚ := 154) (fun _ => x_aload_n rfl rfl) ?_
          refine v_g H (o := 0) (v := I (u0_9)) rfl rfl rfl rfl rfl (congrArg (fun z : Int => I z) ((eu0_9) : F 0 9 = u0_9)) ?_
          refine Ew_of (pcₚ := 158) (fun _ => x_aload_n rfl rfl) ?_
          refine v_g H (o := 0) (v := I (u0_18)) rfl rfl rfl rfl rfl (congrArg (fun z : Int => I z) ((eu0_18) : F 0 18 = u0_18)) ?_
          refine Ew_of (pcₚ := 164) (fun _ => x_getstatic rfl) ?_
          refine Ew_of (pcₚ := 165) (fun _ => x_iload_n rfl rfl) ?_
          refine v_stI (STC_out HT HE O) (b := 2) (n := 3) rfl rfl rfl rfl (show 0 ≤ 2 ∧ 2 < 3 from q_3507) (fun v48 ev48 qv48 => ?_)
          have hgo := ev48
          have hgv : ((v48) : Int) = 9 := by rw [← hgo]; rfl
          have hpg : p2 ((v48)) = 512 := by rw [hgv]; decide
          refine v_inv H (o := 3) rfl rfl rfl rfl rfl rfl (by rfl) (C184_Br (D := puc 26643665609639073069400579 D) (N := puc 26643665609639073069400579 N) (HW_subc H oz_I0acls_26 oz_I0acls_6) (pf9) (pf4) (pf5) (pf6) (pf7) (pf8) (pf10) (pf11) (n1) (en1) (n9) (en9) (n4) (en4) (n5) (en5) (n6) (en6) (n7) (en7) (n8) (en8) (n10) (en10) (n11) (en11) (u3_0) ((eu3_0)) (u3_1) ((eu3_1)) (w9) (ew9) (w4) (ew4) (w5) (ew5) (w6) (ew6) (w7) (ew7) (w10) (ew10) (w11) (ew11) (show inr (u0_9) from q_3585 h3) (show inr (u0_18) from q_22 r3) (show inr (v48) from qv48) (show 0 ≤ (u0_9) ∧ (u0_9) ≤ (u0_18) ∧ (u0_18) ≤ (n1) ∧ (n1) ≤ 65536 from q_3794 h3 h4) (show 5 ≤ (v48) ∧ (v48) ≤ 9 ∧ p2 (v48) ≤ (n9) by omega) (show (n4) = (u3_1) ∧ (n5) = (u3_1) ∧ (n6) = (u3_1) ∧ (n7) = (u3_1) ∧ (n8) = (u3_1) ∧ (n10) = (n9) ∧ (n11) = (n9) ∧ 1 ≤ (u3_1) ∧ (u3_1) ≤ 64 by omega) (fun z49 σ49 F49ₚ A49ₚ Hₚ Oₚ hS49 hA49 y49_0_0 (ey49_0_0 : HID _) w49_2 ew49_2 w49_3 ew49_3 w49_4 ew49_4 w49_5 ew49_5 w49_6 ew49_6 w49_8 ew49_8 w49_9 ew49_9 (pq49_0 : HID _) pz49_0 pz49_1 pz49_2 pz49_3 => ⟨rfl, ?_⟩))
          refine v_backc (c := c) (s := s) H oz_I0acls_26 oz_I0acls_6 Hₚ Oₚ (fun F49 A49 H Oₚ eF49 eA49 => ?_)
          have O := OUT_trans O Oₚ
          -- Share.hear
          have cF49 : SF oz_I0aclsl_1 F F49 := SF_trans (SF_refl) (SF_gluc (ι := oz_I0aclsl_2) oz_I0acls_6 hS49 eF49 (by decide +kernel)) (any_sub (lₚ := [(3, 0), (3, 10), (3, 11), (3, 12)]) (by decide +kernel))
          have mF49 := SFm_of cF49 oz_I0acls_5
          have cA49 : SA oz_I0aclsl_0 A A49 := SA_trans (cAu45) (SA_gluc (ι := oz_I0aclsl_2) oz_I0acls_6 hA49 eA49 (by decide +kernel)) (any_subA (lₚ := [4, 5, 6, 7, 8, 9, 10, 11]) (by decide +kernel))
          have mA49 := SAm_of cA49 oz_I0acls_4
          have pl49_0 : HID (F49 3 10 = (D 1 : Int)) := (eF49 3 10).trans (pq49_0)
          have r50 : (-2147483648 : Int) ≤ y49_0_0 ∧ y49_0_0 ≤ 2147483647 := rngE (show (-2147483648 : Int) ≤ F49 3 0 ∧ F49 3 0 ≤ 2147483647 from H.krg 3 0 (ltn len_V249_c12_vn_oz_I0acls rfl)) (show F49 3 0 = y49_0_0 from ((eF49 3 0).trans ey49_0_0))
          refine Ew_of (pcₚ := 171) (fun _ => x_istore rfl) ?_
          refine Ew_of (pcₚ := 173) (fun _ => x_iload rfl rk_s) ?_
          refine w_ifge (t := 184) rfl rfl (show inr (z49) from pz49_0) (fun b51 => ?_) (fun b51 => ?_)
          · have hown := Or.resolve_left pz49_3 (by omega)
            have hord : (y49_0_0) ≤ 9 := q_3795 b51 hgv pz49_2 r50
            refine Ew_of (pcₚ := 185) (fun _ => x_aload_n rfl (rk_o (rfl) rfl rfl)) ?_
            refine Ew_of (pcₚ := 187) (fun _ => x_iload rfl rk_s) ?_
            refine v_p H (o := 0) (z := z49) (v := I (z49)) rfl rfl rfl rfl rfl rfl rfl rfl (show (-2147483648 : Int) ≤ z49 ∧ z49 ≤ 2147483647 from q_3761 b51 pz49_0) (fun σ H Oₚ => ?_)
            have O := OUT_trans O Oₚ
            have cFu52 : SF oz_I0aclsl_1 F (updF F49 0 9 (z49)) := SF_upd (cF49) rfl
            have mFu52 := SFm_of cFu52 oz_I0acls_5
            refine Ew_of (pcₚ := 191) (fun _ => x_iconst rfl) ?_
            have hfi0 : IMP (((0) : Int) = 0) (TI2 (((upd1 (w13) (2) (((D 15 : Nat) : Int)))) 2) ((((D 15 : Nat) : Int))) ((((D 3 : Nat) : Int)))) := by exact fun q => absurd q (by omega)
            have hfi1 : IMP (((0) : Int) = 0) (SLB (((upd1 (w13) (2) (((D 15 : Nat) : Int)))) 2) ((((D 3 : Nat) : Int))) (SL ((w49_3)) ((u3_1)) ((y49_0_0)) ((w49_4)) ((w49_5)) ((w49_6)) ((w49_2)) ((w49_8)) ((w49_9)))) := by exact fun q => absurd q (by omega)
            have hfi2 : IMP (((0) : Int) = 0) (ORB (((upd1 (w13) (2) (((D 15 : Nat) : Int)))) 2) ((((D 3 : Nat) : Int))) ((y49_0_0)) 9) := by exact fun q => absurd q (by omega)
            have hfn : (IMP (((0) : Int) = 0) (((upd1 (w13) (2) (((D 15 : Nat) : Int)))) 2 ≠ -1)) := by exact fun q => absurd q (by omega)
            exact w_ireturn rfl (k (0) _ _ _ H O (cFu52) (cA49) (z49) (rfl) (y49_0_0) (((eF49 3 0).trans ey49_0_0)) (w49_3) ((eA49 4).trans ew49_3) (w49_4) ((eA49 5).trans ew49_4) (w49_5) ((eA49 6).trans ew49_5) (w49_6) ((eA49 7).trans ew49_6) (w49_2) ((eA49 9).trans ew49_2) (w49_8) ((eA49 10).trans ew49_8) (w49_9) ((eA49 11).trans ew49_9) (upd1 (w13) (2) (((D 15 : Nat) : Int))) (((show A49 13 = (updA A 13 (2) (((D 15 : Nat) : Int))) 13 from (eA49 13))).trans (congrArg (fun q => upd1 q (2) (((D 15 : Nat) : Int))) (ew13))) (show inr (0) from q_20) (show 0 ≤ (0) ∧ (0) ≤ 17 by first | exact q_3589 | omega) (show 0 ≤ (z49) ∧ (u0_9) ≤ (z49) ∧ (z49) ≤ (u0_8) from q_3797 b51 h3 h4 pz49_1 pz49_3) (show (z49) ≤ (u0_18) from q_3796 b51 pz49_1 pz49_3 r3) (show (IMP ((0) = 0) (((upd1 (w13) (2) (((D 15 : Nat) : Int)))) 2 ≠ -1)) by assumption) (show IMP ((0) = 0) (TI2 (((upd1 (w13) (2) (((D 15 : Nat) : Int)))) 2) ((((D 15 : Nat) : Int))) ((((D 3 : Nat) : Int)))) by assumption) (show IMP ((0) = 0) (SLB (((upd1 (w13) (2) (((D 15 : Nat) : Int)))) 2) ((((D 3 : Nat) : Int))) (SL ((w49_3)) ((u3_1)) ((y49_0_0)) ((w49_4)) ((w49_5)) ((w49_6)) ((w49_2)) ((w49_8)) ((w49_9)))) by assumption) (show IMP ((0) = 0) (ORB (((upd1 (w13) (2) (((D 15 : Nat) : Int)))) 2) ((((D 3 : Nat) : Int))) ((y49_0_0)) 9) by assumption) (show 2 = 0 ∨ ((upd1 (w13) (2) (((D 15 : Nat) : Int)))) 0 = ((w13)) 0 by omega) (show 2 = 1 ∨ ((upd1 (w13) (2) (((D 15 : Nat) : Int)))) 1 = ((w13)) 1 by omega) (show 2 = 2 ∨ ((upd1 (w13) (2) (((D 15 : Nat) : Int)))) 2 = ((w13)) 2 by first | exact q_3508 | omega))
          · refine Ew_of (pcₚ := 177) (fun _ => x_aload_n rfl (rk_o (rfl) rfl rfl)) ?_
            refine Ew_of (pcₚ := 179) (fun _ => x_bipush (z := 16) rfl (by decide)) ?_
            refine Ew_of (pcₚ := 180) (fun _ => x_iload_n rfl (rk_o (rfl) rfl rfl)) ?_
            have r53 : (-2147483648 : Int) ≤ F 0 21 ∧ F 0 21 ≤ 2147483647 := rngE (show (-2147483648 : Int) ≤ F49 0 21 ∧ F49 0 21 ≤ 2147483647 from H.krg 0 21 (ltn len_V249_c12_vn_oz_I0acls rfl)) (show F49 0 21 = F 0 21 from ((show F49 0 21 = F 0 21 from (eF49 0 21))))
            refine v_inv H (o := 0) rfl rfl rfl rfl rfl rfl (by rfl) (C232 (D := puc 0 D) (N := puc 0 N) (HW_subc H oz_I0acls_27 oz_I0acls_7) (F 0 21) (((show F49 0 21 = F 0 21 from (eF49 0 21)))) (show inr (16) from q_86) (show inr (a3) from h2) (fun z54 σ54 F54ₚ A54ₚ Hₚ Oₚ hS54 hA54 y54_0_21 (ey54_0_21 : HID _) pz54_0 pz54_1 pz54_2 => ⟨rfl, ?_⟩))
            refine v_backc (c := c) (s := s) H oz_I0acls_27 oz_I0acls_7 Hₚ Oₚ (fun F54 A54 H Oₚ eF54 eA54 => ?_)
            have O := OUT_trans O Oₚ
            -- Unpacker.fail
            have cF54 : SF oz_I0aclsl_1 F F54 := SF_trans (cF49) (SF_gluc (ι := oz_I0aclsl_3) oz_I0acls_7 hS54 eF54 (by decide +kernel)) (any_sub (lₚ := [(0, 21)]) (by decide +kernel))
            have mF54 := SFm_of cF54 oz_I0acls_5
            have cA54 : SA oz_I0aclsl_0 A A54 := SA_trans (cA49) (SA_gluc (ι := oz_I0aclsl_3) oz_I0acls_7 hA54 eA54 (by decide +kernel)) (any_subA (lₚ := []) (by decide +kernel))
            have mA54 := SAm_of cA54 oz_I0acls_4
            have r55 : (-2147483648 : Int) ≤ y54_0_21 ∧ y54_0_21 ≤ 2147483647 := rngE (show (-2147483648 : Int) ≤ F54 0 21 ∧ F54 0 21 ≤ 2147483647 from H.krg 0 21 (ltn len_V249_c12_vn_oz_I0acls rfl)) (show F54 0 21 = y54_0_21 from ((eF54 0 21).trans ey54_0_21))
            have hfi0 : IMP (((z54) : Int) = 0) (TI2 (((upd1 (w13) (2) (((D 15 : Nat) : Int)))) 2) ((((D 15 : Nat) : Int))) ((((D 3 : Nat) : Int)))) := by exact fun q => absurd q (by omega)
            have hfi1 : IMP (((z54) : Int) = 0) (SLB (((upd1 (w13) (2) (((D 15 : Nat) : Int)))) 2) ((((D 3 : Nat) : Int))) (SL ((w49_3)) ((u3_1)) ((y49_0_0)) ((w49_4)) ((w49_5)) ((w49_6)) ((w49_2)) ((w49_8)) ((w49_9)))) := by exact fun q => absurd q (by omega)
            have hfi2 : IMP (((z54) : Int) = 0) (ORB (((upd1 (w13) (2) (((D 15 : Nat) : Int)))) 2) ((((D 3 : Nat) : Int))) ((y49_0_0)) 9) := by exact fun q => absurd q (by omega)
            have hfn : (IMP (((z54) : Int) = 0) (((upd1 (w13) (2) (((D 15 : Nat) : Int)))) 2 ≠ -1)) := by exact fun q => absurd q (by omega)
            exact w_ireturn rfl (k (z54) _ _ _ H O (cF54) (cA54) (u0_9) (((((show F54 0 9 = F49 0 9 from (eF54 0 9).trans (hS54 0 9 rfl))).trans ((show F49 0 9 = F 0 9 from (eF49 0 9)))).trans (eu0_9))) (y49_0_0) ((((show F54 3 0 = F49 3 0 from (eF54 3 0))).trans ((eF49 3 0).trans ey49_0_0))) (w49_3) (((show A54 4 = A49 4 from (eA54 4))).trans ((eA49 4).trans ew49_3)) (w49_4) (((show A54 5 = A49 5 from (eA54 5))).trans ((eA49 5).trans ew49_4)) (w49_5) (((show A54 6 = A49 6 from (eA54 6))).trans ((eA49 6).trans ew49_5)) (w49_6) (((show A54 7 = A49 7 from (eA54 7))).trans ((eA49 7).trans ew49_6)) (w49_2) (((show A54 9 = A49 9 from (eA54 9))).trans ((eA49 9).trans ew49_2)) (w49_8) (((show A54 10 = A49 10 from (eA54 10))).trans ((eA49 10).trans ew49_8)) (w49_9) (((show A54 11 = A49 11 from (eA54 11))).trans ((eA49 11).trans ew49_9)) (upd1 (w13) (2) (((D 15 : Nat) : Int))) (((show A54 13 = A49 13 from (eA54 13))).trans (((show A49 13 = (updA A 13 (2) (((D 15 : Nat) : Int))) 13 from (eA49 13))).trans (congrArg (fun q => upd1 q (2) (((D 15 : Nat) : Int))) (ew13)))) (show inr (z54) from pz54_0) (show 0 ≤ (z54) ∧ (z54) ≤ 17 from q_3798 pz54_1) (show 0 ≤ (u0_9) ∧ (u0_9) ≤ (u0_9) ∧ (u0_9) ≤ (u0_8) from q_3590 h3) (show (u0_9) ≤ (u0_18) from q_1468 h4) (show (IMP ((z54) = 0) (((upd1 (w13) (2) (((D 15 : Nat) : Int)))) 2 ≠ -1)) from hfn) (show IMP ((z54) = 0) (TI2 (((upd1 (w13) (2) (((D 15 : Nat) : Int)))) 2) ((((D 15 : Nat) : Int))) ((((D 3 : Nat) : Int)))) from hfi0) (show IMP ((z54) = 0) (SLB (((upd1 (w13) (2) (((D 15 : Nat) : Int)))) 2) ((((D 3 : Nat) : Int))) (SL ((w49_3)) ((u3_1)) ((y49_0_0)) ((w49_4)) ((w49_5)) ((w49_6)) ((w49_2)) ((w49_8)) ((w49_9)))) from hfi1) (show IMP ((z54) = 0) (ORB (((upd1 (w13) (2) (((D 15 : Nat) : Int)))) 2) ((((D 3 : Nat) : Int))) ((y49_0_0)) 9) from hfi2) (show 2 = 0 ∨ ((upd1 (w13) (2) (((D 15 : Nat) : Int)))) 0 = ((w13)) 0 by omega) (show 2 = 1 ∨ ((upd1 (w13) (2) (((D 15 : Nat) : Int)))) 1 = ((w13)) 1 by omega) (show 2 = 2 ∨ ((upd1 (w13) (2) (((D 15 : Nat) : Int)))) 2 = ((w13)) 2 by first | exact q_3508 | omega))
      · refine Ew_of (pcₚ := 63) (fun _ => x_aload_n rfl rfl) ?_
        refine v_g H (o := 0) (v := I (u0_9)) rfl rfl rfl rfl rfl (congrArg (fun z : Int => I z) ((eu0_9) : F 0 9 = u0_9)) ?_
        refine Ew_of (pcₚ := 67) (fun _ => x_aload_n rfl rfl) ?_
        refine v_g H (o := 0) (v := I (u0_18)) rfl rfl rfl rfl rfl (congrArg (fun z : Int => I z) ((eu0_18) : F 0 18 = u0_18)) ?_
        refine w_icmplt (t := 84) rfl rfl (show inr (u0_9) from q_3585 h3) (show inr (u0_18) from q_22 r3) (fun b56 => ?_) (fun b56 => ?_)
        · refine Ew_of (pcₚ := 85) (fun _ => x_aload_n rfl rfl) ?_
          refine v_g H (o := 0) (v := .ref (D 1)) rfl rfl rfl rfl rfl (vrf (pf1)) ?_
          refine Ew_of (pcₚ := 89) (fun _ => x_aload_n rfl rfl) ?_
          refine Ew_of (pcₚ := 90) (fun _ => x_dup rfl rfl) ?_
          refine v_g H (o := 0) (v := I (u0_9)) rfl rfl rfl rfl rfl (congrArg (fun z : Int => I z) ((eu0_9) : F 0 9 = u0_9)) ?_
          refine Ew_of (pcₚ := 94) (fun _ => x_dup_x1 rfl rfl) ?_
          refine Ew_of (pcₚ := 95) (fun _ => x_iconst rfl) ?_
          refine w_iadd rfl ?_
          refine v_p H (o := 0) (z := (u0_9 + 1)) (v := I ((u0_9 + 1))) rfl rfl rfl rfl rfl rfl rfl rfl (show (-2147483648 : Int) ≤ (u0_9 + 1) ∧ (u0_9 + 1) ≤ 2147483647 from q_3799 h3) (fun σ H Oₚ => ?_)
          have O := OUT_trans O Oₚ
          have cFu57 : SF oz_I0aclsl_1 F (updF F 0 9 ((u0_9 + 1))) := SF_upd (SF_refl) rfl
          have mFu57 := SFm_of cFu57 oz_I0acls_5
          refine v_lB H (o := 1) rfl rfl rfl rfl (n := n1) (en1) (show 0 ≤ u0_9 ∧ u0_9 < n1 from q_3635 b56 h3 h4) (fun v58 ev58 qv58 => ?_)
          have ev58 : (A 1) (u0_9) = v58 := (congrFun (funext (mAu45 1 rfl)) (u0_9)).symm.trans ev58
          refine Ew_of (pcₚ := 103) (fun _ => x_sipush (z := 255) rfl (by decide)) ?_
          refine w_iand rfl (show inr (v58) from q_2536 qv58) (show inr (255) from q_36) (fun z59 gz59 gaz59 gbz59 => ?_)
          refine Ew_of (pcₚ := 106) (fun _ => x_istore rfl) ?_
          refine Ew_of (pcₚ := 108) (fun _ => x_iload rfl rk_s) ?_
          refine Ew_of (pcₚ := 111) (fun _ => x_getstatic rfl) ?_
          refine Ew_of (pcₚ := 112) (fun _ => x_iload_n rfl (rk_o (rfl) rfl rfl)) ?_
          refine v_stI (STC_out HT HE O) (b := 3) (n := 3) rfl rfl rfl rfl (show 0 ≤ 2 ∧ 2 < 3 from q_3507) (fun v60 ev60 qv60 => ?_)
          have hlv := ev60
          have hlw : ((v60) : Int) = 52 := by rw [← hlv]; rfl
          refine w_icmple (t := 124) rfl rfl (show inr (z59) from gz59) (show inr (v60) from qv60) (fun b61 => ?_) (fun b61 => ?_)
          · refine Ew_of (pcₚ := 125) (fun _ => x_aload_n rfl (rk_o (rfl) rfl rfl)) ?_
            refine v_g H (o := 0) (v := .ref (D 2)) rfl rfl rfl rfl rfl (vrf ((mFu57 0 2 rfl).trans (pf2))) ?_
            refine Ew_of (pcₚ := 129) (fun _ => x_iload_n rfl (rk_o (rfl) rfl rfl)) ?_
            refine v_lR H (o := 2) rfl rfl rfl rfl rfl (n := n2) (en2) (show 0 ≤ 2 ∧ 2 < n2 from q_3812 h7) (z := ((D 3 : Nat) : Int)) (v := .ref (D 3)) ((mAu45 2 rfl 2).trans (pf3)) (vrf rfl) ?_
            refine Ew_of (pcₚ := 132) (fun _ => x_iload rfl rk_s) ?_
            refine v_inv H (o := 3) rfl rfl rfl rfl rfl rfl (by rfl) (C168 (D := puc 52038409393826314588675 D) (N := puc 52038409393826314588675 N) (HW_subc H oz_I0acls_28 oz_I0acls_8) ((mFu57 3 7 rfl).trans (pf9)) ((mFu57 3 2 rfl).trans (pf4)) ((mFu57 3 3 rfl).trans (pf5)) ((mFu57 3 4 rfl).trans (pf6)) ((mFu57 3 5 rfl).trans (pf7)) ((mFu57 3 6 rfl).trans (pf8)) ((mFu57 3 8 rfl).trans (pf10)) ((mFu57 3 9 rfl).trans (pf11)) (n9) (en9) (n4) (en4) (n5) (en5) (n6) (en6) (n7) (en7) (n8) (en8) (n10) (en10) (n11) (en11) (u3_0) ((eu3_0)) (u3_1) (((mFu57 3 1 rfl).trans (eu3_1))) (w9) (ew9) (w4) (ew4) (w5) (ew5) (w6) (ew6) (w7) (ew7) (w10) (ew10) (w11) (ew11) (show inr (z59) from gz59) (show (n9) ≥ 1 by omega) (show (n4) = (u3_1) ∧ (n5) = (u3_1) ∧ (n6) = (u3_1) ∧ (n7) = (u3_1) ∧ (n8) = (u3_1) ∧ (n10) = (n9) ∧ (n11) = (n9) ∧ 1 ≤ (u3_1) ∧ (u3_1) ≤ 64 by omega) (show 0 ≤ (z59) ∧ (z59) < ((u3_1)) by omega) (fun σ62 F62ₚ A62ₚ Hₚ Oₚ hS62 hA62 y62_0_0 (ey62_0_0 : HID _) w62_1 ew62_1 w62_2 ew62_2 w62_3 ew62_3 w62_4 ew62_4 w62_5 ew62_5 w62_7 ew62_7 w62_8 ew62_8 pz62_0 pz62_1 => ⟨rfl, ?_⟩))
            refine v_backc (c := c) (s := s) H oz_I0acls_28 oz_I0acls_8 Hₚ Oₚ (fun F62 A62 H Oₚ eF62 eA62 => ?_)
            have O := OUT_trans O Oₚ
            -- Share.becomeAlone
            have cF62 : SF oz_I0aclsl_1 F F62 := SF_trans (cFu57) (SF_gluc (ι := oz_I0aclsl_4) oz_I0acls_8 hS62 eF62 (by decide +kernel)) (any_sub (lₚ := [(3, 0)]) (by decide +kernel))
            have mF62 := SFm_of cF62 oz_I0acls_5
            have cA62 : SA oz_I0aclsl_0 A A62 := SA_trans (cAu45) (SA_gluc (ι := oz_I0aclsl_4) oz_I0acls_8 hA62 eA62 (by decide +kernel)) (any_subA (lₚ := [4, 5, 6, 7, 8, 9, 10, 11]) (by decide +kernel))
            have mA62 := SAm_of cA62 oz_I0acls_4
            have r63 : (-2147483648 : Int) ≤ y62_0_0 ∧ y62_0_0 ≤ 2147483647 := rngE (show (-2147483648 : Int) ≤ F62 3 0 ∧ F62 3 0 ≤ 2147483647 from H.krg 3 0 (ltn len_V249_c12_vn_oz_I0acls rfl)) (show F62 3 0 = y62_0_0 from ((eF62 3 0).trans ey62_0_0))
            have hown := pz62_0
            refine Ew_of (pcₚ := 190) (fun _ => x_goto rfl rfl) ?_
            refine Ew_of (pcₚ := 191) (fun _ => x_iconst rfl) ?_
            have hfi0 : IMP (((0) : Int) = 0) (TI2 (((upd1 (w13) (2) (((D 15 : Nat) : Int)))) 2) ((((D 15 : Nat) : Int))) ((((D 3 : Nat) : Int)))) := by exact fun q => absurd q (by omega)
            have hfi1 : IMP (((0) : Int) = 0) (SLB (((upd1 (w13) (2) (((D 15 : Nat) : Int)))) 2) ((((D 3 : Nat) : Int))) (SL ((w62_2)) ((u3_1)) ((y62_0_0)) ((w62_3)) ((w62_4)) ((w62_5)) ((w62_1)) ((w62_7)) ((w62_8)))) := by exact fun q => absurd q (by omega)
            have hfi2 : IMP (((0) : Int) = 0) (ORB (((upd1 (w13) (2) (((D 15 : Nat) : Int)))) 2) ((((D 3 : Nat) : Int))) ((y62_0_0)) 9) := by exact fun q => absurd q (by omega)
            have hfn : (IMP (((0) : Int) = 0) (((upd1 (w13) (2) (((D 15 : Nat) : Int)))) 2 ≠ -1)) := by exact fun q => absurd q (by omega)
            exact w_ireturn rfl (k (0) _ _ _ H O (cF62) (cA62) ((u0_9 + 1)) (((show F62 0 9 = (updF F 0 9 ((u0_9 + 1))) 0 9 from (eF62 0 9)))) (y62_0_0) (((eF62 3 0).trans ey62_0_0)) (w62_2) ((eA62 4).trans ew62_2) (w62_3) ((eA62 5).trans ew62_3) (w62_4) ((eA62 6).trans ew62_4) (w62_5) ((eA62 7).trans ew62_5) (w62_1) ((eA62 9).trans ew62_1) (w62_7) ((eA62 10).trans ew62_7) (w62_8) ((eA62 11).trans ew62_8) (upd1 (w13) (2) (((D 15 : Nat) : Int))) (((show A62 13 = (updA A 13 (2) (((D 15 : Nat) : Int))) 13 from (eA62 13))).trans (congrArg (fun q => upd1 q (2) (((D 15 : Nat) : Int))) (ew13))) (show inr (0) from q_20) (show 0 ≤ (0) ∧ (0) ≤ 17 by first | exact q_3589 | omega) (show 0 ≤ ((u0_9 + 1)) ∧ (u0_9) ≤ ((u0_9 + 1)) ∧ ((u0_9 + 1)) ≤ (u0_8) from q_3800 b56 h3 h4) (show ((u0_9 + 1)) ≤ (u0_18) from q_1328 b56) (show (IMP ((0) = 0) (((upd1 (w13) (2) (((D 15 : Nat) : Int)))) 2 ≠ -1)) by assumption) (show IMP ((0) = 0) (TI2 (((upd1 (w13) (2) (((D 15 : Nat) : Int)))) 2) ((((D 15 : Nat) : Int))) ((((D 3 : Nat) : Int)))) by assumption) (show IMP ((0) = 0) (SLB (((upd1 (w13) (2) (((D 15 : Nat) : Int)))) 2) ((((D 3 : Nat) : Int))) (SL ((w62_2)) ((u3_1)) ((y62_0_0)) ((w62_3)) ((w62_4)) ((w62_5)) ((w62_1)) ((w62_7)) ((w62_8)))) by assumption) (show IMP ((0) = 0) (ORB (((upd1 (w13) (2) (((D 15 : Nat) : Int)))) 2) ((((D 3 : Nat) : Int))) ((y62_0_0)) 9) by assumption) (show 2 = 0 ∨ ((upd1 (w13) (2) (((D 15 : Nat) : Int)))) 0 = ((w13)) 0 by omega) (show 2 = 1 ∨ ((upd1 (w13) (2) (((D 15 : Nat) : Int)))) 1 = ((w13)) 1 by omega) (show 2 = 2 ∨ ((upd1 (w13) (2) (((D 15 : Nat) : Int)))) 2 = ((w13)) 2 by first | exact q_3508 | omega))
          · refine Ew_of (pcₚ := 117) (fun _ => x_aload_n rfl (rk_o (rfl) rfl rfl)) ?_
            refine Ew_of (pcₚ := 119) (fun _ => x_bipush (z := 16) rfl (by decide)) ?_
            refine Ew_of (pcₚ := 120) (fun _ => x_iload_n rfl (rk_o (rfl) rfl rfl)) ?_
            have r64 : (-2147483648 : Int) ≤ F 0 21 ∧ F 0 21 ≤ 2147483647 := H.krg 0 21 (ltn len_V249_c12_vn_oz_I0acls rfl)
            refine v_inv H (o := 0) rfl rfl rfl rfl rfl rfl (by rfl) (C232 (D := puc 0 D) (N := puc 0 N) (HW_subc H oz_I0acls_27 oz_I0acls_7) (F 0 21) (rfl) (show inr (16) from q_86) (show inr (a3) from h2) (fun z65 σ65 F65ₚ A65ₚ Hₚ Oₚ hS65 hA65 y65_0_21 (ey65_0_21 : HID _) pz65_0 pz65_1 pz65_2 => ⟨rfl, ?_⟩))
            refine v_backc (c := c) (s := s) H oz_I0acls_27 oz_I0acls_7 Hₚ Oₚ (fun F65 A65 H Oₚ eF65 eA65 => ?_)
            have O := OUT_trans O Oₚ
            -- Unpacker.fail
            have cF65 : SF oz_I0aclsl_1 F F65 := SF_trans (cFu57) (SF_gluc (ι := oz_I0aclsl_3) oz_I0acls_7 hS65 eF65 (by decide +kernel)) (any_sub (lₚ := [(0, 21)]) (by decide +kernel))
            have mF65 := SFm_of cF65 oz_I0acls_5
            have cA65 : SA oz_I0aclsl_0 A A65 := SA_trans (cAu45) (SA_gluc (ι := oz_I0aclsl_3) oz_I0acls_7 hA65 eA65 (by decide +kernel)) (any_subA (lₚ := []) (by decide +kernel))
            have mA65 := SAm_of cA65 oz_I0acls_4
            have r66 : (-2147483648 : Int) ≤ y65_0_21 ∧ y65_0_21 ≤ 2147483647 := rngE (show (-2147483648 : Int) ≤ F65 0 21 ∧ F65 0 21 ≤ 2147483647 from H.krg 0 21 (ltn len_V249_c12_vn_oz_I0acls rfl)) (show F65 0 21 = y65_0_21 from ((eF65 0 21).trans ey65_0_21))
            have hfi0 : IMP (((z65) : Int) = 0) (TI2 (((upd1 (w13) (2) (((D 15 : Nat) : Int)))) 2) ((((D 15 : Nat) : Int))) ((((D 3 : Nat) : Int)))) := by exact fun q => absurd q (by omega)
            have hfi1 : IMP (((z65) : Int) = 0) (SLB (((upd1 (w13) (2) (((D 15 : Nat) : Int)))) 2) ((((D 3 : Nat) : Int))) (SL ((w4)) ((u3_1)) ((u3_0)) ((w5)) ((w6)) ((w7)) ((w9)) ((w10)) ((w11)))) := by exact fun q => absurd q (by omega)
            have hfi2 : IMP (((z65) : Int) = 0) (ORB (((upd1 (w13) (2) (((D 15 : Nat) : Int)))) 2) ((((D 3 : Nat) : Int))) ((u3_0)) 9) := by exact fun q => absurd q (by omega)
            have hfn : (IMP (((z65) : Int) = 0) (((upd1 (w13) (2) (((D 15 : Nat) : Int)))) 2 ≠ -1)) := by exact fun q => absurd q (by omega)
            exact w_ireturn rfl (k (z65) _ _ _ H O (cF65) (cA65) ((u0_9 + 1)) (((show F65 0 9 = (updF F 0 9 ((u0_9 + 1))) 0 9 from (eF65 0 9).trans (hS65 0 9 rfl)))) (u3_0) ((((show F65 3 0 = (updF F 0 9 ((u0_9 + 1))) 3 0 from (eF65 3 0))).trans (eu3_0))) (w4) (((show A65 4 = (updA A 13 (2) (((D 15 : Nat) : Int))) 4 from (eA65 4))).trans (ew4)) (w5) (((show A65 5 = (updA A 13 (2) (((D 15 : Nat) : Int))) 5 from (eA65 5))).trans (ew5)) (w6) (((show A65 6 = (updA A 13 (2) (((D 15 : Nat) : Int))) 6 from (eA65 6))).trans (ew6)) (w7) (((show A65 7 = (updA A 13 (2) (((D 15 : Nat) : Int))) 7 from (eA65 7))).trans (ew7)) (w9) (((show A65 9 = (updA A 13 (2) (((D 15 : Nat) : Int))) 9 from (eA65 9))).trans (ew9)) (w10) (((show A65 10 = (updA A 13 (2) (((D 15 : Nat) : Int))) 10 from (eA65 10))).trans (ew10)) (w11) (((show A65 11 = (updA A 13 (2) (((D 15 : Nat) : Int))) 11 from (eA65 11))).trans (ew11)) (upd1 (w13) (2) (((D 15 : Nat) : Int))) (((show A65 13 = (updA A 13 (2) (((D 15 : Nat) : Int))) 13 from (eA65 13))).trans (congrArg (fun q => upd1 q (2) (((D 15 : Nat) : Int))) (ew13))) (show inr (z65) from pz65_0) (show 0 ≤ (z65) ∧ (z65) ≤ 17 from q_3798 pz65_1) (show 0 ≤ ((u0_9 + 1)) ∧ (u0_9) ≤ ((u0_9 + 1)) ∧ ((u0_9 + 1)) ≤ (u0_8) from q_3800 b56 h3 h4) (show ((u0_9 + 1)) ≤ (u0_18) from q_1328 b56) (show (IMP ((z65) = 0) (((upd1 (w13) (2) (((D 15 : Nat) : Int)))) 2 ≠ -1)) from hfn) (show IMP ((z65) = 0) (TI2 (((upd1 (w13) (2) (((D 15 : Nat) : Int)))) 2) ((((D 15 : Nat) : Int))) ((((D 3 : Nat) : Int)))) from hfi0) (show IMP ((z65) = 0) (SLB (((upd1 (w13) (2) (((D 15 : Nat) : Int)))) 2) ((((D 3 : Nat) : Int))) (SL ((w4)) ((u3_1)) ((u3_0)) ((w5)) ((w6)) ((w7)) ((w9)) ((w10)) ((w11)))) from hfi1) (show IMP ((z65) = 0) (ORB (((upd1 (w13) (2) (((D 15 : Nat) : Int)))) 2) ((((D 3 : Nat) : Int))) ((u3_0)) 9) from hfi2) (show 2 = 0 ∨ ((upd1 (w13) (2) (((D 15 : Nat) : Int)))) 0 = ((w13)) 0 by omega) (show 2 = 1 ∨ ((upd1 (w13) (2) (((D 15 : Nat) : Int)))) 1 = ((w13)) 1 by omega) (show 2 = 2 ∨ ((upd1 (w13) (2) (((D 15 : Nat) : Int)))) 2 = ((w13)) 2 by first | exact q_3508 | omega))
        · refine Ew_of (pcₚ := 74) (fun _ => x_aload_n rfl rfl) ?_
          refine Ew_of (pcₚ := 76) (fun _ => x_bipush (z := 10) rfl (by decide)) ?_
          refine Ew_of (pcₚ := 77) (fun _ => x_aload_n rfl rfl) ?_
          refine v_g H (o := 0) (v := I (u0_18)) rfl rfl rfl rfl rfl (congrArg (fun z : Int => I z) ((eu0_18) : F 0 18 = u0_18)) ?_
          have r67 : (-2147483648 : Int) ≤ F 0 21 ∧ F 0 21 ≤ 2147483647 := H.krg 0 21 (ltn len_V249_c12_vn_oz_I0acls rfl)
          refine v_inv H (o := 0) rfl rfl rfl rfl rfl rfl (by rfl) (C232 (D := puc 0 D) (N := puc 0 N) (HW_subc H oz_I0acls_27 oz_I0acls_7) (F 0 21) (rfl) (show inr (10) from q_532) (show inr (u0_18) from q_22 r3) (fun z68 σ68 F68ₚ A68ₚ Hₚ Oₚ hS68 hA68 y68_0_21 (ey68_0_21 : HID _) pz68_0 pz68_1 pz68_2 => ⟨rfl, ?_⟩))
          refine v_backc (c := c) (s := s) H oz_I0acls_27 oz_I0acls_7 Hₚ Oₚ (fun F68 A68 H Oₚ eF68 eA68 => ?_)
          have O := OUT_trans O Oₚ
          -- Unpacker.fail
          have cF68 : SF oz_I0aclsl_1 F F68 := SF_trans (SF_refl) (SF_gluc (ι := oz_I0aclsl_3) oz_I0acls_7 hS68 eF68 (by decide +kernel)) (any_sub (lₚ := [(0, 21)]) (by decide +kernel))
          have mF68 := SFm_of cF68 oz_I0acls_5
          have cA68 : SA oz_I0aclsl_0 A A68 := SA_trans (cAu45) (SA_gluc (ι := oz_I0aclsl_3) oz_I0acls_7 hA68 eA68 (by decide +kernel)) (any_subA (lₚ := []) (by decide +kernel))
          have mA68 := SAm_of cA68 oz_I0acls_4
          have r69 : (-2147483648 : Int) ≤ y68_0_21 ∧ y68_0_21 ≤ 2147483647 := rngE (show (-2147483648 : Int) ≤ F68 0 21 ∧ F68 0 21 ≤ 2147483647 from H.krg 0 21 (ltn len_V249_c12_vn_oz_I0acls rfl)) (show F68 0 21 = y68_0_21 from ((eF68 0 21).trans ey68_0_21))
          have hfi0 : IMP (((z68) : Int) = 0) (TI2 (((upd1 (w13) (2) (((D 15 : Nat) : Int)))) 2) ((((D 15 : Nat) : Int))) ((((D 3 : Nat) : Int)))) := by exact fun q => absurd q (by omega)
          have hfi1 : IMP (((z68) : Int) = 0) (SLB (((upd1 (w13) (2) (((D 15 : Nat) : Int)))) 2) ((((D 3 : Nat) : Int))) (SL ((w4)) ((u3_1)) ((u3_0)) ((w5)) ((w6)) ((w7)) ((w9)) ((w10)) ((w11)))) := by exact fun q => absurd q (by omega)
          have hfi2 : IMP (((z68) : Int) = 0) (ORB (((upd1 (w13) (2) (((D 15 : Nat) : Int)))) 2) ((((D 3 : Nat) : Int))) ((u3_0)) 9) := by exact fun q => absurd q (by omega)
          have hfn : (IMP (((z68) : Int) = 0) (((upd1 (w13) (2) (((D 15 : Nat) : Int)))) 2 ≠ -1)) := by exact fun q => absurd q (by omega)
          exact w_ireturn rfl (k (z68) _ _ _ H O (cF68) (cA68) (u0_9) ((((show F68 0 9 = F 0 9 from (eF68 0 9).trans (hS68 0 9 rfl))).trans (eu0_9))) (u3_0) ((((show F68 3 0 = F 3 0 from (eF68 3 0))).trans (eu3_0))) (w4) (((show A68 4 = (updA A 13 (2) (((D 15 : Nat) : Int))) 4 from (eA68 4))).trans (ew4)) (w5) (((show A68 5 = (updA A 13 (2) (((D 15 : Nat) : Int))) 5 from (eA68 5))).trans (ew5)) (w6) (((show A68 6 = (updA A 13 (2) (((D 15 : Nat) : Int))) 6 from (eA68 6))).trans (ew6)) (w7) (((show A68 7 = (updA A 13 (2) (((D 15 : Nat) : Int))) 7 from (eA68 7))).trans (ew7)) (w9) (((show A68 9 = (updA A 13 (2) (((D 15 : Nat) : Int))) 9 from (eA68 9))).trans (ew9)) (w10) (((show A68 10 = (updA A 13 (2) (((D 15 : Nat) : Int))) 10 from (eA68 10))).trans (ew10)) (w11) (((show A68 11 = (updA A 13 (2) (((D 15 : Nat) : Int))) 11 from (eA68 11))).trans (ew11)) (upd1 (w13) (2) (((D 15 : Nat) : Int))) (((show A68 13 = (updA A 13 (2) (((D 15 : Nat) : Int))) 13 from (eA68 13))).trans (congrArg (fun q => upd1 q (2) (((D 15 : Nat) : Int))) (ew13))) (show inr (z68) from pz68_0) (show 0 ≤ (z68) ∧ (z68) ≤ 17 from q_3651 pz68_1) (show 0 ≤ (u0_9) ∧ (u0_9) ≤ (u0_9) ∧ (u0_9) ≤ (u0_8) from q_3590 h3) (show (u0_9) ≤ (u0_18) from q_1468 h4) (show (IMP ((z68) = 0) (((upd1 (w13) (2) (((D 15 : Nat) : Int)))) 2 ≠ -1)) from hfn) (show IMP ((z68) = 0) (TI2 (((upd1 (w13) (2) (((D 15 : Nat) : Int)))) 2) ((((D 15 : Nat) : Int))) ((((D 3 : Nat) : Int)))) from hfi0) (show IMP ((z68) = 0) (SLB (((upd1 (w13) (2) (((D 15 : Nat) : Int)))) 2) ((((D 3 : Nat) : Int))) (SL ((w4)) ((u3_1)) ((u3_0)) ((w5)) ((w6)) ((w7)) ((w9)) ((w10)) ((w11)))) from hfi1) (show IMP ((z68) = 0) (ORB (((upd1 (w13) (2) (((D 15 : Nat) : Int)))) 2) ((((D 3 : Nat) : Int))) ((u3_0)) 9) from hfi2) (show 2 = 0 ∨ ((upd1 (w13) (2) (((D 15 : Nat) : Int)))) 0 = ((w13)) 0 by omega) (show 2 = 1 ∨ ((upd1 (w13) (2) (((D 15 : Nat) : Int)))) 1 = ((w13)) 1 by omega) (show 2 = 2 ∨ ((upd1 (w13) (2) (((D 15 : Nat) : Int)))) 2 = ((w13)) 2 by first | exact q_3508 | omega))
  · refine Ew_of (pcₚ := 6) (fun _ => x_aload_n rfl rfl) ?_
    refine v_g H (o := 0) (v := .ref (D 12)) rfl rfl rfl rfl rfl (vrf (pf12)) ?_
    refine v_g H (o := 12) (v := .ref (D 13)) rfl rfl rfl rfl rfl (vrf (pf13)) ?_
    refine Ew_of (pcₚ := 13) (fun _ => x_iload_n rfl rfl) ?_
    rcases (show (w13) (2) = -1 ∨ (w13) (2) = ((D 15 : Nat) : Int) ∨ (w13) (2) = ((D 3 : Nat) : Int) by assumption) with b70 | b70 | b70
    · refine v_lR H (o := 13) rfl rfl rfl rfl rfl (n := n13) (en13) (show 0 ≤ 2 ∧ 2 < n13 from q_3813 h7) (z := (-1)) (v := .null) ((congrFun (ew13) (2)).trans b70) (rfl) ?_
      refine Ew_of (pcₚ := 17) (fun _ => x_ifnonnull_f rfl rfl) ?_
      refine Ew_of (pcₚ := 18) (fun _ => x_aload_n rfl rfl) ?_
      refine Ew_of (pcₚ := 20) (fun _ => x_bipush (z := 16) rfl (by decide)) ?_
      refine Ew_of (pcₚ := 21) (fun _ => x_iload_n rfl rfl) ?_
      have r71 : (-2147483648 : Int) ≤ F 0 21 ∧ F 0 21 ≤ 2147483647 := H.krg 0 21 (ltn len_V249_c12_vn_oz_I0acls rfl)
      refine v_inv H (o := 0) rfl rfl rfl rfl rfl rfl (by rfl) (C232 (D := puc 0 D) (N := puc 0 N) (HW_subc H oz_I0acls_27 oz_I0acls_7) (F 0 21) (rfl) (show inr (16) from q_86) (show inr (a3) from h2) (fun z72 σ72 F72ₚ A72ₚ Hₚ Oₚ hS72 hA72 y72_0_21 (ey72_0_21 : HID _) pz72_0 pz72_1 pz72_2 => ⟨rfl, ?_⟩))
      refine v_backc (c := c) (s := s) H oz_I0acls_27 oz_I0acls_7 Hₚ Oₚ (fun F72 A72 H Oₚ eF72 eA72 => ?_)
      have O := OUT_trans O Oₚ
      -- Unpacker.fail
      have cF72 : SF oz_I0aclsl_1 F F72 := SF_trans (SF_refl) (SF_gluc (ι := oz_I0aclsl_3) oz_I0acls_7 hS72 eF72 (by decide +kernel)) (any_sub (lₚ := [(0, 21)]) (by decide +kernel))
      have mF72 := SFm_of cF72 oz_I0acls_5
      have cA72 : SA oz_I0aclsl_0 A A72 := SA_trans (SA_refl) (SA_gluc (ι := oz_I0aclsl_3) oz_I0acls_7 hA72 eA72 (by decide +kernel)) (any_subA (lₚ := []) (by decide +kernel))
      have mA72 := SAm_of cA72 oz_I0acls_4
      have r73 : (-2147483648 : Int) ≤ y72_0_21 ∧ y72_0_21 ≤ 2147483647 := rngE (show (-2147483648 : Int) ≤ F72 0 21 ∧ F72 0 21 ≤ 2147483647 from H.krg 0 21 (ltn len_V249_c12_vn_oz_I0acls rfl)) (show F72 0 21 = y72_0_21 from ((eF72 0 21).trans ey72_0_21))
      refine Ew_of (pcₚ := 28) (fun _ => x_goto rfl rfl) ?_
      have hfi0 : IMP (((z72) : Int) = 0) (TI2 (((w13)) 2) ((((D 15 : Nat) : Int))) ((((D 3 : Nat) : Int)))) := by exact fun q => absurd q (by omega)
      have hfi1 : IMP (((z72) : Int) = 0) (SLB (((w13)) 2) ((((D 3 : Nat) : Int))) (SL ((w4)) ((u3_1)) ((u3_0)) ((w5)) ((w6)) ((w7)) ((w9)) ((w10)) ((w11)))) := by exact fun q => absurd q (by omega)
      have hfi2 : IMP (((z72) : Int) = 0) (ORB (((w13)) 2) ((((D 3 : Nat) : Int))) ((u3_0)) 9) := by exact fun q => absurd q (by omega)
      have hfn : (IMP (((z72) : Int) = 0) (((w13)) 2 ≠ -1)) := by exact fun q => absurd q (by omega)
      exact w_ireturn rfl (k (z72) _ _ _ H O (cF72) (cA72) (u0_9) ((((show F72 0 9 = F 0 9 from (eF72 0 9).trans (hS72 0 9 rfl))).trans (eu0_9))) (u3_0) ((((show F72 3 0 = F 3 0 from (eF72 3 0))).trans (eu3_0))) (w4) (((show A72 4 = A 4 from (eA72 4))).trans (ew4)) (w5) (((show A72 5 = A 5 from (eA72 5))).trans (ew5)) (w6) (((show A72 6 = A 6 from (eA72 6))).trans (ew6)) (w7) (((show A72 7 = A 7 from (eA72 7))).trans (ew7)) (w9) (((show A72 9 = A 9 from (eA72 9))).trans (ew9)) (w10) (((show A72 10 = A 10 from (eA72 10))).trans (ew10)) (w11) (((show A72 11 = A 11 from (eA72 11))).trans (ew11)) (w13) (((show A72 13 = A 13 from (eA72 13))).trans (ew13)) (show inr (z72) from pz72_0) (show 0 ≤ (z72) ∧ (z72) ≤ 17 from q_3798 pz72_1) (show 0 ≤ (u0_9) ∧ (u0_9) ≤ (u0_9) ∧ (u0_9) ≤ (u0_8) from q_3590 h3) (show (u0_9) ≤ (u0_18) from q_1468 h4) (show (IMP ((z72) = 0) (((w13)) 2 ≠ -1)) from hfn) (show IMP ((z72) = 0) (TI2 (((w13)) 2) ((((D 15 : Nat) : Int))) ((((D 3 : Nat) : Int)))) from hfi0) (show IMP ((z72) = 0) (SLB (((w13)) 2) ((((D 3 : Nat) : Int))) (SL ((w4)) ((u3_1)) ((u3_0)) ((w5)) ((w6)) ((w7)) ((w9)) ((w10)) ((w11)))) from hfi1) (show IMP ((z72) = 0) (ORB (((w13)) 2) ((((D 3 : Nat) : Int))) ((u3_0)) 9) from hfi2) (show 2 = 0 ∨ ((w13)) 0 = ((w13)) 0 by first | exact q_3817 | omega) (show 2 = 1 ∨ ((w13)) 1 = ((w13)) 1 by first | exact q_3816 | omega) (show 2 = 2 ∨ ((w13)) 2 = ((w13)) 2 by first | exact q_3815 | omega))
    · refine v_lR H (o := 13) rfl rfl rfl rfl rfl (n := n13) (en13) (show 0 ≤ 2 ∧ 2 < n13 from q_3813 h7) (z := ((D 15 : Nat) : Int)) (v := .ref (D 15)) ((congrFun (ew13) (2)).trans b70) (vrf rfl) ?_
      refine Ew_of (pcₚ := 27) (fun _ => x_ifnonnull_t rfl rfl) ?_
      refine Ew_of (pcₚ := 28) (fun _ => x_iconst rfl) ?_
      have hfi0 : IMP (((0) : Int) = 0) (TI2 (((w13)) 2) ((((D 15 : Nat) : Int))) ((((D 3 : Nat) : Int)))) := by exact fun _ => (by assumption)
      have hfi1 : IMP (((0) : Int) = 0) (SLB (((w13)) 2) ((((D 3 : Nat) : Int))) (SL ((w4)) ((u3_1)) ((u3_0)) ((w5)) ((w6)) ((w7)) ((w9)) ((w10)) ((w11)))) := by exact fun _ => (by assumption)
      have hfi2 : IMP (((0) : Int) = 0) (ORB (((w13)) 2) ((((D 3 : Nat) : Int))) ((u3_0)) 9) := by exact fun _ => (by assumption)
      have hfn : (IMP (((0) : Int) = 0) (((w13)) 2 ≠ -1)) := by exact fun _ => (by omega)
      exact w_ireturn rfl (k (0) _ _ _ H O (SF_refl) (SA_refl) (u0_9) ((eu0_9)) (u3_0) ((eu3_0)) (w4) (ew4) (w5) (ew5) (w6) (ew6) (w7) (ew7) (w9) (ew9) (w10) (ew10) (w11) (ew11) (w13) (ew13) (show inr (0) from q_20) (show 0 ≤ (0) ∧ (0) ≤ 17 by first | exact q_3589 | omega) (show 0 ≤ (u0_9) ∧ (u0_9) ≤ (u0_9) ∧ (u0_9) ≤ (u0_8) from q_3590 h3) (show (u0_9) ≤ (u0_18) from q_1468 h4) (show (IMP ((0) = 0) (((w13)) 2 ≠ -1)) by assumption) (show IMP ((0) = 0) (TI2 (((w13)) 2) ((((D 15 : Nat) : Int))) ((((D 3 : Nat) : Int)))) by assumption) (show IMP ((0) = 0) (SLB (((w13)) 2) ((((D 3 : Nat) : Int))) (SL ((w4)) ((u3_1)) ((u3_0)) ((w5)) ((w6)) ((w7)) ((w9)) ((w10)) ((w11)))) by assumption) (show IMP ((0) = 0) (ORB (((w13)) 2) ((((D 3 : Nat) : Int))) ((u3_0)) 9) by assumption) (show 2 = 0 ∨ ((w13)) 0 = ((w13)) 0 by first | exact q_3817 | omega) (show 2 = 1 ∨ ((w13)) 1 = ((w13)) 1 by first | exact q_3816 | omega) (show 2 = 2 ∨ ((w13)) 2 = ((w13)) 2 by first | exact q_3815 | omega))
    · refine v_lR H (o := 13) rfl rfl rfl rfl rfl (n := n13) (en13) (show 0 ≤ 2 ∧ 2 < n13 from q_3813 h7) (z := ((D 3 : Nat) : Int)) (v := .ref (D 3)) ((congrFun (ew13) (2)).trans b70) (vrf rfl) ?_
      refine Ew_of (pcₚ := 27) (fun _ => x_ifnonnull_t rfl rfl) ?_
      refine Ew_of (pcₚ := 28) (fun _ => x_iconst rfl) ?_
      have hfi0 : IMP (((0) : Int) = 0) (TI2 (((w13)) 2) ((((D 15 : Nat) : Int))) ((((D 3 : Nat) : Int)))) := by exact fun _ => (by assumption)
      have hfi1 : IMP (((0) : Int) = 0) (SLB (((w13)) 2) ((((D 3 : Nat) : Int))) (SL ((w4)) ((u3_1)) ((u3_0)) ((w5)) ((w6)) ((w7)) ((w9)) ((w10)) ((w11)))) := by exact fun _ => (by assumption)
      have hfi2 : IMP (((0) : Int) = 0) (ORB (((w13)) 2) ((((D 3 : Nat) : Int))) ((u3_0)) 9) := by exact fun _ => (by assumption)
      have hfn : (IMP (((0) : Int) = 0) (((w13)) 2 ≠ -1)) := by exact fun _ => (by omega)
      exact w_ireturn rfl (k (0) _ _ _ H O (SF_refl) (SA_refl) (u0_9) ((eu0_9)) (u3_0) ((eu3_0)) (w4) (ew4) (w5) (ew5) (w6) (ew6) (w7) (ew7) (w9) (ew9) (w10) (ew10) (w11) (ew11) (w13) (ew13) (show inr (0) from q_20) (show 0 ≤ (0) ∧ (0) ≤ 17 by first | exact q_3589 | omega) (show 0 ≤ (u0_9) ∧ (u0_9) ≤ (u0_9) ∧ (u0_9) ≤ (u0_8) from q_3590 h3) (show (u0_9) ≤ (u0_18) from q_1468 h4) (show (IMP ((0) = 0) (((w13)) 2 ≠ -1)) by assumption) (show IMP ((0) = 0) (TI2 (((w13)) 2) ((((D 15 : Nat) : Int))) ((((D 3 : Nat) : Int)))) by assumption) (show IMP ((0) = 0) (SLB (((w13)) 2) ((((D 3 : Nat) : Int))) (SL ((w4)) ((u3_1)) ((u3_0)) ((w5)) ((w6)) ((w7)) ((w9)) ((w10)) ((w11)))) by assumption) (show IMP ((0) = 0) (ORB (((w13)) 2) ((((D 3 : Nat) : Int))) ((u3_0)) 9) by assumption) (show 2 = 0 ∨ ((w13)) 0 = ((w13)) 0 by first | exact q_3817 | omega) (show 2 = 1 ∨ ((w13)) 1 = ((w13)) 1 by first | exact q_3816 | omega) (show 2 = 2 ∨ ((w13)) 2 = ((w13)) 2 by first | exact q_3815 | omega))
