/-! write over the state, from where the row is known -/
theorem T_wK1_0 {g : Nat → Bool} {σ : rS} {D N : Nat → Nat} {F : hF} {A : hA} {d c s : Nat} {Q : wQ} (X : PHI g σ D N F A) {x1 : Int} {ls : rO} (hl0 : rlook ls 0 = some (.ref (D 0))) (hl1 : rlook ls 1 = some (I x1)) (hl3 : rlook ls 3 = some (I (1))) (hl4 : rlook ls 4 = some (.ref (D 2))) (h1 : 0 ≤ x1 ∧ x1 ≤ 3) (cf0 : (F 2 1) ≤ 16384) (cf1 : (F 2 1) + (F 11 1) ≤ 16384) (k : ∀ (z : Int) (gₚ : Nat → Bool) (σₚ : rS) (Dₚ Nₚ : Nat → Nat) (Fₚ : hF) (Aₚ : hA) (cₚ sₚ : Nat), PHI gₚ σₚ Dₚ Nₚ Fₚ Aₚ → STP g σ D N A c s gₚ σₚ Dₚ Nₚ Aₚ cₚ sₚ → inr z → Q (some (I z)) σₚ cₚ sₚ) : Ew 17 (d + 8) 54 ls [] σ c s Q := by
  refine T_wc1_0 (d := d + 7) X hl0 hl1 hl3 hl4 (show inr x1 by omega) cf0 cf1 (fun x5 ls σ1 D1 N1 F1 A1 c1 s1 X1 S1 l0 l1 l3 l4 l5 e0 e1 w0 w5 => ?_) (fun z σ1 D1 N1 F1 A1 c1 s1 X1 S1 zr => k z g σ1 D1 N1 F1 A1 c1 s1 X1 S1 zr)
  subst w5
  have hg0 : g 0 = true := X1.2.2.1
  refine w_callk rfl (fun rec => rinvv rfl rfl (X1.1.obj 0 (by decide +kernel) (show g 0 = true from X1.2.2.1) rfl) rec) rfl (T_the_tok (d := d + 3) X1 (fun g2 σ2 D2 N2 F2 A2 c2 s2 X2 S2 K2 hj hle => ⟨rfl, ?_⟩))
  have hGI := X2.2.2.2.2.2.2.1
  have m0 : (F2 2 1) ≤ 16384 := by rw [((K2 2 (by decide +kernel) hg0).2 (by decide)).2.2]; exact e0
  have m1 : (F2 2 1) + (F2 11 1) ≤ 16384 := by rw [((K2 2 (by decide +kernel) hg0).2 (by decide)).2.2, ((K2 11 (by decide +kernel) hg0).2 (by decide)).2.2]; exact e1
  have m2 : (F2 25 1) = 0 := by rw [((K2 25 (by decide +kernel) hg0).2 (by decide)).2.2]; exact w0
  have d0 : D2 0 = D1 0 := (K2 0 (by decide +kernel) hg0).1
  have d4 : D2 2 = D1 2 := (K2 2 (by decide +kernel) hg0).1
  refine T_wd1_0 (d := d + 1) X2 (hGI.1 hj) hj (by rw [d0]; exact l0) l1 l3 (by rw [d4]; exact l4) l5 (show inr x1 by omega) m0 m1 m2 (fun tc236_2 tc236_3 ls σ3 D3 N3 F3 A3 c3 s3 X3 S3 p0 p1 p3 p4 q0 q1 q2 => ?_) (fun z σ3 D3 N3 F3 A3 c3 s3 X3 S3 zr => k z g2 σ3 D3 N3 F3 A3 c3 s3 X3 (STP_trans (STP_tr0 S1 S2) S3) zr)
  obtain rfl : tc236_2 = 1 := q1
  refine w_callk rfl (fun rec => rinvv rfl rfl (X3.1.obj 0 (by decide +kernel) (show g2 0 = true from X3.2.2.1) rfl) rec) rfl (T_ur1_w (d := d + 0) X3 q2 (fun z g4 σ4 D4 N4 F4 A4 c4 s4 X4 S4 zr hl4 r0 r1 r2 r3 r4 r5 r6 r7 => ⟨rfl, ?_⟩))
  have d40 : D4 0 = D3 0 := S4.1.2.1
  have d44 : D4 2 = D3 2 := by omega
  have m9 : F4 2 1 ≤ 16384 := by omega
  refine T_we1_0 (d := d + 5) X4  (by rw [d40]; exact p0) p1 p3 (by rw [d44]; exact p4) (show inr x1 by omega) zr m9 (fun ls σ5 D5 N5 F5 A5 c5 s5 X5 S5 v0 v1 => ?_) (fun z σ5 D5 N5 F5 A5 c5 s5 X5 S5 zr => k z g4 σ5 D5 N5 F5 A5 c5 s5 X5 (STP_trans (STP_tr0 (STP_trans (STP_tr0 S1 S2) S3) S4) S5) zr)
  exact T_wg (d := d + 4) X5 v0 v1 (show inr x1 by omega) h1 (fun z σ6 D6 N6 F6 A6 c6 s6 X6 S6 zr => k z g4 σ6 D6 N6 F6 A6 c6 s6 X6 (STP_trans (STP_trans (STP_tr0 (STP_trans (STP_tr0 S1 S2) S3) S4) S5) S6) zr)
theorem T_wK1_1 {g : Nat → Bool} {σ : rS} {D N : Nat → Nat} {F : hF} {A : hA} {d c s : Nat} {Q : wQ} (X : PHI g σ D N F A) {x1 : Int} {ls : rO} (hl0 : rlook ls 0 = some (.ref (D 0))) (hl1 : rlook ls 1 = some (I x1)) (hl3 : rlook ls 3 = some (I (1))) (hl4 : rlook ls 4 = some (.ref (D 4))) (h1 : 0 ≤ x1 ∧ x1 ≤ 3) (cf0 : (F 4 1) ≤ 16384) (cf1 : (F 4 1) + (F 11 1) ≤ 16384) (k : ∀ (z : Int) (gₚ : Nat → Bool) (σₚ : rS) (Dₚ Nₚ : Nat → Nat) (Fₚ : hF) (Aₚ : hA) (cₚ sₚ : Nat), PHI gₚ σₚ Dₚ Nₚ Fₚ Aₚ → STP g σ D N A c s gₚ σₚ Dₚ Nₚ Aₚ cₚ sₚ → inr z → Q (some (I z)) σₚ cₚ sₚ) : Ew 17 (d + 8) 54 ls [] σ c s Q := by
  refine T_wc1_1 (d := d + 7) X hl0 hl1 hl3 hl4 (show inr x1 by omega) cf0 cf1 (fun x5 ls σ1 D1 N1 F1 A1 c1 s1 X1 S1 l0 l1 l3 l4 l5 e0 e1 w0 w5 => ?_) (fun z σ1 D1 N1 F1 A1 c1 s1 X1 S1 zr => k z g σ1 D1 N1 F1 A1 c1 s1 X1 S1 zr)
  subst w5
  have hg0 : g 0 = true := X1.2.2.1
  refine w_callk rfl (fun rec => rinvv rfl rfl (X1.1.obj 0 (by decide +kernel) (show g 0 = true from X1.2.2.1) rfl) rec) rfl (T_the_tok (d := d + 3) X1 (fun g2 σ2 D2 N2 F2 A2 c2 s2 X2 S2 K2 hj hle => ⟨rfl, ?_⟩))
  have hGI := X2.2.2.2.2.2.2.1
  have m0 : (F2 4 1) ≤ 16384 := by rw [((K2 4 (by decide +kernel) hg0).2 (by decide)).2.2]; exact e0
  have m1 : (F2 4 1) + (F2 11 1) ≤ 16384 := by rw [((K2 4 (by decide +kernel) hg0).2 (by decide)).2.2, ((K2 11 (by decide +kernel) hg0).2 (by decide)).2.2]; exact e1
  have m2 : (F2 25 1) = 0 := by rw [((K2 25 (by decide +kernel) hg0).2 (by decide)).2.2]; exact w0
  have d0 : D2 0 = D1 0 := (K2 0 (by decide +kernel) hg0).1
  have d4 : D2 4 = D1 4 := (K2 4 (by decide +kernel) hg0).1
  refine T_wd1_1 (d := d + 1) X2 (hGI.1 hj) hj (by rw [d0]; exact l0) l1 l3 (by rw [d4]; exact l4) l5 (show inr x1 by omega) m0 m1 m2 (fun tc236_2 tc236_3 ls σ3 D3 N3 F3 A3 c3 s3 X3 S3 p0 p1 p3 p4 q0 q1 q2 => ?_) (fun z σ3 D3 N3 F3 A3 c3 s3 X3 S3 zr => k z g2 σ3 D3 N3 F3 A3 c3 s3 X3 (STP_trans (STP_tr0 S1 S2) S3) zr)
  obtain rfl : tc236_2 = 1 := q1
  refine w_callk rfl (fun rec => rinvv rfl rfl (X3.1.obj 0 (by decide +kernel) (show g2 0 = true from X3.2.2.1) rfl) rec) rfl (T_ur1_w (d := d + 0) X3 q2 (fun z g4 σ4 D4 N4 F4 A4 c4 s4 X4 S4 zr hl4 r0 r1 r2 r3 r4 r5 r6 r7 => ⟨rfl, ?_⟩))
  have d40 : D4 0 = D3 0 := S4.1.2.1
  have d44 : D4 4 = D3 4 := by omega
  have m9 : F4 4 1 ≤ 16384 := by omega
  refine T_we1_1 (d := d + 5) X4  (by rw [d40]; exact p0) p1 p3 (by rw [d44]; exact p4) (show inr x1 by omega) zr m9 (fun ls σ5 D5 N5 F5 A5 c5 s5 X5 S5 v0 v1 => ?_) (fun z σ5 D5 N5 F5 A5 c5 s5 X5 S5 zr => k z g4 σ5 D5 N5 F5 A5 c5 s5 X5 (STP_trans (STP_tr0 (STP_trans (STP_tr0 S1 S2) S3) S4) S5) zr)
  exact T_wg (d := d + 4) X5 v0 v1 (show inr x1 by omega) h1 (fun z σ6 D6 N6 F6 A6 c6 s6 X6 S6 zr => k z g4 σ6 D6 N6 F6 A6 c6 s6 X6 (STP_trans (STP_trans (STP_tr0 (STP_trans (STP_tr0 S1 S2) S3) S4) S5) S6) zr)
theorem T_wK1_2 {g : Nat → Bool} {σ : rS} {D N : Nat → Nat} {F : hF} {A : hA} {d c s : Nat} {Q : wQ} (X : PHI g σ D N F A) {x1 : Int} {ls : rO} (hl0 : rlook ls 0 = some (.ref (D 0))) (hl1 : rlook ls 1 = some (I x1)) (hl3 : rlook ls 3 = some (I (1))) (hl4 : rlook ls 4 = some (.ref (D 6))) (h1 : 0 ≤ x1 ∧ x1 ≤ 3) (cf0 : (F 6 1) ≤ 16384) (cf1 : (F 6 1) + (F 11 1) ≤ 16384) (k : ∀ (z : Int) (gₚ : Nat → Bool) (σₚ : rS) (Dₚ Nₚ : Nat → Nat) (Fₚ : hF) (Aₚ : hA) (cₚ sₚ : Nat), PHI gₚ σₚ Dₚ Nₚ Fₚ Aₚ → STP g σ D N A c s gₚ σₚ Dₚ Nₚ Aₚ cₚ sₚ → inr z → Q (some (I z)) σₚ cₚ sₚ) : Ew 17 (d + 8) 54 ls [] σ c s Q := by
  refine T_wc1_2 (d := d + 7) X hl0 hl1 hl3 hl4 (show inr x1 by omega) cf0 cf1 (fun x5 ls σ1 D1 N1 F1 A1 c1 s1 X1 S1 l0 l1 l3 l4 l5 e0 e1 w0 w5 => ?_) (fun z σ1 D1 N1 F1 A1 c1 s1 X1 S1 zr => k z g σ1 D1 N1 F1 A1 c1 s1 X1 S1 zr)
  subst w5
  have hg0 : g 0 = true := X1.2.2.1
  refine w_callk rfl (fun rec => rinvv rfl rfl (X1.1.obj 0 (by decide +kernel) (show g 0 = true from X1.2.2.1) rfl) rec) rfl (T_the_tok (d := d + 3) X1 (fun g2 σ2 D2 N2 F2 A2 c2 s2 X2 S2 K2 hj hle => ⟨rfl, ?_⟩))
  have hGI := X2.2.2.2.2.2.2.1
  have m0 : (F2 6 1) ≤ 16384 := by rw [((K2 6 (by decide +kernel) hg0).2 (by decide)).2.2]; exact e0
  have m1 : (F2 6 1) + (F2 11 1) ≤ 16384 := by rw [((K2 6 (by decide +kernel) hg0).2 (by decide)).2.2, ((K2 11 (by decide +kernel) hg0).2 (by decide)).2.2]; exact e1
  have m2 : (F2 25 1) = 0 := by rw [((K2 25 (by decide +kernel) hg0).2 (by decide)).2.2]; exact w0
  have d0 : D2 0 = D1 0 := (K2 0 (by decide +kernel) hg0).1
  have d4 : D2 6 = D1 6 := (K2 6 (by decide +kernel) hg0).1
  refine T_wd1_2 (d := d + 1) X2 (hGI.1 hj) hj (by rw [d0]; exact l0) l1 l3 (by rw [d4]; exact l4) l5 (show inr x1 by omega) m0 m1 m2 (fun tc236_2 tc236_3 ls σ3 D3 N3 F3 A3 c3 s3 X3 S3 p0 p1 p3 p4 q0 q1 q2 => ?_) (fun z σ3 D3 N3 F3 A3 c3 s3 X3 S3 zr => k z g2 σ3 D3 N3 F3 A3 c3 s3 X3 (STP_trans (STP_tr0 S1 S2) S3) zr)
  obtain rfl : tc236_2 = 1 := q1
  refine w_callk rfl (fun rec => rinvv rfl rfl (X3.1.obj 0 (by decide +kernel) (show g2 0 = true from X3.2.2.1) rfl) rec) rfl (T_ur1_w (d := d + 0) X3 q2 (fun z g4 σ4 D4 N4 F4 A4 c4 s4 X4 S4 zr hl4 r0 r1 r2 r3 r4 r5 r6 r7 => ⟨rfl, ?_⟩))
  have d40 : D4 0 = D3 0 := S4.1.2.1
  have d44 : D4 6 = D3 6 := by omega
  have m9 : F4 6 1 ≤ 16384 := by omega
  refine T_we1_2 (d := d + 5) X4  (by rw [d40]; exact p0) p1 p3 (by rw [d44]; exact p4) (show inr x1 by omega) zr m9 (fun ls σ5 D5 N5 F5 A5 c5 s5 X5 S5 v0 v1 => ?_) (fun z σ5 D5 N5 F5 A5 c5 s5 X5 S5 zr => k z g4 σ5 D5 N5 F5 A5 c5 s5 X5 (STP_trans (STP_tr0 (STP_trans (STP_tr0 S1 S2) S3) S4) S5) zr)
  exact T_wg (d := d + 4) X5 v0 v1 (show inr x1 by omega) h1 (fun z σ6 D6 N6 F6 A6 c6 s6 X6 S6 zr => k z g4 σ6 D6 N6 F6 A6 c6 s6 X6 (STP_trans (STP_trans (STP_tr0 (STP_trans (STP_tr0 S1 S2) S3) S4) S5) S6) zr)
theorem T_wK1_3 {g : Nat → Bool} {σ : rS} {D N : Nat → Nat} {F : hF} {A : hA} {d c s : Nat} {Q : wQ} (X : PHI g σ D N F A) {x1 : Int} {ls : rO} (hl0 : rlook ls 0 = some (.ref (D 0))) (hl1 : rlook ls 1 = some (I x1)) (hl3 : rlook ls 3 = some (I (1))) (hl4 : rlook ls 4 = some (.ref (D 8))) (h1 : 0 ≤ x1 ∧ x1 ≤ 3) (cf0 : (F 8 1) ≤ 16384) (cf1 : (F 8 1) + (F 11 1) ≤ 16384) (k : ∀ (z : Int) (gₚ : Nat → Bool) (σₚ : rS) (Dₚ Nₚ : Nat → Nat) (Fₚ : hF) (Aₚ : hA) (cₚ sₚ : Nat), PHI gₚ σₚ Dₚ Nₚ Fₚ Aₚ → STP g σ D N A c s gₚ σₚ Dₚ Nₚ Aₚ cₚ sₚ → inr z → Q (some (I z)) σₚ cₚ sₚ) : Ew 17 (d + 8) 54 ls [] σ c s Q := by
  refine T_wc1_3 (d := d + 7) X hl0 hl1 hl3 hl4 (show inr x1 by omega) cf0 cf1 (fun x5 ls σ1 D1 N1 F1 A1 c1 s1 X1 S1 l0 l1 l3 l4 l5 e0 e1 w0 w5 => ?_) (fun z σ1 D1 N1 F1 A1 c1 s1 X1 S1 zr => k z g σ1 D1 N1 F1 A1 c1 s1 X1 S1 zr)
  subst w5
  have hg0 : g 0 = true := X1.2.2.1
  refine w_callk rfl (fun rec => rinvv rfl rfl (X1.1.obj 0 (by decide +kernel) (show g 0 = true from X1.2.2.1) rfl) rec) rfl (T_the_tok (d := d + 3) X1 (fun g2 σ2 D2 N2 F2 A2 c2 s2 X2 S2 K2 hj hle => ⟨rfl, ?_⟩))
  have hGI := X2.2.2.2.2.2.2.1
  have m0 : (F2 8 1) ≤ 16384 := by rw [((K2 8 (by decide +kernel) hg0).2 (by decide)).2.2]; exact e0
  have m1 : (F2 8 1) + (F2 11 1) ≤ 16384 := by rw [((K2 8 (by decide +kernel) hg0).2 (by decide)).2.2, ((K2 11 (by decide +kernel) hg0).2 (by decide)).2.2]; exact e1
  have m2 : (F2 25 1) = 0 := by rw [((K2 25 (by decide +kernel) hg0).2 (by decide)).2.2]; exact w0
  have d0 : D2 0 = D1 0 := (K2 0 (by decide +kernel) hg0).1
  have d4 : D2 8 = D1 8 := (K2 8 (by decide +kernel) hg0).1
  refine T_wd1_3 (d := d + 1) X2 (hGI.1 hj) hj (by rw [d0]; exact l0) l1 l3 (by rw [d4]; exact l4) l5 (show inr x1 by omega) m0 m1 m2 (fun tc236_2 tc236_3 ls σ3 D3 N3 F3 A3 c3 s3 X3 S3 p0 p1 p3 p4 q0 q1 q2 => ?_) (fun z σ3 D3 N3 F3 A3 c3 s3 X3 S3 zr => k z g2 σ3 D3 N3 F3 A3 c3 s3 X3 (STP_trans (STP_tr0 S1 S2) S3) zr)
  obtain rfl : tc236_2 = 1 := q1
  refine w_callk rfl (fun rec => rinvv rfl rfl (X3.1.obj 0 (by decide +kernel) (show g2 0 = true from X3.2.2.1) rfl) rec) rfl (T_ur1_w (d := d + 0) X3 q2 (fun z g4 σ4 D4 N4 F4 A4 c4 s4 X4 S4 zr hl4 r0 r1 r2 r3 r4 r5 r6 r7 => ⟨rfl, ?_⟩))
  have d40 : D4 0 = D3 0 := S4.1.2.1
  have d44 : D4 8 = D3 8 := by omega
  have m9 : F4 8 1 ≤ 16384 := by omega
  refine T_we1_3 (d := d + 5) X4  (by rw [d40]; exact p0) p1 p3 (by rw [d44]; exact p4) (show inr x1 by omega) zr m9 (fun ls σ5 D5 N5 F5 A5 c5 s5 X5 S5 v0 v1 => ?_) (fun z σ5 D5 N5 F5 A5 c5 s5 X5 S5 zr => k z g4 σ5 D5 N5 F5 A5 c5 s5 X5 (STP_trans (STP_tr0 (STP_trans (STP_tr0 S1 S2) S3) S4) S5) zr)
  exact T_wg (d := d + 4) X5 v0 v1 (show inr x1 by omega) h1 (fun z σ6 D6 N6 F6 A6 c6 s6 X6 S6 zr => k z g4 σ6 D6 N6 F6 A6 c6 s6 X6 (STP_trans (STP_trans (STP_tr0 (STP_trans (STP_tr0 S1 S2) S3) S4) S5) S6) zr)
