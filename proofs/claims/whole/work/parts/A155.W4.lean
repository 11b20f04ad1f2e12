section
/-! W4.ur -/
theorem T_ur0_r0 {Dc : DcS} {g : Nat → Bool} {σ : rS} {D N : Nat → Nat} {F : hF} {A : hA} {d c s : Nat} {Q : wQ} (X : PHI Dc g σ D N F A) {a3 : Int} (h3 : 0 ≤ a3 ∧ a3 ≤ 65536) (k : ∀ (z : Int) (gₚ : Nat → Bool) (σₚ : rS) (Dₚ Nₚ : Nat → Nat) (Fₚ : hF) (Aₚ : hA) (cₚ sₚ : Nat), PHI Dc gₚ σₚ Dₚ Nₚ Fₚ Aₚ → STP g σ D N A c s gₚ σₚ Dₚ Nₚ Aₚ cₚ sₚ → inr z → (∀ j, g j = true → gₚ j = true) → EQD [(2, 1), (4, 1), (6, 1), (8, 1), (11, 1), (0, 18), (25, 1)] [3, 5, 7, 9, 12, 10, 29, 30, 32, 26] [] [] D N F A Dₚ Nₚ Fₚ Aₚ → Fₚ 27 2 = 0 → RDQ 0 (sc (A 3) 0 (F 2 1)) (sc (A 12) 0 (F 11 1)) DCE a3 z (Fₚ 0 17) (sc (Aₚ 28) 0 (Fₚ 27 1)) → Q (some (I z)) σₚ cₚ sₚ) : Ew 32 (d + 7) 0 (rargs 0 [.ref (D 0), .ref (D 2), I 0, I a3, .ref (D 30)]) [] σ c s Q := by
  refine T_ua0_r0 (d := d + 6) X (show inr a3 by omega) (fun ls σ1 D1 N1 F1 A1 c1 s1 X1 S1 E1 l0 l1 l3 e1 b1 => ?_) (fun z σ1 D1 N1 F1 A1 c1 s1 X1 S1 E1 q => absurd q (by decide))
  have hg0 : g 0 = true := X1.2.2.1
  refine w_callk rfl (fun rec => rinvv rfl rfl (X1.1.obj 0 (by decide +kernel) hg0 rfl) rec) rfl (T_the_tok (d := d + 2) X1 (fun g2 σ2 D2 N2 F2 A2 c2 s2 X2 S2 K2 K0 hj hle => ⟨rfl, ?_⟩))
  have e2 : F2 27 1 = 0 := by rw [((K2 27 (by decide +kernel) hg0).2 (by decide)).2.2]; exact e1
  have b2 : F2 27 2 = 0 := by rw [((K2 27 (by decide +kernel) hg0).2 (by decide)).2.2]; exact b1
  have d0 : D2 0 = D1 0 := (K2 0 (by decide +kernel) hg0).1
  have d1 : D2 2 = D1 2 := (K2 2 (by decide +kernel) hg0).1
  have E12 : EQD [(2, 1), (4, 1), (6, 1), (8, 1), (11, 1), (0, 18), (25, 1)] [3, 5, 7, 9, 12, 10, 29, 30, 32, 26] [] [] D N F A D2 N2 F2 A2 := EQD_tr (EQD_sub (by decide) E1) (KEP_EQ K2 K0 hg0 (by decide +kernel))
  have hs : sc (A2 3) 0 (F2 2 1) = sc (A 3) 0 (F 2 1) := by rw [E12.2.1 3 (by decide), E12.1 (2, 1) (by decide)]
  have hh : sc (A2 12) 0 (F2 11 1) = (sc (A 12) 0 (F 11 1)) := by rw [E12.2.1 12 (by decide), E12.1 (11, 1) (by decide)]
  refine T_ub0_r0 (d := d + 2) X2 hj (by rw [d0]; exact l0) (by rw [d1]; exact l1) l3 (show inr a3 by omega) e2 b2 h3 (fun z σ3 D3 N3 F3 A3 c3 s3 X3 S3 E3 zr b3 hR => ?_)
  rw [hs, hh] at hR
  exact k z g2 σ3 D3 N3 F3 A3 c3 s3 X3 (STP_trans (STP_tr0 S1 S2) S3) zr hle (EQD_tr (EQD_sub (by decide) E12) (EQD_sub (by decide) E3)) b3 hR
theorem T_ur0_r1 {Dc : DcS} {g : Nat → Bool} {σ : rS} {D N : Nat → Nat} {F : hF} {A : hA} {d c s : Nat} {Q : wQ} (X : PHI Dc g σ D N F A) {a3 : Int} (h3 : 0 ≤ a3 ∧ a3 ≤ 65536) (k : ∀ (z : Int) (gₚ : Nat → Bool) (σₚ : rS) (Dₚ Nₚ : Nat → Nat) (Fₚ : hF) (Aₚ : hA) (cₚ sₚ : Nat), PHI Dc gₚ σₚ Dₚ Nₚ Fₚ Aₚ → STP g σ D N A c s gₚ σₚ Dₚ Nₚ Aₚ cₚ sₚ → inr z → (∀ j, g j = true → gₚ j = true) → EQD [(2, 1), (4, 1), (6, 1), (8, 1), (11, 1), (0, 18), (25, 1)] [3, 5, 7, 9, 12, 10, 29, 30, 32, 26] [] [] D N F A Dₚ Nₚ Fₚ Aₚ → Fₚ 27 2 = 0 → RDQ 0 (sc (A 5) 0 (F 4 1)) (sc (A 12) 0 (F 11 1)) DCE a3 z (Fₚ 0 17) (sc (Aₚ 28) 0 (Fₚ 27 1)) → Q (some (I z)) σₚ cₚ sₚ) : Ew 32 (d + 7) 0 (rargs 0 [.ref (D 0), .ref (D 4), I 0, I a3, .ref (D 30)]) [] σ c s Q := by
  refine T_ua0_r1 (d := d + 6) X (show inr a3 by omega) (fun ls σ1 D1 N1 F1 A1 c1 s1 X1 S1 E1 l0 l1 l3 e1 b1 => ?_) (fun z σ1 D1 N1 F1 A1 c1 s1 X1 S1 E1 q => absurd q (by decide))
  have hg0 : g 0 = true := X1.2.2.1
  refine w_callk rfl (fun rec => rinvv rfl rfl (X1.1.obj 0 (by decide +kernel) hg0 rfl) rec) rfl (T_the_tok (d := d + 2) X1 (fun g2 σ2 D2 N2 F2 A2 c2 s2 X2 S2 K2 K0 hj hle => ⟨rfl, ?_⟩))
  have e2 : F2 27 1 = 0 := by rw [((K2 27 (by decide +kernel) hg0).2 (by decide)).2.2]; exact e1
  have b2 : F2 27 2 = 0 := by rw [((K2 27 (by decide +kernel) hg0).2 (by decide)).2.2]; exact b1
  have d0 : D2 0 = D1 0 := (K2 0 (by decide +kernel) hg0).1
  have d1 : D2 4 = D1 4 := (K2 4 (by decide +kernel) hg0).1
  have E12 : EQD [(2, 1), (4, 1), (6, 1), (8, 1), (11, 1), (0, 18), (25, 1)] [3, 5, 7, 9, 12, 10, 29, 30, 32, 26] [] [] D N F A D2 N2 F2 A2 := EQD_tr (EQD_sub (by decide) E1) (KEP_EQ K2 K0 hg0 (by decide +kernel))
  have hs : sc (A2 5) 0 (F2 4 1) = sc (A 5) 0 (F 4 1) := by rw [E12.2.1 5 (by decide), E12.1 (4, 1) (by decide)]
  have hh : sc (A2 12) 0 (F2 11 1) = (sc (A 12) 0 (F 11 1)) := by rw [E12.2.1 12 (by decide), E12.1 (11, 1) (by decide)]
  refine T_ub0_r1 (d := d + 2) X2 hj (by rw [d0]; exact l0) (by rw [d1]; exact l1) l3 (show inr a3 by omega) e2 b2 h3 (fun z σ3 D3 N3 F3 A3 c3 s3 X3 S3 E3 zr b3 hR => ?_)
  rw [hs, hh] at hR
  exact k z g2 σ3 D3 N3 F3 A3 c3 s3 X3 (STP_trans (STP_tr0 S1 S2) S3) zr hle (EQD_tr (EQD_sub (by decide) E12) (EQD_sub (by decide) E3)) b3 hR
theorem T_ur0_r2 {Dc : DcS} {g : Nat → Bool} {σ : rS} {D N : Nat → Nat} {F : hF} {A : hA} {d c s : Nat} {Q : wQ} (X : PHI Dc g σ D N F A) {a3 : Int} (h3 : 0 ≤ a3 ∧ a3 ≤ 65536) (k : ∀ (z : Int) (gₚ : Nat → Bool) (σₚ : rS) (Dₚ Nₚ : Nat → Nat) (Fₚ : hF) (Aₚ : hA) (cₚ sₚ : Nat), PHI Dc gₚ σₚ Dₚ Nₚ Fₚ Aₚ → STP g σ D N A c s gₚ σₚ Dₚ Nₚ Aₚ cₚ sₚ → inr z → (∀ j, g j = true → gₚ j = true) → EQD [(2, 1), (4, 1), (6, 1), (8, 1), (11, 1), (0, 18), (25, 1)] [3, 5, 7, 9, 12, 10, 29, 30, 32, 26] [] [] D N F A Dₚ Nₚ Fₚ Aₚ → Fₚ 27 2 = 0 → RDQ 0 (sc (A 7) 0 (F 6 1)) (sc (A 12) 0 (F 11 1)) DCE a3 z (Fₚ 0 17) (sc (Aₚ 28) 0 (Fₚ 27 1)) → Q (some (I z)) σₚ cₚ sₚ) : Ew 32 (d + 7) 0 (rargs 0 [.ref (D 0), .ref (D 6), I 0, I a3, .ref (D 30)]) [] σ c s Q := by
  refine T_ua0_r2 (d := d + 6) X (show inr a3 by omega) (fun ls σ1 D1 N1 F1 A1 c1 s1 X1 S1 E1 l0 l1 l3 e1 b1 => ?_) (fun z σ1 D1 N1 F1 A1 c1 s1 X1 S1 E1 q => absurd q (by decide))
  have hg0 : g 0 = true := X1.2.2.1
  refine w_callk rfl (fun rec => rinvv rfl rfl (X1.1.obj 0 (by decide +kernel) hg0 rfl) rec) rfl (T_the_tok (d := d + 2) X1 (fun g2 σ2 D2 N2 F2 A2 c2 s2 X2 S2 K2 K0 hj hle => ⟨rfl, ?_⟩))
  have e2 : F2 27 1 = 0 := by rw [((K2 27 (by decide +kernel) hg0).2 (by decide)).2.2]; exact e1
  have b2 : F2 27 2 = 0 := by rw [((K2 27 (by decide +kernel) hg0).2 (by decide)).2.2]; exact b1
  have d0 : D2 0 = D1 0 := (K2 0 (by decide +kernel) hg0).1
  have d1 : D2 6 = D1 6 := (K2 6 (by decide +kernel) hg0).1
  have E12 : EQD [(2, 1), (4, 1), (6, 1), (8, 1), (11, 1), (0, 18), (25, 1)] [3, 5, 7, 9, 12, 10, 29, 30, 32, 26] [] [] D N F A D2 N2 F2 A2 := EQD_tr (EQD_sub (by decide) E1) (KEP_EQ K2 K0 hg0 (by decide +kernel))
  have hs : sc (A2 7) 0 (F2 6 1) = sc (A 7) 0 (F 6 1) := by rw [E12.2.1 7 (by decide), E12.1 (6, 1) (by decide)]
  have hh : sc (A2 12) 0 (F2 11 1) = (sc (A 12) 0 (F 11 1)) := by rw [E12.2.1 12 (by decide), E12.1 (11, 1) (by decide)]
  refine T_ub0_r2 (d := d + 2) X2 hj (by rw [d0]; exact l0) (by rw [d1]; exact l1) l3 (show inr a3 by omega) e2 b2 h3 (fun z σ3 D3 N3 F3 A3 c3 s3 X3 S3 E3 zr b3 hR => ?_)
  rw [hs, hh] at hR
  exact k z g2 σ3 D3 N3 F3 A3 c3 s3 X3 (STP_trans (STP_tr0 S1 S2) S3) zr hle (EQD_tr (EQD_sub (by decide) E12) (EQD_sub (by decide) E3)) b3 hR
theorem T_ur0_r3 {Dc : DcS} {g : Nat → Bool} {σ : rS} {D N : Nat → Nat} {F : hF} {A : hA} {d c s : Nat} {Q : wQ} (X : PHI Dc g σ D N F A) {a3 : Int} (h3 : 0 ≤ a3 ∧ a3 ≤ 65536) (k : ∀ (z : Int) (gₚ : Nat → Bool) (σₚ : rS) (Dₚ Nₚ : Nat → Nat) (Fₚ : hF) (Aₚ : hA) (cₚ sₚ : Nat), PHI Dc gₚ σₚ Dₚ Nₚ Fₚ Aₚ → STP g σ D N A c s gₚ σₚ Dₚ Nₚ Aₚ cₚ sₚ → inr z → (∀ j, g j = true → gₚ j = true) → EQD [(2, 1), (4, 1), (6, 1), (8, 1), (11, 1), (0, 18), (25, 1)] [3, 5, 7, 9, 12, 10, 29, 30, 32, 26] [] [] D N F A Dₚ Nₚ Fₚ Aₚ → Fₚ 27 2 = 0 → RDQ 0 (sc (A 9) 0 (F 8 1)) (sc (A 12) 0 (F 11 1)) DCE a3 z (Fₚ 0 17) (sc (Aₚ 28) 0 (Fₚ 27 1)) → Q (some (I z)) σₚ cₚ sₚ) : Ew 32 (d + 7) 0 (rargs 0 [.ref (D 0), .ref (D 8), I 0, I a3, .ref (D 30)]) [] σ c s Q := by
  refine T_ua0_r3 (d := d + 6) X (show inr a3 by omega) (fun ls σ1 D1 N1 F1 A1 c1 s1 X1 S1 E1 l0 l1 l3 e1 b1 => ?_) (fun z σ1 D1 N1 F1 A1 c1 s1 X1 S1 E1 q => absurd q (by decide))
  have hg0 : g 0 = true := X1.2.2.1
  refine w_callk rfl (fun rec => rinvv rfl rfl (X1.1.obj 0 (by decide +kernel) hg0 rfl) rec) rfl (T_the_tok (d := d + 2) X1 (fun g2 σ2 D2 N2 F2 A2 c2 s2 X2 S2 K2 K0 hj hle => ⟨rfl, ?_⟩))
  have e2 : F2 27 1 = 0 := by rw [((K2 27 (by decide +kernel) hg0).2 (by decide)).2.2]; exact e1
  have b2 : F2 27 2 = 0 := by rw [((K2 27 (by decide +kernel) hg0).2 (by decide)).2.2]; exact b1
  have d0 : D2 0 = D1 0 := (K2 0 (by decide +kernel) hg0).1
  have d1 : D2 8 = D1 8 := (K2 8 (by decide +kernel) hg0).1
  have E12 : EQD [(2, 1), (4, 1), (6, 1), (8, 1), (11, 1), (0, 18), (25, 1)] [3, 5, 7, 9, 12, 10, 29, 30, 32, 26] [] [] D N F A D2 N2 F2 A2 := EQD_tr (EQD_sub (by decide) E1) (KEP_EQ K2 K0 hg0 (by decide +kernel))
  have hs : sc (A2 9) 0 (F2 8 1) = sc (A 9) 0 (F 8 1) := by rw [E12.2.1 9 (by decide), E12.1 (8, 1) (by decide)]
  have hh : sc (A2 12) 0 (F2 11 1) = (sc (A 12) 0 (F 11 1)) := by rw [E12.2.1 12 (by decide), E12.1 (11, 1) (by decide)]
  refine T_ub0_r3 (d := d + 2) X2 hj (by rw [d0]; exact l0) (by rw [d1]; exact l1) l3 (show inr a3 by omega) e2 b2 h3 (fun z σ3 D3 N3 F3 A3 c3 s3 X3 S3 E3 zr b3 hR => ?_)
  rw [hs, hh] at hR
  exact k z g2 σ3 D3 N3 F3 A3 c3 s3 X3 (STP_trans (STP_tr0 S1 S2) S3) zr hle (EQD_tr (EQD_sub (by decide) E12) (EQD_sub (by decide) E3)) b3 hR
theorem T_ur0_w {Dc : DcS} {g : Nat → Bool} {σ : rS} {D N : Nat → Nat} {F : hF} {A : hA} {d c s : Nat} {Q : wQ} (X : PHI Dc g σ D N F A) {a3 : Int} (h3 : 0 ≤ a3 ∧ a3 ≤ 65536) (k : ∀ (z : Int) (gₚ : Nat → Bool) (σₚ : rS) (Dₚ Nₚ : Nat → Nat) (Fₚ : hF) (Aₚ : hA) (cₚ sₚ : Nat), PHI Dc gₚ σₚ Dₚ Nₚ Fₚ Aₚ → STP g σ D N A c s gₚ σₚ Dₚ Nₚ Aₚ cₚ sₚ → inr z → (∀ j, g j = true → gₚ j = true) → EQD [(2, 1), (4, 1), (6, 1), (8, 1), (11, 1), (0, 18), (25, 1)] [3, 5, 7, 9, 12, 10, 29, 30, 32, 26] [] [] D N F A Dₚ Nₚ Fₚ Aₚ → Fₚ 27 2 = 0 → RDQ 0 (sc (A 26) 0 (F 25 1)) (sc (A 12) 0 (F 11 1)) DCE a3 z (Fₚ 0 17) (sc (Aₚ 28) 0 (Fₚ 27 1)) → (g 5 = true → Aₚ 199 = A 199) → Dₚ 2 = D 2 → Dₚ 4 = D 4 → Dₚ 6 = D 6 → Dₚ 8 = D 8 → Q (some (I z)) σₚ cₚ sₚ) : Ew 32 (d + 7) 0 (rargs 0 [.ref (D 0), .ref (D 25), I 0, I a3, .ref (D 31)]) [] σ c s Q := by
  refine T_ua0_w (d := d + 6) X (show inr a3 by omega) (fun ls σ1 D1 N1 F1 A1 c1 s1 X1 S1 E1 l0 l1 l3 e1 b1 pk1 r0 r1 r2 r3 => ?_) (fun z σ1 D1 N1 F1 A1 c1 s1 X1 S1 E1 q => absurd q (by decide))
  have hg0 : g 0 = true := X1.2.2.1
  refine w_callk rfl (fun rec => rinvv rfl rfl (X1.1.obj 0 (by decide +kernel) hg0 rfl) rec) rfl (T_the_tok (d := d + 2) X1 (fun g2 σ2 D2 N2 F2 A2 c2 s2 X2 S2 K2 K0 hj hle => ⟨rfl, ?_⟩))
  have e2 : F2 27 1 = 0 := by rw [((K2 27 (by decide +kernel) hg0).2 (by decide)).2.2]; exact e1
  have b2 : F2 27 2 = 0 := by rw [((K2 27 (by decide +kernel) hg0).2 (by decide)).2.2]; exact b1
  have d0 : D2 0 = D1 0 := (K2 0 (by decide +kernel) hg0).1
  have d1 : D2 25 = D1 25 := (K2 25 (by decide +kernel) hg0).1
  have E12 : EQD [(2, 1), (4, 1), (6, 1), (8, 1), (11, 1), (0, 18), (25, 1)] [3, 5, 7, 9, 12, 10, 29, 30, 32, 26] [] [] D N F A D2 N2 F2 A2 := EQD_tr (EQD_sub (by decide) E1) (KEP_EQ K2 K0 hg0 (by decide +kernel))
  have hs : sc (A2 26) 0 (F2 25 1) = sc (A 26) 0 (F 25 1) := by rw [E12.2.1 26 (by decide), E12.1 (25, 1) (by decide)]
  have hh : sc (A2 12) 0 (F2 11 1) = (sc (A 12) 0 (F 11 1)) := by rw [E12.2.1 12 (by decide), E12.1 (11, 1) (by decide)]
  refine T_ub0_w (d := d + 2) X2 hj (by rw [d0]; exact l0) (by rw [d1]; exact l1) l3 (show inr a3 by omega) e2 b2 h3 (fun z σ3 D3 N3 F3 A3 c3 s3 X3 S3 E3 zr b3 hR pk3 t0 t1 t2 t3 => ?_)
  rw [hs, hh] at hR
  exact k z g2 σ3 D3 N3 F3 A3 c3 s3 X3 (STP_trans (STP_tr0 S1 S2) S3) zr hle (EQD_tr (EQD_sub (by decide) E12) (EQD_sub (by decide) E3)) b3 hR (fun h5 => pk3.trans (((K2 199 (by decide +kernel) h5).2 (by decide)).2.1.trans pk1)) (by have a := (K2 2 (by decide +kernel) hg0).1; omega) (by have a := (K2 4 (by decide +kernel) hg0).1; omega) (by have a := (K2 6 (by decide +kernel) hg0).1; omega) (by have a := (K2 8 (by decide +kernel) hg0).1; omega)
theorem T_ur1_r0 {Dc : DcS} {g : Nat → Bool} {σ : rS} {D N : Nat → Nat} {F : hF} {A : hA} {d c s : Nat} {Q : wQ} (X : PHI Dc g σ D N F A) {a3 : Int} (h3 : 0 ≤ a3 ∧ a3 ≤ 65536) (k : ∀ (z : Int) (gₚ : Nat → Bool) (σₚ : rS) (Dₚ Nₚ : Nat → Nat) (Fₚ : hF) (Aₚ : hA) (cₚ sₚ : Nat), PHI Dc gₚ σₚ Dₚ Nₚ Fₚ Aₚ → STP g σ D N A c s gₚ σₚ Dₚ Nₚ Aₚ cₚ sₚ → inr z → (∀ j, g j = true → gₚ j = true) → EQD [(2, 1), (4, 1), (6, 1), (8, 1), (11, 1), (0, 18), (25, 1)] [3, 5, 7, 9, 12, 10, 29, 30, 32, 26] [] [] D N F A Dₚ Nₚ Fₚ Aₚ → Fₚ 27 2 = 0 → RDQ 1 (sc (A 3) 0 (F 2 1)) (sc (A 12) 0 (F 11 1)) DCE a3 z (Fₚ 0 17) (sc (Aₚ 28) 0 (Fₚ 27 1)) → Q (some (I z)) σₚ cₚ sₚ) : Ew 32 (d + 7) 0 (rargs 0 [.ref (D 0), .ref (D 2), I 1, I a3, .ref (D 30)]) [] σ c s Q := by
  refine T_ua1_r0 (d := d + 6) X (show inr a3 by omega) (fun ls σ1 D1 N1 F1 A1 c1 s1 X1 S1 E1 l0 l1 l3 e1 b1 => ?_) (fun z σ1 D1 N1 F1 A1 c1 s1 X1 S1 E1 q => absurd q (by decide))
  have hg0 : g 0 = true := X1.2.2.1
  refine w_callk rfl (fun rec => rinvv rfl rfl (X1.1.obj 0 (by decide +kernel) hg0 rfl) rec) rfl (T_the_tok (d := d + 2) X1 (fun g2 σ2 D2 N2 F2 A2 c2 s2 X2 S2 K2 K0 hj hle => ⟨rfl, ?_⟩))
  have e2 : F2 27 1 = 0 := by rw [((K2 27 (by decide +kernel) hg0).2 (by decide)).2.2]; exact e1
  have b2 : F2 27 2 = 0 := by rw [((K2 27 (by decide +kernel) hg0).2 (by decide)).2.2]; exact b1
  have d0 : D2 0 = D1 0 := (K2 0 (by decide +kernel) hg0).1
  have d1 : D2 2 = D1 2 := (K2 2 (by decide +kernel) hg0).1
  have E12 : EQD [(2, 1), (4, 1), (6, 1), (8, 1), (11, 1), (0, 18), (25, 1)] [3, 5, 7, 9, 12, 10, 29, 30, 32, 26] [] [] D N F A D2 N2 F2 A2 := EQD_tr (EQD_sub (by decide) E1) (KEP_EQ K2 K0 hg0 (by decide +kernel))
  have hs : sc (A2 3) 0 (F2 2 1) = sc (A 3) 0 (F 2 1) := by rw [E12.2.1 3 (by decide), E12.1 (2, 1) (by decide)]
  have hh : sc (A2 12) 0 (F2 11 1) = (sc (A 12) 0 (F 11 1)) := by rw [E12.2.1 12 (by decide), E12.1 (11, 1) (by decide)]
  refine T_ub1_r0 (d := d + 1) X2 hj (by rw [d0]; exact l0) (by rw [d1]; exact l1) l3 (show inr a3 by omega) e2 b2 h3 (fun z σ3 D3 N3 F3 A3 c3 s3 X3 S3 E3 zr b3 hR => ?_)
  rw [hs, hh] at hR
  exact k z g2 σ3 D3 N3 F3 A3 c3 s3 X3 (STP_trans (STP_tr0 S1 S2) S3) zr hle (EQD_tr (EQD_sub (by decide) E12) (EQD_sub (by decide) E3)) b3 hR
theorem T_ur1_r1 {Dc : DcS} {g : Nat → Bool} {σ : rS} {D N : Nat → Nat} {F : hF} {A : hA} {d c s : Nat} {Q : wQ} (X : PHI Dc g σ D N F A) {a3 : Int} (h3 : 0 ≤ a3 ∧ a3 ≤ 65536) (k : ∀ (z : Int) (gₚ : Nat → Bool) (σₚ : rS) (Dₚ Nₚ : Nat → Nat) (Fₚ : hF) (Aₚ : hA) (cₚ sₚ : Nat), PHI Dc gₚ σₚ Dₚ Nₚ Fₚ Aₚ → STP g σ D N A c s gₚ σₚ Dₚ Nₚ Aₚ cₚ sₚ → inr z → (∀ j, g j = true → gₚ j = true) → EQD [(2, 1), (4, 1), (6, 1), (8, 1), (11, 1), (0, 18), (25, 1)] [3, 5, 7, 9, 12, 10, 29, 30, 32, 26] [] [] D N F A Dₚ Nₚ Fₚ Aₚ → Fₚ 27 2 = 0 → RDQ 1 (sc (A 5) 0 (F 4 1)) (sc (A 12) 0 (F 11 1)) DCE a3 z (Fₚ 0 17) (sc (Aₚ 28) 0 (Fₚ 27 1)) → Q (some (I z)) σₚ cₚ sₚ) : Ew 32 (d + 7) 0 (rargs 0 [.ref (D 0), .ref (D 4), I 1, I a3, .ref (D 30)]) [] σ c s Q := by
  refine T_ua1_r1 (d := d + 6) X (show inr a3 by omega) (fun ls σ1 D1 N1 F1 A1 c1 s1 X1 S1 E1 l0 l1 l3 e1 b1 => ?_) (fun z σ1 D1 N1 F1 A1 c1 s1 X1 S1 E1 q => absurd q (by decide))
  have hg0 : g 0 = true := X1.2.2.1
  refine w_callk rfl (fun rec => rinvv rfl rfl (X1.1.obj 0 (by decide +kernel) hg0 rfl) rec) rfl (T_the_tok (d := d + 2) X1 (fun g2 σ2 D2 N2 F2 A2 c2 s2 X2 S2 K2 K0 hj hle => ⟨rfl, ?_⟩))
  have e2 : F2 27 1 = 0 := by rw [((K2 27 (by decide +kernel) hg0).2 (by decide)).2.2]; exact e1
  have b2 : F2 27 2 = 0 := by rw [((K2 27 (by decide +kernel) hg0).2 (by decide)).2.2]; exact b1
  have d0 : D2 0 = D1 0 := (K2 0 (by decide +kernel) hg0).1
  have d1 : D2 4 = D1 4 := (K2 4 (by decide +kernel) hg0).1
  have E12 : EQD [(2, 1), (4, 1), (6, 1), (8, 1), (11, 1), (0, 18), (25, 1)] [3, 5, 7, 9, 12, 10, 29, 30, 32, 26] [] [] D N F A D2 N2 F2 A2 := EQD_tr (EQD_sub (by decide) E1) (KEP_EQ K2 K0 hg0 (by decide +kernel))
  have hs : sc (A2 5) 0 (F2 4 1) = sc (A 5) 0 (F 4 1) := by rw [E12.2.1 5 (by decide), E12.1 (4, 1) (by decide)]
  have hh : sc (A2 12) 0 (F2 11 1) = (sc (A 12) 0 (F 11 1)) := by rw [E12.2.1 12 (by decide), E12.1 (11, 1) (by decide)]
  refine T_ub1_r1 (d := d + 1) X2 hj (by rw [d0]; exact l0) (by rw [d1]; exact l1) l3 (show inr a3 by omega) e2 b2 h3 (fun z σ3 D3 N3 F3 A3 c3 s3 X3 S3 E3 zr b3 hR => ?_)
  rw [hs, hh] at hR
  exact k z g2 σ3 D3 N3 F3 A3 c3 s3 X3 (STP_trans (STP_tr0 S1 S2) S3) zr hle (EQD_tr (EQD_sub (by decide) E12) (EQD_sub (by decide) E3)) b3 hR
theorem T_ur1_r2 {Dc : DcS} {g : Nat → Bool} {σ : rS} {D N : Nat → Nat} {F : hF} {A : hA} {d c s : Nat} {Q : wQ} (X : PHI Dc g σ D N F A) {a3 : Int} (h3 : 0 ≤ a3 ∧ a3 ≤ 65536) (k : ∀ (z : Int) (gₚ : Nat → Bool) (σₚ : rS) (Dₚ Nₚ : Nat → Nat) (Fₚ : hF) (Aₚ : hA) (cₚ sₚ : Nat), PHI Dc gₚ σₚ Dₚ Nₚ Fₚ Aₚ → STP g σ D N A c s gₚ σₚ Dₚ Nₚ Aₚ cₚ sₚ → inr z → (∀ j, g j = true → gₚ j = true) → EQD [(2, 1), (4, 1), (6, 1), (8, 1), (11, 1), (0, 18), (25, 1)] [3, 5, 7, 9, 12, 10, 29, 30, 32, 26] [] [] D N F A Dₚ Nₚ Fₚ Aₚ → Fₚ 27 2 = 0 → RDQ 1 (sc (A 7) 0 (F 6 1)) (sc (A 12) 0 (F 11 1)) DCE a3 z (Fₚ 0 17) (sc (Aₚ 28) 0 (Fₚ 27 1)) → Q (some (I z)) σₚ cₚ sₚ) : Ew 32 (d + 7) 0 (rargs 0 [.ref (D 0), .ref (D 6), I 1, I a3, .ref (D 30)]) [] σ c s Q := by
  refine T_ua1_r2 (d := d + 6) X (show inr a3 by omega) (fun ls σ1 D1 N1 F1 A1 c1 s1 X1 S1 E1 l0 l1 l3 e1 b1 => ?_) (fun z σ1 D1 N1 F1 A1 c1 s1 X1 S1 E1 q => absurd q (by decide))
  have hg0 : g 0 = true := X1.2.2.1
  refine w_callk rfl (fun rec => rinvv rfl rfl (X1.1.obj 0 (by decide +kernel) hg0 rfl) rec) rfl (T_the_tok (d := d + 2) X1 (fun g2 σ2 D2 N2 F2 A2 c2 s2 X2 S2 K2 K0 hj hle => ⟨rfl, ?_⟩))
  have e2 : F2 27 1 = 0 := by rw [((K2 27 (by decide +kernel) hg0).2 (by decide)).2.2]; exact e1
  have b2 : F2 27 2 = 0 := by rw [((K2 27 (by decide +kernel) hg0).2 (by decide)).2.2]; exact b1
  have d0 : D2 0 = D1 0 := (K2 0 (by decide +kernel) hg0).1
  have d1 : D2 6 = D1 6 := (K2 6 (by decide +kernel) hg0).1
  have E12 : EQD [(2, 1), (4, 1), (6, 1), (8, 1), (11, 1), (0, 18), (25, 1)] [3, 5, 7, 9, 12, 10, 29, 30, 32, 26] [] [] D N F A D2 N2 F2 A2 := EQD_tr (EQD_sub (by decide) E1) (KEP_EQ K2 K0 hg0 (by decide +kernel))
  have hs : sc (A2 7) 0 (F2 6 1) = sc (A 7) 0 (F 6 1) := by rw [E12.2.1 7 (by decide), E12.1 (6, 1) (by decide)]
  have hh : sc (A2 12) 0 (F2 11 1) = (sc (A 12) 0 (F 11 1)) := by rw [E12.2.1 12 (by decide), E12.1 (11, 1) (by decide)]
  refine T_ub1_r2 (d := d + 1) X2 hj (by rw [d0]; exact l0) (by rw [d1]; exact l1) l3 (show inr a3 by omega) e2 b2 h3 (fun z σ3 D3 N3 F3 A3 c3 s3 X3 S3 E3 zr b3 hR => ?_)
  rw [hs, hh] at hR
  exact k z g2 σ3 D3 N3 F3 A3 c3 s3 X3 (STP_trans (STP_tr0 S1 S2) S3) zr hle (EQD_tr (EQD_sub (by decide) E12) (EQD_sub (by decide) E3)) b3 hR
theorem T_ur1_r3 {Dc : DcS} {g : Nat → Bool} {σ : rS} {D N : Nat → Nat} {F : hF} {A : hA} {d c s : Nat} {Q : wQ} (X : PHI Dc g σ D N F A) {a3 : Int} (h3 : 0 ≤ a3 ∧ a3 ≤ 65536) (k : ∀ (z : Int) (gₚ : Nat → Bool) (σₚ : rS) (Dₚ Nₚ : Nat → Nat) (Fₚ : hF) (Aₚ : hA) (cₚ sₚ : Nat), PHI Dc gₚ σₚ Dₚ Nₚ Fₚ Aₚ → STP g σ D N A c s gₚ σₚ Dₚ Nₚ Aₚ cₚ sₚ → inr z → (∀ j, g j = true → gₚ j = true) → EQD [(2, 1), (4, 1), (6, 1), (8, 1), (11, 1), (0, 18), (25, 1)] [3, 5, 7, 9, 12, 10, 29, 30, 32, 26] [] [] D N F A Dₚ Nₚ Fₚ Aₚ → Fₚ 27 2 = 0 → RDQ 1 (sc (A 9) 0 (F 8 1)) (sc (A 12) 0 (F 11 1)) DCE a3 z (Fₚ 0 17) (sc (Aₚ 28) 0 (Fₚ 27 1)) → Q (some (I z)) σₚ cₚ sₚ) : Ew 32 (d + 7) 0 (rargs 0 [.ref (D 0), .ref (D 8), I 1, I a3, .ref (D 30)]) [] σ c s Q := by
  refine T_ua1_r3 (d := d + 6) X (show inr a3 by omega) (fun ls σ1 D1 N1 F1 A1 c1 s1 X1 S1 E1 l0 l1 l3 e1 b1 => ?_) (fun z σ1 D1 N1 F1 A1 c1 s1 X1 S1 E1 q => absurd q (by decide))
  have hg0 : g 0 = true := X1.2.2.1
  refine w_callk rfl (fun rec => rinvv rfl rfl (X1.1.obj 0 (by decide +kernel) hg0 rfl) rec) rfl (T_the_tok (d := d + 2) X1 (fun g2 σ2 D2 N2 F2 A2 c2 s2 X2 S2 K2 K0 hj hle => ⟨rfl, ?_⟩))
  have e2 : F2 27 1 = 0 := by rw [((K2 27 (by decide +kernel) hg0).2 (by decide)).2.2]; exact e1
  have b2 : F2 27 2 = 0 := by rw [((K2 27 (by decide +kernel) hg0).2 (by decide)).2.2]; exact b1
  have d0 : D2 0 = D1 0 := (K2 0 (by decide +kernel) hg0).1
  have d1 : D2 8 = D1 8 := (K2 8 (by decide +kernel) hg0).1
  have E12 : EQD [(2, 1), (4, 1), (6, 1), (8, 1), (11, 1), (0, 18), (25, 1)] [3, 5, 7, 9, 12, 10, 29, 30, 32, 26] [] [] D N F A D2 N2 F2 A2 := EQD_tr (EQD_sub (by decide) E1) (KEP_EQ K2 K0 hg0 (by decide +kernel))
  have hs : sc (A2 9) 0 (F2 8 1) = sc (A 9) 0 (F 8 1) := by rw [E12.2.1 9 (by decide), E12.1 (8, 1) (by decide)]
  have hh : sc (A2 12) 0 (F2 11 1) = (sc (A 12) 0 (F 11 1)) := by rw [E12.2.1 12 (by decide), E12.1 (11, 1) (by decide)]
  refine T_ub1_r3 (d := d + 1) X2 hj (by rw [d0]; exact l0) (by rw [d1]; exact l1) l3 (show inr a3 by omega) e2 b2 h3 (fun z σ3 D3 N3 F3 A3 c3 s3 X3 S3 E3 zr b3 hR => ?_)
  rw [hs, hh] at hR
  exact k z g2 σ3 D3 N3 F3 A3 c3 s3 X3 (STP_trans (STP_tr0 S1 S2) S3) zr hle (EQD_tr (EQD_sub (by decide) E12) (EQD_sub (by decide) E3)) b3 hR
theorem T_ur1_w {Dc : DcS} {g : Nat → Bool} {σ : rS} {D N : Nat → Nat} {F : hF} {A : hA} {d c s : Nat} {Q : wQ} (X : PHI Dc g σ D N F A) {a3 : Int} (h3 : 0 ≤ a3 ∧ a3 ≤ 65536) (k : ∀ (z : Int) (gₚ : Nat → Bool) (σₚ : rS) (Dₚ Nₚ : Nat → Nat) (Fₚ : hF) (Aₚ : hA) (cₚ sₚ : Nat), PHI Dc gₚ σₚ Dₚ Nₚ Fₚ Aₚ → STP g σ D N A c s gₚ σₚ Dₚ Nₚ Aₚ cₚ sₚ → inr z → (∀ j, g j = true → gₚ j = true) → EQD [(2, 1), (4, 1), (6, 1), (8, 1), (11, 1), (0, 18), (25, 1)] [3, 5, 7, 9, 12, 10, 29, 30, 32, 26] [] [] D N F A Dₚ Nₚ Fₚ Aₚ → Fₚ 27 2 = 0 → RDQ 1 (sc (A 26) 0 (F 25 1)) (sc (A 12) 0 (F 11 1)) DCE a3 z (Fₚ 0 17) (sc (Aₚ 28) 0 (Fₚ 27 1)) → (g 5 = true → Aₚ 199 = A 199) → Dₚ 2 = D 2 → Dₚ 4 = D 4 → Dₚ 6 = D 6 → Dₚ 8 = D 8 → Q (some (I z)) σₚ cₚ sₚ) : Ew 32 (d + 7) 0 (rargs 0 [.ref (D 0), .ref (D 25), I 1, I a3, .ref (D 31)]) [] σ c s Q := by
  refine T_ua1_w (d := d + 6) X (show inr a3 by omega) (fun ls σ1 D1 N1 F1 A1 c1 s1 X1 S1 E1 l0 l1 l3 e1 b1 pk1 r0 r1 r2 r3 => ?_) (fun z σ1 D1 N1 F1 A1 c1 s1 X1 S1 E1 q => absurd q (by decide))
  have hg0 : g 0 = true := X1.2.2.1
  refine w_callk rfl (fun rec => rinvv rfl rfl (X1.1.obj 0 (by decide +kernel) hg0 rfl) rec) rfl (T_the_tok (d := d + 2) X1 (fun g2 σ2 D2 N2 F2 A2 c2 s2 X2 S2 K2 K0 hj hle => ⟨rfl, ?_⟩))
  have e2 : F2 27 1 = 0 := by rw [((K2 27 (by decide +kernel) hg0).2 (by decide)).2.2]; exact e1
  have b2 : F2 27 2 = 0 := by rw [((K2 27 (by decide +kernel) hg0).2 (by decide)).2.2]; exact b1
  have d0 : D2 0 = D1 0 := (K2 0 (by decide +kernel) hg0).1
  have d1 : D2 25 = D1 25 := (K2 25 (by decide +kernel) hg0).1
  have E12 : EQD [(2, 1), (4, 1), (6, 1), (8, 1), (11, 1), (0, 18), (25, 1)] [3, 5, 7, 9, 12, 10, 29, 30, 32, 26] [] [] D N F A D2 N2 F2 A2 := EQD_tr (EQD_sub (by decide) E1) (KEP_EQ K2 K0 hg0 (by decide +kernel))
  have hs : sc (A2 26) 0 (F2 25 1) = sc (A 26) 0 (F 25 1) := by rw [E12.2.1 26 (by decide), E12.1 (25, 1) (by decide)]
  have hh : sc (A2 12) 0 (F2 11 1) = (sc (A 12) 0 (F 11 1)) := by rw [E12.2.1 12 (by decide), E12.1 (11, 1) (by decide)]
  refine T_ub1_w (d := d + 1) X2 hj (by rw [d0]; exact l0) (by rw [d1]; exact l1) l3 (show inr a3 by omega) e2 b2 h3 (fun z σ3 D3 N3 F3 A3 c3 s3 X3 S3 E3 zr b3 hR pk3 t0 t1 t2 t3 => ?_)
  rw [hs, hh] at hR
  exact k z g2 σ3 D3 N3 F3 A3 c3 s3 X3 (STP_trans (STP_tr0 S1 S2) S3) zr hle (EQD_tr (EQD_sub (by decide) E12) (EQD_sub (by decide) E3)) b3 hR (fun h5 => pk3.trans (((K2 199 (by decide +kernel) h5).2 (by decide)).2.1.trans pk1)) (by have a := (K2 2 (by decide +kernel) hg0).1; omega) (by have a := (K2 4 (by decide +kernel) hg0).1; omega) (by have a := (K2 6 (by decide +kernel) hg0).1; omega) (by have a := (K2 8 (by decide +kernel) hg0).1; omega)
theorem T_ur2_r0 {Dc : DcS} {g : Nat → Bool} {σ : rS} {D N : Nat → Nat} {F : hF} {A : hA} {d c s : Nat} {Q : wQ} (X : PHI Dc g σ D N F A) {a3 : Int} (h3 : 0 ≤ a3 ∧ a3 ≤ 65536) (k : ∀ (z : Int) (gₚ : Nat → Bool) (σₚ : rS) (Dₚ Nₚ : Nat → Nat) (Fₚ : hF) (Aₚ : hA) (cₚ sₚ : Nat), PHI Dc gₚ σₚ Dₚ Nₚ Fₚ Aₚ → STP g σ D N A c s gₚ σₚ Dₚ Nₚ Aₚ cₚ sₚ → inr z → (∀ j, g j = true → gₚ j = true) → EQD [(2, 1), (4, 1), (6, 1), (8, 1), (11, 1), (0, 18), (25, 1)] [3, 5, 7, 9, 12, 10, 29, 30, 32, 26] [] [] D N F A Dₚ Nₚ Fₚ Aₚ → Fₚ 27 2 = 0 → RDQ 2 (sc (A 3) 0 (F 2 1)) [] DCE a3 z (Fₚ 0 17) (sc (Aₚ 28) 0 (Fₚ 27 1)) → Q (some (I z)) σₚ cₚ sₚ) : Ew 32 (d + 7) 0 (rargs 0 [.ref (D 0), .ref (D 2), I 2, I a3, .ref (D 30)]) [] σ c s Q := by
  refine T_ua2_r0 (d := d + 6) X (show inr a3 by omega) (fun ls σ1 D1 N1 F1 A1 c1 s1 X1 S1 E1 l0 l1 l3 e1 b1 => ?_) (fun z σ1 D1 N1 F1 A1 c1 s1 X1 S1 E1 q => absurd q (by decide))
  have hg0 : g 0 = true := X1.2.2.1
  refine w_callk rfl (fun rec => rinvv rfl rfl (X1.1.obj 0 (by decide +kernel) hg0 rfl) rec) rfl (T_the_tag (d := d + 2) X1 (fun g2 σ2 D2 N2 F2 A2 c2 s2 X2 S2 K2 K0 hj hle => ⟨rfl, ?_⟩))
  have e2 : F2 27 1 = 0 := by rw [((K2 27 (by decide +kernel) hg0).2 (by decide)).2.2]; exact e1
  have b2 : F2 27 2 = 0 := by rw [((K2 27 (by decide +kernel) hg0).2 (by decide)).2.2]; exact b1
  have d0 : D2 0 = D1 0 := (K2 0 (by decide +kernel) hg0).1
  have d1 : D2 2 = D1 2 := (K2 2 (by decide +kernel) hg0).1
  have E12 : EQD [(2, 1), (4, 1), (6, 1), (8, 1), (11, 1), (0, 18), (25, 1)] [3, 5, 7, 9, 12, 10, 29, 30, 32, 26] [] [] D N F A D2 N2 F2 A2 := EQD_tr (EQD_sub (by decide) E1) (KEP_EQ K2 K0 hg0 (by decide +kernel))
  have hs : sc (A2 3) 0 (F2 2 1) = sc (A 3) 0 (F 2 1) := by rw [E12.2.1 3 (by decide), E12.1 (2, 1) (by decide)]
  refine T_ub2_r0 (d := d + 2) X2 hj (by rw [d0]; exact l0) (by rw [d1]; exact l1) l3 (show inr a3 by omega) e2 b2 h3 (fun z σ3 D3 N3 F3 A3 c3 s3 X3 S3 E3 zr b3 hR => ?_)
  rw [hs] at hR
  exact k z g2 σ3 D3 N3 F3 A3 c3 s3 X3 (STP_trans (STP_tr0 S1 S2) S3) zr hle (EQD_tr (EQD_sub (by decide) E12) (EQD_sub (by decide) E3)) b3 hR
theorem T_ur2_r1 {Dc : DcS} {g : Nat → Bool} {σ : rS} {D N : Nat → Nat} {F : hF} {A : hA} {d c s : Nat} {Q : wQ} (X : PHI Dc g σ D N F A) {a3 : Int} (h3 : 0 ≤ a3 ∧ a3 ≤ 65536) (k : ∀ (z : Int) (gₚ : Nat → Bool) (σₚ : rS) (Dₚ Nₚ : Nat → Nat) (Fₚ : hF) (Aₚ : hA) (cₚ sₚ : Nat), PHI Dc gₚ σₚ Dₚ Nₚ Fₚ Aₚ → STP g σ D N A c s gₚ σₚ Dₚ Nₚ Aₚ cₚ sₚ → inr z → (∀ j, g j = true → gₚ j = true) → EQD [(2, 1), (4, 1), (6, 1), (8, 1), (11, 1), (0, 18), (25, 1)] [3, 5, 7, 9, 12, 10, 29, 30, 32, 26] [] [] D N F A Dₚ Nₚ Fₚ Aₚ → Fₚ 27 2 = 0 → RDQ 2 (sc (A 5) 0 (F 4 1)) [] DCE a3 z (Fₚ 0 17) (sc (Aₚ 28) 0 (Fₚ 27 1)) → Q (some (I z)) σₚ cₚ sₚ) : Ew 32 (d + 7) 0 (rargs 0 [.ref (D 0), .ref (D 4), I 2, I a3, .ref (D 30)]) [] σ c s Q := by
  refine T_ua2_r1 (d := d + 6) X (show inr a3 by omega) (fun ls σ1 D1 N1 F1 A1 c1 s1 X1 S1 E1 l0 l1 l3 e1 b1 => ?_) (fun z σ1 D1 N1 F1 A1 c1 s1 X1 S1 E1 q => absurd q (by decide))
  have hg0 : g 0 = true := X1.2.2.1
  refine w_callk rfl (fun rec => rinvv rfl rfl (X1.1.obj 0 (by decide +kernel) hg0 rfl) rec) rfl (T_the_tag (d := d + 2) X1 (fun g2 σ2 D2 N2 F2 A2 c2 s2 X2 S2 K2 K0 hj hle => ⟨rfl, ?_⟩))
  have e2 : F2 27 1 = 0 := by rw [((K2 27 (by decide +kernel) hg0).2 (by decide)).2.2]; exact e1
  have b2 : F2 27 2 = 0 := by rw [((K2 27 (by decide +kernel) hg0).2 (by decide)).2.2]; exact b1
  have d0 : D2 0 = D1 0 := (K2 0 (by decide +kernel) hg0).1
  have d1 : D2 4 = D1 4 := (K2 4 (by decide +kernel) hg0).1
  have E12 : EQD [(2, 1), (4, 1), (6, 1), (8, 1), (11, 1), (0, 18), (25, 1)] [3, 5, 7, 9, 12, 10, 29, 30, 32, 26] [] [] D N F A D2 N2 F2 A2 := EQD_tr (EQD_sub (by decide) E1) (KEP_EQ K2 K0 hg0 (by decide +kernel))
  have hs : sc (A2 5) 0 (F2 4 1) = sc (A 5) 0 (F 4 1) := by rw [E12.2.1 5 (by decide), E12.1 (4, 1) (by decide)]
  refine T_ub2_r1 (d := d + 2) X2 hj (by rw [d0]; exact l0) (by rw [d1]; exact l1) l3 (show inr a3 by omega) e2 b2 h3 (fun z σ3 D3 N3 F3 A3 c3 s3 X3 S3 E3 zr b3 hR => ?_)
  rw [hs] at hR
  exact k z g2 σ3 D3 N3 F3 A3 c3 s3 X3 (STP_trans (STP_tr0 S1 S2) S3) zr hle (EQD_tr (EQD_sub (by decide) E12) (EQD_sub (by decide) E3)) b3 hR
theorem T_ur2_r2 {Dc : DcS} {g : Nat → Bool} {σ : rS} {D N : Nat → Nat} {F : hF} {A : hA} {d c s : Nat} {Q : wQ} (X : PHI Dc g σ D N F A) {a3 : Int} (h3 : 0 ≤ a3 ∧ a3 ≤ 65536) (k : ∀ (z : Int) (gₚ : Nat → Bool) (σₚ : rS) (Dₚ Nₚ : Nat → Nat) (Fₚ : hF) (Aₚ : hA) (cₚ sₚ : Nat), PHI Dc gₚ σₚ Dₚ Nₚ Fₚ Aₚ → STP g σ D N A c s gₚ σₚ Dₚ Nₚ Aₚ cₚ sₚ → inr z → (∀ j, g j = true → gₚ j = true) → EQD [(2, 1), (4, 1), (6, 1), (8, 1), (11, 1), (0, 18), (25, 1)] [3, 5, 7, 9, 12, 10, 29, 30, 32, 26] [] [] D N F A Dₚ Nₚ Fₚ Aₚ → Fₚ 27 2 = 0 → RDQ 2 (sc (A 7) 0 (F 6 1)) [] DCE a3 z (Fₚ 0 17) (sc (Aₚ 28) 0 (Fₚ 27 1)) → Q (some (I z)) σₚ cₚ sₚ) : Ew 32 (d + 7) 0 (rargs 0 [.ref (D 0), .ref (D 6), I 2, I a3, .ref (D 30)]) [] σ c s Q := by
  refine T_ua2_r2 (d := d + 6) X (show inr a3 by omega) (fun ls σ1 D1 N1 F1 A1 c1 s1 X1 S1 E1 l0 l1 l3 e1 b1 => ?_) (fun z σ1 D1 N1 F1 A1 c1 s1 X1 S1 E1 q => absurd q (by decide))
  have hg0 : g 0 = true := X1.2.2.1
  refine w_callk rfl (fun rec => rinvv rfl rfl (X1.1.obj 0 (by decide +kernel) hg0 rfl) rec) rfl (T_the_tag (d := d + 2) X1 (fun g2 σ2 D2 N2 F2 A2 c2 s2 X2 S2 K2 K0 hj hle => ⟨rfl, ?_⟩))
  have e2 : F2 27 1 = 0 := by rw [((K2 27 (by decide +kernel) hg0).2 (by decide)).2.2]; exact e1
  have b2 : F2 27 2 = 0 := by rw [((K2 27 (by decide +kernel) hg0).2 (by decide)).2.2]; exact b1
  have d0 : D2 0 = D1 0 := (K2 0 (by decide +kernel) hg0).1
  have d1 : D2 6 = D1 6 := (K2 6 (by decide +kernel) hg0).1
  have E12 : EQD [(2, 1), (4, 1), (6, 1), (8, 1), (11, 1), (0, 18), (25, 1)] [3, 5, 7, 9, 12, 10, 29, 30, 32, 26] [] [] D N F A D2 N2 F2 A2 := EQD_tr (EQD_sub (by decide) E1) (KEP_EQ K2 K0 hg0 (by decide +kernel))
  have hs : sc (A2 7) 0 (F2 6 1) = sc (A 7) 0 (F 6 1) := by rw [E12.2.1 7 (by decide), E12.1 (6, 1) (by decide)]
  refine T_ub2_r2 (d := d + 2) X2 hj (by rw [d0]; exact l0) (by rw [d1]; exact l1) l3 (show inr a3 by omega) e2 b2 h3 (fun z σ3 D3 N3 F3 A3 c3 s3 X3 S3 E3 zr b3 hR => ?_)
  rw [hs] at hR
  exact k z g2 σ3 D3 N3 F3 A3 c3 s3 X3 (STP_trans (STP_tr0 S1 S2) S3) zr hle (EQD_tr (EQD_sub (by decide) E12) (EQD_sub (by decide) E3)) b3 hR
theorem T_ur2_r3 {Dc : DcS} {g : Nat → Bool} {σ : rS} {D N : Nat → Nat} {F : hF} {A : hA} {d c s : Nat} {Q : wQ} (X : PHI Dc g σ D N F A) {a3 : Int} (h3 : 0 ≤ a3 ∧ a3 ≤ 65536) (k : ∀ (z : Int) (gₚ : Nat → Bool) (σₚ : rS) (Dₚ Nₚ : Nat → Nat) (Fₚ : hF) (Aₚ : hA) (cₚ sₚ : Nat), PHI Dc gₚ σₚ Dₚ Nₚ Fₚ Aₚ → STP g σ D N A c s gₚ σₚ Dₚ Nₚ Aₚ cₚ sₚ → inr z → (∀ j, g j = true → gₚ j = true) → EQD [(2, 1), (4, 1), (6, 1), (8, 1), (11, 1), (0, 18), (25, 1)] [3, 5, 7, 9, 12, 10, 29, 30, 32, 26] [] [] D N F A Dₚ Nₚ Fₚ Aₚ → Fₚ 27 2 = 0 → RDQ 2 (sc (A 9) 0 (F 8 1)) [] DCE a3 z (Fₚ 0 17) (sc (Aₚ 28) 0 (Fₚ 27 1)) → Q (some (I z)) σₚ cₚ sₚ) : Ew 32 (d + 7) 0 (rargs 0 [.ref (D 0), .ref (D 8), I 2, I a3, .ref (D 30)]) [] σ c s Q := by
  refine T_ua2_r3 (d := d + 6) X (show inr a3 by omega) (fun ls σ1 D1 N1 F1 A1 c1 s1 X1 S1 E1 l0 l1 l3 e1 b1 => ?_) (fun z σ1 D1 N1 F1 A1 c1 s1 X1 S1 E1 q => absurd q (by decide))
  have hg0 : g 0 = true := X1.2.2.1
  refine w_callk rfl (fun rec => rinvv rfl rfl (X1.1.obj 0 (by decide +kernel) hg0 rfl) rec) rfl (T_the_tag (d := d + 2) X1 (fun g2 σ2 D2 N2 F2 A2 c2 s2 X2 S2 K2 K0 hj hle => ⟨rfl, ?_⟩))
  have e2 : F2 27 1 = 0 := by rw [((K2 27 (by decide +kernel) hg0).2 (by decide)).2.2]; exact e1
  have b2 : F2 27 2 = 0 := by rw [((K2 27 (by decide +kernel) hg0).2 (by decide)).2.2]; exact b1
  have d0 : D2 0 = D1 0 := (K2 0 (by decide +kernel) hg0).1
  have d1 : D2 8 = D1 8 := (K2 8 (by decide +kernel) hg0).1
  have E12 : EQD [(2, 1), (4, 1), (6, 1), (8, 1), (11, 1), (0, 18), (25, 1)] [3, 5, 7, 9, 12, 10, 29, 30, 32, 26] [] [] D N F A D2 N2 F2 A2 := EQD_tr (EQD_sub (by decide) E1) (KEP_EQ K2 K0 hg0 (by decide +kernel))
  have hs : sc (A2 9) 0 (F2 8 1) = sc (A 9) 0 (F 8 1) := by rw [E12.2.1 9 (by decide), E12.1 (8, 1) (by decide)]
  refine T_ub2_r3 (d := d + 2) X2 hj (by rw [d0]; exact l0) (by rw [d1]; exact l1) l3 (show inr a3 by omega) e2 b2 h3 (fun z σ3 D3 N3 F3 A3 c3 s3 X3 S3 E3 zr b3 hR => ?_)
  rw [hs] at hR
  exact k z g2 σ3 D3 N3 F3 A3 c3 s3 X3 (STP_trans (STP_tr0 S1 S2) S3) zr hle (EQD_tr (EQD_sub (by decide) E12) (EQD_sub (by decide) E3)) b3 hR
theorem T_ur2_w {Dc : DcS} {g : Nat → Bool} {σ : rS} {D N : Nat → Nat} {F : hF} {A : hA} {d c s : Nat} {Q : wQ} (X : PHI Dc g σ D N F A) {a3 : Int} (h3 : 0 ≤ a3 ∧ a3 ≤ 65536) (k : ∀ (z : Int) (gₚ : Nat → Bool) (σₚ : rS) (Dₚ Nₚ : Nat → Nat) (Fₚ : hF) (Aₚ : hA) (cₚ sₚ : Nat), PHI Dc gₚ σₚ Dₚ Nₚ Fₚ Aₚ → STP g σ D N A c s gₚ σₚ Dₚ Nₚ Aₚ cₚ sₚ → inr z → (∀ j, g j = true → gₚ j = true) → EQD [(2, 1), (4, 1), (6, 1), (8, 1), (11, 1), (0, 18), (25, 1)] [3, 5, 7, 9, 12, 10, 29, 30, 32, 26] [] [] D N F A Dₚ Nₚ Fₚ Aₚ → Fₚ 27 2 = 0 → RDQ 2 (sc (A 26) 0 (F 25 1)) [] DCE a3 z (Fₚ 0 17) (sc (Aₚ 28) 0 (Fₚ 27 1)) → (g 5 = true → Aₚ 199 = A 199) → Dₚ 2 = D 2 → Dₚ 4 = D 4 → Dₚ 6 = D 6 → Dₚ 8 = D 8 → Q (some (I z)) σₚ cₚ sₚ) : Ew 32 (d + 7) 0 (rargs 0 [.ref (D 0), .ref (D 25), I 2, I a3, .ref (D 31)]) [] σ c s Q := by
  refine T_ua2_w (d := d + 6) X (show inr a3 by omega) (fun ls σ1 D1 N1 F1 A1 c1 s1 X1 S1 E1 l0 l1 l3 e1 b1 pk1 r0 r1 r2 r3 => ?_) (fun z σ1 D1 N1 F1 A1 c1 s1 X1 S1 E1 q => absurd q (by decide))
  have hg0 : g 0 = true := X1.2.2.1
  refine w_callk rfl (fun rec => rinvv rfl rfl (X1.1.obj 0 (by decide +kernel) hg0 rfl) rec) rfl (T_the_tag (d := d + 2) X1 (fun g2 σ2 D2 N2 F2 A2 c2 s2 X2 S2 K2 K0 hj hle => ⟨rfl, ?_⟩))
  have e2 : F2 27 1 = 0 := by rw [((K2 27 (by decide +kernel) hg0).2 (by decide)).2.2]; exact e1
  have b2 : F2 27 2 = 0 := by rw [((K2 27 (by decide +kernel) hg0).2 (by decide)).2.2]; exact b1
  have d0 : D2 0 = D1 0 := (K2 0 (by decide +kernel) hg0).1
  have d1 : D2 25 = D1 25 := (K2 25 (by decide +kernel) hg0).1
  have E12 : EQD [(2, 1), (4, 1), (6, 1), (8, 1), (11, 1), (0, 18), (25, 1)] [3, 5, 7, 9, 12, 10, 29, 30, 32, 26] [] [] D N F A D2 N2 F2 A2 := EQD_tr (EQD_sub (by decide) E1) (KEP_EQ K2 K0 hg0 (by decide +kernel))
  have hs : sc (A2 26) 0 (F2 25 1) = sc (A 26) 0 (F 25 1) := by rw [E12.2.1 26 (by decide), E12.1 (25, 1) (by decide)]
  refine T_ub2_w (d := d + 2) X2 hj (by rw [d0]; exact l0) (by rw [d1]; exact l1) l3 (show inr a3 by omega) e2 b2 h3 (fun z σ3 D3 N3 F3 A3 c3 s3 X3 S3 E3 zr b3 hR pk3 t0 t1 t2 t3 => ?_)
  rw [hs] at hR
  exact k z g2 σ3 D3 N3 F3 A3 c3 s3 X3 (STP_trans (STP_tr0 S1 S2) S3) zr hle (EQD_tr (EQD_sub (by decide) E12) (EQD_sub (by decide) E3)) b3 hR (fun h5 => pk3.trans (((K2 199 (by decide +kernel) h5).2 (by decide)).2.1.trans pk1)) (by have a := (K2 2 (by decide +kernel) hg0).1; omega) (by have a := (K2 4 (by decide +kernel) hg0).1; omega) (by have a := (K2 6 (by decide +kernel) hg0).1; omega) (by have a := (K2 8 (by decide +kernel) hg0).1; omega)
theorem T_ur3_r0 {Dc : DcS} {g : Nat → Bool} {σ : rS} {D N : Nat → Nat} {F : hF} {A : hA} {d c s : Nat} {Q : wQ} (X : PHI Dc g σ D N F A) {a3 : Int} (h3 : 0 ≤ a3 ∧ a3 ≤ 65536) (k : ∀ (z : Int) (gₚ : Nat → Bool) (σₚ : rS) (Dₚ Nₚ : Nat → Nat) (Fₚ : hF) (Aₚ : hA) (cₚ sₚ : Nat), PHI Dc gₚ σₚ Dₚ Nₚ Fₚ Aₚ → STP g σ D N A c s gₚ σₚ Dₚ Nₚ Aₚ cₚ sₚ → inr z → (∀ j, g j = true → gₚ j = true) → EQD [(2, 1), (4, 1), (6, 1), (8, 1), (11, 1), (0, 18), (25, 1)] [3, 5, 7, 9, 12, 10, 29, 30, 32, 26] [] [] D N F A Dₚ Nₚ Fₚ Aₚ → Fₚ 27 2 = 0 → RDQ 3 (sc (A 3) 0 (F 2 1)) [] DCE a3 z (Fₚ 0 17) (sc (Aₚ 28) 0 (Fₚ 27 1)) → Q (some (I z)) σₚ cₚ sₚ) : Ew 32 (d + 7) 0 (rargs 0 [.ref (D 0), .ref (D 2), I 3, I a3, .ref (D 30)]) [] σ c s Q := by
  refine T_ua3_r0 (d := d + 6) X (show inr a3 by omega) (fun ls σ1 D1 N1 F1 A1 c1 s1 X1 S1 E1 l0 l1 l3 e1 b1 => ?_) (fun z σ1 D1 N1 F1 A1 c1 s1 X1 S1 E1 q => absurd q (by decide))
  have hg0 : g 0 = true := X1.2.2.1
  refine w_callk rfl (fun rec => rinvv rfl rfl (X1.1.obj 0 (by decide +kernel) hg0 rfl) rec) rfl (T_the_tag (d := d + 2) X1 (fun g2 σ2 D2 N2 F2 A2 c2 s2 X2 S2 K2 K0 hj hle => ⟨rfl, ?_⟩))
  have e2 : F2 27 1 = 0 := by rw [((K2 27 (by decide +kernel) hg0).2 (by decide)).2.2]; exact e1
  have b2 : F2 27 2 = 0 := by rw [((K2 27 (by decide +kernel) hg0).2 (by decide)).2.2]; exact b1
  have d0 : D2 0 = D1 0 := (K2 0 (by decide +kernel) hg0).1
  have d1 : D2 2 = D1 2 := (K2 2 (by decide +kernel) hg0).1
  have E12 : EQD [(2, 1), (4, 1), (6, 1), (8, 1), (11, 1), (0, 18), (25, 1)] [3, 5, 7, 9, 12, 10, 29, 30, 32, 26] [] [] D N F A D2 N2 F2 A2 := EQD_tr (EQD_sub (by decide) E1) (KEP_EQ K2 K0 hg0 (by decide +kernel))
  have hs : sc (A2 3) 0 (F2 2 1) = sc (A 3) 0 (F 2 1) := by rw [E12.2.1 3 (by decide), E12.1 (2, 1) (by decide)]
  refine T_ub3_r0 (d := d + 1) X2 hj (by rw [d0]; exact l0) (by rw [d1]; exact l1) l3 (show inr a3 by omega) e2 b2 h3 (fun z σ3 D3 N3 F3 A3 c3 s3 X3 S3 E3 zr b3 hR => ?_)
  rw [hs] at hR
  exact k z g2 σ3 D3 N3 F3 A3 c3 s3 X3 (STP_trans (STP_tr0 S1 S2) S3) zr hle (EQD_tr (EQD_sub (by decide) E12) (EQD_sub (by decide) E3)) b3 hR
theorem T_ur3_r1 {Dc : DcS} {g : Nat → Bool} {σ : rS} {D N : Nat → Nat} {F : hF} {A : hA} {d c s : Nat} {Q : wQ} (X : PHI Dc g σ D N F A) {a3 : Int} (h3 : 0 ≤ a3 ∧ a3 ≤ 65536) (k : ∀ (z : Int) (gₚ : Nat → Bool) (σₚ : rS) (Dₚ Nₚ : Nat → Nat) (Fₚ : hF) (Aₚ : hA) (cₚ sₚ : Nat), PHI Dc gₚ σₚ Dₚ Nₚ Fₚ Aₚ → STP g σ D N A c s gₚ σₚ Dₚ Nₚ Aₚ cₚ sₚ → inr z → (∀ j, g j = true → gₚ j = true) → EQD [(2, 1), (4, 1), (6, 1), (8, 1), (11, 1), (0, 18), (25, 1)] [3, 5, 7, 9, 12, 10, 29, 30, 32, 26] [] [] D N F A Dₚ Nₚ Fₚ Aₚ → Fₚ 27 2 = 0 → RDQ 3 (sc (A 5) 0 (F 4 1)) [] DCE a3 z (Fₚ 0 17) (sc (Aₚ 28) 0 (Fₚ 27 1)) → Q (some (I z)) σₚ cₚ sₚ) : Ew 32 (d + 7) 0 (rargs 0 [.ref (D 0), .ref (D 4), I 3, I a3, .ref (D 30)]) [] σ c s Q := by
  refine T_ua3_r1 (d := d + 6) X (show inr a3 by omega) (fun ls σ1 D1 N1 F1 A1 c1 s1 X1 S1 E1 l0 l1 l3 e1 b1 => ?_) (fun z σ1 D1 N1 F1 A1 c1 s1 X1 S1 E1 q => absurd q (by decide))
  have hg0 : g 0 = true := X1.2.2.1
  refine w_callk rfl (fun rec => rinvv rfl rfl (X1.1.obj 0 (by decide +kernel) hg0 rfl) rec) rfl (T_the_tag (d := d + 2) X1 (fun g2 σ2 D2 N2 F2 A2 c2 s2 X2 S2 K2 K0 hj hle => ⟨rfl, ?_⟩))
  have e2 : F2 27 1 = 0 := by rw [((K2 27 (by decide +kernel) hg0).2 (by decide)).2.2]; exact e1
  have b2 : F2 27 2 = 0 := by rw [((K2 27 (by decide +kernel) hg0).2 (by decide)).2.2]; exact b1
  have d0 : D2 0 = D1 0 := (K2 0 (by decide +kernel) hg0).1
  have d1 : D2 4 = D1 4 := (K2 4 (by decide +kernel) hg0).1
  have E12 : EQD [(2, 1), (4, 1), (6, 1), (8, 1), (11, 1), (0, 18), (25, 1)] [3, 5, 7, 9, 12, 10, 29, 30, 32, 26] [] [] D N F A D2 N2 F2 A2 := EQD_tr (EQD_sub (by decide) E1) (KEP_EQ K2 K0 hg0 (by decide +kernel))
  have hs : sc (A2 5) 0 (F2 4 1) = sc (A 5) 0 (F 4 1) := by rw [E12.2.1 5 (by decide), E12.1 (4, 1) (by decide)]
  refine T_ub3_r1 (d := d + 1) X2 hj (by rw [d0]; exact l0) (by rw [d1]; exact l1) l3 (show inr a3 by omega) e2 b2 h3 (fun z σ3 D3 N3 F3 A3 c3 s3 X3 S3 E3 zr b3 hR => ?_)
  rw [hs] at hR
  exact k z g2 σ3 D3 N3 F3 A3 c3 s3 X3 (STP_trans (STP_tr0 S1 S2) S3) zr hle (EQD_tr (EQD_sub (by decide) E12) (EQD_sub (by decide) E3)) b3 hR
theorem T_ur3_r2 {Dc : DcS} {g : Nat → Bool} {σ : rS} {D N : Nat → Nat} {F : hF} {A : hA} {d c s : Nat} {Q : wQ} (X : PHI Dc g σ D N F A) {a3 : Int} (h3 : 0 ≤ a3 ∧ a3 ≤ 65536) (k : ∀ (z : Int) (gₚ : Nat → Bool) (σₚ : rS) (Dₚ Nₚ : Nat → Nat) (Fₚ : hF) (Aₚ : hA) (cₚ sₚ : Nat), PHI Dc gₚ σₚ Dₚ Nₚ Fₚ Aₚ → STP g σ D N A c s gₚ σₚ Dₚ Nₚ Aₚ cₚ sₚ → inr z → (∀ j, g j = true → gₚ j = true) → EQD [(2, 1), (4, 1), (6, 1), (8, 1), (11, 1), (0, 18), (25, 1)] [3, 5, 7, 9, 12, 10, 29, 30, 32, 26] [] [] D N F A Dₚ Nₚ Fₚ Aₚ → Fₚ 27 2 = 0 → RDQ 3 (sc (A 7) 0 (F 6 1)) [] DCE a3 z (Fₚ 0 17) (sc (Aₚ 28) 0 (Fₚ 27 1)) → Q (some (I z)) σₚ cₚ sₚ) : Ew 32 (d + 7) 0 (rargs 0 [.ref (D 0), .ref (D 6), I 3, I a3, .ref (D 30)]) [] σ c s Q := by
  refine T_ua3_r2 (d := d + 6) X (show inr a3 by omega) (fun ls σ1 D1 N1 F1 A1 c1 s1 X1 S1 E1 l0 l1 l3 e1 b1 => ?_) (fun z σ1 D1 N1 F1 A1 c1 s1 X1 S1 E1 q => absurd q (by decide))
  have hg0 : g 0 = true := X1.2.2.1
  refine w_callk rfl (fun rec => rinvv rfl rfl (X1.1.obj 0 (by decide +kernel) hg0 rfl) rec) rfl (T_the_tag (d := d + 2) X1 (fun g2 σ2 D2 N2 F2 A2 c2 s2 X2 S2 K2 K0 hj hle => ⟨rfl, ?_⟩))
  have e2 : F2 27 1 = 0 := by rw [((K2 27 (by decide +kernel) hg0).2 (by decide)).2.2]; exact e1
  have b2 : F2 27 2 = 0 := by rw [((K2 27 (by decide +kernel) hg0).2 (by decide)).2.2]; exact b1
  have d0 : D2 0 = D1 0 := (K2 0 (by decide +kernel) hg0).1
  have d1 : D2 6 = D1 6 := (K2 6 (by decide +kernel) hg0).1
  have E12 : EQD [(2, 1), (4, 1), (6, 1), (8, 1), (11, 1), (0, 18), (25, 1)] [3, 5, 7, 9, 12, 10, 29, 30, 32, 26] [] [] D N F A D2 N2 F2 A2 := EQD_tr (EQD_sub (by decide) E1) (KEP_EQ K2 K0 hg0 (by decide +kernel))
  have hs : sc (A2 7) 0 (F2 6 1) = sc (A 7) 0 (F 6 1) := by rw [E12.2.1 7 (by decide), E12.1 (6, 1) (by decide)]
  refine T_ub3_r2 (d := d + 1) X2 hj (by rw [d0]; exact l0) (by rw [d1]; exact l1) l3 (show inr a3 by omega) e2 b2 h3 (fun z σ3 D3 N3 F3 A3 c3 s3 X3 S3 E3 zr b3 hR => ?_)
  rw [hs] at hR
  exact k z g2 σ3 D3 N3 F3 A3 c3 s3 X3 (STP_trans (STP_tr0 S1 S2) S3) zr hle (EQD_tr (EQD_sub (by decide) E12) (EQD_sub (by decide) E3)) b3 hR
theorem T_ur3_r3 {Dc : DcS} {g : Nat → Bool} {σ : rS} {D N : Nat → Nat} {F : hF} {A : hA} {d c s : Nat} {Q : wQ} (X : PHI Dc g σ D N F A) {a3 : Int} (h3 : 0 ≤ a3 ∧ a3 ≤ 65536) (k : ∀ (z : Int) (gₚ : Nat → Bool) (σₚ : rS) (Dₚ Nₚ : Nat → Nat) (Fₚ : hF) (Aₚ : hA) (cₚ sₚ : Nat), PHI Dc gₚ σₚ Dₚ Nₚ Fₚ Aₚ → STP g σ D N A c s gₚ σₚ Dₚ Nₚ Aₚ cₚ sₚ → inr z → (∀ j, g j = true → gₚ j = true) → EQD [(2, 1), (4, 1), (6, 1), (8, 1), (11, 1), (0, 18), (25, 1)] [3, 5, 7, 9, 12, 10, 29, 30, 32, 26] [] [] D N F A Dₚ Nₚ Fₚ Aₚ → Fₚ 27 2 = 0 → RDQ 3 (sc (A 9) 0 (F 8 1)) [] DCE a3 z (Fₚ 0 17) (sc (Aₚ 28) 0 (Fₚ 27 1)) → Q (some (I z)) σₚ cₚ sₚ) : Ew 32 (d + 7) 0 (rargs 0 [.ref (D 0), .ref (D 8), I 3, I a3, .ref (D 30)]) [] σ c s Q := by
  refine T_ua3_r3 (d := d + 6) X (show inr a3 by omega) (fun ls σ1 D1 N1 F1 A1 c1 s1 X1 S1 E1 l0 l1 l3 e1 b1 => ?_) (fun z σ1 D1 N1 F1 A1 c1 s1 X1 S1 E1 q => absurd q (by decide))
  have hg0 : g 0 = true := X1.2.2.1
  refine w_callk rfl (fun rec => rinvv rfl rfl (X1.1.obj 0 (by decide +kernel) hg0 rfl) rec) rfl (T_the_tag (d := d + 2) X1 (fun g2 σ2 D2 N2 F2 A2 c2 s2 X2 S2 K2 K0 hj hle => ⟨rfl, ?_⟩))
  have e2 : F2 27 1 = 0 := by rw [((K2 27 (by decide +kernel) hg0).2 (by decide)).2.2]; exact e1
  have b2 : F2 27 2 = 0 := by rw [((K2 27 (by decide +kernel) hg0).2 (by decide)).2.2]; exact b1
  have d0 : D2 0 = D1 0 := (K2 0 (by decide +kernel) hg0).1
  have d1 : D2 8 = D1 8 := (K2 8 (by decide +kernel) hg0).1
  have E12 : EQD [(2, 1), (4, 1), (6, 1), (8, 1), (11, 1), (0, 18), (25, 1)] [3, 5, 7, 9, 12, 10, 29, 30, 32, 26] [] [] D N F A D2 N2 F2 A2 := EQD_tr (EQD_sub (by decide) E1) (KEP_EQ K2 K0 hg0 (by decide +kernel))
  have hs : sc (A2 9) 0 (F2 8 1) = sc (A 9) 0 (F 8 1) := by rw [E12.2.1 9 (by decide), E12.1 (8, 1) (by decide)]
  refine T_ub3_r3 (d := d + 1) X2 hj (by rw [d0]; exact l0) (by rw [d1]; exact l1) l3 (show inr a3 by omega) e2 b2 h3 (fun z σ3 D3 N3 F3 A3 c3 s3 X3 S3 E3 zr b3 hR => ?_)
  rw [hs] at hR
  exact k z g2 σ3 D3 N3 F3 A3 c3 s3 X3 (STP_trans (STP_tr0 S1 S2) S3) zr hle (EQD_tr (EQD_sub (by decide) E12) (EQD_sub (by decide) E3)) b3 hR
theorem T_ur3_w {Dc : DcS} {g : Nat → Bool} {σ : rS} {D N : Nat → Nat} {F : hF} {A : hA} {d c s : Nat} {Q : wQ} (X : PHI Dc g σ D N F A) {a3 : Int} (h3 : 0 ≤ a3 ∧ a3 ≤ 65536) (k : ∀ (z : Int) (gₚ : Nat → Bool) (σₚ : rS) (Dₚ Nₚ : Nat → Nat) (Fₚ : hF) (Aₚ : hA) (cₚ sₚ : Nat), PHI Dc gₚ σₚ Dₚ Nₚ Fₚ Aₚ → STP g σ D N A c s gₚ σₚ Dₚ Nₚ Aₚ cₚ sₚ → inr z → (∀ j, g j = true → gₚ j = true) → EQD [(2, 1), (4, 1), (6, 1), (8, 1), (11, 1), (0, 18), (25, 1)] [3, 5, 7, 9, 12, 10, 29, 30, 32, 26] [] [] D N F A Dₚ Nₚ Fₚ Aₚ → Fₚ 27 2 = 0 → RDQ 3 (sc (A 26) 0 (F 25 1)) [] DCE a3 z (Fₚ 0 17) (sc (Aₚ 28) 0 (Fₚ 27 1)) → (g 5 = true → Aₚ 199 = A 199) → Dₚ 2 = D 2 → Dₚ 4 = D 4 → Dₚ 6 = D 6 → Dₚ 8 = D 8 → Q (some (I z)) σₚ cₚ sₚ) : Ew 32 (d + 7) 0 (rargs 0 [.ref (D 0), .ref (D 25), I 3, I a3, .ref (D 31)]) [] σ c s Q := by
  refine T_ua3_w (d := d + 6) X (show inr a3 by omega) (fun ls σ1 D1 N1 F1 A1 c1 s1 X1 S1 E1 l0 l1 l3 e1 b1 pk1 r0 r1 r2 r3 => ?_) (fun z σ1 D1 N1 F1 A1 c1 s1 X1 S1 E1 q => absurd q (by decide))
  have hg0 : g 0 = true := X1.2.2.1
  refine w_callk rfl (fun rec => rinvv rfl rfl (X1.1.obj 0 (by decide +kernel) hg0 rfl) rec) rfl (T_the_tag (d := d + 2) X1 (fun g2 σ2 D2 N2 F2 A2 c2 s2 X2 S2 K2 K0 hj hle => ⟨rfl, ?_⟩))
  have e2 : F2 27 1 = 0 := by rw [((K2 27 (by decide +kernel) hg0).2 (by decide)).2.2]; exact e1
  have b2 : F2 27 2 = 0 := by rw [((K2 27 (by decide +kernel) hg0).2 (by decide)).2.2]; exact b1
  have d0 : D2 0 = D1 0 := (K2 0 (by decide +kernel) hg0).1
  have d1 : D2 25 = D1 25 := (K2 25 (by decide +kernel) hg0).1
  have E12 : EQD [(2, 1), (4, 1), (6, 1), (8, 1), (11, 1), (0, 18), (25, 1)] [3, 5, 7, 9, 12, 10, 29, 30, 32, 26] [] [] D N F A D2 N2 F2 A2 := EQD_tr (EQD_sub (by decide) E1) (KEP_EQ K2 K0 hg0 (by decide +kernel))
  have hs : sc (A2 26) 0 (F2 25 1) = sc (A 26) 0 (F 25 1) := by rw [E12.2.1 26 (by decide), E12.1 (25, 1) (by decide)]
  refine T_ub3_w (d := d + 1) X2 hj (by rw [d0]; exact l0) (by rw [d1]; exact l1) l3 (show inr a3 by omega) e2 b2 h3 (fun z σ3 D3 N3 F3 A3 c3 s3 X3 S3 E3 zr b3 hR pk3 t0 t1 t2 t3 => ?_)
  rw [hs] at hR
  exact k z g2 σ3 D3 N3 F3 A3 c3 s3 X3 (STP_trans (STP_tr0 S1 S2) S3) zr hle (EQD_tr (EQD_sub (by decide) E12) (EQD_sub (by decide) E3)) b3 hR (fun h5 => pk3.trans (((K2 199 (by decide +kernel) h5).2 (by decide)).2.1.trans pk1)) (by have a := (K2 2 (by decide +kernel) hg0).1; omega) (by have a := (K2 4 (by decide +kernel) hg0).1; omega) (by have a := (K2 6 (by decide +kernel) hg0).1; omega) (by have a := (K2 8 (by decide +kernel) hg0).1; omega)


end
section
/-! W4s.ur -/
theorem T_ur4_r0 {Dc : DcS} {g : Nat → Bool} {σ : rS} {D N : Nat → Nat} {F : hF} {A : hA} {d c s : Nat} {Q : wQ} (X : PHI Dc g σ D N F A) {a3 : Int} (h3 : 0 ≤ a3 ∧ a3 ≤ 65536) (k : ∀ (z : Int) (gₚ : Nat → Bool) (σₚ : rS) (Dₚ Nₚ : Nat → Nat) (Fₚ : hF) (Aₚ : hA) (cₚ sₚ : Nat), PHI Dc gₚ σₚ Dₚ Nₚ Fₚ Aₚ → STP g σ D N A c s gₚ σₚ Dₚ Nₚ Aₚ cₚ sₚ → inr z → (∀ j, g j = true → gₚ j = true) → EQD [(2, 1), (4, 1), (6, 1), (8, 1), (11, 1), (0, 18), (25, 1)] [3, 5, 7, 9, 12, 10, 29, 32, 26] [] [] D N F A Dₚ Nₚ Fₚ Aₚ → Fₚ 27 2 = 0 → RDQ 4 (sc (A 3) 0 (F 2 1)) [] Dc a3 z (Fₚ 0 17) (sc (Aₚ 28) 0 (Fₚ 27 1)) → CN5 (RDS (ap (sc (A 3) 0 (F 2 1))) ((sc (A 3) 0 (F 2 1)).length : Int) a3 Dc) (Aₚ 30 0, Aₚ 30 1, Aₚ 30 2, Aₚ 30 3, Aₚ 30 4) → 0 ≤ (RDS (ap (sc (A 3) 0 (F 2 1))) ((sc (A 3) 0 (F 2 1)).length : Int) a3 Dc).1 → Q (some (I z)) σₚ cₚ sₚ) : Ew 32 (d + 7) 0 (rargs 0 [.ref (D 0), .ref (D 2), I 4, I a3, .ref (D 30)]) [] σ c s Q := by
  refine T_ua4_r0 (d := d + 6) X (show inr a3 by omega) (fun ls σ1 D1 N1 F1 A1 c1 s1 X1 S1 E1 l0 l1 l3 l4 e1 b1 => ?_) (fun z σ1 D1 N1 F1 A1 c1 s1 X1 S1 E1 q => absurd q (by decide))
  have hg0 : g 0 = true := X1.2.2.1
  refine w_callk rfl (fun rec => rinvv rfl rfl (X1.1.obj 0 (by decide +kernel) hg0 rfl) rec) rfl (T_the_unp (d := d + 2) X1 (fun g2 σ2 D2 N2 F2 A2 c2 s2 X2 S2 K2 K0 hj hle => ⟨rfl, ?_⟩))
  have e2 : F2 27 1 = 0 := by rw [((K2 27 (by decide +kernel) hg0).2 (by decide)).2.2]; exact e1
  have b2 : F2 27 2 = 0 := by rw [((K2 27 (by decide +kernel) hg0).2 (by decide)).2.2]; exact b1
  have d0 : D2 0 = D1 0 := (K2 0 (by decide +kernel) hg0).1
  have d1 : D2 2 = D1 2 := (K2 2 (by decide +kernel) hg0).1
  have d4 : D2 30 = D1 30 := (K2 30 (by decide +kernel) hg0).1
  have E12 : EQD [(2, 1), (4, 1), (6, 1), (8, 1), (11, 1), (0, 18), (25, 1)] [3, 5, 7, 9, 12, 10, 29, 30, 32, 26] [] [] D N F A D2 N2 F2 A2 := EQD_tr (EQD_sub (by decide) E1) (KEP_EQ K2 K0 hg0 (by decide +kernel))
  have hs : sc (A2 3) 0 (F2 2 1) = sc (A 3) 0 (F 2 1) := by rw [E12.2.1 3 (by decide), E12.1 (2, 1) (by decide)]
  have hg4 : g2 4 = true := X2.2.2.2.2.2.2.1.2.2.2.2 hj
  cases h7 : g2 7 with
  | false =>
    refine T_ub4n_r0 (d := d + 0) X2 hg4 hj h7 (by rw [d0]; exact l0) (by rw [d1]; exact l1) l3 (by rw [d4]; exact l4) (show inr a3 by omega) e2 b2 h3 (fun z σ3 D3 N3 F3 A3 c3 s3 X3 S3 E3 zr b3 hR hC h3c hN => ?_)
    rw [hs] at hR hC hN
    rw [← h3c] at hC
    exact k z g2 σ3 D3 N3 F3 A3 c3 s3 X3 (STP_trans (STP_tr0 S1 S2) S3) zr hle (EQD_tr (EQD_sub (by decide) E12) (EQD_sub (by decide) E3)) b3 hR hC hN
  | true =>
    refine T_ub4d_r0 (d := d + 0) X2 hg4 hj h7 (by rw [d0]; exact l0) (by rw [d1]; exact l1) l3 (by rw [d4]; exact l4) (show inr a3 by omega) e2 b2 h3 (fun z σ3 D3 N3 F3 A3 c3 s3 X3 S3 E3 zr b3 hR hC h3c hN => ?_)
    rw [hs] at hR hC hN
    rw [← h3c] at hC
    exact k z g2 σ3 D3 N3 F3 A3 c3 s3 X3 (STP_trans (STP_tr0 S1 S2) S3) zr hle (EQD_tr (EQD_sub (by decide) E12) (EQD_sub (by decide) E3)) b3 hR hC hN
theorem T_ur4_r1 {Dc : DcS} {g : Nat → Bool} {σ : rS} {D N : Nat → Nat} {F : hF} {A : hA} {d c s : Nat} {Q : wQ} (X : PHI Dc g σ D N F A) {a3 : Int} (h3 : 0 ≤ a3 ∧ a3 ≤ 65536) (k : ∀ (z : Int) (gₚ : Nat → Bool) (σₚ : rS) (Dₚ Nₚ : Nat → Nat) (Fₚ : hF) (Aₚ : hA) (cₚ sₚ : Nat), PHI Dc gₚ σₚ Dₚ Nₚ Fₚ Aₚ → STP g σ D N A c s gₚ σₚ Dₚ Nₚ Aₚ cₚ sₚ → inr z → (∀ j, g j = true → gₚ j = true) → EQD [(2, 1), (4, 1), (6, 1), (8, 1), (11, 1), (0, 18), (25, 1)] [3, 5, 7, 9, 12, 10, 29, 32, 26] [] [] D N F A Dₚ Nₚ Fₚ Aₚ → Fₚ 27 2 = 0 → RDQ 4 (sc (A 5) 0 (F 4 1)) [] Dc a3 z (Fₚ 0 17) (sc (Aₚ 28) 0 (Fₚ 27 1)) → CN5 (RDS (ap (sc (A 5) 0 (F 4 1))) ((sc (A 5) 0 (F 4 1)).length : Int) a3 Dc) (Aₚ 30 0, Aₚ 30 1, Aₚ 30 2, Aₚ 30 3, Aₚ 30 4) → 0 ≤ (RDS (ap (sc (A 5) 0 (F 4 1))) ((sc (A 5) 0 (F 4 1)).length : Int) a3 Dc).1 → Q (some (I z)) σₚ cₚ sₚ) : Ew 32 (d + 7) 0 (rargs 0 [.ref (D 0), .ref (D 4), I 4, I a3, .ref (D 30)]) [] σ c s Q := by
  refine T_ua4_r1 (d := d + 6) X (show inr a3 by omega) (fun ls σ1 D1 N1 F1 A1 c1 s1 X1 S1 E1 l0 l1 l3 l4 e1 b1 => ?_) (fun z σ1 D1 N1 F1 A1 c1 s1 X1 S1 E1 q => absurd q (by decide))
  have hg0 : g 0 = true := X1.2.2.1
  refine w_callk rfl (fun rec => rinvv rfl rfl (X1.1.obj 0 (by decide +kernel) hg0 rfl) rec) rfl (T_the_unp (d := d + 2) X1 (fun g2 σ2 D2 N2 F2 A2 c2 s2 X2 S2 K2 K0 hj hle => ⟨rfl, ?_⟩))
  have e2 : F2 27 1 = 0 := by rw [((K2 27 (by decide +kernel) hg0).2 (by decide)).2.2]; exact e1
  have b2 : F2 27 2 = 0 := by rw [((K2 27 (by decide +kernel) hg0).2 (by decide)).2.2]; exact b1
  have d0 : D2 0 = D1 0 := (K2 0 (by decide +kernel) hg0).1
  have d1 : D2 4 = D1 4 := (K2 4 (by decide +kernel) hg0).1
  have d4 : D2 30 = D1 30 := (K2 30 (by decide +kernel) hg0).1
  have E12 : EQD [(2, 1), (4, 1), (6, 1), (8, 1), (11, 1), (0, 18), (25, 1)] [3, 5, 7, 9, 12, 10, 29, 30, 32, 26] [] [] D N F A D2 N2 F2 A2 := EQD_tr (EQD_sub (by decide) E1) (KEP_EQ K2 K0 hg0 (by decide +kernel))
  have hs : sc (A2 5) 0 (F2 4 1) = sc (A 5) 0 (F 4 1) := by rw [E12.2.1 5 (by decide), E12.1 (4, 1) (by decide)]
  have hg4 : g2 4 = true := X2.2.2.2.2.2.2.1.2.2.2.2 hj
  cases h7 : g2 7 with
  | false =>
    refine T_ub4n_r1 (d := d + 0) X2 hg4 hj h7 (by rw [d0]; exact l0) (by rw [d1]; exact l1) l3 (by rw [d4]; exact l4) (show inr a3 by omega) e2 b2 h3 (fun z σ3 D3 N3 F3 A3 c3 s3 X3 S3 E3 zr b3 hR hC h3c hN => ?_)
    rw [hs] at hR hC hN
    rw [← h3c] at hC
    exact k z g2 σ3 D3 N3 F3 A3 c3 s3 X3 (STP_trans (STP_tr0 S1 S2) S3) zr hle (EQD_tr (EQD_sub (by decide) E12) (EQD_sub (by decide) E3)) b3 hR hC hN
  | true =>
    refine T_ub4d_r1 (d := d + 0) X2 hg4 hj h7 (by rw [d0]; exact l0) (by rw [d1]; exact l1) l3 (by rw [d4]; exact l4) (show inr a3 by omega) e2 b2 h3 (fun z σ3 D3 N3 F3 A3 c3 s3 X3 S3 E3 zr b3 hR hC h3c hN => ?_)
    rw [hs] at hR hC hN
    rw [← h3c] at hC
    exact k z g2 σ3 D3 N3 F3 A3 c3 s3 X3 (STP_trans (STP_tr0 S1 S2) S3) zr hle (EQD_tr (EQD_sub (by decide) E12) (EQD_sub (by decide) E3)) b3 hR hC hN
theorem T_ur4_r2 {Dc : DcS} {g : Nat → Bool} {σ : rS} {D N : Nat → Nat} {F : hF} {A : hA} {d c s : Nat} {Q : wQ} (X : PHI Dc g σ D N F A) {a3 : Int} (h3 : 0 ≤ a3 ∧ a3 ≤ 65536) (k : ∀ (z : Int) (gₚ : Nat → Bool) (σₚ : rS) (Dₚ Nₚ : Nat → Nat) (Fₚ : hF) (Aₚ : hA) (cₚ sₚ : Nat), PHI Dc gₚ σₚ Dₚ Nₚ Fₚ Aₚ → STP g σ D N A c s gₚ σₚ Dₚ Nₚ Aₚ cₚ sₚ → inr z → (∀ j, g j = true → gₚ j = true) → EQD [(2, 1), (4, 1), (6, 1), (8, 1), (11, 1), (0, 18), (25, 1)] [3, 5, 7, 9, 12, 10, 29, 32, 26] [] [] D N F A Dₚ Nₚ Fₚ Aₚ → Fₚ 27 2 = 0 → RDQ 4 (sc (A 7) 0 (F 6 1)) [] Dc a3 z (Fₚ 0 17) (sc (Aₚ 28) 0 (Fₚ 27 1)) → CN5 (RDS (ap (sc (A 7) 0 (F 6 1))) ((sc (A 7) 0 (F 6 1)).length : Int) a3 Dc) (Aₚ 30 0, Aₚ 30 1, Aₚ 30 2, Aₚ 30 3, Aₚ 30 4) → 0 ≤ (RDS (ap (sc (A 7) 0 (F 6 1))) ((sc (A 7) 0 (F 6 1)).length : Int) a3 Dc).1 → Q (some (I z)) σₚ cₚ sₚ) : Ew 32 (d + 7) 0 (rargs 0 [.ref (D 0), .ref (D 6), I 4, I a3, .ref (D 30)]) [] σ c s Q := by
  refine T_ua4_r2 (d := d + 6) X (show inr a3 by omega) (fun ls σ1 D1 N1 F1 A1 c1 s1 X1 S1 E1 l0 l1 l3 l4 e1 b1 => ?_) (fun z σ1 D1 N1 F1 A1 c1 s1 X1 S1 E1 q => absurd q (by decide))
  have hg0 : g 0 = true := X1.2.2.1
  refine w_callk rfl (fun rec => rinvv rfl rfl (X1.1.obj 0 (by decide +kernel) hg0 rfl) rec) rfl (T_the_unp (d := d + 2) X1 (fun g2 σ2 D2 N2 F2 A2 c2 s2 X2 S2 K2 K0 hj hle => ⟨rfl, ?_⟩))
  have e2 : F2 27 1 = 0 := by rw [((K2 27 (by decide +kernel) hg0).2 (by decide)).2.2]; exact e1
  have b2 : F2 27 2 = 0 := by rw [((K2 27 (by decide +kernel) hg0).2 (by decide)).2.2]; exact b1
  have d0 : D2 0 = D1 0 := (K2 0 (by decide +kernel) hg0).1
  have d1 : D2 6 = D1 6 := (K2 6 (by decide +kernel) hg0).1
  have d4 : D2 30 = D1 30 := (K2 30 (by decide +kernel) hg0).1
  have E12 : EQD [(2, 1), (4, 1), (6, 1), (8, 1), (11, 1), (0, 18), (25, 1)] [3, 5, 7, 9, 12, 10, 29, 30, 32, 26] [] [] D N F A D2 N2 F2 A2 := EQD_tr (EQD_sub (by decide) E1) (KEP_EQ K2 K0 hg0 (by decide +kernel))
  have hs : sc (A2 7) 0 (F2 6 1) = sc (A 7) 0 (F 6 1) := by rw [E12.2.1 7 (by decide), E12.1 (6, 1) (by decide)]
  have hg4 : g2 4 = true := X2.2.2.2.2.2.2.1.2.2.2.2 hj
  cases h7 : g2 7 with
  | false =>
    refine T_ub4n_r2 (d := d + 0) X2 hg4 hj h7 (by rw [d0]; exact l0) (by rw [d1]; exact l1) l3 (by rw [d4]; exact l4) (show inr a3 by omega) e2 b2 h3 (fun z σ3 D3 N3 F3 A3 c3 s3 X3 S3 E3 zr b3 hR hC h3c hN => ?_)
    rw [hs] at hR hC hN
    rw [← h3c] at hC
    exact k z g2 σ3 D3 N3 F3 A3 c3 s3 X3 (STP_trans (STP_tr0 S1 S2) S3) zr hle (EQD_tr (EQD_sub (by decide) E12) (EQD_sub (by decide) E3)) b3 hR hC hN
  | true =>
    refine T_ub4d_r2 (d := d + 0) X2 hg4 hj h7 (by rw [d0]; exact l0) (by rw [d1]; exact l1) l3 (by rw [d4]; exact l4) (show inr a3 by omega) e2 b2 h3 (fun z σ3 D3 N3 F3 A3 c3 s3 X3 S3 E3 zr b3 hR hC h3c hN => ?_)
    rw [hs] at hR hC hN
    rw [← h3c] at hC
    exact k z g2 σ3 D3 N3 F3 A3 c3 s3 X3 (STP_trans (STP_tr0 S1 S2) S3) zr hle (EQD_tr (EQD_sub (by decide) E12) (EQD_sub (by decide) E3)) b3 hR hC hN
theorem T_ur4_r3 {Dc : DcS} {g : Nat → Bool} {σ : rS} {D N : Nat → Nat} {F : hF} {A : hA} {d c s : Nat} {Q : wQ} (X : PHI Dc g σ D N F A) {a3 : Int} (h3 : 0 ≤ a3 ∧ a3 ≤ 65536) (k : ∀ (z : Int) (gₚ : Nat → Bool) (σₚ : rS) (Dₚ Nₚ : Nat → Nat) (Fₚ : hF) (Aₚ : hA) (cₚ sₚ : Nat), PHI Dc gₚ σₚ Dₚ Nₚ Fₚ Aₚ → STP g σ D N A c s gₚ σₚ Dₚ Nₚ Aₚ cₚ sₚ → inr z → (∀ j, g j = true → gₚ j = true) → EQD [(2, 1), (4, 1), (6, 1), (8, 1), (11, 1), (0, 18), (25, 1)] [3, 5, 7, 9, 12, 10, 29, 32, 26] [] [] D N F A Dₚ Nₚ Fₚ Aₚ → Fₚ 27 2 = 0 → RDQ 4 (sc (A 9) 0 (F 8 1)) [] Dc a3 z (Fₚ 0 17) (sc (Aₚ 28) 0 (Fₚ 27 1)) → CN5 (RDS (ap (sc (A 9) 0 (F 8 1))) ((sc (A 9) 0 (F 8 1)).length : Int) a3 Dc) (Aₚ 30 0, Aₚ 30 1, Aₚ 30 2, Aₚ 30 3, Aₚ 30 4) → 0 ≤ (RDS (ap (sc (A 9) 0 (F 8 1))) ((sc (A 9) 0 (F 8 1)).length : Int) a3 Dc).1 → Q (some (I z)) σₚ cₚ sₚ) : Ew 32 (d + 7) 0 (rargs 0 [.ref (D 0), .ref (D 8), I 4, I a3, .ref (D 30)]) [] σ c s Q := by
  refine T_ua4_r3 (d := d + 6) X (show inr a3 by omega) (fun ls σ1 D1 N1 F1 A1 c1 s1 X1 S1 E1 l0 l1 l3 l4 e1 b1 => ?_) (fun z σ1 D1 N1 F1 A1 c1 s1 X1 S1 E1 q => absurd q (by decide))
  have hg0 : g 0 = true := X1.2.2.1
  refine w_callk rfl (fun rec => rinvv rfl rfl (X1.1.obj 0 (by decide +kernel) hg0 rfl) rec) rfl (T_the_unp (d := d + 2) X1 (fun g2 σ2 D2 N2 F2 A2 c2 s2 X2 S2 K2 K0 hj hle => ⟨rfl, ?_⟩))
  have e2 : F2 27 1 = 0 := by rw [((K2 27 (by decide +kernel) hg0).2 (by decide)).2.2]; exact e1
  have b2 : F2 27 2 = 0 := by rw [((K2 27 (by decide +kernel) hg0).2 (by decide)).2.2]; exact b1
  have d0 : D2 0 = D1 0 := (K2 0 (by decide +kernel) hg0).1
  have d1 : D2 8 = D1 8 := (K2 8 (by decide +kernel) hg0).1
  have d4 : D2 30 = D1 30 := (K2 30 (by decide +kernel) hg0).1
  have E12 : EQD [(2, 1), (4, 1), (6, 1), (8, 1), (11, 1), (0, 18), (25, 1)] [3, 5, 7, 9, 12, 10, 29, 30, 32, 26] [] [] D N F A D2 N2 F2 A2 := EQD_tr (EQD_sub (by decide) E1) (KEP_EQ K2 K0 hg0 (by decide +kernel))
  have hs : sc (A2 9) 0 (F2 8 1) = sc (A 9) 0 (F 8 1) := by rw [E12.2.1 9 (by decide), E12.1 (8, 1) (by decide)]
  have hg4 : g2 4 = true := X2.2.2.2.2.2.2.1.2.2.2.2 hj
  cases h7 : g2 7 with
  | false =>
    refine T_ub4n_r3 (d := d + 0) X2 hg4 hj h7 (by rw [d0]; exact l0) (by rw [d1]; exact l1) l3 (by rw [d4]; exact l4) (show inr a3 by omega) e2 b2 h3 (fun z σ3 D3 N3 F3 A3 c3 s3 X3 S3 E3 zr b3 hR hC h3c hN => ?_)
    rw [hs] at hR hC hN
    rw [← h3c] at hC
    exact k z g2 σ3 D3 N3 F3 A3 c3 s3 X3 (STP_trans (STP_tr0 S1 S2) S3) zr hle (EQD_tr (EQD_sub (by decide) E12) (EQD_sub (by decide) E3)) b3 hR hC hN
  | true =>
    refine T_ub4d_r3 (d := d + 0) X2 hg4 hj h7 (by rw [d0]; exact l0) (by rw [d1]; exact l1) l3 (by rw [d4]; exact l4) (show inr a3 by omega) e2 b2 h3 (fun z σ3 D3 N3 F3 A3 c3 s3 X3 S3 E3 zr b3 hR hC h3c hN => ?_)
    rw [hs] at hR hC hN
    rw [← h3c] at hC
    exact k z g2 σ3 D3 N3 F3 A3 c3 s3 X3 (STP_trans (STP_tr0 S1 S2) S3) zr hle (EQD_tr (EQD_sub (by decide) E12) (EQD_sub (by decide) E3)) b3 hR hC hN
theorem T_ur4_w {Dc : DcS} {g : Nat → Bool} {σ : rS} {D N : Nat → Nat} {F : hF} {A : hA} {d c s : Nat} {Q : wQ} (X : PHI Dc g σ D N F A) {a3 : Int} (h3 : 0 ≤ a3 ∧ a3 ≤ 65536) (k : ∀ (z : Int) (gₚ : Nat → Bool) (σₚ : rS) (Dₚ Nₚ : Nat → Nat) (Fₚ : hF) (Aₚ : hA) (cₚ sₚ : Nat), PHI Dc gₚ σₚ Dₚ Nₚ Fₚ Aₚ → STP g σ D N A c s gₚ σₚ Dₚ Nₚ Aₚ cₚ sₚ → inr z → (∀ j, g j = true → gₚ j = true) → EQD [(2, 1), (4, 1), (6, 1), (8, 1), (11, 1), (0, 18), (25, 1)] [3, 5, 7, 9, 12, 10, 29, 30, 32, 26] [] [] D N F A Dₚ Nₚ Fₚ Aₚ → Fₚ 27 2 = 0 → RDQ 4 (sc (A 26) 0 (F 25 1)) [] Dc a3 z (Fₚ 0 17) (sc (Aₚ 28) 0 (Fₚ 27 1)) → CN5 (RDS (ap (sc (A 26) 0 (F 25 1))) ((sc (A 26) 0 (F 25 1)).length : Int) a3 Dc) (Aₚ 31 0, Aₚ 31 1, Aₚ 31 2, Aₚ 31 3, Aₚ 31 4) → 0 ≤ (RDS (ap (sc (A 26) 0 (F 25 1))) ((sc (A 26) 0 (F 25 1)).length : Int) a3 Dc).1 → (g 5 = true → Aₚ 199 = A 199) → Dₚ 2 = D 2 → Dₚ 4 = D 4 → Dₚ 6 = D 6 → Dₚ 8 = D 8 → Q (some (I z)) σₚ cₚ sₚ) : Ew 32 (d + 7) 0 (rargs 0 [.ref (D 0), .ref (D 25), I 4, I a3, .ref (D 31)]) [] σ c s Q := by
  refine T_ua4_w (d := d + 6) X (show inr a3 by omega) (fun ls σ1 D1 N1 F1 A1 c1 s1 X1 S1 E1 l0 l1 l3 l4 e1 b1 pk1 r0 r1 r2 r3 => ?_) (fun z σ1 D1 N1 F1 A1 c1 s1 X1 S1 E1 q => absurd q (by decide))
  have hg0 : g 0 = true := X1.2.2.1
  refine w_callk rfl (fun rec => rinvv rfl rfl (X1.1.obj 0 (by decide +kernel) hg0 rfl) rec) rfl (T_the_unp (d := d + 2) X1 (fun g2 σ2 D2 N2 F2 A2 c2 s2 X2 S2 K2 K0 hj hle => ⟨rfl, ?_⟩))
  have e2 : F2 27 1 = 0 := by rw [((K2 27 (by decide +kernel) hg0).2 (by decide)).2.2]; exact e1
  have b2 : F2 27 2 = 0 := by rw [((K2 27 (by decide +kernel) hg0).2 (by decide)).2.2]; exact b1
  have d0 : D2 0 = D1 0 := (K2 0 (by decide +kernel) hg0).1
  have d1 : D2 25 = D1 25 := (K2 25 (by decide +kernel) hg0).1
  have d4 : D2 31 = D1 31 := (K2 31 (by decide +kernel) hg0).1
  have E12 : EQD [(2, 1), (4, 1), (6, 1), (8, 1), (11, 1), (0, 18), (25, 1)] [3, 5, 7, 9, 12, 10, 29, 30, 32, 26] [] [] D N F A D2 N2 F2 A2 := EQD_tr (EQD_sub (by decide) E1) (KEP_EQ K2 K0 hg0 (by decide +kernel))
  have hs : sc (A2 26) 0 (F2 25 1) = sc (A 26) 0 (F 25 1) := by rw [E12.2.1 26 (by decide), E12.1 (25, 1) (by decide)]
  have hg4 : g2 4 = true := X2.2.2.2.2.2.2.1.2.2.2.2 hj
  cases h7 : g2 7 with
  | false =>
    refine T_ub4n_w (d := d + 0) X2 hg4 hj h7 (by rw [d0]; exact l0) (by rw [d1]; exact l1) l3 (by rw [d4]; exact l4) (show inr a3 by omega) e2 b2 h3 (fun z σ3 D3 N3 F3 A3 c3 s3 X3 S3 E3 zr b3 hR hC h3c hN pk3 t0 t1 t2 t3 => ?_)
    rw [hs] at hR hC hN
    rw [← h3c] at hC
    exact k z g2 σ3 D3 N3 F3 A3 c3 s3 X3 (STP_trans (STP_tr0 S1 S2) S3) zr hle (EQD_tr (EQD_sub (by decide) E12) (EQD_sub (by decide) E3)) b3 hR hC hN (fun h5 => pk3.trans (((K2 199 (by decide +kernel) h5).2 (by decide)).2.1.trans pk1)) (by have a := (K2 2 (by decide +kernel) hg0).1; omega) (by have a := (K2 4 (by decide +kernel) hg0).1; omega) (by have a := (K2 6 (by decide +kernel) hg0).1; omega) (by have a := (K2 8 (by decide +kernel) hg0).1; omega)
  | true =>
    refine T_ub4d_w (d := d + 0) X2 hg4 hj h7 (by rw [d0]; exact l0) (by rw [d1]; exact l1) l3 (by rw [d4]; exact l4) (show inr a3 by omega) e2 b2 h3 (fun z σ3 D3 N3 F3 A3 c3 s3 X3 S3 E3 zr b3 hR hC h3c hN pk3 t0 t1 t2 t3 => ?_)
    rw [hs] at hR hC hN
    rw [← h3c] at hC
    exact k z g2 σ3 D3 N3 F3 A3 c3 s3 X3 (STP_trans (STP_tr0 S1 S2) S3) zr hle (EQD_tr (EQD_sub (by decide) E12) (EQD_sub (by decide) E3)) b3 hR hC hN (fun h5 => pk3.trans (((K2 199 (by decide +kernel) h5).2 (by decide)).2.1.trans pk1)) (by have a := (K2 2 (by decide +kernel) hg0).1; omega) (by have a := (K2 4 (by decide +kernel) hg0).1; omega) (by have a := (K2 6 (by decide +kernel) hg0).1; omega) (by have a := (K2 8 (by decide +kernel) hg0).1; omega)


end
section
/-! W5.rd -/
def ι_reada0 : List Nat := [0, 1, 2, 3, 4, 5, 6, 7, 8, 9, 30]
theorem vs_reada0 : VS VPH V18_c20_vA ι_reada0 := VS_of (by decide +kernel)
set_option maxRecDepth 20000 in
theorem T_reada0 {Dc : DcS} {g : Nat → Bool} {σ : rS} {D N : Nat → Nat} {F : hF} {A : hA} {d c s : Nat} {Q : wQ} (X : PHI Dc g σ D N F A)  {a1 a3 a4 : Int}  (h0 : inr a1) (h2 : inr a3) (h3 : inr a4)  (hc54 : ∀ (tc54_1 : Int) (tc54_4 : Int) (tc54_5 : Int) (ls : rO) (σₚ : rS) (Dₚ Nₚ : Nat → Nat) (Fₚ : hF) (Aₚ : hA) (cₚ sₚ : Nat), PHI Dc g σₚ Dₚ Nₚ Fₚ Aₚ → STP g σ D N A c s g σₚ Dₚ Nₚ Aₚ cₚ sₚ → EQD [(2, 1), (4, 1), (6, 1), (8, 1), (11, 1), (0, 18), (25, 1)] [3, 5, 7, 9, 12, 10, 29, 30, 32, 26] [] [] D N F A Dₚ Nₚ Fₚ Aₚ → (0 ≤ tc54_1 ∧ tc54_1 ≤ 3) → (0 ≤ tc54_4 ∧ tc54_4 ≤ 4) → (0 ≤ tc54_5 ∧ tc54_5 ≤ 65536) → (tc54_1 = a1 ∧ tc54_4 = a3 ∧ tc54_5 = a4) → Ew 18 (d + 1) 54 ls [.ref (Dₚ 30), I tc54_5, I tc54_4, .ref (Dₚ 2), .ref (Dₚ 0), I tc54_1, .ref (Dₚ 0)] σₚ cₚ sₚ Q) (k : ∀ (z : Int) (σₚ : rS) (Dₚ Nₚ : Nat → Nat) (Fₚ : hF) (Aₚ : hA) (cₚ sₚ : Nat), PHI Dc g σₚ Dₚ Nₚ Fₚ Aₚ → STP g σ D N A c s g σₚ Dₚ Nₚ Aₚ cₚ sₚ → EQD [(2, 1), (4, 1), (6, 1), (8, 1), (11, 1), (0, 18), (25, 1)] [3, 5, 7, 9, 12, 10, 29, 30, 32, 26] [] [] D N F A Dₚ Nₚ Fₚ Aₚ → (z = -50 ∧ (a1 < 0 ∨ 3 < a1 ∨ a3 < 0 ∨ 4 < a3 ∨ a4 < 0 ∨ 65536 < a4)) → Q (some (I z)) σₚ cₚ sₚ) : Ew 18 (d + 1) 0 (rargs 0 [.ref (D 0), I a1, I 0, I a3, I a4]) [] σ c s Q := by
  obtain ⟨HX, HT, hg0, hPF, hAB, hNZ, hGI, hI0, hI1, hI2, hI3, hI4, hI5, hI6, hI7, hI8, hI9⟩ := X
  have hset := SETI_f hI0.2.2.2.2.2.2.2.2.2.2.2.2.2.2.2.2.2.2.2.2.2.2.2.2
  have hJ0 := hI0
  unfold INV0 at hJ0
  obtain ⟨f0_0, f0_1, f0_2, f0_3, f0_4, f0_5, f0_6, f0_7, f0_8, f0_9, f0_10, f0_11, f0_12, f0_13, f0_14, f0_15, f0_16, f0_17, f0_18, f0_19, f0_20, f0_21, f0_22, f0_23, f0_24⟩ := hJ0
  have hp : ∀ x, x < (V18_c20_vA).length → SPH g (ι_reada0.getD x 0) = true := SPH_of (gs := [0]) (by intro j hj; simp at hj; subst hj; exact hg0) rfl (by decide +kernel)
  refine C18_c20_vA (D := pul ι_reada0 D) (N := pul ι_reada0 N) (F := pul ι_reada0 F) (A := pul ι_reada0 A) (HWs_sub HX vs_reada0 hp) (show F 0 0 = (D 1 : Int) from hPF (0, 0, 0, 1) (List.mem_of_getElem? (i := 0) rfl) hg0 hg0) (show A 1 0 = (D 2 : Int) from hPF (1, 1, 0, 2) (List.mem_of_getElem? (i := 1) rfl) hg0 hg0) (show F 2 0 = (D 3 : Int) from hPF (0, 2, 0, 3) (List.mem_of_getElem? (i := 2) rfl) hg0 hg0) (show A 1 1 = (D 4 : Int) from hPF (1, 1, 1, 4) (List.mem_of_getElem? (i := 3) rfl) hg0 hg0) (show F 4 0 = (D 5 : Int) from hPF (0, 4, 0, 5) (List.mem_of_getElem? (i := 4) rfl) hg0 hg0) (show A 1 2 = (D 6 : Int) from hPF (1, 1, 2, 6) (List.mem_of_getElem? (i := 5) rfl) hg0 hg0) (show F 6 0 = (D 7 : Int) from hPF (0, 6, 0, 7) (List.mem_of_getElem? (i := 6) rfl) hg0 hg0) (show A 1 3 = (D 8 : Int) from hPF (1, 1, 3, 8) (List.mem_of_getElem? (i := 7) rfl) hg0 hg0) (show F 8 0 = (D 9 : Int) from hPF (0, 8, 0, 9) (List.mem_of_getElem? (i := 8) rfl) hg0 hg0) (show F 0 14 = (D 30 : Int) from hPF (0, 0, 14, 30) (List.mem_of_getElem? (i := 29) rfl) hg0 hg0) (N 1 : Int) rfl (N 3 : Int) rfl (N 5 : Int) rfl (N 7 : Int) rfl (N 9 : Int) rfl (N 30 : Int) rfl (F 2 1) rfl (F 4 1) rfl (F 6 1) rfl (F 8 1) rfl    (show inr (a1) by first | assumption | omega) (show inr (0) by first | assumption | omega) (show inr (a3) by first | assumption | omega) (show inr (a4) by first | assumption | omega) (show ((N 1 : Int)) = 4 by first | assumption | omega) (show 0 ≤ (F 2 1) ∧ (F 2 1) ≤ ((N 3 : Int)) ∧ ((N 3 : Int)) ≤ 65536 by first | assumption | omega) (show 0 ≤ (F 4 1) ∧ (F 4 1) ≤ ((N 5 : Int)) ∧ ((N 5 : Int)) ≤ 65536 by first | assumption | omega) (show 0 ≤ (F 6 1) ∧ (F 6 1) ≤ ((N 7 : Int)) ∧ ((N 7 : Int)) ≤ 65536 by first | assumption | omega) (show 0 ≤ (F 8 1) ∧ (F 8 1) ≤ ((N 9 : Int)) ∧ ((N 9 : Int)) ≤ 65536 by first | assumption | omega) (fun tc54_1 tc54_4 tc54_5 ls σ F_c54 A_c54   H O hS_c54 hA_c54     jc54_0 jc54_1 jc54_2 jc54_3 jc54_4 jc54_5 jc54_6 => ?_) (fun z σₚ Fₚ Aₚ Hₚ O sf sa q0 q1 => ?_)
  · skip
    have sd : SD [] (pul ι_reada0 D) (pul ι_reada0 D) := SD_refl
    have sn : SD [] (pul ι_reada0 N) (pul ι_reada0 N) := SD_refl
    refine hc54 tc54_1 tc54_4 tc54_5  _ _ (glu ι_reada0 D (pul ι_reada0 D)) (glu ι_reada0 N (pul ι_reada0 N)) (glu ι_reada0 F F_c54) (glu ι_reada0 A A_c54) _ _ ⟨HWs_call HX VPH_3 vs_reada0 hp H O, STC_call HT HX vs_reada0 hp O, hg0, PFI_glue (dl := []) hPF hS_c54 hA_c54 sd (by decide +kernel) (rexc_of (l := []) (by decide +kernel) ?_), ABS_glue hAB hS_c54 (by decide +kernel), NZ_glue hNZ vs_reada0 hp sn (by decide +kernel), hGI, ?_, ?_, ?_, ?_, ?_, ?_, ?_, ?_, ?_, ?_⟩ ⟨(STP0_call (STY_call vs_reada0 hp O) (sd 0 rfl) (RM_call vs_reada0 O)), unt1_of (x := 10) (by decide +kernel) (fun p hp => funext (hA_c54 p hp))⟩ (EQD_glue hS_c54 hA_c54 sd sn (by decide +kernel))  (show 0 ≤ tc54_1 ∧ tc54_1 ≤ 3 by first | assumption | omega | rfl) (show 0 ≤ tc54_4 ∧ tc54_4 ≤ 4 by first | assumption | omega | rfl) (show 0 ≤ tc54_5 ∧ tc54_5 ≤ 65536 by first | assumption | omega | rfl) (show tc54_1 = a1 ∧ tc54_4 = a3 ∧ tc54_5 = a4 by first | assumption | omega | rfl)
    · intro e he h1 h2
      cases he
    · exact INV0_eq (EQD_glue hS_c54 hA_c54 sd sn (by decide +kernel)) hI0
    · exact fun h => INV1_eq (EQD_glue hS_c54 hA_c54 sd sn (by decide +kernel)) (hI1 h)
    · exact fun h => INV2_eq (EQD_glue hS_c54 hA_c54 sd sn (by decide +kernel)) (hI2 h)
    · exact fun h => INV3_eq (EQD_glue hS_c54 hA_c54 sd sn (by decide +kernel)) (hI3 h)
    · exact fun h => INV4_eq (EQD_glue hS_c54 hA_c54 sd sn (by decide +kernel)) (hI4 h)
    · exact fun h => INV5_eq (EQD_glue hS_c54 hA_c54 sd sn (by decide +kernel)) (hI5 h)
    · exact fun h => INV6_eq (EQD_glue hS_c54 hA_c54 sd sn (by decide +kernel)) (hI6 h)
    · exact fun h => INV7_eq (EQD_glue hS_c54 hA_c54 sd sn (by decide +kernel)) (hI7 h)
    · exact fun h => INV8_eq (EQD_glue hS_c54 hA_c54 sd sn (by decide +kernel)) (hI8 h)
    · exact fun h => INV9_eq (EQD_glue hS_c54 hA_c54 sd sn (by decide +kernel)) (hI9 h)
  · skip
    have sd : SD [] (pul ι_reada0 D) (pul ι_reada0 D) := SD_refl
    have sn : SD [] (pul ι_reada0 N) (pul ι_reada0 N) := SD_refl
    refine k z _ (glu ι_reada0 D (pul ι_reada0 D)) (glu ι_reada0 N (pul ι_reada0 N)) (glu ι_reada0 F Fₚ) (glu ι_reada0 A Aₚ) _ _ ⟨HWs_call HX VPH_3 vs_reada0 hp Hₚ O, STC_call HT HX vs_reada0 hp O, hg0, PFI_glue (dl := []) hPF sf sa sd (by decide +kernel) (rexc_of (l := []) (by decide +kernel) ?_), ABS_glue hAB sf (by decide +kernel), NZ_glue hNZ vs_reada0 hp sn (by decide +kernel), hGI, ?_, ?_, ?_, ?_, ?_, ?_, ?_, ?_, ?_, ?_⟩ ⟨(STP0_call (STY_call vs_reada0 hp O) (sd 0 rfl) (RM_call vs_reada0 O)), unt1_of (x := 10) (by decide +kernel) (fun p hp => funext (sa p hp))⟩ (EQD_glue sf sa sd sn (by decide +kernel)) (show z = -50 ∧ (a1 < 0 ∨ 3 < a1 ∨ a3 < 0 ∨ 4 < a3 ∨ a4 < 0 ∨ 65536 < a4) by first | assumption | omega | rfl)
    · intro e he h1 h2
      cases he
    · exact INV0_eq (EQD_glue sf sa sd sn (by decide +kernel)) hI0
    · exact fun h => INV1_eq (EQD_glue sf sa sd sn (by decide +kernel)) (hI1 h)
    · exact fun h => INV2_eq (EQD_glue sf sa sd sn (by decide +kernel)) (hI2 h)
    · exact fun h => INV3_eq (EQD_glue sf sa sd sn (by decide +kernel)) (hI3 h)
    · exact fun h => INV4_eq (EQD_glue sf sa sd sn (by decide +kernel)) (hI4 h)
    · exact fun h => INV5_eq (EQD_glue sf sa sd sn (by decide +kernel)) (hI5 h)
    · exact fun h => INV6_eq (EQD_glue sf sa sd sn (by decide +kernel)) (hI6 h)
    · exact fun h => INV7_eq (EQD_glue sf sa sd sn (by decide +kernel)) (hI7 h)
    · exact fun h => INV8_eq (EQD_glue sf sa sd sn (by decide +kernel)) (hI8 h)
    · exact fun h => INV9_eq (EQD_glue sf sa sd sn (by decide +kernel)) (hI9 h)
def ι_reada1 : List Nat := [0, 1, 2, 3, 4, 5, 6, 7, 8, 9, 30]
theorem vs_reada1 : VS VPH V18_c21_vA ι_reada1 := VS_of (by decide +kernel)
set_option maxRecDepth 20000 in
theorem T_reada1 {Dc : DcS} {g : Nat → Bool} {σ : rS} {D N : Nat → Nat} {F : hF} {A : hA} {d c s : Nat} {Q : wQ} (X : PHI Dc g σ D N F A)  {a1 a3 a4 : Int}  (h0 : inr a1) (h2 : inr a3) (h3 : inr a4)  (hc54 : ∀ (tc54_1 : Int) (tc54_4 : Int) (tc54_5 : Int) (ls : rO) (σₚ : rS) (Dₚ Nₚ : Nat → Nat) (Fₚ : hF) (Aₚ : hA) (cₚ sₚ : Nat), PHI Dc g σₚ Dₚ Nₚ Fₚ Aₚ → STP g σ D N A c s g σₚ Dₚ Nₚ Aₚ cₚ sₚ → EQD [(2, 1), (4, 1), (6, 1), (8, 1), (11, 1), (0, 18), (25, 1)] [3, 5, 7, 9, 12, 10, 29, 30, 32, 26] [] [] D N F A Dₚ Nₚ Fₚ Aₚ → (0 ≤ tc54_1 ∧ tc54_1 ≤ 3) → (0 ≤ tc54_4 ∧ tc54_4 ≤ 4) → (0 ≤ tc54_5 ∧ tc54_5 ≤ 65536) → (tc54_1 = a1 ∧ tc54_4 = a3 ∧ tc54_5 = a4) → Ew 18 (d + 1) 54 ls [.ref (Dₚ 30), I tc54_5, I tc54_4, .ref (Dₚ 4), .ref (Dₚ 0), I tc54_1, .ref (Dₚ 0)] σₚ cₚ sₚ Q) (k : ∀ (z : Int) (σₚ : rS) (Dₚ Nₚ : Nat → Nat) (Fₚ : hF) (Aₚ : hA) (cₚ sₚ : Nat), PHI Dc g σₚ Dₚ Nₚ Fₚ Aₚ → STP g σ D N A c s g σₚ Dₚ Nₚ Aₚ cₚ sₚ → EQD [(2, 1), (4, 1), (6, 1), (8, 1), (11, 1), (0, 18), (25, 1)] [3, 5, 7, 9, 12, 10, 29, 30, 32, 26] [] [] D N F A Dₚ Nₚ Fₚ Aₚ → (z = -50 ∧ (a1 < 0 ∨ 3 < a1 ∨ a3 < 0 ∨ 4 < a3 ∨ a4 < 0 ∨ 65536 < a4)) → Q (some (I z)) σₚ cₚ sₚ) : Ew 18 (d + 1) 0 (rargs 0 [.ref (D 0), I a1, I 1, I a3, I a4]) [] σ c s Q := by
  obtain ⟨HX, HT, hg0, hPF, hAB, hNZ, hGI, hI0, hI1, hI2, hI3, hI4, hI5, hI6, hI7, hI8, hI9⟩ := X
  have hset := SETI_f hI0.2.2.2.2.2.2.2.2.2.2.2.2.2.2.2.2.2.2.2.2.2.2.2.2
  have hJ0 := hI0
  unfold INV0 at hJ0
  obtain ⟨f0_0, f0_1, f0_2, f0_3, f0_4, f0_5, f0_6, f0_7, f0_8, f0_9, f0_10, f0_11, f0_12, f0_13, f0_14, f0_15, f0_16, f0_17, f0_18, f0_19, f0_20, f0_21, f0_22, f0_23, f0_24⟩ := hJ0
  have hp : ∀ x, x < (V18_c21_vA).length → SPH g (ι_reada1.getD x 0) = true := SPH_of (gs := [0]) (by intro j hj; simp at hj; subst hj; exact hg0) rfl (by decide +kernel)
  refine C18_c21_vA (D := pul ι_reada1 D) (N := pul ι_reada1 N) (F := pul ι_reada1 F) (A := pul ι_reada1 A) (HWs_sub HX vs_reada1 hp) (show F 0 0 = (D 1 : Int) from hPF (0, 0, 0, 1) (List.mem_of_getElem? (i := 0) rfl) hg0 hg0) (show A 1 0 = (D 2 : Int) from hPF (1, 1, 0, 2) (List.mem_of_getElem? (i := 1) rfl) hg0 hg0) (show F 2 0 = (D 3 : Int) from hPF (0, 2, 0, 3) (List.mem_of_getElem? (i := 2) rfl) hg0 hg0) (show A 1 1 = (D 4 : Int) from hPF (1, 1, 1, 4) (List.mem_of_getElem? (i := 3) rfl) hg0 hg0) (show F 4 0 = (D 5 : Int) from hPF (0, 4, 0, 5) (List.mem_of_getElem? (i := 4) rfl) hg0 hg0) (show A 1 2 = (D 6 : Int) from hPF (1, 1, 2, 6) (List.mem_of_getElem? (i := 5) rfl) hg0 hg0) (show F 6 0 = (D 7 : Int) from hPF (0, 6, 0, 7) (List.mem_of_getElem? (i := 6) rfl) hg0 hg0) (show A 1 3 = (D 8 : Int) from hPF (1, 1, 3, 8) (List.mem_of_getElem? (i := 7) rfl) hg0 hg0) (show F 8 0 = (D 9 : Int) from hPF (0, 8, 0, 9) (List.mem_of_getElem? (i := 8) rfl) hg0 hg0) (show F 0 14 = (D 30 : Int) from hPF (0, 0, 14, 30) (List.mem_of_getElem? (i := 29) rfl) hg0 hg0) (N 1 : Int) rfl (N 3 : Int) rfl (N 5 : Int) rfl (N 7 : Int) rfl (N 9 : Int) rfl (N 30 : Int) rfl (F 2 1) rfl (F 4 1) rfl (F 6 1) rfl (F 8 1) rfl    (show inr (a1) by first | assumption | omega) (show inr (1) by first | assumption | omega) (show inr (a3) by first | assumption | omega) (show inr (a4) by first | assumption | omega) (show ((N 1 : Int)) = 4 by first | assumption | omega) (show 0 ≤ (F 2 1) ∧ (F 2 1) ≤ ((N 3 : Int)) ∧ ((N 3 : Int)) ≤ 65536 by first | assumption | omega) (show 0 ≤ (F 4 1) ∧ (F 4 1) ≤ ((N 5 : Int)) ∧ ((N 5 : Int)) ≤ 65536 by first | assumption | omega) (show 0 ≤ (F 6 1) ∧ (F 6 1) ≤ ((N 7 : Int)) ∧ ((N 7 : Int)) ≤ 65536 by first | assumption | omega) (show 0 ≤ (F 8 1) ∧ (F 8 1) ≤ ((N 9 : Int)) ∧ ((N 9 : Int)) ≤ 65536 by first | assumption | omega) (fun tc54_1 tc54_4 tc54_5 ls σ F_c54 A_c54   H O hS_c54 hA_c54     jc54_0 jc54_1 jc54_2 jc54_3 jc54_4 jc54_5 jc54_6 => ?_) (fun z σₚ Fₚ Aₚ Hₚ O sf sa q0 q1 => ?_)
  · skip
    have sd : SD [] (pul ι_reada1 D) (pul ι_reada1 D) := SD_refl
    have sn : SD [] (pul ι_reada1 N) (pul ι_reada1 N) := SD_refl
    refine hc54 tc54_1 tc54_4 tc54_5  _ _ (glu ι_reada1 D (pul ι_reada1 D)) (glu ι_reada1 N (pul ι_reada1 N)) (glu ι_reada1 F F_c54) (glu ι_reada1 A A_c54) _ _ ⟨HWs_call HX VPH_3 vs_reada1 hp H O, STC_call HT HX vs_reada1 hp O, hg0, PFI_glue (dl := []) hPF hS_c54 hA_c54 sd (by decide +kernel) (rexc_of (l := []) (by decide +kernel) ?_), ABS_glue hAB hS_c54 (by decide +kernel), NZ_glue hNZ vs_reada1 hp sn (by decide +kernel), hGI, ?_, ?_, ?_, ?_, ?_, ?_, ?_, ?_, ?_, ?_⟩ ⟨(STP0_call (STY_call vs_reada1 hp O) (sd 0 rfl) (RM_call vs_reada1 O)), unt1_of (x := 10) (by decide +kernel) (fun p hp => funext (hA_c54 p hp))⟩ (EQD_glue hS_c54 hA_c54 sd sn (by decide +kernel))  (show 0 ≤ tc54_1 ∧ tc54_1 ≤ 3 by first | assumption | omega | rfl) (show 0 ≤ tc54_4 ∧ tc54_4 ≤ 4 by first | assumption | omega | rfl) (show 0 ≤ tc54_5 ∧ tc54_5 ≤ 65536 by first | assumption | omega | rfl) (show tc54_1 = a1 ∧ tc54_4 = a3 ∧ tc54_5 = a4 by first | assumption | omega | rfl)
    · intro e he h1 h2
      cases he
    · exact INV0_eq (EQD_glue hS_c54 hA_c54 sd sn (by decide +kernel)) hI0
    · exact fun h => INV1_eq (EQD_glue hS_c54 hA_c54 sd sn (by decide +kernel)) (hI1 h)
    · exact fun h => INV2_eq (EQD_glue hS_c54 hA_c54 sd sn (by decide +kernel)) (hI2 h)
    · exact fun h => INV3_eq (EQD_glue hS_c54 hA_c54 sd sn (by decide +kernel)) (hI3 h)
    · exact fun h => INV4_eq (EQD_glue hS_c54 hA_c54 sd sn (by decide +kernel)) (hI4 h)
    · exact fun h => INV5_eq (EQD_glue hS_c54 hA_c54 sd sn (by decide +kernel)) (hI5 h)
    · exact fun h => INV6_eq (EQD_glue hS_c54 hA_c54 sd sn (by decide +kernel)) (hI6 h)
    · exact fun h => INV7_eq (EQD_glue hS_c54 hA_c54 sd sn (by decide +kernel)) (hI7 h)
    · exact fun h => INV8_eq (EQD_glue hS_c54 hA_c54 sd sn (by decide +kernel)) (hI8 h)
    · exact fun h => INV9_eq (EQD_glue hS_c54 hA_c54 sd sn (by decide +kernel)) (hI9 h)
  · skip
    have sd : SD [] (pul ι_reada1 D) (pul ι_reada1 D) := SD_refl
    have sn : SD [] (pul ι_reada1 N) (pul ι_reada1 N) := SD_refl
    refine k z _ (glu ι_reada1 D (pul ι_reada1 D)) (glu ι_reada1 N (pul ι_reada1 N)) (glu ι_reada1 F Fₚ) (glu ι_reada1 A Aₚ) _ _ ⟨HWs_call HX VPH_3 vs_reada1 hp Hₚ O, STC_call HT HX vs_reada1 hp O, hg0, PFI_glue (dl := []) hPF sf sa sd (by decide +kernel) (rexc_of (l := []) (by decide +kernel) ?_), ABS_glue hAB sf (by decide +kernel), NZ_glue hNZ vs_reada1 hp sn (by decide +kernel), hGI, ?_, ?_, ?_, ?_, ?_, ?_, ?_, ?_, ?_, ?_⟩ ⟨(STP0_call (STY_call vs_reada1 hp O) (sd 0 rfl) (RM_call vs_reada1 O)), unt1_of (x := 10) (by decide +kernel) (fun p hp => funext (sa p hp))⟩ (EQD_glue sf sa sd sn (by decide +kernel)) (show z = -50 ∧ (a1 < 0 ∨ 3 < a1 ∨ a3 < 0 ∨ 4 < a3 ∨ a4 < 0 ∨ 65536 < a4) by first | assumption | omega | rfl)
    · intro e he h1 h2
      cases he
    · exact INV0_eq (EQD_glue sf sa sd sn (by decide +kernel)) hI0
    · exact fun h => INV1_eq (EQD_glue sf sa sd sn (by decide +kernel)) (hI1 h)
    · exact fun h => INV2_eq (EQD_glue sf sa sd sn (by decide +kernel)) (hI2 h)
    · exact fun h => INV3_eq (EQD_glue sf sa sd sn (by decide +kernel)) (hI3 h)
    · exact fun h => INV4_eq (EQD_glue sf sa sd sn (by decide +kernel)) (hI4 h)
    · exact fun h => INV5_eq (EQD_glue sf sa sd sn (by decide +kernel)) (hI5 h)
    · exact fun h => INV6_eq (EQD_glue sf sa sd sn (by decide +kernel)) (hI6 h)
    · exact fun h => INV7_eq (EQD_glue sf sa sd sn (by decide +kernel)) (hI7 h)
    · exact fun h => INV8_eq (EQD_glue sf sa sd sn (by decide +kernel)) (hI8 h)
    · exact fun h => INV9_eq (EQD_glue sf sa sd sn (by decide +kernel)) (hI9 h)
def ι_reada2 : List Nat := [0, 1, 2, 3, 4, 5, 6, 7, 8, 9, 30]
theorem vs_reada2 : VS VPH V18_c22_vA ι_reada2 := VS_of (by decide +kernel)
set_option maxRecDepth 20000 in
theorem T_reada2 {Dc : DcS} {g : Nat → Bool} {σ : rS} {D N : Nat → Nat} {F : hF} {A : hA} {d c s : Nat} {Q : wQ} (X : PHI Dc g σ D N F A)  {a1 a3 a4 : Int}  (h0 : inr a1) (h2 : inr a3) (h3 : inr a4)  (hc54 : ∀ (tc54_1 : Int) (tc54_4 : Int) (tc54_5 : Int) (ls : rO) (σₚ : rS) (Dₚ Nₚ : Nat → Nat) (Fₚ : hF) (Aₚ : hA) (cₚ sₚ : Nat), PHI Dc g σₚ Dₚ Nₚ Fₚ Aₚ → STP g σ D N A c s g σₚ Dₚ Nₚ Aₚ cₚ sₚ → EQD [(2, 1), (4, 1), (6, 1), (8, 1), (11, 1), (0, 18), (25, 1)] [3, 5, 7, 9, 12, 10, 29, 30, 32, 26] [] [] D N F A Dₚ Nₚ Fₚ Aₚ → (0 ≤ tc54_1 ∧ tc54_1 ≤ 3) → (0 ≤ tc54_4 ∧ tc54_4 ≤ 4) → (0 ≤ tc54_5 ∧ tc54_5 ≤ 65536) → (tc54_1 = a1 ∧ tc54_4 = a3 ∧ tc54_5 = a4) → Ew 18 (d + 1) 54 ls [.ref (Dₚ 30), I tc54_5, I tc54_4, .ref (Dₚ 6), .ref (Dₚ 0), I tc54_1, .ref (Dₚ 0)] σₚ cₚ sₚ Q) (k : ∀ (z : Int) (σₚ : rS) (Dₚ Nₚ : Nat → Nat) (Fₚ : hF) (Aₚ : hA) (cₚ sₚ : Nat), PHI Dc g σₚ Dₚ Nₚ Fₚ Aₚ → STP g σ D N A c s g σₚ Dₚ Nₚ Aₚ cₚ sₚ → EQD [(2, 1), (4, 1), (6, 1), (8, 1), (11, 1), (0, 18), (25, 1)] [3, 5, 7, 9, 12, 10, 29, 30, 32, 26] [] [] D N F A Dₚ Nₚ Fₚ Aₚ → (z = -50 ∧ (a1 < 0 ∨ 3 < a1 ∨ a3 < 0 ∨ 4 < a3 ∨ a4 < 0 ∨ 65536 < a4)) → Q (some (I z)) σₚ cₚ sₚ) : Ew 18 (d + 1) 0 (rargs 0 [.ref (D 0), I a1, I 2, I a3, I a4]) [] σ c s Q := by
  obtain ⟨HX, HT, hg0, hPF, hAB, hNZ, hGI, hI0, hI1, hI2, hI3, hI4, hI5, hI6, hI7, hI8, hI9⟩ := X
  have hset := SETI_f hI0.2.2.2.2.2.2.2.2.2.2.2.2.2.2.2.2.2.2.2.2.2.2.2.2
  have hJ0 := hI0
  unfold INV0 at hJ0
  obtain ⟨f0_0, f0_1, f0_2, f0_3, f0_4, f0_5, f0_6, f0_7, f0_8, f0_9, f0_10, f0_11, f0_12, f0_13, f0_14, f0_15, f0_16, f0_17, f0_18, f0_19, f0_20, f0_21, f0_22, f0_23, f0_24⟩ := hJ0
  have hp : ∀ x, x < (V18_c22_vA).length → SPH g (ι_reada2.getD x 0) = true := SPH_of (gs := [0]) (by intro j hj; simp at hj; subst hj; exact hg0) rfl (by decide +kernel)
  refine C18_c22_vA (D := pul ι_reada2 D) (N := pul ι_reada2 N) (F := pul ι_reada2 F) (A := pul ι_reada2 A) (HWs_sub HX vs_reada2 hp) (show F 0 0 = (D 1 : Int) from hPF (0, 0, 0, 1) (List.mem_of_getElem? (i := 0) rfl) hg0 hg0) (show A 1 0 = (D 2 : Int) from hPF (1, 1, 0, 2) (List.mem_of_getElem? (i := 1) rfl) hg0 hg0) (show F 2 0 = (D 3 : Int) from hPF (0, 2, 0, 3) (List.mem_of_getElem? (i := 2) rfl) hg0 hg0) (show A 1 1 = (D 4 : Int) from hPF (1, 1, 1, 4) (List.mem_of_getElem? (i := 3) rfl) hg0 hg0) (show F 4 0 = (D 5 : Int) from hPF (0, 4, 0, 5) (List.mem_of_getElem? (i := 4) rfl) hg0 hg0) (show A 1 2 = (D 6 : Int) from hPF (1, 1, 2, 6) (List.mem_of_getElem? (i := 5) rfl) hg0 hg0) (show F 6 0 = (D 7 : Int) from hPF (0, 6, 0, 7) (List.mem_of_getElem? (i := 6) rfl) hg0 hg0) (show A 1 3 = (D 8 : Int) from hPF (1, 1, 3, 8) (List.mem_of_getElem? (i := 7) rfl) hg0 hg0) (show F 8 0 = (D 9 : Int) from hPF (0, 8, 0, 9) (List.mem_of_getElem? (i := 8) rfl) hg0 hg0) (show F 0 14 = (D 30 : Int) from hPF (0, 0, 14, 30) (List.mem_of_getElem? (i := 29) rfl) hg0 hg0) (N 1 : Int) rfl (N 3 : Int) rfl (N 5 : Int) rfl (N 7 : Int) rfl (N 9 : Int) rfl (N 30 : Int) rfl (F 2 1) rfl (F 4 1) rfl (F 6 1) rfl (F 8 1) rfl    (show inr (a1) by first | assumption | omega) (show inr (2) by first | assumption | omega) (show inr (a3) by first | assumption | omega) (show inr (a4) by first | assumption | omega) (show ((N 1 : Int)) = 4 by first | assumption | omega) (show 0 ≤ (F 2 1) ∧ (F 2 1) ≤ ((N 3 : Int)) ∧ ((N 3 : Int)) ≤ 65536 by first | assumption | omega) (show 0 ≤ (F 4 1) ∧ (F 4 1) ≤ ((N 5 : Int)) ∧ ((N 5 : Int)) ≤ 65536 by first | assumption | omega) (show 0 ≤ (F 6 1) ∧ (F 6 1) ≤ ((N 7 : Int)) ∧ ((N 7 : Int)) ≤ 65536 by first | assumption | omega) (show 0 ≤ (F 8 1) ∧ (F 8 1) ≤ ((N 9 : Int)) ∧ ((N 9 : Int)) ≤ 65536 by first | assumption | omega) (fun tc54_1 tc54_4 tc54_5 ls σ F_c54 A_c54   H O hS_c54 hA_c54     jc54_0 jc54_1 jc54_2 jc54_3 jc54_4 jc54_5 jc54_6 => ?_) (fun z σₚ Fₚ Aₚ Hₚ O sf sa q0 q1 => ?_)
  · skip
    have sd : SD [] (pul ι_reada2 D) (pul ι_reada2 D) := SD_refl
    have sn : SD [] (pul ι_reada2 N) (pul ι_reada2 N) := SD_refl
    refine hc54 tc54_1 tc54_4 tc54_5  _ _ (glu ι_reada2 D (pul ι_reada2 D)) (glu ι_reada2 N (pul ι_reada2 N)) (glu ι_reada2 F F_c54) (glu ι_reada2 A A_c54) _ _ ⟨HWs_call HX VPH_3 vs_reada2 hp H O, STC_call HT HX vs_reada2 hp O, hg0, PFI_glue (dl := []) hPF hS_c54 hA_c54 sd (by decide +kernel) (rexc_of (l := []) (by decide +kernel) ?_), ABS_glue hAB hS_c54 (by decide +kernel), NZ_glue hNZ vs_reada2 hp sn (by decide +kernel), hGI, ?_, ?_, ?_, ?_, ?_, ?_, ?_, ?_, ?_, ?_⟩ ⟨(STP0_call (STY_call vs_reada2 hp O) (sd 0 rfl) (RM_call vs_reada2 O)), unt1_of (x := 10) (by decide +kernel) (fun p hp => funext (hA_c54 p hp))⟩ (EQD_glue hS_c54 hA_c54 sd sn (by decide +kernel))  (show 0 ≤ tc54_1 ∧ tc54_1 ≤ 3 by first | assumption | omega | rfl) (show 0 ≤ tc54_4 ∧ tc54_4 ≤ 4 by first | assumption | omega | rfl) (show 0 ≤ tc54_5 ∧ tc54_5 ≤ 65536 by first | assumption | omega | rfl) (show tc54_1 = a1 ∧ tc54_4 = a3 ∧ tc54_5 = a4 by first | assumption | omega | rfl)
    · intro e he h1 h2
      cases he
    · exact INV0_eq (EQD_glue hS_c54 hA_c54 sd sn (by decide +kernel)) hI0
    · exact fun h => INV1_eq (EQD_glue hS_c54 hA_c54 sd sn (by decide +kernel)) (hI1 h)
    · exact fun h => INV2_eq (EQD_glue hS_c54 hA_c54 sd sn (by decide +kernel)) (hI2 h)
    · exact fun h => INV3_eq (EQD_glue hS_c54 hA_c54 sd sn (by decide +kernel)) (hI3 h)
    · exact fun h => INV4_eq (EQD_glue hS_c54 hA_c54 sd sn (by decide +kernel)) (hI4 h)
    · exact fun h => INV5_eq (EQD_glue hS_c54 hA_c54 sd sn (by decide +kernel)) (hI5 h)
    · exact fun h => INV6_eq (EQD_glue hS_c54 hA_c54 sd sn (by decide +kernel)) (hI6 h)
    · exact fun h => INV7_eq (EQD_glue hS_c54 hA_c54 sd sn (by decide +kernel)) (hI7 h)
    · exact fun h => INV8_eq (EQD_glue hS_c54 hA_c54 sd sn (by decide +kernel)) (hI8 h)
    · exact fun h => INV9_eq (EQD_glue hS_c54 hA_c54 sd sn (by decide +kernel)) (hI9 h)
  · skip
    have sd : SD [] (pul ι_reada2 D) (pul ι_reada2 D) := SD_refl
    have sn : SD [] (pul ι_reada2 N) (pul ι_reada2 N) := SD_refl
    refine k z _ (glu ι_reada2 D (pul ι_reada2 D)) (glu ι_reada2 N (pul ι_reada2 N)) (glu ι_reada2 F Fₚ) (glu ι_reada2 A Aₚ) _ _ ⟨HWs_call HX VPH_3 vs_reada2 hp Hₚ O, STC_call HT HX vs_reada2 hp O, hg0, PFI_glue (dl := []) hPF sf sa sd (by decide +kernel) (rexc_of (l := []) (by decide +kernel) ?_), ABS_glue hAB sf (by decide +kernel), NZ_glue hNZ vs_reada2 hp sn (by decide +kernel), hGI, ?_, ?_, ?_, ?_, ?_, ?_, ?_, ?_, ?_, ?_⟩ ⟨(STP0_call (STY_call vs_reada2 hp O) (sd 0 rfl) (RM_call vs_reada2 O)), unt1_of (x := 10) (by decide +kernel) (fun p hp => funext (sa p hp))⟩ (EQD_glue sf sa sd sn (by decide +kernel)) (show z = -50 ∧ (a1 < 0 ∨ 3 < a1 ∨ a3 < 0 ∨ 4 < a3 ∨ a4 < 0 ∨ 65536 < a4) by first | assumption | omega | rfl)
    · intro e he h1 h2
      cases he
    · exact INV0_eq (EQD_glue sf sa sd sn (by decide +kernel)) hI0
    · exact fun h => INV1_eq (EQD_glue sf sa sd sn (by decide +kernel)) (hI1 h)
    · exact fun h => INV2_eq (EQD_glue sf sa sd sn (by decide +kernel)) (hI2 h)
    · exact fun h => INV3_eq (EQD_glue sf sa sd sn (by decide +kernel)) (hI3 h)
    · exact fun h => INV4_eq (EQD_glue sf sa sd sn (by decide +kernel)) (hI4 h)
    · exact fun h => INV5_eq (EQD_glue sf sa sd sn (by decide +kernel)) (hI5 h)
    · exact fun h => INV6_eq (EQD_glue sf sa sd sn (by decide +kernel)) (hI6 h)
    · exact fun h => INV7_eq (EQD_glue sf sa sd sn (by decide +kernel)) (hI7 h)
    · exact fun h => INV8_eq (EQD_glue sf sa sd sn (by decide +kernel)) (hI8 h)
    · exact fun h => INV9_eq (EQD_glue sf sa sd sn (by decide +kernel)) (hI9 h)
def ι_reada3 : List Nat := [0, 1, 2, 3, 4, 5, 6, 7, 8, 9, 30]
theorem vs_reada3 : VS VPH V18_c23_vA ι_reada3 := VS_of (by decide +kernel)
set_option maxRecDepth 20000 in
theorem T_reada3 {Dc : DcS} {g : Nat → Bool} {σ : rS} {D N : Nat → Nat} {F : hF} {A : hA} {d c s : Nat} {Q : wQ} (X : PHI Dc g σ D N F A)  {a1 a3 a4 : Int}  (h0 : inr a1) (h2 : inr a3) (h3 : inr a4)  (hc54 : ∀ (tc54_1 : Int) (tc54_4 : Int) (tc54_5 : Int) (ls : rO) (σₚ : rS) (Dₚ Nₚ : Nat → Nat) (Fₚ : hF) (Aₚ : hA) (cₚ sₚ : Nat), PHI Dc g σₚ Dₚ Nₚ Fₚ Aₚ → STP g σ D N A c s g σₚ Dₚ Nₚ Aₚ cₚ sₚ → EQD [(2, 1), (4, 1), (6, 1), (8, 1), (11, 1), (0, 18), (25, 1)] [3, 5, 7, 9, 12, 10, 29, 30, 32, 26] [] [] D N F A Dₚ Nₚ Fₚ Aₚ → (0 ≤ tc54_1 ∧ tc54_1 ≤ 3) → (0 ≤ tc54_4 ∧ tc54_4 ≤ 4) → (0 ≤ tc54_5 ∧ tc54_5 ≤ 65536) → (tc54_1 = a1 ∧ tc54_4 = a3 ∧ tc54_5 = a4) → Ew 18 (d + 1) 54 ls [.ref (Dₚ 30), I tc54_5, I tc54_4, .ref (Dₚ 8), .ref (Dₚ 0), I tc54_1, .ref (Dₚ 0)] σₚ cₚ sₚ Q) (k : ∀ (z : Int) (σₚ : rS) (Dₚ Nₚ : Nat → Nat) (Fₚ : hF) (Aₚ : hA) (cₚ sₚ : Nat), PHI Dc g σₚ Dₚ Nₚ Fₚ Aₚ → STP g σ D N A c s g σₚ Dₚ Nₚ Aₚ cₚ sₚ → EQD [(2, 1), (4, 1), (6, 1), (8, 1), (11, 1), (0, 18), (25, 1)] [3, 5, 7, 9, 12, 10, 29, 30, 32, 26] [] [] D N F A Dₚ Nₚ Fₚ Aₚ → (z = -50 ∧ (a1 < 0 ∨ 3 < a1 ∨ a3 < 0 ∨ 4 < a3 ∨ a4 < 0 ∨ 65536 < a4)) → Q (some (I z)) σₚ cₚ sₚ) : Ew 18 (d + 1) 0 (rargs 0 [.ref (D 0), I a1, I 3, I a3, I a4]) [] σ c s Q := by
  obtain ⟨HX, HT, hg0, hPF, hAB, hNZ, hGI, hI0, hI1, hI2, hI3, hI4, hI5, hI6, hI7, hI8, hI9⟩ := X
  have hset := SETI_f hI0.2.2.2.2.2.2.2.2.2.2.2.2.2.2.2.2.2.2.2.2.2.2.2.2
  have hJ0 := hI0
  unfold INV0 at hJ0
  obtain ⟨f0_0, f0_1, f0_2, f0_3, f0_4, f0_5, f0_6, f0_7, f0_8, f0_9, f0_10, f0_11, f0_12, f0_13, f0_14, f0_15, f0_16, f0_17, f0_18, f0_19, f0_20, f0_21, f0_22, f0_23, f0_24⟩ := hJ0
  have hp : ∀ x, x < (V18_c23_vA).length → SPH g (ι_reada3.getD x 0) = true := SPH_of (gs := [0]) (by intro j hj; simp at hj; subst hj; exact hg0) rfl (by decide +kernel)
  refine C18_c23_vA (D := pul ι_reada3 D) (N := pul ι_reada3 N) (F := pul ι_reada3 F) (A := pul ι_reada3 A) (HWs_sub HX vs_reada3 hp) (show F 0 0 = (D 1 : Int) from hPF (0, 0, 0, 1) (List.mem_of_getElem? (i := 0) rfl) hg0 hg0) (show A 1 0 = (D 2 : Int) from hPF (1, 1, 0, 2) (List.mem_of_getElem? (i := 1) rfl) hg0 hg0) (show F 2 0 = (D 3 : Int) from hPF (0, 2, 0, 3) (List.mem_of_getElem? (i := 2) rfl) hg0 hg0) (show A 1 1 = (D 4 : Int) from hPF (1, 1, 1, 4) (List.mem_of_getElem? (i := 3) rfl) hg0 hg0) (show F 4 0 = (D 5 : Int) from hPF (0, 4, 0, 5) (List.mem_of_getElem? (i := 4) rfl) hg0 hg0) (show A 1 2 = (D 6 : Int) from hPF (1, 1, 2, 6) (List.mem_of_getElem? (i := 5) rfl) hg0 hg0) (show F 6 0 = (D 7 : Int) from hPF (0, 6, 0, 7) (List.mem_of_getElem? (i := 6) rfl) hg0 hg0) (show A 1 3 = (D 8 : Int) from hPF (1, 1, 3, 8) (List.mem_of_getElem? (i := 7) rfl) hg0 hg0) (show F 8 0 = (D 9 : Int) from hPF (0, 8, 0, 9) (List.mem_of_getElem? (i := 8) rfl) hg0 hg0) (show F 0 14 = (D 30 : Int) from hPF (0, 0, 14, 30) (List.mem_of_getElem? (i := 29) rfl) hg0 hg0) (N 1 : Int) rfl (N 3 : Int) rfl (N 5 : Int) rfl (N 7 : Int) rfl (N 9 : Int) rfl (N 30 : Int) rfl (F 2 1) rfl (F 4 1) rfl (F 6 1) rfl (F 8 1) rfl    (show inr (a1) by first | assumption | omega) (show inr (3) by first | assumption | omega) (show inr (a3) by first | assumption | omega) (show inr (a4) by first | assumption | omega) (show ((N 1 : Int)) = 4 by first | assumption | omega) (show 0 ≤ (F 2 1) ∧ (F 2 1) ≤ ((N 3 : Int)) ∧ ((N 3 : Int)) ≤ 65536 by first | assumption | omega) (show 0 ≤ (F 4 1) ∧ (F 4 1) ≤ ((N 5 : Int)) ∧ ((N 5 : Int)) ≤ 65536 by first | assumption | omega) (show 0 ≤ (F 6 1) ∧ (F 6 1) ≤ ((N 7 : Int)) ∧ ((N 7 : Int)) ≤ 65536 by first | assumption | omega) (show 0 ≤ (F 8 1) ∧ (F 8 1) ≤ ((N 9 : Int)) ∧ ((N 9 : Int)) ≤ 65536 by first | assumption | omega) (fun tc54_1 tc54_4 tc54_5 ls σ F_c54 A_c54   H O hS_c54 hA_c54     jc54_0 jc54_1 jc54_2 jc54_3 jc54_4 jc54_5 jc54_6 => ?_) (fun z σₚ Fₚ Aₚ Hₚ O sf sa q0 q1 => ?_)
  · skip
    have sd : SD [] (pul ι_reada3 D) (pul ι_reada3 D) := SD_refl
    have sn : SD [] (pul ι_reada3 N) (pul ι_reada3 N) := SD_refl
    refine hc54 tc54_1 tc54_4 tc54_5  _ _ (glu ι_reada3 D (pul ι_reada3 D)) (glu ι_reada3 N (pul ι_reada3 N)) (glu ι_reada3 F F_c54) (glu ι_reada3 A A_c54) _ _ ⟨HWs_call HX VPH_3 vs_reada3 hp H O, STC_call HT HX vs_reada3 hp O, hg0, PFI_glue (dl := []) hPF hS_c54 hA_c54 sd (by decide +kernel) (rexc_of (l := []) (by decide +kernel) ?_), ABS_glue hAB hS_c54 (by decide +kernel), NZ_glue hNZ vs_reada3 hp sn (by decide +kernel), hGI, ?_, ?_, ?_, ?_, ?_, ?_, ?_, ?_, ?_, ?_⟩ ⟨(STP0_call (STY_call vs_reada3 hp O) (sd 0 rfl) (RM_call vs_reada3 O)), unt1_of (x := 10) (by decide +kernel) (fun p hp => funext (hA_c54 p hp))⟩ (EQD_glue hS_c54 hA_c54 sd sn (by decide +kernel))  (show 0 ≤ tc54_1 ∧ tc54_1 ≤ 3 by first | assumption | omega | rfl) (show 0 ≤ tc54_4 ∧ tc54_4 ≤ 4 by first | assumption | omega | rfl) (show 0 ≤ tc54_5 ∧ tc54_5 ≤ 65536 by first | assumption | omega | rfl) (show tc54_1 = a1 ∧ tc54_4 = a3 ∧ tc54_5 = a4 by first | assumption | omega | rfl)
    · intro e he h1 h2
      cases he
    · exact INV0_eq (EQD_glue hS_c54 hA_c54 sd sn (by decide +kernel)) hI0
    · exact fun h => INV1_eq (EQD_glue hS_c54 hA_c54 sd sn (by decide +kernel)) (hI1 h)
    · exact fun h => INV2_eq (EQD_glue hS_c54 hA_c54 sd sn (by decide +kernel)) (hI2 h)
    · exact fun h => INV3_eq (EQD_glue hS_c54 hA_c54 sd sn (by decide +kernel)) (hI3 h)
    · exact fun h => INV4_eq (EQD_glue hS_c54 hA_c54 sd sn (by decide +kernel)) (hI4 h)
    · exact fun h => INV5_eq (EQD_glue hS_c54 hA_c54 sd sn (by decide +kernel)) (hI5 h)
    · exact fun h => INV6_eq (EQD_glue hS_c54 hA_c54 sd sn (by decide +kernel)) (hI6 h)
    · exact fun h => INV7_eq (EQD_glue hS_c54 hA_c54 sd sn (by decide +kernel)) (hI7 h)
    · exact fun h => INV8_eq (EQD_glue hS_c54 hA_c54 sd sn (by decide +kernel)) (hI8 h)
    · exact fun h => INV9_eq (EQD_glue hS_c54 hA_c54 sd sn (by decide +kernel)) (hI9 h)
  · skip
    have sd : SD [] (pul ι_reada3 D) (pul ι_reada3 D) := SD_refl
    have sn : SD [] (pul ι_reada3 N) (pul ι_reada3 N) := SD_refl
    refine k z _ (glu ι_reada3 D (pul ι_reada3 D)) (glu ι_reada3 N (pul ι_reada3 N)) (glu ι_reada3 F Fₚ) (glu ι_reada3 A Aₚ) _ _ ⟨HWs_call HX VPH_3 vs_reada3 hp Hₚ O, STC_call HT HX vs_reada3 hp O, hg0, PFI_glue (dl := []) hPF sf sa sd (by decide +kernel) (rexc_of (l := []) (by decide +kernel) ?_), ABS_glue hAB sf (by decide +kernel), NZ_glue hNZ vs_reada3 hp sn (by decide +kernel), hGI, ?_, ?_, ?_, ?_, ?_, ?_, ?_, ?_, ?_, ?_⟩ ⟨(STP0_call (STY_call vs_reada3 hp O) (sd 0 rfl) (RM_call vs_reada3 O)), unt1_of (x := 10) (by decide +kernel) (fun p hp => funext (sa p hp))⟩ (EQD_glue sf sa sd sn (by decide +kernel)) (show z = -50 ∧ (a1 < 0 ∨ 3 < a1 ∨ a3 < 0 ∨ 4 < a3 ∨ a4 < 0 ∨ 65536 < a4) by first | assumption | omega | rfl)
    · intro e he h1 h2
      cases he
    · exact INV0_eq (EQD_glue sf sa sd sn (by decide +kernel)) hI0
    · exact fun h => INV1_eq (EQD_glue sf sa sd sn (by decide +kernel)) (hI1 h)
    · exact fun h => INV2_eq (EQD_glue sf sa sd sn (by decide +kernel)) (hI2 h)
    · exact fun h => INV3_eq (EQD_glue sf sa sd sn (by decide +kernel)) (hI3 h)
    · exact fun h => INV4_eq (EQD_glue sf sa sd sn (by decide +kernel)) (hI4 h)
    · exact fun h => INV5_eq (EQD_glue sf sa sd sn (by decide +kernel)) (hI5 h)
    · exact fun h => INV6_eq (EQD_glue sf sa sd sn (by decide +kernel)) (hI6 h)
    · exact fun h => INV7_eq (EQD_glue sf sa sd sn (by decide +kernel)) (hI7 h)
    · exact fun h => INV8_eq (EQD_glue sf sa sd sn (by decide +kernel)) (hI8 h)
    · exact fun h => INV9_eq (EQD_glue sf sa sd sn (by decide +kernel)) (hI9 h)
def ι_readb : List Nat := [0, 1, 2, 3, 4, 5, 6, 7, 8, 9, 27, 28]
theorem vs_readb : VS VPH V18_vB ι_readb := VS_of (by decide +kernel)
set_option maxRecDepth 20000 in
theorem T_readb {Dc : DcS} {g : Nat → Bool} {σ : rS} {D N : Nat → Nat} {F : hF} {A : hA} {d c s : Nat} {Q : wQ} (X : PHI Dc g σ D N F A)  {y1 y2 : Int} {ls : rO}  (h0 : inr y1) (h1 : inr y2) (x_0 : 0 ≤ y1 ∧ y1 ≤ 3) (k : ∀ (z : Int) (σₚ : rS) (Dₚ Nₚ : Nat → Nat) (Fₚ : hF) (Aₚ : hA) (cₚ sₚ : Nat), PHI Dc g σₚ Dₚ Nₚ Fₚ Aₚ → STP g σ D N A c s g σₚ Dₚ Nₚ Aₚ cₚ sₚ → EQD [(11, 1), (25, 1)] [12, 10, 29, 30, 32, 26] [] [] D N F A Dₚ Nₚ Fₚ Aₚ → (z = y2) → ((Fₚ 0 18) = (F 0 17)) → (IMP (y1 = 0 ∧ 0 ≤ y2) (sc ((Aₚ 3)) 0 ((Fₚ 2 1)) = sc ((A 28)) 0 ((F 27 1)))) → (IMP (y1 = 1 ∧ 0 ≤ y2) (sc ((Aₚ 5)) 0 ((Fₚ 4 1)) = sc ((A 28)) 0 ((F 27 1)))) → (IMP (y1 = 2 ∧ 0 ≤ y2) (sc ((Aₚ 7)) 0 ((Fₚ 6 1)) = sc ((A 28)) 0 ((F 27 1)))) → (IMP (y1 = 3 ∧ 0 ≤ y2) (sc ((Aₚ 9)) 0 ((Fₚ 8 1)) = sc ((A 28)) 0 ((F 27 1)))) → (IMP (y1 ≠ 0 ∨ y2 < 0) (sc ((Aₚ 3)) 0 ((Fₚ 2 1)) = sc ((A 3)) 0 ((F 2 1)))) → (IMP (y1 ≠ 1 ∨ y2 < 0) (sc ((Aₚ 5)) 0 ((Fₚ 4 1)) = sc ((A 5)) 0 ((F 4 1)))) → (IMP (y1 ≠ 2 ∨ y2 < 0) (sc ((Aₚ 7)) 0 ((Fₚ 6 1)) = sc ((A 7)) 0 ((F 6 1)))) → (IMP (y1 ≠ 3 ∨ y2 < 0) (sc ((Aₚ 9)) 0 ((Fₚ 8 1)) = sc ((A 9)) 0 ((F 8 1)))) → Q (some (I z)) σₚ cₚ sₚ) : Ew 18 (d + 5) 57 ls [I y2, I y1, .ref (D 0)] σ c s Q := by
  obtain ⟨HX, HT, hg0, hPF, hAB, hNZ, hGI, hI0, hI1, hI2, hI3, hI4, hI5, hI6, hI7, hI8, hI9⟩ := X
  have hset := SETI_f hI0.2.2.2.2.2.2.2.2.2.2.2.2.2.2.2.2.2.2.2.2.2.2.2.2
  have hJ0 := hI0
  unfold INV0 at hJ0
  obtain ⟨f0_0, f0_1, f0_2, f0_3, f0_4, f0_5, f0_6, f0_7, f0_8, f0_9, f0_10, f0_11, f0_12, f0_13, f0_14, f0_15, f0_16, f0_17, f0_18, f0_19, f0_20, f0_21, f0_22, f0_23, f0_24⟩ := hJ0
  have hp : ∀ x, x < (V18_vB).length → SPH g (ι_readb.getD x 0) = true := SPH_of (gs := [0]) (by intro j hj; simp at hj; subst hj; exact hg0) rfl (by decide +kernel)
  refine C18_vB (D := pul ι_readb D) (N := pul ι_readb N) (F := pul ι_readb F) (A := pul ι_readb A) (HWs_sub HX vs_readb hp) (show F 0 0 = (D 1 : Int) from hPF (0, 0, 0, 1) (List.mem_of_getElem? (i := 0) rfl) hg0 hg0) (show A 1 0 = (D 2 : Int) from hPF (1, 1, 0, 2) (List.mem_of_getElem? (i := 1) rfl) hg0 hg0) (show F 2 0 = (D 3 : Int) from hPF (0, 2, 0, 3) (List.mem_of_getElem? (i := 2) rfl) hg0 hg0) (show A 1 1 = (D 4 : Int) from hPF (1, 1, 1, 4) (List.mem_of_getElem? (i := 3) rfl) hg0 hg0) (show F 4 0 = (D 5 : Int) from hPF (0, 4, 0, 5) (List.mem_of_getElem? (i := 4) rfl) hg0 hg0) (show A 1 2 = (D 6 : Int) from hPF (1, 1, 2, 6) (List.mem_of_getElem? (i := 5) rfl) hg0 hg0) (show F 6 0 = (D 7 : Int) from hPF (0, 6, 0, 7) (List.mem_of_getElem? (i := 6) rfl) hg0 hg0) (show A 1 3 = (D 8 : Int) from hPF (1, 1, 3, 8) (List.mem_of_getElem? (i := 7) rfl) hg0 hg0) (show F 8 0 = (D 9 : Int) from hPF (0, 8, 0, 9) (List.mem_of_getElem? (i := 8) rfl) hg0 hg0) (show F 0 6 = (D 27 : Int) from hPF (0, 0, 6, 27) (List.mem_of_getElem? (i := 26) rfl) hg0 hg0) (show F 27 0 = (D 28 : Int) from hPF (0, 27, 0, 28) (List.mem_of_getElem? (i := 27) rfl) hg0 hg0) (N 1 : Int) rfl (N 3 : Int) rfl (N 5 : Int) rfl (N 7 : Int) rfl (N 9 : Int) rfl (N 28 : Int) rfl (F 0 17) rfl (F 0 18) rfl (F 2 1) rfl (F 2 2) rfl (F 4 1) rfl (F 4 2) rfl (F 6 1) rfl (F 6 2) rfl (F 8 1) rfl (F 8 2) rfl (F 27 1) rfl (A 3) rfl (A 5) rfl (A 7) rfl (A 9) rfl (A 28) rfl   (show inr y1 by first | assumption | omega) (show inr y2 by first | assumption | omega) (show ((N 1 : Int)) = 4 by first | assumption | omega) (show 0 ≤ (F 2 1) ∧ (F 2 1) ≤ ((N 3 : Int)) ∧ ((N 3 : Int)) ≤ 65536 by first | assumption | omega) (show 0 ≤ (F 4 1) ∧ (F 4 1) ≤ ((N 5 : Int)) ∧ ((N 5 : Int)) ≤ 65536 by first | assumption | omega) (show 0 ≤ (F 6 1) ∧ (F 6 1) ≤ ((N 7 : Int)) ∧ ((N 7 : Int)) ≤ 65536 by first | assumption | omega) (show 0 ≤ (F 8 1) ∧ (F 8 1) ≤ ((N 9 : Int)) ∧ ((N 9 : Int)) ≤ 65536 by first | assumption | omega) (show (F 2 2) = 0 by first | assumption | omega) (show (F 4 2) = 0 by first | assumption | omega) (show (F 6 2) = 0 by first | assumption | omega) (show (F 8 2) = 0 by first | assumption | omega) (show 0 ≤ (F 27 1) ∧ (F 27 1) ≤ ((N 28 : Int)) ∧ ((N 28 : Int)) ≤ 65536 by first | assumption | omega) (show 0 ≤ y1 ∧ y1 ≤ 3 by first | assumption | omega) (fun z σₚ Dₚ Nₚ Fₚ Aₚ cₚ sₚ Hₚ O sd sn sf sa pm3 pm5 pm7 pm9 m3 em3 m5 em5 m7 em7 m9 em9 y0_18 ey0_18 y2_1 ey2_1 y2_2 ey2_2 y4_1 ey4_1 y4_2 ey4_2 y6_1 ey6_1 y6_2 ey6_2 y8_1 ey8_1 y8_2 ey8_2 v3 ev3 v5 ev5 v7 ev7 v9 ev9 q0 q1 q2 q3 q4 q5 q6 q7 q8 q9 q10 q11 q12 q13 q14 q15 q16 q17 q18 q19 => ?_)
  · skip
    subst em3 em5 em7 em9 ey0_18 ey2_1 ey2_2 ey4_1 ey4_2 ey6_1 ey6_2 ey8_1 ey8_2 ev3 ev5 ev7 ev9
    have : Fₚ 0 17 = F 0 17 := sf 0 17 rfl
    have : Fₚ 10 1 = F 27 1 := sf 10 1 rfl
    have : Aₚ 11 = A 28 := funext (sa 11 rfl)
    refine k z _ (glu ι_readb D Dₚ) (glu ι_readb N Nₚ) (glu ι_readb F Fₚ) (glu ι_readb A Aₚ) _ _ ⟨HWs_call HX VPH_3 vs_readb hp Hₚ O, STC_call HT HX vs_readb hp O, hg0, PFI_glue (dl := [3, 5, 7, 9]) hPF sf sa sd (by decide +kernel) (rexc_of (l := [(0, 2, 0, 3), (0, 4, 0, 5), (0, 6, 0, 7), (0, 8, 0, 9)]) (by decide +kernel) ?_), ABS_glue hAB sf (by decide +kernel), NZ_glue hNZ vs_readb hp sn (by decide +kernel), hGI, ?_, ?_, ?_, ?_, ?_, ?_, ?_, ?_, ?_, ?_⟩ ⟨(STP0_call (STY_call vs_readb hp O) (sd 0 rfl) (RM_call vs_readb O)), unt1_of (x := 10) (by decide +kernel) (fun p hp => funext (sa p hp))⟩ (EQD_glue sf sa sd sn (by decide +kernel)) (show z = y2 by first | assumption | omega | rfl) (show (Fₚ 0 18) = (F 0 17) by first | assumption | omega | rfl) (show IMP (y1 = 0 ∧ 0 ≤ y2) (sc ((Aₚ 3)) 0 ((Fₚ 2 1)) = sc ((A 28)) 0 ((F 27 1))) by first | assumption | omega | rfl) (show IMP (y1 = 1 ∧ 0 ≤ y2) (sc ((Aₚ 5)) 0 ((Fₚ 4 1)) = sc ((A 28)) 0 ((F 27 1))) by first | assumption | omega | rfl) (show IMP (y1 = 2 ∧ 0 ≤ y2) (sc ((Aₚ 7)) 0 ((Fₚ 6 1)) = sc ((A 28)) 0 ((F 27 1))) by first | assumption | omega | rfl) (show IMP (y1 = 3 ∧ 0 ≤ y2) (sc ((Aₚ 9)) 0 ((Fₚ 8 1)) = sc ((A 28)) 0 ((F 27 1))) by first | assumption | omega | rfl) (show IMP (y1 ≠ 0 ∨ y2 < 0) (sc ((Aₚ 3)) 0 ((Fₚ 2 1)) = sc ((A 3)) 0 ((F 2 1))) by first | assumption | omega | rfl) (show IMP (y1 ≠ 1 ∨ y2 < 0) (sc ((Aₚ 5)) 0 ((Fₚ 4 1)) = sc ((A 5)) 0 ((F 4 1))) by first | assumption | omega | rfl) (show IMP (y1 ≠ 2 ∨ y2 < 0) (sc ((Aₚ 7)) 0 ((Fₚ 6 1)) = sc ((A 7)) 0 ((F 6 1))) by first | assumption | omega | rfl) (show IMP (y1 ≠ 3 ∨ y2 < 0) (sc ((Aₚ 9)) 0 ((Fₚ 8 1)) = sc ((A 9)) 0 ((F 8 1))) by first | assumption | omega | rfl)
    · intro e he h1 h2
      simp only [List.mem_cons, List.not_mem_nil, or_false] at he
      rcases he with rfl | rfl | rfl | rfl
      · exact pm3
      · exact pm5
      · exact pm7
      · exact pm9
    · skip
      exact ⟨show 0 ≤ (Fₚ 2 1) ∧ (Fₚ 2 1) ≤ ((Nₚ 3 : Int)) ∧ ((Nₚ 3 : Int)) ≤ 65536 from (by first | assumption | omega), show 0 ≤ (Fₚ 4 1) ∧ (Fₚ 4 1) ≤ ((Nₚ 5 : Int)) ∧ ((Nₚ 5 : Int)) ≤ 65536 from (by first | assumption | omega), show 0 ≤ (Fₚ 6 1) ∧ (Fₚ 6 1) ≤ ((Nₚ 7 : Int)) ∧ ((Nₚ 7 : Int)) ≤ 65536 from (by first | assumption | omega), show 0 ≤ (Fₚ 8 1) ∧ (Fₚ 8 1) ≤ ((Nₚ 9 : Int)) ∧ ((Nₚ 9 : Int)) ≤ 65536 from (by first | assumption | omega), QF0_4_eq (EQD_glue sf sa sd sn (by decide +kernel)) f0_4, QF0_5_eq (EQD_glue sf sa sd sn (by decide +kernel)) f0_5, QF0_6_eq (EQD_glue sf sa sd sn (by decide +kernel)) f0_6, QF0_7_eq (EQD_glue sf sa sd sn (by decide +kernel)) f0_7, QF0_8_eq (EQD_glue sf sa sd sn (by decide +kernel)) f0_8, QF0_9_eq (EQD_glue sf sa sd sn (by decide +kernel)) f0_9, QF0_10_eq (EQD_glue sf sa sd sn (by decide +kernel)) f0_10, QF0_11_eq (EQD_glue sf sa sd sn (by decide +kernel)) f0_11, QF0_12_eq (EQD_glue sf sa sd sn (by decide +kernel)) f0_12, QF0_13_eq (EQD_glue sf sa sd sn (by decide +kernel)) f0_13, QF0_14_eq (EQD_glue sf sa sd sn (by decide +kernel)) f0_14, QF0_15_eq (EQD_glue sf sa sd sn (by decide +kernel)) f0_15, QF0_16_eq (EQD_glue sf sa sd sn (by decide +kernel)) f0_16, show (Fₚ 2 2) = 0 from (by first | assumption | omega), show (Fₚ 4 2) = 0 from (by first | assumption | omega), show (Fₚ 6 2) = 0 from (by first | assumption | omega), show (Fₚ 8 2) = 0 from (by first | assumption | omega), QF0_21_eq (EQD_glue sf sa sd sn (by decide +kernel)) f0_21, QF0_22_eq (EQD_glue sf sa sd sn (by decide +kernel)) f0_22, QF0_23_eq (EQD_glue sf sa sd sn (by decide +kernel)) f0_23, QF0_24_eq (EQD_glue sf sa sd sn (by decide +kernel)) f0_24⟩
    · exact fun h => INV1_eq (EQD_glue sf sa sd sn (by decide +kernel)) (hI1 h)
    · exact fun h => INV2_eq (EQD_glue sf sa sd sn (by decide +kernel)) (hI2 h)
    · exact fun h => INV3_eq (EQD_glue sf sa sd sn (by decide +kernel)) (hI3 h)
    · exact fun h => INV4_eq (EQD_glue sf sa sd sn (by decide +kernel)) (hI4 h)
    · exact fun h => INV5_eq (EQD_glue sf sa sd sn (by decide +kernel)) (hI5 h)
    · exact fun h => INV6_eq (EQD_glue sf sa sd sn (by decide +kernel)) (hI6 h)
    · exact fun h => INV7_eq (EQD_glue sf sa sd sn (by decide +kernel)) (hI7 h)
    · exact fun h => INV8_eq (EQD_glue sf sa sd sn (by decide +kernel)) (hI8 h)
    · exact fun h => INV9_eq (EQD_glue sf sa sd sn (by decide +kernel)) (hI9 h)
def ι_readx : List Nat := [0]
theorem vs_readx : VS VPH V18_vX ι_readx := VS_of (by decide +kernel)
set_option maxRecDepth 20000 in
theorem T_readx {Dc : DcS} {g : Nat → Bool} {σ : rS} {D N : Nat → Nat} {F : hF} {A : hA} {d c s : Nat} {Q : wQ} (X : PHI Dc g σ D N F A)  {a1 a2 a3 a4 : Int}  (h0 : inr a1) (h1 : inr a2) (h2 : inr a3) (h3 : inr a4) (x_0 : a2 < 0 ∨ 4 ≤ a2) (k : ∀ (z : Int) (σₚ : rS) (Dₚ Nₚ : Nat → Nat) (Fₚ : hF) (Aₚ : hA) (cₚ sₚ : Nat), PHI Dc g σₚ Dₚ Nₚ Fₚ Aₚ → STP g σ D N A c s g σₚ Dₚ Nₚ Aₚ cₚ sₚ → EQD [(2, 1), (4, 1), (6, 1), (8, 1), (11, 1), (0, 18), (25, 1)] [3, 5, 7, 9, 12, 10, 29, 30, 32, 26] [] [] D N F A Dₚ Nₚ Fₚ Aₚ → (z = -50) → Q (some (I z)) σₚ cₚ sₚ) : Ew 18 (d + 1) 0 (rargs 0 [.ref (D 0), I a1, I a2, I a3, I a4]) [] σ c s Q := by
  obtain ⟨HX, HT, hg0, hPF, hAB, hNZ, hGI, hI0, hI1, hI2, hI3, hI4, hI5, hI6, hI7, hI8, hI9⟩ := X
  have hset := SETI_f hI0.2.2.2.2.2.2.2.2.2.2.2.2.2.2.2.2.2.2.2.2.2.2.2.2
  have hJ0 := hI0
  unfold INV0 at hJ0
  obtain ⟨f0_0, f0_1, f0_2, f0_3, f0_4, f0_5, f0_6, f0_7, f0_8, f0_9, f0_10, f0_11, f0_12, f0_13, f0_14, f0_15, f0_16, f0_17, f0_18, f0_19, f0_20, f0_21, f0_22, f0_23, f0_24⟩ := hJ0
  have hp : ∀ x, x < (V18_vX).length → SPH g (ι_readx.getD x 0) = true := SPH_of (gs := [0]) (by intro j hj; simp at hj; subst hj; exact hg0) rfl (by decide +kernel)
  refine C18_vX (D := pul ι_readx D) (N := pul ι_readx N) (F := pul ι_readx F) (A := pul ι_readx A) (HWs_sub HX vs_readx hp)       (show inr (a1) by first | assumption | omega) (show inr (a2) by first | assumption | omega) (show inr (a3) by first | assumption | omega) (show inr (a4) by first | assumption | omega) (show (a2) < 0 ∨ 4 ≤ (a2) by first | assumption | omega) (fun z σₚ Fₚ Aₚ Hₚ O sf sa q0 q1 => ?_)
  · skip
    have sd : SD [] (pul ι_readx D) (pul ι_readx D) := SD_refl
    have sn : SD [] (pul ι_readx N) (pul ι_readx N) := SD_refl
    refine k z _ (glu ι_readx D (pul ι_readx D)) (glu ι_readx N (pul ι_readx N)) (glu ι_readx F Fₚ) (glu ι_readx A Aₚ) _ _ ⟨HWs_call HX VPH_3 vs_readx hp Hₚ O, STC_call HT HX vs_readx hp O, hg0, PFI_glue (dl := []) hPF sf sa sd (by decide +kernel) (rexc_of (l := []) (by decide +kernel) ?_), ABS_glue hAB sf (by decide +kernel), NZ_glue hNZ vs_readx hp sn (by decide +kernel), hGI, ?_, ?_, ?_, ?_, ?_, ?_, ?_, ?_, ?_, ?_⟩ ⟨(STP0_call (STY_call vs_readx hp O) (sd 0 rfl) (RM_call vs_readx O)), unt1_of (x := 10) (by decide +kernel) (fun p hp => funext (sa p hp))⟩ (EQD_glue sf sa sd sn (by decide +kernel)) (show z = -50 by first | assumption | omega | rfl)
    · intro e he h1 h2
      cases he
    · exact INV0_eq (EQD_glue sf sa sd sn (by decide +kernel)) hI0
    · exact fun h => INV1_eq (EQD_glue sf sa sd sn (by decide +kernel)) (hI1 h)
    · exact fun h => INV2_eq (EQD_glue sf sa sd sn (by decide +kernel)) (hI2 h)
    · exact fun h => INV3_eq (EQD_glue sf sa sd sn (by decide +kernel)) (hI3 h)
    · exact fun h => INV4_eq (EQD_glue sf sa sd sn (by decide +kernel)) (hI4 h)
    · exact fun h => INV5_eq (EQD_glue sf sa sd sn (by decide +kernel)) (hI5 h)
    · exact fun h => INV6_eq (EQD_glue sf sa sd sn (by decide +kernel)) (hI6 h)
    · exact fun h => INV7_eq (EQD_glue sf sa sd sn (by decide +kernel)) (hI7 h)
    · exact fun h => INV8_eq (EQD_glue sf sa sd sn (by decide +kernel)) (hI8 h)
    · exact fun h => INV9_eq (EQD_glue sf sa sd sn (by decide +kernel)) (hI9 h)
def ι_opena0 : List Nat := [0, 1, 2, 3, 4, 5, 6, 7, 8, 9, 30]
theorem vs_opena0 : VS VPH V20_c20_vA ι_opena0 := VS_of (by decide +kernel)
set_option maxRecDepth 20000 in
theorem T_opena0 {Dc : DcS} {g : Nat → Bool} {σ : rS} {D N : Nat → Nat} {F : hF} {A : hA} {d c s : Nat} {Q : wQ} (X : PHI Dc g σ D N F A)  {a1 a3 : Int}  (h0 : inr a1) (h2 : inr a3)  (hc68 : ∀ (tc68_1 : Int) (tc68_4 : Int) (tc68_5 : Int) (ls : rO) (σₚ : rS) (Dₚ Nₚ : Nat → Nat) (Fₚ : hF) (Aₚ : hA) (cₚ sₚ : Nat), PHI Dc g σₚ Dₚ Nₚ Fₚ Aₚ → STP g σ D N A c s g σₚ Dₚ Nₚ Aₚ cₚ sₚ → EQD [(2, 1), (4, 1), (6, 1), (8, 1), (11, 1), (0, 18), (25, 1)] [3, 5, 7, 9, 12, 10, 29, 30, 32, 26] [] [] D N F A Dₚ Nₚ Fₚ Aₚ → (0 ≤ tc68_1 ∧ tc68_1 ≤ 3) → (tc68_4 = 1 ∨ tc68_4 = 3 ∨ tc68_4 = 4) → (0 ≤ tc68_5 ∧ tc68_5 ≤ 65536) → (tc68_1 = a1 ∧ tc68_5 = a3) → (tc68_4 = knF (sc ((Aₚ 3)) 0 ((Fₚ 2 1)))) → Ew 20 (d + 3) 68 ls [.ref (Dₚ 30), I tc68_5, I tc68_4, .ref (Dₚ 2), .ref (Dₚ 0), I tc68_1, .ref (Dₚ 0)] σₚ cₚ sₚ Q) (k : ∀ (z : Int) (σₚ : rS) (Dₚ Nₚ : Nat → Nat) (Fₚ : hF) (Aₚ : hA) (cₚ sₚ : Nat), PHI Dc g σₚ Dₚ Nₚ Fₚ Aₚ → STP g σ D N A c s g σₚ Dₚ Nₚ Aₚ cₚ sₚ → EQD [(2, 1), (4, 1), (6, 1), (8, 1), (11, 1), (0, 18), (25, 1)] [3, 5, 7, 9, 12, 10, 29, 30, 32, 26] [] [] D N F A Dₚ Nₚ Fₚ Aₚ → (z = -50 ∧ (a1 < 0 ∨ 3 < a1 ∨ a3 < 0 ∨ 65536 < a3) ∨ z = -51 ∧ (0 ≤ a1 ∧ a1 ≤ 3 ∧ 0 ≤ a3 ∧ a3 ≤ 65536) ∧ (knF (sc ((A 3)) 0 ((F 2 1))) = 0 ∨ knF (sc ((A 3)) 0 ((F 2 1))) = 5)) → Q (some (I z)) σₚ cₚ sₚ) : Ew 20 (d + 3) 0 (rargs 0 [.ref (D 0), I a1, I 0, I a3]) [] σ c s Q := by
  obtain ⟨HX, HT, hg0, hPF, hAB, hNZ, hGI, hI0, hI1, hI2, hI3, hI4, hI5, hI6, hI7, hI8, hI9⟩ := X
  have hset := SETI_f hI0.2.2.2.2.2.2.2.2.2.2.2.2.2.2.2.2.2.2.2.2.2.2.2.2
  have hJ0 := hI0
  unfold INV0 at hJ0
  obtain ⟨f0_0, f0_1, f0_2, f0_3, f0_4, f0_5, f0_6, f0_7, f0_8, f0_9, f0_10, f0_11, f0_12, f0_13, f0_14, f0_15, f0_16, f0_17, f0_18, f0_19, f0_20, f0_21, f0_22, f0_23, f0_24⟩ := hJ0
  have hp : ∀ x, x < (V20_c20_vA).length → SPH g (ι_opena0.getD x 0) = true := SPH_of (gs := [0]) (by intro j hj; simp at hj; subst hj; exact hg0) rfl (by decide +kernel)
  refine C20_c20_vA (D := pul ι_opena0 D) (N := pul ι_opena0 N) (F := pul ι_opena0 F) (A := pul ι_opena0 A) (HWs_sub HX vs_opena0 hp) HT (show F 0 0 = (D 1 : Int) from hPF (0, 0, 0, 1) (List.mem_of_getElem? (i := 0) rfl) hg0 hg0) (show A 1 0 = (D 2 : Int) from hPF (1, 1, 0, 2) (List.mem_of_getElem? (i := 1) rfl) hg0 hg0) (show F 2 0 = (D 3 : Int) from hPF (0, 2, 0, 3) (List.mem_of_getElem? (i := 2) rfl) hg0 hg0) (show A 1 1 = (D 4 : Int) from hPF (1, 1, 1, 4) (List.mem_of_getElem? (i := 3) rfl) hg0 hg0) (show F 4 0 = (D 5 : Int) from hPF (0, 4, 0, 5) (List.mem_of_getElem? (i := 4) rfl) hg0 hg0) (show A 1 2 = (D 6 : Int) from hPF (1, 1, 2, 6) (List.mem_of_getElem? (i := 5) rfl) hg0 hg0) (show F 6 0 = (D 7 : Int) from hPF (0, 6, 0, 7) (List.mem_of_getElem? (i := 6) rfl) hg0 hg0) (show A 1 3 = (D 8 : Int) from hPF (1, 1, 3, 8) (List.mem_of_getElem? (i := 7) rfl) hg0 hg0) (show F 8 0 = (D 9 : Int) from hPF (0, 8, 0, 9) (List.mem_of_getElem? (i := 8) rfl) hg0 hg0) (show F 0 14 = (D 30 : Int) from hPF (0, 0, 14, 30) (List.mem_of_getElem? (i := 29) rfl) hg0 hg0) (N 1 : Int) rfl (N 3 : Int) rfl (N 5 : Int) rfl (N 7 : Int) rfl (N 9 : Int) rfl (N 30 : Int) rfl (F 2 1) rfl (F 4 1) rfl (F 6 1) rfl (F 8 1) rfl (A 3) rfl   (show inr (a1) by first | assumption | omega) (show inr (0) by first | assumption | omega) (show inr (a3) by first | assumption | omega) (show ((N 1 : Int)) = 4 by first | assumption | omega) (show 0 ≤ (F 2 1) ∧ (F 2 1) ≤ ((N 3 : Int)) ∧ ((N 3 : Int)) ≤ 65536 by first | assumption | omega) (show 0 ≤ (F 4 1) ∧ (F 4 1) ≤ ((N 5 : Int)) ∧ ((N 5 : Int)) ≤ 65536 by first | assumption | omega) (show 0 ≤ (F 6 1) ∧ (F 6 1) ≤ ((N 7 : Int)) ∧ ((N 7 : Int)) ≤ 65536 by first | assumption | omega) (show 0 ≤ (F 8 1) ∧ (F 8 1) ≤ ((N 9 : Int)) ∧ ((N 9 : Int)) ≤ 65536 by first | assumption | omega) (fun tc68_1 tc68_4 tc68_5 ls σ F_c68 A_c68   H O hS_c68 hA_c68     jc68_0 jc68_1 jc68_2 jc68_3 jc68_4 jc68_5 jc68_6 jc68_7 => ?_) (fun z σₚ Fₚ Aₚ Hₚ O sf sa q0 q1 => ?_)
  · skip
    have sd : SD [] (pul ι_opena0 D) (pul ι_opena0 D) := SD_refl
    have sn : SD [] (pul ι_opena0 N) (pul ι_opena0 N) := SD_refl
    have : F_c68 2 1 = F 2 1 := hS_c68 2 1 rfl
    have : A_c68 3 = A 3 := funext (hA_c68 3 rfl)
    refine hc68 tc68_1 tc68_4 tc68_5  _ _ (glu ι_opena0 D (pul ι_opena0 D)) (glu ι_opena0 N (pul ι_opena0 N)) (glu ι_opena0 F F_c68) (glu ι_opena0 A A_c68) _ _ ⟨HWs_call HX VPH_3 vs_opena0 hp H O, STC_call HT HX vs_opena0 hp O, hg0, PFI_glue (dl := []) hPF hS_c68 hA_c68 sd (by decide +kernel) (rexc_of (l := []) (by decide +kernel) ?_), ABS_glue hAB hS_c68 (by decide +kernel), NZ_glue hNZ vs_opena0 hp sn (by decide +kernel), hGI, ?_, ?_, ?_, ?_, ?_, ?_, ?_, ?_, ?_, ?_⟩ ⟨(STP0_call (STY_call vs_opena0 hp O) (sd 0 rfl) (RM_call vs_opena0 O)), unt1_of (x := 10) (by decide +kernel) (fun p hp => funext (hA_c68 p hp))⟩ (EQD_glue hS_c68 hA_c68 sd sn (by decide +kernel))  (show 0 ≤ tc68_1 ∧ tc68_1 ≤ 3 by first | assumption | omega | rfl) (show tc68_4 = 1 ∨ tc68_4 = 3 ∨ tc68_4 = 4 by first | assumption | omega | rfl) (show 0 ≤ tc68_5 ∧ tc68_5 ≤ 65536 by first | assumption | omega | rfl) (show tc68_1 = a1 ∧ tc68_5 = a3 by first | assumption | omega | rfl) (show tc68_4 = knF (sc ((A_c68 3)) 0 ((F_c68 2 1))) by first | assumption | (rw [show F_c68 2 1 = F 2 1 from hS_c68 2 1 rfl, show A_c68 3 = A 3 from funext (hA_c68 3 rfl)]; assumption) | omega | rfl)
    · intro e he h1 h2
      cases he
    · exact INV0_eq (EQD_glue hS_c68 hA_c68 sd sn (by decide +kernel)) hI0
    · exact fun h => INV1_eq (EQD_glue hS_c68 hA_c68 sd sn (by decide +kernel)) (hI1 h)
    · exact fun h => INV2_eq (EQD_glue hS_c68 hA_c68 sd sn (by decide +kernel)) (hI2 h)
    · exact fun h => INV3_eq (EQD_glue hS_c68 hA_c68 sd sn (by decide +kernel)) (hI3 h)
    · exact fun h => INV4_eq (EQD_glue hS_c68 hA_c68 sd sn (by decide +kernel)) (hI4 h)
    · exact fun h => INV5_eq (EQD_glue hS_c68 hA_c68 sd sn (by decide +kernel)) (hI5 h)
    · exact fun h => INV6_eq (EQD_glue hS_c68 hA_c68 sd sn (by decide +kernel)) (hI6 h)
    · exact fun h => INV7_eq (EQD_glue hS_c68 hA_c68 sd sn (by decide +kernel)) (hI7 h)
    · exact fun h => INV8_eq (EQD_glue hS_c68 hA_c68 sd sn (by decide +kernel)) (hI8 h)
    · exact fun h => INV9_eq (EQD_glue hS_c68 hA_c68 sd sn (by decide +kernel)) (hI9 h)
  · skip
    have sd : SD [] (pul ι_opena0 D) (pul ι_opena0 D) := SD_refl
    have sn : SD [] (pul ι_opena0 N) (pul ι_opena0 N) := SD_refl
    have : Fₚ 2 1 = F 2 1 := sf 2 1 rfl
    have : Aₚ 3 = A 3 := funext (sa 3 rfl)
    refine k z _ (glu ι_opena0 D (pul ι_opena0 D)) (glu ι_opena0 N (pul ι_opena0 N)) (glu ι_opena0 F Fₚ) (glu ι_opena0 A Aₚ) _ _ ⟨HWs_call HX VPH_3 vs_opena0 hp Hₚ O, STC_call HT HX vs_opena0 hp O, hg0, PFI_glue (dl := []) hPF sf sa sd (by decide +kernel) (rexc_of (l := []) (by decide +kernel) ?_), ABS_glue hAB sf (by decide +kernel), NZ_glue hNZ vs_opena0 hp sn (by decide +kernel), hGI, ?_, ?_, ?_, ?_, ?_, ?_, ?_, ?_, ?_, ?_⟩ ⟨(STP0_call (STY_call vs_opena0 hp O) (sd 0 rfl) (RM_call vs_opena0 O)), unt1_of (x := 10) (by decide +kernel) (fun p hp => funext (sa p hp))⟩ (EQD_glue sf sa sd sn (by decide +kernel)) (show z = -50 ∧ (a1 < 0 ∨ 3 < a1 ∨ a3 < 0 ∨ 65536 < a3) ∨ z = -51 ∧ (0 ≤ a1 ∧ a1 ≤ 3 ∧ 0 ≤ a3 ∧ a3 ≤ 65536) ∧ (knF (sc ((A 3)) 0 ((F 2 1))) = 0 ∨ knF (sc ((A 3)) 0 ((F 2 1))) = 5) by first | assumption | omega | rfl)
    · intro e he h1 h2
      cases he
    · exact INV0_eq (EQD_glue sf sa sd sn (by decide +kernel)) hI0
    · exact fun h => INV1_eq (EQD_glue sf sa sd sn (by decide +kernel)) (hI1 h)
    · exact fun h => INV2_eq (EQD_glue sf sa sd sn (by decide +kernel)) (hI2 h)
    · exact fun h => INV3_eq (EQD_glue sf sa sd sn (by decide +kernel)) (hI3 h)
    · exact fun h => INV4_eq (EQD_glue sf sa sd sn (by decide +kernel)) (hI4 h)
    · exact fun h => INV5_eq (EQD_glue sf sa sd sn (by decide +kernel)) (hI5 h)
    · exact fun h => INV6_eq (EQD_glue sf sa sd sn (by decide +kernel)) (hI6 h)
    · exact fun h => INV7_eq (EQD_glue sf sa sd sn (by decide +kernel)) (hI7 h)
    · exact fun h => INV8_eq (EQD_glue sf sa sd sn (by decide +kernel)) (hI8 h)
    · exact fun h => INV9_eq (EQD_glue sf sa sd sn (by decide +kernel)) (hI9 h)
def ι_opena1 : List Nat := [0, 1, 2, 3, 4, 5, 6, 7, 8, 9, 30]
theorem vs_opena1 : VS VPH V20_c21_vA ι_opena1 := VS_of (by decide +kernel)
set_option maxRecDepth 20000 in
theorem T_opena1 {Dc : DcS} {g : Nat → Bool} {σ : rS} {D N : Nat → Nat} {F : hF} {A : hA} {d c s : Nat} {Q : wQ} (X : PHI Dc g σ D N F A)  {a1 a3 : Int}  (h0 : inr a1) (h2 : inr a3)  (hc68 : ∀ (tc68_1 : Int) (tc68_4 : Int) (tc68_5 : Int) (ls : rO) (σₚ : rS) (Dₚ Nₚ : Nat → Nat) (Fₚ : hF) (Aₚ : hA) (cₚ sₚ : Nat), PHI Dc g σₚ Dₚ Nₚ Fₚ Aₚ → STP g σ D N A c s g σₚ Dₚ Nₚ Aₚ cₚ sₚ → EQD [(2, 1), (4, 1), (6, 1), (8, 1), (11, 1), (0, 18), (25, 1)] [3, 5, 7, 9, 12, 10, 29, 30, 32, 26] [] [] D N F A Dₚ Nₚ Fₚ Aₚ → (0 ≤ tc68_1 ∧ tc68_1 ≤ 3) → (tc68_4 = 1 ∨ tc68_4 = 3 ∨ tc68_4 = 4) → (0 ≤ tc68_5 ∧ tc68_5 ≤ 65536) → (tc68_1 = a1 ∧ tc68_5 = a3) → (tc68_4 = knF (sc ((Aₚ 5)) 0 ((Fₚ 4 1)))) → Ew 20 (d + 3) 68 ls [.ref (Dₚ 30), I tc68_5, I tc68_4, .ref (Dₚ 4), .ref (Dₚ 0), I tc68_1, .ref (Dₚ 0)] σₚ cₚ sₚ Q) (k : ∀ (z : Int) (σₚ : rS) (Dₚ Nₚ : Nat → Nat) (Fₚ : hF) (Aₚ : hA) (cₚ sₚ : Nat), PHI Dc g σₚ Dₚ Nₚ Fₚ Aₚ → STP g σ D N A c s g σₚ Dₚ Nₚ Aₚ cₚ sₚ → EQD [(2, 1), (4, 1), (6, 1), (8, 1), (11, 1), (0, 18), (25, 1)] [3, 5, 7, 9, 12, 10, 29, 30, 32, 26] [] [] D N F A Dₚ Nₚ Fₚ Aₚ → (z = -50 ∧ (a1 < 0 ∨ 3 < a1 ∨ a3 < 0 ∨ 65536 < a3) ∨ z = -51 ∧ (0 ≤ a1 ∧ a1 ≤ 3 ∧ 0 ≤ a3 ∧ a3 ≤ 65536) ∧ (knF (sc ((A 5)) 0 ((F 4 1))) = 0 ∨ knF (sc ((A 5)) 0 ((F 4 1))) = 5)) → Q (some (I z)) σₚ cₚ sₚ) : Ew 20 (d + 3) 0 (rargs 0 [.ref (D 0), I a1, I 1, I a3]) [] σ c s Q := by
  obtain ⟨HX, HT, hg0, hPF, hAB, hNZ, hGI, hI0, hI1, hI2, hI3, hI4, hI5, hI6, hI7, hI8, hI9⟩ := X
  have hset := SETI_f hI0.2.2.2.2.2.2.2.2.2.2.2.2.2.2.2.2.2.2.2.2.2.2.2.2
  have hJ0 := hI0
  unfold INV0 at hJ0
  obtain ⟨f0_0, f0_1, f0_2, f0_3, f0_4, f0_5, f0_6, f0_7, f0_8, f0_9, f0_10, f0_11, f0_12, f0_13, f0_14, f0_15, f0_16, f0_17, f0_18, f0_19, f0_20, f0_21, f0_22, f0_23, f0_24⟩ := hJ0
  have hp : ∀ x, x < (V20_c21_vA).length → SPH g (ι_opena1.getD x 0) = true := SPH_of (gs := [0]) (by intro j hj; simp at hj; subst hj; exact hg0) rfl (by decide +kernel)
  refine C20_c21_vA (D := pul ι_opena1 D) (N := pul ι_opena1 N) (F := pul ι_opena1 F) (A := pul ι_opena1 A) (HWs_sub HX vs_opena1 hp) HT (show F 0 0 = (D 1 : Int) from hPF (0, 0, 0, 1) (List.mem_of_getElem? (i := 0) rfl) hg0 hg0) (show A 1 0 = (D 2 : Int) from hPF (1, 1, 0, 2) (List.mem_of_getElem? (i := 1) rfl) hg0 hg0) (show F 2 0 = (D 3 : Int) from hPF (0, 2, 0, 3) (List.mem_of_getElem? (i := 2) rfl) hg0 hg0) (show A 1 1 = (D 4 : Int) from hPF (1, 1, 1, 4) (List.mem_of_getElem? (i := 3) rfl) hg0 hg0) (show F 4 0 = (D 5 : Int) from hPF (0, 4, 0, 5) (List.mem_of_getElem? (i := 4) rfl) hg0 hg0) (show A 1 2 = (D 6 : Int) from hPF (1, 1, 2, 6) (List.mem_of_getElem? (i := 5) rfl) hg0 hg0) (show F 6 0 = (D 7 : Int) from hPF (0, 6, 0, 7) (List.mem_of_getElem? (i := 6) rfl) hg0 hg0) (show A 1 3 = (D 8 : Int) from hPF (1, 1, 3, 8) (List.mem_of_getElem? (i := 7) rfl) hg0 hg0) (show F 8 0 = (D 9 : Int) from hPF (0, 8, 0, 9) (List.mem_of_getElem? (i := 8) rfl) hg0 hg0) (show F 0 14 = (D 30 : Int) from hPF (0, 0, 14, 30) (List.mem_of_getElem? (i := 29) rfl) hg0 hg0) (N 1 : Int) rfl (N 3 : Int) rfl (N 5 : Int) rfl (N 7 : Int) rfl (N 9 : Int) rfl (N 30 : Int) rfl (F 2 1) rfl (F 4 1) rfl (F 6 1) rfl (F 8 1) rfl (A 5) rfl   (show inr (a1) by first | assumption | omega) (show inr (1) by first | assumption | omega) (show inr (a3) by first | assumption | omega) (show ((N 1 : Int)) = 4 by first | assumption | omega) (show 0 ≤ (F 2 1) ∧ (F 2 1) ≤ ((N 3 : Int)) ∧ ((N 3 : Int)) ≤ 65536 by first | assumption | omega) (show 0 ≤ (F 4 1) ∧ (F 4 1) ≤ ((N 5 : Int)) ∧ ((N 5 : Int)) ≤ 65536 by first | assumption | omega) (show 0 ≤ (F 6 1) ∧ (F 6 1) ≤ ((N 7 : Int)) ∧ ((N 7 : Int)) ≤ 65536 by first | assumption | omega) (show 0 ≤ (F 8 1) ∧ (F 8 1) ≤ ((N 9 : Int)) ∧ ((N 9 : Int)) ≤ 65536 by first | assumption | omega) (fun tc68_1 tc68_4 tc68_5 ls σ F_c68 A_c68   H O hS_c68 hA_c68     jc68_0 jc68_1 jc68_2 jc68_3 jc68_4 jc68_5 jc68_6 jc68_7 => ?_) (fun z σₚ Fₚ Aₚ Hₚ O sf sa q0 q1 => ?_)
  · skip
    have sd : SD [] (pul ι_opena1 D) (pul ι_opena1 D) := SD_refl
    have sn : SD [] (pul ι_opena1 N) (pul ι_opena1 N) := SD_refl
    have : F_c68 4 1 = F 4 1 := hS_c68 4 1 rfl
    have : A_c68 5 = A 5 := funext (hA_c68 5 rfl)
    refine hc68 tc68_1 tc68_4 tc68_5  _ _ (glu ι_opena1 D (pul ι_opena1 D)) (glu ι_opena1 N (pul ι_opena1 N)) (glu ι_opena1 F F_c68) (glu ι_opena1 A A_c68) _ _ ⟨HWs_call HX VPH_3 vs_opena1 hp H O, STC_call HT HX vs_opena1 hp O, hg0, PFI_glue (dl := []) hPF hS_c68 hA_c68 sd (by decide +kernel) (rexc_of (l := []) (by decide +kernel) ?_), ABS_glue hAB hS_c68 (by decide +kernel), NZ_glue hNZ vs_opena1 hp sn (by decide +kernel), hGI, ?_, ?_, ?_, ?_, ?_, ?_, ?_, ?_, ?_, ?_⟩ ⟨(STP0_call (STY_call vs_opena1 hp O) (sd 0 rfl) (RM_call vs_opena1 O)), unt1_of (x := 10) (by decide +kernel) (fun p hp => funext (hA_c68 p hp))⟩ (EQD_glue hS_c68 hA_c68 sd sn (by decide +kernel))  (show 0 ≤ tc68_1 ∧ tc68_1 ≤ 3 by first | assumption | omega | rfl) (show tc68_4 = 1 ∨ tc68_4 = 3 ∨ tc68_4 = 4 by first | assumption | omega | rfl) (show 0 ≤ tc68_5 ∧ tc68_5 ≤ 65536 by first | assumption | omega | rfl) (show tc68_1 = a1 ∧ tc68_5 = a3 by first | assumption | omega | rfl) (show tc68_4 = knF (sc ((A_c68 5)) 0 ((F_c68 4 1))) by first | assumption | (rw [show F_c68 4 1 = F 4 1 from hS_c68 4 1 rfl, show A_c68 5 = A 5 from funext (hA_c68 5 rfl)]; assumption) | omega | rfl)
    · intro e he h1 h2
      cases he
    · exact INV0_eq (EQD_glue hS_c68 hA_c68 sd sn (by decide +kernel)) hI0
    · exact fun h => INV1_eq (EQD_glue hS_c68 hA_c68 sd sn (by decide +kernel)) (hI1 h)
    · exact fun h => INV2_eq (EQD_glue hS_c68 hA_c68 sd sn (by decide +kernel)) (hI2 h)
    · exact fun h => INV3_eq (EQD_glue hS_c68 hA_c68 sd sn (by decide +kernel)) (hI3 h)
    · exact fun h => INV4_eq (EQD_glue hS_c68 hA_c68 sd sn (by decide +kernel)) (hI4 h)
    · exact fun h => INV5_eq (EQD_glue hS_c68 hA_c68 sd sn (by decide +kernel)) (hI5 h)
    · exact fun h => INV6_eq (EQD_glue hS_c68 hA_c68 sd sn (by decide +kernel)) (hI6 h)
    · exact fun h => INV7_eq (EQD_glue hS_c68 hA_c68 sd sn (by decide +kernel)) (hI7 h)
    · exact fun h => INV8_eq (EQD_glue hS_c68 hA_c68 sd sn (by decide +kernel)) (hI8 h)
    · exact fun h => INV9_eq (EQD_glue hS_c68 hA_c68 sd sn (by decide +kernel)) (hI9 h)
  · skip
    have sd : SD [] (pul ι_opena1 D) (pul ι_opena1 D) := SD_refl
    have sn : SD [] (pul ι_opena1 N) (pul ι_opena1 N) := SD_refl
    have : Fₚ 4 1 = F 4 1 := sf 4 1 rfl
    have : Aₚ 5 = A 5 := funext (sa 5 rfl)
    refine k z _ (glu ι_opena1 D (pul ι_opena1 D)) (glu ι_opena1 N (pul ι_opena1 N)) (glu ι_opena1 F Fₚ) (glu ι_opena1 A Aₚ) _ _ ⟨HWs_call HX VPH_3 vs_opena1 hp Hₚ O, STC_call HT HX vs_opena1 hp O, hg0, PFI_glue (dl := []) hPF sf sa sd (by decide +kernel) (rexc_of (l := []) (by decide +kernel) ?_), ABS_glue hAB sf (by decide +kernel), NZ_glue hNZ vs_opena1 hp sn (by decide +kernel), hGI, ?_, ?_, ?_, ?_, ?_, ?_, ?_, ?_, ?_, ?_⟩ ⟨(STP0_call (STY_call vs_opena1 hp O) (sd 0 rfl) (RM_call vs_opena1 O)), unt1_of (x := 10) (by decide +kernel) (fun p hp => funext (sa p hp))⟩ (EQD_glue sf sa sd sn (by decide +kernel)) (show z = -50 ∧ (a1 < 0 ∨ 3 < a1 ∨ a3 < 0 ∨ 65536 < a3) ∨ z = -51 ∧ (0 ≤ a1 ∧ a1 ≤ 3 ∧ 0 ≤ a3 ∧ a3 ≤ 65536) ∧ (knF (sc ((A 5)) 0 ((F 4 1))) = 0 ∨ knF (sc ((A 5)) 0 ((F 4 1))) = 5) by first | assumption | omega | rfl)
    · intro e he h1 h2
      cases he
    · exact INV0_eq (EQD_glue sf sa sd sn (by decide +kernel)) hI0
    · exact fun h => INV1_eq (EQD_glue sf sa sd sn (by decide +kernel)) (hI1 h)
    · exact fun h => INV2_eq (EQD_glue sf sa sd sn (by decide +kernel)) (hI2 h)
    · exact fun h => INV3_eq (EQD_glue sf sa sd sn (by decide +kernel)) (hI3 h)
    · exact fun h => INV4_eq (EQD_glue sf sa sd sn (by decide +kernel)) (hI4 h)
    · exact fun h => INV5_eq (EQD_glue sf sa sd sn (by decide +kernel)) (hI5 h)
    · exact fun h => INV6_eq (EQD_glue sf sa sd sn (by decide +kernel)) (hI6 h)
    · exact fun h => INV7_eq (EQD_glue sf sa sd sn (by decide +kernel)) (hI7 h)
    · exact fun h => INV8_eq (EQD_glue sf sa sd sn (by decide +kernel)) (hI8 h)
    · exact fun h => INV9_eq (EQD_glue sf sa sd sn (by decide +kernel)) (hI9 h)
def ι_opena2 : List Nat := [0, 1, 2, 3, 4, 5, 6, 7, 8, 9, 30]
theorem vs_opena2 : VS VPH V20_c22_vA ι_opena2 := VS_of (by decide +kernel)
set_option maxRecDepth 20000 in
theorem T_opena2 {Dc : DcS} {g : Nat → Bool} {σ : rS} {D N : Nat → Nat} {F : hF} {A : hA} {d c s : Nat} {Q : wQ} (X : PHI Dc g σ D N F A)  {a1 a3 : Int}  (h0 : inr a1) (h2 : inr a3)  (hc68 : ∀ (tc68_1 : Int) (tc68_4 : Int) (tc68_5 : Int) (ls : rO) (σₚ : rS) (Dₚ Nₚ : Nat → Nat) (Fₚ : hF) (Aₚ : hA) (cₚ sₚ : Nat), PHI Dc g σₚ Dₚ Nₚ Fₚ Aₚ → STP g σ D N A c s g σₚ Dₚ Nₚ Aₚ cₚ sₚ → EQD [(2, 1), (4, 1), (6, 1), (8, 1), (11, 1), (0, 18), (25, 1)] [3, 5, 7, 9, 12, 10, 29, 30, 32, 26] [] [] D N F A Dₚ Nₚ Fₚ Aₚ → (0 ≤ tc68_1 ∧ tc68_1 ≤ 3) → (tc68_4 = 1 ∨ tc68_4 = 3 ∨ tc68_4 = 4) → (0 ≤ tc68_5 ∧ tc68_5 ≤ 65536) → (tc68_1 = a1 ∧ tc68_5 = a3) → (tc68_4 = knF (sc ((Aₚ 7)) 0 ((Fₚ 6 1)))) → Ew 20 (d + 3) 68 ls [.ref (Dₚ 30), I tc68_5, I tc68_4, .ref (Dₚ 6), .ref (Dₚ 0), I tc68_1, .ref (Dₚ 0)] σₚ cₚ sₚ Q) (k : ∀ (z : Int) (σₚ : rS) (Dₚ Nₚ : Nat → Nat) (Fₚ : hF) (Aₚ : hA) (cₚ sₚ : Nat), PHI Dc g σₚ Dₚ Nₚ Fₚ Aₚ → STP g σ D N A c s g σₚ Dₚ Nₚ Aₚ cₚ sₚ → EQD [(2, 1), (4, 1), (6, 1), (8, 1), (11, 1), (0, 18), (25, 1)] [3, 5, 7, 9, 12, 10, 29, 30, 32, 26] [] [] D N F A Dₚ Nₚ Fₚ Aₚ → (z = -50 ∧ (a1 < 0 ∨ 3 < a1 ∨ a3 < 0 ∨ 65536 < a3) ∨ z = -51 ∧ (0 ≤ a1 ∧ a1 ≤ 3 ∧ 0 ≤ a3 ∧ a3 ≤ 65536) ∧ (knF (sc ((A 7)) 0 ((F 6 1))) = 0 ∨ knF (sc ((A 7)) 0 ((F 6 1))) = 5)) → Q (some (I z)) σₚ cₚ sₚ) : Ew 20 (d + 3) 0 (rargs 0 [.ref (D 0), I a1, I 2, I a3]) [] σ c s Q := by
  obtain ⟨HX, HT, hg0, hPF, hAB, hNZ, hGI, hI0, hI1, hI2, hI3, hI4, hI5, hI6, hI7, hI8, hI9⟩ := X
  have hset := SETI_f hI0.2.2.2.2.2.2.2.2.2.2.2.2.2.2.2.2.2.2.2.2.2.2.2.2
  have hJ0 := hI0
  unfold INV0 at hJ0
  obtain ⟨f0_0, f0_1, f0_2, f0_3, f0_4, f0_5, f0_6, f0_7, f0_8, f0_9, f0_10, f0_11, f0_12, f0_13, f0_14, f0_15, f0_16, f0_17, f0_18, f0_19, f0_20, f0_21, f0_22, f0_23, f0_24⟩ := hJ0
  have hp : ∀ x, x < (V20_c22_vA).length → SPH g (ι_opena2.getD x 0) = true := SPH_of (gs := [0]) (by intro j hj; simp at hj; subst hj; exact hg0) rfl (by decide +kernel)
  refine C20_c22_vA (D := pul ι_opena2 D) (N := pul ι_opena2 N) (F := pul ι_opena2 F) (A := pul ι_opena2 A) (HWs_sub HX vs_opena2 hp) HT (show F 0 0 = (D 1 : Int) from hPF (0, 0, 0, 1) (List.mem_of_getElem? (i := 0) rfl) hg0 hg0) (show A 1 0 = (D 2 : Int) from hPF (1, 1, 0, 2) (List.mem_of_getElem? (i := 1) rfl) hg0 hg0) (show F 2 0 = (D 3 : Int) from hPF (0, 2, 0, 3) (List.mem_of_getElem? (i := 2) rfl) hg0 hg0) (show A 1 1 = (D 4 : Int) from hPF (1, 1, 1, 4) (List.mem_of_getElem? (i := 3) rfl) hg0 hg0) (show F 4 0 = (D 5 : Int) from hPF (0, 4, 0, 5) (List.mem_of_getElem? (i := 4) rfl) hg0 hg0) (show A 1 2 = (D 6 : Int) from hPF (1, 1, 2, 6) (List.mem_of_getElem? (i := 5) rfl) hg0 hg0) (show F 6 0 = (D 7 : Int) from hPF (0, 6, 0, 7) (List.mem_of_getElem? (i := 6) rfl) hg0 hg0) (show A 1 3 = (D 8 : Int) from hPF (1, 1, 3, 8) (List.mem_of_getElem? (i := 7) rfl) hg0 hg0) (show F 8 0 = (D 9 : Int) from hPF (0, 8, 0, 9) (List.mem_of_getElem? (i := 8) rfl) hg0 hg0) (show F 0 14 = (D 30 : Int) from hPF (0, 0, 14, 30) (List.mem_of_getElem? (i := 29) rfl) hg0 hg0) (N 1 : Int) rfl (N 3 : Int) rfl (N 5 : Int) rfl (N 7 : Int) rfl (N 9 : Int) rfl (N 30 : Int) rfl (F 2 1) rfl (F 4 1) rfl (F 6 1) rfl (F 8 1) rfl (A 7) rfl   (show inr (a1) by first | assumption | omega) (show inr (2) by first | assumption | omega) (show inr (a3) by first | assumption | omega) (show ((N 1 : Int)) = 4 by first | assumption | omega) (show 0 ≤ (F 2 1) ∧ (F 2 1) ≤ ((N 3 : Int)) ∧ ((N 3 : Int)) ≤ 65536 by first | assumption | omega) (show 0 ≤ (F 4 1) ∧ (F 4 1) ≤ ((N 5 : Int)) ∧ ((N 5 : Int)) ≤ 65536 by first | assumption | omega) (show 0 ≤ (F 6 1) ∧ (F 6 1) ≤ ((N 7 : Int)) ∧ ((N 7 : Int)) ≤ 65536 by first | assumption | omega) (show 0 ≤ (F 8 1) ∧ (F 8 1) ≤ ((N 9 : Int)) ∧ ((N 9 : Int)) ≤ 65536 by first | assumption | omega) (fun tc68_1 tc68_4 tc68_5 ls σ F_c68 A_c68   H O hS_c68 hA_c68     jc68_0 jc68_1 jc68_2 jc68_3 jc68_4 jc68_5 jc68_6 jc68_7 => ?_) (fun z σₚ Fₚ Aₚ Hₚ O sf sa q0 q1 => ?_)
  · skip
    have sd : SD [] (pul ι_opena2 D) (pul ι_opena2 D) := SD_refl
    have sn : SD [] (pul ι_opena2 N) (pul ι_opena2 N) := SD_refl
    have : F_c68 6 1 = F 6 1 := hS_c68 6 1 rfl
    have : A_c68 7 = A 7 := funext (hA_c68 7 rfl)
    refine hc68 tc68_1 tc68_4 tc68_5  _ _ (glu ι_opena2 D (pul ι_opena2 D)) (glu ι_opena2 N (pul ι_opena2 N)) (glu ι_opena2 F F_c68) (glu ι_opena2 A A_c68) _ _ ⟨HWs_call HX VPH_3 vs_opena2 hp H O, STC_call HT HX vs_opena2 hp O, hg0, PFI_glue (dl := []) hPF hS_c68 hA_c68 sd (by decide +kernel) (rexc_of (l := []) (by decide +kernel) ?_), ABS_glue hAB hS_c68 (by decide +kernel), NZ_glue hNZ vs_opena2 hp sn (by decide +kernel), hGI, ?_, ?_, ?_, ?_, ?_, ?_, ?_, ?_, ?_, ?_⟩ ⟨(STP0_call (STY_call vs_opena2 hp O) (sd 0 rfl) (RM_call vs_opena2 O)), unt1_of (x := 10) (by decide +kernel) (fun p hp => funext (hA_c68 p hp))⟩ (EQD_glue hS_c68 hA_c68 sd sn (by decide +kernel))  (show 0 ≤ tc68_1 ∧ tc68_1 ≤ 3 by first | assumption | omega | rfl) (show tc68_4 = 1 ∨ tc68_4 = 3 ∨ tc68_4 = 4 by first | assumption | omega | rfl) (show 0 ≤ tc68_5 ∧ tc68_5 ≤ 65536 by first | assumption | omega | rfl) (show tc68_1 = a1 ∧ tc68_5 = a3 by first | assumption | omega | rfl) (show tc68_4 = knF (sc ((A_c68 7)) 0 ((F_c68 6 1))) by first | assumption | (rw [show F_c68 6 1 = F 6 1 from hS_c68 6 1 rfl, show A_c68 7 = A 7 from funext (hA_c68 7 rfl)]; assumption) | omega | rfl)
    · intro e he h1 h2
      cases he
    · exact INV0_eq (EQD_glue hS_c68 hA_c68 sd sn (by decide +kernel)) hI0
    · exact fun h => INV1_eq (EQD_glue hS_c68 hA_c68 sd sn (by decide +kernel)) (hI1 h)
    · exact fun h => INV2_eq (EQD_glue hS_c68 hA_c68 sd sn (by decide +kernel)) (hI2 h)
    · exact fun h => INV3_eq (EQD_glue hS_c68 hA_c68 sd sn (by decide +kernel)) (hI3 h)
    · exact fun h => INV4_eq (EQD_glue hS_c68 hA_c68 sd sn (by decide +kernel)) (hI4 h)
    · exact fun h => INV5_eq (EQD_glue hS_c68 hA_c68 sd sn (by decide +kernel)) (hI5 h)
    · exact fun h => INV6_eq (EQD_glue hS_c68 hA_c68 sd sn (by decide +kernel)) (hI6 h)
    · exact fun h => INV7_eq (EQD_glue hS_c68 hA_c68 sd sn (by decide +kernel)) (hI7 h)
    · exact fun h => INV8_eq (EQD_glue hS_c68 hA_c68 sd sn (by decide +kernel)) (hI8 h)
    · exact fun h => INV9_eq (EQD_glue hS_c68 hA_c68 sd sn (by decide +kernel)) (hI9 h)
  · skip
    have sd : SD [] (pul ι_opena2 D) (pul ι_opena2 D) := SD_refl
    have sn : SD [] (pul ι_opena2 N) (pul ι_opena2 N) := SD_refl
    have : Fₚ 6 1 = F 6 1 := sf 6 1 rfl
    have : Aₚ 7 = A 7 := funext (sa 7 rfl)
    refine k z _ (glu ι_opena2 D (pul ι_opena2 D)) (glu ι_opena2 N (pul ι_opena2 N)) (glu ι_opena2 F Fₚ) (glu ι_opena2 A Aₚ) _ _ ⟨HWs_call HX VPH_3 vs_opena2 hp Hₚ O, STC_call HT HX vs_opena2 hp O, hg0, PFI_glue (dl := []) hPF sf sa sd (by decide +kernel) (rexc_of (l := []) (by decide +kernel) ?_), ABS_glue hAB sf (by decide +kernel), NZ_glue hNZ vs_opena2 hp sn (by decide +kernel), hGI, ?_, ?_, ?_, ?_, ?_, ?_, ?_, ?_, ?_, ?_⟩ ⟨(STP0_call (STY_call vs_opena2 hp O) (sd 0 rfl) (RM_call vs_opena2 O)), unt1_of (x := 10) (by decide +kernel) (fun p hp => funext (sa p hp))⟩ (EQD_glue sf sa sd sn (by decide +kernel)) (show z = -50 ∧ (a1 < 0 ∨ 3 < a1 ∨ a3 < 0 ∨ 65536 < a3) ∨ z = -51 ∧ (0 ≤ a1 ∧ a1 ≤ 3 ∧ 0 ≤ a3 ∧ a3 ≤ 65536) ∧ (knF (sc ((A 7)) 0 ((F 6 1))) = 0 ∨ knF (sc ((A 7)) 0 ((F 6 1))) = 5) by first | assumption | omega | rfl)
    · intro e he h1 h2
      cases he
    · exact INV0_eq (EQD_glue sf sa sd sn (by decide +kernel)) hI0
    · exact fun h => INV1_eq (EQD_glue sf sa sd sn (by decide +kernel)) (hI1 h)
    · exact fun h => INV2_eq (EQD_glue sf sa sd sn (by decide +kernel)) (hI2 h)
    · exact fun h => INV3_eq (EQD_glue sf sa sd sn (by decide +kernel)) (hI3 h)
    · exact fun h => INV4_eq (EQD_glue sf sa sd sn (by decide +kernel)) (hI4 h)
    · exact fun h => INV5_eq (EQD_glue sf sa sd sn (by decide +kernel)) (hI5 h)
    · exact fun h => INV6_eq (EQD_glue sf sa sd sn (by decide +kernel)) (hI6 h)
    · exact fun h => INV7_eq (EQD_glue sf sa sd sn (by decide +kernel)) (hI7 h)
    · exact fun h => INV8_eq (EQD_glue sf sa sd sn (by decide +kernel)) (hI8 h)
    · exact fun h => INV9_eq (EQD_glue sf sa sd sn (by decide +kernel)) (hI9 h)
def ι_opena3 : List Nat := [0, 1, 2, 3, 4, 5, 6, 7, 8, 9, 30]
theorem vs_opena3 : VS VPH V20_c23_vA ι_opena3 := VS_of (by decide +kernel)
set_option maxRecDepth 20000 in
theorem T_opena3 {Dc : DcS} {g : Nat → Bool} {σ : rS} {D N : Nat → Nat} {F : hF} {A : hA} {d c s : Nat} {Q : wQ} (X : PHI Dc g σ D N F A)  {a1 a3 : Int}  (h0 : inr a1) (h2 : inr a3)  (hc68 : ∀ (tc68_1 : Int) (tc68_4 : Int) (tc68_5 : Int) (ls : rO) (σₚ : rS) (Dₚ Nₚ : Nat → Nat) (Fₚ : hF) (Aₚ : hA) (cₚ sₚ : Nat), PHI Dc g σₚ Dₚ Nₚ Fₚ Aₚ → STP g σ D N A c s g σₚ Dₚ Nₚ Aₚ cₚ sₚ → EQD [(2, 1), (4, 1), (6, 1), (8, 1), (11, 1), (0, 18), (25, 1)] [3, 5, 7, 9, 12, 10, 29, 30, 32, 26] [] [] D N F A Dₚ Nₚ Fₚ Aₚ → (0 ≤ tc68_1 ∧ tc68_1 ≤ 3) → (tc68_4 = 1 ∨ tc68_4 = 3 ∨ tc68_4 = 4) → (0 ≤ tc68_5 ∧ tc68_5 ≤ 65536) → (tc68_1 = a1 ∧ tc68_5 = a3) → (tc68_4 = knF (sc ((Aₚ 9)) 0 ((Fₚ 8 1)))) → Ew 20 (d + 3) 68 ls [.ref (Dₚ 30), I tc68_5, I tc68_4, .ref (Dₚ 8), .ref (Dₚ 0), I tc68_1, .ref (Dₚ 0)] σₚ cₚ sₚ Q) (k : ∀ (z : Int) (σₚ : rS) (Dₚ Nₚ : Nat → Nat) (Fₚ : hF) (Aₚ : hA) (cₚ sₚ : Nat), PHI Dc g σₚ Dₚ Nₚ Fₚ Aₚ → STP g σ D N A c s g σₚ Dₚ Nₚ Aₚ cₚ sₚ → EQD [(2, 1), (4, 1), (6, 1), (8, 1), (11, 1), (0, 18), (25, 1)] [3, 5, 7, 9, 12, 10, 29, 30, 32, 26] [] [] D N F A Dₚ Nₚ Fₚ Aₚ → (z = -50 ∧ (a1 < 0 ∨ 3 < a1 ∨ a3 < 0 ∨ 65536 < a3) ∨ z = -51 ∧ (0 ≤ a1 ∧ a1 ≤ 3 ∧ 0 ≤ a3 ∧ a3 ≤ 65536) ∧ (knF (sc ((A 9)) 0 ((F 8 1))) = 0 ∨ knF (sc ((A 9)) 0 ((F 8 1))) = 5)) → Q (some (I z)) σₚ cₚ sₚ) : Ew 20 (d + 3) 0 (rargs 0 [.ref (D 0), I a1, I 3, I a3]) [] σ c s Q := by
  obtain ⟨HX, HT, hg0, hPF, hAB, hNZ, hGI, hI0, hI1, hI2, hI3, hI4, hI5, hI6, hI7, hI8, hI9⟩ := X
  have hset := SETI_f hI0.2.2.2.2.2.2.2.2.2.2.2.2.2.2.2.2.2.2.2.2.2.2.2.2
  have hJ0 := hI0
  unfold INV0 at hJ0
  obtain ⟨f0_0, f0_1, f0_2, f0_3, f0_4, f0_5, f0_6, f0_7, f0_8, f0_9, f0_10, f0_11, f0_12, f0_13, f0_14, f0_15, f0_16, f0_17, f0_18, f0_19, f0_20, f0_21, f0_22, f0_23, f0_24⟩ := hJ0
  have hp : ∀ x, x < (V20_c23_vA).length → SPH g (ι_opena3.getD x 0) = true := SPH_of (gs := [0]) (by intro j hj; simp at hj; subst hj; exact hg0) rfl (by decide +kernel)
  refine C20_c23_vA (D := pul ι_opena3 D) (N := pul ι_opena3 N) (F := pul ι_opena3 F) (A := pul ι_opena3 A) (HWs_sub HX vs_opena3 hp) HT (show F 0 0 = (D 1 : Int) from hPF (0, 0, 0, 1) (List.mem_of_getElem? (i := 0) rfl) hg0 hg0) (show A 1 0 = (D 2 : Int) from hPF (1, 1, 0, 2) (List.mem_of_getElem? (i := 1) rfl) hg0 hg0) (show F 2 0 = (D 3 : Int) from hPF (0, 2, 0, 3) (List.mem_of_getElem? (i := 2) rfl) hg0 hg0) (show A 1 1 = (D 4 : Int) from hPF (1, 1, 1, 4) (List.mem_of_getElem? (i := 3) rfl) hg0 hg0) (show F 4 0 = (D 5 : Int) from hPF (0, 4, 0, 5) (List.mem_of_getElem? (i := 4) rfl) hg0 hg0) (show A 1 2 = (D 6 : Int) from hPF (1, 1, 2, 6) (List.mem_of_getElem? (i := 5) rfl) hg0 hg0) (show F 6 0 = (D 7 : Int) from hPF (0, 6, 0, 7) (List.mem_of_getElem? (i := 6) rfl) hg0 hg0) (show A 1 3 = (D 8 : Int) from hPF (1, 1, 3, 8) (List.mem_of_getElem? (i := 7) rfl) hg0 hg0) (show F 8 0 = (D 9 : Int) from hPF (0, 8, 0, 9) (List.mem_of_getElem? (i := 8) rfl) hg0 hg0) (show F 0 14 = (D 30 : Int) from hPF (0, 0, 14, 30) (List.mem_of_getElem? (i := 29) rfl) hg0 hg0) (N 1 : Int) rfl (N 3 : Int) rfl (N 5 : Int) rfl (N 7 : Int) rfl (N 9 : Int) rfl (N 30 : Int) rfl (F 2 1) rfl (F 4 1) rfl (F 6 1) rfl (F 8 1) rfl (A 9) rfl   (show inr (a1) by first | assumption | omega) (show inr (3) by first | assumption | omega) (show inr (a3) by first | assumption | omega) (show ((N 1 : Int)) = 4 by first | assumption | omega) (show 0 ≤ (F 2 1) ∧ (F 2 1) ≤ ((N 3 : Int)) ∧ ((N 3 : Int)) ≤ 65536 by first | assumption | omega) (show 0 ≤ (F 4 1) ∧ (F 4 1) ≤ ((N 5 : Int)) ∧ ((N 5 : Int)) ≤ 65536 by first | assumption | omega) (show 0 ≤ (F 6 1) ∧ (F 6 1) ≤ ((N 7 : Int)) ∧ ((N 7 : Int)) ≤ 65536 by first | assumption | omega) (show 0 ≤ (F 8 1) ∧ (F 8 1) ≤ ((N 9 : Int)) ∧ ((N 9 : Int)) ≤ 65536 by first | assumption | omega) (fun tc68_1 tc68_4 tc68_5 ls σ F_c68 A_c68   H O hS_c68 hA_c68     jc68_0 jc68_1 jc68_2 jc68_3 jc68_4 jc68_5 jc68_6 jc68_7 => ?_) (fun z σₚ Fₚ Aₚ Hₚ O sf sa q0 q1 => ?_)
  · skip
    have sd : SD [] (pul ι_opena3 D) (pul ι_opena3 D) := SD_refl
    have sn : SD [] (pul ι_opena3 N) (pul ι_opena3 N) := SD_refl
    have : F_c68 8 1 = F 8 1 := hS_c68 8 1 rfl
    have : A_c68 9 = A 9 := funext (hA_c68 9 rfl)
    refine hc68 tc68_1 tc68_4 tc68_5  _ _ (glu ι_opena3 D (pul ι_opena3 D)) (glu ι_opena3 N (pul ι_opena3 N)) (glu ι_opena3 F F_c68) (glu ι_opena3 A A_c68) _ _ ⟨HWs_call HX VPH_3 vs_opena3 hp H O, STC_call HT HX vs_opena3 hp O, hg0, PFI_glue (dl := []) hPF hS_c68 hA_c68 sd (by decide +kernel) (rexc_of (l := []) (by decide +kernel) ?_), ABS_glue hAB hS_c68 (by decide +kernel), NZ_glue hNZ vs_opena3 hp sn (by decide +kernel), hGI, ?_, ?_, ?_, ?_, ?_, ?_, ?_, ?_, ?_, ?_⟩ ⟨(STP0_call (STY_call vs_opena3 hp O) (sd 0 rfl) (RM_call vs_opena3 O)), unt1_of (x := 10) (by decide +kernel) (fun p hp => funext (hA_c68 p hp))⟩ (EQD_glue hS_c68 hA_c68 sd sn (by decide +kernel))  (show 0 ≤ tc68_1 ∧ tc68_1 ≤ 3 by first | assumption | omega | rfl) (show tc68_4 = 1 ∨ tc68_4 = 3 ∨ tc68_4 = 4 by first | assumption | omega | rfl) (show 0 ≤ tc68_5 ∧ tc68_5 ≤ 65536 by first | assumption | omega | rfl) (show tc68_1 = a1 ∧ tc68_5 = a3 by first | assumption | omega | rfl) (show tc68_4 = knF (sc ((A_c68 9)) 0 ((F_c68 8 1))) by first | assumption | (rw [show F_c68 8 1 = F 8 1 from hS_c68 8 1 rfl, show A_c68 9 = A 9 from funext (hA_c68 9 rfl)]; assumption) | omega | rfl)
    · intro e he h1 h2
      cases he
    · exact INV0_eq (EQD_glue hS_c68 hA_c68 sd sn (by decide +kernel)) hI0
    · exact fun h => INV1_eq (EQD_glue hS_c68 hA_c68 sd sn (by decide +kernel)) (hI1 h)
    · exact fun h => INV2_eq (EQD_glue hS_c68 hA_c68 sd sn (by decide +kernel)) (hI2 h)
    · exact fun h => INV3_eq (EQD_glue hS_c68 hA_c68 sd sn (by decide +kernel)) (hI3 h)
    · exact fun h => INV4_eq (EQD_glue hS_c68 hA_c68 sd sn (by decide +kernel)) (hI4 h)
    · exact fun h => INV5_eq (EQD_glue hS_c68 hA_c68 sd sn (by decide +kernel)) (hI5 h)
    · exact fun h => INV6_eq (EQD_glue hS_c68 hA_c68 sd sn (by decide +kernel)) (hI6 h)
    · exact fun h => INV7_eq (EQD_glue hS_c68 hA_c68 sd sn (by decide +kernel)) (hI7 h)
    · exact fun h => INV8_eq (EQD_glue hS_c68 hA_c68 sd sn (by decide +kernel)) (hI8 h)
    · exact fun h => INV9_eq (EQD_glue hS_c68 hA_c68 sd sn (by decide +kernel)) (hI9 h)
  · skip
    have sd : SD [] (pul ι_opena3 D) (pul ι_opena3 D) := SD_refl
    have sn : SD [] (pul ι_opena3 N) (pul ι_opena3 N) := SD_refl
    have : Fₚ 8 1 = F 8 1 := sf 8 1 rfl
    have : Aₚ 9 = A 9 := funext (sa 9 rfl)
    refine k z _ (glu ι_opena3 D (pul ι_opena3 D)) (glu ι_opena3 N (pul ι_opena3 N)) (glu ι_opena3 F Fₚ) (glu ι_opena3 A Aₚ) _ _ ⟨HWs_call HX VPH_3 vs_opena3 hp Hₚ O, STC_call HT HX vs_opena3 hp O, hg0, PFI_glue (dl := []) hPF sf sa sd (by decide +kernel) (rexc_of (l := []) (by decide +kernel) ?_), ABS_glue hAB sf (by decide +kernel), NZ_glue hNZ vs_opena3 hp sn (by decide +kernel), hGI, ?_, ?_, ?_, ?_, ?_, ?_, ?_, ?_, ?_, ?_⟩ ⟨(STP0_call (STY_call vs_opena3 hp O) (sd 0 rfl) (RM_call vs_opena3 O)), unt1_of (x := 10) (by decide +kernel) (fun p hp => funext (sa p hp))⟩ (EQD_glue sf sa sd sn (by decide +kernel)) (show z = -50 ∧ (a1 < 0 ∨ 3 < a1 ∨ a3 < 0 ∨ 65536 < a3) ∨ z = -51 ∧ (0 ≤ a1 ∧ a1 ≤ 3 ∧ 0 ≤ a3 ∧ a3 ≤ 65536) ∧ (knF (sc ((A 9)) 0 ((F 8 1))) = 0 ∨ knF (sc ((A 9)) 0 ((F 8 1))) = 5) by first | assumption | omega | rfl)
    · intro e he h1 h2
      cases he
    · exact INV0_eq (EQD_glue sf sa sd sn (by decide +kernel)) hI0
    · exact fun h => INV1_eq (EQD_glue sf sa sd sn (by decide +kernel)) (hI1 h)
    · exact fun h => INV2_eq (EQD_glue sf sa sd sn (by decide +kernel)) (hI2 h)
    · exact fun h => INV3_eq (EQD_glue sf sa sd sn (by decide +kernel)) (hI3 h)
    · exact fun h => INV4_eq (EQD_glue sf sa sd sn (by decide +kernel)) (hI4 h)
    · exact fun h => INV5_eq (EQD_glue sf sa sd sn (by decide +kernel)) (hI5 h)
    · exact fun h => INV6_eq (EQD_glue sf sa sd sn (by decide +kernel)) (hI6 h)
    · exact fun h => INV7_eq (EQD_glue sf sa sd sn (by decide +kernel)) (hI7 h)
    · exact fun h => INV8_eq (EQD_glue sf sa sd sn (by decide +kernel)) (hI8 h)
    · exact fun h => INV9_eq (EQD_glue sf sa sd sn (by decide +kernel)) (hI9 h)
def ι_openb : List Nat := [0, 1, 2, 3, 4, 5, 6, 7, 8, 9, 27, 28]
theorem vs_openb : VS VPH V20_vB ι_openb := VS_of (by decide +kernel)
set_option maxRecDepth 20000 in
theorem T_openb {Dc : DcS} {g : Nat → Bool} {σ : rS} {D N : Nat → Nat} {F : hF} {A : hA} {d c s : Nat} {Q : wQ} (X : PHI Dc g σ D N F A)  {y1 y2 : Int} {ls : rO}  (h0 : inr y1) (h1 : inr y2) (x_0 : 0 ≤ y1 ∧ y1 ≤ 3) (k : ∀ (z : Int) (σₚ : rS) (Dₚ Nₚ : Nat → Nat) (Fₚ : hF) (Aₚ : hA) (cₚ sₚ : Nat), PHI Dc g σₚ Dₚ Nₚ Fₚ Aₚ → STP g σ D N A c s g σₚ Dₚ Nₚ Aₚ cₚ sₚ → EQD [(11, 1), (25, 1)] [12, 10, 29, 30, 32, 26] [] [] D N F A Dₚ Nₚ Fₚ Aₚ → (z = y2) → ((Fₚ 0 18) = (F 0 17)) → (IMP (y1 = 0 ∧ 0 ≤ y2) (sc ((Aₚ 3)) 0 ((Fₚ 2 1)) = sc ((A 28)) 0 ((F 27 1)))) → (IMP (y1 = 1 ∧ 0 ≤ y2) (sc ((Aₚ 5)) 0 ((Fₚ 4 1)) = sc ((A 28)) 0 ((F 27 1)))) → (IMP (y1 = 2 ∧ 0 ≤ y2) (sc ((Aₚ 7)) 0 ((Fₚ 6 1)) = sc ((A 28)) 0 ((F 27 1)))) → (IMP (y1 = 3 ∧ 0 ≤ y2) (sc ((Aₚ 9)) 0 ((Fₚ 8 1)) = sc ((A 28)) 0 ((F 27 1)))) → (IMP (y1 ≠ 0 ∨ y2 < 0) (sc ((Aₚ 3)) 0 ((Fₚ 2 1)) = sc ((A 3)) 0 ((F 2 1)))) → (IMP (y1 ≠ 1 ∨ y2 < 0) (sc ((Aₚ 5)) 0 ((Fₚ 4 1)) = sc ((A 5)) 0 ((F 4 1)))) → (IMP (y1 ≠ 2 ∨ y2 < 0) (sc ((Aₚ 7)) 0 ((Fₚ 6 1)) = sc ((A 7)) 0 ((F 6 1)))) → (IMP (y1 ≠ 3 ∨ y2 < 0) (sc ((Aₚ 9)) 0 ((Fₚ 8 1)) = sc ((A 9)) 0 ((F 8 1)))) → Q (some (I z)) σₚ cₚ sₚ) : Ew 20 (d + 5) 71 ls [I y2, I y1, .ref (D 0)] σ c s Q := by
  obtain ⟨HX, HT, hg0, hPF, hAB, hNZ, hGI, hI0, hI1, hI2, hI3, hI4, hI5, hI6, hI7, hI8, hI9⟩ := X
  have hset := SETI_f hI0.2.2.2.2.2.2.2.2.2.2.2.2.2.2.2.2.2.2.2.2.2.2.2.2
  have hJ0 := hI0
  unfold INV0 at hJ0
  obtain ⟨f0_0, f0_1, f0_2, f0_3, f0_4, f0_5, f0_6, f0_7, f0_8, f0_9, f0_10, f0_11, f0_12, f0_13, f0_14, f0_15, f0_16, f0_17, f0_18, f0_19, f0_20, f0_21, f0_22, f0_23, f0_24⟩ := hJ0
  have hp : ∀ x, x < (V20_vB).length → SPH g (ι_openb.getD x 0) = true := SPH_of (gs := [0]) (by intro j hj; simp at hj; subst hj; exact hg0) rfl (by decide +kernel)
  refine C20_vB (D := pul ι_openb D) (N := pul ι_openb N) (F := pul ι_openb F) (A := pul ι_openb A) (HWs_sub HX vs_openb hp) (show F 0 0 = (D 1 : Int) from hPF (0, 0, 0, 1) (List.mem_of_getElem? (i := 0) rfl) hg0 hg0) (show A 1 0 = (D 2 : Int) from hPF (1, 1, 0, 2) (List.mem_of_getElem? (i := 1) rfl) hg0 hg0) (show F 2 0 = (D 3 : Int) from hPF (0, 2, 0, 3) (List.mem_of_getElem? (i := 2) rfl) hg0 hg0) (show A 1 1 = (D 4 : Int) from hPF (1, 1, 1, 4) (List.mem_of_getElem? (i := 3) rfl) hg0 hg0) (show F 4 0 = (D 5 : Int) from hPF (0, 4, 0, 5) (List.mem_of_getElem? (i := 4) rfl) hg0 hg0) (show A 1 2 = (D 6 : Int) from hPF (1, 1, 2, 6) (List.mem_of_getElem? (i := 5) rfl) hg0 hg0) (show F 6 0 = (D 7 : Int) from hPF (0, 6, 0, 7) (List.mem_of_getElem? (i := 6) rfl) hg0 hg0) (show A 1 3 = (D 8 : Int) from hPF (1, 1, 3, 8) (List.mem_of_getElem? (i := 7) rfl) hg0 hg0) (show F 8 0 = (D 9 : Int) from hPF (0, 8, 0, 9) (List.mem_of_getElem? (i := 8) rfl) hg0 hg0) (show F 0 6 = (D 27 : Int) from hPF (0, 0, 6, 27) (List.mem_of_getElem? (i := 26) rfl) hg0 hg0) (show F 27 0 = (D 28 : Int) from hPF (0, 27, 0, 28) (List.mem_of_getElem? (i := 27) rfl) hg0 hg0) (N 1 : Int) rfl (N 3 : Int) rfl (N 5 : Int) rfl (N 7 : Int) rfl (N 9 : Int) rfl (N 28 : Int) rfl (F 0 17) rfl (F 0 18) rfl (F 2 1) rfl (F 2 2) rfl (F 4 1) rfl (F 4 2) rfl (F 6 1) rfl (F 6 2) rfl (F 8 1) rfl (F 8 2) rfl (F 27 1) rfl (A 3) rfl (A 5) rfl (A 7) rfl (A 9) rfl (A 28) rfl   (show inr y1 by first | assumption | omega) (show inr y2 by first | assumption | omega) (show ((N 1 : Int)) = 4 by first | assumption | omega) (show 0 ≤ (F 2 1) ∧ (F 2 1) ≤ ((N 3 : Int)) ∧ ((N 3 : Int)) ≤ 65536 by first | assumption | omega) (show 0 ≤ (F 4 1) ∧ (F 4 1) ≤ ((N 5 : Int)) ∧ ((N 5 : Int)) ≤ 65536 by first | assumption | omega) (show 0 ≤ (F 6 1) ∧ (F 6 1) ≤ ((N 7 : Int)) ∧ ((N 7 : Int)) ≤ 65536 by first | assumption | omega) (show 0 ≤ (F 8 1) ∧ (F 8 1) ≤ ((N 9 : Int)) ∧ ((N 9 : Int)) ≤ 65536 by first | assumption | omega) (show (F 2 2) = 0 by first | assumption | omega) (show (F 4 2) = 0 by first | assumption | omega) (show (F 6 2) = 0 by first | assumption | omega) (show (F 8 2) = 0 by first | assumption | omega) (show 0 ≤ (F 27 1) ∧ (F 27 1) ≤ ((N 28 : Int)) ∧ ((N 28 : Int)) ≤ 65536 by first | assumption | omega) (show 0 ≤ y1 ∧ y1 ≤ 3 by first | assumption | omega) (fun z σₚ Dₚ Nₚ Fₚ Aₚ cₚ sₚ Hₚ O sd sn sf sa pm3 pm5 pm7 pm9 m3 em3 m5 em5 m7 em7 m9 em9 y0_18 ey0_18 y2_1 ey2_1 y2_2 ey2_2 y4_1 ey4_1 y4_2 ey4_2 y6_1 ey6_1 y6_2 ey6_2 y8_1 ey8_1 y8_2 ey8_2 v3 ev3 v5 ev5 v7 ev7 v9 ev9 q0 q1 q2 q3 q4 q5 q6 q7 q8 q9 q10 q11 q12 q13 q14 q15 q16 q17 q18 q19 => ?_)
  · skip
    subst em3 em5 em7 em9 ey0_18 ey2_1 ey2_2 ey4_1 ey4_2 ey6_1 ey6_2 ey8_1 ey8_2 ev3 ev5 ev7 ev9
    have : Fₚ 0 17 = F 0 17 := sf 0 17 rfl
    have : Fₚ 10 1 = F 27 1 := sf 10 1 rfl
    have : Aₚ 11 = A 28 := funext (sa 11 rfl)
    refine k z _ (glu ι_openb D Dₚ) (glu ι_openb N Nₚ) (glu ι_openb F Fₚ) (glu ι_openb A Aₚ) _ _ ⟨HWs_call HX VPH_3 vs_openb hp Hₚ O, STC_call HT HX vs_openb hp O, hg0, PFI_glue (dl := [3, 5, 7, 9]) hPF sf sa sd (by decide +kernel) (rexc_of (l := [(0, 2, 0, 3), (0, 4, 0, 5), (0, 6, 0, 7), (0, 8, 0, 9)]) (by decide +kernel) ?_), ABS_glue hAB sf (by decide +kernel), NZ_glue hNZ vs_openb hp sn (by decide +kernel), hGI, ?_, ?_, ?_, ?_, ?_, ?_, ?_, ?_, ?_, ?_⟩ ⟨(STP0_call (STY_call vs_openb hp O) (sd 0 rfl) (RM_call vs_openb O)), unt1_of (x := 10) (by decide +kernel) (fun p hp => funext (sa p hp))⟩ (EQD_glue sf sa sd sn (by decide +kernel)) (show z = y2 by first | assumption | omega | rfl) (show (Fₚ 0 18) = (F 0 17) by first | assumption | omega | rfl) (show IMP (y1 = 0 ∧ 0 ≤ y2) (sc ((Aₚ 3)) 0 ((Fₚ 2 1)) = sc ((A 28)) 0 ((F 27 1))) by first | assumption | omega | rfl) (show IMP (y1 = 1 ∧ 0 ≤ y2) (sc ((Aₚ 5)) 0 ((Fₚ 4 1)) = sc ((A 28)) 0 ((F 27 1))) by first | assumption | omega | rfl) (show IMP (y1 = 2 ∧ 0 ≤ y2) (sc ((Aₚ 7)) 0 ((Fₚ 6 1)) = sc ((A 28)) 0 ((F 27 1))) by first | assumption | omega | rfl) (show IMP (y1 = 3 ∧ 0 ≤ y2) (sc ((Aₚ 9)) 0 ((Fₚ 8 1)) = sc ((A 28)) 0 ((F 27 1))) by first | assumption | omega | rfl) (show IMP (y1 ≠ 0 ∨ y2 < 0) (sc ((Aₚ 3)) 0 ((Fₚ 2 1)) = sc ((A 3)) 0 ((F 2 1))) by first | assumption | omega | rfl) (show IMP (y1 ≠ 1 ∨ y2 < 0) (sc ((Aₚ 5)) 0 ((Fₚ 4 1)) = sc ((A 5)) 0 ((F 4 1))) by first | assumption | omega | rfl) (show IMP (y1 ≠ 2 ∨ y2 < 0) (sc ((Aₚ 7)) 0 ((Fₚ 6 1)) = sc ((A 7)) 0 ((F 6 1))) by first | assumption | omega | rfl) (show IMP (y1 ≠ 3 ∨ y2 < 0) (sc ((Aₚ 9)) 0 ((Fₚ 8 1)) = sc ((A 9)) 0 ((F 8 1))) by first | assumption | omega | rfl)
    · intro e he h1 h2
      simp only [List.mem_cons, List.not_mem_nil, or_false] at he
      rcases he with rfl | rfl | rfl | rfl
      · exact pm3
      · exact pm5
      · exact pm7
      · exact pm9
    · skip
      exact ⟨show 0 ≤ (Fₚ 2 1) ∧ (Fₚ 2 1) ≤ ((Nₚ 3 : Int)) ∧ ((Nₚ 3 : Int)) ≤ 65536 from (by first | assumption | omega), show 0 ≤ (Fₚ 4 1) ∧ (Fₚ 4 1) ≤ ((Nₚ 5 : Int)) ∧ ((Nₚ 5 : Int)) ≤ 65536 from (by first | assumption | omega), show 0 ≤ (Fₚ 6 1) ∧ (Fₚ 6 1) ≤ ((Nₚ 7 : Int)) ∧ ((Nₚ 7 : Int)) ≤ 65536 from (by first | assumption | omega), show 0 ≤ (Fₚ 8 1) ∧ (Fₚ 8 1) ≤ ((Nₚ 9 : Int)) ∧ ((Nₚ 9 : Int)) ≤ 65536 from (by first | assumption | omega), QF0_4_eq (EQD_glue sf sa sd sn (by decide +kernel)) f0_4, QF0_5_eq (EQD_glue sf sa sd sn (by decide +kernel)) f0_5, QF0_6_eq (EQD_glue sf sa sd sn (by decide +kernel)) f0_6, QF0_7_eq (EQD_glue sf sa sd sn (by decide +kernel)) f0_7, QF0_8_eq (EQD_glue sf sa sd sn (by decide +kernel)) f0_8, QF0_9_eq (EQD_glue sf sa sd sn (by decide +kernel)) f0_9, QF0_10_eq (EQD_glue sf sa sd sn (by decide +kernel)) f0_10, QF0_11_eq (EQD_glue sf sa sd sn (by decide +kernel)) f0_11, QF0_12_eq (EQD_glue sf sa sd sn (by decide +kernel)) f0_12, QF0_13_eq (EQD_glue sf sa sd sn (by decide +kernel)) f0_13, QF0_14_eq (EQD_glue sf sa sd sn (by decide +kernel)) f0_14, QF0_15_eq (EQD_glue sf sa sd sn (by decide +kernel)) f0_15, QF0_16_eq (EQD_glue sf sa sd sn (by decide +kernel)) f0_16, show (Fₚ 2 2) = 0 from (by first | assumption | omega), show (Fₚ 4 2) = 0 from (by first | assumption | omega), show (Fₚ 6 2) = 0 from (by first | assumption | omega), show (Fₚ 8 2) = 0 from (by first | assumption | omega), QF0_21_eq (EQD_glue sf sa sd sn (by decide +kernel)) f0_21, QF0_22_eq (EQD_glue sf sa sd sn (by decide +kernel)) f0_22, QF0_23_eq (EQD_glue sf sa sd sn (by decide +kernel)) f0_23, QF0_24_eq (EQD_glue sf sa sd sn (by decide +kernel)) f0_24⟩
    · exact fun h => INV1_eq (EQD_glue sf sa sd sn (by decide +kernel)) (hI1 h)
    · exact fun h => INV2_eq (EQD_glue sf sa sd sn (by decide +kernel)) (hI2 h)
    · exact fun h => INV3_eq (EQD_glue sf sa sd sn (by decide +kernel)) (hI3 h)
    · exact fun h => INV4_eq (EQD_glue sf sa sd sn (by decide +kernel)) (hI4 h)
    · exact fun h => INV5_eq (EQD_glue sf sa sd sn (by decide +kernel)) (hI5 h)
    · exact fun h => INV6_eq (EQD_glue sf sa sd sn (by decide +kernel)) (hI6 h)
    · exact fun h => INV7_eq (EQD_glue sf sa sd sn (by decide +kernel)) (hI7 h)
    · exact fun h => INV8_eq (EQD_glue sf sa sd sn (by decide +kernel)) (hI8 h)
    · exact fun h => INV9_eq (EQD_glue sf sa sd sn (by decide +kernel)) (hI9 h)
def ι_openx : List Nat := [0]
theorem vs_openx : VS VPH V20_vX ι_openx := VS_of (by decide +kernel)
set_option maxRecDepth 20000 in
theorem T_openx {Dc : DcS} {g : Nat → Bool} {σ : rS} {D N : Nat → Nat} {F : hF} {A : hA} {d c s : Nat} {Q : wQ} (X : PHI Dc g σ D N F A)  {a1 a2 a3 : Int}  (h0 : inr a1) (h1 : inr a2) (h2 : inr a3) (x_0 : a2 < 0 ∨ 4 ≤ a2) (k : ∀ (z : Int) (σₚ : rS) (Dₚ Nₚ : Nat → Nat) (Fₚ : hF) (Aₚ : hA) (cₚ sₚ : Nat), PHI Dc g σₚ Dₚ Nₚ Fₚ Aₚ → STP g σ D N A c s g σₚ Dₚ Nₚ Aₚ cₚ sₚ → EQD [(2, 1), (4, 1), (6, 1), (8, 1), (11, 1), (0, 18), (25, 1)] [3, 5, 7, 9, 12, 10, 29, 30, 32, 26] [] [] D N F A Dₚ Nₚ Fₚ Aₚ → (z = -50) → Q (some (I z)) σₚ cₚ sₚ) : Ew 20 (d + 1) 0 (rargs 0 [.ref (D 0), I a1, I a2, I a3]) [] σ c s Q := by
  obtain ⟨HX, HT, hg0, hPF, hAB, hNZ, hGI, hI0, hI1, hI2, hI3, hI4, hI5, hI6, hI7, hI8, hI9⟩ := X
  have hset := SETI_f hI0.2.2.2.2.2.2.2.2.2.2.2.2.2.2.2.2.2.2.2.2.2.2.2.2
  have hJ0 := hI0
  unfold INV0 at hJ0
  obtain ⟨f0_0, f0_1, f0_2, f0_3, f0_4, f0_5, f0_6, f0_7, f0_8, f0_9, f0_10, f0_11, f0_12, f0_13, f0_14, f0_15, f0_16, f0_17, f0_18, f0_19, f0_20, f0_21, f0_22, f0_23, f0_24⟩ := hJ0
  have hp : ∀ x, x < (V20_vX).length → SPH g (ι_openx.getD x 0) = true := SPH_of (gs := [0]) (by intro j hj; simp at hj; subst hj; exact hg0) rfl (by decide +kernel)
  refine C20_vX (D := pul ι_openx D) (N := pul ι_openx N) (F := pul ι_openx F) (A := pul ι_openx A) (HWs_sub HX vs_openx hp)       (show inr (a1) by first | assumption | omega) (show inr (a2) by first | assumption | omega) (show inr (a3) by first | assumption | omega) (show (a2) < 0 ∨ 4 ≤ (a2) by first | assumption | omega) (fun z σₚ Fₚ Aₚ Hₚ O sf sa q0 q1 => ?_)
  · skip
    have sd : SD [] (pul ι_openx D) (pul ι_openx D) := SD_refl
    have sn : SD [] (pul ι_openx N) (pul ι_openx N) := SD_refl
    refine k z _ (glu ι_openx D (pul ι_openx D)) (glu ι_openx N (pul ι_openx N)) (glu ι_openx F Fₚ) (glu ι_openx A Aₚ) _ _ ⟨HWs_call HX VPH_3 vs_openx hp Hₚ O, STC_call HT HX vs_openx hp O, hg0, PFI_glue (dl := []) hPF sf sa sd (by decide +kernel) (rexc_of (l := []) (by decide +kernel) ?_), ABS_glue hAB sf (by decide +kernel), NZ_glue hNZ vs_openx hp sn (by decide +kernel), hGI, ?_, ?_, ?_, ?_, ?_, ?_, ?_, ?_, ?_, ?_⟩ ⟨(STP0_call (STY_call vs_openx hp O) (sd 0 rfl) (RM_call vs_openx O)), unt1_of (x := 10) (by decide +kernel) (fun p hp => funext (sa p hp))⟩ (EQD_glue sf sa sd sn (by decide +kernel)) (show z = -50 by first | assumption | omega | rfl)
    · intro e he h1 h2
      cases he
    · exact INV0_eq (EQD_glue sf sa sd sn (by decide +kernel)) hI0
    · exact fun h => INV1_eq (EQD_glue sf sa sd sn (by decide +kernel)) (hI1 h)
    · exact fun h => INV2_eq (EQD_glue sf sa sd sn (by decide +kernel)) (hI2 h)
    · exact fun h => INV3_eq (EQD_glue sf sa sd sn (by decide +kernel)) (hI3 h)
    · exact fun h => INV4_eq (EQD_glue sf sa sd sn (by decide +kernel)) (hI4 h)
    · exact fun h => INV5_eq (EQD_glue sf sa sd sn (by decide +kernel)) (hI5 h)
    · exact fun h => INV6_eq (EQD_glue sf sa sd sn (by decide +kernel)) (hI6 h)
    · exact fun h => INV7_eq (EQD_glue sf sa sd sn (by decide +kernel)) (hI7 h)
    · exact fun h => INV8_eq (EQD_glue sf sa sd sn (by decide +kernel)) (hI8 h)
    · exact fun h => INV9_eq (EQD_glue sf sa sd sn (by decide +kernel)) (hI9 h)


end
