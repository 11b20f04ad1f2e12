/-! unpackRow over the state -/
theorem T_ur0_r0 {g : Nat → Bool} {σ : rS} {D N : Nat → Nat} {F : hF} {A : hA} {d c s : Nat} {Q : wQ} (X : PHI g σ D N F A) {a3 : Int} (h3 : 0 ≤ a3 ∧ a3 ≤ 65536) (k : ∀ (z : Int) (gₚ : Nat → Bool) (σₚ : rS) (Dₚ Nₚ : Nat → Nat) (Fₚ : hF) (Aₚ : hA) (cₚ sₚ : Nat), PHI gₚ σₚ Dₚ Nₚ Fₚ Aₚ → STP g σ D N A c s gₚ σₚ Dₚ Nₚ Aₚ cₚ sₚ → inr z → (∀ j, g j = true → gₚ j = true) → Q (some (I z)) σₚ cₚ sₚ) : Ew 32 (d + 7) 0 (rargs 0 [.ref (D 0), .ref (D 2), I 0, I a3, .ref (D 30)]) [] σ c s Q := by
  refine T_ua0_r0 (d := d + 6) X (show inr a3 by omega) (fun ls σ1 D1 N1 F1 A1 c1 s1 X1 S1 l0 l1 l3 e1 => ?_) (fun z σ1 D1 N1 F1 A1 c1 s1 X1 S1 zr => k z g σ1 D1 N1 F1 A1 c1 s1 X1 S1 zr (fun _ h => h))
  have hg0 : g 0 = true := X1.2.2.1
  refine w_callk rfl (fun rec => rinvv rfl rfl (X1.1.obj 0 (by decide +kernel) hg0 rfl) rec) rfl (T_the_tok (d := d + 2) X1 (fun g2 σ2 D2 N2 F2 A2 c2 s2 X2 S2 K2 hj hle => ⟨rfl, ?_⟩))
  have e2 : F2 27 1 = 0 := by rw [((K2 27 (by decide +kernel) hg0).2 (by decide)).2.2]; exact e1
  have d0 : D2 0 = D1 0 := (K2 0 (by decide +kernel) hg0).1
  have d1 : D2 2 = D1 2 := (K2 2 (by decide +kernel) hg0).1
  exact T_ub0_r0 (d := d + 2) X2 hj (by rw [d0]; exact l0) (by rw [d1]; exact l1) l3 (show inr a3 by omega) e2 h3  (fun z σ3 D3 N3 F3 A3 c3 s3 X3 S3 zr => k z g2 σ3 D3 N3 F3 A3 c3 s3 X3 (STP_trans (STP_tr0 S1 S2) S3) zr hle)
theorem T_ur0_r1 {g : Nat → Bool} {σ : rS} {D N : Nat → Nat} {F : hF} {A : hA} {d c s : Nat} {Q : wQ} (X : PHI g σ D N F A) {a3 : Int} (h3 : 0 ≤ a3 ∧ a3 ≤ 65536) (k : ∀ (z : Int) (gₚ : Nat → Bool) (σₚ : rS) (Dₚ Nₚ : Nat → Nat) (Fₚ : hF) (Aₚ : hA) (cₚ sₚ : Nat), PHI gₚ σₚ Dₚ Nₚ Fₚ Aₚ → STP g σ D N A c s gₚ σₚ Dₚ Nₚ Aₚ cₚ sₚ → inr z → (∀ j, g j = true → gₚ j = true) → Q (some (I z)) σₚ cₚ sₚ) : Ew 32 (d + 7) 0 (rargs 0 [.ref (D 0), .ref (D 4), I 0, I a3, .ref (D 30)]) [] σ c s Q := by
  refine T_ua0_r1 (d := d + 6) X (show inr a3 by omega) (fun ls σ1 D1 N1 F1 A1 c1 s1 X1 S1 l0 l1 l3 e1 => ?_) (fun z σ1 D1 N1 F1 A1 c1 s1 X1 S1 zr => k z g σ1 D1 N1 F1 A1 c1 s1 X1 S1 zr (fun _ h => h))
  have hg0 : g 0 = true := X1.2.2.1
  refine w_callk rfl (fun rec => rinvv rfl rfl (X1.1.obj 0 (by decide +kernel) hg0 rfl) rec) rfl (T_the_tok (d := d + 2) X1 (fun g2 σ2 D2 N2 F2 A2 c2 s2 X2 S2 K2 hj hle => ⟨rfl, ?_⟩))
  have e2 : F2 27 1 = 0 := by rw [((K2 27 (by decide +kernel) hg0).2 (by decide)).2.2]; exact e1
  have d0 : D2 0 = D1 0 := (K2 0 (by decide +kernel) hg0).1
  have d1 : D2 4 = D1 4 := (K2 4 (by decide +kernel) hg0).1
  exact T_ub0_r1 (d := d + 2) X2 hj (by rw [d0]; exact l0) (by rw [d1]; exact l1) l3 (show inr a3 by omega) e2 h3  (fun z σ3 D3 N3 F3 A3 c3 s3 X3 S3 zr => k z g2 σ3 D3 N3 F3 A3 c3 s3 X3 (STP_trans (STP_tr0 S1 S2) S3) zr hle)
theorem T_ur0_r2 {g : Nat → Bool} {σ : rS} {D N : Nat → Nat} {F : hF} {A : hA} {d c s : Nat} {Q : wQ} (X : PHI g σ D N F A) {a3 : Int} (h3 : 0 ≤ a3 ∧ a3 ≤ 65536) (k : ∀ (z : Int) (gₚ : Nat → Bool) (σₚ : rS) (Dₚ Nₚ : Nat → Nat) (Fₚ : hF) (Aₚ : hA) (cₚ sₚ : Nat), PHI gₚ σₚ Dₚ Nₚ Fₚ Aₚ → STP g σ D N A c s gₚ σₚ Dₚ Nₚ Aₚ cₚ sₚ → inr z → (∀ j, g j = true → gₚ j = true) → Q (some (I z)) σₚ cₚ sₚ) : Ew 32 (d + 7) 0 (rargs 0 [.ref (D 0), .ref (D 6), I 0, I a3, .ref (D 30)]) [] σ c s Q := by
  refine T_ua0_r2 (d := d + 6) X (show inr a3 by omega) (fun ls σ1 D1 N1 F1 A1 c1 s1 X1 S1 l0 l1 l3 e1 => ?_) (fun z σ1 D1 N1 F1 A1 c1 s1 X1 S1 zr => k z g σ1 D1 N1 F1 A1 c1 s1 X1 S1 zr (fun _ h => h))
  have hg0 : g 0 = true := X1.2.2.1
  refine w_callk rfl (fun rec => rinvv rfl rfl (X1.1.obj 0 (by decide +kernel) hg0 rfl) rec) rfl (T_the_tok (d := d + 2) X1 (fun g2 σ2 D2 N2 F2 A2 c2 s2 X2 S2 K2 hj hle => ⟨rfl, ?_⟩))
  have e2 : F2 27 1 = 0 := by rw [((K2 27 (by decide +kernel) hg0).2 (by decide)).2.2]; exact e1
  have d0 : D2 0 = D1 0 := (K2 0 (by decide +kernel) hg0).1
  have d1 : D2 6 = D1 6 := (K2 6 (by decide +kernel) hg0).1
  exact T_ub0_r2 (d := d + 2) X2 hj (by rw [d0]; exact l0) (by rw [d1]; exact l1) l3 (show inr a3 by omega) e2 h3  (fun z σ3 D3 N3 F3 A3 c3 s3 X3 S3 zr => k z g2 σ3 D3 N3 F3 A3 c3 s3 X3 (STP_trans (STP_tr0 S1 S2) S3) zr hle)
theorem T_ur0_r3 {g : Nat → Bool} {σ : rS} {D N : Nat → Nat} {F : hF} {A : hA} {d c s : Nat} {Q : wQ} (X : PHI g σ D N F A) {a3 : Int} (h3 : 0 ≤ a3 ∧ a3 ≤ 65536) (k : ∀ (z : Int) (gₚ : Nat → Bool) (σₚ : rS) (Dₚ Nₚ : Nat → Nat) (Fₚ : hF) (Aₚ : hA) (cₚ sₚ : Nat), PHI gₚ σₚ Dₚ Nₚ Fₚ Aₚ → STP g σ D N A c s gₚ σₚ Dₚ Nₚ Aₚ cₚ sₚ → inr z → (∀ j, g j = true → gₚ j = true) → Q (some (I z)) σₚ cₚ sₚ) : Ew 32 (d + 7) 0 (rargs 0 [.ref (D 0), .ref (D 8), I 0, I a3, .ref (D 30)]) [] σ c s Q := by
  refine T_ua0_r3 (d := d + 6) X (show inr a3 by omega) (fun ls σ1 D1 N1 F1 A1 c1 s1 X1 S1 l0 l1 l3 e1 => ?_) (fun z σ1 D1 N1 F1 A1 c1 s1 X1 S1 zr => k z g σ1 D1 N1 F1 A1 c1 s1 X1 S1 zr (fun _ h => h))
  have hg0 : g 0 = true := X1.2.2.1
  refine w_callk rfl (fun rec => rinvv rfl rfl (X1.1.obj 0 (by decide +kernel) hg0 rfl) rec) rfl (T_the_tok (d := d + 2) X1 (fun g2 σ2 D2 N2 F2 A2 c2 s2 X2 S2 K2 hj hle => ⟨rfl, ?_⟩))
  have e2 : F2 27 1 = 0 := by rw [((K2 27 (by decide +kernel) hg0).2 (by decide)).2.2]; exact e1
  have d0 : D2 0 = D1 0 := (K2 0 (by decide +kernel) hg0).1
  have d1 : D2 8 = D1 8 := (K2 8 (by decide +kernel) hg0).1
  exact T_ub0_r3 (d := d + 2) X2 hj (by rw [d0]; exact l0) (by rw [d1]; exact l1) l3 (show inr a3 by omega) e2 h3  (fun z σ3 D3 N3 F3 A3 c3 s3 X3 S3 zr => k z g2 σ3 D3 N3 F3 A3 c3 s3 X3 (STP_trans (STP_tr0 S1 S2) S3) zr hle)
theorem T_ur0_w {g : Nat → Bool} {σ : rS} {D N : Nat → Nat} {F : hF} {A : hA} {d c s : Nat} {Q : wQ} (X : PHI g σ D N F A) {a3 : Int} (h3 : 0 ≤ a3 ∧ a3 ≤ 65536) (k : ∀ (z : Int) (gₚ : Nat → Bool) (σₚ : rS) (Dₚ Nₚ : Nat → Nat) (Fₚ : hF) (Aₚ : hA) (cₚ sₚ : Nat), PHI gₚ σₚ Dₚ Nₚ Fₚ Aₚ → STP g σ D N A c s gₚ σₚ Dₚ Nₚ Aₚ cₚ sₚ → inr z → (∀ j, g j = true → gₚ j = true) → ((Fₚ 2 1) = (F 2 1)) → ((Fₚ 4 1) = (F 4 1)) → ((Fₚ 6 1) = (F 6 1)) → ((Fₚ 8 1) = (F 8 1)) → ((((Dₚ 2 : Nat) : Int)) = (((D 2 : Nat) : Int))) → ((((Dₚ 4 : Nat) : Int)) = (((D 4 : Nat) : Int))) → ((((Dₚ 6 : Nat) : Int)) = (((D 6 : Nat) : Int))) → ((((Dₚ 8 : Nat) : Int)) = (((D 8 : Nat) : Int))) → Q (some (I z)) σₚ cₚ sₚ) : Ew 32 (d + 7) 0 (rargs 0 [.ref (D 0), .ref (D 25), I 0, I a3, .ref (D 31)]) [] σ c s Q := by
  refine T_ua0_w (d := d + 6) X (show inr a3 by omega) (fun ls σ1 D1 N1 F1 A1 c1 s1 X1 S1 l0 l1 l3 e1 r0 r1 r2 r3 r4 r5 r6 r7 => ?_) (fun z σ1 D1 N1 F1 A1 c1 s1 X1 S1 zr r0 r1 r2 r3 r4 r5 r6 r7 => k z g σ1 D1 N1 F1 A1 c1 s1 X1 S1 zr (fun _ h => h) r0 r1 r2 r3 r4 r5 r6 r7)
  have hg0 : g 0 = true := X1.2.2.1
  refine w_callk rfl (fun rec => rinvv rfl rfl (X1.1.obj 0 (by decide +kernel) hg0 rfl) rec) rfl (T_the_tok (d := d + 2) X1 (fun g2 σ2 D2 N2 F2 A2 c2 s2 X2 S2 K2 hj hle => ⟨rfl, ?_⟩))
  have e2 : F2 27 1 = 0 := by rw [((K2 27 (by decide +kernel) hg0).2 (by decide)).2.2]; exact e1
  have d0 : D2 0 = D1 0 := (K2 0 (by decide +kernel) hg0).1
  have d1 : D2 25 = D1 25 := (K2 25 (by decide +kernel) hg0).1
  have q0 : (F2 2 1) = (F 2 1) := by have := r0; rw [((K2 2 (by decide +kernel) hg0).2 (by decide)).2.2]; exact this
  have q1 : (F2 4 1) = (F 4 1) := by have := r1; rw [((K2 4 (by decide +kernel) hg0).2 (by decide)).2.2]; exact this
  have q2 : (F2 6 1) = (F 6 1) := by have := r2; rw [((K2 6 (by decide +kernel) hg0).2 (by decide)).2.2]; exact this
  have q3 : (F2 8 1) = (F 8 1) := by have := r3; rw [((K2 8 (by decide +kernel) hg0).2 (by decide)).2.2]; exact this
  have q4 : (((D2 2 : Nat) : Int)) = (((D 2 : Nat) : Int)) := by have := r4; rw [(K2 2 (by decide +kernel) hg0).1]; exact this
  have q5 : (((D2 4 : Nat) : Int)) = (((D 4 : Nat) : Int)) := by have := r5; rw [(K2 4 (by decide +kernel) hg0).1]; exact this
  have q6 : (((D2 6 : Nat) : Int)) = (((D 6 : Nat) : Int)) := by have := r6; rw [(K2 6 (by decide +kernel) hg0).1]; exact this
  have q7 : (((D2 8 : Nat) : Int)) = (((D 8 : Nat) : Int)) := by have := r7; rw [(K2 8 (by decide +kernel) hg0).1]; exact this
  exact T_ub0_w (d := d + 2) X2 hj (by rw [d0]; exact l0) (by rw [d1]; exact l1) l3 (show inr a3 by omega) e2 h3  (fun z σ3 D3 N3 F3 A3 c3 s3 X3 S3 zr t0 t1 t2 t3 t4 t5 t6 t7 => k z g2 σ3 D3 N3 F3 A3 c3 s3 X3 (STP_trans (STP_tr0 S1 S2) S3) zr hle (by omega) (by omega) (by omega) (by omega) (by omega) (by omega) (by omega) (by omega))
theorem T_ur1_r0 {g : Nat → Bool} {σ : rS} {D N : Nat → Nat} {F : hF} {A : hA} {d c s : Nat} {Q : wQ} (X : PHI g σ D N F A) {a3 : Int} (h3 : 0 ≤ a3 ∧ a3 ≤ 65536) (k : ∀ (z : Int) (gₚ : Nat → Bool) (σₚ : rS) (Dₚ Nₚ : Nat → Nat) (Fₚ : hF) (Aₚ : hA) (cₚ sₚ : Nat), PHI gₚ σₚ Dₚ Nₚ Fₚ Aₚ → STP g σ D N A c s gₚ σₚ Dₚ Nₚ Aₚ cₚ sₚ → inr z → (∀ j, g j = true → gₚ j = true) → Q (some (I z)) σₚ cₚ sₚ) : Ew 32 (d + 7) 0 (rargs 0 [.ref (D 0), .ref (D 2), I 1, I a3, .ref (D 30)]) [] σ c s Q := by
  refine T_ua1_r0 (d := d + 6) X (show inr a3 by omega) (fun ls σ1 D1 N1 F1 A1 c1 s1 X1 S1 l0 l1 l3 e1 => ?_) (fun z σ1 D1 N1 F1 A1 c1 s1 X1 S1 zr => k z g σ1 D1 N1 F1 A1 c1 s1 X1 S1 zr (fun _ h => h))
  have hg0 : g 0 = true := X1.2.2.1
  refine w_callk rfl (fun rec => rinvv rfl rfl (X1.1.obj 0 (by decide +kernel) hg0 rfl) rec) rfl (T_the_tok (d := d + 2) X1 (fun g2 σ2 D2 N2 F2 A2 c2 s2 X2 S2 K2 hj hle => ⟨rfl, ?_⟩))
  have e2 : F2 27 1 = 0 := by rw [((K2 27 (by decide +kernel) hg0).2 (by decide)).2.2]; exact e1
  have d0 : D2 0 = D1 0 := (K2 0 (by decide +kernel) hg0).1
  have d1 : D2 2 = D1 2 := (K2 2 (by decide +kernel) hg0).1
  exact T_ub1_r0 (d := d + 1) X2 hj (by rw [d0]; exact l0) (by rw [d1]; exact l1) l3 (show inr a3 by omega) e2 h3  (fun z σ3 D3 N3 F3 A3 c3 s3 X3 S3 zr => k z g2 σ3 D3 N3 F3 A3 c3 s3 X3 (STP_trans (STP_tr0 S1 S2) S3) zr hle)
theorem T_ur1_r1 {g : Nat → Bool} {σ : rS} {D N : Nat → Nat} {F : hF} {A : hA} {d c s : Nat} {Q : wQ} (X : PHI g σ D N F A) {a3 : Int} (h3 : 0 ≤ a3 ∧ a3 ≤ 65536) (k : ∀ (z : Int) (gₚ : Nat → Bool) (σₚ : rS) (Dₚ Nₚ : Nat → Nat) (Fₚ : hF) (Aₚ : hA) (cₚ sₚ : Nat), PHI gₚ σₚ Dₚ Nₚ Fₚ Aₚ → STP g σ D N A c s gₚ σₚ Dₚ Nₚ Aₚ cₚ sₚ → inr z → (∀ j, g j = true → gₚ j = true) → Q (some (I z)) σₚ cₚ sₚ) : Ew 32 (d + 7) 0 (rargs 0 [.ref (D 0), .ref (D 4), I 1, I a3, .ref (D 30)]) [] σ c s Q := by
  refine T_ua1_r1 (d := d + 6) X (show inr a3 by omega) (fun ls σ1 D1 N1 F1 A1 c1 s1 X1 S1 l0 l1 l3 e1 => ?_) (fun z σ1 D1 N1 F1 A1 c1 s1 X1 S1 zr => k z g σ1 D1 N1 F1 A1 c1 s1 X1 S1 zr (fun _ h => h))
  have hg0 : g 0 = true := X1.2.2.1
  refine w_callk rfl (fun rec => rinvv rfl rfl (X1.1.obj 0 (by decide +kernel) hg0 rfl) rec) rfl (T_the_tok (d := d + 2) X1 (fun g2 σ2 D2 N2 F2 A2 c2 s2 X2 S2 K2 hj hle => ⟨rfl, ?_⟩))
  have e2 : F2 27 1 = 0 := by rw [((K2 27 (by decide +kernel) hg0).2 (by decide)).2.2]; exact e1
  have d0 : D2 0 = D1 0 := (K2 0 (by decide +kernel) hg0).1
  have d1 : D2 4 = D1 4 := (K2 4 (by decide +kernel) hg0).1
  exact T_ub1_r1 (d := d + 1) X2 hj (by rw [d0]; exact l0) (by rw [d1]; exact l1) l3 (show inr a3 by omega) e2 h3  (fun z σ3 D3 N3 F3 A3 c3 s3 X3 S3 zr => k z g2 σ3 D3 N3 F3 A3 c3 s3 X3 (STP_trans (STP_tr0 S1 S2) S3) zr hle)
theorem T_ur1_r2 {g : Nat → Bool} {σ : rS} {D N : Nat → Nat} {F : hF} {A : hA} {d c s : Nat} {Q : wQ} (X : PHI g σ D N F A) {a3 : Int} (h3 : 0 ≤ a3 ∧ a3 ≤ 65536) (k : ∀ (z : Int) (gₚ : Nat → Bool) (σₚ : rS) (Dₚ Nₚ : Nat → Nat) (Fₚ : hF) (Aₚ : hA) (cₚ sₚ : Nat), PHI gₚ σₚ Dₚ Nₚ Fₚ Aₚ → STP g σ D N A c s gₚ σₚ Dₚ Nₚ Aₚ cₚ sₚ → inr z → (∀ j, g j = true → gₚ j = true) → Q (some (I z)) σₚ cₚ sₚ) : Ew 32 (d + 7) 0 (rargs 0 [.ref (D 0), .ref (D 6), I 1, I a3, .ref (D 30)]) [] σ c s Q := by
  refine T_ua1_r2 (d := d + 6) X (show inr a3 by omega) (fun ls σ1 D1 N1 F1 A1 c1 s1 X1 S1 l0 l1 l3 e1 => ?_) (fun z σ1 D1 N1 F1 A1 c1 s1 X1 S1 zr => k z g σ1 D1 N1 F1 A1 c1 s1 X1 S1 zr (fun _ h => h))
  have hg0 : g 0 = true := X1.2.2.1
  refine w_callk rfl (fun rec => rinvv rfl rfl (X1.1.obj 0 (by decide +kernel) hg0 rfl) rec) rfl (T_the_tok (d := d + 2) X1 (fun g2 σ2 D2 N2 F2 A2 c2 s2 X2 S2 K2 hj hle => ⟨rfl, ?_⟩))
  have e2 : F2 27 1 = 0 := by rw [((K2 27 (by decide +kernel) hg0).2 (by decide)).2.2]; exact e1
  have d0 : D2 0 = D1 0 := (K2 0 (by decide +kernel) hg0).1
  have d1 : D2 6 = D1 6 := (K2 6 (by decide +kernel) hg0).1
  exact T_ub1_r2 (d := d + 1) X2 hj (by rw [d0]; exact l0) (by rw [d1]; exact l1) l3 (show inr a3 by omega) e2 h3  (fun z σ3 D3 N3 F3 A3 c3 s3 X3 S3 zr => k z g2 σ3 D3 N3 F3 A3 c3 s3 X3 (STP_trans (STP_tr0 S1 S2) S3) zr hle)
theorem T_ur1_r3 {g : Nat → Bool} {σ : rS} {D N : Nat → Nat} {F : hF} {A : hA} {d c s : Nat} {Q : wQ} (X : PHI g σ D N F A) {a3 : Int} (h3 : 0 ≤ a3 ∧ a3 ≤ 65536) (k : ∀ (z : Int) (gₚ : Nat → Bool) (σₚ : rS) (Dₚ Nₚ : Nat → Nat) (Fₚ : hF) (Aₚ : hA) (cₚ sₚ : Nat), PHI gₚ σₚ Dₚ Nₚ Fₚ Aₚ → STP g σ D N A c s gₚ σₚ Dₚ Nₚ Aₚ cₚ sₚ → inr z → (∀ j, g j = true → gₚ j = true) → Q (some (I z)) σₚ cₚ sₚ) : Ew 32 (d + 7) 0 (rargs 0 [.ref (D 0), .ref (D 8), I 1, I a3, .ref (D 30)]) [] σ c s Q := by
  refine T_ua1_r3 (d := d + 6) X (show inr a3 by omega) (fun ls σ1 D1 N1 F1 A1 c1 s1 X1 S1 l0 l1 l3 e1 => ?_) (fun z σ1 D1 N1 F1 A1 c1 s1 X1 S1 zr => k z g σ1 D1 N1 F1 A1 c1 s1 X1 S1 zr (fun _ h => h))
  have hg0 : g 0 = true := X1.2.2.1
  refine w_callk rfl (fun rec => rinvv rfl rfl (X1.1.obj 0 (by decide +kernel) hg0 rfl) rec) rfl (T_the_tok (d := d + 2) X1 (fun g2 σ2 D2 N2 F2 A2 c2 s2 X2 S2 K2 hj hle => ⟨rfl, ?_⟩))
  have e2 : F2 27 1 = 0 := by rw [((K2 27 (by decide +kernel) hg0).2 (by decide)).2.2]; exact e1
  have d0 : D2 0 = D1 0 := (K2 0 (by decide +kernel) hg0).1
  have d1 : D2 8 = D1 8 := (K2 8 (by decide +kernel) hg0).1
  exact T_ub1_r3 (d := d + 1) X2 hj (by rw [d0]; exact l0) (by rw [d1]; exact l1) l3 (show inr a3 by omega) e2 h3  (fun z σ3 D3 N3 F3 A3 c3 s3 X3 S3 zr => k z g2 σ3 D3 N3 F3 A3 c3 s3 X3 (STP_trans (STP_tr0 S1 S2) S3) zr hle)
theorem T_ur1_w {g : Nat → Bool} {σ : rS} {D N : Nat → Nat} {F : hF} {A : hA} {d c s : Nat} {Q : wQ} (X : PHI g σ D N F A) {a3 : Int} (h3 : 0 ≤ a3 ∧ a3 ≤ 65536) (k : ∀ (z : Int) (gₚ : Nat → Bool) (σₚ : rS) (Dₚ Nₚ : Nat → Nat) (Fₚ : hF) (Aₚ : hA) (cₚ sₚ : Nat), PHI gₚ σₚ Dₚ Nₚ Fₚ Aₚ → STP g σ D N A c s gₚ σₚ Dₚ Nₚ Aₚ cₚ sₚ → inr z → (∀ j, g j = true → gₚ j = true) → ((Fₚ 2 1) = (F 2 1)) → ((Fₚ 4 1) = (F 4 1)) → ((Fₚ 6 1) = (F 6 1)) → ((Fₚ 8 1) = (F 8 1)) → ((((Dₚ 2 : Nat) : Int)) = (((D 2 : Nat) : Int))) → ((((Dₚ 4 : Nat) : Int)) = (((D 4 : Nat) : Int))) → ((((Dₚ 6 : Nat) : Int)) = (((D 6 : Nat) : Int))) → ((((Dₚ 8 : Nat) : Int)) = (((D 8 : Nat) : Int))) → Q (some (I z)) σₚ cₚ sₚ) : Ew 32 (d + 7) 0 (rargs 0 [.ref (D 0), .ref (D 25), I 1, I a3, .ref (D 31)]) [] σ c s Q := by
  refine T_ua1_w (d := d + 6) X (show inr a3 by omega) (fun ls σ1 D1 N1 F1 A1 c1 s1 X1 S1 l0 l1 l3 e1 r0 r1 r2 r3 r4 r5 r6 r7 => ?_) (fun z σ1 D1 N1 F1 A1 c1 s1 X1 S1 zr r0 r1 r2 r3 r4 r5 r6 r7 => k z g σ1 D1 N1 F1 A1 c1 s1 X1 S1 zr (fun _ h => h) r0 r1 r2 r3 r4 r5 r6 r7)
  have hg0 : g 0 = true := X1.2.2.1
  refine w_callk rfl (fun rec => rinvv rfl rfl (X1.1.obj 0 (by decide +kernel) hg0 rfl) rec) rfl (T_the_tok (d := d + 2) X1 (fun g2 σ2 D2 N2 F2 A2 c2 s2 X2 S2 K2 hj hle => ⟨rfl, ?_⟩))
  have e2 : F2 27 1 = 0 := by rw [((K2 27 (by decide +kernel) hg0).2 (by decide)).2.2]; exact e1
  have d0 : D2 0 = D1 0 := (K2 0 (by decide +kernel) hg0).1
  have d1 : D2 25 = D1 25 := (K2 25 (by decide +kernel) hg0).1
  have q0 : (F2 2 1) = (F 2 1) := by have := r0; rw [((K2 2 (by decide +kernel) hg0).2 (by decide)).2.2]; exact this
  have q1 : (F2 4 1) = (F 4 1) := by have := r1; rw [((K2 4 (by decide +kernel) hg0).2 (by decide)).2.2]; exact this
  have q2 : (F2 6 1) = (F 6 1) := by have := r2; rw [((K2 6 (by decide +kernel) hg0).2 (by decide)).2.2]; exact this
  have q3 : (F2 8 1) = (F 8 1) := by have := r3; rw [((K2 8 (by decide +kernel) hg0).2 (by decide)).2.2]; exact this
  have q4 : (((D2 2 : Nat) : Int)) = (((D 2 : Nat) : Int)) := by have := r4; rw [(K2 2 (by decide +kernel) hg0).1]; exact this
  have q5 : (((D2 4 : Nat) : Int)) = (((D 4 : Nat) : Int)) := by have := r5; rw [(K2 4 (by decide +kernel) hg0).1]; exact this
  have q6 : (((D2 6 : Nat) : Int)) = (((D 6 : Nat) : Int)) := by have := r6; rw [(K2 6 (by decide +kernel) hg0).1]; exact this
  have q7 : (((D2 8 : Nat) : Int)) = (((D 8 : Nat) : Int)) := by have := r7; rw [(K2 8 (by decide +kernel) hg0).1]; exact this
  exact T_ub1_w (d := d + 1) X2 hj (by rw [d0]; exact l0) (by rw [d1]; exact l1) l3 (show inr a3 by omega) e2 h3  (fun z σ3 D3 N3 F3 A3 c3 s3 X3 S3 zr t0 t1 t2 t3 t4 t5 t6 t7 => k z g2 σ3 D3 N3 F3 A3 c3 s3 X3 (STP_trans (STP_tr0 S1 S2) S3) zr hle (by omega) (by omega) (by omega) (by omega) (by omega) (by omega) (by omega) (by omega))
theorem T_ur2_r0 {g : Nat → Bool} {σ : rS} {D N : Nat → Nat} {F : hF} {A : hA} {d c s : Nat} {Q : wQ} (X : PHI g σ D N F A) {a3 : Int} (h3 : 0 ≤ a3 ∧ a3 ≤ 65536) (k : ∀ (z : Int) (gₚ : Nat → Bool) (σₚ : rS) (Dₚ Nₚ : Nat → Nat) (Fₚ : hF) (Aₚ : hA) (cₚ sₚ : Nat), PHI gₚ σₚ Dₚ Nₚ Fₚ Aₚ → STP g σ D N A c s gₚ σₚ Dₚ Nₚ Aₚ cₚ sₚ → inr z → (∀ j, g j = true → gₚ j = true) → Q (some (I z)) σₚ cₚ sₚ) : Ew 32 (d + 7) 0 (rargs 0 [.ref (D 0), .ref (D 2), I 2, I a3, .ref (D 30)]) [] σ c s Q := by
  refine T_ua2_r0 (d := d + 6) X (show inr a3 by omega) (fun ls σ1 D1 N1 F1 A1 c1 s1 X1 S1 l0 l1 l3 e1 => ?_) (fun z σ1 D1 N1 F1 A1 c1 s1 X1 S1 zr => k z g σ1 D1 N1 F1 A1 c1 s1 X1 S1 zr (fun _ h => h))
  have hg0 : g 0 = true := X1.2.2.1
  refine w_callk rfl (fun rec => rinvv rfl rfl (X1.1.obj 0 (by decide +kernel) hg0 rfl) rec) rfl (T_the_tag (d := d + 2) X1 (fun g2 σ2 D2 N2 F2 A2 c2 s2 X2 S2 K2 hj hle => ⟨rfl, ?_⟩))
  have e2 : F2 27 1 = 0 := by rw [((K2 27 (by decide +kernel) hg0).2 (by decide)).2.2]; exact e1
  have d0 : D2 0 = D1 0 := (K2 0 (by decide +kernel) hg0).1
  have d1 : D2 2 = D1 2 := (K2 2 (by decide +kernel) hg0).1
  exact T_ub2_r0 (d := d + 2) X2 hj (by rw [d0]; exact l0) (by rw [d1]; exact l1) l3 (show inr a3 by omega) e2 h3  (fun z σ3 D3 N3 F3 A3 c3 s3 X3 S3 zr => k z g2 σ3 D3 N3 F3 A3 c3 s3 X3 (STP_trans (STP_tr0 S1 S2) S3) zr hle)
theorem T_ur2_r1 {g : Nat → Bool} {σ : rS} {D N : Nat → Nat} {F : hF} {A : hA} {d c s : Nat} {Q : wQ} (X : PHI g σ D N F A) {a3 : Int} (h3 : 0 ≤ a3 ∧ a3 ≤ 65536) (k : ∀ (z : Int) (gₚ : Nat → Bool) (σₚ : rS) (Dₚ Nₚ : Nat → Nat) (Fₚ : hF) (Aₚ : hA) (cₚ sₚ : Nat), PHI gₚ σₚ Dₚ Nₚ Fₚ Aₚ → STP g σ D N A c s gₚ σₚ Dₚ Nₚ Aₚ cₚ sₚ → inr z → (∀ j, g j = true → gₚ j = true) → Q (some (I z)) σₚ cₚ sₚ) : Ew 32 (d + 7) 0 (rargs 0 [.ref (D 0), .ref (D 4), I 2, I a3, .ref (D 30)]) [] σ c s Q := by
  refine T_ua2_r1 (d := d + 6) X (show inr a3 by omega) (fun ls σ1 D1 N1 F1 A1 c1 s1 X1 S1 l0 l1 l3 e1 => ?_) (fun z σ1 D1 N1 F1 A1 c1 s1 X1 S1 zr => k z g σ1 D1 N1 F1 A1 c1 s1 X1 S1 zr (fun _ h => h))
  have hg0 : g 0 = true := X1.2.2.1
  refine w_callk rfl (fun rec => rinvv rfl rfl (X1.1.obj 0 (by decide +kernel) hg0 rfl) rec) rfl (T_the_tag (d := d + 2) X1 (fun g2 σ2 D2 N2 F2 A2 c2 s2 X2 S2 K2 hj hle => ⟨rfl, ?_⟩))
  have e2 : F2 27 1 = 0 := by rw [((K2 27 (by decide +kernel) hg0).2 (by decide)).2.2]; exact e1
  have d0 : D2 0 = D1 0 := (K2 0 (by decide +kernel) hg0).1
  have d1 : D2 4 = D1 4 := (K2 4 (by decide +kernel) hg0).1
  exact T_ub2_r1 (d := d + 2) X2 hj (by rw [d0]; exact l0) (by rw [d1]; exact l1) l3 (show inr a3 by omega) e2 h3  (fun z σ3 D3 N3 F3 A3 c3 s3 X3 S3 zr => k z g2 σ3 D3 N3 F3 A3 c3 s3 X3 (STP_trans (STP_tr0 S1 S2) S3) zr hle)
theorem T_ur2_r2 {g : Nat → Bool} {σ : rS} {D N : Nat → Nat} {F : hF} {A : hA} {d c s : Nat} {Q : wQ} (X : PHI g σ D N F A) {a3 : Int} (h3 : 0 ≤ a3 ∧ a3 ≤ 65536) (k : ∀ (z : Int) (gₚ : Nat → Bool) (σₚ : rS) (Dₚ Nₚ : Nat → Nat) (Fₚ : hF) (Aₚ : hA) (cₚ sₚ : Nat), PHI gₚ σₚ Dₚ Nₚ Fₚ Aₚ → STP g σ D N A c s gₚ σₚ Dₚ Nₚ Aₚ cₚ sₚ → inr z → (∀ j, g j = true → gₚ j = true) → Q (some (I z)) σₚ cₚ sₚ) : Ew 32 (d + 7) 0 (rargs 0 [.ref (D 0), .ref (D 6), I 2, I a3, .ref (D 30)]) [] σ c s Q := by
  refine T_ua2_r2 (d := d + 6) X (show inr a3 by omega) (fun ls σ1 D1 N1 F1 A1 c1 s1 X1 S1 l0 l1 l3 e1 => ?_) (fun z σ1 D1 N1 F1 A1 c1 s1 X1 S1 zr => k z g σ1 D1 N1 F1 A1 c1 s1 X1 S1 zr (fun _ h => h))
  have hg0 : g 0 = true := X1.2.2.1
  refine w_callk rfl (fun rec => rinvv rfl rfl (X1.1.obj 0 (by decide +kernel) hg0 rfl) rec) rfl (T_the_tag (d := d + 2) X1 (fun g2 σ2 D2 N2 F2 A2 c2 s2 X2 S2 K2 hj hle => ⟨rfl, ?_⟩))
  have e2 : F2 27 1 = 0 := by rw [((K2 27 (by decide +kernel) hg0).2 (by decide)).2.2]; exact e1
  have d0 : D2 0 = D1 0 := (K2 0 (by decide +kernel) hg0).1
  have d1 : D2 6 = D1 6 := (K2 6 (by decide +kernel) hg0).1
  exact T_ub2_r2 (d := d + 2) X2 hj (by rw [d0]; exact l0) (by rw [d1]; exact l1) l3 (show inr a3 by omega) e2 h3  (fun z σ3 D3 N3 F3 A3 c3 s3 X3 S3 zr => k z g2 σ3 D3 N3 F3 A3 c3 s3 X3 (STP_trans (STP_tr0 S1 S2) S3) zr hle)
theorem T_ur2_r3 {g : Nat → Bool} {σ : rS} {D N : Nat → Nat} {F : hF} {A : hA} {d c s : Nat} {Q : wQ} (X : PHI g σ D N F A) {a3 : Int} (h3 : 0 ≤ a3 ∧ a3 ≤ 65536) (k : ∀ (z : Int) (gₚ : Nat → Bool) (σₚ : rS) (Dₚ Nₚ : Nat → Nat) (Fₚ : hF) (Aₚ : hA) (cₚ sₚ : Nat), PHI gₚ σₚ Dₚ Nₚ Fₚ Aₚ → STP g σ D N A c s gₚ σₚ Dₚ Nₚ Aₚ cₚ sₚ → inr z → (∀ j, g j = true → gₚ j = true) → Q (some (I z)) σₚ cₚ sₚ) : Ew 32 (d + 7) 0 (rargs 0 [.ref (D 0), .ref (D 8), I 2, I a3, .ref (D 30)]) [] σ c s Q := by
  refine T_ua2_r3 (d := d + 6) X (show inr a3 by omega) (fun ls σ1 D1 N1 F1 A1 c1 s1 X1 S1 l0 l1 l3 e1 => ?_) (fun z σ1 D1 N1 F1 A1 c1 s1 X1 S1 zr => k z g σ1 D1 N1 F1 A1 c1 s1 X1 S1 zr (fun _ h => h))
  have hg0 : g 0 = true := X1.2.2.1
  refine w_callk rfl (fun rec => rinvv rfl rfl (X1.1.obj 0 (by decide +kernel) hg0 rfl) rec) rfl (T_the_tag (d := d + 2) X1 (fun g2 σ2 D2 N2 F2 A2 c2 s2 X2 S2 K2 hj hle => ⟨rfl, ?_⟩))
  have e2 : F2 27 1 = 0 := by rw [((K2 27 (by decide +kernel) hg0).2 (by decide)).2.2]; exact e1
  have d0 : D2 0 = D1 0 := (K2 0 (by decide +kernel) hg0).1
  have d1 : D2 8 = D1 8 := (K2 8 (by decide +kernel) hg0).1
  exact T_ub2_r3 (d := d + 2) X2 hj (by rw [d0]; exact l0) (by rw [d1]; exact l1) l3 (show inr a3 by omega) e2 h3  (fun z σ3 D3 N3 F3 A3 c3 s3 X3 S3 zr => k z g2 σ3 D3 N3 F3 A3 c3 s3 X3 (STP_trans (STP_tr0 S1 S2) S3) zr hle)
theorem T_ur2_w {g : Nat → Bool} {σ : rS} {D N : Nat → Nat} {F : hF} {A : hA} {d c s : Nat} {Q : wQ} (X : PHI g σ D N F A) {a3 : Int} (h3 : 0 ≤ a3 ∧ a3 ≤ 65536) (k : ∀ (z : Int) (gₚ : Nat → Bool) (σₚ : rS) (Dₚ Nₚ : Nat → Nat) (Fₚ : hF) (Aₚ : hA) (cₚ sₚ : Nat), PHI gₚ σₚ Dₚ Nₚ Fₚ Aₚ → STP g σ D N A c s gₚ σₚ Dₚ Nₚ Aₚ cₚ sₚ → inr z → (∀ j, g j = true → gₚ j = true) → ((Fₚ 2 1) = (F 2 1)) → ((Fₚ 4 1) = (F 4 1)) → ((Fₚ 6 1) = (F 6 1)) → ((Fₚ 8 1) = (F 8 1)) → ((((Dₚ 2 : Nat) : Int)) = (((D 2 : Nat) : Int))) → ((((Dₚ 4 : Nat) : Int)) = (((D 4 : Nat) : Int))) → ((((Dₚ 6 : Nat) : Int)) = (((D 6 : Nat) : Int))) → ((((Dₚ 8 : Nat) : Int)) = (((D 8 : Nat) : Int))) → Q (some (I z)) σₚ cₚ sₚ) : Ew 32 (d + 7) 0 (rargs 0 [.ref (D 0), .ref (D 25), I 2, I a3, .ref (D 31)]) [] σ c s Q := by
  refine T_ua2_w (d := d + 6) X (show inr a3 by omega) (fun ls σ1 D1 N1 F1 A1 c1 s1 X1 S1 l0 l1 l3 e1 r0 r1 r2 r3 r4 r5 r6 r7 => ?_) (fun z σ1 D1 N1 F1 A1 c1 s1 X1 S1 zr r0 r1 r2 r3 r4 r5 r6 r7 => k z g σ1 D1 N1 F1 A1 c1 s1 X1 S1 zr (fun _ h => h) r0 r1 r2 r3 r4 r5 r6 r7)
  have hg0 : g 0 = true := X1.2.2.1
  refine w_callk rfl (fun rec => rinvv rfl rfl (X1.1.obj 0 (by decide +kernel) hg0 rfl) rec) rfl (T_the_tag (d := d + 2) X1 (fun g2 σ2 D2 N2 F2 A2 c2 s2 X2 S2 K2 hj hle => ⟨rfl, ?_⟩))
  have e2 : F2 27 1 = 0 := by rw [((K2 27 (by decide +kernel) hg0).2 (by decide)).2.2]; exact e1
  have d0 : D2 0 = D1 0 := (K2 0 (by decide +kernel) hg0).1
  have d1 : D2 25 = D1 25 := (K2 25 (by decide +kernel) hg0).1
  have q0 : (F2 2 1) = (F 2 1) := by have := r0; rw [((K2 2 (by decide +kernel) hg0).2 (by decide)).2.2]; exact this
  have q1 : (F2 4 1) = (F 4 1) := by have := r1; rw [((K2 4 (by decide +kernel) hg0).2 (by decide)).2.2]; exact this
  have q2 : (F2 6 1) = (F 6 1) := by have := r2; rw [((K2 6 (by decide +kernel) hg0).2 (by decide)).2.2]; exact this
  have q3 : (F2 8 1) = (F 8 1) := by have := r3; rw [((K2 8 (by decide +kernel) hg0).2 (by decide)).2.2]; exact this
  have q4 : (((D2 2 : Nat) : Int)) = (((D 2 : Nat) : Int)) := by have := r4; rw [(K2 2 (by decide +kernel) hg0).1]; exact this
  have q5 : (((D2 4 : Nat) : Int)) = (((D 4 : Nat) : Int)) := by have := r5; rw [(K2 4 (by decide +kernel) hg0).1]; exact this
  have q6 : (((D2 6 : Nat) : Int)) = (((D 6 : Nat) : Int)) := by have := r6; rw [(K2 6 (by decide +kernel) hg0).1]; exact this
  have q7 : (((D2 8 : Nat) : Int)) = (((D 8 : Nat) : Int)) := by have := r7; rw [(K2 8 (by decide +kernel) hg0).1]; exact this
  exact T_ub2_w (d := d + 2) X2 hj (by rw [d0]; exact l0) (by rw [d1]; exact l1) l3 (show inr a3 by omega) e2 h3  (fun z σ3 D3 N3 F3 A3 c3 s3 X3 S3 zr t0 t1 t2 t3 t4 t5 t6 t7 => k z g2 σ3 D3 N3 F3 A3 c3 s3 X3 (STP_trans (STP_tr0 S1 S2) S3) zr hle (by omega) (by omega) (by omega) (by omega) (by omega) (by omega) (by omega) (by omega))
theorem T_ur3_r0 {g : Nat → Bool} {σ : rS} {D N : Nat → Nat} {F : hF} {A : hA} {d c s : Nat} {Q : wQ} (X : PHI g σ D N F A) {a3 : Int} (h3 : 0 ≤ a3 ∧ a3 ≤ 65536) (k : ∀ (z : Int) (gₚ : Nat → Bool) (σₚ : rS) (Dₚ Nₚ : Nat → Nat) (Fₚ : hF) (Aₚ : hA) (cₚ sₚ : Nat), PHI gₚ σₚ Dₚ Nₚ Fₚ Aₚ → STP g σ D N A c s gₚ σₚ Dₚ Nₚ Aₚ cₚ sₚ → inr z → (∀ j, g j = true → gₚ j = true) → Q (some (I z)) σₚ cₚ sₚ) : Ew 32 (d + 7) 0 (rargs 0 [.ref (D 0), .ref (D 2), I 3, I a3, .ref (D 30)]) [] σ c s Q := by
  refine T_ua3_r0 (d := d + 6) X (show inr a3 by omega) (fun ls σ1 D1 N1 F1 A1 c1 s1 X1 S1 l0 l1 l3 e1 => ?_) (fun z σ1 D1 N1 F1 A1 c1 s1 X1 S1 zr => k z g σ1 D1 N1 F1 A1 c1 s1 X1 S1 zr (fun _ h => h))
  have hg0 : g 0 = true := X1.2.2.1
  refine w_callk rfl (fun rec => rinvv rfl rfl (X1.1.obj 0 (by decide +kernel) hg0 rfl) rec) rfl (T_the_tag (d := d + 2) X1 (fun g2 σ2 D2 N2 F2 A2 c2 s2 X2 S2 K2 hj hle => ⟨rfl, ?_⟩))
  have e2 : F2 27 1 = 0 := by rw [((K2 27 (by decide +kernel) hg0).2 (by decide)).2.2]; exact e1
  have d0 : D2 0 = D1 0 := (K2 0 (by decide +kernel) hg0).1
  have d1 : D2 2 = D1 2 := (K2 2 (by decide +kernel) hg0).1
  exact T_ub3_r0 (d := d + 1) X2 hj (by rw [d0]; exact l0) (by rw [d1]; exact l1) l3 (show inr a3 by omega) e2 h3  (fun z σ3 D3 N3 F3 A3 c3 s3 X3 S3 zr => k z g2 σ3 D3 N3 F3 A3 c3 s3 X3 (STP_trans (STP_tr0 S1 S2) S3) zr hle)
theorem T_ur3_r1 {g : Nat → Bool} {σ : rS} {D N : Nat → Nat} {F : hF} {A : hA} {d c s : Nat} {Q : wQ} (X : PHI g σ D N F A) {a3 : Int} (h3 : 0 ≤ a3 ∧ a3 ≤ 65536) (k : ∀ (z : Int) (gₚ : Nat → Bool) (σₚ : rS) (Dₚ Nₚ : Nat → Nat) (Fₚ : hF) (Aₚ : hA) (cₚ sₚ : Nat), PHI gₚ σₚ Dₚ Nₚ Fₚ Aₚ → STP g σ D N A c s gₚ σₚ Dₚ Nₚ Aₚ cₚ sₚ → inr z → (∀ j, g j = true → gₚ j = true) → Q (some (I z)) σₚ cₚ sₚ) : Ew 32 (d + 7) 0 (rargs 0 [.ref (D 0), .ref (D 4), I 3, I a3, .ref (D 30)]) [] σ c s Q := by
  refine T_ua3_r1 (d := d + 6) X (show inr a3 by omega) (fun ls σ1 D1 N1 F1 A1 c1 s1 X1 S1 l0 l1 l3 e1 => ?_) (fun z σ1 D1 N1 F1 A1 c1 s1 X1 S1 zr => k z g σ1 D1 N1 F1 A1 c1 s1 X1 S1 zr (fun _ h => h))
  have hg0 : g 0 = true := X1.2.2.1
  refine w_callk rfl (fun rec => rinvv rfl rfl (X1.1.obj 0 (by decide +kernel) hg0 rfl) rec) rfl (T_the_tag (d := d + 2) X1 (fun g2 σ2 D2 N2 F2 A2 c2 s2 X2 S2 K2 hj hle => ⟨rfl, ?_⟩))
  have e2 : F2 27 1 = 0 := by rw [((K2 27 (by decide +kernel) hg0).2 (by decide)).2.2]; exact e1
  have d0 : D2 0 = D1 0 := (K2 0 (by decide +kernel) hg0).1
  have d1 : D2 4 = D1 4 := (K2 4 (by decide +kernel) hg0).1
  exact T_ub3_r1 (d := d + 1) X2 hj (by rw [d0]; exact l0) (by rw [d1]; exact l1) l3 (show inr a3 by omega) e2 h3  (fun z σ3 D3 N3 F3 A3 c3 s3 X3 S3 zr => k z g2 σ3 D3 N3 F3 A3 c3 s3 X3 (STP_trans (STP_tr0 S1 S2) S3) zr hle)
theorem T_ur3_r2 {g : Nat → Bool} {σ : rS} {D N : Nat → Nat} {F : hF} {A : hA} {d c s : Nat} {Q : wQ} (X : PHI g σ D N F A) {a3 : Int} (h3 : 0 ≤ a3 ∧ a3 ≤ 65536) (k : ∀ (z : Int) (gₚ : Nat → Bool) (σₚ : rS) (Dₚ Nₚ : Nat → Nat) (Fₚ : hF) (Aₚ : hA) (cₚ sₚ : Nat), PHI gₚ σₚ Dₚ Nₚ Fₚ Aₚ → STP g σ D N A c s gₚ σₚ Dₚ Nₚ Aₚ cₚ sₚ → inr z → (∀ j, g j = true → gₚ j = true) → Q (some (I z)) σₚ cₚ sₚ) : Ew 32 (d + 7) 0 (rargs 0 [.ref (D 0), .ref (D 6), I 3, I a3, .ref (D 30)]) [] σ c s Q := by
  refine T_ua3_r2 (d := d + 6) X (show inr a3 by omega) (fun ls σ1 D1 N1 F1 A1 c1 s1 X1 S1 l0 l1 l3 e1 => ?_) (fun z σ1 D1 N1 F1 A1 c1 s1 X1 S1 zr => k z g σ1 D1 N1 F1 A1 c1 s1 X1 S1 zr (fun _ h => h))
  have hg0 : g 0 = true := X1.2.2.1
  refine w_callk rfl (fun rec => rinvv rfl rfl (X1.1.obj 0 (by decide +kernel) hg0 rfl) rec) rfl (T_the_tag (d := d + 2) X1 (fun g2 σ2 D2 N2 F2 A2 c2 s2 X2 S2 K2 hj hle => ⟨rfl, ?_⟩))
  have e2 : F2 27 1 = 0 := by rw [((K2 27 (by decide +kernel) hg0).2 (by decide)).2.2]; exact e1
  have d0 : D2 0 = D1 0 := (K2 0 (by decide +kernel) hg0).1
  have d1 : D2 6 = D1 6 := (K2 6 (by decide +kernel) hg0).1
  exact T_ub3_r2 (d := d + 1) X2 hj (by rw [d0]; exact l0) (by rw [d1]; exact l1) l3 (show inr a3 by omega) e2 h3  (fun z σ3 D3 N3 F3 A3 c3 s3 X3 S3 zr => k z g2 σ3 D3 N3 F3 A3 c3 s3 X3 (STP_trans (STP_tr0 S1 S2) S3) zr hle)
theorem T_ur3_r3 {g : Nat → Bool} {σ : rS} {D N : Nat → Nat} {F : hF} {A : hA} {d c s : Nat} {Q : wQ} (X : PHI g σ D N F A) {a3 : Int} (h3 : 0 ≤ a3 ∧ a3 ≤ 65536) (k : ∀ (z : Int) (gₚ : Nat → Bool) (σₚ : rS) (Dₚ Nₚ : Nat → Nat) (Fₚ : hF) (Aₚ : hA) (cₚ sₚ : Nat), PHI gₚ σₚ Dₚ Nₚ Fₚ Aₚ → STP g σ D N A c s gₚ σₚ Dₚ Nₚ Aₚ cₚ sₚ → inr z → (∀ j, g j = true → gₚ j = true) → Q (some (I z)) σₚ cₚ sₚ) : Ew 32 (d + 7) 0 (rargs 0 [.ref (D 0), .ref (D 8), I 3, I a3, .ref (D 30)]) [] σ c s Q := by
  refine T_ua3_r3 (d := d + 6) X (show inr a3 by omega) (fun ls σ1 D1 N1 F1 A1 c1 s1 X1 S1 l0 l1 l3 e1 => ?_) (fun z σ1 D1 N1 F1 A1 c1 s1 X1 S1 zr => k z g σ1 D1 N1 F1 A1 c1 s1 X1 S1 zr (fun _ h => h))
  have hg0 : g 0 = true := X1.2.2.1
  refine w_callk rfl (fun rec => rinvv rfl rfl (X1.1.obj 0 (by decide +kernel) hg0 rfl) rec) rfl (T_the_tag (d := d + 2) X1 (fun g2 σ2 D2 N2 F2 A2 c2 s2 X2 S2 K2 hj hle => ⟨rfl, ?_⟩))
  have e2 : F2 27 1 = 0 := by rw [((K2 27 (by decide +kernel) hg0).2 (by decide)).2.2]; exact e1
  have d0 : D2 0 = D1 0 := (K2 0 (by decide +kernel) hg0).1
  have d1 : D2 8 = D1 8 := (K2 8 (by decide +kernel) hg0).1
  exact T_ub3_r3 (d := d + 1) X2 hj (by rw [d0]; exact l0) (by rw [d1]; exact l1) l3 (show inr a3 by omega) e2 h3  (fun z σ3 D3 N3 F3 A3 c3 s3 X3 S3 zr => k z g2 σ3 D3 N3 F3 A3 c3 s3 X3 (STP_trans (STP_tr0 S1 S2) S3) zr hle)
theorem T_ur3_w {g : Nat → Bool} {σ : rS} {D N : Nat → Nat} {F : hF} {A : hA} {d c s : Nat} {Q : wQ} (X : PHI g σ D N F A) {a3 : Int} (h3 : 0 ≤ a3 ∧ a3 ≤ 65536) (k : ∀ (z : Int) (gₚ : Nat → Bool) (σₚ : rS) (Dₚ Nₚ : Nat → Nat) (Fₚ : hF) (Aₚ : hA) (cₚ sₚ : Nat), PHI gₚ σₚ Dₚ Nₚ Fₚ Aₚ → STP g σ D N A c s gₚ σₚ Dₚ Nₚ Aₚ cₚ sₚ → inr z → (∀ j, g j = true → gₚ j = true) → ((Fₚ 2 1) = (F 2 1)) → ((Fₚ 4 1) = (F 4 1)) → ((Fₚ 6 1) = (F 6 1)) → ((Fₚ 8 1) = (F 8 1)) → ((((Dₚ 2 : Nat) : Int)) = (((D 2 : Nat) : Int))) → ((((Dₚ 4 : Nat) : Int)) = (((D 4 : Nat) : Int))) → ((((Dₚ 6 : Nat) : Int)) = (((D 6 : Nat) : Int))) → ((((Dₚ 8 : Nat) : Int)) = (((D 8 : Nat) : Int))) → Q (some (I z)) σₚ cₚ sₚ) : Ew 32 (d + 7) 0 (rargs 0 [.ref (D 0), .ref (D 25), I 3, I a3, .ref (D 31)]) [] σ c s Q := by
  refine T_ua3_w (d := d + 6) X (show inr a3 by omega) (fun ls σ1 D1 N1 F1 A1 c1 s1 X1 S1 l0 l1 l3 e1 r0 r1 r2 r3 r4 r5 r6 r7 => ?_) (fun z σ1 D1 N1 F1 A1 c1 s1 X1 S1 zr r0 r1 r2 r3 r4 r5 r6 r7 => k z g σ1 D1 N1 F1 A1 c1 s1 X1 S1 zr (fun _ h => h) r0 r1 r2 r3 r4 r5 r6 r7)
  have hg0 : g 0 = true := X1.2.2.1
  refine w_callk rfl (fun rec => rinvv rfl rfl (X1.1.obj 0 (by decide +kernel) hg0 rfl) rec) rfl (T_the_tag (d := d + 2) X1 (fun g2 σ2 D2 N2 F2 A2 c2 s2 X2 S2 K2 hj hle => ⟨rfl, ?_⟩))
  have e2 : F2 27 1 = 0 := by rw [((K2 27 (by decide +kernel) hg0).2 (by decide)).2.2]; exact e1
  have d0 : D2 0 = D1 0 := (K2 0 (by decide +kernel) hg0).1
  have d1 : D2 25 = D1 25 := (K2 25 (by decide +kernel) hg0).1
  have q0 : (F2 2 1) = (F 2 1) := by have := r0; rw [((K2 2 (by decide +kernel) hg0).2 (by decide)).2.2]; exact this
  have q1 : (F2 4 1) = (F 4 1) := by have := r1; rw [((K2 4 (by decide +kernel) hg0).2 (by decide)).2.2]; exact this
  have q2 : (F2 6 1) = (F 6 1) := by have := r2; rw [((K2 6 (by decide +kernel) hg0).2 (by decide)).2.2]; exact this
  have q3 : (F2 8 1) = (F 8 1) := by have := r3; rw [((K2 8 (by decide +kernel) hg0).2 (by decide)).2.2]; exact this
  have q4 : (((D2 2 : Nat) : Int)) = (((D 2 : Nat) : Int)) := by have := r4; rw [(K2 2 (by decide +kernel) hg0).1]; exact this
  have q5 : (((D2 4 : Nat) : Int)) = (((D 4 : Nat) : Int)) := by have := r5; rw [(K2 4 (by decide +kernel) hg0).1]; exact this
  have q6 : (((D2 6 : Nat) : Int)) = (((D 6 : Nat) : Int)) := by have := r6; rw [(K2 6 (by decide +kernel) hg0).1]; exact this
  have q7 : (((D2 8 : Nat) : Int)) = (((D 8 : Nat) : Int)) := by have := r7; rw [(K2 8 (by decide +kernel) hg0).1]; exact this
  exact T_ub3_w (d := d + 1) X2 hj (by rw [d0]; exact l0) (by rw [d1]; exact l1) l3 (show inr a3 by omega) e2 h3  (fun z σ3 D3 N3 F3 A3 c3 s3 X3 S3 zr t0 t1 t2 t3 t4 t5 t6 t7 => k z g2 σ3 D3 N3 F3 A3 c3 s3 X3 (STP_trans (STP_tr0 S1 S2) S3) zr hle (by omega) (by omega) (by omega) (by omega) (by omega) (by omega) (by omega) (by omega))
theorem T_ur4_r0 {g : Nat → Bool} {σ : rS} {D N : Nat → Nat} {F : hF} {A : hA} {d c s : Nat} {Q : wQ} (X : PHI g σ D N F A) {a3 : Int} (h3 : 0 ≤ a3 ∧ a3 ≤ 65536) (k : ∀ (z : Int) (gₚ : Nat → Bool) (σₚ : rS) (Dₚ Nₚ : Nat → Nat) (Fₚ : hF) (Aₚ : hA) (cₚ sₚ : Nat), PHI gₚ σₚ Dₚ Nₚ Fₚ Aₚ → STP g σ D N A c s gₚ σₚ Dₚ Nₚ Aₚ cₚ sₚ → inr z → (∀ j, g j = true → gₚ j = true) → Q (some (I z)) σₚ cₚ sₚ) : Ew 32 (d + 7) 0 (rargs 0 [.ref (D 0), .ref (D 2), I 4, I a3, .ref (D 30)]) [] σ c s Q := by
  refine T_ua4_r0 (d := d + 6) X (show inr a3 by omega) (fun ls σ1 D1 N1 F1 A1 c1 s1 X1 S1 l0 l1 l3 l4 e1 => ?_) (fun z σ1 D1 N1 F1 A1 c1 s1 X1 S1 zr => k z g σ1 D1 N1 F1 A1 c1 s1 X1 S1 zr (fun _ h => h))
  have hg0 : g 0 = true := X1.2.2.1
  refine w_callk rfl (fun rec => rinvv rfl rfl (X1.1.obj 0 (by decide +kernel) hg0 rfl) rec) rfl (T_the_unp (d := d + 2) X1 (fun g2 σ2 D2 N2 F2 A2 c2 s2 X2 S2 K2 hj hle => ⟨rfl, ?_⟩))
  have e2 : F2 27 1 = 0 := by rw [((K2 27 (by decide +kernel) hg0).2 (by decide)).2.2]; exact e1
  have d0 : D2 0 = D1 0 := (K2 0 (by decide +kernel) hg0).1
  have d1 : D2 2 = D1 2 := (K2 2 (by decide +kernel) hg0).1
  have d4 : D2 30 = D1 30 := (K2 30 (by decide +kernel) hg0).1
  have hg4 : g2 4 = true := X2.2.2.2.2.2.2.1.2.2.2.2 hj
  cases h7 : g2 7 with
  | false => exact T_ub4n_r0 (d := d + 0) X2 hg4 hj h7 (by rw [d0]; exact l0) (by rw [d1]; exact l1) l3 (by rw [d4]; exact l4) (show inr a3 by omega) e2 h3  (fun z σ3 D3 N3 F3 A3 c3 s3 X3 S3 zr => k z g2 σ3 D3 N3 F3 A3 c3 s3 X3 (STP_trans (STP_tr0 S1 S2) S3) zr hle)
  | true => exact T_ub4d_r0 (d := d + 0) X2 hg4 hj h7 (by rw [d0]; exact l0) (by rw [d1]; exact l1) l3 (by rw [d4]; exact l4) (show inr a3 by omega) e2 h3  (fun z σ3 D3 N3 F3 A3 c3 s3 X3 S3 zr => k z g2 σ3 D3 N3 F3 A3 c3 s3 X3 (STP_trans (STP_tr0 S1 S2) S3) zr hle)
theorem T_ur4_r1 {g : Nat → Bool} {σ : rS} {D N : Nat → Nat} {F : hF} {A : hA} {d c s : Nat} {Q : wQ} (X : PHI g σ D N F A) {a3 : Int} (h3 : 0 ≤ a3 ∧ a3 ≤ 65536) (k : ∀ (z : Int) (gₚ : Nat → Bool) (σₚ : rS) (Dₚ Nₚ : Nat → Nat) (Fₚ : hF) (Aₚ : hA) (cₚ sₚ : Nat), PHI gₚ σₚ Dₚ Nₚ Fₚ Aₚ → STP g σ D N A c s gₚ σₚ Dₚ Nₚ Aₚ cₚ sₚ → inr z → (∀ j, g j = true → gₚ j = true) → Q (some (I z)) σₚ cₚ sₚ) : Ew 32 (d + 7) 0 (rargs 0 [.ref (D 0), .ref (D 4), I 4, I a3, .ref (D 30)]) [] σ c s Q := by
  refine T_ua4_r1 (d := d + 6) X (show inr a3 by omega) (fun ls σ1 D1 N1 F1 A1 c1 s1 X1 S1 l0 l1 l3 l4 e1 => ?_) (fun z σ1 D1 N1 F1 A1 c1 s1 X1 S1 zr => k z g σ1 D1 N1 F1 A1 c1 s1 X1 S1 zr (fun _ h => h))
  have hg0 : g 0 = true := X1.2.2.1
  refine w_callk rfl (fun rec => rinvv rfl rfl (X1.1.obj 0 (by decide +kernel) hg0 rfl) rec) rfl (T_the_unp (d := d + 2) X1 (fun g2 σ2 D2 N2 F2 A2 c2 s2 X2 S2 K2 hj hle => ⟨rfl, ?_⟩))
  have e2 : F2 27 1 = 0 := by rw [((K2 27 (by decide +kernel) hg0).2 (by decide)).2.2]; exact e1
  have d0 : D2 0 = D1 0 := (K2 0 (by decide +kernel) hg0).1
  have d1 : D2 4 = D1 4 := (K2 4 (by decide +kernel) hg0).1
  have d4 : D2 30 = D1 30 := (K2 30 (by decide +kernel) hg0).1
  have hg4 : g2 4 = true := X2.2.2.2.2.2.2.1.2.2.2.2 hj
  cases h7 : g2 7 with
  | false => exact T_ub4n_r1 (d := d + 0) X2 hg4 hj h7 (by rw [d0]; exact l0) (by rw [d1]; exact l1) l3 (by rw [d4]; exact l4) (show inr a3 by omega) e2 h3  (fun z σ3 D3 N3 F3 A3 c3 s3 X3 S3 zr => k z g2 σ3 D3 N3 F3 A3 c3 s3 X3 (STP_trans (STP_tr0 S1 S2) S3) zr hle)
  | true => exact T_ub4d_r1 (d := d + 0) X2 hg4 hj h7 (by rw [d0]; exact l0) (by rw [d1]; exact l1) l3 (by rw [d4]; exact l4) (show inr a3 by omega) e2 h3  (fun z σ3 D3 N3 F3 A3 c3 s3 X3 S3 zr => k z g2 σ3 D3 N3 F3 A3 c3 s3 X3 (STP_trans (STP_tr0 S1 S2) S3) zr hle)
theorem T_ur4_r2 {g : Nat → Bool} {σ : rS} {D N : Nat → Nat} {F : hF} {A : hA} {d c s : Nat} {Q : wQ} (X : PHI g σ D N F A) {a3 : Int} (h3 : 0 ≤ a3 ∧ a3 ≤ 65536) (k : ∀ (z : Int) (gₚ : Nat → Bool) (σₚ : rS) (Dₚ Nₚ : Nat → Nat) (Fₚ : hF) (Aₚ : hA) (cₚ sₚ : Nat), PHI gₚ σₚ Dₚ Nₚ Fₚ Aₚ → STP g σ D N A c s gₚ σₚ Dₚ Nₚ Aₚ cₚ sₚ → inr z → (∀ j, g j = true → gₚ j = true) → Q (some (I z)) σₚ cₚ sₚ) : Ew 32 (d + 7) 0 (rargs 0 [.ref (D 0), .ref (D 6), I 4, I a3, .ref (D 30)]) [] σ c s Q := by
  refine T_ua4_r2 (d := d + 6) X (show inr a3 by omega) (fun ls σ1 D1 N1 F1 A1 c1 s1 X1 S1 l0 l1 l3 l4 e1 => ?_) (fun z σ1 D1 N1 F1 A1 c1 s1 X1 S1 zr => k z g σ1 D1 N1 F1 A1 c1 s1 X1 S1 zr (fun _ h => h))
  have hg0 : g 0 = true := X1.2.2.1
  refine w_callk rfl (fun rec => rinvv rfl rfl (X1.1.obj 0 (by decide +kernel) hg0 rfl) rec) rfl (T_the_unp (d := d + 2) X1 (fun g2 σ2 D2 N2 F2 A2 c2 s2 X2 S2 K2 hj hle => ⟨rfl, ?_⟩))
  have e2 : F2 27 1 = 0 := by rw [((K2 27 (by decide +kernel) hg0).2 (by decide)).2.2]; exact e1
  have d0 : D2 0 = D1 0 := (K2 0 (by decide +kernel) hg0).1
  have d1 : D2 6 = D1 6 := (K2 6 (by decide +kernel) hg0).1
  have d4 : D2 30 = D1 30 := (K2 30 (by decide +kernel) hg0).1
  have hg4 : g2 4 = true := X2.2.2.2.2.2.2.1.2.2.2.2 hj
  cases h7 : g2 7 with
  | false => exact T_ub4n_r2 (d := d + 0) X2 hg4 hj h7 (by rw [d0]; exact l0) (by rw [d1]; exact l1) l3 (by rw [d4]; exact l4) (show inr a3 by omega) e2 h3  (fun z σ3 D3 N3 F3 A3 c3 s3 X3 S3 zr => k z g2 σ3 D3 N3 F3 A3 c3 s3 X3 (STP_trans (STP_tr0 S1 S2) S3) zr hle)
  | true => exact T_ub4d_r2 (d := d + 0) X2 hg4 hj h7 (by rw [d0]; exact l0) (by rw [d1]; exact l1) l3 (by rw [d4]; exact l4) (show inr a3 by omega) e2 h3  (fun z σ3 D3 N3 F3 A3 c3 s3 X3 S3 zr => k z g2 σ3 D3 N3 F3 A3 c3 s3 X3 (STP_trans (STP_tr0 S1 S2) S3) zr hle)
theorem T_ur4_r3 {g : Nat → Bool} {σ : rS} {D N : Nat → Nat} {F : hF} {A : hA} {d c s : Nat} {Q : wQ} (X : PHI g σ D N F A) {a3 : Int} (h3 : 0 ≤ a3 ∧ a3 ≤ 65536) (k : ∀ (z : Int) (gₚ : Nat → Bool) (σₚ : rS) (Dₚ Nₚ : Nat → Nat) (Fₚ : hF) (Aₚ : hA) (cₚ sₚ : Nat), PHI gₚ σₚ Dₚ Nₚ Fₚ Aₚ → STP g σ D N A c s gₚ σₚ Dₚ Nₚ Aₚ cₚ sₚ → inr z → (∀ j, g j = true → gₚ j = true) → Q (some (I z)) σₚ cₚ sₚ) : Ew 32 (d + 7) 0 (rargs 0 [.ref (D 0), .ref (D 8), I 4, I a3, .ref (D 30)]) [] σ c s Q := by
  refine T_ua4_r3 (d := d + 6) X (show inr a3 by omega) (fun ls σ1 D1 N1 F1 A1 c1 s1 X1 S1 l0 l1 l3 l4 e1 => ?_) (fun z σ1 D1 N1 F1 A1 c1 s1 X1 S1 zr => k z g σ1 D1 N1 F1 A1 c1 s1 X1 S1 zr (fun _ h => h))
  have hg0 : g 0 = true := X1.2.2.1
  refine w_callk rfl (fun rec => rinvv rfl rfl (X1.1.obj 0 (by decide +kernel) hg0 rfl) rec) rfl (T_the_unp (d := d + 2) X1 (fun g2 σ2 D2 N2 F2 A2 c2 s2 X2 S2 K2 hj hle => ⟨rfl, ?_⟩))
  have e2 : F2 27 1 = 0 := by rw [((K2 27 (by decide +kernel) hg0).2 (by decide)).2.2]; exact e1
  have d0 : D2 0 = D1 0 := (K2 0 (by decide +kernel) hg0).1
  have d1 : D2 8 = D1 8 := (K2 8 (by decide +kernel) hg0).1
  have d4 : D2 30 = D1 30 := (K2 30 (by decide +kernel) hg0).1
  have hg4 : g2 4 = true := X2.2.2.2.2.2.2.1.2.2.2.2 hj
  cases h7 : g2 7 with
  | false => exact T_ub4n_r3 (d := d + 0) X2 hg4 hj h7 (by rw [d0]; exact l0) (by rw [d1]; exact l1) l3 (by rw [d4]; exact l4) (show inr a3 by omega) e2 h3  (fun z σ3 D3 N3 F3 A3 c3 s3 X3 S3 zr => k z g2 σ3 D3 N3 F3 A3 c3 s3 X3 (STP_trans (STP_tr0 S1 S2) S3) zr hle)
  | true => exact T_ub4d_r3 (d := d + 0) X2 hg4 hj h7 (by rw [d0]; exact l0) (by rw [d1]; exact l1) l3 (by rw [d4]; exact l4) (show inr a3 by omega) e2 h3  (fun z σ3 D3 N3 F3 A3 c3 s3 X3 S3 zr => k z g2 σ3 D3 N3 F3 A3 c3 s3 X3 (STP_trans (STP_tr0 S1 S2) S3) zr hle)
theorem T_ur4_w {g : Nat → Bool} {σ : rS} {D N : Nat → Nat} {F : hF} {A : hA} {d c s : Nat} {Q : wQ} (X : PHI g σ D N F A) {a3 : Int} (h3 : 0 ≤ a3 ∧ a3 ≤ 65536) (k : ∀ (z : Int) (gₚ : Nat → Bool) (σₚ : rS) (Dₚ Nₚ : Nat → Nat) (Fₚ : hF) (Aₚ : hA) (cₚ sₚ : Nat), PHI gₚ σₚ Dₚ Nₚ Fₚ Aₚ → STP g σ D N A c s gₚ σₚ Dₚ Nₚ Aₚ cₚ sₚ → inr z → (∀ j, g j = true → gₚ j = true) → ((Fₚ 2 1) = (F 2 1)) → ((Fₚ 4 1) = (F 4 1)) → ((Fₚ 6 1) = (F 6 1)) → ((Fₚ 8 1) = (F 8 1)) → ((((Dₚ 2 : Nat) : Int)) = (((D 2 : Nat) : Int))) → ((((Dₚ 4 : Nat) : Int)) = (((D 4 : Nat) : Int))) → ((((Dₚ 6 : Nat) : Int)) = (((D 6 : Nat) : Int))) → ((((Dₚ 8 : Nat) : Int)) = (((D 8 : Nat) : Int))) → Q (some (I z)) σₚ cₚ sₚ) : Ew 32 (d + 7) 0 (rargs 0 [.ref (D 0), .ref (D 25), I 4, I a3, .ref (D 31)]) [] σ c s Q := by
  refine T_ua4_w (d := d + 6) X (show inr a3 by omega) (fun ls σ1 D1 N1 F1 A1 c1 s1 X1 S1 l0 l1 l3 l4 e1 r0 r1 r2 r3 r4 r5 r6 r7 => ?_) (fun z σ1 D1 N1 F1 A1 c1 s1 X1 S1 zr r0 r1 r2 r3 r4 r5 r6 r7 => k z g σ1 D1 N1 F1 A1 c1 s1 X1 S1 zr (fun _ h => h) r0 r1 r2 r3 r4 r5 r6 r7)
  have hg0 : g 0 = true := X1.2.2.1
  refine w_callk rfl (fun rec => rinvv rfl rfl (X1.1.obj 0 (by decide +kernel) hg0 rfl) rec) rfl (T_the_unp (d := d + 2) X1 (fun g2 σ2 D2 N2 F2 A2 c2 s2 X2 S2 K2 hj hle => ⟨rfl, ?_⟩))
  have e2 : F2 27 1 = 0 := by rw [((K2 27 (by decide +kernel) hg0).2 (by decide)).2.2]; exact e1
  have d0 : D2 0 = D1 0 := (K2 0 (by decide +kernel) hg0).1
  have d1 : D2 25 = D1 25 := (K2 25 (by decide +kernel) hg0).1
  have d4 : D2 31 = D1 31 := (K2 31 (by decide +kernel) hg0).1
  have q0 : (F2 2 1) = (F 2 1) := by have := r0; rw [((K2 2 (by decide +kernel) hg0).2 (by decide)).2.2]; exact this
  have q1 : (F2 4 1) = (F 4 1) := by have := r1; rw [((K2 4 (by decide +kernel) hg0).2 (by decide)).2.2]; exact this
  have q2 : (F2 6 1) = (F 6 1) := by have := r2; rw [((K2 6 (by decide +kernel) hg0).2 (by decide)).2.2]; exact this
  have q3 : (F2 8 1) = (F 8 1) := by have := r3; rw [((K2 8 (by decide +kernel) hg0).2 (by decide)).2.2]; exact this
  have q4 : (((D2 2 : Nat) : Int)) = (((D 2 : Nat) : Int)) := by have := r4; rw [(K2 2 (by decide +kernel) hg0).1]; exact this
  have q5 : (((D2 4 : Nat) : Int)) = (((D 4 : Nat) : Int)) := by have := r5; rw [(K2 4 (by decide +kernel) hg0).1]; exact this
  have q6 : (((D2 6 : Nat) : Int)) = (((D 6 : Nat) : Int)) := by have := r6; rw [(K2 6 (by decide +kernel) hg0).1]; exact this
  have q7 : (((D2 8 : Nat) : Int)) = (((D 8 : Nat) : Int)) := by have := r7; rw [(K2 8 (by decide +kernel) hg0).1]; exact this
  have hg4 : g2 4 = true := X2.2.2.2.2.2.2.1.2.2.2.2 hj
  cases h7 : g2 7 with
  | false => exact T_ub4n_w (d := d + 0) X2 hg4 hj h7 (by rw [d0]; exact l0) (by rw [d1]; exact l1) l3 (by rw [d4]; exact l4) (show inr a3 by omega) e2 h3  (fun z σ3 D3 N3 F3 A3 c3 s3 X3 S3 zr t0 t1 t2 t3 t4 t5 t6 t7 => k z g2 σ3 D3 N3 F3 A3 c3 s3 X3 (STP_trans (STP_tr0 S1 S2) S3) zr hle (by omega) (by omega) (by omega) (by omega) (by omega) (by omega) (by omega) (by omega))
  | true => exact T_ub4d_w (d := d + 0) X2 hg4 hj h7 (by rw [d0]; exact l0) (by rw [d1]; exact l1) l3 (by rw [d4]; exact l4) (show inr a3 by omega) e2 h3  (fun z σ3 D3 N3 F3 A3 c3 s3 X3 S3 zr t0 t1 t2 t3 t4 t5 t6 t7 => k z g2 σ3 D3 N3 F3 A3 c3 s3 X3 (STP_trans (STP_tr0 S1 S2) S3) zr hle (by omega) (by omega) (by omega) (by omega) (by omega) (by omega) (by omega) (by omega))
