/-! read, open over the state -/
theorem T_read {g : Nat → Bool} {σ : rS} {D N : Nat → Nat} {F : hF} {A : hA} {d c s : Nat} {Q : wQ} (X : PHI g σ D N F A) {a1 a2 a3 a4 : Int} (h0 : inr a1) (h1 : inr a2) (h2 : inr a3) (h3 : inr a4) (k : ∀ (z : Int) (gₚ : Nat → Bool) (σₚ : rS) (Dₚ Nₚ : Nat → Nat) (Fₚ : hF) (Aₚ : hA) (cₚ sₚ : Nat), PHI gₚ σₚ Dₚ Nₚ Fₚ Aₚ → STP g σ D N A c s gₚ σₚ Dₚ Nₚ Aₚ cₚ sₚ → inr z → Q (some (I z)) σₚ cₚ sₚ) : Ew 18 (d + 8) 0 (rargs 0 [.ref (D 0), I a1, I a2, I a3, I a4]) [] σ c s Q := by
  rcases (show a2 = 0 ∨ a2 = 1 ∨ a2 = 2 ∨ a2 = 3 ∨ (a2 < 0 ∨ 4 ≤ a2) by omega) with rfl | rfl | rfl | rfl | ha
  · refine T_reada0 (d := d + 7) X h0 h2 h3 (fun tc54_1 tc54_4 tc54_5 ls σ1 D1 N1 F1 A1 c1 s1 X1 S1  e1 e2 e3 => ?_) (fun z σ1 D1 N1 F1 A1 c1 s1 X1 S1 zr => k z g σ1 D1 N1 F1 A1 c1 s1 X1 S1 zr)
    rcases (show tc54_4 = 0 ∨ tc54_4 = 1 ∨ tc54_4 = 2 ∨ tc54_4 = 3 ∨ tc54_4 = 4 by omega) with rfl | rfl | rfl | rfl | rfl
    · refine w_callk rfl (fun rec => rinvv rfl rfl (X1.1.obj 0 (by decide +kernel) (show g 0 = true from X1.2.2.1) rfl) rec) rfl (T_ur0_r0 (d := d + 0) X1 e3 (fun z g2 σ2 D2 N2 F2 A2 c2 s2 X2 S2 zr hle => ⟨rfl, ?_⟩))
      rw [← S2.1.2.1]
      exact T_readb (d := d + 3) X2 (show inr tc54_1 by omega) zr e1 (fun z σ3 D3 N3 F3 A3 c3 s3 X3 S3 zr => k z g2 σ3 D3 N3 F3 A3 c3 s3 X3 (STP_trans (STP_tr0 S1 S2) S3) zr)
    · refine w_callk rfl (fun rec => rinvv rfl rfl (X1.1.obj 0 (by decide +kernel) (show g 0 = true from X1.2.2.1) rfl) rec) rfl (T_ur1_r0 (d := d + 0) X1 e3 (fun z g2 σ2 D2 N2 F2 A2 c2 s2 X2 S2 zr hle => ⟨rfl, ?_⟩))
      rw [← S2.1.2.1]
      exact T_readb (d := d + 3) X2 (show inr tc54_1 by omega) zr e1 (fun z σ3 D3 N3 F3 A3 c3 s3 X3 S3 zr => k z g2 σ3 D3 N3 F3 A3 c3 s3 X3 (STP_trans (STP_tr0 S1 S2) S3) zr)
    · refine w_callk rfl (fun rec => rinvv rfl rfl (X1.1.obj 0 (by decide +kernel) (show g 0 = true from X1.2.2.1) rfl) rec) rfl (T_ur2_r0 (d := d + 0) X1 e3 (fun z g2 σ2 D2 N2 F2 A2 c2 s2 X2 S2 zr hle => ⟨rfl, ?_⟩))
      rw [← S2.1.2.1]
      exact T_readb (d := d + 3) X2 (show inr tc54_1 by omega) zr e1 (fun z σ3 D3 N3 F3 A3 c3 s3 X3 S3 zr => k z g2 σ3 D3 N3 F3 A3 c3 s3 X3 (STP_trans (STP_tr0 S1 S2) S3) zr)
    · refine w_callk rfl (fun rec => rinvv rfl rfl (X1.1.obj 0 (by decide +kernel) (show g 0 = true from X1.2.2.1) rfl) rec) rfl (T_ur3_r0 (d := d + 0) X1 e3 (fun z g2 σ2 D2 N2 F2 A2 c2 s2 X2 S2 zr hle => ⟨rfl, ?_⟩))
      rw [← S2.1.2.1]
      exact T_readb (d := d + 3) X2 (show inr tc54_1 by omega) zr e1 (fun z σ3 D3 N3 F3 A3 c3 s3 X3 S3 zr => k z g2 σ3 D3 N3 F3 A3 c3 s3 X3 (STP_trans (STP_tr0 S1 S2) S3) zr)
    · refine w_callk rfl (fun rec => rinvv rfl rfl (X1.1.obj 0 (by decide +kernel) (show g 0 = true from X1.2.2.1) rfl) rec) rfl (T_ur4_r0 (d := d + 0) X1 e3 (fun z g2 σ2 D2 N2 F2 A2 c2 s2 X2 S2 zr hle => ⟨rfl, ?_⟩))
      rw [← S2.1.2.1]
      exact T_readb (d := d + 3) X2 (show inr tc54_1 by omega) zr e1 (fun z σ3 D3 N3 F3 A3 c3 s3 X3 S3 zr => k z g2 σ3 D3 N3 F3 A3 c3 s3 X3 (STP_trans (STP_tr0 S1 S2) S3) zr)
  · refine T_reada1 (d := d + 7) X h0 h2 h3 (fun tc54_1 tc54_4 tc54_5 ls σ1 D1 N1 F1 A1 c1 s1 X1 S1  e1 e2 e3 => ?_) (fun z σ1 D1 N1 F1 A1 c1 s1 X1 S1 zr => k z g σ1 D1 N1 F1 A1 c1 s1 X1 S1 zr)
    rcases (show tc54_4 = 0 ∨ tc54_4 = 1 ∨ tc54_4 = 2 ∨ tc54_4 = 3 ∨ tc54_4 = 4 by omega) with rfl | rfl | rfl | rfl | rfl
    · refine w_callk rfl (fun rec => rinvv rfl rfl (X1.1.obj 0 (by decide +kernel) (show g 0 = true from X1.2.2.1) rfl) rec) rfl (T_ur0_r1 (d := d + 0) X1 e3 (fun z g2 σ2 D2 N2 F2 A2 c2 s2 X2 S2 zr hle => ⟨rfl, ?_⟩))
      rw [← S2.1.2.1]
      exact T_readb (d := d + 3) X2 (show inr tc54_1 by omega) zr e1 (fun z σ3 D3 N3 F3 A3 c3 s3 X3 S3 zr => k z g2 σ3 D3 N3 F3 A3 c3 s3 X3 (STP_trans (STP_tr0 S1 S2) S3) zr)
    · refine w_callk rfl (fun rec => rinvv rfl rfl (X1.1.obj 0 (by decide +kernel) (show g 0 = true from X1.2.2.1) rfl) rec) rfl (T_ur1_r1 (d := d + 0) X1 e3 (fun z g2 σ2 D2 N2 F2 A2 c2 s2 X2 S2 zr hle => ⟨rfl, ?_⟩))
      rw [← S2.1.2.1]
      exact T_readb (d := d + 3) X2 (show inr tc54_1 by omega) zr e1 (fun z σ3 D3 N3 F3 A3 c3 s3 X3 S3 zr => k z g2 σ3 D3 N3 F3 A3 c3 s3 X3 (STP_trans (STP_tr0 S1 S2) S3) zr)
    · refine w_callk rfl (fun rec => rinvv rfl rfl (X1.1.obj 0 (by decide +kernel) (show g 0 = true from X1.2.2.1) rfl) rec) rfl (T_ur2_r1 (d := d + 0) X1 e3 (fun z g2 σ2 D2 N2 F2 A2 c2 s2 X2 S2 zr hle => ⟨rfl, ?_⟩))
      rw [← S2.1.2.1]
      exact T_readb (d := d + 3) X2 (show inr tc54_1 by omega) zr e1 (fun z σ3 D3 N3 F3 A3 c3 s3 X3 S3 zr => k z g2 σ3 D3 N3 F3 A3 c3 s3 X3 (STP_trans (STP_tr0 S1 S2) S3) zr)
    · refine w_callk rfl (fun rec => rinvv rfl rfl (X1.1.obj 0 (by decide +kernel) (show g 0 = true from X1.2.2.1) rfl) rec) rfl (T_ur3_r1 (d := d + 0) X1 e3 (fun z g2 σ2 D2 N2 F2 A2 c2 s2 X2 S2 zr hle => ⟨rfl, ?_⟩))
      rw [← S2.1.2.1]
      exact T_readb (d := d + 3) X2 (show inr tc54_1 by omega) zr e1 (fun z σ3 D3 N3 F3 A3 c3 s3 X3 S3 zr => k z g2 σ3 D3 N3 F3 A3 c3 s3 X3 (STP_trans (STP_tr0 S1 S2) S3) zr)
    · refine w_callk rfl (fun rec => rinvv rfl rfl (X1.1.obj 0 (by decide +kernel) (show g 0 = true from X1.2.2.1) rfl) rec) rfl (T_ur4_r1 (d := d + 0) X1 e3 (fun z g2 σ2 D2 N2 F2 A2 c2 s2 X2 S2 zr hle => ⟨rfl, ?_⟩))
      rw [← S2.1.2.1]
      exact T_readb (d := d + 3) X2 (show inr tc54_1 by omega) zr e1 (fun z σ3 D3 N3 F3 A3 c3 s3 X3 S3 zr => k z g2 σ3 D3 N3 F3 A3 c3 s3 X3 (STP_trans (STP_tr0 S1 S2) S3) zr)
  · refine T_reada2 (d := d + 7) X h0 h2 h3 (fun tc54_1 tc54_4 tc54_5 ls σ1 D1 N1 F1 A1 c1 s1 X1 S1  e1 e2 e3 => ?_) (fun z σ1 D1 N1 F1 A1 c1 s1 X1 S1 zr => k z g σ1 D1 N1 F1 A1 c1 s1 X1 S1 zr)
    rcases (show tc54_4 = 0 ∨ tc54_4 = 1 ∨ tc54_4 = 2 ∨ tc54_4 = 3 ∨ tc54_4 = 4 by omega) with rfl | rfl | rfl | rfl | rfl
    · refine w_callk rfl (fun rec => rinvv rfl rfl (X1.1.obj 0 (by decide +kernel) (show g 0 = true from X1.2.2.1) rfl) rec) rfl (T_ur0_r2 (d := d + 0) X1 e3 (fun z g2 σ2 D2 N2 F2 A2 c2 s2 X2 S2 zr hle => ⟨rfl, ?_⟩))
      rw [← S2.1.2.1]
      exact T_readb (d := d + 3) X2 (show inr tc54_1 by omega) zr e1 (fun z σ3 D3 N3 F3 A3 c3 s3 X3 S3 zr => k z g2 σ3 D3 N3 F3 A3 c3 s3 X3 (STP_trans (STP_tr0 S1 S2) S3) zr)
    · refine w_callk rfl (fun rec => rinvv rfl rfl (X1.1.obj 0 (by decide +kernel) (show g 0 = true from X1.2.2.1) rfl) rec) rfl (T_ur1_r2 (d := d + 0) X1 e3 (fun z g2 σ2 D2 N2 F2 A2 c2 s2 X2 S2 zr hle => ⟨rfl, ?_⟩))
      rw [← S2.1.2.1]
      exact T_readb (d := d + 3) X2 (show inr tc54_1 by omega) zr e1 (fun z σ3 D3 N3 F3 A3 c3 s3 X3 S3 zr => k z g2 σ3 D3 N3 F3 A3 c3 s3 X3 (STP_trans (STP_tr0 S1 S2) S3) zr)
    · refine w_callk rfl (fun rec => rinvv rfl rfl (X1.1.obj 0 (by decide +kernel) (show g 0 = true from X1.2.2.1) rfl) rec) rfl (T_ur2_r2 (d := d + 0) X1 e3 (fun z g2 σ2 D2 N2 F2 A2 c2 s2 X2 S2 zr hle => ⟨rfl, ?_⟩))
      rw [← S2.1.2.1]
      exact T_readb (d := d + 3) X2 (show inr tc54_1 by omega) zr e1 (fun z σ3 D3 N3 F3 A3 c3 s3 X3 S3 zr => k z g2 σ3 D3 N3 F3 A3 c3 s3 X3 (STP_trans (STP_tr0 S1 S2) S3) zr)
    · refine w_callk rfl (fun rec => rinvv rfl rfl (X1.1.obj 0 (by decide +kernel) (show g 0 = true from X1.2.2.1) rfl) rec) rfl (T_ur3_r2 (d := d + 0) X1 e3 (fun z g2 σ2 D2 N2 F2 A2 c2 s2 X2 S2 zr hle => ⟨rfl, ?_⟩))
      rw [← S2.1.2.1]
      exact T_readb (d := d + 3) X2 (show inr tc54_1 by omega) zr e1 (fun z σ3 D3 N3 F3 A3 c3 s3 X3 S3 zr => k z g2 σ3 D3 N3 F3 A3 c3 s3 X3 (STP_trans (STP_tr0 S1 S2) S3) zr)
    · refine w_callk rfl (fun rec => rinvv rfl rfl (X1.1.obj 0 (by decide +kernel) (show g 0 = true from X1.2.2.1) rfl) rec) rfl (T_ur4_r2 (d := d + 0) X1 e3 (fun z g2 σ2 D2 N2 F2 A2 c2 s2 X2 S2 zr hle => ⟨rfl, ?_⟩))
      rw [← S2.1.2.1]
      exact T_readb (d := d + 3) X2 (show inr tc54_1 by omega) zr e1 (fun z σ3 D3 N3 F3 A3 c3 s3 X3 S3 zr => k z g2 σ3 D3 N3 F3 A3 c3 s3 X3 (STP_trans (STP_tr0 S1 S2) S3) zr)
  · refine T_reada3 (d := d + 7) X h0 h2 h3 (fun tc54_1 tc54_4 tc54_5 ls σ1 D1 N1 F1 A1 c1 s1 X1 S1  e1 e2 e3 => ?_) (fun z σ1 D1 N1 F1 A1 c1 s1 X1 S1 zr => k z g σ1 D1 N1 F1 A1 c1 s1 X1 S1 zr)
    rcases (show tc54_4 = 0 ∨ tc54_4 = 1 ∨ tc54_4 = 2 ∨ tc54_4 = 3 ∨ tc54_4 = 4 by omega) with rfl | rfl | rfl | rfl | rfl
    · refine w_callk rfl (fun rec => rinvv rfl rfl (X1.1.obj 0 (by decide +kernel) (show g 0 = true from X1.2.2.1) rfl) rec) rfl (T_ur0_r3 (d := d + 0) X1 e3 (fun z g2 σ2 D2 N2 F2 A2 c2 s2 X2 S2 zr hle => ⟨rfl, ?_⟩))
      rw [← S2.1.2.1]
      exact T_readb (d := d + 3) X2 (show inr tc54_1 by omega) zr e1 (fun z σ3 D3 N3 F3 A3 c3 s3 X3 S3 zr => k z g2 σ3 D3 N3 F3 A3 c3 s3 X3 (STP_trans (STP_tr0 S1 S2) S3) zr)
    · refine w_callk rfl (fun rec => rinvv rfl rfl (X1.1.obj 0 (by decide +kernel) (show g 0 = true from X1.2.2.1) rfl) rec) rfl (T_ur1_r3 (d := d + 0) X1 e3 (fun z g2 σ2 D2 N2 F2 A2 c2 s2 X2 S2 zr hle => ⟨rfl, ?_⟩))
      rw [← S2.1.2.1]
      exact T_readb (d := d + 3) X2 (show inr tc54_1 by omega) zr e1 (fun z σ3 D3 N3 F3 A3 c3 s3 X3 S3 zr => k z g2 σ3 D3 N3 F3 A3 c3 s3 X3 (STP_trans (STP_tr0 S1 S2) S3) zr)
    · refine w_callk rfl (fun rec => rinvv rfl rfl (X1.1.obj 0 (by decide +kernel) (show g 0 = true from X1.2.2.1) rfl) rec) rfl (T_ur2_r3 (d := d + 0) X1 e3 (fun z g2 σ2 D2 N2 F2 A2 c2 s2 X2 S2 zr hle => ⟨rfl, ?_⟩))
      rw [← S2.1.2.1]
      exact T_readb (d := d + 3) X2 (show inr tc54_1 by omega) zr e1 (fun z σ3 D3 N3 F3 A3 c3 s3 X3 S3 zr => k z g2 σ3 D3 N3 F3 A3 c3 s3 X3 (STP_trans (STP_tr0 S1 S2) S3) zr)
    · refine w_callk rfl (fun rec => rinvv rfl rfl (X1.1.obj 0 (by decide +kernel) (show g 0 = true from X1.2.2.1) rfl) rec) rfl (T_ur3_r3 (d := d + 0) X1 e3 (fun z g2 σ2 D2 N2 F2 A2 c2 s2 X2 S2 zr hle => ⟨rfl, ?_⟩))
      rw [← S2.1.2.1]
      exact T_readb (d := d + 3) X2 (show inr tc54_1 by omega) zr e1 (fun z σ3 D3 N3 F3 A3 c3 s3 X3 S3 zr => k z g2 σ3 D3 N3 F3 A3 c3 s3 X3 (STP_trans (STP_tr0 S1 S2) S3) zr)
    · refine w_callk rfl (fun rec => rinvv rfl rfl (X1.1.obj 0 (by decide +kernel) (show g 0 = true from X1.2.2.1) rfl) rec) rfl (T_ur4_r3 (d := d + 0) X1 e3 (fun z g2 σ2 D2 N2 F2 A2 c2 s2 X2 S2 zr hle => ⟨rfl, ?_⟩))
      rw [← S2.1.2.1]
      exact T_readb (d := d + 3) X2 (show inr tc54_1 by omega) zr e1 (fun z σ3 D3 N3 F3 A3 c3 s3 X3 S3 zr => k z g2 σ3 D3 N3 F3 A3 c3 s3 X3 (STP_trans (STP_tr0 S1 S2) S3) zr)
  · exact T_readx (d := d + 7) X h0 h1 h2 h3 ha (fun z σ1 D1 N1 F1 A1 c1 s1 X1 S1 zr => k z g σ1 D1 N1 F1 A1 c1 s1 X1 S1 zr)
theorem T_open {g : Nat → Bool} {σ : rS} {D N : Nat → Nat} {F : hF} {A : hA} {d c s : Nat} {Q : wQ} (X : PHI g σ D N F A) {a1 a2 a3 : Int} (h0 : inr a1) (h1 : inr a2) (h2 : inr a3) (k : ∀ (z : Int) (gₚ : Nat → Bool) (σₚ : rS) (Dₚ Nₚ : Nat → Nat) (Fₚ : hF) (Aₚ : hA) (cₚ sₚ : Nat), PHI gₚ σₚ Dₚ Nₚ Fₚ Aₚ → STP g σ D N A c s gₚ σₚ Dₚ Nₚ Aₚ cₚ sₚ → inr z → Q (some (I z)) σₚ cₚ sₚ) : Ew 20 (d + 8) 0 (rargs 0 [.ref (D 0), I a1, I a2, I a3]) [] σ c s Q := by
  rcases (show a2 = 0 ∨ a2 = 1 ∨ a2 = 2 ∨ a2 = 3 ∨ (a2 < 0 ∨ 4 ≤ a2) by omega) with rfl | rfl | rfl | rfl | ha
  · refine T_opena0 (d := d + 5) X h0 h2 (fun tc68_1 tc68_4 tc68_5 ls σ1 D1 N1 F1 A1 c1 s1 X1 S1  e1 e2 e3 => ?_) (fun z σ1 D1 N1 F1 A1 c1 s1 X1 S1 zr => k z g σ1 D1 N1 F1 A1 c1 s1 X1 S1 zr)
    rcases (show tc68_4 = 1 ∨ tc68_4 = 3 ∨ tc68_4 = 4 by omega) with rfl | rfl | rfl
    · refine w_callk rfl (fun rec => rinvv rfl rfl (X1.1.obj 0 (by decide +kernel) (show g 0 = true from X1.2.2.1) rfl) rec) rfl (T_ur1_r0 (d := d + 0) X1 e3 (fun z g2 σ2 D2 N2 F2 A2 c2 s2 X2 S2 zr hle => ⟨rfl, ?_⟩))
      rw [← S2.1.2.1]
      exact T_openb (d := d + 3) X2 (show inr tc68_1 by omega) zr e1 (fun z σ3 D3 N3 F3 A3 c3 s3 X3 S3 zr => k z g2 σ3 D3 N3 F3 A3 c3 s3 X3 (STP_trans (STP_tr0 S1 S2) S3) zr)
    · refine w_callk rfl (fun rec => rinvv rfl rfl (X1.1.obj 0 (by decide +kernel) (show g 0 = true from X1.2.2.1) rfl) rec) rfl (T_ur3_r0 (d := d + 0) X1 e3 (fun z g2 σ2 D2 N2 F2 A2 c2 s2 X2 S2 zr hle => ⟨rfl, ?_⟩))
      rw [← S2.1.2.1]
      exact T_openb (d := d + 3) X2 (show inr tc68_1 by omega) zr e1 (fun z σ3 D3 N3 F3 A3 c3 s3 X3 S3 zr => k z g2 σ3 D3 N3 F3 A3 c3 s3 X3 (STP_trans (STP_tr0 S1 S2) S3) zr)
    · refine w_callk rfl (fun rec => rinvv rfl rfl (X1.1.obj 0 (by decide +kernel) (show g 0 = true from X1.2.2.1) rfl) rec) rfl (T_ur4_r0 (d := d + 0) X1 e3 (fun z g2 σ2 D2 N2 F2 A2 c2 s2 X2 S2 zr hle => ⟨rfl, ?_⟩))
      rw [← S2.1.2.1]
      exact T_openb (d := d + 3) X2 (show inr tc68_1 by omega) zr e1 (fun z σ3 D3 N3 F3 A3 c3 s3 X3 S3 zr => k z g2 σ3 D3 N3 F3 A3 c3 s3 X3 (STP_trans (STP_tr0 S1 S2) S3) zr)
  · refine T_opena1 (d := d + 5) X h0 h2 (fun tc68_1 tc68_4 tc68_5 ls σ1 D1 N1 F1 A1 c1 s1 X1 S1  e1 e2 e3 => ?_) (fun z σ1 D1 N1 F1 A1 c1 s1 X1 S1 zr => k z g σ1 D1 N1 F1 A1 c1 s1 X1 S1 zr)
    rcases (show tc68_4 = 1 ∨ tc68_4 = 3 ∨ tc68_4 = 4 by omega) with rfl | rfl | rfl
    · refine w_callk rfl (fun rec => rinvv rfl rfl (X1.1.obj 0 (by decide +kernel) (show g 0 = true from X1.2.2.1) rfl) rec) rfl (T_ur1_r1 (d := d + 0) X1 e3 (fun z g2 σ2 D2 N2 F2 A2 c2 s2 X2 S2 zr hle => ⟨rfl, ?_⟩))
      rw [← S2.1.2.1]
      exact T_openb (d := d + 3) X2 (show inr tc68_1 by omega) zr e1 (fun z σ3 D3 N3 F3 A3 c3 s3 X3 S3 zr => k z g2 σ3 D3 N3 F3 A3 c3 s3 X3 (STP_trans (STP_tr0 S1 S2) S3) zr)
    · refine w_callk rfl (fun rec => rinvv rfl rfl (X1.1.obj 0 (by decide +kernel) (show g 0 = true from X1.2.2.1) rfl) rec) rfl (T_ur3_r1 (d := d + 0) X1 e3 (fun z g2 σ2 D2 N2 F2 A2 c2 s2 X2 S2 zr hle => ⟨rfl, ?_⟩))
      rw [← S2.1.2.1]
      exact T_openb (d := d + 3) X2 (show inr tc68_1 by omega) zr e1 (fun z σ3 D3 N3 F3 A3 c3 s3 X3 S3 zr => k z g2 σ3 D3 N3 F3 A3 c3 s3 X3 (STP_trans (STP_tr0 S1 S2) S3) zr)
    · refine w_callk rfl (fun rec => rinvv rfl rfl (X1.1.obj 0 (by decide +kernel) (show g 0 = true from X1.2.2.1) rfl) rec) rfl (T_ur4_r1 (d := d + 0) X1 e3 (fun z g2 σ2 D2 N2 F2 A2 c2 s2 X2 S2 zr hle => ⟨rfl, ?_⟩))
      rw [← S2.1.2.1]
      exact T_openb (d := d + 3) X2 (show inr tc68_1 by omega) zr e1 (fun z σ3 D3 N3 F3 A3 c3 s3 X3 S3 zr => k z g2 σ3 D3 N3 F3 A3 c3 s3 X3 (STP_trans (STP_tr0 S1 S2) S3) zr)
  · refine T_opena2 (d := d + 5) X h0 h2 (fun tc68_1 tc68_4 tc68_5 ls σ1 D1 N1 F1 A1 c1 s1 X1 S1  e1 e2 e3 => ?_) (fun z σ1 D1 N1 F1 A1 c1 s1 X1 S1 zr => k z g σ1 D1 N1 F1 A1 c1 s1 X1 S1 zr)
    rcases (show tc68_4 = 1 ∨ tc68_4 = 3 ∨ tc68_4 = 4 by omega) with rfl | rfl | rfl
    · refine w_callk rfl (fun rec => rinvv rfl rfl (X1.1.obj 0 (by decide +kernel) (show g 0 = true from X1.2.2.1) rfl) rec) rfl (T_ur1_r2 (d := d + 0) X1 e3 (fun z g2 σ2 D2 N2 F2 A2 c2 s2 X2 S2 zr hle => ⟨rfl, ?_⟩))
      rw [← S2.1.2.1]
      exact T_openb (d := d + 3) X2 (show inr tc68_1 by omega) zr e1 (fun z σ3 D3 N3 F3 A3 c3 s3 X3 S3 zr => k z g2 σ3 D3 N3 F3 A3 c3 s3 X3 (STP_trans (STP_tr0 S1 S2) S3) zr)
    · refine w_callk rfl (fun rec => rinvv rfl rfl (X1.1.obj 0 (by decide +kernel) (show g 0 = true from X1.2.2.1) rfl) rec) rfl (T_ur3_r2 (d := d + 0) X1 e3 (fun z g2 σ2 D2 N2 F2 A2 c2 s2 X2 S2 zr hle => ⟨rfl, ?_⟩))
      rw [← S2.1.2.1]
      exact T_openb (d := d + 3) X2 (show inr tc68_1 by omega) zr e1 (fun z σ3 D3 N3 F3 A3 c3 s3 X3 S3 zr => k z g2 σ3 D3 N3 F3 A3 c3 s3 X3 (STP_trans (STP_tr0 S1 S2) S3) zr)
    · refine w_callk rfl (fun rec => rinvv rfl rfl (X1.1.obj 0 (by decide +kernel) (show g 0 = true from X1.2.2.1) rfl) rec) rfl (T_ur4_r2 (d := d + 0) X1 e3 (fun z g2 σ2 D2 N2 F2 A2 c2 s2 X2 S2 zr hle => ⟨rfl, ?_⟩))
      rw [← S2.1.2.1]
      exact T_openb (d := d + 3) X2 (show inr tc68_1 by omega) zr e1 (fun z σ3 D3 N3 F3 A3 c3 s3 X3 S3 zr => k z g2 σ3 D3 N3 F3 A3 c3 s3 X3 (STP_trans (STP_tr0 S1 S2) S3) zr)
  · refine T_opena3 (d := d + 5) X h0 h2 (fun tc68_1 tc68_4 tc68_5 ls σ1 D1 N1 F1 A1 c1 s1 X1 S1  e1 e2 e3 => ?_) (fun z σ1 D1 N1 F1 A1 c1 s1 X1 S1 zr => k z g σ1 D1 N1 F1 A1 c1 s1 X1 S1 zr)
    rcases (show tc68_4 = 1 ∨ tc68_4 = 3 ∨ tc68_4 = 4 by omega) with rfl | rfl | rfl
    · refine w_callk rfl (fun rec => rinvv rfl rfl (X1.1.obj 0 (by decide +kernel) (show g 0 = true from X1.2.2.1) rfl) rec) rfl (T_ur1_r3 (d := d + 0) X1 e3 (fun z g2 σ2 D2 N2 F2 A2 c2 s2 X2 S2 zr hle => ⟨rfl, ?_⟩))
      rw [← S2.1.2.1]
      exact T_openb (d := d + 3) X2 (show inr tc68_1 by omega) zr e1 (fun z σ3 D3 N3 F3 A3 c3 s3 X3 S3 zr => k z g2 σ3 D3 N3 F3 A3 c3 s3 X3 (STP_trans (STP_tr0 S1 S2) S3) zr)
    · refine w_callk rfl (fun rec => rinvv rfl rfl (X1.1.obj 0 (by decide +kernel) (show g 0 = true from X1.2.2.1) rfl) rec) rfl (T_ur3_r3 (d := d + 0) X1 e3 (fun z g2 σ2 D2 N2 F2 A2 c2 s2 X2 S2 zr hle => ⟨rfl, ?_⟩))
      rw [← S2.1.2.1]
      exact T_openb (d := d + 3) X2 (show inr tc68_1 by omega) zr e1 (fun z σ3 D3 N3 F3 A3 c3 s3 X3 S3 zr => k z g2 σ3 D3 N3 F3 A3 c3 s3 X3 (STP_trans (STP_tr0 S1 S2) S3) zr)
    · refine w_callk rfl (fun rec => rinvv rfl rfl (X1.1.obj 0 (by decide +kernel) (show g 0 = true from X1.2.2.1) rfl) rec) rfl (T_ur4_r3 (d := d + 0) X1 e3 (fun z g2 σ2 D2 N2 F2 A2 c2 s2 X2 S2 zr hle => ⟨rfl, ?_⟩))
      rw [← S2.1.2.1]
      exact T_openb (d := d + 3) X2 (show inr tc68_1 by omega) zr e1 (fun z σ3 D3 N3 F3 A3 c3 s3 X3 S3 zr => k z g2 σ3 D3 N3 F3 A3 c3 s3 X3 (STP_trans (STP_tr0 S1 S2) S3) zr)
  · exact T_openx (d := d + 7) X h0 h1 h2 ha (fun z σ1 D1 N1 F1 A1 c1 s1 X1 S1 zr => k z g σ1 D1 N1 F1 A1 c1 s1 X1 S1 zr)
