/-! write over the state -/
theorem T_write {g : Nat → Bool} {σ : rS} {D N : Nat → Nat} {F : hF} {A : hA} {d c s : Nat} {Q : wQ} (X : PHI g σ D N F A) {a1 a2 a3 : Int} (h0 : inr a1) (h1 : inr a2) (h2 : inr a3) (k : ∀ (z : Int) (gₚ : Nat → Bool) (σₚ : rS) (Dₚ Nₚ : Nat → Nat) (Fₚ : hF) (Aₚ : hA) (cₚ sₚ : Nat), PHI gₚ σₚ Dₚ Nₚ Fₚ Aₚ → STP g σ D N A c s gₚ σₚ Dₚ Nₚ Aₚ cₚ sₚ → inr z → Q (some (I z)) σₚ cₚ sₚ) : Ew 17 (d + 8) 0 (rargs 0 [.ref (D 0), I a1, I a2, I a3]) [] σ c s Q := by
  refine T_wa (d := d + 7) X h0 h1 h2 (fun ls σ1 D1 N1 F1 A1 c1 s1 X1 S1 l0 l1 l2 l3 e1 e2 e3 b0 b1 b2 b3 b4 b5 b6 b7 b8 b9 b10 b11 => ?_) (fun z σ1 D1 N1 F1 A1 c1 s1 X1 S1 zr => k z g σ1 D1 N1 F1 A1 c1 s1 X1 S1 zr)
  rcases (show a2 = 0 ∨ a2 = 1 ∨ a2 = 2 ∨ a2 = 3 by omega) with rfl | rfl | rfl | rfl
  · have v0 := Or.resolve_left b0 (fun q => q rfl)
    have v1 := Or.resolve_left b4 (fun q => q rfl)
    have v2 := Or.resolve_left b8 (fun q => q rfl)
    clear b0 b1 b2 b3 b4 b5 b6 b7 b8 b9 b10 b11
    refine T_wb0 (d := d + 8) X1 l0 l1 l2 l3 (show inr a1 by omega) (show inr a3 by omega) (by omega) (by omega) (by omega) (fun ls σ2 D2 N2 F2 A2 c2 s2 X2 S2 p0 p1 p3 p4 u0 u1 u2 => ?_) (fun z σ2 D2 N2 F2 A2 c2 s2 X2 S2 zr => k z g σ2 D2 N2 F2 A2 c2 s2 X2 (STP_trans S1 S2) zr)
    rcases (show a3 = 0 ∨ a3 = 1 ∨ a3 = 2 ∨ a3 = 3 ∨ a3 = 4 ∨ a3 = 5 by omega) with rfl | rfl | rfl | rfl | rfl | rfl
    · exact T_wK0_0 (d := d) X2 p0 p1 p3 p4 e1 (by omega) (by omega) (fun z gₚ σ3 D3 N3 F3 A3 c3 s3 X3 S3 zr => k z gₚ σ3 D3 N3 F3 A3 c3 s3 X3 (STP_trans (STP_trans S1 S2) S3) zr)
    · exact T_wK1_0 (d := d) X2 p0 p1 p3 p4 e1 (by omega) (by omega) (fun z gₚ σ3 D3 N3 F3 A3 c3 s3 X3 S3 zr => k z gₚ σ3 D3 N3 F3 A3 c3 s3 X3 (STP_trans (STP_trans S1 S2) S3) zr)
    · exact T_wK2_0 (d := d) X2 p0 p1 p3 p4 e1 (by omega) (fun z gₚ σ3 D3 N3 F3 A3 c3 s3 X3 S3 zr => k z gₚ σ3 D3 N3 F3 A3 c3 s3 X3 (STP_trans (STP_trans S1 S2) S3) zr)
    · exact T_wK3_0 (d := d) X2 p0 p1 p3 p4 e1 (by omega) (fun z gₚ σ3 D3 N3 F3 A3 c3 s3 X3 S3 zr => k z gₚ σ3 D3 N3 F3 A3 c3 s3 X3 (STP_trans (STP_trans S1 S2) S3) zr)
    · exact T_wK4_0 (d := d) X2 p0 p1 p3 p4 e1 (by omega) (by omega) (fun z gₚ σ3 D3 N3 F3 A3 c3 s3 X3 S3 zr => k z gₚ σ3 D3 N3 F3 A3 c3 s3 X3 (STP_trans (STP_trans S1 S2) S3) zr)
    · exact T_wK5_0 (d := d) X2 p0 p1 p3 p4 e1 (by omega) (fun z gₚ σ3 D3 N3 F3 A3 c3 s3 X3 S3 zr => k z gₚ σ3 D3 N3 F3 A3 c3 s3 X3 (STP_trans (STP_trans S1 S2) S3) zr)
  · have v0 := Or.resolve_left b1 (fun q => q rfl)
    have v1 := Or.resolve_left b5 (fun q => q rfl)
    have v2 := Or.resolve_left b9 (fun q => q rfl)
    clear b0 b1 b2 b3 b4 b5 b6 b7 b8 b9 b10 b11
    refine T_wb1 (d := d + 8) X1 l0 l1 l2 l3 (show inr a1 by omega) (show inr a3 by omega) (by omega) (by omega) (by omega) (fun ls σ2 D2 N2 F2 A2 c2 s2 X2 S2 p0 p1 p3 p4 u0 u1 u2 => ?_) (fun z σ2 D2 N2 F2 A2 c2 s2 X2 S2 zr => k z g σ2 D2 N2 F2 A2 c2 s2 X2 (STP_trans S1 S2) zr)
    rcases (show a3 = 0 ∨ a3 = 1 ∨ a3 = 2 ∨ a3 = 3 ∨ a3 = 4 ∨ a3 = 5 by omega) with rfl | rfl | rfl | rfl | rfl | rfl
    · exact T_wK0_1 (d := d) X2 p0 p1 p3 p4 e1 (by omega) (by omega) (fun z gₚ σ3 D3 N3 F3 A3 c3 s3 X3 S3 zr => k z gₚ σ3 D3 N3 F3 A3 c3 s3 X3 (STP_trans (STP_trans S1 S2) S3) zr)
    · exact T_wK1_1 (d := d) X2 p0 p1 p3 p4 e1 (by omega) (by omega) (fun z gₚ σ3 D3 N3 F3 A3 c3 s3 X3 S3 zr => k z gₚ σ3 D3 N3 F3 A3 c3 s3 X3 (STP_trans (STP_trans S1 S2) S3) zr)
    · exact T_wK2_1 (d := d) X2 p0 p1 p3 p4 e1 (by omega) (fun z gₚ σ3 D3 N3 F3 A3 c3 s3 X3 S3 zr => k z gₚ σ3 D3 N3 F3 A3 c3 s3 X3 (STP_trans (STP_trans S1 S2) S3) zr)
    · exact T_wK3_1 (d := d) X2 p0 p1 p3 p4 e1 (by omega) (fun z gₚ σ3 D3 N3 F3 A3 c3 s3 X3 S3 zr => k z gₚ σ3 D3 N3 F3 A3 c3 s3 X3 (STP_trans (STP_trans S1 S2) S3) zr)
    · exact T_wK4_1 (d := d) X2 p0 p1 p3 p4 e1 (by omega) (by omega) (fun z gₚ σ3 D3 N3 F3 A3 c3 s3 X3 S3 zr => k z gₚ σ3 D3 N3 F3 A3 c3 s3 X3 (STP_trans (STP_trans S1 S2) S3) zr)
    · exact T_wK5_1 (d := d) X2 p0 p1 p3 p4 e1 (by omega) (fun z gₚ σ3 D3 N3 F3 A3 c3 s3 X3 S3 zr => k z gₚ σ3 D3 N3 F3 A3 c3 s3 X3 (STP_trans (STP_trans S1 S2) S3) zr)
  · have v0 := Or.resolve_left b2 (fun q => q rfl)
    have v1 := Or.resolve_left b6 (fun q => q rfl)
    have v2 := Or.resolve_left b10 (fun q => q rfl)
    clear b0 b1 b2 b3 b4 b5 b6 b7 b8 b9 b10 b11
    refine T_wb2 (d := d + 8) X1 l0 l1 l2 l3 (show inr a1 by omega) (show inr a3 by omega) (by omega) (by omega) (by omega) (fun ls σ2 D2 N2 F2 A2 c2 s2 X2 S2 p0 p1 p3 p4 u0 u1 u2 => ?_) (fun z σ2 D2 N2 F2 A2 c2 s2 X2 S2 zr => k z g σ2 D2 N2 F2 A2 c2 s2 X2 (STP_trans S1 S2) zr)
    rcases (show a3 = 0 ∨ a3 = 1 ∨ a3 = 2 ∨ a3 = 3 ∨ a3 = 4 ∨ a3 = 5 by omega) with rfl | rfl | rfl | rfl | rfl | rfl
    · exact T_wK0_2 (d := d) X2 p0 p1 p3 p4 e1 (by omega) (by omega) (fun z gₚ σ3 D3 N3 F3 A3 c3 s3 X3 S3 zr => k z gₚ σ3 D3 N3 F3 A3 c3 s3 X3 (STP_trans (STP_trans S1 S2) S3) zr)
    · exact T_wK1_2 (d := d) X2 p0 p1 p3 p4 e1 (by omega) (by omega) (fun z gₚ σ3 D3 N3 F3 A3 c3 s3 X3 S3 zr => k z gₚ σ3 D3 N3 F3 A3 c3 s3 X3 (STP_trans (STP_trans S1 S2) S3) zr)
    · exact T_wK2_2 (d := d) X2 p0 p1 p3 p4 e1 (by omega) (fun z gₚ σ3 D3 N3 F3 A3 c3 s3 X3 S3 zr => k z gₚ σ3 D3 N3 F3 A3 c3 s3 X3 (STP_trans (STP_trans S1 S2) S3) zr)
    · exact T_wK3_2 (d := d) X2 p0 p1 p3 p4 e1 (by omega) (fun z gₚ σ3 D3 N3 F3 A3 c3 s3 X3 S3 zr => k z gₚ σ3 D3 N3 F3 A3 c3 s3 X3 (STP_trans (STP_trans S1 S2) S3) zr)
    · exact T_wK4_2 (d := d) X2 p0 p1 p3 p4 e1 (by omega) (by omega) (fun z gₚ σ3 D3 N3 F3 A3 c3 s3 X3 S3 zr => k z gₚ σ3 D3 N3 F3 A3 c3 s3 X3 (STP_trans (STP_trans S1 S2) S3) zr)
    · exact T_wK5_2 (d := d) X2 p0 p1 p3 p4 e1 (by omega) (fun z gₚ σ3 D3 N3 F3 A3 c3 s3 X3 S3 zr => k z gₚ σ3 D3 N3 F3 A3 c3 s3 X3 (STP_trans (STP_trans S1 S2) S3) zr)
  · have v0 := Or.resolve_left b3 (fun q => q rfl)
    have v1 := Or.resolve_left b7 (fun q => q rfl)
    have v2 := Or.resolve_left b11 (fun q => q rfl)
    clear b0 b1 b2 b3 b4 b5 b6 b7 b8 b9 b10 b11
    refine T_wb3 (d := d + 8) X1 l0 l1 l2 l3 (show inr a1 by omega) (show inr a3 by omega) (by omega) (by omega) (by omega) (fun ls σ2 D2 N2 F2 A2 c2 s2 X2 S2 p0 p1 p3 p4 u0 u1 u2 => ?_) (fun z σ2 D2 N2 F2 A2 c2 s2 X2 S2 zr => k z g σ2 D2 N2 F2 A2 c2 s2 X2 (STP_trans S1 S2) zr)
    rcases (show a3 = 0 ∨ a3 = 1 ∨ a3 = 2 ∨ a3 = 3 ∨ a3 = 4 ∨ a3 = 5 by omega) with rfl | rfl | rfl | rfl | rfl | rfl
    · exact T_wK0_3 (d := d) X2 p0 p1 p3 p4 e1 (by omega) (by omega) (fun z gₚ σ3 D3 N3 F3 A3 c3 s3 X3 S3 zr => k z gₚ σ3 D3 N3 F3 A3 c3 s3 X3 (STP_trans (STP_trans S1 S2) S3) zr)
    · exact T_wK1_3 (d := d) X2 p0 p1 p3 p4 e1 (by omega) (by omega) (fun z gₚ σ3 D3 N3 F3 A3 c3 s3 X3 S3 zr => k z gₚ σ3 D3 N3 F3 A3 c3 s3 X3 (STP_trans (STP_trans S1 S2) S3) zr)
    · exact T_wK2_3 (d := d) X2 p0 p1 p3 p4 e1 (by omega) (fun z gₚ σ3 D3 N3 F3 A3 c3 s3 X3 S3 zr => k z gₚ σ3 D3 N3 F3 A3 c3 s3 X3 (STP_trans (STP_trans S1 S2) S3) zr)
    · exact T_wK3_3 (d := d) X2 p0 p1 p3 p4 e1 (by omega) (fun z gₚ σ3 D3 N3 F3 A3 c3 s3 X3 S3 zr => k z gₚ σ3 D3 N3 F3 A3 c3 s3 X3 (STP_trans (STP_trans S1 S2) S3) zr)
    · exact T_wK4_3 (d := d) X2 p0 p1 p3 p4 e1 (by omega) (by omega) (fun z gₚ σ3 D3 N3 F3 A3 c3 s3 X3 S3 zr => k z gₚ σ3 D3 N3 F3 A3 c3 s3 X3 (STP_trans (STP_trans S1 S2) S3) zr)
    · exact T_wK5_3 (d := d) X2 p0 p1 p3 p4 e1 (by omega) (fun z gₚ σ3 D3 N3 F3 A3 c3 s3 X3 S3 zr => k z gₚ σ3 D3 N3 F3 A3 c3 s3 X3 (STP_trans (STP_trans S1 S2) S3) zr)
