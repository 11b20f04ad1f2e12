theorem rw4_0 {L0 L1 L2 L3 : List Int} : rw4 L0 L1 L2 L3 0 = L0 := rfl
theorem rw4_1 {L0 L1 L2 L3 : List Int} : rw4 L0 L1 L2 L3 1 = L1 := rfl
theorem rw4_2 {L0 L1 L2 L3 : List Int} : rw4 L0 L1 L2 L3 2 = L2 := rfl
theorem rw4_3 {L0 L1 L2 L3 : List Int} : rw4 L0 L1 L2 L3 3 = L3 := rfl
theorem T_write {Dc : DcS} {g : Nat → Bool} {σ : rS} {D N : Nat → Nat} {F : hF} {A : hA} {d c s : Nat} {Q : wQ} {st0 : WSt} (hst : WSD Dc st0) (X : PHI Dc g σ D N F A) {a1 a2 a3 : Int} (h0 : inr a1) (h1 : inr a2) (h2 : inr a3) (k : ∀ (z : Int) (gₚ : Nat → Bool) (σₚ : rS) (Dₚ Nₚ : Nat → Nat) (Fₚ : hF) (Aₚ : hA) (cₚ sₚ : Nat), PHI Dc gₚ σₚ Dₚ Nₚ Fₚ Aₚ → STP g σ D N A c s gₚ σₚ Dₚ Nₚ Aₚ cₚ sₚ → EQD [(11, 1), (0, 18)] [12, 10, 30] [] [] D N F A Dₚ Nₚ Fₚ Aₚ → inr z → WRP WRY (rwC F A) (rwC Fₚ Aₚ) a1 a2 a3 (A 10) (paC F A) Dc st0 z (A 32 0) (Aₚ 32 0) (A 32 1) (Aₚ 32 1) (fun i => A 29 (i + 1)) (fun i => Aₚ 29 (i + 1)) → (a3 = 4 → 0 ≤ z → 0 ≤ (RDS (ap (rwC Fₚ Aₚ a1)) ((rwC Fₚ Aₚ a1).length : Int) ((rwC F A a2).length : Int) Dc).1) → Q (some (I z)) σₚ cₚ sₚ) : Ew 17 (d + 8) 0 (rargs 0 [.ref (D 0), I a1, I a2, I a3]) [] σ c s Q := by
  have hw : INV0 Dc D N F A := X.2.2.2.2.2.2.2.1
  unfold INV0 at hw
  have hri0 : 0 ≤ F 2 1 ∧ F 2 1 ≤ 65536 := by have w := hw.1; omega
  have hri1 : 0 ≤ F 4 1 ∧ F 4 1 ≤ 65536 := by have w := hw.2.1; omega
  have hri2 : 0 ≤ F 6 1 ∧ F 6 1 ≤ 65536 := by have w := hw.2.2.1; omega
  have hri3 : 0 ≤ F 8 1 ∧ F 8 1 ≤ 65536 := by have w := hw.2.2.2.1; omega
  have hrp : 0 ≤ F 11 1 := by have w := hw.2.2.2.2.1; omega
  have hrd : 0 ≤ F 14 1 := by have w := hw.2.2.2.2.2.2.2.1; omega
  have hdk : DCK Dc (sc (A 15) 0 (F 14 1)) (F 13 2) (A 18) := hw.2.2.2.2.2.2.2.2.2.2.2.2.2.2.2.2.2.2.2.2.2.1
  have hlp : ((paC F A).length : Int) = F 11 1 := scn hrp
  have hld : (Dc.1.length : Int) = F 14 1 := by rw [hdk.1]; exact scn hrd
  have hwa : a3 < 2 ∧ wrA a3 (paC F A) Dc = F 11 1 ∨ a3 = 4 ∧ wrA a3 (paC F A) Dc = F 14 1 ∨ 2 ≤ a3 ∧ a3 ≠ 4 ∧ wrA a3 (paC F A) Dc = 0 := by
    unfold wrA
    by_cases c : a3 < 2
    · exact .inl ⟨c, by rw [if_pos c]; exact hlp⟩
    · by_cases c4 : a3 = 4
      · exact .inr (.inl ⟨c4, by rw [if_neg c, if_pos c4]; exact hld⟩)
      · exact .inr (.inr ⟨by omega, c4, by rw [if_neg c, if_neg c4]⟩)
  have hlr0 : ((sc (A 3) 0 (F 2 1)).length : Int) = F 2 1 := scn hri0.1
  have hlr1 : ((sc (A 5) 0 (F 4 1)).length : Int) = F 4 1 := scn hri1.1
  have hlr2 : ((sc (A 7) 0 (F 6 1)).length : Int) = F 6 1 := scn hri2.1
  have hlr3 : ((sc (A 9) 0 (F 8 1)).length : Int) = F 8 1 := scn hri3.1
  refine T_wa (d := d + 7) X h0 h1 h2 (fun ls σ1 D1 N1 F1 A1 c1 s1 X1 S1 E1 l0 l1 l2 l3 e1 e2 e3 e4 b0 b1 b2 b3 b4 b5 b6 b7 b8 b9 b10 b11 => ?_) (fun z σ1 D1 N1 F1 A1 c1 s1 X1 S1 E1 q => ?_)
  · rcases (show a2 = 0 ∨ a2 = 1 ∨ a2 = 2 ∨ a2 = 3 by omega) with ha | ha | ha | ha
    · obtain rfl : a2 = 0 := ha
      have v0 := Or.resolve_left b0 (fun q => q rfl)
      have v1 := Or.resolve_left b4 (fun q => q rfl)
      have v2 := Or.resolve_left b8 (fun q => q rfl)
      clear b0 b1 b2 b3 b4 b5 b6 b7 b8 b9 b10 b11
      have ea : rwC F A 0 = sc (A 3) 0 (F 2 1) := by first | exact rw4_0 | rfl
      refine T_wb0 (d := d + 8) X1 l0 l1 l2 l3 (show inr a1 by omega) (show inr a3 by omega) (by omega) (by omega) (by omega) (fun ls σ2 D2 N2 F2 A2 c2 s2 X2 S2 E2 p0 p1 p3 p4 u0 u1 u2 => ?_) (fun z σ2 D2 N2 F2 A2 c2 s2 X2 S2 E2 q => absurd q (by decide))
      · skip
        have E12 : EQD [(2, 1), (4, 1), (6, 1), (8, 1), (11, 1), (0, 18)] [3, 5, 7, 9, 12, 10, 29, 30, 32] [] [] D N F A D2 N2 F2 A2 := EQD_tr (EQD_sub (by decide) E1) (EQD_sub (by decide) E2)
        have f2 : F2 2 1 = F 2 1 := E12.1 (2, 1) (by decide)
        have f11 : F2 11 1 = F 11 1 := E12.1 (11, 1) (by decide)
        have hr2 : rwC F2 A2 = rwC F A := rwC_e (EQD_sub (by decide) E12)
        have hp2 : paC F2 A2 = paC F A := paC_e (EQD_sub (by decide) E12)
        have h10 : A2 10 = A 10 := E12.2.1 10 (by decide)
        have h32 : A2 32 = A 32 := E12.2.1 32 (by decide)
        have h29 : A2 29 = A 29 := E12.2.1 29 (by decide)
        have hs2 : sc (A2 3) 0 (F2 2 1) = rwC F A 0 := by rw [ea, E12.2.1 3 (by decide), f2]
        have hd2 : DCK Dc (sc (A2 15) 0 (F2 14 1)) (F2 13 2) (A2 18) := by have w := X2.2.2.2.2.2.2.2.1; unfold INV0 at w; exact w.2.2.2.2.2.2.2.2.2.2.2.2.2.2.2.2.2.2.2.2.2.1
        have hn2 : 0 ≤ F2 14 1 := by have w := X2.2.2.2.2.2.2.2.1; unfold INV0 at w; have w := w.2.2.2.2.2.2.2.1; omega
        have hld2 : F2 14 1 = F 14 1 := by rw [← hld, hd2.1]; exact (scn hn2).symm
        have hco : okd a1 ∧ okd (0 : Int) ∧ (0 ≤ a3 ∧ a3 ≤ 5) ∧ ((rwC F A 0).length : Int) + wrA a3 (paC F A) Dc ≤ 16384 := ⟨e1, ⟨by decide, by decide⟩, e3, by rw [ea]; omega⟩
        rcases (show a3 = 0 ∨ a3 = 1 ∨ a3 = 2 ∨ a3 = 3 ∨ a3 = 4 ∨ a3 = 5 by omega) with h3 | h3 | h3 | h3 | h3 | h3
        · obtain rfl : a3 = 0 := h3
          refine T_wK0_0 (d := d) hst X2 p0 p1 p3 p4 e1 (by omega) (by omega) (fun z gₚ σ3 D3 N3 F3 A3 c3 s3 X3 S3 E3 zr hP => ?_)
          rw [hs2, hr2, hp2, h10, h32, h29] at hP
          have hQ := WRB_P hP hco
          exact k z gₚ σ3 D3 N3 F3 A3 c3 s3 X3 (STP_trans (STP_trans S1 S2) S3) (EQD_tr (EQD_sub (by decide) E12) (EQD_sub (by decide) E3)) zr hQ.1 hQ.2
        · obtain rfl : a3 = 1 := h3
          refine T_wK1_0 (d := d) hst X2 p0 p1 p3 p4 e1 (by omega) (by omega) (fun z gₚ σ3 D3 N3 F3 A3 c3 s3 X3 S3 E3 zr hP => ?_)
          rw [hs2, hr2, hp2, h10, h32, h29] at hP
          have hQ := WRB_P hP hco
          exact k z gₚ σ3 D3 N3 F3 A3 c3 s3 X3 (STP_trans (STP_trans S1 S2) S3) (EQD_tr (EQD_sub (by decide) E12) (EQD_sub (by decide) E3)) zr hQ.1 hQ.2
        · obtain rfl : a3 = 2 := h3
          refine T_wK2_0 (d := d) hst X2 p0 p1 p3 p4 e1 (by omega) (fun z gₚ σ3 D3 N3 F3 A3 c3 s3 X3 S3 E3 zr hP => ?_)
          rw [hs2, hr2, hp2, h10, h32, h29] at hP
          have hQ := WRB_P hP hco
          exact k z gₚ σ3 D3 N3 F3 A3 c3 s3 X3 (STP_trans (STP_trans S1 S2) S3) (EQD_tr (EQD_sub (by decide) E12) (EQD_sub (by decide) E3)) zr hQ.1 hQ.2
        · obtain rfl : a3 = 3 := h3
          refine T_wK3_0 (d := d) hst X2 p0 p1 p3 p4 e1 (by omega) (fun z gₚ σ3 D3 N3 F3 A3 c3 s3 X3 S3 E3 zr hP => ?_)
          rw [hs2, hr2, hp2, h10, h32, h29] at hP
          have hQ := WRB_P hP hco
          exact k z gₚ σ3 D3 N3 F3 A3 c3 s3 X3 (STP_trans (STP_trans S1 S2) S3) (EQD_tr (EQD_sub (by decide) E12) (EQD_sub (by decide) E3)) zr hQ.1 hQ.2
        · obtain rfl : a3 = 4 := h3
          refine T_wK4_0 (d := d) hst X2 p0 p1 p3 p4 e1 (by omega) (by omega) (fun z gₚ σ3 D3 N3 F3 A3 c3 s3 X3 S3 E3 zr hP => ?_)
          rw [hs2, hr2, hp2, h10, h32, h29] at hP
          have hQ := WRB_P hP hco
          exact k z gₚ σ3 D3 N3 F3 A3 c3 s3 X3 (STP_trans (STP_trans S1 S2) S3) (EQD_tr (EQD_sub (by decide) E12) (EQD_sub (by decide) E3)) zr hQ.1 hQ.2
        · obtain rfl : a3 = 5 := h3
          refine T_wK5_0 (d := d) hst X2 p0 p1 p3 p4 e1 (by omega) (fun z gₚ σ3 D3 N3 F3 A3 c3 s3 X3 S3 E3 zr hP => ?_)
          rw [hs2, hr2, hp2, h10, h32, h29] at hP
          have hQ := WRB_P hP hco
          exact k z gₚ σ3 D3 N3 F3 A3 c3 s3 X3 (STP_trans (STP_trans S1 S2) S3) (EQD_tr (EQD_sub (by decide) E12) (EQD_sub (by decide) E3)) zr hQ.1 hQ.2
    · obtain rfl : a2 = 1 := ha
      have v0 := Or.resolve_left b1 (fun q => q rfl)
      have v1 := Or.resolve_left b5 (fun q => q rfl)
      have v2 := Or.resolve_left b9 (fun q => q rfl)
      clear b0 b1 b2 b3 b4 b5 b6 b7 b8 b9 b10 b11
      have ea : rwC F A 1 = sc (A 5) 0 (F 4 1) := by first | exact rw4_1 | rfl
      refine T_wb1 (d := d + 8) X1 l0 l1 l2 l3 (show inr a1 by omega) (show inr a3 by omega) (by omega) (by omega) (by omega) (fun ls σ2 D2 N2 F2 A2 c2 s2 X2 S2 E2 p0 p1 p3 p4 u0 u1 u2 => ?_) (fun z σ2 D2 N2 F2 A2 c2 s2 X2 S2 E2 q => absurd q (by decide))
      · skip
        have E12 : EQD [(2, 1), (4, 1), (6, 1), (8, 1), (11, 1), (0, 18)] [3, 5, 7, 9, 12, 10, 29, 30, 32] [] [] D N F A D2 N2 F2 A2 := EQD_tr (EQD_sub (by decide) E1) (EQD_sub (by decide) E2)
        have f2 : F2 4 1 = F 4 1 := E12.1 (4, 1) (by decide)
        have f11 : F2 11 1 = F 11 1 := E12.1 (11, 1) (by decide)
        have hr2 : rwC F2 A2 = rwC F A := rwC_e (EQD_sub (by decide) E12)
        have hp2 : paC F2 A2 = paC F A := paC_e (EQD_sub (by decide) E12)
        have h10 : A2 10 = A 10 := E12.2.1 10 (by decide)
        have h32 : A2 32 = A 32 := E12.2.1 32 (by decide)
        have h29 : A2 29 = A 29 := E12.2.1 29 (by decide)
        have hs2 : sc (A2 5) 0 (F2 4 1) = rwC F A 1 := by rw [ea, E12.2.1 5 (by decide), f2]
        have hd2 : DCK Dc (sc (A2 15) 0 (F2 14 1)) (F2 13 2) (A2 18) := by have w := X2.2.2.2.2.2.2.2.1; unfold INV0 at w; exact w.2.2.2.2.2.2.2.2.2.2.2.2.2.2.2.2.2.2.2.2.2.1
        have hn2 : 0 ≤ F2 14 1 := by have w := X2.2.2.2.2.2.2.2.1; unfold INV0 at w; have w := w.2.2.2.2.2.2.2.1; omega
        have hld2 : F2 14 1 = F 14 1 := by rw [← hld, hd2.1]; exact (scn hn2).symm
        have hco : okd a1 ∧ okd (1 : Int) ∧ (0 ≤ a3 ∧ a3 ≤ 5) ∧ ((rwC F A 1).length : Int) + wrA a3 (paC F A) Dc ≤ 16384 := ⟨e1, ⟨by decide, by decide⟩, e3, by rw [ea]; omega⟩
        rcases (show a3 = 0 ∨ a3 = 1 ∨ a3 = 2 ∨ a3 = 3 ∨ a3 = 4 ∨ a3 = 5 by omega) with h3 | h3 | h3 | h3 | h3 | h3
        · obtain rfl : a3 = 0 := h3
          refine T_wK0_1 (d := d) hst X2 p0 p1 p3 p4 e1 (by omega) (by omega) (fun z gₚ σ3 D3 N3 F3 A3 c3 s3 X3 S3 E3 zr hP => ?_)
          rw [hs2, hr2, hp2, h10, h32, h29] at hP
          have hQ := WRB_P hP hco
          exact k z gₚ σ3 D3 N3 F3 A3 c3 s3 X3 (STP_trans (STP_trans S1 S2) S3) (EQD_tr (EQD_sub (by decide) E12) (EQD_sub (by decide) E3)) zr hQ.1 hQ.2
        · obtain rfl : a3 = 1 := h3
          refine T_wK1_1 (d := d) hst X2 p0 p1 p3 p4 e1 (by omega) (by omega) (fun z gₚ σ3 D3 N3 F3 A3 c3 s3 X3 S3 E3 zr hP => ?_)
          rw [hs2, hr2, hp2, h10, h32, h29] at hP
          have hQ := WRB_P hP hco
          exact k z gₚ σ3 D3 N3 F3 A3 c3 s3 X3 (STP_trans (STP_trans S1 S2) S3) (EQD_tr (EQD_sub (by decide) E12) (EQD_sub (by decide) E3)) zr hQ.1 hQ.2
        · obtain rfl : a3 = 2 := h3
          refine T_wK2_1 (d := d) hst X2 p0 p1 p3 p4 e1 (by omega) (fun z gₚ σ3 D3 N3 F3 A3 c3 s3 X3 S3 E3 zr hP => ?_)
          rw [hs2, hr2, hp2, h10, h32, h29] at hP
          have hQ := WRB_P hP hco
          exact k z gₚ σ3 D3 N3 F3 A3 c3 s3 X3 (STP_trans (STP_trans S1 S2) S3) (EQD_tr (EQD_sub (by decide) E12) (EQD_sub (by decide) E3)) zr hQ.1 hQ.2
        · obtain rfl : a3 = 3 := h3
          refine T_wK3_1 (d := d) hst X2 p0 p1 p3 p4 e1 (by omega) (fun z gₚ σ3 D3 N3 F3 A3 c3 s3 X3 S3 E3 zr hP => ?_)
          rw [hs2, hr2, hp2, h10, h32, h29] at hP
          have hQ := WRB_P hP hco
          exact k z gₚ σ3 D3 N3 F3 A3 c3 s3 X3 (STP_trans (STP_trans S1 S2) S3) (EQD_tr (EQD_sub (by decide) E12) (EQD_sub (by decide) E3)) zr hQ.1 hQ.2
        · obtain rfl : a3 = 4 := h3
          refine T_wK4_1 (d := d) hst X2 p0 p1 p3 p4 e1 (by omega) (by omega) (fun z gₚ σ3 D3 N3 F3 A3 c3 s3 X3 S3 E3 zr hP => ?_)
          rw [hs2, hr2, hp2, h10, h32, h29] at hP
          have hQ := WRB_P hP hco
          exact k z gₚ σ3 D3 N3 F3 A3 c3 s3 X3 (STP_trans (STP_trans S1 S2) S3) (EQD_tr (EQD_sub (by decide) E12) (EQD_sub (by decide) E3)) zr hQ.1 hQ.2
        · obtain rfl : a3 = 5 := h3
          refine T_wK5_1 (d := d) hst X2 p0 p1 p3 p4 e1 (by omega) (fun z gₚ σ3 D3 N3 F3 A3 c3 s3 X3 S3 E3 zr hP => ?_)
          rw [hs2, hr2, hp2, h10, h32, h29] at hP
          have hQ := WRB_P hP hco
          exact k z gₚ σ3 D3 N3 F3 A3 c3 s3 X3 (STP_trans (STP_trans S1 S2) S3) (EQD_tr (EQD_sub (by decide) E12) (EQD_sub (by decide) E3)) zr hQ.1 hQ.2
    · obtain rfl : a2 = 2 := ha
      have v0 := Or.resolve_left b2 (fun q => q rfl)
      have v1 := Or.resolve_left b6 (fun q => q rfl)
      have v2 := Or.resolve_left b10 (fun q => q rfl)
      clear b0 b1 b2 b3 b4 b5 b6 b7 b8 b9 b10 b11
      have ea : rwC F A 2 = sc (A 7) 0 (F 6 1) := by first | exact rw4_2 | rfl
      refine T_wb2 (d := d + 8) X1 l0 l1 l2 l3 (show inr a1 by omega) (show inr a3 by omega) (by omega) (by omega) (by omega) (fun ls σ2 D2 N2 F2 A2 c2 s2 X2 S2 E2 p0 p1 p3 p4 u0 u1 u2 => ?_) (fun z σ2 D2 N2 F2 A2 c2 s2 X2 S2 E2 q => absurd q (by decide))
      · skip
        have E12 : EQD [(2, 1), (4, 1), (6, 1), (8, 1), (11, 1), (0, 18)] [3, 5, 7, 9, 12, 10, 29, 30, 32] [] [] D N F A D2 N2 F2 A2 := EQD_tr (EQD_sub (by decide) E1) (EQD_sub (by decide) E2)
        have f2 : F2 6 1 = F 6 1 := E12.1 (6, 1) (by decide)
        have f11 : F2 11 1 = F 11 1 := E12.1 (11, 1) (by decide)
        have hr2 : rwC F2 A2 = rwC F A := rwC_e (EQD_sub (by decide) E12)
        have hp2 : paC F2 A2 = paC F A := paC_e (EQD_sub (by decide) E12)
        have h10 : A2 10 = A 10 := E12.2.1 10 (by decide)
        have h32 : A2 32 = A 32 := E12.2.1 32 (by decide)
        have h29 : A2 29 = A 29 := E12.2.1 29 (by decide)
        have hs2 : sc (A2 7) 0 (F2 6 1) = rwC F A 2 := by rw [ea, E12.2.1 7 (by decide), f2]
        have hd2 : DCK Dc (sc (A2 15) 0 (F2 14 1)) (F2 13 2) (A2 18) := by have w := X2.2.2.2.2.2.2.2.1; unfold INV0 at w; exact w.2.2.2.2.2.2.2.2.2.2.2.2.2.2.2.2.2.2.2.2.2.1
        have hn2 : 0 ≤ F2 14 1 := by have w := X2.2.2.2.2.2.2.2.1; unfold INV0 at w; have w := w.2.2.2.2.2.2.2.1; omega
        have hld2 : F2 14 1 = F 14 1 := by rw [← hld, hd2.1]; exact (scn hn2).symm
        have hco : okd a1 ∧ okd (2 : Int) ∧ (0 ≤ a3 ∧ a3 ≤ 5) ∧ ((rwC F A 2).length : Int) + wrA a3 (paC F A) Dc ≤ 16384 := ⟨e1, ⟨by decide, by decide⟩, e3, by rw [ea]; omega⟩
        rcases (show a3 = 0 ∨ a3 = 1 ∨ a3 = 2 ∨ a3 = 3 ∨ a3 = 4 ∨ a3 = 5 by omega) with h3 | h3 | h3 | h3 | h3 | h3
        · obtain rfl : a3 = 0 := h3
          refine T_wK0_2 (d := d) hst X2 p0 p1 p3 p4 e1 (by omega) (by omega) (fun z gₚ σ3 D3 N3 F3 A3 c3 s3 X3 S3 E3 zr hP => ?_)
          rw [hs2, hr2, hp2, h10, h32, h29] at hP
          have hQ := WRB_P hP hco
          exact k z gₚ σ3 D3 N3 F3 A3 c3 s3 X3 (STP_trans (STP_trans S1 S2) S3) (EQD_tr (EQD_sub (by decide) E12) (EQD_sub (by decide) E3)) zr hQ.1 hQ.2
        · obtain rfl : a3 = 1 := h3
          refine T_wK1_2 (d := d) hst X2 p0 p1 p3 p4 e1 (by omega) (by omega) (fun z gₚ σ3 D3 N3 F3 A3 c3 s3 X3 S3 E3 zr hP => ?_)
          rw [hs2, hr2, hp2, h10, h32, h29] at hP
          have hQ := WRB_P hP hco
          exact k z gₚ σ3 D3 N3 F3 A3 c3 s3 X3 (STP_trans (STP_trans S1 S2) S3) (EQD_tr (EQD_sub (by decide) E12) (EQD_sub (by decide) E3)) zr hQ.1 hQ.2
        · obtain rfl : a3 = 2 := h3
          refine T_wK2_2 (d := d) hst X2 p0 p1 p3 p4 e1 (by omega) (fun z gₚ σ3 D3 N3 F3 A3 c3 s3 X3 S3 E3 zr hP => ?_)
          rw [hs2, hr2, hp2, h10, h32, h29] at hP
          have hQ := WRB_P hP hco
          exact k z gₚ σ3 D3 N3 F3 A3 c3 s3 X3 (STP_trans (STP_trans S1 S2) S3) (EQD_tr (EQD_sub (by decide) E12) (EQD_sub (by decide) E3)) zr hQ.1 hQ.2
        · obtain rfl : a3 = 3 := h3
          refine T_wK3_2 (d := d) hst X2 p0 p1 p3 p4 e1 (by omega) (fun z gₚ σ3 D3 N3 F3 A3 c3 s3 X3 S3 E3 zr hP => ?_)
          rw [hs2, hr2, hp2, h10, h32, h29] at hP
          have hQ := WRB_P hP hco
          exact k z gₚ σ3 D3 N3 F3 A3 c3 s3 X3 (STP_trans (STP_trans S1 S2) S3) (EQD_tr (EQD_sub (by decide) E12) (EQD_sub (by decide) E3)) zr hQ.1 hQ.2
        · obtain rfl : a3 = 4 := h3
          refine T_wK4_2 (d := d) hst X2 p0 p1 p3 p4 e1 (by omega) (by omega) (fun z gₚ σ3 D3 N3 F3 A3 c3 s3 X3 S3 E3 zr hP => ?_)
          rw [hs2, hr2, hp2, h10, h32, h29] at hP
          have hQ := WRB_P hP hco
          exact k z gₚ σ3 D3 N3 F3 A3 c3 s3 X3 (STP_trans (STP_trans S1 S2) S3) (EQD_tr (EQD_sub (by decide) E12) (EQD_sub (by decide) E3)) zr hQ.1 hQ.2
        · obtain rfl : a3 = 5 := h3
          refine T_wK5_2 (d := d) hst X2 p0 p1 p3 p4 e1 (by omega) (fun z gₚ σ3 D3 N3 F3 A3 c3 s3 X3 S3 E3 zr hP => ?_)
          rw [hs2, hr2, hp2, h10, h32, h29] at hP
          have hQ := WRB_P hP hco
          exact k z gₚ σ3 D3 N3 F3 A3 c3 s3 X3 (STP_trans (STP_trans S1 S2) S3) (EQD_tr (EQD_sub (by decide) E12) (EQD_sub (by decide) E3)) zr hQ.1 hQ.2
    · obtain rfl : a2 = 3 := ha
      have v0 := Or.resolve_left b3 (fun q => q rfl)
      have v1 := Or.resolve_left b7 (fun q => q rfl)
      have v2 := Or.resolve_left b11 (fun q => q rfl)
      clear b0 b1 b2 b3 b4 b5 b6 b7 b8 b9 b10 b11
      have ea : rwC F A 3 = sc (A 9) 0 (F 8 1) := by first | exact rw4_3 | rfl
      refine T_wb3 (d := d + 8) X1 l0 l1 l2 l3 (show inr a1 by omega) (show inr a3 by omega) (by omega) (by omega) (by omega) (fun ls σ2 D2 N2 F2 A2 c2 s2 X2 S2 E2 p0 p1 p3 p4 u0 u1 u2 => ?_) (fun z σ2 D2 N2 F2 A2 c2 s2 X2 S2 E2 q => absurd q (by decide))
      · skip
        have E12 : EQD [(2, 1), (4, 1), (6, 1), (8, 1), (11, 1), (0, 18)] [3, 5, 7, 9, 12, 10, 29, 30, 32] [] [] D N F A D2 N2 F2 A2 := EQD_tr (EQD_sub (by decide) E1) (EQD_sub (by decide) E2)
        have f2 : F2 8 1 = F 8 1 := E12.1 (8, 1) (by decide)
        have f11 : F2 11 1 = F 11 1 := E12.1 (11, 1) (by decide)
        have hr2 : rwC F2 A2 = rwC F A := rwC_e (EQD_sub (by decide) E12)
        have hp2 : paC F2 A2 = paC F A := paC_e (EQD_sub (by decide) E12)
        have h10 : A2 10 = A 10 := E12.2.1 10 (by decide)
        have h32 : A2 32 = A 32 := E12.2.1 32 (by decide)
        have h29 : A2 29 = A 29 := E12.2.1 29 (by decide)
        have hs2 : sc (A2 9) 0 (F2 8 1) = rwC F A 3 := by rw [ea, E12.2.1 9 (by decide), f2]
        have hd2 : DCK Dc (sc (A2 15) 0 (F2 14 1)) (F2 13 2) (A2 18) := by have w := X2.2.2.2.2.2.2.2.1; unfold INV0 at w; exact w.2.2.2.2.2.2.2.2.2.2.2.2.2.2.2.2.2.2.2.2.2.1
        have hn2 : 0 ≤ F2 14 1 := by have w := X2.2.2.2.2.2.2.2.1; unfold INV0 at w; have w := w.2.2.2.2.2.2.2.1; omega
        have hld2 : F2 14 1 = F 14 1 := by rw [← hld, hd2.1]; exact (scn hn2).symm
        have hco : okd a1 ∧ okd (3 : Int) ∧ (0 ≤ a3 ∧ a3 ≤ 5) ∧ ((rwC F A 3).length : Int) + wrA a3 (paC F A) Dc ≤ 16384 := ⟨e1, ⟨by decide, by decide⟩, e3, by rw [ea]; omega⟩
        rcases (show a3 = 0 ∨ a3 = 1 ∨ a3 = 2 ∨ a3 = 3 ∨ a3 = 4 ∨ a3 = 5 by omega) with h3 | h3 | h3 | h3 | h3 | h3
        · obtain rfl : a3 = 0 := h3
          refine T_wK0_3 (d := d) hst X2 p0 p1 p3 p4 e1 (by omega) (by omega) (fun z gₚ σ3 D3 N3 F3 A3 c3 s3 X3 S3 E3 zr hP => ?_)
          rw [hs2, hr2, hp2, h10, h32, h29] at hP
          have hQ := WRB_P hP hco
          exact k z gₚ σ3 D3 N3 F3 A3 c3 s3 X3 (STP_trans (STP_trans S1 S2) S3) (EQD_tr (EQD_sub (by decide) E12) (EQD_sub (by decide) E3)) zr hQ.1 hQ.2
        · obtain rfl : a3 = 1 := h3
          refine T_wK1_3 (d := d) hst X2 p0 p1 p3 p4 e1 (by omega) (by omega) (fun z gₚ σ3 D3 N3 F3 A3 c3 s3 X3 S3 E3 zr hP => ?_)
          rw [hs2, hr2, hp2, h10, h32, h29] at hP
          have hQ := WRB_P hP hco
          exact k z gₚ σ3 D3 N3 F3 A3 c3 s3 X3 (STP_trans (STP_trans S1 S2) S3) (EQD_tr (EQD_sub (by decide) E12) (EQD_sub (by decide) E3)) zr hQ.1 hQ.2
        · obtain rfl : a3 = 2 := h3
          refine T_wK2_3 (d := d) hst X2 p0 p1 p3 p4 e1 (by omega) (fun z gₚ σ3 D3 N3 F3 A3 c3 s3 X3 S3 E3 zr hP => ?_)
          rw [hs2, hr2, hp2, h10, h32, h29] at hP
          have hQ := WRB_P hP hco
          exact k z gₚ σ3 D3 N3 F3 A3 c3 s3 X3 (STP_trans (STP_trans S1 S2) S3) (EQD_tr (EQD_sub (by decide) E12) (EQD_sub (by decide) E3)) zr hQ.1 hQ.2
        · obtain rfl : a3 = 3 := h3
          refine T_wK3_3 (d := d) hst X2 p0 p1 p3 p4 e1 (by omega) (fun z gₚ σ3 D3 N3 F3 A3 c3 s3 X3 S3 E3 zr hP => ?_)
          rw [hs2, hr2, hp2, h10, h32, h29] at hP
          have hQ := WRB_P hP hco
          exact k z gₚ σ3 D3 N3 F3 A3 c3 s3 X3 (STP_trans (STP_trans S1 S2) S3) (EQD_tr (EQD_sub (by decide) E12) (EQD_sub (by decide) E3)) zr hQ.1 hQ.2
        · obtain rfl : a3 = 4 := h3
          refine T_wK4_3 (d := d) hst X2 p0 p1 p3 p4 e1 (by omega) (by omega) (fun z gₚ σ3 D3 N3 F3 A3 c3 s3 X3 S3 E3 zr hP => ?_)
          rw [hs2, hr2, hp2, h10, h32, h29] at hP
          have hQ := WRB_P hP hco
          exact k z gₚ σ3 D3 N3 F3 A3 c3 s3 X3 (STP_trans (STP_trans S1 S2) S3) (EQD_tr (EQD_sub (by decide) E12) (EQD_sub (by decide) E3)) zr hQ.1 hQ.2
        · obtain rfl : a3 = 5 := h3
          refine T_wK5_3 (d := d) hst X2 p0 p1 p3 p4 e1 (by omega) (fun z gₚ σ3 D3 N3 F3 A3 c3 s3 X3 S3 E3 zr hP => ?_)
          rw [hs2, hr2, hp2, h10, h32, h29] at hP
          have hQ := WRB_P hP hco
          exact k z gₚ σ3 D3 N3 F3 A3 c3 s3 X3 (STP_trans (STP_trans S1 S2) S3) (EQD_tr (EQD_sub (by decide) E12) (EQD_sub (by decide) E3)) zr hQ.1 hQ.2
  · have hn : ¬ (okd a1 ∧ okd a2 ∧ (0 ≤ a3 ∧ a3 ≤ 5) ∧ ((rwC F A a2).length : Int) + wrA a3 (paC F A) Dc ≤ 16384) := fun w => by
      obtain ⟨w1, w2, w3, w4⟩ := w
      unfold okd at w1 w2
      have hl : a2 = 0 ∧ ((rwC F A a2).length : Int) = F 2 1 ∨ a2 = 1 ∧ ((rwC F A a2).length : Int) = F 4 1 ∨ a2 = 2 ∧ ((rwC F A a2).length : Int) = F 6 1 ∨ a2 = 3 ∧ ((rwC F A a2).length : Int) = F 8 1 := by
        rcases (show a2 = 0 ∨ a2 = 1 ∨ a2 = 2 ∨ a2 = 3 by omega) with e | e | e | e
        · exact .inl ⟨e, by rw [e]; exact hlr0⟩
        · exact .inr (.inl ⟨e, by rw [e]; exact hlr1⟩)
        · exact .inr (.inr (.inl ⟨e, by rw [e]; exact hlr2⟩))
        · exact .inr (.inr (.inr (⟨e, by rw [e]; exact hlr3⟩)))
      omega
    have E1 : EQD [(2, 1), (4, 1), (6, 1), (8, 1), (11, 1), (0, 18)] [3, 5, 7, 9, 12, 10, 29, 30, 32] [] [] D N F A D1 N1 F1 A1 := EQD_sub (by decide) E1
    exact k z g σ1 D1 N1 F1 A1 c1 s1 X1 S1 (EQD_sub (by decide) E1) (by omega) (.inl ⟨hn, q.1, by rw [rwC_e (EQD_sub (by decide) E1)]; exact RWS_r, by rw [E1.2.1 32 (by decide)], by rw [E1.2.1 32 (by decide)], fun i _ _ => by rw [E1.2.1 29 (by decide)]⟩) (fun _ e => absurd e (by omega))

