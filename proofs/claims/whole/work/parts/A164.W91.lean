section
/-! W91.wr -/
theorem T_wK1_0 {Dc : DcS} {g : Nat → Bool} {σ : rS} {D N : Nat → Nat} {F : hF} {A : hA} {d c s : Nat} {Q : wQ} {st0 : WSt} (hst : WSD Dc st0) (X : PHI Dc g σ D N F A) {x1 : Int} {ls : rO} (hl0 : rlook ls 0 = some (.ref (D 0))) (hl1 : rlook ls 1 = some (I x1)) (hl3 : rlook ls 3 = some (I (1))) (hl4 : rlook ls 4 = some (.ref (D 2))) (h1 : 0 ≤ x1 ∧ x1 ≤ 3) (cf0 : (F 2 1) ≤ 16384) (cf1 : (F 2 1) + (F 11 1) ≤ 16384) (k : ∀ (z : Int) (gₚ : Nat → Bool) (σₚ : rS) (Dₚ Nₚ : Nat → Nat) (Fₚ : hF) (Aₚ : hA) (cₚ sₚ : Nat), PHI Dc gₚ σₚ Dₚ Nₚ Fₚ Aₚ → STP g σ D N A c s gₚ σₚ Dₚ Nₚ Aₚ cₚ sₚ → EQD [(11, 1), (0, 18)] [12, 10, 30] [] [] D N F A Dₚ Nₚ Fₚ Aₚ → inr z → WRB (rwC F A) (rwC Fₚ Aₚ) x1 1 (sc (A 3) 0 (F 2 1)) (A 10) (paC F A) Dc st0 z (A 32 0) (Aₚ 32 0) (A 32 1) (Aₚ 32 1) (fun i => A 29 (i + 1)) (fun i => Aₚ 29 (i + 1)) → Q (some (I z)) σₚ cₚ sₚ) : Ew 17 (d + 8) 54 ls [] σ c s Q := by
  have hri : 0 ≤ F 2 1 ∧ F 2 1 ≤ 65536 := by have w := X.2.2.2.2.2.2.2.1; unfold INV0 at w; have w := w.1; omega
  have hL : ((sc (A 3) 0 (F 2 1)).length : Int) = F 2 1 := scn hri.1
  refine T_wc1_0 (d := d + 7) X hl0 hl1 hl3 hl4 (show inr x1 by omega) cf0 cf1 (fun x5 ls σ1 D1 N1 F1 A1 c1 s1 X1 S1 E1 l0 l1 l3 l4 l5 e0 e1 w0 w1 w5 => ?_) (fun z σ1 D1 N1 F1 A1 c1 s1 X1 S1 E1 q => absurd q (by decide))
  subst w5
  have hg0 : g 0 = true := X1.2.2.1
  refine w_callk rfl (fun rec => rinvv rfl rfl (X1.1.obj 0 (by decide +kernel) (show g 0 = true from X1.2.2.1) rfl) rec) rfl (T_the_tok (d := d + 3) X1 (fun g2 σ2 D2 N2 F2 A2 c2 s2 X2 S2 K2 K0 hj hle => ⟨rfl, ?_⟩))
  have hGI := X2.2.2.2.2.2.2.1
  have m0 : (F2 2 1) ≤ 16384 := by rw [((K2 2 (by decide +kernel) hg0).2 (by decide)).2.2]; exact e0
  have m1 : (F2 2 1) + (F2 11 1) ≤ 16384 := by rw [((K2 2 (by decide +kernel) hg0).2 (by decide)).2.2, ((K2 11 (by decide +kernel) hg0).2 (by decide)).2.2]; exact e1
  have m2 : (F2 25 1) = 0 := by rw [((K2 25 (by decide +kernel) hg0).2 (by decide)).2.2]; exact w0
  have m3 : (F2 25 2) = 0 := by rw [((K2 25 (by decide +kernel) hg0).2 (by decide)).2.2]; exact w1
  have d0 : D2 0 = D1 0 := (K2 0 (by decide +kernel) hg0).1
  have d4 : D2 2 = D1 2 := (K2 2 (by decide +kernel) hg0).1
  have E12 : EQD [(2, 1), (4, 1), (6, 1), (8, 1), (11, 1), (0, 18)] [3, 5, 7, 9, 12, 10, 29, 30, 32] [] [] D N F A D2 N2 F2 A2 := EQD_tr (EQD_sub (by decide) E1) (KEP_EQ K2 K0 hg0 (by decide +kernel))
  have hs2 : sc (A2 3) 0 (F2 2 1) = sc (A 3) 0 (F 2 1) := by rw [E12.2.1 3 (by decide), E12.1 (2, 1) (by decide)]
  have ha2 : A2 10 = A 10 := E12.2.1 10 (by decide)
  have hh2 : sc (A2 12) 0 (F2 11 1) = paC F A := paC_e (EQD_sub (by decide) E12)
  refine T_wd1_0 (d := d + 1) X2 (hGI.1 hj) hj (by rw [d0]; exact l0) l1 l3 (by rw [d4]; exact l4) l5 (show inr x1 by omega) m0 m1 m2 m3 (fun tc236_2 tc236_3 ls σ3 D3 N3 F3 A3 c3 s3 X3 S3 E3 p0 p1 p3 p4 q1 q2 hW => ?_) (fun z σ3 D3 N3 F3 A3 c3 s3 X3 S3 E3 zr hW => ?_)
  · rw [hs2, ha2, hh2] at hW
    have E13 : EQD [(2, 1), (4, 1), (6, 1), (8, 1), (11, 1), (0, 18)] [3, 5, 7, 9, 12, 10, 29, 30, 32] [] [] D N F A D3 N3 F3 A3 := EQD_tr E12 (EQD_sub (by decide) E3)
    have q2 : tc236_3 = F 2 1 := q2.trans (E12.1 (2, 1) (by decide))
    obtain rfl : tc236_2 = 1 := q1
    refine w_callk rfl (fun rec => rinvv rfl rfl (X3.1.obj 0 (by decide +kernel) (show g2 0 = true from X3.2.2.1) rfl) rec) rfl (T_ur1_w (d := d + 0) X3 (show 0 ≤ tc236_3 ∧ tc236_3 ≤ 65536 by omega) (fun y g4 σ4 D4 N4 F4 A4 c4 s4 X4 S4 zr hl4 E4 hb hR pk t0 t1 t2 t3 => ⟨rfl, ?_⟩))
    have d40 : D4 0 = D3 0 := S4.1.2.1
    have d44 : D4 2 = D3 2 := t0
    have E14 : EQD [(2, 1), (4, 1), (6, 1), (8, 1), (11, 1), (0, 18)] [3, 5, 7, 9, 12, 10, 29, 30, 32] [] [] D N F A D4 N4 F4 A4 := EQD_tr E13 (EQD_sub (by decide) E4)
    have m9 : F4 2 1 ≤ 16384 := by rw [E14.1 (2, 1) (by decide)]; exact cf0
    refine T_we1_0 (d := d + 5) X4  (by rw [d40]; exact p0) p1 p3 (by rw [d44]; exact p4) (show inr x1 by omega) zr m9 (fun ls σ5 D5 N5 F5 A5 c5 s5 X5 S5 E5 v0 v1 hS hB => ?_) (fun z σ5 D5 N5 F5 A5 c5 s5 X5 S5 E5 q => absurd q (by decide))
    refine T_wg (d := d + 4) X5 v0 v1 (show inr x1 by omega) h1 (fun z σ6 D6 N6 F6 A6 c6 s6 X6 S6 E6 hz u0 u1 u2 u3 y0 y1 y2 y3 => ?_)
    have E15 : EQD [(2, 1), (4, 1), (6, 1), (8, 1), (11, 1), (0, 18)] [3, 5, 7, 9, 12, 10, 30, 29] [] [] D N F A D5 N5 F5 A5 := EQD_tr (EQD_sub (by decide) E14) (EQD_sub (by decide) E5)
    have e26 : A5 26 = A3 26 := (E5.2.1 26 (by decide)).trans (E4.2.1 26 (by decide))
    have e25 : F5 25 1 = F3 25 1 := (E5.1 (25, 1) (by decide)).trans (E4.1 (25, 1) (by decide))
    rw [e26, e25] at u0 u1 u2 u3
    rw [e25] at hz
    have hN6 : RWN (rwC F5 A5) (rwC F6 A6) x1 (sc (A3 26) 0 (F3 25 1)) := PUT_N h1 u0 u1 u2 u3 y0 y1 y2 y3
    rw [rwC_e (EQD_sub (by decide) E15)] at hN6
    have e32 : A6 32 = A5 32 := E6.2.1 32 (by decide)
    have hw32 : A4 32 = A 32 := E14.2.1 32 (by decide)
    have e29 : A6 29 = A5 29 := E6.2.1 29 (by decide)
    have hzn : 0 ≤ F3 25 1 := by have w := X3.2.2.2.2.2.2.2.1; unfold INV0 at w; have w := w.2.2.2.2.2.1; omega
    have a10 : A4 10 = A 10 := E14.2.1 10 (by decide)
    have f1 : F4 2 1 = F 2 1 := E14.1 (2, 1) (by decide)
    have hB : A5 32 1 = w32 (A4 32 1 + (if BNA (A4 10) 1 (F4 2 1) < F4 25 1 then 1 else 0)) := hB
    rw [hw32, a10, f1, ← hL, E4.1 (25, 1) (by decide)] at hB
    have hS : STR y (F4 2 1) (sc (A4 28) 0 (F4 27 1)) (sc (A4 3) 0 (F4 2 1)) (A4 32 0) (A5 32 0) := hS
    have hs4 : sc (A4 3) 0 (F4 2 1) = sc (A 3) 0 (F 2 1) := by rw [E14.2.1 3 (by decide), E14.1 (2, 1) (by decide)]
    rw [hw32, hs4, f1] at hS
    rw [q2, ← hL] at hR
    have hR : RDQ 1 (sc (A3 26) 0 (F3 25 1)) (paC F3 A3) DCE ((sc (A 3) 0 (F 2 1)).length : Int) y (F4 0 17) (sc (A4 28) 0 (F4 27 1)) := hR
    rw [paC_e (EQD_sub (by decide) E13)] at hR
    have hP : WRB (rwC F A) (rwC F6 A6) x1 1 (sc (A 3) 0 (F 2 1)) (A 10) (paC F A) Dc st0 (F3 25 1) (A 32 0) (A6 32 0) (A 32 1) (A6 32 1) (fun i => A 29 (i + 1)) (fun i => A6 29 (i + 1)) := WRB_y (WRY_D (by decide) hW) hzn hN6 (by rw [e32]; exact hB) (fun _ => ⟨F4 0 17, (RDQ_D hR (by decide)), by rw [e32, hL]; exact hS⟩) (fun e => absurd e (by decide)) (fun e => absurd e (by decide)) (fun _ i _ _ => by rw [e29, E15.2.1 29 (by decide)]) (fun e => absurd e (by decide))
    rw [hz]
    exact k (F3 25 1) g4 σ6 D6 N6 F6 A6 c6 s6 X6 (STP_trans (STP_trans (STP_tr0 (STP_trans (STP_tr0 S1 S2) S3) S4) S5) S6) (EQD_tr (EQD_sub (by decide) E15) (EQD_sub (by decide) E6)) (by have w := X3.1.krg 25 1 (by decide +kernel) (show g2 0 = true from X3.2.2.1); exact w) hP
  · rw [hs2, ha2, hh2] at hW
    have E13 : EQD [(2, 1), (4, 1), (6, 1), (8, 1), (11, 1), (0, 18)] [3, 5, 7, 9, 12, 10, 29, 30, 32] [] [] D N F A D3 N3 F3 A3 := EQD_tr E12 (EQD_sub (by decide) E3)
    have hP : WRB (rwC F A) (rwC F3 A3) x1 1 (sc (A 3) 0 (F 2 1)) (A 10) (paC F A) Dc st0 z (A 32 0) (A3 32 0) (A 32 1) (A3 32 1) (fun i => A 29 (i + 1)) (fun i => A3 29 (i + 1)) := WRB_n (WRY_D (by decide) hW) (by omega) (by rw [rwC_e (EQD_sub (by decide) E13)]; exact RWS_r) (by rw [E13.2.1 32 (by decide)]) (by rw [E13.2.1 32 (by decide)]) (fun i _ _ => by rw [E13.2.1 29 (by decide)])
    exact k z g2 σ3 D3 N3 F3 A3 c3 s3 X3 (STP_trans (STP_tr0 S1 S2) S3) (EQD_sub (by decide) E13) (by omega) hP
theorem T_wK1_1 {Dc : DcS} {g : Nat → Bool} {σ : rS} {D N : Nat → Nat} {F : hF} {A : hA} {d c s : Nat} {Q : wQ} {st0 : WSt} (hst : WSD Dc st0) (X : PHI Dc g σ D N F A) {x1 : Int} {ls : rO} (hl0 : rlook ls 0 = some (.ref (D 0))) (hl1 : rlook ls 1 = some (I x1)) (hl3 : rlook ls 3 = some (I (1))) (hl4 : rlook ls 4 = some (.ref (D 4))) (h1 : 0 ≤ x1 ∧ x1 ≤ 3) (cf0 : (F 4 1) ≤ 16384) (cf1 : (F 4 1) + (F 11 1) ≤ 16384) (k : ∀ (z : Int) (gₚ : Nat → Bool) (σₚ : rS) (Dₚ Nₚ : Nat → Nat) (Fₚ : hF) (Aₚ : hA) (cₚ sₚ : Nat), PHI Dc gₚ σₚ Dₚ Nₚ Fₚ Aₚ → STP g σ D N A c s gₚ σₚ Dₚ Nₚ Aₚ cₚ sₚ → EQD [(11, 1), (0, 18)] [12, 10, 30] [] [] D N F A Dₚ Nₚ Fₚ Aₚ → inr z → WRB (rwC F A) (rwC Fₚ Aₚ) x1 1 (sc (A 5) 0 (F 4 1)) (A 10) (paC F A) Dc st0 z (A 32 0) (Aₚ 32 0) (A 32 1) (Aₚ 32 1) (fun i => A 29 (i + 1)) (fun i => Aₚ 29 (i + 1)) → Q (some (I z)) σₚ cₚ sₚ) : Ew 17 (d + 8) 54 ls [] σ c s Q := by
  have hri : 0 ≤ F 4 1 ∧ F 4 1 ≤ 65536 := by have w := X.2.2.2.2.2.2.2.1; unfold INV0 at w; have w := w.2.1; omega
  have hL : ((sc (A 5) 0 (F 4 1)).length : Int) = F 4 1 := scn hri.1
  refine T_wc1_1 (d := d + 7) X hl0 hl1 hl3 hl4 (show inr x1 by omega) cf0 cf1 (fun x5 ls σ1 D1 N1 F1 A1 c1 s1 X1 S1 E1 l0 l1 l3 l4 l5 e0 e1 w0 w1 w5 => ?_) (fun z σ1 D1 N1 F1 A1 c1 s1 X1 S1 E1 q => absurd q (by decide))
  subst w5
  have hg0 : g 0 = true := X1.2.2.1
  refine w_callk rfl (fun rec => rinvv rfl rfl (X1.1.obj 0 (by decide +kernel) (show g 0 = true from X1.2.2.1) rfl) rec) rfl (T_the_tok (d := d + 3) X1 (fun g2 σ2 D2 N2 F2 A2 c2 s2 X2 S2 K2 K0 hj hle => ⟨rfl, ?_⟩))
  have hGI := X2.2.2.2.2.2.2.1
  have m0 : (F2 4 1) ≤ 16384 := by rw [((K2 4 (by decide +kernel) hg0).2 (by decide)).2.2]; exact e0
  have m1 : (F2 4 1) + (F2 11 1) ≤ 16384 := by rw [((K2 4 (by decide +kernel) hg0).2 (by decide)).2.2, ((K2 11 (by decide +kernel) hg0).2 (by decide)).2.2]; exact e1
  have m2 : (F2 25 1) = 0 := by rw [((K2 25 (by decide +kernel) hg0).2 (by decide)).2.2]; exact w0
  have m3 : (F2 25 2) = 0 := by rw [((K2 25 (by decide +kernel) hg0).2 (by decide)).2.2]; exact w1
  have d0 : D2 0 = D1 0 := (K2 0 (by decide +kernel) hg0).1
  have d4 : D2 4 = D1 4 := (K2 4 (by decide +kernel) hg0).1
  have E12 : EQD [(2, 1), (4, 1), (6, 1), (8, 1), (11, 1), (0, 18)] [3, 5, 7, 9, 12, 10, 29, 30, 32] [] [] D N F A D2 N2 F2 A2 := EQD_tr (EQD_sub (by decide) E1) (KEP_EQ K2 K0 hg0 (by decide +kernel))
  have hs2 : sc (A2 5) 0 (F2 4 1) = sc (A 5) 0 (F 4 1) := by rw [E12.2.1 5 (by decide), E12.1 (4, 1) (by decide)]
  have ha2 : A2 10 = A 10 := E12.2.1 10 (by decide)
  have hh2 : sc (A2 12) 0 (F2 11 1) = paC F A := paC_e (EQD_sub (by decide) E12)
  refine T_wd1_1 (d := d + 1) X2 (hGI.1 hj) hj (by rw [d0]; exact l0) l1 l3 (by rw [d4]; exact l4) l5 (show inr x1 by omega) m0 m1 m2 m3 (fun tc236_2 tc236_3 ls σ3 D3 N3 F3 A3 c3 s3 X3 S3 E3 p0 p1 p3 p4 q1 q2 hW => ?_) (fun z σ3 D3 N3 F3 A3 c3 s3 X3 S3 E3 zr hW => ?_)
  · rw [hs2, ha2, hh2] at hW
    have E13 : EQD [(2, 1), (4, 1), (6, 1), (8, 1), (11, 1), (0, 18)] [3, 5, 7, 9, 12, 10, 29, 30, 32] [] [] D N F A D3 N3 F3 A3 := EQD_tr E12 (EQD_sub (by decide) E3)
    have q2 : tc236_3 = F 4 1 := q2.trans (E12.1 (4, 1) (by decide))
    obtain rfl : tc236_2 = 1 := q1
    refine w_callk rfl (fun rec => rinvv rfl rfl (X3.1.obj 0 (by decide +kernel) (show g2 0 = true from X3.2.2.1) rfl) rec) rfl (T_ur1_w (d := d + 0) X3 (show 0 ≤ tc236_3 ∧ tc236_3 ≤ 65536 by omega) (fun y g4 σ4 D4 N4 F4 A4 c4 s4 X4 S4 zr hl4 E4 hb hR pk t0 t1 t2 t3 => ⟨rfl, ?_⟩))
    have d40 : D4 0 = D3 0 := S4.1.2.1
    have d44 : D4 4 = D3 4 := t1
    have E14 : EQD [(2, 1), (4, 1), (6, 1), (8, 1), (11, 1), (0, 18)] [3, 5, 7, 9, 12, 10, 29, 30, 32] [] [] D N F A D4 N4 F4 A4 := EQD_tr E13 (EQD_sub (by decide) E4)
    have m9 : F4 4 1 ≤ 16384 := by rw [E14.1 (4, 1) (by decide)]; exact cf0
    refine T_we1_1 (d := d + 5) X4  (by rw [d40]; exact p0) p1 p3 (by rw [d44]; exact p4) (show inr x1 by omega) zr m9 (fun ls σ5 D5 N5 F5 A5 c5 s5 X5 S5 E5 v0 v1 hS hB => ?_) (fun z σ5 D5 N5 F5 A5 c5 s5 X5 S5 E5 q => absurd q (by decide))
    refine T_wg (d := d + 4) X5 v0 v1 (show inr x1 by omega) h1 (fun z σ6 D6 N6 F6 A6 c6 s6 X6 S6 E6 hz u0 u1 u2 u3 y0 y1 y2 y3 => ?_)
    have E15 : EQD [(2, 1), (4, 1), (6, 1), (8, 1), (11, 1), (0, 18)] [3, 5, 7, 9, 12, 10, 30, 29] [] [] D N F A D5 N5 F5 A5 := EQD_tr (EQD_sub (by decide) E14) (EQD_sub (by decide) E5)
    have e26 : A5 26 = A3 26 := (E5.2.1 26 (by decide)).trans (E4.2.1 26 (by decide))
    have e25 : F5 25 1 = F3 25 1 := (E5.1 (25, 1) (by decide)).trans (E4.1 (25, 1) (by decide))
    rw [e26, e25] at u0 u1 u2 u3
    rw [e25] at hz
    have hN6 : RWN (rwC F5 A5) (rwC F6 A6) x1 (sc (A3 26) 0 (F3 25 1)) := PUT_N h1 u0 u1 u2 u3 y0 y1 y2 y3
    rw [rwC_e (EQD_sub (by decide) E15)] at hN6
    have e32 : A6 32 = A5 32 := E6.2.1 32 (by decide)
    have hw32 : A4 32 = A 32 := E14.2.1 32 (by decide)
    have e29 : A6 29 = A5 29 := E6.2.1 29 (by decide)
    have hzn : 0 ≤ F3 25 1 := by have w := X3.2.2.2.2.2.2.2.1; unfold INV0 at w; have w := w.2.2.2.2.2.1; omega
    have a10 : A4 10 = A 10 := E14.2.1 10 (by decide)
    have f1 : F4 4 1 = F 4 1 := E14.1 (4, 1) (by decide)
    have hB : A5 32 1 = w32 (A4 32 1 + (if BNA (A4 10) 1 (F4 4 1) < F4 25 1 then 1 else 0)) := hB
    rw [hw32, a10, f1, ← hL, E4.1 (25, 1) (by decide)] at hB
    have hS : STR y (F4 4 1) (sc (A4 28) 0 (F4 27 1)) (sc (A4 5) 0 (F4 4 1)) (A4 32 0) (A5 32 0) := hS
    have hs4 : sc (A4 5) 0 (F4 4 1) = sc (A 5) 0 (F 4 1) := by rw [E14.2.1 5 (by decide), E14.1 (4, 1) (by decide)]
    rw [hw32, hs4, f1] at hS
    rw [q2, ← hL] at hR
    have hR : RDQ 1 (sc (A3 26) 0 (F3 25 1)) (paC F3 A3) DCE ((sc (A 5) 0 (F 4 1)).length : Int) y (F4 0 17) (sc (A4 28) 0 (F4 27 1)) := hR
    rw [paC_e (EQD_sub (by decide) E13)] at hR
    have hP : WRB (rwC F A) (rwC F6 A6) x1 1 (sc (A 5) 0 (F 4 1)) (A 10) (paC F A) Dc st0 (F3 25 1) (A 32 0) (A6 32 0) (A 32 1) (A6 32 1) (fun i => A 29 (i + 1)) (fun i => A6 29 (i + 1)) := WRB_y (WRY_D (by decide) hW) hzn hN6 (by rw [e32]; exact hB) (fun _ => ⟨F4 0 17, (RDQ_D hR (by decide)), by rw [e32, hL]; exact hS⟩) (fun e => absurd e (by decide)) (fun e => absurd e (by decide)) (fun _ i _ _ => by rw [e29, E15.2.1 29 (by decide)]) (fun e => absurd e (by decide))
    rw [hz]
    exact k (F3 25 1) g4 σ6 D6 N6 F6 A6 c6 s6 X6 (STP_trans (STP_trans (STP_tr0 (STP_trans (STP_tr0 S1 S2) S3) S4) S5) S6) (EQD_tr (EQD_sub (by decide) E15) (EQD_sub (by decide) E6)) (by have w := X3.1.krg 25 1 (by decide +kernel) (show g2 0 = true from X3.2.2.1); exact w) hP
  · rw [hs2, ha2, hh2] at hW
    have E13 : EQD [(2, 1), (4, 1), (6, 1), (8, 1), (11, 1), (0, 18)] [3, 5, 7, 9, 12, 10, 29, 30, 32] [] [] D N F A D3 N3 F3 A3 := EQD_tr E12 (EQD_sub (by decide) E3)
    have hP : WRB (rwC F A) (rwC F3 A3) x1 1 (sc (A 5) 0 (F 4 1)) (A 10) (paC F A) Dc st0 z (A 32 0) (A3 32 0) (A 32 1) (A3 32 1) (fun i => A 29 (i + 1)) (fun i => A3 29 (i + 1)) := WRB_n (WRY_D (by decide) hW) (by omega) (by rw [rwC_e (EQD_sub (by decide) E13)]; exact RWS_r) (by rw [E13.2.1 32 (by decide)]) (by rw [E13.2.1 32 (by decide)]) (fun i _ _ => by rw [E13.2.1 29 (by decide)])
    exact k z g2 σ3 D3 N3 F3 A3 c3 s3 X3 (STP_trans (STP_tr0 S1 S2) S3) (EQD_sub (by decide) E13) (by omega) hP
theorem T_wK1_2 {Dc : DcS} {g : Nat → Bool} {σ : rS} {D N : Nat → Nat} {F : hF} {A : hA} {d c s : Nat} {Q : wQ} {st0 : WSt} (hst : WSD Dc st0) (X : PHI Dc g σ D N F A) {x1 : Int} {ls : rO} (hl0 : rlook ls 0 = some (.ref (D 0))) (hl1 : rlook ls 1 = some (I x1)) (hl3 : rlook ls 3 = some (I (1))) (hl4 : rlook ls 4 = some (.ref (D 6))) (h1 : 0 ≤ x1 ∧ x1 ≤ 3) (cf0 : (F 6 1) ≤ 16384) (cf1 : (F 6 1) + (F 11 1) ≤ 16384) (k : ∀ (z : Int) (gₚ : Nat → Bool) (σₚ : rS) (Dₚ Nₚ : Nat → Nat) (Fₚ : hF) (Aₚ : hA) (cₚ sₚ : Nat), PHI Dc gₚ σₚ Dₚ Nₚ Fₚ Aₚ → STP g σ D N A c s gₚ σₚ Dₚ Nₚ Aₚ cₚ sₚ → EQD [(11, 1), (0, 18)] [12, 10, 30] [] [] D N F A Dₚ Nₚ Fₚ Aₚ → inr z → WRB (rwC F A) (rwC Fₚ Aₚ) x1 1 (sc (A 7) 0 (F 6 1)) (A 10) (paC F A) Dc st0 z (A 32 0) (Aₚ 32 0) (A 32 1) (Aₚ 32 1) (fun i => A 29 (i + 1)) (fun i => Aₚ 29 (i + 1)) → Q (some (I z)) σₚ cₚ sₚ) : Ew 17 (d + 8) 54 ls [] σ c s Q := by
  have hri : 0 ≤ F 6 1 ∧ F 6 1 ≤ 65536 := by have w := X.2.2.2.2.2.2.2.1; unfold INV0 at w; have w := w.2.2.1; omega
  have hL : ((sc (A 7) 0 (F 6 1)).length : Int) = F 6 1 := scn hri.1
  refine T_wc1_2 (d := d + 7) X hl0 hl1 hl3 hl4 (show inr x1 by omega) cf0 cf1 (fun x5 ls σ1 D1 N1 F1 A1 c1 s1 X1 S1 E1 l0 l1 l3 l4 l5 e0 e1 w0 w1 w5 => ?_) (fun z σ1 D1 N1 F1 A1 c1 s1 X1 S1 E1 q => absurd q (by decide))
  subst w5
  have hg0 : g 0 = true := X1.2.2.1
  refine w_callk rfl (fun rec => rinvv rfl rfl (X1.1.obj 0 (by decide +kernel) (show g 0 = true from X1.2.2.1) rfl) rec) rfl (T_the_tok (d := d + 3) X1 (fun g2 σ2 D2 N2 F2 A2 c2 s2 X2 S2 K2 K0 hj hle => ⟨rfl, ?_⟩))
  have hGI := X2.2.2.2.2.2.2.1
  have m0 : (F2 6 1) ≤ 16384 := by rw [((K2 6 (by decide +kernel) hg0).2 (by decide)).2.2]; exact e0
  have m1 : (F2 6 1) + (F2 11 1) ≤ 16384 := by rw [((K2 6 (by decide +kernel) hg0).2 (by decide)).2.2, ((K2 11 (by decide +kernel) hg0).2 (by decide)).2.2]; exact e1
  have m2 : (F2 25 1) = 0 := by rw [((K2 25 (by decide +kernel) hg0).2 (by decide)).2.2]; exact w0
  have m3 : (F2 25 2) = 0 := by rw [((K2 25 (by decide +kernel) hg0).2 (by decide)).2.2]; exact w1
  have d0 : D2 0 = D1 0 := (K2 0 (by decide +kernel) hg0).1
  have d4 : D2 6 = D1 6 := (K2 6 (by decide +kernel) hg0).1
  have E12 : EQD [(2, 1), (4, 1), (6, 1), (8, 1), (11, 1), (0, 18)] [3, 5, 7, 9, 12, 10, 29, 30, 32] [] [] D N F A D2 N2 F2 A2 := EQD_tr (EQD_sub (by decide) E1) (KEP_EQ K2 K0 hg0 (by decide +kernel))
  have hs2 : sc (A2 7) 0 (F2 6 1) = sc (A 7) 0 (F 6 1) := by rw [E12.2.1 7 (by decide), E12.1 (6, 1) (by decide)]
  have ha2 : A2 10 = A 10 := E12.2.1 10 (by decide)
  have hh2 : sc (A2 12) 0 (F2 11 1) = paC F A := paC_e (EQD_sub (by decide) E12)
  refine T_wd1_2 (d := d + 1) X2 (hGI.1 hj) hj (by rw [d0]; exact l0) l1 l3 (by rw [d4]; exact l4) l5 (show inr x1 by omega) m0 m1 m2 m3 (fun tc236_2 tc236_3 ls σ3 D3 N3 F3 A3 c3 s3 X3 S3 E3 p0 p1 p3 p4 q1 q2 hW => ?_) (fun z σ3 D3 N3 F3 A3 c3 s3 X3 S3 E3 zr hW => ?_)
  · rw [hs2, ha2, hh2] at hW
    have E13 : EQD [(2, 1), (4, 1), (6, 1), (8, 1), (11, 1), (0, 18)] [3, 5, 7, 9, 12, 10, 29, 30, 32] [] [] D N F A D3 N3 F3 A3 := EQD_tr E12 (EQD_sub (by decide) E3)
    have q2 : tc236_3 = F 6 1 := q2.trans (E12.1 (6, 1) (by decide))
    obtain rfl : tc236_2 = 1 := q1
    refine w_callk rfl (fun rec => rinvv rfl rfl (X3.1.obj 0 (by decide +kernel) (show g2 0 = true from X3.2.2.1) rfl) rec) rfl (T_ur1_w (d := d + 0) X3 (show 0 ≤ tc236_3 ∧ tc236_3 ≤ 65536 by omega) (fun y g4 σ4 D4 N4 F4 A4 c4 s4 X4 S4 zr hl4 E4 hb hR pk t0 t1 t2 t3 => ⟨rfl, ?_⟩))
    have d40 : D4 0 = D3 0 := S4.1.2.1
    have d44 : D4 6 = D3 6 := t2
    have E14 : EQD [(2, 1), (4, 1), (6, 1), (8, 1), (11, 1), (0, 18)] [3, 5, 7, 9, 12, 10, 29, 30, 32] [] [] D N F A D4 N4 F4 A4 := EQD_tr E13 (EQD_sub (by decide) E4)
    have m9 : F4 6 1 ≤ 16384 := by rw [E14.1 (6, 1) (by decide)]; exact cf0
    refine T_we1_2 (d := d + 5) X4  (by rw [d40]; exact p0) p1 p3 (by rw [d44]; exact p4) (show inr x1 by omega) zr m9 (fun ls σ5 D5 N5 F5 A5 c5 s5 X5 S5 E5 v0 v1 hS hB => ?_) (fun z σ5 D5 N5 F5 A5 c5 s5 X5 S5 E5 q => absurd q (by decide))
    refine T_wg (d := d + 4) X5 v0 v1 (show inr x1 by omega) h1 (fun z σ6 D6 N6 F6 A6 c6 s6 X6 S6 E6 hz u0 u1 u2 u3 y0 y1 y2 y3 => ?_)
    have E15 : EQD [(2, 1), (4, 1), (6, 1), (8, 1), (11, 1), (0, 18)] [3, 5, 7, 9, 12, 10, 30, 29] [] [] D N F A D5 N5 F5 A5 := EQD_tr (EQD_sub (by decide) E14) (EQD_sub (by decide) E5)
    have e26 : A5 26 = A3 26 := (E5.2.1 26 (by decide)).trans (E4.2.1 26 (by decide))
    have e25 : F5 25 1 = F3 25 1 := (E5.1 (25, 1) (by decide)).trans (E4.1 (25, 1) (by decide))
    rw [e26, e25] at u0 u1 u2 u3
    rw [e25] at hz
    have hN6 : RWN (rwC F5 A5) (rwC F6 A6) x1 (sc (A3 26) 0 (F3 25 1)) := PUT_N h1 u0 u1 u2 u3 y0 y1 y2 y3
    rw [rwC_e (EQD_sub (by decide) E15)] at hN6
    have e32 : A6 32 = A5 32 := E6.2.1 32 (by decide)
    have hw32 : A4 32 = A 32 := E14.2.1 32 (by decide)
    have e29 : A6 29 = A5 29 := E6.2.1 29 (by decide)
    have hzn : 0 ≤ F3 25 1 := by have w := X3.2.2.2.2.2.2.2.1; unfold INV0 at w; have w := w.2.2.2.2.2.1; omega
    have a10 : A4 10 = A 10 := E14.2.1 10 (by decide)
    have f1 : F4 6 1 = F 6 1 := E14.1 (6, 1) (by decide)
    have hB : A5 32 1 = w32 (A4 32 1 + (if BNA (A4 10) 1 (F4 6 1) < F4 25 1 then 1 else 0)) := hB
    rw [hw32, a10, f1, ← hL, E4.1 (25, 1) (by decide)] at hB
    have hS : STR y (F4 6 1) (sc (A4 28) 0 (F4 27 1)) (sc (A4 7) 0 (F4 6 1)) (A4 32 0) (A5 32 0) := hS
    have hs4 : sc (A4 7) 0 (F4 6 1) = sc (A 7) 0 (F 6 1) := by rw [E14.2.1 7 (by decide), E14.1 (6, 1) (by decide)]
    rw [hw32, hs4, f1] at hS
    rw [q2, ← hL] at hR
    have hR : RDQ 1 (sc (A3 26) 0 (F3 25 1)) (paC F3 A3) DCE ((sc (A 7) 0 (F 6 1)).length : Int) y (F4 0 17) (sc (A4 28) 0 (F4 27 1)) := hR
    rw [paC_e (EQD_sub (by decide) E13)] at hR
    have hP : WRB (rwC F A) (rwC F6 A6) x1 1 (sc (A 7) 0 (F 6 1)) (A 10) (paC F A) Dc st0 (F3 25 1) (A 32 0) (A6 32 0) (A 32 1) (A6 32 1) (fun i => A 29 (i + 1)) (fun i => A6 29 (i + 1)) := WRB_y (WRY_D (by decide) hW) hzn hN6 (by rw [e32]; exact hB) (fun _ => ⟨F4 0 17, (RDQ_D hR (by decide)), by rw [e32, hL]; exact hS⟩) (fun e => absurd e (by decide)) (fun e => absurd e (by decide)) (fun _ i _ _ => by rw [e29, E15.2.1 29 (by decide)]) (fun e => absurd e (by decide))
    rw [hz]
    exact k (F3 25 1) g4 σ6 D6 N6 F6 A6 c6 s6 X6 (STP_trans (STP_trans (STP_tr0 (STP_trans (STP_tr0 S1 S2) S3) S4) S5) S6) (EQD_tr (EQD_sub (by decide) E15) (EQD_sub (by decide) E6)) (by have w := X3.1.krg 25 1 (by decide +kernel) (show g2 0 = true from X3.2.2.1); exact w) hP
  · rw [hs2, ha2, hh2] at hW
    have E13 : EQD [(2, 1), (4, 1), (6, 1), (8, 1), (11, 1), (0, 18)] [3, 5, 7, 9, 12, 10, 29, 30, 32] [] [] D N F A D3 N3 F3 A3 := EQD_tr E12 (EQD_sub (by decide) E3)
    have hP : WRB (rwC F A) (rwC F3 A3) x1 1 (sc (A 7) 0 (F 6 1)) (A 10) (paC F A) Dc st0 z (A 32 0) (A3 32 0) (A 32 1) (A3 32 1) (fun i => A 29 (i + 1)) (fun i => A3 29 (i + 1)) := WRB_n (WRY_D (by decide) hW) (by omega) (by rw [rwC_e (EQD_sub (by decide) E13)]; exact RWS_r) (by rw [E13.2.1 32 (by decide)]) (by rw [E13.2.1 32 (by decide)]) (fun i _ _ => by rw [E13.2.1 29 (by decide)])
    exact k z g2 σ3 D3 N3 F3 A3 c3 s3 X3 (STP_trans (STP_tr0 S1 S2) S3) (EQD_sub (by decide) E13) (by omega) hP
theorem T_wK1_3 {Dc : DcS} {g : Nat → Bool} {σ : rS} {D N : Nat → Nat} {F : hF} {A : hA} {d c s : Nat} {Q : wQ} {st0 : WSt} (hst : WSD Dc st0) (X : PHI Dc g σ D N F A) {x1 : Int} {ls : rO} (hl0 : rlook ls 0 = some (.ref (D 0))) (hl1 : rlook ls 1 = some (I x1)) (hl3 : rlook ls 3 = some (I (1))) (hl4 : rlook ls 4 = some (.ref (D 8))) (h1 : 0 ≤ x1 ∧ x1 ≤ 3) (cf0 : (F 8 1) ≤ 16384) (cf1 : (F 8 1) + (F 11 1) ≤ 16384) (k : ∀ (z : Int) (gₚ : Nat → Bool) (σₚ : rS) (Dₚ Nₚ : Nat → Nat) (Fₚ : hF) (Aₚ : hA) (cₚ sₚ : Nat), PHI Dc gₚ σₚ Dₚ Nₚ Fₚ Aₚ → STP g σ D N A c s gₚ σₚ Dₚ Nₚ Aₚ cₚ sₚ → EQD [(11, 1), (0, 18)] [12, 10, 30] [] [] D N F A Dₚ Nₚ Fₚ Aₚ → inr z → WRB (rwC F A) (rwC Fₚ Aₚ) x1 1 (sc (A 9) 0 (F 8 1)) (A 10) (paC F A) Dc st0 z (A 32 0) (Aₚ 32 0) (A 32 1) (Aₚ 32 1) (fun i => A 29 (i + 1)) (fun i => Aₚ 29 (i + 1)) → Q (some (I z)) σₚ cₚ sₚ) : Ew 17 (d + 8) 54 ls [] σ c s Q := by
  have hri : 0 ≤ F 8 1 ∧ F 8 1 ≤ 65536 := by have w := X.2.2.2.2.2.2.2.1; unfold INV0 at w; have w := w.2.2.2.1; omega
  have hL : ((sc (A 9) 0 (F 8 1)).length : Int) = F 8 1 := scn hri.1
  refine T_wc1_3 (d := d + 7) X hl0 hl1 hl3 hl4 (show inr x1 by omega) cf0 cf1 (fun x5 ls σ1 D1 N1 F1 A1 c1 s1 X1 S1 E1 l0 l1 l3 l4 l5 e0 e1 w0 w1 w5 => ?_) (fun z σ1 D1 N1 F1 A1 c1 s1 X1 S1 E1 q => absurd q (by decide))
  subst w5
  have hg0 : g 0 = true := X1.2.2.1
  refine w_callk rfl (fun rec => rinvv rfl rfl (X1.1.obj 0 (by decide +kernel) (show g 0 = true from X1.2.2.1) rfl) rec) rfl (T_the_tok (d := d + 3) X1 (fun g2 σ2 D2 N2 F2 A2 c2 s2 X2 S2 K2 K0 hj hle => ⟨rfl, ?_⟩))
  have hGI := X2.2.2.2.2.2.2.1
  have m0 : (F2 8 1) ≤ 16384 := by rw [((K2 8 (by decide +kernel) hg0).2 (by decide)).2.2]; exact e0
  have m1 : (F2 8 1) + (F2 11 1) ≤ 16384 := by rw [((K2 8 (by decide +kernel) hg0).2 (by decide)).2.2, ((K2 11 (by decide +kernel) hg0).2 (by decide)).2.2]; exact e1
  have m2 : (F2 25 1) = 0 := by rw [((K2 25 (by decide +kernel) hg0).2 (by decide)).2.2]; exact w0
  have m3 : (F2 25 2) = 0 := by rw [((K2 25 (by decide +kernel) hg0).2 (by decide)).2.2]; exact w1
  have d0 : D2 0 = D1 0 := (K2 0 (by decide +kernel) hg0).1
  have d4 : D2 8 = D1 8 := (K2 8 (by decide +kernel) hg0).1
  have E12 : EQD [(2, 1), (4, 1), (6, 1), (8, 1), (11, 1), (0, 18)] [3, 5, 7, 9, 12, 10, 29, 30, 32] [] [] D N F A D2 N2 F2 A2 := EQD_tr (EQD_sub (by decide) E1) (KEP_EQ K2 K0 hg0 (by decide +kernel))
  have hs2 : sc (A2 9) 0 (F2 8 1) = sc (A 9) 0 (F 8 1) := by rw [E12.2.1 9 (by decide), E12.1 (8, 1) (by decide)]
  have ha2 : A2 10 = A 10 := E12.2.1 10 (by decide)
  have hh2 : sc (A2 12) 0 (F2 11 1) = paC F A := paC_e (EQD_sub (by decide) E12)
  refine T_wd1_3 (d := d + 1) X2 (hGI.1 hj) hj (by rw [d0]; exact l0) l1 l3 (by rw [d4]; exact l4) l5 (show inr x1 by omega) m0 m1 m2 m3 (fun tc236_2 tc236_3 ls σ3 D3 N3 F3 A3 c3 s3 X3 S3 E3 p0 p1 p3 p4 q1 q2 hW => ?_) (fun z σ3 D3 N3 F3 A3 c3 s3 X3 S3 E3 zr hW => ?_)
  · rw [hs2, ha2, hh2] at hW
    have E13 : EQD [(2, 1), (4, 1), (6, 1), (8, 1), (11, 1), (0, 18)] [3, 5, 7, 9, 12, 10, 29, 30, 32] [] [] D N F A D3 N3 F3 A3 := EQD_tr E12 (EQD_sub (by decide) E3)
    have q2 : tc236_3 = F 8 1 := q2.trans (E12.1 (8, 1) (by decide))
    obtain rfl : tc236_2 = 1 := q1
    refine w_callk rfl (fun rec => rinvv rfl rfl (X3.1.obj 0 (by decide +kernel) (show g2 0 = true from X3.2.2.1) rfl) rec) rfl (T_ur1_w (d := d + 0) X3 (show 0 ≤ tc236_3 ∧ tc236_3 ≤ 65536 by omega) (fun y g4 σ4 D4 N4 F4 A4 c4 s4 X4 S4 zr hl4 E4 hb hR pk t0 t1 t2 t3 => ⟨rfl, ?_⟩))
    have d40 : D4 0 = D3 0 := S4.1.2.1
    have d44 : D4 8 = D3 8 := t3
    have E14 : EQD [(2, 1), (4, 1), (6, 1), (8, 1), (11, 1), (0, 18)] [3, 5, 7, 9, 12, 10, 29, 30, 32] [] [] D N F A D4 N4 F4 A4 := EQD_tr E13 (EQD_sub (by decide) E4)
    have m9 : F4 8 1 ≤ 16384 := by rw [E14.1 (8, 1) (by decide)]; exact cf0
    refine T_we1_3 (d := d + 5) X4  (by rw [d40]; exact p0) p1 p3 (by rw [d44]; exact p4) (show inr x1 by omega) zr m9 (fun ls σ5 D5 N5 F5 A5 c5 s5 X5 S5 E5 v0 v1 hS hB => ?_) (fun z σ5 D5 N5 F5 A5 c5 s5 X5 S5 E5 q => absurd q (by decide))
    refine T_wg (d := d + 4) X5 v0 v1 (show inr x1 by omega) h1 (fun z σ6 D6 N6 F6 A6 c6 s6 X6 S6 E6 hz u0 u1 u2 u3 y0 y1 y2 y3 => ?_)
    have E15 : EQD [(2, 1), (4, 1), (6, 1), (8, 1), (11, 1), (0, 18)] [3, 5, 7, 9, 12, 10, 30, 29] [] [] D N F A D5 N5 F5 A5 := EQD_tr (EQD_sub (by decide) E14) (EQD_sub (by decide) E5)
    have e26 : A5 26 = A3 26 := (E5.2.1 26 (by decide)).trans (E4.2.1 26 (by decide))
    have e25 : F5 25 1 = F3 25 1 := (E5.1 (25, 1) (by decide)).trans (E4.1 (25, 1) (by decide))
    rw [e26, e25] at u0 u1 u2 u3
    rw [e25] at hz
    have hN6 : RWN (rwC F5 A5) (rwC F6 A6) x1 (sc (A3 26) 0 (F3 25 1)) := PUT_N h1 u0 u1 u2 u3 y0 y1 y2 y3
    rw [rwC_e (EQD_sub (by decide) E15)] at hN6
    have e32 : A6 32 = A5 32 := E6.2.1 32 (by decide)
    have hw32 : A4 32 = A 32 := E14.2.1 32 (by decide)
    have e29 : A6 29 = A5 29 := E6.2.1 29 (by decide)
    have hzn : 0 ≤ F3 25 1 := by have w := X3.2.2.2.2.2.2.2.1; unfold INV0 at w; have w := w.2.2.2.2.2.1; omega
    have a10 : A4 10 = A 10 := E14.2.1 10 (by decide)
    have f1 : F4 8 1 = F 8 1 := E14.1 (8, 1) (by decide)
    have hB : A5 32 1 = w32 (A4 32 1 + (if BNA (A4 10) 1 (F4 8 1) < F4 25 1 then 1 else 0)) := hB
    rw [hw32, a10, f1, ← hL, E4.1 (25, 1) (by decide)] at hB
    have hS : STR y (F4 8 1) (sc (A4 28) 0 (F4 27 1)) (sc (A4 9) 0 (F4 8 1)) (A4 32 0) (A5 32 0) := hS
    have hs4 : sc (A4 9) 0 (F4 8 1) = sc (A 9) 0 (F 8 1) := by rw [E14.2.1 9 (by decide), E14.1 (8, 1) (by decide)]
    rw [hw32, hs4, f1] at hS
    rw [q2, ← hL] at hR
    have hR : RDQ 1 (sc (A3 26) 0 (F3 25 1)) (paC F3 A3) DCE ((sc (A 9) 0 (F 8 1)).length : Int) y (F4 0 17) (sc (A4 28) 0 (F4 27 1)) := hR
    rw [paC_e (EQD_sub (by decide) E13)] at hR
    have hP : WRB (rwC F A) (rwC F6 A6) x1 1 (sc (A 9) 0 (F 8 1)) (A 10) (paC F A) Dc st0 (F3 25 1) (A 32 0) (A6 32 0) (A 32 1) (A6 32 1) (fun i => A 29 (i + 1)) (fun i => A6 29 (i + 1)) := WRB_y (WRY_D (by decide) hW) hzn hN6 (by rw [e32]; exact hB) (fun _ => ⟨F4 0 17, (RDQ_D hR (by decide)), by rw [e32, hL]; exact hS⟩) (fun e => absurd e (by decide)) (fun e => absurd e (by decide)) (fun _ i _ _ => by rw [e29, E15.2.1 29 (by decide)]) (fun e => absurd e (by decide))
    rw [hz]
    exact k (F3 25 1) g4 σ6 D6 N6 F6 A6 c6 s6 X6 (STP_trans (STP_trans (STP_tr0 (STP_trans (STP_tr0 S1 S2) S3) S4) S5) S6) (EQD_tr (EQD_sub (by decide) E15) (EQD_sub (by decide) E6)) (by have w := X3.1.krg 25 1 (by decide +kernel) (show g2 0 = true from X3.2.2.1); exact w) hP
  · rw [hs2, ha2, hh2] at hW
    have E13 : EQD [(2, 1), (4, 1), (6, 1), (8, 1), (11, 1), (0, 18)] [3, 5, 7, 9, 12, 10, 29, 30, 32] [] [] D N F A D3 N3 F3 A3 := EQD_tr E12 (EQD_sub (by decide) E3)
    have hP : WRB (rwC F A) (rwC F3 A3) x1 1 (sc (A 9) 0 (F 8 1)) (A 10) (paC F A) Dc st0 z (A 32 0) (A3 32 0) (A 32 1) (A3 32 1) (fun i => A 29 (i + 1)) (fun i => A3 29 (i + 1)) := WRB_n (WRY_D (by decide) hW) (by omega) (by rw [rwC_e (EQD_sub (by decide) E13)]; exact RWS_r) (by rw [E13.2.1 32 (by decide)]) (by rw [E13.2.1 32 (by decide)]) (fun i _ _ => by rw [E13.2.1 29 (by decide)])
    exact k z g2 σ3 D3 N3 F3 A3 c3 s3 X3 (STP_trans (STP_tr0 S1 S2) S3) (EQD_sub (by decide) E13) (by omega) hP


end
section
/-! W92.wr -/
theorem T_wK2_0 {Dc : DcS} {g : Nat → Bool} {σ : rS} {D N : Nat → Nat} {F : hF} {A : hA} {d c s : Nat} {Q : wQ} {st0 : WSt} (hst : WSD Dc st0) (X : PHI Dc g σ D N F A) {x1 : Int} {ls : rO} (hl0 : rlook ls 0 = some (.ref (D 0))) (hl1 : rlook ls 1 = some (I x1)) (hl3 : rlook ls 3 = some (I (2))) (hl4 : rlook ls 4 = some (.ref (D 2))) (h1 : 0 ≤ x1 ∧ x1 ≤ 3) (cf0 : (F 2 1) ≤ 16384) (k : ∀ (z : Int) (gₚ : Nat → Bool) (σₚ : rS) (Dₚ Nₚ : Nat → Nat) (Fₚ : hF) (Aₚ : hA) (cₚ sₚ : Nat), PHI Dc gₚ σₚ Dₚ Nₚ Fₚ Aₚ → STP g σ D N A c s gₚ σₚ Dₚ Nₚ Aₚ cₚ sₚ → EQD [(11, 1), (0, 18)] [12, 10, 30] [] [] D N F A Dₚ Nₚ Fₚ Aₚ → inr z → WRB (rwC F A) (rwC Fₚ Aₚ) x1 2 (sc (A 3) 0 (F 2 1)) (A 10) (paC F A) Dc st0 z (A 32 0) (Aₚ 32 0) (A 32 1) (Aₚ 32 1) (fun i => A 29 (i + 1)) (fun i => Aₚ 29 (i + 1)) → Q (some (I z)) σₚ cₚ sₚ) : Ew 17 (d + 8) 54 ls [] σ c s Q := by
  have hri : 0 ≤ F 2 1 ∧ F 2 1 ≤ 65536 := by have w := X.2.2.2.2.2.2.2.1; unfold INV0 at w; have w := w.1; omega
  have hL : ((sc (A 3) 0 (F 2 1)).length : Int) = F 2 1 := scn hri.1
  refine T_wc2_0 (d := d + 7) X hl0 hl1 hl3 hl4 (show inr x1 by omega) cf0 (fun x5 ls σ1 D1 N1 F1 A1 c1 s1 X1 S1 E1 l0 l1 l3 l4 l5 e0 w0 w1 w5 => ?_) (fun z σ1 D1 N1 F1 A1 c1 s1 X1 S1 E1 q => absurd q (by decide))
  subst w5
  have hg0 : g 0 = true := X1.2.2.1
  refine w_callk rfl (fun rec => rinvv rfl rfl (X1.1.obj 0 (by decide +kernel) (show g 0 = true from X1.2.2.1) rfl) rec) rfl (T_the_tag (d := d + 3) X1 (fun g2 σ2 D2 N2 F2 A2 c2 s2 X2 S2 K2 K0 hj hle => ⟨rfl, ?_⟩))
  have hGI := X2.2.2.2.2.2.2.1
  have m0 : (F2 2 1) ≤ 16384 := by rw [((K2 2 (by decide +kernel) hg0).2 (by decide)).2.2]; exact e0
  have m1 : (F2 25 1) = 0 := by rw [((K2 25 (by decide +kernel) hg0).2 (by decide)).2.2]; exact w0
  have m2 : (F2 25 2) = 0 := by rw [((K2 25 (by decide +kernel) hg0).2 (by decide)).2.2]; exact w1
  have d0 : D2 0 = D1 0 := (K2 0 (by decide +kernel) hg0).1
  have d4 : D2 2 = D1 2 := (K2 2 (by decide +kernel) hg0).1
  have E12 : EQD [(2, 1), (4, 1), (6, 1), (8, 1), (11, 1), (0, 18)] [3, 5, 7, 9, 12, 10, 29, 30, 32] [] [] D N F A D2 N2 F2 A2 := EQD_tr (EQD_sub (by decide) E1) (KEP_EQ K2 K0 hg0 (by decide +kernel))
  have hs2 : sc (A2 3) 0 (F2 2 1) = sc (A 3) 0 (F 2 1) := by rw [E12.2.1 3 (by decide), E12.1 (2, 1) (by decide)]
  have ha2 : A2 10 = A 10 := E12.2.1 10 (by decide)
  refine T_wd2_0 (d := d + 2) X2 (hGI.2.1 hj) hj (by rw [d0]; exact l0) l1 l3 (by rw [d4]; exact l4) l5 (show inr x1 by omega) m0 m1 m2 (fun tc236_2 tc236_3 ls σ3 D3 N3 F3 A3 c3 s3 X3 S3 E3 p0 p1 p3 p4 q1 q2 hW => ?_) (fun z σ3 D3 N3 F3 A3 c3 s3 X3 S3 E3 zr hW => ?_)
  · rw [hs2, ha2] at hW
    have E13 : EQD [(2, 1), (4, 1), (6, 1), (8, 1), (11, 1), (0, 18)] [3, 5, 7, 9, 12, 10, 29, 30, 32] [] [] D N F A D3 N3 F3 A3 := EQD_tr E12 (EQD_sub (by decide) E3)
    have q2 : tc236_3 = F 2 1 := q2.trans (E12.1 (2, 1) (by decide))
    obtain rfl : tc236_2 = 2 := q1
    refine w_callk rfl (fun rec => rinvv rfl rfl (X3.1.obj 0 (by decide +kernel) (show g2 0 = true from X3.2.2.1) rfl) rec) rfl (T_ur2_w (d := d + 0) X3 (show 0 ≤ tc236_3 ∧ tc236_3 ≤ 65536 by omega) (fun y g4 σ4 D4 N4 F4 A4 c4 s4 X4 S4 zr hl4 E4 hb hR pk t0 t1 t2 t3 => ⟨rfl, ?_⟩))
    have d40 : D4 0 = D3 0 := S4.1.2.1
    have d44 : D4 2 = D3 2 := t0
    have E14 : EQD [(2, 1), (4, 1), (6, 1), (8, 1), (11, 1), (0, 18)] [3, 5, 7, 9, 12, 10, 29, 30, 32] [] [] D N F A D4 N4 F4 A4 := EQD_tr E13 (EQD_sub (by decide) E4)
    have m9 : F4 2 1 ≤ 16384 := by rw [E14.1 (2, 1) (by decide)]; exact cf0
    refine T_we2_0 (d := d + 5) X4  (by rw [d40]; exact p0) p1 p3 (by rw [d44]; exact p4) (show inr x1 by omega) zr m9 (fun ls σ5 D5 N5 F5 A5 c5 s5 X5 S5 E5 v0 v1 hS hB => ?_) (fun z σ5 D5 N5 F5 A5 c5 s5 X5 S5 E5 q => absurd q (by decide))
    refine T_wg (d := d + 4) X5 v0 v1 (show inr x1 by omega) h1 (fun z σ6 D6 N6 F6 A6 c6 s6 X6 S6 E6 hz u0 u1 u2 u3 y0 y1 y2 y3 => ?_)
    have E15 : EQD [(2, 1), (4, 1), (6, 1), (8, 1), (11, 1), (0, 18)] [3, 5, 7, 9, 12, 10, 30, 29] [] [] D N F A D5 N5 F5 A5 := EQD_tr (EQD_sub (by decide) E14) (EQD_sub (by decide) E5)
    have e26 : A5 26 = A3 26 := (E5.2.1 26 (by decide)).trans (E4.2.1 26 (by decide))
    have e25 : F5 25 1 = F3 25 1 := (E5.1 (25, 1) (by decide)).trans (E4.1 (25, 1) (by decide))
    rw [e26, e25] at u0 u1 u2 u3
    rw [e25] at hz
    have hN6 : RWN (rwC F5 A5) (rwC F6 A6) x1 (sc (A3 26) 0 (F3 25 1)) := PUT_N h1 u0 u1 u2 u3 y0 y1 y2 y3
    rw [rwC_e (EQD_sub (by decide) E15)] at hN6
    have e32 : A6 32 = A5 32 := E6.2.1 32 (by decide)
    have hw32 : A4 32 = A 32 := E14.2.1 32 (by decide)
    have e29 : A6 29 = A5 29 := E6.2.1 29 (by decide)
    have hzn : 0 ≤ F3 25 1 := by have w := X3.2.2.2.2.2.2.2.1; unfold INV0 at w; have w := w.2.2.2.2.2.1; omega
    have a10 : A4 10 = A 10 := E14.2.1 10 (by decide)
    have f1 : F4 2 1 = F 2 1 := E14.1 (2, 1) (by decide)
    have hB : A5 32 1 = w32 (A4 32 1 + (if BNA (A4 10) 2 (F4 2 1) < F4 25 1 then 1 else 0)) := hB
    rw [hw32, a10, f1, ← hL, E4.1 (25, 1) (by decide)] at hB
    have hS : STR y (F4 2 1) (sc (A4 28) 0 (F4 27 1)) (sc (A4 3) 0 (F4 2 1)) (A4 32 0) (A5 32 0) := hS
    have hs4 : sc (A4 3) 0 (F4 2 1) = sc (A 3) 0 (F 2 1) := by rw [E14.2.1 3 (by decide), E14.1 (2, 1) (by decide)]
    rw [hw32, hs4, f1] at hS
    rw [q2, ← hL] at hR
    have hP : WRB (rwC F A) (rwC F6 A6) x1 2 (sc (A 3) 0 (F 2 1)) (A 10) (paC F A) Dc st0 (F3 25 1) (A 32 0) (A6 32 0) (A 32 1) (A6 32 1) (fun i => A 29 (i + 1)) (fun i => A6 29 (i + 1)) := WRB_y (WRY_H (by exact WRY_D (D2 := Dc) (st2 := st0) (by decide) hW) (by decide)) hzn hN6 (by rw [e32]; exact hB) (fun _ => ⟨F4 0 17, (RDQ_H (H2 := paC F A) (RDQ_D hR (by decide)) (by decide)), by rw [e32, hL]; exact hS⟩) (fun e => absurd e (by decide)) (fun e => absurd e (by decide)) (fun _ i _ _ => by rw [e29, E15.2.1 29 (by decide)]) (fun e => absurd e (by decide))
    rw [hz]
    exact k (F3 25 1) g4 σ6 D6 N6 F6 A6 c6 s6 X6 (STP_trans (STP_trans (STP_tr0 (STP_trans (STP_tr0 S1 S2) S3) S4) S5) S6) (EQD_tr (EQD_sub (by decide) E15) (EQD_sub (by decide) E6)) (by have w := X3.1.krg 25 1 (by decide +kernel) (show g2 0 = true from X3.2.2.1); exact w) hP
  · rw [hs2, ha2] at hW
    have E13 : EQD [(2, 1), (4, 1), (6, 1), (8, 1), (11, 1), (0, 18)] [3, 5, 7, 9, 12, 10, 29, 30, 32] [] [] D N F A D3 N3 F3 A3 := EQD_tr E12 (EQD_sub (by decide) E3)
    have hP : WRB (rwC F A) (rwC F3 A3) x1 2 (sc (A 3) 0 (F 2 1)) (A 10) (paC F A) Dc st0 z (A 32 0) (A3 32 0) (A 32 1) (A3 32 1) (fun i => A 29 (i + 1)) (fun i => A3 29 (i + 1)) := WRB_n (WRY_H (by exact WRY_D (D2 := Dc) (st2 := st0) (by decide) hW) (by decide)) (by omega) (by rw [rwC_e (EQD_sub (by decide) E13)]; exact RWS_r) (by rw [E13.2.1 32 (by decide)]) (by rw [E13.2.1 32 (by decide)]) (fun i _ _ => by rw [E13.2.1 29 (by decide)])
    exact k z g2 σ3 D3 N3 F3 A3 c3 s3 X3 (STP_trans (STP_tr0 S1 S2) S3) (EQD_sub (by decide) E13) (by omega) hP
theorem T_wK2_1 {Dc : DcS} {g : Nat → Bool} {σ : rS} {D N : Nat → Nat} {F : hF} {A : hA} {d c s : Nat} {Q : wQ} {st0 : WSt} (hst : WSD Dc st0) (X : PHI Dc g σ D N F A) {x1 : Int} {ls : rO} (hl0 : rlook ls 0 = some (.ref (D 0))) (hl1 : rlook ls 1 = some (I x1)) (hl3 : rlook ls 3 = some (I (2))) (hl4 : rlook ls 4 = some (.ref (D 4))) (h1 : 0 ≤ x1 ∧ x1 ≤ 3) (cf0 : (F 4 1) ≤ 16384) (k : ∀ (z : Int) (gₚ : Nat → Bool) (σₚ : rS) (Dₚ Nₚ : Nat → Nat) (Fₚ : hF) (Aₚ : hA) (cₚ sₚ : Nat), PHI Dc gₚ σₚ Dₚ Nₚ Fₚ Aₚ → STP g σ D N A c s gₚ σₚ Dₚ Nₚ Aₚ cₚ sₚ → EQD [(11, 1), (0, 18)] [12, 10, 30] [] [] D N F A Dₚ Nₚ Fₚ Aₚ → inr z → WRB (rwC F A) (rwC Fₚ Aₚ) x1 2 (sc (A 5) 0 (F 4 1)) (A 10) (paC F A) Dc st0 z (A 32 0) (Aₚ 32 0) (A 32 1) (Aₚ 32 1) (fun i => A 29 (i + 1)) (fun i => Aₚ 29 (i + 1)) → Q (some (I z)) σₚ cₚ sₚ) : Ew 17 (d + 8) 54 ls [] σ c s Q := by
  have hri : 0 ≤ F 4 1 ∧ F 4 1 ≤ 65536 := by have w := X.2.2.2.2.2.2.2.1; unfold INV0 at w; have w := w.2.1; omega
  have hL : ((sc (A 5) 0 (F 4 1)).length : Int) = F 4 1 := scn hri.1
  refine T_wc2_1 (d := d + 7) X hl0 hl1 hl3 hl4 (show inr x1 by omega) cf0 (fun x5 ls σ1 D1 N1 F1 A1 c1 s1 X1 S1 E1 l0 l1 l3 l4 l5 e0 w0 w1 w5 => ?_) (fun z σ1 D1 N1 F1 A1 c1 s1 X1 S1 E1 q => absurd q (by decide))
  subst w5
  have hg0 : g 0 = true := X1.2.2.1
  refine w_callk rfl (fun rec => rinvv rfl rfl (X1.1.obj 0 (by decide +kernel) (show g 0 = true from X1.2.2.1) rfl) rec) rfl (T_the_tag (d := d + 3) X1 (fun g2 σ2 D2 N2 F2 A2 c2 s2 X2 S2 K2 K0 hj hle => ⟨rfl, ?_⟩))
  have hGI := X2.2.2.2.2.2.2.1
  have m0 : (F2 4 1) ≤ 16384 := by rw [((K2 4 (by decide +kernel) hg0).2 (by decide)).2.2]; exact e0
  have m1 : (F2 25 1) = 0 := by rw [((K2 25 (by decide +kernel) hg0).2 (by decide)).2.2]; exact w0
  have m2 : (F2 25 2) = 0 := by rw [((K2 25 (by decide +kernel) hg0).2 (by decide)).2.2]; exact w1
  have d0 : D2 0 = D1 0 := (K2 0 (by decide +kernel) hg0).1
  have d4 : D2 4 = D1 4 := (K2 4 (by decide +kernel) hg0).1
  have E12 : EQD [(2, 1), (4, 1), (6, 1), (8, 1), (11, 1), (0, 18)] [3, 5, 7, 9, 12, 10, 29, 30, 32] [] [] D N F A D2 N2 F2 A2 := EQD_tr (EQD_sub (by decide) E1) (KEP_EQ K2 K0 hg0 (by decide +kernel))
  have hs2 : sc (A2 5) 0 (F2 4 1) = sc (A 5) 0 (F 4 1) := by rw [E12.2.1 5 (by decide), E12.1 (4, 1) (by decide)]
  have ha2 : A2 10 = A 10 := E12.2.1 10 (by decide)
  refine T_wd2_1 (d := d + 2) X2 (hGI.2.1 hj) hj (by rw [d0]; exact l0) l1 l3 (by rw [d4]; exact l4) l5 (show inr x1 by omega) m0 m1 m2 (fun tc236_2 tc236_3 ls σ3 D3 N3 F3 A3 c3 s3 X3 S3 E3 p0 p1 p3 p4 q1 q2 hW => ?_) (fun z σ3 D3 N3 F3 A3 c3 s3 X3 S3 E3 zr hW => ?_)
  · rw [hs2, ha2] at hW
    have E13 : EQD [(2, 1), (4, 1), (6, 1), (8, 1), (11, 1), (0, 18)] [3, 5, 7, 9, 12, 10, 29, 30, 32] [] [] D N F A D3 N3 F3 A3 := EQD_tr E12 (EQD_sub (by decide) E3)
    have q2 : tc236_3 = F 4 1 := q2.trans (E12.1 (4, 1) (by decide))
    obtain rfl : tc236_2 = 2 := q1
    refine w_callk rfl (fun rec => rinvv rfl rfl (X3.1.obj 0 (by decide +kernel) (show g2 0 = true from X3.2.2.1) rfl) rec) rfl (T_ur2_w (d := d + 0) X3 (show 0 ≤ tc236_3 ∧ tc236_3 ≤ 65536 by omega) (fun y g4 σ4 D4 N4 F4 A4 c4 s4 X4 S4 zr hl4 E4 hb hR pk t0 t1 t2 t3 => ⟨rfl, ?_⟩))
    have d40 : D4 0 = D3 0 := S4.1.2.1
    have d44 : D4 4 = D3 4 := t1
    have E14 : EQD [(2, 1), (4, 1), (6, 1), (8, 1), (11, 1), (0, 18)] [3, 5, 7, 9, 12, 10, 29, 30, 32] [] [] D N F A D4 N4 F4 A4 := EQD_tr E13 (EQD_sub (by decide) E4)
    have m9 : F4 4 1 ≤ 16384 := by rw [E14.1 (4, 1) (by decide)]; exact cf0
    refine T_we2_1 (d := d + 5) X4  (by rw [d40]; exact p0) p1 p3 (by rw [d44]; exact p4) (show inr x1 by omega) zr m9 (fun ls σ5 D5 N5 F5 A5 c5 s5 X5 S5 E5 v0 v1 hS hB => ?_) (fun z σ5 D5 N5 F5 A5 c5 s5 X5 S5 E5 q => absurd q (by decide))
    refine T_wg (d := d + 4) X5 v0 v1 (show inr x1 by omega) h1 (fun z σ6 D6 N6 F6 A6 c6 s6 X6 S6 E6 hz u0 u1 u2 u3 y0 y1 y2 y3 => ?_)
    have E15 : EQD [(2, 1), (4, 1), (6, 1), (8, 1), (11, 1), (0, 18)] [3, 5, 7, 9, 12, 10, 30, 29] [] [] D N F A D5 N5 F5 A5 := EQD_tr (EQD_sub (by decide) E14) (EQD_sub (by decide) E5)
    have e26 : A5 26 = A3 26 := (E5.2.1 26 (by decide)).trans (E4.2.1 26 (by decide))
    have e25 : F5 25 1 = F3 25 1 := (E5.1 (25, 1) (by decide)).trans (E4.1 (25, 1) (by decide))
    rw [e26, e25] at u0 u1 u2 u3
    rw [e25] at hz
    have hN6 : RWN (rwC F5 A5) (rwC F6 A6) x1 (sc (A3 26) 0 (F3 25 1)) := PUT_N h1 u0 u1 u2 u3 y0 y1 y2 y3
    rw [rwC_e (EQD_sub (by decide) E15)] at hN6
    have e32 : A6 32 = A5 32 := E6.2.1 32 (by decide)
    have hw32 : A4 32 = A 32 := E14.2.1 32 (by decide)
    have e29 : A6 29 = A5 29 := E6.2.1 29 (by decide)
    have hzn : 0 ≤ F3 25 1 := by have w := X3.2.2.2.2.2.2.2.1; unfold INV0 at w; have w := w.2.2.2.2.2.1; omega
    have a10 : A4 10 = A 10 := E14.2.1 10 (by decide)
    have f1 : F4 4 1 = F 4 1 := E14.1 (4, 1) (by decide)
    have hB : A5 32 1 = w32 (A4 32 1 + (if BNA (A4 10) 2 (F4 4 1) < F4 25 1 then 1 else 0)) := hB
    rw [hw32, a10, f1, ← hL, E4.1 (25, 1) (by decide)] at hB
    have hS : STR y (F4 4 1) (sc (A4 28) 0 (F4 27 1)) (sc (A4 5) 0 (F4 4 1)) (A4 32 0) (A5 32 0) := hS
    have hs4 : sc (A4 5) 0 (F4 4 1) = sc (A 5) 0 (F 4 1) := by rw [E14.2.1 5 (by decide), E14.1 (4, 1) (by decide)]
    rw [hw32, hs4, f1] at hS
    rw [q2, ← hL] at hR
    have hP : WRB (rwC F A) (rwC F6 A6) x1 2 (sc (A 5) 0 (F 4 1)) (A 10) (paC F A) Dc st0 (F3 25 1) (A 32 0) (A6 32 0) (A 32 1) (A6 32 1) (fun i => A 29 (i + 1)) (fun i => A6 29 (i + 1)) := WRB_y (WRY_H (by exact WRY_D (D2 := Dc) (st2 := st0) (by decide) hW) (by decide)) hzn hN6 (by rw [e32]; exact hB) (fun _ => ⟨F4 0 17, (RDQ_H (H2 := paC F A) (RDQ_D hR (by decide)) (by decide)), by rw [e32, hL]; exact hS⟩) (fun e => absurd e (by decide)) (fun e => absurd e (by decide)) (fun _ i _ _ => by rw [e29, E15.2.1 29 (by decide)]) (fun e => absurd e (by decide))
    rw [hz]
    exact k (F3 25 1) g4 σ6 D6 N6 F6 A6 c6 s6 X6 (STP_trans (STP_trans (STP_tr0 (STP_trans (STP_tr0 S1 S2) S3) S4) S5) S6) (EQD_tr (EQD_sub (by decide) E15) (EQD_sub (by decide) E6)) (by have w := X3.1.krg 25 1 (by decide +kernel) (show g2 0 = true from X3.2.2.1); exact w) hP
  · rw [hs2, ha2] at hW
    have E13 : EQD [(2, 1), (4, 1), (6, 1), (8, 1), (11, 1), (0, 18)] [3, 5, 7, 9, 12, 10, 29, 30, 32] [] [] D N F A D3 N3 F3 A3 := EQD_tr E12 (EQD_sub (by decide) E3)
    have hP : WRB (rwC F A) (rwC F3 A3) x1 2 (sc (A 5) 0 (F 4 1)) (A 10) (paC F A) Dc st0 z (A 32 0) (A3 32 0) (A 32 1) (A3 32 1) (fun i => A 29 (i + 1)) (fun i => A3 29 (i + 1)) := WRB_n (WRY_H (by exact WRY_D (D2 := Dc) (st2 := st0) (by decide) hW) (by decide)) (by omega) (by rw [rwC_e (EQD_sub (by decide) E13)]; exact RWS_r) (by rw [E13.2.1 32 (by decide)]) (by rw [E13.2.1 32 (by decide)]) (fun i _ _ => by rw [E13.2.1 29 (by decide)])
    exact k z g2 σ3 D3 N3 F3 A3 c3 s3 X3 (STP_trans (STP_tr0 S1 S2) S3) (EQD_sub (by decide) E13) (by omega) hP
theorem T_wK2_2 {Dc : DcS} {g : Nat → Bool} {σ : rS} {D N : Nat → Nat} {F : hF} {A : hA} {d c s : Nat} {Q : wQ} {st0 : WSt} (hst : WSD Dc st0) (X : PHI Dc g σ D N F A) {x1 : Int} {ls : rO} (hl0 : rlook ls 0 = some (.ref (D 0))) (hl1 : rlook ls 1 = some (I x1)) (hl3 : rlook ls 3 = some (I (2))) (hl4 : rlook ls 4 = some (.ref (D 6))) (h1 : 0 ≤ x1 ∧ x1 ≤ 3) (cf0 : (F 6 1) ≤ 16384) (k : ∀ (z : Int) (gₚ : Nat → Bool) (σₚ : rS) (Dₚ Nₚ : Nat → Nat) (Fₚ : hF) (Aₚ : hA) (cₚ sₚ : Nat), PHI Dc gₚ σₚ Dₚ Nₚ Fₚ Aₚ → STP g σ D N A c s gₚ σₚ Dₚ Nₚ Aₚ cₚ sₚ → EQD [(11, 1), (0, 18)] [12, 10, 30] [] [] D N F A Dₚ Nₚ Fₚ Aₚ → inr z → WRB (rwC F A) (rwC Fₚ Aₚ) x1 2 (sc (A 7) 0 (F 6 1)) (A 10) (paC F A) Dc st0 z (A 32 0) (Aₚ 32 0) (A 32 1) (Aₚ 32 1) (fun i => A 29 (i + 1)) (fun i => Aₚ 29 (i + 1)) → Q (some (I z)) σₚ cₚ sₚ) : Ew 17 (d + 8) 54 ls [] σ c s Q := by
  have hri : 0 ≤ F 6 1 ∧ F 6 1 ≤ 65536 := by have w := X.2.2.2.2.2.2.2.1; unfold INV0 at w; have w := w.2.2.1; omega
  have hL : ((sc (A 7) 0 (F 6 1)).length : Int) = F 6 1 := scn hri.1
  refine T_wc2_2 (d := d + 7) X hl0 hl1 hl3 hl4 (show inr x1 by omega) cf0 (fun x5 ls σ1 D1 N1 F1 A1 c1 s1 X1 S1 E1 l0 l1 l3 l4 l5 e0 w0 w1 w5 => ?_) (fun z σ1 D1 N1 F1 A1 c1 s1 X1 S1 E1 q => absurd q (by decide))
  subst w5
  have hg0 : g 0 = true := X1.2.2.1
  refine w_callk rfl (fun rec => rinvv rfl rfl (X1.1.obj 0 (by decide +kernel) (show g 0 = true from X1.2.2.1) rfl) rec) rfl (T_the_tag (d := d + 3) X1 (fun g2 σ2 D2 N2 F2 A2 c2 s2 X2 S2 K2 K0 hj hle => ⟨rfl, ?_⟩))
  have hGI := X2.2.2.2.2.2.2.1
  have m0 : (F2 6 1) ≤ 16384 := by rw [((K2 6 (by decide +kernel) hg0).2 (by decide)).2.2]; exact e0
  have m1 : (F2 25 1) = 0 := by rw [((K2 25 (by decide +kernel) hg0).2 (by decide)).2.2]; exact w0
  have m2 : (F2 25 2) = 0 := by rw [((K2 25 (by decide +kernel) hg0).2 (by decide)).2.2]; exact w1
  have d0 : D2 0 = D1 0 := (K2 0 (by decide +kernel) hg0).1
  have d4 : D2 6 = D1 6 := (K2 6 (by decide +kernel) hg0).1
  have E12 : EQD [(2, 1), (4, 1), (6, 1), (8, 1), (11, 1), (0, 18)] [3, 5, 7, 9, 12, 10, 29, 30, 32] [] [] D N F A D2 N2 F2 A2 := EQD_tr (EQD_sub (by decide) E1) (KEP_EQ K2 K0 hg0 (by decide +kernel))
  have hs2 : sc (A2 7) 0 (F2 6 1) = sc (A 7) 0 (F 6 1) := by rw [E12.2.1 7 (by decide), E12.1 (6, 1) (by decide)]
  have ha2 : A2 10 = A 10 := E12.2.1 10 (by decide)
  refine T_wd2_2 (d := d + 2) X2 (hGI.2.1 hj) hj (by rw [d0]; exact l0) l1 l3 (by rw [d4]; exact l4) l5 (show inr x1 by omega) m0 m1 m2 (fun tc236_2 tc236_3 ls σ3 D3 N3 F3 A3 c3 s3 X3 S3 E3 p0 p1 p3 p4 q1 q2 hW => ?_) (fun z σ3 D3 N3 F3 A3 c3 s3 X3 S3 E3 zr hW => ?_)
  · rw [hs2, ha2] at hW
    have E13 : EQD [(2, 1), (4, 1), (6, 1), (8, 1), (11, 1), (0, 18)] [3, 5, 7, 9, 12, 10, 29, 30, 32] [] [] D N F A D3 N3 F3 A3 := EQD_tr E12 (EQD_sub (by decide) E3)
    have q2 : tc236_3 = F 6 1 := q2.trans (E12.1 (6, 1) (by decide))
    obtain rfl : tc236_2 = 2 := q1
    refine w_callk rfl (fun rec => rinvv rfl rfl (X3.1.obj 0 (by decide +kernel) (show g2 0 = true from X3.2.2.1) rfl) rec) rfl (T_ur2_w (d := d + 0) X3 (show 0 ≤ tc236_3 ∧ tc236_3 ≤ 65536 by omega) (fun y g4 σ4 D4 N4 F4 A4 c4 s4 X4 S4 zr hl4 E4 hb hR pk t0 t1 t2 t3 => ⟨rfl, ?_⟩))
    have d40 : D4 0 = D3 0 := S4.1.2.1
    have d44 : D4 6 = D3 6 := t2
    have E14 : EQD [(2, 1), (4, 1), (6, 1), (8, 1), (11, 1), (0, 18)] [3, 5, 7, 9, 12, 10, 29, 30, 32] [] [] D N F A D4 N4 F4 A4 := EQD_tr E13 (EQD_sub (by decide) E4)
    have m9 : F4 6 1 ≤ 16384 := by rw [E14.1 (6, 1) (by decide)]; exact cf0
    refine T_we2_2 (d := d + 5) X4  (by rw [d40]; exact p0) p1 p3 (by rw [d44]; exact p4) (show inr x1 by omega) zr m9 (fun ls σ5 D5 N5 F5 A5 c5 s5 X5 S5 E5 v0 v1 hS hB => ?_) (fun z σ5 D5 N5 F5 A5 c5 s5 X5 S5 E5 q => absurd q (by decide))
    refine T_wg (d := d + 4) X5 v0 v1 (show inr x1 by omega) h1 (fun z σ6 D6 N6 F6 A6 c6 s6 X6 S6 E6 hz u0 u1 u2 u3 y0 y1 y2 y3 => ?_)
    have E15 : EQD [(2, 1), (4, 1), (6, 1), (8, 1), (11, 1), (0, 18)] [3, 5, 7, 9, 12, 10, 30, 29] [] [] D N F A D5 N5 F5 A5 := EQD_tr (EQD_sub (by decide) E14) (EQD_sub (by decide) E5)
    have e26 : A5 26 = A3 26 := (E5.2.1 26 (by decide)).trans (E4.2.1 26 (by decide))
    have e25 : F5 25 1 = F3 25 1 := (E5.1 (25, 1) (by decide)).trans (E4.1 (25, 1) (by decide))
    rw [e26, e25] at u0 u1 u2 u3
    rw [e25] at hz
    have hN6 : RWN (rwC F5 A5) (rwC F6 A6) x1 (sc (A3 26) 0 (F3 25 1)) := PUT_N h1 u0 u1 u2 u3 y0 y1 y2 y3
    rw [rwC_e (EQD_sub (by decide) E15)] at hN6
    have e32 : A6 32 = A5 32 := E6.2.1 32 (by decide)
    have hw32 : A4 32 = A 32 := E14.2.1 32 (by decide)
    have e29 : A6 29 = A5 29 := E6.2.1 29 (by decide)
    have hzn : 0 ≤ F3 25 1 := by have w := X3.2.2.2.2.2.2.2.1; unfold INV0 at w; have w := w.2.2.2.2.2.1; omega
    have a10 : A4 10 = A 10 := E14.2.1 10 (by decide)
    have f1 : F4 6 1 = F 6 1 := E14.1 (6, 1) (by decide)
    have hB : A5 32 1 = w32 (A4 32 1 + (if BNA (A4 10) 2 (F4 6 1) < F4 25 1 then 1 else 0)) := hB
    rw [hw32, a10, f1, ← hL, E4.1 (25, 1) (by decide)] at hB
    have hS : STR y (F4 6 1) (sc (A4 28) 0 (F4 27 1)) (sc (A4 7) 0 (F4 6 1)) (A4 32 0) (A5 32 0) := hS
    have hs4 : sc (A4 7) 0 (F4 6 1) = sc (A 7) 0 (F 6 1) := by rw [E14.2.1 7 (by decide), E14.1 (6, 1) (by decide)]
    rw [hw32, hs4, f1] at hS
    rw [q2, ← hL] at hR
    have hP : WRB (rwC F A) (rwC F6 A6) x1 2 (sc (A 7) 0 (F 6 1)) (A 10) (paC F A) Dc st0 (F3 25 1) (A 32 0) (A6 32 0) (A 32 1) (A6 32 1) (fun i => A 29 (i + 1)) (fun i => A6 29 (i + 1)) := WRB_y (WRY_H (by exact WRY_D (D2 := Dc) (st2 := st0) (by decide) hW) (by decide)) hzn hN6 (by rw [e32]; exact hB) (fun _ => ⟨F4 0 17, (RDQ_H (H2 := paC F A) (RDQ_D hR (by decide)) (by decide)), by rw [e32, hL]; exact hS⟩) (fun e => absurd e (by decide)) (fun e => absurd e (by decide)) (fun _ i _ _ => by rw [e29, E15.2.1 29 (by decide)]) (fun e => absurd e (by decide))
    rw [hz]
    exact k (F3 25 1) g4 σ6 D6 N6 F6 A6 c6 s6 X6 (STP_trans (STP_trans (STP_tr0 (STP_trans (STP_tr0 S1 S2) S3) S4) S5) S6) (EQD_tr (EQD_sub (by decide) E15) (EQD_sub (by decide) E6)) (by have w := X3.1.krg 25 1 (by decide +kernel) (show g2 0 = true from X3.2.2.1); exact w) hP
  · rw [hs2, ha2] at hW
    have E13 : EQD [(2, 1), (4, 1), (6, 1), (8, 1), (11, 1), (0, 18)] [3, 5, 7, 9, 12, 10, 29, 30, 32] [] [] D N F A D3 N3 F3 A3 := EQD_tr E12 (EQD_sub (by decide) E3)
    have hP : WRB (rwC F A) (rwC F3 A3) x1 2 (sc (A 7) 0 (F 6 1)) (A 10) (paC F A) Dc st0 z (A 32 0) (A3 32 0) (A 32 1) (A3 32 1) (fun i => A 29 (i + 1)) (fun i => A3 29 (i + 1)) := WRB_n (WRY_H (by exact WRY_D (D2 := Dc) (st2 := st0) (by decide) hW) (by decide)) (by omega) (by rw [rwC_e (EQD_sub (by decide) E13)]; exact RWS_r) (by rw [E13.2.1 32 (by decide)]) (by rw [E13.2.1 32 (by decide)]) (fun i _ _ => by rw [E13.2.1 29 (by decide)])
    exact k z g2 σ3 D3 N3 F3 A3 c3 s3 X3 (STP_trans (STP_tr0 S1 S2) S3) (EQD_sub (by decide) E13) (by omega) hP
theorem T_wK2_3 {Dc : DcS} {g : Nat → Bool} {σ : rS} {D N : Nat → Nat} {F : hF} {A : hA} {d c s : Nat} {Q : wQ} {st0 : WSt} (hst : WSD Dc st0) (X : PHI Dc g σ D N F A) {x1 : Int} {ls : rO} (hl0 : rlook ls 0 = some (.ref (D 0))) (hl1 : rlook ls 1 = some (I x1)) (hl3 : rlook ls 3 = some (I (2))) (hl4 : rlook ls 4 = some (.ref (D 8))) (h1 : 0 ≤ x1 ∧ x1 ≤ 3) (cf0 : (F 8 1) ≤ 16384) (k : ∀ (z : Int) (gₚ : Nat → Bool) (σₚ : rS) (Dₚ Nₚ : Nat → Nat) (Fₚ : hF) (Aₚ : hA) (cₚ sₚ : Nat), PHI Dc gₚ σₚ Dₚ Nₚ Fₚ Aₚ → STP g σ D N A c s gₚ σₚ Dₚ Nₚ Aₚ cₚ sₚ → EQD [(11, 1), (0, 18)] [12, 10, 30] [] [] D N F A Dₚ Nₚ Fₚ Aₚ → inr z → WRB (rwC F A) (rwC Fₚ Aₚ) x1 2 (sc (A 9) 0 (F 8 1)) (A 10) (paC F A) Dc st0 z (A 32 0) (Aₚ 32 0) (A 32 1) (Aₚ 32 1) (fun i => A 29 (i + 1)) (fun i => Aₚ 29 (i + 1)) → Q (some (I z)) σₚ cₚ sₚ) : Ew 17 (d + 8) 54 ls [] σ c s Q := by
  have hri : 0 ≤ F 8 1 ∧ F 8 1 ≤ 65536 := by have w := X.2.2.2.2.2.2.2.1; unfold INV0 at w; have w := w.2.2.2.1; omega
  have hL : ((sc (A 9) 0 (F 8 1)).length : Int) = F 8 1 := scn hri.1
  refine T_wc2_3 (d := d + 7) X hl0 hl1 hl3 hl4 (show inr x1 by omega) cf0 (fun x5 ls σ1 D1 N1 F1 A1 c1 s1 X1 S1 E1 l0 l1 l3 l4 l5 e0 w0 w1 w5 => ?_) (fun z σ1 D1 N1 F1 A1 c1 s1 X1 S1 E1 q => absurd q (by decide))
  subst w5
  have hg0 : g 0 = true := X1.2.2.1
  refine w_callk rfl (fun rec => rinvv rfl rfl (X1.1.obj 0 (by decide +kernel) (show g 0 = true from X1.2.2.1) rfl) rec) rfl (T_the_tag (d := d + 3) X1 (fun g2 σ2 D2 N2 F2 A2 c2 s2 X2 S2 K2 K0 hj hle => ⟨rfl, ?_⟩))
  have hGI := X2.2.2.2.2.2.2.1
  have m0 : (F2 8 1) ≤ 16384 := by rw [((K2 8 (by decide +kernel) hg0).2 (by decide)).2.2]; exact e0
  have m1 : (F2 25 1) = 0 := by rw [((K2 25 (by decide +kernel) hg0).2 (by decide)).2.2]; exact w0
  have m2 : (F2 25 2) = 0 := by rw [((K2 25 (by decide +kernel) hg0).2 (by decide)).2.2]; exact w1
  have d0 : D2 0 = D1 0 := (K2 0 (by decide +kernel) hg0).1
  have d4 : D2 8 = D1 8 := (K2 8 (by decide +kernel) hg0).1
  have E12 : EQD [(2, 1), (4, 1), (6, 1), (8, 1), (11, 1), (0, 18)] [3, 5, 7, 9, 12, 10, 29, 30, 32] [] [] D N F A D2 N2 F2 A2 := EQD_tr (EQD_sub (by decide) E1) (KEP_EQ K2 K0 hg0 (by decide +kernel))
  have hs2 : sc (A2 9) 0 (F2 8 1) = sc (A 9) 0 (F 8 1) := by rw [E12.2.1 9 (by decide), E12.1 (8, 1) (by decide)]
  have ha2 : A2 10 = A 10 := E12.2.1 10 (by decide)
  refine T_wd2_3 (d := d + 2) X2 (hGI.2.1 hj) hj (by rw [d0]; exact l0) l1 l3 (by rw [d4]; exact l4) l5 (show inr x1 by omega) m0 m1 m2 (fun tc236_2 tc236_3 ls σ3 D3 N3 F3 A3 c3 s3 X3 S3 E3 p0 p1 p3 p4 q1 q2 hW => ?_) (fun z σ3 D3 N3 F3 A3 c3 s3 X3 S3 E3 zr hW => ?_)
  · rw [hs2, ha2] at hW
    have E13 : EQD [(2, 1), (4, 1), (6, 1), (8, 1), (11, 1), (0, 18)] [3, 5, 7, 9, 12, 10, 29, 30, 32] [] [] D N F A D3 N3 F3 A3 := EQD_tr E12 (EQD_sub (by decide) E3)
    have q2 : tc236_3 = F 8 1 := q2.trans (E12.1 (8, 1) (by decide))
    obtain rfl : tc236_2 = 2 := q1
    refine w_callk rfl (fun rec => rinvv rfl rfl (X3.1.obj 0 (by decide +kernel) (show g2 0 = true from X3.2.2.1) rfl) rec) rfl (T_ur2_w (d := d + 0) X3 (show 0 ≤ tc236_3 ∧ tc236_3 ≤ 65536 by omega) (fun y g4 σ4 D4 N4 F4 A4 c4 s4 X4 S4 zr hl4 E4 hb hR pk t0 t1 t2 t3 => ⟨rfl, ?_⟩))
    have d40 : D4 0 = D3 0 := S4.1.2.1
    have d44 : D4 8 = D3 8 := t3
    have E14 : EQD [(2, 1), (4, 1), (6, 1), (8, 1), (11, 1), (0, 18)] [3, 5, 7, 9, 12, 10, 29, 30, 32] [] [] D N F A D4 N4 F4 A4 := EQD_tr E13 (EQD_sub (by decide) E4)
    have m9 : F4 8 1 ≤ 16384 := by rw [E14.1 (8, 1) (by decide)]; exact cf0
    refine T_we2_3 (d := d + 5) X4  (by rw [d40]; exact p0) p1 p3 (by rw [d44]; exact p4) (show inr x1 by omega) zr m9 (fun ls σ5 D5 N5 F5 A5 c5 s5 X5 S5 E5 v0 v1 hS hB => ?_) (fun z σ5 D5 N5 F5 A5 c5 s5 X5 S5 E5 q => absurd q (by decide))
    refine T_wg (d := d + 4) X5 v0 v1 (show inr x1 by omega) h1 (fun z σ6 D6 N6 F6 A6 c6 s6 X6 S6 E6 hz u0 u1 u2 u3 y0 y1 y2 y3 => ?_)
    have E15 : EQD [(2, 1), (4, 1), (6, 1), (8, 1), (11, 1), (0, 18)] [3, 5, 7, 9, 12, 10, 30, 29] [] [] D N F A D5 N5 F5 A5 := EQD_tr (EQD_sub (by decide) E14) (EQD_sub (by decide) E5)
    have e26 : A5 26 = A3 26 := (E5.2.1 26 (by decide)).trans (E4.2.1 26 (by decide))
    have e25 : F5 25 1 = F3 25 1 := (E5.1 (25, 1) (by decide)).trans (E4.1 (25, 1) (by decide))
    rw [e26, e25] at u0 u1 u2 u3
    rw [e25] at hz
    have hN6 : RWN (rwC F5 A5) (rwC F6 A6) x1 (sc (A3 26) 0 (F3 25 1)) := PUT_N h1 u0 u1 u2 u3 y0 y1 y2 y3
    rw [rwC_e (EQD_sub (by decide) E15)] at hN6
    have e32 : A6 32 = A5 32 := E6.2.1 32 (by decide)
    have hw32 : A4 32 = A 32 := E14.2.1 32 (by decide)
    have e29 : A6 29 = A5 29 := E6.2.1 29 (by decide)
    have hzn : 0 ≤ F3 25 1 := by have w := X3.2.2.2.2.2.2.2.1; unfold INV0 at w; have w := w.2.2.2.2.2.1; omega
    have a10 : A4 10 = A 10 := E14.2.1 10 (by decide)
    have f1 : F4 8 1 = F 8 1 := E14.1 (8, 1) (by decide)
    have hB : A5 32 1 = w32 (A4 32 1 + (if BNA (A4 10) 2 (F4 8 1) < F4 25 1 then 1 else 0)) := hB
    rw [hw32, a10, f1, ← hL, E4.1 (25, 1) (by decide)] at hB
    have hS : STR y (F4 8 1) (sc (A4 28) 0 (F4 27 1)) (sc (A4 9) 0 (F4 8 1)) (A4 32 0) (A5 32 0) := hS
    have hs4 : sc (A4 9) 0 (F4 8 1) = sc (A 9) 0 (F 8 1) := by rw [E14.2.1 9 (by decide), E14.1 (8, 1) (by decide)]
    rw [hw32, hs4, f1] at hS
    rw [q2, ← hL] at hR
    have hP : WRB (rwC F A) (rwC F6 A6) x1 2 (sc (A 9) 0 (F 8 1)) (A 10) (paC F A) Dc st0 (F3 25 1) (A 32 0) (A6 32 0) (A 32 1) (A6 32 1) (fun i => A 29 (i + 1)) (fun i => A6 29 (i + 1)) := WRB_y (WRY_H (by exact WRY_D (D2 := Dc) (st2 := st0) (by decide) hW) (by decide)) hzn hN6 (by rw [e32]; exact hB) (fun _ => ⟨F4 0 17, (RDQ_H (H2 := paC F A) (RDQ_D hR (by decide)) (by decide)), by rw [e32, hL]; exact hS⟩) (fun e => absurd e (by decide)) (fun e => absurd e (by decide)) (fun _ i _ _ => by rw [e29, E15.2.1 29 (by decide)]) (fun e => absurd e (by decide))
    rw [hz]
    exact k (F3 25 1) g4 σ6 D6 N6 F6 A6 c6 s6 X6 (STP_trans (STP_trans (STP_tr0 (STP_trans (STP_tr0 S1 S2) S3) S4) S5) S6) (EQD_tr (EQD_sub (by decide) E15) (EQD_sub (by decide) E6)) (by have w := X3.1.krg 25 1 (by decide +kernel) (show g2 0 = true from X3.2.2.1); exact w) hP
  · rw [hs2, ha2] at hW
    have E13 : EQD [(2, 1), (4, 1), (6, 1), (8, 1), (11, 1), (0, 18)] [3, 5, 7, 9, 12, 10, 29, 30, 32] [] [] D N F A D3 N3 F3 A3 := EQD_tr E12 (EQD_sub (by decide) E3)
    have hP : WRB (rwC F A) (rwC F3 A3) x1 2 (sc (A 9) 0 (F 8 1)) (A 10) (paC F A) Dc st0 z (A 32 0) (A3 32 0) (A 32 1) (A3 32 1) (fun i => A 29 (i + 1)) (fun i => A3 29 (i + 1)) := WRB_n (WRY_H (by exact WRY_D (D2 := Dc) (st2 := st0) (by decide) hW) (by decide)) (by omega) (by rw [rwC_e (EQD_sub (by decide) E13)]; exact RWS_r) (by rw [E13.2.1 32 (by decide)]) (by rw [E13.2.1 32 (by decide)]) (fun i _ _ => by rw [E13.2.1 29 (by decide)])
    exact k z g2 σ3 D3 N3 F3 A3 c3 s3 X3 (STP_trans (STP_tr0 S1 S2) S3) (EQD_sub (by decide) E13) (by omega) hP


end
section
/-! W93.wr -/
theorem T_wK3_0 {Dc : DcS} {g : Nat → Bool} {σ : rS} {D N : Nat → Nat} {F : hF} {A : hA} {d c s : Nat} {Q : wQ} {st0 : WSt} (hst : WSD Dc st0) (X : PHI Dc g σ D N F A) {x1 : Int} {ls : rO} (hl0 : rlook ls 0 = some (.ref (D 0))) (hl1 : rlook ls 1 = some (I x1)) (hl3 : rlook ls 3 = some (I (3))) (hl4 : rlook ls 4 = some (.ref (D 2))) (h1 : 0 ≤ x1 ∧ x1 ≤ 3) (cf0 : (F 2 1) ≤ 16384) (k : ∀ (z : Int) (gₚ : Nat → Bool) (σₚ : rS) (Dₚ Nₚ : Nat → Nat) (Fₚ : hF) (Aₚ : hA) (cₚ sₚ : Nat), PHI Dc gₚ σₚ Dₚ Nₚ Fₚ Aₚ → STP g σ D N A c s gₚ σₚ Dₚ Nₚ Aₚ cₚ sₚ → EQD [(11, 1), (0, 18)] [12, 10, 30] [] [] D N F A Dₚ Nₚ Fₚ Aₚ → inr z → WRB (rwC F A) (rwC Fₚ Aₚ) x1 3 (sc (A 3) 0 (F 2 1)) (A 10) (paC F A) Dc st0 z (A 32 0) (Aₚ 32 0) (A 32 1) (Aₚ 32 1) (fun i => A 29 (i + 1)) (fun i => Aₚ 29 (i + 1)) → Q (some (I z)) σₚ cₚ sₚ) : Ew 17 (d + 8) 54 ls [] σ c s Q := by
  have hri : 0 ≤ F 2 1 ∧ F 2 1 ≤ 65536 := by have w := X.2.2.2.2.2.2.2.1; unfold INV0 at w; have w := w.1; omega
  have hL : ((sc (A 3) 0 (F 2 1)).length : Int) = F 2 1 := scn hri.1
  refine T_wc3_0 (d := d + 7) X hl0 hl1 hl3 hl4 (show inr x1 by omega) cf0 (fun x5 ls σ1 D1 N1 F1 A1 c1 s1 X1 S1 E1 l0 l1 l3 l4 l5 e0 w0 w1 w5 => ?_) (fun z σ1 D1 N1 F1 A1 c1 s1 X1 S1 E1 q => absurd q (by decide))
  subst w5
  have hg0 : g 0 = true := X1.2.2.1
  refine w_callk rfl (fun rec => rinvv rfl rfl (X1.1.obj 0 (by decide +kernel) (show g 0 = true from X1.2.2.1) rfl) rec) rfl (T_the_tag (d := d + 3) X1 (fun g2 σ2 D2 N2 F2 A2 c2 s2 X2 S2 K2 K0 hj hle => ⟨rfl, ?_⟩))
  have hGI := X2.2.2.2.2.2.2.1
  have m0 : (F2 2 1) ≤ 16384 := by rw [((K2 2 (by decide +kernel) hg0).2 (by decide)).2.2]; exact e0
  have m1 : (F2 25 1) = 0 := by rw [((K2 25 (by decide +kernel) hg0).2 (by decide)).2.2]; exact w0
  have m2 : (F2 25 2) = 0 := by rw [((K2 25 (by decide +kernel) hg0).2 (by decide)).2.2]; exact w1
  have d0 : D2 0 = D1 0 := (K2 0 (by decide +kernel) hg0).1
  have d4 : D2 2 = D1 2 := (K2 2 (by decide +kernel) hg0).1
  have E12 : EQD [(2, 1), (4, 1), (6, 1), (8, 1), (11, 1), (0, 18)] [3, 5, 7, 9, 12, 10, 29, 30, 32] [] [] D N F A D2 N2 F2 A2 := EQD_tr (EQD_sub (by decide) E1) (KEP_EQ K2 K0 hg0 (by decide +kernel))
  have hs2 : sc (A2 3) 0 (F2 2 1) = sc (A 3) 0 (F 2 1) := by rw [E12.2.1 3 (by decide), E12.1 (2, 1) (by decide)]
  have ha2 : A2 10 = A 10 := E12.2.1 10 (by decide)
  refine T_wd3_0 (d := d + 2) X2 (hGI.2.1 hj) hj (by rw [d0]; exact l0) l1 l3 (by rw [d4]; exact l4) l5 (show inr x1 by omega) m0 m1 m2 (fun tc236_2 tc236_3 ls σ3 D3 N3 F3 A3 c3 s3 X3 S3 E3 p0 p1 p3 p4 q1 q2 hW => ?_) (fun z σ3 D3 N3 F3 A3 c3 s3 X3 S3 E3 zr hW => ?_)
  · rw [hs2, ha2] at hW
    have E13 : EQD [(2, 1), (4, 1), (6, 1), (8, 1), (11, 1), (0, 18)] [3, 5, 7, 9, 12, 10, 29, 30, 32] [] [] D N F A D3 N3 F3 A3 := EQD_tr E12 (EQD_sub (by decide) E3)
    have q2 : tc236_3 = F 2 1 := q2.trans (E12.1 (2, 1) (by decide))
    obtain rfl : tc236_2 = 3 := q1
    refine w_callk rfl (fun rec => rinvv rfl rfl (X3.1.obj 0 (by decide +kernel) (show g2 0 = true from X3.2.2.1) rfl) rec) rfl (T_ur3_w (d := d + 0) X3 (show 0 ≤ tc236_3 ∧ tc236_3 ≤ 65536 by omega) (fun y g4 σ4 D4 N4 F4 A4 c4 s4 X4 S4 zr hl4 E4 hb hR pk t0 t1 t2 t3 => ⟨rfl, ?_⟩))
    have d40 : D4 0 = D3 0 := S4.1.2.1
    have d44 : D4 2 = D3 2 := t0
    have E14 : EQD [(2, 1), (4, 1), (6, 1), (8, 1), (11, 1), (0, 18)] [3, 5, 7, 9, 12, 10, 29, 30, 32] [] [] D N F A D4 N4 F4 A4 := EQD_tr E13 (EQD_sub (by decide) E4)
    have m9 : F4 2 1 ≤ 16384 := by rw [E14.1 (2, 1) (by decide)]; exact cf0
    refine T_we3_0 (d := d + 5) X4  (by rw [d40]; exact p0) p1 p3 (by rw [d44]; exact p4) (show inr x1 by omega) zr m9 (fun ls σ5 D5 N5 F5 A5 c5 s5 X5 S5 E5 v0 v1 hS hB => ?_) (fun z σ5 D5 N5 F5 A5 c5 s5 X5 S5 E5 q => absurd q (by decide))
    refine T_wg (d := d + 4) X5 v0 v1 (show inr x1 by omega) h1 (fun z σ6 D6 N6 F6 A6 c6 s6 X6 S6 E6 hz u0 u1 u2 u3 y0 y1 y2 y3 => ?_)
    have E15 : EQD [(2, 1), (4, 1), (6, 1), (8, 1), (11, 1), (0, 18)] [3, 5, 7, 9, 12, 10, 30, 29] [] [] D N F A D5 N5 F5 A5 := EQD_tr (EQD_sub (by decide) E14) (EQD_sub (by decide) E5)
    have e26 : A5 26 = A3 26 := (E5.2.1 26 (by decide)).trans (E4.2.1 26 (by decide))
    have e25 : F5 25 1 = F3 25 1 := (E5.1 (25, 1) (by decide)).trans (E4.1 (25, 1) (by decide))
    rw [e26, e25] at u0 u1 u2 u3
    rw [e25] at hz
    have hN6 : RWN (rwC F5 A5) (rwC F6 A6) x1 (sc (A3 26) 0 (F3 25 1)) := PUT_N h1 u0 u1 u2 u3 y0 y1 y2 y3
    rw [rwC_e (EQD_sub (by decide) E15)] at hN6
    have e32 : A6 32 = A5 32 := E6.2.1 32 (by decide)
    have hw32 : A4 32 = A 32 := E14.2.1 32 (by decide)
    have e29 : A6 29 = A5 29 := E6.2.1 29 (by decide)
    have hzn : 0 ≤ F3 25 1 := by have w := X3.2.2.2.2.2.2.2.1; unfold INV0 at w; have w := w.2.2.2.2.2.1; omega
    have a10 : A4 10 = A 10 := E14.2.1 10 (by decide)
    have f1 : F4 2 1 = F 2 1 := E14.1 (2, 1) (by decide)
    have hB : A5 32 1 = w32 (A4 32 1 + (if BNA (A4 10) 3 (F4 2 1) < F4 25 1 then 1 else 0)) := hB
    rw [hw32, a10, f1, ← hL, E4.1 (25, 1) (by decide)] at hB
    have hS : STR y (F4 2 1) (sc (A4 28) 0 (F4 27 1)) (sc (A4 3) 0 (F4 2 1)) (A4 32 0) (A5 32 0) := hS
    have hs4 : sc (A4 3) 0 (F4 2 1) = sc (A 3) 0 (F 2 1) := by rw [E14.2.1 3 (by decide), E14.1 (2, 1) (by decide)]
    rw [hw32, hs4, f1] at hS
    rw [q2, ← hL] at hR
    have hP : WRB (rwC F A) (rwC F6 A6) x1 3 (sc (A 3) 0 (F 2 1)) (A 10) (paC F A) Dc st0 (F3 25 1) (A 32 0) (A6 32 0) (A 32 1) (A6 32 1) (fun i => A 29 (i + 1)) (fun i => A6 29 (i + 1)) := WRB_y (WRY_H (by exact WRY_D (D2 := Dc) (st2 := st0) (by decide) hW) (by decide)) hzn hN6 (by rw [e32]; exact hB) (fun _ => ⟨F4 0 17, (RDQ_H (H2 := paC F A) (RDQ_D hR (by decide)) (by decide)), by rw [e32, hL]; exact hS⟩) (fun e => absurd e (by decide)) (fun e => absurd e (by decide)) (fun _ i _ _ => by rw [e29, E15.2.1 29 (by decide)]) (fun e => absurd e (by decide))
    rw [hz]
    exact k (F3 25 1) g4 σ6 D6 N6 F6 A6 c6 s6 X6 (STP_trans (STP_trans (STP_tr0 (STP_trans (STP_tr0 S1 S2) S3) S4) S5) S6) (EQD_tr (EQD_sub (by decide) E15) (EQD_sub (by decide) E6)) (by have w := X3.1.krg 25 1 (by decide +kernel) (show g2 0 = true from X3.2.2.1); exact w) hP
  · rw [hs2, ha2] at hW
    have E13 : EQD [(2, 1), (4, 1), (6, 1), (8, 1), (11, 1), (0, 18)] [3, 5, 7, 9, 12, 10, 29, 30, 32] [] [] D N F A D3 N3 F3 A3 := EQD_tr E12 (EQD_sub (by decide) E3)
    have hP : WRB (rwC F A) (rwC F3 A3) x1 3 (sc (A 3) 0 (F 2 1)) (A 10) (paC F A) Dc st0 z (A 32 0) (A3 32 0) (A 32 1) (A3 32 1) (fun i => A 29 (i + 1)) (fun i => A3 29 (i + 1)) := WRB_n (WRY_H (by exact WRY_D (D2 := Dc) (st2 := st0) (by decide) hW) (by decide)) (by omega) (by rw [rwC_e (EQD_sub (by decide) E13)]; exact RWS_r) (by rw [E13.2.1 32 (by decide)]) (by rw [E13.2.1 32 (by decide)]) (fun i _ _ => by rw [E13.2.1 29 (by decide)])
    exact k z g2 σ3 D3 N3 F3 A3 c3 s3 X3 (STP_trans (STP_tr0 S1 S2) S3) (EQD_sub (by decide) E13) (by omega) hP
theorem T_wK3_1 {Dc : DcS} {g : Nat → Bool} {σ : rS} {D N : Nat → Nat} {F : hF} {A : hA} {d c s : Nat} {Q : wQ} {st0 : WSt} (hst : WSD Dc st0) (X : PHI Dc g σ D N F A) {x1 : Int} {ls : rO} (hl0 : rlook ls 0 = some (.ref (D 0))) (hl1 : rlook ls 1 = some (I x1)) (hl3 : rlook ls 3 = some (I (3))) (hl4 : rlook ls 4 = some (.ref (D 4))) (h1 : 0 ≤ x1 ∧ x1 ≤ 3) (cf0 : (F 4 1) ≤ 16384) (k : ∀ (z : Int) (gₚ : Nat → Bool) (σₚ : rS) (Dₚ Nₚ : Nat → Nat) (Fₚ : hF) (Aₚ : hA) (cₚ sₚ : Nat), PHI Dc gₚ σₚ Dₚ Nₚ Fₚ Aₚ → STP g σ D N A c s gₚ σₚ Dₚ Nₚ Aₚ cₚ sₚ → EQD [(11, 1), (0, 18)] [12, 10, 30] [] [] D N F A Dₚ Nₚ Fₚ Aₚ → inr z → WRB (rwC F A) (rwC Fₚ Aₚ) x1 3 (sc (A 5) 0 (F 4 1)) (A 10) (paC F A) Dc st0 z (A 32 0) (Aₚ 32 0) (A 32 1) (Aₚ 32 1) (fun i => A 29 (i + 1)) (fun i => Aₚ 29 (i + 1)) → Q (some (I z)) σₚ cₚ sₚ) : Ew 17 (d + 8) 54 ls [] σ c s Q := by
  have hri : 0 ≤ F 4 1 ∧ F 4 1 ≤ 65536 := by have w := X.2.2.2.2.2.2.2.1; unfold INV0 at w; have w := w.2.1; omega
  have hL : ((sc (A 5) 0 (F 4 1)).length : Int) = F 4 1 := scn hri.1
  refine T_wc3_1 (d := d + 7) X hl0 hl1 hl3 hl4 (show inr x1 by omega) cf0 (fun x5 ls σ1 D1 N1 F1 A1 c1 s1 X1 S1 E1 l0 l1 l3 l4 l5 e0 w0 w1 w5 => ?_) (fun z σ1 D1 N1 F1 A1 c1 s1 X1 S1 E1 q => absurd q (by decide))
  subst w5
  have hg0 : g 0 = true := X1.2.2.1
  refine w_callk rfl (fun rec => rinvv rfl rfl (X1.1.obj 0 (by decide +kernel) (show g 0 = true from X1.2.2.1) rfl) rec) rfl (T_the_tag (d := d + 3) X1 (fun g2 σ2 D2 N2 F2 A2 c2 s2 X2 S2 K2 K0 hj hle => ⟨rfl, ?_⟩))
  have hGI := X2.2.2.2.2.2.2.1
  have m0 : (F2 4 1) ≤ 16384 := by rw [((K2 4 (by decide +kernel) hg0).2 (by decide)).2.2]; exact e0
  have m1 : (F2 25 1) = 0 := by rw [((K2 25 (by decide +kernel) hg0).2 (by decide)).2.2]; exact w0
  have m2 : (F2 25 2) = 0 := by rw [((K2 25 (by decide +kernel) hg0).2 (by decide)).2.2]; exact w1
  have d0 : D2 0 = D1 0 := (K2 0 (by decide +kernel) hg0).1
  have d4 : D2 4 = D1 4 := (K2 4 (by decide +kernel) hg0).1
  have E12 : EQD [(2, 1), (4, 1), (6, 1), (8, 1), (11, 1), (0, 18)] [3, 5, 7, 9, 12, 10, 29, 30, 32] [] [] D N F A D2 N2 F2 A2 := EQD_tr (EQD_sub (by decide) E1) (KEP_EQ K2 K0 hg0 (by decide +kernel))
  have hs2 : sc (A2 5) 0 (F2 4 1) = sc (A 5) 0 (F 4 1) := by rw [E12.2.1 5 (by decide), E12.1 (4, 1) (by decide)]
  have ha2 : A2 10 = A 10 := E12.2.1 10 (by decide)
  refine T_wd3_1 (d := d + 2) X2 (hGI.2.1 hj) hj (by rw [d0]; exact l0) l1 l3 (by rw [d4]; exact l4) l5 (show inr x1 by omega) m0 m1 m2 (fun tc236_2 tc236_3 ls σ3 D3 N3 F3 A3 c3 s3 X3 S3 E3 p0 p1 p3 p4 q1 q2 hW => ?_) (fun z σ3 D3 N3 F3 A3 c3 s3 X3 S3 E3 zr hW => ?_)
  · rw [hs2, ha2] at hW
    have E13 : EQD [(2, 1), (4, 1), (6, 1), (8, 1), (11, 1), (0, 18)] [3, 5, 7, 9, 12, 10, 29, 30, 32] [] [] D N F A D3 N3 F3 A3 := EQD_tr E12 (EQD_sub (by decide) E3)
    have q2 : tc236_3 = F 4 1 := q2.trans (E12.1 (4, 1) (by decide))
    obtain rfl : tc236_2 = 3 := q1
    refine w_callk rfl (fun rec => rinvv rfl rfl (X3.1.obj 0 (by decide +kernel) (show g2 0 = true from X3.2.2.1) rfl) rec) rfl (T_ur3_w (d := d + 0) X3 (show 0 ≤ tc236_3 ∧ tc236_3 ≤ 65536 by omega) (fun y g4 σ4 D4 N4 F4 A4 c4 s4 X4 S4 zr hl4 E4 hb hR pk t0 t1 t2 t3 => ⟨rfl, ?_⟩))
    have d40 : D4 0 = D3 0 := S4.1.2.1
    have d44 : D4 4 = D3 4 := t1
    have E14 : EQD [(2, 1), (4, 1), (6, 1), (8, 1), (11, 1), (0, 18)] [3, 5, 7, 9, 12, 10, 29, 30, 32] [] [] D N F A D4 N4 F4 A4 := EQD_tr E13 (EQD_sub (by decide) E4)
    have m9 : F4 4 1 ≤ 16384 := by rw [E14.1 (4, 1) (by decide)]; exact cf0
    refine T_we3_1 (d := d + 5) X4  (by rw [d40]; exact p0) p1 p3 (by rw [d44]; exact p4) (show inr x1 by omega) zr m9 (fun ls σ5 D5 N5 F5 A5 c5 s5 X5 S5 E5 v0 v1 hS hB => ?_) (fun z σ5 D5 N5 F5 A5 c5 s5 X5 S5 E5 q => absurd q (by decide))
    refine T_wg (d := d + 4) X5 v0 v1 (show inr x1 by omega) h1 (fun z σ6 D6 N6 F6 A6 c6 s6 X6 S6 E6 hz u0 u1 u2 u3 y0 y1 y2 y3 => ?_)
    have E15 : EQD [(2, 1), (4, 1), (6, 1), (8, 1), (11, 1), (0, 18)] [3, 5, 7, 9, 12, 10, 30, 29] [] [] D N F A D5 N5 F5 A5 := EQD_tr (EQD_sub (by decide) E14) (EQD_sub (by decide) E5)
    have e26 : A5 26 = A3 26 := (E5.2.1 26 (by decide)).trans (E4.2.1 26 (by decide))
    have e25 : F5 25 1 = F3 25 1 := (E5.1 (25, 1) (by decide)).trans (E4.1 (25, 1) (by decide))
    rw [e26, e25] at u0 u1 u2 u3
    rw [e25] at hz
    have hN6 : RWN (rwC F5 A5) (rwC F6 A6) x1 (sc (A3 26) 0 (F3 25 1)) := PUT_N h1 u0 u1 u2 u3 y0 y1 y2 y3
    rw [rwC_e (EQD_sub (by decide) E15)] at hN6
    have e32 : A6 32 = A5 32 := E6.2.1 32 (by decide)
    have hw32 : A4 32 = A 32 := E14.2.1 32 (by decide)
    have e29 : A6 29 = A5 29 := E6.2.1 29 (by decide)
    have hzn : 0 ≤ F3 25 1 := by have w := X3.2.2.2.2.2.2.2.1; unfold INV0 at w; have w := w.2.2.2.2.2.1; omega
    have a10 : A4 10 = A 10 := E14.2.1 10 (by decide)
    have f1 : F4 4 1 = F 4 1 := E14.1 (4, 1) (by decide)
    have hB : A5 32 1 = w32 (A4 32 1 + (if BNA (A4 10) 3 (F4 4 1) < F4 25 1 then 1 else 0)) := hB
    rw [hw32, a10, f1, ← hL, E4.1 (25, 1) (by decide)] at hB
    have hS : STR y (F4 4 1) (sc (A4 28) 0 (F4 27 1)) (sc (A4 5) 0 (F4 4 1)) (A4 32 0) (A5 32 0) := hS
    have hs4 : sc (A4 5) 0 (F4 4 1) = sc (A 5) 0 (F 4 1) := by rw [E14.2.1 5 (by decide), E14.1 (4, 1) (by decide)]
    rw [hw32, hs4, f1] at hS
    rw [q2, ← hL] at hR
    have hP : WRB (rwC F A) (rwC F6 A6) x1 3 (sc (A 5) 0 (F 4 1)) (A 10) (paC F A) Dc st0 (F3 25 1) (A 32 0) (A6 32 0) (A 32 1) (A6 32 1) (fun i => A 29 (i + 1)) (fun i => A6 29 (i + 1)) := WRB_y (WRY_H (by exact WRY_D (D2 := Dc) (st2 := st0) (by decide) hW) (by decide)) hzn hN6 (by rw [e32]; exact hB) (fun _ => ⟨F4 0 17, (RDQ_H (H2 := paC F A) (RDQ_D hR (by decide)) (by decide)), by rw [e32, hL]; exact hS⟩) (fun e => absurd e (by decide)) (fun e => absurd e (by decide)) (fun _ i _ _ => by rw [e29, E15.2.1 29 (by decide)]) (fun e => absurd e (by decide))
    rw [hz]
    exact k (F3 25 1) g4 σ6 D6 N6 F6 A6 c6 s6 X6 (STP_trans (STP_trans (STP_tr0 (STP_trans (STP_tr0 S1 S2) S3) S4) S5) S6) (EQD_tr (EQD_sub (by decide) E15) (EQD_sub (by decide) E6)) (by have w := X3.1.krg 25 1 (by decide +kernel) (show g2 0 = true from X3.2.2.1); exact w) hP
  · rw [hs2, ha2] at hW
    have E13 : EQD [(2, 1), (4, 1), (6, 1), (8, 1), (11, 1), (0, 18)] [3, 5, 7, 9, 12, 10, 29, 30, 32] [] [] D N F A D3 N3 F3 A3 := EQD_tr E12 (EQD_sub (by decide) E3)
    have hP : WRB (rwC F A) (rwC F3 A3) x1 3 (sc (A 5) 0 (F 4 1)) (A 10) (paC F A) Dc st0 z (A 32 0) (A3 32 0) (A 32 1) (A3 32 1) (fun i => A 29 (i + 1)) (fun i => A3 29 (i + 1)) := WRB_n (WRY_H (by exact WRY_D (D2 := Dc) (st2 := st0) (by decide) hW) (by decide)) (by omega) (by rw [rwC_e (EQD_sub (by decide) E13)]; exact RWS_r) (by rw [E13.2.1 32 (by decide)]) (by rw [E13.2.1 32 (by decide)]) (fun i _ _ => by rw [E13.2.1 29 (by decide)])
    exact k z g2 σ3 D3 N3 F3 A3 c3 s3 X3 (STP_trans (STP_tr0 S1 S2) S3) (EQD_sub (by decide) E13) (by omega) hP
theorem T_wK3_2 {Dc : DcS} {g : Nat → Bool} {σ : rS} {D N : Nat → Nat} {F : hF} {A : hA} {d c s : Nat} {Q : wQ} {st0 : WSt} (hst : WSD Dc st0) (X : PHI Dc g σ D N F A) {x1 : Int} {ls : rO} (hl0 : rlook ls 0 = some (.ref (D 0))) (hl1 : rlook ls 1 = some (I x1)) (hl3 : rlook ls 3 = some (I (3))) (hl4 : rlook ls 4 = some (.ref (D 6))) (h1 : 0 ≤ x1 ∧ x1 ≤ 3) (cf0 : (F 6 1) ≤ 16384) (k : ∀ (z : Int) (gₚ : Nat → Bool) (σₚ : rS) (Dₚ Nₚ : Nat → Nat) (Fₚ : hF) (Aₚ : hA) (cₚ sₚ : Nat), PHI Dc gₚ σₚ Dₚ Nₚ Fₚ Aₚ → STP g σ D N A c s gₚ σₚ Dₚ Nₚ Aₚ cₚ sₚ → EQD [(11, 1), (0, 18)] [12, 10, 30] [] [] D N F A Dₚ Nₚ Fₚ Aₚ → inr z → WRB (rwC F A) (rwC Fₚ Aₚ) x1 3 (sc (A 7) 0 (F 6 1)) (A 10) (paC F A) Dc st0 z (A 32 0) (Aₚ 32 0) (A 32 1) (Aₚ 32 1) (fun i => A 29 (i + 1)) (fun i => Aₚ 29 (i + 1)) → Q (some (I z)) σₚ cₚ sₚ) : Ew 17 (d + 8) 54 ls [] σ c s Q := by
  have hri : 0 ≤ F 6 1 ∧ F 6 1 ≤ 65536 := by have w := X.2.2.2.2.2.2.2.1; unfold INV0 at w; have w := w.2.2.1; omega
  have hL : ((sc (A 7) 0 (F 6 1)).length : Int) = F 6 1 := scn hri.1
  refine T_wc3_2 (d := d + 7) X hl0 hl1 hl3 hl4 (show inr x1 by omega) cf0 (fun x5 ls σ1 D1 N1 F1 A1 c1 s1 X1 S1 E1 l0 l1 l3 l4 l5 e0 w0 w1 w5 => ?_) (fun z σ1 D1 N1 F1 A1 c1 s1 X1 S1 E1 q => absurd q (by decide))
  subst w5
  have hg0 : g 0 = true := X1.2.2.1
  refine w_callk rfl (fun rec => rinvv rfl rfl (X1.1.obj 0 (by decide +kernel) (show g 0 = true from X1.2.2.1) rfl) rec) rfl (T_the_tag (d := d + 3) X1 (fun g2 σ2 D2 N2 F2 A2 c2 s2 X2 S2 K2 K0 hj hle => ⟨rfl, ?_⟩))
  have hGI := X2.2.2.2.2.2.2.1
  have m0 : (F2 6 1) ≤ 16384 := by rw [((K2 6 (by decide +kernel) hg0).2 (by decide)).2.2]; exact e0
  have m1 : (F2 25 1) = 0 := by rw [((K2 25 (by decide +kernel) hg0).2 (by decide)).2.2]; exact w0
  have m2 : (F2 25 2) = 0 := by rw [((K2 25 (by decide +kernel) hg0).2 (by decide)).2.2]; exact w1
  have d0 : D2 0 = D1 0 := (K2 0 (by decide +kernel) hg0).1
  have d4 : D2 6 = D1 6 := (K2 6 (by decide +kernel) hg0).1
  have E12 : EQD [(2, 1), (4, 1), (6, 1), (8, 1), (11, 1), (0, 18)] [3, 5, 7, 9, 12, 10, 29, 30, 32] [] [] D N F A D2 N2 F2 A2 := EQD_tr (EQD_sub (by decide) E1) (KEP_EQ K2 K0 hg0 (by decide +kernel))
  have hs2 : sc (A2 7) 0 (F2 6 1) = sc (A 7) 0 (F 6 1) := by rw [E12.2.1 7 (by decide), E12.1 (6, 1) (by decide)]
  have ha2 : A2 10 = A 10 := E12.2.1 10 (by decide)
  refine T_wd3_2 (d := d + 2) X2 (hGI.2.1 hj) hj (by rw [d0]; exact l0) l1 l3 (by rw [d4]; exact l4) l5 (show inr x1 by omega) m0 m1 m2 (fun tc236_2 tc236_3 ls σ3 D3 N3 F3 A3 c3 s3 X3 S3 E3 p0 p1 p3 p4 q1 q2 hW => ?_) (fun z σ3 D3 N3 F3 A3 c3 s3 X3 S3 E3 zr hW => ?_)
  · rw [hs2, ha2] at hW
    have E13 : EQD [(2, 1), (4, 1), (6, 1), (8, 1), (11, 1), (0, 18)] [3, 5, 7, 9, 12, 10, 29, 30, 32] [] [] D N F A D3 N3 F3 A3 := EQD_tr E12 (EQD_sub (by decide) E3)
    have q2 : tc236_3 = F 6 1 := q2.trans (E12.1 (6, 1) (by decide))
    obtain rfl : tc236_2 = 3 := q1
    refine w_callk rfl (fun rec => rinvv rfl rfl (X3.1.obj 0 (by decide +kernel) (show g2 0 = true from X3.2.2.1) rfl) rec) rfl (T_ur3_w (d := d + 0) X3 (show 0 ≤ tc236_3 ∧ tc236_3 ≤ 65536 by omega) (fun y g4 σ4 D4 N4 F4 A4 c4 s4 X4 S4 zr hl4 E4 hb hR pk t0 t1 t2 t3 => ⟨rfl, ?_⟩))
    have d40 : D4 0 = D3 0 := S4.1.2.1
    have d44 : D4 6 = D3 6 := t2
    have E14 : EQD [(2, 1), (4, 1), (6, 1), (8, 1), (11, 1), (0, 18)] [3, 5, 7, 9, 12, 10, 29, 30, 32] [] [] D N F A D4 N4 F4 A4 := EQD_tr E13 (EQD_sub (by decide) E4)
    have m9 : F4 6 1 ≤ 16384 := by rw [E14.1 (6, 1) (by decide)]; exact cf0
    refine T_we3_2 (d := d + 5) X4  (by rw [d40]; exact p0) p1 p3 (by rw [d44]; exact p4) (show inr x1 by omega) zr m9 (fun ls σ5 D5 N5 F5 A5 c5 s5 X5 S5 E5 v0 v1 hS hB => ?_) (fun z σ5 D5 N5 F5 A5 c5 s5 X5 S5 E5 q => absurd q (by decide))
    refine T_wg (d := d + 4) X5 v0 v1 (show inr x1 by omega) h1 (fun z σ6 D6 N6 F6 A6 c6 s6 X6 S6 E6 hz u0 u1 u2 u3 y0 y1 y2 y3 => ?_)
    have E15 : EQD [(2, 1), (4, 1), (6, 1), (8, 1), (11, 1), (0, 18)] [3, 5, 7, 9, 12, 10, 30, 29] [] [] D N F A D5 N5 F5 A5 := EQD_tr (EQD_sub (by decide) E14) (EQD_sub (by decide) E5)
    have e26 : A5 26 = A3 26 := (E5.2.1 26 (by decide)).trans (E4.2.1 26 (by decide))
    have e25 : F5 25 1 = F3 25 1 := (E5.1 (25, 1) (by decide)).trans (E4.1 (25, 1) (by decide))
    rw [e26, e25] at u0 u1 u2 u3
    rw [e25] at hz
    have hN6 : RWN (rwC F5 A5) (rwC F6 A6) x1 (sc (A3 26) 0 (F3 25 1)) := PUT_N h1 u0 u1 u2 u3 y0 y1 y2 y3
    rw [rwC_e (EQD_sub (by decide) E15)] at hN6
    have e32 : A6 32 = A5 32 := E6.2.1 32 (by decide)
    have hw32 : A4 32 = A 32 := E14.2.1 32 (by decide)
    have e29 : A6 29 = A5 29 := E6.2.1 29 (by decide)
    have hzn : 0 ≤ F3 25 1 := by have w := X3.2.2.2.2.2.2.2.1; unfold INV0 at w; have w := w.2.2.2.2.2.1; omega
    have a10 : A4 10 = A 10 := E14.2.1 10 (by decide)
    have f1 : F4 6 1 = F 6 1 := E14.1 (6, 1) (by decide)
    have hB : A5 32 1 = w32 (A4 32 1 + (if BNA (A4 10) 3 (F4 6 1) < F4 25 1 then 1 else 0)) := hB
    rw [hw32, a10, f1, ← hL, E4.1 (25, 1) (by decide)] at hB
    have hS : STR y (F4 6 1) (sc (A4 28) 0 (F4 27 1)) (sc (A4 7) 0 (F4 6 1)) (A4 32 0) (A5 32 0) := hS
    have hs4 : sc (A4 7) 0 (F4 6 1) = sc (A 7) 0 (F 6 1) := by rw [E14.2.1 7 (by decide), E14.1 (6, 1) (by decide)]
    rw [hw32, hs4, f1] at hS
    rw [q2, ← hL] at hR
    have hP : WRB (rwC F A) (rwC F6 A6) x1 3 (sc (A 7) 0 (F 6 1)) (A 10) (paC F A) Dc st0 (F3 25 1) (A 32 0) (A6 32 0) (A 32 1) (A6 32 1) (fun i => A 29 (i + 1)) (fun i => A6 29 (i + 1)) := WRB_y (WRY_H (by exact WRY_D (D2 := Dc) (st2 := st0) (by decide) hW) (by decide)) hzn hN6 (by rw [e32]; exact hB) (fun _ => ⟨F4 0 17, (RDQ_H (H2 := paC F A) (RDQ_D hR (by decide)) (by decide)), by rw [e32, hL]; exact hS⟩) (fun e => absurd e (by decide)) (fun e => absurd e (by decide)) (fun _ i _ _ => by rw [e29, E15.2.1 29 (by decide)]) (fun e => absurd e (by decide))
    rw [hz]
    exact k (F3 25 1) g4 σ6 D6 N6 F6 A6 c6 s6 X6 (STP_trans (STP_trans (STP_tr0 (STP_trans (STP_tr0 S1 S2) S3) S4) S5) S6) (EQD_tr (EQD_sub (by decide) E15) (EQD_sub (by decide) E6)) (by have w := X3.1.krg 25 1 (by decide +kernel) (show g2 0 = true from X3.2.2.1); exact w) hP
  · rw [hs2, ha2] at hW
    have E13 : EQD [(2, 1), (4, 1), (6, 1), (8, 1), (11, 1), (0, 18)] [3, 5, 7, 9, 12, 10, 29, 30, 32] [] [] D N F A D3 N3 F3 A3 := EQD_tr E12 (EQD_sub (by decide) E3)
    have hP : WRB (rwC F A) (rwC F3 A3) x1 3 (sc (A 7) 0 (F 6 1)) (A 10) (paC F A) Dc st0 z (A 32 0) (A3 32 0) (A 32 1) (A3 32 1) (fun i => A 29 (i + 1)) (fun i => A3 29 (i + 1)) := WRB_n (WRY_H (by exact WRY_D (D2 := Dc) (st2 := st0) (by decide) hW) (by decide)) (by omega) (by rw [rwC_e (EQD_sub (by decide) E13)]; exact RWS_r) (by rw [E13.2.1 32 (by decide)]) (by rw [E13.2.1 32 (by decide)]) (fun i _ _ => by rw [E13.2.1 29 (by decide)])
    exact k z g2 σ3 D3 N3 F3 A3 c3 s3 X3 (STP_trans (STP_tr0 S1 S2) S3) (EQD_sub (by decide) E13) (by omega) hP
theorem T_wK3_3 {Dc : DcS} {g : Nat → Bool} {σ : rS} {D N : Nat → Nat} {F : hF} {A : hA} {d c s : Nat} {Q : wQ} {st0 : WSt} (hst : WSD Dc st0) (X : PHI Dc g σ D N F A) {x1 : Int} {ls : rO} (hl0 : rlook ls 0 = some (.ref (D 0))) (hl1 : rlook ls 1 = some (I x1)) (hl3 : rlook ls 3 = some (I (3))) (hl4 : rlook ls 4 = some (.ref (D 8))) (h1 : 0 ≤ x1 ∧ x1 ≤ 3) (cf0 : (F 8 1) ≤ 16384) (k : ∀ (z : Int) (gₚ : Nat → Bool) (σₚ : rS) (Dₚ Nₚ : Nat → Nat) (Fₚ : hF) (Aₚ : hA) (cₚ sₚ : Nat), PHI Dc gₚ σₚ Dₚ Nₚ Fₚ Aₚ → STP g σ D N A c s gₚ σₚ Dₚ Nₚ Aₚ cₚ sₚ → EQD [(11, 1), (0, 18)] [12, 10, 30] [] [] D N F A Dₚ Nₚ Fₚ Aₚ → inr z → WRB (rwC F A) (rwC Fₚ Aₚ) x1 3 (sc (A 9) 0 (F 8 1)) (A 10) (paC F A) Dc st0 z (A 32 0) (Aₚ 32 0) (A 32 1) (Aₚ 32 1) (fun i => A 29 (i + 1)) (fun i => Aₚ 29 (i + 1)) → Q (some (I z)) σₚ cₚ sₚ) : Ew 17 (d + 8) 54 ls [] σ c s Q := by
  have hri : 0 ≤ F 8 1 ∧ F 8 1 ≤ 65536 := by have w := X.2.2.2.2.2.2.2.1; unfold INV0 at w; have w := w.2.2.2.1; omega
  have hL : ((sc (A 9) 0 (F 8 1)).length : Int) = F 8 1 := scn hri.1
  refine T_wc3_3 (d := d + 7) X hl0 hl1 hl3 hl4 (show inr x1 by omega) cf0 (fun x5 ls σ1 D1 N1 F1 A1 c1 s1 X1 S1 E1 l0 l1 l3 l4 l5 e0 w0 w1 w5 => ?_) (fun z σ1 D1 N1 F1 A1 c1 s1 X1 S1 E1 q => absurd q (by decide))
  subst w5
  have hg0 : g 0 = true := X1.2.2.1
  refine w_callk rfl (fun rec => rinvv rfl rfl (X1.1.obj 0 (by decide +kernel) (show g 0 = true from X1.2.2.1) rfl) rec) rfl (T_the_tag (d := d + 3) X1 (fun g2 σ2 D2 N2 F2 A2 c2 s2 X2 S2 K2 K0 hj hle => ⟨rfl, ?_⟩))
  have hGI := X2.2.2.2.2.2.2.1
  have m0 : (F2 8 1) ≤ 16384 := by rw [((K2 8 (by decide +kernel) hg0).2 (by decide)).2.2]; exact e0
  have m1 : (F2 25 1) = 0 := by rw [((K2 25 (by decide +kernel) hg0).2 (by decide)).2.2]; exact w0
  have m2 : (F2 25 2) = 0 := by rw [((K2 25 (by decide +kernel) hg0).2 (by decide)).2.2]; exact w1
  have d0 : D2 0 = D1 0 := (K2 0 (by decide +kernel) hg0).1
  have d4 : D2 8 = D1 8 := (K2 8 (by decide +kernel) hg0).1
  have E12 : EQD [(2, 1), (4, 1), (6, 1), (8, 1), (11, 1), (0, 18)] [3, 5, 7, 9, 12, 10, 29, 30, 32] [] [] D N F A D2 N2 F2 A2 := EQD_tr (EQD_sub (by decide) E1) (KEP_EQ K2 K0 hg0 (by decide +kernel))
  have hs2 : sc (A2 9) 0 (F2 8 1) = sc (A 9) 0 (F 8 1) := by rw [E12.2.1 9 (by decide), E12.1 (8, 1) (by decide)]
  have ha2 : A2 10 = A 10 := E12.2.1 10 (by decide)
  refine T_wd3_3 (d := d + 2) X2 (hGI.2.1 hj) hj (by rw [d0]; exact l0) l1 l3 (by rw [d4]; exact l4) l5 (show inr x1 by omega) m0 m1 m2 (fun tc236_2 tc236_3 ls σ3 D3 N3 F3 A3 c3 s3 X3 S3 E3 p0 p1 p3 p4 q1 q2 hW => ?_) (fun z σ3 D3 N3 F3 A3 c3 s3 X3 S3 E3 zr hW => ?_)
  · rw [hs2, ha2] at hW
    have E13 : EQD [(2, 1), (4, 1), (6, 1), (8, 1), (11, 1), (0, 18)] [3, 5, 7, 9, 12, 10, 29, 30, 32] [] [] D N F A D3 N3 F3 A3 := EQD_tr E12 (EQD_sub (by decide) E3)
    have q2 : tc236_3 = F 8 1 := q2.trans (E12.1 (8, 1) (by decide))
    obtain rfl : tc236_2 = 3 := q1
    refine w_callk rfl (fun rec => rinvv rfl rfl (X3.1.obj 0 (by decide +kernel) (show g2 0 = true from X3.2.2.1) rfl) rec) rfl (T_ur3_w (d := d + 0) X3 (show 0 ≤ tc236_3 ∧ tc236_3 ≤ 65536 by omega) (fun y g4 σ4 D4 N4 F4 A4 c4 s4 X4 S4 zr hl4 E4 hb hR pk t0 t1 t2 t3 => ⟨rfl, ?_⟩))
    have d40 : D4 0 = D3 0 := S4.1.2.1
    have d44 : D4 8 = D3 8 := t3
    have E14 : EQD [(2, 1), (4, 1), (6, 1), (8, 1), (11, 1), (0, 18)] [3, 5, 7, 9, 12, 10, 29, 30, 32] [] [] D N F A D4 N4 F4 A4 := EQD_tr E13 (EQD_sub (by decide) E4)
    have m9 : F4 8 1 ≤ 16384 := by rw [E14.1 (8, 1) (by decide)]; exact cf0
    refine T_we3_3 (d := d + 5) X4  (by rw [d40]; exact p0) p1 p3 (by rw [d44]; exact p4) (show inr x1 by omega) zr m9 (fun ls σ5 D5 N5 F5 A5 c5 s5 X5 S5 E5 v0 v1 hS hB => ?_) (fun z σ5 D5 N5 F5 A5 c5 s5 X5 S5 E5 q => absurd q (by decide))
    refine T_wg (d := d + 4) X5 v0 v1 (show inr x1 by omega) h1 (fun z σ6 D6 N6 F6 A6 c6 s6 X6 S6 E6 hz u0 u1 u2 u3 y0 y1 y2 y3 => ?_)
    have E15 : EQD [(2, 1), (4, 1), (6, 1), (8, 1), (11, 1), (0, 18)] [3, 5, 7, 9, 12, 10, 30, 29] [] [] D N F A D5 N5 F5 A5 := EQD_tr (EQD_sub (by decide) E14) (EQD_sub (by decide) E5)
    have e26 : A5 26 = A3 26 := (E5.2.1 26 (by decide)).trans (E4.2.1 26 (by decide))
    have e25 : F5 25 1 = F3 25 1 := (E5.1 (25, 1) (by decide)).trans (E4.1 (25, 1) (by decide))
    rw [e26, e25] at u0 u1 u2 u3
    rw [e25] at hz
    have hN6 : RWN (rwC F5 A5) (rwC F6 A6) x1 (sc (A3 26) 0 (F3 25 1)) := PUT_N h1 u0 u1 u2 u3 y0 y1 y2 y3
    rw [rwC_e (EQD_sub (by decide) E15)] at hN6
    have e32 : A6 32 = A5 32 := E6.2.1 32 (by decide)
    have hw32 : A4 32 = A 32 := E14.2.1 32 (by decide)
    have e29 : A6 29 = A5 29 := E6.2.1 29 (by decide)
    have hzn : 0 ≤ F3 25 1 := by have w := X3.2.2.2.2.2.2.2.1; unfold INV0 at w; have w := w.2.2.2.2.2.1; omega
    have a10 : A4 10 = A 10 := E14.2.1 10 (by decide)
    have f1 : F4 8 1 = F 8 1 := E14.1 (8, 1) (by decide)
    have hB : A5 32 1 = w32 (A4 32 1 + (if BNA (A4 10) 3 (F4 8 1) < F4 25 1 then 1 else 0)) := hB
    rw [hw32, a10, f1, ← hL, E4.1 (25, 1) (by decide)] at hB
    have hS : STR y (F4 8 1) (sc (A4 28) 0 (F4 27 1)) (sc (A4 9) 0 (F4 8 1)) (A4 32 0) (A5 32 0) := hS
    have hs4 : sc (A4 9) 0 (F4 8 1) = sc (A 9) 0 (F 8 1) := by rw [E14.2.1 9 (by decide), E14.1 (8, 1) (by decide)]
    rw [hw32, hs4, f1] at hS
    rw [q2, ← hL] at hR
    have hP : WRB (rwC F A) (rwC F6 A6) x1 3 (sc (A 9) 0 (F 8 1)) (A 10) (paC F A) Dc st0 (F3 25 1) (A 32 0) (A6 32 0) (A 32 1) (A6 32 1) (fun i => A 29 (i + 1)) (fun i => A6 29 (i + 1)) := WRB_y (WRY_H (by exact WRY_D (D2 := Dc) (st2 := st0) (by decide) hW) (by decide)) hzn hN6 (by rw [e32]; exact hB) (fun _ => ⟨F4 0 17, (RDQ_H (H2 := paC F A) (RDQ_D hR (by decide)) (by decide)), by rw [e32, hL]; exact hS⟩) (fun e => absurd e (by decide)) (fun e => absurd e (by decide)) (fun _ i _ _ => by rw [e29, E15.2.1 29 (by decide)]) (fun e => absurd e (by decide))
    rw [hz]
    exact k (F3 25 1) g4 σ6 D6 N6 F6 A6 c6 s6 X6 (STP_trans (STP_trans (STP_tr0 (STP_trans (STP_tr0 S1 S2) S3) S4) S5) S6) (EQD_tr (EQD_sub (by decide) E15) (EQD_sub (by decide) E6)) (by have w := X3.1.krg 25 1 (by decide +kernel) (show g2 0 = true from X3.2.2.1); exact w) hP
  · rw [hs2, ha2] at hW
    have E13 : EQD [(2, 1), (4, 1), (6, 1), (8, 1), (11, 1), (0, 18)] [3, 5, 7, 9, 12, 10, 29, 30, 32] [] [] D N F A D3 N3 F3 A3 := EQD_tr E12 (EQD_sub (by decide) E3)
    have hP : WRB (rwC F A) (rwC F3 A3) x1 3 (sc (A 9) 0 (F 8 1)) (A 10) (paC F A) Dc st0 z (A 32 0) (A3 32 0) (A 32 1) (A3 32 1) (fun i => A 29 (i + 1)) (fun i => A3 29 (i + 1)) := WRB_n (WRY_H (by exact WRY_D (D2 := Dc) (st2 := st0) (by decide) hW) (by decide)) (by omega) (by rw [rwC_e (EQD_sub (by decide) E13)]; exact RWS_r) (by rw [E13.2.1 32 (by decide)]) (by rw [E13.2.1 32 (by decide)]) (fun i _ _ => by rw [E13.2.1 29 (by decide)])
    exact k z g2 σ3 D3 N3 F3 A3 c3 s3 X3 (STP_trans (STP_tr0 S1 S2) S3) (EQD_sub (by decide) E13) (by omega) hP


end
section
/-! W94.wr -/
theorem T_wK4_0 {Dc : DcS} {g : Nat → Bool} {σ : rS} {D N : Nat → Nat} {F : hF} {A : hA} {d c s : Nat} {Q : wQ} {st0 : WSt} (hst : WSD Dc st0) (X : PHI Dc g σ D N F A) {x1 : Int} {ls : rO} (hl0 : rlook ls 0 = some (.ref (D 0))) (hl1 : rlook ls 1 = some (I x1)) (hl3 : rlook ls 3 = some (I (4))) (hl4 : rlook ls 4 = some (.ref (D 2))) (h1 : 0 ≤ x1 ∧ x1 ≤ 3) (cf0 : (F 2 1) ≤ 16384) (cf1 : (F 2 1) + (F 14 1) ≤ 16384) (k : ∀ (z : Int) (gₚ : Nat → Bool) (σₚ : rS) (Dₚ Nₚ : Nat → Nat) (Fₚ : hF) (Aₚ : hA) (cₚ sₚ : Nat), PHI Dc gₚ σₚ Dₚ Nₚ Fₚ Aₚ → STP g σ D N A c s gₚ σₚ Dₚ Nₚ Aₚ cₚ sₚ → EQD [(11, 1), (0, 18)] [12, 10, 30] [] [] D N F A Dₚ Nₚ Fₚ Aₚ → inr z → WRB (rwC F A) (rwC Fₚ Aₚ) x1 4 (sc (A 3) 0 (F 2 1)) (A 10) (paC F A) Dc st0 z (A 32 0) (Aₚ 32 0) (A 32 1) (Aₚ 32 1) (fun i => A 29 (i + 1)) (fun i => Aₚ 29 (i + 1)) → Q (some (I z)) σₚ cₚ sₚ) : Ew 17 (d + 8) 54 ls [] σ c s Q := by
  have hri : 0 ≤ F 2 1 ∧ F 2 1 ≤ 65536 := by have w := X.2.2.2.2.2.2.2.1; unfold INV0 at w; have w := w.1; omega
  have hL : ((sc (A 3) 0 (F 2 1)).length : Int) = F 2 1 := scn hri.1
  refine T_wc4_0 (d := d + 7) X hl0 hl1 hl3 hl4 (show inr x1 by omega) cf0 cf1 (fun x5 ls σ1 D1 N1 F1 A1 c1 s1 X1 S1 E1 l0 l1 l3 l4 l5 e0 e1 w0 w1 w5 => ?_) (fun z σ1 D1 N1 F1 A1 c1 s1 X1 S1 E1 q => absurd q (by decide))
  subst w5
  have hg0 : g 0 = true := X1.2.2.1
  refine w_callk rfl (fun rec => rinvv rfl rfl (X1.1.obj 0 (by decide +kernel) (show g 0 = true from X1.2.2.1) rfl) rec) rfl (T_the_pac (d := d + 3) X1 (fun g2 σ2 D2 N2 F2 A2 c2 s2 X2 S2 K2 K0 hj hle => ⟨rfl, ?_⟩))
  have hGI := X2.2.2.2.2.2.2.1
  have m0 : (F2 2 1) ≤ 16384 := by rw [((K2 2 (by decide +kernel) hg0).2 (by decide)).2.2]; exact e0
  have m1 : (F2 2 1) + (F2 14 1) ≤ 16384 := by rw [((K2 2 (by decide +kernel) hg0).2 (by decide)).2.2, ((K2 14 (by decide +kernel) hg0).2 (by decide)).2.2]; exact e1
  have m2 : (F2 25 1) = 0 := by rw [((K2 25 (by decide +kernel) hg0).2 (by decide)).2.2]; exact w0
  have m3 : (F2 25 2) = 0 := by rw [((K2 25 (by decide +kernel) hg0).2 (by decide)).2.2]; exact w1
  have d0 : D2 0 = D1 0 := (K2 0 (by decide +kernel) hg0).1
  have d4 : D2 2 = D1 2 := (K2 2 (by decide +kernel) hg0).1
  have E12 : EQD [(2, 1), (4, 1), (6, 1), (8, 1), (11, 1), (0, 18)] [3, 5, 7, 9, 12, 10, 29, 30, 32] [] [] D N F A D2 N2 F2 A2 := EQD_tr (EQD_sub (by decide) E1) (KEP_EQ K2 K0 hg0 (by decide +kernel))
  have hs2 : sc (A2 3) 0 (F2 2 1) = sc (A 3) 0 (F 2 1) := by rw [E12.2.1 3 (by decide), E12.1 (2, 1) (by decide)]
  have ha2 : A2 10 = A 10 := E12.2.1 10 (by decide)
  cases h7 : g2 7 with
  | false =>
    refine T_wd4n_0 (d := d + 1) hst X2 (hGI.2.2.1 hj) (hGI.2.2.2.1 hj) hj h7 (by rw [d0]; exact l0) l1 l3 (by rw [d4]; exact l4) l5 (show inr x1 by omega) m0 m1 m2 m3 (fun tc236_2 tc236_3 ls σ3 D3 N3 F3 A3 c3 s3 X3 S3 E3 p0 p1 p3 p4 q1 q2 hW hcn => ?_) (fun z σ3 D3 N3 F3 A3 c3 s3 X3 S3 E3 zr hW => ?_)
    · rw [hs2, ha2] at hW hcn
      have E13 : EQD [(2, 1), (4, 1), (6, 1), (8, 1), (11, 1), (0, 18)] [3, 5, 7, 9, 12, 10, 29, 30, 32] [] [] D N F A D3 N3 F3 A3 := EQD_tr E12 (EQD_sub (by decide) E3)
      have q2 : tc236_3 = F 2 1 := q2.trans (E12.1 (2, 1) (by decide))
      obtain rfl : tc236_2 = 4 := q1
      refine w_callk rfl (fun rec => rinvv rfl rfl (X3.1.obj 0 (by decide +kernel) (show g2 0 = true from X3.2.2.1) rfl) rec) rfl (T_ur4_w (d := d + 0) X3 (show 0 ≤ tc236_3 ∧ tc236_3 ≤ 65536 by omega) (fun y g4 σ4 D4 N4 F4 A4 c4 s4 X4 S4 zr hl4 E4 hb hR hC hN pk t0 t1 t2 t3 => ⟨rfl, ?_⟩))
      have d40 : D4 0 = D3 0 := S4.1.2.1
      have d44 : D4 2 = D3 2 := t0
      have E14 : EQD [(2, 1), (4, 1), (6, 1), (8, 1), (11, 1), (0, 18)] [3, 5, 7, 9, 12, 10, 29, 30, 32] [] [] D N F A D4 N4 F4 A4 := EQD_tr E13 (EQD_sub (by decide) E4)
      have m9 : F4 2 1 ≤ 16384 := by rw [E14.1 (2, 1) (by decide)]; exact cf0
      refine T_we4_0 (d := d + 5) X4 (hl4 5 hj) (by rw [d40]; exact p0) p1 p3 (by rw [d44]; exact p4) (show inr x1 by omega) zr m9 (fun ls σ5 D5 N5 F5 A5 c5 s5 X5 S5 E5 v0 v1 hS hB hc4 => ?_) (fun z σ5 D5 N5 F5 A5 c5 s5 X5 S5 E5 q => absurd q (by decide))
      refine T_wg (d := d + 4) X5 v0 v1 (show inr x1 by omega) h1 (fun z σ6 D6 N6 F6 A6 c6 s6 X6 S6 E6 hz u0 u1 u2 u3 y0 y1 y2 y3 => ?_)
      have E15 : EQD [(2, 1), (4, 1), (6, 1), (8, 1), (11, 1), (0, 18)] [3, 5, 7, 9, 12, 10, 30] [] [] D N F A D5 N5 F5 A5 := EQD_tr (EQD_sub (by decide) E14) (EQD_sub (by decide) E5)
      have e26 : A5 26 = A3 26 := (E5.2.1 26 (by decide)).trans (E4.2.1 26 (by decide))
      have e25 : F5 25 1 = F3 25 1 := (E5.1 (25, 1) (by decide)).trans (E4.1 (25, 1) (by decide))
      rw [e26, e25] at u0 u1 u2 u3
      rw [e25] at hz
      have hN6 : RWN (rwC F5 A5) (rwC F6 A6) x1 (sc (A3 26) 0 (F3 25 1)) := PUT_N h1 u0 u1 u2 u3 y0 y1 y2 y3
      rw [rwC_e (EQD_sub (by decide) E15)] at hN6
      have e32 : A6 32 = A5 32 := E6.2.1 32 (by decide)
      have hw32 : A4 32 = A 32 := E14.2.1 32 (by decide)
      have e29 : A6 29 = A5 29 := E6.2.1 29 (by decide)
      have hzn : 0 ≤ F3 25 1 := by have w := X3.2.2.2.2.2.2.2.1; unfold INV0 at w; have w := w.2.2.2.2.2.1; omega
      have a10 : A4 10 = A 10 := E14.2.1 10 (by decide)
      have f1 : F4 2 1 = F 2 1 := E14.1 (2, 1) (by decide)
      have hB : A5 32 1 = w32 (A4 32 1 + (if BNA (A4 10) 4 (F4 2 1) < F4 25 1 then 1 else 0)) := hB
      rw [hw32, a10, f1, ← hL, E4.1 (25, 1) (by decide)] at hB
      have hS : STR y (F4 2 1) (sc (A4 28) 0 (F4 27 1)) (sc (A4 3) 0 (F4 2 1)) (A4 32 0) (A5 32 0) := hS
      have hs4 : sc (A4 3) 0 (F4 2 1) = sc (A 3) 0 (F 2 1) := by rw [E14.2.1 3 (by decide), E14.1 (2, 1) (by decide)]
      rw [hw32, hs4, f1] at hS
      rw [q2, ← hL] at hR hN
      have n13 : (N5 29 : Int) = 13 := by have w := X5.2.2.2.2.2.2.2.1; unfold INV0 at w; exact w.2.2.2.2.2.2.2.2.2.2.2.1
      have hpk : A4 199 = A3 199 := pk hj
      have h29 : ∀ i, 0 ≤ i → i < 12 → A6 29 (i + 1) = (frD (A 10) (sc (A 3) 0 (F 2 1)) Dc st0).2.2.2.2 i := fun i p q => by
        rw [e29, hc4 (i + 1) (by omega) (by omega), hpk, show (0 : Int) + (i + 1 - 0) = i + 1 by omega]
        exact (hcn i p q).symm
      have hP : WRB (rwC F A) (rwC F6 A6) x1 4 (sc (A 3) 0 (F 2 1)) (A 10) (paC F A) Dc st0 (F3 25 1) (A 32 0) (A6 32 0) (A 32 1) (A6 32 1) (fun i => A 29 (i + 1)) (fun i => A6 29 (i + 1)) := WRB_y (WRY_H hW (by decide)) hzn hN6 (by rw [e32]; exact hB) (fun _ => ⟨F4 0 17, (RDQ_H (H2 := paC F A) hR (by decide)), by rw [e32, hL]; exact hS⟩) (fun e => absurd e (by decide)) (fun _ => h29) (fun e => absurd rfl e) (fun _ => hN)
      rw [hz]
      exact k (F3 25 1) g4 σ6 D6 N6 F6 A6 c6 s6 X6 (STP_trans (STP_trans (STP_tr0 (STP_trans (STP_tr0 S1 S2) S3) S4) S5) S6) (EQD_tr (EQD_sub (by decide) E15) (EQD_sub (by decide) E6)) (by have w := X3.1.krg 25 1 (by decide +kernel) (show g2 0 = true from X3.2.2.1); exact w) hP
    · rw [hs2, ha2] at hW
      have E13 : EQD [(2, 1), (4, 1), (6, 1), (8, 1), (11, 1), (0, 18)] [3, 5, 7, 9, 12, 10, 29, 30, 32] [] [] D N F A D3 N3 F3 A3 := EQD_tr E12 (EQD_sub (by decide) E3)
      have hP : WRB (rwC F A) (rwC F3 A3) x1 4 (sc (A 3) 0 (F 2 1)) (A 10) (paC F A) Dc st0 z (A 32 0) (A3 32 0) (A 32 1) (A3 32 1) (fun i => A 29 (i + 1)) (fun i => A3 29 (i + 1)) := WRB_n (WRY_H hW (by decide)) (by omega) (by rw [rwC_e (EQD_sub (by decide) E13)]; exact RWS_r) (by rw [E13.2.1 32 (by decide)]) (by rw [E13.2.1 32 (by decide)]) (fun i _ _ => by rw [E13.2.1 29 (by decide)])
      exact k z g2 σ3 D3 N3 F3 A3 c3 s3 X3 (STP_trans (STP_tr0 S1 S2) S3) (EQD_sub (by decide) E13) (by omega) hP
  | true =>
    refine T_wd4d_0 (d := d + 1) hst X2 (hGI.2.2.1 hj) (hGI.2.2.2.1 hj) hj h7 (by rw [d0]; exact l0) l1 l3 (by rw [d4]; exact l4) l5 (show inr x1 by omega) m0 m1 m2 m3 (fun tc236_2 tc236_3 ls σ3 D3 N3 F3 A3 c3 s3 X3 S3 E3 p0 p1 p3 p4 q1 q2 hW hcn => ?_) (fun z σ3 D3 N3 F3 A3 c3 s3 X3 S3 E3 zr hW => ?_)
    · rw [hs2, ha2] at hW hcn
      have E13 : EQD [(2, 1), (4, 1), (6, 1), (8, 1), (11, 1), (0, 18)] [3, 5, 7, 9, 12, 10, 29, 30, 32] [] [] D N F A D3 N3 F3 A3 := EQD_tr E12 (EQD_sub (by decide) E3)
      have q2 : tc236_3 = F 2 1 := q2.trans (E12.1 (2, 1) (by decide))
      obtain rfl : tc236_2 = 4 := q1
      refine w_callk rfl (fun rec => rinvv rfl rfl (X3.1.obj 0 (by decide +kernel) (show g2 0 = true from X3.2.2.1) rfl) rec) rfl (T_ur4_w (d := d + 0) X3 (show 0 ≤ tc236_3 ∧ tc236_3 ≤ 65536 by omega) (fun y g4 σ4 D4 N4 F4 A4 c4 s4 X4 S4 zr hl4 E4 hb hR hC hN pk t0 t1 t2 t3 => ⟨rfl, ?_⟩))
      have d40 : D4 0 = D3 0 := S4.1.2.1
      have d44 : D4 2 = D3 2 := t0
      have E14 : EQD [(2, 1), (4, 1), (6, 1), (8, 1), (11, 1), (0, 18)] [3, 5, 7, 9, 12, 10, 29, 30, 32] [] [] D N F A D4 N4 F4 A4 := EQD_tr E13 (EQD_sub (by decide) E4)
      have m9 : F4 2 1 ≤ 16384 := by rw [E14.1 (2, 1) (by decide)]; exact cf0
      refine T_we4_0 (d := d + 5) X4 (hl4 5 hj) (by rw [d40]; exact p0) p1 p3 (by rw [d44]; exact p4) (show inr x1 by omega) zr m9 (fun ls σ5 D5 N5 F5 A5 c5 s5 X5 S5 E5 v0 v1 hS hB hc4 => ?_) (fun z σ5 D5 N5 F5 A5 c5 s5 X5 S5 E5 q => absurd q (by decide))
      refine T_wg (d := d + 4) X5 v0 v1 (show inr x1 by omega) h1 (fun z σ6 D6 N6 F6 A6 c6 s6 X6 S6 E6 hz u0 u1 u2 u3 y0 y1 y2 y3 => ?_)
      have E15 : EQD [(2, 1), (4, 1), (6, 1), (8, 1), (11, 1), (0, 18)] [3, 5, 7, 9, 12, 10, 30] [] [] D N F A D5 N5 F5 A5 := EQD_tr (EQD_sub (by decide) E14) (EQD_sub (by decide) E5)
      have e26 : A5 26 = A3 26 := (E5.2.1 26 (by decide)).trans (E4.2.1 26 (by decide))
      have e25 : F5 25 1 = F3 25 1 := (E5.1 (25, 1) (by decide)).trans (E4.1 (25, 1) (by decide))
      rw [e26, e25] at u0 u1 u2 u3
      rw [e25] at hz
      have hN6 : RWN (rwC F5 A5) (rwC F6 A6) x1 (sc (A3 26) 0 (F3 25 1)) := PUT_N h1 u0 u1 u2 u3 y0 y1 y2 y3
      rw [rwC_e (EQD_sub (by decide) E15)] at hN6
      have e32 : A6 32 = A5 32 := E6.2.1 32 (by decide)
      have hw32 : A4 32 = A 32 := E14.2.1 32 (by decide)
      have e29 : A6 29 = A5 29 := E6.2.1 29 (by decide)
      have hzn : 0 ≤ F3 25 1 := by have w := X3.2.2.2.2.2.2.2.1; unfold INV0 at w; have w := w.2.2.2.2.2.1; omega
      have a10 : A4 10 = A 10 := E14.2.1 10 (by decide)
      have f1 : F4 2 1 = F 2 1 := E14.1 (2, 1) (by decide)
      have hB : A5 32 1 = w32 (A4 32 1 + (if BNA (A4 10) 4 (F4 2 1) < F4 25 1 then 1 else 0)) := hB
      rw [hw32, a10, f1, ← hL, E4.1 (25, 1) (by decide)] at hB
      have hS : STR y (F4 2 1) (sc (A4 28) 0 (F4 27 1)) (sc (A4 3) 0 (F4 2 1)) (A4 32 0) (A5 32 0) := hS
      have hs4 : sc (A4 3) 0 (F4 2 1) = sc (A 3) 0 (F 2 1) := by rw [E14.2.1 3 (by decide), E14.1 (2, 1) (by decide)]
      rw [hw32, hs4, f1] at hS
      rw [q2, ← hL] at hR hN
      have n13 : (N5 29 : Int) = 13 := by have w := X5.2.2.2.2.2.2.2.1; unfold INV0 at w; exact w.2.2.2.2.2.2.2.2.2.2.2.1
      have hpk : A4 199 = A3 199 := pk hj
      have h29 : ∀ i, 0 ≤ i → i < 12 → A6 29 (i + 1) = (frD (A 10) (sc (A 3) 0 (F 2 1)) Dc st0).2.2.2.2 i := fun i p q => by
        rw [e29, hc4 (i + 1) (by omega) (by omega), hpk, show (0 : Int) + (i + 1 - 0) = i + 1 by omega]
        exact (hcn i p q).symm
      have hP : WRB (rwC F A) (rwC F6 A6) x1 4 (sc (A 3) 0 (F 2 1)) (A 10) (paC F A) Dc st0 (F3 25 1) (A 32 0) (A6 32 0) (A 32 1) (A6 32 1) (fun i => A 29 (i + 1)) (fun i => A6 29 (i + 1)) := WRB_y (WRY_H hW (by decide)) hzn hN6 (by rw [e32]; exact hB) (fun _ => ⟨F4 0 17, (RDQ_H (H2 := paC F A) hR (by decide)), by rw [e32, hL]; exact hS⟩) (fun e => absurd e (by decide)) (fun _ => h29) (fun e => absurd rfl e) (fun _ => hN)
      rw [hz]
      exact k (F3 25 1) g4 σ6 D6 N6 F6 A6 c6 s6 X6 (STP_trans (STP_trans (STP_tr0 (STP_trans (STP_tr0 S1 S2) S3) S4) S5) S6) (EQD_tr (EQD_sub (by decide) E15) (EQD_sub (by decide) E6)) (by have w := X3.1.krg 25 1 (by decide +kernel) (show g2 0 = true from X3.2.2.1); exact w) hP
    · rw [hs2, ha2] at hW
      have E13 : EQD [(2, 1), (4, 1), (6, 1), (8, 1), (11, 1), (0, 18)] [3, 5, 7, 9, 12, 10, 29, 30, 32] [] [] D N F A D3 N3 F3 A3 := EQD_tr E12 (EQD_sub (by decide) E3)
      have hP : WRB (rwC F A) (rwC F3 A3) x1 4 (sc (A 3) 0 (F 2 1)) (A 10) (paC F A) Dc st0 z (A 32 0) (A3 32 0) (A 32 1) (A3 32 1) (fun i => A 29 (i + 1)) (fun i => A3 29 (i + 1)) := WRB_n (WRY_H hW (by decide)) (by omega) (by rw [rwC_e (EQD_sub (by decide) E13)]; exact RWS_r) (by rw [E13.2.1 32 (by decide)]) (by rw [E13.2.1 32 (by decide)]) (fun i _ _ => by rw [E13.2.1 29 (by decide)])
      exact k z g2 σ3 D3 N3 F3 A3 c3 s3 X3 (STP_trans (STP_tr0 S1 S2) S3) (EQD_sub (by decide) E13) (by omega) hP
theorem T_wK4_1 {Dc : DcS} {g : Nat → Bool} {σ : rS} {D N : Nat → Nat} {F : hF} {A : hA} {d c s : Nat} {Q : wQ} {st0 : WSt} (hst : WSD Dc st0) (X : PHI Dc g σ D N F A) {x1 : Int} {ls : rO} (hl0 : rlook ls 0 = some (.ref (D 0))) (hl1 : rlook ls 1 = some (I x1)) (hl3 : rlook ls 3 = some (I (4))) (hl4 : rlook ls 4 = some (.ref (D 4))) (h1 : 0 ≤ x1 ∧ x1 ≤ 3) (cf0 : (F 4 1) ≤ 16384) (cf1 : (F 4 1) + (F 14 1) ≤ 16384) (k : ∀ (z : Int) (gₚ : Nat → Bool) (σₚ : rS) (Dₚ Nₚ : Nat → Nat) (Fₚ : hF) (Aₚ : hA) (cₚ sₚ : Nat), PHI Dc gₚ σₚ Dₚ Nₚ Fₚ Aₚ → STP g σ D N A c s gₚ σₚ Dₚ Nₚ Aₚ cₚ sₚ → EQD [(11, 1), (0, 18)] [12, 10, 30] [] [] D N F A Dₚ Nₚ Fₚ Aₚ → inr z → WRB (rwC F A) (rwC Fₚ Aₚ) x1 4 (sc (A 5) 0 (F 4 1)) (A 10) (paC F A) Dc st0 z (A 32 0) (Aₚ 32 0) (A 32 1) (Aₚ 32 1) (fun i => A 29 (i + 1)) (fun i => Aₚ 29 (i + 1)) → Q (some (I z)) σₚ cₚ sₚ) : Ew 17 (d + 8) 54 ls [] σ c s Q := by
  have hri : 0 ≤ F 4 1 ∧ F 4 1 ≤ 65536 := by have w := X.2.2.2.2.2.2.2.1; unfold INV0 at w; have w := w.2.1; omega
  have hL : ((sc (A 5) 0 (F 4 1)).length : Int) = F 4 1 := scn hri.1
  refine T_wc4_1 (d := d + 7) X hl0 hl1 hl3 hl4 (show inr x1 by omega) cf0 cf1 (fun x5 ls σ1 D1 N1 F1 A1 c1 s1 X1 S1 E1 l0 l1 l3 l4 l5 e0 e1 w0 w1 w5 => ?_) (fun z σ1 D1 N1 F1 A1 c1 s1 X1 S1 E1 q => absurd q (by decide))
  subst w5
  have hg0 : g 0 = true := X1.2.2.1
  refine w_callk rfl (fun rec => rinvv rfl rfl (X1.1.obj 0 (by decide +kernel) (show g 0 = true from X1.2.2.1) rfl) rec) rfl (T_the_pac (d := d + 3) X1 (fun g2 σ2 D2 N2 F2 A2 c2 s2 X2 S2 K2 K0 hj hle => ⟨rfl, ?_⟩))
  have hGI := X2.2.2.2.2.2.2.1
  have m0 : (F2 4 1) ≤ 16384 := by rw [((K2 4 (by decide +kernel) hg0).2 (by decide)).2.2]; exact e0
  have m1 : (F2 4 1) + (F2 14 1) ≤ 16384 := by rw [((K2 4 (by decide +kernel) hg0).2 (by decide)).2.2, ((K2 14 (by decide +kernel) hg0).2 (by decide)).2.2]; exact e1
  have m2 : (F2 25 1) = 0 := by rw [((K2 25 (by decide +kernel) hg0).2 (by decide)).2.2]; exact w0
  have m3 : (F2 25 2) = 0 := by rw [((K2 25 (by decide +kernel) hg0).2 (by decide)).2.2]; exact w1
  have d0 : D2 0 = D1 0 := (K2 0 (by decide +kernel) hg0).1
  have d4 : D2 4 = D1 4 := (K2 4 (by decide +kernel) hg0).1
  have E12 : EQD [(2, 1), (4, 1), (6, 1), (8, 1), (11, 1), (0, 18)] [3, 5, 7, 9, 12, 10, 29, 30, 32] [] [] D N F A D2 N2 F2 A2 := EQD_tr (EQD_sub (by decide) E1) (KEP_EQ K2 K0 hg0 (by decide +kernel))
  have hs2 : sc (A2 5) 0 (F2 4 1) = sc (A 5) 0 (F 4 1) := by rw [E12.2.1 5 (by decide), E12.1 (4, 1) (by decide)]
  have ha2 : A2 10 = A 10 := E12.2.1 10 (by decide)
  cases h7 : g2 7 with
  | false =>
    refine T_wd4n_1 (d := d + 1) hst X2 (hGI.2.2.1 hj) (hGI.2.2.2.1 hj) hj h7 (by rw [d0]; exact l0) l1 l3 (by rw [d4]; exact l4) l5 (show inr x1 by omega) m0 m1 m2 m3 (fun tc236_2 tc236_3 ls σ3 D3 N3 F3 A3 c3 s3 X3 S3 E3 p0 p1 p3 p4 q1 q2 hW hcn => ?_) (fun z σ3 D3 N3 F3 A3 c3 s3 X3 S3 E3 zr hW => ?_)
    · rw [hs2, ha2] at hW hcn
      have E13 : EQD [(2, 1), (4, 1), (6, 1), (8, 1), (11, 1), (0, 18)] [3, 5, 7, 9, 12, 10, 29, 30, 32] [] [] D N F A D3 N3 F3 A3 := EQD_tr E12 (EQD_sub (by decide) E3)
      have q2 : tc236_3 = F 4 1 := q2.trans (E12.1 (4, 1) (by decide))
      obtain rfl : tc236_2 = 4 := q1
      refine w_callk rfl (fun rec => rinvv rfl rfl (X3.1.obj 0 (by decide +kernel) (show g2 0 = true from X3.2.2.1) rfl) rec) rfl (T_ur4_w (d := d + 0) X3 (show 0 ≤ tc236_3 ∧ tc236_3 ≤ 65536 by omega) (fun y g4 σ4 D4 N4 F4 A4 c4 s4 X4 S4 zr hl4 E4 hb hR hC hN pk t0 t1 t2 t3 => ⟨rfl, ?_⟩))
      have d40 : D4 0 = D3 0 := S4.1.2.1
      have d44 : D4 4 = D3 4 := t1
      have E14 : EQD [(2, 1), (4, 1), (6, 1), (8, 1), (11, 1), (0, 18)] [3, 5, 7, 9, 12, 10, 29, 30, 32] [] [] D N F A D4 N4 F4 A4 := EQD_tr E13 (EQD_sub (by decide) E4)
      have m9 : F4 4 1 ≤ 16384 := by rw [E14.1 (4, 1) (by decide)]; exact cf0
      refine T_we4_1 (d := d + 5) X4 (hl4 5 hj) (by rw [d40]; exact p0) p1 p3 (by rw [d44]; exact p4) (show inr x1 by omega) zr m9 (fun ls σ5 D5 N5 F5 A5 c5 s5 X5 S5 E5 v0 v1 hS hB hc4 => ?_) (fun z σ5 D5 N5 F5 A5 c5 s5 X5 S5 E5 q => absurd q (by decide))
      refine T_wg (d := d + 4) X5 v0 v1 (show inr x1 by omega) h1 (fun z σ6 D6 N6 F6 A6 c6 s6 X6 S6 E6 hz u0 u1 u2 u3 y0 y1 y2 y3 => ?_)
      have E15 : EQD [(2, 1), (4, 1), (6, 1), (8, 1), (11, 1), (0, 18)] [3, 5, 7, 9, 12, 10, 30] [] [] D N F A D5 N5 F5 A5 := EQD_tr (EQD_sub (by decide) E14) (EQD_sub (by decide) E5)
      have e26 : A5 26 = A3 26 := (E5.2.1 26 (by decide)).trans (E4.2.1 26 (by decide))
      have e25 : F5 25 1 = F3 25 1 := (E5.1 (25, 1) (by decide)).trans (E4.1 (25, 1) (by decide))
      rw [e26, e25] at u0 u1 u2 u3
      rw [e25] at hz
      have hN6 : RWN (rwC F5 A5) (rwC F6 A6) x1 (sc (A3 26) 0 (F3 25 1)) := PUT_N h1 u0 u1 u2 u3 y0 y1 y2 y3
      rw [rwC_e (EQD_sub (by decide) E15)] at hN6
      have e32 : A6 32 = A5 32 := E6.2.1 32 (by decide)
      have hw32 : A4 32 = A 32 := E14.2.1 32 (by decide)
      have e29 : A6 29 = A5 29 := E6.2.1 29 (by decide)
      have hzn : 0 ≤ F3 25 1 := by have w := X3.2.2.2.2.2.2.2.1; unfold INV0 at w; have w := w.2.2.2.2.2.1; omega
      have a10 : A4 10 = A 10 := E14.2.1 10 (by decide)
      have f1 : F4 4 1 = F 4 1 := E14.1 (4, 1) (by decide)
      have hB : A5 32 1 = w32 (A4 32 1 + (if BNA (A4 10) 4 (F4 4 1) < F4 25 1 then 1 else 0)) := hB
      rw [hw32, a10, f1, ← hL, E4.1 (25, 1) (by decide)] at hB
      have hS : STR y (F4 4 1) (sc (A4 28) 0 (F4 27 1)) (sc (A4 5) 0 (F4 4 1)) (A4 32 0) (A5 32 0) := hS
      have hs4 : sc (A4 5) 0 (F4 4 1) = sc (A 5) 0 (F 4 1) := by rw [E14.2.1 5 (by decide), E14.1 (4, 1) (by decide)]
      rw [hw32, hs4, f1] at hS
      rw [q2, ← hL] at hR hN
      have n13 : (N5 29 : Int) = 13 := by have w := X5.2.2.2.2.2.2.2.1; unfold INV0 at w; exact w.2.2.2.2.2.2.2.2.2.2.2.1
      have hpk : A4 199 = A3 199 := pk hj
      have h29 : ∀ i, 0 ≤ i → i < 12 → A6 29 (i + 1) = (frD (A 10) (sc (A 5) 0 (F 4 1)) Dc st0).2.2.2.2 i := fun i p q => by
        rw [e29, hc4 (i + 1) (by omega) (by omega), hpk, show (0 : Int) + (i + 1 - 0) = i + 1 by omega]
        exact (hcn i p q).symm
      have hP : WRB (rwC F A) (rwC F6 A6) x1 4 (sc (A 5) 0 (F 4 1)) (A 10) (paC F A) Dc st0 (F3 25 1) (A 32 0) (A6 32 0) (A 32 1) (A6 32 1) (fun i => A 29 (i + 1)) (fun i => A6 29 (i + 1)) := WRB_y (WRY_H hW (by decide)) hzn hN6 (by rw [e32]; exact hB) (fun _ => ⟨F4 0 17, (RDQ_H (H2 := paC F A) hR (by decide)), by rw [e32, hL]; exact hS⟩) (fun e => absurd e (by decide)) (fun _ => h29) (fun e => absurd rfl e) (fun _ => hN)
      rw [hz]
      exact k (F3 25 1) g4 σ6 D6 N6 F6 A6 c6 s6 X6 (STP_trans (STP_trans (STP_tr0 (STP_trans (STP_tr0 S1 S2) S3) S4) S5) S6) (EQD_tr (EQD_sub (by decide) E15) (EQD_sub (by decide) E6)) (by have w := X3.1.krg 25 1 (by decide +kernel) (show g2 0 = true from X3.2.2.1); exact w) hP
    · rw [hs2, ha2] at hW
      have E13 : EQD [(2, 1), (4, 1), (6, 1), (8, 1), (11, 1), (0, 18)] [3, 5, 7, 9, 12, 10, 29, 30, 32] [] [] D N F A D3 N3 F3 A3 := EQD_tr E12 (EQD_sub (by decide) E3)
      have hP : WRB (rwC F A) (rwC F3 A3) x1 4 (sc (A 5) 0 (F 4 1)) (A 10) (paC F A) Dc st0 z (A 32 0) (A3 32 0) (A 32 1) (A3 32 1) (fun i => A 29 (i + 1)) (fun i => A3 29 (i + 1)) := WRB_n (WRY_H hW (by decide)) (by omega) (by rw [rwC_e (EQD_sub (by decide) E13)]; exact RWS_r) (by rw [E13.2.1 32 (by decide)]) (by rw [E13.2.1 32 (by decide)]) (fun i _ _ => by rw [E13.2.1 29 (by decide)])
      exact k z g2 σ3 D3 N3 F3 A3 c3 s3 X3 (STP_trans (STP_tr0 S1 S2) S3) (EQD_sub (by decide) E13) (by omega) hP
  | true =>
    refine T_wd4d_1 (d := d + 1) hst X2 (hGI.2.2.1 hj) (hGI.2.2.2.1 hj) hj h7 (by rw [d0]; exact l0) l1 l3 (by rw [d4]; exact l4) l5 (show inr x1 by omega) m0 m1 m2 m3 (fun tc236_2 tc236_3 ls σ3 D3 N3 F3 A3 c3 s3 X3 S3 E3 p0 p1 p3 p4 q1 q2 hW hcn => ?_) (fun z σ3 D3 N3 F3 A3 c3 s3 X3 S3 E3 zr hW => ?_)
    · rw [hs2, ha2] at hW hcn
      have E13 : EQD [(2, 1), (4, 1), (6, 1), (8, 1), (11, 1), (0, 18)] [3, 5, 7, 9, 12, 10, 29, 30, 32] [] [] D N F A D3 N3 F3 A3 := EQD_tr E12 (EQD_sub (by decide) E3)
      have q2 : tc236_3 = F 4 1 := q2.trans (E12.1 (4, 1) (by decide))
      obtain rfl : tc236_2 = 4 := q1
      refine w_callk rfl (fun rec => rinvv rfl rfl (X3.1.obj 0 (by decide +kernel) (show g2 0 = true from X3.2.2.1) rfl) rec) rfl (T_ur4_w (d := d + 0) X3 (show 0 ≤ tc236_3 ∧ tc236_3 ≤ 65536 by omega) (fun y g4 σ4 D4 N4 F4 A4 c4 s4 X4 S4 zr hl4 E4 hb hR hC hN pk t0 t1 t2 t3 => ⟨rfl, ?_⟩))
      have d40 : D4 0 = D3 0 := S4.1.2.1
      have d44 : D4 4 = D3 4 := t1
      have E14 : EQD [(2, 1), (4, 1), (6, 1), (8, 1), (11, 1), (0, 18)] [3, 5, 7, 9, 12, 10, 29, 30, 32] [] [] D N F A D4 N4 F4 A4 := EQD_tr E13 (EQD_sub (by decide) E4)
      have m9 : F4 4 1 ≤ 16384 := by rw [E14.1 (4, 1) (by decide)]; exact cf0
      refine T_we4_1 (d := d + 5) X4 (hl4 5 hj) (by rw [d40]; exact p0) p1 p3 (by rw [d44]; exact p4) (show inr x1 by omega) zr m9 (fun ls σ5 D5 N5 F5 A5 c5 s5 X5 S5 E5 v0 v1 hS hB hc4 => ?_) (fun z σ5 D5 N5 F5 A5 c5 s5 X5 S5 E5 q => absurd q (by decide))
      refine T_wg (d := d + 4) X5 v0 v1 (show inr x1 by omega) h1 (fun z σ6 D6 N6 F6 A6 c6 s6 X6 S6 E6 hz u0 u1 u2 u3 y0 y1 y2 y3 => ?_)
      have E15 : EQD [(2, 1), (4, 1), (6, 1), (8, 1), (11, 1), (0, 18)] [3, 5, 7, 9, 12, 10, 30] [] [] D N F A D5 N5 F5 A5 := EQD_tr (EQD_sub (by decide) E14) (EQD_sub (by decide) E5)
      have e26 : A5 26 = A3 26 := (E5.2.1 26 (by decide)).trans (E4.2.1 26 (by decide))
      have e25 : F5 25 1 = F3 25 1 := (E5.1 (25, 1) (by decide)).trans (E4.1 (25, 1) (by decide))
      rw [e26, e25] at u0 u1 u2 u3
      rw [e25] at hz
      have hN6 : RWN (rwC F5 A5) (rwC F6 A6) x1 (sc (A3 26) 0 (F3 25 1)) := PUT_N h1 u0 u1 u2 u3 y0 y1 y2 y3
      rw [rwC_e (EQD_sub (by decide) E15)] at hN6
      have e32 : A6 32 = A5 32 := E6.2.1 32 (by decide)
      have hw32 : A4 32 = A 32 := E14.2.1 32 (by decide)
      have e29 : A6 29 = A5 29 := E6.2.1 29 (by decide)
      have hzn : 0 ≤ F3 25 1 := by have w := X3.2.2.2.2.2.2.2.1; unfold INV0 at w; have w := w.2.2.2.2.2.1; omega
      have a10 : A4 10 = A 10 := E14.2.1 10 (by decide)
      have f1 : F4 4 1 = F 4 1 := E14.1 (4, 1) (by decide)
      have hB : A5 32 1 = w32 (A4 32 1 + (if BNA (A4 10) 4 (F4 4 1) < F4 25 1 then 1 else 0)) := hB
      rw [hw32, a10, f1, ← hL, E4.1 (25, 1) (by decide)] at hB
      have hS : STR y (F4 4 1) (sc (A4 28) 0 (F4 27 1)) (sc (A4 5) 0 (F4 4 1)) (A4 32 0) (A5 32 0) := hS
      have hs4 : sc (A4 5) 0 (F4 4 1) = sc (A 5) 0 (F 4 1) := by rw [E14.2.1 5 (by decide), E14.1 (4, 1) (by decide)]
      rw [hw32, hs4, f1] at hS
      rw [q2, ← hL] at hR hN
      have n13 : (N5 29 : Int) = 13 := by have w := X5.2.2.2.2.2.2.2.1; unfold INV0 at w; exact w.2.2.2.2.2.2.2.2.2.2.2.1
      have hpk : A4 199 = A3 199 := pk hj
      have h29 : ∀ i, 0 ≤ i → i < 12 → A6 29 (i + 1) = (frD (A 10) (sc (A 5) 0 (F 4 1)) Dc st0).2.2.2.2 i := fun i p q => by
        rw [e29, hc4 (i + 1) (by omega) (by omega), hpk, show (0 : Int) + (i + 1 - 0) = i + 1 by omega]
        exact (hcn i p q).symm
      have hP : WRB (rwC F A) (rwC F6 A6) x1 4 (sc (A 5) 0 (F 4 1)) (A 10) (paC F A) Dc st0 (F3 25 1) (A 32 0) (A6 32 0) (A 32 1) (A6 32 1) (fun i => A 29 (i + 1)) (fun i => A6 29 (i + 1)) := WRB_y (WRY_H hW (by decide)) hzn hN6 (by rw [e32]; exact hB) (fun _ => ⟨F4 0 17, (RDQ_H (H2 := paC F A) hR (by decide)), by rw [e32, hL]; exact hS⟩) (fun e => absurd e (by decide)) (fun _ => h29) (fun e => absurd rfl e) (fun _ => hN)
      rw [hz]
      exact k (F3 25 1) g4 σ6 D6 N6 F6 A6 c6 s6 X6 (STP_trans (STP_trans (STP_tr0 (STP_trans (STP_tr0 S1 S2) S3) S4) S5) S6) (EQD_tr (EQD_sub (by decide) E15) (EQD_sub (by decide) E6)) (by have w := X3.1.krg 25 1 (by decide +kernel) (show g2 0 = true from X3.2.2.1); exact w) hP
    · rw [hs2, ha2] at hW
      have E13 : EQD [(2, 1), (4, 1), (6, 1), (8, 1), (11, 1), (0, 18)] [3, 5, 7, 9, 12, 10, 29, 30, 32] [] [] D N F A D3 N3 F3 A3 := EQD_tr E12 (EQD_sub (by decide) E3)
      have hP : WRB (rwC F A) (rwC F3 A3) x1 4 (sc (A 5) 0 (F 4 1)) (A 10) (paC F A) Dc st0 z (A 32 0) (A3 32 0) (A 32 1) (A3 32 1) (fun i => A 29 (i + 1)) (fun i => A3 29 (i + 1)) := WRB_n (WRY_H hW (by decide)) (by omega) (by rw [rwC_e (EQD_sub (by decide) E13)]; exact RWS_r) (by rw [E13.2.1 32 (by decide)]) (by rw [E13.2.1 32 (by decide)]) (fun i _ _ => by rw [E13.2.1 29 (by decide)])
      exact k z g2 σ3 D3 N3 F3 A3 c3 s3 X3 (STP_trans (STP_tr0 S1 S2) S3) (EQD_sub (by decide) E13) (by omega) hP
theorem T_wK4_2 {Dc : DcS} {g : Nat → Bool} {σ : rS} {D N : Nat → Nat} {F : hF} {A : hA} {d c s : Nat} {Q : wQ} {st0 : WSt} (hst : WSD Dc st0) (X : PHI Dc g σ D N F A) {x1 : Int} {ls : rO} (hl0 : rlook ls 0 = some (.ref (D 0))) (hl1 : rlook ls 1 = some (I x1)) (hl3 : rlook ls 3 = some (I (4))) (hl4 : rlook ls 4 = some (.ref (D 6))) (h1 : 0 ≤ x1 ∧ x1 ≤ 3) (cf0 : (F 6 1) ≤ 16384) (cf1 : (F 6 1) + (F 14 1) ≤ 16384) (k : ∀ (z : Int) (gₚ : Nat → Bool) (σₚ : rS) (Dₚ Nₚ : Nat → Nat) (Fₚ : hF) (Aₚ : hA) (cₚ sₚ : Nat), PHI Dc gₚ σₚ Dₚ Nₚ Fₚ Aₚ → STP g σ D N A c s gₚ σₚ Dₚ Nₚ Aₚ cₚ sₚ → EQD [(11, 1), (0, 18)] [12, 10, 30] [] [] D N F A Dₚ Nₚ Fₚ Aₚ → inr z → WRB (rwC F A) (rwC Fₚ Aₚ) x1 4 (sc (A 7) 0 (F 6 1)) (A 10) (paC F A) Dc st0 z (A 32 0) (Aₚ 32 0) (A 32 1) (Aₚ 32 1) (fun i => A 29 (i + 1)) (fun i => Aₚ 29 (i + 1)) → Q (some (I z)) σₚ cₚ sₚ) : Ew 17 (d + 8) 54 ls [] σ c s Q := by
  have hri : 0 ≤ F 6 1 ∧ F 6 1 ≤ 65536 := by have w := X.2.2.2.2.2.2.2.1; unfold INV0 at w; have w := w.2.2.1; omega
  have hL : ((sc (A 7) 0 (F 6 1)).length : Int) = F 6 1 := scn hri.1
  refine T_wc4_2 (d := d + 7) X hl0 hl1 hl3 hl4 (show inr x1 by omega) cf0 cf1 (fun x5 ls σ1 D1 N1 F1 A1 c1 s1 X1 S1 E1 l0 l1 l3 l4 l5 e0 e1 w0 w1 w5 => ?_) (fun z σ1 D1 N1 F1 A1 c1 s1 X1 S1 E1 q => absurd q (by decide))
  subst w5
  have hg0 : g 0 = true := X1.2.2.1
  refine w_callk rfl (fun rec => rinvv rfl rfl (X1.1.obj 0 (by decide +kernel) (show g 0 = true from X1.2.2.1) rfl) rec) rfl (T_the_pac (d := d + 3) X1 (fun g2 σ2 D2 N2 F2 A2 c2 s2 X2 S2 K2 K0 hj hle => ⟨rfl, ?_⟩))
  have hGI := X2.2.2.2.2.2.2.1
  have m0 : (F2 6 1) ≤ 16384 := by rw [((K2 6 (by decide +kernel) hg0).2 (by decide)).2.2]; exact e0
  have m1 : (F2 6 1) + (F2 14 1) ≤ 16384 := by rw [((K2 6 (by decide +kernel) hg0).2 (by decide)).2.2, ((K2 14 (by decide +kernel) hg0).2 (by decide)).2.2]; exact e1
  have m2 : (F2 25 1) = 0 := by rw [((K2 25 (by decide +kernel) hg0).2 (by decide)).2.2]; exact w0
  have m3 : (F2 25 2) = 0 := by rw [((K2 25 (by decide +kernel) hg0).2 (by decide)).2.2]; exact w1
  have d0 : D2 0 = D1 0 := (K2 0 (by decide +kernel) hg0).1
  have d4 : D2 6 = D1 6 := (K2 6 (by decide +kernel) hg0).1
  have E12 : EQD [(2, 1), (4, 1), (6, 1), (8, 1), (11, 1), (0, 18)] [3, 5, 7, 9, 12, 10, 29, 30, 32] [] [] D N F A D2 N2 F2 A2 := EQD_tr (EQD_sub (by decide) E1) (KEP_EQ K2 K0 hg0 (by decide +kernel))
  have hs2 : sc (A2 7) 0 (F2 6 1) = sc (A 7) 0 (F 6 1) := by rw [E12.2.1 7 (by decide), E12.1 (6, 1) (by decide)]
  have ha2 : A2 10 = A 10 := E12.2.1 10 (by decide)
  cases h7 : g2 7 with
  | false =>
    refine T_wd4n_2 (d := d + 1) hst X2 (hGI.2.2.1 hj) (hGI.2.2.2.1 hj) hj h7 (by rw [d0]; exact l0) l1 l3 (by rw [d4]; exact l4) l5 (show inr x1 by omega) m0 m1 m2 m3 (fun tc236_2 tc236_3 ls σ3 D3 N3 F3 A3 c3 s3 X3 S3 E3 p0 p1 p3 p4 q1 q2 hW hcn => ?_) (fun z σ3 D3 N3 F3 A3 c3 s3 X3 S3 E3 zr hW => ?_)
    · rw [hs2, ha2] at hW hcn
      have E13 : EQD [(2, 1), (4, 1), (6, 1), (8, 1), (11, 1), (0, 18)] [3, 5, 7, 9, 12, 10, 29, 30, 32] [] [] D N F A D3 N3 F3 A3 := EQD_tr E12 (EQD_sub (by decide) E3)
      have q2 : tc236_3 = F 6 1 := q2.trans (E12.1 (6, 1) (by decide))
      obtain rfl : tc236_2 = 4 := q1
      refine w_callk rfl (fun rec => rinvv rfl rfl (X3.1.obj 0 (by decide +kernel) (show g2 0 = true from X3.2.2.1) rfl) rec) rfl (T_ur4_w (d := d + 0) X3 (show 0 ≤ tc236_3 ∧ tc236_3 ≤ 65536 by omega) (fun y g4 σ4 D4 N4 F4 A4 c4 s4 X4 S4 zr hl4 E4 hb hR hC hN pk t0 t1 t2 t3 => ⟨rfl, ?_⟩))
      have d40 : D4 0 = D3 0 := S4.1.2.1
      have d44 : D4 6 = D3 6 := t2
      have E14 : EQD [(2, 1), (4, 1), (6, 1), (8, 1), (11, 1), (0, 18)] [3, 5, 7, 9, 12, 10, 29, 30, 32] [] [] D N F A D4 N4 F4 A4 := EQD_tr E13 (EQD_sub (by decide) E4)
      have m9 : F4 6 1 ≤ 16384 := by rw [E14.1 (6, 1) (by decide)]; exact cf0
      refine T_we4_2 (d := d + 5) X4 (hl4 5 hj) (by rw [d40]; exact p0) p1 p3 (by rw [d44]; exact p4) (show inr x1 by omega) zr m9 (fun ls σ5 D5 N5 F5 A5 c5 s5 X5 S5 E5 v0 v1 hS hB hc4 => ?_) (fun z σ5 D5 N5 F5 A5 c5 s5 X5 S5 E5 q => absurd q (by decide))
      refine T_wg (d := d + 4) X5 v0 v1 (show inr x1 by omega) h1 (fun z σ6 D6 N6 F6 A6 c6 s6 X6 S6 E6 hz u0 u1 u2 u3 y0 y1 y2 y3 => ?_)
      have E15 : EQD [(2, 1), (4, 1), (6, 1), (8, 1), (11, 1), (0, 18)] [3, 5, 7, 9, 12, 10, 30] [] [] D N F A D5 N5 F5 A5 := EQD_tr (EQD_sub (by decide) E14) (EQD_sub (by decide) E5)
      have e26 : A5 26 = A3 26 := (E5.2.1 26 (by decide)).trans (E4.2.1 26 (by decide))
      have e25 : F5 25 1 = F3 25 1 := (E5.1 (25, 1) (by decide)).trans (E4.1 (25, 1) (by decide))
      rw [e26, e25] at u0 u1 u2 u3
      rw [e25] at hz
      have hN6 : RWN (rwC F5 A5) (rwC F6 A6) x1 (sc (A3 26) 0 (F3 25 1)) := PUT_N h1 u0 u1 u2 u3 y0 y1 y2 y3
      rw [rwC_e (EQD_sub (by decide) E15)] at hN6
      have e32 : A6 32 = A5 32 := E6.2.1 32 (by decide)
      have hw32 : A4 32 = A 32 := E14.2.1 32 (by decide)
      have e29 : A6 29 = A5 29 := E6.2.1 29 (by decide)
      have hzn : 0 ≤ F3 25 1 := by have w := X3.2.2.2.2.2.2.2.1; unfold INV0 at w; have w := w.2.2.2.2.2.1; omega
      have a10 : A4 10 = A 10 := E14.2.1 10 (by decide)
      have f1 : F4 6 1 = F 6 1 := E14.1 (6, 1) (by decide)
      have hB : A5 32 1 = w32 (A4 32 1 + (if BNA (A4 10) 4 (F4 6 1) < F4 25 1 then 1 else 0)) := hB
      rw [hw32, a10, f1, ← hL, E4.1 (25, 1) (by decide)] at hB
      have hS : STR y (F4 6 1) (sc (A4 28) 0 (F4 27 1)) (sc (A4 7) 0 (F4 6 1)) (A4 32 0) (A5 32 0) := hS
      have hs4 : sc (A4 7) 0 (F4 6 1) = sc (A 7) 0 (F 6 1) := by rw [E14.2.1 7 (by decide), E14.1 (6, 1) (by decide)]
      rw [hw32, hs4, f1] at hS
      rw [q2, ← hL] at hR hN
      have n13 : (N5 29 : Int) = 13 := by have w := X5.2.2.2.2.2.2.2.1; unfold INV0 at w; exact w.2.2.2.2.2.2.2.2.2.2.2.1
      have hpk : A4 199 = A3 199 := pk hj
      have h29 : ∀ i, 0 ≤ i → i < 12 → A6 29 (i + 1) = (frD (A 10) (sc (A 7) 0 (F 6 1)) Dc st0).2.2.2.2 i := fun i p q => by
        rw [e29, hc4 (i + 1) (by omega) (by omega), hpk, show (0 : Int) + (i + 1 - 0) = i + 1 by omega]
        exact (hcn i p q).symm
      have hP : WRB (rwC F A) (rwC F6 A6) x1 4 (sc (A 7) 0 (F 6 1)) (A 10) (paC F A) Dc st0 (F3 25 1) (A 32 0) (A6 32 0) (A 32 1) (A6 32 1) (fun i => A 29 (i + 1)) (fun i => A6 29 (i + 1)) := WRB_y (WRY_H hW (by decide)) hzn hN6 (by rw [e32]; exact hB) (fun _ => ⟨F4 0 17, (RDQ_H (H2 := paC F A) hR (by decide)), by rw [e32, hL]; exact hS⟩) (fun e => absurd e (by decide)) (fun _ => h29) (fun e => absurd rfl e) (fun _ => hN)
      rw [hz]
      exact k (F3 25 1) g4 σ6 D6 N6 F6 A6 c6 s6 X6 (STP_trans (STP_trans (STP_tr0 (STP_trans (STP_tr0 S1 S2) S3) S4) S5) S6) (EQD_tr (EQD_sub (by decide) E15) (EQD_sub (by decide) E6)) (by have w := X3.1.krg 25 1 (by decide +kernel) (show g2 0 = true from X3.2.2.1); exact w) hP
    · rw [hs2, ha2] at hW
      have E13 : EQD [(2, 1), (4, 1), (6, 1), (8, 1), (11, 1), (0, 18)] [3, 5, 7, 9, 12, 10, 29, 30, 32] [] [] D N F A D3 N3 F3 A3 := EQD_tr E12 (EQD_sub (by decide) E3)
      have hP : WRB (rwC F A) (rwC F3 A3) x1 4 (sc (A 7) 0 (F 6 1)) (A 10) (paC F A) Dc st0 z (A 32 0) (A3 32 0) (A 32 1) (A3 32 1) (fun i => A 29 (i + 1)) (fun i => A3 29 (i + 1)) := WRB_n (WRY_H hW (by decide)) (by omega) (by rw [rwC_e (EQD_sub (by decide) E13)]; exact RWS_r) (by rw [E13.2.1 32 (by decide)]) (by rw [E13.2.1 32 (by decide)]) (fun i _ _ => by rw [E13.2.1 29 (by decide)])
      exact k z g2 σ3 D3 N3 F3 A3 c3 s3 X3 (STP_trans (STP_tr0 S1 S2) S3) (EQD_sub (by decide) E13) (by omega) hP
  | true =>
    refine T_wd4d_2 (d := d + 1) hst X2 (hGI.2.2.1 hj) (hGI.2.2.2.1 hj) hj h7 (by rw [d0]; exact l0) l1 l3 (by rw [d4]; exact l4) l5 (show inr x1 by omega) m0 m1 m2 m3 (fun tc236_2 tc236_3 ls σ3 D3 N3 F3 A3 c3 s3 X3 S3 E3 p0 p1 p3 p4 q1 q2 hW hcn => ?_) (fun z σ3 D3 N3 F3 A3 c3 s3 X3 S3 E3 zr hW => ?_)
    · rw [hs2, ha2] at hW hcn
      have E13 : EQD [(2, 1), (4, 1), (6, 1), (8, 1), (11, 1), (0, 18)] [3, 5, 7, 9, 12, 10, 29, 30, 32] [] [] D N F A D3 N3 F3 A3 := EQD_tr E12 (EQD_sub (by decide) E3)
      have q2 : tc236_3 = F 6 1 := q2.trans (E12.1 (6, 1) (by decide))
      obtain rfl : tc236_2 = 4 := q1
      refine w_callk rfl (fun rec => rinvv rfl rfl (X3.1.obj 0 (by decide +kernel) (show g2 0 = true from X3.2.2.1) rfl) rec) rfl (T_ur4_w (d := d + 0) X3 (show 0 ≤ tc236_3 ∧ tc236_3 ≤ 65536 by omega) (fun y g4 σ4 D4 N4 F4 A4 c4 s4 X4 S4 zr hl4 E4 hb hR hC hN pk t0 t1 t2 t3 => ⟨rfl, ?_⟩))
      have d40 : D4 0 = D3 0 := S4.1.2.1
      have d44 : D4 6 = D3 6 := t2
      have E14 : EQD [(2, 1), (4, 1), (6, 1), (8, 1), (11, 1), (0, 18)] [3, 5, 7, 9, 12, 10, 29, 30, 32] [] [] D N F A D4 N4 F4 A4 := EQD_tr E13 (EQD_sub (by decide) E4)
      have m9 : F4 6 1 ≤ 16384 := by rw [E14.1 (6, 1) (by decide)]; exact cf0
      refine T_we4_2 (d := d + 5) X4 (hl4 5 hj) (by rw [d40]; exact p0) p1 p3 (by rw [d44]; exact p4) (show inr x1 by omega) zr m9 (fun ls σ5 D5 N5 F5 A5 c5 s5 X5 S5 E5 v0 v1 hS hB hc4 => ?_) (fun z σ5 D5 N5 F5 A5 c5 s5 X5 S5 E5 q => absurd q (by decide))
      refine T_wg (d := d + 4) X5 v0 v1 (show inr x1 by omega) h1 (fun z σ6 D6 N6 F6 A6 c6 s6 X6 S6 E6 hz u0 u1 u2 u3 y0 y1 y2 y3 => ?_)
      have E15 : EQD [(2, 1), (4, 1), (6, 1), (8, 1), (11, 1), (0, 18)] [3, 5, 7, 9, 12, 10, 30] [] [] D N F A D5 N5 F5 A5 := EQD_tr (EQD_sub (by decide) E14) (EQD_sub (by decide) E5)
      have e26 : A5 26 = A3 26 := (E5.2.1 26 (by decide)).trans (E4.2.1 26 (by decide))
      have e25 : F5 25 1 = F3 25 1 := (E5.1 (25, 1) (by decide)).trans (E4.1 (25, 1) (by decide))
      rw [e26, e25] at u0 u1 u2 u3
      rw [e25] at hz
      have hN6 : RWN (rwC F5 A5) (rwC F6 A6) x1 (sc (A3 26) 0 (F3 25 1)) := PUT_N h1 u0 u1 u2 u3 y0 y1 y2 y3
      rw [rwC_e (EQD_sub (by decide) E15)] at hN6
      have e32 : A6 32 = A5 32 := E6.2.1 32 (by decide)
      have hw32 : A4 32 = A 32 := E14.2.1 32 (by decide)
      have e29 : A6 29 = A5 29 := E6.2.1 29 (by decide)
      have hzn : 0 ≤ F3 25 1 := by have w := X3.2.2.2.2.2.2.2.1; unfold INV0 at w; have w := w.2.2.2.2.2.1; omega
      have a10 : A4 10 = A 10 := E14.2.1 10 (by decide)
      have f1 : F4 6 1 = F 6 1 := E14.1 (6, 1) (by decide)
      have hB : A5 32 1 = w32 (A4 32 1 + (if BNA (A4 10) 4 (F4 6 1) < F4 25 1 then 1 else 0)) := hB
      rw [hw32, a10, f1, ← hL, E4.1 (25, 1) (by decide)] at hB
      have hS : STR y (F4 6 1) (sc (A4 28) 0 (F4 27 1)) (sc (A4 7) 0 (F4 6 1)) (A4 32 0) (A5 32 0) := hS
      have hs4 : sc (A4 7) 0 (F4 6 1) = sc (A 7) 0 (F 6 1) := by rw [E14.2.1 7 (by decide), E14.1 (6, 1) (by decide)]
      rw [hw32, hs4, f1] at hS
      rw [q2, ← hL] at hR hN
      have n13 : (N5 29 : Int) = 13 := by have w := X5.2.2.2.2.2.2.2.1; unfold INV0 at w; exact w.2.2.2.2.2.2.2.2.2.2.2.1
      have hpk : A4 199 = A3 199 := pk hj
      have h29 : ∀ i, 0 ≤ i → i < 12 → A6 29 (i + 1) = (frD (A 10) (sc (A 7) 0 (F 6 1)) Dc st0).2.2.2.2 i := fun i p q => by
        rw [e29, hc4 (i + 1) (by omega) (by omega), hpk, show (0 : Int) + (i + 1 - 0) = i + 1 by omega]
        exact (hcn i p q).symm
      have hP : WRB (rwC F A) (rwC F6 A6) x1 4 (sc (A 7) 0 (F 6 1)) (A 10) (paC F A) Dc st0 (F3 25 1) (A 32 0) (A6 32 0) (A 32 1) (A6 32 1) (fun i => A 29 (i + 1)) (fun i => A6 29 (i + 1)) := WRB_y (WRY_H hW (by decide)) hzn hN6 (by rw [e32]; exact hB) (fun _ => ⟨F4 0 17, (RDQ_H (H2 := paC F A) hR (by decide)), by rw [e32, hL]; exact hS⟩) (fun e => absurd e (by decide)) (fun _ => h29) (fun e => absurd rfl e) (fun _ => hN)
      rw [hz]
      exact k (F3 25 1) g4 σ6 D6 N6 F6 A6 c6 s6 X6 (STP_trans (STP_trans (STP_tr0 (STP_trans (STP_tr0 S1 S2) S3) S4) S5) S6) (EQD_tr (EQD_sub (by decide) E15) (EQD_sub (by decide) E6)) (by have w := X3.1.krg 25 1 (by decide +kernel) (show g2 0 = true from X3.2.2.1); exact w) hP
    · rw [hs2, ha2] at hW
      have E13 : EQD [(2, 1), (4, 1), (6, 1), (8, 1), (11, 1), (0, 18)] [3, 5, 7, 9, 12, 10, 29, 30, 32] [] [] D N F A D3 N3 F3 A3 := EQD_tr E12 (EQD_sub (by decide) E3)
      have hP : WRB (rwC F A) (rwC F3 A3) x1 4 (sc (A 7) 0 (F 6 1)) (A 10) (paC F A) Dc st0 z (A 32 0) (A3 32 0) (A 32 1) (A3 32 1) (fun i => A 29 (i + 1)) (fun i => A3 29 (i + 1)) := WRB_n (WRY_H hW (by decide)) (by omega) (by rw [rwC_e (EQD_sub (by decide) E13)]; exact RWS_r) (by rw [E13.2.1 32 (by decide)]) (by rw [E13.2.1 32 (by decide)]) (fun i _ _ => by rw [E13.2.1 29 (by decide)])
      exact k z g2 σ3 D3 N3 F3 A3 c3 s3 X3 (STP_trans (STP_tr0 S1 S2) S3) (EQD_sub (by decide) E13) (by omega) hP
theorem T_wK4_3 {Dc : DcS} {g : Nat → Bool} {σ : rS} {D N : Nat → Nat} {F : hF} {A : hA} {d c s : Nat} {Q : wQ} {st0 : WSt} (hst : WSD Dc st0) (X : PHI Dc g σ D N F A) {x1 : Int} {ls : rO} (hl0 : rlook ls 0 = some (.ref (D 0))) (hl1 : rlook ls 1 = some (I x1)) (hl3 : rlook ls 3 = some (I (4))) (hl4 : rlook ls 4 = some (.ref (D 8))) (h1 : 0 ≤ x1 ∧ x1 ≤ 3) (cf0 : (F 8 1) ≤ 16384) (cf1 : (F 8 1) + (F 14 1) ≤ 16384) (k : ∀ (z : Int) (gₚ : Nat → Bool) (σₚ : rS) (Dₚ Nₚ : Nat → Nat) (Fₚ : hF) (Aₚ : hA) (cₚ sₚ : Nat), PHI Dc gₚ σₚ Dₚ Nₚ Fₚ Aₚ → STP g σ D N A c s gₚ σₚ Dₚ Nₚ Aₚ cₚ sₚ → EQD [(11, 1), (0, 18)] [12, 10, 30] [] [] D N F A Dₚ Nₚ Fₚ Aₚ → inr z → WRB (rwC F A) (rwC Fₚ Aₚ) x1 4 (sc (A 9) 0 (F 8 1)) (A 10) (paC F A) Dc st0 z (A 32 0) (Aₚ 32 0) (A 32 1) (Aₚ 32 1) (fun i => A 29 (i + 1)) (fun i => Aₚ 29 (i + 1)) → Q (some (I z)) σₚ cₚ sₚ) : Ew 17 (d + 8) 54 ls [] σ c s Q := by
  have hri : 0 ≤ F 8 1 ∧ F 8 1 ≤ 65536 := by have w := X.2.2.2.2.2.2.2.1; unfold INV0 at w; have w := w.2.2.2.1; omega
  have hL : ((sc (A 9) 0 (F 8 1)).length : Int) = F 8 1 := scn hri.1
  refine T_wc4_3 (d := d + 7) X hl0 hl1 hl3 hl4 (show inr x1 by omega) cf0 cf1 (fun x5 ls σ1 D1 N1 F1 A1 c1 s1 X1 S1 E1 l0 l1 l3 l4 l5 e0 e1 w0 w1 w5 => ?_) (fun z σ1 D1 N1 F1 A1 c1 s1 X1 S1 E1 q => absurd q (by decide))
  subst w5
  have hg0 : g 0 = true := X1.2.2.1
  refine w_callk rfl (fun rec => rinvv rfl rfl (X1.1.obj 0 (by decide +kernel) (show g 0 = true from X1.2.2.1) rfl) rec) rfl (T_the_pac (d := d + 3) X1 (fun g2 σ2 D2 N2 F2 A2 c2 s2 X2 S2 K2 K0 hj hle => ⟨rfl, ?_⟩))
  have hGI := X2.2.2.2.2.2.2.1
  have m0 : (F2 8 1) ≤ 16384 := by rw [((K2 8 (by decide +kernel) hg0).2 (by decide)).2.2]; exact e0
  have m1 : (F2 8 1) + (F2 14 1) ≤ 16384 := by rw [((K2 8 (by decide +kernel) hg0).2 (by decide)).2.2, ((K2 14 (by decide +kernel) hg0).2 (by decide)).2.2]; exact e1
  have m2 : (F2 25 1) = 0 := by rw [((K2 25 (by decide +kernel) hg0).2 (by decide)).2.2]; exact w0
  have m3 : (F2 25 2) = 0 := by rw [((K2 25 (by decide +kernel) hg0).2 (by decide)).2.2]; exact w1
  have d0 : D2 0 = D1 0 := (K2 0 (by decide +kernel) hg0).1
  have d4 : D2 8 = D1 8 := (K2 8 (by decide +kernel) hg0).1
  have E12 : EQD [(2, 1), (4, 1), (6, 1), (8, 1), (11, 1), (0, 18)] [3, 5, 7, 9, 12, 10, 29, 30, 32] [] [] D N F A D2 N2 F2 A2 := EQD_tr (EQD_sub (by decide) E1) (KEP_EQ K2 K0 hg0 (by decide +kernel))
  have hs2 : sc (A2 9) 0 (F2 8 1) = sc (A 9) 0 (F 8 1) := by rw [E12.2.1 9 (by decide), E12.1 (8, 1) (by decide)]
  have ha2 : A2 10 = A 10 := E12.2.1 10 (by decide)
  cases h7 : g2 7 with
  | false =>
    refine T_wd4n_3 (d := d + 1) hst X2 (hGI.2.2.1 hj) (hGI.2.2.2.1 hj) hj h7 (by rw [d0]; exact l0) l1 l3 (by rw [d4]; exact l4) l5 (show inr x1 by omega) m0 m1 m2 m3 (fun tc236_2 tc236_3 ls σ3 D3 N3 F3 A3 c3 s3 X3 S3 E3 p0 p1 p3 p4 q1 q2 hW hcn => ?_) (fun z σ3 D3 N3 F3 A3 c3 s3 X3 S3 E3 zr hW => ?_)
    · rw [hs2, ha2] at hW hcn
      have E13 : EQD [(2, 1), (4, 1), (6, 1), (8, 1), (11, 1), (0, 18)] [3, 5, 7, 9, 12, 10, 29, 30, 32] [] [] D N F A D3 N3 F3 A3 := EQD_tr E12 (EQD_sub (by decide) E3)
      have q2 : tc236_3 = F 8 1 := q2.trans (E12.1 (8, 1) (by decide))
      obtain rfl : tc236_2 = 4 := q1
      refine w_callk rfl (fun rec => rinvv rfl rfl (X3.1.obj 0 (by decide +kernel) (show g2 0 = true from X3.2.2.1) rfl) rec) rfl (T_ur4_w (d := d + 0) X3 (show 0 ≤ tc236_3 ∧ tc236_3 ≤ 65536 by omega) (fun y g4 σ4 D4 N4 F4 A4 c4 s4 X4 S4 zr hl4 E4 hb hR hC hN pk t0 t1 t2 t3 => ⟨rfl, ?_⟩))
      have d40 : D4 0 = D3 0 := S4.1.2.1
      have d44 : D4 8 = D3 8 := t3
      have E14 : EQD [(2, 1), (4, 1), (6, 1), (8, 1), (11, 1), (0, 18)] [3, 5, 7, 9, 12, 10, 29, 30, 32] [] [] D N F A D4 N4 F4 A4 := EQD_tr E13 (EQD_sub (by decide) E4)
      have m9 : F4 8 1 ≤ 16384 := by rw [E14.1 (8, 1) (by decide)]; exact cf0
      refine T_we4_3 (d := d + 5) X4 (hl4 5 hj) (by rw [d40]; exact p0) p1 p3 (by rw [d44]; exact p4) (show inr x1 by omega) zr m9 (fun ls σ5 D5 N5 F5 A5 c5 s5 X5 S5 E5 v0 v1 hS hB hc4 => ?_) (fun z σ5 D5 N5 F5 A5 c5 s5 X5 S5 E5 q => absurd q (by decide))
      refine T_wg (d := d + 4) X5 v0 v1 (show inr x1 by omega) h1 (fun z σ6 D6 N6 F6 A6 c6 s6 X6 S6 E6 hz u0 u1 u2 u3 y0 y1 y2 y3 => ?_)
      have E15 : EQD [(2, 1), (4, 1), (6, 1), (8, 1), (11, 1), (0, 18)] [3, 5, 7, 9, 12, 10, 30] [] [] D N F A D5 N5 F5 A5 := EQD_tr (EQD_sub (by decide) E14) (EQD_sub (by decide) E5)
      have e26 : A5 26 = A3 26 := (E5.2.1 26 (by decide)).trans (E4.2.1 26 (by decide))
      have e25 : F5 25 1 = F3 25 1 := (E5.1 (25, 1) (by decide)).trans (E4.1 (25, 1) (by decide))
      rw [e26, e25] at u0 u1 u2 u3
      rw [e25] at hz
      have hN6 : RWN (rwC F5 A5) (rwC F6 A6) x1 (sc (A3 26) 0 (F3 25 1)) := PUT_N h1 u0 u1 u2 u3 y0 y1 y2 y3
      rw [rwC_e (EQD_sub (by decide) E15)] at hN6
      have e32 : A6 32 = A5 32 := E6.2.1 32 (by decide)
      have hw32 : A4 32 = A 32 := E14.2.1 32 (by decide)
      have e29 : A6 29 = A5 29 := E6.2.1 29 (by decide)
      have hzn : 0 ≤ F3 25 1 := by have w := X3.2.2.2.2.2.2.2.1; unfold INV0 at w; have w := w.2.2.2.2.2.1; omega
      have a10 : A4 10 = A 10 := E14.2.1 10 (by decide)
      have f1 : F4 8 1 = F 8 1 := E14.1 (8, 1) (by decide)
      have hB : A5 32 1 = w32 (A4 32 1 + (if BNA (A4 10) 4 (F4 8 1) < F4 25 1 then 1 else 0)) := hB
      rw [hw32, a10, f1, ← hL, E4.1 (25, 1) (by decide)] at hB
      have hS : STR y (F4 8 1) (sc (A4 28) 0 (F4 27 1)) (sc (A4 9) 0 (F4 8 1)) (A4 32 0) (A5 32 0) := hS
      have hs4 : sc (A4 9) 0 (F4 8 1) = sc (A 9) 0 (F 8 1) := by rw [E14.2.1 9 (by decide), E14.1 (8, 1) (by decide)]
      rw [hw32, hs4, f1] at hS
      rw [q2, ← hL] at hR hN
      have n13 : (N5 29 : Int) = 13 := by have w := X5.2.2.2.2.2.2.2.1; unfold INV0 at w; exact w.2.2.2.2.2.2.2.2.2.2.2.1
      have hpk : A4 199 = A3 199 := pk hj
      have h29 : ∀ i, 0 ≤ i → i < 12 → A6 29 (i + 1) = (frD (A 10) (sc (A 9) 0 (F 8 1)) Dc st0).2.2.2.2 i := fun i p q => by
        rw [e29, hc4 (i + 1) (by omega) (by omega), hpk, show (0 : Int) + (i + 1 - 0) = i + 1 by omega]
        exact (hcn i p q).symm
      have hP : WRB (rwC F A) (rwC F6 A6) x1 4 (sc (A 9) 0 (F 8 1)) (A 10) (paC F A) Dc st0 (F3 25 1) (A 32 0) (A6 32 0) (A 32 1) (A6 32 1) (fun i => A 29 (i + 1)) (fun i => A6 29 (i + 1)) := WRB_y (WRY_H hW (by decide)) hzn hN6 (by rw [e32]; exact hB) (fun _ => ⟨F4 0 17, (RDQ_H (H2 := paC F A) hR (by decide)), by rw [e32, hL]; exact hS⟩) (fun e => absurd e (by decide)) (fun _ => h29) (fun e => absurd rfl e) (fun _ => hN)
      rw [hz]
      exact k (F3 25 1) g4 σ6 D6 N6 F6 A6 c6 s6 X6 (STP_trans (STP_trans (STP_tr0 (STP_trans (STP_tr0 S1 S2) S3) S4) S5) S6) (EQD_tr (EQD_sub (by decide) E15) (EQD_sub (by decide) E6)) (by have w := X3.1.krg 25 1 (by decide +kernel) (show g2 0 = true from X3.2.2.1); exact w) hP
    · rw [hs2, ha2] at hW
      have E13 : EQD [(2, 1), (4, 1), (6, 1), (8, 1), (11, 1), (0, 18)] [3, 5, 7, 9, 12, 10, 29, 30, 32] [] [] D N F A D3 N3 F3 A3 := EQD_tr E12 (EQD_sub (by decide) E3)
      have hP : WRB (rwC F A) (rwC F3 A3) x1 4 (sc (A 9) 0 (F 8 1)) (A 10) (paC F A) Dc st0 z (A 32 0) (A3 32 0) (A 32 1) (A3 32 1) (fun i => A 29 (i + 1)) (fun i => A3 29 (i + 1)) := WRB_n (WRY_H hW (by decide)) (by omega) (by rw [rwC_e (EQD_sub (by decide) E13)]; exact RWS_r) (by rw [E13.2.1 32 (by decide)]) (by rw [E13.2.1 32 (by decide)]) (fun i _ _ => by rw [E13.2.1 29 (by decide)])
      exact k z g2 σ3 D3 N3 F3 A3 c3 s3 X3 (STP_trans (STP_tr0 S1 S2) S3) (EQD_sub (by decide) E13) (by omega) hP
  | true =>
    refine T_wd4d_3 (d := d + 1) hst X2 (hGI.2.2.1 hj) (hGI.2.2.2.1 hj) hj h7 (by rw [d0]; exact l0) l1 l3 (by rw [d4]; exact l4) l5 (show inr x1 by omega) m0 m1 m2 m3 (fun tc236_2 tc236_3 ls σ3 D3 N3 F3 A3 c3 s3 X3 S3 E3 p0 p1 p3 p4 q1 q2 hW hcn => ?_) (fun z σ3 D3 N3 F3 A3 c3 s3 X3 S3 E3 zr hW => ?_)
    · rw [hs2, ha2] at hW hcn
      have E13 : EQD [(2, 1), (4, 1), (6, 1), (8, 1), (11, 1), (0, 18)] [3, 5, 7, 9, 12, 10, 29, 30, 32] [] [] D N F A D3 N3 F3 A3 := EQD_tr E12 (EQD_sub (by decide) E3)
      have q2 : tc236_3 = F 8 1 := q2.trans (E12.1 (8, 1) (by decide))
      obtain rfl : tc236_2 = 4 := q1
      refine w_callk rfl (fun rec => rinvv rfl rfl (X3.1.obj 0 (by decide +kernel) (show g2 0 = true from X3.2.2.1) rfl) rec) rfl (T_ur4_w (d := d + 0) X3 (show 0 ≤ tc236_3 ∧ tc236_3 ≤ 65536 by omega) (fun y g4 σ4 D4 N4 F4 A4 c4 s4 X4 S4 zr hl4 E4 hb hR hC hN pk t0 t1 t2 t3 => ⟨rfl, ?_⟩))
      have d40 : D4 0 = D3 0 := S4.1.2.1
      have d44 : D4 8 = D3 8 := t3
      have E14 : EQD [(2, 1), (4, 1), (6, 1), (8, 1), (11, 1), (0, 18)] [3, 5, 7, 9, 12, 10, 29, 30, 32] [] [] D N F A D4 N4 F4 A4 := EQD_tr E13 (EQD_sub (by decide) E4)
      have m9 : F4 8 1 ≤ 16384 := by rw [E14.1 (8, 1) (by decide)]; exact cf0
      refine T_we4_3 (d := d + 5) X4 (hl4 5 hj) (by rw [d40]; exact p0) p1 p3 (by rw [d44]; exact p4) (show inr x1 by omega) zr m9 (fun ls σ5 D5 N5 F5 A5 c5 s5 X5 S5 E5 v0 v1 hS hB hc4 => ?_) (fun z σ5 D5 N5 F5 A5 c5 s5 X5 S5 E5 q => absurd q (by decide))
      refine T_wg (d := d + 4) X5 v0 v1 (show inr x1 by omega) h1 (fun z σ6 D6 N6 F6 A6 c6 s6 X6 S6 E6 hz u0 u1 u2 u3 y0 y1 y2 y3 => ?_)
      have E15 : EQD [(2, 1), (4, 1), (6, 1), (8, 1), (11, 1), (0, 18)] [3, 5, 7, 9, 12, 10, 30] [] [] D N F A D5 N5 F5 A5 := EQD_tr (EQD_sub (by decide) E14) (EQD_sub (by decide) E5)
      have e26 : A5 26 = A3 26 := (E5.2.1 26 (by decide)).trans (E4.2.1 26 (by decide))
      have e25 : F5 25 1 = F3 25 1 := (E5.1 (25, 1) (by decide)).trans (E4.1 (25, 1) (by decide))
      rw [e26, e25] at u0 u1 u2 u3
      rw [e25] at hz
      have hN6 : RWN (rwC F5 A5) (rwC F6 A6) x1 (sc (A3 26) 0 (F3 25 1)) := PUT_N h1 u0 u1 u2 u3 y0 y1 y2 y3
      rw [rwC_e (EQD_sub (by decide) E15)] at hN6
      have e32 : A6 32 = A5 32 := E6.2.1 32 (by decide)
      have hw32 : A4 32 = A 32 := E14.2.1 32 (by decide)
      have e29 : A6 29 = A5 29 := E6.2.1 29 (by decide)
      have hzn : 0 ≤ F3 25 1 := by have w := X3.2.2.2.2.2.2.2.1; unfold INV0 at w; have w := w.2.2.2.2.2.1; omega
      have a10 : A4 10 = A 10 := E14.2.1 10 (by decide)
      have f1 : F4 8 1 = F 8 1 := E14.1 (8, 1) (by decide)
      have hB : A5 32 1 = w32 (A4 32 1 + (if BNA (A4 10) 4 (F4 8 1) < F4 25 1 then 1 else 0)) := hB
      rw [hw32, a10, f1, ← hL, E4.1 (25, 1) (by decide)] at hB
      have hS : STR y (F4 8 1) (sc (A4 28) 0 (F4 27 1)) (sc (A4 9) 0 (F4 8 1)) (A4 32 0) (A5 32 0) := hS
      have hs4 : sc (A4 9) 0 (F4 8 1) = sc (A 9) 0 (F 8 1) := by rw [E14.2.1 9 (by decide), E14.1 (8, 1) (by decide)]
      rw [hw32, hs4, f1] at hS
      rw [q2, ← hL] at hR hN
      have n13 : (N5 29 : Int) = 13 := by have w := X5.2.2.2.2.2.2.2.1; unfold INV0 at w; exact w.2.2.2.2.2.2.2.2.2.2.2.1
      have hpk : A4 199 = A3 199 := pk hj
      have h29 : ∀ i, 0 ≤ i → i < 12 → A6 29 (i + 1) = (frD (A 10) (sc (A 9) 0 (F 8 1)) Dc st0).2.2.2.2 i := fun i p q => by
        rw [e29, hc4 (i + 1) (by omega) (by omega), hpk, show (0 : Int) + (i + 1 - 0) = i + 1 by omega]
        exact (hcn i p q).symm
      have hP : WRB (rwC F A) (rwC F6 A6) x1 4 (sc (A 9) 0 (F 8 1)) (A 10) (paC F A) Dc st0 (F3 25 1) (A 32 0) (A6 32 0) (A 32 1) (A6 32 1) (fun i => A 29 (i + 1)) (fun i => A6 29 (i + 1)) := WRB_y (WRY_H hW (by decide)) hzn hN6 (by rw [e32]; exact hB) (fun _ => ⟨F4 0 17, (RDQ_H (H2 := paC F A) hR (by decide)), by rw [e32, hL]; exact hS⟩) (fun e => absurd e (by decide)) (fun _ => h29) (fun e => absurd rfl e) (fun _ => hN)
      rw [hz]
      exact k (F3 25 1) g4 σ6 D6 N6 F6 A6 c6 s6 X6 (STP_trans (STP_trans (STP_tr0 (STP_trans (STP_tr0 S1 S2) S3) S4) S5) S6) (EQD_tr (EQD_sub (by decide) E15) (EQD_sub (by decide) E6)) (by have w := X3.1.krg 25 1 (by decide +kernel) (show g2 0 = true from X3.2.2.1); exact w) hP
    · rw [hs2, ha2] at hW
      have E13 : EQD [(2, 1), (4, 1), (6, 1), (8, 1), (11, 1), (0, 18)] [3, 5, 7, 9, 12, 10, 29, 30, 32] [] [] D N F A D3 N3 F3 A3 := EQD_tr E12 (EQD_sub (by decide) E3)
      have hP : WRB (rwC F A) (rwC F3 A3) x1 4 (sc (A 9) 0 (F 8 1)) (A 10) (paC F A) Dc st0 z (A 32 0) (A3 32 0) (A 32 1) (A3 32 1) (fun i => A 29 (i + 1)) (fun i => A3 29 (i + 1)) := WRB_n (WRY_H hW (by decide)) (by omega) (by rw [rwC_e (EQD_sub (by decide) E13)]; exact RWS_r) (by rw [E13.2.1 32 (by decide)]) (by rw [E13.2.1 32 (by decide)]) (fun i _ _ => by rw [E13.2.1 29 (by decide)])
      exact k z g2 σ3 D3 N3 F3 A3 c3 s3 X3 (STP_trans (STP_tr0 S1 S2) S3) (EQD_sub (by decide) E13) (by omega) hP


end
section
/-! W95.wr -/
theorem T_wK5_0 {Dc : DcS} {g : Nat → Bool} {σ : rS} {D N : Nat → Nat} {F : hF} {A : hA} {d c s : Nat} {Q : wQ} {st0 : WSt} (hst : WSD Dc st0) (X : PHI Dc g σ D N F A) {x1 : Int} {ls : rO} (hl0 : rlook ls 0 = some (.ref (D 0))) (hl1 : rlook ls 1 = some (I x1)) (hl3 : rlook ls 3 = some (I (5))) (hl4 : rlook ls 4 = some (.ref (D 2))) (h1 : 0 ≤ x1 ∧ x1 ≤ 3) (cf0 : (F 2 1) ≤ 16384) (k : ∀ (z : Int) (gₚ : Nat → Bool) (σₚ : rS) (Dₚ Nₚ : Nat → Nat) (Fₚ : hF) (Aₚ : hA) (cₚ sₚ : Nat), PHI Dc gₚ σₚ Dₚ Nₚ Fₚ Aₚ → STP g σ D N A c s gₚ σₚ Dₚ Nₚ Aₚ cₚ sₚ → EQD [(11, 1), (0, 18)] [12, 10, 30] [] [] D N F A Dₚ Nₚ Fₚ Aₚ → inr z → WRB (rwC F A) (rwC Fₚ Aₚ) x1 5 (sc (A 3) 0 (F 2 1)) (A 10) (paC F A) Dc st0 z (A 32 0) (Aₚ 32 0) (A 32 1) (Aₚ 32 1) (fun i => A 29 (i + 1)) (fun i => Aₚ 29 (i + 1)) → Q (some (I z)) σₚ cₚ sₚ) : Ew 17 (d + 8) 54 ls [] σ c s Q := by
  have hri : 0 ≤ F 2 1 ∧ F 2 1 ≤ 65536 := by have w := X.2.2.2.2.2.2.2.1; unfold INV0 at w; have w := w.1; omega
  have hL : ((sc (A 3) 0 (F 2 1)).length : Int) = F 2 1 := scn hri.1
  refine T_wc5_0 (d := d + 7) X hl0 hl1 hl3 hl4 (show inr x1 by omega) cf0 (fun ls σ1 D1 N1 F1 A1 c1 s1 X1 S1 E1 l0 l1 l3 l4 e0 w0 w1 w2 w3 => ?_) (fun z σ1 D1 N1 F1 A1 c1 s1 X1 S1 E1 q => absurd q (by decide))
  have hg0 : g 0 = true := X1.2.2.1
  refine w_callk rfl (fun rec => rinvv rfl rfl (X1.1.obj 0 (by decide +kernel) (show g 0 = true from X1.2.2.1) rfl) rec) rfl (T_the_pac (d := d + 3) X1 (fun g2 σ2 D2 N2 F2 A2 c2 s2 X2 S2 K2 K0 hj hle => ⟨rfl, ?_⟩))
  have hGI := X2.2.2.2.2.2.2.1
  have m0 : (F2 2 1) ≤ 16384 := by rw [((K2 2 (by decide +kernel) hg0).2 (by decide)).2.2]; exact e0
  have m1 : (F2 25 1) = 0 := by rw [((K2 25 (by decide +kernel) hg0).2 (by decide)).2.2]; exact w0
  have m2 : (F2 25 2) = 0 := by rw [((K2 25 (by decide +kernel) hg0).2 (by decide)).2.2]; exact w1
  have m3 : (F2 25 4) = 0 := by rw [((K2 25 (by decide +kernel) hg0).2 (by decide)).2.2]; exact w2
  have m4 : (F2 25 3) = 0 := by rw [((K2 25 (by decide +kernel) hg0).2 (by decide)).2.2]; exact w3
  have d0 : D2 0 = D1 0 := (K2 0 (by decide +kernel) hg0).1
  have d4 : D2 2 = D1 2 := (K2 2 (by decide +kernel) hg0).1
  have E12 : EQD [(2, 1), (4, 1), (6, 1), (8, 1), (11, 1), (0, 18)] [3, 5, 7, 9, 12, 10, 29, 30, 32] [] [] D N F A D2 N2 F2 A2 := EQD_tr (EQD_sub (by decide) E1) (KEP_EQ K2 K0 hg0 (by decide +kernel))
  have hs2 : sc (A2 3) 0 (F2 2 1) = sc (A 3) 0 (F 2 1) := by rw [E12.2.1 3 (by decide), E12.1 (2, 1) (by decide)]
  have ha2 : A2 10 = A 10 := E12.2.1 10 (by decide)
  refine T_wd5_0 (d := d + 2) X2 (hGI.2.2.1 hj) hj (by rw [d0]; exact l0) l1 l3 (by rw [d4]; exact l4) (show inr x1 by omega) m0 m1 m2 m3 m4 (fun  ls σ3 D3 N3 F3 A3 c3 s3 X3 S3 E3 p0 p1 p3 p4 hW => ?_) (fun z σ3 D3 N3 F3 A3 c3 s3 X3 S3 E3 zr hW => ?_)
  · rw [hs2, ha2] at hW
    have E13 : EQD [(2, 1), (4, 1), (6, 1), (8, 1), (11, 1), (0, 18)] [3, 5, 7, 9, 12, 10, 29, 30, 32] [] [] D N F A D3 N3 F3 A3 := EQD_tr E12 (EQD_sub (by decide) E3)
    have m9 : F3 2 1 ≤ 16384 := by rw [E13.1 (2, 1) (by decide)]; exact cf0
    refine T_we5_0 (d := d + 5) X3 p0 p1 p3 p4 (show inr x1 by omega) m9 (fun ls σ5 D5 N5 F5 A5 c5 s5 X5 S5 E5 v0 v1 hS hB => ?_) (fun z σ5 D5 N5 F5 A5 c5 s5 X5 S5 E5 q => absurd q (by decide))
    refine T_wg (d := d + 4) X5 v0 v1 (show inr x1 by omega) h1 (fun z σ6 D6 N6 F6 A6 c6 s6 X6 S6 E6 hz u0 u1 u2 u3 y0 y1 y2 y3 => ?_)
    have E15 : EQD [(2, 1), (4, 1), (6, 1), (8, 1), (11, 1), (0, 18)] [3, 5, 7, 9, 12, 10, 30, 29] [] [] D N F A D5 N5 F5 A5 := EQD_tr (EQD_sub (by decide) E13) (EQD_sub (by decide) E5)
    have e26 : A5 26 = A3 26 := E5.2.1 26 (by decide)
    have e25 : F5 25 1 = F3 25 1 := E5.1 (25, 1) (by decide)
    rw [e26, e25] at u0 u1 u2 u3
    rw [e25] at hz
    have hN6 : RWN (rwC F5 A5) (rwC F6 A6) x1 (sc (A3 26) 0 (F3 25 1)) := PUT_N h1 u0 u1 u2 u3 y0 y1 y2 y3
    rw [rwC_e (EQD_sub (by decide) E15)] at hN6
    have e32 : A6 32 = A5 32 := E6.2.1 32 (by decide)
    have hw32 : A3 32 = A 32 := E13.2.1 32 (by decide)
    have e29 : A6 29 = A5 29 := E6.2.1 29 (by decide)
    have hzn : 0 ≤ F3 25 1 := by have w := X3.2.2.2.2.2.2.2.1; unfold INV0 at w; have w := w.2.2.2.2.2.1; omega
    have a10 : A3 10 = A 10 := E13.2.1 10 (by decide)
    have f1 : F3 2 1 = F 2 1 := E13.1 (2, 1) (by decide)
    have hB : A5 32 1 = w32 (A3 32 1 + (if BNA (A3 10) 5 (F3 2 1) < F3 25 1 then 1 else 0)) := hB
    rw [hw32, a10, f1, ← hL] at hB
    have hS : A5 32 0 = A3 32 0 := hS
    have hP : WRB (rwC F A) (rwC F6 A6) x1 5 (sc (A 3) 0 (F 2 1)) (A 10) (paC F A) Dc st0 (F3 25 1) (A 32 0) (A6 32 0) (A 32 1) (A6 32 1) (fun i => A 29 (i + 1)) (fun i => A6 29 (i + 1)) := WRB_y (WRY_H (by exact WRY_D (D2 := Dc) (st2 := st0) (by decide) hW) (by decide)) hzn hN6 (by rw [e32]; exact hB) (y := 0) (C := []) (fun e => absurd rfl e) (fun _ => by rw [e32, hS, hw32]) (fun e => absurd e (by decide)) (fun _ i _ _ => by rw [e29, E15.2.1 29 (by decide)]) (fun e => absurd e (by decide))
    rw [hz]
    exact k (F3 25 1) g2 σ6 D6 N6 F6 A6 c6 s6 X6 (STP_trans (STP_trans (STP_trans (STP_tr0 S1 S2) S3) S5) S6) (EQD_tr (EQD_sub (by decide) E15) (EQD_sub (by decide) E6)) (by have w := X3.1.krg 25 1 (by decide +kernel) (show g2 0 = true from X3.2.2.1); exact w) hP
  · rw [hs2, ha2] at hW
    have E13 : EQD [(2, 1), (4, 1), (6, 1), (8, 1), (11, 1), (0, 18)] [3, 5, 7, 9, 12, 10, 29, 30, 32] [] [] D N F A D3 N3 F3 A3 := EQD_tr E12 (EQD_sub (by decide) E3)
    have hP : WRB (rwC F A) (rwC F3 A3) x1 5 (sc (A 3) 0 (F 2 1)) (A 10) (paC F A) Dc st0 z (A 32 0) (A3 32 0) (A 32 1) (A3 32 1) (fun i => A 29 (i + 1)) (fun i => A3 29 (i + 1)) := WRB_n (WRY_H (by exact WRY_D (D2 := Dc) (st2 := st0) (by decide) hW) (by decide)) (by omega) (by rw [rwC_e (EQD_sub (by decide) E13)]; exact RWS_r) (by rw [E13.2.1 32 (by decide)]) (by rw [E13.2.1 32 (by decide)]) (fun i _ _ => by rw [E13.2.1 29 (by decide)])
    exact k z g2 σ3 D3 N3 F3 A3 c3 s3 X3 (STP_trans (STP_tr0 S1 S2) S3) (EQD_sub (by decide) E13) (by omega) hP
theorem T_wK5_1 {Dc : DcS} {g : Nat → Bool} {σ : rS} {D N : Nat → Nat} {F : hF} {A : hA} {d c s : Nat} {Q : wQ} {st0 : WSt} (hst : WSD Dc st0) (X : PHI Dc g σ D N F A) {x1 : Int} {ls : rO} (hl0 : rlook ls 0 = some (.ref (D 0))) (hl1 : rlook ls 1 = some (I x1)) (hl3 : rlook ls 3 = some (I (5))) (hl4 : rlook ls 4 = some (.ref (D 4))) (h1 : 0 ≤ x1 ∧ x1 ≤ 3) (cf0 : (F 4 1) ≤ 16384) (k : ∀ (z : Int) (gₚ : Nat → Bool) (σₚ : rS) (Dₚ Nₚ : Nat → Nat) (Fₚ : hF) (Aₚ : hA) (cₚ sₚ : Nat), PHI Dc gₚ σₚ Dₚ Nₚ Fₚ Aₚ → STP g σ D N A c s gₚ σₚ Dₚ Nₚ Aₚ cₚ sₚ → EQD [(11, 1), (0, 18)] [12, 10, 30] [] [] D N F A Dₚ Nₚ Fₚ Aₚ → inr z → WRB (rwC F A) (rwC Fₚ Aₚ) x1 5 (sc (A 5) 0 (F 4 1)) (A 10) (paC F A) Dc st0 z (A 32 0) (Aₚ 32 0) (A 32 1) (Aₚ 32 1) (fun i => A 29 (i + 1)) (fun i => Aₚ 29 (i + 1)) → Q (some (I z)) σₚ cₚ sₚ) : Ew 17 (d + 8) 54 ls [] σ c s Q := by
  have hri : 0 ≤ F 4 1 ∧ F 4 1 ≤ 65536 := by have w := X.2.2.2.2.2.2.2.1; unfold INV0 at w; have w := w.2.1; omega
  have hL : ((sc (A 5) 0 (F 4 1)).length : Int) = F 4 1 := scn hri.1
  refine T_wc5_1 (d := d + 7) X hl0 hl1 hl3 hl4 (show inr x1 by omega) cf0 (fun ls σ1 D1 N1 F1 A1 c1 s1 X1 S1 E1 l0 l1 l3 l4 e0 w0 w1 w2 w3 => ?_) (fun z σ1 D1 N1 F1 A1 c1 s1 X1 S1 E1 q => absurd q (by decide))
  have hg0 : g 0 = true := X1.2.2.1
  refine w_callk rfl (fun rec => rinvv rfl rfl (X1.1.obj 0 (by decide +kernel) (show g 0 = true from X1.2.2.1) rfl) rec) rfl (T_the_pac (d := d + 3) X1 (fun g2 σ2 D2 N2 F2 A2 c2 s2 X2 S2 K2 K0 hj hle => ⟨rfl, ?_⟩))
  have hGI := X2.2.2.2.2.2.2.1
  have m0 : (F2 4 1) ≤ 16384 := by rw [((K2 4 (by decide +kernel) hg0).2 (by decide)).2.2]; exact e0
  have m1 : (F2 25 1) = 0 := by rw [((K2 25 (by decide +kernel) hg0).2 (by decide)).2.2]; exact w0
  have m2 : (F2 25 2) = 0 := by rw [((K2 25 (by decide +kernel) hg0).2 (by decide)).2.2]; exact w1
  have m3 : (F2 25 4) = 0 := by rw [((K2 25 (by decide +kernel) hg0).2 (by decide)).2.2]; exact w2
  have m4 : (F2 25 3) = 0 := by rw [((K2 25 (by decide +kernel) hg0).2 (by decide)).2.2]; exact w3
  have d0 : D2 0 = D1 0 := (K2 0 (by decide +kernel) hg0).1
  have d4 : D2 4 = D1 4 := (K2 4 (by decide +kernel) hg0).1
  have E12 : EQD [(2, 1), (4, 1), (6, 1), (8, 1), (11, 1), (0, 18)] [3, 5, 7, 9, 12, 10, 29, 30, 32] [] [] D N F A D2 N2 F2 A2 := EQD_tr (EQD_sub (by decide) E1) (KEP_EQ K2 K0 hg0 (by decide +kernel))
  have hs2 : sc (A2 5) 0 (F2 4 1) = sc (A 5) 0 (F 4 1) := by rw [E12.2.1 5 (by decide), E12.1 (4, 1) (by decide)]
  have ha2 : A2 10 = A 10 := E12.2.1 10 (by decide)
  refine T_wd5_1 (d := d + 2) X2 (hGI.2.2.1 hj) hj (by rw [d0]; exact l0) l1 l3 (by rw [d4]; exact l4) (show inr x1 by omega) m0 m1 m2 m3 m4 (fun  ls σ3 D3 N3 F3 A3 c3 s3 X3 S3 E3 p0 p1 p3 p4 hW => ?_) (fun z σ3 D3 N3 F3 A3 c3 s3 X3 S3 E3 zr hW => ?_)
  · rw [hs2, ha2] at hW
    have E13 : EQD [(2, 1), (4, 1), (6, 1), (8, 1), (11, 1), (0, 18)] [3, 5, 7, 9, 12, 10, 29, 30, 32] [] [] D N F A D3 N3 F3 A3 := EQD_tr E12 (EQD_sub (by decide) E3)
    have m9 : F3 4 1 ≤ 16384 := by rw [E13.1 (4, 1) (by decide)]; exact cf0
    refine T_we5_1 (d := d + 5) X3 p0 p1 p3 p4 (show inr x1 by omega) m9 (fun ls σ5 D5 N5 F5 A5 c5 s5 X5 S5 E5 v0 v1 hS hB => ?_) (fun z σ5 D5 N5 F5 A5 c5 s5 X5 S5 E5 q => absurd q (by decide))
    refine T_wg (d := d + 4) X5 v0 v1 (show inr x1 by omega) h1 (fun z σ6 D6 N6 F6 A6 c6 s6 X6 S6 E6 hz u0 u1 u2 u3 y0 y1 y2 y3 => ?_)
    have E15 : EQD [(2, 1), (4, 1), (6, 1), (8, 1), (11, 1), (0, 18)] [3, 5, 7, 9, 12, 10, 30, 29] [] [] D N F A D5 N5 F5 A5 := EQD_tr (EQD_sub (by decide) E13) (EQD_sub (by decide) E5)
    have e26 : A5 26 = A3 26 := E5.2.1 26 (by decide)
    have e25 : F5 25 1 = F3 25 1 := E5.1 (25, 1) (by decide)
    rw [e26, e25] at u0 u1 u2 u3
    rw [e25] at hz
    have hN6 : RWN (rwC F5 A5) (rwC F6 A6) x1 (sc (A3 26) 0 (F3 25 1)) := PUT_N h1 u0 u1 u2 u3 y0 y1 y2 y3
    rw [rwC_e (EQD_sub (by decide) E15)] at hN6
    have e32 : A6 32 = A5 32 := E6.2.1 32 (by decide)
    have hw32 : A3 32 = A 32 := E13.2.1 32 (by decide)
    have e29 : A6 29 = A5 29 := E6.2.1 29 (by decide)
    have hzn : 0 ≤ F3 25 1 := by have w := X3.2.2.2.2.2.2.2.1; unfold INV0 at w; have w := w.2.2.2.2.2.1; omega
    have a10 : A3 10 = A 10 := E13.2.1 10 (by decide)
    have f1 : F3 4 1 = F 4 1 := E13.1 (4, 1) (by decide)
    have hB : A5 32 1 = w32 (A3 32 1 + (if BNA (A3 10) 5 (F3 4 1) < F3 25 1 then 1 else 0)) := hB
    rw [hw32, a10, f1, ← hL] at hB
    have hS : A5 32 0 = A3 32 0 := hS
    have hP : WRB (rwC F A) (rwC F6 A6) x1 5 (sc (A 5) 0 (F 4 1)) (A 10) (paC F A) Dc st0 (F3 25 1) (A 32 0) (A6 32 0) (A 32 1) (A6 32 1) (fun i => A 29 (i + 1)) (fun i => A6 29 (i + 1)) := WRB_y (WRY_H (by exact WRY_D (D2 := Dc) (st2 := st0) (by decide) hW) (by decide)) hzn hN6 (by rw [e32]; exact hB) (y := 0) (C := []) (fun e => absurd rfl e) (fun _ => by rw [e32, hS, hw32]) (fun e => absurd e (by decide)) (fun _ i _ _ => by rw [e29, E15.2.1 29 (by decide)]) (fun e => absurd e (by decide))
    rw [hz]
    exact k (F3 25 1) g2 σ6 D6 N6 F6 A6 c6 s6 X6 (STP_trans (STP_trans (STP_trans (STP_tr0 S1 S2) S3) S5) S6) (EQD_tr (EQD_sub (by decide) E15) (EQD_sub (by decide) E6)) (by have w := X3.1.krg 25 1 (by decide +kernel) (show g2 0 = true from X3.2.2.1); exact w) hP
  · rw [hs2, ha2] at hW
    have E13 : EQD [(2, 1), (4, 1), (6, 1), (8, 1), (11, 1), (0, 18)] [3, 5, 7, 9, 12, 10, 29, 30, 32] [] [] D N F A D3 N3 F3 A3 := EQD_tr E12 (EQD_sub (by decide) E3)
    have hP : WRB (rwC F A) (rwC F3 A3) x1 5 (sc (A 5) 0 (F 4 1)) (A 10) (paC F A) Dc st0 z (A 32 0) (A3 32 0) (A 32 1) (A3 32 1) (fun i => A 29 (i + 1)) (fun i => A3 29 (i + 1)) := WRB_n (WRY_H (by exact WRY_D (D2 := Dc) (st2 := st0) (by decide) hW) (by decide)) (by omega) (by rw [rwC_e (EQD_sub (by decide) E13)]; exact RWS_r) (by rw [E13.2.1 32 (by decide)]) (by rw [E13.2.1 32 (by decide)]) (fun i _ _ => by rw [E13.2.1 29 (by decide)])
    exact k z g2 σ3 D3 N3 F3 A3 c3 s3 X3 (STP_trans (STP_tr0 S1 S2) S3) (EQD_sub (by decide) E13) (by omega) hP
theorem T_wK5_2 {Dc : DcS} {g : Nat → Bool} {σ : rS} {D N : Nat → Nat} {F : hF} {A : hA} {d c s : Nat} {Q : wQ} {st0 : WSt} (hst : WSD Dc st0) (X : PHI Dc g σ D N F A) {x1 : Int} {ls : rO} (hl0 : rlook ls 0 = some (.ref (D 0))) (hl1 : rlook ls 1 = some (I x1)) (hl3 : rlook ls 3 = some (I (5))) (hl4 : rlook ls 4 = some (.ref (D 6))) (h1 : 0 ≤ x1 ∧ x1 ≤ 3) (cf0 : (F 6 1) ≤ 16384) (k : ∀ (z : Int) (gₚ : Nat → Bool) (σₚ : rS) (Dₚ Nₚ : Nat → Nat) (Fₚ : hF) (Aₚ : hA) (cₚ sₚ : Nat), PHI Dc gₚ σₚ Dₚ Nₚ Fₚ Aₚ → STP g σ D N A c s gₚ σₚ Dₚ Nₚ Aₚ cₚ sₚ → EQD [(11, 1), (0, 18)] [12, 10, 30] [] [] D N F A Dₚ Nₚ Fₚ Aₚ → inr z → WRB (rwC F A) (rwC Fₚ Aₚ) x1 5 (sc (A 7) 0 (F 6 1)) (A 10) (paC F A) Dc st0 z (A 32 0) (Aₚ 32 0) (A 32 1) (Aₚ 32 1) (fun i => A 29 (i + 1)) (fun i => Aₚ 29 (i + 1)) → Q (some (I z)) σₚ cₚ sₚ) : Ew 17 (d + 8) 54 ls [] σ c s Q := by
  have hri : 0 ≤ F 6 1 ∧ F 6 1 ≤ 65536 := by have w := X.2.2.2.2.2.2.2.1; unfold INV0 at w; have w := w.2.2.1; omega
  have hL : ((sc (A 7) 0 (F 6 1)).length : Int) = F 6 1 := scn hri.1
  refine T_wc5_2 (d := d + 7) X hl0 hl1 hl3 hl4 (show inr x1 by omega) cf0 (fun ls σ1 D1 N1 F1 A1 c1 s1 X1 S1 E1 l0 l1 l3 l4 e0 w0 w1 w2 w3 => ?_) (fun z σ1 D1 N1 F1 A1 c1 s1 X1 S1 E1 q => absurd q (by decide))
  have hg0 : g 0 = true := X1.2.2.1
  refine w_callk rfl (fun rec => rinvv rfl rfl (X1.1.obj 0 (by decide +kernel) (show g 0 = true from X1.2.2.1) rfl) rec) rfl (T_the_pac (d := d + 3) X1 (fun g2 σ2 D2 N2 F2 A2 c2 s2 X2 S2 K2 K0 hj hle => ⟨rfl, ?_⟩))
  have hGI := X2.2.2.2.2.2.2.1
  have m0 : (F2 6 1) ≤ 16384 := by rw [((K2 6 (by decide +kernel) hg0).2 (by decide)).2.2]; exact e0
  have m1 : (F2 25 1) = 0 := by rw [((K2 25 (by decide +kernel) hg0).2 (by decide)).2.2]; exact w0
  have m2 : (F2 25 2) = 0 := by rw [((K2 25 (by decide +kernel) hg0).2 (by decide)).2.2]; exact w1
  have m3 : (F2 25 4) = 0 := by rw [((K2 25 (by decide +kernel) hg0).2 (by decide)).2.2]; exact w2
  have m4 : (F2 25 3) = 0 := by rw [((K2 25 (by decide +kernel) hg0).2 (by decide)).2.2]; exact w3
  have d0 : D2 0 = D1 0 := (K2 0 (by decide +kernel) hg0).1
  have d4 : D2 6 = D1 6 := (K2 6 (by decide +kernel) hg0).1
  have E12 : EQD [(2, 1), (4, 1), (6, 1), (8, 1), (11, 1), (0, 18)] [3, 5, 7, 9, 12, 10, 29, 30, 32] [] [] D N F A D2 N2 F2 A2 := EQD_tr (EQD_sub (by decide) E1) (KEP_EQ K2 K0 hg0 (by decide +kernel))
  have hs2 : sc (A2 7) 0 (F2 6 1) = sc (A 7) 0 (F 6 1) := by rw [E12.2.1 7 (by decide), E12.1 (6, 1) (by decide)]
  have ha2 : A2 10 = A 10 := E12.2.1 10 (by decide)
  refine T_wd5_2 (d := d + 2) X2 (hGI.2.2.1 hj) hj (by rw [d0]; exact l0) l1 l3 (by rw [d4]; exact l4) (show inr x1 by omega) m0 m1 m2 m3 m4 (fun  ls σ3 D3 N3 F3 A3 c3 s3 X3 S3 E3 p0 p1 p3 p4 hW => ?_) (fun z σ3 D3 N3 F3 A3 c3 s3 X3 S3 E3 zr hW => ?_)
  · rw [hs2, ha2] at hW
    have E13 : EQD [(2, 1), (4, 1), (6, 1), (8, 1), (11, 1), (0, 18)] [3, 5, 7, 9, 12, 10, 29, 30, 32] [] [] D N F A D3 N3 F3 A3 := EQD_tr E12 (EQD_sub (by decide) E3)
    have m9 : F3 6 1 ≤ 16384 := by rw [E13.1 (6, 1) (by decide)]; exact cf0
    refine T_we5_2 (d := d + 5) X3 p0 p1 p3 p4 (show inr x1 by omega) m9 (fun ls σ5 D5 N5 F5 A5 c5 s5 X5 S5 E5 v0 v1 hS hB => ?_) (fun z σ5 D5 N5 F5 A5 c5 s5 X5 S5 E5 q => absurd q (by decide))
    refine T_wg (d := d + 4) X5 v0 v1 (show inr x1 by omega) h1 (fun z σ6 D6 N6 F6 A6 c6 s6 X6 S6 E6 hz u0 u1 u2 u3 y0 y1 y2 y3 => ?_)
    have E15 : EQD [(2, 1), (4, 1), (6, 1), (8, 1), (11, 1), (0, 18)] [3, 5, 7, 9, 12, 10, 30, 29] [] [] D N F A D5 N5 F5 A5 := EQD_tr (EQD_sub (by decide) E13) (EQD_sub (by decide) E5)
    have e26 : A5 26 = A3 26 := E5.2.1 26 (by decide)
    have e25 : F5 25 1 = F3 25 1 := E5.1 (25, 1) (by decide)
    rw [e26, e25] at u0 u1 u2 u3
    rw [e25] at hz
    have hN6 : RWN (rwC F5 A5) (rwC F6 A6) x1 (sc (A3 26) 0 (F3 25 1)) := PUT_N h1 u0 u1 u2 u3 y0 y1 y2 y3
    rw [rwC_e (EQD_sub (by decide) E15)] at hN6
    have e32 : A6 32 = A5 32 := E6.2.1 32 (by decide)
    have hw32 : A3 32 = A 32 := E13.2.1 32 (by decide)
    have e29 : A6 29 = A5 29 := E6.2.1 29 (by decide)
    have hzn : 0 ≤ F3 25 1 := by have w := X3.2.2.2.2.2.2.2.1; unfold INV0 at w; have w := w.2.2.2.2.2.1; omega
    have a10 : A3 10 = A 10 := E13.2.1 10 (by decide)
    have f1 : F3 6 1 = F 6 1 := E13.1 (6, 1) (by decide)
    have hB : A5 32 1 = w32 (A3 32 1 + (if BNA (A3 10) 5 (F3 6 1) < F3 25 1 then 1 else 0)) := hB
    rw [hw32, a10, f1, ← hL] at hB
    have hS : A5 32 0 = A3 32 0 := hS
    have hP : WRB (rwC F A) (rwC F6 A6) x1 5 (sc (A 7) 0 (F 6 1)) (A 10) (paC F A) Dc st0 (F3 25 1) (A 32 0) (A6 32 0) (A 32 1) (A6 32 1) (fun i => A 29 (i + 1)) (fun i => A6 29 (i + 1)) := WRB_y (WRY_H (by exact WRY_D (D2 := Dc) (st2 := st0) (by decide) hW) (by decide)) hzn hN6 (by rw [e32]; exact hB) (y := 0) (C := []) (fun e => absurd rfl e) (fun _ => by rw [e32, hS, hw32]) (fun e => absurd e (by decide)) (fun _ i _ _ => by rw [e29, E15.2.1 29 (by decide)]) (fun e => absurd e (by decide))
    rw [hz]
    exact k (F3 25 1) g2 σ6 D6 N6 F6 A6 c6 s6 X6 (STP_trans (STP_trans (STP_trans (STP_tr0 S1 S2) S3) S5) S6) (EQD_tr (EQD_sub (by decide) E15) (EQD_sub (by decide) E6)) (by have w := X3.1.krg 25 1 (by decide +kernel) (show g2 0 = true from X3.2.2.1); exact w) hP
  · rw [hs2, ha2] at hW
    have E13 : EQD [(2, 1), (4, 1), (6, 1), (8, 1), (11, 1), (0, 18)] [3, 5, 7, 9, 12, 10, 29, 30, 32] [] [] D N F A D3 N3 F3 A3 := EQD_tr E12 (EQD_sub (by decide) E3)
    have hP : WRB (rwC F A) (rwC F3 A3) x1 5 (sc (A 7) 0 (F 6 1)) (A 10) (paC F A) Dc st0 z (A 32 0) (A3 32 0) (A 32 1) (A3 32 1) (fun i => A 29 (i + 1)) (fun i => A3 29 (i + 1)) := WRB_n (WRY_H (by exact WRY_D (D2 := Dc) (st2 := st0) (by decide) hW) (by decide)) (by omega) (by rw [rwC_e (EQD_sub (by decide) E13)]; exact RWS_r) (by rw [E13.2.1 32 (by decide)]) (by rw [E13.2.1 32 (by decide)]) (fun i _ _ => by rw [E13.2.1 29 (by decide)])
    exact k z g2 σ3 D3 N3 F3 A3 c3 s3 X3 (STP_trans (STP_tr0 S1 S2) S3) (EQD_sub (by decide) E13) (by omega) hP
theorem T_wK5_3 {Dc : DcS} {g : Nat → Bool} {σ : rS} {D N : Nat → Nat} {F : hF} {A : hA} {d c s : Nat} {Q : wQ} {st0 : WSt} (hst : WSD Dc st0) (X : PHI Dc g σ D N F A) {x1 : Int} {ls : rO} (hl0 : rlook ls 0 = some (.ref (D 0))) (hl1 : rlook ls 1 = some (I x1)) (hl3 : rlook ls 3 = some (I (5))) (hl4 : rlook ls 4 = some (.ref (D 8))) (h1 : 0 ≤ x1 ∧ x1 ≤ 3) (cf0 : (F 8 1) ≤ 16384) (k : ∀ (z : Int) (gₚ : Nat → Bool) (σₚ : rS) (Dₚ Nₚ : Nat → Nat) (Fₚ : hF) (Aₚ : hA) (cₚ sₚ : Nat), PHI Dc gₚ σₚ Dₚ Nₚ Fₚ Aₚ → STP g σ D N A c s gₚ σₚ Dₚ Nₚ Aₚ cₚ sₚ → EQD [(11, 1), (0, 18)] [12, 10, 30] [] [] D N F A Dₚ Nₚ Fₚ Aₚ → inr z → WRB (rwC F A) (rwC Fₚ Aₚ) x1 5 (sc (A 9) 0 (F 8 1)) (A 10) (paC F A) Dc st0 z (A 32 0) (Aₚ 32 0) (A 32 1) (Aₚ 32 1) (fun i => A 29 (i + 1)) (fun i => Aₚ 29 (i + 1)) → Q (some (I z)) σₚ cₚ sₚ) : Ew 17 (d + 8) 54 ls [] σ c s Q := by
  have hri : 0 ≤ F 8 1 ∧ F 8 1 ≤ 65536 := by have w := X.2.2.2.2.2.2.2.1; unfold INV0 at w; have w := w.2.2.2.1; omega
  have hL : ((sc (A 9) 0 (F 8 1)).length : Int) = F 8 1 := scn hri.1
  refine T_wc5_3 (d := d + 7) X hl0 hl1 hl3 hl4 (show inr x1 by omega) cf0 (fun ls σ1 D1 N1 F1 A1 c1 s1 X1 S1 E1 l0 l1 l3 l4 e0 w0 w1 w2 w3 => ?_) (fun z σ1 D1 N1 F1 A1 c1 s1 X1 S1 E1 q => absurd q (by decide))
  have hg0 : g 0 = true := X1.2.2.1
  refine w_callk rfl (fun rec => rinvv rfl rfl (X1.1.obj 0 (by decide +kernel) (show g 0 = true from X1.2.2.1) rfl) rec) rfl (T_the_pac (d := d + 3) X1 (fun g2 σ2 D2 N2 F2 A2 c2 s2 X2 S2 K2 K0 hj hle => ⟨rfl, ?_⟩))
  have hGI := X2.2.2.2.2.2.2.1
  have m0 : (F2 8 1) ≤ 16384 := by rw [((K2 8 (by decide +kernel) hg0).2 (by decide)).2.2]; exact e0
  have m1 : (F2 25 1) = 0 := by rw [((K2 25 (by decide +kernel) hg0).2 (by decide)).2.2]; exact w0
  have m2 : (F2 25 2) = 0 := by rw [((K2 25 (by decide +kernel) hg0).2 (by decide)).2.2]; exact w1
  have m3 : (F2 25 4) = 0 := by rw [((K2 25 (by decide +kernel) hg0).2 (by decide)).2.2]; exact w2
  have m4 : (F2 25 3) = 0 := by rw [((K2 25 (by decide +kernel) hg0).2 (by decide)).2.2]; exact w3
  have d0 : D2 0 = D1 0 := (K2 0 (by decide +kernel) hg0).1
  have d4 : D2 8 = D1 8 := (K2 8 (by decide +kernel) hg0).1
  have E12 : EQD [(2, 1), (4, 1), (6, 1), (8, 1), (11, 1), (0, 18)] [3, 5, 7, 9, 12, 10, 29, 30, 32] [] [] D N F A D2 N2 F2 A2 := EQD_tr (EQD_sub (by decide) E1) (KEP_EQ K2 K0 hg0 (by decide +kernel))
  have hs2 : sc (A2 9) 0 (F2 8 1) = sc (A 9) 0 (F 8 1) := by rw [E12.2.1 9 (by decide), E12.1 (8, 1) (by decide)]
  have ha2 : A2 10 = A 10 := E12.2.1 10 (by decide)
  refine T_wd5_3 (d := d + 2) X2 (hGI.2.2.1 hj) hj (by rw [d0]; exact l0) l1 l3 (by rw [d4]; exact l4) (show inr x1 by omega) m0 m1 m2 m3 m4 (fun  ls σ3 D3 N3 F3 A3 c3 s3 X3 S3 E3 p0 p1 p3 p4 hW => ?_) (fun z σ3 D3 N3 F3 A3 c3 s3 X3 S3 E3 zr hW => ?_)
  · rw [hs2, ha2] at hW
    have E13 : EQD [(2, 1), (4, 1), (6, 1), (8, 1), (11, 1), (0, 18)] [3, 5, 7, 9, 12, 10, 29, 30, 32] [] [] D N F A D3 N3 F3 A3 := EQD_tr E12 (EQD_sub (by decide) E3)
    have m9 : F3 8 1 ≤ 16384 := by rw [E13.1 (8, 1) (by decide)]; exact cf0
    refine T_we5_3 (d := d + 5) X3 p0 p1 p3 p4 (show inr x1 by omega) m9 (fun ls σ5 D5 N5 F5 A5 c5 s5 X5 S5 E5 v0 v1 hS hB => ?_) (fun z σ5 D5 N5 F5 A5 c5 s5 X5 S5 E5 q => absurd q (by decide))
    refine T_wg (d := d + 4) X5 v0 v1 (show inr x1 by omega) h1 (fun z σ6 D6 N6 F6 A6 c6 s6 X6 S6 E6 hz u0 u1 u2 u3 y0 y1 y2 y3 => ?_)
    have E15 : EQD [(2, 1), (4, 1), (6, 1), (8, 1), (11, 1), (0, 18)] [3, 5, 7, 9, 12, 10, 30, 29] [] [] D N F A D5 N5 F5 A5 := EQD_tr (EQD_sub (by decide) E13) (EQD_sub (by decide) E5)
    have e26 : A5 26 = A3 26 := E5.2.1 26 (by decide)
    have e25 : F5 25 1 = F3 25 1 := E5.1 (25, 1) (by decide)
    rw [e26, e25] at u0 u1 u2 u3
    rw [e25] at hz
    have hN6 : RWN (rwC F5 A5) (rwC F6 A6) x1 (sc (A3 26) 0 (F3 25 1)) := PUT_N h1 u0 u1 u2 u3 y0 y1 y2 y3
    rw [rwC_e (EQD_sub (by decide) E15)] at hN6
    have e32 : A6 32 = A5 32 := E6.2.1 32 (by decide)
    have hw32 : A3 32 = A 32 := E13.2.1 32 (by decide)
    have e29 : A6 29 = A5 29 := E6.2.1 29 (by decide)
    have hzn : 0 ≤ F3 25 1 := by have w := X3.2.2.2.2.2.2.2.1; unfold INV0 at w; have w := w.2.2.2.2.2.1; omega
    have a10 : A3 10 = A 10 := E13.2.1 10 (by decide)
    have f1 : F3 8 1 = F 8 1 := E13.1 (8, 1) (by decide)
    have hB : A5 32 1 = w32 (A3 32 1 + (if BNA (A3 10) 5 (F3 8 1) < F3 25 1 then 1 else 0)) := hB
    rw [hw32, a10, f1, ← hL] at hB
    have hS : A5 32 0 = A3 32 0 := hS
    have hP : WRB (rwC F A) (rwC F6 A6) x1 5 (sc (A 9) 0 (F 8 1)) (A 10) (paC F A) Dc st0 (F3 25 1) (A 32 0) (A6 32 0) (A 32 1) (A6 32 1) (fun i => A 29 (i + 1)) (fun i => A6 29 (i + 1)) := WRB_y (WRY_H (by exact WRY_D (D2 := Dc) (st2 := st0) (by decide) hW) (by decide)) hzn hN6 (by rw [e32]; exact hB) (y := 0) (C := []) (fun e => absurd rfl e) (fun _ => by rw [e32, hS, hw32]) (fun e => absurd e (by decide)) (fun _ i _ _ => by rw [e29, E15.2.1 29 (by decide)]) (fun e => absurd e (by decide))
    rw [hz]
    exact k (F3 25 1) g2 σ6 D6 N6 F6 A6 c6 s6 X6 (STP_trans (STP_trans (STP_trans (STP_tr0 S1 S2) S3) S5) S6) (EQD_tr (EQD_sub (by decide) E15) (EQD_sub (by decide) E6)) (by have w := X3.1.krg 25 1 (by decide +kernel) (show g2 0 = true from X3.2.2.1); exact w) hP
  · rw [hs2, ha2] at hW
    have E13 : EQD [(2, 1), (4, 1), (6, 1), (8, 1), (11, 1), (0, 18)] [3, 5, 7, 9, 12, 10, 29, 30, 32] [] [] D N F A D3 N3 F3 A3 := EQD_tr E12 (EQD_sub (by decide) E3)
    have hP : WRB (rwC F A) (rwC F3 A3) x1 5 (sc (A 9) 0 (F 8 1)) (A 10) (paC F A) Dc st0 z (A 32 0) (A3 32 0) (A 32 1) (A3 32 1) (fun i => A 29 (i + 1)) (fun i => A3 29 (i + 1)) := WRB_n (WRY_H (by exact WRY_D (D2 := Dc) (st2 := st0) (by decide) hW) (by decide)) (by omega) (by rw [rwC_e (EQD_sub (by decide) E13)]; exact RWS_r) (by rw [E13.2.1 32 (by decide)]) (by rw [E13.2.1 32 (by decide)]) (fun i _ _ => by rw [E13.2.1 29 (by decide)])
    exact k z g2 σ3 D3 N3 F3 A3 c3 s3 X3 (STP_trans (STP_tr0 S1 S2) S3) (EQD_sub (by decide) E13) (by omega) hP


end
