theorem T_readk0 {Dc : DcS} {g : Nat → Bool} {σ : rS} {D N : Nat → Nat} {F : hF} {A : hA} {d c s : Nat} {Q : wQ} (X : PHI Dc g σ D N F A) {a1 a2 a3 a4 : Int} (ha : a2 = 0) (h0 : inr a1) (h2 : inr a3) (h3 : inr a4) (k : ∀ (z : Int) (gₚ : Nat → Bool) (σₚ : rS) (Dₚ Nₚ : Nat → Nat) (Fₚ : hF) (Aₚ : hA) (cₚ sₚ : Nat), PHI Dc gₚ σₚ Dₚ Nₚ Fₚ Aₚ → STP g σ D N A c s gₚ σₚ Dₚ Nₚ Aₚ cₚ sₚ → EQD [(11, 1), (25, 1)] [12, 10, 29, 32, 26] [] [] D N F A Dₚ Nₚ Fₚ Aₚ → inr z → RDP (rwC F A) (rwC Fₚ Aₚ) a1 a2 a3 a4 (paC F A) Dc z (F 0 18) (Fₚ 0 18) (k5C A) (k5C Aₚ) → ((okd a1 ∧ okd a2 ∧ (0 ≤ a3 ∧ a3 ≤ 4) ∧ 0 ≤ a4 ∧ a4 ≤ 65536) → a3 = 4 → 0 ≤ (RDS (ap (rwC F A a2)) ((rwC F A a2).length : Int) a4 Dc).1) → Q (some (I z)) σₚ cₚ sₚ) : Ew 18 (d + 8) 0 (rargs 0 [.ref (D 0), I a1, I 0, I a3, I a4]) [] σ c s Q := by
  have ea : rwC F A a2 = sc (A 3) 0 (F 2 1) := by rw [ha]; rfl
  have hok : okd a2 := by rw [ha]; exact ⟨by decide, by decide⟩
  refine T_reada0 (d := d + 7) X h0 h2 h3 (fun tc54_1 tc54_4 tc54_5 ls σ1 D1 N1 F1 A1 c1 s1 X1 S1 E1  q0 q1 q2 q3 => ?_) (fun z σ1 D1 N1 F1 A1 c1 s1 X1 S1 E1 q => ?_)
  · skip
    have E1 : EQD [(2, 1), (4, 1), (6, 1), (8, 1), (11, 1), (0, 18), (25, 1)] [3, 5, 7, 9, 12, 10, 29, 30, 32, 26] [] [] D N F A D1 N1 F1 A1 := EQD_sub (by decide) E1
    have hr1 : rwC F1 A1 = rwC F A := rwC_e (EQD_sub (by decide) E1)
    have hk1 : k5C A1 = k5C A := k5C_e (EQD_sub (by decide) E1)
    obtain ⟨q3a, q3b, q3c⟩ := q3
    have hcd : (okd a1 ∧ okd a2 ∧ (0 ≤ a3 ∧ a3 ≤ 4) ∧ 0 ≤ a4 ∧ a4 ≤ 65536) := ⟨okd_of (by omega), hok, ⟨by omega, by omega⟩, by omega, by omega⟩
    have hp1 : paC F1 A1 = paC F A := paC_e (EQD_sub (by decide) E1)
    have hrow : sc (A1 3) 0 (F1 2 1) = rwC F A a2 := by rw [ea, E1.1 (2, 1) (by decide), E1.2.1 3 (by decide)]
    rcases (show tc54_4 = 0 ∨ tc54_4 = 1 ∨ tc54_4 = 2 ∨ tc54_4 = 3 ∨ tc54_4 = 4 by omega) with hf | hf | hf | hf | hf
    · obtain rfl : tc54_4 = 0 := hf
      refine w_callk rfl (fun rec => rinvv rfl rfl (X1.1.obj 0 (by decide +kernel) (show g 0 = true from X1.2.2.1) rfl) rec) rfl (T_ur0_r0 (d := d + 0) X1 q2 (fun z g2 σ2 D2 N2 F2 A2 c2 s2 X2 S2 zr hle E2 hb hR => ⟨rfl, ?_⟩))
      rw [← S2.1.2.1]
      refine T_readb (d := d + 3) X2 (show inr tc54_1 by omega) zr q0 (fun zz σ3 D3 N3 F3 A3 c3 s3 X3 S3 E3 hz hpl k0 k1 k2 k3 t0 t1 t2 t3 => ?_)
      rw [q3a] at k0 k1 k2 k3 t0 t1 t2 t3
      have hN3 : (0 ≤ z → RWN (rwC F2 A2) (rwC F3 A3) a1 (sc (A2 28) 0 (F2 27 1))) ∧ (z < 0 → RWS (rwC F2 A2) (rwC F3 A3)) := STL_N hcd.1 k0 k1 k2 k3 t0 t1 t2 t3
      have hr2 : rwC F2 A2 = rwC F A := (rwC_e (EQD_sub (by decide) E2)).trans hr1
      rw [hr2] at hN3
      rw [hrow, q3c] at hR
      have hR : RDQ 0 (rwC F A a2) (paC F1 A1) DCE a4 z (F2 0 17) (sc (A2 28) 0 (F2 27 1)) := hR
      rw [hp1] at hR
      rw [← hpl] at hR
      have hk3 : k5C A3 = k5C A := (k5C_e (EQD_sub (by decide) E3)).trans ((k5C_e (EQD_sub (by decide) E2)).trans hk1)
      have hP : RDP (rwC F A) (rwC F3 A3) a1 a2 a3 a4 (paC F A) Dc z (F 0 18) (F3 0 18) (k5C A) (k5C A3) := by
        have ef : (0 : Int) = a3 := q3b
        have hcd' := hcd
        rw [← ef] at hcd' ⊢
        exact .inr ⟨hcd', sc (A2 28) 0 (F2 27 1), (RDQ_D hR (by decide)), hN3.1, hN3.2, (fun e => absurd e (by decide)), (fun _ => hk3)⟩
      rw [hz]
      exact k z g2 σ3 D3 N3 F3 A3 c3 s3 X3 (STP_trans (STP_tr0 S1 S2) S3) (EQD_tr (EQD_sub (by decide) E1) (EQD_tr (EQD_sub (by decide) E2) (EQD_sub (by decide) E3))) zr hP (fun _ e => absurd e (by omega))
    · obtain rfl : tc54_4 = 1 := hf
      refine w_callk rfl (fun rec => rinvv rfl rfl (X1.1.obj 0 (by decide +kernel) (show g 0 = true from X1.2.2.1) rfl) rec) rfl (T_ur1_r0 (d := d + 0) X1 q2 (fun z g2 σ2 D2 N2 F2 A2 c2 s2 X2 S2 zr hle E2 hb hR => ⟨rfl, ?_⟩))
      rw [← S2.1.2.1]
      refine T_readb (d := d + 3) X2 (show inr tc54_1 by omega) zr q0 (fun zz σ3 D3 N3 F3 A3 c3 s3 X3 S3 E3 hz hpl k0 k1 k2 k3 t0 t1 t2 t3 => ?_)
      rw [q3a] at k0 k1 k2 k3 t0 t1 t2 t3
      have hN3 : (0 ≤ z → RWN (rwC F2 A2) (rwC F3 A3) a1 (sc (A2 28) 0 (F2 27 1))) ∧ (z < 0 → RWS (rwC F2 A2) (rwC F3 A3)) := STL_N hcd.1 k0 k1 k2 k3 t0 t1 t2 t3
      have hr2 : rwC F2 A2 = rwC F A := (rwC_e (EQD_sub (by decide) E2)).trans hr1
      rw [hr2] at hN3
      rw [hrow, q3c] at hR
      have hR : RDQ 1 (rwC F A a2) (paC F1 A1) DCE a4 z (F2 0 17) (sc (A2 28) 0 (F2 27 1)) := hR
      rw [hp1] at hR
      rw [← hpl] at hR
      have hk3 : k5C A3 = k5C A := (k5C_e (EQD_sub (by decide) E3)).trans ((k5C_e (EQD_sub (by decide) E2)).trans hk1)
      have hP : RDP (rwC F A) (rwC F3 A3) a1 a2 a3 a4 (paC F A) Dc z (F 0 18) (F3 0 18) (k5C A) (k5C A3) := by
        have ef : (1 : Int) = a3 := q3b
        have hcd' := hcd
        rw [← ef] at hcd' ⊢
        exact .inr ⟨hcd', sc (A2 28) 0 (F2 27 1), (RDQ_D hR (by decide)), hN3.1, hN3.2, (fun e => absurd e (by decide)), (fun _ => hk3)⟩
      rw [hz]
      exact k z g2 σ3 D3 N3 F3 A3 c3 s3 X3 (STP_trans (STP_tr0 S1 S2) S3) (EQD_tr (EQD_sub (by decide) E1) (EQD_tr (EQD_sub (by decide) E2) (EQD_sub (by decide) E3))) zr hP (fun _ e => absurd e (by omega))
    · obtain rfl : tc54_4 = 2 := hf
      refine w_callk rfl (fun rec => rinvv rfl rfl (X1.1.obj 0 (by decide +kernel) (show g 0 = true from X1.2.2.1) rfl) rec) rfl (T_ur2_r0 (d := d + 0) X1 q2 (fun z g2 σ2 D2 N2 F2 A2 c2 s2 X2 S2 zr hle E2 hb hR => ⟨rfl, ?_⟩))
      rw [← S2.1.2.1]
      refine T_readb (d := d + 3) X2 (show inr tc54_1 by omega) zr q0 (fun zz σ3 D3 N3 F3 A3 c3 s3 X3 S3 E3 hz hpl k0 k1 k2 k3 t0 t1 t2 t3 => ?_)
      rw [q3a] at k0 k1 k2 k3 t0 t1 t2 t3
      have hN3 : (0 ≤ z → RWN (rwC F2 A2) (rwC F3 A3) a1 (sc (A2 28) 0 (F2 27 1))) ∧ (z < 0 → RWS (rwC F2 A2) (rwC F3 A3)) := STL_N hcd.1 k0 k1 k2 k3 t0 t1 t2 t3
      have hr2 : rwC F2 A2 = rwC F A := (rwC_e (EQD_sub (by decide) E2)).trans hr1
      rw [hr2] at hN3
      rw [hrow, q3c] at hR
      rw [← hpl] at hR
      have hk3 : k5C A3 = k5C A := (k5C_e (EQD_sub (by decide) E3)).trans ((k5C_e (EQD_sub (by decide) E2)).trans hk1)
      have hP : RDP (rwC F A) (rwC F3 A3) a1 a2 a3 a4 (paC F A) Dc z (F 0 18) (F3 0 18) (k5C A) (k5C A3) := by
        have ef : (2 : Int) = a3 := q3b
        have hcd' := hcd
        rw [← ef] at hcd' ⊢
        exact .inr ⟨hcd', sc (A2 28) 0 (F2 27 1), (RDQ_H (H2 := paC F A) (RDQ_D hR (by decide)) (by decide)), hN3.1, hN3.2, (fun e => absurd e (by decide)), (fun _ => hk3)⟩
      rw [hz]
      exact k z g2 σ3 D3 N3 F3 A3 c3 s3 X3 (STP_trans (STP_tr0 S1 S2) S3) (EQD_tr (EQD_sub (by decide) E1) (EQD_tr (EQD_sub (by decide) E2) (EQD_sub (by decide) E3))) zr hP (fun _ e => absurd e (by omega))
    · obtain rfl : tc54_4 = 3 := hf
      refine w_callk rfl (fun rec => rinvv rfl rfl (X1.1.obj 0 (by decide +kernel) (show g 0 = true from X1.2.2.1) rfl) rec) rfl (T_ur3_r0 (d := d + 0) X1 q2 (fun z g2 σ2 D2 N2 F2 A2 c2 s2 X2 S2 zr hle E2 hb hR => ⟨rfl, ?_⟩))
      rw [← S2.1.2.1]
      refine T_readb (d := d + 3) X2 (show inr tc54_1 by omega) zr q0 (fun zz σ3 D3 N3 F3 A3 c3 s3 X3 S3 E3 hz hpl k0 k1 k2 k3 t0 t1 t2 t3 => ?_)
      rw [q3a] at k0 k1 k2 k3 t0 t1 t2 t3
      have hN3 : (0 ≤ z → RWN (rwC F2 A2) (rwC F3 A3) a1 (sc (A2 28) 0 (F2 27 1))) ∧ (z < 0 → RWS (rwC F2 A2) (rwC F3 A3)) := STL_N hcd.1 k0 k1 k2 k3 t0 t1 t2 t3
      have hr2 : rwC F2 A2 = rwC F A := (rwC_e (EQD_sub (by decide) E2)).trans hr1
      rw [hr2] at hN3
      rw [hrow, q3c] at hR
      rw [← hpl] at hR
      have hk3 : k5C A3 = k5C A := (k5C_e (EQD_sub (by decide) E3)).trans ((k5C_e (EQD_sub (by decide) E2)).trans hk1)
      have hP : RDP (rwC F A) (rwC F3 A3) a1 a2 a3 a4 (paC F A) Dc z (F 0 18) (F3 0 18) (k5C A) (k5C A3) := by
        have ef : (3 : Int) = a3 := q3b
        have hcd' := hcd
        rw [← ef] at hcd' ⊢
        exact .inr ⟨hcd', sc (A2 28) 0 (F2 27 1), (RDQ_H (H2 := paC F A) (RDQ_D hR (by decide)) (by decide)), hN3.1, hN3.2, (fun e => absurd e (by decide)), (fun _ => hk3)⟩
      rw [hz]
      exact k z g2 σ3 D3 N3 F3 A3 c3 s3 X3 (STP_trans (STP_tr0 S1 S2) S3) (EQD_tr (EQD_sub (by decide) E1) (EQD_tr (EQD_sub (by decide) E2) (EQD_sub (by decide) E3))) zr hP (fun _ e => absurd e (by omega))
    · obtain rfl : tc54_4 = 4 := hf
      refine w_callk rfl (fun rec => rinvv rfl rfl (X1.1.obj 0 (by decide +kernel) (show g 0 = true from X1.2.2.1) rfl) rec) rfl (T_ur4_r0 (d := d + 0) X1 q2 (fun z g2 σ2 D2 N2 F2 A2 c2 s2 X2 S2 zr hle E2 hb hR hC hN => ⟨rfl, ?_⟩))
      rw [← S2.1.2.1]
      refine T_readb (d := d + 3) X2 (show inr tc54_1 by omega) zr q0 (fun zz σ3 D3 N3 F3 A3 c3 s3 X3 S3 E3 hz hpl k0 k1 k2 k3 t0 t1 t2 t3 => ?_)
      rw [q3a] at k0 k1 k2 k3 t0 t1 t2 t3
      have hN3 : (0 ≤ z → RWN (rwC F2 A2) (rwC F3 A3) a1 (sc (A2 28) 0 (F2 27 1))) ∧ (z < 0 → RWS (rwC F2 A2) (rwC F3 A3)) := STL_N hcd.1 k0 k1 k2 k3 t0 t1 t2 t3
      have hr2 : rwC F2 A2 = rwC F A := (rwC_e (EQD_sub (by decide) E2)).trans hr1
      rw [hr2] at hN3
      rw [hrow, q3c] at hR hC hN
      rw [← hpl] at hR
      have hk3 : k5C A3 = (A2 30 0, A2 30 1, A2 30 2, A2 30 3, A2 30 4) := k5C_e (EQD_sub (by decide) E3)
      have hP : RDP (rwC F A) (rwC F3 A3) a1 a2 a3 a4 (paC F A) Dc z (F 0 18) (F3 0 18) (k5C A) (k5C A3) := by
        have ef : (4 : Int) = a3 := q3b
        have hcd' := hcd
        rw [← ef] at hcd' ⊢
        exact .inr ⟨hcd', sc (A2 28) 0 (F2 27 1), (RDQ_H (H2 := paC F A) hR (by decide)), hN3.1, hN3.2, (fun _ => by rw [hk3]; exact hC), (fun e => absurd rfl e)⟩
      rw [hz]
      exact k z g2 σ3 D3 N3 F3 A3 c3 s3 X3 (STP_trans (STP_tr0 S1 S2) S3) (EQD_tr (EQD_sub (by decide) E1) (EQD_tr (EQD_sub (by decide) E2) (EQD_sub (by decide) E3))) zr hP (fun _ e => hN)
  · skip
    have E1 : EQD [(2, 1), (4, 1), (6, 1), (8, 1), (11, 1), (0, 18), (25, 1)] [3, 5, 7, 9, 12, 10, 29, 30, 32, 26] [] [] D N F A D1 N1 F1 A1 := EQD_sub (by decide) E1
    have hr1 : rwC F1 A1 = rwC F A := rwC_e (EQD_sub (by decide) E1)
    have hk1 : k5C A1 = k5C A := k5C_e (EQD_sub (by decide) E1)
    have hp0 : F1 0 18 = F 0 18 := E1.1 (0, 18) (by decide)
    have hS : RWS (rwC F A) (rwC F1 A1) := by rw [hr1]; exact RWS_r
    have hn : ¬ (okd a1 ∧ okd a2 ∧ (0 ≤ a3 ∧ a3 ≤ 4) ∧ 0 ≤ a4 ∧ a4 ≤ 65536) := fun w => by have w1 := w.1; have w2 := w.2.2; unfold okd at w1; omega
    have hP : RDP (rwC F A) (rwC F1 A1) a1 a2 a3 a4 (paC F A) Dc z (F 0 18) (F1 0 18) (k5C A) (k5C A1) := .inl ⟨hn, q.1, hS, hp0, hk1⟩
    exact k z g σ1 D1 N1 F1 A1 c1 s1 X1 S1 (EQD_sub (by decide) E1) (by omega) hP (fun w => absurd w hn)
theorem T_readk1 {Dc : DcS} {g : Nat → Bool} {σ : rS} {D N : Nat → Nat} {F : hF} {A : hA} {d c s : Nat} {Q : wQ} (X : PHI Dc g σ D N F A) {a1 a2 a3 a4 : Int} (ha : a2 = 1) (h0 : inr a1) (h2 : inr a3) (h3 : inr a4) (k : ∀ (z : Int) (gₚ : Nat → Bool) (σₚ : rS) (Dₚ Nₚ : Nat → Nat) (Fₚ : hF) (Aₚ : hA) (cₚ sₚ : Nat), PHI Dc gₚ σₚ Dₚ Nₚ Fₚ Aₚ → STP g σ D N A c s gₚ σₚ Dₚ Nₚ Aₚ cₚ sₚ → EQD [(11, 1), (25, 1)] [12, 10, 29, 32, 26] [] [] D N F A Dₚ Nₚ Fₚ Aₚ → inr z → RDP (rwC F A) (rwC Fₚ Aₚ) a1 a2 a3 a4 (paC F A) Dc z (F 0 18) (Fₚ 0 18) (k5C A) (k5C Aₚ) → ((okd a1 ∧ okd a2 ∧ (0 ≤ a3 ∧ a3 ≤ 4) ∧ 0 ≤ a4 ∧ a4 ≤ 65536) → a3 = 4 → 0 ≤ (RDS (ap (rwC F A a2)) ((rwC F A a2).length : Int) a4 Dc).1) → Q (some (I z)) σₚ cₚ sₚ) : Ew 18 (d + 8) 0 (rargs 0 [.ref (D 0), I a1, I 1, I a3, I a4]) [] σ c s Q := by
  have ea : rwC F A a2 = sc (A 5) 0 (F 4 1) := by rw [ha]; rfl
  have hok : okd a2 := by rw [ha]; exact ⟨by decide, by decide⟩
  refine T_reada1 (d := d + 7) X h0 h2 h3 (fun tc54_1 tc54_4 tc54_5 ls σ1 D1 N1 F1 A1 c1 s1 X1 S1 E1  q0 q1 q2 q3 => ?_) (fun z σ1 D1 N1 F1 A1 c1 s1 X1 S1 E1 q => ?_)
  · skip
    have E1 : EQD [(2, 1), (4, 1), (6, 1), (8, 1), (11, 1), (0, 18), (25, 1)] [3, 5, 7, 9, 12, 10, 29, 30, 32, 26] [] [] D N F A D1 N1 F1 A1 := EQD_sub (by decide) E1
    have hr1 : rwC F1 A1 = rwC F A := rwC_e (EQD_sub (by decide) E1)
    have hk1 : k5C A1 = k5C A := k5C_e (EQD_sub (by decide) E1)
    obtain ⟨q3a, q3b, q3c⟩ := q3
    have hcd : (okd a1 ∧ okd a2 ∧ (0 ≤ a3 ∧ a3 ≤ 4) ∧ 0 ≤ a4 ∧ a4 ≤ 65536) := ⟨okd_of (by omega), hok, ⟨by omega, by omega⟩, by omega, by omega⟩
    have hp1 : paC F1 A1 = paC F A := paC_e (EQD_sub (by decide) E1)
    have hrow : sc (A1 5) 0 (F1 4 1) = rwC F A a2 := by rw [ea, E1.1 (4, 1) (by decide), E1.2.1 5 (by decide)]
    rcases (show tc54_4 = 0 ∨ tc54_4 = 1 ∨ tc54_4 = 2 ∨ tc54_4 = 3 ∨ tc54_4 = 4 by omega) with hf | hf | hf | hf | hf
    · obtain rfl : tc54_4 = 0 := hf
      refine w_callk rfl (fun rec => rinvv rfl rfl (X1.1.obj 0 (by decide +kernel) (show g 0 = true from X1.2.2.1) rfl) rec) rfl (T_ur0_r1 (d := d + 0) X1 q2 (fun z g2 σ2 D2 N2 F2 A2 c2 s2 X2 S2 zr hle E2 hb hR => ⟨rfl, ?_⟩))
      rw [← S2.1.2.1]
      refine T_readb (d := d + 3) X2 (show inr tc54_1 by omega) zr q0 (fun zz σ3 D3 N3 F3 A3 c3 s3 X3 S3 E3 hz hpl k0 k1 k2 k3 t0 t1 t2 t3 => ?_)
      rw [q3a] at k0 k1 k2 k3 t0 t1 t2 t3
      have hN3 : (0 ≤ z → RWN (rwC F2 A2) (rwC F3 A3) a1 (sc (A2 28) 0 (F2 27 1))) ∧ (z < 0 → RWS (rwC F2 A2) (rwC F3 A3)) := STL_N hcd.1 k0 k1 k2 k3 t0 t1 t2 t3
      have hr2 : rwC F2 A2 = rwC F A := (rwC_e (EQD_sub (by decide) E2)).trans hr1
      rw [hr2] at hN3
      rw [hrow, q3c] at hR
      have hR : RDQ 0 (rwC F A a2) (paC F1 A1) DCE a4 z (F2 0 17) (sc (A2 28) 0 (F2 27 1)) := hR
      rw [hp1] at hR
      rw [← hpl] at hR
      have hk3 : k5C A3 = k5C A := (k5C_e (EQD_sub (by decide) E3)).trans ((k5C_e (EQD_sub (by decide) E2)).trans hk1)
      have hP : RDP (rwC F A) (rwC F3 A3) a1 a2 a3 a4 (paC F A) Dc z (F 0 18) (F3 0 18) (k5C A) (k5C A3) := by
        have ef : (0 : Int) = a3 := q3b
        have hcd' := hcd
        rw [← ef] at hcd' ⊢
        exact .inr ⟨hcd', sc (A2 28) 0 (F2 27 1), (RDQ_D hR (by decide)), hN3.1, hN3.2, (fun e => absurd e (by decide)), (fun _ => hk3)⟩
      rw [hz]
      exact k z g2 σ3 D3 N3 F3 A3 c3 s3 X3 (STP_trans (STP_tr0 S1 S2) S3) (EQD_tr (EQD_sub (by decide) E1) (EQD_tr (EQD_sub (by decide) E2) (EQD_sub (by decide) E3))) zr hP (fun _ e => absurd e (by omega))
    · obtain rfl : tc54_4 = 1 := hf
      refine w_callk rfl (fun rec => rinvv rfl rfl (X1.1.obj 0 (by decide +kernel) (show g 0 = true from X1.2.2.1) rfl) rec) rfl (T_ur1_r1 (d := d + 0) X1 q2 (fun z g2 σ2 D2 N2 F2 A2 c2 s2 X2 S2 zr hle E2 hb hR => ⟨rfl, ?_⟩))
      rw [← S2.1.2.1]
      refine T_readb (d := d + 3) X2 (show inr tc54_1 by omega) zr q0 (fun zz σ3 D3 N3 F3 A3 c3 s3 X3 S3 E3 hz hpl k0 k1 k2 k3 t0 t1 t2 t3 => ?_)
      rw [q3a] at k0 k1 k2 k3 t0 t1 t2 t3
      have hN3 : (0 ≤ z → RWN (rwC F2 A2) (rwC F3 A3) a1 (sc (A2 28) 0 (F2 27 1))) ∧ (z < 0 → RWS (rwC F2 A2) (rwC F3 A3)) := STL_N hcd.1 k0 k1 k2 k3 t0 t1 t2 t3
      have hr2 : rwC F2 A2 = rwC F A := (rwC_e (EQD_sub (by decide) E2)).trans hr1
      rw [hr2] at hN3
      rw [hrow, q3c] at hR
      have hR : RDQ 1 (rwC F A a2) (paC F1 A1) DCE a4 z (F2 0 17) (sc (A2 28) 0 (F2 27 1)) := hR
      rw [hp1] at hR
      rw [← hpl] at hR
      have hk3 : k5C A3 = k5C A := (k5C_e (EQD_sub (by decide) E3)).trans ((k5C_e (EQD_sub (by decide) E2)).trans hk1)
      have hP : RDP (rwC F A) (rwC F3 A3) a1 a2 a3 a4 (paC F A) Dc z (F 0 18) (F3 0 18) (k5C A) (k5C A3) := by
        have ef : (1 : Int) = a3 := q3b
        have hcd' := hcd
        rw [← ef] at hcd' ⊢
        exact .inr ⟨hcd', sc (A2 28) 0 (F2 27 1), (RDQ_D hR (by decide)), hN3.1, hN3.2, (fun e => absurd e (by decide)), (fun _ => hk3)⟩
      rw [hz]
      exact k z g2 σ3 D3 N3 F3 A3 c3 s3 X3 (STP_trans (STP_tr0 S1 S2) S3) (EQD_tr (EQD_sub (by decide) E1) (EQD_tr (EQD_sub (by decide) E2) (EQD_sub (by decide) E3))) zr hP (fun _ e => absurd e (by omega))
    · obtain rfl : tc54_4 = 2 := hf
      refine w_callk rfl (fun rec => rinvv rfl rfl (X1.1.obj 0 (by decide +kernel) (show g 0 = true from X1.2.2.1) rfl) rec) rfl (T_ur2_r1 (d := d + 0) X1 q2 (fun z g2 σ2 D2 N2 F2 A2 c2 s2 X2 S2 zr hle E2 hb hR => ⟨rfl, ?_⟩))
      rw [← S2.1.2.1]
      refine T_readb (d := d + 3) X2 (show inr tc54_1 by omega) zr q0 (fun zz σ3 D3 N3 F3 A3 c3 s3 X3 S3 E3 hz hpl k0 k1 k2 k3 t0 t1 t2 t3 => ?_)
      rw [q3a] at k0 k1 k2 k3 t0 t1 t2 t3
      have hN3 : (0 ≤ z → RWN (rwC F2 A2) (rwC F3 A3) a1 (sc (A2 28) 0 (F2 27 1))) ∧ (z < 0 → RWS (rwC F2 A2) (rwC F3 A3)) := STL_N hcd.1 k0 k1 k2 k3 t0 t1 t2 t3
      have hr2 : rwC F2 A2 = rwC F A := (rwC_e (EQD_sub (by decide) E2)).trans hr1
      rw [hr2] at hN3
      rw [hrow, q3c] at hR
      rw [← hpl] at hR
      have hk3 : k5C A3 = k5C A := (k5C_e (EQD_sub (by decide) E3)).trans ((k5C_e (EQD_sub (by decide) E2)).trans hk1)
      have hP : RDP (rwC F A) (rwC F3 A3) a1 a2 a3 a4 (paC F A) Dc z (F 0 18) (F3 0 18) (k5C A) (k5C A3) := by
        have ef : (2 : Int) = a3 := q3b
        have hcd' := hcd
        rw [← ef] at hcd' ⊢
        exact .inr ⟨hcd', sc (A2 28) 0 (F2 27 1), (RDQ_H (H2 := paC F A) (RDQ_D hR (by decide)) (by decide)), hN3.1, hN3.2, (fun e => absurd e (by decide)), (fun _ => hk3)⟩
      rw [hz]
      exact k z g2 σ3 D3 N3 F3 A3 c3 s3 X3 (STP_trans (STP_tr0 S1 S2) S3) (EQD_tr (EQD_sub (by decide) E1) (EQD_tr (EQD_sub (by decide) E2) (EQD_sub (by decide) E3))) zr hP (fun _ e => absurd e (by omega))
    · obtain rfl : tc54_4 = 3 := hf
      refine w_callk rfl (fun rec => rinvv rfl rfl (X1.1.obj 0 (by decide +kernel) (show g 0 = true from X1.2.2.1) rfl) rec) rfl (T_ur3_r1 (d := d + 0) X1 q2 (fun z g2 σ2 D2 N2 F2 A2 c2 s2 X2 S2 zr hle E2 hb hR => ⟨rfl, ?_⟩))
      rw [← S2.1.2.1]
      refine T_readb (d := d + 3) X2 (show inr tc54_1 by omega) zr q0 (fun zz σ3 D3 N3 F3 A3 c3 s3 X3 S3 E3 hz hpl k0 k1 k2 k3 t0 t1 t2 t3 => ?_)
      rw [q3a] at k0 k1 k2 k3 t0 t1 t2 t3
      have hN3 : (0 ≤ z → RWN (rwC F2 A2) (rwC F3 A3) a1 (sc (A2 28) 0 (F2 27 1))) ∧ (z < 0 → RWS (rwC F2 A2) (rwC F3 A3)) := STL_N hcd.1 k0 k1 k2 k3 t0 t1 t2 t3
      have hr2 : rwC F2 A2 = rwC F A := (rwC_e (EQD_sub (by decide) E2)).trans hr1
      rw [hr2] at hN3
      rw [hrow, q3c] at hR
      rw [← hpl] at hR
      have hk3 : k5C A3 = k5C A := (k5C_e (EQD_sub (by decide) E3)).trans ((k5C_e (EQD_sub (by decide) E2)).trans hk1)
      have hP : RDP (rwC F A) (rwC F3 A3) a1 a2 a3 a4 (paC F A) Dc z (F 0 18) (F3 0 18) (k5C A) (k5C A3) := by
        have ef : (3 : Int) = a3 := q3b
        have hcd' := hcd
        rw [← ef] at hcd' ⊢
        exact .inr ⟨hcd', sc (A2 28) 0 (F2 27 1), (RDQ_H (H2 := paC F A) (RDQ_D hR (by decide)) (by decide)), hN3.1, hN3.2, (fun e => absurd e (by decide)), (fun _ => hk3)⟩
      rw [hz]
      exact k z g2 σ3 D3 N3 F3 A3 c3 s3 X3 (STP_trans (STP_tr0 S1 S2) S3) (EQD_tr (EQD_sub (by decide) E1) (EQD_tr (EQD_sub (by decide) E2) (EQD_sub (by decide) E3))) zr hP (fun _ e => absurd e (by omega))
    · obtain rfl : tc54_4 = 4 := hf
      refine w_callk rfl (fun rec => rinvv rfl rfl (X1.1.obj 0 (by decide +kernel) (show g 0 = true from X1.2.2.1) rfl) rec) rfl (T_ur4_r1 (d := d + 0) X1 q2 (fun z g2 σ2 D2 N2 F2 A2 c2 s2 X2 S2 zr hle E2 hb hR hC hN => ⟨rfl, ?_⟩))
      rw [← S2.1.2.1]
      refine T_readb (d := d + 3) X2 (show inr tc54_1 by omega) zr q0 (fun zz σ3 D3 N3 F3 A3 c3 s3 X3 S3 E3 hz hpl k0 k1 k2 k3 t0 t1 t2 t3 => ?_)
      rw [q3a] at k0 k1 k2 k3 t0 t1 t2 t3
      have hN3 : (0 ≤ z → RWN (rwC F2 A2) (rwC F3 A3) a1 (sc (A2 28) 0 (F2 27 1))) ∧ (z < 0 → RWS (rwC F2 A2) (rwC F3 A3)) := STL_N hcd.1 k0 k1 k2 k3 t0 t1 t2 t3
      have hr2 : rwC F2 A2 = rwC F A := (rwC_e (EQD_sub (by decide) E2)).trans hr1
      rw [hr2] at hN3
      rw [hrow, q3c] at hR hC hN
      rw [← hpl] at hR
      have hk3 : k5C A3 = (A2 30 0, A2 30 1, A2 30 2, A2 30 3, A2 30 4) := k5C_e (EQD_sub (by decide) E3)
      have hP : RDP (rwC F A) (rwC F3 A3) a1 a2 a3 a4 (paC F A) Dc z (F 0 18) (F3 0 18) (k5C A) (k5C A3) := by
        have ef : (4 : Int) = a3 := q3b
        have hcd' := hcd
        rw [← ef] at hcd' ⊢
        exact .inr ⟨hcd', sc (A2 28) 0 (F2 27 1), (RDQ_H (H2 := paC F A) hR (by decide)), hN3.1, hN3.2, (fun _ => by rw [hk3]; exact hC), (fun e => absurd rfl e)⟩
      rw [hz]
      exact k z g2 σ3 D3 N3 F3 A3 c3 s3 X3 (STP_trans (STP_tr0 S1 S2) S3) (EQD_tr (EQD_sub (by decide) E1) (EQD_tr (EQD_sub (by decide) E2) (EQD_sub (by decide) E3))) zr hP (fun _ e => hN)
  · skip
    have E1 : EQD [(2, 1), (4, 1), (6, 1), (8, 1), (11, 1), (0, 18), (25, 1)] [3, 5, 7, 9, 12, 10, 29, 30, 32, 26] [] [] D N F A D1 N1 F1 A1 := EQD_sub (by decide) E1
    have hr1 : rwC F1 A1 = rwC F A := rwC_e (EQD_sub (by decide) E1)
    have hk1 : k5C A1 = k5C A := k5C_e (EQD_sub (by decide) E1)
    have hp0 : F1 0 18 = F 0 18 := E1.1 (0, 18) (by decide)
    have hS : RWS (rwC F A) (rwC F1 A1) := by rw [hr1]; exact RWS_r
    have hn : ¬ (okd a1 ∧ okd a2 ∧ (0 ≤ a3 ∧ a3 ≤ 4) ∧ 0 ≤ a4 ∧ a4 ≤ 65536) := fun w => by have w1 := w.1; have w2 := w.2.2; unfold okd at w1; omega
    have hP : RDP (rwC F A) (rwC F1 A1) a1 a2 a3 a4 (paC F A) Dc z (F 0 18) (F1 0 18) (k5C A) (k5C A1) := .inl ⟨hn, q.1, hS, hp0, hk1⟩
    exact k z g σ1 D1 N1 F1 A1 c1 s1 X1 S1 (EQD_sub (by decide) E1) (by omega) hP (fun w => absurd w hn)
theorem T_readk2 {Dc : DcS} {g : Nat → Bool} {σ : rS} {D N : Nat → Nat} {F : hF} {A : hA} {d c s : Nat} {Q : wQ} (X : PHI Dc g σ D N F A) {a1 a2 a3 a4 : Int} (ha : a2 = 2) (h0 : inr a1) (h2 : inr a3) (h3 : inr a4) (k : ∀ (z : Int) (gₚ : Nat → Bool) (σₚ : rS) (Dₚ Nₚ : Nat → Nat) (Fₚ : hF) (Aₚ : hA) (cₚ sₚ : Nat), PHI Dc gₚ σₚ Dₚ Nₚ Fₚ Aₚ → STP g σ D N A c s gₚ σₚ Dₚ Nₚ Aₚ cₚ sₚ → EQD [(11, 1), (25, 1)] [12, 10, 29, 32, 26] [] [] D N F A Dₚ Nₚ Fₚ Aₚ → inr z → RDP (rwC F A) (rwC Fₚ Aₚ) a1 a2 a3 a4 (paC F A) Dc z (F 0 18) (Fₚ 0 18) (k5C A) (k5C Aₚ) → ((okd a1 ∧ okd a2 ∧ (0 ≤ a3 ∧ a3 ≤ 4) ∧ 0 ≤ a4 ∧ a4 ≤ 65536) → a3 = 4 → 0 ≤ (RDS (ap (rwC F A a2)) ((rwC F A a2).length : Int) a4 Dc).1) → Q (some (I z)) σₚ cₚ sₚ) : Ew 18 (d + 8) 0 (rargs 0 [.ref (D 0), I a1, I 2, I a3, I a4]) [] σ c s Q := by
  have ea : rwC F A a2 = sc (A 7) 0 (F 6 1) := by rw [ha]; rfl
  have hok : okd a2 := by rw [ha]; exact ⟨by decide, by decide⟩
  refine T_reada2 (d := d + 7) X h0 h2 h3 (fun tc54_1 tc54_4 tc54_5 ls σ1 D1 N1 F1 A1 c1 s1 X1 S1 E1  q0 q1 q2 q3 => ?_) (fun z σ1 D1 N1 F1 A1 c1 s1 X1 S1 E1 q => ?_)
  · skip
    have E1 : EQD [(2, 1), (4, 1), (6, 1), (8, 1), (11, 1), (0, 18), (25, 1)] [3, 5, 7, 9, 12, 10, 29, 30, 32, 26] [] [] D N F A D1 N1 F1 A1 := EQD_sub (by decide) E1
    have hr1 : rwC F1 A1 = rwC F A := rwC_e (EQD_sub (by decide) E1)
    have hk1 : k5C A1 = k5C A := k5C_e (EQD_sub (by decide) E1)
    obtain ⟨q3a, q3b, q3c⟩ := q3
    have hcd : (okd a1 ∧ okd a2 ∧ (0 ≤ a3 ∧ a3 ≤ 4) ∧ 0 ≤ a4 ∧ a4 ≤ 65536) := ⟨okd_of (by omega), hok, ⟨by omega, by omega⟩, by omega, by omega⟩
    have hp1 : paC F1 A1 = paC F A := paC_e (EQD_sub (by decide) E1)
    have hrow : sc (A1 7) 0 (F1 6 1) = rwC F A a2 := by rw [ea, E1.1 (6, 1) (by decide), E1.2.1 7 (by decide)]
    rcases (show tc54_4 = 0 ∨ tc54_4 = 1 ∨ tc54_4 = 2 ∨ tc54_4 = 3 ∨ tc54_4 = 4 by omega) with hf | hf | hf | hf | hf
    · obtain rfl : tc54_4 = 0 := hf
      refine w_callk rfl (fun rec => rinvv rfl rfl (X1.1.obj 0 (by decide +kernel) (show g 0 = true from X1.2.2.1) rfl) rec) rfl (T_ur0_r2 (d := d + 0) X1 q2 (fun z g2 σ2 D2 N2 F2 A2 c2 s2 X2 S2 zr hle E2 hb hR => ⟨rfl, ?_⟩))
      rw [← S2.1.2.1]
      refine T_readb (d := d + 3) X2 (show inr tc54_1 by omega) zr q0 (fun zz σ3 D3 N3 F3 A3 c3 s3 X3 S3 E3 hz hpl k0 k1 k2 k3 t0 t1 t2 t3 => ?_)
      rw [q3a] at k0 k1 k2 k3 t0 t1 t2 t3
      have hN3 : (0 ≤ z → RWN (rwC F2 A2) (rwC F3 A3) a1 (sc (A2 28) 0 (F2 27 1))) ∧ (z < 0 → RWS (rwC F2 A2) (rwC F3 A3)) := STL_N hcd.1 k0 k1 k2 k3 t0 t1 t2 t3
      have hr2 : rwC F2 A2 = rwC F A := (rwC_e (EQD_sub (by decide) E2)).trans hr1
      rw [hr2] at hN3
      rw [hrow, q3c] at hR
      have hR : RDQ 0 (rwC F A a2) (paC F1 A1) DCE a4 z (F2 0 17) (sc (A2 28) 0 (F2 27 1)) := hR
      rw [hp1] at hR
      rw [← hpl] at hR
      have hk3 : k5C A3 = k5C A := (k5C_e (EQD_sub (by decide) E3)).trans ((k5C_e (EQD_sub (by decide) E2)).trans hk1)
      have hP : RDP (rwC F A) (rwC F3 A3) a1 a2 a3 a4 (paC F A) Dc z (F 0 18) (F3 0 18) (k5C A) (k5C A3) := by
        have ef : (0 : Int) = a3 := q3b
        have hcd' := hcd
        rw [← ef] at hcd' ⊢
        exact .inr ⟨hcd', sc (A2 28) 0 (F2 27 1), (RDQ_D hR (by decide)), hN3.1, hN3.2, (fun e => absurd e (by decide)), (fun _ => hk3)⟩
      rw [hz]
      exact k z g2 σ3 D3 N3 F3 A3 c3 s3 X3 (STP_trans (STP_tr0 S1 S2) S3) (EQD_tr (EQD_sub (by decide) E1) (EQD_tr (EQD_sub (by decide) E2) (EQD_sub (by decide) E3))) zr hP (fun _ e => absurd e (by omega))
    · obtain rfl : tc54_4 = 1 := hf
      refine w_callk rfl (fun rec => rinvv rfl rfl (X1.1.obj 0 (by decide +kernel) (show g 0 = true from X1.2.2.1) rfl) rec) rfl (T_ur1_r2 (d := d + 0) X1 q2 (fun z g2 σ2 D2 N2 F2 A2 c2 s2 X2 S2 zr hle E2 hb hR => ⟨rfl, ?_⟩))
      rw [← S2.1.2.1]
      refine T_readb (d := d + 3) X2 (show inr tc54_1 by omega) zr q0 (fun zz σ3 D3 N3 F3 A3 c3 s3 X3 S3 E3 hz hpl k0 k1 k2 k3 t0 t1 t2 t3 => ?_)
      rw [q3a] at k0 k1 k2 k3 t0 t1 t2 t3
      have hN3 : (0 ≤ z → RWN (rwC F2 A2) (rwC F3 A3) a1 (sc (A2 28) 0 (F2 27 1))) ∧ (z < 0 → RWS (rwC F2 A2) (rwC F3 A3)) := STL_N hcd.1 k0 k1 k2 k3 t0 t1 t2 t3
      have hr2 : rwC F2 A2 = rwC F A := (rwC_e (EQD_sub (by decide) E2)).trans hr1
      rw [hr2] at hN3
      rw [hrow, q3c] at hR
      have hR : RDQ 1 (rwC F A a2) (paC F1 A1) DCE a4 z (F2 0 17) (sc (A2 28) 0 (F2 27 1)) := hR
      rw [hp1] at hR
      rw [← hpl] at hR
      have hk3 : k5C A3 = k5C A := (k5C_e (EQD_sub (by decide) E3)).trans ((k5C_e (EQD_sub (by decide) E2)).trans hk1)
      have hP : RDP (rwC F A) (rwC F3 A3) a1 a2 a3 a4 (paC F A) Dc z (F 0 18) (F3 0 18) (k5C A) (k5C A3) := by
        have ef : (1 : Int) = a3 := q3b
        have hcd' := hcd
        rw [← ef] at hcd' ⊢
        exact .inr ⟨hcd', sc (A2 28) 0 (F2 27 1), (RDQ_D hR (by decide)), hN3.1, hN3.2, (fun e => absurd e (by decide)), (fun _ => hk3)⟩
      rw [hz]
      exact k z g2 σ3 D3 N3 F3 A3 c3 s3 X3 (STP_trans (STP_tr0 S1 S2) S3) (EQD_tr (EQD_sub (by decide) E1) (EQD_tr (EQD_sub (by decide) E2) (EQD_sub (by decide) E3))) zr hP (fun _ e => absurd e (by omega))
    · obtain rfl : tc54_4 = 2 := hf
      refine w_callk rfl (fun rec => rinvv rfl rfl (X1.1.obj 0 (by decide +kernel) (show g 0 = true from X1.2.2.1) rfl) rec) rfl (T_ur2_r2 (d := d + 0) X1 q2 (fun z g2 σ2 D2 N2 F2 A2 c2 s2 X2 S2 zr hle E2 hb hR => ⟨rfl, ?_⟩))
      rw [← S2.1.2.1]
      refine T_readb (d := d + 3) X2 (show inr tc54_1 by omega) zr q0 (fun zz σ3 D3 N3 F3 A3 c3 s3 X3 S3 E3 hz hpl k0 k1 k2 k3 t0 t1 t2 t3 => ?_)
      rw [q3a] at k0 k1 k2 k3 t0 t1 t2 t3
      have hN3 : (0 ≤ z → RWN (rwC F2 A2) (rwC F3 A3) a1 (sc (A2 28) 0 (F2 27 1))) ∧ (z < 0 → RWS (rwC F2 A2) (rwC F3 A3)) := STL_N hcd.1 k0 k1 k2 k3 t0 t1 t2 t3
      have hr2 : rwC F2 A2 = rwC F A := (rwC_e (EQD_sub (by decide) E2)).trans hr1
      rw [hr2] at hN3
      rw [hrow, q3c] at hR
      rw [← hpl] at hR
      have hk3 : k5C A3 = k5C A := (k5C_e (EQD_sub (by decide) E3)).trans ((k5C_e (EQD_sub (by decide) E2)).trans hk1)
      have hP : RDP (rwC F A) (rwC F3 A3) a1 a2 a3 a4 (paC F A) Dc z (F 0 18) (F3 0 18) (k5C A) (k5C A3) := by
        have ef : (2 : Int) = a3 := q3b
        have hcd' := hcd
        rw [← ef] at hcd' ⊢
        exact .inr ⟨hcd', sc (A2 28) 0 (F2 27 1), (RDQ_H (H2 := paC F A) (RDQ_D hR (by decide)) (by decide)), hN3.1, hN3.2, (fun e => absurd e (by decide)), (fun _ => hk3)⟩
      rw [hz]
      exact k z g2 σ3 D3 N3 F3 A3 c3 s3 X3 (STP_trans (STP_tr0 S1 S2) S3) (EQD_tr (EQD_sub (by decide) E1) (EQD_tr (EQD_sub (by decide) E2) (EQD_sub (by decide) E3))) zr hP (fun _ e => absurd e (by omega))
    · obtain rfl : tc54_4 = 3 := hf
      refine w_callk rfl (fun rec => rinvv rfl rfl (X1.1.obj 0 (by decide +kernel) (show g 0 = true from X1.2.2.1) rfl) rec) rfl (T_ur3_r2 (d := d + 0) X1 q2 (fun z g2 σ2 D2 N2 F2 A2 c2 s2 X2 S2 zr hle E2 hb hR => ⟨rfl, ?_⟩))
      rw [← S2.1.2.1]
      refine T_readb (d := d + 3) X2 (show inr tc54_1 by omega) zr q0 (fun zz σ3 D3 N3 F3 A3 c3 s3 X3 S3 E3 hz hpl k0 k1 k2 k3 t0 t1 t2 t3 => ?_)
      rw [q3a] at k0 k1 k2 k3 t0 t1 t2 t3
      have hN3 : (0 ≤ z → RWN (rwC F2 A2) (rwC F3 A3) a1 (sc (A2 28) 0 (F2 27 1))) ∧ (z < 0 → RWS (rwC F2 A2) (rwC F3 A3)) := STL_N hcd.1 k0 k1 k2 k3 t0 t1 t2 t3
      have hr2 : rwC F2 A2 = rwC F A := (rwC_e (EQD_sub (by decide) E2)).trans hr1
      rw [hr2] at hN3
      rw [hrow, q3c] at hR
      rw [← hpl] at hR
      have hk3 : k5C A3 = k5C A := (k5C_e (EQD_sub (by decide) E3)).trans ((k5C_e (EQD_sub (by decide) E2)).trans hk1)
      have hP : RDP (rwC F A) (rwC F3 A3) a1 a2 a3 a4 (paC F A) Dc z (F 0 18) (F3 0 18) (k5C A) (k5C A3) := by
        have ef : (3 : Int) = a3 := q3b
        have hcd' := hcd
        rw [← ef] at hcd' ⊢
        exact .inr ⟨hcd', sc (A2 28) 0 (F2 27 1), (RDQ_H (H2 := paC F A) (RDQ_D hR (by decide)) (by decide)), hN3.1, hN3.2, (fun e => absurd e (by decide)), (fun _ => hk3)⟩
      rw [hz]
      exact k z g2 σ3 D3 N3 F3 A3 c3 s3 X3 (STP_trans (STP_tr0 S1 S2) S3) (EQD_tr (EQD_sub (by decide) E1) (EQD_tr (EQD_sub (by decide) E2) (EQD_sub (by decide) E3))) zr hP (fun _ e => absurd e (by omega))
    · obtain rfl : tc54_4 = 4 := hf
      refine w_callk rfl (fun rec => rinvv rfl rfl (X1.1.obj 0 (by decide +kernel) (show g 0 = true from X1.2.2.1) rfl) rec) rfl (T_ur4_r2 (d := d + 0) X1 q2 (fun z g2 σ2 D2 N2 F2 A2 c2 s2 X2 S2 zr hle E2 hb hR hC hN => ⟨rfl, ?_⟩))
      rw [← S2.1.2.1]
      refine T_readb (d := d + 3) X2 (show inr tc54_1 by omega) zr q0 (fun zz σ3 D3 N3 F3 A3 c3 s3 X3 S3 E3 hz hpl k0 k1 k2 k3 t0 t1 t2 t3 => ?_)
      rw [q3a] at k0 k1 k2 k3 t0 t1 t2 t3
      have hN3 : (0 ≤ z → RWN (rwC F2 A2) (rwC F3 A3) a1 (sc (A2 28) 0 (F2 27 1))) ∧ (z < 0 → RWS (rwC F2 A2) (rwC F3 A3)) := STL_N hcd.1 k0 k1 k2 k3 t0 t1 t2 t3
      have hr2 : rwC F2 A2 = rwC F A := (rwC_e (EQD_sub (by decide) E2)).trans hr1
      rw [hr2] at hN3
      rw [hrow, q3c] at hR hC hN
      rw [← hpl] at hR
      have hk3 : k5C A3 = (A2 30 0, A2 30 1, A2 30 2, A2 30 3, A2 30 4) := k5C_e (EQD_sub (by decide) E3)
      have hP : RDP (rwC F A) (rwC F3 A3) a1 a2 a3 a4 (paC F A) Dc z (F 0 18) (F3 0 18) (k5C A) (k5C A3) := by
        have ef : (4 : Int) = a3 := q3b
        have hcd' := hcd
        rw [← ef] at hcd' ⊢
        exact .inr ⟨hcd', sc (A2 28) 0 (F2 27 1), (RDQ_H (H2 := paC F A) hR (by decide)), hN3.1, hN3.2, (fun _ => by rw [hk3]; exact hC), (fun e => absurd rfl e)⟩
      rw [hz]
      exact k z g2 σ3 D3 N3 F3 A3 c3 s3 X3 (STP_trans (STP_tr0 S1 S2) S3) (EQD_tr (EQD_sub (by decide) E1) (EQD_tr (EQD_sub (by decide) E2) (EQD_sub (by decide) E3))) zr hP (fun _ e => hN)
  · skip
    have E1 : EQD [(2, 1), (4, 1), (6, 1), (8, 1), (11, 1), (0, 18), (25, 1)] [3, 5, 7, 9, 12, 10, 29, 30, 32, 26] [] [] D N F A D1 N1 F1 A1 := EQD_sub (by decide) E1
    have hr1 : rwC F1 A1 = rwC F A := rwC_e (EQD_sub (by decide) E1)
    have hk1 : k5C A1 = k5C A := k5C_e (EQD_sub (by decide) E1)
    have hp0 : F1 0 18 = F 0 18 := E1.1 (0, 18) (by decide)
    have hS : RWS (rwC F A) (rwC F1 A1) := by rw [hr1]; exact RWS_r
    have hn : ¬ (okd a1 ∧ okd a2 ∧ (0 ≤ a3 ∧ a3 ≤ 4) ∧ 0 ≤ a4 ∧ a4 ≤ 65536) := fun w => by have w1 := w.1; have w2 := w.2.2; unfold okd at w1; omega
    have hP : RDP (rwC F A) (rwC F1 A1) a1 a2 a3 a4 (paC F A) Dc z (F 0 18) (F1 0 18) (k5C A) (k5C A1) := .inl ⟨hn, q.1, hS, hp0, hk1⟩
    exact k z g σ1 D1 N1 F1 A1 c1 s1 X1 S1 (EQD_sub (by decide) E1) (by omega) hP (fun w => absurd w hn)
theorem T_readk3 {Dc : DcS} {g : Nat → Bool} {σ : rS} {D N : Nat → Nat} {F : hF} {A : hA} {d c s : Nat} {Q : wQ} (X : PHI Dc g σ D N F A) {a1 a2 a3 a4 : Int} (ha : a2 = 3) (h0 : inr a1) (h2 : inr a3) (h3 : inr a4) (k : ∀ (z : Int) (gₚ : Nat → Bool) (σₚ : rS) (Dₚ Nₚ : Nat → Nat) (Fₚ : hF) (Aₚ : hA) (cₚ sₚ : Nat), PHI Dc gₚ σₚ Dₚ Nₚ Fₚ Aₚ → STP g σ D N A c s gₚ σₚ Dₚ Nₚ Aₚ cₚ sₚ → EQD [(11, 1), (25, 1)] [12, 10, 29, 32, 26] [] [] D N F A Dₚ Nₚ Fₚ Aₚ → inr z → RDP (rwC F A) (rwC Fₚ Aₚ) a1 a2 a3 a4 (paC F A) Dc z (F 0 18) (Fₚ 0 18) (k5C A) (k5C Aₚ) → ((okd a1 ∧ okd a2 ∧ (0 ≤ a3 ∧ a3 ≤ 4) ∧ 0 ≤ a4 ∧ a4 ≤ 65536) → a3 = 4 → 0 ≤ (RDS (ap (rwC F A a2)) ((rwC F A a2).length : Int) a4 Dc).1) → Q (some (I z)) σₚ cₚ sₚ) : Ew 18 (d + 8) 0 (rargs 0 [.ref (D 0), I a1, I 3, I a3, I a4]) [] σ c s Q := by
  have ea : rwC F A a2 = sc (A 9) 0 (F 8 1) := by rw [ha]; rfl
  have hok : okd a2 := by rw [ha]; exact ⟨by decide, by decide⟩
  refine T_reada3 (d := d + 7) X h0 h2 h3 (fun tc54_1 tc54_4 tc54_5 ls σ1 D1 N1 F1 A1 c1 s1 X1 S1 E1  q0 q1 q2 q3 => ?_) (fun z σ1 D1 N1 F1 A1 c1 s1 X1 S1 E1 q => ?_)
  · skip
    have E1 : EQD [(2, 1), (4, 1), (6, 1), (8, 1), (11, 1), (0, 18), (25, 1)] [3, 5, 7, 9, 12, 10, 29, 30, 32, 26] [] [] D N F A D1 N1 F1 A1 := EQD_sub (by decide) E1
    have hr1 : rwC F1 A1 = rwC F A := rwC_e (EQD_sub (by decide) E1)
    have hk1 : k5C A1 = k5C A := k5C_e (EQD_sub (by decide) E1)
    obtain ⟨q3a, q3b, q3c⟩ := q3
    have hcd : (okd a1 ∧ okd a2 ∧ (0 ≤ a3 ∧ a3 ≤ 4) ∧ 0 ≤ a4 ∧ a4 ≤ 65536) := ⟨okd_of (by omega), hok, ⟨by omega, by omega⟩, by omega, by omega⟩
    have hp1 : paC F1 A1 = paC F A := paC_e (EQD_sub (by decide) E1)
    have hrow : sc (A1 9) 0 (F1 8 1) = rwC F A a2 := by rw [ea, E1.1 (8, 1) (by decide), E1.2.1 9 (by decide)]
    rcases (show tc54_4 = 0 ∨ tc54_4 = 1 ∨ tc54_4 = 2 ∨ tc54_4 = 3 ∨ tc54_4 = 4 by omega) with hf | hf | hf | hf | hf
    · obtain rfl : tc54_4 = 0 := hf
      refine w_callk rfl (fun rec => rinvv rfl rfl (X1.1.obj 0 (by decide +kernel) (show g 0 = true from X1.2.2.1) rfl) rec) rfl (T_ur0_r3 (d := d + 0) X1 q2 (fun z g2 σ2 D2 N2 F2 A2 c2 s2 X2 S2 zr hle E2 hb hR => ⟨rfl, ?_⟩))
      rw [← S2.1.2.1]
      refine T_readb (d := d + 3) X2 (show inr tc54_1 by omega) zr q0 (fun zz σ3 D3 N3 F3 A3 c3 s3 X3 S3 E3 hz hpl k0 k1 k2 k3 t0 t1 t2 t3 => ?_)
      rw [q3a] at k0 k1 k2 k3 t0 t1 t2 t3
      have hN3 : (0 ≤ z → RWN (rwC F2 A2) (rwC F3 A3) a1 (sc (A2 28) 0 (F2 27 1))) ∧ (z < 0 → RWS (rwC F2 A2) (rwC F3 A3)) := STL_N hcd.1 k0 k1 k2 k3 t0 t1 t2 t3
      have hr2 : rwC F2 A2 = rwC F A := (rwC_e (EQD_sub (by decide) E2)).trans hr1
      rw [hr2] at hN3
      rw [hrow, q3c] at hR
      have hR : RDQ 0 (rwC F A a2) (paC F1 A1) DCE a4 z (F2 0 17) (sc (A2 28) 0 (F2 27 1)) := hR
      rw [hp1] at hR
      rw [← hpl] at hR
      have hk3 : k5C A3 = k5C A := (k5C_e (EQD_sub (by decide) E3)).trans ((k5C_e (EQD_sub (by decide) E2)).trans hk1)
      have hP : RDP (rwC F A) (rwC F3 A3) a1 a2 a3 a4 (paC F A) Dc z (F 0 18) (F3 0 18) (k5C A) (k5C A3) := by
        have ef : (0 : Int) = a3 := q3b
        have hcd' := hcd
        rw [← ef] at hcd' ⊢
        exact .inr ⟨hcd', sc (A2 28) 0 (F2 27 1), (RDQ_D hR (by decide)), hN3.1, hN3.2, (fun e => absurd e (by decide)), (fun _ => hk3)⟩
      rw [hz]
      exact k z g2 σ3 D3 N3 F3 A3 c3 s3 X3 (STP_trans (STP_tr0 S1 S2) S3) (EQD_tr (EQD_sub (by decide) E1) (EQD_tr (EQD_sub (by decide) E2) (EQD_sub (by decide) E3))) zr hP (fun _ e => absurd e (by omega))
    · obtain rfl : tc54_4 = 1 := hf
      refine w_callk rfl (fun rec => rinvv rfl rfl (X1.1.obj 0 (by decide +kernel) (show g 0 = true from X1.2.2.1) rfl) rec) rfl (T_ur1_r3 (d := d + 0) X1 q2 (fun z g2 σ2 D2 N2 F2 A2 c2 s2 X2 S2 zr hle E2 hb hR => ⟨rfl, ?_⟩))
      rw [← S2.1.2.1]
      refine T_readb (d := d + 3) X2 (show inr tc54_1 by omega) zr q0 (fun zz σ3 D3 N3 F3 A3 c3 s3 X3 S3 E3 hz hpl k0 k1 k2 k3 t0 t1 t2 t3 => ?_)
      rw [q3a] at k0 k1 k2 k3 t0 t1 t2 t3
      have hN3 : (0 ≤ z → RWN (rwC F2 A2) (rwC F3 A3) a1 (sc (A2 28) 0 (F2 27 1))) ∧ (z < 0 → RWS (rwC F2 A2) (rwC F3 A3)) := STL_N hcd.1 k0 k1 k2 k3 t0 t1 t2 t3
      have hr2 : rwC F2 A2 = rwC F A := (rwC_e (EQD_sub (by decide) E2)).trans hr1
      rw [hr2] at hN3
      rw [hrow, q3c] at hR
      have hR : RDQ 1 (rwC F A a2) (paC F1 A1) DCE a4 z (F2 0 17) (sc (A2 28) 0 (F2 27 1)) := hR
      rw [hp1] at hR
      rw [← hpl] at hR
      have hk3 : k5C A3 = k5C A := (k5C_e (EQD_sub (by decide) E3)).trans ((k5C_e (EQD_sub (by decide) E2)).trans hk1)
      have hP : RDP (rwC F A) (rwC F3 A3) a1 a2 a3 a4 (paC F A) Dc z (F 0 18) (F3 0 18) (k5C A) (k5C A3) := by
        have ef : (1 : Int) = a3 := q3b
        have hcd' := hcd
        rw [← ef] at hcd' ⊢
        exact .inr ⟨hcd', sc (A2 28) 0 (F2 27 1), (RDQ_D hR (by decide)), hN3.1, hN3.2, (fun e => absurd e (by decide)), (fun _ => hk3)⟩
      rw [hz]
      exact k z g2 σ3 D3 N3 F3 A3 c3 s3 X3 (STP_trans (STP_tr0 S1 S2) S3) (EQD_tr (EQD_sub (by decide) E1) (EQD_tr (EQD_sub (by decide) E2) (EQD_sub (by decide) E3))) zr hP (fun _ e => absurd e (by omega))
    · obtain rfl : tc54_4 = 2 := hf
      refine w_callk rfl (fun rec => rinvv rfl rfl (X1.1.obj 0 (by decide +kernel) (show g 0 = true from X1.2.2.1) rfl) rec) rfl (T_ur2_r3 (d := d + 0) X1 q2 (fun z g2 σ2 D2 N2 F2 A2 c2 s2 X2 S2 zr hle E2 hb hR => ⟨rfl, ?_⟩))
      rw [← S2.1.2.1]
      refine T_readb (d := d + 3) X2 (show inr tc54_1 by omega) zr q0 (fun zz σ3 D3 N3 F3 A3 c3 s3 X3 S3 E3 hz hpl k0 k1 k2 k3 t0 t1 t2 t3 => ?_)
      rw [q3a] at k0 k1 k2 k3 t0 t1 t2 t3
      have hN3 : (0 ≤ z → RWN (rwC F2 A2) (rwC F3 A3) a1 (sc (A2 28) 0 (F2 27 1))) ∧ (z < 0 → RWS (rwC F2 A2) (rwC F3 A3)) := STL_N hcd.1 k0 k1 k2 k3 t0 t1 t2 t3
      have hr2 : rwC F2 A2 = rwC F A := (rwC_e (EQD_sub (by decide) E2)).trans hr1
      rw [hr2] at hN3
      rw [hrow, q3c] at hR
      rw [← hpl] at hR
      have hk3 : k5C A3 = k5C A := (k5C_e (EQD_sub (by decide) E3)).trans ((k5C_e (EQD_sub (by decide) E2)).trans hk1)
      have hP : RDP (rwC F A) (rwC F3 A3) a1 a2 a3 a4 (paC F A) Dc z (F 0 18) (F3 0 18) (k5C A) (k5C A3) := by
        have ef : (2 : Int) = a3 := q3b
        have hcd' := hcd
        rw [← ef] at hcd' ⊢
        exact .inr ⟨hcd', sc (A2 28) 0 (F2 27 1), (RDQ_H (H2 := paC F A) (RDQ_D hR (by decide)) (by decide)), hN3.1, hN3.2, (fun e => absurd e (by decide)), (fun _ => hk3)⟩
      rw [hz]
      exact k z g2 σ3 D3 N3 F3 A3 c3 s3 X3 (STP_trans (STP_tr0 S1 S2) S3) (EQD_tr (EQD_sub (by decide) E1) (EQD_tr (EQD_sub (by decide) E2) (EQD_sub (by decide) E3))) zr hP (fun _ e => absurd e (by omega))
    · obtain rfl : tc54_4 = 3 := hf
      refine w_callk rfl (fun rec => rinvv rfl rfl (X1.1.obj 0 (by decide +kernel) (show g 0 = true from X1.2.2.1) rfl) rec) rfl (T_ur3_r3 (d := d + 0) X1 q2 (fun z g2 σ2 D2 N2 F2 A2 c2 s2 X2 S2 zr hle E2 hb hR => ⟨rfl, ?_⟩))
      rw [← S2.1.2.1]
      refine T_readb (d := d + 3) X2 (show inr tc54_1 by omega) zr q0 (fun zz σ3 D3 N3 F3 A3 c3 s3 X3 S3 E3 hz hpl k0 k1 k2 k3 t0 t1 t2 t3 => ?_)
      rw [q3a] at k0 k1 k2 k3 t0 t1 t2 t3
      have hN3 : (0 ≤ z → RWN (rwC F2 A2) (rwC F3 A3) a1 (sc (A2 28) 0 (F2 27 1))) ∧ (z < 0 → RWS (rwC F2 A2) (rwC F3 A3)) := STL_N hcd.1 k0 k1 k2 k3 t0 t1 t2 t3
      have hr2 : rwC F2 A2 = rwC F A := (rwC_e (EQD_sub (by decide) E2)).trans hr1
      rw [hr2] at hN3
      rw [hrow, q3c] at hR
      rw [← hpl] at hR
      have hk3 : k5C A3 = k5C A := (k5C_e (EQD_sub (by decide) E3)).trans ((k5C_e (EQD_sub (by decide) E2)).trans hk1)
      have hP : RDP (rwC F A) (rwC F3 A3) a1 a2 a3 a4 (paC F A) Dc z (F 0 18) (F3 0 18) (k5C A) (k5C A3) := by
        have ef : (3 : Int) = a3 := q3b
        have hcd' := hcd
        rw [← ef] at hcd' ⊢
        exact .inr ⟨hcd', sc (A2 28) 0 (F2 27 1), (RDQ_H (H2 := paC F A) (RDQ_D hR (by decide)) (by decide)), hN3.1, hN3.2, (fun e => absurd e (by decide)), (fun _ => hk3)⟩
      rw [hz]
      exact k z g2 σ3 D3 N3 F3 A3 c3 s3 X3 (STP_trans (STP_tr0 S1 S2) S3) (EQD_tr (EQD_sub (by decide) E1) (EQD_tr (EQD_sub (by decide) E2) (EQD_sub (by decide) E3))) zr hP (fun _ e => absurd e (by omega))
    · obtain rfl : tc54_4 = 4 := hf
      refine w_callk rfl (fun rec => rinvv rfl rfl (X1.1.obj 0 (by decide +kernel) (show g 0 = true from X1.2.2.1) rfl) rec) rfl (T_ur4_r3 (d := d + 0) X1 q2 (fun z g2 σ2 D2 N2 F2 A2 c2 s2 X2 S2 zr hle E2 hb hR hC hN => ⟨rfl, ?_⟩))
      rw [← S2.1.2.1]
      refine T_readb (d := d + 3) X2 (show inr tc54_1 by omega) zr q0 (fun zz σ3 D3 N3 F3 A3 c3 s3 X3 S3 E3 hz hpl k0 k1 k2 k3 t0 t1 t2 t3 => ?_)
      rw [q3a] at k0 k1 k2 k3 t0 t1 t2 t3
      have hN3 : (0 ≤ z → RWN (rwC F2 A2) (rwC F3 A3) a1 (sc (A2 28) 0 (F2 27 1))) ∧ (z < 0 → RWS (rwC F2 A2) (rwC F3 A3)) := STL_N hcd.1 k0 k1 k2 k3 t0 t1 t2 t3
      have hr2 : rwC F2 A2 = rwC F A := (rwC_e (EQD_sub (by decide) E2)).trans hr1
      rw [hr2] at hN3
      rw [hrow, q3c] at hR hC hN
      rw [← hpl] at hR
      have hk3 : k5C A3 = (A2 30 0, A2 30 1, A2 30 2, A2 30 3, A2 30 4) := k5C_e (EQD_sub (by decide) E3)
      have hP : RDP (rwC F A) (rwC F3 A3) a1 a2 a3 a4 (paC F A) Dc z (F 0 18) (F3 0 18) (k5C A) (k5C A3) := by
        have ef : (4 : Int) = a3 := q3b
        have hcd' := hcd
        rw [← ef] at hcd' ⊢
        exact .inr ⟨hcd', sc (A2 28) 0 (F2 27 1), (RDQ_H (H2 := paC F A) hR (by decide)), hN3.1, hN3.2, (fun _ => by rw [hk3]; exact hC), (fun e => absurd rfl e)⟩
      rw [hz]
      exact k z g2 σ3 D3 N3 F3 A3 c3 s3 X3 (STP_trans (STP_tr0 S1 S2) S3) (EQD_tr (EQD_sub (by decide) E1) (EQD_tr (EQD_sub (by decide) E2) (EQD_sub (by decide) E3))) zr hP (fun _ e => hN)
  · skip
    have E1 : EQD [(2, 1), (4, 1), (6, 1), (8, 1), (11, 1), (0, 18), (25, 1)] [3, 5, 7, 9, 12, 10, 29, 30, 32, 26] [] [] D N F A D1 N1 F1 A1 := EQD_sub (by decide) E1
    have hr1 : rwC F1 A1 = rwC F A := rwC_e (EQD_sub (by decide) E1)
    have hk1 : k5C A1 = k5C A := k5C_e (EQD_sub (by decide) E1)
    have hp0 : F1 0 18 = F 0 18 := E1.1 (0, 18) (by decide)
    have hS : RWS (rwC F A) (rwC F1 A1) := by rw [hr1]; exact RWS_r
    have hn : ¬ (okd a1 ∧ okd a2 ∧ (0 ≤ a3 ∧ a3 ≤ 4) ∧ 0 ≤ a4 ∧ a4 ≤ 65536) := fun w => by have w1 := w.1; have w2 := w.2.2; unfold okd at w1; omega
    have hP : RDP (rwC F A) (rwC F1 A1) a1 a2 a3 a4 (paC F A) Dc z (F 0 18) (F1 0 18) (k5C A) (k5C A1) := .inl ⟨hn, q.1, hS, hp0, hk1⟩
    exact k z g σ1 D1 N1 F1 A1 c1 s1 X1 S1 (EQD_sub (by decide) E1) (by omega) hP (fun w => absurd w hn)
theorem T_read {Dc : DcS} {g : Nat → Bool} {σ : rS} {D N : Nat → Nat} {F : hF} {A : hA} {d c s : Nat} {Q : wQ} (X : PHI Dc g σ D N F A) {a1 a2 a3 a4 : Int} (h0 : inr a1) (h1 : inr a2) (h2 : inr a3) (h3 : inr a4) (k : ∀ (z : Int) (gₚ : Nat → Bool) (σₚ : rS) (Dₚ Nₚ : Nat → Nat) (Fₚ : hF) (Aₚ : hA) (cₚ sₚ : Nat), PHI Dc gₚ σₚ Dₚ Nₚ Fₚ Aₚ → STP g σ D N A c s gₚ σₚ Dₚ Nₚ Aₚ cₚ sₚ → EQD [(11, 1), (25, 1)] [12, 10, 29, 32, 26] [] [] D N F A Dₚ Nₚ Fₚ Aₚ → inr z → RDP (rwC F A) (rwC Fₚ Aₚ) a1 a2 a3 a4 (paC F A) Dc z (F 0 18) (Fₚ 0 18) (k5C A) (k5C Aₚ) → ((okd a1 ∧ okd a2 ∧ (0 ≤ a3 ∧ a3 ≤ 4) ∧ 0 ≤ a4 ∧ a4 ≤ 65536) → a3 = 4 → 0 ≤ (RDS (ap (rwC F A a2)) ((rwC F A a2).length : Int) a4 Dc).1) → Q (some (I z)) σₚ cₚ sₚ) : Ew 18 (d + 8) 0 (rargs 0 [.ref (D 0), I a1, I a2, I a3, I a4]) [] σ c s Q := by
  rcases (show a2 = 0 ∨ a2 = 1 ∨ a2 = 2 ∨ a2 = 3 ∨ (a2 < 0 ∨ 4 ≤ a2) by omega) with ha | ha | ha | ha | ha
  · have q := T_readk0 (d := d) X ha h0 h2 h3 k
    rw [ha]
    exact q
  · have q := T_readk1 (d := d) X ha h0 h2 h3 k
    rw [ha]
    exact q
  · have q := T_readk2 (d := d) X ha h0 h2 h3 k
    rw [ha]
    exact q
  · have q := T_readk3 (d := d) X ha h0 h2 h3 k
    rw [ha]
    exact q
  · refine T_readx (d := d + 7) X h0 h1 h2 h3 ha (fun z σ1 D1 N1 F1 A1 c1 s1 X1 S1 E1 q => ?_)
    have E1 : EQD [(2, 1), (4, 1), (6, 1), (8, 1), (11, 1), (0, 18), (25, 1)] [3, 5, 7, 9, 12, 10, 29, 30, 32, 26] [] [] D N F A D1 N1 F1 A1 := EQD_sub (by decide) E1
    have hr1 : rwC F1 A1 = rwC F A := rwC_e (EQD_sub (by decide) E1)
    have hk1 : k5C A1 = k5C A := k5C_e (EQD_sub (by decide) E1)
    have hp0 : F1 0 18 = F 0 18 := E1.1 (0, 18) (by decide)
    have hS : RWS (rwC F A) (rwC F1 A1) := by rw [hr1]; exact RWS_r
    have hn : ¬ (okd a1 ∧ okd a2 ∧ (0 ≤ a3 ∧ a3 ≤ 4) ∧ 0 ≤ a4 ∧ a4 ≤ 65536) := fun w => by have w1 := w.2.1; unfold okd at w1; omega
    exact k z g σ1 D1 N1 F1 A1 c1 s1 X1 S1 (EQD_sub (by decide) E1) (by omega) (.inl ⟨hn, q, hS, hp0, hk1⟩) (fun w => absurd w hn)
theorem T_openk0 {Dc : DcS} {g : Nat → Bool} {σ : rS} {D N : Nat → Nat} {F : hF} {A : hA} {d c s : Nat} {Q : wQ} (X : PHI Dc g σ D N F A) {a1 a2 a3 : Int} (ha : a2 = 0) (h0 : inr a1) (h2 : inr a3) (k : ∀ (z : Int) (gₚ : Nat → Bool) (σₚ : rS) (Dₚ Nₚ : Nat → Nat) (Fₚ : hF) (Aₚ : hA) (cₚ sₚ : Nat), PHI Dc gₚ σₚ Dₚ Nₚ Fₚ Aₚ → STP g σ D N A c s gₚ σₚ Dₚ Nₚ Aₚ cₚ sₚ → EQD [(11, 1), (25, 1)] [12, 10, 29, 32, 26] [] [] D N F A Dₚ Nₚ Fₚ Aₚ → inr z → OPP (rwC F A) (rwC Fₚ Aₚ) a1 a2 a3 (paC F A) Dc z (F 0 18) (Fₚ 0 18) (k5C A) (k5C Aₚ) → ((okd a1 ∧ okd a2 ∧ 0 ≤ a3 ∧ a3 ≤ 65536) → knF (rwC F A a2) = 4 → 0 ≤ (RDS (ap (rwC F A a2)) ((rwC F A a2).length : Int) a3 Dc).1) → Q (some (I z)) σₚ cₚ sₚ) : Ew 20 (d + 8) 0 (rargs 0 [.ref (D 0), I a1, I 0, I a3]) [] σ c s Q := by
  have ea : rwC F A a2 = sc (A 3) 0 (F 2 1) := by rw [ha]; rfl
  have hok : okd a2 := by rw [ha]; exact ⟨by decide, by decide⟩
  refine T_opena0 (d := d + 5) X h0 h2 (fun tc68_1 tc68_4 tc68_5 ls σ1 D1 N1 F1 A1 c1 s1 X1 S1 E1  q0 q1 q2 q3 q4 => ?_) (fun z σ1 D1 N1 F1 A1 c1 s1 X1 S1 E1 q => ?_)
  · skip
    have E1 : EQD [(2, 1), (4, 1), (6, 1), (8, 1), (11, 1), (0, 18), (25, 1)] [3, 5, 7, 9, 12, 10, 29, 30, 32, 26] [] [] D N F A D1 N1 F1 A1 := EQD_sub (by decide) E1
    have hr1 : rwC F1 A1 = rwC F A := rwC_e (EQD_sub (by decide) E1)
    have hk1 : k5C A1 = k5C A := k5C_e (EQD_sub (by decide) E1)
    obtain ⟨q3a, q3c⟩ := q3
    have hcd : (okd a1 ∧ okd a2 ∧ 0 ≤ a3 ∧ a3 ≤ 65536) := ⟨okd_of (by omega), hok, by omega, by omega⟩
    have hp1 : paC F1 A1 = paC F A := paC_e (EQD_sub (by decide) E1)
    have hrow : sc (A1 3) 0 (F1 2 1) = rwC F A a2 := by rw [ea, E1.1 (2, 1) (by decide), E1.2.1 3 (by decide)]
    have hkn : tc68_4 = knF (rwC F A a2) := by rw [← hrow]; exact q4
    rcases (show tc68_4 = 1 ∨ tc68_4 = 3 ∨ tc68_4 = 4 by omega) with hf | hf | hf
    · obtain rfl : tc68_4 = 1 := hf
      refine w_callk rfl (fun rec => rinvv rfl rfl (X1.1.obj 0 (by decide +kernel) (show g 0 = true from X1.2.2.1) rfl) rec) rfl (T_ur1_r0 (d := d + 0) X1 q2 (fun z g2 σ2 D2 N2 F2 A2 c2 s2 X2 S2 zr hle E2 hb hR => ⟨rfl, ?_⟩))
      rw [← S2.1.2.1]
      refine T_openb (d := d + 3) X2 (show inr tc68_1 by omega) zr q0 (fun zz σ3 D3 N3 F3 A3 c3 s3 X3 S3 E3 hz hpl k0 k1 k2 k3 t0 t1 t2 t3 => ?_)
      rw [q3a] at k0 k1 k2 k3 t0 t1 t2 t3
      have hN3 : (0 ≤ z → RWN (rwC F2 A2) (rwC F3 A3) a1 (sc (A2 28) 0 (F2 27 1))) ∧ (z < 0 → RWS (rwC F2 A2) (rwC F3 A3)) := STL_N hcd.1 k0 k1 k2 k3 t0 t1 t2 t3
      have hr2 : rwC F2 A2 = rwC F A := (rwC_e (EQD_sub (by decide) E2)).trans hr1
      rw [hr2] at hN3
      rw [hrow, q3c] at hR
      have hR : RDQ 1 (rwC F A a2) (paC F1 A1) DCE a3 z (F2 0 17) (sc (A2 28) 0 (F2 27 1)) := hR
      rw [hp1] at hR
      rw [← hpl] at hR
      have hk3 : k5C A3 = k5C A := (k5C_e (EQD_sub (by decide) E3)).trans ((k5C_e (EQD_sub (by decide) E2)).trans hk1)
      have hP : OPP (rwC F A) (rwC F3 A3) a1 a2 a3 (paC F A) Dc z (F 0 18) (F3 0 18) (k5C A) (k5C A3) := by
        refine .inr (.inr ⟨hcd, by rw [← hkn]; decide, ?_⟩)
        rw [← hkn]
        have hcd' : okd a1 ∧ okd a2 ∧ ((0 : Int) ≤ 1 ∧ (1 : Int) ≤ 4) ∧ 0 ≤ a3 ∧ a3 ≤ 65536 := ⟨hcd.1, hok, ⟨by decide, by decide⟩, hcd.2.2⟩
        exact .inr ⟨hcd', sc (A2 28) 0 (F2 27 1), (RDQ_D hR (by decide)), hN3.1, hN3.2, (fun e => absurd e (by decide)), (fun _ => hk3)⟩
      rw [hz]
      exact k z g2 σ3 D3 N3 F3 A3 c3 s3 X3 (STP_trans (STP_tr0 S1 S2) S3) (EQD_tr (EQD_sub (by decide) E1) (EQD_tr (EQD_sub (by decide) E2) (EQD_sub (by decide) E3))) zr hP (fun _ e => absurd e (by omega))
    · obtain rfl : tc68_4 = 3 := hf
      refine w_callk rfl (fun rec => rinvv rfl rfl (X1.1.obj 0 (by decide +kernel) (show g 0 = true from X1.2.2.1) rfl) rec) rfl (T_ur3_r0 (d := d + 0) X1 q2 (fun z g2 σ2 D2 N2 F2 A2 c2 s2 X2 S2 zr hle E2 hb hR => ⟨rfl, ?_⟩))
      rw [← S2.1.2.1]
      refine T_openb (d := d + 3) X2 (show inr tc68_1 by omega) zr q0 (fun zz σ3 D3 N3 F3 A3 c3 s3 X3 S3 E3 hz hpl k0 k1 k2 k3 t0 t1 t2 t3 => ?_)
      rw [q3a] at k0 k1 k2 k3 t0 t1 t2 t3
      have hN3 : (0 ≤ z → RWN (rwC F2 A2) (rwC F3 A3) a1 (sc (A2 28) 0 (F2 27 1))) ∧ (z < 0 → RWS (rwC F2 A2) (rwC F3 A3)) := STL_N hcd.1 k0 k1 k2 k3 t0 t1 t2 t3
      have hr2 : rwC F2 A2 = rwC F A := (rwC_e (EQD_sub (by decide) E2)).trans hr1
      rw [hr2] at hN3
      rw [hrow, q3c] at hR
      rw [← hpl] at hR
      have hk3 : k5C A3 = k5C A := (k5C_e (EQD_sub (by decide) E3)).trans ((k5C_e (EQD_sub (by decide) E2)).trans hk1)
      have hP : OPP (rwC F A) (rwC F3 A3) a1 a2 a3 (paC F A) Dc z (F 0 18) (F3 0 18) (k5C A) (k5C A3) := by
        refine .inr (.inr ⟨hcd, by rw [← hkn]; decide, ?_⟩)
        rw [← hkn]
        have hcd' : okd a1 ∧ okd a2 ∧ ((0 : Int) ≤ 3 ∧ (3 : Int) ≤ 4) ∧ 0 ≤ a3 ∧ a3 ≤ 65536 := ⟨hcd.1, hok, ⟨by decide, by decide⟩, hcd.2.2⟩
        exact .inr ⟨hcd', sc (A2 28) 0 (F2 27 1), (RDQ_H (H2 := paC F A) (RDQ_D hR (by decide)) (by decide)), hN3.1, hN3.2, (fun e => absurd e (by decide)), (fun _ => hk3)⟩
      rw [hz]
      exact k z g2 σ3 D3 N3 F3 A3 c3 s3 X3 (STP_trans (STP_tr0 S1 S2) S3) (EQD_tr (EQD_sub (by decide) E1) (EQD_tr (EQD_sub (by decide) E2) (EQD_sub (by decide) E3))) zr hP (fun _ e => absurd e (by omega))
    · obtain rfl : tc68_4 = 4 := hf
      refine w_callk rfl (fun rec => rinvv rfl rfl (X1.1.obj 0 (by decide +kernel) (show g 0 = true from X1.2.2.1) rfl) rec) rfl (T_ur4_r0 (d := d + 0) X1 q2 (fun z g2 σ2 D2 N2 F2 A2 c2 s2 X2 S2 zr hle E2 hb hR hC hN => ⟨rfl, ?_⟩))
      rw [← S2.1.2.1]
      refine T_openb (d := d + 3) X2 (show inr tc68_1 by omega) zr q0 (fun zz σ3 D3 N3 F3 A3 c3 s3 X3 S3 E3 hz hpl k0 k1 k2 k3 t0 t1 t2 t3 => ?_)
      rw [q3a] at k0 k1 k2 k3 t0 t1 t2 t3
      have hN3 : (0 ≤ z → RWN (rwC F2 A2) (rwC F3 A3) a1 (sc (A2 28) 0 (F2 27 1))) ∧ (z < 0 → RWS (rwC F2 A2) (rwC F3 A3)) := STL_N hcd.1 k0 k1 k2 k3 t0 t1 t2 t3
      have hr2 : rwC F2 A2 = rwC F A := (rwC_e (EQD_sub (by decide) E2)).trans hr1
      rw [hr2] at hN3
      rw [hrow, q3c] at hR hC hN
      rw [← hpl] at hR
      have hk3 : k5C A3 = (A2 30 0, A2 30 1, A2 30 2, A2 30 3, A2 30 4) := k5C_e (EQD_sub (by decide) E3)
      have hP : OPP (rwC F A) (rwC F3 A3) a1 a2 a3 (paC F A) Dc z (F 0 18) (F3 0 18) (k5C A) (k5C A3) := by
        refine .inr (.inr ⟨hcd, by rw [← hkn]; decide, ?_⟩)
        rw [← hkn]
        have hcd' : okd a1 ∧ okd a2 ∧ ((0 : Int) ≤ 4 ∧ (4 : Int) ≤ 4) ∧ 0 ≤ a3 ∧ a3 ≤ 65536 := ⟨hcd.1, hok, ⟨by decide, by decide⟩, hcd.2.2⟩
        exact .inr ⟨hcd', sc (A2 28) 0 (F2 27 1), (RDQ_H (H2 := paC F A) hR (by decide)), hN3.1, hN3.2, (fun _ => by rw [hk3]; exact hC), (fun e => absurd rfl e)⟩
      rw [hz]
      exact k z g2 σ3 D3 N3 F3 A3 c3 s3 X3 (STP_trans (STP_tr0 S1 S2) S3) (EQD_tr (EQD_sub (by decide) E1) (EQD_tr (EQD_sub (by decide) E2) (EQD_sub (by decide) E3))) zr hP (fun _ e => hN)
  · skip
    have E1 : EQD [(2, 1), (4, 1), (6, 1), (8, 1), (11, 1), (0, 18), (25, 1)] [3, 5, 7, 9, 12, 10, 29, 30, 32, 26] [] [] D N F A D1 N1 F1 A1 := EQD_sub (by decide) E1
    have hr1 : rwC F1 A1 = rwC F A := rwC_e (EQD_sub (by decide) E1)
    have hk1 : k5C A1 = k5C A := k5C_e (EQD_sub (by decide) E1)
    have hp0 : F1 0 18 = F 0 18 := E1.1 (0, 18) (by decide)
    have hS : RWS (rwC F A) (rwC F1 A1) := by rw [hr1]; exact RWS_r
    rw [← ea] at q
    rcases q with ⟨qa, qb⟩ | ⟨qa, qb, qc⟩
    · have hn : ¬ (okd a1 ∧ okd a2 ∧ 0 ≤ a3 ∧ a3 ≤ 65536) := fun w => by have w1 := w.1; have w2 := w.2.2; unfold okd at w1; omega
      exact k z g σ1 D1 N1 F1 A1 c1 s1 X1 S1 (EQD_sub (by decide) E1) (by omega) (.inl ⟨hn, qa, hS, hp0, hk1⟩) (fun w => absurd w hn)
    · exact k z g σ1 D1 N1 F1 A1 c1 s1 X1 S1 (EQD_sub (by decide) E1) (by omega) (.inr (.inl ⟨⟨okd_of (by omega), hok, by omega, by omega⟩, qc, qa, hS, hp0, hk1⟩)) (fun _ w => absurd w (by omega))
theorem T_openk1 {Dc : DcS} {g : Nat → Bool} {σ : rS} {D N : Nat → Nat} {F : hF} {A : hA} {d c s : Nat} {Q : wQ} (X : PHI Dc g σ D N F A) {a1 a2 a3 : Int} (ha : a2 = 1) (h0 : inr a1) (h2 : inr a3) (k : ∀ (z : Int) (gₚ : Nat → Bool) (σₚ : rS) (Dₚ Nₚ : Nat → Nat) (Fₚ : hF) (Aₚ : hA) (cₚ sₚ : Nat), PHI Dc gₚ σₚ Dₚ Nₚ Fₚ Aₚ → STP g σ D N A c s gₚ σₚ Dₚ Nₚ Aₚ cₚ sₚ → EQD [(11, 1), (25, 1)] [12, 10, 29, 32, 26] [] [] D N F A Dₚ Nₚ Fₚ Aₚ → inr z → OPP (rwC F A) (rwC Fₚ Aₚ) a1 a2 a3 (paC F A) Dc z (F 0 18) (Fₚ 0 18) (k5C A) (k5C Aₚ) → ((okd a1 ∧ okd a2 ∧ 0 ≤ a3 ∧ a3 ≤ 65536) → knF (rwC F A a2) = 4 → 0 ≤ (RDS (ap (rwC F A a2)) ((rwC F A a2).length : Int) a3 Dc).1) → Q (some (I z)) σₚ cₚ sₚ) : Ew 20 (d + 8) 0 (rargs 0 [.ref (D 0), I a1, I 1, I a3]) [] σ c s Q := by
  have ea : rwC F A a2 = sc (A 5) 0 (F 4 1) := by rw [ha]; rfl
  have hok : okd a2 := by rw [ha]; exact ⟨by decide, by decide⟩
  refine T_opena1 (d := d + 5) X h0 h2 (fun tc68_1 tc68_4 tc68_5 ls σ1 D1 N1 F1 A1 c1 s1 X1 S1 E1  q0 q1 q2 q3 q4 => ?_) (fun z σ1 D1 N1 F1 A1 c1 s1 X1 S1 E1 q => ?_)
  · skip
    have E1 : EQD [(2, 1), (4, 1), (6, 1), (8, 1), (11, 1), (0, 18), (25, 1)] [3, 5, 7, 9, 12, 10, 29, 30, 32, 26] [] [] D N F A D1 N1 F1 A1 := EQD_sub (by decide) E1
    have hr1 : rwC F1 A1 = rwC F A := rwC_e (EQD_sub (by decide) E1)
    have hk1 : k5C A1 = k5C A := k5C_e (EQD_sub (by decide) E1)
    obtain ⟨q3a, q3c⟩ := q3
    have hcd : (okd a1 ∧ okd a2 ∧ 0 ≤ a3 ∧ a3 ≤ 65536) := ⟨okd_of (by omega), hok, by omega, by omega⟩
    have hp1 : paC F1 A1 = paC F A := paC_e (EQD_sub (by decide) E1)
    have hrow : sc (A1 5) 0 (F1 4 1) = rwC F A a2 := by rw [ea, E1.1 (4, 1) (by decide), E1.2.1 5 (by decide)]
    have hkn : tc68_4 = knF (rwC F A a2) := by rw [← hrow]; exact q4
    rcases (show tc68_4 = 1 ∨ tc68_4 = 3 ∨ tc68_4 = 4 by omega) with hf | hf | hf
    · obtain rfl : tc68_4 = 1 := hf
      refine w_callk rfl (fun rec => rinvv rfl rfl (X1.1.obj 0 (by decide +kernel) (show g 0 = true from X1.2.2.1) rfl) rec) rfl (T_ur1_r1 (d := d + 0) X1 q2 (fun z g2 σ2 D2 N2 F2 A2 c2 s2 X2 S2 zr hle E2 hb hR => ⟨rfl, ?_⟩))
      rw [← S2.1.2.1]
      refine T_openb (d := d + 3) X2 (show inr tc68_1 by omega) zr q0 (fun zz σ3 D3 N3 F3 A3 c3 s3 X3 S3 E3 hz hpl k0 k1 k2 k3 t0 t1 t2 t3 => ?_)
      rw [q3a] at k0 k1 k2 k3 t0 t1 t2 t3
      have hN3 : (0 ≤ z → RWN (rwC F2 A2) (rwC F3 A3) a1 (sc (A2 28) 0 (F2 27 1))) ∧ (z < 0 → RWS (rwC F2 A2) (rwC F3 A3)) := STL_N hcd.1 k0 k1 k2 k3 t0 t1 t2 t3
      have hr2 : rwC F2 A2 = rwC F A := (rwC_e (EQD_sub (by decide) E2)).trans hr1
      rw [hr2] at hN3
      rw [hrow, q3c] at hR
      have hR : RDQ 1 (rwC F A a2) (paC F1 A1) DCE a3 z (F2 0 17) (sc (A2 28) 0 (F2 27 1)) := hR
      rw [hp1] at hR
      rw [← hpl] at hR
      have hk3 : k5C A3 = k5C A := (k5C_e (EQD_sub (by decide) E3)).trans ((k5C_e (EQD_sub (by decide) E2)).trans hk1)
      have hP : OPP (rwC F A) (rwC F3 A3) a1 a2 a3 (paC F A) Dc z (F 0 18) (F3 0 18) (k5C A) (k5C A3) := by
        refine .inr (.inr ⟨hcd, by rw [← hkn]; decide, ?_⟩)
        rw [← hkn]
        have hcd' : okd a1 ∧ okd a2 ∧ ((0 : Int) ≤ 1 ∧ (1 : Int) ≤ 4) ∧ 0 ≤ a3 ∧ a3 ≤ 65536 := ⟨hcd.1, hok, ⟨by decide, by decide⟩, hcd.2.2⟩
        exact .inr ⟨hcd', sc (A2 28) 0 (F2 27 1), (RDQ_D hR (by decide)), hN3.1, hN3.2, (fun e => absurd e (by decide)), (fun _ => hk3)⟩
      rw [hz]
      exact k z g2 σ3 D3 N3 F3 A3 c3 s3 X3 (STP_trans (STP_tr0 S1 S2) S3) (EQD_tr (EQD_sub (by decide) E1) (EQD_tr (EQD_sub (by decide) E2) (EQD_sub (by decide) E3))) zr hP (fun _ e => absurd e (by omega))
    · obtain rfl : tc68_4 = 3 := hf
      refine w_callk rfl (fun rec => rinvv rfl rfl (X1.1.obj 0 (by decide +kernel) (show g 0 = true from X1.2.2.1) rfl) rec) rfl (T_ur3_r1 (d := d + 0) X1 q2 (fun z g2 σ2 D2 N2 F2 A2 c2 s2 X2 S2 zr hle E2 hb hR => ⟨rfl, ?_⟩))
      rw [← S2.1.2.1]
      refine T_openb (d := d + 3) X2 (show inr tc68_1 by omega) zr q0 (fun zz σ3 D3 N3 F3 A3 c3 s3 X3 S3 E3 hz hpl k0 k1 k2 k3 t0 t1 t2 t3 => ?_)
      rw [q3a] at k0 k1 k2 k3 t0 t1 t2 t3
      have hN3 : (0 ≤ z → RWN (rwC F2 A2) (rwC F3 A3) a1 (sc (A2 28) 0 (F2 27 1))) ∧ (z < 0 → RWS (rwC F2 A2) (rwC F3 A3)) := STL_N hcd.1 k0 k1 k2 k3 t0 t1 t2 t3
      have hr2 : rwC F2 A2 = rwC F A := (rwC_e (EQD_sub (by decide) E2)).trans hr1
      rw [hr2] at hN3
      rw [hrow, q3c] at hR
      rw [← hpl] at hR
      have hk3 : k5C A3 = k5C A := (k5C_e (EQD_sub (by decide) E3)).trans ((k5C_e (EQD_sub (by decide) E2)).trans hk1)
      have hP : OPP (rwC F A) (rwC F3 A3) a1 a2 a3 (paC F A) Dc z (F 0 18) (F3 0 18) (k5C A) (k5C A3) := by
        refine .inr (.inr ⟨hcd, by rw [← hkn]; decide, ?_⟩)
        rw [← hkn]
        have hcd' : okd a1 ∧ okd a2 ∧ ((0 : Int) ≤ 3 ∧ (3 : Int) ≤ 4) ∧ 0 ≤ a3 ∧ a3 ≤ 65536 := ⟨hcd.1, hok, ⟨by decide, by decide⟩, hcd.2.2⟩
        exact .inr ⟨hcd', sc (A2 28) 0 (F2 27 1), (RDQ_H (H2 := paC F A) (RDQ_D hR (by decide)) (by decide)), hN3.1, hN3.2, (fun e => absurd e (by decide)), (fun _ => hk3)⟩
      rw [hz]
      exact k z g2 σ3 D3 N3 F3 A3 c3 s3 X3 (STP_trans (STP_tr0 S1 S2) S3) (EQD_tr (EQD_sub (by decide) E1) (EQD_tr (EQD_sub (by decide) E2) (EQD_sub (by decide) E3))) zr hP (fun _ e => absurd e (by omega))
    · obtain rfl : tc68_4 = 4 := hf
      refine w_callk rfl (fun rec => rinvv rfl rfl (X1.1.obj 0 (by decide +kernel) (show g 0 = true from X1.2.2.1) rfl) rec) rfl (T_ur4_r1 (d := d + 0) X1 q2 (fun z g2 σ2 D2 N2 F2 A2 c2 s2 X2 S2 zr hle E2 hb hR hC hN => ⟨rfl, ?_⟩))
      rw [← S2.1.2.1]
      refine T_openb (d := d + 3) X2 (show inr tc68_1 by omega) zr q0 (fun zz σ3 D3 N3 F3 A3 c3 s3 X3 S3 E3 hz hpl k0 k1 k2 k3 t0 t1 t2 t3 => ?_)
      rw [q3a] at k0 k1 k2 k3 t0 t1 t2 t3
      have hN3 : (0 ≤ z → RWN (rwC F2 A2) (rwC F3 A3) a1 (sc (A2 28) 0 (F2 27 1))) ∧ (z < 0 → RWS (rwC F2 A2) (rwC F3 A3)) := STL_N hcd.1 k0 k1 k2 k3 t0 t1 t2 t3
      have hr2 : rwC F2 A2 = rwC F A := (rwC_e (EQD_sub (by decide) E2)).trans hr1
      rw [hr2] at hN3
      rw [hrow, q3c] at hR hC hN
      rw [← hpl] at hR
      have hk3 : k5C A3 = (A2 30 0, A2 30 1, A2 30 2, A2 30 3, A2 30 4) := k5C_e (EQD_sub (by decide) E3)
      have hP : OPP (rwC F A) (rwC F3 A3) a1 a2 a3 (paC F A) Dc z (F 0 18) (F3 0 18) (k5C A) (k5C A3) := by
        refine .inr (.inr ⟨hcd, by rw [← hkn]; decide, ?_⟩)
        rw [← hkn]
        have hcd' : okd a1 ∧ okd a2 ∧ ((0 : Int) ≤ 4 ∧ (4 : Int) ≤ 4) ∧ 0 ≤ a3 ∧ a3 ≤ 65536 := ⟨hcd.1, hok, ⟨by decide, by decide⟩, hcd.2.2⟩
        exact .inr ⟨hcd', sc (A2 28) 0 (F2 27 1), (RDQ_H (H2 := paC F A) hR (by decide)), hN3.1, hN3.2, (fun _ => by rw [hk3]; exact hC), (fun e => absurd rfl e)⟩
      rw [hz]
      exact k z g2 σ3 D3 N3 F3 A3 c3 s3 X3 (STP_trans (STP_tr0 S1 S2) S3) (EQD_tr (EQD_sub (by decide) E1) (EQD_tr (EQD_sub (by decide) E2) (EQD_sub (by decide) E3))) zr hP (fun _ e => hN)
  · skip
    have E1 : EQD [(2, 1), (4, 1), (6, 1), (8, 1), (11, 1), (0, 18), (25, 1)] [3, 5, 7, 9, 12, 10, 29, 30, 32, 26] [] [] D N F A D1 N1 F1 A1 := EQD_sub (by decide) E1
    have hr1 : rwC F1 A1 = rwC F A := rwC_e (EQD_sub (by decide) E1)
    have hk1 : k5C A1 = k5C A := k5C_e (EQD_sub (by decide) E1)
    have hp0 : F1 0 18 = F 0 18 := E1.1 (0, 18) (by decide)
    have hS : RWS (rwC F A) (rwC F1 A1) := by rw [hr1]; exact RWS_r
    rw [← ea] at q
    rcases q with ⟨qa, qb⟩ | ⟨qa, qb, qc⟩
    · have hn : ¬ (okd a1 ∧ okd a2 ∧ 0 ≤ a3 ∧ a3 ≤ 65536) := fun w => by have w1 := w.1; have w2 := w.2.2; unfold okd at w1; omega
      exact k z g σ1 D1 N1 F1 A1 c1 s1 X1 S1 (EQD_sub (by decide) E1) (by omega) (.inl ⟨hn, qa, hS, hp0, hk1⟩) (fun w => absurd w hn)
    · exact k z g σ1 D1 N1 F1 A1 c1 s1 X1 S1 (EQD_sub (by decide) E1) (by omega) (.inr (.inl ⟨⟨okd_of (by omega), hok, by omega, by omega⟩, qc, qa, hS, hp0, hk1⟩)) (fun _ w => absurd w (by omega))
theorem T_openk2 {Dc : DcS} {g : Nat → Bool} {σ : rS} {D N : Nat → Nat} {F : hF} {A : hA} {d c s : Nat} {Q : wQ} (X : PHI Dc g σ D N F A) {a1 a2 a3 : Int} (ha : a2 = 2) (h0 : inr a1) (h2 : inr a3) (k : ∀ (z : Int) (gₚ : Nat → Bool) (σₚ : rS) (Dₚ Nₚ : Nat → Nat) (Fₚ : hF) (Aₚ : hA) (cₚ sₚ : Nat), PHI Dc gₚ σₚ Dₚ Nₚ Fₚ Aₚ → STP g σ D N A c s gₚ σₚ Dₚ Nₚ Aₚ cₚ sₚ → EQD [(11, 1), (25, 1)] [12, 10, 29, 32, 26] [] [] D N F A Dₚ Nₚ Fₚ Aₚ → inr z → OPP (rwC F A) (rwC Fₚ Aₚ) a1 a2 a3 (paC F A) Dc z (F 0 18) (Fₚ 0 18) (k5C A) (k5C Aₚ) → ((okd a1 ∧ okd a2 ∧ 0 ≤ a3 ∧ a3 ≤ 65536) → knF (rwC F A a2) = 4 → 0 ≤ (RDS (ap (rwC F A a2)) ((rwC F A a2).length : Int) a3 Dc).1) → Q (some (I z)) σₚ cₚ sₚ) : Ew 20 (d + 8) 0 (rargs 0 [.ref (D 0), I a1, I 2, I a3]) [] σ c s Q := by
  have ea : rwC F A a2 = sc (A 7) 0 (F 6 1) := by rw [ha]; rfl
  have hok : okd a2 := by rw [ha]; exact ⟨by decide, by decide⟩
  refine T_opena2 (d := d + 5) X h0 h2 (fun tc68_1 tc68_4 tc68_5 ls σ1 D1 N1 F1 A1 c1 s1 X1 S1 E1  q0 q1 q2 q3 q4 => ?_) (fun z σ1 D1 N1 F1 A1 c1 s1 X1 S1 E1 q => ?_)
  · skip
    have E1 : EQD [(2, 1), (4, 1), (6, 1), (8, 1), (11, 1), (0, 18), (25, 1)] [3, 5, 7, 9, 12, 10, 29, 30, 32, 26] [] [] D N F A D1 N1 F1 A1 := EQD_sub (by decide) E1
    have hr1 : rwC F1 A1 = rwC F A := rwC_e (EQD_sub (by decide) E1)
    have hk1 : k5C A1 = k5C A := k5C_e (EQD_sub (by decide) E1)
    obtain ⟨q3a, q3c⟩ := q3
    have hcd : (okd a1 ∧ okd a2 ∧ 0 ≤ a3 ∧ a3 ≤ 65536) := ⟨okd_of (by omega), hok, by omega, by omega⟩
    have hp1 : paC F1 A1 = paC F A := paC_e (EQD_sub (by decide) E1)
    have hrow : sc (A1 7) 0 (F1 6 1) = rwC F A a2 := by rw [ea, E1.1 (6, 1) (by decide), E1.2.1 7 (by decide)]
    have hkn : tc68_4 = knF (rwC F A a2) := by rw [← hrow]; exact q4
    rcases (show tc68_4 = 1 ∨ tc68_4 = 3 ∨ tc68_4 = 4 by omega) with hf | hf | hf
    · obtain rfl : tc68_4 = 1 := hf
      refine w_callk rfl (fun rec => rinvv rfl rfl (X1.1.obj 0 (by decide +kernel) (show g 0 = true from X1.2.2.1) rfl) rec) rfl (T_ur1_r2 (d := d + 0) X1 q2 (fun z g2 σ2 D2 N2 F2 A2 c2 s2 X2 S2 zr hle E2 hb hR => ⟨rfl, ?_⟩))
      rw [← S2.1.2.1]
      refine T_openb (d := d + 3) X2 (show inr tc68_1 by omega) zr q0 (fun zz σ3 D3 N3 F3 A3 c3 s3 X3 S3 E3 hz hpl k0 k1 k2 k3 t0 t1 t2 t3 => ?_)
      rw [q3a] at k0 k1 k2 k3 t0 t1 t2 t3
      have hN3 : (0 ≤ z → RWN (rwC F2 A2) (rwC F3 A3) a1 (sc (A2 28) 0 (F2 27 1))) ∧ (z < 0 → RWS (rwC F2 A2) (rwC F3 A3)) := STL_N hcd.1 k0 k1 k2 k3 t0 t1 t2 t3
      have hr2 : rwC F2 A2 = rwC F A := (rwC_e (EQD_sub (by decide) E2)).trans hr1
      rw [hr2] at hN3
      rw [hrow, q3c] at hR
      have hR : RDQ 1 (rwC F A a2) (paC F1 A1) DCE a3 z (F2 0 17) (sc (A2 28) 0 (F2 27 1)) := hR
      rw [hp1] at hR
      rw [← hpl] at hR
      have hk3 : k5C A3 = k5C A := (k5C_e (EQD_sub (by decide) E3)).trans ((k5C_e (EQD_sub (by decide) E2)).trans hk1)
      have hP : OPP (rwC F A) (rwC F3 A3) a1 a2 a3 (paC F A) Dc z (F 0 18) (F3 0 18) (k5C A) (k5C A3) := by
        refine .inr (.inr ⟨hcd, by rw [← hkn]; decide, ?_⟩)
        rw [← hkn]
        have hcd' : okd a1 ∧ okd a2 ∧ ((0 : Int) ≤ 1 ∧ (1 : Int) ≤ 4) ∧ 0 ≤ a3 ∧ a3 ≤ 65536 := ⟨hcd.1, hok, ⟨by decide, by decide⟩, hcd.2.2⟩
        exact .inr ⟨hcd', sc (A2 28) 0 (F2 27 1), (RDQ_D hR (by decide)), hN3.1, hN3.2, (fun e => absurd e (by decide)), (fun _ => hk3)⟩
      rw [hz]
      exact k z g2 σ3 D3 N3 F3 A3 c3 s3 X3 (STP_trans (STP_tr0 S1 S2) S3) (EQD_tr (EQD_sub (by decide) E1) (EQD_tr (EQD_sub (by decide) E2) (EQD_sub (by decide) E3))) zr hP (fun _ e => absurd e (by omega))
    · obtain rfl : tc68_4 = 3 := hf
      refine w_callk rfl (fun rec => rinvv rfl rfl (X1.1.obj 0 (by decide +kernel) (show g 0 = true from X1.2.2.1) rfl) rec) rfl (T_ur3_r2 (d := d + 0) X1 q2 (fun z g2 σ2 D2 N2 F2 A2 c2 s2 X2 S2 zr hle E2 hb hR => ⟨rfl, ?_⟩))
      rw [← S2.1.2.1]
      refine T_openb (d := d + 3) X2 (show inr tc68_1 by omega) zr q0 (fun zz σ3 D3 N3 F3 A3 c3 s3 X3 S3 E3 hz hpl k0 k1 k2 k3 t0 t1 t2 t3 => ?_)
      rw [q3a] at k0 k1 k2 k3 t0 t1 t2 t3
      have hN3 : (0 ≤ z → RWN (rwC F2 A2) (rwC F3 A3) a1 (sc (A2 28) 0 (F2 27 1))) ∧ (z < 0 → RWS (rwC F2 A2) (rwC F3 A3)) := STL_N hcd.1 k0 k1 k2 k3 t0 t1 t2 t3
      have hr2 : rwC F2 A2 = rwC F A := (rwC_e (EQD_sub (by decide) E2)).trans hr1
      rw [hr2] at hN3
      rw [hrow, q3c] at hR
      rw [← hpl] at hR
      have hk3 : k5C A3 = k5C A := (k5C_e (EQD_sub (by decide) E3)).trans ((k5C_e (EQD_sub (by decide) E2)).trans hk1)
      have hP : OPP (rwC F A) (rwC F3 A3) a1 a2 a3 (paC F A) Dc z (F 0 18) (F3 0 18) (k5C A) (k5C A3) := by
        refine .inr (.inr ⟨hcd, by rw [← hkn]; decide, ?_⟩)
        rw [← hkn]
        have hcd' : okd a1 ∧ okd a2 ∧ ((0 : Int) ≤ 3 ∧ (3 : Int) ≤ 4) ∧ 0 ≤ a3 ∧ a3 ≤ 65536 := ⟨hcd.1, hok, ⟨by decide, by decide⟩, hcd.2.2⟩
        exact .inr ⟨hcd', sc (A2 28) 0 (F2 27 1), (RDQ_H (H2 := paC F A) (RDQ_D hR (by decide)) (by decide)), hN3.1, hN3.2, (fun e => absurd e (by decide)), (fun _ => hk3)⟩
      rw [hz]
      exact k z g2 σ3 D3 N3 F3 A3 c3 s3 X3 (STP_trans (STP_tr0 S1 S2) S3) (EQD_tr (EQD_sub (by decide) E1) (EQD_tr (EQD_sub (by decide) E2) (EQD_sub (by decide) E3))) zr hP (fun _ e => absurd e (by omega))
    · obtain rfl : tc68_4 = 4 := hf
      refine w_callk rfl (fun rec => rinvv rfl rfl (X1.1.obj 0 (by decide +kernel) (show g 0 = true from X1.2.2.1) rfl) rec) rfl (T_ur4_r2 (d := d + 0) X1 q2 (fun z g2 σ2 D2 N2 F2 A2 c2 s2 X2 S2 zr hle E2 hb hR hC hN => ⟨rfl, ?_⟩))
      rw [← S2.1.2.1]
      refine T_openb (d := d + 3) X2 (show inr tc68_1 by omega) zr q0 (fun zz σ3 D3 N3 F3 A3 c3 s3 X3 S3 E3 hz hpl k0 k1 k2 k3 t0 t1 t2 t3 => ?_)
      rw [q3a] at k0 k1 k2 k3 t0 t1 t2 t3
      have hN3 : (0 ≤ z → RWN (rwC F2 A2) (rwC F3 A3) a1 (sc (A2 28) 0 (F2 27 1))) ∧ (z < 0 → RWS (rwC F2 A2) (rwC F3 A3)) := STL_N hcd.1 k0 k1 k2 k3 t0 t1 t2 t3
      have hr2 : rwC F2 A2 = rwC F A := (rwC_e (EQD_sub (by decide) E2)).trans hr1
      rw [hr2] at hN3
      rw [hrow, q3c] at hR hC hN
      rw [← hpl] at hR
      have hk3 : k5C A3 = (A2 30 0, A2 30 1, A2 30 2, A2 30 3, A2 30 4) := k5C_e (EQD_sub (by decide) E3)
      have hP : OPP (rwC F A) (rwC F3 A3) a1 a2 a3 (paC F A) Dc z (F 0 18) (F3 0 18) (k5C A) (k5C A3) := by
        refine .inr (.inr ⟨hcd, by rw [← hkn]; decide, ?_⟩)
        rw [← hkn]
        have hcd' : okd a1 ∧ okd a2 ∧ ((0 : Int) ≤ 4 ∧ (4 : Int) ≤ 4) ∧ 0 ≤ a3 ∧ a3 ≤ 65536 := ⟨hcd.1, hok, ⟨by decide, by decide⟩, hcd.2.2⟩
        exact .inr ⟨hcd', sc (A2 28) 0 (F2 27 1), (RDQ_H (H2 := paC F A) hR (by decide)), hN3.1, hN3.2, (fun _ => by rw [hk3]; exact hC), (fun e => absurd rfl e)⟩
      rw [hz]
      exact k z g2 σ3 D3 N3 F3 A3 c3 s3 X3 (STP_trans (STP_tr0 S1 S2) S3) (EQD_tr (EQD_sub (by decide) E1) (EQD_tr (EQD_sub (by decide) E2) (EQD_sub (by decide) E3))) zr hP (fun _ e => hN)
  · skip
    have E1 : EQD [(2, 1), (4, 1), (6, 1), (8, 1), (11, 1), (0, 18), (25, 1)] [3, 5, 7, 9, 12, 10, 29, 30, 32, 26] [] [] D N F A D1 N1 F1 A1 := EQD_sub (by decide) E1
    have hr1 : rwC F1 A1 = rwC F A := rwC_e (EQD_sub (by decide) E1)
    have hk1 : k5C A1 = k5C A := k5C_e (EQD_sub (by decide) E1)
    have hp0 : F1 0 18 = F 0 18 := E1.1 (0, 18) (by decide)
    have hS : RWS (rwC F A) (rwC F1 A1) := by rw [hr1]; exact RWS_r
    rw [← ea] at q
    rcases q with ⟨qa, qb⟩ | ⟨qa, qb, qc⟩
    · have hn : ¬ (okd a1 ∧ okd a2 ∧ 0 ≤ a3 ∧ a3 ≤ 65536) := fun w => by have w1 := w.1; have w2 := w.2.2; unfold okd at w1; omega
      exact k z g σ1 D1 N1 F1 A1 c1 s1 X1 S1 (EQD_sub (by decide) E1) (by omega) (.inl ⟨hn, qa, hS, hp0, hk1⟩) (fun w => absurd w hn)
    · exact k z g σ1 D1 N1 F1 A1 c1 s1 X1 S1 (EQD_sub (by decide) E1) (by omega) (.inr (.inl ⟨⟨okd_of (by omega), hok, by omega, by omega⟩, qc, qa, hS, hp0, hk1⟩)) (fun _ w => absurd w (by omega))
theorem T_openk3 {Dc : DcS} {g : Nat → Bool} {σ : rS} {D N : Nat → Nat} {F : hF} {A : hA} {d c s : Nat} {Q : wQ} (X : PHI Dc g σ D N F A) {a1 a2 a3 : Int} (ha : a2 = 3) (h0 : inr a1) (h2 : inr a3) (k : ∀ (z : Int) (gₚ : Nat → Bool) (σₚ : rS) (Dₚ Nₚ : Nat → Nat) (Fₚ : hF) (Aₚ : hA) (cₚ sₚ : Nat), PHI Dc gₚ σₚ Dₚ Nₚ Fₚ Aₚ → STP g σ D N A c s gₚ σₚ Dₚ Nₚ Aₚ cₚ sₚ → EQD [(11, 1), (25, 1)] [12, 10, 29, 32, 26] [] [] D N F A Dₚ Nₚ Fₚ Aₚ → inr z → OPP (rwC F A) (rwC Fₚ Aₚ) a1 a2 a3 (paC F A) Dc z (F 0 18) (Fₚ 0 18) (k5C A) (k5C Aₚ) → ((okd a1 ∧ okd a2 ∧ 0 ≤ a3 ∧ a3 ≤ 65536) → knF (rwC F A a2) = 4 → 0 ≤ (RDS (ap (rwC F A a2)) ((rwC F A a2).length : Int) a3 Dc).1) → Q (some (I z)) σₚ cₚ sₚ) : Ew 20 (d + 8) 0 (rargs 0 [.ref (D 0), I a1, I 3, I a3]) [] σ c s Q := by
  have ea : rwC F A a2 = sc (A 9) 0 (F 8 1) := by rw [ha]; rfl
  have hok : okd a2 := by rw [ha]; exact ⟨by decide, by decide⟩
  refine T_opena3 (d := d + 5) X h0 h2 (fun tc68_1 tc68_4 tc68_5 ls σ1 D1 N1 F1 A1 c1 s1 X1 S1 E1  q0 q1 q2 q3 q4 => ?_) (fun z σ1 D1 N1 F1 A1 c1 s1 X1 S1 E1 q => ?_)
  · skip
    have E1 : EQD [(2, 1), (4, 1), (6, 1), (8, 1), (11, 1), (0, 18), (25, 1)] [3, 5, 7, 9, 12, 10, 29, 30, 32, 26] [] [] D N F A D1 N1 F1 A1 := EQD_sub (by decide) E1
    have hr1 : rwC F1 A1 = rwC F A := rwC_e (EQD_sub (by decide) E1)
    have hk1 : k5C A1 = k5C A := k5C_e (EQD_sub (by decide) E1)
    obtain ⟨q3a, q3c⟩ := q3
    have hcd : (okd a1 ∧ okd a2 ∧ 0 ≤ a3 ∧ a3 ≤ 65536) := ⟨okd_of (by omega), hok, by omega, by omega⟩
    have hp1 : paC F1 A1 = paC F A := paC_e (EQD_sub (by decide) E1)
    have hrow : sc (A1 9) 0 (F1 8 1) = rwC F A a2 := by rw [ea, E1.1 (8, 1) (by decide), E1.2.1 9 (by decide)]
    have hkn : tc68_4 = knF (rwC F A a2) := by rw [← hrow]; exact q4
    rcases (show tc68_4 = 1 ∨ tc68_4 = 3 ∨ tc68_4 = 4 by omega) with hf | hf | hf
    · obtain rfl : tc68_4 = 1 := hf
      refine w_callk rfl (fun rec => rinvv rfl rfl (X1.1.obj 0 (by decide +kernel) (show g 0 = true from X1.2.2.1) rfl) rec) rfl (T_ur1_r3 (d := d + 0) X1 q2 (fun z g2 σ2 D2 N2 F2 A2 c2 s2 X2 S2 zr hle E2 hb hR => ⟨rfl, ?_⟩))
      rw [← S2.1.2.1]
      refine T_openb (d := d + 3) X2 (show inr tc68_1 by omega) zr q0 (fun zz σ3 D3 N3 F3 A3 c3 s3 X3 S3 E3 hz hpl k0 k1 k2 k3 t0 t1 t2 t3 => ?_)
      rw [q3a] at k0 k1 k2 k3 t0 t1 t2 t3
      have hN3 : (0 ≤ z → RWN (rwC F2 A2) (rwC F3 A3) a1 (sc (A2 28) 0 (F2 27 1))) ∧ (z < 0 → RWS (rwC F2 A2) (rwC F3 A3)) := STL_N hcd.1 k0 k1 k2 k3 t0 t1 t2 t3
      have hr2 : rwC F2 A2 = rwC F A := (rwC_e (EQD_sub (by decide) E2)).trans hr1
      rw [hr2] at hN3
      rw [hrow, q3c] at hR
      have hR : RDQ 1 (rwC F A a2) (paC F1 A1) DCE a3 z (F2 0 17) (sc (A2 28) 0 (F2 27 1)) := hR
      rw [hp1] at hR
      rw [← hpl] at hR
      have hk3 : k5C A3 = k5C A := (k5C_e (EQD_sub (by decide) E3)).trans ((k5C_e (EQD_sub (by decide) E2)).trans hk1)
      have hP : OPP (rwC F A) (rwC F3 A3) a1 a2 a3 (paC F A) Dc z (F 0 18) (F3 0 18) (k5C A) (k5C A3) := by
        refine .inr (.inr ⟨hcd, by rw [← hkn]; decide, ?_⟩)
        rw [← hkn]
        have hcd' : okd a1 ∧ okd a2 ∧ ((0 : Int) ≤ 1 ∧ (1 : Int) ≤ 4) ∧ 0 ≤ a3 ∧ a3 ≤ 65536 := ⟨hcd.1, hok, ⟨by decide, by decide⟩, hcd.2.2⟩
        exact .inr ⟨hcd', sc (A2 28) 0 (F2 27 1), (RDQ_D hR (by decide)), hN3.1, hN3.2, (fun e => absurd e (by decide)), (fun _ => hk3)⟩
      rw [hz]
      exact k z g2 σ3 D3 N3 F3 A3 c3 s3 X3 (STP_trans (STP_tr0 S1 S2) S3) (EQD_tr (EQD_sub (by decide) E1) (EQD_tr (EQD_sub (by decide) E2) (EQD_sub (by decide) E3))) zr hP (fun _ e => absurd e (by omega))
    · obtain rfl : tc68_4 = 3 := hf
      refine w_callk rfl (fun rec => rinvv rfl rfl (X1.1.obj 0 (by decide +kernel) (show g 0 = true from X1.2.2.1) rfl) rec) rfl (T_ur3_r3 (d := d + 0) X1 q2 (fun z g2 σ2 D2 N2 F2 A2 c2 s2 X2 S2 zr hle E2 hb hR => ⟨rfl, ?_⟩))
      rw [← S2.1.2.1]
      refine T_openb (d := d + 3) X2 (show inr tc68_1 by omega) zr q0 (fun zz σ3 D3 N3 F3 A3 c3 s3 X3 S3 E3 hz hpl k0 k1 k2 k3 t0 t1 t2 t3 => ?_)
      rw [q3a] at k0 k1 k2 k3 t0 t1 t2 t3
      have hN3 : (0 ≤ z → RWN (rwC F2 A2) (rwC F3 A3) a1 (sc (A2 28) 0 (F2 27 1))) ∧ (z < 0 → RWS (rwC F2 A2) (rwC F3 A3)) := STL_N hcd.1 k0 k1 k2 k3 t0 t1 t2 t3
      have hr2 : rwC F2 A2 = rwC F A := (rwC_e (EQD_sub (by decide) E2)).trans hr1
      rw [hr2] at hN3
      rw [hrow, q3c] at hR
      rw [← hpl] at hR
      have hk3 : k5C A3 = k5C A := (k5C_e (EQD_sub (by decide) E3)).trans ((k5C_e (EQD_sub (by decide) E2)).trans hk1)
      have hP : OPP (rwC F A) (rwC F3 A3) a1 a2 a3 (paC F A) Dc z (F 0 18) (F3 0 18) (k5C A) (k5C A3) := by
        refine .inr (.inr ⟨hcd, by rw [← hkn]; decide, ?_⟩)
        rw [← hkn]
        have hcd' : okd a1 ∧ okd a2 ∧ ((0 : Int) ≤ 3 ∧ (3 : Int) ≤ 4) ∧ 0 ≤ a3 ∧ a3 ≤ 65536 := ⟨hcd.1, hok, ⟨by decide, by decide⟩, hcd.2.2⟩
        exact .inr ⟨hcd', sc (A2 28) 0 (F2 27 1), (RDQ_H (H2 := paC F A) (RDQ_D hR (by decide)) (by decide)), hN3.1, hN3.2, (fun e => absurd e (by decide)), (fun _ => hk3)⟩
      rw [hz]
      exact k z g2 σ3 D3 N3 F3 A3 c3 s3 X3 (STP_trans (STP_tr0 S1 S2) S3) (EQD_tr (EQD_sub (by decide) E1) (EQD_tr (EQD_sub (by decide) E2) (EQD_sub (by decide) E3))) zr hP (fun _ e => absurd e (by omega))
    · obtain rfl : tc68_4 = 4 := hf
      refine w_callk rfl (fun rec => rinvv rfl rfl (X1.1.obj 0 (by decide +kernel) (show g 0 = true from X1.2.2.1) rfl) rec) rfl (T_ur4_r3 (d := d + 0) X1 q2 (fun z g2 σ2 D2 N2 F2 A2 c2 s2 X2 S2 zr hle E2 hb hR hC hN => ⟨rfl, ?_⟩))
      rw [← S2.1.2.1]
      refine T_openb (d := d + 3) X2 (show inr tc68_1 by omega) zr q0 (fun zz σ3 D3 N3 F3 A3 c3 s3 X3 S3 E3 hz hpl k0 k1 k2 k3 t0 t1 t2 t3 => ?_)
      rw [q3a] at k0 k1 k2 k3 t0 t1 t2 t3
      have hN3 : (0 ≤ z → RWN (rwC F2 A2) (rwC F3 A3) a1 (sc (A2 28) 0 (F2 27 1))) ∧ (z < 0 → RWS (rwC F2 A2) (rwC F3 A3)) := STL_N hcd.1 k0 k1 k2 k3 t0 t1 t2 t3
      have hr2 : rwC F2 A2 = rwC F A := (rwC_e (EQD_sub (by decide) E2)).trans hr1
      rw [hr2] at hN3
      rw [hrow, q3c] at hR hC hN
      rw [← hpl] at hR
      have hk3 : k5C A3 = (A2 30 0, A2 30 1, A2 30 2, A2 30 3, A2 30 4) := k5C_e (EQD_sub (by decide) E3)
      have hP : OPP (rwC F A) (rwC F3 A3) a1 a2 a3 (paC F A) Dc z (F 0 18) (F3 0 18) (k5C A) (k5C A3) := by
        refine .inr (.inr ⟨hcd, by rw [← hkn]; decide, ?_⟩)
        rw [← hkn]
        have hcd' : okd a1 ∧ okd a2 ∧ ((0 : Int) ≤ 4 ∧ (4 : Int) ≤ 4) ∧ 0 ≤ a3 ∧ a3 ≤ 65536 := ⟨hcd.1, hok, ⟨by decide, by decide⟩, hcd.2.2⟩
        exact .inr ⟨hcd', sc (A2 28) 0 (F2 27 1), (RDQ_H (H2 := paC F A) hR (by decide)), hN3.1, hN3.2, (fun _ => by rw [hk3]; exact hC), (fun e => absurd rfl e)⟩
      rw [hz]
      exact k z g2 σ3 D3 N3 F3 A3 c3 s3 X3 (STP_trans (STP_tr0 S1 S2) S3) (EQD_tr (EQD_sub (by decide) E1) (EQD_tr (EQD_sub (by decide) E2) (EQD_sub (by decide) E3))) zr hP (fun _ e => hN)
  · skip
    have E1 : EQD [(2, 1), (4, 1), (6, 1), (8, 1), (11, 1), (0, 18), (25, 1)] [3, 5, 7, 9, 12, 10, 29, 30, 32, 26] [] [] D N F A D1 N1 F1 A1 := EQD_sub (by decide) E1
    have hr1 : rwC F1 A1 = rwC F A := rwC_e (EQD_sub (by decide) E1)
    have hk1 : k5C A1 = k5C A := k5C_e (EQD_sub (by decide) E1)
    have hp0 : F1 0 18 = F 0 18 := E1.1 (0, 18) (by decide)
    have hS : RWS (rwC F A) (rwC F1 A1) := by rw [hr1]; exact RWS_r
    rw [← ea] at q
    rcases q with ⟨qa, qb⟩ | ⟨qa, qb, qc⟩
    · have hn : ¬ (okd a1 ∧ okd a2 ∧ 0 ≤ a3 ∧ a3 ≤ 65536) := fun w => by have w1 := w.1; have w2 := w.2.2; unfold okd at w1; omega
      exact k z g σ1 D1 N1 F1 A1 c1 s1 X1 S1 (EQD_sub (by decide) E1) (by omega) (.inl ⟨hn, qa, hS, hp0, hk1⟩) (fun w => absurd w hn)
    · exact k z g σ1 D1 N1 F1 A1 c1 s1 X1 S1 (EQD_sub (by decide) E1) (by omega) (.inr (.inl ⟨⟨okd_of (by omega), hok, by omega, by omega⟩, qc, qa, hS, hp0, hk1⟩)) (fun _ w => absurd w (by omega))
theorem T_open {Dc : DcS} {g : Nat → Bool} {σ : rS} {D N : Nat → Nat} {F : hF} {A : hA} {d c s : Nat} {Q : wQ} (X : PHI Dc g σ D N F A) {a1 a2 a3 : Int} (h0 : inr a1) (h1 : inr a2) (h2 : inr a3) (k : ∀ (z : Int) (gₚ : Nat → Bool) (σₚ : rS) (Dₚ Nₚ : Nat → Nat) (Fₚ : hF) (Aₚ : hA) (cₚ sₚ : Nat), PHI Dc gₚ σₚ Dₚ Nₚ Fₚ Aₚ → STP g σ D N A c s gₚ σₚ Dₚ Nₚ Aₚ cₚ sₚ → EQD [(11, 1), (25, 1)] [12, 10, 29, 32, 26] [] [] D N F A Dₚ Nₚ Fₚ Aₚ → inr z → OPP (rwC F A) (rwC Fₚ Aₚ) a1 a2 a3 (paC F A) Dc z (F 0 18) (Fₚ 0 18) (k5C A) (k5C Aₚ) → ((okd a1 ∧ okd a2 ∧ 0 ≤ a3 ∧ a3 ≤ 65536) → knF (rwC F A a2) = 4 → 0 ≤ (RDS (ap (rwC F A a2)) ((rwC F A a2).length : Int) a3 Dc).1) → Q (some (I z)) σₚ cₚ sₚ) : Ew 20 (d + 8) 0 (rargs 0 [.ref (D 0), I a1, I a2, I a3]) [] σ c s Q := by
  rcases (show a2 = 0 ∨ a2 = 1 ∨ a2 = 2 ∨ a2 = 3 ∨ (a2 < 0 ∨ 4 ≤ a2) by omega) with ha | ha | ha | ha | ha
  · have q := T_openk0 (d := d) X ha h0 h2 k
    rw [ha]
    exact q
  · have q := T_openk1 (d := d) X ha h0 h2 k
    rw [ha]
    exact q
  · have q := T_openk2 (d := d) X ha h0 h2 k
    rw [ha]
    exact q
  · have q := T_openk3 (d := d) X ha h0 h2 k
    rw [ha]
    exact q
  · refine T_openx (d := d + 7) X h0 h1 h2 ha (fun z σ1 D1 N1 F1 A1 c1 s1 X1 S1 E1 q => ?_)
    have E1 : EQD [(2, 1), (4, 1), (6, 1), (8, 1), (11, 1), (0, 18), (25, 1)] [3, 5, 7, 9, 12, 10, 29, 30, 32, 26] [] [] D N F A D1 N1 F1 A1 := EQD_sub (by decide) E1
    have hr1 : rwC F1 A1 = rwC F A := rwC_e (EQD_sub (by decide) E1)
    have hk1 : k5C A1 = k5C A := k5C_e (EQD_sub (by decide) E1)
    have hp0 : F1 0 18 = F 0 18 := E1.1 (0, 18) (by decide)
    have hS : RWS (rwC F A) (rwC F1 A1) := by rw [hr1]; exact RWS_r
    have hn : ¬ (okd a1 ∧ okd a2 ∧ 0 ≤ a3 ∧ a3 ≤ 65536) := fun w => by have w1 := w.2.1; unfold okd at w1; omega
    exact k z g σ1 D1 N1 F1 A1 c1 s1 X1 S1 (EQD_sub (by decide) E1) (by omega) (.inl ⟨hn, q, hS, hp0, hk1⟩) (fun w => absurd w hn)

