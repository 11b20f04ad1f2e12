/-! learn over the state -/
theorem T_hear0 {g : Nat → Bool} {σ : rS} {D N : Nat → Nat} {F : hF} {A : hA} {d c s : Nat} {Q : wQ} (X : PHI g σ D N F A) (k : ∀ (z : Int) (gₚ : Nat → Bool) (σₚ : rS) (Dₚ Nₚ : Nat → Nat) (Fₚ : hF) (Aₚ : hA) (cₚ sₚ : Nat), PHI gₚ σₚ Dₚ Nₚ Fₚ Aₚ → STP g σ D N A c s gₚ σₚ Dₚ Nₚ Aₚ cₚ sₚ → inr z → (z < 0 ∨ (gₚ 8 = true ∧ OD8 Dₚ Nₚ Fₚ Aₚ ∨ gₚ 8 = false ∧ ON8 Dₚ Nₚ Fₚ Aₚ)) → Q (some (I z)) σₚ cₚ sₚ) : Ew 115 (d + 5) 0 (rargs 0 [.ref (D 19), .ref (D 2)]) [] σ c s Q := by
  cases h8 : g 8 with
  | true =>
    exact T_hr0 (d := d + 0) X h8 (fun z σ1 D1 N1 F1 A1 c1 s1 X1 S1 zr u0 u1 u2 u3 u4 u5 u6 u7 u8 u9 u10 => k z g σ1 D1 N1 F1 A1 c1 s1 X1 S1 zr (by by_cases q : z < 0; exact .inl q; exact .inr (.inl ⟨h8, Or.resolve_left u0 q, Or.resolve_left u1 q, Or.resolve_left u2 q, Or.resolve_left u3 q, Or.resolve_left u4 q, Or.resolve_left u5 q, Or.resolve_left u6 q, Or.resolve_left u7 q, Or.resolve_left u8 q, Or.resolve_left u9 q, Or.resolve_left u10 q⟩)))
  | false =>
    refine T_ha0 (d := d + 1) X (fun x3 ls σ1 D1 N1 F1 A1 c1 s1 X1 S1 l0 l2 l3 e1 e2 => ?_) (fun z σ1 D1 N1 F1 A1 c1 s1 X1 S1 zr v0 v1 v2 v3 => k z g σ1 D1 N1 F1 A1 c1 s1 X1 S1 zr (.inr (.inr ⟨h8, v0, v1, v2, v3⟩)))
    have hg0 : g 0 = true := X1.2.2.1
    refine w_callk rfl (fun rec => rinvv rfl rfl (X1.1.obj 19 (by decide +kernel) hg0 rfl) rec) rfl (T_mk_par8 (d := d + 1) X1 h8 (fun σ2 D2 N2 F2 A2 c2 s2 X2 S2 K2 => ⟨rfl, ?_⟩))
    have d0 : D2 19 = D1 19 := (K2 19 (by decide +kernel) hg0).1
    have d2 : D2 3 = D1 3 := (K2 3 (by decide +kernel) hg0).1
    have n2 : N2 3 = N1 3 := ((K2 3 (by decide +kernel) hg0).2 (by decide)).1
    have f2 : F2 20 1 = 0 := by rw [((K2 20 (by decide +kernel) hg0).2 (by decide)).2.2]; exact e2
    have hrb : (N1 3 : Int) ≤ 65536 := by have w := X1.2.2.2.2.2.2.2.1; unfold INV0 at w; have w := w.1; omega
    exact T_hb0 (d := d + 0) X2 (gset_m rfl) (by rw [d0]; exact l0) (by rw [d2]; exact l2) l3 (by omega) (by omega) f2 (fun z σ3 D3 N3 F3 A3 c3 s3 X3 S3 zr u0 u1 u2 u3 u4 u5 u6 u7 u8 u9 u10 => k z _ σ3 D3 N3 F3 A3 c3 s3 X3 (STP_trans (STP_tr0 S1 S2) S3) zr (by by_cases q : z < 0; exact .inl q; exact .inr (.inl ⟨gset_m rfl, Or.resolve_left u0 q, Or.resolve_left u1 q, Or.resolve_left u2 q, Or.resolve_left u3 q, Or.resolve_left u4 q, Or.resolve_left u5 q, Or.resolve_left u6 q, Or.resolve_left u7 q, Or.resolve_left u8 q, Or.resolve_left u9 q, Or.resolve_left u10 q⟩)))
theorem T_hear1 {g : Nat → Bool} {σ : rS} {D N : Nat → Nat} {F : hF} {A : hA} {d c s : Nat} {Q : wQ} (X : PHI g σ D N F A) (k : ∀ (z : Int) (gₚ : Nat → Bool) (σₚ : rS) (Dₚ Nₚ : Nat → Nat) (Fₚ : hF) (Aₚ : hA) (cₚ sₚ : Nat), PHI gₚ σₚ Dₚ Nₚ Fₚ Aₚ → STP g σ D N A c s gₚ σₚ Dₚ Nₚ Aₚ cₚ sₚ → inr z → (z < 0 ∨ (gₚ 8 = true ∧ OD8 Dₚ Nₚ Fₚ Aₚ ∨ gₚ 8 = false ∧ ON8 Dₚ Nₚ Fₚ Aₚ)) → Q (some (I z)) σₚ cₚ sₚ) : Ew 115 (d + 5) 0 (rargs 0 [.ref (D 19), .ref (D 4)]) [] σ c s Q := by
  cases h8 : g 8 with
  | true =>
    exact T_hr1 (d := d + 0) X h8 (fun z σ1 D1 N1 F1 A1 c1 s1 X1 S1 zr u0 u1 u2 u3 u4 u5 u6 u7 u8 u9 u10 => k z g σ1 D1 N1 F1 A1 c1 s1 X1 S1 zr (by by_cases q : z < 0; exact .inl q; exact .inr (.inl ⟨h8, Or.resolve_left u0 q, Or.resolve_left u1 q, Or.resolve_left u2 q, Or.resolve_left u3 q, Or.resolve_left u4 q, Or.resolve_left u5 q, Or.resolve_left u6 q, Or.resolve_left u7 q, Or.resolve_left u8 q, Or.resolve_left u9 q, Or.resolve_left u10 q⟩)))
  | false =>
    refine T_ha1 (d := d + 1) X (fun x3 ls σ1 D1 N1 F1 A1 c1 s1 X1 S1 l0 l2 l3 e1 e2 => ?_) (fun z σ1 D1 N1 F1 A1 c1 s1 X1 S1 zr v0 v1 v2 v3 => k z g σ1 D1 N1 F1 A1 c1 s1 X1 S1 zr (.inr (.inr ⟨h8, v0, v1, v2, v3⟩)))
    have hg0 : g 0 = true := X1.2.2.1
    refine w_callk rfl (fun rec => rinvv rfl rfl (X1.1.obj 19 (by decide +kernel) hg0 rfl) rec) rfl (T_mk_par8 (d := d + 1) X1 h8 (fun σ2 D2 N2 F2 A2 c2 s2 X2 S2 K2 => ⟨rfl, ?_⟩))
    have d0 : D2 19 = D1 19 := (K2 19 (by decide +kernel) hg0).1
    have d2 : D2 5 = D1 5 := (K2 5 (by decide +kernel) hg0).1
    have n2 : N2 5 = N1 5 := ((K2 5 (by decide +kernel) hg0).2 (by decide)).1
    have f2 : F2 20 1 = 0 := by rw [((K2 20 (by decide +kernel) hg0).2 (by decide)).2.2]; exact e2
    have hrb : (N1 5 : Int) ≤ 65536 := by have w := X1.2.2.2.2.2.2.2.1; unfold INV0 at w; have w := w.2.1; omega
    exact T_hb1 (d := d + 0) X2 (gset_m rfl) (by rw [d0]; exact l0) (by rw [d2]; exact l2) l3 (by omega) (by omega) f2 (fun z σ3 D3 N3 F3 A3 c3 s3 X3 S3 zr u0 u1 u2 u3 u4 u5 u6 u7 u8 u9 u10 => k z _ σ3 D3 N3 F3 A3 c3 s3 X3 (STP_trans (STP_tr0 S1 S2) S3) zr (by by_cases q : z < 0; exact .inl q; exact .inr (.inl ⟨gset_m rfl, Or.resolve_left u0 q, Or.resolve_left u1 q, Or.resolve_left u2 q, Or.resolve_left u3 q, Or.resolve_left u4 q, Or.resolve_left u5 q, Or.resolve_left u6 q, Or.resolve_left u7 q, Or.resolve_left u8 q, Or.resolve_left u9 q, Or.resolve_left u10 q⟩)))
theorem T_hear2 {g : Nat → Bool} {σ : rS} {D N : Nat → Nat} {F : hF} {A : hA} {d c s : Nat} {Q : wQ} (X : PHI g σ D N F A) (k : ∀ (z : Int) (gₚ : Nat → Bool) (σₚ : rS) (Dₚ Nₚ : Nat → Nat) (Fₚ : hF) (Aₚ : hA) (cₚ sₚ : Nat), PHI gₚ σₚ Dₚ Nₚ Fₚ Aₚ → STP g σ D N A c s gₚ σₚ Dₚ Nₚ Aₚ cₚ sₚ → inr z → (z < 0 ∨ (gₚ 8 = true ∧ OD8 Dₚ Nₚ Fₚ Aₚ ∨ gₚ 8 = false ∧ ON8 Dₚ Nₚ Fₚ Aₚ)) → Q (some (I z)) σₚ cₚ sₚ) : Ew 115 (d + 5) 0 (rargs 0 [.ref (D 19), .ref (D 6)]) [] σ c s Q := by
  cases h8 : g 8 with
  | true =>
    exact T_hr2 (d := d + 0) X h8 (fun z σ1 D1 N1 F1 A1 c1 s1 X1 S1 zr u0 u1 u2 u3 u4 u5 u6 u7 u8 u9 u10 => k z g σ1 D1 N1 F1 A1 c1 s1 X1 S1 zr (by by_cases q : z < 0; exact .inl q; exact .inr (.inl ⟨h8, Or.resolve_left u0 q, Or.resolve_left u1 q, Or.resolve_left u2 q, Or.resolve_left u3 q, Or.resolve_left u4 q, Or.resolve_left u5 q, Or.resolve_left u6 q, Or.resolve_left u7 q, Or.resolve_left u8 q, Or.resolve_left u9 q, Or.resolve_left u10 q⟩)))
  | false =>
    refine T_ha2 (d := d + 1) X (fun x3 ls σ1 D1 N1 F1 A1 c1 s1 X1 S1 l0 l2 l3 e1 e2 => ?_) (fun z σ1 D1 N1 F1 A1 c1 s1 X1 S1 zr v0 v1 v2 v3 => k z g σ1 D1 N1 F1 A1 c1 s1 X1 S1 zr (.inr (.inr ⟨h8, v0, v1, v2, v3⟩)))
    have hg0 : g 0 = true := X1.2.2.1
    refine w_callk rfl (fun rec => rinvv rfl rfl (X1.1.obj 19 (by decide +kernel) hg0 rfl) rec) rfl (T_mk_par8 (d := d + 1) X1 h8 (fun σ2 D2 N2 F2 A2 c2 s2 X2 S2 K2 => ⟨rfl, ?_⟩))
    have d0 : D2 19 = D1 19 := (K2 19 (by decide +kernel) hg0).1
    have d2 : D2 7 = D1 7 := (K2 7 (by decide +kernel) hg0).1
    have n2 : N2 7 = N1 7 := ((K2 7 (by decide +kernel) hg0).2 (by decide)).1
    have f2 : F2 20 1 = 0 := by rw [((K2 20 (by decide +kernel) hg0).2 (by decide)).2.2]; exact e2
    have hrb : (N1 7 : Int) ≤ 65536 := by have w := X1.2.2.2.2.2.2.2.1; unfold INV0 at w; have w := w.2.2.1; omega
    exact T_hb2 (d := d + 0) X2 (gset_m rfl) (by rw [d0]; exact l0) (by rw [d2]; exact l2) l3 (by omega) (by omega) f2 (fun z σ3 D3 N3 F3 A3 c3 s3 X3 S3 zr u0 u1 u2 u3 u4 u5 u6 u7 u8 u9 u10 => k z _ σ3 D3 N3 F3 A3 c3 s3 X3 (STP_trans (STP_tr0 S1 S2) S3) zr (by by_cases q : z < 0; exact .inl q; exact .inr (.inl ⟨gset_m rfl, Or.resolve_left u0 q, Or.resolve_left u1 q, Or.resolve_left u2 q, Or.resolve_left u3 q, Or.resolve_left u4 q, Or.resolve_left u5 q, Or.resolve_left u6 q, Or.resolve_left u7 q, Or.resolve_left u8 q, Or.resolve_left u9 q, Or.resolve_left u10 q⟩)))
theorem T_hear3 {g : Nat → Bool} {σ : rS} {D N : Nat → Nat} {F : hF} {A : hA} {d c s : Nat} {Q : wQ} (X : PHI g σ D N F A) (k : ∀ (z : Int) (gₚ : Nat → Bool) (σₚ : rS) (Dₚ Nₚ : Nat → Nat) (Fₚ : hF) (Aₚ : hA) (cₚ sₚ : Nat), PHI gₚ σₚ Dₚ Nₚ Fₚ Aₚ → STP g σ D N A c s gₚ σₚ Dₚ Nₚ Aₚ cₚ sₚ → inr z → (z < 0 ∨ (gₚ 8 = true ∧ OD8 Dₚ Nₚ Fₚ Aₚ ∨ gₚ 8 = false ∧ ON8 Dₚ Nₚ Fₚ Aₚ)) → Q (some (I z)) σₚ cₚ sₚ) : Ew 115 (d + 5) 0 (rargs 0 [.ref (D 19), .ref (D 8)]) [] σ c s Q := by
  cases h8 : g 8 with
  | true =>
    exact T_hr3 (d := d + 0) X h8 (fun z σ1 D1 N1 F1 A1 c1 s1 X1 S1 zr u0 u1 u2 u3 u4 u5 u6 u7 u8 u9 u10 => k z g σ1 D1 N1 F1 A1 c1 s1 X1 S1 zr (by by_cases q : z < 0; exact .inl q; exact .inr (.inl ⟨h8, Or.resolve_left u0 q, Or.resolve_left u1 q, Or.resolve_left u2 q, Or.resolve_left u3 q, Or.resolve_left u4 q, Or.resolve_left u5 q, Or.resolve_left u6 q, Or.resolve_left u7 q, Or.resolve_left u8 q, Or.resolve_left u9 q, Or.resolve_left u10 q⟩)))
  | false =>
    refine T_ha3 (d := d + 1) X (fun x3 ls σ1 D1 N1 F1 A1 c1 s1 X1 S1 l0 l2 l3 e1 e2 => ?_) (fun z σ1 D1 N1 F1 A1 c1 s1 X1 S1 zr v0 v1 v2 v3 => k z g σ1 D1 N1 F1 A1 c1 s1 X1 S1 zr (.inr (.inr ⟨h8, v0, v1, v2, v3⟩)))
    have hg0 : g 0 = true := X1.2.2.1
    refine w_callk rfl (fun rec => rinvv rfl rfl (X1.1.obj 19 (by decide +kernel) hg0 rfl) rec) rfl (T_mk_par8 (d := d + 1) X1 h8 (fun σ2 D2 N2 F2 A2 c2 s2 X2 S2 K2 => ⟨rfl, ?_⟩))
    have d0 : D2 19 = D1 19 := (K2 19 (by decide +kernel) hg0).1
    have d2 : D2 9 = D1 9 := (K2 9 (by decide +kernel) hg0).1
    have n2 : N2 9 = N1 9 := ((K2 9 (by decide +kernel) hg0).2 (by decide)).1
    have f2 : F2 20 1 = 0 := by rw [((K2 20 (by decide +kernel) hg0).2 (by decide)).2.2]; exact e2
    have hrb : (N1 9 : Int) ≤ 65536 := by have w := X1.2.2.2.2.2.2.2.1; unfold INV0 at w; have w := w.2.2.2.1; omega
    exact T_hb3 (d := d + 0) X2 (gset_m rfl) (by rw [d0]; exact l0) (by rw [d2]; exact l2) l3 (by omega) (by omega) f2 (fun z σ3 D3 N3 F3 A3 c3 s3 X3 S3 zr u0 u1 u2 u3 u4 u5 u6 u7 u8 u9 u10 => k z _ σ3 D3 N3 F3 A3 c3 s3 X3 (STP_trans (STP_tr0 S1 S2) S3) zr (by by_cases q : z < 0; exact .inl q; exact .inr (.inl ⟨gset_m rfl, Or.resolve_left u0 q, Or.resolve_left u1 q, Or.resolve_left u2 q, Or.resolve_left u3 q, Or.resolve_left u4 q, Or.resolve_left u5 q, Or.resolve_left u6 q, Or.resolve_left u7 q, Or.resolve_left u8 q, Or.resolve_left u9 q, Or.resolve_left u10 q⟩)))
def ι_leb : List Nat := [0, 19, 13]
theorem vs_leb : VS VPH V15_vb ι_leb := VS_of (by decide +kernel)
theorem glu_id {α : Type} {ι : List Nat} {f f' : Nat → α} (h : ∀ p, f' p = pul ι f p) : glu ι f f' = f := funext (fun x => by
  cases hf : fnd x ι with
  | none => rw [glu_n hf]
  | some p =>
    rw [glu_s hf, h p]
    show f (ι.getD p 0) = f x
    rw [(fnd_lt hf).2])
theorem KC_sw {g : Nat → Bool} : KC (swg g) = KC g := by
  unfold KC
  show kadd (g 1) 8 + (kadd (g 2) 3 + (kadd (g 3) 3 + (kadd (g 4) 28 + (kadd (g 5) 125 + (kadd (g 6) 59 + (kadd (g 8) 51 + kadd (g 7) 51)))))) = _
  omega
theorem KS_sw {g : Nat → Bool} : KS (swg g) = KS g := by
  unfold KS
  show kadd (g 1) 24 + (kadd (g 2) 18 + (kadd (g 3) 14 + (kadd (g 4) 1112 + (kadd (g 5) 18162 + (kadd (g 6) 8932 + (kadd (g 8) 8890 + kadd (g 7) 8890)))))) = _
  omega
theorem T_leb {g : Nat → Bool} {σ : rS} {D N : Nat → Nat} {F : hF} {A : hA} {d c s : Nat} {Q : wQ} (X : PHI g σ D N F A) {y0 : Int} {ls : rO} (hl0 : rlook ls 0 = some (.ref (D 0))) (h0 : inr y0) (hgood : y0 < 0 ∨ (g 8 = true ∧ OD8 D N F A ∨ g 8 = false ∧ ON8 D N F A)) (k : ∀ (gₚ : Nat → Bool) (σₚ : rS) (Dₚ Nₚ : Nat → Nat) (Fₚ : hF) (Aₚ : hA) (cₚ sₚ : Nat), PHI gₚ σₚ Dₚ Nₚ Fₚ Aₚ → STP g σ D N A c s gₚ σₚ Dₚ Nₚ Aₚ cₚ sₚ → Q (some (I y0)) σₚ cₚ sₚ) : Ew 15 (d + 0) 23 ls [I y0] σ c s Q := by
  have X0 := X
  obtain ⟨HX, HT, hg0, hPF, hAB, hNZ, hGI, hI0, hI1, hI2, hI3, hI4, hI5, hI6, hI7, hI8, hI9⟩ := X
  have hp : ∀ x, x < (V15_vb).length → SPH g (ι_leb.getD x 0) = true := SPH_of (gs := [0]) (by intro j hj; simp at hj; subst hj; exact hg0) rfl (by decide +kernel)
  refine C15_vb (d := d) (D := pul ι_leb D) (N := pul ι_leb N) (F := pul ι_leb F) (A := pul ι_leb A) (HWs_sub HX vs_leb hp) (show F 0 4 = (D 19 : Int) from hPF (0, 0, 4, 19) (List.mem_of_getElem? (i := 18) rfl) hg0 hg0) (show F 0 3 = (D 13 : Int) from hPF (0, 0, 3, 13) (List.mem_of_getElem? (i := 12) rfl) hg0 hg0) (F 0 3) rfl (F 0 4) rfl hl0 h0 (fun z σₚ Fₚ Aₚ Hₚ O sf sa y3 e3 y4 e4 zr q => ?_)
  subst e3 e4
  obtain ⟨hz, q⟩ := q
  subst hz
  have HW1 := HWs_call HX VPH_3 vs_leb hp Hₚ O
  have eD : glu ι_leb D (pul ι_leb D) = D := glu_id (fun _ => rfl)
  have eN : glu ι_leb N (pul ι_leb N) = N := glu_id (fun _ => rfl)
  have eA : glu ι_leb A Aₚ = A := glu_id (fun p => funext (sa p rfl))
  rw [eD, eN, eA] at HW1
  have HT1 := STC_call HT HX vs_leb hp O
  have hF : ∀ x k, x ≠ 0 → glu ι_leb F Fₚ x k = F x k := fun x k hx => by
    cases hf : fnd x ι_leb with
    | none => rw [glu_n hf]
    | some p =>
      have w := fnd_lt hf
      have hp0 : p ≠ 0 := fun e => by subst e; exact hx w.2.symm
      rw [glu_s hf, sf p k (by
        show (Nat.beq 0 p && Nat.beq 3 k || (Nat.beq 0 p && Nat.beq 4 k || false)) = false
        rw [beqf (fun e => hp0 e.symm)]
        rfl)]
      show F (ι_leb.getD p 0) k = F x k
      rw [w.2]
  have hF0 : ∀ k, k ≠ 3 → k ≠ 4 → glu ι_leb F Fₚ 0 k = F 0 k := fun k k3 k4 => by
    show Fₚ 0 k = F 0 k
    exact sf 0 k (by
      show (Nat.beq 3 k || (Nat.beq 4 k || false)) = false
      rw [beqf (fun e => k3 e.symm), beqf (fun e => k4 e.symm)]
      rfl)
  have hS := STY_call (D := D) (N := N) (Dₚ := pul ι_leb D) vs_leb hp O
  have hR := RM_call (V := VPH) vs_leb O
  rw [eD] at hS
  rw [eN] at hR
  rcases q with ⟨q1, q2, q3⟩ | ⟨q1, q2, q3⟩
  · have eF : glu ι_leb F Fₚ = F := funext (fun x => funext (fun k => by
      by_cases hx : x = 0
      · subst hx
        by_cases k3 : k = 3
        · subst k3; exact q2
        · by_cases k4 : k = 4
          · subst k4; exact q3
          · exact hF0 k k3 k4
      · exact hF x k hx))
    rw [eF] at HW1
    exact k g σₚ D N F A c s ⟨HW1, HT1, X0.2.2⟩ ⟨STP0_call hS rfl hR, rfl⟩
  · have X1 := PHI_swap (F1 := glu ι_leb F Fₚ) X0 (Or.resolve_left hgood (by omega)) HW1 HT1 hF hF0 q2 q3
    refine k _ σₚ _ _ _ _ c s X1 ⟨⟨⟨hS.1, hS.2.1, fun x hx hs => .inl ⟨sw x, sw_lt hx, by rw [← sw_S hx]; exact hs, rfl⟩⟩, rfl, ?_, ?_⟩, rfl⟩
    · unfold PCg
      rw [sw_vs (fun x => pC (N x)), KC_sw]
      omega
    · unfold PSg
      rw [sw_vs (fun x => pS (N x)), KS_sw]
      omega
theorem T_learn {g : Nat → Bool} {σ : rS} {D N : Nat → Nat} {F : hF} {A : hA} {d c s : Nat} {Q : wQ} (X : PHI g σ D N F A) {a1 : Int} (h0 : inr a1) (k : ∀ (z : Int) (gₚ : Nat → Bool) (σₚ : rS) (Dₚ Nₚ : Nat → Nat) (Fₚ : hF) (Aₚ : hA) (cₚ sₚ : Nat), PHI gₚ σₚ Dₚ Nₚ Fₚ Aₚ → STP g σ D N A c s gₚ σₚ Dₚ Nₚ Aₚ cₚ sₚ → inr z → Q (some (I z)) σₚ cₚ sₚ) : Ew 15 (d + 6) 0 (rargs 0 [.ref (D 0), I a1]) [] σ c s Q := by
  rcases (show a1 = 0 ∨ a1 = 1 ∨ a1 = 2 ∨ a1 = 3 ∨ (a1 < 0 ∨ 4 ≤ a1) by omega) with rfl | rfl | rfl | rfl | ha
  · refine T_lea0 (d := d + 5) X (fun ls σ1 D1 N1 F1 A1 c1 s1 X1 S1 l0 => ?_) (fun z σ1 D1 N1 F1 A1 c1 s1 X1 S1 zr => k z g σ1 D1 N1 F1 A1 c1 s1 X1 S1 zr)
    refine w_callk rfl (fun rec => rinvv rfl rfl (X1.1.obj 19 (by decide +kernel) (show g 0 = true from X1.2.2.1) rfl) rec) rfl (T_hear0 (d := d + 0) X1 (fun z g2 σ2 D2 N2 F2 A2 c2 s2 X2 S2 zr hg => ⟨rfl, ?_⟩))
    exact T_leb (d := d + 6) X2 (by rw [S2.1.2.1]; exact l0) zr hg (fun g3 σ3 D3 N3 F3 A3 c3 s3 X3 S3 => k z g3 σ3 D3 N3 F3 A3 c3 s3 X3 (STP_trans (STP_tr0 S1 S2) S3) zr)
  · refine T_lea1 (d := d + 5) X (fun ls σ1 D1 N1 F1 A1 c1 s1 X1 S1 l0 => ?_) (fun z σ1 D1 N1 F1 A1 c1 s1 X1 S1 zr => k z g σ1 D1 N1 F1 A1 c1 s1 X1 S1 zr)
    refine w_callk rfl (fun rec => rinvv rfl rfl (X1.1.obj 19 (by decide +kernel) (show g 0 = true from X1.2.2.1) rfl) rec) rfl (T_hear1 (d := d + 0) X1 (fun z g2 σ2 D2 N2 F2 A2 c2 s2 X2 S2 zr hg => ⟨rfl, ?_⟩))
    exact T_leb (d := d + 6) X2 (by rw [S2.1.2.1]; exact l0) zr hg (fun g3 σ3 D3 N3 F3 A3 c3 s3 X3 S3 => k z g3 σ3 D3 N3 F3 A3 c3 s3 X3 (STP_trans (STP_tr0 S1 S2) S3) zr)
  · refine T_lea2 (d := d + 5) X (fun ls σ1 D1 N1 F1 A1 c1 s1 X1 S1 l0 => ?_) (fun z σ1 D1 N1 F1 A1 c1 s1 X1 S1 zr => k z g σ1 D1 N1 F1 A1 c1 s1 X1 S1 zr)
    refine w_callk rfl (fun rec => rinvv rfl rfl (X1.1.obj 19 (by decide +kernel) (show g 0 = true from X1.2.2.1) rfl) rec) rfl (T_hear2 (d := d + 0) X1 (fun z g2 σ2 D2 N2 F2 A2 c2 s2 X2 S2 zr hg => ⟨rfl, ?_⟩))
    exact T_leb (d := d + 6) X2 (by rw [S2.1.2.1]; exact l0) zr hg (fun g3 σ3 D3 N3 F3 A3 c3 s3 X3 S3 => k z g3 σ3 D3 N3 F3 A3 c3 s3 X3 (STP_trans (STP_tr0 S1 S2) S3) zr)
  · refine T_lea3 (d := d + 5) X (fun ls σ1 D1 N1 F1 A1 c1 s1 X1 S1 l0 => ?_) (fun z σ1 D1 N1 F1 A1 c1 s1 X1 S1 zr => k z g σ1 D1 N1 F1 A1 c1 s1 X1 S1 zr)
    refine w_callk rfl (fun rec => rinvv rfl rfl (X1.1.obj 19 (by decide +kernel) (show g 0 = true from X1.2.2.1) rfl) rec) rfl (T_hear3 (d := d + 0) X1 (fun z g2 σ2 D2 N2 F2 A2 c2 s2 X2 S2 zr hg => ⟨rfl, ?_⟩))
    exact T_leb (d := d + 6) X2 (by rw [S2.1.2.1]; exact l0) zr hg (fun g3 σ3 D3 N3 F3 A3 c3 s3 X3 S3 => k z g3 σ3 D3 N3 F3 A3 c3 s3 X3 (STP_trans (STP_tr0 S1 S2) S3) zr)
  · exact T_lex (d := d + 5) X h0 ha (fun z σ1 D1 N1 F1 A1 c1 s1 X1 S1 zr => k z g σ1 D1 N1 F1 A1 c1 s1 X1 S1 zr)
