/-! the state of a PackHouse between calls: what is there, and which reference refers to what -/
section TST
variable {g : Nat → Bool} {V W : vV} {σ σₚ : rS} {D N Dₚ Nₚ : Nat → Nat} {F Fₚ : hF} {A Aₚ : hA} {ι : List Nat}
def SPH (g : Nat → Bool) : Nat → Bool := fun x => g (GPH.getD x 0)
theorem SPH_of {gs : List Nat} (hg : ∀ j ∈ gs, g j = true) (hl : ι.length = W.length) (hι : ι.all (fun x => gs.any (fun j => Nat.beq j (GPH.getD x 0))) = true) : ∀ x, x < W.length → SPH g (ι.getD x 0) = true := fun x hx => by
  have hm : ι.getD x 0 ∈ ι := by
    rw [List.getD_eq_getElem?_getD, List.getElem?_eq_getElem (by omega)]
    exact List.getElem_mem (by omega)
  have w := List.all_eq_true.mp hι _ hm
  obtain ⟨j, hj, e⟩ := List.any_eq_true.mp w
  unfold SPH
  rw [← Nat.eq_of_beq_eq_true e]
  exact hg j hj
/-- the value of a reference: of a field, of an element -/
def rval (F : hF) (A : hA) (e : Nat × Nat × Nat × Nat) : Int := bif Nat.beq e.1 0 then F e.2.1 e.2.2.1 else A e.2.1 e.2.2.1
def PFI (g : Nat → Bool) (D : Nat → Nat) (F : hF) (A : hA) : Prop := ∀ e ∈ PFT, SPH g e.2.1 = true → SPH g e.2.2.2 = true → rval F A e = (D e.2.2.2 : Int)
/-- is this reference among what the call may have changed -/
def rexc (ι : List Nat) (fl : List (Nat × Nat)) (al dl : List Nat) (e : Nat × Nat × Nat × Nat) : Bool :=
  (match fnd e.2.1 ι with
    | some p => bif Nat.beq e.1 0 then fl.any (fun q => Nat.beq q.1 p && Nat.beq q.2 e.2.2.1) else al.any (fun q => Nat.beq q p)
    | none => false) || (match fnd e.2.2.2 ι with
    | some p => dl.any (fun q => Nat.beq q p)
    | none => false)
theorem PFI_glue {fl : List (Nat × Nat)} {al dl : List Nat} (h : PFI g D F A) (sf : SF fl (pul ι F) Fₚ) (sa : SA al (pul ι A) Aₚ) (sd : SD dl (pul ι D) Dₚ) (hn : nodB ι = true) (hx : ∀ e ∈ PFT, rexc ι fl al dl e = true → SPH g e.2.1 = true → SPH g e.2.2.2 = true → rval (glu ι F Fₚ) (glu ι A Aₚ) e = ((glu ι D Dₚ e.2.2.2 : Nat) : Int)) :
    PFI g (glu ι D Dₚ) (glu ι F Fₚ) (glu ι A Aₚ) := fun e he h1 h2 => by
  cases hb : rexc ι fl al dl e with
  | true => exact hx e he hb h1 h2
  | false =>
    have w := h e he h1 h2
    unfold rexc at hb
    rw [Bool.or_eq_false_iff] at hb
    obtain ⟨b1, b2⟩ := hb
    have e1 : ((glu ι D Dₚ e.2.2.2 : Nat) : Int) = (D e.2.2.2 : Int) := by
      cases hf : fnd e.2.2.2 ι with
      | none => rw [glu_n hf]
      | some p =>
        rw [hf] at b2
        rw [glu_s hf, sd p b2]
        show ((D (ι.getD p 0) : Nat) : Int) = _
        rw [(fnd_lt hf).2]
    rw [e1, ← w]
    unfold rval
    cases hk : Nat.beq e.1 0 with
    | true =>
      rw [hk] at b1
      show glu ι F Fₚ e.2.1 e.2.2.1 = F e.2.1 e.2.2.1
      cases hf : fnd e.2.1 ι with
      | none => rw [glu_n hf]
      | some p =>
        rw [hf] at b1
        rw [glu_s hf, sf p _ b1]
        show F (ι.getD p 0) _ = _
        rw [(fnd_lt hf).2]
    | false =>
      rw [hk] at b1
      show glu ι A Aₚ e.2.1 e.2.2.1 = A e.2.1 e.2.2.1
      cases hf : fnd e.2.1 ι with
      | none => rw [glu_n hf]
      | some p =>
        rw [hf] at b1
        rw [glu_s hf, sa p b1]
        show A (ι.getD p 0) _ = _
        rw [(fnd_lt hf).2]
/-- the references that a call may have changed, told one by one -/
theorem rexc_of {fl : List (Nat × Nat)} {al dl : List Nat} {l : List (Nat × Nat × Nat × Nat)} (hl : PFT.filter (rexc ι fl al dl) = l) {p : Nat × Nat × Nat × Nat → Prop} (h : ∀ e ∈ l, p e) : ∀ e ∈ PFT, rexc ι fl al dl e = true → p e := fun e he hb => h e (hl ▸ List.mem_filter.mpr ⟨he, hb⟩)
/-- no field of the house itself that holds something not made yet has changed -/
def ABT : List (Nat × Nat × Nat) := [(1, 0, 7), (2, 0, 8), (3, 0, 9), (4, 0, 10), (5, 0, 11), (6, 0, 12), (7, 13, 3), (7, 13, 4), (8, 19, 3), (8, 19, 4)]
def ABS (g : Nat → Bool) (F : hF) : Prop := ∀ e ∈ ABT, g e.1 = false → F e.2.1 e.2.2 = -1
theorem ABS_glue {fl : List (Nat × Nat)} (h : ABS g F) (sf : SF fl (pul ι F) Fₚ) (hx : ABT.all (fun e => match fnd e.2.1 ι with
    | some p => !(fl.any (fun q => Nat.beq q.1 p && Nat.beq q.2 e.2.2))
    | none => true) = true) : ABS g (glu ι F Fₚ) := fun e he hb => by
  have w := h e he hb
  have x := List.all_eq_true.mp hx e he
  cases hf : fnd e.2.1 ι with
  | none => rw [glu_n hf]; exact w
  | some p =>
    rw [hf] at x
    have x : (!(fl.any (fun q => Nat.beq q.1 p && Nat.beq q.2 e.2.2))) = true := x
    rw [Bool.not_eq_true'] at x
    rw [glu_s hf, sf p _ x]
    show F (ι.getD p 0) _ = _
    rw [(fnd_lt hf).2]
    exact w
/-- the cells of others stay -/
def STY (g : Nat → Bool) (σ : rS) (D : Nat → Nat) (σₚ : rS) (Dₚ : Nat → Nat) : Prop := (∀ a, 11 ≤ a → a < σ.length → (∀ x, x < VPH.length → SPH g x = true → D x ≠ a) → rat σₚ a = rat σ a) ∧ σ.length ≤ σₚ.length ∧ (∀ x, x < VPH.length → SPH g x = true → Dₚ x = D x ∨ σ.length ≤ Dₚ x)
theorem STY_call (hs : VS VPH W ι) (hp : ∀ x, x < W.length → SPH g (ι.getD x 0) = true) {c s cₚ sₚ : Nat} (O : OUT W.length (pul ι D) (pul ι N) σ c s Dₚ Nₚ σₚ cₚ sₚ) : STY g σ D σₚ (glu ι D Dₚ) := by
  refine ⟨fun a a1 a2 hn => O.1 a a2 (fun x hx q => hn _ (hs.2.2.1 x hx) (hp x hx) q), O.2.1, fun x hx hq => ?_⟩
  cases hf : fnd x ι with
  | none => rw [glu_n hf]; exact .inl rfl
  | some p =>
    rw [glu_s hf]
    have w := fnd_lt hf
    have := O.2.2.1 p (by have := hs.1; omega)
    rw [← w.2]
    exact this
theorem RM_call (hs : VS V W ι) {c s cₚ sₚ : Nat} (O : OUT W.length (pul ι D) (pul ι N) σ c s Dₚ Nₚ σₚ cₚ sₚ) : RM V.length N c s (glu ι N Nₚ) cₚ sₚ := by
  obtain ⟨s1, s2, s3, -⟩ := hs
  constructor
  · have w := O.2.2.2.1
    have a := vs_part (g := fun y => pC (N y)) (n := V.length) s2 (fun x hx => s3 x (by omega))
    have b := vs_part (g := fun y => pC (glu ι N Nₚ y)) (n := V.length) s2 (fun x hx => s3 x (by omega))
    have e := vs_congr (g := fun y => if (fnd y ι).isSome then 0 else pC (glu ι N Nₚ y)) (h := fun y => if (fnd y ι).isSome then 0 else pC (N y)) (n := V.length) (fun y _ => by
      cases h : fnd y ι with
      | none => rw [glu_n h]
      | some x => rfl)
    have f := vs_congr (g := fun x => pC (glu ι N Nₚ (ι.getD x 0))) (h := fun x => pC (Nₚ x)) (n := ι.length) (fun x hx => by rw [glu_s (fnd_of s2 hx)])
    rw [e, f] at b
    have w2 : (cₚ : Int) + vs (fun x => pC (N (ι.getD x 0))) W.length ≤ (c : Int) + vs (fun x => pC (Nₚ x)) W.length := w
    rw [← s1] at w2
    omega
  · have w := O.2.2.2.2
    have a := vs_part (g := fun y => pS (N y)) (n := V.length) s2 (fun x hx => s3 x (by omega))
    have b := vs_part (g := fun y => pS (glu ι N Nₚ y)) (n := V.length) s2 (fun x hx => s3 x (by omega))
    have e := vs_congr (g := fun y => if (fnd y ι).isSome then 0 else pS (glu ι N Nₚ y)) (h := fun y => if (fnd y ι).isSome then 0 else pS (N y)) (n := V.length) (fun y _ => by
      cases h : fnd y ι with
      | none => rw [glu_n h]
      | some x => rfl)
    have f := vs_congr (g := fun x => pS (glu ι N Nₚ (ι.getD x 0))) (h := fun x => pS (Nₚ x)) (n := ι.length) (fun x hx => by rw [glu_s (fnd_of s2 hx)])
    rw [e, f] at b
    have w2 : (sₚ : Int) + vs (fun x => pS (N (ι.getD x 0))) W.length ≤ (s : Int) + vs (fun x => pS (Nₚ x)) W.length := w
    rw [← s1] at w2
    omega
theorem STC_call (HT : STC σ) (H : HWs (SPH g) V σ D N F A) (hs : VS V W ι) (hp : ∀ x, x < W.length → SPH g (ι.getD x 0) = true) {c s cₚ sₚ : Nat} (O : OUT W.length (pul ι D) (pul ι N) σ c s Dₚ Nₚ σₚ cₚ sₚ) : STC σₚ := fun b hb => by
  obtain ⟨dv, ov, q1, q2⟩ := HT b hb
  refine ⟨dv, ov, ?_, q2⟩
  rw [O.1 b (rat_lt q1) (fun x hx e => by
    have e : D (ι.getD x 0) = b := e
    have := H.lo _ (hs.2.2.1 x hx) (hp x hx)
    omega)]
  exact q1
/-- what is not there has no length; what never grows has the length that it was made with (FXT: 0 it may grow, else one more than its length; an object: 1) -/
def NZ (g : Nat → Bool) (N : Nat → Nat) : Prop := ∀ x, x < VPH.length → (SPH g x = false → N x = 0) ∧ (SPH g x = true → FXT.getD x 0 ≠ 0 → N x + 1 = FXT.getD x 0)
theorem NZ_glue {dl : List Nat} (h : NZ g N) (hs : VS VPH W ι) (hp : ∀ x, x < W.length → SPH g (ι.getD x 0) = true) (sn : SD dl (pul ι N) Nₚ) (ha : dl.all (fun p => Nat.beq (FXT.getD (ι.getD p 0) 0) 0) = true) : NZ g (glu ι N Nₚ) := fun x hx => by
  cases hf : fnd x ι with
  | none => rw [glu_n hf]; exact h x hx
  | some p =>
    have w := fnd_lt hf
    have hv : SPH g x = true := by
      have := hp p (by have := hs.1; omega)
      rw [w.2] at this
      exact this
    rw [glu_s hf]
    refine ⟨fun q => (by rw [hv] at q; cases q), fun _ hx0 => ?_⟩
    cases hb : dl.any (fun q => Nat.beq q p) with
    | false =>
      rw [sn p hb]
      show N (ι.getD p 0) + 1 = _
      rw [w.2]
      exact (h x hx).2 hv hx0
    | true =>
      obtain ⟨q, q1, q2⟩ := List.any_eq_true.mp hb
      have q2 := Nat.eq_of_beq_eq_true q2
      subst q2
      have := Nat.eq_of_beq_eq_true (List.all_eq_true.mp ha _ q1)
      rw [w.2] at this
      exact absurd this hx0
/-- what goes with what -/
def GI (g : Nat → Bool) : Prop := (g 2 = true → g 1 = true) ∧ (g 3 = true → g 1 = true) ∧ (g 5 = true → g 1 = true) ∧ (g 5 = true → g 4 = true) ∧ (g 6 = true → g 4 = true)
/-! from state to state -/
def ST2 (g : Nat → Bool) (σ : rS) (D : Nat → Nat) (gₚ : Nat → Bool) (σₚ : rS) (Dₚ : Nat → Nat) : Prop := (∀ a, 11 ≤ a → a < σ.length → (∀ x, x < VPH.length → SPH g x = true → D x ≠ a) → rat σₚ a = rat σ a) ∧ σ.length ≤ σₚ.length ∧ (∀ x, x < VPH.length → SPH gₚ x = true → (∃ y, y < VPH.length ∧ SPH g y = true ∧ Dₚ x = D y) ∨ σ.length ≤ Dₚ x)
def kadd (b : Bool) (n : Int) : Int := bif b then n else 0
def KC (g : Nat → Bool) : Int := kadd (g 1) 8 + (kadd (g 2) 3 + (kadd (g 3) 3 + (kadd (g 4) 28 + (kadd (g 5) 125 + (kadd (g 6) 59 + (kadd (g 7) 51 + kadd (g 8) 51))))))
def KS (g : Nat → Bool) : Int := kadd (g 1) 24 + (kadd (g 2) 18 + (kadd (g 3) 14 + (kadd (g 4) 1112 + (kadd (g 5) 18162 + (kadd (g 6) 8932 + (kadd (g 7) 8890 + kadd (g 8) 8890))))))
def PCg (g : Nat → Bool) (N : Nat → Nat) : Int := vs (fun x => pC (N x)) VPH.length + KC g
def PSg (g : Nat → Bool) (N : Nat → Nat) : Int := vs (fun x => pS (N x)) VPH.length + KS g
def STP0 (g : Nat → Bool) (σ : rS) (D N : Nat → Nat) (c s : Nat) (gₚ : Nat → Bool) (σₚ : rS) (Dₚ Nₚ : Nat → Nat) (cₚ sₚ : Nat) : Prop :=
  ST2 g σ D gₚ σₚ Dₚ ∧ Dₚ 0 = D 0 ∧ ((cₚ : Int) + PCg g N ≤ (c : Int) + PCg gₚ Nₚ ∧ (sₚ : Int) + PSg g N ≤ (s : Int) + PSg gₚ Nₚ)
theorem STP0_refl {c s : Nat} : STP0 g σ D N c s g σ D N c s := ⟨⟨fun _ _ _ _ => rfl, Nat.le_refl _, fun x hx h => .inl ⟨x, hx, h, rfl⟩⟩, rfl, Int.le_refl _, Int.le_refl _⟩
theorem ST2_trans {gₚ g'' : Nat → Bool} {σ'' : rS} {D'' : Nat → Nat} (h : ST2 g σ D gₚ σₚ Dₚ) (h' : ST2 gₚ σₚ Dₚ g'' σ'' D'') : ST2 g σ D g'' σ'' D'' := by
  obtain ⟨a1, a2, a3⟩ := h
  obtain ⟨b1, b2, b3⟩ := h'
  refine ⟨fun a h1 h2 hn => ?_, by omega, fun x hx hp => ?_⟩
  · rw [b1 a h1 (by omega) (fun x hx hp e => ?_), a1 a h1 h2 hn]
    rcases a3 x hx hp with ⟨y, y1, y2, y3⟩ | w
    · exact hn y y1 y2 (y3.symm.trans e)
    · omega
  · rcases b3 x hx hp with ⟨y, y1, y2, y3⟩ | w
    · rcases a3 y y1 y2 with ⟨z, z1, z2, z3⟩ | u
      · exact .inl ⟨z, z1, z2, y3.trans z3⟩
      · exact .inr (by rw [y3]; exact u)
    · exact .inr (by omega)
theorem STP0_trans {gₚ g'' : Nat → Bool} {σ'' : rS} {D'' N'' : Nat → Nat} {c s cₚ sₚ c'' s'' : Nat} (h : STP0 g σ D N c s gₚ σₚ Dₚ Nₚ cₚ sₚ) (h' : STP0 gₚ σₚ Dₚ Nₚ cₚ sₚ g'' σ'' D'' N'' c'' s'') : STP0 g σ D N c s g'' σ'' D'' N'' c'' s'' := by
  obtain ⟨a2, a3, a4, a5⟩ := h
  obtain ⟨b2, b3, b4, b5⟩ := h'
  exact ⟨ST2_trans a2 b2, b3.trans a3, by omega, by omega⟩
/-- behind a call, whose room is counted from nothing -/
theorem STP0_tr0 {gₚ g'' : Nat → Bool} {σ'' : rS} {D'' N'' : Nat → Nat} {c s cₚ sₚ c'' s'' : Nat} (h : STP0 g σ D N c s gₚ σₚ Dₚ Nₚ cₚ sₚ) (h' : STP0 gₚ σₚ Dₚ Nₚ 0 0 g'' σ'' D'' N'' c'' s'') : STP0 g σ D N c s g'' σ'' D'' N'' (cₚ + c'') (sₚ + s'') := by
  obtain ⟨a2, a3, a4, a5⟩ := h
  obtain ⟨b2, b3, b4, b5⟩ := h'
  refine ⟨ST2_trans a2 b2, b3.trans a3, ?_, ?_⟩
  · push_cast
    have b4 : (c'' : Int) + PCg gₚ Nₚ ≤ (0 : Nat) + PCg g'' N'' := b4
    omega
  · push_cast
    have b5 : (s'' : Int) + PSg gₚ Nₚ ≤ (0 : Nat) + PSg g'' N'' := b5
    omega
theorem STP0_call {c s cₚ sₚ : Nat} (h : STY g σ D σₚ Dₚ) (h0 : Dₚ 0 = D 0) (hr : RM VPH.length N c s Nₚ cₚ sₚ) : STP0 g σ D N c s g σₚ Dₚ Nₚ cₚ sₚ := by
  refine ⟨⟨h.1, h.2.1, fun x hx hp => ?_⟩, h0, ?_, ?_⟩
  · rcases h.2.2 x hx hp with w | w
    · exact .inl ⟨x, hx, hp, w⟩
    · exact .inr w
  · have := hr.1
    unfold PCg
    omega
  · have := hr.2
    unfold PSg
    omega
/-! what stays as it is, said of lists -/
def EQD (LF : List (Nat × Nat)) (LA LN LD : List Nat) (D N : Nat → Nat) (F : hF) (A : hA) (Dₚ Nₚ : Nat → Nat) (Fₚ : hF) (Aₚ : hA) : Prop := (∀ q ∈ LF, Fₚ q.1 q.2 = F q.1 q.2) ∧ (∀ x ∈ LA, Aₚ x = A x) ∧ (∀ x ∈ LN, Nₚ x = N x) ∧ (∀ x ∈ LD, Dₚ x = D x)
def subl (l m : List Nat) : Bool := l.all (fun x => m.any (fun y => Nat.beq y x))
def sublF (l m : List (Nat × Nat)) : Bool := l.all (fun x => m.any (fun y => Nat.beq y.1 x.1 && Nat.beq y.2 x.2))
theorem subl_of {l m : List Nat} (h : subl l m = true) {x : Nat} (hx : x ∈ l) : x ∈ m := by
  obtain ⟨y, hy, e⟩ := List.any_eq_true.mp (List.all_eq_true.mp h x hx)
  rw [← Nat.eq_of_beq_eq_true e]
  exact hy
theorem sublF_of {l m : List (Nat × Nat)} (h : sublF l m = true) {x : Nat × Nat} (hx : x ∈ l) : x ∈ m := by
  obtain ⟨y, hy, e⟩ := List.any_eq_true.mp (List.all_eq_true.mp h x hx)
  rw [Bool.and_eq_true] at e
  rw [show x = y from Prod.ext (Nat.eq_of_beq_eq_true e.1).symm (Nat.eq_of_beq_eq_true e.2).symm]
  exact hy
theorem EQD_sub {LF MF : List (Nat × Nat)} {LA LN LD MA MN MD : List Nat} (hc : (sublF LF MF && (subl LA MA && (subl LN MN && subl LD MD))) = true) (h : EQD MF MA MN MD D N F A Dₚ Nₚ Fₚ Aₚ) : EQD LF LA LN LD D N F A Dₚ Nₚ Fₚ Aₚ := by
  simp only [Bool.and_eq_true] at hc
  obtain ⟨c1, c2, c3, c4⟩ := hc
  exact ⟨fun q hq => h.1 q (sublF_of c1 hq), fun x hx => h.2.1 x (subl_of c2 hx), fun x hx => h.2.2.1 x (subl_of c3 hx), fun x hx => h.2.2.2 x (subl_of c4 hx)⟩
def unt1 (ι l : List Nat) (x : Nat) : Bool := match fnd x ι with
  | some p => !(l.any (fun q => Nat.beq q p))
  | none => true
def untF (ι : List Nat) (fl : List (Nat × Nat)) (x : Nat × Nat) : Bool := match fnd x.1 ι with
  | some p => !(fl.any (fun q => Nat.beq q.1 p && Nat.beq q.2 x.2))
  | none => true
theorem unt1_of {α : Type} {l : List Nat} {x : Nat} {f f' : Nat → α} (h : unt1 ι l x = true) (hs : ∀ p, l.any (fun q => Nat.beq q p) = false → f' p = pul ι f p) : glu ι f f' x = f x := by
  unfold unt1 at h
  cases hf : fnd x ι with
  | none => rw [glu_n hf]
  | some p =>
    rw [hf] at h
    have h : (!(l.any (fun q => Nat.beq q p))) = true := h
    rw [Bool.not_eq_true'] at h
    rw [glu_s hf, hs p h]
    show f (ι.getD p 0) = f x
    rw [(fnd_lt hf).2]
theorem EQD_glue {fl : List (Nat × Nat)} {al dl nl : List Nat} {LF : List (Nat × Nat)} {LA LN LD : List Nat} (sf : SF fl (pul ι F) Fₚ) (sa : SA al (pul ι A) Aₚ) (sd : SD dl (pul ι D) Dₚ) (sn : SD nl (pul ι N) Nₚ) (h : (LF.all (untF ι fl) && (LA.all (unt1 ι al) && (LN.all (unt1 ι nl) && LD.all (unt1 ι dl)))) = true) : EQD LF LA LN LD D N F A (glu ι D Dₚ) (glu ι N Nₚ) (glu ι F Fₚ) (glu ι A Aₚ) := by
  simp only [Bool.and_eq_true] at h
  obtain ⟨c1, c2, c3, c4⟩ := h
  refine ⟨fun q hq => ?_, fun x hx => unt1_of (List.all_eq_true.mp c2 x hx) (fun p hp => funext (sa p hp)), fun x hx => unt1_of (List.all_eq_true.mp c3 x hx) (fun p hp => sn p hp), fun x hx => unt1_of (List.all_eq_true.mp c4 x hx) (fun p hp => sd p hp)⟩
  have w := List.all_eq_true.mp c1 q hq
  unfold untF at w
  cases hf : fnd q.1 ι with
  | none => rw [glu_n hf]
  | some p =>
    rw [hf] at w
    have w : (!(fl.any (fun r => Nat.beq r.1 p && Nat.beq r.2 q.2))) = true := w
    rw [Bool.not_eq_true'] at w
    rw [glu_s hf, sf p q.2 w]
    show F (ι.getD p 0) q.2 = F q.1 q.2
    rw [(fnd_lt hf).2]
theorem EQD_out {LF : List (Nat × Nat)} {LA LN LD : List Nat} (h : (LF.all (fun q => (fnd q.1 ι).isNone) && (LA.all (fun x => (fnd x ι).isNone) && (LN.all (fun x => (fnd x ι).isNone) && LD.all (fun x => (fnd x ι).isNone)))) = true) : EQD LF LA LN LD D N F A (glu ι D Dₚ) (glu ι N Nₚ) (glu ι F Fₚ) (glu ι A Aₚ) := by
  simp only [Bool.and_eq_true] at h
  obtain ⟨c1, c2, c3, c4⟩ := h
  have key : ∀ x : Nat, (fnd x ι).isNone = true → fnd x ι = none := fun x hx => by
    cases q : fnd x ι with
    | none => rfl
    | some y => rw [q] at hx; cases hx
  exact ⟨fun q hq => by rw [glu_n (key _ (List.all_eq_true.mp c1 q hq))], fun x hx => by rw [glu_n (key _ (List.all_eq_true.mp c2 x hx))], fun x hx => by rw [glu_n (key _ (List.all_eq_true.mp c3 x hx))], fun x hx => by rw [glu_n (key _ (List.all_eq_true.mp c4 x hx))]⟩
def STP (g : Nat → Bool) (σ : rS) (D N : Nat → Nat) (A : hA) (c s : Nat) (gₚ : Nat → Bool) (σₚ : rS) (Dₚ Nₚ : Nat → Nat) (Aₚ : hA) (cₚ sₚ : Nat) : Prop := STP0 g σ D N c s gₚ σₚ Dₚ Nₚ cₚ sₚ ∧ Aₚ 10 = A 10
theorem STP_refl {c s : Nat} : STP g σ D N A c s g σ D N A c s := ⟨STP0_refl, rfl⟩
theorem STP_trans {gₚ g'' : Nat → Bool} {σ'' : rS} {D'' N'' : Nat → Nat} {A'' : hA} {c s cₚ sₚ c'' s'' : Nat} (h : STP g σ D N A c s gₚ σₚ Dₚ Nₚ Aₚ cₚ sₚ) (h' : STP gₚ σₚ Dₚ Nₚ Aₚ cₚ sₚ g'' σ'' D'' N'' A'' c'' s'') : STP g σ D N A c s g'' σ'' D'' N'' A'' c'' s'' := ⟨STP0_trans h.1 h'.1, h'.2.trans h.2⟩
theorem STP_tr0 {gₚ g'' : Nat → Bool} {σ'' : rS} {D'' N'' : Nat → Nat} {A'' : hA} {c s cₚ sₚ c'' s'' : Nat} (h : STP g σ D N A c s gₚ σₚ Dₚ Nₚ Aₚ cₚ sₚ) (h' : STP gₚ σₚ Dₚ Nₚ Aₚ 0 0 g'' σ'' D'' N'' A'' c'' s'') : STP g σ D N A c s g'' σ'' D'' N'' A'' (cₚ + c'') (sₚ + s'') := ⟨STP0_tr0 h.1 h'.1, h'.2.trans h.2⟩
end TST
