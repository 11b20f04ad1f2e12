/-! the state of a PackHouse between calls: what is there, and which reference refers to what -/
section TST
variable {g : Nat → Bool} {V W : vV} {σ σ' : rS} {D N D' N' : Nat → Nat} {F F' : hF} {A A' : hA} {ι : List Nat}
def SPH (g : Nat → Bool) : Nat → Bool := fun x => g (GPH.getD x 0)
theorem SPH_of {gs : List Nat} (hg : ∀ j ∈ gs, g j = true) (hl : ι.length = W.length) (hι : ι.all (fun x => gs.any (fun j => Nat.beq j (GPH.getD x 0))) = true) : ∀ x, x < W.length → SPH g (ι.getD x 0) = true := fun x hx => by
  have hm : ι.getD x 0 ∈ ι := by
    rw [List.getD_eq_getElem?_getD, List.getElem?_eq_getElem (by omega)]
    exact List.getElem_mem (by omega)
  have w := List.all_eq_true.mp hι _ hm
  obtain ⟨j, hj, e⟩ := List.any_eq_true.mp w
  unfold SPH
  rw [← Nat.eq_of_beq_eq_true e]
  exact hg j hj
/-- the value of a reference: of a field, of an element -/
def rval (F : hF) (A : hA) (e : Nat × Nat × Nat × Nat) : Int := bif Nat.beq e.1 0 then F e.2.1 e.2.2.1 else A e.2.1 e.2.2.1
def PFI (g : Nat → Bool) (D : Nat → Nat) (F : hF) (A : hA) : Prop := ∀ e ∈ PFT, SPH g e.2.1 = true → SPH g e.2.2.2 = true → rval F A e = (D e.2.2.2 : Int)
/-- is this reference among what the call may have changed -/
def rexc (ι : List Nat) (fl : List (Nat × Nat)) (al dl : List Nat) (e : Nat × Nat × Nat × Nat) : Bool :=
  (match fnd e.2.1 ι with
    | some p => bif Nat.beq e.1 0 then fl.any (fun q => Nat.beq q.1 p && Nat.beq q.2 e.2.2.1) else al.any (fun q => Nat.beq q p)
    | none => false) || (match fnd e.2.2.2 ι with
    | some p => dl.any (fun q => Nat.beq q p)
    | none => false)
theorem PFI_glue {fl : List (Nat × Nat)} {al dl : List Nat} (h : PFI g D F A) (sf : SF fl (pul ι F) F') (sa : SA al (pul ι A) A') (sd : SD dl (pul ι D) D') (hn : nodB ι = true) (hx : ∀ e ∈ PFT, rexc ι fl al dl e = true → SPH g e.2.1 = true → SPH g e.2.2.2 = true → rval (glu ι F F') (glu ι A A') e = ((glu ι D D' e.2.2.2 : Nat) : Int)) :
    PFI g (glu ι D D') (glu ι F F') (glu ι A A') := fun e he h1 h2 => by
  cases hb : rexc ι fl al dl e with
  | true => exact hx e he hb h1 h2
  | false =>
    have w := h e he h1 h2
    unfold rexc at hb
    rw [Bool.or_eq_false_iff] at hb
    obtain ⟨b1, b2⟩ := hb
    have e1 : ((glu ι D D' e.2.2.2 : Nat) : Int) = (D e.2.2.2 : Int) := by
      cases hf : fnd e.2.2.2 ι with
      | none => rw [glu_n hf]
      | some p =>
        rw [hf] at b2
        rw [glu_s hf, sd p b2]
        show ((D (ι.getD p 0) : Nat) : Int) = _
        rw [(fnd_lt hf).2]
    rw [e1, ← w]
    unfold rval
    cases hk : Nat.beq e.1 0 with
    | true =>
      rw [hk] at b1
      show glu ι F F' e.2.1 e.2.2.1 = F e.2.1 e.2.2.1
      cases hf : fnd e.2.1 ι with
      | none => rw [glu_n hf]
      | some p =>
        rw [hf] at b1
        rw [glu_s hf, sf p _ b1]
        show F (ι.getD p 0) _ = _
        rw [(fnd_lt hf).2]
    | false =>
      rw [hk] at b1
      show glu ι A A' e.2.1 e.2.2.1 = A e.2.1 e.2.2.1
      cases hf : fnd e.2.1 ι with
      | none => rw [glu_n hf]
      | some p =>
        rw [hf] at b1
        rw [glu_s hf, sa p b1]
        show A (ι.getD p 0) _ = _
        rw [(fnd_lt hf).2]
/-- the references that a call may have changed, told one by one -/
theorem rexc_of {fl : List (Nat × Nat)} {al dl : List Nat} {l : List (Nat × Nat × Nat × Nat)} (hl : PFT.filter (rexc ι fl al dl) = l) {p : Nat × Nat × Nat × Nat → Prop} (h : ∀ e ∈ l, p e) : ∀ e ∈ PFT, rexc ι fl al dl e = true → p e := fun e he hb => h e (hl ▸ List.mem_filter.mpr ⟨he, hb⟩)
/-- no field of the house itself that holds something not made yet has changed -/
def ABT : List (Nat × Nat × Nat) := [(1, 0, 7), (2, 0, 8), (3, 0, 9), (4, 0, 10), (5, 0, 11), (6, 0, 12)]
def ABS (g : Nat → Bool) (F : hF) : Prop := ∀ e ∈ ABT, g e.1 = false → F e.2.1 e.2.2 = -1
theorem ABS_glue {fl : List (Nat × Nat)} (h : ABS g F) (sf : SF fl (pul ι F) F') (hx : ABT.all (fun e => match fnd e.2.1 ι with
    | some p => !(fl.any (fun q => Nat.beq q.1 p && Nat.beq q.2 e.2.2))
    | none => true) = true) : ABS g (glu ι F F') := fun e he hb => by
  have w := h e he hb
  have x := List.all_eq_true.mp hx e he
  cases hf : fnd e.2.1 ι with
  | none => rw [glu_n hf]; exact w
  | some p =>
    rw [hf] at x
    have x : (!(fl.any (fun q => Nat.beq q.1 p && Nat.beq q.2 e.2.2))) = true := x
    rw [Bool.not_eq_true'] at x
    rw [glu_s hf, sf p _ x]
    show F (ι.getD p 0) _ = _
    rw [(fnd_lt hf).2]
    exact w
/-- the cells of others stay -/
def STY (g : Nat → Bool) (σ : rS) (D : Nat → Nat) (σ' : rS) (D' : Nat → Nat) : Prop := (∀ a, 12 ≤ a → a < σ.length → (∀ x, x < VPH.length → SPH g x = true → D x ≠ a) → rat σ' a = rat σ a) ∧ σ.length ≤ σ'.length ∧ (∀ x, x < VPH.length → SPH g x = true → D' x = D x ∨ σ.length ≤ D' x)
theorem STY_call (hs : VS VPH W ι) (hp : ∀ x, x < W.length → SPH g (ι.getD x 0) = true) {c s c' s' : Nat} (O : OUT W.length (pul ι D) (pul ι N) σ c s D' N' σ' c' s') : STY g σ D σ' (glu ι D D') := by
  refine ⟨fun a a1 a2 hn => O.1 a a2 (fun x hx q => hn _ (hs.2.2.1 x hx) (hp x hx) q), O.2.1, fun x hx hq => ?_⟩
  cases hf : fnd x ι with
  | none => rw [glu_n hf]; exact .inl rfl
  | some p =>
    rw [glu_s hf]
    have w := fnd_lt hf
    have := O.2.2.1 p (by have := hs.1; omega)
    rw [← w.2]
    exact this
theorem RM_call (hs : VS V W ι) {c s c' s' : Nat} (O : OUT W.length (pul ι D) (pul ι N) σ c s D' N' σ' c' s') : RM V.length N c s (glu ι N N') c' s' := by
  obtain ⟨s1, s2, s3, -⟩ := hs
  constructor
  · have w := O.2.2.2.1
    have a := vs_part (g := fun y => pC (N y)) (n := V.length) s2 (fun x hx => s3 x (by omega))
    have b := vs_part (g := fun y => pC (glu ι N N' y)) (n := V.length) s2 (fun x hx => s3 x (by omega))
    have e := vs_congr (g := fun y => if (fnd y ι).isSome then 0 else pC (glu ι N N' y)) (h := fun y => if (fnd y ι).isSome then 0 else pC (N y)) (n := V.length) (fun y _ => by
      cases h : fnd y ι with
      | none => rw [glu_n h]
      | some x => rfl)
    have f := vs_congr (g := fun x => pC (glu ι N N' (ι.getD x 0))) (h := fun x => pC (N' x)) (n := ι.length) (fun x hx => by rw [glu_s (fnd_of s2 hx)])
    rw [e, f] at b
    have w2 : (c' : Int) + vs (fun x => pC (N (ι.getD x 0))) W.length ≤ (c : Int) + vs (fun x => pC (N' x)) W.length := w
    rw [← s1] at w2
    omega
  · have w := O.2.2.2.2
    have a := vs_part (g := fun y => pS (N y)) (n := V.length) s2 (fun x hx => s3 x (by omega))
    have b := vs_part (g := fun y => pS (glu ι N N' y)) (n := V.length) s2 (fun x hx => s3 x (by omega))
    have e := vs_congr (g := fun y => if (fnd y ι).isSome then 0 else pS (glu ι N N' y)) (h := fun y => if (fnd y ι).isSome then 0 else pS (N y)) (n := V.length) (fun y _ => by
      cases h : fnd y ι with
      | none => rw [glu_n h]
      | some x => rfl)
    have f := vs_congr (g := fun x => pS (glu ι N N' (ι.getD x 0))) (h := fun x => pS (N' x)) (n := ι.length) (fun x hx => by rw [glu_s (fnd_of s2 hx)])
    rw [e, f] at b
    have w2 : (s' : Int) + vs (fun x => pS (N (ι.getD x 0))) W.length ≤ (s : Int) + vs (fun x => pS (N' x)) W.length := w
    rw [← s1] at w2
    omega
theorem STC_call (HT : STC σ) (H : HWs (SPH g) V σ D N F A) (hs : VS V W ι) (hp : ∀ x, x < W.length → SPH g (ι.getD x 0) = true) {c s c' s' : Nat} (O : OUT W.length (pul ι D) (pul ι N) σ c s D' N' σ' c' s') : STC σ' := fun b hb => by
  obtain ⟨dv, ov, q1, q2⟩ := HT b hb
  refine ⟨dv, ov, ?_, q2⟩
  rw [O.1 b (rat_lt q1) (fun x hx e => by
    have e : D (ι.getD x 0) = b := e
    have := H.lo _ (hs.2.2.1 x hx) (hp x hx)
    omega)]
  exact q1
end TST
