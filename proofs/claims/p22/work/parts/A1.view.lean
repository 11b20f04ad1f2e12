/-! a VIEW: the things that a method touches, by numbers of its own; what is outside stays (the class's side) -/
/-- a thing: (0, class, fields) an object; (1, kind, none) an array (of kind 0 byte, 1 int, 2 long, 3 boolean, 4 and more references) -/
abbrev vV : Type := List (Nat × Nat × List (Nat × Nat))
def vent (V : vV) (x : Nat) : Nat × Nat × List (Nat × Nat) := V.getD x (0, 0, [])
def vtc (V : vV) (x : Nat) : Nat × Nat := ((vent V x).1, (vent V x).2.1)
def vcls (V : vV) (x : Nat) : Nat := (vtc V x).2
def varr (V : vV) (x : Nat) : Bool := Nat.beq (vtc V x).1 1
def vak (V : vV) (x : Nat) : Nat := (vtc V x).2
def vnf (V : vV) (x : Nat) : Nat := (vent V x).2.2.length
def vfd (V : vV) (x k : Nat) : Nat × Nat := (vent V x).2.2.getD k (0, 0)
/-- a field's value: kinds 0 int, 1 boolean, 2 long, 3 the thing that the view names, 4 a place or null -/
def vf (D : Nat → Nat) (f : Nat × Nat) (z : Int) : Value := match f.1 with
  | 2 => J z
  | 3 => .ref (D f.2)
  | 4 => if z < 0 then .null else .ref z.toNat
  | _ => I z
def va (kd : Nat) (z : Int) : Value := match kd with
  | 0 => I z
  | 1 => I z
  | 2 => J z
  | 3 => I z
  | _ => if z < 0 then .null else .ref z.toNat
def krng (kd : Nat) (z : Int) : Prop := match kd with
  | 0 => inr z
  | 1 => 0 ≤ z ∧ z ≤ 1
  | 2 => inrJ z
  | _ => -1 ≤ z
def arng (kd : Nat) (z : Int) : Prop := match kd with
  | 0 => -128 ≤ z ∧ z ≤ 127
  | 1 => inr z
  | 2 => inrJ z
  | 3 => 0 ≤ z ∧ z ≤ 1
  | _ => -1 ≤ z
def vcell (V : vV) (D : Nat → Nat) (F : hF) (x : Nat) : rC := .inl (vcls V x, (List.range (vnf V x)).map (fun k => vf D (vfd V x k) (F x k)))
def HW (V : vV) (σ : rS) (D N : Nat → Nat) (F : hF) (A : hA) : Prop :=
  (∀ x, x < V.length → varr V x = false → rat σ (D x) = some (vcell V D F x)) ∧
  (∀ x, x < V.length → varr V x = true → ∃ dv ov, rat σ (D x) = some (.inr (vak V x, N x, dv, ov)) ∧ ∀ j : Nat, rlk ov dv j = va (vak V x) (A x j)) ∧
  (∀ x y, x < V.length → y < V.length → D x = D y → x = y) ∧
  (∀ x, x < V.length → 12 ≤ D x) ∧
  (∀ x k, x < V.length → krng (vfd V x k).1 (F x k)) ∧
  (∀ x i, x < V.length → varr V x = true → arng (vak V x) (A x i)) ∧
  (∀ x, x < V.length → N x ≤ 1000000)
section VIEW
variable {V : vV} {σ σₚ σ'' : rS} {D N Dₚ Nₚ : Nat → Nat} {F Fₚ : hF} {A Aₚ : hA}
theorem HW.obj (H : HW V σ D N F A) : ∀ x, x < V.length → varr V x = false → rat σ (D x) = some (vcell V D F x) := H.1
theorem HW.arr (H : HW V σ D N F A) : ∀ x, x < V.length → varr V x = true → ∃ dv ov, rat σ (D x) = some (.inr (vak V x, N x, dv, ov)) ∧ ∀ j : Nat, rlk ov dv j = va (vak V x) (A x j) := H.2.1
theorem HW.inj (H : HW V σ D N F A) : ∀ x y, x < V.length → y < V.length → D x = D y → x = y := H.2.2.1
theorem HW.lo (H : HW V σ D N F A) : ∀ x, x < V.length → 12 ≤ D x := H.2.2.2.1
theorem HW.krg (H : HW V σ D N F A) : ∀ x k, x < V.length → krng (vfd V x k).1 (F x k) := H.2.2.2.2.1
theorem HW.arg (H : HW V σ D N F A) : ∀ x i, x < V.length → varr V x = true → arng (vak V x) (A x i) := H.2.2.2.2.2.1
theorem HW.nle (H : HW V σ D N F A) : ∀ x, x < V.length → N x ≤ 1000000 := H.2.2.2.2.2.2
theorem HW.lt (H : HW V σ D N F A) {x : Nat} (hx : x < V.length) : D x < σ.length := by
  have h : ∃ q, rat σ (D x) = some q := by
    cases ha : varr V x with
    | false => exact ⟨_, H.obj x hx ha⟩
    | true =>
      obtain ⟨dv, ov, q, _⟩ := H.arr x hx ha
      exact ⟨_, q⟩
  obtain ⟨q, h⟩ := h
  rw [rat_eq] at h
  obtain ⟨hl, -⟩ := List.getElem?_eq_some_iff.mp h
  exact hl
def vs (g : Nat → Int) : Nat → Int
  | 0 => 0
  | n + 1 => vs g n + g n
/-- what an array of this length may have cost, with all that it was before it grew: cells, slots -/
def pC (n : Nat) : Int := if n = 0 then 0 else if n < 256 then 2 else if n < 1024 then 4 else if n < 4096 then 6 else if n < 16384 then 8 else if n < 65536 then 10 else 12
def pS (n : Nat) : Int := if n = 65536 then 163840 else if n = 16384 then 40960 else (3 * n + 1) / 2
def RM (n : Nat) (N : Nat → Nat) (c s : Nat) (Nₚ : Nat → Nat) (cₚ sₚ : Nat) : Prop := (cₚ : Int) + vs (fun x => pC (N x)) n ≤ c + vs (fun x => pC (Nₚ x)) n ∧ (sₚ : Int) + vs (fun x => pS (N x)) n ≤ s + vs (fun x => pS (Nₚ x)) n
/-- what a step, or a method, leaves as it was: the cells outside the view; things that move go to new places; the room -/
def OUT (n : Nat) (D N : Nat → Nat) (σ : rS) (c s : Nat) (Dₚ Nₚ : Nat → Nat) (σₚ : rS) (cₚ sₚ : Nat) : Prop := (∀ a, a < σ.length → (∀ x, x < n → D x ≠ a) → rat σₚ a = rat σ a) ∧ σ.length ≤ σₚ.length ∧ (∀ x, x < n → Dₚ x = D x ∨ σ.length ≤ Dₚ x) ∧ RM n N c s Nₚ cₚ sₚ
theorem OUT_refl {n c s : Nat} : OUT n D N σ c s D N σ c s := ⟨fun _ _ _ => rfl, Nat.le_refl _, fun _ _ => .inl rfl, Int.le_refl _, Int.le_refl _⟩
theorem OUT_trans {n c s cₚ sₚ c'' s'' : Nat} {D'' N'' : Nat → Nat} (h : OUT n D N σ c s Dₚ Nₚ σₚ cₚ sₚ) (h' : OUT n Dₚ Nₚ σₚ cₚ sₚ D'' N'' σ'' c'' s'') : OUT n D N σ c s D'' N'' σ'' c'' s'' := by
  refine ⟨fun a ha hn => ?_, by have := h.2.1; have := h'.2.1; omega, fun x hx => ?_, ?_, ?_⟩
  · rw [h'.1 a (by have := h.2.1; omega) (fun x hx q => ?_), h.1 a ha hn]
    rcases h.2.2.1 x hx with w | w
    · exact hn x hx (w ▸ q)
    · omega
  · rcases h'.2.2.1 x hx with w | w
    · rw [w]; exact h.2.2.1 x hx
    · exact .inr (by have := h.2.1; omega)
  · have := h.2.2.2.1; have := h'.2.2.2.1; omega
  · have := h.2.2.2.2; have := h'.2.2.2.2; omega
theorem OUT_set {n x c s : Nat} {q : rC} (hx : x < n) : OUT n D N σ c s D N (rstl σ (D x) q) c s :=
  ⟨fun _ _ hn => rat_other (hn x hx), by rw [rstl_eq, List.length_set]; exact Nat.le_refl _, fun _ _ => .inl rfl, Int.le_refl _, Int.le_refl _⟩
theorem HW_put (H : HW V σ D N F A) {o k : Nat} {z : Int} (ho : o < V.length) (ha : varr V o = false) (hr : krng (vfd V o k).1 z) :
    HW V (rstl σ (D o) (.inl (vcls V o, rstl ((List.range (vnf V o)).map (fun k => vf D (vfd V o k) (F o k))) k (vf D (vfd V o k) z)))) D N (updF F o k z) A := by
  have hc := H.obj o ho ha
  refine ⟨fun x hx hax => ?_, fun x hx hax => ?_, H.inj, H.lo, fun x kₚ hx => ?_, H.arg, H.nle⟩
  · by_cases e : x = o
    · subst e
      rw [rat_same hc, rstl_map]
      unfold vcell
      congr 3
      apply List.map_congr_left
      intro j _
      show _ = vf D (vfd V x j) (bif Nat.beq x x && Nat.beq j k then z else F x j)
      rw [Nat.beq_refl]
      cases hb : Nat.beq j k with
      | true => rw [Nat.eq_of_beq_eq_true hb]; rfl
      | false => rfl
    · rw [rat_other (fun q => e (H.inj o x ho hx q).symm), H.obj x hx hax]
      unfold vcell
      congr 3
      apply List.map_congr_left
      intro j _
      show _ = vf D (vfd V x j) (bif Nat.beq x o && Nat.beq j k then z else F x j)
      rw [beqf e]
      rfl
  · rw [rat_other (fun q => by have := H.inj o x ho hx q; subst this; rw [ha] at hax; cases hax)]
    exact H.arr x hx hax
  · show krng (vfd V x kₚ).1 (bif Nat.beq x o && Nat.beq kₚ k then z else F x kₚ)
    cases hb : (Nat.beq x o && Nat.beq kₚ k) with
    | false => exact H.krg x kₚ hx
    | true =>
      rw [Bool.and_eq_true] at hb
      rw [Nat.eq_of_beq_eq_true hb.1, Nat.eq_of_beq_eq_true hb.2]
      exact hr
theorem HW_sto (H : HW V σ D N F A) {o j : Nat} {z : Int} {dv : Value} {ov : rO} (ho : o < V.length) (ha : varr V o = true) (hr : arng (vak V o) z) (hc : rat σ (D o) = some (.inr (vak V o, N o, dv, ov))) (hv : ∀ j : Nat, rlk ov dv j = va (vak V o) (A o j)) :
    HW V (rstl σ (D o) (.inr (vak V o, N o, dv, rup ov j (va (vak V o) z)))) D N F (updA A o j z) := by
  refine ⟨fun x hx hax => ?_, fun x hx hax => ?_, H.inj, H.lo, H.krg, fun x i hx hax => ?_, H.nle⟩
  · rw [rat_other (fun q => by have := H.inj o x ho hx q; subst this; rw [ha] at hax; cases hax)]
    exact H.obj x hx hax
  · by_cases e : x = o
    · subst e
      refine ⟨dv, _, rat_same hc, fun i => ?_⟩
      rw [rlk_rup, hv]
      show _ = va (vak V x) (bif Nat.beq x x then (if (i : Int) = j then z else A x i) else A x i)
      rw [Nat.beq_refl]
      by_cases e2 : i = j
      · subst e2
        rw [if_pos rfl]
        show _ = va (vak V x) (if (i : Int) = i then z else A x i)
        rw [if_pos rfl]
      · rw [if_neg e2]
        show _ = va (vak V x) (if (i : Int) = j then z else A x i)
        rw [if_neg (by omega)]
    · rw [rat_other (fun q => e (H.inj o x ho hx q).symm)]
      obtain ⟨dv', ov', q1, q2⟩ := H.arr x hx hax
      refine ⟨dv', ov', q1, fun i => ?_⟩
      rw [q2]
      show _ = va (vak V x) (bif Nat.beq x o then (if (i : Int) = j then z else A o i) else A x i)
      rw [beqf e]
      rfl
  · show arng (vak V x) (bif Nat.beq x o then (if i = j then z else A o i) else A x i)
    cases hb : Nat.beq x o with
    | false => exact H.arg x i hx hax
    | true =>
      have e := Nat.eq_of_beq_eq_true hb
      subst e
      show arng (vak V x) (if i = j then z else A x i)
      by_cases e2 : i = j
      · rw [if_pos e2]; exact hr
      · rw [if_neg e2]; exact H.arg x i hx hax
/-! a part of a view -/
def pul {α : Type} (ι : List Nat) (f : Nat → α) : Nat → α := fun x => f (ι.getD x 0)
def fnd (y : Nat) : List Nat → Option Nat
  | [] => none
  | a :: l => bif Nat.beq a y then some 0 else (match fnd y l with | some n => some (n + 1) | none => none)
def glu {α : Type} (ι : List Nat) (f g : Nat → α) : Nat → α := fun y => match fnd y ι with
  | some x => g x
  | none => f y
def nodB : List Nat → Bool
  | [] => true
  | a :: l => (!(l.any (fun b => Nat.beq a b))) && nodB l
/-- is the view W, its things numbered by ι, a part of V -/
def vsub (V W : vV) (ι : List Nat) : Bool := Nat.beq ι.length W.length && (nodB ι && (List.range W.length).all (fun x => Nat.blt (ι.getD x 0) V.length && ((Nat.beq (vtc V (ι.getD x 0)).1 (vtc W x).1 && Nat.beq (vtc V (ι.getD x 0)).2 (vtc W x).2) && (Nat.beq (vnf V (ι.getD x 0)) (vnf W x) && (List.range (vnf W x)).all (fun k => Nat.beq (vfd V (ι.getD x 0) k).1 (vfd W x k).1 && (!(Nat.beq (vfd W x k).1 3) || (Nat.blt (vfd W x k).2 W.length && Nat.beq (vfd V (ι.getD x 0) k).2 (ι.getD (vfd W x k).2 0))))))))
/-- nothing outside the part refers by its own to a thing of the part that moves -/
def vmov (V : vV) (ι dl : List Nat) : Bool := (List.range V.length).all (fun y => (fnd y ι).isSome || (List.range (vnf V y)).all (fun k => !(Nat.beq (vfd V y k).1 3) || !(dl.any (fun x => Nat.beq (ι.getD x 0) (vfd V y k).2))))
def SD (dl : List Nat) (D Dₚ : Nat → Nat) : Prop := ∀ x, dl.any (fun q => Nat.beq q x) = false → Dₚ x = D x
theorem SD_refl {dl : List Nat} : SD dl D D := fun _ _ => rfl
theorem SD_trans {dl dl' : List Nat} {D'' : Nat → Nat} (h : SD dl D Dₚ) (h' : SD dl' Dₚ D'') (hl : ∀ o, dl.any (fun q => Nat.beq q o) = false → dl'.any (fun q => Nat.beq q o) = false) : SD dl D D'' := fun o hn => (h' o (hl o hn)).trans (h o hn)
theorem fnd_lt : ∀ {ι : List Nat} {y x : Nat}, fnd y ι = some x → x < ι.length ∧ ι.getD x 0 = y
  | [], y, x, h => by cases h
  | a :: l, y, x, h => by
    have h : (bif Nat.beq a y then some 0 else (match fnd y l with | some n => some (n + 1) | none => none)) = some x := h
    cases hb : Nat.beq a y with
    | true =>
      rw [hb] at h
      have h : some 0 = some x := h
      cases h
      exact ⟨by simp, by rw [← Nat.eq_of_beq_eq_true hb]; rfl⟩
    | false =>
      rw [hb] at h
      have h : (match fnd y l with | some n => some (n + 1) | none => none) = some x := h
      cases hf : fnd y l with
      | none => rw [hf] at h; cases h
      | some n =>
        rw [hf] at h
        have h : some (n + 1) = some x := h
        cases h
        obtain ⟨q1, q2⟩ := fnd_lt hf
        exact ⟨by simp; omega, by simpa using q2⟩
theorem fnd_of : ∀ {ι : List Nat} {x : Nat}, nodB ι = true → x < ι.length → fnd (ι.getD x 0) ι = some x
  | [], x, _, h => by simp at h
  | a :: l, 0, _, _ => by
    show (bif Nat.beq a a then some 0 else _) = some 0
    rw [Nat.beq_refl]
    rfl
  | a :: l, x + 1, hn, h => by
    have hn : ((!(l.any (fun b => Nat.beq a b))) && nodB l) = true := hn
    rw [Bool.and_eq_true] at hn
    have hx : x < l.length := by simpa using h
    have ih := fnd_of hn.2 hx
    have e : (a :: l).getD (x + 1) 0 = l.getD x 0 := rfl
    rw [e]
    show (bif Nat.beq a (l.getD x 0) then some 0 else (match fnd (l.getD x 0) l with | some n => some (n + 1) | none => none)) = _
    have hm : l.getD x 0 ∈ l := by
      rw [List.getD_eq_getElem?_getD, List.getElem?_eq_getElem hx]
      exact List.getElem_mem hx
    have ha : Nat.beq a (l.getD x 0) = false := by
      cases hb : Nat.beq a (l.getD x 0) with
      | false => rfl
      | true =>
        have : l.any (fun b => Nat.beq a b) = true := List.any_eq_true.mpr ⟨_, hm, hb⟩
        rw [this] at hn
        exact absurd hn.1 (by decide)
    rw [ha, ih]
    rfl
theorem fnd_none {ι : List Nat} {y : Nat} (h : fnd y ι = none) (hn : nodB ι = true) {x : Nat} (hx : x < ι.length) : ι.getD x 0 ≠ y := fun q => by
  have := fnd_of hn hx
  rw [q, h] at this
  cases this
def VS (V W : vV) (ι : List Nat) : Prop :=
  ι.length = W.length ∧ nodB ι = true ∧ (∀ x, x < W.length → ι.getD x 0 < V.length) ∧ (∀ x, x < W.length → vtc V (ι.getD x 0) = vtc W x) ∧ (∀ x, x < W.length → vnf V (ι.getD x 0) = vnf W x) ∧
  (∀ x k, x < W.length → k < vnf W x → (vfd V (ι.getD x 0) k).1 = (vfd W x k).1) ∧ (∀ x k, x < W.length → k < vnf W x → (vfd W x k).1 = 3 → (vfd W x k).2 < W.length ∧ (vfd V (ι.getD x 0) k).2 = ι.getD (vfd W x k).2 0)
theorem VS_of {V W : vV} {ι : List Nat} (h : vsub V W ι = true) : VS V W ι := by
  unfold vsub at h
  rw [Bool.and_eq_true, Bool.and_eq_true] at h
  obtain ⟨h1, h2, h3⟩ := h
  have h4 : ∀ x, x < W.length → _ := fun x hx => List.all_eq_true.mp h3 x (List.mem_range.mpr hx)
  refine ⟨Nat.eq_of_beq_eq_true h1, h2, fun x hx => ?_, fun x hx => ?_, fun x hx => ?_, fun x k hx hk => ?_, fun x k hx hk h33 => ?_⟩
  all_goals
    have q := h4 x hx
    simp only [Bool.and_eq_true] at q
    obtain ⟨q1, q2, q3, q4⟩ := q
  · exact Nat.le_of_ble_eq_true q1
  · exact Prod.ext (Nat.eq_of_beq_eq_true q2.1) (Nat.eq_of_beq_eq_true q2.2)
  · exact Nat.eq_of_beq_eq_true q3
  · have w := List.all_eq_true.mp q4 k (List.mem_range.mpr hk)
    rw [Bool.and_eq_true] at w
    exact Nat.eq_of_beq_eq_true w.1
  · have w := List.all_eq_true.mp q4 k (List.mem_range.mpr hk)
    rw [Bool.and_eq_true, h33] at w
    have w2 : (Nat.blt (vfd W x k).2 W.length && Nat.beq (vfd V (ι.getD x 0) k).2 (ι.getD (vfd W x k).2 0)) = true := w.2
    rw [Bool.and_eq_true] at w2
    exact ⟨Nat.le_of_ble_eq_true w2.1, Nat.eq_of_beq_eq_true w2.2⟩
theorem vf_eq {D Dₚ : Nat → Nat} {f g : Nat × Nat} {z : Int} (h : f.1 = g.1) (ht : g.1 = 3 → D f.2 = Dₚ g.2) : vf D f z = vf Dₚ g z := by
  obtain ⟨a, b⟩ := f
  obtain ⟨a', b'⟩ := g
  have h : a = a' := h
  subst h
  have ht : a = 3 → D b = Dₚ b' := ht
  unfold vf
  match a with
  | 0 => rfl
  | 1 => rfl
  | 2 => rfl
  | 3 => exact congrArg Value.ref (ht rfl)
  | 4 => rfl
  | n + 5 => rfl
theorem vfd_out {V : vV} {x k : Nat} (h : ¬ k < vnf V x) : vfd V x k = (0, 0) := by
  unfold vfd
  rw [List.getD_eq_getElem?_getD, List.getElem?_eq_none (by unfold vnf at h; omega)]
  rfl
theorem HW_sub {W : vV} {ι : List Nat} (H : HW V σ D N F A) (hs : VS V W ι) : HW W σ (pul ι D) (pul ι N) (pul ι F) (pul ι A) := by
  obtain ⟨s1, s2, s3, s4, s5, s6, s7⟩ := hs
  have ar : ∀ x, x < W.length → varr V (ι.getD x 0) = varr W x := fun x hx => by unfold varr; rw [s4 x hx]
  have ak : ∀ x, x < W.length → vak V (ι.getD x 0) = vak W x := fun x hx => by unfold vak; rw [s4 x hx]
  refine ⟨fun x hx ha => ?_, fun x hx ha => ?_, fun x y hx hy e => ?_, fun x hx => H.lo _ (s3 x hx), fun x k hx => ?_, fun x i hx ha => ?_, fun x hx => H.nle _ (s3 x hx)⟩
  · show rat σ (D (ι.getD x 0)) = _
    rw [H.obj _ (s3 x hx) (by rw [ar x hx]; exact ha)]
    unfold vcell vcls
    rw [s4 x hx, s5 x hx]
    congr 3
    apply List.map_congr_left
    intro k hk
    have hk := List.mem_range.mp hk
    exact vf_eq (s6 x k hx hk) (fun h3 => by rw [(s7 x k hx hk h3).2]; rfl)
  · show ∃ dv ov, rat σ (D (ι.getD x 0)) = some (.inr (vak W x, N (ι.getD x 0), dv, ov)) ∧ _
    rw [← ak x hx]
    exact H.arr _ (s3 x hx) (by rw [ar x hx]; exact ha)
  · have q := H.inj _ _ (s3 x hx) (s3 y hy) e
    have a := fnd_of s2 (show x < ι.length by omega)
    have b := fnd_of s2 (show y < ι.length by omega)
    rw [q, b] at a
    cases a
    rfl
  · show krng (vfd W x k).1 (F (ι.getD x 0) k)
    have w := H.krg (ι.getD x 0) k (s3 x hx)
    by_cases hk : k < vnf W x
    · rw [← s6 x k hx hk]; exact w
    · rw [vfd_out hk]
      rw [vfd_out (by rw [s5 x hx]; exact hk)] at w
      exact w
  · show arng (vak W x) (A (ι.getD x 0) i)
    rw [← ak x hx]
    exact H.arg _ i (s3 x hx) (by rw [ar x hx]; exact ha)
theorem vs_congr {g h : Nat → Int} : ∀ {n : Nat}, (∀ y, y < n → g y = h y) → vs g n = vs h n
  | 0, _ => rfl
  | n + 1, q => by
    show vs g n + g n = vs h n + h n
    rw [vs_congr (fun y hy => q y (by omega)), q n (by omega)]
theorem vs_at {g h : Nat → Int} {a : Nat} : ∀ {n : Nat}, a < n → (∀ y, y < n → y ≠ a → g y = h y) → vs g n = vs h n + (g a - h a)
  | 0, q, _ => by omega
  | n + 1, q, w => by
    show vs g n + g n = vs h n + h n + _
    by_cases e : a = n
    · subst e
      rw [vs_congr (fun y hy => w y (by omega) (by omega))]
      omega
    · rw [vs_at (a := a) (n := n) (by omega) (fun y hy => w y (by omega)), w n (by omega) (by omega)]
      omega
theorem vs_cons {g : Nat → Int} : ∀ {m : Nat}, vs g (m + 1) = g 0 + vs (fun x => g (x + 1)) m
  | 0 => by
    show vs g 0 + g 0 = g 0 + vs _ 0
    show 0 + g 0 = g 0 + 0
    omega
  | m + 1 => by
    show vs g (m + 1) + g (m + 1) = g 0 + (vs (fun x => g (x + 1)) m + g (m + 1))
    rw [vs_cons]
    omega
/-- a sum over all things: those outside a part, and the part -/
theorem vs_part {g : Nat → Int} {n : Nat} : ∀ {ι : List Nat}, nodB ι = true → (∀ x, x < ι.length → ι.getD x 0 < n) → vs g n = vs (fun y => if (fnd y ι).isSome then 0 else g y) n + vs (fun x => g (ι.getD x 0)) ι.length
  | [], _, _ => by
    show _ = vs (fun y => if (fnd y []).isSome then 0 else g y) n + 0
    rw [vs_congr (g := fun y => if (fnd y []).isSome then 0 else g y) (h := g) (fun y _ => by show (if (none : Option Nat).isSome then 0 else g y) = g y; rfl)]
    omega
  | a :: l, hn, hl => by
    have hn2 : ((!(l.any (fun b => Nat.beq a b))) && nodB l) = true := hn
    rw [Bool.and_eq_true] at hn2
    have ih := vs_part (g := g) (n := n) (ι := l) hn2.2 (fun x hx => hl (x + 1) (by simpa using hx))
    have ha : a < n := hl 0 (by simp)
    have fa : fnd a l = none := by
      cases hf : fnd a l with
      | none => rfl
      | some x =>
        obtain ⟨x1, x2⟩ := fnd_lt hf
        have hm : a ∈ l := by
          rw [← x2, List.getD_eq_getElem?_getD, List.getElem?_eq_getElem x1]
          exact List.getElem_mem x1
        have : l.any (fun b => Nat.beq a b) = true := List.any_eq_true.mpr ⟨a, hm, Nat.beq_refl a⟩
        rw [this] at hn2
        exact absurd hn2.1 (by decide)
    have e := vs_at (g := fun y => if (fnd y (a :: l)).isSome then 0 else g y) (h := fun y => if (fnd y l).isSome then 0 else g y) (a := a) (n := n) ha (fun y _ hy => by
      have : fnd y (a :: l) = (match fnd y l with | some n => some (n + 1) | none => none) := by
        show (bif Nat.beq a y then some 0 else _) = _
        rw [beqf (fun q => hy q.symm)]
        rfl
      rw [this]
      cases fnd y l <;> rfl)
    have e1 : fnd a (a :: l) = some 0 := by
      show (bif Nat.beq a a then some 0 else _) = _
      rw [Nat.beq_refl]
      rfl
    have e2 : vs (fun x => g ((a :: l).getD x 0)) (a :: l).length = g a + vs (fun x => g (l.getD x 0)) l.length := vs_cons
    rw [e, e2, ih]
    simp only [e1, fa]
    show _ = _ + ((if (some 0 : Option Nat).isSome then 0 else g a) - (if (none : Option Nat).isSome then 0 else g a)) + _
    simp
    omega
theorem glu_s {α : Type} {ι : List Nat} {f g : Nat → α} {y x : Nat} (h : fnd y ι = some x) : glu ι f g y = g x := by
  unfold glu
  rw [h]
theorem glu_n {α : Type} {ι : List Nat} {f g : Nat → α} {y : Nat} (h : fnd y ι = none) : glu ι f g y = f y := by
  unfold glu
  rw [h]
theorem HW_glue {W : vV} {ι dl : List Nat} (H : HW V σ D N F A) (hs : VS V W ι) (Hₚ : HW W σₚ Dₚ Nₚ Fₚ Aₚ) {c s c1 s1_ : Nat} (O : OUT W.length (pul ι D) (pul ι N) σ 0 0 Dₚ Nₚ σₚ c1 s1_) (hd : SD dl (pul ι D) Dₚ) (hm : vmov V ι dl = true) :
    HW V σₚ (glu ι D Dₚ) (glu ι N Nₚ) (glu ι F Fₚ) (glu ι A Aₚ) ∧ OUT V.length D N σ c s (glu ι D Dₚ) (glu ι N Nₚ) σₚ (c + c1) (s + s1_) := by
  obtain ⟨s1, s2, s3, s4, s5, s6, s7⟩ := hs
  have inn : ∀ {y x : Nat}, fnd y ι = some x → x < W.length ∧ ι.getD x 0 = y := fun h => by have := fnd_lt h; exact ⟨by omega, this.2⟩
  have old : ∀ {y : Nat}, y < V.length → fnd y ι = none → rat σₚ (D y) = rat σ (D y) := fun {y} hy h => O.1 _ (H.lt hy) (fun x hx q => by
    have := H.inj _ _ (s3 x hx) hy q
    exact fnd_none h s2 (by omega) this)
  have tgt : ∀ {y k : Nat}, y < V.length → fnd y ι = none → k < vnf V y → (vfd V y k).1 = 3 → D (vfd V y k).2 = glu ι D Dₚ (vfd V y k).2 := fun {y k} hy h hk h3 => by
    cases ht : fnd (vfd V y k).2 ι with
    | none => rw [glu_n ht]
    | some x =>
      obtain ⟨x1, x2⟩ := inn ht
      rw [glu_s ht]
      unfold vmov at hm
      have w := List.all_eq_true.mp hm y (List.mem_range.mpr hy)
      rw [h] at w
      have w : (List.range (vnf V y)).all (fun k => !(Nat.beq (vfd V y k).1 3) || !(dl.any (fun x => Nat.beq (ι.getD x 0) (vfd V y k).2))) = true := w
      have w := List.all_eq_true.mp w k (List.mem_range.mpr hk)
      rw [h3] at w
      have w : (!(dl.any (fun x => Nat.beq (ι.getD x 0) (vfd V y k).2))) = true := w
      have nx : dl.any (fun q => Nat.beq q x) = false := by
        cases hb : dl.any (fun q => Nat.beq q x) with
        | false => rfl
        | true =>
          obtain ⟨q, hq, e⟩ := List.any_eq_true.mp hb
          have e := Nat.eq_of_beq_eq_true e
          subst e
          have : dl.any (fun x => Nat.beq (ι.getD x 0) (vfd V y k).2) = true := List.any_eq_true.mpr ⟨q, hq, by rw [x2]; exact Nat.beq_refl _⟩
          rw [this] at w
          cases w
      rw [hd x nx]
      show _ = D (ι.getD x 0)
      rw [x2]
  refine ⟨⟨fun y hy ha => ?_, fun y hy ha => ?_, fun y z hy hz e => ?_, fun y hy => ?_, fun y k hy => ?_, fun y i hy ha => ?_, fun y hy => ?_⟩, fun a ha hn => O.1 a ha (fun x hx q => hn _ (s3 x hx) q), O.2.1, fun y hy => ?_, ?_, ?_⟩
  · cases h : fnd y ι with
    | none =>
      rw [glu_n h, old hy h, H.obj y hy ha]
      unfold vcell
      congr 3
      apply List.map_congr_left
      intro k hk
      rw [glu_n h]
      exact vf_eq rfl (fun h3 => tgt hy h (List.mem_range.mp hk) h3)
    | some x =>
      obtain ⟨x1, x2⟩ := inn h
      subst x2
      rw [glu_s h, Hₚ.obj x x1 (by unfold varr; rw [← s4 x x1]; exact ha)]
      unfold vcell vcls
      rw [s4 x x1, s5 x x1]
      congr 3
      apply List.map_congr_left
      intro k hk
      have hk := List.mem_range.mp hk
      rw [glu_s h]
      refine (vf_eq (s6 x k x1 hk) (fun h3 => ?_)).symm
      rw [(s7 x k x1 hk h3).2, glu_s (fnd_of s2 (by have := (s7 x k x1 hk h3).1; omega))]
  · cases h : fnd y ι with
    | none =>
      rw [glu_n h, glu_n h, glu_n h, old hy h]
      exact H.arr y hy ha
    | some x =>
      obtain ⟨x1, x2⟩ := inn h
      subst x2
      rw [glu_s h, glu_s h, glu_s h, show vak V (ι.getD x 0) = vak W x by unfold vak; rw [s4 x x1]]
      exact Hₚ.arr x x1 (by unfold varr; rw [← s4 x x1]; exact ha)
  · cases h : fnd y ι with
    | none =>
      cases h2 : fnd z ι with
      | none => rw [glu_n h, glu_n h2] at e; exact H.inj y z hy hz e
      | some x =>
        exfalso
        rw [glu_n h, glu_s h2] at e
        obtain ⟨x1, x2⟩ := inn h2
        rcases O.2.2.1 x x1 with w | w
        · exact fnd_none h s2 (x := x) (by omega) (H.inj _ _ (s3 x x1) hy (w.symm.trans e.symm))
        · have := H.lt hy; omega
    | some x =>
      obtain ⟨x1, x2⟩ := inn h
      cases h2 : fnd z ι with
      | none =>
        exfalso
        rw [glu_s h, glu_n h2] at e
        rcases O.2.2.1 x x1 with w | w
        · exact fnd_none h2 s2 (x := x) (by omega) (H.inj _ _ (s3 x x1) hz (w.symm.trans e))
        · have := H.lt hz; omega
      | some x' =>
        obtain ⟨x1', x2'⟩ := inn h2
        rw [glu_s h, glu_s h2] at e
        rw [← x2, ← x2', Hₚ.inj x x' x1 x1' e]
  · cases h : fnd y ι with
    | none => rw [glu_n h]; exact H.lo y hy
    | some x => rw [glu_s h]; exact Hₚ.lo x (inn h).1
  · cases h : fnd y ι with
    | none => rw [glu_n h]; exact H.krg y k hy
    | some x =>
      obtain ⟨x1, x2⟩ := inn h
      subst x2
      rw [glu_s h]
      have w := Hₚ.krg x k x1
      by_cases hk : k < vnf W x
      · rw [s6 x k x1 hk]; exact w
      · rw [vfd_out (by rw [s5 x x1]; exact hk)]
        rw [vfd_out hk] at w
        exact w
  · cases h : fnd y ι with
    | none => rw [glu_n h]; exact H.arg y i hy ha
    | some x =>
      obtain ⟨x1, x2⟩ := inn h
      subst x2
      rw [glu_s h, show vak V (ι.getD x 0) = vak W x by unfold vak; rw [s4 x x1]]
      exact Hₚ.arg x i x1 (by unfold varr; rw [← s4 x x1]; exact ha)
  · cases h : fnd y ι with
    | none => rw [glu_n h]; exact H.nle y hy
    | some x => rw [glu_s h]; exact Hₚ.nle x (inn h).1
  · cases h : fnd y ι with
    | none => rw [glu_n h]; exact .inl rfl
    | some x =>
      obtain ⟨x1, x2⟩ := inn h
      rw [glu_s h, ← x2]
      exact O.2.2.1 x x1
  · have w := O.2.2.2.1
    have a := vs_part (g := fun y => pC (N y)) (n := V.length) s2 (fun x hx => s3 x (by omega))
    have b := vs_part (g := fun y => pC (glu ι N Nₚ y)) (n := V.length) s2 (fun x hx => s3 x (by omega))
    have e := vs_congr (g := fun y => if (fnd y ι).isSome then 0 else pC (glu ι N Nₚ y)) (h := fun y => if (fnd y ι).isSome then 0 else pC (N y)) (n := V.length) (fun y _ => by
      cases h : fnd y ι with
      | none => rw [glu_n h]
      | some x => rfl)
    have f := vs_congr (g := fun x => pC (glu ι N Nₚ (ι.getD x 0))) (h := fun x => pC (Nₚ x)) (n := ι.length) (fun x hx => by rw [glu_s (fnd_of s2 hx)])
    rw [e, f] at b
    have w2 : (c1 : Int) + vs (fun x => pC (N (ι.getD x 0))) W.length ≤ (0 : Nat) + vs (fun x => pC (Nₚ x)) W.length := w
    rw [← s1] at w2
    push_cast
    omega
  · have w := O.2.2.2.2
    have a := vs_part (g := fun y => pS (N y)) (n := V.length) s2 (fun x hx => s3 x (by omega))
    have b := vs_part (g := fun y => pS (glu ι N Nₚ y)) (n := V.length) s2 (fun x hx => s3 x (by omega))
    have e := vs_congr (g := fun y => if (fnd y ι).isSome then 0 else pS (glu ι N Nₚ y)) (h := fun y => if (fnd y ι).isSome then 0 else pS (N y)) (n := V.length) (fun y _ => by
      cases h : fnd y ι with
      | none => rw [glu_n h]
      | some x => rfl)
    have f := vs_congr (g := fun x => pS (glu ι N Nₚ (ι.getD x 0))) (h := fun x => pS (Nₚ x)) (n := ι.length) (fun x hx => by rw [glu_s (fnd_of s2 hx)])
    rw [e, f] at b
    have w2 : (s1_ : Int) + vs (fun x => pS (N (ι.getD x 0))) W.length ≤ (0 : Nat) + vs (fun x => pS (Nₚ x)) W.length := w
    rw [← s1] at w2
    push_cast
    omega
end VIEW
