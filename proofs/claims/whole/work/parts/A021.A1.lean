section
/-! A1.view -/
abbrev vV : Type := List (Nat × Nat × List (Nat × Nat))
def vent (V : vV) (x : Nat) : Nat × Nat × List (Nat × Nat) := V.getD x (0, 0, [])
def vtc (V : vV) (x : Nat) : Nat × Nat := ((vent V x).1, (vent V x).2.1)
def vcls (V : vV) (x : Nat) : Nat := (vtc V x).2
def varr (V : vV) (x : Nat) : Bool := Nat.beq (vtc V x).1 1
def vak (V : vV) (x : Nat) : Nat := (vtc V x).2
def vnf (V : vV) (x : Nat) : Nat := (vent V x).2.2.length
def vfd (V : vV) (x k : Nat) : Nat × Nat := (vent V x).2.2.getD k (0, 0)

def vf (D : Nat → Nat) (f : Nat × Nat) (z : Int) : Value := match f.1 with
  | 2 => J z
  | 3 => .ref (D f.2)
  | 4 => if z < 0 then .null else .ref z.toNat
  | _ => I z
def va (kd : Nat) (z : Int) : Value := match kd with
  | 0 => I z
  | 1 => I z
  | 2 => J z
  | 3 => I z
  | _ => if z < 0 then .null else .ref z.toNat
def krng (kd : Nat) (z : Int) : Prop := match kd with
  | 0 => inr z
  | 1 => 0 ≤ z ∧ z ≤ 1
  | 2 => inrJ z
  | _ => -1 ≤ z
def arng (kd : Nat) (z : Int) : Prop := match kd with
  | 0 => -128 ≤ z ∧ z ≤ 127
  | 1 => inr z
  | 2 => inrJ z
  | 3 => 0 ≤ z ∧ z ≤ 1
  | _ => -1 ≤ z
def vcell (V : vV) (D : Nat → Nat) (F : hF) (x : Nat) : rC := .inl (vcls V x, (List.range (vnf V x)).map (fun k => vf D (vfd V x k) (F x k)))
def HW (V : vV) (σ : rS) (D N : Nat → Nat) (F : hF) (A : hA) : Prop :=
  (∀ x, x < V.length → varr V x = false → rat σ (D x) = some (vcell V D F x)) ∧
  (∀ x, x < V.length → varr V x = true → ∃ dv ov, rat σ (D x) = some (.inr (vak V x, N x, dv, ov)) ∧ ∀ j : Nat, rlk ov dv j = va (vak V x) (A x j)) ∧
  (∀ x y, x < V.length → y < V.length → D x = D y → x = y) ∧
  (∀ x, x < V.length → 12 ≤ D x) ∧
  (∀ x k, x < V.length → krng (vfd V x k).1 (F x k)) ∧
  (∀ x i, x < V.length → varr V x = true → arng (vak V x) (A x i)) ∧
  (∀ x, x < V.length → N x ≤ 1000000)
section VIEW
variable {V : vV} {σ σₚ σ'' : rS} {D N Dₚ Nₚ : Nat → Nat} {F Fₚ : hF} {A Aₚ : hA}
theorem HW.obj (H : HW V σ D N F A) : ∀ x, x < V.length → varr V x = false → rat σ (D x) = some (vcell V D F x) := H.1
theorem HW.arr (H : HW V σ D N F A) : ∀ x, x < V.length → varr V x = true → ∃ dv ov, rat σ (D x) = some (.inr (vak V x, N x, dv, ov)) ∧ ∀ j : Nat, rlk ov dv j = va (vak V x) (A x j) := H.2.1
theorem HW.inj (H : HW V σ D N F A) : ∀ x y, x < V.length → y < V.length → D x = D y → x = y := H.2.2.1
theorem HW.lo (H : HW V σ D N F A) : ∀ x, x < V.length → 12 ≤ D x := H.2.2.2.1
theorem HW.krg (H : HW V σ D N F A) : ∀ x k, x < V.length → krng (vfd V x k).1 (F x k) := H.2.2.2.2.1
theorem HW.arg (H : HW V σ D N F A) : ∀ x i, x < V.length → varr V x = true → arng (vak V x) (A x i) := H.2.2.2.2.2.1
theorem HW.nle (H : HW V σ D N F A) : ∀ x, x < V.length → N x ≤ 1000000 := H.2.2.2.2.2.2
theorem HW.lt (H : HW V σ D N F A) {x : Nat} (hx : x < V.length) : D x < σ.length := by
  have h : ∃ q, rat σ (D x) = some q := by
    cases ha : varr V x with
    | false => exact ⟨_, H.obj x hx ha⟩
    | true =>
      obtain ⟨dv, ov, q, _⟩ := H.arr x hx ha
      exact ⟨_, q⟩
  obtain ⟨q, h⟩ := h
  rw [rat_eq] at h
  obtain ⟨hl, -⟩ := List.getElem?_eq_some_iff.mp h
  exact hl
def vs (g : Nat → Int) : Nat → Int
  | 0 => 0
  | n + 1 => vs g n + g n

def pC (n : Nat) : Int := if n = 0 then 0 else if n < 256 then 2 else if n < 1024 then 4 else if n < 4096 then 6 else if n < 16384 then 8 else if n < 65536 then 10 else 12
def pS (n : Nat) : Int := if n = 65536 then 163840 else if n = 16384 then 40960 else (3 * n + 1) / 2
def RM (n : Nat) (N : Nat → Nat) (c s : Nat) (Nₚ : Nat → Nat) (cₚ sₚ : Nat) : Prop := (cₚ : Int) + vs (fun x => pC (N x)) n ≤ c + vs (fun x => pC (Nₚ x)) n ∧ (sₚ : Int) + vs (fun x => pS (N x)) n ≤ s + vs (fun x => pS (Nₚ x)) n

def OUT (n : Nat) (D N : Nat → Nat) (σ : rS) (c s : Nat) (Dₚ Nₚ : Nat → Nat) (σₚ : rS) (cₚ sₚ : Nat) : Prop := (∀ a, a < σ.length → (∀ x, x < n → D x ≠ a) → rat σₚ a = rat σ a) ∧ σ.length ≤ σₚ.length ∧ (∀ x, x < n → Dₚ x = D x ∨ σ.length ≤ Dₚ x) ∧ RM n N c s Nₚ cₚ sₚ
theorem OUT_refl {n c s : Nat} : OUT n D N σ c s D N σ c s := ⟨fun _ _ _ => rfl, Nat.le_refl _, fun _ _ => .inl rfl, Int.le_refl _, Int.le_refl _⟩
theorem OUT_trans {n c s cₚ sₚ c'' s'' : Nat} {D'' N'' : Nat → Nat} (h : OUT n D N σ c s Dₚ Nₚ σₚ cₚ sₚ) (h' : OUT n Dₚ Nₚ σₚ cₚ sₚ D'' N'' σ'' c'' s'') : OUT n D N σ c s D'' N'' σ'' c'' s'' := by
  refine ⟨fun a ha hn => ?_, by have := h.2.1; have := h'.2.1; omega, fun x hx => ?_, ?_, ?_⟩
  · rw [h'.1 a (by have := h.2.1; omega) (fun x hx q => ?_), h.1 a ha hn]
    rcases h.2.2.1 x hx with w | w
    · exact hn x hx (w ▸ q)
    · omega
  · rcases h'.2.2.1 x hx with w | w
    · rw [w]; exact h.2.2.1 x hx
    · exact .inr (by have := h.2.1; omega)
  · have := h.2.2.2.1; have := h'.2.2.2.1; omega
  · have := h.2.2.2.2; have := h'.2.2.2.2; omega
theorem OUT_set {n x c s : Nat} {q : rC} (hx : x < n) : OUT n D N σ c s D N (rstl σ (D x) q) c s :=
  ⟨fun _ _ hn => rat_other (hn x hx), by rw [rstl_eq, List.length_set]; exact Nat.le_refl _, fun _ _ => .inl rfl, Int.le_refl _, Int.le_refl _⟩
theorem HW_put (H : HW V σ D N F A) {o k : Nat} {z : Int} (ho : o < V.length) (ha : varr V o = false) (hr : krng (vfd V o k).1 z) :
    HW V (rstl σ (D o) (.inl (vcls V o, rstl ((List.range (vnf V o)).map (fun k => vf D (vfd V o k) (F o k))) k (vf D (vfd V o k) z)))) D N (updF F o k z) A := by
  have hc := H.obj o ho ha
  refine ⟨fun x hx hax => ?_, fun x hx hax => ?_, H.inj, H.lo, fun x kₚ hx => ?_, H.arg, H.nle⟩
  · by_cases e : x = o
    · subst e
      rw [rat_same hc, rstl_map]
      unfold vcell
      congr 3
      apply List.map_congr_left
      intro j _
      show _ = vf D (vfd V x j) (bif Nat.beq x x && Nat.beq j k then z else F x j)
      rw [Nat.beq_refl]
      cases hb : Nat.beq j k with
      | true => rw [Nat.eq_of_beq_eq_true hb]; rfl
      | false => rfl
    · rw [rat_other (fun q => e (H.inj o x ho hx q).symm), H.obj x hx hax]
      unfold vcell
      congr 3
      apply List.map_congr_left
      intro j _
      show _ = vf D (vfd V x j) (bif Nat.beq x o && Nat.beq j k then z else F x j)
      rw [beqf e]
      rfl
  · rw [rat_other (fun q => by have := H.inj o x ho hx q; subst this; rw [ha] at hax; cases hax)]
    exact H.arr x hx hax
  · show krng (vfd V x kₚ).1 (bif Nat.beq x o && Nat.beq kₚ k then z else F x kₚ)
    cases hb : (Nat.beq x o && Nat.beq kₚ k) with
    | false => exact H.krg x kₚ hx
    | true =>
      rw [Bool.and_eq_true] at hb
      rw [Nat.eq_of_beq_eq_true hb.1, Nat.eq_of_beq_eq_true hb.2]
      exact hr
theorem HW_sto (H : HW V σ D N F A) {o j : Nat} {z : Int} {dv : Value} {ov : rO} (ho : o < V.length) (ha : varr V o = true) (hr : arng (vak V o) z) (hc : rat σ (D o) = some (.inr (vak V o, N o, dv, ov))) (hv : ∀ j : Nat, rlk ov dv j = va (vak V o) (A o j)) :
    HW V (rstl σ (D o) (.inr (vak V o, N o, dv, rup ov j (va (vak V o) z)))) D N F (updA A o j z) := by
  refine ⟨fun x hx hax => ?_, fun x hx hax => ?_, H.inj, H.lo, H.krg, fun x i hx hax => ?_, H.nle⟩
  · rw [rat_other (fun q => by have := H.inj o x ho hx q; subst this; rw [ha] at hax; cases hax)]
    exact H.obj x hx hax
  · by_cases e : x = o
    · subst e
      refine ⟨dv, _, rat_same hc, fun i => ?_⟩
      rw [rlk_rup, hv]
      show _ = va (vak V x) (bif Nat.beq x x then (if (i : Int) = j then z else A x i) else A x i)
      rw [Nat.beq_refl]
      by_cases e2 : i = j
      · subst e2
        rw [if_pos rfl]
        show _ = va (vak V x) (if (i : Int) = i then z else A x i)
        rw [if_pos rfl]
      · rw [if_neg e2]
        show _ = va (vak V x) (if (i : Int) = j then z else A x i)
        rw [if_neg (by omega)]
    · rw [rat_other (fun q => e (H.inj o x ho hx q).symm)]
      obtain ⟨dv', ov', q1, q2⟩ := H.arr x hx hax
      refine ⟨dv', ov', q1, fun i => ?_⟩
      rw [q2]
      show _ = va (vak V x) (bif Nat.beq x o then (if (i : Int) = j then z else A o i) else A x i)
      rw [beqf e]
      rfl
  · show arng (vak V x) (bif Nat.beq x o then (if i = j then z else A o i) else A x i)
    cases hb : Nat.beq x o with
    | false => exact H.arg x i hx hax
    | true =>
      have e := Nat.eq_of_beq_eq_true hb
      subst e
      show arng (vak V x) (if i = j then z else A x i)
      by_cases e2 : i = j
      · rw [if_pos e2]; exact hr
      · rw [if_neg e2]; exact H.arg x i hx hax

def pul {α : Type} (ι : List Nat) (f : Nat → α) : Nat → α := fun x => f (ι.getD x 0)
def fnd (y : Nat) : List Nat → Option Nat
  | [] => none
  | a :: l => bif Nat.beq a y then some 0 else (match fnd y l with | some n => some (n + 1) | none => none)
def glu {α : Type} (ι : List Nat) (f g : Nat → α) : Nat → α := fun y => match fnd y ι with
  | some x => g x
  | none => f y
def nodB : List Nat → Bool
  | [] => true
  | a :: l => (!(l.any (fun b => Nat.beq a b))) && nodB l

def vsub (V W : vV) (ι : List Nat) : Bool := Nat.beq ι.length W.length && (nodB ι && (List.range W.length).all (fun x => Nat.blt (ι.getD x 0) V.length && ((Nat.beq (vtc V (ι.getD x 0)).1 (vtc W x).1 && Nat.beq (vtc V (ι.getD x 0)).2 (vtc W x).2) && (Nat.beq (vnf V (ι.getD x 0)) (vnf W x) && (List.range (vnf W x)).all (fun k => Nat.beq (vfd V (ι.getD x 0) k).1 (vfd W x k).1 && (!(Nat.beq (vfd W x k).1 3) || (Nat.blt (vfd W x k).2 W.length && Nat.beq (vfd V (ι.getD x 0) k).2 (ι.getD (vfd W x k).2 0))))))))

def vmov (V : vV) (ι dl : List Nat) : Bool := (List.range V.length).all (fun y => (fnd y ι).isSome || (List.range (vnf V y)).all (fun k => !(Nat.beq (vfd V y k).1 3) || !(dl.any (fun x => Nat.beq (ι.getD x 0) (vfd V y k).2))))
def SD (dl : List Nat) (D Dₚ : Nat → Nat) : Prop := ∀ x, dl.any (fun q => Nat.beq q x) = false → Dₚ x = D x
theorem SD_refl {dl : List Nat} : SD dl D D := fun _ _ => rfl
theorem SD_trans {dl dl' : List Nat} {D'' : Nat → Nat} (h : SD dl D Dₚ) (h' : SD dl' Dₚ D'') (hl : ∀ o, dl.any (fun q => Nat.beq q o) = false → dl'.any (fun q => Nat.beq q o) = false) : SD dl D D'' := fun o hn => (h' o (hl o hn)).trans (h o hn)
theorem fnd_lt : ∀ {ι : List Nat} {y x : Nat}, fnd y ι = some x → x < ι.length ∧ ι.getD x 0 = y
  | [], y, x, h => by cases h
  | a :: l, y, x, h => by
    have h : (bif Nat.beq a y then some 0 else (match fnd y l with | some n => some (n + 1) | none => none)) = some x := h
    cases hb : Nat.beq a y with
    | true =>
      rw [hb] at h
      have h : some 0 = some x := h
      cases h
      exact ⟨by simp, by rw [← Nat.eq_of_beq_eq_true hb]; rfl⟩
    | false =>
      rw [hb] at h
      have h : (match fnd y l with | some n => some (n + 1) | none => none) = some x := h
      cases hf : fnd y l with
      | none => rw [hf] at h; cases h
      | some n =>
        rw [hf] at h
        have h : some (n + 1) = some x := h
        cases h
        obtain ⟨q1, q2⟩ := fnd_lt hf
        exact ⟨by simp; omega, by simpa using q2⟩
theorem fnd_of : ∀ {ι : List Nat} {x : Nat}, nodB ι = true → x < ι.length → fnd (ι.getD x 0) ι = some x
  | [], x, _, h => by simp at h
  | a :: l, 0, _, _ => by
    show (bif Nat.beq a a then some 0 else _) = some 0
    rw [Nat.beq_refl]
    rfl
  | a :: l, x + 1, hn, h => by
    have hn : ((!(l.any (fun b => Nat.beq a b))) && nodB l) = true := hn
    rw [Bool.and_eq_true] at hn
    have hx : x < l.length := by simpa using h
    have ih := fnd_of hn.2 hx
    have e : (a :: l).getD (x + 1) 0 = l.getD x 0 := rfl
    rw [e]
    show (bif Nat.beq a (l.getD x 0) then some 0 else (match fnd (l.getD x 0) l with | some n => some (n + 1) | none => none)) = _
    have hm : l.getD x 0 ∈ l := by
      rw [List.getD_eq_getElem?_getD, List.getElem?_eq_getElem hx]
      exact List.getElem_mem hx
    have ha : Nat.beq a (l.getD x 0) = false := by
      cases hb : Nat.beq a (l.getD x 0) with
      | false => rfl
      | true =>
        have : l.any (fun b => Nat.beq a b) = true := List.any_eq_true.mpr ⟨_, hm, hb⟩
        rw [this] at hn
        exact absurd hn.1 (by decide)
    rw [ha, ih]
    rfl
theorem fnd_none {ι : List Nat} {y : Nat} (h : fnd y ι = none) (hn : nodB ι = true) {x : Nat} (hx : x < ι.length) : ι.getD x 0 ≠ y := fun q => by
  have := fnd_of hn hx
  rw [q, h] at this
  cases this
def VS (V W : vV) (ι : List Nat) : Prop :=
  ι.length = W.length ∧ nodB ι = true ∧ (∀ x, x < W.length → ι.getD x 0 < V.length) ∧ (∀ x, x < W.length → vtc V (ι.getD x 0) = vtc W x) ∧ (∀ x, x < W.length → vnf V (ι.getD x 0) = vnf W x) ∧
  (∀ x k, x < W.length → k < vnf W x → (vfd V (ι.getD x 0) k).1 = (vfd W x k).1) ∧ (∀ x k, x < W.length → k < vnf W x → (vfd W x k).1 = 3 → (vfd W x k).2 < W.length ∧ (vfd V (ι.getD x 0) k).2 = ι.getD (vfd W x k).2 0)
theorem VS_of {V W : vV} {ι : List Nat} (h : vsub V W ι = true) : VS V W ι := by
  unfold vsub at h
  rw [Bool.and_eq_true, Bool.and_eq_true] at h
  obtain ⟨h1, h2, h3⟩ := h
  have h4 : ∀ x, x < W.length → _ := fun x hx => List.all_eq_true.mp h3 x (List.mem_range.mpr hx)
  refine ⟨Nat.eq_of_beq_eq_true h1, h2, fun x hx => ?_, fun x hx => ?_, fun x hx => ?_, fun x k hx hk => ?_, fun x k hx hk h33 => ?_⟩
  all_goals
    have q := h4 x hx
    simp only [Bool.and_eq_true] at q
    obtain ⟨q1, q2, q3, q4⟩ := q
  · exact Nat.le_of_ble_eq_true q1
  · exact Prod.ext (Nat.eq_of_beq_eq_true q2.1) (Nat.eq_of_beq_eq_true q2.2)
  · exact Nat.eq_of_beq_eq_true q3
  · have w := List.all_eq_true.mp q4 k (List.mem_range.mpr hk)
    rw [Bool.and_eq_true] at w
    exact Nat.eq_of_beq_eq_true w.1
  · have w := List.all_eq_true.mp q4 k (List.mem_range.mpr hk)
    rw [Bool.and_eq_true, h33] at w
    have w2 : (Nat.blt (vfd W x k).2 W.length && Nat.beq (vfd V (ι.getD x 0) k).2 (ι.getD (vfd W x k).2 0)) = true := w.2
    rw [Bool.and_eq_true] at w2
    exact ⟨Nat.le_of_ble_eq_true w2.1, Nat.eq_of_beq_eq_true w2.2⟩
theorem vf_eq {D Dₚ : Nat → Nat} {f g : Nat × Nat} {z : Int} (h : f.1 = g.1) (ht : g.1 = 3 → D f.2 = Dₚ g.2) : vf D f z = vf Dₚ g z := by
  obtain ⟨a, b⟩ := f
  obtain ⟨a', b'⟩ := g
  have h : a = a' := h
  subst h
  have ht : a = 3 → D b = Dₚ b' := ht
  unfold vf
  match a with
  | 0 => rfl
  | 1 => rfl
  | 2 => rfl
  | 3 => exact congrArg Value.ref (ht rfl)
  | 4 => rfl
  | n + 5 => rfl
theorem vfd_out {V : vV} {x k : Nat} (h : ¬ k < vnf V x) : vfd V x k = (0, 0) := by
  unfold vfd
  rw [List.getD_eq_getElem?_getD, List.getElem?_eq_none (by unfold vnf at h; omega)]
  rfl
theorem HW_sub {W : vV} {ι : List Nat} (H : HW V σ D N F A) (hs : VS V W ι) : HW W σ (pul ι D) (pul ι N) (pul ι F) (pul ι A) := by
  obtain ⟨s1, s2, s3, s4, s5, s6, s7⟩ := hs
  have ar : ∀ x, x < W.length → varr V (ι.getD x 0) = varr W x := fun x hx => by unfold varr; rw [s4 x hx]
  have ak : ∀ x, x < W.length → vak V (ι.getD x 0) = vak W x := fun x hx => by unfold vak; rw [s4 x hx]
  refine ⟨fun x hx ha => ?_, fun x hx ha => ?_, fun x y hx hy e => ?_, fun x hx => H.lo _ (s3 x hx), fun x k hx => ?_, fun x i hx ha => ?_, fun x hx => H.nle _ (s3 x hx)⟩
  · show rat σ (D (ι.getD x 0)) = _
    rw [H.obj _ (s3 x hx) (by rw [ar x hx]; exact ha)]
    unfold vcell vcls
    rw [s4 x hx, s5 x hx]
    congr 3
    apply List.map_congr_left
    intro k hk
    have hk := List.mem_range.mp hk
    exact vf_eq (s6 x k hx hk) (fun h3 => by rw [(s7 x k hx hk h3).2]; rfl)
  · show ∃ dv ov, rat σ (D (ι.getD x 0)) = some (.inr (vak W x, N (ι.getD x 0), dv, ov)) ∧ _
    rw [← ak x hx]
    exact H.arr _ (s3 x hx) (by rw [ar x hx]; exact ha)
  · have q := H.inj _ _ (s3 x hx) (s3 y hy) e
    have a := fnd_of s2 (show x < ι.length by omega)
    have b := fnd_of s2 (show y < ι.length by omega)
    rw [q, b] at a
    cases a
    rfl
  · show krng (vfd W x k).1 (F (ι.getD x 0) k)
    have w := H.krg (ι.getD x 0) k (s3 x hx)
    by_cases hk : k < vnf W x
    · rw [← s6 x k hx hk]; exact w
    · rw [vfd_out hk]
      rw [vfd_out (by rw [s5 x hx]; exact hk)] at w
      exact w
  · show arng (vak W x) (A (ι.getD x 0) i)
    rw [← ak x hx]
    exact H.arg _ i (s3 x hx) (by rw [ar x hx]; exact ha)
theorem vs_congr {g h : Nat → Int} : ∀ {n : Nat}, (∀ y, y < n → g y = h y) → vs g n = vs h n
  | 0, _ => rfl
  | n + 1, q => by
    show vs g n + g n = vs h n + h n
    rw [vs_congr (fun y hy => q y (by omega)), q n (by omega)]
theorem vs_at {g h : Nat → Int} {a : Nat} : ∀ {n : Nat}, a < n → (∀ y, y < n → y ≠ a → g y = h y) → vs g n = vs h n + (g a - h a)
  | 0, q, _ => by omega
  | n + 1, q, w => by
    show vs g n + g n = vs h n + h n + _
    by_cases e : a = n
    · subst e
      rw [vs_congr (fun y hy => w y (by omega) (by omega))]
      omega
    · rw [vs_at (a := a) (n := n) (by omega) (fun y hy => w y (by omega)), w n (by omega) (by omega)]
      omega
theorem vs_cons {g : Nat → Int} : ∀ {m : Nat}, vs g (m + 1) = g 0 + vs (fun x => g (x + 1)) m
  | 0 => by
    show vs g 0 + g 0 = g 0 + vs _ 0
    show 0 + g 0 = g 0 + 0
    omega
  | m + 1 => by
    show vs g (m + 1) + g (m + 1) = g 0 + (vs (fun x => g (x + 1)) m + g (m + 1))
    rw [vs_cons]
    omega

theorem vs_part {g : Nat → Int} {n : Nat} : ∀ {ι : List Nat}, nodB ι = true → (∀ x, x < ι.length → ι.getD x 0 < n) → vs g n = vs (fun y => if (fnd y ι).isSome then 0 else g y) n + vs (fun x => g (ι.getD x 0)) ι.length
  | [], _, _ => by
    show _ = vs (fun y => if (fnd y []).isSome then 0 else g y) n + 0
    rw [vs_congr (g := fun y => if (fnd y []).isSome then 0 else g y) (h := g) (fun y _ => by show (if (none : Option Nat).isSome then 0 else g y) = g y; rfl)]
    omega
  | a :: l, hn, hl => by
    have hn2 : ((!(l.any (fun b => Nat.beq a b))) && nodB l) = true := hn
    rw [Bool.and_eq_true] at hn2
    have ih := vs_part (g := g) (n := n) (ι := l) hn2.2 (fun x hx => hl (x + 1) (by simpa using hx))
    have ha : a < n := hl 0 (by simp)
    have fa : fnd a l = none := by
      cases hf : fnd a l with
      | none => rfl
      | some x =>
        obtain ⟨x1, x2⟩ := fnd_lt hf
        have hm : a ∈ l := by
          rw [← x2, List.getD_eq_getElem?_getD, List.getElem?_eq_getElem x1]
          exact List.getElem_mem x1
        have : l.any (fun b => Nat.beq a b) = true := List.any_eq_true.mpr ⟨a, hm, Nat.beq_refl a⟩
        rw [this] at hn2
        exact absurd hn2.1 (by decide)
    have e := vs_at (g := fun y => if (fnd y (a :: l)).isSome then 0 else g y) (h := fun y => if (fnd y l).isSome then 0 else g y) (a := a) (n := n) ha (fun y _ hy => by
      have : fnd y (a :: l) = (match fnd y l with | some n => some (n + 1) | none => none) := by
        show (bif Nat.beq a y then some 0 else _) = _
        rw [beqf (fun q => hy q.symm)]
        rfl
      rw [this]
      cases fnd y l <;> rfl)
    have e1 : fnd a (a :: l) = some 0 := by
      show (bif Nat.beq a a then some 0 else _) = _
      rw [Nat.beq_refl]
      rfl
    have e2 : vs (fun x => g ((a :: l).getD x 0)) (a :: l).length = g a + vs (fun x => g (l.getD x 0)) l.length := vs_cons
    rw [e, e2, ih]
    simp only [e1, fa]
    show _ = _ + ((if (some 0 : Option Nat).isSome then 0 else g a) - (if (none : Option Nat).isSome then 0 else g a)) + _
    simp
    omega
theorem glu_s {α : Type} {ι : List Nat} {f g : Nat → α} {y x : Nat} (h : fnd y ι = some x) : glu ι f g y = g x := by
  unfold glu
  rw [h]
theorem glu_n {α : Type} {ι : List Nat} {f g : Nat → α} {y : Nat} (h : fnd y ι = none) : glu ι f g y = f y := by
  unfold glu
  rw [h]
theorem HW_glue {W : vV} {ι dl : List Nat} (H : HW V σ D N F A) (hs : VS V W ι) (Hₚ : HW W σₚ Dₚ Nₚ Fₚ Aₚ) {c s c1 s1_ : Nat} (O : OUT W.length (pul ι D) (pul ι N) σ 0 0 Dₚ Nₚ σₚ c1 s1_) (hd : SD dl (pul ι D) Dₚ) (hm : vmov V ι dl = true) :
    HW V σₚ (glu ι D Dₚ) (glu ι N Nₚ) (glu ι F Fₚ) (glu ι A Aₚ) ∧ OUT V.length D N σ c s (glu ι D Dₚ) (glu ι N Nₚ) σₚ (c + c1) (s + s1_) := by
  obtain ⟨s1, s2, s3, s4, s5, s6, s7⟩ := hs
  have inn : ∀ {y x : Nat}, fnd y ι = some x → x < W.length ∧ ι.getD x 0 = y := fun h => by have := fnd_lt h; exact ⟨by omega, this.2⟩
  have old : ∀ {y : Nat}, y < V.length → fnd y ι = none → rat σₚ (D y) = rat σ (D y) := fun {y} hy h => O.1 _ (H.lt hy) (fun x hx q => by
    have := H.inj _ _ (s3 x hx) hy q
    exact fnd_none h s2 (by omega) this)
  have tgt : ∀ {y k : Nat}, y < V.length → fnd y ι = none → k < vnf V y → (vfd V y k).1 = 3 → D (vfd V y k).2 = glu ι D Dₚ (vfd V y k).2 := fun {y k} hy h hk h3 => by
    cases ht : fnd (vfd V y k).2 ι with
    | none => rw [glu_n ht]
    | some x =>
      obtain ⟨x1, x2⟩ := inn ht
      rw [glu_s ht]
      unfold vmov at hm
      have w := List.all_eq_true.mp hm y (List.mem_range.mpr hy)
      rw [h] at w
      have w : (List.range (vnf V y)).all (fun k => !(Nat.beq (vfd V y k).1 3) || !(dl.any (fun x => Nat.beq (ι.getD x 0) (vfd V y k).2))) = true := w
      have w := List.all_eq_true.mp w k (List.mem_range.mpr hk)
      rw [h3] at w
      have w : (!(dl.any (fun x => Nat.beq (ι.getD x 0) (vfd V y k).2))) = true := w
      have nx : dl.any (fun q => Nat.beq q x) = false := by
        cases hb : dl.any (fun q => Nat.beq q x) with
        | false => rfl
        | true =>
          obtain ⟨q, hq, e⟩ := List.any_eq_true.mp hb
          have e := Nat.eq_of_beq_eq_true e
          subst e
          have : dl.any (fun x => Nat.beq (ι.getD x 0) (vfd V y k).2) = true := List.any_eq_true.mpr ⟨q, hq, by rw [x2]; exact Nat.beq_refl _⟩
          rw [this] at w
          cases w
      rw [hd x nx]
      show _ = D (ι.getD x 0)
      rw [x2]
  refine ⟨⟨fun y hy ha => ?_, fun y hy ha => ?_, fun y z hy hz e => ?_, fun y hy => ?_, fun y k hy => ?_, fun y i hy ha => ?_, fun y hy => ?_⟩, fun a ha hn => O.1 a ha (fun x hx q => hn _ (s3 x hx) q), O.2.1, fun y hy => ?_, ?_, ?_⟩
  · cases h : fnd y ι with
    | none =>
      rw [glu_n h, old hy h, H.obj y hy ha]
      unfold vcell
      congr 3
      apply List.map_congr_left
      intro k hk
      rw [glu_n h]
      exact vf_eq rfl (fun h3 => tgt hy h (List.mem_range.mp hk) h3)
    | some x =>
      obtain ⟨x1, x2⟩ := inn h
      subst x2
      rw [glu_s h, Hₚ.obj x x1 (by unfold varr; rw [← s4 x x1]; exact ha)]
      unfold vcell vcls
      rw [s4 x x1, s5 x x1]
      congr 3
      apply List.map_congr_left
      intro k hk
      have hk := List.mem_range.mp hk
      rw [glu_s h]
      refine (vf_eq (s6 x k x1 hk) (fun h3 => ?_)).symm
      rw [(s7 x k x1 hk h3).2, glu_s (fnd_of s2 (by have := (s7 x k x1 hk h3).1; omega))]
  · cases h : fnd y ι with
    | none =>
      rw [glu_n h, glu_n h, glu_n h, old hy h]
      exact H.arr y hy ha
    | some x =>
      obtain ⟨x1, x2⟩ := inn h
      subst x2
      rw [glu_s h, glu_s h, glu_s h, show vak V (ι.getD x 0) = vak W x by unfold vak; rw [s4 x x1]]
      exact Hₚ.arr x x1 (by unfold varr; rw [← s4 x x1]; exact ha)
  · cases h : fnd y ι with
    | none =>
      cases h2 : fnd z ι with
      | none => rw [glu_n h, glu_n h2] at e; exact H.inj y z hy hz e
      | some x =>
        exfalso
        rw [glu_n h, glu_s h2] at e
        obtain ⟨x1, x2⟩ := inn h2
        rcases O.2.2.1 x x1 with w | w
        · exact fnd_none h s2 (x := x) (by omega) (H.inj _ _ (s3 x x1) hy (w.symm.trans e.symm))
        · have := H.lt hy; omega
    | some x =>
      obtain ⟨x1, x2⟩ := inn h
      cases h2 : fnd z ι with
      | none =>
        exfalso
        rw [glu_s h, glu_n h2] at e
        rcases O.2.2.1 x x1 with w | w
        · exact fnd_none h2 s2 (x := x) (by omega) (H.inj _ _ (s3 x x1) hz (w.symm.trans e))
        · have := H.lt hz; omega
      | some x' =>
        obtain ⟨x1', x2'⟩ := inn h2
        rw [glu_s h, glu_s h2] at e
        rw [← x2, ← x2', Hₚ.inj x x' x1 x1' e]
  · cases h : fnd y ι with
    | none => rw [glu_n h]; exact H.lo y hy
    | some x => rw [glu_s h]; exact Hₚ.lo x (inn h).1
  · cases h : fnd y ι with
    | none => rw [glu_n h]; exact H.krg y k hy
    | some x =>
      obtain ⟨x1, x2⟩ := inn h
      subst x2
      rw [glu_s h]
      have w := Hₚ.krg x k x1
      by_cases hk : k < vnf W x
      · rw [s6 x k x1 hk]; exact w
      · rw [vfd_out (by rw [s5 x x1]; exact hk)]
        rw [vfd_out hk] at w
        exact w
  · cases h : fnd y ι with
    | none => rw [glu_n h]; exact H.arg y i hy ha
    | some x =>
      obtain ⟨x1, x2⟩ := inn h
      subst x2
      rw [glu_s h, show vak V (ι.getD x 0) = vak W x by unfold vak; rw [s4 x x1]]
      exact Hₚ.arg x i x1 (by unfold varr; rw [← s4 x x1]; exact ha)
  · cases h : fnd y ι with
    | none => rw [glu_n h]; exact H.nle y hy
    | some x => rw [glu_s h]; exact Hₚ.nle x (inn h).1
  · cases h : fnd y ι with
    | none => rw [glu_n h]; exact .inl rfl
    | some x =>
      obtain ⟨x1, x2⟩ := inn h
      rw [glu_s h, ← x2]
      exact O.2.2.1 x x1
  · have w := O.2.2.2.1
    have a := vs_part (g := fun y => pC (N y)) (n := V.length) s2 (fun x hx => s3 x (by omega))
    have b := vs_part (g := fun y => pC (glu ι N Nₚ y)) (n := V.length) s2 (fun x hx => s3 x (by omega))
    have e := vs_congr (g := fun y => if (fnd y ι).isSome then 0 else pC (glu ι N Nₚ y)) (h := fun y => if (fnd y ι).isSome then 0 else pC (N y)) (n := V.length) (fun y _ => by
      cases h : fnd y ι with
      | none => rw [glu_n h]
      | some x => rfl)
    have f := vs_congr (g := fun x => pC (glu ι N Nₚ (ι.getD x 0))) (h := fun x => pC (Nₚ x)) (n := ι.length) (fun x hx => by rw [glu_s (fnd_of s2 hx)])
    rw [e, f] at b
    have w2 : (c1 : Int) + vs (fun x => pC (N (ι.getD x 0))) W.length ≤ (0 : Nat) + vs (fun x => pC (Nₚ x)) W.length := w
    rw [← s1] at w2
    push_cast
    omega
  · have w := O.2.2.2.2
    have a := vs_part (g := fun y => pS (N y)) (n := V.length) s2 (fun x hx => s3 x (by omega))
    have b := vs_part (g := fun y => pS (glu ι N Nₚ y)) (n := V.length) s2 (fun x hx => s3 x (by omega))
    have e := vs_congr (g := fun y => if (fnd y ι).isSome then 0 else pS (glu ι N Nₚ y)) (h := fun y => if (fnd y ι).isSome then 0 else pS (N y)) (n := V.length) (fun y _ => by
      cases h : fnd y ι with
      | none => rw [glu_n h]
      | some x => rfl)
    have f := vs_congr (g := fun x => pS (glu ι N Nₚ (ι.getD x 0))) (h := fun x => pS (Nₚ x)) (n := ι.length) (fun x hx => by rw [glu_s (fnd_of s2 hx)])
    rw [e, f] at b
    have w2 : (s1_ : Int) + vs (fun x => pS (N (ι.getD x 0))) W.length ≤ (0 : Nat) + vs (fun x => pS (Nₚ x)) W.length := w
    rw [← s1] at w2
    push_cast
    omega
end VIEW


end
section
/-! A5.glu -/
theorem SF_glu {ι : List Nat} {l lₚ : List (Nat × Nat)} {F Fₚ F1 : hF} (h : SF l (pul ι F) Fₚ) (e : ∀ y k, F1 y k = glu ι F Fₚ y k) (hm : l.all (fun p => lₚ.any (fun q => Nat.beq q.1 (ι.getD p.1 0) && Nat.beq q.2 p.2)) = true) : SF lₚ F F1 := by
  intro y k hn
  rw [e]
  cases hf : fnd y ι with
  | none => rw [glu_n hf]
  | some x =>
    obtain ⟨x1, x2⟩ := fnd_lt hf
    rw [glu_s hf, h x k ?_]
    · show F (ι.getD x 0) k = F y k
      rw [x2]
    · cases hb : l.any (fun q => Nat.beq q.1 x && Nat.beq q.2 k) with
      | false => rfl
      | true =>
        obtain ⟨p, hp, hq⟩ := List.any_eq_true.mp hb
        rw [Bool.and_eq_true] at hq
        have w := List.all_eq_true.mp hm p hp
        rw [Nat.eq_of_beq_eq_true hq.1, Nat.eq_of_beq_eq_true hq.2, x2, hn] at w
        cases w
theorem SA_glu {ι : List Nat} {l lₚ : List Nat} {A Aₚ A1 : hA} (h : SA l (pul ι A) Aₚ) (e : ∀ y, A1 y = glu ι A Aₚ y) (hm : l.all (fun p => lₚ.any (fun q => Nat.beq q (ι.getD p 0))) = true) : SA lₚ A A1 := by
  intro y hn i
  rw [e]
  cases hf : fnd y ι with
  | none => rw [glu_n hf]
  | some x =>
    obtain ⟨x1, x2⟩ := fnd_lt hf
    rw [glu_s hf, h x ?_ i]
    · show A (ι.getD x 0) i = A y i
      rw [x2]
    · cases hb : l.any (fun q => Nat.beq q x) with
      | false => rfl
      | true =>
        obtain ⟨p, hp, hq⟩ := List.any_eq_true.mp hb
        have w := List.all_eq_true.mp hm p hp
        rw [Nat.eq_of_beq_eq_true hq, x2, hn] at w
        cases w
theorem SD_glu {ι : List Nat} {l lₚ : List Nat} {D Dₚ D1 : Nat → Nat} (h : SD l (pul ι D) Dₚ) (e : ∀ y, D1 y = glu ι D Dₚ y) (hm : l.all (fun p => lₚ.any (fun q => Nat.beq q (ι.getD p 0))) = true) : SD lₚ D D1 := by
  intro y hn
  rw [e]
  cases hf : fnd y ι with
  | none => rw [glu_n hf]
  | some x =>
    obtain ⟨x1, x2⟩ := fnd_lt hf
    rw [glu_s hf, h x ?_]
    · show D (ι.getD x 0) = D y
      rw [x2]
    · cases hb : l.any (fun q => Nat.beq q x) with
      | false => rfl
      | true =>
        obtain ⟨p, hp, hq⟩ := List.any_eq_true.mp hb
        have w := List.all_eq_true.mp hm p hp
        rw [Nat.eq_of_beq_eq_true hq, x2, hn] at w
        cases w


end
section
/-! 31.math -/
def su (f : Int → Int) : Nat → Int
  | 0 => 0
  | n + 1 => su f n + f n
theorem su_congr {f h : Int → Int} : ∀ {n : Nat}, (∀ i : Int, 0 ≤ i → i < n → f i = h i) → su f n = su h n
  | 0, _ => rfl
  | n + 1, e => by
    show su f n + f n = su h n + h n
    rw [su_congr (fun i a b => e i a (by omega)), e n (by omega) (by omega)]
theorem su_upd {f h : Int → Int} {j : Int} : ∀ {n : Nat}, 0 ≤ j → j < n → (∀ i : Int, 0 ≤ i → i < n → i ≠ j → h i = f i) → su h n = su f n + (h j - f j)
  | 0, h0, h1, _ => by omega
  | n + 1, h0, h1, e => by
    show su h n + h n = su f n + f n + (h j - f j)
    by_cases q : j = n
    · subst q
      rw [su_congr (f := h) (h := f) (fun i a b => e i a (by omega) (by omega))]
      omega
    · rw [su_upd (f := f) (h := h) h0 (by omega) (fun i a b c => e i a (by omega) c), e n (by omega) (by omega) (fun z => q z.symm)]
      omega
theorem su_nonneg {f : Int → Int} : ∀ {n : Nat}, (∀ i : Int, 0 ≤ i → i < n → 0 ≤ f i) → 0 ≤ su f n
  | 0, _ => by show (0 : Int) ≤ 0; omega
  | n + 1, e => by
    show 0 ≤ su f n + f n
    have := su_nonneg (f := f) (n := n) (fun i a b => e i a (by omega))
    have := e n (by omega) (by omega)
    omega
theorem su_le {f h : Int → Int} : ∀ {n : Nat}, (∀ i : Int, 0 ≤ i → i < n → f i ≤ h i) → su f n ≤ su h n
  | 0, _ => by show (0 : Int) ≤ 0; omega
  | n + 1, e => by
    show su f n + f n ≤ su h n + h n
    have := su_le (f := f) (h := h) (n := n) (fun i a b => e i a (by omega))
    have := e n (by omega) (by omega)
    omega
theorem su_split {f : Int → Int} {n : Nat} : ∀ {k : Nat}, (∀ i : Int, (n : Int) ≤ i → i < n + k → f i = 0) → su f (n + k) = su f n
  | 0, _ => rfl
  | k + 1, e => by
    show su f (n + k) + f ((n + k : Nat) : Int) = su f n
    rw [su_split (k := k) (fun i a b => e i a (by omega)), e _ (by omega) (by omega)]
    omega
theorem su_mono {f : Int → Int} {n : Nat} : ∀ {k : Nat}, (∀ i : Int, 0 ≤ i → 0 ≤ f i) → su f n ≤ su f (n + k)
  | 0, _ => by show su f n ≤ su f n; omega
  | k + 1, e => by
    show su f n ≤ su f (n + k) + f ((n + k : Nat) : Int)
    have := su_mono (f := f) (n := n) (k := k) e
    have := e ((n + k : Nat) : Int) (by omega)
    omega
theorem su_add {f h : Int → Int} : ∀ {n : Nat}, su (fun i => f i + h i) n = su f n + su h n
  | 0 => rfl
  | n + 1 => by
    show su (fun i => f i + h i) n + (f n + h n) = su f n + f n + (su h n + h n)
    rw [su_add]
    omega
theorem su_s {f : Int → Int} {i : Int} (h : 0 ≤ i) : su f (i + 1).toNat = su f i.toNat + f i := by
  rw [show (i + 1).toNat = i.toNat + 1 by omega]
  show su f i.toNat + f ((i.toNat : Nat) : Int) = _
  rw [show ((i.toNat : Nat) : Int) = i by omega]
def mass (p : Int) : Int := if p < 0 then 1 else p
theorem mass_eq (p : Int) : p < 0 ∧ mass p = 1 ∨ 0 ≤ p ∧ mass p = p := by
  unfold mass
  by_cases h : p < 0
  · rw [if_pos h]; omega
  · rw [if_neg h]; omega
def neg1 (p : Int) : Int := if p < 0 then 1 else 0
theorem neg1_eq (p : Int) : p < 0 ∧ neg1 p = 1 ∨ 0 ≤ p ∧ neg1 p = 0 := by
  unfold neg1
  by_cases h : p < 0
  · rw [if_pos h]; omega
  · rw [if_neg h]; omega
def posi (p : Int) : Int := if p < 0 then 0 else p
theorem posi_eq (p : Int) : p < 0 ∧ posi p = 0 ∨ 0 ≤ p ∧ posi p = p := by
  unfold posi
  by_cases h : p < 0
  · rw [if_pos h]; omega
  · rw [if_neg h]; omega
theorem mass_sum (p : Int) : mass p = neg1 p + posi p := by
  have := mass_eq p
  have := neg1_eq p
  have := posi_eq p
  omega

def SH (g : Int → Int) (at_ n order last : Int) : Prop := 5 ≤ order ∧ order ≤ 9 ∧ (∀ i, 0 ≤ i → i < n → -1 ≤ g (at_ + i)) ∧ (∀ i, last < i → i < n → 0 ≤ i → g (at_ + i) = 0) ∧ su (fun i => mass (g (at_ + i))) n.toNat = p2 order

def TI (sy bi ba : Int → Int) (row order last : Int) : Prop := ∀ k, 0 ≤ k → k < p2 order → 0 ≤ sy (row + k) ∧ sy (row + k) ≤ last ∧ 0 ≤ bi (row + k) ∧ bi (row + k) ≤ order ∧ 0 ≤ ba (row + k) ∧ ba (row + k) + p2 (bi (row + k)) ≤ p2 order
theorem p2_5 {o : Int} (h : 5 ≤ o ∧ o ≤ 9) : (o = 5 ∧ p2 o = 32) ∨ (o = 6 ∧ p2 o = 64) ∨ (o = 7 ∧ p2 o = 128) ∨ (o = 8 ∧ p2 o = 256) ∨ (o = 9 ∧ p2 o = 512) := by
  rcases (show o = 5 ∨ o = 6 ∨ o = 7 ∨ o = 8 ∨ o = 9 by omega) with h | h | h | h | h <;> subst h
  · exact .inl ⟨rfl, by decide⟩
  · exact .inr (.inl ⟨rfl, by decide⟩)
  · exact .inr (.inr (.inl ⟨rfl, by decide⟩))
  · exact .inr (.inr (.inr (.inl ⟨rfl, by decide⟩)))
  · exact .inr (.inr (.inr (.inr ⟨rfl, by decide⟩)))

theorem step_met {N s t c p q : Int} (hN : 0 < N) (hi : s * t = 1 + N * c) (hq : 0 ≤ q) (hq2 : q < N) : ∃ j : Nat, (p + j * s) % N = q := by
  refine ⟨(((q - p) * t) % N).toNat, ?_⟩
  have h0 : 0 ≤ ((q - p) * t) % N := Int.emod_nonneg _ (by omega)
  rw [Int.toNat_of_nonneg h0]
  have h1 : ((q - p) * t) % N = (q - p) * t - N * (((q - p) * t) / N) := by
    have := Int.emod_add_mul_ediv ((q - p) * t) N
    omega
  rw [h1]
  have h2 : ∀ e : Int, p + ((q - p) * t - N * e) * s = q + N * ((q - p) * c - e * s) := by
    intro e
    grind
  rw [h2, Int.add_mul_emod_self_left, Int.emod_eq_of_lt hq hq2]
theorem share_met {o p q : Int} (h : 5 ≤ o ∧ o ≤ 9) (hq : 0 ≤ q) (hq2 : q < p2 o) : ∃ j : Nat, (p + j * (p2 o / 2 + p2 o / 8 + 3)) % p2 o = q := by
  rcases p2_5 h with ⟨_, e⟩ | ⟨_, e⟩ | ⟨_, e⟩ | ⟨_, e⟩ | ⟨_, e⟩ <;> rw [e] at hq2 ⊢
  · exact step_met (s := 23) (t := 7) (c := 5) (by decide) (by decide) hq hq2
  · exact step_met (s := 43) (t := 3) (c := 2) (by decide) (by decide) hq hq2
  · exact step_met (s := 83) (t := 91) (c := 59) (by decide) (by decide) hq hq2
  · exact step_met (s := 163) (t := 11) (c := 7) (by decide) (by decide) hq hq2
  · exact step_met (s := 323) (t := 363) (c := 229) (by decide) (by decide) hq hq2

def tk (sy : Int → Int) (row : Int) : Int → Int := fun k => if 0 ≤ sy (row + k) then 1 else 0
theorem SH_parts {g : Int → Int} {at_ n order last : Int} (h : SH g at_ n order last) : su (fun i => neg1 (g (at_ + i))) n.toNat + su (fun i => posi (g (at_ + i))) n.toNat = p2 order := by
  rw [← su_add, ← h.2.2.2.2]
  exact su_congr (fun i _ _ => (mass_sum _).symm)

theorem fill_upd {g : Int → Int} {r i v : Int} (h : ∀ k, 0 ≤ k → k < i → g (r + k) = v) : ∀ k, 0 ≤ k → k < i + 1 → upd1 g (r + i) v (r + k) = v := by
  intro k a b
  by_cases e : k = i
  · subst e; rw [upd1_s]
  · rw [upd1_o (by omega)]; exact h k a (by omega)
theorem pt_upd {g h : Int → Int} {i v : Int} (e : ∀ k, 0 ≤ k → k < i → g k = h k) (q : v = h i) : ∀ k, 0 ≤ k → k < i + 1 → upd1 g i v k = h k := by
  intro k a b
  by_cases e2 : k = i
  · subst e2; rw [upd1_s]; exact q
  · rw [upd1_o e2]; exact e k a (by omega)
theorem su_le_all {f : Int → Int} {i n : Int} (h0 : 0 ≤ i) (h1 : i ≤ n) (h : ∀ i, 0 ≤ i → 0 ≤ f i) : 0 ≤ su f i.toNat ∧ su f i.toNat ≤ su f n.toNat := by
  refine ⟨su_nonneg (fun j a _ => h j a), ?_⟩
  have := su_mono (f := f) (n := i.toNat) (k := (n - i).toNat) h
  rw [show i.toNat + (n - i).toNat = n.toNat by omega] at this
  exact this
theorem SH_le {g : Int → Int} {at_ n order last : Int} (s : Int) (h : SH g at_ n order last) (h0 : 0 ≤ s) (h1 : s < n) : -1 ≤ g (at_ + s) ∧ g (at_ + s) ≤ p2 order ∧ mass (g (at_ + s)) ≤ p2 order ∧ (g (at_ + s) ≠ 0 → s ≤ last) := by
  have a := su_le_all (f := fun i => mass (g (at_ + i))) (i := s + 1) (n := n) (by omega) (by omega) (fun i _ => by have := mass_eq (g (at_ + i)); omega)
  have b := su_le_all (f := fun i => mass (g (at_ + i))) (i := s) (n := n) (by omega) (by omega) (fun i _ => by have := mass_eq (g (at_ + i)); omega)
  rw [su_s h0, h.2.2.2.2] at a
  have c := mass_eq (g (at_ + s))
  have d := h.2.2.1 s h0 h1
  refine ⟨d, by omega, by omega, fun q => ?_⟩
  by_cases e : s ≤ last
  · exact e
  · exact absurd (h.2.2.2.1 s (by omega) h1 h0) q
theorem p2_lt {a b : Int} (h0 : 0 ≤ a) (h : p2 a < p2 b) : a < b := by
  by_cases e : a < b
  · exact e
  · have := p2_mono (show b ≤ a by omega)
    omega
theorem hi_base {x r o : Int} (h1 : p2 r ≤ x) (h2 : x < 2 * p2 r) (h0 : 0 ≤ r) (hx : x < 2 * p2 o) (ho : 0 ≤ o) : r ≤ o ∧ 0 ≤ x * p2 (o - r) - p2 o ∧ x * p2 (o - r) - p2 o + p2 (o - r) ≤ p2 o := by
  have h3 : r < o + 1 := p2_lt h0 (by rw [p2_s ho]; omega)
  have e : p2 o = p2 r * p2 (o - r) := by rw [← p2_add h0 (by omega)]; congr 1; omega
  have hp := p2_pos (o - r)
  have a : p2 r * p2 (o - r) ≤ x * p2 (o - r) := Int.mul_le_mul_of_nonneg_right h1 (by omega)
  have b : (x + 1) * p2 (o - r) ≤ (2 * p2 r) * p2 (o - r) := Int.mul_le_mul_of_nonneg_right (by omega) (by omega)
  rw [Int.add_mul, Int.mul_assoc, ← e] at b
  rw [← e] at a
  refine ⟨by omega, by omega, by omega⟩
def TJ (sy bi ba : Int → Int) (row order last lim : Int) : Prop := ∀ k, 0 ≤ k → k < lim → 0 ≤ sy (row + k) ∧ sy (row + k) ≤ last ∧ 0 ≤ bi (row + k) ∧ bi (row + k) ≤ order ∧ 0 ≤ ba (row + k) ∧ ba (row + k) + p2 (bi (row + k)) ≤ p2 order
theorem TJ_next {sy bi ba : Int → Int} {row order last k b z : Int} (h : TJ sy bi ba row order last k) (hs : 0 ≤ sy (row + k) ∧ sy (row + k) ≤ last) (hb : 0 ≤ b ∧ b ≤ order) (hz : 0 ≤ z ∧ z + p2 b ≤ p2 order) : TJ sy (upd1 bi (row + k) b) (upd1 ba (row + k) z) row order last (k + 1) := by
  intro j a c
  by_cases e : j = k
  · subst e
    rw [upd1_s, upd1_s]
    exact ⟨hs.1, hs.2, hb.1, hb.2, hz.1, hz.2⟩
  · rw [upd1_o (by omega), upd1_o (by omega)]
    exact h j a (by omega)

theorem bitmul {z y : Int} (h : 0 ≤ z ∧ z ≤ 1) : z * y = 0 ∧ z = 0 ∨ z * y = y ∧ z = 1 := by
  rcases (show z = 0 ∨ z = 1 by omega) with e | e <;> subst e
  · left; omega
  · right; omega
section SH1
variable {σ0 σ : rS} {D N : Nat → Nat} {F : hF} {A : hA} {μ d pc c s : Nat} {ls : rO} {st : List Value} {Q : wQ} {len : Nat} {act : rA}
theorem w_ishlT {a b : Int} (hf : PP.1 μ pc = some (.ishl, len, act)) (hb : 0 ≤ b ∧ b ≤ 31) (h : Ew μ d (pc + 1) ls (I (a * p2 b) :: st) σ c s Q) : Ew μ d pc ls (I b :: I a :: st) σ c s Q :=
  Ew_of (fun _ => x_ishl hf (z := a * p2 b) (shl32 hb)) h
theorem w_ishl1 {b : Int} (hf : PP.1 μ pc = some (.ishl, len, act)) (hb : 0 ≤ b ∧ b ≤ 31) (h : Ew μ d (pc + 1) ls (I (p2 b) :: st) σ c s Q) : Ew μ d pc ls (I b :: I 1 :: st) σ c s Q := by
  refine w_ishlT hf hb ?_
  rw [Int.one_mul]
  exact h
theorem w_lshlT {a b : Int} (hf : PP.1 μ pc = some (.lshl, len, act)) (hb : 0 ≤ b ∧ b ≤ 63) (h : Ew μ d (pc + 1) ls (J (a * p2 b) :: st) σ c s Q) : Ew μ d pc ls (I b :: J a :: st) σ c s Q :=
  Ew_of (fun _ => x_lshl hf (z := a * p2 b) (shl64 hb)) h
theorem w_lshl1 {b : Int} (hf : PP.1 μ pc = some (.lshl, len, act)) (hb : 0 ≤ b ∧ b ≤ 63) (h : Ew μ d (pc + 1) ls (J (p2 b) :: st) σ c s Q) : Ew μ d pc ls (I b :: J 1 :: st) σ c s Q := by
  refine w_lshlT hf hb ?_
  rw [Int.one_mul]
  exact h
end SH1


end
section
/-! 31a.math -/
def nm (g : Int → Int) (a : Int) : Nat → Int
  | 0 => 0
  | n + 1 => g a + 256 * nm g (a + 1) n
theorem nm_nn {g : Int → Int} (hB : ∀ i, (0 : Int) ≤ g i ∧ g i ≤ 255) : ∀ {n : Nat} {a : Int}, 0 ≤ nm g a n
  | 0, _ => by show (0 : Int) ≤ 0; omega
  | n + 1, a => by
    have := nm_nn hB (n := n) (a := a + 1)
    have := hB a
    show 0 ≤ g a + 256 * nm g (a + 1) n
    omega
theorem nm_up {g : Int → Int} (hB : ∀ i, (0 : Int) ≤ g i ∧ g i ≤ 255) {m : Int} {n : Nat} (h : ∀ a, nm g a n ≤ m) (a : Int) : nm g a (n + 1) ≤ 256 * m + 255 := by
  have := h (a + 1)
  have := hB a
  show g a + 256 * nm g (a + 1) n ≤ _
  omega
theorem nm_b {g : Int → Int} {a k : Int} (hB : ∀ i, (0 : Int) ≤ g i ∧ g i ≤ 255) : 0 ≤ nm g a k.toNat ∧ (k ≤ 0 → nm g a k.toNat = 0) ∧ (k ≤ 1 → nm g a k.toNat ≤ 255) ∧ (k ≤ 2 → nm g a k.toNat ≤ 65535) ∧ (k ≤ 3 → nm g a k.toNat ≤ 16777215) ∧ (k ≤ 4 → nm g a k.toNat ≤ 4294967295) ∧ (k ≤ 5 → nm g a k.toNat ≤ 1099511627775) ∧ (k ≤ 6 → nm g a k.toNat ≤ 281474976710655) ∧ (k ≤ 7 → nm g a k.toNat ≤ 72057594037927935) := by
  have b0 : ∀ a, nm g a 0 ≤ 0 := fun a => by show (0 : Int) ≤ 0; omega
  have b1 : ∀ a, nm g a 1 ≤ 255 := fun a => nm_up hB b0 a
  have b2 : ∀ a, nm g a 2 ≤ 65535 := fun a => nm_up hB b1 a
  have b3 : ∀ a, nm g a 3 ≤ 16777215 := fun a => nm_up hB b2 a
  have b4 : ∀ a, nm g a 4 ≤ 4294967295 := fun a => nm_up hB b3 a
  have b5 : ∀ a, nm g a 5 ≤ 1099511627775 := fun a => nm_up hB b4 a
  have b6 : ∀ a, nm g a 6 ≤ 281474976710655 := fun a => nm_up hB b5 a
  have b7 : ∀ a, nm g a 7 ≤ 72057594037927935 := fun a => nm_up hB b6 a
  have nn := nm_nn hB (n := k.toNat) (a := a)
  by_cases h : k ≤ 7
  · rcases (show k.toNat = 0 ∨ k.toNat = 1 ∨ k.toNat = 2 ∨ k.toNat = 3 ∨ k.toNat = 4 ∨ k.toNat = 5 ∨ k.toNat = 6 ∨ k.toNat = 7 by omega) with e | e | e | e | e | e | e | e <;> rw [e] at nn ⊢
    · have := b0 a; omega
    · have := b1 a; omega
    · have := b2 a; omega
    · have := b3 a; omega
    · have := b4 a; omega
    · have := b5 a; omega
    · have := b6 a; omega
    · have := b7 a; omega
  · omega

end
section
/-! 31b.math -/
def HI (a l x : Int) : Prop := (l = -1 → x = a) ∧ (l = -1 ∨ p2 l ≤ a) ∧ x * p2 (l + 1) ≤ a ∧ a < (x + 1) * p2 (l + 1)
theorem HI_0 {a : Int} : HI a (-1) a := by
  refine ⟨fun _ => rfl, .inl rfl, ?_, ?_⟩
  · rw [show p2 (-1 + 1) = 1 from by decide]; omega
  · rw [show p2 (-1 + 1) = 1 from by decide]; omega
theorem HI_s {a l x : Int} (h : HI a l x) (hx : 1 ≤ x) (hl : -1 ≤ l) (ha : a ≤ 2147483647) : HI a (l + 1) (x / 2) ∧ l + 1 ≤ 30 := by
  obtain ⟨h1, h2, h3, h4⟩ := h
  have hp := p2_pos (l + 1)
  have e := p2_s (y := l + 1) (by omega)
  have a1 : 1 * p2 (l + 1) ≤ x * p2 (l + 1) := Int.mul_le_mul_of_nonneg_right hx (by omega)
  have a2 : (x / 2 * 2) * p2 (l + 1) ≤ x * p2 (l + 1) := Int.mul_le_mul_of_nonneg_right (by omega) (by omega)
  have a3 : (x + 1) * p2 (l + 1) ≤ ((x / 2 + 1) * 2) * p2 (l + 1) := Int.mul_le_mul_of_nonneg_right (by omega) (by omega)
  rw [Int.mul_assoc] at a2 a3
  have hb : l + 1 < 31 := p2_lt (by omega) (by rw [show p2 31 = 2147483648 from by decide]; omega)
  refine ⟨⟨fun q => by omega, .inr (by omega), ?_, ?_⟩, by omega⟩
  · rw [e]; omega
  · rw [e]; omega
theorem HI_end {a l x : Int} (h : HI a l x) (hx : x = 0) (hl : -1 ≤ l) (ha : 0 ≤ a) : a = 0 ∧ l = -1 ∨ 1 ≤ a ∧ 0 ≤ l ∧ p2 l ≤ a ∧ a < 2 * p2 l := by
  obtain ⟨h1, h2, h3, h4⟩ := h
  by_cases e : l = -1
  · left; have := h1 e; omega
  · right
    have := p2_pos l
    rw [hx, p2_s (by omega)] at h4
    omega
theorem su_zero : ∀ m : Nat, su (fun _ => 0) m = 0
  | 0 => rfl
  | m + 1 => by show su (fun _ => 0) m + 0 = 0; rw [su_zero m]; rfl
theorem su_mass0 {g : Int → Int} {n : Nat} (hn : n = 256) (h : ∀ i, (0 : Int) ≤ i → i < 256 → g i = 0) : su (fun i => mass (g i)) n = 0 := by
  subst hn
  have e : su (fun i => mass (g i)) 256 = su (fun _ => 0) 256 := su_congr (fun i a b => by rw [h i a (by omega)]; decide)
  rw [e]
  exact su_zero _
theorem su_mass_nn {g : Int → Int} {n : Nat} : 0 ≤ su (fun i => mass (g i)) n := su_nonneg (fun i _ _ => by have := mass_eq (g i); omega)
theorem su_mass_upd {g : Int → Int} {j v : Int} {n : Nat} (h0 : 0 ≤ j) (h1 : j < n) (hg : g j = 0) : su (fun i => mass (upd1 g j v i)) n = su (fun i => mass (g i)) n + mass v := by
  rw [su_upd (f := fun i => mass (g i)) (h := fun i => mass (upd1 g j v i)) h0 h1 (fun i _ _ c => by rw [upd1_o c])]
  rw [upd1_s, hg, show mass 0 = 0 from by decide]
  omega
theorem share_z {g : Int → Int} {l : Int} (h : ∀ i, (0 : Int) ≤ i → i < l → g (0 + i) = 0) : ∀ i, (0 : Int) ≤ i → i < l + 1 → upd1 g l 0 (0 + i) = 0 := by
  intro i a b
  by_cases e : i = l
  · subst e; rw [Int.zero_add, upd1_s]
  · rw [upd1_o (by omega)]; exact h i a (by omega)
theorem SH_of {g : Int → Int} {o last : Int} (ho : 5 ≤ o ∧ o ≤ 9) (hg : ∀ i, (0 : Int) ≤ i → i < 256 → -1 ≤ g i) (hz : ∀ i, last + 1 ≤ i → i < 256 → g i = 0) (hl : 0 ≤ last ∧ last ≤ 63) (hs : su (fun i => mass (g i)) 256 = p2 o) : SH g 0 64 o last := by
  refine ⟨ho.1, ho.2, fun i a b => by rw [Int.zero_add]; exact hg i a (by omega), fun i a b c => by rw [Int.zero_add]; exact hz i (by omega) (by omega), ?_⟩
  rw [← hs]
  have e := su_split (f := fun i => mass (g i)) (n := 64) (k := 192) (fun i a b => by
    have : g i = 0 := hz i (by omega) (by omega)
    show mass (g i) = 0
    rw [this]; decide)
  show su (fun i => mass (g (0 + i))) 64 = su (fun i => mass (g i)) (64 + 192)
  rw [e]
  exact su_congr (fun i _ _ => by rw [Int.zero_add])


end
section
/-! 31c.math -/
def FRM (g gₚ : Int → Int) (lo hi : Int) : Prop := ∀ k, k < lo ∨ hi ≤ k → gₚ k = g k
theorem FRM_refl {g : Int → Int} {lo hi : Int} : FRM g g lo hi := fun _ _ => rfl
theorem FRM_upd {g gₚ : Int → Int} {lo hi i v : Int} (h : FRM g gₚ lo hi) (h0 : lo ≤ i) (h1 : i < hi) : FRM g (upd1 gₚ i v) lo hi := by
  intro k q
  rw [upd1_o (by omega)]
  exact h k q
theorem FRM_wide {g gₚ : Int → Int} {lo hi lo2 hi2 : Int} (h : FRM g gₚ lo hi) (h0 : lo2 ≤ lo) (h1 : hi ≤ hi2) : FRM g gₚ lo2 hi2 := fun k q => h k (by omega)

def lastOf (t : Int) : Int := if t = 0 then 35 else if t = 1 then 31 else 52
theorem lastOf_eq (t : Int) : t = 0 ∧ lastOf t = 35 ∨ t = 1 ∧ lastOf t = 31 ∨ t ≠ 0 ∧ t ≠ 1 ∧ lastOf t = 52 := by
  unfold lastOf
  by_cases h : t = 0
  · rw [if_pos h]; omega
  · rw [if_neg h]
    by_cases h1 : t = 1
    · rw [if_pos h1]; omega
    · rw [if_neg h1]; omega
def RO (sy bi ba or_ : Int → Int) (t : Int) : Prop := or_ t < 0 ∨ 0 ≤ or_ t ∧ or_ t ≤ 9 ∧ TI sy bi ba (512 * t) (or_ t) (lastOf t)
def RT (sy bi ba or_ : Int → Int) : Prop := ∀ t, 0 ≤ t → t < 3 → RO sy bi ba or_ t
def RX (sy bi ba or_ : Int → Int) (x : Int) : Prop := ∀ t, 0 ≤ t → t < 3 → t ≠ x → RO sy bi ba or_ t
def PS (po or_ : Int → Int) (t : Int) : Prop := SH po (64 * t) 64 (or_ t) (lastOf t)
theorem p2_le9 {o : Int} (h : o ≤ 9) : p2 o ≤ 512 := by
  have := p2_mono h
  rw [show p2 9 = 512 from by decide] at this
  exact this
theorem TI_frm {sy bi ba sy' bi' ba' : Int → Int} {row o last lo hi : Int} (h : TI sy bi ba row o last) (h1 : FRM sy sy' lo hi) (h2 : FRM bi bi' lo hi) (h3 : FRM ba ba' lo hi) (hd : row + p2 o ≤ lo ∨ hi ≤ row) : TI sy' bi' ba' row o last := by
  intro k a b
  rw [h1 _ (by omega), h2 _ (by omega), h3 _ (by omega)]
  exact h k a b
theorem RT_lay {sy bi ba sy' bi' ba' or_ : Int → Int} {x : Int} (h : RX sy bi ba or_ x) (h1 : FRM sy sy' (512 * x) (512 * x + 512)) (h2 : FRM bi bi' (512 * x) (512 * x + 512)) (h3 : FRM ba ba' (512 * x) (512 * x + 512)) (hn : 0 ≤ or_ x ∧ or_ x ≤ 9) (ht : TI sy' bi' ba' (512 * x) (or_ x) (lastOf x)) : RT sy' bi' ba' or_ := by
  intro t a b
  by_cases e : t = x
  · subst e; exact .inr ⟨hn.1, hn.2, ht⟩
  · rcases h t a b e with q | ⟨q1, q2, q3⟩
    · exact .inl q
    · have := p2_le9 q2
      exact .inr ⟨q1, q2, TI_frm q3 h1 h2 h3 (by omega)⟩
theorem RX_of {sy bi ba or_ : Int → Int} {x v : Int} (h : RT sy bi ba or_) : RX sy bi ba (upd1 or_ x v) x := by
  intro t a b e
  unfold RO
  rw [upd1_o e]
  exact h t a b
theorem RT_neg {sy bi ba or_ : Int → Int} (h : ∀ t, (0 : Int) ≤ t → t < 3 → or_ t < 0) : RT sy bi ba or_ := fun t a b => .inl (h t a b)

theorem RT_one {sy bi ba or_ : Int → Int} {x s : Int} (h : RT sy bi ba or_) (hx : 0 ≤ x ∧ x < 3) (hs : 0 ≤ s ∧ s ≤ lastOf x) : RT (upd1 sy (512 * x) s) (upd1 bi (512 * x) 0) (upd1 ba (512 * x) 0) (upd1 or_ x 0) := by
  refine RT_lay (RX_of h) (FRM_upd FRM_refl (by omega) (by omega)) (FRM_upd FRM_refl (by omega) (by omega)) (FRM_upd FRM_refl (by omega) (by omega)) (by rw [upd1_s]; omega) ?_
  rw [upd1_s]
  intro k a b
  have : p2 0 = 1 := by decide
  have e : k = 0 := by omega
  subst e
  rw [Int.add_zero, upd1_s, upd1_s, upd1_s]
  exact ⟨hs.1, hs.2, by omega, by omega, by omega, by omega⟩

def rns (g : Int → Int) (a n v : Int) : Int → Int := fun i => if a ≤ i ∧ i < a + n then v else g i
theorem rns_0 {g : Int → Int} {a v : Int} : rns g a 0 v = g := by
  funext i
  unfold rns
  rw [if_neg (by omega)]
theorem rns_s {g : Int → Int} {a n v : Int} (hn : 0 ≤ n) : upd1 (rns g a n v) (a + n) v = rns g a (n + 1) v := by
  funext i
  unfold upd1 rns
  by_cases e : i = a + n
  · rw [if_pos e, if_pos (by omega)]
  · rw [if_neg e]
    by_cases q : a ≤ i ∧ i < a + n
    · rw [if_pos q, if_pos (by omega)]
    · rw [if_neg q, if_neg (by omega)]
def kr (T l : Int) : Int := if l = 0 then 0 else p2 (T - l)
theorem kr_eq (T l : Int) : l = 0 ∧ kr T l = 0 ∨ l ≠ 0 ∧ kr T l = p2 (T - l) := by
  unfold kr
  by_cases h : l = 0
  · rw [if_pos h]; omega
  · rw [if_neg h]; omega
def CI (g : Int → Int) (T : Int) : Prop := 0 ≤ T ∧ T ≤ 11 ∧ (∀ i, 0 ≤ i → i < 256 → 0 ≤ g i ∧ g i ≤ T) ∧ su (fun i => kr T (g i)) 256 = p2 T ∧ ∃ i, 0 ≤ i ∧ i < 256 ∧ g i = T
def kq (g : Int → Int) (T w : Int) : Int → Int := fun i => if g i ≠ 0 ∧ T + 1 - g i < w then p2 (T - g i) else 0
def ke (g : Int → Int) (T w : Int) : Int → Int := fun i => if g i ≠ 0 ∧ T + 1 - g i = w then p2 (T - g i) else 0
theorem ke_eq (g : Int → Int) (T w i : Int) : g i ≠ 0 ∧ T + 1 - g i = w ∧ ke g T w i = p2 (w - 1) ∨ ¬(g i ≠ 0 ∧ T + 1 - g i = w) ∧ ke g T w i = 0 := by
  unfold ke
  by_cases h : g i ≠ 0 ∧ T + 1 - g i = w
  · rw [if_pos h]; left; refine ⟨h.1, h.2, ?_⟩; congr 1; omega
  · rw [if_neg h]; right; exact ⟨h, rfl⟩
theorem kq_s {g : Int → Int} {T w : Int} {n : Nat} : su (kq g T (w + 1)) n = su (kq g T w) n + su (ke g T w) n := by
  rw [← su_add]
  refine su_congr (fun i _ _ => ?_)
  unfold kq ke
  by_cases h0 : g i = 0
  · rw [if_neg (by omega), if_neg (by omega), if_neg (by omega)]; omega
  · by_cases h1 : T + 1 - g i < w
    · rw [if_pos (by omega), if_pos (by omega), if_neg (by omega)]; omega
    · by_cases h2 : T + 1 - g i = w
      · rw [if_pos (by omega), if_neg (by omega), if_pos (by omega)]; omega
      · rw [if_neg (by omega), if_neg (by omega), if_neg (by omega)]; omega
theorem kq_1 {g : Int → Int} {T : Int} (h : ∀ i, (0 : Int) ≤ i → i < 256 → 0 ≤ g i ∧ g i ≤ T) : su (kq g T 1) 256 = 0 := by
  rw [su_congr (h := fun _ => 0)]
  · exact su_zero _
  · intro i a b
    have := h i a (by omega)
    unfold kq
    rw [if_neg (by omega)]
theorem CI_room {g : Int → Int} {T w s : Int} (h : CI g T) (h0 : 0 ≤ s) (h1 : s ≤ 256) : 0 ≤ su (kq g T w) 256 ∧ 0 ≤ su (ke g T w) s.toNat ∧ su (kq g T w) 256 + su (ke g T w) s.toNat ≤ p2 T := by
  have a : ∀ i : Int, 0 ≤ ke g T w i := fun i => by have := ke_eq g T w i; have := p2_pos (w - 1); omega
  have b := su_le_all (f := ke g T w) h0 h1 (fun i _ => a i)
  have c : su (kq g T w) 256 + su (ke g T w) 256 ≤ su (fun i => kr T (g i)) 256 := by
    rw [← kq_s]
    refine su_le (fun i _ _ => ?_)
    have := kr_eq T (g i)
    have := p2_pos (T - g i)
    unfold kq
    by_cases q : g i ≠ 0 ∧ T + 1 - g i < w + 1
    · rw [if_pos q]; omega
    · rw [if_neg q]; omega
  have d : 0 ≤ su (kq g T w) 256 := su_nonneg (fun i _ _ => by
    unfold kq
    have := p2_pos (T - g i)
    by_cases q : g i ≠ 0 ∧ T + 1 - g i < w
    · rw [if_pos q]; omega
    · rw [if_neg q]; omega)
  rw [h.2.2.2.1] at c
  have e : (256 : Int).toNat = 256 := rfl
  rw [e] at b
  exact ⟨d, b.1, by omega⟩
theorem p2_11 {T : Int} (h : T ≤ 11) : p2 T ≤ 2048 := by
  have := p2_mono h
  rw [show p2 11 = 2048 from by decide] at this
  exact this
theorem su_some {f : Int → Int} : ∀ {n : Nat}, su f n ≠ 0 → ∃ i : Int, 0 ≤ i ∧ i < n ∧ f i ≠ 0
  | 0, h => absurd rfl h
  | n + 1, h => by
    by_cases q : f n = 0
    · have e1 : su f (n + 1) = su f n + f n := rfl
      obtain ⟨i, a, b, c⟩ := su_some (f := f) (n := n) (by omega)
      exact ⟨i, a, by omega, c⟩
    · exact ⟨n, by omega, by omega, q⟩
def wk (x : Int) : Int := if 0 < x then p2 (x - 1) else 0
theorem wk_eq (x : Int) : 0 < x ∧ wk x = p2 (x - 1) ∨ x ≤ 0 ∧ wk x = 0 := by
  unfold wk
  by_cases h : 0 < x
  · rw [if_pos h]; omega
  · rw [if_neg h]; omega
def on1 (x : Int) : Int := if x = 1 then 1 else 0
theorem on1_eq (x : Int) : x = 1 ∧ on1 x = 1 ∨ x ≠ 1 ∧ on1 x = 0 := by
  unfold on1
  by_cases h : x = 1
  · rw [if_pos h]; omega
  · rw [if_neg h]; omega

def lw (w : Int → Int) (n t : Int) : Int → Int := fun i => if i ≤ n ∧ 0 < w i then t + 1 - w i else 0
theorem lw_eq (w : Int → Int) (n t i : Int) : i ≤ n ∧ 0 < w i ∧ lw w n t i = t + 1 - w i ∨ ¬(i ≤ n ∧ 0 < w i) ∧ lw w n t i = 0 := by
  unfold lw
  by_cases h : i ≤ n ∧ 0 < w i
  · rw [if_pos h]; omega
  · rw [if_neg h]; omega
theorem wk_le {w : Int → Int} {n i : Int} (h0 : 0 ≤ i) (h1 : i < n) : wk (w i) ≤ su (fun i => wk (w i)) n.toNat ∧ 0 ≤ wk (w i) := by
  have nn : ∀ i : Int, 0 ≤ i → 0 ≤ wk (w i) := fun i _ => by have := wk_eq (w i); have := p2_pos (w i - 1); omega
  have a := su_le_all (f := fun i => wk (w i)) (i := i + 1) (n := n) (by omega) (by omega) nn
  have b := su_le_all (f := fun i => wk (w i)) (i := i) (n := n) (by omega) (by omega) nn
  rw [su_s h0] at a
  exact ⟨by omega, nn i h0⟩
theorem CI_of {w : Int → Int} {n t : Int} (hn : 0 ≤ n) (hn2 : n ≤ 255) (ht : 1 ≤ t) (ht2 : t ≤ 11) (hw : ∀ i, 0 ≤ i → i ≤ n → w i ≤ t) (hs : su (fun i => wk (w i)) (n + 1).toNat = p2 t) (ho : su (fun i => on1 (w i)) (n + 1).toNat ≠ 0) : CI (lw w n t) t := by
  refine ⟨by omega, ht2, fun i a b => ?_, ?_, ?_⟩
  · have := lw_eq w n t i
    have := fun q => hw i a q
    omega
  · rw [← hs]
    have e := su_split (f := fun i => kr t (lw w n t i)) (n := (n + 1).toNat) (k := (255 - n).toNat) (fun i a b => by
      have := lw_eq w n t i
      have := kr_eq t (lw w n t i)
      show kr t (lw w n t i) = 0
      omega)
    rw [show (n + 1).toNat + (255 - n).toNat = 256 by omega] at e
    rw [e]
    refine su_congr (fun i a b => ?_)
    show kr t (lw w n t i) = wk (w i)
    have h1 := lw_eq w n t i
    have h2 := kr_eq t (lw w n t i)
    have h3 := wk_eq (w i)
    have h4 := hw i a (by omega)
    by_cases q : 0 < w i
    · have e2 : lw w n t i = t + 1 - w i := by omega
      rw [e2] at h2 ⊢
      have e3 : t - (t + 1 - w i) = w i - 1 := by omega
      rw [e3] at h2
      omega
    · omega
  · obtain ⟨i, a, b, c⟩ := su_some ho
    have := on1_eq (w i)
    have := lw_eq w n t i
    exact ⟨i, a, by omega, by omega⟩


end
section
/-! 34.math -/
theorem SH_copy {g gₚ : Int → Int} {b b' o l : Int} (h : SH g b 64 o l) (e : ∀ k, 0 ≤ k → k < 64 → gₚ (b' + k) = g (b + k)) : SH gₚ b' 64 o l := by
  refine ⟨h.1, h.2.1, fun i a c => by rw [e i a c]; exact h.2.2.1 i a c, fun i a c d => by rw [e i d c]; exact h.2.2.2.1 i a c d, ?_⟩
  rw [← h.2.2.2.2]
  exact su_congr (fun i a c => by rw [e i a (by omega)])
theorem SH_12 {g : Int → Int} {o : Int} (h : SH g 0 64 o 11) : SH g 0 12 o 11 := by
  refine ⟨h.1, h.2.1, fun i a c => h.2.2.1 i a (by omega), fun i a c d => h.2.2.2.1 i a (by omega) d, ?_⟩
  rw [← h.2.2.2.2]
  have e := su_split (f := fun i => mass (g (0 + i))) (n := 12) (k := 52) (fun i a c => by
    have : g (0 + i) = 0 := h.2.2.2.1 i (by omega) (by omega) (by omega)
    show mass (g (0 + i)) = 0
    rw [this]; decide)
  exact e.symm
theorem SH_lit {K g : Int → Int} {b o l : Int} (ho : 5 ≤ o ∧ o ≤ 9) (hb : (List.range 64).all (fun i => decide (-1 ≤ K i) && (decide ((i : Int) ≤ l) || decide (K i = 0))) = true) (hs : su (fun i => mass (K i)) 64 = p2 o) (e : ∀ i, (0 : Int) ≤ i → i < 64 → g (b + i) = K i) : SH g b 64 o l := by
  have q : ∀ i : Int, 0 ≤ i → i < 64 → -1 ≤ K i ∧ (i ≤ l ∨ K i = 0) := by
    intro i a c
    have := List.all_eq_true.mp hb i.toNat (List.mem_range.mpr (by omega))
    rw [Int.toNat_of_nonneg a] at this
    simpa using this
  refine ⟨ho.1, ho.2, fun i a c => by rw [e i a c]; exact (q i a c).1, fun i a c d => by rw [e i d c]; have := (q i d c).2; omega, ?_⟩
  rw [← hs]
  exact su_congr (fun i a c => by rw [e i a (by omega)])
theorem p2_inj {r h x : Int} (h0 : 0 ≤ r) (h1 : 0 ≤ h) (e : p2 h = x) (a : p2 r ≤ x) (b : x < 2 * p2 r) : p2 r = x := by
  have c : r < h + 1 := p2_lt h0 (by rw [p2_s h1]; omega)
  have d : h < r + 1 := p2_lt h1 (by rw [p2_s h0]; omega)
  rw [← e]
  congr 1
  omega
theorem desc_ok {w : Int → Int} {n sum z r : Int} (hn : 0 ≤ n) (hsum : sum = su (fun i => wk (w i)) n.toNat) (h1 : p2 z ≤ sum) (h2 : sum < 2 * p2 z) (hz : 0 ≤ z) (hr0 : 0 ≤ r) (hr : p2 r = 2 * p2 z - sum) : r ≤ z ∧ (∀ i, 0 ≤ i → i ≤ n → upd1 w n (r + 1) i ≤ z + 1) ∧ su (fun i => wk (upd1 w n (r + 1) i)) (n + 1).toNat = p2 (z + 1) := by
  have hp := p2_s hz
  have q : r < z + 1 := p2_lt hr0 (by have := p2_pos z; omega)
  refine ⟨by omega, fun i a b => ?_, ?_⟩
  · by_cases e : i = n
    · subst e; rw [upd1_s]; omega
    · rw [upd1_o e]
      have h3 := wk_le (w := w) (n := n) (i := i) a (by omega)
      have h4 := wk_eq (w i)
      by_cases h5 : 0 < w i
      · have : w i - 1 < z + 1 := p2_lt (by omega) (by omega)
        omega
      · omega
  · rw [su_s hn, upd1_s, su_congr (h := fun i => wk (w i)) (fun i a b => by rw [upd1_o (by omega)]), ← hsum, hp]
    have := wk_eq (r + 1)
    rw [show r + 1 - 1 = r by omega] at this
    omega
theorem on1_upd {w : Int → Int} {n v : Int} (hn : 0 ≤ n) : su (fun i => on1 (upd1 w n v i)) (n + 1).toNat = su (fun i => on1 (w i)) n.toNat + on1 v := by
  rw [su_s hn, upd1_s, su_congr (h := fun i => on1 (w i)) (fun i a b => by rw [upd1_o (by omega)])]
theorem CI_congr {g gₚ : Int → Int} {T : Int} (h : CI g T) (e : ∀ i, (0 : Int) ≤ i → i < 256 → gₚ i = g i) : CI gₚ T := by
  refine ⟨h.1, h.2.1, fun i a b => by rw [e i a b]; exact h.2.2.1 i a b, ?_, ?_⟩
  · rw [← h.2.2.2.1]
    exact su_congr (fun i a b => by rw [e i a (by omega)])
  · obtain ⟨i, a, b, c⟩ := h.2.2.2.2
    exact ⟨i, a, b, by rw [e i a b]; exact c⟩

def K0 : Int → Int := rns (rns (rns (rns (rns (rns (rns (rns (rns (fun _ => 0) 0 1 4) 1 1 3) 2 11 2) 13 3 1) 16 9 2) 25 1 3) 26 1 2) 27 5 1) 32 4 (-1)
def K1 : Int → Int := rns (rns (rns (rns (fun _ => 0) 0 6 1) 6 3 2) 9 15 1) 24 5 (-1)
def K2 : Int → Int := rns (rns (rns (rns (rns (rns (fun _ => 0) 0 1 1) 1 1 4) 2 1 3) 3 6 2) 9 37 1) 46 7 (-1)
theorem SH_K0 {g : Int → Int} {b : Int} (e : ∀ i, (0 : Int) ≤ i → i < 64 → g (b + i) = K0 i) : SH g b 64 6 35 := SH_lit (by omega) (by decide +kernel) (by decide +kernel) e
theorem SH_K1 {g : Int → Int} {b : Int} (e : ∀ i, (0 : Int) ≤ i → i < 64 → g (b + i) = K1 i) : SH g b 64 5 31 := SH_lit (by omega) (by decide +kernel) (by decide +kernel) e
theorem SH_K2 {g : Int → Int} {b : Int} (e : ∀ i, (0 : Int) ≤ i → i < 64 → g (b + i) = K2 i) : SH g b 64 6 52 := SH_lit (by omega) (by decide +kernel) (by decide +kernel) e
theorem kd_upd {g d : Int → Int} {b i v : Int} (h : ∀ k, 0 ≤ k → k < i → g (b + k) = d (0 + k)) (q : v = d i) : ∀ k, 0 ≤ k → k < i + 1 → upd1 g (b + i) v (b + k) = d (0 + k) := by
  intro k a c
  by_cases e : k = i
  · subst e; rw [upd1_s, Int.zero_add]; exact q
  · rw [upd1_o (by omega)]; exact h k a (by omega)
def IP (a : Int) : Prop := ∃ h : Int, 0 ≤ h ∧ p2 h = a
theorem IP_eq {r x : Int} (h : IP x) (h0 : 0 ≤ r) (a : p2 r ≤ x) (b : x < 2 * p2 r) : p2 r = x := by
  obtain ⟨y, h1, e⟩ := h
  exact p2_inj h0 h1 e a b


end
section
/-! 36b.math -/
def lB (s : Int) : Int := if s < 16 then 0 else if s < 20 then 1 else if s < 22 then 2 else if s < 24 then 3 else if s = 24 then 4 else s - 19
def mB (s : Int) : Int := if s < 32 then 0 else if s < 36 then 1 else if s < 38 then 2 else if s < 40 then 3 else if s < 42 then 4 else if s = 42 then 5 else s - 36


end
section
/-! 38.math -/
def DI (formed : Int) (dl dp dor dla : Int → Int) : Prop := formed = 1 → (∃ T, CI dl T) ∧ (∀ t, 0 ≤ t → t < 3 → PS dp dor t) ∧ 1 ≤ dla 0 ∧ 1 ≤ dla 1 ∧ 1 ≤ dla 2
theorem PS_congr {dp dor po or_ : Int → Int} {t : Int} (h : PS dp dor t) (h0 : 0 ≤ t ∧ t < 3) (e : ∀ i, (0 : Int) ≤ i → i < 192 → po i = dp i) (e2 : or_ t = dor t) : PS po or_ t := by
  unfold PS
  rw [e2]
  exact SH_copy h (fun k a b => e _ (by omega) (by omega))
theorem PS_frm {po po' or_ or2 : Int → Int} {s t : Int} (h : PS po or_ s) (h1 : FRM po po' (64 * t) (64 * t + 64)) (h2 : FRM or_ or2 t (t + 1)) (hs : s ≠ t) : PS po' or2 s := by
  unfold PS
  rw [h2 s (by omega)]
  exact SH_copy h (fun k a b => h1 _ (by omega))
theorem PS_ord {po or_ : Int → Int} {t : Int} (h : PS po or_ t) : 5 ≤ or_ t ∧ or_ t ≤ 9 := ⟨h.1, h.2.1⟩
theorem TI_at {sy bi ba : Int → Int} {row o last k idx : Int} (h : TI sy bi ba row o last) (a : 0 ≤ k) (b : k < p2 o) (e : idx = row + k) : 0 ≤ sy idx ∧ sy idx ≤ last ∧ 0 ≤ bi idx ∧ bi idx ≤ o ∧ 0 ≤ ba idx ∧ ba idx + p2 (bi idx) ≤ p2 o := by
  subst e
  exact h k a b
theorem RT_at {sy bi ba or_ : Int → Int} (h : RT sy bi ba or_) {t : Int} (h0 : 0 ≤ t) (h1 : t < 3) (hn : 0 ≤ or_ t) : or_ t ≤ 9 ∧ TI sy bi ba (512 * t) (or_ t) (lastOf t) := by
  rcases h t h0 h1 with q | q
  · omega
  · exact ⟨q.2.1, q.2.2⟩
theorem pt_copy {g h : Int → Int} {i v : Int} (e : ∀ k, 0 ≤ k → k < i → g k = h k) (q : h i = v) : ∀ k, 0 ≤ k → k < i + 1 → upd1 g i v k = h k := pt_upd e q.symm

def PF (g : Int → Int) (a : Int) : Nat → Int
  | 0 => 0
  | k + 1 => PF g a k + nm g (a + 2 * k) (2 : Int).toNat
theorem PF_s {g : Int → Int} {a k kₚ : Int} (h : 0 ≤ k) (e : kₚ = k + 1) : PF g a kₚ.toNat = PF g a k.toNat + nm g (a + 2 * k) (2 : Int).toNat := by
  subst e
  rw [show (k + 1).toNat = k.toNat + 1 by omega]
  show PF g a k.toNat + nm g (a + 2 * ((k.toNat : Nat) : Int)) _ = _
  rw [show ((k.toNat : Nat) : Int) = k by omega]
theorem PF_3 {g : Int → Int} {a : Int} : PF g a (3 : Int).toNat = nm g a (2 : Int).toNat + nm g (a + 2) (2 : Int).toNat + nm g (a + 4) (2 : Int).toNat := by
  show 0 + nm g (a + 2 * ((0 : Nat) : Int)) (2 : Int).toNat + nm g (a + 2 * ((1 : Nat) : Int)) (2 : Int).toNat + nm g (a + 2 * ((2 : Nat) : Int)) (2 : Int).toNat = _
  rw [show a + 2 * ((0 : Nat) : Int) = a by omega, show a + 2 * ((1 : Nat) : Int) = a + 2 by omega, show a + 2 * ((2 : Nat) : Int) = a + 4 by omega]
  omega
theorem PF_le {g : Int → Int} (hB : ∀ i, (0 : Int) ≤ g i ∧ g i ≤ 255) {a : Int} {k : Nat} : ∀ {n : Nat}, 0 ≤ PF g a k ∧ PF g a k ≤ PF g a (k + n)
  | 0 => ⟨by
    induction k with
    | zero => exact Int.le_refl 0
    | succ k ih =>
      have := (nm_b (g := g) (a := a + 2 * k) (k := 2) hB).1
      show 0 ≤ PF g a k + nm g (a + 2 * k) (2 : Int).toNat
      omega, Int.le_refl _⟩
  | n + 1 => by
    have h := PF_le hB (a := a) (k := k) (n := n)
    have := (nm_b (g := g) (a := a + 2 * (k + n : Nat)) (k := 2) hB).1
    refine ⟨h.1, ?_⟩
    show PF g a k ≤ PF g a (k + n) + nm g (a + 2 * ((k + n : Nat) : Int)) (2 : Int).toNat
    omega
theorem PF_le3 {g : Int → Int} (hB : ∀ i, (0 : Int) ≤ g i ∧ g i ≤ 255) {a k : Int} (h0 : 0 ≤ k) (h1 : k ≤ 3) : 0 ≤ PF g a k.toNat ∧ PF g a k.toNat ≤ PF g a (3 : Int).toNat := by
  have := PF_le hB (a := a) (k := k.toNat) (n := (3 - k).toNat)
  rw [show k.toNat + (3 - k).toNat = (3 : Int).toNat by omega] at this
  exact this
theorem mul_le3 {k c : Int} (h0 : 0 ≤ k) (h1 : k ≤ 3) (hc : 0 ≤ c) : 0 ≤ k * c ∧ k * c ≤ 3 * c ∧ (k + 1) * c = k * c + c :=
  ⟨Int.mul_nonneg h0 hc, Int.mul_le_mul_of_nonneg_right h1 hc, by rw [Int.add_mul]; omega⟩


end
section
/-! 48.math -/
def DW (formed : Int) (dl dp dor : Int → Int) : Prop := formed = 1 → (∃ T, CI dl T) ∧ (∀ t, 0 ≤ t → t < 3 → PS dp dor t)
def CX (ce l : Int → Int) : Prop := ∀ s, 0 ≤ s → s < 256 → l s ≠ 0 → ∃ k, 0 ≤ k ∧ k < 2048 ∧ ce k = s
def CP (ce l : Int → Int) (T w s lim : Int) : Prop := ∀ x, 0 ≤ x → x < 256 → l x ≠ 0 → (T + 1 - l x < w ∨ T + 1 - l x = w ∧ x < s) → ∃ k, 0 ≤ k ∧ k < lim ∧ ce k = x
theorem CP_upd {ce l : Int → Int} {T w s lim lim2 v : Int} (h : CP ce l T w s lim) (hl : lim2 = lim + 1) : CP (upd1 ce lim v) l T w s lim2 := by
  subst hl
  intro x a b c d
  obtain ⟨k, k0, k1, k2⟩ := h x a b c d
  exact ⟨k, k0, by omega, by rw [upd1_o (by omega)]; exact k2⟩
theorem CP_s {ce l : Int → Int} {T w s s2 lim : Int} (h : CP ce l T w s lim) (hs : s2 = s + 1) (h0 : 0 ≤ s) (q : l s ≠ 0 → T + 1 - l s = w → ∃ k, 0 ≤ k ∧ k < lim ∧ ce k = s) : CP ce l T w s2 lim := by
  subst hs
  intro x a b c d
  by_cases e : x = s ∧ T + 1 - l x = w
  · obtain ⟨e1, e2⟩ := e
    subst e1
    exact q c e2
  · exact h x a b c (by omega)
theorem CP_w {ce l : Int → Int} {T w w2 lim : Int} (h : CP ce l T w 256 lim) (hw : w2 = w + 1) : CP ce l T w2 0 lim := by
  subst hw
  intro x a b c d
  exact h x a b c (by omega)
theorem CP_0 {ce l : Int → Int} {T : Int} (h : ∀ i, (0 : Int) ≤ i → i < 256 → 0 ≤ l i ∧ l i ≤ T) : CP ce l T 1 0 0 := by
  intro x a b c d
  have := h x a b
  omega
theorem CX_of {ce l : Int → Int} {T w lim : Int} (h : CP ce l T w 0 lim) (hw : T < w) (hl : lim ≤ 2048) (hg : ∀ i, (0 : Int) ≤ i → i < 256 → 0 ≤ l i ∧ l i ≤ T) : CX ce l := by
  intro s a b c
  have := hg s a b
  obtain ⟨k, k0, k1, k2⟩ := h s a b c (by omega)
  exact ⟨k, k0, by omega, k2⟩

def FC (ce : Int → Int) (s p : Int) (m : Nat) : Prop := ∃ j : Nat, j ≤ m ∧ ce (p + j) = s ∧ p + j < 2048
theorem FC_next {ce : Int → Int} {s p p2 : Int} {m : Nat} (h : FC ce s p m) (h0 : ce p ≠ s) (e : p2 = p + 1) : 1 ≤ m ∧ FC ce s p2 (m - 1) := by
  subst e
  obtain ⟨j, hj, hc, hl⟩ := h
  cases j with
  | zero =>
    rw [show p + ((0 : Nat) : Int) = p by omega] at hc
    exact absurd hc h0
  | succ j =>
    refine ⟨by omega, j, by omega, ?_, by omega⟩
    rw [show p + 1 + (j : Int) = p + ((j + 1 : Nat) : Int) by omega]
    exact hc
theorem FC_lt {ce : Int → Int} {s p : Int} {m : Nat} (h : FC ce s p m) : p < 2048 := by
  obtain ⟨j, hj, hc, hl⟩ := h
  omega
theorem FC_ex {ce l : Int → Int} {s : Int} (h : CX ce l) (a : 0 ≤ s) (b : s < 256) (c : l s ≠ 0) : ∃ m : Nat, FC ce s 0 m := by
  obtain ⟨k, k0, k1, k2⟩ := h s a b c
  exact ⟨k.toNat, k.toNat, Nat.le_refl _, by rw [show (0 : Int) + (k.toNat : Int) = k by omega]; exact k2, by omega⟩
def pos1 (x : Int) : Int := if x = 0 then 0 else 1
theorem pos1_eq (x : Int) : x = 0 ∧ pos1 x = 0 ∨ x ≠ 0 ∧ pos1 x = 1 := by
  unfold pos1
  by_cases h : x = 0
  · rw [if_pos h]; omega
  · rw [if_neg h]; omega
theorem su_upd1 {g : Int → Int} (f : Int → Int) {j v : Int} {n : Nat} (h0 : 0 ≤ j) (h1 : j < n) : su (fun i => f (upd1 g j v i)) n = su (fun i => f (g i)) n + (f v - f (g j)) := by
  rw [su_upd (f := fun i => f (g i)) (h := fun i => f (upd1 g j v i)) h0 h1 (fun i _ _ c => by rw [upd1_o c])]
  rw [upd1_s]
theorem su_z {g : Int → Int} (f : Int → Int) (hf : f 0 = 0) {n : Nat} (h : ∀ i, (0 : Int) ≤ i → i < n → g i = 0) : su (fun i => f (g i)) n = 0 := by
  rw [su_congr (h := fun _ => 0) (fun i a b => by rw [h i a b, hf])]
  exact su_zero _
def KK (t i : Int) : Int := if t = 0 then K0 i else if t = 1 then K1 i else K2 i


end
section
/-! 48a.math -/
def DIFF (lit : Int → Int) (n : Int) : Prop := ∃ k, 0 ≤ k ∧ k < n ∧ lit k ≠ lit 0


end
section
/-! 51.math -/
def EXC (ce : Int → Int) (s lim : Int) : Prop := ∃ k, 0 ≤ k ∧ k < lim ∧ ce k = s
theorem EXC_new {ce : Int → Int} {s lim lim2 : Int} (h : 0 ≤ lim) (e : lim2 = lim + 1) : EXC (upd1 ce lim s) s lim2 := ⟨lim, h, by omega, upd1_s⟩
theorem CP_end {ce l : Int → Int} {T w s s2 lim : Int} (h : CP ce l T w s lim) (hs : s2 = s + 1) (h0 : 0 ≤ s) (q : T + 1 - l s = w → EXC ce s lim) : CP ce l T w s2 lim := CP_s h hs h0 (fun _ b => q b)


end
section
/-! 53.math -/
def GF : Nat → Int
  | 0 => 1
  | 1 => 2
  | n + 2 => GF (n + 1) + GF n
theorem GF_pos : ∀ n, 1 ≤ GF n ∧ GF n ≤ GF (n + 1)
  | 0 => by decide
  | 1 => by decide
  | n + 2 => by
    have a := GF_pos n
    have b := GF_pos (n + 1)
    have e : GF (n + 2) = GF (n + 1) + GF n := rfl
    have e2 : GF (n + 2 + 1) = GF (n + 2) + GF (n + 1) := rfl
    omega
theorem GF_mono {a : Nat} : ∀ {b : Nat}, GF a ≤ GF (a + b)
  | 0 => Int.le_refl _
  | b + 1 => Int.le_trans (GF_mono (b := b)) (GF_pos (a + b)).2
theorem GF_le {a b : Nat} (h : a ≤ b) : GF a ≤ GF b := by
  have := GF_mono (a := a) (b := b - a)
  rw [show a + (b - a) = b by omega] at this
  exact this
theorem GF_12 {d : Nat} (h : GF d ≤ 376) : d ≤ 11 := by
  by_cases e : d ≤ 11
  · exact e
  · have := GF_le (show 12 ≤ d by omega)
    have q : GF 12 = 377 := by decide
    omega
def act (kn is_ : Int → Int) : Int → Int := fun k => if 0 < kn k ∧ is_ k < 0 then kn k else 0
def ac1 (kn is_ : Int → Int) : Int → Int := fun k => if 0 < kn k ∧ is_ k < 0 then 1 else 0
theorem act_eq (kn is_ : Int → Int) (k : Int) : 0 < kn k ∧ is_ k < 0 ∧ act kn is_ k = kn k ∧ ac1 kn is_ k = 1 ∨ ¬(0 < kn k ∧ is_ k < 0) ∧ act kn is_ k = 0 ∧ ac1 kn is_ k = 0 := by
  unfold act ac1
  by_cases h : 0 < kn k ∧ is_ k < 0
  · rw [if_pos h, if_pos h]; exact .inl ⟨h.1, h.2, rfl, rfl⟩
  · rw [if_neg h, if_neg h]; exact .inr ⟨h, rfl, rfl⟩
theorem su_one {f : Int → Int} {i : Int} : ∀ {n : Nat}, (∀ i : Int, 0 ≤ f i) → 0 ≤ i → i < n → f i ≤ su f n
  | 0, _, _, _ => by omega
  | n + 1, h, h0, h1 => by
    have e1 : su f (n + 1) = su f n + f n := rfl
    by_cases e : i = n
    · have := su_nonneg (f := f) (n := n) (fun i _ _ => h i)
      rw [e]; omega
    · have := su_one (n := n) h h0 (by omega)
      have := h n
      omega
theorem su_two {f : Int → Int} {i j : Int} : ∀ {n : Nat}, (∀ i : Int, 0 ≤ f i) → 0 ≤ i → i < n → 0 ≤ j → j < n → i ≠ j → f i + f j ≤ su f n
  | 0, _, _, _, _, _, _ => by omega
  | n + 1, h, a, b, c, d, e => by
    have e1 : su f (n + 1) = su f n + f n := rfl
    by_cases e2 : i = n
    · have := su_one (n := n) h c (by omega)
      rw [e2]; omega
    · by_cases e3 : j = n
      · have := su_one (n := n) h a (by omega)
        rw [e3]; omega
      · have := su_two (n := n) h a (by omega) c (by omega) e
        have := h n
        omega
def TQ (kn is_ : Int → Int) (n tot : Int) (H : Int → Nat) (M : Int) : Prop :=
  256 ≤ n ∧
  (∀ k, 0 ≤ k → k < n → 0 < kn k → is_ k < 0 → M ≤ kn k) ∧
  (∀ k, 0 ≤ k → k < n → 0 ≤ is_ k → 0 < kn k ∧ kn k ≤ M ∧ k < is_ k ∧ 256 ≤ is_ k ∧ is_ k < n ∧ H k < H (is_ k)) ∧
  (∀ k, 0 ≤ k → k < n → 0 < kn k → GF (H k) ≤ kn k ∧ kn k ≤ tot) ∧
  (∀ k, 0 ≤ k → k < n → 0 < kn k → 1 ≤ H k → ∃ a, 0 ≤ a ∧ a < n ∧ is_ a = k ∧ H a + 1 = H k) ∧
  su (act kn is_) n.toNat = tot ∧
  n + su (ac1 kn is_) n.toNat ≤ 512 ∧
  (∀ c, 256 ≤ c → c < n → 0 < kn c ∧ ∃ a b, 0 ≤ a ∧ a < n ∧ 0 ≤ b ∧ b < n ∧ a ≠ b ∧ is_ a = c ∧ is_ b = c ∧ ∀ x, 0 ≤ x → x < n → is_ x = c → x = a ∨ x = b) ∧
  (∀ k, 0 ≤ k → k < n → 0 ≤ kn k)
def TR (kn is_ : Int → Int) (n tot : Int) : Prop := ∃ (H : Int → Nat) (M : Int), TQ kn is_ n tot H M
theorem act_nn (kn is_ : Int → Int) (k : Int) : 0 ≤ act kn is_ k := by have := act_eq kn is_ k; omega
theorem ac1_nn (kn is_ : Int → Int) (k : Int) : 0 ≤ ac1 kn is_ k := by have := act_eq kn is_ k; omega
theorem su_ones : ∀ {f : Int → Int} {n : Nat}, (∀ i : Int, f i ≤ 1) → su f n ≤ n
  | f, 0, _ => by show (0 : Int) ≤ 0; omega
  | f, n + 1, h => by
    have := su_ones (f := f) (n := n) h
    have := h n
    show su f n + f n ≤ _
    omega
theorem TR_0 {kn is_ : Int → Int} (h0 : ∀ k, (0 : Int) ≤ k → k < 256 → 0 ≤ kn k) (h1 : ∀ k, (0 : Int) ≤ k → k < 256 → is_ k = -1) : TR kn is_ 256 (su kn 256) := by
  have hs : su (act kn is_) (256 : Int).toNat = su kn 256 := su_congr (fun i a b => by
    have := act_eq kn is_ i
    have := h0 i a (by omega)
    have := h1 i a (by omega)
    omega)
  refine ⟨fun _ => 0, 0, by omega, fun k a b c d => by omega, fun k a b c => by rw [h1 k a b] at c; omega, fun k a b c => ⟨?_, ?_⟩, fun k a b c d => absurd d (by show ¬ (1 ≤ 0); omega), hs, ?_, fun c a b => by omega, h0⟩
  · show (1 : Int) ≤ kn k; omega
  · rw [← hs]
    have e := act_eq kn is_ k
    have e2 := h1 k a b
    have := su_one (f := act kn is_) (n := (256 : Int).toNat) (act_nn kn is_) a (by omega)
    omega
  · have := su_ones (f := ac1 kn is_) (n := (256 : Int).toNat) (fun i => by have := act_eq kn is_ i; omega)
    omega
theorem TR_step {kn is_ : Int → Int} {n tot o t : Int} (h : TR kn is_ n tot) (o0 : 0 ≤ o) (o1 : o < n) (o2 : 0 < kn o) (o3 : is_ o < 0) (t0 : 0 ≤ t) (t1 : t < n) (t2 : 0 < kn t) (t3 : is_ t < 0) (hne : t ≠ o)
    (m1 : ∀ k, 0 ≤ k → k < n → 0 < kn k → is_ k < 0 → kn o ≤ kn k) (m2 : ∀ k, 0 ≤ k → k < n → k ≠ o → 0 < kn k → is_ k < 0 → kn t ≤ kn k) :
    n ≤ 510 ∧ kn o + kn t ≤ tot ∧ TR (upd1 kn n (kn o + kn t)) (upd1 (upd1 (upd1 is_ n (-1)) o n) t n) (n + 1) tot := by
  obtain ⟨H, M, hn, hA, hB, hC, hD, hE, hF, hG, hL⟩ := h
  have ea := act_eq kn is_ o
  have eb := act_eq kn is_ t
  have c2 := su_two (f := ac1 kn is_) (n := n.toNat) (ac1_nn kn is_) o0 (by omega) t0 (by omega) (fun q => hne q.symm)
  have w2 := su_two (f := act kn is_) (n := n.toNat) (act_nn kn is_) o0 (by omega) t0 (by omega) (fun q => hne q.symm)
  have k1 : ∀ k, k ≠ n → upd1 kn n (kn o + kn t) k = kn k := fun k q => upd1_o q
  have k2 : upd1 kn n (kn o + kn t) n = kn o + kn t := upd1_s
  have i0 : upd1 (upd1 (upd1 is_ n (-1)) o n) t n t = n := upd1_s
  have i1 : upd1 (upd1 (upd1 is_ n (-1)) o n) t n o = n := by rw [upd1_o (fun q => hne q.symm), upd1_s]
  have i2 : upd1 (upd1 (upd1 is_ n (-1)) o n) t n n = -1 := by rw [upd1_o (by omega), upd1_o (by omega), upd1_s]
  have i3 : ∀ k, k ≠ n → k ≠ o → k ≠ t → upd1 (upd1 (upd1 is_ n (-1)) o n) t n k = is_ k := fun k a b c => by rw [upd1_o c, upd1_o b, upd1_o a]
  generalize upd1 kn n (kn o + kn t) = kn' at k1 k2 ⊢
  generalize upd1 (upd1 (upd1 is_ n (-1)) o n) t n = is' at i0 i1 i2 i3 ⊢
  refine ⟨by omega, by omega, fun k => if k = n then max (H o) (H t) + 1 else H k, kn t, ?_⟩
  have H1 : ∀ k, k ≠ n → (if k = n then max (H o) (H t) + 1 else H k) = H k := fun k q => if_neg q
  have H2 : (if n = n then max (H o) (H t) + 1 else H n) = max (H o) (H t) + 1 := if_pos rfl
  have ho := hC o o0 o1 o2
  have ht := hC t t0 t1 t2
  have hMt := hA t t0 t1 t2 t3
  have hMo := hA o o0 o1 o2 o3
  have hot := m1 t t0 t1 t2 t3
  refine ⟨by omega, fun k a b c d => ?_, fun k a b c => ?_, fun k a b c => ?_, fun k a b c d => ?_, ?_, ?_, fun c a b => ?_, fun k a b => ?_⟩
  · by_cases e : k = n
    · subst e; omega
    · rw [k1 k e] at c ⊢
      by_cases e1 : k = o
      · subst e1; omega
      · by_cases e2 : k = t
        · subst e2; omega
        · rw [i3 k e e1 e2] at d
          exact m2 k a (by omega) e1 c d
  · by_cases e : k = n
    · subst e; omega
    · rw [k1 k e]
      show _ ∧ _ ∧ _ ∧ _ ∧ _ ∧ (if k = n then max (H o) (H t) + 1 else H k) < (if is' k = n then max (H o) (H t) + 1 else H (is' k))
      rw [H1 k e]
      by_cases e1 : k = o
      · subst e1; rw [i1, if_pos rfl]; exact ⟨o2, hot, o1, hn, by omega, by omega⟩
      · by_cases e2 : k = t
        · subst e2; rw [i0, if_pos rfl]; exact ⟨t2, by omega, t1, hn, by omega, by omega⟩
        · rw [i3 k e e1 e2] at c ⊢
          obtain ⟨q1, q2, q3, q4, q5, q6⟩ := hB k a (by omega) c
          rw [if_neg (by omega)]
          exact ⟨q1, by omega, q3, q4, by omega, q6⟩
  · show GF (if k = n then max (H o) (H t) + 1 else H k) ≤ _ ∧ _
    by_cases e : k = n
    · subst e
      rw [if_pos rfl, k2]
      refine ⟨?_, by omega⟩
      have tall : ∀ c d, 0 ≤ c → c < k → 0 < kn c → is_ c < 0 → 0 < kn d → M ≤ kn d → GF (H c) ≤ kn c → GF (H c + 1) ≤ kn c + kn d := by
        intro c d c0 c1 c2 c3 d2 d3 cg
        by_cases hz : H c = 0
        · rw [hz]; have : GF (0 + 1) = 2 := rfl; omega
        · obtain ⟨a', a0, a1, a2, a3⟩ := hD c c0 c1 c2 (by omega)
          obtain ⟨q1, q2, q3, q4, q5, q6⟩ := hB a' a0 a1 (by omega)
          have g := (hC a' a0 a1 q1).1
          have e3 : GF (H c + 1) = GF (H c) + GF (H a') := by rw [← a3]; rfl
          omega
      by_cases hm : H t ≤ H o
      · rw [Nat.max_eq_left hm]
        exact tall o t o0 o1 o2 o3 t2 hMt ho.1
      · rw [Nat.max_eq_right (by omega)]
        have := tall t o t0 t1 t2 t3 o2 hMo ht.1
        omega
    · rw [if_neg e, k1 k e]
      rw [k1 k e] at c
      exact hC k a (by omega) c
  · have d : 1 ≤ (if k = n then max (H o) (H t) + 1 else H k) := d
    show ∃ a, 0 ≤ a ∧ a < n + 1 ∧ is' a = k ∧ (if a = n then max (H o) (H t) + 1 else H a) + 1 = (if k = n then max (H o) (H t) + 1 else H k)
    by_cases e : k = n
    · subst e
      rw [if_pos rfl]
      by_cases hm : H t ≤ H o
      · exact ⟨o, o0, by omega, i1, by rw [if_neg (by omega), Nat.max_eq_left hm]⟩
      · exact ⟨t, t0, by omega, i0, by rw [if_neg (by omega), Nat.max_eq_right (by omega)]⟩
    · rw [if_neg e] at d ⊢
      rw [k1 k e] at c
      obtain ⟨a', a0, a1, a2, a3⟩ := hD k a (by omega) c d
      exact ⟨a', a0, by omega, by rw [i3 a' (by omega) (fun q => by subst q; omega) (fun q => by subst q; omega)]; exact a2, by rw [if_neg (by omega)]; exact a3⟩
  · rw [show (n + 1).toNat = n.toNat + 1 by omega]
    show su (act kn' is') n.toNat + act kn' is' ((n.toNat : Nat) : Int) = tot
    rw [show ((n.toNat : Nat) : Int) = n by omega]
    have q : su (act kn' is') n.toNat = su (act kn is_) n.toNat + (0 - kn o) + (0 - kn t) := by
      have s1 := su_upd (f := act kn is_) (h := fun k => if k = o then 0 else act kn is_ k) (j := o) (n := n.toNat) o0 (by omega) (fun i _ _ c => by show (if i = o then 0 else act kn is_ i) = _; rw [if_neg c])
      have s2 := su_upd (f := fun k => if k = o then 0 else act kn is_ k) (h := act kn' is') (j := t) (n := n.toNat) t0 (by omega) (fun i a b c => by
        show _ = if i = o then 0 else act kn is_ i
        have x := act_eq kn' is' i
        have y := act_eq kn is_ i
        rw [k1 i (by omega)] at x
        by_cases e : i = o
        · rw [if_pos e]; rw [e] at x ⊢; rw [i1] at x; omega
        · rw [if_neg e]; rw [i3 i (by omega) e c] at x; omega)
      have s3 : act kn' is' t = 0 := by have x := act_eq kn' is' t; rw [i0] at x; omega
      rw [s2, s1, s3]
      show su (act kn is_) n.toNat + ((if o = o then 0 else act kn is_ o) - act kn is_ o) + (0 - (if t = o then 0 else act kn is_ t)) = _
      rw [if_pos rfl, if_neg hne]
      omega
    have x := act_eq kn' is' n
    rw [k2, i2] at x
    omega
  · rw [show (n + 1).toNat = n.toNat + 1 by omega]
    show n + 1 + (su (ac1 kn' is') n.toNat + ac1 kn' is' ((n.toNat : Nat) : Int)) ≤ 512
    rw [show ((n.toNat : Nat) : Int) = n by omega]
    have q : su (ac1 kn' is') n.toNat = su (ac1 kn is_) n.toNat + (0 - 1) + (0 - 1) := by
      have s1 := su_upd (f := ac1 kn is_) (h := fun k => if k = o then 0 else ac1 kn is_ k) (j := o) (n := n.toNat) o0 (by omega) (fun i _ _ c => by show (if i = o then 0 else ac1 kn is_ i) = _; rw [if_neg c])
      have s2 := su_upd (f := fun k => if k = o then 0 else ac1 kn is_ k) (h := ac1 kn' is') (j := t) (n := n.toNat) t0 (by omega) (fun i a b c => by
        show _ = if i = o then 0 else ac1 kn is_ i
        have x := act_eq kn' is' i
        have y := act_eq kn is_ i
        rw [k1 i (by omega)] at x
        by_cases e : i = o
        · rw [if_pos e]; rw [e] at x ⊢; rw [i1] at x; omega
        · rw [if_neg e]; rw [i3 i (by omega) e c] at x; omega)
      have s3 : ac1 kn' is' t = 0 := by have x := act_eq kn' is' t; rw [i0] at x; omega
      rw [s2, s1, s3]
      show su (ac1 kn is_) n.toNat + ((if o = o then 0 else ac1 kn is_ o) - ac1 kn is_ o) + (0 - (if t = o then 0 else ac1 kn is_ t)) = _
      rw [if_pos rfl, if_neg hne]
      omega
    have x := act_eq kn' is' n
    rw [k2, i2] at x
    omega
  · by_cases e : c = n
    · subst e
      refine ⟨by omega, o, t, o0, by omega, t0, by omega, fun q => hne q.symm, i1, i0, fun x x0 x1 x2 => ?_⟩
      by_cases e1 : x = o
      · exact .inl e1
      · by_cases e2 : x = t
        · exact .inr e2
        · by_cases e3 : x = c
          · subst e3; omega
          · rw [i3 x e3 e1 e2] at x2
            have := hB x x0 (by omega) (by omega)
            omega
    · obtain ⟨q, a', b', a0, a1, b0, b1, ab, ia, ib, un⟩ := hG c a (by omega)
      rw [k1 c e]
      refine ⟨q, a', b', a0, by omega, b0, by omega, ab, ?_, ?_, fun x x0 x1 x2 => ?_⟩
      · rw [i3 a' (by omega) (fun q => by subst q; omega) (fun q => by subst q; omega)]; exact ia
      · rw [i3 b' (by omega) (fun q => by subst q; omega) (fun q => by subst q; omega)]; exact ib
      · by_cases e1 : x = o
        · subst e1; omega
        · by_cases e2 : x = t
          · subst e2; omega
          · by_cases e3 : x = n
            · subst e3; omega
            · rw [i3 x e3 e1 e2] at x2
              exact un x x0 (by omega) x2
  · by_cases e : k = n
    · subst e; omega
    · rw [k1 k e]; exact hL k a (by omega)


end
section
/-! 54.math -/
def dpt (is_ : Int → Int) : Nat → Int → Int
  | 0, _ => 0
  | f + 1, k => if is_ k < 0 then 0 else dpt is_ f (is_ k) + 1
def dp (is_ : Int → Int) (k : Int) : Int := dpt is_ 600 k
theorem dpt_fuel {is_ : Int → Int} {n : Int} (hB : ∀ k, 0 ≤ k → k < n → 0 ≤ is_ k → k < is_ k ∧ is_ k < n) : ∀ (f : Nat) (k : Int), 0 ≤ k → k < n → n - k ≤ f → dpt is_ (f + 1) k = dpt is_ f k
  | 0, k, a, b, c => by omega
  | f + 1, k, a, b, c => by
    show (if is_ k < 0 then 0 else dpt is_ (f + 1) (is_ k) + 1) = (if is_ k < 0 then 0 else dpt is_ f (is_ k) + 1)
    by_cases q : is_ k < 0
    · rw [if_pos q, if_pos q]
    · have := hB k a b (by omega)
      rw [if_neg q, if_neg q, dpt_fuel hB f (is_ k) (by omega) (by omega) (by omega)]
theorem dp_s {is_ : Int → Int} {n : Int} (hn : n ≤ 512) (hB : ∀ k, 0 ≤ k → k < n → 0 ≤ is_ k → k < is_ k ∧ is_ k < n) {k : Int} (a : 0 ≤ k) (b : k < n) : is_ k < 0 ∧ dp is_ k = 0 ∨ 0 ≤ is_ k ∧ dp is_ k = dp is_ (is_ k) + 1 := by
  unfold dp
  have e : dpt is_ 600 k = if is_ k < 0 then 0 else dpt is_ 599 (is_ k) + 1 := rfl
  rw [e]
  by_cases q : is_ k < 0
  · rw [if_pos q]; exact .inl ⟨q, rfl⟩
  · have := hB k a b (by omega)
    rw [if_neg q, ← dpt_fuel hB 599 (is_ k) (by omega) (by omega) (by omega)]
    exact .inr ⟨by omega, rfl⟩
theorem dpt_nn {is_ : Int → Int} : ∀ (f : Nat) (k : Int), 0 ≤ dpt is_ f k ∧ dpt is_ f k ≤ f
  | 0, _ => by show (0 : Int) ≤ 0 ∧ (0 : Int) ≤ _; omega
  | f + 1, k => by
    have := dpt_nn (is_ := is_) f (is_ k)
    show 0 ≤ (if is_ k < 0 then 0 else dpt is_ f (is_ k) + 1) ∧ (if is_ k < 0 then 0 else dpt is_ f (is_ k) + 1) ≤ _
    by_cases q : is_ k < 0
    · rw [if_pos q]; omega
    · rw [if_neg q]; omega
theorem dp_nn {is_ : Int → Int} (k : Int) : 0 ≤ dp is_ k ∧ dp is_ k ≤ 600 := by
  have := dpt_nn (is_ := is_) 600 k
  unfold dp
  omega
theorem TQ_B {kn is_ : Int → Int} {n tot : Int} {H : Int → Nat} {M : Int} (h : TQ kn is_ n tot H M) : ∀ k, 0 ≤ k → k < n → 0 ≤ is_ k → k < is_ k ∧ is_ k < n := fun k a b c => by
  have := h.2.2.1 k a b c
  omega
theorem TQ_n {kn is_ : Int → Int} {n tot : Int} {H : Int → Nat} {M : Int} (h : TQ kn is_ n tot H M) : n ≤ 512 := by
  have := h.2.2.2.2.2.2.1
  have := su_nonneg (f := ac1 kn is_) (n := n.toNat) (fun i _ _ => ac1_nn kn is_ i)
  omega
theorem TR_B {kn is_ : Int → Int} {n tot : Int} (h : TR kn is_ n tot) : 256 ≤ n ∧ n ≤ 512 ∧ (∀ k, 0 ≤ k → k < n → 0 ≤ is_ k → k < is_ k ∧ is_ k < n) ∧ (∀ k, 0 ≤ k → k < n → 0 ≤ is_ k → 0 < kn k) := by
  obtain ⟨H, M, h⟩ := h
  exact ⟨h.1, TQ_n h, TQ_B h, fun k a b c => (h.2.2.1 k a b c).1⟩
theorem TQ_dep {kn is_ : Int → Int} {n tot : Int} {H : Int → Nat} {M : Int} (h : TQ kn is_ n tot H M) : ∀ (m : Nat) (k : Int), 0 ≤ k → k < n → n - k ≤ m → 0 < kn k → ∃ r, 0 ≤ r ∧ r < n ∧ 0 < kn r ∧ (H k : Int) + dp is_ k ≤ H r
  | 0, k, a, b, c, _ => by omega
  | m + 1, k, a, b, c, d => by
    rcases dp_s (TQ_n h) (TQ_B h) a b with ⟨q, e⟩ | ⟨q, e⟩
    · exact ⟨k, a, b, d, by omega⟩
    · obtain ⟨_, _, q3, q4, q5, q6⟩ := h.2.2.1 k a b q
      have hk : 0 < kn (is_ k) := (h.2.2.2.2.2.2.2.1 (is_ k) q4 q5).1
      obtain ⟨r, r0, r1, r2, r3⟩ := TQ_dep h m (is_ k) (by omega) q5 (by omega) hk
      exact ⟨r, r0, r1, r2, by omega⟩
theorem TR_dep {kn is_ : Int → Int} {n tot : Int} (h : TR kn is_ n tot) {k : Int} (a : 0 ≤ k) (b : k < n) (c : 0 < kn k) : GF (dp is_ k).toNat ≤ tot := by
  obtain ⟨H, M, h⟩ := h
  obtain ⟨r, r0, r1, r2, r3⟩ := TQ_dep h (n - k).toNat k a b (by omega) c
  have := (h.2.2.2.1 r r0 r1 r2)
  have hd := dp_nn (is_ := is_) k
  have := GF_le (show (dp is_ k).toNat ≤ H r by omega)
  omega

def kf (kn is_ : Int → Int) (T c : Int) : Int → Int := fun x => if 0 < kn x ∧ (is_ x < 0 ∨ c ≤ is_ x) then p2 (T - dp is_ x) else 0
theorem kf_eq (kn is_ : Int → Int) (T c x : Int) : 0 < kn x ∧ (is_ x < 0 ∨ c ≤ is_ x) ∧ kf kn is_ T c x = p2 (T - dp is_ x) ∨ ¬(0 < kn x ∧ (is_ x < 0 ∨ c ≤ is_ x)) ∧ kf kn is_ T c x = 0 := by
  unfold kf
  by_cases h : 0 < kn x ∧ (is_ x < 0 ∨ c ≤ is_ x)
  · rw [if_pos h]; exact .inl ⟨h.1, h.2, rfl⟩
  · rw [if_neg h]; exact .inr ⟨h, rfl⟩
theorem kraft_step {kn is_ : Int → Int} {n tot T c : Int} (h : TR kn is_ n tot) (hT : ∀ k, 0 ≤ k → k < n → 0 < kn k → dp is_ k ≤ T) (c0 : 256 ≤ c) (c1 : c < n) : su (kf kn is_ T (c + 1)) (c + 1).toNat = su (kf kn is_ T c) c.toNat := by
  obtain ⟨H, M, h⟩ := h
  obtain ⟨kc, a, b, a0, a1, b0, b1, ab, ia, ib, un⟩ := h.2.2.2.2.2.2.2.1 c c0 c1
  have Ba := h.2.2.1 a a0 a1 (by omega)
  have Bb := h.2.2.1 b b0 b1 (by omega)
  have dc := dp_s (TQ_n h) (TQ_B h) (k := c) (by omega) c1
  have da := dp_s (TQ_n h) (TQ_B h) (k := a) a0 a1
  have db := dp_s (TQ_n h) (TQ_B h) (k := b) b0 b1
  rw [ia] at da
  rw [ib] at db
  have Ta := hT a a0 a1 Ba.1
  have Tb := hT b b0 b1 Bb.1
  have ps := p2_s (y := T - dp is_ a) (by omega)
  have pe : p2 (T - dp is_ a + 1) = p2 (T - dp is_ c) := by congr 1; omega
  have pb : p2 (T - dp is_ b) = p2 (T - dp is_ a) := by congr 1; omega
  rw [su_s (by omega)]
  have fc := kf_eq kn is_ T (c + 1) c
  have Bc : is_ c < 0 ∨ c + 1 ≤ is_ c := by
    by_cases q : is_ c < 0
    · exact .inl q
    · have := TQ_B h c (by omega) c1 (by omega)
      exact .inr (by omega)
  have s1 := su_upd (f := kf kn is_ T (c + 1)) (h := fun k => if k = a then kf kn is_ T c k else kf kn is_ T (c + 1) k) (j := a) (n := c.toNat) a0 (by omega) (fun i _ _ q => by show (if i = a then kf kn is_ T c i else kf kn is_ T (c + 1) i) = _; rw [if_neg q])
  have s2 := su_upd (f := fun k => if k = a then kf kn is_ T c k else kf kn is_ T (c + 1) k) (h := kf kn is_ T c) (j := b) (n := c.toNat) b0 (by omega) (fun i i0 i1 q => by
    show _ = if i = a then kf kn is_ T c i else kf kn is_ T (c + 1) i
    by_cases e : i = a
    · rw [if_pos e]
    · rw [if_neg e]
      have x := kf_eq kn is_ T c i
      have y := kf_eq kn is_ T (c + 1) i
      have z : is_ i ≠ c := fun w => by rcases un i i0 (by omega) w with v | v <;> omega
      omega)
  have s2' : su (kf kn is_ T c) c.toNat = su (fun k => if k = a then kf kn is_ T c k else kf kn is_ T (c + 1) k) c.toNat + (kf kn is_ T c b - kf kn is_ T (c + 1) b) := by
    rw [s2]
    show _ + (_ - (if b = a then kf kn is_ T c b else kf kn is_ T (c + 1) b)) = _
    rw [if_neg (fun q => ab q.symm)]
  have s1' : su (fun k => if k = a then kf kn is_ T c k else kf kn is_ T (c + 1) k) c.toNat = su (kf kn is_ T (c + 1)) c.toNat + (kf kn is_ T c a - kf kn is_ T (c + 1) a) := by
    rw [s1]
    show _ + ((if a = a then kf kn is_ T c a else kf kn is_ T (c + 1) a) - _) = _
    rw [if_pos rfl]
  have xa := kf_eq kn is_ T c a
  have ya := kf_eq kn is_ T (c + 1) a
  have xb := kf_eq kn is_ T c b
  have yb := kf_eq kn is_ T (c + 1) b
  omega
theorem kraft_all {kn is_ : Int → Int} {n tot T : Int} (h : TR kn is_ n tot) (hT : ∀ k, 0 ≤ k → k < n → 0 < kn k → dp is_ k ≤ T) : ∀ m : Nat, 256 + (m : Int) ≤ n → su (kf kn is_ T (256 + m)) (256 + (m : Int)).toNat = su (kf kn is_ T 256) 256
  | 0, _ => rfl
  | m + 1, q => by
    rw [← kraft_all h hT m (by omega), ← kraft_step h hT (c := 256 + m) (by omega) (by omega)]
    rw [show (256 : Int) + ((m + 1 : Nat) : Int) = 256 + (m : Int) + 1 by omega]
theorem su_only {f : Int → Int} {r : Int} : ∀ {n : Nat}, 0 ≤ r → r < n → (∀ i : Int, 0 ≤ i → i < n → i ≠ r → f i = 0) → su f n = f r
  | 0, _, _, _ => by omega
  | n + 1, a, b, h => by
    have e1 : su f (n + 1) = su f n + f n := rfl
    by_cases e : r = n
    · rw [e1, su_congr (h := fun _ => 0) (fun i a b => h i a (by omega) (by omega)), su_zero, e]; omega
    · rw [e1, su_only (n := n) a (by omega) (fun i x y z => h i x (by omega) z), h n (by omega) (by omega) (fun q => e q.symm)]; omega

theorem TR_CI {kn is_ dr : Int → Int} {n tot T : Int} (h : TR kn is_ n tot) (hn : 256 < n) (hu : ∀ k, 0 ≤ k → k < n → 0 < kn k → is_ k < 0 → k = n - 1) (hd : ∀ k, (0 : Int) ≤ k → k < 256 → dr k = dp is_ k) (hm : ∀ k, (0 : Int) ≤ k → k < 256 → dr k ≤ T) (hx : ∃ k, 0 ≤ k ∧ k < 256 ∧ dr k = T) (hT : T ≤ 11) : CI dr T ∧ ∀ k, (0 : Int) ≤ k → k < 256 → 0 < kn k → 1 ≤ dr k := by
  have B := TR_B h
  have root : is_ (n - 1) < 0 := by
    by_cases q : is_ (n - 1) < 0
    · exact q
    · have := B.2.2.1 (n - 1) (by omega) (by omega) (by omega)
      omega
  have kroot : 0 < kn (n - 1) := by
    obtain ⟨H, M, g⟩ := h
    exact (g.2.2.2.2.2.2.2.1 (n - 1) (by omega) (by omega)).1
  have leaf : ∀ k, (0 : Int) ≤ k → k < 256 → 0 < kn k → 0 ≤ is_ k := fun k a b c => by
    by_cases q : is_ k < 0
    · have := hu k a (by omega) c q
      omega
    · omega
  have one : ∀ k, (0 : Int) ≤ k → k < 256 → 0 < kn k → 1 ≤ dr k := fun k a b c => by
    have := dp_s B.2.1 B.2.2.1 (k := k) a (by omega)
    have := leaf k a b c
    have := dp_nn (is_ := is_) (is_ k)
    rw [hd k a b]
    omega
  have zer : ∀ k, (0 : Int) ≤ k → k < 256 → ¬ 0 < kn k → dr k = 0 := fun k a b c => by
    rw [hd k a b]
    rcases dp_s B.2.1 B.2.2.1 (k := k) a (by omega) with q | q
    · exact q.2
    · have := B.2.2.2 k a (by omega) q.1
      omega
  obtain ⟨x, x0, x1, x2⟩ := hx
  have T0 : 0 ≤ T := by
    have := dp_nn (is_ := is_) x
    have := hd x x0 x1
    omega
  have all : ∀ (m : Nat) (k : Int), 0 ≤ k → k < n → k ≤ m → 0 < kn k → dp is_ k ≤ T := by
    intro m
    induction m with
    | zero =>
      intro k a b c d
      have := hd k a (by omega)
      have := hm k a (by omega)
      omega
    | succ m ih =>
      intro k a b c d
      by_cases q : k < 256
      · have := hd k a q
        have := hm k a q
        omega
      · obtain ⟨H, M, g⟩ := h
        obtain ⟨_, a', b', a0, a1, b0, b1, ab, ia, ib, un⟩ := g.2.2.2.2.2.2.2.1 k (by omega) b
        have Ba := g.2.2.1 a' a0 a1 (by omega)
        have := ih a' a0 a1 (by omega) Ba.1
        have da := dp_s B.2.1 B.2.2.1 (k := a') a0 a1
        rw [ia] at da
        omega
  have hTT : ∀ k, 0 ≤ k → k < n → 0 < kn k → dp is_ k ≤ T := fun k a b c => all k.toNat k a b (by omega) c
  have K := kraft_all h hTT (n - 256).toNat (by omega)
  rw [show (256 : Int) + ((n - 256).toNat : Int) = n by omega] at K
  have top : su (kf kn is_ T n) n.toNat = p2 T := by
    rw [su_only (r := n - 1) (by omega) (by omega) (fun i a b c => by
      have := kf_eq kn is_ T n i
      have b' : i < n := by omega
      have := fun q => B.2.2.1 i a b' q
      have := fun q1 q2 => hu i a b' q1 q2
      omega)]
    have := kf_eq kn is_ T n (n - 1)
    have e : T - dp is_ (n - 1) = T := by
      have := dp_s B.2.1 B.2.2.1 (k := n - 1) (by omega) (by omega)
      omega
    rw [e] at this
    omega
  refine ⟨⟨T0, hT, fun i a b => ⟨by rw [hd i a b]; exact (dp_nn i).1, hm i a b⟩, ?_, x, x0, x1, x2⟩, one⟩
  rw [← top, K]
  refine su_congr (fun i a b => ?_)
  show kr T (dr i) = _
  have k1 := kr_eq T (dr i)
  have k2 := kf_eq kn is_ T 256 i
  have b' : i < 256 := by omega
  by_cases q : 0 < kn i
  · have o := one i a b' q
    have l := leaf i a b' q
    have B3 : 256 ≤ is_ i := by
      obtain ⟨H, M, g⟩ := h
      exact (g.2.2.1 i a (by omega) l).2.2.2.1
    rw [hd i a b'] at k1 o ⊢
    omega
  · have := zer i a b' q
    omega

def LM (kn is_ : Int → Int) (n but r : Int) : Prop := ∀ k, 0 ≤ k → k < n → k ≠ but → 0 < kn k → is_ k < 0 → 0 ≤ r ∧ kn r ≤ kn k
theorem LM_next {kn is_ : Int → Int} {n n2 but b b2 : Int} (h : LM kn is_ n but b) (e : n2 = n + 1) (c1 : n ≠ but → 0 < kn n → is_ n < 0 → 0 ≤ b2 ∧ kn b2 ≤ kn n) (c2 : 0 ≤ b → 0 ≤ b2 ∧ kn b2 ≤ kn b) : LM kn is_ n2 but b2 := by
  subst e
  intro k a b c d f
  by_cases q : k = n
  · subst q; exact c1 c d f
  · have := h k a (by omega) c d f
    have := c2 this.1
    omega
def TWO (h : Int → Int) : Prop := ∃ x y, 0 ≤ x ∧ x < 256 ∧ 0 ≤ y ∧ y < 256 ∧ x ≠ y ∧ 0 < h x ∧ 0 < h y
def EXD (d : Int → Int) (n m : Int) : Prop := ∃ i, 0 ≤ i ∧ i < n ∧ d i = m
theorem share_m {g : Int → Int} {l : Int} (h : ∀ i, (0 : Int) ≤ i → i < l → g (0 + i) = -1) : ∀ i, (0 : Int) ≤ i → i < l + 1 → upd1 g l (-1) (0 + i) = -1 := by
  intro i a b
  by_cases e : i = l
  · subst e; rw [Int.zero_add, upd1_s]
  · rw [upd1_o (by omega)]; exact h i a (by omega)
theorem TR_root {kn is_ : Int → Int} {n tot : Int} (h : TR kn is_ n tot) (hn : 256 < n) : 0 < kn (n - 1) ∧ is_ (n - 1) < 0 := by
  have B := TR_B h
  refine ⟨?_, ?_⟩
  · obtain ⟨H, M, g⟩ := h
    exact (g.2.2.2.2.2.2.2.1 (n - 1) (by omega) (by omega)).1
  · by_cases q : is_ (n - 1) < 0
    · exact q
    · have := B.2.2.1 (n - 1) (by omega) (by omega) (by omega)
      omega
theorem TR_unique {kn is_ : Int → Int} {n tot o t : Int} (h : TR kn is_ n tot) (hn : 256 < n) (l2 : LM kn is_ n o t) (ht : t < 0) : ∀ k, 0 ≤ k → k < n → 0 < kn k → is_ k < 0 → k = n - 1 := by
  have r := TR_root h hn
  intro k a b c d
  by_cases e : k = o
  · by_cases e2 : n - 1 = o
    · omega
    · have := l2 (n - 1) (by omega) (by omega) e2 r.1 r.2
      omega
  · have := l2 k a b e c d
    omega


end
section
/-! 58.math -/
def SE (g : Int → Int) : Prop := (0 ≤ g 0 ∧ g 0 ≤ 3) ∧ (3 ≤ g 1 ∧ g 1 ≤ 8) ∧ (1 ≤ g 2 ∧ g 2 ≤ 65536) ∧ (64 ≤ g 3 ∧ g 3 < 128) ∧ (4 ≤ g 4 ∧ g 4 ≤ 7) ∧ (0 ≤ g 6 ∧ g 6 ≤ 255) ∧ (0 ≤ g 7 ∧ g 7 ≤ 15) ∧ (0 ≤ g 8 ∧ g 8 ≤ 11)
theorem SE_upd {g : Int → Int} {a v : Int} (h : SE g) (h1 : (a = 0 → 0 ≤ v ∧ v ≤ 3) ∧ (a = 1 → 3 ≤ v ∧ v ≤ 8) ∧ (a = 2 → 1 ≤ v ∧ v ≤ 65536) ∧ (a = 3 → 64 ≤ v ∧ v < 128) ∧ (a = 4 → 4 ≤ v ∧ v ≤ 7) ∧ (a = 6 → 0 ≤ v ∧ v ≤ 255) ∧ (a = 7 → 0 ≤ v ∧ v ≤ 15) ∧ (a = 8 → 0 ≤ v ∧ v ≤ 11)) : SE (upd1 g a v) := by
  have q : ∀ i lo hi : Int, (a = i → lo ≤ v ∧ v ≤ hi) → (lo ≤ g i ∧ g i ≤ hi) → lo ≤ upd1 g a v i ∧ upd1 g a v i ≤ hi := by
    intro i lo hi x y
    by_cases e : i = a
    · subst e; rw [upd1_s]; exact x rfl
    · rw [upd1_o e]; exact y
  obtain ⟨a0, a1, a2, a3, a4, a6, a7, a8⟩ := h
  obtain ⟨b0, b1, b2, b3, b4, b6, b7, b8⟩ := h1
  have c3 := q 3 64 127 (fun e => by have := b3 e; omega) (by omega)
  exact ⟨q 0 0 3 b0 a0, q 1 3 8 b1 a1, q 2 1 65536 b2 a2, by omega, q 4 4 7 b4 a4, q 6 0 255 b6 a6, q 7 0 15 b7 a7, q 8 0 11 b8 a8⟩


end
section
/-! 60.math -/
def qs (L : Int) (j : Int) : Int := (j * (p2 L / 2 + p2 L / 8 + 3)) % p2 L
theorem qs_rng {L j : Int} : 0 ≤ qs L j ∧ qs L j < p2 L := by
  have := p2_pos L
  exact ⟨Int.emod_nonneg _ (by omega), Int.emod_lt_of_pos _ (by omega)⟩
theorem qs_s {L j : Int} : qs L (j + 1) = (qs L j + (p2 L / 2 + p2 L / 8 + 3)) % p2 L := by
  unfold qs
  rw [Int.emod_add_emod]
  congr 1
  grind
theorem step_inj {N s t c i j : Int} (hN : 0 < N) (hi : s * t = 1 + N * c) (h0 : 0 ≤ i) (h1 : i < N) (h2 : 0 ≤ j) (h3 : j < N) (e : (i * s) % N = (j * s) % N) : i = j := by
  have d : N ∣ i * s - j * s := Int.dvd_of_emod_eq_zero (by rw [Int.sub_emod, e, Int.sub_self]; rfl)
  obtain ⟨x, hx⟩ := d
  have h : i - j = N * (x * t - (i - j) * c) := by grind
  have h5 : ∀ y : Int, i - j = N * y → y = 0 := by
    intro y hy
    by_cases q : y = 0
    · exact q
    · by_cases q2 : 1 ≤ y
      · have := Int.mul_le_mul_of_nonneg_left q2 (show 0 ≤ N by omega)
        omega
      · have := Int.mul_le_mul_of_nonneg_left (show y ≤ -1 by omega) (show 0 ≤ N by omega)
        omega
  have h6 := h5 _ h
  rw [h6] at h
  omega
theorem qs_inj {L i j : Int} (h : 5 ≤ L ∧ L ≤ 9) (h0 : 0 ≤ i) (h1 : i < p2 L) (h2 : 0 ≤ j) (h3 : j < p2 L) (e : qs L i = qs L j) : i = j := by
  unfold qs at e
  rcases p2_5 h with ⟨_, q⟩ | ⟨_, q⟩ | ⟨_, q⟩ | ⟨_, q⟩ | ⟨_, q⟩ <;> rw [q] at h1 h3 e
  · exact step_inj (s := 23) (t := 7) (c := 5) (by decide) (by decide) h0 h1 h2 h3 e
  · exact step_inj (s := 43) (t := 3) (c := 2) (by decide) (by decide) h0 h1 h2 h3 e
  · exact step_inj (s := 83) (t := 91) (c := 59) (by decide) (by decide) h0 h1 h2 h3 e
  · exact step_inj (s := 163) (t := 11) (c := 7) (by decide) (by decide) h0 h1 h2 h3 e
  · exact step_inj (s := 323) (t := 363) (c := 229) (by decide) (by decide) h0 h1 h2 h3 e
theorem qs_mod {L j : Int} : qs L (j % p2 L) = qs L j := by
  unfold qs
  rw [Int.mul_emod, Int.emod_emod_of_dvd _ (Int.dvd_refl _), ← Int.mul_emod]
theorem qs_sur {L k : Int} (h : 5 ≤ L ∧ L ≤ 9) (h0 : 0 ≤ k) (h1 : k < p2 L) : ∃ j, 0 ≤ j ∧ j < p2 L ∧ qs L j = k := by
  obtain ⟨j, hj⟩ := share_met (p := 0) h h0 h1
  have := p2_pos L
  refine ⟨(j : Int) % p2 L, Int.emod_nonneg _ (by omega), Int.emod_lt_of_pos _ (by omega), ?_⟩
  rw [qs_mod]
  unfold qs
  rw [Int.zero_add] at hj
  exact hj

def fq (L high : Int) : Int → Int := fun j => if qs L j < high then 1 else 0
theorem fq_eq (L high j : Int) : qs L j < high ∧ fq L high j = 1 ∨ high ≤ qs L j ∧ fq L high j = 0 := by
  unfold fq
  by_cases h : qs L j < high
  · rw [if_pos h]; omega
  · rw [if_neg h]; omega
def rk (L high j : Int) : Int := su (fq L high) j.toNat
theorem rkS {L high j : Int} (h : 0 ≤ j) : rk L high (j + 1) = rk L high j + fq L high j := su_s h
theorem rk_skip {L high : Int} {a : Int} (h0 : 0 ≤ a) : ∀ (m : Nat), (∀ j, a ≤ j → j < a + m → high ≤ qs L j) → rk L high (a + m) = rk L high a
  | 0, _ => by rw [show a + ((0 : Nat) : Int) = a by omega]
  | m + 1, h => by
    rw [show a + ((m + 1 : Nat) : Int) = a + (m : Int) + 1 by omega, rkS (by omega), rk_skip h0 m (fun j x y => h j x (by omega))]
    have := fq_eq L high (a + m)
    have := h (a + m) (by omega) (by omega)
    omega
def cum (P : Int → Int) (s : Int) : Int := su (fun i => posi (P i)) s.toNat
def ngs (P : Int → Int) (s : Int) : Int := su (fun i => neg1 (P i)) s.toNat
theorem cum_s {P : Int → Int} {s : Int} (h : 0 ≤ s) : cum P (s + 1) = cum P s + posi (P s) := su_s h
theorem ngs_s {P : Int → Int} {s : Int} (h : 0 ≤ s) : ngs P (s + 1) = ngs P s + neg1 (P s) := su_s h
theorem cum_mono {P : Int → Int} {s t : Int} (h0 : 0 ≤ s) (h : s ≤ t) : cum P s ≤ cum P t := (su_le_all (f := fun i => posi (P i)) h0 h (fun i _ => by have := posi_eq (P i); omega)).2
theorem ngs_mono {P : Int → Int} {s t : Int} (h0 : 0 ≤ s) (h : s ≤ t) : 0 ≤ ngs P s ∧ ngs P s ≤ ngs P t := su_le_all (f := fun i => neg1 (P i)) h0 h (fun i _ => by have := neg1_eq (P i); omega)

theorem cum_uniq {P : Int → Int} {s t c : Int} (s0 : 0 ≤ s) (t0 : 0 ≤ t) (a : cum P s ≤ c) (b : c < cum P (s + 1)) (d : cum P t ≤ c) (e : c < cum P (t + 1)) : s = t := by
  by_cases q : s < t
  · have := cum_mono (P := P) (s := s + 1) (t := t) (by omega) (by omega)
    omega
  · by_cases q2 : t < s
    · have := cum_mono (P := P) (s := t + 1) (t := s) (by omega) (by omega)
      omega
    · omega
theorem ngs_hit {P : Int → Int} : ∀ (n : Nat) (r : Int), 0 ≤ r → r < ngs P n → ∃ s : Int, 0 ≤ s ∧ s < n ∧ P s < 0 ∧ ngs P s = r
  | 0, r, a, b => by
    have : ngs P ((0 : Nat) : Int) = 0 := rfl
    omega
  | n + 1, r, a, b => by
    have e : ngs P ((n + 1 : Nat) : Int) = ngs P n + neg1 (P n) := by
      rw [show ((n + 1 : Nat) : Int) = (n : Int) + 1 by omega, ngs_s (by omega)]
    have g := neg1_eq (P n)
    by_cases q : r < ngs P n
    · obtain ⟨s, s0, s1, s2, s3⟩ := ngs_hit n r a q
      exact ⟨s, s0, by omega, s2, s3⟩
    · exact ⟨n, by omega, by omega, by omega, by omega⟩

def LAID (P : Int → Int) (n L : Int) (sy : Int → Int) : Prop :=
  (∀ s, 0 ≤ s → s < n → P s < 0 → sy (p2 L - 1 - ngs P s) = s) ∧
  (∀ j, 0 ≤ j → j < p2 L → qs L j < p2 L - ngs P n → 0 ≤ sy (qs L j) ∧ sy (qs L j) < n ∧ cum P (sy (qs L j)) ≤ rk L (p2 L - ngs P n) j ∧ rk L (p2 L - ngs P n) j < cum P (sy (qs L j) + 1))
theorem LAID_uniq {P sy sy' : Int → Int} {n L : Int} (hL : 5 ≤ L ∧ L ≤ 9) (hn : 0 ≤ n) (h : LAID P n L sy) (h' : LAID P n L sy') {k : Int} (k0 : 0 ≤ k) (k1 : k < p2 L) : sy k = sy' k := by
  by_cases q : k < p2 L - ngs P n
  · obtain ⟨j, j0, j1, e⟩ := qs_sur hL k0 k1
    have a := h.2 j j0 j1 (by omega)
    have b := h'.2 j j0 j1 (by omega)
    rw [e] at a b
    exact cum_uniq a.1 b.1 a.2.2.1 a.2.2.2 b.2.2.1 b.2.2.2
  · obtain ⟨s, s0, s1, s2, s3⟩ := ngs_hit (P := P) n.toNat (p2 L - 1 - k) (by omega) (by rw [show ((n.toNat : Nat) : Int) = n by omega]; omega)
    have a := h.1 s s0 (by omega) s2
    have b := h'.1 s s0 (by omega) s2
    rw [s3, show p2 L - 1 - (p2 L - 1 - k) = k by omega] at a b
    omega

def VIS (P : Int → Int) (n L : Int) (sy : Int → Int) (J c : Int) : Prop :=
  (∀ s, 0 ≤ s → s < n → P s < 0 → sy (p2 L - 1 - ngs P s) = s) ∧
  (∀ j, 0 ≤ j → j < J → qs L j < p2 L - ngs P n → 0 ≤ sy (qs L j) ∧ sy (qs L j) < n ∧ cum P (sy (qs L j)) ≤ rk L (p2 L - ngs P n) j ∧ rk L (p2 L - ngs P n) j < cum P (sy (qs L j) + 1)) ∧
  (∀ j, J ≤ j → j < p2 L → qs L j < p2 L - ngs P n → sy (qs L j) = -1) ∧
  (∀ k, p2 L - ngs P n ≤ k → k < p2 L → 0 ≤ sy k) ∧
  rk L (p2 L - ngs P n) J = c ∧ 0 ≤ J ∧ J ≤ p2 L

def PT (P : Int → Int) (n L : Int) (sy : Int → Int) (p c : Int) : Prop := ∃ J t, VIS P n L sy J c ∧ J ≤ t + 1 ∧ 0 ≤ t ∧ t < p2 L ∧ p = qs L t ∧ (∀ j, J ≤ j → j < t → p2 L - ngs P n ≤ qs L j)
theorem PT_put {P sy : Int → Int} {n L p c s : Int} (hL : 5 ≤ L ∧ L ≤ 9) (h : PT P n L sy p c) (h0 : sy p < 0) (s0 : 0 ≤ s) (s1 : s < n) (a1 : cum P s ≤ c) (a2 : c < cum P (s + 1)) : PT P n L (upd1 sy p s) p (c + 1) := by
  obtain ⟨J, t, v, a, b, d, f, g⟩ := h
  have hq := qs_rng (L := L) (j := t)
  have free : qs L t < p2 L - ngs P n := by
    by_cases z : qs L t < p2 L - ngs P n
    · exact z
    · have := v.2.2.2.1 (qs L t) (by omega) hq.2
      rw [← f] at this
      omega
  have Jt : J ≤ t := by
    by_cases z : J ≤ t
    · exact z
    · have := (v.2.1 t b (by omega) free).1
      rw [← f] at this
      omega
  have rt : rk L (p2 L - ngs P n) t = c := by
    have := rk_skip (L := L) (high := p2 L - ngs P n) (a := J) v.2.2.2.2.2.1 (t - J).toNat (fun j x y => g j x (by omega))
    rw [show J + ((t - J).toNat : Int) = t by omega, v.2.2.2.2.1] at this
    exact this
  have ne : ∀ j, 0 ≤ j → j < p2 L → j ≠ t → qs L j ≠ p := fun j x y z w => z (qs_inj hL x y b d (by omega))
  have hng := fun x (hx : 0 ≤ x) (hxn : x < n) => ngs_mono (P := P) (s := x + 1) (t := n) (by omega) (by omega)
  refine ⟨t + 1, t, ⟨fun x x0 x1 x2 => ?_, fun j x y z => ?_, fun j x y z => ?_, fun k x y => ?_, ?_, by omega, by omega⟩, by omega, b, d, f, fun j x y => by omega⟩
  · have e1 := hng x x0 x1
    rw [ngs_s x0] at e1
    have e2 := neg1_eq (P x)
    rw [upd1_o (by omega)]
    exact v.1 x x0 x1 x2
  · by_cases w : j = t
    · subst w
      rw [← f, upd1_s, rt]
      exact ⟨s0, s1, a1, a2⟩
    · rw [upd1_o (ne j x (by omega) w)]
      by_cases u : j < J
      · exact v.2.1 j x u z
      · have := g j (by omega) (by omega)
        omega
  · rw [upd1_o (ne j (by omega) y (by omega))]
    exact v.2.2.1 j (by omega) y z
  · rw [upd1_o (by omega)]
    exact v.2.2.2.1 k x y
  · rw [rkS b, rt]
    have := fq_eq L (p2 L - ngs P n) t
    omega
theorem PT_start {P sy : Int → Int} {n L : Int} (hn : 0 ≤ n) (h1 : ∀ s, 0 ≤ s → s < n → P s < 0 → sy (p2 L - 1 - ngs P s) = s) (h2 : ∀ k, 0 ≤ k → k < p2 L - ngs P n → sy k = -1) : PT P n L sy 0 0 := by
  have hp := p2_pos L
  have q0 : qs L 0 = 0 := by unfold qs; rw [Int.zero_mul]; exact Int.zero_emod _
  refine ⟨0, 0, ⟨h1, fun j x y => by omega, fun j x y z => h2 _ qs_rng.1 z, fun k x y => ?_, rfl, by omega, by omega⟩, by omega, by omega, by omega, q0.symm, fun j x y => by omega⟩
  obtain ⟨s, s0, s1, s2, s3⟩ := ngs_hit (P := P) n.toNat (p2 L - 1 - k) (by omega) (by rw [show ((n.toNat : Nat) : Int) = n by omega]; omega)
  have a := h1 s s0 (by omega) s2
  rw [s3, show p2 L - 1 - (p2 L - 1 - k) = k by omega] at a
  omega

theorem rk_all {L high : Int} (hL : 5 ≤ L ∧ L ≤ 9) (h0 : 0 ≤ high) (h1 : high ≤ p2 L) : rk L high (p2 L) = high := by
  have key : ∀ (m : Nat), (m : Int) ≤ p2 L → rk L m (p2 L) = m := by
    intro m
    induction m with
    | zero =>
      intro _
      show su (fq L 0) (p2 L).toNat = 0
      rw [su_congr (h := fun _ => 0) (fun i a b => by have := fq_eq L 0 i; have := qs_rng (L := L) (j := i); omega)]
      exact su_zero _
    | succ m ih =>
      intro hm
      have e := ih (by omega)
      obtain ⟨j, j0, j1, j2⟩ := qs_sur (k := (m : Int)) hL (by omega) (by omega)
      have s := su_upd (f := fq L m) (h := fq L ((m + 1 : Nat) : Int)) (j := j) (n := (p2 L).toNat) j0 (by omega) (fun i a b c => by
        have x := fq_eq L m i
        have y := fq_eq L ((m + 1 : Nat) : Int) i
        have z : qs L i ≠ m := fun w => c (qs_inj hL a (by omega) j0 j1 (by omega))
        omega)
      have x := fq_eq L m j
      have y := fq_eq L ((m + 1 : Nat) : Int) j
      have e' : su (fq L m) (p2 L).toNat = m := e
      show su (fq L ((m + 1 : Nat) : Int)) (p2 L).toNat = _
      omega
  have := key high.toNat (by omega)
  rw [show ((high.toNat : Nat) : Int) = high by omega] at this
  exact this
theorem PT_end {P sy : Int → Int} {n L p : Int} (hL : 5 ≤ L ∧ L ≤ 9) (hn : 0 ≤ ngs P n ∧ ngs P n ≤ p2 L) (h : PT P n L sy p (p2 L - ngs P n)) : LAID P n L sy := by
  obtain ⟨J, t, v, a, b, d, f, g⟩ := h
  refine ⟨v.1, fun j x y z => ?_⟩
  by_cases q : j < J
  · exact v.2.1 j x q z
  · exfalso
    have ra := rk_all (L := L) (high := p2 L - ngs P n) hL (by omega) (by omega)
    have m := su_le_all (f := fq L (p2 L - ngs P n)) (i := j + 1) (n := p2 L) (by omega) (by omega) (fun i _ => by have := fq_eq L (p2 L - ngs P n) i; omega)
    have m2 := su_le_all (f := fq L (p2 L - ngs P n)) (i := J) (n := j) v.2.2.2.2.2.1 (by omega) (fun i _ => by have := fq_eq L (p2 L - ngs P n) i; omega)
    have e := fq_eq L (p2 L - ngs P n) j
    have c := v.2.2.2.2.1
    unfold rk at ra c
    rw [su_s x] at m
    omega

def eqs (sy : Int → Int) (s : Int) : Int → Int := fun k => if sy k = s then 1 else 0
theorem eqs_eq (sy : Int → Int) (s k : Int) : sy k = s ∧ eqs sy s k = 1 ∨ sy k ≠ s ∧ eqs sy s k = 0 := by
  unfold eqs
  by_cases h : sy k = s
  · rw [if_pos h]; exact .inl ⟨h, rfl⟩
  · rw [if_neg h]; exact .inr ⟨h, rfl⟩
def XN (P sy : Int → Int) (k : Int) : Int := mass (P (sy k)) + su (eqs sy (sy k)) k.toNat
theorem su_hit {f : Int → Int} : ∀ {n : Nat} {m : Int}, (∀ i : Int, f i = 0 ∨ f i = 1) → 0 ≤ m → m < su f n → ∃ k : Int, 0 ≤ k ∧ k < n ∧ f k = 1 ∧ su f k.toNat = m
  | 0, m, h, a, b => by
    have : su f 0 = 0 := rfl
    omega
  | n + 1, m, h, a, b => by
    have e : su f (n + 1) = su f n + f n := rfl
    by_cases q : m < su f n
    · obtain ⟨k, k0, k1, k2, k3⟩ := su_hit (n := n) h a q
      exact ⟨k, k0, by omega, k2, k3⟩
    · have := h n
      exact ⟨n, by omega, by omega, by omega, by rw [show ((n : Int)).toNat = n by omega]; omega⟩
def NUM (P : Int → Int) (L : Int) (sy bi ba : Int → Int) (lim : Int) : Prop := ∀ k, 0 ≤ k → k < lim → ∃ r, 0 ≤ r ∧ r ≤ L ∧ p2 r ≤ XN P sy k ∧ XN P sy k < 2 * p2 r ∧ bi k = L - r ∧ ba k = XN P sy k * p2 (L - r) - p2 L
def LD (P : Int → Int) (n L : Int) (sy bi ba : Int → Int) : Prop := LAID P n L sy ∧ (∀ s, 0 ≤ s → s < n → su (eqs sy s) (p2 L).toNat = mass (P s)) ∧ NUM P L sy bi ba (p2 L)
theorem half_ex {w : Int} (hw : 1 ≤ w) : ∀ (m : Nat) (X : Int), w ≤ X → X ≤ m → ∃ b : Nat, w ≤ X / p2 b ∧ X / p2 b < 2 * w
  | 0, X, a, c => by omega
  | m + 1, X, a, c => by
    by_cases q : X < 2 * w
    · exact ⟨0, by rw [show p2 ((0 : Nat) : Int) = 1 from by decide, Int.ediv_one]; exact a, by rw [show p2 ((0 : Nat) : Int) = 1 from by decide, Int.ediv_one]; exact q⟩
    · obtain ⟨b, b1, b2⟩ := half_ex hw m (X / 2) (by omega) (by omega)
      have e : X / p2 ((b + 1 : Nat) : Int) = X / 2 / p2 b := by
        rw [show ((b + 1 : Nat) : Int) = (b : Int) + 1 by omega, p2_s (by omega), Int.ediv_ediv_of_nonneg (by omega)]
      exact ⟨b + 1, by rw [e]; exact b1, by rw [e]; exact b2⟩

theorem lead_ex {P sy bi ba : Int → Int} {n L s state : Int} (h : LD P n L sy bi ba) (hL : 0 ≤ L) (s0 : 0 ≤ s) (s1 : s < n) (hm : 1 ≤ mass (P s)) (hm2 : mass (P s) ≤ p2 L) (t0 : 0 ≤ state) (t1 : state < p2 L) : ∃ k, 0 ≤ k ∧ k < p2 L ∧ sy k = s ∧ ba k ≤ state ∧ state < ba k + p2 (bi k) := by
  obtain ⟨b, b1, b2⟩ := half_ex hm (p2 L + state).toNat (p2 L + state) (by omega) (by omega)
  have c := h.2.1 s s0 s1
  obtain ⟨k, k0, k1, k2, k3⟩ := su_hit (f := eqs sy s) (n := (p2 L).toNat) (m := (p2 L + state) / p2 b - mass (P s)) (fun i => by have := eqs_eq sy s i; omega) (by omega) (by omega)
  have ks : sy k = s := by have := eqs_eq sy s k; omega
  obtain ⟨r, r0, r1, r2, r3, r4, r5⟩ := h.2.2 k k0 (by omega)
  have ex : XN P sy k = (p2 L + state) / p2 b := by
    unfold XN
    rw [ks, k3]
    omega
  rw [ex] at r2 r3 r5
  have hb := p2_pos (b : Int)
  have dm := Int.emod_add_mul_ediv (p2 L + state) (p2 b)
  have d0 := Int.emod_nonneg (p2 L + state) (show p2 (b : Int) ≠ 0 by omega)
  have d1 := Int.emod_lt_of_pos (p2 L + state) (show 0 < p2 (b : Int) by omega)
  have m1 : p2 b * p2 r ≤ p2 b * ((p2 L + state) / p2 b) := Int.mul_le_mul_of_nonneg_left r2 (by omega)
  have m2 : p2 b * ((p2 L + state) / p2 b + 1) ≤ p2 b * (2 * p2 r) := Int.mul_le_mul_of_nonneg_left (by omega) (by omega)
  rw [Int.mul_add, Int.mul_one] at m2
  rw [← p2_add (by omega) r0] at m1
  rw [show p2 b * (2 * p2 r) = 2 * p2 (b + r) by rw [p2_add (by omega) r0]; grind] at m2
  have l1 : (b : Int) + r < L + 1 := p2_lt (by omega) (by rw [p2_s hL]; omega)
  have l2 : L < (b : Int) + r + 1 := p2_lt hL (by rw [p2_s (by omega)]; omega)
  have eb : L - r = b := by omega
  rw [eb] at r4 r5
  refine ⟨k, k0, by omega, ks, ?_, ?_⟩
  · rw [r5, Int.mul_comm]; omega
  · rw [r5, r4, Int.mul_comm]; omega


end
section
/-! 61.math -/
def sh (g : Int → Int) (a : Int) : Int → Int := fun k => g (a + k)
theorem sh_upd {g : Int → Int} {a p v : Int} : sh (upd1 g (a + p) v) a = upd1 (sh g a) p v := by
  funext k
  show upd1 g (a + p) v (a + k) = upd1 (sh g a) p v k
  by_cases e : k = p
  · subst e; rw [upd1_s, upd1_s]
  · rw [upd1_o (by omega), upd1_o e]; rfl
theorem p2_same {r t x : Int} (r0 : 0 ≤ r) (t0 : 0 ≤ t) (a : p2 r ≤ x) (b : x < 2 * p2 r) (c : p2 t ≤ x) (d : x < 2 * p2 t) : r = t := by
  have l1 : r < t + 1 := p2_lt r0 (by rw [p2_s t0]; omega)
  have l2 : t < r + 1 := p2_lt t0 (by rw [p2_s r0]; omega)
  omega
theorem eqs_upd {sy : Int → Int} {p v x : Int} {n : Nat} (h0 : 0 ≤ p) (h1 : p < n) (hs : sy p = -1) (hx : 0 ≤ x) : su (eqs (upd1 sy p v) x) n = su (eqs sy x) n + (if v = x then 1 else 0) := by
  rw [su_upd (f := eqs sy x) (h := eqs (upd1 sy p v) x) h0 h1 (fun i _ _ c => by unfold eqs; rw [upd1_o c])]
  have a := eqs_eq sy x p
  have b := eqs_eq (upd1 sy p v) x p
  rw [upd1_s] at b
  by_cases e : v = x
  · rw [if_pos e]; omega
  · rw [if_neg e]; omega
def dnA (P : Int → Int) (s x : Int) : Int := if x < s ∧ P x < 0 then 1 else 0
def dnB (P : Int → Int) (s k x : Int) : Int := if P x < 0 then 1 else if x < s then P x else if x = s then k else 0
def CA (P : Int → Int) (n L : Int) (sy : Int → Int) (s : Int) : Prop := ∀ x, 0 ≤ x → x < n → su (eqs sy x) (p2 L).toNat = dnA P s x
def CB (P : Int → Int) (n L : Int) (sy : Int → Int) (s k : Int) : Prop := ∀ x, 0 ≤ x → x < n → su (eqs sy x) (p2 L).toNat = dnB P s k x
theorem CA_0 {P sy : Int → Int} {n L : Int} (h : ∀ k, 0 ≤ k → k < p2 L → sy k = -1) : CA P n L sy 0 := by
  intro x x0 x1
  have hp := p2_pos L
  rw [su_congr (h := fun _ => 0) (fun i a b => by have := eqs_eq sy x i; have := h i a (by omega); omega), su_zero]
  unfold dnA
  rw [if_neg (by omega)]
theorem CA_neg {P sy : Int → Int} {n L s s2 p : Int} (h : CA P n L sy s) (e : s2 = s + 1) (hs : P s < 0) (p0 : 0 ≤ p) (p1 : p < p2 L) (hp : sy p = -1) : CA P n L (upd1 sy p s) s2 := by
  subst e
  intro x x0 x1
  have q := p2_pos L
  rw [eqs_upd p0 (by omega) hp x0, h x x0 x1]
  unfold dnA
  by_cases e : s = x
  · subst e; rw [if_pos rfl, if_neg (by omega), if_pos ⟨by omega, hs⟩]; rfl
  · rw [if_neg e]
    by_cases w : x < s ∧ P x < 0
    · rw [if_pos w, if_pos ⟨by omega, w.2⟩]; rfl
    · rw [if_neg w, if_neg (by omega)]; rfl
theorem CA_skip {P sy : Int → Int} {n L s s2 : Int} (h : CA P n L sy s) (e : s2 = s + 1) (hs : 0 ≤ P s) : CA P n L sy s2 := by
  subst e
  intro x x0 x1
  rw [h x x0 x1]
  unfold dnA
  by_cases e : s = x
  · subst e; rw [if_neg (by omega), if_neg (by omega)]
  · by_cases w : x < s ∧ P x < 0
    · rw [if_pos w, if_pos ⟨by omega, w.2⟩]
    · rw [if_neg w, if_neg (by omega)]
theorem CB_0 {P sy : Int → Int} {n L s : Int} (h : CA P n L sy s) (hs : n ≤ s) : CB P n L sy 0 0 := by
  intro x x0 x1
  rw [h x x0 x1]
  unfold dnA dnB
  by_cases w : P x < 0
  · rw [if_pos ⟨by omega, w⟩, if_pos w]
  · rw [if_neg (by omega), if_neg w, if_neg (by omega)]
    by_cases e : x = 0
    · rw [if_pos e]
    · rw [if_neg e]
theorem CB_put {P sy : Int → Int} {n L s k k2 p : Int} (h : CB P n L sy s k) (e : k2 = k + 1) (hs : 0 ≤ P s) (p0 : 0 ≤ p) (p1 : p < p2 L) (hp : sy p = -1) : CB P n L (upd1 sy p s) s k2 := by
  subst e
  intro x x0 x1
  have q := p2_pos L
  rw [eqs_upd p0 (by omega) hp x0, h x x0 x1]
  unfold dnB
  by_cases e : s = x
  · subst e; rw [if_pos rfl, if_neg (by omega), if_neg (by omega), if_pos rfl, if_neg (by omega), if_neg (by omega), if_pos rfl]
  · have e' : x ≠ s := fun q => e q.symm
    simp [e, e']
theorem CB_next {P sy : Int → Int} {n L s s2 k : Int} (h : CB P n L sy s k) (e : s2 = s + 1) (hk : k = posi (P s)) : CB P n L sy s2 0 := by
  subst e
  intro x x0 x1
  rw [h x x0 x1]
  unfold dnB
  have := posi_eq (P s)
  by_cases w : P x < 0
  · rw [if_pos w, if_pos w]
  · rw [if_neg w, if_neg w]
    by_cases e : x = s
    · subst e; rw [if_neg (by omega), if_pos rfl, if_pos (by omega)]; omega
    · by_cases v : x < s
      · rw [if_pos v, if_pos (by omega)]
      · rw [if_neg v, if_neg e, if_neg (by omega)]
        by_cases u : x = s + 1
        · rw [if_pos u]
        · rw [if_neg u]
theorem CB_end {P sy : Int → Int} {n L s k : Int} (h : CB P n L sy s k) (hs : n ≤ s) : ∀ x, 0 ≤ x → x < n → su (eqs sy x) (p2 L).toNat = mass (P x) := by
  intro x x0 x1
  rw [h x x0 x1]
  unfold dnB
  have := mass_eq (P x)
  by_cases w : P x < 0
  · rw [if_pos w]; omega
  · rw [if_neg w, if_pos (by omega)]; omega
def PTI (P : Int → Int) (n L : Int) (sy : Int → Int) (p c t : Int) : Prop := ∃ J, VIS P n L sy J c ∧ J ≤ t + 1 ∧ 0 ≤ t ∧ t < p2 L ∧ p = qs L t ∧ (∀ j, J ≤ j → j < t → p2 L - ngs P n ≤ qs L j)
theorem PTI_of {P sy : Int → Int} {n L p c : Int} (h : PT P n L sy p c) : ∃ m : Nat, PTI P n L sy p c (p2 L - m) := by
  obtain ⟨J, t, v, a, b, d, f, g⟩ := h
  exact ⟨(p2 L - t).toNat, J, by rw [show p2 L - (((p2 L - t).toNat : Nat) : Int) = t by omega]; exact ⟨v, a, b, d, f, g⟩⟩
theorem PTI_PT {P sy : Int → Int} {n L p c t : Int} (h : PTI P n L sy p c t) : PT P n L sy p c := by
  obtain ⟨J, v, a, b, d, f, g⟩ := h
  exact ⟨J, t, v, a, b, d, f, g⟩
theorem PTI_rng {P sy : Int → Int} {n L p c t : Int} (h : PTI P n L sy p c t) : 0 ≤ p ∧ p < p2 L ∧ 0 ≤ t ∧ t < p2 L := by
  obtain ⟨J, v, a, b, d, f, g⟩ := h
  rw [f]
  exact ⟨qs_rng.1, qs_rng.2, b, d⟩
theorem PTI_next {P sy : Int → Int} {n L p pₚ c : Int} {m : Nat} (hL : 5 ≤ L ∧ L ≤ 9) (hn : 0 ≤ ngs P n ∧ ngs P n ≤ p2 L) (h : PTI P n L sy p c (p2 L - m)) (h0 : 0 ≤ sy p) (hc : c < p2 L - ngs P n) (e : pₚ = (p + (p2 L / 2 + p2 L / 8 + 3)) % p2 L) : 1 ≤ m ∧ PTI P n L sy pₚ c (p2 L - (m - 1 : Nat)) := by
  have r := PTI_rng h
  have hr := rk_all (L := L) (high := p2 L - ngs P n) hL (by omega) (by omega)
  obtain ⟨J, v, a, b, d, f, g⟩ := h
  have hp := p2_pos L
  generalize ht : p2 L - (m : Int) = t at *
  have skip : t + 1 < p2 L := by
    by_cases q : t + 1 < p2 L
    · exact q
    · exfalso
      have hg : ∀ j, J ≤ j → j < J + ((p2 L - J).toNat : Int) → p2 L - ngs P n ≤ qs L j := by
        intro j x y
        by_cases w : j < t
        · exact g j x w
        · have : j = t := by omega
          subst this
          by_cases z : qs L j < p2 L - ngs P n
          · have := v.2.2.1 j x d z
            rw [f, this] at h0
            omega
          · omega
      have := rk_skip (L := L) (high := p2 L - ngs P n) (a := J) v.2.2.2.2.2.1 (p2 L - J).toNat hg
      rw [show J + ((p2 L - J).toNat : Int) = p2 L by have := v.2.2.2.2.2.2; omega, hr, v.2.2.2.2.1] at this
      omega
  refine ⟨by omega, ?_⟩
  rw [show p2 L - ((m - 1 : Nat) : Int) = t + 1 by omega]
  refine ⟨J, v, by omega, by omega, skip, by rw [e, f, qs_s], fun j x y => ?_⟩
  by_cases w : j < t
  · exact g j x w
  · have : j = t := by omega
    subst this
    by_cases z : qs L j < p2 L - ngs P n
    · have := v.2.2.1 j x d z
      rw [f, this] at h0
      omega
    · omega

theorem PT_free {P sy : Int → Int} {n L p c : Int} (hL : 5 ≤ L ∧ L ≤ 9) (h : PT P n L sy p c) (h0 : sy p < 0) : sy p = -1 := by
  obtain ⟨J, t, v, a, b, d, f, g⟩ := h
  have hq := qs_rng (L := L) (j := t)
  by_cases z : qs L t < p2 L - ngs P n
  · by_cases w : J ≤ t
    · rw [f]; exact v.2.2.1 t w d z
    · have := (v.2.1 t b (by omega) z).1
      rw [← f] at this
      omega
  · have := v.2.2.2.1 (qs L t) (by omega) hq.2
    rw [← f] at this
    omega
theorem LAID_rng {P sy : Int → Int} {n L : Int} (hL : 5 ≤ L ∧ L ≤ 9) (hn : 0 ≤ n) (h : LAID P n L sy) {k : Int} (k0 : 0 ≤ k) (k1 : k < p2 L) : 0 ≤ sy k ∧ sy k < n ∧ P (sy k) ≠ 0 := by
  by_cases q : k < p2 L - ngs P n
  · obtain ⟨j, j0, j1, e⟩ := qs_sur hL k0 k1
    have a := h.2 j j0 j1 (by omega)
    rw [e] at a
    have c := cum_s (P := P) a.1
    have d := posi_eq (P (sy k))
    exact ⟨a.1, a.2.1, by omega⟩
  · obtain ⟨s, s0, s1, s2, s3⟩ := ngs_hit (P := P) n.toNat (p2 L - 1 - k) (by omega) (by rw [show ((n.toNat : Nat) : Int) = n by omega]; omega)
    have a := h.1 s s0 (by omega) s2
    rw [s3, show p2 L - 1 - (p2 L - 1 - k) = k by omega] at a
    rw [a]
    exact ⟨s0, by omega, by omega⟩
def NB (P : Int → Int) (n : Int) (sy num : Int → Int) (k : Int) : Prop := ∀ s, 0 ≤ s → s < n → num s = mass (P s) + su (eqs sy s) k.toNat
theorem NB_0 {P sy num : Int → Int} {n : Int} (h : ∀ s, 0 ≤ s → s < n → num s = mass (P s)) : NB P n sy num 0 := by
  intro s a b
  rw [h s a b]
  show _ = mass (P s) + 0
  omega
theorem NB_next {P sy num : Int → Int} {n k k2 x : Int} (h : NB P n sy num k) (k0 : 0 ≤ k) (e : k2 = k + 1) (s0 : 0 ≤ sy k) (s1 : sy k < n) (hx : x = num (sy k) + 1) : NB P n sy (upd1 num (sy k) x) k2 := by
  subst e
  intro s a b
  rw [su_s k0]
  have q := eqs_eq sy s k
  have c := h s a b
  by_cases w : s = sy k
  · subst w; rw [upd1_s]; omega
  · rw [upd1_o w]; omega
theorem NB_x {P sy num : Int → Int} {n L k : Int} (h : NB P n sy num k) (hc : ∀ s, 0 ≤ s → s < n → su (eqs sy s) (p2 L).toNat = mass (P s)) (k0 : 0 ≤ k) (k1 : k < p2 L) (s0 : 0 ≤ sy k) (s1 : sy k < n) : num (sy k) = XN P sy k ∧ mass (P (sy k)) ≤ XN P sy k ∧ XN P sy k < 2 * mass (P (sy k)) := by
  have a := h (sy k) s0 s1
  have b := hc (sy k) s0 s1
  have q := eqs_eq sy (sy k) k
  have m := su_le_all (f := eqs sy (sy k)) (i := k + 1) (n := p2 L) (by omega) (by omega) (fun i _ => by have := eqs_eq sy (sy k) i; omega)
  have m2 := su_nonneg (f := eqs sy (sy k)) (n := k.toNat) (fun i _ _ => by have := eqs_eq sy (sy k) i; omega)
  rw [su_s k0] at m
  unfold XN
  exact ⟨a, by omega, by omega⟩
theorem NUM_next {P sy bi ba : Int → Int} {L k k2 r b z : Int} (h : NUM P L sy bi ba k) (e : k2 = k + 1) (r0 : 0 ≤ r) (r1 : r ≤ L) (a1 : p2 r ≤ XN P sy k) (a2 : XN P sy k < 2 * p2 r) (hb : b = L - r) (hz : z = XN P sy k * p2 (L - r) - p2 L) : NUM P L sy (upd1 bi k b) (upd1 ba k z) k2 := by
  subst e
  intro i i0 i1
  by_cases w : i = k
  · subst w
    rw [upd1_s, upd1_s]
    exact ⟨r, r0, r1, a1, a2, hb, hz⟩
  · rw [upd1_o w, upd1_o w]
    exact h i i0 (by omega)


end
section
/-! 63.math -/
def LQ (sy bi ba : Int → Int) (s st k : Int) : Prop := sy k = s ∧ ba k ≤ st ∧ st < ba k + p2 (bi k)
def LEAD (sy bi ba : Int → Int) (L s st r : Int) : Prop := 0 ≤ r ∧ r < p2 L ∧ LQ sy bi ba s st r ∧ ∀ k, 0 ≤ k → k < r → ¬ LQ sy bi ba s st k
def WQ (sy bi : Int → Int) (s must k : Int) : Prop := sy k = s ∧ (must = 1 → bi k ≠ 0)
def LOW (sy bi : Int → Int) (L s must r : Int) : Prop := 0 ≤ r ∧ r < p2 L ∧ WQ sy bi s must r ∧ ∀ k, 0 ≤ k → k < r → ¬ WQ sy bi s must k

def FP (C : Int → Prop) (lim p : Int) (m : Nat) : Prop := ∃ j : Nat, j ≤ m ∧ C (p + j) ∧ p + j < lim
theorem FP_next {C : Int → Prop} {lim p q : Int} {m : Nat} (h : FP C lim p m) (h0 : ¬ C p) (e : q = p + 1) : 1 ≤ m ∧ FP C lim q (m - 1) := by
  subst e
  obtain ⟨j, hj, hc, hl⟩ := h
  cases j with
  | zero =>
    rw [show p + ((0 : Nat) : Int) = p by omega] at hc
    exact absurd hc h0
  | succ j =>
    refine ⟨by omega, j, by omega, ?_, by omega⟩
    rw [show p + 1 + (j : Int) = p + ((j + 1 : Nat) : Int) by omega]
    exact hc
theorem FP_lt {C : Int → Prop} {lim p : Int} {m : Nat} (h : FP C lim p m) : p < lim := by
  obtain ⟨j, hj, hc, hl⟩ := h
  omega
theorem FP_ex {C : Int → Prop} {lim : Int} (h : ∃ k, 0 ≤ k ∧ k < lim ∧ C k) : ∃ m : Nat, FP C lim 0 m := by
  obtain ⟨k, k0, k1, k2⟩ := h
  exact ⟨k.toNat, k.toNat, Nat.le_refl _, by rw [show (0 : Int) + (k.toNat : Int) = k by omega]; exact k2, by omega⟩
theorem low_ex {P sy bi ba : Int → Int} {n L s must : Int} (h : LD P n L sy bi ba) (hL : 0 ≤ L) (s0 : 0 ≤ s) (s1 : s < n) (hm : 1 ≤ mass (P s)) (hm2 : must = 1 → mass (P s) < p2 L) : ∃ k, 0 ≤ k ∧ k < p2 L ∧ WQ sy bi s must k := by
  have c := h.2.1 s s0 s1
  obtain ⟨k, k0, k1, k2, k3⟩ := su_hit (f := eqs sy s) (n := (p2 L).toNat) (m := 0) (fun i => by have := eqs_eq sy s i; omega) (by omega) (by omega)
  have ks : sy k = s := by have := eqs_eq sy s k; omega
  obtain ⟨r, r0, r1, r2, r3, r4, r5⟩ := h.2.2 k k0 (by omega)
  have ex : XN P sy k = mass (P s) := by
    unfold XN
    rw [ks, k3]
    omega
  refine ⟨k, k0, by omega, ks, fun e => ?_⟩
  have := hm2 e
  have : r < L := p2_lt r0 (by omega)
  omega
theorem LEAD_uniq {sy bi ba sy' bi' ba' : Int → Int} {L s st r r' : Int} (h : LEAD sy bi ba L s st r) (h' : LEAD sy' bi' ba' L s st r') (e : ∀ k, 0 ≤ k → k < p2 L → sy k = sy' k ∧ bi k = bi' k ∧ ba k = ba' k) : r = r' := by
  have c : ∀ k, 0 ≤ k → k < p2 L → (LQ sy bi ba s st k ↔ LQ sy' bi' ba' s st k) := by
    intro k a b
    unfold LQ
    rw [(e k a b).1, (e k a b).2.1, (e k a b).2.2]
  by_cases q : r < r'
  · exact absurd ((c r h.1 h.2.1).mp h.2.2.1) (h'.2.2.2 r h.1 q)
  · by_cases q2 : r' < r
    · exact absurd ((c r' h'.1 h'.2.1).mpr h'.2.2.1) (h.2.2.2 r' h'.1 q2)
    · omega
theorem LOW_uniq {sy bi sy' bi' : Int → Int} {L s must r r' : Int} (h : LOW sy bi L s must r) (h' : LOW sy' bi' L s must r') (e : ∀ k, 0 ≤ k → k < p2 L → sy k = sy' k ∧ bi k = bi' k) : r = r' := by
  have c : ∀ k, 0 ≤ k → k < p2 L → (WQ sy bi s must k ↔ WQ sy' bi' s must k) := by
    intro k a b
    unfold WQ
    rw [(e k a b).1, (e k a b).2]
  by_cases q : r < r'
  · exact absurd ((c r h.1 h.2.1).mp h.2.2.1) (h'.2.2.2 r h.1 q)
  · by_cases q2 : r' < r
    · exact absurd ((c r' h'.1 h'.2.1).mpr h'.2.2.1) (h.2.2.2 r' h'.1 q2)
    · omega

theorem LD_uniq {P sy bi ba sy' bi' ba' : Int → Int} {n L : Int} (hL : 5 ≤ L ∧ L ≤ 9) (hn : 0 ≤ n) (h : LD P n L sy bi ba) (h' : LD P n L sy' bi' ba') : ∀ k, 0 ≤ k → k < p2 L → sy k = sy' k ∧ bi k = bi' k ∧ ba k = ba' k := by
  have S : ∀ k, 0 ≤ k → k < p2 L → sy k = sy' k := fun k a b => LAID_uniq hL hn h.1 h'.1 a b
  intro k a b
  have X : XN P sy k = XN P sy' k := by
    unfold XN
    rw [S k a b]
    congr 1
    refine su_congr (fun i x y => ?_)
    unfold eqs
    rw [S i x (by omega)]
  obtain ⟨r, r0, r1, r2, r3, r4, r5⟩ := h.2.2 k a b
  obtain ⟨t, t0, t1, t2, t3, t4, t5⟩ := h'.2.2 k a b
  rw [X] at r2 r3 r5
  have e := p2_same r0 t0 r2 r3 t2 t3
  subst e
  exact ⟨S k a b, by omega, by omega⟩
def CHN (sy bi ba : Int → Int) (L : Int) (row : Int → Int) (n : Int) : Nat → Int → Int → Prop
  | 0, st, c => LOW sy bi L (row (n - 1)) 0 st ∧ c = L
  | d + 1, st, c => ∃ st' cₚ, CHN sy bi ba L row n d st' cₚ ∧ LEAD sy bi ba L (row (n - 2 - d)) st' st ∧ c = cₚ + bi st
theorem CHN_uniq {sy bi ba sy' bi' ba' : Int → Int} {L : Int} {row : Int → Int} {n : Int} (e : ∀ k, 0 ≤ k → k < p2 L → sy k = sy' k ∧ bi k = bi' k ∧ ba k = ba' k) : ∀ {d : Nat} {st c st' cₚ : Int}, CHN sy bi ba L row n d st c → CHN sy' bi' ba' L row n d st' cₚ → st = st' ∧ c = cₚ
  | 0, st, c, st', cₚ, h, h' => ⟨LOW_uniq h.1 h'.1 (fun k a b => ⟨(e k a b).1, (e k a b).2.1⟩), by rw [h.2, h'.2]⟩
  | d + 1, st, c, st', cₚ, h, h' => by
    obtain ⟨x, y, q1, q2, q3⟩ := h
    obtain ⟨x', y', w1, w2, w3⟩ := h'
    obtain ⟨e1, e2⟩ := CHN_uniq e q1 w1
    subst e1 e2
    have := LEAD_uniq q2 w2 e
    subst this
    rw [q3, w3, (e st q2.1 q2.2.1).2.1]
    exact ⟨rfl, rfl⟩

def COST (P : Int → Int) (L : Int) (row : Int → Int) (n c : Int) : Prop := ∃ sy bi ba st, LD P 64 L sy bi ba ∧ CHN sy bi ba L row n (n - 1).toNat st c
theorem COST_uniq {P : Int → Int} {L : Int} {row : Int → Int} {n c cₚ : Int} (hL : 5 ≤ L ∧ L ≤ 9) (h : COST P L row n c) (h' : COST P L row n cₚ) : c = cₚ := by
  obtain ⟨sy, bi, ba, st, d1, d2⟩ := h
  obtain ⟨sy', bi', ba', st', d3, d4⟩ := h'
  exact (CHN_uniq (LD_uniq hL (by omega) d1 d3) d2 d4).2
theorem CHN_s {sy bi ba : Int → Int} {L : Int} {row : Int → Int} {n d d2 i st c st2 c2 : Int} (h : CHN sy bi ba L row n d.toNat st c) (h0 : 0 ≤ d) (e : d2 = d + 1) (hi : i = n - 2 - d) (hl : LEAD sy bi ba L (row i) st st2) (hc : c2 = c + bi st2) : CHN sy bi ba L row n d2.toNat st2 c2 := by
  subst e
  rw [show (d + 1).toNat = d.toNat + 1 by omega]
  exact ⟨st, c, h, by rw [show n - 2 - ((d.toNat : Nat) : Int) = i by omega]; exact hl, hc⟩


end
section
/-! 66.math -/
def DVI (co tr : Int → Int) (n : Int) : Prop := ∀ s, 0 ≤ s → s < n → co s = 0 ∧ tr s = 0 ∨ 1 ≤ co s ∧ (tr s = -1 ∨ 1 ≤ tr s)
def DVJ (co tr : Int → Int) (n all p : Int) : Prop := ∀ s, 0 ≤ s → s < n → tr s ≤ 0 → co s * p ≤ (all - 1) * pos1 (co s)
def EXP (tr : Int → Int) : Prop := ∃ s, 0 ≤ s ∧ s < 64 ∧ 0 < tr s
def FREE (tr hd : Int → Int) (n : Int) : Prop := ∃ s, 0 ≤ s ∧ s < n ∧ 0 < tr s ∧ hd s = 0
theorem DV1 {v n p : Int} (h0 : 0 ≤ v) (h1 : v ≤ n) (hn : 1 ≤ n) (hp : 1 ≤ p) : (v = 0 → v * p = 0) ∧ (v ≠ 0 → v * p ≠ 0) ∧ 0 ≤ v * p ∧ v * p ≤ n * p ∧ (n ≤ v * p → 1 ≤ v * p / n) ∧ 0 ≤ v * p / n ∧ v * p / n ≤ p := by
  have a : 0 ≤ v * p := Int.mul_nonneg h0 (by omega)
  have b : v * p ≤ n * p := Int.mul_le_mul_of_nonneg_right h1 (by omega)
  have c : v * 1 ≤ v * p := Int.mul_le_mul_of_nonneg_left hp h0
  refine ⟨fun e => by rw [e]; omega, fun e => by omega, a, b, fun e => ?_, Int.ediv_nonneg a (by omega), ?_⟩
  · exact Int.le_ediv_of_mul_le (by omega) (by omega)
  · have : v * p / n ≤ n * p / n := Int.ediv_le_ediv (by omega) b
    rw [Int.mul_ediv_cancel_left _ (by omega)] at this
    exact this
theorem su_mul {f : Int → Int} {p : Int} : ∀ {n : Nat}, su (fun i => f i * p) n = su f n * p
  | 0 => by show (0 : Int) = 0 * p; omega
  | n + 1 => by
    show su (fun i => f i * p) n + f n * p = (su f n + f n) * p
    rw [su_mul, Int.add_mul]
theorem su_mull {f : Int → Int} {p : Int} {n : Nat} : su (fun i => p * f i) n = p * su f n := by
  rw [su_congr (h := fun i => f i * p) (fun i _ _ => Int.mul_comm _ _), su_mul, Int.mul_comm]

theorem EXP_of {co tr : Int → Int} {all p : Int} (hj : DVJ co tr 64 all p) (hs : su (fun i => co i) 64 = all) (hd : su (fun i => pos1 (co i)) 64 ≤ p) (ha : 1 ≤ all) (hp : 1 ≤ p) : EXP tr := by
  by_cases q : EXP tr
  · exact q
  · exfalso
    have h : ∀ s, (0 : Int) ≤ s → s < 64 → tr s ≤ 0 := fun s a b => by
      by_cases w : tr s ≤ 0
      · exact w
      · exact absurd ⟨s, a, b, by omega⟩ q
    have l : su (fun i => co i * p) 64 ≤ su (fun i => (all - 1) * pos1 (co i)) 64 := su_le (fun i a b => hj i a (by omega) (h i a (by omega)))
    rw [su_mul (f := fun i => co i), su_mull (f := fun i => pos1 (co i)), hs] at l
    have m : (all - 1) * su (fun i => pos1 (co i)) 64 ≤ (all - 1) * p := Int.mul_le_mul_of_nonneg_left hd (by omega)
    have e : (all - 1) * p = all * p - p := by rw [Int.sub_mul, Int.one_mul]
    omega
theorem DVI_inc {co tr : Int → Int} {n s v : Int} (h : DVI co tr n) (hs : 0 < tr s) (hv : v = tr s + 1) : DVI co (upd1 tr s v) n := by
  intro x a b
  by_cases e : x = s
  · subst e; rw [upd1_s]; have := h x a b; omega
  · rw [upd1_o e]; exact h x a b
theorem DVI_dec {co tr : Int → Int} {n s v : Int} (h : DVI co tr n) (hs : 2 ≤ tr s) (hv : v = tr s - 1) : DVI co (upd1 tr s v) n := by
  intro x a b
  by_cases e : x = s
  · subst e; rw [upd1_s]; have := h x a b; omega
  · rw [upd1_o e]; exact h x a b
theorem EXP_inc {tr : Int → Int} {s v : Int} (h : EXP tr) (hs : 0 < tr s) (hv : v = tr s + 1) : EXP (upd1 tr s v) := by
  obtain ⟨x, a, b, c⟩ := h
  refine ⟨x, a, b, ?_⟩
  by_cases e : x = s
  · subst e; rw [upd1_s]; omega
  · rw [upd1_o e]; exact c
theorem mass_upd {g : Int → Int} {j v : Int} {n : Nat} (h0 : 0 ≤ j) (h1 : j < n) : su (fun i => mass (upd1 g j v i)) n = su (fun i => mass (g i)) n + (mass v - mass (g j)) := su_upd1 mass h0 h1

theorem two_ex {co tr : Int → Int} {p : Int} (h : DVI co tr 64) (hd : su (fun i => pos1 (co i)) 64 ≤ p) (hs : p < su (fun i => mass (tr i)) 64) : ∃ s, 0 ≤ s ∧ s < 64 ∧ 2 ≤ tr s := by
  by_cases q : ∃ s, 0 ≤ s ∧ s < 64 ∧ 2 ≤ tr s
  · exact q
  · exfalso
    have l : su (fun i => mass (tr i)) 64 ≤ su (fun i => pos1 (co i)) 64 := su_le (fun i a b => by
      have w : tr i < 2 := by
        by_cases w : tr i < 2
        · exact w
        · exact absurd ⟨i, a, by omega, by omega⟩ q
      have := h i a (by omega)
      have := mass_eq (tr i)
      have := pos1_eq (co i)
      omega)
    omega
theorem SH_div {co tr : Int → Int} {o last : Int} (ho : 5 ≤ o ∧ o ≤ 9) (h : DVI co tr 64) (hs : su (fun i => mass (tr i)) 64 = p2 o) (hl : ∀ i, last < i → i < 64 → 0 ≤ i → co i = 0) : SH tr 0 64 o last := by
  refine ⟨ho.1, ho.2, fun i a b => ?_, fun i a b c => ?_, ?_⟩
  · rw [Int.zero_add]; have := h i a b; omega
  · rw [Int.zero_add]; have := h i c b; have := hl i a b c; omega
  · rw [← hs]
    exact su_congr (fun i _ _ => by rw [Int.zero_add])
def TRU (_ : Int → Int) : Prop := True


end
section
/-! 68.math -/
def mp (P : Int → Int) (s : Int) : Int := su (fun i => mass (P i)) s.toNat
theorem mp_s {P : Int → Int} {s : Int} (h : 0 ≤ s) : mp P (s + 1) = mp P s + mass (P s) := su_s h
theorem mp_le {P : Int → Int} {s t : Int} (h0 : 0 ≤ s) (h : s ≤ t) : 0 ≤ mp P s ∧ mp P s ≤ mp P t := su_le_all (f := fun i => mass (P i)) h0 h (fun i _ => by have := mass_eq (P i); omega)
theorem mp_SH {g : Int → Int} {a o l : Int} (h : SH g a 64 o l) : mp (sh g a) 64 = p2 o := h.2.2.2.2
theorem mp_zero {P : Int → Int} {s : Int} (h0 : 0 ≤ s) : ∀ (z : Nat), (∀ j, s ≤ j → j < s + z → P j = 0) → mp P (s + z) = mp P s
  | 0, _ => by rw [show s + ((0 : Nat) : Int) = s by omega]
  | z + 1, h => by
    rw [show s + ((z + 1 : Nat) : Int) = s + (z : Int) + 1 by omega, mp_s (by omega), mp_zero h0 z (fun j a b => h j a (by omega)), h (s + z) (by omega) (by omega)]
    have : mass 0 = 0 := by decide
    omega
theorem mp_zeroI {P : Int → Int} {s z t : Int} (h0 : 0 ≤ s) (hz : 0 ≤ z) (h : ∀ j, s ≤ j → j < s + z → P j = 0) (e : t = s + z) : mp P t = mp P s := by
  have := mp_zero h0 z.toNat (fun j a b => h j a (by omega))
  rw [show s + ((z.toNat : Nat) : Int) = t by omega] at this
  exact this
theorem nz_ex {P : Int → Int} {s : Int} (h0 : 0 ≤ s) (h1 : s ≤ 64) (h : mp P s < mp P 64) : ∃ k, 0 ≤ k ∧ k < 64 - s ∧ P (s + k) ≠ 0 := by
  by_cases q : ∃ k, 0 ≤ k ∧ k < 64 - s ∧ P (s + k) ≠ 0
  · exact q
  · exfalso
    have := mp_zeroI (P := P) (s := s) (z := 64 - s) (t := 64) h0 (by omega) (fun j a b => by
      by_cases w : P j = 0
      · exact w
      · exact absurd ⟨j - s, by omega, by omega, by rw [show s + (j - s) = j by omega]; exact w⟩ q) (by omega)
    omega


end
section
/-! 78.math -/
theorem su_eqs0 {sy : Int → Int} {s : Int} : ∀ {n : Nat}, (∀ k, (0 : Int) ≤ k → k < n → sy k ≠ s) → su (eqs sy s) n = 0
  | 0, _ => rfl
  | n + 1, h => by
    have e : su (eqs sy s) (n + 1) = su (eqs sy s) n + eqs sy s n := rfl
    have a := su_eqs0 (n := n) (fun k a b => h k a (by omega))
    have b := h n (by omega) (by omega)
    have c := eqs_eq sy s n
    omega
theorem su_pos64 {g : Int → Int} : su (fun i => pos1 (g i)) 64 ≤ 64 := by
  have a : su (fun i => pos1 (g i)) 64 ≤ su (fun _ => 1) 64 := su_le (fun i _ _ => by have := pos1_eq (g i); omega)
  have b : su (fun _ => (1 : Int)) 64 = 64 := by decide
  omega


end
section
/-! B2.math -/
def NBY (n r : Int) : Prop := n ≤ 7 → 0 ≤ r ∧ r < p2 (8 * n)
theorem p2_8s {k : Int} (h : 0 ≤ k) : p2 (8 * (k + 1)) = 256 * p2 (8 * k) := by
  rw [show 8 * (k + 1) = 8 * k + 1 + 1 + 1 + 1 + 1 + 1 + 1 + 1 by omega]
  rw [p2_s (by omega), p2_s (by omega), p2_s (by omega), p2_s (by omega), p2_s (by omega), p2_s (by omega), p2_s (by omega), p2_s (by omega)]
  omega
theorem nb2 {r : Int} (h : NBY 2 r) : 0 ≤ r ∧ r ≤ 65535 := by have := h (by omega); rw [show p2 (8 * 2) = 65536 from by decide] at this; omega
theorem nb3 {r : Int} (h : NBY 3 r) : 0 ≤ r ∧ r ≤ 16777215 := by have := h (by omega); rw [show p2 (8 * 3) = 16777216 from by decide] at this; omega
theorem nb4 {r : Int} (h : NBY 4 r) : 0 ≤ r ∧ r ≤ 4294967295 := by have := h (by omega); rw [show p2 (8 * 4) = 4294967296 from by decide] at this; omega
theorem NBY_0 {n : Int} (h : n ≤ 0) : NBY 0 0 := fun _ => ⟨by omega, by decide⟩
theorem NBY_step {k r z : Int} (h : NBY k r) (hk : 0 ≤ k) (hz : k + 1 ≤ 7 → 0 ≤ r → r < p2 (8 * k) → 0 ≤ z ∧ z ≤ 256 * r + 255) : NBY (k + 1) z := fun q => by
  have w := h (by omega)
  have e := hz q w.1 w.2
  rw [p2_8s hk]
  omega


end
section
/-! C1.math -/
def FDI (li le di : Int → Int) (n tot l : Int) : Prop := (∀ j, 0 ≤ j → j < n → 0 ≤ li j ∧ l ≤ le j ∧ 1 ≤ di j ∧ di j ≤ 16384) ∧ su (fun j => li j + le j) n.toNat = tot
theorem FDI_0 {li le di : Int → Int} {l : Int} : FDI li le di 0 0 l := ⟨fun j a b => absurd b (by omega), rfl⟩
theorem FDI_congr {li le di li' le' di' : Int → Int} {n tot l m1 m2 m3 : Int} (h : FDI li le di n tot l) (e1 : ∀ i, 0 ≤ i → i < m1 → li' i = li i) (e2 : ∀ i, 0 ≤ i → i < m2 → le' i = le i) (e3 : ∀ i, 0 ≤ i → i < m3 → di' i = di i) (h1 : n ≤ m1 ∧ n ≤ m2 ∧ n ≤ m3) (h0 : 0 ≤ n) : FDI li' le' di' n tot l := by
  refine ⟨fun j a b => ?_, ?_⟩
  · rw [e1 j a (by omega), e2 j a (by omega), e3 j a (by omega)]; exact h.1 j a b
  · rw [← h.2]; exact su_congr (fun i a b => by rw [e1 i a (by omega), e2 i a (by omega)])
theorem FDI_next {li le di : Int → Int} {n n2 tot tot2 l a b d : Int} (h : FDI li le di n tot l) (h0 : 0 ≤ n) (e : n2 = n + 1) (ha : 0 ≤ a) (hb : l ≤ b) (hd : 1 ≤ d ∧ d ≤ 16384) (et : tot2 = tot + a + b) : FDI (upd1 li n a) (upd1 le n b) (upd1 di n d) n2 tot2 l := by
  subst e et
  refine ⟨fun j x y => ?_, ?_⟩
  · by_cases q : j = n
    · rw [q, upd1_s, upd1_s, upd1_s]; exact ⟨ha, hb, hd.1, hd.2⟩
    · rw [upd1_o q, upd1_o q, upd1_o q]; exact h.1 j x (by omega)
  · rw [su_s h0, upd1_s, upd1_s, su_congr (h := fun j => li j + le j) (fun i x y => by rw [upd1_o (by omega), upd1_o (by omega)]), h.2]
    omega

def lgq (n : Int) : Int := if n = 0 ∨ n = 64 ∨ n = 256 ∨ n = 1024 ∨ n = 4096 ∨ n = 16384 then 0 else 1
theorem lgq_i {n : Int} (h : lgq n = 0) : n = 0 ∨ n = 64 ∨ n = 256 ∨ n = 1024 ∨ n = 4096 ∨ n = 16384 := by
  unfold lgq at h
  by_cases w : n = 0 ∨ n = 64 ∨ n = 256 ∨ n = 1024 ∨ n = 4096 ∨ n = 16384
  · exact w
  · rw [if_neg w] at h; omega
theorem lgq_of {n : Int} (h : n = 0 ∨ n = 64 ∨ n = 256 ∨ n = 1024 ∨ n = 4096 ∨ n = 16384) : lgq n = 0 := by
  unfold lgq
  rw [if_pos h]
theorem lgq_s {m z : Int} (h : lgq m = 0) (h1 : m ≤ 16383) (hz : z = 64 ∧ 4 * m ≤ 64 ∨ z = 4 * m ∧ 64 ≤ 4 * m) : lgq z = 0 := by
  have := lgq_i h
  exact lgq_of (by omega)


end
section
/-! C5.math -/
theorem p2_plus {a b : Int} (ha : 0 ≤ a) (hb : 0 ≤ b) : p2 a * p2 b = p2 (a + b) := by
  unfold p2
  rw [show (a + b).toNat = a.toNat + b.toNat by omega, Int.pow_add]
theorem peek_ok {z n b : Int} (h0 : 0 ≤ z) (h1 : z ≤ p2 b - 1) (hb : 0 ≤ b) (hn : b ≤ n) : 0 ≤ z * p2 (n - b) ∧ z * p2 (n - b) < p2 n := by
  have e := p2_plus (a := b) (b := n - b) hb (by omega)
  rw [show b + (n - b) = n by omega] at e
  have p := p2_pos (n - b)
  have w : z * p2 (n - b) ≤ (p2 b - 1) * p2 (n - b) := Int.mul_le_mul_of_nonneg_right h1 (by omega)
  rw [Int.sub_mul, e, Int.one_mul] at w
  exact ⟨Int.mul_nonneg h0 (by omega), by omega⟩


end
section
/-! D0.math -/
theorem FDI_part {li le di : Int → Int} {n tot l i : Int} (h : FDI li le di n tot l) (hl : 0 ≤ l) (i0 : 0 ≤ i) (i1 : i < n) : 0 ≤ su (fun j => li j + le j) i.toNat ∧ su (fun j => li j + le j) (i + 1).toNat = su (fun j => li j + le j) i.toNat + (li i + le i) ∧ su (fun j => li j + le j) i.toNat + (li i + le i) ≤ tot := by
  have a : ∀ m : Nat, (m : Int) ≤ n → 0 ≤ su (fun j => li j + le j) m := fun m hm => su_nonneg (fun j x y => by have := h.1 j x (by omega); omega)
  have s := su_s (f := fun j => li j + le j) (i := i) i0
  have b : ∀ k : Nat, i + 1 + k ≤ n → su (fun j => li j + le j) (i + 1).toNat ≤ su (fun j => li j + le j) ((i + 1).toNat + k) := fun k => by
    induction k with
    | zero => intro _; exact Int.le_refl _
    | succ k ih =>
      intro hk
      have w := ih (by omega)
      have q := h.1 (((i + 1).toNat + k : Nat) : Int) (by omega) (by omega)
      show _ ≤ su (fun j => li j + le j) ((i + 1).toNat + k) + (li (((i + 1).toNat + k : Nat) : Int) + le (((i + 1).toNat + k : Nat) : Int))
      omega
  have w := b (n - (i + 1)).toNat (by omega)
  rw [show (i + 1).toNat + (n - (i + 1)).toNat = n.toNat by omega, h.2] at w
  exact ⟨a i.toNat (by omega), s, by omega⟩
theorem NBY_up {n m r : Int} (h : NBY n r) (h1 : n ≤ m) (h0 : 0 ≤ n) : NBY m r := fun q => by
  have w := h (by omega)
  have := p2_mono (x := 8 * n) (y := 8 * m) (by omega)
  exact ⟨w.1, by omega⟩


end
section
/-! F0.math -/
def SRT (am : Int → Int) (a b : Int) : Prop := ∀ i j, a ≤ i → i ≤ j → j < b → am i ≤ am j
def SA2 (f : Int → Int) (a b : Int) : Int := su (fun i => f (a + i)) (b - a).toNat
theorem su_head {g : Int → Int} : ∀ {n : Nat}, su g (n + 1) = g 0 + su (fun i => g (i + 1)) n
  | 0 => by
    show su g 0 + g ((0 : Nat) : Int) = g 0 + 0
    have : su g 0 = 0 := rfl
    have e : g ((0 : Nat) : Int) = g 0 := rfl
    omega
  | n + 1 => by
    show su g (n + 1) + g ((n + 1 : Nat) : Int) = g 0 + (su (fun i => g (i + 1)) n + g ((n : Int) + 1))
    rw [su_head, show ((n + 1 : Nat) : Int) = (n : Int) + 1 by omega]
    omega
theorem SA2_head {f : Int → Int} {a b : Int} (h : a < b) : SA2 f a b = f a + SA2 f (a + 1) b := by
  unfold SA2
  rw [show (b - a).toNat = (b - (a + 1)).toNat + 1 by omega, su_head, Int.add_zero]
  congr 1
  exact su_congr (fun i _ _ => by congr 1; omega)
theorem SA2_last {f : Int → Int} {a b : Int} (h : a ≤ b) : SA2 f a (b + 1) = SA2 f a b + f b := by
  unfold SA2
  rw [show (b + 1 - a).toNat = (b - a).toNat + 1 by omega]
  show su _ (b - a).toNat + f (a + ((b - a).toNat : Int)) = _
  rw [show a + (((b - a).toNat : Nat) : Int) = b by omega]
theorem SA2_nil {f : Int → Int} {a : Int} : SA2 f a a = 0 := by
  unfold SA2
  rw [show (a - a).toNat = 0 by omega]
  rfl
theorem SA2_upd {f : Int → Int} {a b k v : Int} (h : b ≤ k) : SA2 (upd1 f k v) a b = SA2 f a b := by
  unfold SA2
  exact su_congr (fun i x y => by rw [upd1_o (by omega)])
theorem SA2_nn {f : Int → Int} {a b : Int} (h : ∀ i, a ≤ i → i < b → 0 ≤ f i) : 0 ≤ SA2 f a b := su_nonneg (fun i x y => h _ (by omega) (by omega))
def TAKE (am : Int → Int) (z la sa n o la' sa' : Int) : Prop := (la < z ∧ o = la ∧ la' = la + 1 ∧ sa' = sa ∧ (n ≤ sa ∨ am la ≤ am sa)) ∨ (sa < n ∧ o = sa ∧ la' = la ∧ sa' = sa + 1 ∧ (z ≤ la ∨ am sa ≤ am la))
theorem TAKE_f {am : Int → Int} {z la sa n o la' sa' : Int} (h : TAKE am z la sa n o la' sa') (r : 0 ≤ la ∧ la ≤ z ∧ z ≤ sa ∧ sa ≤ n) (s1 : SRT am la z) (s2 : SRT am sa n) : (0 ≤ la' ∧ la' ≤ z ∧ z ≤ sa' ∧ sa' ≤ n ∧ la' + sa' = la + sa + 1 ∧ la ≤ la' ∧ sa ≤ sa') ∧ (la ≤ o ∧ o < z ∨ sa ≤ o ∧ o < n) ∧ (∀ k, (la ≤ k ∧ k < z ∨ sa ≤ k ∧ k < n) → am o ≤ am k) ∧ SRT am la' z ∧ SRT am sa' n ∧ SA2 am la z + SA2 am sa n = am o + (SA2 am la' z + SA2 am sa' n) ∧ (∀ k, (0 ≤ k ∧ k < la' ∨ z ≤ k ∧ k < sa') ↔ ((0 ≤ k ∧ k < la ∨ z ≤ k ∧ k < sa) ∨ k = o)) := by
  rcases h with ⟨a, b, c, d, e⟩ | ⟨a, b, c, d, e⟩
  · subst b c d
    refine ⟨by omega, by omega, fun k hk => ?_, fun i j x y w => s1 i j (by omega) y w, s2, ?_, fun k => by omega⟩
    · rcases hk with hk | hk
      · exact s1 _ _ (by omega) hk.1 hk.2
      · have := s2 _ k (Int.le_refl _) hk.1 hk.2
        omega
    · rw [SA2_head a]; omega
  · subst b c d
    refine ⟨by omega, by omega, fun k hk => ?_, s1, fun i j x y w => s2 i j (by omega) y w, ?_, fun k => by omega⟩
    · rcases hk with hk | hk
      · have := s1 _ k (Int.le_refl _) hk.1 hk.2
        omega
      · exact s2 _ _ (by omega) hk.1 hk.2
    · rw [SA2_head a]; omega
def TWQ (am pa : Int → Int) (z la sa n tot : Int) (H : Int → Nat) (M : Int) : Prop :=
  (0 ≤ la ∧ la ≤ z ∧ z ≤ sa ∧ sa ≤ n ∧ (z - la) + (n - sa) + (n - z) = z) ∧
  SRT am la z ∧ SRT am sa n ∧
  (∀ k, (la ≤ k ∧ k < z ∨ sa ≤ k ∧ k < n) → M ≤ am k) ∧
  (∀ k, z ≤ k → k < n → am k ≤ 2 * M) ∧
  (∀ k, 0 ≤ k → k < n → GF (H k) ≤ am k) ∧
  (∀ k, (0 ≤ k ∧ k < la ∨ z ≤ k ∧ k < sa) → k < pa k ∧ z ≤ pa k ∧ pa k < n ∧ H k < H (pa k) ∧ am k ≤ M) ∧
  (∀ k, 0 ≤ k → k < n → 1 ≤ H k → ∃ a, (0 ≤ a ∧ a < la ∨ z ≤ a ∧ a < sa) ∧ H a + 1 = H k) ∧
  SA2 am la z + SA2 am sa n = tot
def TW (am pa : Int → Int) (z la sa n tot : Int) : Prop := ∃ (H : Int → Nat) (M : Int), TWQ am pa z la sa n tot H M
theorem TW_0 {am pa : Int → Int} {z : Int} (hz : 0 ≤ z) (s : SRT am 0 z) (h : ∀ k, 0 ≤ k → k < z → 1 ≤ am k) : TW am pa z 0 z z (SA2 am 0 z) := by
  refine ⟨fun _ => 0, 0, by omega, s, fun i j a b c => by omega, fun k hk => ?_, fun k a b => by omega, fun k a b => h k a b, fun k hk => by omega, fun k a b c => absurd c (by show ¬ (1 ≤ 0); omega), by rw [SA2_nil]; omega⟩
  have := h k (by omega) (by omega)
  omega
theorem TW_rng {am pa : Int → Int} {z la sa n tot : Int} (h : TW am pa z la sa n tot) : 0 ≤ la ∧ la ≤ z ∧ z ≤ sa ∧ sa ≤ n ∧ (z - la) + (n - sa) + (n - z) = z := by
  obtain ⟨H, M, h⟩ := h
  exact h.1
theorem TW_step {am pa : Int → Int} {z la sa n tot o la1 sa1 t la2 sa2 n2 v : Int} (h : TW am pa z la sa n tot) (h1 : TAKE am z la sa n o la1 sa1) (h2 : TAKE am z la1 sa1 n t la2 sa2) (en : n2 = n + 1) (ev : v = am o + am t) : 0 ≤ o ∧ o < n ∧ 0 ≤ t ∧ t < n ∧ 1 ≤ am o ∧ 1 ≤ am t ∧ v ≤ tot ∧ TW (upd1 am n v) (upd1 (upd1 pa o n) t n) z la2 sa2 n2 tot := by
  subst en ev
  obtain ⟨H, M, r, s1, s2, hA, hS, hG, hT, hX, hE⟩ := h
  obtain ⟨q1, q2, q3, q4, q5, q6, q7⟩ := TAKE_f h1 ⟨r.1, r.2.1, r.2.2.1, r.2.2.2.1⟩ s1 s2
  obtain ⟨p1, p2', p3, p4, p5, p6, p7⟩ := TAKE_f h2 ⟨q1.1, q1.2.1, q1.2.2.1, q1.2.2.2.1⟩ q4 q5
  have oa : 0 ≤ o ∧ o < n := by omega
  have ta : 0 ≤ t ∧ t < n := by omega
  have ne : t ≠ o := by
    intro e
    have := (q7 o).mpr (.inr rfl)
    omega
  have oM := hA o q2
  have tact : la ≤ t ∧ t < z ∨ sa ≤ t ∧ t < n := by omega
  have tM := hA t tact
  have ot := q3 t tact
  have go := hG o oa.1 oa.2
  have gt := hG t ta.1 ta.2
  have g1 := (GF_pos (H o)).1
  have g2 := (GF_pos (H t)).1
  have nn1 := SA2_nn (f := am) (a := la2) (b := z) (fun i x y => by have := hG i (by omega) (by omega); have := (GF_pos (H i)).1; omega)
  have nn2 := SA2_nn (f := am) (a := sa2) (b := n) (fun i x y => by have := hG i (by omega) (by omega); have := (GF_pos (H i)).1; omega)
  have k1 : ∀ k, k ≠ n → upd1 am n (am o + am t) k = am k := fun k q => upd1_o q
  have k2 : upd1 am n (am o + am t) n = am o + am t := upd1_s
  have e1 : SA2 (upd1 am n (am o + am t)) la2 z = SA2 am la2 z := SA2_upd (by omega)
  have e2 : SA2 (upd1 am n (am o + am t)) sa2 (n + 1) = SA2 am sa2 n + (am o + am t) := by
    rw [SA2_last (by omega), SA2_upd (Int.le_refl _), k2]
  have i0 : upd1 (upd1 pa o n) t n t = n := upd1_s
  have i1 : upd1 (upd1 pa o n) t n o = n := by rw [upd1_o (fun q => ne q.symm), upd1_s]
  have i3 : ∀ k, k ≠ o → k ≠ t → upd1 (upd1 pa o n) t n k = pa k := fun k b c => by rw [upd1_o c, upd1_o b]
  generalize upd1 am n (am o + am t) = am' at k1 k2 e1 e2 ⊢
  generalize upd1 (upd1 pa o n) t n = pa' at i0 i1 i3 ⊢
  refine ⟨oa.1, oa.2, ta.1, ta.2, by omega, by omega, by omega, fun k => if k = n then max (H o) (H t) + 1 else H k, am t, ?_⟩
  have H1 : ∀ k, k ≠ n → (if k = n then max (H o) (H t) + 1 else H k) = H k := fun k q => if_neg q
  have H2 : (if n = n then max (H o) (H t) + 1 else H n) = max (H o) (H t) + 1 := if_pos rfl
  refine ⟨by omega, fun i j a b c => ?_, fun i j a b c => ?_, fun k hk => ?_, fun k a b => ?_, fun k a b => ?_, fun k hk => ?_, fun k a b c => ?_, by omega⟩
  · rw [k1 i (by omega), k1 j (by omega)]
    exact p4 i j a b c
  · by_cases e : j = n
    · subst e
      rw [k2]
      by_cases e' : i = j
      · subst e'; rw [k2]; omega
      · rw [k1 i e']
        have := hS i (by omega) (by omega)
        omega
    · rw [k1 i (by omega), k1 j e]
      exact p5 i j a b (by omega)
  · by_cases e : k = n
    · subst e; rw [k2]; omega
    · rw [k1 k e]
      exact p3 k (by omega)
  · by_cases e : k = n
    · subst e; rw [k2]; omega
    · rw [k1 k e]
      have := hS k a (by omega)
      omega
  · show GF (if k = n then max (H o) (H t) + 1 else H k) ≤ am' k
    by_cases e : k = n
    · subst e
      rw [k2, H2]
      by_cases w : H o ≤ H t
      · rw [show max (H o) (H t) = H t by omega]
        by_cases w0 : 1 ≤ H t
        · obtain ⟨x, x1, x2⟩ := hX t ta.1 ta.2 w0
          have xm := (hT x x1).2.2.2.2
          have gx := hG x (by omega) (by omega)
          have : GF (H t + 1) = GF (H t) + GF (H x) := by rw [← x2]; rfl
          omega
        · rw [show H t = 0 by omega]
          show (2 : Int) ≤ _
          omega
      · rw [show max (H o) (H t) = H o by omega]
        obtain ⟨x, x1, x2⟩ := hX o oa.1 oa.2 (by omega)
        have xm := (hT x x1).2.2.2.2
        have gx := hG x (by omega) (by omega)
        have : GF (H o + 1) = GF (H o) + GF (H x) := by rw [← x2]; rfl
        omega
    · rw [k1 k e, H1 k e]
      exact hG k a (by omega)
  · show k < pa' k ∧ z ≤ pa' k ∧ pa' k < n + 1 ∧ (if k = n then max (H o) (H t) + 1 else H k) < (if pa' k = n then max (H o) (H t) + 1 else H (pa' k)) ∧ am' k ≤ am t
    have kn : k < n := by omega
    rw [H1 k (by omega), k1 k (by omega)]
    by_cases e1 : k = o
    · subst e1; rw [i1, if_pos rfl]; exact ⟨by omega, by omega, by omega, by omega, by omega⟩
    · by_cases e2 : k = t
      · subst e2; rw [i0, if_pos rfl]; exact ⟨by omega, by omega, by omega, by omega, by omega⟩
      · rw [i3 k e1 e2]
        have old : 0 ≤ k ∧ k < la ∨ z ≤ k ∧ k < sa := by
          rcases (p7 k).mp hk with w | w
          · rcases (q7 k).mp w with w' | w'
            · exact w'
            · exact absurd w' e1
          · exact absurd w e2
        obtain ⟨t1, t2, t3, t4, t5⟩ := hT k old
        rw [if_neg (by omega)]
        exact ⟨t1, t2, by omega, t4, by omega⟩
  · have lift : ∀ x, (0 ≤ x ∧ x < la ∨ z ≤ x ∧ x < sa) → (0 ≤ x ∧ x < la2 ∨ z ≤ x ∧ x < sa2) := fun x w => (p7 x).mpr (.inl ((q7 x).mpr (.inl w)))
    have to : 0 ≤ o ∧ o < la2 ∨ z ≤ o ∧ o < sa2 := (p7 o).mpr (.inl ((q7 o).mpr (.inr rfl)))
    have tt : 0 ≤ t ∧ t < la2 ∨ z ≤ t ∧ t < sa2 := (p7 t).mpr (.inr rfl)
    show ∃ x, _ ∧ (if x = n then max (H o) (H t) + 1 else H x) + 1 = (if k = n then max (H o) (H t) + 1 else H k)
    by_cases e : k = n
    · rw [if_pos e]
      by_cases w : H o ≤ H t
      · exact ⟨t, tt, by rw [H1 t (by omega)]; omega⟩
      · exact ⟨o, to, by rw [H1 o (by omega)]; omega⟩
    · rw [if_neg e]
      have cₚ : 1 ≤ H k := by
        have c2 : 1 ≤ (if k = n then max (H o) (H t) + 1 else H k) := c
        rw [if_neg e] at c2
        exact c2
      obtain ⟨x, x1, x2⟩ := hX k a (by omega) cₚ
      exact ⟨x, lift x x1, by rw [H1 x (by omega)]; exact x2⟩
theorem GF_ge : ∀ n : Nat, (n : Int) + 1 ≤ GF n
  | 0 => by decide
  | 1 => by decide
  | n + 2 => by
    have a := GF_ge (n + 1)
    have b := (GF_pos n).1
    have e : GF (n + 2) = GF (n + 1) + GF n := rfl
    omega

def FLQ (am pa : Int → Int) (i n tot : Int) : Prop := ∃ H : Int → Nat, GF (H (n - 1)) ≤ tot ∧ (∀ k, 0 ≤ k → k < n - 1 → k < pa k ∧ pa k < n ∧ H k < H (pa k)) ∧ (∀ k, i < k → k < n → 0 ≤ am k ∧ am k + H k ≤ H (n - 1) ∧ (k < n - 1 → 1 ≤ am k))
def LGT (g t : Int) : Prop := ∃ H : Nat, g ≤ H ∧ GF H ≤ t
theorem FLQ_0 {am pa : Int → Int} {z la sa n tot : Int} (h : TW am pa z la sa n tot) (hz : 2 ≤ z) (hn : n = 2 * z - 1) : FLQ (upd1 am (n - 1) 0) pa (n - 2) n tot := by
  obtain ⟨H, M, r, s1, s2, hA, hS, hG, hT, hX, hE⟩ := h
  have e : la = z ∧ sa = n - 1 := by
    by_cases w : la = z
    · omega
    · have q := hT (n - 1) (.inr ⟨by omega, by omega⟩)
      omega
  obtain ⟨e1, e2⟩ := e
  subst e1 e2
  have g := hG (n - 1) (by omega) (by omega)
  rw [SA2_nil, SA2_head (by omega), show n - 1 + 1 = n by omega, SA2_nil] at hE
  refine ⟨H, by omega, fun k a b => ?_, fun k a b => ?_⟩
  · have := hT k (by omega)
    exact ⟨this.1, this.2.2.1, this.2.2.2.1⟩
  · have : k = n - 1 := by omega
    subst this
    rw [upd1_s]
    exact ⟨by omega, by omega, fun w => by omega⟩
theorem FLQ_pa {am pa : Int → Int} {i n tot : Int} (h : FLQ am pa i n tot) (a : 0 ≤ i) (b : i < n - 1) : i < pa i ∧ pa i < n ∧ 0 ≤ am (pa i) ∧ am (pa i) ≤ tot := by
  obtain ⟨H, h0, h1, h2⟩ := h
  have p := h1 i a b
  have q := h2 (pa i) p.1 p.2.1
  have g := GF_ge (H (n - 1))
  exact ⟨p.1, p.2.1, q.1, by omega⟩
theorem FLQ_s {am pa : Int → Int} {i i2 n tot v : Int} (h : FLQ am pa i n tot) (a : 0 ≤ i) (b : i < n - 1) (e : i2 = i - 1) (ev : v = am (pa i) + 1) : FLQ (upd1 am i v) pa i2 n tot ∧ LGT v tot ∧ 1 ≤ v := by
  subst e ev
  obtain ⟨H, h0, h1, h2⟩ := h
  have p := h1 i a b
  have q := h2 (pa i) p.1 p.2.1
  refine ⟨⟨H, h0, h1, fun k x y => ?_⟩, ⟨H (n - 1), by omega, h0⟩, by omega⟩
  by_cases w : k = i
  · subst w
    rw [upd1_s]
    exact ⟨by omega, by omega, fun _ => by omega⟩
  · rw [upd1_o w]
    exact h2 k (by omega) y
theorem LGT_max {a b c t : Int} (h : LGT a t) (g : LGT b t) (e : c = a ∨ c = b) : LGT c t := by
  rcases e with e | e
  · rw [e]; exact h
  · rw [e]; exact g
theorem LGT_0 {t : Int} (h : 1 ≤ t) : LGT 0 t := ⟨0, by omega, h⟩
theorem LGT_11 {g t : Int} (h : LGT g t) (ht : t ≤ 376) : g ≤ 11 := by
  obtain ⟨H, a, b⟩ := h
  have := GF_12 (d := H) (by omega)
  omega
theorem LGT_le {g t : Int} (h : LGT g t) : g ≤ t := by
  obtain ⟨H, a, b⟩ := h
  have := GF_ge H
  omega
def LNG (l : Int → Int) (g : Int) : Prop := ∀ s, 0 ≤ s → s < 256 → 0 ≤ l s ∧ l s ≤ g
theorem LNG_upd {l : Int → Int} {g g2 s v : Int} (h : LNG l g) (hg : g ≤ g2) (hv : 0 ≤ v ∧ v ≤ g2) : LNG (upd1 l s v) g2 := fun x a b => by
  by_cases w : x = s
  · subst w; rw [upd1_s]; exact hv
  · rw [upd1_o w]; have := h x a b; omega

def ORD (o : Int → Int) (e : Int) : Prop := ∀ i, 0 ≤ i → i < e → 0 ≤ o i ∧ o i < 256
def GEA (am : Int → Int) (e h : Int) : Prop := ∀ i, 0 ≤ i → i < e → 1 ≤ am i ∧ am i ≤ 65536 ∧ (h = 30 → am i = 1)

def INS (am o : Int → Int) (p e x h : Int) : Prop := 0 ≤ p ∧ p ≤ e ∧ SRT am 0 p ∧ SRT am (p + 1) (e + 1) ∧ (∀ i j, 0 ≤ i → i < p → p < j → j ≤ e → am i ≤ am j) ∧ (∀ j, p < j → j ≤ e → x < am j) ∧ (∀ i, 0 ≤ i → i ≤ e → i ≠ p → 1 ≤ am i ∧ am i ≤ 65536 ∧ (h = 30 → am i = 1)) ∧ (∀ i, 0 ≤ i → i ≤ e → i ≠ p → 0 ≤ o i ∧ o i < 256)
theorem INS_0 {am o : Int → Int} {e x h : Int} (e0 : 0 ≤ e) (s : SRT am 0 e) (g : GEA am e h) (q : ORD o e) : INS am o e e x h :=
  ⟨e0, by omega, s, fun i j a b c => by have : i = j := by omega
                                        subst this; omega, fun i j a b c d => by omega, fun j a b => by omega, fun i a b c => g i a (by omega), fun i a b c => q i a (by omega)⟩
theorem INS_s {am o : Int → Int} {p p2 e x h v w : Int} (q : INS am o p e x h) (hp : 0 < p) (ep : p2 = p - 1) (ev : v = am (p - 1)) (ew : w = o (p - 1)) (hx : x < v) : INS (upd1 am p v) (upd1 o p w) p2 e x h := by
  subst ep ev ew
  obtain ⟨a0, a1, s1, s2, s3, s4, g, r⟩ := q
  refine ⟨by omega, by omega, fun i j a b c => ?_, fun i j a b c => ?_, fun i j a b c d => ?_, fun j a b => ?_, fun i a b c => ?_, fun i a b c => ?_⟩
  · rw [upd1_o (by omega), upd1_o (by omega)]; exact s1 i j a b (by omega)
  · by_cases e1 : i = p
    · subst e1
      rw [upd1_s]
      by_cases e2 : j = i
      · subst e2; rw [upd1_s]; omega
      · rw [upd1_o e2]; exact s3 _ _ (by omega) (by omega) (by omega) (by omega)
    · rw [upd1_o e1, upd1_o (by omega)]; exact s2 i j (by omega) b c
  · rw [upd1_o (show i ≠ p by omega)]
    by_cases e2 : j = p
    · subst e2; rw [upd1_s]; exact s1 i _ a (by omega) (by omega)
    · rw [upd1_o e2]; exact s3 i j a (by omega) (by omega) d
  · by_cases e2 : j = p
    · subst e2; rw [upd1_s]; exact hx
    · rw [upd1_o e2]; exact s4 j (by omega) b
  · by_cases e2 : i = p
    · subst e2; rw [upd1_s]; exact g _ (by omega) (by omega) (by omega)
    · rw [upd1_o e2]; exact g i a b e2
  · by_cases e2 : i = p
    · subst e2; rw [upd1_s]; exact r _ (by omega) (by omega) (by omega)
    · rw [upd1_o e2]; exact r i a b e2
theorem INS_end {am o : Int → Int} {p e e2 x h s : Int} (q : INS am o p e x h) (hx : p = 0 ∨ am (p - 1) ≤ x) (ee : e2 = e + 1) (gx : 1 ≤ x ∧ x ≤ 65536 ∧ (h = 30 → x = 1)) (hs : 0 ≤ s ∧ s < 256) : SRT (upd1 am p x) 0 e2 ∧ GEA (upd1 am p x) e2 h ∧ ORD (upd1 o p s) e2 := by
  subst ee
  obtain ⟨a0, a1, s1, s2, s3, s4, g, r⟩ := q
  refine ⟨fun i j a b c => ?_, fun i a b => ?_, fun i a b => ?_⟩
  · by_cases e1 : i = p
    · subst e1
      rw [upd1_s]
      by_cases e2 : j = i
      · subst e2; rw [upd1_s]; omega
      · rw [upd1_o e2]; have := s4 j (by omega) (by omega); omega
    · rw [upd1_o e1]
      by_cases e2 : j = p
      · subst e2
        rw [upd1_s]
        have := s1 i (j - 1) a (by omega) (by omega)
        omega
      · rw [upd1_o e2]
        by_cases e3 : j < p
        · exact s1 i j a b e3
        · by_cases e4 : i < p
          · exact s3 i j a e4 (by omega) (by omega)
          · exact s2 i j (by omega) b c
  · by_cases e1 : i = p
    · subst e1; rw [upd1_s]; exact gx
    · rw [upd1_o e1]; exact g i a (by omega) e1
  · by_cases e1 : i = p
    · subst e1; rw [upd1_s]; exact hs
    · rw [upd1_o e1]; exact r i a (by omega) e1

theorem SA2_ones {am : Int → Int} {e : Int} (e0 : 0 ≤ e) (h : ∀ i, 0 ≤ i → i < e → am i = 1) : SA2 am 0 e = e := by
  have k : ∀ m : Nat, (m : Int) ≤ e → su (fun i => am (0 + i)) m = m := by
    intro m
    induction m with
    | zero => intro _; rfl
    | succ m ih =>
      intro hm
      show su _ m + am (0 + (m : Int)) = _
      rw [ih (by omega), h _ (by omega) (by omega)]
      omega
  unfold SA2
  rw [k _ (by omega)]
  omega
theorem SA2_bd {am : Int → Int} {e h : Int} (e0 : 0 ≤ e) (g : GEA am e h) : e ≤ SA2 am 0 e ∧ SA2 am 0 e ≤ 65536 * e := by
  have k : ∀ m : Nat, (m : Int) ≤ e → (m : Int) ≤ su (fun i => am (0 + i)) m ∧ su (fun i => am (0 + i)) m ≤ 65536 * m := by
    intro m
    induction m with
    | zero => intro _; exact ⟨Int.le_refl _, Int.le_refl _⟩
    | succ m ih =>
      intro hm
      have q := ih (by omega)
      have r := g (0 + (m : Int)) (by omega) (by omega)
      show _ ≤ su _ m + am (0 + (m : Int)) ∧ su _ m + am (0 + (m : Int)) ≤ _
      omega
  unfold SA2
  have := k (e - 0).toNat (by omega)
  omega
theorem FLQ_1 {am pa : Int → Int} {i n tot : Int} (h : FLQ am pa i n tot) : 1 ≤ tot := by
  obtain ⟨H, h0, -, -⟩ := h
  have := (GF_pos (H (n - 1))).1
  omega
def CTS (co : Int → Int) : Prop := ∀ s, 0 ≤ s → s < 256 → 0 ≤ co s ∧ co s ≤ 65536
def LNO (x : Int) (l : Int → Int) (g : Int) : Prop := x = 0 ∨ LNG l g
theorem halv {c t z : Int} (c0 : 1 ≤ c) (c1 : c ≤ 65536) (t0 : 0 ≤ t) (t1 : t ≤ 30) (e : z = (c + p2 t - 1) / p2 t) : 1 ≤ z ∧ z ≤ 65536 ∧ (t = 30 → z = 1) := by
  have p := p2_pos t
  have a : 1 ≤ z := by
    rw [e]
    exact Int.le_ediv_of_mul_le (by omega) (by omega)
  have b : z ≤ c := by
    rw [e]
    have m : c + p2 t - 1 < (c + 1) * p2 t := by
      have : c * 1 ≤ c * p2 t := Int.mul_le_mul_of_nonneg_left p (by omega)
      rw [Int.add_mul, Int.one_mul]
      omega
    have := Int.ediv_lt_of_lt_mul (by omega) m
    omega
  refine ⟨a, by omega, fun q => ?_⟩
  subst q
  rw [show p2 30 = 1073741824 from by decide] at e
  omega


end
section
/-! R0.math -/
def SETI (s : Int → Int) : Prop := (0 ≤ s 0 ∧ s 0 ≤ 3) ∧ (3 ≤ s 1 ∧ s 1 ≤ 8) ∧ (1 ≤ s 2 ∧ s 2 ≤ 65536) ∧ (4 ≤ s 4 ∧ s 4 ≤ 7) ∧ (0 ≤ s 6 ∧ s 6 ≤ 255) ∧ (0 ≤ s 7 ∧ s 7 ≤ 15) ∧ (0 ≤ s 8 ∧ s 8 ≤ 11)
def MBQ (w v : Int) : Prop := w = 0 ∧ 0 ≤ v ∧ v ≤ 3 ∨ w = 1 ∧ 3 ≤ v ∧ v ≤ 8 ∨ w = 2 ∧ 1 ≤ v ∧ v ≤ 65536 ∨ w = 3 ∨ w = 4 ∧ 4 ≤ v ∧ v ≤ 7 ∨ w = 6 ∧ 0 ≤ v ∧ v ≤ 255 ∨ w = 7 ∧ 0 ≤ v ∧ v ≤ 15 ∨ w = 8 ∧ 0 ≤ v ∧ v ≤ 11 ∨ w = 5 ∨ 9 ≤ w
theorem SETI_upd {s : Int → Int} {w v : Int} (h : SETI s) (m : MBQ w v) : SETI (upd1 s w v) := by
  have e : ∀ k : Int, upd1 s w v k = if k = w then v else s k := fun k => by
    by_cases q : k = w
    · subst q; rw [upd1_s, if_pos rfl]
    · rw [upd1_o q, if_neg q]
  obtain ⟨h0, h1, h2, h4, h6, h7, h8⟩ := h
  unfold MBQ at m
  unfold SETI
  simp only [e]
  refine ⟨?_, ?_, ?_, ?_, ?_, ?_, ?_⟩ <;> split <;> omega
theorem SETI_f {s : Int → Int} (h : SETI s) : 0 ≤ s 0 ∧ s 0 ≤ 3 ∧ 3 ≤ s 1 ∧ s 1 ≤ 8 ∧ 1 ≤ s 2 ∧ s 2 ≤ 65536 ∧ 4 ≤ s 4 ∧ s 4 ≤ 7 ∧ 0 ≤ s 6 ∧ s 6 ≤ 255 ∧ 0 ≤ s 7 ∧ s 7 ≤ 15 ∧ 0 ≤ s 8 ∧ s 8 ≤ 11 := by
  obtain ⟨h0, h1, h2, h4, h6, h7, h8⟩ := h
  exact ⟨h0.1, h0.2, h1.1, h1.2, h2.1, h2.2, h4.1, h4.2, h6.1, h6.2, h7.1, h7.2, h8.1, h8.2⟩


end
section
/-! V5z.math -/
def mlo (w : Int) : Int := if w = 0 then 0 else if w = 1 then 3 else if w = 2 then 1 else if w = 4 then 4 else if w = 6 then 0 else if w = 7 then 0 else if w = 8 then 0 else -2147483648
def mhi (w : Int) : Int := if w = 0 then 3 else if w = 1 then 8 else if w = 2 then 65536 else if w = 4 then 7 else if w = 6 then 255 else if w = 7 then 15 else if w = 8 then 11 else 2147483647
theorem mlo_df {w : Int} (h : w ≠ 0 ∧ w ≠ 1 ∧ w ≠ 2 ∧ w ≠ 4 ∧ w ≠ 6 ∧ w ≠ 7 ∧ w ≠ 8) : mlo w = -2147483648 ∧ mhi w = 2147483647 := by
  obtain ⟨h0, h1, h2, h4, h6, h7, h8⟩ := h
  unfold mlo mhi
  rw [if_neg h0, if_neg h1, if_neg h2, if_neg h4, if_neg h6, if_neg h7, if_neg h8, if_neg h0, if_neg h1, if_neg h2, if_neg h4, if_neg h6, if_neg h7, if_neg h8]
  exact ⟨rfl, rfl⟩
theorem MBQ_of {w v : Int} (hw : 0 ≤ w) (h : w = 3 ∨ mlo w ≤ v ∧ v ≤ mhi w) : MBQ w v := by
  unfold MBQ
  by_cases h0 : w = 0
  · subst h0; have h : (0 : Int) = 3 ∨ 0 ≤ v ∧ v ≤ 3 := h; omega
  by_cases h1 : w = 1
  · subst h1; have h : (1 : Int) = 3 ∨ 3 ≤ v ∧ v ≤ 8 := h; omega
  by_cases h2 : w = 2
  · subst h2; have h : (2 : Int) = 3 ∨ 1 ≤ v ∧ v ≤ 65536 := h; omega
  by_cases h4 : w = 4
  · subst h4; have h : (4 : Int) = 3 ∨ 4 ≤ v ∧ v ≤ 7 := h; omega
  by_cases h6 : w = 6
  · subst h6; have h : (6 : Int) = 3 ∨ 0 ≤ v ∧ v ≤ 255 := h; omega
  by_cases h7 : w = 7
  · subst h7; have h : (7 : Int) = 3 ∨ 0 ≤ v ∧ v ≤ 15 := h; omega
  by_cases h8 : w = 8
  · subst h8; have h : (8 : Int) = 3 ∨ 0 ≤ v ∧ v ≤ 11 := h; omega
  clear h
  omega
theorem SE_of {g : Int → Int} {w v : Int} (hs : SE g) (h : w = 3 ∧ 64 ≤ v ∧ v ≤ 127 ∨ w ≠ 3 ∧ mlo w ≤ v ∧ v ≤ mhi w) : SE (upd1 g w v) := by
  refine SE_upd hs ?_
  rcases h with ⟨h3, h⟩ | ⟨h3, h⟩
  · subst h3
    refine ⟨fun q => ?_, fun q => ?_, fun q => ?_, fun q => ?_, fun q => ?_, fun q => ?_, fun q => ?_, fun q => ?_⟩ <;> omega
  · refine ⟨fun q => ?_, fun q => ?_, fun q => ?_, fun q => absurd q h3, fun q => ?_, fun q => ?_, fun q => ?_, fun q => ?_⟩ <;> (subst q; exact h)

def UPD (z : Int) (w w' : Int → Int) (k v : Int) : Prop := z = 1 ∧ w' = upd1 w k v ∨ z = 0 ∧ w' = w

def EQS (w w' : Int → Int) : Prop := ∀ k, 0 ≤ k → k < 10 → w k = w' k
theorem EQS_upd {z : Int} {w w' v v' : Int → Int} {k x : Int} (h : EQS w w') (a : UPD z w v k x) (b : UPD z w' v' k x) : EQS v v' := by
  rcases a with ⟨a1, a2⟩ | ⟨a1, a2⟩
  · rcases b with ⟨b1, b2⟩ | ⟨b1, b2⟩
    · subst a2
      subst b2
      intro j h0 h1
      by_cases q : j = k
      · rw [q, upd1_s, upd1_s]
      · rw [upd1_o q, upd1_o q]
        exact h j h0 h1
    · omega
  · rcases b with ⟨b1, b2⟩ | ⟨b1, b2⟩
    · omega
    · subst a2
      subst b2
      exact h

def RW (c n : Int) : Int := (n + c - 1) / c
def WND (w : Int → Int) (n : Int) : Int := if andI (w 7) 4 = 0 then p2 (10 + w 8) else n
def SMN (a b : Int) : Int := if a < b then a else b
def BND (w : Int → Int) (f n : Int) : Int :=
  if f = 0 then n + n / 255 + 16 else if f = 1 then 27 + 8 * RW (w 2) n + n else if f = 2 then 32 + n + n / 6 else if f = 3 then 10 + n + 8 * RW (w 2) n + (if 0 < w 6 then RW (w 2) n * (4 + w 6) else 0) else if f = 4 then 22 + 3 * (if n = 0 then 1 else RW (SMN (WND w n) (w 2)) n) + n else 700 + n
def BNA (w : Int → Int) (f n : Int) : Int := if 0 ≤ f ∧ f ≤ 5 ∧ 0 ≤ n ∧ n ≤ 16384 then BND w f n else -1
theorem RW_le {c n : Int} (hc : 1 ≤ c) (hn : 0 ≤ n) : 0 ≤ RW c n ∧ RW c n ≤ n := by
  unfold RW
  refine ⟨Int.ediv_nonneg (by omega) (by omega), ?_⟩
  by_cases h : n = 0
  · subst h
    rw [Int.ediv_eq_zero_of_lt (by omega) (by omega)]
    exact Int.le_refl 0
  · have h1 : n + c - 1 ≤ n * c := by
      have : (n - 1) * (c - 1) ≥ 0 := Int.mul_nonneg (by omega) (by omega)
      rw [Int.sub_mul, Int.mul_sub, Int.mul_one, Int.one_mul] at this
      omega
    exact Int.ediv_le_of_le_mul (by omega) h1
theorem RW_pos {c n : Int} (hc : 1 ≤ c) (hn : 1 ≤ n) : 1 ≤ RW c n := by
  unfold RW
  exact Int.le_ediv_of_mul_le (by omega) (by omega)
theorem RWm {r x n : Int} (h : 0 ≤ r ∧ r ≤ n) (hn : n ≤ 16384) (hx : 0 ≤ x ∧ x ≤ 259) : 0 ≤ r * x ∧ r * x ≤ 4243456 := by
  refine ⟨Int.mul_nonneg h.1 hx.1, ?_⟩
  have h1 : r * x ≤ 16384 * x := Int.mul_le_mul_of_nonneg_right (by omega) hx.1
  omega
theorem BND_0 {w : Int → Int} {f n : Int} (h : f = 0) : n + n / 255 + 16 = BND w f n := by
  unfold BND
  rw [if_pos h]
theorem BND_1 {w : Int → Int} {f n r : Int} (h : f = 1) (hr : r = RW (w 2) n) : 27 + 8 * r + n = BND w f n := by
  subst h
  subst hr
  rfl
theorem BND_2 {w : Int → Int} {f n : Int} (h : f = 2) : 32 + n + n / 6 = BND w f n := by
  subst h
  rfl
theorem BND_3 {w : Int → Int} {f n r x : Int} (h : f = 3) (hr : r = RW (w 2) n) (hx : 0 < w 6 ∧ x = r * (4 + w 6) ∨ w 6 ≤ 0 ∧ x = 0) : 10 + n + 8 * r + x = BND w f n := by
  subst h
  subst hr
  show _ = 10 + n + 8 * RW (w 2) n + (if 0 < w 6 then RW (w 2) n * (4 + w 6) else 0)
  rcases hx with ⟨a, b⟩ | ⟨a, b⟩
  · rw [if_pos a, b]
  · rw [if_neg (by omega), b]
theorem BND_4 {w : Int → Int} {f n x : Int} (h : f = 4) (hx : n = 0 ∧ x = 1 ∨ n ≠ 0 ∧ x = RW (SMN (WND w n) (w 2)) n) : 22 + 3 * x + n = BND w f n := by
  subst h
  show _ = 22 + 3 * (if n = 0 then 1 else RW (SMN (WND w n) (w 2)) n) + n
  rcases hx with ⟨a, b⟩ | ⟨a, b⟩
  · rw [if_pos a, b]
  · rw [if_neg a, b]
theorem BND_5 {w : Int → Int} {f n : Int} (h : f = 5) : 700 + n = BND w f n := by
  subst h
  rfl
theorem BND_eq {w w' : Int → Int} (h : EQS w w') (f n : Int) : BNA w f n = BNA w' f n := by
  have h2 := h 2 (by decide) (by decide)
  have h6 := h 6 (by decide) (by decide)
  have h7 := h 7 (by decide) (by decide)
  have h8 := h 8 (by decide) (by decide)
  unfold BNA BND WND
  rw [h2, h6, h7, h8]


end
