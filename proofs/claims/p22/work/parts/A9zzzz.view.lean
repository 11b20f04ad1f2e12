/-! what was made, as a view -/
section YV
variable {ν : mE} {ρ : Nat → Nat} {K L0 : Nat} {σ0 σ m : rS} {V : vV} {κ : List Nat}
def vz (ν : mE) (ρ : Nat → Nat) : Value → Int
  | .int v => v.toInt
  | .long v => v.toInt
  | .ref a => (ρ a : Int)
  | .null => -1
  | .float k => (ν.1.1 k.toNat).toInt
  | .double k => (ν.1.2 k.toNat).toInt
  | .retAddr p => match ν.2 p with
    | some a => (a : Int)
    | none => -1
def risQ : Value → Bool
  | .ref _ => true
  | .null => true
  | .retAddr _ => true
  | _ => false
/-- may the value stand in an array, in a field, of this kind -/
def mkd (kd : Nat) (v : Value) : Bool :=
  match kd with
  | 0 => match v with
    | .int w => decide (-128 ≤ w.toInt) && decide (w.toInt ≤ 127)
    | _ => false
  | 1 => risI v
  | 2 => risL v
  | 3 => match v with
    | .int w => decide (0 ≤ w.toInt) && decide (w.toInt ≤ 1)
    | _ => false
  | _ => risQ v
def mfk (kd : Nat) (v : Value) : Bool :=
  match kd with
  | 0 => risI v
  | 1 => mkd 3 v
  | 2 => risL v
  | 4 => risQ v
  | _ => false
noncomputable def mN (κ : List Nat) (m : rS) : Nat → Nat := fun x => match rat m (κ.getD x 0) with
  | some (.inr q) => q.2.1
  | _ => 0
noncomputable def mFd (ν : mE) (ρ : Nat → Nat) (κ : List Nat) (m : rS) : hF := fun x k => match rat m (κ.getD x 0) with
  | some (.inl q) => vz ν ρ (q.2.getD k (.int 0))
  | _ => 0
noncomputable def mA (ν : mE) (ρ : Nat → Nat) (κ : List Nat) (m : rS) : hA := fun x i => match rat m (κ.getD x 0) with
  | some (.inr q) => vz ν ρ (rlk q.2.2.2 q.2.2.1 i.toNat)
  | _ => 0
noncomputable def mVx (V : vV) (m : rS) (x k : Nat) : Bool :=
  match rat m k with
  | some (.inl q) => Nat.ble 11 k && (!(varr V x) && (Nat.beq q.1 (vcls V x) && (Nat.beq q.2.length (vnf V x) && (List.range (vnf V x)).all (fun j => mfk (vfd V x j).1 (q.2.getD j (.int 0))))))
  | some (.inr q) => Nat.ble 11 k && (varr V x && (Nat.beq q.1 (vak V x) && (Nat.beq (vnf V x) 0 && (Nat.ble q.2.1 1000000 && (mkd q.1 q.2.2.1 && q.2.2.2.all (fun z => mkd q.1 z.2))))))
  | none => false
def mnd : List Nat → Bool
  | [] => true
  | k :: l => l.all (fun j => !(Nat.beq j k)) && mnd l
noncomputable def mV (V : vV) (κ : List Nat) (m : rS) : Bool := Nat.beq κ.length V.length && (mnd κ && (List.range V.length).all (fun x => mVx V m x (κ.getD x 0)))
theorem mnd_inj : ∀ {l : List Nat} {x y : Nat}, mnd l = true → x < l.length → y < l.length → l.getD x 0 = l.getD y 0 → x = y
  | [], x, _, _, h, _, _ => absurd h (Nat.not_lt_zero x)
  | k :: l, 0, 0, _, _, _, _ => rfl
  | k :: l, 0, y + 1, h, _, hy, e => by
    have h : (l.all (fun j => !(Nat.beq j k)) && mnd l) = true := h
    rw [Bool.and_eq_true] at h
    have hy : y < l.length := Nat.lt_of_succ_lt_succ hy
    have e : k = l.getD y 0 := e
    have w := List.all_eq_true.mp h.1 (l.getD y 0) (by rw [List.getD_eq_getElem?_getD, List.getElem?_eq_getElem hy]; exact List.getElem_mem hy)
    rw [← e, Nat.beq_refl] at w
    cases w
  | k :: l, x + 1, 0, h, hx, _, e => by
    have h : (l.all (fun j => !(Nat.beq j k)) && mnd l) = true := h
    rw [Bool.and_eq_true] at h
    have hx : x < l.length := Nat.lt_of_succ_lt_succ hx
    have e : l.getD x 0 = k := e
    have w := List.all_eq_true.mp h.1 (l.getD x 0) (by rw [List.getD_eq_getElem?_getD, List.getElem?_eq_getElem hx]; exact List.getElem_mem hx)
    rw [e, Nat.beq_refl] at w
    cases w
  | k :: l, x + 1, y + 1, h, hx, hy, e => by
    have h : (l.all (fun j => !(Nat.beq j k)) && mnd l) = true := h
    rw [Bool.and_eq_true] at h
    have := mnd_inj (l := l) (x := x) (y := y) h.2 (Nat.lt_of_succ_lt_succ hx) (Nat.lt_of_succ_lt_succ hy) e
    omega
theorem mrlk {p : Value → Bool} : ∀ {ov : rO} {dv : Value} {j : Nat}, p dv = true → ov.all (fun z => p z.2) = true → p (rlk ov dv j) = true
  | [], _, _, h, _ => h
  | (a, v) :: l, dv, j, h, h2 => by
    rw [List.all_cons, Bool.and_eq_true] at h2
    show p (@Bool.rec (fun _ => Value) (rlk l dv j) v (Nat.beq a j)) = true
    cases Nat.beq a j with
    | true => exact h2.1
    | false => exact mrlk h h2.2
theorem i32r (v : Int32) : inr v.toInt := ⟨Int32.le_toInt v, by have := Int32.toInt_lt v; omega⟩
theorem i64r (v : Int64) : inrJ v.toInt := ⟨Int64.le_toInt v, by have := Int64.toInt_lt v; omega⟩
theorem vz_a {kd : Nat} {v : Value} (h : mkd kd v = true) : mg ν ρ v = va kd (vz ν ρ v) ∧ arng kd (vz ν ρ v) := by
  match kd with
  | 0 =>
    cases v with
    | int w =>
      have h : (decide (-128 ≤ w.toInt) && decide (w.toInt ≤ 127)) = true := h
      simp only [Bool.and_eq_true, decide_eq_true_eq] at h
      exact ⟨congrArg Value.int (toI_of w).symm, h⟩
    | _ => cases h
  | 1 =>
    cases v with
    | int w => exact ⟨congrArg Value.int (toI_of w).symm, i32r w⟩
    | float w => exact ⟨congrArg Value.int (toI_of _).symm, i32r _⟩
    | _ => cases h
  | 2 =>
    cases v with
    | long w => exact ⟨congrArg Value.long (Int64.ofInt_toInt w).symm, i64r w⟩
    | double w => exact ⟨congrArg Value.long (Int64.ofInt_toInt _).symm, i64r _⟩
    | _ => cases h
  | 3 =>
    cases v with
    | int w =>
      have h : (decide (0 ≤ w.toInt) && decide (w.toInt ≤ 1)) = true := h
      simp only [Bool.and_eq_true, decide_eq_true_eq] at h
      exact ⟨congrArg Value.int (toI_of w).symm, h⟩
    | _ => cases h
  | n + 4 =>
    cases v with
    | ref a => exact ⟨by show Value.ref (ρ a) = if ((ρ a : Nat) : Int) < 0 then .null else .ref ((ρ a : Nat) : Int).toNat; rw [if_neg (by omega), Int.toNat_natCast], by show (-1 : Int) ≤ (ρ a : Int); omega⟩
    | null => exact ⟨rfl, by show (-1 : Int) ≤ -1; omega⟩
    | retAddr p =>
      show (match ν.2 p with | some a => Value.ref a | none => Value.null) = (if (match ν.2 p with | some a => (a : Int) | none => -1) < 0 then .null else .ref (match ν.2 p with | some a => (a : Int) | none => -1).toNat) ∧ (-1 : Int) ≤ (match ν.2 p with | some a => (a : Int) | none => -1)
      cases ν.2 p with
      | none => exact ⟨rfl, by show (-1 : Int) ≤ -1; omega⟩
      | some a => exact ⟨by show Value.ref a = if ((a : Nat) : Int) < 0 then .null else .ref ((a : Nat) : Int).toNat; rw [if_neg (by omega), Int.toNat_natCast], by show (-1 : Int) ≤ (a : Int); omega⟩
    | _ => cases h
theorem vz_f {f : Nat × Nat} {D : Nat → Nat} {v : Value} (h : mfk f.1 v = true) : mg ν ρ v = vf D f (vz ν ρ v) ∧ krng f.1 (vz ν ρ v) := by
  obtain ⟨kd, e⟩ := f
  match kd with
  | 0 => exact vz_a (kd := 1) h
  | 1 => exact vz_a (kd := 3) h
  | 2 => exact vz_a (kd := 2) h
  | 3 => cases h
  | 4 => exact vz_a (kd := 4) h
  | _ + 5 => cases h
theorem mHW (hF : mF ρ K L0) (hI : mI ν ρ K L0 σ0 m σ) (h : mV V κ m = true) : HW V σ (fun x => ρ (κ.getD x 0)) (mN κ m) (mFd ν ρ κ m) (mA ν ρ κ m) := by
  unfold mV at h
  simp only [Bool.and_eq_true] at h
  obtain ⟨h1, h2, h3⟩ := h
  have h1 := Nat.eq_of_beq_eq_true h1
  have hx : ∀ x, x < V.length → mVx V m x (κ.getD x 0) = true := fun x hx => List.all_eq_true.mp h3 x (List.mem_range.mpr hx)
  have hb : ∀ x, x < V.length → κ.getD x 0 < 1000 ∧ 11 ≤ κ.getD x 0 := fun x hl => by
    have w := hx x hl
    unfold mVx at w
    have hl := hI.2.2.1
    split at w
    · rename_i e
      have := rat_lt e
      simp only [Bool.and_eq_true] at w
      have := Nat.le_of_ble_eq_true w.1
      omega
    · rename_i e
      have := rat_lt e
      simp only [Bool.and_eq_true] at w
      have := Nat.le_of_ble_eq_true w.1
      omega
    · cases w
  have ho : ∀ x, x < V.length → varr V x = false → ∃ fs, rat m (κ.getD x 0) = some (.inl (vcls V x, fs)) ∧ fs.length = vnf V x ∧ ∀ j, j < vnf V x → mfk (vfd V x j).1 (fs.getD j (.int 0)) = true := fun x hl ha => by
    have w := hx x hl
    unfold mVx at w
    split at w
    · rename_i q e
      simp only [Bool.and_eq_true] at w
      obtain ⟨-, -, w2, w3, w4⟩ := w
      refine ⟨q.2, ?_, Nat.eq_of_beq_eq_true w3, fun j hj => List.all_eq_true.mp w4 j (List.mem_range.mpr hj)⟩
      rw [e, ← Nat.eq_of_beq_eq_true w2]
    · simp only [Bool.and_eq_true] at w
      rw [w.2.1] at ha
      cases ha
    · cases w
  have hr : ∀ x, x < V.length → varr V x = true → ∃ N dv ov, rat m (κ.getD x 0) = some (.inr (vak V x, N, dv, ov)) ∧ N ≤ 1000000 ∧ vnf V x = 0 ∧ ∀ j, mkd (vak V x) (rlk ov dv j) = true := fun x hl ha => by
    have w := hx x hl
    unfold mVx at w
    split at w
    · simp only [Bool.and_eq_true, Bool.not_eq_true'] at w
      rw [w.2.1] at ha
      cases ha
    · rename_i q e
      simp only [Bool.and_eq_true] at w
      obtain ⟨-, -, w2, w3, w4, w5, w6⟩ := w
      have w2 := Nat.eq_of_beq_eq_true w2
      refine ⟨q.2.1, q.2.2.1, q.2.2.2, ?_, Nat.le_of_ble_eq_true w4, Nat.eq_of_beq_eq_true w3, fun j => ?_⟩
      · rw [e, ← w2]
      · rw [← w2]
        exact mrlk w5 w6
    · cases w
  refine ⟨fun x hl ha => ?_, fun x hl ha => ?_, fun x y hl hl' e => ?_, fun x hl => ?_, fun x k hl => ?_, fun x i hl ha => ?_, fun x hl => ?_⟩
  · obtain ⟨fs, e1, e2, e3⟩ := ho x hl ha
    obtain ⟨qₚ, p1, p2⟩ := hI.1 _ _ e1
    have p2 : qₚ = .inl (vcls V x, mT ν ρ fs) := p2
    rw [p1, p2]
    unfold vcell
    congr 3
    apply List.ext_getElem
    · unfold mT
      rw [List.length_map, List.length_map, List.length_range, e2]
    · intro j a b
      unfold mT at a ⊢
      rw [List.length_map] at a
      rw [List.getElem_map, List.getElem_map, List.getElem_range]
      have w := vz_f (ν := ν) (ρ := ρ) (D := fun x => ρ (κ.getD x 0)) (e3 j (by omega))
      rw [List.getD_eq_getElem?_getD, List.getElem?_eq_getElem a] at w
      have e4 : mFd ν ρ κ m x j = vz ν ρ fs[j] := by
        unfold mFd
        rw [e1]
        show vz ν ρ (fs.getD j (.int 0)) = _
        rw [List.getD_eq_getElem?_getD, List.getElem?_eq_getElem a]
        rfl
      rw [e4]
      exact w.1
  · obtain ⟨N, dv, ov, e1, e2, -, e3⟩ := hr x hl ha
    obtain ⟨qₚ, p1, p2⟩ := hI.1 _ _ e1
    have p2 : ∃ dv' ov', qₚ = .inr (vak V x, N, dv', ov') ∧ ∀ j, rlk ov' dv' j = mg ν ρ (rlk ov dv j) := p2
    obtain ⟨dv', ov', p3, p4⟩ := p2
    refine ⟨dv', ov', ?_, fun j => ?_⟩
    · rw [p1, p3]
      unfold mN
      rw [e1]
    · rw [p4]
      unfold mA
      rw [e1]
      exact (vz_a (e3 _)).1
  · exact mnd_inj h2 (by omega) (by omega) (hF.inj _ _ (hb x hl).1 (hb y hl').1 e)
  · exact hF.lo _ (hb x hl).2 (hb x hl).1
  · cases ha : varr V x with
    | false =>
      obtain ⟨fs, e1, e2, e3⟩ := ho x hl ha
      have e4 : mFd ν ρ κ m x k = vz ν ρ (fs.getD k (.int 0)) := by
        unfold mFd
        rw [e1]
      rw [e4]
      by_cases w : k < vnf V x
      · exact (vz_f (ν := ν) (ρ := ρ) (D := fun _ => 0) (e3 k w)).2
      · rw [List.getD_eq_getElem?_getD, List.getElem?_eq_none (by omega)]
        unfold vfd
        rw [List.getD_eq_getElem?_getD, List.getElem?_eq_none (by unfold vnf at w; omega)]
        exact i32r 0
    | true =>
      obtain ⟨N, dv, ov, e1, -, e2, -⟩ := hr x hl ha
      have e4 : mFd ν ρ κ m x k = 0 := by
        unfold mFd
        rw [e1]
      rw [e4]
      unfold vfd
      rw [List.getD_eq_getElem?_getD, List.getElem?_eq_none (by unfold vnf at e2; omega)]
      exact ⟨by decide, by decide⟩
  · obtain ⟨N, dv, ov, e1, e2, -, e3⟩ := hr x hl ha
    have e4 : mA ν ρ κ m x i = vz ν ρ (rlk ov dv i.toNat) := by
      unfold mA
      rw [e1]
    rw [e4]
    exact (vz_a (e3 _)).2
  · cases ha : varr V x with
    | false =>
      obtain ⟨fs, e1, -, -⟩ := ho x hl ha
      have e4 : mN κ m x = 0 := by
        unfold mN
        rw [e1]
      rw [e4]
      exact Nat.zero_le _
    | true =>
      obtain ⟨N, dv, ov, e1, e2, -, -⟩ := hr x hl ha
      have e4 : mN κ m x = N := by
        unfold mN
        rw [e1]
      rw [e4]
      exact e2
end YV
