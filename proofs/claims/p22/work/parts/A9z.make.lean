/-! what is made late: a run over numbers of its own (the first 11 are the static arrays, the next ones things that are there already, then what is made), wherever these lie -/
section MK
/-- names: of ints, of longs, of references that may be null -/
abbrev mE : Type := rV × (Nat → Option Nat)
def mg (ν : mE) (ρ : Nat → Nat) : Value → Value
  | .float k => .int (ν.1.1 k.toNat)
  | .double k => .long (ν.1.2 k.toNat)
  | .ref a => .ref (ρ a)
  | .int v => .int v
  | .long v => .long v
  | .null => .null
  | .retAddr p => match ν.2 p with
    | some a => .ref a
    | none => .null
theorem mg_cat (ν : mE) (ρ : Nat → Nat) (v : Value) : (mg ν ρ v).category = v.category := by
  cases v with
  | retAddr p =>
    show (match ν.2 p with | some a => Value.ref a | none => Value.null).category = _
    cases ν.2 p <;> rfl
  | _ => rfl
theorem mg_i {ν : mE} {ρ : Nat → Nat} {v : Value} (h : risI v = true) : ∃ w, mg ν ρ v = .int w := by cases v <;> first | exact ⟨_, rfl⟩ | cases h
def mL (ν : mE) (ρ : Nat → Nat) (l : rO) : rO := l.map (fun q => (q.1, mg ν ρ q.2))
def mT (ν : mE) (ρ : Nat → Nat) (l : List Value) : List Value := l.map (mg ν ρ)
variable {ν : mE} {ρ : Nat → Nat}
theorem mL_look : ∀ (l : rO) (i : Nat), rlook (mL ν ρ l) i = (rlook l i).map (mg ν ρ)
  | [], _ => rfl
  | q :: l, i => by
    show @Bool.rec (fun _ => Option Value) (rlook (mL ν ρ l) i) (some (mg ν ρ q.2)) (Nat.beq q.1 i) = (@Bool.rec (fun _ => Option Value) (rlook l i) (some q.2) (Nat.beq q.1 i)).map (mg ν ρ)
    cases Nat.beq q.1 i with
    | true => rfl
    | false => exact mL_look l i
theorem mL_drp {f : Nat × Value → Bool} (hf : ∀ a v, f (a, mg ν ρ v) = f (a, v)) : ∀ l : rO, rdrp f (mL ν ρ l) = mL ν ρ (rdrp f l)
  | [] => rfl
  | (a, v) :: l => by
    show @Bool.rec (fun _ => rO) (rdrp f (mL ν ρ l)) ((a, mg ν ρ v) :: rdrp f (mL ν ρ l)) (f (a, mg ν ρ v)) = mL ν ρ (@Bool.rec (fun _ => rO) (rdrp f l) ((a, v) :: rdrp f l) (f (a, v)))
    rw [hf, mL_drp hf l]
    cases f (a, v) <;> rfl
theorem mL_set {l : rO} {i : Nat} {v : Value} : rset (mL ν ρ l) i (mg ν ρ v) = mL ν ρ (rset l i v) := by
  show (i, mg ν ρ v) :: rdrp (fun q => rkp q i) (mL ν ρ l) = (i, mg ν ρ v) :: mL ν ρ (rdrp (fun q => rkp q i) l)
  rw [mL_drp (fun a w => by unfold rkp; simp only [mg_cat]) l]
theorem mT_words : ∀ l : List Value, rwords (mT ν ρ l) = rwords l
  | [] => rfl
  | v :: l => by
    show (mg ν ρ v).category + rwords (mT ν ρ l) = v.category + rwords l
    rw [mg_cat, mT_words l]
theorem mT_args : ∀ (l : List Value) (i : Nat), rargs i (mT ν ρ l) = mL ν ρ (rargs i l)
  | [], _ => rfl
  | v :: l, i => by
    show (i, mg ν ρ v) :: rargs (i + (mg ν ρ v).category) (mT ν ρ l) = (i, mg ν ρ v) :: mL ν ρ (rargs (i + v.category) l)
    rw [mg_cat, mT_args l]
theorem mT_popn : ∀ (n : Nat) (acc st : List Value), rpopn n (mT ν ρ acc) (mT ν ρ st) = (rpopn n acc st).map (fun z => (mT ν ρ z.1, mT ν ρ z.2))
  | 0, _, _ => rfl
  | _ + 1, _, [] => rfl
  | n + 1, acc, v :: st => mT_popn n (v :: acc) st
theorem rfit_mg {t : Nat} {v : Value} (h : rfit t v = true) : rfit t (mg ν ρ v) = true := by
  match t with
  | 0 => cases v <;> first | rfl | cases h
  | 1 => cases v <;> first | exact h | cases h
  | 2 => cases v <;> first | rfl | cases h
  | 3 => cases v <;> first | rfl | cases h
  | _ + 4 => cases h
theorem rretok_mg {t : Nat} {v : Option Value} (h : rretok t v = true) : rretok t (v.map (mg ν ρ)) = true := by
  cases v with
  | none => exact h
  | some v =>
    have h : (Nat.blt t 4 && rfit t v) = true := h
    rw [Bool.and_eq_true] at h
    show (Nat.blt t 4 && rfit t (mg ν ρ v)) = true
    rw [h.1, rfit_mg h.2]
    rfl
/-- a cell and the cell that it stands for -/
def mC (ν : mE) (ρ : Nat → Nat) : rC → rC → Prop
  | .inl p, q => q = .inl (p.1, mT ν ρ p.2)
  | .inr p, q => ∃ dv ov, q = .inr (p.1, p.2.1, dv, ov) ∧ ∀ j, rlk ov dv j = mg ν ρ (rlk p.2.2.2 p.2.2.1 j)
def mF (ρ : Nat → Nat) (K L0 : Nat) : Prop := (∀ j k, j < 1000 → k < 1000 → ρ j = ρ k → j = k) ∧ (∀ k, K ≤ k → k < 1000 → ρ k = L0 + (k - K)) ∧ (∀ k, 11 ≤ k → k < 1000 → 12 ≤ ρ k) ∧ (∀ k, k < 11 → ρ k = k)
theorem mF.inj {K L0 : Nat} (h : mF ρ K L0) : ∀ j k, j < 1000 → k < 1000 → ρ j = ρ k → j = k := h.1
theorem mF.new {K L0 : Nat} (h : mF ρ K L0) : ∀ k, K ≤ k → k < 1000 → ρ k = L0 + (k - K) := h.2.1
theorem mF.lo {K L0 : Nat} (h : mF ρ K L0) : ∀ k, 11 ≤ k → k < 1000 → 12 ≤ ρ k := h.2.2.1
theorem mF.st {K L0 : Nat} (h : mF ρ K L0) : ∀ k, k < 11 → ρ k = k := h.2.2.2
def mI (ν : mE) (ρ : Nat → Nat) (K L0 : Nat) (σ0 m σ : rS) : Prop :=
  (∀ k q, rat m k = some q → ∃ qₚ, rat σ (ρ k) = some qₚ ∧ mC ν ρ q qₚ) ∧ K ≤ m.length ∧ m.length ≤ 1000 ∧ σ.length = L0 + (m.length - K) ∧ (∀ a, a < L0 → (∀ k, k < K → ρ k ≠ a) → rat σ a = rat σ0 a)
variable {K L0 : Nat} {σ0 σ m : rS}
theorem rat_lt {σ : rS} {a : Nat} {q : rC} (h : rat σ a = some q) : a < σ.length := by
  rw [rat_eq] at h
  obtain ⟨hl, -⟩ := List.getElem?_eq_some_iff.mp h
  exact hl
theorem mI_set (hF : mF ρ K L0) (h : mI ν ρ K L0 σ0 m σ) {k : Nat} {q qₚ p : rC} (hk : rat m k = some p) (hq : mC ν ρ q qₚ) : mI ν ρ K L0 σ0 (rstl m k q) (rstl σ (ρ k) qₚ) := by
  obtain ⟨h1, h2, h3, h4, h5⟩ := h
  have hl : (rstl m k q).length = m.length := by rw [rstl_eq, List.length_set]
  have hl' : (rstl σ (ρ k) qₚ).length = σ.length := by rw [rstl_eq, List.length_set]
  have hkm := rat_lt hk
  obtain ⟨pₚ, e, -⟩ := h1 k p hk
  refine ⟨fun j z hj => ?_, by omega, by omega, by omega, fun a ha hn => ?_⟩
  · by_cases w : k = j
    · subst w
      rw [rat_same hk] at hj
      cases hj
      exact ⟨qₚ, rat_same e, hq⟩
    · rw [rat_other w] at hj
      have := rat_lt hj
      obtain ⟨z', e1, e2⟩ := h1 j z hj
      exact ⟨z', by rw [rat_other (fun x => w (hF.inj k j (by omega) (by omega) x))]; exact e1, e2⟩
  · rw [rat_other (fun x => ?_)]
    · exact h5 a ha hn
    · by_cases w : k < K
      · exact hn k w x
      · have := hF.new k (by omega) (by omega)
        omega
theorem mI_app (hF : mF ρ K L0) (h : mI ν ρ K L0 σ0 m σ) {q qₚ : rC} (hl : m.length < 1000) (hq : mC ν ρ q qₚ) : mI ν ρ K L0 σ0 (m ++ [q]) (σ ++ [qₚ]) ∧ ρ m.length = σ.length := by
  obtain ⟨h1, h2, h3, h4, h5⟩ := h
  have e := hF.new m.length (by omega) hl
  have e' : ρ m.length = σ.length := by omega
  have l1 : (m ++ [q]).length = m.length + 1 := by simp
  have l2 : (σ ++ [qₚ]).length = σ.length + 1 := by simp
  refine ⟨⟨fun k z hk => ?_, by omega, by omega, by omega, fun a ha hn => ?_⟩, e'⟩
  · have := rat_lt hk
    by_cases w : k < m.length
    · rw [rat_app w] at hk
      obtain ⟨z', e1, e2⟩ := h1 k z hk
      exact ⟨z', by rw [rat_app (rat_lt e1)]; exact e1, e2⟩
    · have : k = m.length := by omega
      subst this
      rw [rat_new] at hk
      cases hk
      exact ⟨qₚ, by rw [e', rat_new], hq⟩
  · rw [rat_app (by omega)]
    exact h5 a ha hn
def mpl : Value → Bool
  | .int _ => true
  | .long _ => true
  | .null => true
  | _ => false
theorem mpl_mg {v : Value} (h : mpl v = true) : mg ν ρ v = v := by cases v <;> first | rfl | cases h
theorem mpl_all : ∀ {l : List Value}, l.all mpl = true → mT ν ρ l = l
  | [], _ => rfl
  | v :: l, h => by
    rw [List.all_cons, Bool.and_eq_true] at h
    show mg ν ρ v :: mT ν ρ l = v :: l
    rw [mpl_mg h.1, mpl_all h.2]
theorem mrdef (t : Nat) : mg ν ρ (rdef t) = rdef t := by
  match t with
  | 0 => rfl
  | 1 => rfl
  | 2 => rfl
  | 3 => rfl
  | _ + 4 => rfl
theorem mC_new {t n : Nat} : mC ν ρ (.inr (t, n, rdef t, [])) (.inr (t, n, rdef t, [])) := ⟨rdef t, [], rfl, fun j => by show rdef t = mg ν ρ (rdef t); rw [mrdef]⟩
theorem mC_up {t n x : Nat} {dv dv' v : Value} {ov ov' : rO} (h : ∀ j, rlk ov' dv' j = mg ν ρ (rlk ov dv j)) : mC ν ρ (.inr (t, n, dv, rup ov x v)) (.inr (t, n, dv', rup ov' x (mg ν ρ v))) := ⟨dv', _, rfl, fun j => by
  show rlk (rup ov' x (mg ν ρ v)) dv' j = mg ν ρ (rlk (rup ov x v) dv j)
  rw [rlk_rup, rlk_rup, h]
  split <;> rfl⟩
theorem mrkin {EC : Nat → Nat} {t : Nat} {v : Value} (h : mI ν ρ K L0 σ0 m σ) (hk : rkin EC m t v = true) : rkin EC σ t (mg ν ρ v) = true := by
  cases v with
  | null => rfl
  | ref b =>
    unfold rkin at hk
    split at hk
    · rename_i e; cases e
    · rename_i b' e
      cases e
      split at hk
      · rename_i q e2
        obtain ⟨qₚ, e3, e4⟩ := h.1 b _ e2
        show (match rat σ (ρ b) with | some (.inl q) => Nat.beq q.1 (EC t) | _ => false) = true
        rw [e3, show qₚ = _ from e4]
        exact hk
      · cases hk
    · rename_i e1 e2; exact (e2 b rfl).elim
  | int _ => cases hk
  | long _ => cases hk
  | float _ => cases hk
  | double _ => cases hk
  | retAddr _ => cases hk
abbrev mS : Type := Nat × rO × List Value × rS × Nat × Nat
noncomputable def mjmp (pc : Nat) (off : Int) (c : Nat → Option mS) : Option mS :=
  match (pc : Int) + off with
  | .ofNat t => c t
  | .negSucc _ => none
noncomputable def mbin (o : Nat) (pc : Nat) (ls : rO) (st : List Value) (m : rS) (c s : Nat) : Option mS :=
  match st with
  | .int b :: .int a :: st => rci (rop o a b) (fun v => some (pc + 1, ls, .int v :: st, m, c, s))
  | _ => none
noncomputable def mnewa (kd w : Nat) (pc : Nat) (ls : rO) (st : List Value) (m : rS) (c s : Nat) : Option mS :=
  match st with
  | .int j :: st => match !(decide (j < 0)) && (Nat.ble j.toNatClampNeg 1000000 && Nat.blt m.length 1000) with
    | true => some (pc + w, ls, .ref m.length :: st, m ++ [.inr (kd, j.toNatClampNeg, rdef kd, [])], c + 1, s + j.toNatClampNeg)
    | false => none
  | _ => none
noncomputable def mread (t : Nat) (m : rS) (a : Nat) (j : Int32) : Option Value :=
  match rat m a with
  | some (.inr q) => match !(decide (j < 0)) && (Nat.blt j.toNatClampNeg q.2.1 && Nat.beq q.1 t) with
    | true => some (rlk q.2.2.2 q.2.2.1 j.toNatClampNeg)
    | false => none
  | _ => none
noncomputable def mwrite (t : Nat) (m : rS) (a : Nat) (j : Int32) (v : Value) : Option rS :=
  match rat m a with
  | some (.inr q) => match !(decide (j < 0)) && (Nat.blt j.toNatClampNeg q.2.1 && (Nat.beq q.1 t && Nat.ble 11 a)) with
    | true => some (rstl m a (.inr (q.1, q.2.1, q.2.2.1, rup q.2.2.2 j.toNatClampNeg v)))
    | false => none
  | _ => none
noncomputable def mstep (i : Instr) (len : Nat) (act : rA) (μ pc : Nat) (ls : rO) (st : List Value) (m : rS) (c s : Nat) : Option mS :=
  match i with
  | .aload_n x => match rlook ls x with
    | some (.ref a) => some (pc + 1, ls, .ref a :: st, m, c, s)
    | _ => none
  | .iload_n x => match rlook ls x with
    | some (.int v) => some (pc + 1, ls, .int v :: st, m, c, s)
    | _ => none
  | .iload x => match rlook ls x with
    | some (.int v) => some (pc + 2, ls, .int v :: st, m, c, s)
    | _ => none
  | .istore_n x => match st with
    | .int v :: st => some (pc + 1, rset ls x (.int v), st, m, c, s)
    | _ => none
  | .istore x => match st with
    | .int v :: st => some (pc + 2, rset ls x (.int v), st, m, c, s)
    | _ => none
  | .astore_n x => match st with
    | .ref v :: st => some (pc + 1, rset ls x (.ref v), st, m, c, s)
    | _ => none
  | .iconst z => rci (Int32.ofInt z) (fun v => some (pc + 1, ls, .int v :: st, m, c, s))
  | .bipush z => rci (Int8.ofInt z).toInt32 (fun v => some (pc + 2, ls, .int v :: st, m, c, s))
  | .sipush z => rci (Int16.ofInt z).toInt32 (fun v => some (pc + 3, ls, .int v :: st, m, c, s))
  | .lconst x => rcl (Int64.ofNat (x : Nat)) (fun v => some (pc + 1, ls, .long v :: st, m, c, s))
  | .ldc2_w _ => match act.2.2.2 with
    | .long v => some (pc + 3, ls, .long v :: st, m, c, s)
    | _ => none
  | .ldc _ => match act.2.2.2 with
    | .int v => some (pc + 2, ls, .int v :: st, m, c, s)
    | _ => none
  | .dup => match st with
    | v :: st => match Nat.beq v.category 1 with
      | true => some (pc + 1, ls, v :: v :: st, m, c, s)
      | false => none
    | _ => none
  | .dup2 => match st with
    | x :: y :: st => match Nat.beq x.category 1 && Nat.beq y.category 1 with
      | true => some (pc + 1, ls, x :: y :: x :: y :: st, m, c, s)
      | false => none
    | _ => none
  | .goto off => mjmp pc off (fun t => some (t, ls, st, m, c, s))
  | .iadd => mbin 0 pc ls st m c s
  | .isub => mbin 1 pc ls st m c s
  | .iand => mbin 3 pc ls st m c s
  | .ishl => mbin 6 pc ls st m c s
  | .ishr => mbin 7 pc ls st m c s
  | .if_icmp k off => match st with
    | .int y :: .int x :: st => mjmp pc off (fun t => match rcmp (rcond k) x y with
      | true => some (t, ls, st, m, c, s)
      | false => some (pc + 3, ls, st, m, c, s))
    | _ => none
  | .ifCond k off => match st with
    | .int x :: st => mjmp pc off (fun t => match rcmp (rcond k) x 0 with
      | true => some (t, ls, st, m, c, s)
      | false => some (pc + 3, ls, st, m, c, s))
    | _ => none
  | .ifnonnull off => match st with
    | .ref _ :: st => mjmp pc off (fun t => some (t, ls, st, m, c, s))
    | .null :: st => mjmp pc off (fun _ => some (pc + 3, ls, st, m, c, s))
    | _ => none
  | .iinc x z => match rlook ls x with
    | some (.int v) => rci (Int32.ofInt (v.toInt + z)) (fun w => some (pc + len, rset ls x (.int w), st, m, c, s))
    | _ => none
  | .getstatic _ => match Nat.blt act.2.1 11 with
    | true => some (pc + 3, ls, .ref act.2.1 :: st, m, c, s)
    | false => none
  | .getfield _ => match st with
    | .ref a :: st => match rat m a with
      | some (.inl q) => match Nat.beq q.1 act.2.1 with
        | true => match rnth q.2 act.2.2.1 with
          | some v => some (pc + 3, ls, v :: st, m, c, s)
          | none => none
        | false => none
      | _ => none
    | _ => none
  | .putfield _ => match st with
    | v :: .ref a :: st => match act.2.2.2 with
      | .ref tag => match rat m a with
        | some (.inl q) => match (Nat.blt tag 8 || (Nat.blt tag 16 && PP.2.2.2.1 μ)) && (Nat.beq q.1 act.2.1 && (Nat.blt act.2.2.1 q.2.length && (Nat.ble 11 a && rfit (tag % 8) v))) with
          | true => some (pc + 3, ls, st, rstl m a (.inl (q.1, rstl q.2 act.2.2.1 v)), c, s)
          | false => none
        | _ => none
      | _ => none
    | _ => none
  | .iaload => match st with
    | .int j :: .ref a :: st => match mread 1 m a j with
      | some (.int w) => some (pc + 1, ls, .int w :: st, m, c, s)
      | _ => none
    | _ => none
  | .aaload => match st with
    | .int j :: .ref a :: st => match mread 5 m a j with
      | some (.ref w) => some (pc + 1, ls, .ref w :: st, m, c, s)
      | _ => none
    | _ => none
  | .iastore => match st with
    | .int w :: .int j :: .ref a :: st => match mwrite 1 m a j (.int w) with
      | some m' => some (pc + 1, ls, st, m', c, s)
      | none => none
    | _ => none
  | .lastore => match st with
    | .long w :: .int j :: .ref a :: st => match mwrite 2 m a j (.long w) with
      | some m' => some (pc + 1, ls, st, m', c, s)
      | none => none
    | _ => none
  | .aastore => match st with
    | v :: .int j :: .ref a :: st => match rkin PP.2.2.2.2.2.1 m 5 v with
      | true => match mwrite 5 m a j v with
        | some m' => some (pc + 1, ls, st, m', c, s)
        | none => none
      | false => match rkin PP.2.2.2.2.2.1 m 6 v with
        | true => match mwrite 6 m a j v with
          | some m' => some (pc + 1, ls, st, m', c, s)
          | none => none
        | false => match rkin PP.2.2.2.2.2.1 m 4 v with
          | true => match mwrite 4 m a j v with
            | some m' => some (pc + 1, ls, st, m', c, s)
            | none => none
          | false => none
    | _ => none
  | .newarray ty => match ty with
    | .byte => mnewa 0 2 pc ls st m c s
    | .int => mnewa 1 2 pc ls st m c s
    | .long => mnewa 2 2 pc ls st m c s
    | .boolean => mnewa 3 2 pc ls st m c s
    | _ => none
  | .anewarray _ => match Nat.ble 4 act.2.1 && Nat.blt act.2.1 7 with
    | true => mnewa act.2.1 3 pc ls st m c s
    | false => none
  | .multianewarray _ _ => match st with
    | .int b :: .int a :: st => match (!(decide (b < 0)) && decide (a = 3)) && (Nat.ble b.toNatClampNeg 1000000 && Nat.blt (m.length + 3) 1000) with
      | true => some (pc + 4, ls, .ref m.length :: st, m ++ [.inr (7, 3, .null, [(0, .ref (m.length + 1)), (1, .ref (m.length + 2)), (2, .ref (m.length + 3))]), .inr (1, b.toNatClampNeg, .int 0, []), .inr (1, b.toNatClampNeg, .int 0, []), .inr (1, b.toNatClampNeg, .int 0, [])], c + 4, s + (3 + 3 * b.toNatClampNeg))
      | false => none
    | _ => none
  | .new _ => match (PP.2.2.2.2.1 act.2.1).all mpl && Nat.blt m.length 1000 with
    | true => some (pc + 3, ls, .ref m.length :: st, m ++ [.inl (act.2.1, PP.2.2.2.2.1 act.2.1)], c + 1, s + act.2.2.1)
    | false => none
  | .invokespecial _ => match act.1 with
    | 26 => match st with
      | .ref _ :: st => match Nat.ble (rwords st) 8 with
        | true => some (pc + 3, ls, st, m, c, s)
        | false => none
      | _ => none
    | _ => none
  | .invokestatic _ => match act.1 with
    | 27 => match st with
      | .int n :: .int dp :: .ref a :: .int sp :: .ref a0 :: st => match rat m a, rat m a0 with
        | some (.inr q), some (.inr q0) => match (Nat.ble (rwords st) 8 && !(decide (n < 0) || (decide (dp < 0) || decide (sp < 0)))) && (Nat.beq q.1 1 && (Nat.beq q0.1 1 && (Nat.ble (sp.toNatClampNeg + n.toNatClampNeg) q0.2.1 && (Nat.ble (dp.toNatClampNeg + n.toNatClampNeg) q.2.1 && (Nat.ble 11 a && rcall0 1 q0.2.2.2 q0.2.2.1 sp.toNatClampNeg n.toNatClampNeg))))) with
          | true => some (pc + 3, ls, st, rstl m a (.inr (q.1, q.2.1, q.2.2.1, rcpy q0.2.2.2 q0.2.2.1 sp.toNatClampNeg dp.toNatClampNeg n.toNatClampNeg q.2.2.2)), c, s)
          | false => none
        | _, _ => none
      | _ => none
    | _ => none
  | _ => none
end MK
noncomputable def mret (i : Instr) (st : List Value) : Option (Option Value) :=
  match i with
  | .return_ => match st with
    | [] => some none
    | _ => none
  | .areturn => match st with
    | [.ref a] => some (some (.ref a))
    | _ => none
  | _ => none
noncomputable def mcalo (b : Bool) (act : rA) (st : List Value) (m : rS) : Option (List Value × List Value) :=
  match rpopn act.2.2.1 [] st with
  | some (vs, .ref a :: rest) => match rat m a with
    | some (.inl q) => match act.2.2.2 with
      | .ref ci => match b && (Nat.beq q.1 ci && (Nat.ble (rwords rest) 8 && Nat.ble (rwords (.ref a :: vs)) (PP.2.1 act.2.1))) with
        | true => some (.ref a :: vs, rest)
        | false => none
      | _ => none
    | _ => none
  | _ => none
noncomputable def mcal (i : Instr) (act : rA) (st : List Value) (m : rS) : Option (List Value × List Value) :=
  match i with
  | .invokestatic _ => match rpopn act.2.2.1 [] st with
    | some (vs, rest) => match (Nat.beq act.1 24 || Nat.beq act.1 25) && (Nat.ble (rwords rest) 8 && Nat.ble (rwords vs) (PP.2.1 act.2.1)) with
      | true => some (vs, rest)
      | false => none
    | none => none
  | .invokevirtual _ => mcalo (Nat.beq act.1 20 || Nat.beq act.1 21) act st m
  | .invokespecial _ => mcalo (Nat.beq act.1 22 || Nat.beq act.1 23) act st m
  | _ => none
abbrev mR : Type := Option Value × rS × Nat × Nat
noncomputable def mrun : Nat → Nat → Nat → Nat → rO → List Value → rS → Nat → Nat → Option mR
  | 0, _, _, _, _, _, _, _, _ => none
  | n + 1, d, μ, pc, ls, st, m, c, s => match PP.1 μ pc with
    | none => none
    | some q => match mret q.1 st with
      | some v => some (v, m, c, s)
      | none => match mcal q.1 q.2.2 st m with
        | some z => match d with
          | 0 => none
          | d' + 1 => match mrun n d' q.2.2.2.1 0 (rargs 0 z.1) [] m 0 0 with
            | some y => match rretok (PP.2.2.1 q.2.2.2.1) y.1 with
              | true => rn (pc + 3) (fun pcₚ => mrun n (d' + 1) μ pcₚ ls (y.1.toList ++ z.2) y.2.1 (c + y.2.2.1) (s + y.2.2.2))
              | false => none
            | none => none
        | none => match mstep q.1 q.2.1 q.2.2 μ pc ls st m c s with
          | some t => rn t.1 (fun pcₚ => mrun n d μ pcₚ t.2.1 t.2.2.1 t.2.2.2.1 t.2.2.2.2.1 t.2.2.2.2.2)
          | none => none
