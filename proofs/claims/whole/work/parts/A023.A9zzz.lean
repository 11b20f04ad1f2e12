section
/-! A9zzz.run -/
section YT
variable {ν : mE} {ρ : Nat → Nat} {K L0 : Nat} {σ0 : rS}
theorem mstep_ok (hF : mF ρ K L0) {i : Instr} {μ d pc c s len : Nat} {act : rA} {ls : rO} {st : List Value} {m : rS} {t : mS} (hf : PP.1 μ pc = some (i, len, act)) (h : mstep i len act μ pc ls st m c s = some t) : mOK ν ρ K L0 σ0 μ d pc ls st m c s t := by
  cases i with
  | aload_n x => exact s_aload_n hf h
  | iload_n x => exact s_iload_n hf h
  | iload x => exact s_iload hf h
  | istore_n x => exact s_istore_n hf h
  | istore x => exact s_istore hf h
  | astore_n x => exact s_astore_n hf h
  | iconst z => exact s_iconst hf h
  | bipush z => exact s_bipush hf h
  | sipush z => exact s_sipush hf h
  | lconst z => exact s_lconst hf h
  | ldc2_w x => exact s_ldc2 hf h
  | ldc x => exact s_ldc hf h
  | dup => exact s_dup hf h
  | dup2 => exact s_dup2 hf h
  | goto off => exact s_goto hf h
  | iadd => exact s_bin (i := .iadd) (o := 0) (fun a b l c s σ r hr => x_iadd hf (toI_of _).symm hr) h
  | isub => exact s_bin (i := .isub) (o := 1) (fun a b l c s σ r hr => x_isub hf (toI_of _).symm hr) h
  | iand => exact s_bin (i := .iand) (o := 3) (fun a b l c s σ r hr => x_iand hf (toI_of _).symm hr) h
  | ishl => exact s_bin (i := .ishl) (o := 6) (fun a b l c s σ r hr => x_ishl hf (toI_of _).symm hr) h
  | ishr => exact s_bin (i := .ishr) (o := 7) (fun a b l c s σ r hr => x_ishr hf (toI_of _).symm hr) h
  | if_icmp k off => exact s_icmp hf h
  | ifCond k off => exact s_ifc hf h
  | ifnonnull off => exact s_ifnn hf h
  | iinc x z => exact s_iinc hf h
  | getstatic x => exact s_getstatic hF hf h
  | getfield x => exact s_getfield hf h
  | putfield x => exact s_putfield hF hf h
  | iaload => exact s_iaload hf h
  | aaload => exact s_aaload hf h
  | iastore => exact s_iastore hF hf h
  | lastore => exact s_lastore hF hf h
  | aastore => exact s_aastore hF hf h
  | newarray ty =>
    cases ty with
    | byte => exact s_newa hF (fun j l c s σ r h1 h2 hr => y_newa hf (fun _ => rfl) h1 h2 hr) h
    | int => exact s_newa hF (fun j l c s σ r h1 h2 hr => y_newa hf (fun _ => rfl) h1 h2 hr) h
    | long => exact s_newa hF (fun j l c s σ r h1 h2 hr => y_newa hf (fun _ => rfl) h1 h2 hr) h
    | boolean => exact s_newa hF (fun j l c s σ r h1 h2 hr => y_newa hf (fun _ => rfl) h1 h2 hr) h
    | _ => exact absurd h (fun e => by unfold mstep at e; cases e)
  | anewarray x =>
    unfold mstep at h
    dsimp only at h
    split at h
    · rename_i e
      refine s_newa hF (fun j l c s σ r h1 h2 hr => y_newa hf (fun rec => ?_) h1 h2 hr) h
      show (match Nat.ble 4 act.2.1 && Nat.blt act.2.1 7 with | true => _ | false => _) = _
      rw [e]
    · cases h
  | multianewarray x y => exact s_multi hF hf h
  | new x => exact s_new hF hf h
  | invokespecial x => exact s_special hf h
  | invokestatic x => exact s_static hF hf h
  | _ => exact absurd h (fun e => by unfold mstep at e; cases e)
theorem rinvs {μ d pc c s len : Nat} {ls : rO} {st : List Value} {σ : rS} {μ' n : Nat} {ci b x : Nat} {vs rest : List Value} {fs : List Value} {q : Nat} (hq : (Nat.beq q 22 || Nat.beq q 23) = true) (hp : rpopn n [] st = some (vs, .ref b :: rest)) (hc : rat σ b = some (.inl (ci, fs))) (rec : rF) :
    rinstr PP rec μ (d + 1) pc ls st σ 0 [] c s (.invokespecial x) len (q, μ', n, .ref ci) = rcall PP.2.1 PP.2.2.1 PP.2.2.2.2.2.2.2 rec μ (d + 1) pc ls μ' (.ref b :: vs) rest σ 0 [] c s := by
  simp only [Bool.or_eq_true] at hq
  have main : rinv PP.2.1 PP.2.2.1 PP.2.2.2.2.2.2.2 rec μ (d + 1) pc ls st σ 0 [] c s (q, μ', n, .ref ci) = rcall PP.2.1 PP.2.2.1 PP.2.2.2.2.2.2.2 rec μ (d + 1) pc ls μ' (.ref b :: vs) rest σ 0 [] c s := by
    unfold rinv
    rw [show rpopn (q, μ', n, Value.ref ci).2.2.1 [] st = some (vs, .ref b :: rest) from hp]
    have h24 : Nat.ble 24 q = false := by
      rcases hq with h | h
      · rw [Nat.eq_of_beq_eq_true h]; rfl
      · rw [Nat.eq_of_beq_eq_true h]; rfl
    show (match Nat.ble 24 q with | true => _ | false => _) = _
    rw [h24]
    show rinvo PP.2.1 PP.2.2.1 PP.2.2.2.2.2.2.2 rec μ (d + 1) pc ls vs (.ref b :: rest) σ 0 [] c s (q, μ', n, .ref ci) = _
    unfold rinvo
    simp only [hc, Nat.beq_refl]
  rcases hq with h | h
  · have := Nat.eq_of_beq_eq_true h
    subst this
    exact main
  · have := Nat.eq_of_beq_eq_true h
    subst this
    exact main
theorem mcalo_ok {b : Bool} {act : rA} {st vs rest : List Value} {m σ : rS} (hI : mI ν ρ K L0 σ0 m σ) (h : mcalo b act st m = some (vs, rest)) : ∃ a vs' ci fs, vs = .ref a :: vs' ∧ act.2.2.2 = .ref ci ∧ b = true ∧ rpopn act.2.2.1 [] (mT ν ρ st) = some (mT ν ρ vs', .ref (ρ a) :: mT ν ρ rest) ∧ rat σ (ρ a) = some (.inl (ci, fs)) ∧ (Nat.ble (rwords (mT ν ρ rest)) 8 && Nat.ble (rwords (mT ν ρ vs)) (PP.2.1 act.2.1)) = true := by
  unfold mcalo at h
  split at h
  · rename_i vs' a rest' e
    split at h
    · rename_i q e1
      split at h
      · rename_i ci e2
        split at h
        · rename_i e3
          cases h
          simp only [Bool.and_eq_true] at e3
          obtain ⟨h1, h2, h3, h4⟩ := e3
          obtain ⟨qₚ, p1, p2⟩ := hI.1 a _ e1
          have p2 : qₚ = .inl (q.1, mT ν ρ q.2) := p2
          rw [p2, Nat.eq_of_beq_eq_true h2] at p1
          have w := mT_popn (ν := ν) (ρ := ρ) act.2.2.1 [] st
          rw [e] at w
          refine ⟨a, vs', ci, _, rfl, e2, h1, w, p1, ?_⟩
          rw [mT_words, mT_words, h3, h4]
          rfl
        · cases h
      · cases h
    · cases h
  · cases h
theorem Ew_c {μ d pc c s cₚ sₚ : Nat} {ls : rO} {st : List Value} {σ : rS} {Q : wQ} (e : c = cₚ) (e' : s = sₚ) (h : Ew μ d pc ls st σ c s Q) : Ew μ d pc ls st σ cₚ sₚ Q := e ▸ e' ▸ h
theorem mcal_ok {i : Instr} {μ d pc c s len : Nat} {act : rA} {ls : rO} {st vs rest : List Value} {m σ : rS} {Q : wQ} (hI : mI ν ρ K L0 σ0 m σ) (hf : PP.1 μ pc = some (i, len, act)) (h : mcal i act st m = some (vs, rest))
    (h1 : Ew act.2.1 d 0 (mL ν ρ (rargs 0 vs)) [] σ 0 0 (fun v σₚ cₚ sₚ => rretok (PP.2.2.1 act.2.1) v = true ∧ Ew μ (d + 1) (pc + 3) (mL ν ρ ls) (v.toList ++ mT ν ρ rest) σₚ (c + cₚ) (s + sₚ) Q)) : Ew μ (d + 1) pc (mL ν ρ ls) (mT ν ρ st) σ c s Q := by
  obtain ⟨q, μ', n, z⟩ := act
  rw [← mT_args] at h1
  unfold mcal at h
  split at h
  · split at h
    · rename_i vs' rest' e
      split at h
      · rename_i e1
        cases h
        rw [Bool.and_eq_true] at e1
        have hw : (Nat.ble (rwords (mT ν ρ rest)) 8 && Nat.ble (rwords (mT ν ρ vs)) (PP.2.1 μ')) = true := by
          rw [mT_words, mT_words]
          exact e1.2
        have w := mT_popn (ν := ν) (ρ := ρ) n [] st
        have e : rpopn n [] st = some (vs, rest) := e
        rw [e] at w
        have e3 := e1.1
        simp only [Bool.or_eq_true] at e3
        rcases e3 with u | u
        · have u := Nat.eq_of_beq_eq_true u
          have u : q = 24 := u
          subst u
          exact w_stat24 hf w hw h1
        · have u := Nat.eq_of_beq_eq_true u
          have u : q = 25 := u
          subst u
          exact w_stat25 hf w hw h1
      · cases h
    · cases h
  · obtain ⟨a, vs', ci, fs, q1, q2, q3, q4, q5, q6⟩ := mcalo_ok hI h
    have q2 : z = .ref ci := q2
    subst q1 q2
    exact w_callk hf (fun rec => rinvv q3 q4 q5 rec) q6 h1
  · obtain ⟨a, vs', ci, fs, q1, q2, q3, q4, q5, q6⟩ := mcalo_ok hI h
    have q2 : z = .ref ci := q2
    subst q1 q2
    exact w_callk hf (fun rec => rinvs q3 q4 q5 rec) q6 h1
  · cases h
theorem mret_ok {i : Instr} {μ d pc c s len : Nat} {act : rA} {ls : rO} {st : List Value} {σ : rS} {v : Option Value} {Q : wQ} (hf : PP.1 μ pc = some (i, len, act)) (h : mret i st = some v) (hQ : Q (v.map (mg ν ρ)) σ c s) : Ew μ d pc (mL ν ρ ls) (mT ν ρ st) σ c s Q := by
  unfold mret at h
  split at h
  · split at h
    · cases h
      exact w_ret hf hQ
    · cases h
  · split at h
    · cases h
      exact ⟨_, _, _, _, x_areturn hf, hQ⟩
    · cases h
  · cases h
theorem mrun_ok (hF : mF ρ K L0) : ∀ (n d μ pc : Nat) (ls : rO) (st : List Value) (m : rS) (c s : Nat) (y : mR), mrun n d μ pc ls st m c s = some y → ∀ (C S : Nat) (σ : rS) (Q : wQ), mI ν ρ K L0 σ0 m σ → (∀ σₚ, mI ν ρ K L0 σ0 y.2.1 σₚ → Q (y.1.map (mg ν ρ)) σₚ (C + y.2.2.1) (S + y.2.2.2)) → Ew μ d pc (mL ν ρ ls) (mT ν ρ st) σ (C + c) (S + s) Q
  | 0, _, _, _, _, _, _, _, _, _, h => by unfold mrun at h; cases h
  | n + 1, d, μ, pc, ls, st, m, c, s, y, h => by
    intro C S σ Q hI hQ
    unfold mrun at h
    split at h
    · cases h
    · rename_i q hf
      obtain ⟨i, len, act⟩ := q
      dsimp only at h
      split at h
      · rename_i v e
        cases h
        exact mret_ok hf e (hQ σ hI)
      · split at h
        · rename_i z e
          split at h
          · cases h
          · rename_i d'
            split at h
            · rename_i y1 e1
              split at h
              · rename_i e2
                rw [rn_eq] at h
                obtain ⟨vs, rest⟩ := z
                refine mcal_ok hI hf e ?_
                refine Ew_c (Nat.add_zero 0) (Nat.add_zero 0) (mrun_ok hF n d' act.2.1 0 (rargs 0 vs) [] m 0 0 y1 e1 0 0 σ _ hI (fun σₚ hI' => ⟨rretok_mg e2, ?_⟩))
                have w := mrun_ok hF n (d' + 1) μ (pc + 3) ls (y1.1.toList ++ rest) y1.2.1 (c + y1.2.2.1) (s + y1.2.2.2) y h C S σₚ Q hI' hQ
                rw [Nat.zero_add, Nat.zero_add]
                refine Ew_c (Nat.add_assoc _ _ _).symm (Nat.add_assoc _ _ _).symm ?_
                have e5 : mT ν ρ (y1.1.toList ++ rest) = (y1.1.map (mg ν ρ)).toList ++ mT ν ρ rest := by
                  cases y1.1 with
                  | none => rfl
                  | some v => rfl
                rw [e5] at w
                exact w
              · cases h
            · cases h
        · split at h
          · rename_i t e
            rw [rn_eq] at h
            obtain ⟨σₚ, p1, p2⟩ := mstep_ok (d := d) hF hf e C S σ hI
            have w := mrun_ok hF n d μ t.1 t.2.1 t.2.2.1 t.2.2.2.1 t.2.2.2.2.1 t.2.2.2.2.2 y h C S σₚ Q p1 hQ
            exact Ew_ofc p2 w
          · cases h
end YT


end
section
/-! A9zzzz.view -/
section YV
variable {ν : mE} {ρ : Nat → Nat} {K L0 : Nat} {σ0 σ m : rS} {V : vV} {κ : List Nat}
def vz (ν : mE) (ρ : Nat → Nat) : Value → Int
  | .int v => v.toInt
  | .long v => v.toInt
  | .ref a => (ρ a : Int)
  | .null => -1
  | .float k => (ν.1.1 k.toNat).toInt
  | .double k => (ν.1.2 k.toNat).toInt
  | .retAddr p => match ν.2 p with
    | some a => (a : Int)
    | none => -1
def risQ : Value → Bool
  | .ref _ => true
  | .null => true
  | .retAddr _ => true
  | _ => false

def mkd (kd : Nat) (v : Value) : Bool :=
  match kd with
  | 0 => match v with
    | .int w => decide (-128 ≤ w.toInt) && decide (w.toInt ≤ 127)
    | _ => false
  | 1 => risI v
  | 2 => risL v
  | 3 => match v with
    | .int w => decide (0 ≤ w.toInt) && decide (w.toInt ≤ 1)
    | _ => false
  | _ => risQ v
def mfk (kd : Nat) (v : Value) : Bool :=
  match kd with
  | 0 => risI v
  | 1 => mkd 3 v
  | 2 => risL v
  | 4 => risQ v
  | _ => false
noncomputable def mN (κ : List Nat) (m : rS) : Nat → Nat := fun x => match rat m (κ.getD x 0) with
  | some (.inr q) => q.2.1
  | _ => 0
noncomputable def mFd (ν : mE) (ρ : Nat → Nat) (κ : List Nat) (m : rS) : hF := fun x k => match rat m (κ.getD x 0) with
  | some (.inl q) => vz ν ρ (q.2.getD k (.int 0))
  | _ => 0
noncomputable def mA (ν : mE) (ρ : Nat → Nat) (κ : List Nat) (m : rS) : hA := fun x i => match rat m (κ.getD x 0) with
  | some (.inr q) => vz ν ρ (rlk q.2.2.2 q.2.2.1 i.toNat)
  | _ => 0
noncomputable def mVx (V : vV) (m : rS) (x k : Nat) : Bool :=
  match rat m k with
  | some (.inl q) => Nat.ble 11 k && (!(varr V x) && (Nat.beq q.1 (vcls V x) && (Nat.beq q.2.length (vnf V x) && (List.range (vnf V x)).all (fun j => mfk (vfd V x j).1 (q.2.getD j (.int 0))))))
  | some (.inr q) => Nat.ble 11 k && (varr V x && (Nat.beq q.1 (vak V x) && (Nat.beq (vnf V x) 0 && (Nat.ble q.2.1 1000000 && (mkd q.1 q.2.2.1 && q.2.2.2.all (fun z => mkd q.1 z.2))))))
  | none => false
def mnd : List Nat → Bool
  | [] => true
  | k :: l => l.all (fun j => !(Nat.beq j k)) && mnd l
noncomputable def mV (V : vV) (κ : List Nat) (m : rS) : Bool := Nat.beq κ.length V.length && (mnd κ && (List.range V.length).all (fun x => mVx V m x (κ.getD x 0)))
theorem mnd_inj : ∀ {l : List Nat} {x y : Nat}, mnd l = true → x < l.length → y < l.length → l.getD x 0 = l.getD y 0 → x = y
  | [], x, _, _, h, _, _ => absurd h (Nat.not_lt_zero x)
  | k :: l, 0, 0, _, _, _, _ => rfl
  | k :: l, 0, y + 1, h, _, hy, e => by
    have h : (l.all (fun j => !(Nat.beq j k)) && mnd l) = true := h
    rw [Bool.and_eq_true] at h
    have hy : y < l.length := Nat.lt_of_succ_lt_succ hy
    have e : k = l.getD y 0 := e
    have w := List.all_eq_true.mp h.1 (l.getD y 0) (by rw [List.getD_eq_getElem?_getD, List.getElem?_eq_getElem hy]; exact List.getElem_mem hy)
    rw [← e, Nat.beq_refl] at w
    cases w
  | k :: l, x + 1, 0, h, hx, _, e => by
    have h : (l.all (fun j => !(Nat.beq j k)) && mnd l) = true := h
    rw [Bool.and_eq_true] at h
    have hx : x < l.length := Nat.lt_of_succ_lt_succ hx
    have e : l.getD x 0 = k := e
    have w := List.all_eq_true.mp h.1 (l.getD x 0) (by rw [List.getD_eq_getElem?_getD, List.getElem?_eq_getElem hx]; exact List.getElem_mem hx)
    rw [e, Nat.beq_refl] at w
    cases w
  | k :: l, x + 1, y + 1, h, hx, hy, e => by
    have h : (l.all (fun j => !(Nat.beq j k)) && mnd l) = true := h
    rw [Bool.and_eq_true] at h
    have := mnd_inj (l := l) (x := x) (y := y) h.2 (Nat.lt_of_succ_lt_succ hx) (Nat.lt_of_succ_lt_succ hy) e
    omega
theorem mrlk {p : Value → Bool} : ∀ {ov : rO} {dv : Value} {j : Nat}, p dv = true → ov.all (fun z => p z.2) = true → p (rlk ov dv j) = true
  | [], _, _, h, _ => h
  | (a, v) :: l, dv, j, h, h2 => by
    rw [List.all_cons, Bool.and_eq_true] at h2
    show p (@Bool.rec (fun _ => Value) (rlk l dv j) v (Nat.beq a j)) = true
    cases Nat.beq a j with
    | true => exact h2.1
    | false => exact mrlk h h2.2
theorem i32r (v : Int32) : inr v.toInt := ⟨Int32.le_toInt v, by have := Int32.toInt_lt v; omega⟩
theorem i64r (v : Int64) : inrJ v.toInt := ⟨Int64.le_toInt v, by have := Int64.toInt_lt v; omega⟩
theorem vz_a {kd : Nat} {v : Value} (h : mkd kd v = true) : mg ν ρ v = va kd (vz ν ρ v) ∧ arng kd (vz ν ρ v) := by
  match kd with
  | 0 =>
    cases v with
    | int w =>
      have h : (decide (-128 ≤ w.toInt) && decide (w.toInt ≤ 127)) = true := h
      simp only [Bool.and_eq_true, decide_eq_true_eq] at h
      exact ⟨congrArg Value.int (toI_of w).symm, h⟩
    | _ => cases h
  | 1 =>
    cases v with
    | int w => exact ⟨congrArg Value.int (toI_of w).symm, i32r w⟩
    | float w => exact ⟨congrArg Value.int (toI_of _).symm, i32r _⟩
    | _ => cases h
  | 2 =>
    cases v with
    | long w => exact ⟨congrArg Value.long (Int64.ofInt_toInt w).symm, i64r w⟩
    | double w => exact ⟨congrArg Value.long (Int64.ofInt_toInt _).symm, i64r _⟩
    | _ => cases h
  | 3 =>
    cases v with
    | int w =>
      have h : (decide (0 ≤ w.toInt) && decide (w.toInt ≤ 1)) = true := h
      simp only [Bool.and_eq_true, decide_eq_true_eq] at h
      exact ⟨congrArg Value.int (toI_of w).symm, h⟩
    | _ => cases h
  | n + 4 =>
    cases v with
    | ref a => exact ⟨by show Value.ref (ρ a) = if ((ρ a : Nat) : Int) < 0 then .null else .ref ((ρ a : Nat) : Int).toNat; rw [if_neg (by omega), Int.toNat_natCast], by show (-1 : Int) ≤ (ρ a : Int); omega⟩
    | null => exact ⟨rfl, by show (-1 : Int) ≤ -1; omega⟩
    | retAddr p =>
      show (match ν.2 p with | some a => Value.ref a | none => Value.null) = (if (match ν.2 p with | some a => (a : Int) | none => -1) < 0 then .null else .ref (match ν.2 p with | some a => (a : Int) | none => -1).toNat) ∧ (-1 : Int) ≤ (match ν.2 p with | some a => (a : Int) | none => -1)
      cases ν.2 p with
      | none => exact ⟨rfl, by show (-1 : Int) ≤ -1; omega⟩
      | some a => exact ⟨by show Value.ref a = if ((a : Nat) : Int) < 0 then .null else .ref ((a : Nat) : Int).toNat; rw [if_neg (by omega), Int.toNat_natCast], by show (-1 : Int) ≤ (a : Int); omega⟩
    | _ => cases h
theorem vz_f {f : Nat × Nat} {D : Nat → Nat} {v : Value} (h : mfk f.1 v = true) : mg ν ρ v = vf D f (vz ν ρ v) ∧ krng f.1 (vz ν ρ v) := by
  obtain ⟨kd, e⟩ := f
  match kd with
  | 0 => exact vz_a (kd := 1) h
  | 1 => exact vz_a (kd := 3) h
  | 2 => exact vz_a (kd := 2) h
  | 3 => cases h
  | 4 => exact vz_a (kd := 4) h
  | _ + 5 => cases h
theorem mHW (hF : mF ρ K L0) (hI : mI ν ρ K L0 σ0 m σ) (h : mV V κ m = true) : HW V σ (fun x => ρ (κ.getD x 0)) (mN κ m) (mFd ν ρ κ m) (mA ν ρ κ m) := by
  unfold mV at h
  simp only [Bool.and_eq_true] at h
  obtain ⟨h1, h2, h3⟩ := h
  have h1 := Nat.eq_of_beq_eq_true h1
  have hx : ∀ x, x < V.length → mVx V m x (κ.getD x 0) = true := fun x hx => List.all_eq_true.mp h3 x (List.mem_range.mpr hx)
  have hb : ∀ x, x < V.length → κ.getD x 0 < 1000 ∧ 11 ≤ κ.getD x 0 := fun x hl => by
    have w := hx x hl
    unfold mVx at w
    have hl := hI.2.2.1
    split at w
    · rename_i e
      have := rat_lt e
      simp only [Bool.and_eq_true] at w
      have := Nat.le_of_ble_eq_true w.1
      omega
    · rename_i e
      have := rat_lt e
      simp only [Bool.and_eq_true] at w
      have := Nat.le_of_ble_eq_true w.1
      omega
    · cases w
  have ho : ∀ x, x < V.length → varr V x = false → ∃ fs, rat m (κ.getD x 0) = some (.inl (vcls V x, fs)) ∧ fs.length = vnf V x ∧ ∀ j, j < vnf V x → mfk (vfd V x j).1 (fs.getD j (.int 0)) = true := fun x hl ha => by
    have w := hx x hl
    unfold mVx at w
    split at w
    · rename_i q e
      simp only [Bool.and_eq_true] at w
      obtain ⟨-, -, w2, w3, w4⟩ := w
      refine ⟨q.2, ?_, Nat.eq_of_beq_eq_true w3, fun j hj => List.all_eq_true.mp w4 j (List.mem_range.mpr hj)⟩
      rw [e, ← Nat.eq_of_beq_eq_true w2]
    · simp only [Bool.and_eq_true] at w
      rw [w.2.1] at ha
      cases ha
    · cases w
  have hr : ∀ x, x < V.length → varr V x = true → ∃ N dv ov, rat m (κ.getD x 0) = some (.inr (vak V x, N, dv, ov)) ∧ N ≤ 1000000 ∧ vnf V x = 0 ∧ ∀ j, mkd (vak V x) (rlk ov dv j) = true := fun x hl ha => by
    have w := hx x hl
    unfold mVx at w
    split at w
    · simp only [Bool.and_eq_true, Bool.not_eq_true'] at w
      rw [w.2.1] at ha
      cases ha
    · rename_i q e
      simp only [Bool.and_eq_true] at w
      obtain ⟨-, -, w2, w3, w4, w5, w6⟩ := w
      have w2 := Nat.eq_of_beq_eq_true w2
      refine ⟨q.2.1, q.2.2.1, q.2.2.2, ?_, Nat.le_of_ble_eq_true w4, Nat.eq_of_beq_eq_true w3, fun j => ?_⟩
      · rw [e, ← w2]
      · rw [← w2]
        exact mrlk w5 w6
    · cases w
  refine ⟨fun x hl ha => ?_, fun x hl ha => ?_, fun x y hl hl' e => ?_, fun x hl => ?_, fun x k hl => ?_, fun x i hl ha => ?_, fun x hl => ?_⟩
  · obtain ⟨fs, e1, e2, e3⟩ := ho x hl ha
    obtain ⟨qₚ, p1, p2⟩ := hI.1 _ _ e1
    have p2 : qₚ = .inl (vcls V x, mT ν ρ fs) := p2
    rw [p1, p2]
    unfold vcell
    congr 3
    apply List.ext_getElem
    · unfold mT
      rw [List.length_map, List.length_map, List.length_range, e2]
    · intro j a b
      unfold mT at a ⊢
      rw [List.length_map] at a
      rw [List.getElem_map, List.getElem_map, List.getElem_range]
      have w := vz_f (ν := ν) (ρ := ρ) (D := fun x => ρ (κ.getD x 0)) (e3 j (by omega))
      rw [List.getD_eq_getElem?_getD, List.getElem?_eq_getElem a] at w
      have e4 : mFd ν ρ κ m x j = vz ν ρ fs[j] := by
        unfold mFd
        rw [e1]
        show vz ν ρ (fs.getD j (.int 0)) = _
        rw [List.getD_eq_getElem?_getD, List.getElem?_eq_getElem a]
        rfl
      rw [e4]
      exact w.1
  · obtain ⟨N, dv, ov, e1, e2, -, e3⟩ := hr x hl ha
    obtain ⟨qₚ, p1, p2⟩ := hI.1 _ _ e1
    have p2 : ∃ dv' ov', qₚ = .inr (vak V x, N, dv', ov') ∧ ∀ j, rlk ov' dv' j = mg ν ρ (rlk ov dv j) := p2
    obtain ⟨dv', ov', p3, p4⟩ := p2
    refine ⟨dv', ov', ?_, fun j => ?_⟩
    · rw [p1, p3]
      unfold mN
      rw [e1]
    · rw [p4]
      unfold mA
      rw [e1]
      exact (vz_a (e3 _)).1
  · exact mnd_inj h2 (by omega) (by omega) (hF.inj _ _ (hb x hl).1 (hb y hl').1 e)
  · exact hF.lo _ (hb x hl).2 (hb x hl).1
  · cases ha : varr V x with
    | false =>
      obtain ⟨fs, e1, e2, e3⟩ := ho x hl ha
      have e4 : mFd ν ρ κ m x k = vz ν ρ (fs.getD k (.int 0)) := by
        unfold mFd
        rw [e1]
      rw [e4]
      by_cases w : k < vnf V x
      · exact (vz_f (ν := ν) (ρ := ρ) (D := fun _ => 0) (e3 k w)).2
      · rw [List.getD_eq_getElem?_getD, List.getElem?_eq_none (by omega)]
        unfold vfd
        rw [List.getD_eq_getElem?_getD, List.getElem?_eq_none (by unfold vnf at w; omega)]
        exact i32r 0
    | true =>
      obtain ⟨N, dv, ov, e1, -, e2, -⟩ := hr x hl ha
      have e4 : mFd ν ρ κ m x k = 0 := by
        unfold mFd
        rw [e1]
      rw [e4]
      unfold vfd
      rw [List.getD_eq_getElem?_getD, List.getElem?_eq_none (by unfold vnf at e2; omega)]
      exact ⟨by decide, by decide⟩
  · obtain ⟨N, dv, ov, e1, e2, -, e3⟩ := hr x hl ha
    have e4 : mA ν ρ κ m x i = vz ν ρ (rlk ov dv i.toNat) := by
      unfold mA
      rw [e1]
    rw [e4]
    exact (vz_a (e3 _)).2
  · cases ha : varr V x with
    | false =>
      obtain ⟨fs, e1, -, -⟩ := ho x hl ha
      have e4 : mN κ m x = 0 := by
        unfold mN
        rw [e1]
      rw [e4]
      exact Nat.zero_le _
    | true =>
      obtain ⟨N, dv, ov, e1, e2, -, -⟩ := hr x hl ha
      have e4 : mN κ m x = N := by
        unfold mN
        rw [e1]
      rw [e4]
      exact e2
end YV


end
section
/-! A9y.opt -/
theorem ltn {α : Type} {V : List α} {n x : Nat} (h : V.length = n) (hx : Nat.ble (x + 1) n = true) : x < V.length := by
  rw [h]
  exact Nat.le_of_ble_eq_true hx
def dig (c x : Nat) : Nat := Nat.land (Nat.shiftRight c (Nat.mul 9 x)) 511
def puc {α : Type} (c : Nat) (f : Nat → α) : Nat → α := fun x => f (dig c x)
def enc : List Nat → Nat
  | [] => 0
  | a :: l => a + 512 * enc l
theorem dig_mod (c x : Nat) : dig c x = c / 2 ^ (9 * x) % 512 := by
  show (c >>> (9 * x)) &&& 511 = _
  rw [Nat.shiftRight_eq_div_pow]
  exact Nat.and_two_pow_sub_one_eq_mod _ 9
theorem dig_enc : ∀ {ι : List Nat} (_ : ι.all (fun a => Nat.blt a 512) = true) (x : Nat), dig (enc ι) x = ι.getD x 0
  | [], _, x => by
    rw [dig_mod]
    show 0 / 2 ^ (9 * x) % 512 = _
    rw [Nat.zero_div]
    rfl
  | a :: l, h, 0 => by
    have h1 : Nat.blt a 512 = true := (Bool.and_eq_true _ _ ▸ (show (Nat.blt a 512 && l.all (fun a => Nat.blt a 512)) = true from h)).1
    have h1 : a < 512 := Nat.le_of_ble_eq_true h1
    rw [dig_mod]
    show (a + 512 * enc l) / 2 ^ 0 % 512 = a
    rw [Nat.pow_zero, Nat.div_one]
    omega
  | a :: l, h, x + 1 => by
    have h1 := (Bool.and_eq_true _ _ ▸ (show (Nat.blt a 512 && l.all (fun a => Nat.blt a 512)) = true from h))
    have h2 : a < 512 := Nat.le_of_ble_eq_true h1.1
    have e := dig_enc h1.2 x
    rw [dig_mod] at e ⊢
    show (a + 512 * enc l) / 2 ^ (9 * (x + 1)) % 512 = l.getD x 0
    rw [← e, show 9 * (x + 1) = 9 + 9 * x by omega, Nat.pow_add, ← Nat.div_div_eq_div_mul, show (a + 512 * enc l) / 2 ^ 9 = enc l by omega]
def okc (ι : List Nat) (c : Nat) : Bool := ι.all (fun a => Nat.blt a 512) && Nat.beq (enc ι) c
theorem puc_eq {α : Type} {ι : List Nat} {c : Nat} {f : Nat → α} (h : okc ι c = true) : puc c f = pul ι f := by
  unfold okc at h
  rw [Bool.and_eq_true] at h
  rw [← Nat.eq_of_beq_eq_true h.2]
  exact funext fun x => by
    show f (dig (enc ι) x) = f (ι.getD x 0)
    rw [dig_enc h.1 x]
def tbz (m i : Nat) : Bool := Nat.beq (Nat.land (Nat.shiftRight m i) 1) 0
def SFm (m : Nat) (F G : hF) : Prop := ∀ o k, tbz m (Nat.add (Nat.mul 32 o) k) = true → G o k = F o k
def SAm (m : Nat) (A B : hA) : Prop := ∀ o, tbz m o = true → ∀ i, B o i = A o i
def SDm (m : Nat) (D E : Nat → Nat) : Prop := ∀ o, tbz m o = true → E o = D o
theorem SFm_of {l : List (Nat × Nat)} {m : Nat} {F G : hF} (h : SF l F G) (hm : l.all (fun p => !tbz m (Nat.add (Nat.mul 32 p.1) p.2)) = true) : SFm m F G := fun o k hb => h o k (by
  cases e : l.any (fun q => Nat.beq q.1 o && Nat.beq q.2 k) with
  | false => rfl
  | true =>
    obtain ⟨p, hp, hq⟩ := List.any_eq_true.mp e
    rw [Bool.and_eq_true] at hq
    have w := List.all_eq_true.mp hm p hp
    rw [Nat.eq_of_beq_eq_true hq.1, Nat.eq_of_beq_eq_true hq.2, hb] at w
    cases w)
theorem SAm_of {l : List Nat} {m : Nat} {A B : hA} (h : SA l A B) (hm : l.all (fun p => !tbz m p) = true) : SAm m A B := fun o hb => h o (by
  cases e : l.any (fun q => Nat.beq q o) with
  | false => rfl
  | true =>
    obtain ⟨p, hp, hq⟩ := List.any_eq_true.mp e
    have w := List.all_eq_true.mp hm p hp
    rw [Nat.eq_of_beq_eq_true hq, hb] at w
    cases w)
theorem SDm_of {l : List Nat} {m : Nat} {D E : Nat → Nat} (h : SD l D E) (hm : l.all (fun p => !tbz m p) = true) : SDm m D E := fun o hb => h o (by
  cases e : l.any (fun q => Nat.beq q o) with
  | false => rfl
  | true =>
    obtain ⟨p, hp, hq⟩ := List.any_eq_true.mp e
    have w := List.all_eq_true.mp hm p hp
    rw [Nat.eq_of_beq_eq_true hq, hb] at w
    cases w)
section OPT
variable {V : vV} {σ : rS} {D N : Nat → Nat} {F : hF} {A : hA} {c s : Nat}
theorem HW_subc {W : vV} {ι : List Nat} {cd : Nat} (H : HW V σ D N F A) (hs : vsub V W ι = true) (hc : okc ι cd = true) : HW W σ (puc cd D) (puc cd N) (puc cd F) (puc cd A) := by
  rw [puc_eq (f := D) hc, puc_eq (f := N) hc, puc_eq (f := F) hc, puc_eq (f := A) hc]
  exact HW_sub H (VS_of hs)
theorem v_backc {W : vV} {ι : List Nat} {cd : Nat} {σₚ : rS} {Fₚ : hF} {Aₚ : hA} {G : Prop} (H : HW V σ D N F A) (hs : vsub V W ι = true) (hc : okc ι cd = true) (Hₚ : HW W σₚ (puc cd D) (puc cd N) Fₚ Aₚ) (O : OUT W.length (puc cd D) (puc cd N) σ 0 0 (puc cd D) (puc cd N) σₚ 0 0)
    (h : ∀ F1 A1, HW V σₚ D N F1 A1 → OUT V.length D N σ c s D N σₚ c s → (∀ y k, F1 y k = glu ι F Fₚ y k) → (∀ y, A1 y = glu ι A Aₚ y) → G) : G := by
  rw [puc_eq (f := D) hc, puc_eq (f := N) hc] at Hₚ O
  exact v_back H hs Hₚ O h
theorem v_backMc {W : vV} {ι dl : List Nat} {cd : Nat} {σₚ : rS} {Dₚ Nₚ : Nat → Nat} {Fₚ : hF} {Aₚ : hA} {c1 s1 : Nat} {G : Prop} (H : HW V σ D N F A) (hs : vsub V W ι = true) (hc : okc ι cd = true) (Hₚ : HW W σₚ Dₚ Nₚ Fₚ Aₚ) (O : OUT W.length (puc cd D) (puc cd N) σ 0 0 Dₚ Nₚ σₚ c1 s1) (hd : SD dl (puc cd D) Dₚ) (hm : vmov V ι dl = true)
    (h : ∀ D1 N1 F1 A1, HW V σₚ D1 N1 F1 A1 → OUT V.length D N σ c s D1 N1 σₚ (c + c1) (s + s1) → (∀ y, D1 y = glu ι D Dₚ y) → (∀ y, N1 y = glu ι N Nₚ y) → (∀ y k, F1 y k = glu ι F Fₚ y k) → (∀ y, A1 y = glu ι A Aₚ y) → G) : G := by
  rw [puc_eq (f := D) hc, puc_eq (f := N) hc] at O
  rw [puc_eq (f := D) hc] at hd
  exact v_backM H hs Hₚ O hd hm h
theorem SF_gluc {ι : List Nat} {cd : Nat} {l lₚ : List (Nat × Nat)} {F Fₚ F1 : hF} (hc : okc ι cd = true) (h : SF l (puc cd F) Fₚ) (e : ∀ y k, F1 y k = glu ι F Fₚ y k) (hm : l.all (fun p => lₚ.any (fun q => Nat.beq q.1 (ι.getD p.1 0) && Nat.beq q.2 p.2)) = true) : SF lₚ F F1 := SF_glu (puc_eq (f := F) hc ▸ h) e hm
theorem SA_gluc {ι : List Nat} {cd : Nat} {l lₚ : List Nat} {A Aₚ A1 : hA} (hc : okc ι cd = true) (h : SA l (puc cd A) Aₚ) (e : ∀ y, A1 y = glu ι A Aₚ y) (hm : l.all (fun p => lₚ.any (fun q => Nat.beq q (ι.getD p 0))) = true) : SA lₚ A A1 := SA_glu (puc_eq (f := A) hc ▸ h) e hm
theorem SD_gluc {ι : List Nat} {cd : Nat} {l lₚ : List Nat} {D Dₚ D1 : Nat → Nat} (hc : okc ι cd = true) (h : SD l (puc cd D) Dₚ) (e : ∀ y, D1 y = glu ι D Dₚ y) (hm : l.all (fun p => lₚ.any (fun q => Nat.beq q (ι.getD p 0))) = true) : SD lₚ D D1 := SD_glu (puc_eq (f := D) hc ▸ h) e hm
end OPT


end
section
/-! E0.math -/
def LO (L : Int) : Prop := L = 0 ∨ 5 ≤ L ∧ L ≤ 9
theorem LO_rng {L : Int} (h : LO L) : 0 ≤ L ∧ L ≤ 9 ∧ 1 ≤ p2 L ∧ p2 L ≤ 512 := by
  have a := p2_pos L
  have b : 0 ≤ L ∧ L ≤ 9 := by
    rcases h with h | h
    · omega
    · omega
  exact ⟨b.1, b.2, a, p2_le9 b.2⟩
theorem andI_mod {x L : Int} (hx : 0 ≤ x ∧ x < 2147483648) (hL : 0 ≤ L ∧ L ≤ 30) : andI x (p2 L - 1) = x % p2 L := by
  have hp := p2_pos L
  have hq : p2 L ≤ 1073741824 := by
    have := p2_mono (x := L) (y := 30) hL.2
    rw [show p2 30 = 1073741824 from by decide] at this
    exact this
  have ep : p2 L = ((2 ^ L.toNat : Nat) : Int) := by
    unfold p2
    simp
  have e : (Int32.ofInt x &&& Int32.ofInt (p2 L - 1)).toBitVec.toNat = x.toNat % 2 ^ L.toNat := by
    show ((Int32.ofInt x).toBitVec &&& (Int32.ofInt (p2 L - 1)).toBitVec).toNat = _
    rw [BitVec.toNat_and, nn32 hx, nn32 (by omega), show (p2 L - 1).toNat = 2 ^ L.toNat - 1 by omega, Nat.and_two_pow_sub_one_eq_mod]
  have lt : x.toNat % 2 ^ L.toNat ≤ x.toNat := Nat.mod_le _ _
  unfold andI
  show (Int32.ofInt x &&& Int32.ofInt (p2 L - 1)).toBitVec.toInt = _
  rw [BitVec.toInt_eq_toNat_of_lt (by rw [e]; omega), e, ep]
  have e3 : x = ((x.toNat : Nat) : Int) := by omega
  conv => rhs; rw [e3]
  exact Int.natCast_emod _ _
theorem qs_0 (j : Int) : qs 0 j = 0 := by
  unfold qs
  rw [show p2 0 = 1 from by decide]
  exact Int.emod_one _
theorem qs_injO {L i j : Int} (h : LO L) (h0 : 0 ≤ i) (h1 : i < p2 L) (h2 : 0 ≤ j) (h3 : j < p2 L) (e : qs L i = qs L j) : i = j := by
  rcases h with h | h
  · subst h
    rw [show p2 0 = 1 from by decide] at h1 h3
    omega
  · exact qs_inj h h0 h1 h2 h3 e
theorem qs_surO {L k : Int} (h : LO L) (h0 : 0 ≤ k) (h1 : k < p2 L) : ∃ j, 0 ≤ j ∧ j < p2 L ∧ qs L j = k := by
  rcases h with h | h
  · subst h
    rw [show p2 0 = 1 from by decide] at h1
    exact ⟨0, by omega, by decide, by rw [qs_0]; omega⟩
  · exact qs_sur h h0 h1
theorem rk_allO {L high : Int} (h : LO L) (h0 : 0 ≤ high) (h1 : high ≤ p2 L) : rk L high (p2 L) = high := by
  rcases h with h | h
  · subst h
    rw [show p2 0 = 1 from by decide] at h1 ⊢
    have a := rkS (L := 0) (high := high) (j := 0) (by omega)
    have b := fq_eq 0 high 0
    have c := qs_0 0
    have e : rk 0 high 0 = 0 := rfl
    have g : rk 0 high (0 + 1) = rk 0 high 1 := rfl
    omega
  · exact rk_all h h0 h1
theorem qs_perm {f : Int → Int} {L : Int} (hL : LO L) : su (fun j => f (qs L j)) (p2 L).toNat = su f (p2 L).toNat := by
  have hp := p2_pos L
  have key : ∀ (m : Nat), (m : Int) ≤ p2 L → su (fun j => if qs L j < (m : Int) then f (qs L j) else 0) (p2 L).toNat = su f m := by
    intro m
    induction m with
    | zero =>
      intro _
      rw [su_congr (h := fun _ => 0) (fun i a b => by have := qs_rng (L := L) (j := i); exact if_neg (by omega))]
      exact su_zero _
    | succ m ih =>
      intro hm
      have e := ih (by omega)
      obtain ⟨j, j0, j1, j2⟩ := qs_surO (k := (m : Int)) hL (by omega) (by omega)
      have s := su_upd (f := fun j => if qs L j < (m : Int) then f (qs L j) else 0) (h := fun j => if qs L j < ((m + 1 : Nat) : Int) then f (qs L j) else 0) (j := j) (n := (p2 L).toNat) j0 (by omega) (fun i a b c => by
        have z : qs L i ≠ m := fun w => c (qs_injO hL a (by omega) j0 j1 (by omega))
        by_cases w : qs L i < (m : Int)
        · rw [if_pos w, if_pos (by omega)]
        · rw [if_neg w, if_neg (by omega)])
      rw [s, e]
      rw [if_pos (by omega), if_neg (by omega), j2]
      show _ = su f m + f m
      omega
  have := key (p2 L).toNat (by omega)
  rw [← this]
  exact su_congr (fun i a b => (if_pos (by have := qs_rng (L := L) (j := i); omega)).symm)
def NGI (P sy : Int → Int) (L k : Int) : Prop := ∀ s, 0 ≤ s → s < k → P s < 0 → sy (p2 L - 1 - ngs P s) = s
theorem cnt_free {P sy : Int → Int} {n L s : Int} (h : LAID P n L sy) (s0 : 0 ≤ s) : ∀ (J : Nat), (J : Int) ≤ p2 L → rk L (p2 L - ngs P n) J ≤ cum P s ∧ su (fun j => if qs L j < p2 L - ngs P n then eqs sy s (qs L j) else 0) J = 0 ∨ cum P s ≤ rk L (p2 L - ngs P n) J ∧ rk L (p2 L - ngs P n) J ≤ cum P (s + 1) ∧ su (fun j => if qs L j < p2 L - ngs P n then eqs sy s (qs L j) else 0) J = rk L (p2 L - ngs P n) J - cum P s ∨ cum P (s + 1) ≤ rk L (p2 L - ngs P n) J ∧ su (fun j => if qs L j < p2 L - ngs P n then eqs sy s (qs L j) else 0) J = cum P (s + 1) - cum P s
  | 0, _ => by
    refine .inl ⟨?_, rfl⟩
    have a := cum_mono (P := P) (s := 0) (t := s) (by omega) s0
    have b : cum P 0 = 0 := rfl
    have e : rk L (p2 L - ngs P n) ((0 : Nat) : Int) = 0 := rfl
    omega
  | J + 1, hJ => by
    have ih := cnt_free h s0 J (by omega)
    have cm := cum_mono (P := P) (s := s) (t := s + 1) s0 (by omega)
    have r1 : rk L (p2 L - ngs P n) ((J + 1 : Nat) : Int) = rk L (p2 L - ngs P n) J + fq L (p2 L - ngs P n) J := by
      rw [show ((J + 1 : Nat) : Int) = (J : Int) + 1 by omega]
      exact rkS (by omega)
    have r2 : su (fun j => if qs L j < p2 L - ngs P n then eqs sy s (qs L j) else 0) (J + 1) = su (fun j => if qs L j < p2 L - ngs P n then eqs sy s (qs L j) else 0) J + (if qs L J < p2 L - ngs P n then eqs sy s (qs L J) else 0) := rfl
    have f1 := fq_eq L (p2 L - ngs P n) J
    by_cases w : qs L J < p2 L - ngs P n
    · rw [if_pos w] at r2
      obtain ⟨q0, q1, q2, q3⟩ := h.2 J (by omega) (by omega) w
      rcases eqs_eq sy s (qs L J) with ⟨e1, e2⟩ | ⟨e1, e2⟩
      · rw [e1] at q2 q3
        omega
      · have ne : ¬ (cum P s ≤ rk L (p2 L - ngs P n) J ∧ rk L (p2 L - ngs P n) J < cum P (s + 1)) := fun x => e1 (cum_uniq q0 s0 q2 q3 x.1 x.2)
        omega
    · rw [if_neg w] at r2
      omega
theorem high_sym {P sy : Int → Int} {n L k : Int} (h : NGI P sy L n) (hn : 0 ≤ n) (k0 : p2 L - ngs P n ≤ k) (k1 : k < p2 L) : ∃ s, 0 ≤ s ∧ s < n ∧ P s < 0 ∧ sy k = s ∧ k = p2 L - 1 - ngs P s := by
  obtain ⟨s, s0, s1, s2, s3⟩ := ngs_hit (P := P) n.toNat (p2 L - 1 - k) (by omega) (by rw [show ((n.toNat : Nat) : Int) = n by omega]; omega)
  have a := h s s0 (by omega) s2
  rw [s3, show p2 L - 1 - (p2 L - 1 - k) = k by omega] at a
  exact ⟨s, s0, by omega, s2, a, by omega⟩
theorem cnt_high {P sy : Int → Int} {n L s : Int} (h : NGI P sy L n) (hn : 0 ≤ n) (hg : ngs P n ≤ p2 L) (s0 : 0 ≤ s) (s1 : s < n) : su (fun k => if p2 L - ngs P n ≤ k then eqs sy s k else 0) (p2 L).toNat = neg1 (P s) := by
  have hp := p2_pos L
  rcases neg1_eq (P s) with ⟨a, b⟩ | ⟨a, b⟩
  · have m := ngs_mono (P := P) (s := s + 1) (t := n) (by omega) (by omega)
    have m0 := ngs_mono (P := P) (s := s) (t := n) (by omega) (by omega)
    rw [ngs_s s0] at m
    rw [su_only (r := p2 L - 1 - ngs P s) (by omega) (by omega) (fun i i0 i1 i2 => by
      by_cases w : p2 L - ngs P n ≤ i
      · rw [if_pos w]
        obtain ⟨sₚ, a0, a1, a2, a3, a4⟩ := high_sym h hn w (by omega)
        rcases eqs_eq sy s i with ⟨e1, e2⟩ | ⟨e1, e2⟩
        · rw [a3] at e1
          subst e1
          exact absurd a4 i2
        · exact e2
      · rw [if_neg w])]
    rw [if_pos (by omega)]
    have c := h s s0 s1 a
    rcases eqs_eq sy s (p2 L - 1 - ngs P s) with ⟨e1, e2⟩ | ⟨e1, e2⟩
    · omega
    · exact absurd c e1
  · rw [b, su_congr (h := fun _ => 0) (fun i i0 i1 => by
      by_cases w : p2 L - ngs P n ≤ i
      · rw [if_pos w]
        obtain ⟨sₚ, a0, a1, a2, a3, a4⟩ := high_sym h hn w (by omega)
        rcases eqs_eq sy s i with ⟨e1, e2⟩ | ⟨e1, e2⟩
        · rw [a3] at e1
          subst e1
          omega
        · exact e2
      · rw [if_neg w])]
    exact su_zero _
theorem cum_ngs {P : Int → Int} {s : Int} : cum P s + ngs P s = mp P s := by
  unfold cum ngs mp
  rw [← su_add]
  exact su_congr (fun i _ _ => by have := mass_sum (P i); omega)

theorem LAID_cnt {P sy : Int → Int} {n L s : Int} (hL : LO L) (hn : 0 ≤ n) (h : LAID P n L sy) (ht : mp P n = p2 L) (s0 : 0 ≤ s) (s1 : s < n) : su (eqs sy s) (p2 L).toNat = mass (P s) := by
  have hp := p2_pos L
  have e := cum_ngs (P := P) (s := n)
  have m := ngs_mono (P := P) (s := n) (t := n) hn (by omega)
  have c0 := cum_mono (P := P) (s := 0) (t := n) (by omega) hn
  have c00 : cum P 0 = 0 := rfl
  have A := cnt_free h s0 (p2 L).toNat (by omega)
  rw [show (((p2 L).toNat : Nat) : Int) = p2 L by omega, rk_allO hL (by omega) (by omega)] at A
  have B := cnt_high (L := L) h.1 hn (by omega) s0 s1
  have C := qs_perm (f := fun k => if k < p2 L - ngs P n then eqs sy s k else 0) hL
  have D : su (eqs sy s) (p2 L).toNat = su (fun k => (if k < p2 L - ngs P n then eqs sy s k else 0) + (if p2 L - ngs P n ≤ k then eqs sy s k else 0)) (p2 L).toNat := su_congr (fun i a b => by
    by_cases w : i < p2 L - ngs P n
    · rw [if_pos w, if_neg (by omega)]; omega
    · rw [if_neg w, if_pos (by omega)]; omega)
  rw [D, su_add, ← C, B]
  have c1 := cum_mono (P := P) (s := s + 1) (t := n) (by omega) (by omega)
  have c2 := cum_mono (P := P) (s := s) (t := s + 1) (by omega) (by omega)
  have c3 := cum_s (P := P) s0
  have ms := mass_sum (P s)
  have po := posi_eq (P s)
  omega
def LV (P : Int → Int) (n L : Int) (sy : Int → Int) (J c : Int) : Prop :=
  NGI P sy L n ∧ (∀ j, 0 ≤ j → j < J → qs L j < p2 L - ngs P n → 0 ≤ sy (qs L j) ∧ sy (qs L j) < n ∧ cum P (sy (qs L j)) ≤ rk L (p2 L - ngs P n) j ∧ rk L (p2 L - ngs P n) j < cum P (sy (qs L j) + 1)) ∧ rk L (p2 L - ngs P n) J = c ∧ 0 ≤ J ∧ J ≤ p2 L

def LYC (P : Int → Int) (n L : Int) (sy : Int → Int) (a c k : Int) : Prop := ∃ t J, LV P n L sy J c ∧ a = qs L t ∧ 0 ≤ t ∧ k ≤ t ∧ (c < p2 L - ngs P n → t = J)
theorem LYC_0 {P sy : Int → Int} {n L : Int} (h : NGI P sy L n) : LYC P n L sy 0 0 0 := by
  have hp := p2_pos L
  have q0 : qs L 0 = 0 := by unfold qs; rw [Int.zero_mul]; exact Int.zero_emod _
  exact ⟨0, 0, ⟨h, fun j a b => by omega, rfl, by omega, by omega⟩, q0.symm, by omega, by omega, fun _ => rfl⟩
theorem LYC_rng {P sy : Int → Int} {n L a c k : Int} (h : LYC P n L sy a c k) : 0 ≤ a ∧ a < p2 L := by
  obtain ⟨t, J, v, e, r⟩ := h
  rw [e]
  exact qs_rng
theorem LYC_weak {P sy : Int → Int} {n L a c k : Int} (h : LYC P n L sy a c k) : LYC P n L sy a c 0 := by
  obtain ⟨t, J, v, e, r0, r1, r2⟩ := h
  exact ⟨t, J, v, e, r0, r0, r2⟩
theorem LV_lt {P sy : Int → Int} {n L J c : Int} (hL : LO L) (hn : 0 ≤ ngs P n ∧ ngs P n ≤ p2 L) (h : LV P n L sy J c) (hc : c < p2 L - ngs P n) : J < p2 L := by
  have ra := rk_allO (L := L) (high := p2 L - ngs P n) hL (by omega) (by omega)
  obtain ⟨v1, v2, v3, v4, v5⟩ := h
  by_cases q : J < p2 L
  · exact q
  · have e : J = p2 L := by omega
    rw [e, ra] at v3
    omega
theorem LYC_put {P sy : Int → Int} {n L a a' c cₚ k s : Int} (hL : LO L) (hn : 0 ≤ ngs P n ∧ ngs P n ≤ p2 L) (h : LYC P n L sy a c k) (ha : a < p2 L - ngs P n) (hc : c < p2 L - ngs P n) (s0 : 0 ≤ s) (s1 : s < n) (a1 : cum P s ≤ c) (a2 : c < cum P (s + 1)) (e : a' = (a + (p2 L / 2 + p2 L / 8 + 3)) % p2 L) (ec : cₚ = c + 1) : LYC P n L (upd1 sy a s) a' cₚ 0 := by
  obtain ⟨t, J, v, ea, t0, tk, tj⟩ := h
  have et := tj hc
  subst et
  have hJ := LV_lt hL hn v hc
  obtain ⟨v1, v2, v3, v4, v5⟩ := v
  refine ⟨t + 1, t + 1, ⟨fun x x0 x1 x2 => ?_, fun j j0 j1 j2 => ?_, ?_, by omega, by omega⟩, by rw [e, ea, qs_s], by omega, by omega, fun _ => rfl⟩
  · have m := ngs_mono (P := P) (s := x + 1) (t := n) (by omega) (by omega)
    rw [ngs_s x0] at m
    have g := neg1_eq (P x)
    rw [upd1_o (by omega)]
    exact v1 x x0 x1 x2
  · by_cases w : j = t
    · subst w
      rw [← ea, upd1_s, v3]
      exact ⟨s0, s1, a1, a2⟩
    · rw [upd1_o (fun q => w (qs_injO hL j0 (by omega) t0 hJ (by omega)))]
      exact v2 j j0 (by omega) j2
  · rw [rkS t0, v3]
    have := fq_eq L (p2 L - ngs P n) t
    omega
theorem LYC_skip {P sy : Int → Int} {n L a a' c k kₚ : Int} (hL : LO L) (hn : 0 ≤ ngs P n ∧ ngs P n ≤ p2 L) (h : LYC P n L sy a c k) (ha : p2 L - ngs P n ≤ a) (e : a' = (a + (p2 L / 2 + p2 L / 8 + 3)) % p2 L) (ek : kₚ = k + 1) : LYC P n L sy a' c kₚ := by
  obtain ⟨t, J, v, ea, t0, tk, tj⟩ := h
  by_cases hc : c < p2 L - ngs P n
  · have et := tj hc
    subst et
    have hJ := LV_lt hL hn v hc
    obtain ⟨v1, v2, v3, v4, v5⟩ := v
    refine ⟨t + 1, t + 1, ⟨v1, fun j j0 j1 j2 => ?_, ?_, by omega, by omega⟩, by rw [e, ea, qs_s], by omega, by omega, fun _ => rfl⟩
    · by_cases w : j = t
      · subst w
        omega
      · exact v2 j j0 (by omega) j2
    · rw [rkS t0, v3]
      have := fq_eq L (p2 L - ngs P n) t
      omega
  · exact ⟨t + 1, J, v, by rw [e, ea, qs_s], by omega, by omega, fun q => absurd q hc⟩
theorem LYC_turn {P sy : Int → Int} {n L a c k : Int} (hL : LO L) (hn : 0 ≤ ngs P n ∧ ngs P n ≤ p2 L) (h : LYC P n L sy a c k) (hk : p2 L ≤ k) : p2 L - ngs P n ≤ c := by
  by_cases hc : c < p2 L - ngs P n
  · obtain ⟨t, J, v, ea, t0, tk, tj⟩ := h
    have et := tj hc
    have hJ := LV_lt hL hn v hc
    omega
  · omega
theorem LYC_end {P sy : Int → Int} {n L a c k : Int} (hL : LO L) (hn : 0 ≤ ngs P n ∧ ngs P n ≤ p2 L) (h : LYC P n L sy a c k) (hc : c = p2 L - ngs P n) : LAID P n L sy := by
  obtain ⟨t, J, ⟨v1, v2, v3, v4, v5⟩, ea, t0, tk, tj⟩ := h
  refine ⟨v1, fun j x y z => ?_⟩
  by_cases q : j < J
  · exact v2 j x q z
  · exfalso
    have ra := rk_allO (L := L) (high := p2 L - ngs P n) hL (by omega) (by omega)
    have m := su_le_all (f := fq L (p2 L - ngs P n)) (i := j + 1) (n := p2 L) (by omega) (by omega) (fun i _ => by have := fq_eq L (p2 L - ngs P n) i; omega)
    have m2 := su_le_all (f := fq L (p2 L - ngs P n)) (i := J) (n := j) v4 (by omega) (fun i _ => by have := fq_eq L (p2 L - ngs P n) i; omega)
    have e := fq_eq L (p2 L - ngs P n) j
    unfold rk at ra v3
    rw [su_s x] at m
    omega
theorem LAID_rngO {P sy : Int → Int} {n L : Int} (hL : LO L) (hn : 0 ≤ n) (h : LAID P n L sy) {k : Int} (k0 : 0 ≤ k) (k1 : k < p2 L) : 0 ≤ sy k ∧ sy k < n ∧ P (sy k) ≠ 0 := by
  by_cases q : k < p2 L - ngs P n
  · obtain ⟨j, j0, j1, e⟩ := qs_surO hL k0 k1
    have a := h.2 j j0 j1 (by omega)
    rw [e] at a
    have c := cum_s (P := P) a.1
    have d := posi_eq (P (sy k))
    exact ⟨a.1, a.2.1, by omega⟩
  · obtain ⟨s, s0, s1, s2, s3, s4⟩ := high_sym h.1 hn (by omega) k1
    rw [s3]
    exact ⟨s0, s1, by omega⟩

def MSI (P M : Int → Int) (k : Int) : Prop := ∀ s, 0 ≤ s → s < k → M s = mass (P s)
def SSC (P S : Int → Int) (k : Int) : Prop := ∀ s, 0 ≤ s → s < k → S s = mp P s
def USI (U : Int → Int) (k : Int) : Prop := ∀ s, 0 ≤ s → s < k → U s = 0
def BT (m r : Int) : Prop := 0 ≤ r ∧ (1 ≤ m → p2 r ≤ m ∧ m < 2 * p2 r)
def BSI (P B : Int → Int) (L k : Int) : Prop := ∀ s, 0 ≤ s → s < k → BT (mass (P s)) (L - B s)
theorem MSI_0 {P M : Int → Int} : MSI P M 0 := fun s a b => by omega
theorem SSC_0 {P S : Int → Int} : SSC P S 0 := fun s a b => by omega
theorem USI_0 {U : Int → Int} : USI U 0 := fun s a b => by omega
theorem BSI_0 {P B : Int → Int} {L : Int} : BSI P B L 0 := fun s a b => by omega
theorem NGI_0 {P sy : Int → Int} {L : Int} : NGI P sy L 0 := fun s a b => by omega
theorem MSI_s {P M : Int → Int} {k k2 v : Int} (h : MSI P M k) (e : k2 = k + 1) (hv : v = mass (P k)) : MSI P (upd1 M k v) k2 := fun s a b => by
  by_cases w : s = k
  · subst w; rw [upd1_s]; exact hv
  · rw [upd1_o w]; exact h s a (by omega)
theorem SSC_s {P S : Int → Int} {k k2 v : Int} (h : SSC P S k) (e : k2 = k + 1) (hv : v = mp P k) : SSC P (upd1 S k v) k2 := fun s a b => by
  by_cases w : s = k
  · subst w; rw [upd1_s]; exact hv
  · rw [upd1_o w]; exact h s a (by omega)
theorem USI_s {U : Int → Int} {k k2 : Int} (h : USI U k) (e : k2 = k + 1) : USI (upd1 U k 0) k2 := fun s a b => by
  by_cases w : s = k
  · subst w; rw [upd1_s]
  · rw [upd1_o w]; exact h s a (by omega)
theorem BSI_upd {P B : Int → Int} {L k v : Int} (h : BSI P B L k) : BSI P (upd1 B k v) L k := fun s a b => by
  rw [upd1_o (by omega)]; exact h s a b
theorem BSI_s {P B : Int → Int} {L k k2 : Int} (h : BSI P B L k) (e : k2 = k + 1) (hv : BT (mass (P k)) (L - B k)) : BSI P B L k2 := fun s a b => by
  by_cases w : s = k
  · subst w; exact hv
  · exact h s a (by omega)
theorem NGI_skip {P sy : Int → Int} {L k k2 : Int} (h : NGI P sy L k) (e : k2 = k + 1) (hp : 0 ≤ P k) : NGI P sy L k2 := fun s a b c => by
  by_cases w : s = k
  · subst w; omega
  · exact h s a (by omega) c
theorem NGI_put {P sy : Int → Int} {L k k2 p : Int} (h : NGI P sy L k) (e : k2 = k + 1) (hp : p = p2 L - 1 - ngs P k) : NGI P (upd1 sy p k) L k2 := fun s a b c => by
  subst hp
  by_cases w : s = k
  · subst w; rw [upd1_s]
  · have m := ngs_mono (P := P) (s := s + 1) (t := k) (by omega) (by omega)
    rw [ngs_s a] at m
    have g := neg1_eq (P s)
    rw [upd1_o (by omega)]
    exact h s a (by omega) c
def HBI (m k h : Int) : Prop := 0 ≤ k ∧ 0 ≤ h ∧ h = m / p2 (k + 1) ∧ (k = 0 ∨ p2 k ≤ m)
theorem HBI_0 {m h : Int} (h0 : 0 ≤ m) (e : h = m / 2) : HBI m 0 h := ⟨by omega, by omega, by rw [show p2 (0 + 1) = 2 from by decide]; exact e, .inl rfl⟩
theorem HBI_s {m k k2 h h2 : Int} (q : HBI m k h) (hh : 0 < h) (ek : k2 = k + 1) (eh : h2 = h / 2) : HBI m k2 h2 := by
  obtain ⟨a, b, c, d⟩ := q
  subst ek
  have p := p2_pos (k + 1)
  refine ⟨by omega, by omega, ?_, .inr ?_⟩
  · rw [eh, c, p2_s (show 0 ≤ k + 1 by omega), Int.mul_comm, Int.ediv_ediv_of_nonneg (by omega)]
  · have := Int.ediv_mul_le m (show p2 (k + 1) ≠ 0 by omega)
    rw [← c] at this
    have w : 1 * p2 (k + 1) ≤ h * p2 (k + 1) := Int.mul_le_mul_of_nonneg_right hh (by omega)
    omega
theorem HBI_le {m k h : Int} (q : HBI m k h) (hm : m ≤ 512) : k ≤ 9 := by
  obtain ⟨a, b, c, d⟩ := q
  by_cases w : k ≤ 9
  · exact w
  · have := p2_mono (x := 10) (y := k) (by omega)
    rw [show p2 10 = 1024 from by decide] at this
    omega
theorem HBI_end {m k h : Int} (q : HBI m k h) (hh : h ≤ 0) : BT m k := by
  obtain ⟨a, b, c, d⟩ := q
  refine ⟨a, fun h1 => ?_⟩
  have p := p2_pos (k + 1)
  have e : m / p2 (k + 1) = 0 := by omega
  have l : m < p2 (k + 1) := by
    by_cases w : m < p2 (k + 1)
    · exact w
    · have := Int.le_ediv_of_mul_le (c := p2 (k + 1)) (a := 1) (b := m) (by omega) (by omega)
      omega
  rw [p2_s a] at l
  rcases d with d | d
  · subst d
    rw [show p2 0 = 1 from by decide] at l ⊢
    omega
  · exact ⟨d, l⟩

def UCI (sy U : Int → Int) (n p : Int) : Prop := ∀ s, 0 ≤ s → s < n → U s = su (eqs sy s) p.toNat
def XNI (P sy X : Int → Int) (p : Int) : Prop := ∀ k, 0 ≤ k → k < p → X k = XN P sy k
def PLI (P sy pl : Int → Int) (p : Int) : Prop := ∀ k, 0 ≤ k → k < p → pl (mp P (sy k) + su (eqs sy (sy k)) k.toNat) = k
theorem UCI_0 {sy U : Int → Int} {n : Int} (h : USI U n) : UCI sy U n 0 := fun s a b => h s a b
theorem XNI_0 {P sy X : Int → Int} : XNI P sy X 0 := fun s a b => by omega
theorem PLI_0 {P sy pl : Int → Int} : PLI P sy pl 0 := fun s a b => by omega
theorem UCI_s {sy U : Int → Int} {n p pₚ s v : Int} (h : UCI sy U n p) (p0 : 0 ≤ p) (e : pₚ = p + 1) (es : sy p = s) (hv : v = U s + 1) : UCI sy (upd1 U s v) n pₚ := fun x a b => by
  subst e
  rw [su_s p0]
  have q := eqs_eq sy x p
  have c := h x a b
  by_cases w : x = s
  · subst w; rw [upd1_s]; omega
  · rw [upd1_o w]; omega
theorem XNI_s {P sy X : Int → Int} {p pₚ v : Int} (h : XNI P sy X p) (e : pₚ = p + 1) (hv : v = XN P sy p) : XNI P sy (upd1 X p v) pₚ := fun k a b => by
  by_cases w : k = p
  · subst w; rw [upd1_s]; exact hv
  · rw [upd1_o w]; exact h k a (by omega)

theorem su_eqs_lt {sy : Int → Int} {n L : Int} {P : Int → Int} (hc : ∀ s, 0 ≤ s → s < n → su (eqs sy s) (p2 L).toNat = mass (P s)) {p s : Int} (p0 : 0 ≤ p) (p1 : p < p2 L) (es : sy p = s) (s0 : 0 ≤ s) (s1 : s < n) : 0 ≤ su (eqs sy s) p.toNat ∧ su (eqs sy s) p.toNat < mass (P s) := by
  have b := hc s s0 s1
  have q := eqs_eq sy s p
  have m := su_le_all (f := eqs sy s) (i := p + 1) (n := p2 L) (by omega) (by omega) (fun i _ => by have := eqs_eq sy s i; omega)
  have m2 := su_nonneg (f := eqs sy s) (n := p.toNat) (fun i _ _ => by have := eqs_eq sy s i; omega)
  rw [su_s p0] at m
  omega
theorem pl_ix {sy : Int → Int} {n L : Int} {P : Int → Int} (hc : ∀ s, 0 ≤ s → s < n → su (eqs sy s) (p2 L).toNat = mass (P s)) (ht : mp P n = p2 L) {p s : Int} (p0 : 0 ≤ p) (p1 : p < p2 L) (es : sy p = s) (s0 : 0 ≤ s) (s1 : s < n) : 0 ≤ mp P s + su (eqs sy s) p.toNat ∧ mp P s + su (eqs sy s) p.toNat < p2 L := by
  have a := su_eqs_lt hc p0 p1 es s0 s1
  have b := mp_s (P := P) s0
  have c := mp_le (P := P) (s := s + 1) (t := n) (by omega) (by omega)
  have d := mp_le (P := P) (s := s) (t := n) (by omega) (by omega)
  omega
theorem PLI_s {sy pl : Int → Int} {n L : Int} {P : Int → Int} (hc : ∀ s, 0 ≤ s → s < n → su (eqs sy s) (p2 L).toNat = mass (P s)) (hr : ∀ k, 0 ≤ k → k < p2 L → 0 ≤ sy k ∧ sy k < n) {p pₚ s j : Int} (h : PLI P sy pl p) (p0 : 0 ≤ p) (p1 : p < p2 L) (e : pₚ = p + 1) (es : sy p = s) (ej : j = mp P s + su (eqs sy s) p.toNat) : PLI P sy (upd1 pl j p) pₚ := fun k a b => by
  subst ej
  by_cases w : k = p
  · subst w; rw [es, upd1_s]
  · have ne : mp P (sy k) + su (eqs sy (sy k)) k.toNat ≠ mp P s + su (eqs sy s) p.toNat := by
      have rk := hr k a (by omega)
      have rp := hr p p0 p1
      rw [es] at rp
      have lk := su_eqs_lt hc a (by omega) rfl rk.1 rk.2
      have lp := su_eqs_lt hc p0 p1 es rp.1 rp.2
      by_cases q : sy k = s
      · rw [q]
        have m := su_le_all (f := eqs sy s) (i := k + 1) (n := p) (by omega) (by omega) (fun i _ => by have := eqs_eq sy s i; omega)
        rw [su_s a] at m
        have := eqs_eq sy s k
        omega
      · have bk := mp_s (P := P) rk.1
        have bp := mp_s (P := P) rp.1
        by_cases q2 : sy k < s
        · have := mp_le (P := P) (s := sy k + 1) (t := s) (by omega) (by omega)
          omega
        · have := mp_le (P := P) (s := s + 1) (t := sy k) (by omega) (by omega)
          omega
    rw [upd1_o ne]
    exact h k a (by omega)

def SHD (P : Int → Int) (n L : Int) : Prop := LO L ∧ 1 ≤ n ∧ n ≤ 64 ∧ (∀ s, 0 ≤ s → s < n → -1 ≤ P s) ∧ mp P n = p2 L

def SL (P : Int → Int) (n L : Int) (M B S sy X pl : Int → Int) : Prop := SHD P n L ∧ LAID P n L sy ∧ MSI P M n ∧ SSC P S n ∧ BSI P B L n ∧ XNI P sy X (p2 L) ∧ PLI P sy pl (p2 L)
theorem SHD_f {P : Int → Int} {n L : Int} (h : SHD P n L) : 0 ≤ L ∧ L ≤ 9 ∧ 1 ≤ p2 L ∧ p2 L ≤ 512 ∧ 1 ≤ n ∧ n ≤ 64 ∧ 0 ≤ ngs P n ∧ ngs P n ≤ p2 L ∧ cum P n = p2 L - ngs P n := by
  have a := LO_rng h.1
  have e := cum_ngs (P := P) (s := n)
  have m := ngs_mono (P := P) (s := n) (t := n) (by have := h.2.1; omega) (by omega)
  have c0 := cum_mono (P := P) (s := 0) (t := n) (by omega) (by have := h.2.1; omega)
  have c00 : cum P 0 = 0 := rfl
  have t := h.2.2.2.2
  exact ⟨a.1, a.2.1, a.2.2.1, a.2.2.2, h.2.1, h.2.2.1, m.1, by omega, by omega⟩
theorem SHD_at {P : Int → Int} {n L s : Int} (h : SHD P n L) (s0 : 0 ≤ s) (s1 : s < n) : -1 ≤ P s ∧ 0 ≤ mass (P s) ∧ 0 ≤ mp P s ∧ mp P (s + 1) = mp P s + mass (P s) ∧ mp P (s + 1) ≤ p2 L ∧ 0 ≤ ngs P s ∧ ngs P (s + 1) = ngs P s + neg1 (P s) ∧ ngs P (s + 1) ≤ p2 L ∧ 0 ≤ cum P s ∧ cum P (s + 1) = cum P s + posi (P s) ∧ cum P (s + 1) ≤ cum P n := by
  have f := SHD_f h
  have a := mp_s (P := P) s0
  have b := mp_le (P := P) (s := s) (t := n) s0 (by omega)
  have b2 := mp_le (P := P) (s := s + 1) (t := n) (by omega) (by omega)
  have c := ngs_s (P := P) s0
  have d := ngs_mono (P := P) (s := s) (t := n) s0 (by omega)
  have d2 := ngs_mono (P := P) (s := s + 1) (t := n) (by omega) (by omega)
  have g := cum_s (P := P) s0
  have e2 := cum_mono (P := P) (s := s + 1) (t := n) (by omega) (by omega)
  have e3 := cum_mono (P := P) (s := 0) (t := s) (by omega) s0
  have c00 : cum P 0 = 0 := rfl
  have m := mass_eq (P s)
  have t := h.2.2.2.2
  have q := h.2.2.2.1 s s0 s1
  exact ⟨q, by omega, b.1, a, by omega, d.1, c, by omega, by omega, g, e2⟩


end
section
/-! E2.math -/
def EXC2 (tr : Int → Int) (n : Int) : Prop := ∃ s, 0 ≤ s ∧ s < n ∧ 0 < tr s
def CNT (co : Int → Int) (n total L : Int) : Prop := (∀ s, 0 ≤ s → s < n → 0 ≤ co s ∧ co s ≤ total) ∧ su co n.toNat = total ∧ 1 ≤ total ∧ total ≤ 65536 ∧ su (fun i => pos1 (co i)) n.toNat ≤ p2 L ∧ 5 ≤ L ∧ L ≤ 9 ∧ 1 ≤ n ∧ n ≤ 64
theorem CNT_f {co : Int → Int} {n total L : Int} (h : CNT co n total L) : 1 ≤ total ∧ total ≤ 65536 ∧ 5 ≤ L ∧ L ≤ 9 ∧ 1 ≤ n ∧ n ≤ 64 ∧ 32 ≤ p2 L ∧ p2 L ≤ 512 := by
  obtain ⟨-, -, a, b, -, c, d, e, f⟩ := h
  have q := p2_5 ⟨c, d⟩
  omega
theorem EXC2_of {co tr : Int → Int} {n all p : Int} (hj : DVJ co tr n all p) (hs : su co n.toNat = all) (hd : su (fun i => pos1 (co i)) n.toNat ≤ p) (ha : 1 ≤ all) (hp : 1 ≤ p) : EXC2 tr n := by
  by_cases q : EXC2 tr n
  · exact q
  · exfalso
    have h : ∀ s, (0 : Int) ≤ s → s < n → tr s ≤ 0 := fun s a b => by
      by_cases w : tr s ≤ 0
      · exact w
      · exact absurd ⟨s, a, b, by omega⟩ q
    have l : su (fun i => co i * p) n.toNat ≤ su (fun i => (all - 1) * pos1 (co i)) n.toNat := su_le (fun i a b => hj i a (by omega) (h i a (by omega)))
    rw [su_mul (f := co), su_mull (f := fun i => pos1 (co i)), hs] at l
    have m : (all - 1) * su (fun i => pos1 (co i)) n.toNat ≤ (all - 1) * p := Int.mul_le_mul_of_nonneg_left hd (by omega)
    have e : (all - 1) * p = all * p - p := by rw [Int.sub_mul, Int.one_mul]
    omega
theorem two_exN {co tr : Int → Int} {n p : Int} (h : DVI co tr n) (hd : su (fun i => pos1 (co i)) n.toNat ≤ p) (hs : p < mp tr n) : ∃ s, 0 ≤ s ∧ s < n ∧ 2 ≤ tr s := by
  by_cases q : ∃ s, 0 ≤ s ∧ s < n ∧ 2 ≤ tr s
  · exact q
  · exfalso
    have l : su (fun i => mass (tr i)) n.toNat ≤ su (fun i => pos1 (co i)) n.toNat := su_le (fun i a b => by
      have w : tr i < 2 := by
        by_cases w : tr i < 2
        · exact w
        · exact absurd ⟨i, a, by omega, by omega⟩ q
      have := h i a (by omega)
      have := mass_eq (tr i)
      have := pos1_eq (co i)
      omega)
    unfold mp at hs
    omega
theorem cmul {v t p : Int} (v0 : 0 ≤ v) (v1 : v ≤ t) (t0 : 1 ≤ t) (t1 : t ≤ 65536) (p0 : 1 ≤ p) (p1 : p ≤ 512) : 0 ≤ v * p ∧ v * p ≤ 33554432 ∧ (v = 0 ∧ v * p = 0 ∨ 1 ≤ v ∧ 1 ≤ v * p) ∧ (v * p < t ∨ 1 ≤ v * p / t) ∧ 0 ≤ v * p / t ∧ v * p / t ≤ p ∧ 0 ≤ v * p % t ∧ v * p % t < t := by
  have d := DV1 v0 v1 t0 p0
  have m : t * p ≤ 65536 * 512 := Int.mul_le_mul t1 p1 (by omega) (by omega)
  refine ⟨d.2.2.1, by omega, ?_, ?_, d.2.2.2.2.2.1, d.2.2.2.2.2.2, Int.emod_nonneg _ (by omega), Int.emod_lt_of_pos _ (by omega)⟩
  · by_cases w : v = 0
    · exact .inl ⟨w, d.1 w⟩
    · have := d.2.1 w
      exact .inr ⟨by omega, by omega⟩
  · by_cases w : v * p < t
    · exact .inl w
    · exact .inr (d.2.2.2.2.1 (by omega))
theorem dj_of {v t p : Int} (v0 : 0 ≤ v) (t0 : 1 ≤ t) (h : v * p < t) : v * p ≤ (t - 1) * pos1 v := by
  rcases pos1_eq v with ⟨a, b⟩ | ⟨a, b⟩
  · rw [b, a]; omega
  · rw [b]; omega
theorem DVI_s {co tr : Int → Int} {k k2 v : Int} (h : DVI co tr k) (e : k2 = k + 1) (hv : co k = 0 ∧ v = 0 ∨ 1 ≤ co k ∧ (v = -1 ∨ 1 ≤ v)) : DVI co (upd1 tr k v) k2 := fun s a b => by
  by_cases w : s = k
  · subst w; rw [upd1_s]; exact hv
  · rw [upd1_o w]; exact h s a (by omega)
theorem DVJ_s {co tr : Int → Int} {k k2 v all p : Int} (h : DVJ co tr k all p) (e : k2 = k + 1) (hv : v ≤ 0 → co k * p ≤ (all - 1) * pos1 (co k)) : DVJ co (upd1 tr k v) k2 all p := fun s a b c => by
  by_cases w : s = k
  · subst w; rw [upd1_s] at c; exact hv c
  · rw [upd1_o w] at c; exact h s a (by omega) c
theorem mp_low {g : Int → Int} {k v : Int} : mp (upd1 g k v) k = mp g k := by
  unfold mp
  exact su_congr (fun i a b => by rw [upd1_o (by omega)])
theorem mp_updN {g : Int → Int} {n j v : Int} (h0 : 0 ≤ j) (h1 : j < n) : mp (upd1 g j v) n = mp g n + (mass v - mass (g j)) := su_upd1 mass h0 (by omega)
theorem EXC2_inc {tr : Int → Int} {n s v : Int} (h : EXC2 tr n) (hs : 0 < tr s) (hv : v = tr s + 1) : EXC2 (upd1 tr s v) n := by
  obtain ⟨x, a, b, c⟩ := h
  refine ⟨x, a, b, ?_⟩
  by_cases e : x = s
  · subst e; rw [upd1_s]; omega
  · rw [upd1_o e]; exact c

def GRN (tr : Int → Int) (r t x k : Int) : Prop := r = t → x = -1 → ∀ s, 0 ≤ s → s < k → tr s ≤ 0
theorem GRN_0 {tr : Int → Int} {r t x : Int} : GRN tr r t x 0 := fun _ _ s a b => by omega
theorem GRN_hit {tr : Int → Int} {r t x k : Int} (h : 0 ≤ x) : GRN tr r t x k := fun _ q => by omega
theorem GRN_s {tr : Int → Int} {r t x k k2 : Int} (h : GRN tr r t x k) (e : k2 = k + 1) (hk : r = t → x = -1 → tr k ≤ 0) : GRN tr r t x k2 := fun a b s c d => by
  by_cases w : s = k
  · subst w; exact hk a b
  · exact h a b s c (by omega)
theorem GRN_ex {tr : Int → Int} {r t x n : Int} (h : GRN tr r t x n) (e : EXC2 tr n) (a : r = t) (b : x = -1) : False := by
  obtain ⟨s, s0, s1, s2⟩ := e
  have := h a b s s0 s1
  omega
def MXI (tr : Int → Int) (x k : Int) : Prop := ∀ s, 0 ≤ s → s < k → tr s ≤ tr x
theorem MXI_1 {tr : Int → Int} : MXI tr 0 1 := fun s a b => by
  have : s = 0 := by omega
  subst this
  omega
theorem MXI_keep {tr : Int → Int} {x k k2 : Int} (h : MXI tr x k) (e : k2 = k + 1) (hk : tr k ≤ tr x) : MXI tr x k2 := fun s a b => by
  by_cases w : s = k
  · subst w; exact hk
  · exact h s a (by omega)
theorem MXI_new {tr : Int → Int} {x k k2 : Int} (h : MXI tr x k) (e : k2 = k + 1) (hk : tr x < tr k) : MXI tr k k2 := fun s a b => by
  by_cases w : s = k
  · subst w; omega
  · have := h s a (by omega); omega
theorem MXI_two {tr : Int → Int} {x n : Int} (h : MXI tr x n) (e : ∃ s, 0 ≤ s ∧ s < n ∧ 2 ≤ tr s) : 2 ≤ tr x := by
  obtain ⟨s, a, b, c⟩ := e
  have := h s a b
  omega

theorem SL_sym {P M B S sy X pl : Int → Int} {n L k : Int} (h : SL P n L M B S sy X pl) (k0 : 0 ≤ k) (k1 : k < p2 L) : 0 ≤ sy k ∧ sy k < n ∧ P (sy k) ≠ 0 ∧ X k = XN P sy k ∧ 1 ≤ mass (P (sy k)) ∧ mass (P (sy k)) ≤ p2 L ∧ mass (P (sy k)) ≤ XN P sy k ∧ XN P sy k < 2 * mass (P (sy k)) ∧ BT (mass (P (sy k))) (L - B (sy k)) := by
  obtain ⟨hd, ha, hm, hs, hb, hx, hp⟩ := h
  have f := SHD_f hd
  have r := LAID_rngO hd.1 (by omega) ha k0 k1
  have t := SHD_at hd r.1 r.2.1
  have e := su_eqs_lt (fun s a b => LAID_cnt hd.1 (by omega) ha hd.2.2.2.2 a b) k0 k1 rfl r.1 r.2.1
  have m := mass_eq (P (sy k))
  have q : XN P sy k = mass (P (sy k)) + su (eqs sy (sy k)) k.toNat := rfl
  exact ⟨r.1, r.2.1, r.2.2, hx k k0 k1, by omega, by omega, by omega, by omega, hb _ r.1 r.2.1⟩

def BB (P : Int → Int) (L : Int) (sy : Int → Int) (k b : Int) : Prop := 0 ≤ b ∧ b ≤ L ∧ p2 (L - b) ≤ XN P sy k ∧ XN P sy k < 2 * p2 (L - b)
theorem BB_uniq {P sy : Int → Int} {L k b c : Int} (h : BB P L sy k b) (g : BB P L sy k c) : b = c := by
  have := p2_same (r := L - b) (t := L - c) (by have := h.2.1; omega) (by have := g.2.1; omega) h.2.2.1 h.2.2.2 g.2.2.1 g.2.2.2
  omega
theorem BB_of {P M B S sy X pl : Int → Int} {n L k z b : Int} (h : SL P n L M B S sy X pl) (k0 : 0 ≤ k) (k1 : k < p2 L) (eb : b = B (sy k)) (ez : z = XN P sy k / p2 (L - b + 1)) : 0 ≤ L - b ∧ L - b ≤ 9 ∧ (0 < z → BB P L sy k (b - 1)) ∧ (z ≤ 0 → BB P L sy k b) := by
  have s := SL_sym h k0 k1
  have f := SHD_f h.1
  obtain ⟨s1, s2, s3, s4, s5, s6, s7, s8, ⟨r0, r1⟩⟩ := s
  have r2 := r1 s5
  rw [← eb] at r0 r2
  have l1 : L - b < L + 1 := p2_lt r0 (by rw [p2_s f.1]; omega)
  have p := p2_pos (L - b + 1)
  have e1 : p2 (L - b + 1) = 2 * p2 (L - b) := p2_s r0
  refine ⟨r0, by omega, fun hz => ?_, fun hz => ?_⟩
  · have w := Int.ediv_mul_le (XN P sy k) (show p2 (L - b + 1) ≠ 0 by omega)
    rw [← ez] at w
    have w2 : 1 * p2 (L - b + 1) ≤ z * p2 (L - b + 1) := Int.mul_le_mul_of_nonneg_right hz (by omega)
    have l2 : L - b + 1 < L + 1 := p2_lt (by omega) (by rw [p2_s f.1]; omega)
    refine ⟨by omega, by omega, ?_, ?_⟩
    · rw [show L - (b - 1) = L - b + 1 by omega]; omega
    · rw [show L - (b - 1) = L - b + 1 by omega]; omega
  · have w : XN P sy k < p2 (L - b + 1) := by
      by_cases w : XN P sy k < p2 (L - b + 1)
      · exact w
      · have := Int.le_ediv_of_mul_le (c := p2 (L - b + 1)) (a := 1) (b := XN P sy k) (by omega) (by omega)
        omega
    exact ⟨by omega, by omega, by omega, by omega⟩
theorem BB_mul {P sy : Int → Int} {L k b : Int} (hL : 0 ≤ L) (h : BB P L sy k b) : p2 L ≤ XN P sy k * p2 b ∧ XN P sy k * p2 b + p2 b ≤ 2 * p2 L := by
  obtain ⟨b0, b1, b2, b3⟩ := h
  have e := p2_plus (a := L - b) (b := b) (by omega) b0
  rw [show L - b + b = L by omega] at e
  have p := p2_pos b
  have m1 : p2 (L - b) * p2 b ≤ XN P sy k * p2 b := Int.mul_le_mul_of_nonneg_right b2 (by omega)
  have m2 : (XN P sy k + 1) * p2 b ≤ (2 * p2 (L - b)) * p2 b := Int.mul_le_mul_of_nonneg_right (by omega) (by omega)
  rw [Int.add_mul, Int.one_mul, Int.mul_assoc, e] at m2
  omega

def BAS (P : Int → Int) (L : Int) (sy : Int → Int) (k z : Int) : Prop := ∀ b, BB P L sy k b → 0 ≤ z ∧ z + p2 b ≤ p2 L ∧ z = XN P sy k * p2 b - p2 L
theorem BAS_of {P sy : Int → Int} {L k b z : Int} (hL : 0 ≤ L) (h : BB P L sy k b) (e : z = XN P sy k * p2 b - p2 L) : BAS P L sy k z := fun c hc => by
  have := BB_uniq h hc
  subst this
  have := BB_mul hL h
  exact ⟨by omega, by omega, e⟩
theorem PL_at {P M B S sy X pl : Int → Int} {n L s i : Int} (h : SL P n L M B S sy X pl) (s0 : 0 ≤ s) (s1 : s < n) (i0 : 0 ≤ i) (i1 : i < mass (P s)) : 0 ≤ S s + i ∧ S s + i < p2 L ∧ 0 ≤ pl (S s + i) ∧ pl (S s + i) < p2 L ∧ sy (pl (S s + i)) = s ∧ XN P sy (pl (S s + i)) = mass (P s) + i := by
  obtain ⟨hd, ha, hm, hs, hb, hx, hp⟩ := h
  have f := SHD_f hd
  have t := SHD_at hd s0 s1
  have c := LAID_cnt hd.1 (by omega) ha hd.2.2.2.2 s0 s1
  obtain ⟨k, k0, k1, k2, k3⟩ := su_hit (f := eqs sy s) (n := (p2 L).toNat) (m := i) (fun i => by have := eqs_eq sy s i; omega) i0 (by omega)
  have ks : sy k = s := by have := eqs_eq sy s k; omega
  have w := hp k k0 (by omega)
  rw [ks, k3, ← hs s s0 s1] at w
  have e := hs s s0 s1
  rw [w]
  refine ⟨by omega, by omega, k0, by omega, ks, ?_⟩
  unfold XN
  rw [ks, k3]

def BA (m L y b : Int) : Prop := 0 ≤ b ∧ b ≤ L ∧ m ≤ (y + p2 L) / p2 b ∧ (y + p2 L) / p2 b < 2 * m
theorem BA_of {m L y b z : Int} (hL : 0 ≤ L ∧ L ≤ 9) (m0 : 1 ≤ m) (m1 : m ≤ p2 L) (y0 : 0 ≤ y) (y1 : y < p2 L) (h : BT m (L - b)) (ez : z = (y + p2 L) / p2 b) : 0 ≤ b ∧ b ≤ L ∧ (z < m → BA m L y (b - 1)) ∧ (m ≤ z → BA m L y b) := by
  obtain ⟨r0, r1⟩ := h
  have r2 := r1 m0
  have l1 : L - b < L + 1 := p2_lt r0 (by rw [p2_s hL.1]; omega)
  have b0 : 0 ≤ b := by omega
  have e := p2_plus (a := L - b) (b := b) r0 b0
  rw [show L - b + b = L by omega] at e
  have p := p2_pos b
  have d1 : p2 (L - b) ≤ (y + p2 L) / p2 b := Int.le_ediv_of_mul_le (by omega) (by omega)
  have d2 : (y + p2 L) / p2 b < 2 * p2 (L - b) := Int.ediv_lt_of_lt_mul (by omega) (by rw [Int.mul_assoc, e]; omega)
  refine ⟨b0, by omega, fun hz => ?_, fun hz => ?_⟩
  · have b1 : 1 ≤ b := by
      by_cases w : 1 ≤ b
      · exact w
      · have : b = 0 := by omega
        subst this
        rw [show p2 0 = 1 from by decide, Int.ediv_one] at ez
        omega
    have e2 : p2 b = 2 * p2 (b - 1) := by
      have := p2_s (y := b - 1) (by omega)
      rw [show b - 1 + 1 = b by omega] at this
      exact this
    have q := p2_pos (b - 1)
    have e3 : (y + p2 L) / p2 b = (y + p2 L) / p2 (b - 1) / 2 := by
      rw [e2, Int.mul_comm, Int.ediv_ediv_of_nonneg (by omega)]
    exact ⟨by omega, by omega, by omega, by omega⟩
  · exact ⟨b0, by omega, by omega, by omega⟩

def RWO (row P : Int → Int) (m n : Int) : Prop := ∀ j, 0 ≤ j → j < n → 0 ≤ row j ∧ row j < m ∧ P (row j) ≠ 0
def HLD (co P : Int → Int) (m n r : Int) : Prop := r = 1 → ∀ s, 0 ≤ s → s < n → 0 < co s → s < m ∧ P s ≠ 0
def HLP (co P : Int → Int) (m k : Int) : Prop := ∀ s, 0 ≤ s → s < k → 0 < co s → s < m ∧ P s ≠ 0
theorem HLP_s {co P : Int → Int} {m k k2 : Int} (h : HLP co P m k) (e : k2 = k + 1) (hk : 0 < co k → k < m ∧ P k ≠ 0) : HLP co P m k2 := fun s a b c => by
  by_cases w : s = k
  · subst w; exact hk c
  · exact h s a (by omega) c
def ZRS (P : Int → Int) (a b : Int) : Prop := ∀ j, a ≤ j → j < b → P j = 0
theorem ZRS_s {P : Int → Int} {a b b2 : Int} (h : ZRS P a b) (e : b2 = b + 1) (hb : P b = 0) : ZRS P a b2 := fun j x y => by
  by_cases w : j = b
  · subst w; exact hb
  · exact h j x (by omega)
def GE1 (P : Int → Int) (n : Int) : Prop := ∀ s, 0 ≤ s → s < n → -1 ≤ P s
theorem GE1_upd {P : Int → Int} {n j v : Int} (h : GE1 P n) (hv : -1 ≤ v) : GE1 (upd1 P j v) n := fun s a b => by
  by_cases w : s = j
  · subst w; rw [upd1_s]; exact hv
  · rw [upd1_o w]; exact h s a b
theorem mp_allz {P : Int → Int} {n : Int} (h : ∀ i, P i = 0) : mp P n = 0 := by
  unfold mp
  rw [su_congr (h := fun _ => 0) (fun i a b => by rw [h i]; decide)]
  exact su_zero _
theorem GE1_z {P : Int → Int} {n : Int} (h : ∀ i, P i = 0) : GE1 P n := fun s a b => by rw [h s]; decide
theorem mp_one {P : Int → Int} {n s : Int} (s0 : 0 ≤ s) (s1 : s < n) : 0 ≤ mass (P s) ∧ mass (P s) ≤ mp P n ∧ P s ≤ mass (P s) := by
  have a := mass_eq (P s)
  have b := su_one (f := fun i => mass (P i)) (i := s) (n := n.toNat) (fun i => by have := mass_eq (P i); omega) s0 (by omega)
  have c : mass (P s) ≤ mp P n := b
  omega


end
section
/-! F2.math -/
def CEL (c : Int → Int) : Prop := ∀ i, 0 ≤ c i ∧ c i ≤ 3071
def FIL (a b : Int → Int) (i j v : Int) : Prop := ∀ k, (i ≤ k → k < j → b k = v) ∧ (k < i ∨ j ≤ k → b k = a k)
theorem FIL_0 {a : Int → Int} {i v : Int} : FIL a a i i v := fun k => ⟨fun x y => by omega, fun _ => rfl⟩
theorem FIL_s {a b : Int → Int} {i j j2 v : Int} (h : FIL a b i j v) (hj : i ≤ j) (e : j2 = j + 1) : FIL a (upd1 b j v) i j2 v := fun k => by
  by_cases w : k = j
  · subst w; exact ⟨fun _ _ => upd1_s, fun q => by omega⟩
  · rw [upd1_o w]; exact ⟨fun x y => (h k).1 x (by omega), fun q => (h k).2 (by omega)⟩
theorem CEL_fil {a b : Int → Int} {i j v : Int} (h : CEL a) (f : FIL a b i j v) (hv : 0 ≤ v ∧ v ≤ 3071) : CEL b := fun k => by
  by_cases w : i ≤ k ∧ k < j
  · rw [(f k).1 w.1 w.2]; exact hv
  · rw [(f k).2 (by omega)]; exact h k
def WTS (w : Int → Int) (n : Int) : Prop := ∀ i, 0 ≤ i → i < n → 0 ≤ w i ∧ w i ≤ 15
theorem WTS_s {w : Int → Int} {n n2 v : Int} (h : WTS w n) (e : n2 = n + 1) (hv : 0 ≤ v ∧ v ≤ 15) : WTS (upd1 w n v) n2 := fun i a b => by
  by_cases q : i = n
  · subst q; rw [upd1_s]; exact hv
  · rw [upd1_o q]; exact h i a (by omega)
def WGB (w : Int → Int) (g n : Int) : Prop := ∀ i, 0 ≤ i → i < n → 0 ≤ w i ∧ w i ≤ g
theorem WGB_s {w : Int → Int} {g n n2 v : Int} (h : WGB w g n) (e : n2 = n + 1) (hv : 0 ≤ v ∧ v ≤ g) : WGB (upd1 w n v) g n2 := fun i a b => by
  by_cases q : i = n
  · subst q; rw [upd1_s]; exact hv
  · rw [upd1_o q]; exact h i a (by omega)
def WSM (w : Int → Int) (n s : Int) : Prop := ∀ i, 0 ≤ i → i < n → 0 < w i → p2 (w i - 1) ≤ s
theorem WSM_s {w : Int → Int} {n n2 s s2 : Int} (h : WSM w n s) (e : n2 = n + 1) (hs : s ≤ s2) (hn : 0 < w n → p2 (w n - 1) ≤ s2) : WSM w n2 s2 := fun i a b c => by
  by_cases q : i = n
  · subst q; exact hn c
  · have := h i a (by omega) c; omega
theorem WGB_of {w : Int → Int} {n n2 s g v : Int} (h : WTS w n) (hs : WSM w n s) (g0 : 0 ≤ g) (hg : s < p2 g) (hv : 0 ≤ v ∧ v ≤ g) (e : n2 = n + 1) : WGB (upd1 w n v) g n2 := fun i a b => by
  by_cases q : i = n
  · subst q; rw [upd1_s]; exact hv
  · rw [upd1_o q]
    have x := h i a (by omega)
    refine ⟨x.1, ?_⟩
    by_cases p : 0 < w i
    · have y := hs i a (by omega) p
      have := p2_lt (a := w i - 1) (b := g) (by omega) (by omega)
      omega
    · omega
def WCN (w c : Int → Int) (n : Int) : Prop := ∀ v, 0 ≤ v → v < 12 → c v = su (eqs w v) n.toNat
theorem WCN_0 {w c : Int → Int} (h : ∀ i, c i = 0) : WCN w c 0 := fun v a b => h v
theorem su_eqs_upd {w : Int → Int} {v x k : Int} {n : Nat} (h : (n : Int) ≤ k) : su (eqs (upd1 w k x) v) n = su (eqs w v) n := su_congr (fun i a b => by unfold eqs; rw [upd1_o (by omega)])
theorem WCN_s {w c : Int → Int} {n n2 v y : Int} (h : WCN w c n) (n0 : 0 ≤ n) (e : n2 = n + 1) (v0 : 0 ≤ v) (v1 : v < 12) (ey : y = c v + 1) : WCN (upd1 w n v) (upd1 c v y) n2 := fun x a b => by
  subst e
  rw [su_s n0, su_eqs_upd (by omega)]
  have q := eqs_eq (upd1 w n v) x n
  rw [upd1_s] at q
  have r := h x a b
  by_cases p : x = v
  · subst p; rw [upd1_s]; omega
  · rw [upd1_o p]; omega
theorem WCN_le {w c : Int → Int} {n v : Int} (h : WCN w c n) (n0 : 0 ≤ n) (v0 : 0 ≤ v) (v1 : v < 12) : 0 ≤ c v ∧ c v ≤ n := by
  rw [h v v0 v1]
  have a := su_nonneg (f := eqs w v) (n := n.toNat) (fun i _ _ => by have := eqs_eq w v i; omega)
  have b := su_ones (f := eqs w v) (n := n.toNat) (fun i => by have := eqs_eq w v i; omega)
  omega
theorem WCN_pos {w c : Int → Int} {n i x : Int} (h : WCN w c n) (i0 : 0 ≤ i) (i1 : i < n) (e : w i = x) (x0 : 0 ≤ x) (x1 : x < 12) : 1 ≤ c x := by
  rw [h x x0 x1]
  have a := su_one (f := eqs w x) (i := i) (n := n.toNat) (fun k => by have := eqs_eq w x k; omega) i0 (by omega)
  have b := eqs_eq w x i
  omega
theorem su_all {w : Int → Int} : ∀ {n : Nat}, (∀ i, (0 : Int) ≤ i → i < n → 0 ≤ w i ∧ w i < 12) → su (fun v => su (eqs w v) n) 12 = n
  | 0, _ => by
    show su (fun _ => 0) 12 = 0
    exact su_zero _
  | n + 1, h => by
    have ih := su_all (n := n) (fun i a b => h i a (by omega))
    have hn := h n (by omega) (by omega)
    have e : su (fun v => su (eqs w v) (n + 1)) 12 = su (fun v => su (eqs w v) n + eqs w v n) 12 := su_congr (fun i _ _ => rfl)
    have o : su (fun v => eqs w v n) 12 = 1 := by
      rw [su_only (r := w n) hn.1 hn.2 (fun i _ _ q => by have := eqs_eq w i n; omega)]
      have := eqs_eq w (w n) n
      omega
    rw [e, su_add, ih, o]
    omega
theorem WCN_CNT {w c : Int → Int} {n L : Int} (h : WCN w c n) (g : WGB w 11 n) (n0 : 1 ≤ n) (n1 : n ≤ 65536) (hL : 5 ≤ L ∧ L ≤ 9) : CNT c 12 n L := by
  refine ⟨fun s a b => WCN_le h (by omega) a b, ?_, n0, n1, ?_, hL.1, hL.2, by omega, by omega⟩
  · show su c 12 = n
    rw [su_congr (h := fun v => su (eqs w v) n.toNat) (fun i a b => h i a (by omega)), su_all (fun i a b => by have := g i a (by omega); omega)]
    omega
  · have a : su (fun i => pos1 (c i)) 12 ≤ 12 := su_ones (n := 12) (fun i => by have := pos1_eq (c i); omega)
    have b := p2_5 hL
    show su (fun i => pos1 (c i)) 12 ≤ p2 L
    omega

end
section
/-! 17i -/
def itR {S R : Type} (st : S → S → Prop) (en : S → R → Prop) : Nat → S → R → Prop
  | 0, s, r => en s r
  | n + 1, s, r => ∃ t, st s t ∧ itR st en n t r
theorem itR_det {S R : Type} {st : S → S → Prop} {en : S → R → Prop} (h1 : ∀ s t u, st s t → st s u → t = u) (h2 : ∀ s r q, en s r → en s q → r = q) (h3 : ∀ s t r, st s t → ¬ en s r) : ∀ {n m : Nat} {s : S} {r q : R}, itR st en n s r → itR st en m s q → r = q
  | 0, 0, s, r, q, a, b => h2 s r q a b
  | 0, m + 1, s, r, q, a, ⟨t, x, _⟩ => absurd a (h3 s t r x)
  | n + 1, 0, s, r, q, ⟨t, x, _⟩, b => absurd b (h3 s t q x)
  | n + 1, m + 1, s, r, q, ⟨t, x, a⟩, ⟨u, y, b⟩ => by
    have e := h1 s t u x y
    subst e
    exact itR_det h1 h2 h3 a b
def IT {S R : Type} (st : S → S → Prop) (en : S → R → Prop) (s : S) (r : R) : Prop := ∃ n, itR st en n s r
theorem IT_det {S R : Type} {st : S → S → Prop} {en : S → R → Prop} (h1 : ∀ s t u, st s t → st s u → t = u) (h2 : ∀ s r q, en s r → en s q → r = q) (h3 : ∀ s t r, st s t → ¬ en s r) {s : S} {r q : R} (a : IT st en s r) (b : IT st en s q) : r = q := by
  obtain ⟨n, a⟩ := a
  obtain ⟨m, b⟩ := b
  exact itR_det h1 h2 h3 a b

def ITO {S R : Type} (st : S → S → Prop) (en : S → R → Prop) (s0 s : S) : Prop := ∀ r, IT st en s r → IT st en s0 r
theorem ITO_0 {S R : Type} {st : S → S → Prop} {en : S → R → Prop} {s : S} : ITO st en s s := fun _ h => h
theorem ITO_s {S R : Type} {st : S → S → Prop} {en : S → R → Prop} {s0 s t : S} (h : ITO st en s0 s) (e : st s t) : ITO st en s0 t := fun r k => h r (by
  obtain ⟨n, k⟩ := k
  exact ⟨n + 1, t, e, k⟩)
theorem ITO_e {S R : Type} {st : S → S → Prop} {en : S → R → Prop} {s0 s : S} {r : R} (h : ITO st en s0 s) (e : en s r) : IT st en s0 r := h r ⟨0, e⟩

def ADS (I : Int → Int) (e v p a q : Int) : Prop := (v < 15 ∧ a = v ∧ q = p) ∨ (15 ≤ v ∧ p < q ∧ q ≤ e ∧ (∀ i, p ≤ i → i < q - 1 → I i = 255) ∧ I (q - 1) ≠ 255 ∧ a = v + 255 * (q - 1 - p) + I (q - 1))
def ADN (I : Int → Int) (e v p : Int) : Prop := 15 ≤ v ∧ ∀ i, p ≤ i → i < e → I i = 255
theorem ADS_det {I : Int → Int} {e v p a q a2 q2 : Int} (h : ADS I e v p a q) (k : ADS I e v p a2 q2) : a = a2 ∧ q = q2 := by
  rcases h with ⟨x, y, z⟩ | ⟨x, y, z, u, w, t⟩ <;> rcases k with ⟨x2, y2, z2⟩ | ⟨x2, y2, z2, u2, w2, t2⟩
  · omega
  · omega
  · omega
  · have e1 : q = q2 := by
      by_cases c : q < q2
      · exact absurd (u2 (q - 1) (by omega) (by omega)) w
      · by_cases c2 : q2 < q
        · exact absurd (u (q2 - 1) (by omega) (by omega)) w2
        · omega
    subst e1
    omega
theorem ADS_N {I : Int → Int} {e v p a q : Int} (h : ADS I e v p a q) : ¬ ADN I e v p := fun k => by
  rcases h with ⟨x, y, z⟩ | ⟨x, y, z, u, w, t⟩
  · have := k.1; omega
  · exact absurd (k.2 (q - 1) (by omega) (by omega)) w

def cpb (W : List Int) (d : Int) : Nat → List Int
  | 0 => W
  | n + 1 => cpb W d n ++ [(cpb W d n).getD ((cpb W d n).length - d.toNat) 0]
theorem cpb_s {W : List Int} {d n m v : Int} (h0 : 0 ≤ n) (e : m = n + 1) (hv : (cpb W d n.toNat).getD ((cpb W d n.toNat).length - d.toNat) 0 = v) : cpb W d m.toNat = cpb W d n.toNat ++ [v] := by
  subst e
  rw [show (n + 1).toNat = n.toNat + 1 by omega]
  show cpb W d n.toNat ++ [_] = _
  rw [hv]

def TBs (I : Int → Int) (e : Int) (s t : Int × List Int × Int) : Prop := ∃ a q d b q2, s.1 < e ∧ ADS I e (I s.1 / 16) (s.1 + 1) a q ∧ a ≤ e - q ∧ a ≤ s.2.2 ∧ q + a + 2 ≤ e ∧ d = I (q + a) + 256 * I (q + a + 1) ∧ 1 ≤ d ∧ d ≤ (s.2.1.length : Int) + a ∧ ADS I e (I s.1 % 16) (q + a + 2) b q2 ∧ b + 4 ≤ s.2.2 - a ∧ t = (q2, cpb (s.2.1 ++ sc I q (q + a)) d (b + 4).toNat, s.2.2 - a - (b + 4))
def TBf (I : Int → Int) (e p r a q n : Int) (W : List Int) (R : Int × Int × List Int) : Prop :=
  (a > e - q ∧ e - q ≤ r ∧ R = (1, e, [])) ∨ (r < a ∧ r < e - q ∧ R = (3, q + r, [])) ∨ (a ≤ e - q ∧ a ≤ r ∧ (
    (q + a = e ∧ R = (0, e, W ++ sc I q (q + a))) ∨ (q + a < e ∧ e < q + a + 2 ∧ R = (1, e, [])) ∨ (q + a + 2 ≤ e ∧ (
      (∃ d, d = I (q + a) + 256 * I (q + a + 1) ∧ (d < 1 ∨ n + a < d) ∧ R = (2, q + a, [])) ∨ (∃ d, d = I (q + a) + 256 * I (q + a + 1) ∧ 1 ≤ d ∧ d ≤ n + a ∧ (
        (ADN I e (I p % 16) (q + a + 2) ∧ R = (1, e, [])) ∨ (∃ b q2, ADS I e (I p % 16) (q + a + 2) b q2 ∧ r - a < b + 4 ∧ R = (3, q + a, []))))))))
def TBe (I : Int → Int) (e : Int) (s : Int × List Int × Int) (R : Int × Int × List Int) : Prop := (e ≤ s.1 ∧ R = (1, e, [])) ∨ (s.1 < e ∧ ((ADN I e (I s.1 / 16) (s.1 + 1) ∧ R = (1, e, [])) ∨ (∃ a q, ADS I e (I s.1 / 16) (s.1 + 1) a q ∧ TBf I e s.1 s.2.2 a q (s.2.1.length : Int) s.2.1 R)))
theorem TBs_det {I : Int → Int} {e : Int} (s t u : Int × List Int × Int) (h : TBs I e s t) (k : TBs I e s u) : t = u := by
  obtain ⟨a, q, d, b, q2, x0, x1, x2, x3, x4, x5, x6, x7, x8, x9, x10⟩ := h
  obtain ⟨a', qₚ, d', b', q2', y0, y1, y2, y3, y4, y5, y6, y7, y8, y9, y10⟩ := k
  obtain ⟨e1, e2⟩ := ADS_det x1 y1
  subst e1 e2
  rw [← x5] at y5
  subst y5
  obtain ⟨e3, e4⟩ := ADS_det x8 y8
  subst e3 e4
  rw [x10, y10]
theorem TBf_det {I : Int → Int} {e p r a q n : Int} {W : List Int} {R R2 : Int × Int × List Int} (h : TBf I e p r a q n W R) (k : TBf I e p r a q n W R2) : R = R2 := by
  rcases h with ⟨x1, x2, x3⟩ | ⟨x1, x2, x3⟩ | ⟨x1, x2, h⟩ <;> rcases k with ⟨y1, y2, y3⟩ | ⟨y1, y2, y3⟩ | ⟨y1, y2, k⟩ <;> first | (exfalso; omega) | (rw [x3, y3]) | skip
  rcases h with ⟨x3, x4⟩ | ⟨x3, x4, x5⟩ | ⟨x3, h⟩ <;> rcases k with ⟨y3, y4⟩ | ⟨y3, y4, y5⟩ | ⟨y3, k⟩ <;> first | (exfalso; omega) | (rw [x4, y4]) | (rw [x5, y5]) | skip
  rcases h with ⟨d, x4, x5, x6⟩ | ⟨d, x4, x5, x6, h⟩ <;> rcases k with ⟨d', y4, y5, y6⟩ | ⟨d', y4, y5, y6, k⟩ <;> first | (exfalso; omega) | (rw [x6, y6]) | skip
  rcases h with ⟨x7, x8⟩ | ⟨b, q2, x7, x8, x9⟩ <;> rcases k with ⟨y7, y8⟩ | ⟨b', q2', y7, y8, y9⟩
  · rw [x8, y8]
  · exact absurd x7 (ADS_N y7)
  · exact absurd y7 (ADS_N x7)
  · rw [x9, y9]
theorem TBe_det {I : Int → Int} {e : Int} (s : Int × List Int × Int) (R R2 : Int × Int × List Int) (h : TBe I e s R) (k : TBe I e s R2) : R = R2 := by
  rcases h with ⟨x1, x2⟩ | ⟨x1, h⟩ <;> rcases k with ⟨y1, y2⟩ | ⟨y1, k⟩ <;> first | (exfalso; omega) | (rw [x2, y2]) | skip
  rcases h with ⟨x2, x3⟩ | ⟨a, q, x2, h⟩ <;> rcases k with ⟨y2, y3⟩ | ⟨a', qₚ, y2, k⟩
  · rw [x3, y3]
  · exact absurd x2 (ADS_N y2)
  · exact absurd y2 (ADS_N x2)
  · obtain ⟨e1, e2⟩ := ADS_det x2 y2
    subst e1 e2
    exact TBf_det h k
theorem TBs_e {I : Int → Int} {e : Int} (s t : Int × List Int × Int) (R : Int × Int × List Int) (h : TBs I e s t) : ¬ TBe I e s R := fun k => by
  obtain ⟨a, q, d, b, q2, x0, x1, x2, x3, x4, x5, x6, x7, x8, x9, x10⟩ := h
  rcases k with ⟨y1, y2⟩ | ⟨y1, k⟩
  · omega
  · rcases k with ⟨y2, y3⟩ | ⟨a', qₚ, y2, k⟩
    · exact ADS_N x1 y2
    · obtain ⟨e1, e2⟩ := ADS_det x1 y2
      subst e1 e2
      rcases k with ⟨z1, z2, z3⟩ | ⟨z1, z2, z3⟩ | ⟨z1, z2, k⟩
      · omega
      · omega
      · rcases k with ⟨z3, z4⟩ | ⟨z3, z4, z5⟩ | ⟨z3, k⟩
        · omega
        · omega
        · rcases k with ⟨d', z4, z5, z6⟩ | ⟨d', z4, z5, z6, k⟩
          · omega
          · rcases k with ⟨z7, z8⟩ | ⟨b', q2', z7, z8, z9⟩
            · exact ADS_N x8 z7
            · obtain ⟨e3, e4⟩ := ADS_det x8 z7
              omega

def TBR (I : Int → Int) (e p : Int) (W : List Int) (r : Int) (R : Int × Int × List Int) : Prop := IT (TBs I e) (TBe I e) (p, W, r) R
theorem TBR_det {I : Int → Int} {e p : Int} {W : List Int} {r : Int} {R R2 : Int × Int × List Int} (h : TBR I e p W r R) (k : TBR I e p W r R2) : R = R2 := IT_det TBs_det TBe_det TBs_e h k

def ADI (I : Int → Int) (v p0 p on num : Int) : Prop := (v < 15 ∧ on = 0 ∧ p = p0 ∧ num = v) ∨ (v = 15 ∧ on = 1 ∧ (∀ i, p0 ≤ i → i < p → I i = 255) ∧ num = v + 255 * (p - p0)) ∨ (v = 15 ∧ on = 0 ∧ p0 < p ∧ (∀ i, p0 ≤ i → i < p - 1 → I i = 255) ∧ I (p - 1) ≠ 255 ∧ num = v + 255 * (p - 1 - p0) + I (p - 1))
theorem ADI_0 {I : Int → Int} {v p on : Int} (h : v = 15 ∧ on = 1 ∨ v < 15 ∧ on = 0) : ADI I v p p on v := by
  rcases h with ⟨a, b⟩ | ⟨a, b⟩
  · exact .inr (.inl ⟨a, b, fun i x y => absurd y (by omega), by omega⟩)
  · exact .inl ⟨a, b, rfl, rfl⟩
theorem ADI_s {I : Int → Int} {v p0 p on num x on2 p2 num2 : Int} (h : ADI I v p0 p on num) (h1 : on = 1) (hx : I p = x) (hp0 : p0 ≤ p) (ho : x = 255 ∧ on2 = 1 ∨ x ≠ 255 ∧ on2 = 0) (hp : p2 = p + 1) (hn : num2 = num + x) : ADI I v p0 p2 on2 num2 := by
  subst hp
  rcases h with ⟨a, b, _⟩ | ⟨a, b, c, d⟩ | ⟨a, b, _⟩
  · omega
  · rcases ho with ⟨o1, o2⟩ | ⟨o1, o2⟩
    · refine .inr (.inl ⟨a, o2, fun i y z => ?_, by omega⟩)
      by_cases w : i = p
      · rw [w, hx]; exact o1
      · exact c i y (by omega)
    · have e : p + 1 - 1 = p := by omega
      refine .inr (.inr ⟨a, o2, by omega, fun i y z => c i y (by omega), ?_, ?_⟩)
      · rw [e, hx]; exact o1
      · rw [e, hx]; omega
  · omega
theorem ADI_end {I : Int → Int} {e v p0 p on num : Int} (h : ADI I v p0 p on num) (h1 : on = 0) (hp : p ≤ e) : ADS I e v p0 num p := by
  rcases h with ⟨a, b, c, d⟩ | ⟨a, b, _⟩ | ⟨a, b, c, d, f, g⟩
  · exact .inl ⟨a, d, c⟩
  · omega
  · exact .inr ⟨by omega, c, hp, d, f, g⟩
theorem ADI_non {I : Int → Int} {e v p0 p on num : Int} (h : ADI I v p0 p on num) (h1 : on = 1) (hp : p = e) : ADN I e v p0 := by
  subst hp
  rcases h with ⟨a, b, c, d⟩ | ⟨a, b, c, d⟩ | ⟨a, b, c, d, f, g⟩
  · omega
  · exact ⟨by omega, c⟩
  · omega
theorem ADN_e {I : Int → Int} {e v p v2 p2 : Int} (h : ADN I e v p) (hv : v = v2) (hp : p = p2) : ADN I e v2 p2 := by subst hv hp; exact h
theorem ADS_e {I : Int → Int} {e v p v2 p2 a q : Int} (h : ADS I e v p a q) (hv : v = v2) (hp : p = p2) : ADS I e v2 p2 a q := by subst hv hp; exact h

def TBQ (I : Int → Int) (e p : Int) (W : List Int) (r ret pl : Int) (O : List Int) : Prop := ∃ V, TBR I e p W r (ret, pl, V) ∧ IMP (ret = 0) (O = V)
def TBO (I : Int → Int) (e p0 : Int) (W0 : List Int) (r0 p : Int) (W : List Int) (r : Int) : Prop := ITO (TBs I e) (TBe I e) (p0, W0, r0) (p, W, r)
theorem TBO_f {I : Int → Int} {e p0 r0 p r ret pl f pl0 : Int} {W0 W O : List Int} (h : TBO I e p0 W0 r0 p W r) (k : TBe I e (p, W, r) (f, pl0, [])) (hf : ret = f) (hp : pl = pl0) (h0 : f ≠ 0) : TBQ I e p0 W0 r0 ret pl O := by
  subst hf hp
  exact ⟨[], ITO_e h k, fun z => absurd z h0⟩
theorem TBO_1 {I : Int → Int} {e p0 r0 p r ret pl : Int} {W0 W O : List Int} (h : TBO I e p0 W0 r0 p W r) (he : e ≤ p) (hf : ret = 1) (hp : pl = e) : TBQ I e p0 W0 r0 ret pl O := TBO_f h (.inl ⟨he, rfl⟩) hf hp (by omega)
theorem TBO_2 {I : Int → Int} {e p0 r0 p r ret pl v p1 : Int} {W0 W O : List Int} (h : TBO I e p0 W0 r0 p W r) (he : p < e) (k : ADN I e v p1) (hv : v = I p / 16) (h1 : p1 = p + 1) (hf : ret = 1) (hp : pl = e) : TBQ I e p0 W0 r0 ret pl O := TBO_f h (.inr ⟨he, .inl ⟨ADN_e k hv h1, rfl⟩⟩) hf hp (by omega)

def TB1 (I : Int → Int) (e p0 : Int) (W0 : List Int) (r0 p : Int) (W : List Int) (r a q : Int) : Prop := TBO I e p0 W0 r0 p W r ∧ p < e ∧ ADS I e (I p / 16) (p + 1) a q
theorem TB1_of {I : Int → Int} {e p0 r0 p r a q v p1 : Int} {W0 W : List Int} (h : TBO I e p0 W0 r0 p W r) (he : p < e) (k : ADS I e v p1 a q) (hv : v = I p / 16) (h1 : p1 = p + 1) : TB1 I e p0 W0 r0 p W r a q := ⟨h, he, ADS_e k hv h1⟩
theorem TB1_e {I : Int → Int} {e p0 r0 p r a q ret pl : Int} {W0 W O : List Int} (h : TB1 I e p0 W0 r0 p W r a q) (h1 : e - q < a) (h2 : e - q ≤ r) (hf : ret = 1) (hp : pl = e) : TBQ I e p0 W0 r0 ret pl O := TBO_f h.1 (.inr ⟨h.2.1, .inr ⟨a, q, h.2.2, .inl ⟨by omega, h2, rfl⟩⟩⟩) hf hp (by omega)
theorem TB1_r {I : Int → Int} {e p0 r0 p r a q ret pl : Int} {W0 W O : List Int} (h : TB1 I e p0 W0 r0 p W r a q) (h1 : r < a) (h2 : r < e - q) (hf : ret = 3) (hp : pl = q + r) : TBQ I e p0 W0 r0 ret pl O := TBO_f h.1 (.inr ⟨h.2.1, .inr ⟨a, q, h.2.2, .inr (.inl ⟨h1, h2, rfl⟩)⟩⟩) hf hp (by omega)

def TB2 (I : Int → Int) (e p0 : Int) (W0 : List Int) (r0 p : Int) (W : List Int) (r q p2 : Int) (W1 : List Int) : Prop := ∃ a, TB1 I e p0 W0 r0 p W r a q ∧ a ≤ e - q ∧ a ≤ r ∧ p2 = q + a ∧ W1 = W ++ sc I q (q + a) ∧ 0 ≤ a
theorem TB2_y {I : Int → Int} {e p0 r0 p r q p2 ret pl : Int} {W0 W W1 : List Int} (h : TB2 I e p0 W0 r0 p W r q p2 W1) (h1 : p2 = e) (hf : ret = 0) (hp : pl = e) : TBQ I e p0 W0 r0 ret pl W1 := by
  obtain ⟨a, k, x1, x2, x3, x4, _⟩ := h
  subst hf hp
  exact ⟨W ++ sc I q (q + a), ITO_e k.1 (.inr ⟨k.2.1, .inr ⟨a, q, k.2.2, .inr (.inr ⟨x1, x2, .inl ⟨by omega, rfl⟩⟩)⟩⟩), fun _ => x4⟩
theorem TB2_e {I : Int → Int} {e p0 r0 p r q p2 ret pl : Int} {W0 W W1 O : List Int} (h : TB2 I e p0 W0 r0 p W r q p2 W1) (h1 : p2 < e ∧ e < p2 + 2) (hf : ret = 1) (hp : pl = e) : TBQ I e p0 W0 r0 ret pl O := by
  obtain ⟨a, k, x1, x2, x3, x4, _⟩ := h
  exact TBO_f k.1 (.inr ⟨k.2.1, .inr ⟨a, q, k.2.2, .inr (.inr ⟨x1, x2, .inr (.inl ⟨by omega, by omega, rfl⟩)⟩)⟩⟩) hf hp (by omega)
theorem TB2_len {I : Int → Int} {e p0 r0 p r q p2 : Int} {W0 W W1 : List Int} (h : TB2 I e p0 W0 r0 p W r q p2 W1) : (W1.length : Int) = (W.length : Int) + (p2 - q) := by
  obtain ⟨a, k, x1, x2, x3, x4, x5⟩ := h
  rw [x4, List.length_append]
  have := sc_lenI (f := I) (a := q) (b := q + a) (by omega)
  omega
theorem TB2_d {I : Int → Int} {e p0 r0 p r q p2 ret pl d : Int} {W0 W W1 O : List Int} (h : TB2 I e p0 W0 r0 p W r q p2 W1) (h1 : p2 + 2 ≤ e) (hd : d = I p2 + 256 * I (p2 + 1)) (hx : d < 1 ∨ (W1.length : Int) < d) (hf : ret = 2) (hp : pl = p2) : TBQ I e p0 W0 r0 ret pl O := by
  have hl := TB2_len h
  obtain ⟨a, k, x1, x2, x3, x4, _⟩ := h
  subst x3
  exact TBO_f k.1 (.inr ⟨k.2.1, .inr ⟨a, q, k.2.2, .inr (.inr ⟨x1, x2, .inr (.inr ⟨by omega, .inl ⟨d, hd, by show d < 1 ∨ ((W.length : Nat) : Int) + a < d; omega, rfl⟩⟩)⟩)⟩⟩) hf hp (by omega)
theorem TB2_n {I : Int → Int} {e p0 r0 p r q p2 ret pl d v p3 : Int} {W0 W W1 O : List Int} (h : TB2 I e p0 W0 r0 p W r q p2 W1) (h1 : p2 + 2 ≤ e) (hd : d = I p2 + 256 * I (p2 + 1)) (hx : 1 ≤ d ∧ d ≤ (W1.length : Int)) (k2 : ADN I e v p3) (hv : v = I p % 16) (h3 : p3 = p2 + 2) (hf : ret = 1) (hp : pl = e) : TBQ I e p0 W0 r0 ret pl O := by
  have hl := TB2_len h
  obtain ⟨a, k, x1, x2, x3, x4, _⟩ := h
  subst x3
  exact TBO_f k.1 (.inr ⟨k.2.1, .inr ⟨a, q, k.2.2, .inr (.inr ⟨x1, x2, .inr (.inr ⟨by omega, .inr ⟨d, hd, hx.1, by show d ≤ ((W.length : Nat) : Int) + a; omega, .inl ⟨ADN_e k2 hv h3, rfl⟩⟩⟩)⟩)⟩⟩) hf hp (by omega)
theorem TB2_r {I : Int → Int} {e p0 r0 p r q p2 ret pl d v p3 b q2 : Int} {W0 W W1 O : List Int} (h : TB2 I e p0 W0 r0 p W r q p2 W1) (h1 : p2 + 2 ≤ e) (hd : d = I p2 + 256 * I (p2 + 1)) (hx : 1 ≤ d ∧ d ≤ (W1.length : Int)) (k2 : ADS I e v p3 b q2) (hv : v = I p % 16) (h3 : p3 = p2 + 2) (hr : r - (p2 - q) < b + 4) (hf : ret = 3) (hp : pl = p2) : TBQ I e p0 W0 r0 ret pl O := by
  have hl := TB2_len h
  obtain ⟨a, k, x1, x2, x3, x4, _⟩ := h
  subst x3
  exact TBO_f k.1 (.inr ⟨k.2.1, .inr ⟨a, q, k.2.2, .inr (.inr ⟨x1, x2, .inr (.inr ⟨by omega, .inr ⟨d, hd, hx.1, by show d ≤ ((W.length : Nat) : Int) + a; omega, .inr ⟨b, q2, ADS_e k2 hv h3, by show r - a < b + 4; omega, rfl⟩⟩⟩)⟩)⟩⟩) hf hp (by omega)
theorem TB2_s {I : Int → Int} {e p0 r0 p r q p2 d v p3 b q2 r2 n : Int} {W0 W W1 W2 : List Int} (h : TB2 I e p0 W0 r0 p W r q p2 W1) (h1 : p2 + 2 ≤ e) (hd : d = I p2 + 256 * I (p2 + 1)) (hx : 1 ≤ d ∧ d ≤ (W1.length : Int)) (k2 : ADS I e v p3 b q2) (hv : v = I p % 16) (h3 : p3 = p2 + 2) (hr : b + 4 ≤ r - (p2 - q)) (hn : n = b + 4) (hW : W2 = cpb W1 d n.toNat) (h2 : r2 = r - (p2 - q) - n) : TBO I e p0 W0 r0 q2 W2 r2 := by
  have hl := TB2_len h
  obtain ⟨a, k, x1, x2, x3, x4, _⟩ := h
  subst x3 hn hW h2
  rw [x4] at hx
  refine ITO_s k.1 ⟨a, q, d, b, q2, k.2.1, k.2.2, x1, x2, by omega, hd, hx.1, ?_, ADS_e k2 hv h3, ?_, ?_⟩
  · show d ≤ ((W.length : Nat) : Int) + a
    rw [x4] at hl
    omega
  · show b + 4 ≤ r - a
    omega
  · rw [x4, show q + a - q = a by omega]
theorem TBO_0 {I : Int → Int} {e p r : Int} {W : List Int} : TBO I e p W r p W r := ITO_0
theorem TB2_of {I : Int → Int} {e p0 r0 p r a q p2 : Int} {W0 W W1 : List Int} (h : TB1 I e p0 W0 r0 p W r a q) (hp : p2 = q + a) (h1 : a ≤ e - q) (h2 : a ≤ r) (hW : W1 = W ++ sc I q p2) (h0 : 0 ≤ a) : TB2 I e p0 W0 r0 p W r q p2 W1 := ⟨a, h, h1, h2, hp, by rw [hW, hp], h0⟩

theorem SCA {f I : Int → Int} {W : List Int} {n p v n2 p2 q : Int} (h : sc f 0 n = W ++ sc I q p) (h0 : 0 ≤ n) (hq : q ≤ p) (hv : I p = v) (hn : n2 = n + 1) (hp : p2 = p + 1) : sc (upd1 f n v) 0 n2 = W ++ sc I q p2 := by
  rw [sc_snoc h0 hn, upd1_s, sc_same (g := f) (fun i a b => upd1_o (by omega)), h, sc_snoc hq hp, hv, List.append_assoc]
theorem getD_sc {f : Int → Int} {n d : Int} (hd : 1 ≤ d ∧ d ≤ n) : (sc f 0 n).getD ((sc f 0 n).length - d.toNat) 0 = u8 (f (n - d)) := by
  have := ap_sc (f := f) (n := n) (k := n - d) (by omega) (by omega)
  unfold ap at this
  rw [sc_len, show (n - 0).toNat - d.toNat = (n - d).toNat by omega]
  exact this
theorem CPS {f : Int → Int} {W : List Int} {d n k v n2 k2 ix : Int} (h : sc f 0 n = cpb W d k.toNat) (h0 : 0 ≤ n) (hk : 0 ≤ k) (hv : f ix = v) (hx : ix = n - d) (hd : 1 ≤ d ∧ d ≤ n) (en : n2 = n + 1) (ek : k2 = k + 1) (hr : 0 ≤ v ∧ v ≤ 255) : sc (upd1 f n v) 0 n2 = cpb W d k2.toNat := by
  subst hx
  rw [cpb_s (v := v) hk ek (by rw [← h, getD_sc hd, hv, u8_id hr]), sc_snoc h0 en, upd1_s, u8_id hr, sc_same (g := f) (fun i a b => upd1_o (by omega)), h]
theorem cpb_pre {W : List Int} {d : Int} : ∀ (n : Nat), ∃ X, cpb W d n = W ++ X
  | 0 => ⟨[], (List.append_nil W).symm⟩
  | n + 1 => by
    obtain ⟨X, h⟩ := cpb_pre (W := W) (d := d) n
    refine ⟨X ++ [(cpb W d n).getD ((cpb W d n).length - d.toNat) 0], ?_⟩
    show cpb W d n ++ [_] = _
    rw [← List.append_assoc, ← h]
theorem TBR_pre {I : Int → Int} {e : Int} : ∀ {n : Nat} {s : Int × List Int × Int} {R : Int × Int × List Int}, itR (TBs I e) (TBe I e) n s R → R.1 = 0 → ∃ X, R.2.2 = s.2.1 ++ X
  | 0, s, R, h, hz => by
    rcases h with ⟨_, h⟩ | ⟨_, h⟩
    · rw [h] at hz; exact absurd hz (show ¬ (1 : Int) = 0 by decide)
    · rcases h with ⟨_, h⟩ | ⟨a, q, _, h⟩
      · rw [h] at hz; exact absurd hz (show ¬ (1 : Int) = 0 by decide)
      · rcases h with ⟨_, _, h⟩ | ⟨_, _, h⟩ | ⟨_, _, h⟩
        · rw [h] at hz; exact absurd hz (show ¬ (1 : Int) = 0 by decide)
        · rw [h] at hz; exact absurd hz (show ¬ (3 : Int) = 0 by decide)
        · rcases h with ⟨_, h⟩ | ⟨_, _, h⟩ | ⟨_, h⟩
          · rw [h]; exact ⟨_, rfl⟩
          · rw [h] at hz; exact absurd hz (show ¬ (1 : Int) = 0 by decide)
          · rcases h with ⟨d, _, _, h⟩ | ⟨d, _, _, _, h⟩
            · rw [h] at hz; exact absurd hz (show ¬ (2 : Int) = 0 by decide)
            · rcases h with ⟨_, h⟩ | ⟨b, q2, _, _, h⟩
              · rw [h] at hz; exact absurd hz (show ¬ (1 : Int) = 0 by decide)
              · rw [h] at hz; exact absurd hz (show ¬ (3 : Int) = 0 by decide)
  | n + 1, s, R, ⟨t, x, k⟩, hz => by
    obtain ⟨X, h⟩ := TBR_pre k hz
    obtain ⟨a, q, d, b, q2, x0, x1, x2, x3, x4, x5, x6, x7, x8, x9, x10⟩ := x
    rw [x10] at h
    obtain ⟨Y, hy⟩ := cpb_pre (W := s.2.1 ++ sc I q (q + a)) (d := d) (b + 4).toNat
    refine ⟨sc I q (q + a) ++ (Y ++ X), ?_⟩
    rw [h]
    show cpb (s.2.1 ++ sc I q (q + a)) d (b + 4).toNat ++ X = _
    rw [hy]
    simp only [List.append_assoc]

def RDT (I : Int → Int) (e : Int) (H : List Int) (r ret pl n : Int) (g : Int → Int) : Prop := ∃ f V, TBR I e 0 H r (f, pl, V) ∧ (f = 0 ∧ ret = n ∧ 0 ≤ n ∧ H ++ sc g 0 n = V ∨ 1 ≤ f ∧ ret = -f)
theorem RDT_det {I : Int → Int} {e : Int} {H : List Int} {r ret pl n ret2 pl2 n2 : Int} {g g2 : Int → Int} (h : RDT I e H r ret pl n g) (k : RDT I e H r ret2 pl2 n2 g2) : ret = ret2 ∧ pl = pl2 ∧ (0 ≤ ret → n = n2 ∧ sc g 0 n = sc g2 0 n2) := by
  obtain ⟨f, V, a, b⟩ := h
  obtain ⟨f2, V2, a2, b2⟩ := k
  have e1 := TBR_det a a2
  have ef : f = f2 := congrArg (fun q : Int × Int × List Int => q.1) e1
  have ep : pl = pl2 := congrArg (fun q : Int × Int × List Int => q.2.1) e1
  have eV : V = V2 := congrArg (fun q : Int × Int × List Int => q.2.2) e1
  subst ef ep eV
  rcases b with ⟨x, y, z, u⟩ | ⟨x, y⟩ <;> rcases b2 with ⟨x2, y2, z2, u2⟩ | ⟨x2, y2⟩
  · have es : sc g 0 n = sc g2 0 n2 := List.append_cancel_left (u.trans u2.symm)
    have el := congrArg (fun q : List Int => (q.length : Int)) es
    have l1 := sc_lenI (f := g) z
    have l2 := sc_lenI (f := g2) z2
    have el : ((sc g 0 n).length : Int) = ((sc g2 0 n2).length : Int) := el
    exact ⟨by omega, rfl, fun _ => ⟨by omega, es⟩⟩
  · omega
  · omega
  · exact ⟨by omega, rfl, fun q => by omega⟩
theorem RDT_f {I : Int → Int} {e r f pl ret n : Int} {H O : List Int} {g : Int → Int} (h : TBQ I e 0 H r f pl O) (hf : 1 ≤ f) (hr : ret = -f) : RDT I e H r ret pl n g := by
  obtain ⟨V, a, _⟩ := h
  exact ⟨f, V, a, .inr ⟨hf, hr⟩⟩
theorem RDT_y {I : Int → Int} {e r f pl ret n : Int} {H O : List Int} {g : Int → Int} (h : TBQ I e 0 H r f pl O) (hf : f = 0) (hr : ret = n) (h0 : 0 ≤ n) (hO : O = H ++ sc g 0 n) : RDT I e H r ret pl n g := by
  obtain ⟨V, a, b⟩ := h
  exact ⟨f, V, a, .inl ⟨hf, hr, h0, by rw [← hO]; exact b hf⟩⟩

theorem TBQ_pre {I : Int → Int} {e p r f pl a b : Int} {W : List Int} {g : Int → Int} (h : TBQ I e p W r f pl (sc g 0 b)) (hf : f = 0) (ha : (W.length : Int) = a) (hb : a ≤ b) : sc g 0 b = W ++ sc g a b := by
  obtain ⟨V, ⟨n, k⟩, q⟩ := h
  have e1 := q hf
  obtain ⟨X, hX⟩ := TBR_pre k hf
  have hX : V = W ++ X := hX
  have h0 : 0 ≤ a := by omega
  have e2 := sc_cat (f := g) h0 hb
  rw [e1, hX] at e2
  have e3 := List.append_inj e2 (by rw [sc_len]; omega)
  rw [e1, hX, e3.2]


end
section
/-! 17j -/
def shlJ (a b : Int) : Int := (rsop 0 (Int64.ofInt a) (Int32.ofInt b)).toInt
def orJ (a b : Int) : Int := (rlop 4 (Int64.ofInt a) (Int64.ofInt b)).toInt
section ROWF
variable {σ : rS} {μ d pc c s : Nat} {ls : rO} {st : List Value} {Q : wQ} {len : Nat} {act : rA}
theorem w_lshlF {a : Int} (k m : Int) (hm : p2 k = m) (hk : 0 ≤ k ∧ k ≤ 63) (hf : PP.1 μ pc = some (.lshl, len, act)) (h : ∀ z, inrJ z → (inrJ (a * m) → z = a * m) → shlJ a k = z → Ew μ d (pc + 1) ls (J z :: st) σ c s Q) : Ew μ d pc ls (I k :: J a :: st) σ c s Q :=
  Ew_of (fun _ => x_lshl hf (z := shlJ a k) (toJ_of _).symm) (h _ (toJ_inr _) (fun q => by subst hm; unfold shlJ; rw [shl64 hk, toJ_ofJ q]) rfl)
theorem w_lorF {a b : Int} (hf : PP.1 μ pc = some (.lor, len, act)) (ha : inrJ a) (hb : inrJ b) (h : ∀ z, inrJ z → (0 ≤ a ∧ 0 ≤ b → 0 ≤ z ∧ z ≤ a + b) → orJ a b = z → Ew μ d (pc + 1) ls (J z :: st) σ c s Q) : Ew μ d pc ls (J b :: J a :: st) σ c s Q :=
  Ew_of (fun _ => x_lor hf (z := orJ a b) (toJ_of _).symm) (h _ (toJ_inr _) (fun q => orN64 ⟨q.1, ha⟩ ⟨q.2, hb⟩) rfl)
end ROWF
def nmb (d : Int → Int) (a n : Int) : Nat → Int
  | 0 => 0
  | k + 1 => orJ (shlJ (nmb d a n k) 8) (d (a + (n - 1 - k)) % 256)
theorem nmb_s {d : Int → Int} {a n k k2 i v x y z : Int} (k0 : 0 ≤ k) (e2 : k2 = k + 1) (hi : i = n - 1 - k) (ev : v = nmb d a n k.toNat) (ex : shlJ v 8 = x) (ey : d (a + i) % 256 = y) (ez : orJ x y = z) : z = nmb d a n k2.toNat := by
  rw [e2, show (k + 1).toNat = k.toNat + 1 by omega]
  show z = orJ (shlJ (nmb d a n k.toNat) 8) (d (a + (n - 1 - (k.toNat : Int))) % 256)
  rw [← ev, ex, show (n - 1 - ((k.toNat : Nat) : Int)) = i by omega, ey, ez]

def nvl (f : Int → Int) : Int → Nat → Int
  | _, 0 => 0
  | a, n + 1 => u8 (f a) + 256 * nvl f (a + 1) n
theorem shor {a b : Int} (hb : 0 ≤ b ∧ b ≤ 255) : orJ (shlJ a 8) b % 18446744073709551616 = (a * 256 + b) % 18446744073709551616 := by
  have e : ((2 ^ 64 : Nat) : Int) = 18446744073709551616 := rfl
  have e1 : shlJ a 8 = (Int64.ofInt (a * 256)).toInt := by
    unfold shlJ
    rw [shl64 (by omega), show p2 8 = 256 by decide]
  have e2 : Int64.ofInt (shlJ a 8) = Int64.ofInt (a * 256) := by rw [e1, toJ_of]
  unfold orJ
  rw [e2]
  have hN : (rlop 4 (Int64.ofInt (a * 256)) (Int64.ofInt b)).toBitVec.toNat = (a * 256 % 18446744073709551616).toNat + b.toNat := by
    show ((Int64.ofInt (a * 256)) ||| (Int64.ofInt b)).toBitVec.toNat = _
    rw [Int64.toBitVec_or, BitVec.toNat_or, Int64.toBitVec_ofInt, Int64.toBitVec_ofInt, BitVec.toNat_ofInt, BitVec.toNat_ofInt, e, show b % 18446744073709551616 = b by omega]
    obtain ⟨q, hq⟩ : ∃ q : Nat, (a * 256 % 18446744073709551616).toNat = q * 2 ^ 8 := ⟨(a % 72057594037927936).toNat, by omega⟩
    rw [hq, ← Nat.shiftLeft_eq]
    exact (Nat.shiftLeft_add_eq_or_of_lt (show b.toNat < 2 ^ 8 by omega) q).symm
  show (rlop 4 (Int64.ofInt (a * 256)) (Int64.ofInt b)).toBitVec.toInt % 18446744073709551616 = _
  rw [BitVec.toInt_eq_toNat_bmod, hN]
  have h : (((a * 256 % 18446744073709551616).toNat + b.toNat : Nat) : Int).bmod (2 ^ 64) % ((2 ^ 64 : Nat) : Int) = (((a * 256 % 18446744073709551616).toNat + b.toNat : Nat) : Int) % ((2 ^ 64 : Nat) : Int) := Int.bmod_emod
  rw [e] at h
  rw [h]
  omega
theorem nmb_nvl {d : Int → Int} {a n : Int} : ∀ {k : Nat}, (k : Int) ≤ n → nmb d a n k % 18446744073709551616 = nvl d (a + n - k) k % 18446744073709551616
  | 0, _ => rfl
  | k + 1, hk => by
    have ih := nmb_nvl (d := d) (a := a) (n := n) (k := k) (by omega)
    show orJ (shlJ (nmb d a n k) 8) (d (a + (n - 1 - k)) % 256) % 18446744073709551616 = (u8 (d (a + n - ((k + 1 : Nat) : Int))) + 256 * nvl d (a + n - ((k + 1 : Nat) : Int) + 1) k) % 18446744073709551616
    rw [shor (by omega), show a + n - ((k + 1 : Nat) : Int) + 1 = a + n - k by omega, show a + (n - 1 - (k : Int)) = a + n - ((k + 1 : Nat) : Int) by omega]
    unfold u8
    omega
theorem nvl_2 {d : Int → Int} {a : Int} : nvl d a 2 = u8 (d a) + 256 * u8 (d (a + 1)) := by
  show u8 (d a) + 256 * (u8 (d (a + 1)) + 256 * 0) = _
  omega
theorem nmb_2 {d : Int → Int} {a r : Int} (h : r = nmb d a 2 2) (hr : 0 ≤ r ∧ r ≤ 65535) : r = u8 (d a) + 256 * u8 (d (a + 1)) := by
  have := nmb_nvl (d := d) (a := a) (n := 2) (k := 2) (by omega)
  rw [show a + 2 - ((2 : Nat) : Int) = a by omega, nvl_2, ← h] at this
  have h1 := u8_rng (d a)
  have h2 := u8_rng (d (a + 1))
  omega

theorem getD_hi {X : List Int} {g : Int → Int} {b n d : Int} (hd : 1 ≤ d) (hq : b ≤ n - d) : (X ++ sc g b n).getD ((X ++ sc g b n).length - d.toNat) 0 = u8 (g (n - d)) := by
  rw [List.getD_eq_getElem?_getD, List.length_append, sc_len, List.getElem?_append_right (by omega), show X.length + (n - b).toNat - d.toNat - X.length = (n - d - b).toNat by omega, sc_get (by omega) (by omega), show b + (n - d - b) = n - d by omega]
  rfl
theorem getD_lo {f g : Int → Int} {c b n d : Int} (h0 : 0 ≤ c) (hb : b ≤ n) (hd : 1 ≤ d) (hq : n - d < b) (hc : 0 ≤ c + (n - d) - b) : (sc f 0 c ++ sc g b n).getD ((sc f 0 c ++ sc g b n).length - d.toNat) 0 = u8 (f (c + (n - d) - b)) := by
  rw [List.getD_eq_getElem?_getD, List.length_append, sc_len, sc_len, List.getElem?_append_left (by rw [sc_len]; omega), show (c - 0).toNat + (n - b).toNat - d.toNat = (c + (n - d) - b).toNat by omega, sc_get (by omega) (by omega), Int.zero_add]
  rfl
theorem CBK {X W : List Int} {g : Int → Int} {b n d k v n2 k2 : Int} (h : X ++ sc g b n = cpb W d k.toNat) (hk : 0 ≤ k) (hb : b ≤ n) (hv : (X ++ sc g b n).getD ((X ++ sc g b n).length - d.toNat) 0 = u8 v) (en : n2 = n + 1) (ek : k2 = k + 1) : X ++ sc (upd1 g n v) b n2 = cpb W d k2.toNat := by
  rw [cpb_s (v := u8 v) hk ek (by rw [← h]; exact hv), sc_snoc hb en, upd1_s, sc_same (g := g) (fun i a b => upd1_o (by omega)), ← List.append_assoc, h]
theorem CBK_hi {X W : List Int} {g : Int → Int} {b n d k v w n2 k2 q : Int} (h : X ++ sc g b n = cpb W d k.toNat) (hk : 0 ≤ k) (hb : b ≤ n) (hd : 1 ≤ d) (eq : q = n - d) (hq : b ≤ q) (hv : g q = w) (hu : u8 v = u8 w) (en : n2 = n + 1) (ek : k2 = k + 1) : X ++ sc (upd1 g n v) b n2 = cpb W d k2.toNat := by
  subst eq
  exact CBK h hk hb (by rw [getD_hi hd hq, hv, hu]) en ek
theorem CBK_lo {W : List Int} {f g : Int → Int} {c b n d k v w n2 k2 q : Int} (h : sc f 0 c ++ sc g b n = cpb W d k.toNat) (hk : 0 ≤ k) (hb : b ≤ n) (hd : 1 ≤ d) (h0 : 0 ≤ c) (eq : q = c + (n - d) - b) (hq : n - d < b) (hc : 0 ≤ q) (hv : f q = w) (hu : u8 v = u8 w) (en : n2 = n + 1) (ek : k2 = k + 1) : sc f 0 c ++ sc (upd1 g n v) b n2 = cpb W d k2.toNat := by
  subst eq
  exact CBK h hk hb (by rw [getD_lo h0 hb hd hq hc, hv, hu]) en ek
def ub8 (f : Int → Int) : Int → Int := fun i => u8 (f i)
theorem sc_ub8 {f : Int → Int} {a b : Int} : sc (ub8 f) a b = sc f a b := sc_congr (fun k _ _ => u8_id (u8_rng _))

theorem RAP_from {b n b1 n1 a : Int} {g g1 : Int → Int} {M : List Int} (h : RAP b g n b1 g1 n1 M) (hb : b = 0) (ha : 0 ≤ a ∧ a ≤ n) (hn : n1 = n + (M.length : Int)) (hM : n1 ≤ 65536) : b1 = 0 ∧ sc g1 a n1 = sc g a n ++ M := by
  subst hb
  have l0 := sc_lenI (f := g) (show (0 : Int) ≤ n by omega)
  rcases h (sc g 0 n) (.inl ⟨rfl, rfl⟩) with ⟨x, y⟩ | ⟨_, y⟩
  · refine ⟨x, ?_⟩
    rw [sc_cat (b := a) ha.1 (by omega), sc_cat (f := g) (b := a) ha.1 ha.2, List.append_assoc] at y
    exact (List.append_inj y (by rw [sc_len, sc_len])).2
  · rw [List.length_append] at y
    omega

theorem and255 (a : Int) : (rop 3 (Int32.ofInt a) (Int32.ofInt 255)).toInt = a % 256 := by
  have e : (rop 3 (Int32.ofInt a) (Int32.ofInt 255)).toBitVec.toNat = (Int32.ofInt a).toBitVec.toNat % 256 := by
    show ((Int32.ofInt a).toBitVec &&& (Int32.ofInt 255).toBitVec).toNat = _
    rw [BitVec.toNat_and, show (Int32.ofInt 255).toBitVec.toNat = 2 ^ 8 - 1 from by decide, Nat.and_two_pow_sub_one_eq_mod]
  have e2 : ((Int32.ofInt a).toBitVec.toNat : Int) % 256 = a % 256 := by
    show (((BitVec.ofInt 32 a).toNat : Nat) : Int) % 256 = _
    rw [BitVec.toNat_ofInt, Int.toNat_of_nonneg (Int.emod_nonneg _ (by decide))]
    have : ((2 ^ 32 : Nat) : Int) = 256 * 16777216 := by decide
    rw [this]
    omega
  show (rop 3 (Int32.ofInt a) (Int32.ofInt 255)).toBitVec.toInt = _
  rw [BitVec.toInt_eq_toNat_of_lt (by rw [e]; omega), e, ← e2]
  omega
theorem v_and255 {σ : rS} {μ d pc c s : Nat} {ls : rO} {st : List Value} {Q : wQ} {len : Nat} {act : rA} {a : Int} (hf : PP.1 μ pc = some (.iand, len, act)) (h : Ew μ d (pc + 1) ls (I (a % 256) :: st) σ c s Q) : Ew μ d pc ls (I 255 :: I a :: st) σ c s Q :=
  Ew_of (fun _ e => x_iand hf (by rw [← and255 a]; exact (toI_of _).symm) e) h


end
section
/-! 17k -/
def adI (a b : Int) : Int := (rop 0 (Int32.ofInt a) (Int32.ofInt b)).toInt
def sbI (a b : Int) : Int := (rop 1 (Int32.ofInt a) (Int32.ofInt b)).toInt
def muI (a b : Int) : Int := (rop 2 (Int32.ofInt a) (Int32.ofInt b)).toInt
def slI (a b : Int) : Int := (rop 6 (Int32.ofInt a) (Int32.ofInt b)).toInt
def usI (a b : Int) : Int := (rop 8 (Int32.ofInt a) (Int32.ofInt b)).toInt
def orI (a b : Int) : Int := ((Int32.ofInt a) ||| (Int32.ofInt b)).toInt
def xoI (a b : Int) : Int := ((Int32.ofInt a) ^^^ (Int32.ofInt b)).toInt
def adJ (a b : Int) : Int := (rlop 0 (Int64.ofInt a) (Int64.ofInt b)).toInt
def sbJ (a b : Int) : Int := (rlop 1 (Int64.ofInt a) (Int64.ofInt b)).toInt
def muJ (a b : Int) : Int := (rlop 2 (Int64.ofInt a) (Int64.ofInt b)).toInt
def xoJ (a b : Int) : Int := (rlop 5 (Int64.ofInt a) (Int64.ofInt b)).toInt
def anJ (a b : Int) : Int := ((Int64.ofInt a) &&& (Int64.ofInt b)).toInt
def usJ (a b : Int) : Int := (rsop 2 (Int64.ofInt a) (Int32.ofInt b)).toInt
def srJ (a b : Int) : Int := (rsop 1 (Int64.ofInt a) (Int32.ofInt b)).toInt
section ROWE
variable {σ : rS} {μ d pc c s : Nat} {ls : rO} {st : List Value} {Q : wQ} {len : Nat} {act : rA}
theorem w_iaddE {a b : Int} (hf : PP.1 μ pc = some (.iadd, len, act)) (h : Ew μ d (pc + 1) ls (I (adI a b) :: st) σ c s Q) : Ew μ d pc ls (I b :: I a :: st) σ c s Q :=
  Ew_of (fun _ => x_iadd hf (z := adI a b) (toI_of _).symm) h
theorem w_isubE {a b : Int} (hf : PP.1 μ pc = some (.isub, len, act)) (h : Ew μ d (pc + 1) ls (I (sbI a b) :: st) σ c s Q) : Ew μ d pc ls (I b :: I a :: st) σ c s Q :=
  Ew_of (fun _ => x_isub hf (z := sbI a b) (toI_of _).symm) h
theorem w_imulE {a b : Int} (hf : PP.1 μ pc = some (.imul, len, act)) (h : Ew μ d (pc + 1) ls (I (muI a b) :: st) σ c s Q) : Ew μ d pc ls (I b :: I a :: st) σ c s Q :=
  Ew_of (fun _ => x_imul hf (z := muI a b) (toI_of _).symm) h
theorem w_ishlE {a b : Int} (hf : PP.1 μ pc = some (.ishl, len, act)) (h : Ew μ d (pc + 1) ls (I (slI a b) :: st) σ c s Q) : Ew μ d pc ls (I b :: I a :: st) σ c s Q :=
  Ew_of (fun _ => x_ishl hf (z := slI a b) (toI_of _).symm) h
theorem w_iushrE {a b : Int} (hf : PP.1 μ pc = some (.iushr, len, act)) (h : Ew μ d (pc + 1) ls (I (usI a b) :: st) σ c s Q) : Ew μ d pc ls (I b :: I a :: st) σ c s Q :=
  Ew_of (fun _ => x_iushr hf (z := usI a b) (toI_of _).symm) h
theorem w_iorE {a b : Int} (hf : PP.1 μ pc = some (.ior, len, act)) (h : Ew μ d (pc + 1) ls (I (orI a b) :: st) σ c s Q) : Ew μ d pc ls (I b :: I a :: st) σ c s Q :=
  Ew_of (fun _ => x_ior hf (z := orI a b) (toI_of _).symm) h
theorem w_ixorE {a b : Int} (hf : PP.1 μ pc = some (.ixor, len, act)) (h : Ew μ d (pc + 1) ls (I (xoI a b) :: st) σ c s Q) : Ew μ d pc ls (I b :: I a :: st) σ c s Q :=
  Ew_of (fun _ => x_ixor hf (z := xoI a b) (toI_of _).symm) h
theorem w_laddE {a b : Int} (hf : PP.1 μ pc = some (.ladd, len, act)) (h : Ew μ d (pc + 1) ls (J (adJ a b) :: st) σ c s Q) : Ew μ d pc ls (J b :: J a :: st) σ c s Q :=
  Ew_of (fun _ => x_ladd hf (z := adJ a b) (toJ_of _).symm) h
theorem w_lsubE {a b : Int} (hf : PP.1 μ pc = some (.lsub, len, act)) (h : Ew μ d (pc + 1) ls (J (sbJ a b) :: st) σ c s Q) : Ew μ d pc ls (J b :: J a :: st) σ c s Q :=
  Ew_of (fun _ => x_lsub hf (z := sbJ a b) (toJ_of _).symm) h
theorem w_lmulE {a b : Int} (hf : PP.1 μ pc = some (.lmul, len, act)) (h : Ew μ d (pc + 1) ls (J (muJ a b) :: st) σ c s Q) : Ew μ d pc ls (J b :: J a :: st) σ c s Q :=
  Ew_of (fun _ => x_lmul hf (z := muJ a b) (toJ_of _).symm) h
theorem w_lorE {a b : Int} (hf : PP.1 μ pc = some (.lor, len, act)) (h : Ew μ d (pc + 1) ls (J (orJ a b) :: st) σ c s Q) : Ew μ d pc ls (J b :: J a :: st) σ c s Q :=
  Ew_of (fun _ => x_lor hf (z := orJ a b) (toJ_of _).symm) h
theorem w_lxorE {a b : Int} (hf : PP.1 μ pc = some (.lxor, len, act)) (h : Ew μ d (pc + 1) ls (J (xoJ a b) :: st) σ c s Q) : Ew μ d pc ls (J b :: J a :: st) σ c s Q :=
  Ew_of (fun _ => x_lxor hf (z := xoJ a b) (toJ_of _).symm) h
theorem w_landE {a b : Int} (hf : PP.1 μ pc = some (.land, len, act)) (h : Ew μ d (pc + 1) ls (J (anJ a b) :: st) σ c s Q) : Ew μ d pc ls (J b :: J a :: st) σ c s Q :=
  Ew_of (fun _ => x_land hf (z := anJ a b) (toJ_of _).symm) h
theorem w_lshlE {a b : Int} (hf : PP.1 μ pc = some (.lshl, len, act)) (h : Ew μ d (pc + 1) ls (J (shlJ a b) :: st) σ c s Q) : Ew μ d pc ls (I b :: J a :: st) σ c s Q :=
  Ew_of (fun _ => x_lshl hf (z := shlJ a b) (toJ_of _).symm) h
theorem w_lushrE {a b : Int} (hf : PP.1 μ pc = some (.lushr, len, act)) (h : Ew μ d (pc + 1) ls (J (usJ a b) :: st) σ c s Q) : Ew μ d pc ls (I b :: J a :: st) σ c s Q :=
  Ew_of (fun _ => x_lushr hf (z := usJ a b) (toJ_of _).symm) h
theorem w_lshrE {a b : Int} (hf : PP.1 μ pc = some (.lshr, len, act)) (h : Ew μ d (pc + 1) ls (J (srJ a b) :: st) σ c s Q) : Ew μ d pc ls (I b :: J a :: st) σ c s Q :=
  Ew_of (fun _ => x_lshr hf (z := srJ a b) (toJ_of _).symm) h
end ROWE

def rtI (v k : Int) : Int := orI (slI v k) (usI v (32 - k))
def rtJ (v k : Int) : Int := orJ (shlJ v k) (usJ v (64 - k))

def nlI (l w : Int) : Int := muI (rtI (adI l (muI w (-2048144777))) 13) (-1640531535)
def w32 (x : Int) : Int := (Int32.ofInt x).toInt

def wdI (f : Int → Int) (p : Int) : Int := w32 (nvl f p 4)

def itl (g : Int → Int → Int) (e : Int) : Int → Nat → Int → Int
  | _, 0, l => l
  | p, k + 1, l => itl g e (p + e) k (g l p)
theorem itl_s {g : Int → Int → Int} {e p l l2 p2_ : Int} {k k2 : Nat} (hk : k = k2 + 1) (hl : l2 = g l p) (hp : p2_ = p + e) : itl g e p k l = itl g e p2_ k2 l2 := by
  subst hk hl hp
  rfl
theorem itl_0 {g : Int → Int → Int} {e p l : Int} {k : Nat} (hk : k = 0) : itl g e p k l = l := by subst hk; rfl
def nLn (f : Int → Int) (p : Int) (k : Nat) (l : Int) : Int := itl (fun l p => nlI l (wdI f p)) 16 p k l
def nS4 (h w : Int) : Int := muI (rtI (adI h (muI w (-1028477379))) 17) 668265263
def nS4n (f : Int → Int) (p : Int) (k : Nat) (l : Int) : Int := itl (fun l p => nS4 l (wdI f p)) 4 p k l
def nS1 (h w : Int) : Int := muI (rtI (adI h (muI w 374761393)) 11) (-1640531535)
def nS1n (f : Int → Int) (p : Int) (k : Nat) (l : Int) : Int := itl (fun l p => nS1 l (u8 (f p))) 1 p k l
def nEnd (h : Int) : Int := (fun h2 => (fun h3 => xoI h3 (usI h3 16)) (muI (xoI h2 (usI h2 13)) (-1028477379))) (muI (xoI h (usI h 15)) (-2048144777))
def nTop (f : Int → Int) (a n s : Int) : Int := adI (adI (adI (rtI (nLn f a (n / 16).toNat (adI (adI s (-1640531535)) (-2048144777))) 1) (rtI (nLn f (a + 4) (n / 16).toNat (adI s (-2048144777))) 7)) (rtI (nLn f (a + 8) (n / 16).toNat s) 12)) (rtI (nLn f (a + 12) (n / 16).toNat (sbI s (-1640531535))) 18)

def NSM0 (f : Int → Int) (a n s : Int) : Int := nEnd (nS1n f (a + n - n % 4) (n % 4).toNat (nS4n f (a + n - n % 16) (n % 16 / 4).toNat (adI (if 16 ≤ n then nTop f a n s else adI s 374761393) n)))
theorem NSM_x : ∃ g : (Int → Int) → Int → Int → Int → Int, g = NSM0 := ⟨_, rfl⟩
noncomputable def NSM : (Int → Int) → Int → Int → Int → Int := Classical.choose NSM_x
theorem NSM_e : NSM = NSM0 := Classical.choose_spec NSM_x

def nU (x : Int) : Nat := (x % 4294967296).toNat
theorem nU_of (x : Int) : (Int32.ofInt x).toBitVec.toNat = nU x := by
  rw [Int32.toBitVec_ofInt, BitVec.toNat_ofInt]
  rfl
theorem nU_i (x : Int32) : nU x.toInt = x.toBitVec.toNat := by
  rw [← nU_of, toI_of]
theorem nU_inj {x y : Int32} (h : nU x.toInt = nU y.toInt) : x.toInt = y.toInt := by
  rw [nU_i, nU_i] at h
  have e : x = y := Int32.toBitVec_inj.mp (BitVec.eq_of_toNat_eq h)
  rw [e]
theorem nU_or (a b : Int) : nU (orI a b) = nU a ||| nU b := by
  unfold orI
  rw [nU_i]
  show ((Int32.ofInt a) ||| (Int32.ofInt b)).toBitVec.toNat = _
  rw [Int32.toBitVec_or, BitVec.toNat_or, nU_of, nU_of]
theorem nU_sl {a k m : Int} (hk : 0 ≤ k ∧ k ≤ 31) (hm : p2 k = m) : nU (slI a k) = nU (a * m) := by
  unfold slI
  rw [shl32 hk, hm, nU_i, nU_of]
theorem or_add {x q k : Nat} (h : x < 2 ^ k) : x ||| q * 2 ^ k = x + q * 2 ^ k := by
  rw [Nat.or_comm, ← Nat.shiftLeft_eq, ← Nat.shiftLeft_add_eq_or_of_lt h q, Nat.add_comm]
theorem wd_or {f : Int → Int} {p a b c e : Int} (h0 : f p = a) (h1 : f (p + 1) = b) (h2 : f (p + 2) = c) (h3 : f (p + 3) = e) : orI (orI (orI (a % 256) (slI (b % 256) 8)) (slI (c % 256) 16)) (slI e 24) = wdI f p := by
  subst h0 h1 h2 h3
  unfold wdI w32
  have ev : nvl f p 4 = f p % 256 + 256 * (f (p + 1) % 256 + 256 * (f (p + 1 + 1) % 256 + 256 * (f (p + 1 + 1 + 1) % 256 + 256 * 0))) := rfl
  rw [ev, show p + 1 + 1 + 1 = p + 3 by omega, show p + 1 + 1 = p + 2 by omega]
  refine nU_inj (x := (Int32.ofInt (orI (orI (f p % 256) (slI (f (p + 1) % 256) 8)) (slI (f (p + 2) % 256) 16))) ||| (Int32.ofInt (slI (f (p + 3)) 24))) ?_
  show nU (orI (orI (orI (f p % 256) (slI (f (p + 1) % 256) 8)) (slI (f (p + 2) % 256) 16)) (slI (f (p + 3)) 24)) = _
  rw [nU_or, nU_or, nU_or, nU_sl (m := 256) (by omega) (by decide), nU_sl (m := 65536) (by omega) (by decide), nU_sl (m := 16777216) (by omega) (by decide), nU_i, nU_of]
  have k0 : nU (f p % 256) = (f p % 256).toNat := by unfold nU; omega
  have k1 : nU (f (p + 1) % 256 * 256) = (f (p + 1) % 256).toNat * 2 ^ 8 := by unfold nU; omega
  have k2 : nU (f (p + 2) % 256 * 65536) = (f (p + 2) % 256).toNat * 2 ^ 16 := by unfold nU; omega
  have k3 : nU (f (p + 3) * 16777216) = (f (p + 3) % 256).toNat * 2 ^ 24 := by unfold nU; omega
  rw [k0, k1, k2, k3, or_add (k := 8) (by omega), or_add (k := 16) (by omega), or_add (k := 24) (by omega)]
  unfold nU
  omega

theorem nLn_s {f : Int → Int} {p l l2 p2_ : Int} {k k2 : Nat} (hk : k = k2 + 1) (hl : l2 = nlI l (wdI f p)) (hp : p2_ = p + 16) : nLn f p k l = nLn f p2_ k2 l2 := itl_s (g := fun l p => nlI l (wdI f p)) hk hl hp
theorem nS4n_s {f : Int → Int} {p h h2 p2_ : Int} {k k2 : Nat} (hk : k = k2 + 1) (hl : h2 = nS4 h (wdI f p)) (hp : p2_ = p + 4) : nS4n f p k h = nS4n f p2_ k2 h2 := itl_s (g := fun l p => nS4 l (wdI f p)) hk hl hp
theorem nS1n_s {f : Int → Int} {p h h2 p2_ : Int} {k k2 : Nat} (hk : k = k2 + 1) (hl : h2 = nS1 h (u8 (f p))) (hp : p2_ = p + 1) : nS1n f p k h = nS1n f p2_ k2 h2 := itl_s (g := fun l p => nS1 l (u8 (f p))) hk hl hp
theorem nLn_0 {f : Int → Int} {p l : Int} {k : Nat} (hk : k = 0) : nLn f p k l = l := itl_0 hk
theorem nS4n_0 {f : Int → Int} {p l : Int} {k : Nat} (hk : k = 0) : nS4n f p k l = l := itl_0 hk
theorem nS1n_0 {f : Int → Int} {p l : Int} {k : Nat} (hk : k = 0) : nS1n f p k l = l := itl_0 hk

def NS1 (f : Int → Int) (a n s p h : Int) : Prop := p = a + n - n % 16 ∧ h = (if 16 ≤ n then nTop f a n s else adI s 374761393)
theorem NS1_n {f : Int → Int} {a n s p h : Int} (hn : 0 ≤ n) (h1 : n < 16) (hp : p = a) (hh : h = adI s 374761393) : NS1 f a n s p h := ⟨by omega, by rw [if_neg (by omega)]; exact hh⟩
theorem NS1_y {f : Int → Int} {a n s p l1 l2 l3 l4 r1 r2 r3 r4 : Int} (h1 : 16 ≤ n) (hp : p = a + n - n % 16) (e1 : nLn f a (n / 16).toNat (adI (adI s (-1640531535)) (-2048144777)) = l1) (e2 : nLn f (a + 4) (n / 16).toNat (adI s (-2048144777)) = l2) (e3 : nLn f (a + 8) (n / 16).toNat s = l3) (e4 : nLn f (a + 12) (n / 16).toNat (sbI s (-1640531535)) = l4) (q1 : r1 = rtI l1 1) (q2 : r2 = rtI l2 7) (q3 : r3 = rtI l3 12) (q4 : r4 = rtI l4 18) : NS1 f a n s p (adI (adI (adI r1 r2) r3) r4) := ⟨hp, by rw [if_pos h1]; unfold nTop; rw [e1, e2, e3, e4, q1, q2, q3, q4]⟩
theorem NSM_of {f : Int → Int} {a n s p h h2 h3 b : Int} (k : NS1 f a n s p h) (e1 : nS4n f p (n % 16 / 4).toNat (adI h n) = h2) (hb : b = a + n - n % 4) (e2 : nS1n f b (n % 4).toNat h2 = h3) : nEnd h3 = NSM f a n s := by
  rw [NSM_e]; unfold NSM0
  rw [← k.1, ← hb, ← k.2, e1, e2]

def shf (f : Int → Int) (b : Int) : Int → Int := fun i => f (b + i)
theorem of32 {x y : Int} (h : x % 4294967296 = y % 4294967296) : Int32.ofInt x = Int32.ofInt y := by
  apply Int32.toBitVec_inj.mp
  apply BitVec.eq_of_toNat_eq
  rw [nU_of, nU_of]
  unfold nU
  rw [h]
theorem muI_c {x y c : Int} (h : x % 4294967296 = y % 4294967296) : muI x c = muI y c := by
  unfold muI
  rw [of32 h]
theorem w32_m (x : Int) : w32 x % 4294967296 = x % 4294967296 := by
  have := nU_i (Int32.ofInt x)
  rw [nU_of] at this
  unfold nU at this
  unfold w32
  omega
theorem adI_assoc (a b c d : Int) : adI (adI a b) (adI c d) = adI (adI (adI a b) c) d := by
  unfold adI
  simp only [toI_of]
  show (((Int32.ofInt a + Int32.ofInt b) + (Int32.ofInt c + Int32.ofInt d)) : Int32).toInt = ((((Int32.ofInt a + Int32.ofInt b) + Int32.ofInt c) + Int32.ofInt d) : Int32).toInt
  rw [Int32.add_assoc, Int32.add_assoc, Int32.add_assoc]

theorem nlI_l {l x r z p : Int} {f : Int → Int} (hx : x % 18446744073709551616 = nvl f p 4) (hr : r = rtI (adI l (muI x (-2048144777))) 13) (hz : z = muI r (-1640531535)) : z = nlI l (wdI f p) := by
  unfold nlI
  rw [hz, hr, muI_c (x := x) (y := wdI f p) (by unfold wdI; rw [w32_m]; omega)]
theorem nS4_l {l x r z p : Int} {f : Int → Int} (hx : x % 18446744073709551616 = nvl f p 4) (hr : r = rtI (adI l (muI x (-1028477379))) 17) (hz : z = muI r 668265263) : z = nS4 l (wdI f p) := by
  unfold nS4
  rw [hz, hr, muI_c (x := x) (y := wdI f p) (by unfold wdI; rw [w32_m]; omega)]

theorem nvl_rng {f : Int → Int} : ∀ {n : Nat} {a : Int}, 0 ≤ nvl f a n ∧ nvl f a n < p2 (8 * (n : Int))
  | 0, a => ⟨Int.le_refl 0, by show (0 : Int) < p2 0; decide⟩
  | n + 1, a => by
    have ih := nvl_rng (f := f) (n := n) (a := a + 1)
    have h := u8_rng (f a)
    have e : p2 (8 * ((n + 1 : Nat) : Int)) = 256 * p2 (8 * (n : Int)) := by
      rw [show 8 * ((n + 1 : Nat) : Int) = 8 + 8 * (n : Int) by omega, p2_add (by omega) (by omega), show p2 8 = 256 by decide]
    show 0 ≤ u8 (f a) + 256 * nvl f (a + 1) n ∧ u8 (f a) + 256 * nvl f (a + 1) n < _
    rw [e]
    omega
theorem nvl_top {f : Int → Int} : ∀ {n : Nat} {a : Int}, nvl f a (n + 1) = nvl f a n + u8 (f (a + n)) * p2 (8 * (n : Int))
  | 0, a => by
    show u8 (f a) + 256 * 0 = 0 + u8 (f (a + ((0 : Nat) : Int))) * p2 (8 * ((0 : Nat) : Int))
    rw [show a + ((0 : Nat) : Int) = a by omega, show p2 (8 * ((0 : Nat) : Int)) = 1 by decide]
    omega
  | n + 1, a => by
    have ih := nvl_top (f := f) (n := n) (a := a + 1)
    have e : p2 (8 * ((n + 1 : Nat) : Int)) = 256 * p2 (8 * (n : Int)) := by
      rw [show 8 * ((n + 1 : Nat) : Int) = 8 + 8 * (n : Int) by omega, p2_add (by omega) (by omega), show p2 8 = 256 by decide]
    show u8 (f a) + 256 * nvl f (a + 1) (n + 1) = u8 (f a) + 256 * nvl f (a + 1) n + u8 (f (a + ((n + 1 : Nat) : Int))) * p2 (8 * ((n + 1 : Nat) : Int))
    rw [ih, e, show a + ((n + 1 : Nat) : Int) = a + 1 + n by omega, Int.mul_add, ← Int.mul_assoc 256, Int.mul_comm 256 (u8 _), Int.mul_assoc, ← Int.add_assoc]
def NVQ (f : Int → Int) (a : Int) (n : Int) (r : Int) : Prop := r % 18446744073709551616 = nvl f a n.toNat
theorem orsh {x b k v : Int} (hk : 0 ≤ k ∧ k ≤ 7) (hx : x % 18446744073709551616 = v) (hv : 0 ≤ v ∧ v < p2 (8 * k)) (hb : 0 ≤ b ∧ b ≤ 255) : orJ x (shlJ b (8 * k)) % 18446744073709551616 = v + b * p2 (8 * k) := by
  have e : ((2 ^ 64 : Nat) : Int) = 18446744073709551616 := rfl
  have hp : p2 (8 * k) ≤ p2 56 := p2_mono (by omega)
  rw [show p2 56 = 72057594037927936 by decide] at hp
  have hpos := p2_pos (8 * k)
  have hb2 : 0 ≤ b * p2 (8 * k) ∧ b * p2 (8 * k) ≤ 255 * p2 (8 * k) := ⟨Int.mul_nonneg hb.1 (by omega), Int.mul_le_mul_of_nonneg_right hb.2 (by omega)⟩
  have e1 : Int64.ofInt (shlJ b (8 * k)) = Int64.ofInt (b * p2 (8 * k)) := by
    unfold shlJ
    rw [toJ_of, shl64 (by omega)]
  have ep : ((2 ^ (8 * k).toNat : Nat) : Int) = p2 (8 * k) := rfl
  have hN : (rlop 4 (Int64.ofInt x) (Int64.ofInt (b * p2 (8 * k)))).toBitVec.toNat = v.toNat + b.toNat * 2 ^ (8 * k).toNat := by
    show ((Int64.ofInt x) ||| (Int64.ofInt (b * p2 (8 * k)))).toBitVec.toNat = _
    rw [Int64.toBitVec_or, BitVec.toNat_or, Int64.toBitVec_ofInt, Int64.toBitVec_ofInt, BitVec.toNat_ofInt, BitVec.toNat_ofInt, e, hx, Int.emod_eq_of_lt hb2.1 (by omega)]
    have e2 : (b * p2 (8 * k)).toNat = b.toNat * 2 ^ (8 * k).toNat := by
      apply Int.ofNat_inj.mp
      rw [Int.toNat_of_nonneg hb2.1, Int.natCast_mul, Int.toNat_of_nonneg hb.1]
      rfl
    rw [e2]
    exact or_add (by omega)
  have eN : ((v.toNat + b.toNat * 2 ^ (8 * k).toNat : Nat) : Int) = v + b * p2 (8 * k) := by
    rw [Int.natCast_add, Int.natCast_mul, Int.toNat_of_nonneg hv.1, Int.toNat_of_nonneg hb.1, ep]
  unfold orJ
  rw [e1]
  show (rlop 4 (Int64.ofInt x) (Int64.ofInt (b * p2 (8 * k)))).toBitVec.toInt % 18446744073709551616 = _
  rw [BitVec.toInt_eq_toNat_bmod, hN, eN]
  have h : (v + b * p2 (8 * k)).bmod (2 ^ 64) % ((2 ^ 64 : Nat) : Int) = (v + b * p2 (8 * k)) % ((2 ^ 64 : Nat) : Int) := Int.bmod_emod
  rw [e] at h
  rw [h]
  exact Int.emod_eq_of_lt (by omega) (by omega)
theorem NVQ_0 {f : Int → Int} {a : Int} : NVQ f a 0 0 := rfl
theorem NVQ_s {f : Int → Int} {a n r b n2 r2 : Int} (h : NVQ f a n r) (hn : 0 ≤ n ∧ n ≤ 7) (hb : b = f (a + n)) (hr : 0 ≤ b ∧ b ≤ 255) (e : n2 = n + 1) (er : r2 = orJ r (shlJ b (8 * n))) : NVQ f a n2 r2 := by
  have k := nvl_rng (f := f) (n := n.toNat) (a := a)
  have en : ((n.toNat : Nat) : Int) = n := Int.toNat_of_nonneg hn.1
  rw [en] at k
  subst e er
  unfold NVQ at h ⊢
  rw [show (n + 1).toNat = n.toNat + 1 by omega, nvl_top, en, orsh hn h k hr, hb, u8_id (z := f (a + n)) (by rw [← hb]; exact hr)]
theorem nLn_p {f : Int → Int} {p q l z : Int} {k : Nat} (h : nLn f q k l = z) (e : p = q) : nLn f p k l = z := e ▸ h


end
section
/-! 17l -/
theorem adI_m (a b : Int) : adI a b % 4294967296 = (a + b) % 4294967296 := by
  have e : adI a b = w32 (a + b) := by
    unfold adI w32
    show (Int32.ofInt a + Int32.ofInt b).toInt = _
    rw [← Int32.ofInt_add]
  rw [e, w32_m]
theorem muI_m (a b : Int) : muI a b % 4294967296 = (a * b) % 4294967296 := by
  have e : muI a b = w32 (a * b) := by
    unfold muI w32
    show (Int32.ofInt a * Int32.ofInt b).toInt = _
    rw [← Int32.ofInt_mul]
  rw [e, w32_m]
theorem sbI_m (a b : Int) : sbI a b % 4294967296 = (a - b) % 4294967296 := by
  have e : sbI a b = w32 (a - b) := by
    unfold sbI w32
    show (Int32.ofInt a - Int32.ofInt b).toInt = _
    rw [← Int32.ofInt_sub]
  rw [e, w32_m]
theorem nU_us {x k : Int} (hk : 1 ≤ k ∧ k ≤ 31) : nU (usI x k) = nU x / 2 ^ k.toNat := by
  unfold usI
  rw [nU_i, ← nU_of]
  have e : ((Int32.ofInt k).toUInt32 &&& Int32.toUInt32 31).toNat = k.toNat := by
    have q : ∀ n : Nat, n < 32 → ((Int32.ofInt (n : Int)).toUInt32 &&& Int32.toUInt32 31).toNat = n := by decide +kernel
    have := q k.toNat (by omega)
    rw [Int.toNat_of_nonneg (by omega)] at this
    exact this
  show ((Int32.ofInt x).toUInt32 >>> ((Int32.ofInt k).toUInt32 &&& Int32.toUInt32 31)).toNat = _
  rw [UInt32.toNat_shiftRight, e, Nat.shiftRight_eq_div_pow, Nat.mod_eq_of_lt (by omega)]
  rfl
theorem nU_lt (x : Int) : nU x < 2 ^ 32 := by
  unfold nU
  omega
theorem nU_m (x : Int) : ((nU x : Nat) : Int) = x % 4294967296 := by
  unfold nU
  omega
theorem rot_n {n k j : Nat} (h : k + j = 32) : (n * 2 ^ k) % 2 ^ 32 = n % 2 ^ j * 2 ^ k := by
  rw [← h, Nat.add_comm k j, Nat.pow_add, Nat.mul_mod_mul_right]
theorem rot_d {n k j : Nat} (h : k + j = 32) (hn : n < 2 ^ 32) : n / 2 ^ j < 2 ^ k := by
  refine Nat.div_lt_of_lt_mul ?_
  rw [← Nat.pow_add, Nat.add_comm j k, h]
  exact hn
theorem nU_rt {x k : Int} (hk : 1 ≤ k ∧ k ≤ 31) : nU (rtI x k) = nU x / 2 ^ (32 - k).toNat + nU x % 2 ^ (32 - k).toNat * 2 ^ k.toNat := by
  unfold rtI
  rw [nU_or, nU_sl (m := p2 k) (by omega) rfl, nU_us (by omega)]
  have e1 : nU (x * p2 k) = (nU x * 2 ^ k.toNat) % 2 ^ 32 := by
    apply Int.ofNat_inj.mp
    rw [nU_m, Int.natCast_emod, Int.natCast_mul, nU_m]
    show x * p2 k % 4294967296 = (x % 4294967296 * p2 k) % 4294967296
    rw [Int.mul_emod (x % 4294967296), Int.emod_emod, ← Int.mul_emod]
  rw [e1, rot_n (j := (32 - k).toNat) (by omega), Nat.or_comm, or_add (rot_d (by omega) (nU_lt x))]
theorem orJ_nn {a b : Int} (ha : 0 ≤ a ∧ inrJ a) (hb : 0 ≤ b ∧ inrJ b) : orJ a b = ((a.toNat ||| b.toNat : Nat) : Int) := by
  have e : ((Int64.ofInt a).toBitVec ||| (Int64.ofInt b).toBitVec).toNat = a.toNat ||| b.toNat := by
    rw [BitVec.toNat_or, nn64 (by omega), nn64 (by omega)]
  have hl : a.toNat ||| b.toNat < 2 ^ 63 := Nat.or_lt_two_pow (by omega) (by omega)
  unfold orJ
  show ((Int64.ofInt a).toBitVec ||| (Int64.ofInt b).toBitVec).toInt = _
  rw [BitVec.toInt_eq_toNat_of_lt (by rw [e]; omega), e]
theorem anM (v : Int) : anJ v 4294967295 = v % 4294967296 := by
  have e : (Int64.ofInt v &&& Int64.ofInt 4294967295).toBitVec.toNat = (Int64.ofInt v).toBitVec.toNat % 4294967296 := by
    show ((Int64.ofInt v).toBitVec &&& (Int64.ofInt 4294967295).toBitVec).toNat = _
    rw [BitVec.toNat_and, show (Int64.ofInt 4294967295).toBitVec.toNat = 2 ^ 32 - 1 from by decide, Nat.and_two_pow_sub_one_eq_mod]
  have e2 : (((Int64.ofInt v).toBitVec.toNat : Nat) : Int) % 4294967296 = v % 4294967296 := by
    show (((BitVec.ofInt 64 v).toNat : Nat) : Int) % 4294967296 = _
    rw [BitVec.toNat_ofInt, Int.toNat_of_nonneg (Int.emod_nonneg _ (by decide))]
    have : ((2 ^ 64 : Nat) : Int) = 4294967296 * 4294967296 := by decide
    rw [this]
    omega
  unfold anJ
  show (Int64.ofInt v &&& Int64.ofInt 4294967295).toBitVec.toInt = _
  rw [BitVec.toInt_eq_toNat_of_lt (by rw [e]; omega), e, ← e2]
  omega
theorem tur {v k : Int} (hv : 0 ≤ v ∧ v < 4294967296) (hk : 1 ≤ k ∧ k ≤ 31) : orJ (shlJ v k) (srJ v (32 - k)) % 4294967296 = ((v.toNat / 2 ^ (32 - k).toNat + v.toNat % 2 ^ (32 - k).toNat * 2 ^ k.toNat : Nat) : Int) := by
  have hp : p2 k ≤ p2 31 := p2_mono (by omega)
  rw [show p2 31 = 2147483648 by decide] at hp
  have hq := p2_pos k
  have ha : 0 ≤ v * p2 k ∧ v * p2 k ≤ 4294967295 * p2 k := ⟨Int.mul_nonneg hv.1 (by omega), Int.mul_le_mul_of_nonneg_right (by omega) (by omega)⟩
  have e1 : shlJ v k = v * p2 k := by
    unfold shlJ
    rw [shl64 (by omega), toJ_ofJ (by omega)]
  have e2 : srJ v (32 - k) = v / p2 (32 - k) := shr64 (by omega) (by omega)
  have hb : 0 ≤ v / p2 (32 - k) ∧ v / p2 (32 - k) ≤ v := ⟨Int.ediv_nonneg hv.1 (by have := p2_pos (32 - k); omega), Int.ediv_le_self _ hv.1⟩
  have k1 : (v * p2 k).toNat = v.toNat * 2 ^ k.toNat := by
    apply Int.ofNat_inj.mp
    rw [Int.toNat_of_nonneg ha.1, Int.natCast_mul, Int.toNat_of_nonneg hv.1]
    rfl
  have k2 : (v / p2 (32 - k)).toNat = v.toNat / 2 ^ (32 - k).toNat := by
    apply Int.ofNat_inj.mp
    rw [Int.toNat_of_nonneg hb.1, Int.natCast_ediv, Int.toNat_of_nonneg hv.1]
    rfl
  have hd : v.toNat / 2 ^ (32 - k).toNat < 2 ^ k.toNat := rot_d (by omega) (by omega)
  rw [e1, e2, orJ_nn ⟨ha.1, by omega⟩ ⟨hb.1, by omega⟩, k1, k2, Nat.or_comm, or_add hd]
  show (((v.toNat / 2 ^ (32 - k).toNat + v.toNat * 2 ^ k.toNat : Nat)) : Int) % ((2 ^ 32 : Nat) : Int) = _
  rw [← Int.natCast_emod]
  congr 1
  have k3 : v.toNat * 2 ^ k.toNat % 2 ^ 32 = v.toNat % 2 ^ (32 - k).toNat * 2 ^ k.toNat := rot_n (by omega)
  rw [Nat.add_mod, k3, Nat.mod_eq_of_lt (a := v.toNat / 2 ^ (32 - k).toNat) (Nat.lt_of_lt_of_le hd (Nat.pow_le_pow_right (by omega) (by omega)))]
  refine Nat.mod_eq_of_lt ?_
  have k4 : v.toNat % 2 ^ (32 - k).toNat + 1 ≤ 2 ^ (32 - k).toNat := Nat.mod_lt _ (Nat.pow_pos (by omega))
  have k5 := Nat.mul_le_mul_right (2 ^ k.toNat) k4
  rw [← Nat.pow_add, show (32 - k).toNat + k.toNat = 32 by omega, Nat.add_mul, Nat.one_mul] at k5
  omega

theorem tur_i {v x k : Int} (hx : v = x % 4294967296) (hk : 1 ≤ k ∧ k ≤ 31) : orJ (shlJ v k) (srJ v (32 - k)) % 4294967296 = rtI x k % 4294967296 := by
  rw [tur (by omega) hk, ← nU_m (rtI x k), nU_rt hk, show v.toNat = nU x by unfold nU; rw [hx]]
theorem w64_m (x : Int) : (Int64.ofInt x).toInt % 4294967296 = x % 4294967296 := by
  rw [Int64.toInt_ofInt]
  have h : x.bmod Int64.size % ((Int64.size : Nat) : Int) = x % ((Int64.size : Nat) : Int) := Int.bmod_emod
  have e : ((Int64.size : Nat) : Int) = 18446744073709551616 := rfl
  rw [e] at h
  omega
theorem muJ_m (a b : Int) : muJ a b % 4294967296 = (a * b) % 4294967296 := by
  have e : muJ a b = (Int64.ofInt (a * b)).toInt := by
    unfold muJ
    show (Int64.ofInt a * Int64.ofInt b).toInt = _
    rw [← Int64.ofInt_mul]
  rw [e, w64_m]
theorem tim_i {v w x y : Int} (hx : v = x % 4294967296) (hy : w = y % 4294967296) : muJ v w % 4294967296 = muI x y % 4294967296 := by
  rw [muJ_m, muI_m, hx, hy, ← Int.mul_emod]
theorem inrJ_of {x v : Int} (hx : inrJ x) (h : x % 18446744073709551616 = v) (hv : 0 ≤ v ∧ v < 9223372036854775808) : x = v := by omega
theorem wd_l {f : Int → Int} {p a b c e : Int} (h0 : f p = a) (h1 : f (p + 1) = b) (h2 : f (p + 2) = c) (h3 : f (p + 3) = e) (r0 : 0 ≤ a ∧ a ≤ 255) (r1 : 0 ≤ b ∧ b ≤ 255) (r2 : 0 ≤ c ∧ c ≤ 255) (r3 : 0 ≤ e ∧ e ≤ 255) : orJ (orJ (orJ a (shlJ b 8)) (shlJ c 16)) (shlJ e 24) = nvl f p 4 := by
  have ev : nvl f p 4 = a + b * 256 + c * 65536 + e * 16777216 := by
    have e1 : nvl f p 4 = u8 (f p) + 256 * (u8 (f (p + 1)) + 256 * (u8 (f (p + 1 + 1)) + 256 * (u8 (f (p + 1 + 1 + 1)) + 256 * 0))) := rfl
    rw [e1, show p + 1 + 1 + 1 = p + 3 by omega, show p + 1 + 1 = p + 2 by omega, h0, h1, h2, h3, u8_id r0, u8_id r1, u8_id r2, u8_id r3]
    omega
  have q1 := orsh (x := a) (b := b) (k := 1) (v := a) (by omega) (by omega) (by rw [show p2 (8 * 1) = 256 by decide]; omega) r1
  rw [show p2 (8 * 1) = 256 by decide, show (8 : Int) * 1 = 8 by decide] at q1
  have q2 := orsh (x := orJ a (shlJ b 8)) (b := c) (k := 2) (v := a + b * 256) (by omega) q1 (by rw [show p2 (8 * 2) = 65536 by decide]; omega) r2
  rw [show p2 (8 * 2) = 65536 by decide, show (8 : Int) * 2 = 16 by decide] at q2
  have q3 := orsh (x := orJ (orJ a (shlJ b 8)) (shlJ c 16)) (b := e) (k := 3) (v := a + b * 256 + c * 65536) (by omega) q2 (by rw [show p2 (8 * 3) = 16777216 by decide]; omega) r3
  rw [show p2 (8 * 3) = 16777216 by decide, show (8 : Int) * 3 = 24 by decide] at q3
  rw [ev]
  exact inrJ_of (toJ_inr _) q3 (by omega)


end
section
/-! 17m -/
def LQm (f : Int → Int) (a n p i L v : Int) : Prop := ∃ x, v = x % 4294967296 ∧ nLn f (a + 4 * i) (n / 16).toNat L = nLn f (p + 4 * i) ((a + n - p) / 16).toNat x
def ln0 (i : Int) : Int := if i = 0 then adI (adI 0 (-1640531535)) (-2048144777) else if i = 1 then adI 0 (-2048144777) else if i = 2 then 0 else sbI 0 (-1640531535)

def LQA (f : Int → Int) (a n e k : Int) (g : Int → Int) : Prop := ∀ i, 0 ≤ i → i < 4 → LQm f a n (if i < k then e + 16 else e) i (ln0 i) (g i)
theorem LQA_i {f g g0 : Int → Int} {a n : Int} (h : g = upd1 (upd1 (upd1 (upd1 g0 0 (anJ (2654435761 + 2246822519) 4294967295)) 1 2246822519) 2 0) 3 (anJ (0 - 2654435761) 4294967295)) : LQA f a n a 0 g := fun i x y => by
  have hv : g i = ln0 i % 4294967296 := by
    rw [h]
    rcases (show i = 0 ∨ i = 1 ∨ i = 2 ∨ i = 3 by omega) with q | q | q | q
    · rw [q, upd1_o (by omega), upd1_o (by omega), upd1_o (by omega), upd1_s]; decide +kernel
    · rw [q, upd1_o (by omega), upd1_o (by omega), upd1_s]; decide +kernel
    · rw [q, upd1_o (by omega), upd1_s]; decide +kernel
    · rw [q, upd1_s]; decide +kernel
  refine ⟨ln0 i, hv, ?_⟩
  rw [if_neg (by omega), show a + n - a = n by omega]
theorem LQA_s {f g : Int → Int} {a n e k v k2 q : Int} (h : LQA f a n e k g) (hk : 0 ≤ k ∧ k < 4) (he : e + 16 ≤ a + n) (ek : k2 = k + 1) (hq : q = e + 4 * k) (hv : ∀ x, g k = x % 4294967296 → v = nlI x (wdI f q) % 4294967296) : LQA f a n e k2 (upd1 g k v) := fun i x y => by
  subst hq ek
  by_cases c : i = k
  · subst c
    obtain ⟨z, h1, h2⟩ := h i x y
    rw [if_neg (by omega)] at h2
    refine ⟨nlI z (wdI f (e + 4 * i)), by rw [upd1_s]; exact hv z h1, ?_⟩
    rw [if_pos (by omega), h2]
    exact nLn_s (by omega) rfl (by omega)
  · rw [upd1_o c]
    have w := h i x y
    by_cases c2 : i < k
    · rw [if_pos c2] at w
      rw [if_pos (by omega)]
      exact w
    · rw [if_neg c2] at w
      rw [if_neg (by omega)]
      exact w
theorem LQA_e {f g : Int → Int} {a n e k e2 : Int} (h : LQA f a n e k g) (hk : 4 ≤ k) (e2_ : e2 = e + 16) : LQA f a n e2 0 g := fun i x y => by
  have w := h i x y
  rw [if_pos (by omega)] at w
  rw [if_neg (by omega), e2_]
  exact w
theorem LQA_v {f g : Int → Int} {a n e i : Int} (h : LQA f a n e 0 g) (he : a + n - e < 16) (hi : 0 ≤ i ∧ i < 4) : g i = nLn f (a + 4 * i) (n / 16).toNat (ln0 i) % 4294967296 := by
  obtain ⟨x, h1, h2⟩ := h i hi.1 hi.2
  rw [if_neg (by omega), nLn_0 (k := ((a + n - e) / 16).toNat) (by omega)] at h2
  rw [h1, h2]
theorem wdI_m {f : Int → Int} {p : Int} : nvl f p 4 = wdI f p % 4294967296 := by
  have := nvl_rng (f := f) (n := 4) (a := p)
  rw [show p2 (8 * ((4 : Nat) : Int)) = 4294967296 by decide] at this
  unfold wdI
  rw [w32_m]
  omega

theorem stp_i {l z1 z3 z4 m x c2 k y2 : Int} (hl : l = x % 4294967296) (h1 : z1 = m % 4294967296) (h3 : ∀ x : Int, anJ (l + z1) 4294967295 = x % 4294967296 → z3 = rtI x k % 4294967296) (h4 : ∀ x y : Int, z3 = x % 4294967296 → c2 = y % 4294967296 → z4 = muI x y % 4294967296) (e2 : c2 = y2 % 4294967296) : z4 = muI (rtI (adI x m) k) y2 % 4294967296 := h4 _ _ (h3 (adI x m) (by rw [anM, hl, h1, adI_m]; omega)) e2
theorem sum4 {z0 z1 z2 z3 r0 r1 r2 r3 : Int} (w0 : z0 = r0 % 4294967296) (w1 : z1 = r1 % 4294967296) (w2 : z2 = r2 % 4294967296) (w3 : z3 = r3 % 4294967296) : anJ (z0 + z1 + z2 + z3) 4294967295 = adI (adI (adI r0 r1) r2) r3 % 4294967296 := by
  have s1 := adI_m r0 r1
  have s2 := adI_m (adI r0 r1) r2
  rw [anM, adI_m]
  omega
def NSm (f : Int → Int) (a n s p v : Int) : Prop := ∃ h, NS1 f a n s p h ∧ v = h % 4294967296
theorem NSm_n {f : Int → Int} {a n p v : Int} (hn : 0 ≤ n) (h1 : n < 16) (hp : p = a) (hv : v = 374761393) : NSm f a n 0 p v := ⟨adI 0 374761393, NS1_n hn h1 hp rfl, by rw [hv]; decide +kernel⟩
theorem NSm_y {f g : Int → Int} {a n p v0 v1 v2 v3 z0 z1 z2 z3 : Int} (h1 : 16 ≤ n) (hp : p = a + n - n % 16) (hL : LQA f a n p 0 g) (e0 : g 0 = v0) (e1 : g 1 = v1) (e2 : g 2 = v2) (e3 : g 3 = v3) (q0 : ∀ x : Int, v0 = x % 4294967296 → z0 = rtI x 1 % 4294967296) (q1 : ∀ x : Int, v1 = x % 4294967296 → z1 = rtI x 7 % 4294967296) (q2 : ∀ x : Int, v2 = x % 4294967296 → z2 = rtI x 12 % 4294967296) (q3 : ∀ x : Int, v3 = x % 4294967296 → z3 = rtI x 18 % 4294967296) : NSm f a n 0 p (anJ (z0 + z1 + z2 + z3) 4294967295) := by
  have w0 := q0 _ (e0.symm.trans (LQA_v hL (by omega) (i := 0) (by omega)))
  have w1 := q1 _ (e1.symm.trans (LQA_v hL (by omega) (i := 1) (by omega)))
  have w2 := q2 _ (e2.symm.trans (LQA_v hL (by omega) (i := 2) (by omega)))
  have w3 := q3 _ (e3.symm.trans (LQA_v hL (by omega) (i := 3) (by omega)))
  refine ⟨_, NS1_y h1 hp (nLn_p rfl (show a = a + 4 * 0 by omega)) (nLn_p rfl (show a + 4 = a + 4 * 1 by omega)) (nLn_p rfl (show a + 8 = a + 4 * 2 by omega)) (nLn_p rfl (show a + 12 = a + 4 * 3 by omega)) rfl rfl rfl rfl, ?_⟩
  rw [show ln0 0 = adI (adI 0 (-1640531535)) (-2048144777) from rfl] at w0
  rw [show ln0 1 = adI 0 (-2048144777) from rfl] at w1
  rw [show ln0 2 = 0 from rfl] at w2
  rw [show ln0 3 = sbI 0 (-1640531535) from rfl] at w3
  exact sum4 w0 w1 w2 w3
theorem nU_xo (a b : Int) : nU (xoI a b) = nU a ^^^ nU b := by
  unfold xoI
  rw [nU_i]
  show ((Int32.ofInt a) ^^^ (Int32.ofInt b)).toBitVec.toNat = _
  rw [Int32.toBitVec_xor, BitVec.toNat_xor, nU_of, nU_of]
theorem xo_i {v x k : Int} (hx : v = x % 4294967296) (hk : 1 ≤ k ∧ k ≤ 31) : xoJ v (srJ v k) = xoI x (usI x k) % 4294967296 := by
  have e2 : srJ v k = v / p2 k := shr64 (by omega) (by omega)
  have hb : 0 ≤ v / p2 k ∧ v / p2 k ≤ v := ⟨Int.ediv_nonneg (by omega) (by have := p2_pos k; omega), Int.ediv_le_self _ (by omega)⟩
  have k2 : (v / p2 k).toNat = nU x / 2 ^ k.toNat := by
    apply Int.ofNat_inj.mp
    rw [Int.toNat_of_nonneg hb.1, Int.natCast_ediv, nU_m, ← hx]
    rfl
  have k1 : v.toNat = nU x := by unfold nU; rw [hx]
  have e : ((Int64.ofInt v).toBitVec ^^^ (Int64.ofInt (v / p2 k)).toBitVec).toNat = nU x ^^^ (nU x / 2 ^ k.toNat) := by
    rw [BitVec.toNat_xor, nn64 (by omega), nn64 (by omega), k1, k2]
  have hl : nU x ^^^ (nU x / 2 ^ k.toNat) < 2 ^ 32 := Nat.xor_lt_two_pow (nU_lt x) (Nat.lt_of_le_of_lt (Nat.div_le_self _ _) (nU_lt x))
  rw [e2]
  unfold xoJ
  show ((Int64.ofInt v).toBitVec ^^^ (Int64.ofInt (v / p2 k)).toBitVec).toInt = _
  rw [BitVec.toInt_eq_toNat_of_lt (by rw [e]; omega), e, ← nU_m, nU_xo, nU_us hk]
theorem rng_m {x y : Int} (h : x = y % 4294967296) : 0 ≤ x ∧ x < 4294967296 := by omega


end
section
/-! 17n -/
theorem itl_congr {g1 g2 : Int → Int → Int} {e : Int} : ∀ {k : Nat} {p q l : Int}, (∀ j : Int, 0 ≤ j → j < k → ∀ l, g1 l (p + e * j) = g2 l (q + e * j)) → itl g1 e p k l = itl g2 e q k l
  | 0, p, q, l, h => rfl
  | k + 1, p, q, l, h => by
    show itl g1 e (p + e) k (g1 l p) = itl g2 e (q + e) k (g2 l q)
    have h0 := h 0 (by omega) (by omega) l
    rw [Int.mul_zero, Int.add_zero, Int.add_zero] at h0
    rw [h0]
    refine itl_congr (fun j a b l => ?_)
    have w := h (j + 1) (by omega) (by omega) l
    rw [Int.mul_add, Int.mul_one, show p + (e * j + e) = p + e + e * j by omega, show q + (e * j + e) = q + e + e * j by omega] at w
    exact w
theorem nvl_congr {f g : Int → Int} : ∀ {n : Nat} {a b : Int}, (∀ i : Int, 0 ≤ i → i < n → u8 (f (a + i)) = u8 (g (b + i))) → nvl f a n = nvl g b n
  | 0, a, b, h => rfl
  | n + 1, a, b, h => by
    show u8 (f a) + 256 * nvl f (a + 1) n = u8 (g b) + 256 * nvl g (b + 1) n
    have h0 := h 0 (by omega) (by omega)
    rw [Int.add_zero, Int.add_zero] at h0
    rw [h0, nvl_congr (a := a + 1) (b := b + 1) (fun i x y => by
      have := h (i + 1) (by omega) (by omega)
      rw [show a + 1 + i = a + (i + 1) by omega, show b + 1 + i = b + (i + 1) by omega]
      exact this)]
theorem wdI_congr {f g : Int → Int} {a b : Int} (h : ∀ i : Int, 0 ≤ i → i < 4 → u8 (f (a + i)) = u8 (g (b + i))) : wdI f a = wdI g b := by
  unfold wdI
  rw [nvl_congr (f := f) (g := g) (a := a) (b := b) h]

def AGR (f g : Int → Int) (a b n : Int) : Prop := ∀ i : Int, 0 ≤ i → i < n → u8 (f (a + i)) = u8 (g (b + i))
theorem nLn_congr {f g : Int → Int} {a b n d l : Int} {k : Nat} (h : AGR f g a b n) (hk : 16 * (k : Int) ≤ n) (hd : 0 ≤ d ∧ d ≤ 12) : nLn f (a + d) k l = nLn g (b + d) k l := by
  unfold nLn
  refine itl_congr (fun j x y l => ?_)
  show nlI l (wdI f (a + d + 16 * j)) = nlI l (wdI g (b + d + 16 * j))
  rw [wdI_congr (f := f) (g := g) (a := a + d + 16 * j) (b := b + d + 16 * j) (fun i u v => by
    have := h (d + 16 * j + i) (by omega) (by omega)
    rw [show a + d + 16 * j + i = a + (d + 16 * j + i) by omega, show b + d + 16 * j + i = b + (d + 16 * j + i) by omega]
    exact this)]
theorem nS4n_congr {f g : Int → Int} {a b n d l : Int} {k : Nat} (h : AGR f g a b n) (hd : 0 ≤ d) (hk : d + 4 * (k : Int) ≤ n) : nS4n f (a + d) k l = nS4n g (b + d) k l := by
  unfold nS4n
  refine itl_congr (fun j x y l => ?_)
  show nS4 l (wdI f (a + d + 4 * j)) = nS4 l (wdI g (b + d + 4 * j))
  rw [wdI_congr (f := f) (g := g) (a := a + d + 4 * j) (b := b + d + 4 * j) (fun i u v => by
    have := h (d + 4 * j + i) (by omega) (by omega)
    rw [show a + d + 4 * j + i = a + (d + 4 * j + i) by omega, show b + d + 4 * j + i = b + (d + 4 * j + i) by omega]
    exact this)]
theorem nS1n_congr {f g : Int → Int} {a b n d l : Int} {k : Nat} (h : AGR f g a b n) (hd : 0 ≤ d) (hk : d + (k : Int) ≤ n) : nS1n f (a + d) k l = nS1n g (b + d) k l := by
  unfold nS1n
  refine itl_congr (fun j x y l => ?_)
  show nS1 l (u8 (f (a + d + 1 * j))) = nS1 l (u8 (g (b + d + 1 * j)))
  have := h (d + j) (by omega) (by omega)
  rw [show a + d + 1 * j = a + (d + j) by omega, show b + d + 1 * j = b + (d + j) by omega, this]
theorem NSM_congr {f g : Int → Int} {a b n s : Int} (hn : 0 ≤ n) (h : AGR f g a b n) : NSM f a n s = NSM g b n s := by
  have hT : (if 16 ≤ n then nTop f a n s else adI s 374761393) = (if 16 ≤ n then nTop g b n s else adI s 374761393) := by
    by_cases c : 16 ≤ n
    · rw [if_pos c, if_pos c]
      unfold nTop
      have e0 := fun l => nLn_congr (d := 0) (l := l) (k := (n / 16).toNat) h (by omega) (by omega)
      simp only [Int.add_zero] at e0
      rw [e0, nLn_congr (d := 4) h (by omega) (by omega), nLn_congr (d := 8) h (by omega) (by omega), nLn_congr (d := 12) h (by omega) (by omega)]
    · rw [if_neg c, if_neg c]
  rw [NSM_e]; unfold NSM0
  rw [hT, show a + n - n % 16 = a + (n - n % 16) by omega, show b + n - n % 16 = b + (n - n % 16) by omega, show a + n - n % 4 = a + (n - n % 4) by omega, show b + n - n % 4 = b + (n - n % 4) by omega,
    nS4n_congr (d := n - n % 16) h (by omega) (by omega), nS1n_congr (d := n - n % 4) h (by omega) (by omega)]

noncomputable def NSL0 (L : List Int) (s : Int) : Int := NSM (ap L) 0 (L.length : Int) s
theorem NSL_x : ∃ g : List Int → Int → Int, g = NSL0 := ⟨_, rfl⟩
noncomputable def NSL : List Int → Int → Int := Classical.choose NSL_x
theorem NSL_e : NSL = NSL0 := Classical.choose_spec NSL_x
theorem NSM_L {f : Int → Int} {a n s b : Int} (hn : 0 ≤ n) (hb : b = a + n) : NSM f a n s = NSL (sc f a b) s := by
  subst hb
  rw [NSL_e]; unfold NSL0
  rw [sc_lenI (by omega), show a + n - a = n by omega]
  refine NSM_congr hn (fun i x y => ?_)
  unfold ap
  have := sc_get (f := f) (a := a) (b := a + n) (k := i) x (by omega)
  rw [Int.zero_add, List.getD_eq_getElem?_getD, this]
  exact (u8_id (u8_rng _)).symm


end
section
/-! 17o -/
theorem nbF4 {v : Int} : nb v 4 = [u8 v, u8 (v / 256), u8 (v / 65536), u8 (v / 16777216)] := by
  rw [nb_s (m := 4) (n := 3) (by omega) rfl, nb_s (m := 3) (n := 2) (by omega) rfl, nb_s (m := 2) (n := 1) (by omega) rfl, nb_s (m := 1) (n := 0) (by omega) rfl, nb_0, show p2 (8 * 0) = 1 by decide, show p2 (8 * 1) = 256 by decide, show p2 (8 * 2) = 65536 by decide, show p2 (8 * 3) = 16777216 by decide, Int.ediv_one]
  rfl
theorem nb4_m {v w : Int} (h : v % 4294967296 = w % 4294967296) : nb v 4 = nb w 4 := by
  rw [nbF4, nbF4]
  have e0 : u8 v = u8 w := by unfold u8; omega
  have e1 : u8 (v / 256) = u8 (w / 256) := by unfold u8; omega
  have e2 : u8 (v / 65536) = u8 (w / 65536) := by unfold u8; omega
  have e3 : u8 (v / 16777216) = u8 (w / 16777216) := by unfold u8; omega
  rw [e0, e1, e2, e3]
def opt (c : Int) (L : List Int) : List Int := if c = 0 then [] else L
theorem opt_0 {c : Int} {L : List Int} (h : c = 0) : opt c L = [] := if_pos h
theorem opt_1 {c : Int} {L : List Int} (h : c ≠ 0) : opt c L = L := if_neg h
theorem opt_len {c : Int} {L : List Int} : (opt c L).length ≤ L.length := by
  unfold opt
  split
  · exact Nat.zero_le _
  · exact Nat.le_refl _

def TFh (fl k key n : Int) : List Int := (([u8 fl] ++ [u8 (16 * k)]) ++ opt (andI fl 8) (nb n 8)) ++ opt (andI fl 1) (nb key 4)
noncomputable def TFH (fl k key n : Int) : List Int := nb 407708164 4 ++ (TFh fl k key n ++ [u8 (NSL (TFh fl k key n) 0 % 4294967296 / 256)])
theorem TFh_len {fl k key n : Int} : 2 ≤ (TFh fl k key n).length ∧ (TFh fl k key n).length ≤ 14 := by
  have h1 := opt_len (c := andI fl 8) (L := nb n 8)
  have h2 := opt_len (c := andI fl 1) (L := nb key 4)
  rw [nb_len, show (8 : Int).toNat = 8 from rfl] at h1
  rw [nb_len, show (4 : Int).toNat = 4 from rfl] at h2
  unfold TFh
  simp only [List.length_append, List.length_cons, List.length_nil]
  omega

def sl (L : List Int) (a b : Int) : List Int := (L.drop a.toNat).take (b - a).toNat
theorem sl_sc {f : Int → Int} {n a b : Int} (h0 : 0 ≤ a) (h1 : a ≤ b) (h2 : b ≤ n) : sl (sc f 0 n) a b = sc f a b := by
  unfold sl
  rw [sc_cat (b := a) h0 (by omega), List.drop_append_of_le_length (by rw [sc_len]; omega), List.drop_eq_nil_of_le (by rw [sc_len]; omega), List.nil_append, sc_cat (b := b) h1 h2, List.take_append_of_le_length (by rw [sc_len]; omega), List.take_of_length_le (by rw [sc_len]; omega)]
theorem sc_drop {f : Int → Int} {n k : Int} {X Y : List Int} (h : sc f 0 n = X ++ Y) (hk : (X.length : Int) = k) (hn : k ≤ n) : sc f k n = Y := by
  rw [sc_cat (b := k) (by omega) hn] at h
  exact (List.append_inj h (by rw [sc_len]; omega)).2

noncomputable def TFB (fl pl : Int) (B : List Int) : List Int := nb (if pl = 0 then (B.length : Int) else 2147483648 + (B.length : Int)) 4 ++ (B ++ opt (andI fl 16) (nb (NSL B 0) 4))

def TFx (fl : Int) (H L : List Int) (a : Int) : List Int := H ++ (if andI fl 32 = 0 then sl L 0 a else [])
theorem TFx_0 {fl a : Int} {H L : List Int} (h : andI fl 32 = 0) : TFx fl H L a = H ++ sl L 0 a := by unfold TFx; rw [if_pos h]
theorem TFx_1 {fl a : Int} {H L : List Int} (h : andI fl 32 ≠ 0) : TFx fl H L a = H := by unfold TFx; rw [if_neg h, List.append_nil]

def TFs (way fl step : Int) (H L : List Int) (s t : Int × List Int) : Prop := s.1 < (L.length : Int) ∧ ∃ e B, (e = s.1 + step ∧ e ≤ (L.length : Int) ∨ e = (L.length : Int) ∧ (L.length : Int) < s.1 + step) ∧ TOB way ((TFx fl H L s.1).length : Int) (TFx fl H L s.1 ++ sl L s.1 e) B ∧
  t = (s.1 + step, s.2 ++ (if ((sl L s.1 e).length : Int) ≤ (B.length : Int) then TFB fl 1 (sl L s.1 e) else TFB fl 0 B))
def TFe (L : List Int) (s : Int × List Int) (R : List Int) : Prop := (L.length : Int) ≤ s.1 ∧ R = s.2
theorem TFs_det {way fl step : Int} {H L : List Int} (s t u : Int × List Int) (x : TFs way fl step H L s t) (y : TFs way fl step H L s u) : t = u := by
  obtain ⟨_, e, B, r, p, q⟩ := x
  obtain ⟨_, e2, B2, r2, p2_, q2⟩ := y
  have ee : e = e2 := by omega
  subst ee
  have := TOB_det p p2_
  subst this
  rw [q, q2]
theorem TFe_det {L : List Int} (s : Int × List Int) (r q : List Int) (x : TFe L s r) (y : TFe L s q) : r = q := by rw [x.2, y.2]
theorem TFse {way fl step : Int} {H L : List Int} (s t : Int × List Int) (r : List Int) (x : TFs way fl step H L s t) : ¬ TFe L s r := fun y => by have := x.1; have := y.1; omega
noncomputable def TFt (fl : Int) (L : List Int) : List Int := nb 0 4 ++ opt (andI fl 4) (nb (NSL L 0) 4)

def TFR (way fl k key step : Int) (H L out : List Int) : Prop := ∃ M, IT (TFs way fl step H L) (TFe L) (0, []) M ∧ out = (TFH fl k key (L.length : Int) ++ M) ++ TFt fl L
theorem TFR_det {way fl k key step : Int} {H L o1 o2 : List Int} (a : TFR way fl k key step H L o1) (b : TFR way fl k key step H L o2) : o1 = o2 := by
  obtain ⟨M, h1, e1⟩ := a
  obtain ⟨M2, h2, e2⟩ := b
  have e : M = M2 := IT_det TFs_det TFe_det TFse h1 h2
  rw [e1, e2, e]

def ITP {S : Type} (st : S → S → Prop) (s0 s : S) : Prop := ∃ m, itR st (fun a b => a = b) m s0 s
theorem ITP_0 {S : Type} {st : S → S → Prop} {s : S} : ITP st s s := ⟨0, rfl⟩
theorem itR_snoc {S : Type} {st : S → S → Prop} {t u : S} (h : st t u) : ∀ {m : Nat} {s : S}, itR st (fun a b => a = b) m s t → itR st (fun a b => a = b) (m + 1) s u
  | 0, s, e => ⟨u, (show s = t from e) ▸ h, rfl⟩
  | m + 1, s, ⟨v, x, k⟩ => ⟨v, x, itR_snoc h k⟩
theorem ITP_s {S : Type} {st : S → S → Prop} {s0 s t : S} (h : ITP st s0 s) (k : st s t) : ITP st s0 t := by
  obtain ⟨m, h⟩ := h
  exact ⟨m + 1, itR_snoc k h⟩
theorem itR_to {S R : Type} {st : S → S → Prop} {en : S → R → Prop} {r : R} : ∀ {m n : Nat} {s t : S}, itR st (fun a b => a = b) m s t → itR st en n t r → itR st en (m + n) s r
  | 0, n, s, t, e, k => by rw [Nat.zero_add, show s = t from e]; exact k
  | m + 1, n, s, t, ⟨v, x, k⟩, q => by
    rw [Nat.succ_add]
    exact ⟨v, x, itR_to k q⟩
theorem ITP_IT {S R : Type} {st : S → S → Prop} {en : S → R → Prop} {s0 s : S} {r : R} (h : ITP st s0 s) (k : IT st en s r) : IT st en s0 r := by
  obtain ⟨m, h⟩ := h
  obtain ⟨n, k⟩ := k
  exact ⟨m + n, itR_to h k⟩
theorem ITP_e {S R : Type} {st : S → S → Prop} {en : S → R → Prop} {s0 s : S} {r : R} (h : ITP st s0 s) (k : en s r) : IT st en s0 r := ITP_IT h ⟨0, k⟩
theorem itR_cut {S R : Type} {st : S → S → Prop} {en : S → R → Prop} (h1 : ∀ s t u, st s t → st s u → t = u) (h3 : ∀ s t r, st s t → ¬ en s r) {t : S} {r : R} : ∀ {m n : Nat} {s : S}, itR st (fun a b => a = b) m s t → itR st en n s r → IT st en t r
  | 0, n, s, e, k => (show s = t from e) ▸ ⟨n, k⟩
  | m + 1, 0, s, ⟨v, x, _⟩, k => absurd k (h3 s v r x)
  | m + 1, n + 1, s, ⟨v, x, q⟩, ⟨w, y, k⟩ => by
    have e := h1 s v w x y
    subst e
    exact itR_cut h1 h3 q k
theorem IT_cut {S R : Type} {st : S → S → Prop} {en : S → R → Prop} (h1 : ∀ s t u, st s t → st s u → t = u) (h3 : ∀ s t r, st s t → ¬ en s r) {s0 s : S} {r : R} (h : ITP st s0 s) (k : IT st en s0 r) : IT st en s r := by
  obtain ⟨m, h⟩ := h
  obtain ⟨n, k⟩ := k
  exact itR_cut h1 h3 h k
theorem TF_mono {way fl step : Int} {H L : List Int} : ∀ {n : Nat} {s : Int × List Int} {R : List Int}, itR (TFs way fl step H L) (TFe L) n s R → s.2.length ≤ R.length
  | 0, s, R, h => by rw [h.2]; exact Nat.le_refl _
  | n + 1, s, R, ⟨t, ⟨_, e, B, _, _, x⟩, k⟩ => by
    have := TF_mono k
    rw [x] at this
    simp only [List.length_append] at this
    omega

theorem TFR_part {way fl k key step at_ : Int} {H L M out : List Int} (h : ITP (TFs way fl step H L) (0, []) (at_, M)) (q : TFR way fl k key step H L out) : ((TFH fl k key (L.length : Int) ++ M) ++ TFt fl L).length ≤ out.length := by
  obtain ⟨M2, h2, e2⟩ := q
  obtain ⟨n, h3⟩ := IT_cut TFs_det TFse h h2
  have := TF_mono h3
  rw [e2]
  simp only [List.length_append]
  have : M.length ≤ M2.length := this
  omega
theorem TFR_of {way fl k key step at_ : Int} {H L M : List Int} (h : ITP (TFs way fl step H L) (0, []) (at_, M)) (he : (L.length : Int) ≤ at_) : TFR way fl k key step H L ((TFH fl k key (L.length : Int) ++ M) ++ TFt fl L) := ⟨M, ITP_e h ⟨he, rfl⟩, rfl⟩

theorem TFs_i {way fl step at_ e at2 h : Int} {H L M M2 Ls B R : List Int} (h0 : at_ < (L.length : Int)) (he : e = at_ + step ∧ e ≤ (L.length : Int) ∨ e = (L.length : Int) ∧ (L.length : Int) < at_ + step) (hl : TFx fl H L at_ ++ sl L at_ e = Ls) (hh : ((TFx fl H L at_).length : Int) = h) (hB : TOB way h Ls B) (hR : (((sl L at_ e).length : Int) ≤ (B.length : Int) ∧ R = TFB fl 1 (sl L at_ e)) ∨ ((B.length : Int) < ((sl L at_ e).length : Int) ∧ R = TFB fl 0 B)) (e2 : at2 = at_ + step) (eM : M2 = M ++ R) (hi : ITP (TFs way fl step H L) (0, []) (at_, M)) : ITP (TFs way fl step H L) (0, []) (at2, M2) := by
  subst e2 eM hl hh
  refine ITP_s hi ⟨h0, e, B, he, hB, ?_⟩
  rcases hR with ⟨a, b⟩ | ⟨a, b⟩
  · rw [if_pos a, b]
  · rw [if_neg (by show ¬ (((sl L at_ e).length : Int) ≤ (B.length : Int)); omega), b]

theorem MTL_ge {f : Int → Int} {e w l way ls p n d : Int} (hl : l ≤ 8) (h : MTL f e w l way ls p n d) : n = 0 ∨ l ≤ n := by
  have q : ∀ k, l ≤ k → NRQ f e w k p n d → n = 0 ∨ l ≤ n := fun k hk h => by
    rcases h with ⟨a, _⟩ | ⟨a, _⟩ <;> omega
  have r : ∀ n0 d0, LGQ f e w l p n0 d0 → n0 = 0 ∨ l ≤ n0 := fun n0 d0 h => by
    rcases h with ⟨a, _⟩ | ⟨a, _⟩ <;> omega
  rcases h with ⟨_, h⟩ | ⟨_, h⟩
  · rcases h with ⟨_, h⟩ | ⟨_, h⟩ | ⟨_, h⟩ | ⟨_, n0, d0, u, v⟩
    · exact q l (Int.le_refl l) h
    · rcases h with ⟨_, h⟩ | ⟨_, h⟩
      · exact q 8 hl h
      · exact q l (Int.le_refl l) h
    · exact r _ _ h
    · have := r _ _ u
      rcases v with ⟨_, v⟩ | ⟨_, v⟩
      · exact .inl v
      · rcases v with ⟨_, v, _⟩ | ⟨_, n1, d1, _, v⟩
        · omega
        · rcases v with ⟨_, v⟩ | ⟨_, v, _⟩ <;> omega
  · exact .inl h
theorem exr_len {r : Int} : ((exr r).length : Int) ≤ (if r < 0 then 0 else r / 255 + 1) := by
  unfold exr
  split
  · exact Int.le_refl 0
  · rw [List.length_append, List.length_replicate]
    show ((((r / 255).toNat + 1 : Nat)) : Int) ≤ _
    omega
theorem tks_len {l : List Int} {b c : Int} (hb : b = 0 ∨ 4 ≤ b) : ((tks l b c).length : Int) ≤ 2 * (l.length : Int) + (if b = 0 then 2 else 2 * b) := by
  have h1 := exr_len (r := (l.length : Int) - 15)
  have h2 := exr_len (r := b - 4 - 15)
  unfold tks tkt
  by_cases z : b = 0
  · rw [if_pos z, if_pos z, if_pos z]
    simp only [List.length_append, List.length_cons, List.length_nil]
    split at h1 <;> omega
  · rw [if_neg z, if_neg z, if_neg z]
    simp only [List.length_append, List.length_cons, List.length_nil]
    split at h1 <;> split at h2 <;> omega
theorem tokE_len {f d : Int → Int} {e w way ls n : Int} : ∀ {S : List (Int × Int × Int)} {p s t : Int}, s ≤ p → GOS (MTL f e w 4 way ls) n p s S t → ((tokE d s S t).length : Int) ≤ 2 * (n - s) + 2
  | [], p, s, t, hs, h => by
    have h1 := h.1
    have h2 := h.2.1
    have := tks_len (l := sc d s (s + t)) (b := 0) (c := 0) (.inl rfl)
    rw [sc_lenI (by omega), if_pos rfl] at this
    show ((tks (sc d s (s + t)) 0 0).length : Int) ≤ _
    omega
  | (a, b, c) :: S, p, s, t, hs, h => by
    obtain ⟨h1, h3, h4, h5, h6, h7⟩ := h
    have k := tokE_len (d := d) (Int.le_refl _) h7
    have hb := MTL_ge (by omega) h6
    have := tks_len (l := sc d s (s + a)) (b := b) (c := c) (by omega)
    rw [sc_lenI (by omega), if_neg (by omega)] at this
    show ((tks (sc d s (s + a)) b c ++ tokE d (s + a + b) S t).length : Int) ≤ _
    rw [List.length_append]
    omega
theorem TOB_len {way h : Int} {L B : List Int} (k : TOB way h L B) : (B.length : Int) ≤ 2 * ((L.length : Int) - h) + 2 := by
  obtain ⟨S, t, x, e⟩ := k
  rw [e]
  exact tokE_len (Int.le_refl h) x
theorem TWB_B {cap way h n m : Int} {f g : Int → Int} (k : TWB cap (MTL f (n - 5) 65535 4 way (n - 12)) f n h g m) (hf : BYI f) (hh : 0 ≤ h) (hn : 0 ≤ n) : ∃ B, TOB way h (sc f 0 n) B ∧ RQ cap g m B := by
  obtain ⟨S, t, x, y⟩ := k
  exact ⟨_, TOB_of hf hh hn x, y⟩

theorem anJ_255 (v : Int) : anJ v 255 = v % 256 := by
  have e : (Int64.ofInt v &&& Int64.ofInt 255).toBitVec.toNat = (Int64.ofInt v).toBitVec.toNat % 256 := by
    show ((Int64.ofInt v).toBitVec &&& (Int64.ofInt 255).toBitVec).toNat = _
    rw [BitVec.toNat_and, show (Int64.ofInt 255).toBitVec.toNat = 2 ^ 8 - 1 from by decide, Nat.and_two_pow_sub_one_eq_mod]
  have e2 : (((Int64.ofInt v).toBitVec.toNat : Nat) : Int) % 256 = v % 256 := by
    show (((BitVec.ofInt 64 v).toNat : Nat) : Int) % 256 = _
    rw [BitVec.toNat_ofInt, Int.toNat_of_nonneg (Int.emod_nonneg _ (by decide))]
    have : ((2 ^ 64 : Nat) : Int) = 256 * 72057594037927936 := by decide
    rw [this]
    omega
  unfold anJ
  show (Int64.ofInt v &&& Int64.ofInt 255).toBitVec.toInt = _
  rw [BitVec.toInt_eq_toNat_of_lt (by rw [e]; omega), e, ← e2]
  omega
theorem srJ_d {v k : Int} (hv : inrJ v) (hk : 0 ≤ k ∧ k ≤ 63) : srJ v k = v / p2 k := shr64 hv hk
theorem an_sr {v k : Int} (hv : inrJ v) (hk : 0 ≤ k ∧ k ≤ 63) : anJ (srJ v k) 255 = u8 (v / p2 k) := by
  rw [anJ_255, srJ_d hv hk]
  rfl
theorem u8_us8 (z : Int) : u8 (usI z 8) = u8 (z % 4294967296 / 256) := by
  have h := nU_us (x := z) (k := 8) (by omega)
  have h1 := nU_m (usI z 8)
  have h2 := nU_m z
  rw [show (8 : Int).toNat = 8 from rfl] at h
  unfold u8
  omega
theorem u8_sl4 (a : Int) : u8 (slI a 4) = u8 (16 * a) := by
  unfold slI
  rw [shl32 (by omega), u8_of, show p2 4 = 16 by decide]
  unfold u8
  omega
theorem or31 {m : Int} (h : 0 ≤ m ∧ m < 2147483648) : orI m (-2147483648) % 4294967296 = (2147483648 + m) % 4294967296 := by
  have e := nU_or m (-2147483648)
  have e1 := nU_m (orI m (-2147483648))
  have k0 : nU m = m.toNat := by unfold nU; omega
  have k1 : nU (-2147483648) = 1 * 2 ^ 31 := by decide
  rw [k0, k1, or_add (k := 31) (by omega)] at e
  omega
theorem RQ_q {cap n n2 : Int} {g g2 : Int → Int} {L M : List Int} (h : RQ cap g n L) (k : QAP cap g n g2 n2 M) : RQ cap g2 n2 (L ++ M) := k L h
theorem RQ_c {cap n : Int} {g : Int → Int} {L M : List Int} (h : RQ cap g n L) (e : L = M) : RQ cap g n M := e ▸ h
theorem RAP_b {b n b1 n1 : Int} {g g1 : Int → Int} {M : List Int} (h : RAP b g n b1 g1 n1 M) (hb : b ≠ 0) (h1 : b = 0 ∨ b = 1) (hn : 0 ≤ n1 ∧ n1 ≤ 65536) : b1 ≠ 0 := by
  intro z
  have hb : b = 1 := by omega
  rcases h (List.replicate 65537 0) (.inr ⟨hb, by rw [List.length_replicate]; decide⟩) with ⟨_, c⟩ | ⟨c, _⟩
  · have l := sc_lenI (f := g1) hn.1
    rw [c, List.length_append, List.length_replicate] at l
    omega
  · omega
theorem RAP_o0 {b n b1 n1 c : Int} {g g1 : Int → Int} {M L : List Int} (h : RAP b g n b1 g1 n1 M) (hc : c = 0) : RAP b g n b1 g1 n1 (M ++ opt c L) := by rw [opt_0 hc, List.append_nil]; exact h
theorem RAP_o1 {b n b1 n1 b2 n2 c : Int} {g g1 g2 : Int → Int} {M L : List Int} (h : RAP b g n b1 g1 n1 M) (k : RAP b1 g1 n1 b2 g2 n2 L) (hc : c ≠ 0) : RAP b g n b2 g2 n2 (M ++ opt c L) := by rw [opt_1 hc]; exact RAP_trans h k
theorem RAP_c {b n b1 n1 : Int} {g g1 : Int → Int} {M L : List Int} (h : RAP b g n b1 g1 n1 M) (e : M = L) : RAP b g n b1 g1 n1 L := e ▸ h
theorem RQ_o0 {cap n c : Int} {g : Int → Int} {M L : List Int} (h : RQ cap g n M) (hc : c = 0) : RQ cap g n (M ++ opt c L) := by rw [opt_0 hc, List.append_nil]; exact h
theorem RQ_o1 {cap n n2 c : Int} {g g2 : Int → Int} {M L : List Int} (h : RQ cap g n M) (k : QAP cap g n g2 n2 L) (hc : c ≠ 0) : RQ cap g2 n2 (M ++ opt c L) := by rw [opt_1 hc]; exact k M h

theorem nb_sum {f : Int → Int} {a n b : Int} {L : List Int} (hn : 0 ≤ n) (hb : b = a + n) (hL : sc f a b = L) : nb (NSM f a n 0 % 4294967296) 4 = nb (NSL L 0) 4 := by
  rw [← hL, ← NSM_L hn hb]
  exact nb4_m (by omega)
theorem nb_sumI {f : Int → Int} {a n b z : Int} {L : List Int} (hz : z = NSM f a n 0) (hn : 0 ≤ n) (hb : b = a + n) (hL : sc f a b = L) : nb z 4 = nb (NSL L 0) 4 := by rw [hz, NSM_L hn hb, hL]


end
