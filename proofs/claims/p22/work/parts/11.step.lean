/-! the step -/
noncomputable def rnth (l : List Value) (n : Nat) : Option Value := rgt l n
theorem rnth_eq (σ : List Value) (n : Nat) : rnth σ n = σ[n]? := rgt_eq σ n
def rcond : ClassFile.Cond → Nat
  | .eq => 0
  | .ne => 1
  | .lt => 2
  | .ge => 3
  | .gt => 4
  | .le => 5
def rbool : Value → Bool
  | .int v => decide (v = 0) || decide (v = 1)
  | _ => false
/-- may the value stand in a field (in a return) of this kind: 0 int, 1 boolean, 2 long, 3 a reference -/
def rfit (tag : Nat) (v : Value) : Bool :=
  match tag with
  | 0 => risI v
  | 1 => rbool v
  | 2 => risL v
  | 3 => risR v
  | _ => false
noncomputable def rget (σ : rS) (o : Value) (ci kf : Nat) (c : Value → Option rR) : Option rR :=
  match o with
  | .ref a => match rat σ a with
    | some (.inl q) => match Nat.beq q.1 ci with
      | true => match rnth q.2 kf with
        | some v => c v
        | none => none
      | false => none
    | _ => none
  | _ => none
noncomputable def rput (SB : Nat) (σ : rS) (o v : Value) (ci kf tag : Nat) (c : rS → Option rR) : Option rR :=
  match o with
  | .ref a => match rat σ a with
    | some (.inl q) => match Nat.beq q.1 ci && (Nat.ble SB a && (rfit tag v && Nat.blt kf q.2.length)) with
      | true => c (rstl σ a (.inl (q.1, rstl q.2 kf v)))
      | false => none
    | _ => none
  | _ => none
/-- an array's cell, and a place in it -/
noncomputable def rplace (σ : rS) (o i : Value) (c : Nat → Nat × Nat × Value × rO → Nat → Option rR) : Option rR :=
  match o with
  | .ref a => match rat σ a with
    | some (.inr q) => match i with
      | .int j => match decide (j < 0) with
        | false => rn j.toNatClampNeg (fun x => match Nat.blt x q.2.1 with
          | true => c a q x
          | false => none)
        | true => none
      | _ => none
    | _ => none
  | _ => none
noncomputable def rald (t : Nat) (σ : rS) (o i : Value) (c : Value → Option rR) : Option rR :=
  rplace σ o i (fun _ q x => match Nat.beq q.1 t with
    | true => c (rlk q.2.2.2 q.2.2.1 x)
    | false => none)
noncomputable def ralq (σ : rS) (o i : Value) (c : Value → Option rR) : Option rR :=
  rplace σ o i (fun _ q x => match Nat.ble 4 q.1 && Nat.blt q.1 8 with
    | true => match risR (rlk q.2.2.2 q.2.2.1 x) with
      | true => c (rlk q.2.2.2 q.2.2.1 x)
      | false => none
    | false => none)
noncomputable def rast (t tag SB : Nat) (σ : rS) (o i v : Value) (c : rS → Option rR) : Option rR :=
  rplace σ o i (fun a q x => match Nat.beq q.1 t && (Nat.ble SB a && rfit tag v) with
    | true => c (rstl σ a (.inr (q.1, q.2.1, q.2.2.1, rup q.2.2.2 x v)))
    | false => none)
/-- is the value null, or an object of the kind that the array holds -/
noncomputable def rkin (EC : Nat → Nat) (σ : rS) (t : Nat) (v : Value) : Bool :=
  match v with
  | .null => true
  | .ref b => match rat σ b with
    | some (.inl q) => Nat.beq q.1 (EC t)
    | _ => false
  | _ => false
noncomputable def rasq (EC : Nat → Nat) (SB : Nat) (σ : rS) (o i v : Value) (c : rS → Option rR) : Option rR :=
  rplace σ o i (fun a q x => match Nat.ble 4 q.1 && (Nat.blt q.1 7 && (Nat.ble SB a && rkin EC σ q.1 v)) with
    | true => c (rstl σ a (.inr (q.1, q.2.1, q.2.2.1, rup q.2.2.2 x v)))
    | false => none)
def rdef (t : Nat) : Value :=
  match t with
  | 0 => .int 0
  | 1 => .int 0
  | 2 => .long 0
  | 3 => .int 0
  | _ => .null
noncomputable def rnewa (t : Nat) (σ : rS) (n : Value) (c : Value → rS → Nat → Option rR) : Option rR :=
  match n with
  | .int j => match decide (j < 0) with
    | false => rn j.toNatClampNeg (fun x => match Nat.ble x 1000000 with
      | true => rn σ.length (fun a => c (.ref a) (σ ++ [.inr (t, x, rdef t, [])]) x)
      | false => none)
    | true => none
  | _ => none
def rwords : List Value → Nat
  | [] => 0
  | v :: l => v.category + rwords l
def rargs : Nat → List Value → rO
  | _, [] => []
  | i, v :: vs => (i, v) :: rargs (i + v.category) vs
def rafter (cs : List rK) (r : Option rR) : Option rR :=
  match cs with
  | [] => r
  | q :: cs => match r with
    | some y => some ((q :: cs) ++ y.1, y.2)
    | none => none
def rreti (v : Option Value) (i : Instr) : Bool :=
  match v with
  | none => decide (i = .return_)
  | some (.int _) => decide (i = .ireturn)
  | some (.float _) => decide (i = .ireturn)
  | some (.long _) => decide (i = .lreturn)
  | some (.double _) => decide (i = .lreturn)
  | some (.ref _) => decide (i = .areturn)
  | some .null => decide (i = .areturn)
  | some (.retAddr _) => false
def rretok (rt : Nat) (v : Option Value) : Bool :=
  match v with
  | none => Nat.beq rt 9
  | some v => Nat.blt rt 4 && rfit rt v
def rceq : rC → rC → Bool
  | .inl p, .inl q => Nat.beq p.1 q.1 && decide (p.2 = q.2)
  | .inr p, .inr q => Nat.beq p.1 q.1 && (Nat.beq p.2.1 q.2.1 && (decide (p.2.2.1 = q.2.2.1) && decide (p.2.2.2 = q.2.2.2)))
  | _, _ => false
theorem rceq_eq : ∀ {p q : rC}, rceq p q = true → p = q
  | .inl (a, b), .inl (a', b'), h => by
    simp only [rceq, Bool.and_eq_true, decide_eq_true_eq] at h
    have h1 := Nat.eq_of_beq_eq_true h.1
    rw [h1, h.2]
  | .inr (a, b, c, d), .inr (a', b', cₚ, d'), h => by
    simp only [rceq, Bool.and_eq_true, decide_eq_true_eq] at h
    have h1 := Nat.eq_of_beq_eq_true h.1
    have h2 := Nat.eq_of_beq_eq_true h.2.1
    rw [h1, h2, h.2.2.1, h.2.2.2]
  | .inl _, .inr _, h => by simp [rceq] at h
  | .inr _, .inl _, h => by simp [rceq] at h
def rseq : rS → rS → Bool
  | [], [] => true
  | a :: l, b :: lₚ => rceq a b && rseq l lₚ
  | _, _ => false
theorem rseq_eq : ∀ {p q : rS}, rseq p q = true → p = q
  | [], [], _ => rfl
  | a :: l, b :: lₚ, h => by
    simp only [rseq, Bool.and_eq_true] at h
    rw [rceq_eq h.1, rseq_eq h.2]
  | [], _ :: _, h => by simp [rseq] at h
  | _ :: _, [], h => by simp [rseq] at h
abbrev rM : Type := Nat × Nat × List Value × rS × Option Value × rS × Nat × Nat
def rmemo (Kn : List rM) (μ d : Nat) (vs : List Value) (σ : rS) : Option (Option Value × rS × Nat × Nat) :=
  match Kn with
  | [] => none
  | q :: l => match Nat.beq q.1 μ && (Nat.ble q.2.1 d && (decide (q.2.2.1 = vs) && rseq q.2.2.2.1 σ)) with
    | true => some q.2.2.2.2
    | false => rmemo l μ d vs σ
noncomputable def rcall (ML RT : Nat → Nat) (Kn : List rM) (rec : rF) (μ d pc : Nat) (ls : rO) (μ' : Nat) (vs rest : List Value) (σ : rS) (k : Nat) (pa : List Nat) (cells slots : Nat) : Option rR :=
  match d with
  | 0 => none
  | d' + 1 => match Nat.ble (rwords rest) 8 && Nat.ble (rwords vs) (ML μ') with
    | false => none
    | true => match rmemo Kn μ' d' vs σ with
      | some z => match rretok (RT μ') z.1 with
        | true => rn (pc + 3) (fun pcₚ => rec μ (d' + 1) pcₚ ls (z.1.toList ++ rest) z.2.1 k pa (cells + z.2.2.1) (slots + z.2.2.2))
        | false => none
      | none => match rec μ' d' 0 (rargs 0 vs) [] σ k pa 0 0 with
        | some z => match rretok (RT μ') z.2.1 with
          | true => rafter z.1 (rn (pc + 3) (fun pcₚ => rec μ (d' + 1) pcₚ ls (z.2.1.toList ++ rest) z.2.2.1 z.2.2.2.1 z.2.2.2.2.1 (cells + z.2.2.2.2.2.1) (slots + z.2.2.2.2.2.2)))
          | false => none
        | none => none
/-- the arguments of a call, the last on top: (in their order, the rest) -/
def rpopn : Nat → List Value → List Value → Option (List Value × List Value)
  | 0, acc, st => some (acc, st)
  | _ + 1, _, [] => none
  | n + 1, acc, v :: st => rpopn n (v :: acc) st
noncomputable def rinvo (ML RT : Nat → Nat) (Kn : List rM) (rec : rF) (μ d pc : Nat) (ls : rO) (vs st : List Value) (σ : rS) (k : Nat) (pa : List Nat) (cells slots : Nat) (act : rA) : Option rR :=
  match st with
  | .ref b :: rest => match rat σ b with
    | some (.inl q) => match act.2.2.2 with
      | .ref ci => match Nat.beq q.1 ci with
        | true => rcall ML RT Kn rec μ d pc ls act.2.1 (.ref b :: vs) rest σ k pa cells slots
        | false => none
      | _ => none
    | _ => none
  | _ => none
noncomputable def rinv (ML RT : Nat → Nat) (Kn : List rM) (rec : rF) (μ d pc : Nat) (ls : rO) (st : List Value) (σ : rS) (k : Nat) (pa : List Nat) (cells slots : Nat) (act : rA) : Option rR :=
  match rpopn act.2.2.1 [] st with
  | none => none
  | some z => match Nat.ble 24 act.1 with
    | true => rcall ML RT Kn rec μ d pc ls act.2.1 z.1 z.2 σ k pa cells slots
    | false => rinvo ML RT Kn rec μ d pc ls z.1 z.2 σ k pa cells slots act
noncomputable def rcpy (ov0 : rO) (d0 : Value) (sp dp : Nat) : Nat → rO → rO
  | 0, ov => ov
  | n + 1, ov => rup (rcpy ov0 d0 sp dp n ov) (dp + n) (rlk ov0 d0 (sp + n))
theorem rcpy_lk (ov0 : rO) (d0 : Value) (sp dp : Nat) (d : Value) (ov : rO) (j : Nat) : ∀ n : Nat, rlk (rcpy ov0 d0 sp dp n ov) d j = if dp ≤ j ∧ j < dp + n then rlk ov0 d0 (sp + (j - dp)) else rlk ov d j
  | 0 => by
    rw [if_neg (by omega)]
    rfl
  | n + 1 => by
    unfold rcpy
    rw [rlk_rup, rcpy_lk ov0 d0 sp dp d ov j n]
    by_cases h : j = dp + n
    · subst h
      rw [if_pos rfl, if_pos (by omega)]
      congr 1
      omega
    · rw [if_neg h]
      by_cases h2 : dp ≤ j ∧ j < dp + n
      · rw [if_pos h2, if_pos (by omega)]
      · rw [if_neg h2, if_neg (by omega)]
/-- may the value be copied into an array of this kind (0 byte, 1 int) -/
def rcel (t : Nat) (v : Value) : Bool :=
  match t with
  | 0 => match v with
    | .int x => decide (x.toInt8.toInt32 = x)
    | _ => false
  | 1 => risI v
  | _ => false
noncomputable def rcall0 (t : Nat) (ov0 : rO) (d0 : Value) (sp : Nat) : Nat → Bool
  | 0 => true
  | n + 1 => rcel t (rlk ov0 d0 (sp + n)) && rcall0 t ov0 d0 sp n
noncomputable def rcopy (SB : Nat) (σ : rS) (n dp a sp a0 : Value) (c : rS → Option rR) : Option rR :=
  match n, dp, a, sp, a0 with
  | .int n, .int dp, .ref a, .int sp, .ref a0 => match rat σ a with
    | some (.inr q) => match rat σ a0 with
      | some (.inr q0) => match decide (n < 0) || (decide (dp < 0) || decide (sp < 0)) with
        | true => none
        | false => rn n.toNatClampNeg (fun n => rn dp.toNatClampNeg (fun dp => rn sp.toNatClampNeg (fun sp =>
          match Nat.beq q.1 q0.1 && (Nat.ble q.1 1 && (Nat.ble (sp + n) q0.2.1 && (Nat.ble (dp + n) q.2.1 && (Nat.ble SB a && rcall0 q.1 q0.2.2.2 q0.2.2.1 sp n)))) with
          | true => c (rstl σ a (.inr (q.1, q.2.1, q.2.2.1, rcpy q0.2.2.2 q0.2.2.1 sp dp n q.2.2.2)))
          | false => none)))
      | _ => none
    | _ => none
  | _, _, _, _, _ => none
noncomputable def rfill (SB : Nat) (σ : rS) (v a : Value) (c : rS → Option rR) : Option rR :=
  match a with
  | .ref a => match rat σ a with
    | some (.inr q) => match Nat.beq q.1 1 && (Nat.ble SB a && (risI v && Nat.ble q.2.1 1000000)) with
      | true => c (rstl σ a (.inr (q.1, q.2.1, v, [])))
      | false => none
    | _ => none
  | _ => none
noncomputable def rsw (pc : Nat) (dflt lo hi : Int) (offs : Array Int) (x : Int32) (c : Nat → Option rR) : Option rR :=
  match decide (x.toInt < lo) || decide (hi < x.toInt) with
  | true => rjmp pc dflt c
  | false => match offs[(x.toInt - lo).toNat]? with
    | some off => rjmp pc off c
    | none => none
noncomputable def rswitch (pc : Nat) (dflt lo hi : Int) (offs : Array Int) (v : Value) (pa : List Nat) (c : List Nat → Nat → Option rR) : Option rR :=
  match v with
  | .int x => rsw pc dflt lo hi offs x (c pa)
  | .float j => match pa with
    | [] => none
    | z :: pa' => match Nat.ble z 4294967295 with
      | true => remit (8, 0, .float j, .int (Int32.ofNat z), 0) (rsw pc dflt lo hi offs (Int32.ofNat z) (c pa'))
      | false => match decide (0 ≤ lo + 2147483648) && decide (0 ≤ hi + 2147483648) with
        | true => remit (9, (lo + 2147483648).toNat, .float j, .null, (hi + 2147483648).toNat) (rjmp pc dflt (c pa'))
        | false => none
  | _ => none
/-- the place of a switch by pairs -/
def rpick (x dflt : Int) : List (Int × Int) → Int
  | [] => dflt
  | q :: l => bif decide (q.1 = x) then q.2 else rpick x dflt l
/-- an array of booleans -/
noncomputable def rkz (σ : rS) (o : Value) : Bool :=
  match o with
  | .ref a => match rat σ a with
    | some (.inr q) => Nat.beq q.1 3
    | _ => false
  | _ => false
noncomputable def rload (ls : rO) (i : Nat) (f : Value → Bool) (c : Value → Option rR) : Option rR :=
  match rlook ls i with
  | some v => match f v with
    | true => c v
    | false => none
  | none => none
/-- a number that is only named is told by the way, or stays a name -/
noncomputable def rconc (v : Value) (pa : List Nat) (c : Value → List Nat → Option rR) : Option rR :=
  match v with
  | .float j => match pa with
    | [] => none
    | z :: pa' => match Nat.ble z 4294967295 with
      | true => remit (8, 0, .float j, .int (Int32.ofNat z), 0) (c (.int (Int32.ofNat z)) pa')
      | false => c (.float j) pa'
  | v => c v pa
/-- the parameters: the listing, the locals and the kind of return of a method, is it a constructor, an object's first fields, the element of an array of references, how many cells were there before the run, the calls that are known already -/
abbrev rP : Type := (Nat → Nat → Option rI) × (Nat → Nat) × (Nat → Nat) × (Nat → Bool) × (Nat → List Value) × (Nat → Nat) × Nat × List rM
noncomputable def rinstr (P : rP) (rec : rF) (μ d pc : Nat) (ls : rO) (st : List Value) (σ : rS) (k : Nat) (pa : List Nat) (cells slots : Nat) (i : Instr) (len : Nat) (act : rA) : Option rR :=
  match i with
  | .iconst n => rci (Int32.ofInt n) (fun v => rn (pc + 1) (fun pcₚ => rec μ d pcₚ ls (.int v :: st) σ k pa cells slots))
  | .bipush n => rci (Int8.ofInt n).toInt32 (fun v => rn (pc + 2) (fun pcₚ => rec μ d pcₚ ls (.int v :: st) σ k pa cells slots))
  | .sipush n => rci (Int16.ofInt n).toInt32 (fun v => rn (pc + 3) (fun pcₚ => rec μ d pcₚ ls (.int v :: st) σ k pa cells slots))
  | .lconst n => rcl (Int64.ofNat (n : Nat)) (fun v => rn (pc + 1) (fun pcₚ => rec μ d pcₚ ls (.long v :: st) σ k pa cells slots))
  | .aconst_null => rn (pc + 1) (fun pcₚ => rec μ d pcₚ ls (.null :: st) σ k pa cells slots)
  | .ldc _ => match act.2.2.2 with
    | .int v => rn (pc + 2) (fun pcₚ => rec μ d pcₚ ls (.int v :: st) σ k pa cells slots)
    | _ => none
  | .ldc_w _ => match act.2.2.2 with
    | .int v => rn (pc + 3) (fun pcₚ => rec μ d pcₚ ls (.int v :: st) σ k pa cells slots)
    | _ => none
  | .ldc2_w _ => match act.2.2.2 with
    | .long v => rn (pc + 3) (fun pcₚ => rec μ d pcₚ ls (.long v :: st) σ k pa cells slots)
    | _ => none
  | .iload n => rload ls n risI (fun v => rn (pc + 2) (fun pcₚ => rec μ d pcₚ ls (v :: st) σ k pa cells slots))
  | .iload_n n => rload ls n risI (fun v => rn (pc + 1) (fun pcₚ => rec μ d pcₚ ls (v :: st) σ k pa cells slots))
  | .lload n => rload ls n risL (fun v => rn (pc + 2) (fun pcₚ => rec μ d pcₚ ls (v :: st) σ k pa cells slots))
  | .lload_n n => rload ls n risL (fun v => rn (pc + 1) (fun pcₚ => rec μ d pcₚ ls (v :: st) σ k pa cells slots))
  | .aload n => rload ls n risR (fun v => rn (pc + 2) (fun pcₚ => rec μ d pcₚ ls (v :: st) σ k pa cells slots))
  | .aload_n n => rload ls n risR (fun v => rn (pc + 1) (fun pcₚ => rec μ d pcₚ ls (v :: st) σ k pa cells slots))
  | .istore n => match st with
    | v :: st => match risI v with
      | true => rn (pc + 2) (fun pcₚ => rec μ d pcₚ (rset ls n v) st σ k pa cells slots)
      | false => none
    | _ => none
  | .istore_n n => match st with
    | v :: st => match risI v with
      | true => rn (pc + 1) (fun pcₚ => rec μ d pcₚ (rset ls n v) st σ k pa cells slots)
      | false => none
    | _ => none
  | .lstore n => match st with
    | v :: st => match risL v with
      | true => rn (pc + 2) (fun pcₚ => rec μ d pcₚ (rset2 ls n v) st σ k pa cells slots)
      | false => none
    | _ => none
  | .lstore_n n => match st with
    | v :: st => match risL v with
      | true => rn (pc + 1) (fun pcₚ => rec μ d pcₚ (rset2 ls n v) st σ k pa cells slots)
      | false => none
    | _ => none
  | .astore n => match st with
    | .ref a :: st => rn (pc + 2) (fun pcₚ => rec μ d pcₚ (rset ls n (.ref a)) st σ k pa cells slots)
    | .null :: st => rn (pc + 2) (fun pcₚ => rec μ d pcₚ (rset ls n .null) st σ k pa cells slots)
    | _ => none
  | .astore_n n => match st with
    | .ref a :: st => rn (pc + 1) (fun pcₚ => rec μ d pcₚ (rset ls n (.ref a)) st σ k pa cells slots)
    | .null :: st => rn (pc + 1) (fun pcₚ => rec μ d pcₚ (rset ls n .null) st σ k pa cells slots)
    | _ => none
  | .iinc n x => match rlook ls n with
    | some v => rbin 0 v (.int (Int32.ofInt x)) k (fun v k => rn (pc + len) (fun pcₚ => rec μ d pcₚ (rset ls n v) st σ k pa cells slots))
    | none => none
  | .iadd => match st with
    | y :: x :: st => rbin 0 x y k (fun v k => rn (pc + 1) (fun pcₚ => rec μ d pcₚ ls (v :: st) σ k pa cells slots))
    | _ => none
  | .isub => match st with
    | y :: x :: st => rbin 1 x y k (fun v k => rn (pc + 1) (fun pcₚ => rec μ d pcₚ ls (v :: st) σ k pa cells slots))
    | _ => none
  | .imul => match st with
    | y :: x :: st => rbin 2 x y k (fun v k => rn (pc + 1) (fun pcₚ => rec μ d pcₚ ls (v :: st) σ k pa cells slots))
    | _ => none
  | .iand => match st with
    | y :: x :: st => rbin 3 x y k (fun v k => rn (pc + 1) (fun pcₚ => rec μ d pcₚ ls (v :: st) σ k pa cells slots))
    | _ => none
  | .ior => match st with
    | y :: x :: st => rbin 4 x y k (fun v k => rn (pc + 1) (fun pcₚ => rec μ d pcₚ ls (v :: st) σ k pa cells slots))
    | _ => none
  | .ixor => match st with
    | y :: x :: st => rbin 5 x y k (fun v k => rn (pc + 1) (fun pcₚ => rec μ d pcₚ ls (v :: st) σ k pa cells slots))
    | _ => none
  | .ishl => match st with
    | y :: x :: st => rbin 6 x y k (fun v k => rn (pc + 1) (fun pcₚ => rec μ d pcₚ ls (v :: st) σ k pa cells slots))
    | _ => none
  | .ishr => match st with
    | y :: x :: st => rbin 7 x y k (fun v k => rn (pc + 1) (fun pcₚ => rec μ d pcₚ ls (v :: st) σ k pa cells slots))
    | _ => none
  | .iushr => match st with
    | y :: x :: st => rbin 8 x y k (fun v k => rn (pc + 1) (fun pcₚ => rec μ d pcₚ ls (v :: st) σ k pa cells slots))
    | _ => none
  | .idiv => match st with
    | y :: x :: st => rdiv 9 x y k (fun v k => rn (pc + 1) (fun pcₚ => rec μ d pcₚ ls (v :: st) σ k pa cells slots))
    | _ => none
  | .irem => match st with
    | y :: x :: st => rdiv 10 x y k (fun v k => rn (pc + 1) (fun pcₚ => rec μ d pcₚ ls (v :: st) σ k pa cells slots))
    | _ => none
  | .ineg => match st with
    | x :: st => runi 0 x k (fun v k => rn (pc + 1) (fun pcₚ => rec μ d pcₚ ls (v :: st) σ k pa cells slots))
    | _ => none
  | .i2b => match st with
    | x :: st => runi 1 x k (fun v k => rn (pc + 1) (fun pcₚ => rec μ d pcₚ ls (v :: st) σ k pa cells slots))
    | _ => none
  | .i2l => match st with
    | x :: st => ri2l x k (fun v k => rn (pc + 1) (fun pcₚ => rec μ d pcₚ ls (v :: st) σ k pa cells slots))
    | _ => none
  | .l2i => match st with
    | x :: st => rl2i x k (fun v k => rn (pc + 1) (fun pcₚ => rec μ d pcₚ ls (v :: st) σ k pa cells slots))
    | _ => none
  | .ladd => match st with
    | y :: x :: st => rlbin 0 x y k (fun v k => rn (pc + 1) (fun pcₚ => rec μ d pcₚ ls (v :: st) σ k pa cells slots))
    | _ => none
  | .lsub => match st with
    | y :: x :: st => rlbin 1 x y k (fun v k => rn (pc + 1) (fun pcₚ => rec μ d pcₚ ls (v :: st) σ k pa cells slots))
    | _ => none
  | .lmul => match st with
    | y :: x :: st => rlbin 2 x y k (fun v k => rn (pc + 1) (fun pcₚ => rec μ d pcₚ ls (v :: st) σ k pa cells slots))
    | _ => none
  | .land => match st with
    | y :: x :: st => rlbin 3 x y k (fun v k => rn (pc + 1) (fun pcₚ => rec μ d pcₚ ls (v :: st) σ k pa cells slots))
    | _ => none
  | .lor => match st with
    | y :: x :: st => rlbin 4 x y k (fun v k => rn (pc + 1) (fun pcₚ => rec μ d pcₚ ls (v :: st) σ k pa cells slots))
    | _ => none
  | .lxor => match st with
    | y :: x :: st => rlbin 5 x y k (fun v k => rn (pc + 1) (fun pcₚ => rec μ d pcₚ ls (v :: st) σ k pa cells slots))
    | _ => none
  | .lshl => match st with
    | y :: x :: st => rlsh 0 x y k (fun v k => rn (pc + 1) (fun pcₚ => rec μ d pcₚ ls (v :: st) σ k pa cells slots))
    | _ => none
  | .lshr => match st with
    | y :: x :: st => rlsh 1 x y k (fun v k => rn (pc + 1) (fun pcₚ => rec μ d pcₚ ls (v :: st) σ k pa cells slots))
    | _ => none
  | .lushr => match st with
    | y :: x :: st => rlsh 2 x y k (fun v k => rn (pc + 1) (fun pcₚ => rec μ d pcₚ ls (v :: st) σ k pa cells slots))
    | _ => none
  | .lcmp => match st with
    | y :: x :: st => rlcmp x y k (fun v k => rn (pc + 1) (fun pcₚ => rec μ d pcₚ ls (v :: st) σ k pa cells slots))
    | _ => none
  | .dup => match st with
    | x :: st => match Nat.beq x.category 1 with
      | true => rn (pc + 1) (fun pcₚ => rec μ d pcₚ ls (x :: x :: st) σ k pa cells slots)
      | false => none
    | _ => none
  | .dup_x1 => match st with
    | x :: y :: st => match Nat.beq x.category 1 && Nat.beq y.category 1 with
      | true => rn (pc + 1) (fun pcₚ => rec μ d pcₚ ls (x :: y :: x :: st) σ k pa cells slots)
      | false => none
    | _ => none
  | .dup2 => match st with
    | x :: st => match Nat.beq x.category 1 with
      | false => rn (pc + 1) (fun pcₚ => rec μ d pcₚ ls (x :: x :: st) σ k pa cells slots)
      | true => match st with
        | y :: st => match Nat.beq y.category 1 with
          | true => rn (pc + 1) (fun pcₚ => rec μ d pcₚ ls (x :: y :: x :: y :: st) σ k pa cells slots)
          | false => none
        | _ => none
    | _ => none
  | .pop => match st with
    | x :: st => match Nat.beq x.category 1 with
      | true => rn (pc + 1) (fun pcₚ => rec μ d pcₚ ls st σ k pa cells slots)
      | false => none
    | _ => none
  | .goto off => rjmp pc off (fun pcₚ => rec μ d pcₚ ls st σ k pa cells slots)
  | .ifCond c off => match st with
    | x :: st => rjmp pc off (fun t => rbr (rcond c) x (.int 0) pa (fun pa => rec μ d t ls st σ k pa cells slots) (fun pa => rn (pc + 3) (fun pcₚ => rec μ d pcₚ ls st σ k pa cells slots)))
    | _ => none
  | .if_icmp c off => match st with
    | y :: x :: st => rjmp pc off (fun t => rbr (rcond c) x y pa (fun pa => rec μ d t ls st σ k pa cells slots) (fun pa => rn (pc + 3) (fun pcₚ => rec μ d pcₚ ls st σ k pa cells slots)))
    | _ => none
  | .ifnull off => match st with
    | .null :: st => rjmp pc off (fun pcₚ => rec μ d pcₚ ls st σ k pa cells slots)
    | .ref _ :: st => rn (pc + 3) (fun pcₚ => rec μ d pcₚ ls st σ k pa cells slots)
    | _ => none
  | .ifnonnull off => match st with
    | .ref _ :: st => rjmp pc off (fun pcₚ => rec μ d pcₚ ls st σ k pa cells slots)
    | .null :: st => rn (pc + 3) (fun pcₚ => rec μ d pcₚ ls st σ k pa cells slots)
    | _ => none
  | .tableswitch dflt lo hi offs => match st with
    | v :: st => rswitch pc dflt lo hi offs v pa (fun pa pcₚ => rec μ d pcₚ ls st σ k pa cells slots)
    | _ => none
  | .lneg => match st with
    | .long x :: st => rcl (-x) (fun v => rn (pc + 1) (fun pcₚ => rec μ d pcₚ ls (.long v :: st) σ k pa cells slots))
    | _ => none
  | .pop2 => match st with
    | .long _ :: st => rn (pc + 1) (fun pcₚ => rec μ d pcₚ ls st σ k pa cells slots)
    | _ => none
  | .if_acmp .ne off => match st with
    | .ref b :: .ref a :: st => rjmp pc off (fun t => match Nat.beq a b with
      | true => rn (pc + 3) (fun pcₚ => rec μ d pcₚ ls st σ k pa cells slots)
      | false => match Nat.ble P.2.2.2.2.2.2.1 b with
        | true => rec μ d t ls st σ k pa cells slots
        | false => none)
    | .ref _ :: .null :: st => rjmp pc off (fun pcₚ => rec μ d pcₚ ls st σ k pa cells slots)
    | _ => none
  | .lookupswitch dflt pairs => match st with
    | .int x :: st => rjmp pc (rpick x.toInt dflt pairs.toList) (fun pcₚ => rec μ d pcₚ ls st σ k pa cells slots)
    | _ => none
  | .getfield _ => match st with
    | o :: st => rget σ o act.2.1 act.2.2.1 (fun v => rn (pc + 3) (fun pcₚ => rec μ d pcₚ ls (v :: st) σ k pa cells slots))
    | _ => none
  | .putfield _ => match st with
    | v :: o :: st => match act.2.2.2 with
      | .ref tag => match Nat.blt tag 8 || (Nat.blt tag 16 && P.2.2.2.1 μ) with
        | true => rput P.2.2.2.2.2.2.1 σ o v act.2.1 act.2.2.1 (tag % 8) (fun σ => rn (pc + 3) (fun pcₚ => rec μ d pcₚ ls st σ k pa cells slots))
        | false => none
      | _ => none
    | _ => none
  | .getstatic _ => rn (pc + 3) (fun pcₚ => rec μ d pcₚ ls (.ref act.2.1 :: st) σ k pa cells slots)
  | .iaload => match st with
    | i :: o :: st => rald 1 σ o i (fun v => match risI v with
      | true => rconc v pa (fun v pa => rn (pc + 1) (fun pcₚ => rec μ d pcₚ ls (v :: st) σ k pa cells slots))
      | false => none)
    | _ => none
  | .baload => match st with
    | i :: o :: st => match rkz σ o with
      | false => rald 0 σ o i (fun v => match risI v with
        | true => rn (pc + 1) (fun pcₚ => rec μ d pcₚ ls (v :: st) σ k pa cells slots)
        | false => none)
      | true => rald 3 σ o i (fun v => match rbool v with
        | true => rn (pc + 1) (fun pcₚ => rec μ d pcₚ ls (v :: st) σ k pa cells slots)
        | false => none)
    | _ => none
  | .laload => match st with
    | i :: o :: st => rald 2 σ o i (fun v => match risL v with
      | true => rn (pc + 1) (fun pcₚ => rec μ d pcₚ ls (v :: st) σ k pa cells slots)
      | false => none)
    | _ => none
  | .aaload => match st with
    | i :: o :: st => ralq σ o i (fun v => rn (pc + 1) (fun pcₚ => rec μ d pcₚ ls (v :: st) σ k pa cells slots))
    | _ => none
  | .iastore => match st with
    | v :: i :: o :: st => rast 1 0 P.2.2.2.2.2.2.1 σ o i v (fun σ => rn (pc + 1) (fun pcₚ => rec μ d pcₚ ls st σ k pa cells slots))
    | _ => none
  | .lastore => match st with
    | v :: i :: o :: st => rast 2 2 P.2.2.2.2.2.2.1 σ o i v (fun σ => rn (pc + 1) (fun pcₚ => rec μ d pcₚ ls st σ k pa cells slots))
    | _ => none
  | .bastore => match st with
    | v :: i :: o :: st => match rkz σ o with
      | false => runi 1 v k (fun v k => rast 0 0 P.2.2.2.2.2.2.1 σ o i v (fun σ => rn (pc + 1) (fun pcₚ => rec μ d pcₚ ls st σ k pa cells slots)))
      | true => rast 3 1 P.2.2.2.2.2.2.1 σ o i v (fun σ => rn (pc + 1) (fun pcₚ => rec μ d pcₚ ls st σ k pa cells slots))
    | _ => none
  | .aastore => match st with
    | v :: i :: o :: st => rasq P.2.2.2.2.2.1 P.2.2.2.2.2.2.1 σ o i v (fun σ => rn (pc + 1) (fun pcₚ => rec μ d pcₚ ls st σ k pa cells slots))
    | _ => none
  | .arraylength => match st with
    | .ref a :: st => match rat σ a with
      | some (.inr q) => match Nat.ble q.2.1 1000000 && Nat.blt q.1 8 with
        | true => rn (pc + 1) (fun pcₚ => rec μ d pcₚ ls (.int (Int32.ofNat q.2.1) :: st) σ k pa cells slots)
        | false => none
      | _ => none
    | _ => none
  | .newarray ty => match st with
    | n :: st => match ty with
      | .byte => rnewa 0 σ n (fun v σ x => rn (pc + 2) (fun pcₚ => rec μ d pcₚ ls (v :: st) σ k pa (cells + 1) (slots + x)))
      | .int => rnewa 1 σ n (fun v σ x => rn (pc + 2) (fun pcₚ => rec μ d pcₚ ls (v :: st) σ k pa (cells + 1) (slots + x)))
      | .long => rnewa 2 σ n (fun v σ x => rn (pc + 2) (fun pcₚ => rec μ d pcₚ ls (v :: st) σ k pa (cells + 1) (slots + x)))
      | .boolean => rnewa 3 σ n (fun v σ x => rn (pc + 2) (fun pcₚ => rec μ d pcₚ ls (v :: st) σ k pa (cells + 1) (slots + x)))
      | _ => none
    | _ => none
  | .anewarray _ => match st with
    | n :: st => match Nat.ble 4 act.2.1 && Nat.blt act.2.1 7 with
      | true => rnewa act.2.1 σ n (fun v σ x => rn (pc + 3) (fun pcₚ => rec μ d pcₚ ls (v :: st) σ k pa (cells + 1) (slots + x)))
      | false => none
    | _ => none
  | .multianewarray _ _ => match st with
    | .int b :: .int a :: st => match !(decide (b < 0)) && decide (a = 3) with
      | true => rn b.toNatClampNeg (fun x => match Nat.ble x 1000000 with
        | true => rn σ.length (fun n => rn (pc + 4) (fun pcₚ => rec μ d pcₚ ls (.ref n :: st) (σ ++ [.inr (7, 3, .null, [(0, .ref (n + 1)), (1, .ref (n + 2)), (2, .ref (n + 3))]), .inr (1, x, .int 0, []), .inr (1, x, .int 0, []), .inr (1, x, .int 0, [])]) k pa (cells + 4) (slots + (3 + 3 * x))))
        | false => none)
      | false => none
    | _ => none
  | .new _ => rn σ.length (fun a => rn (pc + 3) (fun pcₚ => rec μ d pcₚ ls (.ref a :: st) (σ ++ [.inl (act.2.1, P.2.2.2.2.1 act.2.1)]) k pa (cells + 1) (slots + act.2.2.1)))
  | .invokevirtual _ => match Nat.beq act.1 20 || Nat.beq act.1 21 with
    | true => rinv P.2.1 P.2.2.1 P.2.2.2.2.2.2.2 rec μ d pc ls st σ k pa cells slots act
    | false => none
  | .invokespecial _ => match act.1 with
    | 26 => match st with
      | .ref _ :: st => match Nat.ble (rwords st) 8 with
        | true => rn (pc + 3) (fun pcₚ => rec μ d pcₚ ls st σ k pa cells slots)
        | false => none
      | _ => none
    | _ => match Nat.beq act.1 22 || Nat.beq act.1 23 with
      | true => rinv P.2.1 P.2.2.1 P.2.2.2.2.2.2.2 rec μ d pc ls st σ k pa cells slots act
      | false => none
  | .invokestatic _ => match act.1 with
    | 27 => match st with
      | n :: dp :: a :: sp :: a0 :: st => match Nat.ble (rwords st) 8 with
        | true => rcopy P.2.2.2.2.2.2.1 σ n dp a sp a0 (fun σ => rn (pc + 3) (fun pcₚ => rec μ d pcₚ ls st σ k pa cells slots))
        | false => none
      | _ => none
    | 28 => match st with
      | v :: a :: st => match Nat.ble (rwords st) 8 && Nat.ble 1 d with
        | true => rfill P.2.2.2.2.2.2.1 σ v a (fun σ => rn (pc + 3) (fun pcₚ => rec μ d pcₚ ls st σ k pa cells slots))
        | false => none
      | _ => none
    | 29 => match st with
      | y :: x :: st => match Nat.ble (rwords st) 8 with
        | true => rbr 2 x y pa (fun pa => rn (pc + 3) (fun pcₚ => rec μ d pcₚ ls (y :: st) σ k pa cells slots)) (fun pa => rn (pc + 3) (fun pcₚ => rec μ d pcₚ ls (x :: st) σ k pa cells slots))
        | false => none
      | _ => none
    | 30 => match st with
      | y :: x :: st => match Nat.ble (rwords st) 8 with
        | true => rbr 4 x y pa (fun pa => rn (pc + 3) (fun pcₚ => rec μ d pcₚ ls (y :: st) σ k pa cells slots)) (fun pa => rn (pc + 3) (fun pcₚ => rec μ d pcₚ ls (x :: st) σ k pa cells slots))
        | false => none
      | _ => none
    | _ => match Nat.beq act.1 24 || Nat.beq act.1 25 with
      | true => rinv P.2.1 P.2.2.1 P.2.2.2.2.2.2.2 rec μ d pc ls st σ k pa cells slots act
      | false => none
  | .ireturn => match st with
    | [v] => match risI v with
      | true => some ([], some v, σ, k, pa, cells, slots)
      | false => none
    | _ => none
  | .lreturn => match st with
    | [v] => match risL v with
      | true => some ([], some v, σ, k, pa, cells, slots)
      | false => none
    | _ => none
  | .areturn => match st with
    | [v] => match risR v with
      | true => some ([], some v, σ, k, pa, cells, slots)
      | false => none
    | _ => none
  | .return_ => match st with
    | [] => some ([], none, σ, k, pa, cells, slots)
    | _ => none
  | _ => none
noncomputable def rstep (P : rP) (rec : rF) : rF := fun μ d pc ls st σ k pa cells slots =>
  match P.1 μ pc with
  | none => none
  | some f => rinstr P rec μ d pc ls st σ k pa cells slots f.1 f.2.1 f.2.2
noncomputable def rrun (P : rP) (n : Nat) : rF := Nat.rec (fun _ _ _ _ _ _ _ _ _ _ => none) (fun _ rec => rstep P rec) n
