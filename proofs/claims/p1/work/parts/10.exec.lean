/-! the executor: values, numbers, what a run finds out -/
/-- a number is computed before it goes on -/
noncomputable def rn {α : Type} (n : Nat) (k : Nat → α) : α := Nat.rec (k 0) (fun m _ => k (Nat.succ m)) n
theorem rn_eq {α : Type} (n : Nat) (k : Nat → α) : rn n k = k n := by cases n <;> rfl
noncomputable def rci {α : Type} (v : Int32) (k : Int32 → α) : α := rn v.toBitVec.toNat (fun n => k (Int32.ofNat n))
noncomputable def rcl {α : Type} (v : Int64) (k : Int64 → α) : α := rn v.toBitVec.toNat (fun n => k (Int64.ofNat n))
theorem rci_eq {α : Type} (v : Int32) (k : Int32 → α) : rci v k = k v := by
  unfold rci
  rw [rn_eq]
  congr 1
  apply Int32.toBitVec_inj.mp
  simp [Int32.ofNat]
theorem rcl_eq {α : Type} (v : Int64) (k : Int64 → α) : rcl v k = k v := by
  unfold rcl
  rw [rn_eq]
  congr 1
  apply Int64.toBitVec_inj.mp
  simp [Int64.ofNat]
/-- what a value stands for, where the names stand for ν and the cells lie at ρ -/
def rg (ν : rV) (ρ : Nat → Nat) : Value → Value
  | .float k => .int (ν.1 k.toNat)
  | .double k => .long (ν.2 k.toNat)
  | .ref a => .ref (ρ a)
  | .int v => .int v
  | .long v => .long v
  | .null => .null
  | .retAddr p => .retAddr p
def ri (ν : rV) : Value → Int32
  | .int v => v
  | .float k => ν.1 k.toNat
  | _ => 0
def rl (ν : rV) : Value → Int64
  | .long v => v
  | .double k => ν.2 k.toNat
  | _ => 0
def risI : Value → Bool
  | .int _ => true
  | .float _ => true
  | _ => false
def risL : Value → Bool
  | .long _ => true
  | .double _ => true
  | _ => false
def risR : Value → Bool
  | .ref _ => true
  | .null => true
  | _ => false
theorem rg_i {ν : rV} {ρ : Nat → Nat} {v : Value} (h : risI v = true) : rg ν ρ v = .int (ri ν v) := by cases v <;> first | rfl | cases h
theorem rg_l {ν : rV} {ρ : Nat → Nat} {v : Value} (h : risL v = true) : rg ν ρ v = .long (rl ν v) := by cases v <;> first | rfl | cases h
theorem rg_cat (ν : rV) (ρ : Nat → Nat) (v : Value) : (rg ν ρ v).category = v.category := by cases v <;> rfl
def rop (o : Nat) (x y : Int32) : Int32 :=
  match o with
  | 0 => x + y
  | 1 => x - y
  | 2 => x * y
  | 3 => x &&& y
  | 4 => x ||| y
  | 5 => x ^^^ y
  | 6 => x <<< (y &&& 31)
  | 7 => x >>> (y &&& 31)
  | 8 => (x.toUInt32 >>> (y.toUInt32 &&& Int32.toUInt32 31)).toInt32
  | 9 => x / y
  | _ => x - x / y * y
def ruop (o : Nat) (x : Int32) : Int32 :=
  match o with
  | 0 => -x
  | _ => x.toInt8.toInt32
def rlop (o : Nat) (x y : Int64) : Int64 :=
  match o with
  | 0 => x + y
  | 1 => x - y
  | 2 => x * y
  | 3 => x &&& y
  | 4 => x ||| y
  | _ => x ^^^ y
def rsop (o : Nat) (x : Int64) (y : Int32) : Int64 :=
  match o with
  | 0 => x <<< (y.toInt64 &&& 63)
  | 1 => x >>> (y.toInt64 &&& 63)
  | _ => (x.toUInt64 >>> (y.toInt64.toUInt64 &&& Int64.toUInt64 63)).toInt64
def rcmp (o : Nat) (x y : Int32) : Bool :=
  match o with
  | 0 => decide (x = y)
  | 1 => !(decide (x = y))
  | 2 => decide (x < y)
  | 3 => decide (y ≤ x)
  | 4 => decide (y < x)
  | _ => decide (x ≤ y)
/-- what the run found out, or named, on its way -/
def rhold (ν : rV) (q : rK) : Prop :=
  match q.1 with
  | 0 => ν.1 (UInt32.ofNat q.2.2.2.2).toNat = rop q.2.1 (ri ν q.2.2.1) (ri ν q.2.2.2.1)
  | 1 => ν.2 (UInt64.ofNat q.2.2.2.2).toNat = rlop q.2.1 (rl ν q.2.2.1) (rl ν q.2.2.2.1)
  | 2 => ν.2 (UInt64.ofNat q.2.2.2.2).toNat = rsop q.2.1 (rl ν q.2.2.1) (ri ν q.2.2.2.1)
  | 3 => ν.2 (UInt64.ofNat q.2.2.2.2).toNat = (ri ν q.2.2.1).toInt64
  | 4 => ν.1 (UInt32.ofNat q.2.2.2.2).toNat = (rl ν q.2.2.1).toInt32
  | 5 => ν.1 (UInt32.ofNat q.2.2.2.2).toNat = lg_cmp (rl ν q.2.2.1) (rl ν q.2.2.2.1)
  | 6 => ν.1 (UInt32.ofNat q.2.2.2.2).toNat = ruop q.2.1 (ri ν q.2.2.1)
  | 7 => rcmp q.2.1 (ri ν q.2.2.1) (ri ν q.2.2.2.1) = Nat.beq q.2.2.2.2 1
  | 8 => ri ν q.2.2.1 = ri ν q.2.2.2.1
  | _ => (ri ν q.2.2.1).toInt < (q.2.1 : Int) - 2147483648 ∨ (q.2.2.2.2 : Int) - 2147483648 < (ri ν q.2.2.1).toInt
def rholds (ν : rV) (cs : List rK) : Prop := ∀ q ∈ cs, rhold ν q
theorem rholds_nil (ν : rV) : rholds ν [] := fun _ h => by cases h
theorem rholds_cons {ν : rV} {q : rK} {cs : List rK} (h : rholds ν (q :: cs)) : rhold ν q ∧ rholds ν cs := ⟨h q List.mem_cons_self, fun x hx => h x (List.mem_cons_of_mem _ hx)⟩
theorem rholds_app {ν : rV} {a b : List rK} (h : rholds ν (a ++ b)) : rholds ν a ∧ rholds ν b := ⟨fun x hx => h x (List.mem_append_left _ hx), fun x hx => h x (List.mem_append_right _ hx)⟩
def remit (q : rK) (r : Option rR) : Option rR :=
  match r with
  | some z => some (q :: z.1, z.2)
  | none => none
def rbinS (o : Nat) (x y : Value) (k : Nat) (c : Value → Nat → Option rR) : Option rR :=
  match risI x && risI y with
  | true => remit (0, o, x, y, k) (c (.float (UInt32.ofNat k)) (k + 1))
  | false => none
noncomputable def rbin (o : Nat) (x y : Value) (k : Nat) (c : Value → Nat → Option rR) : Option rR :=
  match x with
  | .int a => match y with
    | .int b => rci (rop o a b) (fun v => c (.int v) k)
    | y => rbinS o (.int a) y k c
  | x => rbinS o x y k c
noncomputable def rdiv (o : Nat) (x y : Value) (k : Nat) (c : Value → Nat → Option rR) : Option rR :=
  match y with
  | .int b => match decide (b = 0) with
    | true => none
    | false => rbin o x (.int b) k c
  | _ => none
def runiS (o : Nat) (x : Value) (k : Nat) (c : Value → Nat → Option rR) : Option rR :=
  match risI x with
  | true => remit (6, o, x, x, k) (c (.float (UInt32.ofNat k)) (k + 1))
  | false => none
noncomputable def runi (o : Nat) (x : Value) (k : Nat) (c : Value → Nat → Option rR) : Option rR :=
  match x with
  | .int a => rci (ruop o a) (fun v => c (.int v) k)
  | x => runiS o x k c
def rlbinS (o : Nat) (x y : Value) (k : Nat) (c : Value → Nat → Option rR) : Option rR :=
  match risL x && risL y with
  | true => remit (1, o, x, y, k) (c (.double (UInt64.ofNat k)) (k + 1))
  | false => none
noncomputable def rlbin (o : Nat) (x y : Value) (k : Nat) (c : Value → Nat → Option rR) : Option rR :=
  match x with
  | .long a => match y with
    | .long b => rcl (rlop o a b) (fun v => c (.long v) k)
    | y => rlbinS o (.long a) y k c
  | x => rlbinS o x y k c
def rlshS (o : Nat) (x y : Value) (k : Nat) (c : Value → Nat → Option rR) : Option rR :=
  match risL x && risI y with
  | true => remit (2, o, x, y, k) (c (.double (UInt64.ofNat k)) (k + 1))
  | false => none
noncomputable def rlsh (o : Nat) (x y : Value) (k : Nat) (c : Value → Nat → Option rR) : Option rR :=
  match x with
  | .long a => match y with
    | .int b => rcl (rsop o a b) (fun v => c (.long v) k)
    | y => rlshS o (.long a) y k c
  | x => rlshS o x y k c
noncomputable def ri2l (x : Value) (k : Nat) (c : Value → Nat → Option rR) : Option rR :=
  match x with
  | .int a => rcl a.toInt64 (fun v => c (.long v) k)
  | .float j => remit (3, 0, .float j, .null, k) (c (.double (UInt64.ofNat k)) (k + 1))
  | _ => none
noncomputable def rl2i (x : Value) (k : Nat) (c : Value → Nat → Option rR) : Option rR :=
  match x with
  | .long a => rci a.toInt32 (fun v => c (.int v) k)
  | .double j => remit (4, 0, .double j, .null, k) (c (.float (UInt32.ofNat k)) (k + 1))
  | _ => none
def rlcmpS (x y : Value) (k : Nat) (c : Value → Nat → Option rR) : Option rR :=
  match risL x && risL y with
  | true => remit (5, 0, x, y, k) (c (.float (UInt32.ofNat k)) (k + 1))
  | false => none
noncomputable def rlcmp (x y : Value) (k : Nat) (c : Value → Nat → Option rR) : Option rR :=
  match x with
  | .long a => match y with
    | .long b => rci (lg_cmp a b) (fun v => c (.int v) k)
    | y => rlcmpS (.long a) y k c
  | x => rlcmpS x y k c
def rbrS (o : Nat) (x y : Value) (pa : List Nat) (ct cf : List Nat → Option rR) : Option rR :=
  match risI x && risI y with
  | false => none
  | true => match pa with
    | [] => none
    | z :: pa' => match Nat.beq z 1 with
      | true => remit (7, o, x, y, 1) (ct pa')
      | false => remit (7, o, x, y, 0) (cf pa')
def rbr (o : Nat) (x y : Value) (pa : List Nat) (ct cf : List Nat → Option rR) : Option rR :=
  match x with
  | .int a => match y with
    | .int b => match rcmp o a b with
      | true => ct pa
      | false => cf pa
    | y => rbrS o (.int a) y pa ct cf
  | x => rbrS o x y pa ct cf
noncomputable def rjmp (pc : Nat) (off : Int) (c : Nat → Option rR) : Option rR :=
  match (pc : Int) + off with
  | .ofNat t => rn t c
  | .negSucc _ => none
def rlook : rO → Nat → Option Value
  | [], _ => none
  | (j, v) :: l, i => match Nat.beq j i with
    | true => some v
    | false => rlook l i
def rset (ls : rO) (i : Nat) (v : Value) : rO := (i, v) :: ls.filter (fun q => !(q.1 == i) && !(q.1 + 1 == i && q.2.category == 2))
def rset2 (ls : rO) (i : Nat) (v : Value) : rO := (i, v) :: ls.filter (fun q => !(q.1 == i) && (!(q.1 == i + 1) && !(q.1 + 1 == i && q.2.category == 2)))
def rlk : rO → Value → Nat → Value
  | [], d, _ => d
  | (j, v) :: l, d, i => match Nat.beq j i with
    | true => v
    | false => rlk l d i
def rup : rO → Nat → Value → rO
  | [], i, w => [(i, w)]
  | (j, v) :: l, i, w => match Nat.beq j i with
    | true => (j, w) :: l
    | false => (j, v) :: rup l i w
def rat : rS → Nat → Option rC
  | [], _ => none
  | c :: l, n => match n with
    | 0 => some c
    | n + 1 => rat l n
theorem rat_eq : ∀ (σ : rS) (n : Nat), rat σ n = σ[n]?
  | [], n => by simp [rat]
  | c :: l, 0 => by simp [rat]
  | c :: l, n + 1 => by simp [rat, rat_eq l n]
theorem rlook_mem : ∀ {l : rO} {i : Nat} {v : Value}, rlook l i = some v → (i, v) ∈ l
  | [], i, v, h => by cases h
  | (j, w) :: l, i, v, h => by
    unfold rlook at h
    split at h
    · next hb =>
      have : j = i := Nat.eq_of_beq_eq_true hb
      subst this
      cases h
      exact List.mem_cons_self
    · exact List.mem_cons_of_mem _ (rlook_mem h)
theorem rlk_rup : ∀ (l : rO) (d w : Value) (i j : Nat), rlk (rup l i w) d j = if j = i then w else rlk l d j
  | [], d, w, i, j => by
    unfold rup rlk
    split
    · next h =>
      have h := Nat.eq_of_beq_eq_true h
      rw [if_pos h.symm]
    · next h =>
      have h := Nat.ne_of_beq_eq_false h
      rw [if_neg (fun q => h q.symm)]
      rfl
  | (a, v) :: l, d, w, i, j => by
    unfold rup
    split
    · next h =>
      have h := Nat.eq_of_beq_eq_true h
      subst h
      unfold rlk
      split
      · next h2 =>
        have h2 := Nat.eq_of_beq_eq_true h2
        rw [if_pos h2.symm]
      · next h2 =>
        have h2 := Nat.ne_of_beq_eq_false h2
        rw [if_neg (fun q => h2 q.symm)]
    · next h =>
      have h := Nat.ne_of_beq_eq_false h
      unfold rlk
      split
      · next h2 =>
        have h2 := Nat.eq_of_beq_eq_true h2
        subst h2
        rw [if_neg h]
      · exact rlk_rup l d w i j
