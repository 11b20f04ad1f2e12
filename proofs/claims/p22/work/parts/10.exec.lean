/-! the executor: values, numbers, what a run finds out -/
/-- a number is computed before it goes on -/
noncomputable def rn {α : Type} (n : Nat) (k : Nat → α) : α := Nat.rec (k 0) (fun m _ => k (Nat.succ m)) n
theorem rn_eq {α : Type} (n : Nat) (k : Nat → α) : rn n k = k n := by cases n <;> rfl
noncomputable def rci {α : Type} (v : Int32) (k : Int32 → α) : α := rn v.toBitVec.toNat (fun n => k (Int32.ofNat n))
noncomputable def rcl {α : Type} (v : Int64) (k : Int64 → α) : α := rn v.toBitVec.toNat (fun n => k (Int64.ofNat n))
theorem rci_eq {α : Type} (v : Int32) (k : Int32 → α) : rci v k = k v := by
  unfold rci
  rw [rn_eq]
  congr 1
  apply Int32.toBitVec_inj.mp
  simp [Int32.ofNat]
theorem rcl_eq {α : Type} (v : Int64) (k : Int64 → α) : rcl v k = k v := by
  unfold rcl
  rw [rn_eq]
  congr 1
  apply Int64.toBitVec_inj.mp
  simp [Int64.ofNat]
/-- what a value stands for, where the names stand for ν and the cells lie at ρ -/
def rg (ν : rV) (ρ : Nat → Nat) : Value → Value
  | .float k => .int (ν.1 k.toNat)
  | .double k => .long (ν.2 k.toNat)
  | .ref a => .ref (ρ a)
  | .int v => .int v
  | .long v => .long v
  | .null => .null
  | .retAddr p => .retAddr p
def ri (ν : rV) : Value → Int32
  | .int v => v
  | .float k => ν.1 k.toNat
  | _ => 0
def rl (ν : rV) : Value → Int64
  | .long v => v
  | .double k => ν.2 k.toNat
  | _ => 0
def risI : Value → Bool
  | .int _ => true
  | .float _ => true
  | _ => false
def risL : Value → Bool
  | .long _ => true
  | .double _ => true
  | _ => false
def risR : Value → Bool
  | .ref _ => true
  | .null => true
  | _ => false
theorem rg_i {ν : rV} {ρ : Nat → Nat} {v : Value} (h : risI v = true) : rg ν ρ v = .int (ri ν v) := by cases v <;> first | rfl | cases h
theorem rg_l {ν : rV} {ρ : Nat → Nat} {v : Value} (h : risL v = true) : rg ν ρ v = .long (rl ν v) := by cases v <;> first | rfl | cases h
theorem rg_cat (ν : rV) (ρ : Nat → Nat) (v : Value) : (rg ν ρ v).category = v.category := by cases v <;> rfl
def rop (o : Nat) (x y : Int32) : Int32 :=
  match o with
  | 0 => x + y
  | 1 => x - y
  | 2 => x * y
  | 3 => x &&& y
  | 4 => x ||| y
  | 5 => x ^^^ y
  | 6 => x <<< (y &&& 31)
  | 7 => x >>> (y &&& 31)
  | 8 => (x.toUInt32 >>> (y.toUInt32 &&& Int32.toUInt32 31)).toInt32
  | 9 => x / y
  | _ => x - x / y * y
def ruop (o : Nat) (x : Int32) : Int32 :=
  match o with
  | 0 => -x
  | _ => x.toInt8.toInt32
def rlop (o : Nat) (x y : Int64) : Int64 :=
  match o with
  | 0 => x + y
  | 1 => x - y
  | 2 => x * y
  | 3 => x &&& y
  | 4 => x ||| y
  | _ => x ^^^ y
def rsop (o : Nat) (x : Int64) (y : Int32) : Int64 :=
  match o with
  | 0 => x <<< (y.toInt64 &&& 63)
  | 1 => x >>> (y.toInt64 &&& 63)
  | _ => (x.toUInt64 >>> (y.toInt64.toUInt64 &&& Int64.toUInt64 63)).toInt64
def rcmp (o : Nat) (x y : Int32) : Bool :=
  match o with
  | 0 => decide (x = y)
  | 1 => !(decide (x = y))
  | 2 => decide (x < y)
  | 3 => decide (y ≤ x)
  | 4 => decide (y < x)
  | _ => decide (x ≤ y)
/-- what the run found out, or named, on its way -/
def rhold (ν : rV) (q : rK) : Prop :=
  match q.1 with
  | 0 => ν.1 (UInt32.ofNat q.2.2.2.2).toNat = rop q.2.1 (ri ν q.2.2.1) (ri ν q.2.2.2.1)
  | 1 => ν.2 (UInt64.ofNat q.2.2.2.2).toNat = rlop q.2.1 (rl ν q.2.2.1) (rl ν q.2.2.2.1)
  | 2 => ν.2 (UInt64.ofNat q.2.2.2.2).toNat = rsop q.2.1 (rl ν q.2.2.1) (ri ν q.2.2.2.1)
  | 3 => ν.2 (UInt64.ofNat q.2.2.2.2).toNat = (ri ν q.2.2.1).toInt64
  | 4 => ν.1 (UInt32.ofNat q.2.2.2.2).toNat = (rl ν q.2.2.1).toInt32
  | 5 => ν.1 (UInt32.ofNat q.2.2.2.2).toNat = lg_cmp (rl ν q.2.2.1) (rl ν q.2.2.2.1)
  | 6 => ν.1 (UInt32.ofNat q.2.2.2.2).toNat = ruop q.2.1 (ri ν q.2.2.1)
  | 7 => rcmp q.2.1 (ri ν q.2.2.1) (ri ν q.2.2.2.1) = Nat.beq q.2.2.2.2 1
  | 8 => ri ν q.2.2.1 = ri ν q.2.2.2.1
  | _ => (ri ν q.2.2.1).toInt < (q.2.1 : Int) - 2147483648 ∨ (q.2.2.2.2 : Int) - 2147483648 < (ri ν q.2.2.1).toInt
def rholds (ν : rV) (cs : List rK) : Prop := ∀ q ∈ cs, rhold ν q
theorem rholds_nil (ν : rV) : rholds ν [] := fun _ h => by cases h
theorem rholds_cons {ν : rV} {q : rK} {cs : List rK} (h : rholds ν (q :: cs)) : rhold ν q ∧ rholds ν cs := ⟨h q List.mem_cons_self, fun x hx => h x (List.mem_cons_of_mem _ hx)⟩
theorem rholds_app {ν : rV} {a b : List rK} (h : rholds ν (a ++ b)) : rholds ν a ∧ rholds ν b := ⟨fun x hx => h x (List.mem_append_left _ hx), fun x hx => h x (List.mem_append_right _ hx)⟩
def remit (q : rK) (r : Option rR) : Option rR :=
  match r with
  | some z => some (q :: z.1, z.2)
  | none => none
def rbinS (o : Nat) (x y : Value) (k : Nat) (c : Value → Nat → Option rR) : Option rR :=
  match risI x && risI y with
  | true => remit (0, o, x, y, k) (c (.float (UInt32.ofNat k)) (k + 1))
  | false => none
noncomputable def rbin (o : Nat) (x y : Value) (k : Nat) (c : Value → Nat → Option rR) : Option rR :=
  match x with
  | .int a => match y with
    | .int b => rci (rop o a b) (fun v => c (.int v) k)
    | y => rbinS o (.int a) y k c
  | x => rbinS o x y k c
noncomputable def rdiv (o : Nat) (x y : Value) (k : Nat) (c : Value → Nat → Option rR) : Option rR :=
  match y with
  | .int b => match decide (b = 0) with
    | true => none
    | false => rbin o x (.int b) k c
  | _ => none
def runiS (o : Nat) (x : Value) (k : Nat) (c : Value → Nat → Option rR) : Option rR :=
  match risI x with
  | true => remit (6, o, x, x, k) (c (.float (UInt32.ofNat k)) (k + 1))
  | false => none
noncomputable def runi (o : Nat) (x : Value) (k : Nat) (c : Value → Nat → Option rR) : Option rR :=
  match x with
  | .int a => rci (ruop o a) (fun v => c (.int v) k)
  | x => runiS o x k c
def rlbinS (o : Nat) (x y : Value) (k : Nat) (c : Value → Nat → Option rR) : Option rR :=
  match risL x && risL y with
  | true => remit (1, o, x, y, k) (c (.double (UInt64.ofNat k)) (k + 1))
  | false => none
noncomputable def rlbin (o : Nat) (x y : Value) (k : Nat) (c : Value → Nat → Option rR) : Option rR :=
  match x with
  | .long a => match y with
    | .long b => rcl (rlop o a b) (fun v => c (.long v) k)
    | y => rlbinS o (.long a) y k c
  | x => rlbinS o x y k c
def rlshS (o : Nat) (x y : Value) (k : Nat) (c : Value → Nat → Option rR) : Option rR :=
  match risL x && risI y with
  | true => remit (2, o, x, y, k) (c (.double (UInt64.ofNat k)) (k + 1))
  | false => none
noncomputable def rlsh (o : Nat) (x y : Value) (k : Nat) (c : Value → Nat → Option rR) : Option rR :=
  match x with
  | .long a => match y with
    | .int b => rcl (rsop o a b) (fun v => c (.long v) k)
    | y => rlshS o (.long a) y k c
  | x => rlshS o x y k c
noncomputable def ri2l (x : Value) (k : Nat) (c : Value → Nat → Option rR) : Option rR :=
  match x with
  | .int a => rcl a.toInt64 (fun v => c (.long v) k)
  | .float j => remit (3, 0, .float j, .null, k) (c (.double (UInt64.ofNat k)) (k + 1))
  | _ => none
noncomputable def rl2i (x : Value) (k : Nat) (c : Value → Nat → Option rR) : Option rR :=
  match x with
  | .long a => rci a.toInt32 (fun v => c (.int v) k)
  | .double j => remit (4, 0, .double j, .null, k) (c (.float (UInt32.ofNat k)) (k + 1))
  | _ => none
def rlcmpS (x y : Value) (k : Nat) (c : Value → Nat → Option rR) : Option rR :=
  match risL x && risL y with
  | true => remit (5, 0, x, y, k) (c (.float (UInt32.ofNat k)) (k + 1))
  | false => none
noncomputable def rlcmp (x y : Value) (k : Nat) (c : Value → Nat → Option rR) : Option rR :=
  match x with
  | .long a => match y with
    | .long b => rci (lg_cmp a b) (fun v => c (.int v) k)
    | y => rlcmpS (.long a) y k c
  | x => rlcmpS x y k c
def rbrS (o : Nat) (x y : Value) (pa : List Nat) (ct cf : List Nat → Option rR) : Option rR :=
  match risI x && risI y with
  | false => none
  | true => match pa with
    | [] => none
    | z :: pa' => match Nat.beq z 1 with
      | true => remit (7, o, x, y, 1) (ct pa')
      | false => remit (7, o, x, y, 0) (cf pa')
def rbr (o : Nat) (x y : Value) (pa : List Nat) (ct cf : List Nat → Option rR) : Option rR :=
  match x with
  | .int a => match y with
    | .int b => match rcmp o a b with
      | true => ct pa
      | false => cf pa
    | y => rbrS o (.int a) y pa ct cf
  | x => rbrS o x y pa ct cf
noncomputable def rjmp (pc : Nat) (off : Int) (c : Nat → Option rR) : Option rR :=
  match (pc : Int) + off with
  | .ofNat t => rn t c
  | .negSucc _ => none
noncomputable def rlook (l : rO) (i : Nat) : Option Value := @List.rec (Nat × Value) (fun _ => Option Value) none (fun q _ ih => @Bool.rec (fun _ => Option Value) ih (some q.2) (Nat.beq q.1 i)) l
noncomputable def rgt {α : Type} (l : List α) (n : Nat) : Option α := @List.rec α (fun _ => Nat → Option α) (fun _ => none) (fun c _ ih n => @Nat.rec (fun _ => Option α) (some c) (fun m _ => ih m) n) l n
theorem rgt_eq {α : Type} : ∀ (l : List α) (n : Nat), rgt l n = l[n]?
  | [], n => by
    show none = _
    simp
  | c :: l, 0 => by
    show some c = _
    simp
  | c :: l, n + 1 => by
    show rgt l n = _
    rw [rgt_eq l n]
    simp
noncomputable def rstl {α : Type} (l : List α) (n : Nat) (c : α) : List α := @List.rec α (fun _ => Nat → List α) (fun _ => []) (fun x tl ih n => @Nat.rec (fun _ => List α) (c :: tl) (fun m _ => x :: ih m) n) l n
theorem rstl_eq {α : Type} : ∀ (l : List α) (n : Nat) (c : α), rstl l n c = l.set n c
  | [], n, c => by
    show [] = _
    simp
  | x :: l, 0, c => rfl
  | x :: l, n + 1, c => by
    show x :: rstl l n c = _
    rw [rstl_eq l n c]
    rfl
noncomputable def rkp (q : Nat × Value) (i : Nat) : Bool := @Bool.rec (fun _ => Bool) (@Bool.rec (fun _ => Bool) true (Bool.not (Nat.beq q.2.category 2)) (Nat.beq (q.1 + 1) i)) false (Nat.beq q.1 i)
noncomputable def rkp2 (q : Nat × Value) (i : Nat) : Bool := @Bool.rec (fun _ => Bool) (@Bool.rec (fun _ => Bool) (@Bool.rec (fun _ => Bool) true (Bool.not (Nat.beq q.2.category 2)) (Nat.beq (q.1 + 1) i)) false (Nat.beq q.1 (i + 1))) false (Nat.beq q.1 i)
theorem rnbq (a b : Nat) : (a == b) = Nat.beq a b := by
  cases h : Nat.beq a b with
  | true =>
    rw [Nat.eq_of_beq_eq_true h]
    simp
  | false => simp [Nat.ne_of_beq_eq_false h]
theorem rkp_eq (q : Nat × Value) (i : Nat) : rkp q i = (!(q.1 == i) && !(q.1 + 1 == i && q.2.category == 2)) := by
  unfold rkp
  simp only [rnbq]
  cases Nat.beq q.1 i <;> cases Nat.beq (q.1 + 1) i <;> cases Nat.beq q.2.category 2 <;> rfl
theorem rkp2_eq (q : Nat × Value) (i : Nat) : rkp2 q i = (!(q.1 == i) && (!(q.1 == i + 1) && !(q.1 + 1 == i && q.2.category == 2))) := by
  unfold rkp2
  simp only [rnbq]
  cases Nat.beq q.1 i <;> cases Nat.beq q.1 (i + 1) <;> cases Nat.beq (q.1 + 1) i <;> cases Nat.beq q.2.category 2 <;> rfl
noncomputable def rdrp (f : Nat × Value → Bool) (l : rO) : rO := @List.rec (Nat × Value) (fun _ => rO) [] (fun q _ ih => @Bool.rec (fun _ => rO) ih (q :: ih) (f q)) l
theorem rdrp_eq {f g : Nat × Value → Bool} (h : ∀ q, f q = g q) : ∀ l : rO, rdrp f l = l.filter g
  | [] => rfl
  | q :: l => by
    show @Bool.rec (fun _ => rO) (rdrp f l) (q :: rdrp f l) (f q) = _
    rw [rdrp_eq h l, List.filter_cons, h q]
    cases g q <;> rfl
noncomputable def rset (ls : rO) (i : Nat) (v : Value) : rO := (i, v) :: rdrp (fun q => rkp q i) ls
noncomputable def rset2 (ls : rO) (i : Nat) (v : Value) : rO := (i, v) :: rdrp (fun q => rkp2 q i) ls
theorem rset_eq (ls : rO) (i : Nat) (v : Value) : rset ls i v = (i, v) :: ls.filter (fun q => !(q.1 == i) && !(q.1 + 1 == i && q.2.category == 2)) := congrArg _ (rdrp_eq (fun q => rkp_eq q i) ls)
theorem rset2_eq (ls : rO) (i : Nat) (v : Value) : rset2 ls i v = (i, v) :: ls.filter (fun q => !(q.1 == i) && (!(q.1 == i + 1) && !(q.1 + 1 == i && q.2.category == 2))) := congrArg _ (rdrp_eq (fun q => rkp2_eq q i) ls)
noncomputable def rlk (l : rO) (d : Value) (i : Nat) : Value := @List.rec (Nat × Value) (fun _ => Value) d (fun q _ ih => @Bool.rec (fun _ => Value) ih q.2 (Nat.beq q.1 i)) l
noncomputable def rup (l : rO) (i : Nat) (w : Value) : rO := @List.rec (Nat × Value) (fun _ => rO) [(i, w)] (fun q tl ih => @Bool.rec (fun _ => rO) (q :: ih) ((q.1, w) :: tl) (Nat.beq q.1 i)) l
noncomputable def rat (σ : rS) (n : Nat) : Option rC := rgt σ n
theorem rat_eq (σ : rS) (n : Nat) : rat σ n = σ[n]? := rgt_eq σ n
theorem rlook_mem : ∀ {l : rO} {i : Nat} {v : Value}, rlook l i = some v → (i, v) ∈ l
  | [], i, v, h => by cases h
  | (j, w) :: l, i, v, h => by
    have h : @Bool.rec (fun _ => Option Value) (rlook l i) (some w) (Nat.beq j i) = some v := h
    cases hb : Nat.beq j i with
    | true =>
      rw [hb] at h
      have : j = i := Nat.eq_of_beq_eq_true hb
      subst this
      cases h
      exact List.mem_cons_self
    | false =>
      rw [hb] at h
      exact List.mem_cons_of_mem _ (rlook_mem h)
theorem rlk_rup : ∀ (l : rO) (d w : Value) (i j : Nat), rlk (rup l i w) d j = if j = i then w else rlk l d j
  | [], d, w, i, j => by
    show @Bool.rec (fun _ => Value) d w (Nat.beq i j) = if j = i then w else d
    cases h : Nat.beq i j with
    | true => rw [if_pos (Nat.eq_of_beq_eq_true h).symm]
    | false => rw [if_neg (fun q => Nat.ne_of_beq_eq_false h q.symm)]
  | (a, v) :: l, d, w, i, j => by
    have e1 : rup ((a, v) :: l) i w = @Bool.rec (fun _ => rO) ((a, v) :: rup l i w) ((a, w) :: l) (Nat.beq a i) := rfl
    rw [e1]
    cases h : Nat.beq a i with
    | true =>
      have h := Nat.eq_of_beq_eq_true h
      subst h
      show @Bool.rec (fun _ => Value) (rlk l d j) w (Nat.beq a j) = if j = a then w else @Bool.rec (fun _ => Value) (rlk l d j) v (Nat.beq a j)
      cases h2 : Nat.beq a j with
      | true => rw [if_pos (Nat.eq_of_beq_eq_true h2).symm]
      | false => rw [if_neg (fun q => Nat.ne_of_beq_eq_false h2 q.symm)]
    | false =>
      have h := Nat.ne_of_beq_eq_false h
      show @Bool.rec (fun _ => Value) (rlk (rup l i w) d j) v (Nat.beq a j) = if j = i then w else @Bool.rec (fun _ => Value) (rlk l d j) v (Nat.beq a j)
      cases h2 : Nat.beq a j with
      | true =>
        have h2 := Nat.eq_of_beq_eq_true h2
        subst h2
        rw [if_neg h]
      | false => exact rlk_rup l d w i j
