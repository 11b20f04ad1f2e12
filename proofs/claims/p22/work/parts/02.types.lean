/-! A RUN OF THE LISTING OVER NUMBERS, computed in the kernel: values (a number that is known: int, long; a number that is only named: float k stands for the int named k, double k for the long named k; ref k: the k-th cell of the run's heap), cells, a step, a run. Its soundness stands in the next part. -/
abbrev rA : Type := Nat × Nat × Nat × Value
abbrev rI : Type := Instr × Nat × rA
abbrev rO : Type := List (Nat × Value)
abbrev rC : Type := (Nat × List Value) ⊕ (Nat × Nat × Value × rO)
abbrev rS : Type := List rC
abbrev rK : Type := Nat × Nat × Value × Value × Nat
abbrev rT : Type := Option Value × rS × Nat × List Nat × Nat × Nat
abbrev rR : Type := List rK × rT
abbrev rF : Type := Nat → Nat → Nat → rO → List Value → rS → Nat → List Nat → Nat → Nat → Option rR
abbrev rV : Type := (Nat → Int32) × (Nat → Int64)
/-- words that a warmer state keeps by laws of their own -/
def rnk : Jvm.Cond → Bool
  | .fieldLinkNest _ _ _ _ _ _ => true
  | .methodLinkNest _ _ _ _ => true
  | .arrayOver (.object _) => true
  | _ => false
/-- the tables of the claim, by number -/
abbrev rE : Type := (Nat → MethodName) × (Nat → ByteArray) × (Nat → Option FieldType) × (Nat → List (Nat × rA)) × List vw_C × List Jvm.Cond × (Nat → FieldType) × (Nat → String × String × String) × Nat × List Jvm.Cond
def rinp (pool : List (Nat × rA)) (x : Nat) (act : rA) : Bool := pool.any (fun q => Nat.beq q.1 x && decide (q.2 = act))
theorem rinp_mem {pool : List (Nat × rA)} {x : Nat} {act : rA} (h : rinp pool x act = true) : (x, act) ∈ pool := by
  obtain ⟨q, hq, h2⟩ := List.any_eq_true.mp h
  simp only [Bool.and_eq_true, decide_eq_true_eq] at h2
  have h1 := Nat.eq_of_beq_eq_true h2.1
  rw [← h1, ← h2.2]
  exact hq
def rlen : Instr → Nat
  | .bipush _ => 2
  | .sipush _ => 3
  | .ldc _ => 2
  | .ldc_w _ => 3
  | .ldc2_w _ => 3
  | .iload _ => 2
  | .lload _ => 2
  | .aload _ => 2
  | .istore _ => 2
  | .lstore _ => 2
  | .astore _ => 2
  | .goto _ => 3
  | .ifCond _ _ => 3
  | .if_icmp _ _ => 3
  | .ifnull _ => 3
  | .ifnonnull _ => 3
  | .getfield _ => 3
  | .putfield _ => 3
  | .getstatic _ => 3
  | .invokevirtual _ => 3
  | .invokespecial _ => 3
  | .invokestatic _ => 3
  | .new _ => 3
  | .anewarray _ => 3
  | .newarray _ => 2
  | _ => 1
def rchk (pool : List (Nat × rA)) (ml : Nat) (i : Instr) (len : Nat) (act : rA) : Bool :=
  match i with
  | .iinc n _ => Nat.blt n ml && (Nat.beq len 3 || Nat.beq len 6)
  | .tableswitch _ _ _ _ => true
  | .istore n => Nat.blt n ml && Nat.beq len 2
  | .istore_n n => Nat.blt n ml && Nat.beq len 1
  | .astore n => Nat.blt n ml && Nat.beq len 2
  | .astore_n n => Nat.blt n ml && Nat.beq len 1
  | .lstore n => Nat.blt (n + 1) ml && Nat.beq len 2
  | .lstore_n n => Nat.blt (n + 1) ml && Nat.beq len 1
  | .ldc x => rinp pool x act && (Nat.beq len 2 && Nat.beq act.1 10)
  | .ldc_w x => rinp pool x act && (Nat.beq len 3 && Nat.beq act.1 10)
  | .ldc2_w x => rinp pool x act && (Nat.beq len 3 && Nat.beq act.1 11)
  | .getfield x => rinp pool x act && (Nat.beq len 3 && (Nat.beq act.1 0 || Nat.beq act.1 1))
  | .putfield x => rinp pool x act && (Nat.beq len 3 && (Nat.beq act.1 0 || Nat.beq act.1 1))
  | .getstatic x => rinp pool x act && (Nat.beq len 3 && (Nat.beq act.1 14 || Nat.beq act.1 15))
  | .invokevirtual x => rinp pool x act && Nat.beq len 3
  | .invokespecial x => rinp pool x act && Nat.beq len 3
  | .invokestatic x => rinp pool x act && Nat.beq len 3
  | .new x => rinp pool x act && (Nat.beq len 3 && Nat.beq act.1 12)
  | .multianewarray x n => rinp pool x act && (Nat.beq len 4 && (Nat.beq act.1 16 && Nat.beq n 2))
  | .anewarray x => rinp pool x act && (Nat.beq len 3 && Nat.beq act.1 13)
  | i => Nat.beq len (rlen i)
