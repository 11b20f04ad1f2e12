/-! the step once more, in small pieces -/
abbrev rJ : Type := rP → rF → Nat → Nat → Nat → rO → List Value → rS → Nat → List Nat → Nat → Nat → Nat → rA → Option rR
noncomputable def rx_iconst (n : Int) : rJ := fun P rec μ d pc ls st σ k pa cells slots len act => rci (Int32.ofInt n) (fun v => rn (pc + 1) (fun pc' => rec μ d pc' ls (.int v :: st) σ k pa cells slots))
noncomputable def rx_bipush (n : Int) : rJ := fun P rec μ d pc ls st σ k pa cells slots len act => rci (Int8.ofInt n).toInt32 (fun v => rn (pc + 2) (fun pc' => rec μ d pc' ls (.int v :: st) σ k pa cells slots))
noncomputable def rx_sipush (n : Int) : rJ := fun P rec μ d pc ls st σ k pa cells slots len act => rci (Int16.ofInt n).toInt32 (fun v => rn (pc + 3) (fun pc' => rec μ d pc' ls (.int v :: st) σ k pa cells slots))
noncomputable def rx_lconst (n : Fin 2) : rJ := fun P rec μ d pc ls st σ k pa cells slots len act => rcl (Int64.ofNat (n : Nat)) (fun v => rn (pc + 1) (fun pc' => rec μ d pc' ls (.long v :: st) σ k pa cells slots))
noncomputable def rx_aconst_null : rJ := fun P rec μ d pc ls st σ k pa cells slots len act => rn (pc + 1) (fun pc' => rec μ d pc' ls (.null :: st) σ k pa cells slots)
noncomputable def rx_ldc : rJ := fun P rec μ d pc ls st σ k pa cells slots len act => match act.2.2.2 with
    | .int v => rn (pc + 2) (fun pc' => rec μ d pc' ls (.int v :: st) σ k pa cells slots)
    | _ => none
noncomputable def rx_ldc_w : rJ := fun P rec μ d pc ls st σ k pa cells slots len act => match act.2.2.2 with
    | .int v => rn (pc + 3) (fun pc' => rec μ d pc' ls (.int v :: st) σ k pa cells slots)
    | _ => none
noncomputable def rx_ldc2_w : rJ := fun P rec μ d pc ls st σ k pa cells slots len act => match act.2.2.2 with
    | .long v => rn (pc + 3) (fun pc' => rec μ d pc' ls (.long v :: st) σ k pa cells slots)
    | _ => none
noncomputable def rx_iload (n : Nat) : rJ := fun P rec μ d pc ls st σ k pa cells slots len act => rload ls n risI (fun v => rn (pc + 2) (fun pc' => rec μ d pc' ls (v :: st) σ k pa cells slots))
noncomputable def rx_iload_n (n : Fin 4) : rJ := fun P rec μ d pc ls st σ k pa cells slots len act => rload ls n risI (fun v => rn (pc + 1) (fun pc' => rec μ d pc' ls (v :: st) σ k pa cells slots))
noncomputable def rx_lload (n : Nat) : rJ := fun P rec μ d pc ls st σ k pa cells slots len act => rload ls n risL (fun v => rn (pc + 2) (fun pc' => rec μ d pc' ls (v :: st) σ k pa cells slots))
noncomputable def rx_lload_n (n : Fin 4) : rJ := fun P rec μ d pc ls st σ k pa cells slots len act => rload ls n risL (fun v => rn (pc + 1) (fun pc' => rec μ d pc' ls (v :: st) σ k pa cells slots))
noncomputable def rx_aload (n : Nat) : rJ := fun P rec μ d pc ls st σ k pa cells slots len act => rload ls n (fun v => risR v && !(decide (v = .null))) (fun v => rn (pc + 2) (fun pc' => rec μ d pc' ls (v :: st) σ k pa cells slots))
noncomputable def rx_aload_n (n : Fin 4) : rJ := fun P rec μ d pc ls st σ k pa cells slots len act => rload ls n (fun v => risR v && !(decide (v = .null))) (fun v => rn (pc + 1) (fun pc' => rec μ d pc' ls (v :: st) σ k pa cells slots))
noncomputable def rx_istore (n : Nat) : rJ := fun P rec μ d pc ls st σ k pa cells slots len act => match st with
    | v :: st => match risI v with
      | true => rn (pc + 2) (fun pc' => rec μ d pc' (rset ls n v) st σ k pa cells slots)
      | false => none
    | _ => none
noncomputable def rx_istore_n (n : Fin 4) : rJ := fun P rec μ d pc ls st σ k pa cells slots len act => match st with
    | v :: st => match risI v with
      | true => rn (pc + 1) (fun pc' => rec μ d pc' (rset ls n v) st σ k pa cells slots)
      | false => none
    | _ => none
noncomputable def rx_lstore (n : Nat) : rJ := fun P rec μ d pc ls st σ k pa cells slots len act => match st with
    | v :: st => match risL v with
      | true => rn (pc + 2) (fun pc' => rec μ d pc' (rset2 ls n v) st σ k pa cells slots)
      | false => none
    | _ => none
noncomputable def rx_lstore_n (n : Fin 4) : rJ := fun P rec μ d pc ls st σ k pa cells slots len act => match st with
    | v :: st => match risL v with
      | true => rn (pc + 1) (fun pc' => rec μ d pc' (rset2 ls n v) st σ k pa cells slots)
      | false => none
    | _ => none
noncomputable def rx_astore (n : Nat) : rJ := fun P rec μ d pc ls st σ k pa cells slots len act => match st with
    | .ref a :: st => rn (pc + 2) (fun pc' => rec μ d pc' (rset ls n (.ref a)) st σ k pa cells slots)
    | _ => none
noncomputable def rx_astore_n (n : Fin 4) : rJ := fun P rec μ d pc ls st σ k pa cells slots len act => match st with
    | .ref a :: st => rn (pc + 1) (fun pc' => rec μ d pc' (rset ls n (.ref a)) st σ k pa cells slots)
    | _ => none
noncomputable def rx_iinc (n : Nat) (x : Int) : rJ := fun P rec μ d pc ls st σ k pa cells slots len act => match rlook ls n with
    | some v => rbin 0 v (.int (Int32.ofInt x)) k (fun v k => rn (pc + len) (fun pc' => rec μ d pc' (rset ls n v) st σ k pa cells slots))
    | none => none
noncomputable def rx_iadd : rJ := fun P rec μ d pc ls st σ k pa cells slots len act => match st with
    | y :: x :: st => rbin 0 x y k (fun v k => rn (pc + 1) (fun pc' => rec μ d pc' ls (v :: st) σ k pa cells slots))
    | _ => none
noncomputable def rx_isub : rJ := fun P rec μ d pc ls st σ k pa cells slots len act => match st with
    | y :: x :: st => rbin 1 x y k (fun v k => rn (pc + 1) (fun pc' => rec μ d pc' ls (v :: st) σ k pa cells slots))
    | _ => none
noncomputable def rx_imul : rJ := fun P rec μ d pc ls st σ k pa cells slots len act => match st with
    | y :: x :: st => rbin 2 x y k (fun v k => rn (pc + 1) (fun pc' => rec μ d pc' ls (v :: st) σ k pa cells slots))
    | _ => none
noncomputable def rx_iand : rJ := fun P rec μ d pc ls st σ k pa cells slots len act => match st with
    | y :: x :: st => rbin 3 x y k (fun v k => rn (pc + 1) (fun pc' => rec μ d pc' ls (v :: st) σ k pa cells slots))
    | _ => none
noncomputable def rx_ior : rJ := fun P rec μ d pc ls st σ k pa cells slots len act => match st with
    | y :: x :: st => rbin 4 x y k (fun v k => rn (pc + 1) (fun pc' => rec μ d pc' ls (v :: st) σ k pa cells slots))
    | _ => none
noncomputable def rx_ixor : rJ := fun P rec μ d pc ls st σ k pa cells slots len act => match st with
    | y :: x :: st => rbin 5 x y k (fun v k => rn (pc + 1) (fun pc' => rec μ d pc' ls (v :: st) σ k pa cells slots))
    | _ => none
noncomputable def rx_ishl : rJ := fun P rec μ d pc ls st σ k pa cells slots len act => match st with
    | y :: x :: st => rbin 6 x y k (fun v k => rn (pc + 1) (fun pc' => rec μ d pc' ls (v :: st) σ k pa cells slots))
    | _ => none
noncomputable def rx_ishr : rJ := fun P rec μ d pc ls st σ k pa cells slots len act => match st with
    | y :: x :: st => rbin 7 x y k (fun v k => rn (pc + 1) (fun pc' => rec μ d pc' ls (v :: st) σ k pa cells slots))
    | _ => none
noncomputable def rx_iushr : rJ := fun P rec μ d pc ls st σ k pa cells slots len act => match st with
    | y :: x :: st => rbin 8 x y k (fun v k => rn (pc + 1) (fun pc' => rec μ d pc' ls (v :: st) σ k pa cells slots))
    | _ => none
noncomputable def rx_idiv : rJ := fun P rec μ d pc ls st σ k pa cells slots len act => match st with
    | y :: x :: st => rdiv 9 x y k (fun v k => rn (pc + 1) (fun pc' => rec μ d pc' ls (v :: st) σ k pa cells slots))
    | _ => none
noncomputable def rx_irem : rJ := fun P rec μ d pc ls st σ k pa cells slots len act => match st with
    | y :: x :: st => rdiv 10 x y k (fun v k => rn (pc + 1) (fun pc' => rec μ d pc' ls (v :: st) σ k pa cells slots))
    | _ => none
noncomputable def rx_ineg : rJ := fun P rec μ d pc ls st σ k pa cells slots len act => match st with
    | x :: st => runi 0 x k (fun v k => rn (pc + 1) (fun pc' => rec μ d pc' ls (v :: st) σ k pa cells slots))
    | _ => none
noncomputable def rx_i2b : rJ := fun P rec μ d pc ls st σ k pa cells slots len act => match st with
    | x :: st => runi 1 x k (fun v k => rn (pc + 1) (fun pc' => rec μ d pc' ls (v :: st) σ k pa cells slots))
    | _ => none
noncomputable def rx_i2l : rJ := fun P rec μ d pc ls st σ k pa cells slots len act => match st with
    | x :: st => ri2l x k (fun v k => rn (pc + 1) (fun pc' => rec μ d pc' ls (v :: st) σ k pa cells slots))
    | _ => none
noncomputable def rx_l2i : rJ := fun P rec μ d pc ls st σ k pa cells slots len act => match st with
    | x :: st => rl2i x k (fun v k => rn (pc + 1) (fun pc' => rec μ d pc' ls (v :: st) σ k pa cells slots))
    | _ => none
noncomputable def rx_ladd : rJ := fun P rec μ d pc ls st σ k pa cells slots len act => match st with
    | y :: x :: st => rlbin 0 x y k (fun v k => rn (pc + 1) (fun pc' => rec μ d pc' ls (v :: st) σ k pa cells slots))
    | _ => none
noncomputable def rx_lsub : rJ := fun P rec μ d pc ls st σ k pa cells slots len act => match st with
    | y :: x :: st => rlbin 1 x y k (fun v k => rn (pc + 1) (fun pc' => rec μ d pc' ls (v :: st) σ k pa cells slots))
    | _ => none
noncomputable def rx_lmul : rJ := fun P rec μ d pc ls st σ k pa cells slots len act => match st with
    | y :: x :: st => rlbin 2 x y k (fun v k => rn (pc + 1) (fun pc' => rec μ d pc' ls (v :: st) σ k pa cells slots))
    | _ => none
noncomputable def rx_land : rJ := fun P rec μ d pc ls st σ k pa cells slots len act => match st with
    | y :: x :: st => rlbin 3 x y k (fun v k => rn (pc + 1) (fun pc' => rec μ d pc' ls (v :: st) σ k pa cells slots))
    | _ => none
noncomputable def rx_lor : rJ := fun P rec μ d pc ls st σ k pa cells slots len act => match st with
    | y :: x :: st => rlbin 4 x y k (fun v k => rn (pc + 1) (fun pc' => rec μ d pc' ls (v :: st) σ k pa cells slots))
    | _ => none
noncomputable def rx_lxor : rJ := fun P rec μ d pc ls st σ k pa cells slots len act => match st with
    | y :: x :: st => rlbin 5 x y k (fun v k => rn (pc + 1) (fun pc' => rec μ d pc' ls (v :: st) σ k pa cells slots))
    | _ => none
noncomputable def rx_lshl : rJ := fun P rec μ d pc ls st σ k pa cells slots len act => match st with
    | y :: x :: st => rlsh 0 x y k (fun v k => rn (pc + 1) (fun pc' => rec μ d pc' ls (v :: st) σ k pa cells slots))
    | _ => none
noncomputable def rx_lshr : rJ := fun P rec μ d pc ls st σ k pa cells slots len act => match st with
    | y :: x :: st => rlsh 1 x y k (fun v k => rn (pc + 1) (fun pc' => rec μ d pc' ls (v :: st) σ k pa cells slots))
    | _ => none
noncomputable def rx_lushr : rJ := fun P rec μ d pc ls st σ k pa cells slots len act => match st with
    | y :: x :: st => rlsh 2 x y k (fun v k => rn (pc + 1) (fun pc' => rec μ d pc' ls (v :: st) σ k pa cells slots))
    | _ => none
noncomputable def rx_lcmp : rJ := fun P rec μ d pc ls st σ k pa cells slots len act => match st with
    | y :: x :: st => rlcmp x y k (fun v k => rn (pc + 1) (fun pc' => rec μ d pc' ls (v :: st) σ k pa cells slots))
    | _ => none
noncomputable def rx_dup : rJ := fun P rec μ d pc ls st σ k pa cells slots len act => match st with
    | x :: st => match Nat.beq x.category 1 with
      | true => rn (pc + 1) (fun pc' => rec μ d pc' ls (x :: x :: st) σ k pa cells slots)
      | false => none
    | _ => none
noncomputable def rx_dup_x1 : rJ := fun P rec μ d pc ls st σ k pa cells slots len act => match st with
    | x :: y :: st => match Nat.beq x.category 1 && Nat.beq y.category 1 with
      | true => rn (pc + 1) (fun pc' => rec μ d pc' ls (x :: y :: x :: st) σ k pa cells slots)
      | false => none
    | _ => none
noncomputable def rx_dup2 : rJ := fun P rec μ d pc ls st σ k pa cells slots len act => match st with
    | x :: st => match Nat.beq x.category 1 with
      | false => rn (pc + 1) (fun pc' => rec μ d pc' ls (x :: x :: st) σ k pa cells slots)
      | true => match st with
        | y :: st => match Nat.beq y.category 1 with
          | true => rn (pc + 1) (fun pc' => rec μ d pc' ls (x :: y :: x :: y :: st) σ k pa cells slots)
          | false => none
        | _ => none
    | _ => none
noncomputable def rx_pop : rJ := fun P rec μ d pc ls st σ k pa cells slots len act => match st with
    | x :: st => match Nat.beq x.category 1 with
      | true => rn (pc + 1) (fun pc' => rec μ d pc' ls st σ k pa cells slots)
      | false => none
    | _ => none
noncomputable def rx_goto (off : Int) : rJ := fun P rec μ d pc ls st σ k pa cells slots len act => rjmp pc off (fun pc' => rec μ d pc' ls st σ k pa cells slots)
noncomputable def rx_ifCond (c : ClassFile.Cond) (off : Int) : rJ := fun P rec μ d pc ls st σ k pa cells slots len act => match st with
    | x :: st => rjmp pc off (fun t => rbr (rcond c) x (.int 0) pa (fun pa => rec μ d t ls st σ k pa cells slots) (fun pa => rn (pc + 3) (fun pc' => rec μ d pc' ls st σ k pa cells slots)))
    | _ => none
noncomputable def rx_if_icmp (c : ClassFile.Cond) (off : Int) : rJ := fun P rec μ d pc ls st σ k pa cells slots len act => match st with
    | y :: x :: st => rjmp pc off (fun t => rbr (rcond c) x y pa (fun pa => rec μ d t ls st σ k pa cells slots) (fun pa => rn (pc + 3) (fun pc' => rec μ d pc' ls st σ k pa cells slots)))
    | _ => none
noncomputable def rx_ifnull (off : Int) : rJ := fun P rec μ d pc ls st σ k pa cells slots len act => match st with
    | .null :: st => rjmp pc off (fun pc' => rec μ d pc' ls st σ k pa cells slots)
    | .ref _ :: st => rn (pc + 3) (fun pc' => rec μ d pc' ls st σ k pa cells slots)
    | _ => none
noncomputable def rx_ifnonnull (off : Int) : rJ := fun P rec μ d pc ls st σ k pa cells slots len act => match st with
    | .ref _ :: st => rjmp pc off (fun pc' => rec μ d pc' ls st σ k pa cells slots)
    | .null :: st => rn (pc + 3) (fun pc' => rec μ d pc' ls st σ k pa cells slots)
    | _ => none
noncomputable def rx_tableswitch (dflt : Int) (lo : Int) (hi : Int) (offs : Array Int) : rJ := fun P rec μ d pc ls st σ k pa cells slots len act => match st with
    | v :: st => rswitch pc dflt lo hi offs v pa (fun pa pc' => rec μ d pc' ls st σ k pa cells slots)
    | _ => none
noncomputable def rx_getfield : rJ := fun P rec μ d pc ls st σ k pa cells slots len act => match st with
    | o :: st => rget σ o act.2.1 act.2.2.1 (fun v => rn (pc + 3) (fun pc' => rec μ d pc' ls (v :: st) σ k pa cells slots))
    | _ => none
noncomputable def rx_putfield : rJ := fun P rec μ d pc ls st σ k pa cells slots len act => match st with
    | v :: o :: st => match act.2.2.2 with
      | .ref tag => match Nat.blt tag 8 || (Nat.blt tag 16 && P.2.2.2.1 μ) with
        | true => rput P.2.2.2.2.2.2.1 σ o v act.2.1 act.2.2.1 (tag % 8) (fun σ => rn (pc + 3) (fun pc' => rec μ d pc' ls st σ k pa cells slots))
        | false => none
      | _ => none
    | _ => none
noncomputable def rx_getstatic : rJ := fun P rec μ d pc ls st σ k pa cells slots len act => rn (pc + 3) (fun pc' => rec μ d pc' ls (.ref act.2.1 :: st) σ k pa cells slots)
noncomputable def rx_iaload : rJ := fun P rec μ d pc ls st σ k pa cells slots len act => match st with
    | i :: o :: st => rald 1 σ o i (fun v => match risI v with
      | true => rconc v pa (fun v pa => rn (pc + 1) (fun pc' => rec μ d pc' ls (v :: st) σ k pa cells slots))
      | false => none)
    | _ => none
noncomputable def rx_baload : rJ := fun P rec μ d pc ls st σ k pa cells slots len act => match st with
    | i :: o :: st => rald 0 σ o i (fun v => match risI v with
      | true => rn (pc + 1) (fun pc' => rec μ d pc' ls (v :: st) σ k pa cells slots)
      | false => none)
    | _ => none
noncomputable def rx_laload : rJ := fun P rec μ d pc ls st σ k pa cells slots len act => match st with
    | i :: o :: st => rald 2 σ o i (fun v => match risL v with
      | true => rn (pc + 1) (fun pc' => rec μ d pc' ls (v :: st) σ k pa cells slots)
      | false => none)
    | _ => none
noncomputable def rx_aaload : rJ := fun P rec μ d pc ls st σ k pa cells slots len act => match st with
    | i :: o :: st => ralq σ o i (fun v => rn (pc + 1) (fun pc' => rec μ d pc' ls (v :: st) σ k pa cells slots))
    | _ => none
noncomputable def rx_iastore : rJ := fun P rec μ d pc ls st σ k pa cells slots len act => match st with
    | v :: i :: o :: st => rast 1 0 P.2.2.2.2.2.2.1 σ o i v (fun σ => rn (pc + 1) (fun pc' => rec μ d pc' ls st σ k pa cells slots))
    | _ => none
noncomputable def rx_lastore : rJ := fun P rec μ d pc ls st σ k pa cells slots len act => match st with
    | v :: i :: o :: st => rast 2 2 P.2.2.2.2.2.2.1 σ o i v (fun σ => rn (pc + 1) (fun pc' => rec μ d pc' ls st σ k pa cells slots))
    | _ => none
noncomputable def rx_bastore : rJ := fun P rec μ d pc ls st σ k pa cells slots len act => match st with
    | v :: i :: o :: st => runi 1 v k (fun v k => rast 0 0 P.2.2.2.2.2.2.1 σ o i v (fun σ => rn (pc + 1) (fun pc' => rec μ d pc' ls st σ k pa cells slots)))
    | _ => none
noncomputable def rx_aastore : rJ := fun P rec μ d pc ls st σ k pa cells slots len act => match st with
    | v :: i :: o :: st => rasq P.2.2.2.2.2.1 P.2.2.2.2.2.2.1 σ o i v (fun σ => rn (pc + 1) (fun pc' => rec μ d pc' ls st σ k pa cells slots))
    | _ => none
noncomputable def rx_arraylength : rJ := fun P rec μ d pc ls st σ k pa cells slots len act => match st with
    | .ref a :: st => match rat σ a with
      | some (.inr q) => match Nat.ble q.2.1 1000000 && Nat.blt q.1 8 with
        | true => rn (pc + 1) (fun pc' => rec μ d pc' ls (.int (Int32.ofNat q.2.1) :: st) σ k pa cells slots)
        | false => none
      | _ => none
    | _ => none
noncomputable def rx_newarray (ty : ArrayType) : rJ := fun P rec μ d pc ls st σ k pa cells slots len act => match st with
    | n :: st => match ty with
      | .byte => rnewa 0 σ n (fun v σ x => rn (pc + 2) (fun pc' => rec μ d pc' ls (v :: st) σ k pa (cells + 1) (slots + x)))
      | .int => rnewa 1 σ n (fun v σ x => rn (pc + 2) (fun pc' => rec μ d pc' ls (v :: st) σ k pa (cells + 1) (slots + x)))
      | .long => rnewa 2 σ n (fun v σ x => rn (pc + 2) (fun pc' => rec μ d pc' ls (v :: st) σ k pa (cells + 1) (slots + x)))
      | .boolean => rnewa 3 σ n (fun v σ x => rn (pc + 2) (fun pc' => rec μ d pc' ls (v :: st) σ k pa (cells + 1) (slots + x)))
      | _ => none
    | _ => none
noncomputable def rx_anewarray : rJ := fun P rec μ d pc ls st σ k pa cells slots len act => match st with
    | n :: st => match Nat.ble 4 act.2.1 && Nat.blt act.2.1 7 with
      | true => rnewa act.2.1 σ n (fun v σ x => rn (pc + 3) (fun pc' => rec μ d pc' ls (v :: st) σ k pa (cells + 1) (slots + x)))
      | false => none
    | _ => none
noncomputable def rx_multianewarray : rJ := fun P rec μ d pc ls st σ k pa cells slots len act => match st with
    | .int b :: .int a :: st => match decide (b = 0) && decide (a = 3) with
      | true => rn σ.length (fun n => rn (pc + 4) (fun pc' => rec μ d pc' ls (.ref n :: st) (σ ++ [.inr (7, 3, .null, [(0, .ref (n + 1)), (1, .ref (n + 2)), (2, .ref (n + 3))]), .inr (1, 0, .int 0, []), .inr (1, 0, .int 0, []), .inr (1, 0, .int 0, [])]) k pa (cells + 4) (slots + 3)))
      | false => none
    | _ => none
noncomputable def rx_new : rJ := fun P rec μ d pc ls st σ k pa cells slots len act => rn σ.length (fun a => rn (pc + 3) (fun pc' => rec μ d pc' ls (.ref a :: st) (σ ++ [.inl (act.2.1, P.2.2.2.2.1 act.2.1)]) k pa (cells + 1) (slots + act.2.2.1)))
noncomputable def rx_invokevirtual : rJ := fun P rec μ d pc ls st σ k pa cells slots len act => match Nat.beq act.1 20 || Nat.beq act.1 21 with
    | true => rinv P.2.1 P.2.2.1 P.2.2.2.2.2.2.2 rec μ d pc ls st σ k pa cells slots act
    | false => none
noncomputable def rx_invokespecial : rJ := fun P rec μ d pc ls st σ k pa cells slots len act => match act.1 with
    | 26 => match st with
      | .ref _ :: st => match Nat.ble (rwords st) 8 with
        | true => rn (pc + 3) (fun pc' => rec μ d pc' ls st σ k pa cells slots)
        | false => none
      | _ => none
    | _ => match Nat.beq act.1 22 || Nat.beq act.1 23 with
      | true => rinv P.2.1 P.2.2.1 P.2.2.2.2.2.2.2 rec μ d pc ls st σ k pa cells slots act
      | false => none
noncomputable def rx_invokestatic : rJ := fun P rec μ d pc ls st σ k pa cells slots len act => match act.1 with
    | 27 => match st with
      | n :: dp :: a :: sp :: a0 :: st => match Nat.ble (rwords st) 8 with
        | true => rcopy P.2.2.2.2.2.2.1 σ n dp a sp a0 (fun σ => rn (pc + 3) (fun pc' => rec μ d pc' ls st σ k pa cells slots))
        | false => none
      | _ => none
    | 28 => match st with
      | v :: a :: st => match Nat.ble (rwords st) 8 && Nat.ble 1 d with
        | true => rfill P.2.2.2.2.2.2.1 σ v a (fun σ => rn (pc + 3) (fun pc' => rec μ d pc' ls st σ k pa cells slots))
        | false => none
      | _ => none
    | 29 => match st with
      | y :: x :: st => match Nat.ble (rwords st) 8 with
        | true => rbr 2 x y pa (fun pa => rn (pc + 3) (fun pc' => rec μ d pc' ls (y :: st) σ k pa cells slots)) (fun pa => rn (pc + 3) (fun pc' => rec μ d pc' ls (x :: st) σ k pa cells slots))
        | false => none
      | _ => none
    | 30 => match st with
      | y :: x :: st => match Nat.ble (rwords st) 8 with
        | true => rbr 4 x y pa (fun pa => rn (pc + 3) (fun pc' => rec μ d pc' ls (y :: st) σ k pa cells slots)) (fun pa => rn (pc + 3) (fun pc' => rec μ d pc' ls (x :: st) σ k pa cells slots))
        | false => none
      | _ => none
    | _ => match Nat.beq act.1 24 || Nat.beq act.1 25 with
      | true => rinv P.2.1 P.2.2.1 P.2.2.2.2.2.2.2 rec μ d pc ls st σ k pa cells slots act
      | false => none
noncomputable def rx_ireturn : rJ := fun P rec μ d pc ls st σ k pa cells slots len act => match st with
    | [v] => match risI v with
      | true => some ([], some v, σ, k, pa, cells, slots)
      | false => none
    | _ => none
noncomputable def rx_lreturn : rJ := fun P rec μ d pc ls st σ k pa cells slots len act => match st with
    | [v] => match risL v with
      | true => some ([], some v, σ, k, pa, cells, slots)
      | false => none
    | _ => none
noncomputable def rx_areturn : rJ := fun P rec μ d pc ls st σ k pa cells slots len act => match st with
    | [v] => match risR v with
      | true => some ([], some v, σ, k, pa, cells, slots)
      | false => none
    | _ => none
noncomputable def rx_return_ : rJ := fun P rec μ d pc ls st σ k pa cells slots len act => match st with
    | [] => some ([], none, σ, k, pa, cells, slots)
    | _ => none
noncomputable def rx_none : rJ := fun _ _ _ _ _ _ _ _ _ _ _ _ _ _ => none
noncomputable def rdisp (i : Instr) : rJ := match i with
  | .iconst n => rx_iconst n
  | .bipush n => rx_bipush n
  | .sipush n => rx_sipush n
  | .lconst n => rx_lconst n
  | .aconst_null => rx_aconst_null
  | .ldc _ => rx_ldc
  | .ldc_w _ => rx_ldc_w
  | .ldc2_w _ => rx_ldc2_w
  | .iload n => rx_iload n
  | .iload_n n => rx_iload_n n
  | .lload n => rx_lload n
  | .lload_n n => rx_lload_n n
  | .aload n => rx_aload n
  | .aload_n n => rx_aload_n n
  | .istore n => rx_istore n
  | .istore_n n => rx_istore_n n
  | .lstore n => rx_lstore n
  | .lstore_n n => rx_lstore_n n
  | .astore n => rx_astore n
  | .astore_n n => rx_astore_n n
  | .iinc n x => rx_iinc n x
  | .iadd => rx_iadd
  | .isub => rx_isub
  | .imul => rx_imul
  | .iand => rx_iand
  | .ior => rx_ior
  | .ixor => rx_ixor
  | .ishl => rx_ishl
  | .ishr => rx_ishr
  | .iushr => rx_iushr
  | .idiv => rx_idiv
  | .irem => rx_irem
  | .ineg => rx_ineg
  | .i2b => rx_i2b
  | .i2l => rx_i2l
  | .l2i => rx_l2i
  | .ladd => rx_ladd
  | .lsub => rx_lsub
  | .lmul => rx_lmul
  | .land => rx_land
  | .lor => rx_lor
  | .lxor => rx_lxor
  | .lshl => rx_lshl
  | .lshr => rx_lshr
  | .lushr => rx_lushr
  | .lcmp => rx_lcmp
  | .dup => rx_dup
  | .dup_x1 => rx_dup_x1
  | .dup2 => rx_dup2
  | .pop => rx_pop
  | .goto off => rx_goto off
  | .ifCond c off => rx_ifCond c off
  | .if_icmp c off => rx_if_icmp c off
  | .ifnull off => rx_ifnull off
  | .ifnonnull off => rx_ifnonnull off
  | .tableswitch dflt lo hi offs => rx_tableswitch dflt lo hi offs
  | .getfield _ => rx_getfield
  | .putfield _ => rx_putfield
  | .getstatic _ => rx_getstatic
  | .iaload => rx_iaload
  | .baload => rx_baload
  | .laload => rx_laload
  | .aaload => rx_aaload
  | .iastore => rx_iastore
  | .lastore => rx_lastore
  | .bastore => rx_bastore
  | .aastore => rx_aastore
  | .arraylength => rx_arraylength
  | .newarray ty => rx_newarray ty
  | .anewarray _ => rx_anewarray
  | .multianewarray _ _ => rx_multianewarray
  | .new _ => rx_new
  | .invokevirtual _ => rx_invokevirtual
  | .invokespecial _ => rx_invokespecial
  | .invokestatic _ => rx_invokestatic
  | .ireturn => rx_ireturn
  | .lreturn => rx_lreturn
  | .areturn => rx_areturn
  | .return_ => rx_return_
  | _ => rx_none
theorem rdisp_ok {P : rP} {rec : rF} {μ d pc k cells slots len : Nat} {ls : rO} {st : List Value} {σ : rS} {pa : List Nat} {act : rA} (i : Instr) : rdisp i P rec μ d pc ls st σ k pa cells slots len act = rinstr P rec μ d pc ls st σ k pa cells slots i len act := by cases i <;> rfl
noncomputable def rstepF (P : rP) (rec : rF) : rF := fun μ d pc ls st σ k pa cells slots =>
  match P.1 μ pc with
  | none => none
  | some f => rdisp f.1 P rec μ d pc ls st σ k pa cells slots f.2.1 f.2.2
theorem rstepF_eq (P : rP) (rec : rF) : rstepF P rec = rstep P rec := by
  funext μ d pc ls st σ k pa cells slots
  unfold rstepF rstep
  cases P.1 μ pc with
  | none => rfl
  | some f => exact rdisp_ok _
noncomputable def rrunF (P : rP) (n : Nat) : rF := Nat.rec (fun _ _ _ _ _ _ _ _ _ _ => none) (fun _ rec => rstepF P rec) n
theorem rrunF_eq (P : rP) : ∀ n : Nat, rrunF P n = rrun P n
  | 0 => rfl
  | n + 1 => by
    show rstepF P (rrunF P n) = rstep P (rrun P n)
    rw [rstepF_eq, rrunF_eq P n]
/-! names that a run found on its way can be filled in -/
def rupd (ν : rV) (q : rK) : rV :=
  match q.1 with
  | 0 => (fun i => if i = (UInt32.ofNat q.2.2.2.2).toNat then rop q.2.1 (ri ν q.2.2.1) (ri ν q.2.2.2.1) else ν.1 i, ν.2)
  | 1 => (ν.1, fun i => if i = (UInt64.ofNat q.2.2.2.2).toNat then rlop q.2.1 (rl ν q.2.2.1) (rl ν q.2.2.2.1) else ν.2 i)
  | 2 => (ν.1, fun i => if i = (UInt64.ofNat q.2.2.2.2).toNat then rsop q.2.1 (rl ν q.2.2.1) (ri ν q.2.2.2.1) else ν.2 i)
  | 3 => (ν.1, fun i => if i = (UInt64.ofNat q.2.2.2.2).toNat then (ri ν q.2.2.1).toInt64 else ν.2 i)
  | 4 => (fun i => if i = (UInt32.ofNat q.2.2.2.2).toNat then (rl ν q.2.2.1).toInt32 else ν.1 i, ν.2)
  | 5 => (fun i => if i = (UInt32.ofNat q.2.2.2.2).toNat then lg_cmp (rl ν q.2.2.1) (rl ν q.2.2.2.1) else ν.1 i, ν.2)
  | 6 => (fun i => if i = (UInt32.ofNat q.2.2.2.2).toNat then ruop q.2.1 (ri ν q.2.2.1) else ν.1 i, ν.2)
  | _ => ν
/-- what must hold of the script, the names filled in as they come -/
def rasm (ν : rV) : List rK → Prop
  | [] => True
  | q :: cs => match Nat.blt q.1 7 with
    | true => rasm (rupd ν q) cs
    | false => rhold ν q ∧ rasm ν cs
def rlow (k : Nat) : Value → Bool
  | .float j => Nat.blt j.toNat k
  | .double j => Nat.blt j.toNat k
  | _ => true
def rssa (k : Nat) : List rK → Bool
  | [] => true
  | q :: cs => rlow k q.2.2.1 && (rlow k q.2.2.2.1 && (match Nat.blt q.1 7 with
    | true => Nat.beq q.2.2.2.2 k && (Nat.blt k 1000000 && rssa (k + 1) cs)
    | false => rssa k cs))
def ralike (k : Nat) (ν ν' : rV) : Prop := ∀ i, i < k → ν'.1 i = ν.1 i ∧ ν'.2 i = ν.2 i
theorem ralike_i {k : Nat} {ν ν' : rV} (h : ralike k ν ν') {v : Value} (hv : rlow k v = true) : ri ν' v = ri ν v ∧ rl ν' v = rl ν v := by
  cases v <;> first | exact ⟨rfl, rfl⟩ | skip
  · exact ⟨(h _ (Nat.le_of_ble_eq_true hv)).1, rfl⟩
  · exact ⟨rfl, (h _ (Nat.le_of_ble_eq_true hv)).2⟩
theorem rhold_alike {k : Nat} {ν ν' : rV} (h : ralike k ν ν') {q : rK} (h1 : rlow k q.2.2.1 = true) (h2 : rlow k q.2.2.2.1 = true) (h7 : Nat.blt q.1 7 = false) (hq : rhold ν q) : rhold ν' q := by
  obtain ⟨kd, o, x, y, z⟩ := q
  have e1 := (ralike_i h h1).1
  have e2 := (ralike_i h h2).1
  simp only at e1 e2
  unfold rhold at hq ⊢
  simp only at hq ⊢
  split at hq <;> first | (simp [Nat.blt] at h7; done) | (rw [e1, e2]; exact hq) | (rw [e1]; exact hq)
theorem rupd_hold {k : Nat} {ν ν' : rV} {q : rK} (hk : k < 1000000) (hz : q.2.2.2.2 = k) (h : ralike (k + 1) (rupd ν q) ν') (h1 : rlow k q.2.2.1 = true) (h2 : rlow k q.2.2.2.1 = true) (h7 : Nat.blt q.1 7 = true) : ralike k ν ν' ∧ rhold ν' q := by
  obtain ⟨kd, o, x, y, z⟩ := q
  simp only at hz
  subst hz
  have k32 : (UInt32.ofNat z).toNat = z := by
    rw [UInt32.toNat_ofNat']
    exact Nat.mod_eq_of_lt (by omega)
  have k64 : (UInt64.ofNat z).toNat = z := by
    rw [UInt64.toNat_ofNat']
    exact Nat.mod_eq_of_lt (by omega)
  have ha : ralike z ν ν' := by
    intro i hi
    obtain ⟨a1, a2⟩ := h i (by omega)
    rw [a1, a2]
    have hne : ¬ i = z := by omega
    unfold rupd
    simp only [k32, k64]
    split <;> simp [hne]
  refine ⟨ha, ?_⟩
  obtain ⟨e1, f1⟩ := ralike_i ha h1
  obtain ⟨e2, f2⟩ := ralike_i ha h2
  obtain ⟨g1, g2⟩ := h z (Nat.lt_succ_self z)
  simp only at e1 e2 f1 f2
  have hlt := Nat.le_of_ble_eq_true h7
  rcases (show kd = 0 ∨ kd = 1 ∨ kd = 2 ∨ kd = 3 ∨ kd = 4 ∨ kd = 5 ∨ kd = 6 by simp only at hlt; omega) with rfl | rfl | rfl | rfl | rfl | rfl | rfl
  · show ν'.1 (UInt32.ofNat z).toNat = rop o (ri ν' x) (ri ν' y)
    rw [k32, g1, e1, e2]; simp [rupd, k32]
  · show ν'.2 (UInt64.ofNat z).toNat = rlop o (rl ν' x) (rl ν' y)
    rw [k64, g2, f1, f2]; simp [rupd, k64]
  · show ν'.2 (UInt64.ofNat z).toNat = rsop o (rl ν' x) (ri ν' y)
    rw [k64, g2, f1, e2]; simp [rupd, k64]
  · show ν'.2 (UInt64.ofNat z).toNat = (ri ν' x).toInt64
    rw [k64, g2, e1]; simp [rupd, k64]
  · show ν'.1 (UInt32.ofNat z).toNat = (rl ν' x).toInt32
    rw [k32, g1, f1]; simp [rupd, k32]
  · show ν'.1 (UInt32.ofNat z).toNat = lg_cmp (rl ν' x) (rl ν' y)
    rw [k32, g1, f1, f2]; simp [rupd, k32]
  · show ν'.1 (UInt32.ofNat z).toNat = ruop o (ri ν' x)
    rw [k32, g1, e1]; simp [rupd, k32]
theorem rsol : ∀ (cs : List rK) (k : Nat) (ν : rV), rssa k cs = true → rasm ν cs → ∃ ν' : rV, ralike k ν ν' ∧ rholds ν' cs
  | [], k, ν, _, _ => ⟨ν, fun _ _ => ⟨rfl, rfl⟩, rholds_nil ν⟩
  | q :: cs, k, ν, hs, ha => by
    simp only [rssa, Bool.and_eq_true] at hs
    obtain ⟨h1, h2, h3⟩ := hs
    unfold rasm at ha
    cases h7 : Nat.blt q.1 7 with
    | true =>
      rw [h7] at ha h3
      simp only [Bool.and_eq_true] at h3
      obtain ⟨z1, z2, z3⟩ := h3
      obtain ⟨ν', g1, g2⟩ := rsol cs (k + 1) (rupd ν q) z3 ha
      obtain ⟨b1, b2⟩ := rupd_hold (Nat.le_of_ble_eq_true z2) (Nat.eq_of_beq_eq_true z1) g1 h1 h2 h7
      refine ⟨ν', b1, fun x hx => ?_⟩
      rcases List.mem_cons.mp hx with rfl | hx
      · exact b2
      · exact g2 x hx
    | false =>
      rw [h7] at ha h3
      obtain ⟨ν', g1, g2⟩ := rsol cs k ν h3 ha.2
      refine ⟨ν', g1, fun x hx => ?_⟩
      rcases List.mem_cons.mp hx with rfl | hx
      · exact rhold_alike g1 h1 h2 h7 ha.1
      · exact g2 x hx
def rfin (r : Option rR) (cs : List rK) : Bool :=
  match r with
  | some z => decide (z.1 = cs) && (decide (z.2.1 = some (.int 1)) && (Nat.ble z.2.2.2.2.2.1 600000 && (Nat.ble z.2.2.2.2.2.2 7302250 && rssa 6 cs)))
  | none => false
def rmok (r : Option rR) (v : Option Value) (σ : rS) (mc ms : Nat) : Bool :=
  match r with
  | some z => decide (z.1 = []) && (decide (z.2.1 = v) && (rseq z.2.2.1 σ && (Nat.beq z.2.2.2.2.2.1 mc && Nat.beq z.2.2.2.2.2.2 ms)))
  | none => false
theorem rmok_ok {r : Option rR} {v : Option Value} {σ : rS} {mc ms : Nat} (h : rmok r v σ mc ms = true) : ∃ (k : Nat) (pa : List Nat), r = some ([], v, σ, k, pa, mc, ms) := by
  unfold rmok at h
  split at h
  · next z =>
    simp only [Bool.and_eq_true, decide_eq_true_eq] at h
    obtain ⟨h1, h2, h3, h4, h5⟩ := h
    obtain ⟨z1, z2, z3, z4, z5, z6, z7⟩ := z
    have e3 : z3 = σ := rseq_eq h3
    have e4 : z6 = mc := Nat.eq_of_beq_eq_true h4
    have e5 : z7 = ms := Nat.eq_of_beq_eq_true h5
    have e1 : z1 = [] := h1
    have e2 : z2 = v := h2
    rw [e1, e2, e3, e4, e5]
    exact ⟨z4, z5, rfl⟩
  · cases h
