noncomputable def rpar (kn : List rM) : rP := (rfetch, rmaxl, rret, rinit, rdflt, relem, 12, kn)
noncomputable abbrev PP : rP := rpar []
/-! contracts over the run: Ev (from here the run comes to r, however long it may go on), and a row for each instruction, over whole numbers: I z is the int of z -/
abbrev I (z : Int) : Value := .int (Int32.ofInt z)
abbrev J (z : Int) : Value := .long (Int64.ofInt z)
def Ev (P : rP) (μ d pc : Nat) (ls : rO) (st : List Value) (σ : rS) (c s : Nat) (r : rT) : Prop := ∃ n0, ∀ n, n0 ≤ n → rrun P n μ d pc ls st σ 0 [] c s = some ([], r)
section EV
variable {P : rP} {μ d pc c s : Nat} {ls : rO} {st : List Value} {σ : rS} {r : rT} {len : Nat} {act : rA}
theorem Ev_of {i : Instr} (hf : P.1 μ pc = some (i, len, act)) {n0 : Nat} (h : ∀ n, n0 ≤ n → rinstr P (rrun P n) μ d pc ls st σ 0 [] c s i len act = some ([], r)) : Ev P μ d pc ls st σ c s r := ⟨n0 + 1, fun n hn => by
  obtain ⟨m, rfl⟩ : ∃ m, n = m + 1 := ⟨n - 1, by omega⟩
  show rstep P (rrun P m) μ d pc ls st σ 0 [] c s = _
  unfold rstep
  rw [hf]
  exact h m (by omega)⟩
theorem x_iconst {m : Int} (hf : P.1 μ pc = some (.iconst m, len, act)) (h : Ev P μ d (pc + 1) ls (I m :: st) σ c s r) : Ev P μ d pc ls st σ c s r := by
  obtain ⟨n0, h⟩ := h
  refine Ev_of hf (n0 := n0) (fun n hn => ?_)
  show rci (Int32.ofInt m) (fun v => rn (pc + 1) (fun pcₚ => rrun P n μ d pcₚ ls (.int v :: st) σ 0 [] c s)) = _
  rw [rci_eq, rn_eq]
  exact h n hn
theorem x_bipush {m z : Int} (hf : P.1 μ pc = some (.bipush m, len, act)) (hz : (Int8.ofInt m).toInt32 = Int32.ofInt z) (h : Ev P μ d (pc + 2) ls (I z :: st) σ c s r) : Ev P μ d pc ls st σ c s r := by
  obtain ⟨n0, h⟩ := h
  refine Ev_of hf (n0 := n0) (fun n hn => ?_)
  show rci (Int8.ofInt m).toInt32 (fun v => rn (pc + 2) (fun pcₚ => rrun P n μ d pcₚ ls (.int v :: st) σ 0 [] c s)) = _
  rw [rci_eq, rn_eq, hz]
  exact h n hn
theorem x_sipush {m z : Int} (hf : P.1 μ pc = some (.sipush m, len, act)) (hz : (Int16.ofInt m).toInt32 = Int32.ofInt z) (h : Ev P μ d (pc + 3) ls (I z :: st) σ c s r) : Ev P μ d pc ls st σ c s r := by
  obtain ⟨n0, h⟩ := h
  refine Ev_of hf (n0 := n0) (fun n hn => ?_)
  show rci (Int16.ofInt m).toInt32 (fun v => rn (pc + 3) (fun pcₚ => rrun P n μ d pcₚ ls (.int v :: st) σ 0 [] c s)) = _
  rw [rci_eq, rn_eq, hz]
  exact h n hn
theorem x_ldc {x a b e : Nat} {v : Int32} {z : Int} (hf : P.1 μ pc = some (.ldc x, len, (a, b, e, .int v))) (hz : v = Int32.ofInt z) (h : Ev P μ d (pc + 2) ls (I z :: st) σ c s r) : Ev P μ d pc ls st σ c s r := by
  obtain ⟨n0, h⟩ := h
  refine Ev_of hf (n0 := n0) (fun n hn => ?_)
  show rn (pc + 2) (fun pcₚ => rrun P n μ d pcₚ ls (.int v :: st) σ 0 [] c s) = _
  rw [rn_eq, hz]
  exact h n hn
theorem x_ldc_w {x a b e : Nat} {v : Int32} {z : Int} (hf : P.1 μ pc = some (.ldc_w x, len, (a, b, e, .int v))) (hz : v = Int32.ofInt z) (h : Ev P μ d (pc + 3) ls (I z :: st) σ c s r) : Ev P μ d pc ls st σ c s r := by
  obtain ⟨n0, h⟩ := h
  refine Ev_of hf (n0 := n0) (fun n hn => ?_)
  show rn (pc + 3) (fun pcₚ => rrun P n μ d pcₚ ls (.int v :: st) σ 0 [] c s) = _
  rw [rn_eq, hz]
  exact h n hn
theorem x_ldc2 {x a b e : Nat} {v : Int64} {z : Int} (hf : P.1 μ pc = some (.ldc2_w x, len, (a, b, e, .long v))) (hz : v = Int64.ofInt z) (h : Ev P μ d (pc + 3) ls (J z :: st) σ c s r) : Ev P μ d pc ls st σ c s r := by
  obtain ⟨n0, h⟩ := h
  refine Ev_of hf (n0 := n0) (fun n hn => ?_)
  show rn (pc + 3) (fun pcₚ => rrun P n μ d pcₚ ls (.long v :: st) σ 0 [] c s) = _
  rw [rn_eq, hz]
  exact h n hn
theorem x_lconst {m : Fin 2} {z : Int} (hf : P.1 μ pc = some (.lconst m, len, act)) (hz : Int64.ofNat (m : Nat) = Int64.ofInt z) (h : Ev P μ d (pc + 1) ls (J z :: st) σ c s r) : Ev P μ d pc ls st σ c s r := by
  obtain ⟨n0, h⟩ := h
  refine Ev_of hf (n0 := n0) (fun n hn => ?_)
  show rcl (Int64.ofNat (m : Nat)) (fun v => rn (pc + 1) (fun pcₚ => rrun P n μ d pcₚ ls (.long v :: st) σ 0 [] c s)) = _
  rw [rcl_eq, rn_eq, hz]
  exact h n hn
theorem x_null  (hf : P.1 μ pc = some (.aconst_null, len, act)) (h : Ev P μ d (pc + 1) ls (.null :: st) σ c s r) : Ev P μ d pc ls st σ c s r := by
  obtain ⟨n0, h⟩ := h
  refine Ev_of hf (n0 := n0) (fun n hn => ?_)
  show rn (pc + 1) (fun pcₚ => rrun P n μ d pcₚ ls (.null :: st) σ 0 [] c s) = _
  rw [rn_eq]
  exact h n hn
theorem x_iload {i : Nat} {v : Int32} (hf : P.1 μ pc = some (.iload i, len, act)) (hl : rlook ls i = some (.int v)) (h : Ev P μ d (pc + 2) ls ((.int v) :: st) σ c s r) : Ev P μ d pc ls st σ c s r := by
  obtain ⟨n0, h⟩ := h
  refine Ev_of hf (n0 := n0) (fun n hn => ?_)
  show rload ls i risI (fun v => rn (pc + 2) (fun pcₚ => rrun P n μ d pcₚ ls (v :: st) σ 0 [] c s)) = _
  unfold rload
  rw [hl]
  show rn (pc + 2) (fun pcₚ => rrun P n μ d pcₚ ls ((.int v) :: st) σ 0 [] c s) = _
  rw [rn_eq]
  exact h n hn
theorem x_istore {i : Nat} {v : Int32} (hf : P.1 μ pc = some (.istore i, len, act)) (h : Ev P μ d (pc + 2) (rset ls i (.int v)) st σ c s r) : Ev P μ d pc ls ((.int v) :: st) σ c s r := by
  obtain ⟨n0, h⟩ := h
  refine Ev_of hf (n0 := n0) (fun n hn => ?_)
  show rn (pc + 2) (fun pcₚ => rrun P n μ d pcₚ (rset ls i (.int v)) st σ 0 [] c s) = _
  rw [rn_eq]
  exact h n hn
theorem x_iload_n {i : Fin 4} {v : Int32} (hf : P.1 μ pc = some (.iload_n i, len, act)) (hl : rlook ls i = some (.int v)) (h : Ev P μ d (pc + 1) ls ((.int v) :: st) σ c s r) : Ev P μ d pc ls st σ c s r := by
  obtain ⟨n0, h⟩ := h
  refine Ev_of hf (n0 := n0) (fun n hn => ?_)
  show rload ls i risI (fun v => rn (pc + 1) (fun pcₚ => rrun P n μ d pcₚ ls (v :: st) σ 0 [] c s)) = _
  unfold rload
  rw [hl]
  show rn (pc + 1) (fun pcₚ => rrun P n μ d pcₚ ls ((.int v) :: st) σ 0 [] c s) = _
  rw [rn_eq]
  exact h n hn
theorem x_istore_n {i : Fin 4} {v : Int32} (hf : P.1 μ pc = some (.istore_n i, len, act)) (h : Ev P μ d (pc + 1) (rset ls i (.int v)) st σ c s r) : Ev P μ d pc ls ((.int v) :: st) σ c s r := by
  obtain ⟨n0, h⟩ := h
  refine Ev_of hf (n0 := n0) (fun n hn => ?_)
  show rn (pc + 1) (fun pcₚ => rrun P n μ d pcₚ (rset ls i (.int v)) st σ 0 [] c s) = _
  rw [rn_eq]
  exact h n hn
theorem x_lload {i : Nat} {v : Int64} (hf : P.1 μ pc = some (.lload i, len, act)) (hl : rlook ls i = some (.long v)) (h : Ev P μ d (pc + 2) ls ((.long v) :: st) σ c s r) : Ev P μ d pc ls st σ c s r := by
  obtain ⟨n0, h⟩ := h
  refine Ev_of hf (n0 := n0) (fun n hn => ?_)
  show rload ls i risL (fun v => rn (pc + 2) (fun pcₚ => rrun P n μ d pcₚ ls (v :: st) σ 0 [] c s)) = _
  unfold rload
  rw [hl]
  show rn (pc + 2) (fun pcₚ => rrun P n μ d pcₚ ls ((.long v) :: st) σ 0 [] c s) = _
  rw [rn_eq]
  exact h n hn
theorem x_lstore {i : Nat} {v : Int64} (hf : P.1 μ pc = some (.lstore i, len, act)) (h : Ev P μ d (pc + 2) (rset2 ls i (.long v)) st σ c s r) : Ev P μ d pc ls ((.long v) :: st) σ c s r := by
  obtain ⟨n0, h⟩ := h
  refine Ev_of hf (n0 := n0) (fun n hn => ?_)
  show rn (pc + 2) (fun pcₚ => rrun P n μ d pcₚ (rset2 ls i (.long v)) st σ 0 [] c s) = _
  rw [rn_eq]
  exact h n hn
theorem x_lload_n {i : Fin 4} {v : Int64} (hf : P.1 μ pc = some (.lload_n i, len, act)) (hl : rlook ls i = some (.long v)) (h : Ev P μ d (pc + 1) ls ((.long v) :: st) σ c s r) : Ev P μ d pc ls st σ c s r := by
  obtain ⟨n0, h⟩ := h
  refine Ev_of hf (n0 := n0) (fun n hn => ?_)
  show rload ls i risL (fun v => rn (pc + 1) (fun pcₚ => rrun P n μ d pcₚ ls (v :: st) σ 0 [] c s)) = _
  unfold rload
  rw [hl]
  show rn (pc + 1) (fun pcₚ => rrun P n μ d pcₚ ls ((.long v) :: st) σ 0 [] c s) = _
  rw [rn_eq]
  exact h n hn
theorem x_lstore_n {i : Fin 4} {v : Int64} (hf : P.1 μ pc = some (.lstore_n i, len, act)) (h : Ev P μ d (pc + 1) (rset2 ls i (.long v)) st σ c s r) : Ev P μ d pc ls ((.long v) :: st) σ c s r := by
  obtain ⟨n0, h⟩ := h
  refine Ev_of hf (n0 := n0) (fun n hn => ?_)
  show rn (pc + 1) (fun pcₚ => rrun P n μ d pcₚ (rset2 ls i (.long v)) st σ 0 [] c s) = _
  rw [rn_eq]
  exact h n hn
theorem x_aload {i : Nat} {v : Nat} (hf : P.1 μ pc = some (.aload i, len, act)) (hl : rlook ls i = some (.ref v)) (h : Ev P μ d (pc + 2) ls ((.ref v) :: st) σ c s r) : Ev P μ d pc ls st σ c s r := by
  obtain ⟨n0, h⟩ := h
  refine Ev_of hf (n0 := n0) (fun n hn => ?_)
  show rload ls i risR (fun v => rn (pc + 2) (fun pcₚ => rrun P n μ d pcₚ ls (v :: st) σ 0 [] c s)) = _
  unfold rload
  rw [hl]
  show rn (pc + 2) (fun pcₚ => rrun P n μ d pcₚ ls ((.ref v) :: st) σ 0 [] c s) = _
  rw [rn_eq]
  exact h n hn
theorem x_astore {i : Nat} {v : Nat} (hf : P.1 μ pc = some (.astore i, len, act)) (h : Ev P μ d (pc + 2) (rset ls i (.ref v)) st σ c s r) : Ev P μ d pc ls ((.ref v) :: st) σ c s r := by
  obtain ⟨n0, h⟩ := h
  refine Ev_of hf (n0 := n0) (fun n hn => ?_)
  show rn (pc + 2) (fun pcₚ => rrun P n μ d pcₚ (rset ls i (.ref v)) st σ 0 [] c s) = _
  rw [rn_eq]
  exact h n hn
theorem x_aload_n {i : Fin 4} {v : Nat} (hf : P.1 μ pc = some (.aload_n i, len, act)) (hl : rlook ls i = some (.ref v)) (h : Ev P μ d (pc + 1) ls ((.ref v) :: st) σ c s r) : Ev P μ d pc ls st σ c s r := by
  obtain ⟨n0, h⟩ := h
  refine Ev_of hf (n0 := n0) (fun n hn => ?_)
  show rload ls i risR (fun v => rn (pc + 1) (fun pcₚ => rrun P n μ d pcₚ ls (v :: st) σ 0 [] c s)) = _
  unfold rload
  rw [hl]
  show rn (pc + 1) (fun pcₚ => rrun P n μ d pcₚ ls ((.ref v) :: st) σ 0 [] c s) = _
  rw [rn_eq]
  exact h n hn
theorem x_astore_n {i : Fin 4} {v : Nat} (hf : P.1 μ pc = some (.astore_n i, len, act)) (h : Ev P μ d (pc + 1) (rset ls i (.ref v)) st σ c s r) : Ev P μ d pc ls ((.ref v) :: st) σ c s r := by
  obtain ⟨n0, h⟩ := h
  refine Ev_of hf (n0 := n0) (fun n hn => ?_)
  show rn (pc + 1) (fun pcₚ => rrun P n μ d pcₚ (rset ls i (.ref v)) st σ 0 [] c s) = _
  rw [rn_eq]
  exact h n hn
theorem x_iinc {i : Nat} {m z : Int} (hf : P.1 μ pc = some (.iinc i m, len, act)) (hl : rlook ls i = some (I z)) (h : Ev P μ d (pc + len) (rset ls i (I (z + m))) st σ c s r) : Ev P μ d pc ls st σ c s r := by
  obtain ⟨n0, h⟩ := h
  refine Ev_of hf (n0 := n0) (fun n hn => ?_)
  show (match rlook ls i with | some v => rbin 0 v (.int (Int32.ofInt m)) 0 (fun v k => rn (pc + len) (fun pcₚ => rrun P n μ d pcₚ (rset ls i v) st σ k [] c s)) | none => none) = _
  rw [hl]
  show rci (Int32.ofInt z + Int32.ofInt m) (fun w => rn (pc + len) (fun pcₚ => rrun P n μ d pcₚ (rset ls i (.int w)) st σ 0 [] c s)) = _
  rw [rci_eq, rn_eq, ← Int32.ofInt_add]
  exact h n hn
theorem x_iadd {a b : Int32} {z : Int} (hf : P.1 μ pc = some (.iadd, len, act)) (hz : rop 0 a b = Int32.ofInt z) (h : Ev P μ d (pc + 1) ls (I z :: st) σ c s r) : Ev P μ d pc ls (.int b :: .int a :: st) σ c s r := by
  obtain ⟨n0, h⟩ := h
  refine Ev_of hf (n0 := n0) (fun n hn => ?_)
  show rci (rop 0 a b) (fun v => rn (pc + 1) (fun pcₚ => rrun P n μ d pcₚ ls (.int v :: st) σ 0 [] c s)) = _
  rw [rci_eq, rn_eq, hz]
  exact h n hn
theorem x_isub {a b : Int32} {z : Int} (hf : P.1 μ pc = some (.isub, len, act)) (hz : rop 1 a b = Int32.ofInt z) (h : Ev P μ d (pc + 1) ls (I z :: st) σ c s r) : Ev P μ d pc ls (.int b :: .int a :: st) σ c s r := by
  obtain ⟨n0, h⟩ := h
  refine Ev_of hf (n0 := n0) (fun n hn => ?_)
  show rci (rop 1 a b) (fun v => rn (pc + 1) (fun pcₚ => rrun P n μ d pcₚ ls (.int v :: st) σ 0 [] c s)) = _
  rw [rci_eq, rn_eq, hz]
  exact h n hn
theorem x_imul {a b : Int32} {z : Int} (hf : P.1 μ pc = some (.imul, len, act)) (hz : rop 2 a b = Int32.ofInt z) (h : Ev P μ d (pc + 1) ls (I z :: st) σ c s r) : Ev P μ d pc ls (.int b :: .int a :: st) σ c s r := by
  obtain ⟨n0, h⟩ := h
  refine Ev_of hf (n0 := n0) (fun n hn => ?_)
  show rci (rop 2 a b) (fun v => rn (pc + 1) (fun pcₚ => rrun P n μ d pcₚ ls (.int v :: st) σ 0 [] c s)) = _
  rw [rci_eq, rn_eq, hz]
  exact h n hn
theorem x_iand {a b : Int32} {z : Int} (hf : P.1 μ pc = some (.iand, len, act)) (hz : rop 3 a b = Int32.ofInt z) (h : Ev P μ d (pc + 1) ls (I z :: st) σ c s r) : Ev P μ d pc ls (.int b :: .int a :: st) σ c s r := by
  obtain ⟨n0, h⟩ := h
  refine Ev_of hf (n0 := n0) (fun n hn => ?_)
  show rci (rop 3 a b) (fun v => rn (pc + 1) (fun pcₚ => rrun P n μ d pcₚ ls (.int v :: st) σ 0 [] c s)) = _
  rw [rci_eq, rn_eq, hz]
  exact h n hn
theorem x_ior {a b : Int32} {z : Int} (hf : P.1 μ pc = some (.ior, len, act)) (hz : rop 4 a b = Int32.ofInt z) (h : Ev P μ d (pc + 1) ls (I z :: st) σ c s r) : Ev P μ d pc ls (.int b :: .int a :: st) σ c s r := by
  obtain ⟨n0, h⟩ := h
  refine Ev_of hf (n0 := n0) (fun n hn => ?_)
  show rci (rop 4 a b) (fun v => rn (pc + 1) (fun pcₚ => rrun P n μ d pcₚ ls (.int v :: st) σ 0 [] c s)) = _
  rw [rci_eq, rn_eq, hz]
  exact h n hn
theorem x_ixor {a b : Int32} {z : Int} (hf : P.1 μ pc = some (.ixor, len, act)) (hz : rop 5 a b = Int32.ofInt z) (h : Ev P μ d (pc + 1) ls (I z :: st) σ c s r) : Ev P μ d pc ls (.int b :: .int a :: st) σ c s r := by
  obtain ⟨n0, h⟩ := h
  refine Ev_of hf (n0 := n0) (fun n hn => ?_)
  show rci (rop 5 a b) (fun v => rn (pc + 1) (fun pcₚ => rrun P n μ d pcₚ ls (.int v :: st) σ 0 [] c s)) = _
  rw [rci_eq, rn_eq, hz]
  exact h n hn
theorem x_ishl {a b : Int32} {z : Int} (hf : P.1 μ pc = some (.ishl, len, act)) (hz : rop 6 a b = Int32.ofInt z) (h : Ev P μ d (pc + 1) ls (I z :: st) σ c s r) : Ev P μ d pc ls (.int b :: .int a :: st) σ c s r := by
  obtain ⟨n0, h⟩ := h
  refine Ev_of hf (n0 := n0) (fun n hn => ?_)
  show rci (rop 6 a b) (fun v => rn (pc + 1) (fun pcₚ => rrun P n μ d pcₚ ls (.int v :: st) σ 0 [] c s)) = _
  rw [rci_eq, rn_eq, hz]
  exact h n hn
theorem x_ishr {a b : Int32} {z : Int} (hf : P.1 μ pc = some (.ishr, len, act)) (hz : rop 7 a b = Int32.ofInt z) (h : Ev P μ d (pc + 1) ls (I z :: st) σ c s r) : Ev P μ d pc ls (.int b :: .int a :: st) σ c s r := by
  obtain ⟨n0, h⟩ := h
  refine Ev_of hf (n0 := n0) (fun n hn => ?_)
  show rci (rop 7 a b) (fun v => rn (pc + 1) (fun pcₚ => rrun P n μ d pcₚ ls (.int v :: st) σ 0 [] c s)) = _
  rw [rci_eq, rn_eq, hz]
  exact h n hn
theorem x_iushr {a b : Int32} {z : Int} (hf : P.1 μ pc = some (.iushr, len, act)) (hz : rop 8 a b = Int32.ofInt z) (h : Ev P μ d (pc + 1) ls (I z :: st) σ c s r) : Ev P μ d pc ls (.int b :: .int a :: st) σ c s r := by
  obtain ⟨n0, h⟩ := h
  refine Ev_of hf (n0 := n0) (fun n hn => ?_)
  show rci (rop 8 a b) (fun v => rn (pc + 1) (fun pcₚ => rrun P n μ d pcₚ ls (.int v :: st) σ 0 [] c s)) = _
  rw [rci_eq, rn_eq, hz]
  exact h n hn
theorem x_idiv {a b : Int32} {z : Int} (hf : P.1 μ pc = some (.idiv, len, act)) (hb : decide (b = 0) = false) (hz : rop 9 a b = Int32.ofInt z) (h : Ev P μ d (pc + 1) ls (I z :: st) σ c s r) : Ev P μ d pc ls (.int b :: .int a :: st) σ c s r := by
  obtain ⟨n0, h⟩ := h
  refine Ev_of hf (n0 := n0) (fun n hn => ?_)
  show rdiv 9 (.int a) (.int b) 0 (fun v k => rn (pc + 1) (fun pcₚ => rrun P n μ d pcₚ ls (v :: st) σ k [] c s)) = _
  unfold rdiv
  simp only [hb]
  show rci (rop 9 a b) (fun v => rn (pc + 1) (fun pcₚ => rrun P n μ d pcₚ ls (.int v :: st) σ 0 [] c s)) = _
  rw [rci_eq, rn_eq, hz]
  exact h n hn
theorem x_irem {a b : Int32} {z : Int} (hf : P.1 μ pc = some (.irem, len, act)) (hb : decide (b = 0) = false) (hz : rop 10 a b = Int32.ofInt z) (h : Ev P μ d (pc + 1) ls (I z :: st) σ c s r) : Ev P μ d pc ls (.int b :: .int a :: st) σ c s r := by
  obtain ⟨n0, h⟩ := h
  refine Ev_of hf (n0 := n0) (fun n hn => ?_)
  show rdiv 10 (.int a) (.int b) 0 (fun v k => rn (pc + 1) (fun pcₚ => rrun P n μ d pcₚ ls (v :: st) σ k [] c s)) = _
  unfold rdiv
  simp only [hb]
  show rci (rop 10 a b) (fun v => rn (pc + 1) (fun pcₚ => rrun P n μ d pcₚ ls (.int v :: st) σ 0 [] c s)) = _
  rw [rci_eq, rn_eq, hz]
  exact h n hn
theorem x_ineg {a : Int32} {z : Int} (hf : P.1 μ pc = some (.ineg, len, act)) (hz : ruop 0 a = Int32.ofInt z) (h : Ev P μ d (pc + 1) ls (I z :: st) σ c s r) : Ev P μ d pc ls (.int a :: st) σ c s r := by
  obtain ⟨n0, h⟩ := h
  refine Ev_of hf (n0 := n0) (fun n hn => ?_)
  show rci (ruop 0 a) (fun v => rn (pc + 1) (fun pcₚ => rrun P n μ d pcₚ ls (.int v :: st) σ 0 [] c s)) = _
  rw [rci_eq, rn_eq, hz]
  exact h n hn
theorem x_i2b {a : Int32} {z : Int} (hf : P.1 μ pc = some (.i2b, len, act)) (hz : ruop 1 a = Int32.ofInt z) (h : Ev P μ d (pc + 1) ls (I z :: st) σ c s r) : Ev P μ d pc ls (.int a :: st) σ c s r := by
  obtain ⟨n0, h⟩ := h
  refine Ev_of hf (n0 := n0) (fun n hn => ?_)
  show rci (ruop 1 a) (fun v => rn (pc + 1) (fun pcₚ => rrun P n μ d pcₚ ls (.int v :: st) σ 0 [] c s)) = _
  rw [rci_eq, rn_eq, hz]
  exact h n hn
theorem x_ladd {a b : Int64} {z : Int} (hf : P.1 μ pc = some (.ladd, len, act)) (hz : rlop 0 a b = Int64.ofInt z) (h : Ev P μ d (pc + 1) ls (J z :: st) σ c s r) : Ev P μ d pc ls (.long b :: .long a :: st) σ c s r := by
  obtain ⟨n0, h⟩ := h
  refine Ev_of hf (n0 := n0) (fun n hn => ?_)
  show rcl (rlop 0 a b) (fun v => rn (pc + 1) (fun pcₚ => rrun P n μ d pcₚ ls (.long v :: st) σ 0 [] c s)) = _
  rw [rcl_eq, rn_eq, hz]
  exact h n hn
theorem x_lsub {a b : Int64} {z : Int} (hf : P.1 μ pc = some (.lsub, len, act)) (hz : rlop 1 a b = Int64.ofInt z) (h : Ev P μ d (pc + 1) ls (J z :: st) σ c s r) : Ev P μ d pc ls (.long b :: .long a :: st) σ c s r := by
  obtain ⟨n0, h⟩ := h
  refine Ev_of hf (n0 := n0) (fun n hn => ?_)
  show rcl (rlop 1 a b) (fun v => rn (pc + 1) (fun pcₚ => rrun P n μ d pcₚ ls (.long v :: st) σ 0 [] c s)) = _
  rw [rcl_eq, rn_eq, hz]
  exact h n hn
theorem x_lmul {a b : Int64} {z : Int} (hf : P.1 μ pc = some (.lmul, len, act)) (hz : rlop 2 a b = Int64.ofInt z) (h : Ev P μ d (pc + 1) ls (J z :: st) σ c s r) : Ev P μ d pc ls (.long b :: .long a :: st) σ c s r := by
  obtain ⟨n0, h⟩ := h
  refine Ev_of hf (n0 := n0) (fun n hn => ?_)
  show rcl (rlop 2 a b) (fun v => rn (pc + 1) (fun pcₚ => rrun P n μ d pcₚ ls (.long v :: st) σ 0 [] c s)) = _
  rw [rcl_eq, rn_eq, hz]
  exact h n hn
theorem x_land {a b : Int64} {z : Int} (hf : P.1 μ pc = some (.land, len, act)) (hz : rlop 3 a b = Int64.ofInt z) (h : Ev P μ d (pc + 1) ls (J z :: st) σ c s r) : Ev P μ d pc ls (.long b :: .long a :: st) σ c s r := by
  obtain ⟨n0, h⟩ := h
  refine Ev_of hf (n0 := n0) (fun n hn => ?_)
  show rcl (rlop 3 a b) (fun v => rn (pc + 1) (fun pcₚ => rrun P n μ d pcₚ ls (.long v :: st) σ 0 [] c s)) = _
  rw [rcl_eq, rn_eq, hz]
  exact h n hn
theorem x_lor {a b : Int64} {z : Int} (hf : P.1 μ pc = some (.lor, len, act)) (hz : rlop 4 a b = Int64.ofInt z) (h : Ev P μ d (pc + 1) ls (J z :: st) σ c s r) : Ev P μ d pc ls (.long b :: .long a :: st) σ c s r := by
  obtain ⟨n0, h⟩ := h
  refine Ev_of hf (n0 := n0) (fun n hn => ?_)
  show rcl (rlop 4 a b) (fun v => rn (pc + 1) (fun pcₚ => rrun P n μ d pcₚ ls (.long v :: st) σ 0 [] c s)) = _
  rw [rcl_eq, rn_eq, hz]
  exact h n hn
theorem x_lxor {a b : Int64} {z : Int} (hf : P.1 μ pc = some (.lxor, len, act)) (hz : rlop 5 a b = Int64.ofInt z) (h : Ev P μ d (pc + 1) ls (J z :: st) σ c s r) : Ev P μ d pc ls (.long b :: .long a :: st) σ c s r := by
  obtain ⟨n0, h⟩ := h
  refine Ev_of hf (n0 := n0) (fun n hn => ?_)
  show rcl (rlop 5 a b) (fun v => rn (pc + 1) (fun pcₚ => rrun P n μ d pcₚ ls (.long v :: st) σ 0 [] c s)) = _
  rw [rcl_eq, rn_eq, hz]
  exact h n hn
theorem x_lshl {a : Int64} {b : Int32} {z : Int} (hf : P.1 μ pc = some (.lshl, len, act)) (hz : rsop 0 a b = Int64.ofInt z) (h : Ev P μ d (pc + 1) ls (J z :: st) σ c s r) : Ev P μ d pc ls (.int b :: .long a :: st) σ c s r := by
  obtain ⟨n0, h⟩ := h
  refine Ev_of hf (n0 := n0) (fun n hn => ?_)
  show rcl (rsop 0 a b) (fun v => rn (pc + 1) (fun pcₚ => rrun P n μ d pcₚ ls (.long v :: st) σ 0 [] c s)) = _
  rw [rcl_eq, rn_eq, hz]
  exact h n hn
theorem x_lshr {a : Int64} {b : Int32} {z : Int} (hf : P.1 μ pc = some (.lshr, len, act)) (hz : rsop 1 a b = Int64.ofInt z) (h : Ev P μ d (pc + 1) ls (J z :: st) σ c s r) : Ev P μ d pc ls (.int b :: .long a :: st) σ c s r := by
  obtain ⟨n0, h⟩ := h
  refine Ev_of hf (n0 := n0) (fun n hn => ?_)
  show rcl (rsop 1 a b) (fun v => rn (pc + 1) (fun pcₚ => rrun P n μ d pcₚ ls (.long v :: st) σ 0 [] c s)) = _
  rw [rcl_eq, rn_eq, hz]
  exact h n hn
theorem x_lushr {a : Int64} {b : Int32} {z : Int} (hf : P.1 μ pc = some (.lushr, len, act)) (hz : rsop 2 a b = Int64.ofInt z) (h : Ev P μ d (pc + 1) ls (J z :: st) σ c s r) : Ev P μ d pc ls (.int b :: .long a :: st) σ c s r := by
  obtain ⟨n0, h⟩ := h
  refine Ev_of hf (n0 := n0) (fun n hn => ?_)
  show rcl (rsop 2 a b) (fun v => rn (pc + 1) (fun pcₚ => rrun P n μ d pcₚ ls (.long v :: st) σ 0 [] c s)) = _
  rw [rcl_eq, rn_eq, hz]
  exact h n hn
theorem x_i2l {a : Int32} {z : Int} (hf : P.1 μ pc = some (.i2l, len, act)) (hz : a.toInt64 = Int64.ofInt z) (h : Ev P μ d (pc + 1) ls (J z :: st) σ c s r) : Ev P μ d pc ls (.int a :: st) σ c s r := by
  obtain ⟨n0, h⟩ := h
  refine Ev_of hf (n0 := n0) (fun n hn => ?_)
  show rcl a.toInt64 (fun v => rn (pc + 1) (fun pcₚ => rrun P n μ d pcₚ ls (.long v :: st) σ 0 [] c s)) = _
  rw [rcl_eq, rn_eq, hz]
  exact h n hn
theorem x_l2i {a : Int64} {z : Int} (hf : P.1 μ pc = some (.l2i, len, act)) (hz : a.toInt32 = Int32.ofInt z) (h : Ev P μ d (pc + 1) ls (I z :: st) σ c s r) : Ev P μ d pc ls (.long a :: st) σ c s r := by
  obtain ⟨n0, h⟩ := h
  refine Ev_of hf (n0 := n0) (fun n hn => ?_)
  show rci a.toInt32 (fun v => rn (pc + 1) (fun pcₚ => rrun P n μ d pcₚ ls (.int v :: st) σ 0 [] c s)) = _
  rw [rci_eq, rn_eq, hz]
  exact h n hn
theorem x_lcmp {a b : Int64} {z : Int} (hf : P.1 μ pc = some (.lcmp, len, act)) (hz : lg_cmp a b = Int32.ofInt z) (h : Ev P μ d (pc + 1) ls (I z :: st) σ c s r) : Ev P μ d pc ls (.long b :: .long a :: st) σ c s r := by
  obtain ⟨n0, h⟩ := h
  refine Ev_of hf (n0 := n0) (fun n hn => ?_)
  show rci (lg_cmp a b) (fun v => rn (pc + 1) (fun pcₚ => rrun P n μ d pcₚ ls (.int v :: st) σ 0 [] c s)) = _
  rw [rci_eq, rn_eq, hz]
  exact h n hn
theorem x_dup {x : Value} (hf : P.1 μ pc = some (.dup, len, act)) (hx : Nat.beq x.category 1 = true) (h : Ev P μ d (pc + 1) ls (x :: x :: st) σ c s r) : Ev P μ d pc ls (x :: st) σ c s r := by
  obtain ⟨n0, h⟩ := h
  refine Ev_of hf (n0 := n0) (fun n hn => ?_)
  show (match Nat.beq x.category 1 with | true => _ | false => _) = _
  rw [hx]
  show rn (pc + 1) (fun pcₚ => rrun P n μ d pcₚ ls (x :: x :: st) σ 0 [] c s) = _
  rw [rn_eq]
  exact h n hn
theorem x_dup_x1 {x y : Value} (hf : P.1 μ pc = some (.dup_x1, len, act)) (hx : (Nat.beq x.category 1 && Nat.beq y.category 1) = true) (h : Ev P μ d (pc + 1) ls (x :: y :: x :: st) σ c s r) : Ev P μ d pc ls (x :: y :: st) σ c s r := by
  obtain ⟨n0, h⟩ := h
  refine Ev_of hf (n0 := n0) (fun n hn => ?_)
  show (match Nat.beq x.category 1 && Nat.beq y.category 1 with | true => _ | false => _) = _
  rw [hx]
  show rn (pc + 1) (fun pcₚ => rrun P n μ d pcₚ ls (x :: y :: x :: st) σ 0 [] c s) = _
  rw [rn_eq]
  exact h n hn
theorem x_dup2_J {v : Int64} (hf : P.1 μ pc = some (.dup2, len, act)) (h : Ev P μ d (pc + 1) ls (.long v :: .long v :: st) σ c s r) : Ev P μ d pc ls (.long v :: st) σ c s r := by
  obtain ⟨n0, h⟩ := h
  refine Ev_of hf (n0 := n0) (fun n hn => ?_)
  show rn (pc + 1) (fun pcₚ => rrun P n μ d pcₚ ls (.long v :: .long v :: st) σ 0 [] c s) = _
  rw [rn_eq]
  exact h n hn
theorem x_dup2 {x y : Value} (hf : P.1 μ pc = some (.dup2, len, act)) (hx : Nat.beq x.category 1 = true) (hy : Nat.beq y.category 1 = true) (h : Ev P μ d (pc + 1) ls (x :: y :: x :: y :: st) σ c s r) : Ev P μ d pc ls (x :: y :: st) σ c s r := by
  obtain ⟨n0, h⟩ := h
  refine Ev_of hf (n0 := n0) (fun n hn => ?_)
  show (match Nat.beq x.category 1 with | false => _ | true => (match Nat.beq y.category 1 with | true => _ | false => _)) = _
  rw [hx, hy]
  show rn (pc + 1) (fun pcₚ => rrun P n μ d pcₚ ls (x :: y :: x :: y :: st) σ 0 [] c s) = _
  rw [rn_eq]
  exact h n hn
theorem x_pop {x : Value} (hf : P.1 μ pc = some (.pop, len, act)) (hx : Nat.beq x.category 1 = true) (h : Ev P μ d (pc + 1) ls st σ c s r) : Ev P μ d pc ls (x :: st) σ c s r := by
  obtain ⟨n0, h⟩ := h
  refine Ev_of hf (n0 := n0) (fun n hn => ?_)
  show (match Nat.beq x.category 1 with | true => _ | false => _) = _
  rw [hx]
  show rn (pc + 1) (fun pcₚ => rrun P n μ d pcₚ ls st σ 0 [] c s) = _
  rw [rn_eq]
  exact h n hn
theorem x_lneg {a : Int64} {z : Int} (hf : P.1 μ pc = some (.lneg, len, act)) (hz : -a = Int64.ofInt z) (h : Ev P μ d (pc + 1) ls (J z :: st) σ c s r) : Ev P μ d pc ls (.long a :: st) σ c s r := by
  obtain ⟨n0, h⟩ := h
  refine Ev_of hf (n0 := n0) (fun n hn => ?_)
  show rcl (-a) (fun v => rn (pc + 1) (fun pcₚ => rrun P n μ d pcₚ ls (.long v :: st) σ 0 [] c s)) = _
  rw [rcl_eq, rn_eq, hz]
  exact h n hn
theorem x_pop2 {v : Int64} (hf : P.1 μ pc = some (.pop2, len, act)) (h : Ev P μ d (pc + 1) ls st σ c s r) : Ev P μ d pc ls (.long v :: st) σ c s r := by
  obtain ⟨n0, h⟩ := h
  refine Ev_of hf (n0 := n0) (fun n hn => ?_)
  show rn (pc + 1) (fun pcₚ => rrun P n μ d pcₚ ls st σ 0 [] c s) = _
  rw [rn_eq]
  exact h n hn
theorem x_goto {off : Int} {t : Nat} (hf : P.1 μ pc = some (.goto off, len, act)) (ht : (pc : Int) + off = Int.ofNat t) (h : Ev P μ d t ls st σ c s r) : Ev P μ d pc ls st σ c s r := by
  obtain ⟨n0, h⟩ := h
  refine Ev_of hf (n0 := n0) (fun n hn => ?_)
  show rjmp pc off (fun pcₚ => rrun P n μ d pcₚ ls st σ 0 [] c s) = _
  unfold rjmp
  rw [ht]
  show rn t _ = _
  rw [rn_eq]
  exact h n hn
theorem x_icmp_t {k : ClassFile.Cond} {off : Int} {t : Nat} {x y : Int32} (hf : P.1 μ pc = some (.if_icmp k off, len, act)) (ht : (pc : Int) + off = Int.ofNat t) (hb : rcmp (rcond k) x y = true) (h : Ev P μ d t ls st σ c s r) : Ev P μ d pc ls (.int y :: .int x :: st) σ c s r := by
  obtain ⟨n0, h⟩ := h
  refine Ev_of hf (n0 := n0) (fun n hn => ?_)
  show rjmp pc off (fun t => rbr (rcond k) (.int x) (.int y) [] (fun pa => rrun P n μ d t ls st σ 0 pa c s) (fun pa => rn (pc + 3) (fun pcₚ => rrun P n μ d pcₚ ls st σ 0 pa c s))) = _
  unfold rjmp
  rw [ht]
  show rn t _ = _
  rw [rn_eq]
  unfold rbr
  show (match rcmp (rcond k) x y with | true => _ | false => _) = _
  rw [hb]
  exact h n hn
theorem x_icmp_f {k : ClassFile.Cond} {off : Int} {t : Nat} {x y : Int32} (hf : P.1 μ pc = some (.if_icmp k off, len, act)) (ht : (pc : Int) + off = Int.ofNat t) (hb : rcmp (rcond k) x y = false) (h : Ev P μ d (pc + 3) ls st σ c s r) : Ev P μ d pc ls (.int y :: .int x :: st) σ c s r := by
  obtain ⟨n0, h⟩ := h
  refine Ev_of hf (n0 := n0) (fun n hn => ?_)
  show rjmp pc off (fun t => rbr (rcond k) (.int x) (.int y) [] (fun pa => rrun P n μ d t ls st σ 0 pa c s) (fun pa => rn (pc + 3) (fun pcₚ => rrun P n μ d pcₚ ls st σ 0 pa c s))) = _
  unfold rjmp
  rw [ht]
  show rn t _ = _
  rw [rn_eq]
  unfold rbr
  show (match rcmp (rcond k) x y with | true => _ | false => _) = _
  rw [hb]
  show rn (pc + 3) _ = _
  rw [rn_eq]
  exact h n hn
theorem x_ifc_t {k : ClassFile.Cond} {off : Int} {t : Nat} {x : Int32} (hf : P.1 μ pc = some (.ifCond k off, len, act)) (ht : (pc : Int) + off = Int.ofNat t) (hb : rcmp (rcond k) x 0 = true) (h : Ev P μ d t ls st σ c s r) : Ev P μ d pc ls (.int x :: st) σ c s r := by
  obtain ⟨n0, h⟩ := h
  refine Ev_of hf (n0 := n0) (fun n hn => ?_)
  show rjmp pc off (fun t => rbr (rcond k) (.int x) (.int 0) [] (fun pa => rrun P n μ d t ls st σ 0 pa c s) (fun pa => rn (pc + 3) (fun pcₚ => rrun P n μ d pcₚ ls st σ 0 pa c s))) = _
  unfold rjmp
  rw [ht]
  show rn t _ = _
  rw [rn_eq]
  unfold rbr
  show (match rcmp (rcond k) x 0 with | true => _ | false => _) = _
  rw [hb]
  exact h n hn
theorem x_ifc_f {k : ClassFile.Cond} {off : Int} {t : Nat} {x : Int32} (hf : P.1 μ pc = some (.ifCond k off, len, act)) (ht : (pc : Int) + off = Int.ofNat t) (hb : rcmp (rcond k) x 0 = false) (h : Ev P μ d (pc + 3) ls st σ c s r) : Ev P μ d pc ls (.int x :: st) σ c s r := by
  obtain ⟨n0, h⟩ := h
  refine Ev_of hf (n0 := n0) (fun n hn => ?_)
  show rjmp pc off (fun t => rbr (rcond k) (.int x) (.int 0) [] (fun pa => rrun P n μ d t ls st σ 0 pa c s) (fun pa => rn (pc + 3) (fun pcₚ => rrun P n μ d pcₚ ls st σ 0 pa c s))) = _
  unfold rjmp
  rw [ht]
  show rn t _ = _
  rw [rn_eq]
  unfold rbr
  show (match rcmp (rcond k) x 0 with | true => _ | false => _) = _
  rw [hb]
  show rn (pc + 3) _ = _
  rw [rn_eq]
  exact h n hn
theorem x_ifnull_t {off : Int} {t : Nat} (hf : P.1 μ pc = some (.ifnull off, len, act)) (ht : (pc : Int) + off = Int.ofNat t) (h : Ev P μ d t ls st σ c s r) : Ev P μ d pc ls (.null :: st) σ c s r := by
  obtain ⟨n0, h⟩ := h
  refine Ev_of hf (n0 := n0) (fun n hn => ?_)
  show rjmp pc off (fun pcₚ => rrun P n μ d pcₚ ls st σ 0 [] c s) = _
  unfold rjmp
  rw [ht]
  show rn t _ = _
  rw [rn_eq]
  exact h n hn
theorem x_ifnull_f {off : Int} {t a : Nat} (hf : P.1 μ pc = some (.ifnull off, len, act)) (ht : (pc : Int) + off = Int.ofNat t) (h : Ev P μ d (pc + 3) ls st σ c s r) : Ev P μ d pc ls (.ref a :: st) σ c s r := by
  obtain ⟨n0, h⟩ := h
  refine Ev_of hf (n0 := n0) (fun n hn => ?_)
  show rn (pc + 3) (fun pcₚ => rrun P n μ d pcₚ ls st σ 0 [] c s) = _
  rw [rn_eq]
  exact h n hn
theorem x_ifnonnull_t {off : Int} {t a : Nat} (hf : P.1 μ pc = some (.ifnonnull off, len, act)) (ht : (pc : Int) + off = Int.ofNat t) (h : Ev P μ d t ls st σ c s r) : Ev P μ d pc ls (.ref a :: st) σ c s r := by
  obtain ⟨n0, h⟩ := h
  refine Ev_of hf (n0 := n0) (fun n hn => ?_)
  show rjmp pc off (fun pcₚ => rrun P n μ d pcₚ ls st σ 0 [] c s) = _
  unfold rjmp
  rw [ht]
  show rn t _ = _
  rw [rn_eq]
  exact h n hn
theorem x_ifnonnull_f {off : Int} {t : Nat} (hf : P.1 μ pc = some (.ifnonnull off, len, act)) (ht : (pc : Int) + off = Int.ofNat t) (h : Ev P μ d (pc + 3) ls st σ c s r) : Ev P μ d pc ls (.null :: st) σ c s r := by
  obtain ⟨n0, h⟩ := h
  refine Ev_of hf (n0 := n0) (fun n hn => ?_)
  show rn (pc + 3) (fun pcₚ => rrun P n μ d pcₚ ls st σ 0 [] c s) = _
  rw [rn_eq]
  exact h n hn
theorem x_acmp_t {off : Int} {t a b : Nat} (hf : P.1 μ pc = some (.if_acmp .ne off, len, act)) (ht : (pc : Int) + off = Int.ofNat t) (hb : Nat.beq a b = false) (hs : Nat.ble P.2.2.2.2.2.2.1 b = true) (h : Ev P μ d t ls st σ c s r) : Ev P μ d pc ls (.ref b :: .ref a :: st) σ c s r := by
  obtain ⟨n0, h⟩ := h
  refine Ev_of hf (n0 := n0) (fun n hn => ?_)
  show rjmp pc off (fun t => match Nat.beq a b with | true => _ | false => _) = _
  unfold rjmp
  rw [ht]
  show rn t _ = _
  rw [rn_eq]
  show (match Nat.beq a b with | true => _ | false => _) = _
  rw [hb]
  show (match Nat.ble P.2.2.2.2.2.2.1 b with | true => _ | false => _) = _
  rw [hs]
  exact h n hn
theorem x_acmp_n {off : Int} {t b : Nat} (hf : P.1 μ pc = some (.if_acmp .ne off, len, act)) (ht : (pc : Int) + off = Int.ofNat t) (h : Ev P μ d t ls st σ c s r) : Ev P μ d pc ls (.ref b :: .null :: st) σ c s r := by
  obtain ⟨n0, h⟩ := h
  refine Ev_of hf (n0 := n0) (fun n hn => ?_)
  show rjmp pc off (fun pcₚ => rrun P n μ d pcₚ ls st σ 0 [] c s) = _
  unfold rjmp
  rw [ht]
  show rn t _ = _
  rw [rn_eq]
  exact h n hn
theorem x_acmp_f {off : Int} {t a b : Nat} (hf : P.1 μ pc = some (.if_acmp .ne off, len, act)) (ht : (pc : Int) + off = Int.ofNat t) (hb : Nat.beq a b = true) (h : Ev P μ d (pc + 3) ls st σ c s r) : Ev P μ d pc ls (.ref b :: .ref a :: st) σ c s r := by
  obtain ⟨n0, h⟩ := h
  refine Ev_of hf (n0 := n0) (fun n hn => ?_)
  show rjmp pc off (fun t => match Nat.beq a b with | true => _ | false => _) = _
  unfold rjmp
  rw [ht]
  show rn t _ = _
  rw [rn_eq]
  show (match Nat.beq a b with | true => _ | false => _) = _
  rw [hb]
  show rn (pc + 3) (fun pcₚ => rrun P n μ d pcₚ ls st σ 0 [] c s) = _
  rw [rn_eq]
  exact h n hn
theorem x_lsw {dflt : Int} {pairs : Array (Int × Int)} {x : Int32} {t : Nat} (hf : P.1 μ pc = some (.lookupswitch dflt pairs, len, act)) (ht : (pc : Int) + rpick x.toInt dflt pairs.toList = Int.ofNat t) (h : Ev P μ d t ls st σ c s r) : Ev P μ d pc ls (.int x :: st) σ c s r := by
  obtain ⟨n0, h⟩ := h
  refine Ev_of hf (n0 := n0) (fun n hn => ?_)
  show rjmp pc (rpick x.toInt dflt pairs.toList) (fun pcₚ => rrun P n μ d pcₚ ls st σ 0 [] c s) = _
  unfold rjmp
  rw [ht]
  show rn t _ = _
  rw [rn_eq]
  exact h n hn
theorem x_tsk {dflt lo hi off : Int} {offs : Array Int} {x : Int32} {t k : Nat} (hf : P.1 μ pc = some (.tableswitch dflt lo hi offs, len, act)) (hx : x.toInt = lo + k) (hk : lo + k ≤ hi) (ho : offs[k]? = some off) (ht : (pc : Int) + off = Int.ofNat t) (h : Ev P μ d t ls st σ c s r) : Ev P μ d pc ls (.int x :: st) σ c s r := by
  obtain ⟨n0, h⟩ := h
  refine Ev_of hf (n0 := n0) (fun n hn => ?_)
  show rsw pc dflt lo hi offs x (fun pcₚ => rrun P n μ d pcₚ ls st σ 0 [] c s) = _
  unfold rsw
  rw [show (decide (x.toInt < lo) || decide (hi < x.toInt)) = false from by rw [decide_eq_false (by omega), decide_eq_false (by omega)]; rfl]
  show (match offs[(x.toInt - lo).toNat]? with | some off => _ | none => _) = _
  rw [show (x.toInt - lo).toNat = k from by omega, ho]
  show rjmp pc off (fun pcₚ => rrun P n μ d pcₚ ls st σ 0 [] c s) = _
  unfold rjmp
  rw [ht]
  show rn t _ = _
  rw [rn_eq]
  exact h n hn
theorem x_tsd {dflt lo hi : Int} {offs : Array Int} {x : Int32} {t : Nat} (hf : P.1 μ pc = some (.tableswitch dflt lo hi offs, len, act)) (hx : x.toInt < lo ∨ hi < x.toInt) (ht : (pc : Int) + dflt = Int.ofNat t) (h : Ev P μ d t ls st σ c s r) : Ev P μ d pc ls (.int x :: st) σ c s r := by
  obtain ⟨n0, h⟩ := h
  refine Ev_of hf (n0 := n0) (fun n hn => ?_)
  show rsw pc dflt lo hi offs x (fun pcₚ => rrun P n μ d pcₚ ls st σ 0 [] c s) = _
  unfold rsw
  rw [show (decide (x.toInt < lo) || decide (hi < x.toInt)) = true from by rcases hx with hx | hx; (rw [decide_eq_true hx]; rfl); (rw [decide_eq_true hx, Bool.or_true])]
  show rjmp pc dflt (fun pcₚ => rrun P n μ d pcₚ ls st σ 0 [] c s) = _
  unfold rjmp
  rw [ht]
  show rn t _ = _
  rw [rn_eq]
  exact h n hn
theorem x_getfield {x a q ci kf : Nat} {z : Value} {fs : List Value} {v : Value} (hf : P.1 μ pc = some (.getfield x, len, (q, ci, kf, z))) (hc : rat σ a = some (.inl (ci, fs))) (hk : rnth fs kf = some v) (h : Ev P μ d (pc + 3) ls (v :: st) σ c s r) : Ev P μ d pc ls (.ref a :: st) σ c s r := by
  obtain ⟨n0, h⟩ := h
  refine Ev_of hf (n0 := n0) (fun n hn => ?_)
  show rget σ (.ref a) ci kf (fun v => rn (pc + 3) (fun pcₚ => rrun P n μ d pcₚ ls (v :: st) σ 0 [] c s)) = _
  unfold rget
  simp only [hc, hk, Nat.beq_refl, rn_eq]
  exact h n hn
theorem x_putfield {x a q ci kf tag : Nat} {fs : List Value} {v : Value} (hf : P.1 μ pc = some (.putfield x, len, (q, ci, kf, .ref tag))) (hp : (Nat.blt tag 8 || (Nat.blt tag 16 && P.2.2.2.1 μ)) = true) (hc : rat σ a = some (.inl (ci, fs))) (hk : kf < fs.length) (hB : P.2.2.2.2.2.2.1 ≤ a) (hv : rfit (tag % 8) v = true) (h : Ev P μ d (pc + 3) ls st (rstl σ a (.inl (ci, rstl fs kf v))) c s r) : Ev P μ d pc ls (v :: .ref a :: st) σ c s r := by
  obtain ⟨n0, h⟩ := h
  refine Ev_of hf (n0 := n0) (fun n hn => ?_)
  show (match Nat.blt tag 8 || (Nat.blt tag 16 && P.2.2.2.1 μ) with | true => rput P.2.2.2.2.2.2.1 σ (.ref a) v ci kf (tag % 8) (fun σ => rn (pc + 3) (fun pcₚ => rrun P n μ d pcₚ ls st σ 0 [] c s)) | false => none) = _
  rw [hp]
  show rput P.2.2.2.2.2.2.1 σ (.ref a) v ci kf (tag % 8) (fun σ => rn (pc + 3) (fun pcₚ => rrun P n μ d pcₚ ls st σ 0 [] c s)) = _
  unfold rput
  simp only [hc]
  rw [show (Nat.beq ci ci && (Nat.ble P.2.2.2.2.2.2.1 a && (rfit (tag % 8) v && Nat.blt kf fs.length))) = true from by rw [Nat.beq_refl, Nat.ble_eq.mpr hB, hv, show Nat.blt kf fs.length = true from Nat.ble_eq.mpr hk]; rfl]
  show rn (pc + 3) _ = _
  rw [rn_eq]
  exact h n hn
theorem x_getstatic {x a b e : Nat} {z : Value} (hf : P.1 μ pc = some (.getstatic x, len, (a, b, e, z))) (h : Ev P μ d (pc + 3) ls (.ref b :: st) σ c s r) : Ev P μ d pc ls st σ c s r := by
  obtain ⟨n0, h⟩ := h
  refine Ev_of hf (n0 := n0) (fun n hn => ?_)
  show rn (pc + 3) (fun pcₚ => rrun P n μ d pcₚ ls (.ref b :: st) σ 0 [] c s) = _
  rw [rn_eq]
  exact h n hn
theorem rplace_eq {a x : Nat} {q : Nat × Nat × Value × rO} {j : Int32} {k : Nat → Nat × Nat × Value × rO → Nat → Option rR} (hc : rat σ a = some (.inr q)) (hj : decide (j < 0) = false) (hx : j.toNatClampNeg = x) (hlt : x < q.2.1) : rplace σ (.ref a) (.int j) k = k a q x := by
  unfold rplace
  simp only [hc, hj, rn_eq, hx]
  rw [show Nat.blt x q.2.1 = true from Nat.ble_eq.mpr hlt]
theorem x_iaload {a N x : Nat} {dv : Value} {ov : rO} {j : Int32} {w : Int32} (hf : P.1 μ pc = some (.iaload, len, act)) (hc : rat σ a = some (.inr (1, N, dv, ov))) (hj : decide (j < 0) = false) (hx : j.toNatClampNeg = x) (hlt : x < N) (hv : rlk ov dv x = .int w) (h : Ev P μ d (pc + 1) ls (.int w :: st) σ c s r) : Ev P μ d pc ls (.int j :: .ref a :: st) σ c s r := by
  obtain ⟨n0, h⟩ := h
  refine Ev_of hf (n0 := n0) (fun n hn => ?_)
  show rald 1 σ (.ref a) (.int j) (fun v => match risI v with | true => rconc v [] (fun v pa => rn (pc + 1) (fun pcₚ => rrun P n μ d pcₚ ls (v :: st) σ 0 pa c s)) | false => none) = _
  unfold rald
  rw [rplace_eq hc hj hx hlt]
  show (match risI (rlk ov dv x) with | true => _ | false => _) = _
  rw [hv]
  show rn (pc + 1) _ = _
  rw [rn_eq]
  exact h n hn
theorem x_baload {a N x : Nat} {dv : Value} {ov : rO} {j : Int32} {w : Int32} (hf : P.1 μ pc = some (.baload, len, act)) (hc : rat σ a = some (.inr (0, N, dv, ov))) (hj : decide (j < 0) = false) (hx : j.toNatClampNeg = x) (hlt : x < N) (hv : rlk ov dv x = .int w) (h : Ev P μ d (pc + 1) ls (.int w :: st) σ c s r) : Ev P μ d pc ls (.int j :: .ref a :: st) σ c s r := by
  obtain ⟨n0, h⟩ := h
  refine Ev_of hf (n0 := n0) (fun n hn => ?_)
  show (match rkz σ (.ref a) with | false => rald 0 σ (.ref a) (.int j) (fun v => match risI v with | true => rn (pc + 1) (fun pcₚ => rrun P n μ d pcₚ ls (v :: st) σ 0 [] c s) | false => none) | true => rald 3 σ (.ref a) (.int j) (fun v => match rbool v with | true => rn (pc + 1) (fun pcₚ => rrun P n μ d pcₚ ls (v :: st) σ 0 [] c s) | false => none)) = _
  rw [show rkz σ (.ref a) = false from by unfold rkz; simp only [hc]; rfl]
  show rald 0 σ (.ref a) (.int j) (fun v => match risI v with | true => rn (pc + 1) (fun pcₚ => rrun P n μ d pcₚ ls (v :: st) σ 0 [] c s) | false => none) = _
  unfold rald
  rw [rplace_eq hc hj hx hlt]
  show (match risI (rlk ov dv x) with | true => _ | false => _) = _
  rw [hv]
  show rn (pc + 1) _ = _
  rw [rn_eq]
  exact h n hn
theorem x_baloadZ {a N x : Nat} {dv : Value} {ov : rO} {j : Int32} {w : Int32} (hf : P.1 μ pc = some (.baload, len, act)) (hc : rat σ a = some (.inr (3, N, dv, ov))) (hj : decide (j < 0) = false) (hx : j.toNatClampNeg = x) (hlt : x < N) (hv : rlk ov dv x = .int w) (hb : rbool (.int w) = true) (h : Ev P μ d (pc + 1) ls (.int w :: st) σ c s r) : Ev P μ d pc ls (.int j :: .ref a :: st) σ c s r := by
  obtain ⟨n0, h⟩ := h
  refine Ev_of hf (n0 := n0) (fun n hn => ?_)
  show (match rkz σ (.ref a) with | false => rald 0 σ (.ref a) (.int j) (fun v => match risI v with | true => rn (pc + 1) (fun pcₚ => rrun P n μ d pcₚ ls (v :: st) σ 0 [] c s) | false => none) | true => rald 3 σ (.ref a) (.int j) (fun v => match rbool v with | true => rn (pc + 1) (fun pcₚ => rrun P n μ d pcₚ ls (v :: st) σ 0 [] c s) | false => none)) = _
  rw [show rkz σ (.ref a) = true from by unfold rkz; simp only [hc]; rfl]
  show rald 3 σ (.ref a) (.int j) (fun v => match rbool v with | true => rn (pc + 1) (fun pcₚ => rrun P n μ d pcₚ ls (v :: st) σ 0 [] c s) | false => none) = _
  unfold rald
  rw [rplace_eq hc hj hx hlt]
  show (match rbool (rlk ov dv x) with | true => _ | false => _) = _
  rw [hv, hb]
  show rn (pc + 1) _ = _
  rw [rn_eq]
  exact h n hn
theorem x_laload {a N x : Nat} {dv : Value} {ov : rO} {j : Int32} {w : Int64} (hf : P.1 μ pc = some (.laload, len, act)) (hc : rat σ a = some (.inr (2, N, dv, ov))) (hj : decide (j < 0) = false) (hx : j.toNatClampNeg = x) (hlt : x < N) (hv : rlk ov dv x = .long w) (h : Ev P μ d (pc + 1) ls (.long w :: st) σ c s r) : Ev P μ d pc ls (.int j :: .ref a :: st) σ c s r := by
  obtain ⟨n0, h⟩ := h
  refine Ev_of hf (n0 := n0) (fun n hn => ?_)
  show rald 2 σ (.ref a) (.int j) (fun v => match risL v with | true => rn (pc + 1) (fun pcₚ => rrun P n μ d pcₚ ls (v :: st) σ 0 [] c s) | false => none) = _
  unfold rald
  rw [rplace_eq hc hj hx hlt]
  show (match risL (rlk ov dv x) with | true => _ | false => _) = _
  rw [hv]
  show rn (pc + 1) _ = _
  rw [rn_eq]
  exact h n hn
theorem x_iastore {a N x : Nat} {dv : Value} {ov : rO} {j : Int32} {w : Int32} (hf : P.1 μ pc = some (.iastore, len, act)) (hc : rat σ a = some (.inr (1, N, dv, ov))) (hj : decide (j < 0) = false) (hx : j.toNatClampNeg = x) (hlt : x < N) (hB : P.2.2.2.2.2.2.1 ≤ a) (h : Ev P μ d (pc + 1) ls st (rstl σ a (.inr (1, N, dv, rup ov x (.int w)))) c s r) : Ev P μ d pc ls (.int w :: .int j :: .ref a :: st) σ c s r := by
  obtain ⟨n0, h⟩ := h
  refine Ev_of hf (n0 := n0) (fun n hn => ?_)
  show rast 1 0 P.2.2.2.2.2.2.1 σ (.ref a) (.int j) (.int w) (fun σ => rn (pc + 1) (fun pcₚ => rrun P n μ d pcₚ ls st σ 0 [] c s)) = _
  unfold rast
  rw [rplace_eq hc hj hx hlt]
  show (match Nat.beq 1 1 && (Nat.ble P.2.2.2.2.2.2.1 a && rfit 0 (.int w)) with | true => _ | false => _) = _
  rw [show Nat.ble P.2.2.2.2.2.2.1 a = true from Nat.ble_eq.mpr hB]
  show rn (pc + 1) _ = _
  rw [rn_eq]
  exact h n hn
theorem x_lastore {a N x : Nat} {dv : Value} {ov : rO} {j : Int32} {w : Int64} (hf : P.1 μ pc = some (.lastore, len, act)) (hc : rat σ a = some (.inr (2, N, dv, ov))) (hj : decide (j < 0) = false) (hx : j.toNatClampNeg = x) (hlt : x < N) (hB : P.2.2.2.2.2.2.1 ≤ a) (h : Ev P μ d (pc + 1) ls st (rstl σ a (.inr (2, N, dv, rup ov x (.long w)))) c s r) : Ev P μ d pc ls (.long w :: .int j :: .ref a :: st) σ c s r := by
  obtain ⟨n0, h⟩ := h
  refine Ev_of hf (n0 := n0) (fun n hn => ?_)
  show rast 2 2 P.2.2.2.2.2.2.1 σ (.ref a) (.int j) (.long w) (fun σ => rn (pc + 1) (fun pcₚ => rrun P n μ d pcₚ ls st σ 0 [] c s)) = _
  unfold rast
  rw [rplace_eq hc hj hx hlt]
  show (match Nat.beq 2 2 && (Nat.ble P.2.2.2.2.2.2.1 a && rfit 2 (.long w)) with | true => _ | false => _) = _
  rw [show Nat.ble P.2.2.2.2.2.2.1 a = true from Nat.ble_eq.mpr hB]
  show rn (pc + 1) _ = _
  rw [rn_eq]
  exact h n hn
theorem x_bastore {a N x : Nat} {dv : Value} {ov : rO} {j : Int32} {w : Int32} {z : Int} (hf : P.1 μ pc = some (.bastore, len, act)) (hc : rat σ a = some (.inr (0, N, dv, ov))) (hj : decide (j < 0) = false) (hx : j.toNatClampNeg = x) (hlt : x < N) (hB : P.2.2.2.2.2.2.1 ≤ a) (hz : ruop 1 w = Int32.ofInt z) (h : Ev P μ d (pc + 1) ls st (rstl σ a (.inr (0, N, dv, rup ov x (I z)))) c s r) : Ev P μ d pc ls (.int w :: .int j :: .ref a :: st) σ c s r := by
  obtain ⟨n0, h⟩ := h
  refine Ev_of hf (n0 := n0) (fun n hn => ?_)
  show (match rkz σ (.ref a) with | false => runi 1 (.int w) 0 (fun v k => rast 0 0 P.2.2.2.2.2.2.1 σ (.ref a) (.int j) v (fun σ => rn (pc + 1) (fun pcₚ => rrun P n μ d pcₚ ls st σ k [] c s))) | true => rast 3 1 P.2.2.2.2.2.2.1 σ (.ref a) (.int j) (.int w) (fun σ => rn (pc + 1) (fun pcₚ => rrun P n μ d pcₚ ls st σ 0 [] c s))) = _
  rw [show rkz σ (.ref a) = false from by unfold rkz; simp only [hc]; rfl]
  show rci (ruop 1 w) (fun v => rast 0 0 P.2.2.2.2.2.2.1 σ (.ref a) (.int j) (.int v) (fun σ => rn (pc + 1) (fun pcₚ => rrun P n μ d pcₚ ls st σ 0 [] c s))) = _
  rw [rci_eq, hz]
  unfold rast
  rw [rplace_eq hc hj hx hlt]
  show (match Nat.beq 0 0 && (Nat.ble P.2.2.2.2.2.2.1 a && rfit 0 (I z)) with | true => _ | false => _) = _
  rw [show Nat.ble P.2.2.2.2.2.2.1 a = true from Nat.ble_eq.mpr hB]
  show rn (pc + 1) _ = _
  rw [rn_eq]
  exact h n hn
theorem x_bastoreZ {a N x : Nat} {dv : Value} {ov : rO} {j : Int32} {w : Int32} (hf : P.1 μ pc = some (.bastore, len, act)) (hc : rat σ a = some (.inr (3, N, dv, ov))) (hj : decide (j < 0) = false) (hx : j.toNatClampNeg = x) (hlt : x < N) (hB : P.2.2.2.2.2.2.1 ≤ a) (hb : rbool (.int w) = true) (h : Ev P μ d (pc + 1) ls st (rstl σ a (.inr (3, N, dv, rup ov x (.int w)))) c s r) : Ev P μ d pc ls (.int w :: .int j :: .ref a :: st) σ c s r := by
  obtain ⟨n0, h⟩ := h
  refine Ev_of hf (n0 := n0) (fun n hn => ?_)
  show (match rkz σ (.ref a) with | false => runi 1 (.int w) 0 (fun v k => rast 0 0 P.2.2.2.2.2.2.1 σ (.ref a) (.int j) v (fun σ => rn (pc + 1) (fun pcₚ => rrun P n μ d pcₚ ls st σ k [] c s))) | true => rast 3 1 P.2.2.2.2.2.2.1 σ (.ref a) (.int j) (.int w) (fun σ => rn (pc + 1) (fun pcₚ => rrun P n μ d pcₚ ls st σ 0 [] c s))) = _
  rw [show rkz σ (.ref a) = true from by unfold rkz; simp only [hc]; rfl]
  show rast 3 1 P.2.2.2.2.2.2.1 σ (.ref a) (.int j) (.int w) (fun σ => rn (pc + 1) (fun pcₚ => rrun P n μ d pcₚ ls st σ 0 [] c s)) = _
  unfold rast
  rw [rplace_eq hc hj hx hlt]
  show (match Nat.beq 3 3 && (Nat.ble P.2.2.2.2.2.2.1 a && rbool (.int w)) with | true => _ | false => _) = _
  rw [hb]
  rw [show Nat.ble P.2.2.2.2.2.2.1 a = true from Nat.ble_eq.mpr hB]
  show rn (pc + 1) _ = _
  rw [rn_eq]
  exact h n hn
theorem x_return (hf : P.1 μ pc = some (.return_, len, act)) : Ev P μ d pc ls [] σ c s (none, σ, 0, [], c, s) := Ev_of hf (n0 := 0) (fun _ _ => rfl)
theorem x_ireturn {v : Int32} (hf : P.1 μ pc = some (.ireturn, len, act)) : Ev P μ d pc ls [.int v] σ c s (some (.int v), σ, 0, [], c, s) := Ev_of hf (n0 := 0) (fun _ _ => rfl)
theorem x_lreturn {v : Int64} (hf : P.1 μ pc = some (.lreturn, len, act)) : Ev P μ d pc ls [.long v] σ c s (some (.long v), σ, 0, [], c, s) := Ev_of hf (n0 := 0) (fun _ _ => rfl)
theorem x_areturn {v : Nat} (hf : P.1 μ pc = some (.areturn, len, act)) : Ev P μ d pc ls [.ref v] σ c s (some (.ref v), σ, 0, [], c, s) := Ev_of hf (n0 := 0) (fun _ _ => rfl)
theorem x_call {μ' n q : Nat} {ci : Value} {i : Instr} {vs rest : List Value} {v : Option Value} {σₚ : rS} {cₚ sₚ : Nat} (hP : P.2.2.2.2.2.2.2 = []) (hf : P.1 μ pc = some (i, len, (q, μ', n, ci)))
    (hi : ∀ rec : rF, rinstr P rec μ (d + 1) pc ls st σ 0 [] c s i len (q, μ', n, ci) = rcall P.2.1 P.2.2.1 P.2.2.2.2.2.2.2 rec μ (d + 1) pc ls μ' vs rest σ 0 [] c s)
    (hw : (Nat.ble (rwords rest) 8 && Nat.ble (rwords vs) (P.2.1 μ')) = true) (hr : rretok (P.2.2.1 μ') v = true)
    (h1 : Ev P μ' d 0 (rargs 0 vs) [] σ 0 0 (v, σₚ, 0, [], cₚ, sₚ)) (h : Ev P μ (d + 1) (pc + 3) ls (v.toList ++ rest) σₚ (c + cₚ) (s + sₚ) r) : Ev P μ (d + 1) pc ls st σ c s r := by
  obtain ⟨n1, h1⟩ := h1
  obtain ⟨n0, h⟩ := h
  refine Ev_of hf (n0 := max n0 n1) (fun n hn => ?_)
  rw [hi, hP]
  unfold rcall
  simp only [hw]
  show (match rrun P n μ' d 0 (rargs 0 vs) [] σ 0 [] 0 0 with | some z => (match rretok (P.2.2.1 μ') z.2.1 with | true => rafter z.1 (rn (pc + 3) (fun pcₚ => rrun P n μ (d + 1) pcₚ ls (z.2.1.toList ++ rest) z.2.2.1 z.2.2.2.1 z.2.2.2.2.1 (c + z.2.2.2.2.2.1) (s + z.2.2.2.2.2.2))) | false => none) | none => none) = _
  rw [h1 n (by omega)]
  show (match rretok (P.2.2.1 μ') v with | true => _ | false => _) = _
  rw [hr]
  show rn (pc + 3) _ = _
  rw [rn_eq]
  exact h n (by omega)
theorem rat_same {a : Nat} {q qₚ : rC} (h : rat σ a = some qₚ) : rat (rstl σ a q) a = some q := by
  rw [rat_eq] at *
  rw [rstl_eq]
  obtain ⟨hl, -⟩ := List.getElem?_eq_some_iff.mp h
  simp [List.getElem?_set, hl]
theorem rat_other {a b : Nat} {q : rC} (h : a ≠ b) : rat (rstl σ a q) b = rat σ b := by
  rw [rat_eq, rat_eq, rstl_eq]
  simp [List.getElem?_set, h]
theorem rstl_twice {a : Nat} {q qₚ : rC} : rstl (rstl σ a q) a qₚ = rstl σ a qₚ := by
  simp only [rstl_eq, List.set_set]
end EV
