/-! THE CLAIM OUT OF ONE WALK OF THE LAW'S BODY. Your part is whole_start (and what it stands on); all else here is the same for every law, but numbers. -/
def R_law : String := "PackHouseLaw"
def lw_P (b : Addr) (xs : List Int32) (args : Array Value) (s : State) : Prop := args = #[.ref b] ∧ s.IntsAt b xs ∧ xs.length ≤ 3072 ∧ (Jvm.Cond.and given_1 narrow_1).before args s = true
theorem law_okR {L : Nat} (hL : L ≤ 3072) (xs : Nat → Int32) : ∃ σₚ cₚ sₚ, Ev PP 455 14 0 (rargs 0 [.ref 11]) [] (statW L xs) 0 0 (some (I 1), σₚ, 0, [], cₚ, sₚ) ∧ cₚ ≤ room_1.cells ∧ sₚ ≤ room_1.slots := by
  have w := law_start (d := 0) (L := L) (xs := fun j => if j < L then (xs j).toInt else 0) (σ := statW L xs) (Q := fun v σ c s => v = some (I 1) ∧ c ≤ 60000 ∧ s ≤ 7302250) statW_T statW_S statW_len (fun j => by
    show inr (if j < L then (xs j).toInt else 0)
    split
    · exact toI_inr _
    · decide) hL (fun Dc g σ D N F A c s X h1 h2 => by
    have b := PB X
    exact ⟨rfl, by omega, by omega⟩)
  obtain ⟨v, σₚ, cₚ, sₚ, h, rfl, h1, h2⟩ := w
  exact ⟨σₚ, cₚ, sₚ, h, Nat.le_trans h1 (Nat.le_of_ble_eq_true rfl), Nat.le_trans h2 (Nat.le_of_ble_eq_true rfl)⟩
def lw_Q (_ : Array Value) (s : State) (o : Outcome) (t : State) : Prop := o = .returned (some (.int 1)) ∧ Framed s o t [] room_1.cells room_1.slots
def lw_Z (below : List Frame) (a : Array Value) (s : State) : State → Prop := fun t => ∃ o, t.status = .running ∧ Ended t below o ∧ lw_Q a s o t
/-- the law's own end, with 1 on the stack, nothing written that was there before, its room as the claim has it -/
theorem lw_ret {p : Program} {l : Launch} {e : Env} {s : State} {m : MethodId} {below : List Frame} {meth : Method} {c : Code} {b : Nat} (hx : p.tables.exec = Jvm.exec) (hb : c.code = code) (hr : meth.sig.returnType = ret) (hlocks : meth.locks = false) {pc : Nat} {H : Heap} {ls : Array Slot} (hdg : decode code pc = .ok (.ireturn, 1)) : W p l e room_1 s m #[Value.ref b] below meth c H [] room_1.cells room_1.slots (lw_Z below #[Value.ref b] s) (F0 m pc ls [.int 1]) := by
  intro T hT X
  obtain ⟨fs, hret, hrun, hended, hW, hframe⟩ := X.leave (v := some (.int 1)) (hlocks := hlocks) (fun h => by rw [hr] at h; cases h)
  have hmeth' : T.vm.method? m = some meth := X.method'
  refine ⟨T.setFrames fs, ?_, .returned (some (.int 1)), hrun, hended, rfl, ⟨_, rfl⟩, hW, hframe⟩
  jvm_step X.here [X.here.top, hx, hb, hdg, hmeth', hr, ret, narrow_b1]
  (try refine ⟨rfl, ?_⟩); (try refine ⟨rfl, ?_⟩)
  first | (intro acts; rw [hret _ acts rfl rfl rfl]) | rw [hret _ _ rfl rfl rfl]
  exact Steps.refl _
/-- what holds at the law's entry: the machine, the code, the tables' words (any of lw_tbl by 'hts w (by decide +kernel)'), the script of L ints xs at the cell b, what the Statement gives of the start (any of its parts by flat_of_before) -/
def lw_At (p : Program) (s : State) (m : MethodId) (meth : Method) (c : Code) (b L : Nat) (xs : Nat → Int32) : Prop :=
  p.tables.exec = Jvm.exec ∧ c.code = code ∧ meth.sig.returnType = ret ∧ c.maxLocals = 4 ∧ s.vm.findClass R_law = some m.cls ∧ (∀ w ∈ lw_tbl, w.before #[Value.ref b] s = true) ∧ va_X b L xs s s.heap ∧ b < s.heap.size ∧ meth.locks = false ∧ (Jvm.Cond.and given_1 narrow_1).before #[Value.ref b] s = true
/-! the static arrays, as the Statement gives them -/
def rii : Value → Int32
  | .int v => v
  | _ => 0
abbrev rflat : List Jvm.Cond := flatC (Jvm.Cond.and given_1 narrow_1)
theorem rstatic {args : Array Value} {s : State} {n d : String} {ty : FieldType} {N p : Nat} {ov : rO} {A : Nat → Prop} (hs : ∀ c ∈ rflat, c.before args s = true) (hl : (Jvm.Cond.laysStatic "PackHouse" n d).before args s = true) (hini : (Jvm.Cond.initialized "PackHouse").before args s = true) (hN : N < 2 ^ 31) (hA : ∀ a : Nat, a < s.heap.size → ¬ A a)
    (h1 : rflat[p]? = some (.arrayOf (.static "PackHouse" n d) ty)) (h2 : rflat[p + 1]? = some (.eq (.length (.static "PackHouse" n d)) (.int (Int32.ofNat N)))) (h3 : (List.range N).map (fun j => Jvm.Cond.eq (.elem (.static "PackHouse" n d) (.int (Int32.ofNat j))) (.int (rii (rlk ov (.int 0) j)))) = (rflat.drop (p + 2)).take N) (h4 : (List.range N).all (fun j => decide (rlk ov (.int 0) j = .int (rii (rlk ov (.int 0) j)))) = true) :
    ∃ t : Nat, va_Z "PackHouse" n d (.ref t) A s s.heap ∧ ∀ (ν : rV) (ρ : Nat → Nat), va_T ty t N (fun j => rg ν ρ (rlk ov (.int 0) j)) A s s.heap := by
  have e1 := hs _ (List.mem_of_getElem? h1)
  have e2 := va_eqt (hs _ (List.mem_of_getElem? h2))
  have e3 : ∀ j : Nat, j < N → (Term.elem (.static "PackHouse" n d) (.int (Int32.ofNat j))).eval args s none [] s = some (.int (rii (rlk ov (.int 0) j))) := fun j hj => va_eqt (hs _ (va_run h3 j hj))
  obtain ⟨t, ht, hT⟩ := va_Tof (f := fun j => .int (rii (rlk ov (.int 0) j))) hN e1 e2 e3 hA
  refine ⟨t, va_Zof hl hini ht hA, fun ν ρ => ?_⟩
  obtain ⟨cell, c1, c2, c3, c4, c5, c6, c7⟩ := hT
  refine ⟨cell, c1, c2, c3, c4, c5, fun j hj => ?_, c7⟩
  have h := List.all_eq_true.mp h4 j (List.mem_range.mpr hj)
  rw [c6 j hj]
  show _ = some (rg ν ρ (rlk ov (.int 0) j))
  rw [of_decide_eq_true h]
  rfl
set_option maxRecDepth 100000 in
theorem sx0 {args : Array Value} {s : State} {A : Nat → Prop} (hs : ∀ c ∈ rflat, c.before args s = true) (ht : ∀ w ∈ lw_tbl, w.before args s = true) (hA : ∀ a : Nat, a < s.heap.size → ¬ A a) : ∃ t : Nat, va_Z "PackHouse" "TAG_MARK" "[B" (.ref t) A s s.heap ∧ ∀ (ν : rV) (ρ : Nat → Nat), va_T .byte t 10 (fun j => rg ν ρ (rlk (mov 0 (stl 0)) (.int 0) j)) A s s.heap := rstatic (p := 36) hs (ht _ (tv4 (List.mem_of_getElem? (i := 223) rfl))) (ht _ (tv1 (List.mem_of_getElem? (i := 1) rfl))) (by decide) hA (by decide +kernel) (by decide +kernel) (by decide +kernel) (by decide +kernel)
set_option maxRecDepth 100000 in
theorem sx1 {args : Array Value} {s : State} {A : Nat → Prop} (hs : ∀ c ∈ rflat, c.before args s = true) (ht : ∀ w ∈ lw_tbl, w.before args s = true) (hA : ∀ a : Nat, a < s.heap.size → ¬ A a) : ∃ t : Nat, va_Z "PackHouse" "POLYNOMIAL" "[I" (.ref t) A s s.heap ∧ ∀ (ν : rV) (ρ : Nat → Nat), va_T .int t 16 (fun j => rg ν ρ (rlk (mov 0 (stl 1)) (.int 0) j)) A s s.heap := rstatic (p := 5) hs (ht _ (tv2 (List.mem_of_getElem? (i := 109) rfl))) (ht _ (tv1 (List.mem_of_getElem? (i := 1) rfl))) (by decide) hA (by decide +kernel) (by decide +kernel) (by decide +kernel) (by decide +kernel)
set_option maxRecDepth 100000 in
theorem sx2 {args : Array Value} {s : State} {A : Nat → Prop} (hs : ∀ c ∈ rflat, c.before args s = true) (ht : ∀ w ∈ lw_tbl, w.before args s = true) (hA : ∀ a : Nat, a < s.heap.size → ¬ A a) : ∃ t : Nat, va_Z "PackHouse" "GREATEST_ORDERS" "[I" (.ref t) A s s.heap ∧ ∀ (ν : rV) (ρ : Nat → Nat), va_T .int t 3 (fun j => rg ν ρ (rlk (mov 0 (stl 2)) (.int 0) j)) A s s.heap := rstatic (p := 24) hs (ht _ (tv3 (List.mem_of_getElem? (i := 43) rfl))) (ht _ (tv1 (List.mem_of_getElem? (i := 1) rfl))) (by decide) hA (by decide +kernel) (by decide +kernel) (by decide +kernel) (by decide +kernel)
set_option maxRecDepth 100000 in
theorem sx3 {args : Array Value} {s : State} {A : Nat → Prop} (hs : ∀ c ∈ rflat, c.before args s = true) (ht : ∀ w ∈ lw_tbl, w.before args s = true) (hA : ∀ a : Nat, a < s.heap.size → ¬ A a) : ∃ t : Nat, va_Z "PackHouse" "LAST_SYMBOLS" "[I" (.ref t) A s s.heap ∧ ∀ (ν : rV) (ρ : Nat → Nat), va_T .int t 3 (fun j => rg ν ρ (rlk (mov 0 (stl 3)) (.int 0) j)) A s s.heap := rstatic (p := 30) hs (ht _ (tv3 (List.mem_of_getElem? (i := 45) rfl))) (ht _ (tv1 (List.mem_of_getElem? (i := 1) rfl))) (by decide) hA (by decide +kernel) (by decide +kernel) (by decide +kernel) (by decide +kernel)
set_option maxRecDepth 100000 in
theorem sx4 {args : Array Value} {s : State} {A : Nat → Prop} (hs : ∀ c ∈ rflat, c.before args s = true) (ht : ∀ w ∈ lw_tbl, w.before args s = true) (hA : ∀ a : Nat, a < s.heap.size → ¬ A a) : ∃ t : Nat, va_Z "PackHouse" "KNOWN_LITERALS" "[I" (.ref t) A s s.heap ∧ ∀ (ν : rV) (ρ : Nat → Nat), va_T .int t 36 (fun j => rg ν ρ (rlk (mov 0 (stl 4)) (.int 0) j)) A s s.heap := rstatic (p := 49) hs (ht _ (tv5 (List.mem_of_getElem? (i := 6) rfl))) (ht _ (tv1 (List.mem_of_getElem? (i := 1) rfl))) (by decide) hA (by decide +kernel) (by decide +kernel) (by decide +kernel) (by decide +kernel)
set_option maxRecDepth 100000 in
theorem sx5 {args : Array Value} {s : State} {A : Nat → Prop} (hs : ∀ c ∈ rflat, c.before args s = true) (ht : ∀ w ∈ lw_tbl, w.before args s = true) (hA : ∀ a : Nat, a < s.heap.size → ¬ A a) : ∃ t : Nat, va_Z "PackHouse" "KNOWN_DISTANCES" "[I" (.ref t) A s s.heap ∧ ∀ (ν : rV) (ρ : Nat → Nat), va_T .int t 29 (fun j => rg ν ρ (rlk (mov 0 (stl 5)) (.int 0) j)) A s s.heap := rstatic (p := 88) hs (ht _ (tv5 (List.mem_of_getElem? (i := 13) rfl))) (ht _ (tv1 (List.mem_of_getElem? (i := 1) rfl))) (by decide) hA (by decide +kernel) (by decide +kernel) (by decide +kernel) (by decide +kernel)
set_option maxRecDepth 100000 in
theorem sx6 {args : Array Value} {s : State} {A : Nat → Prop} (hs : ∀ c ∈ rflat, c.before args s = true) (ht : ∀ w ∈ lw_tbl, w.before args s = true) (hA : ∀ a : Nat, a < s.heap.size → ¬ A a) : ∃ t : Nat, va_Z "PackHouse" "KNOWN_MATCHES" "[I" (.ref t) A s s.heap ∧ ∀ (ν : rV) (ρ : Nat → Nat), va_T .int t 53 (fun j => rg ν ρ (rlk (mov 0 (stl 6)) (.int 0) j)) A s s.heap := rstatic (p := 120) hs (ht _ (tv5 (List.mem_of_getElem? (i := 15) rfl))) (ht _ (tv1 (List.mem_of_getElem? (i := 1) rfl))) (by decide) hA (by decide +kernel) (by decide +kernel) (by decide +kernel) (by decide +kernel)
set_option maxRecDepth 100000 in
theorem sx7 {args : Array Value} {s : State} {A : Nat → Prop} (hs : ∀ c ∈ rflat, c.before args s = true) (ht : ∀ w ∈ lw_tbl, w.before args s = true) (hA : ∀ a : Nat, a < s.heap.size → ¬ A a) : ∃ t : Nat, va_Z "PackHouse" "LITERAL_BASES" "[I" (.ref t) A s s.heap ∧ ∀ (ν : rV) (ρ : Nat → Nat), va_T .int t 36 (fun j => rg ν ρ (rlk (mov 0 (stl 7)) (.int 0) j)) A s s.heap := rstatic (p := 176) hs (ht _ (tv6 (List.mem_of_getElem? (i := 20) rfl))) (ht _ (tv1 (List.mem_of_getElem? (i := 1) rfl))) (by decide) hA (by decide +kernel) (by decide +kernel) (by decide +kernel) (by decide +kernel)
set_option maxRecDepth 100000 in
theorem sx8 {args : Array Value} {s : State} {A : Nat → Prop} (hs : ∀ c ∈ rflat, c.before args s = true) (ht : ∀ w ∈ lw_tbl, w.before args s = true) (hA : ∀ a : Nat, a < s.heap.size → ¬ A a) : ∃ t : Nat, va_Z "PackHouse" "LITERAL_BITS" "[I" (.ref t) A s s.heap ∧ ∀ (ν : rV) (ρ : Nat → Nat), va_T .int t 36 (fun j => rg ν ρ (rlk (mov 0 (stl 8)) (.int 0) j)) A s s.heap := rstatic (p := 271) hs (ht _ (tv6 (List.mem_of_getElem? (i := 74) rfl))) (ht _ (tv1 (List.mem_of_getElem? (i := 1) rfl))) (by decide) hA (by decide +kernel) (by decide +kernel) (by decide +kernel) (by decide +kernel)
set_option maxRecDepth 100000 in
theorem sx9 {args : Array Value} {s : State} {A : Nat → Prop} (hs : ∀ c ∈ rflat, c.before args s = true) (ht : ∀ w ∈ lw_tbl, w.before args s = true) (hA : ∀ a : Nat, a < s.heap.size → ¬ A a) : ∃ t : Nat, va_Z "PackHouse" "MATCH_BASES" "[I" (.ref t) A s s.heap ∧ ∀ (ν : rV) (ρ : Nat → Nat), va_T .int t 53 (fun j => rg ν ρ (rlk (mov 0 (stl 9)) (.int 0) j)) A s s.heap := rstatic (p := 215) hs (ht _ (tv6 (List.mem_of_getElem? (i := 26) rfl))) (ht _ (tv1 (List.mem_of_getElem? (i := 1) rfl))) (by decide) hA (by decide +kernel) (by decide +kernel) (by decide +kernel) (by decide +kernel)
set_option maxRecDepth 100000 in
theorem sx10 {args : Array Value} {s : State} {A : Nat → Prop} (hs : ∀ c ∈ rflat, c.before args s = true) (ht : ∀ w ∈ lw_tbl, w.before args s = true) (hA : ∀ a : Nat, a < s.heap.size → ¬ A a) : ∃ t : Nat, va_Z "PackHouse" "MATCH_BITS" "[I" (.ref t) A s s.heap ∧ ∀ (ν : rV) (ρ : Nat → Nat), va_T .int t 53 (fun j => rg ν ρ (rlk (mov 0 (stl 10)) (.int 0) j)) A s s.heap := rstatic (p := 310) hs (ht _ (tv6 (List.mem_of_getElem? (i := 77) rfl))) (ht _ (tv1 (List.mem_of_getElem? (i := 1) rfl))) (by decide) hA (by decide +kernel) (by decide +kernel) (by decide +kernel) (by decide +kernel)
theorem rarr7 {args : Array Value} {s : State} (h : (Jvm.Cond.arrayOver (.array .int)).before args s = true) : ∃ (comp c : ClassId) (k : Class), s.vm.findClass "[I" = some comp ∧ s.vm.classes[c]? = some k ∧ k.kind = .array comp (.array .int) ∧ s.vm.findClass ("[" ++ (FieldType.array .int).toString) = some c := by
  have h : (Jvm.Cond.arrayOver (.array .int)).holds args s none s [] = true := h
  simp only [Cond.holds, Cond.value, beq_iff_eq] at h
  cases hc : s.vm.findClass (FieldType.array .int).toString with
  | none => simp [hc] at h
  | some comp =>
    simp only [hc, Option.bind_some, Option.bind_eq_some_iff, Option.map_eq_some_iff] at h
    obtain ⟨c, hi, k, hk, hb⟩ := h
    obtain ⟨hlt, hp, -⟩ := Array.findIdx?_eq_some_iff_getElem.mp hi
    have hkk : s.vm.classes[c] = k := (Array.getElem?_eq_some_iff.mp hk).2
    rw [hkk] at hp
    split at hb
    · next co ty he =>
      rw [he] at hp
      simp only [Bool.and_eq_true, decide_eq_true_eq] at hb
      simp only [beq_iff_eq] at hp
      subst hp
      exact ⟨co, c, k, hc, hk, by rw [he, hb.1], hb.2⟩
    · cases hb
theorem rnk_of {w : Jvm.Cond} {A : Array Value} {U : State} (h : rnk w = true) (hw : w.before A U = true) : va_Nw w U := by
  unfold rnk at h
  split at h
  · exact va_Nw.of rfl hw
  · exact va_Nw.of rfl hw
  · exact va_AO.of hw
  · cases h
theorem rknows {args : Array Value} {s : State} (ht : ∀ w ∈ lw_tbl, w.before args s = true) : ∀ k : Nat, ∃ x : ClassId × (Nat → Nat), ∀ q : vw_C, rcls[k]? = some q → u_Kn s q.1 q.2.1 q.2.2 x.1 x.2
  | 0 => by
    obtain ⟨c, i, h⟩ := u_known (C := "PackHouse") (T := FT0) (N := 19) (n := 19) ht (fun w hw => (List.mem_filter.mp (fi0 w hw)).1) (ht _ (tv1 (List.mem_of_getElem? (i := 24) rfl)))
    exact ⟨(c, i), fun q hq => by cases hq; exact h⟩
  | 1 => by
    obtain ⟨c, i, h⟩ := u_known (C := "PackHouseModel") (T := FT1) (N := 13) (n := 13) ht (fun w hw => (List.mem_filter.mp (fi1 w hw)).1) (ht _ (tv7 (List.mem_of_getElem? (i := 223) rfl)))
    exact ⟨(c, i), fun q hq => by cases hq; exact h⟩
  | 2 => by
    obtain ⟨c, i, h⟩ := u_known (C := "PackHouse$BitSource") (T := FT2) (N := 3) (n := 3) ht (fun w hw => (List.mem_filter.mp (fi2 w hw)).1) (ht _ (tv2 (List.mem_of_getElem? (i := 209) rfl)))
    exact ⟨(c, i), fun q hq => by cases hq; exact h⟩
  | 3 => by
    obtain ⟨c, i, h⟩ := u_known (C := "PackHouse$Codes") (T := FT3) (N := 17) (n := 17) ht (fun w hw => (List.mem_filter.mp (fi3 w hw)).1) (ht _ (tv2 (List.mem_of_getElem? (i := 152) rfl)))
    exact ⟨(c, i), fun q hq => by cases hq; exact h⟩
  | 4 => by
    obtain ⟨c, i, h⟩ := u_known (C := "PackHouse$Dictionary") (T := FT4) (N := 5) (n := 5) ht (fun w hw => (List.mem_filter.mp (fi4 w hw)).1) (ht _ (tv1 (List.mem_of_getElem? (i := 76) rfl)))
    exact ⟨(c, i), fun q hq => by cases hq; exact h⟩
  | 5 => by
    obtain ⟨c, i, h⟩ := u_known (C := "PackHouse$Finder") (T := FT5) (N := 19) (n := 19) ht (fun w hw => (List.mem_filter.mp (fi5 w hw)).1) (ht _ (tv3 (List.mem_of_getElem? (i := 150) rfl)))
    exact ⟨(c, i), fun q hq => by cases hq; exact h⟩
  | 6 => by
    obtain ⟨c, i, h⟩ := u_known (C := "PackHouse$Packer") (T := FT6) (N := 19) (n := 19) ht (fun w hw => (List.mem_filter.mp (fi6 w hw)).1) (ht _ (tv4 (List.mem_of_getElem? (i := 238) rfl)))
    exact ⟨(c, i), fun q hq => by cases hq; exact h⟩
  | 7 => by
    obtain ⟨c, i, h⟩ := u_known (C := "PackHouse$Row") (T := FT7) (N := 5) (n := 5) ht (fun w hw => (List.mem_filter.mp (fi7 w hw)).1) (ht _ (tv1 (List.mem_of_getElem? (i := 33) rfl)))
    exact ⟨(c, i), fun q hq => by cases hq; exact h⟩
  | 8 => by
    obtain ⟨c, i, h⟩ := u_known (C := "PackHouse$Share") (T := FT8) (N := 13) (n := 13) ht (fun w hw => (List.mem_filter.mp (fi8 w hw)).1) (ht _ (tv2 (List.mem_of_getElem? (i := 158) rfl)))
    exact ⟨(c, i), fun q hq => by cases hq; exact h⟩
  | 9 => by
    obtain ⟨c, i, h⟩ := u_known (C := "PackHouse$Stand") (T := FT9) (N := 3) (n := 3) ht (fun w hw => (List.mem_filter.mp (fi9 w hw)).1) (ht _ (tv1 (List.mem_of_getElem? (i := 84) rfl)))
    exact ⟨(c, i), fun q hq => by cases hq; exact h⟩
  | 10 => by
    obtain ⟨c, i, h⟩ := u_known (C := "PackHouse$Tags") (T := FT10) (N := 9) (n := 9) ht (fun w hw => (List.mem_filter.mp (fi10 w hw)).1) (ht _ (tv4 (List.mem_of_getElem? (i := 145) rfl)))
    exact ⟨(c, i), fun q hq => by cases hq; exact h⟩
  | 11 => by
    obtain ⟨c, i, h⟩ := u_known (C := "PackHouse$Tokens") (T := FT11) (N := 13) (n := 13) ht (fun w hw => (List.mem_filter.mp (fi11 w hw)).1) (ht _ (tv3 (List.mem_of_getElem? (i := 144) rfl)))
    exact ⟨(c, i), fun q hq => by cases hq; exact h⟩
  | 12 => by
    obtain ⟨c, i, h⟩ := u_known (C := "PackHouse$Unpacker") (T := FT12) (N := 22) (n := 22) ht (fun w hw => (List.mem_filter.mp (fi12 w hw)).1) (ht _ (tv6 (List.mem_of_getElem? (i := 207) rfl)))
    exact ⟨(c, i), fun q hq => by cases hq; exact h⟩
  | 13 => by
    obtain ⟨c, i, h⟩ := u_known (C := "PackHouseModel$Desk") (T := FT13) (N := 5) (n := 5) ht (fun w hw => (List.mem_filter.mp (fi13 w hw)).1) (ht _ (tv7 (List.mem_of_getElem? (i := 230) rfl)))
    exact ⟨(c, i), fun q hq => by cases hq; exact h⟩
  | 14 => by
    obtain ⟨c, i, h⟩ := u_known (C := "PackHouseModel$Reader") (T := FT14) (N := 47) (n := 47) ht (fun w hw => (List.mem_filter.mp (fi14 w hw)).1) (ht _ (tv8 (List.mem_of_getElem? (i := 152) rfl)))
    exact ⟨(c, i), fun q hq => by cases hq; exact h⟩
  | 15 => by
    obtain ⟨c, i, h⟩ := u_known (C := "PackHouseModel$Sums") (T := FT15) (N := 2) (n := 2) ht (fun w hw => (List.mem_filter.mp (fi15 w hw)).1) (ht _ (tv8 (List.mem_of_getElem? (i := 33) rfl)))
    exact ⟨(c, i), fun q hq => by cases hq; exact h⟩
  | 16 => by
    obtain ⟨c, i, h⟩ := u_known (C := "PackHouseModel$Tags") (T := FT16) (N := 12) (n := 12) ht (fun w hw => (List.mem_filter.mp (fi16 w hw)).1) (ht _ (tv8 (List.mem_of_getElem? (i := 108) rfl)))
    exact ⟨(c, i), fun q hq => by cases hq; exact h⟩
  | 17 => by
    obtain ⟨c, i, h⟩ := u_known (C := "PackHouseModel$Tokens") (T := FT17) (N := 17) (n := 17) ht (fun w hw => (List.mem_filter.mp (fi17 w hw)).1) (ht _ (tv8 (List.mem_of_getElem? (i := 46) rfl)))
    exact ⟨(c, i), fun q hq => by cases hq; exact h⟩
  | 18 => by
    obtain ⟨c, i, h⟩ := u_known (C := "PackHouseModel$Writer") (T := FT18) (N := 59) (n := 59) ht (fun w hw => (List.mem_filter.mp (fi18 w hw)).1) (ht _ (tv9 (List.mem_of_getElem? (i := 78) rfl)))
    exact ⟨(c, i), fun q hq => by cases hq; exact h⟩
  | n + 19 => ⟨(0, fun _ => 0), fun q hq => by simp [rcls] at hq⟩
theorem rknowa {args : Array Value} {s : State} (ht : ∀ w ∈ lw_tbl, w.before args s = true) : ∀ t : Nat, ∃ c : ClassId, t < 8 → ArrOfT s c (rty t) ∧ va_RA s c (rty t)
  | 0 => by
    obtain ⟨c, k, comp, h1, h2, h3⟩ := Cond.arrayClass_spec (ht _ (tv1 (List.mem_of_getElem? (i := 73) rfl)))
    exact ⟨c, fun _ => ⟨fun n z => ⟨(fun k h => by cases h), k, h2, comp, h3⟩, h1⟩⟩
  | 1 => by
    obtain ⟨c, k, comp, h1, h2, h3⟩ := Cond.arrayClass_spec (ht _ (tv1 (List.mem_of_getElem? (i := 110) rfl)))
    exact ⟨c, fun _ => ⟨fun n z => ⟨(fun k h => by cases h), k, h2, comp, h3⟩, h1⟩⟩
  | 2 => by
    obtain ⟨c, k, comp, h1, h2, h3⟩ := Cond.arrayClass_spec (ht _ (tv1 (List.mem_of_getElem? (i := 111) rfl)))
    exact ⟨c, fun _ => ⟨fun n z => ⟨(fun k h => by cases h), k, h2, comp, h3⟩, h1⟩⟩
  | 3 => by
    obtain ⟨c, k, comp, h1, h2, h3⟩ := Cond.arrayClass_spec (ht _ (tv10 (List.mem_of_getElem? (i := 22) rfl)))
    exact ⟨c, fun _ => ⟨fun n z => ⟨(fun k h => by cases h), k, h2, comp, h3⟩, h1⟩⟩
  | 4 => by
    obtain ⟨comp, c, k, h1, h2, h3, h4, h5⟩ := Cond.arrayOver_spec (ht _ (tv1 (List.mem_of_getElem? (i := 32) rfl)))
    exact ⟨c, fun _ => ⟨fun n z => ⟨(fun k h => by cases h), k, h3, comp, h4⟩, k, comp, h3, h4, h1, h5⟩⟩
  | 5 => by
    obtain ⟨comp, c, k, h1, h2, h3, h4, h5⟩ := Cond.arrayOver_spec (ht _ (tv1 (List.mem_of_getElem? (i := 90) rfl)))
    exact ⟨c, fun _ => ⟨fun n z => ⟨(fun k h => by cases h), k, h3, comp, h4⟩, k, comp, h3, h4, h1, h5⟩⟩
  | 6 => by
    obtain ⟨comp, c, k, h1, h2, h3, h4, h5⟩ := Cond.arrayOver_spec (ht _ (tv5 (List.mem_of_getElem? (i := 21) rfl)))
    exact ⟨c, fun _ => ⟨fun n z => ⟨(fun k h => by cases h), k, h3, comp, h4⟩, k, comp, h3, h4, h1, h5⟩⟩
  | 7 => by
    obtain ⟨comp, c, k, h1, h2, h3, h4⟩ := rarr7 (ht _ (tv5 (List.mem_of_getElem? (i := 29) rfl)))
    exact ⟨c, fun _ => ⟨fun n z => ⟨(fun k h => by cases h), k, h2, comp, h3⟩, h4⟩⟩
  | n + 8 => ⟨0, fun h => by omega⟩
theorem statW_at {L : Nat} {xs : Nat → Int32} {b : Nat} (h : b < 11) : (statW L xs)[b]? = some (.inr ((bif Nat.beq b 0 then 0 else 1), (stl b).length, .int 0, mov 0 (stl b))) := by
  have e := mstat_at h
  rw [rat_eq] at e
  unfold statW
  rw [List.getElem?_append_left (by rw [mstat_len]; exact h)]
  exact e
theorem statW_11 {L : Nat} {xs : Nat → Int32} : (statW L xs)[11]? = some (.inr (1, L, .int 0, scrW L xs)) := by
  unfold statW
  rw [List.getElem?_append_right (by rw [mstat_len]; exact Nat.le_refl _), mstat_len]
  rfl
theorem rknowt {args : Array Value} {s : State} {A : Nat → Prop} (hs : ∀ c ∈ rflat, c.before args s = true) (ht : ∀ w ∈ lw_tbl, w.before args s = true) (hA : ∀ a : Nat, a < s.heap.size → ¬ A a) (L : Nat) (xs : Nat → Int32) : ∀ k : Nat, ∃ t : Nat, k < 11 → va_Z (rsts k).1 (rsts k).2.1 (rsts k).2.2 (.ref t) A s s.heap ∧ ∃ (ty n : Nat) (dv : Value) (ov : rO), ty < 8 ∧ (statW L xs)[k]? = some (.inr (ty, n, dv, ov)) ∧ ∀ (ν : rV) (ρ : Nat → Nat), va_T (rty ty) t n (fun j => rg ν ρ (rlk ov dv j)) A s s.heap
  | 0 => by
    obtain ⟨t, h1, h2⟩ := sx0 hs ht hA
    exact ⟨t, fun _ => ⟨h1, 0, 10, .int 0, (mov 0 (stl 0)), by decide, statW_at (by decide), h2⟩⟩
  | 1 => by
    obtain ⟨t, h1, h2⟩ := sx1 hs ht hA
    exact ⟨t, fun _ => ⟨h1, 1, 16, .int 0, (mov 0 (stl 1)), by decide, statW_at (by decide), h2⟩⟩
  | 2 => by
    obtain ⟨t, h1, h2⟩ := sx2 hs ht hA
    exact ⟨t, fun _ => ⟨h1, 1, 3, .int 0, (mov 0 (stl 2)), by decide, statW_at (by decide), h2⟩⟩
  | 3 => by
    obtain ⟨t, h1, h2⟩ := sx3 hs ht hA
    exact ⟨t, fun _ => ⟨h1, 1, 3, .int 0, (mov 0 (stl 3)), by decide, statW_at (by decide), h2⟩⟩
  | 4 => by
    obtain ⟨t, h1, h2⟩ := sx4 hs ht hA
    exact ⟨t, fun _ => ⟨h1, 1, 36, .int 0, (mov 0 (stl 4)), by decide, statW_at (by decide), h2⟩⟩
  | 5 => by
    obtain ⟨t, h1, h2⟩ := sx5 hs ht hA
    exact ⟨t, fun _ => ⟨h1, 1, 29, .int 0, (mov 0 (stl 5)), by decide, statW_at (by decide), h2⟩⟩
  | 6 => by
    obtain ⟨t, h1, h2⟩ := sx6 hs ht hA
    exact ⟨t, fun _ => ⟨h1, 1, 53, .int 0, (mov 0 (stl 6)), by decide, statW_at (by decide), h2⟩⟩
  | 7 => by
    obtain ⟨t, h1, h2⟩ := sx7 hs ht hA
    exact ⟨t, fun _ => ⟨h1, 1, 36, .int 0, (mov 0 (stl 7)), by decide, statW_at (by decide), h2⟩⟩
  | 8 => by
    obtain ⟨t, h1, h2⟩ := sx8 hs ht hA
    exact ⟨t, fun _ => ⟨h1, 1, 36, .int 0, (mov 0 (stl 8)), by decide, statW_at (by decide), h2⟩⟩
  | 9 => by
    obtain ⟨t, h1, h2⟩ := sx9 hs ht hA
    exact ⟨t, fun _ => ⟨h1, 1, 53, .int 0, (mov 0 (stl 9)), by decide, statW_at (by decide), h2⟩⟩
  | 10 => by
    obtain ⟨t, h1, h2⟩ := sx10 hs ht hA
    exact ⟨t, fun _ => ⟨h1, 1, 53, .int 0, (mov 0 (stl 10)), by decide, statW_at (by decide), h2⟩⟩
  | n + 11 => ⟨0, fun h => by omega⟩
theorem rE0_1 (kn : List rM) : (rpar kn).2.2.2.2.2.2.1 = 12 := by delta rpar; rfl
theorem rE0_2 : rE0.2.2.2.2.1 = rcls := by delta rE0; with_reducible rfl
theorem rE0_3 : rE0.2.2.2.2.2.2.1 = rty := by delta rE0; with_reducible rfl
theorem rE0_4 : rE0.2.2.2.2.2.2.2.1 = rsts := by delta rE0; with_reducible rfl
theorem rE0_5 : rE0.2.2.2.2.2.2.2.2.1 = 11 := by delta rE0; with_reducible rfl
theorem rE0_6 : rE0.2.2.2.2.2.2.2.2.2 = rtnb := by delta rE0; with_reducible rfl
theorem rlaw_ni : ¬ rinit 455 = true := by decide +kernel
theorem rkn_nil (l : Launch) (D : va_G) (dA : Nat → ClassId) (B : Nat) (HB : Heap × rS) (ρ : Nat → Nat) : rknown (rpar []) rE0 l D dA B HB ρ := fun q hq => by cases hq
/-- a run of the law that ends with 1 is a walk of the law -/
theorem law_run {p : Program} {e : Env} {s : State} {m : MethodId} {below : List Frame} {meth : Method} {c : Code} (l : Launch) {b L : Nat} {xs : Nat → Int32} (C0 : lw_At p s m meth c b L xs)
    {n : Nat} {σ' : rS} {c' s' : Nat} (h : rrun (rpar []) n 455 14 0 [(0, .ref 11)] [] (statW L xs) 0 [] 0 0 = some ([], some (.int 1), σ', 0, [], c', s')) (hmc : c' ≤ room_1.cells) (hms : s' ≤ room_1.slots) :
    W p l e room_1 s m #[Value.ref b] below meth c s.heap [] 0 0 (lw_Z below #[Value.ref b] s) (entryFrame m ([Value.ref b] : List Value).toArray 4) := by
  obtain ⟨ν, hν0⟩ : ∃ ν : rV, ν = (fun _ => 0, fun _ => 0) := ⟨_, rfl⟩
  obtain ⟨hx0, hb, hr, hml, hown, hts, hX, hbl, hlocks, hgv⟩ := id C0
  have hs := flat_of_before _ hgv
  have hA : ∀ a : Nat, a < s.heap.size → ¬ (fun q : Nat => s.heap.size ≤ q) a := fun a ha q => Nat.not_le.mpr ha q
  obtain ⟨D0, hD0⟩ := Classical.axiomOfChoice (rknows hts)
  obtain ⟨dA, hdA⟩ := Classical.axiomOfChoice (rknowa hts)
  obtain ⟨tt, htt⟩ := Classical.axiomOfChoice (rknowt hs hts hA L xs)
  obtain ⟨D, hD⟩ : ∃ D : va_G, D = (fun k => (D0 k).1, fun k => (D0 k).2) := ⟨_, rfl⟩
  obtain ⟨ρ, hρd⟩ : ∃ ρ : Nat → Nat, ρ = fun k => if k < 11 then tt k else if k = 11 then b else s.heap.size + k - 12 := ⟨_, rfl⟩
  have hρt : ∀ k, k < 11 → ρ k = tt k := fun k hk => by rw [hρd]; exact if_pos hk
  have hρb : ρ 11 = b := by rw [hρd]; rfl
  have hρ : rho 12 s.heap.size ρ := by
    refine ⟨fun k hk => ?_, fun k hk => ?_⟩
    · rw [hρd]
      show (if k < 11 then tt k else if k = 11 then b else s.heap.size + k - 12) + 12 = _
      rw [if_neg (by omega), if_neg (by omega)]
      omega
    · by_cases h1 : k < 11
      · rw [hρt k h1]
        obtain ⟨-, ty, n, dv, ov, -, -, h3⟩ := htt k h1
        obtain ⟨cell, c1, -⟩ := h3 (fun _ => 0, fun _ => 0) (fun _ => 0)
        exact (Array.getElem?_eq_some_iff.mp c1).1
      · have : k = 11 := by omega
        subst this
        rw [hρb]
        exact hbl
  have hsc : va_T .int b L (fun j => rg ν ρ (rlk (scrW L xs) (.int 0) j)) (fun q : Nat => s.heap.size ≤ q) s s.heap := by
    obtain ⟨scr, x1, x2, x3, x4, x5⟩ := hX
    refine ⟨scr, x1, x2, x3, by omega, by rw [x4] <;> rfl, fun j hj => ?_, Nat.not_le.mpr hbl⟩
    rw [x5 j hj]
    show _ = some (rg ν ρ (rlk ((List.range L).map (fun j => (j, Value.int (xs j)))) (.int 0) j))
    rw [scrW_lk, if_pos (List.mem_range.mpr hj)]
    rfl
  have hK : rkn 12 rcls rty rsts 11 rtnb D dA s.heap.size (s.heap, statW L xs) ρ ν s := by
    refine ⟨fun k q hq => ?_, fun t ht8 => hdA t ht8, fun j hj => ?_, fun k hk => ?_, fun w hw => ?_, ?_⟩
    · rw [hD]; exact hD0 k q hq
    · rw [hρt j hj]; exact (htt j hj).1
    · by_cases h1 : k < 11
      · obtain ⟨-, ty, n, dv, ov, h2, h3, h4⟩ := htt k h1
        refine ⟨ty, n, dv, ov, h2, h3, ?_⟩
        rw [hρt k h1]
        exact h4 ν ρ
      · have : k = 11 := by omega
        subst this
        refine ⟨1, L, .int 0, scrW L xs, by decide, statW_11, ?_⟩
        rw [hρb]
        exact hsc
    · have h2 := List.mem_filter.mp hw
      exact ⟨h2.2, rnk_of h2.2 (hts w h2.1)⟩
    · obtain ⟨comp, c7, k7, z1, z2, z3, z4⟩ := rarr7 (hts _ (tv5 (List.mem_of_getElem? (i := 29) rfl)))
      have y7 : s.vm.findClass ("[" ++ (FieldType.array .int).toString) = some (dA 7) := (hdA 7 (by decide)).2
      have y1 : s.vm.findClass "[I" = some (dA 1) := (hdA 1 (by decide)).2
      cases z4.symm.trans y7
      cases z1.symm.trans y1
      exact ⟨k7, z2, z3⟩
  have hK2 : rkn (rpar []).2.2.2.2.2.2.1 rE0.2.2.2.2.1 rE0.2.2.2.2.2.2.1 rE0.2.2.2.2.2.2.2.1 rE0.2.2.2.2.2.2.2.2.1 rE0.2.2.2.2.2.2.2.2.2 D dA s.heap.size (s.heap, statW L xs) ρ ν s := by
    rw [rE0_1 [], rE0_2, rE0_3, rE0_4, rE0_5, rE0_6]
    exact hK
  have hg := rrun_ok (P := rpar []) (E := rE0) (l := l) (D := D) (dA := dA) (B := s.heap.size) (HB := (s.heap, statW L xs)) hρ rfillW_ok (rkn_nil _ _ _ _ _ _) (rtab_ok []) n _ _ _ _ _ _ _ _ _ _ _ h
  have hl := lv_entry ([.ref b]) (n := 4) (Nat.le_of_ble_eq_true rfl)
  rw [lg_entry_eq]
  generalize (lg_sl ([.ref b]) ++ List.replicate (4 - (lg_sl ([.ref b])).length) Slot.unset).toArray = ls at hl ⊢
  have hl : lv_has ls 4 [(0, .ref b)] := hl
  refine hg.2.2 ν (rholds_nil ν) p e room_1 s m _ below meth c s.heap [] ls (lw_Z below #[Value.ref b] s) ⟨hx0, hb, hml, hown, fun w hw => hts w (List.mem_filter.mp hw).1, fun q => absurd (show rinit 455 = true from q) rlaw_ni, hK2⟩ (Nat.le_of_ble_eq_true rfl) (Nat.le_of_ble_eq_true rfl) hmc hms ?_ ?_ (by
    show lv_has ls 4 [(0, .ref (ρ 11))]
    rw [hρb]; exact hl) (fun q hq => by cases hq)
  · intro i pc H locs lsR hi hd hH hLo
    have hi : i = .ireturn := of_decide_eq_true hi
    subst hi
    refine va_forget hLo ?_
    refine W.widen hmc hms ?_
    exact lw_ret hx0 hb hr hlocks hd
  · refine ⟨rfl, Nat.le_refl _, fun q hq => rfl, fun k c hk hk2 => ?_, fun k hk => rfl⟩
    have := (List.getElem?_eq_some_iff.mp hk2).1
    exact absurd this (Nat.not_lt.mpr hk)
