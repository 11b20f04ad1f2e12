/-! THE CLAIM OUT OF ONE WALK OF THE LAW'S BODY. Your part is whole_start (and what it stands on); all else here is the same for every law, but numbers. -/
def R_law : String := "PackHouseLaw"
def lw_P (b : Addr) (xs : List Int32) (args : Array Value) (s : State) : Prop := args = #[.ref b] ∧ s.IntsAt b xs ∧ xs.length ≤ 6 ∧ (Jvm.Cond.and given_1 narrow_1).before args s = true
def lw_Q (_ : Array Value) (s : State) (o : Outcome) (t : State) : Prop := o = .returned (some (.int 1)) ∧ Framed s o t [] 600000 7302250
def lw_Z (below : List Frame) (a : Array Value) (s : State) : State → Prop := fun t => ∃ o, t.status = .running ∧ Ended t below o ∧ lw_Q a s o t
/-- the law's own end, with 1 on the stack, nothing written that was there before, its room as the claim has it -/
theorem lw_ret {p : Program} {l : Launch} {e : Env} {s : State} {m : MethodId} {below : List Frame} {meth : Method} {c : Code} {b : Nat} (hx : p.tables.exec = Jvm.exec) (hb : c.code = code) (hr : meth.sig.returnType = ret) (hlocks : meth.locks = false) {pc : Nat} {H : Heap} {ls : Array Slot} (hdg : decode code pc = .ok (.ireturn, 1)) : W p l e room_1 s m #[Value.ref b] below meth c H [] 600000 7302250 (lw_Z below #[Value.ref b] s) (F0 m pc ls [.int 1]) := by
  intro T hT X
  obtain ⟨fs, hret, hrun, hended, hW, hframe⟩ := X.leave (v := some (.int 1)) (hlocks := hlocks) (fun h => by rw [hr] at h; cases h)
  have hmeth' : T.vm.method? m = some meth := X.method'
  refine ⟨T.setFrames fs, ?_, .returned (some (.int 1)), hrun, hended, rfl, ⟨_, rfl⟩, hW, hframe⟩
  jvm_step X.here [X.here.top, hx, hb, hdg, hmeth', hr, ret, narrow_b1]
  (try refine ⟨rfl, ?_⟩); (try refine ⟨rfl, ?_⟩)
  first | (intro acts; rw [hret _ acts rfl rfl rfl]) | rw [hret _ _ rfl rfl rfl]
  exact Steps.refl _
/-- what holds at the law's entry: the machine, the code, the tables' words (any of lw_tbl by 'hts w (by decide +kernel)'), the script of L ints xs at the cell b, what the Statement gives of the start (any of its parts by flat_of_before) -/
def lw_At (p : Program) (s : State) (m : MethodId) (meth : Method) (c : Code) (b L : Nat) (xs : Nat → Int32) : Prop :=
  p.tables.exec = Jvm.exec ∧ c.code = code ∧ meth.sig.returnType = ret ∧ c.maxLocals = 4 ∧ s.vm.findClass R_law = some m.cls ∧ (∀ w ∈ lw_tbl, w.before #[Value.ref b] s = true) ∧ va_X b L xs s s.heap ∧ b < s.heap.size ∧ meth.locks = false ∧ (Jvm.Cond.and given_1 narrow_1).before #[Value.ref b] s = true
/-! the static arrays, as the Statement gives them -/
def rii : Value → Int32
  | .int v => v
  | _ => 0
abbrev rflat : List Jvm.Cond := flatC (Jvm.Cond.and given_1 narrow_1)
theorem rstatic {args : Array Value} {s : State} {n d : String} {ty : FieldType} {N p : Nat} {ov : rO} {A : Nat → Prop} (hs : ∀ c ∈ rflat, c.before args s = true) (hl : (Jvm.Cond.laysStatic "PackHouse" n d).before args s = true) (hini : (Jvm.Cond.initialized "PackHouse").before args s = true) (hN : N < 2 ^ 31) (hA : ∀ a : Nat, a < s.heap.size → ¬ A a)
    (h1 : rflat[p]? = some (.arrayOf (.static "PackHouse" n d) ty)) (h2 : rflat[p + 1]? = some (.eq (.length (.static "PackHouse" n d)) (.int (Int32.ofNat N)))) (h3 : (List.range N).map (fun j => Jvm.Cond.eq (.elem (.static "PackHouse" n d) (.int (Int32.ofNat j))) (.int (rii (rlk ov (.int 0) j)))) = (rflat.drop (p + 2)).take N) (h4 : (List.range N).all (fun j => decide (rlk ov (.int 0) j = .int (rii (rlk ov (.int 0) j)))) = true) :
    ∃ t : Nat, va_Z "PackHouse" n d (.ref t) A s s.heap ∧ ∀ (ν : rV) (ρ : Nat → Nat), va_T ty t N (fun j => rg ν ρ (rlk ov (.int 0) j)) A s s.heap := by
  have e1 := hs _ (List.mem_of_getElem? h1)
  have e2 := va_eqt (hs _ (List.mem_of_getElem? h2))
  have e3 : ∀ j : Nat, j < N → (Term.elem (.static "PackHouse" n d) (.int (Int32.ofNat j))).eval args s none [] s = some (.int (rii (rlk ov (.int 0) j))) := fun j hj => va_eqt (hs _ (va_run h3 j hj))
  obtain ⟨t, ht, hT⟩ := va_Tof (f := fun j => .int (rii (rlk ov (.int 0) j))) hN e1 e2 e3 hA
  refine ⟨t, va_Zof hl hini ht hA, fun ν ρ => ?_⟩
  obtain ⟨cell, c1, c2, c3, c4, c5, c6, c7⟩ := hT
  refine ⟨cell, c1, c2, c3, c4, c5, fun j hj => ?_, c7⟩
  have h := List.all_eq_true.mp h4 j (List.mem_range.mpr hj)
  rw [c6 j hj]
  show _ = some (rg ν ρ (rlk ov (.int 0) j))
  rw [of_decide_eq_true h]
  rfl
def sv0 : rO := [(0, .int (-1)), (1, .int (6)), (2, .int (0)), (3, .int (0)), (4, .int (115)), (5, .int (78)), (6, .int (97)), (7, .int (80)), (8, .int (112)), (9, .int (89))]
def sv1 : rO := [(0, .int (0)), (1, .int (274646895)), (2, .int (549293790)), (3, .int (820201905)), (4, .int (1098587580)), (5, .int (1361435347)), (6, .int (1640403810)), (7, .int (1905808397)), (8, .int (-2097792136)), (9, .int (-1834419177)), (10, .int (-1572096602)), (11, .int (-1307217207)), (12, .int (-1014159676)), (13, .int (-741088853)), (14, .int (-483350502)), (15, .int (-210866315))]
def sv2 : rO := [(0, .int (9)), (1, .int (8)), (2, .int (9))]
def sv3 : rO := [(0, .int (35)), (1, .int (31)), (2, .int (52))]
def sv4 : rO := [(0, .int (4)), (1, .int (3)), (2, .int (2)), (3, .int (2)), (4, .int (2)), (5, .int (2)), (6, .int (2)), (7, .int (2)), (8, .int (2)), (9, .int (2)), (10, .int (2)), (11, .int (2)), (12, .int (2)), (13, .int (1)), (14, .int (1)), (15, .int (1)), (16, .int (2)), (17, .int (2)), (18, .int (2)), (19, .int (2)), (20, .int (2)), (21, .int (2)), (22, .int (2)), (23, .int (2)), (24, .int (2)), (25, .int (3)), (26, .int (2)), (27, .int (1)), (28, .int (1)), (29, .int (1)), (30, .int (1)), (31, .int (1)), (32, .int (-1)), (33, .int (-1)), (34, .int (-1)), (35, .int (-1))]
def sv5 : rO := [(0, .int (1)), (1, .int (1)), (2, .int (1)), (3, .int (1)), (4, .int (1)), (5, .int (1)), (6, .int (2)), (7, .int (2)), (8, .int (2)), (9, .int (1)), (10, .int (1)), (11, .int (1)), (12, .int (1)), (13, .int (1)), (14, .int (1)), (15, .int (1)), (16, .int (1)), (17, .int (1)), (18, .int (1)), (19, .int (1)), (20, .int (1)), (21, .int (1)), (22, .int (1)), (23, .int (1)), (24, .int (-1)), (25, .int (-1)), (26, .int (-1)), (27, .int (-1)), (28, .int (-1))]
def sv6 : rO := [(0, .int (1)), (1, .int (4)), (2, .int (3)), (3, .int (2)), (4, .int (2)), (5, .int (2)), (6, .int (2)), (7, .int (2)), (8, .int (2)), (9, .int (1)), (10, .int (1)), (11, .int (1)), (12, .int (1)), (13, .int (1)), (14, .int (1)), (15, .int (1)), (16, .int (1)), (17, .int (1)), (18, .int (1)), (19, .int (1)), (20, .int (1)), (21, .int (1)), (22, .int (1)), (23, .int (1)), (24, .int (1)), (25, .int (1)), (26, .int (1)), (27, .int (1)), (28, .int (1)), (29, .int (1)), (30, .int (1)), (31, .int (1)), (32, .int (1)), (33, .int (1)), (34, .int (1)), (35, .int (1)), (36, .int (1)), (37, .int (1)), (38, .int (1)), (39, .int (1)), (40, .int (1)), (41, .int (1)), (42, .int (1)), (43, .int (1)), (44, .int (1)), (45, .int (1)), (46, .int (-1)), (47, .int (-1)), (48, .int (-1)), (49, .int (-1)), (50, .int (-1)), (51, .int (-1)), (52, .int (-1))]
def sv7 : rO := [(0, .int (0)), (1, .int (1)), (2, .int (2)), (3, .int (3)), (4, .int (4)), (5, .int (5)), (6, .int (6)), (7, .int (7)), (8, .int (8)), (9, .int (9)), (10, .int (10)), (11, .int (11)), (12, .int (12)), (13, .int (13)), (14, .int (14)), (15, .int (15)), (16, .int (16)), (17, .int (18)), (18, .int (20)), (19, .int (22)), (20, .int (24)), (21, .int (28)), (22, .int (32)), (23, .int (40)), (24, .int (48)), (25, .int (64)), (26, .int (128)), (27, .int (256)), (28, .int (512)), (29, .int (1024)), (30, .int (2048)), (31, .int (4096)), (32, .int (8192)), (33, .int (16384)), (34, .int (32768)), (35, .int (65536))]
def sv8 : rO := [(0, .int (0)), (1, .int (0)), (2, .int (0)), (3, .int (0)), (4, .int (0)), (5, .int (0)), (6, .int (0)), (7, .int (0)), (8, .int (0)), (9, .int (0)), (10, .int (0)), (11, .int (0)), (12, .int (0)), (13, .int (0)), (14, .int (0)), (15, .int (0)), (16, .int (1)), (17, .int (1)), (18, .int (1)), (19, .int (1)), (20, .int (2)), (21, .int (2)), (22, .int (3)), (23, .int (3)), (24, .int (4)), (25, .int (6)), (26, .int (7)), (27, .int (8)), (28, .int (9)), (29, .int (10)), (30, .int (11)), (31, .int (12)), (32, .int (13)), (33, .int (14)), (34, .int (15)), (35, .int (16))]
def sv9 : rO := [(0, .int (3)), (1, .int (4)), (2, .int (5)), (3, .int (6)), (4, .int (7)), (5, .int (8)), (6, .int (9)), (7, .int (10)), (8, .int (11)), (9, .int (12)), (10, .int (13)), (11, .int (14)), (12, .int (15)), (13, .int (16)), (14, .int (17)), (15, .int (18)), (16, .int (19)), (17, .int (20)), (18, .int (21)), (19, .int (22)), (20, .int (23)), (21, .int (24)), (22, .int (25)), (23, .int (26)), (24, .int (27)), (25, .int (28)), (26, .int (29)), (27, .int (30)), (28, .int (31)), (29, .int (32)), (30, .int (33)), (31, .int (34)), (32, .int (35)), (33, .int (37)), (34, .int (39)), (35, .int (41)), (36, .int (43)), (37, .int (47)), (38, .int (51)), (39, .int (59)), (40, .int (67)), (41, .int (83)), (42, .int (99)), (43, .int (131)), (44, .int (259)), (45, .int (515)), (46, .int (1027)), (47, .int (2051)), (48, .int (4099)), (49, .int (8195)), (50, .int (16387)), (51, .int (32771)), (52, .int (65539))]
def sv10 : rO := [(0, .int (0)), (1, .int (0)), (2, .int (0)), (3, .int (0)), (4, .int (0)), (5, .int (0)), (6, .int (0)), (7, .int (0)), (8, .int (0)), (9, .int (0)), (10, .int (0)), (11, .int (0)), (12, .int (0)), (13, .int (0)), (14, .int (0)), (15, .int (0)), (16, .int (0)), (17, .int (0)), (18, .int (0)), (19, .int (0)), (20, .int (0)), (21, .int (0)), (22, .int (0)), (23, .int (0)), (24, .int (0)), (25, .int (0)), (26, .int (0)), (27, .int (0)), (28, .int (0)), (29, .int (0)), (30, .int (0)), (31, .int (0)), (32, .int (1)), (33, .int (1)), (34, .int (1)), (35, .int (1)), (36, .int (2)), (37, .int (2)), (38, .int (3)), (39, .int (3)), (40, .int (4)), (41, .int (4)), (42, .int (5)), (43, .int (7)), (44, .int (8)), (45, .int (9)), (46, .int (10)), (47, .int (11)), (48, .int (12)), (49, .int (13)), (50, .int (14)), (51, .int (15)), (52, .int (16))]
def sscr : rO := [(0, .float 0), (1, .float 1), (2, .float 2), (3, .float 3), (4, .float 4), (5, .float 5)]
def rstat (L : Nat) : rS := [.inr (0, 10, .int 0, sv0), .inr (1, 16, .int 0, sv1), .inr (1, 3, .int 0, sv2), .inr (1, 3, .int 0, sv3), .inr (1, 36, .int 0, sv4), .inr (1, 29, .int 0, sv5), .inr (1, 53, .int 0, sv6), .inr (1, 36, .int 0, sv7), .inr (1, 36, .int 0, sv8), .inr (1, 53, .int 0, sv9), .inr (1, 53, .int 0, sv10), .inr (1, L, .int 0, sscr)]
set_option maxRecDepth 100000 in
theorem sx0 {args : Array Value} {s : State} {A : Nat → Prop} (hs : ∀ c ∈ rflat, c.before args s = true) (ht : ∀ w ∈ lw_tbl, w.before args s = true) (hA : ∀ a : Nat, a < s.heap.size → ¬ A a) : ∃ t : Nat, va_Z "PackHouse" "TAG_MARK" "[B" (.ref t) A s s.heap ∧ ∀ (ν : rV) (ρ : Nat → Nat), va_T .byte t 10 (fun j => rg ν ρ (rlk sv0 (.int 0) j)) A s s.heap := rstatic (p := 36) hs (ht _ (tv4 (List.mem_of_getElem? (i := 223) rfl))) (ht _ (tv1 (List.mem_of_getElem? (i := 1) rfl))) (by decide) hA (by decide +kernel) (by decide +kernel) (by decide +kernel) (by decide +kernel)
set_option maxRecDepth 100000 in
theorem sx1 {args : Array Value} {s : State} {A : Nat → Prop} (hs : ∀ c ∈ rflat, c.before args s = true) (ht : ∀ w ∈ lw_tbl, w.before args s = true) (hA : ∀ a : Nat, a < s.heap.size → ¬ A a) : ∃ t : Nat, va_Z "PackHouse" "POLYNOMIAL" "[I" (.ref t) A s s.heap ∧ ∀ (ν : rV) (ρ : Nat → Nat), va_T .int t 16 (fun j => rg ν ρ (rlk sv1 (.int 0) j)) A s s.heap := rstatic (p := 5) hs (ht _ (tv2 (List.mem_of_getElem? (i := 109) rfl))) (ht _ (tv1 (List.mem_of_getElem? (i := 1) rfl))) (by decide) hA (by decide +kernel) (by decide +kernel) (by decide +kernel) (by decide +kernel)
set_option maxRecDepth 100000 in
theorem sx2 {args : Array Value} {s : State} {A : Nat → Prop} (hs : ∀ c ∈ rflat, c.before args s = true) (ht : ∀ w ∈ lw_tbl, w.before args s = true) (hA : ∀ a : Nat, a < s.heap.size → ¬ A a) : ∃ t : Nat, va_Z "PackHouse" "GREATEST_ORDERS" "[I" (.ref t) A s s.heap ∧ ∀ (ν : rV) (ρ : Nat → Nat), va_T .int t 3 (fun j => rg ν ρ (rlk sv2 (.int 0) j)) A s s.heap := rstatic (p := 24) hs (ht _ (tv3 (List.mem_of_getElem? (i := 43) rfl))) (ht _ (tv1 (List.mem_of_getElem? (i := 1) rfl))) (by decide) hA (by decide +kernel) (by decide +kernel) (by decide +kernel) (by decide +kernel)
set_option maxRecDepth 100000 in
theorem sx3 {args : Array Value} {s : State} {A : Nat → Prop} (hs : ∀ c ∈ rflat, c.before args s = true) (ht : ∀ w ∈ lw_tbl, w.before args s = true) (hA : ∀ a : Nat, a < s.heap.size → ¬ A a) : ∃ t : Nat, va_Z "PackHouse" "LAST_SYMBOLS" "[I" (.ref t) A s s.heap ∧ ∀ (ν : rV) (ρ : Nat → Nat), va_T .int t 3 (fun j => rg ν ρ (rlk sv3 (.int 0) j)) A s s.heap := rstatic (p := 30) hs (ht _ (tv3 (List.mem_of_getElem? (i := 45) rfl))) (ht _ (tv1 (List.mem_of_getElem? (i := 1) rfl))) (by decide) hA (by decide +kernel) (by decide +kernel) (by decide +kernel) (by decide +kernel)
set_option maxRecDepth 100000 in
theorem sx4 {args : Array Value} {s : State} {A : Nat → Prop} (hs : ∀ c ∈ rflat, c.before args s = true) (ht : ∀ w ∈ lw_tbl, w.before args s = true) (hA : ∀ a : Nat, a < s.heap.size → ¬ A a) : ∃ t : Nat, va_Z "PackHouse" "KNOWN_LITERALS" "[I" (.ref t) A s s.heap ∧ ∀ (ν : rV) (ρ : Nat → Nat), va_T .int t 36 (fun j => rg ν ρ (rlk sv4 (.int 0) j)) A s s.heap := rstatic (p := 49) hs (ht _ (tv5 (List.mem_of_getElem? (i := 6) rfl))) (ht _ (tv1 (List.mem_of_getElem? (i := 1) rfl))) (by decide) hA (by decide +kernel) (by decide +kernel) (by decide +kernel) (by decide +kernel)
set_option maxRecDepth 100000 in
theorem sx5 {args : Array Value} {s : State} {A : Nat → Prop} (hs : ∀ c ∈ rflat, c.before args s = true) (ht : ∀ w ∈ lw_tbl, w.before args s = true) (hA : ∀ a : Nat, a < s.heap.size → ¬ A a) : ∃ t : Nat, va_Z "PackHouse" "KNOWN_DISTANCES" "[I" (.ref t) A s s.heap ∧ ∀ (ν : rV) (ρ : Nat → Nat), va_T .int t 29 (fun j => rg ν ρ (rlk sv5 (.int 0) j)) A s s.heap := rstatic (p := 88) hs (ht _ (tv5 (List.mem_of_getElem? (i := 13) rfl))) (ht _ (tv1 (List.mem_of_getElem? (i := 1) rfl))) (by decide) hA (by decide +kernel) (by decide +kernel) (by decide +kernel) (by decide +kernel)
set_option maxRecDepth 100000 in
theorem sx6 {args : Array Value} {s : State} {A : Nat → Prop} (hs : ∀ c ∈ rflat, c.before args s = true) (ht : ∀ w ∈ lw_tbl, w.before args s = true) (hA : ∀ a : Nat, a < s.heap.size → ¬ A a) : ∃ t : Nat, va_Z "PackHouse" "KNOWN_MATCHES" "[I" (.ref t) A s s.heap ∧ ∀ (ν : rV) (ρ : Nat → Nat), va_T .int t 53 (fun j => rg ν ρ (rlk sv6 (.int 0) j)) A s s.heap := rstatic (p := 120) hs (ht _ (tv5 (List.mem_of_getElem? (i := 15) rfl))) (ht _ (tv1 (List.mem_of_getElem? (i := 1) rfl))) (by decide) hA (by decide +kernel) (by decide +kernel) (by decide +kernel) (by decide +kernel)
set_option maxRecDepth 100000 in
theorem sx7 {args : Array Value} {s : State} {A : Nat → Prop} (hs : ∀ c ∈ rflat, c.before args s = true) (ht : ∀ w ∈ lw_tbl, w.before args s = true) (hA : ∀ a : Nat, a < s.heap.size → ¬ A a) : ∃ t : Nat, va_Z "PackHouse" "LITERAL_BASES" "[I" (.ref t) A s s.heap ∧ ∀ (ν : rV) (ρ : Nat → Nat), va_T .int t 36 (fun j => rg ν ρ (rlk sv7 (.int 0) j)) A s s.heap := rstatic (p := 176) hs (ht _ (tv6 (List.mem_of_getElem? (i := 20) rfl))) (ht _ (tv1 (List.mem_of_getElem? (i := 1) rfl))) (by decide) hA (by decide +kernel) (by decide +kernel) (by decide +kernel) (by decide +kernel)
set_option maxRecDepth 100000 in
theorem sx8 {args : Array Value} {s : State} {A : Nat → Prop} (hs : ∀ c ∈ rflat, c.before args s = true) (ht : ∀ w ∈ lw_tbl, w.before args s = true) (hA : ∀ a : Nat, a < s.heap.size → ¬ A a) : ∃ t : Nat, va_Z "PackHouse" "LITERAL_BITS" "[I" (.ref t) A s s.heap ∧ ∀ (ν : rV) (ρ : Nat → Nat), va_T .int t 36 (fun j => rg ν ρ (rlk sv8 (.int 0) j)) A s s.heap := rstatic (p := 271) hs (ht _ (tv6 (List.mem_of_getElem? (i := 74) rfl))) (ht _ (tv1 (List.mem_of_getElem? (i := 1) rfl))) (by decide) hA (by decide +kernel) (by decide +kernel) (by decide +kernel) (by decide +kernel)
set_option maxRecDepth 100000 in
theorem sx9 {args : Array Value} {s : State} {A : Nat → Prop} (hs : ∀ c ∈ rflat, c.before args s = true) (ht : ∀ w ∈ lw_tbl, w.before args s = true) (hA : ∀ a : Nat, a < s.heap.size → ¬ A a) : ∃ t : Nat, va_Z "PackHouse" "MATCH_BASES" "[I" (.ref t) A s s.heap ∧ ∀ (ν : rV) (ρ : Nat → Nat), va_T .int t 53 (fun j => rg ν ρ (rlk sv9 (.int 0) j)) A s s.heap := rstatic (p := 215) hs (ht _ (tv6 (List.mem_of_getElem? (i := 26) rfl))) (ht _ (tv1 (List.mem_of_getElem? (i := 1) rfl))) (by decide) hA (by decide +kernel) (by decide +kernel) (by decide +kernel) (by decide +kernel)
set_option maxRecDepth 100000 in
theorem sx10 {args : Array Value} {s : State} {A : Nat → Prop} (hs : ∀ c ∈ rflat, c.before args s = true) (ht : ∀ w ∈ lw_tbl, w.before args s = true) (hA : ∀ a : Nat, a < s.heap.size → ¬ A a) : ∃ t : Nat, va_Z "PackHouse" "MATCH_BITS" "[I" (.ref t) A s s.heap ∧ ∀ (ν : rV) (ρ : Nat → Nat), va_T .int t 53 (fun j => rg ν ρ (rlk sv10 (.int 0) j)) A s s.heap := rstatic (p := 310) hs (ht _ (tv6 (List.mem_of_getElem? (i := 77) rfl))) (ht _ (tv1 (List.mem_of_getElem? (i := 1) rfl))) (by decide) hA (by decide +kernel) (by decide +kernel) (by decide +kernel) (by decide +kernel)
theorem rarr7 {args : Array Value} {s : State} (h : (Jvm.Cond.arrayOver (.array .int)).before args s = true) : ∃ (comp c : ClassId) (k : Class), s.vm.findClass "[I" = some comp ∧ s.vm.classes[c]? = some k ∧ k.kind = .array comp (.array .int) ∧ s.vm.findClass ("[" ++ (FieldType.array .int).toString) = some c := by
  have h : (Jvm.Cond.arrayOver (.array .int)).holds args s none s [] = true := h
  simp only [Cond.holds, Cond.value, beq_iff_eq] at h
  cases hc : s.vm.findClass (FieldType.array .int).toString with
  | none => simp [hc] at h
  | some comp =>
    simp only [hc, Option.bind_some, Option.bind_eq_some_iff, Option.map_eq_some_iff] at h
    obtain ⟨c, hi, k, hk, hb⟩ := h
    obtain ⟨hlt, hp, -⟩ := Array.findIdx?_eq_some_iff_getElem.mp hi
    have hkk : s.vm.classes[c] = k := (Array.getElem?_eq_some_iff.mp hk).2
    rw [hkk] at hp
    split at hb
    · next co ty he =>
      rw [he] at hp
      simp only [Bool.and_eq_true, decide_eq_true_eq] at hb
      simp only [beq_iff_eq] at hp
      subst hp
      exact ⟨co, c, k, hc, hk, by rw [he, hb.1], hb.2⟩
    · cases hb
theorem rnk_of {w : Jvm.Cond} {A : Array Value} {U : State} (h : rnk w = true) (hw : w.before A U = true) : va_Nw w U := by
  unfold rnk at h
  split at h
  · exact va_Nw.of rfl hw
  · exact va_Nw.of rfl hw
  · exact va_AO.of hw
  · cases h
theorem rknows {args : Array Value} {s : State} (ht : ∀ w ∈ lw_tbl, w.before args s = true) : ∀ k : Nat, ∃ x : ClassId × (Nat → Nat), ∀ q : vw_C, rcls[k]? = some q → u_Kn s q.1 q.2.1 q.2.2 x.1 x.2
  | 0 => by
    obtain ⟨c, i, h⟩ := u_known (C := "PackHouse") (T := FT0) (N := 19) (n := 19) ht (fun w hw => (List.mem_filter.mp (fi0 w hw)).1) (ht _ (tv1 (List.mem_of_getElem? (i := 24) rfl)))
    exact ⟨(c, i), fun q hq => by cases hq; exact h⟩
  | 1 => by
    obtain ⟨c, i, h⟩ := u_known (C := "PackHouseModel") (T := FT1) (N := 13) (n := 13) ht (fun w hw => (List.mem_filter.mp (fi1 w hw)).1) (ht _ (tv7 (List.mem_of_getElem? (i := 223) rfl)))
    exact ⟨(c, i), fun q hq => by cases hq; exact h⟩
  | 2 => by
    obtain ⟨c, i, h⟩ := u_known (C := "PackHouse$BitSource") (T := FT2) (N := 3) (n := 3) ht (fun w hw => (List.mem_filter.mp (fi2 w hw)).1) (ht _ (tv2 (List.mem_of_getElem? (i := 209) rfl)))
    exact ⟨(c, i), fun q hq => by cases hq; exact h⟩
  | 3 => by
    obtain ⟨c, i, h⟩ := u_known (C := "PackHouse$Codes") (T := FT3) (N := 17) (n := 17) ht (fun w hw => (List.mem_filter.mp (fi3 w hw)).1) (ht _ (tv2 (List.mem_of_getElem? (i := 152) rfl)))
    exact ⟨(c, i), fun q hq => by cases hq; exact h⟩
  | 4 => by
    obtain ⟨c, i, h⟩ := u_known (C := "PackHouse$Dictionary") (T := FT4) (N := 5) (n := 5) ht (fun w hw => (List.mem_filter.mp (fi4 w hw)).1) (ht _ (tv1 (List.mem_of_getElem? (i := 76) rfl)))
    exact ⟨(c, i), fun q hq => by cases hq; exact h⟩
  | 5 => by
    obtain ⟨c, i, h⟩ := u_known (C := "PackHouse$Finder") (T := FT5) (N := 19) (n := 19) ht (fun w hw => (List.mem_filter.mp (fi5 w hw)).1) (ht _ (tv3 (List.mem_of_getElem? (i := 150) rfl)))
    exact ⟨(c, i), fun q hq => by cases hq; exact h⟩
  | 6 => by
    obtain ⟨c, i, h⟩ := u_known (C := "PackHouse$Packer") (T := FT6) (N := 19) (n := 19) ht (fun w hw => (List.mem_filter.mp (fi6 w hw)).1) (ht _ (tv4 (List.mem_of_getElem? (i := 238) rfl)))
    exact ⟨(c, i), fun q hq => by cases hq; exact h⟩
  | 7 => by
    obtain ⟨c, i, h⟩ := u_known (C := "PackHouse$Row") (T := FT7) (N := 5) (n := 5) ht (fun w hw => (List.mem_filter.mp (fi7 w hw)).1) (ht _ (tv1 (List.mem_of_getElem? (i := 33) rfl)))
    exact ⟨(c, i), fun q hq => by cases hq; exact h⟩
  | 8 => by
    obtain ⟨c, i, h⟩ := u_known (C := "PackHouse$Share") (T := FT8) (N := 13) (n := 13) ht (fun w hw => (List.mem_filter.mp (fi8 w hw)).1) (ht _ (tv2 (List.mem_of_getElem? (i := 158) rfl)))
    exact ⟨(c, i), fun q hq => by cases hq; exact h⟩
  | 9 => by
    obtain ⟨c, i, h⟩ := u_known (C := "PackHouse$Stand") (T := FT9) (N := 3) (n := 3) ht (fun w hw => (List.mem_filter.mp (fi9 w hw)).1) (ht _ (tv1 (List.mem_of_getElem? (i := 84) rfl)))
    exact ⟨(c, i), fun q hq => by cases hq; exact h⟩
  | 10 => by
    obtain ⟨c, i, h⟩ := u_known (C := "PackHouse$Tags") (T := FT10) (N := 9) (n := 9) ht (fun w hw => (List.mem_filter.mp (fi10 w hw)).1) (ht _ (tv4 (List.mem_of_getElem? (i := 145) rfl)))
    exact ⟨(c, i), fun q hq => by cases hq; exact h⟩
  | 11 => by
    obtain ⟨c, i, h⟩ := u_known (C := "PackHouse$Tokens") (T := FT11) (N := 13) (n := 13) ht (fun w hw => (List.mem_filter.mp (fi11 w hw)).1) (ht _ (tv3 (List.mem_of_getElem? (i := 144) rfl)))
    exact ⟨(c, i), fun q hq => by cases hq; exact h⟩
  | 12 => by
    obtain ⟨c, i, h⟩ := u_known (C := "PackHouse$Unpacker") (T := FT12) (N := 22) (n := 22) ht (fun w hw => (List.mem_filter.mp (fi12 w hw)).1) (ht _ (tv6 (List.mem_of_getElem? (i := 207) rfl)))
    exact ⟨(c, i), fun q hq => by cases hq; exact h⟩
  | 13 => by
    obtain ⟨c, i, h⟩ := u_known (C := "PackHouseModel$Desk") (T := FT13) (N := 5) (n := 5) ht (fun w hw => (List.mem_filter.mp (fi13 w hw)).1) (ht _ (tv7 (List.mem_of_getElem? (i := 230) rfl)))
    exact ⟨(c, i), fun q hq => by cases hq; exact h⟩
  | 14 => by
    obtain ⟨c, i, h⟩ := u_known (C := "PackHouseModel$Reader") (T := FT14) (N := 47) (n := 47) ht (fun w hw => (List.mem_filter.mp (fi14 w hw)).1) (ht _ (tv8 (List.mem_of_getElem? (i := 152) rfl)))
    exact ⟨(c, i), fun q hq => by cases hq; exact h⟩
  | 15 => by
    obtain ⟨c, i, h⟩ := u_known (C := "PackHouseModel$Sums") (T := FT15) (N := 2) (n := 2) ht (fun w hw => (List.mem_filter.mp (fi15 w hw)).1) (ht _ (tv8 (List.mem_of_getElem? (i := 33) rfl)))
    exact ⟨(c, i), fun q hq => by cases hq; exact h⟩
  | 16 => by
    obtain ⟨c, i, h⟩ := u_known (C := "PackHouseModel$Tags") (T := FT16) (N := 12) (n := 12) ht (fun w hw => (List.mem_filter.mp (fi16 w hw)).1) (ht _ (tv8 (List.mem_of_getElem? (i := 108) rfl)))
    exact ⟨(c, i), fun q hq => by cases hq; exact h⟩
  | 17 => by
    obtain ⟨c, i, h⟩ := u_known (C := "PackHouseModel$Tokens") (T := FT17) (N := 17) (n := 17) ht (fun w hw => (List.mem_filter.mp (fi17 w hw)).1) (ht _ (tv8 (List.mem_of_getElem? (i := 46) rfl)))
    exact ⟨(c, i), fun q hq => by cases hq; exact h⟩
  | 18 => by
    obtain ⟨c, i, h⟩ := u_known (C := "PackHouseModel$Writer") (T := FT18) (N := 59) (n := 59) ht (fun w hw => (List.mem_filter.mp (fi18 w hw)).1) (ht _ (tv9 (List.mem_of_getElem? (i := 78) rfl)))
    exact ⟨(c, i), fun q hq => by cases hq; exact h⟩
  | n + 19 => ⟨(0, fun _ => 0), fun q hq => by simp [rcls] at hq⟩
theorem rknowa {args : Array Value} {s : State} (ht : ∀ w ∈ lw_tbl, w.before args s = true) : ∀ t : Nat, ∃ c : ClassId, t < 8 → ArrOfT s c (rty t) ∧ va_RA s c (rty t)
  | 0 => by
    obtain ⟨c, k, comp, h1, h2, h3⟩ := Cond.arrayClass_spec (ht _ (tv1 (List.mem_of_getElem? (i := 73) rfl)))
    exact ⟨c, fun _ => ⟨fun n z => ⟨(fun k h => by cases h), k, h2, comp, h3⟩, h1⟩⟩
  | 1 => by
    obtain ⟨c, k, comp, h1, h2, h3⟩ := Cond.arrayClass_spec (ht _ (tv1 (List.mem_of_getElem? (i := 110) rfl)))
    exact ⟨c, fun _ => ⟨fun n z => ⟨(fun k h => by cases h), k, h2, comp, h3⟩, h1⟩⟩
  | 2 => by
    obtain ⟨c, k, comp, h1, h2, h3⟩ := Cond.arrayClass_spec (ht _ (tv1 (List.mem_of_getElem? (i := 111) rfl)))
    exact ⟨c, fun _ => ⟨fun n z => ⟨(fun k h => by cases h), k, h2, comp, h3⟩, h1⟩⟩
  | 3 => by
    obtain ⟨c, k, comp, h1, h2, h3⟩ := Cond.arrayClass_spec (ht _ (tv10 (List.mem_of_getElem? (i := 22) rfl)))
    exact ⟨c, fun _ => ⟨fun n z => ⟨(fun k h => by cases h), k, h2, comp, h3⟩, h1⟩⟩
  | 4 => by
    obtain ⟨comp, c, k, h1, h2, h3, h4, h5⟩ := Cond.arrayOver_spec (ht _ (tv1 (List.mem_of_getElem? (i := 32) rfl)))
    exact ⟨c, fun _ => ⟨fun n z => ⟨(fun k h => by cases h), k, h3, comp, h4⟩, k, comp, h3, h4, h1, h5⟩⟩
  | 5 => by
    obtain ⟨comp, c, k, h1, h2, h3, h4, h5⟩ := Cond.arrayOver_spec (ht _ (tv1 (List.mem_of_getElem? (i := 90) rfl)))
    exact ⟨c, fun _ => ⟨fun n z => ⟨(fun k h => by cases h), k, h3, comp, h4⟩, k, comp, h3, h4, h1, h5⟩⟩
  | 6 => by
    obtain ⟨comp, c, k, h1, h2, h3, h4, h5⟩ := Cond.arrayOver_spec (ht _ (tv5 (List.mem_of_getElem? (i := 21) rfl)))
    exact ⟨c, fun _ => ⟨fun n z => ⟨(fun k h => by cases h), k, h3, comp, h4⟩, k, comp, h3, h4, h1, h5⟩⟩
  | 7 => by
    obtain ⟨comp, c, k, h1, h2, h3, h4⟩ := rarr7 (ht _ (tv5 (List.mem_of_getElem? (i := 29) rfl)))
    exact ⟨c, fun _ => ⟨fun n z => ⟨(fun k h => by cases h), k, h2, comp, h3⟩, h4⟩⟩
  | n + 8 => ⟨0, fun h => by omega⟩
theorem rknowt {args : Array Value} {s : State} {A : Nat → Prop} (hs : ∀ c ∈ rflat, c.before args s = true) (ht : ∀ w ∈ lw_tbl, w.before args s = true) (hA : ∀ a : Nat, a < s.heap.size → ¬ A a) (L : Nat) : ∀ k : Nat, ∃ t : Nat, k < 11 → va_Z (rsts k).1 (rsts k).2.1 (rsts k).2.2 (.ref t) A s s.heap ∧ ∃ (ty n : Nat) (dv : Value) (ov : rO), ty < 8 ∧ (rstat L)[k]? = some (.inr (ty, n, dv, ov)) ∧ ∀ (ν : rV) (ρ : Nat → Nat), va_T (rty ty) t n (fun j => rg ν ρ (rlk ov dv j)) A s s.heap
  | 0 => by
    obtain ⟨t, h1, h2⟩ := sx0 hs ht hA
    exact ⟨t, fun _ => ⟨h1, 0, 10, .int 0, sv0, by decide, rfl, h2⟩⟩
  | 1 => by
    obtain ⟨t, h1, h2⟩ := sx1 hs ht hA
    exact ⟨t, fun _ => ⟨h1, 1, 16, .int 0, sv1, by decide, rfl, h2⟩⟩
  | 2 => by
    obtain ⟨t, h1, h2⟩ := sx2 hs ht hA
    exact ⟨t, fun _ => ⟨h1, 1, 3, .int 0, sv2, by decide, rfl, h2⟩⟩
  | 3 => by
    obtain ⟨t, h1, h2⟩ := sx3 hs ht hA
    exact ⟨t, fun _ => ⟨h1, 1, 3, .int 0, sv3, by decide, rfl, h2⟩⟩
  | 4 => by
    obtain ⟨t, h1, h2⟩ := sx4 hs ht hA
    exact ⟨t, fun _ => ⟨h1, 1, 36, .int 0, sv4, by decide, rfl, h2⟩⟩
  | 5 => by
    obtain ⟨t, h1, h2⟩ := sx5 hs ht hA
    exact ⟨t, fun _ => ⟨h1, 1, 29, .int 0, sv5, by decide, rfl, h2⟩⟩
  | 6 => by
    obtain ⟨t, h1, h2⟩ := sx6 hs ht hA
    exact ⟨t, fun _ => ⟨h1, 1, 53, .int 0, sv6, by decide, rfl, h2⟩⟩
  | 7 => by
    obtain ⟨t, h1, h2⟩ := sx7 hs ht hA
    exact ⟨t, fun _ => ⟨h1, 1, 36, .int 0, sv7, by decide, rfl, h2⟩⟩
  | 8 => by
    obtain ⟨t, h1, h2⟩ := sx8 hs ht hA
    exact ⟨t, fun _ => ⟨h1, 1, 36, .int 0, sv8, by decide, rfl, h2⟩⟩
  | 9 => by
    obtain ⟨t, h1, h2⟩ := sx9 hs ht hA
    exact ⟨t, fun _ => ⟨h1, 1, 53, .int 0, sv9, by decide, rfl, h2⟩⟩
  | 10 => by
    obtain ⟨t, h1, h2⟩ := sx10 hs ht hA
    exact ⟨t, fun _ => ⟨h1, 1, 53, .int 0, sv10, by decide, rfl, h2⟩⟩
  | n + 11 => ⟨0, fun h => by omega⟩
theorem rE0_1 (kn : List rM) : (rpar kn).2.2.2.2.2.2.1 = 12 := by delta rpar; rfl
theorem rE0_2 : rE0.2.2.2.2.1 = rcls := by delta rE0; with_reducible rfl
theorem rE0_3 : rE0.2.2.2.2.2.2.1 = rty := by delta rE0; with_reducible rfl
theorem rE0_4 : rE0.2.2.2.2.2.2.2.1 = rsts := by delta rE0; with_reducible rfl
theorem rE0_5 : rE0.2.2.2.2.2.2.2.2.1 = 11 := by delta rE0; with_reducible rfl
theorem rE0_6 : rE0.2.2.2.2.2.2.2.2.2 = rtnb := by delta rE0; with_reducible rfl
theorem rlaw_ni : ¬ rinit 247 = true := by decide +kernel
/-- a run of the law that ends with 1, whose findings hold of the script, is a walk of the law -/
theorem law_run {p : Program} {e : Env} {s : State} {m : MethodId} {below : List Frame} {meth : Method} {c : Code} (l : Launch) {b L : Nat} {xs : Nat → Int32} (hL : L ≤ 6) (C0 : lw_At p s m meth c b L xs) {kn : List rM} (hkn : ∀ (D : va_G) (dA : Nat → ClassId) (B : Nat) (HB : Heap × rS) (ρ : Nat → Nat), rho 12 B ρ → rknown (rpar kn) rE0 l D dA B HB ρ)
    {n : Nat} {pa : List Nat} {r : rR} (h : rrun (rpar kn) n 247 9 0 [(0, .ref 11)] [] (rstat L) 6 pa 0 0 = some r) (hv : r.2.1 = some (.int 1)) (hmc : r.2.2.2.2.2.1 ≤ 600000) (hms : r.2.2.2.2.2.2 ≤ 7302250) {ν : rV} (hν : rholds ν r.1) (hx : ∀ j, j < L → ν.1 j = xs j) :
    W p l e room_1 s m #[Value.ref b] below meth c s.heap [] 0 0 (lw_Z below #[Value.ref b] s) (entryFrame m ([Value.ref b] : List Value).toArray 4) := by
  obtain ⟨hx0, hb, hr, hml, hown, hts, hX, hbl, hlocks, hgv⟩ := id C0
  have hs := flat_of_before _ hgv
  have hA : ∀ a : Nat, a < s.heap.size → ¬ (fun q : Nat => s.heap.size ≤ q) a := fun a ha q => Nat.not_le.mpr ha q
  obtain ⟨D0, hD0⟩ := Classical.axiomOfChoice (rknows hts)
  obtain ⟨dA, hdA⟩ := Classical.axiomOfChoice (rknowa hts)
  obtain ⟨tt, htt⟩ := Classical.axiomOfChoice (rknowt hs hts hA L)
  obtain ⟨D, hD⟩ : ∃ D : va_G, D = (fun k => (D0 k).1, fun k => (D0 k).2) := ⟨_, rfl⟩
  obtain ⟨ρ, hρd⟩ : ∃ ρ : Nat → Nat, ρ = fun k => if k < 11 then tt k else if k = 11 then b else s.heap.size + k - 12 := ⟨_, rfl⟩
  have hρt : ∀ k, k < 11 → ρ k = tt k := fun k hk => by rw [hρd]; exact if_pos hk
  have hρb : ρ 11 = b := by rw [hρd]; rfl
  have hρ : rho 12 s.heap.size ρ := by
    refine ⟨fun k hk => ?_, fun k hk => ?_⟩
    · rw [hρd]
      show (if k < 11 then tt k else if k = 11 then b else s.heap.size + k - 12) + 12 = _
      rw [if_neg (by omega), if_neg (by omega)]
      omega
    · by_cases h1 : k < 11
      · rw [hρt k h1]
        obtain ⟨-, ty, n, dv, ov, -, -, h3⟩ := htt k h1
        obtain ⟨cell, c1, -⟩ := h3 (fun _ => 0, fun _ => 0) (fun _ => 0)
        exact (Array.getElem?_eq_some_iff.mp c1).1
      · have : k = 11 := by omega
        subst this
        rw [hρb]
        exact hbl
  have hsc : va_T .int b L (fun j => rg ν ρ (rlk sscr (.int 0) j)) (fun q : Nat => s.heap.size ≤ q) s s.heap := by
    obtain ⟨scr, x1, x2, x3, x4, x5⟩ := hX
    refine ⟨scr, x1, x2, x3, by omega, by rw [x4] <;> rfl, fun j hj => ?_, Nat.not_le.mpr hbl⟩
    rw [x5 j hj, ← hx j hj]
    rcases (show j = 0 ∨ j = 1 ∨ j = 2 ∨ j = 3 ∨ j = 4 ∨ j = 5 by omega) with rfl | rfl | rfl | rfl | rfl | rfl <;> rfl
  have hK : rkn 12 rcls rty rsts 11 rtnb D dA s.heap.size (s.heap, rstat L) ρ ν s := by
    refine ⟨fun k q hq => ?_, fun t ht8 => hdA t ht8, fun j hj => ?_, fun k hk => ?_, fun w hw => ?_, ?_⟩
    · rw [hD]; exact hD0 k q hq
    · rw [hρt j hj]; exact (htt j hj).1
    · by_cases h1 : k < 11
      · obtain ⟨-, ty, n, dv, ov, h2, h3, h4⟩ := htt k h1
        refine ⟨ty, n, dv, ov, h2, h3, ?_⟩
        rw [hρt k h1]
        exact h4 ν ρ
      · have : k = 11 := by omega
        subst this
        refine ⟨1, L, .int 0, sscr, by decide, rfl, ?_⟩
        rw [hρb]
        exact hsc
    · have h2 := List.mem_filter.mp hw
      exact ⟨h2.2, rnk_of h2.2 (hts w h2.1)⟩
    · obtain ⟨comp, c7, k7, z1, z2, z3, z4⟩ := rarr7 (hts _ (tv5 (List.mem_of_getElem? (i := 29) rfl)))
      have y7 : s.vm.findClass ("[" ++ (FieldType.array .int).toString) = some (dA 7) := (hdA 7 (by decide)).2
      have y1 : s.vm.findClass "[I" = some (dA 1) := (hdA 1 (by decide)).2
      cases z4.symm.trans y7
      cases z1.symm.trans y1
      exact ⟨k7, z2, z3⟩
  have hK2 : rkn (rpar kn).2.2.2.2.2.2.1 rE0.2.2.2.2.1 rE0.2.2.2.2.2.2.1 rE0.2.2.2.2.2.2.2.1 rE0.2.2.2.2.2.2.2.2.1 rE0.2.2.2.2.2.2.2.2.2 D dA s.heap.size (s.heap, rstat L) ρ ν s := by
    rw [rE0_1 kn, rE0_2, rE0_3, rE0_4, rE0_5, rE0_6]
    exact hK
  have hg := rrun_ok (P := rpar kn) (E := rE0) (l := l) (D := D) (dA := dA) (B := s.heap.size) (HB := (s.heap, rstat L)) hρ rfillW_ok (hkn _ _ _ _ _ hρ) (rtab_ok kn) n _ _ _ _ _ _ _ _ _ _ _ h
  have hl := lv_entry ([.ref b]) (n := 4) (Nat.le_of_ble_eq_true rfl)
  rw [lg_entry_eq]
  generalize (lg_sl ([.ref b]) ++ List.replicate (4 - (lg_sl ([.ref b])).length) Slot.unset).toArray = ls at hl ⊢
  have hl : lv_has ls 4 [(0, .ref b)] := hl
  refine hg.2.2 ν hν p e room_1 s m _ below meth c s.heap [] ls (lw_Z below #[Value.ref b] s) ⟨hx0, hb, hml, hown, fun w hw => hts w (List.mem_filter.mp hw).1, fun q => absurd (show rinit 247 = true from q) rlaw_ni, hK2⟩ (Nat.le_of_ble_eq_true rfl) (Nat.le_of_ble_eq_true rfl) hmc hms ?_ ?_ (by
    show lv_has ls 4 [(0, .ref (ρ 11))]
    rw [hρb]; exact hl) (fun q hq => by cases hq)
  · intro i pc H locs lsR hi hd hH hLo
    rw [hv] at hi ⊢
    have hi : i = .ireturn := of_decide_eq_true hi
    subst hi
    refine va_forget hLo ?_
    refine W.widen hmc hms ?_
    exact lw_ret hx0 hb hr hlocks hd
  · refine ⟨rfl, Nat.le_refl _, fun q hq => rfl, fun k c hk hk2 => ?_, fun k hk => rfl⟩
    have := (List.getElem?_eq_some_iff.mp hk2).1
    exact absurd this (Nat.not_lt.mpr hk)
