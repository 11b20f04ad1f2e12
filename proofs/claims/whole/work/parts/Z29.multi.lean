/-! multianewarray: three rows -/
section MU
variable {EP : CtlPost} {e : Env} {d : Bool} {acts : List Action} {s : State}
def muO (c : ClassId) (h i : Nat) : Cell := arrV c 3 (fun j => if j < i then .ref (h + 1 + j) else .null)
def zmuI (comp : ClassId) (n : Nat) : Cell := arrV comp n (fun _ => .int 0)
def muS (s : State) (c comp : ClassId) (n : Nat) : Nat → State
  | 0 => s.pushCell (muO c s.heap.size 0)
  | i + 1 => ((muS s c comp n i).pushCell (zmuI comp n)).setCell s.heap.size (muO c s.heap.size (i + 1))
theorem muO_next (c : ClassId) (h i : Nat) : (muO c h i).setSlot i (.ref (h + 1 + i)) = muO c h (i + 1) := by
  unfold muO
  rw [arrV_store]
  congr 1
  funext j
  unfold updV
  by_cases hj : j = i
  · subst hj
    rw [if_pos rfl, if_pos (by omega)]
  · rw [if_neg hj]
    show (if j < i then Value.ref (h + 1 + j) else Value.null) = if j < i + 1 then Value.ref (h + 1 + j) else Value.null
    by_cases h2 : j < i
    · rw [if_pos h2, if_pos (by omega)]
    · rw [if_neg h2, if_neg (by omega)]
theorem muS_facts (s : State) (c comp : ClassId) (n : Nat) : ∀ i, (muS s c comp n i).heap.size = s.heap.size + 1 + i ∧ (muS s c comp n i).heap[s.heap.size]? = some (muO c s.heap.size i) ∧ (muS s c comp n i).vm = s.vm ∧ (muS s c comp n i).slotsUsed = s.slotsUsed + 3 + i * n
  | 0 => ⟨by simp [muS], by simp [muS], rfl, by simp [muS, muO, arrV_size]⟩
  | i + 1 => by
    obtain ⟨a, b, v, u⟩ := muS_facts s c comp n i
    have hlt : s.heap.size < (muS s c comp n i).heap.size := by omega
    have hb' : ((muS s c comp n i).pushCell (zmuI comp n)).heap[s.heap.size]? = some (muO c s.heap.size i) := by rw [State.heap_pushCell_of_lt (h := hlt)]; exact b
    refine ⟨?_, State.heap_setCell_self hb', by simp [muS, v], ?_⟩
    · simp [muS, State.setCell, a]; omega
    · simp [muS, u, zmuI, arrV_size, Nat.succ_mul, Nat.add_assoc]
theorem muS_setTop (s : State) (f : JFrame) (c comp : ClassId) (n : Nat) : ∀ i, muS (s.setTop f) c comp n i = (muS s c comp n i).setTop f
  | 0 => rfl
  | i + 1 => by simp only [muS, muS_setTop s f c comp n i, State.heap_setTop, State.pushCell_setTop, State.setCell_setTop]
/-- one row -/
theorem mu_one {comp cc : ClassId} {kc : Class} {n : Int32} (hn : ¬ n < 0) (hl : ¬ n.toNatClampNeg > e.platform.arrayLengthLimit) (hb : ¬ n.toNatClampNeg * componentBytes .int > e.platform.maxHeapBytes) (hkc : s.vm.classes[comp]? = some kc) (hkindc : kc.kind = .array cc .int) (hc : s.heap.size < e.platform.maxCells) (hs : s.slotsUsed + n.toNatClampNeg ≤ e.platform.maxSlots)
    {Q : Addr → Pre} (hq : ∀ acts', Q s.heap.size d acts' (s.pushCell (zmuI comp n.toNatClampNeg))) : wp (multianewarray.make comp [n]) Q EP e d acts s := by
  rw [multianewarray.make]
  simp only [wp_bind', W.ite, hn, if_false, wp_pure', W.theClass, hkc, hkindc, Option.some.injEq, exists_eq_left']
  refine W.newArray_of hkc hkindc hl hb hc hs rfl fun acts' => ?_
  have h := hq acts'
  unfold zmuI at h
  rw [← arrV_new] at h
  exact h
/-- a row is made, and laid into its place -/
theorem mu_row {c comp cc : ClassId} {k kc : Class} {i : Nat} {S : State} {n : Int32} (hn : ¬ n < 0) (hl : ¬ n.toNatClampNeg > e.platform.arrayLengthLimit) (hb : ¬ n.toNatClampNeg * componentBytes .int > e.platform.maxHeapBytes) (hi : i < 3) (hk : S.vm.classes[c]? = some k) (hkind : k.kind = .array comp (.array .int)) (hkc : S.vm.classes[comp]? = some kc) (hkindc : kc.kind = .array cc .int)
    (hc : S.heap.size + 4 ≤ e.platform.maxCells) (hs : S.slotsUsed + (3 + 3 * n.toNatClampNeg) ≤ e.platform.maxSlots) {Q : ForInStep PUnit → Pre} (hq : ∀ d' acts', Q (.yield PUnit.unit) d' acts' (muS S c comp n.toNatClampNeg (i + 1))) :
    wp (multianewarray.make comp [n]) (fun x => wp (do writeLoc S.heap.size i (.ref x); Pure.pure (ForInStep.yield PUnit.unit)) Q EP e) EP e d acts (muS S c comp n.toNatClampNeg i) := by
  obtain ⟨f1, f2, f3, f4⟩ := muS_facts S c comp n.toNatClampNeg i
  have hm : (i + 1) * n.toNatClampNeg ≤ 3 * n.toNatClampNeg := Nat.mul_le_mul_right _ (by omega)
  rw [Nat.succ_mul] at hm
  refine mu_one hn hl hb (by rw [f3]; exact hkc) hkindc (by rw [f1]; omega) (by rw [f4]; omega) fun acts' => ?_
  have hlt0 : S.heap.size < (muS S c comp n.toNatClampNeg i).heap.size := by rw [f1]; omega
  simp only [wp_bind', W.writeLoc, wp_pure']
  refine ⟨muO c S.heap.size i, by rw [State.heap_pushCell_of_lt (h := hlt0)]; exact f2, (fun z => by cases z), by show i < (arrV c 3 _).slots.size; rw [arrV_size]; exact hi, ?_, ?_⟩
  · show State.fitsSlot _ c .none i _ = true
    simp [State.fitsSlot, State.slotType?, f3, hk, hkind]
    rfl
  · have h := hq
    rw [f1, muO_next]
    exact hq _ _
theorem mu_make {c comp cc : ClassId} {k kc : Class} {n : Int32} (hn : ¬ n < 0) (hl : ¬ n.toNatClampNeg > e.platform.arrayLengthLimit) (hb : ¬ n.toNatClampNeg * componentBytes .int > e.platform.maxHeapBytes) (hk : s.vm.classes[c]? = some k) (hkind : k.kind = .array comp (.array .int)) (hkc : s.vm.classes[comp]? = some kc) (hkindc : kc.kind = .array cc .int)
    (hl1 : ¬ 3 > e.platform.arrayLengthLimit) (hh1 : ¬ 3 * componentBytes (.array .int) > e.platform.maxHeapBytes) (hc : s.heap.size + 4 ≤ e.platform.maxCells) (hs : s.slotsUsed + (3 + 3 * n.toNatClampNeg) ≤ e.platform.maxSlots)
    {Q : Addr → Pre} (hq : ∀ d' acts', Q s.heap.size d' acts' (muS s c comp n.toNatClampNeg 3)) : wp (multianewarray.make c [3, n]) Q EP e d acts s := by
  have hf : ([n].find? (· < 0)) = none := by simp [hn]
  rw [multianewarray.make]
  simp only [wp_bind', W.ite, show ¬ (3 : Int32) < 0 by decide, if_false, wp_pure', W.theClass, hk, hkind, Option.some.injEq, exists_eq_left']
  refine W.newArray_of hk hkind hl1 hh1 (by omega) (by show s.slotsUsed + 3 ≤ _; omega) rfl fun acts' => ?_
  have e0 : s.pushCell { cls := c, slots := Array.replicate (3 : Int32).toNatClampNeg .null } = muS s c comp n.toNatClampNeg 0 := by
    show _ = s.pushCell (arrV c 3 (fun j => if j < 0 then .ref (s.heap.size + 1 + j) else .null))
    rw [show (fun j => if j < 0 then Value.ref (s.heap.size + 1 + j) else .null) = (fun _ : Nat => Value.null) from funext fun j => if_neg (Nat.not_lt_zero j), ← arrV_new]
    rfl
  rw [e0]
  simp only [hf]
  rw [ite_self, wp_bind', Std.Legacy.Range.forIn_eq_forIn_range', show ([:(3 : Int32).toNatClampNeg] : Std.Legacy.Range).size = 3 from rfl]
  show wp (forIn [0, 1, 2] PUnit.unit _) _ EP e d _ _
  simp only [List.forIn_cons, List.forIn_nil, wp_bind', wp_pure']
  refine mu_row (i := 0) hn hl hb (by decide) hk hkind hkc hkindc hc hs fun d1 a1 => ?_
  simp only [wp_bind']
  refine mu_row (i := 1) hn hl hb (by decide) hk hkind hkc hkindc hc hs fun d2 a2 => ?_
  simp only [wp_bind']
  refine mu_row (i := 2) hn hl hb (by decide) hk hkind hkc hkindc hc hs fun d3 a3 => ?_
  simp only [wp_pure']
  exact hq _ _
end MU
section MV
variable {p : Program} {l : Launch} {e : Env} {R : Room} {s : State} {m : MethodId} {args : Array Value} {below : List Frame} {meth : Method} {c : Code} {T : State} {locs : List Loc} {cells slots : Nat}
theorem mu_stand (X : Stand p l e R s m args below meth c T locs cells slots) (cA comp : ClassId) (n : Nat) : ∀ i, i ≤ 3 → Stand p l e R s m args below meth c (muS T cA comp n i) (locs ++ (List.range i).map fun j => ⟨T.heap.size, j⟩) (cells + 1 + i) (slots + 3 + i * n)
  | 0, _ => by
    have h := X.pushed (muO cA T.heap.size 0)
    rw [show (muO cA T.heap.size 0).slots.size = 3 from arrV_size _ _ _] at h
    simpa [muS] using h
  | i + 1, hi => by
    have Xi := mu_stand X cA comp n i (by omega)
    obtain ⟨f1, f2, f3, f4⟩ := muS_facts T cA comp n i
    have hlt0 : T.heap.size < (muS T cA comp n i).heap.size := by rw [f1]; omega
    have hcell : ((muS T cA comp n i).pushCell (zmuI comp n)).heap[T.heap.size]? = some (muO cA T.heap.size i) := by rw [State.heap_pushCell_of_lt (h := hlt0)]; exact f2
    have h := (Xi.pushed (zmuI comp n)).stored hcell i (.ref (T.heap.size + 1 + i))
    rw [show (zmuI comp n).slots.size = n from arrV_size _ _ _, muO_next] at h
    rw [show (locs ++ (List.range (i + 1)).map fun j => (⟨T.heap.size, j⟩ : Loc)) = (locs ++ (List.range i).map fun j => (⟨T.heap.size, j⟩ : Loc)) ++ [⟨T.heap.size, i⟩] by simp [List.range_succ, List.append_assoc], show slots + 3 + (i + 1) * n = slots + 3 + i * n + n by rw [Nat.succ_mul]; omega]
    exact h
theorem mu_law (X : Stand p l e R s m args below meth c T locs cells slots) (hexec : p.tables.exec = Jvm.exec) {own : String} {index : Nat} (hown : s.vm.findClass own = some m.cls) (hlink : (Cond.classLink own index "[[I").before args s = true)
    {n : Int32} (hn : ¬ n < 0) (hn1 : n.toNatClampNeg ≤ 1000000) {cA comp cc : ClassId} {kA kC : Class} (hnm : s.vm.findClass "[[I" = some cA) (hkA : s.vm.classes[cA]? = some kA) (hkindA : kA.kind = .array comp (.array .int)) (hkC : s.vm.classes[comp]? = some kC) (hkindC : kC.kind = .array cc .int)
    {g : JFrame} (hg : g.method = m) (hdg : decode c.code g.pc = .ok (.multianewarray index 2, 4)) {rest : List Value} (hstack : g.stack = .int n :: .int 3 :: rest) (hcells : cells + 4 ≤ R.cells) (hslots : slots + (3 + 3 * n.toNatClampNeg) ≤ R.slots) :
    ∃ vm₁ : Vm, Stand p l e R s m args below meth c (muS (T.setVm vm₁) cA comp n.toNatClampNeg 3) (locs ++ (List.range 3).map fun j => ⟨T.heap.size, j⟩) (cells + 1 + 3) (slots + 3 + 3 * n.toNatClampNeg) ∧
      ∀ target, Steps p.tables e below ((muS (T.setVm vm₁) cA comp n.toNatClampNeg 3).setTop { g with pc := g.pc + 4, stack := .ref T.heap.size :: rest }) target → Steps p.tables e below (T.setTop g) target := by
  subst hg
  have hpl : e.platform.magicAccessors = ({} : Platform).magicAccessors := by rw [X.admits.platform]
  obtain ⟨c0, hfc0, hcl⟩ := Cond.classLink_spec hown hlink e.platform hpl
  cases hnm.symm.trans hfc0
  obtain ⟨hg₁, hwarm₁, -⟩ := State.classEntry (e := e) X.warmed hcl
  generalize T.vm.noted g.method.cls index (.cls cA) = vm₁ at hg₁ hwarm₁
  have hal : s.vm.Alike vm₁ := hwarm₁.alike
  obtain ⟨kA₁, hkA₁, heA⟩ := hal.2.2 _ _ hkA
  obtain ⟨kC₁, hkC₁, heC⟩ := hal.2.2 _ _ hkC
  have X₁ := X.noted hwarm₁
  obtain ⟨hr1, hr2⟩ := X.roomAbove hcells hslots
  have XF := mu_stand X₁ cA comp n.toNatClampNeg 3 (Nat.le_refl _)
  refine ⟨vm₁, XF, fun target hrest => ?_⟩
  jvm_step X.here [hexec, hdg]
  simp only [multianewarray.sem, wp_bind', W.resolveClassAt_links (State.method?_setTop g X.here.top) hg₁]
  rw [W.popN, if_neg (by decide)]
  refine ⟨g, State.topJava?_setTop' (s := T.setVm vm₁) g X.here.top, [.int 3, .int n], rest, rfl, hstack, ?_⟩
  simp only [List.mapM_cons, List.mapM_nil, wp_bind', wp_pure']
  refine mu_make hn (by rw [Launch.admits_arrayLengthLimit X.admits]; omega) (by rw [Launch.admits_maxHeapBytes X.admits]; show ¬ n.toNatClampNeg * 4 > 536870912; omega) (k := kA₁) (kc := kC₁) (cc := cc) hkA₁ (by rw [heA]; exact hkindA) hkC₁ (by rw [heC]; exact hkindC) (by rw [Launch.admits_arrayLengthLimit X.admits]; decide) (by rw [Launch.admits_maxHeapBytes X.admits]; show ¬ 3 * 4 > 536870912; decide) (by show T.heap.size + 4 ≤ _; omega) (by show T.slotsUsed + (3 + 3 * n.toNatClampNeg) ≤ _; omega) fun d' acts' => ?_
  have eS : ((T.setTop g).setVm vm₁).setTop { g with stack := rest } = (T.setVm vm₁).setTop { g with stack := rest } := by
    show ((T.setVm vm₁).setTop g).setTop _ = _
    rw [State.setTop_setTop]
  rw [eS, muS_setTop]
  simp only [wp_bind', W.mark, W.pushRef, State.topJava?_setTop' _ XF.here.top, Option.some.injEq, exists_eq_left', State.setTop_setTop, State.heap_setTop]
  intro acts
  simp [jvm, XF.here.top]
  exact hrest
theorem mu_heap1 (A : Heap) (o o' x : Cell) : ((A.push o).push x).setIfInBounds A.size o' = (A.push o').push x := by
  apply Array.ext'
  simp [List.set_append]
theorem mu_heap2 (A : Heap) (o o' x : Cell) : (((A.push o).push x).push x).setIfInBounds A.size o' = ((A.push o').push x).push x := by
  apply Array.ext'
  simp [List.set_append]
theorem mu_heap3 (A : Heap) (o o' x : Cell) : ((((A.push o).push x).push x).push x).setIfInBounds A.size o' = (((A.push o').push x).push x).push x := by
  apply Array.ext'
  simp [List.set_append]
theorem muS_heap (T : State) (c comp : ClassId) (n : Nat) : (muS T c comp n 3).heap = (((T.heap.push (muO c T.heap.size 3)).push (zmuI comp n)).push (zmuI comp n)).push (zmuI comp n) := by
  show ((((((T.heap.push (muO c T.heap.size 0)).push (zmuI comp n)).setIfInBounds T.heap.size (muO c T.heap.size 1)).push (zmuI comp n)).setIfInBounds T.heap.size (muO c T.heap.size 2)).push (zmuI comp n)).setIfInBounds T.heap.size (muO c T.heap.size 3) = _
  rw [mu_heap1, mu_heap2, mu_heap3]
end MV
section MX
variable {P : rP} {E : rE} {l : Launch} {D : va_G} {dA : Nat → ClassId} {B : Nat} {HB : Heap × rS} {ρ : Nat → Nat} {rec : rF} {μ d pc k cells slots len : Nat} {ls : rO} {st : List Value} {σ : rS} {pa : List Nat} {act : rA} {r : rR}
theorem mu_congr {cA : ClassId} {n : Nat} {f g : Nat → Value} (h : ∀ j, j < n → f j = g j) : arrV cA n f = arrV cA n g := by
  unfold arrV
  congr 2
  funext j
  exact h j.val j.isLt
theorem mu_rheap {SB x : Nat} {Cl : List vw_C} {ν : rV} {H : Heap} (hρ : rho SB B ρ) (hH : rheap SB Cl D dA B HB ρ ν σ H) : rheap SB Cl D dA B HB ρ ν (σ ++ [.inr (7, 3, .null, [(0, .ref (σ.length + 1)), (1, .ref (σ.length + 2)), (2, .ref (σ.length + 3))]), .inr (1, x, .int 0, []), .inr (1, x, .int 0, []), .inr (1, x, .int 0, [])]) ((((H.push (muO (dA 7) H.size 3)).push (zmuI (dA 1) x)).push (zmuI (dA 1) x)).push (zmuI (dA 1) x)) := by
  have hp : ∀ (A : Heap) (o : Cell), (A.push o).size = A.size + 1 ∧ (∀ q : Nat, q < A.size → (A.push o)[q]? = A[q]?) ∧ (A.push o)[A.size]? = some o := fun A o => ⟨Array.size_push _, fun q hq => by rw [Array.getElem?_push, if_neg (Nat.ne_of_lt hq)], Array.getElem?_push_size⟩
  have hi : ∀ (τ : rS) (A : Heap), rheap SB Cl D dA B HB ρ ν τ A → rheap SB Cl D dA B HB ρ ν (τ ++ [.inr (1, x, .int 0, [])]) (A.push (zmuI (dA 1) x)) := fun τ A h => by
    refine rheap.push hρ h (hp A _).1 (hp A _).2.1 ?_
    show (A.push (zmuI (dA 1) x))[A.size]? = some (arrV (dA 1) x (fun j => rg ν ρ (rlk [] (.int 0) j)))
    rw [(hp A _).2.2]
    exact congrArg some (mu_congr fun j hj => rfl)
  have h0 : rheap SB Cl D dA B HB ρ ν (σ ++ [.inr (7, 3, .null, [(0, .ref (σ.length + 1)), (1, .ref (σ.length + 2)), (2, .ref (σ.length + 3))])]) (H.push (muO (dA 7) H.size 3)) := by
    refine rheap.push hρ hH (hp H _).1 (hp H _).2.1 ?_
    show (H.push (muO (dA 7) H.size 3))[H.size]? = some (arrV (dA 7) 3 (fun j => rg ν ρ (rlk [(0, .ref (σ.length + 1)), (1, .ref (σ.length + 2)), (2, .ref (σ.length + 3))] .null j)))
    rw [(hp H _).2.2]
    refine congrArg some (mu_congr fun j hj => ?_)
    rw [if_pos hj]
    have h1 := hH.1
    have h2 := hH.2.1
    have e1 := hρ.1 (σ.length + 1) (by omega)
    have e2 := hρ.1 (σ.length + 2) (by omega)
    have e3 := hρ.1 (σ.length + 3) (by omega)
    rcases (show j = 0 ∨ j = 1 ∨ j = 2 by omega) with rfl | rfl | rfl
    · show Value.ref (H.size + 1 + 0) = Value.ref (ρ (σ.length + 1))
      rw [show ρ (σ.length + 1) = H.size + 1 + 0 by omega]
    · show Value.ref (H.size + 1 + 1) = Value.ref (ρ (σ.length + 2))
      rw [show ρ (σ.length + 2) = H.size + 1 + 1 by omega]
    · show Value.ref (H.size + 1 + 2) = Value.ref (ρ (σ.length + 3))
      rw [show ρ (σ.length + 3) = H.size + 1 + 2 by omega]
  have h3 := hi _ _ (hi _ _ (hi _ _ h0))
  simp only [List.append_assoc, List.cons_append, List.nil_append] at h3
  exact h3
theorem st_multi {x : Nat} (hρ : rho P.2.2.2.2.2.2.1 B ρ) (ht : rtab P E) (hrec : rsound P E l D dA B HB ρ rec) (hp : rpo P E μ x act) (hk : act.1 = 16) (hd : decode (E.2.1 μ) pc = .ok (.multianewarray x 2, 4)) (h : rinstr P rec μ d pc ls st σ k pa cells slots (.multianewarray x 2) len act = some r) : rgoal P E l D dA B HB ρ r μ d pc ls st σ cells slots := by
  unfold rpo at hp
  rw [hk] at hp
  simp only [rinstr] at h
  split at h
  · next b a st =>
    split at h
    · next hb =>
      rw [Bool.and_eq_true, Bool.not_eq_true'] at hb
      have hn : ¬ b < 0 := of_decide_eq_false hb.1
      have ha : a = 3 := of_decide_eq_true hb.2
      subst ha
      rw [rn_eq] at h
      split at h
      rotate_left
      · cases h
      next hx =>
      have hx := Nat.le_of_ble_eq_true hx
      rw [rn_eq, rn_eq] at h
      obtain ⟨g1, g2, g3⟩ := hrec _ _ _ _ _ _ _ _ _ _ _ h
      refine ⟨by omega, by omega, fun ν hν => ?_⟩
      intro p e R s m args below meth c H locs lsR Q a1 a2 a3 a4 a5 a6 a7 a8 a9
      intro T hT X
      obtain ⟨kA, hkA, hkindA⟩ := a1.2.2.2.2.2.2.2.2.2.2.2
      have r7 := (a1.2.2.2.2.2.2.2.1 7 (by decide)).2
      have r1 := (a1.2.2.2.2.2.2.2.1 1 (by decide)).1 0 (fun _ => .int 0)
      rw [ht.2.2.2.1.2.2.2.2.1] at r7
      rw [ht.2.2.2.1.2.1] at r1
      obtain ⟨-, kC, hkC, cc, hkindC⟩ := r1
      have r7 : s.vm.findClass "[[I" = some (dA 7) := r7
      obtain ⟨vm₁, X', step⟩ := mu_law X a1.1 a1.2.2.2.1 (a1.2.2.2.2.1 _ hp) hn hx r7 hkA hkindA hkC hkindC (g := F0 m pc lsR (.int b :: .int 3 :: st.map (rg ν ρ))) rfl (by rw [a1.2.1]; exact hd) rfl (by omega) (by omega)
      have hnw := rheap.new_at hρ a7
      have hh := muS_heap (T.setVm vm₁) (dA 7) (dA 1) b.toNatClampNeg
      have hT1 : (T.setVm vm₁).heap = H := hT
      rw [hT1] at hh
      have w := g3 ν hν p e R s m args below meth c _ (locs ++ (List.range 3).map fun j => ⟨T.heap.size, j⟩) lsR Q a1 a2 a3 a4 a5 a6 (mu_rheap hρ a7) a8 (fun q hq => by
        rcases List.mem_append.mp hq with z | z
        · exact a9 q z
        · obtain ⟨j, -, hj⟩ := List.mem_map.mp z
          rw [← hj]
          show B ≤ T.heap.size
          rw [hT]
          have h1 := a7.1
          have h2 := a7.2.1
          omega)
      rw [show cells + 1 + 3 = cells + 4 by omega, show slots + 3 + 3 * b.toNatClampNeg = slots + (3 + 3 * b.toNatClampNeg) by omega] at X'
      obtain ⟨t2, b1, b2⟩ := w _ hh X'
      rw [List.map_cons, show rg ν ρ (.ref σ.length) = .ref T.heap.size by rw [hT, ← hnw]; rfl] at b1
      exact ⟨t2, step t2 b1, b2⟩
    · cases h
  · cases h
end MX
