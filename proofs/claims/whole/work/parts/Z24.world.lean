/-! the heap, the tables, what is to be shown of a run -/
def rcell (Cl : List vw_C) (D : va_G) (dA : Nat → ClassId) (ρ : Nat → Nat) (ν : rV) (a : Nat) (c : rC) (H : Heap) : Prop :=
  match c with
  | .inl q => ∃ r : vw_C, Cl[q.1]? = some r ∧ t_OB a (D.1 q.1) r.2.2 (D.2 q.1) H (vp_V (q.2.map (rg ν ρ)))
  | .inr q => H[a]? = some (arrV (dA q.1) q.2.1 (fun j => rg ν ρ (rlk q.2.2.2 q.2.2.1 j)))
theorem rcell.kept {Cl : List vw_C} {D : va_G} {dA : Nat → ClassId} {ρ : Nat → Nat} {ν : rV} {a : Nat} {c : rC} {H H1 : Heap} (h : rcell Cl D dA ρ ν a c H) (hq : H1[a]? = H[a]?) : rcell Cl D dA ρ ν a c H1 := by
  cases c with
  | inl q =>
    obtain ⟨r, h1, h2⟩ := h
    exact ⟨r, h1, h2.kept hq⟩
  | inr q => exact hq.trans h
theorem rcell.lt {Cl : List vw_C} {D : va_G} {dA : Nat → ClassId} {ρ : Nat → Nat} {ν : rV} {a : Nat} {c : rC} {H : Heap} (h : rcell Cl D dA ρ ν a c H) : a < H.size := by
  cases c with
  | inl q =>
    obtain ⟨r, h1, cell, h2, -⟩ := h
    exact (Array.getElem?_eq_some_iff.mp h2).1
  | inr q => exact (Array.getElem?_eq_some_iff.mp h).1
/-- where the cells lie -/
def rho (SB B : Nat) (ρ : Nat → Nat) : Prop := (∀ k, SB ≤ k → ρ k + SB = B + k) ∧ ∀ k, k < SB → ρ k < B
theorem rho.ge {SB B : Nat} {ρ : Nat → Nat} (h : rho SB B ρ) {k : Nat} (hk : SB ≤ k) : B ≤ ρ k := by
  have := h.1 k hk
  omega
theorem rho.inj {SB B : Nat} {ρ : Nat → Nat} (h : rho SB B ρ) {k j : Nat} (hk : SB ≤ k) (he : ρ j = ρ k) : j = k := by
  have h1 := h.1 k hk
  by_cases hj : SB ≤ j
  · have h2 := h.1 j hj
    omega
  · have h2 := h.2 j (by omega)
    omega
def rheap (SB : Nat) (Cl : List vw_C) (D : va_G) (dA : Nat → ClassId) (B : Nat) (HB : Heap × rS) (ρ : Nat → Nat) (ν : rV) (σ : rS) (H : Heap) : Prop :=
  H.size + SB = B + σ.length ∧ SB ≤ σ.length ∧ (∀ q : Nat, q < B → H[q]? = HB.1[q]?) ∧ (∀ (k : Nat) (c : rC), SB ≤ k → σ[k]? = some c → rcell Cl D dA ρ ν (ρ k) c H) ∧ ∀ k : Nat, k < SB → σ[k]? = HB.2[k]?
section RH
variable {SB : Nat} {Cl : List vw_C} {D : va_G} {dA : Nat → ClassId} {B : Nat} {HB : Heap × rS} {ρ : Nat → Nat} {ν : rV} {σ : rS} {H H1 : Heap}
/-- a cell is written -/
theorem rheap.set (hρ : rho SB B ρ) (h : rheap SB Cl D dA B HB ρ ν σ H) {a : Nat} {c : rC} (ha : SB ≤ a) (hs : H1.size = H.size) (hq : ∀ q : Nat, q ≠ ρ a → H1[q]? = H[q]?) (hc : rcell Cl D dA ρ ν (ρ a) c H1) : rheap SB Cl D dA B HB ρ ν (σ.set a c) H1 := by
  obtain ⟨h1, h2, h3, h4, h5⟩ := h
  refine ⟨by rw [hs, List.length_set]; exact h1, by rw [List.length_set]; exact h2, fun q hb => ?_, fun k x hk0 hk => ?_, fun k hk => ?_⟩
  · have := hρ.ge ha
    rw [hq q (by omega)]
    exact h3 q hb
  · by_cases hka : k = a
    · subst hka
      have hl : k < σ.length := by
        have := (List.getElem?_eq_some_iff.mp hk).1
        rw [List.length_set] at this
        exact this
      rw [List.getElem?_set_self hl] at hk
      cases hk
      exact hc
    · rw [List.getElem?_set_ne (Ne.symm hka)] at hk
      exact (h4 k x hk0 hk).kept (hq _ (fun e => hka (hρ.inj ha e)))
  · rw [List.getElem?_set_ne (by omega)]
    exact h5 k hk
/-- a cell is made -/
theorem rheap.push (hρ : rho SB B ρ) (h : rheap SB Cl D dA B HB ρ ν σ H) {c : rC} (hs : H1.size = H.size + 1) (hq : ∀ q : Nat, q < H.size → H1[q]? = H[q]?) (hc : rcell Cl D dA ρ ν H.size c H1) : rheap SB Cl D dA B HB ρ ν (σ ++ [c]) H1 := by
  obtain ⟨h1, h2, h3, h4, h5⟩ := h
  refine ⟨by rw [hs, List.length_append]; simp; omega, by rw [List.length_append]; omega, fun q hb => ?_, fun k x hk0 hk => ?_, fun k hk => ?_⟩
  · rw [hq q (by omega)]
    exact h3 q hb
  · by_cases hl : k < σ.length
    · rw [List.getElem?_append_left hl] at hk
      have h6 := h4 k x hk0 hk
      exact h6.kept (hq _ h6.lt)
    · rw [List.getElem?_append_right (by omega)] at hk
      have hz : k - σ.length < 1 := (List.getElem?_eq_some_iff.mp hk).1
      have hk0 : k = σ.length := by omega
      subst hk0
      rw [Nat.sub_self] at hk
      cases hk
      have h6 := hρ.1 σ.length h2
      rw [show ρ σ.length = H.size by omega]
      exact hc
  · rw [List.getElem?_append_left (by omega)]
    exact h5 k hk
theorem rheap.new_at (hρ : rho SB B ρ) (h : rheap SB Cl D dA B HB ρ ν σ H) : ρ σ.length = H.size := by
  have h1 := h.1
  have h6 := hρ.1 σ.length h.2.1
  omega
end RH
theorem rnk_warm {w : Jvm.Cond} {s U : State} (h : rnk w = true) (hW : s.WarmedH U.vm) (hw : va_Nw w s) : va_Nw w U := by
  unfold rnk at h
  split at h
  · exact hw.warmF hW
  · exact hw.warmM hW
  · exact va_AO.moved hW.alike hw
  · cases h
/-- the tables of a state: the objects' fields, the arrays' kinds, the static arrays -/
def rkn (SB : Nat) (Cl : List vw_C) (Ty : Nat → FieldType) (St : Nat → String × String × String) (NS : Nat) (TN : List Jvm.Cond) (D : va_G) (dA : Nat → ClassId) (B : Nat) (HB : Heap × rS) (ρ : Nat → Nat) (ν : rV) (U : State) : Prop :=
  (∀ (c : Nat) (q : vw_C), Cl[c]? = some q → u_Kn U q.1 q.2.1 q.2.2 (D.1 c) (D.2 c)) ∧ (∀ t : Nat, t < 8 → ArrOfT U (dA t) (Ty t) ∧ va_RA U (dA t) (Ty t)) ∧ (∀ j : Nat, j < NS → va_Z (St j).1 (St j).2.1 (St j).2.2 (.ref (ρ j)) (fun q => B ≤ q) U HB.1) ∧ (∀ k : Nat, k < SB → ∃ (t n : Nat) (dv : Value) (ov : rO), t < 8 ∧ HB.2[k]? = some (.inr (t, n, dv, ov)) ∧ va_T (Ty t) (ρ k) n (fun j => rg ν ρ (rlk ov dv j)) (fun q => B ≤ q) U HB.1) ∧ (∀ w ∈ TN, rnk w = true ∧ va_Nw w U) ∧ ∃ k : Class, U.vm.classes[dA 7]? = some k ∧ k.kind = .array (dA 1) (.array .int)
theorem rkn.moved {SB : Nat} {Cl : List vw_C} {Ty : Nat → FieldType} {St : Nat → String × String × String} {NS : Nat} {TN : List Jvm.Cond} {D : va_G} {dA : Nat → ClassId} {B : Nat} {HB : Heap × rS} {ρ : Nat → Nat} {ν : rV} {u U : State} (hW : u.WarmedH U.vm) (h : rkn SB Cl Ty St NS TN D dA B HB ρ ν u) : rkn SB Cl Ty St NS TN D dA B HB ρ ν U :=
  ⟨fun c q hq => u_Kn_moved hW.alike (h.1 c q hq), fun t ht => ⟨arrOfT_moved hW.alike (h.2.1 t ht).1, (h.2.1 t ht).2.moved hW.alike⟩, fun j hj => (h.2.2.1 j hj).moved hW.alike, (fun k hk => by
    obtain ⟨t, n, dv, ov, h1, h2, h3⟩ := h.2.2.2.1 k hk
    exact ⟨t, n, dv, ov, h1, h2, h3.moved hW.alike⟩), (fun w hw => ⟨(h.2.2.2.2.1 w hw).1, rnk_warm (h.2.2.2.2.1 w hw).1 hW (h.2.2.2.2.1 w hw).2⟩), by
    obtain ⟨k, h1, h2⟩ := h.2.2.2.2.2
    obtain ⟨k', h3, h4⟩ := hW.alike.2.2 _ _ h1
    exact ⟨k', h3, by rw [h4]; exact h2⟩⟩
/-- an object of the run's heap -/
theorem robj {SB : Nat} {Cl : List vw_C} {Ty : Nat → FieldType} {St : Nat → String × String × String} {NS : Nat} {TN : List Jvm.Cond} {D : va_G} {dA : Nat → ClassId} {B : Nat} {HB : Heap × rS} {ρ : Nat → Nat} {ν : rV} {σ : rS} {H : Heap} {s : State} {a : Nat} {q : Nat × List Value} (hH : rheap SB Cl D dA B HB ρ ν σ H) (hK : rkn SB Cl Ty St NS TN D dA B HB ρ ν s) (hσ : σ[a]? = some (.inl q)) : rcell Cl D dA ρ ν (ρ a) (.inl q) H := by
  by_cases ha : SB ≤ a
  · exact hH.2.2.2.1 a _ ha hσ
  · obtain ⟨t, n, dv, ov, -, h2, -⟩ := hK.2.2.2.1 a (by omega)
    rw [← hH.2.2.2.2 a (by omega), hσ] at h2
    cases h2
/-- an array of the run's heap, as it may be read -/
theorem rarrT {SB : Nat} {Cl : List vw_C} {Ty : Nat → FieldType} {St : Nat → String × String × String} {NS : Nat} {TN : List Jvm.Cond} {D : va_G} {dA : Nat → ClassId} {B : Nat} {HB : Heap × rS} {ρ : Nat → Nat} {ν : rV} {σ : rS} {H : Heap} {s : State} {a t n : Nat} {dv : Value} {ov : rO} (hH : rheap SB Cl D dA B HB ρ ν σ H) (hK : rkn SB Cl Ty St NS TN D dA B HB ρ ν s) (hσ : σ[a]? = some (.inr (t, n, dv, ov))) (ht : t < 8) : va_T (Ty t) (ρ a) n (fun j => rg ν ρ (rlk ov dv j)) (fun _ => False) s H := by
  by_cases ha : SB ≤ a
  · have h1 : H[ρ a]? = some (arrV (dA t) n (fun j => rg ν ρ (rlk ov dv j))) := hH.2.2.2.1 a _ ha hσ
    refine ⟨_, h1, (hK.2.1 t ht).1 n _, (fun q => by cases q), ?_, ?_, fun j hj => ?_, id⟩
    · rw [arrV_size]; exact Nat.le_refl _
    · rw [arrV_size] <;> rfl
    · rw [arrV_read _ _ hj]
  · obtain ⟨t', n', dv', ov', -, h2, h3⟩ := hK.2.2.2.1 a (by omega)
    rw [← hH.2.2.2.2 a (by omega), hσ] at h2
    cases h2
    obtain ⟨cell, g1, g2, g3, g4, g5, g6, g7⟩ := h3
    exact ⟨cell, by rw [hH.2.2.1 _ (by omega)]; exact g1, g2, g3, g4, g5, g6, id⟩
section RG
variable (P : rP) (E : rE) (l : Launch) (D : va_G) (dA : Nat → ClassId) (B : Nat) (HB : Heap × rS) (ρ : Nat → Nat)
def rctx (ν : rV) (p : Program) (s : State) (m : MethodId) (args : Array Value) (meth : Method) (c : Code) (μ : Nat) : Prop :=
  p.tables.exec = Jvm.exec ∧ c.code = E.2.1 μ ∧ c.maxLocals = P.2.1 μ ∧ s.vm.findClass (E.1 μ).cls = some m.cls ∧ (∀ w ∈ E.2.2.2.2.2.1, w.before args s = true) ∧ (P.2.2.2.1 μ = true → meth.name = "<init>") ∧ rkn P.2.2.2.2.2.2.1 E.2.2.2.2.1 E.2.2.2.2.2.2.1 E.2.2.2.2.2.2.2.1 E.2.2.2.2.2.2.2.2.1 E.2.2.2.2.2.2.2.2.2 D dA B HB ρ ν s
abbrev rhp (ν : rV) (σ : rS) (H : Heap) : Prop := rheap P.2.2.2.2.2.2.1 E.2.2.2.2.1 D dA B HB ρ ν σ H
def rgl (ν : rV) (ls : rO) : List (Nat × Value) := ls.map (fun q => (q.1, rg ν ρ q.2))
/-- from here on the method comes to its end as t says -/
def rW (ν : rV) (t : rT) (μ d pc : Nat) (ls : rO) (st : List Value) (σ : rS) (cells slots : Nat) : Prop :=
  ∀ (p : Program) (e : Env) (R : Room) (s : State) (m : MethodId) (args : Array Value) (below : List Frame) (meth : Method) (c : Code) (H : Heap) (locs : List Loc) (lsR : Array Slot) (Q : State → Prop),
    rctx P E D dA B HB ρ ν p s m args meth c μ → d + 1 ≤ R.frames → 50 * d + 46 ≤ R.locals → t.2.2.2.2.1 ≤ R.cells → t.2.2.2.2.2 ≤ R.slots →
    (∀ (i : Instr) (pc : Nat) (H : Heap) (locs : List Loc) (lsR : Array Slot), rreti t.1 i = true → decode (E.2.1 μ) pc = .ok (i, 1) → rhp P E D dA B HB ρ ν t.2.1 H → (∀ q ∈ locs, B ≤ q.base) → W p l e R s m args below meth c H locs t.2.2.2.2.1 t.2.2.2.2.2 Q (F0 m pc lsR (t.1.toList.map (rg ν ρ)))) →
    rhp P E D dA B HB ρ ν σ H → lv_has lsR (P.2.1 μ) (rgl ρ ν ls) → (∀ q ∈ locs, B ≤ q.base) → W p l e R s m args below meth c H locs cells slots Q (F0 m pc lsR (st.map (rg ν ρ)))
def rgoal (r : rR) (μ d pc : Nat) (ls : rO) (st : List Value) (σ : rS) (cells slots : Nat) : Prop :=
  cells ≤ r.2.2.2.2.2.1 ∧ slots ≤ r.2.2.2.2.2.2 ∧ ∀ ν : rV, rholds ν r.1 → rW P E l D dA B HB ρ ν r.2 μ d pc ls st σ cells slots
def rsound (rec : rF) : Prop := ∀ (μ d pc : Nat) (ls : rO) (st : List Value) (σ : rS) (k : Nat) (pa : List Nat) (cells slots : Nat) (r : rR), rec μ d pc ls st σ k pa cells slots = some r → rgoal P E l D dA B HB ρ r μ d pc ls st σ cells slots
end RG
section RS
variable {P : rP} {E : rE} {l : Launch} {D : va_G} {dA : Nat → ClassId} {B : Nat} {HB : Heap × rS} {ρ : Nat → Nat} {r r' : rR} {μ d pc pc' cells slots : Nat} {ls ls' : rO} {st st' : List Value} {σ : rS}
/-- an instruction that leaves heap and locals -/
theorem rpure (ht : r'.2 = r.2) (hg : rgoal P E l D dA B HB ρ r' μ d pc' ls st' σ cells slots)
    (hh : ∀ ν, rholds ν r.1 → rholds ν r'.1 ∧ ∀ (p : Program) (e : Env) (R : Room) (s : State) (m : MethodId) (args : Array Value) (below : List Frame) (meth : Method) (c : Code) (H : Heap) (locs : List Loc) (lsR : Array Slot) (Q : State → Prop), rctx P E D dA B HB ρ ν p s m args meth c μ → lv_has lsR (P.2.1 μ) (rgl ρ ν ls) → 50 * d + 46 ≤ R.locals → d + 1 ≤ R.frames →
      W p l e R s m args below meth c H locs cells slots Q (F0 m pc' lsR (st'.map (rg ν ρ))) → W p l e R s m args below meth c H locs cells slots Q (F0 m pc lsR (st.map (rg ν ρ)))) :
    rgoal P E l D dA B HB ρ r μ d pc ls st σ cells slots := by
  obtain ⟨g1, g2, g3⟩ := hg
  rw [ht] at g1 g2
  refine ⟨g1, g2, fun ν hν => ?_⟩
  obtain ⟨h1, h2⟩ := hh ν hν
  have h3 := g3 ν h1
  rw [ht] at h3
  intro p e R s m args below meth c H locs lsR Q a1 a2 a3 a4 a5 a6 a7 a8 a9
  exact h2 p e R s m args below meth c H locs lsR Q a1 a8 a3 a2 (h3 p e R s m args below meth c H locs lsR Q a1 a2 a3 a4 a5 a6 a7 a8 a9)
/-- an instruction that writes a local -/
theorem rlocal (ht : r'.2 = r.2) (hg : rgoal P E l D dA B HB ρ r' μ d pc' ls' st' σ cells slots)
    (hh : ∀ ν, rholds ν r.1 → rholds ν r'.1 ∧ ∀ (p : Program) (e : Env) (R : Room) (s : State) (m : MethodId) (args : Array Value) (below : List Frame) (meth : Method) (c : Code) (H : Heap) (locs : List Loc) (lsR : Array Slot) (Q : State → Prop), rctx P E D dA B HB ρ ν p s m args meth c μ → lv_has lsR (P.2.1 μ) (rgl ρ ν ls) →
      (∀ lsR' : Array Slot, lv_has lsR' (P.2.1 μ) (rgl ρ ν ls') → W p l e R s m args below meth c H locs cells slots Q (F0 m pc' lsR' (st'.map (rg ν ρ)))) → W p l e R s m args below meth c H locs cells slots Q (F0 m pc lsR (st.map (rg ν ρ)))) :
    rgoal P E l D dA B HB ρ r μ d pc ls st σ cells slots := by
  obtain ⟨g1, g2, g3⟩ := hg
  rw [ht] at g1 g2
  refine ⟨g1, g2, fun ν hν => ?_⟩
  obtain ⟨h1, h2⟩ := hh ν hν
  have h3 := g3 ν h1
  rw [ht] at h3
  intro p e R s m args below meth c H locs lsR Q a1 a2 a3 a4 a5 a6 a7 a8 a9
  exact h2 p e R s m args below meth c H locs lsR Q a1 a8 (fun lsR' hl => h3 p e R s m args below meth c H locs lsR' Q a1 a2 a3 a4 a5 a6 a7 hl a9)
/-- an instruction that reads the heap -/
theorem rread (ht : r'.2 = r.2) (hg : rgoal P E l D dA B HB ρ r' μ d pc' ls st' σ cells slots)
    (hh : ∀ ν, rholds ν r.1 → rholds ν r'.1 ∧ ∀ (p : Program) (e : Env) (R : Room) (s : State) (m : MethodId) (args : Array Value) (below : List Frame) (meth : Method) (c : Code) (H : Heap) (locs : List Loc) (lsR : Array Slot) (Q : State → Prop), rctx P E D dA B HB ρ ν p s m args meth c μ → rhp P E D dA B HB ρ ν σ H →
      W p l e R s m args below meth c H locs cells slots Q (F0 m pc' lsR (st'.map (rg ν ρ))) → W p l e R s m args below meth c H locs cells slots Q (F0 m pc lsR (st.map (rg ν ρ)))) :
    rgoal P E l D dA B HB ρ r μ d pc ls st σ cells slots := by
  obtain ⟨g1, g2, g3⟩ := hg
  rw [ht] at g1 g2
  refine ⟨g1, g2, fun ν hν => ?_⟩
  obtain ⟨h1, h2⟩ := hh ν hν
  have h3 := g3 ν h1
  rw [ht] at h3
  intro p e R s m args below meth c H locs lsR Q a1 a2 a3 a4 a5 a6 a7 a8 a9
  exact h2 p e R s m args below meth c H locs lsR Q a1 a7 (h3 p e R s m args below meth c H locs lsR Q a1 a2 a3 a4 a5 a6 a7 a8 a9)
/-- an instruction that writes the heap -/
theorem rwrite {σ' : rS} (ht : r'.2 = r.2) (hg : rgoal P E l D dA B HB ρ r' μ d pc' ls st' σ' cells slots)
    (hh : ∀ ν, rholds ν r.1 → rholds ν r'.1 ∧ ∀ (p : Program) (e : Env) (R : Room) (s : State) (m : MethodId) (args : Array Value) (below : List Frame) (meth : Method) (c : Code) (H : Heap) (locs : List Loc) (lsR : Array Slot) (Q : State → Prop), rctx P E D dA B HB ρ ν p s m args meth c μ → rhp P E D dA B HB ρ ν σ H → lv_has lsR (P.2.1 μ) (rgl ρ ν ls) → 50 * d + 46 ≤ R.locals → d + 1 ≤ R.frames → (∀ q ∈ locs, B ≤ q.base) →
      (∀ (H1 : Heap) (locs1 : List Loc), rhp P E D dA B HB ρ ν σ' H1 → (∀ q ∈ locs1, B ≤ q.base) → W p l e R s m args below meth c H1 locs1 cells slots Q (F0 m pc' lsR (st'.map (rg ν ρ)))) → W p l e R s m args below meth c H locs cells slots Q (F0 m pc lsR (st.map (rg ν ρ)))) :
    rgoal P E l D dA B HB ρ r μ d pc ls st σ cells slots := by
  obtain ⟨g1, g2, g3⟩ := hg
  rw [ht] at g1 g2
  refine ⟨g1, g2, fun ν hν => ?_⟩
  obtain ⟨h1, h2⟩ := hh ν hν
  have h3 := g3 ν h1
  rw [ht] at h3
  intro p e R s m args below meth c H locs lsR Q a1 a2 a3 a4 a5 a6 a7 a8 a9
  exact h2 p e R s m args below meth c H locs lsR Q a1 a7 a8 a3 a2 a9 (fun H1 locs1 b1 b2 => h3 p e R s m args below meth c H1 locs1 lsR Q a1 a2 a3 a4 a5 a6 b1 a8 b2)
/-- an instruction that makes a cell of n slots -/
theorem rmake {σ' : rS} {n : Nat} (hg : rgoal P E l D dA B HB ρ r μ d pc' ls st' σ' (cells + 1) (slots + n))
    (hh : ∀ ν, ∀ (p : Program) (e : Env) (R : Room) (s : State) (m : MethodId) (args : Array Value) (below : List Frame) (meth : Method) (c : Code) (H : Heap) (locs : List Loc) (lsR : Array Slot) (Q : State → Prop), rctx P E D dA B HB ρ ν p s m args meth c μ → rhp P E D dA B HB ρ ν σ H → cells + 1 ≤ R.cells → slots + n ≤ R.slots →
      (∀ (H1 : Heap), rhp P E D dA B HB ρ ν σ' H1 → W p l e R s m args below meth c H1 locs (cells + 1) (slots + n) Q (F0 m pc' lsR (st'.map (rg ν ρ)))) → W p l e R s m args below meth c H locs cells slots Q (F0 m pc lsR (st.map (rg ν ρ)))) :
    rgoal P E l D dA B HB ρ r μ d pc ls st σ cells slots := by
  obtain ⟨g1, g2, g3⟩ := hg
  refine ⟨by omega, by omega, fun ν hν => ?_⟩
  have h3 := g3 ν hν
  intro p e R s m args below meth c H locs lsR Q a1 a2 a3 a4 a5 a6 a7 a8 a9
  exact hh ν p e R s m args below meth c H locs lsR Q a1 a7 (by omega) (by omega) (fun H1 b1 => h3 p e R s m args below meth c H1 locs lsR Q a1 a2 a3 a4 a5 a6 b1 a8 a9)
end RS
theorem rgl_mem {ρ : Nat → Nat} {ν : rV} {ls : rO} {i : Nat} {v : Value} (h : (i, v) ∈ ls) : (i, rg ν ρ v) ∈ rgl ρ ν ls := List.mem_map.mpr ⟨(i, v), h, rfl⟩
theorem rgl_set {ρ : Nat → Nat} {ν : rV} {ls : rO} {i : Nat} {v : Value} : (i, rg ν ρ v) :: (rgl ρ ν ls).filter (fun q => !(q.1 == i) && !(q.1 + 1 == i && q.2.category == 2)) = rgl ρ ν (rset ls i v) := by
  rw [rset_eq]
  unfold rgl
  rw [List.map_cons, List.filter_map]
  congr 3
  funext q
  simp [Function.comp, rg_cat]
theorem rgl_set2 {ρ : Nat → Nat} {ν : rV} {ls : rO} {i : Nat} {v : Value} : (i, rg ν ρ v) :: (rgl ρ ν ls).filter (fun q => !(q.1 == i) && (!(q.1 == i + 1) && !(q.1 + 1 == i && q.2.category == 2))) = rgl ρ ν (rset2 ls i v) := by
  rw [rset2_eq]
  unfold rgl
  rw [List.map_cons, List.filter_map]
  congr 3
  funext q
  simp [Function.comp, rg_cat]
theorem lv_atm {ls : Array Slot} {nL : Nat} {l : List (Nat × Value)} (h : lv_has ls nL l) {i : Nat} {v : Value} (hm : (i, v) ∈ l) : ls[i]? = some (.val v) := h.2.2 (i, v) hm
