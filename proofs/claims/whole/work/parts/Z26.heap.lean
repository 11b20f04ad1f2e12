/-! the steps that read or write the heap; what is asked of the tables -/
def rplain : Value → Bool
  | .int _ => true
  | .long _ => true
  | .null => true
  | _ => false
theorem rg_plain {ν : rV} {ρ : Nat → Nat} {v : Value} (h : rplain v = true) : rg ν ρ v = v := by cases v <;> first | rfl | cases h
theorem rg_plains {ν : rV} {ρ : Nat → Nat} {l : List Value} (h : l.all rplain = true) : l.map (rg ν ρ) = l := by
  induction l with
  | nil => rfl
  | cons a l ih =>
    simp only [List.all_cons, Bool.and_eq_true] at h
    rw [List.map_cons, ih h.2, rg_plain h.1]
def rtag : FieldType → Nat
  | .int => 0
  | .boolean => 1
  | .long => 2
  | .object _ => 3
  | .array _ => 3
  | _ => 7
theorem rfit_ok {ν : rV} {ρ : Nat → Nat} {ty : FieldType} {tag : Nat} {v : Value} (h : rfit tag v = true) (ht : rtag ty = tag) : narrow ty (rg ν ρ v) = rg ν ρ v ∧ fits ty (rg ν ρ v) = true := by
  subst ht
  cases ty <;> simp only [rtag, rfit] at h
  case int => rw [rg_i h]; exact ⟨rfl, rfl⟩
  case long => rw [rg_l h]; exact ⟨rfl, rfl⟩
  case boolean =>
    cases v <;> simp only [rbool] at h <;> try (cases h; done)
    next x =>
      simp only [Bool.or_eq_true, decide_eq_true_eq] at h
      rcases h with rfl | rfl
      · exact ⟨(by decide +kernel : narrow .boolean (.int 0) = .int 0), (by decide +kernel : fits .boolean (.int 0) = true)⟩
      · exact ⟨(by decide +kernel : narrow .boolean (.int 1) = .int 1), (by decide +kernel : fits .boolean (.int 1) = true)⟩
  case object n => cases v <;> first | exact ⟨rfl, rfl⟩ | (simp [risR] at h; done)
  case array n => cases v <;> first | exact ⟨rfl, rfl⟩ | (simp [risR] at h; done)
  all_goals (cases h; done)
section HP
variable (P : rP) (E : rE)
/-- a field's entry of the pool: the object's kind, the field's number, its link, its type -/
def rpoF (μ : Nat) (act : rA) (TB : List Jvm.Cond) (link : String → String → String → Jvm.Cond → Prop) : Prop :=
  ∃ (C : String) (T : u_T) (N : Nat) (w : Jvm.Cond) (tag : Nat) (ty : FieldType), E.2.2.2.2.1[act.2.1]? = some (C, T, N) ∧ act.2.2.1 < N ∧ link (T act.2.2.1).1 (T act.2.2.1).2.1 (T act.2.2.1).2.2.1 w ∧ w ∈ TB ∧ act.2.2.2 = .ref tag ∧ parseFieldDescriptor (T act.2.2.1).2.2.1 = some ty ∧ rtag ty = tag % 8 ∧ (tag < 8 → (T act.2.2.1).2.2.2 = false) ∧ (8 ≤ tag → tag < 16 → (T act.2.2.1).2.2.2 = true ∧ (T act.2.2.1).1 = (E.1 μ).cls)
/-- a method that is called: its words -/
def rpoM (μ' n : Nat) : Prop :=
  Jvm.Cond.initialized (E.1 μ').cls ∈ E.2.2.2.2.2.1 ∧ Jvm.Cond.code (E.1 μ') (E.2.1 μ') (P.2.1 μ') (E.2.2.1 μ') ∈ E.2.2.2.2.2.1 ∧ ((E.1 μ').cls ≠ "java/lang/invoke/MethodHandle" ∧ (E.1 μ').cls ≠ "java/lang/invoke/VarHandle" ∧ (parseMethodDescriptor (E.1 μ').desc).map (fun d => d.parameters.length) = some n) ∧ P.2.1 μ' ≤ 31 ∧ plainName (E.1 μ').cls = true ∧ ((E.2.2.1 μ' = none ∧ P.2.2.1 μ' = 9) ∨ ∃ ty, E.2.2.1 μ' = some ty ∧ rtag ty = P.2.2.1 μ') ∧ (P.2.2.2.1 μ' = true → (E.1 μ').name = "<init>")
def rpo (μ idx : Nat) (act : rA) : Prop :=
  match act.1 with
  | 0 => rpoF E μ act E.2.2.2.2.2.1 (fun r n d w => w = .fieldLink (E.1 μ).cls idx r n d)
  | 1 => rpoF E μ act E.2.2.2.2.2.2.2.2.2 (fun r n d w => ∃ host, w = .fieldLinkNest (E.1 μ).cls idx r n d host) ∧ ∀ tag, act.2.2.2 = .ref tag → tag < 8 ∨ 16 ≤ tag
  | 10 => ∃ v, act.2.2.2 = .int v ∧ Jvm.Cond.constant (E.1 μ).cls idx v ∈ E.2.2.2.2.2.1
  | 11 => ∃ v, act.2.2.2 = .long v ∧ Jvm.Cond.constantLong (E.1 μ).cls idx v ∈ E.2.2.2.2.2.1
  | 12 => ∃ (C : String) (T : u_T), E.2.2.2.2.1[act.2.1]? = some (C, T, act.2.2.1) ∧ Jvm.Cond.classLink (E.1 μ).cls idx C ∈ E.2.2.2.2.2.1 ∧ Jvm.Cond.instantiable C act.2.2.1 ∈ E.2.2.2.2.2.1 ∧ Jvm.Cond.initialized C ∈ E.2.2.2.2.2.1
  | 13 => ∃ C : String, E.2.2.2.2.2.2.1 act.2.1 = .object C ∧ Jvm.Cond.classLink (E.1 μ).cls idx C ∈ E.2.2.2.2.2.1 ∧ Jvm.Cond.arrayOver (.object C) ∈ E.2.2.2.2.2.2.2.2.2
  | 14 => act.2.1 < E.2.2.2.2.2.2.2.2.1 ∧ Jvm.Cond.fieldLink (E.1 μ).cls idx (E.2.2.2.2.2.2.2.1 act.2.1).1 (E.2.2.2.2.2.2.2.1 act.2.1).2.1 (E.2.2.2.2.2.2.2.1 act.2.1).2.2 ∈ E.2.2.2.2.2.1
  | 15 => act.2.1 < E.2.2.2.2.2.2.2.2.1 ∧ ∃ host, Jvm.Cond.fieldLinkNest (E.1 μ).cls idx (E.2.2.2.2.2.2.2.1 act.2.1).1 (E.2.2.2.2.2.2.2.1 act.2.1).2.1 (E.2.2.2.2.2.2.2.1 act.2.1).2.2 host ∈ E.2.2.2.2.2.2.2.2.2
  | 16 => Jvm.Cond.classLink (E.1 μ).cls idx "[[I" ∈ E.2.2.2.2.2.1
  | 20 => rpoM P E act.2.1 act.2.2.1 ∧ Jvm.Cond.methodLink (E.1 μ).cls idx (E.1 act.2.1) ∈ E.2.2.2.2.2.1 ∧ Jvm.Cond.instanceMethod (E.1 act.2.1) ∈ E.2.2.2.2.2.1 ∧ Jvm.Cond.selects (E.1 act.2.1).cls (E.1 act.2.1) (E.1 act.2.1) ∈ E.2.2.2.2.2.1 ∧ ∃ (ci : Nat) (q : vw_C), act.2.2.2 = .ref ci ∧ E.2.2.2.2.1[ci]? = some q ∧ q.1 = (E.1 act.2.1).cls
  | 21 => rpoM P E act.2.1 act.2.2.1 ∧ (∃ host, Jvm.Cond.methodLinkNest (E.1 μ).cls idx (E.1 act.2.1) host ∈ E.2.2.2.2.2.2.2.2.2) ∧ Jvm.Cond.instanceMethod (E.1 act.2.1) ∈ E.2.2.2.2.2.1 ∧ Jvm.Cond.selects (E.1 act.2.1).cls (E.1 act.2.1) (E.1 act.2.1) ∈ E.2.2.2.2.2.1 ∧ ∃ (ci : Nat) (q : vw_C), act.2.2.2 = .ref ci ∧ E.2.2.2.2.1[ci]? = some q ∧ q.1 = (E.1 act.2.1).cls
  | 22 => rpoM P E act.2.1 act.2.2.1 ∧ Jvm.Cond.methodLink (E.1 μ).cls idx (E.1 act.2.1) ∈ E.2.2.2.2.2.1 ∧ Jvm.Cond.instanceMethod (E.1 act.2.1) ∈ E.2.2.2.2.2.1 ∧ (E.1 act.2.1).name = "<init>" ∧ E.2.2.1 act.2.1 = none
  | 23 => rpoM P E act.2.1 act.2.2.1 ∧ (∃ host, Jvm.Cond.methodLinkNest (E.1 μ).cls idx (E.1 act.2.1) host ∈ E.2.2.2.2.2.2.2.2.2) ∧ Jvm.Cond.instanceMethod (E.1 act.2.1) ∈ E.2.2.2.2.2.1 ∧ (E.1 act.2.1).name = "<init>" ∧ E.2.2.1 act.2.1 = none
  | 24 => rpoM P E act.2.1 act.2.2.1 ∧ Jvm.Cond.methodLink (E.1 μ).cls idx (E.1 act.2.1) ∈ E.2.2.2.2.2.1 ∧ Jvm.Cond.static (E.1 act.2.1) ∈ E.2.2.2.2.2.1
  | 25 => rpoM P E act.2.1 act.2.2.1 ∧ (∃ host, Jvm.Cond.methodLinkNest (E.1 μ).cls idx (E.1 act.2.1) host ∈ E.2.2.2.2.2.2.2.2.2) ∧ Jvm.Cond.static (E.1 act.2.1) ∈ E.2.2.2.2.2.1
  | 26 => Jvm.Cond.methodLink (E.1 μ).cls idx Lib.objectInit ∈ E.2.2.2.2.2.1
  | 27 => Jvm.Cond.methodLink (E.1 μ).cls idx arraycopyName ∈ E.2.2.2.2.2.1
  | 28 => Jvm.Cond.methodLink (E.1 μ).cls idx ⟨"java/util/Arrays", "fill", "([II)V"⟩ ∈ E.2.2.2.2.2.1
  | 29 => Jvm.Cond.methodLink (E.1 μ).cls idx Lib.Math.max.name ∈ E.2.2.2.2.2.1
  | 30 => Jvm.Cond.methodLink (E.1 μ).cls idx Lib.Math.min.name ∈ E.2.2.2.2.2.1
  | _ => False
/-- what is asked of the tables -/
def rtab : Prop :=
  (∀ (μ pc : Nat) (f : rI), P.1 μ pc = some f → decode (E.2.1 μ) pc = .ok (f.1, f.2.1) ∧ rchk2 (E.2.2.2.1 μ) (P.2.1 μ) f.1 f.2.1 f.2.2 = true) ∧
  (∀ (μ : Nat) (q : Nat × rA), q ∈ E.2.2.2.1 μ → rpo P E μ q.1 q.2) ∧
  (∀ (ci : Nat) (C : String) (T : u_T) (N : Nat), E.2.2.2.2.1[ci]? = some (C, T, N) → (∀ w ∈ u_ws C T N, w ∈ E.2.2.2.2.2.1) ∧ (∃ ty : Nat → FieldType, (∀ k, k < N → parseFieldDescriptor (T k).2.2.1 = some (ty k)) ∧ ∀ j, j < N → defaultValue (ty j) = vp_V (P.2.2.2.2.1 ci) j) ∧ (∀ a, a < N → ∀ b, b < N → a ≠ b → (T a).2.1 ≠ (T b).2.1) ∧ (P.2.2.2.2.1 ci).all rplain = true) ∧
  (E.2.2.2.2.2.2.1 0 = .byte ∧ E.2.2.2.2.2.2.1 1 = .int ∧ E.2.2.2.2.2.2.1 2 = .long ∧ E.2.2.2.2.2.2.1 3 = .boolean ∧ E.2.2.2.2.2.2.1 7 = .array .int ∧ ∀ t, 4 ≤ t → t < 7 → ∃ q : vw_C, E.2.2.2.2.1[P.2.2.2.2.2.1 t]? = some q ∧ E.2.2.2.2.2.2.1 t = .object q.1) ∧
  (Jvm.Cond.arrayClass .byte ∈ E.2.2.2.2.2.1 ∧ Jvm.Cond.arrayClass .int ∈ E.2.2.2.2.2.1 ∧ Jvm.Cond.arrayClass .long ∈ E.2.2.2.2.2.1 ∧ Jvm.Cond.arrayClass .boolean ∈ E.2.2.2.2.2.1) ∧
  (Jvm.Cond.instanceMethod Lib.objectInit ∈ E.2.2.2.2.2.1 ∧ Jvm.Cond.code Lib.objectInit ⟨#[0xb1]⟩ 1 none ∈ E.2.2.2.2.2.1) ∧
  (Jvm.Cond.native arraycopyName ∈ E.2.2.2.2.2.1 ∧ Jvm.Cond.static arraycopyName ∈ E.2.2.2.2.2.1 ∧ Jvm.Cond.initialized "java/lang/System" ∈ E.2.2.2.2.2.1) ∧
  (Jvm.Cond.initialized "java/lang/Math" ∈ E.2.2.2.2.2.1 ∧ Jvm.Cond.static Lib.Math.max.name ∈ E.2.2.2.2.2.1 ∧ Jvm.Cond.code Lib.Math.max.name Lib.Math.max.code 2 (some .int) ∈ E.2.2.2.2.2.1 ∧ Jvm.Cond.static Lib.Math.min.name ∈ E.2.2.2.2.2.1 ∧ Jvm.Cond.code Lib.Math.min.name Lib.Math.min.code 2 (some .int) ∈ E.2.2.2.2.2.1) ∧
  (E.2.2.2.2.2.1.all goodWord = true)
end HP
section HS
variable {P : rP} {E : rE} {l : Launch} {D : va_G} {dA : Nat → ClassId} {B : Nat} {HB : Heap × rS} {ρ : Nat → Nat} {rec : rF} {μ d pc k cells slots len : Nat} {ls : rO} {st : List Value} {σ : rS} {pa : List Nat} {act : rA} {r : rR}
theorem st_ldc {x : Nat} (ht : rtab P E) (hrec : rsound P E l D dA B HB ρ rec) (hp : rpo P E μ x act) (hk : act.1 = 10) (hd : decode (E.2.1 μ) pc = .ok (.ldc x, 2)) (h : rinstr P rec μ d pc ls st σ k pa cells slots (.ldc x) len act = some r) : rgoal P E l D dA B HB ρ r μ d pc ls st σ cells slots := by
  unfold rpo at hp
  rw [hk] at hp
  obtain ⟨v, hv, hw⟩ := hp
  simp only [rinstr, hv, rn_eq] at h
  exact rpure rfl (hrec _ _ _ _ _ _ _ _ _ _ _ h) fun ν hν => ⟨hν, fun p e R s m args below meth c H locs lsR Q C hl _ _ w => lv_ldc C.1 C.2.1 C.2.2.2.1 (C.2.2.2.2.1 _ hw) hd w⟩
theorem st_ldcw {x : Nat} (ht : rtab P E) (hrec : rsound P E l D dA B HB ρ rec) (hp : rpo P E μ x act) (hk : act.1 = 10) (hd : decode (E.2.1 μ) pc = .ok (.ldc_w x, 3)) (h : rinstr P rec μ d pc ls st σ k pa cells slots (.ldc_w x) len act = some r) : rgoal P E l D dA B HB ρ r μ d pc ls st σ cells slots := by
  unfold rpo at hp
  rw [hk] at hp
  obtain ⟨v, hv, hw⟩ := hp
  simp only [rinstr, hv, rn_eq] at h
  exact rpure rfl (hrec _ _ _ _ _ _ _ _ _ _ _ h) fun ν hν => ⟨hν, fun p e R s m args below meth c H locs lsR Q C hl _ _ w => lv_ldcw C.1 C.2.1 C.2.2.2.1 (C.2.2.2.2.1 _ hw) hd w⟩
theorem st_ldc2 {x : Nat} (ht : rtab P E) (hrec : rsound P E l D dA B HB ρ rec) (hp : rpo P E μ x act) (hk : act.1 = 11) (hd : decode (E.2.1 μ) pc = .ok (.ldc2_w x, 3)) (h : rinstr P rec μ d pc ls st σ k pa cells slots (.ldc2_w x) len act = some r) : rgoal P E l D dA B HB ρ r μ d pc ls st σ cells slots := by
  unfold rpo at hp
  rw [hk] at hp
  obtain ⟨v, hv, hw⟩ := hp
  simp only [rinstr, hv, rn_eq] at h
  exact rpure rfl (hrec _ _ _ _ _ _ _ _ _ _ _ h) fun ν hν => ⟨hν, fun p e R s m args below meth c H locs lsR Q C hl _ _ w => lv_ldc2 C.1 C.2.1 C.2.2.2.1 (C.2.2.2.2.1 _ hw) hd w⟩
theorem st_ifnull {off : Int} (hrec : rsound P E l D dA B HB ρ rec) (hd : decode (E.2.1 μ) pc = .ok (.ifnull off, 3)) (h : rinstr P rec μ d pc ls st σ k pa cells slots (.ifnull off) len act = some r) : rgoal P E l D dA B HB ρ r μ d pc ls st σ cells slots := by
  simp only [rinstr] at h
  split at h
  · obtain ⟨t, ht, h⟩ := rjmp_ok h
    exact rpure rfl (hrec _ _ _ _ _ _ _ _ _ _ _ h) fun ν hν => ⟨hν, fun p e R s m args below meth c H locs lsR Q C hl _ _ w => lv_ifnullN C.1 C.2.1 hd ht w⟩
  · rw [rn_eq] at h
    exact rpure rfl (hrec _ _ _ _ _ _ _ _ _ _ _ h) fun ν hν => ⟨hν, fun p e R s m args below meth c H locs lsR Q C hl _ _ w => lv_ifnull C.1 C.2.1 hd w⟩
  · cases h
theorem st_ifnonnull {off : Int} (hrec : rsound P E l D dA B HB ρ rec) (hd : decode (E.2.1 μ) pc = .ok (.ifnonnull off, 3)) (h : rinstr P rec μ d pc ls st σ k pa cells slots (.ifnonnull off) len act = some r) : rgoal P E l D dA B HB ρ r μ d pc ls st σ cells slots := by
  simp only [rinstr] at h
  split at h
  · obtain ⟨t, ht, h⟩ := rjmp_ok h
    exact rpure rfl (hrec _ _ _ _ _ _ _ _ _ _ _ h) fun ν hν => ⟨hν, fun p e R s m args below meth c H locs lsR Q C hl _ _ w => lv_ifnonnull C.1 C.2.1 hd ht w⟩
  · rw [rn_eq] at h
    exact rpure rfl (hrec _ _ _ _ _ _ _ _ _ _ _ h) fun ν hν => ⟨hν, fun p e R s m args below meth c H locs lsR Q C hl _ _ w => lv_ifnonnullN C.1 C.2.1 hd w⟩
  · cases h
theorem st_sw {pc2 : Nat} {dflt lo hi : Int} {offs : Array Int} {x : Int32} {v : Value} {rest : List Value} {r' : rR} {pa2 : List Nat} (hrec : rsound P E l D dA B HB ρ rec) (hd : decode (E.2.1 μ) pc = .ok (.tableswitch dflt lo hi offs, len)) (hv : risI v = true) (ht : r'.2 = r.2) (hx : ∀ ν, rholds ν r.1 → rholds ν r'.1 ∧ ri ν v = x)
    (h : rsw pc dflt lo hi offs x (fun pc' => rec μ d pc' ls rest σ k pa2 cells slots) = some r') : rgoal P E l D dA B HB ρ r μ d pc ls (v :: rest) σ cells slots := by
  rcases rsw_ok h with ⟨hb, t, h1, h2⟩ | ⟨hb1, hb2, off, t, ho, h1, h2⟩
  · refine rpure ht (hrec _ _ _ _ _ _ _ _ _ _ _ h2) fun ν hν => ⟨(hx ν hν).1, fun p e R s m args below meth c H locs lsR Q C hl _ _ w => ?_⟩
    rw [List.map_cons, rg_i hv, (hx ν hν).2]
    exact lv_tableOut C.1 C.2.1 hd hb h1 w
  · refine rpure ht (hrec _ _ _ _ _ _ _ _ _ _ _ h2) fun ν hν => ⟨(hx ν hν).1, fun p e R s m args below meth c H locs lsR Q C hl _ _ w => ?_⟩
    rw [List.map_cons, rg_i hv, (hx ν hν).2]
    exact lv_tableIn C.1 C.2.1 hd hb1 hb2 ho h1 w
theorem st_tableswitch {dflt lo hi : Int} {offs : Array Int} (hrec : rsound P E l D dA B HB ρ rec) (hd : decode (E.2.1 μ) pc = .ok (.tableswitch dflt lo hi offs, len)) (h : rinstr P rec μ d pc ls st σ k pa cells slots (.tableswitch dflt lo hi offs) len act = some r) : rgoal P E l D dA B HB ρ r μ d pc ls st σ cells slots := by
  simp only [rinstr] at h
  split at h
  · next v rest =>
    unfold rswitch at h
    split at h
    · next x => exact st_sw (pc2 := pc) hrec hd rfl rfl (fun ν hν => ⟨hν, rfl⟩) h
    · next j =>
      split at h
      · cases h
      · next z pa' =>
        split at h
        · unfold remit at h
          split at h
          · next w hw =>
            cases h
            exact st_sw (pc2 := pc) (r' := w) hrec hd rfl rfl (fun ν hν => ⟨(rholds_cons hν).2, (rholds_cons hν).1⟩) hw
          · cases h
        · split at h
          · next hb =>
            simp only [Bool.and_eq_true, decide_eq_true_eq] at hb
            unfold remit at h
            split at h
            · next w hw =>
              cases h
              obtain ⟨t, h1, h2⟩ := rjmp_ok hw
              refine rpure (r' := w) rfl (hrec _ _ _ _ _ _ _ _ _ _ _ h2) fun ν hν => ⟨(rholds_cons hν).2, fun p e R s m args below meth c H locs lsR Q C hl _ _ w => ?_⟩
              have h3 := (rholds_cons hν).1
              simp only [rhold] at h3
              rw [List.map_cons, rg_i (v := .float j) rfl]
              exact lv_tableOut C.1 C.2.1 hd (by omega) h1 w
            · cases h
          · cases h
    · cases h
  · cases h
end HS
