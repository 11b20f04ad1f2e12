/-! the pool's entries, a row a kind -/
section PO
variable {P : rP} {E : rE} {m idx : Nat} {own : String}
theorem po0 {ci kf tag : Nat} {C : String} {T : u_T} {N : Nat} {ty : FieldType} {r n d : String} {fin : Bool} (hc : (E.1 m).cls = own) (h1 : E.2.2.2.2.1[ci]? = some (C, T, N)) (h2 : kf < N) (hT : T kf = (r, n, d, fin)) (h4 : Jvm.Cond.fieldLink own idx r n d ∈ E.2.2.2.2.2.1) (h5 : parseFieldDescriptor (T kf).2.2.1 = some ty) (h6 : rtag ty = tag % 8) (h7 : tag < 8 → fin = false) (h8 : 8 ≤ tag → tag < 16 → fin = true ∧ r = own) : rpo P E m idx (0, ci, kf, .ref tag) := by
  refine ⟨C, T, N, _, tag, ty, h1, h2, rfl, ?_, rfl, h5, h6, ?_, ?_⟩
  · show Jvm.Cond.fieldLink (E.1 m).cls idx (T kf).1 (T kf).2.1 (T kf).2.2.1 ∈ _
    rw [hc, hT]; exact h4
  · show tag < 8 → (T kf).2.2.2 = false
    rw [hT]; exact h7
  · show 8 ≤ tag → tag < 16 → (T kf).2.2.2 = true ∧ (T kf).1 = (E.1 m).cls
    rw [hT, hc]; exact h8
theorem po1 {ci kf tag : Nat} {C host : String} {T : u_T} {N : Nat} {ty : FieldType} {r n d : String} {fin : Bool} (hc : (E.1 m).cls = own) (h1 : E.2.2.2.2.1[ci]? = some (C, T, N)) (h2 : kf < N) (hT : T kf = (r, n, d, fin)) (h4 : Jvm.Cond.fieldLinkNest own idx r n d host ∈ E.2.2.2.2.2.2.2.2.2) (h5 : parseFieldDescriptor (T kf).2.2.1 = some ty) (h6 : rtag ty = tag % 8) (h7 : tag < 8 → fin = false) (h8 : 8 ≤ tag → tag < 16 → fin = true ∧ r = own) (h9 : tag < 8 ∨ 16 ≤ tag) : rpo P E m idx (1, ci, kf, .ref tag) := by
  refine ⟨⟨C, T, N, _, tag, ty, h1, h2, ⟨host, rfl⟩, ?_, rfl, h5, h6, ?_, ?_⟩, fun tag' e => by cases e; exact h9⟩
  · show Jvm.Cond.fieldLinkNest (E.1 m).cls idx (T kf).1 (T kf).2.1 (T kf).2.2.1 host ∈ _
    rw [hc, hT]; exact h4
  · show tag < 8 → (T kf).2.2.2 = false
    rw [hT]; exact h7
  · show 8 ≤ tag → tag < 16 → (T kf).2.2.2 = true ∧ (T kf).1 = (E.1 m).cls
    rw [hT, hc]; exact h8
theorem po10 {v : Int32} (hc : (E.1 m).cls = own) (h : Jvm.Cond.constant own idx v ∈ E.2.2.2.2.2.1) : rpo P E m idx (10, 0, 0, .int v) := ⟨v, rfl, by rw [hc]; exact h⟩
theorem po11 {v : Int64} (hc : (E.1 m).cls = own) (h : Jvm.Cond.constantLong own idx v ∈ E.2.2.2.2.2.1) : rpo P E m idx (11, 0, 0, .long v) := ⟨v, rfl, by rw [hc]; exact h⟩
theorem po12 {ci N : Nat} {C : String} {T : u_T} {v : Value} (hc : (E.1 m).cls = own) (h1 : E.2.2.2.2.1[ci]? = some (C, T, N)) (h2 : Jvm.Cond.classLink own idx C ∈ E.2.2.2.2.2.1) (h3 : Jvm.Cond.instantiable C N ∈ E.2.2.2.2.2.1) (h4 : Jvm.Cond.initialized C ∈ E.2.2.2.2.2.1) : rpo P E m idx (12, ci, N, v) := ⟨C, T, h1, by rw [hc]; exact h2, h3, h4⟩
theorem po13 {t z : Nat} {C : String} {v : Value} (hc : (E.1 m).cls = own) (h1 : E.2.2.2.2.2.2.1 t = .object C) (h2 : Jvm.Cond.classLink own idx C ∈ E.2.2.2.2.2.1) (h3 : Jvm.Cond.arrayOver (.object C) ∈ E.2.2.2.2.2.2.2.2.2) : rpo P E m idx (13, t, z, v) := ⟨C, h1, by rw [hc]; exact h2, h3⟩
theorem po14 {j z : Nat} {v : Value} (hc : (E.1 m).cls = own) (h1 : j < E.2.2.2.2.2.2.2.2.1) (h2 : Jvm.Cond.fieldLink own idx (E.2.2.2.2.2.2.2.1 j).1 (E.2.2.2.2.2.2.2.1 j).2.1 (E.2.2.2.2.2.2.2.1 j).2.2 ∈ E.2.2.2.2.2.1) : rpo P E m idx (14, j, z, v) := ⟨h1, by rw [hc]; exact h2⟩
theorem po15 {j z : Nat} {v : Value} {host : String} (hc : (E.1 m).cls = own) (h1 : j < E.2.2.2.2.2.2.2.2.1) (h2 : Jvm.Cond.fieldLinkNest own idx (E.2.2.2.2.2.2.2.1 j).1 (E.2.2.2.2.2.2.2.1 j).2.1 (E.2.2.2.2.2.2.2.1 j).2.2 host ∈ E.2.2.2.2.2.2.2.2.2) : rpo P E m idx (15, j, z, v) := ⟨h1, host, by rw [hc]; exact h2⟩
theorem po16 {a b : Nat} {v : Value} (hc : (E.1 m).cls = own) (h : Jvm.Cond.classLink own idx "[[I" ∈ E.2.2.2.2.2.1) : rpo P E m idx (16, a, b, v) := by
  show Jvm.Cond.classLink (E.1 m).cls idx _ ∈ _
  rw [hc]; exact h
theorem po20 {j n ci : Nat} {q : vw_C} (hc : (E.1 m).cls = own) (hM : rpoM P E j n) (h1 : Jvm.Cond.methodLink own idx (E.1 j) ∈ E.2.2.2.2.2.1) (h2 : Jvm.Cond.instanceMethod (E.1 j) ∈ E.2.2.2.2.2.1) (h3 : Jvm.Cond.selects (E.1 j).cls (E.1 j) (E.1 j) ∈ E.2.2.2.2.2.1) (h4 : E.2.2.2.2.1[ci]? = some q) (h5 : q.1 = (E.1 j).cls) : rpo P E m idx (20, j, n, .ref ci) := ⟨hM, by rw [hc]; exact h1, h2, h3, ci, q, rfl, h4, h5⟩
theorem po21 {j n ci : Nat} {q : vw_C} {host : String} (hc : (E.1 m).cls = own) (hM : rpoM P E j n) (h1 : Jvm.Cond.methodLinkNest own idx (E.1 j) host ∈ E.2.2.2.2.2.2.2.2.2) (h2 : Jvm.Cond.instanceMethod (E.1 j) ∈ E.2.2.2.2.2.1) (h3 : Jvm.Cond.selects (E.1 j).cls (E.1 j) (E.1 j) ∈ E.2.2.2.2.2.1) (h4 : E.2.2.2.2.1[ci]? = some q) (h5 : q.1 = (E.1 j).cls) : rpo P E m idx (21, j, n, .ref ci) := ⟨hM, ⟨host, by rw [hc]; exact h1⟩, h2, h3, ci, q, rfl, h4, h5⟩
theorem po22 {j n : Nat} {v : Value} (hc : (E.1 m).cls = own) (hM : rpoM P E j n) (h1 : Jvm.Cond.methodLink own idx (E.1 j) ∈ E.2.2.2.2.2.1) (h2 : Jvm.Cond.instanceMethod (E.1 j) ∈ E.2.2.2.2.2.1) (h3 : (E.1 j).name = "<init>") (h4 : E.2.2.1 j = none) : rpo P E m idx (22, j, n, v) := ⟨hM, by rw [hc]; exact h1, h2, h3, h4⟩
theorem po23 {j n : Nat} {v : Value} {host : String} (hc : (E.1 m).cls = own) (hM : rpoM P E j n) (h1 : Jvm.Cond.methodLinkNest own idx (E.1 j) host ∈ E.2.2.2.2.2.2.2.2.2) (h2 : Jvm.Cond.instanceMethod (E.1 j) ∈ E.2.2.2.2.2.1) (h3 : (E.1 j).name = "<init>") (h4 : E.2.2.1 j = none) : rpo P E m idx (23, j, n, v) := ⟨hM, ⟨host, by rw [hc]; exact h1⟩, h2, h3, h4⟩
theorem po24 {j n : Nat} {v : Value} (hc : (E.1 m).cls = own) (hM : rpoM P E j n) (h1 : Jvm.Cond.methodLink own idx (E.1 j) ∈ E.2.2.2.2.2.1) (h2 : Jvm.Cond.static (E.1 j) ∈ E.2.2.2.2.2.1) : rpo P E m idx (24, j, n, v) := ⟨hM, by rw [hc]; exact h1, h2⟩
theorem po25 {j n : Nat} {v : Value} {host : String} (hc : (E.1 m).cls = own) (hM : rpoM P E j n) (h1 : Jvm.Cond.methodLinkNest own idx (E.1 j) host ∈ E.2.2.2.2.2.2.2.2.2) (h2 : Jvm.Cond.static (E.1 j) ∈ E.2.2.2.2.2.1) : rpo P E m idx (25, j, n, v) := ⟨hM, ⟨host, by rw [hc]; exact h1⟩, h2⟩
theorem po26 {a b : Nat} {v : Value} (hc : (E.1 m).cls = own) (h : Jvm.Cond.methodLink own idx Lib.objectInit ∈ E.2.2.2.2.2.1) : rpo P E m idx (26, a, b, v) := by
  show Jvm.Cond.methodLink (E.1 m).cls idx Lib.objectInit ∈ _
  rw [hc]; exact h
theorem po27 {a b : Nat} {v : Value} (hc : (E.1 m).cls = own) (h : Jvm.Cond.methodLink own idx arraycopyName ∈ E.2.2.2.2.2.1) : rpo P E m idx (27, a, b, v) := by
  show Jvm.Cond.methodLink (E.1 m).cls idx arraycopyName ∈ _
  rw [hc]; exact h
theorem po28 {a b : Nat} {v : Value} (hc : (E.1 m).cls = own) (h : Jvm.Cond.methodLink own idx ⟨"java/util/Arrays", "fill", "([II)V"⟩ ∈ E.2.2.2.2.2.1) : rpo P E m idx (28, a, b, v) := by
  show Jvm.Cond.methodLink (E.1 m).cls idx _ ∈ _
  rw [hc]; exact h
theorem po29 {a b : Nat} {v : Value} (hc : (E.1 m).cls = own) (h : Jvm.Cond.methodLink own idx Lib.Math.max.name ∈ E.2.2.2.2.2.1) : rpo P E m idx (29, a, b, v) := by
  show Jvm.Cond.methodLink (E.1 m).cls idx _ ∈ _
  rw [hc]; exact h
theorem po30 {a b : Nat} {v : Value} (hc : (E.1 m).cls = own) (h : Jvm.Cond.methodLink own idx Lib.Math.min.name ∈ E.2.2.2.2.2.1) : rpo P E m idx (30, a, b, v) := by
  show Jvm.Cond.methodLink (E.1 m).cls idx _ ∈ _
  rw [hc]; exact h
end PO

noncomputable def rpar (kn : List rM) : rP := (rfetch, rmaxl, rret, rinit, rdflt, relem, 12, kn)
set_option maxRecDepth 100000 in
theorem pm0 (kn : List rM) : rpoM (rpar kn) rE0 0 0 := ⟨tw1 (List.mem_of_getElem? (i := 1) rfl) rfl, tw1 (List.mem_of_getElem? (i := 27) rfl) rfl, ⟨by decide +kernel, by decide +kernel, by decide +kernel⟩, (by decide +kernel : rmaxl 0 ≤ 41), by decide +kernel, (Or.inl ⟨rfl, rfl⟩), (fun _ => rfl)⟩
set_option maxRecDepth 100000 in
theorem pm1 (kn : List rM) : rpoM (rpar kn) rE0 1 5 := ⟨tw1 (List.mem_of_getElem? (i := 1) rfl) rfl, tw1 (List.mem_of_getElem? (i := 197) rfl) rfl, ⟨by decide +kernel, by decide +kernel, by decide +kernel⟩, (by decide +kernel : rmaxl 1 ≤ 41), by decide +kernel, (Or.inr ⟨.boolean, rfl, rfl⟩), (fun h => absurd (show rinit 1 = true from h) (by decide +kernel))⟩
set_option maxRecDepth 100000 in
theorem pm2 (kn : List rM) : rpoM (rpar kn) rE0 2 3 := ⟨tw1 (List.mem_of_getElem? (i := 1) rfl) rfl, tw1 (List.mem_of_getElem? (i := 238) rfl) rfl, ⟨by decide +kernel, by decide +kernel, by decide +kernel⟩, (by decide +kernel : rmaxl 2 ≤ 41), by decide +kernel, (Or.inr ⟨.boolean, rfl, rfl⟩), (fun h => absurd (show rinit 2 = true from h) (by decide +kernel))⟩
set_option maxRecDepth 100000 in
theorem pm3 (kn : List rM) : rpoM (rpar kn) rE0 3 3 := ⟨tw1 (List.mem_of_getElem? (i := 1) rfl) rfl, tw2 (List.mem_of_getElem? (i := 2) rfl) rfl, ⟨by decide +kernel, by decide +kernel, by decide +kernel⟩, (by decide +kernel : rmaxl 3 ≤ 41), by decide +kernel, (Or.inr ⟨.boolean, rfl, rfl⟩), (fun h => absurd (show rinit 3 = true from h) (by decide +kernel))⟩
set_option maxRecDepth 100000 in
theorem pm4 (kn : List rM) : rpoM (rpar kn) rE0 4 2 := ⟨tw1 (List.mem_of_getElem? (i := 1) rfl) rfl, tw2 (List.mem_of_getElem? (i := 10) rfl) rfl, ⟨by decide +kernel, by decide +kernel, by decide +kernel⟩, (by decide +kernel : rmaxl 4 ≤ 41), by decide +kernel, (Or.inr ⟨.boolean, rfl, rfl⟩), (fun h => absurd (show rinit 4 = true from h) (by decide +kernel))⟩
set_option maxRecDepth 100000 in
theorem pm5 (kn : List rM) : rpoM (rpar kn) rE0 5 4 := ⟨tw1 (List.mem_of_getElem? (i := 1) rfl) rfl, tw2 (List.mem_of_getElem? (i := 14) rfl) rfl, ⟨by decide +kernel, by decide +kernel, by decide +kernel⟩, (by decide +kernel : rmaxl 5 ≤ 41), by decide +kernel, (Or.inr ⟨.boolean, rfl, rfl⟩), (fun h => absurd (show rinit 5 = true from h) (by decide +kernel))⟩
set_option maxRecDepth 100000 in
theorem pm6 (kn : List rM) : rpoM (rpar kn) rE0 6 1 := ⟨tw1 (List.mem_of_getElem? (i := 1) rfl) rfl, tw2 (List.mem_of_getElem? (i := 26) rfl) rfl, ⟨by decide +kernel, by decide +kernel, by decide +kernel⟩, (by decide +kernel : rmaxl 6 ≤ 41), by decide +kernel, (Or.inr ⟨.int, rfl, rfl⟩), (fun h => absurd (show rinit 6 = true from h) (by decide +kernel))⟩
set_option maxRecDepth 100000 in
theorem pm7 (kn : List rM) : rpoM (rpar kn) rE0 7 2 := ⟨tw1 (List.mem_of_getElem? (i := 1) rfl) rfl, tw2 (List.mem_of_getElem? (i := 30) rfl) rfl, ⟨by decide +kernel, by decide +kernel, by decide +kernel⟩, (by decide +kernel : rmaxl 7 ≤ 41), by decide +kernel, (Or.inr ⟨.int, rfl, rfl⟩), (fun h => absurd (show rinit 7 = true from h) (by decide +kernel))⟩
set_option maxRecDepth 100000 in
theorem pm8 (kn : List rM) : rpoM (rpar kn) rE0 8 2 := ⟨tw1 (List.mem_of_getElem? (i := 1) rfl) rfl, tw2 (List.mem_of_getElem? (i := 34) rfl) rfl, ⟨by decide +kernel, by decide +kernel, by decide +kernel⟩, (by decide +kernel : rmaxl 8 ≤ 41), by decide +kernel, (Or.inr ⟨.int, rfl, rfl⟩), (fun h => absurd (show rinit 8 = true from h) (by decide +kernel))⟩
set_option maxRecDepth 100000 in
theorem pm9 (kn : List rM) : rpoM (rpar kn) rE0 9 2 := ⟨tw1 (List.mem_of_getElem? (i := 1) rfl) rfl, tw2 (List.mem_of_getElem? (i := 42) rfl) rfl, ⟨by decide +kernel, by decide +kernel, by decide +kernel⟩, (by decide +kernel : rmaxl 9 ≤ 41), by decide +kernel, (Or.inr ⟨.boolean, rfl, rfl⟩), (fun h => absurd (show rinit 9 = true from h) (by decide +kernel))⟩
set_option maxRecDepth 100000 in
theorem pm10 (kn : List rM) : rpoM (rpar kn) rE0 10 1 := ⟨tw1 (List.mem_of_getElem? (i := 1) rfl) rfl, tw2 (List.mem_of_getElem? (i := 55) rfl) rfl, ⟨by decide +kernel, by decide +kernel, by decide +kernel⟩, (by decide +kernel : rmaxl 10 ≤ 41), by decide +kernel, (Or.inr ⟨.int, rfl, rfl⟩), (fun h => absurd (show rinit 10 = true from h) (by decide +kernel))⟩
set_option maxRecDepth 100000 in
theorem pm11 (kn : List rM) : rpoM (rpar kn) rE0 11 4 := ⟨tw1 (List.mem_of_getElem? (i := 1) rfl) rfl, tw2 (List.mem_of_getElem? (i := 59) rfl) rfl, ⟨by decide +kernel, by decide +kernel, by decide +kernel⟩, (by decide +kernel : rmaxl 11 ≤ 41), by decide +kernel, (Or.inr ⟨.int, rfl, rfl⟩), (fun h => absurd (show rinit 11 = true from h) (by decide +kernel))⟩
set_option maxRecDepth 100000 in
theorem pm12 (kn : List rM) : rpoM (rpar kn) rE0 12 4 := ⟨tw1 (List.mem_of_getElem? (i := 1) rfl) rfl, tw2 (List.mem_of_getElem? (i := 80) rfl) rfl, ⟨by decide +kernel, by decide +kernel, by decide +kernel⟩, (by decide +kernel : rmaxl 12 ≤ 41), by decide +kernel, (Or.inr ⟨.long, rfl, rfl⟩), (fun h => absurd (show rinit 12 = true from h) (by decide +kernel))⟩
set_option maxRecDepth 100000 in
theorem pm13 (kn : List rM) : rpoM (rpar kn) rE0 13 4 := ⟨tw1 (List.mem_of_getElem? (i := 1) rfl) rfl, tw2 (List.mem_of_getElem? (i := 104) rfl) rfl, ⟨by decide +kernel, by decide +kernel, by decide +kernel⟩, (by decide +kernel : rmaxl 13 ≤ 41), by decide +kernel, (Or.inr ⟨.int, rfl, rfl⟩), (fun h => absurd (show rinit 13 = true from h) (by decide +kernel))⟩
set_option maxRecDepth 100000 in
theorem pm14 (kn : List rM) : rpoM (rpar kn) rE0 14 1 := ⟨tw1 (List.mem_of_getElem? (i := 1) rfl) rfl, tw2 (List.mem_of_getElem? (i := 117) rfl) rfl, ⟨by decide +kernel, by decide +kernel, by decide +kernel⟩, (by decide +kernel : rmaxl 14 ≤ 41), by decide +kernel, (Or.inr ⟨.boolean, rfl, rfl⟩), (fun h => absurd (show rinit 14 = true from h) (by decide +kernel))⟩
set_option maxRecDepth 100000 in
theorem pm15 (kn : List rM) : rpoM (rpar kn) rE0 15 1 := ⟨tw1 (List.mem_of_getElem? (i := 1) rfl) rfl, tw2 (List.mem_of_getElem? (i := 130) rfl) rfl, ⟨by decide +kernel, by decide +kernel, by decide +kernel⟩, (by decide +kernel : rmaxl 15 ≤ 41), by decide +kernel, (Or.inr ⟨.int, rfl, rfl⟩), (fun h => absurd (show rinit 15 = true from h) (by decide +kernel))⟩
set_option maxRecDepth 100000 in
theorem pm16 (kn : List rM) : rpoM (rpar kn) rE0 16 1 := ⟨tw1 (List.mem_of_getElem? (i := 1) rfl) rfl, tw3 (List.mem_of_getElem? (i := 128) rfl) rfl, ⟨by decide +kernel, by decide +kernel, by decide +kernel⟩, (by decide +kernel : rmaxl 16 ≤ 41), by decide +kernel, (Or.inr ⟨.boolean, rfl, rfl⟩), (fun h => absurd (show rinit 16 = true from h) (by decide +kernel))⟩
set_option maxRecDepth 100000 in
theorem pm17 (kn : List rM) : rpoM (rpar kn) rE0 17 3 := ⟨tw1 (List.mem_of_getElem? (i := 1) rfl) rfl, tw3 (List.mem_of_getElem? (i := 134) rfl) rfl, ⟨by decide +kernel, by decide +kernel, by decide +kernel⟩, (by decide +kernel : rmaxl 17 ≤ 41), by decide +kernel, (Or.inr ⟨.int, rfl, rfl⟩), (fun h => absurd (show rinit 17 = true from h) (by decide +kernel))⟩
set_option maxRecDepth 100000 in
theorem pm18 (kn : List rM) : rpoM (rpar kn) rE0 18 4 := ⟨tw1 (List.mem_of_getElem? (i := 1) rfl) rfl, tw7 (List.mem_of_getElem? (i := 191) rfl) rfl, ⟨by decide +kernel, by decide +kernel, by decide +kernel⟩, (by decide +kernel : rmaxl 18 ≤ 41), by decide +kernel, (Or.inr ⟨.int, rfl, rfl⟩), (fun h => absurd (show rinit 18 = true from h) (by decide +kernel))⟩
set_option maxRecDepth 100000 in
theorem pm19 (kn : List rM) : rpoM (rpar kn) rE0 19 1 := ⟨tw1 (List.mem_of_getElem? (i := 1) rfl) rfl, tw7 (List.mem_of_getElem? (i := 199) rfl) rfl, ⟨by decide +kernel, by decide +kernel, by decide +kernel⟩, (by decide +kernel : rmaxl 19 ≤ 41), by decide +kernel, (Or.inr ⟨.int, rfl, rfl⟩), (fun h => absurd (show rinit 19 = true from h) (by decide +kernel))⟩
set_option maxRecDepth 100000 in
theorem pm20 (kn : List rM) : rpoM (rpar kn) rE0 20 3 := ⟨tw1 (List.mem_of_getElem? (i := 1) rfl) rfl, tw7 (List.mem_of_getElem? (i := 209) rfl) rfl, ⟨by decide +kernel, by decide +kernel, by decide +kernel⟩, (by decide +kernel : rmaxl 20 ≤ 41), by decide +kernel, (Or.inr ⟨.int, rfl, rfl⟩), (fun h => absurd (show rinit 20 = true from h) (by decide +kernel))⟩
set_option maxRecDepth 100000 in
theorem pm21 (kn : List rM) : rpoM (rpar kn) rE0 21 2 := ⟨tw1 (List.mem_of_getElem? (i := 1) rfl) rfl, tw7 (List.mem_of_getElem? (i := 213) rfl) rfl, ⟨by decide +kernel, by decide +kernel, by decide +kernel⟩, (by decide +kernel : rmaxl 21 ≤ 41), by decide +kernel, (Or.inr ⟨.int, rfl, rfl⟩), (fun h => absurd (show rinit 21 = true from h) (by decide +kernel))⟩
set_option maxRecDepth 100000 in
theorem pm22 (kn : List rM) : rpoM (rpar kn) rE0 22 1 := ⟨tw1 (List.mem_of_getElem? (i := 1) rfl) rfl, tw7 (List.mem_of_getElem? (i := 217) rfl) rfl, ⟨by decide +kernel, by decide +kernel, by decide +kernel⟩, (by decide +kernel : rmaxl 22 ≤ 41), by decide +kernel, (Or.inr ⟨.int, rfl, rfl⟩), (fun h => absurd (show rinit 22 = true from h) (by decide +kernel))⟩
set_option maxRecDepth 100000 in
theorem pm23 (kn : List rM) : rpoM (rpar kn) rE0 23 1 := ⟨tw1 (List.mem_of_getElem? (i := 1) rfl) rfl, tw7 (List.mem_of_getElem? (i := 221) rfl) rfl, ⟨by decide +kernel, by decide +kernel, by decide +kernel⟩, (by decide +kernel : rmaxl 23 ≤ 41), by decide +kernel, (Or.inr ⟨.int, rfl, rfl⟩), (fun h => absurd (show rinit 23 = true from h) (by decide +kernel))⟩
set_option maxRecDepth 100000 in
theorem pm24 (kn : List rM) : rpoM (rpar kn) rE0 24 1 := ⟨tw1 (List.mem_of_getElem? (i := 1) rfl) rfl, tw1 (List.mem_of_getElem? (i := 200) rfl) rfl, ⟨by decide +kernel, by decide +kernel, by decide +kernel⟩, (by decide +kernel : rmaxl 24 ≤ 41), by decide +kernel, (Or.inr ⟨.boolean, rfl, rfl⟩), (fun h => absurd (show rinit 24 = true from h) (by decide +kernel))⟩
set_option maxRecDepth 100000 in
theorem pm25 (kn : List rM) : rpoM (rpar kn) rE0 25 1 := ⟨tw1 (List.mem_of_getElem? (i := 1) rfl) rfl, tw2 (List.mem_of_getElem? (i := 45) rfl) rfl, ⟨by decide +kernel, by decide +kernel, by decide +kernel⟩, (by decide +kernel : rmaxl 25 ≤ 41), by decide +kernel, (Or.inr ⟨.boolean, rfl, rfl⟩), (fun h => absurd (show rinit 25 = true from h) (by decide +kernel))⟩
set_option maxRecDepth 100000 in
theorem pm26 (kn : List rM) : rpoM (rpar kn) rE0 26 2 := ⟨tw1 (List.mem_of_getElem? (i := 1) rfl) rfl, tw2 (List.mem_of_getElem? (i := 48) rfl) rfl, ⟨by decide +kernel, by decide +kernel, by decide +kernel⟩, (by decide +kernel : rmaxl 26 ≤ 41), by decide +kernel, (Or.inr ⟨.boolean, rfl, rfl⟩), (fun h => absurd (show rinit 26 = true from h) (by decide +kernel))⟩
set_option maxRecDepth 100000 in
theorem pm27 (kn : List rM) : rpoM (rpar kn) rE0 27 3 := ⟨tw1 (List.mem_of_getElem? (i := 1) rfl) rfl, tw2 (List.mem_of_getElem? (i := 17) rfl) rfl, ⟨by decide +kernel, by decide +kernel, by decide +kernel⟩, (by decide +kernel : rmaxl 27 ≤ 41), by decide +kernel, (Or.inr ⟨.boolean, rfl, rfl⟩), (fun h => absurd (show rinit 27 = true from h) (by decide +kernel))⟩
set_option maxRecDepth 100000 in
theorem pm28 (kn : List rM) : rpoM (rpar kn) rE0 28 3 := ⟨tw1 (List.mem_of_getElem? (i := 1) rfl) rfl, tw1 (List.mem_of_getElem? (i := 229) rfl) rfl, ⟨by decide +kernel, by decide +kernel, by decide +kernel⟩, (by decide +kernel : rmaxl 28 ≤ 41), by decide +kernel, (Or.inl ⟨rfl, rfl⟩), (fun h => absurd (show rinit 28 = true from h) (by decide +kernel))⟩
set_option maxRecDepth 100000 in
theorem pm29 (kn : List rM) : rpoM (rpar kn) rE0 29 2 := ⟨tw1 (List.mem_of_getElem? (i := 1) rfl) rfl, tw2 (List.mem_of_getElem? (i := 37) rfl) rfl, ⟨by decide +kernel, by decide +kernel, by decide +kernel⟩, (by decide +kernel : rmaxl 29 ≤ 41), by decide +kernel, (Or.inr ⟨.int, rfl, rfl⟩), (fun h => absurd (show rinit 29 = true from h) (by decide +kernel))⟩
set_option maxRecDepth 100000 in
theorem pm30 (kn : List rM) : rpoM (rpar kn) rE0 30 1 := ⟨tw1 (List.mem_of_getElem? (i := 1) rfl) rfl, tw3 (List.mem_of_getElem? (i := 138) rfl) rfl, ⟨by decide +kernel, by decide +kernel, by decide +kernel⟩, (by decide +kernel : rmaxl 30 ≤ 41), by decide +kernel, (Or.inr ⟨.int, rfl, rfl⟩), (fun h => absurd (show rinit 30 = true from h) (by decide +kernel))⟩
set_option maxRecDepth 100000 in
theorem pm31 (kn : List rM) : rpoM (rpar kn) rE0 31 2 := ⟨tw1 (List.mem_of_getElem? (i := 1) rfl) rfl, tw7 (List.mem_of_getElem? (i := 195) rfl) rfl, ⟨by decide +kernel, by decide +kernel, by decide +kernel⟩, (by decide +kernel : rmaxl 31 ≤ 41), by decide +kernel, (Or.inr ⟨.int, rfl, rfl⟩), (fun h => absurd (show rinit 31 = true from h) (by decide +kernel))⟩
set_option maxRecDepth 100000 in
theorem pm32 (kn : List rM) : rpoM (rpar kn) rE0 32 4 := ⟨tw1 (List.mem_of_getElem? (i := 1) rfl) rfl, tw6 (List.mem_of_getElem? (i := 105) rfl) rfl, ⟨by decide +kernel, by decide +kernel, by decide +kernel⟩, (by decide +kernel : rmaxl 32 ≤ 41), by decide +kernel, (Or.inr ⟨.int, rfl, rfl⟩), (fun h => absurd (show rinit 32 = true from h) (by decide +kernel))⟩
set_option maxRecDepth 100000 in
theorem pm33 (kn : List rM) : rpoM (rpar kn) rE0 33 1 := ⟨tw1 (List.mem_of_getElem? (i := 1) rfl) rfl, tw7 (List.mem_of_getElem? (i := 202) rfl) rfl, ⟨by decide +kernel, by decide +kernel, by decide +kernel⟩, (by decide +kernel : rmaxl 33 ≤ 41), by decide +kernel, (Or.inr ⟨.int, rfl, rfl⟩), (fun h => absurd (show rinit 33 = true from h) (by decide +kernel))⟩
set_option maxRecDepth 100000 in
theorem pm34 (kn : List rM) : rpoM (rpar kn) rE0 34 2 := ⟨tw1 (List.mem_of_getElem? (i := 1) rfl) rfl, tw7 (List.mem_of_getElem? (i := 185) rfl) rfl, ⟨by decide +kernel, by decide +kernel, by decide +kernel⟩, (by decide +kernel : rmaxl 34 ≤ 41), by decide +kernel, (Or.inr ⟨.int, rfl, rfl⟩), (fun h => absurd (show rinit 34 = true from h) (by decide +kernel))⟩
set_option maxRecDepth 100000 in
theorem pm35 (kn : List rM) : rpoM (rpar kn) rE0 35 0 := ⟨tw1 (List.mem_of_getElem? (i := 1) rfl) rfl, tw3 (List.mem_of_getElem? (i := 148) rfl) rfl, ⟨by decide +kernel, by decide +kernel, by decide +kernel⟩, (by decide +kernel : rmaxl 35 ≤ 41), by decide +kernel, (Or.inr ⟨(.object "PackHouse$Finder"), rfl, rfl⟩), (fun h => absurd (show rinit 35 = true from h) (by decide +kernel))⟩
set_option maxRecDepth 100000 in
theorem pm36 (kn : List rM) : rpoM (rpar kn) rE0 36 0 := ⟨tw1 (List.mem_of_getElem? (i := 1) rfl) rfl, tw3 (List.mem_of_getElem? (i := 142) rfl) rfl, ⟨by decide +kernel, by decide +kernel, by decide +kernel⟩, (by decide +kernel : rmaxl 36 ≤ 41), by decide +kernel, (Or.inr ⟨(.object "PackHouse$Tokens"), rfl, rfl⟩), (fun h => absurd (show rinit 36 = true from h) (by decide +kernel))⟩
set_option maxRecDepth 100000 in
theorem pm37 (kn : List rM) : rpoM (rpar kn) rE0 37 0 := ⟨tw1 (List.mem_of_getElem? (i := 1) rfl) rfl, tw4 (List.mem_of_getElem? (i := 143) rfl) rfl, ⟨by decide +kernel, by decide +kernel, by decide +kernel⟩, (by decide +kernel : rmaxl 37 ≤ 41), by decide +kernel, (Or.inr ⟨(.object "PackHouse$Tags"), rfl, rfl⟩), (fun h => absurd (show rinit 37 = true from h) (by decide +kernel))⟩
set_option maxRecDepth 100000 in
theorem pm38 (kn : List rM) : rpoM (rpar kn) rE0 38 0 := ⟨tw1 (List.mem_of_getElem? (i := 1) rfl) rfl, tw5 (List.mem_of_getElem? (i := 2) rfl) rfl, ⟨by decide +kernel, by decide +kernel, by decide +kernel⟩, (by decide +kernel : rmaxl 38 ≤ 41), by decide +kernel, (Or.inr ⟨(.array (.object "PackHouse$Share")), rfl, rfl⟩), (fun h => absurd (show rinit 38 = true from h) (by decide +kernel))⟩
set_option maxRecDepth 100000 in
theorem pm39 (kn : List rM) : rpoM (rpar kn) rE0 39 0 := ⟨tw1 (List.mem_of_getElem? (i := 1) rfl) rfl, tw4 (List.mem_of_getElem? (i := 236) rfl) rfl, ⟨by decide +kernel, by decide +kernel, by decide +kernel⟩, (by decide +kernel : rmaxl 39 ≤ 41), by decide +kernel, (Or.inr ⟨(.object "PackHouse$Packer"), rfl, rfl⟩), (fun h => absurd (show rinit 39 = true from h) (by decide +kernel))⟩
set_option maxRecDepth 100000 in
theorem pm40 (kn : List rM) : rpoM (rpar kn) rE0 40 0 := ⟨tw1 (List.mem_of_getElem? (i := 1) rfl) rfl, tw6 (List.mem_of_getElem? (i := 205) rfl) rfl, ⟨by decide +kernel, by decide +kernel, by decide +kernel⟩, (by decide +kernel : rmaxl 40 ≤ 41), by decide +kernel, (Or.inr ⟨(.object "PackHouse$Unpacker"), rfl, rfl⟩), (fun h => absurd (show rinit 40 = true from h) (by decide +kernel))⟩
set_option maxRecDepth 100000 in
theorem pm41 (kn : List rM) : rpoM (rpar kn) rE0 41 2 := ⟨tw1 (List.mem_of_getElem? (i := 1) rfl) rfl, tw2 (List.mem_of_getElem? (i := 68) rfl) rfl, ⟨by decide +kernel, by decide +kernel, by decide +kernel⟩, (by decide +kernel : rmaxl 41 ≤ 41), by decide +kernel, (Or.inr ⟨.int, rfl, rfl⟩), (fun h => absurd (show rinit 41 = true from h) (by decide +kernel))⟩
set_option maxRecDepth 100000 in
theorem pm42 (kn : List rM) : rpoM (rpar kn) rE0 42 3 := ⟨tw1 (List.mem_of_getElem? (i := 1) rfl) rfl, tw2 (List.mem_of_getElem? (i := 89) rfl) rfl, ⟨by decide +kernel, by decide +kernel, by decide +kernel⟩, (by decide +kernel : rmaxl 42 ≤ 41), by decide +kernel, (Or.inr ⟨.long, rfl, rfl⟩), (fun h => absurd (show rinit 42 = true from h) (by decide +kernel))⟩
set_option maxRecDepth 100000 in
theorem pm43 (kn : List rM) : rpoM (rpar kn) rE0 43 3 := ⟨tw1 (List.mem_of_getElem? (i := 1) rfl) rfl, tw6 (List.mem_of_getElem? (i := 134) rfl) rfl, ⟨by decide +kernel, by decide +kernel, by decide +kernel⟩, (by decide +kernel : rmaxl 43 ≤ 41), by decide +kernel, (Or.inr ⟨.boolean, rfl, rfl⟩), (fun h => absurd (show rinit 43 = true from h) (by decide +kernel))⟩
set_option maxRecDepth 100000 in
theorem pm44 (kn : List rM) : rpoM (rpar kn) rE0 44 2 := ⟨tw1 (List.mem_of_getElem? (i := 1) rfl) rfl, tw2 (List.mem_of_getElem? (i := 74) rfl) rfl, ⟨by decide +kernel, by decide +kernel, by decide +kernel⟩, (by decide +kernel : rmaxl 44 ≤ 41), by decide +kernel, (Or.inr ⟨.int, rfl, rfl⟩), (fun h => absurd (show rinit 44 = true from h) (by decide +kernel))⟩
set_option maxRecDepth 100000 in
theorem pm45 (kn : List rM) : rpoM (rpar kn) rE0 45 4 := ⟨tw1 (List.mem_of_getElem? (i := 1) rfl) rfl, tw2 (List.mem_of_getElem? (i := 62) rfl) rfl, ⟨by decide +kernel, by decide +kernel, by decide +kernel⟩, (by decide +kernel : rmaxl 45 ≤ 41), by decide +kernel, (Or.inr ⟨.int, rfl, rfl⟩), (fun h => absurd (show rinit 45 = true from h) (by decide +kernel))⟩
set_option maxRecDepth 100000 in
theorem pm46 (kn : List rM) : rpoM (rpar kn) rE0 46 4 := ⟨tw1 (List.mem_of_getElem? (i := 1) rfl) rfl, tw2 (List.mem_of_getElem? (i := 83) rfl) rfl, ⟨by decide +kernel, by decide +kernel, by decide +kernel⟩, (by decide +kernel : rmaxl 46 ≤ 41), by decide +kernel, (Or.inr ⟨.long, rfl, rfl⟩), (fun h => absurd (show rinit 46 = true from h) (by decide +kernel))⟩
set_option maxRecDepth 100000 in
theorem pm47 (kn : List rM) : rpoM (rpar kn) rE0 47 4 := ⟨tw1 (List.mem_of_getElem? (i := 1) rfl) rfl, tw2 (List.mem_of_getElem? (i := 99) rfl) rfl, ⟨by decide +kernel, by decide +kernel, by decide +kernel⟩, (by decide +kernel : rmaxl 47 ≤ 41), by decide +kernel, (Or.inr ⟨.long, rfl, rfl⟩), (fun h => absurd (show rinit 47 = true from h) (by decide +kernel))⟩
set_option maxRecDepth 100000 in
theorem pm48 (kn : List rM) : rpoM (rpar kn) rE0 48 3 := ⟨tw1 (List.mem_of_getElem? (i := 1) rfl) rfl, tw2 (List.mem_of_getElem? (i := 107) rfl) rfl, ⟨by decide +kernel, by decide +kernel, by decide +kernel⟩, (by decide +kernel : rmaxl 48 ≤ 41), by decide +kernel, (Or.inr ⟨.int, rfl, rfl⟩), (fun h => absurd (show rinit 48 = true from h) (by decide +kernel))⟩
set_option maxRecDepth 100000 in
theorem pm49 (kn : List rM) : rpoM (rpar kn) rE0 49 1 := ⟨tw1 (List.mem_of_getElem? (i := 1) rfl) rfl, tw2 (List.mem_of_getElem? (i := 112) rfl) rfl, ⟨by decide +kernel, by decide +kernel, by decide +kernel⟩, (by decide +kernel : rmaxl 49 ≤ 41), by decide +kernel, (Or.inr ⟨.int, rfl, rfl⟩), (fun h => absurd (show rinit 49 = true from h) (by decide +kernel))⟩
set_option maxRecDepth 100000 in
theorem pm50 (kn : List rM) : rpoM (rpar kn) rE0 50 0 := ⟨tw1 (List.mem_of_getElem? (i := 5) rfl) rfl, tw7 (List.mem_of_getElem? (i := 226) rfl) rfl, ⟨by decide +kernel, by decide +kernel, by decide +kernel⟩, (by decide +kernel : rmaxl 50 ≤ 41), by decide +kernel, (Or.inl ⟨rfl, rfl⟩), (fun _ => rfl)⟩
set_option maxRecDepth 100000 in
theorem pm51 (kn : List rM) : rpoM (rpar kn) rE0 51 1 := ⟨tw1 (List.mem_of_getElem? (i := 5) rfl) rfl, tw10 (List.mem_of_getElem? (i := 70) rfl) rfl, ⟨by decide +kernel, by decide +kernel, by decide +kernel⟩, (by decide +kernel : rmaxl 51 ≤ 41), by decide +kernel, (Or.inr ⟨.boolean, rfl, rfl⟩), (fun h => absurd (show rinit 51 = true from h) (by decide +kernel))⟩
set_option maxRecDepth 100000 in
theorem pm52 (kn : List rM) : rpoM (rpar kn) rE0 52 2 := ⟨tw1 (List.mem_of_getElem? (i := 5) rfl) rfl, tw10 (List.mem_of_getElem? (i := 74) rfl) rfl, ⟨by decide +kernel, by decide +kernel, by decide +kernel⟩, (by decide +kernel : rmaxl 52 ≤ 41), by decide +kernel, (Or.inr ⟨.boolean, rfl, rfl⟩), (fun h => absurd (show rinit 52 = true from h) (by decide +kernel))⟩
set_option maxRecDepth 100000 in
theorem pm53 (kn : List rM) : rpoM (rpar kn) rE0 53 5 := ⟨tw1 (List.mem_of_getElem? (i := 5) rfl) rfl, tw10 (List.mem_of_getElem? (i := 67) rfl) rfl, ⟨by decide +kernel, by decide +kernel, by decide +kernel⟩, (by decide +kernel : rmaxl 53 ≤ 41), by decide +kernel, (Or.inr ⟨.boolean, rfl, rfl⟩), (fun h => absurd (show rinit 53 = true from h) (by decide +kernel))⟩
set_option maxRecDepth 100000 in
theorem pm54 (kn : List rM) : rpoM (rpar kn) rE0 54 3 := ⟨tw1 (List.mem_of_getElem? (i := 5) rfl) rfl, tw10 (List.mem_of_getElem? (i := 78) rfl) rfl, ⟨by decide +kernel, by decide +kernel, by decide +kernel⟩, (by decide +kernel : rmaxl 54 ≤ 41), by decide +kernel, (Or.inr ⟨.boolean, rfl, rfl⟩), (fun h => absurd (show rinit 54 = true from h) (by decide +kernel))⟩
set_option maxRecDepth 100000 in
theorem pm55 (kn : List rM) : rpoM (rpar kn) rE0 55 3 := ⟨tw1 (List.mem_of_getElem? (i := 5) rfl) rfl, tw10 (List.mem_of_getElem? (i := 82) rfl) rfl, ⟨by decide +kernel, by decide +kernel, by decide +kernel⟩, (by decide +kernel : rmaxl 55 ≤ 41), by decide +kernel, (Or.inr ⟨.boolean, rfl, rfl⟩), (fun h => absurd (show rinit 55 = true from h) (by decide +kernel))⟩
set_option maxRecDepth 100000 in
theorem pm56 (kn : List rM) : rpoM (rpar kn) rE0 56 2 := ⟨tw1 (List.mem_of_getElem? (i := 5) rfl) rfl, tw10 (List.mem_of_getElem? (i := 86) rfl) rfl, ⟨by decide +kernel, by decide +kernel, by decide +kernel⟩, (by decide +kernel : rmaxl 56 ≤ 41), by decide +kernel, (Or.inr ⟨.boolean, rfl, rfl⟩), (fun h => absurd (show rinit 56 = true from h) (by decide +kernel))⟩
set_option maxRecDepth 100000 in
theorem pm57 (kn : List rM) : rpoM (rpar kn) rE0 57 3 := ⟨tw1 (List.mem_of_getElem? (i := 5) rfl) rfl, tw10 (List.mem_of_getElem? (i := 94) rfl) rfl, ⟨by decide +kernel, by decide +kernel, by decide +kernel⟩, (by decide +kernel : rmaxl 57 ≤ 41), by decide +kernel, (Or.inr ⟨.boolean, rfl, rfl⟩), (fun h => absurd (show rinit 57 = true from h) (by decide +kernel))⟩
set_option maxRecDepth 100000 in
theorem pm58 (kn : List rM) : rpoM (rpar kn) rE0 58 4 := ⟨tw1 (List.mem_of_getElem? (i := 5) rfl) rfl, tw10 (List.mem_of_getElem? (i := 90) rfl) rfl, ⟨by decide +kernel, by decide +kernel, by decide +kernel⟩, (by decide +kernel : rmaxl 58 ≤ 41), by decide +kernel, (Or.inr ⟨.boolean, rfl, rfl⟩), (fun h => absurd (show rinit 58 = true from h) (by decide +kernel))⟩
set_option maxRecDepth 100000 in
theorem pm59 (kn : List rM) : rpoM (rpar kn) rE0 59 1 := ⟨tw1 (List.mem_of_getElem? (i := 5) rfl) rfl, tw10 (List.mem_of_getElem? (i := 98) rfl) rfl, ⟨by decide +kernel, by decide +kernel, by decide +kernel⟩, (by decide +kernel : rmaxl 59 ≤ 41), by decide +kernel, (Or.inr ⟨.int, rfl, rfl⟩), (fun h => absurd (show rinit 59 = true from h) (by decide +kernel))⟩
set_option maxRecDepth 100000 in
theorem pm60 (kn : List rM) : rpoM (rpar kn) rE0 60 2 := ⟨tw1 (List.mem_of_getElem? (i := 5) rfl) rfl, tw10 (List.mem_of_getElem? (i := 102) rfl) rfl, ⟨by decide +kernel, by decide +kernel, by decide +kernel⟩, (by decide +kernel : rmaxl 60 ≤ 41), by decide +kernel, (Or.inr ⟨.int, rfl, rfl⟩), (fun h => absurd (show rinit 60 = true from h) (by decide +kernel))⟩
set_option maxRecDepth 100000 in
theorem pm61 (kn : List rM) : rpoM (rpar kn) rE0 61 2 := ⟨tw1 (List.mem_of_getElem? (i := 5) rfl) rfl, tw10 (List.mem_of_getElem? (i := 106) rfl) rfl, ⟨by decide +kernel, by decide +kernel, by decide +kernel⟩, (by decide +kernel : rmaxl 61 ≤ 41), by decide +kernel, (Or.inr ⟨.int, rfl, rfl⟩), (fun h => absurd (show rinit 61 = true from h) (by decide +kernel))⟩
set_option maxRecDepth 100000 in
theorem pm62 (kn : List rM) : rpoM (rpar kn) rE0 62 3 := ⟨tw1 (List.mem_of_getElem? (i := 5) rfl) rfl, tw10 (List.mem_of_getElem? (i := 116) rfl) rfl, ⟨by decide +kernel, by decide +kernel, by decide +kernel⟩, (by decide +kernel : rmaxl 62 ≤ 41), by decide +kernel, (Or.inr ⟨.boolean, rfl, rfl⟩), (fun h => absurd (show rinit 62 = true from h) (by decide +kernel))⟩
set_option maxRecDepth 100000 in
theorem pm63 (kn : List rM) : rpoM (rpar kn) rE0 63 2 := ⟨tw1 (List.mem_of_getElem? (i := 5) rfl) rfl, tw10 (List.mem_of_getElem? (i := 113) rfl) rfl, ⟨by decide +kernel, by decide +kernel, by decide +kernel⟩, (by decide +kernel : rmaxl 63 ≤ 41), by decide +kernel, (Or.inr ⟨.boolean, rfl, rfl⟩), (fun h => absurd (show rinit 63 = true from h) (by decide +kernel))⟩
set_option maxRecDepth 100000 in
theorem pm64 (kn : List rM) : rpoM (rpar kn) rE0 64 2 := ⟨tw1 (List.mem_of_getElem? (i := 5) rfl) rfl, tw10 (List.mem_of_getElem? (i := 110) rfl) rfl, ⟨by decide +kernel, by decide +kernel, by decide +kernel⟩, (by decide +kernel : rmaxl 64 ≤ 41), by decide +kernel, (Or.inr ⟨.boolean, rfl, rfl⟩), (fun h => absurd (show rinit 64 = true from h) (by decide +kernel))⟩
set_option maxRecDepth 100000 in
theorem pm65 (kn : List rM) : rpoM (rpar kn) rE0 65 1 := ⟨tw1 (List.mem_of_getElem? (i := 5) rfl) rfl, tw10 (List.mem_of_getElem? (i := 120) rfl) rfl, ⟨by decide +kernel, by decide +kernel, by decide +kernel⟩, (by decide +kernel : rmaxl 65 ≤ 41), by decide +kernel, (Or.inr ⟨.int, rfl, rfl⟩), (fun h => absurd (show rinit 65 = true from h) (by decide +kernel))⟩
set_option maxRecDepth 100000 in
theorem pm66 (kn : List rM) : rpoM (rpar kn) rE0 66 4 := ⟨tw1 (List.mem_of_getElem? (i := 5) rfl) rfl, tw10 (List.mem_of_getElem? (i := 124) rfl) rfl, ⟨by decide +kernel, by decide +kernel, by decide +kernel⟩, (by decide +kernel : rmaxl 66 ≤ 41), by decide +kernel, (Or.inr ⟨.int, rfl, rfl⟩), (fun h => absurd (show rinit 66 = true from h) (by decide +kernel))⟩
set_option maxRecDepth 100000 in
theorem pm67 (kn : List rM) : rpoM (rpar kn) rE0 67 4 := ⟨tw1 (List.mem_of_getElem? (i := 5) rfl) rfl, tw10 (List.mem_of_getElem? (i := 156) rfl) rfl, ⟨by decide +kernel, by decide +kernel, by decide +kernel⟩, (by decide +kernel : rmaxl 67 ≤ 41), by decide +kernel, (Or.inr ⟨.long, rfl, rfl⟩), (fun h => absurd (show rinit 67 = true from h) (by decide +kernel))⟩
set_option maxRecDepth 100000 in
theorem pm68 (kn : List rM) : rpoM (rpar kn) rE0 68 4 := ⟨tw1 (List.mem_of_getElem? (i := 5) rfl) rfl, tw10 (List.mem_of_getElem? (i := 183) rfl) rfl, ⟨by decide +kernel, by decide +kernel, by decide +kernel⟩, (by decide +kernel : rmaxl 68 ≤ 41), by decide +kernel, (Or.inr ⟨.int, rfl, rfl⟩), (fun h => absurd (show rinit 68 = true from h) (by decide +kernel))⟩
set_option maxRecDepth 100000 in
theorem pm69 (kn : List rM) : rpoM (rpar kn) rE0 69 1 := ⟨tw1 (List.mem_of_getElem? (i := 5) rfl) rfl, tw10 (List.mem_of_getElem? (i := 207) rfl) rfl, ⟨by decide +kernel, by decide +kernel, by decide +kernel⟩, (by decide +kernel : rmaxl 69 ≤ 41), by decide +kernel, (Or.inl ⟨rfl, rfl⟩), (fun h => absurd (show rinit 69 = true from h) (by decide +kernel))⟩
set_option maxRecDepth 100000 in
theorem pm70 (kn : List rM) : rpoM (rpar kn) rE0 70 1 := ⟨tw1 (List.mem_of_getElem? (i := 5) rfl) rfl, tw14 (List.mem_of_getElem? (i := 34) rfl) rfl, ⟨by decide +kernel, by decide +kernel, by decide +kernel⟩, (by decide +kernel : rmaxl 70 ≤ 41), by decide +kernel, (Or.inl ⟨rfl, rfl⟩), (fun h => absurd (show rinit 70 = true from h) (by decide +kernel))⟩
set_option maxRecDepth 100000 in
theorem pm71 (kn : List rM) : rpoM (rpar kn) rE0 71 1 := ⟨tw1 (List.mem_of_getElem? (i := 5) rfl) rfl, tw10 (List.mem_of_getElem? (i := 203) rfl) rfl, ⟨by decide +kernel, by decide +kernel, by decide +kernel⟩, (by decide +kernel : rmaxl 71 ≤ 41), by decide +kernel, (Or.inr ⟨.boolean, rfl, rfl⟩), (fun h => absurd (show rinit 71 = true from h) (by decide +kernel))⟩
set_option maxRecDepth 100000 in
theorem pm72 (kn : List rM) : rpoM (rpar kn) rE0 72 1 := ⟨tw1 (List.mem_of_getElem? (i := 5) rfl) rfl, tw10 (List.mem_of_getElem? (i := 215) rfl) rfl, ⟨by decide +kernel, by decide +kernel, by decide +kernel⟩, (by decide +kernel : rmaxl 72 ≤ 41), by decide +kernel, (Or.inr ⟨.int, rfl, rfl⟩), (fun h => absurd (show rinit 72 = true from h) (by decide +kernel))⟩
set_option maxRecDepth 100000 in
theorem pm73 (kn : List rM) : rpoM (rpar kn) rE0 73 1 := ⟨tw1 (List.mem_of_getElem? (i := 5) rfl) rfl, tw11 (List.mem_of_getElem? (i := 46) rfl) rfl, ⟨by decide +kernel, by decide +kernel, by decide +kernel⟩, (by decide +kernel : rmaxl 73 ≤ 41), by decide +kernel, (Or.inr ⟨.boolean, rfl, rfl⟩), (fun h => absurd (show rinit 73 = true from h) (by decide +kernel))⟩
set_option maxRecDepth 100000 in
theorem pm74 (kn : List rM) : rpoM (rpar kn) rE0 74 1 := ⟨tw1 (List.mem_of_getElem? (i := 5) rfl) rfl, tw11 (List.mem_of_getElem? (i := 62) rfl) rfl, ⟨by decide +kernel, by decide +kernel, by decide +kernel⟩, (by decide +kernel : rmaxl 74 ≤ 41), by decide +kernel, (Or.inr ⟨.int, rfl, rfl⟩), (fun h => absurd (show rinit 74 = true from h) (by decide +kernel))⟩
set_option maxRecDepth 100000 in
theorem pm75 (kn : List rM) : rpoM (rpar kn) rE0 75 1 := ⟨tw1 (List.mem_of_getElem? (i := 5) rfl) rfl, tw11 (List.mem_of_getElem? (i := 75) rfl) rfl, ⟨by decide +kernel, by decide +kernel, by decide +kernel⟩, (by decide +kernel : rmaxl 75 ≤ 41), by decide +kernel, (Or.inr ⟨.int, rfl, rfl⟩), (fun h => absurd (show rinit 75 = true from h) (by decide +kernel))⟩
set_option maxRecDepth 100000 in
theorem pm76 (kn : List rM) : rpoM (rpar kn) rE0 76 3 := ⟨tw1 (List.mem_of_getElem? (i := 5) rfl) rfl, tw11 (List.mem_of_getElem? (i := 58) rfl) rfl, ⟨by decide +kernel, by decide +kernel, by decide +kernel⟩, (by decide +kernel : rmaxl 76 ≤ 41), by decide +kernel, (Or.inr ⟨.int, rfl, rfl⟩), (fun h => absurd (show rinit 76 = true from h) (by decide +kernel))⟩
set_option maxRecDepth 100000 in
theorem pm77 (kn : List rM) : rpoM (rpar kn) rE0 77 2 := ⟨tw1 (List.mem_of_getElem? (i := 5) rfl) rfl, tw13 (List.mem_of_getElem? (i := 31) rfl) rfl, ⟨by decide +kernel, by decide +kernel, by decide +kernel⟩, (by decide +kernel : rmaxl 77 ≤ 41), by decide +kernel, (Or.inr ⟨.boolean, rfl, rfl⟩), (fun h => absurd (show rinit 77 = true from h) (by decide +kernel))⟩
set_option maxRecDepth 100000 in
theorem pm78 (kn : List rM) : rpoM (rpar kn) rE0 78 1 := ⟨tw1 (List.mem_of_getElem? (i := 5) rfl) rfl, tw13 (List.mem_of_getElem? (i := 35) rfl) rfl, ⟨by decide +kernel, by decide +kernel, by decide +kernel⟩, (by decide +kernel : rmaxl 78 ≤ 41), by decide +kernel, (Or.inr ⟨.int, rfl, rfl⟩), (fun h => absurd (show rinit 78 = true from h) (by decide +kernel))⟩
set_option maxRecDepth 100000 in
theorem pm79 (kn : List rM) : rpoM (rpar kn) rE0 79 2 := ⟨tw1 (List.mem_of_getElem? (i := 5) rfl) rfl, tw13 (List.mem_of_getElem? (i := 39) rfl) rfl, ⟨by decide +kernel, by decide +kernel, by decide +kernel⟩, (by decide +kernel : rmaxl 79 ≤ 41), by decide +kernel, (Or.inr ⟨.int, rfl, rfl⟩), (fun h => absurd (show rinit 79 = true from h) (by decide +kernel))⟩
set_option maxRecDepth 100000 in
theorem pm80 (kn : List rM) : rpoM (rpar kn) rE0 80 4 := ⟨tw1 (List.mem_of_getElem? (i := 5) rfl) rfl, tw14 (List.mem_of_getElem? (i := 38) rfl) rfl, ⟨by decide +kernel, by decide +kernel, by decide +kernel⟩, (by decide +kernel : rmaxl 80 ≤ 41), by decide +kernel, (Or.inr ⟨.int, rfl, rfl⟩), (fun h => absurd (show rinit 80 = true from h) (by decide +kernel))⟩
set_option maxRecDepth 100000 in
theorem pm81 (kn : List rM) : rpoM (rpar kn) rE0 81 6 := ⟨tw1 (List.mem_of_getElem? (i := 5) rfl) rfl, tw14 (List.mem_of_getElem? (i := 46) rfl) rfl, ⟨by decide +kernel, by decide +kernel, by decide +kernel⟩, (by decide +kernel : rmaxl 81 ≤ 41), by decide +kernel, (Or.inr ⟨.boolean, rfl, rfl⟩), (fun h => absurd (show rinit 81 = true from h) (by decide +kernel))⟩
set_option maxRecDepth 100000 in
theorem pm82 (kn : List rM) : rpoM (rpar kn) rE0 82 1 := ⟨tw1 (List.mem_of_getElem? (i := 5) rfl) rfl, tw14 (List.mem_of_getElem? (i := 42) rfl) rfl, ⟨by decide +kernel, by decide +kernel, by decide +kernel⟩, (by decide +kernel : rmaxl 82 ≤ 41), by decide +kernel, (Or.inr ⟨.int, rfl, rfl⟩), (fun h => absurd (show rinit 82 = true from h) (by decide +kernel))⟩
set_option maxRecDepth 100000 in
theorem pm83 (kn : List rM) : rpoM (rpar kn) rE0 83 3 := ⟨tw1 (List.mem_of_getElem? (i := 5) rfl) rfl, tw14 (List.mem_of_getElem? (i := 50) rfl) rfl, ⟨by decide +kernel, by decide +kernel, by decide +kernel⟩, (by decide +kernel : rmaxl 83 ≤ 41), by decide +kernel, (Or.inr ⟨.int, rfl, rfl⟩), (fun h => absurd (show rinit 83 = true from h) (by decide +kernel))⟩
set_option maxRecDepth 100000 in
theorem pm84 (kn : List rM) : rpoM (rpar kn) rE0 84 2 := ⟨tw1 (List.mem_of_getElem? (i := 5) rfl) rfl, tw11 (List.mem_of_getElem? (i := 66) rfl) rfl, ⟨by decide +kernel, by decide +kernel, by decide +kernel⟩, (by decide +kernel : rmaxl 84 ≤ 41), by decide +kernel, (Or.inr ⟨.int, rfl, rfl⟩), (fun h => absurd (show rinit 84 = true from h) (by decide +kernel))⟩
set_option maxRecDepth 100000 in
theorem pm85 (kn : List rM) : rpoM (rpar kn) rE0 85 1 := ⟨tw1 (List.mem_of_getElem? (i := 5) rfl) rfl, tw14 (List.mem_of_getElem? (i := 57) rfl) rfl, ⟨by decide +kernel, by decide +kernel, by decide +kernel⟩, (by decide +kernel : rmaxl 85 ≤ 41), by decide +kernel, (Or.inr ⟨.int, rfl, rfl⟩), (fun h => absurd (show rinit 85 = true from h) (by decide +kernel))⟩
set_option maxRecDepth 100000 in
theorem pm86 (kn : List rM) : rpoM (rpar kn) rE0 86 1 := ⟨tw1 (List.mem_of_getElem? (i := 5) rfl) rfl, tw14 (List.mem_of_getElem? (i := 61) rfl) rfl, ⟨by decide +kernel, by decide +kernel, by decide +kernel⟩, (by decide +kernel : rmaxl 86 ≤ 41), by decide +kernel, (Or.inr ⟨.int, rfl, rfl⟩), (fun h => absurd (show rinit 86 = true from h) (by decide +kernel))⟩
set_option maxRecDepth 100000 in
theorem pm87 (kn : List rM) : rpoM (rpar kn) rE0 87 0 := ⟨tw1 (List.mem_of_getElem? (i := 18) rfl) rfl, tw2 (List.mem_of_getElem? (i := 212) rfl) rfl, ⟨by decide +kernel, by decide +kernel, by decide +kernel⟩, (by decide +kernel : rmaxl 87 ≤ 41), by decide +kernel, (Or.inl ⟨rfl, rfl⟩), (fun _ => rfl)⟩
set_option maxRecDepth 100000 in
theorem pm88 (kn : List rM) : rpoM (rpar kn) rE0 88 0 := ⟨tw1 (List.mem_of_getElem? (i := 16) rfl) rfl, tw2 (List.mem_of_getElem? (i := 155) rfl) rfl, ⟨by decide +kernel, by decide +kernel, by decide +kernel⟩, (by decide +kernel : rmaxl 88 ≤ 41), by decide +kernel, (Or.inl ⟨rfl, rfl⟩), (fun _ => rfl)⟩
set_option maxRecDepth 100000 in
theorem pm89 (kn : List rM) : rpoM (rpar kn) rE0 89 0 := ⟨tw1 (List.mem_of_getElem? (i := 3) rfl) rfl, tw1 (List.mem_of_getElem? (i := 79) rfl) rfl, ⟨by decide +kernel, by decide +kernel, by decide +kernel⟩, (by decide +kernel : rmaxl 89 ≤ 41), by decide +kernel, (Or.inl ⟨rfl, rfl⟩), (fun _ => rfl)⟩
set_option maxRecDepth 100000 in
theorem pm90 (kn : List rM) : rpoM (rpar kn) rE0 90 0 := ⟨tw1 (List.mem_of_getElem? (i := 3) rfl) rfl, tw2 (List.mem_of_getElem? (i := 138) rfl) rfl, ⟨by decide +kernel, by decide +kernel, by decide +kernel⟩, (by decide +kernel : rmaxl 90 ≤ 41), by decide +kernel, (Or.inl ⟨rfl, rfl⟩), (fun h => absurd (show rinit 90 = true from h) (by decide +kernel))⟩
set_option maxRecDepth 100000 in
theorem pm91 (kn : List rM) : rpoM (rpar kn) rE0 91 1 := ⟨tw1 (List.mem_of_getElem? (i := 3) rfl) rfl, tw2 (List.mem_of_getElem? (i := 134) rfl) rfl, ⟨by decide +kernel, by decide +kernel, by decide +kernel⟩, (by decide +kernel : rmaxl 91 ≤ 41), by decide +kernel, (Or.inr ⟨.int, rfl, rfl⟩), (fun h => absurd (show rinit 91 = true from h) (by decide +kernel))⟩
set_option maxRecDepth 100000 in
theorem pm92 (kn : List rM) : rpoM (rpar kn) rE0 92 0 := ⟨tw1 (List.mem_of_getElem? (i := 3) rfl) rfl, tw3 (List.mem_of_getElem? (i := 40) rfl) rfl, ⟨by decide +kernel, by decide +kernel, by decide +kernel⟩, (by decide +kernel : rmaxl 92 ≤ 41), by decide +kernel, (Or.inr ⟨(.array (.object "PackHouse$Share")), rfl, rfl⟩), (fun h => absurd (show rinit 92 = true from h) (by decide +kernel))⟩
set_option maxRecDepth 100000 in
theorem pm93 (kn : List rM) : rpoM (rpar kn) rE0 93 0 := ⟨tw1 (List.mem_of_getElem? (i := 19) rfl) rfl, tw3 (List.mem_of_getElem? (i := 153) rfl) rfl, ⟨by decide +kernel, by decide +kernel, by decide +kernel⟩, (by decide +kernel : rmaxl 93 ≤ 41), by decide +kernel, (Or.inl ⟨rfl, rfl⟩), (fun _ => rfl)⟩
set_option maxRecDepth 100000 in
theorem pm94 (kn : List rM) : rpoM (rpar kn) rE0 94 3 := ⟨tw1 (List.mem_of_getElem? (i := 19) rfl) rfl, tw4 (List.mem_of_getElem? (i := 51) rfl) rfl, ⟨by decide +kernel, by decide +kernel, by decide +kernel⟩, (by decide +kernel : rmaxl 94 ≤ 41), by decide +kernel, (Or.inl ⟨rfl, rfl⟩), (fun h => absurd (show rinit 94 = true from h) (by decide +kernel))⟩
set_option maxRecDepth 100000 in
theorem pm95 (kn : List rM) : rpoM (rpar kn) rE0 95 1 := ⟨tw1 (List.mem_of_getElem? (i := 19) rfl) rfl, tw4 (List.mem_of_getElem? (i := 60) rfl) rfl, ⟨by decide +kernel, by decide +kernel, by decide +kernel⟩, (by decide +kernel : rmaxl 95 ≤ 41), by decide +kernel, (Or.inl ⟨rfl, rfl⟩), (fun h => absurd (show rinit 95 = true from h) (by decide +kernel))⟩
set_option maxRecDepth 100000 in
theorem pm96 (kn : List rM) : rpoM (rpar kn) rE0 96 4 := ⟨tw1 (List.mem_of_getElem? (i := 19) rfl) rfl, tw4 (List.mem_of_getElem? (i := 79) rfl) rfl, ⟨by decide +kernel, by decide +kernel, by decide +kernel⟩, (by decide +kernel : rmaxl 96 ≤ 41), by decide +kernel, (Or.inl ⟨rfl, rfl⟩), (fun h => absurd (show rinit 96 = true from h) (by decide +kernel))⟩
set_option maxRecDepth 100000 in
theorem pm97 (kn : List rM) : rpoM (rpar kn) rE0 97 3 := ⟨tw1 (List.mem_of_getElem? (i := 21) rfl) rfl, tw5 (List.mem_of_getElem? (i := 18) rfl) rfl, ⟨by decide +kernel, by decide +kernel, by decide +kernel⟩, (by decide +kernel : rmaxl 97 ≤ 41), by decide +kernel, (Or.inl ⟨rfl, rfl⟩), (fun _ => rfl)⟩
set_option maxRecDepth 100000 in
theorem pm98 (kn : List rM) : rpoM (rpar kn) rE0 98 2 := ⟨tw1 (List.mem_of_getElem? (i := 21) rfl) rfl, tw5 (List.mem_of_getElem? (i := 109) rfl) rfl, ⟨by decide +kernel, by decide +kernel, by decide +kernel⟩, (by decide +kernel : rmaxl 98 ≤ 41), by decide +kernel, (Or.inr ⟨.int, rfl, rfl⟩), (fun h => absurd (show rinit 98 = true from h) (by decide +kernel))⟩
set_option maxRecDepth 100000 in
theorem pm99 (kn : List rM) : rpoM (rpar kn) rE0 99 2 := ⟨tw1 (List.mem_of_getElem? (i := 21) rfl) rfl, tw5 (List.mem_of_getElem? (i := 113) rfl) rfl, ⟨by decide +kernel, by decide +kernel, by decide +kernel⟩, (by decide +kernel : rmaxl 99 ≤ 41), by decide +kernel, (Or.inr ⟨.int, rfl, rfl⟩), (fun h => absurd (show rinit 99 = true from h) (by decide +kernel))⟩
set_option maxRecDepth 100000 in
theorem pm100 (kn : List rM) : rpoM (rpar kn) rE0 100 3 := ⟨tw1 (List.mem_of_getElem? (i := 21) rfl) rfl, tw5 (List.mem_of_getElem? (i := 92) rfl) rfl, ⟨by decide +kernel, by decide +kernel, by decide +kernel⟩, (by decide +kernel : rmaxl 100 ≤ 41), by decide +kernel, (Or.inl ⟨rfl, rfl⟩), (fun h => absurd (show rinit 100 = true from h) (by decide +kernel))⟩
set_option maxRecDepth 100000 in
theorem pm101 (kn : List rM) : rpoM (rpar kn) rE0 101 3 := ⟨tw1 (List.mem_of_getElem? (i := 21) rfl) rfl, tw5 (List.mem_of_getElem? (i := 97) rfl) rfl, ⟨by decide +kernel, by decide +kernel, by decide +kernel⟩, (by decide +kernel : rmaxl 101 ≤ 41), by decide +kernel, (Or.inl ⟨rfl, rfl⟩), (fun h => absurd (show rinit 101 = true from h) (by decide +kernel))⟩
set_option maxRecDepth 100000 in
theorem pm102 (kn : List rM) : rpoM (rpar kn) rE0 102 4 := ⟨tw1 (List.mem_of_getElem? (i := 21) rfl) rfl, tw5 (List.mem_of_getElem? (i := 120) rfl) rfl, ⟨by decide +kernel, by decide +kernel, by decide +kernel⟩, (by decide +kernel : rmaxl 102 ≤ 41), by decide +kernel, (Or.inl ⟨rfl, rfl⟩), (fun h => absurd (show rinit 102 = true from h) (by decide +kernel))⟩
set_option maxRecDepth 100000 in
theorem pm103 (kn : List rM) : rpoM (rpar kn) rE0 103 2 := ⟨tw1 (List.mem_of_getElem? (i := 21) rfl) rfl, tw6 (List.mem_of_getElem? (i := 93) rfl) rfl, ⟨by decide +kernel, by decide +kernel, by decide +kernel⟩, (by decide +kernel : rmaxl 103 ≤ 41), by decide +kernel, (Or.inr ⟨.boolean, rfl, rfl⟩), (fun h => absurd (show rinit 103 = true from h) (by decide +kernel))⟩
set_option maxRecDepth 100000 in
theorem pm104 (kn : List rM) : rpoM (rpar kn) rE0 104 0 := ⟨tw1 (List.mem_of_getElem? (i := 2) rfl) rfl, tw1 (List.mem_of_getElem? (i := 36) rfl) rfl, ⟨by decide +kernel, by decide +kernel, by decide +kernel⟩, (by decide +kernel : rmaxl 104 ≤ 41), by decide +kernel, (Or.inl ⟨rfl, rfl⟩), (fun _ => rfl)⟩
set_option maxRecDepth 100000 in
theorem pm105 (kn : List rM) : rpoM (rpar kn) rE0 105 0 := ⟨tw1 (List.mem_of_getElem? (i := 2) rfl) rfl, tw2 (List.mem_of_getElem? (i := 125) rfl) rfl, ⟨by decide +kernel, by decide +kernel, by decide +kernel⟩, (by decide +kernel : rmaxl 105 ≤ 41), by decide +kernel, (Or.inl ⟨rfl, rfl⟩), (fun h => absurd (show rinit 105 = true from h) (by decide +kernel))⟩
set_option maxRecDepth 100000 in
theorem pm106 (kn : List rM) : rpoM (rpar kn) rE0 106 1 := ⟨tw1 (List.mem_of_getElem? (i := 2) rfl) rfl, tw1 (List.mem_of_getElem? (i := 204) rfl) rfl, ⟨by decide +kernel, by decide +kernel, by decide +kernel⟩, (by decide +kernel : rmaxl 106 ≤ 41), by decide +kernel, (Or.inr ⟨.boolean, rfl, rfl⟩), (fun h => absurd (show rinit 106 = true from h) (by decide +kernel))⟩
set_option maxRecDepth 100000 in
theorem pm107 (kn : List rM) : rpoM (rpar kn) rE0 107 1 := ⟨tw1 (List.mem_of_getElem? (i := 2) rfl) rfl, tw2 (List.mem_of_getElem? (i := 121) rfl) rfl, ⟨by decide +kernel, by decide +kernel, by decide +kernel⟩, (by decide +kernel : rmaxl 107 ≤ 41), by decide +kernel, (Or.inl ⟨rfl, rfl⟩), (fun h => absurd (show rinit 107 = true from h) (by decide +kernel))⟩
set_option maxRecDepth 100000 in
theorem pm108 (kn : List rM) : rpoM (rpar kn) rE0 108 1 := ⟨tw1 (List.mem_of_getElem? (i := 2) rfl) rfl, tw1 (List.mem_of_getElem? (i := 233) rfl) rfl, ⟨by decide +kernel, by decide +kernel, by decide +kernel⟩, (by decide +kernel : rmaxl 108 ≤ 41), by decide +kernel, (Or.inl ⟨rfl, rfl⟩), (fun h => absurd (show rinit 108 = true from h) (by decide +kernel))⟩
set_option maxRecDepth 100000 in
theorem pm109 (kn : List rM) : rpoM (rpar kn) rE0 109 2 := ⟨tw1 (List.mem_of_getElem? (i := 2) rfl) rfl, tw4 (List.mem_of_getElem? (i := 119) rfl) rfl, ⟨by decide +kernel, by decide +kernel, by decide +kernel⟩, (by decide +kernel : rmaxl 109 ≤ 41), by decide +kernel, (Or.inl ⟨rfl, rfl⟩), (fun h => absurd (show rinit 109 = true from h) (by decide +kernel))⟩
set_option maxRecDepth 100000 in
theorem pm110 (kn : List rM) : rpoM (rpar kn) rE0 110 3 := ⟨tw1 (List.mem_of_getElem? (i := 2) rfl) rfl, tw2 (List.mem_of_getElem? (i := 21) rfl) rfl, ⟨by decide +kernel, by decide +kernel, by decide +kernel⟩, (by decide +kernel : rmaxl 110 ≤ 41), by decide +kernel, (Or.inl ⟨rfl, rfl⟩), (fun h => absurd (show rinit 110 = true from h) (by decide +kernel))⟩
set_option maxRecDepth 100000 in
theorem pm111 (kn : List rM) : rpoM (rpar kn) rE0 111 2 := ⟨tw1 (List.mem_of_getElem? (i := 17) rfl) rfl, tw2 (List.mem_of_getElem? (i := 161) rfl) rfl, ⟨by decide +kernel, by decide +kernel, by decide +kernel⟩, (by decide +kernel : rmaxl 111 ≤ 41), by decide +kernel, (Or.inl ⟨rfl, rfl⟩), (fun _ => rfl)⟩
set_option maxRecDepth 100000 in
theorem pm112 (kn : List rM) : rpoM (rpar kn) rE0 112 2 := ⟨tw1 (List.mem_of_getElem? (i := 17) rfl) rfl, tw5 (List.mem_of_getElem? (i := 10) rfl) rfl, ⟨by decide +kernel, by decide +kernel, by decide +kernel⟩, (by decide +kernel : rmaxl 112 ≤ 41), by decide +kernel, (Or.inl ⟨rfl, rfl⟩), (fun h => absurd (show rinit 112 = true from h) (by decide +kernel))⟩
set_option maxRecDepth 100000 in
theorem pm113 (kn : List rM) : rpoM (rpar kn) rE0 113 0 := ⟨tw1 (List.mem_of_getElem? (i := 17) rfl) rfl, tw3 (List.mem_of_getElem? (i := 69) rfl) rfl, ⟨by decide +kernel, by decide +kernel, by decide +kernel⟩, (by decide +kernel : rmaxl 113 ≤ 41), by decide +kernel, (Or.inl ⟨rfl, rfl⟩), (fun h => absurd (show rinit 113 = true from h) (by decide +kernel))⟩
set_option maxRecDepth 100000 in
theorem pm114 (kn : List rM) : rpoM (rpar kn) rE0 114 0 := ⟨tw1 (List.mem_of_getElem? (i := 4) rfl) rfl, tw1 (List.mem_of_getElem? (i := 87) rfl) rfl, ⟨by decide +kernel, by decide +kernel, by decide +kernel⟩, (by decide +kernel : rmaxl 114 ≤ 41), by decide +kernel, (Or.inl ⟨rfl, rfl⟩), (fun _ => rfl)⟩
set_option maxRecDepth 100000 in
theorem pm115 (kn : List rM) : rpoM (rpar kn) rE0 115 0 := ⟨tw1 (List.mem_of_getElem? (i := 4) rfl) rfl, tw2 (List.mem_of_getElem? (i := 143) rfl) rfl, ⟨by decide +kernel, by decide +kernel, by decide +kernel⟩, (by decide +kernel : rmaxl 115 ≤ 41), by decide +kernel, (Or.inl ⟨rfl, rfl⟩), (fun h => absurd (show rinit 115 = true from h) (by decide +kernel))⟩
set_option maxRecDepth 100000 in
theorem pm116 (kn : List rM) : rpoM (rpar kn) rE0 116 1 := ⟨tw1 (List.mem_of_getElem? (i := 4) rfl) rfl, tw5 (List.mem_of_getElem? (i := 104) rfl) rfl, ⟨by decide +kernel, by decide +kernel, by decide +kernel⟩, (by decide +kernel : rmaxl 116 ≤ 41), by decide +kernel, (Or.inl ⟨rfl, rfl⟩), (fun h => absurd (show rinit 116 = true from h) (by decide +kernel))⟩
set_option maxRecDepth 100000 in
theorem pm117 (kn : List rM) : rpoM (rpar kn) rE0 117 2 := ⟨tw1 (List.mem_of_getElem? (i := 20) rfl) rfl, tw4 (List.mem_of_getElem? (i := 148) rfl) rfl, ⟨by decide +kernel, by decide +kernel, by decide +kernel⟩, (by decide +kernel : rmaxl 117 ≤ 41), by decide +kernel, (Or.inl ⟨rfl, rfl⟩), (fun _ => rfl)⟩
set_option maxRecDepth 100000 in
theorem pm118 (kn : List rM) : rpoM (rpar kn) rE0 118 3 := ⟨tw1 (List.mem_of_getElem? (i := 20) rfl) rfl, tw6 (List.mem_of_getElem? (i := 194) rfl) rfl, ⟨by decide +kernel, by decide +kernel, by decide +kernel⟩, (by decide +kernel : rmaxl 118 ≤ 41), by decide +kernel, (Or.inr ⟨.boolean, rfl, rfl⟩), (fun h => absurd (show rinit 118 = true from h) (by decide +kernel))⟩
set_option maxRecDepth 100000 in
theorem pm119 (kn : List rM) : rpoM (rpar kn) rE0 119 2 := ⟨tw1 (List.mem_of_getElem? (i := 20) rfl) rfl, tw4 (List.mem_of_getElem? (i := 184) rfl) rfl, ⟨by decide +kernel, by decide +kernel, by decide +kernel⟩, (by decide +kernel : rmaxl 119 ≤ 41), by decide +kernel, (Or.inl ⟨rfl, rfl⟩), (fun h => absurd (show rinit 119 = true from h) (by decide +kernel))⟩
set_option maxRecDepth 100000 in
theorem pm120 (kn : List rM) : rpoM (rpar kn) rE0 120 1 := ⟨tw1 (List.mem_of_getElem? (i := 20) rfl) rfl, tw4 (List.mem_of_getElem? (i := 191) rfl) rfl, ⟨by decide +kernel, by decide +kernel, by decide +kernel⟩, (by decide +kernel : rmaxl 120 ≤ 41), by decide +kernel, (Or.inl ⟨rfl, rfl⟩), (fun h => absurd (show rinit 120 = true from h) (by decide +kernel))⟩
set_option maxRecDepth 100000 in
theorem pm121 (kn : List rM) : rpoM (rpar kn) rE0 121 2 := ⟨tw1 (List.mem_of_getElem? (i := 20) rfl) rfl, tw4 (List.mem_of_getElem? (i := 194) rfl) rfl, ⟨by decide +kernel, by decide +kernel, by decide +kernel⟩, (by decide +kernel : rmaxl 121 ≤ 41), by decide +kernel, (Or.inl ⟨rfl, rfl⟩), (fun h => absurd (show rinit 121 = true from h) (by decide +kernel))⟩
set_option maxRecDepth 100000 in
theorem pm122 (kn : List rM) : rpoM (rpar kn) rE0 122 3 := ⟨tw1 (List.mem_of_getElem? (i := 20) rfl) rfl, tw4 (List.mem_of_getElem? (i := 201) rfl) rfl, ⟨by decide +kernel, by decide +kernel, by decide +kernel⟩, (by decide +kernel : rmaxl 122 ≤ 41), by decide +kernel, (Or.inl ⟨rfl, rfl⟩), (fun h => absurd (show rinit 122 = true from h) (by decide +kernel))⟩
set_option maxRecDepth 100000 in
theorem pm123 (kn : List rM) : rpoM (rpar kn) rE0 123 2 := ⟨tw1 (List.mem_of_getElem? (i := 20) rfl) rfl, tw4 (List.mem_of_getElem? (i := 221) rfl) rfl, ⟨by decide +kernel, by decide +kernel, by decide +kernel⟩, (by decide +kernel : rmaxl 123 ≤ 41), by decide +kernel, (Or.inl ⟨rfl, rfl⟩), (fun h => absurd (show rinit 123 = true from h) (by decide +kernel))⟩
set_option maxRecDepth 100000 in
theorem pm124 (kn : List rM) : rpoM (rpar kn) rE0 124 2 := ⟨tw1 (List.mem_of_getElem? (i := 20) rfl) rfl, tw6 (List.mem_of_getElem? (i := 178) rfl) rfl, ⟨by decide +kernel, by decide +kernel, by decide +kernel⟩, (by decide +kernel : rmaxl 124 ≤ 41), by decide +kernel, (Or.inr ⟨.int, rfl, rfl⟩), (fun h => absurd (show rinit 124 = true from h) (by decide +kernel))⟩
set_option maxRecDepth 100000 in
theorem pm125 (kn : List rM) : rpoM (rpar kn) rE0 125 3 := ⟨tw1 (List.mem_of_getElem? (i := 20) rfl) rfl, tw6 (List.mem_of_getElem? (i := 166) rfl) rfl, ⟨by decide +kernel, by decide +kernel, by decide +kernel⟩, (by decide +kernel : rmaxl 125 ≤ 41), by decide +kernel, (Or.inl ⟨rfl, rfl⟩), (fun h => absurd (show rinit 125 = true from h) (by decide +kernel))⟩
set_option maxRecDepth 100000 in
theorem pm126 (kn : List rM) : rpoM (rpar kn) rE0 126 3 := ⟨tw1 (List.mem_of_getElem? (i := 20) rfl) rfl, tw6 (List.mem_of_getElem? (i := 162) rfl) rfl, ⟨by decide +kernel, by decide +kernel, by decide +kernel⟩, (by decide +kernel : rmaxl 126 ≤ 41), by decide +kernel, (Or.inr ⟨.int, rfl, rfl⟩), (fun h => absurd (show rinit 126 = true from h) (by decide +kernel))⟩
set_option maxRecDepth 100000 in
theorem pm127 (kn : List rM) : rpoM (rpar kn) rE0 127 3 := ⟨tw1 (List.mem_of_getElem? (i := 20) rfl) rfl, tw6 (List.mem_of_getElem? (i := 170) rfl) rfl, ⟨by decide +kernel, by decide +kernel, by decide +kernel⟩, (by decide +kernel : rmaxl 127 ≤ 41), by decide +kernel, (Or.inr ⟨.int, rfl, rfl⟩), (fun h => absurd (show rinit 127 = true from h) (by decide +kernel))⟩
set_option maxRecDepth 100000 in
theorem pm128 (kn : List rM) : rpoM (rpar kn) rE0 128 3 := ⟨tw1 (List.mem_of_getElem? (i := 20) rfl) rfl, tw6 (List.mem_of_getElem? (i := 174) rfl) rfl, ⟨by decide +kernel, by decide +kernel, by decide +kernel⟩, (by decide +kernel : rmaxl 128 ≤ 41), by decide +kernel, (Or.inr ⟨.int, rfl, rfl⟩), (fun h => absurd (show rinit 128 = true from h) (by decide +kernel))⟩
set_option maxRecDepth 100000 in
theorem pm129 (kn : List rM) : rpoM (rpar kn) rE0 129 3 := ⟨tw1 (List.mem_of_getElem? (i := 20) rfl) rfl, tw6 (List.mem_of_getElem? (i := 191) rfl) rfl, ⟨by decide +kernel, by decide +kernel, by decide +kernel⟩, (by decide +kernel : rmaxl 129 ≤ 41), by decide +kernel, (Or.inr ⟨.int, rfl, rfl⟩), (fun h => absurd (show rinit 129 = true from h) (by decide +kernel))⟩
set_option maxRecDepth 100000 in
theorem pm130 (kn : List rM) : rpoM (rpar kn) rE0 130 3 := ⟨tw1 (List.mem_of_getElem? (i := 15) rfl) rfl, tw3 (List.mem_of_getElem? (i := 236) rfl) rfl, ⟨by decide +kernel, by decide +kernel, by decide +kernel⟩, (by decide +kernel : rmaxl 130 ≤ 41), by decide +kernel, (Or.inl ⟨rfl, rfl⟩), (fun _ => rfl)⟩
set_option maxRecDepth 100000 in
theorem pm131 (kn : List rM) : rpoM (rpar kn) rE0 131 1 := ⟨tw1 (List.mem_of_getElem? (i := 15) rfl) rfl, tw2 (List.mem_of_getElem? (i := 51) rfl) rfl, ⟨by decide +kernel, by decide +kernel, by decide +kernel⟩, (by decide +kernel : rmaxl 131 ≤ 41), by decide +kernel, (Or.inr ⟨.boolean, rfl, rfl⟩), (fun h => absurd (show rinit 131 = true from h) (by decide +kernel))⟩
set_option maxRecDepth 100000 in
theorem pm132 (kn : List rM) : rpoM (rpar kn) rE0 132 2 := ⟨tw1 (List.mem_of_getElem? (i := 15) rfl) rfl, tw4 (List.mem_of_getElem? (i := 44) rfl) rfl, ⟨by decide +kernel, by decide +kernel, by decide +kernel⟩, (by decide +kernel : rmaxl 132 ≤ 41), by decide +kernel, (Or.inl ⟨rfl, rfl⟩), (fun h => absurd (show rinit 132 = true from h) (by decide +kernel))⟩
set_option maxRecDepth 100000 in
theorem pm133 (kn : List rM) : rpoM (rpar kn) rE0 133 2 := ⟨tw1 (List.mem_of_getElem? (i := 15) rfl) rfl, tw4 (List.mem_of_getElem? (i := 56) rfl) rfl, ⟨by decide +kernel, by decide +kernel, by decide +kernel⟩, (by decide +kernel : rmaxl 133 ≤ 41), by decide +kernel, (Or.inl ⟨rfl, rfl⟩), (fun h => absurd (show rinit 133 = true from h) (by decide +kernel))⟩
set_option maxRecDepth 100000 in
theorem pm134 (kn : List rM) : rpoM (rpar kn) rE0 134 4 := ⟨tw1 (List.mem_of_getElem? (i := 15) rfl) rfl, tw4 (List.mem_of_getElem? (i := 103) rfl) rfl, ⟨by decide +kernel, by decide +kernel, by decide +kernel⟩, (by decide +kernel : rmaxl 134 ≤ 41), by decide +kernel, (Or.inl ⟨rfl, rfl⟩), (fun h => absurd (show rinit 134 = true from h) (by decide +kernel))⟩
set_option maxRecDepth 100000 in
theorem pm135 (kn : List rM) : rpoM (rpar kn) rE0 135 2 := ⟨tw1 (List.mem_of_getElem? (i := 15) rfl) rfl, tw4 (List.mem_of_getElem? (i := 108) rfl) rfl, ⟨by decide +kernel, by decide +kernel, by decide +kernel⟩, (by decide +kernel : rmaxl 135 ≤ 41), by decide +kernel, (Or.inl ⟨rfl, rfl⟩), (fun h => absurd (show rinit 135 = true from h) (by decide +kernel))⟩
set_option maxRecDepth 100000 in
theorem pm136 (kn : List rM) : rpoM (rpar kn) rE0 136 2 := ⟨tw1 (List.mem_of_getElem? (i := 15) rfl) rfl, tw4 (List.mem_of_getElem? (i := 123) rfl) rfl, ⟨by decide +kernel, by decide +kernel, by decide +kernel⟩, (by decide +kernel : rmaxl 136 ≤ 41), by decide +kernel, (Or.inl ⟨rfl, rfl⟩), (fun h => absurd (show rinit 136 = true from h) (by decide +kernel))⟩
set_option maxRecDepth 100000 in
theorem pm137 (kn : List rM) : rpoM (rpar kn) rE0 137 2 := ⟨tw1 (List.mem_of_getElem? (i := 15) rfl) rfl, tw4 (List.mem_of_getElem? (i := 127) rfl) rfl, ⟨by decide +kernel, by decide +kernel, by decide +kernel⟩, (by decide +kernel : rmaxl 137 ≤ 41), by decide +kernel, (Or.inl ⟨rfl, rfl⟩), (fun h => absurd (show rinit 137 = true from h) (by decide +kernel))⟩
set_option maxRecDepth 100000 in
theorem pm138 (kn : List rM) : rpoM (rpar kn) rE0 138 2 := ⟨tw1 (List.mem_of_getElem? (i := 15) rfl) rfl, tw6 (List.mem_of_getElem? (i := 121) rfl) rfl, ⟨by decide +kernel, by decide +kernel, by decide +kernel⟩, (by decide +kernel : rmaxl 138 ≤ 41), by decide +kernel, (Or.inr ⟨.int, rfl, rfl⟩), (fun h => absurd (show rinit 138 = true from h) (by decide +kernel))⟩
set_option maxRecDepth 100000 in
theorem pm139 (kn : List rM) : rpoM (rpar kn) rE0 139 3 := ⟨tw1 (List.mem_of_getElem? (i := 15) rfl) rfl, tw6 (List.mem_of_getElem? (i := 113) rfl) rfl, ⟨by decide +kernel, by decide +kernel, by decide +kernel⟩, (by decide +kernel : rmaxl 139 ≤ 41), by decide +kernel, (Or.inl ⟨rfl, rfl⟩), (fun h => absurd (show rinit 139 = true from h) (by decide +kernel))⟩
set_option maxRecDepth 100000 in
theorem pm140 (kn : List rM) : rpoM (rpar kn) rE0 140 3 := ⟨tw1 (List.mem_of_getElem? (i := 15) rfl) rfl, tw6 (List.mem_of_getElem? (i := 109) rfl) rfl, ⟨by decide +kernel, by decide +kernel, by decide +kernel⟩, (by decide +kernel : rmaxl 140 ≤ 41), by decide +kernel, (Or.inr ⟨.int, rfl, rfl⟩), (fun h => absurd (show rinit 140 = true from h) (by decide +kernel))⟩
set_option maxRecDepth 100000 in
theorem pm141 (kn : List rM) : rpoM (rpar kn) rE0 141 4 := ⟨tw1 (List.mem_of_getElem? (i := 15) rfl) rfl, tw6 (List.mem_of_getElem? (i := 117) rfl) rfl, ⟨by decide +kernel, by decide +kernel, by decide +kernel⟩, (by decide +kernel : rmaxl 141 ≤ 41), by decide +kernel, (Or.inr ⟨.int, rfl, rfl⟩), (fun h => absurd (show rinit 141 = true from h) (by decide +kernel))⟩
set_option maxRecDepth 100000 in
theorem pm142 (kn : List rM) : rpoM (rpar kn) rE0 142 3 := ⟨tw1 (List.mem_of_getElem? (i := 15) rfl) rfl, tw6 (List.mem_of_getElem? (i := 125) rfl) rfl, ⟨by decide +kernel, by decide +kernel, by decide +kernel⟩, (by decide +kernel : rmaxl 142 ≤ 41), by decide +kernel, (Or.inr ⟨.int, rfl, rfl⟩), (fun h => absurd (show rinit 142 = true from h) (by decide +kernel))⟩
set_option maxRecDepth 100000 in
theorem pm143 (kn : List rM) : rpoM (rpar kn) rE0 143 3 := ⟨tw1 (List.mem_of_getElem? (i := 15) rfl) rfl, tw6 (List.mem_of_getElem? (i := 131) rfl) rfl, ⟨by decide +kernel, by decide +kernel, by decide +kernel⟩, (by decide +kernel : rmaxl 143 ≤ 41), by decide +kernel, (Or.inr ⟨.int, rfl, rfl⟩), (fun h => absurd (show rinit 143 = true from h) (by decide +kernel))⟩
set_option maxRecDepth 100000 in
theorem pm144 (kn : List rM) : rpoM (rpar kn) rE0 144 1 := ⟨tw1 (List.mem_of_getElem? (i := 15) rfl) rfl, tw6 (List.mem_of_getElem? (i := 142) rfl) rfl, ⟨by decide +kernel, by decide +kernel, by decide +kernel⟩, (by decide +kernel : rmaxl 144 ≤ 41), by decide +kernel, (Or.inr ⟨.int, rfl, rfl⟩), (fun h => absurd (show rinit 144 = true from h) (by decide +kernel))⟩
set_option maxRecDepth 100000 in
theorem pm145 (kn : List rM) : rpoM (rpar kn) rE0 145 1 := ⟨tw1 (List.mem_of_getElem? (i := 15) rfl) rfl, tw6 (List.mem_of_getElem? (i := 149) rfl) rfl, ⟨by decide +kernel, by decide +kernel, by decide +kernel⟩, (by decide +kernel : rmaxl 145 ≤ 41), by decide +kernel, (Or.inr ⟨.int, rfl, rfl⟩), (fun h => absurd (show rinit 145 = true from h) (by decide +kernel))⟩
set_option maxRecDepth 100000 in
theorem pm146 (kn : List rM) : rpoM (rpar kn) rE0 146 2 := ⟨tw1 (List.mem_of_getElem? (i := 15) rfl) rfl, tw6 (List.mem_of_getElem? (i := 158) rfl) rfl, ⟨by decide +kernel, by decide +kernel, by decide +kernel⟩, (by decide +kernel : rmaxl 146 ≤ 41), by decide +kernel, (Or.inr ⟨.int, rfl, rfl⟩), (fun h => absurd (show rinit 146 = true from h) (by decide +kernel))⟩
set_option maxRecDepth 100000 in
theorem pm147 (kn : List rM) : rpoM (rpar kn) rE0 147 1 := ⟨tw1 (List.mem_of_getElem? (i := 22) rfl) rfl, tw6 (List.mem_of_getElem? (i := 210) rfl) rfl, ⟨by decide +kernel, by decide +kernel, by decide +kernel⟩, (by decide +kernel : rmaxl 147 ≤ 41), by decide +kernel, (Or.inl ⟨rfl, rfl⟩), (fun _ => rfl)⟩
set_option maxRecDepth 100000 in
theorem pm148 (kn : List rM) : rpoM (rpar kn) rE0 148 2 := ⟨tw1 (List.mem_of_getElem? (i := 22) rfl) rfl, tw7 (List.mem_of_getElem? (i := 57) rfl) rfl, ⟨by decide +kernel, by decide +kernel, by decide +kernel⟩, (by decide +kernel : rmaxl 148 ≤ 41), by decide +kernel, (Or.inr ⟨.int, rfl, rfl⟩), (fun h => absurd (show rinit 148 = true from h) (by decide +kernel))⟩
set_option maxRecDepth 100000 in
theorem pm149 (kn : List rM) : rpoM (rpar kn) rE0 149 5 := ⟨tw1 (List.mem_of_getElem? (i := 22) rfl) rfl, tw7 (List.mem_of_getElem? (i := 52) rfl) rfl, ⟨by decide +kernel, by decide +kernel, by decide +kernel⟩, (by decide +kernel : rmaxl 149 ≤ 41), by decide +kernel, (Or.inr ⟨.int, rfl, rfl⟩), (fun h => absurd (show rinit 149 = true from h) (by decide +kernel))⟩
set_option maxRecDepth 100000 in
theorem pm150 (kn : List rM) : rpoM (rpar kn) rE0 150 0 := ⟨tw1 (List.mem_of_getElem? (i := 22) rfl) rfl, tw7 (List.mem_of_getElem? (i := 103) rfl) rfl, ⟨by decide +kernel, by decide +kernel, by decide +kernel⟩, (by decide +kernel : rmaxl 150 ≤ 41), by decide +kernel, (Or.inr ⟨.int, rfl, rfl⟩), (fun h => absurd (show rinit 150 = true from h) (by decide +kernel))⟩
set_option maxRecDepth 100000 in
theorem pm151 (kn : List rM) : rpoM (rpar kn) rE0 151 0 := ⟨tw1 (List.mem_of_getElem? (i := 22) rfl) rfl, tw7 (List.mem_of_getElem? (i := 61) rfl) rfl, ⟨by decide +kernel, by decide +kernel, by decide +kernel⟩, (by decide +kernel : rmaxl 151 ≤ 41), by decide +kernel, (Or.inr ⟨.int, rfl, rfl⟩), (fun h => absurd (show rinit 151 = true from h) (by decide +kernel))⟩
set_option maxRecDepth 100000 in
theorem pm152 (kn : List rM) : rpoM (rpar kn) rE0 152 1 := ⟨tw1 (List.mem_of_getElem? (i := 22) rfl) rfl, tw7 (List.mem_of_getElem? (i := 74) rfl) rfl, ⟨by decide +kernel, by decide +kernel, by decide +kernel⟩, (by decide +kernel : rmaxl 152 ≤ 41), by decide +kernel, (Or.inl ⟨rfl, rfl⟩), (fun h => absurd (show rinit 152 = true from h) (by decide +kernel))⟩
set_option maxRecDepth 100000 in
theorem pm153 (kn : List rM) : rpoM (rpar kn) rE0 153 0 := ⟨tw1 (List.mem_of_getElem? (i := 22) rfl) rfl, tw7 (List.mem_of_getElem? (i := 70) rfl) rfl, ⟨by decide +kernel, by decide +kernel, by decide +kernel⟩, (by decide +kernel : rmaxl 153 ≤ 41), by decide +kernel, (Or.inr ⟨.int, rfl, rfl⟩), (fun h => absurd (show rinit 153 = true from h) (by decide +kernel))⟩
set_option maxRecDepth 100000 in
theorem pm154 (kn : List rM) : rpoM (rpar kn) rE0 154 0 := ⟨tw1 (List.mem_of_getElem? (i := 22) rfl) rfl, tw7 (List.mem_of_getElem? (i := 81) rfl) rfl, ⟨by decide +kernel, by decide +kernel, by decide +kernel⟩, (by decide +kernel : rmaxl 154 ≤ 41), by decide +kernel, (Or.inr ⟨.int, rfl, rfl⟩), (fun h => absurd (show rinit 154 = true from h) (by decide +kernel))⟩
set_option maxRecDepth 100000 in
theorem pm155 (kn : List rM) : rpoM (rpar kn) rE0 155 0 := ⟨tw1 (List.mem_of_getElem? (i := 22) rfl) rfl, tw7 (List.mem_of_getElem? (i := 91) rfl) rfl, ⟨by decide +kernel, by decide +kernel, by decide +kernel⟩, (by decide +kernel : rmaxl 155 ≤ 41), by decide +kernel, (Or.inr ⟨.int, rfl, rfl⟩), (fun h => absurd (show rinit 155 = true from h) (by decide +kernel))⟩
set_option maxRecDepth 100000 in
theorem pm156 (kn : List rM) : rpoM (rpar kn) rE0 156 0 := ⟨tw1 (List.mem_of_getElem? (i := 22) rfl) rfl, tw7 (List.mem_of_getElem? (i := 95) rfl) rfl, ⟨by decide +kernel, by decide +kernel, by decide +kernel⟩, (by decide +kernel : rmaxl 156 ≤ 41), by decide +kernel, (Or.inr ⟨.long, rfl, rfl⟩), (fun h => absurd (show rinit 156 = true from h) (by decide +kernel))⟩
set_option maxRecDepth 100000 in
theorem pm157 (kn : List rM) : rpoM (rpar kn) rE0 157 0 := ⟨tw1 (List.mem_of_getElem? (i := 22) rfl) rfl, tw7 (List.mem_of_getElem? (i := 87) rfl) rfl, ⟨by decide +kernel, by decide +kernel, by decide +kernel⟩, (by decide +kernel : rmaxl 157 ≤ 41), by decide +kernel, (Or.inr ⟨.int, rfl, rfl⟩), (fun h => absurd (show rinit 157 = true from h) (by decide +kernel))⟩
set_option maxRecDepth 100000 in
theorem pm158 (kn : List rM) : rpoM (rpar kn) rE0 158 0 := ⟨tw1 (List.mem_of_getElem? (i := 22) rfl) rfl, tw7 (List.mem_of_getElem? (i := 180) rfl) rfl, ⟨by decide +kernel, by decide +kernel, by decide +kernel⟩, (by decide +kernel : rmaxl 158 ≤ 41), by decide +kernel, (Or.inr ⟨.int, rfl, rfl⟩), (fun h => absurd (show rinit 158 = true from h) (by decide +kernel))⟩
set_option maxRecDepth 100000 in
theorem pm159 (kn : List rM) : rpoM (rpar kn) rE0 159 0 := ⟨tw1 (List.mem_of_getElem? (i := 22) rfl) rfl, tw7 (List.mem_of_getElem? (i := 99) rfl) rfl, ⟨by decide +kernel, by decide +kernel, by decide +kernel⟩, (by decide +kernel : rmaxl 159 ≤ 41), by decide +kernel, (Or.inr ⟨.int, rfl, rfl⟩), (fun h => absurd (show rinit 159 = true from h) (by decide +kernel))⟩
set_option maxRecDepth 100000 in
theorem pm160 (kn : List rM) : rpoM (rpar kn) rE0 160 0 := ⟨tw1 (List.mem_of_getElem? (i := 6) rfl) rfl, tw7 (List.mem_of_getElem? (i := 233) rfl) rfl, ⟨by decide +kernel, by decide +kernel, by decide +kernel⟩, (by decide +kernel : rmaxl 160 ≤ 41), by decide +kernel, (Or.inl ⟨rfl, rfl⟩), (fun _ => rfl)⟩
set_option maxRecDepth 100000 in
theorem pm161 (kn : List rM) : rpoM (rpar kn) rE0 161 1 := ⟨tw1 (List.mem_of_getElem? (i := 10) rfl) rfl, tw8 (List.mem_of_getElem? (i := 155) rfl) rfl, ⟨by decide +kernel, by decide +kernel, by decide +kernel⟩, (by decide +kernel : rmaxl 161 ≤ 41), by decide +kernel, (Or.inl ⟨rfl, rfl⟩), (fun _ => rfl)⟩
set_option maxRecDepth 100000 in
theorem pm162 (kn : List rM) : rpoM (rpar kn) rE0 162 2 := ⟨tw1 (List.mem_of_getElem? (i := 10) rfl) rfl, tw11 (List.mem_of_getElem? (i := 38) rfl) rfl, ⟨by decide +kernel, by decide +kernel, by decide +kernel⟩, (by decide +kernel : rmaxl 162 ≤ 41), by decide +kernel, (Or.inr ⟨.long, rfl, rfl⟩), (fun h => absurd (show rinit 162 = true from h) (by decide +kernel))⟩
set_option maxRecDepth 100000 in
theorem pm163 (kn : List rM) : rpoM (rpar kn) rE0 163 5 := ⟨tw1 (List.mem_of_getElem? (i := 10) rfl) rfl, tw10 (List.mem_of_getElem? (i := 223) rfl) rfl, ⟨by decide +kernel, by decide +kernel, by decide +kernel⟩, (by decide +kernel : rmaxl 163 ≤ 41), by decide +kernel, (Or.inr ⟨.boolean, rfl, rfl⟩), (fun h => absurd (show rinit 163 = true from h) (by decide +kernel))⟩
set_option maxRecDepth 100000 in
theorem pm164 (kn : List rM) : rpoM (rpar kn) rE0 164 0 := ⟨tw1 (List.mem_of_getElem? (i := 10) rfl) rfl, tw11 (List.mem_of_getElem? (i := 54) rfl) rfl, ⟨by decide +kernel, by decide +kernel, by decide +kernel⟩, (by decide +kernel : rmaxl 164 ≤ 41), by decide +kernel, (Or.inl ⟨rfl, rfl⟩), (fun h => absurd (show rinit 164 = true from h) (by decide +kernel))⟩
set_option maxRecDepth 100000 in
theorem pm165 (kn : List rM) : rpoM (rpar kn) rE0 165 0 := ⟨tw1 (List.mem_of_getElem? (i := 10) rfl) rfl, tw10 (List.mem_of_getElem? (i := 219) rfl) rfl, ⟨by decide +kernel, by decide +kernel, by decide +kernel⟩, (by decide +kernel : rmaxl 165 ≤ 41), by decide +kernel, (Or.inr ⟨.int, rfl, rfl⟩), (fun h => absurd (show rinit 165 = true from h) (by decide +kernel))⟩
set_option maxRecDepth 100000 in
theorem pm166 (kn : List rM) : rpoM (rpar kn) rE0 166 0 := ⟨tw1 (List.mem_of_getElem? (i := 10) rfl) rfl, tw13 (List.mem_of_getElem? (i := 180) rfl) rfl, ⟨by decide +kernel, by decide +kernel, by decide +kernel⟩, (by decide +kernel : rmaxl 166 ≤ 41), by decide +kernel, (Or.inl ⟨rfl, rfl⟩), (fun h => absurd (show rinit 166 = true from h) (by decide +kernel))⟩
set_option maxRecDepth 100000 in
theorem pm167 (kn : List rM) : rpoM (rpar kn) rE0 167 2 := ⟨tw1 (List.mem_of_getElem? (i := 10) rfl) rfl, tw14 (List.mem_of_getElem? (i := 14) rfl) rfl, ⟨by decide +kernel, by decide +kernel, by decide +kernel⟩, (by decide +kernel : rmaxl 167 ≤ 41), by decide +kernel, (Or.inr ⟨.long, rfl, rfl⟩), (fun h => absurd (show rinit 167 = true from h) (by decide +kernel))⟩
set_option maxRecDepth 100000 in
theorem pm168 (kn : List rM) : rpoM (rpar kn) rE0 168 1 := ⟨tw1 (List.mem_of_getElem? (i := 10) rfl) rfl, tw13 (List.mem_of_getElem? (i := 160) rfl) rfl, ⟨by decide +kernel, by decide +kernel, by decide +kernel⟩, (by decide +kernel : rmaxl 168 ≤ 41), by decide +kernel, (Or.inr ⟨.boolean, rfl, rfl⟩), (fun h => absurd (show rinit 168 = true from h) (by decide +kernel))⟩
set_option maxRecDepth 100000 in
theorem pm169 (kn : List rM) : rpoM (rpar kn) rE0 169 1 := ⟨tw1 (List.mem_of_getElem? (i := 10) rfl) rfl, tw13 (List.mem_of_getElem? (i := 152) rfl) rfl, ⟨by decide +kernel, by decide +kernel, by decide +kernel⟩, (by decide +kernel : rmaxl 169 ≤ 41), by decide +kernel, (Or.inr ⟨.int, rfl, rfl⟩), (fun h => absurd (show rinit 169 = true from h) (by decide +kernel))⟩
set_option maxRecDepth 100000 in
theorem pm170 (kn : List rM) : rpoM (rpar kn) rE0 170 0 := ⟨tw1 (List.mem_of_getElem? (i := 10) rfl) rfl, tw13 (List.mem_of_getElem? (i := 156) rfl) rfl, ⟨by decide +kernel, by decide +kernel, by decide +kernel⟩, (by decide +kernel : rmaxl 170 ≤ 41), by decide +kernel, (Or.inr ⟨.boolean, rfl, rfl⟩), (fun h => absurd (show rinit 170 = true from h) (by decide +kernel))⟩
set_option maxRecDepth 100000 in
theorem pm171 (kn : List rM) : rpoM (rpar kn) rE0 171 0 := ⟨tw1 (List.mem_of_getElem? (i := 10) rfl) rfl, tw13 (List.mem_of_getElem? (i := 168) rfl) rfl, ⟨by decide +kernel, by decide +kernel, by decide +kernel⟩, (by decide +kernel : rmaxl 171 ≤ 41), by decide +kernel, (Or.inr ⟨.boolean, rfl, rfl⟩), (fun h => absurd (show rinit 171 = true from h) (by decide +kernel))⟩
set_option maxRecDepth 100000 in
theorem pm172 (kn : List rM) : rpoM (rpar kn) rE0 172 0 := ⟨tw1 (List.mem_of_getElem? (i := 10) rfl) rfl, tw13 (List.mem_of_getElem? (i := 172) rfl) rfl, ⟨by decide +kernel, by decide +kernel, by decide +kernel⟩, (by decide +kernel : rmaxl 172 ≤ 41), by decide +kernel, (Or.inl ⟨rfl, rfl⟩), (fun h => absurd (show rinit 172 = true from h) (by decide +kernel))⟩
set_option maxRecDepth 100000 in
theorem pm173 (kn : List rM) : rpoM (rpar kn) rE0 173 0 := ⟨tw1 (List.mem_of_getElem? (i := 10) rfl) rfl, tw13 (List.mem_of_getElem? (i := 185) rfl) rfl, ⟨by decide +kernel, by decide +kernel, by decide +kernel⟩, (by decide +kernel : rmaxl 173 ≤ 41), by decide +kernel, (Or.inr ⟨.boolean, rfl, rfl⟩), (fun h => absurd (show rinit 173 = true from h) (by decide +kernel))⟩
set_option maxRecDepth 100000 in
theorem pm174 (kn : List rM) : rpoM (rpar kn) rE0 174 1 := ⟨tw1 (List.mem_of_getElem? (i := 7) rfl) rfl, tw8 (List.mem_of_getElem? (i := 36) rfl) rfl, ⟨by decide +kernel, by decide +kernel, by decide +kernel⟩, (by decide +kernel : rmaxl 174 ≤ 41), by decide +kernel, (Or.inl ⟨rfl, rfl⟩), (fun _ => rfl)⟩
set_option maxRecDepth 100000 in
theorem pm175 (kn : List rM) : rpoM (rpar kn) rE0 175 1 := ⟨tw1 (List.mem_of_getElem? (i := 7) rfl) rfl, tw10 (List.mem_of_getElem? (i := 128) rfl) rfl, ⟨by decide +kernel, by decide +kernel, by decide +kernel⟩, (by decide +kernel : rmaxl 175 ≤ 41), by decide +kernel, (Or.inl ⟨rfl, rfl⟩), (fun h => absurd (show rinit 175 = true from h) (by decide +kernel))⟩
set_option maxRecDepth 100000 in
theorem pm176 (kn : List rM) : rpoM (rpar kn) rE0 176 3 := ⟨tw1 (List.mem_of_getElem? (i := 7) rfl) rfl, tw10 (List.mem_of_getElem? (i := 132) rfl) rfl, ⟨by decide +kernel, by decide +kernel, by decide +kernel⟩, (by decide +kernel : rmaxl 176 ≤ 41), by decide +kernel, (Or.inr ⟨.int, rfl, rfl⟩), (fun h => absurd (show rinit 176 = true from h) (by decide +kernel))⟩
set_option maxRecDepth 100000 in
theorem pm177 (kn : List rM) : rpoM (rpar kn) rE0 177 3 := ⟨tw1 (List.mem_of_getElem? (i := 7) rfl) rfl, tw10 (List.mem_of_getElem? (i := 160) rfl) rfl, ⟨by decide +kernel, by decide +kernel, by decide +kernel⟩, (by decide +kernel : rmaxl 177 ≤ 41), by decide +kernel, (Or.inr ⟨.long, rfl, rfl⟩), (fun h => absurd (show rinit 177 = true from h) (by decide +kernel))⟩
set_option maxRecDepth 100000 in
theorem pm178 (kn : List rM) : rpoM (rpar kn) rE0 178 2 := ⟨tw1 (List.mem_of_getElem? (i := 7) rfl) rfl, tw10 (List.mem_of_getElem? (i := 191) rfl) rfl, ⟨by decide +kernel, by decide +kernel, by decide +kernel⟩, (by decide +kernel : rmaxl 178 ≤ 41), by decide +kernel, (Or.inr ⟨.int, rfl, rfl⟩), (fun h => absurd (show rinit 178 = true from h) (by decide +kernel))⟩
set_option maxRecDepth 100000 in
theorem pm179 (kn : List rM) : rpoM (rpar kn) rE0 179 2 := ⟨tw1 (List.mem_of_getElem? (i := 7) rfl) rfl, tw10 (List.mem_of_getElem? (i := 187) rfl) rfl, ⟨by decide +kernel, by decide +kernel, by decide +kernel⟩, (by decide +kernel : rmaxl 179 ≤ 41), by decide +kernel, (Or.inr ⟨.int, rfl, rfl⟩), (fun h => absurd (show rinit 179 = true from h) (by decide +kernel))⟩
set_option maxRecDepth 100000 in
theorem pm180 (kn : List rM) : rpoM (rpar kn) rE0 180 1 := ⟨tw1 (List.mem_of_getElem? (i := 9) rfl) rfl, tw8 (List.mem_of_getElem? (i := 111) rfl) rfl, ⟨by decide +kernel, by decide +kernel, by decide +kernel⟩, (by decide +kernel : rmaxl 180 ≤ 41), by decide +kernel, (Or.inl ⟨rfl, rfl⟩), (fun _ => rfl)⟩
set_option maxRecDepth 100000 in
theorem pm181 (kn : List rM) : rpoM (rpar kn) rE0 181 1 := ⟨tw1 (List.mem_of_getElem? (i := 9) rfl) rfl, tw11 (List.mem_of_getElem? (i := 169) rfl) rfl, ⟨by decide +kernel, by decide +kernel, by decide +kernel⟩, (by decide +kernel : rmaxl 181 ≤ 41), by decide +kernel, (Or.inl ⟨rfl, rfl⟩), (fun h => absurd (show rinit 181 = true from h) (by decide +kernel))⟩
set_option maxRecDepth 100000 in
theorem pm182 (kn : List rM) : rpoM (rpar kn) rE0 182 2 := ⟨tw1 (List.mem_of_getElem? (i := 9) rfl) rfl, tw11 (List.mem_of_getElem? (i := 194) rfl) rfl, ⟨by decide +kernel, by decide +kernel, by decide +kernel⟩, (by decide +kernel : rmaxl 182 ≤ 41), by decide +kernel, (Or.inl ⟨rfl, rfl⟩), (fun h => absurd (show rinit 182 = true from h) (by decide +kernel))⟩
set_option maxRecDepth 100000 in
theorem pm183 (kn : List rM) : rpoM (rpar kn) rE0 183 0 := ⟨tw1 (List.mem_of_getElem? (i := 9) rfl) rfl, tw11 (List.mem_of_getElem? (i := 218) rfl) rfl, ⟨by decide +kernel, by decide +kernel, by decide +kernel⟩, (by decide +kernel : rmaxl 183 ≤ 41), by decide +kernel, (Or.inr ⟨.int, rfl, rfl⟩), (fun h => absurd (show rinit 183 = true from h) (by decide +kernel))⟩
set_option maxRecDepth 100000 in
theorem pm184 (kn : List rM) : rpoM (rpar kn) rE0 184 2 := ⟨tw1 (List.mem_of_getElem? (i := 9) rfl) rfl, tw11 (List.mem_of_getElem? (i := 189) rfl) rfl, ⟨by decide +kernel, by decide +kernel, by decide +kernel⟩, (by decide +kernel : rmaxl 184 ≤ 41), by decide +kernel, (Or.inl ⟨rfl, rfl⟩), (fun h => absurd (show rinit 184 = true from h) (by decide +kernel))⟩
set_option maxRecDepth 100000 in
theorem pm185 (kn : List rM) : rpoM (rpar kn) rE0 185 3 := ⟨tw1 (List.mem_of_getElem? (i := 9) rfl) rfl, tw11 (List.mem_of_getElem? (i := 165) rfl) rfl, ⟨by decide +kernel, by decide +kernel, by decide +kernel⟩, (by decide +kernel : rmaxl 185 ≤ 41), by decide +kernel, (Or.inl ⟨rfl, rfl⟩), (fun h => absurd (show rinit 185 = true from h) (by decide +kernel))⟩
set_option maxRecDepth 100000 in
theorem pm186 (kn : List rM) : rpoM (rpar kn) rE0 186 1 := ⟨tw1 (List.mem_of_getElem? (i := 9) rfl) rfl, tw11 (List.mem_of_getElem? (i := 161) rfl) rfl, ⟨by decide +kernel, by decide +kernel, by decide +kernel⟩, (by decide +kernel : rmaxl 186 ≤ 41), by decide +kernel, (Or.inr ⟨.int, rfl, rfl⟩), (fun h => absurd (show rinit 186 = true from h) (by decide +kernel))⟩
set_option maxRecDepth 100000 in
theorem pm187 (kn : List rM) : rpoM (rpar kn) rE0 187 2 := ⟨tw1 (List.mem_of_getElem? (i := 9) rfl) rfl, tw13 (List.mem_of_getElem? (i := 110) rfl) rfl, ⟨by decide +kernel, by decide +kernel, by decide +kernel⟩, (by decide +kernel : rmaxl 187 ≤ 41), by decide +kernel, (Or.inr ⟨.boolean, rfl, rfl⟩), (fun h => absurd (show rinit 187 = true from h) (by decide +kernel))⟩
set_option maxRecDepth 100000 in
theorem pm188 (kn : List rM) : rpoM (rpar kn) rE0 188 1 := ⟨tw1 (List.mem_of_getElem? (i := 9) rfl) rfl, tw13 (List.mem_of_getElem? (i := 105) rfl) rfl, ⟨by decide +kernel, by decide +kernel, by decide +kernel⟩, (by decide +kernel : rmaxl 188 ≤ 41), by decide +kernel, (Or.inr ⟨.long, rfl, rfl⟩), (fun h => absurd (show rinit 188 = true from h) (by decide +kernel))⟩
set_option maxRecDepth 100000 in
theorem pm189 (kn : List rM) : rpoM (rpar kn) rE0 189 1 := ⟨tw1 (List.mem_of_getElem? (i := 9) rfl) rfl, tw13 (List.mem_of_getElem? (i := 101) rfl) rfl, ⟨by decide +kernel, by decide +kernel, by decide +kernel⟩, (by decide +kernel : rmaxl 189 ≤ 41), by decide +kernel, (Or.inr ⟨.long, rfl, rfl⟩), (fun h => absurd (show rinit 189 = true from h) (by decide +kernel))⟩
set_option maxRecDepth 100000 in
theorem pm190 (kn : List rM) : rpoM (rpar kn) rE0 190 1 := ⟨tw1 (List.mem_of_getElem? (i := 9) rfl) rfl, tw13 (List.mem_of_getElem? (i := 97) rfl) rfl, ⟨by decide +kernel, by decide +kernel, by decide +kernel⟩, (by decide +kernel : rmaxl 190 ≤ 41), by decide +kernel, (Or.inl ⟨rfl, rfl⟩), (fun h => absurd (show rinit 190 = true from h) (by decide +kernel))⟩
set_option maxRecDepth 100000 in
theorem pm191 (kn : List rM) : rpoM (rpar kn) rE0 191 0 := ⟨tw1 (List.mem_of_getElem? (i := 9) rfl) rfl, tw13 (List.mem_of_getElem? (i := 93) rfl) rfl, ⟨by decide +kernel, by decide +kernel, by decide +kernel⟩, (by decide +kernel : rmaxl 191 ≤ 41), by decide +kernel, (Or.inl ⟨rfl, rfl⟩), (fun h => absurd (show rinit 191 = true from h) (by decide +kernel))⟩
set_option maxRecDepth 100000 in
theorem pm192 (kn : List rM) : rpoM (rpar kn) rE0 192 0 := ⟨tw1 (List.mem_of_getElem? (i := 9) rfl) rfl, tw13 (List.mem_of_getElem? (i := 131) rfl) rfl, ⟨by decide +kernel, by decide +kernel, by decide +kernel⟩, (by decide +kernel : rmaxl 192 ≤ 41), by decide +kernel, (Or.inr ⟨.int, rfl, rfl⟩), (fun h => absurd (show rinit 192 = true from h) (by decide +kernel))⟩
set_option maxRecDepth 100000 in
theorem pm193 (kn : List rM) : rpoM (rpar kn) rE0 193 1 := ⟨tw1 (List.mem_of_getElem? (i := 9) rfl) rfl, tw13 (List.mem_of_getElem? (i := 89) rfl) rfl, ⟨by decide +kernel, by decide +kernel, by decide +kernel⟩, (by decide +kernel : rmaxl 193 ≤ 41), by decide +kernel, (Or.inr ⟨.int, rfl, rfl⟩), (fun h => absurd (show rinit 193 = true from h) (by decide +kernel))⟩
set_option maxRecDepth 100000 in
theorem pm194 (kn : List rM) : rpoM (rpar kn) rE0 194 1 := ⟨tw1 (List.mem_of_getElem? (i := 9) rfl) rfl, tw11 (List.mem_of_getElem? (i := 225) rfl) rfl, ⟨by decide +kernel, by decide +kernel, by decide +kernel⟩, (by decide +kernel : rmaxl 194 ≤ 41), by decide +kernel, (Or.inr ⟨.int, rfl, rfl⟩), (fun h => absurd (show rinit 194 = true from h) (by decide +kernel))⟩
set_option maxRecDepth 100000 in
theorem pm195 (kn : List rM) : rpoM (rpar kn) rE0 195 3 := ⟨tw1 (List.mem_of_getElem? (i := 9) rfl) rfl, tw11 (List.mem_of_getElem? (i := 222) rfl) rfl, ⟨by decide +kernel, by decide +kernel, by decide +kernel⟩, (by decide +kernel : rmaxl 195 ≤ 41), by decide +kernel, (Or.inr ⟨.int, rfl, rfl⟩), (fun h => absurd (show rinit 195 = true from h) (by decide +kernel))⟩
set_option maxRecDepth 100000 in
theorem pm196 (kn : List rM) : rpoM (rpar kn) rE0 196 1 := ⟨tw1 (List.mem_of_getElem? (i := 9) rfl) rfl, tw13 (List.mem_of_getElem? (i := 139) rfl) rfl, ⟨by decide +kernel, by decide +kernel, by decide +kernel⟩, (by decide +kernel : rmaxl 196 ≤ 41), by decide +kernel, (Or.inr ⟨.int, rfl, rfl⟩), (fun h => absurd (show rinit 196 = true from h) (by decide +kernel))⟩
set_option maxRecDepth 100000 in
theorem pm197 (kn : List rM) : rpoM (rpar kn) rE0 197 2 := ⟨tw1 (List.mem_of_getElem? (i := 9) rfl) rfl, tw13 (List.mem_of_getElem? (i := 143) rfl) rfl, ⟨by decide +kernel, by decide +kernel, by decide +kernel⟩, (by decide +kernel : rmaxl 197 ≤ 41), by decide +kernel, (Or.inr ⟨.boolean, rfl, rfl⟩), (fun h => absurd (show rinit 197 = true from h) (by decide +kernel))⟩
set_option maxRecDepth 100000 in
theorem pm198 (kn : List rM) : rpoM (rpar kn) rE0 198 3 := ⟨tw1 (List.mem_of_getElem? (i := 9) rfl) rfl, tw13 (List.mem_of_getElem? (i := 148) rfl) rfl, ⟨by decide +kernel, by decide +kernel, by decide +kernel⟩, (by decide +kernel : rmaxl 198 ≤ 41), by decide +kernel, (Or.inl ⟨rfl, rfl⟩), (fun h => absurd (show rinit 198 = true from h) (by decide +kernel))⟩
set_option maxRecDepth 100000 in
theorem pm199 (kn : List rM) : rpoM (rpar kn) rE0 199 1 := ⟨tw1 (List.mem_of_getElem? (i := 9) rfl) rfl, tw13 (List.mem_of_getElem? (i := 135) rfl) rfl, ⟨by decide +kernel, by decide +kernel, by decide +kernel⟩, (by decide +kernel : rmaxl 199 ≤ 41), by decide +kernel, (Or.inr ⟨.int, rfl, rfl⟩), (fun h => absurd (show rinit 199 = true from h) (by decide +kernel))⟩
set_option maxRecDepth 100000 in
theorem pm200 (kn : List rM) : rpoM (rpar kn) rE0 200 1 := ⟨tw1 (List.mem_of_getElem? (i := 8) rfl) rfl, tw8 (List.mem_of_getElem? (i := 49) rfl) rfl, ⟨by decide +kernel, by decide +kernel, by decide +kernel⟩, (by decide +kernel : rmaxl 200 ≤ 41), by decide +kernel, (Or.inl ⟨rfl, rfl⟩), (fun _ => rfl)⟩
set_option maxRecDepth 100000 in
theorem pm201 (kn : List rM) : rpoM (rpar kn) rE0 201 0 := ⟨tw1 (List.mem_of_getElem? (i := 8) rfl) rfl, tw10 (List.mem_of_getElem? (i := 211) rfl) rfl, ⟨by decide +kernel, by decide +kernel, by decide +kernel⟩, (by decide +kernel : rmaxl 201 ≤ 41), by decide +kernel, (Or.inl ⟨rfl, rfl⟩), (fun h => absurd (show rinit 201 = true from h) (by decide +kernel))⟩
set_option maxRecDepth 100000 in
theorem pm202 (kn : List rM) : rpoM (rpar kn) rE0 202 0 := ⟨tw1 (List.mem_of_getElem? (i := 8) rfl) rfl, tw11 (List.mem_of_getElem? (i := 50) rfl) rfl, ⟨by decide +kernel, by decide +kernel, by decide +kernel⟩, (by decide +kernel : rmaxl 202 ≤ 41), by decide +kernel, (Or.inl ⟨rfl, rfl⟩), (fun h => absurd (show rinit 202 = true from h) (by decide +kernel))⟩
set_option maxRecDepth 100000 in
theorem pm203 (kn : List rM) : rpoM (rpar kn) rE0 203 2 := ⟨tw1 (List.mem_of_getElem? (i := 8) rfl) rfl, tw11 (List.mem_of_getElem? (i := 156) rfl) rfl, ⟨by decide +kernel, by decide +kernel, by decide +kernel⟩, (by decide +kernel : rmaxl 203 ≤ 41), by decide +kernel, (Or.inr ⟨.long, rfl, rfl⟩), (fun h => absurd (show rinit 203 = true from h) (by decide +kernel))⟩
set_option maxRecDepth 100000 in
theorem pm204 (kn : List rM) : rpoM (rpar kn) rE0 204 2 := ⟨tw1 (List.mem_of_getElem? (i := 8) rfl) rfl, tw11 (List.mem_of_getElem? (i := 153) rfl) rfl, ⟨by decide +kernel, by decide +kernel, by decide +kernel⟩, (by decide +kernel : rmaxl 204 ≤ 41), by decide +kernel, (Or.inr ⟨.long, rfl, rfl⟩), (fun h => absurd (show rinit 204 = true from h) (by decide +kernel))⟩
set_option maxRecDepth 100000 in
theorem pm205 (kn : List rM) : rpoM (rpar kn) rE0 205 3 := ⟨tw1 (List.mem_of_getElem? (i := 8) rfl) rfl, tw11 (List.mem_of_getElem? (i := 142) rfl) rfl, ⟨by decide +kernel, by decide +kernel, by decide +kernel⟩, (by decide +kernel : rmaxl 205 ≤ 41), by decide +kernel, (Or.inr ⟨.long, rfl, rfl⟩), (fun h => absurd (show rinit 205 = true from h) (by decide +kernel))⟩
set_option maxRecDepth 100000 in
theorem pm206 (kn : List rM) : rpoM (rpar kn) rE0 206 1 := ⟨tw1 (List.mem_of_getElem? (i := 8) rfl) rfl, tw11 (List.mem_of_getElem? (i := 112) rfl) rfl, ⟨by decide +kernel, by decide +kernel, by decide +kernel⟩, (by decide +kernel : rmaxl 206 ≤ 41), by decide +kernel, (Or.inl ⟨rfl, rfl⟩), (fun h => absurd (show rinit 206 = true from h) (by decide +kernel))⟩
set_option maxRecDepth 100000 in
theorem pm207 (kn : List rM) : rpoM (rpar kn) rE0 207 1 := ⟨tw1 (List.mem_of_getElem? (i := 8) rfl) rfl, tw11 (List.mem_of_getElem? (i := 116) rfl) rfl, ⟨by decide +kernel, by decide +kernel, by decide +kernel⟩, (by decide +kernel : rmaxl 207 ≤ 41), by decide +kernel, (Or.inl ⟨rfl, rfl⟩), (fun h => absurd (show rinit 207 = true from h) (by decide +kernel))⟩
set_option maxRecDepth 100000 in
theorem pm208 (kn : List rM) : rpoM (rpar kn) rE0 208 4 := ⟨tw1 (List.mem_of_getElem? (i := 8) rfl) rfl, tw11 (List.mem_of_getElem? (i := 108) rfl) rfl, ⟨by decide +kernel, by decide +kernel, by decide +kernel⟩, (by decide +kernel : rmaxl 208 ≤ 41), by decide +kernel, (Or.inl ⟨rfl, rfl⟩), (fun h => absurd (show rinit 208 = true from h) (by decide +kernel))⟩
set_option maxRecDepth 100000 in
theorem pm209 (kn : List rM) : rpoM (rpar kn) rE0 209 2 := ⟨tw1 (List.mem_of_getElem? (i := 8) rfl) rfl, tw11 (List.mem_of_getElem? (i := 91) rfl) rfl, ⟨by decide +kernel, by decide +kernel, by decide +kernel⟩, (by decide +kernel : rmaxl 209 ≤ 41), by decide +kernel, (Or.inl ⟨rfl, rfl⟩), (fun h => absurd (show rinit 209 = true from h) (by decide +kernel))⟩
set_option maxRecDepth 100000 in
theorem pm210 (kn : List rM) : rpoM (rpar kn) rE0 210 0 := ⟨tw1 (List.mem_of_getElem? (i := 8) rfl) rfl, tw11 (List.mem_of_getElem? (i := 83) rfl) rfl, ⟨by decide +kernel, by decide +kernel, by decide +kernel⟩, (by decide +kernel : rmaxl 210 ≤ 41), by decide +kernel, (Or.inl ⟨rfl, rfl⟩), (fun h => absurd (show rinit 210 = true from h) (by decide +kernel))⟩
set_option maxRecDepth 100000 in
theorem pm211 (kn : List rM) : rpoM (rpar kn) rE0 211 2 := ⟨tw1 (List.mem_of_getElem? (i := 8) rfl) rfl, tw11 (List.mem_of_getElem? (i := 87) rfl) rfl, ⟨by decide +kernel, by decide +kernel, by decide +kernel⟩, (by decide +kernel : rmaxl 211 ≤ 41), by decide +kernel, (Or.inl ⟨rfl, rfl⟩), (fun h => absurd (show rinit 211 = true from h) (by decide +kernel))⟩
set_option maxRecDepth 100000 in
theorem pm212 (kn : List rM) : rpoM (rpar kn) rE0 212 2 := ⟨tw1 (List.mem_of_getElem? (i := 8) rfl) rfl, tw11 (List.mem_of_getElem? (i := 120) rfl) rfl, ⟨by decide +kernel, by decide +kernel, by decide +kernel⟩, (by decide +kernel : rmaxl 212 ≤ 41), by decide +kernel, (Or.inr ⟨.int, rfl, rfl⟩), (fun h => absurd (show rinit 212 = true from h) (by decide +kernel))⟩
set_option maxRecDepth 100000 in
theorem pm213 (kn : List rM) : rpoM (rpar kn) rE0 213 1 := ⟨tw1 (List.mem_of_getElem? (i := 8) rfl) rfl, tw11 (List.mem_of_getElem? (i := 79) rfl) rfl, ⟨by decide +kernel, by decide +kernel, by decide +kernel⟩, (by decide +kernel : rmaxl 213 ≤ 41), by decide +kernel, (Or.inr ⟨.int, rfl, rfl⟩), (fun h => absurd (show rinit 213 = true from h) (by decide +kernel))⟩
set_option maxRecDepth 100000 in
theorem pm214 (kn : List rM) : rpoM (rpar kn) rE0 214 2 := ⟨tw1 (List.mem_of_getElem? (i := 8) rfl) rfl, tw13 (List.mem_of_getElem? (i := 55) rfl) rfl, ⟨by decide +kernel, by decide +kernel, by decide +kernel⟩, (by decide +kernel : rmaxl 214 ≤ 41), by decide +kernel, (Or.inr ⟨.boolean, rfl, rfl⟩), (fun h => absurd (show rinit 214 = true from h) (by decide +kernel))⟩
set_option maxRecDepth 100000 in
theorem pm215 (kn : List rM) : rpoM (rpar kn) rE0 215 3 := ⟨tw1 (List.mem_of_getElem? (i := 8) rfl) rfl, tw13 (List.mem_of_getElem? (i := 51) rfl) rfl, ⟨by decide +kernel, by decide +kernel, by decide +kernel⟩, (by decide +kernel : rmaxl 215 ≤ 41), by decide +kernel, (Or.inr ⟨.int, rfl, rfl⟩), (fun h => absurd (show rinit 215 = true from h) (by decide +kernel))⟩
set_option maxRecDepth 100000 in
theorem pm216 (kn : List rM) : rpoM (rpar kn) rE0 216 0 := ⟨tw1 (List.mem_of_getElem? (i := 8) rfl) rfl, tw13 (List.mem_of_getElem? (i := 47) rfl) rfl, ⟨by decide +kernel, by decide +kernel, by decide +kernel⟩, (by decide +kernel : rmaxl 216 ≤ 41), by decide +kernel, (Or.inl ⟨rfl, rfl⟩), (fun h => absurd (show rinit 216 = true from h) (by decide +kernel))⟩
set_option maxRecDepth 100000 in
theorem pm217 (kn : List rM) : rpoM (rpar kn) rE0 217 1 := ⟨tw1 (List.mem_of_getElem? (i := 8) rfl) rfl, tw13 (List.mem_of_getElem? (i := 43) rfl) rfl, ⟨by decide +kernel, by decide +kernel, by decide +kernel⟩, (by decide +kernel : rmaxl 217 ≤ 41), by decide +kernel, (Or.inr ⟨.int, rfl, rfl⟩), (fun h => absurd (show rinit 217 = true from h) (by decide +kernel))⟩
set_option maxRecDepth 100000 in
theorem pm218 (kn : List rM) : rpoM (rpar kn) rE0 218 1 := ⟨tw1 (List.mem_of_getElem? (i := 8) rfl) rfl, tw11 (List.mem_of_getElem? (i := 127) rfl) rfl, ⟨by decide +kernel, by decide +kernel, by decide +kernel⟩, (by decide +kernel : rmaxl 218 ≤ 41), by decide +kernel, (Or.inr ⟨.boolean, rfl, rfl⟩), (fun h => absurd (show rinit 218 = true from h) (by decide +kernel))⟩
set_option maxRecDepth 100000 in
theorem pm219 (kn : List rM) : rpoM (rpar kn) rE0 219 1 := ⟨tw1 (List.mem_of_getElem? (i := 8) rfl) rfl, tw11 (List.mem_of_getElem? (i := 137) rfl) rfl, ⟨by decide +kernel, by decide +kernel, by decide +kernel⟩, (by decide +kernel : rmaxl 219 ≤ 41), by decide +kernel, (Or.inl ⟨rfl, rfl⟩), (fun h => absurd (show rinit 219 = true from h) (by decide +kernel))⟩
set_option maxRecDepth 100000 in
theorem pm220 (kn : List rM) : rpoM (rpar kn) rE0 220 2 := ⟨tw1 (List.mem_of_getElem? (i := 8) rfl) rfl, tw11 (List.mem_of_getElem? (i := 132) rfl) rfl, ⟨by decide +kernel, by decide +kernel, by decide +kernel⟩, (by decide +kernel : rmaxl 220 ≤ 41), by decide +kernel, (Or.inl ⟨rfl, rfl⟩), (fun h => absurd (show rinit 220 = true from h) (by decide +kernel))⟩
set_option maxRecDepth 100000 in
theorem pm221 (kn : List rM) : rpoM (rpar kn) rE0 221 5 := ⟨tw1 (List.mem_of_getElem? (i := 8) rfl) rfl, tw11 (List.mem_of_getElem? (i := 124) rfl) rfl, ⟨by decide +kernel, by decide +kernel, by decide +kernel⟩, (by decide +kernel : rmaxl 221 ≤ 41), by decide +kernel, (Or.inr ⟨.int, rfl, rfl⟩), (fun h => absurd (show rinit 221 = true from h) (by decide +kernel))⟩
set_option maxRecDepth 100000 in
theorem pm222 (kn : List rM) : rpoM (rpar kn) rE0 222 1 := ⟨tw1 (List.mem_of_getElem? (i := 8) rfl) rfl, tw13 (List.mem_of_getElem? (i := 67) rfl) rfl, ⟨by decide +kernel, by decide +kernel, by decide +kernel⟩, (by decide +kernel : rmaxl 222 ≤ 41), by decide +kernel, (Or.inr ⟨.boolean, rfl, rfl⟩), (fun h => absurd (show rinit 222 = true from h) (by decide +kernel))⟩
set_option maxRecDepth 100000 in
theorem pm223 (kn : List rM) : rpoM (rpar kn) rE0 223 2 := ⟨tw1 (List.mem_of_getElem? (i := 8) rfl) rfl, tw13 (List.mem_of_getElem? (i := 75) rfl) rfl, ⟨by decide +kernel, by decide +kernel, by decide +kernel⟩, (by decide +kernel : rmaxl 223 ≤ 41), by decide +kernel, (Or.inr ⟨.long, rfl, rfl⟩), (fun h => absurd (show rinit 223 = true from h) (by decide +kernel))⟩
set_option maxRecDepth 100000 in
theorem pm224 (kn : List rM) : rpoM (rpar kn) rE0 224 1 := ⟨tw1 (List.mem_of_getElem? (i := 8) rfl) rfl, tw13 (List.mem_of_getElem? (i := 63) rfl) rfl, ⟨by decide +kernel, by decide +kernel, by decide +kernel⟩, (by decide +kernel : rmaxl 224 ≤ 41), by decide +kernel, (Or.inr ⟨.int, rfl, rfl⟩), (fun h => absurd (show rinit 224 = true from h) (by decide +kernel))⟩
set_option maxRecDepth 100000 in
theorem pm225 (kn : List rM) : rpoM (rpar kn) rE0 225 1 := ⟨tw1 (List.mem_of_getElem? (i := 8) rfl) rfl, tw13 (List.mem_of_getElem? (i := 81) rfl) rfl, ⟨by decide +kernel, by decide +kernel, by decide +kernel⟩, (by decide +kernel : rmaxl 225 ≤ 41), by decide +kernel, (Or.inr ⟨.int, rfl, rfl⟩), (fun h => absurd (show rinit 225 = true from h) (by decide +kernel))⟩
set_option maxRecDepth 100000 in
theorem pm226 (kn : List rM) : rpoM (rpar kn) rE0 226 1 := ⟨tw1 (List.mem_of_getElem? (i := 8) rfl) rfl, tw13 (List.mem_of_getElem? (i := 59) rfl) rfl, ⟨by decide +kernel, by decide +kernel, by decide +kernel⟩, (by decide +kernel : rmaxl 226 ≤ 41), by decide +kernel, (Or.inr ⟨.int, rfl, rfl⟩), (fun h => absurd (show rinit 226 = true from h) (by decide +kernel))⟩
set_option maxRecDepth 100000 in
theorem pm227 (kn : List rM) : rpoM (rpar kn) rE0 227 1 := ⟨tw1 (List.mem_of_getElem? (i := 11) rfl) rfl, tw9 (List.mem_of_getElem? (i := 81) rfl) rfl, ⟨by decide +kernel, by decide +kernel, by decide +kernel⟩, (by decide +kernel : rmaxl 227 ≤ 41), by decide +kernel, (Or.inl ⟨rfl, rfl⟩), (fun _ => rfl)⟩
set_option maxRecDepth 100000 in
theorem pm228 (kn : List rM) : rpoM (rpar kn) rE0 228 2 := ⟨tw1 (List.mem_of_getElem? (i := 11) rfl) rfl, tw11 (List.mem_of_getElem? (i := 71) rfl) rfl, ⟨by decide +kernel, by decide +kernel, by decide +kernel⟩, (by decide +kernel : rmaxl 228 ≤ 41), by decide +kernel, (Or.inl ⟨rfl, rfl⟩), (fun h => absurd (show rinit 228 = true from h) (by decide +kernel))⟩
set_option maxRecDepth 100000 in
theorem pm229 (kn : List rM) : rpoM (rpar kn) rE0 229 1 := ⟨tw1 (List.mem_of_getElem? (i := 11) rfl) rfl, tw11 (List.mem_of_getElem? (i := 42) rfl) rfl, ⟨by decide +kernel, by decide +kernel, by decide +kernel⟩, (by decide +kernel : rmaxl 229 ≤ 41), by decide +kernel, (Or.inl ⟨rfl, rfl⟩), (fun h => absurd (show rinit 229 = true from h) (by decide +kernel))⟩
set_option maxRecDepth 100000 in
theorem pm230 (kn : List rM) : rpoM (rpar kn) rE0 230 1 := ⟨tw1 (List.mem_of_getElem? (i := 11) rfl) rfl, tw12 (List.mem_of_getElem? (i := 11) rfl) rfl, ⟨by decide +kernel, by decide +kernel, by decide +kernel⟩, (by decide +kernel : rmaxl 230 ≤ 41), by decide +kernel, (Or.inl ⟨rfl, rfl⟩), (fun h => absurd (show rinit 230 = true from h) (by decide +kernel))⟩
set_option maxRecDepth 100000 in
theorem pm231 (kn : List rM) : rpoM (rpar kn) rE0 231 2 := ⟨tw1 (List.mem_of_getElem? (i := 11) rfl) rfl, tw12 (List.mem_of_getElem? (i := 6) rfl) rfl, ⟨by decide +kernel, by decide +kernel, by decide +kernel⟩, (by decide +kernel : rmaxl 231 ≤ 41), by decide +kernel, (Or.inl ⟨rfl, rfl⟩), (fun h => absurd (show rinit 231 = true from h) (by decide +kernel))⟩
set_option maxRecDepth 100000 in
theorem pm232 (kn : List rM) : rpoM (rpar kn) rE0 232 0 := ⟨tw1 (List.mem_of_getElem? (i := 11) rfl) rfl, tw13 (List.mem_of_getElem? (i := 20) rfl) rfl, ⟨by decide +kernel, by decide +kernel, by decide +kernel⟩, (by decide +kernel : rmaxl 232 ≤ 41), by decide +kernel, (Or.inr ⟨.int, rfl, rfl⟩), (fun h => absurd (show rinit 232 = true from h) (by decide +kernel))⟩
set_option maxRecDepth 100000 in
theorem pm233 (kn : List rM) : rpoM (rpar kn) rE0 233 1 := ⟨tw1 (List.mem_of_getElem? (i := 11) rfl) rfl, tw12 (List.mem_of_getElem? (i := 32) rfl) rfl, ⟨by decide +kernel, by decide +kernel, by decide +kernel⟩, (by decide +kernel : rmaxl 233 ≤ 41), by decide +kernel, (Or.inl ⟨rfl, rfl⟩), (fun h => absurd (show rinit 233 = true from h) (by decide +kernel))⟩
set_option maxRecDepth 100000 in
theorem pm234 (kn : List rM) : rpoM (rpar kn) rE0 234 0 := ⟨tw1 (List.mem_of_getElem? (i := 11) rfl) rfl, tw12 (List.mem_of_getElem? (i := 166) rfl) rfl, ⟨by decide +kernel, by decide +kernel, by decide +kernel⟩, (by decide +kernel : rmaxl 234 ≤ 41), by decide +kernel, (Or.inl ⟨rfl, rfl⟩), (fun h => absurd (show rinit 234 = true from h) (by decide +kernel))⟩
set_option maxRecDepth 100000 in
theorem pm235 (kn : List rM) : rpoM (rpar kn) rE0 235 0 := ⟨tw1 (List.mem_of_getElem? (i := 11) rfl) rfl, tw12 (List.mem_of_getElem? (i := 53) rfl) rfl, ⟨by decide +kernel, by decide +kernel, by decide +kernel⟩, (by decide +kernel : rmaxl 235 ≤ 41), by decide +kernel, (Or.inr ⟨.boolean, rfl, rfl⟩), (fun h => absurd (show rinit 235 = true from h) (by decide +kernel))⟩
set_option maxRecDepth 100000 in
theorem pm236 (kn : List rM) : rpoM (rpar kn) rE0 236 0 := ⟨tw1 (List.mem_of_getElem? (i := 11) rfl) rfl, tw12 (List.mem_of_getElem? (i := 57) rfl) rfl, ⟨by decide +kernel, by decide +kernel, by decide +kernel⟩, (by decide +kernel : rmaxl 236 ≤ 41), by decide +kernel, (Or.inr ⟨.boolean, rfl, rfl⟩), (fun h => absurd (show rinit 236 = true from h) (by decide +kernel))⟩
set_option maxRecDepth 100000 in
theorem pm237 (kn : List rM) : rpoM (rpar kn) rE0 237 0 := ⟨tw1 (List.mem_of_getElem? (i := 11) rfl) rfl, tw12 (List.mem_of_getElem? (i := 49) rfl) rfl, ⟨by decide +kernel, by decide +kernel, by decide +kernel⟩, (by decide +kernel : rmaxl 237 ≤ 41), by decide +kernel, (Or.inr ⟨.int, rfl, rfl⟩), (fun h => absurd (show rinit 237 = true from h) (by decide +kernel))⟩
set_option maxRecDepth 100000 in
theorem pm238 (kn : List rM) : rpoM (rpar kn) rE0 238 0 := ⟨tw1 (List.mem_of_getElem? (i := 11) rfl) rfl, tw12 (List.mem_of_getElem? (i := 184) rfl) rfl, ⟨by decide +kernel, by decide +kernel, by decide +kernel⟩, (by decide +kernel : rmaxl 238 ≤ 41), by decide +kernel, (Or.inl ⟨rfl, rfl⟩), (fun h => absurd (show rinit 238 = true from h) (by decide +kernel))⟩
set_option maxRecDepth 100000 in
theorem pm239 (kn : List rM) : rpoM (rpar kn) rE0 239 0 := ⟨tw1 (List.mem_of_getElem? (i := 11) rfl) rfl, tw12 (List.mem_of_getElem? (i := 28) rfl) rfl, ⟨by decide +kernel, by decide +kernel, by decide +kernel⟩, (by decide +kernel : rmaxl 239 ≤ 41), by decide +kernel, (Or.inl ⟨rfl, rfl⟩), (fun h => absurd (show rinit 239 = true from h) (by decide +kernel))⟩
set_option maxRecDepth 100000 in
theorem pm240 (kn : List rM) : rpoM (rpar kn) rE0 240 0 := ⟨tw1 (List.mem_of_getElem? (i := 11) rfl) rfl, tw13 (List.mem_of_getElem? (i := 0) rfl) rfl, ⟨by decide +kernel, by decide +kernel, by decide +kernel⟩, (by decide +kernel : rmaxl 240 ≤ 41), by decide +kernel, (Or.inl ⟨rfl, rfl⟩), (fun h => absurd (show rinit 240 = true from h) (by decide +kernel))⟩
set_option maxRecDepth 100000 in
theorem pm241 (kn : List rM) : rpoM (rpar kn) rE0 241 0 := ⟨tw1 (List.mem_of_getElem? (i := 11) rfl) rfl, tw12 (List.mem_of_getElem? (i := 16) rfl) rfl, ⟨by decide +kernel, by decide +kernel, by decide +kernel⟩, (by decide +kernel : rmaxl 241 ≤ 41), by decide +kernel, (Or.inl ⟨rfl, rfl⟩), (fun h => absurd (show rinit 241 = true from h) (by decide +kernel))⟩
set_option maxRecDepth 100000 in
theorem pm242 (kn : List rM) : rpoM (rpar kn) rE0 242 4 := ⟨tw1 (List.mem_of_getElem? (i := 11) rfl) rfl, tw12 (List.mem_of_getElem? (i := 24) rfl) rfl, ⟨by decide +kernel, by decide +kernel, by decide +kernel⟩, (by decide +kernel : rmaxl 242 ≤ 41), by decide +kernel, (Or.inl ⟨rfl, rfl⟩), (fun h => absurd (show rinit 242 = true from h) (by decide +kernel))⟩
set_option maxRecDepth 100000 in
theorem pm243 (kn : List rM) : rpoM (rpar kn) rE0 243 3 := ⟨tw1 (List.mem_of_getElem? (i := 11) rfl) rfl, tw12 (List.mem_of_getElem? (i := 20) rfl) rfl, ⟨by decide +kernel, by decide +kernel, by decide +kernel⟩, (by decide +kernel : rmaxl 243 ≤ 41), by decide +kernel, (Or.inl ⟨rfl, rfl⟩), (fun h => absurd (show rinit 243 = true from h) (by decide +kernel))⟩
set_option maxRecDepth 100000 in
theorem pm244 (kn : List rM) : rpoM (rpar kn) rE0 244 3 := ⟨tw1 (List.mem_of_getElem? (i := 11) rfl) rfl, tw11 (List.mem_of_getElem? (i := 238) rfl) rfl, ⟨by decide +kernel, by decide +kernel, by decide +kernel⟩, (by decide +kernel : rmaxl 244 ≤ 41), by decide +kernel, (Or.inr ⟨.int, rfl, rfl⟩), (fun h => absurd (show rinit 244 = true from h) (by decide +kernel))⟩
set_option maxRecDepth 100000 in
theorem pm245 (kn : List rM) : rpoM (rpar kn) rE0 245 0 := ⟨tw1 (List.mem_of_getElem? (i := 11) rfl) rfl, tw13 (List.mem_of_getElem? (i := 4) rfl) rfl, ⟨by decide +kernel, by decide +kernel, by decide +kernel⟩, (by decide +kernel : rmaxl 245 ≤ 41), by decide +kernel, (Or.inr ⟨.long, rfl, rfl⟩), (fun h => absurd (show rinit 245 = true from h) (by decide +kernel))⟩
set_option maxRecDepth 100000 in
theorem pm246 (kn : List rM) : rpoM (rpar kn) rE0 246 1 := ⟨tw1 (List.mem_of_getElem? (i := 11) rfl) rfl, tw13 (List.mem_of_getElem? (i := 24) rfl) rfl, ⟨by decide +kernel, by decide +kernel, by decide +kernel⟩, (by decide +kernel : rmaxl 246 ≤ 41), by decide +kernel, (Or.inr ⟨.int, rfl, rfl⟩), (fun h => absurd (show rinit 246 = true from h) (by decide +kernel))⟩
set_option maxRecDepth 100000 in
theorem pm248 (kn : List rM) : rpoM (rpar kn) rE0 248 2 := ⟨tw1 (List.mem_of_getElem? (i := 13) rfl) rfl, tw1 (List.mem_of_getElem? (i := 214) rfl) rfl, ⟨by decide +kernel, by decide +kernel, by decide +kernel⟩, (by decide +kernel : rmaxl 248 ≤ 41), by decide +kernel, (Or.inr ⟨(.array .byte), rfl, rfl⟩), (fun h => absurd (show rinit 248 = true from h) (by decide +kernel))⟩
set_option maxRecDepth 100000 in
theorem pe0_1_26 (kn : List rM) {m : Nat} (h : (rE0.1 m).cls = "PackHouse") : rpo (rpar kn) rE0 m 1 (26, 0, 0, .null) := po26 h (tw1 (List.mem_of_getElem? (i := 28) rfl) rfl)
set_option maxRecDepth 100000 in
theorem pe0_7_12 (kn : List rM) {m : Nat} (h : (rE0.1 m).cls = "PackHouse") : rpo (rpar kn) rE0 m 7 (12, 7, 5, .null) := po12 (T := FT7) h rfl (tw1 (List.mem_of_getElem? (i := 31) rfl) rfl) (tw1 (List.mem_of_getElem? (i := 33) rfl) rfl) (tw1 (List.mem_of_getElem? (i := 2) rfl) rfl)
set_option maxRecDepth 100000 in
theorem pe0_7_13 (kn : List rM) {m : Nat} (h : (rE0.1 m).cls = "PackHouse") : rpo (rpar kn) rE0 m 7 (13, 4, 0, .null) := po13 h rfl (tw1 (List.mem_of_getElem? (i := 31) rfl) rfl) (tn1 (List.mem_of_getElem? (i := 32) rfl) rfl)
set_option maxRecDepth 100000 in
theorem pe0_9_23 (kn : List rM) {m : Nat} (h : (rE0.1 m).cls = "PackHouse") : rpo (rpar kn) rE0 m 9 (23, 104, 0, .ref 7) := po23 h (pm104 kn) (tn1 (List.mem_of_getElem? (i := 34) rfl) rfl) (tw1 (List.mem_of_getElem? (i := 35) rfl) rfl) rfl rfl
set_option maxRecDepth 100000 in
theorem pe0_10_0 (kn : List rM) {m : Nat} (h : (rE0.1 m).cls = "PackHouse") : rpo (rpar kn) rE0 m 10 (0, 0, 0, .ref 11) := po0 (C := "PackHouse") (T := FT0) (N := 19) (ty := fy0 0) h rfl (by decide) rfl (tw1 (List.mem_of_getElem? (i := 136) rfl) rfl) (fp0 0 (by decide)) rfl (fun a => absurd a (by decide)) (fun _ _ => ⟨rfl, rfl⟩)
set_option maxRecDepth 100000 in
theorem pe0_16_10 (kn : List rM) {m : Nat} (h : (rE0.1 m).cls = "PackHouse") : rpo (rpar kn) rE0 m 16 (10, 0, 0, .int (65536)) := po10 h (tw1 (List.mem_of_getElem? (i := 74) rfl) rfl)
set_option maxRecDepth 100000 in
theorem pe0_17_0 (kn : List rM) {m : Nat} (h : (rE0.1 m).cls = "PackHouse") : rpo (rpar kn) rE0 m 17 (0, 0, 1, .ref 11) := po0 (C := "PackHouse") (T := FT0) (N := 19) (ty := fy0 1) h rfl (by decide) rfl (tw1 (List.mem_of_getElem? (i := 137) rfl) rfl) (fp0 1 (by decide)) rfl (fun a => absurd a (by decide)) (fun _ _ => ⟨rfl, rfl⟩)
set_option maxRecDepth 100000 in
theorem pe0_21_0 (kn : List rM) {m : Nat} (h : (rE0.1 m).cls = "PackHouse") : rpo (rpar kn) rE0 m 21 (0, 0, 2, .ref 11) := po0 (C := "PackHouse") (T := FT0) (N := 19) (ty := fy0 2) h rfl (by decide) rfl (tw1 (List.mem_of_getElem? (i := 138) rfl) rfl) (fp0 2 (by decide)) rfl (fun a => absurd a (by decide)) (fun _ _ => ⟨rfl, rfl⟩)
set_option maxRecDepth 100000 in
theorem pe0_25_12 (kn : List rM) {m : Nat} (h : (rE0.1 m).cls = "PackHouse") : rpo (rpar kn) rE0 m 25 (12, 4, 5, .null) := po12 (T := FT4) h rfl (tw1 (List.mem_of_getElem? (i := 75) rfl) rfl) (tw1 (List.mem_of_getElem? (i := 76) rfl) rfl) (tw1 (List.mem_of_getElem? (i := 3) rfl) rfl)
set_option maxRecDepth 100000 in
theorem pe0_27_23 (kn : List rM) {m : Nat} (h : (rE0.1 m).cls = "PackHouse") : rpo (rpar kn) rE0 m 27 (23, 89, 0, .ref 4) := po23 h (pm89 kn) (tn1 (List.mem_of_getElem? (i := 77) rfl) rfl) (tw1 (List.mem_of_getElem? (i := 78) rfl) rfl) rfl rfl
set_option maxRecDepth 100000 in
theorem pe0_28_0 (kn : List rM) {m : Nat} (h : (rE0.1 m).cls = "PackHouse") : rpo (rpar kn) rE0 m 28 (0, 0, 3, .ref 3) := po0 (C := "PackHouse") (T := FT0) (N := 19) (ty := fy0 3) h rfl (by decide) rfl (tw1 (List.mem_of_getElem? (i := 139) rfl) rfl) (fp0 3 (by decide)) rfl (fun _ => rfl) (fun a _ => absurd a (by decide))
set_option maxRecDepth 100000 in
theorem pe0_32_0 (kn : List rM) {m : Nat} (h : (rE0.1 m).cls = "PackHouse") : rpo (rpar kn) rE0 m 32 (0, 0, 4, .ref 3) := po0 (C := "PackHouse") (T := FT0) (N := 19) (ty := fy0 4) h rfl (by decide) rfl (tw1 (List.mem_of_getElem? (i := 140) rfl) rfl) (fp0 4 (by decide)) rfl (fun _ => rfl) (fun a _ => absurd a (by decide))
set_option maxRecDepth 100000 in
theorem pe0_35_0 (kn : List rM) {m : Nat} (h : (rE0.1 m).cls = "PackHouse") : rpo (rpar kn) rE0 m 35 (0, 0, 5, .ref 11) := po0 (C := "PackHouse") (T := FT0) (N := 19) (ty := fy0 5) h rfl (by decide) rfl (tw1 (List.mem_of_getElem? (i := 141) rfl) rfl) (fp0 5 (by decide)) rfl (fun a => absurd a (by decide)) (fun _ _ => ⟨rfl, rfl⟩)
set_option maxRecDepth 100000 in
theorem pe0_38_0 (kn : List rM) {m : Nat} (h : (rE0.1 m).cls = "PackHouse") : rpo (rpar kn) rE0 m 38 (0, 0, 6, .ref 11) := po0 (C := "PackHouse") (T := FT0) (N := 19) (ty := fy0 6) h rfl (by decide) rfl (tw1 (List.mem_of_getElem? (i := 142) rfl) rfl) (fp0 6 (by decide)) rfl (fun a => absurd a (by decide)) (fun _ _ => ⟨rfl, rfl⟩)
set_option maxRecDepth 100000 in
theorem pe0_41_0 (kn : List rM) {m : Nat} (h : (rE0.1 m).cls = "PackHouse") : rpo (rpar kn) rE0 m 41 (0, 0, 13, .ref 11) := po0 (C := "PackHouse") (T := FT0) (N := 19) (ty := fy0 13) h rfl (by decide) rfl (tw1 (List.mem_of_getElem? (i := 149) rfl) rfl) (fp0 13 (by decide)) rfl (fun a => absurd a (by decide)) (fun _ _ => ⟨rfl, rfl⟩)
set_option maxRecDepth 100000 in
theorem pe0_44_0 (kn : List rM) {m : Nat} (h : (rE0.1 m).cls = "PackHouse") : rpo (rpar kn) rE0 m 44 (0, 0, 14, .ref 11) := po0 (C := "PackHouse") (T := FT0) (N := 19) (ty := fy0 14) h rfl (by decide) rfl (tw1 (List.mem_of_getElem? (i := 150) rfl) rfl) (fp0 14 (by decide)) rfl (fun a => absurd a (by decide)) (fun _ _ => ⟨rfl, rfl⟩)
set_option maxRecDepth 100000 in
theorem pe0_47_0 (kn : List rM) {m : Nat} (h : (rE0.1 m).cls = "PackHouse") : rpo (rpar kn) rE0 m 47 (0, 0, 15, .ref 11) := po0 (C := "PackHouse") (T := FT0) (N := 19) (ty := fy0 15) h rfl (by decide) rfl (tw1 (List.mem_of_getElem? (i := 151) rfl) rfl) (fp0 15 (by decide)) rfl (fun a => absurd a (by decide)) (fun _ _ => ⟨rfl, rfl⟩)
set_option maxRecDepth 100000 in
theorem pe0_50_0 (kn : List rM) {m : Nat} (h : (rE0.1 m).cls = "PackHouse") : rpo (rpar kn) rE0 m 50 (0, 0, 16, .ref 11) := po0 (C := "PackHouse") (T := FT0) (N := 19) (ty := fy0 16) h rfl (by decide) rfl (tw1 (List.mem_of_getElem? (i := 152) rfl) rfl) (fp0 16 (by decide)) rfl (fun a => absurd a (by decide)) (fun _ _ => ⟨rfl, rfl⟩)
set_option maxRecDepth 100000 in
theorem pe0_53_24 (kn : List rM) {m : Nat} (h : (rE0.1 m).cls = "PackHouse") : rpo (rpar kn) rE0 m 53 (24, 24, 1, .null) := po24 h (pm24 kn) (tw1 (List.mem_of_getElem? (i := 198) rfl) rfl) (tw1 (List.mem_of_getElem? (i := 199) rfl) rfl)
set_option maxRecDepth 100000 in
theorem pe0_57_20 (kn : List rM) {m : Nat} (h : (rE0.1 m).cls = "PackHouse") : rpo (rpar kn) rE0 m 57 (20, 106, 1, .ref 7) := po20 h (pm106 kn) (tw1 (List.mem_of_getElem? (i := 201) rfl) rfl) (tw1 (List.mem_of_getElem? (i := 202) rfl) rfl) (tw1 (List.mem_of_getElem? (i := 203) rfl) rfl) rfl rfl
set_option maxRecDepth 100000 in
theorem pe0_60_11 (kn : List rM) {m : Nat} (h : (rE0.1 m).cls = "PackHouse") : rpo (rpar kn) rE0 m 60 (11, 0, 0, .long (4294967295)) := po11 h (tw1 (List.mem_of_getElem? (i := 226) rfl) rfl)
set_option maxRecDepth 100000 in
theorem pe0_62_24 (kn : List rM) {m : Nat} (h : (rE0.1 m).cls = "PackHouse") : rpo (rpar kn) rE0 m 62 (24, 28, 3, .null) := po24 h (pm28 kn) (tw1 (List.mem_of_getElem? (i := 227) rfl) rfl) (tw1 (List.mem_of_getElem? (i := 228) rfl) rfl)
set_option maxRecDepth 100000 in
theorem pe0_66_0 (kn : List rM) {m : Nat} (h : (rE0.1 m).cls = "PackHouse") : rpo (rpar kn) rE0 m 66 (0, 7, 1, .ref 0) := po0 (C := "PackHouse$Row") (T := FT7) (N := 5) (ty := fy7 1) h rfl (by decide) rfl (tw1 (List.mem_of_getElem? (i := 53) rfl) rfl) (fp7 1 (by decide)) rfl (fun _ => rfl) (fun a _ => absurd a (by decide))
set_option maxRecDepth 100000 in
theorem pe0_74_24 (kn : List rM) {m : Nat} (h : (rE0.1 m).cls = "PackHouse") : rpo (rpar kn) rE0 m 74 (24, 27, 3, .null) := po24 h (pm27 kn) (tw2 (List.mem_of_getElem? (i := 15) rfl) rfl) (tw2 (List.mem_of_getElem? (i := 16) rfl) rfl)
set_option maxRecDepth 100000 in
theorem pe0_78_0 (kn : List rM) {m : Nat} (h : (rE0.1 m).cls = "PackHouse") : rpo (rpar kn) rE0 m 78 (0, 7, 0, .ref 3) := po0 (C := "PackHouse$Row") (T := FT7) (N := 5) (ty := fy7 0) h rfl (by decide) rfl (tw1 (List.mem_of_getElem? (i := 45) rfl) rfl) (fp7 0 (by decide)) rfl (fun _ => rfl) (fun a _ => absurd a (by decide))
set_option maxRecDepth 100000 in
theorem pe0_82_20 (kn : List rM) {m : Nat} (h : (rE0.1 m).cls = "PackHouse") : rpo (rpar kn) rE0 m 82 (20, 110, 3, .ref 7) := po20 h (pm110 kn) (tw2 (List.mem_of_getElem? (i := 18) rfl) rfl) (tw2 (List.mem_of_getElem? (i := 19) rfl) rfl) (tw2 (List.mem_of_getElem? (i := 20) rfl) rfl) rfl rfl
set_option maxRecDepth 100000 in
theorem pe0_86_24 (kn : List rM) {m : Nat} (h : (rE0.1 m).cls = "PackHouse") : rpo (rpar kn) rE0 m 86 (24, 29, 2, .null) := po24 h (pm29 kn) (tw2 (List.mem_of_getElem? (i := 35) rfl) rfl) (tw2 (List.mem_of_getElem? (i := 36) rfl) rfl)
set_option maxRecDepth 100000 in
theorem pe0_90_24 (kn : List rM) {m : Nat} (h : (rE0.1 m).cls = "PackHouse") : rpo (rpar kn) rE0 m 90 (24, 25, 1, .null) := po24 h (pm25 kn) (tw2 (List.mem_of_getElem? (i := 43) rfl) rfl) (tw2 (List.mem_of_getElem? (i := 44) rfl) rfl)
set_option maxRecDepth 100000 in
theorem pe0_93_24 (kn : List rM) {m : Nat} (h : (rE0.1 m).cls = "PackHouse") : rpo (rpar kn) rE0 m 93 (24, 26, 2, .null) := po24 h (pm26 kn) (tw2 (List.mem_of_getElem? (i := 46) rfl) rfl) (tw2 (List.mem_of_getElem? (i := 47) rfl) rfl)
set_option maxRecDepth 100000 in
theorem pe0_97_24 (kn : List rM) {m : Nat} (h : (rE0.1 m).cls = "PackHouse") : rpo (rpar kn) rE0 m 97 (24, 45, 4, .null) := po24 h (pm45 kn) (tw2 (List.mem_of_getElem? (i := 60) rfl) rfl) (tw2 (List.mem_of_getElem? (i := 61) rfl) rfl)
set_option maxRecDepth 100000 in
theorem pe0_101_24 (kn : List rM) {m : Nat} (h : (rE0.1 m).cls = "PackHouse") : rpo (rpar kn) rE0 m 101 (24, 46, 4, .null) := po24 h (pm46 kn) (tw2 (List.mem_of_getElem? (i := 81) rfl) rfl) (tw2 (List.mem_of_getElem? (i := 82) rfl) rfl)
set_option maxRecDepth 100000 in
theorem pe0_105_24 (kn : List rM) {m : Nat} (h : (rE0.1 m).cls = "PackHouse") : rpo (rpar kn) rE0 m 105 (24, 48, 3, .null) := po24 h (pm48 kn) (tw2 (List.mem_of_getElem? (i := 105) rfl) rfl) (tw2 (List.mem_of_getElem? (i := 106) rfl) rfl)
set_option maxRecDepth 100000 in
theorem pe0_109_24 (kn : List rM) {m : Nat} (h : (rE0.1 m).cls = "PackHouse") : rpo (rpar kn) rE0 m 109 (24, 49, 1, .null) := po24 h (pm49 kn) (tw2 (List.mem_of_getElem? (i := 110) rfl) rfl) (tw2 (List.mem_of_getElem? (i := 111) rfl) rfl)
set_option maxRecDepth 100000 in
theorem pe0_113_20 (kn : List rM) {m : Nat} (h : (rE0.1 m).cls = "PackHouse") : rpo (rpar kn) rE0 m 113 (20, 107, 1, .ref 7) := po20 h (pm107 kn) (tw2 (List.mem_of_getElem? (i := 118) rfl) rfl) (tw2 (List.mem_of_getElem? (i := 119) rfl) rfl) (tw2 (List.mem_of_getElem? (i := 120) rfl) rfl) rfl rfl
set_option maxRecDepth 100000 in
theorem pe0_117_20 (kn : List rM) {m : Nat} (h : (rE0.1 m).cls = "PackHouse") : rpo (rpar kn) rE0 m 117 (20, 91, 1, .ref 4) := po20 h (pm91 kn) (tw2 (List.mem_of_getElem? (i := 131) rfl) rfl) (tw2 (List.mem_of_getElem? (i := 132) rfl) rfl) (tw2 (List.mem_of_getElem? (i := 133) rfl) rfl) rfl rfl
set_option maxRecDepth 100000 in
theorem pe0_121_20 (kn : List rM) {m : Nat} (h : (rE0.1 m).cls = "PackHouse") : rpo (rpar kn) rE0 m 121 (20, 105, 0, .ref 7) := po20 h (pm105 kn) (tw3 (List.mem_of_getElem? (i := 129) rfl) rfl) (tw2 (List.mem_of_getElem? (i := 123) rfl) rfl) (tw2 (List.mem_of_getElem? (i := 124) rfl) rfl) rfl rfl
set_option maxRecDepth 100000 in
theorem pe0_124_20 (kn : List rM) {m : Nat} (h : (rE0.1 m).cls = "PackHouse") : rpo (rpar kn) rE0 m 124 (20, 90, 0, .ref 4) := po20 h (pm90 kn) (tw3 (List.mem_of_getElem? (i := 130) rfl) rfl) (tw2 (List.mem_of_getElem? (i := 136) rfl) rfl) (tw2 (List.mem_of_getElem? (i := 137) rfl) rfl) rfl rfl
set_option maxRecDepth 100000 in
theorem pe0_125_20 (kn : List rM) {m : Nat} (h : (rE0.1 m).cls = "PackHouse") : rpo (rpar kn) rE0 m 125 (20, 30, 1, .ref 0) := po20 h (pm30 kn) (tw3 (List.mem_of_getElem? (i := 135) rfl) rfl) (tw3 (List.mem_of_getElem? (i := 137) rfl) rfl) (pw1 (List.mem_of_getElem? (i := 6) rfl)) rfl rfl
set_option maxRecDepth 100000 in
theorem pe0_128_20 (kn : List rM) {m : Nat} (h : (rE0.1 m).cls = "PackHouse") : rpo (rpar kn) rE0 m 128 (20, 36, 0, .ref 0) := po20 h (pm36 kn) (tw3 (List.mem_of_getElem? (i := 139) rfl) rfl) (tw3 (List.mem_of_getElem? (i := 141) rfl) rfl) (pw1 (List.mem_of_getElem? (i := 7) rfl)) rfl rfl
set_option maxRecDepth 100000 in
theorem pe0_132_20 (kn : List rM) {m : Nat} (h : (rE0.1 m).cls = "PackHouse") : rpo (rpar kn) rE0 m 132 (20, 132, 2, .ref 11) := po20 h (pm132 kn) (tw4 (List.mem_of_getElem? (i := 41) rfl) rfl) (tw4 (List.mem_of_getElem? (i := 42) rfl) rfl) (tw4 (List.mem_of_getElem? (i := 43) rfl) rfl) rfl rfl
set_option maxRecDepth 100000 in
theorem pe0_133_12 (kn : List rM) {m : Nat} (h : (rE0.1 m).cls = "PackHouse") : rpo (rpar kn) rE0 m 133 (12, 11, 13, .null) := po12 (T := FT11) h rfl (tw3 (List.mem_of_getElem? (i := 143) rfl) rfl) (tw3 (List.mem_of_getElem? (i := 144) rfl) rfl) (tw1 (List.mem_of_getElem? (i := 15) rfl) rfl)
set_option maxRecDepth 100000 in
theorem pe0_138_20 (kn : List rM) {m : Nat} (h : (rE0.1 m).cls = "PackHouse") : rpo (rpar kn) rE0 m 138 (20, 136, 2, .ref 11) := po20 h (pm136 kn) (tw4 (List.mem_of_getElem? (i := 120) rfl) rfl) (tw4 (List.mem_of_getElem? (i := 121) rfl) rfl) (tw4 (List.mem_of_getElem? (i := 122) rfl) rfl) rfl rfl
set_option maxRecDepth 100000 in
theorem pe0_141_20 (kn : List rM) {m : Nat} (h : (rE0.1 m).cls = "PackHouse") : rpo (rpar kn) rE0 m 141 (20, 37, 0, .ref 0) := po20 h (pm37 kn) (tw4 (List.mem_of_getElem? (i := 140) rfl) rfl) (tw4 (List.mem_of_getElem? (i := 142) rfl) rfl) (pw2 (List.mem_of_getElem? (i := 3) rfl)) rfl rfl
set_option maxRecDepth 100000 in
theorem pe0_145_20 (kn : List rM) {m : Nat} (h : (rE0.1 m).cls = "PackHouse") : rpo (rpar kn) rE0 m 145 (20, 119, 2, .ref 10) := po20 h (pm119 kn) (tw4 (List.mem_of_getElem? (i := 181) rfl) rfl) (tw4 (List.mem_of_getElem? (i := 182) rfl) rfl) (tw4 (List.mem_of_getElem? (i := 183) rfl) rfl) rfl rfl
set_option maxRecDepth 100000 in
theorem pe0_146_12 (kn : List rM) {m : Nat} (h : (rE0.1 m).cls = "PackHouse") : rpo (rpar kn) rE0 m 146 (12, 10, 9, .null) := po12 (T := FT10) h rfl (tw4 (List.mem_of_getElem? (i := 144) rfl) rfl) (tw4 (List.mem_of_getElem? (i := 145) rfl) rfl) (tw1 (List.mem_of_getElem? (i := 20) rfl) rfl)
set_option maxRecDepth 100000 in
theorem pe0_148_20 (kn : List rM) {m : Nat} (h : (rE0.1 m).cls = "PackHouse") : rpo (rpar kn) rE0 m 148 (20, 123, 2, .ref 10) := po20 h (pm123 kn) (tw4 (List.mem_of_getElem? (i := 218) rfl) rfl) (tw4 (List.mem_of_getElem? (i := 219) rfl) rfl) (tw4 (List.mem_of_getElem? (i := 220) rfl) rfl) rfl rfl
set_option maxRecDepth 100000 in
theorem pe0_151_20 (kn : List rM) {m : Nat} (h : (rE0.1 m).cls = "PackHouse") : rpo (rpar kn) rE0 m 151 (20, 39, 0, .ref 0) := po20 h (pm39 kn) (tw4 (List.mem_of_getElem? (i := 233) rfl) rfl) (tw4 (List.mem_of_getElem? (i := 235) rfl) rfl) (pw2 (List.mem_of_getElem? (i := 7) rfl)) rfl rfl
set_option maxRecDepth 100000 in
theorem pe0_155_20 (kn : List rM) {m : Nat} (h : (rE0.1 m).cls = "PackHouse") : rpo (rpar kn) rE0 m 155 (20, 100, 3, .ref 6) := po20 h (pm100 kn) (tw5 (List.mem_of_getElem? (i := 89) rfl) rfl) (tw5 (List.mem_of_getElem? (i := 90) rfl) rfl) (tw5 (List.mem_of_getElem? (i := 91) rfl) rfl) rfl rfl
set_option maxRecDepth 100000 in
theorem pe0_156_12 (kn : List rM) {m : Nat} (h : (rE0.1 m).cls = "PackHouse") : rpo (rpar kn) rE0 m 156 (12, 6, 19, .null) := po12 (T := FT6) h rfl (tw4 (List.mem_of_getElem? (i := 237) rfl) rfl) (tw4 (List.mem_of_getElem? (i := 238) rfl) rfl) (tw1 (List.mem_of_getElem? (i := 21) rfl) rfl)
set_option maxRecDepth 100000 in
theorem pe0_160_20 (kn : List rM) {m : Nat} (h : (rE0.1 m).cls = "PackHouse") : rpo (rpar kn) rE0 m 160 (20, 103, 2, .ref 6) := po20 h (pm103 kn) (tw6 (List.mem_of_getElem? (i := 90) rfl) rfl) (tw6 (List.mem_of_getElem? (i := 91) rfl) rfl) (tw6 (List.mem_of_getElem? (i := 92) rfl) rfl) rfl rfl
set_option maxRecDepth 100000 in
theorem pe0_164_0 (kn : List rM) {m : Nat} (h : (rE0.1 m).cls = "PackHouse") : rpo (rpar kn) rE0 m 164 (0, 7, 2, .ref 1) := po0 (C := "PackHouse$Row") (T := FT7) (N := 5) (ty := fy7 2) h rfl (by decide) rfl (tw1 (List.mem_of_getElem? (i := 59) rfl) rfl) (fp7 2 (by decide)) rfl (fun _ => rfl) (fun a _ => absurd a (by decide))
set_option maxRecDepth 100000 in
theorem pe0_168_20 (kn : List rM) {m : Nat} (h : (rE0.1 m).cls = "PackHouse") : rpo (rpar kn) rE0 m 168 (20, 32, 4, .ref 0) := po20 h (pm32 kn) (tw6 (List.mem_of_getElem? (i := 102) rfl) rfl) (tw6 (List.mem_of_getElem? (i := 104) rfl) rfl) (pw4 (List.mem_of_getElem? (i := 4) rfl)) rfl rfl
set_option maxRecDepth 100000 in
theorem pe0_172_20 (kn : List rM) {m : Nat} (h : (rE0.1 m).cls = "PackHouse") : rpo (rpar kn) rE0 m 172 (20, 34, 2, .ref 0) := po20 h (pm34 kn) (tw7 (List.mem_of_getElem? (i := 182) rfl) rfl) (tw7 (List.mem_of_getElem? (i := 184) rfl) rfl) (pw6 (List.mem_of_getElem? (i := 9) rfl)) rfl rfl
set_option maxRecDepth 100000 in
theorem pe0_176_0 (kn : List rM) {m : Nat} (h : (rE0.1 m).cls = "PackHouse") : rpo (rpar kn) rE0 m 176 (0, 0, 11, .ref 3) := po0 (C := "PackHouse") (T := FT0) (N := 19) (ty := fy0 11) h rfl (by decide) rfl (tw1 (List.mem_of_getElem? (i := 147) rfl) rfl) (fp0 11 (by decide)) rfl (fun _ => rfl) (fun a _ => absurd a (by decide))
set_option maxRecDepth 100000 in
theorem pe0_180_0 (kn : List rM) {m : Nat} (h : (rE0.1 m).cls = "PackHouse") : rpo (rpar kn) rE0 m 180 (0, 6, 18, .ref 19) := po0 (C := "PackHouse$Packer") (T := FT6) (N := 19) (ty := fy6 18) h rfl (by decide) rfl (tw5 (List.mem_of_getElem? (i := 49) rfl) rfl) (fp6 18 (by decide)) rfl (fun a => absurd a (by decide)) (fun _ b => absurd b (by decide))
set_option maxRecDepth 100000 in
theorem pe0_183_27 (kn : List rM) {m : Nat} (h : (rE0.1 m).cls = "PackHouse") : rpo (rpar kn) rE0 m 183 (27, 0, 0, .null) := po27 h (tw7 (List.mem_of_getElem? (i := 187) rfl) rfl)
set_option maxRecDepth 100000 in
theorem pe0_189_20 (kn : List rM) {m : Nat} (h : (rE0.1 m).cls = "PackHouse") : rpo (rpar kn) rE0 m 189 (20, 31, 2, .ref 0) := po20 h (pm31 kn) (tw7 (List.mem_of_getElem? (i := 192) rfl) rfl) (tw7 (List.mem_of_getElem? (i := 194) rfl) rfl) (pw6 (List.mem_of_getElem? (i := 10) rfl)) rfl rfl
set_option maxRecDepth 100000 in
theorem pe0_192_24 (kn : List rM) {m : Nat} (h : (rE0.1 m).cls = "PackHouse") : rpo (rpar kn) rE0 m 192 (24, 33, 1, .null) := po24 h (pm33 kn) (tw7 (List.mem_of_getElem? (i := 200) rfl) rfl) (tw7 (List.mem_of_getElem? (i := 201) rfl) rfl)
set_option maxRecDepth 100000 in
theorem pe0_195_0 (kn : List rM) {m : Nat} (h : (rE0.1 m).cls = "PackHouse") : rpo (rpar kn) rE0 m 195 (0, 0, 18, .ref 0) := po0 (C := "PackHouse") (T := FT0) (N := 19) (ty := fy0 18) h rfl (by decide) rfl (tw1 (List.mem_of_getElem? (i := 154) rfl) rfl) (fp0 18 (by decide)) rfl (fun _ => rfl) (fun a _ => absurd a (by decide))
set_option maxRecDepth 100000 in
theorem pe0_198_0 (kn : List rM) {m : Nat} (h : (rE0.1 m).cls = "PackHouse") : rpo (rpar kn) rE0 m 198 (0, 4, 0, .ref 19) := po0 (C := "PackHouse$Dictionary") (T := FT4) (N := 5) (ty := fy4 0) h rfl (by decide) rfl (tw1 (List.mem_of_getElem? (i := 115) rfl) rfl) (fp4 0 (by decide)) rfl (fun a => absurd a (by decide)) (fun _ b => absurd b (by decide))
set_option maxRecDepth 100000 in
theorem pe0_199_0 (kn : List rM) {m : Nat} (h : (rE0.1 m).cls = "PackHouse") : rpo (rpar kn) rE0 m 199 (0, 4, 2, .ref 0) := po0 (C := "PackHouse$Dictionary") (T := FT4) (N := 5) (ty := fy4 2) h rfl (by decide) rfl (tw1 (List.mem_of_getElem? (i := 122) rfl) rfl) (fp4 2 (by decide)) rfl (fun _ => rfl) (fun a _ => absurd a (by decide))
set_option maxRecDepth 100000 in
theorem pe0_202_24 (kn : List rM) {m : Nat} (h : (rE0.1 m).cls = "PackHouse") : rpo (rpar kn) rE0 m 202 (24, 131, 1, .null) := po24 h (pm131 kn) (tw2 (List.mem_of_getElem? (i := 49) rfl) rfl) (tw2 (List.mem_of_getElem? (i := 50) rfl) rfl)
set_option maxRecDepth 100000 in
theorem pe0_205_20 (kn : List rM) {m : Nat} (h : (rE0.1 m).cls = "PackHouse") : rpo (rpar kn) rE0 m 205 (20, 108, 1, .ref 7) := po20 h (pm108 kn) (tw1 (List.mem_of_getElem? (i := 230) rfl) rfl) (tw1 (List.mem_of_getElem? (i := 231) rfl) rfl) (tw1 (List.mem_of_getElem? (i := 232) rfl) rfl) rfl rfl
set_option maxRecDepth 100000 in
theorem pe0_209_30 (kn : List rM) {m : Nat} (h : (rE0.1 m).cls = "PackHouse") : rpo (rpar kn) rE0 m 209 (30, 0, 0, .null) := po30 h (tw2 (List.mem_of_getElem? (i := 38) rfl) rfl)
set_option maxRecDepth 100000 in
theorem pe0_214_0 (kn : List rM) {m : Nat} (h : (rE0.1 m).cls = "PackHouse") : rpo (rpar kn) rE0 m 214 (0, 0, 17, .ref 0) := po0 (C := "PackHouse") (T := FT0) (N := 19) (ty := fy0 17) h rfl (by decide) rfl (tw1 (List.mem_of_getElem? (i := 153) rfl) rfl) (fp0 17 (by decide)) rfl (fun _ => rfl) (fun a _ => absurd a (by decide))
set_option maxRecDepth 100000 in
theorem pe0_217_20 (kn : List rM) {m : Nat} (h : (rE0.1 m).cls = "PackHouse") : rpo (rpar kn) rE0 m 217 (20, 140, 3, .ref 11) := po20 h (pm140 kn) (tw6 (List.mem_of_getElem? (i := 106) rfl) rfl) (tw6 (List.mem_of_getElem? (i := 107) rfl) rfl) (tw6 (List.mem_of_getElem? (i := 108) rfl) rfl) rfl rfl
set_option maxRecDepth 100000 in
theorem pe0_221_0 (kn : List rM) {m : Nat} (h : (rE0.1 m).cls = "PackHouse") : rpo (rpar kn) rE0 m 221 (0, 0, 8, .ref 3) := po0 (C := "PackHouse") (T := FT0) (N := 19) (ty := fy0 8) h rfl (by decide) rfl (tw1 (List.mem_of_getElem? (i := 144) rfl) rfl) (fp0 8 (by decide)) rfl (fun _ => rfl) (fun a _ => absurd a (by decide))
set_option maxRecDepth 100000 in
theorem pe0_225_0 (kn : List rM) {m : Nat} (h : (rE0.1 m).cls = "PackHouse") : rpo (rpar kn) rE0 m 225 (0, 11, 12, .ref 0) := po0 (C := "PackHouse$Tokens") (T := FT11) (N := 13) (ty := fy11 12) h rfl (by decide) rfl (tw4 (List.mem_of_getElem? (i := 13) rfl) rfl) (fp11 12 (by decide)) rfl (fun _ => rfl) (fun a _ => absurd a (by decide))
set_option maxRecDepth 100000 in
theorem pe0_226_20 (kn : List rM) {m : Nat} (h : (rE0.1 m).cls = "PackHouse") : rpo (rpar kn) rE0 m 226 (20, 143, 3, .ref 11) := po20 h (pm143 kn) (tw6 (List.mem_of_getElem? (i := 128) rfl) rfl) (tw6 (List.mem_of_getElem? (i := 129) rfl) rfl) (tw6 (List.mem_of_getElem? (i := 130) rfl) rfl) rfl rfl
set_option maxRecDepth 100000 in
theorem pe0_229_20 (kn : List rM) {m : Nat} (h : (rE0.1 m).cls = "PackHouse") : rpo (rpar kn) rE0 m 229 (20, 126, 3, .ref 10) := po20 h (pm126 kn) (tw6 (List.mem_of_getElem? (i := 159) rfl) rfl) (tw6 (List.mem_of_getElem? (i := 160) rfl) rfl) (tw6 (List.mem_of_getElem? (i := 161) rfl) rfl) rfl rfl
set_option maxRecDepth 100000 in
theorem pe0_230_0 (kn : List rM) {m : Nat} (h : (rE0.1 m).cls = "PackHouse") : rpo (rpar kn) rE0 m 230 (0, 0, 9, .ref 3) := po0 (C := "PackHouse") (T := FT0) (N := 19) (ty := fy0 9) h rfl (by decide) rfl (tw1 (List.mem_of_getElem? (i := 145) rfl) rfl) (fp0 9 (by decide)) rfl (fun _ => rfl) (fun a _ => absurd a (by decide))
set_option maxRecDepth 100000 in
theorem pe0_234_0 (kn : List rM) {m : Nat} (h : (rE0.1 m).cls = "PackHouse") : rpo (rpar kn) rE0 m 234 (0, 10, 8, .ref 0) := po0 (C := "PackHouse$Tags") (T := FT10) (N := 9) (ty := fy10 8) h rfl (by decide) rfl (tw4 (List.mem_of_getElem? (i := 161) rfl) rfl) (fp10 8 (by decide)) rfl (fun _ => rfl) (fun a _ => absurd a (by decide))
set_option maxRecDepth 100000 in
theorem pe0_235_20 (kn : List rM) {m : Nat} (h : (rE0.1 m).cls = "PackHouse") : rpo (rpar kn) rE0 m 235 (20, 129, 3, .ref 10) := po20 h (pm129 kn) (tw6 (List.mem_of_getElem? (i := 188) rfl) rfl) (tw6 (List.mem_of_getElem? (i := 189) rfl) rfl) (tw6 (List.mem_of_getElem? (i := 190) rfl) rfl) rfl rfl
set_option maxRecDepth 100000 in
theorem pe0_238_20 (kn : List rM) {m : Nat} (h : (rE0.1 m).cls = "PackHouse") : rpo (rpar kn) rE0 m 238 (20, 40, 0, .ref 0) := po20 h (pm40 kn) (tw6 (List.mem_of_getElem? (i := 202) rfl) rfl) (tw6 (List.mem_of_getElem? (i := 204) rfl) rfl) (pw5 (List.mem_of_getElem? (i := 2) rfl)) rfl rfl
set_option maxRecDepth 100000 in
theorem pe0_242_20 (kn : List rM) {m : Nat} (h : (rE0.1 m).cls = "PackHouse") : rpo (rpar kn) rE0 m 242 (20, 149, 5, .ref 12) := po20 h (pm149 kn) (tw7 (List.mem_of_getElem? (i := 49) rfl) rfl) (tw7 (List.mem_of_getElem? (i := 50) rfl) rfl) (tw7 (List.mem_of_getElem? (i := 51) rfl) rfl) rfl rfl
set_option maxRecDepth 100000 in
theorem pe0_243_12 (kn : List rM) {m : Nat} (h : (rE0.1 m).cls = "PackHouse") : rpo (rpar kn) rE0 m 243 (12, 12, 22, .null) := po12 (T := FT12) h rfl (tw6 (List.mem_of_getElem? (i := 206) rfl) rfl) (tw6 (List.mem_of_getElem? (i := 207) rfl) rfl) (tw1 (List.mem_of_getElem? (i := 22) rfl) rfl)
set_option maxRecDepth 100000 in
theorem pe0_247_0 (kn : List rM) {m : Nat} (h : (rE0.1 m).cls = "PackHouse") : rpo (rpar kn) rE0 m 247 (0, 0, 12, .ref 3) := po0 (C := "PackHouse") (T := FT0) (N := 19) (ty := fy0 12) h rfl (by decide) rfl (tw1 (List.mem_of_getElem? (i := 148) rfl) rfl) (fp0 12 (by decide)) rfl (fun _ => rfl) (fun a _ => absurd a (by decide))
set_option maxRecDepth 100000 in
theorem pe0_251_0 (kn : List rM) {m : Nat} (h : (rE0.1 m).cls = "PackHouse") : rpo (rpar kn) rE0 m 251 (0, 12, 21, .ref 0) := po0 (C := "PackHouse$Unpacker") (T := FT12) (N := 22) (ty := fy12 21) h rfl (by decide) rfl (tw7 (List.mem_of_getElem? (i := 3) rfl) rfl) (fp12 21 (by decide)) rfl (fun _ => rfl) (fun a _ => absurd a (by decide))
set_option maxRecDepth 100000 in
theorem pe0_252_24 (kn : List rM) {m : Nat} (h : (rE0.1 m).cls = "PackHouse") : rpo (rpar kn) rE0 m 252 (24, 43, 3, .null) := po24 h (pm43 kn) (tw7 (List.mem_of_getElem? (i := 203) rfl) rfl) (tw6 (List.mem_of_getElem? (i := 133) rfl) rfl)
set_option maxRecDepth 100000 in
theorem pe0_259_24 (kn : List rM) {m : Nat} (h : (rE0.1 m).cls = "PackHouse") : rpo (rpar kn) rE0 m 259 (24, 41, 2, .null) := po24 h (pm41 kn) (tw2 (List.mem_of_getElem? (i := 66) rfl) rfl) (tw2 (List.mem_of_getElem? (i := 67) rfl) rfl)
set_option maxRecDepth 100000 in
theorem pe0_263_24 (kn : List rM) {m : Nat} (h : (rE0.1 m).cls = "PackHouse") : rpo (rpar kn) rE0 m 263 (24, 118, 3, .null) := po24 h (pm118 kn) (tw7 (List.mem_of_getElem? (i := 205) rfl) rfl) (tw6 (List.mem_of_getElem? (i := 193) rfl) rfl)
set_option maxRecDepth 100000 in
theorem pe0_266_24 (kn : List rM) {m : Nat} (h : (rE0.1 m).cls = "PackHouse") : rpo (rpar kn) rE0 m 266 (24, 99, 2, .null) := po24 h (pm99 kn) (tw7 (List.mem_of_getElem? (i := 186) rfl) rfl) (tw5 (List.mem_of_getElem? (i := 112) rfl) rfl)
set_option maxRecDepth 100000 in
theorem pe0_270_0 (kn : List rM) {m : Nat} (h : (rE0.1 m).cls = "PackHouse") : rpo (rpar kn) rE0 m 270 (0, 0, 7, .ref 3) := po0 (C := "PackHouse") (T := FT0) (N := 19) (ty := fy0 7) h rfl (by decide) rfl (tw1 (List.mem_of_getElem? (i := 143) rfl) rfl) (fp0 7 (by decide)) rfl (fun _ => rfl) (fun a _ => absurd a (by decide))
set_option maxRecDepth 100000 in
theorem pe0_274_12 (kn : List rM) {m : Nat} (h : (rE0.1 m).cls = "PackHouse") : rpo (rpar kn) rE0 m 274 (12, 5, 19, .null) := po12 (T := FT5) h rfl (tw3 (List.mem_of_getElem? (i := 149) rfl) rfl) (tw3 (List.mem_of_getElem? (i := 150) rfl) rfl) (tw1 (List.mem_of_getElem? (i := 19) rfl) rfl)
set_option maxRecDepth 100000 in
theorem pe0_276_23 (kn : List rM) {m : Nat} (h : (rE0.1 m).cls = "PackHouse") : rpo (rpar kn) rE0 m 276 (23, 93, 0, .ref 5) := po23 h (pm93 kn) (tn3 (List.mem_of_getElem? (i := 151) rfl) rfl) (tw3 (List.mem_of_getElem? (i := 152) rfl) rfl) rfl rfl
set_option maxRecDepth 100000 in
theorem pe0_277_20 (kn : List rM) {m : Nat} (h : (rE0.1 m).cls = "PackHouse") : rpo (rpar kn) rE0 m 277 (20, 35, 0, .ref 0) := po20 h (pm35 kn) (tw3 (List.mem_of_getElem? (i := 145) rfl) rfl) (tw3 (List.mem_of_getElem? (i := 147) rfl) rfl) (pw1 (List.mem_of_getElem? (i := 8) rfl)) rfl rfl
set_option maxRecDepth 100000 in
theorem pe0_281_22 (kn : List rM) {m : Nat} (h : (rE0.1 m).cls = "PackHouse") : rpo (rpar kn) rE0 m 281 (22, 130, 3, .ref 11) := po22 h (pm130 kn) (tw3 (List.mem_of_getElem? (i := 234) rfl) rfl) (tw3 (List.mem_of_getElem? (i := 235) rfl) rfl) rfl rfl
set_option maxRecDepth 100000 in
theorem pe0_284_22 (kn : List rM) {m : Nat} (h : (rE0.1 m).cls = "PackHouse") : rpo (rpar kn) rE0 m 284 (22, 117, 2, .ref 10) := po22 h (pm117 kn) (tw4 (List.mem_of_getElem? (i := 146) rfl) rfl) (tw4 (List.mem_of_getElem? (i := 147) rfl) rfl) rfl rfl
set_option maxRecDepth 100000 in
theorem pe0_287_0 (kn : List rM) {m : Nat} (h : (rE0.1 m).cls = "PackHouse") : rpo (rpar kn) rE0 m 287 (0, 0, 10, .ref 3) := po0 (C := "PackHouse") (T := FT0) (N := 19) (ty := fy0 10) h rfl (by decide) rfl (tw1 (List.mem_of_getElem? (i := 146) rfl) rfl) (fp0 10 (by decide)) rfl (fun _ => rfl) (fun a _ => absurd a (by decide))
set_option maxRecDepth 100000 in
theorem pe0_291_12 (kn : List rM) {m : Nat} (h : (rE0.1 m).cls = "PackHouse") : rpo (rpar kn) rE0 m 291 (12, 8, 13, .null) := po12 (T := FT8) h rfl (tw5 (List.mem_of_getElem? (i := 3) rfl) rfl) (tw2 (List.mem_of_getElem? (i := 158) rfl) rfl) (tw1 (List.mem_of_getElem? (i := 17) rfl) rfl)
set_option maxRecDepth 100000 in
theorem pe0_291_13 (kn : List rM) {m : Nat} (h : (rE0.1 m).cls = "PackHouse") : rpo (rpar kn) rE0 m 291 (13, 5, 0, .null) := po13 h rfl (tw5 (List.mem_of_getElem? (i := 3) rfl) rfl) (tn1 (List.mem_of_getElem? (i := 90) rfl) rfl)
set_option maxRecDepth 100000 in
theorem pe0_293_22 (kn : List rM) {m : Nat} (h : (rE0.1 m).cls = "PackHouse") : rpo (rpar kn) rE0 m 293 (22, 111, 2, .ref 8) := po22 h (pm111 kn) (tw5 (List.mem_of_getElem? (i := 4) rfl) rfl) (tw2 (List.mem_of_getElem? (i := 160) rfl) rfl) rfl rfl
set_option maxRecDepth 100000 in
theorem pe0_296_14 (kn : List rM) {m : Nat} (h : (rE0.1 m).cls = "PackHouse") : rpo (rpar kn) rE0 m 296 (14, 4, 0, .null) := po14 h (by decide) (tw5 (List.mem_of_getElem? (i := 5) rfl) rfl)
set_option maxRecDepth 100000 in
theorem pe0_299_20 (kn : List rM) {m : Nat} (h : (rE0.1 m).cls = "PackHouse") : rpo (rpar kn) rE0 m 299 (20, 112, 2, .ref 8) := po20 h (pm112 kn) (tw5 (List.mem_of_getElem? (i := 7) rfl) rfl) (tw5 (List.mem_of_getElem? (i := 8) rfl) rfl) (tw5 (List.mem_of_getElem? (i := 9) rfl) rfl) rfl rfl
set_option maxRecDepth 100000 in
theorem pe0_302_14 (kn : List rM) {m : Nat} (h : (rE0.1 m).cls = "PackHouse") : rpo (rpar kn) rE0 m 302 (14, 5, 0, .null) := po14 h (by decide) (tw5 (List.mem_of_getElem? (i := 12) rfl) rfl)
set_option maxRecDepth 100000 in
theorem pe0_305_14 (kn : List rM) {m : Nat} (h : (rE0.1 m).cls = "PackHouse") : rpo (rpar kn) rE0 m 305 (14, 6, 0, .null) := po14 h (by decide) (tw5 (List.mem_of_getElem? (i := 14) rfl) rfl)
set_option maxRecDepth 100000 in
theorem pe0_308_20 (kn : List rM) {m : Nat} (h : (rE0.1 m).cls = "PackHouse") : rpo (rpar kn) rE0 m 308 (20, 38, 0, .ref 0) := po20 h (pm38 kn) (tw4 (List.mem_of_getElem? (i := 239) rfl) rfl) (tw5 (List.mem_of_getElem? (i := 1) rfl) rfl) (pw2 (List.mem_of_getElem? (i := 8) rfl)) rfl rfl
set_option maxRecDepth 100000 in
theorem pe0_312_22 (kn : List rM) {m : Nat} (h : (rE0.1 m).cls = "PackHouse") : rpo (rpar kn) rE0 m 312 (22, 97, 3, .ref 6) := po22 h (pm97 kn) (tw5 (List.mem_of_getElem? (i := 16) rfl) rfl) (tw5 (List.mem_of_getElem? (i := 17) rfl) rfl) rfl rfl
set_option maxRecDepth 100000 in
theorem pe0_315_22 (kn : List rM) {m : Nat} (h : (rE0.1 m).cls = "PackHouse") : rpo (rpar kn) rE0 m 315 (22, 147, 1, .ref 12) := po22 h (pm147 kn) (tw6 (List.mem_of_getElem? (i := 208) rfl) rfl) (tw6 (List.mem_of_getElem? (i := 209) rfl) rfl) rfl rfl
set_option maxRecDepth 100000 in
theorem pe0_318_10 (kn : List rM) {m : Nat} (h : (rE0.1 m).cls = "PackHouse") : rpo (rpar kn) rE0 m 318 (10, 0, 0, .int (407710288)) := po10 h (tw6 (List.mem_of_getElem? (i := 135) rfl) rfl)
set_option maxRecDepth 100000 in
theorem pe0_319_24 (kn : List rM) {m : Nat} (h : (rE0.1 m).cls = "PackHouse") : rpo (rpar kn) rE0 m 319 (24, 42, 3, .null) := po24 h (pm42 kn) (tw2 (List.mem_of_getElem? (i := 87) rfl) rfl) (tw2 (List.mem_of_getElem? (i := 88) rfl) rfl)
set_option maxRecDepth 100000 in
theorem pe0_323_10 (kn : List rM) {m : Nat} (h : (rE0.1 m).cls = "PackHouse") : rpo (rpar kn) rE0 m 323 (10, 0, 0, .int (-2048144777)) := po10 h (tw2 (List.mem_of_getElem? (i := 65) rfl) rfl)
set_option maxRecDepth 100000 in
theorem pe0_324_24 (kn : List rM) {m : Nat} (h : (rE0.1 m).cls = "PackHouse") : rpo (rpar kn) rE0 m 324 (24, 44, 2, .null) := po24 h (pm44 kn) (tw2 (List.mem_of_getElem? (i := 72) rfl) rfl) (tw2 (List.mem_of_getElem? (i := 73) rfl) rfl)
set_option maxRecDepth 100000 in
theorem pe0_327_10 (kn : List rM) {m : Nat} (h : (rE0.1 m).cls = "PackHouse") : rpo (rpar kn) rE0 m 327 (10, 0, 0, .int (-1640531535)) := po10 h (tw2 (List.mem_of_getElem? (i := 64) rfl) rfl)
set_option maxRecDepth 100000 in
theorem pe0_328_10 (kn : List rM) {m : Nat} (h : (rE0.1 m).cls = "PackHouse") : rpo (rpar kn) rE0 m 328 (10, 0, 0, .int (374761393)) := po10 h (tw2 (List.mem_of_getElem? (i := 63) rfl) rfl)
set_option maxRecDepth 100000 in
theorem pe0_332_10 (kn : List rM) {m : Nat} (h : (rE0.1 m).cls = "PackHouse") : rpo (rpar kn) rE0 m 332 (10, 0, 0, .int (-1028477379)) := po10 h (tw2 (List.mem_of_getElem? (i := 75) rfl) rfl)
set_option maxRecDepth 100000 in
theorem pe0_333_10 (kn : List rM) {m : Nat} (h : (rE0.1 m).cls = "PackHouse") : rpo (rpar kn) rE0 m 333 (10, 0, 0, .int (668265263)) := po10 h (tw2 (List.mem_of_getElem? (i := 76) rfl) rfl)
set_option maxRecDepth 100000 in
theorem pe0_334_11 (kn : List rM) {m : Nat} (h : (rE0.1 m).cls = "PackHouse") : rpo (rpar kn) rE0 m 334 (11, 0, 0, .long (-4417276706812531889)) := po11 h (tw2 (List.mem_of_getElem? (i := 86) rfl) rfl)
set_option maxRecDepth 100000 in
theorem pe0_339_11 (kn : List rM) {m : Nat} (h : (rE0.1 m).cls = "PackHouse") : rpo (rpar kn) rE0 m 339 (11, 0, 0, .long (-7046029288634856825)) := po11 h (tw2 (List.mem_of_getElem? (i := 85) rfl) rfl)
set_option maxRecDepth 100000 in
theorem pe0_341_11 (kn : List rM) {m : Nat} (h : (rE0.1 m).cls = "PackHouse") : rpo (rpar kn) rE0 m 341 (11, 0, 0, .long (2870177450012600261)) := po11 h (tw2 (List.mem_of_getElem? (i := 84) rfl) rfl)
set_option maxRecDepth 100000 in
theorem pe0_347_11 (kn : List rM) {m : Nat} (h : (rE0.1 m).cls = "PackHouse") : rpo (rpar kn) rE0 m 347 (11, 0, 0, .long (-8796714831421723037)) := po11 h (tw2 (List.mem_of_getElem? (i := 96) rfl) rfl)
set_option maxRecDepth 100000 in
theorem pe0_349_24 (kn : List rM) {m : Nat} (h : (rE0.1 m).cls = "PackHouse") : rpo (rpar kn) rE0 m 349 (24, 47, 4, .null) := po24 h (pm47 kn) (tw2 (List.mem_of_getElem? (i := 97) rfl) rfl) (tw2 (List.mem_of_getElem? (i := 98) rfl) rfl)
set_option maxRecDepth 100000 in
theorem pe0_352_11 (kn : List rM) {m : Nat} (h : (rE0.1 m).cls = "PackHouse") : rpo (rpar kn) rE0 m 352 (11, 0, 0, .long (1609587929392839161)) := po11 h (tw2 (List.mem_of_getElem? (i := 100) rfl) rfl)
set_option maxRecDepth 100000 in
theorem pe0_354_14 (kn : List rM) {m : Nat} (h : (rE0.1 m).cls = "PackHouse") : rpo (rpar kn) rE0 m 354 (14, 1, 0, .null) := po14 h (by decide) (tw2 (List.mem_of_getElem? (i := 108) rfl) rfl)
set_option maxRecDepth 100000 in
theorem pe0_357_10 (kn : List rM) {m : Nat} (h : (rE0.1 m).cls = "PackHouse") : rpo (rpar kn) rE0 m 357 (10, 0, 0, .int (-1568478504)) := po10 h (tw2 (List.mem_of_getElem? (i := 113) rfl) rfl)
set_option maxRecDepth 100000 in
theorem pl0 (kn : List rM) {m : Nat} (h : (rE0.1 m).cls = "PackHouse") : ∀ q ∈ pool_0, rpo (rpar kn) rE0 m q.1 q.2 := List.forall_mem_cons.mpr ⟨pe0_1_26 kn h, List.forall_mem_cons.mpr ⟨pe0_7_12 kn h, List.forall_mem_cons.mpr ⟨pe0_7_13 kn h, List.forall_mem_cons.mpr ⟨pe0_9_23 kn h, List.forall_mem_cons.mpr ⟨pe0_10_0 kn h, List.forall_mem_cons.mpr ⟨pe0_16_10 kn h, List.forall_mem_cons.mpr ⟨pe0_17_0 kn h, List.forall_mem_cons.mpr ⟨pe0_21_0 kn h, List.forall_mem_cons.mpr ⟨pe0_25_12 kn h, List.forall_mem_cons.mpr ⟨pe0_27_23 kn h, List.forall_mem_cons.mpr ⟨pe0_28_0 kn h, List.forall_mem_cons.mpr ⟨pe0_32_0 kn h, List.forall_mem_cons.mpr ⟨pe0_35_0 kn h, List.forall_mem_cons.mpr ⟨pe0_38_0 kn h, List.forall_mem_cons.mpr ⟨pe0_41_0 kn h, List.forall_mem_cons.mpr ⟨pe0_44_0 kn h, List.forall_mem_cons.mpr ⟨pe0_47_0 kn h, List.forall_mem_cons.mpr ⟨pe0_50_0 kn h, List.forall_mem_cons.mpr ⟨pe0_53_24 kn h, List.forall_mem_cons.mpr ⟨pe0_57_20 kn h, List.forall_mem_cons.mpr ⟨pe0_60_11 kn h, List.forall_mem_cons.mpr ⟨pe0_62_24 kn h, List.forall_mem_cons.mpr ⟨pe0_66_0 kn h, List.forall_mem_cons.mpr ⟨pe0_74_24 kn h, List.forall_mem_cons.mpr ⟨pe0_78_0 kn h, List.forall_mem_cons.mpr ⟨pe0_82_20 kn h, List.forall_mem_cons.mpr ⟨pe0_86_24 kn h, List.forall_mem_cons.mpr ⟨pe0_90_24 kn h, List.forall_mem_cons.mpr ⟨pe0_93_24 kn h, List.forall_mem_cons.mpr ⟨pe0_97_24 kn h, List.forall_mem_cons.mpr ⟨pe0_101_24 kn h, List.forall_mem_cons.mpr ⟨pe0_105_24 kn h, List.forall_mem_cons.mpr ⟨pe0_109_24 kn h, List.forall_mem_cons.mpr ⟨pe0_113_20 kn h, List.forall_mem_cons.mpr ⟨pe0_117_20 kn h, List.forall_mem_cons.mpr ⟨pe0_121_20 kn h, List.forall_mem_cons.mpr ⟨pe0_124_20 kn h, List.forall_mem_cons.mpr ⟨pe0_125_20 kn h, List.forall_mem_cons.mpr ⟨pe0_128_20 kn h, List.forall_mem_cons.mpr ⟨pe0_132_20 kn h, List.forall_mem_cons.mpr ⟨pe0_133_12 kn h, List.forall_mem_cons.mpr ⟨pe0_138_20 kn h, List.forall_mem_cons.mpr ⟨pe0_141_20 kn h, List.forall_mem_cons.mpr ⟨pe0_145_20 kn h, List.forall_mem_cons.mpr ⟨pe0_146_12 kn h, List.forall_mem_cons.mpr ⟨pe0_148_20 kn h, List.forall_mem_cons.mpr ⟨pe0_151_20 kn h, List.forall_mem_cons.mpr ⟨pe0_155_20 kn h, List.forall_mem_cons.mpr ⟨pe0_156_12 kn h, List.forall_mem_cons.mpr ⟨pe0_160_20 kn h, List.forall_mem_cons.mpr ⟨pe0_164_0 kn h, List.forall_mem_cons.mpr ⟨pe0_168_20 kn h, List.forall_mem_cons.mpr ⟨pe0_172_20 kn h, List.forall_mem_cons.mpr ⟨pe0_176_0 kn h, List.forall_mem_cons.mpr ⟨pe0_180_0 kn h, List.forall_mem_cons.mpr ⟨pe0_183_27 kn h, List.forall_mem_cons.mpr ⟨pe0_189_20 kn h, List.forall_mem_cons.mpr ⟨pe0_192_24 kn h, List.forall_mem_cons.mpr ⟨pe0_195_0 kn h, List.forall_mem_cons.mpr ⟨pe0_198_0 kn h, List.forall_mem_cons.mpr ⟨pe0_199_0 kn h, List.forall_mem_cons.mpr ⟨pe0_202_24 kn h, List.forall_mem_cons.mpr ⟨pe0_205_20 kn h, List.forall_mem_cons.mpr ⟨pe0_209_30 kn h, List.forall_mem_cons.mpr ⟨pe0_214_0 kn h, List.forall_mem_cons.mpr ⟨pe0_217_20 kn h, List.forall_mem_cons.mpr ⟨pe0_221_0 kn h, List.forall_mem_cons.mpr ⟨pe0_225_0 kn h, List.forall_mem_cons.mpr ⟨pe0_226_20 kn h, List.forall_mem_cons.mpr ⟨pe0_229_20 kn h, List.forall_mem_cons.mpr ⟨pe0_230_0 kn h, List.forall_mem_cons.mpr ⟨pe0_234_0 kn h, List.forall_mem_cons.mpr ⟨pe0_235_20 kn h, List.forall_mem_cons.mpr ⟨pe0_238_20 kn h, List.forall_mem_cons.mpr ⟨pe0_242_20 kn h, List.forall_mem_cons.mpr ⟨pe0_243_12 kn h, List.forall_mem_cons.mpr ⟨pe0_247_0 kn h, List.forall_mem_cons.mpr ⟨pe0_251_0 kn h, List.forall_mem_cons.mpr ⟨pe0_252_24 kn h, List.forall_mem_cons.mpr ⟨pe0_259_24 kn h, List.forall_mem_cons.mpr ⟨pe0_263_24 kn h, List.forall_mem_cons.mpr ⟨pe0_266_24 kn h, List.forall_mem_cons.mpr ⟨pe0_270_0 kn h, List.forall_mem_cons.mpr ⟨pe0_274_12 kn h, List.forall_mem_cons.mpr ⟨pe0_276_23 kn h, List.forall_mem_cons.mpr ⟨pe0_277_20 kn h, List.forall_mem_cons.mpr ⟨pe0_281_22 kn h, List.forall_mem_cons.mpr ⟨pe0_284_22 kn h, List.forall_mem_cons.mpr ⟨pe0_287_0 kn h, List.forall_mem_cons.mpr ⟨pe0_291_12 kn h, List.forall_mem_cons.mpr ⟨pe0_291_13 kn h, List.forall_mem_cons.mpr ⟨pe0_293_22 kn h, List.forall_mem_cons.mpr ⟨pe0_296_14 kn h, List.forall_mem_cons.mpr ⟨pe0_299_20 kn h, List.forall_mem_cons.mpr ⟨pe0_302_14 kn h, List.forall_mem_cons.mpr ⟨pe0_305_14 kn h, List.forall_mem_cons.mpr ⟨pe0_308_20 kn h, List.forall_mem_cons.mpr ⟨pe0_312_22 kn h, List.forall_mem_cons.mpr ⟨pe0_315_22 kn h, List.forall_mem_cons.mpr ⟨pe0_318_10 kn h, List.forall_mem_cons.mpr ⟨pe0_319_24 kn h, List.forall_mem_cons.mpr ⟨pe0_323_10 kn h, List.forall_mem_cons.mpr ⟨pe0_324_24 kn h, List.forall_mem_cons.mpr ⟨pe0_327_10 kn h, List.forall_mem_cons.mpr ⟨pe0_328_10 kn h, List.forall_mem_cons.mpr ⟨pe0_332_10 kn h, List.forall_mem_cons.mpr ⟨pe0_333_10 kn h, List.forall_mem_cons.mpr ⟨pe0_334_11 kn h, List.forall_mem_cons.mpr ⟨pe0_339_11 kn h, List.forall_mem_cons.mpr ⟨pe0_341_11 kn h, List.forall_mem_cons.mpr ⟨pe0_347_11 kn h, List.forall_mem_cons.mpr ⟨pe0_349_24 kn h, List.forall_mem_cons.mpr ⟨pe0_352_11 kn h, List.forall_mem_cons.mpr ⟨pe0_354_14 kn h, List.forall_mem_cons.mpr ⟨pe0_357_10 kn h, (fun _ h => absurd h List.not_mem_nil)⟩⟩⟩⟩⟩⟩⟩⟩⟩⟩⟩⟩⟩⟩⟩⟩⟩⟩⟩⟩⟩⟩⟩⟩⟩⟩⟩⟩⟩⟩⟩⟩⟩⟩⟩⟩⟩⟩⟩⟩⟩⟩⟩⟩⟩⟩⟩⟩⟩⟩⟩⟩⟩⟩⟩⟩⟩⟩⟩⟩⟩⟩⟩⟩⟩⟩⟩⟩⟩⟩⟩⟩⟩⟩⟩⟩⟩⟩⟩⟩⟩⟩⟩⟩⟩⟩⟩⟩⟩⟩⟩⟩⟩⟩⟩⟩⟩⟩⟩⟩⟩⟩⟩⟩⟩⟩⟩⟩⟩⟩⟩⟩⟩⟩⟩
set_option maxRecDepth 100000 in
theorem pe1_1_26 (kn : List rM) {m : Nat} (h : (rE0.1 m).cls = "PackHouseModel") : rpo (rpar kn) rE0 m 1 (26, 0, 0, .null) := po26 h (tw7 (List.mem_of_getElem? (i := 227) rfl) rfl)
set_option maxRecDepth 100000 in
theorem pe1_7_10 (kn : List rM) {m : Nat} (h : (rE0.1 m).cls = "PackHouseModel") : rpo (rpar kn) rE0 m 7 (10, 0, 0, .int (262144)) := po10 h (tw7 (List.mem_of_getElem? (i := 228) rfl) rfl)
set_option maxRecDepth 100000 in
theorem pe1_8_0 (kn : List rM) {m : Nat} (h : (rE0.1 m).cls = "PackHouseModel") : rpo (rpar kn) rE0 m 8 (0, 1, 0, .ref 11) := po0 (C := "PackHouseModel") (T := FT1) (N := 13) (ty := fy1 0) h rfl (by decide) rfl (tw10 (List.mem_of_getElem? (i := 24) rfl) rfl) (fp1 0 (by decide)) rfl (fun a => absurd a (by decide)) (fun _ _ => ⟨rfl, rfl⟩)
set_option maxRecDepth 100000 in
theorem pe1_14_0 (kn : List rM) {m : Nat} (h : (rE0.1 m).cls = "PackHouseModel") : rpo (rpar kn) rE0 m 14 (0, 1, 1, .ref 11) := po0 (C := "PackHouseModel") (T := FT1) (N := 13) (ty := fy1 1) h rfl (by decide) rfl (tw10 (List.mem_of_getElem? (i := 25) rfl) rfl) (fp1 1 (by decide)) rfl (fun a => absurd a (by decide)) (fun _ _ => ⟨rfl, rfl⟩)
set_option maxRecDepth 100000 in
theorem pe1_17_12 (kn : List rM) {m : Nat} (h : (rE0.1 m).cls = "PackHouseModel") : rpo (rpar kn) rE0 m 17 (12, 13, 5, .null) := po12 (T := FT13) h rfl (tw7 (List.mem_of_getElem? (i := 229) rfl) rfl) (tw7 (List.mem_of_getElem? (i := 230) rfl) rfl) (tw1 (List.mem_of_getElem? (i := 6) rfl) rfl)
set_option maxRecDepth 100000 in
theorem pe1_19_23 (kn : List rM) {m : Nat} (h : (rE0.1 m).cls = "PackHouseModel") : rpo (rpar kn) rE0 m 19 (23, 160, 0, .ref 13) := po23 h (pm160 kn) (tn7 (List.mem_of_getElem? (i := 231) rfl) rfl) (tw7 (List.mem_of_getElem? (i := 232) rfl) rfl) rfl rfl
set_option maxRecDepth 100000 in
theorem pe1_20_0 (kn : List rM) {m : Nat} (h : (rE0.1 m).cls = "PackHouseModel") : rpo (rpar kn) rE0 m 20 (0, 1, 2, .ref 11) := po0 (C := "PackHouseModel") (T := FT1) (N := 13) (ty := fy1 2) h rfl (by decide) rfl (tw10 (List.mem_of_getElem? (i := 26) rfl) rfl) (fp1 2 (by decide)) rfl (fun a => absurd a (by decide)) (fun _ _ => ⟨rfl, rfl⟩)
set_option maxRecDepth 100000 in
theorem pe1_24_12 (kn : List rM) {m : Nat} (h : (rE0.1 m).cls = "PackHouseModel") : rpo (rpar kn) rE0 m 24 (12, 15, 2, .null) := po12 (T := FT15) h rfl (tw8 (List.mem_of_getElem? (i := 32) rfl) rfl) (tw8 (List.mem_of_getElem? (i := 33) rfl) rfl) (tw1 (List.mem_of_getElem? (i := 7) rfl) rfl)
set_option maxRecDepth 100000 in
theorem pe1_26_22 (kn : List rM) {m : Nat} (h : (rE0.1 m).cls = "PackHouseModel") : rpo (rpar kn) rE0 m 26 (22, 174, 1, .ref 15) := po22 h (pm174 kn) (tw8 (List.mem_of_getElem? (i := 34) rfl) rfl) (tw8 (List.mem_of_getElem? (i := 35) rfl) rfl) rfl rfl
set_option maxRecDepth 100000 in
theorem pe1_29_0 (kn : List rM) {m : Nat} (h : (rE0.1 m).cls = "PackHouseModel") : rpo (rpar kn) rE0 m 29 (0, 1, 3, .ref 11) := po0 (C := "PackHouseModel") (T := FT1) (N := 13) (ty := fy1 3) h rfl (by decide) rfl (tw10 (List.mem_of_getElem? (i := 27) rfl) rfl) (fp1 3 (by decide)) rfl (fun a => absurd a (by decide)) (fun _ _ => ⟨rfl, rfl⟩)
set_option maxRecDepth 100000 in
theorem pe1_33_12 (kn : List rM) {m : Nat} (h : (rE0.1 m).cls = "PackHouseModel") : rpo (rpar kn) rE0 m 33 (12, 17, 17, .null) := po12 (T := FT17) h rfl (tw8 (List.mem_of_getElem? (i := 45) rfl) rfl) (tw8 (List.mem_of_getElem? (i := 46) rfl) rfl) (tw1 (List.mem_of_getElem? (i := 8) rfl) rfl)
set_option maxRecDepth 100000 in
theorem pe1_35_22 (kn : List rM) {m : Nat} (h : (rE0.1 m).cls = "PackHouseModel") : rpo (rpar kn) rE0 m 35 (22, 200, 1, .ref 17) := po22 h (pm200 kn) (tw8 (List.mem_of_getElem? (i := 47) rfl) rfl) (tw8 (List.mem_of_getElem? (i := 48) rfl) rfl) rfl rfl
set_option maxRecDepth 100000 in
theorem pe1_38_0 (kn : List rM) {m : Nat} (h : (rE0.1 m).cls = "PackHouseModel") : rpo (rpar kn) rE0 m 38 (0, 1, 4, .ref 11) := po0 (C := "PackHouseModel") (T := FT1) (N := 13) (ty := fy1 4) h rfl (by decide) rfl (tw10 (List.mem_of_getElem? (i := 28) rfl) rfl) (fp1 4 (by decide)) rfl (fun a => absurd a (by decide)) (fun _ _ => ⟨rfl, rfl⟩)
set_option maxRecDepth 100000 in
theorem pe1_42_12 (kn : List rM) {m : Nat} (h : (rE0.1 m).cls = "PackHouseModel") : rpo (rpar kn) rE0 m 42 (12, 16, 12, .null) := po12 (T := FT16) h rfl (tw8 (List.mem_of_getElem? (i := 107) rfl) rfl) (tw8 (List.mem_of_getElem? (i := 108) rfl) rfl) (tw1 (List.mem_of_getElem? (i := 9) rfl) rfl)
set_option maxRecDepth 100000 in
theorem pe1_44_22 (kn : List rM) {m : Nat} (h : (rE0.1 m).cls = "PackHouseModel") : rpo (rpar kn) rE0 m 44 (22, 180, 1, .ref 16) := po22 h (pm180 kn) (tw8 (List.mem_of_getElem? (i := 109) rfl) rfl) (tw8 (List.mem_of_getElem? (i := 110) rfl) rfl) rfl rfl
set_option maxRecDepth 100000 in
theorem pe1_45_0 (kn : List rM) {m : Nat} (h : (rE0.1 m).cls = "PackHouseModel") : rpo (rpar kn) rE0 m 45 (0, 1, 5, .ref 11) := po0 (C := "PackHouseModel") (T := FT1) (N := 13) (ty := fy1 5) h rfl (by decide) rfl (tw10 (List.mem_of_getElem? (i := 29) rfl) rfl) (fp1 5 (by decide)) rfl (fun a => absurd a (by decide)) (fun _ _ => ⟨rfl, rfl⟩)
set_option maxRecDepth 100000 in
theorem pe1_49_12 (kn : List rM) {m : Nat} (h : (rE0.1 m).cls = "PackHouseModel") : rpo (rpar kn) rE0 m 49 (12, 14, 47, .null) := po12 (T := FT14) h rfl (tw8 (List.mem_of_getElem? (i := 151) rfl) rfl) (tw8 (List.mem_of_getElem? (i := 152) rfl) rfl) (tw1 (List.mem_of_getElem? (i := 10) rfl) rfl)
set_option maxRecDepth 100000 in
theorem pe1_51_22 (kn : List rM) {m : Nat} (h : (rE0.1 m).cls = "PackHouseModel") : rpo (rpar kn) rE0 m 51 (22, 161, 1, .ref 14) := po22 h (pm161 kn) (tw8 (List.mem_of_getElem? (i := 153) rfl) rfl) (tw8 (List.mem_of_getElem? (i := 154) rfl) rfl) rfl rfl
set_option maxRecDepth 100000 in
theorem pe1_52_0 (kn : List rM) {m : Nat} (h : (rE0.1 m).cls = "PackHouseModel") : rpo (rpar kn) rE0 m 52 (0, 1, 6, .ref 11) := po0 (C := "PackHouseModel") (T := FT1) (N := 13) (ty := fy1 6) h rfl (by decide) rfl (tw10 (List.mem_of_getElem? (i := 30) rfl) rfl) (fp1 6 (by decide)) rfl (fun a => absurd a (by decide)) (fun _ _ => ⟨rfl, rfl⟩)
set_option maxRecDepth 100000 in
theorem pe1_56_12 (kn : List rM) {m : Nat} (h : (rE0.1 m).cls = "PackHouseModel") : rpo (rpar kn) rE0 m 56 (12, 18, 59, .null) := po12 (T := FT18) h rfl (tw9 (List.mem_of_getElem? (i := 77) rfl) rfl) (tw9 (List.mem_of_getElem? (i := 78) rfl) rfl) (tw1 (List.mem_of_getElem? (i := 11) rfl) rfl)
set_option maxRecDepth 100000 in
theorem pe1_58_22 (kn : List rM) {m : Nat} (h : (rE0.1 m).cls = "PackHouseModel") : rpo (rpar kn) rE0 m 58 (22, 227, 1, .ref 18) := po22 h (pm227 kn) (tw9 (List.mem_of_getElem? (i := 79) rfl) rfl) (tw9 (List.mem_of_getElem? (i := 80) rfl) rfl) rfl rfl
set_option maxRecDepth 100000 in
theorem pe1_59_0 (kn : List rM) {m : Nat} (h : (rE0.1 m).cls = "PackHouseModel") : rpo (rpar kn) rE0 m 59 (0, 1, 7, .ref 11) := po0 (C := "PackHouseModel") (T := FT1) (N := 13) (ty := fy1 7) h rfl (by decide) rfl (tw10 (List.mem_of_getElem? (i := 31) rfl) rfl) (fp1 7 (by decide)) rfl (fun a => absurd a (by decide)) (fun _ _ => ⟨rfl, rfl⟩)
set_option maxRecDepth 100000 in
theorem pe1_63_0 (kn : List rM) {m : Nat} (h : (rE0.1 m).cls = "PackHouseModel") : rpo (rpar kn) rE0 m 63 (0, 1, 8, .ref 11) := po0 (C := "PackHouseModel") (T := FT1) (N := 13) (ty := fy1 8) h rfl (by decide) rfl (tw10 (List.mem_of_getElem? (i := 32) rfl) rfl) (fp1 8 (by decide)) rfl (fun a => absurd a (by decide)) (fun _ _ => ⟨rfl, rfl⟩)
set_option maxRecDepth 100000 in
theorem pe1_66_0 (kn : List rM) {m : Nat} (h : (rE0.1 m).cls = "PackHouseModel") : rpo (rpar kn) rE0 m 66 (0, 1, 12, .ref 11) := po0 (C := "PackHouseModel") (T := FT1) (N := 13) (ty := fy1 12) h rfl (by decide) rfl (tw10 (List.mem_of_getElem? (i := 36) rfl) rfl) (fp1 12 (by decide)) rfl (fun a => absurd a (by decide)) (fun _ _ => ⟨rfl, rfl⟩)
set_option maxRecDepth 100000 in
theorem pe1_69_10 (kn : List rM) {m : Nat} (h : (rE0.1 m).cls = "PackHouseModel") : rpo (rpar kn) rE0 m 69 (10, 0, 0, .int (65536)) := po10 h (tw10 (List.mem_of_getElem? (i := 23) rfl) rfl)
set_option maxRecDepth 100000 in
theorem pe1_70_24 (kn : List rM) {m : Nat} (h : (rE0.1 m).cls = "PackHouseModel") : rpo (rpar kn) rE0 m 70 (24, 51, 1, .null) := po24 h (pm51 kn) (tw10 (List.mem_of_getElem? (i := 68) rfl) rfl) (tw10 (List.mem_of_getElem? (i := 69) rfl) rfl)
set_option maxRecDepth 100000 in
theorem pe1_74_20 (kn : List rM) {m : Nat} (h : (rE0.1 m).cls = "PackHouseModel") : rpo (rpar kn) rE0 m 74 (20, 52, 2, .ref 1) := po20 h (pm52 kn) (tw10 (List.mem_of_getElem? (i := 71) rfl) rfl) (tw10 (List.mem_of_getElem? (i := 73) rfl) rfl) (pw6 (List.mem_of_getElem? (i := 11) rfl)) rfl rfl
set_option maxRecDepth 100000 in
theorem pe1_78_20 (kn : List rM) {m : Nat} (h : (rE0.1 m).cls = "PackHouseModel") : rpo (rpar kn) rE0 m 78 (20, 57, 3, .ref 1) := po20 h (pm57 kn) (tw10 (List.mem_of_getElem? (i := 91) rfl) rfl) (tw10 (List.mem_of_getElem? (i := 93) rfl) rfl) (pw6 (List.mem_of_getElem? (i := 12) rfl)) rfl rfl
set_option maxRecDepth 100000 in
theorem pe1_82_24 (kn : List rM) {m : Nat} (h : (rE0.1 m).cls = "PackHouseModel") : rpo (rpar kn) rE0 m 82 (24, 62, 3, .null) := po24 h (pm62 kn) (tw10 (List.mem_of_getElem? (i := 114) rfl) rfl) (tw10 (List.mem_of_getElem? (i := 115) rfl) rfl)
set_option maxRecDepth 100000 in
theorem pe1_85_24 (kn : List rM) {m : Nat} (h : (rE0.1 m).cls = "PackHouseModel") : rpo (rpar kn) rE0 m 85 (24, 63, 2, .null) := po24 h (pm63 kn) (tw10 (List.mem_of_getElem? (i := 111) rfl) rfl) (tw10 (List.mem_of_getElem? (i := 112) rfl) rfl)
set_option maxRecDepth 100000 in
theorem pe1_88_20 (kn : List rM) {m : Nat} (h : (rE0.1 m).cls = "PackHouseModel") : rpo (rpar kn) rE0 m 88 (20, 175, 1, .ref 15) := po20 h (pm175 kn) (tw10 (List.mem_of_getElem? (i := 125) rfl) rfl) (tw10 (List.mem_of_getElem? (i := 126) rfl) rfl) (tw10 (List.mem_of_getElem? (i := 127) rfl) rfl) rfl rfl
set_option maxRecDepth 100000 in
theorem pe1_92_21 (kn : List rM) {m : Nat} (h : (rE0.1 m).cls = "PackHouseModel") : rpo (rpar kn) rE0 m 92 (21, 176, 3, .ref 15) := po21 h (pm176 kn) (tn10 (List.mem_of_getElem? (i := 129) rfl) rfl) (tw10 (List.mem_of_getElem? (i := 131) rfl) rfl) (pw6 (List.mem_of_getElem? (i := 13) rfl)) rfl rfl
set_option maxRecDepth 100000 in
theorem pe1_96_21 (kn : List rM) {m : Nat} (h : (rE0.1 m).cls = "PackHouseModel") : rpo (rpar kn) rE0 m 96 (21, 177, 3, .ref 15) := po21 h (pm177 kn) (tn10 (List.mem_of_getElem? (i := 157) rfl) rfl) (tw10 (List.mem_of_getElem? (i := 159) rfl) rfl) (pw7 (List.mem_of_getElem? (i := 1) rfl)) rfl rfl
set_option maxRecDepth 100000 in
theorem pe1_100_20 (kn : List rM) {m : Nat} (h : (rE0.1 m).cls = "PackHouseModel") : rpo (rpar kn) rE0 m 100 (20, 179, 2, .ref 15) := po20 h (pm179 kn) (tw10 (List.mem_of_getElem? (i := 184) rfl) rfl) (tw10 (List.mem_of_getElem? (i := 185) rfl) rfl) (tw10 (List.mem_of_getElem? (i := 186) rfl) rfl) rfl rfl
set_option maxRecDepth 100000 in
theorem pe1_104_10 (kn : List rM) {m : Nat} (h : (rE0.1 m).cls = "PackHouseModel") : rpo (rpar kn) rE0 m 104 (10, 0, 0, .int (1568478504)) := po10 h (tw10 (List.mem_of_getElem? (i := 199) rfl) rfl)
set_option maxRecDepth 100000 in
theorem pe1_105_1 (kn : List rM) {m : Nat} (h : (rE0.1 m).cls = "PackHouseModel") : rpo (rpar kn) rE0 m 105 (1, 13, 0, .ref 19) := po1 (C := "PackHouseModel$Desk") (T := FT13) (N := 5) (ty := fy13 0) h rfl (by decide) rfl (tn8 (List.mem_of_getElem? (i := 0) rfl) rfl) (fp13 0 (by decide)) rfl (fun a => absurd a (by decide)) (fun _ b => absurd b (by decide)) (by decide)
set_option maxRecDepth 100000 in
theorem pe1_108_1 (kn : List rM) {m : Nat} (h : (rE0.1 m).cls = "PackHouseModel") : rpo (rpar kn) rE0 m 108 (1, 13, 1, .ref 0) := po1 (C := "PackHouseModel$Desk") (T := FT13) (N := 5) (ty := fy13 1) h rfl (by decide) rfl (tn8 (List.mem_of_getElem? (i := 5) rfl) rfl) (fp13 1 (by decide)) rfl (fun _ => rfl) (fun a _ => absurd a (by decide)) (by decide)
set_option maxRecDepth 100000 in
theorem pe1_112_1 (kn : List rM) {m : Nat} (h : (rE0.1 m).cls = "PackHouseModel") : rpo (rpar kn) rE0 m 112 (1, 13, 3, .ref 0) := po1 (C := "PackHouseModel$Desk") (T := FT13) (N := 5) (ty := fy13 3) h rfl (by decide) rfl (tn8 (List.mem_of_getElem? (i := 16) rfl) rfl) (fp13 3 (by decide)) rfl (fun _ => rfl) (fun a _ => absurd a (by decide)) (by decide)
set_option maxRecDepth 100000 in
theorem pe1_115_1 (kn : List rM) {m : Nat} (h : (rE0.1 m).cls = "PackHouseModel") : rpo (rpar kn) rE0 m 115 (1, 13, 2, .ref 19) := po1 (C := "PackHouseModel$Desk") (T := FT13) (N := 5) (ty := fy13 2) h rfl (by decide) rfl (tn8 (List.mem_of_getElem? (i := 11) rfl) rfl) (fp13 2 (by decide)) rfl (fun a => absurd a (by decide)) (fun _ b => absurd b (by decide)) (by decide)
set_option maxRecDepth 100000 in
theorem pe1_118_20 (kn : List rM) {m : Nat} (h : (rE0.1 m).cls = "PackHouseModel") : rpo (rpar kn) rE0 m 118 (20, 69, 1, .ref 1) := po20 h (pm69 kn) (tw10 (List.mem_of_getElem? (i := 204) rfl) rfl) (tw10 (List.mem_of_getElem? (i := 206) rfl) rfl) (pw7 (List.mem_of_getElem? (i := 5) rfl)) rfl rfl
set_option maxRecDepth 100000 in
theorem pe1_121_20 (kn : List rM) {m : Nat} (h : (rE0.1 m).cls = "PackHouseModel") : rpo (rpar kn) rE0 m 121 (20, 201, 0, .ref 17) := po20 h (pm201 kn) (tw10 (List.mem_of_getElem? (i := 208) rfl) rfl) (tw10 (List.mem_of_getElem? (i := 209) rfl) rfl) (tw10 (List.mem_of_getElem? (i := 210) rfl) rfl) rfl rfl
set_option maxRecDepth 100000 in
theorem pe1_124_20 (kn : List rM) {m : Nat} (h : (rE0.1 m).cls = "PackHouseModel") : rpo (rpar kn) rE0 m 124 (20, 165, 0, .ref 14) := po20 h (pm165 kn) (tw10 (List.mem_of_getElem? (i := 216) rfl) rfl) (tw10 (List.mem_of_getElem? (i := 217) rfl) rfl) (tw10 (List.mem_of_getElem? (i := 218) rfl) rfl) rfl rfl
set_option maxRecDepth 100000 in
theorem pe1_128_20 (kn : List rM) {m : Nat} (h : (rE0.1 m).cls = "PackHouseModel") : rpo (rpar kn) rE0 m 128 (20, 229, 1, .ref 18) := po20 h (pm229 kn) (tw11 (List.mem_of_getElem? (i := 39) rfl) rfl) (tw11 (List.mem_of_getElem? (i := 40) rfl) rfl) (tw11 (List.mem_of_getElem? (i := 41) rfl) rfl) rfl rfl
set_option maxRecDepth 100000 in
theorem pe1_132_20 (kn : List rM) {m : Nat} (h : (rE0.1 m).cls = "PackHouseModel") : rpo (rpar kn) rE0 m 132 (20, 202, 0, .ref 17) := po20 h (pm202 kn) (tw11 (List.mem_of_getElem? (i := 47) rfl) rfl) (tw11 (List.mem_of_getElem? (i := 48) rfl) rfl) (tw11 (List.mem_of_getElem? (i := 49) rfl) rfl) rfl rfl
set_option maxRecDepth 100000 in
theorem pe1_135_20 (kn : List rM) {m : Nat} (h : (rE0.1 m).cls = "PackHouseModel") : rpo (rpar kn) rE0 m 135 (20, 164, 0, .ref 14) := po20 h (pm164 kn) (tw11 (List.mem_of_getElem? (i := 51) rfl) rfl) (tw11 (List.mem_of_getElem? (i := 52) rfl) rfl) (tw11 (List.mem_of_getElem? (i := 53) rfl) rfl) rfl rfl
set_option maxRecDepth 100000 in
theorem pe1_136_1 (kn : List rM) {m : Nat} (h : (rE0.1 m).cls = "PackHouseModel") : rpo (rpar kn) rE0 m 136 (1, 17, 2, .ref 0) := po1 (C := "PackHouseModel$Tokens") (T := FT17) (N := 17) (ty := fy17 2) h rfl (by decide) rfl (tn8 (List.mem_of_getElem? (i := 57) rfl) rfl) (fp17 2 (by decide)) rfl (fun _ => rfl) (fun a _ => absurd a (by decide)) (by decide)
set_option maxRecDepth 100000 in
theorem pe1_139_1 (kn : List rM) {m : Nat} (h : (rE0.1 m).cls = "PackHouseModel") : rpo (rpar kn) rE0 m 139 (1, 14, 2, .ref 0) := po1 (C := "PackHouseModel$Reader") (T := FT14) (N := 47) (ty := fy14 2) h rfl (by decide) rfl (tn8 (List.mem_of_getElem? (i := 164) rfl) rfl) (fp14 2 (by decide)) rfl (fun _ => rfl) (fun a _ => absurd a (by decide)) (by decide)
set_option maxRecDepth 100000 in
theorem pe1_142_20 (kn : List rM) {m : Nat} (h : (rE0.1 m).cls = "PackHouseModel") : rpo (rpar kn) rE0 m 142 (20, 213, 1, .ref 17) := po20 h (pm213 kn) (tw11 (List.mem_of_getElem? (i := 76) rfl) rfl) (tw11 (List.mem_of_getElem? (i := 77) rfl) rfl) (tw11 (List.mem_of_getElem? (i := 78) rfl) rfl) rfl rfl
set_option maxRecDepth 100000 in
theorem pe1_146_20 (kn : List rM) {m : Nat} (h : (rE0.1 m).cls = "PackHouseModel") : rpo (rpar kn) rE0 m 146 (20, 221, 5, .ref 17) := po20 h (pm221 kn) (tw11 (List.mem_of_getElem? (i := 121) rfl) rfl) (tw11 (List.mem_of_getElem? (i := 122) rfl) rfl) (tw11 (List.mem_of_getElem? (i := 123) rfl) rfl) rfl rfl
set_option maxRecDepth 100000 in
theorem pe1_150_20 (kn : List rM) {m : Nat} (h : (rE0.1 m).cls = "PackHouseModel") : rpo (rpar kn) rE0 m 150 (20, 186, 1, .ref 16) := po20 h (pm186 kn) (tw11 (List.mem_of_getElem? (i := 158) rfl) rfl) (tw11 (List.mem_of_getElem? (i := 159) rfl) rfl) (tw11 (List.mem_of_getElem? (i := 160) rfl) rfl) rfl rfl
set_option maxRecDepth 100000 in
theorem pe1_153_20 (kn : List rM) {m : Nat} (h : (rE0.1 m).cls = "PackHouseModel") : rpo (rpar kn) rE0 m 153 (20, 195, 3, .ref 16) := po20 h (pm195 kn) (tw11 (List.mem_of_getElem? (i := 219) rfl) rfl) (tw11 (List.mem_of_getElem? (i := 220) rfl) rfl) (tw11 (List.mem_of_getElem? (i := 221) rfl) rfl) rfl rfl
set_option maxRecDepth 100000 in
theorem pe1_156_20 (kn : List rM) {m : Nat} (h : (rE0.1 m).cls = "PackHouseModel") : rpo (rpar kn) rE0 m 156 (20, 244, 3, .ref 18) := po20 h (pm244 kn) (tw11 (List.mem_of_getElem? (i := 235) rfl) rfl) (tw11 (List.mem_of_getElem? (i := 236) rfl) rfl) (tw11 (List.mem_of_getElem? (i := 237) rfl) rfl) rfl rfl
set_option maxRecDepth 100000 in
theorem pe1_159_20 (kn : List rM) {m : Nat} (h : (rE0.1 m).cls = "PackHouseModel") : rpo (rpar kn) rE0 m 159 (20, 246, 1, .ref 18) := po20 h (pm246 kn) (tw13 (List.mem_of_getElem? (i := 21) rfl) rfl) (tw13 (List.mem_of_getElem? (i := 22) rfl) rfl) (tw13 (List.mem_of_getElem? (i := 23) rfl) rfl) rfl rfl
set_option maxRecDepth 100000 in
theorem pe1_162_20 (kn : List rM) {m : Nat} (h : (rE0.1 m).cls = "PackHouseModel") : rpo (rpar kn) rE0 m 162 (20, 74, 1, .ref 1) := po20 h (pm74 kn) (tw11 (List.mem_of_getElem? (i := 59) rfl) rfl) (tw11 (List.mem_of_getElem? (i := 61) rfl) rfl) (pw8 (List.mem_of_getElem? (i := 3) rfl)) rfl rfl
set_option maxRecDepth 100000 in
theorem pe1_165_20 (kn : List rM) {m : Nat} (h : (rE0.1 m).cls = "PackHouseModel") : rpo (rpar kn) rE0 m 165 (20, 84, 2, .ref 1) := po20 h (pm84 kn) (tw11 (List.mem_of_getElem? (i := 63) rfl) rfl) (tw11 (List.mem_of_getElem? (i := 64) rfl) rfl) (tw11 (List.mem_of_getElem? (i := 65) rfl) rfl) rfl rfl
set_option maxRecDepth 100000 in
theorem pe1_168_20 (kn : List rM) {m : Nat} (h : (rE0.1 m).cls = "PackHouseModel") : rpo (rpar kn) rE0 m 168 (20, 228, 2, .ref 18) := po20 h (pm228 kn) (tw11 (List.mem_of_getElem? (i := 68) rfl) rfl) (tw11 (List.mem_of_getElem? (i := 69) rfl) rfl) (tw11 (List.mem_of_getElem? (i := 70) rfl) rfl) rfl rfl
set_option maxRecDepth 100000 in
theorem pe1_172_20 (kn : List rM) {m : Nat} (h : (rE0.1 m).cls = "PackHouseModel") : rpo (rpar kn) rE0 m 172 (20, 75, 1, .ref 1) := po20 h (pm75 kn) (tw11 (List.mem_of_getElem? (i := 72) rfl) rfl) (tw11 (List.mem_of_getElem? (i := 74) rfl) rfl) (pw8 (List.mem_of_getElem? (i := 4) rfl)) rfl rfl
set_option maxRecDepth 100000 in
theorem pe1_175_0 (kn : List rM) {m : Nat} (h : (rE0.1 m).cls = "PackHouseModel") : rpo (rpar kn) rE0 m 175 (0, 1, 11, .ref 0) := po0 (C := "PackHouseModel") (T := FT1) (N := 13) (ty := fy1 11) h rfl (by decide) rfl (tw10 (List.mem_of_getElem? (i := 35) rfl) rfl) (fp1 11 (by decide)) rfl (fun _ => rfl) (fun a _ => absurd a (by decide))
set_option maxRecDepth 100000 in
theorem pe1_178_0 (kn : List rM) {m : Nat} (h : (rE0.1 m).cls = "PackHouseModel") : rpo (rpar kn) rE0 m 178 (0, 1, 10, .ref 0) := po0 (C := "PackHouseModel") (T := FT1) (N := 13) (ty := fy1 10) h rfl (by decide) rfl (tw10 (List.mem_of_getElem? (i := 34) rfl) rfl) (fp1 10 (by decide)) rfl (fun _ => rfl) (fun a _ => absurd a (by decide))
set_option maxRecDepth 100000 in
theorem pe1_181_20 (kn : List rM) {m : Nat} (h : (rE0.1 m).cls = "PackHouseModel") : rpo (rpar kn) rE0 m 181 (20, 77, 2, .ref 1) := po20 h (pm77 kn) (tw13 (List.mem_of_getElem? (i := 28) rfl) rfl) (tw13 (List.mem_of_getElem? (i := 30) rfl) rfl) (pw13 (List.mem_of_getElem? (i := 9) rfl)) rfl rfl
set_option maxRecDepth 100000 in
theorem pe1_184_20 (kn : List rM) {m : Nat} (h : (rE0.1 m).cls = "PackHouseModel") : rpo (rpar kn) rE0 m 184 (20, 70, 1, .ref 1) := po20 h (pm70 kn) (tw14 (List.mem_of_getElem? (i := 31) rfl) rfl) (tw14 (List.mem_of_getElem? (i := 33) rfl) rfl) (pw16 (List.mem_of_getElem? (i := 8) rfl)) rfl rfl
set_option maxRecDepth 100000 in
theorem pe1_187_20 (kn : List rM) {m : Nat} (h : (rE0.1 m).cls = "PackHouseModel") : rpo (rpar kn) rE0 m 187 (20, 78, 1, .ref 1) := po20 h (pm78 kn) (tw13 (List.mem_of_getElem? (i := 32) rfl) rfl) (tw13 (List.mem_of_getElem? (i := 34) rfl) rfl) (pw13 (List.mem_of_getElem? (i := 10) rfl)) rfl rfl
set_option maxRecDepth 100000 in
theorem pe1_190_20 (kn : List rM) {m : Nat} (h : (rE0.1 m).cls = "PackHouseModel") : rpo (rpar kn) rE0 m 190 (20, 79, 2, .ref 1) := po20 h (pm79 kn) (tw13 (List.mem_of_getElem? (i := 36) rfl) rfl) (tw13 (List.mem_of_getElem? (i := 38) rfl) rfl) (pw13 (List.mem_of_getElem? (i := 11) rfl)) rfl rfl
set_option maxRecDepth 100000 in
theorem pe1_193_1 (kn : List rM) {m : Nat} (h : (rE0.1 m).cls = "PackHouseModel") : rpo (rpar kn) rE0 m 193 (1, 14, 32, .ref 0) := po1 (C := "PackHouseModel$Reader") (T := FT14) (N := 47) (ty := fy14 32) h rfl (by decide) rfl (tn8 (List.mem_of_getElem? (i := 203) rfl) rfl) (fp14 32 (by decide)) rfl (fun _ => rfl) (fun a _ => absurd a (by decide)) (by decide)
set_option maxRecDepth 100000 in
theorem pe1_196_1 (kn : List rM) {m : Nat} (h : (rE0.1 m).cls = "PackHouseModel") : rpo (rpar kn) rE0 m 196 (1, 14, 33, .ref 0) := po1 (C := "PackHouseModel$Reader") (T := FT14) (N := 47) (ty := fy14 33) h rfl (by decide) rfl (tn8 (List.mem_of_getElem? (i := 205) rfl) rfl) (fp14 33 (by decide)) rfl (fun _ => rfl) (fun a _ => absurd a (by decide)) (by decide)
set_option maxRecDepth 100000 in
theorem pe1_199_1 (kn : List rM) {m : Nat} (h : (rE0.1 m).cls = "PackHouseModel") : rpo (rpar kn) rE0 m 199 (1, 14, 34, .ref 0) := po1 (C := "PackHouseModel$Reader") (T := FT14) (N := 47) (ty := fy14 34) h rfl (by decide) rfl (tn8 (List.mem_of_getElem? (i := 207) rfl) rfl) (fp14 34 (by decide)) rfl (fun _ => rfl) (fun a _ => absurd a (by decide)) (by decide)
set_option maxRecDepth 100000 in
theorem pe1_202_1 (kn : List rM) {m : Nat} (h : (rE0.1 m).cls = "PackHouseModel") : rpo (rpar kn) rE0 m 202 (1, 14, 27, .ref 0) := po1 (C := "PackHouseModel$Reader") (T := FT14) (N := 47) (ty := fy14 27) h rfl (by decide) rfl (tn8 (List.mem_of_getElem? (i := 196) rfl) rfl) (fp14 27 (by decide)) rfl (fun _ => rfl) (fun a _ => absurd a (by decide)) (by decide)
set_option maxRecDepth 100000 in
theorem pe1_205_1 (kn : List rM) {m : Nat} (h : (rE0.1 m).cls = "PackHouseModel") : rpo (rpar kn) rE0 m 205 (1, 14, 36, .ref 0) := po1 (C := "PackHouseModel$Reader") (T := FT14) (N := 47) (ty := fy14 36) h rfl (by decide) rfl (tn8 (List.mem_of_getElem? (i := 210) rfl) rfl) (fp14 36 (by decide)) rfl (fun _ => rfl) (fun a _ => absurd a (by decide)) (by decide)
set_option maxRecDepth 100000 in
theorem pe1_208_20 (kn : List rM) {m : Nat} (h : (rE0.1 m).cls = "PackHouseModel") : rpo (rpar kn) rE0 m 208 (20, 217, 1, .ref 17) := po20 h (pm217 kn) (tw13 (List.mem_of_getElem? (i := 40) rfl) rfl) (tw13 (List.mem_of_getElem? (i := 41) rfl) rfl) (tw13 (List.mem_of_getElem? (i := 42) rfl) rfl) rfl rfl
set_option maxRecDepth 100000 in
theorem pe1_211_20 (kn : List rM) {m : Nat} (h : (rE0.1 m).cls = "PackHouseModel") : rpo (rpar kn) rE0 m 211 (20, 226, 1, .ref 17) := po20 h (pm226 kn) (tw13 (List.mem_of_getElem? (i := 56) rfl) rfl) (tw13 (List.mem_of_getElem? (i := 57) rfl) rfl) (tw13 (List.mem_of_getElem? (i := 58) rfl) rfl) rfl rfl
set_option maxRecDepth 100000 in
theorem pe1_214_20 (kn : List rM) {m : Nat} (h : (rE0.1 m).cls = "PackHouseModel") : rpo (rpar kn) rE0 m 214 (20, 193, 1, .ref 16) := po20 h (pm193 kn) (tw13 (List.mem_of_getElem? (i := 86) rfl) rfl) (tw13 (List.mem_of_getElem? (i := 87) rfl) rfl) (tw13 (List.mem_of_getElem? (i := 88) rfl) rfl) rfl rfl
set_option maxRecDepth 100000 in
theorem pe1_217_20 (kn : List rM) {m : Nat} (h : (rE0.1 m).cls = "PackHouseModel") : rpo (rpar kn) rE0 m 217 (20, 199, 1, .ref 16) := po20 h (pm199 kn) (tw13 (List.mem_of_getElem? (i := 132) rfl) rfl) (tw13 (List.mem_of_getElem? (i := 133) rfl) rfl) (tw13 (List.mem_of_getElem? (i := 134) rfl) rfl) rfl rfl
set_option maxRecDepth 100000 in
theorem pe1_220_20 (kn : List rM) {m : Nat} (h : (rE0.1 m).cls = "PackHouseModel") : rpo (rpar kn) rE0 m 220 (20, 169, 1, .ref 14) := po20 h (pm169 kn) (tw13 (List.mem_of_getElem? (i := 149) rfl) rfl) (tw13 (List.mem_of_getElem? (i := 150) rfl) rfl) (tw13 (List.mem_of_getElem? (i := 151) rfl) rfl) rfl rfl
set_option maxRecDepth 100000 in
theorem pe1_223_1 (kn : List rM) {m : Nat} (h : (rE0.1 m).cls = "PackHouseModel") : rpo (rpar kn) rE0 m 223 (1, 14, 31, .ref 0) := po1 (C := "PackHouseModel$Reader") (T := FT14) (N := 47) (ty := fy14 31) h rfl (by decide) rfl (tn8 (List.mem_of_getElem? (i := 202) rfl) rfl) (fp14 31 (by decide)) rfl (fun _ => rfl) (fun a _ => absurd a (by decide)) (by decide)
set_option maxRecDepth 100000 in
theorem pe1_226_1 (kn : List rM) {m : Nat} (h : (rE0.1 m).cls = "PackHouseModel") : rpo (rpar kn) rE0 m 226 (1, 13, 4, .ref 0) := po1 (C := "PackHouseModel$Desk") (T := FT13) (N := 5) (ty := fy13 4) h rfl (by decide) rfl (tn8 (List.mem_of_getElem? (i := 20) rfl) rfl) (fp13 4 (by decide)) rfl (fun _ => rfl) (fun a _ => absurd a (by decide)) (by decide)
set_option maxRecDepth 100000 in
theorem pe1_229_0 (kn : List rM) {m : Nat} (h : (rE0.1 m).cls = "PackHouseModel") : rpo (rpar kn) rE0 m 229 (0, 1, 9, .ref 0) := po0 (C := "PackHouseModel") (T := FT1) (N := 13) (ty := fy1 9) h rfl (by decide) rfl (tw10 (List.mem_of_getElem? (i := 33) rfl) rfl) (fp1 9 (by decide)) rfl (fun _ => rfl) (fun a _ => absurd a (by decide))
set_option maxRecDepth 100000 in
theorem pe1_230_20 (kn : List rM) {m : Nat} (h : (rE0.1 m).cls = "PackHouseModel") : rpo (rpar kn) rE0 m 230 (20, 81, 6, .ref 1) := po20 h (pm81 kn) (tw14 (List.mem_of_getElem? (i := 43) rfl) rfl) (tw14 (List.mem_of_getElem? (i := 45) rfl) rfl) (pw16 (List.mem_of_getElem? (i := 9) rfl)) rfl rfl
set_option maxRecDepth 100000 in
theorem pe1_234_20 (kn : List rM) {m : Nat} (h : (rE0.1 m).cls = "PackHouseModel") : rpo (rpar kn) rE0 m 234 (20, 82, 1, .ref 1) := po20 h (pm82 kn) (tw14 (List.mem_of_getElem? (i := 51) rfl) rfl) (tw14 (List.mem_of_getElem? (i := 40) rfl) rfl) (tw14 (List.mem_of_getElem? (i := 41) rfl) rfl) rfl rfl
set_option maxRecDepth 100000 in
theorem pe1_237_20 (kn : List rM) {m : Nat} (h : (rE0.1 m).cls = "PackHouseModel") : rpo (rpar kn) rE0 m 237 (20, 80, 4, .ref 1) := po20 h (pm80 kn) (tw14 (List.mem_of_getElem? (i := 52) rfl) rfl) (tw14 (List.mem_of_getElem? (i := 36) rfl) rfl) (tw14 (List.mem_of_getElem? (i := 37) rfl) rfl) rfl rfl
set_option maxRecDepth 100000 in
theorem pe1_240_10 (kn : List rM) {m : Nat} (h : (rE0.1 m).cls = "PackHouseModel") : rpo (rpar kn) rE0 m 240 (10, 0, 0, .int (131072)) := po10 h (tw11 (List.mem_of_getElem? (i := 67) rfl) rfl)
set_option maxRecDepth 100000 in
theorem pe1_241_1 (kn : List rM) {m : Nat} (h : (rE0.1 m).cls = "PackHouseModel") : rpo (rpar kn) rE0 m 241 (1, 18, 58, .ref 19) := po1 (C := "PackHouseModel$Writer") (T := FT18) (N := 59) (ty := fy18 58) h rfl (by decide) rfl (tn9 (List.mem_of_getElem? (i := 142) rfl) rfl) (fp18 58 (by decide)) rfl (fun a => absurd a (by decide)) (fun _ b => absurd b (by decide)) (by decide)
set_option maxRecDepth 100000 in
theorem pe1_244_1 (kn : List rM) {m : Nat} (h : (rE0.1 m).cls = "PackHouseModel") : rpo (rpar kn) rE0 m 244 (1, 14, 3, .ref 0) := po1 (C := "PackHouseModel$Reader") (T := FT14) (N := 47) (ty := fy14 3) h rfl (by decide) rfl (tn8 (List.mem_of_getElem? (i := 167) rfl) rfl) (fp14 3 (by decide)) rfl (fun _ => rfl) (fun a _ => absurd a (by decide)) (by decide)
set_option maxRecDepth 100000 in
theorem pl1 (kn : List rM) {m : Nat} (h : (rE0.1 m).cls = "PackHouseModel") : ∀ q ∈ pool_1, rpo (rpar kn) rE0 m q.1 q.2 := List.forall_mem_cons.mpr ⟨pe1_1_26 kn h, List.forall_mem_cons.mpr ⟨pe1_7_10 kn h, List.forall_mem_cons.mpr ⟨pe1_8_0 kn h, List.forall_mem_cons.mpr ⟨pe1_14_0 kn h, List.forall_mem_cons.mpr ⟨pe1_17_12 kn h, List.forall_mem_cons.mpr ⟨pe1_19_23 kn h, List.forall_mem_cons.mpr ⟨pe1_20_0 kn h, List.forall_mem_cons.mpr ⟨pe1_24_12 kn h, List.forall_mem_cons.mpr ⟨pe1_26_22 kn h, List.forall_mem_cons.mpr ⟨pe1_29_0 kn h, List.forall_mem_cons.mpr ⟨pe1_33_12 kn h, List.forall_mem_cons.mpr ⟨pe1_35_22 kn h, List.forall_mem_cons.mpr ⟨pe1_38_0 kn h, List.forall_mem_cons.mpr ⟨pe1_42_12 kn h, List.forall_mem_cons.mpr ⟨pe1_44_22 kn h, List.forall_mem_cons.mpr ⟨pe1_45_0 kn h, List.forall_mem_cons.mpr ⟨pe1_49_12 kn h, List.forall_mem_cons.mpr ⟨pe1_51_22 kn h, List.forall_mem_cons.mpr ⟨pe1_52_0 kn h, List.forall_mem_cons.mpr ⟨pe1_56_12 kn h, List.forall_mem_cons.mpr ⟨pe1_58_22 kn h, List.forall_mem_cons.mpr ⟨pe1_59_0 kn h, List.forall_mem_cons.mpr ⟨pe1_63_0 kn h, List.forall_mem_cons.mpr ⟨pe1_66_0 kn h, List.forall_mem_cons.mpr ⟨pe1_69_10 kn h, List.forall_mem_cons.mpr ⟨pe1_70_24 kn h, List.forall_mem_cons.mpr ⟨pe1_74_20 kn h, List.forall_mem_cons.mpr ⟨pe1_78_20 kn h, List.forall_mem_cons.mpr ⟨pe1_82_24 kn h, List.forall_mem_cons.mpr ⟨pe1_85_24 kn h, List.forall_mem_cons.mpr ⟨pe1_88_20 kn h, List.forall_mem_cons.mpr ⟨pe1_92_21 kn h, List.forall_mem_cons.mpr ⟨pe1_96_21 kn h, List.forall_mem_cons.mpr ⟨pe1_100_20 kn h, List.forall_mem_cons.mpr ⟨pe1_104_10 kn h, List.forall_mem_cons.mpr ⟨pe1_105_1 kn h, List.forall_mem_cons.mpr ⟨pe1_108_1 kn h, List.forall_mem_cons.mpr ⟨pe1_112_1 kn h, List.forall_mem_cons.mpr ⟨pe1_115_1 kn h, List.forall_mem_cons.mpr ⟨pe1_118_20 kn h, List.forall_mem_cons.mpr ⟨pe1_121_20 kn h, List.forall_mem_cons.mpr ⟨pe1_124_20 kn h, List.forall_mem_cons.mpr ⟨pe1_128_20 kn h, List.forall_mem_cons.mpr ⟨pe1_132_20 kn h, List.forall_mem_cons.mpr ⟨pe1_135_20 kn h, List.forall_mem_cons.mpr ⟨pe1_136_1 kn h, List.forall_mem_cons.mpr ⟨pe1_139_1 kn h, List.forall_mem_cons.mpr ⟨pe1_142_20 kn h, List.forall_mem_cons.mpr ⟨pe1_146_20 kn h, List.forall_mem_cons.mpr ⟨pe1_150_20 kn h, List.forall_mem_cons.mpr ⟨pe1_153_20 kn h, List.forall_mem_cons.mpr ⟨pe1_156_20 kn h, List.forall_mem_cons.mpr ⟨pe1_159_20 kn h, List.forall_mem_cons.mpr ⟨pe1_162_20 kn h, List.forall_mem_cons.mpr ⟨pe1_165_20 kn h, List.forall_mem_cons.mpr ⟨pe1_168_20 kn h, List.forall_mem_cons.mpr ⟨pe1_172_20 kn h, List.forall_mem_cons.mpr ⟨pe1_175_0 kn h, List.forall_mem_cons.mpr ⟨pe1_178_0 kn h, List.forall_mem_cons.mpr ⟨pe1_181_20 kn h, List.forall_mem_cons.mpr ⟨pe1_184_20 kn h, List.forall_mem_cons.mpr ⟨pe1_187_20 kn h, List.forall_mem_cons.mpr ⟨pe1_190_20 kn h, List.forall_mem_cons.mpr ⟨pe1_193_1 kn h, List.forall_mem_cons.mpr ⟨pe1_196_1 kn h, List.forall_mem_cons.mpr ⟨pe1_199_1 kn h, List.forall_mem_cons.mpr ⟨pe1_202_1 kn h, List.forall_mem_cons.mpr ⟨pe1_205_1 kn h, List.forall_mem_cons.mpr ⟨pe1_208_20 kn h, List.forall_mem_cons.mpr ⟨pe1_211_20 kn h, List.forall_mem_cons.mpr ⟨pe1_214_20 kn h, List.forall_mem_cons.mpr ⟨pe1_217_20 kn h, List.forall_mem_cons.mpr ⟨pe1_220_20 kn h, List.forall_mem_cons.mpr ⟨pe1_223_1 kn h, List.forall_mem_cons.mpr ⟨pe1_226_1 kn h, List.forall_mem_cons.mpr ⟨pe1_229_0 kn h, List.forall_mem_cons.mpr ⟨pe1_230_20 kn h, List.forall_mem_cons.mpr ⟨pe1_234_20 kn h, List.forall_mem_cons.mpr ⟨pe1_237_20 kn h, List.forall_mem_cons.mpr ⟨pe1_240_10 kn h, List.forall_mem_cons.mpr ⟨pe1_241_1 kn h, List.forall_mem_cons.mpr ⟨pe1_244_1 kn h, (fun _ h => absurd h List.not_mem_nil)⟩⟩⟩⟩⟩⟩⟩⟩⟩⟩⟩⟩⟩⟩⟩⟩⟩⟩⟩⟩⟩⟩⟩⟩⟩⟩⟩⟩⟩⟩⟩⟩⟩⟩⟩⟩⟩⟩⟩⟩⟩⟩⟩⟩⟩⟩⟩⟩⟩⟩⟩⟩⟩⟩⟩⟩⟩⟩⟩⟩⟩⟩⟩⟩⟩⟩⟩⟩⟩⟩⟩⟩⟩⟩⟩⟩⟩⟩⟩⟩⟩⟩
set_option maxRecDepth 100000 in
theorem pe2_1_26 (kn : List rM) {m : Nat} (h : (rE0.1 m).cls = "PackHouse$BitSource") : rpo (rpar kn) rE0 m 1 (26, 0, 0, .null) := po26 h (tw2 (List.mem_of_getElem? (i := 213) rfl) rfl)
set_option maxRecDepth 100000 in
theorem pl2 (kn : List rM) {m : Nat} (h : (rE0.1 m).cls = "PackHouse$BitSource") : ∀ q ∈ pool_2, rpo (rpar kn) rE0 m q.1 q.2 := List.forall_mem_cons.mpr ⟨pe2_1_26 kn h, (fun _ h => absurd h List.not_mem_nil)⟩
set_option maxRecDepth 100000 in
theorem pe3_3_26 (kn : List rM) {m : Nat} (h : (rE0.1 m).cls = "PackHouse$Codes") : rpo (rpar kn) rE0 m 3 (26, 0, 0, .null) := po26 h (tw2 (List.mem_of_getElem? (i := 156) rfl) rfl)
set_option maxRecDepth 100000 in
theorem pe3_11_0 (kn : List rM) {m : Nat} (h : (rE0.1 m).cls = "PackHouse$Codes") : rpo (rpar kn) rE0 m 11 (0, 3, 0, .ref 11) := po0 (C := "PackHouse$Codes") (T := FT3) (N := 17) (ty := fy3 0) h rfl (by decide) rfl (tw2 (List.mem_of_getElem? (i := 226) rfl) rfl) (fp3 0 (by decide)) rfl (fun a => absurd a (by decide)) (fun _ _ => ⟨rfl, rfl⟩)
set_option maxRecDepth 100000 in
theorem pe3_15_0 (kn : List rM) {m : Nat} (h : (rE0.1 m).cls = "PackHouse$Codes") : rpo (rpar kn) rE0 m 15 (0, 3, 1, .ref 11) := po0 (C := "PackHouse$Codes") (T := FT3) (N := 17) (ty := fy3 1) h rfl (by decide) rfl (tw2 (List.mem_of_getElem? (i := 227) rfl) rfl) (fp3 1 (by decide)) rfl (fun a => absurd a (by decide)) (fun _ _ => ⟨rfl, rfl⟩)
set_option maxRecDepth 100000 in
theorem pe3_18_0 (kn : List rM) {m : Nat} (h : (rE0.1 m).cls = "PackHouse$Codes") : rpo (rpar kn) rE0 m 18 (0, 3, 2, .ref 11) := po0 (C := "PackHouse$Codes") (T := FT3) (N := 17) (ty := fy3 2) h rfl (by decide) rfl (tw2 (List.mem_of_getElem? (i := 228) rfl) rfl) (fp3 2 (by decide)) rfl (fun a => absurd a (by decide)) (fun _ _ => ⟨rfl, rfl⟩)
set_option maxRecDepth 100000 in
theorem pe3_21_0 (kn : List rM) {m : Nat} (h : (rE0.1 m).cls = "PackHouse$Codes") : rpo (rpar kn) rE0 m 21 (0, 3, 4, .ref 11) := po0 (C := "PackHouse$Codes") (T := FT3) (N := 17) (ty := fy3 4) h rfl (by decide) rfl (tw2 (List.mem_of_getElem? (i := 230) rfl) rfl) (fp3 4 (by decide)) rfl (fun a => absurd a (by decide)) (fun _ _ => ⟨rfl, rfl⟩)
set_option maxRecDepth 100000 in
theorem pe3_24_0 (kn : List rM) {m : Nat} (h : (rE0.1 m).cls = "PackHouse$Codes") : rpo (rpar kn) rE0 m 24 (0, 3, 5, .ref 11) := po0 (C := "PackHouse$Codes") (T := FT3) (N := 17) (ty := fy3 5) h rfl (by decide) rfl (tw2 (List.mem_of_getElem? (i := 231) rfl) rfl) (fp3 5 (by decide)) rfl (fun a => absurd a (by decide)) (fun _ _ => ⟨rfl, rfl⟩)
set_option maxRecDepth 100000 in
theorem pe3_27_12 (kn : List rM) {m : Nat} (h : (rE0.1 m).cls = "PackHouse$Codes") : rpo (rpar kn) rE0 m 27 (12, 8, 13, .null) := po12 (T := FT8) h rfl (tw2 (List.mem_of_getElem? (i := 157) rfl) rfl) (tw2 (List.mem_of_getElem? (i := 158) rfl) rfl) (tw1 (List.mem_of_getElem? (i := 17) rfl) rfl)
set_option maxRecDepth 100000 in
theorem pe3_29_22 (kn : List rM) {m : Nat} (h : (rE0.1 m).cls = "PackHouse$Codes") : rpo (rpar kn) rE0 m 29 (22, 111, 2, .ref 8) := po22 h (pm111 kn) (tw2 (List.mem_of_getElem? (i := 159) rfl) rfl) (tw2 (List.mem_of_getElem? (i := 160) rfl) rfl) rfl rfl
set_option maxRecDepth 100000 in
theorem pe3_32_0 (kn : List rM) {m : Nat} (h : (rE0.1 m).cls = "PackHouse$Codes") : rpo (rpar kn) rE0 m 32 (0, 3, 6, .ref 11) := po0 (C := "PackHouse$Codes") (T := FT3) (N := 17) (ty := fy3 6) h rfl (by decide) rfl (tw2 (List.mem_of_getElem? (i := 232) rfl) rfl) (fp3 6 (by decide)) rfl (fun a => absurd a (by decide)) (fun _ _ => ⟨rfl, rfl⟩)
set_option maxRecDepth 100000 in
theorem pe3_36_12 (kn : List rM) {m : Nat} (h : (rE0.1 m).cls = "PackHouse$Codes") : rpo (rpar kn) rE0 m 36 (12, 7, 5, .null) := po12 (T := FT7) h rfl (tw2 (List.mem_of_getElem? (i := 206) rfl) rfl) (tw1 (List.mem_of_getElem? (i := 33) rfl) rfl) (tw1 (List.mem_of_getElem? (i := 2) rfl) rfl)
set_option maxRecDepth 100000 in
theorem pe3_38_23 (kn : List rM) {m : Nat} (h : (rE0.1 m).cls = "PackHouse$Codes") : rpo (rpar kn) rE0 m 38 (23, 104, 0, .ref 7) := po23 h (pm104 kn) (tn2 (List.mem_of_getElem? (i := 207) rfl) rfl) (tw1 (List.mem_of_getElem? (i := 35) rfl) rfl) rfl rfl
set_option maxRecDepth 100000 in
theorem pe3_39_0 (kn : List rM) {m : Nat} (h : (rE0.1 m).cls = "PackHouse$Codes") : rpo (rpar kn) rE0 m 39 (0, 3, 7, .ref 11) := po0 (C := "PackHouse$Codes") (T := FT3) (N := 17) (ty := fy3 7) h rfl (by decide) rfl (tw2 (List.mem_of_getElem? (i := 233) rfl) rfl) (fp3 7 (by decide)) rfl (fun a => absurd a (by decide)) (fun _ _ => ⟨rfl, rfl⟩)
set_option maxRecDepth 100000 in
theorem pe3_43_0 (kn : List rM) {m : Nat} (h : (rE0.1 m).cls = "PackHouse$Codes") : rpo (rpar kn) rE0 m 43 (0, 3, 8, .ref 11) := po0 (C := "PackHouse$Codes") (T := FT3) (N := 17) (ty := fy3 8) h rfl (by decide) rfl (tw2 (List.mem_of_getElem? (i := 234) rfl) rfl) (fp3 8 (by decide)) rfl (fun a => absurd a (by decide)) (fun _ _ => ⟨rfl, rfl⟩)
set_option maxRecDepth 100000 in
theorem pe3_46_12 (kn : List rM) {m : Nat} (h : (rE0.1 m).cls = "PackHouse$Codes") : rpo (rpar kn) rE0 m 46 (12, 2, 3, .null) := po12 (T := FT2) h rfl (tw2 (List.mem_of_getElem? (i := 208) rfl) rfl) (tw2 (List.mem_of_getElem? (i := 209) rfl) rfl) (tw1 (List.mem_of_getElem? (i := 18) rfl) rfl)
set_option maxRecDepth 100000 in
theorem pe3_48_23 (kn : List rM) {m : Nat} (h : (rE0.1 m).cls = "PackHouse$Codes") : rpo (rpar kn) rE0 m 48 (23, 87, 0, .ref 2) := po23 h (pm87 kn) (tn2 (List.mem_of_getElem? (i := 210) rfl) rfl) (tw2 (List.mem_of_getElem? (i := 211) rfl) rfl) rfl rfl
set_option maxRecDepth 100000 in
theorem pe3_49_0 (kn : List rM) {m : Nat} (h : (rE0.1 m).cls = "PackHouse$Codes") : rpo (rpar kn) rE0 m 49 (0, 3, 9, .ref 11) := po0 (C := "PackHouse$Codes") (T := FT3) (N := 17) (ty := fy3 9) h rfl (by decide) rfl (tw2 (List.mem_of_getElem? (i := 235) rfl) rfl) (fp3 9 (by decide)) rfl (fun a => absurd a (by decide)) (fun _ _ => ⟨rfl, rfl⟩)
set_option maxRecDepth 100000 in
theorem pe3_53_0 (kn : List rM) {m : Nat} (h : (rE0.1 m).cls = "PackHouse$Codes") : rpo (rpar kn) rE0 m 53 (0, 3, 10, .ref 11) := po0 (C := "PackHouse$Codes") (T := FT3) (N := 17) (ty := fy3 10) h rfl (by decide) rfl (tw2 (List.mem_of_getElem? (i := 236) rfl) rfl) (fp3 10 (by decide)) rfl (fun a => absurd a (by decide)) (fun _ _ => ⟨rfl, rfl⟩)
set_option maxRecDepth 100000 in
theorem pe3_56_0 (kn : List rM) {m : Nat} (h : (rE0.1 m).cls = "PackHouse$Codes") : rpo (rpar kn) rE0 m 56 (0, 3, 11, .ref 11) := po0 (C := "PackHouse$Codes") (T := FT3) (N := 17) (ty := fy3 11) h rfl (by decide) rfl (tw2 (List.mem_of_getElem? (i := 237) rfl) rfl) (fp3 11 (by decide)) rfl (fun a => absurd a (by decide)) (fun _ _ => ⟨rfl, rfl⟩)
set_option maxRecDepth 100000 in
theorem pe3_59_0 (kn : List rM) {m : Nat} (h : (rE0.1 m).cls = "PackHouse$Codes") : rpo (rpar kn) rE0 m 59 (0, 3, 12, .ref 11) := po0 (C := "PackHouse$Codes") (T := FT3) (N := 17) (ty := fy3 12) h rfl (by decide) rfl (tw2 (List.mem_of_getElem? (i := 238) rfl) rfl) (fp3 12 (by decide)) rfl (fun a => absurd a (by decide)) (fun _ _ => ⟨rfl, rfl⟩)
set_option maxRecDepth 100000 in
theorem pl3 (kn : List rM) {m : Nat} (h : (rE0.1 m).cls = "PackHouse$Codes") : ∀ q ∈ pool_3, rpo (rpar kn) rE0 m q.1 q.2 := List.forall_mem_cons.mpr ⟨pe3_3_26 kn h, List.forall_mem_cons.mpr ⟨pe3_11_0 kn h, List.forall_mem_cons.mpr ⟨pe3_15_0 kn h, List.forall_mem_cons.mpr ⟨pe3_18_0 kn h, List.forall_mem_cons.mpr ⟨pe3_21_0 kn h, List.forall_mem_cons.mpr ⟨pe3_24_0 kn h, List.forall_mem_cons.mpr ⟨pe3_27_12 kn h, List.forall_mem_cons.mpr ⟨pe3_29_22 kn h, List.forall_mem_cons.mpr ⟨pe3_32_0 kn h, List.forall_mem_cons.mpr ⟨pe3_36_12 kn h, List.forall_mem_cons.mpr ⟨pe3_38_23 kn h, List.forall_mem_cons.mpr ⟨pe3_39_0 kn h, List.forall_mem_cons.mpr ⟨pe3_43_0 kn h, List.forall_mem_cons.mpr ⟨pe3_46_12 kn h, List.forall_mem_cons.mpr ⟨pe3_48_23 kn h, List.forall_mem_cons.mpr ⟨pe3_49_0 kn h, List.forall_mem_cons.mpr ⟨pe3_53_0 kn h, List.forall_mem_cons.mpr ⟨pe3_56_0 kn h, List.forall_mem_cons.mpr ⟨pe3_59_0 kn h, (fun _ h => absurd h List.not_mem_nil)⟩⟩⟩⟩⟩⟩⟩⟩⟩⟩⟩⟩⟩⟩⟩⟩⟩⟩⟩
set_option maxRecDepth 100000 in
theorem pe4_3_26 (kn : List rM) {m : Nat} (h : (rE0.1 m).cls = "PackHouse$Dictionary") : rpo (rpar kn) rE0 m 3 (26, 0, 0, .null) := po26 h (tw1 (List.mem_of_getElem? (i := 80) rfl) rfl)
set_option maxRecDepth 100000 in
theorem pe4_9_12 (kn : List rM) {m : Nat} (h : (rE0.1 m).cls = "PackHouse$Dictionary") : rpo (rpar kn) rE0 m 9 (12, 7, 5, .null) := po12 (T := FT7) h rfl (tw1 (List.mem_of_getElem? (i := 81) rfl) rfl) (tw1 (List.mem_of_getElem? (i := 33) rfl) rfl) (tw1 (List.mem_of_getElem? (i := 2) rfl) rfl)
set_option maxRecDepth 100000 in
theorem pe4_11_23 (kn : List rM) {m : Nat} (h : (rE0.1 m).cls = "PackHouse$Dictionary") : rpo (rpar kn) rE0 m 11 (23, 104, 0, .ref 7) := po23 h (pm104 kn) (tn1 (List.mem_of_getElem? (i := 82) rfl) rfl) (tw1 (List.mem_of_getElem? (i := 35) rfl) rfl) rfl rfl
set_option maxRecDepth 100000 in
theorem pe4_12_0 (kn : List rM) {m : Nat} (h : (rE0.1 m).cls = "PackHouse$Dictionary") : rpo (rpar kn) rE0 m 12 (0, 4, 0, .ref 11) := po0 (C := "PackHouse$Dictionary") (T := FT4) (N := 5) (ty := fy4 0) h rfl (by decide) rfl (tw1 (List.mem_of_getElem? (i := 112) rfl) rfl) (fp4 0 (by decide)) rfl (fun a => absurd a (by decide)) (fun _ _ => ⟨rfl, rfl⟩)
set_option maxRecDepth 100000 in
theorem pe4_18_12 (kn : List rM) {m : Nat} (h : (rE0.1 m).cls = "PackHouse$Dictionary") : rpo (rpar kn) rE0 m 18 (12, 9, 3, .null) := po12 (T := FT9) h rfl (tw1 (List.mem_of_getElem? (i := 83) rfl) rfl) (tw1 (List.mem_of_getElem? (i := 84) rfl) rfl) (tw1 (List.mem_of_getElem? (i := 4) rfl) rfl)
set_option maxRecDepth 100000 in
theorem pe4_20_23 (kn : List rM) {m : Nat} (h : (rE0.1 m).cls = "PackHouse$Dictionary") : rpo (rpar kn) rE0 m 20 (23, 114, 0, .ref 9) := po23 h (pm114 kn) (tn1 (List.mem_of_getElem? (i := 85) rfl) rfl) (tw1 (List.mem_of_getElem? (i := 86) rfl) rfl) rfl rfl
set_option maxRecDepth 100000 in
theorem pe4_21_0 (kn : List rM) {m : Nat} (h : (rE0.1 m).cls = "PackHouse$Dictionary") : rpo (rpar kn) rE0 m 21 (0, 4, 1, .ref 11) := po0 (C := "PackHouse$Dictionary") (T := FT4) (N := 5) (ty := fy4 1) h rfl (by decide) rfl (tw1 (List.mem_of_getElem? (i := 116) rfl) rfl) (fp4 1 (by decide)) rfl (fun a => absurd a (by decide)) (fun _ _ => ⟨rfl, rfl⟩)
set_option maxRecDepth 100000 in
theorem pe4_25_20 (kn : List rM) {m : Nat} (h : (rE0.1 m).cls = "PackHouse$Dictionary") : rpo (rpar kn) rE0 m 25 (20, 105, 0, .ref 7) := po20 h (pm105 kn) (tw2 (List.mem_of_getElem? (i := 139) rfl) rfl) (tw2 (List.mem_of_getElem? (i := 123) rfl) rfl) (tw2 (List.mem_of_getElem? (i := 124) rfl) rfl) rfl rfl
set_option maxRecDepth 100000 in
theorem pe4_28_20 (kn : List rM) {m : Nat} (h : (rE0.1 m).cls = "PackHouse$Dictionary") : rpo (rpar kn) rE0 m 28 (20, 115, 0, .ref 9) := po20 h (pm115 kn) (tw2 (List.mem_of_getElem? (i := 140) rfl) rfl) (tw2 (List.mem_of_getElem? (i := 141) rfl) rfl) (tw2 (List.mem_of_getElem? (i := 142) rfl) rfl) rfl rfl
set_option maxRecDepth 100000 in
theorem pe4_29_0 (kn : List rM) {m : Nat} (h : (rE0.1 m).cls = "PackHouse$Dictionary") : rpo (rpar kn) rE0 m 29 (0, 4, 2, .ref 0) := po0 (C := "PackHouse$Dictionary") (T := FT4) (N := 5) (ty := fy4 2) h rfl (by decide) rfl (tw1 (List.mem_of_getElem? (i := 119) rfl) rfl) (fp4 2 (by decide)) rfl (fun _ => rfl) (fun a _ => absurd a (by decide))
set_option maxRecDepth 100000 in
theorem pe4_33_0 (kn : List rM) {m : Nat} (h : (rE0.1 m).cls = "PackHouse$Dictionary") : rpo (rpar kn) rE0 m 33 (0, 7, 0, .ref 3) := po0 (C := "PackHouse$Row") (T := FT7) (N := 5) (ty := fy7 0) h rfl (by decide) rfl (tw1 (List.mem_of_getElem? (i := 39) rfl) rfl) (fp7 0 (by decide)) rfl (fun _ => rfl) (fun a _ => absurd a (by decide))
set_option maxRecDepth 100000 in
theorem pe4_37_0 (kn : List rM) {m : Nat} (h : (rE0.1 m).cls = "PackHouse$Dictionary") : rpo (rpar kn) rE0 m 37 (0, 7, 1, .ref 0) := po0 (C := "PackHouse$Row") (T := FT7) (N := 5) (ty := fy7 1) h rfl (by decide) rfl (tw1 (List.mem_of_getElem? (i := 48) rfl) rfl) (fp7 1 (by decide)) rfl (fun _ => rfl) (fun a _ => absurd a (by decide))
set_option maxRecDepth 100000 in
theorem pe4_40_20 (kn : List rM) {m : Nat} (h : (rE0.1 m).cls = "PackHouse$Dictionary") : rpo (rpar kn) rE0 m 40 (20, 90, 0, .ref 4) := po20 h (pm90 kn) (tw2 (List.mem_of_getElem? (i := 135) rfl) rfl) (tw2 (List.mem_of_getElem? (i := 136) rfl) rfl) (tw2 (List.mem_of_getElem? (i := 137) rfl) rfl) rfl rfl
set_option maxRecDepth 100000 in
theorem pe4_41_25 (kn : List rM) {m : Nat} (h : (rE0.1 m).cls = "PackHouse$Dictionary") : rpo (rpar kn) rE0 m 41 (25, 41, 2, .null) := po25 h (pm41 kn) (tn2 (List.mem_of_getElem? (i := 144) rfl) rfl) (tw2 (List.mem_of_getElem? (i := 67) rfl) rfl)
set_option maxRecDepth 100000 in
theorem pe4_45_10 (kn : List rM) {m : Nat} (h : (rE0.1 m).cls = "PackHouse$Dictionary") : rpo (rpar kn) rE0 m 45 (10, 0, 0, .int (-332356553)) := po10 h (tw2 (List.mem_of_getElem? (i := 145) rfl) rfl)
set_option maxRecDepth 100000 in
theorem pe4_46_20 (kn : List rM) {m : Nat} (h : (rE0.1 m).cls = "PackHouse$Dictionary") : rpo (rpar kn) rE0 m 46 (20, 107, 1, .ref 7) := po20 h (pm107 kn) (tw2 (List.mem_of_getElem? (i := 146) rfl) rfl) (tw2 (List.mem_of_getElem? (i := 119) rfl) rfl) (tw2 (List.mem_of_getElem? (i := 120) rfl) rfl) rfl rfl
set_option maxRecDepth 100000 in
theorem pe4_53_0 (kn : List rM) {m : Nat} (h : (rE0.1 m).cls = "PackHouse$Dictionary") : rpo (rpar kn) rE0 m 53 (0, 4, 3, .ref 3) := po0 (C := "PackHouse$Dictionary") (T := FT4) (N := 5) (ty := fy4 3) h rfl (by decide) rfl (tw1 (List.mem_of_getElem? (i := 123) rfl) rfl) (fp4 3 (by decide)) rfl (fun _ => rfl) (fun a _ => absurd a (by decide))
set_option maxRecDepth 100000 in
theorem pe4_67_0 (kn : List rM) {m : Nat} (h : (rE0.1 m).cls = "PackHouse$Dictionary") : rpo (rpar kn) rE0 m 67 (0, 9, 0, .ref 3) := po0 (C := "PackHouse$Stand") (T := FT9) (N := 3) (ty := fy9 0) h rfl (by decide) rfl (tw1 (List.mem_of_getElem? (i := 94) rfl) rfl) (fp9 0 (by decide)) rfl (fun _ => rfl) (fun a _ => absurd a (by decide))
set_option maxRecDepth 100000 in
theorem pe4_80_12 (kn : List rM) {m : Nat} (h : (rE0.1 m).cls = "PackHouse$Dictionary") : rpo (rpar kn) rE0 m 80 (12, 8, 13, .null) := po12 (T := FT8) h rfl (tw3 (List.mem_of_getElem? (i := 41) rfl) rfl) (tw2 (List.mem_of_getElem? (i := 158) rfl) rfl) (tw1 (List.mem_of_getElem? (i := 17) rfl) rfl)
set_option maxRecDepth 100000 in
theorem pe4_80_13 (kn : List rM) {m : Nat} (h : (rE0.1 m).cls = "PackHouse$Dictionary") : rpo (rpar kn) rE0 m 80 (13, 5, 0, .null) := po13 h rfl (tw3 (List.mem_of_getElem? (i := 41) rfl) rfl) (tn1 (List.mem_of_getElem? (i := 90) rfl) rfl)
set_option maxRecDepth 100000 in
theorem pe4_82_15 (kn : List rM) {m : Nat} (h : (rE0.1 m).cls = "PackHouse$Dictionary") : rpo (rpar kn) rE0 m 82 (15, 2, 0, .null) := po15 h (by decide) (tn3 (List.mem_of_getElem? (i := 42) rfl) rfl)
set_option maxRecDepth 100000 in
theorem pe4_86_15 (kn : List rM) {m : Nat} (h : (rE0.1 m).cls = "PackHouse$Dictionary") : rpo (rpar kn) rE0 m 86 (15, 3, 0, .null) := po15 h (by decide) (tn3 (List.mem_of_getElem? (i := 44) rfl) rfl)
set_option maxRecDepth 100000 in
theorem pe4_89_22 (kn : List rM) {m : Nat} (h : (rE0.1 m).cls = "PackHouse$Dictionary") : rpo (rpar kn) rE0 m 89 (22, 111, 2, .ref 8) := po22 h (pm111 kn) (tw3 (List.mem_of_getElem? (i := 46) rfl) rfl) (tw2 (List.mem_of_getElem? (i := 160) rfl) rfl) rfl rfl
set_option maxRecDepth 100000 in
theorem pl4 (kn : List rM) {m : Nat} (h : (rE0.1 m).cls = "PackHouse$Dictionary") : ∀ q ∈ pool_4, rpo (rpar kn) rE0 m q.1 q.2 := List.forall_mem_cons.mpr ⟨pe4_3_26 kn h, List.forall_mem_cons.mpr ⟨pe4_9_12 kn h, List.forall_mem_cons.mpr ⟨pe4_11_23 kn h, List.forall_mem_cons.mpr ⟨pe4_12_0 kn h, List.forall_mem_cons.mpr ⟨pe4_18_12 kn h, List.forall_mem_cons.mpr ⟨pe4_20_23 kn h, List.forall_mem_cons.mpr ⟨pe4_21_0 kn h, List.forall_mem_cons.mpr ⟨pe4_25_20 kn h, List.forall_mem_cons.mpr ⟨pe4_28_20 kn h, List.forall_mem_cons.mpr ⟨pe4_29_0 kn h, List.forall_mem_cons.mpr ⟨pe4_33_0 kn h, List.forall_mem_cons.mpr ⟨pe4_37_0 kn h, List.forall_mem_cons.mpr ⟨pe4_40_20 kn h, List.forall_mem_cons.mpr ⟨pe4_41_25 kn h, List.forall_mem_cons.mpr ⟨pe4_45_10 kn h, List.forall_mem_cons.mpr ⟨pe4_46_20 kn h, List.forall_mem_cons.mpr ⟨pe4_53_0 kn h, List.forall_mem_cons.mpr ⟨pe4_67_0 kn h, List.forall_mem_cons.mpr ⟨pe4_80_12 kn h, List.forall_mem_cons.mpr ⟨pe4_80_13 kn h, List.forall_mem_cons.mpr ⟨pe4_82_15 kn h, List.forall_mem_cons.mpr ⟨pe4_86_15 kn h, List.forall_mem_cons.mpr ⟨pe4_89_22 kn h, (fun _ h => absurd h List.not_mem_nil)⟩⟩⟩⟩⟩⟩⟩⟩⟩⟩⟩⟩⟩⟩⟩⟩⟩⟩⟩⟩⟩⟩⟩
set_option maxRecDepth 100000 in
theorem pe5_3_26 (kn : List rM) {m : Nat} (h : (rE0.1 m).cls = "PackHouse$Finder") : rpo (rpar kn) rE0 m 3 (26, 0, 0, .null) := po26 h (tw3 (List.mem_of_getElem? (i := 154) rfl) rfl)
set_option maxRecDepth 100000 in
theorem pe5_9_12 (kn : List rM) {m : Nat} (h : (rE0.1 m).cls = "PackHouse$Finder") : rpo (rpar kn) rE0 m 9 (12, 7, 5, .null) := po12 (T := FT7) h rfl (tw3 (List.mem_of_getElem? (i := 155) rfl) rfl) (tw1 (List.mem_of_getElem? (i := 33) rfl) rfl) (tw1 (List.mem_of_getElem? (i := 2) rfl) rfl)
set_option maxRecDepth 100000 in
theorem pe5_11_23 (kn : List rM) {m : Nat} (h : (rE0.1 m).cls = "PackHouse$Finder") : rpo (rpar kn) rE0 m 11 (23, 104, 0, .ref 7) := po23 h (pm104 kn) (tn3 (List.mem_of_getElem? (i := 156) rfl) rfl) (tw1 (List.mem_of_getElem? (i := 35) rfl) rfl) rfl rfl
set_option maxRecDepth 100000 in
theorem pe5_12_0 (kn : List rM) {m : Nat} (h : (rE0.1 m).cls = "PackHouse$Finder") : rpo (rpar kn) rE0 m 12 (0, 5, 0, .ref 11) := po0 (C := "PackHouse$Finder") (T := FT5) (N := 19) (ty := fy5 0) h rfl (by decide) rfl (tw3 (List.mem_of_getElem? (i := 157) rfl) rfl) (fp5 0 (by decide)) rfl (fun a => absurd a (by decide)) (fun _ _ => ⟨rfl, rfl⟩)
set_option maxRecDepth 100000 in
theorem pe5_18_0 (kn : List rM) {m : Nat} (h : (rE0.1 m).cls = "PackHouse$Finder") : rpo (rpar kn) rE0 m 18 (0, 5, 1, .ref 3) := po0 (C := "PackHouse$Finder") (T := FT5) (N := 19) (ty := fy5 1) h rfl (by decide) rfl (tw3 (List.mem_of_getElem? (i := 161) rfl) rfl) (fp5 1 (by decide)) rfl (fun _ => rfl) (fun a _ => absurd a (by decide))
set_option maxRecDepth 100000 in
theorem pe5_22_0 (kn : List rM) {m : Nat} (h : (rE0.1 m).cls = "PackHouse$Finder") : rpo (rpar kn) rE0 m 22 (0, 5, 2, .ref 3) := po0 (C := "PackHouse$Finder") (T := FT5) (N := 19) (ty := fy5 2) h rfl (by decide) rfl (tw3 (List.mem_of_getElem? (i := 165) rfl) rfl) (fp5 2 (by decide)) rfl (fun _ => rfl) (fun a _ => absurd a (by decide))
set_option maxRecDepth 100000 in
theorem pe5_25_0 (kn : List rM) {m : Nat} (h : (rE0.1 m).cls = "PackHouse$Finder") : rpo (rpar kn) rE0 m 25 (0, 5, 3, .ref 3) := po0 (C := "PackHouse$Finder") (T := FT5) (N := 19) (ty := fy5 3) h rfl (by decide) rfl (tw3 (List.mem_of_getElem? (i := 169) rfl) rfl) (fp5 3 (by decide)) rfl (fun _ => rfl) (fun a _ => absurd a (by decide))
set_option maxRecDepth 100000 in
theorem pe5_28_0 (kn : List rM) {m : Nat} (h : (rE0.1 m).cls = "PackHouse$Finder") : rpo (rpar kn) rE0 m 28 (0, 5, 7, .ref 3) := po0 (C := "PackHouse$Finder") (T := FT5) (N := 19) (ty := fy5 7) h rfl (by decide) rfl (tw3 (List.mem_of_getElem? (i := 183) rfl) rfl) (fp5 7 (by decide)) rfl (fun _ => rfl) (fun a _ => absurd a (by decide))
set_option maxRecDepth 100000 in
theorem pe5_31_0 (kn : List rM) {m : Nat} (h : (rE0.1 m).cls = "PackHouse$Finder") : rpo (rpar kn) rE0 m 31 (0, 5, 8, .ref 3) := po0 (C := "PackHouse$Finder") (T := FT5) (N := 19) (ty := fy5 8) h rfl (by decide) rfl (tw3 (List.mem_of_getElem? (i := 184) rfl) rfl) (fp5 8 (by decide)) rfl (fun _ => rfl) (fun a _ => absurd a (by decide))
set_option maxRecDepth 100000 in
theorem pe5_34_0 (kn : List rM) {m : Nat} (h : (rE0.1 m).cls = "PackHouse$Finder") : rpo (rpar kn) rE0 m 34 (0, 5, 9, .ref 0) := po0 (C := "PackHouse$Finder") (T := FT5) (N := 19) (ty := fy5 9) h rfl (by decide) rfl (tw3 (List.mem_of_getElem? (i := 185) rfl) rfl) (fp5 9 (by decide)) rfl (fun _ => rfl) (fun a _ => absurd a (by decide))
set_option maxRecDepth 100000 in
theorem pe5_38_0 (kn : List rM) {m : Nat} (h : (rE0.1 m).cls = "PackHouse$Finder") : rpo (rpar kn) rE0 m 38 (0, 5, 10, .ref 0) := po0 (C := "PackHouse$Finder") (T := FT5) (N := 19) (ty := fy5 10) h rfl (by decide) rfl (tw3 (List.mem_of_getElem? (i := 186) rfl) rfl) (fp5 10 (by decide)) rfl (fun _ => rfl) (fun a _ => absurd a (by decide))
set_option maxRecDepth 100000 in
theorem pe5_41_0 (kn : List rM) {m : Nat} (h : (rE0.1 m).cls = "PackHouse$Finder") : rpo (rpar kn) rE0 m 41 (0, 5, 11, .ref 0) := po0 (C := "PackHouse$Finder") (T := FT5) (N := 19) (ty := fy5 11) h rfl (by decide) rfl (tw3 (List.mem_of_getElem? (i := 187) rfl) rfl) (fp5 11 (by decide)) rfl (fun _ => rfl) (fun a _ => absurd a (by decide))
set_option maxRecDepth 100000 in
theorem pe5_44_0 (kn : List rM) {m : Nat} (h : (rE0.1 m).cls = "PackHouse$Finder") : rpo (rpar kn) rE0 m 44 (0, 5, 6, .ref 0) := po0 (C := "PackHouse$Finder") (T := FT5) (N := 19) (ty := fy5 6) h rfl (by decide) rfl (tw3 (List.mem_of_getElem? (i := 181) rfl) rfl) (fp5 6 (by decide)) rfl (fun _ => rfl) (fun a _ => absurd a (by decide))
set_option maxRecDepth 100000 in
theorem pe5_47_28 (kn : List rM) {m : Nat} (h : (rE0.1 m).cls = "PackHouse$Finder") : rpo (rpar kn) rE0 m 47 (28, 0, 0, .null) := po28 h (tw4 (List.mem_of_getElem? (i := 52) rfl) rfl)
set_option maxRecDepth 100000 in
theorem pe5_58_29 (kn : List rM) {m : Nat} (h : (rE0.1 m).cls = "PackHouse$Finder") : rpo (rpar kn) rE0 m 58 (29, 0, 0, .null) := po29 h (tw4 (List.mem_of_getElem? (i := 61) rfl) rfl)
set_option maxRecDepth 100000 in
theorem pe5_64_30 (kn : List rM) {m : Nat} (h : (rE0.1 m).cls = "PackHouse$Finder") : rpo (rpar kn) rE0 m 64 (30, 0, 0, .null) := po30 h (tw4 (List.mem_of_getElem? (i := 62) rfl) rfl)
set_option maxRecDepth 100000 in
theorem pe5_75_0 (kn : List rM) {m : Nat} (h : (rE0.1 m).cls = "PackHouse$Finder") : rpo (rpar kn) rE0 m 75 (0, 5, 12, .ref 0) := po0 (C := "PackHouse$Finder") (T := FT5) (N := 19) (ty := fy5 12) h rfl (by decide) rfl (tw3 (List.mem_of_getElem? (i := 188) rfl) rfl) (fp5 12 (by decide)) rfl (fun _ => rfl) (fun a _ => absurd a (by decide))
set_option maxRecDepth 100000 in
theorem pe5_78_0 (kn : List rM) {m : Nat} (h : (rE0.1 m).cls = "PackHouse$Finder") : rpo (rpar kn) rE0 m 78 (0, 5, 13, .ref 0) := po0 (C := "PackHouse$Finder") (T := FT5) (N := 19) (ty := fy5 13) h rfl (by decide) rfl (tw3 (List.mem_of_getElem? (i := 189) rfl) rfl) (fp5 13 (by decide)) rfl (fun _ => rfl) (fun a _ => absurd a (by decide))
set_option maxRecDepth 100000 in
theorem pe5_81_0 (kn : List rM) {m : Nat} (h : (rE0.1 m).cls = "PackHouse$Finder") : rpo (rpar kn) rE0 m 81 (0, 5, 4, .ref 0) := po0 (C := "PackHouse$Finder") (T := FT5) (N := 19) (ty := fy5 4) h rfl (by decide) rfl (tw3 (List.mem_of_getElem? (i := 175) rfl) rfl) (fp5 4 (by decide)) rfl (fun _ => rfl) (fun a _ => absurd a (by decide))
set_option maxRecDepth 100000 in
theorem pe5_84_0 (kn : List rM) {m : Nat} (h : (rE0.1 m).cls = "PackHouse$Finder") : rpo (rpar kn) rE0 m 84 (0, 5, 16, .ref 0) := po0 (C := "PackHouse$Finder") (T := FT5) (N := 19) (ty := fy5 16) h rfl (by decide) rfl (tw3 (List.mem_of_getElem? (i := 192) rfl) rfl) (fp5 16 (by decide)) rfl (fun _ => rfl) (fun a _ => absurd a (by decide))
set_option maxRecDepth 100000 in
theorem pe5_95_0 (kn : List rM) {m : Nat} (h : (rE0.1 m).cls = "PackHouse$Finder") : rpo (rpar kn) rE0 m 95 (0, 5, 14, .ref 0) := po0 (C := "PackHouse$Finder") (T := FT5) (N := 19) (ty := fy5 14) h rfl (by decide) rfl (tw3 (List.mem_of_getElem? (i := 190) rfl) rfl) (fp5 14 (by decide)) rfl (fun _ => rfl) (fun a _ => absurd a (by decide))
set_option maxRecDepth 100000 in
theorem pe5_98_0 (kn : List rM) {m : Nat} (h : (rE0.1 m).cls = "PackHouse$Finder") : rpo (rpar kn) rE0 m 98 (0, 5, 5, .ref 0) := po0 (C := "PackHouse$Finder") (T := FT5) (N := 19) (ty := fy5 5) h rfl (by decide) rfl (tw3 (List.mem_of_getElem? (i := 179) rfl) rfl) (fp5 5 (by decide)) rfl (fun _ => rfl) (fun a _ => absurd a (by decide))
set_option maxRecDepth 100000 in
theorem pl5 (kn : List rM) {m : Nat} (h : (rE0.1 m).cls = "PackHouse$Finder") : ∀ q ∈ pool_5, rpo (rpar kn) rE0 m q.1 q.2 := List.forall_mem_cons.mpr ⟨pe5_3_26 kn h, List.forall_mem_cons.mpr ⟨pe5_9_12 kn h, List.forall_mem_cons.mpr ⟨pe5_11_23 kn h, List.forall_mem_cons.mpr ⟨pe5_12_0 kn h, List.forall_mem_cons.mpr ⟨pe5_18_0 kn h, List.forall_mem_cons.mpr ⟨pe5_22_0 kn h, List.forall_mem_cons.mpr ⟨pe5_25_0 kn h, List.forall_mem_cons.mpr ⟨pe5_28_0 kn h, List.forall_mem_cons.mpr ⟨pe5_31_0 kn h, List.forall_mem_cons.mpr ⟨pe5_34_0 kn h, List.forall_mem_cons.mpr ⟨pe5_38_0 kn h, List.forall_mem_cons.mpr ⟨pe5_41_0 kn h, List.forall_mem_cons.mpr ⟨pe5_44_0 kn h, List.forall_mem_cons.mpr ⟨pe5_47_28 kn h, List.forall_mem_cons.mpr ⟨pe5_58_29 kn h, List.forall_mem_cons.mpr ⟨pe5_64_30 kn h, List.forall_mem_cons.mpr ⟨pe5_75_0 kn h, List.forall_mem_cons.mpr ⟨pe5_78_0 kn h, List.forall_mem_cons.mpr ⟨pe5_81_0 kn h, List.forall_mem_cons.mpr ⟨pe5_84_0 kn h, List.forall_mem_cons.mpr ⟨pe5_95_0 kn h, List.forall_mem_cons.mpr ⟨pe5_98_0 kn h, (fun _ h => absurd h List.not_mem_nil)⟩⟩⟩⟩⟩⟩⟩⟩⟩⟩⟩⟩⟩⟩⟩⟩⟩⟩⟩⟩⟩⟩
set_option maxRecDepth 100000 in
theorem pe6_3_26 (kn : List rM) {m : Nat} (h : (rE0.1 m).cls = "PackHouse$Packer") : rpo (rpar kn) rE0 m 3 (26, 0, 0, .null) := po26 h (tw5 (List.mem_of_getElem? (i := 19) rfl) rfl)
set_option maxRecDepth 100000 in
theorem pe6_9_12 (kn : List rM) {m : Nat} (h : (rE0.1 m).cls = "PackHouse$Packer") : rpo (rpar kn) rE0 m 9 (12, 3, 17, .null) := po12 (T := FT3) h rfl (tw5 (List.mem_of_getElem? (i := 20) rfl) rfl) (tw2 (List.mem_of_getElem? (i := 152) rfl) rfl) (tw1 (List.mem_of_getElem? (i := 16) rfl) rfl)
set_option maxRecDepth 100000 in
theorem pe6_9_13 (kn : List rM) {m : Nat} (h : (rE0.1 m).cls = "PackHouse$Packer") : rpo (rpar kn) rE0 m 9 (13, 6, 0, .null) := po13 h rfl (tw5 (List.mem_of_getElem? (i := 20) rfl) rfl) (tn5 (List.mem_of_getElem? (i := 21) rfl) rfl)
set_option maxRecDepth 100000 in
theorem pe6_11_23 (kn : List rM) {m : Nat} (h : (rE0.1 m).cls = "PackHouse$Packer") : rpo (rpar kn) rE0 m 11 (23, 88, 0, .ref 3) := po23 h (pm88 kn) (tn5 (List.mem_of_getElem? (i := 22) rfl) rfl) (tw2 (List.mem_of_getElem? (i := 154) rfl) rfl) rfl rfl
set_option maxRecDepth 100000 in
theorem pe6_12_0 (kn : List rM) {m : Nat} (h : (rE0.1 m).cls = "PackHouse$Packer") : rpo (rpar kn) rE0 m 12 (0, 6, 3, .ref 11) := po0 (C := "PackHouse$Packer") (T := FT6) (N := 19) (ty := fy6 3) h rfl (by decide) rfl (tw5 (List.mem_of_getElem? (i := 33) rfl) rfl) (fp6 3 (by decide)) rfl (fun a => absurd a (by decide)) (fun _ _ => ⟨rfl, rfl⟩)
set_option maxRecDepth 100000 in
theorem pe6_18_24 (kn : List rM) {m : Nat} (h : (rE0.1 m).cls = "PackHouse$Packer") : rpo (rpar kn) rE0 m 18 (24, 92, 0, .null) := po24 h (pm92 kn) (tw5 (List.mem_of_getElem? (i := 23) rfl) rfl) (tw3 (List.mem_of_getElem? (i := 39) rfl) rfl)
set_option maxRecDepth 100000 in
theorem pe6_24_0 (kn : List rM) {m : Nat} (h : (rE0.1 m).cls = "PackHouse$Packer") : rpo (rpar kn) rE0 m 24 (0, 6, 4, .ref 11) := po0 (C := "PackHouse$Packer") (T := FT6) (N := 19) (ty := fy6 4) h rfl (by decide) rfl (tw5 (List.mem_of_getElem? (i := 34) rfl) rfl) (fp6 4 (by decide)) rfl (fun a => absurd a (by decide)) (fun _ _ => ⟨rfl, rfl⟩)
set_option maxRecDepth 100000 in
theorem pe6_28_0 (kn : List rM) {m : Nat} (h : (rE0.1 m).cls = "PackHouse$Packer") : rpo (rpar kn) rE0 m 28 (0, 6, 5, .ref 11) := po0 (C := "PackHouse$Packer") (T := FT6) (N := 19) (ty := fy6 5) h rfl (by decide) rfl (tw5 (List.mem_of_getElem? (i := 35) rfl) rfl) (fp6 5 (by decide)) rfl (fun a => absurd a (by decide)) (fun _ _ => ⟨rfl, rfl⟩)
set_option maxRecDepth 100000 in
theorem pe6_31_12 (kn : List rM) {m : Nat} (h : (rE0.1 m).cls = "PackHouse$Packer") : rpo (rpar kn) rE0 m 31 (12, 9, 3, .null) := po12 (T := FT9) h rfl (tw5 (List.mem_of_getElem? (i := 24) rfl) rfl) (tw1 (List.mem_of_getElem? (i := 84) rfl) rfl) (tw1 (List.mem_of_getElem? (i := 4) rfl) rfl)
set_option maxRecDepth 100000 in
theorem pe6_33_23 (kn : List rM) {m : Nat} (h : (rE0.1 m).cls = "PackHouse$Packer") : rpo (rpar kn) rE0 m 33 (23, 114, 0, .ref 9) := po23 h (pm114 kn) (tn5 (List.mem_of_getElem? (i := 25) rfl) rfl) (tw1 (List.mem_of_getElem? (i := 86) rfl) rfl) rfl rfl
set_option maxRecDepth 100000 in
theorem pe6_34_0 (kn : List rM) {m : Nat} (h : (rE0.1 m).cls = "PackHouse$Packer") : rpo (rpar kn) rE0 m 34 (0, 6, 6, .ref 11) := po0 (C := "PackHouse$Packer") (T := FT6) (N := 19) (ty := fy6 6) h rfl (by decide) rfl (tw5 (List.mem_of_getElem? (i := 36) rfl) rfl) (fp6 6 (by decide)) rfl (fun a => absurd a (by decide)) (fun _ _ => ⟨rfl, rfl⟩)
set_option maxRecDepth 100000 in
theorem pe6_38_0 (kn : List rM) {m : Nat} (h : (rE0.1 m).cls = "PackHouse$Packer") : rpo (rpar kn) rE0 m 38 (0, 6, 7, .ref 11) := po0 (C := "PackHouse$Packer") (T := FT6) (N := 19) (ty := fy6 7) h rfl (by decide) rfl (tw5 (List.mem_of_getElem? (i := 37) rfl) rfl) (fp6 7 (by decide)) rfl (fun a => absurd a (by decide)) (fun _ _ => ⟨rfl, rfl⟩)
set_option maxRecDepth 100000 in
theorem pe6_41_12 (kn : List rM) {m : Nat} (h : (rE0.1 m).cls = "PackHouse$Packer") : rpo (rpar kn) rE0 m 41 (12, 7, 5, .null) := po12 (T := FT7) h rfl (tw5 (List.mem_of_getElem? (i := 26) rfl) rfl) (tw1 (List.mem_of_getElem? (i := 33) rfl) rfl) (tw1 (List.mem_of_getElem? (i := 2) rfl) rfl)
set_option maxRecDepth 100000 in
theorem pe6_43_23 (kn : List rM) {m : Nat} (h : (rE0.1 m).cls = "PackHouse$Packer") : rpo (rpar kn) rE0 m 43 (23, 104, 0, .ref 7) := po23 h (pm104 kn) (tn5 (List.mem_of_getElem? (i := 27) rfl) rfl) (tw1 (List.mem_of_getElem? (i := 35) rfl) rfl) rfl rfl
set_option maxRecDepth 100000 in
theorem pe6_44_0 (kn : List rM) {m : Nat} (h : (rE0.1 m).cls = "PackHouse$Packer") : rpo (rpar kn) rE0 m 44 (0, 6, 8, .ref 11) := po0 (C := "PackHouse$Packer") (T := FT6) (N := 19) (ty := fy6 8) h rfl (by decide) rfl (tw5 (List.mem_of_getElem? (i := 38) rfl) rfl) (fp6 8 (by decide)) rfl (fun a => absurd a (by decide)) (fun _ _ => ⟨rfl, rfl⟩)
set_option maxRecDepth 100000 in
theorem pe6_48_0 (kn : List rM) {m : Nat} (h : (rE0.1 m).cls = "PackHouse$Packer") : rpo (rpar kn) rE0 m 48 (0, 6, 9, .ref 11) := po0 (C := "PackHouse$Packer") (T := FT6) (N := 19) (ty := fy6 9) h rfl (by decide) rfl (tw5 (List.mem_of_getElem? (i := 39) rfl) rfl) (fp6 9 (by decide)) rfl (fun a => absurd a (by decide)) (fun _ _ => ⟨rfl, rfl⟩)
set_option maxRecDepth 100000 in
theorem pe6_51_0 (kn : List rM) {m : Nat} (h : (rE0.1 m).cls = "PackHouse$Packer") : rpo (rpar kn) rE0 m 51 (0, 6, 10, .ref 11) := po0 (C := "PackHouse$Packer") (T := FT6) (N := 19) (ty := fy6 10) h rfl (by decide) rfl (tw5 (List.mem_of_getElem? (i := 40) rfl) rfl) (fp6 10 (by decide)) rfl (fun a => absurd a (by decide)) (fun _ _ => ⟨rfl, rfl⟩)
set_option maxRecDepth 100000 in
theorem pe6_54_0 (kn : List rM) {m : Nat} (h : (rE0.1 m).cls = "PackHouse$Packer") : rpo (rpar kn) rE0 m 54 (0, 6, 11, .ref 11) := po0 (C := "PackHouse$Packer") (T := FT6) (N := 19) (ty := fy6 11) h rfl (by decide) rfl (tw5 (List.mem_of_getElem? (i := 41) rfl) rfl) (fp6 11 (by decide)) rfl (fun a => absurd a (by decide)) (fun _ _ => ⟨rfl, rfl⟩)
set_option maxRecDepth 100000 in
theorem pe6_58_0 (kn : List rM) {m : Nat} (h : (rE0.1 m).cls = "PackHouse$Packer") : rpo (rpar kn) rE0 m 58 (0, 6, 12, .ref 11) := po0 (C := "PackHouse$Packer") (T := FT6) (N := 19) (ty := fy6 12) h rfl (by decide) rfl (tw5 (List.mem_of_getElem? (i := 42) rfl) rfl) (fp6 12 (by decide)) rfl (fun a => absurd a (by decide)) (fun _ _ => ⟨rfl, rfl⟩)
set_option maxRecDepth 100000 in
theorem pe6_61_16 (kn : List rM) {m : Nat} (h : (rE0.1 m).cls = "PackHouse$Packer") : rpo (rpar kn) rE0 m 61 (16, 0, 0, .null) := po16 h (tw5 (List.mem_of_getElem? (i := 28) rfl) rfl)
set_option maxRecDepth 100000 in
theorem pe6_63_0 (kn : List rM) {m : Nat} (h : (rE0.1 m).cls = "PackHouse$Packer") : rpo (rpar kn) rE0 m 63 (0, 6, 13, .ref 3) := po0 (C := "PackHouse$Packer") (T := FT6) (N := 19) (ty := fy6 13) h rfl (by decide) rfl (tw5 (List.mem_of_getElem? (i := 43) rfl) rfl) (fp6 13 (by decide)) rfl (fun _ => rfl) (fun a _ => absurd a (by decide))
set_option maxRecDepth 100000 in
theorem pe6_66_0 (kn : List rM) {m : Nat} (h : (rE0.1 m).cls = "PackHouse$Packer") : rpo (rpar kn) rE0 m 66 (0, 6, 14, .ref 3) := po0 (C := "PackHouse$Packer") (T := FT6) (N := 19) (ty := fy6 14) h rfl (by decide) rfl (tw5 (List.mem_of_getElem? (i := 44) rfl) rfl) (fp6 14 (by decide)) rfl (fun _ => rfl) (fun a _ => absurd a (by decide))
set_option maxRecDepth 100000 in
theorem pe6_69_0 (kn : List rM) {m : Nat} (h : (rE0.1 m).cls = "PackHouse$Packer") : rpo (rpar kn) rE0 m 69 (0, 6, 17, .ref 11) := po0 (C := "PackHouse$Packer") (T := FT6) (N := 19) (ty := fy6 17) h rfl (by decide) rfl (tw5 (List.mem_of_getElem? (i := 47) rfl) rfl) (fp6 17 (by decide)) rfl (fun a => absurd a (by decide)) (fun _ _ => ⟨rfl, rfl⟩)
set_option maxRecDepth 100000 in
theorem pe6_72_0 (kn : List rM) {m : Nat} (h : (rE0.1 m).cls = "PackHouse$Packer") : rpo (rpar kn) rE0 m 72 (0, 6, 18, .ref 11) := po0 (C := "PackHouse$Packer") (T := FT6) (N := 19) (ty := fy6 18) h rfl (by decide) rfl (tw5 (List.mem_of_getElem? (i := 48) rfl) rfl) (fp6 18 (by decide)) rfl (fun a => absurd a (by decide)) (fun _ _ => ⟨rfl, rfl⟩)
set_option maxRecDepth 100000 in
theorem pe6_75_0 (kn : List rM) {m : Nat} (h : (rE0.1 m).cls = "PackHouse$Packer") : rpo (rpar kn) rE0 m 75 (0, 6, 0, .ref 11) := po0 (C := "PackHouse$Packer") (T := FT6) (N := 19) (ty := fy6 0) h rfl (by decide) rfl (tw5 (List.mem_of_getElem? (i := 30) rfl) rfl) (fp6 0 (by decide)) rfl (fun a => absurd a (by decide)) (fun _ _ => ⟨rfl, rfl⟩)
set_option maxRecDepth 100000 in
theorem pe6_78_0 (kn : List rM) {m : Nat} (h : (rE0.1 m).cls = "PackHouse$Packer") : rpo (rpar kn) rE0 m 78 (0, 6, 1, .ref 11) := po0 (C := "PackHouse$Packer") (T := FT6) (N := 19) (ty := fy6 1) h rfl (by decide) rfl (tw5 (List.mem_of_getElem? (i := 31) rfl) rfl) (fp6 1 (by decide)) rfl (fun a => absurd a (by decide)) (fun _ _ => ⟨rfl, rfl⟩)
set_option maxRecDepth 100000 in
theorem pe6_82_0 (kn : List rM) {m : Nat} (h : (rE0.1 m).cls = "PackHouse$Packer") : rpo (rpar kn) rE0 m 82 (0, 6, 2, .ref 11) := po0 (C := "PackHouse$Packer") (T := FT6) (N := 19) (ty := fy6 2) h rfl (by decide) rfl (tw5 (List.mem_of_getElem? (i := 32) rfl) rfl) (fp6 2 (by decide)) rfl (fun a => absurd a (by decide)) (fun _ _ => ⟨rfl, rfl⟩)
set_option maxRecDepth 100000 in
theorem pe6_85_10 (kn : List rM) {m : Nat} (h : (rE0.1 m).cls = "PackHouse$Packer") : rpo (rpar kn) rE0 m 85 (10, 0, 0, .int (131072)) := po10 h (tw5 (List.mem_of_getElem? (i := 114) rfl) rfl)
set_option maxRecDepth 100000 in
theorem pe6_86_24 (kn : List rM) {m : Nat} (h : (rE0.1 m).cls = "PackHouse$Packer") : rpo (rpar kn) rE0 m 86 (24, 98, 2, .null) := po24 h (pm98 kn) (tw5 (List.mem_of_getElem? (i := 107) rfl) rfl) (tw5 (List.mem_of_getElem? (i := 108) rfl) rfl)
set_option maxRecDepth 100000 in
theorem pe6_90_30 (kn : List rM) {m : Nat} (h : (rE0.1 m).cls = "PackHouse$Packer") : rpo (rpar kn) rE0 m 90 (30, 0, 0, .null) := po30 h (tw5 (List.mem_of_getElem? (i := 115) rfl) rfl)
set_option maxRecDepth 100000 in
theorem pe6_96_29 (kn : List rM) {m : Nat} (h : (rE0.1 m).cls = "PackHouse$Packer") : rpo (rpar kn) rE0 m 96 (29, 0, 0, .null) := po29 h (tw5 (List.mem_of_getElem? (i := 116) rfl) rfl)
set_option maxRecDepth 100000 in
theorem pe6_99_0 (kn : List rM) {m : Nat} (h : (rE0.1 m).cls = "PackHouse$Packer") : rpo (rpar kn) rE0 m 99 (0, 7, 1, .ref 0) := po0 (C := "PackHouse$Row") (T := FT7) (N := 5) (ty := fy7 1) h rfl (by decide) rfl (tw1 (List.mem_of_getElem? (i := 51) rfl) rfl) (fp7 1 (by decide)) rfl (fun _ => rfl) (fun a _ => absurd a (by decide))
set_option maxRecDepth 100000 in
theorem pe6_103_28 (kn : List rM) {m : Nat} (h : (rE0.1 m).cls = "PackHouse$Packer") : rpo (rpar kn) rE0 m 103 (28, 0, 0, .null) := po28 h (tw5 (List.mem_of_getElem? (i := 93) rfl) rfl)
set_option maxRecDepth 100000 in
theorem pe6_109_0 (kn : List rM) {m : Nat} (h : (rE0.1 m).cls = "PackHouse$Packer") : rpo (rpar kn) rE0 m 109 (0, 4, 2, .ref 0) := po0 (C := "PackHouse$Dictionary") (T := FT4) (N := 5) (ty := fy4 2) h rfl (by decide) rfl (tw1 (List.mem_of_getElem? (i := 120) rfl) rfl) (fp4 2 (by decide)) rfl (fun _ => rfl) (fun a _ => absurd a (by decide))
set_option maxRecDepth 100000 in
theorem pe6_112_20 (kn : List rM) {m : Nat} (h : (rE0.1 m).cls = "PackHouse$Packer") : rpo (rpar kn) rE0 m 112 (20, 101, 3, .ref 6) := po20 h (pm101 kn) (tw5 (List.mem_of_getElem? (i := 94) rfl) rfl) (tw5 (List.mem_of_getElem? (i := 96) rfl) rfl) (pw2 (List.mem_of_getElem? (i := 9) rfl)) rfl rfl
set_option maxRecDepth 100000 in
theorem pe6_116_0 (kn : List rM) {m : Nat} (h : (rE0.1 m).cls = "PackHouse$Packer") : rpo (rpar kn) rE0 m 116 (0, 4, 1, .ref 19) := po0 (C := "PackHouse$Dictionary") (T := FT4) (N := 5) (ty := fy4 1) h rfl (by decide) rfl (tw1 (List.mem_of_getElem? (i := 117) rfl) rfl) (fp4 1 (by decide)) rfl (fun a => absurd a (by decide)) (fun _ b => absurd b (by decide))
set_option maxRecDepth 100000 in
theorem pe6_119_20 (kn : List rM) {m : Nat} (h : (rE0.1 m).cls = "PackHouse$Packer") : rpo (rpar kn) rE0 m 119 (20, 116, 1, .ref 9) := po20 h (pm116 kn) (tw5 (List.mem_of_getElem? (i := 101) rfl) rfl) (tw5 (List.mem_of_getElem? (i := 102) rfl) rfl) (tw5 (List.mem_of_getElem? (i := 103) rfl) rfl) rfl rfl
set_option maxRecDepth 100000 in
theorem pe6_123_0 (kn : List rM) {m : Nat} (h : (rE0.1 m).cls = "PackHouse$Packer") : rpo (rpar kn) rE0 m 123 (0, 4, 0, .ref 19) := po0 (C := "PackHouse$Dictionary") (T := FT4) (N := 5) (ty := fy4 0) h rfl (by decide) rfl (tw1 (List.mem_of_getElem? (i := 113) rfl) rfl) (fp4 0 (by decide)) rfl (fun a => absurd a (by decide)) (fun _ b => absurd b (by decide))
set_option maxRecDepth 100000 in
theorem pe6_126_0 (kn : List rM) {m : Nat} (h : (rE0.1 m).cls = "PackHouse$Packer") : rpo (rpar kn) rE0 m 126 (0, 5, 0, .ref 19) := po0 (C := "PackHouse$Finder") (T := FT5) (N := 19) (ty := fy5 0) h rfl (by decide) rfl (tw3 (List.mem_of_getElem? (i := 160) rfl) rfl) (fp5 0 (by decide)) rfl (fun a => absurd a (by decide)) (fun _ b => absurd b (by decide))
set_option maxRecDepth 100000 in
theorem pe6_131_20 (kn : List rM) {m : Nat} (h : (rE0.1 m).cls = "PackHouse$Packer") : rpo (rpar kn) rE0 m 131 (20, 107, 1, .ref 7) := po20 h (pm107 kn) (tw5 (List.mem_of_getElem? (i := 105) rfl) rfl) (tw2 (List.mem_of_getElem? (i := 119) rfl) rfl) (tw2 (List.mem_of_getElem? (i := 120) rfl) rfl) rfl rfl
set_option maxRecDepth 100000 in
theorem pe6_134_0 (kn : List rM) {m : Nat} (h : (rE0.1 m).cls = "PackHouse$Packer") : rpo (rpar kn) rE0 m 134 (0, 7, 0, .ref 3) := po0 (C := "PackHouse$Row") (T := FT7) (N := 5) (ty := fy7 0) h rfl (by decide) rfl (tw1 (List.mem_of_getElem? (i := 43) rfl) rfl) (fp7 0 (by decide)) rfl (fun _ => rfl) (fun a _ => absurd a (by decide))
set_option maxRecDepth 100000 in
theorem pe6_138_20 (kn : List rM) {m : Nat} (h : (rE0.1 m).cls = "PackHouse$Packer") : rpo (rpar kn) rE0 m 138 (20, 110, 3, .ref 7) := po20 h (pm110 kn) (tw5 (List.mem_of_getElem? (i := 106) rfl) rfl) (tw2 (List.mem_of_getElem? (i := 19) rfl) rfl) (tw2 (List.mem_of_getElem? (i := 20) rfl) rfl) rfl rfl
set_option maxRecDepth 100000 in
theorem pe6_142_20 (kn : List rM) {m : Nat} (h : (rE0.1 m).cls = "PackHouse$Packer") : rpo (rpar kn) rE0 m 142 (20, 94, 3, .ref 5) := po20 h (pm94 kn) (tw5 (List.mem_of_getElem? (i := 110) rfl) rfl) (tw4 (List.mem_of_getElem? (i := 49) rfl) rfl) (tw4 (List.mem_of_getElem? (i := 50) rfl) rfl) rfl rfl
set_option maxRecDepth 100000 in
theorem pe6_146_24 (kn : List rM) {m : Nat} (h : (rE0.1 m).cls = "PackHouse$Packer") : rpo (rpar kn) rE0 m 146 (24, 99, 2, .null) := po24 h (pm99 kn) (tw5 (List.mem_of_getElem? (i := 111) rfl) rfl) (tw5 (List.mem_of_getElem? (i := 112) rfl) rfl)
set_option maxRecDepth 100000 in
theorem pe6_149_0 (kn : List rM) {m : Nat} (h : (rE0.1 m).cls = "PackHouse$Packer") : rpo (rpar kn) rE0 m 149 (0, 7, 2, .ref 1) := po0 (C := "PackHouse$Row") (T := FT7) (N := 5) (ty := fy7 2) h rfl (by decide) rfl (tw1 (List.mem_of_getElem? (i := 56) rfl) rfl) (fp7 2 (by decide)) rfl (fun _ => rfl) (fun a _ => absurd a (by decide))
set_option maxRecDepth 100000 in
theorem pe6_153_20 (kn : List rM) {m : Nat} (h : (rE0.1 m).cls = "PackHouse$Packer") : rpo (rpar kn) rE0 m 153 (20, 102, 4, .ref 6) := po20 h (pm102 kn) (tw5 (List.mem_of_getElem? (i := 117) rfl) rfl) (tw5 (List.mem_of_getElem? (i := 119) rfl) rfl) (pw2 (List.mem_of_getElem? (i := 10) rfl)) rfl rfl
set_option maxRecDepth 100000 in
theorem pe6_157_25 (kn : List rM) {m : Nat} (h : (rE0.1 m).cls = "PackHouse$Packer") : rpo (rpar kn) rE0 m 157 (25, 46, 4, .null) := po25 h (pm46 kn) (tn6 (List.mem_of_getElem? (i := 89) rfl) rfl) (tw2 (List.mem_of_getElem? (i := 82) rfl) rfl)
set_option maxRecDepth 100000 in
theorem pe6_161_20 (kn : List rM) {m : Nat} (h : (rE0.1 m).cls = "PackHouse$Packer") : rpo (rpar kn) rE0 m 161 (20, 109, 2, .ref 7) := po20 h (pm109 kn) (tw5 (List.mem_of_getElem? (i := 99) rfl) rfl) (tw4 (List.mem_of_getElem? (i := 117) rfl) rfl) (tw4 (List.mem_of_getElem? (i := 118) rfl) rfl) rfl rfl
set_option maxRecDepth 100000 in
theorem pe6_165_11 (kn : List rM) {m : Nat} (h : (rE0.1 m).cls = "PackHouse$Packer") : rpo (rpar kn) rE0 m 165 (11, 0, 0, .long (-47205080)) := po11 h (tw5 (List.mem_of_getElem? (i := 98) rfl) rfl)
set_option maxRecDepth 100000 in
theorem pe6_167_20 (kn : List rM) {m : Nat} (h : (rE0.1 m).cls = "PackHouse$Packer") : rpo (rpar kn) rE0 m 167 (20, 108, 1, .ref 7) := po20 h (pm108 kn) (tw5 (List.mem_of_getElem? (i := 100) rfl) rfl) (tw1 (List.mem_of_getElem? (i := 231) rfl) rfl) (tw1 (List.mem_of_getElem? (i := 232) rfl) rfl) rfl rfl
set_option maxRecDepth 100000 in
theorem pe6_175_11 (kn : List rM) {m : Nat} (h : (rE0.1 m).cls = "PackHouse$Packer") : rpo (rpar kn) rE0 m 175 (11, 0, 0, .long (8)) := po11 h (tw5 (List.mem_of_getElem? (i := 124) rfl) rfl)
set_option maxRecDepth 100000 in
theorem pe6_177_11 (kn : List rM) {m : Nat} (h : (rE0.1 m).cls = "PackHouse$Packer") : rpo (rpar kn) rE0 m 177 (11, 0, 0, .long (2)) := po11 h (tw5 (List.mem_of_getElem? (i := 125) rfl) rfl)
set_option maxRecDepth 100000 in
theorem pe6_179_20 (kn : List rM) {m : Nat} (h : (rE0.1 m).cls = "PackHouse$Packer") : rpo (rpar kn) rE0 m 179 (20, 105, 0, .ref 7) := po20 h (pm105 kn) (tw5 (List.mem_of_getElem? (i := 126) rfl) rfl) (tw2 (List.mem_of_getElem? (i := 123) rfl) rfl) (tw2 (List.mem_of_getElem? (i := 124) rfl) rfl) rfl rfl
set_option maxRecDepth 100000 in
theorem pe6_193_0 (kn : List rM) {m : Nat} (h : (rE0.1 m).cls = "PackHouse$Packer") : rpo (rpar kn) rE0 m 193 (0, 5, 4, .ref 0) := po0 (C := "PackHouse$Finder") (T := FT5) (N := 19) (ty := fy5 4) h rfl (by decide) rfl (tw3 (List.mem_of_getElem? (i := 176) rfl) rfl) (fp5 4 (by decide)) rfl (fun _ => rfl) (fun a _ => absurd a (by decide))
set_option maxRecDepth 100000 in
theorem pe6_355_10 (kn : List rM) {m : Nat} (h : (rE0.1 m).cls = "PackHouse$Packer") : rpo (rpar kn) rE0 m 355 (10, 0, 0, .int (65536)) := po10 h (tw6 (List.mem_of_getElem? (i := 94) rfl) rfl)
set_option maxRecDepth 100000 in
theorem pe6_356_11 (kn : List rM) {m : Nat} (h : (rE0.1 m).cls = "PackHouse$Packer") : rpo (rpar kn) rE0 m 356 (11, 0, 0, .long (-332356553)) := po11 h (tw6 (List.mem_of_getElem? (i := 95) rfl) rfl)
set_option maxRecDepth 100000 in
theorem pe6_358_20 (kn : List rM) {m : Nat} (h : (rE0.1 m).cls = "PackHouse$Packer") : rpo (rpar kn) rE0 m 358 (20, 115, 0, .ref 9) := po20 h (pm115 kn) (tw6 (List.mem_of_getElem? (i := 96) rfl) rfl) (tw2 (List.mem_of_getElem? (i := 141) rfl) rfl) (tw2 (List.mem_of_getElem? (i := 142) rfl) rfl) rfl rfl
set_option maxRecDepth 100000 in
theorem pe6_363_11 (kn : List rM) {m : Nat} (h : (rE0.1 m).cls = "PackHouse$Packer") : rpo (rpar kn) rE0 m 363 (11, 0, 0, .long (4)) := po11 h (tw6 (List.mem_of_getElem? (i := 101) rfl) rfl)
set_option maxRecDepth 100000 in
theorem pl6 (kn : List rM) {m : Nat} (h : (rE0.1 m).cls = "PackHouse$Packer") : ∀ q ∈ pool_6, rpo (rpar kn) rE0 m q.1 q.2 := List.forall_mem_cons.mpr ⟨pe6_3_26 kn h, List.forall_mem_cons.mpr ⟨pe6_9_12 kn h, List.forall_mem_cons.mpr ⟨pe6_9_13 kn h, List.forall_mem_cons.mpr ⟨pe6_11_23 kn h, List.forall_mem_cons.mpr ⟨pe6_12_0 kn h, List.forall_mem_cons.mpr ⟨pe6_18_24 kn h, List.forall_mem_cons.mpr ⟨pe6_24_0 kn h, List.forall_mem_cons.mpr ⟨pe6_28_0 kn h, List.forall_mem_cons.mpr ⟨pe6_31_12 kn h, List.forall_mem_cons.mpr ⟨pe6_33_23 kn h, List.forall_mem_cons.mpr ⟨pe6_34_0 kn h, List.forall_mem_cons.mpr ⟨pe6_38_0 kn h, List.forall_mem_cons.mpr ⟨pe6_41_12 kn h, List.forall_mem_cons.mpr ⟨pe6_43_23 kn h, List.forall_mem_cons.mpr ⟨pe6_44_0 kn h, List.forall_mem_cons.mpr ⟨pe6_48_0 kn h, List.forall_mem_cons.mpr ⟨pe6_51_0 kn h, List.forall_mem_cons.mpr ⟨pe6_54_0 kn h, List.forall_mem_cons.mpr ⟨pe6_58_0 kn h, List.forall_mem_cons.mpr ⟨pe6_61_16 kn h, List.forall_mem_cons.mpr ⟨pe6_63_0 kn h, List.forall_mem_cons.mpr ⟨pe6_66_0 kn h, List.forall_mem_cons.mpr ⟨pe6_69_0 kn h, List.forall_mem_cons.mpr ⟨pe6_72_0 kn h, List.forall_mem_cons.mpr ⟨pe6_75_0 kn h, List.forall_mem_cons.mpr ⟨pe6_78_0 kn h, List.forall_mem_cons.mpr ⟨pe6_82_0 kn h, List.forall_mem_cons.mpr ⟨pe6_85_10 kn h, List.forall_mem_cons.mpr ⟨pe6_86_24 kn h, List.forall_mem_cons.mpr ⟨pe6_90_30 kn h, List.forall_mem_cons.mpr ⟨pe6_96_29 kn h, List.forall_mem_cons.mpr ⟨pe6_99_0 kn h, List.forall_mem_cons.mpr ⟨pe6_103_28 kn h, List.forall_mem_cons.mpr ⟨pe6_109_0 kn h, List.forall_mem_cons.mpr ⟨pe6_112_20 kn h, List.forall_mem_cons.mpr ⟨pe6_116_0 kn h, List.forall_mem_cons.mpr ⟨pe6_119_20 kn h, List.forall_mem_cons.mpr ⟨pe6_123_0 kn h, List.forall_mem_cons.mpr ⟨pe6_126_0 kn h, List.forall_mem_cons.mpr ⟨pe6_131_20 kn h, List.forall_mem_cons.mpr ⟨pe6_134_0 kn h, List.forall_mem_cons.mpr ⟨pe6_138_20 kn h, List.forall_mem_cons.mpr ⟨pe6_142_20 kn h, List.forall_mem_cons.mpr ⟨pe6_146_24 kn h, List.forall_mem_cons.mpr ⟨pe6_149_0 kn h, List.forall_mem_cons.mpr ⟨pe6_153_20 kn h, List.forall_mem_cons.mpr ⟨pe6_157_25 kn h, List.forall_mem_cons.mpr ⟨pe6_161_20 kn h, List.forall_mem_cons.mpr ⟨pe6_165_11 kn h, List.forall_mem_cons.mpr ⟨pe6_167_20 kn h, List.forall_mem_cons.mpr ⟨pe6_175_11 kn h, List.forall_mem_cons.mpr ⟨pe6_177_11 kn h, List.forall_mem_cons.mpr ⟨pe6_179_20 kn h, List.forall_mem_cons.mpr ⟨pe6_193_0 kn h, List.forall_mem_cons.mpr ⟨pe6_355_10 kn h, List.forall_mem_cons.mpr ⟨pe6_356_11 kn h, List.forall_mem_cons.mpr ⟨pe6_358_20 kn h, List.forall_mem_cons.mpr ⟨pe6_363_11 kn h, (fun _ h => absurd h List.not_mem_nil)⟩⟩⟩⟩⟩⟩⟩⟩⟩⟩⟩⟩⟩⟩⟩⟩⟩⟩⟩⟩⟩⟩⟩⟩⟩⟩⟩⟩⟩⟩⟩⟩⟩⟩⟩⟩⟩⟩⟩⟩⟩⟩⟩⟩⟩⟩⟩⟩⟩⟩⟩⟩⟩⟩⟩⟩⟩⟩
set_option maxRecDepth 100000 in
theorem pe7_3_26 (kn : List rM) {m : Nat} (h : (rE0.1 m).cls = "PackHouse$Row") : rpo (rpar kn) rE0 m 3 (26, 0, 0, .null) := po26 h (tw1 (List.mem_of_getElem? (i := 37) rfl) rfl)
set_option maxRecDepth 100000 in
theorem pe7_9_0 (kn : List rM) {m : Nat} (h : (rE0.1 m).cls = "PackHouse$Row") : rpo (rpar kn) rE0 m 9 (0, 7, 0, .ref 3) := po0 (C := "PackHouse$Row") (T := FT7) (N := 5) (ty := fy7 0) h rfl (by decide) rfl (tw1 (List.mem_of_getElem? (i := 38) rfl) rfl) (fp7 0 (by decide)) rfl (fun _ => rfl) (fun a _ => absurd a (by decide))
set_option maxRecDepth 100000 in
theorem pe7_15_0 (kn : List rM) {m : Nat} (h : (rE0.1 m).cls = "PackHouse$Row") : rpo (rpar kn) rE0 m 15 (0, 7, 1, .ref 0) := po0 (C := "PackHouse$Row") (T := FT7) (N := 5) (ty := fy7 1) h rfl (by decide) rfl (tw1 (List.mem_of_getElem? (i := 47) rfl) rfl) (fp7 1 (by decide)) rfl (fun _ => rfl) (fun a _ => absurd a (by decide))
set_option maxRecDepth 100000 in
theorem pe7_19_0 (kn : List rM) {m : Nat} (h : (rE0.1 m).cls = "PackHouse$Row") : rpo (rpar kn) rE0 m 19 (0, 7, 2, .ref 1) := po0 (C := "PackHouse$Row") (T := FT7) (N := 5) (ty := fy7 2) h rfl (by decide) rfl (tw1 (List.mem_of_getElem? (i := 55) rfl) rfl) (fp7 2 (by decide)) rfl (fun _ => rfl) (fun a _ => absurd a (by decide))
set_option maxRecDepth 100000 in
theorem pe7_23_0 (kn : List rM) {m : Nat} (h : (rE0.1 m).cls = "PackHouse$Row") : rpo (rpar kn) rE0 m 23 (0, 7, 3, .ref 0) := po0 (C := "PackHouse$Row") (T := FT7) (N := 5) (ty := fy7 3) h rfl (by decide) rfl (tw1 (List.mem_of_getElem? (i := 60) rfl) rfl) (fp7 3 (by decide)) rfl (fun _ => rfl) (fun a _ => absurd a (by decide))
set_option maxRecDepth 100000 in
theorem pe7_26_0 (kn : List rM) {m : Nat} (h : (rE0.1 m).cls = "PackHouse$Row") : rpo (rpar kn) rE0 m 26 (0, 7, 4, .ref 0) := po0 (C := "PackHouse$Row") (T := FT7) (N := 5) (ty := fy7 4) h rfl (by decide) rfl (tw1 (List.mem_of_getElem? (i := 61) rfl) rfl) (fp7 4 (by decide)) rfl (fun _ => rfl) (fun a _ => absurd a (by decide))
set_option maxRecDepth 100000 in
theorem pe7_29_10 (kn : List rM) {m : Nat} (h : (rE0.1 m).cls = "PackHouse$Row") : rpo (rpar kn) rE0 m 29 (10, 0, 0, .int (65536)) := po10 h (tw1 (List.mem_of_getElem? (i := 205) rfl) rfl)
set_option maxRecDepth 100000 in
theorem pe7_30_29 (kn : List rM) {m : Nat} (h : (rE0.1 m).cls = "PackHouse$Row") : rpo (rpar kn) rE0 m 30 (29, 0, 0, .null) := po29 h (tw1 (List.mem_of_getElem? (i := 206) rfl) rfl)
set_option maxRecDepth 100000 in
theorem pe7_36_30 (kn : List rM) {m : Nat} (h : (rE0.1 m).cls = "PackHouse$Row") : rpo (rpar kn) rE0 m 36 (30, 0, 0, .null) := po30 h (tw1 (List.mem_of_getElem? (i := 209) rfl) rfl)
set_option maxRecDepth 100000 in
theorem pe7_39_24 (kn : List rM) {m : Nat} (h : (rE0.1 m).cls = "PackHouse$Row") : rpo (rpar kn) rE0 m 39 (24, 248, 2, .null) := po24 h (pm248 kn) (tw1 (List.mem_of_getElem? (i := 212) rfl) rfl) (tw1 (List.mem_of_getElem? (i := 213) rfl) rfl)
set_option maxRecDepth 100000 in
theorem pe7_45_20 (kn : List rM) {m : Nat} (h : (rE0.1 m).cls = "PackHouse$Row") : rpo (rpar kn) rE0 m 45 (20, 105, 0, .ref 7) := po20 h (pm105 kn) (tw2 (List.mem_of_getElem? (i := 122) rfl) rfl) (tw2 (List.mem_of_getElem? (i := 123) rfl) rfl) (tw2 (List.mem_of_getElem? (i := 124) rfl) rfl) rfl rfl
set_option maxRecDepth 100000 in
theorem pe7_48_20 (kn : List rM) {m : Nat} (h : (rE0.1 m).cls = "PackHouse$Row") : rpo (rpar kn) rE0 m 48 (20, 110, 3, .ref 7) := po20 h (pm110 kn) (tw2 (List.mem_of_getElem? (i := 126) rfl) rfl) (tw2 (List.mem_of_getElem? (i := 19) rfl) rfl) (tw2 (List.mem_of_getElem? (i := 20) rfl) rfl) rfl rfl
set_option maxRecDepth 100000 in
theorem pe7_52_20 (kn : List rM) {m : Nat} (h : (rE0.1 m).cls = "PackHouse$Row") : rpo (rpar kn) rE0 m 52 (20, 106, 1, .ref 7) := po20 h (pm106 kn) (tw1 (List.mem_of_getElem? (i := 234) rfl) rfl) (tw1 (List.mem_of_getElem? (i := 202) rfl) rfl) (tw1 (List.mem_of_getElem? (i := 203) rfl) rfl) rfl rfl
set_option maxRecDepth 100000 in
theorem pe7_56_27 (kn : List rM) {m : Nat} (h : (rE0.1 m).cls = "PackHouse$Row") : rpo (rpar kn) rE0 m 56 (27, 0, 0, .null) := po27 h (tw2 (List.mem_of_getElem? (i := 22) rfl) rfl)
set_option maxRecDepth 100000 in
theorem pl7 (kn : List rM) {m : Nat} (h : (rE0.1 m).cls = "PackHouse$Row") : ∀ q ∈ pool_7, rpo (rpar kn) rE0 m q.1 q.2 := List.forall_mem_cons.mpr ⟨pe7_3_26 kn h, List.forall_mem_cons.mpr ⟨pe7_9_0 kn h, List.forall_mem_cons.mpr ⟨pe7_15_0 kn h, List.forall_mem_cons.mpr ⟨pe7_19_0 kn h, List.forall_mem_cons.mpr ⟨pe7_23_0 kn h, List.forall_mem_cons.mpr ⟨pe7_26_0 kn h, List.forall_mem_cons.mpr ⟨pe7_29_10 kn h, List.forall_mem_cons.mpr ⟨pe7_30_29 kn h, List.forall_mem_cons.mpr ⟨pe7_36_30 kn h, List.forall_mem_cons.mpr ⟨pe7_39_24 kn h, List.forall_mem_cons.mpr ⟨pe7_45_20 kn h, List.forall_mem_cons.mpr ⟨pe7_48_20 kn h, List.forall_mem_cons.mpr ⟨pe7_52_20 kn h, List.forall_mem_cons.mpr ⟨pe7_56_27 kn h, (fun _ h => absurd h List.not_mem_nil)⟩⟩⟩⟩⟩⟩⟩⟩⟩⟩⟩⟩⟩⟩
set_option maxRecDepth 100000 in
theorem pe8_1_26 (kn : List rM) {m : Nat} (h : (rE0.1 m).cls = "PackHouse$Share") : rpo (rpar kn) rE0 m 1 (26, 0, 0, .null) := po26 h (tw2 (List.mem_of_getElem? (i := 162) rfl) rfl)
set_option maxRecDepth 100000 in
theorem pe8_7_0 (kn : List rM) {m : Nat} (h : (rE0.1 m).cls = "PackHouse$Share") : rpo (rpar kn) rE0 m 7 (0, 8, 1, .ref 8) := po0 (C := "PackHouse$Share") (T := FT8) (N := 13) (ty := fy8 1) h rfl (by decide) rfl (tw2 (List.mem_of_getElem? (i := 167) rfl) rfl) (fp8 1 (by decide)) rfl (fun a => absurd a (by decide)) (fun _ _ => ⟨rfl, rfl⟩)
set_option maxRecDepth 100000 in
theorem pe8_13_0 (kn : List rM) {m : Nat} (h : (rE0.1 m).cls = "PackHouse$Share") : rpo (rpar kn) rE0 m 13 (0, 8, 2, .ref 11) := po0 (C := "PackHouse$Share") (T := FT8) (N := 13) (ty := fy8 2) h rfl (by decide) rfl (tw2 (List.mem_of_getElem? (i := 168) rfl) rfl) (fp8 2 (by decide)) rfl (fun a => absurd a (by decide)) (fun _ _ => ⟨rfl, rfl⟩)
set_option maxRecDepth 100000 in
theorem pe8_17_0 (kn : List rM) {m : Nat} (h : (rE0.1 m).cls = "PackHouse$Share") : rpo (rpar kn) rE0 m 17 (0, 8, 3, .ref 11) := po0 (C := "PackHouse$Share") (T := FT8) (N := 13) (ty := fy8 3) h rfl (by decide) rfl (tw2 (List.mem_of_getElem? (i := 169) rfl) rfl) (fp8 3 (by decide)) rfl (fun a => absurd a (by decide)) (fun _ _ => ⟨rfl, rfl⟩)
set_option maxRecDepth 100000 in
theorem pe8_20_0 (kn : List rM) {m : Nat} (h : (rE0.1 m).cls = "PackHouse$Share") : rpo (rpar kn) rE0 m 20 (0, 8, 4, .ref 11) := po0 (C := "PackHouse$Share") (T := FT8) (N := 13) (ty := fy8 4) h rfl (by decide) rfl (tw2 (List.mem_of_getElem? (i := 170) rfl) rfl) (fp8 4 (by decide)) rfl (fun a => absurd a (by decide)) (fun _ _ => ⟨rfl, rfl⟩)
set_option maxRecDepth 100000 in
theorem pe8_23_0 (kn : List rM) {m : Nat} (h : (rE0.1 m).cls = "PackHouse$Share") : rpo (rpar kn) rE0 m 23 (0, 8, 5, .ref 11) := po0 (C := "PackHouse$Share") (T := FT8) (N := 13) (ty := fy8 5) h rfl (by decide) rfl (tw2 (List.mem_of_getElem? (i := 171) rfl) rfl) (fp8 5 (by decide)) rfl (fun a => absurd a (by decide)) (fun _ _ => ⟨rfl, rfl⟩)
set_option maxRecDepth 100000 in
theorem pe8_26_0 (kn : List rM) {m : Nat} (h : (rE0.1 m).cls = "PackHouse$Share") : rpo (rpar kn) rE0 m 26 (0, 8, 6, .ref 11) := po0 (C := "PackHouse$Share") (T := FT8) (N := 13) (ty := fy8 6) h rfl (by decide) rfl (tw2 (List.mem_of_getElem? (i := 172) rfl) rfl) (fp8 6 (by decide)) rfl (fun a => absurd a (by decide)) (fun _ _ => ⟨rfl, rfl⟩)
set_option maxRecDepth 100000 in
theorem pe8_29_0 (kn : List rM) {m : Nat} (h : (rE0.1 m).cls = "PackHouse$Share") : rpo (rpar kn) rE0 m 29 (0, 8, 7, .ref 11) := po0 (C := "PackHouse$Share") (T := FT8) (N := 13) (ty := fy8 7) h rfl (by decide) rfl (tw2 (List.mem_of_getElem? (i := 173) rfl) rfl) (fp8 7 (by decide)) rfl (fun a => absurd a (by decide)) (fun _ _ => ⟨rfl, rfl⟩)
set_option maxRecDepth 100000 in
theorem pe8_32_0 (kn : List rM) {m : Nat} (h : (rE0.1 m).cls = "PackHouse$Share") : rpo (rpar kn) rE0 m 32 (0, 8, 8, .ref 11) := po0 (C := "PackHouse$Share") (T := FT8) (N := 13) (ty := fy8 8) h rfl (by decide) rfl (tw2 (List.mem_of_getElem? (i := 174) rfl) rfl) (fp8 8 (by decide)) rfl (fun a => absurd a (by decide)) (fun _ _ => ⟨rfl, rfl⟩)
set_option maxRecDepth 100000 in
theorem pe8_35_0 (kn : List rM) {m : Nat} (h : (rE0.1 m).cls = "PackHouse$Share") : rpo (rpar kn) rE0 m 35 (0, 8, 9, .ref 11) := po0 (C := "PackHouse$Share") (T := FT8) (N := 13) (ty := fy8 9) h rfl (by decide) rfl (tw2 (List.mem_of_getElem? (i := 175) rfl) rfl) (fp8 9 (by decide)) rfl (fun a => absurd a (by decide)) (fun _ _ => ⟨rfl, rfl⟩)
set_option maxRecDepth 100000 in
theorem pe8_38_0 (kn : List rM) {m : Nat} (h : (rE0.1 m).cls = "PackHouse$Share") : rpo (rpar kn) rE0 m 38 (0, 8, 0, .ref 0) := po0 (C := "PackHouse$Share") (T := FT8) (N := 13) (ty := fy8 0) h rfl (by decide) rfl (tw2 (List.mem_of_getElem? (i := 163) rfl) rfl) (fp8 0 (by decide)) rfl (fun _ => rfl) (fun a _ => absurd a (by decide))
set_option maxRecDepth 100000 in
theorem pe8_41_27 (kn : List rM) {m : Nat} (h : (rE0.1 m).cls = "PackHouse$Share") : rpo (rpar kn) rE0 m 41 (27, 0, 0, .null) := po27 h (tw5 (List.mem_of_getElem? (i := 11) rfl) rfl)
set_option maxRecDepth 100000 in
theorem pe8_47_20 (kn : List rM) {m : Nat} (h : (rE0.1 m).cls = "PackHouse$Share") : rpo (rpar kn) rE0 m 47 (20, 113, 0, .ref 8) := po20 h (pm113 kn) (tw3 (List.mem_of_getElem? (i := 66) rfl) rfl) (tw3 (List.mem_of_getElem? (i := 67) rfl) rfl) (tw3 (List.mem_of_getElem? (i := 68) rfl) rfl) rfl rfl
set_option maxRecDepth 100000 in
theorem pl8 (kn : List rM) {m : Nat} (h : (rE0.1 m).cls = "PackHouse$Share") : ∀ q ∈ pool_8, rpo (rpar kn) rE0 m q.1 q.2 := List.forall_mem_cons.mpr ⟨pe8_1_26 kn h, List.forall_mem_cons.mpr ⟨pe8_7_0 kn h, List.forall_mem_cons.mpr ⟨pe8_13_0 kn h, List.forall_mem_cons.mpr ⟨pe8_17_0 kn h, List.forall_mem_cons.mpr ⟨pe8_20_0 kn h, List.forall_mem_cons.mpr ⟨pe8_23_0 kn h, List.forall_mem_cons.mpr ⟨pe8_26_0 kn h, List.forall_mem_cons.mpr ⟨pe8_29_0 kn h, List.forall_mem_cons.mpr ⟨pe8_32_0 kn h, List.forall_mem_cons.mpr ⟨pe8_35_0 kn h, List.forall_mem_cons.mpr ⟨pe8_38_0 kn h, List.forall_mem_cons.mpr ⟨pe8_41_27 kn h, List.forall_mem_cons.mpr ⟨pe8_47_20 kn h, (fun _ h => absurd h List.not_mem_nil)⟩⟩⟩⟩⟩⟩⟩⟩⟩⟩⟩⟩⟩
set_option maxRecDepth 100000 in
theorem pe9_1_26 (kn : List rM) {m : Nat} (h : (rE0.1 m).cls = "PackHouse$Stand") : rpo (rpar kn) rE0 m 1 (26, 0, 0, .null) := po26 h (tw1 (List.mem_of_getElem? (i := 88) rfl) rfl)
set_option maxRecDepth 100000 in
theorem pe9_7_13 (kn : List rM) {m : Nat} (h : (rE0.1 m).cls = "PackHouse$Stand") : rpo (rpar kn) rE0 m 7 (13, 5, 0, .null) := po13 h rfl (tw1 (List.mem_of_getElem? (i := 89) rfl) rfl) (tn1 (List.mem_of_getElem? (i := 90) rfl) rfl)
set_option maxRecDepth 100000 in
theorem pe9_9_0 (kn : List rM) {m : Nat} (h : (rE0.1 m).cls = "PackHouse$Stand") : rpo (rpar kn) rE0 m 9 (0, 9, 1, .ref 11) := po0 (C := "PackHouse$Stand") (T := FT9) (N := 3) (ty := fy9 1) h rfl (by decide) rfl (tw1 (List.mem_of_getElem? (i := 97) rfl) rfl) (fp9 1 (by decide)) rfl (fun a => absurd a (by decide)) (fun _ _ => ⟨rfl, rfl⟩)
set_option maxRecDepth 100000 in
theorem pe9_15_11 (kn : List rM) {m : Nat} (h : (rE0.1 m).cls = "PackHouse$Stand") : rpo (rpar kn) rE0 m 15 (11, 0, 0, .long (4)) := po11 h (tw1 (List.mem_of_getElem? (i := 91) rfl) rfl)
set_option maxRecDepth 100000 in
theorem pe9_17_11 (kn : List rM) {m : Nat} (h : (rE0.1 m).cls = "PackHouse$Stand") : rpo (rpar kn) rE0 m 17 (11, 0, 0, .long (8)) := po11 h (tw1 (List.mem_of_getElem? (i := 92) rfl) rfl)
set_option maxRecDepth 100000 in
theorem pe9_19_0 (kn : List rM) {m : Nat} (h : (rE0.1 m).cls = "PackHouse$Stand") : rpo (rpar kn) rE0 m 19 (0, 9, 2, .ref 11) := po0 (C := "PackHouse$Stand") (T := FT9) (N := 3) (ty := fy9 2) h rfl (by decide) rfl (tw1 (List.mem_of_getElem? (i := 101) rfl) rfl) (fp9 2 (by decide)) rfl (fun a => absurd a (by decide)) (fun _ _ => ⟨rfl, rfl⟩)
set_option maxRecDepth 100000 in
theorem pe9_23_0 (kn : List rM) {m : Nat} (h : (rE0.1 m).cls = "PackHouse$Stand") : rpo (rpar kn) rE0 m 23 (0, 9, 0, .ref 3) := po0 (C := "PackHouse$Stand") (T := FT9) (N := 3) (ty := fy9 0) h rfl (by decide) rfl (tw1 (List.mem_of_getElem? (i := 93) rfl) rfl) (fp9 0 (by decide)) rfl (fun _ => rfl) (fun a _ => absurd a (by decide))
set_option maxRecDepth 100000 in
theorem pl9 (kn : List rM) {m : Nat} (h : (rE0.1 m).cls = "PackHouse$Stand") : ∀ q ∈ pool_9, rpo (rpar kn) rE0 m q.1 q.2 := List.forall_mem_cons.mpr ⟨pe9_1_26 kn h, List.forall_mem_cons.mpr ⟨pe9_7_13 kn h, List.forall_mem_cons.mpr ⟨pe9_9_0 kn h, List.forall_mem_cons.mpr ⟨pe9_15_11 kn h, List.forall_mem_cons.mpr ⟨pe9_17_11 kn h, List.forall_mem_cons.mpr ⟨pe9_19_0 kn h, List.forall_mem_cons.mpr ⟨pe9_23_0 kn h, (fun _ h => absurd h List.not_mem_nil)⟩⟩⟩⟩⟩⟩⟩
set_option maxRecDepth 100000 in
theorem pe10_3_26 (kn : List rM) {m : Nat} (h : (rE0.1 m).cls = "PackHouse$Tags") : rpo (rpar kn) rE0 m 3 (26, 0, 0, .null) := po26 h (tw4 (List.mem_of_getElem? (i := 149) rfl) rfl)
set_option maxRecDepth 100000 in
theorem pe10_9_12 (kn : List rM) {m : Nat} (h : (rE0.1 m).cls = "PackHouse$Tags") : rpo (rpar kn) rE0 m 9 (12, 7, 5, .null) := po12 (T := FT7) h rfl (tw4 (List.mem_of_getElem? (i := 150) rfl) rfl) (tw1 (List.mem_of_getElem? (i := 33) rfl) rfl) (tw1 (List.mem_of_getElem? (i := 2) rfl) rfl)
set_option maxRecDepth 100000 in
theorem pe10_11_23 (kn : List rM) {m : Nat} (h : (rE0.1 m).cls = "PackHouse$Tags") : rpo (rpar kn) rE0 m 11 (23, 104, 0, .ref 7) := po23 h (pm104 kn) (tn4 (List.mem_of_getElem? (i := 151) rfl) rfl) (tw1 (List.mem_of_getElem? (i := 35) rfl) rfl) rfl rfl
set_option maxRecDepth 100000 in
theorem pe10_12_0 (kn : List rM) {m : Nat} (h : (rE0.1 m).cls = "PackHouse$Tags") : rpo (rpar kn) rE0 m 12 (0, 10, 2, .ref 11) := po0 (C := "PackHouse$Tags") (T := FT10) (N := 9) (ty := fy10 2) h rfl (by decide) rfl (tw4 (List.mem_of_getElem? (i := 154) rfl) rfl) (fp10 2 (by decide)) rfl (fun a => absurd a (by decide)) (fun _ _ => ⟨rfl, rfl⟩)
set_option maxRecDepth 100000 in
theorem pe10_18_0 (kn : List rM) {m : Nat} (h : (rE0.1 m).cls = "PackHouse$Tags") : rpo (rpar kn) rE0 m 18 (0, 10, 0, .ref 11) := po0 (C := "PackHouse$Tags") (T := FT10) (N := 9) (ty := fy10 0) h rfl (by decide) rfl (tw4 (List.mem_of_getElem? (i := 152) rfl) rfl) (fp10 0 (by decide)) rfl (fun a => absurd a (by decide)) (fun _ _ => ⟨rfl, rfl⟩)
set_option maxRecDepth 100000 in
theorem pe10_22_0 (kn : List rM) {m : Nat} (h : (rE0.1 m).cls = "PackHouse$Tags") : rpo (rpar kn) rE0 m 22 (0, 10, 1, .ref 11) := po0 (C := "PackHouse$Tags") (T := FT10) (N := 9) (ty := fy10 1) h rfl (by decide) rfl (tw4 (List.mem_of_getElem? (i := 153) rfl) rfl) (fp10 1 (by decide)) rfl (fun a => absurd a (by decide)) (fun _ _ => ⟨rfl, rfl⟩)
set_option maxRecDepth 100000 in
theorem pe10_26_15 (kn : List rM) {m : Nat} (h : (rE0.1 m).cls = "PackHouse$Tags") : rpo (rpar kn) rE0 m 26 (15, 0, 0, .null) := po15 h (by decide) (tn4 (List.mem_of_getElem? (i := 222) rfl) rfl)
set_option maxRecDepth 100000 in
theorem pe10_30_0 (kn : List rM) {m : Nat} (h : (rE0.1 m).cls = "PackHouse$Tags") : rpo (rpar kn) rE0 m 30 (0, 5, 0, .ref 19) := po0 (C := "PackHouse$Finder") (T := FT5) (N := 19) (ty := fy5 0) h rfl (by decide) rfl (tw3 (List.mem_of_getElem? (i := 159) rfl) rfl) (fp5 0 (by decide)) rfl (fun a => absurd a (by decide)) (fun _ b => absurd b (by decide))
set_option maxRecDepth 100000 in
theorem pe10_35_20 (kn : List rM) {m : Nat} (h : (rE0.1 m).cls = "PackHouse$Tags") : rpo (rpar kn) rE0 m 35 (20, 107, 1, .ref 7) := po20 h (pm107 kn) (tw4 (List.mem_of_getElem? (i := 185) rfl) rfl) (tw2 (List.mem_of_getElem? (i := 119) rfl) rfl) (tw2 (List.mem_of_getElem? (i := 120) rfl) rfl) rfl rfl
set_option maxRecDepth 100000 in
theorem pe10_39_10 (kn : List rM) {m : Nat} (h : (rE0.1 m).cls = "PackHouse$Tags") : rpo (rpar kn) rE0 m 39 (10, 0, 0, .int (65535)) := po10 h (tw4 (List.mem_of_getElem? (i := 186) rfl) rfl)
set_option maxRecDepth 100000 in
theorem pe10_40_20 (kn : List rM) {m : Nat} (h : (rE0.1 m).cls = "PackHouse$Tags") : rpo (rpar kn) rE0 m 40 (20, 94, 3, .ref 5) := po20 h (pm94 kn) (tw4 (List.mem_of_getElem? (i := 187) rfl) rfl) (tw4 (List.mem_of_getElem? (i := 49) rfl) rfl) (tw4 (List.mem_of_getElem? (i := 50) rfl) rfl) rfl rfl
set_option maxRecDepth 100000 in
theorem pe10_44_20 (kn : List rM) {m : Nat} (h : (rE0.1 m).cls = "PackHouse$Tags") : rpo (rpar kn) rE0 m 44 (20, 120, 1, .ref 10) := po20 h (pm120 kn) (tw4 (List.mem_of_getElem? (i := 188) rfl) rfl) (tw4 (List.mem_of_getElem? (i := 190) rfl) rfl) (pw2 (List.mem_of_getElem? (i := 4) rfl)) rfl rfl
set_option maxRecDepth 100000 in
theorem pe10_47_0 (kn : List rM) {m : Nat} (h : (rE0.1 m).cls = "PackHouse$Tags") : rpo (rpar kn) rE0 m 47 (0, 7, 1, .ref 0) := po0 (C := "PackHouse$Row") (T := FT7) (N := 5) (ty := fy7 1) h rfl (by decide) rfl (tw1 (List.mem_of_getElem? (i := 52) rfl) rfl) (fp7 1 (by decide)) rfl (fun _ => rfl) (fun a _ => absurd a (by decide))
set_option maxRecDepth 100000 in
theorem pe10_51_24 (kn : List rM) {m : Nat} (h : (rE0.1 m).cls = "PackHouse$Tags") : rpo (rpar kn) rE0 m 51 (24, 121, 2, .null) := po24 h (pm121 kn) (tw4 (List.mem_of_getElem? (i := 192) rfl) rfl) (tw4 (List.mem_of_getElem? (i := 193) rfl) rfl)
set_option maxRecDepth 100000 in
theorem pe10_55_20 (kn : List rM) {m : Nat} (h : (rE0.1 m).cls = "PackHouse$Tags") : rpo (rpar kn) rE0 m 55 (20, 95, 1, .ref 5) := po20 h (pm95 kn) (tw4 (List.mem_of_getElem? (i := 196) rfl) rfl) (tw4 (List.mem_of_getElem? (i := 58) rfl) rfl) (tw4 (List.mem_of_getElem? (i := 59) rfl) rfl) rfl rfl
set_option maxRecDepth 100000 in
theorem pe10_59_20 (kn : List rM) {m : Nat} (h : (rE0.1 m).cls = "PackHouse$Tags") : rpo (rpar kn) rE0 m 59 (20, 96, 4, .ref 5) := po20 h (pm96 kn) (tw4 (List.mem_of_getElem? (i := 197) rfl) rfl) (tw4 (List.mem_of_getElem? (i := 77) rfl) rfl) (tw4 (List.mem_of_getElem? (i := 78) rfl) rfl) rfl rfl
set_option maxRecDepth 100000 in
theorem pe10_63_0 (kn : List rM) {m : Nat} (h : (rE0.1 m).cls = "PackHouse$Tags") : rpo (rpar kn) rE0 m 63 (0, 5, 4, .ref 0) := po0 (C := "PackHouse$Finder") (T := FT5) (N := 19) (ty := fy5 4) h rfl (by decide) rfl (tw3 (List.mem_of_getElem? (i := 174) rfl) rfl) (fp5 4 (by decide)) rfl (fun _ => rfl) (fun a _ => absurd a (by decide))
set_option maxRecDepth 100000 in
theorem pe10_66_0 (kn : List rM) {m : Nat} (h : (rE0.1 m).cls = "PackHouse$Tags") : rpo (rpar kn) rE0 m 66 (0, 5, 1, .ref 3) := po0 (C := "PackHouse$Finder") (T := FT5) (N := 19) (ty := fy5 1) h rfl (by decide) rfl (tw3 (List.mem_of_getElem? (i := 163) rfl) rfl) (fp5 1 (by decide)) rfl (fun _ => rfl) (fun a _ => absurd a (by decide))
set_option maxRecDepth 100000 in
theorem pe10_69_20 (kn : List rM) {m : Nat} (h : (rE0.1 m).cls = "PackHouse$Tags") : rpo (rpar kn) rE0 m 69 (20, 122, 3, .ref 10) := po20 h (pm122 kn) (tw4 (List.mem_of_getElem? (i := 198) rfl) rfl) (tw4 (List.mem_of_getElem? (i := 200) rfl) rfl) (pw2 (List.mem_of_getElem? (i := 5) rfl)) rfl rfl
set_option maxRecDepth 100000 in
theorem pe10_73_0 (kn : List rM) {m : Nat} (h : (rE0.1 m).cls = "PackHouse$Tags") : rpo (rpar kn) rE0 m 73 (0, 5, 2, .ref 3) := po0 (C := "PackHouse$Finder") (T := FT5) (N := 19) (ty := fy5 2) h rfl (by decide) rfl (tw3 (List.mem_of_getElem? (i := 167) rfl) rfl) (fp5 2 (by decide)) rfl (fun _ => rfl) (fun a _ => absurd a (by decide))
set_option maxRecDepth 100000 in
theorem pe10_76_0 (kn : List rM) {m : Nat} (h : (rE0.1 m).cls = "PackHouse$Tags") : rpo (rpar kn) rE0 m 76 (0, 5, 3, .ref 3) := po0 (C := "PackHouse$Finder") (T := FT5) (N := 19) (ty := fy5 3) h rfl (by decide) rfl (tw3 (List.mem_of_getElem? (i := 170) rfl) rfl) (fp5 3 (by decide)) rfl (fun _ => rfl) (fun a _ => absurd a (by decide))
set_option maxRecDepth 100000 in
theorem pe10_82_0 (kn : List rM) {m : Nat} (h : (rE0.1 m).cls = "PackHouse$Tags") : rpo (rpar kn) rE0 m 82 (0, 5, 5, .ref 0) := po0 (C := "PackHouse$Finder") (T := FT5) (N := 19) (ty := fy5 5) h rfl (by decide) rfl (tw3 (List.mem_of_getElem? (i := 177) rfl) rfl) (fp5 5 (by decide)) rfl (fun _ => rfl) (fun a _ => absurd a (by decide))
set_option maxRecDepth 100000 in
theorem pe10_85_20 (kn : List rM) {m : Nat} (h : (rE0.1 m).cls = "PackHouse$Tags") : rpo (rpar kn) rE0 m 85 (20, 108, 1, .ref 7) := po20 h (pm108 kn) (tw4 (List.mem_of_getElem? (i := 195) rfl) rfl) (tw1 (List.mem_of_getElem? (i := 231) rfl) rfl) (tw1 (List.mem_of_getElem? (i := 232) rfl) rfl) rfl rfl
set_option maxRecDepth 100000 in
theorem pe10_88_20 (kn : List rM) {m : Nat} (h : (rE0.1 m).cls = "PackHouse$Tags") : rpo (rpar kn) rE0 m 88 (20, 109, 2, .ref 7) := po20 h (pm109 kn) (tw4 (List.mem_of_getElem? (i := 202) rfl) rfl) (tw4 (List.mem_of_getElem? (i := 117) rfl) rfl) (tw4 (List.mem_of_getElem? (i := 118) rfl) rfl) rfl rfl
set_option maxRecDepth 100000 in
theorem pe10_92_0 (kn : List rM) {m : Nat} (h : (rE0.1 m).cls = "PackHouse$Tags") : rpo (rpar kn) rE0 m 92 (0, 7, 0, .ref 3) := po0 (C := "PackHouse$Row") (T := FT7) (N := 5) (ty := fy7 0) h rfl (by decide) rfl (tw1 (List.mem_of_getElem? (i := 44) rfl) rfl) (fp7 0 (by decide)) rfl (fun _ => rfl) (fun a _ => absurd a (by decide))
set_option maxRecDepth 100000 in
theorem pe10_95_20 (kn : List rM) {m : Nat} (h : (rE0.1 m).cls = "PackHouse$Tags") : rpo (rpar kn) rE0 m 95 (20, 110, 3, .ref 7) := po20 h (pm110 kn) (tw4 (List.mem_of_getElem? (i := 203) rfl) rfl) (tw2 (List.mem_of_getElem? (i := 19) rfl) rfl) (tw2 (List.mem_of_getElem? (i := 20) rfl) rfl) rfl rfl
set_option maxRecDepth 100000 in
theorem pe10_110_30 (kn : List rM) {m : Nat} (h : (rE0.1 m).cls = "PackHouse$Tags") : rpo (rpar kn) rE0 m 110 (30, 0, 0, .null) := po30 h (tw4 (List.mem_of_getElem? (i := 214) rfl) rfl)
set_option maxRecDepth 100000 in
theorem pe10_119_20 (kn : List rM) {m : Nat} (h : (rE0.1 m).cls = "PackHouse$Tags") : rpo (rpar kn) rE0 m 119 (20, 105, 0, .ref 7) := po20 h (pm105 kn) (tw4 (List.mem_of_getElem? (i := 224) rfl) rfl) (tw2 (List.mem_of_getElem? (i := 123) rfl) rfl) (tw2 (List.mem_of_getElem? (i := 124) rfl) rfl) rfl rfl
set_option maxRecDepth 100000 in
theorem pe10_122_0 (kn : List rM) {m : Nat} (h : (rE0.1 m).cls = "PackHouse$Tags") : rpo (rpar kn) rE0 m 122 (0, 7, 2, .ref 1) := po0 (C := "PackHouse$Row") (T := FT7) (N := 5) (ty := fy7 2) h rfl (by decide) rfl (tw1 (List.mem_of_getElem? (i := 58) rfl) rfl) (fp7 2 (by decide)) rfl (fun _ => rfl) (fun a _ => absurd a (by decide))
set_option maxRecDepth 100000 in
theorem pe10_145_0 (kn : List rM) {m : Nat} (h : (rE0.1 m).cls = "PackHouse$Tags") : rpo (rpar kn) rE0 m 145 (0, 10, 8, .ref 0) := po0 (C := "PackHouse$Tags") (T := FT10) (N := 9) (ty := fy10 8) h rfl (by decide) rfl (tw4 (List.mem_of_getElem? (i := 160) rfl) rfl) (fp10 8 (by decide)) rfl (fun _ => rfl) (fun a _ => absurd a (by decide))
set_option maxRecDepth 100000 in
theorem pe10_148_0 (kn : List rM) {m : Nat} (h : (rE0.1 m).cls = "PackHouse$Tags") : rpo (rpar kn) rE0 m 148 (0, 10, 3, .ref 3) := po0 (C := "PackHouse$Tags") (T := FT10) (N := 9) (ty := fy10 3) h rfl (by decide) rfl (tw4 (List.mem_of_getElem? (i := 155) rfl) rfl) (fp10 3 (by decide)) rfl (fun _ => rfl) (fun a _ => absurd a (by decide))
set_option maxRecDepth 100000 in
theorem pe10_151_0 (kn : List rM) {m : Nat} (h : (rE0.1 m).cls = "PackHouse$Tags") : rpo (rpar kn) rE0 m 151 (0, 10, 4, .ref 0) := po0 (C := "PackHouse$Tags") (T := FT10) (N := 9) (ty := fy10 4) h rfl (by decide) rfl (tw4 (List.mem_of_getElem? (i := 156) rfl) rfl) (fp10 4 (by decide)) rfl (fun _ => rfl) (fun a _ => absurd a (by decide))
set_option maxRecDepth 100000 in
theorem pe10_154_0 (kn : List rM) {m : Nat} (h : (rE0.1 m).cls = "PackHouse$Tags") : rpo (rpar kn) rE0 m 154 (0, 10, 5, .ref 3) := po0 (C := "PackHouse$Tags") (T := FT10) (N := 9) (ty := fy10 5) h rfl (by decide) rfl (tw4 (List.mem_of_getElem? (i := 157) rfl) rfl) (fp10 5 (by decide)) rfl (fun _ => rfl) (fun a _ => absurd a (by decide))
set_option maxRecDepth 100000 in
theorem pe10_157_0 (kn : List rM) {m : Nat} (h : (rE0.1 m).cls = "PackHouse$Tags") : rpo (rpar kn) rE0 m 157 (0, 10, 6, .ref 0) := po0 (C := "PackHouse$Tags") (T := FT10) (N := 9) (ty := fy10 6) h rfl (by decide) rfl (tw4 (List.mem_of_getElem? (i := 158) rfl) rfl) (fp10 6 (by decide)) rfl (fun _ => rfl) (fun a _ => absurd a (by decide))
set_option maxRecDepth 100000 in
theorem pe10_160_20 (kn : List rM) {m : Nat} (h : (rE0.1 m).cls = "PackHouse$Tags") : rpo (rpar kn) rE0 m 160 (20, 125, 3, .ref 10) := po20 h (pm125 kn) (tw6 (List.mem_of_getElem? (i := 163) rfl) rfl) (tw6 (List.mem_of_getElem? (i := 165) rfl) rfl) (pw4 (List.mem_of_getElem? (i := 13) rfl)) rfl rfl
set_option maxRecDepth 100000 in
theorem pe10_162_20 (kn : List rM) {m : Nat} (h : (rE0.1 m).cls = "PackHouse$Tags") : rpo (rpar kn) rE0 m 162 (20, 127, 3, .ref 10) := po20 h (pm127 kn) (tw6 (List.mem_of_getElem? (i := 167) rfl) rfl) (tw6 (List.mem_of_getElem? (i := 169) rfl) rfl) (pw4 (List.mem_of_getElem? (i := 14) rfl)) rfl rfl
set_option maxRecDepth 100000 in
theorem pe10_166_20 (kn : List rM) {m : Nat} (h : (rE0.1 m).cls = "PackHouse$Tags") : rpo (rpar kn) rE0 m 166 (20, 128, 3, .ref 10) := po20 h (pm128 kn) (tw6 (List.mem_of_getElem? (i := 171) rfl) rfl) (tw6 (List.mem_of_getElem? (i := 173) rfl) rfl) (pw4 (List.mem_of_getElem? (i := 15) rfl)) rfl rfl
set_option maxRecDepth 100000 in
theorem pe10_172_20 (kn : List rM) {m : Nat} (h : (rE0.1 m).cls = "PackHouse$Tags") : rpo (rpar kn) rE0 m 172 (20, 124, 2, .ref 10) := po20 h (pm124 kn) (tw6 (List.mem_of_getElem? (i := 175) rfl) rfl) (tw6 (List.mem_of_getElem? (i := 177) rfl) rfl) (pw5 (List.mem_of_getElem? (i := 0) rfl)) rfl rfl
set_option maxRecDepth 100000 in
theorem pe10_175_25 (kn : List rM) {m : Nat} (h : (rE0.1 m).cls = "PackHouse$Tags") : rpo (rpar kn) rE0 m 175 (25, 42, 3, .null) := po25 h (pm42 kn) (tn6 (List.mem_of_getElem? (i := 183) rfl) rfl) (tw2 (List.mem_of_getElem? (i := 88) rfl) rfl)
set_option maxRecDepth 100000 in
theorem pe10_183_0 (kn : List rM) {m : Nat} (h : (rE0.1 m).cls = "PackHouse$Tags") : rpo (rpar kn) rE0 m 183 (0, 10, 7, .ref 2) := po0 (C := "PackHouse$Tags") (T := FT10) (N := 9) (ty := fy10 7) h rfl (by decide) rfl (tw4 (List.mem_of_getElem? (i := 159) rfl) rfl) (fp10 7 (by decide)) rfl (fun _ => rfl) (fun a _ => absurd a (by decide))
set_option maxRecDepth 100000 in
theorem pe10_191_11 (kn : List rM) {m : Nat} (h : (rE0.1 m).cls = "PackHouse$Tags") : rpo (rpar kn) rE0 m 191 (11, 0, 0, .long (127)) := po11 h (tw6 (List.mem_of_getElem? (i := 179) rfl) rfl)
set_option maxRecDepth 100000 in
theorem pe10_193_24 (kn : List rM) {m : Nat} (h : (rE0.1 m).cls = "PackHouse$Tags") : rpo (rpar kn) rE0 m 193 (24, 118, 3, .null) := po24 h (pm118 kn) (tw6 (List.mem_of_getElem? (i := 192) rfl) rfl) (tw6 (List.mem_of_getElem? (i := 193) rfl) rfl)
set_option maxRecDepth 100000 in
theorem pl10 (kn : List rM) {m : Nat} (h : (rE0.1 m).cls = "PackHouse$Tags") : ∀ q ∈ pool_10, rpo (rpar kn) rE0 m q.1 q.2 := List.forall_mem_cons.mpr ⟨pe10_3_26 kn h, List.forall_mem_cons.mpr ⟨pe10_9_12 kn h, List.forall_mem_cons.mpr ⟨pe10_11_23 kn h, List.forall_mem_cons.mpr ⟨pe10_12_0 kn h, List.forall_mem_cons.mpr ⟨pe10_18_0 kn h, List.forall_mem_cons.mpr ⟨pe10_22_0 kn h, List.forall_mem_cons.mpr ⟨pe10_26_15 kn h, List.forall_mem_cons.mpr ⟨pe10_30_0 kn h, List.forall_mem_cons.mpr ⟨pe10_35_20 kn h, List.forall_mem_cons.mpr ⟨pe10_39_10 kn h, List.forall_mem_cons.mpr ⟨pe10_40_20 kn h, List.forall_mem_cons.mpr ⟨pe10_44_20 kn h, List.forall_mem_cons.mpr ⟨pe10_47_0 kn h, List.forall_mem_cons.mpr ⟨pe10_51_24 kn h, List.forall_mem_cons.mpr ⟨pe10_55_20 kn h, List.forall_mem_cons.mpr ⟨pe10_59_20 kn h, List.forall_mem_cons.mpr ⟨pe10_63_0 kn h, List.forall_mem_cons.mpr ⟨pe10_66_0 kn h, List.forall_mem_cons.mpr ⟨pe10_69_20 kn h, List.forall_mem_cons.mpr ⟨pe10_73_0 kn h, List.forall_mem_cons.mpr ⟨pe10_76_0 kn h, List.forall_mem_cons.mpr ⟨pe10_82_0 kn h, List.forall_mem_cons.mpr ⟨pe10_85_20 kn h, List.forall_mem_cons.mpr ⟨pe10_88_20 kn h, List.forall_mem_cons.mpr ⟨pe10_92_0 kn h, List.forall_mem_cons.mpr ⟨pe10_95_20 kn h, List.forall_mem_cons.mpr ⟨pe10_110_30 kn h, List.forall_mem_cons.mpr ⟨pe10_119_20 kn h, List.forall_mem_cons.mpr ⟨pe10_122_0 kn h, List.forall_mem_cons.mpr ⟨pe10_145_0 kn h, List.forall_mem_cons.mpr ⟨pe10_148_0 kn h, List.forall_mem_cons.mpr ⟨pe10_151_0 kn h, List.forall_mem_cons.mpr ⟨pe10_154_0 kn h, List.forall_mem_cons.mpr ⟨pe10_157_0 kn h, List.forall_mem_cons.mpr ⟨pe10_160_20 kn h, List.forall_mem_cons.mpr ⟨pe10_162_20 kn h, List.forall_mem_cons.mpr ⟨pe10_166_20 kn h, List.forall_mem_cons.mpr ⟨pe10_172_20 kn h, List.forall_mem_cons.mpr ⟨pe10_175_25 kn h, List.forall_mem_cons.mpr ⟨pe10_183_0 kn h, List.forall_mem_cons.mpr ⟨pe10_191_11 kn h, List.forall_mem_cons.mpr ⟨pe10_193_24 kn h, (fun _ h => absurd h List.not_mem_nil)⟩⟩⟩⟩⟩⟩⟩⟩⟩⟩⟩⟩⟩⟩⟩⟩⟩⟩⟩⟩⟩⟩⟩⟩⟩⟩⟩⟩⟩⟩⟩⟩⟩⟩⟩⟩⟩⟩⟩⟩⟩⟩
set_option maxRecDepth 100000 in
theorem pe11_3_26 (kn : List rM) {m : Nat} (h : (rE0.1 m).cls = "PackHouse$Tokens") : rpo (rpar kn) rE0 m 3 (26, 0, 0, .null) := po26 h (tw3 (List.mem_of_getElem? (i := 237) rfl) rfl)
set_option maxRecDepth 100000 in
theorem pe11_9_12 (kn : List rM) {m : Nat} (h : (rE0.1 m).cls = "PackHouse$Tokens") : rpo (rpar kn) rE0 m 9 (12, 7, 5, .null) := po12 (T := FT7) h rfl (tw3 (List.mem_of_getElem? (i := 238) rfl) rfl) (tw1 (List.mem_of_getElem? (i := 33) rfl) rfl) (tw1 (List.mem_of_getElem? (i := 2) rfl) rfl)
set_option maxRecDepth 100000 in
theorem pe11_11_23 (kn : List rM) {m : Nat} (h : (rE0.1 m).cls = "PackHouse$Tokens") : rpo (rpar kn) rE0 m 11 (23, 104, 0, .ref 7) := po23 h (pm104 kn) (tn3 (List.mem_of_getElem? (i := 239) rfl) rfl) (tw1 (List.mem_of_getElem? (i := 35) rfl) rfl) rfl rfl
set_option maxRecDepth 100000 in
theorem pe11_12_0 (kn : List rM) {m : Nat} (h : (rE0.1 m).cls = "PackHouse$Tokens") : rpo (rpar kn) rE0 m 12 (0, 11, 3, .ref 11) := po0 (C := "PackHouse$Tokens") (T := FT11) (N := 13) (ty := fy11 3) h rfl (by decide) rfl (tw4 (List.mem_of_getElem? (i := 3) rfl) rfl) (fp11 3 (by decide)) rfl (fun a => absurd a (by decide)) (fun _ _ => ⟨rfl, rfl⟩)
set_option maxRecDepth 100000 in
theorem pe11_18_0 (kn : List rM) {m : Nat} (h : (rE0.1 m).cls = "PackHouse$Tokens") : rpo (rpar kn) rE0 m 18 (0, 11, 0, .ref 11) := po0 (C := "PackHouse$Tokens") (T := FT11) (N := 13) (ty := fy11 0) h rfl (by decide) rfl (tw4 (List.mem_of_getElem? (i := 0) rfl) rfl) (fp11 0 (by decide)) rfl (fun a => absurd a (by decide)) (fun _ _ => ⟨rfl, rfl⟩)
set_option maxRecDepth 100000 in
theorem pe11_22_0 (kn : List rM) {m : Nat} (h : (rE0.1 m).cls = "PackHouse$Tokens") : rpo (rpar kn) rE0 m 22 (0, 11, 1, .ref 11) := po0 (C := "PackHouse$Tokens") (T := FT11) (N := 13) (ty := fy11 1) h rfl (by decide) rfl (tw4 (List.mem_of_getElem? (i := 1) rfl) rfl) (fp11 1 (by decide)) rfl (fun a => absurd a (by decide)) (fun _ _ => ⟨rfl, rfl⟩)
set_option maxRecDepth 100000 in
theorem pe11_25_0 (kn : List rM) {m : Nat} (h : (rE0.1 m).cls = "PackHouse$Tokens") : rpo (rpar kn) rE0 m 25 (0, 11, 2, .ref 11) := po0 (C := "PackHouse$Tokens") (T := FT11) (N := 13) (ty := fy11 2) h rfl (by decide) rfl (tw4 (List.mem_of_getElem? (i := 2) rfl) rfl) (fp11 2 (by decide)) rfl (fun a => absurd a (by decide)) (fun _ _ => ⟨rfl, rfl⟩)
set_option maxRecDepth 100000 in
theorem pe11_29_0 (kn : List rM) {m : Nat} (h : (rE0.1 m).cls = "PackHouse$Tokens") : rpo (rpar kn) rE0 m 29 (0, 5, 0, .ref 19) := po0 (C := "PackHouse$Finder") (T := FT5) (N := 19) (ty := fy5 0) h rfl (by decide) rfl (tw3 (List.mem_of_getElem? (i := 158) rfl) rfl) (fp5 0 (by decide)) rfl (fun a => absurd a (by decide)) (fun _ b => absurd b (by decide))
set_option maxRecDepth 100000 in
theorem pe11_34_20 (kn : List rM) {m : Nat} (h : (rE0.1 m).cls = "PackHouse$Tokens") : rpo (rpar kn) rE0 m 34 (20, 107, 1, .ref 7) := po20 h (pm107 kn) (tw4 (List.mem_of_getElem? (i := 45) rfl) rfl) (tw2 (List.mem_of_getElem? (i := 119) rfl) rfl) (tw2 (List.mem_of_getElem? (i := 120) rfl) rfl) rfl rfl
set_option maxRecDepth 100000 in
theorem pe11_38_0 (kn : List rM) {m : Nat} (h : (rE0.1 m).cls = "PackHouse$Tokens") : rpo (rpar kn) rE0 m 38 (0, 7, 0, .ref 3) := po0 (C := "PackHouse$Row") (T := FT7) (N := 5) (ty := fy7 0) h rfl (by decide) rfl (tw1 (List.mem_of_getElem? (i := 42) rfl) rfl) (fp7 0 (by decide)) rfl (fun _ => rfl) (fun a _ => absurd a (by decide))
set_option maxRecDepth 100000 in
theorem pe11_42_0 (kn : List rM) {m : Nat} (h : (rE0.1 m).cls = "PackHouse$Tokens") : rpo (rpar kn) rE0 m 42 (0, 7, 1, .ref 0) := po0 (C := "PackHouse$Row") (T := FT7) (N := 5) (ty := fy7 1) h rfl (by decide) rfl (tw1 (List.mem_of_getElem? (i := 50) rfl) rfl) (fp7 1 (by decide)) rfl (fun _ => rfl) (fun a _ => absurd a (by decide))
set_option maxRecDepth 100000 in
theorem pe11_46_20 (kn : List rM) {m : Nat} (h : (rE0.1 m).cls = "PackHouse$Tokens") : rpo (rpar kn) rE0 m 46 (20, 110, 3, .ref 7) := po20 h (pm110 kn) (tw4 (List.mem_of_getElem? (i := 46) rfl) rfl) (tw2 (List.mem_of_getElem? (i := 19) rfl) rfl) (tw2 (List.mem_of_getElem? (i := 20) rfl) rfl) rfl rfl
set_option maxRecDepth 100000 in
theorem pe11_50_10 (kn : List rM) {m : Nat} (h : (rE0.1 m).cls = "PackHouse$Tokens") : rpo (rpar kn) rE0 m 50 (10, 0, 0, .int (65535)) := po10 h (tw4 (List.mem_of_getElem? (i := 47) rfl) rfl)
set_option maxRecDepth 100000 in
theorem pe11_51_20 (kn : List rM) {m : Nat} (h : (rE0.1 m).cls = "PackHouse$Tokens") : rpo (rpar kn) rE0 m 51 (20, 94, 3, .ref 5) := po20 h (pm94 kn) (tw4 (List.mem_of_getElem? (i := 48) rfl) rfl) (tw4 (List.mem_of_getElem? (i := 49) rfl) rfl) (tw4 (List.mem_of_getElem? (i := 50) rfl) rfl) rfl rfl
set_option maxRecDepth 100000 in
theorem pe11_55_20 (kn : List rM) {m : Nat} (h : (rE0.1 m).cls = "PackHouse$Tokens") : rpo (rpar kn) rE0 m 55 (20, 133, 2, .ref 11) := po20 h (pm133 kn) (tw4 (List.mem_of_getElem? (i := 53) rfl) rfl) (tw4 (List.mem_of_getElem? (i := 55) rfl) rfl) (pw1 (List.mem_of_getElem? (i := 9) rfl)) rfl rfl
set_option maxRecDepth 100000 in
theorem pe11_59_20 (kn : List rM) {m : Nat} (h : (rE0.1 m).cls = "PackHouse$Tokens") : rpo (rpar kn) rE0 m 59 (20, 95, 1, .ref 5) := po20 h (pm95 kn) (tw4 (List.mem_of_getElem? (i := 57) rfl) rfl) (tw4 (List.mem_of_getElem? (i := 58) rfl) rfl) (tw4 (List.mem_of_getElem? (i := 59) rfl) rfl) rfl rfl
set_option maxRecDepth 100000 in
theorem pe11_63_20 (kn : List rM) {m : Nat} (h : (rE0.1 m).cls = "PackHouse$Tokens") : rpo (rpar kn) rE0 m 63 (20, 96, 4, .ref 5) := po20 h (pm96 kn) (tw4 (List.mem_of_getElem? (i := 76) rfl) rfl) (tw4 (List.mem_of_getElem? (i := 77) rfl) rfl) (tw4 (List.mem_of_getElem? (i := 78) rfl) rfl) rfl rfl
set_option maxRecDepth 100000 in
theorem pe11_67_0 (kn : List rM) {m : Nat} (h : (rE0.1 m).cls = "PackHouse$Tokens") : rpo (rpar kn) rE0 m 67 (0, 5, 4, .ref 0) := po0 (C := "PackHouse$Finder") (T := FT5) (N := 19) (ty := fy5 4) h rfl (by decide) rfl (tw3 (List.mem_of_getElem? (i := 173) rfl) rfl) (fp5 4 (by decide)) rfl (fun _ => rfl) (fun a _ => absurd a (by decide))
set_option maxRecDepth 100000 in
theorem pe11_70_0 (kn : List rM) {m : Nat} (h : (rE0.1 m).cls = "PackHouse$Tokens") : rpo (rpar kn) rE0 m 70 (0, 5, 1, .ref 3) := po0 (C := "PackHouse$Finder") (T := FT5) (N := 19) (ty := fy5 1) h rfl (by decide) rfl (tw3 (List.mem_of_getElem? (i := 162) rfl) rfl) (fp5 1 (by decide)) rfl (fun _ => rfl) (fun a _ => absurd a (by decide))
set_option maxRecDepth 100000 in
theorem pe11_73_0 (kn : List rM) {m : Nat} (h : (rE0.1 m).cls = "PackHouse$Tokens") : rpo (rpar kn) rE0 m 73 (0, 5, 2, .ref 3) := po0 (C := "PackHouse$Finder") (T := FT5) (N := 19) (ty := fy5 2) h rfl (by decide) rfl (tw3 (List.mem_of_getElem? (i := 166) rfl) rfl) (fp5 2 (by decide)) rfl (fun _ => rfl) (fun a _ => absurd a (by decide))
set_option maxRecDepth 100000 in
theorem pe11_76_20 (kn : List rM) {m : Nat} (h : (rE0.1 m).cls = "PackHouse$Tokens") : rpo (rpar kn) rE0 m 76 (20, 134, 4, .ref 11) := po20 h (pm134 kn) (tw4 (List.mem_of_getElem? (i := 100) rfl) rfl) (tw4 (List.mem_of_getElem? (i := 102) rfl) rfl) (pw2 (List.mem_of_getElem? (i := 0) rfl)) rfl rfl
set_option maxRecDepth 100000 in
theorem pe11_80_0 (kn : List rM) {m : Nat} (h : (rE0.1 m).cls = "PackHouse$Tokens") : rpo (rpar kn) rE0 m 80 (0, 5, 3, .ref 3) := po0 (C := "PackHouse$Finder") (T := FT5) (N := 19) (ty := fy5 3) h rfl (by decide) rfl (tw3 (List.mem_of_getElem? (i := 171) rfl) rfl) (fp5 3 (by decide)) rfl (fun _ => rfl) (fun a _ => absurd a (by decide))
set_option maxRecDepth 100000 in
theorem pe11_83_20 (kn : List rM) {m : Nat} (h : (rE0.1 m).cls = "PackHouse$Tokens") : rpo (rpar kn) rE0 m 83 (20, 109, 2, .ref 7) := po20 h (pm109 kn) (tw4 (List.mem_of_getElem? (i := 116) rfl) rfl) (tw4 (List.mem_of_getElem? (i := 117) rfl) rfl) (tw4 (List.mem_of_getElem? (i := 118) rfl) rfl) rfl rfl
set_option maxRecDepth 100000 in
theorem pe11_87_24 (kn : List rM) {m : Nat} (h : (rE0.1 m).cls = "PackHouse$Tokens") : rpo (rpar kn) rE0 m 87 (24, 135, 2, .null) := po24 h (pm135 kn) (tw4 (List.mem_of_getElem? (i := 106) rfl) rfl) (tw4 (List.mem_of_getElem? (i := 107) rfl) rfl)
set_option maxRecDepth 100000 in
theorem pe11_90_0 (kn : List rM) {m : Nat} (h : (rE0.1 m).cls = "PackHouse$Tokens") : rpo (rpar kn) rE0 m 90 (0, 5, 5, .ref 0) := po0 (C := "PackHouse$Finder") (T := FT5) (N := 19) (ty := fy5 5) h rfl (by decide) rfl (tw3 (List.mem_of_getElem? (i := 178) rfl) rfl) (fp5 5 (by decide)) rfl (fun _ => rfl) (fun a _ => absurd a (by decide))
set_option maxRecDepth 100000 in
theorem pe11_93_30 (kn : List rM) {m : Nat} (h : (rE0.1 m).cls = "PackHouse$Tokens") : rpo (rpar kn) rE0 m 93 (30, 0, 0, .null) := po30 h (tw4 (List.mem_of_getElem? (i := 104) rfl) rfl)
set_option maxRecDepth 100000 in
theorem pe11_99_20 (kn : List rM) {m : Nat} (h : (rE0.1 m).cls = "PackHouse$Tokens") : rpo (rpar kn) rE0 m 99 (20, 108, 1, .ref 7) := po20 h (pm108 kn) (tw4 (List.mem_of_getElem? (i := 105) rfl) rfl) (tw1 (List.mem_of_getElem? (i := 231) rfl) rfl) (tw1 (List.mem_of_getElem? (i := 232) rfl) rfl) rfl rfl
set_option maxRecDepth 100000 in
theorem pe11_106_0 (kn : List rM) {m : Nat} (h : (rE0.1 m).cls = "PackHouse$Tokens") : rpo (rpar kn) rE0 m 106 (0, 11, 8, .ref 0) := po0 (C := "PackHouse$Tokens") (T := FT11) (N := 13) (ty := fy11 8) h rfl (by decide) rfl (tw4 (List.mem_of_getElem? (i := 8) rfl) rfl) (fp11 8 (by decide)) rfl (fun _ => rfl) (fun a _ => absurd a (by decide))
set_option maxRecDepth 100000 in
theorem pe11_109_20 (kn : List rM) {m : Nat} (h : (rE0.1 m).cls = "PackHouse$Tokens") : rpo (rpar kn) rE0 m 109 (20, 137, 2, .ref 11) := po20 h (pm137 kn) (tw4 (List.mem_of_getElem? (i := 124) rfl) rfl) (tw4 (List.mem_of_getElem? (i := 126) rfl) rfl) (pw2 (List.mem_of_getElem? (i := 1) rfl)) rfl rfl
set_option maxRecDepth 100000 in
theorem pe11_112_0 (kn : List rM) {m : Nat} (h : (rE0.1 m).cls = "PackHouse$Tokens") : rpo (rpar kn) rE0 m 112 (0, 5, 6, .ref 0) := po0 (C := "PackHouse$Finder") (T := FT5) (N := 19) (ty := fy5 6) h rfl (by decide) rfl (tw3 (List.mem_of_getElem? (i := 182) rfl) rfl) (fp5 6 (by decide)) rfl (fun _ => rfl) (fun a _ => absurd a (by decide))
set_option maxRecDepth 100000 in
theorem pe11_115_0 (kn : List rM) {m : Nat} (h : (rE0.1 m).cls = "PackHouse$Tokens") : rpo (rpar kn) rE0 m 115 (0, 7, 2, .ref 1) := po0 (C := "PackHouse$Row") (T := FT7) (N := 5) (ty := fy7 2) h rfl (by decide) rfl (tw1 (List.mem_of_getElem? (i := 57) rfl) rfl) (fp7 2 (by decide)) rfl (fun _ => rfl) (fun a _ => absurd a (by decide))
set_option maxRecDepth 100000 in
theorem pe11_122_20 (kn : List rM) {m : Nat} (h : (rE0.1 m).cls = "PackHouse$Tokens") : rpo (rpar kn) rE0 m 122 (20, 105, 0, .ref 7) := po20 h (pm105 kn) (tw4 (List.mem_of_getElem? (i := 134) rfl) rfl) (tw2 (List.mem_of_getElem? (i := 123) rfl) rfl) (tw2 (List.mem_of_getElem? (i := 124) rfl) rfl) rfl rfl
set_option maxRecDepth 100000 in
theorem pe11_129_25 (kn : List rM) {m : Nat} (h : (rE0.1 m).cls = "PackHouse$Tokens") : rpo (rpar kn) rE0 m 129 (25, 45, 4, .null) := po25 h (pm45 kn) (tn4 (List.mem_of_getElem? (i := 129) rfl) rfl) (tw2 (List.mem_of_getElem? (i := 61) rfl) rfl)
set_option maxRecDepth 100000 in
theorem pe11_133_11 (kn : List rM) {m : Nat} (h : (rE0.1 m).cls = "PackHouse$Tokens") : rpo (rpar kn) rE0 m 133 (11, 0, 0, .long (407708164)) := po11 h (tw4 (List.mem_of_getElem? (i := 128) rfl) rfl)
set_option maxRecDepth 100000 in
theorem pe11_136_0 (kn : List rM) {m : Nat} (h : (rE0.1 m).cls = "PackHouse$Tokens") : rpo (rpar kn) rE0 m 136 (0, 11, 12, .ref 0) := po0 (C := "PackHouse$Tokens") (T := FT11) (N := 13) (ty := fy11 12) h rfl (by decide) rfl (tw4 (List.mem_of_getElem? (i := 12) rfl) rfl) (fp11 12 (by decide)) rfl (fun _ => rfl) (fun a _ => absurd a (by decide))
set_option maxRecDepth 100000 in
theorem pe11_139_0 (kn : List rM) {m : Nat} (h : (rE0.1 m).cls = "PackHouse$Tokens") : rpo (rpar kn) rE0 m 139 (0, 11, 4, .ref 3) := po0 (C := "PackHouse$Tokens") (T := FT11) (N := 13) (ty := fy11 4) h rfl (by decide) rfl (tw4 (List.mem_of_getElem? (i := 4) rfl) rfl) (fp11 4 (by decide)) rfl (fun _ => rfl) (fun a _ => absurd a (by decide))
set_option maxRecDepth 100000 in
theorem pe11_142_0 (kn : List rM) {m : Nat} (h : (rE0.1 m).cls = "PackHouse$Tokens") : rpo (rpar kn) rE0 m 142 (0, 11, 5, .ref 0) := po0 (C := "PackHouse$Tokens") (T := FT11) (N := 13) (ty := fy11 5) h rfl (by decide) rfl (tw4 (List.mem_of_getElem? (i := 5) rfl) rfl) (fp11 5 (by decide)) rfl (fun _ => rfl) (fun a _ => absurd a (by decide))
set_option maxRecDepth 100000 in
theorem pe11_145_0 (kn : List rM) {m : Nat} (h : (rE0.1 m).cls = "PackHouse$Tokens") : rpo (rpar kn) rE0 m 145 (0, 11, 6, .ref 3) := po0 (C := "PackHouse$Tokens") (T := FT11) (N := 13) (ty := fy11 6) h rfl (by decide) rfl (tw4 (List.mem_of_getElem? (i := 6) rfl) rfl) (fp11 6 (by decide)) rfl (fun _ => rfl) (fun a _ => absurd a (by decide))
set_option maxRecDepth 100000 in
theorem pe11_148_0 (kn : List rM) {m : Nat} (h : (rE0.1 m).cls = "PackHouse$Tokens") : rpo (rpar kn) rE0 m 148 (0, 11, 7, .ref 0) := po0 (C := "PackHouse$Tokens") (T := FT11) (N := 13) (ty := fy11 7) h rfl (by decide) rfl (tw4 (List.mem_of_getElem? (i := 7) rfl) rfl) (fp11 7 (by decide)) rfl (fun _ => rfl) (fun a _ => absurd a (by decide))
set_option maxRecDepth 100000 in
theorem pe11_151_20 (kn : List rM) {m : Nat} (h : (rE0.1 m).cls = "PackHouse$Tokens") : rpo (rpar kn) rE0 m 151 (20, 139, 3, .ref 11) := po20 h (pm139 kn) (tw6 (List.mem_of_getElem? (i := 110) rfl) rfl) (tw6 (List.mem_of_getElem? (i := 112) rfl) rfl) (pw4 (List.mem_of_getElem? (i := 5) rfl)) rfl rfl
set_option maxRecDepth 100000 in
theorem pe11_154_20 (kn : List rM) {m : Nat} (h : (rE0.1 m).cls = "PackHouse$Tokens") : rpo (rpar kn) rE0 m 154 (20, 141, 4, .ref 11) := po20 h (pm141 kn) (tw6 (List.mem_of_getElem? (i := 114) rfl) rfl) (tw6 (List.mem_of_getElem? (i := 116) rfl) rfl) (pw4 (List.mem_of_getElem? (i := 6) rfl)) rfl rfl
set_option maxRecDepth 100000 in
theorem pe11_158_20 (kn : List rM) {m : Nat} (h : (rE0.1 m).cls = "PackHouse$Tokens") : rpo (rpar kn) rE0 m 158 (20, 138, 2, .ref 11) := po20 h (pm138 kn) (tw6 (List.mem_of_getElem? (i := 118) rfl) rfl) (tw6 (List.mem_of_getElem? (i := 120) rfl) rfl) (pw4 (List.mem_of_getElem? (i := 7) rfl)) rfl rfl
set_option maxRecDepth 100000 in
theorem pe11_161_20 (kn : List rM) {m : Nat} (h : (rE0.1 m).cls = "PackHouse$Tokens") : rpo (rpar kn) rE0 m 161 (20, 142, 3, .ref 11) := po20 h (pm142 kn) (tw6 (List.mem_of_getElem? (i := 122) rfl) rfl) (tw6 (List.mem_of_getElem? (i := 124) rfl) rfl) (pw4 (List.mem_of_getElem? (i := 8) rfl)) rfl rfl
set_option maxRecDepth 100000 in
theorem pe11_165_0 (kn : List rM) {m : Nat} (h : (rE0.1 m).cls = "PackHouse$Tokens") : rpo (rpar kn) rE0 m 165 (0, 11, 11, .ref 0) := po0 (C := "PackHouse$Tokens") (T := FT11) (N := 13) (ty := fy11 11) h rfl (by decide) rfl (tw4 (List.mem_of_getElem? (i := 11) rfl) rfl) (fp11 11 (by decide)) rfl (fun _ => rfl) (fun a _ => absurd a (by decide))
set_option maxRecDepth 100000 in
theorem pe11_168_25 (kn : List rM) {m : Nat} (h : (rE0.1 m).cls = "PackHouse$Tokens") : rpo (rpar kn) rE0 m 168 (25, 42, 3, .null) := po25 h (pm42 kn) (tn6 (List.mem_of_getElem? (i := 126) rfl) rfl) (tw2 (List.mem_of_getElem? (i := 88) rfl) rfl)
set_option maxRecDepth 100000 in
theorem pe11_176_25 (kn : List rM) {m : Nat} (h : (rE0.1 m).cls = "PackHouse$Tokens") : rpo (rpar kn) rE0 m 176 (25, 43, 3, .null) := po25 h (pm43 kn) (tn6 (List.mem_of_getElem? (i := 132) rfl) rfl) (tw6 (List.mem_of_getElem? (i := 133) rfl) rfl)
set_option maxRecDepth 100000 in
theorem pe11_184_20 (kn : List rM) {m : Nat} (h : (rE0.1 m).cls = "PackHouse$Tokens") : rpo (rpar kn) rE0 m 184 (20, 144, 1, .ref 11) := po20 h (pm144 kn) (tw6 (List.mem_of_getElem? (i := 139) rfl) rfl) (tw6 (List.mem_of_getElem? (i := 141) rfl) rfl) (pw4 (List.mem_of_getElem? (i := 9) rfl)) rfl rfl
set_option maxRecDepth 100000 in
theorem pe11_188_20 (kn : List rM) {m : Nat} (h : (rE0.1 m).cls = "PackHouse$Tokens") : rpo (rpar kn) rE0 m 188 (20, 145, 1, .ref 11) := po20 h (pm145 kn) (tw6 (List.mem_of_getElem? (i := 146) rfl) rfl) (tw6 (List.mem_of_getElem? (i := 148) rfl) rfl) (pw4 (List.mem_of_getElem? (i := 10) rfl)) rfl rfl
set_option maxRecDepth 100000 in
theorem pe11_191_20 (kn : List rM) {m : Nat} (h : (rE0.1 m).cls = "PackHouse$Tokens") : rpo (rpar kn) rE0 m 191 (20, 146, 2, .ref 11) := po20 h (pm146 kn) (tw6 (List.mem_of_getElem? (i := 155) rfl) rfl) (tw6 (List.mem_of_getElem? (i := 157) rfl) rfl) (pw4 (List.mem_of_getElem? (i := 12) rfl)) rfl rfl
set_option maxRecDepth 100000 in
theorem pe11_194_25 (kn : List rM) {m : Nat} (h : (rE0.1 m).cls = "PackHouse$Tokens") : rpo (rpar kn) rE0 m 194 (25, 41, 2, .null) := po25 h (pm41 kn) (tn6 (List.mem_of_getElem? (i := 143) rfl) rfl) (tw2 (List.mem_of_getElem? (i := 67) rfl) rfl)
set_option maxRecDepth 100000 in
theorem pe11_198_10 (kn : List rM) {m : Nat} (h : (rE0.1 m).cls = "PackHouse$Tokens") : rpo (rpar kn) rE0 m 198 (10, 0, 0, .int (407708164)) := po10 h (tw6 (List.mem_of_getElem? (i := 144) rfl) rfl)
set_option maxRecDepth 100000 in
theorem pe11_199_24 (kn : List rM) {m : Nat} (h : (rE0.1 m).cls = "PackHouse$Tokens") : rpo (rpar kn) rE0 m 199 (24, 131, 1, .null) := po24 h (pm131 kn) (tw6 (List.mem_of_getElem? (i := 145) rfl) rfl) (tw2 (List.mem_of_getElem? (i := 50) rfl) rfl)
set_option maxRecDepth 100000 in
theorem pe11_203_0 (kn : List rM) {m : Nat} (h : (rE0.1 m).cls = "PackHouse$Tokens") : rpo (rpar kn) rE0 m 203 (0, 11, 9, .ref 0) := po0 (C := "PackHouse$Tokens") (T := FT11) (N := 13) (ty := fy11 9) h rfl (by decide) rfl (tw4 (List.mem_of_getElem? (i := 9) rfl) rfl) (fp11 9 (by decide)) rfl (fun _ => rfl) (fun a _ => absurd a (by decide))
set_option maxRecDepth 100000 in
theorem pe11_206_0 (kn : List rM) {m : Nat} (h : (rE0.1 m).cls = "PackHouse$Tokens") : rpo (rpar kn) rE0 m 206 (0, 11, 10, .ref 0) := po0 (C := "PackHouse$Tokens") (T := FT11) (N := 13) (ty := fy11 10) h rfl (by decide) rfl (tw4 (List.mem_of_getElem? (i := 10) rfl) rfl) (fp11 10 (by decide)) rfl (fun _ => rfl) (fun a _ => absurd a (by decide))
set_option maxRecDepth 100000 in
theorem pe11_209_10 (kn : List rM) {m : Nat} (h : (rE0.1 m).cls = "PackHouse$Tokens") : rpo (rpar kn) rE0 m 209 (10, 0, 0, .int (2147483647)) := po10 h (tw6 (List.mem_of_getElem? (i := 150) rfl) rfl)
set_option maxRecDepth 100000 in
theorem pl11 (kn : List rM) {m : Nat} (h : (rE0.1 m).cls = "PackHouse$Tokens") : ∀ q ∈ pool_11, rpo (rpar kn) rE0 m q.1 q.2 := List.forall_mem_cons.mpr ⟨pe11_3_26 kn h, List.forall_mem_cons.mpr ⟨pe11_9_12 kn h, List.forall_mem_cons.mpr ⟨pe11_11_23 kn h, List.forall_mem_cons.mpr ⟨pe11_12_0 kn h, List.forall_mem_cons.mpr ⟨pe11_18_0 kn h, List.forall_mem_cons.mpr ⟨pe11_22_0 kn h, List.forall_mem_cons.mpr ⟨pe11_25_0 kn h, List.forall_mem_cons.mpr ⟨pe11_29_0 kn h, List.forall_mem_cons.mpr ⟨pe11_34_20 kn h, List.forall_mem_cons.mpr ⟨pe11_38_0 kn h, List.forall_mem_cons.mpr ⟨pe11_42_0 kn h, List.forall_mem_cons.mpr ⟨pe11_46_20 kn h, List.forall_mem_cons.mpr ⟨pe11_50_10 kn h, List.forall_mem_cons.mpr ⟨pe11_51_20 kn h, List.forall_mem_cons.mpr ⟨pe11_55_20 kn h, List.forall_mem_cons.mpr ⟨pe11_59_20 kn h, List.forall_mem_cons.mpr ⟨pe11_63_20 kn h, List.forall_mem_cons.mpr ⟨pe11_67_0 kn h, List.forall_mem_cons.mpr ⟨pe11_70_0 kn h, List.forall_mem_cons.mpr ⟨pe11_73_0 kn h, List.forall_mem_cons.mpr ⟨pe11_76_20 kn h, List.forall_mem_cons.mpr ⟨pe11_80_0 kn h, List.forall_mem_cons.mpr ⟨pe11_83_20 kn h, List.forall_mem_cons.mpr ⟨pe11_87_24 kn h, List.forall_mem_cons.mpr ⟨pe11_90_0 kn h, List.forall_mem_cons.mpr ⟨pe11_93_30 kn h, List.forall_mem_cons.mpr ⟨pe11_99_20 kn h, List.forall_mem_cons.mpr ⟨pe11_106_0 kn h, List.forall_mem_cons.mpr ⟨pe11_109_20 kn h, List.forall_mem_cons.mpr ⟨pe11_112_0 kn h, List.forall_mem_cons.mpr ⟨pe11_115_0 kn h, List.forall_mem_cons.mpr ⟨pe11_122_20 kn h, List.forall_mem_cons.mpr ⟨pe11_129_25 kn h, List.forall_mem_cons.mpr ⟨pe11_133_11 kn h, List.forall_mem_cons.mpr ⟨pe11_136_0 kn h, List.forall_mem_cons.mpr ⟨pe11_139_0 kn h, List.forall_mem_cons.mpr ⟨pe11_142_0 kn h, List.forall_mem_cons.mpr ⟨pe11_145_0 kn h, List.forall_mem_cons.mpr ⟨pe11_148_0 kn h, List.forall_mem_cons.mpr ⟨pe11_151_20 kn h, List.forall_mem_cons.mpr ⟨pe11_154_20 kn h, List.forall_mem_cons.mpr ⟨pe11_158_20 kn h, List.forall_mem_cons.mpr ⟨pe11_161_20 kn h, List.forall_mem_cons.mpr ⟨pe11_165_0 kn h, List.forall_mem_cons.mpr ⟨pe11_168_25 kn h, List.forall_mem_cons.mpr ⟨pe11_176_25 kn h, List.forall_mem_cons.mpr ⟨pe11_184_20 kn h, List.forall_mem_cons.mpr ⟨pe11_188_20 kn h, List.forall_mem_cons.mpr ⟨pe11_191_20 kn h, List.forall_mem_cons.mpr ⟨pe11_194_25 kn h, List.forall_mem_cons.mpr ⟨pe11_198_10 kn h, List.forall_mem_cons.mpr ⟨pe11_199_24 kn h, List.forall_mem_cons.mpr ⟨pe11_203_0 kn h, List.forall_mem_cons.mpr ⟨pe11_206_0 kn h, List.forall_mem_cons.mpr ⟨pe11_209_10 kn h, (fun _ h => absurd h List.not_mem_nil)⟩⟩⟩⟩⟩⟩⟩⟩⟩⟩⟩⟩⟩⟩⟩⟩⟩⟩⟩⟩⟩⟩⟩⟩⟩⟩⟩⟩⟩⟩⟩⟩⟩⟩⟩⟩⟩⟩⟩⟩⟩⟩⟩⟩⟩⟩⟩⟩⟩⟩⟩⟩⟩⟩⟩
set_option maxRecDepth 100000 in
theorem pe12_3_26 (kn : List rM) {m : Nat} (h : (rE0.1 m).cls = "PackHouse$Unpacker") : rpo (rpar kn) rE0 m 3 (26, 0, 0, .null) := po26 h (tw6 (List.mem_of_getElem? (i := 211) rfl) rfl)
set_option maxRecDepth 100000 in
theorem pe12_9_12 (kn : List rM) {m : Nat} (h : (rE0.1 m).cls = "PackHouse$Unpacker") : rpo (rpar kn) rE0 m 9 (12, 3, 17, .null) := po12 (T := FT3) h rfl (tw6 (List.mem_of_getElem? (i := 212) rfl) rfl) (tw2 (List.mem_of_getElem? (i := 152) rfl) rfl) (tw1 (List.mem_of_getElem? (i := 16) rfl) rfl)
set_option maxRecDepth 100000 in
theorem pe12_11_23 (kn : List rM) {m : Nat} (h : (rE0.1 m).cls = "PackHouse$Unpacker") : rpo (rpar kn) rE0 m 11 (23, 88, 0, .ref 3) := po23 h (pm88 kn) (tn6 (List.mem_of_getElem? (i := 213) rfl) rfl) (tw2 (List.mem_of_getElem? (i := 154) rfl) rfl) rfl rfl
set_option maxRecDepth 100000 in
theorem pe12_12_0 (kn : List rM) {m : Nat} (h : (rE0.1 m).cls = "PackHouse$Unpacker") : rpo (rpar kn) rE0 m 12 (0, 12, 1, .ref 11) := po0 (C := "PackHouse$Unpacker") (T := FT12) (N := 22) (ty := fy12 1) h rfl (by decide) rfl (tw6 (List.mem_of_getElem? (i := 222) rfl) rfl) (fp12 1 (by decide)) rfl (fun a => absurd a (by decide)) (fun _ _ => ⟨rfl, rfl⟩)
set_option maxRecDepth 100000 in
theorem pe12_18_24 (kn : List rM) {m : Nat} (h : (rE0.1 m).cls = "PackHouse$Unpacker") : rpo (rpar kn) rE0 m 18 (24, 92, 0, .null) := po24 h (pm92 kn) (tw6 (List.mem_of_getElem? (i := 214) rfl) rfl) (tw3 (List.mem_of_getElem? (i := 39) rfl) rfl)
set_option maxRecDepth 100000 in
theorem pe12_24_0 (kn : List rM) {m : Nat} (h : (rE0.1 m).cls = "PackHouse$Unpacker") : rpo (rpar kn) rE0 m 24 (0, 12, 2, .ref 11) := po0 (C := "PackHouse$Unpacker") (T := FT12) (N := 22) (ty := fy12 2) h rfl (by decide) rfl (tw6 (List.mem_of_getElem? (i := 223) rfl) rfl) (fp12 2 (by decide)) rfl (fun a => absurd a (by decide)) (fun _ _ => ⟨rfl, rfl⟩)
set_option maxRecDepth 100000 in
theorem pe12_28_12 (kn : List rM) {m : Nat} (h : (rE0.1 m).cls = "PackHouse$Unpacker") : rpo (rpar kn) rE0 m 28 (12, 9, 3, .null) := po12 (T := FT9) h rfl (tw6 (List.mem_of_getElem? (i := 215) rfl) rfl) (tw1 (List.mem_of_getElem? (i := 84) rfl) rfl) (tw1 (List.mem_of_getElem? (i := 4) rfl) rfl)
set_option maxRecDepth 100000 in
theorem pe12_30_23 (kn : List rM) {m : Nat} (h : (rE0.1 m).cls = "PackHouse$Unpacker") : rpo (rpar kn) rE0 m 30 (23, 114, 0, .ref 9) := po23 h (pm114 kn) (tn6 (List.mem_of_getElem? (i := 216) rfl) rfl) (tw1 (List.mem_of_getElem? (i := 86) rfl) rfl) rfl rfl
set_option maxRecDepth 100000 in
theorem pe12_31_0 (kn : List rM) {m : Nat} (h : (rE0.1 m).cls = "PackHouse$Unpacker") : rpo (rpar kn) rE0 m 31 (0, 12, 3, .ref 11) := po0 (C := "PackHouse$Unpacker") (T := FT12) (N := 22) (ty := fy12 3) h rfl (by decide) rfl (tw6 (List.mem_of_getElem? (i := 224) rfl) rfl) (fp12 3 (by decide)) rfl (fun a => absurd a (by decide)) (fun _ _ => ⟨rfl, rfl⟩)
set_option maxRecDepth 100000 in
theorem pe12_35_12 (kn : List rM) {m : Nat} (h : (rE0.1 m).cls = "PackHouse$Unpacker") : rpo (rpar kn) rE0 m 35 (12, 7, 5, .null) := po12 (T := FT7) h rfl (tw6 (List.mem_of_getElem? (i := 217) rfl) rfl) (tw1 (List.mem_of_getElem? (i := 33) rfl) rfl) (tw1 (List.mem_of_getElem? (i := 2) rfl) rfl)
set_option maxRecDepth 100000 in
theorem pe12_37_23 (kn : List rM) {m : Nat} (h : (rE0.1 m).cls = "PackHouse$Unpacker") : rpo (rpar kn) rE0 m 37 (23, 104, 0, .ref 7) := po23 h (pm104 kn) (tn6 (List.mem_of_getElem? (i := 218) rfl) rfl) (tw1 (List.mem_of_getElem? (i := 35) rfl) rfl) rfl rfl
set_option maxRecDepth 100000 in
theorem pe12_38_0 (kn : List rM) {m : Nat} (h : (rE0.1 m).cls = "PackHouse$Unpacker") : rpo (rpar kn) rE0 m 38 (0, 12, 4, .ref 11) := po0 (C := "PackHouse$Unpacker") (T := FT12) (N := 22) (ty := fy12 4) h rfl (by decide) rfl (tw6 (List.mem_of_getElem? (i := 225) rfl) rfl) (fp12 4 (by decide)) rfl (fun a => absurd a (by decide)) (fun _ _ => ⟨rfl, rfl⟩)
set_option maxRecDepth 100000 in
theorem pe12_42_12 (kn : List rM) {m : Nat} (h : (rE0.1 m).cls = "PackHouse$Unpacker") : rpo (rpar kn) rE0 m 42 (12, 2, 3, .null) := po12 (T := FT2) h rfl (tw6 (List.mem_of_getElem? (i := 219) rfl) rfl) (tw2 (List.mem_of_getElem? (i := 209) rfl) rfl) (tw1 (List.mem_of_getElem? (i := 18) rfl) rfl)
set_option maxRecDepth 100000 in
theorem pe12_44_23 (kn : List rM) {m : Nat} (h : (rE0.1 m).cls = "PackHouse$Unpacker") : rpo (rpar kn) rE0 m 44 (23, 87, 0, .ref 2) := po23 h (pm87 kn) (tn6 (List.mem_of_getElem? (i := 220) rfl) rfl) (tw2 (List.mem_of_getElem? (i := 211) rfl) rfl) rfl rfl
set_option maxRecDepth 100000 in
theorem pe12_45_0 (kn : List rM) {m : Nat} (h : (rE0.1 m).cls = "PackHouse$Unpacker") : rpo (rpar kn) rE0 m 45 (0, 12, 5, .ref 11) := po0 (C := "PackHouse$Unpacker") (T := FT12) (N := 22) (ty := fy12 5) h rfl (by decide) rfl (tw6 (List.mem_of_getElem? (i := 226) rfl) rfl) (fp12 5 (by decide)) rfl (fun a => absurd a (by decide)) (fun _ _ => ⟨rfl, rfl⟩)
set_option maxRecDepth 100000 in
theorem pe12_49_0 (kn : List rM) {m : Nat} (h : (rE0.1 m).cls = "PackHouse$Unpacker") : rpo (rpar kn) rE0 m 49 (0, 12, 6, .ref 11) := po0 (C := "PackHouse$Unpacker") (T := FT12) (N := 22) (ty := fy12 6) h rfl (by decide) rfl (tw6 (List.mem_of_getElem? (i := 227) rfl) rfl) (fp12 6 (by decide)) rfl (fun a => absurd a (by decide)) (fun _ _ => ⟨rfl, rfl⟩)
set_option maxRecDepth 100000 in
theorem pe12_53_0 (kn : List rM) {m : Nat} (h : (rE0.1 m).cls = "PackHouse$Unpacker") : rpo (rpar kn) rE0 m 53 (0, 12, 0, .ref 11) := po0 (C := "PackHouse$Unpacker") (T := FT12) (N := 22) (ty := fy12 0) h rfl (by decide) rfl (tw6 (List.mem_of_getElem? (i := 221) rfl) rfl) (fp12 0 (by decide)) rfl (fun a => absurd a (by decide)) (fun _ _ => ⟨rfl, rfl⟩)
set_option maxRecDepth 100000 in
theorem pe12_56_0 (kn : List rM) {m : Nat} (h : (rE0.1 m).cls = "PackHouse$Unpacker") : rpo (rpar kn) rE0 m 56 (0, 12, 21, .ref 0) := po0 (C := "PackHouse$Unpacker") (T := FT12) (N := 22) (ty := fy12 21) h rfl (by decide) rfl (tw7 (List.mem_of_getElem? (i := 2) rfl) rfl) (fp12 21 (by decide)) rfl (fun _ => rfl) (fun a _ => absurd a (by decide))
set_option maxRecDepth 100000 in
theorem pe12_60_0 (kn : List rM) {m : Nat} (h : (rE0.1 m).cls = "PackHouse$Unpacker") : rpo (rpar kn) rE0 m 60 (0, 7, 0, .ref 3) := po0 (C := "PackHouse$Row") (T := FT7) (N := 5) (ty := fy7 0) h rfl (by decide) rfl (tw1 (List.mem_of_getElem? (i := 40) rfl) rfl) (fp7 0 (by decide)) rfl (fun _ => rfl) (fun a _ => absurd a (by decide))
set_option maxRecDepth 100000 in
theorem pe12_64_0 (kn : List rM) {m : Nat} (h : (rE0.1 m).cls = "PackHouse$Unpacker") : rpo (rpar kn) rE0 m 64 (0, 12, 7, .ref 3) := po0 (C := "PackHouse$Unpacker") (T := FT12) (N := 22) (ty := fy12 7) h rfl (by decide) rfl (tw6 (List.mem_of_getElem? (i := 228) rfl) rfl) (fp12 7 (by decide)) rfl (fun _ => rfl) (fun a _ => absurd a (by decide))
set_option maxRecDepth 100000 in
theorem pe12_67_0 (kn : List rM) {m : Nat} (h : (rE0.1 m).cls = "PackHouse$Unpacker") : rpo (rpar kn) rE0 m 67 (0, 7, 1, .ref 0) := po0 (C := "PackHouse$Row") (T := FT7) (N := 5) (ty := fy7 1) h rfl (by decide) rfl (tw1 (List.mem_of_getElem? (i := 49) rfl) rfl) (fp7 1 (by decide)) rfl (fun _ => rfl) (fun a _ => absurd a (by decide))
set_option maxRecDepth 100000 in
theorem pe12_70_0 (kn : List rM) {m : Nat} (h : (rE0.1 m).cls = "PackHouse$Unpacker") : rpo (rpar kn) rE0 m 70 (0, 12, 8, .ref 0) := po0 (C := "PackHouse$Unpacker") (T := FT12) (N := 22) (ty := fy12 8) h rfl (by decide) rfl (tw6 (List.mem_of_getElem? (i := 229) rfl) rfl) (fp12 8 (by decide)) rfl (fun _ => rfl) (fun a _ => absurd a (by decide))
set_option maxRecDepth 100000 in
theorem pe12_73_0 (kn : List rM) {m : Nat} (h : (rE0.1 m).cls = "PackHouse$Unpacker") : rpo (rpar kn) rE0 m 73 (0, 12, 9, .ref 0) := po0 (C := "PackHouse$Unpacker") (T := FT12) (N := 22) (ty := fy12 9) h rfl (by decide) rfl (tw6 (List.mem_of_getElem? (i := 230) rfl) rfl) (fp12 9 (by decide)) rfl (fun _ => rfl) (fun a _ => absurd a (by decide))
set_option maxRecDepth 100000 in
theorem pe12_76_0 (kn : List rM) {m : Nat} (h : (rE0.1 m).cls = "PackHouse$Unpacker") : rpo (rpar kn) rE0 m 76 (0, 12, 10, .ref 3) := po0 (C := "PackHouse$Unpacker") (T := FT12) (N := 22) (ty := fy12 10) h rfl (by decide) rfl (tw6 (List.mem_of_getElem? (i := 231) rfl) rfl) (fp12 10 (by decide)) rfl (fun _ => rfl) (fun a _ => absurd a (by decide))
set_option maxRecDepth 100000 in
theorem pe12_79_0 (kn : List rM) {m : Nat} (h : (rE0.1 m).cls = "PackHouse$Unpacker") : rpo (rpar kn) rE0 m 79 (0, 12, 11, .ref 0) := po0 (C := "PackHouse$Unpacker") (T := FT12) (N := 22) (ty := fy12 11) h rfl (by decide) rfl (tw6 (List.mem_of_getElem? (i := 232) rfl) rfl) (fp12 11 (by decide)) rfl (fun _ => rfl) (fun a _ => absurd a (by decide))
set_option maxRecDepth 100000 in
theorem pe12_82_0 (kn : List rM) {m : Nat} (h : (rE0.1 m).cls = "PackHouse$Unpacker") : rpo (rpar kn) rE0 m 82 (0, 12, 12, .ref 3) := po0 (C := "PackHouse$Unpacker") (T := FT12) (N := 22) (ty := fy12 12) h rfl (by decide) rfl (tw6 (List.mem_of_getElem? (i := 233) rfl) rfl) (fp12 12 (by decide)) rfl (fun _ => rfl) (fun a _ => absurd a (by decide))
set_option maxRecDepth 100000 in
theorem pe12_86_0 (kn : List rM) {m : Nat} (h : (rE0.1 m).cls = "PackHouse$Unpacker") : rpo (rpar kn) rE0 m 86 (0, 12, 13, .ref 3) := po0 (C := "PackHouse$Unpacker") (T := FT12) (N := 22) (ty := fy12 13) h rfl (by decide) rfl (tw6 (List.mem_of_getElem? (i := 234) rfl) rfl) (fp12 13 (by decide)) rfl (fun _ => rfl) (fun a _ => absurd a (by decide))
set_option maxRecDepth 100000 in
theorem pe12_89_28 (kn : List rM) {m : Nat} (h : (rE0.1 m).cls = "PackHouse$Unpacker") : rpo (rpar kn) rE0 m 89 (28, 0, 0, .null) := po28 h (tw7 (List.mem_of_getElem? (i := 53) rfl) rfl)
set_option maxRecDepth 100000 in
theorem pe12_95_20 (kn : List rM) {m : Nat} (h : (rE0.1 m).cls = "PackHouse$Unpacker") : rpo (rpar kn) rE0 m 95 (20, 148, 2, .ref 12) := po20 h (pm148 kn) (tw7 (List.mem_of_getElem? (i := 54) rfl) rfl) (tw7 (List.mem_of_getElem? (i := 56) rfl) rfl) (pw5 (List.mem_of_getElem? (i := 3) rfl)) rfl rfl
set_option maxRecDepth 100000 in
theorem pe12_99_20 (kn : List rM) {m : Nat} (h : (rE0.1 m).cls = "PackHouse$Unpacker") : rpo (rpar kn) rE0 m 99 (20, 151, 0, .ref 12) := po20 h (pm151 kn) (tw7 (List.mem_of_getElem? (i := 58) rfl) rfl) (tw7 (List.mem_of_getElem? (i := 60) rfl) rfl) (pw5 (List.mem_of_getElem? (i := 4) rfl)) rfl rfl
set_option maxRecDepth 100000 in
theorem pe12_103_20 (kn : List rM) {m : Nat} (h : (rE0.1 m).cls = "PackHouse$Unpacker") : rpo (rpar kn) rE0 m 103 (20, 159, 0, .ref 12) := po20 h (pm159 kn) (tw7 (List.mem_of_getElem? (i := 96) rfl) rfl) (tw7 (List.mem_of_getElem? (i := 98) rfl) rfl) (pw5 (List.mem_of_getElem? (i := 11) rfl)) rfl rfl
set_option maxRecDepth 100000 in
theorem pe12_106_0 (kn : List rM) {m : Nat} (h : (rE0.1 m).cls = "PackHouse$Unpacker") : rpo (rpar kn) rE0 m 106 (0, 12, 18, .ref 0) := po0 (C := "PackHouse$Unpacker") (T := FT12) (N := 22) (ty := fy12 18) h rfl (by decide) rfl (tw6 (List.mem_of_getElem? (i := 239) rfl) rfl) (fp12 18 (by decide)) rfl (fun _ => rfl) (fun a _ => absurd a (by decide))
set_option maxRecDepth 100000 in
theorem pe12_109_20 (kn : List rM) {m : Nat} (h : (rE0.1 m).cls = "PackHouse$Unpacker") : rpo (rpar kn) rE0 m 109 (20, 105, 0, .ref 7) := po20 h (pm105 kn) (tw7 (List.mem_of_getElem? (i := 108) rfl) rfl) (tw2 (List.mem_of_getElem? (i := 123) rfl) rfl) (tw2 (List.mem_of_getElem? (i := 124) rfl) rfl) rfl rfl
set_option maxRecDepth 100000 in
theorem pe12_122_20 (kn : List rM) {m : Nat} (h : (rE0.1 m).cls = "PackHouse$Unpacker") : rpo (rpar kn) rE0 m 122 (20, 158, 0, .ref 12) := po20 h (pm158 kn) (tw7 (List.mem_of_getElem? (i := 177) rfl) rfl) (tw7 (List.mem_of_getElem? (i := 179) rfl) rfl) (pw6 (List.mem_of_getElem? (i := 8) rfl)) rfl rfl
set_option maxRecDepth 100000 in
theorem pe12_125_0 (kn : List rM) {m : Nat} (h : (rE0.1 m).cls = "PackHouse$Unpacker") : rpo (rpar kn) rE0 m 125 (0, 12, 15, .ref 2) := po0 (C := "PackHouse$Unpacker") (T := FT12) (N := 22) (ty := fy12 15) h rfl (by decide) rfl (tw6 (List.mem_of_getElem? (i := 236) rfl) rfl) (fp12 15 (by decide)) rfl (fun _ => rfl) (fun a _ => absurd a (by decide))
set_option maxRecDepth 100000 in
theorem pe12_129_11 (kn : List rM) {m : Nat} (h : (rE0.1 m).cls = "PackHouse$Unpacker") : rpo (rpar kn) rE0 m 129 (11, 0, 0, .long (131072)) := po11 h (tw7 (List.mem_of_getElem? (i := 104) rfl) rfl)
set_option maxRecDepth 100000 in
theorem pe12_131_10 (kn : List rM) {m : Nat} (h : (rE0.1 m).cls = "PackHouse$Unpacker") : rpo (rpar kn) rE0 m 131 (10, 0, 0, .int (131072)) := po10 h (tw7 (List.mem_of_getElem? (i := 105) rfl) rfl)
set_option maxRecDepth 100000 in
theorem pe12_132_25 (kn : List rM) {m : Nat} (h : (rE0.1 m).cls = "PackHouse$Unpacker") : rpo (rpar kn) rE0 m 132 (25, 43, 3, .null) := po25 h (pm43 kn) (tn7 (List.mem_of_getElem? (i := 62) rfl) rfl) (tw6 (List.mem_of_getElem? (i := 133) rfl) rfl)
set_option maxRecDepth 100000 in
theorem pe12_140_25 (kn : List rM) {m : Nat} (h : (rE0.1 m).cls = "PackHouse$Unpacker") : rpo (rpar kn) rE0 m 140 (25, 41, 2, .null) := po25 h (pm41 kn) (tn7 (List.mem_of_getElem? (i := 64) rfl) rfl) (tw2 (List.mem_of_getElem? (i := 67) rfl) rfl)
set_option maxRecDepth 100000 in
theorem pe12_144_10 (kn : List rM) {m : Nat} (h : (rE0.1 m).cls = "PackHouse$Unpacker") : rpo (rpar kn) rE0 m 144 (10, 0, 0, .int (-47205080)) := po10 h (tw7 (List.mem_of_getElem? (i := 65) rfl) rfl)
set_option maxRecDepth 100000 in
theorem pe12_145_0 (kn : List rM) {m : Nat} (h : (rE0.1 m).cls = "PackHouse$Unpacker") : rpo (rpar kn) rE0 m 145 (0, 12, 14, .ref 0) := po0 (C := "PackHouse$Unpacker") (T := FT12) (N := 22) (ty := fy12 14) h rfl (by decide) rfl (tw6 (List.mem_of_getElem? (i := 235) rfl) rfl) (fp12 14 (by decide)) rfl (fun _ => rfl) (fun a _ => absurd a (by decide))
set_option maxRecDepth 100000 in
theorem pe12_148_0 (kn : List rM) {m : Nat} (h : (rE0.1 m).cls = "PackHouse$Unpacker") : rpo (rpar kn) rE0 m 148 (0, 12, 17, .ref 0) := po0 (C := "PackHouse$Unpacker") (T := FT12) (N := 22) (ty := fy12 17) h rfl (by decide) rfl (tw6 (List.mem_of_getElem? (i := 238) rfl) rfl) (fp12 17 (by decide)) rfl (fun _ => rfl) (fun a _ => absurd a (by decide))
set_option maxRecDepth 100000 in
theorem pe12_151_0 (kn : List rM) {m : Nat} (h : (rE0.1 m).cls = "PackHouse$Unpacker") : rpo (rpar kn) rE0 m 151 (0, 4, 1, .ref 19) := po0 (C := "PackHouse$Dictionary") (T := FT4) (N := 5) (ty := fy4 1) h rfl (by decide) rfl (tw1 (List.mem_of_getElem? (i := 118) rfl) rfl) (fp4 1 (by decide)) rfl (fun a => absurd a (by decide)) (fun _ b => absurd b (by decide))
set_option maxRecDepth 100000 in
theorem pe12_154_20 (kn : List rM) {m : Nat} (h : (rE0.1 m).cls = "PackHouse$Unpacker") : rpo (rpar kn) rE0 m 154 (20, 116, 1, .ref 9) := po20 h (pm116 kn) (tw7 (List.mem_of_getElem? (i := 66) rfl) rfl) (tw5 (List.mem_of_getElem? (i := 102) rfl) rfl) (tw5 (List.mem_of_getElem? (i := 103) rfl) rfl) rfl rfl
set_option maxRecDepth 100000 in
theorem pe12_158_20 (kn : List rM) {m : Nat} (h : (rE0.1 m).cls = "PackHouse$Unpacker") : rpo (rpar kn) rE0 m 158 (20, 153, 0, .ref 12) := po20 h (pm153 kn) (tw7 (List.mem_of_getElem? (i := 67) rfl) rfl) (tw7 (List.mem_of_getElem? (i := 69) rfl) rfl) (pw5 (List.mem_of_getElem? (i := 5) rfl)) rfl rfl
set_option maxRecDepth 100000 in
theorem pe12_161_20 (kn : List rM) {m : Nat} (h : (rE0.1 m).cls = "PackHouse$Unpacker") : rpo (rpar kn) rE0 m 161 (20, 154, 0, .ref 12) := po20 h (pm154 kn) (tw7 (List.mem_of_getElem? (i := 78) rfl) rfl) (tw7 (List.mem_of_getElem? (i := 80) rfl) rfl) (pw5 (List.mem_of_getElem? (i := 7) rfl)) rfl rfl
set_option maxRecDepth 100000 in
theorem pe12_164_20 (kn : List rM) {m : Nat} (h : (rE0.1 m).cls = "PackHouse$Unpacker") : rpo (rpar kn) rE0 m 164 (20, 157, 0, .ref 12) := po20 h (pm157 kn) (tw7 (List.mem_of_getElem? (i := 84) rfl) rfl) (tw7 (List.mem_of_getElem? (i := 86) rfl) rfl) (pw5 (List.mem_of_getElem? (i := 8) rfl)) rfl rfl
set_option maxRecDepth 100000 in
theorem pe12_167_11 (kn : List rM) {m : Nat} (h : (rE0.1 m).cls = "PackHouse$Unpacker") : rpo (rpar kn) rE0 m 167 (11, 0, 0, .long (4611686018427387904)) := po11 h (tw7 (List.mem_of_getElem? (i := 75) rfl) rfl)
set_option maxRecDepth 100000 in
theorem pe12_169_11 (kn : List rM) {m : Nat} (h : (rE0.1 m).cls = "PackHouse$Unpacker") : rpo (rpar kn) rE0 m 169 (11, 0, 0, .long (2147483647)) := po11 h (tw7 (List.mem_of_getElem? (i := 76) rfl) rfl)
set_option maxRecDepth 100000 in
theorem pe12_171_10 (kn : List rM) {m : Nat} (h : (rE0.1 m).cls = "PackHouse$Unpacker") : rpo (rpar kn) rE0 m 171 (10, 0, 0, .int (2147483647)) := po10 h (tw7 (List.mem_of_getElem? (i := 77) rfl) rfl)
set_option maxRecDepth 100000 in
theorem pe12_172_20 (kn : List rM) {m : Nat} (h : (rE0.1 m).cls = "PackHouse$Unpacker") : rpo (rpar kn) rE0 m 172 (20, 152, 1, .ref 12) := po20 h (pm152 kn) (tw7 (List.mem_of_getElem? (i := 71) rfl) rfl) (tw7 (List.mem_of_getElem? (i := 73) rfl) rfl) (pw5 (List.mem_of_getElem? (i := 6) rfl)) rfl rfl
set_option maxRecDepth 100000 in
theorem pe12_176_25 (kn : List rM) {m : Nat} (h : (rE0.1 m).cls = "PackHouse$Unpacker") : rpo (rpar kn) rE0 m 176 (25, 42, 3, .null) := po25 h (pm42 kn) (tn7 (List.mem_of_getElem? (i := 82) rfl) rfl) (tw2 (List.mem_of_getElem? (i := 88) rfl) rfl)
set_option maxRecDepth 100000 in
theorem pe12_180_0 (kn : List rM) {m : Nat} (h : (rE0.1 m).cls = "PackHouse$Unpacker") : rpo (rpar kn) rE0 m 180 (0, 4, 2, .ref 0) := po0 (C := "PackHouse$Dictionary") (T := FT4) (N := 5) (ty := fy4 2) h rfl (by decide) rfl (tw1 (List.mem_of_getElem? (i := 121) rfl) rfl) (fp4 2 (by decide)) rfl (fun _ => rfl) (fun a _ => absurd a (by decide))
set_option maxRecDepth 100000 in
theorem pe12_183_11 (kn : List rM) {m : Nat} (h : (rE0.1 m).cls = "PackHouse$Unpacker") : rpo (rpar kn) rE0 m 183 (11, 0, 0, .long (4294967295)) := po11 h (tw7 (List.mem_of_getElem? (i := 83) rfl) rfl)
set_option maxRecDepth 100000 in
theorem pe12_185_20 (kn : List rM) {m : Nat} (h : (rE0.1 m).cls = "PackHouse$Unpacker") : rpo (rpar kn) rE0 m 185 (20, 155, 0, .ref 12) := po20 h (pm155 kn) (tw7 (List.mem_of_getElem? (i := 88) rfl) rfl) (tw7 (List.mem_of_getElem? (i := 90) rfl) rfl) (pw5 (List.mem_of_getElem? (i := 9) rfl)) rfl rfl
set_option maxRecDepth 100000 in
theorem pe12_188_0 (kn : List rM) {m : Nat} (h : (rE0.1 m).cls = "PackHouse$Unpacker") : rpo (rpar kn) rE0 m 188 (0, 12, 16, .ref 0) := po0 (C := "PackHouse$Unpacker") (T := FT12) (N := 22) (ty := fy12 16) h rfl (by decide) rfl (tw6 (List.mem_of_getElem? (i := 237) rfl) rfl) (fp12 16 (by decide)) rfl (fun _ => rfl) (fun a _ => absurd a (by decide))
set_option maxRecDepth 100000 in
theorem pe12_191_20 (kn : List rM) {m : Nat} (h : (rE0.1 m).cls = "PackHouse$Unpacker") : rpo (rpar kn) rE0 m 191 (20, 156, 0, .ref 12) := po20 h (pm156 kn) (tw7 (List.mem_of_getElem? (i := 92) rfl) rfl) (tw7 (List.mem_of_getElem? (i := 94) rfl) rfl) (pw5 (List.mem_of_getElem? (i := 10) rfl)) rfl rfl
set_option maxRecDepth 100000 in
theorem pe12_195_25 (kn : List rM) {m : Nat} (h : (rE0.1 m).cls = "PackHouse$Unpacker") : rpo (rpar kn) rE0 m 195 (25, 46, 4, .null) := po25 h (pm46 kn) (tn7 (List.mem_of_getElem? (i := 181) rfl) rfl) (tw2 (List.mem_of_getElem? (i := 82) rfl) rfl)
set_option maxRecDepth 100000 in
theorem pe12_199_20 (kn : List rM) {m : Nat} (h : (rE0.1 m).cls = "PackHouse$Unpacker") : rpo (rpar kn) rE0 m 199 (20, 150, 0, .ref 12) := po20 h (pm150 kn) (tw7 (List.mem_of_getElem? (i := 100) rfl) rfl) (tw7 (List.mem_of_getElem? (i := 102) rfl) rfl) (pw5 (List.mem_of_getElem? (i := 12) rfl)) rfl rfl
set_option maxRecDepth 100000 in
theorem pe12_206_20 (kn : List rM) {m : Nat} (h : (rE0.1 m).cls = "PackHouse$Unpacker") : rpo (rpar kn) rE0 m 206 (20, 110, 3, .ref 7) := po20 h (pm110 kn) (tw7 (List.mem_of_getElem? (i := 107) rfl) rfl) (tw2 (List.mem_of_getElem? (i := 19) rfl) rfl) (tw2 (List.mem_of_getElem? (i := 20) rfl) rfl) rfl rfl
set_option maxRecDepth 100000 in
theorem pl12 (kn : List rM) {m : Nat} (h : (rE0.1 m).cls = "PackHouse$Unpacker") : ∀ q ∈ pool_12, rpo (rpar kn) rE0 m q.1 q.2 := List.forall_mem_cons.mpr ⟨pe12_3_26 kn h, List.forall_mem_cons.mpr ⟨pe12_9_12 kn h, List.forall_mem_cons.mpr ⟨pe12_11_23 kn h, List.forall_mem_cons.mpr ⟨pe12_12_0 kn h, List.forall_mem_cons.mpr ⟨pe12_18_24 kn h, List.forall_mem_cons.mpr ⟨pe12_24_0 kn h, List.forall_mem_cons.mpr ⟨pe12_28_12 kn h, List.forall_mem_cons.mpr ⟨pe12_30_23 kn h, List.forall_mem_cons.mpr ⟨pe12_31_0 kn h, List.forall_mem_cons.mpr ⟨pe12_35_12 kn h, List.forall_mem_cons.mpr ⟨pe12_37_23 kn h, List.forall_mem_cons.mpr ⟨pe12_38_0 kn h, List.forall_mem_cons.mpr ⟨pe12_42_12 kn h, List.forall_mem_cons.mpr ⟨pe12_44_23 kn h, List.forall_mem_cons.mpr ⟨pe12_45_0 kn h, List.forall_mem_cons.mpr ⟨pe12_49_0 kn h, List.forall_mem_cons.mpr ⟨pe12_53_0 kn h, List.forall_mem_cons.mpr ⟨pe12_56_0 kn h, List.forall_mem_cons.mpr ⟨pe12_60_0 kn h, List.forall_mem_cons.mpr ⟨pe12_64_0 kn h, List.forall_mem_cons.mpr ⟨pe12_67_0 kn h, List.forall_mem_cons.mpr ⟨pe12_70_0 kn h, List.forall_mem_cons.mpr ⟨pe12_73_0 kn h, List.forall_mem_cons.mpr ⟨pe12_76_0 kn h, List.forall_mem_cons.mpr ⟨pe12_79_0 kn h, List.forall_mem_cons.mpr ⟨pe12_82_0 kn h, List.forall_mem_cons.mpr ⟨pe12_86_0 kn h, List.forall_mem_cons.mpr ⟨pe12_89_28 kn h, List.forall_mem_cons.mpr ⟨pe12_95_20 kn h, List.forall_mem_cons.mpr ⟨pe12_99_20 kn h, List.forall_mem_cons.mpr ⟨pe12_103_20 kn h, List.forall_mem_cons.mpr ⟨pe12_106_0 kn h, List.forall_mem_cons.mpr ⟨pe12_109_20 kn h, List.forall_mem_cons.mpr ⟨pe12_122_20 kn h, List.forall_mem_cons.mpr ⟨pe12_125_0 kn h, List.forall_mem_cons.mpr ⟨pe12_129_11 kn h, List.forall_mem_cons.mpr ⟨pe12_131_10 kn h, List.forall_mem_cons.mpr ⟨pe12_132_25 kn h, List.forall_mem_cons.mpr ⟨pe12_140_25 kn h, List.forall_mem_cons.mpr ⟨pe12_144_10 kn h, List.forall_mem_cons.mpr ⟨pe12_145_0 kn h, List.forall_mem_cons.mpr ⟨pe12_148_0 kn h, List.forall_mem_cons.mpr ⟨pe12_151_0 kn h, List.forall_mem_cons.mpr ⟨pe12_154_20 kn h, List.forall_mem_cons.mpr ⟨pe12_158_20 kn h, List.forall_mem_cons.mpr ⟨pe12_161_20 kn h, List.forall_mem_cons.mpr ⟨pe12_164_20 kn h, List.forall_mem_cons.mpr ⟨pe12_167_11 kn h, List.forall_mem_cons.mpr ⟨pe12_169_11 kn h, List.forall_mem_cons.mpr ⟨pe12_171_10 kn h, List.forall_mem_cons.mpr ⟨pe12_172_20 kn h, List.forall_mem_cons.mpr ⟨pe12_176_25 kn h, List.forall_mem_cons.mpr ⟨pe12_180_0 kn h, List.forall_mem_cons.mpr ⟨pe12_183_11 kn h, List.forall_mem_cons.mpr ⟨pe12_185_20 kn h, List.forall_mem_cons.mpr ⟨pe12_188_0 kn h, List.forall_mem_cons.mpr ⟨pe12_191_20 kn h, List.forall_mem_cons.mpr ⟨pe12_195_25 kn h, List.forall_mem_cons.mpr ⟨pe12_199_20 kn h, List.forall_mem_cons.mpr ⟨pe12_206_20 kn h, (fun _ h => absurd h List.not_mem_nil)⟩⟩⟩⟩⟩⟩⟩⟩⟩⟩⟩⟩⟩⟩⟩⟩⟩⟩⟩⟩⟩⟩⟩⟩⟩⟩⟩⟩⟩⟩⟩⟩⟩⟩⟩⟩⟩⟩⟩⟩⟩⟩⟩⟩⟩⟩⟩⟩⟩⟩⟩⟩⟩⟩⟩⟩⟩⟩⟩⟩
set_option maxRecDepth 100000 in
theorem pe13_1_26 (kn : List rM) {m : Nat} (h : (rE0.1 m).cls = "PackHouseModel$Desk") : rpo (rpar kn) rE0 m 1 (26, 0, 0, .null) := po26 h (tw7 (List.mem_of_getElem? (i := 234) rfl) rfl)
set_option maxRecDepth 100000 in
theorem pe13_7_10 (kn : List rM) {m : Nat} (h : (rE0.1 m).cls = "PackHouseModel$Desk") : rpo (rpar kn) rE0 m 7 (10, 0, 0, .int (65536)) := po10 h (tw7 (List.mem_of_getElem? (i := 235) rfl) rfl)
set_option maxRecDepth 100000 in
theorem pe13_8_0 (kn : List rM) {m : Nat} (h : (rE0.1 m).cls = "PackHouseModel$Desk") : rpo (rpar kn) rE0 m 8 (0, 13, 0, .ref 11) := po0 (C := "PackHouseModel$Desk") (T := FT13) (N := 5) (ty := fy13 0) h rfl (by decide) rfl (tw7 (List.mem_of_getElem? (i := 236) rfl) rfl) (fp13 0 (by decide)) rfl (fun a => absurd a (by decide)) (fun _ _ => ⟨rfl, rfl⟩)
set_option maxRecDepth 100000 in
theorem pe13_14_0 (kn : List rM) {m : Nat} (h : (rE0.1 m).cls = "PackHouseModel$Desk") : rpo (rpar kn) rE0 m 14 (0, 13, 2, .ref 11) := po0 (C := "PackHouseModel$Desk") (T := FT13) (N := 5) (ty := fy13 2) h rfl (by decide) rfl (tw8 (List.mem_of_getElem? (i := 7) rfl) rfl) (fp13 2 (by decide)) rfl (fun a => absurd a (by decide)) (fun _ _ => ⟨rfl, rfl⟩)
set_option maxRecDepth 100000 in
theorem pl13 (kn : List rM) {m : Nat} (h : (rE0.1 m).cls = "PackHouseModel$Desk") : ∀ q ∈ pool_13, rpo (rpar kn) rE0 m q.1 q.2 := List.forall_mem_cons.mpr ⟨pe13_1_26 kn h, List.forall_mem_cons.mpr ⟨pe13_7_10 kn h, List.forall_mem_cons.mpr ⟨pe13_8_0 kn h, List.forall_mem_cons.mpr ⟨pe13_14_0 kn h, (fun _ h => absurd h List.not_mem_nil)⟩⟩⟩⟩
set_option maxRecDepth 100000 in
theorem pe14_1_26 (kn : List rM) {m : Nat} (h : (rE0.1 m).cls = "PackHouseModel$Reader") : rpo (rpar kn) rE0 m 1 (26, 0, 0, .null) := po26 h (tw8 (List.mem_of_getElem? (i := 156) rfl) rfl)
set_option maxRecDepth 100000 in
theorem pe14_7_10 (kn : List rM) {m : Nat} (h : (rE0.1 m).cls = "PackHouseModel$Reader") : rpo (rpar kn) rE0 m 7 (10, 0, 0, .int (65536)) := po10 h (tw8 (List.mem_of_getElem? (i := 157) rfl) rfl)
set_option maxRecDepth 100000 in
theorem pe14_8_0 (kn : List rM) {m : Nat} (h : (rE0.1 m).cls = "PackHouseModel$Reader") : rpo (rpar kn) rE0 m 8 (0, 14, 1, .ref 11) := po0 (C := "PackHouseModel$Reader") (T := FT14) (N := 47) (ty := fy14 1) h rfl (by decide) rfl (tw8 (List.mem_of_getElem? (i := 160) rfl) rfl) (fp14 1 (by decide)) rfl (fun a => absurd a (by decide)) (fun _ _ => ⟨rfl, rfl⟩)
set_option maxRecDepth 100000 in
theorem pe14_14_0 (kn : List rM) {m : Nat} (h : (rE0.1 m).cls = "PackHouseModel$Reader") : rpo (rpar kn) rE0 m 14 (0, 14, 5, .ref 11) := po0 (C := "PackHouseModel$Reader") (T := FT14) (N := 47) (ty := fy14 5) h rfl (by decide) rfl (tw8 (List.mem_of_getElem? (i := 170) rfl) rfl) (fp14 5 (by decide)) rfl (fun a => absurd a (by decide)) (fun _ _ => ⟨rfl, rfl⟩)
set_option maxRecDepth 100000 in
theorem pe14_17_0 (kn : List rM) {m : Nat} (h : (rE0.1 m).cls = "PackHouseModel$Reader") : rpo (rpar kn) rE0 m 17 (0, 14, 6, .ref 11) := po0 (C := "PackHouseModel$Reader") (T := FT14) (N := 47) (ty := fy14 6) h rfl (by decide) rfl (tw8 (List.mem_of_getElem? (i := 172) rfl) rfl) (fp14 6 (by decide)) rfl (fun a => absurd a (by decide)) (fun _ _ => ⟨rfl, rfl⟩)
set_option maxRecDepth 100000 in
theorem pe14_20_0 (kn : List rM) {m : Nat} (h : (rE0.1 m).cls = "PackHouseModel$Reader") : rpo (rpar kn) rE0 m 20 (0, 14, 7, .ref 11) := po0 (C := "PackHouseModel$Reader") (T := FT14) (N := 47) (ty := fy14 7) h rfl (by decide) rfl (tw8 (List.mem_of_getElem? (i := 174) rfl) rfl) (fp14 7 (by decide)) rfl (fun a => absurd a (by decide)) (fun _ _ => ⟨rfl, rfl⟩)
set_option maxRecDepth 100000 in
theorem pe14_23_0 (kn : List rM) {m : Nat} (h : (rE0.1 m).cls = "PackHouseModel$Reader") : rpo (rpar kn) rE0 m 23 (0, 14, 8, .ref 11) := po0 (C := "PackHouseModel$Reader") (T := FT14) (N := 47) (ty := fy14 8) h rfl (by decide) rfl (tw8 (List.mem_of_getElem? (i := 176) rfl) rfl) (fp14 8 (by decide)) rfl (fun a => absurd a (by decide)) (fun _ _ => ⟨rfl, rfl⟩)
set_option maxRecDepth 100000 in
theorem pe14_27_0 (kn : List rM) {m : Nat} (h : (rE0.1 m).cls = "PackHouseModel$Reader") : rpo (rpar kn) rE0 m 27 (0, 14, 9, .ref 11) := po0 (C := "PackHouseModel$Reader") (T := FT14) (N := 47) (ty := fy14 9) h rfl (by decide) rfl (tw8 (List.mem_of_getElem? (i := 178) rfl) rfl) (fp14 9 (by decide)) rfl (fun a => absurd a (by decide)) (fun _ _ => ⟨rfl, rfl⟩)
set_option maxRecDepth 100000 in
theorem pe14_30_0 (kn : List rM) {m : Nat} (h : (rE0.1 m).cls = "PackHouseModel$Reader") : rpo (rpar kn) rE0 m 30 (0, 14, 11, .ref 11) := po0 (C := "PackHouseModel$Reader") (T := FT14) (N := 47) (ty := fy14 11) h rfl (by decide) rfl (tw8 (List.mem_of_getElem? (i := 180) rfl) rfl) (fp14 11 (by decide)) rfl (fun a => absurd a (by decide)) (fun _ _ => ⟨rfl, rfl⟩)
set_option maxRecDepth 100000 in
theorem pe14_33_0 (kn : List rM) {m : Nat} (h : (rE0.1 m).cls = "PackHouseModel$Reader") : rpo (rpar kn) rE0 m 33 (0, 14, 12, .ref 11) := po0 (C := "PackHouseModel$Reader") (T := FT14) (N := 47) (ty := fy14 12) h rfl (by decide) rfl (tw8 (List.mem_of_getElem? (i := 181) rfl) rfl) (fp14 12 (by decide)) rfl (fun a => absurd a (by decide)) (fun _ _ => ⟨rfl, rfl⟩)
set_option maxRecDepth 100000 in
theorem pe14_36_0 (kn : List rM) {m : Nat} (h : (rE0.1 m).cls = "PackHouseModel$Reader") : rpo (rpar kn) rE0 m 36 (0, 14, 13, .ref 11) := po0 (C := "PackHouseModel$Reader") (T := FT14) (N := 47) (ty := fy14 13) h rfl (by decide) rfl (tw8 (List.mem_of_getElem? (i := 182) rfl) rfl) (fp14 13 (by decide)) rfl (fun a => absurd a (by decide)) (fun _ _ => ⟨rfl, rfl⟩)
set_option maxRecDepth 100000 in
theorem pe14_39_0 (kn : List rM) {m : Nat} (h : (rE0.1 m).cls = "PackHouseModel$Reader") : rpo (rpar kn) rE0 m 39 (0, 14, 14, .ref 11) := po0 (C := "PackHouseModel$Reader") (T := FT14) (N := 47) (ty := fy14 14) h rfl (by decide) rfl (tw8 (List.mem_of_getElem? (i := 183) rfl) rfl) (fp14 14 (by decide)) rfl (fun a => absurd a (by decide)) (fun _ _ => ⟨rfl, rfl⟩)
set_option maxRecDepth 100000 in
theorem pe14_42_0 (kn : List rM) {m : Nat} (h : (rE0.1 m).cls = "PackHouseModel$Reader") : rpo (rpar kn) rE0 m 42 (0, 14, 15, .ref 11) := po0 (C := "PackHouseModel$Reader") (T := FT14) (N := 47) (ty := fy14 15) h rfl (by decide) rfl (tw8 (List.mem_of_getElem? (i := 184) rfl) rfl) (fp14 15 (by decide)) rfl (fun a => absurd a (by decide)) (fun _ _ => ⟨rfl, rfl⟩)
set_option maxRecDepth 100000 in
theorem pe14_45_0 (kn : List rM) {m : Nat} (h : (rE0.1 m).cls = "PackHouseModel$Reader") : rpo (rpar kn) rE0 m 45 (0, 14, 16, .ref 11) := po0 (C := "PackHouseModel$Reader") (T := FT14) (N := 47) (ty := fy14 16) h rfl (by decide) rfl (tw8 (List.mem_of_getElem? (i := 185) rfl) rfl) (fp14 16 (by decide)) rfl (fun a => absurd a (by decide)) (fun _ _ => ⟨rfl, rfl⟩)
set_option maxRecDepth 100000 in
theorem pe14_48_0 (kn : List rM) {m : Nat} (h : (rE0.1 m).cls = "PackHouseModel$Reader") : rpo (rpar kn) rE0 m 48 (0, 14, 17, .ref 11) := po0 (C := "PackHouseModel$Reader") (T := FT14) (N := 47) (ty := fy14 17) h rfl (by decide) rfl (tw8 (List.mem_of_getElem? (i := 186) rfl) rfl) (fp14 17 (by decide)) rfl (fun a => absurd a (by decide)) (fun _ _ => ⟨rfl, rfl⟩)
set_option maxRecDepth 100000 in
theorem pe14_51_0 (kn : List rM) {m : Nat} (h : (rE0.1 m).cls = "PackHouseModel$Reader") : rpo (rpar kn) rE0 m 51 (0, 14, 18, .ref 11) := po0 (C := "PackHouseModel$Reader") (T := FT14) (N := 47) (ty := fy14 18) h rfl (by decide) rfl (tw8 (List.mem_of_getElem? (i := 187) rfl) rfl) (fp14 18 (by decide)) rfl (fun a => absurd a (by decide)) (fun _ _ => ⟨rfl, rfl⟩)
set_option maxRecDepth 100000 in
theorem pe14_54_0 (kn : List rM) {m : Nat} (h : (rE0.1 m).cls = "PackHouseModel$Reader") : rpo (rpar kn) rE0 m 54 (0, 14, 20, .ref 11) := po0 (C := "PackHouseModel$Reader") (T := FT14) (N := 47) (ty := fy14 20) h rfl (by decide) rfl (tw8 (List.mem_of_getElem? (i := 189) rfl) rfl) (fp14 20 (by decide)) rfl (fun a => absurd a (by decide)) (fun _ _ => ⟨rfl, rfl⟩)
set_option maxRecDepth 100000 in
theorem pe14_57_0 (kn : List rM) {m : Nat} (h : (rE0.1 m).cls = "PackHouseModel$Reader") : rpo (rpar kn) rE0 m 57 (0, 14, 21, .ref 11) := po0 (C := "PackHouseModel$Reader") (T := FT14) (N := 47) (ty := fy14 21) h rfl (by decide) rfl (tw8 (List.mem_of_getElem? (i := 190) rfl) rfl) (fp14 21 (by decide)) rfl (fun a => absurd a (by decide)) (fun _ _ => ⟨rfl, rfl⟩)
set_option maxRecDepth 100000 in
theorem pe14_60_0 (kn : List rM) {m : Nat} (h : (rE0.1 m).cls = "PackHouseModel$Reader") : rpo (rpar kn) rE0 m 60 (0, 14, 22, .ref 11) := po0 (C := "PackHouseModel$Reader") (T := FT14) (N := 47) (ty := fy14 22) h rfl (by decide) rfl (tw8 (List.mem_of_getElem? (i := 191) rfl) rfl) (fp14 22 (by decide)) rfl (fun a => absurd a (by decide)) (fun _ _ => ⟨rfl, rfl⟩)
set_option maxRecDepth 100000 in
theorem pe14_63_0 (kn : List rM) {m : Nat} (h : (rE0.1 m).cls = "PackHouseModel$Reader") : rpo (rpar kn) rE0 m 63 (0, 14, 23, .ref 11) := po0 (C := "PackHouseModel$Reader") (T := FT14) (N := 47) (ty := fy14 23) h rfl (by decide) rfl (tw8 (List.mem_of_getElem? (i := 192) rfl) rfl) (fp14 23 (by decide)) rfl (fun a => absurd a (by decide)) (fun _ _ => ⟨rfl, rfl⟩)
set_option maxRecDepth 100000 in
theorem pe14_66_0 (kn : List rM) {m : Nat} (h : (rE0.1 m).cls = "PackHouseModel$Reader") : rpo (rpar kn) rE0 m 66 (0, 14, 24, .ref 11) := po0 (C := "PackHouseModel$Reader") (T := FT14) (N := 47) (ty := fy14 24) h rfl (by decide) rfl (tw8 (List.mem_of_getElem? (i := 193) rfl) rfl) (fp14 24 (by decide)) rfl (fun a => absurd a (by decide)) (fun _ _ => ⟨rfl, rfl⟩)
set_option maxRecDepth 100000 in
theorem pe14_69_0 (kn : List rM) {m : Nat} (h : (rE0.1 m).cls = "PackHouseModel$Reader") : rpo (rpar kn) rE0 m 69 (0, 14, 37, .ref 11) := po0 (C := "PackHouseModel$Reader") (T := FT14) (N := 47) (ty := fy14 37) h rfl (by decide) rfl (tw8 (List.mem_of_getElem? (i := 212) rfl) rfl) (fp14 37 (by decide)) rfl (fun a => absurd a (by decide)) (fun _ _ => ⟨rfl, rfl⟩)
set_option maxRecDepth 100000 in
theorem pe14_72_10 (kn : List rM) {m : Nat} (h : (rE0.1 m).cls = "PackHouseModel$Reader") : rpo (rpar kn) rE0 m 72 (10, 0, 0, .int (131072)) := po10 h (tw8 (List.mem_of_getElem? (i := 158) rfl) rfl)
set_option maxRecDepth 100000 in
theorem pe14_73_0 (kn : List rM) {m : Nat} (h : (rE0.1 m).cls = "PackHouseModel$Reader") : rpo (rpar kn) rE0 m 73 (0, 14, 38, .ref 11) := po0 (C := "PackHouseModel$Reader") (T := FT14) (N := 47) (ty := fy14 38) h rfl (by decide) rfl (tw8 (List.mem_of_getElem? (i := 213) rfl) rfl) (fp14 38 (by decide)) rfl (fun a => absurd a (by decide)) (fun _ _ => ⟨rfl, rfl⟩)
set_option maxRecDepth 100000 in
theorem pe14_76_0 (kn : List rM) {m : Nat} (h : (rE0.1 m).cls = "PackHouseModel$Reader") : rpo (rpar kn) rE0 m 76 (0, 14, 46, .ref 11) := po0 (C := "PackHouseModel$Reader") (T := FT14) (N := 47) (ty := fy14 46) h rfl (by decide) rfl (tw8 (List.mem_of_getElem? (i := 221) rfl) rfl) (fp14 46 (by decide)) rfl (fun a => absurd a (by decide)) (fun _ _ => ⟨rfl, rfl⟩)
set_option maxRecDepth 100000 in
theorem pe14_79_0 (kn : List rM) {m : Nat} (h : (rE0.1 m).cls = "PackHouseModel$Reader") : rpo (rpar kn) rE0 m 79 (0, 14, 0, .ref 11) := po0 (C := "PackHouseModel$Reader") (T := FT14) (N := 47) (ty := fy14 0) h rfl (by decide) rfl (tw8 (List.mem_of_getElem? (i := 159) rfl) rfl) (fp14 0 (by decide)) rfl (fun a => absurd a (by decide)) (fun _ _ => ⟨rfl, rfl⟩)
set_option maxRecDepth 100000 in
theorem pe14_83_1 (kn : List rM) {m : Nat} (h : (rE0.1 m).cls = "PackHouseModel$Reader") : rpo (rpar kn) rE0 m 83 (1, 13, 0, .ref 19) := po1 (C := "PackHouseModel$Desk") (T := FT13) (N := 5) (ty := fy13 0) h rfl (by decide) rfl (tn7 (List.mem_of_getElem? (i := 237) rfl) rfl) (fp13 0 (by decide)) rfl (fun a => absurd a (by decide)) (fun _ b => absurd b (by decide)) (by decide)
set_option maxRecDepth 100000 in
theorem pe14_119_0 (kn : List rM) {m : Nat} (h : (rE0.1 m).cls = "PackHouseModel$Reader") : rpo (rpar kn) rE0 m 119 (0, 14, 10, .ref 0) := po0 (C := "PackHouseModel$Reader") (T := FT14) (N := 47) (ty := fy14 10) h rfl (by decide) rfl (tw8 (List.mem_of_getElem? (i := 179) rfl) rfl) (fp14 10 (by decide)) rfl (fun _ => rfl) (fun a _ => absurd a (by decide))
set_option maxRecDepth 100000 in
theorem pe14_147_0 (kn : List rM) {m : Nat} (h : (rE0.1 m).cls = "PackHouseModel$Reader") : rpo (rpar kn) rE0 m 147 (0, 14, 2, .ref 0) := po0 (C := "PackHouseModel$Reader") (T := FT14) (N := 47) (ty := fy14 2) h rfl (by decide) rfl (tw8 (List.mem_of_getElem? (i := 163) rfl) rfl) (fp14 2 (by decide)) rfl (fun _ => rfl) (fun a _ => absurd a (by decide))
set_option maxRecDepth 100000 in
theorem pe14_150_0 (kn : List rM) {m : Nat} (h : (rE0.1 m).cls = "PackHouseModel$Reader") : rpo (rpar kn) rE0 m 150 (0, 14, 3, .ref 0) := po0 (C := "PackHouseModel$Reader") (T := FT14) (N := 47) (ty := fy14 3) h rfl (by decide) rfl (tw8 (List.mem_of_getElem? (i := 166) rfl) rfl) (fp14 3 (by decide)) rfl (fun _ => rfl) (fun a _ => absurd a (by decide))
set_option maxRecDepth 100000 in
theorem pe14_153_0 (kn : List rM) {m : Nat} (h : (rE0.1 m).cls = "PackHouseModel$Reader") : rpo (rpar kn) rE0 m 153 (0, 14, 4, .ref 1) := po0 (C := "PackHouseModel$Reader") (T := FT14) (N := 47) (ty := fy14 4) h rfl (by decide) rfl (tw8 (List.mem_of_getElem? (i := 169) rfl) rfl) (fp14 4 (by decide)) rfl (fun _ => rfl) (fun a _ => absurd a (by decide))
set_option maxRecDepth 100000 in
theorem pe14_157_1 (kn : List rM) {m : Nat} (h : (rE0.1 m).cls = "PackHouseModel$Reader") : rpo (rpar kn) rE0 m 157 (1, 13, 1, .ref 0) := po1 (C := "PackHouseModel$Desk") (T := FT13) (N := 5) (ty := fy13 1) h rfl (by decide) rfl (tn8 (List.mem_of_getElem? (i := 4) rfl) rfl) (fp13 1 (by decide)) rfl (fun _ => rfl) (fun a _ => absurd a (by decide)) (by decide)
set_option maxRecDepth 100000 in
theorem pe14_160_20 (kn : List rM) {m : Nat} (h : (rE0.1 m).cls = "PackHouseModel$Reader") : rpo (rpar kn) rE0 m 160 (20, 163, 5, .ref 14) := po20 h (pm163 kn) (tw10 (List.mem_of_getElem? (i := 220) rfl) rfl) (tw10 (List.mem_of_getElem? (i := 222) rfl) rfl) (pw7 (List.mem_of_getElem? (i := 6) rfl)) rfl rfl
set_option maxRecDepth 100000 in
theorem pe14_173_20 (kn : List rM) {m : Nat} (h : (rE0.1 m).cls = "PackHouseModel$Reader") : rpo (rpar kn) rE0 m 173 (20, 162, 2, .ref 14) := po20 h (pm162 kn) (tw11 (List.mem_of_getElem? (i := 35) rfl) rfl) (tw11 (List.mem_of_getElem? (i := 37) rfl) rfl) (pw8 (List.mem_of_getElem? (i := 2) rfl)) rfl rfl
set_option maxRecDepth 100000 in
theorem pe14_177_11 (kn : List rM) {m : Nat} (h : (rE0.1 m).cls = "PackHouseModel$Reader") : rpo (rpar kn) rE0 m 177 (11, 0, 0, .long (4)) := po11 h (tw13 (List.mem_of_getElem? (i := 181) rfl) rfl)
set_option maxRecDepth 100000 in
theorem pe14_182_11 (kn : List rM) {m : Nat} (h : (rE0.1 m).cls = "PackHouseModel$Reader") : rpo (rpar kn) rE0 m 182 (11, 0, 0, .long (-7046029288634856825)) := po11 h (tw14 (List.mem_of_getElem? (i := 15) rfl) rfl)
set_option maxRecDepth 100000 in
theorem pe14_184_11 (kn : List rM) {m : Nat} (h : (rE0.1 m).cls = "PackHouseModel$Reader") : rpo (rpar kn) rE0 m 184 (11, 0, 0, .long (-4417276706812531889)) := po11 h (tw14 (List.mem_of_getElem? (i := 16) rfl) rfl)
set_option maxRecDepth 100000 in
theorem pe14_186_11 (kn : List rM) {m : Nat} (h : (rE0.1 m).cls = "PackHouseModel$Reader") : rpo (rpar kn) rE0 m 186 (11, 0, 0, .long (1609587929392839161)) := po11 h (tw14 (List.mem_of_getElem? (i := 17) rfl) rfl)
set_option maxRecDepth 100000 in
theorem pe14_188_11 (kn : List rM) {m : Nat} (h : (rE0.1 m).cls = "PackHouseModel$Reader") : rpo (rpar kn) rE0 m 188 (11, 0, 0, .long (-8796714831421723037)) := po11 h (tw14 (List.mem_of_getElem? (i := 18) rfl) rfl)
set_option maxRecDepth 100000 in
theorem pe14_190_11 (kn : List rM) {m : Nat} (h : (rE0.1 m).cls = "PackHouseModel$Reader") : rpo (rpar kn) rE0 m 190 (11, 0, 0, .long (2870177450012600261)) := po11 h (tw14 (List.mem_of_getElem? (i := 19) rfl) rfl)
set_option maxRecDepth 100000 in
theorem pe14_199_0 (kn : List rM) {m : Nat} (h : (rE0.1 m).cls = "PackHouseModel$Reader") : rpo (rpar kn) rE0 m 199 (0, 14, 30, .ref 0) := po0 (C := "PackHouseModel$Reader") (T := FT14) (N := 47) (ty := fy14 30) h rfl (by decide) rfl (tw8 (List.mem_of_getElem? (i := 200) rfl) rfl) (fp14 30 (by decide)) rfl (fun _ => rfl) (fun a _ => absurd a (by decide))
set_option maxRecDepth 100000 in
theorem pe14_202_0 (kn : List rM) {m : Nat} (h : (rE0.1 m).cls = "PackHouseModel$Reader") : rpo (rpar kn) rE0 m 202 (0, 14, 31, .ref 0) := po0 (C := "PackHouseModel$Reader") (T := FT14) (N := 47) (ty := fy14 31) h rfl (by decide) rfl (tw8 (List.mem_of_getElem? (i := 201) rfl) rfl) (fp14 31 (by decide)) rfl (fun _ => rfl) (fun a _ => absurd a (by decide))
set_option maxRecDepth 100000 in
theorem pe14_205_0 (kn : List rM) {m : Nat} (h : (rE0.1 m).cls = "PackHouseModel$Reader") : rpo (rpar kn) rE0 m 205 (0, 14, 25, .ref 0) := po0 (C := "PackHouseModel$Reader") (T := FT14) (N := 47) (ty := fy14 25) h rfl (by decide) rfl (tw8 (List.mem_of_getElem? (i := 194) rfl) rfl) (fp14 25 (by decide)) rfl (fun _ => rfl) (fun a _ => absurd a (by decide))
set_option maxRecDepth 100000 in
theorem pe14_211_0 (kn : List rM) {m : Nat} (h : (rE0.1 m).cls = "PackHouseModel$Reader") : rpo (rpar kn) rE0 m 211 (0, 14, 26, .ref 0) := po0 (C := "PackHouseModel$Reader") (T := FT14) (N := 47) (ty := fy14 26) h rfl (by decide) rfl (tw8 (List.mem_of_getElem? (i := 195) rfl) rfl) (fp14 26 (by decide)) rfl (fun _ => rfl) (fun a _ => absurd a (by decide))
set_option maxRecDepth 100000 in
theorem pe14_214_0 (kn : List rM) {m : Nat} (h : (rE0.1 m).cls = "PackHouseModel$Reader") : rpo (rpar kn) rE0 m 214 (0, 14, 27, .ref 0) := po0 (C := "PackHouseModel$Reader") (T := FT14) (N := 47) (ty := fy14 27) h rfl (by decide) rfl (tw8 (List.mem_of_getElem? (i := 197) rfl) rfl) (fp14 27 (by decide)) rfl (fun _ => rfl) (fun a _ => absurd a (by decide))
set_option maxRecDepth 100000 in
theorem pe14_217_0 (kn : List rM) {m : Nat} (h : (rE0.1 m).cls = "PackHouseModel$Reader") : rpo (rpar kn) rE0 m 217 (0, 14, 32, .ref 0) := po0 (C := "PackHouseModel$Reader") (T := FT14) (N := 47) (ty := fy14 32) h rfl (by decide) rfl (tw8 (List.mem_of_getElem? (i := 204) rfl) rfl) (fp14 32 (by decide)) rfl (fun _ => rfl) (fun a _ => absurd a (by decide))
set_option maxRecDepth 100000 in
theorem pe14_220_0 (kn : List rM) {m : Nat} (h : (rE0.1 m).cls = "PackHouseModel$Reader") : rpo (rpar kn) rE0 m 220 (0, 14, 33, .ref 0) := po0 (C := "PackHouseModel$Reader") (T := FT14) (N := 47) (ty := fy14 33) h rfl (by decide) rfl (tw8 (List.mem_of_getElem? (i := 206) rfl) rfl) (fp14 33 (by decide)) rfl (fun _ => rfl) (fun a _ => absurd a (by decide))
set_option maxRecDepth 100000 in
theorem pe14_223_0 (kn : List rM) {m : Nat} (h : (rE0.1 m).cls = "PackHouseModel$Reader") : rpo (rpar kn) rE0 m 223 (0, 14, 34, .ref 0) := po0 (C := "PackHouseModel$Reader") (T := FT14) (N := 47) (ty := fy14 34) h rfl (by decide) rfl (tw8 (List.mem_of_getElem? (i := 208) rfl) rfl) (fp14 34 (by decide)) rfl (fun _ => rfl) (fun a _ => absurd a (by decide))
set_option maxRecDepth 100000 in
theorem pe14_226_0 (kn : List rM) {m : Nat} (h : (rE0.1 m).cls = "PackHouseModel$Reader") : rpo (rpar kn) rE0 m 226 (0, 14, 36, .ref 0) := po0 (C := "PackHouseModel$Reader") (T := FT14) (N := 47) (ty := fy14 36) h rfl (by decide) rfl (tw8 (List.mem_of_getElem? (i := 211) rfl) rfl) (fp14 36 (by decide)) rfl (fun _ => rfl) (fun a _ => absurd a (by decide))
set_option maxRecDepth 100000 in
theorem pe14_229_20 (kn : List rM) {m : Nat} (h : (rE0.1 m).cls = "PackHouseModel$Reader") : rpo (rpar kn) rE0 m 229 (20, 170, 0, .ref 14) := po20 h (pm170 kn) (tw13 (List.mem_of_getElem? (i := 153) rfl) rfl) (tw13 (List.mem_of_getElem? (i := 155) rfl) rfl) (pw15 (List.mem_of_getElem? (i := 1) rfl)) rfl rfl
set_option maxRecDepth 100000 in
theorem pe14_233_1 (kn : List rM) {m : Nat} (h : (rE0.1 m).cls = "PackHouseModel$Reader") : rpo (rpar kn) rE0 m 233 (1, 13, 3, .ref 0) := po1 (C := "PackHouseModel$Desk") (T := FT13) (N := 5) (ty := fy13 3) h rfl (by decide) rfl (tn8 (List.mem_of_getElem? (i := 17) rfl) rfl) (fp13 3 (by decide)) rfl (fun _ => rfl) (fun a _ => absurd a (by decide)) (by decide)
set_option maxRecDepth 100000 in
theorem pe14_236_1 (kn : List rM) {m : Nat} (h : (rE0.1 m).cls = "PackHouseModel$Reader") : rpo (rpar kn) rE0 m 236 (1, 13, 2, .ref 19) := po1 (C := "PackHouseModel$Desk") (T := FT13) (N := 5) (ty := fy13 2) h rfl (by decide) rfl (tn8 (List.mem_of_getElem? (i := 12) rfl) rfl) (fp13 2 (by decide)) rfl (fun a => absurd a (by decide)) (fun _ b => absurd b (by decide)) (by decide)
set_option maxRecDepth 100000 in
theorem pe14_239_20 (kn : List rM) {m : Nat} (h : (rE0.1 m).cls = "PackHouseModel$Reader") : rpo (rpar kn) rE0 m 239 (20, 168, 1, .ref 14) := po20 h (pm168 kn) (tw13 (List.mem_of_getElem? (i := 157) rfl) rfl) (tw13 (List.mem_of_getElem? (i := 159) rfl) rfl) (pw15 (List.mem_of_getElem? (i := 2) rfl)) rfl rfl
set_option maxRecDepth 100000 in
theorem pe14_242_20 (kn : List rM) {m : Nat} (h : (rE0.1 m).cls = "PackHouseModel$Reader") : rpo (rpar kn) rE0 m 242 (20, 171, 0, .ref 14) := po20 h (pm171 kn) (tw13 (List.mem_of_getElem? (i := 165) rfl) rfl) (tw13 (List.mem_of_getElem? (i := 167) rfl) rfl) (pw15 (List.mem_of_getElem? (i := 4) rfl)) rfl rfl
set_option maxRecDepth 100000 in
theorem pe14_245_0 (kn : List rM) {m : Nat} (h : (rE0.1 m).cls = "PackHouseModel$Reader") : rpo (rpar kn) rE0 m 245 (0, 14, 35, .ref 2) := po0 (C := "PackHouseModel$Reader") (T := FT14) (N := 47) (ty := fy14 35) h rfl (by decide) rfl (tw8 (List.mem_of_getElem? (i := 209) rfl) rfl) (fp14 35 (by decide)) rfl (fun _ => rfl) (fun a _ => absurd a (by decide))
set_option maxRecDepth 100000 in
theorem pe14_249_20 (kn : List rM) {m : Nat} (h : (rE0.1 m).cls = "PackHouseModel$Reader") : rpo (rpar kn) rE0 m 249 (20, 172, 0, .ref 14) := po20 h (pm172 kn) (tw13 (List.mem_of_getElem? (i := 169) rfl) rfl) (tw13 (List.mem_of_getElem? (i := 171) rfl) rfl) (pw15 (List.mem_of_getElem? (i := 5) rfl)) rfl rfl
set_option maxRecDepth 100000 in
theorem pe14_252_11 (kn : List rM) {m : Nat} (h : (rE0.1 m).cls = "PackHouseModel$Reader") : rpo (rpar kn) rE0 m 252 (11, 0, 0, .long (256)) := po11 h (tw13 (List.mem_of_getElem? (i := 175) rfl) rfl)
set_option maxRecDepth 100000 in
theorem pe14_254_11 (kn : List rM) {m : Nat} (h : (rE0.1 m).cls = "PackHouseModel$Reader") : rpo (rpar kn) rE0 m 254 (11, 0, 0, .long (131072)) := po11 h (tw13 (List.mem_of_getElem? (i := 176) rfl) rfl)
set_option maxRecDepth 100000 in
theorem pe14_256_0 (kn : List rM) {m : Nat} (h : (rE0.1 m).cls = "PackHouseModel$Reader") : rpo (rpar kn) rE0 m 256 (0, 14, 29, .ref 0) := po0 (C := "PackHouseModel$Reader") (T := FT14) (N := 47) (ty := fy14 29) h rfl (by decide) rfl (tw8 (List.mem_of_getElem? (i := 199) rfl) rfl) (fp14 29 (by decide)) rfl (fun _ => rfl) (fun a _ => absurd a (by decide))
set_option maxRecDepth 100000 in
theorem pe14_259_20 (kn : List rM) {m : Nat} (h : (rE0.1 m).cls = "PackHouseModel$Reader") : rpo (rpar kn) rE0 m 259 (20, 166, 0, .ref 14) := po20 h (pm166 kn) (tw13 (List.mem_of_getElem? (i := 177) rfl) rfl) (tw13 (List.mem_of_getElem? (i := 179) rfl) rfl) (pw15 (List.mem_of_getElem? (i := 6) rfl)) rfl rfl
set_option maxRecDepth 100000 in
theorem pe14_262_0 (kn : List rM) {m : Nat} (h : (rE0.1 m).cls = "PackHouseModel$Reader") : rpo (rpar kn) rE0 m 262 (0, 14, 28, .ref 0) := po0 (C := "PackHouseModel$Reader") (T := FT14) (N := 47) (ty := fy14 28) h rfl (by decide) rfl (tw8 (List.mem_of_getElem? (i := 198) rfl) rfl) (fp14 28 (by decide)) rfl (fun _ => rfl) (fun a _ => absurd a (by decide))
set_option maxRecDepth 100000 in
theorem pe14_265_20 (kn : List rM) {m : Nat} (h : (rE0.1 m).cls = "PackHouseModel$Reader") : rpo (rpar kn) rE0 m 265 (20, 173, 0, .ref 14) := po20 h (pm173 kn) (tw13 (List.mem_of_getElem? (i := 182) rfl) rfl) (tw13 (List.mem_of_getElem? (i := 184) rfl) rfl) (pw15 (List.mem_of_getElem? (i := 7) rfl)) rfl rfl
set_option maxRecDepth 100000 in
theorem pe14_268_20 (kn : List rM) {m : Nat} (h : (rE0.1 m).cls = "PackHouseModel$Reader") : rpo (rpar kn) rE0 m 268 (20, 167, 2, .ref 14) := po20 h (pm167 kn) (tw14 (List.mem_of_getElem? (i := 11) rfl) rfl) (tw14 (List.mem_of_getElem? (i := 13) rfl) rfl) (pw16 (List.mem_of_getElem? (i := 5) rfl)) rfl rfl
set_option maxRecDepth 100000 in
theorem pe14_271_11 (kn : List rM) {m : Nat} (h : (rE0.1 m).cls = "PackHouseModel$Reader") : rpo (rpar kn) rE0 m 271 (11, 0, 0, .long (2147483647)) := po11 h (tw13 (List.mem_of_getElem? (i := 173) rfl) rfl)
set_option maxRecDepth 100000 in
theorem pe14_273_10 (kn : List rM) {m : Nat} (h : (rE0.1 m).cls = "PackHouseModel$Reader") : rpo (rpar kn) rE0 m 273 (10, 0, 0, .int (2147483647)) := po10 h (tw13 (List.mem_of_getElem? (i := 174) rfl) rfl)
set_option maxRecDepth 100000 in
theorem pl14 (kn : List rM) {m : Nat} (h : (rE0.1 m).cls = "PackHouseModel$Reader") : ∀ q ∈ pool_14, rpo (rpar kn) rE0 m q.1 q.2 := List.forall_mem_cons.mpr ⟨pe14_1_26 kn h, List.forall_mem_cons.mpr ⟨pe14_7_10 kn h, List.forall_mem_cons.mpr ⟨pe14_8_0 kn h, List.forall_mem_cons.mpr ⟨pe14_14_0 kn h, List.forall_mem_cons.mpr ⟨pe14_17_0 kn h, List.forall_mem_cons.mpr ⟨pe14_20_0 kn h, List.forall_mem_cons.mpr ⟨pe14_23_0 kn h, List.forall_mem_cons.mpr ⟨pe14_27_0 kn h, List.forall_mem_cons.mpr ⟨pe14_30_0 kn h, List.forall_mem_cons.mpr ⟨pe14_33_0 kn h, List.forall_mem_cons.mpr ⟨pe14_36_0 kn h, List.forall_mem_cons.mpr ⟨pe14_39_0 kn h, List.forall_mem_cons.mpr ⟨pe14_42_0 kn h, List.forall_mem_cons.mpr ⟨pe14_45_0 kn h, List.forall_mem_cons.mpr ⟨pe14_48_0 kn h, List.forall_mem_cons.mpr ⟨pe14_51_0 kn h, List.forall_mem_cons.mpr ⟨pe14_54_0 kn h, List.forall_mem_cons.mpr ⟨pe14_57_0 kn h, List.forall_mem_cons.mpr ⟨pe14_60_0 kn h, List.forall_mem_cons.mpr ⟨pe14_63_0 kn h, List.forall_mem_cons.mpr ⟨pe14_66_0 kn h, List.forall_mem_cons.mpr ⟨pe14_69_0 kn h, List.forall_mem_cons.mpr ⟨pe14_72_10 kn h, List.forall_mem_cons.mpr ⟨pe14_73_0 kn h, List.forall_mem_cons.mpr ⟨pe14_76_0 kn h, List.forall_mem_cons.mpr ⟨pe14_79_0 kn h, List.forall_mem_cons.mpr ⟨pe14_83_1 kn h, List.forall_mem_cons.mpr ⟨pe14_119_0 kn h, List.forall_mem_cons.mpr ⟨pe14_147_0 kn h, List.forall_mem_cons.mpr ⟨pe14_150_0 kn h, List.forall_mem_cons.mpr ⟨pe14_153_0 kn h, List.forall_mem_cons.mpr ⟨pe14_157_1 kn h, List.forall_mem_cons.mpr ⟨pe14_160_20 kn h, List.forall_mem_cons.mpr ⟨pe14_173_20 kn h, List.forall_mem_cons.mpr ⟨pe14_177_11 kn h, List.forall_mem_cons.mpr ⟨pe14_182_11 kn h, List.forall_mem_cons.mpr ⟨pe14_184_11 kn h, List.forall_mem_cons.mpr ⟨pe14_186_11 kn h, List.forall_mem_cons.mpr ⟨pe14_188_11 kn h, List.forall_mem_cons.mpr ⟨pe14_190_11 kn h, List.forall_mem_cons.mpr ⟨pe14_199_0 kn h, List.forall_mem_cons.mpr ⟨pe14_202_0 kn h, List.forall_mem_cons.mpr ⟨pe14_205_0 kn h, List.forall_mem_cons.mpr ⟨pe14_211_0 kn h, List.forall_mem_cons.mpr ⟨pe14_214_0 kn h, List.forall_mem_cons.mpr ⟨pe14_217_0 kn h, List.forall_mem_cons.mpr ⟨pe14_220_0 kn h, List.forall_mem_cons.mpr ⟨pe14_223_0 kn h, List.forall_mem_cons.mpr ⟨pe14_226_0 kn h, List.forall_mem_cons.mpr ⟨pe14_229_20 kn h, List.forall_mem_cons.mpr ⟨pe14_233_1 kn h, List.forall_mem_cons.mpr ⟨pe14_236_1 kn h, List.forall_mem_cons.mpr ⟨pe14_239_20 kn h, List.forall_mem_cons.mpr ⟨pe14_242_20 kn h, List.forall_mem_cons.mpr ⟨pe14_245_0 kn h, List.forall_mem_cons.mpr ⟨pe14_249_20 kn h, List.forall_mem_cons.mpr ⟨pe14_252_11 kn h, List.forall_mem_cons.mpr ⟨pe14_254_11 kn h, List.forall_mem_cons.mpr ⟨pe14_256_0 kn h, List.forall_mem_cons.mpr ⟨pe14_259_20 kn h, List.forall_mem_cons.mpr ⟨pe14_262_0 kn h, List.forall_mem_cons.mpr ⟨pe14_265_20 kn h, List.forall_mem_cons.mpr ⟨pe14_268_20 kn h, List.forall_mem_cons.mpr ⟨pe14_271_11 kn h, List.forall_mem_cons.mpr ⟨pe14_273_10 kn h, (fun _ h => absurd h List.not_mem_nil)⟩⟩⟩⟩⟩⟩⟩⟩⟩⟩⟩⟩⟩⟩⟩⟩⟩⟩⟩⟩⟩⟩⟩⟩⟩⟩⟩⟩⟩⟩⟩⟩⟩⟩⟩⟩⟩⟩⟩⟩⟩⟩⟩⟩⟩⟩⟩⟩⟩⟩⟩⟩⟩⟩⟩⟩⟩⟩⟩⟩⟩⟩⟩⟩⟩
set_option maxRecDepth 100000 in
theorem pe15_1_26 (kn : List rM) {m : Nat} (h : (rE0.1 m).cls = "PackHouseModel$Sums") : rpo (rpar kn) rE0 m 1 (26, 0, 0, .null) := po26 h (tw8 (List.mem_of_getElem? (i := 37) rfl) rfl)
set_option maxRecDepth 100000 in
theorem pe15_7_0 (kn : List rM) {m : Nat} (h : (rE0.1 m).cls = "PackHouseModel$Sums") : rpo (rpar kn) rE0 m 7 (0, 15, 0, .ref 11) := po0 (C := "PackHouseModel$Sums") (T := FT15) (N := 2) (ty := fy15 0) h rfl (by decide) rfl (tw8 (List.mem_of_getElem? (i := 38) rfl) rfl) (fp15 0 (by decide)) rfl (fun a => absurd a (by decide)) (fun _ _ => ⟨rfl, rfl⟩)
set_option maxRecDepth 100000 in
theorem pe15_13_0 (kn : List rM) {m : Nat} (h : (rE0.1 m).cls = "PackHouseModel$Sums") : rpo (rpar kn) rE0 m 13 (0, 15, 1, .ref 0) := po0 (C := "PackHouseModel$Sums") (T := FT15) (N := 2) (ty := fy15 1) h rfl (by decide) rfl (tw8 (List.mem_of_getElem? (i := 39) rfl) rfl) (fp15 1 (by decide)) rfl (fun _ => rfl) (fun a _ => absurd a (by decide))
set_option maxRecDepth 100000 in
theorem pe15_25_10 (kn : List rM) {m : Nat} (h : (rE0.1 m).cls = "PackHouseModel$Sums") : rpo (rpar kn) rE0 m 25 (10, 0, 0, .int (-2048144777)) := po10 h (tw10 (List.mem_of_getElem? (i := 135) rfl) rfl)
set_option maxRecDepth 100000 in
theorem pe15_30_10 (kn : List rM) {m : Nat} (h : (rE0.1 m).cls = "PackHouseModel$Sums") : rpo (rpar kn) rE0 m 30 (10, 0, 0, .int (-1640531535)) := po10 h (tw10 (List.mem_of_getElem? (i := 134) rfl) rfl)
set_option maxRecDepth 100000 in
theorem pe15_31_10 (kn : List rM) {m : Nat} (h : (rE0.1 m).cls = "PackHouseModel$Sums") : rpo (rpar kn) rE0 m 31 (10, 0, 0, .int (374761393)) := po10 h (tw10 (List.mem_of_getElem? (i := 133) rfl) rfl)
set_option maxRecDepth 100000 in
theorem pe15_36_10 (kn : List rM) {m : Nat} (h : (rE0.1 m).cls = "PackHouseModel$Sums") : rpo (rpar kn) rE0 m 36 (10, 0, 0, .int (-1028477379)) := po10 h (tw10 (List.mem_of_getElem? (i := 151) rfl) rfl)
set_option maxRecDepth 100000 in
theorem pe15_37_10 (kn : List rM) {m : Nat} (h : (rE0.1 m).cls = "PackHouseModel$Sums") : rpo (rpar kn) rE0 m 37 (10, 0, 0, .int (668265263)) := po10 h (tw10 (List.mem_of_getElem? (i := 152) rfl) rfl)
set_option maxRecDepth 100000 in
theorem pe15_38_11 (kn : List rM) {m : Nat} (h : (rE0.1 m).cls = "PackHouseModel$Sums") : rpo (rpar kn) rE0 m 38 (11, 0, 0, .long (-4417276706812531889)) := po11 h (tw10 (List.mem_of_getElem? (i := 166) rfl) rfl)
set_option maxRecDepth 100000 in
theorem pe15_44_11 (kn : List rM) {m : Nat} (h : (rE0.1 m).cls = "PackHouseModel$Sums") : rpo (rpar kn) rE0 m 44 (11, 0, 0, .long (-7046029288634856825)) := po11 h (tw10 (List.mem_of_getElem? (i := 165) rfl) rfl)
set_option maxRecDepth 100000 in
theorem pe15_46_11 (kn : List rM) {m : Nat} (h : (rE0.1 m).cls = "PackHouseModel$Sums") : rpo (rpar kn) rE0 m 46 (11, 0, 0, .long (-8796714831421723037)) := po11 h (tw10 (List.mem_of_getElem? (i := 177) rfl) rfl)
set_option maxRecDepth 100000 in
theorem pe15_60_11 (kn : List rM) {m : Nat} (h : (rE0.1 m).cls = "PackHouseModel$Sums") : rpo (rpar kn) rE0 m 60 (11, 0, 0, .long (2870177450012600261)) := po11 h (tw10 (List.mem_of_getElem? (i := 178) rfl) rfl)
set_option maxRecDepth 100000 in
theorem pe15_62_11 (kn : List rM) {m : Nat} (h : (rE0.1 m).cls = "PackHouseModel$Sums") : rpo (rpar kn) rE0 m 62 (11, 0, 0, .long (1609587929392839161)) := po11 h (tw10 (List.mem_of_getElem? (i := 179) rfl) rfl)
set_option maxRecDepth 100000 in
theorem pe15_71_20 (kn : List rM) {m : Nat} (h : (rE0.1 m).cls = "PackHouseModel$Sums") : rpo (rpar kn) rE0 m 71 (20, 178, 2, .ref 15) := po20 h (pm178 kn) (tw10 (List.mem_of_getElem? (i := 188) rfl) rfl) (tw10 (List.mem_of_getElem? (i := 190) rfl) rfl) (pw7 (List.mem_of_getElem? (i := 4) rfl)) rfl rfl
set_option maxRecDepth 100000 in
theorem pl15 (kn : List rM) {m : Nat} (h : (rE0.1 m).cls = "PackHouseModel$Sums") : ∀ q ∈ pool_15, rpo (rpar kn) rE0 m q.1 q.2 := List.forall_mem_cons.mpr ⟨pe15_1_26 kn h, List.forall_mem_cons.mpr ⟨pe15_7_0 kn h, List.forall_mem_cons.mpr ⟨pe15_13_0 kn h, List.forall_mem_cons.mpr ⟨pe15_25_10 kn h, List.forall_mem_cons.mpr ⟨pe15_30_10 kn h, List.forall_mem_cons.mpr ⟨pe15_31_10 kn h, List.forall_mem_cons.mpr ⟨pe15_36_10 kn h, List.forall_mem_cons.mpr ⟨pe15_37_10 kn h, List.forall_mem_cons.mpr ⟨pe15_38_11 kn h, List.forall_mem_cons.mpr ⟨pe15_44_11 kn h, List.forall_mem_cons.mpr ⟨pe15_46_11 kn h, List.forall_mem_cons.mpr ⟨pe15_60_11 kn h, List.forall_mem_cons.mpr ⟨pe15_62_11 kn h, List.forall_mem_cons.mpr ⟨pe15_71_20 kn h, (fun _ h => absurd h List.not_mem_nil)⟩⟩⟩⟩⟩⟩⟩⟩⟩⟩⟩⟩⟩⟩
set_option maxRecDepth 100000 in
theorem pe16_1_26 (kn : List rM) {m : Nat} (h : (rE0.1 m).cls = "PackHouseModel$Tags") : rpo (rpar kn) rE0 m 1 (26, 0, 0, .null) := po26 h (tw8 (List.mem_of_getElem? (i := 112) rfl) rfl)
set_option maxRecDepth 100000 in
theorem pe16_7_10 (kn : List rM) {m : Nat} (h : (rE0.1 m).cls = "PackHouseModel$Tags") : rpo (rpar kn) rE0 m 7 (10, 0, 0, .int (70000)) := po10 h (tw8 (List.mem_of_getElem? (i := 113) rfl) rfl)
set_option maxRecDepth 100000 in
theorem pe16_8_0 (kn : List rM) {m : Nat} (h : (rE0.1 m).cls = "PackHouseModel$Tags") : rpo (rpar kn) rE0 m 8 (0, 16, 1, .ref 11) := po0 (C := "PackHouseModel$Tags") (T := FT16) (N := 12) (ty := fy16 1) h rfl (by decide) rfl (tw8 (List.mem_of_getElem? (i := 115) rfl) rfl) (fp16 1 (by decide)) rfl (fun a => absurd a (by decide)) (fun _ _ => ⟨rfl, rfl⟩)
set_option maxRecDepth 100000 in
theorem pe16_14_0 (kn : List rM) {m : Nat} (h : (rE0.1 m).cls = "PackHouseModel$Tags") : rpo (rpar kn) rE0 m 14 (0, 16, 3, .ref 11) := po0 (C := "PackHouseModel$Tags") (T := FT16) (N := 12) (ty := fy16 3) h rfl (by decide) rfl (tw8 (List.mem_of_getElem? (i := 117) rfl) rfl) (fp16 3 (by decide)) rfl (fun a => absurd a (by decide)) (fun _ _ => ⟨rfl, rfl⟩)
set_option maxRecDepth 100000 in
theorem pe16_17_0 (kn : List rM) {m : Nat} (h : (rE0.1 m).cls = "PackHouseModel$Tags") : rpo (rpar kn) rE0 m 17 (0, 16, 4, .ref 11) := po0 (C := "PackHouseModel$Tags") (T := FT16) (N := 12) (ty := fy16 4) h rfl (by decide) rfl (tw8 (List.mem_of_getElem? (i := 118) rfl) rfl) (fp16 4 (by decide)) rfl (fun a => absurd a (by decide)) (fun _ _ => ⟨rfl, rfl⟩)
set_option maxRecDepth 100000 in
theorem pe16_20_0 (kn : List rM) {m : Nat} (h : (rE0.1 m).cls = "PackHouseModel$Tags") : rpo (rpar kn) rE0 m 20 (0, 16, 0, .ref 11) := po0 (C := "PackHouseModel$Tags") (T := FT16) (N := 12) (ty := fy16 0) h rfl (by decide) rfl (tw8 (List.mem_of_getElem? (i := 114) rfl) rfl) (fp16 0 (by decide)) rfl (fun a => absurd a (by decide)) (fun _ _ => ⟨rfl, rfl⟩)
set_option maxRecDepth 100000 in
theorem pe16_24_0 (kn : List rM) {m : Nat} (h : (rE0.1 m).cls = "PackHouseModel$Tags") : rpo (rpar kn) rE0 m 24 (0, 16, 2, .ref 0) := po0 (C := "PackHouseModel$Tags") (T := FT16) (N := 12) (ty := fy16 2) h rfl (by decide) rfl (tw8 (List.mem_of_getElem? (i := 116) rfl) rfl) (fp16 2 (by decide)) rfl (fun _ => rfl) (fun a _ => absurd a (by decide))
set_option maxRecDepth 100000 in
theorem pe16_28_20 (kn : List rM) {m : Nat} (h : (rE0.1 m).cls = "PackHouseModel$Tags") : rpo (rpar kn) rE0 m 28 (20, 181, 1, .ref 16) := po20 h (pm181 kn) (tw11 (List.mem_of_getElem? (i := 166) rfl) rfl) (tw11 (List.mem_of_getElem? (i := 168) rfl) rfl) (pw9 (List.mem_of_getElem? (i := 3) rfl)) rfl rfl
set_option maxRecDepth 100000 in
theorem pe16_32_1 (kn : List rM) {m : Nat} (h : (rE0.1 m).cls = "PackHouseModel$Tags") : rpo (rpar kn) rE0 m 32 (1, 13, 2, .ref 19) := po1 (C := "PackHouseModel$Desk") (T := FT13) (N := 5) (ty := fy13 2) h rfl (by decide) rfl (tn8 (List.mem_of_getElem? (i := 8) rfl) rfl) (fp13 2 (by decide)) rfl (fun a => absurd a (by decide)) (fun _ b => absurd b (by decide)) (by decide)
set_option maxRecDepth 100000 in
theorem pe16_37_1 (kn : List rM) {m : Nat} (h : (rE0.1 m).cls = "PackHouseModel$Tags") : rpo (rpar kn) rE0 m 37 (1, 13, 3, .ref 0) := po1 (C := "PackHouseModel$Desk") (T := FT13) (N := 5) (ty := fy13 3) h rfl (by decide) rfl (tn8 (List.mem_of_getElem? (i := 13) rfl) rfl) (fp13 3 (by decide)) rfl (fun _ => rfl) (fun a _ => absurd a (by decide)) (by decide)
set_option maxRecDepth 100000 in
theorem pe16_40_1 (kn : List rM) {m : Nat} (h : (rE0.1 m).cls = "PackHouseModel$Tags") : rpo (rpar kn) rE0 m 40 (1, 13, 0, .ref 19) := po1 (C := "PackHouseModel$Desk") (T := FT13) (N := 5) (ty := fy13 0) h rfl (by decide) rfl (tn7 (List.mem_of_getElem? (i := 239) rfl) rfl) (fp13 0 (by decide)) rfl (fun a => absurd a (by decide)) (fun _ b => absurd b (by decide)) (by decide)
set_option maxRecDepth 100000 in
theorem pe16_43_0 (kn : List rM) {m : Nat} (h : (rE0.1 m).cls = "PackHouseModel$Tags") : rpo (rpar kn) rE0 m 43 (0, 16, 7, .ref 0) := po0 (C := "PackHouseModel$Tags") (T := FT16) (N := 12) (ty := fy16 7) h rfl (by decide) rfl (tw8 (List.mem_of_getElem? (i := 121) rfl) rfl) (fp16 7 (by decide)) rfl (fun _ => rfl) (fun a _ => absurd a (by decide))
set_option maxRecDepth 100000 in
theorem pe16_50_0 (kn : List rM) {m : Nat} (h : (rE0.1 m).cls = "PackHouseModel$Tags") : rpo (rpar kn) rE0 m 50 (0, 16, 6, .ref 0) := po0 (C := "PackHouseModel$Tags") (T := FT16) (N := 12) (ty := fy16 6) h rfl (by decide) rfl (tw8 (List.mem_of_getElem? (i := 120) rfl) rfl) (fp16 6 (by decide)) rfl (fun _ => rfl) (fun a _ => absurd a (by decide))
set_option maxRecDepth 100000 in
theorem pe16_79_20 (kn : List rM) {m : Nat} (h : (rE0.1 m).cls = "PackHouseModel$Tags") : rpo (rpar kn) rE0 m 79 (20, 182, 2, .ref 16) := po20 h (pm182 kn) (tw11 (List.mem_of_getElem? (i := 191) rfl) rfl) (tw11 (List.mem_of_getElem? (i := 193) rfl) rfl) (pw9 (List.mem_of_getElem? (i := 9) rfl)) rfl rfl
set_option maxRecDepth 100000 in
theorem pe16_83_10 (kn : List rM) {m : Nat} (h : (rE0.1 m).cls = "PackHouseModel$Tags") : rpo (rpar kn) rE0 m 83 (10, 0, 0, .int (65536)) := po10 h (tw11 (List.mem_of_getElem? (i := 190) rfl) rfl)
set_option maxRecDepth 100000 in
theorem pe16_87_20 (kn : List rM) {m : Nat} (h : (rE0.1 m).cls = "PackHouseModel$Tags") : rpo (rpar kn) rE0 m 87 (20, 184, 2, .ref 16) := po20 h (pm184 kn) (tw11 (List.mem_of_getElem? (i := 186) rfl) rfl) (tw11 (List.mem_of_getElem? (i := 188) rfl) rfl) (pw9 (List.mem_of_getElem? (i := 8) rfl)) rfl rfl
set_option maxRecDepth 100000 in
theorem pe16_93_1 (kn : List rM) {m : Nat} (h : (rE0.1 m).cls = "PackHouseModel$Tags") : rpo (rpar kn) rE0 m 93 (1, 13, 1, .ref 0) := po1 (C := "PackHouseModel$Desk") (T := FT13) (N := 5) (ty := fy13 1) h rfl (by decide) rfl (tn8 (List.mem_of_getElem? (i := 3) rfl) rfl) (fp13 1 (by decide)) rfl (fun _ => rfl) (fun a _ => absurd a (by decide)) (by decide)
set_option maxRecDepth 100000 in
theorem pe16_96_20 (kn : List rM) {m : Nat} (h : (rE0.1 m).cls = "PackHouseModel$Tags") : rpo (rpar kn) rE0 m 96 (20, 185, 3, .ref 16) := po20 h (pm185 kn) (tw11 (List.mem_of_getElem? (i := 162) rfl) rfl) (tw11 (List.mem_of_getElem? (i := 164) rfl) rfl) (pw9 (List.mem_of_getElem? (i := 2) rfl)) rfl rfl
set_option maxRecDepth 100000 in
theorem pe16_99_20 (kn : List rM) {m : Nat} (h : (rE0.1 m).cls = "PackHouseModel$Tags") : rpo (rpar kn) rE0 m 99 (20, 183, 0, .ref 16) := po20 h (pm183 kn) (tw11 (List.mem_of_getElem? (i := 215) rfl) rfl) (tw11 (List.mem_of_getElem? (i := 217) rfl) rfl) (pw9 (List.mem_of_getElem? (i := 14) rfl)) rfl rfl
set_option maxRecDepth 100000 in
theorem pe16_103_0 (kn : List rM) {m : Nat} (h : (rE0.1 m).cls = "PackHouseModel$Tags") : rpo (rpar kn) rE0 m 103 (0, 16, 10, .ref 0) := po0 (C := "PackHouseModel$Tags") (T := FT16) (N := 12) (ty := fy16 10) h rfl (by decide) rfl (tw8 (List.mem_of_getElem? (i := 124) rfl) rfl) (fp16 10 (by decide)) rfl (fun _ => rfl) (fun a _ => absurd a (by decide))
set_option maxRecDepth 100000 in
theorem pe16_106_0 (kn : List rM) {m : Nat} (h : (rE0.1 m).cls = "PackHouseModel$Tags") : rpo (rpar kn) rE0 m 106 (0, 16, 11, .ref 0) := po0 (C := "PackHouseModel$Tags") (T := FT16) (N := 12) (ty := fy16 11) h rfl (by decide) rfl (tw8 (List.mem_of_getElem? (i := 125) rfl) rfl) (fp16 11 (by decide)) rfl (fun _ => rfl) (fun a _ => absurd a (by decide))
set_option maxRecDepth 100000 in
theorem pe16_109_11 (kn : List rM) {m : Nat} (h : (rE0.1 m).cls = "PackHouseModel$Tags") : rpo (rpar kn) rE0 m 109 (11, 0, 0, .long (-1)) := po11 h (tw13 (List.mem_of_getElem? (i := 106) rfl) rfl)
set_option maxRecDepth 100000 in
theorem pe16_111_0 (kn : List rM) {m : Nat} (h : (rE0.1 m).cls = "PackHouseModel$Tags") : rpo (rpar kn) rE0 m 111 (0, 16, 8, .ref 0) := po0 (C := "PackHouseModel$Tags") (T := FT16) (N := 12) (ty := fy16 8) h rfl (by decide) rfl (tw8 (List.mem_of_getElem? (i := 122) rfl) rfl) (fp16 8 (by decide)) rfl (fun _ => rfl) (fun a _ => absurd a (by decide))
set_option maxRecDepth 100000 in
theorem pe16_114_0 (kn : List rM) {m : Nat} (h : (rE0.1 m).cls = "PackHouseModel$Tags") : rpo (rpar kn) rE0 m 114 (0, 16, 9, .ref 0) := po0 (C := "PackHouseModel$Tags") (T := FT16) (N := 12) (ty := fy16 9) h rfl (by decide) rfl (tw8 (List.mem_of_getElem? (i := 123) rfl) rfl) (fp16 9 (by decide)) rfl (fun _ => rfl) (fun a _ => absurd a (by decide))
set_option maxRecDepth 100000 in
theorem pe16_117_20 (kn : List rM) {m : Nat} (h : (rE0.1 m).cls = "PackHouseModel$Tags") : rpo (rpar kn) rE0 m 117 (20, 187, 2, .ref 16) := po20 h (pm187 kn) (tw13 (List.mem_of_getElem? (i := 107) rfl) rfl) (tw13 (List.mem_of_getElem? (i := 109) rfl) rfl) (pw14 (List.mem_of_getElem? (i := 9) rfl)) rfl rfl
set_option maxRecDepth 100000 in
theorem pe16_121_11 (kn : List rM) {m : Nat} (h : (rE0.1 m).cls = "PackHouseModel$Tags") : rpo (rpar kn) rE0 m 121 (11, 0, 0, .long (255)) := po11 h (tw13 (List.mem_of_getElem? (i := 111) rfl) rfl)
set_option maxRecDepth 100000 in
theorem pe16_123_20 (kn : List rM) {m : Nat} (h : (rE0.1 m).cls = "PackHouseModel$Tags") : rpo (rpar kn) rE0 m 123 (20, 188, 1, .ref 16) := po20 h (pm188 kn) (tw13 (List.mem_of_getElem? (i := 102) rfl) rfl) (tw13 (List.mem_of_getElem? (i := 104) rfl) rfl) (pw14 (List.mem_of_getElem? (i := 8) rfl)) rfl rfl
set_option maxRecDepth 100000 in
theorem pe16_127_11 (kn : List rM) {m : Nat} (h : (rE0.1 m).cls = "PackHouseModel$Tags") : rpo (rpar kn) rE0 m 127 (11, 0, 0, .long (15)) := po11 h (tw13 (List.mem_of_getElem? (i := 112) rfl) rfl)
set_option maxRecDepth 100000 in
theorem pe16_129_11 (kn : List rM) {m : Nat} (h : (rE0.1 m).cls = "PackHouseModel$Tags") : rpo (rpar kn) rE0 m 129 (11, 0, 0, .long (127)) := po11 h (tw13 (List.mem_of_getElem? (i := 113) rfl) rfl)
set_option maxRecDepth 100000 in
theorem pe16_131_11 (kn : List rM) {m : Nat} (h : (rE0.1 m).cls = "PackHouseModel$Tags") : rpo (rpar kn) rE0 m 131 (11, 0, 0, .long (128)) := po11 h (tw13 (List.mem_of_getElem? (i := 114) rfl) rfl)
set_option maxRecDepth 100000 in
theorem pe16_139_20 (kn : List rM) {m : Nat} (h : (rE0.1 m).cls = "PackHouseModel$Tags") : rpo (rpar kn) rE0 m 139 (20, 189, 1, .ref 16) := po20 h (pm189 kn) (tw13 (List.mem_of_getElem? (i := 98) rfl) rfl) (tw13 (List.mem_of_getElem? (i := 100) rfl) rfl) (pw14 (List.mem_of_getElem? (i := 7) rfl)) rfl rfl
set_option maxRecDepth 100000 in
theorem pe16_150_1 (kn : List rM) {m : Nat} (h : (rE0.1 m).cls = "PackHouseModel$Tags") : rpo (rpar kn) rE0 m 150 (1, 13, 4, .ref 0) := po1 (C := "PackHouseModel$Desk") (T := FT13) (N := 5) (ty := fy13 4) h rfl (by decide) rfl (tn8 (List.mem_of_getElem? (i := 19) rfl) rfl) (fp13 4 (by decide)) rfl (fun _ => rfl) (fun a _ => absurd a (by decide)) (by decide)
set_option maxRecDepth 100000 in
theorem pe16_153_20 (kn : List rM) {m : Nat} (h : (rE0.1 m).cls = "PackHouseModel$Tags") : rpo (rpar kn) rE0 m 153 (20, 191, 0, .ref 16) := po20 h (pm191 kn) (tw13 (List.mem_of_getElem? (i := 90) rfl) rfl) (tw13 (List.mem_of_getElem? (i := 92) rfl) rfl) (pw14 (List.mem_of_getElem? (i := 5) rfl)) rfl rfl
set_option maxRecDepth 100000 in
theorem pe16_156_20 (kn : List rM) {m : Nat} (h : (rE0.1 m).cls = "PackHouseModel$Tags") : rpo (rpar kn) rE0 m 156 (20, 190, 1, .ref 16) := po20 h (pm190 kn) (tw13 (List.mem_of_getElem? (i := 94) rfl) rfl) (tw13 (List.mem_of_getElem? (i := 96) rfl) rfl) (pw14 (List.mem_of_getElem? (i := 6) rfl)) rfl rfl
set_option maxRecDepth 100000 in
theorem pe16_159_20 (kn : List rM) {m : Nat} (h : (rE0.1 m).cls = "PackHouseModel$Tags") : rpo (rpar kn) rE0 m 159 (20, 192, 0, .ref 16) := po20 h (pm192 kn) (tw13 (List.mem_of_getElem? (i := 128) rfl) rfl) (tw13 (List.mem_of_getElem? (i := 130) rfl) rfl) (pw14 (List.mem_of_getElem? (i := 13) rfl)) rfl rfl
set_option maxRecDepth 100000 in
theorem pe16_168_24 (kn : List rM) {m : Nat} (h : (rE0.1 m).cls = "PackHouseModel$Tags") : rpo (rpar kn) rE0 m 168 (24, 194, 1, .null) := po24 h (pm194 kn) (tw11 (List.mem_of_getElem? (i := 223) rfl) rfl) (tw11 (List.mem_of_getElem? (i := 224) rfl) rfl)
set_option maxRecDepth 100000 in
theorem pe16_175_20 (kn : List rM) {m : Nat} (h : (rE0.1 m).cls = "PackHouseModel$Tags") : rpo (rpar kn) rE0 m 175 (20, 196, 1, .ref 16) := po20 h (pm196 kn) (tw13 (List.mem_of_getElem? (i := 136) rfl) rfl) (tw13 (List.mem_of_getElem? (i := 138) rfl) rfl) (pw14 (List.mem_of_getElem? (i := 14) rfl)) rfl rfl
set_option maxRecDepth 100000 in
theorem pe16_178_10 (kn : List rM) {m : Nat} (h : (rE0.1 m).cls = "PackHouseModel$Tags") : rpo (rpar kn) rE0 m 178 (10, 0, 0, .int (65540)) := po10 h (tw13 (List.mem_of_getElem? (i := 144) rfl) rfl)
set_option maxRecDepth 100000 in
theorem pe16_179_20 (kn : List rM) {m : Nat} (h : (rE0.1 m).cls = "PackHouseModel$Tags") : rpo (rpar kn) rE0 m 179 (20, 197, 2, .ref 16) := po20 h (pm197 kn) (tw13 (List.mem_of_getElem? (i := 140) rfl) rfl) (tw13 (List.mem_of_getElem? (i := 142) rfl) rfl) (pw14 (List.mem_of_getElem? (i := 15) rfl)) rfl rfl
set_option maxRecDepth 100000 in
theorem pe16_182_20 (kn : List rM) {m : Nat} (h : (rE0.1 m).cls = "PackHouseModel$Tags") : rpo (rpar kn) rE0 m 182 (20, 198, 3, .ref 16) := po20 h (pm198 kn) (tw13 (List.mem_of_getElem? (i := 145) rfl) rfl) (tw13 (List.mem_of_getElem? (i := 147) rfl) rfl) (pw15 (List.mem_of_getElem? (i := 0) rfl)) rfl rfl
set_option maxRecDepth 100000 in
theorem pl16 (kn : List rM) {m : Nat} (h : (rE0.1 m).cls = "PackHouseModel$Tags") : ∀ q ∈ pool_16, rpo (rpar kn) rE0 m q.1 q.2 := List.forall_mem_cons.mpr ⟨pe16_1_26 kn h, List.forall_mem_cons.mpr ⟨pe16_7_10 kn h, List.forall_mem_cons.mpr ⟨pe16_8_0 kn h, List.forall_mem_cons.mpr ⟨pe16_14_0 kn h, List.forall_mem_cons.mpr ⟨pe16_17_0 kn h, List.forall_mem_cons.mpr ⟨pe16_20_0 kn h, List.forall_mem_cons.mpr ⟨pe16_24_0 kn h, List.forall_mem_cons.mpr ⟨pe16_28_20 kn h, List.forall_mem_cons.mpr ⟨pe16_32_1 kn h, List.forall_mem_cons.mpr ⟨pe16_37_1 kn h, List.forall_mem_cons.mpr ⟨pe16_40_1 kn h, List.forall_mem_cons.mpr ⟨pe16_43_0 kn h, List.forall_mem_cons.mpr ⟨pe16_50_0 kn h, List.forall_mem_cons.mpr ⟨pe16_79_20 kn h, List.forall_mem_cons.mpr ⟨pe16_83_10 kn h, List.forall_mem_cons.mpr ⟨pe16_87_20 kn h, List.forall_mem_cons.mpr ⟨pe16_93_1 kn h, List.forall_mem_cons.mpr ⟨pe16_96_20 kn h, List.forall_mem_cons.mpr ⟨pe16_99_20 kn h, List.forall_mem_cons.mpr ⟨pe16_103_0 kn h, List.forall_mem_cons.mpr ⟨pe16_106_0 kn h, List.forall_mem_cons.mpr ⟨pe16_109_11 kn h, List.forall_mem_cons.mpr ⟨pe16_111_0 kn h, List.forall_mem_cons.mpr ⟨pe16_114_0 kn h, List.forall_mem_cons.mpr ⟨pe16_117_20 kn h, List.forall_mem_cons.mpr ⟨pe16_121_11 kn h, List.forall_mem_cons.mpr ⟨pe16_123_20 kn h, List.forall_mem_cons.mpr ⟨pe16_127_11 kn h, List.forall_mem_cons.mpr ⟨pe16_129_11 kn h, List.forall_mem_cons.mpr ⟨pe16_131_11 kn h, List.forall_mem_cons.mpr ⟨pe16_139_20 kn h, List.forall_mem_cons.mpr ⟨pe16_150_1 kn h, List.forall_mem_cons.mpr ⟨pe16_153_20 kn h, List.forall_mem_cons.mpr ⟨pe16_156_20 kn h, List.forall_mem_cons.mpr ⟨pe16_159_20 kn h, List.forall_mem_cons.mpr ⟨pe16_168_24 kn h, List.forall_mem_cons.mpr ⟨pe16_175_20 kn h, List.forall_mem_cons.mpr ⟨pe16_178_10 kn h, List.forall_mem_cons.mpr ⟨pe16_179_20 kn h, List.forall_mem_cons.mpr ⟨pe16_182_20 kn h, (fun _ h => absurd h List.not_mem_nil)⟩⟩⟩⟩⟩⟩⟩⟩⟩⟩⟩⟩⟩⟩⟩⟩⟩⟩⟩⟩⟩⟩⟩⟩⟩⟩⟩⟩⟩⟩⟩⟩⟩⟩⟩⟩⟩⟩⟩⟩
set_option maxRecDepth 100000 in
theorem pe17_1_26 (kn : List rM) {m : Nat} (h : (rE0.1 m).cls = "PackHouseModel$Tokens") : rpo (rpar kn) rE0 m 1 (26, 0, 0, .null) := po26 h (tw8 (List.mem_of_getElem? (i := 50) rfl) rfl)
set_option maxRecDepth 100000 in
theorem pe17_7_10 (kn : List rM) {m : Nat} (h : (rE0.1 m).cls = "PackHouseModel$Tokens") : rpo (rpar kn) rE0 m 7 (10, 0, 0, .int (65536)) := po10 h (tw8 (List.mem_of_getElem? (i := 51) rfl) rfl)
set_option maxRecDepth 100000 in
theorem pe17_8_0 (kn : List rM) {m : Nat} (h : (rE0.1 m).cls = "PackHouseModel$Tokens") : rpo (rpar kn) rE0 m 8 (0, 17, 1, .ref 11) := po0 (C := "PackHouseModel$Tokens") (T := FT17) (N := 17) (ty := fy17 1) h rfl (by decide) rfl (tw8 (List.mem_of_getElem? (i := 55) rfl) rfl) (fp17 1 (by decide)) rfl (fun a => absurd a (by decide)) (fun _ _ => ⟨rfl, rfl⟩)
set_option maxRecDepth 100000 in
theorem pe17_14_0 (kn : List rM) {m : Nat} (h : (rE0.1 m).cls = "PackHouseModel$Tokens") : rpo (rpar kn) rE0 m 14 (0, 17, 3, .ref 11) := po0 (C := "PackHouseModel$Tokens") (T := FT17) (N := 17) (ty := fy17 3) h rfl (by decide) rfl (tw8 (List.mem_of_getElem? (i := 58) rfl) rfl) (fp17 3 (by decide)) rfl (fun a => absurd a (by decide)) (fun _ _ => ⟨rfl, rfl⟩)
set_option maxRecDepth 100000 in
theorem pe17_18_0 (kn : List rM) {m : Nat} (h : (rE0.1 m).cls = "PackHouseModel$Tokens") : rpo (rpar kn) rE0 m 18 (0, 17, 4, .ref 11) := po0 (C := "PackHouseModel$Tokens") (T := FT17) (N := 17) (ty := fy17 4) h rfl (by decide) rfl (tw8 (List.mem_of_getElem? (i := 59) rfl) rfl) (fp17 4 (by decide)) rfl (fun a => absurd a (by decide)) (fun _ _ => ⟨rfl, rfl⟩)
set_option maxRecDepth 100000 in
theorem pe17_21_10 (kn : List rM) {m : Nat} (h : (rE0.1 m).cls = "PackHouseModel$Tokens") : rpo (rpar kn) rE0 m 21 (10, 0, 0, .int (70000)) := po10 h (tw8 (List.mem_of_getElem? (i := 52) rfl) rfl)
set_option maxRecDepth 100000 in
theorem pe17_22_0 (kn : List rM) {m : Nat} (h : (rE0.1 m).cls = "PackHouseModel$Tokens") : rpo (rpar kn) rE0 m 22 (0, 17, 7, .ref 11) := po0 (C := "PackHouseModel$Tokens") (T := FT17) (N := 17) (ty := fy17 7) h rfl (by decide) rfl (tw8 (List.mem_of_getElem? (i := 62) rfl) rfl) (fp17 7 (by decide)) rfl (fun a => absurd a (by decide)) (fun _ _ => ⟨rfl, rfl⟩)
set_option maxRecDepth 100000 in
theorem pe17_25_0 (kn : List rM) {m : Nat} (h : (rE0.1 m).cls = "PackHouseModel$Tokens") : rpo (rpar kn) rE0 m 25 (0, 17, 9, .ref 11) := po0 (C := "PackHouseModel$Tokens") (T := FT17) (N := 17) (ty := fy17 9) h rfl (by decide) rfl (tw8 (List.mem_of_getElem? (i := 64) rfl) rfl) (fp17 9 (by decide)) rfl (fun a => absurd a (by decide)) (fun _ _ => ⟨rfl, rfl⟩)
set_option maxRecDepth 100000 in
theorem pe17_28_10 (kn : List rM) {m : Nat} (h : (rE0.1 m).cls = "PackHouseModel$Tokens") : rpo (rpar kn) rE0 m 28 (10, 0, 0, .int (131072)) := po10 h (tw8 (List.mem_of_getElem? (i := 53) rfl) rfl)
set_option maxRecDepth 100000 in
theorem pe17_29_0 (kn : List rM) {m : Nat} (h : (rE0.1 m).cls = "PackHouseModel$Tokens") : rpo (rpar kn) rE0 m 29 (0, 17, 11, .ref 11) := po0 (C := "PackHouseModel$Tokens") (T := FT17) (N := 17) (ty := fy17 11) h rfl (by decide) rfl (tw8 (List.mem_of_getElem? (i := 66) rfl) rfl) (fp17 11 (by decide)) rfl (fun a => absurd a (by decide)) (fun _ _ => ⟨rfl, rfl⟩)
set_option maxRecDepth 100000 in
theorem pe17_32_0 (kn : List rM) {m : Nat} (h : (rE0.1 m).cls = "PackHouseModel$Tokens") : rpo (rpar kn) rE0 m 32 (0, 17, 13, .ref 11) := po0 (C := "PackHouseModel$Tokens") (T := FT17) (N := 17) (ty := fy17 13) h rfl (by decide) rfl (tw8 (List.mem_of_getElem? (i := 68) rfl) rfl) (fp17 13 (by decide)) rfl (fun a => absurd a (by decide)) (fun _ _ => ⟨rfl, rfl⟩)
set_option maxRecDepth 100000 in
theorem pe17_35_0 (kn : List rM) {m : Nat} (h : (rE0.1 m).cls = "PackHouseModel$Tokens") : rpo (rpar kn) rE0 m 35 (0, 17, 0, .ref 11) := po0 (C := "PackHouseModel$Tokens") (T := FT17) (N := 17) (ty := fy17 0) h rfl (by decide) rfl (tw8 (List.mem_of_getElem? (i := 54) rfl) rfl) (fp17 0 (by decide)) rfl (fun a => absurd a (by decide)) (fun _ _ => ⟨rfl, rfl⟩)
set_option maxRecDepth 100000 in
theorem pe17_39_1 (kn : List rM) {m : Nat} (h : (rE0.1 m).cls = "PackHouseModel$Tokens") : rpo (rpar kn) rE0 m 39 (1, 13, 1, .ref 0) := po1 (C := "PackHouseModel$Desk") (T := FT13) (N := 5) (ty := fy13 1) h rfl (by decide) rfl (tn8 (List.mem_of_getElem? (i := 2) rfl) rfl) (fp13 1 (by decide)) rfl (fun _ => rfl) (fun a _ => absurd a (by decide)) (by decide)
set_option maxRecDepth 100000 in
theorem pe17_45_1 (kn : List rM) {m : Nat} (h : (rE0.1 m).cls = "PackHouseModel$Tokens") : rpo (rpar kn) rE0 m 45 (1, 13, 0, .ref 19) := po1 (C := "PackHouseModel$Desk") (T := FT13) (N := 5) (ty := fy13 0) h rfl (by decide) rfl (tn7 (List.mem_of_getElem? (i := 238) rfl) rfl) (fp13 0 (by decide)) rfl (fun a => absurd a (by decide)) (fun _ b => absurd b (by decide)) (by decide)
set_option maxRecDepth 100000 in
theorem pe17_48_0 (kn : List rM) {m : Nat} (h : (rE0.1 m).cls = "PackHouseModel$Tokens") : rpo (rpar kn) rE0 m 48 (0, 17, 2, .ref 0) := po0 (C := "PackHouseModel$Tokens") (T := FT17) (N := 17) (ty := fy17 2) h rfl (by decide) rfl (tw8 (List.mem_of_getElem? (i := 56) rfl) rfl) (fp17 2 (by decide)) rfl (fun _ => rfl) (fun a _ => absurd a (by decide))
set_option maxRecDepth 100000 in
theorem pe17_51_11 (kn : List rM) {m : Nat} (h : (rE0.1 m).cls = "PackHouseModel$Tokens") : rpo (rpar kn) rE0 m 51 (11, 0, 0, .long (4294967295)) := po11 h (tw11 (List.mem_of_getElem? (i := 138) rfl) rfl)
set_option maxRecDepth 100000 in
theorem pe17_53_11 (kn : List rM) {m : Nat} (h : (rE0.1 m).cls = "PackHouseModel$Tokens") : rpo (rpar kn) rE0 m 53 (11, 0, 0, .long (2654435761)) := po11 h (tw11 (List.mem_of_getElem? (i := 143) rfl) rfl)
set_option maxRecDepth 100000 in
theorem pe17_55_11 (kn : List rM) {m : Nat} (h : (rE0.1 m).cls = "PackHouseModel$Tokens") : rpo (rpar kn) rE0 m 55 (11, 0, 0, .long (2246822519)) := po11 h (tw11 (List.mem_of_getElem? (i := 144) rfl) rfl)
set_option maxRecDepth 100000 in
theorem pe17_57_11 (kn : List rM) {m : Nat} (h : (rE0.1 m).cls = "PackHouseModel$Tokens") : rpo (rpar kn) rE0 m 57 (11, 0, 0, .long (3266489917)) := po11 h (tw11 (List.mem_of_getElem? (i := 145) rfl) rfl)
set_option maxRecDepth 100000 in
theorem pe17_59_11 (kn : List rM) {m : Nat} (h : (rE0.1 m).cls = "PackHouseModel$Tokens") : rpo (rpar kn) rE0 m 59 (11, 0, 0, .long (668265263)) := po11 h (tw11 (List.mem_of_getElem? (i := 146) rfl) rfl)
set_option maxRecDepth 100000 in
theorem pe17_61_11 (kn : List rM) {m : Nat} (h : (rE0.1 m).cls = "PackHouseModel$Tokens") : rpo (rpar kn) rE0 m 61 (11, 0, 0, .long (374761393)) := po11 h (tw11 (List.mem_of_getElem? (i := 147) rfl) rfl)
set_option maxRecDepth 100000 in
theorem pe17_67_24 (kn : List rM) {m : Nat} (h : (rE0.1 m).cls = "PackHouseModel$Tokens") : rpo (rpar kn) rE0 m 67 (24, 204, 2, .null) := po24 h (pm204 kn) (tw11 (List.mem_of_getElem? (i := 151) rfl) rfl) (tw11 (List.mem_of_getElem? (i := 152) rfl) rfl)
set_option maxRecDepth 100000 in
theorem pe17_71_24 (kn : List rM) {m : Nat} (h : (rE0.1 m).cls = "PackHouseModel$Tokens") : rpo (rpar kn) rE0 m 71 (24, 203, 2, .null) := po24 h (pm203 kn) (tw11 (List.mem_of_getElem? (i := 154) rfl) rfl) (tw11 (List.mem_of_getElem? (i := 155) rfl) rfl)
set_option maxRecDepth 100000 in
theorem pe17_75_0 (kn : List rM) {m : Nat} (h : (rE0.1 m).cls = "PackHouseModel$Tokens") : rpo (rpar kn) rE0 m 75 (0, 17, 5, .ref 0) := po0 (C := "PackHouseModel$Tokens") (T := FT17) (N := 17) (ty := fy17 5) h rfl (by decide) rfl (tw8 (List.mem_of_getElem? (i := 60) rfl) rfl) (fp17 5 (by decide)) rfl (fun _ => rfl) (fun a _ => absurd a (by decide))
set_option maxRecDepth 100000 in
theorem pe17_83_0 (kn : List rM) {m : Nat} (h : (rE0.1 m).cls = "PackHouseModel$Tokens") : rpo (rpar kn) rE0 m 83 (0, 17, 6, .ref 0) := po0 (C := "PackHouseModel$Tokens") (T := FT17) (N := 17) (ty := fy17 6) h rfl (by decide) rfl (tw8 (List.mem_of_getElem? (i := 61) rfl) rfl) (fp17 6 (by decide)) rfl (fun _ => rfl) (fun a _ => absurd a (by decide))
set_option maxRecDepth 100000 in
theorem pe17_90_0 (kn : List rM) {m : Nat} (h : (rE0.1 m).cls = "PackHouseModel$Tokens") : rpo (rpar kn) rE0 m 90 (0, 17, 10, .ref 0) := po0 (C := "PackHouseModel$Tokens") (T := FT17) (N := 17) (ty := fy17 10) h rfl (by decide) rfl (tw8 (List.mem_of_getElem? (i := 65) rfl) rfl) (fp17 10 (by decide)) rfl (fun _ => rfl) (fun a _ => absurd a (by decide))
set_option maxRecDepth 100000 in
theorem pe17_93_20 (kn : List rM) {m : Nat} (h : (rE0.1 m).cls = "PackHouseModel$Tokens") : rpo (rpar kn) rE0 m 93 (20, 206, 1, .ref 17) := po20 h (pm206 kn) (tw11 (List.mem_of_getElem? (i := 109) rfl) rfl) (tw11 (List.mem_of_getElem? (i := 111) rfl) rfl) (pw8 (List.mem_of_getElem? (i := 12) rfl)) rfl rfl
set_option maxRecDepth 100000 in
theorem pe17_97_20 (kn : List rM) {m : Nat} (h : (rE0.1 m).cls = "PackHouseModel$Tokens") : rpo (rpar kn) rE0 m 97 (20, 207, 1, .ref 17) := po20 h (pm207 kn) (tw11 (List.mem_of_getElem? (i := 113) rfl) rfl) (tw11 (List.mem_of_getElem? (i := 115) rfl) rfl) (pw8 (List.mem_of_getElem? (i := 13) rfl)) rfl rfl
set_option maxRecDepth 100000 in
theorem pe17_103_20 (kn : List rM) {m : Nat} (h : (rE0.1 m).cls = "PackHouseModel$Tokens") : rpo (rpar kn) rE0 m 103 (20, 208, 4, .ref 17) := po20 h (pm208 kn) (tw11 (List.mem_of_getElem? (i := 105) rfl) rfl) (tw11 (List.mem_of_getElem? (i := 107) rfl) rfl) (pw8 (List.mem_of_getElem? (i := 11) rfl)) rfl rfl
set_option maxRecDepth 100000 in
theorem pe17_107_1 (kn : List rM) {m : Nat} (h : (rE0.1 m).cls = "PackHouseModel$Tokens") : rpo (rpar kn) rE0 m 107 (1, 13, 2, .ref 19) := po1 (C := "PackHouseModel$Desk") (T := FT13) (N := 5) (ty := fy13 2) h rfl (by decide) rfl (tn8 (List.mem_of_getElem? (i := 10) rfl) rfl) (fp13 2 (by decide)) rfl (fun a => absurd a (by decide)) (fun _ b => absurd b (by decide)) (by decide)
set_option maxRecDepth 100000 in
theorem pe17_110_1 (kn : List rM) {m : Nat} (h : (rE0.1 m).cls = "PackHouseModel$Tokens") : rpo (rpar kn) rE0 m 110 (1, 13, 3, .ref 0) := po1 (C := "PackHouseModel$Desk") (T := FT13) (N := 5) (ty := fy13 3) h rfl (by decide) rfl (tn8 (List.mem_of_getElem? (i := 15) rfl) rfl) (fp13 3 (by decide)) rfl (fun _ => rfl) (fun a _ => absurd a (by decide)) (by decide)
set_option maxRecDepth 100000 in
theorem pe17_113_20 (kn : List rM) {m : Nat} (h : (rE0.1 m).cls = "PackHouseModel$Tokens") : rpo (rpar kn) rE0 m 113 (20, 210, 0, .ref 17) := po20 h (pm210 kn) (tw11 (List.mem_of_getElem? (i := 80) rfl) rfl) (tw11 (List.mem_of_getElem? (i := 82) rfl) rfl) (pw8 (List.mem_of_getElem? (i := 5) rfl)) rfl rfl
set_option maxRecDepth 100000 in
theorem pe17_116_20 (kn : List rM) {m : Nat} (h : (rE0.1 m).cls = "PackHouseModel$Tokens") : rpo (rpar kn) rE0 m 116 (20, 211, 2, .ref 17) := po20 h (pm211 kn) (tw11 (List.mem_of_getElem? (i := 84) rfl) rfl) (tw11 (List.mem_of_getElem? (i := 86) rfl) rfl) (pw8 (List.mem_of_getElem? (i := 6) rfl)) rfl rfl
set_option maxRecDepth 100000 in
theorem pe17_120_20 (kn : List rM) {m : Nat} (h : (rE0.1 m).cls = "PackHouseModel$Tokens") : rpo (rpar kn) rE0 m 120 (20, 209, 2, .ref 17) := po20 h (pm209 kn) (tw11 (List.mem_of_getElem? (i := 88) rfl) rfl) (tw11 (List.mem_of_getElem? (i := 90) rfl) rfl) (pw8 (List.mem_of_getElem? (i := 7) rfl)) rfl rfl
set_option maxRecDepth 100000 in
theorem pe17_123_20 (kn : List rM) {m : Nat} (h : (rE0.1 m).cls = "PackHouseModel$Tokens") : rpo (rpar kn) rE0 m 123 (20, 212, 2, .ref 17) := po20 h (pm212 kn) (tw11 (List.mem_of_getElem? (i := 117) rfl) rfl) (tw11 (List.mem_of_getElem? (i := 119) rfl) rfl) (pw8 (List.mem_of_getElem? (i := 14) rfl)) rfl rfl
set_option maxRecDepth 100000 in
theorem pe17_127_0 (kn : List rM) {m : Nat} (h : (rE0.1 m).cls = "PackHouseModel$Tokens") : rpo (rpar kn) rE0 m 127 (0, 17, 16, .ref 0) := po0 (C := "PackHouseModel$Tokens") (T := FT17) (N := 17) (ty := fy17 16) h rfl (by decide) rfl (tw8 (List.mem_of_getElem? (i := 71) rfl) rfl) (fp17 16 (by decide)) rfl (fun _ => rfl) (fun a _ => absurd a (by decide))
set_option maxRecDepth 100000 in
theorem pe17_130_0 (kn : List rM) {m : Nat} (h : (rE0.1 m).cls = "PackHouseModel$Tokens") : rpo (rpar kn) rE0 m 130 (0, 17, 15, .ref 0) := po0 (C := "PackHouseModel$Tokens") (T := FT17) (N := 17) (ty := fy17 15) h rfl (by decide) rfl (tw8 (List.mem_of_getElem? (i := 70) rfl) rfl) (fp17 15 (by decide)) rfl (fun _ => rfl) (fun a _ => absurd a (by decide))
set_option maxRecDepth 100000 in
theorem pe17_133_0 (kn : List rM) {m : Nat} (h : (rE0.1 m).cls = "PackHouseModel$Tokens") : rpo (rpar kn) rE0 m 133 (0, 17, 12, .ref 0) := po0 (C := "PackHouseModel$Tokens") (T := FT17) (N := 17) (ty := fy17 12) h rfl (by decide) rfl (tw8 (List.mem_of_getElem? (i := 67) rfl) rfl) (fp17 12 (by decide)) rfl (fun _ => rfl) (fun a _ => absurd a (by decide))
set_option maxRecDepth 100000 in
theorem pe17_136_1 (kn : List rM) {m : Nat} (h : (rE0.1 m).cls = "PackHouseModel$Tokens") : rpo (rpar kn) rE0 m 136 (1, 13, 4, .ref 0) := po1 (C := "PackHouseModel$Desk") (T := FT13) (N := 5) (ty := fy13 4) h rfl (by decide) rfl (tn8 (List.mem_of_getElem? (i := 18) rfl) rfl) (fp13 4 (by decide)) rfl (fun _ => rfl) (fun a _ => absurd a (by decide)) (by decide)
set_option maxRecDepth 100000 in
theorem pe17_139_20 (kn : List rM) {m : Nat} (h : (rE0.1 m).cls = "PackHouseModel$Tokens") : rpo (rpar kn) rE0 m 139 (20, 214, 2, .ref 17) := po20 h (pm214 kn) (tw13 (List.mem_of_getElem? (i := 52) rfl) rfl) (tw13 (List.mem_of_getElem? (i := 54) rfl) rfl) (pw13 (List.mem_of_getElem? (i := 14) rfl)) rfl rfl
set_option maxRecDepth 100000 in
theorem pe17_143_20 (kn : List rM) {m : Nat} (h : (rE0.1 m).cls = "PackHouseModel$Tokens") : rpo (rpar kn) rE0 m 143 (20, 216, 0, .ref 17) := po20 h (pm216 kn) (tw13 (List.mem_of_getElem? (i := 44) rfl) rfl) (tw13 (List.mem_of_getElem? (i := 46) rfl) rfl) (pw13 (List.mem_of_getElem? (i := 12) rfl)) rfl rfl
set_option maxRecDepth 100000 in
theorem pe17_146_20 (kn : List rM) {m : Nat} (h : (rE0.1 m).cls = "PackHouseModel$Tokens") : rpo (rpar kn) rE0 m 146 (20, 215, 3, .ref 17) := po20 h (pm215 kn) (tw13 (List.mem_of_getElem? (i := 48) rfl) rfl) (tw13 (List.mem_of_getElem? (i := 50) rfl) rfl) (pw13 (List.mem_of_getElem? (i := 13) rfl)) rfl rfl
set_option maxRecDepth 100000 in
theorem pe17_149_0 (kn : List rM) {m : Nat} (h : (rE0.1 m).cls = "PackHouseModel$Tokens") : rpo (rpar kn) rE0 m 149 (0, 17, 8, .ref 0) := po0 (C := "PackHouseModel$Tokens") (T := FT17) (N := 17) (ty := fy17 8) h rfl (by decide) rfl (tw8 (List.mem_of_getElem? (i := 63) rfl) rfl) (fp17 8 (by decide)) rfl (fun _ => rfl) (fun a _ => absurd a (by decide))
set_option maxRecDepth 100000 in
theorem pe17_152_11 (kn : List rM) {m : Nat} (h : (rE0.1 m).cls = "PackHouseModel$Tokens") : rpo (rpar kn) rE0 m 152 (11, 0, 0, .long (255)) := po11 h (tw11 (List.mem_of_getElem? (i := 133) rfl) rfl)
set_option maxRecDepth 100000 in
theorem pe17_154_20 (kn : List rM) {m : Nat} (h : (rE0.1 m).cls = "PackHouseModel$Tokens") : rpo (rpar kn) rE0 m 154 (20, 219, 1, .ref 17) := po20 h (pm219 kn) (tw11 (List.mem_of_getElem? (i := 134) rfl) rfl) (tw11 (List.mem_of_getElem? (i := 136) rfl) rfl) (pw9 (List.mem_of_getElem? (i := 0) rfl)) rfl rfl
set_option maxRecDepth 100000 in
theorem pe17_157_24 (kn : List rM) {m : Nat} (h : (rE0.1 m).cls = "PackHouseModel$Tokens") : rpo (rpar kn) rE0 m 157 (24, 218, 1, .null) := po24 h (pm218 kn) (tw11 (List.mem_of_getElem? (i := 125) rfl) rfl) (tw11 (List.mem_of_getElem? (i := 126) rfl) rfl)
set_option maxRecDepth 100000 in
theorem pe17_161_11 (kn : List rM) {m : Nat} (h : (rE0.1 m).cls = "PackHouseModel$Tokens") : rpo (rpar kn) rE0 m 161 (11, 0, 0, .long (407708164)) := po11 h (tw11 (List.mem_of_getElem? (i := 128) rfl) rfl)
set_option maxRecDepth 100000 in
theorem pe17_163_20 (kn : List rM) {m : Nat} (h : (rE0.1 m).cls = "PackHouseModel$Tokens") : rpo (rpar kn) rE0 m 163 (20, 220, 2, .ref 17) := po20 h (pm220 kn) (tw11 (List.mem_of_getElem? (i := 129) rfl) rfl) (tw11 (List.mem_of_getElem? (i := 131) rfl) rfl) (pw8 (List.mem_of_getElem? (i := 15) rfl)) rfl rfl
set_option maxRecDepth 100000 in
theorem pe17_167_20 (kn : List rM) {m : Nat} (h : (rE0.1 m).cls = "PackHouseModel$Tokens") : rpo (rpar kn) rE0 m 167 (20, 205, 3, .ref 17) := po20 h (pm205 kn) (tw11 (List.mem_of_getElem? (i := 139) rfl) rfl) (tw11 (List.mem_of_getElem? (i := 141) rfl) rfl) (pw9 (List.mem_of_getElem? (i := 1) rfl)) rfl rfl
set_option maxRecDepth 100000 in
theorem pe17_171_11 (kn : List rM) {m : Nat} (h : (rE0.1 m).cls = "PackHouseModel$Tokens") : rpo (rpar kn) rE0 m 171 (11, 0, 0, .long (2147483648)) := po11 h (tw11 (List.mem_of_getElem? (i := 157) rfl) rfl)
set_option maxRecDepth 100000 in
theorem pe17_173_20 (kn : List rM) {m : Nat} (h : (rE0.1 m).cls = "PackHouseModel$Tokens") : rpo (rpar kn) rE0 m 173 (20, 222, 1, .ref 17) := po20 h (pm222 kn) (tw13 (List.mem_of_getElem? (i := 64) rfl) rfl) (tw13 (List.mem_of_getElem? (i := 66) rfl) rfl) (pw14 (List.mem_of_getElem? (i := 0) rfl)) rfl rfl
set_option maxRecDepth 100000 in
theorem pe17_179_20 (kn : List rM) {m : Nat} (h : (rE0.1 m).cls = "PackHouseModel$Tokens") : rpo (rpar kn) rE0 m 179 (20, 223, 2, .ref 17) := po20 h (pm223 kn) (tw13 (List.mem_of_getElem? (i := 72) rfl) rfl) (tw13 (List.mem_of_getElem? (i := 74) rfl) rfl) (pw14 (List.mem_of_getElem? (i := 2) rfl)) rfl rfl
set_option maxRecDepth 100000 in
theorem pe17_183_11 (kn : List rM) {m : Nat} (h : (rE0.1 m).cls = "PackHouseModel$Tokens") : rpo (rpar kn) rE0 m 183 (11, 0, 0, .long (407710288)) := po11 h (tw13 (List.mem_of_getElem? (i := 76) rfl) rfl)
set_option maxRecDepth 100000 in
theorem pe17_185_11 (kn : List rM) {m : Nat} (h : (rE0.1 m).cls = "PackHouseModel$Tokens") : rpo (rpar kn) rE0 m 185 (11, 0, 0, .long (407710303)) := po11 h (tw13 (List.mem_of_getElem? (i := 77) rfl) rfl)
set_option maxRecDepth 100000 in
theorem pe17_187_20 (kn : List rM) {m : Nat} (h : (rE0.1 m).cls = "PackHouseModel$Tokens") : rpo (rpar kn) rE0 m 187 (20, 225, 1, .ref 17) := po20 h (pm225 kn) (tw13 (List.mem_of_getElem? (i := 78) rfl) rfl) (tw13 (List.mem_of_getElem? (i := 80) rfl) rfl) (pw14 (List.mem_of_getElem? (i := 3) rfl)) rfl rfl
set_option maxRecDepth 100000 in
theorem pe17_191_0 (kn : List rM) {m : Nat} (h : (rE0.1 m).cls = "PackHouseModel$Tokens") : rpo (rpar kn) rE0 m 191 (0, 17, 14, .ref 0) := po0 (C := "PackHouseModel$Tokens") (T := FT17) (N := 17) (ty := fy17 14) h rfl (by decide) rfl (tw8 (List.mem_of_getElem? (i := 69) rfl) rfl) (fp17 14 (by decide)) rfl (fun _ => rfl) (fun a _ => absurd a (by decide))
set_option maxRecDepth 100000 in
theorem pe17_198_20 (kn : List rM) {m : Nat} (h : (rE0.1 m).cls = "PackHouseModel$Tokens") : rpo (rpar kn) rE0 m 198 (20, 224, 1, .ref 17) := po20 h (pm224 kn) (tw13 (List.mem_of_getElem? (i := 60) rfl) rfl) (tw13 (List.mem_of_getElem? (i := 62) rfl) rfl) (pw13 (List.mem_of_getElem? (i := 15) rfl)) rfl rfl
set_option maxRecDepth 100000 in
theorem pl17 (kn : List rM) {m : Nat} (h : (rE0.1 m).cls = "PackHouseModel$Tokens") : ∀ q ∈ pool_17, rpo (rpar kn) rE0 m q.1 q.2 := List.forall_mem_cons.mpr ⟨pe17_1_26 kn h, List.forall_mem_cons.mpr ⟨pe17_7_10 kn h, List.forall_mem_cons.mpr ⟨pe17_8_0 kn h, List.forall_mem_cons.mpr ⟨pe17_14_0 kn h, List.forall_mem_cons.mpr ⟨pe17_18_0 kn h, List.forall_mem_cons.mpr ⟨pe17_21_10 kn h, List.forall_mem_cons.mpr ⟨pe17_22_0 kn h, List.forall_mem_cons.mpr ⟨pe17_25_0 kn h, List.forall_mem_cons.mpr ⟨pe17_28_10 kn h, List.forall_mem_cons.mpr ⟨pe17_29_0 kn h, List.forall_mem_cons.mpr ⟨pe17_32_0 kn h, List.forall_mem_cons.mpr ⟨pe17_35_0 kn h, List.forall_mem_cons.mpr ⟨pe17_39_1 kn h, List.forall_mem_cons.mpr ⟨pe17_45_1 kn h, List.forall_mem_cons.mpr ⟨pe17_48_0 kn h, List.forall_mem_cons.mpr ⟨pe17_51_11 kn h, List.forall_mem_cons.mpr ⟨pe17_53_11 kn h, List.forall_mem_cons.mpr ⟨pe17_55_11 kn h, List.forall_mem_cons.mpr ⟨pe17_57_11 kn h, List.forall_mem_cons.mpr ⟨pe17_59_11 kn h, List.forall_mem_cons.mpr ⟨pe17_61_11 kn h, List.forall_mem_cons.mpr ⟨pe17_67_24 kn h, List.forall_mem_cons.mpr ⟨pe17_71_24 kn h, List.forall_mem_cons.mpr ⟨pe17_75_0 kn h, List.forall_mem_cons.mpr ⟨pe17_83_0 kn h, List.forall_mem_cons.mpr ⟨pe17_90_0 kn h, List.forall_mem_cons.mpr ⟨pe17_93_20 kn h, List.forall_mem_cons.mpr ⟨pe17_97_20 kn h, List.forall_mem_cons.mpr ⟨pe17_103_20 kn h, List.forall_mem_cons.mpr ⟨pe17_107_1 kn h, List.forall_mem_cons.mpr ⟨pe17_110_1 kn h, List.forall_mem_cons.mpr ⟨pe17_113_20 kn h, List.forall_mem_cons.mpr ⟨pe17_116_20 kn h, List.forall_mem_cons.mpr ⟨pe17_120_20 kn h, List.forall_mem_cons.mpr ⟨pe17_123_20 kn h, List.forall_mem_cons.mpr ⟨pe17_127_0 kn h, List.forall_mem_cons.mpr ⟨pe17_130_0 kn h, List.forall_mem_cons.mpr ⟨pe17_133_0 kn h, List.forall_mem_cons.mpr ⟨pe17_136_1 kn h, List.forall_mem_cons.mpr ⟨pe17_139_20 kn h, List.forall_mem_cons.mpr ⟨pe17_143_20 kn h, List.forall_mem_cons.mpr ⟨pe17_146_20 kn h, List.forall_mem_cons.mpr ⟨pe17_149_0 kn h, List.forall_mem_cons.mpr ⟨pe17_152_11 kn h, List.forall_mem_cons.mpr ⟨pe17_154_20 kn h, List.forall_mem_cons.mpr ⟨pe17_157_24 kn h, List.forall_mem_cons.mpr ⟨pe17_161_11 kn h, List.forall_mem_cons.mpr ⟨pe17_163_20 kn h, List.forall_mem_cons.mpr ⟨pe17_167_20 kn h, List.forall_mem_cons.mpr ⟨pe17_171_11 kn h, List.forall_mem_cons.mpr ⟨pe17_173_20 kn h, List.forall_mem_cons.mpr ⟨pe17_179_20 kn h, List.forall_mem_cons.mpr ⟨pe17_183_11 kn h, List.forall_mem_cons.mpr ⟨pe17_185_11 kn h, List.forall_mem_cons.mpr ⟨pe17_187_20 kn h, List.forall_mem_cons.mpr ⟨pe17_191_0 kn h, List.forall_mem_cons.mpr ⟨pe17_198_20 kn h, (fun _ h => absurd h List.not_mem_nil)⟩⟩⟩⟩⟩⟩⟩⟩⟩⟩⟩⟩⟩⟩⟩⟩⟩⟩⟩⟩⟩⟩⟩⟩⟩⟩⟩⟩⟩⟩⟩⟩⟩⟩⟩⟩⟩⟩⟩⟩⟩⟩⟩⟩⟩⟩⟩⟩⟩⟩⟩⟩⟩⟩⟩⟩⟩
set_option maxRecDepth 100000 in
theorem pe18_1_26 (kn : List rM) {m : Nat} (h : (rE0.1 m).cls = "PackHouseModel$Writer") : rpo (rpar kn) rE0 m 1 (26, 0, 0, .null) := po26 h (tw9 (List.mem_of_getElem? (i := 82) rfl) rfl)
set_option maxRecDepth 100000 in
theorem pe18_7_10 (kn : List rM) {m : Nat} (h : (rE0.1 m).cls = "PackHouseModel$Writer") : rpo (rpar kn) rE0 m 7 (10, 0, 0, .int (65536)) := po10 h (tw9 (List.mem_of_getElem? (i := 83) rfl) rfl)
set_option maxRecDepth 100000 in
theorem pe18_8_0 (kn : List rM) {m : Nat} (h : (rE0.1 m).cls = "PackHouseModel$Writer") : rpo (rpar kn) rE0 m 8 (0, 18, 3, .ref 11) := po0 (C := "PackHouseModel$Writer") (T := FT18) (N := 59) (ty := fy18 3) h rfl (by decide) rfl (tw9 (List.mem_of_getElem? (i := 87) rfl) rfl) (fp18 3 (by decide)) rfl (fun a => absurd a (by decide)) (fun _ _ => ⟨rfl, rfl⟩)
set_option maxRecDepth 100000 in
theorem pe18_14_0 (kn : List rM) {m : Nat} (h : (rE0.1 m).cls = "PackHouseModel$Writer") : rpo (rpar kn) rE0 m 14 (0, 18, 7, .ref 11) := po0 (C := "PackHouseModel$Writer") (T := FT18) (N := 59) (ty := fy18 7) h rfl (by decide) rfl (tw9 (List.mem_of_getElem? (i := 91) rfl) rfl) (fp18 7 (by decide)) rfl (fun a => absurd a (by decide)) (fun _ _ => ⟨rfl, rfl⟩)
set_option maxRecDepth 100000 in
theorem pe18_17_0 (kn : List rM) {m : Nat} (h : (rE0.1 m).cls = "PackHouseModel$Writer") : rpo (rpar kn) rE0 m 17 (0, 18, 8, .ref 11) := po0 (C := "PackHouseModel$Writer") (T := FT18) (N := 59) (ty := fy18 8) h rfl (by decide) rfl (tw9 (List.mem_of_getElem? (i := 92) rfl) rfl) (fp18 8 (by decide)) rfl (fun a => absurd a (by decide)) (fun _ _ => ⟨rfl, rfl⟩)
set_option maxRecDepth 100000 in
theorem pe18_20_0 (kn : List rM) {m : Nat} (h : (rE0.1 m).cls = "PackHouseModel$Writer") : rpo (rpar kn) rE0 m 20 (0, 18, 9, .ref 11) := po0 (C := "PackHouseModel$Writer") (T := FT18) (N := 59) (ty := fy18 9) h rfl (by decide) rfl (tw9 (List.mem_of_getElem? (i := 93) rfl) rfl) (fp18 9 (by decide)) rfl (fun a => absurd a (by decide)) (fun _ _ => ⟨rfl, rfl⟩)
set_option maxRecDepth 100000 in
theorem pe18_23_0 (kn : List rM) {m : Nat} (h : (rE0.1 m).cls = "PackHouseModel$Writer") : rpo (rpar kn) rE0 m 23 (0, 18, 10, .ref 11) := po0 (C := "PackHouseModel$Writer") (T := FT18) (N := 59) (ty := fy18 10) h rfl (by decide) rfl (tw9 (List.mem_of_getElem? (i := 94) rfl) rfl) (fp18 10 (by decide)) rfl (fun a => absurd a (by decide)) (fun _ _ => ⟨rfl, rfl⟩)
set_option maxRecDepth 100000 in
theorem pe18_26_0 (kn : List rM) {m : Nat} (h : (rE0.1 m).cls = "PackHouseModel$Writer") : rpo (rpar kn) rE0 m 26 (0, 18, 11, .ref 11) := po0 (C := "PackHouseModel$Writer") (T := FT18) (N := 59) (ty := fy18 11) h rfl (by decide) rfl (tw9 (List.mem_of_getElem? (i := 95) rfl) rfl) (fp18 11 (by decide)) rfl (fun a => absurd a (by decide)) (fun _ _ => ⟨rfl, rfl⟩)
set_option maxRecDepth 100000 in
theorem pe18_29_0 (kn : List rM) {m : Nat} (h : (rE0.1 m).cls = "PackHouseModel$Writer") : rpo (rpar kn) rE0 m 29 (0, 18, 13, .ref 11) := po0 (C := "PackHouseModel$Writer") (T := FT18) (N := 59) (ty := fy18 13) h rfl (by decide) rfl (tw9 (List.mem_of_getElem? (i := 97) rfl) rfl) (fp18 13 (by decide)) rfl (fun a => absurd a (by decide)) (fun _ _ => ⟨rfl, rfl⟩)
set_option maxRecDepth 100000 in
theorem pe18_32_0 (kn : List rM) {m : Nat} (h : (rE0.1 m).cls = "PackHouseModel$Writer") : rpo (rpar kn) rE0 m 32 (0, 18, 14, .ref 11) := po0 (C := "PackHouseModel$Writer") (T := FT18) (N := 59) (ty := fy18 14) h rfl (by decide) rfl (tw9 (List.mem_of_getElem? (i := 98) rfl) rfl) (fp18 14 (by decide)) rfl (fun a => absurd a (by decide)) (fun _ _ => ⟨rfl, rfl⟩)
set_option maxRecDepth 100000 in
theorem pe18_35_0 (kn : List rM) {m : Nat} (h : (rE0.1 m).cls = "PackHouseModel$Writer") : rpo (rpar kn) rE0 m 35 (0, 18, 15, .ref 11) := po0 (C := "PackHouseModel$Writer") (T := FT18) (N := 59) (ty := fy18 15) h rfl (by decide) rfl (tw9 (List.mem_of_getElem? (i := 99) rfl) rfl) (fp18 15 (by decide)) rfl (fun a => absurd a (by decide)) (fun _ _ => ⟨rfl, rfl⟩)
set_option maxRecDepth 100000 in
theorem pe18_38_0 (kn : List rM) {m : Nat} (h : (rE0.1 m).cls = "PackHouseModel$Writer") : rpo (rpar kn) rE0 m 38 (0, 18, 16, .ref 11) := po0 (C := "PackHouseModel$Writer") (T := FT18) (N := 59) (ty := fy18 16) h rfl (by decide) rfl (tw9 (List.mem_of_getElem? (i := 100) rfl) rfl) (fp18 16 (by decide)) rfl (fun a => absurd a (by decide)) (fun _ _ => ⟨rfl, rfl⟩)
set_option maxRecDepth 100000 in
theorem pe18_41_0 (kn : List rM) {m : Nat} (h : (rE0.1 m).cls = "PackHouseModel$Writer") : rpo (rpar kn) rE0 m 41 (0, 18, 18, .ref 11) := po0 (C := "PackHouseModel$Writer") (T := FT18) (N := 59) (ty := fy18 18) h rfl (by decide) rfl (tw9 (List.mem_of_getElem? (i := 102) rfl) rfl) (fp18 18 (by decide)) rfl (fun a => absurd a (by decide)) (fun _ _ => ⟨rfl, rfl⟩)
set_option maxRecDepth 100000 in
theorem pe18_44_0 (kn : List rM) {m : Nat} (h : (rE0.1 m).cls = "PackHouseModel$Writer") : rpo (rpar kn) rE0 m 44 (0, 18, 19, .ref 11) := po0 (C := "PackHouseModel$Writer") (T := FT18) (N := 59) (ty := fy18 19) h rfl (by decide) rfl (tw9 (List.mem_of_getElem? (i := 103) rfl) rfl) (fp18 19 (by decide)) rfl (fun a => absurd a (by decide)) (fun _ _ => ⟨rfl, rfl⟩)
set_option maxRecDepth 100000 in
theorem pe18_47_0 (kn : List rM) {m : Nat} (h : (rE0.1 m).cls = "PackHouseModel$Writer") : rpo (rpar kn) rE0 m 47 (0, 18, 20, .ref 11) := po0 (C := "PackHouseModel$Writer") (T := FT18) (N := 59) (ty := fy18 20) h rfl (by decide) rfl (tw9 (List.mem_of_getElem? (i := 104) rfl) rfl) (fp18 20 (by decide)) rfl (fun a => absurd a (by decide)) (fun _ _ => ⟨rfl, rfl⟩)
set_option maxRecDepth 100000 in
theorem pe18_50_0 (kn : List rM) {m : Nat} (h : (rE0.1 m).cls = "PackHouseModel$Writer") : rpo (rpar kn) rE0 m 50 (0, 18, 21, .ref 11) := po0 (C := "PackHouseModel$Writer") (T := FT18) (N := 59) (ty := fy18 21) h rfl (by decide) rfl (tw9 (List.mem_of_getElem? (i := 105) rfl) rfl) (fp18 21 (by decide)) rfl (fun a => absurd a (by decide)) (fun _ _ => ⟨rfl, rfl⟩)
set_option maxRecDepth 100000 in
theorem pe18_53_0 (kn : List rM) {m : Nat} (h : (rE0.1 m).cls = "PackHouseModel$Writer") : rpo (rpar kn) rE0 m 53 (0, 18, 25, .ref 11) := po0 (C := "PackHouseModel$Writer") (T := FT18) (N := 59) (ty := fy18 25) h rfl (by decide) rfl (tw9 (List.mem_of_getElem? (i := 109) rfl) rfl) (fp18 25 (by decide)) rfl (fun a => absurd a (by decide)) (fun _ _ => ⟨rfl, rfl⟩)
set_option maxRecDepth 100000 in
theorem pe18_56_0 (kn : List rM) {m : Nat} (h : (rE0.1 m).cls = "PackHouseModel$Writer") : rpo (rpar kn) rE0 m 56 (0, 18, 26, .ref 11) := po0 (C := "PackHouseModel$Writer") (T := FT18) (N := 59) (ty := fy18 26) h rfl (by decide) rfl (tw9 (List.mem_of_getElem? (i := 110) rfl) rfl) (fp18 26 (by decide)) rfl (fun a => absurd a (by decide)) (fun _ _ => ⟨rfl, rfl⟩)
set_option maxRecDepth 100000 in
theorem pe18_59_0 (kn : List rM) {m : Nat} (h : (rE0.1 m).cls = "PackHouseModel$Writer") : rpo (rpar kn) rE0 m 59 (0, 18, 27, .ref 11) := po0 (C := "PackHouseModel$Writer") (T := FT18) (N := 59) (ty := fy18 27) h rfl (by decide) rfl (tw9 (List.mem_of_getElem? (i := 111) rfl) rfl) (fp18 27 (by decide)) rfl (fun a => absurd a (by decide)) (fun _ _ => ⟨rfl, rfl⟩)
set_option maxRecDepth 100000 in
theorem pe18_62_0 (kn : List rM) {m : Nat} (h : (rE0.1 m).cls = "PackHouseModel$Writer") : rpo (rpar kn) rE0 m 62 (0, 18, 29, .ref 11) := po0 (C := "PackHouseModel$Writer") (T := FT18) (N := 59) (ty := fy18 29) h rfl (by decide) rfl (tw9 (List.mem_of_getElem? (i := 113) rfl) rfl) (fp18 29 (by decide)) rfl (fun a => absurd a (by decide)) (fun _ _ => ⟨rfl, rfl⟩)
set_option maxRecDepth 100000 in
theorem pe18_65_0 (kn : List rM) {m : Nat} (h : (rE0.1 m).cls = "PackHouseModel$Writer") : rpo (rpar kn) rE0 m 65 (0, 18, 31, .ref 11) := po0 (C := "PackHouseModel$Writer") (T := FT18) (N := 59) (ty := fy18 31) h rfl (by decide) rfl (tw9 (List.mem_of_getElem? (i := 115) rfl) rfl) (fp18 31 (by decide)) rfl (fun a => absurd a (by decide)) (fun _ _ => ⟨rfl, rfl⟩)
set_option maxRecDepth 100000 in
theorem pe18_68_0 (kn : List rM) {m : Nat} (h : (rE0.1 m).cls = "PackHouseModel$Writer") : rpo (rpar kn) rE0 m 68 (0, 18, 32, .ref 11) := po0 (C := "PackHouseModel$Writer") (T := FT18) (N := 59) (ty := fy18 32) h rfl (by decide) rfl (tw9 (List.mem_of_getElem? (i := 116) rfl) rfl) (fp18 32 (by decide)) rfl (fun a => absurd a (by decide)) (fun _ _ => ⟨rfl, rfl⟩)
set_option maxRecDepth 100000 in
theorem pe18_71_0 (kn : List rM) {m : Nat} (h : (rE0.1 m).cls = "PackHouseModel$Writer") : rpo (rpar kn) rE0 m 71 (0, 18, 33, .ref 11) := po0 (C := "PackHouseModel$Writer") (T := FT18) (N := 59) (ty := fy18 33) h rfl (by decide) rfl (tw9 (List.mem_of_getElem? (i := 117) rfl) rfl) (fp18 33 (by decide)) rfl (fun a => absurd a (by decide)) (fun _ _ => ⟨rfl, rfl⟩)
set_option maxRecDepth 100000 in
theorem pe18_74_0 (kn : List rM) {m : Nat} (h : (rE0.1 m).cls = "PackHouseModel$Writer") : rpo (rpar kn) rE0 m 74 (0, 18, 34, .ref 11) := po0 (C := "PackHouseModel$Writer") (T := FT18) (N := 59) (ty := fy18 34) h rfl (by decide) rfl (tw9 (List.mem_of_getElem? (i := 118) rfl) rfl) (fp18 34 (by decide)) rfl (fun a => absurd a (by decide)) (fun _ _ => ⟨rfl, rfl⟩)
set_option maxRecDepth 100000 in
theorem pe18_77_0 (kn : List rM) {m : Nat} (h : (rE0.1 m).cls = "PackHouseModel$Writer") : rpo (rpar kn) rE0 m 77 (0, 18, 36, .ref 11) := po0 (C := "PackHouseModel$Writer") (T := FT18) (N := 59) (ty := fy18 36) h rfl (by decide) rfl (tw9 (List.mem_of_getElem? (i := 120) rfl) rfl) (fp18 36 (by decide)) rfl (fun a => absurd a (by decide)) (fun _ _ => ⟨rfl, rfl⟩)
set_option maxRecDepth 100000 in
theorem pe18_80_0 (kn : List rM) {m : Nat} (h : (rE0.1 m).cls = "PackHouseModel$Writer") : rpo (rpar kn) rE0 m 80 (0, 18, 38, .ref 11) := po0 (C := "PackHouseModel$Writer") (T := FT18) (N := 59) (ty := fy18 38) h rfl (by decide) rfl (tw9 (List.mem_of_getElem? (i := 122) rfl) rfl) (fp18 38 (by decide)) rfl (fun a => absurd a (by decide)) (fun _ _ => ⟨rfl, rfl⟩)
set_option maxRecDepth 100000 in
theorem pe18_83_0 (kn : List rM) {m : Nat} (h : (rE0.1 m).cls = "PackHouseModel$Writer") : rpo (rpar kn) rE0 m 83 (0, 18, 39, .ref 11) := po0 (C := "PackHouseModel$Writer") (T := FT18) (N := 59) (ty := fy18 39) h rfl (by decide) rfl (tw9 (List.mem_of_getElem? (i := 123) rfl) rfl) (fp18 39 (by decide)) rfl (fun a => absurd a (by decide)) (fun _ _ => ⟨rfl, rfl⟩)
set_option maxRecDepth 100000 in
theorem pe18_86_0 (kn : List rM) {m : Nat} (h : (rE0.1 m).cls = "PackHouseModel$Writer") : rpo (rpar kn) rE0 m 86 (0, 18, 40, .ref 11) := po0 (C := "PackHouseModel$Writer") (T := FT18) (N := 59) (ty := fy18 40) h rfl (by decide) rfl (tw9 (List.mem_of_getElem? (i := 124) rfl) rfl) (fp18 40 (by decide)) rfl (fun a => absurd a (by decide)) (fun _ _ => ⟨rfl, rfl⟩)
set_option maxRecDepth 100000 in
theorem pe18_89_0 (kn : List rM) {m : Nat} (h : (rE0.1 m).cls = "PackHouseModel$Writer") : rpo (rpar kn) rE0 m 89 (0, 18, 41, .ref 11) := po0 (C := "PackHouseModel$Writer") (T := FT18) (N := 59) (ty := fy18 41) h rfl (by decide) rfl (tw9 (List.mem_of_getElem? (i := 125) rfl) rfl) (fp18 41 (by decide)) rfl (fun a => absurd a (by decide)) (fun _ _ => ⟨rfl, rfl⟩)
set_option maxRecDepth 100000 in
theorem pe18_92_0 (kn : List rM) {m : Nat} (h : (rE0.1 m).cls = "PackHouseModel$Writer") : rpo (rpar kn) rE0 m 92 (0, 18, 42, .ref 11) := po0 (C := "PackHouseModel$Writer") (T := FT18) (N := 59) (ty := fy18 42) h rfl (by decide) rfl (tw9 (List.mem_of_getElem? (i := 126) rfl) rfl) (fp18 42 (by decide)) rfl (fun a => absurd a (by decide)) (fun _ _ => ⟨rfl, rfl⟩)
set_option maxRecDepth 100000 in
theorem pe18_95_0 (kn : List rM) {m : Nat} (h : (rE0.1 m).cls = "PackHouseModel$Writer") : rpo (rpar kn) rE0 m 95 (0, 18, 43, .ref 11) := po0 (C := "PackHouseModel$Writer") (T := FT18) (N := 59) (ty := fy18 43) h rfl (by decide) rfl (tw9 (List.mem_of_getElem? (i := 127) rfl) rfl) (fp18 43 (by decide)) rfl (fun a => absurd a (by decide)) (fun _ _ => ⟨rfl, rfl⟩)
set_option maxRecDepth 100000 in
theorem pe18_98_0 (kn : List rM) {m : Nat} (h : (rE0.1 m).cls = "PackHouseModel$Writer") : rpo (rpar kn) rE0 m 98 (0, 18, 44, .ref 11) := po0 (C := "PackHouseModel$Writer") (T := FT18) (N := 59) (ty := fy18 44) h rfl (by decide) rfl (tw9 (List.mem_of_getElem? (i := 128) rfl) rfl) (fp18 44 (by decide)) rfl (fun a => absurd a (by decide)) (fun _ _ => ⟨rfl, rfl⟩)
set_option maxRecDepth 100000 in
theorem pe18_102_0 (kn : List rM) {m : Nat} (h : (rE0.1 m).cls = "PackHouseModel$Writer") : rpo (rpar kn) rE0 m 102 (0, 18, 45, .ref 11) := po0 (C := "PackHouseModel$Writer") (T := FT18) (N := 59) (ty := fy18 45) h rfl (by decide) rfl (tw9 (List.mem_of_getElem? (i := 129) rfl) rfl) (fp18 45 (by decide)) rfl (fun a => absurd a (by decide)) (fun _ _ => ⟨rfl, rfl⟩)
set_option maxRecDepth 100000 in
theorem pe18_105_0 (kn : List rM) {m : Nat} (h : (rE0.1 m).cls = "PackHouseModel$Writer") : rpo (rpar kn) rE0 m 105 (0, 18, 46, .ref 11) := po0 (C := "PackHouseModel$Writer") (T := FT18) (N := 59) (ty := fy18 46) h rfl (by decide) rfl (tw9 (List.mem_of_getElem? (i := 130) rfl) rfl) (fp18 46 (by decide)) rfl (fun a => absurd a (by decide)) (fun _ _ => ⟨rfl, rfl⟩)
set_option maxRecDepth 100000 in
theorem pe18_108_0 (kn : List rM) {m : Nat} (h : (rE0.1 m).cls = "PackHouseModel$Writer") : rpo (rpar kn) rE0 m 108 (0, 18, 47, .ref 11) := po0 (C := "PackHouseModel$Writer") (T := FT18) (N := 59) (ty := fy18 47) h rfl (by decide) rfl (tw9 (List.mem_of_getElem? (i := 131) rfl) rfl) (fp18 47 (by decide)) rfl (fun a => absurd a (by decide)) (fun _ _ => ⟨rfl, rfl⟩)
set_option maxRecDepth 100000 in
theorem pe18_111_0 (kn : List rM) {m : Nat} (h : (rE0.1 m).cls = "PackHouseModel$Writer") : rpo (rpar kn) rE0 m 111 (0, 18, 48, .ref 11) := po0 (C := "PackHouseModel$Writer") (T := FT18) (N := 59) (ty := fy18 48) h rfl (by decide) rfl (tw9 (List.mem_of_getElem? (i := 132) rfl) rfl) (fp18 48 (by decide)) rfl (fun a => absurd a (by decide)) (fun _ _ => ⟨rfl, rfl⟩)
set_option maxRecDepth 100000 in
theorem pe18_114_0 (kn : List rM) {m : Nat} (h : (rE0.1 m).cls = "PackHouseModel$Writer") : rpo (rpar kn) rE0 m 114 (0, 18, 50, .ref 11) := po0 (C := "PackHouseModel$Writer") (T := FT18) (N := 59) (ty := fy18 50) h rfl (by decide) rfl (tw9 (List.mem_of_getElem? (i := 134) rfl) rfl) (fp18 50 (by decide)) rfl (fun a => absurd a (by decide)) (fun _ _ => ⟨rfl, rfl⟩)
set_option maxRecDepth 100000 in
theorem pe18_117_0 (kn : List rM) {m : Nat} (h : (rE0.1 m).cls = "PackHouseModel$Writer") : rpo (rpar kn) rE0 m 117 (0, 18, 51, .ref 11) := po0 (C := "PackHouseModel$Writer") (T := FT18) (N := 59) (ty := fy18 51) h rfl (by decide) rfl (tw9 (List.mem_of_getElem? (i := 135) rfl) rfl) (fp18 51 (by decide)) rfl (fun a => absurd a (by decide)) (fun _ _ => ⟨rfl, rfl⟩)
set_option maxRecDepth 100000 in
theorem pe18_120_0 (kn : List rM) {m : Nat} (h : (rE0.1 m).cls = "PackHouseModel$Writer") : rpo (rpar kn) rE0 m 120 (0, 18, 52, .ref 11) := po0 (C := "PackHouseModel$Writer") (T := FT18) (N := 59) (ty := fy18 52) h rfl (by decide) rfl (tw9 (List.mem_of_getElem? (i := 136) rfl) rfl) (fp18 52 (by decide)) rfl (fun a => absurd a (by decide)) (fun _ _ => ⟨rfl, rfl⟩)
set_option maxRecDepth 100000 in
theorem pe18_123_0 (kn : List rM) {m : Nat} (h : (rE0.1 m).cls = "PackHouseModel$Writer") : rpo (rpar kn) rE0 m 123 (0, 18, 55, .ref 11) := po0 (C := "PackHouseModel$Writer") (T := FT18) (N := 59) (ty := fy18 55) h rfl (by decide) rfl (tw9 (List.mem_of_getElem? (i := 138) rfl) rfl) (fp18 55 (by decide)) rfl (fun a => absurd a (by decide)) (fun _ _ => ⟨rfl, rfl⟩)
set_option maxRecDepth 100000 in
theorem pe18_126_0 (kn : List rM) {m : Nat} (h : (rE0.1 m).cls = "PackHouseModel$Writer") : rpo (rpar kn) rE0 m 126 (0, 18, 56, .ref 11) := po0 (C := "PackHouseModel$Writer") (T := FT18) (N := 59) (ty := fy18 56) h rfl (by decide) rfl (tw9 (List.mem_of_getElem? (i := 139) rfl) rfl) (fp18 56 (by decide)) rfl (fun a => absurd a (by decide)) (fun _ _ => ⟨rfl, rfl⟩)
set_option maxRecDepth 100000 in
theorem pe18_130_0 (kn : List rM) {m : Nat} (h : (rE0.1 m).cls = "PackHouseModel$Writer") : rpo (rpar kn) rE0 m 130 (0, 18, 57, .ref 11) := po0 (C := "PackHouseModel$Writer") (T := FT18) (N := 59) (ty := fy18 57) h rfl (by decide) rfl (tw9 (List.mem_of_getElem? (i := 140) rfl) rfl) (fp18 57 (by decide)) rfl (fun a => absurd a (by decide)) (fun _ _ => ⟨rfl, rfl⟩)
set_option maxRecDepth 100000 in
theorem pe18_133_0 (kn : List rM) {m : Nat} (h : (rE0.1 m).cls = "PackHouseModel$Writer") : rpo (rpar kn) rE0 m 133 (0, 18, 58, .ref 11) := po0 (C := "PackHouseModel$Writer") (T := FT18) (N := 59) (ty := fy18 58) h rfl (by decide) rfl (tw9 (List.mem_of_getElem? (i := 141) rfl) rfl) (fp18 58 (by decide)) rfl (fun a => absurd a (by decide)) (fun _ _ => ⟨rfl, rfl⟩)
set_option maxRecDepth 100000 in
theorem pe18_136_0 (kn : List rM) {m : Nat} (h : (rE0.1 m).cls = "PackHouseModel$Writer") : rpo (rpar kn) rE0 m 136 (0, 18, 0, .ref 11) := po0 (C := "PackHouseModel$Writer") (T := FT18) (N := 59) (ty := fy18 0) h rfl (by decide) rfl (tw9 (List.mem_of_getElem? (i := 84) rfl) rfl) (fp18 0 (by decide)) rfl (fun a => absurd a (by decide)) (fun _ _ => ⟨rfl, rfl⟩)
set_option maxRecDepth 100000 in
theorem pe18_140_0 (kn : List rM) {m : Nat} (h : (rE0.1 m).cls = "PackHouseModel$Writer") : rpo (rpar kn) rE0 m 140 (0, 18, 1, .ref 0) := po0 (C := "PackHouseModel$Writer") (T := FT18) (N := 59) (ty := fy18 1) h rfl (by decide) rfl (tw9 (List.mem_of_getElem? (i := 85) rfl) rfl) (fp18 1 (by decide)) rfl (fun _ => rfl) (fun a _ => absurd a (by decide))
set_option maxRecDepth 100000 in
theorem pe18_144_0 (kn : List rM) {m : Nat} (h : (rE0.1 m).cls = "PackHouseModel$Writer") : rpo (rpar kn) rE0 m 144 (0, 18, 2, .ref 0) := po0 (C := "PackHouseModel$Writer") (T := FT18) (N := 59) (ty := fy18 2) h rfl (by decide) rfl (tw9 (List.mem_of_getElem? (i := 86) rfl) rfl) (fp18 2 (by decide)) rfl (fun _ => rfl) (fun a _ => absurd a (by decide))
set_option maxRecDepth 100000 in
theorem pe18_147_1 (kn : List rM) {m : Nat} (h : (rE0.1 m).cls = "PackHouseModel$Writer") : rpo (rpar kn) rE0 m 147 (1, 14, 2, .ref 0) := po1 (C := "PackHouseModel$Reader") (T := FT14) (N := 47) (ty := fy14 2) h rfl (by decide) rfl (tn8 (List.mem_of_getElem? (i := 162) rfl) rfl) (fp14 2 (by decide)) rfl (fun _ => rfl) (fun a _ => absurd a (by decide)) (by decide)
set_option maxRecDepth 100000 in
theorem pe18_152_0 (kn : List rM) {m : Nat} (h : (rE0.1 m).cls = "PackHouseModel$Writer") : rpo (rpar kn) rE0 m 152 (0, 18, 4, .ref 0) := po0 (C := "PackHouseModel$Writer") (T := FT18) (N := 59) (ty := fy18 4) h rfl (by decide) rfl (tw9 (List.mem_of_getElem? (i := 88) rfl) rfl) (fp18 4 (by decide)) rfl (fun _ => rfl) (fun a _ => absurd a (by decide))
set_option maxRecDepth 100000 in
theorem pe18_153_1 (kn : List rM) {m : Nat} (h : (rE0.1 m).cls = "PackHouseModel$Writer") : rpo (rpar kn) rE0 m 153 (1, 14, 3, .ref 0) := po1 (C := "PackHouseModel$Reader") (T := FT14) (N := 47) (ty := fy14 3) h rfl (by decide) rfl (tn8 (List.mem_of_getElem? (i := 165) rfl) rfl) (fp14 3 (by decide)) rfl (fun _ => rfl) (fun a _ => absurd a (by decide)) (by decide)
set_option maxRecDepth 100000 in
theorem pe18_156_0 (kn : List rM) {m : Nat} (h : (rE0.1 m).cls = "PackHouseModel$Writer") : rpo (rpar kn) rE0 m 156 (0, 18, 5, .ref 0) := po0 (C := "PackHouseModel$Writer") (T := FT18) (N := 59) (ty := fy18 5) h rfl (by decide) rfl (tw9 (List.mem_of_getElem? (i := 89) rfl) rfl) (fp18 5 (by decide)) rfl (fun _ => rfl) (fun a _ => absurd a (by decide))
set_option maxRecDepth 100000 in
theorem pe18_157_1 (kn : List rM) {m : Nat} (h : (rE0.1 m).cls = "PackHouseModel$Writer") : rpo (rpar kn) rE0 m 157 (1, 14, 4, .ref 1) := po1 (C := "PackHouseModel$Reader") (T := FT14) (N := 47) (ty := fy14 4) h rfl (by decide) rfl (tn8 (List.mem_of_getElem? (i := 168) rfl) rfl) (fp14 4 (by decide)) rfl (fun _ => rfl) (fun a _ => absurd a (by decide)) (by decide)
set_option maxRecDepth 100000 in
theorem pe18_161_0 (kn : List rM) {m : Nat} (h : (rE0.1 m).cls = "PackHouseModel$Writer") : rpo (rpar kn) rE0 m 161 (0, 18, 6, .ref 1) := po0 (C := "PackHouseModel$Writer") (T := FT18) (N := 59) (ty := fy18 6) h rfl (by decide) rfl (tw9 (List.mem_of_getElem? (i := 90) rfl) rfl) (fp18 6 (by decide)) rfl (fun _ => rfl) (fun a _ => absurd a (by decide))
set_option maxRecDepth 100000 in
theorem pe18_162_1 (kn : List rM) {m : Nat} (h : (rE0.1 m).cls = "PackHouseModel$Writer") : rpo (rpar kn) rE0 m 162 (1, 14, 1, .ref 19) := po1 (C := "PackHouseModel$Reader") (T := FT14) (N := 47) (ty := fy14 1) h rfl (by decide) rfl (tn8 (List.mem_of_getElem? (i := 161) rfl) rfl) (fp14 1 (by decide)) rfl (fun a => absurd a (by decide)) (fun _ b => absurd b (by decide)) (by decide)
set_option maxRecDepth 100000 in
theorem pe18_163_1 (kn : List rM) {m : Nat} (h : (rE0.1 m).cls = "PackHouseModel$Writer") : rpo (rpar kn) rE0 m 163 (1, 14, 5, .ref 19) := po1 (C := "PackHouseModel$Reader") (T := FT14) (N := 47) (ty := fy14 5) h rfl (by decide) rfl (tn8 (List.mem_of_getElem? (i := 171) rfl) rfl) (fp14 5 (by decide)) rfl (fun a => absurd a (by decide)) (fun _ b => absurd b (by decide)) (by decide)
set_option maxRecDepth 100000 in
theorem pe18_164_1 (kn : List rM) {m : Nat} (h : (rE0.1 m).cls = "PackHouseModel$Writer") : rpo (rpar kn) rE0 m 164 (1, 14, 6, .ref 19) := po1 (C := "PackHouseModel$Reader") (T := FT14) (N := 47) (ty := fy14 6) h rfl (by decide) rfl (tn8 (List.mem_of_getElem? (i := 173) rfl) rfl) (fp14 6 (by decide)) rfl (fun a => absurd a (by decide)) (fun _ b => absurd b (by decide)) (by decide)
set_option maxRecDepth 100000 in
theorem pe18_165_1 (kn : List rM) {m : Nat} (h : (rE0.1 m).cls = "PackHouseModel$Writer") : rpo (rpar kn) rE0 m 165 (1, 14, 7, .ref 19) := po1 (C := "PackHouseModel$Reader") (T := FT14) (N := 47) (ty := fy14 7) h rfl (by decide) rfl (tn8 (List.mem_of_getElem? (i := 175) rfl) rfl) (fp14 7 (by decide)) rfl (fun a => absurd a (by decide)) (fun _ b => absurd b (by decide)) (by decide)
set_option maxRecDepth 100000 in
theorem pe18_166_1 (kn : List rM) {m : Nat} (h : (rE0.1 m).cls = "PackHouseModel$Writer") : rpo (rpar kn) rE0 m 166 (1, 14, 8, .ref 19) := po1 (C := "PackHouseModel$Reader") (T := FT14) (N := 47) (ty := fy14 8) h rfl (by decide) rfl (tn8 (List.mem_of_getElem? (i := 177) rfl) rfl) (fp14 8 (by decide)) rfl (fun a => absurd a (by decide)) (fun _ b => absurd b (by decide)) (by decide)
set_option maxRecDepth 100000 in
theorem pe18_172_0 (kn : List rM) {m : Nat} (h : (rE0.1 m).cls = "PackHouseModel$Writer") : rpo (rpar kn) rE0 m 172 (0, 18, 37, .ref 0) := po0 (C := "PackHouseModel$Writer") (T := FT18) (N := 59) (ty := fy18 37) h rfl (by decide) rfl (tw9 (List.mem_of_getElem? (i := 121) rfl) rfl) (fp18 37 (by decide)) rfl (fun _ => rfl) (fun a _ => absurd a (by decide))
set_option maxRecDepth 100000 in
theorem pe18_175_11 (kn : List rM) {m : Nat} (h : (rE0.1 m).cls = "PackHouseModel$Writer") : rpo (rpar kn) rE0 m 175 (11, 0, 0, .long (255)) := po11 h (tw12 (List.mem_of_getElem? (i := 7) rfl) rfl)
set_option maxRecDepth 100000 in
theorem pe18_177_20 (kn : List rM) {m : Nat} (h : (rE0.1 m).cls = "PackHouseModel$Writer") : rpo (rpar kn) rE0 m 177 (20, 230, 1, .ref 18) := po20 h (pm230 kn) (tw12 (List.mem_of_getElem? (i := 8) rfl) rfl) (tw12 (List.mem_of_getElem? (i := 10) rfl) rfl) (pw10 (List.mem_of_getElem? (i := 1) rfl)) rfl rfl
set_option maxRecDepth 100000 in
theorem pe18_181_1 (kn : List rM) {m : Nat} (h : (rE0.1 m).cls = "PackHouseModel$Writer") : rpo (rpar kn) rE0 m 181 (1, 13, 2, .ref 19) := po1 (C := "PackHouseModel$Desk") (T := FT13) (N := 5) (ty := fy13 2) h rfl (by decide) rfl (tn8 (List.mem_of_getElem? (i := 9) rfl) rfl) (fp13 2 (by decide)) rfl (fun a => absurd a (by decide)) (fun _ b => absurd b (by decide)) (by decide)
set_option maxRecDepth 100000 in
theorem pe18_186_1 (kn : List rM) {m : Nat} (h : (rE0.1 m).cls = "PackHouseModel$Writer") : rpo (rpar kn) rE0 m 186 (1, 13, 3, .ref 0) := po1 (C := "PackHouseModel$Desk") (T := FT13) (N := 5) (ty := fy13 3) h rfl (by decide) rfl (tn8 (List.mem_of_getElem? (i := 14) rfl) rfl) (fp13 3 (by decide)) rfl (fun _ => rfl) (fun a _ => absurd a (by decide)) (by decide)
set_option maxRecDepth 100000 in
theorem pe18_189_0 (kn : List rM) {m : Nat} (h : (rE0.1 m).cls = "PackHouseModel$Writer") : rpo (rpar kn) rE0 m 189 (0, 18, 22, .ref 0) := po0 (C := "PackHouseModel$Writer") (T := FT18) (N := 59) (ty := fy18 22) h rfl (by decide) rfl (tw9 (List.mem_of_getElem? (i := 106) rfl) rfl) (fp18 22 (by decide)) rfl (fun _ => rfl) (fun a _ => absurd a (by decide))
set_option maxRecDepth 100000 in
theorem pe18_193_0 (kn : List rM) {m : Nat} (h : (rE0.1 m).cls = "PackHouseModel$Writer") : rpo (rpar kn) rE0 m 193 (0, 18, 24, .ref 0) := po0 (C := "PackHouseModel$Writer") (T := FT18) (N := 59) (ty := fy18 24) h rfl (by decide) rfl (tw9 (List.mem_of_getElem? (i := 108) rfl) rfl) (fp18 24 (by decide)) rfl (fun _ => rfl) (fun a _ => absurd a (by decide))
set_option maxRecDepth 100000 in
theorem pe18_200_0 (kn : List rM) {m : Nat} (h : (rE0.1 m).cls = "PackHouseModel$Writer") : rpo (rpar kn) rE0 m 200 (0, 18, 23, .ref 0) := po0 (C := "PackHouseModel$Writer") (T := FT18) (N := 59) (ty := fy18 23) h rfl (by decide) rfl (tw9 (List.mem_of_getElem? (i := 107) rfl) rfl) (fp18 23 (by decide)) rfl (fun _ => rfl) (fun a _ => absurd a (by decide))
set_option maxRecDepth 100000 in
theorem pe18_207_0 (kn : List rM) {m : Nat} (h : (rE0.1 m).cls = "PackHouseModel$Writer") : rpo (rpar kn) rE0 m 207 (0, 18, 28, .ref 0) := po0 (C := "PackHouseModel$Writer") (T := FT18) (N := 59) (ty := fy18 28) h rfl (by decide) rfl (tw9 (List.mem_of_getElem? (i := 112) rfl) rfl) (fp18 28 (by decide)) rfl (fun _ => rfl) (fun a _ => absurd a (by decide))
set_option maxRecDepth 100000 in
theorem pe18_210_0 (kn : List rM) {m : Nat} (h : (rE0.1 m).cls = "PackHouseModel$Writer") : rpo (rpar kn) rE0 m 210 (0, 18, 30, .ref 0) := po0 (C := "PackHouseModel$Writer") (T := FT18) (N := 59) (ty := fy18 30) h rfl (by decide) rfl (tw9 (List.mem_of_getElem? (i := 114) rfl) rfl) (fp18 30 (by decide)) rfl (fun _ => rfl) (fun a _ => absurd a (by decide))
set_option maxRecDepth 100000 in
theorem pe18_307_0 (kn : List rM) {m : Nat} (h : (rE0.1 m).cls = "PackHouseModel$Writer") : rpo (rpar kn) rE0 m 307 (0, 18, 12, .ref 0) := po0 (C := "PackHouseModel$Writer") (T := FT18) (N := 59) (ty := fy18 12) h rfl (by decide) rfl (tw9 (List.mem_of_getElem? (i := 96) rfl) rfl) (fp18 12 (by decide)) rfl (fun _ => rfl) (fun a _ => absurd a (by decide))
set_option maxRecDepth 100000 in
theorem pe18_310_20 (kn : List rM) {m : Nat} (h : (rE0.1 m).cls = "PackHouseModel$Writer") : rpo (rpar kn) rE0 m 310 (20, 235, 0, .ref 18) := po20 h (pm235 kn) (tw12 (List.mem_of_getElem? (i := 50) rfl) rfl) (tw12 (List.mem_of_getElem? (i := 52) rfl) rfl) (pw10 (List.mem_of_getElem? (i := 11) rfl)) rfl rfl
set_option maxRecDepth 100000 in
theorem pe18_314_20 (kn : List rM) {m : Nat} (h : (rE0.1 m).cls = "PackHouseModel$Writer") : rpo (rpar kn) rE0 m 314 (20, 236, 0, .ref 18) := po20 h (pm236 kn) (tw12 (List.mem_of_getElem? (i := 54) rfl) rfl) (tw12 (List.mem_of_getElem? (i := 56) rfl) rfl) (pw10 (List.mem_of_getElem? (i := 12) rfl)) rfl rfl
set_option maxRecDepth 100000 in
theorem pe18_340_20 (kn : List rM) {m : Nat} (h : (rE0.1 m).cls = "PackHouseModel$Writer") : rpo (rpar kn) rE0 m 340 (20, 231, 2, .ref 18) := po20 h (pm231 kn) (tw12 (List.mem_of_getElem? (i := 3) rfl) rfl) (tw12 (List.mem_of_getElem? (i := 5) rfl) rfl) (pw10 (List.mem_of_getElem? (i := 0) rfl)) rfl rfl
set_option maxRecDepth 100000 in
theorem pe18_381_0 (kn : List rM) {m : Nat} (h : (rE0.1 m).cls = "PackHouseModel$Writer") : rpo (rpar kn) rE0 m 381 (0, 18, 17, .ref 0) := po0 (C := "PackHouseModel$Writer") (T := FT18) (N := 59) (ty := fy18 17) h rfl (by decide) rfl (tw9 (List.mem_of_getElem? (i := 101) rfl) rfl) (fp18 17 (by decide)) rfl (fun _ => rfl) (fun a _ => absurd a (by decide))
set_option maxRecDepth 100000 in
theorem pe18_384_1 (kn : List rM) {m : Nat} (h : (rE0.1 m).cls = "PackHouseModel$Writer") : rpo (rpar kn) rE0 m 384 (1, 13, 0, .ref 19) := po1 (C := "PackHouseModel$Desk") (T := FT13) (N := 5) (ty := fy13 0) h rfl (by decide) rfl (tn8 (List.mem_of_getElem? (i := 1) rfl) rfl) (fp13 0 (by decide)) rfl (fun a => absurd a (by decide)) (fun _ b => absurd b (by decide)) (by decide)
set_option maxRecDepth 100000 in
theorem pe18_387_20 (kn : List rM) {m : Nat} (h : (rE0.1 m).cls = "PackHouseModel$Writer") : rpo (rpar kn) rE0 m 387 (20, 242, 4, .ref 18) := po20 h (pm242 kn) (tw12 (List.mem_of_getElem? (i := 21) rfl) rfl) (tw12 (List.mem_of_getElem? (i := 23) rfl) rfl) (pw10 (List.mem_of_getElem? (i := 4) rfl)) rfl rfl
set_option maxRecDepth 100000 in
theorem pe18_391_20 (kn : List rM) {m : Nat} (h : (rE0.1 m).cls = "PackHouseModel$Writer") : rpo (rpar kn) rE0 m 391 (20, 239, 0, .ref 18) := po20 h (pm239 kn) (tw12 (List.mem_of_getElem? (i := 25) rfl) rfl) (tw12 (List.mem_of_getElem? (i := 27) rfl) rfl) (pw10 (List.mem_of_getElem? (i := 5) rfl)) rfl rfl
set_option maxRecDepth 100000 in
theorem pe18_394_20 (kn : List rM) {m : Nat} (h : (rE0.1 m).cls = "PackHouseModel$Writer") : rpo (rpar kn) rE0 m 394 (20, 233, 1, .ref 18) := po20 h (pm233 kn) (tw12 (List.mem_of_getElem? (i := 29) rfl) rfl) (tw12 (List.mem_of_getElem? (i := 31) rfl) rfl) (pw10 (List.mem_of_getElem? (i := 6) rfl)) rfl rfl
set_option maxRecDepth 100000 in
theorem pe18_397_20 (kn : List rM) {m : Nat} (h : (rE0.1 m).cls = "PackHouseModel$Writer") : rpo (rpar kn) rE0 m 397 (20, 237, 0, .ref 18) := po20 h (pm237 kn) (tw12 (List.mem_of_getElem? (i := 46) rfl) rfl) (tw12 (List.mem_of_getElem? (i := 48) rfl) rfl) (pw10 (List.mem_of_getElem? (i := 10) rfl)) rfl rfl
set_option maxRecDepth 100000 in
theorem pe18_400_20 (kn : List rM) {m : Nat} (h : (rE0.1 m).cls = "PackHouseModel$Writer") : rpo (rpar kn) rE0 m 400 (20, 234, 0, .ref 18) := po20 h (pm234 kn) (tw12 (List.mem_of_getElem? (i := 163) rfl) rfl) (tw12 (List.mem_of_getElem? (i := 165) rfl) rfl) (pw12 (List.mem_of_getElem? (i := 4) rfl)) rfl rfl
set_option maxRecDepth 100000 in
theorem pe18_403_20 (kn : List rM) {m : Nat} (h : (rE0.1 m).cls = "PackHouseModel$Writer") : rpo (rpar kn) rE0 m 403 (20, 238, 0, .ref 18) := po20 h (pm238 kn) (tw12 (List.mem_of_getElem? (i := 181) rfl) rfl) (tw12 (List.mem_of_getElem? (i := 183) rfl) rfl) (pw12 (List.mem_of_getElem? (i := 7) rfl)) rfl rfl
set_option maxRecDepth 100000 in
theorem pe18_406_20 (kn : List rM) {m : Nat} (h : (rE0.1 m).cls = "PackHouseModel$Writer") : rpo (rpar kn) rE0 m 406 (20, 240, 0, .ref 18) := po20 h (pm240 kn) (tw12 (List.mem_of_getElem? (i := 237) rfl) rfl) (tw12 (List.mem_of_getElem? (i := 239) rfl) rfl) (pw13 (List.mem_of_getElem? (i := 5) rfl)) rfl rfl
set_option maxRecDepth 100000 in
theorem pe18_409_1 (kn : List rM) {m : Nat} (h : (rE0.1 m).cls = "PackHouseModel$Writer") : rpo (rpar kn) rE0 m 409 (1, 13, 1, .ref 0) := po1 (C := "PackHouseModel$Desk") (T := FT13) (N := 5) (ty := fy13 1) h rfl (by decide) rfl (tn8 (List.mem_of_getElem? (i := 6) rfl) rfl) (fp13 1 (by decide)) rfl (fun _ => rfl) (fun a _ => absurd a (by decide)) (by decide)
set_option maxRecDepth 100000 in
theorem pe18_412_11 (kn : List rM) {m : Nat} (h : (rE0.1 m).cls = "PackHouseModel$Writer") : rpo (rpar kn) rE0 m 412 (11, 0, 0, .long (4294967295)) := po11 h (tw11 (List.mem_of_getElem? (i := 239) rfl) rfl)
set_option maxRecDepth 100000 in
theorem pe18_414_11 (kn : List rM) {m : Nat} (h : (rE0.1 m).cls = "PackHouseModel$Writer") : rpo (rpar kn) rE0 m 414 (11, 0, 0, .long (256)) := po11 h (tw12 (List.mem_of_getElem? (i := 0) rfl) rfl)
set_option maxRecDepth 100000 in
theorem pe18_416_11 (kn : List rM) {m : Nat} (h : (rE0.1 m).cls = "PackHouseModel$Writer") : rpo (rpar kn) rE0 m 416 (11, 0, 0, .long (65536)) := po11 h (tw12 (List.mem_of_getElem? (i := 1) rfl) rfl)
set_option maxRecDepth 100000 in
theorem pe18_418_11 (kn : List rM) {m : Nat} (h : (rE0.1 m).cls = "PackHouseModel$Writer") : rpo (rpar kn) rE0 m 418 (11, 0, 0, .long (4247762216)) := po11 h (tw12 (List.mem_of_getElem? (i := 2) rfl) rfl)
set_option maxRecDepth 100000 in
theorem pe18_420_10 (kn : List rM) {m : Nat} (h : (rE0.1 m).cls = "PackHouseModel$Writer") : rpo (rpar kn) rE0 m 420 (10, 0, 0, .int (131072)) := po10 h (tw12 (List.mem_of_getElem? (i := 12) rfl) rfl)
set_option maxRecDepth 100000 in
theorem pe18_421_20 (kn : List rM) {m : Nat} (h : (rE0.1 m).cls = "PackHouseModel$Writer") : rpo (rpar kn) rE0 m 421 (20, 241, 0, .ref 18) := po20 h (pm241 kn) (tw12 (List.mem_of_getElem? (i := 13) rfl) rfl) (tw12 (List.mem_of_getElem? (i := 15) rfl) rfl) (pw10 (List.mem_of_getElem? (i := 2) rfl)) rfl rfl
set_option maxRecDepth 100000 in
theorem pe18_424_20 (kn : List rM) {m : Nat} (h : (rE0.1 m).cls = "PackHouseModel$Writer") : rpo (rpar kn) rE0 m 424 (20, 243, 3, .ref 18) := po20 h (pm243 kn) (tw12 (List.mem_of_getElem? (i := 17) rfl) rfl) (tw12 (List.mem_of_getElem? (i := 19) rfl) rfl) (pw10 (List.mem_of_getElem? (i := 3) rfl)) rfl rfl
set_option maxRecDepth 100000 in
theorem pe18_428_20 (kn : List rM) {m : Nat} (h : (rE0.1 m).cls = "PackHouseModel$Writer") : rpo (rpar kn) rE0 m 428 (20, 245, 0, .ref 18) := po20 h (pm245 kn) (tw13 (List.mem_of_getElem? (i := 1) rfl) rfl) (tw13 (List.mem_of_getElem? (i := 3) rfl) rfl) (pw13 (List.mem_of_getElem? (i := 6) rfl)) rfl rfl
set_option maxRecDepth 100000 in
theorem pe18_432_20 (kn : List rM) {m : Nat} (h : (rE0.1 m).cls = "PackHouseModel$Writer") : rpo (rpar kn) rE0 m 432 (20, 232, 0, .ref 18) := po20 h (pm232 kn) (tw13 (List.mem_of_getElem? (i := 17) rfl) rfl) (tw13 (List.mem_of_getElem? (i := 19) rfl) rfl) (pw13 (List.mem_of_getElem? (i := 8) rfl)) rfl rfl
set_option maxRecDepth 100000 in
theorem pe18_435_11 (kn : List rM) {m : Nat} (h : (rE0.1 m).cls = "PackHouseModel$Writer") : rpo (rpar kn) rE0 m 435 (11, 0, 0, .long (-7046029288634856825)) := po11 h (tw13 (List.mem_of_getElem? (i := 5) rfl) rfl)
set_option maxRecDepth 100000 in
theorem pe18_437_11 (kn : List rM) {m : Nat} (h : (rE0.1 m).cls = "PackHouseModel$Writer") : rpo (rpar kn) rE0 m 437 (11, 0, 0, .long (-4417276706812531889)) := po11 h (tw13 (List.mem_of_getElem? (i := 6) rfl) rfl)
set_option maxRecDepth 100000 in
theorem pe18_439_11 (kn : List rM) {m : Nat} (h : (rE0.1 m).cls = "PackHouseModel$Writer") : rpo (rpar kn) rE0 m 439 (11, 0, 0, .long (1609587929392839161)) := po11 h (tw13 (List.mem_of_getElem? (i := 7) rfl) rfl)
set_option maxRecDepth 100000 in
theorem pe18_441_11 (kn : List rM) {m : Nat} (h : (rE0.1 m).cls = "PackHouseModel$Writer") : rpo (rpar kn) rE0 m 441 (11, 0, 0, .long (-8796714831421723037)) := po11 h (tw13 (List.mem_of_getElem? (i := 8) rfl) rfl)
set_option maxRecDepth 100000 in
theorem pe18_443_11 (kn : List rM) {m : Nat} (h : (rE0.1 m).cls = "PackHouseModel$Writer") : rpo (rpar kn) rE0 m 443 (11, 0, 0, .long (2870177450012600261)) := po11 h (tw13 (List.mem_of_getElem? (i := 9) rfl) rfl)
set_option maxRecDepth 100000 in
theorem pe18_453_11 (kn : List rM) {m : Nat} (h : (rE0.1 m).cls = "PackHouseModel$Writer") : rpo (rpar kn) rE0 m 453 (11, 0, 0, .long (3962610743)) := po11 h (tw13 (List.mem_of_getElem? (i := 25) rfl) rfl)
set_option maxRecDepth 100000 in
theorem pe18_455_11 (kn : List rM) {m : Nat} (h : (rE0.1 m).cls = "PackHouseModel$Writer") : rpo (rpar kn) rE0 m 455 (11, 0, 0, .long (4)) := po11 h (tw13 (List.mem_of_getElem? (i := 26) rfl) rfl)
set_option maxRecDepth 100000 in
theorem pe18_457_11 (kn : List rM) {m : Nat} (h : (rE0.1 m).cls = "PackHouseModel$Writer") : rpo (rpar kn) rE0 m 457 (11, 0, 0, .long (8)) := po11 h (tw13 (List.mem_of_getElem? (i := 27) rfl) rfl)
set_option maxRecDepth 100000 in
theorem pl18 (kn : List rM) {m : Nat} (h : (rE0.1 m).cls = "PackHouseModel$Writer") : ∀ q ∈ pool_18, rpo (rpar kn) rE0 m q.1 q.2 := List.forall_mem_cons.mpr ⟨pe18_1_26 kn h, List.forall_mem_cons.mpr ⟨pe18_7_10 kn h, List.forall_mem_cons.mpr ⟨pe18_8_0 kn h, List.forall_mem_cons.mpr ⟨pe18_14_0 kn h, List.forall_mem_cons.mpr ⟨pe18_17_0 kn h, List.forall_mem_cons.mpr ⟨pe18_20_0 kn h, List.forall_mem_cons.mpr ⟨pe18_23_0 kn h, List.forall_mem_cons.mpr ⟨pe18_26_0 kn h, List.forall_mem_cons.mpr ⟨pe18_29_0 kn h, List.forall_mem_cons.mpr ⟨pe18_32_0 kn h, List.forall_mem_cons.mpr ⟨pe18_35_0 kn h, List.forall_mem_cons.mpr ⟨pe18_38_0 kn h, List.forall_mem_cons.mpr ⟨pe18_41_0 kn h, List.forall_mem_cons.mpr ⟨pe18_44_0 kn h, List.forall_mem_cons.mpr ⟨pe18_47_0 kn h, List.forall_mem_cons.mpr ⟨pe18_50_0 kn h, List.forall_mem_cons.mpr ⟨pe18_53_0 kn h, List.forall_mem_cons.mpr ⟨pe18_56_0 kn h, List.forall_mem_cons.mpr ⟨pe18_59_0 kn h, List.forall_mem_cons.mpr ⟨pe18_62_0 kn h, List.forall_mem_cons.mpr ⟨pe18_65_0 kn h, List.forall_mem_cons.mpr ⟨pe18_68_0 kn h, List.forall_mem_cons.mpr ⟨pe18_71_0 kn h, List.forall_mem_cons.mpr ⟨pe18_74_0 kn h, List.forall_mem_cons.mpr ⟨pe18_77_0 kn h, List.forall_mem_cons.mpr ⟨pe18_80_0 kn h, List.forall_mem_cons.mpr ⟨pe18_83_0 kn h, List.forall_mem_cons.mpr ⟨pe18_86_0 kn h, List.forall_mem_cons.mpr ⟨pe18_89_0 kn h, List.forall_mem_cons.mpr ⟨pe18_92_0 kn h, List.forall_mem_cons.mpr ⟨pe18_95_0 kn h, List.forall_mem_cons.mpr ⟨pe18_98_0 kn h, List.forall_mem_cons.mpr ⟨pe18_102_0 kn h, List.forall_mem_cons.mpr ⟨pe18_105_0 kn h, List.forall_mem_cons.mpr ⟨pe18_108_0 kn h, List.forall_mem_cons.mpr ⟨pe18_111_0 kn h, List.forall_mem_cons.mpr ⟨pe18_114_0 kn h, List.forall_mem_cons.mpr ⟨pe18_117_0 kn h, List.forall_mem_cons.mpr ⟨pe18_120_0 kn h, List.forall_mem_cons.mpr ⟨pe18_123_0 kn h, List.forall_mem_cons.mpr ⟨pe18_126_0 kn h, List.forall_mem_cons.mpr ⟨pe18_130_0 kn h, List.forall_mem_cons.mpr ⟨pe18_133_0 kn h, List.forall_mem_cons.mpr ⟨pe18_136_0 kn h, List.forall_mem_cons.mpr ⟨pe18_140_0 kn h, List.forall_mem_cons.mpr ⟨pe18_144_0 kn h, List.forall_mem_cons.mpr ⟨pe18_147_1 kn h, List.forall_mem_cons.mpr ⟨pe18_152_0 kn h, List.forall_mem_cons.mpr ⟨pe18_153_1 kn h, List.forall_mem_cons.mpr ⟨pe18_156_0 kn h, List.forall_mem_cons.mpr ⟨pe18_157_1 kn h, List.forall_mem_cons.mpr ⟨pe18_161_0 kn h, List.forall_mem_cons.mpr ⟨pe18_162_1 kn h, List.forall_mem_cons.mpr ⟨pe18_163_1 kn h, List.forall_mem_cons.mpr ⟨pe18_164_1 kn h, List.forall_mem_cons.mpr ⟨pe18_165_1 kn h, List.forall_mem_cons.mpr ⟨pe18_166_1 kn h, List.forall_mem_cons.mpr ⟨pe18_172_0 kn h, List.forall_mem_cons.mpr ⟨pe18_175_11 kn h, List.forall_mem_cons.mpr ⟨pe18_177_20 kn h, List.forall_mem_cons.mpr ⟨pe18_181_1 kn h, List.forall_mem_cons.mpr ⟨pe18_186_1 kn h, List.forall_mem_cons.mpr ⟨pe18_189_0 kn h, List.forall_mem_cons.mpr ⟨pe18_193_0 kn h, List.forall_mem_cons.mpr ⟨pe18_200_0 kn h, List.forall_mem_cons.mpr ⟨pe18_207_0 kn h, List.forall_mem_cons.mpr ⟨pe18_210_0 kn h, List.forall_mem_cons.mpr ⟨pe18_307_0 kn h, List.forall_mem_cons.mpr ⟨pe18_310_20 kn h, List.forall_mem_cons.mpr ⟨pe18_314_20 kn h, List.forall_mem_cons.mpr ⟨pe18_340_20 kn h, List.forall_mem_cons.mpr ⟨pe18_381_0 kn h, List.forall_mem_cons.mpr ⟨pe18_384_1 kn h, List.forall_mem_cons.mpr ⟨pe18_387_20 kn h, List.forall_mem_cons.mpr ⟨pe18_391_20 kn h, List.forall_mem_cons.mpr ⟨pe18_394_20 kn h, List.forall_mem_cons.mpr ⟨pe18_397_20 kn h, List.forall_mem_cons.mpr ⟨pe18_400_20 kn h, List.forall_mem_cons.mpr ⟨pe18_403_20 kn h, List.forall_mem_cons.mpr ⟨pe18_406_20 kn h, List.forall_mem_cons.mpr ⟨pe18_409_1 kn h, List.forall_mem_cons.mpr ⟨pe18_412_11 kn h, List.forall_mem_cons.mpr ⟨pe18_414_11 kn h, List.forall_mem_cons.mpr ⟨pe18_416_11 kn h, List.forall_mem_cons.mpr ⟨pe18_418_11 kn h, List.forall_mem_cons.mpr ⟨pe18_420_10 kn h, List.forall_mem_cons.mpr ⟨pe18_421_20 kn h, List.forall_mem_cons.mpr ⟨pe18_424_20 kn h, List.forall_mem_cons.mpr ⟨pe18_428_20 kn h, List.forall_mem_cons.mpr ⟨pe18_432_20 kn h, List.forall_mem_cons.mpr ⟨pe18_435_11 kn h, List.forall_mem_cons.mpr ⟨pe18_437_11 kn h, List.forall_mem_cons.mpr ⟨pe18_439_11 kn h, List.forall_mem_cons.mpr ⟨pe18_441_11 kn h, List.forall_mem_cons.mpr ⟨pe18_443_11 kn h, List.forall_mem_cons.mpr ⟨pe18_453_11 kn h, List.forall_mem_cons.mpr ⟨pe18_455_11 kn h, List.forall_mem_cons.mpr ⟨pe18_457_11 kn h, (fun _ h => absurd h List.not_mem_nil)⟩⟩⟩⟩⟩⟩⟩⟩⟩⟩⟩⟩⟩⟩⟩⟩⟩⟩⟩⟩⟩⟩⟩⟩⟩⟩⟩⟩⟩⟩⟩⟩⟩⟩⟩⟩⟩⟩⟩⟩⟩⟩⟩⟩⟩⟩⟩⟩⟩⟩⟩⟩⟩⟩⟩⟩⟩⟩⟩⟩⟩⟩⟩⟩⟩⟩⟩⟩⟩⟩⟩⟩⟩⟩⟩⟩⟩⟩⟩⟩⟩⟩⟩⟩⟩⟩⟩⟩⟩⟩⟩⟩⟩⟩⟩⟩⟩⟩
set_option maxRecDepth 100000 in
theorem pe19_7_12 (kn : List rM) {m : Nat} (h : (rE0.1 m).cls = "PackHouseLaw") : rpo (rpar kn) rE0 m 7 (12, 0, 19, .null) := po12 (T := FT0) h rfl (tw1 (List.mem_of_getElem? (i := 23) rfl) rfl) (tw1 (List.mem_of_getElem? (i := 24) rfl) rfl) (tw1 (List.mem_of_getElem? (i := 1) rfl) rfl)
set_option maxRecDepth 100000 in
theorem pe19_9_22 (kn : List rM) {m : Nat} (h : (rE0.1 m).cls = "PackHouseLaw") : rpo (rpar kn) rE0 m 9 (22, 0, 0, .ref 0) := po22 h (pm0 kn) (tw1 (List.mem_of_getElem? (i := 25) rfl) rfl) (tw1 (List.mem_of_getElem? (i := 26) rfl) rfl) rfl rfl
set_option maxRecDepth 100000 in
theorem pe19_10_12 (kn : List rM) {m : Nat} (h : (rE0.1 m).cls = "PackHouseLaw") : rpo (rpar kn) rE0 m 10 (12, 1, 13, .null) := po12 (T := FT1) h rfl (tw7 (List.mem_of_getElem? (i := 222) rfl) rfl) (tw7 (List.mem_of_getElem? (i := 223) rfl) rfl) (tw1 (List.mem_of_getElem? (i := 5) rfl) rfl)
set_option maxRecDepth 100000 in
theorem pe19_12_22 (kn : List rM) {m : Nat} (h : (rE0.1 m).cls = "PackHouseLaw") : rpo (rpar kn) rE0 m 12 (22, 50, 0, .ref 1) := po22 h (pm50 kn) (tw7 (List.mem_of_getElem? (i := 224) rfl) rfl) (tw7 (List.mem_of_getElem? (i := 225) rfl) rfl) rfl rfl
set_option maxRecDepth 100000 in
theorem pe19_13_20 (kn : List rM) {m : Nat} (h : (rE0.1 m).cls = "PackHouseLaw") : rpo (rpar kn) rE0 m 13 (20, 1, 5, .ref 0) := po20 h (pm1 kn) (tw1 (List.mem_of_getElem? (i := 194) rfl) rfl) (tw1 (List.mem_of_getElem? (i := 195) rfl) rfl) (tw1 (List.mem_of_getElem? (i := 196) rfl) rfl) rfl rfl
set_option maxRecDepth 100000 in
theorem pe19_17_20 (kn : List rM) {m : Nat} (h : (rE0.1 m).cls = "PackHouseLaw") : rpo (rpar kn) rE0 m 17 (20, 53, 5, .ref 1) := po20 h (pm53 kn) (tw10 (List.mem_of_getElem? (i := 64) rfl) rfl) (tw10 (List.mem_of_getElem? (i := 65) rfl) rfl) (tw10 (List.mem_of_getElem? (i := 66) rfl) rfl) rfl rfl
set_option maxRecDepth 100000 in
theorem pe19_18_11 (kn : List rM) {m : Nat} (h : (rE0.1 m).cls = "PackHouseLaw") : rpo (rpar kn) rE0 m 18 (11, 0, 0, .long (4294967295)) := po11 h (tw14 (List.mem_of_getElem? (i := 62) rfl) rfl)
set_option maxRecDepth 100000 in
theorem pe19_20_20 (kn : List rM) {m : Nat} (h : (rE0.1 m).cls = "PackHouseLaw") : rpo (rpar kn) rE0 m 20 (20, 2, 3, .ref 0) := po20 h (pm2 kn) (tw1 (List.mem_of_getElem? (i := 235) rfl) rfl) (tw1 (List.mem_of_getElem? (i := 236) rfl) rfl) (tw1 (List.mem_of_getElem? (i := 237) rfl) rfl) rfl rfl
set_option maxRecDepth 100000 in
theorem pe19_24_20 (kn : List rM) {m : Nat} (h : (rE0.1 m).cls = "PackHouseLaw") : rpo (rpar kn) rE0 m 24 (20, 54, 3, .ref 1) := po20 h (pm54 kn) (tw10 (List.mem_of_getElem? (i := 75) rfl) rfl) (tw10 (List.mem_of_getElem? (i := 76) rfl) rfl) (tw10 (List.mem_of_getElem? (i := 77) rfl) rfl) rfl rfl
set_option maxRecDepth 100000 in
theorem pe19_25_20 (kn : List rM) {m : Nat} (h : (rE0.1 m).cls = "PackHouseLaw") : rpo (rpar kn) rE0 m 25 (20, 3, 3, .ref 0) := po20 h (pm3 kn) (tw1 (List.mem_of_getElem? (i := 239) rfl) rfl) (tw2 (List.mem_of_getElem? (i := 0) rfl) rfl) (tw2 (List.mem_of_getElem? (i := 1) rfl) rfl) rfl rfl
set_option maxRecDepth 100000 in
theorem pe19_29_20 (kn : List rM) {m : Nat} (h : (rE0.1 m).cls = "PackHouseLaw") : rpo (rpar kn) rE0 m 29 (20, 55, 3, .ref 1) := po20 h (pm55 kn) (tw10 (List.mem_of_getElem? (i := 79) rfl) rfl) (tw10 (List.mem_of_getElem? (i := 80) rfl) rfl) (tw10 (List.mem_of_getElem? (i := 81) rfl) rfl) rfl rfl
set_option maxRecDepth 100000 in
theorem pe19_30_20 (kn : List rM) {m : Nat} (h : (rE0.1 m).cls = "PackHouseLaw") : rpo (rpar kn) rE0 m 30 (20, 4, 2, .ref 0) := po20 h (pm4 kn) (tw2 (List.mem_of_getElem? (i := 7) rfl) rfl) (tw2 (List.mem_of_getElem? (i := 8) rfl) rfl) (tw2 (List.mem_of_getElem? (i := 9) rfl) rfl) rfl rfl
set_option maxRecDepth 100000 in
theorem pe19_34_20 (kn : List rM) {m : Nat} (h : (rE0.1 m).cls = "PackHouseLaw") : rpo (rpar kn) rE0 m 34 (20, 56, 2, .ref 1) := po20 h (pm56 kn) (tw10 (List.mem_of_getElem? (i := 83) rfl) rfl) (tw10 (List.mem_of_getElem? (i := 84) rfl) rfl) (tw10 (List.mem_of_getElem? (i := 85) rfl) rfl) rfl rfl
set_option maxRecDepth 100000 in
theorem pe19_35_20 (kn : List rM) {m : Nat} (h : (rE0.1 m).cls = "PackHouseLaw") : rpo (rpar kn) rE0 m 35 (20, 5, 4, .ref 0) := po20 h (pm5 kn) (tw2 (List.mem_of_getElem? (i := 11) rfl) rfl) (tw2 (List.mem_of_getElem? (i := 12) rfl) rfl) (tw2 (List.mem_of_getElem? (i := 13) rfl) rfl) rfl rfl
set_option maxRecDepth 100000 in
theorem pe19_39_20 (kn : List rM) {m : Nat} (h : (rE0.1 m).cls = "PackHouseLaw") : rpo (rpar kn) rE0 m 39 (20, 58, 4, .ref 1) := po20 h (pm58 kn) (tw10 (List.mem_of_getElem? (i := 87) rfl) rfl) (tw10 (List.mem_of_getElem? (i := 88) rfl) rfl) (tw10 (List.mem_of_getElem? (i := 89) rfl) rfl) rfl rfl
set_option maxRecDepth 100000 in
theorem pe19_40_20 (kn : List rM) {m : Nat} (h : (rE0.1 m).cls = "PackHouseLaw") : rpo (rpar kn) rE0 m 40 (20, 6, 1, .ref 0) := po20 h (pm6 kn) (tw2 (List.mem_of_getElem? (i := 23) rfl) rfl) (tw2 (List.mem_of_getElem? (i := 24) rfl) rfl) (tw2 (List.mem_of_getElem? (i := 25) rfl) rfl) rfl rfl
set_option maxRecDepth 100000 in
theorem pe19_44_20 (kn : List rM) {m : Nat} (h : (rE0.1 m).cls = "PackHouseLaw") : rpo (rpar kn) rE0 m 44 (20, 59, 1, .ref 1) := po20 h (pm59 kn) (tw10 (List.mem_of_getElem? (i := 95) rfl) rfl) (tw10 (List.mem_of_getElem? (i := 96) rfl) rfl) (tw10 (List.mem_of_getElem? (i := 97) rfl) rfl) rfl rfl
set_option maxRecDepth 100000 in
theorem pe19_45_20 (kn : List rM) {m : Nat} (h : (rE0.1 m).cls = "PackHouseLaw") : rpo (rpar kn) rE0 m 45 (20, 7, 2, .ref 0) := po20 h (pm7 kn) (tw2 (List.mem_of_getElem? (i := 27) rfl) rfl) (tw2 (List.mem_of_getElem? (i := 28) rfl) rfl) (tw2 (List.mem_of_getElem? (i := 29) rfl) rfl) rfl rfl
set_option maxRecDepth 100000 in
theorem pe19_49_20 (kn : List rM) {m : Nat} (h : (rE0.1 m).cls = "PackHouseLaw") : rpo (rpar kn) rE0 m 49 (20, 60, 2, .ref 1) := po20 h (pm60 kn) (tw10 (List.mem_of_getElem? (i := 99) rfl) rfl) (tw10 (List.mem_of_getElem? (i := 100) rfl) rfl) (tw10 (List.mem_of_getElem? (i := 101) rfl) rfl) rfl rfl
set_option maxRecDepth 100000 in
theorem pe19_50_20 (kn : List rM) {m : Nat} (h : (rE0.1 m).cls = "PackHouseLaw") : rpo (rpar kn) rE0 m 50 (20, 8, 2, .ref 0) := po20 h (pm8 kn) (tw2 (List.mem_of_getElem? (i := 31) rfl) rfl) (tw2 (List.mem_of_getElem? (i := 32) rfl) rfl) (tw2 (List.mem_of_getElem? (i := 33) rfl) rfl) rfl rfl
set_option maxRecDepth 100000 in
theorem pe19_53_20 (kn : List rM) {m : Nat} (h : (rE0.1 m).cls = "PackHouseLaw") : rpo (rpar kn) rE0 m 53 (20, 61, 2, .ref 1) := po20 h (pm61 kn) (tw10 (List.mem_of_getElem? (i := 103) rfl) rfl) (tw10 (List.mem_of_getElem? (i := 104) rfl) rfl) (tw10 (List.mem_of_getElem? (i := 105) rfl) rfl) rfl rfl
set_option maxRecDepth 100000 in
theorem pe19_54_20 (kn : List rM) {m : Nat} (h : (rE0.1 m).cls = "PackHouseLaw") : rpo (rpar kn) rE0 m 54 (20, 9, 2, .ref 0) := po20 h (pm9 kn) (tw2 (List.mem_of_getElem? (i := 39) rfl) rfl) (tw2 (List.mem_of_getElem? (i := 40) rfl) rfl) (tw2 (List.mem_of_getElem? (i := 41) rfl) rfl) rfl rfl
set_option maxRecDepth 100000 in
theorem pe19_57_20 (kn : List rM) {m : Nat} (h : (rE0.1 m).cls = "PackHouseLaw") : rpo (rpar kn) rE0 m 57 (20, 64, 2, .ref 1) := po20 h (pm64 kn) (tw10 (List.mem_of_getElem? (i := 107) rfl) rfl) (tw10 (List.mem_of_getElem? (i := 108) rfl) rfl) (tw10 (List.mem_of_getElem? (i := 109) rfl) rfl) rfl rfl
set_option maxRecDepth 100000 in
theorem pe19_58_20 (kn : List rM) {m : Nat} (h : (rE0.1 m).cls = "PackHouseLaw") : rpo (rpar kn) rE0 m 58 (20, 10, 1, .ref 0) := po20 h (pm10 kn) (tw2 (List.mem_of_getElem? (i := 52) rfl) rfl) (tw2 (List.mem_of_getElem? (i := 53) rfl) rfl) (tw2 (List.mem_of_getElem? (i := 54) rfl) rfl) rfl rfl
set_option maxRecDepth 100000 in
theorem pe19_61_20 (kn : List rM) {m : Nat} (h : (rE0.1 m).cls = "PackHouseLaw") : rpo (rpar kn) rE0 m 61 (20, 65, 1, .ref 1) := po20 h (pm65 kn) (tw10 (List.mem_of_getElem? (i := 117) rfl) rfl) (tw10 (List.mem_of_getElem? (i := 118) rfl) rfl) (tw10 (List.mem_of_getElem? (i := 119) rfl) rfl) rfl rfl
set_option maxRecDepth 100000 in
theorem pe19_62_20 (kn : List rM) {m : Nat} (h : (rE0.1 m).cls = "PackHouseLaw") : rpo (rpar kn) rE0 m 62 (20, 11, 4, .ref 0) := po20 h (pm11 kn) (tw2 (List.mem_of_getElem? (i := 56) rfl) rfl) (tw2 (List.mem_of_getElem? (i := 57) rfl) rfl) (tw2 (List.mem_of_getElem? (i := 58) rfl) rfl) rfl rfl
set_option maxRecDepth 100000 in
theorem pe19_66_20 (kn : List rM) {m : Nat} (h : (rE0.1 m).cls = "PackHouseLaw") : rpo (rpar kn) rE0 m 66 (20, 66, 4, .ref 1) := po20 h (pm66 kn) (tw10 (List.mem_of_getElem? (i := 121) rfl) rfl) (tw10 (List.mem_of_getElem? (i := 122) rfl) rfl) (tw10 (List.mem_of_getElem? (i := 123) rfl) rfl) rfl rfl
set_option maxRecDepth 100000 in
theorem pe19_67_20 (kn : List rM) {m : Nat} (h : (rE0.1 m).cls = "PackHouseLaw") : rpo (rpar kn) rE0 m 67 (20, 12, 4, .ref 0) := po20 h (pm12 kn) (tw2 (List.mem_of_getElem? (i := 77) rfl) rfl) (tw2 (List.mem_of_getElem? (i := 78) rfl) rfl) (tw2 (List.mem_of_getElem? (i := 79) rfl) rfl) rfl rfl
set_option maxRecDepth 100000 in
theorem pe19_71_20 (kn : List rM) {m : Nat} (h : (rE0.1 m).cls = "PackHouseLaw") : rpo (rpar kn) rE0 m 71 (20, 67, 4, .ref 1) := po20 h (pm67 kn) (tw10 (List.mem_of_getElem? (i := 153) rfl) rfl) (tw10 (List.mem_of_getElem? (i := 154) rfl) rfl) (tw10 (List.mem_of_getElem? (i := 155) rfl) rfl) rfl rfl
set_option maxRecDepth 100000 in
theorem pe19_72_20 (kn : List rM) {m : Nat} (h : (rE0.1 m).cls = "PackHouseLaw") : rpo (rpar kn) rE0 m 72 (20, 13, 4, .ref 0) := po20 h (pm13 kn) (tw2 (List.mem_of_getElem? (i := 101) rfl) rfl) (tw2 (List.mem_of_getElem? (i := 102) rfl) rfl) (tw2 (List.mem_of_getElem? (i := 103) rfl) rfl) rfl rfl
set_option maxRecDepth 100000 in
theorem pe19_76_20 (kn : List rM) {m : Nat} (h : (rE0.1 m).cls = "PackHouseLaw") : rpo (rpar kn) rE0 m 76 (20, 68, 4, .ref 1) := po20 h (pm68 kn) (tw10 (List.mem_of_getElem? (i := 180) rfl) rfl) (tw10 (List.mem_of_getElem? (i := 181) rfl) rfl) (tw10 (List.mem_of_getElem? (i := 182) rfl) rfl) rfl rfl
set_option maxRecDepth 100000 in
theorem pe19_77_20 (kn : List rM) {m : Nat} (h : (rE0.1 m).cls = "PackHouseLaw") : rpo (rpar kn) rE0 m 77 (20, 14, 1, .ref 0) := po20 h (pm14 kn) (tw2 (List.mem_of_getElem? (i := 114) rfl) rfl) (tw2 (List.mem_of_getElem? (i := 115) rfl) rfl) (tw2 (List.mem_of_getElem? (i := 116) rfl) rfl) rfl rfl
set_option maxRecDepth 100000 in
theorem pe19_81_20 (kn : List rM) {m : Nat} (h : (rE0.1 m).cls = "PackHouseLaw") : rpo (rpar kn) rE0 m 81 (20, 71, 1, .ref 1) := po20 h (pm71 kn) (tw10 (List.mem_of_getElem? (i := 200) rfl) rfl) (tw10 (List.mem_of_getElem? (i := 201) rfl) rfl) (tw10 (List.mem_of_getElem? (i := 202) rfl) rfl) rfl rfl
set_option maxRecDepth 100000 in
theorem pe19_82_20 (kn : List rM) {m : Nat} (h : (rE0.1 m).cls = "PackHouseLaw") : rpo (rpar kn) rE0 m 82 (20, 15, 1, .ref 0) := po20 h (pm15 kn) (tw2 (List.mem_of_getElem? (i := 127) rfl) rfl) (tw2 (List.mem_of_getElem? (i := 128) rfl) rfl) (tw2 (List.mem_of_getElem? (i := 129) rfl) rfl) rfl rfl
set_option maxRecDepth 100000 in
theorem pe19_85_20 (kn : List rM) {m : Nat} (h : (rE0.1 m).cls = "PackHouseLaw") : rpo (rpar kn) rE0 m 85 (20, 72, 1, .ref 1) := po20 h (pm72 kn) (tw10 (List.mem_of_getElem? (i := 212) rfl) rfl) (tw10 (List.mem_of_getElem? (i := 213) rfl) rfl) (tw10 (List.mem_of_getElem? (i := 214) rfl) rfl) rfl rfl
set_option maxRecDepth 100000 in
theorem pe19_86_20 (kn : List rM) {m : Nat} (h : (rE0.1 m).cls = "PackHouseLaw") : rpo (rpar kn) rE0 m 86 (20, 16, 1, .ref 0) := po20 h (pm16 kn) (tw3 (List.mem_of_getElem? (i := 125) rfl) rfl) (tw3 (List.mem_of_getElem? (i := 126) rfl) rfl) (tw3 (List.mem_of_getElem? (i := 127) rfl) rfl) rfl rfl
set_option maxRecDepth 100000 in
theorem pe19_89_20 (kn : List rM) {m : Nat} (h : (rE0.1 m).cls = "PackHouseLaw") : rpo (rpar kn) rE0 m 89 (20, 73, 1, .ref 1) := po20 h (pm73 kn) (tw11 (List.mem_of_getElem? (i := 43) rfl) rfl) (tw11 (List.mem_of_getElem? (i := 44) rfl) rfl) (tw11 (List.mem_of_getElem? (i := 45) rfl) rfl) rfl rfl
set_option maxRecDepth 100000 in
theorem pe19_90_20 (kn : List rM) {m : Nat} (h : (rE0.1 m).cls = "PackHouseLaw") : rpo (rpar kn) rE0 m 90 (20, 17, 3, .ref 0) := po20 h (pm17 kn) (tw3 (List.mem_of_getElem? (i := 131) rfl) rfl) (tw3 (List.mem_of_getElem? (i := 132) rfl) rfl) (tw3 (List.mem_of_getElem? (i := 133) rfl) rfl) rfl rfl
set_option maxRecDepth 100000 in
theorem pe19_94_20 (kn : List rM) {m : Nat} (h : (rE0.1 m).cls = "PackHouseLaw") : rpo (rpar kn) rE0 m 94 (20, 76, 3, .ref 1) := po20 h (pm76 kn) (tw11 (List.mem_of_getElem? (i := 55) rfl) rfl) (tw11 (List.mem_of_getElem? (i := 56) rfl) rfl) (tw11 (List.mem_of_getElem? (i := 57) rfl) rfl) rfl rfl
set_option maxRecDepth 100000 in
theorem pe19_95_20 (kn : List rM) {m : Nat} (h : (rE0.1 m).cls = "PackHouseLaw") : rpo (rpar kn) rE0 m 95 (20, 18, 4, .ref 0) := po20 h (pm18 kn) (tw7 (List.mem_of_getElem? (i := 188) rfl) rfl) (tw7 (List.mem_of_getElem? (i := 189) rfl) rfl) (tw7 (List.mem_of_getElem? (i := 190) rfl) rfl) rfl rfl
set_option maxRecDepth 100000 in
theorem pe19_98_20 (kn : List rM) {m : Nat} (h : (rE0.1 m).cls = "PackHouseLaw") : rpo (rpar kn) rE0 m 98 (20, 80, 4, .ref 1) := po20 h (pm80 kn) (tw14 (List.mem_of_getElem? (i := 35) rfl) rfl) (tw14 (List.mem_of_getElem? (i := 36) rfl) rfl) (tw14 (List.mem_of_getElem? (i := 37) rfl) rfl) rfl rfl
set_option maxRecDepth 100000 in
theorem pe19_99_20 (kn : List rM) {m : Nat} (h : (rE0.1 m).cls = "PackHouseLaw") : rpo (rpar kn) rE0 m 99 (20, 19, 1, .ref 0) := po20 h (pm19 kn) (tw7 (List.mem_of_getElem? (i := 196) rfl) rfl) (tw7 (List.mem_of_getElem? (i := 197) rfl) rfl) (tw7 (List.mem_of_getElem? (i := 198) rfl) rfl) rfl rfl
set_option maxRecDepth 100000 in
theorem pe19_102_20 (kn : List rM) {m : Nat} (h : (rE0.1 m).cls = "PackHouseLaw") : rpo (rpar kn) rE0 m 102 (20, 82, 1, .ref 1) := po20 h (pm82 kn) (tw14 (List.mem_of_getElem? (i := 39) rfl) rfl) (tw14 (List.mem_of_getElem? (i := 40) rfl) rfl) (tw14 (List.mem_of_getElem? (i := 41) rfl) rfl) rfl rfl
set_option maxRecDepth 100000 in
theorem pe19_103_20 (kn : List rM) {m : Nat} (h : (rE0.1 m).cls = "PackHouseLaw") : rpo (rpar kn) rE0 m 103 (20, 20, 3, .ref 0) := po20 h (pm20 kn) (tw7 (List.mem_of_getElem? (i := 206) rfl) rfl) (tw7 (List.mem_of_getElem? (i := 207) rfl) rfl) (tw7 (List.mem_of_getElem? (i := 208) rfl) rfl) rfl rfl
set_option maxRecDepth 100000 in
theorem pe19_106_20 (kn : List rM) {m : Nat} (h : (rE0.1 m).cls = "PackHouseLaw") : rpo (rpar kn) rE0 m 106 (20, 83, 3, .ref 1) := po20 h (pm83 kn) (tw14 (List.mem_of_getElem? (i := 47) rfl) rfl) (tw14 (List.mem_of_getElem? (i := 48) rfl) rfl) (tw14 (List.mem_of_getElem? (i := 49) rfl) rfl) rfl rfl
set_option maxRecDepth 100000 in
theorem pe19_107_20 (kn : List rM) {m : Nat} (h : (rE0.1 m).cls = "PackHouseLaw") : rpo (rpar kn) rE0 m 107 (20, 21, 2, .ref 0) := po20 h (pm21 kn) (tw7 (List.mem_of_getElem? (i := 210) rfl) rfl) (tw7 (List.mem_of_getElem? (i := 211) rfl) rfl) (tw7 (List.mem_of_getElem? (i := 212) rfl) rfl) rfl rfl
set_option maxRecDepth 100000 in
theorem pe19_110_20 (kn : List rM) {m : Nat} (h : (rE0.1 m).cls = "PackHouseLaw") : rpo (rpar kn) rE0 m 110 (20, 84, 2, .ref 1) := po20 h (pm84 kn) (tw14 (List.mem_of_getElem? (i := 53) rfl) rfl) (tw11 (List.mem_of_getElem? (i := 64) rfl) rfl) (tw11 (List.mem_of_getElem? (i := 65) rfl) rfl) rfl rfl
set_option maxRecDepth 100000 in
theorem pe19_111_20 (kn : List rM) {m : Nat} (h : (rE0.1 m).cls = "PackHouseLaw") : rpo (rpar kn) rE0 m 111 (20, 22, 1, .ref 0) := po20 h (pm22 kn) (tw7 (List.mem_of_getElem? (i := 214) rfl) rfl) (tw7 (List.mem_of_getElem? (i := 215) rfl) rfl) (tw7 (List.mem_of_getElem? (i := 216) rfl) rfl) rfl rfl
set_option maxRecDepth 100000 in
theorem pe19_114_20 (kn : List rM) {m : Nat} (h : (rE0.1 m).cls = "PackHouseLaw") : rpo (rpar kn) rE0 m 114 (20, 85, 1, .ref 1) := po20 h (pm85 kn) (tw14 (List.mem_of_getElem? (i := 54) rfl) rfl) (tw14 (List.mem_of_getElem? (i := 55) rfl) rfl) (tw14 (List.mem_of_getElem? (i := 56) rfl) rfl) rfl rfl
set_option maxRecDepth 100000 in
theorem pe19_115_20 (kn : List rM) {m : Nat} (h : (rE0.1 m).cls = "PackHouseLaw") : rpo (rpar kn) rE0 m 115 (20, 23, 1, .ref 0) := po20 h (pm23 kn) (tw7 (List.mem_of_getElem? (i := 218) rfl) rfl) (tw7 (List.mem_of_getElem? (i := 219) rfl) rfl) (tw7 (List.mem_of_getElem? (i := 220) rfl) rfl) rfl rfl
set_option maxRecDepth 100000 in
theorem pe19_118_20 (kn : List rM) {m : Nat} (h : (rE0.1 m).cls = "PackHouseLaw") : rpo (rpar kn) rE0 m 118 (20, 86, 1, .ref 1) := po20 h (pm86 kn) (tw14 (List.mem_of_getElem? (i := 58) rfl) rfl) (tw14 (List.mem_of_getElem? (i := 59) rfl) rfl) (tw14 (List.mem_of_getElem? (i := 60) rfl) rfl) rfl rfl
set_option maxRecDepth 100000 in
theorem pl19 (kn : List rM) {m : Nat} (h : (rE0.1 m).cls = "PackHouseLaw") : ∀ q ∈ pool_19, rpo (rpar kn) rE0 m q.1 q.2 := List.forall_mem_cons.mpr ⟨pe19_7_12 kn h, List.forall_mem_cons.mpr ⟨pe19_9_22 kn h, List.forall_mem_cons.mpr ⟨pe19_10_12 kn h, List.forall_mem_cons.mpr ⟨pe19_12_22 kn h, List.forall_mem_cons.mpr ⟨pe19_13_20 kn h, List.forall_mem_cons.mpr ⟨pe19_17_20 kn h, List.forall_mem_cons.mpr ⟨pe19_18_11 kn h, List.forall_mem_cons.mpr ⟨pe19_20_20 kn h, List.forall_mem_cons.mpr ⟨pe19_24_20 kn h, List.forall_mem_cons.mpr ⟨pe19_25_20 kn h, List.forall_mem_cons.mpr ⟨pe19_29_20 kn h, List.forall_mem_cons.mpr ⟨pe19_30_20 kn h, List.forall_mem_cons.mpr ⟨pe19_34_20 kn h, List.forall_mem_cons.mpr ⟨pe19_35_20 kn h, List.forall_mem_cons.mpr ⟨pe19_39_20 kn h, List.forall_mem_cons.mpr ⟨pe19_40_20 kn h, List.forall_mem_cons.mpr ⟨pe19_44_20 kn h, List.forall_mem_cons.mpr ⟨pe19_45_20 kn h, List.forall_mem_cons.mpr ⟨pe19_49_20 kn h, List.forall_mem_cons.mpr ⟨pe19_50_20 kn h, List.forall_mem_cons.mpr ⟨pe19_53_20 kn h, List.forall_mem_cons.mpr ⟨pe19_54_20 kn h, List.forall_mem_cons.mpr ⟨pe19_57_20 kn h, List.forall_mem_cons.mpr ⟨pe19_58_20 kn h, List.forall_mem_cons.mpr ⟨pe19_61_20 kn h, List.forall_mem_cons.mpr ⟨pe19_62_20 kn h, List.forall_mem_cons.mpr ⟨pe19_66_20 kn h, List.forall_mem_cons.mpr ⟨pe19_67_20 kn h, List.forall_mem_cons.mpr ⟨pe19_71_20 kn h, List.forall_mem_cons.mpr ⟨pe19_72_20 kn h, List.forall_mem_cons.mpr ⟨pe19_76_20 kn h, List.forall_mem_cons.mpr ⟨pe19_77_20 kn h, List.forall_mem_cons.mpr ⟨pe19_81_20 kn h, List.forall_mem_cons.mpr ⟨pe19_82_20 kn h, List.forall_mem_cons.mpr ⟨pe19_85_20 kn h, List.forall_mem_cons.mpr ⟨pe19_86_20 kn h, List.forall_mem_cons.mpr ⟨pe19_89_20 kn h, List.forall_mem_cons.mpr ⟨pe19_90_20 kn h, List.forall_mem_cons.mpr ⟨pe19_94_20 kn h, List.forall_mem_cons.mpr ⟨pe19_95_20 kn h, List.forall_mem_cons.mpr ⟨pe19_98_20 kn h, List.forall_mem_cons.mpr ⟨pe19_99_20 kn h, List.forall_mem_cons.mpr ⟨pe19_102_20 kn h, List.forall_mem_cons.mpr ⟨pe19_103_20 kn h, List.forall_mem_cons.mpr ⟨pe19_106_20 kn h, List.forall_mem_cons.mpr ⟨pe19_107_20 kn h, List.forall_mem_cons.mpr ⟨pe19_110_20 kn h, List.forall_mem_cons.mpr ⟨pe19_111_20 kn h, List.forall_mem_cons.mpr ⟨pe19_114_20 kn h, List.forall_mem_cons.mpr ⟨pe19_115_20 kn h, List.forall_mem_cons.mpr ⟨pe19_118_20 kn h, (fun _ h => absurd h List.not_mem_nil)⟩⟩⟩⟩⟩⟩⟩⟩⟩⟩⟩⟩⟩⟩⟩⟩⟩⟩⟩⟩⟩⟩⟩⟩⟩⟩⟩⟩⟩⟩⟩⟩⟩⟩⟩⟩⟩⟩⟩⟩⟩⟩⟩⟩⟩⟩⟩⟩⟩⟩⟩
set_option maxRecDepth 100000 in
theorem pe20_150_27 (kn : List rM) {m : Nat} (h : (rE0.1 m).cls = "java/util/Arrays") : rpo (rpar kn) rE0 m 150 (27, 0, 0, .null) := po27 h (tw1 (List.mem_of_getElem? (i := 223) rfl) rfl)
set_option maxRecDepth 100000 in
theorem pe20_304_30 (kn : List rM) {m : Nat} (h : (rE0.1 m).cls = "java/util/Arrays") : rpo (rpar kn) rE0 m 304 (30, 0, 0, .null) := po30 h (tw1 (List.mem_of_getElem? (i := 222) rfl) rfl)
set_option maxRecDepth 100000 in
theorem pl20 (kn : List rM) {m : Nat} (h : (rE0.1 m).cls = "java/util/Arrays") : ∀ q ∈ pool_20, rpo (rpar kn) rE0 m q.1 q.2 := List.forall_mem_cons.mpr ⟨pe20_150_27 kn h, List.forall_mem_cons.mpr ⟨pe20_304_30 kn h, (fun _ h => absurd h List.not_mem_nil)⟩⟩
theorem plist_ok (kn : List rM) {m : Nat} : ∀ c : Nat, (rE0.1 m).cls = cname c → ∀ q ∈ plist c, rpo (rpar kn) rE0 m q.1 q.2
  | 0, h => pl0 kn h
  | 1, h => pl1 kn h
  | 2, h => pl2 kn h
  | 3, h => pl3 kn h
  | 4, h => pl4 kn h
  | 5, h => pl5 kn h
  | 6, h => pl6 kn h
  | 7, h => pl7 kn h
  | 8, h => pl8 kn h
  | 9, h => pl9 kn h
  | 10, h => pl10 kn h
  | 11, h => pl11 kn h
  | 12, h => pl12 kn h
  | 13, h => pl13 kn h
  | 14, h => pl14 kn h
  | 15, h => pl15 kn h
  | 16, h => pl16 kn h
  | 17, h => pl17 kn h
  | 18, h => pl18 kn h
  | 19, h => pl19 kn h
  | 20, h => pl20 kn h
  | _ + 21, _ => fun _ h => absurd h List.not_mem_nil
theorem rpool_ok (kn : List rM) {m : Nat} {q : Nat × rA} (hq : q ∈ rpool m) : rpo (rpar kn) rE0 m q.1 q.2 := by
  unfold rpool at hq
  cases hb : Nat.blt m 249 with
  | false => rw [hb] at hq; exact absurd hq List.not_mem_nil
  | true =>
    rw [hb] at hq
    exact plist_ok kn (rcid m) (rcname m (Nat.le_of_ble_eq_true hb)) q hq
