/-! the pool's entries, a row a kind -/
section PO
variable {P : rP} {E : rE} {m idx : Nat} {own : String}
theorem po0 {ci kf tag : Nat} {C : String} {T : u_T} {N : Nat} {ty : FieldType} {r n d : String} {fin : Bool} (hc : (E.1 m).cls = own) (h1 : E.2.2.2.2.1[ci]? = some (C, T, N)) (h2 : kf < N) (hT : T kf = (r, n, d, fin)) (h4 : Jvm.Cond.fieldLink own idx r n d ∈ E.2.2.2.2.2.1) (h5 : parseFieldDescriptor (T kf).2.2.1 = some ty) (h6 : rtag ty = tag % 8) (h7 : tag < 8 → fin = false) (h8 : 8 ≤ tag → tag < 16 → fin = true ∧ r = own) : rpo P E m idx (0, ci, kf, .ref tag) := by
  refine ⟨C, T, N, _, tag, ty, h1, h2, rfl, ?_, rfl, h5, h6, ?_, ?_⟩
  · show Jvm.Cond.fieldLink (E.1 m).cls idx (T kf).1 (T kf).2.1 (T kf).2.2.1 ∈ _
    rw [hc, hT]; exact h4
  · show tag < 8 → (T kf).2.2.2 = false
    rw [hT]; exact h7
  · show 8 ≤ tag → tag < 16 → (T kf).2.2.2 = true ∧ (T kf).1 = (E.1 m).cls
    rw [hT, hc]; exact h8
theorem po1 {ci kf tag : Nat} {C host : String} {T : u_T} {N : Nat} {ty : FieldType} {r n d : String} {fin : Bool} (hc : (E.1 m).cls = own) (h1 : E.2.2.2.2.1[ci]? = some (C, T, N)) (h2 : kf < N) (hT : T kf = (r, n, d, fin)) (h4 : Jvm.Cond.fieldLinkNest own idx r n d host ∈ E.2.2.2.2.2.2.2.2.2) (h5 : parseFieldDescriptor (T kf).2.2.1 = some ty) (h6 : rtag ty = tag % 8) (h7 : tag < 8 → fin = false) (h8 : 8 ≤ tag → tag < 16 → fin = true ∧ r = own) (h9 : tag < 8 ∨ 16 ≤ tag) : rpo P E m idx (1, ci, kf, .ref tag) := by
  refine ⟨⟨C, T, N, _, tag, ty, h1, h2, ⟨host, rfl⟩, ?_, rfl, h5, h6, ?_, ?_⟩, fun tag' e => by cases e; exact h9⟩
  · show Jvm.Cond.fieldLinkNest (E.1 m).cls idx (T kf).1 (T kf).2.1 (T kf).2.2.1 host ∈ _
    rw [hc, hT]; exact h4
  · show tag < 8 → (T kf).2.2.2 = false
    rw [hT]; exact h7
  · show 8 ≤ tag → tag < 16 → (T kf).2.2.2 = true ∧ (T kf).1 = (E.1 m).cls
    rw [hT, hc]; exact h8
theorem po10 {v : Int32} (hc : (E.1 m).cls = own) (h : Jvm.Cond.constant own idx v ∈ E.2.2.2.2.2.1) : rpo P E m idx (10, 0, 0, .int v) := ⟨v, rfl, by rw [hc]; exact h⟩
theorem po11 {v : Int64} (hc : (E.1 m).cls = own) (h : Jvm.Cond.constantLong own idx v ∈ E.2.2.2.2.2.1) : rpo P E m idx (11, 0, 0, .long v) := ⟨v, rfl, by rw [hc]; exact h⟩
theorem po12 {ci N : Nat} {C : String} {T : u_T} {v : Value} (hc : (E.1 m).cls = own) (h1 : E.2.2.2.2.1[ci]? = some (C, T, N)) (h2 : Jvm.Cond.classLink own idx C ∈ E.2.2.2.2.2.1) (h3 : Jvm.Cond.instantiable C N ∈ E.2.2.2.2.2.1) (h4 : Jvm.Cond.initialized C ∈ E.2.2.2.2.2.1) : rpo P E m idx (12, ci, N, v) := ⟨C, T, h1, by rw [hc]; exact h2, h3, h4⟩
theorem po13 {t z : Nat} {C : String} {v : Value} (hc : (E.1 m).cls = own) (h1 : E.2.2.2.2.2.2.1 t = .object C) (h2 : Jvm.Cond.classLink own idx C ∈ E.2.2.2.2.2.1) (h3 : Jvm.Cond.arrayOver (.object C) ∈ E.2.2.2.2.2.2.2.2.2) : rpo P E m idx (13, t, z, v) := ⟨C, h1, by rw [hc]; exact h2, h3⟩
theorem po14 {j z : Nat} {v : Value} (hc : (E.1 m).cls = own) (h1 : j < E.2.2.2.2.2.2.2.2.1) (h2 : Jvm.Cond.fieldLink own idx (E.2.2.2.2.2.2.2.1 j).1 (E.2.2.2.2.2.2.2.1 j).2.1 (E.2.2.2.2.2.2.2.1 j).2.2 ∈ E.2.2.2.2.2.1) : rpo P E m idx (14, j, z, v) := ⟨h1, by rw [hc]; exact h2⟩
theorem po15 {j z : Nat} {v : Value} {host : String} (hc : (E.1 m).cls = own) (h1 : j < E.2.2.2.2.2.2.2.2.1) (h2 : Jvm.Cond.fieldLinkNest own idx (E.2.2.2.2.2.2.2.1 j).1 (E.2.2.2.2.2.2.2.1 j).2.1 (E.2.2.2.2.2.2.2.1 j).2.2 host ∈ E.2.2.2.2.2.2.2.2.2) : rpo P E m idx (15, j, z, v) := ⟨h1, host, by rw [hc]; exact h2⟩
theorem po16 {a b : Nat} {v : Value} (hc : (E.1 m).cls = own) (h : Jvm.Cond.classLink own idx "[[I" ∈ E.2.2.2.2.2.1) : rpo P E m idx (16, a, b, v) := by
  show Jvm.Cond.classLink (E.1 m).cls idx _ ∈ _
  rw [hc]; exact h
theorem po20 {j n ci : Nat} {q : vw_C} (hc : (E.1 m).cls = own) (hM : rpoM P E j n) (h1 : Jvm.Cond.methodLink own idx (E.1 j) ∈ E.2.2.2.2.2.1) (h2 : Jvm.Cond.instanceMethod (E.1 j) ∈ E.2.2.2.2.2.1) (h3 : Jvm.Cond.selects (E.1 j).cls (E.1 j) (E.1 j) ∈ E.2.2.2.2.2.1) (h4 : E.2.2.2.2.1[ci]? = some q) (h5 : q.1 = (E.1 j).cls) : rpo P E m idx (20, j, n, .ref ci) := ⟨hM, by rw [hc]; exact h1, h2, h3, ci, q, rfl, h4, h5⟩
theorem po21 {j n ci : Nat} {q : vw_C} {host : String} (hc : (E.1 m).cls = own) (hM : rpoM P E j n) (h1 : Jvm.Cond.methodLinkNest own idx (E.1 j) host ∈ E.2.2.2.2.2.2.2.2.2) (h2 : Jvm.Cond.instanceMethod (E.1 j) ∈ E.2.2.2.2.2.1) (h3 : Jvm.Cond.selects (E.1 j).cls (E.1 j) (E.1 j) ∈ E.2.2.2.2.2.1) (h4 : E.2.2.2.2.1[ci]? = some q) (h5 : q.1 = (E.1 j).cls) : rpo P E m idx (21, j, n, .ref ci) := ⟨hM, ⟨host, by rw [hc]; exact h1⟩, h2, h3, ci, q, rfl, h4, h5⟩
theorem po22 {j n : Nat} {v : Value} (hc : (E.1 m).cls = own) (hM : rpoM P E j n) (h1 : Jvm.Cond.methodLink own idx (E.1 j) ∈ E.2.2.2.2.2.1) (h2 : Jvm.Cond.instanceMethod (E.1 j) ∈ E.2.2.2.2.2.1) (h3 : (E.1 j).name = "<init>") (h4 : E.2.2.1 j = none) : rpo P E m idx (22, j, n, v) := ⟨hM, by rw [hc]; exact h1, h2, h3, h4⟩
theorem po23 {j n : Nat} {v : Value} {host : String} (hc : (E.1 m).cls = own) (hM : rpoM P E j n) (h1 : Jvm.Cond.methodLinkNest own idx (E.1 j) host ∈ E.2.2.2.2.2.2.2.2.2) (h2 : Jvm.Cond.instanceMethod (E.1 j) ∈ E.2.2.2.2.2.1) (h3 : (E.1 j).name = "<init>") (h4 : E.2.2.1 j = none) : rpo P E m idx (23, j, n, v) := ⟨hM, ⟨host, by rw [hc]; exact h1⟩, h2, h3, h4⟩
theorem po24 {j n : Nat} {v : Value} (hc : (E.1 m).cls = own) (hM : rpoM P E j n) (h1 : Jvm.Cond.methodLink own idx (E.1 j) ∈ E.2.2.2.2.2.1) (h2 : Jvm.Cond.static (E.1 j) ∈ E.2.2.2.2.2.1) : rpo P E m idx (24, j, n, v) := ⟨hM, by rw [hc]; exact h1, h2⟩
theorem po25 {j n : Nat} {v : Value} {host : String} (hc : (E.1 m).cls = own) (hM : rpoM P E j n) (h1 : Jvm.Cond.methodLinkNest own idx (E.1 j) host ∈ E.2.2.2.2.2.2.2.2.2) (h2 : Jvm.Cond.static (E.1 j) ∈ E.2.2.2.2.2.1) : rpo P E m idx (25, j, n, v) := ⟨hM, ⟨host, by rw [hc]; exact h1⟩, h2⟩
theorem po26 {a b : Nat} {v : Value} (hc : (E.1 m).cls = own) (h : Jvm.Cond.methodLink own idx Lib.objectInit ∈ E.2.2.2.2.2.1) : rpo P E m idx (26, a, b, v) := by
  show Jvm.Cond.methodLink (E.1 m).cls idx Lib.objectInit ∈ _
  rw [hc]; exact h
theorem po27 {a b : Nat} {v : Value} (hc : (E.1 m).cls = own) (h : Jvm.Cond.methodLink own idx arraycopyName ∈ E.2.2.2.2.2.1) : rpo P E m idx (27, a, b, v) := by
  show Jvm.Cond.methodLink (E.1 m).cls idx arraycopyName ∈ _
  rw [hc]; exact h
theorem po28 {a b : Nat} {v : Value} (hc : (E.1 m).cls = own) (h : Jvm.Cond.methodLink own idx ⟨"java/util/Arrays", "fill", "([II)V"⟩ ∈ E.2.2.2.2.2.1) : rpo P E m idx (28, a, b, v) := by
  show Jvm.Cond.methodLink (E.1 m).cls idx _ ∈ _
  rw [hc]; exact h
theorem po29 {a b : Nat} {v : Value} (hc : (E.1 m).cls = own) (h : Jvm.Cond.methodLink own idx Lib.Math.max.name ∈ E.2.2.2.2.2.1) : rpo P E m idx (29, a, b, v) := by
  show Jvm.Cond.methodLink (E.1 m).cls idx _ ∈ _
  rw [hc]; exact h
theorem po30 {a b : Nat} {v : Value} (hc : (E.1 m).cls = own) (h : Jvm.Cond.methodLink own idx Lib.Math.min.name ∈ E.2.2.2.2.2.1) : rpo P E m idx (30, a, b, v) := by
  show Jvm.Cond.methodLink (E.1 m).cls idx _ ∈ _
  rw [hc]; exact h
end PO

set_option maxRecDepth 100000 in
theorem pm0 (kn : List rM) : rpoM (rpar kn) rE0 0 0 := ⟨tw1 (List.mem_of_getElem? (i := 1) rfl) rfl, tw1 (List.mem_of_getElem? (i := 27) rfl) rfl, ⟨by decide +kernel, by decide +kernel, by decide +kernel⟩, (by decide +kernel : rmaxl 0 ≤ 31), by decide +kernel, (Or.inl ⟨rfl, rfl⟩), (fun _ => rfl)⟩
set_option maxRecDepth 100000 in
theorem pm1 (kn : List rM) : rpoM (rpar kn) rE0 1 5 := ⟨tw1 (List.mem_of_getElem? (i := 1) rfl) rfl, tw1 (List.mem_of_getElem? (i := 197) rfl) rfl, ⟨by decide +kernel, by decide +kernel, by decide +kernel⟩, (by decide +kernel : rmaxl 1 ≤ 31), by decide +kernel, (Or.inr ⟨.boolean, rfl, rfl⟩), (fun h => absurd (show rinit 1 = true from h) (by decide +kernel))⟩
set_option maxRecDepth 100000 in
theorem pm2 (kn : List rM) : rpoM (rpar kn) rE0 2 3 := ⟨tw1 (List.mem_of_getElem? (i := 1) rfl) rfl, tw1 (List.mem_of_getElem? (i := 238) rfl) rfl, ⟨by decide +kernel, by decide +kernel, by decide +kernel⟩, (by decide +kernel : rmaxl 2 ≤ 31), by decide +kernel, (Or.inr ⟨.boolean, rfl, rfl⟩), (fun h => absurd (show rinit 2 = true from h) (by decide +kernel))⟩
set_option maxRecDepth 100000 in
theorem pm3 (kn : List rM) : rpoM (rpar kn) rE0 3 3 := ⟨tw1 (List.mem_of_getElem? (i := 1) rfl) rfl, tw2 (List.mem_of_getElem? (i := 2) rfl) rfl, ⟨by decide +kernel, by decide +kernel, by decide +kernel⟩, (by decide +kernel : rmaxl 3 ≤ 31), by decide +kernel, (Or.inr ⟨.boolean, rfl, rfl⟩), (fun h => absurd (show rinit 3 = true from h) (by decide +kernel))⟩
set_option maxRecDepth 100000 in
theorem pm4 (kn : List rM) : rpoM (rpar kn) rE0 4 2 := ⟨tw1 (List.mem_of_getElem? (i := 1) rfl) rfl, tw2 (List.mem_of_getElem? (i := 10) rfl) rfl, ⟨by decide +kernel, by decide +kernel, by decide +kernel⟩, (by decide +kernel : rmaxl 4 ≤ 31), by decide +kernel, (Or.inr ⟨.boolean, rfl, rfl⟩), (fun h => absurd (show rinit 4 = true from h) (by decide +kernel))⟩
set_option maxRecDepth 100000 in
theorem pm5 (kn : List rM) : rpoM (rpar kn) rE0 5 4 := ⟨tw1 (List.mem_of_getElem? (i := 1) rfl) rfl, tw2 (List.mem_of_getElem? (i := 14) rfl) rfl, ⟨by decide +kernel, by decide +kernel, by decide +kernel⟩, (by decide +kernel : rmaxl 5 ≤ 31), by decide +kernel, (Or.inr ⟨.boolean, rfl, rfl⟩), (fun h => absurd (show rinit 5 = true from h) (by decide +kernel))⟩
set_option maxRecDepth 100000 in
theorem pm6 (kn : List rM) : rpoM (rpar kn) rE0 6 1 := ⟨tw1 (List.mem_of_getElem? (i := 1) rfl) rfl, tw2 (List.mem_of_getElem? (i := 26) rfl) rfl, ⟨by decide +kernel, by decide +kernel, by decide +kernel⟩, (by decide +kernel : rmaxl 6 ≤ 31), by decide +kernel, (Or.inr ⟨.int, rfl, rfl⟩), (fun h => absurd (show rinit 6 = true from h) (by decide +kernel))⟩
set_option maxRecDepth 100000 in
theorem pm7 (kn : List rM) : rpoM (rpar kn) rE0 7 2 := ⟨tw1 (List.mem_of_getElem? (i := 1) rfl) rfl, tw2 (List.mem_of_getElem? (i := 30) rfl) rfl, ⟨by decide +kernel, by decide +kernel, by decide +kernel⟩, (by decide +kernel : rmaxl 7 ≤ 31), by decide +kernel, (Or.inr ⟨.int, rfl, rfl⟩), (fun h => absurd (show rinit 7 = true from h) (by decide +kernel))⟩
set_option maxRecDepth 100000 in
theorem pm8 (kn : List rM) : rpoM (rpar kn) rE0 8 2 := ⟨tw1 (List.mem_of_getElem? (i := 1) rfl) rfl, tw2 (List.mem_of_getElem? (i := 34) rfl) rfl, ⟨by decide +kernel, by decide +kernel, by decide +kernel⟩, (by decide +kernel : rmaxl 8 ≤ 31), by decide +kernel, (Or.inr ⟨.int, rfl, rfl⟩), (fun h => absurd (show rinit 8 = true from h) (by decide +kernel))⟩
set_option maxRecDepth 100000 in
theorem pm9 (kn : List rM) : rpoM (rpar kn) rE0 9 2 := ⟨tw1 (List.mem_of_getElem? (i := 1) rfl) rfl, tw2 (List.mem_of_getElem? (i := 42) rfl) rfl, ⟨by decide +kernel, by decide +kernel, by decide +kernel⟩, (by decide +kernel : rmaxl 9 ≤ 31), by decide +kernel, (Or.inr ⟨.boolean, rfl, rfl⟩), (fun h => absurd (show rinit 9 = true from h) (by decide +kernel))⟩
set_option maxRecDepth 100000 in
theorem pm10 (kn : List rM) : rpoM (rpar kn) rE0 10 1 := ⟨tw1 (List.mem_of_getElem? (i := 1) rfl) rfl, tw2 (List.mem_of_getElem? (i := 55) rfl) rfl, ⟨by decide +kernel, by decide +kernel, by decide +kernel⟩, (by decide +kernel : rmaxl 10 ≤ 31), by decide +kernel, (Or.inr ⟨.int, rfl, rfl⟩), (fun h => absurd (show rinit 10 = true from h) (by decide +kernel))⟩
set_option maxRecDepth 100000 in
theorem pm11 (kn : List rM) : rpoM (rpar kn) rE0 11 4 := ⟨tw1 (List.mem_of_getElem? (i := 1) rfl) rfl, tw2 (List.mem_of_getElem? (i := 59) rfl) rfl, ⟨by decide +kernel, by decide +kernel, by decide +kernel⟩, (by decide +kernel : rmaxl 11 ≤ 31), by decide +kernel, (Or.inr ⟨.int, rfl, rfl⟩), (fun h => absurd (show rinit 11 = true from h) (by decide +kernel))⟩
set_option maxRecDepth 100000 in
theorem pm12 (kn : List rM) : rpoM (rpar kn) rE0 12 4 := ⟨tw1 (List.mem_of_getElem? (i := 1) rfl) rfl, tw2 (List.mem_of_getElem? (i := 80) rfl) rfl, ⟨by decide +kernel, by decide +kernel, by decide +kernel⟩, (by decide +kernel : rmaxl 12 ≤ 31), by decide +kernel, (Or.inr ⟨.long, rfl, rfl⟩), (fun h => absurd (show rinit 12 = true from h) (by decide +kernel))⟩
set_option maxRecDepth 100000 in
theorem pm13 (kn : List rM) : rpoM (rpar kn) rE0 13 4 := ⟨tw1 (List.mem_of_getElem? (i := 1) rfl) rfl, tw2 (List.mem_of_getElem? (i := 104) rfl) rfl, ⟨by decide +kernel, by decide +kernel, by decide +kernel⟩, (by decide +kernel : rmaxl 13 ≤ 31), by decide +kernel, (Or.inr ⟨.int, rfl, rfl⟩), (fun h => absurd (show rinit 13 = true from h) (by decide +kernel))⟩
set_option maxRecDepth 100000 in
theorem pm14 (kn : List rM) : rpoM (rpar kn) rE0 14 1 := ⟨tw1 (List.mem_of_getElem? (i := 1) rfl) rfl, tw2 (List.mem_of_getElem? (i := 117) rfl) rfl, ⟨by decide +kernel, by decide +kernel, by decide +kernel⟩, (by decide +kernel : rmaxl 14 ≤ 31), by decide +kernel, (Or.inr ⟨.boolean, rfl, rfl⟩), (fun h => absurd (show rinit 14 = true from h) (by decide +kernel))⟩
set_option maxRecDepth 100000 in
theorem pm15 (kn : List rM) : rpoM (rpar kn) rE0 15 1 := ⟨tw1 (List.mem_of_getElem? (i := 1) rfl) rfl, tw2 (List.mem_of_getElem? (i := 130) rfl) rfl, ⟨by decide +kernel, by decide +kernel, by decide +kernel⟩, (by decide +kernel : rmaxl 15 ≤ 31), by decide +kernel, (Or.inr ⟨.int, rfl, rfl⟩), (fun h => absurd (show rinit 15 = true from h) (by decide +kernel))⟩
set_option maxRecDepth 100000 in
theorem pm16 (kn : List rM) : rpoM (rpar kn) rE0 16 1 := ⟨tw1 (List.mem_of_getElem? (i := 1) rfl) rfl, tw3 (List.mem_of_getElem? (i := 128) rfl) rfl, ⟨by decide +kernel, by decide +kernel, by decide +kernel⟩, (by decide +kernel : rmaxl 16 ≤ 31), by decide +kernel, (Or.inr ⟨.boolean, rfl, rfl⟩), (fun h => absurd (show rinit 16 = true from h) (by decide +kernel))⟩
set_option maxRecDepth 100000 in
theorem pm17 (kn : List rM) : rpoM (rpar kn) rE0 17 3 := ⟨tw1 (List.mem_of_getElem? (i := 1) rfl) rfl, tw3 (List.mem_of_getElem? (i := 134) rfl) rfl, ⟨by decide +kernel, by decide +kernel, by decide +kernel⟩, (by decide +kernel : rmaxl 17 ≤ 31), by decide +kernel, (Or.inr ⟨.int, rfl, rfl⟩), (fun h => absurd (show rinit 17 = true from h) (by decide +kernel))⟩
set_option maxRecDepth 100000 in
theorem pm18 (kn : List rM) : rpoM (rpar kn) rE0 18 4 := ⟨tw1 (List.mem_of_getElem? (i := 1) rfl) rfl, tw7 (List.mem_of_getElem? (i := 191) rfl) rfl, ⟨by decide +kernel, by decide +kernel, by decide +kernel⟩, (by decide +kernel : rmaxl 18 ≤ 31), by decide +kernel, (Or.inr ⟨.int, rfl, rfl⟩), (fun h => absurd (show rinit 18 = true from h) (by decide +kernel))⟩
set_option maxRecDepth 100000 in
theorem pm19 (kn : List rM) : rpoM (rpar kn) rE0 19 1 := ⟨tw1 (List.mem_of_getElem? (i := 1) rfl) rfl, tw7 (List.mem_of_getElem? (i := 199) rfl) rfl, ⟨by decide +kernel, by decide +kernel, by decide +kernel⟩, (by decide +kernel : rmaxl 19 ≤ 31), by decide +kernel, (Or.inr ⟨.int, rfl, rfl⟩), (fun h => absurd (show rinit 19 = true from h) (by decide +kernel))⟩
set_option maxRecDepth 100000 in
theorem pm20 (kn : List rM) : rpoM (rpar kn) rE0 20 3 := ⟨tw1 (List.mem_of_getElem? (i := 1) rfl) rfl, tw7 (List.mem_of_getElem? (i := 209) rfl) rfl, ⟨by decide +kernel, by decide +kernel, by decide +kernel⟩, (by decide +kernel : rmaxl 20 ≤ 31), by decide +kernel, (Or.inr ⟨.int, rfl, rfl⟩), (fun h => absurd (show rinit 20 = true from h) (by decide +kernel))⟩
set_option maxRecDepth 100000 in
theorem pm21 (kn : List rM) : rpoM (rpar kn) rE0 21 2 := ⟨tw1 (List.mem_of_getElem? (i := 1) rfl) rfl, tw7 (List.mem_of_getElem? (i := 213) rfl) rfl, ⟨by decide +kernel, by decide +kernel, by decide +kernel⟩, (by decide +kernel : rmaxl 21 ≤ 31), by decide +kernel, (Or.inr ⟨.int, rfl, rfl⟩), (fun h => absurd (show rinit 21 = true from h) (by decide +kernel))⟩
set_option maxRecDepth 100000 in
theorem pm22 (kn : List rM) : rpoM (rpar kn) rE0 22 1 := ⟨tw1 (List.mem_of_getElem? (i := 1) rfl) rfl, tw7 (List.mem_of_getElem? (i := 217) rfl) rfl, ⟨by decide +kernel, by decide +kernel, by decide +kernel⟩, (by decide +kernel : rmaxl 22 ≤ 31), by decide +kernel, (Or.inr ⟨.int, rfl, rfl⟩), (fun h => absurd (show rinit 22 = true from h) (by decide +kernel))⟩
set_option maxRecDepth 100000 in
theorem pm23 (kn : List rM) : rpoM (rpar kn) rE0 23 1 := ⟨tw1 (List.mem_of_getElem? (i := 1) rfl) rfl, tw7 (List.mem_of_getElem? (i := 221) rfl) rfl, ⟨by decide +kernel, by decide +kernel, by decide +kernel⟩, (by decide +kernel : rmaxl 23 ≤ 31), by decide +kernel, (Or.inr ⟨.int, rfl, rfl⟩), (fun h => absurd (show rinit 23 = true from h) (by decide +kernel))⟩
set_option maxRecDepth 100000 in
theorem pm24 (kn : List rM) : rpoM (rpar kn) rE0 24 1 := ⟨tw1 (List.mem_of_getElem? (i := 1) rfl) rfl, tw1 (List.mem_of_getElem? (i := 200) rfl) rfl, ⟨by decide +kernel, by decide +kernel, by decide +kernel⟩, (by decide +kernel : rmaxl 24 ≤ 31), by decide +kernel, (Or.inr ⟨.boolean, rfl, rfl⟩), (fun h => absurd (show rinit 24 = true from h) (by decide +kernel))⟩
set_option maxRecDepth 100000 in
theorem pm25 (kn : List rM) : rpoM (rpar kn) rE0 25 1 := ⟨tw1 (List.mem_of_getElem? (i := 1) rfl) rfl, tw2 (List.mem_of_getElem? (i := 45) rfl) rfl, ⟨by decide +kernel, by decide +kernel, by decide +kernel⟩, (by decide +kernel : rmaxl 25 ≤ 31), by decide +kernel, (Or.inr ⟨.boolean, rfl, rfl⟩), (fun h => absurd (show rinit 25 = true from h) (by decide +kernel))⟩
set_option maxRecDepth 100000 in
theorem pm26 (kn : List rM) : rpoM (rpar kn) rE0 26 2 := ⟨tw1 (List.mem_of_getElem? (i := 1) rfl) rfl, tw2 (List.mem_of_getElem? (i := 48) rfl) rfl, ⟨by decide +kernel, by decide +kernel, by decide +kernel⟩, (by decide +kernel : rmaxl 26 ≤ 31), by decide +kernel, (Or.inr ⟨.boolean, rfl, rfl⟩), (fun h => absurd (show rinit 26 = true from h) (by decide +kernel))⟩
set_option maxRecDepth 100000 in
theorem pm27 (kn : List rM) : rpoM (rpar kn) rE0 27 3 := ⟨tw1 (List.mem_of_getElem? (i := 1) rfl) rfl, tw2 (List.mem_of_getElem? (i := 17) rfl) rfl, ⟨by decide +kernel, by decide +kernel, by decide +kernel⟩, (by decide +kernel : rmaxl 27 ≤ 31), by decide +kernel, (Or.inr ⟨.boolean, rfl, rfl⟩), (fun h => absurd (show rinit 27 = true from h) (by decide +kernel))⟩
set_option maxRecDepth 100000 in
theorem pm28 (kn : List rM) : rpoM (rpar kn) rE0 28 3 := ⟨tw1 (List.mem_of_getElem? (i := 1) rfl) rfl, tw1 (List.mem_of_getElem? (i := 229) rfl) rfl, ⟨by decide +kernel, by decide +kernel, by decide +kernel⟩, (by decide +kernel : rmaxl 28 ≤ 31), by decide +kernel, (Or.inl ⟨rfl, rfl⟩), (fun h => absurd (show rinit 28 = true from h) (by decide +kernel))⟩
set_option maxRecDepth 100000 in
theorem pm29 (kn : List rM) : rpoM (rpar kn) rE0 29 2 := ⟨tw1 (List.mem_of_getElem? (i := 1) rfl) rfl, tw2 (List.mem_of_getElem? (i := 37) rfl) rfl, ⟨by decide +kernel, by decide +kernel, by decide +kernel⟩, (by decide +kernel : rmaxl 29 ≤ 31), by decide +kernel, (Or.inr ⟨.int, rfl, rfl⟩), (fun h => absurd (show rinit 29 = true from h) (by decide +kernel))⟩
set_option maxRecDepth 100000 in
theorem pm30 (kn : List rM) : rpoM (rpar kn) rE0 30 1 := ⟨tw1 (List.mem_of_getElem? (i := 1) rfl) rfl, tw3 (List.mem_of_getElem? (i := 138) rfl) rfl, ⟨by decide +kernel, by decide +kernel, by decide +kernel⟩, (by decide +kernel : rmaxl 30 ≤ 31), by decide +kernel, (Or.inr ⟨.int, rfl, rfl⟩), (fun h => absurd (show rinit 30 = true from h) (by decide +kernel))⟩
set_option maxRecDepth 100000 in
theorem pm31 (kn : List rM) : rpoM (rpar kn) rE0 31 2 := ⟨tw1 (List.mem_of_getElem? (i := 1) rfl) rfl, tw7 (List.mem_of_getElem? (i := 195) rfl) rfl, ⟨by decide +kernel, by decide +kernel, by decide +kernel⟩, (by decide +kernel : rmaxl 31 ≤ 31), by decide +kernel, (Or.inr ⟨.int, rfl, rfl⟩), (fun h => absurd (show rinit 31 = true from h) (by decide +kernel))⟩
set_option maxRecDepth 100000 in
theorem pm32 (kn : List rM) : rpoM (rpar kn) rE0 32 4 := ⟨tw1 (List.mem_of_getElem? (i := 1) rfl) rfl, tw6 (List.mem_of_getElem? (i := 105) rfl) rfl, ⟨by decide +kernel, by decide +kernel, by decide +kernel⟩, (by decide +kernel : rmaxl 32 ≤ 31), by decide +kernel, (Or.inr ⟨.int, rfl, rfl⟩), (fun h => absurd (show rinit 32 = true from h) (by decide +kernel))⟩
set_option maxRecDepth 100000 in
theorem pm33 (kn : List rM) : rpoM (rpar kn) rE0 33 1 := ⟨tw1 (List.mem_of_getElem? (i := 1) rfl) rfl, tw7 (List.mem_of_getElem? (i := 202) rfl) rfl, ⟨by decide +kernel, by decide +kernel, by decide +kernel⟩, (by decide +kernel : rmaxl 33 ≤ 31), by decide +kernel, (Or.inr ⟨.int, rfl, rfl⟩), (fun h => absurd (show rinit 33 = true from h) (by decide +kernel))⟩
set_option maxRecDepth 100000 in
theorem pm34 (kn : List rM) : rpoM (rpar kn) rE0 34 2 := ⟨tw1 (List.mem_of_getElem? (i := 1) rfl) rfl, tw7 (List.mem_of_getElem? (i := 185) rfl) rfl, ⟨by decide +kernel, by decide +kernel, by decide +kernel⟩, (by decide +kernel : rmaxl 34 ≤ 31), by decide +kernel, (Or.inr ⟨.int, rfl, rfl⟩), (fun h => absurd (show rinit 34 = true from h) (by decide +kernel))⟩
set_option maxRecDepth 100000 in
theorem pm35 (kn : List rM) : rpoM (rpar kn) rE0 35 0 := ⟨tw1 (List.mem_of_getElem? (i := 1) rfl) rfl, tw3 (List.mem_of_getElem? (i := 148) rfl) rfl, ⟨by decide +kernel, by decide +kernel, by decide +kernel⟩, (by decide +kernel : rmaxl 35 ≤ 31), by decide +kernel, (Or.inr ⟨(.object "PackHouse$Finder"), rfl, rfl⟩), (fun h => absurd (show rinit 35 = true from h) (by decide +kernel))⟩
set_option maxRecDepth 100000 in
theorem pm36 (kn : List rM) : rpoM (rpar kn) rE0 36 0 := ⟨tw1 (List.mem_of_getElem? (i := 1) rfl) rfl, tw3 (List.mem_of_getElem? (i := 142) rfl) rfl, ⟨by decide +kernel, by decide +kernel, by decide +kernel⟩, (by decide +kernel : rmaxl 36 ≤ 31), by decide +kernel, (Or.inr ⟨(.object "PackHouse$Tokens"), rfl, rfl⟩), (fun h => absurd (show rinit 36 = true from h) (by decide +kernel))⟩
set_option maxRecDepth 100000 in
theorem pm37 (kn : List rM) : rpoM (rpar kn) rE0 37 0 := ⟨tw1 (List.mem_of_getElem? (i := 1) rfl) rfl, tw4 (List.mem_of_getElem? (i := 143) rfl) rfl, ⟨by decide +kernel, by decide +kernel, by decide +kernel⟩, (by decide +kernel : rmaxl 37 ≤ 31), by decide +kernel, (Or.inr ⟨(.object "PackHouse$Tags"), rfl, rfl⟩), (fun h => absurd (show rinit 37 = true from h) (by decide +kernel))⟩
set_option maxRecDepth 100000 in
theorem pm38 (kn : List rM) : rpoM (rpar kn) rE0 38 0 := ⟨tw1 (List.mem_of_getElem? (i := 1) rfl) rfl, tw5 (List.mem_of_getElem? (i := 2) rfl) rfl, ⟨by decide +kernel, by decide +kernel, by decide +kernel⟩, (by decide +kernel : rmaxl 38 ≤ 31), by decide +kernel, (Or.inr ⟨(.array (.object "PackHouse$Share")), rfl, rfl⟩), (fun h => absurd (show rinit 38 = true from h) (by decide +kernel))⟩
set_option maxRecDepth 100000 in
theorem pm39 (kn : List rM) : rpoM (rpar kn) rE0 39 0 := ⟨tw1 (List.mem_of_getElem? (i := 1) rfl) rfl, tw4 (List.mem_of_getElem? (i := 236) rfl) rfl, ⟨by decide +kernel, by decide +kernel, by decide +kernel⟩, (by decide +kernel : rmaxl 39 ≤ 31), by decide +kernel, (Or.inr ⟨(.object "PackHouse$Packer"), rfl, rfl⟩), (fun h => absurd (show rinit 39 = true from h) (by decide +kernel))⟩
set_option maxRecDepth 100000 in
theorem pm40 (kn : List rM) : rpoM (rpar kn) rE0 40 0 := ⟨tw1 (List.mem_of_getElem? (i := 1) rfl) rfl, tw6 (List.mem_of_getElem? (i := 205) rfl) rfl, ⟨by decide +kernel, by decide +kernel, by decide +kernel⟩, (by decide +kernel : rmaxl 40 ≤ 31), by decide +kernel, (Or.inr ⟨(.object "PackHouse$Unpacker"), rfl, rfl⟩), (fun h => absurd (show rinit 40 = true from h) (by decide +kernel))⟩
set_option maxRecDepth 100000 in
theorem pm41 (kn : List rM) : rpoM (rpar kn) rE0 41 2 := ⟨tw1 (List.mem_of_getElem? (i := 1) rfl) rfl, tw2 (List.mem_of_getElem? (i := 68) rfl) rfl, ⟨by decide +kernel, by decide +kernel, by decide +kernel⟩, (by decide +kernel : rmaxl 41 ≤ 31), by decide +kernel, (Or.inr ⟨.int, rfl, rfl⟩), (fun h => absurd (show rinit 41 = true from h) (by decide +kernel))⟩
set_option maxRecDepth 100000 in
theorem pm42 (kn : List rM) : rpoM (rpar kn) rE0 42 3 := ⟨tw1 (List.mem_of_getElem? (i := 1) rfl) rfl, tw2 (List.mem_of_getElem? (i := 89) rfl) rfl, ⟨by decide +kernel, by decide +kernel, by decide +kernel⟩, (by decide +kernel : rmaxl 42 ≤ 31), by decide +kernel, (Or.inr ⟨.long, rfl, rfl⟩), (fun h => absurd (show rinit 42 = true from h) (by decide +kernel))⟩
set_option maxRecDepth 100000 in
theorem pm43 (kn : List rM) : rpoM (rpar kn) rE0 43 3 := ⟨tw1 (List.mem_of_getElem? (i := 1) rfl) rfl, tw6 (List.mem_of_getElem? (i := 134) rfl) rfl, ⟨by decide +kernel, by decide +kernel, by decide +kernel⟩, (by decide +kernel : rmaxl 43 ≤ 31), by decide +kernel, (Or.inr ⟨.boolean, rfl, rfl⟩), (fun h => absurd (show rinit 43 = true from h) (by decide +kernel))⟩
set_option maxRecDepth 100000 in
theorem pm44 (kn : List rM) : rpoM (rpar kn) rE0 44 3 := ⟨tw1 (List.mem_of_getElem? (i := 1) rfl) rfl, tw6 (List.mem_of_getElem? (i := 138) rfl) rfl, ⟨by decide +kernel, by decide +kernel, by decide +kernel⟩, (by decide +kernel : rmaxl 44 ≤ 31), by decide +kernel, (Or.inr ⟨.int, rfl, rfl⟩), (fun h => absurd (show rinit 44 = true from h) (by decide +kernel))⟩
set_option maxRecDepth 100000 in
theorem pm45 (kn : List rM) : rpoM (rpar kn) rE0 45 1 := ⟨tw1 (List.mem_of_getElem? (i := 1) rfl) rfl, tw3 (List.mem_of_getElem? (i := 76) rfl) rfl, ⟨by decide +kernel, by decide +kernel, by decide +kernel⟩, (by decide +kernel : rmaxl 45 ≤ 31), by decide +kernel, (Or.inr ⟨.int, rfl, rfl⟩), (fun h => absurd (show rinit 45 = true from h) (by decide +kernel))⟩
set_option maxRecDepth 100000 in
theorem pm46 (kn : List rM) : rpoM (rpar kn) rE0 46 2 := ⟨tw1 (List.mem_of_getElem? (i := 1) rfl) rfl, tw2 (List.mem_of_getElem? (i := 74) rfl) rfl, ⟨by decide +kernel, by decide +kernel, by decide +kernel⟩, (by decide +kernel : rmaxl 46 ≤ 31), by decide +kernel, (Or.inr ⟨.int, rfl, rfl⟩), (fun h => absurd (show rinit 46 = true from h) (by decide +kernel))⟩
set_option maxRecDepth 100000 in
theorem pm47 (kn : List rM) : rpoM (rpar kn) rE0 47 2 := ⟨tw1 (List.mem_of_getElem? (i := 1) rfl) rfl, tw2 (List.mem_of_getElem? (i := 95) rfl) rfl, ⟨by decide +kernel, by decide +kernel, by decide +kernel⟩, (by decide +kernel : rmaxl 47 ≤ 31), by decide +kernel, (Or.inr ⟨.long, rfl, rfl⟩), (fun h => absurd (show rinit 47 = true from h) (by decide +kernel))⟩
set_option maxRecDepth 100000 in
theorem pm48 (kn : List rM) : rpoM (rpar kn) rE0 48 2 := ⟨tw1 (List.mem_of_getElem? (i := 1) rfl) rfl, tw2 (List.mem_of_getElem? (i := 71) rfl) rfl, ⟨by decide +kernel, by decide +kernel, by decide +kernel⟩, (by decide +kernel : rmaxl 48 ≤ 31), by decide +kernel, (Or.inr ⟨.int, rfl, rfl⟩), (fun h => absurd (show rinit 48 = true from h) (by decide +kernel))⟩
set_option maxRecDepth 100000 in
theorem pm49 (kn : List rM) : rpoM (rpar kn) rE0 49 4 := ⟨tw1 (List.mem_of_getElem? (i := 1) rfl) rfl, tw2 (List.mem_of_getElem? (i := 62) rfl) rfl, ⟨by decide +kernel, by decide +kernel, by decide +kernel⟩, (by decide +kernel : rmaxl 49 ≤ 31), by decide +kernel, (Or.inr ⟨.int, rfl, rfl⟩), (fun h => absurd (show rinit 49 = true from h) (by decide +kernel))⟩
set_option maxRecDepth 100000 in
theorem pm50 (kn : List rM) : rpoM (rpar kn) rE0 50 2 := ⟨tw1 (List.mem_of_getElem? (i := 1) rfl) rfl, tw2 (List.mem_of_getElem? (i := 92) rfl) rfl, ⟨by decide +kernel, by decide +kernel, by decide +kernel⟩, (by decide +kernel : rmaxl 50 ≤ 31), by decide +kernel, (Or.inr ⟨.long, rfl, rfl⟩), (fun h => absurd (show rinit 50 = true from h) (by decide +kernel))⟩
set_option maxRecDepth 100000 in
theorem pm51 (kn : List rM) : rpoM (rpar kn) rE0 51 4 := ⟨tw1 (List.mem_of_getElem? (i := 1) rfl) rfl, tw2 (List.mem_of_getElem? (i := 83) rfl) rfl, ⟨by decide +kernel, by decide +kernel, by decide +kernel⟩, (by decide +kernel : rmaxl 51 ≤ 31), by decide +kernel, (Or.inr ⟨.long, rfl, rfl⟩), (fun h => absurd (show rinit 51 = true from h) (by decide +kernel))⟩
set_option maxRecDepth 100000 in
theorem pm52 (kn : List rM) : rpoM (rpar kn) rE0 52 4 := ⟨tw1 (List.mem_of_getElem? (i := 1) rfl) rfl, tw2 (List.mem_of_getElem? (i := 99) rfl) rfl, ⟨by decide +kernel, by decide +kernel, by decide +kernel⟩, (by decide +kernel : rmaxl 52 ≤ 31), by decide +kernel, (Or.inr ⟨.long, rfl, rfl⟩), (fun h => absurd (show rinit 52 = true from h) (by decide +kernel))⟩
set_option maxRecDepth 100000 in
theorem pm53 (kn : List rM) : rpoM (rpar kn) rE0 53 3 := ⟨tw1 (List.mem_of_getElem? (i := 1) rfl) rfl, tw2 (List.mem_of_getElem? (i := 107) rfl) rfl, ⟨by decide +kernel, by decide +kernel, by decide +kernel⟩, (by decide +kernel : rmaxl 53 ≤ 31), by decide +kernel, (Or.inr ⟨.int, rfl, rfl⟩), (fun h => absurd (show rinit 53 = true from h) (by decide +kernel))⟩
set_option maxRecDepth 100000 in
theorem pm54 (kn : List rM) : rpoM (rpar kn) rE0 54 1 := ⟨tw1 (List.mem_of_getElem? (i := 1) rfl) rfl, tw2 (List.mem_of_getElem? (i := 112) rfl) rfl, ⟨by decide +kernel, by decide +kernel, by decide +kernel⟩, (by decide +kernel : rmaxl 54 ≤ 31), by decide +kernel, (Or.inr ⟨.int, rfl, rfl⟩), (fun h => absurd (show rinit 54 = true from h) (by decide +kernel))⟩
set_option maxRecDepth 100000 in
theorem pm55 (kn : List rM) : rpoM (rpar kn) rE0 55 0 := ⟨tw1 (List.mem_of_getElem? (i := 5) rfl) rfl, tw7 (List.mem_of_getElem? (i := 226) rfl) rfl, ⟨by decide +kernel, by decide +kernel, by decide +kernel⟩, (by decide +kernel : rmaxl 55 ≤ 31), by decide +kernel, (Or.inl ⟨rfl, rfl⟩), (fun _ => rfl)⟩
set_option maxRecDepth 100000 in
theorem pm56 (kn : List rM) : rpoM (rpar kn) rE0 56 1 := ⟨tw1 (List.mem_of_getElem? (i := 5) rfl) rfl, tw10 (List.mem_of_getElem? (i := 70) rfl) rfl, ⟨by decide +kernel, by decide +kernel, by decide +kernel⟩, (by decide +kernel : rmaxl 56 ≤ 31), by decide +kernel, (Or.inr ⟨.boolean, rfl, rfl⟩), (fun h => absurd (show rinit 56 = true from h) (by decide +kernel))⟩
set_option maxRecDepth 100000 in
theorem pm57 (kn : List rM) : rpoM (rpar kn) rE0 57 2 := ⟨tw1 (List.mem_of_getElem? (i := 5) rfl) rfl, tw10 (List.mem_of_getElem? (i := 74) rfl) rfl, ⟨by decide +kernel, by decide +kernel, by decide +kernel⟩, (by decide +kernel : rmaxl 57 ≤ 31), by decide +kernel, (Or.inr ⟨.boolean, rfl, rfl⟩), (fun h => absurd (show rinit 57 = true from h) (by decide +kernel))⟩
set_option maxRecDepth 100000 in
theorem pm58 (kn : List rM) : rpoM (rpar kn) rE0 58 5 := ⟨tw1 (List.mem_of_getElem? (i := 5) rfl) rfl, tw10 (List.mem_of_getElem? (i := 67) rfl) rfl, ⟨by decide +kernel, by decide +kernel, by decide +kernel⟩, (by decide +kernel : rmaxl 58 ≤ 31), by decide +kernel, (Or.inr ⟨.boolean, rfl, rfl⟩), (fun h => absurd (show rinit 58 = true from h) (by decide +kernel))⟩
set_option maxRecDepth 100000 in
theorem pm59 (kn : List rM) : rpoM (rpar kn) rE0 59 3 := ⟨tw1 (List.mem_of_getElem? (i := 5) rfl) rfl, tw10 (List.mem_of_getElem? (i := 78) rfl) rfl, ⟨by decide +kernel, by decide +kernel, by decide +kernel⟩, (by decide +kernel : rmaxl 59 ≤ 31), by decide +kernel, (Or.inr ⟨.boolean, rfl, rfl⟩), (fun h => absurd (show rinit 59 = true from h) (by decide +kernel))⟩
set_option maxRecDepth 100000 in
theorem pm60 (kn : List rM) : rpoM (rpar kn) rE0 60 3 := ⟨tw1 (List.mem_of_getElem? (i := 5) rfl) rfl, tw10 (List.mem_of_getElem? (i := 82) rfl) rfl, ⟨by decide +kernel, by decide +kernel, by decide +kernel⟩, (by decide +kernel : rmaxl 60 ≤ 31), by decide +kernel, (Or.inr ⟨.boolean, rfl, rfl⟩), (fun h => absurd (show rinit 60 = true from h) (by decide +kernel))⟩
set_option maxRecDepth 100000 in
theorem pm61 (kn : List rM) : rpoM (rpar kn) rE0 61 2 := ⟨tw1 (List.mem_of_getElem? (i := 5) rfl) rfl, tw10 (List.mem_of_getElem? (i := 86) rfl) rfl, ⟨by decide +kernel, by decide +kernel, by decide +kernel⟩, (by decide +kernel : rmaxl 61 ≤ 31), by decide +kernel, (Or.inr ⟨.boolean, rfl, rfl⟩), (fun h => absurd (show rinit 61 = true from h) (by decide +kernel))⟩
set_option maxRecDepth 100000 in
theorem pm62 (kn : List rM) : rpoM (rpar kn) rE0 62 3 := ⟨tw1 (List.mem_of_getElem? (i := 5) rfl) rfl, tw10 (List.mem_of_getElem? (i := 94) rfl) rfl, ⟨by decide +kernel, by decide +kernel, by decide +kernel⟩, (by decide +kernel : rmaxl 62 ≤ 31), by decide +kernel, (Or.inr ⟨.boolean, rfl, rfl⟩), (fun h => absurd (show rinit 62 = true from h) (by decide +kernel))⟩
set_option maxRecDepth 100000 in
theorem pm63 (kn : List rM) : rpoM (rpar kn) rE0 63 4 := ⟨tw1 (List.mem_of_getElem? (i := 5) rfl) rfl, tw10 (List.mem_of_getElem? (i := 90) rfl) rfl, ⟨by decide +kernel, by decide +kernel, by decide +kernel⟩, (by decide +kernel : rmaxl 63 ≤ 31), by decide +kernel, (Or.inr ⟨.boolean, rfl, rfl⟩), (fun h => absurd (show rinit 63 = true from h) (by decide +kernel))⟩
set_option maxRecDepth 100000 in
theorem pm64 (kn : List rM) : rpoM (rpar kn) rE0 64 1 := ⟨tw1 (List.mem_of_getElem? (i := 5) rfl) rfl, tw10 (List.mem_of_getElem? (i := 98) rfl) rfl, ⟨by decide +kernel, by decide +kernel, by decide +kernel⟩, (by decide +kernel : rmaxl 64 ≤ 31), by decide +kernel, (Or.inr ⟨.int, rfl, rfl⟩), (fun h => absurd (show rinit 64 = true from h) (by decide +kernel))⟩
set_option maxRecDepth 100000 in
theorem pm65 (kn : List rM) : rpoM (rpar kn) rE0 65 2 := ⟨tw1 (List.mem_of_getElem? (i := 5) rfl) rfl, tw10 (List.mem_of_getElem? (i := 102) rfl) rfl, ⟨by decide +kernel, by decide +kernel, by decide +kernel⟩, (by decide +kernel : rmaxl 65 ≤ 31), by decide +kernel, (Or.inr ⟨.int, rfl, rfl⟩), (fun h => absurd (show rinit 65 = true from h) (by decide +kernel))⟩
set_option maxRecDepth 100000 in
theorem pm66 (kn : List rM) : rpoM (rpar kn) rE0 66 2 := ⟨tw1 (List.mem_of_getElem? (i := 5) rfl) rfl, tw10 (List.mem_of_getElem? (i := 106) rfl) rfl, ⟨by decide +kernel, by decide +kernel, by decide +kernel⟩, (by decide +kernel : rmaxl 66 ≤ 31), by decide +kernel, (Or.inr ⟨.int, rfl, rfl⟩), (fun h => absurd (show rinit 66 = true from h) (by decide +kernel))⟩
set_option maxRecDepth 100000 in
theorem pm67 (kn : List rM) : rpoM (rpar kn) rE0 67 3 := ⟨tw1 (List.mem_of_getElem? (i := 5) rfl) rfl, tw10 (List.mem_of_getElem? (i := 116) rfl) rfl, ⟨by decide +kernel, by decide +kernel, by decide +kernel⟩, (by decide +kernel : rmaxl 67 ≤ 31), by decide +kernel, (Or.inr ⟨.boolean, rfl, rfl⟩), (fun h => absurd (show rinit 67 = true from h) (by decide +kernel))⟩
set_option maxRecDepth 100000 in
theorem pm68 (kn : List rM) : rpoM (rpar kn) rE0 68 2 := ⟨tw1 (List.mem_of_getElem? (i := 5) rfl) rfl, tw10 (List.mem_of_getElem? (i := 113) rfl) rfl, ⟨by decide +kernel, by decide +kernel, by decide +kernel⟩, (by decide +kernel : rmaxl 68 ≤ 31), by decide +kernel, (Or.inr ⟨.boolean, rfl, rfl⟩), (fun h => absurd (show rinit 68 = true from h) (by decide +kernel))⟩
set_option maxRecDepth 100000 in
theorem pm69 (kn : List rM) : rpoM (rpar kn) rE0 69 2 := ⟨tw1 (List.mem_of_getElem? (i := 5) rfl) rfl, tw10 (List.mem_of_getElem? (i := 110) rfl) rfl, ⟨by decide +kernel, by decide +kernel, by decide +kernel⟩, (by decide +kernel : rmaxl 69 ≤ 31), by decide +kernel, (Or.inr ⟨.boolean, rfl, rfl⟩), (fun h => absurd (show rinit 69 = true from h) (by decide +kernel))⟩
set_option maxRecDepth 100000 in
theorem pm70 (kn : List rM) : rpoM (rpar kn) rE0 70 1 := ⟨tw1 (List.mem_of_getElem? (i := 5) rfl) rfl, tw10 (List.mem_of_getElem? (i := 120) rfl) rfl, ⟨by decide +kernel, by decide +kernel, by decide +kernel⟩, (by decide +kernel : rmaxl 70 ≤ 31), by decide +kernel, (Or.inr ⟨.int, rfl, rfl⟩), (fun h => absurd (show rinit 70 = true from h) (by decide +kernel))⟩
set_option maxRecDepth 100000 in
theorem pm71 (kn : List rM) : rpoM (rpar kn) rE0 71 4 := ⟨tw1 (List.mem_of_getElem? (i := 5) rfl) rfl, tw10 (List.mem_of_getElem? (i := 124) rfl) rfl, ⟨by decide +kernel, by decide +kernel, by decide +kernel⟩, (by decide +kernel : rmaxl 71 ≤ 31), by decide +kernel, (Or.inr ⟨.int, rfl, rfl⟩), (fun h => absurd (show rinit 71 = true from h) (by decide +kernel))⟩
set_option maxRecDepth 100000 in
theorem pm72 (kn : List rM) : rpoM (rpar kn) rE0 72 4 := ⟨tw1 (List.mem_of_getElem? (i := 5) rfl) rfl, tw10 (List.mem_of_getElem? (i := 156) rfl) rfl, ⟨by decide +kernel, by decide +kernel, by decide +kernel⟩, (by decide +kernel : rmaxl 72 ≤ 31), by decide +kernel, (Or.inr ⟨.long, rfl, rfl⟩), (fun h => absurd (show rinit 72 = true from h) (by decide +kernel))⟩
set_option maxRecDepth 100000 in
theorem pm73 (kn : List rM) : rpoM (rpar kn) rE0 73 4 := ⟨tw1 (List.mem_of_getElem? (i := 5) rfl) rfl, tw10 (List.mem_of_getElem? (i := 183) rfl) rfl, ⟨by decide +kernel, by decide +kernel, by decide +kernel⟩, (by decide +kernel : rmaxl 73 ≤ 31), by decide +kernel, (Or.inr ⟨.int, rfl, rfl⟩), (fun h => absurd (show rinit 73 = true from h) (by decide +kernel))⟩
set_option maxRecDepth 100000 in
theorem pm74 (kn : List rM) : rpoM (rpar kn) rE0 74 1 := ⟨tw1 (List.mem_of_getElem? (i := 5) rfl) rfl, tw10 (List.mem_of_getElem? (i := 207) rfl) rfl, ⟨by decide +kernel, by decide +kernel, by decide +kernel⟩, (by decide +kernel : rmaxl 74 ≤ 31), by decide +kernel, (Or.inl ⟨rfl, rfl⟩), (fun h => absurd (show rinit 74 = true from h) (by decide +kernel))⟩
set_option maxRecDepth 100000 in
theorem pm75 (kn : List rM) : rpoM (rpar kn) rE0 75 1 := ⟨tw1 (List.mem_of_getElem? (i := 5) rfl) rfl, tw14 (List.mem_of_getElem? (i := 34) rfl) rfl, ⟨by decide +kernel, by decide +kernel, by decide +kernel⟩, (by decide +kernel : rmaxl 75 ≤ 31), by decide +kernel, (Or.inl ⟨rfl, rfl⟩), (fun h => absurd (show rinit 75 = true from h) (by decide +kernel))⟩
set_option maxRecDepth 100000 in
theorem pm76 (kn : List rM) : rpoM (rpar kn) rE0 76 1 := ⟨tw1 (List.mem_of_getElem? (i := 5) rfl) rfl, tw10 (List.mem_of_getElem? (i := 203) rfl) rfl, ⟨by decide +kernel, by decide +kernel, by decide +kernel⟩, (by decide +kernel : rmaxl 76 ≤ 31), by decide +kernel, (Or.inr ⟨.boolean, rfl, rfl⟩), (fun h => absurd (show rinit 76 = true from h) (by decide +kernel))⟩
set_option maxRecDepth 100000 in
theorem pm77 (kn : List rM) : rpoM (rpar kn) rE0 77 1 := ⟨tw1 (List.mem_of_getElem? (i := 5) rfl) rfl, tw10 (List.mem_of_getElem? (i := 215) rfl) rfl, ⟨by decide +kernel, by decide +kernel, by decide +kernel⟩, (by decide +kernel : rmaxl 77 ≤ 31), by decide +kernel, (Or.inr ⟨.int, rfl, rfl⟩), (fun h => absurd (show rinit 77 = true from h) (by decide +kernel))⟩
set_option maxRecDepth 100000 in
theorem pm78 (kn : List rM) : rpoM (rpar kn) rE0 78 1 := ⟨tw1 (List.mem_of_getElem? (i := 5) rfl) rfl, tw11 (List.mem_of_getElem? (i := 46) rfl) rfl, ⟨by decide +kernel, by decide +kernel, by decide +kernel⟩, (by decide +kernel : rmaxl 78 ≤ 31), by decide +kernel, (Or.inr ⟨.boolean, rfl, rfl⟩), (fun h => absurd (show rinit 78 = true from h) (by decide +kernel))⟩
set_option maxRecDepth 100000 in
theorem pm79 (kn : List rM) : rpoM (rpar kn) rE0 79 1 := ⟨tw1 (List.mem_of_getElem? (i := 5) rfl) rfl, tw11 (List.mem_of_getElem? (i := 62) rfl) rfl, ⟨by decide +kernel, by decide +kernel, by decide +kernel⟩, (by decide +kernel : rmaxl 79 ≤ 31), by decide +kernel, (Or.inr ⟨.int, rfl, rfl⟩), (fun h => absurd (show rinit 79 = true from h) (by decide +kernel))⟩
set_option maxRecDepth 100000 in
theorem pm80 (kn : List rM) : rpoM (rpar kn) rE0 80 1 := ⟨tw1 (List.mem_of_getElem? (i := 5) rfl) rfl, tw11 (List.mem_of_getElem? (i := 75) rfl) rfl, ⟨by decide +kernel, by decide +kernel, by decide +kernel⟩, (by decide +kernel : rmaxl 80 ≤ 31), by decide +kernel, (Or.inr ⟨.int, rfl, rfl⟩), (fun h => absurd (show rinit 80 = true from h) (by decide +kernel))⟩
set_option maxRecDepth 100000 in
theorem pm81 (kn : List rM) : rpoM (rpar kn) rE0 81 3 := ⟨tw1 (List.mem_of_getElem? (i := 5) rfl) rfl, tw11 (List.mem_of_getElem? (i := 58) rfl) rfl, ⟨by decide +kernel, by decide +kernel, by decide +kernel⟩, (by decide +kernel : rmaxl 81 ≤ 31), by decide +kernel, (Or.inr ⟨.int, rfl, rfl⟩), (fun h => absurd (show rinit 81 = true from h) (by decide +kernel))⟩
set_option maxRecDepth 100000 in
theorem pm82 (kn : List rM) : rpoM (rpar kn) rE0 82 2 := ⟨tw1 (List.mem_of_getElem? (i := 5) rfl) rfl, tw13 (List.mem_of_getElem? (i := 31) rfl) rfl, ⟨by decide +kernel, by decide +kernel, by decide +kernel⟩, (by decide +kernel : rmaxl 82 ≤ 31), by decide +kernel, (Or.inr ⟨.boolean, rfl, rfl⟩), (fun h => absurd (show rinit 82 = true from h) (by decide +kernel))⟩
set_option maxRecDepth 100000 in
theorem pm83 (kn : List rM) : rpoM (rpar kn) rE0 83 1 := ⟨tw1 (List.mem_of_getElem? (i := 5) rfl) rfl, tw13 (List.mem_of_getElem? (i := 35) rfl) rfl, ⟨by decide +kernel, by decide +kernel, by decide +kernel⟩, (by decide +kernel : rmaxl 83 ≤ 31), by decide +kernel, (Or.inr ⟨.int, rfl, rfl⟩), (fun h => absurd (show rinit 83 = true from h) (by decide +kernel))⟩
set_option maxRecDepth 100000 in
theorem pm84 (kn : List rM) : rpoM (rpar kn) rE0 84 2 := ⟨tw1 (List.mem_of_getElem? (i := 5) rfl) rfl, tw13 (List.mem_of_getElem? (i := 39) rfl) rfl, ⟨by decide +kernel, by decide +kernel, by decide +kernel⟩, (by decide +kernel : rmaxl 84 ≤ 31), by decide +kernel, (Or.inr ⟨.int, rfl, rfl⟩), (fun h => absurd (show rinit 84 = true from h) (by decide +kernel))⟩
set_option maxRecDepth 100000 in
theorem pm85 (kn : List rM) : rpoM (rpar kn) rE0 85 4 := ⟨tw1 (List.mem_of_getElem? (i := 5) rfl) rfl, tw14 (List.mem_of_getElem? (i := 38) rfl) rfl, ⟨by decide +kernel, by decide +kernel, by decide +kernel⟩, (by decide +kernel : rmaxl 85 ≤ 31), by decide +kernel, (Or.inr ⟨.int, rfl, rfl⟩), (fun h => absurd (show rinit 85 = true from h) (by decide +kernel))⟩
set_option maxRecDepth 100000 in
theorem pm86 (kn : List rM) : rpoM (rpar kn) rE0 86 6 := ⟨tw1 (List.mem_of_getElem? (i := 5) rfl) rfl, tw14 (List.mem_of_getElem? (i := 46) rfl) rfl, ⟨by decide +kernel, by decide +kernel, by decide +kernel⟩, (by decide +kernel : rmaxl 86 ≤ 31), by decide +kernel, (Or.inr ⟨.boolean, rfl, rfl⟩), (fun h => absurd (show rinit 86 = true from h) (by decide +kernel))⟩
set_option maxRecDepth 100000 in
theorem pm87 (kn : List rM) : rpoM (rpar kn) rE0 87 1 := ⟨tw1 (List.mem_of_getElem? (i := 5) rfl) rfl, tw14 (List.mem_of_getElem? (i := 42) rfl) rfl, ⟨by decide +kernel, by decide +kernel, by decide +kernel⟩, (by decide +kernel : rmaxl 87 ≤ 31), by decide +kernel, (Or.inr ⟨.int, rfl, rfl⟩), (fun h => absurd (show rinit 87 = true from h) (by decide +kernel))⟩
set_option maxRecDepth 100000 in
theorem pm88 (kn : List rM) : rpoM (rpar kn) rE0 88 3 := ⟨tw1 (List.mem_of_getElem? (i := 5) rfl) rfl, tw14 (List.mem_of_getElem? (i := 50) rfl) rfl, ⟨by decide +kernel, by decide +kernel, by decide +kernel⟩, (by decide +kernel : rmaxl 88 ≤ 31), by decide +kernel, (Or.inr ⟨.int, rfl, rfl⟩), (fun h => absurd (show rinit 88 = true from h) (by decide +kernel))⟩
set_option maxRecDepth 100000 in
theorem pm89 (kn : List rM) : rpoM (rpar kn) rE0 89 2 := ⟨tw1 (List.mem_of_getElem? (i := 5) rfl) rfl, tw11 (List.mem_of_getElem? (i := 66) rfl) rfl, ⟨by decide +kernel, by decide +kernel, by decide +kernel⟩, (by decide +kernel : rmaxl 89 ≤ 31), by decide +kernel, (Or.inr ⟨.int, rfl, rfl⟩), (fun h => absurd (show rinit 89 = true from h) (by decide +kernel))⟩
set_option maxRecDepth 100000 in
theorem pm90 (kn : List rM) : rpoM (rpar kn) rE0 90 1 := ⟨tw1 (List.mem_of_getElem? (i := 5) rfl) rfl, tw14 (List.mem_of_getElem? (i := 57) rfl) rfl, ⟨by decide +kernel, by decide +kernel, by decide +kernel⟩, (by decide +kernel : rmaxl 90 ≤ 31), by decide +kernel, (Or.inr ⟨.int, rfl, rfl⟩), (fun h => absurd (show rinit 90 = true from h) (by decide +kernel))⟩
set_option maxRecDepth 100000 in
theorem pm91 (kn : List rM) : rpoM (rpar kn) rE0 91 1 := ⟨tw1 (List.mem_of_getElem? (i := 5) rfl) rfl, tw14 (List.mem_of_getElem? (i := 61) rfl) rfl, ⟨by decide +kernel, by decide +kernel, by decide +kernel⟩, (by decide +kernel : rmaxl 91 ≤ 31), by decide +kernel, (Or.inr ⟨.int, rfl, rfl⟩), (fun h => absurd (show rinit 91 = true from h) (by decide +kernel))⟩
set_option maxRecDepth 100000 in
theorem pm92 (kn : List rM) : rpoM (rpar kn) rE0 92 0 := ⟨tw1 (List.mem_of_getElem? (i := 18) rfl) rfl, tw2 (List.mem_of_getElem? (i := 212) rfl) rfl, ⟨by decide +kernel, by decide +kernel, by decide +kernel⟩, (by decide +kernel : rmaxl 92 ≤ 31), by decide +kernel, (Or.inl ⟨rfl, rfl⟩), (fun _ => rfl)⟩
set_option maxRecDepth 100000 in
theorem pm93 (kn : List rM) : rpoM (rpar kn) rE0 93 3 := ⟨tw1 (List.mem_of_getElem? (i := 18) rfl) rfl, tw3 (List.mem_of_getElem? (i := 73) rfl) rfl, ⟨by decide +kernel, by decide +kernel, by decide +kernel⟩, (by decide +kernel : rmaxl 93 ≤ 31), by decide +kernel, (Or.inr ⟨.boolean, rfl, rfl⟩), (fun h => absurd (show rinit 93 = true from h) (by decide +kernel))⟩
set_option maxRecDepth 100000 in
theorem pm94 (kn : List rM) : rpoM (rpar kn) rE0 94 1 := ⟨tw1 (List.mem_of_getElem? (i := 18) rfl) rfl, tw3 (List.mem_of_getElem? (i := 84) rfl) rfl, ⟨by decide +kernel, by decide +kernel, by decide +kernel⟩, (by decide +kernel : rmaxl 94 ≤ 31), by decide +kernel, (Or.inr ⟨.long, rfl, rfl⟩), (fun h => absurd (show rinit 94 = true from h) (by decide +kernel))⟩
set_option maxRecDepth 100000 in
theorem pm95 (kn : List rM) : rpoM (rpar kn) rE0 95 1 := ⟨tw1 (List.mem_of_getElem? (i := 18) rfl) rfl, tw3 (List.mem_of_getElem? (i := 80) rfl) rfl, ⟨by decide +kernel, by decide +kernel, by decide +kernel⟩, (by decide +kernel : rmaxl 95 ≤ 31), by decide +kernel, (Or.inr ⟨.long, rfl, rfl⟩), (fun h => absurd (show rinit 95 = true from h) (by decide +kernel))⟩
set_option maxRecDepth 100000 in
theorem pm96 (kn : List rM) : rpoM (rpar kn) rE0 96 0 := ⟨tw1 (List.mem_of_getElem? (i := 16) rfl) rfl, tw2 (List.mem_of_getElem? (i := 155) rfl) rfl, ⟨by decide +kernel, by decide +kernel, by decide +kernel⟩, (by decide +kernel : rmaxl 96 ≤ 31), by decide +kernel, (Or.inl ⟨rfl, rfl⟩), (fun _ => rfl)⟩
set_option maxRecDepth 100000 in
theorem pm97 (kn : List rM) : rpoM (rpar kn) rE0 97 1 := ⟨tw1 (List.mem_of_getElem? (i := 16) rfl) rfl, tw5 (List.mem_of_getElem? (i := 148) rfl) rfl, ⟨by decide +kernel, by decide +kernel, by decide +kernel⟩, (by decide +kernel : rmaxl 97 ≤ 31), by decide +kernel, (Or.inl ⟨rfl, rfl⟩), (fun h => absurd (show rinit 97 = true from h) (by decide +kernel))⟩
set_option maxRecDepth 100000 in
theorem pm98 (kn : List rM) : rpoM (rpar kn) rE0 98 2 := ⟨tw1 (List.mem_of_getElem? (i := 16) rfl) rfl, tw5 (List.mem_of_getElem? (i := 155) rfl) rfl, ⟨by decide +kernel, by decide +kernel, by decide +kernel⟩, (by decide +kernel : rmaxl 98 ≤ 31), by decide +kernel, (Or.inr ⟨.int, rfl, rfl⟩), (fun h => absurd (show rinit 98 = true from h) (by decide +kernel))⟩
set_option maxRecDepth 100000 in
theorem pm99 (kn : List rM) : rpoM (rpar kn) rE0 99 2 := ⟨tw1 (List.mem_of_getElem? (i := 16) rfl) rfl, tw5 (List.mem_of_getElem? (i := 152) rfl) rfl, ⟨by decide +kernel, by decide +kernel, by decide +kernel⟩, (by decide +kernel : rmaxl 99 ≤ 31), by decide +kernel, (Or.inl ⟨rfl, rfl⟩), (fun h => absurd (show rinit 99 = true from h) (by decide +kernel))⟩
set_option maxRecDepth 100000 in
theorem pm100 (kn : List rM) : rpoM (rpar kn) rE0 100 0 := ⟨tw1 (List.mem_of_getElem? (i := 16) rfl) rfl, tw5 (List.mem_of_getElem? (i := 159) rfl) rfl, ⟨by decide +kernel, by decide +kernel, by decide +kernel⟩, (by decide +kernel : rmaxl 100 ≤ 31), by decide +kernel, (Or.inl ⟨rfl, rfl⟩), (fun h => absurd (show rinit 100 = true from h) (by decide +kernel))⟩
set_option maxRecDepth 100000 in
theorem pm101 (kn : List rM) : rpoM (rpar kn) rE0 101 0 := ⟨tw1 (List.mem_of_getElem? (i := 16) rfl) rfl, tw5 (List.mem_of_getElem? (i := 163) rfl) rfl, ⟨by decide +kernel, by decide +kernel, by decide +kernel⟩, (by decide +kernel : rmaxl 101 ≤ 31), by decide +kernel, (Or.inr ⟨.int, rfl, rfl⟩), (fun h => absurd (show rinit 101 = true from h) (by decide +kernel))⟩
set_option maxRecDepth 100000 in
theorem pm102 (kn : List rM) : rpoM (rpar kn) rE0 102 0 := ⟨tw1 (List.mem_of_getElem? (i := 16) rfl) rfl, tw5 (List.mem_of_getElem? (i := 167) rfl) rfl, ⟨by decide +kernel, by decide +kernel, by decide +kernel⟩, (by decide +kernel : rmaxl 102 ≤ 31), by decide +kernel, (Or.inl ⟨rfl, rfl⟩), (fun h => absurd (show rinit 102 = true from h) (by decide +kernel))⟩
set_option maxRecDepth 100000 in
theorem pm103 (kn : List rM) : rpoM (rpar kn) rE0 103 0 := ⟨tw1 (List.mem_of_getElem? (i := 16) rfl) rfl, tw3 (List.mem_of_getElem? (i := 107) rfl) rfl, ⟨by decide +kernel, by decide +kernel, by decide +kernel⟩, (by decide +kernel : rmaxl 103 ≤ 31), by decide +kernel, (Or.inl ⟨rfl, rfl⟩), (fun h => absurd (show rinit 103 = true from h) (by decide +kernel))⟩
set_option maxRecDepth 100000 in
theorem pm104 (kn : List rM) : rpoM (rpar kn) rE0 104 1 := ⟨tw1 (List.mem_of_getElem? (i := 16) rfl) rfl, tw5 (List.mem_of_getElem? (i := 172) rfl) rfl, ⟨by decide +kernel, by decide +kernel, by decide +kernel⟩, (by decide +kernel : rmaxl 104 ≤ 31), by decide +kernel, (Or.inr ⟨.boolean, rfl, rfl⟩), (fun h => absurd (show rinit 104 = true from h) (by decide +kernel))⟩
set_option maxRecDepth 100000 in
theorem pm105 (kn : List rM) : rpoM (rpar kn) rE0 105 2 := ⟨tw1 (List.mem_of_getElem? (i := 16) rfl) rfl, tw5 (List.mem_of_getElem? (i := 225) rfl) rfl, ⟨by decide +kernel, by decide +kernel, by decide +kernel⟩, (by decide +kernel : rmaxl 105 ≤ 31), by decide +kernel, (Or.inl ⟨rfl, rfl⟩), (fun h => absurd (show rinit 105 = true from h) (by decide +kernel))⟩
set_option maxRecDepth 100000 in
theorem pm106 (kn : List rM) : rpoM (rpar kn) rE0 106 3 := ⟨tw1 (List.mem_of_getElem? (i := 16) rfl) rfl, tw5 (List.mem_of_getElem? (i := 176) rfl) rfl, ⟨by decide +kernel, by decide +kernel, by decide +kernel⟩, (by decide +kernel : rmaxl 106 ≤ 31), by decide +kernel, (Or.inl ⟨rfl, rfl⟩), (fun h => absurd (show rinit 106 = true from h) (by decide +kernel))⟩
set_option maxRecDepth 100000 in
theorem pm107 (kn : List rM) : rpoM (rpar kn) rE0 107 3 := ⟨tw1 (List.mem_of_getElem? (i := 16) rfl) rfl, tw3 (List.mem_of_getElem? (i := 50) rfl) rfl, ⟨by decide +kernel, by decide +kernel, by decide +kernel⟩, (by decide +kernel : rmaxl 107 ≤ 31), by decide +kernel, (Or.inr ⟨.int, rfl, rfl⟩), (fun h => absurd (show rinit 107 = true from h) (by decide +kernel))⟩
set_option maxRecDepth 100000 in
theorem pm108 (kn : List rM) : rpoM (rpar kn) rE0 108 3 := ⟨tw1 (List.mem_of_getElem? (i := 16) rfl) rfl, tw3 (List.mem_of_getElem? (i := 54) rfl) rfl, ⟨by decide +kernel, by decide +kernel, by decide +kernel⟩, (by decide +kernel : rmaxl 108 ≤ 31), by decide +kernel, (Or.inr ⟨.int, rfl, rfl⟩), (fun h => absurd (show rinit 108 = true from h) (by decide +kernel))⟩
set_option maxRecDepth 100000 in
theorem pm109 (kn : List rM) : rpoM (rpar kn) rE0 109 1 := ⟨tw1 (List.mem_of_getElem? (i := 16) rfl) rfl, tw3 (List.mem_of_getElem? (i := 101) rfl) rfl, ⟨by decide +kernel, by decide +kernel, by decide +kernel⟩, (by decide +kernel : rmaxl 109 ≤ 31), by decide +kernel, (Or.inr ⟨.boolean, rfl, rfl⟩), (fun h => absurd (show rinit 109 = true from h) (by decide +kernel))⟩
set_option maxRecDepth 100000 in
theorem pm110 (kn : List rM) : rpoM (rpar kn) rE0 110 5 := ⟨tw1 (List.mem_of_getElem? (i := 16) rfl) rfl, tw7 (List.mem_of_getElem? (i := 124) rfl) rfl, ⟨by decide +kernel, by decide +kernel, by decide +kernel⟩, (by decide +kernel : rmaxl 110 ≤ 31), by decide +kernel, (Or.inr ⟨.boolean, rfl, rfl⟩), (fun h => absurd (show rinit 110 = true from h) (by decide +kernel))⟩
set_option maxRecDepth 100000 in
theorem pm111 (kn : List rM) : rpoM (rpar kn) rE0 111 4 := ⟨tw1 (List.mem_of_getElem? (i := 16) rfl) rfl, tw5 (List.mem_of_getElem? (i := 236) rfl) rfl, ⟨by decide +kernel, by decide +kernel, by decide +kernel⟩, (by decide +kernel : rmaxl 111 ≤ 31), by decide +kernel, (Or.inl ⟨rfl, rfl⟩), (fun h => absurd (show rinit 111 = true from h) (by decide +kernel))⟩
set_option maxRecDepth 100000 in
theorem pm112 (kn : List rM) : rpoM (rpar kn) rE0 112 3 := ⟨tw1 (List.mem_of_getElem? (i := 16) rfl) rfl, tw5 (List.mem_of_getElem? (i := 144) rfl) rfl, ⟨by decide +kernel, by decide +kernel, by decide +kernel⟩, (by decide +kernel : rmaxl 112 ≤ 31), by decide +kernel, (Or.inr ⟨.int, rfl, rfl⟩), (fun h => absurd (show rinit 112 = true from h) (by decide +kernel))⟩
set_option maxRecDepth 100000 in
theorem pm113 (kn : List rM) : rpoM (rpar kn) rE0 113 0 := ⟨tw1 (List.mem_of_getElem? (i := 3) rfl) rfl, tw1 (List.mem_of_getElem? (i := 79) rfl) rfl, ⟨by decide +kernel, by decide +kernel, by decide +kernel⟩, (by decide +kernel : rmaxl 113 ≤ 31), by decide +kernel, (Or.inl ⟨rfl, rfl⟩), (fun _ => rfl)⟩
set_option maxRecDepth 100000 in
theorem pm114 (kn : List rM) : rpoM (rpar kn) rE0 114 0 := ⟨tw1 (List.mem_of_getElem? (i := 3) rfl) rfl, tw2 (List.mem_of_getElem? (i := 138) rfl) rfl, ⟨by decide +kernel, by decide +kernel, by decide +kernel⟩, (by decide +kernel : rmaxl 114 ≤ 31), by decide +kernel, (Or.inl ⟨rfl, rfl⟩), (fun h => absurd (show rinit 114 = true from h) (by decide +kernel))⟩
set_option maxRecDepth 100000 in
theorem pm115 (kn : List rM) : rpoM (rpar kn) rE0 115 1 := ⟨tw1 (List.mem_of_getElem? (i := 3) rfl) rfl, tw2 (List.mem_of_getElem? (i := 134) rfl) rfl, ⟨by decide +kernel, by decide +kernel, by decide +kernel⟩, (by decide +kernel : rmaxl 115 ≤ 31), by decide +kernel, (Or.inr ⟨.int, rfl, rfl⟩), (fun h => absurd (show rinit 115 = true from h) (by decide +kernel))⟩
set_option maxRecDepth 100000 in
theorem pm116 (kn : List rM) : rpoM (rpar kn) rE0 116 0 := ⟨tw1 (List.mem_of_getElem? (i := 3) rfl) rfl, tw2 (List.mem_of_getElem? (i := 150) rfl) rfl, ⟨by decide +kernel, by decide +kernel, by decide +kernel⟩, (by decide +kernel : rmaxl 116 ≤ 31), by decide +kernel, (Or.inl ⟨rfl, rfl⟩), (fun h => absurd (show rinit 116 = true from h) (by decide +kernel))⟩
set_option maxRecDepth 100000 in
theorem pm117 (kn : List rM) : rpoM (rpar kn) rE0 117 0 := ⟨tw1 (List.mem_of_getElem? (i := 3) rfl) rfl, tw3 (List.mem_of_getElem? (i := 40) rfl) rfl, ⟨by decide +kernel, by decide +kernel, by decide +kernel⟩, (by decide +kernel : rmaxl 117 ≤ 31), by decide +kernel, (Or.inr ⟨(.array (.object "PackHouse$Share")), rfl, rfl⟩), (fun h => absurd (show rinit 117 = true from h) (by decide +kernel))⟩
set_option maxRecDepth 100000 in
theorem pm118 (kn : List rM) : rpoM (rpar kn) rE0 118 4 := ⟨tw1 (List.mem_of_getElem? (i := 3) rfl) rfl, tw3 (List.mem_of_getElem? (i := 117) rfl) rfl, ⟨by decide +kernel, by decide +kernel, by decide +kernel⟩, (by decide +kernel : rmaxl 118 ≤ 31), by decide +kernel, (Or.inr ⟨.int, rfl, rfl⟩), (fun h => absurd (show rinit 118 = true from h) (by decide +kernel))⟩
set_option maxRecDepth 100000 in
theorem pm119 (kn : List rM) : rpoM (rpar kn) rE0 119 3 := ⟨tw1 (List.mem_of_getElem? (i := 3) rfl) rfl, tw3 (List.mem_of_getElem? (i := 122) rfl) rfl, ⟨by decide +kernel, by decide +kernel, by decide +kernel⟩, (by decide +kernel : rmaxl 119 ≤ 31), by decide +kernel, (Or.inr ⟨.int, rfl, rfl⟩), (fun h => absurd (show rinit 119 = true from h) (by decide +kernel))⟩
set_option maxRecDepth 100000 in
theorem pm120 (kn : List rM) : rpoM (rpar kn) rE0 120 0 := ⟨tw1 (List.mem_of_getElem? (i := 19) rfl) rfl, tw3 (List.mem_of_getElem? (i := 153) rfl) rfl, ⟨by decide +kernel, by decide +kernel, by decide +kernel⟩, (by decide +kernel : rmaxl 120 ≤ 31), by decide +kernel, (Or.inl ⟨rfl, rfl⟩), (fun _ => rfl)⟩
set_option maxRecDepth 100000 in
theorem pm121 (kn : List rM) : rpoM (rpar kn) rE0 121 3 := ⟨tw1 (List.mem_of_getElem? (i := 19) rfl) rfl, tw4 (List.mem_of_getElem? (i := 51) rfl) rfl, ⟨by decide +kernel, by decide +kernel, by decide +kernel⟩, (by decide +kernel : rmaxl 121 ≤ 31), by decide +kernel, (Or.inl ⟨rfl, rfl⟩), (fun h => absurd (show rinit 121 = true from h) (by decide +kernel))⟩
set_option maxRecDepth 100000 in
theorem pm122 (kn : List rM) : rpoM (rpar kn) rE0 122 1 := ⟨tw1 (List.mem_of_getElem? (i := 19) rfl) rfl, tw4 (List.mem_of_getElem? (i := 74) rfl) rfl, ⟨by decide +kernel, by decide +kernel, by decide +kernel⟩, (by decide +kernel : rmaxl 122 ≤ 31), by decide +kernel, (Or.inr ⟨.int, rfl, rfl⟩), (fun h => absurd (show rinit 122 = true from h) (by decide +kernel))⟩
set_option maxRecDepth 100000 in
theorem pm123 (kn : List rM) : rpoM (rpar kn) rE0 123 1 := ⟨tw1 (List.mem_of_getElem? (i := 19) rfl) rfl, tw4 (List.mem_of_getElem? (i := 60) rfl) rfl, ⟨by decide +kernel, by decide +kernel, by decide +kernel⟩, (by decide +kernel : rmaxl 123 ≤ 31), by decide +kernel, (Or.inl ⟨rfl, rfl⟩), (fun h => absurd (show rinit 123 = true from h) (by decide +kernel))⟩
set_option maxRecDepth 100000 in
theorem pm124 (kn : List rM) : rpoM (rpar kn) rE0 124 1 := ⟨tw1 (List.mem_of_getElem? (i := 19) rfl) rfl, tw4 (List.mem_of_getElem? (i := 133) rfl) rfl, ⟨by decide +kernel, by decide +kernel, by decide +kernel⟩, (by decide +kernel : rmaxl 124 ≤ 31), by decide +kernel, (Or.inl ⟨rfl, rfl⟩), (fun h => absurd (show rinit 124 = true from h) (by decide +kernel))⟩
set_option maxRecDepth 100000 in
theorem pm125 (kn : List rM) : rpoM (rpar kn) rE0 125 4 := ⟨tw1 (List.mem_of_getElem? (i := 19) rfl) rfl, tw4 (List.mem_of_getElem? (i := 79) rfl) rfl, ⟨by decide +kernel, by decide +kernel, by decide +kernel⟩, (by decide +kernel : rmaxl 125 ≤ 31), by decide +kernel, (Or.inl ⟨rfl, rfl⟩), (fun h => absurd (show rinit 125 = true from h) (by decide +kernel))⟩
set_option maxRecDepth 100000 in
theorem pm126 (kn : List rM) : rpoM (rpar kn) rE0 126 1 := ⟨tw1 (List.mem_of_getElem? (i := 19) rfl) rfl, tw4 (List.mem_of_getElem? (i := 99) rfl) rfl, ⟨by decide +kernel, by decide +kernel, by decide +kernel⟩, (by decide +kernel : rmaxl 126 ≤ 31), by decide +kernel, (Or.inl ⟨rfl, rfl⟩), (fun h => absurd (show rinit 126 = true from h) (by decide +kernel))⟩
set_option maxRecDepth 100000 in
theorem pm127 (kn : List rM) : rpoM (rpar kn) rE0 127 1 := ⟨tw1 (List.mem_of_getElem? (i := 19) rfl) rfl, tw4 (List.mem_of_getElem? (i := 83) rfl) rfl, ⟨by decide +kernel, by decide +kernel, by decide +kernel⟩, (by decide +kernel : rmaxl 127 ≤ 31), by decide +kernel, (Or.inr ⟨.boolean, rfl, rfl⟩), (fun h => absurd (show rinit 127 = true from h) (by decide +kernel))⟩
set_option maxRecDepth 100000 in
theorem pm128 (kn : List rM) : rpoM (rpar kn) rE0 128 2 := ⟨tw1 (List.mem_of_getElem? (i := 19) rfl) rfl, tw4 (List.mem_of_getElem? (i := 91) rfl) rfl, ⟨by decide +kernel, by decide +kernel, by decide +kernel⟩, (by decide +kernel : rmaxl 128 ≤ 31), by decide +kernel, (Or.inr ⟨.int, rfl, rfl⟩), (fun h => absurd (show rinit 128 = true from h) (by decide +kernel))⟩
set_option maxRecDepth 100000 in
theorem pm129 (kn : List rM) : rpoM (rpar kn) rE0 129 2 := ⟨tw1 (List.mem_of_getElem? (i := 19) rfl) rfl, tw4 (List.mem_of_getElem? (i := 87) rfl) rfl, ⟨by decide +kernel, by decide +kernel, by decide +kernel⟩, (by decide +kernel : rmaxl 129 ≤ 31), by decide +kernel, (Or.inr ⟨.boolean, rfl, rfl⟩), (fun h => absurd (show rinit 129 = true from h) (by decide +kernel))⟩
set_option maxRecDepth 100000 in
theorem pm130 (kn : List rM) : rpoM (rpar kn) rE0 130 1 := ⟨tw1 (List.mem_of_getElem? (i := 19) rfl) rfl, tw4 (List.mem_of_getElem? (i := 95) rfl) rfl, ⟨by decide +kernel, by decide +kernel, by decide +kernel⟩, (by decide +kernel : rmaxl 130 ≤ 31), by decide +kernel, (Or.inl ⟨rfl, rfl⟩), (fun h => absurd (show rinit 130 = true from h) (by decide +kernel))⟩
set_option maxRecDepth 100000 in
theorem pm131 (kn : List rM) : rpoM (rpar kn) rE0 131 3 := ⟨tw1 (List.mem_of_getElem? (i := 21) rfl) rfl, tw5 (List.mem_of_getElem? (i := 18) rfl) rfl, ⟨by decide +kernel, by decide +kernel, by decide +kernel⟩, (by decide +kernel : rmaxl 131 ≤ 31), by decide +kernel, (Or.inl ⟨rfl, rfl⟩), (fun _ => rfl)⟩
set_option maxRecDepth 100000 in
theorem pm132 (kn : List rM) : rpoM (rpar kn) rE0 132 2 := ⟨tw1 (List.mem_of_getElem? (i := 21) rfl) rfl, tw5 (List.mem_of_getElem? (i := 109) rfl) rfl, ⟨by decide +kernel, by decide +kernel, by decide +kernel⟩, (by decide +kernel : rmaxl 132 ≤ 31), by decide +kernel, (Or.inr ⟨.int, rfl, rfl⟩), (fun h => absurd (show rinit 132 = true from h) (by decide +kernel))⟩
set_option maxRecDepth 100000 in
theorem pm133 (kn : List rM) : rpoM (rpar kn) rE0 133 2 := ⟨tw1 (List.mem_of_getElem? (i := 21) rfl) rfl, tw5 (List.mem_of_getElem? (i := 113) rfl) rfl, ⟨by decide +kernel, by decide +kernel, by decide +kernel⟩, (by decide +kernel : rmaxl 133 ≤ 31), by decide +kernel, (Or.inr ⟨.int, rfl, rfl⟩), (fun h => absurd (show rinit 133 = true from h) (by decide +kernel))⟩
set_option maxRecDepth 100000 in
theorem pm134 (kn : List rM) : rpoM (rpar kn) rE0 134 3 := ⟨tw1 (List.mem_of_getElem? (i := 21) rfl) rfl, tw5 (List.mem_of_getElem? (i := 92) rfl) rfl, ⟨by decide +kernel, by decide +kernel, by decide +kernel⟩, (by decide +kernel : rmaxl 134 ≤ 31), by decide +kernel, (Or.inl ⟨rfl, rfl⟩), (fun h => absurd (show rinit 134 = true from h) (by decide +kernel))⟩
set_option maxRecDepth 100000 in
theorem pm135 (kn : List rM) : rpoM (rpar kn) rE0 135 3 := ⟨tw1 (List.mem_of_getElem? (i := 21) rfl) rfl, tw5 (List.mem_of_getElem? (i := 97) rfl) rfl, ⟨by decide +kernel, by decide +kernel, by decide +kernel⟩, (by decide +kernel : rmaxl 135 ≤ 31), by decide +kernel, (Or.inl ⟨rfl, rfl⟩), (fun h => absurd (show rinit 135 = true from h) (by decide +kernel))⟩
set_option maxRecDepth 100000 in
theorem pm136 (kn : List rM) : rpoM (rpar kn) rE0 136 4 := ⟨tw1 (List.mem_of_getElem? (i := 21) rfl) rfl, tw5 (List.mem_of_getElem? (i := 120) rfl) rfl, ⟨by decide +kernel, by decide +kernel, by decide +kernel⟩, (by decide +kernel : rmaxl 136 ≤ 31), by decide +kernel, (Or.inl ⟨rfl, rfl⟩), (fun h => absurd (show rinit 136 = true from h) (by decide +kernel))⟩
set_option maxRecDepth 100000 in
theorem pm137 (kn : List rM) : rpoM (rpar kn) rE0 137 0 := ⟨tw1 (List.mem_of_getElem? (i := 21) rfl) rfl, tw6 (List.mem_of_getElem? (i := 88) rfl) rfl, ⟨by decide +kernel, by decide +kernel, by decide +kernel⟩, (by decide +kernel : rmaxl 137 ≤ 31), by decide +kernel, (Or.inl ⟨rfl, rfl⟩), (fun h => absurd (show rinit 137 = true from h) (by decide +kernel))⟩
set_option maxRecDepth 100000 in
theorem pm138 (kn : List rM) : rpoM (rpar kn) rE0 138 3 := ⟨tw1 (List.mem_of_getElem? (i := 21) rfl) rfl, tw5 (List.mem_of_getElem? (i := 123) rfl) rfl, ⟨by decide +kernel, by decide +kernel, by decide +kernel⟩, (by decide +kernel : rmaxl 138 ≤ 31), by decide +kernel, (Or.inr ⟨.boolean, rfl, rfl⟩), (fun h => absurd (show rinit 138 = true from h) (by decide +kernel))⟩
set_option maxRecDepth 100000 in
theorem pm139 (kn : List rM) : rpoM (rpar kn) rE0 139 2 := ⟨tw1 (List.mem_of_getElem? (i := 21) rfl) rfl, tw5 (List.mem_of_getElem? (i := 130) rfl) rfl, ⟨by decide +kernel, by decide +kernel, by decide +kernel⟩, (by decide +kernel : rmaxl 139 ≤ 31), by decide +kernel, (Or.inl ⟨rfl, rfl⟩), (fun h => absurd (show rinit 139 = true from h) (by decide +kernel))⟩
set_option maxRecDepth 100000 in
theorem pm140 (kn : List rM) : rpoM (rpar kn) rE0 140 0 := ⟨tw1 (List.mem_of_getElem? (i := 21) rfl) rfl, tw5 (List.mem_of_getElem? (i := 136) rfl) rfl, ⟨by decide +kernel, by decide +kernel, by decide +kernel⟩, (by decide +kernel : rmaxl 140 ≤ 31), by decide +kernel, (Or.inl ⟨rfl, rfl⟩), (fun h => absurd (show rinit 140 = true from h) (by decide +kernel))⟩
set_option maxRecDepth 100000 in
theorem pm141 (kn : List rM) : rpoM (rpar kn) rE0 141 2 := ⟨tw1 (List.mem_of_getElem? (i := 21) rfl) rfl, tw5 (List.mem_of_getElem? (i := 140) rfl) rfl, ⟨by decide +kernel, by decide +kernel, by decide +kernel⟩, (by decide +kernel : rmaxl 141 ≤ 31), by decide +kernel, (Or.inr ⟨.int, rfl, rfl⟩), (fun h => absurd (show rinit 141 = true from h) (by decide +kernel))⟩
set_option maxRecDepth 100000 in
theorem pm142 (kn : List rM) : rpoM (rpar kn) rE0 142 1 := ⟨tw1 (List.mem_of_getElem? (i := 21) rfl) rfl, tw5 (List.mem_of_getElem? (i := 232) rfl) rfl, ⟨by decide +kernel, by decide +kernel, by decide +kernel⟩, (by decide +kernel : rmaxl 142 ≤ 31), by decide +kernel, (Or.inl ⟨rfl, rfl⟩), (fun h => absurd (show rinit 142 = true from h) (by decide +kernel))⟩
set_option maxRecDepth 100000 in
theorem pm143 (kn : List rM) : rpoM (rpar kn) rE0 143 0 := ⟨tw1 (List.mem_of_getElem? (i := 21) rfl) rfl, tw6 (List.mem_of_getElem? (i := 0) rfl) rfl, ⟨by decide +kernel, by decide +kernel, by decide +kernel⟩, (by decide +kernel : rmaxl 143 ≤ 31), by decide +kernel, (Or.inr ⟨.int, rfl, rfl⟩), (fun h => absurd (show rinit 143 = true from h) (by decide +kernel))⟩
set_option maxRecDepth 100000 in
theorem pm144 (kn : List rM) : rpoM (rpar kn) rE0 144 0 := ⟨tw1 (List.mem_of_getElem? (i := 21) rfl) rfl, tw6 (List.mem_of_getElem? (i := 4) rfl) rfl, ⟨by decide +kernel, by decide +kernel, by decide +kernel⟩, (by decide +kernel : rmaxl 144 ≤ 31), by decide +kernel, (Or.inl ⟨rfl, rfl⟩), (fun h => absurd (show rinit 144 = true from h) (by decide +kernel))⟩
set_option maxRecDepth 100000 in
theorem pm145 (kn : List rM) : rpoM (rpar kn) rE0 145 2 := ⟨tw1 (List.mem_of_getElem? (i := 21) rfl) rfl, tw6 (List.mem_of_getElem? (i := 23) rfl) rfl, ⟨by decide +kernel, by decide +kernel, by decide +kernel⟩, (by decide +kernel : rmaxl 145 ≤ 31), by decide +kernel, (Or.inr ⟨.int, rfl, rfl⟩), (fun h => absurd (show rinit 145 = true from h) (by decide +kernel))⟩
set_option maxRecDepth 100000 in
theorem pm146 (kn : List rM) : rpoM (rpar kn) rE0 146 1 := ⟨tw1 (List.mem_of_getElem? (i := 21) rfl) rfl, tw6 (List.mem_of_getElem? (i := 34) rfl) rfl, ⟨by decide +kernel, by decide +kernel, by decide +kernel⟩, (by decide +kernel : rmaxl 146 ≤ 31), by decide +kernel, (Or.inr ⟨.int, rfl, rfl⟩), (fun h => absurd (show rinit 146 = true from h) (by decide +kernel))⟩
set_option maxRecDepth 100000 in
theorem pm147 (kn : List rM) : rpoM (rpar kn) rE0 147 1 := ⟨tw1 (List.mem_of_getElem? (i := 21) rfl) rfl, tw6 (List.mem_of_getElem? (i := 30) rfl) rfl, ⟨by decide +kernel, by decide +kernel, by decide +kernel⟩, (by decide +kernel : rmaxl 147 ≤ 31), by decide +kernel, (Or.inl ⟨rfl, rfl⟩), (fun h => absurd (show rinit 147 = true from h) (by decide +kernel))⟩
set_option maxRecDepth 100000 in
theorem pm148 (kn : List rM) : rpoM (rpar kn) rE0 148 3 := ⟨tw1 (List.mem_of_getElem? (i := 21) rfl) rfl, tw6 (List.mem_of_getElem? (i := 55) rfl) rfl, ⟨by decide +kernel, by decide +kernel, by decide +kernel⟩, (by decide +kernel : rmaxl 148 ≤ 31), by decide +kernel, (Or.inl ⟨rfl, rfl⟩), (fun h => absurd (show rinit 148 = true from h) (by decide +kernel))⟩
set_option maxRecDepth 100000 in
theorem pm149 (kn : List rM) : rpoM (rpar kn) rE0 149 4 := ⟨tw1 (List.mem_of_getElem? (i := 21) rfl) rfl, tw6 (List.mem_of_getElem? (i := 50) rfl) rfl, ⟨by decide +kernel, by decide +kernel, by decide +kernel⟩, (by decide +kernel : rmaxl 149 ≤ 31), by decide +kernel, (Or.inr ⟨.int, rfl, rfl⟩), (fun h => absurd (show rinit 149 = true from h) (by decide +kernel))⟩
set_option maxRecDepth 100000 in
theorem pm150 (kn : List rM) : rpoM (rpar kn) rE0 150 1 := ⟨tw1 (List.mem_of_getElem? (i := 21) rfl) rfl, tw6 (List.mem_of_getElem? (i := 67) rfl) rfl, ⟨by decide +kernel, by decide +kernel, by decide +kernel⟩, (by decide +kernel : rmaxl 150 ≤ 31), by decide +kernel, (Or.inl ⟨rfl, rfl⟩), (fun h => absurd (show rinit 150 = true from h) (by decide +kernel))⟩
set_option maxRecDepth 100000 in
theorem pm151 (kn : List rM) : rpoM (rpar kn) rE0 151 3 := ⟨tw1 (List.mem_of_getElem? (i := 21) rfl) rfl, tw6 (List.mem_of_getElem? (i := 81) rfl) rfl, ⟨by decide +kernel, by decide +kernel, by decide +kernel⟩, (by decide +kernel : rmaxl 151 ≤ 31), by decide +kernel, (Or.inr ⟨.int, rfl, rfl⟩), (fun h => absurd (show rinit 151 = true from h) (by decide +kernel))⟩
set_option maxRecDepth 100000 in
theorem pm152 (kn : List rM) : rpoM (rpar kn) rE0 152 1 := ⟨tw1 (List.mem_of_getElem? (i := 21) rfl) rfl, tw6 (List.mem_of_getElem? (i := 72) rfl) rfl, ⟨by decide +kernel, by decide +kernel, by decide +kernel⟩, (by decide +kernel : rmaxl 152 ≤ 31), by decide +kernel, (Or.inl ⟨rfl, rfl⟩), (fun h => absurd (show rinit 152 = true from h) (by decide +kernel))⟩
set_option maxRecDepth 100000 in
theorem pm153 (kn : List rM) : rpoM (rpar kn) rE0 153 2 := ⟨tw1 (List.mem_of_getElem? (i := 21) rfl) rfl, tw6 (List.mem_of_getElem? (i := 93) rfl) rfl, ⟨by decide +kernel, by decide +kernel, by decide +kernel⟩, (by decide +kernel : rmaxl 153 ≤ 31), by decide +kernel, (Or.inr ⟨.boolean, rfl, rfl⟩), (fun h => absurd (show rinit 153 = true from h) (by decide +kernel))⟩
set_option maxRecDepth 100000 in
theorem pm154 (kn : List rM) : rpoM (rpar kn) rE0 154 2 := ⟨tw1 (List.mem_of_getElem? (i := 21) rfl) rfl, tw6 (List.mem_of_getElem? (i := 100) rfl) rfl, ⟨by decide +kernel, by decide +kernel, by decide +kernel⟩, (by decide +kernel : rmaxl 154 ≤ 31), by decide +kernel, (Or.inl ⟨rfl, rfl⟩), (fun h => absurd (show rinit 154 = true from h) (by decide +kernel))⟩
set_option maxRecDepth 100000 in
theorem pm155 (kn : List rM) : rpoM (rpar kn) rE0 155 0 := ⟨tw1 (List.mem_of_getElem? (i := 2) rfl) rfl, tw1 (List.mem_of_getElem? (i := 36) rfl) rfl, ⟨by decide +kernel, by decide +kernel, by decide +kernel⟩, (by decide +kernel : rmaxl 155 ≤ 31), by decide +kernel, (Or.inl ⟨rfl, rfl⟩), (fun _ => rfl)⟩
set_option maxRecDepth 100000 in
theorem pm156 (kn : List rM) : rpoM (rpar kn) rE0 156 0 := ⟨tw1 (List.mem_of_getElem? (i := 2) rfl) rfl, tw2 (List.mem_of_getElem? (i := 125) rfl) rfl, ⟨by decide +kernel, by decide +kernel, by decide +kernel⟩, (by decide +kernel : rmaxl 156 ≤ 31), by decide +kernel, (Or.inl ⟨rfl, rfl⟩), (fun h => absurd (show rinit 156 = true from h) (by decide +kernel))⟩
set_option maxRecDepth 100000 in
theorem pm157 (kn : List rM) : rpoM (rpar kn) rE0 157 1 := ⟨tw1 (List.mem_of_getElem? (i := 2) rfl) rfl, tw1 (List.mem_of_getElem? (i := 204) rfl) rfl, ⟨by decide +kernel, by decide +kernel, by decide +kernel⟩, (by decide +kernel : rmaxl 157 ≤ 31), by decide +kernel, (Or.inr ⟨.boolean, rfl, rfl⟩), (fun h => absurd (show rinit 157 = true from h) (by decide +kernel))⟩
set_option maxRecDepth 100000 in
theorem pm158 (kn : List rM) : rpoM (rpar kn) rE0 158 1 := ⟨tw1 (List.mem_of_getElem? (i := 2) rfl) rfl, tw2 (List.mem_of_getElem? (i := 121) rfl) rfl, ⟨by decide +kernel, by decide +kernel, by decide +kernel⟩, (by decide +kernel : rmaxl 158 ≤ 31), by decide +kernel, (Or.inl ⟨rfl, rfl⟩), (fun h => absurd (show rinit 158 = true from h) (by decide +kernel))⟩
set_option maxRecDepth 100000 in
theorem pm159 (kn : List rM) : rpoM (rpar kn) rE0 159 1 := ⟨tw1 (List.mem_of_getElem? (i := 2) rfl) rfl, tw1 (List.mem_of_getElem? (i := 233) rfl) rfl, ⟨by decide +kernel, by decide +kernel, by decide +kernel⟩, (by decide +kernel : rmaxl 159 ≤ 31), by decide +kernel, (Or.inl ⟨rfl, rfl⟩), (fun h => absurd (show rinit 159 = true from h) (by decide +kernel))⟩
set_option maxRecDepth 100000 in
theorem pm160 (kn : List rM) : rpoM (rpar kn) rE0 160 2 := ⟨tw1 (List.mem_of_getElem? (i := 2) rfl) rfl, tw4 (List.mem_of_getElem? (i := 119) rfl) rfl, ⟨by decide +kernel, by decide +kernel, by decide +kernel⟩, (by decide +kernel : rmaxl 160 ≤ 31), by decide +kernel, (Or.inl ⟨rfl, rfl⟩), (fun h => absurd (show rinit 160 = true from h) (by decide +kernel))⟩
set_option maxRecDepth 100000 in
theorem pm161 (kn : List rM) : rpoM (rpar kn) rE0 161 3 := ⟨tw1 (List.mem_of_getElem? (i := 2) rfl) rfl, tw2 (List.mem_of_getElem? (i := 21) rfl) rfl, ⟨by decide +kernel, by decide +kernel, by decide +kernel⟩, (by decide +kernel : rmaxl 161 ≤ 31), by decide +kernel, (Or.inl ⟨rfl, rfl⟩), (fun h => absurd (show rinit 161 = true from h) (by decide +kernel))⟩
set_option maxRecDepth 100000 in
theorem pm162 (kn : List rM) : rpoM (rpar kn) rE0 162 2 := ⟨tw1 (List.mem_of_getElem? (i := 2) rfl) rfl, tw4 (List.mem_of_getElem? (i := 112) rfl) rfl, ⟨by decide +kernel, by decide +kernel, by decide +kernel⟩, (by decide +kernel : rmaxl 162 ≤ 31), by decide +kernel, (Or.inl ⟨rfl, rfl⟩), (fun h => absurd (show rinit 162 = true from h) (by decide +kernel))⟩
set_option maxRecDepth 100000 in
theorem pm163 (kn : List rM) : rpoM (rpar kn) rE0 163 4 := ⟨tw1 (List.mem_of_getElem? (i := 2) rfl) rfl, tw2 (List.mem_of_getElem? (i := 6) rfl) rfl, ⟨by decide +kernel, by decide +kernel, by decide +kernel⟩, (by decide +kernel : rmaxl 163 ≤ 31), by decide +kernel, (Or.inl ⟨rfl, rfl⟩), (fun h => absurd (show rinit 163 = true from h) (by decide +kernel))⟩
set_option maxRecDepth 100000 in
theorem pm164 (kn : List rM) : rpoM (rpar kn) rE0 164 2 := ⟨tw1 (List.mem_of_getElem? (i := 2) rfl) rfl, tw5 (List.mem_of_getElem? (i := 199) rfl) rfl, ⟨by decide +kernel, by decide +kernel, by decide +kernel⟩, (by decide +kernel : rmaxl 164 ≤ 31), by decide +kernel, (Or.inl ⟨rfl, rfl⟩), (fun h => absurd (show rinit 164 = true from h) (by decide +kernel))⟩
set_option maxRecDepth 100000 in
theorem pm165 (kn : List rM) : rpoM (rpar kn) rE0 165 0 := ⟨tw1 (List.mem_of_getElem? (i := 2) rfl) rfl, tw5 (List.mem_of_getElem? (i := 207) rfl) rfl, ⟨by decide +kernel, by decide +kernel, by decide +kernel⟩, (by decide +kernel : rmaxl 165 ≤ 31), by decide +kernel, (Or.inl ⟨rfl, rfl⟩), (fun h => absurd (show rinit 165 = true from h) (by decide +kernel))⟩
set_option maxRecDepth 100000 in
theorem pm166 (kn : List rM) : rpoM (rpar kn) rE0 166 2 := ⟨tw1 (List.mem_of_getElem? (i := 17) rfl) rfl, tw2 (List.mem_of_getElem? (i := 161) rfl) rfl, ⟨by decide +kernel, by decide +kernel, by decide +kernel⟩, (by decide +kernel : rmaxl 166 ≤ 31), by decide +kernel, (Or.inl ⟨rfl, rfl⟩), (fun _ => rfl)⟩
set_option maxRecDepth 100000 in
theorem pm167 (kn : List rM) : rpoM (rpar kn) rE0 167 2 := ⟨tw1 (List.mem_of_getElem? (i := 17) rfl) rfl, tw5 (List.mem_of_getElem? (i := 10) rfl) rfl, ⟨by decide +kernel, by decide +kernel, by decide +kernel⟩, (by decide +kernel : rmaxl 167 ≤ 31), by decide +kernel, (Or.inl ⟨rfl, rfl⟩), (fun h => absurd (show rinit 167 = true from h) (by decide +kernel))⟩
set_option maxRecDepth 100000 in
theorem pm168 (kn : List rM) : rpoM (rpar kn) rE0 168 1 := ⟨tw1 (List.mem_of_getElem? (i := 17) rfl) rfl, tw6 (List.mem_of_getElem? (i := 63) rfl) rfl, ⟨by decide +kernel, by decide +kernel, by decide +kernel⟩, (by decide +kernel : rmaxl 168 ≤ 31), by decide +kernel, (Or.inl ⟨rfl, rfl⟩), (fun h => absurd (show rinit 168 = true from h) (by decide +kernel))⟩
set_option maxRecDepth 100000 in
theorem pm169 (kn : List rM) : rpoM (rpar kn) rE0 169 0 := ⟨tw1 (List.mem_of_getElem? (i := 17) rfl) rfl, tw3 (List.mem_of_getElem? (i := 69) rfl) rfl, ⟨by decide +kernel, by decide +kernel, by decide +kernel⟩, (by decide +kernel : rmaxl 169 ≤ 31), by decide +kernel, (Or.inl ⟨rfl, rfl⟩), (fun h => absurd (show rinit 169 = true from h) (by decide +kernel))⟩
set_option maxRecDepth 100000 in
theorem pm170 (kn : List rM) : rpoM (rpar kn) rE0 170 1 := ⟨tw1 (List.mem_of_getElem? (i := 17) rfl) rfl, tw6 (List.mem_of_getElem? (i := 39) rfl) rfl, ⟨by decide +kernel, by decide +kernel, by decide +kernel⟩, (by decide +kernel : rmaxl 170 ≤ 31), by decide +kernel, (Or.inr ⟨.boolean, rfl, rfl⟩), (fun h => absurd (show rinit 170 = true from h) (by decide +kernel))⟩
set_option maxRecDepth 100000 in
theorem pm171 (kn : List rM) : rpoM (rpar kn) rE0 171 1 := ⟨tw1 (List.mem_of_getElem? (i := 17) rfl) rfl, tw3 (List.mem_of_getElem? (i := 88) rfl) rfl, ⟨by decide +kernel, by decide +kernel, by decide +kernel⟩, (by decide +kernel : rmaxl 171 ≤ 31), by decide +kernel, (Or.inr ⟨.int, rfl, rfl⟩), (fun h => absurd (show rinit 171 = true from h) (by decide +kernel))⟩
set_option maxRecDepth 100000 in
theorem pm172 (kn : List rM) : rpoM (rpar kn) rE0 172 1 := ⟨tw1 (List.mem_of_getElem? (i := 17) rfl) rfl, tw3 (List.mem_of_getElem? (i := 92) rfl) rfl, ⟨by decide +kernel, by decide +kernel, by decide +kernel⟩, (by decide +kernel : rmaxl 172 ≤ 31), by decide +kernel, (Or.inr ⟨.int, rfl, rfl⟩), (fun h => absurd (show rinit 172 = true from h) (by decide +kernel))⟩
set_option maxRecDepth 100000 in
theorem pm173 (kn : List rM) : rpoM (rpar kn) rE0 173 1 := ⟨tw1 (List.mem_of_getElem? (i := 17) rfl) rfl, tw3 (List.mem_of_getElem? (i := 96) rfl) rfl, ⟨by decide +kernel, by decide +kernel, by decide +kernel⟩, (by decide +kernel : rmaxl 173 ≤ 31), by decide +kernel, (Or.inr ⟨.int, rfl, rfl⟩), (fun h => absurd (show rinit 173 = true from h) (by decide +kernel))⟩
set_option maxRecDepth 100000 in
theorem pm174 (kn : List rM) : rpoM (rpar kn) rE0 174 1 := ⟨tw1 (List.mem_of_getElem? (i := 17) rfl) rfl, tw5 (List.mem_of_getElem? (i := 211) rfl) rfl, ⟨by decide +kernel, by decide +kernel, by decide +kernel⟩, (by decide +kernel : rmaxl 174 ≤ 31), by decide +kernel, (Or.inr ⟨.int, rfl, rfl⟩), (fun h => absurd (show rinit 174 = true from h) (by decide +kernel))⟩
set_option maxRecDepth 100000 in
theorem pm175 (kn : List rM) : rpoM (rpar kn) rE0 175 2 := ⟨tw1 (List.mem_of_getElem? (i := 17) rfl) rfl, tw5 (List.mem_of_getElem? (i := 215) rfl) rfl, ⟨by decide +kernel, by decide +kernel, by decide +kernel⟩, (by decide +kernel : rmaxl 175 ≤ 31), by decide +kernel, (Or.inr ⟨.int, rfl, rfl⟩), (fun h => absurd (show rinit 175 = true from h) (by decide +kernel))⟩
set_option maxRecDepth 100000 in
theorem pm176 (kn : List rM) : rpoM (rpar kn) rE0 176 3 := ⟨tw1 (List.mem_of_getElem? (i := 17) rfl) rfl, tw5 (List.mem_of_getElem? (i := 220) rfl) rfl, ⟨by decide +kernel, by decide +kernel, by decide +kernel⟩, (by decide +kernel : rmaxl 176 ≤ 31), by decide +kernel, (Or.inr ⟨.int, rfl, rfl⟩), (fun h => absurd (show rinit 176 = true from h) (by decide +kernel))⟩
set_option maxRecDepth 100000 in
theorem pm177 (kn : List rM) : rpoM (rpar kn) rE0 177 2 := ⟨tw1 (List.mem_of_getElem? (i := 17) rfl) rfl, tw6 (List.mem_of_getElem? (i := 43) rfl) rfl, ⟨by decide +kernel, by decide +kernel, by decide +kernel⟩, (by decide +kernel : rmaxl 177 ≤ 31), by decide +kernel, (Or.inr ⟨.int, rfl, rfl⟩), (fun h => absurd (show rinit 177 = true from h) (by decide +kernel))⟩
set_option maxRecDepth 100000 in
theorem pm178 (kn : List rM) : rpoM (rpar kn) rE0 178 3 := ⟨tw1 (List.mem_of_getElem? (i := 17) rfl) rfl, tw5 (List.mem_of_getElem? (i := 182) rfl) rfl, ⟨by decide +kernel, by decide +kernel, by decide +kernel⟩, (by decide +kernel : rmaxl 178 ≤ 31), by decide +kernel, (Or.inl ⟨rfl, rfl⟩), (fun h => absurd (show rinit 178 = true from h) (by decide +kernel))⟩
set_option maxRecDepth 100000 in
theorem pm179 (kn : List rM) : rpoM (rpar kn) rE0 179 3 := ⟨tw1 (List.mem_of_getElem? (i := 17) rfl) rfl, tw5 (List.mem_of_getElem? (i := 186) rfl) rfl, ⟨by decide +kernel, by decide +kernel, by decide +kernel⟩, (by decide +kernel : rmaxl 179 ≤ 31), by decide +kernel, (Or.inl ⟨rfl, rfl⟩), (fun h => absurd (show rinit 179 = true from h) (by decide +kernel))⟩
set_option maxRecDepth 100000 in
theorem pm180 (kn : List rM) : rpoM (rpar kn) rE0 180 1 := ⟨tw1 (List.mem_of_getElem? (i := 17) rfl) rfl, tw5 (List.mem_of_getElem? (i := 190) rfl) rfl, ⟨by decide +kernel, by decide +kernel, by decide +kernel⟩, (by decide +kernel : rmaxl 180 ≤ 31), by decide +kernel, (Or.inl ⟨rfl, rfl⟩), (fun h => absurd (show rinit 180 = true from h) (by decide +kernel))⟩
set_option maxRecDepth 100000 in
theorem pm181 (kn : List rM) : rpoM (rpar kn) rE0 181 1 := ⟨tw1 (List.mem_of_getElem? (i := 17) rfl) rfl, tw5 (List.mem_of_getElem? (i := 195) rfl) rfl, ⟨by decide +kernel, by decide +kernel, by decide +kernel⟩, (by decide +kernel : rmaxl 181 ≤ 31), by decide +kernel, (Or.inl ⟨rfl, rfl⟩), (fun h => absurd (show rinit 181 = true from h) (by decide +kernel))⟩
set_option maxRecDepth 100000 in
theorem pm182 (kn : List rM) : rpoM (rpar kn) rE0 182 1 := ⟨tw1 (List.mem_of_getElem? (i := 17) rfl) rfl, tw5 (List.mem_of_getElem? (i := 203) rfl) rfl, ⟨by decide +kernel, by decide +kernel, by decide +kernel⟩, (by decide +kernel : rmaxl 182 ≤ 31), by decide +kernel, (Or.inr ⟨.int, rfl, rfl⟩), (fun h => absurd (show rinit 182 = true from h) (by decide +kernel))⟩
set_option maxRecDepth 100000 in
theorem pm183 (kn : List rM) : rpoM (rpar kn) rE0 183 1 := ⟨tw1 (List.mem_of_getElem? (i := 17) rfl) rfl, tw3 (List.mem_of_getElem? (i := 62) rfl) rfl, ⟨by decide +kernel, by decide +kernel, by decide +kernel⟩, (by decide +kernel : rmaxl 183 ≤ 31), by decide +kernel, (Or.inr ⟨.int, rfl, rfl⟩), (fun h => absurd (show rinit 183 = true from h) (by decide +kernel))⟩
set_option maxRecDepth 100000 in
theorem pm184 (kn : List rM) : rpoM (rpar kn) rE0 184 4 := ⟨tw1 (List.mem_of_getElem? (i := 17) rfl) rfl, tw3 (List.mem_of_getElem? (i := 58) rfl) rfl, ⟨by decide +kernel, by decide +kernel, by decide +kernel⟩, (by decide +kernel : rmaxl 184 ≤ 31), by decide +kernel, (Or.inr ⟨.int, rfl, rfl⟩), (fun h => absurd (show rinit 184 = true from h) (by decide +kernel))⟩
set_option maxRecDepth 100000 in
theorem pm185 (kn : List rM) : rpoM (rpar kn) rE0 185 0 := ⟨tw1 (List.mem_of_getElem? (i := 4) rfl) rfl, tw1 (List.mem_of_getElem? (i := 87) rfl) rfl, ⟨by decide +kernel, by decide +kernel, by decide +kernel⟩, (by decide +kernel : rmaxl 185 ≤ 31), by decide +kernel, (Or.inl ⟨rfl, rfl⟩), (fun _ => rfl)⟩
set_option maxRecDepth 100000 in
theorem pm186 (kn : List rM) : rpoM (rpar kn) rE0 186 0 := ⟨tw1 (List.mem_of_getElem? (i := 4) rfl) rfl, tw2 (List.mem_of_getElem? (i := 143) rfl) rfl, ⟨by decide +kernel, by decide +kernel, by decide +kernel⟩, (by decide +kernel : rmaxl 186 ≤ 31), by decide +kernel, (Or.inl ⟨rfl, rfl⟩), (fun h => absurd (show rinit 186 = true from h) (by decide +kernel))⟩
set_option maxRecDepth 100000 in
theorem pm187 (kn : List rM) : rpoM (rpar kn) rE0 187 1 := ⟨tw1 (List.mem_of_getElem? (i := 4) rfl) rfl, tw5 (List.mem_of_getElem? (i := 104) rfl) rfl, ⟨by decide +kernel, by decide +kernel, by decide +kernel⟩, (by decide +kernel : rmaxl 187 ≤ 31), by decide +kernel, (Or.inl ⟨rfl, rfl⟩), (fun h => absurd (show rinit 187 = true from h) (by decide +kernel))⟩
set_option maxRecDepth 100000 in
theorem pm188 (kn : List rM) : rpoM (rpar kn) rE0 188 2 := ⟨tw1 (List.mem_of_getElem? (i := 4) rfl) rfl, tw6 (List.mem_of_getElem? (i := 12) rfl) rfl, ⟨by decide +kernel, by decide +kernel, by decide +kernel⟩, (by decide +kernel : rmaxl 188 ≤ 31), by decide +kernel, (Or.inr ⟨.long, rfl, rfl⟩), (fun h => absurd (show rinit 188 = true from h) (by decide +kernel))⟩
set_option maxRecDepth 100000 in
theorem pm189 (kn : List rM) : rpoM (rpar kn) rE0 189 2 := ⟨tw1 (List.mem_of_getElem? (i := 4) rfl) rfl, tw6 (List.mem_of_getElem? (i := 16) rfl) rfl, ⟨by decide +kernel, by decide +kernel, by decide +kernel⟩, (by decide +kernel : rmaxl 189 ≤ 31), by decide +kernel, (Or.inr ⟨.long, rfl, rfl⟩), (fun h => absurd (show rinit 189 = true from h) (by decide +kernel))⟩
set_option maxRecDepth 100000 in
theorem pm190 (kn : List rM) : rpoM (rpar kn) rE0 190 2 := ⟨tw1 (List.mem_of_getElem? (i := 4) rfl) rfl, tw6 (List.mem_of_getElem? (i := 8) rfl) rfl, ⟨by decide +kernel, by decide +kernel, by decide +kernel⟩, (by decide +kernel : rmaxl 190 ≤ 31), by decide +kernel, (Or.inr ⟨.int, rfl, rfl⟩), (fun h => absurd (show rinit 190 = true from h) (by decide +kernel))⟩
set_option maxRecDepth 100000 in
theorem pm191 (kn : List rM) : rpoM (rpar kn) rE0 191 2 := ⟨tw1 (List.mem_of_getElem? (i := 20) rfl) rfl, tw4 (List.mem_of_getElem? (i := 148) rfl) rfl, ⟨by decide +kernel, by decide +kernel, by decide +kernel⟩, (by decide +kernel : rmaxl 191 ≤ 31), by decide +kernel, (Or.inl ⟨rfl, rfl⟩), (fun _ => rfl)⟩
set_option maxRecDepth 100000 in
theorem pm192 (kn : List rM) : rpoM (rpar kn) rE0 192 3 := ⟨tw1 (List.mem_of_getElem? (i := 20) rfl) rfl, tw6 (List.mem_of_getElem? (i := 194) rfl) rfl, ⟨by decide +kernel, by decide +kernel, by decide +kernel⟩, (by decide +kernel : rmaxl 192 ≤ 31), by decide +kernel, (Or.inr ⟨.boolean, rfl, rfl⟩), (fun h => absurd (show rinit 192 = true from h) (by decide +kernel))⟩
set_option maxRecDepth 100000 in
theorem pm193 (kn : List rM) : rpoM (rpar kn) rE0 193 2 := ⟨tw1 (List.mem_of_getElem? (i := 20) rfl) rfl, tw4 (List.mem_of_getElem? (i := 184) rfl) rfl, ⟨by decide +kernel, by decide +kernel, by decide +kernel⟩, (by decide +kernel : rmaxl 193 ≤ 31), by decide +kernel, (Or.inl ⟨rfl, rfl⟩), (fun h => absurd (show rinit 193 = true from h) (by decide +kernel))⟩
set_option maxRecDepth 100000 in
theorem pm194 (kn : List rM) : rpoM (rpar kn) rE0 194 1 := ⟨tw1 (List.mem_of_getElem? (i := 20) rfl) rfl, tw4 (List.mem_of_getElem? (i := 191) rfl) rfl, ⟨by decide +kernel, by decide +kernel, by decide +kernel⟩, (by decide +kernel : rmaxl 194 ≤ 31), by decide +kernel, (Or.inl ⟨rfl, rfl⟩), (fun h => absurd (show rinit 194 = true from h) (by decide +kernel))⟩
set_option maxRecDepth 100000 in
theorem pm195 (kn : List rM) : rpoM (rpar kn) rE0 195 2 := ⟨tw1 (List.mem_of_getElem? (i := 20) rfl) rfl, tw4 (List.mem_of_getElem? (i := 194) rfl) rfl, ⟨by decide +kernel, by decide +kernel, by decide +kernel⟩, (by decide +kernel : rmaxl 195 ≤ 31), by decide +kernel, (Or.inl ⟨rfl, rfl⟩), (fun h => absurd (show rinit 195 = true from h) (by decide +kernel))⟩
set_option maxRecDepth 100000 in
theorem pm196 (kn : List rM) : rpoM (rpar kn) rE0 196 3 := ⟨tw1 (List.mem_of_getElem? (i := 20) rfl) rfl, tw4 (List.mem_of_getElem? (i := 201) rfl) rfl, ⟨by decide +kernel, by decide +kernel, by decide +kernel⟩, (by decide +kernel : rmaxl 196 ≤ 31), by decide +kernel, (Or.inl ⟨rfl, rfl⟩), (fun h => absurd (show rinit 196 = true from h) (by decide +kernel))⟩
set_option maxRecDepth 100000 in
theorem pm197 (kn : List rM) : rpoM (rpar kn) rE0 197 3 := ⟨tw1 (List.mem_of_getElem? (i := 20) rfl) rfl, tw4 (List.mem_of_getElem? (i := 206) rfl) rfl, ⟨by decide +kernel, by decide +kernel, by decide +kernel⟩, (by decide +kernel : rmaxl 197 ≤ 31), by decide +kernel, (Or.inl ⟨rfl, rfl⟩), (fun h => absurd (show rinit 197 = true from h) (by decide +kernel))⟩
set_option maxRecDepth 100000 in
theorem pm198 (kn : List rM) : rpoM (rpar kn) rE0 198 2 := ⟨tw1 (List.mem_of_getElem? (i := 20) rfl) rfl, tw4 (List.mem_of_getElem? (i := 217) rfl) rfl, ⟨by decide +kernel, by decide +kernel, by decide +kernel⟩, (by decide +kernel : rmaxl 198 ≤ 31), by decide +kernel, (Or.inr ⟨.boolean, rfl, rfl⟩), (fun h => absurd (show rinit 198 = true from h) (by decide +kernel))⟩
set_option maxRecDepth 100000 in
theorem pm199 (kn : List rM) : rpoM (rpar kn) rE0 199 2 := ⟨tw1 (List.mem_of_getElem? (i := 20) rfl) rfl, tw4 (List.mem_of_getElem? (i := 209) rfl) rfl, ⟨by decide +kernel, by decide +kernel, by decide +kernel⟩, (by decide +kernel : rmaxl 199 ≤ 31), by decide +kernel, (Or.inr ⟨.int, rfl, rfl⟩), (fun h => absurd (show rinit 199 = true from h) (by decide +kernel))⟩
set_option maxRecDepth 100000 in
theorem pm200 (kn : List rM) : rpoM (rpar kn) rE0 200 2 := ⟨tw1 (List.mem_of_getElem? (i := 20) rfl) rfl, tw4 (List.mem_of_getElem? (i := 212) rfl) rfl, ⟨by decide +kernel, by decide +kernel, by decide +kernel⟩, (by decide +kernel : rmaxl 200 ≤ 31), by decide +kernel, (Or.inr ⟨.int, rfl, rfl⟩), (fun h => absurd (show rinit 200 = true from h) (by decide +kernel))⟩
set_option maxRecDepth 100000 in
theorem pm201 (kn : List rM) : rpoM (rpar kn) rE0 201 2 := ⟨tw1 (List.mem_of_getElem? (i := 20) rfl) rfl, tw4 (List.mem_of_getElem? (i := 221) rfl) rfl, ⟨by decide +kernel, by decide +kernel, by decide +kernel⟩, (by decide +kernel : rmaxl 201 ≤ 31), by decide +kernel, (Or.inl ⟨rfl, rfl⟩), (fun h => absurd (show rinit 201 = true from h) (by decide +kernel))⟩
set_option maxRecDepth 100000 in
theorem pm202 (kn : List rM) : rpoM (rpar kn) rE0 202 3 := ⟨tw1 (List.mem_of_getElem? (i := 20) rfl) rfl, tw4 (List.mem_of_getElem? (i := 229) rfl) rfl, ⟨by decide +kernel, by decide +kernel, by decide +kernel⟩, (by decide +kernel : rmaxl 202 ≤ 31), by decide +kernel, (Or.inl ⟨rfl, rfl⟩), (fun h => absurd (show rinit 202 = true from h) (by decide +kernel))⟩
set_option maxRecDepth 100000 in
theorem pm203 (kn : List rM) : rpoM (rpar kn) rE0 203 2 := ⟨tw1 (List.mem_of_getElem? (i := 20) rfl) rfl, tw6 (List.mem_of_getElem? (i := 178) rfl) rfl, ⟨by decide +kernel, by decide +kernel, by decide +kernel⟩, (by decide +kernel : rmaxl 203 ≤ 31), by decide +kernel, (Or.inr ⟨.int, rfl, rfl⟩), (fun h => absurd (show rinit 203 = true from h) (by decide +kernel))⟩
set_option maxRecDepth 100000 in
theorem pm204 (kn : List rM) : rpoM (rpar kn) rE0 204 3 := ⟨tw1 (List.mem_of_getElem? (i := 20) rfl) rfl, tw6 (List.mem_of_getElem? (i := 166) rfl) rfl, ⟨by decide +kernel, by decide +kernel, by decide +kernel⟩, (by decide +kernel : rmaxl 204 ≤ 31), by decide +kernel, (Or.inl ⟨rfl, rfl⟩), (fun h => absurd (show rinit 204 = true from h) (by decide +kernel))⟩
set_option maxRecDepth 100000 in
theorem pm205 (kn : List rM) : rpoM (rpar kn) rE0 205 3 := ⟨tw1 (List.mem_of_getElem? (i := 20) rfl) rfl, tw6 (List.mem_of_getElem? (i := 162) rfl) rfl, ⟨by decide +kernel, by decide +kernel, by decide +kernel⟩, (by decide +kernel : rmaxl 205 ≤ 31), by decide +kernel, (Or.inr ⟨.int, rfl, rfl⟩), (fun h => absurd (show rinit 205 = true from h) (by decide +kernel))⟩
set_option maxRecDepth 100000 in
theorem pm206 (kn : List rM) : rpoM (rpar kn) rE0 206 3 := ⟨tw1 (List.mem_of_getElem? (i := 20) rfl) rfl, tw6 (List.mem_of_getElem? (i := 170) rfl) rfl, ⟨by decide +kernel, by decide +kernel, by decide +kernel⟩, (by decide +kernel : rmaxl 206 ≤ 31), by decide +kernel, (Or.inr ⟨.int, rfl, rfl⟩), (fun h => absurd (show rinit 206 = true from h) (by decide +kernel))⟩
set_option maxRecDepth 100000 in
theorem pm207 (kn : List rM) : rpoM (rpar kn) rE0 207 3 := ⟨tw1 (List.mem_of_getElem? (i := 20) rfl) rfl, tw6 (List.mem_of_getElem? (i := 174) rfl) rfl, ⟨by decide +kernel, by decide +kernel, by decide +kernel⟩, (by decide +kernel : rmaxl 207 ≤ 31), by decide +kernel, (Or.inr ⟨.int, rfl, rfl⟩), (fun h => absurd (show rinit 207 = true from h) (by decide +kernel))⟩
set_option maxRecDepth 100000 in
theorem pm208 (kn : List rM) : rpoM (rpar kn) rE0 208 1 := ⟨tw1 (List.mem_of_getElem? (i := 20) rfl) rfl, tw6 (List.mem_of_getElem? (i := 182) rfl) rfl, ⟨by decide +kernel, by decide +kernel, by decide +kernel⟩, (by decide +kernel : rmaxl 208 ≤ 31), by decide +kernel, (Or.inr ⟨.int, rfl, rfl⟩), (fun h => absurd (show rinit 208 = true from h) (by decide +kernel))⟩
set_option maxRecDepth 100000 in
theorem pm209 (kn : List rM) : rpoM (rpar kn) rE0 209 2 := ⟨tw1 (List.mem_of_getElem? (i := 20) rfl) rfl, tw6 (List.mem_of_getElem? (i := 186) rfl) rfl, ⟨by decide +kernel, by decide +kernel, by decide +kernel⟩, (by decide +kernel : rmaxl 209 ≤ 31), by decide +kernel, (Or.inr ⟨.long, rfl, rfl⟩), (fun h => absurd (show rinit 209 = true from h) (by decide +kernel))⟩
set_option maxRecDepth 100000 in
theorem pm210 (kn : List rM) : rpoM (rpar kn) rE0 210 3 := ⟨tw1 (List.mem_of_getElem? (i := 20) rfl) rfl, tw6 (List.mem_of_getElem? (i := 191) rfl) rfl, ⟨by decide +kernel, by decide +kernel, by decide +kernel⟩, (by decide +kernel : rmaxl 210 ≤ 31), by decide +kernel, (Or.inr ⟨.int, rfl, rfl⟩), (fun h => absurd (show rinit 210 = true from h) (by decide +kernel))⟩
set_option maxRecDepth 100000 in
theorem pm211 (kn : List rM) : rpoM (rpar kn) rE0 211 3 := ⟨tw1 (List.mem_of_getElem? (i := 20) rfl) rfl, tw6 (List.mem_of_getElem? (i := 198) rfl) rfl, ⟨by decide +kernel, by decide +kernel, by decide +kernel⟩, (by decide +kernel : rmaxl 211 ≤ 31), by decide +kernel, (Or.inr ⟨.int, rfl, rfl⟩), (fun h => absurd (show rinit 211 = true from h) (by decide +kernel))⟩
set_option maxRecDepth 100000 in
theorem pm212 (kn : List rM) : rpoM (rpar kn) rE0 212 3 := ⟨tw1 (List.mem_of_getElem? (i := 15) rfl) rfl, tw3 (List.mem_of_getElem? (i := 236) rfl) rfl, ⟨by decide +kernel, by decide +kernel, by decide +kernel⟩, (by decide +kernel : rmaxl 212 ≤ 31), by decide +kernel, (Or.inl ⟨rfl, rfl⟩), (fun _ => rfl)⟩
set_option maxRecDepth 100000 in
theorem pm213 (kn : List rM) : rpoM (rpar kn) rE0 213 1 := ⟨tw1 (List.mem_of_getElem? (i := 15) rfl) rfl, tw2 (List.mem_of_getElem? (i := 51) rfl) rfl, ⟨by decide +kernel, by decide +kernel, by decide +kernel⟩, (by decide +kernel : rmaxl 213 ≤ 31), by decide +kernel, (Or.inr ⟨.boolean, rfl, rfl⟩), (fun h => absurd (show rinit 213 = true from h) (by decide +kernel))⟩
set_option maxRecDepth 100000 in
theorem pm214 (kn : List rM) : rpoM (rpar kn) rE0 214 2 := ⟨tw1 (List.mem_of_getElem? (i := 15) rfl) rfl, tw4 (List.mem_of_getElem? (i := 44) rfl) rfl, ⟨by decide +kernel, by decide +kernel, by decide +kernel⟩, (by decide +kernel : rmaxl 214 ≤ 31), by decide +kernel, (Or.inl ⟨rfl, rfl⟩), (fun h => absurd (show rinit 214 = true from h) (by decide +kernel))⟩
set_option maxRecDepth 100000 in
theorem pm215 (kn : List rM) : rpoM (rpar kn) rE0 215 2 := ⟨tw1 (List.mem_of_getElem? (i := 15) rfl) rfl, tw4 (List.mem_of_getElem? (i := 56) rfl) rfl, ⟨by decide +kernel, by decide +kernel, by decide +kernel⟩, (by decide +kernel : rmaxl 215 ≤ 31), by decide +kernel, (Or.inl ⟨rfl, rfl⟩), (fun h => absurd (show rinit 215 = true from h) (by decide +kernel))⟩
set_option maxRecDepth 100000 in
theorem pm216 (kn : List rM) : rpoM (rpar kn) rE0 216 4 := ⟨tw1 (List.mem_of_getElem? (i := 15) rfl) rfl, tw4 (List.mem_of_getElem? (i := 103) rfl) rfl, ⟨by decide +kernel, by decide +kernel, by decide +kernel⟩, (by decide +kernel : rmaxl 216 ≤ 31), by decide +kernel, (Or.inl ⟨rfl, rfl⟩), (fun h => absurd (show rinit 216 = true from h) (by decide +kernel))⟩
set_option maxRecDepth 100000 in
theorem pm217 (kn : List rM) : rpoM (rpar kn) rE0 217 2 := ⟨tw1 (List.mem_of_getElem? (i := 15) rfl) rfl, tw4 (List.mem_of_getElem? (i := 108) rfl) rfl, ⟨by decide +kernel, by decide +kernel, by decide +kernel⟩, (by decide +kernel : rmaxl 217 ≤ 31), by decide +kernel, (Or.inl ⟨rfl, rfl⟩), (fun h => absurd (show rinit 217 = true from h) (by decide +kernel))⟩
set_option maxRecDepth 100000 in
theorem pm218 (kn : List rM) : rpoM (rpar kn) rE0 218 2 := ⟨tw1 (List.mem_of_getElem? (i := 15) rfl) rfl, tw4 (List.mem_of_getElem? (i := 123) rfl) rfl, ⟨by decide +kernel, by decide +kernel, by decide +kernel⟩, (by decide +kernel : rmaxl 218 ≤ 31), by decide +kernel, (Or.inl ⟨rfl, rfl⟩), (fun h => absurd (show rinit 218 = true from h) (by decide +kernel))⟩
set_option maxRecDepth 100000 in
theorem pm219 (kn : List rM) : rpoM (rpar kn) rE0 219 2 := ⟨tw1 (List.mem_of_getElem? (i := 15) rfl) rfl, tw4 (List.mem_of_getElem? (i := 127) rfl) rfl, ⟨by decide +kernel, by decide +kernel, by decide +kernel⟩, (by decide +kernel : rmaxl 219 ≤ 31), by decide +kernel, (Or.inl ⟨rfl, rfl⟩), (fun h => absurd (show rinit 219 = true from h) (by decide +kernel))⟩
set_option maxRecDepth 100000 in
theorem pm220 (kn : List rM) : rpoM (rpar kn) rE0 220 4 := ⟨tw1 (List.mem_of_getElem? (i := 15) rfl) rfl, tw4 (List.mem_of_getElem? (i := 138) rfl) rfl, ⟨by decide +kernel, by decide +kernel, by decide +kernel⟩, (by decide +kernel : rmaxl 220 ≤ 31), by decide +kernel, (Or.inl ⟨rfl, rfl⟩), (fun h => absurd (show rinit 220 = true from h) (by decide +kernel))⟩
set_option maxRecDepth 100000 in
theorem pm221 (kn : List rM) : rpoM (rpar kn) rE0 221 2 := ⟨tw1 (List.mem_of_getElem? (i := 15) rfl) rfl, tw6 (List.mem_of_getElem? (i := 121) rfl) rfl, ⟨by decide +kernel, by decide +kernel, by decide +kernel⟩, (by decide +kernel : rmaxl 221 ≤ 31), by decide +kernel, (Or.inr ⟨.int, rfl, rfl⟩), (fun h => absurd (show rinit 221 = true from h) (by decide +kernel))⟩
set_option maxRecDepth 100000 in
theorem pm222 (kn : List rM) : rpoM (rpar kn) rE0 222 3 := ⟨tw1 (List.mem_of_getElem? (i := 15) rfl) rfl, tw6 (List.mem_of_getElem? (i := 113) rfl) rfl, ⟨by decide +kernel, by decide +kernel, by decide +kernel⟩, (by decide +kernel : rmaxl 222 ≤ 31), by decide +kernel, (Or.inl ⟨rfl, rfl⟩), (fun h => absurd (show rinit 222 = true from h) (by decide +kernel))⟩
set_option maxRecDepth 100000 in
theorem pm223 (kn : List rM) : rpoM (rpar kn) rE0 223 3 := ⟨tw1 (List.mem_of_getElem? (i := 15) rfl) rfl, tw6 (List.mem_of_getElem? (i := 109) rfl) rfl, ⟨by decide +kernel, by decide +kernel, by decide +kernel⟩, (by decide +kernel : rmaxl 223 ≤ 31), by decide +kernel, (Or.inr ⟨.int, rfl, rfl⟩), (fun h => absurd (show rinit 223 = true from h) (by decide +kernel))⟩
set_option maxRecDepth 100000 in
theorem pm224 (kn : List rM) : rpoM (rpar kn) rE0 224 4 := ⟨tw1 (List.mem_of_getElem? (i := 15) rfl) rfl, tw6 (List.mem_of_getElem? (i := 117) rfl) rfl, ⟨by decide +kernel, by decide +kernel, by decide +kernel⟩, (by decide +kernel : rmaxl 224 ≤ 31), by decide +kernel, (Or.inr ⟨.int, rfl, rfl⟩), (fun h => absurd (show rinit 224 = true from h) (by decide +kernel))⟩
set_option maxRecDepth 100000 in
theorem pm225 (kn : List rM) : rpoM (rpar kn) rE0 225 3 := ⟨tw1 (List.mem_of_getElem? (i := 15) rfl) rfl, tw6 (List.mem_of_getElem? (i := 125) rfl) rfl, ⟨by decide +kernel, by decide +kernel, by decide +kernel⟩, (by decide +kernel : rmaxl 225 ≤ 31), by decide +kernel, (Or.inr ⟨.int, rfl, rfl⟩), (fun h => absurd (show rinit 225 = true from h) (by decide +kernel))⟩
set_option maxRecDepth 100000 in
theorem pm226 (kn : List rM) : rpoM (rpar kn) rE0 226 3 := ⟨tw1 (List.mem_of_getElem? (i := 15) rfl) rfl, tw6 (List.mem_of_getElem? (i := 131) rfl) rfl, ⟨by decide +kernel, by decide +kernel, by decide +kernel⟩, (by decide +kernel : rmaxl 226 ≤ 31), by decide +kernel, (Or.inr ⟨.int, rfl, rfl⟩), (fun h => absurd (show rinit 226 = true from h) (by decide +kernel))⟩
set_option maxRecDepth 100000 in
theorem pm227 (kn : List rM) : rpoM (rpar kn) rE0 227 1 := ⟨tw1 (List.mem_of_getElem? (i := 15) rfl) rfl, tw6 (List.mem_of_getElem? (i := 142) rfl) rfl, ⟨by decide +kernel, by decide +kernel, by decide +kernel⟩, (by decide +kernel : rmaxl 227 ≤ 31), by decide +kernel, (Or.inr ⟨.int, rfl, rfl⟩), (fun h => absurd (show rinit 227 = true from h) (by decide +kernel))⟩
set_option maxRecDepth 100000 in
theorem pm228 (kn : List rM) : rpoM (rpar kn) rE0 228 1 := ⟨tw1 (List.mem_of_getElem? (i := 15) rfl) rfl, tw6 (List.mem_of_getElem? (i := 149) rfl) rfl, ⟨by decide +kernel, by decide +kernel, by decide +kernel⟩, (by decide +kernel : rmaxl 228 ≤ 31), by decide +kernel, (Or.inr ⟨.int, rfl, rfl⟩), (fun h => absurd (show rinit 228 = true from h) (by decide +kernel))⟩
set_option maxRecDepth 100000 in
theorem pm229 (kn : List rM) : rpoM (rpar kn) rE0 229 3 := ⟨tw1 (List.mem_of_getElem? (i := 15) rfl) rfl, tw6 (List.mem_of_getElem? (i := 154) rfl) rfl, ⟨by decide +kernel, by decide +kernel, by decide +kernel⟩, (by decide +kernel : rmaxl 229 ≤ 31), by decide +kernel, (Or.inr ⟨.int, rfl, rfl⟩), (fun h => absurd (show rinit 229 = true from h) (by decide +kernel))⟩
set_option maxRecDepth 100000 in
theorem pm230 (kn : List rM) : rpoM (rpar kn) rE0 230 2 := ⟨tw1 (List.mem_of_getElem? (i := 15) rfl) rfl, tw6 (List.mem_of_getElem? (i := 158) rfl) rfl, ⟨by decide +kernel, by decide +kernel, by decide +kernel⟩, (by decide +kernel : rmaxl 230 ≤ 31), by decide +kernel, (Or.inr ⟨.int, rfl, rfl⟩), (fun h => absurd (show rinit 230 = true from h) (by decide +kernel))⟩
set_option maxRecDepth 100000 in
theorem pm231 (kn : List rM) : rpoM (rpar kn) rE0 231 1 := ⟨tw1 (List.mem_of_getElem? (i := 22) rfl) rfl, tw6 (List.mem_of_getElem? (i := 210) rfl) rfl, ⟨by decide +kernel, by decide +kernel, by decide +kernel⟩, (by decide +kernel : rmaxl 231 ≤ 31), by decide +kernel, (Or.inl ⟨rfl, rfl⟩), (fun _ => rfl)⟩
set_option maxRecDepth 100000 in
theorem pm232 (kn : List rM) : rpoM (rpar kn) rE0 232 2 := ⟨tw1 (List.mem_of_getElem? (i := 22) rfl) rfl, tw7 (List.mem_of_getElem? (i := 57) rfl) rfl, ⟨by decide +kernel, by decide +kernel, by decide +kernel⟩, (by decide +kernel : rmaxl 232 ≤ 31), by decide +kernel, (Or.inr ⟨.int, rfl, rfl⟩), (fun h => absurd (show rinit 232 = true from h) (by decide +kernel))⟩
set_option maxRecDepth 100000 in
theorem pm233 (kn : List rM) : rpoM (rpar kn) rE0 233 5 := ⟨tw1 (List.mem_of_getElem? (i := 22) rfl) rfl, tw7 (List.mem_of_getElem? (i := 52) rfl) rfl, ⟨by decide +kernel, by decide +kernel, by decide +kernel⟩, (by decide +kernel : rmaxl 233 ≤ 31), by decide +kernel, (Or.inr ⟨.int, rfl, rfl⟩), (fun h => absurd (show rinit 233 = true from h) (by decide +kernel))⟩
set_option maxRecDepth 100000 in
theorem pm234 (kn : List rM) : rpoM (rpar kn) rE0 234 0 := ⟨tw1 (List.mem_of_getElem? (i := 22) rfl) rfl, tw7 (List.mem_of_getElem? (i := 103) rfl) rfl, ⟨by decide +kernel, by decide +kernel, by decide +kernel⟩, (by decide +kernel : rmaxl 234 ≤ 31), by decide +kernel, (Or.inr ⟨.int, rfl, rfl⟩), (fun h => absurd (show rinit 234 = true from h) (by decide +kernel))⟩
set_option maxRecDepth 100000 in
theorem pm235 (kn : List rM) : rpoM (rpar kn) rE0 235 0 := ⟨tw1 (List.mem_of_getElem? (i := 22) rfl) rfl, tw7 (List.mem_of_getElem? (i := 61) rfl) rfl, ⟨by decide +kernel, by decide +kernel, by decide +kernel⟩, (by decide +kernel : rmaxl 235 ≤ 31), by decide +kernel, (Or.inr ⟨.int, rfl, rfl⟩), (fun h => absurd (show rinit 235 = true from h) (by decide +kernel))⟩
set_option maxRecDepth 100000 in
theorem pm236 (kn : List rM) : rpoM (rpar kn) rE0 236 1 := ⟨tw1 (List.mem_of_getElem? (i := 22) rfl) rfl, tw7 (List.mem_of_getElem? (i := 74) rfl) rfl, ⟨by decide +kernel, by decide +kernel, by decide +kernel⟩, (by decide +kernel : rmaxl 236 ≤ 31), by decide +kernel, (Or.inl ⟨rfl, rfl⟩), (fun h => absurd (show rinit 236 = true from h) (by decide +kernel))⟩
set_option maxRecDepth 100000 in
theorem pm237 (kn : List rM) : rpoM (rpar kn) rE0 237 0 := ⟨tw1 (List.mem_of_getElem? (i := 22) rfl) rfl, tw7 (List.mem_of_getElem? (i := 70) rfl) rfl, ⟨by decide +kernel, by decide +kernel, by decide +kernel⟩, (by decide +kernel : rmaxl 237 ≤ 31), by decide +kernel, (Or.inr ⟨.int, rfl, rfl⟩), (fun h => absurd (show rinit 237 = true from h) (by decide +kernel))⟩
set_option maxRecDepth 100000 in
theorem pm238 (kn : List rM) : rpoM (rpar kn) rE0 238 0 := ⟨tw1 (List.mem_of_getElem? (i := 22) rfl) rfl, tw7 (List.mem_of_getElem? (i := 81) rfl) rfl, ⟨by decide +kernel, by decide +kernel, by decide +kernel⟩, (by decide +kernel : rmaxl 238 ≤ 31), by decide +kernel, (Or.inr ⟨.int, rfl, rfl⟩), (fun h => absurd (show rinit 238 = true from h) (by decide +kernel))⟩
set_option maxRecDepth 100000 in
theorem pm239 (kn : List rM) : rpoM (rpar kn) rE0 239 0 := ⟨tw1 (List.mem_of_getElem? (i := 22) rfl) rfl, tw7 (List.mem_of_getElem? (i := 91) rfl) rfl, ⟨by decide +kernel, by decide +kernel, by decide +kernel⟩, (by decide +kernel : rmaxl 239 ≤ 31), by decide +kernel, (Or.inr ⟨.int, rfl, rfl⟩), (fun h => absurd (show rinit 239 = true from h) (by decide +kernel))⟩
set_option maxRecDepth 100000 in
theorem pm240 (kn : List rM) : rpoM (rpar kn) rE0 240 0 := ⟨tw1 (List.mem_of_getElem? (i := 22) rfl) rfl, tw7 (List.mem_of_getElem? (i := 95) rfl) rfl, ⟨by decide +kernel, by decide +kernel, by decide +kernel⟩, (by decide +kernel : rmaxl 240 ≤ 31), by decide +kernel, (Or.inr ⟨.long, rfl, rfl⟩), (fun h => absurd (show rinit 240 = true from h) (by decide +kernel))⟩
set_option maxRecDepth 100000 in
theorem pm241 (kn : List rM) : rpoM (rpar kn) rE0 241 0 := ⟨tw1 (List.mem_of_getElem? (i := 22) rfl) rfl, tw7 (List.mem_of_getElem? (i := 87) rfl) rfl, ⟨by decide +kernel, by decide +kernel, by decide +kernel⟩, (by decide +kernel : rmaxl 241 ≤ 31), by decide +kernel, (Or.inr ⟨.int, rfl, rfl⟩), (fun h => absurd (show rinit 241 = true from h) (by decide +kernel))⟩
set_option maxRecDepth 100000 in
theorem pm242 (kn : List rM) : rpoM (rpar kn) rE0 242 0 := ⟨tw1 (List.mem_of_getElem? (i := 22) rfl) rfl, tw7 (List.mem_of_getElem? (i := 180) rfl) rfl, ⟨by decide +kernel, by decide +kernel, by decide +kernel⟩, (by decide +kernel : rmaxl 242 ≤ 31), by decide +kernel, (Or.inr ⟨.int, rfl, rfl⟩), (fun h => absurd (show rinit 242 = true from h) (by decide +kernel))⟩
set_option maxRecDepth 100000 in
theorem pm243 (kn : List rM) : rpoM (rpar kn) rE0 243 0 := ⟨tw1 (List.mem_of_getElem? (i := 22) rfl) rfl, tw7 (List.mem_of_getElem? (i := 99) rfl) rfl, ⟨by decide +kernel, by decide +kernel, by decide +kernel⟩, (by decide +kernel : rmaxl 243 ≤ 31), by decide +kernel, (Or.inr ⟨.int, rfl, rfl⟩), (fun h => absurd (show rinit 243 = true from h) (by decide +kernel))⟩
set_option maxRecDepth 100000 in
theorem pm244 (kn : List rM) : rpoM (rpar kn) rE0 244 0 := ⟨tw1 (List.mem_of_getElem? (i := 22) rfl) rfl, tw7 (List.mem_of_getElem? (i := 129) rfl) rfl, ⟨by decide +kernel, by decide +kernel, by decide +kernel⟩, (by decide +kernel : rmaxl 244 ≤ 31), by decide +kernel, (Or.inr ⟨.int, rfl, rfl⟩), (fun h => absurd (show rinit 244 = true from h) (by decide +kernel))⟩
set_option maxRecDepth 100000 in
theorem pm245 (kn : List rM) : rpoM (rpar kn) rE0 245 0 := ⟨tw1 (List.mem_of_getElem? (i := 22) rfl) rfl, tw7 (List.mem_of_getElem? (i := 112) rfl) rfl, ⟨by decide +kernel, by decide +kernel, by decide +kernel⟩, (by decide +kernel : rmaxl 245 ≤ 31), by decide +kernel, (Or.inr ⟨.int, rfl, rfl⟩), (fun h => absurd (show rinit 245 = true from h) (by decide +kernel))⟩
set_option maxRecDepth 100000 in
theorem pm246 (kn : List rM) : rpoM (rpar kn) rE0 246 3 := ⟨tw1 (List.mem_of_getElem? (i := 22) rfl) rfl, tw7 (List.mem_of_getElem? (i := 120) rfl) rfl, ⟨by decide +kernel, by decide +kernel, by decide +kernel⟩, (by decide +kernel : rmaxl 246 ≤ 31), by decide +kernel, (Or.inr ⟨.int, rfl, rfl⟩), (fun h => absurd (show rinit 246 = true from h) (by decide +kernel))⟩
set_option maxRecDepth 100000 in
theorem pm247 (kn : List rM) : rpoM (rpar kn) rE0 247 1 := ⟨tw1 (List.mem_of_getElem? (i := 22) rfl) rfl, tw7 (List.mem_of_getElem? (i := 133) rfl) rfl, ⟨by decide +kernel, by decide +kernel, by decide +kernel⟩, (by decide +kernel : rmaxl 247 ≤ 31), by decide +kernel, (Or.inr ⟨.int, rfl, rfl⟩), (fun h => absurd (show rinit 247 = true from h) (by decide +kernel))⟩
set_option maxRecDepth 100000 in
theorem pm248 (kn : List rM) : rpoM (rpar kn) rE0 248 0 := ⟨tw1 (List.mem_of_getElem? (i := 22) rfl) rfl, tw7 (List.mem_of_getElem? (i := 137) rfl) rfl, ⟨by decide +kernel, by decide +kernel, by decide +kernel⟩, (by decide +kernel : rmaxl 248 ≤ 31), by decide +kernel, (Or.inr ⟨.int, rfl, rfl⟩), (fun h => absurd (show rinit 248 = true from h) (by decide +kernel))⟩
set_option maxRecDepth 100000 in
theorem pm249 (kn : List rM) : rpoM (rpar kn) rE0 249 3 := ⟨tw1 (List.mem_of_getElem? (i := 22) rfl) rfl, tw7 (List.mem_of_getElem? (i := 141) rfl) rfl, ⟨by decide +kernel, by decide +kernel, by decide +kernel⟩, (by decide +kernel : rmaxl 249 ≤ 31), by decide +kernel, (Or.inr ⟨.int, rfl, rfl⟩), (fun h => absurd (show rinit 249 = true from h) (by decide +kernel))⟩
set_option maxRecDepth 100000 in
theorem pm250 (kn : List rM) : rpoM (rpar kn) rE0 250 2 := ⟨tw1 (List.mem_of_getElem? (i := 22) rfl) rfl, tw7 (List.mem_of_getElem? (i := 149) rfl) rfl, ⟨by decide +kernel, by decide +kernel, by decide +kernel⟩, (by decide +kernel : rmaxl 250 ≤ 31), by decide +kernel, (Or.inr ⟨.int, rfl, rfl⟩), (fun h => absurd (show rinit 250 = true from h) (by decide +kernel))⟩
set_option maxRecDepth 100000 in
theorem pm251 (kn : List rM) : rpoM (rpar kn) rE0 251 0 := ⟨tw1 (List.mem_of_getElem? (i := 22) rfl) rfl, tw7 (List.mem_of_getElem? (i := 158) rfl) rfl, ⟨by decide +kernel, by decide +kernel, by decide +kernel⟩, (by decide +kernel : rmaxl 251 ≤ 31), by decide +kernel, (Or.inr ⟨.int, rfl, rfl⟩), (fun h => absurd (show rinit 251 = true from h) (by decide +kernel))⟩
set_option maxRecDepth 100000 in
theorem pm252 (kn : List rM) : rpoM (rpar kn) rE0 252 1 := ⟨tw1 (List.mem_of_getElem? (i := 22) rfl) rfl, tw7 (List.mem_of_getElem? (i := 165) rfl) rfl, ⟨by decide +kernel, by decide +kernel, by decide +kernel⟩, (by decide +kernel : rmaxl 252 ≤ 31), by decide +kernel, (Or.inl ⟨rfl, rfl⟩), (fun h => absurd (show rinit 252 = true from h) (by decide +kernel))⟩
set_option maxRecDepth 100000 in
theorem pm253 (kn : List rM) : rpoM (rpar kn) rE0 253 4 := ⟨tw1 (List.mem_of_getElem? (i := 22) rfl) rfl, tw7 (List.mem_of_getElem? (i := 171) rfl) rfl, ⟨by decide +kernel, by decide +kernel, by decide +kernel⟩, (by decide +kernel : rmaxl 253 ≤ 31), by decide +kernel, (Or.inr ⟨.int, rfl, rfl⟩), (fun h => absurd (show rinit 253 = true from h) (by decide +kernel))⟩
set_option maxRecDepth 100000 in
theorem pm254 (kn : List rM) : rpoM (rpar kn) rE0 254 2 := ⟨tw1 (List.mem_of_getElem? (i := 22) rfl) rfl, tw7 (List.mem_of_getElem? (i := 175) rfl) rfl, ⟨by decide +kernel, by decide +kernel, by decide +kernel⟩, (by decide +kernel : rmaxl 254 ≤ 31), by decide +kernel, (Or.inr ⟨.int, rfl, rfl⟩), (fun h => absurd (show rinit 254 = true from h) (by decide +kernel))⟩
set_option maxRecDepth 100000 in
theorem pm255 (kn : List rM) : rpoM (rpar kn) rE0 255 0 := ⟨tw1 (List.mem_of_getElem? (i := 6) rfl) rfl, tw7 (List.mem_of_getElem? (i := 233) rfl) rfl, ⟨by decide +kernel, by decide +kernel, by decide +kernel⟩, (by decide +kernel : rmaxl 255 ≤ 31), by decide +kernel, (Or.inl ⟨rfl, rfl⟩), (fun _ => rfl)⟩
set_option maxRecDepth 100000 in
theorem pm256 (kn : List rM) : rpoM (rpar kn) rE0 256 1 := ⟨tw1 (List.mem_of_getElem? (i := 10) rfl) rfl, tw8 (List.mem_of_getElem? (i := 155) rfl) rfl, ⟨by decide +kernel, by decide +kernel, by decide +kernel⟩, (by decide +kernel : rmaxl 256 ≤ 31), by decide +kernel, (Or.inl ⟨rfl, rfl⟩), (fun _ => rfl)⟩
set_option maxRecDepth 100000 in
theorem pm257 (kn : List rM) : rpoM (rpar kn) rE0 257 2 := ⟨tw1 (List.mem_of_getElem? (i := 10) rfl) rfl, tw11 (List.mem_of_getElem? (i := 38) rfl) rfl, ⟨by decide +kernel, by decide +kernel, by decide +kernel⟩, (by decide +kernel : rmaxl 257 ≤ 31), by decide +kernel, (Or.inr ⟨.long, rfl, rfl⟩), (fun h => absurd (show rinit 257 = true from h) (by decide +kernel))⟩
set_option maxRecDepth 100000 in
theorem pm258 (kn : List rM) : rpoM (rpar kn) rE0 258 5 := ⟨tw1 (List.mem_of_getElem? (i := 10) rfl) rfl, tw10 (List.mem_of_getElem? (i := 223) rfl) rfl, ⟨by decide +kernel, by decide +kernel, by decide +kernel⟩, (by decide +kernel : rmaxl 258 ≤ 31), by decide +kernel, (Or.inr ⟨.boolean, rfl, rfl⟩), (fun h => absurd (show rinit 258 = true from h) (by decide +kernel))⟩
set_option maxRecDepth 100000 in
theorem pm259 (kn : List rM) : rpoM (rpar kn) rE0 259 1 := ⟨tw1 (List.mem_of_getElem? (i := 10) rfl) rfl, tw10 (List.mem_of_getElem? (i := 239) rfl) rfl, ⟨by decide +kernel, by decide +kernel, by decide +kernel⟩, (by decide +kernel : rmaxl 259 ≤ 31), by decide +kernel, (Or.inr ⟨.int, rfl, rfl⟩), (fun h => absurd (show rinit 259 = true from h) (by decide +kernel))⟩
set_option maxRecDepth 100000 in
theorem pm260 (kn : List rM) : rpoM (rpar kn) rE0 260 1 := ⟨tw1 (List.mem_of_getElem? (i := 10) rfl) rfl, tw11 (List.mem_of_getElem? (i := 2) rfl) rfl, ⟨by decide +kernel, by decide +kernel, by decide +kernel⟩, (by decide +kernel : rmaxl 260 ≤ 31), by decide +kernel, (Or.inr ⟨.int, rfl, rfl⟩), (fun h => absurd (show rinit 260 = true from h) (by decide +kernel))⟩
set_option maxRecDepth 100000 in
theorem pm261 (kn : List rM) : rpoM (rpar kn) rE0 261 4 := ⟨tw1 (List.mem_of_getElem? (i := 10) rfl) rfl, tw10 (List.mem_of_getElem? (i := 235) rfl) rfl, ⟨by decide +kernel, by decide +kernel, by decide +kernel⟩, (by decide +kernel : rmaxl 261 ≤ 31), by decide +kernel, (Or.inr ⟨.int, rfl, rfl⟩), (fun h => absurd (show rinit 261 = true from h) (by decide +kernel))⟩
set_option maxRecDepth 100000 in
theorem pm262 (kn : List rM) : rpoM (rpar kn) rE0 262 8 := ⟨tw1 (List.mem_of_getElem? (i := 10) rfl) rfl, tw11 (List.mem_of_getElem? (i := 10) rfl) rfl, ⟨by decide +kernel, by decide +kernel, by decide +kernel⟩, (by decide +kernel : rmaxl 262 ≤ 31), by decide +kernel, (Or.inl ⟨rfl, rfl⟩), (fun h => absurd (show rinit 262 = true from h) (by decide +kernel))⟩
set_option maxRecDepth 100000 in
theorem pm263 (kn : List rM) : rpoM (rpar kn) rE0 263 1 := ⟨tw1 (List.mem_of_getElem? (i := 10) rfl) rfl, tw11 (List.mem_of_getElem? (i := 34) rfl) rfl, ⟨by decide +kernel, by decide +kernel, by decide +kernel⟩, (by decide +kernel : rmaxl 263 ≤ 31), by decide +kernel, (Or.inl ⟨rfl, rfl⟩), (fun h => absurd (show rinit 263 = true from h) (by decide +kernel))⟩
set_option maxRecDepth 100000 in
theorem pm264 (kn : List rM) : rpoM (rpar kn) rE0 264 1 := ⟨tw1 (List.mem_of_getElem? (i := 10) rfl) rfl, tw11 (List.mem_of_getElem? (i := 30) rfl) rfl, ⟨by decide +kernel, by decide +kernel, by decide +kernel⟩, (by decide +kernel : rmaxl 264 ≤ 31), by decide +kernel, (Or.inl ⟨rfl, rfl⟩), (fun h => absurd (show rinit 264 = true from h) (by decide +kernel))⟩
set_option maxRecDepth 100000 in
theorem pm265 (kn : List rM) : rpoM (rpar kn) rE0 265 4 := ⟨tw1 (List.mem_of_getElem? (i := 10) rfl) rfl, tw13 (List.mem_of_getElem? (i := 217) rfl) rfl, ⟨by decide +kernel, by decide +kernel, by decide +kernel⟩, (by decide +kernel : rmaxl 265 ≤ 31), by decide +kernel, (Or.inr ⟨.int, rfl, rfl⟩), (fun h => absurd (show rinit 265 = true from h) (by decide +kernel))⟩
set_option maxRecDepth 100000 in
theorem pm266 (kn : List rM) : rpoM (rpar kn) rE0 266 1 := ⟨tw1 (List.mem_of_getElem? (i := 10) rfl) rfl, tw13 (List.mem_of_getElem? (i := 213) rfl) rfl, ⟨by decide +kernel, by decide +kernel, by decide +kernel⟩, (by decide +kernel : rmaxl 266 ≤ 31), by decide +kernel, (Or.inl ⟨rfl, rfl⟩), (fun h => absurd (show rinit 266 = true from h) (by decide +kernel))⟩
set_option maxRecDepth 100000 in
theorem pm267 (kn : List rM) : rpoM (rpar kn) rE0 267 2 := ⟨tw1 (List.mem_of_getElem? (i := 10) rfl) rfl, tw11 (List.mem_of_getElem? (i := 6) rfl) rfl, ⟨by decide +kernel, by decide +kernel, by decide +kernel⟩, (by decide +kernel : rmaxl 267 ≤ 31), by decide +kernel, (Or.inr ⟨.boolean, rfl, rfl⟩), (fun h => absurd (show rinit 267 = true from h) (by decide +kernel))⟩
set_option maxRecDepth 100000 in
theorem pm268 (kn : List rM) : rpoM (rpar kn) rE0 268 1 := ⟨tw1 (List.mem_of_getElem? (i := 10) rfl) rfl, tw11 (List.mem_of_getElem? (i := 14) rfl) rfl, ⟨by decide +kernel, by decide +kernel, by decide +kernel⟩, (by decide +kernel : rmaxl 268 ≤ 31), by decide +kernel, (Or.inr ⟨.long, rfl, rfl⟩), (fun h => absurd (show rinit 268 = true from h) (by decide +kernel))⟩
set_option maxRecDepth 100000 in
theorem pm269 (kn : List rM) : rpoM (rpar kn) rE0 269 0 := ⟨tw1 (List.mem_of_getElem? (i := 10) rfl) rfl, tw11 (List.mem_of_getElem? (i := 23) rfl) rfl, ⟨by decide +kernel, by decide +kernel, by decide +kernel⟩, (by decide +kernel : rmaxl 269 ≤ 31), by decide +kernel, (Or.inl ⟨rfl, rfl⟩), (fun h => absurd (show rinit 269 = true from h) (by decide +kernel))⟩
set_option maxRecDepth 100000 in
theorem pm270 (kn : List rM) : rpoM (rpar kn) rE0 270 1 := ⟨tw1 (List.mem_of_getElem? (i := 10) rfl) rfl, tw11 (List.mem_of_getElem? (i := 19) rfl) rfl, ⟨by decide +kernel, by decide +kernel, by decide +kernel⟩, (by decide +kernel : rmaxl 270 ≤ 31), by decide +kernel, (Or.inr ⟨.boolean, rfl, rfl⟩), (fun h => absurd (show rinit 270 = true from h) (by decide +kernel))⟩
set_option maxRecDepth 100000 in
theorem pm271 (kn : List rM) : rpoM (rpar kn) rE0 271 2 := ⟨tw1 (List.mem_of_getElem? (i := 10) rfl) rfl, tw10 (List.mem_of_getElem? (i := 227) rfl) rfl, ⟨by decide +kernel, by decide +kernel, by decide +kernel⟩, (by decide +kernel : rmaxl 271 ≤ 31), by decide +kernel, (Or.inr ⟨.int, rfl, rfl⟩), (fun h => absurd (show rinit 271 = true from h) (by decide +kernel))⟩
set_option maxRecDepth 100000 in
theorem pm272 (kn : List rM) : rpoM (rpar kn) rE0 272 2 := ⟨tw1 (List.mem_of_getElem? (i := 10) rfl) rfl, tw10 (List.mem_of_getElem? (i := 231) rfl) rfl, ⟨by decide +kernel, by decide +kernel, by decide +kernel⟩, (by decide +kernel : rmaxl 272 ≤ 31), by decide +kernel, (Or.inr ⟨.int, rfl, rfl⟩), (fun h => absurd (show rinit 272 = true from h) (by decide +kernel))⟩
set_option maxRecDepth 100000 in
theorem pm273 (kn : List rM) : rpoM (rpar kn) rE0 273 3 := ⟨tw1 (List.mem_of_getElem? (i := 10) rfl) rfl, tw13 (List.mem_of_getElem? (i := 197) rfl) rfl, ⟨by decide +kernel, by decide +kernel, by decide +kernel⟩, (by decide +kernel : rmaxl 273 ≤ 31), by decide +kernel, (Or.inr ⟨.boolean, rfl, rfl⟩), (fun h => absurd (show rinit 273 = true from h) (by decide +kernel))⟩
set_option maxRecDepth 100000 in
theorem pm274 (kn : List rM) : rpoM (rpar kn) rE0 274 0 := ⟨tw1 (List.mem_of_getElem? (i := 10) rfl) rfl, tw11 (List.mem_of_getElem? (i := 54) rfl) rfl, ⟨by decide +kernel, by decide +kernel, by decide +kernel⟩, (by decide +kernel : rmaxl 274 ≤ 31), by decide +kernel, (Or.inl ⟨rfl, rfl⟩), (fun h => absurd (show rinit 274 = true from h) (by decide +kernel))⟩
set_option maxRecDepth 100000 in
theorem pm275 (kn : List rM) : rpoM (rpar kn) rE0 275 0 := ⟨tw1 (List.mem_of_getElem? (i := 10) rfl) rfl, tw10 (List.mem_of_getElem? (i := 219) rfl) rfl, ⟨by decide +kernel, by decide +kernel, by decide +kernel⟩, (by decide +kernel : rmaxl 275 ≤ 31), by decide +kernel, (Or.inr ⟨.int, rfl, rfl⟩), (fun h => absurd (show rinit 275 = true from h) (by decide +kernel))⟩
set_option maxRecDepth 100000 in
theorem pm276 (kn : List rM) : rpoM (rpar kn) rE0 276 1 := ⟨tw1 (List.mem_of_getElem? (i := 10) rfl) rfl, tw11 (List.mem_of_getElem? (i := 26) rfl) rfl, ⟨by decide +kernel, by decide +kernel, by decide +kernel⟩, (by decide +kernel : rmaxl 276 ≤ 31), by decide +kernel, (Or.inr ⟨.int, rfl, rfl⟩), (fun h => absurd (show rinit 276 = true from h) (by decide +kernel))⟩
set_option maxRecDepth 100000 in
theorem pm277 (kn : List rM) : rpoM (rpar kn) rE0 277 0 := ⟨tw1 (List.mem_of_getElem? (i := 10) rfl) rfl, tw13 (List.mem_of_getElem? (i := 180) rfl) rfl, ⟨by decide +kernel, by decide +kernel, by decide +kernel⟩, (by decide +kernel : rmaxl 277 ≤ 31), by decide +kernel, (Or.inl ⟨rfl, rfl⟩), (fun h => absurd (show rinit 277 = true from h) (by decide +kernel))⟩
set_option maxRecDepth 100000 in
theorem pm278 (kn : List rM) : rpoM (rpar kn) rE0 278 2 := ⟨tw1 (List.mem_of_getElem? (i := 10) rfl) rfl, tw14 (List.mem_of_getElem? (i := 30) rfl) rfl, ⟨by decide +kernel, by decide +kernel, by decide +kernel⟩, (by decide +kernel : rmaxl 278 ≤ 31), by decide +kernel, (Or.inr ⟨.long, rfl, rfl⟩), (fun h => absurd (show rinit 278 = true from h) (by decide +kernel))⟩
set_option maxRecDepth 100000 in
theorem pm279 (kn : List rM) : rpoM (rpar kn) rE0 279 1 := ⟨tw1 (List.mem_of_getElem? (i := 10) rfl) rfl, tw14 (List.mem_of_getElem? (i := 27) rfl) rfl, ⟨by decide +kernel, by decide +kernel, by decide +kernel⟩, (by decide +kernel : rmaxl 279 ≤ 31), by decide +kernel, (Or.inr ⟨.long, rfl, rfl⟩), (fun h => absurd (show rinit 279 = true from h) (by decide +kernel))⟩
set_option maxRecDepth 100000 in
theorem pm280 (kn : List rM) : rpoM (rpar kn) rE0 280 2 := ⟨tw1 (List.mem_of_getElem? (i := 10) rfl) rfl, tw14 (List.mem_of_getElem? (i := 23) rfl) rfl, ⟨by decide +kernel, by decide +kernel, by decide +kernel⟩, (by decide +kernel : rmaxl 280 ≤ 31), by decide +kernel, (Or.inr ⟨.long, rfl, rfl⟩), (fun h => absurd (show rinit 280 = true from h) (by decide +kernel))⟩
set_option maxRecDepth 100000 in
theorem pm281 (kn : List rM) : rpoM (rpar kn) rE0 281 2 := ⟨tw1 (List.mem_of_getElem? (i := 10) rfl) rfl, tw14 (List.mem_of_getElem? (i := 14) rfl) rfl, ⟨by decide +kernel, by decide +kernel, by decide +kernel⟩, (by decide +kernel : rmaxl 281 ≤ 31), by decide +kernel, (Or.inr ⟨.long, rfl, rfl⟩), (fun h => absurd (show rinit 281 = true from h) (by decide +kernel))⟩
set_option maxRecDepth 100000 in
theorem pm282 (kn : List rM) : rpoM (rpar kn) rE0 282 2 := ⟨tw1 (List.mem_of_getElem? (i := 10) rfl) rfl, tw13 (List.mem_of_getElem? (i := 164) rfl) rfl, ⟨by decide +kernel, by decide +kernel, by decide +kernel⟩, (by decide +kernel : rmaxl 282 ≤ 31), by decide +kernel, (Or.inr ⟨.boolean, rfl, rfl⟩), (fun h => absurd (show rinit 282 = true from h) (by decide +kernel))⟩
set_option maxRecDepth 100000 in
theorem pm283 (kn : List rM) : rpoM (rpar kn) rE0 283 1 := ⟨tw1 (List.mem_of_getElem? (i := 10) rfl) rfl, tw13 (List.mem_of_getElem? (i := 160) rfl) rfl, ⟨by decide +kernel, by decide +kernel, by decide +kernel⟩, (by decide +kernel : rmaxl 283 ≤ 31), by decide +kernel, (Or.inr ⟨.boolean, rfl, rfl⟩), (fun h => absurd (show rinit 283 = true from h) (by decide +kernel))⟩
set_option maxRecDepth 100000 in
theorem pm284 (kn : List rM) : rpoM (rpar kn) rE0 284 1 := ⟨tw1 (List.mem_of_getElem? (i := 10) rfl) rfl, tw13 (List.mem_of_getElem? (i := 152) rfl) rfl, ⟨by decide +kernel, by decide +kernel, by decide +kernel⟩, (by decide +kernel : rmaxl 284 ≤ 31), by decide +kernel, (Or.inr ⟨.int, rfl, rfl⟩), (fun h => absurd (show rinit 284 = true from h) (by decide +kernel))⟩
set_option maxRecDepth 100000 in
theorem pm285 (kn : List rM) : rpoM (rpar kn) rE0 285 0 := ⟨tw1 (List.mem_of_getElem? (i := 10) rfl) rfl, tw13 (List.mem_of_getElem? (i := 156) rfl) rfl, ⟨by decide +kernel, by decide +kernel, by decide +kernel⟩, (by decide +kernel : rmaxl 285 ≤ 31), by decide +kernel, (Or.inr ⟨.boolean, rfl, rfl⟩), (fun h => absurd (show rinit 285 = true from h) (by decide +kernel))⟩
set_option maxRecDepth 100000 in
theorem pm286 (kn : List rM) : rpoM (rpar kn) rE0 286 0 := ⟨tw1 (List.mem_of_getElem? (i := 10) rfl) rfl, tw13 (List.mem_of_getElem? (i := 168) rfl) rfl, ⟨by decide +kernel, by decide +kernel, by decide +kernel⟩, (by decide +kernel : rmaxl 286 ≤ 31), by decide +kernel, (Or.inr ⟨.boolean, rfl, rfl⟩), (fun h => absurd (show rinit 286 = true from h) (by decide +kernel))⟩
set_option maxRecDepth 100000 in
theorem pm287 (kn : List rM) : rpoM (rpar kn) rE0 287 0 := ⟨tw1 (List.mem_of_getElem? (i := 10) rfl) rfl, tw13 (List.mem_of_getElem? (i := 172) rfl) rfl, ⟨by decide +kernel, by decide +kernel, by decide +kernel⟩, (by decide +kernel : rmaxl 287 ≤ 31), by decide +kernel, (Or.inl ⟨rfl, rfl⟩), (fun h => absurd (show rinit 287 = true from h) (by decide +kernel))⟩
set_option maxRecDepth 100000 in
theorem pm288 (kn : List rM) : rpoM (rpar kn) rE0 288 0 := ⟨tw1 (List.mem_of_getElem? (i := 10) rfl) rfl, tw13 (List.mem_of_getElem? (i := 185) rfl) rfl, ⟨by decide +kernel, by decide +kernel, by decide +kernel⟩, (by decide +kernel : rmaxl 288 ≤ 31), by decide +kernel, (Or.inr ⟨.boolean, rfl, rfl⟩), (fun h => absurd (show rinit 288 = true from h) (by decide +kernel))⟩
set_option maxRecDepth 100000 in
theorem pm289 (kn : List rM) : rpoM (rpar kn) rE0 289 1 := ⟨tw1 (List.mem_of_getElem? (i := 10) rfl) rfl, tw13 (List.mem_of_getElem? (i := 189) rfl) rfl, ⟨by decide +kernel, by decide +kernel, by decide +kernel⟩, (by decide +kernel : rmaxl 289 ≤ 31), by decide +kernel, (Or.inr ⟨.boolean, rfl, rfl⟩), (fun h => absurd (show rinit 289 = true from h) (by decide +kernel))⟩
set_option maxRecDepth 100000 in
theorem pm290 (kn : List rM) : rpoM (rpar kn) rE0 290 0 := ⟨tw1 (List.mem_of_getElem? (i := 10) rfl) rfl, tw14 (List.mem_of_getElem? (i := 10) rfl) rfl, ⟨by decide +kernel, by decide +kernel, by decide +kernel⟩, (by decide +kernel : rmaxl 290 ≤ 31), by decide +kernel, (Or.inl ⟨rfl, rfl⟩), (fun h => absurd (show rinit 290 = true from h) (by decide +kernel))⟩
set_option maxRecDepth 100000 in
theorem pm291 (kn : List rM) : rpoM (rpar kn) rE0 291 1 := ⟨tw1 (List.mem_of_getElem? (i := 10) rfl) rfl, tw13 (List.mem_of_getElem? (i := 193) rfl) rfl, ⟨by decide +kernel, by decide +kernel, by decide +kernel⟩, (by decide +kernel : rmaxl 291 ≤ 31), by decide +kernel, (Or.inr ⟨.boolean, rfl, rfl⟩), (fun h => absurd (show rinit 291 = true from h) (by decide +kernel))⟩
set_option maxRecDepth 100000 in
theorem pm292 (kn : List rM) : rpoM (rpar kn) rE0 292 3 := ⟨tw1 (List.mem_of_getElem? (i := 10) rfl) rfl, tw13 (List.mem_of_getElem? (i := 201) rfl) rfl, ⟨by decide +kernel, by decide +kernel, by decide +kernel⟩, (by decide +kernel : rmaxl 292 ≤ 31), by decide +kernel, (Or.inr ⟨.boolean, rfl, rfl⟩), (fun h => absurd (show rinit 292 = true from h) (by decide +kernel))⟩
set_option maxRecDepth 100000 in
theorem pm293 (kn : List rM) : rpoM (rpar kn) rE0 293 1 := ⟨tw1 (List.mem_of_getElem? (i := 10) rfl) rfl, tw13 (List.mem_of_getElem? (i := 209) rfl) rfl, ⟨by decide +kernel, by decide +kernel, by decide +kernel⟩, (by decide +kernel : rmaxl 293 ≤ 31), by decide +kernel, (Or.inr ⟨.boolean, rfl, rfl⟩), (fun h => absurd (show rinit 293 = true from h) (by decide +kernel))⟩
set_option maxRecDepth 100000 in
theorem pm294 (kn : List rM) : rpoM (rpar kn) rE0 294 1 := ⟨tw1 (List.mem_of_getElem? (i := 10) rfl) rfl, tw13 (List.mem_of_getElem? (i := 229) rfl) rfl, ⟨by decide +kernel, by decide +kernel, by decide +kernel⟩, (by decide +kernel : rmaxl 294 ≤ 31), by decide +kernel, (Or.inr ⟨.int, rfl, rfl⟩), (fun h => absurd (show rinit 294 = true from h) (by decide +kernel))⟩
set_option maxRecDepth 100000 in
theorem pm295 (kn : List rM) : rpoM (rpar kn) rE0 295 1 := ⟨tw1 (List.mem_of_getElem? (i := 10) rfl) rfl, tw13 (List.mem_of_getElem? (i := 223) rfl) rfl, ⟨by decide +kernel, by decide +kernel, by decide +kernel⟩, (by decide +kernel : rmaxl 295 ≤ 31), by decide +kernel, (Or.inr ⟨.int, rfl, rfl⟩), (fun h => absurd (show rinit 295 = true from h) (by decide +kernel))⟩
set_option maxRecDepth 100000 in
theorem pm296 (kn : List rM) : rpoM (rpar kn) rE0 296 1 := ⟨tw1 (List.mem_of_getElem? (i := 10) rfl) rfl, tw13 (List.mem_of_getElem? (i := 226) rfl) rfl, ⟨by decide +kernel, by decide +kernel, by decide +kernel⟩, (by decide +kernel : rmaxl 296 ≤ 31), by decide +kernel, (Or.inr ⟨.int, rfl, rfl⟩), (fun h => absurd (show rinit 296 = true from h) (by decide +kernel))⟩
set_option maxRecDepth 100000 in
theorem pm297 (kn : List rM) : rpoM (rpar kn) rE0 297 1 := ⟨tw1 (List.mem_of_getElem? (i := 10) rfl) rfl, tw13 (List.mem_of_getElem? (i := 220) rfl) rfl, ⟨by decide +kernel, by decide +kernel, by decide +kernel⟩, (by decide +kernel : rmaxl 297 ≤ 31), by decide +kernel, (Or.inr ⟨.int, rfl, rfl⟩), (fun h => absurd (show rinit 297 = true from h) (by decide +kernel))⟩
set_option maxRecDepth 100000 in
theorem pm298 (kn : List rM) : rpoM (rpar kn) rE0 298 2 := ⟨tw1 (List.mem_of_getElem? (i := 10) rfl) rfl, tw13 (List.mem_of_getElem? (i := 205) rfl) rfl, ⟨by decide +kernel, by decide +kernel, by decide +kernel⟩, (by decide +kernel : rmaxl 298 ≤ 31), by decide +kernel, (Or.inr ⟨.boolean, rfl, rfl⟩), (fun h => absurd (show rinit 298 = true from h) (by decide +kernel))⟩
set_option maxRecDepth 100000 in
theorem pm299 (kn : List rM) : rpoM (rpar kn) rE0 299 2 := ⟨tw1 (List.mem_of_getElem? (i := 10) rfl) rfl, tw13 (List.mem_of_getElem? (i := 233) rfl) rfl, ⟨by decide +kernel, by decide +kernel, by decide +kernel⟩, (by decide +kernel : rmaxl 299 ≤ 31), by decide +kernel, (Or.inr ⟨.long, rfl, rfl⟩), (fun h => absurd (show rinit 299 = true from h) (by decide +kernel))⟩
set_option maxRecDepth 100000 in
theorem pm300 (kn : List rM) : rpoM (rpar kn) rE0 300 2 := ⟨tw1 (List.mem_of_getElem? (i := 10) rfl) rfl, tw13 (List.mem_of_getElem? (i := 238) rfl) rfl, ⟨by decide +kernel, by decide +kernel, by decide +kernel⟩, (by decide +kernel : rmaxl 300 ≤ 31), by decide +kernel, (Or.inr ⟨.boolean, rfl, rfl⟩), (fun h => absurd (show rinit 300 = true from h) (by decide +kernel))⟩
set_option maxRecDepth 100000 in
theorem pm301 (kn : List rM) : rpoM (rpar kn) rE0 301 1 := ⟨tw1 (List.mem_of_getElem? (i := 10) rfl) rfl, tw14 (List.mem_of_getElem? (i := 2) rfl) rfl, ⟨by decide +kernel, by decide +kernel, by decide +kernel⟩, (by decide +kernel : rmaxl 301 ≤ 31), by decide +kernel, (Or.inr ⟨.boolean, rfl, rfl⟩), (fun h => absurd (show rinit 301 = true from h) (by decide +kernel))⟩
set_option maxRecDepth 100000 in
theorem pm302 (kn : List rM) : rpoM (rpar kn) rE0 302 3 := ⟨tw1 (List.mem_of_getElem? (i := 10) rfl) rfl, tw14 (List.mem_of_getElem? (i := 6) rfl) rfl, ⟨by decide +kernel, by decide +kernel, by decide +kernel⟩, (by decide +kernel : rmaxl 302 ≤ 31), by decide +kernel, (Or.inl ⟨rfl, rfl⟩), (fun h => absurd (show rinit 302 = true from h) (by decide +kernel))⟩
set_option maxRecDepth 100000 in
theorem pm303 (kn : List rM) : rpoM (rpar kn) rE0 303 1 := ⟨tw1 (List.mem_of_getElem? (i := 7) rfl) rfl, tw8 (List.mem_of_getElem? (i := 36) rfl) rfl, ⟨by decide +kernel, by decide +kernel, by decide +kernel⟩, (by decide +kernel : rmaxl 303 ≤ 31), by decide +kernel, (Or.inl ⟨rfl, rfl⟩), (fun _ => rfl)⟩
set_option maxRecDepth 100000 in
theorem pm304 (kn : List rM) : rpoM (rpar kn) rE0 304 1 := ⟨tw1 (List.mem_of_getElem? (i := 7) rfl) rfl, tw10 (List.mem_of_getElem? (i := 128) rfl) rfl, ⟨by decide +kernel, by decide +kernel, by decide +kernel⟩, (by decide +kernel : rmaxl 304 ≤ 31), by decide +kernel, (Or.inl ⟨rfl, rfl⟩), (fun h => absurd (show rinit 304 = true from h) (by decide +kernel))⟩
set_option maxRecDepth 100000 in
theorem pm305 (kn : List rM) : rpoM (rpar kn) rE0 305 1 := ⟨tw1 (List.mem_of_getElem? (i := 7) rfl) rfl, tw10 (List.mem_of_getElem? (i := 147) rfl) rfl, ⟨by decide +kernel, by decide +kernel, by decide +kernel⟩, (by decide +kernel : rmaxl 305 ≤ 31), by decide +kernel, (Or.inr ⟨.int, rfl, rfl⟩), (fun h => absurd (show rinit 305 = true from h) (by decide +kernel))⟩
set_option maxRecDepth 100000 in
theorem pm306 (kn : List rM) : rpoM (rpar kn) rE0 306 2 := ⟨tw1 (List.mem_of_getElem? (i := 7) rfl) rfl, tw10 (List.mem_of_getElem? (i := 143) rfl) rfl, ⟨by decide +kernel, by decide +kernel, by decide +kernel⟩, (by decide +kernel : rmaxl 306 ≤ 31), by decide +kernel, (Or.inr ⟨.long, rfl, rfl⟩), (fun h => absurd (show rinit 306 = true from h) (by decide +kernel))⟩
set_option maxRecDepth 100000 in
theorem pm307 (kn : List rM) : rpoM (rpar kn) rE0 307 2 := ⟨tw1 (List.mem_of_getElem? (i := 7) rfl) rfl, tw10 (List.mem_of_getElem? (i := 150) rfl) rfl, ⟨by decide +kernel, by decide +kernel, by decide +kernel⟩, (by decide +kernel : rmaxl 307 ≤ 31), by decide +kernel, (Or.inr ⟨.int, rfl, rfl⟩), (fun h => absurd (show rinit 307 = true from h) (by decide +kernel))⟩
set_option maxRecDepth 100000 in
theorem pm308 (kn : List rM) : rpoM (rpar kn) rE0 308 4 := ⟨tw1 (List.mem_of_getElem? (i := 7) rfl) rfl, tw10 (List.mem_of_getElem? (i := 139) rfl) rfl, ⟨by decide +kernel, by decide +kernel, by decide +kernel⟩, (by decide +kernel : rmaxl 308 ≤ 31), by decide +kernel, (Or.inr ⟨.int, rfl, rfl⟩), (fun h => absurd (show rinit 308 = true from h) (by decide +kernel))⟩
set_option maxRecDepth 100000 in
theorem pm309 (kn : List rM) : rpoM (rpar kn) rE0 309 3 := ⟨tw1 (List.mem_of_getElem? (i := 7) rfl) rfl, tw10 (List.mem_of_getElem? (i := 132) rfl) rfl, ⟨by decide +kernel, by decide +kernel, by decide +kernel⟩, (by decide +kernel : rmaxl 309 ≤ 31), by decide +kernel, (Or.inr ⟨.int, rfl, rfl⟩), (fun h => absurd (show rinit 309 = true from h) (by decide +kernel))⟩
set_option maxRecDepth 100000 in
theorem pm310 (kn : List rM) : rpoM (rpar kn) rE0 310 2 := ⟨tw1 (List.mem_of_getElem? (i := 7) rfl) rfl, tw10 (List.mem_of_getElem? (i := 173) rfl) rfl, ⟨by decide +kernel, by decide +kernel, by decide +kernel⟩, (by decide +kernel : rmaxl 310 ≤ 31), by decide +kernel, (Or.inr ⟨.long, rfl, rfl⟩), (fun h => absurd (show rinit 310 = true from h) (by decide +kernel))⟩
set_option maxRecDepth 100000 in
theorem pm311 (kn : List rM) : rpoM (rpar kn) rE0 311 4 := ⟨tw1 (List.mem_of_getElem? (i := 7) rfl) rfl, tw10 (List.mem_of_getElem? (i := 170) rfl) rfl, ⟨by decide +kernel, by decide +kernel, by decide +kernel⟩, (by decide +kernel : rmaxl 311 ≤ 31), by decide +kernel, (Or.inr ⟨.long, rfl, rfl⟩), (fun h => absurd (show rinit 311 = true from h) (by decide +kernel))⟩
set_option maxRecDepth 100000 in
theorem pm312 (kn : List rM) : rpoM (rpar kn) rE0 312 2 := ⟨tw1 (List.mem_of_getElem? (i := 7) rfl) rfl, tw10 (List.mem_of_getElem? (i := 176) rfl) rfl, ⟨by decide +kernel, by decide +kernel, by decide +kernel⟩, (by decide +kernel : rmaxl 312 ≤ 31), by decide +kernel, (Or.inr ⟨.long, rfl, rfl⟩), (fun h => absurd (show rinit 312 = true from h) (by decide +kernel))⟩
set_option maxRecDepth 100000 in
theorem pm313 (kn : List rM) : rpoM (rpar kn) rE0 313 3 := ⟨tw1 (List.mem_of_getElem? (i := 7) rfl) rfl, tw10 (List.mem_of_getElem? (i := 164) rfl) rfl, ⟨by decide +kernel, by decide +kernel, by decide +kernel⟩, (by decide +kernel : rmaxl 313 ≤ 31), by decide +kernel, (Or.inr ⟨.long, rfl, rfl⟩), (fun h => absurd (show rinit 313 = true from h) (by decide +kernel))⟩
set_option maxRecDepth 100000 in
theorem pm314 (kn : List rM) : rpoM (rpar kn) rE0 314 3 := ⟨tw1 (List.mem_of_getElem? (i := 7) rfl) rfl, tw10 (List.mem_of_getElem? (i := 160) rfl) rfl, ⟨by decide +kernel, by decide +kernel, by decide +kernel⟩, (by decide +kernel : rmaxl 314 ≤ 31), by decide +kernel, (Or.inr ⟨.long, rfl, rfl⟩), (fun h => absurd (show rinit 314 = true from h) (by decide +kernel))⟩
set_option maxRecDepth 100000 in
theorem pm315 (kn : List rM) : rpoM (rpar kn) rE0 315 1 := ⟨tw1 (List.mem_of_getElem? (i := 7) rfl) rfl, tw10 (List.mem_of_getElem? (i := 197) rfl) rfl, ⟨by decide +kernel, by decide +kernel, by decide +kernel⟩, (by decide +kernel : rmaxl 315 ≤ 31), by decide +kernel, (Or.inr ⟨.int, rfl, rfl⟩), (fun h => absurd (show rinit 315 = true from h) (by decide +kernel))⟩
set_option maxRecDepth 100000 in
theorem pm316 (kn : List rM) : rpoM (rpar kn) rE0 316 2 := ⟨tw1 (List.mem_of_getElem? (i := 7) rfl) rfl, tw10 (List.mem_of_getElem? (i := 194) rfl) rfl, ⟨by decide +kernel, by decide +kernel, by decide +kernel⟩, (by decide +kernel : rmaxl 316 ≤ 31), by decide +kernel, (Or.inr ⟨.int, rfl, rfl⟩), (fun h => absurd (show rinit 316 = true from h) (by decide +kernel))⟩
set_option maxRecDepth 100000 in
theorem pm317 (kn : List rM) : rpoM (rpar kn) rE0 317 2 := ⟨tw1 (List.mem_of_getElem? (i := 7) rfl) rfl, tw10 (List.mem_of_getElem? (i := 191) rfl) rfl, ⟨by decide +kernel, by decide +kernel, by decide +kernel⟩, (by decide +kernel : rmaxl 317 ≤ 31), by decide +kernel, (Or.inr ⟨.int, rfl, rfl⟩), (fun h => absurd (show rinit 317 = true from h) (by decide +kernel))⟩
set_option maxRecDepth 100000 in
theorem pm318 (kn : List rM) : rpoM (rpar kn) rE0 318 2 := ⟨tw1 (List.mem_of_getElem? (i := 7) rfl) rfl, tw10 (List.mem_of_getElem? (i := 187) rfl) rfl, ⟨by decide +kernel, by decide +kernel, by decide +kernel⟩, (by decide +kernel : rmaxl 318 ≤ 31), by decide +kernel, (Or.inr ⟨.int, rfl, rfl⟩), (fun h => absurd (show rinit 318 = true from h) (by decide +kernel))⟩
set_option maxRecDepth 100000 in
theorem pm319 (kn : List rM) : rpoM (rpar kn) rE0 319 1 := ⟨tw1 (List.mem_of_getElem? (i := 9) rfl) rfl, tw8 (List.mem_of_getElem? (i := 111) rfl) rfl, ⟨by decide +kernel, by decide +kernel, by decide +kernel⟩, (by decide +kernel : rmaxl 319 ≤ 31), by decide +kernel, (Or.inl ⟨rfl, rfl⟩), (fun _ => rfl)⟩
set_option maxRecDepth 100000 in
theorem pm320 (kn : List rM) : rpoM (rpar kn) rE0 320 1 := ⟨tw1 (List.mem_of_getElem? (i := 9) rfl) rfl, tw11 (List.mem_of_getElem? (i := 169) rfl) rfl, ⟨by decide +kernel, by decide +kernel, by decide +kernel⟩, (by decide +kernel : rmaxl 320 ≤ 31), by decide +kernel, (Or.inl ⟨rfl, rfl⟩), (fun h => absurd (show rinit 320 = true from h) (by decide +kernel))⟩
set_option maxRecDepth 100000 in
theorem pm321 (kn : List rM) : rpoM (rpar kn) rE0 321 2 := ⟨tw1 (List.mem_of_getElem? (i := 9) rfl) rfl, tw11 (List.mem_of_getElem? (i := 194) rfl) rfl, ⟨by decide +kernel, by decide +kernel, by decide +kernel⟩, (by decide +kernel : rmaxl 321 ≤ 31), by decide +kernel, (Or.inl ⟨rfl, rfl⟩), (fun h => absurd (show rinit 321 = true from h) (by decide +kernel))⟩
set_option maxRecDepth 100000 in
theorem pm322 (kn : List rM) : rpoM (rpar kn) rE0 322 0 := ⟨tw1 (List.mem_of_getElem? (i := 9) rfl) rfl, tw11 (List.mem_of_getElem? (i := 218) rfl) rfl, ⟨by decide +kernel, by decide +kernel, by decide +kernel⟩, (by decide +kernel : rmaxl 322 ≤ 31), by decide +kernel, (Or.inr ⟨.int, rfl, rfl⟩), (fun h => absurd (show rinit 322 = true from h) (by decide +kernel))⟩
set_option maxRecDepth 100000 in
theorem pm323 (kn : List rM) : rpoM (rpar kn) rE0 323 3 := ⟨tw1 (List.mem_of_getElem? (i := 9) rfl) rfl, tw11 (List.mem_of_getElem? (i := 181) rfl) rfl, ⟨by decide +kernel, by decide +kernel, by decide +kernel⟩, (by decide +kernel : rmaxl 323 ≤ 31), by decide +kernel, (Or.inr ⟨.int, rfl, rfl⟩), (fun h => absurd (show rinit 323 = true from h) (by decide +kernel))⟩
set_option maxRecDepth 100000 in
theorem pm324 (kn : List rM) : rpoM (rpar kn) rE0 324 4 := ⟨tw1 (List.mem_of_getElem? (i := 9) rfl) rfl, tw11 (List.mem_of_getElem? (i := 177) rfl) rfl, ⟨by decide +kernel, by decide +kernel, by decide +kernel⟩, (by decide +kernel : rmaxl 324 ≤ 31), by decide +kernel, (Or.inl ⟨rfl, rfl⟩), (fun h => absurd (show rinit 324 = true from h) (by decide +kernel))⟩
set_option maxRecDepth 100000 in
theorem pm325 (kn : List rM) : rpoM (rpar kn) rE0 325 3 := ⟨tw1 (List.mem_of_getElem? (i := 9) rfl) rfl, tw11 (List.mem_of_getElem? (i := 185) rfl) rfl, ⟨by decide +kernel, by decide +kernel, by decide +kernel⟩, (by decide +kernel : rmaxl 325 ≤ 31), by decide +kernel, (Or.inl ⟨rfl, rfl⟩), (fun h => absurd (show rinit 325 = true from h) (by decide +kernel))⟩
set_option maxRecDepth 100000 in
theorem pm326 (kn : List rM) : rpoM (rpar kn) rE0 326 4 := ⟨tw1 (List.mem_of_getElem? (i := 9) rfl) rfl, tw11 (List.mem_of_getElem? (i := 173) rfl) rfl, ⟨by decide +kernel, by decide +kernel, by decide +kernel⟩, (by decide +kernel : rmaxl 326 ≤ 31), by decide +kernel, (Or.inl ⟨rfl, rfl⟩), (fun h => absurd (show rinit 326 = true from h) (by decide +kernel))⟩
set_option maxRecDepth 100000 in
theorem pm327 (kn : List rM) : rpoM (rpar kn) rE0 327 2 := ⟨tw1 (List.mem_of_getElem? (i := 9) rfl) rfl, tw11 (List.mem_of_getElem? (i := 210) rfl) rfl, ⟨by decide +kernel, by decide +kernel, by decide +kernel⟩, (by decide +kernel : rmaxl 327 ≤ 31), by decide +kernel, (Or.inr ⟨.int, rfl, rfl⟩), (fun h => absurd (show rinit 327 = true from h) (by decide +kernel))⟩
set_option maxRecDepth 100000 in
theorem pm328 (kn : List rM) : rpoM (rpar kn) rE0 328 2 := ⟨tw1 (List.mem_of_getElem? (i := 9) rfl) rfl, tw11 (List.mem_of_getElem? (i := 214) rfl) rfl, ⟨by decide +kernel, by decide +kernel, by decide +kernel⟩, (by decide +kernel : rmaxl 328 ≤ 31), by decide +kernel, (Or.inr ⟨.int, rfl, rfl⟩), (fun h => absurd (show rinit 328 = true from h) (by decide +kernel))⟩
set_option maxRecDepth 100000 in
theorem pm329 (kn : List rM) : rpoM (rpar kn) rE0 329 3 := ⟨tw1 (List.mem_of_getElem? (i := 9) rfl) rfl, tw11 (List.mem_of_getElem? (i := 207) rfl) rfl, ⟨by decide +kernel, by decide +kernel, by decide +kernel⟩, (by decide +kernel : rmaxl 329 ≤ 31), by decide +kernel, (Or.inr ⟨.int, rfl, rfl⟩), (fun h => absurd (show rinit 329 = true from h) (by decide +kernel))⟩
set_option maxRecDepth 100000 in
theorem pm330 (kn : List rM) : rpoM (rpar kn) rE0 330 1 := ⟨tw1 (List.mem_of_getElem? (i := 9) rfl) rfl, tw11 (List.mem_of_getElem? (i := 202) rfl) rfl, ⟨by decide +kernel, by decide +kernel, by decide +kernel⟩, (by decide +kernel : rmaxl 330 ≤ 31), by decide +kernel, (Or.inl ⟨rfl, rfl⟩), (fun h => absurd (show rinit 330 = true from h) (by decide +kernel))⟩
set_option maxRecDepth 100000 in
theorem pm331 (kn : List rM) : rpoM (rpar kn) rE0 331 2 := ⟨tw1 (List.mem_of_getElem? (i := 9) rfl) rfl, tw11 (List.mem_of_getElem? (i := 198) rfl) rfl, ⟨by decide +kernel, by decide +kernel, by decide +kernel⟩, (by decide +kernel : rmaxl 331 ≤ 31), by decide +kernel, (Or.inl ⟨rfl, rfl⟩), (fun h => absurd (show rinit 331 = true from h) (by decide +kernel))⟩
set_option maxRecDepth 100000 in
theorem pm332 (kn : List rM) : rpoM (rpar kn) rE0 332 2 := ⟨tw1 (List.mem_of_getElem? (i := 9) rfl) rfl, tw11 (List.mem_of_getElem? (i := 189) rfl) rfl, ⟨by decide +kernel, by decide +kernel, by decide +kernel⟩, (by decide +kernel : rmaxl 332 ≤ 31), by decide +kernel, (Or.inl ⟨rfl, rfl⟩), (fun h => absurd (show rinit 332 = true from h) (by decide +kernel))⟩
set_option maxRecDepth 100000 in
theorem pm333 (kn : List rM) : rpoM (rpar kn) rE0 333 3 := ⟨tw1 (List.mem_of_getElem? (i := 9) rfl) rfl, tw11 (List.mem_of_getElem? (i := 165) rfl) rfl, ⟨by decide +kernel, by decide +kernel, by decide +kernel⟩, (by decide +kernel : rmaxl 333 ≤ 31), by decide +kernel, (Or.inl ⟨rfl, rfl⟩), (fun h => absurd (show rinit 333 = true from h) (by decide +kernel))⟩
set_option maxRecDepth 100000 in
theorem pm334 (kn : List rM) : rpoM (rpar kn) rE0 334 1 := ⟨tw1 (List.mem_of_getElem? (i := 9) rfl) rfl, tw11 (List.mem_of_getElem? (i := 161) rfl) rfl, ⟨by decide +kernel, by decide +kernel, by decide +kernel⟩, (by decide +kernel : rmaxl 334 ≤ 31), by decide +kernel, (Or.inr ⟨.int, rfl, rfl⟩), (fun h => absurd (show rinit 334 = true from h) (by decide +kernel))⟩
set_option maxRecDepth 100000 in
theorem pm335 (kn : List rM) : rpoM (rpar kn) rE0 335 2 := ⟨tw1 (List.mem_of_getElem? (i := 9) rfl) rfl, tw13 (List.mem_of_getElem? (i := 110) rfl) rfl, ⟨by decide +kernel, by decide +kernel, by decide +kernel⟩, (by decide +kernel : rmaxl 335 ≤ 31), by decide +kernel, (Or.inr ⟨.boolean, rfl, rfl⟩), (fun h => absurd (show rinit 335 = true from h) (by decide +kernel))⟩
set_option maxRecDepth 100000 in
theorem pm336 (kn : List rM) : rpoM (rpar kn) rE0 336 1 := ⟨tw1 (List.mem_of_getElem? (i := 9) rfl) rfl, tw13 (List.mem_of_getElem? (i := 105) rfl) rfl, ⟨by decide +kernel, by decide +kernel, by decide +kernel⟩, (by decide +kernel : rmaxl 336 ≤ 31), by decide +kernel, (Or.inr ⟨.long, rfl, rfl⟩), (fun h => absurd (show rinit 336 = true from h) (by decide +kernel))⟩
set_option maxRecDepth 100000 in
theorem pm337 (kn : List rM) : rpoM (rpar kn) rE0 337 1 := ⟨tw1 (List.mem_of_getElem? (i := 9) rfl) rfl, tw13 (List.mem_of_getElem? (i := 101) rfl) rfl, ⟨by decide +kernel, by decide +kernel, by decide +kernel⟩, (by decide +kernel : rmaxl 337 ≤ 31), by decide +kernel, (Or.inr ⟨.long, rfl, rfl⟩), (fun h => absurd (show rinit 337 = true from h) (by decide +kernel))⟩
set_option maxRecDepth 100000 in
theorem pm338 (kn : List rM) : rpoM (rpar kn) rE0 338 5 := ⟨tw1 (List.mem_of_getElem? (i := 9) rfl) rfl, tw13 (List.mem_of_getElem? (i := 127) rfl) rfl, ⟨by decide +kernel, by decide +kernel, by decide +kernel⟩, (by decide +kernel : rmaxl 338 ≤ 31), by decide +kernel, (Or.inr ⟨.boolean, rfl, rfl⟩), (fun h => absurd (show rinit 338 = true from h) (by decide +kernel))⟩
set_option maxRecDepth 100000 in
theorem pm339 (kn : List rM) : rpoM (rpar kn) rE0 339 4 := ⟨tw1 (List.mem_of_getElem? (i := 9) rfl) rfl, tw13 (List.mem_of_getElem? (i := 118) rfl) rfl, ⟨by decide +kernel, by decide +kernel, by decide +kernel⟩, (by decide +kernel : rmaxl 339 ≤ 31), by decide +kernel, (Or.inl ⟨rfl, rfl⟩), (fun h => absurd (show rinit 339 = true from h) (by decide +kernel))⟩
set_option maxRecDepth 100000 in
theorem pm340 (kn : List rM) : rpoM (rpar kn) rE0 340 5 := ⟨tw1 (List.mem_of_getElem? (i := 9) rfl) rfl, tw13 (List.mem_of_getElem? (i := 122) rfl) rfl, ⟨by decide +kernel, by decide +kernel, by decide +kernel⟩, (by decide +kernel : rmaxl 340 ≤ 31), by decide +kernel, (Or.inl ⟨rfl, rfl⟩), (fun h => absurd (show rinit 340 = true from h) (by decide +kernel))⟩
set_option maxRecDepth 100000 in
theorem pm341 (kn : List rM) : rpoM (rpar kn) rE0 341 1 := ⟨tw1 (List.mem_of_getElem? (i := 9) rfl) rfl, tw13 (List.mem_of_getElem? (i := 97) rfl) rfl, ⟨by decide +kernel, by decide +kernel, by decide +kernel⟩, (by decide +kernel : rmaxl 341 ≤ 31), by decide +kernel, (Or.inl ⟨rfl, rfl⟩), (fun h => absurd (show rinit 341 = true from h) (by decide +kernel))⟩
set_option maxRecDepth 100000 in
theorem pm342 (kn : List rM) : rpoM (rpar kn) rE0 342 0 := ⟨tw1 (List.mem_of_getElem? (i := 9) rfl) rfl, tw13 (List.mem_of_getElem? (i := 93) rfl) rfl, ⟨by decide +kernel, by decide +kernel, by decide +kernel⟩, (by decide +kernel : rmaxl 342 ≤ 31), by decide +kernel, (Or.inl ⟨rfl, rfl⟩), (fun h => absurd (show rinit 342 = true from h) (by decide +kernel))⟩
set_option maxRecDepth 100000 in
theorem pm343 (kn : List rM) : rpoM (rpar kn) rE0 343 0 := ⟨tw1 (List.mem_of_getElem? (i := 9) rfl) rfl, tw13 (List.mem_of_getElem? (i := 131) rfl) rfl, ⟨by decide +kernel, by decide +kernel, by decide +kernel⟩, (by decide +kernel : rmaxl 343 ≤ 31), by decide +kernel, (Or.inr ⟨.int, rfl, rfl⟩), (fun h => absurd (show rinit 343 = true from h) (by decide +kernel))⟩
set_option maxRecDepth 100000 in
theorem pm344 (kn : List rM) : rpoM (rpar kn) rE0 344 1 := ⟨tw1 (List.mem_of_getElem? (i := 9) rfl) rfl, tw13 (List.mem_of_getElem? (i := 89) rfl) rfl, ⟨by decide +kernel, by decide +kernel, by decide +kernel⟩, (by decide +kernel : rmaxl 344 ≤ 31), by decide +kernel, (Or.inr ⟨.int, rfl, rfl⟩), (fun h => absurd (show rinit 344 = true from h) (by decide +kernel))⟩
set_option maxRecDepth 100000 in
theorem pm345 (kn : List rM) : rpoM (rpar kn) rE0 345 3 := ⟨tw1 (List.mem_of_getElem? (i := 9) rfl) rfl, tw11 (List.mem_of_getElem? (i := 232) rfl) rfl, ⟨by decide +kernel, by decide +kernel, by decide +kernel⟩, (by decide +kernel : rmaxl 345 ≤ 31), by decide +kernel, (Or.inr ⟨.int, rfl, rfl⟩), (fun h => absurd (show rinit 345 = true from h) (by decide +kernel))⟩
set_option maxRecDepth 100000 in
theorem pm346 (kn : List rM) : rpoM (rpar kn) rE0 346 1 := ⟨tw1 (List.mem_of_getElem? (i := 9) rfl) rfl, tw11 (List.mem_of_getElem? (i := 225) rfl) rfl, ⟨by decide +kernel, by decide +kernel, by decide +kernel⟩, (by decide +kernel : rmaxl 346 ≤ 31), by decide +kernel, (Or.inr ⟨.int, rfl, rfl⟩), (fun h => absurd (show rinit 346 = true from h) (by decide +kernel))⟩
set_option maxRecDepth 100000 in
theorem pm347 (kn : List rM) : rpoM (rpar kn) rE0 347 3 := ⟨tw1 (List.mem_of_getElem? (i := 9) rfl) rfl, tw11 (List.mem_of_getElem? (i := 229) rfl) rfl, ⟨by decide +kernel, by decide +kernel, by decide +kernel⟩, (by decide +kernel : rmaxl 347 ≤ 31), by decide +kernel, (Or.inl ⟨rfl, rfl⟩), (fun h => absurd (show rinit 347 = true from h) (by decide +kernel))⟩
set_option maxRecDepth 100000 in
theorem pm348 (kn : List rM) : rpoM (rpar kn) rE0 348 3 := ⟨tw1 (List.mem_of_getElem? (i := 9) rfl) rfl, tw11 (List.mem_of_getElem? (i := 222) rfl) rfl, ⟨by decide +kernel, by decide +kernel, by decide +kernel⟩, (by decide +kernel : rmaxl 348 ≤ 31), by decide +kernel, (Or.inr ⟨.int, rfl, rfl⟩), (fun h => absurd (show rinit 348 = true from h) (by decide +kernel))⟩
set_option maxRecDepth 100000 in
theorem pm349 (kn : List rM) : rpoM (rpar kn) rE0 349 1 := ⟨tw1 (List.mem_of_getElem? (i := 9) rfl) rfl, tw13 (List.mem_of_getElem? (i := 139) rfl) rfl, ⟨by decide +kernel, by decide +kernel, by decide +kernel⟩, (by decide +kernel : rmaxl 349 ≤ 31), by decide +kernel, (Or.inr ⟨.int, rfl, rfl⟩), (fun h => absurd (show rinit 349 = true from h) (by decide +kernel))⟩
set_option maxRecDepth 100000 in
theorem pm350 (kn : List rM) : rpoM (rpar kn) rE0 350 2 := ⟨tw1 (List.mem_of_getElem? (i := 9) rfl) rfl, tw13 (List.mem_of_getElem? (i := 143) rfl) rfl, ⟨by decide +kernel, by decide +kernel, by decide +kernel⟩, (by decide +kernel : rmaxl 350 ≤ 31), by decide +kernel, (Or.inr ⟨.boolean, rfl, rfl⟩), (fun h => absurd (show rinit 350 = true from h) (by decide +kernel))⟩
set_option maxRecDepth 100000 in
theorem pm351 (kn : List rM) : rpoM (rpar kn) rE0 351 3 := ⟨tw1 (List.mem_of_getElem? (i := 9) rfl) rfl, tw13 (List.mem_of_getElem? (i := 148) rfl) rfl, ⟨by decide +kernel, by decide +kernel, by decide +kernel⟩, (by decide +kernel : rmaxl 351 ≤ 31), by decide +kernel, (Or.inl ⟨rfl, rfl⟩), (fun h => absurd (show rinit 351 = true from h) (by decide +kernel))⟩
set_option maxRecDepth 100000 in
theorem pm352 (kn : List rM) : rpoM (rpar kn) rE0 352 1 := ⟨tw1 (List.mem_of_getElem? (i := 9) rfl) rfl, tw13 (List.mem_of_getElem? (i := 135) rfl) rfl, ⟨by decide +kernel, by decide +kernel, by decide +kernel⟩, (by decide +kernel : rmaxl 352 ≤ 31), by decide +kernel, (Or.inr ⟨.int, rfl, rfl⟩), (fun h => absurd (show rinit 352 = true from h) (by decide +kernel))⟩
set_option maxRecDepth 100000 in
theorem pm353 (kn : List rM) : rpoM (rpar kn) rE0 353 1 := ⟨tw1 (List.mem_of_getElem? (i := 8) rfl) rfl, tw8 (List.mem_of_getElem? (i := 49) rfl) rfl, ⟨by decide +kernel, by decide +kernel, by decide +kernel⟩, (by decide +kernel : rmaxl 353 ≤ 31), by decide +kernel, (Or.inl ⟨rfl, rfl⟩), (fun _ => rfl)⟩
set_option maxRecDepth 100000 in
theorem pm354 (kn : List rM) : rpoM (rpar kn) rE0 354 0 := ⟨tw1 (List.mem_of_getElem? (i := 8) rfl) rfl, tw10 (List.mem_of_getElem? (i := 211) rfl) rfl, ⟨by decide +kernel, by decide +kernel, by decide +kernel⟩, (by decide +kernel : rmaxl 354 ≤ 31), by decide +kernel, (Or.inl ⟨rfl, rfl⟩), (fun h => absurd (show rinit 354 = true from h) (by decide +kernel))⟩
set_option maxRecDepth 100000 in
theorem pm355 (kn : List rM) : rpoM (rpar kn) rE0 355 0 := ⟨tw1 (List.mem_of_getElem? (i := 8) rfl) rfl, tw11 (List.mem_of_getElem? (i := 50) rfl) rfl, ⟨by decide +kernel, by decide +kernel, by decide +kernel⟩, (by decide +kernel : rmaxl 355 ≤ 31), by decide +kernel, (Or.inl ⟨rfl, rfl⟩), (fun h => absurd (show rinit 355 = true from h) (by decide +kernel))⟩
set_option maxRecDepth 100000 in
theorem pm356 (kn : List rM) : rpoM (rpar kn) rE0 356 2 := ⟨tw1 (List.mem_of_getElem? (i := 8) rfl) rfl, tw11 (List.mem_of_getElem? (i := 156) rfl) rfl, ⟨by decide +kernel, by decide +kernel, by decide +kernel⟩, (by decide +kernel : rmaxl 356 ≤ 31), by decide +kernel, (Or.inr ⟨.long, rfl, rfl⟩), (fun h => absurd (show rinit 356 = true from h) (by decide +kernel))⟩
set_option maxRecDepth 100000 in
theorem pm357 (kn : List rM) : rpoM (rpar kn) rE0 357 2 := ⟨tw1 (List.mem_of_getElem? (i := 8) rfl) rfl, tw11 (List.mem_of_getElem? (i := 153) rfl) rfl, ⟨by decide +kernel, by decide +kernel, by decide +kernel⟩, (by decide +kernel : rmaxl 357 ≤ 31), by decide +kernel, (Or.inr ⟨.long, rfl, rfl⟩), (fun h => absurd (show rinit 357 = true from h) (by decide +kernel))⟩
set_option maxRecDepth 100000 in
theorem pm358 (kn : List rM) : rpoM (rpar kn) rE0 358 2 := ⟨tw1 (List.mem_of_getElem? (i := 8) rfl) rfl, tw11 (List.mem_of_getElem? (i := 150) rfl) rfl, ⟨by decide +kernel, by decide +kernel, by decide +kernel⟩, (by decide +kernel : rmaxl 358 ≤ 31), by decide +kernel, (Or.inr ⟨.long, rfl, rfl⟩), (fun h => absurd (show rinit 358 = true from h) (by decide +kernel))⟩
set_option maxRecDepth 100000 in
theorem pm359 (kn : List rM) : rpoM (rpar kn) rE0 359 3 := ⟨tw1 (List.mem_of_getElem? (i := 8) rfl) rfl, tw11 (List.mem_of_getElem? (i := 142) rfl) rfl, ⟨by decide +kernel, by decide +kernel, by decide +kernel⟩, (by decide +kernel : rmaxl 359 ≤ 31), by decide +kernel, (Or.inr ⟨.long, rfl, rfl⟩), (fun h => absurd (show rinit 359 = true from h) (by decide +kernel))⟩
set_option maxRecDepth 100000 in
theorem pm360 (kn : List rM) : rpoM (rpar kn) rE0 360 3 := ⟨tw1 (List.mem_of_getElem? (i := 8) rfl) rfl, tw11 (List.mem_of_getElem? (i := 104) rfl) rfl, ⟨by decide +kernel, by decide +kernel, by decide +kernel⟩, (by decide +kernel : rmaxl 360 ≤ 31), by decide +kernel, (Or.inr ⟨.int, rfl, rfl⟩), (fun h => absurd (show rinit 360 = true from h) (by decide +kernel))⟩
set_option maxRecDepth 100000 in
theorem pm361 (kn : List rM) : rpoM (rpar kn) rE0 361 2 := ⟨tw1 (List.mem_of_getElem? (i := 8) rfl) rfl, tw11 (List.mem_of_getElem? (i := 99) rfl) rfl, ⟨by decide +kernel, by decide +kernel, by decide +kernel⟩, (by decide +kernel : rmaxl 361 ≤ 31), by decide +kernel, (Or.inr ⟨.int, rfl, rfl⟩), (fun h => absurd (show rinit 361 = true from h) (by decide +kernel))⟩
set_option maxRecDepth 100000 in
theorem pm362 (kn : List rM) : rpoM (rpar kn) rE0 362 2 := ⟨tw1 (List.mem_of_getElem? (i := 8) rfl) rfl, tw11 (List.mem_of_getElem? (i := 95) rfl) rfl, ⟨by decide +kernel, by decide +kernel, by decide +kernel⟩, (by decide +kernel : rmaxl 362 ≤ 31), by decide +kernel, (Or.inr ⟨.int, rfl, rfl⟩), (fun h => absurd (show rinit 362 = true from h) (by decide +kernel))⟩
set_option maxRecDepth 100000 in
theorem pm363 (kn : List rM) : rpoM (rpar kn) rE0 363 1 := ⟨tw1 (List.mem_of_getElem? (i := 8) rfl) rfl, tw11 (List.mem_of_getElem? (i := 112) rfl) rfl, ⟨by decide +kernel, by decide +kernel, by decide +kernel⟩, (by decide +kernel : rmaxl 363 ≤ 31), by decide +kernel, (Or.inl ⟨rfl, rfl⟩), (fun h => absurd (show rinit 363 = true from h) (by decide +kernel))⟩
set_option maxRecDepth 100000 in
theorem pm364 (kn : List rM) : rpoM (rpar kn) rE0 364 1 := ⟨tw1 (List.mem_of_getElem? (i := 8) rfl) rfl, tw11 (List.mem_of_getElem? (i := 116) rfl) rfl, ⟨by decide +kernel, by decide +kernel, by decide +kernel⟩, (by decide +kernel : rmaxl 364 ≤ 31), by decide +kernel, (Or.inl ⟨rfl, rfl⟩), (fun h => absurd (show rinit 364 = true from h) (by decide +kernel))⟩
set_option maxRecDepth 100000 in
theorem pm365 (kn : List rM) : rpoM (rpar kn) rE0 365 4 := ⟨tw1 (List.mem_of_getElem? (i := 8) rfl) rfl, tw11 (List.mem_of_getElem? (i := 108) rfl) rfl, ⟨by decide +kernel, by decide +kernel, by decide +kernel⟩, (by decide +kernel : rmaxl 365 ≤ 31), by decide +kernel, (Or.inl ⟨rfl, rfl⟩), (fun h => absurd (show rinit 365 = true from h) (by decide +kernel))⟩
set_option maxRecDepth 100000 in
theorem pm366 (kn : List rM) : rpoM (rpar kn) rE0 366 2 := ⟨tw1 (List.mem_of_getElem? (i := 8) rfl) rfl, tw11 (List.mem_of_getElem? (i := 91) rfl) rfl, ⟨by decide +kernel, by decide +kernel, by decide +kernel⟩, (by decide +kernel : rmaxl 366 ≤ 31), by decide +kernel, (Or.inl ⟨rfl, rfl⟩), (fun h => absurd (show rinit 366 = true from h) (by decide +kernel))⟩
set_option maxRecDepth 100000 in
theorem pm367 (kn : List rM) : rpoM (rpar kn) rE0 367 0 := ⟨tw1 (List.mem_of_getElem? (i := 8) rfl) rfl, tw11 (List.mem_of_getElem? (i := 83) rfl) rfl, ⟨by decide +kernel, by decide +kernel, by decide +kernel⟩, (by decide +kernel : rmaxl 367 ≤ 31), by decide +kernel, (Or.inl ⟨rfl, rfl⟩), (fun h => absurd (show rinit 367 = true from h) (by decide +kernel))⟩
set_option maxRecDepth 100000 in
theorem pm368 (kn : List rM) : rpoM (rpar kn) rE0 368 2 := ⟨tw1 (List.mem_of_getElem? (i := 8) rfl) rfl, tw11 (List.mem_of_getElem? (i := 87) rfl) rfl, ⟨by decide +kernel, by decide +kernel, by decide +kernel⟩, (by decide +kernel : rmaxl 368 ≤ 31), by decide +kernel, (Or.inl ⟨rfl, rfl⟩), (fun h => absurd (show rinit 368 = true from h) (by decide +kernel))⟩
set_option maxRecDepth 100000 in
theorem pm369 (kn : List rM) : rpoM (rpar kn) rE0 369 2 := ⟨tw1 (List.mem_of_getElem? (i := 8) rfl) rfl, tw11 (List.mem_of_getElem? (i := 120) rfl) rfl, ⟨by decide +kernel, by decide +kernel, by decide +kernel⟩, (by decide +kernel : rmaxl 369 ≤ 31), by decide +kernel, (Or.inr ⟨.int, rfl, rfl⟩), (fun h => absurd (show rinit 369 = true from h) (by decide +kernel))⟩
set_option maxRecDepth 100000 in
theorem pm370 (kn : List rM) : rpoM (rpar kn) rE0 370 1 := ⟨tw1 (List.mem_of_getElem? (i := 8) rfl) rfl, tw11 (List.mem_of_getElem? (i := 79) rfl) rfl, ⟨by decide +kernel, by decide +kernel, by decide +kernel⟩, (by decide +kernel : rmaxl 370 ≤ 31), by decide +kernel, (Or.inr ⟨.int, rfl, rfl⟩), (fun h => absurd (show rinit 370 = true from h) (by decide +kernel))⟩
set_option maxRecDepth 100000 in
theorem pm371 (kn : List rM) : rpoM (rpar kn) rE0 371 2 := ⟨tw1 (List.mem_of_getElem? (i := 8) rfl) rfl, tw13 (List.mem_of_getElem? (i := 55) rfl) rfl, ⟨by decide +kernel, by decide +kernel, by decide +kernel⟩, (by decide +kernel : rmaxl 371 ≤ 31), by decide +kernel, (Or.inr ⟨.boolean, rfl, rfl⟩), (fun h => absurd (show rinit 371 = true from h) (by decide +kernel))⟩
set_option maxRecDepth 100000 in
theorem pm372 (kn : List rM) : rpoM (rpar kn) rE0 372 3 := ⟨tw1 (List.mem_of_getElem? (i := 8) rfl) rfl, tw13 (List.mem_of_getElem? (i := 51) rfl) rfl, ⟨by decide +kernel, by decide +kernel, by decide +kernel⟩, (by decide +kernel : rmaxl 372 ≤ 31), by decide +kernel, (Or.inr ⟨.int, rfl, rfl⟩), (fun h => absurd (show rinit 372 = true from h) (by decide +kernel))⟩
set_option maxRecDepth 100000 in
theorem pm373 (kn : List rM) : rpoM (rpar kn) rE0 373 0 := ⟨tw1 (List.mem_of_getElem? (i := 8) rfl) rfl, tw13 (List.mem_of_getElem? (i := 47) rfl) rfl, ⟨by decide +kernel, by decide +kernel, by decide +kernel⟩, (by decide +kernel : rmaxl 373 ≤ 31), by decide +kernel, (Or.inl ⟨rfl, rfl⟩), (fun h => absurd (show rinit 373 = true from h) (by decide +kernel))⟩
set_option maxRecDepth 100000 in
theorem pm374 (kn : List rM) : rpoM (rpar kn) rE0 374 1 := ⟨tw1 (List.mem_of_getElem? (i := 8) rfl) rfl, tw13 (List.mem_of_getElem? (i := 43) rfl) rfl, ⟨by decide +kernel, by decide +kernel, by decide +kernel⟩, (by decide +kernel : rmaxl 374 ≤ 31), by decide +kernel, (Or.inr ⟨.int, rfl, rfl⟩), (fun h => absurd (show rinit 374 = true from h) (by decide +kernel))⟩
set_option maxRecDepth 100000 in
theorem pm375 (kn : List rM) : rpoM (rpar kn) rE0 375 1 := ⟨tw1 (List.mem_of_getElem? (i := 8) rfl) rfl, tw11 (List.mem_of_getElem? (i := 127) rfl) rfl, ⟨by decide +kernel, by decide +kernel, by decide +kernel⟩, (by decide +kernel : rmaxl 375 ≤ 31), by decide +kernel, (Or.inr ⟨.boolean, rfl, rfl⟩), (fun h => absurd (show rinit 375 = true from h) (by decide +kernel))⟩
set_option maxRecDepth 100000 in
theorem pm376 (kn : List rM) : rpoM (rpar kn) rE0 376 1 := ⟨tw1 (List.mem_of_getElem? (i := 8) rfl) rfl, tw11 (List.mem_of_getElem? (i := 137) rfl) rfl, ⟨by decide +kernel, by decide +kernel, by decide +kernel⟩, (by decide +kernel : rmaxl 376 ≤ 31), by decide +kernel, (Or.inl ⟨rfl, rfl⟩), (fun h => absurd (show rinit 376 = true from h) (by decide +kernel))⟩
set_option maxRecDepth 100000 in
theorem pm377 (kn : List rM) : rpoM (rpar kn) rE0 377 2 := ⟨tw1 (List.mem_of_getElem? (i := 8) rfl) rfl, tw11 (List.mem_of_getElem? (i := 132) rfl) rfl, ⟨by decide +kernel, by decide +kernel, by decide +kernel⟩, (by decide +kernel : rmaxl 377 ≤ 31), by decide +kernel, (Or.inl ⟨rfl, rfl⟩), (fun h => absurd (show rinit 377 = true from h) (by decide +kernel))⟩
set_option maxRecDepth 100000 in
theorem pm378 (kn : List rM) : rpoM (rpar kn) rE0 378 5 := ⟨tw1 (List.mem_of_getElem? (i := 8) rfl) rfl, tw11 (List.mem_of_getElem? (i := 124) rfl) rfl, ⟨by decide +kernel, by decide +kernel, by decide +kernel⟩, (by decide +kernel : rmaxl 378 ≤ 31), by decide +kernel, (Or.inr ⟨.int, rfl, rfl⟩), (fun h => absurd (show rinit 378 = true from h) (by decide +kernel))⟩
set_option maxRecDepth 100000 in
theorem pm379 (kn : List rM) : rpoM (rpar kn) rE0 379 1 := ⟨tw1 (List.mem_of_getElem? (i := 8) rfl) rfl, tw13 (List.mem_of_getElem? (i := 67) rfl) rfl, ⟨by decide +kernel, by decide +kernel, by decide +kernel⟩, (by decide +kernel : rmaxl 379 ≤ 31), by decide +kernel, (Or.inr ⟨.boolean, rfl, rfl⟩), (fun h => absurd (show rinit 379 = true from h) (by decide +kernel))⟩
set_option maxRecDepth 100000 in
theorem pm380 (kn : List rM) : rpoM (rpar kn) rE0 380 2 := ⟨tw1 (List.mem_of_getElem? (i := 8) rfl) rfl, tw13 (List.mem_of_getElem? (i := 75) rfl) rfl, ⟨by decide +kernel, by decide +kernel, by decide +kernel⟩, (by decide +kernel : rmaxl 380 ≤ 31), by decide +kernel, (Or.inr ⟨.long, rfl, rfl⟩), (fun h => absurd (show rinit 380 = true from h) (by decide +kernel))⟩
set_option maxRecDepth 100000 in
theorem pm381 (kn : List rM) : rpoM (rpar kn) rE0 381 2 := ⟨tw1 (List.mem_of_getElem? (i := 8) rfl) rfl, tw13 (List.mem_of_getElem? (i := 71) rfl) rfl, ⟨by decide +kernel, by decide +kernel, by decide +kernel⟩, (by decide +kernel : rmaxl 381 ≤ 31), by decide +kernel, (Or.inr ⟨.int, rfl, rfl⟩), (fun h => absurd (show rinit 381 = true from h) (by decide +kernel))⟩
set_option maxRecDepth 100000 in
theorem pm382 (kn : List rM) : rpoM (rpar kn) rE0 382 1 := ⟨tw1 (List.mem_of_getElem? (i := 8) rfl) rfl, tw13 (List.mem_of_getElem? (i := 63) rfl) rfl, ⟨by decide +kernel, by decide +kernel, by decide +kernel⟩, (by decide +kernel : rmaxl 382 ≤ 31), by decide +kernel, (Or.inr ⟨.int, rfl, rfl⟩), (fun h => absurd (show rinit 382 = true from h) (by decide +kernel))⟩
set_option maxRecDepth 100000 in
theorem pm383 (kn : List rM) : rpoM (rpar kn) rE0 383 1 := ⟨tw1 (List.mem_of_getElem? (i := 8) rfl) rfl, tw13 (List.mem_of_getElem? (i := 81) rfl) rfl, ⟨by decide +kernel, by decide +kernel, by decide +kernel⟩, (by decide +kernel : rmaxl 383 ≤ 31), by decide +kernel, (Or.inr ⟨.int, rfl, rfl⟩), (fun h => absurd (show rinit 383 = true from h) (by decide +kernel))⟩
set_option maxRecDepth 100000 in
theorem pm384 (kn : List rM) : rpoM (rpar kn) rE0 384 5 := ⟨tw1 (List.mem_of_getElem? (i := 8) rfl) rfl, tw13 (List.mem_of_getElem? (i := 85) rfl) rfl, ⟨by decide +kernel, by decide +kernel, by decide +kernel⟩, (by decide +kernel : rmaxl 384 ≤ 31), by decide +kernel, (Or.inr ⟨.int, rfl, rfl⟩), (fun h => absurd (show rinit 384 = true from h) (by decide +kernel))⟩
set_option maxRecDepth 100000 in
theorem pm385 (kn : List rM) : rpoM (rpar kn) rE0 385 1 := ⟨tw1 (List.mem_of_getElem? (i := 8) rfl) rfl, tw13 (List.mem_of_getElem? (i := 59) rfl) rfl, ⟨by decide +kernel, by decide +kernel, by decide +kernel⟩, (by decide +kernel : rmaxl 385 ≤ 31), by decide +kernel, (Or.inr ⟨.int, rfl, rfl⟩), (fun h => absurd (show rinit 385 = true from h) (by decide +kernel))⟩
set_option maxRecDepth 100000 in
theorem pm386 (kn : List rM) : rpoM (rpar kn) rE0 386 1 := ⟨tw1 (List.mem_of_getElem? (i := 11) rfl) rfl, tw9 (List.mem_of_getElem? (i := 81) rfl) rfl, ⟨by decide +kernel, by decide +kernel, by decide +kernel⟩, (by decide +kernel : rmaxl 386 ≤ 31), by decide +kernel, (Or.inl ⟨rfl, rfl⟩), (fun _ => rfl)⟩
set_option maxRecDepth 100000 in
theorem pm387 (kn : List rM) : rpoM (rpar kn) rE0 387 2 := ⟨tw1 (List.mem_of_getElem? (i := 11) rfl) rfl, tw11 (List.mem_of_getElem? (i := 71) rfl) rfl, ⟨by decide +kernel, by decide +kernel, by decide +kernel⟩, (by decide +kernel : rmaxl 387 ≤ 31), by decide +kernel, (Or.inl ⟨rfl, rfl⟩), (fun h => absurd (show rinit 387 = true from h) (by decide +kernel))⟩
set_option maxRecDepth 100000 in
theorem pm388 (kn : List rM) : rpoM (rpar kn) rE0 388 1 := ⟨tw1 (List.mem_of_getElem? (i := 11) rfl) rfl, tw11 (List.mem_of_getElem? (i := 42) rfl) rfl, ⟨by decide +kernel, by decide +kernel, by decide +kernel⟩, (by decide +kernel : rmaxl 388 ≤ 31), by decide +kernel, (Or.inl ⟨rfl, rfl⟩), (fun h => absurd (show rinit 388 = true from h) (by decide +kernel))⟩
set_option maxRecDepth 100000 in
theorem pm389 (kn : List rM) : rpoM (rpar kn) rE0 389 2 := ⟨tw1 (List.mem_of_getElem? (i := 11) rfl) rfl, tw12 (List.mem_of_getElem? (i := 111) rfl) rfl, ⟨by decide +kernel, by decide +kernel, by decide +kernel⟩, (by decide +kernel : rmaxl 389 ≤ 31), by decide +kernel, (Or.inl ⟨rfl, rfl⟩), (fun h => absurd (show rinit 389 = true from h) (by decide +kernel))⟩
set_option maxRecDepth 100000 in
theorem pm390 (kn : List rM) : rpoM (rpar kn) rE0 390 0 := ⟨tw1 (List.mem_of_getElem? (i := 11) rfl) rfl, tw12 (List.mem_of_getElem? (i := 130) rfl) rfl, ⟨by decide +kernel, by decide +kernel, by decide +kernel⟩, (by decide +kernel : rmaxl 390 ≤ 31), by decide +kernel, (Or.inl ⟨rfl, rfl⟩), (fun h => absurd (show rinit 390 = true from h) (by decide +kernel))⟩
set_option maxRecDepth 100000 in
theorem pm391 (kn : List rM) : rpoM (rpar kn) rE0 391 0 := ⟨tw1 (List.mem_of_getElem? (i := 11) rfl) rfl, tw12 (List.mem_of_getElem? (i := 107) rfl) rfl, ⟨by decide +kernel, by decide +kernel, by decide +kernel⟩, (by decide +kernel : rmaxl 391 ≤ 31), by decide +kernel, (Or.inl ⟨rfl, rfl⟩), (fun h => absurd (show rinit 391 = true from h) (by decide +kernel))⟩
set_option maxRecDepth 100000 in
theorem pm392 (kn : List rM) : rpoM (rpar kn) rE0 392 1 := ⟨tw1 (List.mem_of_getElem? (i := 11) rfl) rfl, tw12 (List.mem_of_getElem? (i := 11) rfl) rfl, ⟨by decide +kernel, by decide +kernel, by decide +kernel⟩, (by decide +kernel : rmaxl 392 ≤ 31), by decide +kernel, (Or.inl ⟨rfl, rfl⟩), (fun h => absurd (show rinit 392 = true from h) (by decide +kernel))⟩
set_option maxRecDepth 100000 in
theorem pm393 (kn : List rM) : rpoM (rpar kn) rE0 393 2 := ⟨tw1 (List.mem_of_getElem? (i := 11) rfl) rfl, tw12 (List.mem_of_getElem? (i := 6) rfl) rfl, ⟨by decide +kernel, by decide +kernel, by decide +kernel⟩, (by decide +kernel : rmaxl 393 ≤ 31), by decide +kernel, (Or.inl ⟨rfl, rfl⟩), (fun h => absurd (show rinit 393 = true from h) (by decide +kernel))⟩
set_option maxRecDepth 100000 in
theorem pm394 (kn : List rM) : rpoM (rpar kn) rE0 394 0 := ⟨tw1 (List.mem_of_getElem? (i := 11) rfl) rfl, tw12 (List.mem_of_getElem? (i := 150) rfl) rfl, ⟨by decide +kernel, by decide +kernel, by decide +kernel⟩, (by decide +kernel : rmaxl 394 ≤ 31), by decide +kernel, (Or.inl ⟨rfl, rfl⟩), (fun h => absurd (show rinit 394 = true from h) (by decide +kernel))⟩
set_option maxRecDepth 100000 in
theorem pm395 (kn : List rM) : rpoM (rpar kn) rE0 395 0 := ⟨tw1 (List.mem_of_getElem? (i := 11) rfl) rfl, tw13 (List.mem_of_getElem? (i := 20) rfl) rfl, ⟨by decide +kernel, by decide +kernel, by decide +kernel⟩, (by decide +kernel : rmaxl 395 ≤ 31), by decide +kernel, (Or.inr ⟨.int, rfl, rfl⟩), (fun h => absurd (show rinit 395 = true from h) (by decide +kernel))⟩
set_option maxRecDepth 100000 in
theorem pm396 (kn : List rM) : rpoM (rpar kn) rE0 396 3 := ⟨tw1 (List.mem_of_getElem? (i := 11) rfl) rfl, tw12 (List.mem_of_getElem? (i := 45) rfl) rfl, ⟨by decide +kernel, by decide +kernel, by decide +kernel⟩, (by decide +kernel : rmaxl 396 ≤ 31), by decide +kernel, (Or.inr ⟨.int, rfl, rfl⟩), (fun h => absurd (show rinit 396 = true from h) (by decide +kernel))⟩
set_option maxRecDepth 100000 in
theorem pm397 (kn : List rM) : rpoM (rpar kn) rE0 397 2 := ⟨tw1 (List.mem_of_getElem? (i := 11) rfl) rfl, tw12 (List.mem_of_getElem? (i := 40) rfl) rfl, ⟨by decide +kernel, by decide +kernel, by decide +kernel⟩, (by decide +kernel : rmaxl 397 ≤ 31), by decide +kernel, (Or.inr ⟨.int, rfl, rfl⟩), (fun h => absurd (show rinit 397 = true from h) (by decide +kernel))⟩
set_option maxRecDepth 100000 in
theorem pm398 (kn : List rM) : rpoM (rpar kn) rE0 398 1 := ⟨tw1 (List.mem_of_getElem? (i := 11) rfl) rfl, tw12 (List.mem_of_getElem? (i := 36) rfl) rfl, ⟨by decide +kernel, by decide +kernel, by decide +kernel⟩, (by decide +kernel : rmaxl 398 ≤ 31), by decide +kernel, (Or.inr ⟨.int, rfl, rfl⟩), (fun h => absurd (show rinit 398 = true from h) (by decide +kernel))⟩
set_option maxRecDepth 100000 in
theorem pm399 (kn : List rM) : rpoM (rpar kn) rE0 399 1 := ⟨tw1 (List.mem_of_getElem? (i := 11) rfl) rfl, tw12 (List.mem_of_getElem? (i := 32) rfl) rfl, ⟨by decide +kernel, by decide +kernel, by decide +kernel⟩, (by decide +kernel : rmaxl 399 ≤ 31), by decide +kernel, (Or.inl ⟨rfl, rfl⟩), (fun h => absurd (show rinit 399 = true from h) (by decide +kernel))⟩
set_option maxRecDepth 100000 in
theorem pm400 (kn : List rM) : rpoM (rpar kn) rE0 400 1 := ⟨tw1 (List.mem_of_getElem? (i := 11) rfl) rfl, tw12 (List.mem_of_getElem? (i := 126) rfl) rfl, ⟨by decide +kernel, by decide +kernel, by decide +kernel⟩, (by decide +kernel : rmaxl 400 ≤ 31), by decide +kernel, (Or.inr ⟨.int, rfl, rfl⟩), (fun h => absurd (show rinit 400 = true from h) (by decide +kernel))⟩
set_option maxRecDepth 100000 in
theorem pm401 (kn : List rM) : rpoM (rpar kn) rE0 401 1 := ⟨tw1 (List.mem_of_getElem? (i := 11) rfl) rfl, tw12 (List.mem_of_getElem? (i := 169) rfl) rfl, ⟨by decide +kernel, by decide +kernel, by decide +kernel⟩, (by decide +kernel : rmaxl 401 ≤ 31), by decide +kernel, (Or.inr ⟨.int, rfl, rfl⟩), (fun h => absurd (show rinit 401 = true from h) (by decide +kernel))⟩
set_option maxRecDepth 100000 in
theorem pm402 (kn : List rM) : rpoM (rpar kn) rE0 402 1 := ⟨tw1 (List.mem_of_getElem? (i := 11) rfl) rfl, tw12 (List.mem_of_getElem? (i := 176) rfl) rfl, ⟨by decide +kernel, by decide +kernel, by decide +kernel⟩, (by decide +kernel : rmaxl 402 ≤ 31), by decide +kernel, (Or.inr ⟨.int, rfl, rfl⟩), (fun h => absurd (show rinit 402 = true from h) (by decide +kernel))⟩
set_option maxRecDepth 100000 in
theorem pm403 (kn : List rM) : rpoM (rpar kn) rE0 403 5 := ⟨tw1 (List.mem_of_getElem? (i := 11) rfl) rfl, tw12 (List.mem_of_getElem? (i := 173) rfl) rfl, ⟨by decide +kernel, by decide +kernel, by decide +kernel⟩, (by decide +kernel : rmaxl 403 ≤ 31), by decide +kernel, (Or.inl ⟨rfl, rfl⟩), (fun h => absurd (show rinit 403 = true from h) (by decide +kernel))⟩
set_option maxRecDepth 100000 in
theorem pm404 (kn : List rM) : rpoM (rpar kn) rE0 404 0 := ⟨tw1 (List.mem_of_getElem? (i := 11) rfl) rfl, tw12 (List.mem_of_getElem? (i := 166) rfl) rfl, ⟨by decide +kernel, by decide +kernel, by decide +kernel⟩, (by decide +kernel : rmaxl 404 ≤ 31), by decide +kernel, (Or.inl ⟨rfl, rfl⟩), (fun h => absurd (show rinit 404 = true from h) (by decide +kernel))⟩
set_option maxRecDepth 100000 in
theorem pm405 (kn : List rM) : rpoM (rpar kn) rE0 405 2 := ⟨tw1 (List.mem_of_getElem? (i := 11) rfl) rfl, tw12 (List.mem_of_getElem? (i := 180) rfl) rfl, ⟨by decide +kernel, by decide +kernel, by decide +kernel⟩, (by decide +kernel : rmaxl 405 ≤ 31), by decide +kernel, (Or.inr ⟨.int, rfl, rfl⟩), (fun h => absurd (show rinit 405 = true from h) (by decide +kernel))⟩
set_option maxRecDepth 100000 in
theorem pm406 (kn : List rM) : rpoM (rpar kn) rE0 406 1 := ⟨tw1 (List.mem_of_getElem? (i := 11) rfl) rfl, tw12 (List.mem_of_getElem? (i := 119) rfl) rfl, ⟨by decide +kernel, by decide +kernel, by decide +kernel⟩, (by decide +kernel : rmaxl 406 ≤ 31), by decide +kernel, (Or.inr ⟨.int, rfl, rfl⟩), (fun h => absurd (show rinit 406 = true from h) (by decide +kernel))⟩
set_option maxRecDepth 100000 in
theorem pm407 (kn : List rM) : rpoM (rpar kn) rE0 407 5 := ⟨tw1 (List.mem_of_getElem? (i := 11) rfl) rfl, tw12 (List.mem_of_getElem? (i := 134) rfl) rfl, ⟨by decide +kernel, by decide +kernel, by decide +kernel⟩, (by decide +kernel : rmaxl 407 ≤ 31), by decide +kernel, (Or.inl ⟨rfl, rfl⟩), (fun h => absurd (show rinit 407 = true from h) (by decide +kernel))⟩
set_option maxRecDepth 100000 in
theorem pm408 (kn : List rM) : rpoM (rpar kn) rE0 408 4 := ⟨tw1 (List.mem_of_getElem? (i := 11) rfl) rfl, tw12 (List.mem_of_getElem? (i := 138) rfl) rfl, ⟨by decide +kernel, by decide +kernel, by decide +kernel⟩, (by decide +kernel : rmaxl 408 ≤ 31), by decide +kernel, (Or.inr ⟨.int, rfl, rfl⟩), (fun h => absurd (show rinit 408 = true from h) (by decide +kernel))⟩
set_option maxRecDepth 100000 in
theorem pm409 (kn : List rM) : rpoM (rpar kn) rE0 409 4 := ⟨tw1 (List.mem_of_getElem? (i := 11) rfl) rfl, tw12 (List.mem_of_getElem? (i := 142) rfl) rfl, ⟨by decide +kernel, by decide +kernel, by decide +kernel⟩, (by decide +kernel : rmaxl 409 ≤ 31), by decide +kernel, (Or.inr ⟨.int, rfl, rfl⟩), (fun h => absurd (show rinit 409 = true from h) (by decide +kernel))⟩
set_option maxRecDepth 100000 in
theorem pm410 (kn : List rM) : rpoM (rpar kn) rE0 410 4 := ⟨tw1 (List.mem_of_getElem? (i := 11) rfl) rfl, tw12 (List.mem_of_getElem? (i := 204) rfl) rfl, ⟨by decide +kernel, by decide +kernel, by decide +kernel⟩, (by decide +kernel : rmaxl 410 ≤ 31), by decide +kernel, (Or.inr ⟨.int, rfl, rfl⟩), (fun h => absurd (show rinit 410 = true from h) (by decide +kernel))⟩
set_option maxRecDepth 100000 in
theorem pm411 (kn : List rM) : rpoM (rpar kn) rE0 411 2 := ⟨tw1 (List.mem_of_getElem? (i := 11) rfl) rfl, tw12 (List.mem_of_getElem? (i := 116) rfl) rfl, ⟨by decide +kernel, by decide +kernel, by decide +kernel⟩, (by decide +kernel : rmaxl 411 ≤ 31), by decide +kernel, (Or.inl ⟨rfl, rfl⟩), (fun h => absurd (show rinit 411 = true from h) (by decide +kernel))⟩
set_option maxRecDepth 100000 in
theorem pm412 (kn : List rM) : rpoM (rpar kn) rE0 412 3 := ⟨tw1 (List.mem_of_getElem? (i := 11) rfl) rfl, tw12 (List.mem_of_getElem? (i := 123) rfl) rfl, ⟨by decide +kernel, by decide +kernel, by decide +kernel⟩, (by decide +kernel : rmaxl 412 ≤ 31), by decide +kernel, (Or.inl ⟨rfl, rfl⟩), (fun h => absurd (show rinit 412 = true from h) (by decide +kernel))⟩
set_option maxRecDepth 100000 in
theorem pm413 (kn : List rM) : rpoM (rpar kn) rE0 413 1 := ⟨tw1 (List.mem_of_getElem? (i := 11) rfl) rfl, tw12 (List.mem_of_getElem? (i := 208) rfl) rfl, ⟨by decide +kernel, by decide +kernel, by decide +kernel⟩, (by decide +kernel : rmaxl 413 ≤ 31), by decide +kernel, (Or.inr ⟨.int, rfl, rfl⟩), (fun h => absurd (show rinit 413 = true from h) (by decide +kernel))⟩
set_option maxRecDepth 100000 in
theorem pm414 (kn : List rM) : rpoM (rpar kn) rE0 414 1 := ⟨tw1 (List.mem_of_getElem? (i := 11) rfl) rfl, tw12 (List.mem_of_getElem? (i := 192) rfl) rfl, ⟨by decide +kernel, by decide +kernel, by decide +kernel⟩, (by decide +kernel : rmaxl 414 ≤ 31), by decide +kernel, (Or.inr ⟨.int, rfl, rfl⟩), (fun h => absurd (show rinit 414 = true from h) (by decide +kernel))⟩
set_option maxRecDepth 100000 in
theorem pm415 (kn : List rM) : rpoM (rpar kn) rE0 415 2 := ⟨tw1 (List.mem_of_getElem? (i := 11) rfl) rfl, tw12 (List.mem_of_getElem? (i := 212) rfl) rfl, ⟨by decide +kernel, by decide +kernel, by decide +kernel⟩, (by decide +kernel : rmaxl 415 ≤ 31), by decide +kernel, (Or.inr ⟨.int, rfl, rfl⟩), (fun h => absurd (show rinit 415 = true from h) (by decide +kernel))⟩
set_option maxRecDepth 100000 in
theorem pm416 (kn : List rM) : rpoM (rpar kn) rE0 416 3 := ⟨tw1 (List.mem_of_getElem? (i := 11) rfl) rfl, tw12 (List.mem_of_getElem? (i := 200) rfl) rfl, ⟨by decide +kernel, by decide +kernel, by decide +kernel⟩, (by decide +kernel : rmaxl 416 ≤ 31), by decide +kernel, (Or.inr ⟨.int, rfl, rfl⟩), (fun h => absurd (show rinit 416 = true from h) (by decide +kernel))⟩
set_option maxRecDepth 100000 in
theorem pm417 (kn : List rM) : rpoM (rpar kn) rE0 417 1 := ⟨tw1 (List.mem_of_getElem? (i := 11) rfl) rfl, tw12 (List.mem_of_getElem? (i := 196) rfl) rfl, ⟨by decide +kernel, by decide +kernel, by decide +kernel⟩, (by decide +kernel : rmaxl 417 ≤ 31), by decide +kernel, (Or.inr ⟨.int, rfl, rfl⟩), (fun h => absurd (show rinit 417 = true from h) (by decide +kernel))⟩
set_option maxRecDepth 100000 in
theorem pm418 (kn : List rM) : rpoM (rpar kn) rE0 418 1 := ⟨tw1 (List.mem_of_getElem? (i := 11) rfl) rfl, tw12 (List.mem_of_getElem? (i := 91) rfl) rfl, ⟨by decide +kernel, by decide +kernel, by decide +kernel⟩, (by decide +kernel : rmaxl 418 ≤ 31), by decide +kernel, (Or.inr ⟨.int, rfl, rfl⟩), (fun h => absurd (show rinit 418 = true from h) (by decide +kernel))⟩
set_option maxRecDepth 100000 in
theorem pm419 (kn : List rM) : rpoM (rpar kn) rE0 419 0 := ⟨tw1 (List.mem_of_getElem? (i := 11) rfl) rfl, tw12 (List.mem_of_getElem? (i := 87) rfl) rfl, ⟨by decide +kernel, by decide +kernel, by decide +kernel⟩, (by decide +kernel : rmaxl 419 ≤ 31), by decide +kernel, (Or.inr ⟨.int, rfl, rfl⟩), (fun h => absurd (show rinit 419 = true from h) (by decide +kernel))⟩
set_option maxRecDepth 100000 in
theorem pm420 (kn : List rM) : rpoM (rpar kn) rE0 420 0 := ⟨tw1 (List.mem_of_getElem? (i := 11) rfl) rfl, tw12 (List.mem_of_getElem? (i := 83) rfl) rfl, ⟨by decide +kernel, by decide +kernel, by decide +kernel⟩, (by decide +kernel : rmaxl 420 ≤ 31), by decide +kernel, (Or.inr ⟨.int, rfl, rfl⟩), (fun h => absurd (show rinit 420 = true from h) (by decide +kernel))⟩
set_option maxRecDepth 100000 in
theorem pm421 (kn : List rM) : rpoM (rpar kn) rE0 421 2 := ⟨tw1 (List.mem_of_getElem? (i := 11) rfl) rfl, tw12 (List.mem_of_getElem? (i := 99) rfl) rfl, ⟨by decide +kernel, by decide +kernel, by decide +kernel⟩, (by decide +kernel : rmaxl 421 ≤ 31), by decide +kernel, (Or.inr ⟨.int, rfl, rfl⟩), (fun h => absurd (show rinit 421 = true from h) (by decide +kernel))⟩
set_option maxRecDepth 100000 in
theorem pm422 (kn : List rM) : rpoM (rpar kn) rE0 422 1 := ⟨tw1 (List.mem_of_getElem? (i := 11) rfl) rfl, tw12 (List.mem_of_getElem? (i := 95) rfl) rfl, ⟨by decide +kernel, by decide +kernel, by decide +kernel⟩, (by decide +kernel : rmaxl 422 ≤ 31), by decide +kernel, (Or.inr ⟨.int, rfl, rfl⟩), (fun h => absurd (show rinit 422 = true from h) (by decide +kernel))⟩
set_option maxRecDepth 100000 in
theorem pm423 (kn : List rM) : rpoM (rpar kn) rE0 423 1 := ⟨tw1 (List.mem_of_getElem? (i := 11) rfl) rfl, tw12 (List.mem_of_getElem? (i := 103) rfl) rfl, ⟨by decide +kernel, by decide +kernel, by decide +kernel⟩, (by decide +kernel : rmaxl 423 ≤ 31), by decide +kernel, (Or.inr ⟨.int, rfl, rfl⟩), (fun h => absurd (show rinit 423 = true from h) (by decide +kernel))⟩
set_option maxRecDepth 100000 in
theorem pm424 (kn : List rM) : rpoM (rpar kn) rE0 424 3 := ⟨tw1 (List.mem_of_getElem? (i := 11) rfl) rfl, tw12 (List.mem_of_getElem? (i := 65) rfl) rfl, ⟨by decide +kernel, by decide +kernel, by decide +kernel⟩, (by decide +kernel : rmaxl 424 ≤ 31), by decide +kernel, (Or.inr ⟨.int, rfl, rfl⟩), (fun h => absurd (show rinit 424 = true from h) (by decide +kernel))⟩
set_option maxRecDepth 100000 in
theorem pm425 (kn : List rM) : rpoM (rpar kn) rE0 425 1 := ⟨tw1 (List.mem_of_getElem? (i := 11) rfl) rfl, tw12 (List.mem_of_getElem? (i := 69) rfl) rfl, ⟨by decide +kernel, by decide +kernel, by decide +kernel⟩, (by decide +kernel : rmaxl 425 ≤ 31), by decide +kernel, (Or.inr ⟨.int, rfl, rfl⟩), (fun h => absurd (show rinit 425 = true from h) (by decide +kernel))⟩
set_option maxRecDepth 100000 in
theorem pm426 (kn : List rM) : rpoM (rpar kn) rE0 426 2 := ⟨tw1 (List.mem_of_getElem? (i := 11) rfl) rfl, tw12 (List.mem_of_getElem? (i := 61) rfl) rfl, ⟨by decide +kernel, by decide +kernel, by decide +kernel⟩, (by decide +kernel : rmaxl 426 ≤ 31), by decide +kernel, (Or.inr ⟨.int, rfl, rfl⟩), (fun h => absurd (show rinit 426 = true from h) (by decide +kernel))⟩
set_option maxRecDepth 100000 in
theorem pm427 (kn : List rM) : rpoM (rpar kn) rE0 427 1 := ⟨tw1 (List.mem_of_getElem? (i := 11) rfl) rfl, tw12 (List.mem_of_getElem? (i := 76) rfl) rfl, ⟨by decide +kernel, by decide +kernel, by decide +kernel⟩, (by decide +kernel : rmaxl 427 ≤ 31), by decide +kernel, (Or.inr ⟨.int, rfl, rfl⟩), (fun h => absurd (show rinit 427 = true from h) (by decide +kernel))⟩
set_option maxRecDepth 100000 in
theorem pm428 (kn : List rM) : rpoM (rpar kn) rE0 428 1 := ⟨tw1 (List.mem_of_getElem? (i := 11) rfl) rfl, tw12 (List.mem_of_getElem? (i := 79) rfl) rfl, ⟨by decide +kernel, by decide +kernel, by decide +kernel⟩, (by decide +kernel : rmaxl 428 ≤ 31), by decide +kernel, (Or.inr ⟨.int, rfl, rfl⟩), (fun h => absurd (show rinit 428 = true from h) (by decide +kernel))⟩
set_option maxRecDepth 100000 in
theorem pm429 (kn : List rM) : rpoM (rpar kn) rE0 429 1 := ⟨tw1 (List.mem_of_getElem? (i := 11) rfl) rfl, tw12 (List.mem_of_getElem? (i := 73) rfl) rfl, ⟨by decide +kernel, by decide +kernel, by decide +kernel⟩, (by decide +kernel : rmaxl 429 ≤ 31), by decide +kernel, (Or.inr ⟨.int, rfl, rfl⟩), (fun h => absurd (show rinit 429 = true from h) (by decide +kernel))⟩
set_option maxRecDepth 100000 in
theorem pm430 (kn : List rM) : rpoM (rpar kn) rE0 430 2 := ⟨tw1 (List.mem_of_getElem? (i := 11) rfl) rfl, tw12 (List.mem_of_getElem? (i := 154) rfl) rfl, ⟨by decide +kernel, by decide +kernel, by decide +kernel⟩, (by decide +kernel : rmaxl 430 ≤ 31), by decide +kernel, (Or.inl ⟨rfl, rfl⟩), (fun h => absurd (show rinit 430 = true from h) (by decide +kernel))⟩
set_option maxRecDepth 100000 in
theorem pm431 (kn : List rM) : rpoM (rpar kn) rE0 431 2 := ⟨tw1 (List.mem_of_getElem? (i := 11) rfl) rfl, tw12 (List.mem_of_getElem? (i := 158) rfl) rfl, ⟨by decide +kernel, by decide +kernel, by decide +kernel⟩, (by decide +kernel : rmaxl 431 ≤ 31), by decide +kernel, (Or.inl ⟨rfl, rfl⟩), (fun h => absurd (show rinit 431 = true from h) (by decide +kernel))⟩
set_option maxRecDepth 100000 in
theorem pm432 (kn : List rM) : rpoM (rpar kn) rE0 432 0 := ⟨tw1 (List.mem_of_getElem? (i := 11) rfl) rfl, tw12 (List.mem_of_getElem? (i := 53) rfl) rfl, ⟨by decide +kernel, by decide +kernel, by decide +kernel⟩, (by decide +kernel : rmaxl 432 ≤ 31), by decide +kernel, (Or.inr ⟨.boolean, rfl, rfl⟩), (fun h => absurd (show rinit 432 = true from h) (by decide +kernel))⟩
set_option maxRecDepth 100000 in
theorem pm433 (kn : List rM) : rpoM (rpar kn) rE0 433 0 := ⟨tw1 (List.mem_of_getElem? (i := 11) rfl) rfl, tw12 (List.mem_of_getElem? (i := 57) rfl) rfl, ⟨by decide +kernel, by decide +kernel, by decide +kernel⟩, (by decide +kernel : rmaxl 433 ≤ 31), by decide +kernel, (Or.inr ⟨.boolean, rfl, rfl⟩), (fun h => absurd (show rinit 433 = true from h) (by decide +kernel))⟩
set_option maxRecDepth 100000 in
theorem pm434 (kn : List rM) : rpoM (rpar kn) rE0 434 0 := ⟨tw1 (List.mem_of_getElem? (i := 11) rfl) rfl, tw12 (List.mem_of_getElem? (i := 49) rfl) rfl, ⟨by decide +kernel, by decide +kernel, by decide +kernel⟩, (by decide +kernel : rmaxl 434 ≤ 31), by decide +kernel, (Or.inr ⟨.int, rfl, rfl⟩), (fun h => absurd (show rinit 434 = true from h) (by decide +kernel))⟩
set_option maxRecDepth 100000 in
theorem pm435 (kn : List rM) : rpoM (rpar kn) rE0 435 3 := ⟨tw1 (List.mem_of_getElem? (i := 11) rfl) rfl, tw12 (List.mem_of_getElem? (i := 146) rfl) rfl, ⟨by decide +kernel, by decide +kernel, by decide +kernel⟩, (by decide +kernel : rmaxl 435 ≤ 31), by decide +kernel, (Or.inl ⟨rfl, rfl⟩), (fun h => absurd (show rinit 435 = true from h) (by decide +kernel))⟩
set_option maxRecDepth 100000 in
theorem pm436 (kn : List rM) : rpoM (rpar kn) rE0 436 0 := ⟨tw1 (List.mem_of_getElem? (i := 11) rfl) rfl, tw12 (List.mem_of_getElem? (i := 162) rfl) rfl, ⟨by decide +kernel, by decide +kernel, by decide +kernel⟩, (by decide +kernel : rmaxl 436 ≤ 31), by decide +kernel, (Or.inl ⟨rfl, rfl⟩), (fun h => absurd (show rinit 436 = true from h) (by decide +kernel))⟩
set_option maxRecDepth 100000 in
theorem pm437 (kn : List rM) : rpoM (rpar kn) rE0 437 1 := ⟨tw1 (List.mem_of_getElem? (i := 11) rfl) rfl, tw12 (List.mem_of_getElem? (i := 188) rfl) rfl, ⟨by decide +kernel, by decide +kernel, by decide +kernel⟩, (by decide +kernel : rmaxl 437 ≤ 31), by decide +kernel, (Or.inr ⟨.int, rfl, rfl⟩), (fun h => absurd (show rinit 437 = true from h) (by decide +kernel))⟩
set_option maxRecDepth 100000 in
theorem pm438 (kn : List rM) : rpoM (rpar kn) rE0 438 3 := ⟨tw1 (List.mem_of_getElem? (i := 11) rfl) rfl, tw12 (List.mem_of_getElem? (i := 216) rfl) rfl, ⟨by decide +kernel, by decide +kernel, by decide +kernel⟩, (by decide +kernel : rmaxl 438 ≤ 31), by decide +kernel, (Or.inr ⟨.int, rfl, rfl⟩), (fun h => absurd (show rinit 438 = true from h) (by decide +kernel))⟩
set_option maxRecDepth 100000 in
theorem pm439 (kn : List rM) : rpoM (rpar kn) rE0 439 2 := ⟨tw1 (List.mem_of_getElem? (i := 11) rfl) rfl, tw12 (List.mem_of_getElem? (i := 232) rfl) rfl, ⟨by decide +kernel, by decide +kernel, by decide +kernel⟩, (by decide +kernel : rmaxl 439 ≤ 31), by decide +kernel, (Or.inl ⟨rfl, rfl⟩), (fun h => absurd (show rinit 439 = true from h) (by decide +kernel))⟩
set_option maxRecDepth 100000 in
theorem pm440 (kn : List rM) : rpoM (rpar kn) rE0 440 1 := ⟨tw1 (List.mem_of_getElem? (i := 11) rfl) rfl, tw12 (List.mem_of_getElem? (i := 228) rfl) rfl, ⟨by decide +kernel, by decide +kernel, by decide +kernel⟩, (by decide +kernel : rmaxl 440 ≤ 31), by decide +kernel, (Or.inl ⟨rfl, rfl⟩), (fun h => absurd (show rinit 440 = true from h) (by decide +kernel))⟩
set_option maxRecDepth 100000 in
theorem pm441 (kn : List rM) : rpoM (rpar kn) rE0 441 3 := ⟨tw1 (List.mem_of_getElem? (i := 11) rfl) rfl, tw12 (List.mem_of_getElem? (i := 236) rfl) rfl, ⟨by decide +kernel, by decide +kernel, by decide +kernel⟩, (by decide +kernel : rmaxl 441 ≤ 31), by decide +kernel, (Or.inr ⟨.int, rfl, rfl⟩), (fun h => absurd (show rinit 441 = true from h) (by decide +kernel))⟩
set_option maxRecDepth 100000 in
theorem pm442 (kn : List rM) : rpoM (rpar kn) rE0 442 1 := ⟨tw1 (List.mem_of_getElem? (i := 11) rfl) rfl, tw12 (List.mem_of_getElem? (i := 224) rfl) rfl, ⟨by decide +kernel, by decide +kernel, by decide +kernel⟩, (by decide +kernel : rmaxl 442 ≤ 31), by decide +kernel, (Or.inr ⟨.int, rfl, rfl⟩), (fun h => absurd (show rinit 442 = true from h) (by decide +kernel))⟩
set_option maxRecDepth 100000 in
theorem pm443 (kn : List rM) : rpoM (rpar kn) rE0 443 0 := ⟨tw1 (List.mem_of_getElem? (i := 11) rfl) rfl, tw12 (List.mem_of_getElem? (i := 220) rfl) rfl, ⟨by decide +kernel, by decide +kernel, by decide +kernel⟩, (by decide +kernel : rmaxl 443 ≤ 31), by decide +kernel, (Or.inl ⟨rfl, rfl⟩), (fun h => absurd (show rinit 443 = true from h) (by decide +kernel))⟩
set_option maxRecDepth 100000 in
theorem pm444 (kn : List rM) : rpoM (rpar kn) rE0 444 0 := ⟨tw1 (List.mem_of_getElem? (i := 11) rfl) rfl, tw12 (List.mem_of_getElem? (i := 184) rfl) rfl, ⟨by decide +kernel, by decide +kernel, by decide +kernel⟩, (by decide +kernel : rmaxl 444 ≤ 31), by decide +kernel, (Or.inl ⟨rfl, rfl⟩), (fun h => absurd (show rinit 444 = true from h) (by decide +kernel))⟩
set_option maxRecDepth 100000 in
theorem pm445 (kn : List rM) : rpoM (rpar kn) rE0 445 0 := ⟨tw1 (List.mem_of_getElem? (i := 11) rfl) rfl, tw12 (List.mem_of_getElem? (i := 28) rfl) rfl, ⟨by decide +kernel, by decide +kernel, by decide +kernel⟩, (by decide +kernel : rmaxl 445 ≤ 31), by decide +kernel, (Or.inl ⟨rfl, rfl⟩), (fun h => absurd (show rinit 445 = true from h) (by decide +kernel))⟩
set_option maxRecDepth 100000 in
theorem pm446 (kn : List rM) : rpoM (rpar kn) rE0 446 0 := ⟨tw1 (List.mem_of_getElem? (i := 11) rfl) rfl, tw13 (List.mem_of_getElem? (i := 0) rfl) rfl, ⟨by decide +kernel, by decide +kernel, by decide +kernel⟩, (by decide +kernel : rmaxl 446 ≤ 31), by decide +kernel, (Or.inl ⟨rfl, rfl⟩), (fun h => absurd (show rinit 446 = true from h) (by decide +kernel))⟩
set_option maxRecDepth 100000 in
theorem pm447 (kn : List rM) : rpoM (rpar kn) rE0 447 0 := ⟨tw1 (List.mem_of_getElem? (i := 11) rfl) rfl, tw12 (List.mem_of_getElem? (i := 16) rfl) rfl, ⟨by decide +kernel, by decide +kernel, by decide +kernel⟩, (by decide +kernel : rmaxl 447 ≤ 31), by decide +kernel, (Or.inl ⟨rfl, rfl⟩), (fun h => absurd (show rinit 447 = true from h) (by decide +kernel))⟩
set_option maxRecDepth 100000 in
theorem pm448 (kn : List rM) : rpoM (rpar kn) rE0 448 4 := ⟨tw1 (List.mem_of_getElem? (i := 11) rfl) rfl, tw12 (List.mem_of_getElem? (i := 24) rfl) rfl, ⟨by decide +kernel, by decide +kernel, by decide +kernel⟩, (by decide +kernel : rmaxl 448 ≤ 31), by decide +kernel, (Or.inl ⟨rfl, rfl⟩), (fun h => absurd (show rinit 448 = true from h) (by decide +kernel))⟩
set_option maxRecDepth 100000 in
theorem pm449 (kn : List rM) : rpoM (rpar kn) rE0 449 3 := ⟨tw1 (List.mem_of_getElem? (i := 11) rfl) rfl, tw12 (List.mem_of_getElem? (i := 20) rfl) rfl, ⟨by decide +kernel, by decide +kernel, by decide +kernel⟩, (by decide +kernel : rmaxl 449 ≤ 31), by decide +kernel, (Or.inl ⟨rfl, rfl⟩), (fun h => absurd (show rinit 449 = true from h) (by decide +kernel))⟩
set_option maxRecDepth 100000 in
theorem pm450 (kn : List rM) : rpoM (rpar kn) rE0 450 3 := ⟨tw1 (List.mem_of_getElem? (i := 11) rfl) rfl, tw11 (List.mem_of_getElem? (i := 238) rfl) rfl, ⟨by decide +kernel, by decide +kernel, by decide +kernel⟩, (by decide +kernel : rmaxl 450 ≤ 31), by decide +kernel, (Or.inr ⟨.int, rfl, rfl⟩), (fun h => absurd (show rinit 450 = true from h) (by decide +kernel))⟩
set_option maxRecDepth 100000 in
theorem pm451 (kn : List rM) : rpoM (rpar kn) rE0 451 2 := ⟨tw1 (List.mem_of_getElem? (i := 11) rfl) rfl, tw13 (List.mem_of_getElem? (i := 16) rfl) rfl, ⟨by decide +kernel, by decide +kernel, by decide +kernel⟩, (by decide +kernel : rmaxl 451 ≤ 31), by decide +kernel, (Or.inr ⟨.long, rfl, rfl⟩), (fun h => absurd (show rinit 451 = true from h) (by decide +kernel))⟩
set_option maxRecDepth 100000 in
theorem pm452 (kn : List rM) : rpoM (rpar kn) rE0 452 2 := ⟨tw1 (List.mem_of_getElem? (i := 11) rfl) rfl, tw13 (List.mem_of_getElem? (i := 13) rfl) rfl, ⟨by decide +kernel, by decide +kernel, by decide +kernel⟩, (by decide +kernel : rmaxl 452 ≤ 31), by decide +kernel, (Or.inr ⟨.long, rfl, rfl⟩), (fun h => absurd (show rinit 452 = true from h) (by decide +kernel))⟩
set_option maxRecDepth 100000 in
theorem pm453 (kn : List rM) : rpoM (rpar kn) rE0 453 0 := ⟨tw1 (List.mem_of_getElem? (i := 11) rfl) rfl, tw13 (List.mem_of_getElem? (i := 4) rfl) rfl, ⟨by decide +kernel, by decide +kernel, by decide +kernel⟩, (by decide +kernel : rmaxl 453 ≤ 31), by decide +kernel, (Or.inr ⟨.long, rfl, rfl⟩), (fun h => absurd (show rinit 453 = true from h) (by decide +kernel))⟩
set_option maxRecDepth 100000 in
theorem pm454 (kn : List rM) : rpoM (rpar kn) rE0 454 1 := ⟨tw1 (List.mem_of_getElem? (i := 11) rfl) rfl, tw13 (List.mem_of_getElem? (i := 24) rfl) rfl, ⟨by decide +kernel, by decide +kernel, by decide +kernel⟩, (by decide +kernel : rmaxl 454 ≤ 31), by decide +kernel, (Or.inr ⟨.int, rfl, rfl⟩), (fun h => absurd (show rinit 454 = true from h) (by decide +kernel))⟩
set_option maxRecDepth 100000 in
theorem pm456 (kn : List rM) : rpoM (rpar kn) rE0 456 2 := ⟨tw1 (List.mem_of_getElem? (i := 13) rfl) rfl, tw1 (List.mem_of_getElem? (i := 214) rfl) rfl, ⟨by decide +kernel, by decide +kernel, by decide +kernel⟩, (by decide +kernel : rmaxl 456 ≤ 31), by decide +kernel, (Or.inr ⟨(.array .byte), rfl, rfl⟩), (fun h => absurd (show rinit 456 = true from h) (by decide +kernel))⟩
set_option maxRecDepth 100000 in
theorem pm457 (kn : List rM) : rpoM (rpar kn) rE0 457 2 := ⟨tw1 (List.mem_of_getElem? (i := 13) rfl) rfl, tw4 (List.mem_of_getElem? (i := 65) rfl) rfl, ⟨by decide +kernel, by decide +kernel, by decide +kernel⟩, (by decide +kernel : rmaxl 457 ≤ 31), by decide +kernel, (Or.inr ⟨(.array .int), rfl, rfl⟩), (fun h => absurd (show rinit 457 = true from h) (by decide +kernel))⟩
set_option maxRecDepth 100000 in
theorem pm458 (kn : List rM) : rpoM (rpar kn) rE0 458 4 := ⟨tw1 (List.mem_of_getElem? (i := 13) rfl) rfl, tw4 (List.mem_of_getElem? (i := 115) rfl) rfl, ⟨by decide +kernel, by decide +kernel, by decide +kernel⟩, (by decide +kernel : rmaxl 458 ≤ 31), by decide +kernel, (Or.inl ⟨rfl, rfl⟩), (fun h => absurd (show rinit 458 = true from h) (by decide +kernel))⟩
set_option maxRecDepth 100000 in
theorem pm459 (kn : List rM) : rpoM (rpar kn) rE0 459 4 := ⟨tw1 (List.mem_of_getElem? (i := 13) rfl) rfl, tw3 (List.mem_of_getElem? (i := 110) rfl) rfl, ⟨by decide +kernel, by decide +kernel, by decide +kernel⟩, (by decide +kernel : rmaxl 459 ≤ 31), by decide +kernel, (Or.inl ⟨rfl, rfl⟩), (fun h => absurd (show rinit 459 = true from h) (by decide +kernel))⟩
set_option maxRecDepth 100000 in
theorem pm460 (kn : List rM) : rpoM (rpar kn) rE0 460 3 := ⟨tw1 (List.mem_of_getElem? (i := 13) rfl) rfl, tw3 (List.mem_of_getElem? (i := 113) rfl) rfl, ⟨by decide +kernel, by decide +kernel, by decide +kernel⟩, (by decide +kernel : rmaxl 460 ≤ 31), by decide +kernel, (Or.inl ⟨rfl, rfl⟩), (fun h => absurd (show rinit 460 = true from h) (by decide +kernel))⟩
set_option maxRecDepth 100000 in
theorem pe0_1_26 (kn : List rM) {m : Nat} (h : (rE0.1 m).cls = "PackHouse") : rpo (rpar kn) rE0 m 1 (26, 0, 0, .null) := po26 h (tw1 (List.mem_of_getElem? (i := 28) rfl) rfl)
set_option maxRecDepth 100000 in
theorem pe0_7_12 (kn : List rM) {m : Nat} (h : (rE0.1 m).cls = "PackHouse") : rpo (rpar kn) rE0 m 7 (12, 7, 5, .null) := po12 (T := FT7) h rfl (tw1 (List.mem_of_getElem? (i := 31) rfl) rfl) (tw1 (List.mem_of_getElem? (i := 33) rfl) rfl) (tw1 (List.mem_of_getElem? (i := 2) rfl) rfl)
set_option maxRecDepth 100000 in
theorem pe0_7_13 (kn : List rM) {m : Nat} (h : (rE0.1 m).cls = "PackHouse") : rpo (rpar kn) rE0 m 7 (13, 4, 0, .null) := po13 h rfl (tw1 (List.mem_of_getElem? (i := 31) rfl) rfl) (ztn1 (List.mem_of_getElem? (i := 32) rfl) rfl)
set_option maxRecDepth 100000 in
theorem pe0_9_23 (kn : List rM) {m : Nat} (h : (rE0.1 m).cls = "PackHouse") : rpo (rpar kn) rE0 m 9 (23, 155, 0, .ref 7) := po23 h (pm155 kn) (ztn1 (List.mem_of_getElem? (i := 34) rfl) rfl) (tw1 (List.mem_of_getElem? (i := 35) rfl) rfl) rfl rfl
set_option maxRecDepth 100000 in
theorem pe0_10_0 (kn : List rM) {m : Nat} (h : (rE0.1 m).cls = "PackHouse") : rpo (rpar kn) rE0 m 10 (0, 0, 0, .ref 11) := po0 (C := "PackHouse") (T := FT0) (N := 19) (ty := fy0 0) h rfl (by decide) rfl (tw1 (List.mem_of_getElem? (i := 136) rfl) rfl) (fp0 0 (by decide)) rfl (fun a => absurd a (by decide)) (fun _ _ => ⟨rfl, rfl⟩)
set_option maxRecDepth 100000 in
theorem pe0_16_10 (kn : List rM) {m : Nat} (h : (rE0.1 m).cls = "PackHouse") : rpo (rpar kn) rE0 m 16 (10, 0, 0, .int (65536)) := po10 h (tw1 (List.mem_of_getElem? (i := 74) rfl) rfl)
set_option maxRecDepth 100000 in
theorem pe0_17_0 (kn : List rM) {m : Nat} (h : (rE0.1 m).cls = "PackHouse") : rpo (rpar kn) rE0 m 17 (0, 0, 1, .ref 11) := po0 (C := "PackHouse") (T := FT0) (N := 19) (ty := fy0 1) h rfl (by decide) rfl (tw1 (List.mem_of_getElem? (i := 137) rfl) rfl) (fp0 1 (by decide)) rfl (fun a => absurd a (by decide)) (fun _ _ => ⟨rfl, rfl⟩)
set_option maxRecDepth 100000 in
theorem pe0_21_0 (kn : List rM) {m : Nat} (h : (rE0.1 m).cls = "PackHouse") : rpo (rpar kn) rE0 m 21 (0, 0, 2, .ref 11) := po0 (C := "PackHouse") (T := FT0) (N := 19) (ty := fy0 2) h rfl (by decide) rfl (tw1 (List.mem_of_getElem? (i := 138) rfl) rfl) (fp0 2 (by decide)) rfl (fun a => absurd a (by decide)) (fun _ _ => ⟨rfl, rfl⟩)
set_option maxRecDepth 100000 in
theorem pe0_25_12 (kn : List rM) {m : Nat} (h : (rE0.1 m).cls = "PackHouse") : rpo (rpar kn) rE0 m 25 (12, 4, 5, .null) := po12 (T := FT4) h rfl (tw1 (List.mem_of_getElem? (i := 75) rfl) rfl) (tw1 (List.mem_of_getElem? (i := 76) rfl) rfl) (tw1 (List.mem_of_getElem? (i := 3) rfl) rfl)
set_option maxRecDepth 100000 in
theorem pe0_27_23 (kn : List rM) {m : Nat} (h : (rE0.1 m).cls = "PackHouse") : rpo (rpar kn) rE0 m 27 (23, 113, 0, .ref 4) := po23 h (pm113 kn) (ztn1 (List.mem_of_getElem? (i := 77) rfl) rfl) (tw1 (List.mem_of_getElem? (i := 78) rfl) rfl) rfl rfl
set_option maxRecDepth 100000 in
theorem pe0_28_0 (kn : List rM) {m : Nat} (h : (rE0.1 m).cls = "PackHouse") : rpo (rpar kn) rE0 m 28 (0, 0, 3, .ref 3) := po0 (C := "PackHouse") (T := FT0) (N := 19) (ty := fy0 3) h rfl (by decide) rfl (tw1 (List.mem_of_getElem? (i := 139) rfl) rfl) (fp0 3 (by decide)) rfl (fun _ => rfl) (fun a _ => absurd a (by decide))
set_option maxRecDepth 100000 in
theorem pe0_32_0 (kn : List rM) {m : Nat} (h : (rE0.1 m).cls = "PackHouse") : rpo (rpar kn) rE0 m 32 (0, 0, 4, .ref 3) := po0 (C := "PackHouse") (T := FT0) (N := 19) (ty := fy0 4) h rfl (by decide) rfl (tw1 (List.mem_of_getElem? (i := 140) rfl) rfl) (fp0 4 (by decide)) rfl (fun _ => rfl) (fun a _ => absurd a (by decide))
set_option maxRecDepth 100000 in
theorem pe0_35_0 (kn : List rM) {m : Nat} (h : (rE0.1 m).cls = "PackHouse") : rpo (rpar kn) rE0 m 35 (0, 0, 5, .ref 11) := po0 (C := "PackHouse") (T := FT0) (N := 19) (ty := fy0 5) h rfl (by decide) rfl (tw1 (List.mem_of_getElem? (i := 141) rfl) rfl) (fp0 5 (by decide)) rfl (fun a => absurd a (by decide)) (fun _ _ => ⟨rfl, rfl⟩)
set_option maxRecDepth 100000 in
theorem pe0_38_0 (kn : List rM) {m : Nat} (h : (rE0.1 m).cls = "PackHouse") : rpo (rpar kn) rE0 m 38 (0, 0, 6, .ref 11) := po0 (C := "PackHouse") (T := FT0) (N := 19) (ty := fy0 6) h rfl (by decide) rfl (tw1 (List.mem_of_getElem? (i := 142) rfl) rfl) (fp0 6 (by decide)) rfl (fun a => absurd a (by decide)) (fun _ _ => ⟨rfl, rfl⟩)
set_option maxRecDepth 100000 in
theorem pe0_41_0 (kn : List rM) {m : Nat} (h : (rE0.1 m).cls = "PackHouse") : rpo (rpar kn) rE0 m 41 (0, 0, 13, .ref 11) := po0 (C := "PackHouse") (T := FT0) (N := 19) (ty := fy0 13) h rfl (by decide) rfl (tw1 (List.mem_of_getElem? (i := 149) rfl) rfl) (fp0 13 (by decide)) rfl (fun a => absurd a (by decide)) (fun _ _ => ⟨rfl, rfl⟩)
set_option maxRecDepth 100000 in
theorem pe0_44_0 (kn : List rM) {m : Nat} (h : (rE0.1 m).cls = "PackHouse") : rpo (rpar kn) rE0 m 44 (0, 0, 14, .ref 11) := po0 (C := "PackHouse") (T := FT0) (N := 19) (ty := fy0 14) h rfl (by decide) rfl (tw1 (List.mem_of_getElem? (i := 150) rfl) rfl) (fp0 14 (by decide)) rfl (fun a => absurd a (by decide)) (fun _ _ => ⟨rfl, rfl⟩)
set_option maxRecDepth 100000 in
theorem pe0_47_0 (kn : List rM) {m : Nat} (h : (rE0.1 m).cls = "PackHouse") : rpo (rpar kn) rE0 m 47 (0, 0, 15, .ref 11) := po0 (C := "PackHouse") (T := FT0) (N := 19) (ty := fy0 15) h rfl (by decide) rfl (tw1 (List.mem_of_getElem? (i := 151) rfl) rfl) (fp0 15 (by decide)) rfl (fun a => absurd a (by decide)) (fun _ _ => ⟨rfl, rfl⟩)
set_option maxRecDepth 100000 in
theorem pe0_50_0 (kn : List rM) {m : Nat} (h : (rE0.1 m).cls = "PackHouse") : rpo (rpar kn) rE0 m 50 (0, 0, 16, .ref 11) := po0 (C := "PackHouse") (T := FT0) (N := 19) (ty := fy0 16) h rfl (by decide) rfl (tw1 (List.mem_of_getElem? (i := 152) rfl) rfl) (fp0 16 (by decide)) rfl (fun a => absurd a (by decide)) (fun _ _ => ⟨rfl, rfl⟩)
set_option maxRecDepth 100000 in
theorem pe0_53_24 (kn : List rM) {m : Nat} (h : (rE0.1 m).cls = "PackHouse") : rpo (rpar kn) rE0 m 53 (24, 24, 1, .null) := po24 h (pm24 kn) (tw1 (List.mem_of_getElem? (i := 198) rfl) rfl) (tw1 (List.mem_of_getElem? (i := 199) rfl) rfl)
set_option maxRecDepth 100000 in
theorem pe0_57_20 (kn : List rM) {m : Nat} (h : (rE0.1 m).cls = "PackHouse") : rpo (rpar kn) rE0 m 57 (20, 157, 1, .ref 7) := po20 h (pm157 kn) (tw1 (List.mem_of_getElem? (i := 201) rfl) rfl) (tw1 (List.mem_of_getElem? (i := 202) rfl) rfl) (tw1 (List.mem_of_getElem? (i := 203) rfl) rfl) rfl rfl
set_option maxRecDepth 100000 in
theorem pe0_60_11 (kn : List rM) {m : Nat} (h : (rE0.1 m).cls = "PackHouse") : rpo (rpar kn) rE0 m 60 (11, 0, 0, .long (4294967295)) := po11 h (tw1 (List.mem_of_getElem? (i := 226) rfl) rfl)
set_option maxRecDepth 100000 in
theorem pe0_62_24 (kn : List rM) {m : Nat} (h : (rE0.1 m).cls = "PackHouse") : rpo (rpar kn) rE0 m 62 (24, 28, 3, .null) := po24 h (pm28 kn) (tw1 (List.mem_of_getElem? (i := 227) rfl) rfl) (tw1 (List.mem_of_getElem? (i := 228) rfl) rfl)
set_option maxRecDepth 100000 in
theorem pe0_66_0 (kn : List rM) {m : Nat} (h : (rE0.1 m).cls = "PackHouse") : rpo (rpar kn) rE0 m 66 (0, 7, 1, .ref 0) := po0 (C := "PackHouse$Row") (T := FT7) (N := 5) (ty := fy7 1) h rfl (by decide) rfl (tw1 (List.mem_of_getElem? (i := 53) rfl) rfl) (fp7 1 (by decide)) rfl (fun _ => rfl) (fun a _ => absurd a (by decide))
set_option maxRecDepth 100000 in
theorem pe0_70_20 (kn : List rM) {m : Nat} (h : (rE0.1 m).cls = "PackHouse") : rpo (rpar kn) rE0 m 70 (20, 163, 4, .ref 7) := po20 h (pm163 kn) (tw2 (List.mem_of_getElem? (i := 3) rfl) rfl) (tw2 (List.mem_of_getElem? (i := 4) rfl) rfl) (tw2 (List.mem_of_getElem? (i := 5) rfl) rfl) rfl rfl
set_option maxRecDepth 100000 in
theorem pe0_74_24 (kn : List rM) {m : Nat} (h : (rE0.1 m).cls = "PackHouse") : rpo (rpar kn) rE0 m 74 (24, 27, 3, .null) := po24 h (pm27 kn) (tw2 (List.mem_of_getElem? (i := 15) rfl) rfl) (tw2 (List.mem_of_getElem? (i := 16) rfl) rfl)
set_option maxRecDepth 100000 in
theorem pe0_78_0 (kn : List rM) {m : Nat} (h : (rE0.1 m).cls = "PackHouse") : rpo (rpar kn) rE0 m 78 (0, 7, 0, .ref 3) := po0 (C := "PackHouse$Row") (T := FT7) (N := 5) (ty := fy7 0) h rfl (by decide) rfl (tw1 (List.mem_of_getElem? (i := 45) rfl) rfl) (fp7 0 (by decide)) rfl (fun _ => rfl) (fun a _ => absurd a (by decide))
set_option maxRecDepth 100000 in
theorem pe0_82_20 (kn : List rM) {m : Nat} (h : (rE0.1 m).cls = "PackHouse") : rpo (rpar kn) rE0 m 82 (20, 161, 3, .ref 7) := po20 h (pm161 kn) (tw2 (List.mem_of_getElem? (i := 18) rfl) rfl) (tw2 (List.mem_of_getElem? (i := 19) rfl) rfl) (tw2 (List.mem_of_getElem? (i := 20) rfl) rfl) rfl rfl
set_option maxRecDepth 100000 in
theorem pe0_86_24 (kn : List rM) {m : Nat} (h : (rE0.1 m).cls = "PackHouse") : rpo (rpar kn) rE0 m 86 (24, 29, 2, .null) := po24 h (pm29 kn) (tw2 (List.mem_of_getElem? (i := 35) rfl) rfl) (tw2 (List.mem_of_getElem? (i := 36) rfl) rfl)
set_option maxRecDepth 100000 in
theorem pe0_90_24 (kn : List rM) {m : Nat} (h : (rE0.1 m).cls = "PackHouse") : rpo (rpar kn) rE0 m 90 (24, 25, 1, .null) := po24 h (pm25 kn) (tw2 (List.mem_of_getElem? (i := 43) rfl) rfl) (tw2 (List.mem_of_getElem? (i := 44) rfl) rfl)
set_option maxRecDepth 100000 in
theorem pe0_93_24 (kn : List rM) {m : Nat} (h : (rE0.1 m).cls = "PackHouse") : rpo (rpar kn) rE0 m 93 (24, 26, 2, .null) := po24 h (pm26 kn) (tw2 (List.mem_of_getElem? (i := 46) rfl) rfl) (tw2 (List.mem_of_getElem? (i := 47) rfl) rfl)
set_option maxRecDepth 100000 in
theorem pe0_97_24 (kn : List rM) {m : Nat} (h : (rE0.1 m).cls = "PackHouse") : rpo (rpar kn) rE0 m 97 (24, 49, 4, .null) := po24 h (pm49 kn) (tw2 (List.mem_of_getElem? (i := 60) rfl) rfl) (tw2 (List.mem_of_getElem? (i := 61) rfl) rfl)
set_option maxRecDepth 100000 in
theorem pe0_101_24 (kn : List rM) {m : Nat} (h : (rE0.1 m).cls = "PackHouse") : rpo (rpar kn) rE0 m 101 (24, 51, 4, .null) := po24 h (pm51 kn) (tw2 (List.mem_of_getElem? (i := 81) rfl) rfl) (tw2 (List.mem_of_getElem? (i := 82) rfl) rfl)
set_option maxRecDepth 100000 in
theorem pe0_105_24 (kn : List rM) {m : Nat} (h : (rE0.1 m).cls = "PackHouse") : rpo (rpar kn) rE0 m 105 (24, 53, 3, .null) := po24 h (pm53 kn) (tw2 (List.mem_of_getElem? (i := 105) rfl) rfl) (tw2 (List.mem_of_getElem? (i := 106) rfl) rfl)
set_option maxRecDepth 100000 in
theorem pe0_109_24 (kn : List rM) {m : Nat} (h : (rE0.1 m).cls = "PackHouse") : rpo (rpar kn) rE0 m 109 (24, 54, 1, .null) := po24 h (pm54 kn) (tw2 (List.mem_of_getElem? (i := 110) rfl) rfl) (tw2 (List.mem_of_getElem? (i := 111) rfl) rfl)
set_option maxRecDepth 100000 in
theorem pe0_113_20 (kn : List rM) {m : Nat} (h : (rE0.1 m).cls = "PackHouse") : rpo (rpar kn) rE0 m 113 (20, 158, 1, .ref 7) := po20 h (pm158 kn) (tw2 (List.mem_of_getElem? (i := 118) rfl) rfl) (tw2 (List.mem_of_getElem? (i := 119) rfl) rfl) (tw2 (List.mem_of_getElem? (i := 120) rfl) rfl) rfl rfl
set_option maxRecDepth 100000 in
theorem pe0_117_20 (kn : List rM) {m : Nat} (h : (rE0.1 m).cls = "PackHouse") : rpo (rpar kn) rE0 m 117 (20, 115, 1, .ref 4) := po20 h (pm115 kn) (tw2 (List.mem_of_getElem? (i := 131) rfl) rfl) (tw2 (List.mem_of_getElem? (i := 132) rfl) rfl) (tw2 (List.mem_of_getElem? (i := 133) rfl) rfl) rfl rfl
set_option maxRecDepth 100000 in
theorem pe0_121_20 (kn : List rM) {m : Nat} (h : (rE0.1 m).cls = "PackHouse") : rpo (rpar kn) rE0 m 121 (20, 156, 0, .ref 7) := po20 h (pm156 kn) (tw3 (List.mem_of_getElem? (i := 129) rfl) rfl) (tw2 (List.mem_of_getElem? (i := 123) rfl) rfl) (tw2 (List.mem_of_getElem? (i := 124) rfl) rfl) rfl rfl
set_option maxRecDepth 100000 in
theorem pe0_124_20 (kn : List rM) {m : Nat} (h : (rE0.1 m).cls = "PackHouse") : rpo (rpar kn) rE0 m 124 (20, 114, 0, .ref 4) := po20 h (pm114 kn) (tw3 (List.mem_of_getElem? (i := 130) rfl) rfl) (tw2 (List.mem_of_getElem? (i := 136) rfl) rfl) (tw2 (List.mem_of_getElem? (i := 137) rfl) rfl) rfl rfl
set_option maxRecDepth 100000 in
theorem pe0_125_20 (kn : List rM) {m : Nat} (h : (rE0.1 m).cls = "PackHouse") : rpo (rpar kn) rE0 m 125 (20, 30, 1, .ref 0) := po20 h (pm30 kn) (tw3 (List.mem_of_getElem? (i := 135) rfl) rfl) (tw3 (List.mem_of_getElem? (i := 137) rfl) rfl) (pw1 (List.mem_of_getElem? (i := 6) rfl)) rfl rfl
set_option maxRecDepth 100000 in
theorem pe0_128_20 (kn : List rM) {m : Nat} (h : (rE0.1 m).cls = "PackHouse") : rpo (rpar kn) rE0 m 128 (20, 36, 0, .ref 0) := po20 h (pm36 kn) (tw3 (List.mem_of_getElem? (i := 139) rfl) rfl) (tw3 (List.mem_of_getElem? (i := 141) rfl) rfl) (pw1 (List.mem_of_getElem? (i := 7) rfl)) rfl rfl
set_option maxRecDepth 100000 in
theorem pe0_132_20 (kn : List rM) {m : Nat} (h : (rE0.1 m).cls = "PackHouse") : rpo (rpar kn) rE0 m 132 (20, 214, 2, .ref 11) := po20 h (pm214 kn) (tw4 (List.mem_of_getElem? (i := 41) rfl) rfl) (tw4 (List.mem_of_getElem? (i := 42) rfl) rfl) (tw4 (List.mem_of_getElem? (i := 43) rfl) rfl) rfl rfl
set_option maxRecDepth 100000 in
theorem pe0_133_12 (kn : List rM) {m : Nat} (h : (rE0.1 m).cls = "PackHouse") : rpo (rpar kn) rE0 m 133 (12, 11, 13, .null) := po12 (T := FT11) h rfl (tw3 (List.mem_of_getElem? (i := 143) rfl) rfl) (tw3 (List.mem_of_getElem? (i := 144) rfl) rfl) (tw1 (List.mem_of_getElem? (i := 15) rfl) rfl)
set_option maxRecDepth 100000 in
theorem pe0_138_20 (kn : List rM) {m : Nat} (h : (rE0.1 m).cls = "PackHouse") : rpo (rpar kn) rE0 m 138 (20, 218, 2, .ref 11) := po20 h (pm218 kn) (tw4 (List.mem_of_getElem? (i := 120) rfl) rfl) (tw4 (List.mem_of_getElem? (i := 121) rfl) rfl) (tw4 (List.mem_of_getElem? (i := 122) rfl) rfl) rfl rfl
set_option maxRecDepth 100000 in
theorem pe0_141_20 (kn : List rM) {m : Nat} (h : (rE0.1 m).cls = "PackHouse") : rpo (rpar kn) rE0 m 141 (20, 37, 0, .ref 0) := po20 h (pm37 kn) (tw4 (List.mem_of_getElem? (i := 140) rfl) rfl) (tw4 (List.mem_of_getElem? (i := 142) rfl) rfl) (pw2 (List.mem_of_getElem? (i := 3) rfl)) rfl rfl
set_option maxRecDepth 100000 in
theorem pe0_145_20 (kn : List rM) {m : Nat} (h : (rE0.1 m).cls = "PackHouse") : rpo (rpar kn) rE0 m 145 (20, 193, 2, .ref 10) := po20 h (pm193 kn) (tw4 (List.mem_of_getElem? (i := 181) rfl) rfl) (tw4 (List.mem_of_getElem? (i := 182) rfl) rfl) (tw4 (List.mem_of_getElem? (i := 183) rfl) rfl) rfl rfl
set_option maxRecDepth 100000 in
theorem pe0_146_12 (kn : List rM) {m : Nat} (h : (rE0.1 m).cls = "PackHouse") : rpo (rpar kn) rE0 m 146 (12, 10, 9, .null) := po12 (T := FT10) h rfl (tw4 (List.mem_of_getElem? (i := 144) rfl) rfl) (tw4 (List.mem_of_getElem? (i := 145) rfl) rfl) (tw1 (List.mem_of_getElem? (i := 20) rfl) rfl)
set_option maxRecDepth 100000 in
theorem pe0_148_20 (kn : List rM) {m : Nat} (h : (rE0.1 m).cls = "PackHouse") : rpo (rpar kn) rE0 m 148 (20, 201, 2, .ref 10) := po20 h (pm201 kn) (tw4 (List.mem_of_getElem? (i := 218) rfl) rfl) (tw4 (List.mem_of_getElem? (i := 219) rfl) rfl) (tw4 (List.mem_of_getElem? (i := 220) rfl) rfl) rfl rfl
set_option maxRecDepth 100000 in
theorem pe0_151_20 (kn : List rM) {m : Nat} (h : (rE0.1 m).cls = "PackHouse") : rpo (rpar kn) rE0 m 151 (20, 39, 0, .ref 0) := po20 h (pm39 kn) (tw4 (List.mem_of_getElem? (i := 233) rfl) rfl) (tw4 (List.mem_of_getElem? (i := 235) rfl) rfl) (pw2 (List.mem_of_getElem? (i := 7) rfl)) rfl rfl
set_option maxRecDepth 100000 in
theorem pe0_155_20 (kn : List rM) {m : Nat} (h : (rE0.1 m).cls = "PackHouse") : rpo (rpar kn) rE0 m 155 (20, 134, 3, .ref 6) := po20 h (pm134 kn) (tw5 (List.mem_of_getElem? (i := 89) rfl) rfl) (tw5 (List.mem_of_getElem? (i := 90) rfl) rfl) (tw5 (List.mem_of_getElem? (i := 91) rfl) rfl) rfl rfl
set_option maxRecDepth 100000 in
theorem pe0_156_12 (kn : List rM) {m : Nat} (h : (rE0.1 m).cls = "PackHouse") : rpo (rpar kn) rE0 m 156 (12, 6, 19, .null) := po12 (T := FT6) h rfl (tw4 (List.mem_of_getElem? (i := 237) rfl) rfl) (tw4 (List.mem_of_getElem? (i := 238) rfl) rfl) (tw1 (List.mem_of_getElem? (i := 21) rfl) rfl)
set_option maxRecDepth 100000 in
theorem pe0_160_20 (kn : List rM) {m : Nat} (h : (rE0.1 m).cls = "PackHouse") : rpo (rpar kn) rE0 m 160 (20, 153, 2, .ref 6) := po20 h (pm153 kn) (tw6 (List.mem_of_getElem? (i := 90) rfl) rfl) (tw6 (List.mem_of_getElem? (i := 91) rfl) rfl) (tw6 (List.mem_of_getElem? (i := 92) rfl) rfl) rfl rfl
set_option maxRecDepth 100000 in
theorem pe0_164_0 (kn : List rM) {m : Nat} (h : (rE0.1 m).cls = "PackHouse") : rpo (rpar kn) rE0 m 164 (0, 7, 2, .ref 1) := po0 (C := "PackHouse$Row") (T := FT7) (N := 5) (ty := fy7 2) h rfl (by decide) rfl (tw1 (List.mem_of_getElem? (i := 59) rfl) rfl) (fp7 2 (by decide)) rfl (fun _ => rfl) (fun a _ => absurd a (by decide))
set_option maxRecDepth 100000 in
theorem pe0_168_20 (kn : List rM) {m : Nat} (h : (rE0.1 m).cls = "PackHouse") : rpo (rpar kn) rE0 m 168 (20, 32, 4, .ref 0) := po20 h (pm32 kn) (tw6 (List.mem_of_getElem? (i := 102) rfl) rfl) (tw6 (List.mem_of_getElem? (i := 104) rfl) rfl) (pw4 (List.mem_of_getElem? (i := 4) rfl)) rfl rfl
set_option maxRecDepth 100000 in
theorem pe0_172_20 (kn : List rM) {m : Nat} (h : (rE0.1 m).cls = "PackHouse") : rpo (rpar kn) rE0 m 172 (20, 34, 2, .ref 0) := po20 h (pm34 kn) (tw7 (List.mem_of_getElem? (i := 182) rfl) rfl) (tw7 (List.mem_of_getElem? (i := 184) rfl) rfl) (pw6 (List.mem_of_getElem? (i := 9) rfl)) rfl rfl
set_option maxRecDepth 100000 in
theorem pe0_176_0 (kn : List rM) {m : Nat} (h : (rE0.1 m).cls = "PackHouse") : rpo (rpar kn) rE0 m 176 (0, 0, 11, .ref 3) := po0 (C := "PackHouse") (T := FT0) (N := 19) (ty := fy0 11) h rfl (by decide) rfl (tw1 (List.mem_of_getElem? (i := 147) rfl) rfl) (fp0 11 (by decide)) rfl (fun _ => rfl) (fun a _ => absurd a (by decide))
set_option maxRecDepth 100000 in
theorem pe0_180_0 (kn : List rM) {m : Nat} (h : (rE0.1 m).cls = "PackHouse") : rpo (rpar kn) rE0 m 180 (0, 6, 18, .ref 19) := po0 (C := "PackHouse$Packer") (T := FT6) (N := 19) (ty := fy6 18) h rfl (by decide) rfl (tw5 (List.mem_of_getElem? (i := 49) rfl) rfl) (fp6 18 (by decide)) rfl (fun a => absurd a (by decide)) (fun _ b => absurd b (by decide))
set_option maxRecDepth 100000 in
theorem pe0_183_27 (kn : List rM) {m : Nat} (h : (rE0.1 m).cls = "PackHouse") : rpo (rpar kn) rE0 m 183 (27, 0, 0, .null) := po27 h (tw7 (List.mem_of_getElem? (i := 187) rfl) rfl)
set_option maxRecDepth 100000 in
theorem pe0_189_20 (kn : List rM) {m : Nat} (h : (rE0.1 m).cls = "PackHouse") : rpo (rpar kn) rE0 m 189 (20, 31, 2, .ref 0) := po20 h (pm31 kn) (tw7 (List.mem_of_getElem? (i := 192) rfl) rfl) (tw7 (List.mem_of_getElem? (i := 194) rfl) rfl) (pw6 (List.mem_of_getElem? (i := 10) rfl)) rfl rfl
set_option maxRecDepth 100000 in
theorem pe0_192_24 (kn : List rM) {m : Nat} (h : (rE0.1 m).cls = "PackHouse") : rpo (rpar kn) rE0 m 192 (24, 33, 1, .null) := po24 h (pm33 kn) (tw7 (List.mem_of_getElem? (i := 200) rfl) rfl) (tw7 (List.mem_of_getElem? (i := 201) rfl) rfl)
set_option maxRecDepth 100000 in
theorem pe0_195_0 (kn : List rM) {m : Nat} (h : (rE0.1 m).cls = "PackHouse") : rpo (rpar kn) rE0 m 195 (0, 0, 18, .ref 0) := po0 (C := "PackHouse") (T := FT0) (N := 19) (ty := fy0 18) h rfl (by decide) rfl (tw1 (List.mem_of_getElem? (i := 154) rfl) rfl) (fp0 18 (by decide)) rfl (fun _ => rfl) (fun a _ => absurd a (by decide))
set_option maxRecDepth 100000 in
theorem pe0_198_0 (kn : List rM) {m : Nat} (h : (rE0.1 m).cls = "PackHouse") : rpo (rpar kn) rE0 m 198 (0, 4, 0, .ref 19) := po0 (C := "PackHouse$Dictionary") (T := FT4) (N := 5) (ty := fy4 0) h rfl (by decide) rfl (tw1 (List.mem_of_getElem? (i := 115) rfl) rfl) (fp4 0 (by decide)) rfl (fun a => absurd a (by decide)) (fun _ b => absurd b (by decide))
set_option maxRecDepth 100000 in
theorem pe0_199_0 (kn : List rM) {m : Nat} (h : (rE0.1 m).cls = "PackHouse") : rpo (rpar kn) rE0 m 199 (0, 4, 2, .ref 0) := po0 (C := "PackHouse$Dictionary") (T := FT4) (N := 5) (ty := fy4 2) h rfl (by decide) rfl (tw1 (List.mem_of_getElem? (i := 122) rfl) rfl) (fp4 2 (by decide)) rfl (fun _ => rfl) (fun a _ => absurd a (by decide))
set_option maxRecDepth 100000 in
theorem pe0_202_24 (kn : List rM) {m : Nat} (h : (rE0.1 m).cls = "PackHouse") : rpo (rpar kn) rE0 m 202 (24, 213, 1, .null) := po24 h (pm213 kn) (tw2 (List.mem_of_getElem? (i := 49) rfl) rfl) (tw2 (List.mem_of_getElem? (i := 50) rfl) rfl)
set_option maxRecDepth 100000 in
theorem pe0_205_20 (kn : List rM) {m : Nat} (h : (rE0.1 m).cls = "PackHouse") : rpo (rpar kn) rE0 m 205 (20, 159, 1, .ref 7) := po20 h (pm159 kn) (tw1 (List.mem_of_getElem? (i := 230) rfl) rfl) (tw1 (List.mem_of_getElem? (i := 231) rfl) rfl) (tw1 (List.mem_of_getElem? (i := 232) rfl) rfl) rfl rfl
set_option maxRecDepth 100000 in
theorem pe0_209_30 (kn : List rM) {m : Nat} (h : (rE0.1 m).cls = "PackHouse") : rpo (rpar kn) rE0 m 209 (30, 0, 0, .null) := po30 h (tw2 (List.mem_of_getElem? (i := 38) rfl) rfl)
set_option maxRecDepth 100000 in
theorem pe0_214_0 (kn : List rM) {m : Nat} (h : (rE0.1 m).cls = "PackHouse") : rpo (rpar kn) rE0 m 214 (0, 0, 17, .ref 0) := po0 (C := "PackHouse") (T := FT0) (N := 19) (ty := fy0 17) h rfl (by decide) rfl (tw1 (List.mem_of_getElem? (i := 153) rfl) rfl) (fp0 17 (by decide)) rfl (fun _ => rfl) (fun a _ => absurd a (by decide))
set_option maxRecDepth 100000 in
theorem pe0_217_20 (kn : List rM) {m : Nat} (h : (rE0.1 m).cls = "PackHouse") : rpo (rpar kn) rE0 m 217 (20, 223, 3, .ref 11) := po20 h (pm223 kn) (tw6 (List.mem_of_getElem? (i := 106) rfl) rfl) (tw6 (List.mem_of_getElem? (i := 107) rfl) rfl) (tw6 (List.mem_of_getElem? (i := 108) rfl) rfl) rfl rfl
set_option maxRecDepth 100000 in
theorem pe0_221_0 (kn : List rM) {m : Nat} (h : (rE0.1 m).cls = "PackHouse") : rpo (rpar kn) rE0 m 221 (0, 0, 8, .ref 3) := po0 (C := "PackHouse") (T := FT0) (N := 19) (ty := fy0 8) h rfl (by decide) rfl (tw1 (List.mem_of_getElem? (i := 144) rfl) rfl) (fp0 8 (by decide)) rfl (fun _ => rfl) (fun a _ => absurd a (by decide))
set_option maxRecDepth 100000 in
theorem pe0_225_0 (kn : List rM) {m : Nat} (h : (rE0.1 m).cls = "PackHouse") : rpo (rpar kn) rE0 m 225 (0, 11, 12, .ref 0) := po0 (C := "PackHouse$Tokens") (T := FT11) (N := 13) (ty := fy11 12) h rfl (by decide) rfl (tw4 (List.mem_of_getElem? (i := 13) rfl) rfl) (fp11 12 (by decide)) rfl (fun _ => rfl) (fun a _ => absurd a (by decide))
set_option maxRecDepth 100000 in
theorem pe0_226_20 (kn : List rM) {m : Nat} (h : (rE0.1 m).cls = "PackHouse") : rpo (rpar kn) rE0 m 226 (20, 226, 3, .ref 11) := po20 h (pm226 kn) (tw6 (List.mem_of_getElem? (i := 128) rfl) rfl) (tw6 (List.mem_of_getElem? (i := 129) rfl) rfl) (tw6 (List.mem_of_getElem? (i := 130) rfl) rfl) rfl rfl
set_option maxRecDepth 100000 in
theorem pe0_229_20 (kn : List rM) {m : Nat} (h : (rE0.1 m).cls = "PackHouse") : rpo (rpar kn) rE0 m 229 (20, 205, 3, .ref 10) := po20 h (pm205 kn) (tw6 (List.mem_of_getElem? (i := 159) rfl) rfl) (tw6 (List.mem_of_getElem? (i := 160) rfl) rfl) (tw6 (List.mem_of_getElem? (i := 161) rfl) rfl) rfl rfl
set_option maxRecDepth 100000 in
theorem pe0_230_0 (kn : List rM) {m : Nat} (h : (rE0.1 m).cls = "PackHouse") : rpo (rpar kn) rE0 m 230 (0, 0, 9, .ref 3) := po0 (C := "PackHouse") (T := FT0) (N := 19) (ty := fy0 9) h rfl (by decide) rfl (tw1 (List.mem_of_getElem? (i := 145) rfl) rfl) (fp0 9 (by decide)) rfl (fun _ => rfl) (fun a _ => absurd a (by decide))
set_option maxRecDepth 100000 in
theorem pe0_234_0 (kn : List rM) {m : Nat} (h : (rE0.1 m).cls = "PackHouse") : rpo (rpar kn) rE0 m 234 (0, 10, 8, .ref 0) := po0 (C := "PackHouse$Tags") (T := FT10) (N := 9) (ty := fy10 8) h rfl (by decide) rfl (tw4 (List.mem_of_getElem? (i := 161) rfl) rfl) (fp10 8 (by decide)) rfl (fun _ => rfl) (fun a _ => absurd a (by decide))
set_option maxRecDepth 100000 in
theorem pe0_235_20 (kn : List rM) {m : Nat} (h : (rE0.1 m).cls = "PackHouse") : rpo (rpar kn) rE0 m 235 (20, 210, 3, .ref 10) := po20 h (pm210 kn) (tw6 (List.mem_of_getElem? (i := 188) rfl) rfl) (tw6 (List.mem_of_getElem? (i := 189) rfl) rfl) (tw6 (List.mem_of_getElem? (i := 190) rfl) rfl) rfl rfl
set_option maxRecDepth 100000 in
theorem pe0_238_20 (kn : List rM) {m : Nat} (h : (rE0.1 m).cls = "PackHouse") : rpo (rpar kn) rE0 m 238 (20, 40, 0, .ref 0) := po20 h (pm40 kn) (tw6 (List.mem_of_getElem? (i := 202) rfl) rfl) (tw6 (List.mem_of_getElem? (i := 204) rfl) rfl) (pw5 (List.mem_of_getElem? (i := 2) rfl)) rfl rfl
set_option maxRecDepth 100000 in
theorem pe0_242_20 (kn : List rM) {m : Nat} (h : (rE0.1 m).cls = "PackHouse") : rpo (rpar kn) rE0 m 242 (20, 233, 5, .ref 12) := po20 h (pm233 kn) (tw7 (List.mem_of_getElem? (i := 49) rfl) rfl) (tw7 (List.mem_of_getElem? (i := 50) rfl) rfl) (tw7 (List.mem_of_getElem? (i := 51) rfl) rfl) rfl rfl
set_option maxRecDepth 100000 in
theorem pe0_243_12 (kn : List rM) {m : Nat} (h : (rE0.1 m).cls = "PackHouse") : rpo (rpar kn) rE0 m 243 (12, 12, 22, .null) := po12 (T := FT12) h rfl (tw6 (List.mem_of_getElem? (i := 206) rfl) rfl) (tw6 (List.mem_of_getElem? (i := 207) rfl) rfl) (tw1 (List.mem_of_getElem? (i := 22) rfl) rfl)
set_option maxRecDepth 100000 in
theorem pe0_247_0 (kn : List rM) {m : Nat} (h : (rE0.1 m).cls = "PackHouse") : rpo (rpar kn) rE0 m 247 (0, 0, 12, .ref 3) := po0 (C := "PackHouse") (T := FT0) (N := 19) (ty := fy0 12) h rfl (by decide) rfl (tw1 (List.mem_of_getElem? (i := 148) rfl) rfl) (fp0 12 (by decide)) rfl (fun _ => rfl) (fun a _ => absurd a (by decide))
set_option maxRecDepth 100000 in
theorem pe0_251_0 (kn : List rM) {m : Nat} (h : (rE0.1 m).cls = "PackHouse") : rpo (rpar kn) rE0 m 251 (0, 12, 21, .ref 0) := po0 (C := "PackHouse$Unpacker") (T := FT12) (N := 22) (ty := fy12 21) h rfl (by decide) rfl (tw7 (List.mem_of_getElem? (i := 3) rfl) rfl) (fp12 21 (by decide)) rfl (fun _ => rfl) (fun a _ => absurd a (by decide))
set_option maxRecDepth 100000 in
theorem pe0_252_24 (kn : List rM) {m : Nat} (h : (rE0.1 m).cls = "PackHouse") : rpo (rpar kn) rE0 m 252 (24, 43, 3, .null) := po24 h (pm43 kn) (tw7 (List.mem_of_getElem? (i := 203) rfl) rfl) (tw6 (List.mem_of_getElem? (i := 133) rfl) rfl)
set_option maxRecDepth 100000 in
theorem pe0_256_24 (kn : List rM) {m : Nat} (h : (rE0.1 m).cls = "PackHouse") : rpo (rpar kn) rE0 m 256 (24, 44, 3, .null) := po24 h (pm44 kn) (tw7 (List.mem_of_getElem? (i := 204) rfl) rfl) (tw6 (List.mem_of_getElem? (i := 137) rfl) rfl)
set_option maxRecDepth 100000 in
theorem pe0_259_24 (kn : List rM) {m : Nat} (h : (rE0.1 m).cls = "PackHouse") : rpo (rpar kn) rE0 m 259 (24, 41, 2, .null) := po24 h (pm41 kn) (tw2 (List.mem_of_getElem? (i := 66) rfl) rfl) (tw2 (List.mem_of_getElem? (i := 67) rfl) rfl)
set_option maxRecDepth 100000 in
theorem pe0_263_24 (kn : List rM) {m : Nat} (h : (rE0.1 m).cls = "PackHouse") : rpo (rpar kn) rE0 m 263 (24, 192, 3, .null) := po24 h (pm192 kn) (tw7 (List.mem_of_getElem? (i := 205) rfl) rfl) (tw6 (List.mem_of_getElem? (i := 193) rfl) rfl)
set_option maxRecDepth 100000 in
theorem pe0_266_24 (kn : List rM) {m : Nat} (h : (rE0.1 m).cls = "PackHouse") : rpo (rpar kn) rE0 m 266 (24, 133, 2, .null) := po24 h (pm133 kn) (tw7 (List.mem_of_getElem? (i := 186) rfl) rfl) (tw5 (List.mem_of_getElem? (i := 112) rfl) rfl)
set_option maxRecDepth 100000 in
theorem pe0_270_0 (kn : List rM) {m : Nat} (h : (rE0.1 m).cls = "PackHouse") : rpo (rpar kn) rE0 m 270 (0, 0, 7, .ref 3) := po0 (C := "PackHouse") (T := FT0) (N := 19) (ty := fy0 7) h rfl (by decide) rfl (tw1 (List.mem_of_getElem? (i := 143) rfl) rfl) (fp0 7 (by decide)) rfl (fun _ => rfl) (fun a _ => absurd a (by decide))
set_option maxRecDepth 100000 in
theorem pe0_274_12 (kn : List rM) {m : Nat} (h : (rE0.1 m).cls = "PackHouse") : rpo (rpar kn) rE0 m 274 (12, 5, 19, .null) := po12 (T := FT5) h rfl (tw3 (List.mem_of_getElem? (i := 149) rfl) rfl) (tw3 (List.mem_of_getElem? (i := 150) rfl) rfl) (tw1 (List.mem_of_getElem? (i := 19) rfl) rfl)
set_option maxRecDepth 100000 in
theorem pe0_276_23 (kn : List rM) {m : Nat} (h : (rE0.1 m).cls = "PackHouse") : rpo (rpar kn) rE0 m 276 (23, 120, 0, .ref 5) := po23 h (pm120 kn) (tn3 (List.mem_of_getElem? (i := 151) rfl) rfl) (tw3 (List.mem_of_getElem? (i := 152) rfl) rfl) rfl rfl
set_option maxRecDepth 100000 in
theorem pe0_277_20 (kn : List rM) {m : Nat} (h : (rE0.1 m).cls = "PackHouse") : rpo (rpar kn) rE0 m 277 (20, 35, 0, .ref 0) := po20 h (pm35 kn) (tw3 (List.mem_of_getElem? (i := 145) rfl) rfl) (tw3 (List.mem_of_getElem? (i := 147) rfl) rfl) (pw1 (List.mem_of_getElem? (i := 8) rfl)) rfl rfl
set_option maxRecDepth 100000 in
theorem pe0_281_22 (kn : List rM) {m : Nat} (h : (rE0.1 m).cls = "PackHouse") : rpo (rpar kn) rE0 m 281 (22, 212, 3, .ref 11) := po22 h (pm212 kn) (tw3 (List.mem_of_getElem? (i := 234) rfl) rfl) (tw3 (List.mem_of_getElem? (i := 235) rfl) rfl) rfl rfl
set_option maxRecDepth 100000 in
theorem pe0_284_22 (kn : List rM) {m : Nat} (h : (rE0.1 m).cls = "PackHouse") : rpo (rpar kn) rE0 m 284 (22, 191, 2, .ref 10) := po22 h (pm191 kn) (tw4 (List.mem_of_getElem? (i := 146) rfl) rfl) (tw4 (List.mem_of_getElem? (i := 147) rfl) rfl) rfl rfl
set_option maxRecDepth 100000 in
theorem pe0_287_0 (kn : List rM) {m : Nat} (h : (rE0.1 m).cls = "PackHouse") : rpo (rpar kn) rE0 m 287 (0, 0, 10, .ref 3) := po0 (C := "PackHouse") (T := FT0) (N := 19) (ty := fy0 10) h rfl (by decide) rfl (tw1 (List.mem_of_getElem? (i := 146) rfl) rfl) (fp0 10 (by decide)) rfl (fun _ => rfl) (fun a _ => absurd a (by decide))
set_option maxRecDepth 100000 in
theorem pe0_291_12 (kn : List rM) {m : Nat} (h : (rE0.1 m).cls = "PackHouse") : rpo (rpar kn) rE0 m 291 (12, 8, 13, .null) := po12 (T := FT8) h rfl (tw5 (List.mem_of_getElem? (i := 3) rfl) rfl) (tw2 (List.mem_of_getElem? (i := 158) rfl) rfl) (tw1 (List.mem_of_getElem? (i := 17) rfl) rfl)
set_option maxRecDepth 100000 in
theorem pe0_291_13 (kn : List rM) {m : Nat} (h : (rE0.1 m).cls = "PackHouse") : rpo (rpar kn) rE0 m 291 (13, 5, 0, .null) := po13 h rfl (tw5 (List.mem_of_getElem? (i := 3) rfl) rfl) (ztn1 (List.mem_of_getElem? (i := 90) rfl) rfl)
set_option maxRecDepth 100000 in
theorem pe0_293_22 (kn : List rM) {m : Nat} (h : (rE0.1 m).cls = "PackHouse") : rpo (rpar kn) rE0 m 293 (22, 166, 2, .ref 8) := po22 h (pm166 kn) (tw5 (List.mem_of_getElem? (i := 4) rfl) rfl) (tw2 (List.mem_of_getElem? (i := 160) rfl) rfl) rfl rfl
set_option maxRecDepth 100000 in
theorem pe0_296_14 (kn : List rM) {m : Nat} (h : (rE0.1 m).cls = "PackHouse") : rpo (rpar kn) rE0 m 296 (14, 4, 0, .null) := po14 h (by decide) (tw5 (List.mem_of_getElem? (i := 5) rfl) rfl)
set_option maxRecDepth 100000 in
theorem pe0_299_20 (kn : List rM) {m : Nat} (h : (rE0.1 m).cls = "PackHouse") : rpo (rpar kn) rE0 m 299 (20, 167, 2, .ref 8) := po20 h (pm167 kn) (tw5 (List.mem_of_getElem? (i := 7) rfl) rfl) (tw5 (List.mem_of_getElem? (i := 8) rfl) rfl) (tw5 (List.mem_of_getElem? (i := 9) rfl) rfl) rfl rfl
set_option maxRecDepth 100000 in
theorem pe0_302_14 (kn : List rM) {m : Nat} (h : (rE0.1 m).cls = "PackHouse") : rpo (rpar kn) rE0 m 302 (14, 5, 0, .null) := po14 h (by decide) (tw5 (List.mem_of_getElem? (i := 12) rfl) rfl)
set_option maxRecDepth 100000 in
theorem pe0_305_14 (kn : List rM) {m : Nat} (h : (rE0.1 m).cls = "PackHouse") : rpo (rpar kn) rE0 m 305 (14, 6, 0, .null) := po14 h (by decide) (tw5 (List.mem_of_getElem? (i := 14) rfl) rfl)
set_option maxRecDepth 100000 in
theorem pe0_308_20 (kn : List rM) {m : Nat} (h : (rE0.1 m).cls = "PackHouse") : rpo (rpar kn) rE0 m 308 (20, 38, 0, .ref 0) := po20 h (pm38 kn) (tw4 (List.mem_of_getElem? (i := 239) rfl) rfl) (tw5 (List.mem_of_getElem? (i := 1) rfl) rfl) (pw2 (List.mem_of_getElem? (i := 8) rfl)) rfl rfl
set_option maxRecDepth 100000 in
theorem pe0_312_22 (kn : List rM) {m : Nat} (h : (rE0.1 m).cls = "PackHouse") : rpo (rpar kn) rE0 m 312 (22, 131, 3, .ref 6) := po22 h (pm131 kn) (tw5 (List.mem_of_getElem? (i := 16) rfl) rfl) (tw5 (List.mem_of_getElem? (i := 17) rfl) rfl) rfl rfl
set_option maxRecDepth 100000 in
theorem pe0_315_22 (kn : List rM) {m : Nat} (h : (rE0.1 m).cls = "PackHouse") : rpo (rpar kn) rE0 m 315 (22, 231, 1, .ref 12) := po22 h (pm231 kn) (tw6 (List.mem_of_getElem? (i := 208) rfl) rfl) (tw6 (List.mem_of_getElem? (i := 209) rfl) rfl) rfl rfl
set_option maxRecDepth 100000 in
theorem pe0_318_10 (kn : List rM) {m : Nat} (h : (rE0.1 m).cls = "PackHouse") : rpo (rpar kn) rE0 m 318 (10, 0, 0, .int (407710288)) := po10 h (tw6 (List.mem_of_getElem? (i := 135) rfl) rfl)
set_option maxRecDepth 100000 in
theorem pe0_319_24 (kn : List rM) {m : Nat} (h : (rE0.1 m).cls = "PackHouse") : rpo (rpar kn) rE0 m 319 (24, 42, 3, .null) := po24 h (pm42 kn) (tw2 (List.mem_of_getElem? (i := 87) rfl) rfl) (tw2 (List.mem_of_getElem? (i := 88) rfl) rfl)
set_option maxRecDepth 100000 in
theorem pe0_323_10 (kn : List rM) {m : Nat} (h : (rE0.1 m).cls = "PackHouse") : rpo (rpar kn) rE0 m 323 (10, 0, 0, .int (-2048144777)) := po10 h (tw2 (List.mem_of_getElem? (i := 65) rfl) rfl)
set_option maxRecDepth 100000 in
theorem pe0_324_24 (kn : List rM) {m : Nat} (h : (rE0.1 m).cls = "PackHouse") : rpo (rpar kn) rE0 m 324 (24, 46, 2, .null) := po24 h (pm46 kn) (tw2 (List.mem_of_getElem? (i := 72) rfl) rfl) (tw2 (List.mem_of_getElem? (i := 73) rfl) rfl)
set_option maxRecDepth 100000 in
theorem pe0_327_10 (kn : List rM) {m : Nat} (h : (rE0.1 m).cls = "PackHouse") : rpo (rpar kn) rE0 m 327 (10, 0, 0, .int (-1640531535)) := po10 h (tw2 (List.mem_of_getElem? (i := 64) rfl) rfl)
set_option maxRecDepth 100000 in
theorem pe0_328_10 (kn : List rM) {m : Nat} (h : (rE0.1 m).cls = "PackHouse") : rpo (rpar kn) rE0 m 328 (10, 0, 0, .int (374761393)) := po10 h (tw2 (List.mem_of_getElem? (i := 63) rfl) rfl)
set_option maxRecDepth 100000 in
theorem pe0_329_24 (kn : List rM) {m : Nat} (h : (rE0.1 m).cls = "PackHouse") : rpo (rpar kn) rE0 m 329 (24, 48, 2, .null) := po24 h (pm48 kn) (tw2 (List.mem_of_getElem? (i := 69) rfl) rfl) (tw2 (List.mem_of_getElem? (i := 70) rfl) rfl)
set_option maxRecDepth 100000 in
theorem pe0_332_10 (kn : List rM) {m : Nat} (h : (rE0.1 m).cls = "PackHouse") : rpo (rpar kn) rE0 m 332 (10, 0, 0, .int (-1028477379)) := po10 h (tw2 (List.mem_of_getElem? (i := 75) rfl) rfl)
set_option maxRecDepth 100000 in
theorem pe0_333_10 (kn : List rM) {m : Nat} (h : (rE0.1 m).cls = "PackHouse") : rpo (rpar kn) rE0 m 333 (10, 0, 0, .int (668265263)) := po10 h (tw2 (List.mem_of_getElem? (i := 76) rfl) rfl)
set_option maxRecDepth 100000 in
theorem pe0_334_11 (kn : List rM) {m : Nat} (h : (rE0.1 m).cls = "PackHouse") : rpo (rpar kn) rE0 m 334 (11, 0, 0, .long (-4417276706812531889)) := po11 h (tw2 (List.mem_of_getElem? (i := 86) rfl) rfl)
set_option maxRecDepth 100000 in
theorem pe0_336_24 (kn : List rM) {m : Nat} (h : (rE0.1 m).cls = "PackHouse") : rpo (rpar kn) rE0 m 336 (24, 47, 2, .null) := po24 h (pm47 kn) (tw2 (List.mem_of_getElem? (i := 93) rfl) rfl) (tw2 (List.mem_of_getElem? (i := 94) rfl) rfl)
set_option maxRecDepth 100000 in
theorem pe0_339_11 (kn : List rM) {m : Nat} (h : (rE0.1 m).cls = "PackHouse") : rpo (rpar kn) rE0 m 339 (11, 0, 0, .long (-7046029288634856825)) := po11 h (tw2 (List.mem_of_getElem? (i := 85) rfl) rfl)
set_option maxRecDepth 100000 in
theorem pe0_341_11 (kn : List rM) {m : Nat} (h : (rE0.1 m).cls = "PackHouse") : rpo (rpar kn) rE0 m 341 (11, 0, 0, .long (2870177450012600261)) := po11 h (tw2 (List.mem_of_getElem? (i := 84) rfl) rfl)
set_option maxRecDepth 100000 in
theorem pe0_343_24 (kn : List rM) {m : Nat} (h : (rE0.1 m).cls = "PackHouse") : rpo (rpar kn) rE0 m 343 (24, 50, 2, .null) := po24 h (pm50 kn) (tw2 (List.mem_of_getElem? (i := 90) rfl) rfl) (tw2 (List.mem_of_getElem? (i := 91) rfl) rfl)
set_option maxRecDepth 100000 in
theorem pe0_347_11 (kn : List rM) {m : Nat} (h : (rE0.1 m).cls = "PackHouse") : rpo (rpar kn) rE0 m 347 (11, 0, 0, .long (-8796714831421723037)) := po11 h (tw2 (List.mem_of_getElem? (i := 96) rfl) rfl)
set_option maxRecDepth 100000 in
theorem pe0_349_24 (kn : List rM) {m : Nat} (h : (rE0.1 m).cls = "PackHouse") : rpo (rpar kn) rE0 m 349 (24, 52, 4, .null) := po24 h (pm52 kn) (tw2 (List.mem_of_getElem? (i := 97) rfl) rfl) (tw2 (List.mem_of_getElem? (i := 98) rfl) rfl)
set_option maxRecDepth 100000 in
theorem pe0_352_11 (kn : List rM) {m : Nat} (h : (rE0.1 m).cls = "PackHouse") : rpo (rpar kn) rE0 m 352 (11, 0, 0, .long (1609587929392839161)) := po11 h (tw2 (List.mem_of_getElem? (i := 100) rfl) rfl)
set_option maxRecDepth 100000 in
theorem pe0_354_14 (kn : List rM) {m : Nat} (h : (rE0.1 m).cls = "PackHouse") : rpo (rpar kn) rE0 m 354 (14, 1, 0, .null) := po14 h (by decide) (tw2 (List.mem_of_getElem? (i := 108) rfl) rfl)
set_option maxRecDepth 100000 in
theorem pe0_357_10 (kn : List rM) {m : Nat} (h : (rE0.1 m).cls = "PackHouse") : rpo (rpar kn) rE0 m 357 (10, 0, 0, .int (-1568478504)) := po10 h (tw2 (List.mem_of_getElem? (i := 113) rfl) rfl)
set_option maxRecDepth 100000 in
theorem pl0 (kn : List rM) {m : Nat} (h : (rE0.1 m).cls = "PackHouse") : ∀ q ∈ pool_0, rpo (rpar kn) rE0 m q.1 q.2 := List.forall_mem_cons.mpr ⟨pe0_1_26 kn h, List.forall_mem_cons.mpr ⟨pe0_7_12 kn h, List.forall_mem_cons.mpr ⟨pe0_7_13 kn h, List.forall_mem_cons.mpr ⟨pe0_9_23 kn h, List.forall_mem_cons.mpr ⟨pe0_10_0 kn h, List.forall_mem_cons.mpr ⟨pe0_16_10 kn h, List.forall_mem_cons.mpr ⟨pe0_17_0 kn h, List.forall_mem_cons.mpr ⟨pe0_21_0 kn h, List.forall_mem_cons.mpr ⟨pe0_25_12 kn h, List.forall_mem_cons.mpr ⟨pe0_27_23 kn h, List.forall_mem_cons.mpr ⟨pe0_28_0 kn h, List.forall_mem_cons.mpr ⟨pe0_32_0 kn h, List.forall_mem_cons.mpr ⟨pe0_35_0 kn h, List.forall_mem_cons.mpr ⟨pe0_38_0 kn h, List.forall_mem_cons.mpr ⟨pe0_41_0 kn h, List.forall_mem_cons.mpr ⟨pe0_44_0 kn h, List.forall_mem_cons.mpr ⟨pe0_47_0 kn h, List.forall_mem_cons.mpr ⟨pe0_50_0 kn h, List.forall_mem_cons.mpr ⟨pe0_53_24 kn h, List.forall_mem_cons.mpr ⟨pe0_57_20 kn h, List.forall_mem_cons.mpr ⟨pe0_60_11 kn h, List.forall_mem_cons.mpr ⟨pe0_62_24 kn h, List.forall_mem_cons.mpr ⟨pe0_66_0 kn h, List.forall_mem_cons.mpr ⟨pe0_70_20 kn h, List.forall_mem_cons.mpr ⟨pe0_74_24 kn h, List.forall_mem_cons.mpr ⟨pe0_78_0 kn h, List.forall_mem_cons.mpr ⟨pe0_82_20 kn h, List.forall_mem_cons.mpr ⟨pe0_86_24 kn h, List.forall_mem_cons.mpr ⟨pe0_90_24 kn h, List.forall_mem_cons.mpr ⟨pe0_93_24 kn h, List.forall_mem_cons.mpr ⟨pe0_97_24 kn h, List.forall_mem_cons.mpr ⟨pe0_101_24 kn h, List.forall_mem_cons.mpr ⟨pe0_105_24 kn h, List.forall_mem_cons.mpr ⟨pe0_109_24 kn h, List.forall_mem_cons.mpr ⟨pe0_113_20 kn h, List.forall_mem_cons.mpr ⟨pe0_117_20 kn h, List.forall_mem_cons.mpr ⟨pe0_121_20 kn h, List.forall_mem_cons.mpr ⟨pe0_124_20 kn h, List.forall_mem_cons.mpr ⟨pe0_125_20 kn h, List.forall_mem_cons.mpr ⟨pe0_128_20 kn h, List.forall_mem_cons.mpr ⟨pe0_132_20 kn h, List.forall_mem_cons.mpr ⟨pe0_133_12 kn h, List.forall_mem_cons.mpr ⟨pe0_138_20 kn h, List.forall_mem_cons.mpr ⟨pe0_141_20 kn h, List.forall_mem_cons.mpr ⟨pe0_145_20 kn h, List.forall_mem_cons.mpr ⟨pe0_146_12 kn h, List.forall_mem_cons.mpr ⟨pe0_148_20 kn h, List.forall_mem_cons.mpr ⟨pe0_151_20 kn h, List.forall_mem_cons.mpr ⟨pe0_155_20 kn h, List.forall_mem_cons.mpr ⟨pe0_156_12 kn h, List.forall_mem_cons.mpr ⟨pe0_160_20 kn h, List.forall_mem_cons.mpr ⟨pe0_164_0 kn h, List.forall_mem_cons.mpr ⟨pe0_168_20 kn h, List.forall_mem_cons.mpr ⟨pe0_172_20 kn h, List.forall_mem_cons.mpr ⟨pe0_176_0 kn h, List.forall_mem_cons.mpr ⟨pe0_180_0 kn h, List.forall_mem_cons.mpr ⟨pe0_183_27 kn h, List.forall_mem_cons.mpr ⟨pe0_189_20 kn h, List.forall_mem_cons.mpr ⟨pe0_192_24 kn h, List.forall_mem_cons.mpr ⟨pe0_195_0 kn h, List.forall_mem_cons.mpr ⟨pe0_198_0 kn h, List.forall_mem_cons.mpr ⟨pe0_199_0 kn h, List.forall_mem_cons.mpr ⟨pe0_202_24 kn h, List.forall_mem_cons.mpr ⟨pe0_205_20 kn h, List.forall_mem_cons.mpr ⟨pe0_209_30 kn h, List.forall_mem_cons.mpr ⟨pe0_214_0 kn h, List.forall_mem_cons.mpr ⟨pe0_217_20 kn h, List.forall_mem_cons.mpr ⟨pe0_221_0 kn h, List.forall_mem_cons.mpr ⟨pe0_225_0 kn h, List.forall_mem_cons.mpr ⟨pe0_226_20 kn h, List.forall_mem_cons.mpr ⟨pe0_229_20 kn h, List.forall_mem_cons.mpr ⟨pe0_230_0 kn h, List.forall_mem_cons.mpr ⟨pe0_234_0 kn h, List.forall_mem_cons.mpr ⟨pe0_235_20 kn h, List.forall_mem_cons.mpr ⟨pe0_238_20 kn h, List.forall_mem_cons.mpr ⟨pe0_242_20 kn h, List.forall_mem_cons.mpr ⟨pe0_243_12 kn h, List.forall_mem_cons.mpr ⟨pe0_247_0 kn h, List.forall_mem_cons.mpr ⟨pe0_251_0 kn h, List.forall_mem_cons.mpr ⟨pe0_252_24 kn h, List.forall_mem_cons.mpr ⟨pe0_256_24 kn h, List.forall_mem_cons.mpr ⟨pe0_259_24 kn h, List.forall_mem_cons.mpr ⟨pe0_263_24 kn h, List.forall_mem_cons.mpr ⟨pe0_266_24 kn h, List.forall_mem_cons.mpr ⟨pe0_270_0 kn h, List.forall_mem_cons.mpr ⟨pe0_274_12 kn h, List.forall_mem_cons.mpr ⟨pe0_276_23 kn h, List.forall_mem_cons.mpr ⟨pe0_277_20 kn h, List.forall_mem_cons.mpr ⟨pe0_281_22 kn h, List.forall_mem_cons.mpr ⟨pe0_284_22 kn h, List.forall_mem_cons.mpr ⟨pe0_287_0 kn h, List.forall_mem_cons.mpr ⟨pe0_291_12 kn h, List.forall_mem_cons.mpr ⟨pe0_291_13 kn h, List.forall_mem_cons.mpr ⟨pe0_293_22 kn h, List.forall_mem_cons.mpr ⟨pe0_296_14 kn h, List.forall_mem_cons.mpr ⟨pe0_299_20 kn h, List.forall_mem_cons.mpr ⟨pe0_302_14 kn h, List.forall_mem_cons.mpr ⟨pe0_305_14 kn h, List.forall_mem_cons.mpr ⟨pe0_308_20 kn h, List.forall_mem_cons.mpr ⟨pe0_312_22 kn h, List.forall_mem_cons.mpr ⟨pe0_315_22 kn h, List.forall_mem_cons.mpr ⟨pe0_318_10 kn h, List.forall_mem_cons.mpr ⟨pe0_319_24 kn h, List.forall_mem_cons.mpr ⟨pe0_323_10 kn h, List.forall_mem_cons.mpr ⟨pe0_324_24 kn h, List.forall_mem_cons.mpr ⟨pe0_327_10 kn h, List.forall_mem_cons.mpr ⟨pe0_328_10 kn h, List.forall_mem_cons.mpr ⟨pe0_329_24 kn h, List.forall_mem_cons.mpr ⟨pe0_332_10 kn h, List.forall_mem_cons.mpr ⟨pe0_333_10 kn h, List.forall_mem_cons.mpr ⟨pe0_334_11 kn h, List.forall_mem_cons.mpr ⟨pe0_336_24 kn h, List.forall_mem_cons.mpr ⟨pe0_339_11 kn h, List.forall_mem_cons.mpr ⟨pe0_341_11 kn h, List.forall_mem_cons.mpr ⟨pe0_343_24 kn h, List.forall_mem_cons.mpr ⟨pe0_347_11 kn h, List.forall_mem_cons.mpr ⟨pe0_349_24 kn h, List.forall_mem_cons.mpr ⟨pe0_352_11 kn h, List.forall_mem_cons.mpr ⟨pe0_354_14 kn h, List.forall_mem_cons.mpr ⟨pe0_357_10 kn h, (fun _ h => absurd h List.not_mem_nil)⟩⟩⟩⟩⟩⟩⟩⟩⟩⟩⟩⟩⟩⟩⟩⟩⟩⟩⟩⟩⟩⟩⟩⟩⟩⟩⟩⟩⟩⟩⟩⟩⟩⟩⟩⟩⟩⟩⟩⟩⟩⟩⟩⟩⟩⟩⟩⟩⟩⟩⟩⟩⟩⟩⟩⟩⟩⟩⟩⟩⟩⟩⟩⟩⟩⟩⟩⟩⟩⟩⟩⟩⟩⟩⟩⟩⟩⟩⟩⟩⟩⟩⟩⟩⟩⟩⟩⟩⟩⟩⟩⟩⟩⟩⟩⟩⟩⟩⟩⟩⟩⟩⟩⟩⟩⟩⟩⟩⟩⟩⟩⟩⟩⟩⟩⟩⟩⟩⟩⟩
set_option maxRecDepth 100000 in
theorem pe1_1_26 (kn : List rM) {m : Nat} (h : (rE0.1 m).cls = "PackHouseModel") : rpo (rpar kn) rE0 m 1 (26, 0, 0, .null) := po26 h (tw7 (List.mem_of_getElem? (i := 227) rfl) rfl)
set_option maxRecDepth 100000 in
theorem pe1_7_10 (kn : List rM) {m : Nat} (h : (rE0.1 m).cls = "PackHouseModel") : rpo (rpar kn) rE0 m 7 (10, 0, 0, .int (262144)) := po10 h (tw7 (List.mem_of_getElem? (i := 228) rfl) rfl)
set_option maxRecDepth 100000 in
theorem pe1_8_0 (kn : List rM) {m : Nat} (h : (rE0.1 m).cls = "PackHouseModel") : rpo (rpar kn) rE0 m 8 (0, 1, 0, .ref 11) := po0 (C := "PackHouseModel") (T := FT1) (N := 13) (ty := fy1 0) h rfl (by decide) rfl (tw10 (List.mem_of_getElem? (i := 24) rfl) rfl) (fp1 0 (by decide)) rfl (fun a => absurd a (by decide)) (fun _ _ => ⟨rfl, rfl⟩)
set_option maxRecDepth 100000 in
theorem pe1_14_0 (kn : List rM) {m : Nat} (h : (rE0.1 m).cls = "PackHouseModel") : rpo (rpar kn) rE0 m 14 (0, 1, 1, .ref 11) := po0 (C := "PackHouseModel") (T := FT1) (N := 13) (ty := fy1 1) h rfl (by decide) rfl (tw10 (List.mem_of_getElem? (i := 25) rfl) rfl) (fp1 1 (by decide)) rfl (fun a => absurd a (by decide)) (fun _ _ => ⟨rfl, rfl⟩)
set_option maxRecDepth 100000 in
theorem pe1_17_12 (kn : List rM) {m : Nat} (h : (rE0.1 m).cls = "PackHouseModel") : rpo (rpar kn) rE0 m 17 (12, 13, 5, .null) := po12 (T := FT13) h rfl (tw7 (List.mem_of_getElem? (i := 229) rfl) rfl) (tw7 (List.mem_of_getElem? (i := 230) rfl) rfl) (tw1 (List.mem_of_getElem? (i := 6) rfl) rfl)
set_option maxRecDepth 100000 in
theorem pe1_19_23 (kn : List rM) {m : Nat} (h : (rE0.1 m).cls = "PackHouseModel") : rpo (rpar kn) rE0 m 19 (23, 255, 0, .ref 13) := po23 h (pm255 kn) (tn7 (List.mem_of_getElem? (i := 231) rfl) rfl) (tw7 (List.mem_of_getElem? (i := 232) rfl) rfl) rfl rfl
set_option maxRecDepth 100000 in
theorem pe1_20_0 (kn : List rM) {m : Nat} (h : (rE0.1 m).cls = "PackHouseModel") : rpo (rpar kn) rE0 m 20 (0, 1, 2, .ref 11) := po0 (C := "PackHouseModel") (T := FT1) (N := 13) (ty := fy1 2) h rfl (by decide) rfl (tw10 (List.mem_of_getElem? (i := 26) rfl) rfl) (fp1 2 (by decide)) rfl (fun a => absurd a (by decide)) (fun _ _ => ⟨rfl, rfl⟩)
set_option maxRecDepth 100000 in
theorem pe1_24_12 (kn : List rM) {m : Nat} (h : (rE0.1 m).cls = "PackHouseModel") : rpo (rpar kn) rE0 m 24 (12, 15, 2, .null) := po12 (T := FT15) h rfl (tw8 (List.mem_of_getElem? (i := 32) rfl) rfl) (tw8 (List.mem_of_getElem? (i := 33) rfl) rfl) (tw1 (List.mem_of_getElem? (i := 7) rfl) rfl)
set_option maxRecDepth 100000 in
theorem pe1_26_22 (kn : List rM) {m : Nat} (h : (rE0.1 m).cls = "PackHouseModel") : rpo (rpar kn) rE0 m 26 (22, 303, 1, .ref 15) := po22 h (pm303 kn) (tw8 (List.mem_of_getElem? (i := 34) rfl) rfl) (tw8 (List.mem_of_getElem? (i := 35) rfl) rfl) rfl rfl
set_option maxRecDepth 100000 in
theorem pe1_29_0 (kn : List rM) {m : Nat} (h : (rE0.1 m).cls = "PackHouseModel") : rpo (rpar kn) rE0 m 29 (0, 1, 3, .ref 11) := po0 (C := "PackHouseModel") (T := FT1) (N := 13) (ty := fy1 3) h rfl (by decide) rfl (tw10 (List.mem_of_getElem? (i := 27) rfl) rfl) (fp1 3 (by decide)) rfl (fun a => absurd a (by decide)) (fun _ _ => ⟨rfl, rfl⟩)
set_option maxRecDepth 100000 in
theorem pe1_33_12 (kn : List rM) {m : Nat} (h : (rE0.1 m).cls = "PackHouseModel") : rpo (rpar kn) rE0 m 33 (12, 17, 17, .null) := po12 (T := FT17) h rfl (tw8 (List.mem_of_getElem? (i := 45) rfl) rfl) (tw8 (List.mem_of_getElem? (i := 46) rfl) rfl) (tw1 (List.mem_of_getElem? (i := 8) rfl) rfl)
set_option maxRecDepth 100000 in
theorem pe1_35_22 (kn : List rM) {m : Nat} (h : (rE0.1 m).cls = "PackHouseModel") : rpo (rpar kn) rE0 m 35 (22, 353, 1, .ref 17) := po22 h (pm353 kn) (tw8 (List.mem_of_getElem? (i := 47) rfl) rfl) (tw8 (List.mem_of_getElem? (i := 48) rfl) rfl) rfl rfl
set_option maxRecDepth 100000 in
theorem pe1_38_0 (kn : List rM) {m : Nat} (h : (rE0.1 m).cls = "PackHouseModel") : rpo (rpar kn) rE0 m 38 (0, 1, 4, .ref 11) := po0 (C := "PackHouseModel") (T := FT1) (N := 13) (ty := fy1 4) h rfl (by decide) rfl (tw10 (List.mem_of_getElem? (i := 28) rfl) rfl) (fp1 4 (by decide)) rfl (fun a => absurd a (by decide)) (fun _ _ => ⟨rfl, rfl⟩)
set_option maxRecDepth 100000 in
theorem pe1_42_12 (kn : List rM) {m : Nat} (h : (rE0.1 m).cls = "PackHouseModel") : rpo (rpar kn) rE0 m 42 (12, 16, 12, .null) := po12 (T := FT16) h rfl (tw8 (List.mem_of_getElem? (i := 107) rfl) rfl) (tw8 (List.mem_of_getElem? (i := 108) rfl) rfl) (tw1 (List.mem_of_getElem? (i := 9) rfl) rfl)
set_option maxRecDepth 100000 in
theorem pe1_44_22 (kn : List rM) {m : Nat} (h : (rE0.1 m).cls = "PackHouseModel") : rpo (rpar kn) rE0 m 44 (22, 319, 1, .ref 16) := po22 h (pm319 kn) (tw8 (List.mem_of_getElem? (i := 109) rfl) rfl) (tw8 (List.mem_of_getElem? (i := 110) rfl) rfl) rfl rfl
set_option maxRecDepth 100000 in
theorem pe1_45_0 (kn : List rM) {m : Nat} (h : (rE0.1 m).cls = "PackHouseModel") : rpo (rpar kn) rE0 m 45 (0, 1, 5, .ref 11) := po0 (C := "PackHouseModel") (T := FT1) (N := 13) (ty := fy1 5) h rfl (by decide) rfl (tw10 (List.mem_of_getElem? (i := 29) rfl) rfl) (fp1 5 (by decide)) rfl (fun a => absurd a (by decide)) (fun _ _ => ⟨rfl, rfl⟩)
set_option maxRecDepth 100000 in
theorem pe1_49_12 (kn : List rM) {m : Nat} (h : (rE0.1 m).cls = "PackHouseModel") : rpo (rpar kn) rE0 m 49 (12, 14, 47, .null) := po12 (T := FT14) h rfl (tw8 (List.mem_of_getElem? (i := 151) rfl) rfl) (tw8 (List.mem_of_getElem? (i := 152) rfl) rfl) (tw1 (List.mem_of_getElem? (i := 10) rfl) rfl)
set_option maxRecDepth 100000 in
theorem pe1_51_22 (kn : List rM) {m : Nat} (h : (rE0.1 m).cls = "PackHouseModel") : rpo (rpar kn) rE0 m 51 (22, 256, 1, .ref 14) := po22 h (pm256 kn) (tw8 (List.mem_of_getElem? (i := 153) rfl) rfl) (tw8 (List.mem_of_getElem? (i := 154) rfl) rfl) rfl rfl
set_option maxRecDepth 100000 in
theorem pe1_52_0 (kn : List rM) {m : Nat} (h : (rE0.1 m).cls = "PackHouseModel") : rpo (rpar kn) rE0 m 52 (0, 1, 6, .ref 11) := po0 (C := "PackHouseModel") (T := FT1) (N := 13) (ty := fy1 6) h rfl (by decide) rfl (tw10 (List.mem_of_getElem? (i := 30) rfl) rfl) (fp1 6 (by decide)) rfl (fun a => absurd a (by decide)) (fun _ _ => ⟨rfl, rfl⟩)
set_option maxRecDepth 100000 in
theorem pe1_56_12 (kn : List rM) {m : Nat} (h : (rE0.1 m).cls = "PackHouseModel") : rpo (rpar kn) rE0 m 56 (12, 18, 59, .null) := po12 (T := FT18) h rfl (tw9 (List.mem_of_getElem? (i := 77) rfl) rfl) (tw9 (List.mem_of_getElem? (i := 78) rfl) rfl) (tw1 (List.mem_of_getElem? (i := 11) rfl) rfl)
set_option maxRecDepth 100000 in
theorem pe1_58_22 (kn : List rM) {m : Nat} (h : (rE0.1 m).cls = "PackHouseModel") : rpo (rpar kn) rE0 m 58 (22, 386, 1, .ref 18) := po22 h (pm386 kn) (tw9 (List.mem_of_getElem? (i := 79) rfl) rfl) (tw9 (List.mem_of_getElem? (i := 80) rfl) rfl) rfl rfl
set_option maxRecDepth 100000 in
theorem pe1_59_0 (kn : List rM) {m : Nat} (h : (rE0.1 m).cls = "PackHouseModel") : rpo (rpar kn) rE0 m 59 (0, 1, 7, .ref 11) := po0 (C := "PackHouseModel") (T := FT1) (N := 13) (ty := fy1 7) h rfl (by decide) rfl (tw10 (List.mem_of_getElem? (i := 31) rfl) rfl) (fp1 7 (by decide)) rfl (fun a => absurd a (by decide)) (fun _ _ => ⟨rfl, rfl⟩)
set_option maxRecDepth 100000 in
theorem pe1_63_0 (kn : List rM) {m : Nat} (h : (rE0.1 m).cls = "PackHouseModel") : rpo (rpar kn) rE0 m 63 (0, 1, 8, .ref 11) := po0 (C := "PackHouseModel") (T := FT1) (N := 13) (ty := fy1 8) h rfl (by decide) rfl (tw10 (List.mem_of_getElem? (i := 32) rfl) rfl) (fp1 8 (by decide)) rfl (fun a => absurd a (by decide)) (fun _ _ => ⟨rfl, rfl⟩)
set_option maxRecDepth 100000 in
theorem pe1_66_0 (kn : List rM) {m : Nat} (h : (rE0.1 m).cls = "PackHouseModel") : rpo (rpar kn) rE0 m 66 (0, 1, 12, .ref 11) := po0 (C := "PackHouseModel") (T := FT1) (N := 13) (ty := fy1 12) h rfl (by decide) rfl (tw10 (List.mem_of_getElem? (i := 36) rfl) rfl) (fp1 12 (by decide)) rfl (fun a => absurd a (by decide)) (fun _ _ => ⟨rfl, rfl⟩)
set_option maxRecDepth 100000 in
theorem pe1_69_10 (kn : List rM) {m : Nat} (h : (rE0.1 m).cls = "PackHouseModel") : rpo (rpar kn) rE0 m 69 (10, 0, 0, .int (65536)) := po10 h (tw10 (List.mem_of_getElem? (i := 23) rfl) rfl)
set_option maxRecDepth 100000 in
theorem pe1_70_24 (kn : List rM) {m : Nat} (h : (rE0.1 m).cls = "PackHouseModel") : rpo (rpar kn) rE0 m 70 (24, 56, 1, .null) := po24 h (pm56 kn) (tw10 (List.mem_of_getElem? (i := 68) rfl) rfl) (tw10 (List.mem_of_getElem? (i := 69) rfl) rfl)
set_option maxRecDepth 100000 in
theorem pe1_74_20 (kn : List rM) {m : Nat} (h : (rE0.1 m).cls = "PackHouseModel") : rpo (rpar kn) rE0 m 74 (20, 57, 2, .ref 1) := po20 h (pm57 kn) (tw10 (List.mem_of_getElem? (i := 71) rfl) rfl) (tw10 (List.mem_of_getElem? (i := 73) rfl) rfl) (pw6 (List.mem_of_getElem? (i := 11) rfl)) rfl rfl
set_option maxRecDepth 100000 in
theorem pe1_78_20 (kn : List rM) {m : Nat} (h : (rE0.1 m).cls = "PackHouseModel") : rpo (rpar kn) rE0 m 78 (20, 62, 3, .ref 1) := po20 h (pm62 kn) (tw10 (List.mem_of_getElem? (i := 91) rfl) rfl) (tw10 (List.mem_of_getElem? (i := 93) rfl) rfl) (pw6 (List.mem_of_getElem? (i := 12) rfl)) rfl rfl
set_option maxRecDepth 100000 in
theorem pe1_82_24 (kn : List rM) {m : Nat} (h : (rE0.1 m).cls = "PackHouseModel") : rpo (rpar kn) rE0 m 82 (24, 67, 3, .null) := po24 h (pm67 kn) (tw10 (List.mem_of_getElem? (i := 114) rfl) rfl) (tw10 (List.mem_of_getElem? (i := 115) rfl) rfl)
set_option maxRecDepth 100000 in
theorem pe1_85_24 (kn : List rM) {m : Nat} (h : (rE0.1 m).cls = "PackHouseModel") : rpo (rpar kn) rE0 m 85 (24, 68, 2, .null) := po24 h (pm68 kn) (tw10 (List.mem_of_getElem? (i := 111) rfl) rfl) (tw10 (List.mem_of_getElem? (i := 112) rfl) rfl)
set_option maxRecDepth 100000 in
theorem pe1_88_20 (kn : List rM) {m : Nat} (h : (rE0.1 m).cls = "PackHouseModel") : rpo (rpar kn) rE0 m 88 (20, 304, 1, .ref 15) := po20 h (pm304 kn) (tw10 (List.mem_of_getElem? (i := 125) rfl) rfl) (tw10 (List.mem_of_getElem? (i := 126) rfl) rfl) (tw10 (List.mem_of_getElem? (i := 127) rfl) rfl) rfl rfl
set_option maxRecDepth 100000 in
theorem pe1_92_21 (kn : List rM) {m : Nat} (h : (rE0.1 m).cls = "PackHouseModel") : rpo (rpar kn) rE0 m 92 (21, 309, 3, .ref 15) := po21 h (pm309 kn) (tn10 (List.mem_of_getElem? (i := 129) rfl) rfl) (tw10 (List.mem_of_getElem? (i := 131) rfl) rfl) (pw6 (List.mem_of_getElem? (i := 13) rfl)) rfl rfl
set_option maxRecDepth 100000 in
theorem pe1_96_21 (kn : List rM) {m : Nat} (h : (rE0.1 m).cls = "PackHouseModel") : rpo (rpar kn) rE0 m 96 (21, 314, 3, .ref 15) := po21 h (pm314 kn) (tn10 (List.mem_of_getElem? (i := 157) rfl) rfl) (tw10 (List.mem_of_getElem? (i := 159) rfl) rfl) (pw7 (List.mem_of_getElem? (i := 1) rfl)) rfl rfl
set_option maxRecDepth 100000 in
theorem pe1_100_20 (kn : List rM) {m : Nat} (h : (rE0.1 m).cls = "PackHouseModel") : rpo (rpar kn) rE0 m 100 (20, 318, 2, .ref 15) := po20 h (pm318 kn) (tw10 (List.mem_of_getElem? (i := 184) rfl) rfl) (tw10 (List.mem_of_getElem? (i := 185) rfl) rfl) (tw10 (List.mem_of_getElem? (i := 186) rfl) rfl) rfl rfl
set_option maxRecDepth 100000 in
theorem pe1_104_10 (kn : List rM) {m : Nat} (h : (rE0.1 m).cls = "PackHouseModel") : rpo (rpar kn) rE0 m 104 (10, 0, 0, .int (1568478504)) := po10 h (tw10 (List.mem_of_getElem? (i := 199) rfl) rfl)
set_option maxRecDepth 100000 in
theorem pe1_105_1 (kn : List rM) {m : Nat} (h : (rE0.1 m).cls = "PackHouseModel") : rpo (rpar kn) rE0 m 105 (1, 13, 0, .ref 19) := po1 (C := "PackHouseModel$Desk") (T := FT13) (N := 5) (ty := fy13 0) h rfl (by decide) rfl (tn8 (List.mem_of_getElem? (i := 0) rfl) rfl) (fp13 0 (by decide)) rfl (fun a => absurd a (by decide)) (fun _ b => absurd b (by decide)) (by decide)
set_option maxRecDepth 100000 in
theorem pe1_108_1 (kn : List rM) {m : Nat} (h : (rE0.1 m).cls = "PackHouseModel") : rpo (rpar kn) rE0 m 108 (1, 13, 1, .ref 0) := po1 (C := "PackHouseModel$Desk") (T := FT13) (N := 5) (ty := fy13 1) h rfl (by decide) rfl (tn8 (List.mem_of_getElem? (i := 5) rfl) rfl) (fp13 1 (by decide)) rfl (fun _ => rfl) (fun a _ => absurd a (by decide)) (by decide)
set_option maxRecDepth 100000 in
theorem pe1_112_1 (kn : List rM) {m : Nat} (h : (rE0.1 m).cls = "PackHouseModel") : rpo (rpar kn) rE0 m 112 (1, 13, 3, .ref 0) := po1 (C := "PackHouseModel$Desk") (T := FT13) (N := 5) (ty := fy13 3) h rfl (by decide) rfl (tn8 (List.mem_of_getElem? (i := 16) rfl) rfl) (fp13 3 (by decide)) rfl (fun _ => rfl) (fun a _ => absurd a (by decide)) (by decide)
set_option maxRecDepth 100000 in
theorem pe1_115_1 (kn : List rM) {m : Nat} (h : (rE0.1 m).cls = "PackHouseModel") : rpo (rpar kn) rE0 m 115 (1, 13, 2, .ref 19) := po1 (C := "PackHouseModel$Desk") (T := FT13) (N := 5) (ty := fy13 2) h rfl (by decide) rfl (tn8 (List.mem_of_getElem? (i := 11) rfl) rfl) (fp13 2 (by decide)) rfl (fun a => absurd a (by decide)) (fun _ b => absurd b (by decide)) (by decide)
set_option maxRecDepth 100000 in
theorem pe1_118_20 (kn : List rM) {m : Nat} (h : (rE0.1 m).cls = "PackHouseModel") : rpo (rpar kn) rE0 m 118 (20, 74, 1, .ref 1) := po20 h (pm74 kn) (tw10 (List.mem_of_getElem? (i := 204) rfl) rfl) (tw10 (List.mem_of_getElem? (i := 206) rfl) rfl) (pw7 (List.mem_of_getElem? (i := 5) rfl)) rfl rfl
set_option maxRecDepth 100000 in
theorem pe1_121_20 (kn : List rM) {m : Nat} (h : (rE0.1 m).cls = "PackHouseModel") : rpo (rpar kn) rE0 m 121 (20, 354, 0, .ref 17) := po20 h (pm354 kn) (tw10 (List.mem_of_getElem? (i := 208) rfl) rfl) (tw10 (List.mem_of_getElem? (i := 209) rfl) rfl) (tw10 (List.mem_of_getElem? (i := 210) rfl) rfl) rfl rfl
set_option maxRecDepth 100000 in
theorem pe1_124_20 (kn : List rM) {m : Nat} (h : (rE0.1 m).cls = "PackHouseModel") : rpo (rpar kn) rE0 m 124 (20, 275, 0, .ref 14) := po20 h (pm275 kn) (tw10 (List.mem_of_getElem? (i := 216) rfl) rfl) (tw10 (List.mem_of_getElem? (i := 217) rfl) rfl) (tw10 (List.mem_of_getElem? (i := 218) rfl) rfl) rfl rfl
set_option maxRecDepth 100000 in
theorem pe1_128_20 (kn : List rM) {m : Nat} (h : (rE0.1 m).cls = "PackHouseModel") : rpo (rpar kn) rE0 m 128 (20, 388, 1, .ref 18) := po20 h (pm388 kn) (tw11 (List.mem_of_getElem? (i := 39) rfl) rfl) (tw11 (List.mem_of_getElem? (i := 40) rfl) rfl) (tw11 (List.mem_of_getElem? (i := 41) rfl) rfl) rfl rfl
set_option maxRecDepth 100000 in
theorem pe1_132_20 (kn : List rM) {m : Nat} (h : (rE0.1 m).cls = "PackHouseModel") : rpo (rpar kn) rE0 m 132 (20, 355, 0, .ref 17) := po20 h (pm355 kn) (tw11 (List.mem_of_getElem? (i := 47) rfl) rfl) (tw11 (List.mem_of_getElem? (i := 48) rfl) rfl) (tw11 (List.mem_of_getElem? (i := 49) rfl) rfl) rfl rfl
set_option maxRecDepth 100000 in
theorem pe1_135_20 (kn : List rM) {m : Nat} (h : (rE0.1 m).cls = "PackHouseModel") : rpo (rpar kn) rE0 m 135 (20, 274, 0, .ref 14) := po20 h (pm274 kn) (tw11 (List.mem_of_getElem? (i := 51) rfl) rfl) (tw11 (List.mem_of_getElem? (i := 52) rfl) rfl) (tw11 (List.mem_of_getElem? (i := 53) rfl) rfl) rfl rfl
set_option maxRecDepth 100000 in
theorem pe1_136_1 (kn : List rM) {m : Nat} (h : (rE0.1 m).cls = "PackHouseModel") : rpo (rpar kn) rE0 m 136 (1, 17, 2, .ref 0) := po1 (C := "PackHouseModel$Tokens") (T := FT17) (N := 17) (ty := fy17 2) h rfl (by decide) rfl (tn8 (List.mem_of_getElem? (i := 57) rfl) rfl) (fp17 2 (by decide)) rfl (fun _ => rfl) (fun a _ => absurd a (by decide)) (by decide)
set_option maxRecDepth 100000 in
theorem pe1_139_1 (kn : List rM) {m : Nat} (h : (rE0.1 m).cls = "PackHouseModel") : rpo (rpar kn) rE0 m 139 (1, 14, 2, .ref 0) := po1 (C := "PackHouseModel$Reader") (T := FT14) (N := 47) (ty := fy14 2) h rfl (by decide) rfl (tn8 (List.mem_of_getElem? (i := 164) rfl) rfl) (fp14 2 (by decide)) rfl (fun _ => rfl) (fun a _ => absurd a (by decide)) (by decide)
set_option maxRecDepth 100000 in
theorem pe1_142_20 (kn : List rM) {m : Nat} (h : (rE0.1 m).cls = "PackHouseModel") : rpo (rpar kn) rE0 m 142 (20, 370, 1, .ref 17) := po20 h (pm370 kn) (tw11 (List.mem_of_getElem? (i := 76) rfl) rfl) (tw11 (List.mem_of_getElem? (i := 77) rfl) rfl) (tw11 (List.mem_of_getElem? (i := 78) rfl) rfl) rfl rfl
set_option maxRecDepth 100000 in
theorem pe1_146_20 (kn : List rM) {m : Nat} (h : (rE0.1 m).cls = "PackHouseModel") : rpo (rpar kn) rE0 m 146 (20, 378, 5, .ref 17) := po20 h (pm378 kn) (tw11 (List.mem_of_getElem? (i := 121) rfl) rfl) (tw11 (List.mem_of_getElem? (i := 122) rfl) rfl) (tw11 (List.mem_of_getElem? (i := 123) rfl) rfl) rfl rfl
set_option maxRecDepth 100000 in
theorem pe1_150_20 (kn : List rM) {m : Nat} (h : (rE0.1 m).cls = "PackHouseModel") : rpo (rpar kn) rE0 m 150 (20, 334, 1, .ref 16) := po20 h (pm334 kn) (tw11 (List.mem_of_getElem? (i := 158) rfl) rfl) (tw11 (List.mem_of_getElem? (i := 159) rfl) rfl) (tw11 (List.mem_of_getElem? (i := 160) rfl) rfl) rfl rfl
set_option maxRecDepth 100000 in
theorem pe1_153_20 (kn : List rM) {m : Nat} (h : (rE0.1 m).cls = "PackHouseModel") : rpo (rpar kn) rE0 m 153 (20, 348, 3, .ref 16) := po20 h (pm348 kn) (tw11 (List.mem_of_getElem? (i := 219) rfl) rfl) (tw11 (List.mem_of_getElem? (i := 220) rfl) rfl) (tw11 (List.mem_of_getElem? (i := 221) rfl) rfl) rfl rfl
set_option maxRecDepth 100000 in
theorem pe1_156_20 (kn : List rM) {m : Nat} (h : (rE0.1 m).cls = "PackHouseModel") : rpo (rpar kn) rE0 m 156 (20, 450, 3, .ref 18) := po20 h (pm450 kn) (tw11 (List.mem_of_getElem? (i := 235) rfl) rfl) (tw11 (List.mem_of_getElem? (i := 236) rfl) rfl) (tw11 (List.mem_of_getElem? (i := 237) rfl) rfl) rfl rfl
set_option maxRecDepth 100000 in
theorem pe1_159_20 (kn : List rM) {m : Nat} (h : (rE0.1 m).cls = "PackHouseModel") : rpo (rpar kn) rE0 m 159 (20, 454, 1, .ref 18) := po20 h (pm454 kn) (tw13 (List.mem_of_getElem? (i := 21) rfl) rfl) (tw13 (List.mem_of_getElem? (i := 22) rfl) rfl) (tw13 (List.mem_of_getElem? (i := 23) rfl) rfl) rfl rfl
set_option maxRecDepth 100000 in
theorem pe1_162_20 (kn : List rM) {m : Nat} (h : (rE0.1 m).cls = "PackHouseModel") : rpo (rpar kn) rE0 m 162 (20, 79, 1, .ref 1) := po20 h (pm79 kn) (tw11 (List.mem_of_getElem? (i := 59) rfl) rfl) (tw11 (List.mem_of_getElem? (i := 61) rfl) rfl) (pw8 (List.mem_of_getElem? (i := 3) rfl)) rfl rfl
set_option maxRecDepth 100000 in
theorem pe1_165_20 (kn : List rM) {m : Nat} (h : (rE0.1 m).cls = "PackHouseModel") : rpo (rpar kn) rE0 m 165 (20, 89, 2, .ref 1) := po20 h (pm89 kn) (tw11 (List.mem_of_getElem? (i := 63) rfl) rfl) (tw11 (List.mem_of_getElem? (i := 64) rfl) rfl) (tw11 (List.mem_of_getElem? (i := 65) rfl) rfl) rfl rfl
set_option maxRecDepth 100000 in
theorem pe1_168_20 (kn : List rM) {m : Nat} (h : (rE0.1 m).cls = "PackHouseModel") : rpo (rpar kn) rE0 m 168 (20, 387, 2, .ref 18) := po20 h (pm387 kn) (tw11 (List.mem_of_getElem? (i := 68) rfl) rfl) (tw11 (List.mem_of_getElem? (i := 69) rfl) rfl) (tw11 (List.mem_of_getElem? (i := 70) rfl) rfl) rfl rfl
set_option maxRecDepth 100000 in
theorem pe1_172_20 (kn : List rM) {m : Nat} (h : (rE0.1 m).cls = "PackHouseModel") : rpo (rpar kn) rE0 m 172 (20, 80, 1, .ref 1) := po20 h (pm80 kn) (tw11 (List.mem_of_getElem? (i := 72) rfl) rfl) (tw11 (List.mem_of_getElem? (i := 74) rfl) rfl) (pw8 (List.mem_of_getElem? (i := 4) rfl)) rfl rfl
set_option maxRecDepth 100000 in
theorem pe1_175_0 (kn : List rM) {m : Nat} (h : (rE0.1 m).cls = "PackHouseModel") : rpo (rpar kn) rE0 m 175 (0, 1, 11, .ref 0) := po0 (C := "PackHouseModel") (T := FT1) (N := 13) (ty := fy1 11) h rfl (by decide) rfl (tw10 (List.mem_of_getElem? (i := 35) rfl) rfl) (fp1 11 (by decide)) rfl (fun _ => rfl) (fun a _ => absurd a (by decide))
set_option maxRecDepth 100000 in
theorem pe1_178_0 (kn : List rM) {m : Nat} (h : (rE0.1 m).cls = "PackHouseModel") : rpo (rpar kn) rE0 m 178 (0, 1, 10, .ref 0) := po0 (C := "PackHouseModel") (T := FT1) (N := 13) (ty := fy1 10) h rfl (by decide) rfl (tw10 (List.mem_of_getElem? (i := 34) rfl) rfl) (fp1 10 (by decide)) rfl (fun _ => rfl) (fun a _ => absurd a (by decide))
set_option maxRecDepth 100000 in
theorem pe1_181_20 (kn : List rM) {m : Nat} (h : (rE0.1 m).cls = "PackHouseModel") : rpo (rpar kn) rE0 m 181 (20, 82, 2, .ref 1) := po20 h (pm82 kn) (tw13 (List.mem_of_getElem? (i := 28) rfl) rfl) (tw13 (List.mem_of_getElem? (i := 30) rfl) rfl) (pw13 (List.mem_of_getElem? (i := 9) rfl)) rfl rfl
set_option maxRecDepth 100000 in
theorem pe1_184_20 (kn : List rM) {m : Nat} (h : (rE0.1 m).cls = "PackHouseModel") : rpo (rpar kn) rE0 m 184 (20, 75, 1, .ref 1) := po20 h (pm75 kn) (tw14 (List.mem_of_getElem? (i := 31) rfl) rfl) (tw14 (List.mem_of_getElem? (i := 33) rfl) rfl) (pw16 (List.mem_of_getElem? (i := 8) rfl)) rfl rfl
set_option maxRecDepth 100000 in
theorem pe1_187_20 (kn : List rM) {m : Nat} (h : (rE0.1 m).cls = "PackHouseModel") : rpo (rpar kn) rE0 m 187 (20, 83, 1, .ref 1) := po20 h (pm83 kn) (tw13 (List.mem_of_getElem? (i := 32) rfl) rfl) (tw13 (List.mem_of_getElem? (i := 34) rfl) rfl) (pw13 (List.mem_of_getElem? (i := 10) rfl)) rfl rfl
set_option maxRecDepth 100000 in
theorem pe1_190_20 (kn : List rM) {m : Nat} (h : (rE0.1 m).cls = "PackHouseModel") : rpo (rpar kn) rE0 m 190 (20, 84, 2, .ref 1) := po20 h (pm84 kn) (tw13 (List.mem_of_getElem? (i := 36) rfl) rfl) (tw13 (List.mem_of_getElem? (i := 38) rfl) rfl) (pw13 (List.mem_of_getElem? (i := 11) rfl)) rfl rfl
set_option maxRecDepth 100000 in
theorem pe1_193_1 (kn : List rM) {m : Nat} (h : (rE0.1 m).cls = "PackHouseModel") : rpo (rpar kn) rE0 m 193 (1, 14, 32, .ref 0) := po1 (C := "PackHouseModel$Reader") (T := FT14) (N := 47) (ty := fy14 32) h rfl (by decide) rfl (tn8 (List.mem_of_getElem? (i := 203) rfl) rfl) (fp14 32 (by decide)) rfl (fun _ => rfl) (fun a _ => absurd a (by decide)) (by decide)
set_option maxRecDepth 100000 in
theorem pe1_196_1 (kn : List rM) {m : Nat} (h : (rE0.1 m).cls = "PackHouseModel") : rpo (rpar kn) rE0 m 196 (1, 14, 33, .ref 0) := po1 (C := "PackHouseModel$Reader") (T := FT14) (N := 47) (ty := fy14 33) h rfl (by decide) rfl (tn8 (List.mem_of_getElem? (i := 205) rfl) rfl) (fp14 33 (by decide)) rfl (fun _ => rfl) (fun a _ => absurd a (by decide)) (by decide)
set_option maxRecDepth 100000 in
theorem pe1_199_1 (kn : List rM) {m : Nat} (h : (rE0.1 m).cls = "PackHouseModel") : rpo (rpar kn) rE0 m 199 (1, 14, 34, .ref 0) := po1 (C := "PackHouseModel$Reader") (T := FT14) (N := 47) (ty := fy14 34) h rfl (by decide) rfl (tn8 (List.mem_of_getElem? (i := 207) rfl) rfl) (fp14 34 (by decide)) rfl (fun _ => rfl) (fun a _ => absurd a (by decide)) (by decide)
set_option maxRecDepth 100000 in
theorem pe1_202_1 (kn : List rM) {m : Nat} (h : (rE0.1 m).cls = "PackHouseModel") : rpo (rpar kn) rE0 m 202 (1, 14, 27, .ref 0) := po1 (C := "PackHouseModel$Reader") (T := FT14) (N := 47) (ty := fy14 27) h rfl (by decide) rfl (tn8 (List.mem_of_getElem? (i := 196) rfl) rfl) (fp14 27 (by decide)) rfl (fun _ => rfl) (fun a _ => absurd a (by decide)) (by decide)
set_option maxRecDepth 100000 in
theorem pe1_205_1 (kn : List rM) {m : Nat} (h : (rE0.1 m).cls = "PackHouseModel") : rpo (rpar kn) rE0 m 205 (1, 14, 36, .ref 0) := po1 (C := "PackHouseModel$Reader") (T := FT14) (N := 47) (ty := fy14 36) h rfl (by decide) rfl (tn8 (List.mem_of_getElem? (i := 210) rfl) rfl) (fp14 36 (by decide)) rfl (fun _ => rfl) (fun a _ => absurd a (by decide)) (by decide)
set_option maxRecDepth 100000 in
theorem pe1_208_20 (kn : List rM) {m : Nat} (h : (rE0.1 m).cls = "PackHouseModel") : rpo (rpar kn) rE0 m 208 (20, 374, 1, .ref 17) := po20 h (pm374 kn) (tw13 (List.mem_of_getElem? (i := 40) rfl) rfl) (tw13 (List.mem_of_getElem? (i := 41) rfl) rfl) (tw13 (List.mem_of_getElem? (i := 42) rfl) rfl) rfl rfl
set_option maxRecDepth 100000 in
theorem pe1_211_20 (kn : List rM) {m : Nat} (h : (rE0.1 m).cls = "PackHouseModel") : rpo (rpar kn) rE0 m 211 (20, 385, 1, .ref 17) := po20 h (pm385 kn) (tw13 (List.mem_of_getElem? (i := 56) rfl) rfl) (tw13 (List.mem_of_getElem? (i := 57) rfl) rfl) (tw13 (List.mem_of_getElem? (i := 58) rfl) rfl) rfl rfl
set_option maxRecDepth 100000 in
theorem pe1_214_20 (kn : List rM) {m : Nat} (h : (rE0.1 m).cls = "PackHouseModel") : rpo (rpar kn) rE0 m 214 (20, 344, 1, .ref 16) := po20 h (pm344 kn) (tw13 (List.mem_of_getElem? (i := 86) rfl) rfl) (tw13 (List.mem_of_getElem? (i := 87) rfl) rfl) (tw13 (List.mem_of_getElem? (i := 88) rfl) rfl) rfl rfl
set_option maxRecDepth 100000 in
theorem pe1_217_20 (kn : List rM) {m : Nat} (h : (rE0.1 m).cls = "PackHouseModel") : rpo (rpar kn) rE0 m 217 (20, 352, 1, .ref 16) := po20 h (pm352 kn) (tw13 (List.mem_of_getElem? (i := 132) rfl) rfl) (tw13 (List.mem_of_getElem? (i := 133) rfl) rfl) (tw13 (List.mem_of_getElem? (i := 134) rfl) rfl) rfl rfl
set_option maxRecDepth 100000 in
theorem pe1_220_20 (kn : List rM) {m : Nat} (h : (rE0.1 m).cls = "PackHouseModel") : rpo (rpar kn) rE0 m 220 (20, 284, 1, .ref 14) := po20 h (pm284 kn) (tw13 (List.mem_of_getElem? (i := 149) rfl) rfl) (tw13 (List.mem_of_getElem? (i := 150) rfl) rfl) (tw13 (List.mem_of_getElem? (i := 151) rfl) rfl) rfl rfl
set_option maxRecDepth 100000 in
theorem pe1_223_1 (kn : List rM) {m : Nat} (h : (rE0.1 m).cls = "PackHouseModel") : rpo (rpar kn) rE0 m 223 (1, 14, 31, .ref 0) := po1 (C := "PackHouseModel$Reader") (T := FT14) (N := 47) (ty := fy14 31) h rfl (by decide) rfl (tn8 (List.mem_of_getElem? (i := 202) rfl) rfl) (fp14 31 (by decide)) rfl (fun _ => rfl) (fun a _ => absurd a (by decide)) (by decide)
set_option maxRecDepth 100000 in
theorem pe1_226_1 (kn : List rM) {m : Nat} (h : (rE0.1 m).cls = "PackHouseModel") : rpo (rpar kn) rE0 m 226 (1, 13, 4, .ref 0) := po1 (C := "PackHouseModel$Desk") (T := FT13) (N := 5) (ty := fy13 4) h rfl (by decide) rfl (tn8 (List.mem_of_getElem? (i := 20) rfl) rfl) (fp13 4 (by decide)) rfl (fun _ => rfl) (fun a _ => absurd a (by decide)) (by decide)
set_option maxRecDepth 100000 in
theorem pe1_229_0 (kn : List rM) {m : Nat} (h : (rE0.1 m).cls = "PackHouseModel") : rpo (rpar kn) rE0 m 229 (0, 1, 9, .ref 0) := po0 (C := "PackHouseModel") (T := FT1) (N := 13) (ty := fy1 9) h rfl (by decide) rfl (tw10 (List.mem_of_getElem? (i := 33) rfl) rfl) (fp1 9 (by decide)) rfl (fun _ => rfl) (fun a _ => absurd a (by decide))
set_option maxRecDepth 100000 in
theorem pe1_230_20 (kn : List rM) {m : Nat} (h : (rE0.1 m).cls = "PackHouseModel") : rpo (rpar kn) rE0 m 230 (20, 86, 6, .ref 1) := po20 h (pm86 kn) (tw14 (List.mem_of_getElem? (i := 43) rfl) rfl) (tw14 (List.mem_of_getElem? (i := 45) rfl) rfl) (pw16 (List.mem_of_getElem? (i := 9) rfl)) rfl rfl
set_option maxRecDepth 100000 in
theorem pe1_234_20 (kn : List rM) {m : Nat} (h : (rE0.1 m).cls = "PackHouseModel") : rpo (rpar kn) rE0 m 234 (20, 87, 1, .ref 1) := po20 h (pm87 kn) (tw14 (List.mem_of_getElem? (i := 51) rfl) rfl) (tw14 (List.mem_of_getElem? (i := 40) rfl) rfl) (tw14 (List.mem_of_getElem? (i := 41) rfl) rfl) rfl rfl
set_option maxRecDepth 100000 in
theorem pe1_237_20 (kn : List rM) {m : Nat} (h : (rE0.1 m).cls = "PackHouseModel") : rpo (rpar kn) rE0 m 237 (20, 85, 4, .ref 1) := po20 h (pm85 kn) (tw14 (List.mem_of_getElem? (i := 52) rfl) rfl) (tw14 (List.mem_of_getElem? (i := 36) rfl) rfl) (tw14 (List.mem_of_getElem? (i := 37) rfl) rfl) rfl rfl
set_option maxRecDepth 100000 in
theorem pe1_240_10 (kn : List rM) {m : Nat} (h : (rE0.1 m).cls = "PackHouseModel") : rpo (rpar kn) rE0 m 240 (10, 0, 0, .int (131072)) := po10 h (tw11 (List.mem_of_getElem? (i := 67) rfl) rfl)
set_option maxRecDepth 100000 in
theorem pe1_241_1 (kn : List rM) {m : Nat} (h : (rE0.1 m).cls = "PackHouseModel") : rpo (rpar kn) rE0 m 241 (1, 18, 58, .ref 19) := po1 (C := "PackHouseModel$Writer") (T := FT18) (N := 59) (ty := fy18 58) h rfl (by decide) rfl (tn9 (List.mem_of_getElem? (i := 142) rfl) rfl) (fp18 58 (by decide)) rfl (fun a => absurd a (by decide)) (fun _ b => absurd b (by decide)) (by decide)
set_option maxRecDepth 100000 in
theorem pe1_244_1 (kn : List rM) {m : Nat} (h : (rE0.1 m).cls = "PackHouseModel") : rpo (rpar kn) rE0 m 244 (1, 14, 3, .ref 0) := po1 (C := "PackHouseModel$Reader") (T := FT14) (N := 47) (ty := fy14 3) h rfl (by decide) rfl (tn8 (List.mem_of_getElem? (i := 167) rfl) rfl) (fp14 3 (by decide)) rfl (fun _ => rfl) (fun a _ => absurd a (by decide)) (by decide)
set_option maxRecDepth 100000 in
theorem pl1 (kn : List rM) {m : Nat} (h : (rE0.1 m).cls = "PackHouseModel") : ∀ q ∈ pool_1, rpo (rpar kn) rE0 m q.1 q.2 := List.forall_mem_cons.mpr ⟨pe1_1_26 kn h, List.forall_mem_cons.mpr ⟨pe1_7_10 kn h, List.forall_mem_cons.mpr ⟨pe1_8_0 kn h, List.forall_mem_cons.mpr ⟨pe1_14_0 kn h, List.forall_mem_cons.mpr ⟨pe1_17_12 kn h, List.forall_mem_cons.mpr ⟨pe1_19_23 kn h, List.forall_mem_cons.mpr ⟨pe1_20_0 kn h, List.forall_mem_cons.mpr ⟨pe1_24_12 kn h, List.forall_mem_cons.mpr ⟨pe1_26_22 kn h, List.forall_mem_cons.mpr ⟨pe1_29_0 kn h, List.forall_mem_cons.mpr ⟨pe1_33_12 kn h, List.forall_mem_cons.mpr ⟨pe1_35_22 kn h, List.forall_mem_cons.mpr ⟨pe1_38_0 kn h, List.forall_mem_cons.mpr ⟨pe1_42_12 kn h, List.forall_mem_cons.mpr ⟨pe1_44_22 kn h, List.forall_mem_cons.mpr ⟨pe1_45_0 kn h, List.forall_mem_cons.mpr ⟨pe1_49_12 kn h, List.forall_mem_cons.mpr ⟨pe1_51_22 kn h, List.forall_mem_cons.mpr ⟨pe1_52_0 kn h, List.forall_mem_cons.mpr ⟨pe1_56_12 kn h, List.forall_mem_cons.mpr ⟨pe1_58_22 kn h, List.forall_mem_cons.mpr ⟨pe1_59_0 kn h, List.forall_mem_cons.mpr ⟨pe1_63_0 kn h, List.forall_mem_cons.mpr ⟨pe1_66_0 kn h, List.forall_mem_cons.mpr ⟨pe1_69_10 kn h, List.forall_mem_cons.mpr ⟨pe1_70_24 kn h, List.forall_mem_cons.mpr ⟨pe1_74_20 kn h, List.forall_mem_cons.mpr ⟨pe1_78_20 kn h, List.forall_mem_cons.mpr ⟨pe1_82_24 kn h, List.forall_mem_cons.mpr ⟨pe1_85_24 kn h, List.forall_mem_cons.mpr ⟨pe1_88_20 kn h, List.forall_mem_cons.mpr ⟨pe1_92_21 kn h, List.forall_mem_cons.mpr ⟨pe1_96_21 kn h, List.forall_mem_cons.mpr ⟨pe1_100_20 kn h, List.forall_mem_cons.mpr ⟨pe1_104_10 kn h, List.forall_mem_cons.mpr ⟨pe1_105_1 kn h, List.forall_mem_cons.mpr ⟨pe1_108_1 kn h, List.forall_mem_cons.mpr ⟨pe1_112_1 kn h, List.forall_mem_cons.mpr ⟨pe1_115_1 kn h, List.forall_mem_cons.mpr ⟨pe1_118_20 kn h, List.forall_mem_cons.mpr ⟨pe1_121_20 kn h, List.forall_mem_cons.mpr ⟨pe1_124_20 kn h, List.forall_mem_cons.mpr ⟨pe1_128_20 kn h, List.forall_mem_cons.mpr ⟨pe1_132_20 kn h, List.forall_mem_cons.mpr ⟨pe1_135_20 kn h, List.forall_mem_cons.mpr ⟨pe1_136_1 kn h, List.forall_mem_cons.mpr ⟨pe1_139_1 kn h, List.forall_mem_cons.mpr ⟨pe1_142_20 kn h, List.forall_mem_cons.mpr ⟨pe1_146_20 kn h, List.forall_mem_cons.mpr ⟨pe1_150_20 kn h, List.forall_mem_cons.mpr ⟨pe1_153_20 kn h, List.forall_mem_cons.mpr ⟨pe1_156_20 kn h, List.forall_mem_cons.mpr ⟨pe1_159_20 kn h, List.forall_mem_cons.mpr ⟨pe1_162_20 kn h, List.forall_mem_cons.mpr ⟨pe1_165_20 kn h, List.forall_mem_cons.mpr ⟨pe1_168_20 kn h, List.forall_mem_cons.mpr ⟨pe1_172_20 kn h, List.forall_mem_cons.mpr ⟨pe1_175_0 kn h, List.forall_mem_cons.mpr ⟨pe1_178_0 kn h, List.forall_mem_cons.mpr ⟨pe1_181_20 kn h, List.forall_mem_cons.mpr ⟨pe1_184_20 kn h, List.forall_mem_cons.mpr ⟨pe1_187_20 kn h, List.forall_mem_cons.mpr ⟨pe1_190_20 kn h, List.forall_mem_cons.mpr ⟨pe1_193_1 kn h, List.forall_mem_cons.mpr ⟨pe1_196_1 kn h, List.forall_mem_cons.mpr ⟨pe1_199_1 kn h, List.forall_mem_cons.mpr ⟨pe1_202_1 kn h, List.forall_mem_cons.mpr ⟨pe1_205_1 kn h, List.forall_mem_cons.mpr ⟨pe1_208_20 kn h, List.forall_mem_cons.mpr ⟨pe1_211_20 kn h, List.forall_mem_cons.mpr ⟨pe1_214_20 kn h, List.forall_mem_cons.mpr ⟨pe1_217_20 kn h, List.forall_mem_cons.mpr ⟨pe1_220_20 kn h, List.forall_mem_cons.mpr ⟨pe1_223_1 kn h, List.forall_mem_cons.mpr ⟨pe1_226_1 kn h, List.forall_mem_cons.mpr ⟨pe1_229_0 kn h, List.forall_mem_cons.mpr ⟨pe1_230_20 kn h, List.forall_mem_cons.mpr ⟨pe1_234_20 kn h, List.forall_mem_cons.mpr ⟨pe1_237_20 kn h, List.forall_mem_cons.mpr ⟨pe1_240_10 kn h, List.forall_mem_cons.mpr ⟨pe1_241_1 kn h, List.forall_mem_cons.mpr ⟨pe1_244_1 kn h, (fun _ h => absurd h List.not_mem_nil)⟩⟩⟩⟩⟩⟩⟩⟩⟩⟩⟩⟩⟩⟩⟩⟩⟩⟩⟩⟩⟩⟩⟩⟩⟩⟩⟩⟩⟩⟩⟩⟩⟩⟩⟩⟩⟩⟩⟩⟩⟩⟩⟩⟩⟩⟩⟩⟩⟩⟩⟩⟩⟩⟩⟩⟩⟩⟩⟩⟩⟩⟩⟩⟩⟩⟩⟩⟩⟩⟩⟩⟩⟩⟩⟩⟩⟩⟩⟩⟩⟩⟩
set_option maxRecDepth 100000 in
theorem pe2_1_26 (kn : List rM) {m : Nat} (h : (rE0.1 m).cls = "PackHouse$BitSource") : rpo (rpar kn) rE0 m 1 (26, 0, 0, .null) := po26 h (tw2 (List.mem_of_getElem? (i := 213) rfl) rfl)
set_option maxRecDepth 100000 in
theorem pe2_7_0 (kn : List rM) {m : Nat} (h : (rE0.1 m).cls = "PackHouse$BitSource") : rpo (rpar kn) rE0 m 7 (0, 2, 0, .ref 3) := po0 (C := "PackHouse$BitSource") (T := FT2) (N := 3) (ty := fy2 0) h rfl (by decide) rfl (tw2 (List.mem_of_getElem? (i := 214) rfl) rfl) (fp2 0 (by decide)) rfl (fun _ => rfl) (fun a _ => absurd a (by decide))
set_option maxRecDepth 100000 in
theorem pe2_13_0 (kn : List rM) {m : Nat} (h : (rE0.1 m).cls = "PackHouse$BitSource") : rpo (rpar kn) rE0 m 13 (0, 2, 1, .ref 0) := po0 (C := "PackHouse$BitSource") (T := FT2) (N := 3) (ty := fy2 1) h rfl (by decide) rfl (tw2 (List.mem_of_getElem? (i := 215) rfl) rfl) (fp2 1 (by decide)) rfl (fun _ => rfl) (fun a _ => absurd a (by decide))
set_option maxRecDepth 100000 in
theorem pe2_17_0 (kn : List rM) {m : Nat} (h : (rE0.1 m).cls = "PackHouse$BitSource") : rpo (rpar kn) rE0 m 17 (0, 2, 2, .ref 0) := po0 (C := "PackHouse$BitSource") (T := FT2) (N := 3) (ty := fy2 2) h rfl (by decide) rfl (tw2 (List.mem_of_getElem? (i := 216) rfl) rfl) (fp2 2 (by decide)) rfl (fun _ => rfl) (fun a _ => absurd a (by decide))
set_option maxRecDepth 100000 in
theorem pe2_20_25 (kn : List rM) {m : Nat} (h : (rE0.1 m).cls = "PackHouse$BitSource") : rpo (rpar kn) rE0 m 20 (25, 45, 1, .null) := po25 h (pm45 kn) (tn3 (List.mem_of_getElem? (i := 74) rfl) rfl) (tw3 (List.mem_of_getElem? (i := 75) rfl) rfl)
set_option maxRecDepth 100000 in
theorem pe2_26_20 (kn : List rM) {m : Nat} (h : (rE0.1 m).cls = "PackHouse$BitSource") : rpo (rpar kn) rE0 m 26 (20, 94, 1, .ref 2) := po20 h (pm94 kn) (tw3 (List.mem_of_getElem? (i := 81) rfl) rfl) (tw3 (List.mem_of_getElem? (i := 82) rfl) rfl) (tw3 (List.mem_of_getElem? (i := 83) rfl) rfl) rfl rfl
set_option maxRecDepth 100000 in
theorem pl2 (kn : List rM) {m : Nat} (h : (rE0.1 m).cls = "PackHouse$BitSource") : ∀ q ∈ pool_2, rpo (rpar kn) rE0 m q.1 q.2 := List.forall_mem_cons.mpr ⟨pe2_1_26 kn h, List.forall_mem_cons.mpr ⟨pe2_7_0 kn h, List.forall_mem_cons.mpr ⟨pe2_13_0 kn h, List.forall_mem_cons.mpr ⟨pe2_17_0 kn h, List.forall_mem_cons.mpr ⟨pe2_20_25 kn h, List.forall_mem_cons.mpr ⟨pe2_26_20 kn h, (fun _ h => absurd h List.not_mem_nil)⟩⟩⟩⟩⟩⟩
set_option maxRecDepth 100000 in
theorem pe3_3_26 (kn : List rM) {m : Nat} (h : (rE0.1 m).cls = "PackHouse$Codes") : rpo (rpar kn) rE0 m 3 (26, 0, 0, .null) := po26 h (tw2 (List.mem_of_getElem? (i := 156) rfl) rfl)
set_option maxRecDepth 100000 in
theorem pe3_11_0 (kn : List rM) {m : Nat} (h : (rE0.1 m).cls = "PackHouse$Codes") : rpo (rpar kn) rE0 m 11 (0, 3, 0, .ref 11) := po0 (C := "PackHouse$Codes") (T := FT3) (N := 17) (ty := fy3 0) h rfl (by decide) rfl (tw2 (List.mem_of_getElem? (i := 226) rfl) rfl) (fp3 0 (by decide)) rfl (fun a => absurd a (by decide)) (fun _ _ => ⟨rfl, rfl⟩)
set_option maxRecDepth 100000 in
theorem pe3_15_0 (kn : List rM) {m : Nat} (h : (rE0.1 m).cls = "PackHouse$Codes") : rpo (rpar kn) rE0 m 15 (0, 3, 1, .ref 11) := po0 (C := "PackHouse$Codes") (T := FT3) (N := 17) (ty := fy3 1) h rfl (by decide) rfl (tw2 (List.mem_of_getElem? (i := 227) rfl) rfl) (fp3 1 (by decide)) rfl (fun a => absurd a (by decide)) (fun _ _ => ⟨rfl, rfl⟩)
set_option maxRecDepth 100000 in
theorem pe3_18_0 (kn : List rM) {m : Nat} (h : (rE0.1 m).cls = "PackHouse$Codes") : rpo (rpar kn) rE0 m 18 (0, 3, 2, .ref 11) := po0 (C := "PackHouse$Codes") (T := FT3) (N := 17) (ty := fy3 2) h rfl (by decide) rfl (tw2 (List.mem_of_getElem? (i := 228) rfl) rfl) (fp3 2 (by decide)) rfl (fun a => absurd a (by decide)) (fun _ _ => ⟨rfl, rfl⟩)
set_option maxRecDepth 100000 in
theorem pe3_21_0 (kn : List rM) {m : Nat} (h : (rE0.1 m).cls = "PackHouse$Codes") : rpo (rpar kn) rE0 m 21 (0, 3, 4, .ref 11) := po0 (C := "PackHouse$Codes") (T := FT3) (N := 17) (ty := fy3 4) h rfl (by decide) rfl (tw2 (List.mem_of_getElem? (i := 230) rfl) rfl) (fp3 4 (by decide)) rfl (fun a => absurd a (by decide)) (fun _ _ => ⟨rfl, rfl⟩)
set_option maxRecDepth 100000 in
theorem pe3_24_0 (kn : List rM) {m : Nat} (h : (rE0.1 m).cls = "PackHouse$Codes") : rpo (rpar kn) rE0 m 24 (0, 3, 5, .ref 11) := po0 (C := "PackHouse$Codes") (T := FT3) (N := 17) (ty := fy3 5) h rfl (by decide) rfl (tw2 (List.mem_of_getElem? (i := 231) rfl) rfl) (fp3 5 (by decide)) rfl (fun a => absurd a (by decide)) (fun _ _ => ⟨rfl, rfl⟩)
set_option maxRecDepth 100000 in
theorem pe3_27_12 (kn : List rM) {m : Nat} (h : (rE0.1 m).cls = "PackHouse$Codes") : rpo (rpar kn) rE0 m 27 (12, 8, 13, .null) := po12 (T := FT8) h rfl (tw2 (List.mem_of_getElem? (i := 157) rfl) rfl) (tw2 (List.mem_of_getElem? (i := 158) rfl) rfl) (tw1 (List.mem_of_getElem? (i := 17) rfl) rfl)
set_option maxRecDepth 100000 in
theorem pe3_29_22 (kn : List rM) {m : Nat} (h : (rE0.1 m).cls = "PackHouse$Codes") : rpo (rpar kn) rE0 m 29 (22, 166, 2, .ref 8) := po22 h (pm166 kn) (tw2 (List.mem_of_getElem? (i := 159) rfl) rfl) (tw2 (List.mem_of_getElem? (i := 160) rfl) rfl) rfl rfl
set_option maxRecDepth 100000 in
theorem pe3_32_0 (kn : List rM) {m : Nat} (h : (rE0.1 m).cls = "PackHouse$Codes") : rpo (rpar kn) rE0 m 32 (0, 3, 6, .ref 11) := po0 (C := "PackHouse$Codes") (T := FT3) (N := 17) (ty := fy3 6) h rfl (by decide) rfl (tw2 (List.mem_of_getElem? (i := 232) rfl) rfl) (fp3 6 (by decide)) rfl (fun a => absurd a (by decide)) (fun _ _ => ⟨rfl, rfl⟩)
set_option maxRecDepth 100000 in
theorem pe3_36_12 (kn : List rM) {m : Nat} (h : (rE0.1 m).cls = "PackHouse$Codes") : rpo (rpar kn) rE0 m 36 (12, 7, 5, .null) := po12 (T := FT7) h rfl (tw2 (List.mem_of_getElem? (i := 206) rfl) rfl) (tw1 (List.mem_of_getElem? (i := 33) rfl) rfl) (tw1 (List.mem_of_getElem? (i := 2) rfl) rfl)
set_option maxRecDepth 100000 in
theorem pe3_38_23 (kn : List rM) {m : Nat} (h : (rE0.1 m).cls = "PackHouse$Codes") : rpo (rpar kn) rE0 m 38 (23, 155, 0, .ref 7) := po23 h (pm155 kn) (ztn2 (List.mem_of_getElem? (i := 207) rfl) rfl) (tw1 (List.mem_of_getElem? (i := 35) rfl) rfl) rfl rfl
set_option maxRecDepth 100000 in
theorem pe3_39_0 (kn : List rM) {m : Nat} (h : (rE0.1 m).cls = "PackHouse$Codes") : rpo (rpar kn) rE0 m 39 (0, 3, 7, .ref 11) := po0 (C := "PackHouse$Codes") (T := FT3) (N := 17) (ty := fy3 7) h rfl (by decide) rfl (tw2 (List.mem_of_getElem? (i := 233) rfl) rfl) (fp3 7 (by decide)) rfl (fun a => absurd a (by decide)) (fun _ _ => ⟨rfl, rfl⟩)
set_option maxRecDepth 100000 in
theorem pe3_43_0 (kn : List rM) {m : Nat} (h : (rE0.1 m).cls = "PackHouse$Codes") : rpo (rpar kn) rE0 m 43 (0, 3, 8, .ref 11) := po0 (C := "PackHouse$Codes") (T := FT3) (N := 17) (ty := fy3 8) h rfl (by decide) rfl (tw2 (List.mem_of_getElem? (i := 234) rfl) rfl) (fp3 8 (by decide)) rfl (fun a => absurd a (by decide)) (fun _ _ => ⟨rfl, rfl⟩)
set_option maxRecDepth 100000 in
theorem pe3_46_12 (kn : List rM) {m : Nat} (h : (rE0.1 m).cls = "PackHouse$Codes") : rpo (rpar kn) rE0 m 46 (12, 2, 3, .null) := po12 (T := FT2) h rfl (tw2 (List.mem_of_getElem? (i := 208) rfl) rfl) (tw2 (List.mem_of_getElem? (i := 209) rfl) rfl) (tw1 (List.mem_of_getElem? (i := 18) rfl) rfl)
set_option maxRecDepth 100000 in
theorem pe3_48_23 (kn : List rM) {m : Nat} (h : (rE0.1 m).cls = "PackHouse$Codes") : rpo (rpar kn) rE0 m 48 (23, 92, 0, .ref 2) := po23 h (pm92 kn) (ztn2 (List.mem_of_getElem? (i := 210) rfl) rfl) (tw2 (List.mem_of_getElem? (i := 211) rfl) rfl) rfl rfl
set_option maxRecDepth 100000 in
theorem pe3_49_0 (kn : List rM) {m : Nat} (h : (rE0.1 m).cls = "PackHouse$Codes") : rpo (rpar kn) rE0 m 49 (0, 3, 9, .ref 11) := po0 (C := "PackHouse$Codes") (T := FT3) (N := 17) (ty := fy3 9) h rfl (by decide) rfl (tw2 (List.mem_of_getElem? (i := 235) rfl) rfl) (fp3 9 (by decide)) rfl (fun a => absurd a (by decide)) (fun _ _ => ⟨rfl, rfl⟩)
set_option maxRecDepth 100000 in
theorem pe3_53_0 (kn : List rM) {m : Nat} (h : (rE0.1 m).cls = "PackHouse$Codes") : rpo (rpar kn) rE0 m 53 (0, 3, 10, .ref 11) := po0 (C := "PackHouse$Codes") (T := FT3) (N := 17) (ty := fy3 10) h rfl (by decide) rfl (tw2 (List.mem_of_getElem? (i := 236) rfl) rfl) (fp3 10 (by decide)) rfl (fun a => absurd a (by decide)) (fun _ _ => ⟨rfl, rfl⟩)
set_option maxRecDepth 100000 in
theorem pe3_56_0 (kn : List rM) {m : Nat} (h : (rE0.1 m).cls = "PackHouse$Codes") : rpo (rpar kn) rE0 m 56 (0, 3, 11, .ref 11) := po0 (C := "PackHouse$Codes") (T := FT3) (N := 17) (ty := fy3 11) h rfl (by decide) rfl (tw2 (List.mem_of_getElem? (i := 237) rfl) rfl) (fp3 11 (by decide)) rfl (fun a => absurd a (by decide)) (fun _ _ => ⟨rfl, rfl⟩)
set_option maxRecDepth 100000 in
theorem pe3_59_0 (kn : List rM) {m : Nat} (h : (rE0.1 m).cls = "PackHouse$Codes") : rpo (rpar kn) rE0 m 59 (0, 3, 12, .ref 11) := po0 (C := "PackHouse$Codes") (T := FT3) (N := 17) (ty := fy3 12) h rfl (by decide) rfl (tw2 (List.mem_of_getElem? (i := 238) rfl) rfl) (fp3 12 (by decide)) rfl (fun a => absurd a (by decide)) (fun _ _ => ⟨rfl, rfl⟩)
set_option maxRecDepth 100000 in
theorem pe3_62_0 (kn : List rM) {m : Nat} (h : (rE0.1 m).cls = "PackHouse$Codes") : rpo (rpar kn) rE0 m 62 (0, 3, 3, .ref 0) := po0 (C := "PackHouse$Codes") (T := FT3) (N := 17) (ty := fy3 3) h rfl (by decide) rfl (tw2 (List.mem_of_getElem? (i := 229) rfl) rfl) (fp3 3 (by decide)) rfl (fun _ => rfl) (fun a _ => absurd a (by decide))
set_option maxRecDepth 100000 in
theorem pe3_66_20 (kn : List rM) {m : Nat} (h : (rE0.1 m).cls = "PackHouse$Codes") : rpo (rpar kn) rE0 m 66 (20, 99, 2, .ref 3) := po20 h (pm99 kn) (tw5 (List.mem_of_getElem? (i := 149) rfl) rfl) (tw5 (List.mem_of_getElem? (i := 151) rfl) rfl) (pw2 (List.mem_of_getElem? (i := 14) rfl)) rfl rfl
set_option maxRecDepth 100000 in
theorem pe3_70_20 (kn : List rM) {m : Nat} (h : (rE0.1 m).cls = "PackHouse$Codes") : rpo (rpar kn) rE0 m 70 (20, 100, 0, .ref 3) := po20 h (pm100 kn) (tw5 (List.mem_of_getElem? (i := 156) rfl) rfl) (tw5 (List.mem_of_getElem? (i := 158) rfl) rfl) (pw2 (List.mem_of_getElem? (i := 15) rfl)) rfl rfl
set_option maxRecDepth 100000 in
theorem pe3_73_20 (kn : List rM) {m : Nat} (h : (rE0.1 m).cls = "PackHouse$Codes") : rpo (rpar kn) rE0 m 73 (20, 102, 0, .ref 3) := po20 h (pm102 kn) (tw5 (List.mem_of_getElem? (i := 164) rfl) rfl) (tw5 (List.mem_of_getElem? (i := 166) rfl) rfl) (pw3 (List.mem_of_getElem? (i := 1) rfl)) rfl rfl
set_option maxRecDepth 100000 in
theorem pe3_76_0 (kn : List rM) {m : Nat} (h : (rE0.1 m).cls = "PackHouse$Codes") : rpo (rpar kn) rE0 m 76 (0, 3, 14, .ref 0) := po0 (C := "PackHouse$Codes") (T := FT3) (N := 17) (ty := fy3 14) h rfl (by decide) rfl (tw3 (List.mem_of_getElem? (i := 0) rfl) rfl) (fp3 14 (by decide)) rfl (fun _ => rfl) (fun a _ => absurd a (by decide))
set_option maxRecDepth 100000 in
theorem pe3_79_24 (kn : List rM) {m : Nat} (h : (rE0.1 m).cls = "PackHouse$Codes") : rpo (rpar kn) rE0 m 79 (24, 98, 2, .null) := po24 h (pm98 kn) (tw5 (List.mem_of_getElem? (i := 153) rfl) rfl) (tw5 (List.mem_of_getElem? (i := 154) rfl) rfl)
set_option maxRecDepth 100000 in
theorem pe3_83_0 (kn : List rM) {m : Nat} (h : (rE0.1 m).cls = "PackHouse$Codes") : rpo (rpar kn) rE0 m 83 (0, 3, 13, .ref 0) := po0 (C := "PackHouse$Codes") (T := FT3) (N := 17) (ty := fy3 13) h rfl (by decide) rfl (tw2 (List.mem_of_getElem? (i := 239) rfl) rfl) (fp3 13 (by decide)) rfl (fun _ => rfl) (fun a _ => absurd a (by decide))
set_option maxRecDepth 100000 in
theorem pe3_86_0 (kn : List rM) {m : Nat} (h : (rE0.1 m).cls = "PackHouse$Codes") : rpo (rpar kn) rE0 m 86 (0, 3, 15, .ref 0) := po0 (C := "PackHouse$Codes") (T := FT3) (N := 17) (ty := fy3 15) h rfl (by decide) rfl (tw3 (List.mem_of_getElem? (i := 1) rfl) rfl) (fp3 15 (by decide)) rfl (fun _ => rfl) (fun a _ => absurd a (by decide))
set_option maxRecDepth 100000 in
theorem pe3_89_0 (kn : List rM) {m : Nat} (h : (rE0.1 m).cls = "PackHouse$Codes") : rpo (rpar kn) rE0 m 89 (0, 3, 16, .ref 0) := po0 (C := "PackHouse$Codes") (T := FT3) (N := 17) (ty := fy3 16) h rfl (by decide) rfl (tw3 (List.mem_of_getElem? (i := 2) rfl) rfl) (fp3 16 (by decide)) rfl (fun _ => rfl) (fun a _ => absurd a (by decide))
set_option maxRecDepth 100000 in
theorem pe3_92_20 (kn : List rM) {m : Nat} (h : (rE0.1 m).cls = "PackHouse$Codes") : rpo (rpar kn) rE0 m 92 (20, 101, 0, .ref 3) := po20 h (pm101 kn) (tw5 (List.mem_of_getElem? (i := 160) rfl) rfl) (tw5 (List.mem_of_getElem? (i := 162) rfl) rfl) (pw3 (List.mem_of_getElem? (i := 0) rfl)) rfl rfl
set_option maxRecDepth 100000 in
theorem pe3_96_28 (kn : List rM) {m : Nat} (h : (rE0.1 m).cls = "PackHouse$Codes") : rpo (rpar kn) rE0 m 96 (28, 0, 0, .null) := po28 h (tw3 (List.mem_of_getElem? (i := 103) rfl) rfl)
set_option maxRecDepth 100000 in
theorem pe3_101_29 (kn : List rM) {m : Nat} (h : (rE0.1 m).cls = "PackHouse$Codes") : rpo (rpar kn) rE0 m 101 (29, 0, 0, .null) := po29 h (tw5 (List.mem_of_getElem? (i := 168) rfl) rfl)
set_option maxRecDepth 100000 in
theorem pe3_106_24 (kn : List rM) {m : Nat} (h : (rE0.1 m).cls = "PackHouse$Codes") : rpo (rpar kn) rE0 m 106 (24, 459, 4, .null) := po24 h (pm459 kn) (tw3 (List.mem_of_getElem? (i := 108) rfl) rfl) (tw3 (List.mem_of_getElem? (i := 109) rfl) rfl)
set_option maxRecDepth 100000 in
theorem pe3_109_20 (kn : List rM) {m : Nat} (h : (rE0.1 m).cls = "PackHouse$Codes") : rpo (rpar kn) rE0 m 109 (20, 106, 3, .ref 3) := po20 h (pm106 kn) (tw5 (List.mem_of_getElem? (i := 173) rfl) rfl) (tw5 (List.mem_of_getElem? (i := 175) rfl) rfl) (pw3 (List.mem_of_getElem? (i := 2) rfl)) rfl rfl
set_option maxRecDepth 100000 in
theorem pe3_113_0 (kn : List rM) {m : Nat} (h : (rE0.1 m).cls = "PackHouse$Codes") : rpo (rpar kn) rE0 m 113 (0, 7, 1, .ref 0) := po0 (C := "PackHouse$Row") (T := FT7) (N := 5) (ty := fy7 1) h rfl (by decide) rfl (tw1 (List.mem_of_getElem? (i := 54) rfl) rfl) (fp7 1 (by decide)) rfl (fun _ => rfl) (fun a _ => absurd a (by decide))
set_option maxRecDepth 100000 in
theorem pe3_116_20 (kn : List rM) {m : Nat} (h : (rE0.1 m).cls = "PackHouse$Codes") : rpo (rpar kn) rE0 m 116 (20, 105, 2, .ref 3) := po20 h (pm105 kn) (tw5 (List.mem_of_getElem? (i := 222) rfl) rfl) (tw5 (List.mem_of_getElem? (i := 224) rfl) rfl) (pw3 (List.mem_of_getElem? (i := 6) rfl)) rfl rfl
set_option maxRecDepth 100000 in
theorem pe3_120_20 (kn : List rM) {m : Nat} (h : (rE0.1 m).cls = "PackHouse$Codes") : rpo (rpar kn) rE0 m 120 (20, 159, 1, .ref 7) := po20 h (pm159 kn) (tw5 (List.mem_of_getElem? (i := 226) rfl) rfl) (tw1 (List.mem_of_getElem? (i := 231) rfl) rfl) (tw1 (List.mem_of_getElem? (i := 232) rfl) rfl) rfl rfl
set_option maxRecDepth 100000 in
theorem pe3_124_0 (kn : List rM) {m : Nat} (h : (rE0.1 m).cls = "PackHouse$Codes") : rpo (rpar kn) rE0 m 124 (0, 7, 0, .ref 3) := po0 (C := "PackHouse$Row") (T := FT7) (N := 5) (ty := fy7 0) h rfl (by decide) rfl (tw1 (List.mem_of_getElem? (i := 46) rfl) rfl) (fp7 0 (by decide)) rfl (fun _ => rfl) (fun a _ => absurd a (by decide))
set_option maxRecDepth 100000 in
theorem pe3_128_20 (kn : List rM) {m : Nat} (h : (rE0.1 m).cls = "PackHouse$Codes") : rpo (rpar kn) rE0 m 128 (20, 161, 3, .ref 7) := po20 h (pm161 kn) (tw5 (List.mem_of_getElem? (i := 227) rfl) rfl) (tw2 (List.mem_of_getElem? (i := 19) rfl) rfl) (tw2 (List.mem_of_getElem? (i := 20) rfl) rfl) rfl rfl
set_option maxRecDepth 100000 in
theorem pe3_132_20 (kn : List rM) {m : Nat} (h : (rE0.1 m).cls = "PackHouse$Codes") : rpo (rpar kn) rE0 m 132 (20, 157, 1, .ref 7) := po20 h (pm157 kn) (tw5 (List.mem_of_getElem? (i := 178) rfl) rfl) (tw1 (List.mem_of_getElem? (i := 202) rfl) rfl) (tw1 (List.mem_of_getElem? (i := 203) rfl) rfl) rfl rfl
set_option maxRecDepth 100000 in
theorem pe3_136_20 (kn : List rM) {m : Nat} (h : (rE0.1 m).cls = "PackHouse$Codes") : rpo (rpar kn) rE0 m 136 (20, 164, 2, .ref 7) := po20 h (pm164 kn) (tw5 (List.mem_of_getElem? (i := 216) rfl) rfl) (tw5 (List.mem_of_getElem? (i := 197) rfl) rfl) (tw5 (List.mem_of_getElem? (i := 198) rfl) rfl) rfl rfl
set_option maxRecDepth 100000 in
theorem pe3_139_20 (kn : List rM) {m : Nat} (h : (rE0.1 m).cls = "PackHouse$Codes") : rpo (rpar kn) rE0 m 139 (20, 156, 0, .ref 7) := po20 h (pm156 kn) (tw5 (List.mem_of_getElem? (i := 177) rfl) rfl) (tw2 (List.mem_of_getElem? (i := 123) rfl) rfl) (tw2 (List.mem_of_getElem? (i := 124) rfl) rfl) rfl rfl
set_option maxRecDepth 100000 in
theorem pe3_142_20 (kn : List rM) {m : Nat} (h : (rE0.1 m).cls = "PackHouse$Codes") : rpo (rpar kn) rE0 m 142 (20, 178, 3, .ref 8) := po20 h (pm178 kn) (tw5 (List.mem_of_getElem? (i := 179) rfl) rfl) (tw5 (List.mem_of_getElem? (i := 180) rfl) rfl) (tw5 (List.mem_of_getElem? (i := 181) rfl) rfl) rfl rfl
set_option maxRecDepth 100000 in
theorem pe3_146_20 (kn : List rM) {m : Nat} (h : (rE0.1 m).cls = "PackHouse$Codes") : rpo (rpar kn) rE0 m 146 (20, 169, 0, .ref 8) := po20 h (pm169 kn) (tw5 (List.mem_of_getElem? (i := 191) rfl) rfl) (tw3 (List.mem_of_getElem? (i := 67) rfl) rfl) (tw3 (List.mem_of_getElem? (i := 68) rfl) rfl) rfl rfl
set_option maxRecDepth 100000 in
theorem pe3_149_20 (kn : List rM) {m : Nat} (h : (rE0.1 m).cls = "PackHouse$Codes") : rpo (rpar kn) rE0 m 149 (20, 181, 1, .ref 8) := po20 h (pm181 kn) (tw5 (List.mem_of_getElem? (i := 192) rfl) rfl) (tw5 (List.mem_of_getElem? (i := 193) rfl) rfl) (tw5 (List.mem_of_getElem? (i := 194) rfl) rfl) rfl rfl
set_option maxRecDepth 100000 in
theorem pe3_153_20 (kn : List rM) {m : Nat} (h : (rE0.1 m).cls = "PackHouse$Codes") : rpo (rpar kn) rE0 m 153 (20, 174, 1, .ref 8) := po20 h (pm174 kn) (tw5 (List.mem_of_getElem? (i := 208) rfl) rfl) (tw5 (List.mem_of_getElem? (i := 209) rfl) rfl) (tw5 (List.mem_of_getElem? (i := 210) rfl) rfl) rfl rfl
set_option maxRecDepth 100000 in
theorem pe3_157_20 (kn : List rM) {m : Nat} (h : (rE0.1 m).cls = "PackHouse$Codes") : rpo (rpar kn) rE0 m 157 (20, 175, 2, .ref 8) := po20 h (pm175 kn) (tw5 (List.mem_of_getElem? (i := 212) rfl) rfl) (tw5 (List.mem_of_getElem? (i := 213) rfl) rfl) (tw5 (List.mem_of_getElem? (i := 214) rfl) rfl) rfl rfl
set_option maxRecDepth 100000 in
theorem pe3_160_20 (kn : List rM) {m : Nat} (h : (rE0.1 m).cls = "PackHouse$Codes") : rpo (rpar kn) rE0 m 160 (20, 176, 3, .ref 8) := po20 h (pm176 kn) (tw5 (List.mem_of_getElem? (i := 217) rfl) rfl) (tw5 (List.mem_of_getElem? (i := 218) rfl) rfl) (tw5 (List.mem_of_getElem? (i := 219) rfl) rfl) rfl rfl
set_option maxRecDepth 100000 in
theorem pe3_164_20 (kn : List rM) {m : Nat} (h : (rE0.1 m).cls = "PackHouse$Codes") : rpo (rpar kn) rE0 m 164 (20, 165, 0, .ref 7) := po20 h (pm165 kn) (tw5 (List.mem_of_getElem? (i := 221) rfl) rfl) (tw5 (List.mem_of_getElem? (i := 205) rfl) rfl) (tw5 (List.mem_of_getElem? (i := 206) rfl) rfl) rfl rfl
set_option maxRecDepth 100000 in
theorem pe3_167_20 (kn : List rM) {m : Nat} (h : (rE0.1 m).cls = "PackHouse$Codes") : rpo (rpar kn) rE0 m 167 (20, 108, 3, .ref 3) := po20 h (pm108 kn) (tw3 (List.mem_of_getElem? (i := 51) rfl) rfl) (tw3 (List.mem_of_getElem? (i := 53) rfl) rfl) (pw1 (List.mem_of_getElem? (i := 1) rfl)) rfl rfl
set_option maxRecDepth 100000 in
theorem pe3_171_20 (kn : List rM) {m : Nat} (h : (rE0.1 m).cls = "PackHouse$Codes") : rpo (rpar kn) rE0 m 171 (20, 109, 1, .ref 3) := po20 h (pm109 kn) (tw3 (List.mem_of_getElem? (i := 98) rfl) rfl) (tw3 (List.mem_of_getElem? (i := 100) rfl) rfl) (pw1 (List.mem_of_getElem? (i := 3) rfl)) rfl rfl
set_option maxRecDepth 100000 in
theorem pe3_174_20 (kn : List rM) {m : Nat} (h : (rE0.1 m).cls = "PackHouse$Codes") : rpo (rpar kn) rE0 m 174 (20, 184, 4, .ref 8) := po20 h (pm184 kn) (tw3 (List.mem_of_getElem? (i := 55) rfl) rfl) (tw3 (List.mem_of_getElem? (i := 56) rfl) rfl) (tw3 (List.mem_of_getElem? (i := 57) rfl) rfl) rfl rfl
set_option maxRecDepth 100000 in
theorem pe3_178_20 (kn : List rM) {m : Nat} (h : (rE0.1 m).cls = "PackHouse$Codes") : rpo (rpar kn) rE0 m 178 (20, 93, 3, .ref 2) := po20 h (pm93 kn) (tw3 (List.mem_of_getElem? (i := 70) rfl) rfl) (tw3 (List.mem_of_getElem? (i := 71) rfl) rfl) (tw3 (List.mem_of_getElem? (i := 72) rfl) rfl) rfl rfl
set_option maxRecDepth 100000 in
theorem pe3_182_0 (kn : List rM) {m : Nat} (h : (rE0.1 m).cls = "PackHouse$Codes") : rpo (rpar kn) rE0 m 182 (0, 2, 2, .ref 0) := po0 (C := "PackHouse$BitSource") (T := FT2) (N := 3) (ty := fy2 2) h rfl (by decide) rfl (tw2 (List.mem_of_getElem? (i := 217) rfl) rfl) (fp2 2 (by decide)) rfl (fun _ => rfl) (fun a _ => absurd a (by decide))
set_option maxRecDepth 100000 in
theorem pe3_185_0 (kn : List rM) {m : Nat} (h : (rE0.1 m).cls = "PackHouse$Codes") : rpo (rpar kn) rE0 m 185 (0, 8, 0, .ref 0) := po0 (C := "PackHouse$Share") (T := FT8) (N := 13) (ty := fy8 0) h rfl (by decide) rfl (tw2 (List.mem_of_getElem? (i := 164) rfl) rfl) (fp8 0 (by decide)) rfl (fun _ => rfl) (fun a _ => absurd a (by decide))
set_option maxRecDepth 100000 in
theorem pe3_187_20 (kn : List rM) {m : Nat} (h : (rE0.1 m).cls = "PackHouse$Codes") : rpo (rpar kn) rE0 m 187 (20, 95, 1, .ref 2) := po20 h (pm95 kn) (tw3 (List.mem_of_getElem? (i := 77) rfl) rfl) (tw3 (List.mem_of_getElem? (i := 78) rfl) rfl) (tw3 (List.mem_of_getElem? (i := 79) rfl) rfl) rfl rfl
set_option maxRecDepth 100000 in
theorem pe3_191_20 (kn : List rM) {m : Nat} (h : (rE0.1 m).cls = "PackHouse$Codes") : rpo (rpar kn) rE0 m 191 (20, 171, 1, .ref 8) := po20 h (pm171 kn) (tw3 (List.mem_of_getElem? (i := 85) rfl) rfl) (tw3 (List.mem_of_getElem? (i := 86) rfl) rfl) (tw3 (List.mem_of_getElem? (i := 87) rfl) rfl) rfl rfl
set_option maxRecDepth 100000 in
theorem pe3_194_20 (kn : List rM) {m : Nat} (h : (rE0.1 m).cls = "PackHouse$Codes") : rpo (rpar kn) rE0 m 194 (20, 172, 1, .ref 8) := po20 h (pm172 kn) (tw3 (List.mem_of_getElem? (i := 89) rfl) rfl) (tw3 (List.mem_of_getElem? (i := 90) rfl) rfl) (tw3 (List.mem_of_getElem? (i := 91) rfl) rfl) rfl rfl
set_option maxRecDepth 100000 in
theorem pe3_197_20 (kn : List rM) {m : Nat} (h : (rE0.1 m).cls = "PackHouse$Codes") : rpo (rpar kn) rE0 m 197 (20, 173, 1, .ref 8) := po20 h (pm173 kn) (tw3 (List.mem_of_getElem? (i := 93) rfl) rfl) (tw3 (List.mem_of_getElem? (i := 94) rfl) rfl) (tw3 (List.mem_of_getElem? (i := 95) rfl) rfl) rfl rfl
set_option maxRecDepth 100000 in
theorem pe3_200_25 (kn : List rM) {m : Nat} (h : (rE0.1 m).cls = "PackHouse$Codes") : rpo (rpar kn) rE0 m 200 (25, 45, 1, .null) := po25 h (pm45 kn) (tn3 (List.mem_of_getElem? (i := 102) rfl) rfl) (tw3 (List.mem_of_getElem? (i := 75) rfl) rfl)
set_option maxRecDepth 100000 in
theorem pe3_203_20 (kn : List rM) {m : Nat} (h : (rE0.1 m).cls = "PackHouse$Codes") : rpo (rpar kn) rE0 m 203 (20, 103, 0, .ref 3) := po20 h (pm103 kn) (tw3 (List.mem_of_getElem? (i := 104) rfl) rfl) (tw3 (List.mem_of_getElem? (i := 105) rfl) rfl) (tw3 (List.mem_of_getElem? (i := 106) rfl) rfl) rfl rfl
set_option maxRecDepth 100000 in
theorem pe3_204_20 (kn : List rM) {m : Nat} (h : (rE0.1 m).cls = "PackHouse$Codes") : rpo (rpar kn) rE0 m 204 (20, 94, 1, .ref 2) := po20 h (pm94 kn) (tw7 (List.mem_of_getElem? (i := 125) rfl) rfl) (tw3 (List.mem_of_getElem? (i := 82) rfl) rfl) (tw3 (List.mem_of_getElem? (i := 83) rfl) rfl) rfl rfl
set_option maxRecDepth 100000 in
theorem pl3 (kn : List rM) {m : Nat} (h : (rE0.1 m).cls = "PackHouse$Codes") : ∀ q ∈ pool_3, rpo (rpar kn) rE0 m q.1 q.2 := List.forall_mem_cons.mpr ⟨pe3_3_26 kn h, List.forall_mem_cons.mpr ⟨pe3_11_0 kn h, List.forall_mem_cons.mpr ⟨pe3_15_0 kn h, List.forall_mem_cons.mpr ⟨pe3_18_0 kn h, List.forall_mem_cons.mpr ⟨pe3_21_0 kn h, List.forall_mem_cons.mpr ⟨pe3_24_0 kn h, List.forall_mem_cons.mpr ⟨pe3_27_12 kn h, List.forall_mem_cons.mpr ⟨pe3_29_22 kn h, List.forall_mem_cons.mpr ⟨pe3_32_0 kn h, List.forall_mem_cons.mpr ⟨pe3_36_12 kn h, List.forall_mem_cons.mpr ⟨pe3_38_23 kn h, List.forall_mem_cons.mpr ⟨pe3_39_0 kn h, List.forall_mem_cons.mpr ⟨pe3_43_0 kn h, List.forall_mem_cons.mpr ⟨pe3_46_12 kn h, List.forall_mem_cons.mpr ⟨pe3_48_23 kn h, List.forall_mem_cons.mpr ⟨pe3_49_0 kn h, List.forall_mem_cons.mpr ⟨pe3_53_0 kn h, List.forall_mem_cons.mpr ⟨pe3_56_0 kn h, List.forall_mem_cons.mpr ⟨pe3_59_0 kn h, List.forall_mem_cons.mpr ⟨pe3_62_0 kn h, List.forall_mem_cons.mpr ⟨pe3_66_20 kn h, List.forall_mem_cons.mpr ⟨pe3_70_20 kn h, List.forall_mem_cons.mpr ⟨pe3_73_20 kn h, List.forall_mem_cons.mpr ⟨pe3_76_0 kn h, List.forall_mem_cons.mpr ⟨pe3_79_24 kn h, List.forall_mem_cons.mpr ⟨pe3_83_0 kn h, List.forall_mem_cons.mpr ⟨pe3_86_0 kn h, List.forall_mem_cons.mpr ⟨pe3_89_0 kn h, List.forall_mem_cons.mpr ⟨pe3_92_20 kn h, List.forall_mem_cons.mpr ⟨pe3_96_28 kn h, List.forall_mem_cons.mpr ⟨pe3_101_29 kn h, List.forall_mem_cons.mpr ⟨pe3_106_24 kn h, List.forall_mem_cons.mpr ⟨pe3_109_20 kn h, List.forall_mem_cons.mpr ⟨pe3_113_0 kn h, List.forall_mem_cons.mpr ⟨pe3_116_20 kn h, List.forall_mem_cons.mpr ⟨pe3_120_20 kn h, List.forall_mem_cons.mpr ⟨pe3_124_0 kn h, List.forall_mem_cons.mpr ⟨pe3_128_20 kn h, List.forall_mem_cons.mpr ⟨pe3_132_20 kn h, List.forall_mem_cons.mpr ⟨pe3_136_20 kn h, List.forall_mem_cons.mpr ⟨pe3_139_20 kn h, List.forall_mem_cons.mpr ⟨pe3_142_20 kn h, List.forall_mem_cons.mpr ⟨pe3_146_20 kn h, List.forall_mem_cons.mpr ⟨pe3_149_20 kn h, List.forall_mem_cons.mpr ⟨pe3_153_20 kn h, List.forall_mem_cons.mpr ⟨pe3_157_20 kn h, List.forall_mem_cons.mpr ⟨pe3_160_20 kn h, List.forall_mem_cons.mpr ⟨pe3_164_20 kn h, List.forall_mem_cons.mpr ⟨pe3_167_20 kn h, List.forall_mem_cons.mpr ⟨pe3_171_20 kn h, List.forall_mem_cons.mpr ⟨pe3_174_20 kn h, List.forall_mem_cons.mpr ⟨pe3_178_20 kn h, List.forall_mem_cons.mpr ⟨pe3_182_0 kn h, List.forall_mem_cons.mpr ⟨pe3_185_0 kn h, List.forall_mem_cons.mpr ⟨pe3_187_20 kn h, List.forall_mem_cons.mpr ⟨pe3_191_20 kn h, List.forall_mem_cons.mpr ⟨pe3_194_20 kn h, List.forall_mem_cons.mpr ⟨pe3_197_20 kn h, List.forall_mem_cons.mpr ⟨pe3_200_25 kn h, List.forall_mem_cons.mpr ⟨pe3_203_20 kn h, List.forall_mem_cons.mpr ⟨pe3_204_20 kn h, (fun _ h => absurd h List.not_mem_nil)⟩⟩⟩⟩⟩⟩⟩⟩⟩⟩⟩⟩⟩⟩⟩⟩⟩⟩⟩⟩⟩⟩⟩⟩⟩⟩⟩⟩⟩⟩⟩⟩⟩⟩⟩⟩⟩⟩⟩⟩⟩⟩⟩⟩⟩⟩⟩⟩⟩⟩⟩⟩⟩⟩⟩⟩⟩⟩⟩⟩⟩
set_option maxRecDepth 100000 in
theorem pe4_3_26 (kn : List rM) {m : Nat} (h : (rE0.1 m).cls = "PackHouse$Dictionary") : rpo (rpar kn) rE0 m 3 (26, 0, 0, .null) := po26 h (tw1 (List.mem_of_getElem? (i := 80) rfl) rfl)
set_option maxRecDepth 100000 in
theorem pe4_9_12 (kn : List rM) {m : Nat} (h : (rE0.1 m).cls = "PackHouse$Dictionary") : rpo (rpar kn) rE0 m 9 (12, 7, 5, .null) := po12 (T := FT7) h rfl (tw1 (List.mem_of_getElem? (i := 81) rfl) rfl) (tw1 (List.mem_of_getElem? (i := 33) rfl) rfl) (tw1 (List.mem_of_getElem? (i := 2) rfl) rfl)
set_option maxRecDepth 100000 in
theorem pe4_11_23 (kn : List rM) {m : Nat} (h : (rE0.1 m).cls = "PackHouse$Dictionary") : rpo (rpar kn) rE0 m 11 (23, 155, 0, .ref 7) := po23 h (pm155 kn) (ztn1 (List.mem_of_getElem? (i := 82) rfl) rfl) (tw1 (List.mem_of_getElem? (i := 35) rfl) rfl) rfl rfl
set_option maxRecDepth 100000 in
theorem pe4_12_0 (kn : List rM) {m : Nat} (h : (rE0.1 m).cls = "PackHouse$Dictionary") : rpo (rpar kn) rE0 m 12 (0, 4, 0, .ref 11) := po0 (C := "PackHouse$Dictionary") (T := FT4) (N := 5) (ty := fy4 0) h rfl (by decide) rfl (tw1 (List.mem_of_getElem? (i := 112) rfl) rfl) (fp4 0 (by decide)) rfl (fun a => absurd a (by decide)) (fun _ _ => ⟨rfl, rfl⟩)
set_option maxRecDepth 100000 in
theorem pe4_18_12 (kn : List rM) {m : Nat} (h : (rE0.1 m).cls = "PackHouse$Dictionary") : rpo (rpar kn) rE0 m 18 (12, 9, 3, .null) := po12 (T := FT9) h rfl (tw1 (List.mem_of_getElem? (i := 83) rfl) rfl) (tw1 (List.mem_of_getElem? (i := 84) rfl) rfl) (tw1 (List.mem_of_getElem? (i := 4) rfl) rfl)
set_option maxRecDepth 100000 in
theorem pe4_20_23 (kn : List rM) {m : Nat} (h : (rE0.1 m).cls = "PackHouse$Dictionary") : rpo (rpar kn) rE0 m 20 (23, 185, 0, .ref 9) := po23 h (pm185 kn) (ztn1 (List.mem_of_getElem? (i := 85) rfl) rfl) (tw1 (List.mem_of_getElem? (i := 86) rfl) rfl) rfl rfl
set_option maxRecDepth 100000 in
theorem pe4_21_0 (kn : List rM) {m : Nat} (h : (rE0.1 m).cls = "PackHouse$Dictionary") : rpo (rpar kn) rE0 m 21 (0, 4, 1, .ref 11) := po0 (C := "PackHouse$Dictionary") (T := FT4) (N := 5) (ty := fy4 1) h rfl (by decide) rfl (tw1 (List.mem_of_getElem? (i := 116) rfl) rfl) (fp4 1 (by decide)) rfl (fun a => absurd a (by decide)) (fun _ _ => ⟨rfl, rfl⟩)
set_option maxRecDepth 100000 in
theorem pe4_25_20 (kn : List rM) {m : Nat} (h : (rE0.1 m).cls = "PackHouse$Dictionary") : rpo (rpar kn) rE0 m 25 (20, 156, 0, .ref 7) := po20 h (pm156 kn) (tw2 (List.mem_of_getElem? (i := 139) rfl) rfl) (tw2 (List.mem_of_getElem? (i := 123) rfl) rfl) (tw2 (List.mem_of_getElem? (i := 124) rfl) rfl) rfl rfl
set_option maxRecDepth 100000 in
theorem pe4_28_20 (kn : List rM) {m : Nat} (h : (rE0.1 m).cls = "PackHouse$Dictionary") : rpo (rpar kn) rE0 m 28 (20, 186, 0, .ref 9) := po20 h (pm186 kn) (tw2 (List.mem_of_getElem? (i := 140) rfl) rfl) (tw2 (List.mem_of_getElem? (i := 141) rfl) rfl) (tw2 (List.mem_of_getElem? (i := 142) rfl) rfl) rfl rfl
set_option maxRecDepth 100000 in
theorem pe4_29_0 (kn : List rM) {m : Nat} (h : (rE0.1 m).cls = "PackHouse$Dictionary") : rpo (rpar kn) rE0 m 29 (0, 4, 2, .ref 0) := po0 (C := "PackHouse$Dictionary") (T := FT4) (N := 5) (ty := fy4 2) h rfl (by decide) rfl (tw1 (List.mem_of_getElem? (i := 119) rfl) rfl) (fp4 2 (by decide)) rfl (fun _ => rfl) (fun a _ => absurd a (by decide))
set_option maxRecDepth 100000 in
theorem pe4_33_0 (kn : List rM) {m : Nat} (h : (rE0.1 m).cls = "PackHouse$Dictionary") : rpo (rpar kn) rE0 m 33 (0, 7, 0, .ref 3) := po0 (C := "PackHouse$Row") (T := FT7) (N := 5) (ty := fy7 0) h rfl (by decide) rfl (tw1 (List.mem_of_getElem? (i := 39) rfl) rfl) (fp7 0 (by decide)) rfl (fun _ => rfl) (fun a _ => absurd a (by decide))
set_option maxRecDepth 100000 in
theorem pe4_37_0 (kn : List rM) {m : Nat} (h : (rE0.1 m).cls = "PackHouse$Dictionary") : rpo (rpar kn) rE0 m 37 (0, 7, 1, .ref 0) := po0 (C := "PackHouse$Row") (T := FT7) (N := 5) (ty := fy7 1) h rfl (by decide) rfl (tw1 (List.mem_of_getElem? (i := 48) rfl) rfl) (fp7 1 (by decide)) rfl (fun _ => rfl) (fun a _ => absurd a (by decide))
set_option maxRecDepth 100000 in
theorem pe4_40_20 (kn : List rM) {m : Nat} (h : (rE0.1 m).cls = "PackHouse$Dictionary") : rpo (rpar kn) rE0 m 40 (20, 114, 0, .ref 4) := po20 h (pm114 kn) (tw2 (List.mem_of_getElem? (i := 135) rfl) rfl) (tw2 (List.mem_of_getElem? (i := 136) rfl) rfl) (tw2 (List.mem_of_getElem? (i := 137) rfl) rfl) rfl rfl
set_option maxRecDepth 100000 in
theorem pe4_41_25 (kn : List rM) {m : Nat} (h : (rE0.1 m).cls = "PackHouse$Dictionary") : rpo (rpar kn) rE0 m 41 (25, 41, 2, .null) := po25 h (pm41 kn) (ztn2 (List.mem_of_getElem? (i := 144) rfl) rfl) (tw2 (List.mem_of_getElem? (i := 67) rfl) rfl)
set_option maxRecDepth 100000 in
theorem pe4_45_10 (kn : List rM) {m : Nat} (h : (rE0.1 m).cls = "PackHouse$Dictionary") : rpo (rpar kn) rE0 m 45 (10, 0, 0, .int (-332356553)) := po10 h (tw2 (List.mem_of_getElem? (i := 145) rfl) rfl)
set_option maxRecDepth 100000 in
theorem pe4_46_20 (kn : List rM) {m : Nat} (h : (rE0.1 m).cls = "PackHouse$Dictionary") : rpo (rpar kn) rE0 m 46 (20, 158, 1, .ref 7) := po20 h (pm158 kn) (tw2 (List.mem_of_getElem? (i := 146) rfl) rfl) (tw2 (List.mem_of_getElem? (i := 119) rfl) rfl) (tw2 (List.mem_of_getElem? (i := 120) rfl) rfl) rfl rfl
set_option maxRecDepth 100000 in
theorem pe4_50_20 (kn : List rM) {m : Nat} (h : (rE0.1 m).cls = "PackHouse$Dictionary") : rpo (rpar kn) rE0 m 50 (20, 116, 0, .ref 4) := po20 h (pm116 kn) (tw2 (List.mem_of_getElem? (i := 147) rfl) rfl) (tw2 (List.mem_of_getElem? (i := 149) rfl) rfl) (pw1 (List.mem_of_getElem? (i := 0) rfl)) rfl rfl
set_option maxRecDepth 100000 in
theorem pe4_53_0 (kn : List rM) {m : Nat} (h : (rE0.1 m).cls = "PackHouse$Dictionary") : rpo (rpar kn) rE0 m 53 (0, 4, 3, .ref 3) := po0 (C := "PackHouse$Dictionary") (T := FT4) (N := 5) (ty := fy4 3) h rfl (by decide) rfl (tw1 (List.mem_of_getElem? (i := 123) rfl) rfl) (fp4 3 (by decide)) rfl (fun _ => rfl) (fun a _ => absurd a (by decide))
set_option maxRecDepth 100000 in
theorem pe4_57_20 (kn : List rM) {m : Nat} (h : (rE0.1 m).cls = "PackHouse$Dictionary") : rpo (rpar kn) rE0 m 57 (20, 107, 3, .ref 3) := po20 h (pm107 kn) (tw3 (List.mem_of_getElem? (i := 47) rfl) rfl) (tw3 (List.mem_of_getElem? (i := 48) rfl) rfl) (tw3 (List.mem_of_getElem? (i := 49) rfl) rfl) rfl rfl
set_option maxRecDepth 100000 in
theorem pe4_58_12 (kn : List rM) {m : Nat} (h : (rE0.1 m).cls = "PackHouse$Dictionary") : rpo (rpar kn) rE0 m 58 (12, 3, 17, .null) := po12 (T := FT3) h rfl (tw2 (List.mem_of_getElem? (i := 151) rfl) rfl) (tw2 (List.mem_of_getElem? (i := 152) rfl) rfl) (tw1 (List.mem_of_getElem? (i := 16) rfl) rfl)
set_option maxRecDepth 100000 in
theorem pe4_63_20 (kn : List rM) {m : Nat} (h : (rE0.1 m).cls = "PackHouse$Dictionary") : rpo (rpar kn) rE0 m 63 (20, 118, 4, .ref 4) := po20 h (pm118 kn) (tw3 (List.mem_of_getElem? (i := 114) rfl) rfl) (tw3 (List.mem_of_getElem? (i := 116) rfl) rfl) (pw1 (List.mem_of_getElem? (i := 4) rfl)) rfl rfl
set_option maxRecDepth 100000 in
theorem pe4_67_0 (kn : List rM) {m : Nat} (h : (rE0.1 m).cls = "PackHouse$Dictionary") : rpo (rpar kn) rE0 m 67 (0, 9, 0, .ref 3) := po0 (C := "PackHouse$Stand") (T := FT9) (N := 3) (ty := fy9 0) h rfl (by decide) rfl (tw1 (List.mem_of_getElem? (i := 94) rfl) rfl) (fp9 0 (by decide)) rfl (fun _ => rfl) (fun a _ => absurd a (by decide))
set_option maxRecDepth 100000 in
theorem pe4_68_20 (kn : List rM) {m : Nat} (h : (rE0.1 m).cls = "PackHouse$Dictionary") : rpo (rpar kn) rE0 m 68 (20, 119, 3, .ref 4) := po20 h (pm119 kn) (tw3 (List.mem_of_getElem? (i := 119) rfl) rfl) (tw3 (List.mem_of_getElem? (i := 121) rfl) rfl) (pw1 (List.mem_of_getElem? (i := 5) rfl)) rfl rfl
set_option maxRecDepth 100000 in
theorem pe4_71_23 (kn : List rM) {m : Nat} (h : (rE0.1 m).cls = "PackHouse$Dictionary") : rpo (rpar kn) rE0 m 71 (23, 96, 0, .ref 3) := po23 h (pm96 kn) (ztn2 (List.mem_of_getElem? (i := 153) rfl) rfl) (tw2 (List.mem_of_getElem? (i := 154) rfl) rfl) rfl rfl
set_option maxRecDepth 100000 in
theorem pe4_72_24 (kn : List rM) {m : Nat} (h : (rE0.1 m).cls = "PackHouse$Dictionary") : rpo (rpar kn) rE0 m 72 (24, 117, 0, .null) := po24 h (pm117 kn) (tw3 (List.mem_of_getElem? (i := 38) rfl) rfl) (tw3 (List.mem_of_getElem? (i := 39) rfl) rfl)
set_option maxRecDepth 100000 in
theorem pe4_76_0 (kn : List rM) {m : Nat} (h : (rE0.1 m).cls = "PackHouse$Dictionary") : rpo (rpar kn) rE0 m 76 (0, 4, 4, .ref 3) := po0 (C := "PackHouse$Dictionary") (T := FT4) (N := 5) (ty := fy4 4) h rfl (by decide) rfl (tw1 (List.mem_of_getElem? (i := 124) rfl) rfl) (fp4 4 (by decide)) rfl (fun _ => rfl) (fun a _ => absurd a (by decide))
set_option maxRecDepth 100000 in
theorem pe4_80_12 (kn : List rM) {m : Nat} (h : (rE0.1 m).cls = "PackHouse$Dictionary") : rpo (rpar kn) rE0 m 80 (12, 8, 13, .null) := po12 (T := FT8) h rfl (tw3 (List.mem_of_getElem? (i := 41) rfl) rfl) (tw2 (List.mem_of_getElem? (i := 158) rfl) rfl) (tw1 (List.mem_of_getElem? (i := 17) rfl) rfl)
set_option maxRecDepth 100000 in
theorem pe4_80_13 (kn : List rM) {m : Nat} (h : (rE0.1 m).cls = "PackHouse$Dictionary") : rpo (rpar kn) rE0 m 80 (13, 5, 0, .null) := po13 h rfl (tw3 (List.mem_of_getElem? (i := 41) rfl) rfl) (ztn1 (List.mem_of_getElem? (i := 90) rfl) rfl)
set_option maxRecDepth 100000 in
theorem pe4_82_15 (kn : List rM) {m : Nat} (h : (rE0.1 m).cls = "PackHouse$Dictionary") : rpo (rpar kn) rE0 m 82 (15, 2, 0, .null) := po15 h (by decide) (tn3 (List.mem_of_getElem? (i := 42) rfl) rfl)
set_option maxRecDepth 100000 in
theorem pe4_86_15 (kn : List rM) {m : Nat} (h : (rE0.1 m).cls = "PackHouse$Dictionary") : rpo (rpar kn) rE0 m 86 (15, 3, 0, .null) := po15 h (by decide) (tn3 (List.mem_of_getElem? (i := 44) rfl) rfl)
set_option maxRecDepth 100000 in
theorem pe4_89_22 (kn : List rM) {m : Nat} (h : (rE0.1 m).cls = "PackHouse$Dictionary") : rpo (rpar kn) rE0 m 89 (22, 166, 2, .ref 8) := po22 h (pm166 kn) (tw3 (List.mem_of_getElem? (i := 46) rfl) rfl) (tw2 (List.mem_of_getElem? (i := 160) rfl) rfl) rfl rfl
set_option maxRecDepth 100000 in
theorem pe4_92_0 (kn : List rM) {m : Nat} (h : (rE0.1 m).cls = "PackHouse$Dictionary") : rpo (rpar kn) rE0 m 92 (0, 9, 1, .ref 19) := po0 (C := "PackHouse$Stand") (T := FT9) (N := 3) (ty := fy9 1) h rfl (by decide) rfl (tw1 (List.mem_of_getElem? (i := 98) rfl) rfl) (fp9 1 (by decide)) rfl (fun a => absurd a (by decide)) (fun _ b => absurd b (by decide))
set_option maxRecDepth 100000 in
theorem pe4_93_20 (kn : List rM) {m : Nat} (h : (rE0.1 m).cls = "PackHouse$Dictionary") : rpo (rpar kn) rE0 m 93 (20, 184, 4, .ref 8) := po20 h (pm184 kn) (tw3 (List.mem_of_getElem? (i := 118) rfl) rfl) (tw3 (List.mem_of_getElem? (i := 56) rfl) rfl) (tw3 (List.mem_of_getElem? (i := 57) rfl) rfl) rfl rfl
set_option maxRecDepth 100000 in
theorem pe4_96_0 (kn : List rM) {m : Nat} (h : (rE0.1 m).cls = "PackHouse$Dictionary") : rpo (rpar kn) rE0 m 96 (0, 9, 2, .ref 19) := po0 (C := "PackHouse$Stand") (T := FT9) (N := 3) (ty := fy9 2) h rfl (by decide) rfl (tw1 (List.mem_of_getElem? (i := 102) rfl) rfl) (fp9 2 (by decide)) rfl (fun a => absurd a (by decide)) (fun _ b => absurd b (by decide))
set_option maxRecDepth 100000 in
theorem pe4_100_25 (kn : List rM) {m : Nat} (h : (rE0.1 m).cls = "PackHouse$Dictionary") : rpo (rpar kn) rE0 m 100 (25, 42, 3, .null) := po25 h (pm42 kn) (tn3 (List.mem_of_getElem? (i := 123) rfl) rfl) (tw2 (List.mem_of_getElem? (i := 88) rfl) rfl)
set_option maxRecDepth 100000 in
theorem pe4_104_20 (kn : List rM) {m : Nat} (h : (rE0.1 m).cls = "PackHouse$Dictionary") : rpo (rpar kn) rE0 m 104 (20, 161, 3, .ref 7) := po20 h (pm161 kn) (tw3 (List.mem_of_getElem? (i := 124) rfl) rfl) (tw2 (List.mem_of_getElem? (i := 19) rfl) rfl) (tw2 (List.mem_of_getElem? (i := 20) rfl) rfl) rfl rfl
set_option maxRecDepth 100000 in
theorem pl4 (kn : List rM) {m : Nat} (h : (rE0.1 m).cls = "PackHouse$Dictionary") : ∀ q ∈ pool_4, rpo (rpar kn) rE0 m q.1 q.2 := List.forall_mem_cons.mpr ⟨pe4_3_26 kn h, List.forall_mem_cons.mpr ⟨pe4_9_12 kn h, List.forall_mem_cons.mpr ⟨pe4_11_23 kn h, List.forall_mem_cons.mpr ⟨pe4_12_0 kn h, List.forall_mem_cons.mpr ⟨pe4_18_12 kn h, List.forall_mem_cons.mpr ⟨pe4_20_23 kn h, List.forall_mem_cons.mpr ⟨pe4_21_0 kn h, List.forall_mem_cons.mpr ⟨pe4_25_20 kn h, List.forall_mem_cons.mpr ⟨pe4_28_20 kn h, List.forall_mem_cons.mpr ⟨pe4_29_0 kn h, List.forall_mem_cons.mpr ⟨pe4_33_0 kn h, List.forall_mem_cons.mpr ⟨pe4_37_0 kn h, List.forall_mem_cons.mpr ⟨pe4_40_20 kn h, List.forall_mem_cons.mpr ⟨pe4_41_25 kn h, List.forall_mem_cons.mpr ⟨pe4_45_10 kn h, List.forall_mem_cons.mpr ⟨pe4_46_20 kn h, List.forall_mem_cons.mpr ⟨pe4_50_20 kn h, List.forall_mem_cons.mpr ⟨pe4_53_0 kn h, List.forall_mem_cons.mpr ⟨pe4_57_20 kn h, List.forall_mem_cons.mpr ⟨pe4_58_12 kn h, List.forall_mem_cons.mpr ⟨pe4_63_20 kn h, List.forall_mem_cons.mpr ⟨pe4_67_0 kn h, List.forall_mem_cons.mpr ⟨pe4_68_20 kn h, List.forall_mem_cons.mpr ⟨pe4_71_23 kn h, List.forall_mem_cons.mpr ⟨pe4_72_24 kn h, List.forall_mem_cons.mpr ⟨pe4_76_0 kn h, List.forall_mem_cons.mpr ⟨pe4_80_12 kn h, List.forall_mem_cons.mpr ⟨pe4_80_13 kn h, List.forall_mem_cons.mpr ⟨pe4_82_15 kn h, List.forall_mem_cons.mpr ⟨pe4_86_15 kn h, List.forall_mem_cons.mpr ⟨pe4_89_22 kn h, List.forall_mem_cons.mpr ⟨pe4_92_0 kn h, List.forall_mem_cons.mpr ⟨pe4_93_20 kn h, List.forall_mem_cons.mpr ⟨pe4_96_0 kn h, List.forall_mem_cons.mpr ⟨pe4_100_25 kn h, List.forall_mem_cons.mpr ⟨pe4_104_20 kn h, (fun _ h => absurd h List.not_mem_nil)⟩⟩⟩⟩⟩⟩⟩⟩⟩⟩⟩⟩⟩⟩⟩⟩⟩⟩⟩⟩⟩⟩⟩⟩⟩⟩⟩⟩⟩⟩⟩⟩⟩⟩⟩⟩
set_option maxRecDepth 100000 in
theorem pe5_3_26 (kn : List rM) {m : Nat} (h : (rE0.1 m).cls = "PackHouse$Finder") : rpo (rpar kn) rE0 m 3 (26, 0, 0, .null) := po26 h (tw3 (List.mem_of_getElem? (i := 154) rfl) rfl)
set_option maxRecDepth 100000 in
theorem pe5_9_12 (kn : List rM) {m : Nat} (h : (rE0.1 m).cls = "PackHouse$Finder") : rpo (rpar kn) rE0 m 9 (12, 7, 5, .null) := po12 (T := FT7) h rfl (tw3 (List.mem_of_getElem? (i := 155) rfl) rfl) (tw1 (List.mem_of_getElem? (i := 33) rfl) rfl) (tw1 (List.mem_of_getElem? (i := 2) rfl) rfl)
set_option maxRecDepth 100000 in
theorem pe5_11_23 (kn : List rM) {m : Nat} (h : (rE0.1 m).cls = "PackHouse$Finder") : rpo (rpar kn) rE0 m 11 (23, 155, 0, .ref 7) := po23 h (pm155 kn) (tn3 (List.mem_of_getElem? (i := 156) rfl) rfl) (tw1 (List.mem_of_getElem? (i := 35) rfl) rfl) rfl rfl
set_option maxRecDepth 100000 in
theorem pe5_12_0 (kn : List rM) {m : Nat} (h : (rE0.1 m).cls = "PackHouse$Finder") : rpo (rpar kn) rE0 m 12 (0, 5, 0, .ref 11) := po0 (C := "PackHouse$Finder") (T := FT5) (N := 19) (ty := fy5 0) h rfl (by decide) rfl (tw3 (List.mem_of_getElem? (i := 157) rfl) rfl) (fp5 0 (by decide)) rfl (fun a => absurd a (by decide)) (fun _ _ => ⟨rfl, rfl⟩)
set_option maxRecDepth 100000 in
theorem pe5_18_0 (kn : List rM) {m : Nat} (h : (rE0.1 m).cls = "PackHouse$Finder") : rpo (rpar kn) rE0 m 18 (0, 5, 1, .ref 3) := po0 (C := "PackHouse$Finder") (T := FT5) (N := 19) (ty := fy5 1) h rfl (by decide) rfl (tw3 (List.mem_of_getElem? (i := 161) rfl) rfl) (fp5 1 (by decide)) rfl (fun _ => rfl) (fun a _ => absurd a (by decide))
set_option maxRecDepth 100000 in
theorem pe5_22_0 (kn : List rM) {m : Nat} (h : (rE0.1 m).cls = "PackHouse$Finder") : rpo (rpar kn) rE0 m 22 (0, 5, 2, .ref 3) := po0 (C := "PackHouse$Finder") (T := FT5) (N := 19) (ty := fy5 2) h rfl (by decide) rfl (tw3 (List.mem_of_getElem? (i := 165) rfl) rfl) (fp5 2 (by decide)) rfl (fun _ => rfl) (fun a _ => absurd a (by decide))
set_option maxRecDepth 100000 in
theorem pe5_25_0 (kn : List rM) {m : Nat} (h : (rE0.1 m).cls = "PackHouse$Finder") : rpo (rpar kn) rE0 m 25 (0, 5, 3, .ref 3) := po0 (C := "PackHouse$Finder") (T := FT5) (N := 19) (ty := fy5 3) h rfl (by decide) rfl (tw3 (List.mem_of_getElem? (i := 169) rfl) rfl) (fp5 3 (by decide)) rfl (fun _ => rfl) (fun a _ => absurd a (by decide))
set_option maxRecDepth 100000 in
theorem pe5_28_0 (kn : List rM) {m : Nat} (h : (rE0.1 m).cls = "PackHouse$Finder") : rpo (rpar kn) rE0 m 28 (0, 5, 7, .ref 3) := po0 (C := "PackHouse$Finder") (T := FT5) (N := 19) (ty := fy5 7) h rfl (by decide) rfl (tw3 (List.mem_of_getElem? (i := 183) rfl) rfl) (fp5 7 (by decide)) rfl (fun _ => rfl) (fun a _ => absurd a (by decide))
set_option maxRecDepth 100000 in
theorem pe5_31_0 (kn : List rM) {m : Nat} (h : (rE0.1 m).cls = "PackHouse$Finder") : rpo (rpar kn) rE0 m 31 (0, 5, 8, .ref 3) := po0 (C := "PackHouse$Finder") (T := FT5) (N := 19) (ty := fy5 8) h rfl (by decide) rfl (tw3 (List.mem_of_getElem? (i := 184) rfl) rfl) (fp5 8 (by decide)) rfl (fun _ => rfl) (fun a _ => absurd a (by decide))
set_option maxRecDepth 100000 in
theorem pe5_34_0 (kn : List rM) {m : Nat} (h : (rE0.1 m).cls = "PackHouse$Finder") : rpo (rpar kn) rE0 m 34 (0, 5, 9, .ref 0) := po0 (C := "PackHouse$Finder") (T := FT5) (N := 19) (ty := fy5 9) h rfl (by decide) rfl (tw3 (List.mem_of_getElem? (i := 185) rfl) rfl) (fp5 9 (by decide)) rfl (fun _ => rfl) (fun a _ => absurd a (by decide))
set_option maxRecDepth 100000 in
theorem pe5_38_0 (kn : List rM) {m : Nat} (h : (rE0.1 m).cls = "PackHouse$Finder") : rpo (rpar kn) rE0 m 38 (0, 5, 10, .ref 0) := po0 (C := "PackHouse$Finder") (T := FT5) (N := 19) (ty := fy5 10) h rfl (by decide) rfl (tw3 (List.mem_of_getElem? (i := 186) rfl) rfl) (fp5 10 (by decide)) rfl (fun _ => rfl) (fun a _ => absurd a (by decide))
set_option maxRecDepth 100000 in
theorem pe5_41_0 (kn : List rM) {m : Nat} (h : (rE0.1 m).cls = "PackHouse$Finder") : rpo (rpar kn) rE0 m 41 (0, 5, 11, .ref 0) := po0 (C := "PackHouse$Finder") (T := FT5) (N := 19) (ty := fy5 11) h rfl (by decide) rfl (tw3 (List.mem_of_getElem? (i := 187) rfl) rfl) (fp5 11 (by decide)) rfl (fun _ => rfl) (fun a _ => absurd a (by decide))
set_option maxRecDepth 100000 in
theorem pe5_44_0 (kn : List rM) {m : Nat} (h : (rE0.1 m).cls = "PackHouse$Finder") : rpo (rpar kn) rE0 m 44 (0, 5, 6, .ref 0) := po0 (C := "PackHouse$Finder") (T := FT5) (N := 19) (ty := fy5 6) h rfl (by decide) rfl (tw3 (List.mem_of_getElem? (i := 181) rfl) rfl) (fp5 6 (by decide)) rfl (fun _ => rfl) (fun a _ => absurd a (by decide))
set_option maxRecDepth 100000 in
theorem pe5_47_28 (kn : List rM) {m : Nat} (h : (rE0.1 m).cls = "PackHouse$Finder") : rpo (rpar kn) rE0 m 47 (28, 0, 0, .null) := po28 h (tw4 (List.mem_of_getElem? (i := 52) rfl) rfl)
set_option maxRecDepth 100000 in
theorem pe5_53_0 (kn : List rM) {m : Nat} (h : (rE0.1 m).cls = "PackHouse$Finder") : rpo (rpar kn) rE0 m 53 (0, 7, 0, .ref 3) := po0 (C := "PackHouse$Row") (T := FT7) (N := 5) (ty := fy7 0) h rfl (by decide) rfl (tw1 (List.mem_of_getElem? (i := 41) rfl) rfl) (fp7 0 (by decide)) rfl (fun _ => rfl) (fun a _ => absurd a (by decide))
set_option maxRecDepth 100000 in
theorem pe5_57_10 (kn : List rM) {m : Nat} (h : (rE0.1 m).cls = "PackHouse$Finder") : rpo (rpar kn) rE0 m 57 (10, 0, 0, .int (-1640531535)) := po10 h (tw4 (List.mem_of_getElem? (i := 75) rfl) rfl)
set_option maxRecDepth 100000 in
theorem pe5_58_29 (kn : List rM) {m : Nat} (h : (rE0.1 m).cls = "PackHouse$Finder") : rpo (rpar kn) rE0 m 58 (29, 0, 0, .null) := po29 h (tw4 (List.mem_of_getElem? (i := 61) rfl) rfl)
set_option maxRecDepth 100000 in
theorem pe5_64_30 (kn : List rM) {m : Nat} (h : (rE0.1 m).cls = "PackHouse$Finder") : rpo (rpar kn) rE0 m 64 (30, 0, 0, .null) := po30 h (tw4 (List.mem_of_getElem? (i := 62) rfl) rfl)
set_option maxRecDepth 100000 in
theorem pe5_67_24 (kn : List rM) {m : Nat} (h : (rE0.1 m).cls = "PackHouse$Finder") : rpo (rpar kn) rE0 m 67 (24, 457, 2, .null) := po24 h (pm457 kn) (tw4 (List.mem_of_getElem? (i := 63) rfl) rfl) (tw4 (List.mem_of_getElem? (i := 64) rfl) rfl)
set_option maxRecDepth 100000 in
theorem pe5_71_20 (kn : List rM) {m : Nat} (h : (rE0.1 m).cls = "PackHouse$Finder") : rpo (rpar kn) rE0 m 71 (20, 122, 1, .ref 5) := po20 h (pm122 kn) (tw4 (List.mem_of_getElem? (i := 71) rfl) rfl) (tw4 (List.mem_of_getElem? (i := 73) rfl) rfl) (pw1 (List.mem_of_getElem? (i := 10) rfl)) rfl rfl
set_option maxRecDepth 100000 in
theorem pe5_75_0 (kn : List rM) {m : Nat} (h : (rE0.1 m).cls = "PackHouse$Finder") : rpo (rpar kn) rE0 m 75 (0, 5, 12, .ref 0) := po0 (C := "PackHouse$Finder") (T := FT5) (N := 19) (ty := fy5 12) h rfl (by decide) rfl (tw3 (List.mem_of_getElem? (i := 188) rfl) rfl) (fp5 12 (by decide)) rfl (fun _ => rfl) (fun a _ => absurd a (by decide))
set_option maxRecDepth 100000 in
theorem pe5_78_0 (kn : List rM) {m : Nat} (h : (rE0.1 m).cls = "PackHouse$Finder") : rpo (rpar kn) rE0 m 78 (0, 5, 13, .ref 0) := po0 (C := "PackHouse$Finder") (T := FT5) (N := 19) (ty := fy5 13) h rfl (by decide) rfl (tw3 (List.mem_of_getElem? (i := 189) rfl) rfl) (fp5 13 (by decide)) rfl (fun _ => rfl) (fun a _ => absurd a (by decide))
set_option maxRecDepth 100000 in
theorem pe5_81_0 (kn : List rM) {m : Nat} (h : (rE0.1 m).cls = "PackHouse$Finder") : rpo (rpar kn) rE0 m 81 (0, 5, 4, .ref 0) := po0 (C := "PackHouse$Finder") (T := FT5) (N := 19) (ty := fy5 4) h rfl (by decide) rfl (tw3 (List.mem_of_getElem? (i := 175) rfl) rfl) (fp5 4 (by decide)) rfl (fun _ => rfl) (fun a _ => absurd a (by decide))
set_option maxRecDepth 100000 in
theorem pe5_84_0 (kn : List rM) {m : Nat} (h : (rE0.1 m).cls = "PackHouse$Finder") : rpo (rpar kn) rE0 m 84 (0, 5, 16, .ref 0) := po0 (C := "PackHouse$Finder") (T := FT5) (N := 19) (ty := fy5 16) h rfl (by decide) rfl (tw3 (List.mem_of_getElem? (i := 192) rfl) rfl) (fp5 16 (by decide)) rfl (fun _ => rfl) (fun a _ => absurd a (by decide))
set_option maxRecDepth 100000 in
theorem pe5_87_20 (kn : List rM) {m : Nat} (h : (rE0.1 m).cls = "PackHouse$Finder") : rpo (rpar kn) rE0 m 87 (20, 127, 1, .ref 5) := po20 h (pm127 kn) (tw4 (List.mem_of_getElem? (i := 80) rfl) rfl) (tw4 (List.mem_of_getElem? (i := 82) rfl) rfl) (pw1 (List.mem_of_getElem? (i := 11) rfl)) rfl rfl
set_option maxRecDepth 100000 in
theorem pe5_91_20 (kn : List rM) {m : Nat} (h : (rE0.1 m).cls = "PackHouse$Finder") : rpo (rpar kn) rE0 m 91 (20, 126, 1, .ref 5) := po20 h (pm126 kn) (tw4 (List.mem_of_getElem? (i := 96) rfl) rfl) (tw4 (List.mem_of_getElem? (i := 98) rfl) rfl) (pw1 (List.mem_of_getElem? (i := 15) rfl)) rfl rfl
set_option maxRecDepth 100000 in
theorem pe5_95_0 (kn : List rM) {m : Nat} (h : (rE0.1 m).cls = "PackHouse$Finder") : rpo (rpar kn) rE0 m 95 (0, 5, 14, .ref 0) := po0 (C := "PackHouse$Finder") (T := FT5) (N := 19) (ty := fy5 14) h rfl (by decide) rfl (tw3 (List.mem_of_getElem? (i := 190) rfl) rfl) (fp5 14 (by decide)) rfl (fun _ => rfl) (fun a _ => absurd a (by decide))
set_option maxRecDepth 100000 in
theorem pe5_98_0 (kn : List rM) {m : Nat} (h : (rE0.1 m).cls = "PackHouse$Finder") : rpo (rpar kn) rE0 m 98 (0, 5, 5, .ref 0) := po0 (C := "PackHouse$Finder") (T := FT5) (N := 19) (ty := fy5 5) h rfl (by decide) rfl (tw3 (List.mem_of_getElem? (i := 179) rfl) rfl) (fp5 5 (by decide)) rfl (fun _ => rfl) (fun a _ => absurd a (by decide))
set_option maxRecDepth 100000 in
theorem pe5_101_0 (kn : List rM) {m : Nat} (h : (rE0.1 m).cls = "PackHouse$Finder") : rpo (rpar kn) rE0 m 101 (0, 5, 15, .ref 0) := po0 (C := "PackHouse$Finder") (T := FT5) (N := 19) (ty := fy5 15) h rfl (by decide) rfl (tw3 (List.mem_of_getElem? (i := 191) rfl) rfl) (fp5 15 (by decide)) rfl (fun _ => rfl) (fun a _ => absurd a (by decide))
set_option maxRecDepth 100000 in
theorem pe5_104_20 (kn : List rM) {m : Nat} (h : (rE0.1 m).cls = "PackHouse$Finder") : rpo (rpar kn) rE0 m 104 (20, 129, 2, .ref 5) := po20 h (pm129 kn) (tw4 (List.mem_of_getElem? (i := 84) rfl) rfl) (tw4 (List.mem_of_getElem? (i := 86) rfl) rfl) (pw1 (List.mem_of_getElem? (i := 12) rfl)) rfl rfl
set_option maxRecDepth 100000 in
theorem pe5_108_20 (kn : List rM) {m : Nat} (h : (rE0.1 m).cls = "PackHouse$Finder") : rpo (rpar kn) rE0 m 108 (20, 130, 1, .ref 5) := po20 h (pm130 kn) (tw4 (List.mem_of_getElem? (i := 92) rfl) rfl) (tw4 (List.mem_of_getElem? (i := 94) rfl) rfl) (pw1 (List.mem_of_getElem? (i := 14) rfl)) rfl rfl
set_option maxRecDepth 100000 in
theorem pe5_111_0 (kn : List rM) {m : Nat} (h : (rE0.1 m).cls = "PackHouse$Finder") : rpo (rpar kn) rE0 m 111 (0, 5, 17, .ref 0) := po0 (C := "PackHouse$Finder") (T := FT5) (N := 19) (ty := fy5 17) h rfl (by decide) rfl (tw3 (List.mem_of_getElem? (i := 193) rfl) rfl) (fp5 17 (by decide)) rfl (fun _ => rfl) (fun a _ => absurd a (by decide))
set_option maxRecDepth 100000 in
theorem pe5_114_0 (kn : List rM) {m : Nat} (h : (rE0.1 m).cls = "PackHouse$Finder") : rpo (rpar kn) rE0 m 114 (0, 5, 18, .ref 0) := po0 (C := "PackHouse$Finder") (T := FT5) (N := 19) (ty := fy5 18) h rfl (by decide) rfl (tw3 (List.mem_of_getElem? (i := 194) rfl) rfl) (fp5 18 (by decide)) rfl (fun _ => rfl) (fun a _ => absurd a (by decide))
set_option maxRecDepth 100000 in
theorem pe5_117_20 (kn : List rM) {m : Nat} (h : (rE0.1 m).cls = "PackHouse$Finder") : rpo (rpar kn) rE0 m 117 (20, 128, 2, .ref 5) := po20 h (pm128 kn) (tw4 (List.mem_of_getElem? (i := 88) rfl) rfl) (tw4 (List.mem_of_getElem? (i := 90) rfl) rfl) (pw1 (List.mem_of_getElem? (i := 13) rfl)) rfl rfl
set_option maxRecDepth 100000 in
theorem pl5 (kn : List rM) {m : Nat} (h : (rE0.1 m).cls = "PackHouse$Finder") : ∀ q ∈ pool_5, rpo (rpar kn) rE0 m q.1 q.2 := List.forall_mem_cons.mpr ⟨pe5_3_26 kn h, List.forall_mem_cons.mpr ⟨pe5_9_12 kn h, List.forall_mem_cons.mpr ⟨pe5_11_23 kn h, List.forall_mem_cons.mpr ⟨pe5_12_0 kn h, List.forall_mem_cons.mpr ⟨pe5_18_0 kn h, List.forall_mem_cons.mpr ⟨pe5_22_0 kn h, List.forall_mem_cons.mpr ⟨pe5_25_0 kn h, List.forall_mem_cons.mpr ⟨pe5_28_0 kn h, List.forall_mem_cons.mpr ⟨pe5_31_0 kn h, List.forall_mem_cons.mpr ⟨pe5_34_0 kn h, List.forall_mem_cons.mpr ⟨pe5_38_0 kn h, List.forall_mem_cons.mpr ⟨pe5_41_0 kn h, List.forall_mem_cons.mpr ⟨pe5_44_0 kn h, List.forall_mem_cons.mpr ⟨pe5_47_28 kn h, List.forall_mem_cons.mpr ⟨pe5_53_0 kn h, List.forall_mem_cons.mpr ⟨pe5_57_10 kn h, List.forall_mem_cons.mpr ⟨pe5_58_29 kn h, List.forall_mem_cons.mpr ⟨pe5_64_30 kn h, List.forall_mem_cons.mpr ⟨pe5_67_24 kn h, List.forall_mem_cons.mpr ⟨pe5_71_20 kn h, List.forall_mem_cons.mpr ⟨pe5_75_0 kn h, List.forall_mem_cons.mpr ⟨pe5_78_0 kn h, List.forall_mem_cons.mpr ⟨pe5_81_0 kn h, List.forall_mem_cons.mpr ⟨pe5_84_0 kn h, List.forall_mem_cons.mpr ⟨pe5_87_20 kn h, List.forall_mem_cons.mpr ⟨pe5_91_20 kn h, List.forall_mem_cons.mpr ⟨pe5_95_0 kn h, List.forall_mem_cons.mpr ⟨pe5_98_0 kn h, List.forall_mem_cons.mpr ⟨pe5_101_0 kn h, List.forall_mem_cons.mpr ⟨pe5_104_20 kn h, List.forall_mem_cons.mpr ⟨pe5_108_20 kn h, List.forall_mem_cons.mpr ⟨pe5_111_0 kn h, List.forall_mem_cons.mpr ⟨pe5_114_0 kn h, List.forall_mem_cons.mpr ⟨pe5_117_20 kn h, (fun _ h => absurd h List.not_mem_nil)⟩⟩⟩⟩⟩⟩⟩⟩⟩⟩⟩⟩⟩⟩⟩⟩⟩⟩⟩⟩⟩⟩⟩⟩⟩⟩⟩⟩⟩⟩⟩⟩⟩⟩
set_option maxRecDepth 100000 in
theorem pe6_3_26 (kn : List rM) {m : Nat} (h : (rE0.1 m).cls = "PackHouse$Packer") : rpo (rpar kn) rE0 m 3 (26, 0, 0, .null) := po26 h (tw5 (List.mem_of_getElem? (i := 19) rfl) rfl)
set_option maxRecDepth 100000 in
theorem pe6_9_12 (kn : List rM) {m : Nat} (h : (rE0.1 m).cls = "PackHouse$Packer") : rpo (rpar kn) rE0 m 9 (12, 3, 17, .null) := po12 (T := FT3) h rfl (tw5 (List.mem_of_getElem? (i := 20) rfl) rfl) (tw2 (List.mem_of_getElem? (i := 152) rfl) rfl) (tw1 (List.mem_of_getElem? (i := 16) rfl) rfl)
set_option maxRecDepth 100000 in
theorem pe6_9_13 (kn : List rM) {m : Nat} (h : (rE0.1 m).cls = "PackHouse$Packer") : rpo (rpar kn) rE0 m 9 (13, 6, 0, .null) := po13 h rfl (tw5 (List.mem_of_getElem? (i := 20) rfl) rfl) (tn5 (List.mem_of_getElem? (i := 21) rfl) rfl)
set_option maxRecDepth 100000 in
theorem pe6_11_23 (kn : List rM) {m : Nat} (h : (rE0.1 m).cls = "PackHouse$Packer") : rpo (rpar kn) rE0 m 11 (23, 96, 0, .ref 3) := po23 h (pm96 kn) (tn5 (List.mem_of_getElem? (i := 22) rfl) rfl) (tw2 (List.mem_of_getElem? (i := 154) rfl) rfl) rfl rfl
set_option maxRecDepth 100000 in
theorem pe6_12_0 (kn : List rM) {m : Nat} (h : (rE0.1 m).cls = "PackHouse$Packer") : rpo (rpar kn) rE0 m 12 (0, 6, 3, .ref 11) := po0 (C := "PackHouse$Packer") (T := FT6) (N := 19) (ty := fy6 3) h rfl (by decide) rfl (tw5 (List.mem_of_getElem? (i := 33) rfl) rfl) (fp6 3 (by decide)) rfl (fun a => absurd a (by decide)) (fun _ _ => ⟨rfl, rfl⟩)
set_option maxRecDepth 100000 in
theorem pe6_18_24 (kn : List rM) {m : Nat} (h : (rE0.1 m).cls = "PackHouse$Packer") : rpo (rpar kn) rE0 m 18 (24, 117, 0, .null) := po24 h (pm117 kn) (tw5 (List.mem_of_getElem? (i := 23) rfl) rfl) (tw3 (List.mem_of_getElem? (i := 39) rfl) rfl)
set_option maxRecDepth 100000 in
theorem pe6_24_0 (kn : List rM) {m : Nat} (h : (rE0.1 m).cls = "PackHouse$Packer") : rpo (rpar kn) rE0 m 24 (0, 6, 4, .ref 11) := po0 (C := "PackHouse$Packer") (T := FT6) (N := 19) (ty := fy6 4) h rfl (by decide) rfl (tw5 (List.mem_of_getElem? (i := 34) rfl) rfl) (fp6 4 (by decide)) rfl (fun a => absurd a (by decide)) (fun _ _ => ⟨rfl, rfl⟩)
set_option maxRecDepth 100000 in
theorem pe6_28_0 (kn : List rM) {m : Nat} (h : (rE0.1 m).cls = "PackHouse$Packer") : rpo (rpar kn) rE0 m 28 (0, 6, 5, .ref 11) := po0 (C := "PackHouse$Packer") (T := FT6) (N := 19) (ty := fy6 5) h rfl (by decide) rfl (tw5 (List.mem_of_getElem? (i := 35) rfl) rfl) (fp6 5 (by decide)) rfl (fun a => absurd a (by decide)) (fun _ _ => ⟨rfl, rfl⟩)
set_option maxRecDepth 100000 in
theorem pe6_31_12 (kn : List rM) {m : Nat} (h : (rE0.1 m).cls = "PackHouse$Packer") : rpo (rpar kn) rE0 m 31 (12, 9, 3, .null) := po12 (T := FT9) h rfl (tw5 (List.mem_of_getElem? (i := 24) rfl) rfl) (tw1 (List.mem_of_getElem? (i := 84) rfl) rfl) (tw1 (List.mem_of_getElem? (i := 4) rfl) rfl)
set_option maxRecDepth 100000 in
theorem pe6_33_23 (kn : List rM) {m : Nat} (h : (rE0.1 m).cls = "PackHouse$Packer") : rpo (rpar kn) rE0 m 33 (23, 185, 0, .ref 9) := po23 h (pm185 kn) (tn5 (List.mem_of_getElem? (i := 25) rfl) rfl) (tw1 (List.mem_of_getElem? (i := 86) rfl) rfl) rfl rfl
set_option maxRecDepth 100000 in
theorem pe6_34_0 (kn : List rM) {m : Nat} (h : (rE0.1 m).cls = "PackHouse$Packer") : rpo (rpar kn) rE0 m 34 (0, 6, 6, .ref 11) := po0 (C := "PackHouse$Packer") (T := FT6) (N := 19) (ty := fy6 6) h rfl (by decide) rfl (tw5 (List.mem_of_getElem? (i := 36) rfl) rfl) (fp6 6 (by decide)) rfl (fun a => absurd a (by decide)) (fun _ _ => ⟨rfl, rfl⟩)
set_option maxRecDepth 100000 in
theorem pe6_38_0 (kn : List rM) {m : Nat} (h : (rE0.1 m).cls = "PackHouse$Packer") : rpo (rpar kn) rE0 m 38 (0, 6, 7, .ref 11) := po0 (C := "PackHouse$Packer") (T := FT6) (N := 19) (ty := fy6 7) h rfl (by decide) rfl (tw5 (List.mem_of_getElem? (i := 37) rfl) rfl) (fp6 7 (by decide)) rfl (fun a => absurd a (by decide)) (fun _ _ => ⟨rfl, rfl⟩)
set_option maxRecDepth 100000 in
theorem pe6_41_12 (kn : List rM) {m : Nat} (h : (rE0.1 m).cls = "PackHouse$Packer") : rpo (rpar kn) rE0 m 41 (12, 7, 5, .null) := po12 (T := FT7) h rfl (tw5 (List.mem_of_getElem? (i := 26) rfl) rfl) (tw1 (List.mem_of_getElem? (i := 33) rfl) rfl) (tw1 (List.mem_of_getElem? (i := 2) rfl) rfl)
set_option maxRecDepth 100000 in
theorem pe6_43_23 (kn : List rM) {m : Nat} (h : (rE0.1 m).cls = "PackHouse$Packer") : rpo (rpar kn) rE0 m 43 (23, 155, 0, .ref 7) := po23 h (pm155 kn) (tn5 (List.mem_of_getElem? (i := 27) rfl) rfl) (tw1 (List.mem_of_getElem? (i := 35) rfl) rfl) rfl rfl
set_option maxRecDepth 100000 in
theorem pe6_44_0 (kn : List rM) {m : Nat} (h : (rE0.1 m).cls = "PackHouse$Packer") : rpo (rpar kn) rE0 m 44 (0, 6, 8, .ref 11) := po0 (C := "PackHouse$Packer") (T := FT6) (N := 19) (ty := fy6 8) h rfl (by decide) rfl (tw5 (List.mem_of_getElem? (i := 38) rfl) rfl) (fp6 8 (by decide)) rfl (fun a => absurd a (by decide)) (fun _ _ => ⟨rfl, rfl⟩)
set_option maxRecDepth 100000 in
theorem pe6_48_0 (kn : List rM) {m : Nat} (h : (rE0.1 m).cls = "PackHouse$Packer") : rpo (rpar kn) rE0 m 48 (0, 6, 9, .ref 11) := po0 (C := "PackHouse$Packer") (T := FT6) (N := 19) (ty := fy6 9) h rfl (by decide) rfl (tw5 (List.mem_of_getElem? (i := 39) rfl) rfl) (fp6 9 (by decide)) rfl (fun a => absurd a (by decide)) (fun _ _ => ⟨rfl, rfl⟩)
set_option maxRecDepth 100000 in
theorem pe6_51_0 (kn : List rM) {m : Nat} (h : (rE0.1 m).cls = "PackHouse$Packer") : rpo (rpar kn) rE0 m 51 (0, 6, 10, .ref 11) := po0 (C := "PackHouse$Packer") (T := FT6) (N := 19) (ty := fy6 10) h rfl (by decide) rfl (tw5 (List.mem_of_getElem? (i := 40) rfl) rfl) (fp6 10 (by decide)) rfl (fun a => absurd a (by decide)) (fun _ _ => ⟨rfl, rfl⟩)
set_option maxRecDepth 100000 in
theorem pe6_54_0 (kn : List rM) {m : Nat} (h : (rE0.1 m).cls = "PackHouse$Packer") : rpo (rpar kn) rE0 m 54 (0, 6, 11, .ref 11) := po0 (C := "PackHouse$Packer") (T := FT6) (N := 19) (ty := fy6 11) h rfl (by decide) rfl (tw5 (List.mem_of_getElem? (i := 41) rfl) rfl) (fp6 11 (by decide)) rfl (fun a => absurd a (by decide)) (fun _ _ => ⟨rfl, rfl⟩)
set_option maxRecDepth 100000 in
theorem pe6_58_0 (kn : List rM) {m : Nat} (h : (rE0.1 m).cls = "PackHouse$Packer") : rpo (rpar kn) rE0 m 58 (0, 6, 12, .ref 11) := po0 (C := "PackHouse$Packer") (T := FT6) (N := 19) (ty := fy6 12) h rfl (by decide) rfl (tw5 (List.mem_of_getElem? (i := 42) rfl) rfl) (fp6 12 (by decide)) rfl (fun a => absurd a (by decide)) (fun _ _ => ⟨rfl, rfl⟩)
set_option maxRecDepth 100000 in
theorem pe6_61_16 (kn : List rM) {m : Nat} (h : (rE0.1 m).cls = "PackHouse$Packer") : rpo (rpar kn) rE0 m 61 (16, 0, 0, .null) := po16 h (tw5 (List.mem_of_getElem? (i := 28) rfl) rfl)
set_option maxRecDepth 100000 in
theorem pe6_63_0 (kn : List rM) {m : Nat} (h : (rE0.1 m).cls = "PackHouse$Packer") : rpo (rpar kn) rE0 m 63 (0, 6, 13, .ref 3) := po0 (C := "PackHouse$Packer") (T := FT6) (N := 19) (ty := fy6 13) h rfl (by decide) rfl (tw5 (List.mem_of_getElem? (i := 43) rfl) rfl) (fp6 13 (by decide)) rfl (fun _ => rfl) (fun a _ => absurd a (by decide))
set_option maxRecDepth 100000 in
theorem pe6_66_0 (kn : List rM) {m : Nat} (h : (rE0.1 m).cls = "PackHouse$Packer") : rpo (rpar kn) rE0 m 66 (0, 6, 14, .ref 3) := po0 (C := "PackHouse$Packer") (T := FT6) (N := 19) (ty := fy6 14) h rfl (by decide) rfl (tw5 (List.mem_of_getElem? (i := 44) rfl) rfl) (fp6 14 (by decide)) rfl (fun _ => rfl) (fun a _ => absurd a (by decide))
set_option maxRecDepth 100000 in
theorem pe6_69_0 (kn : List rM) {m : Nat} (h : (rE0.1 m).cls = "PackHouse$Packer") : rpo (rpar kn) rE0 m 69 (0, 6, 17, .ref 11) := po0 (C := "PackHouse$Packer") (T := FT6) (N := 19) (ty := fy6 17) h rfl (by decide) rfl (tw5 (List.mem_of_getElem? (i := 47) rfl) rfl) (fp6 17 (by decide)) rfl (fun a => absurd a (by decide)) (fun _ _ => ⟨rfl, rfl⟩)
set_option maxRecDepth 100000 in
theorem pe6_72_0 (kn : List rM) {m : Nat} (h : (rE0.1 m).cls = "PackHouse$Packer") : rpo (rpar kn) rE0 m 72 (0, 6, 18, .ref 11) := po0 (C := "PackHouse$Packer") (T := FT6) (N := 19) (ty := fy6 18) h rfl (by decide) rfl (tw5 (List.mem_of_getElem? (i := 48) rfl) rfl) (fp6 18 (by decide)) rfl (fun a => absurd a (by decide)) (fun _ _ => ⟨rfl, rfl⟩)
set_option maxRecDepth 100000 in
theorem pe6_75_0 (kn : List rM) {m : Nat} (h : (rE0.1 m).cls = "PackHouse$Packer") : rpo (rpar kn) rE0 m 75 (0, 6, 0, .ref 11) := po0 (C := "PackHouse$Packer") (T := FT6) (N := 19) (ty := fy6 0) h rfl (by decide) rfl (tw5 (List.mem_of_getElem? (i := 30) rfl) rfl) (fp6 0 (by decide)) rfl (fun a => absurd a (by decide)) (fun _ _ => ⟨rfl, rfl⟩)
set_option maxRecDepth 100000 in
theorem pe6_78_0 (kn : List rM) {m : Nat} (h : (rE0.1 m).cls = "PackHouse$Packer") : rpo (rpar kn) rE0 m 78 (0, 6, 1, .ref 11) := po0 (C := "PackHouse$Packer") (T := FT6) (N := 19) (ty := fy6 1) h rfl (by decide) rfl (tw5 (List.mem_of_getElem? (i := 31) rfl) rfl) (fp6 1 (by decide)) rfl (fun a => absurd a (by decide)) (fun _ _ => ⟨rfl, rfl⟩)
set_option maxRecDepth 100000 in
theorem pe6_82_0 (kn : List rM) {m : Nat} (h : (rE0.1 m).cls = "PackHouse$Packer") : rpo (rpar kn) rE0 m 82 (0, 6, 2, .ref 11) := po0 (C := "PackHouse$Packer") (T := FT6) (N := 19) (ty := fy6 2) h rfl (by decide) rfl (tw5 (List.mem_of_getElem? (i := 32) rfl) rfl) (fp6 2 (by decide)) rfl (fun a => absurd a (by decide)) (fun _ _ => ⟨rfl, rfl⟩)
set_option maxRecDepth 100000 in
theorem pe6_85_10 (kn : List rM) {m : Nat} (h : (rE0.1 m).cls = "PackHouse$Packer") : rpo (rpar kn) rE0 m 85 (10, 0, 0, .int (131072)) := po10 h (tw5 (List.mem_of_getElem? (i := 114) rfl) rfl)
set_option maxRecDepth 100000 in
theorem pe6_86_24 (kn : List rM) {m : Nat} (h : (rE0.1 m).cls = "PackHouse$Packer") : rpo (rpar kn) rE0 m 86 (24, 132, 2, .null) := po24 h (pm132 kn) (tw5 (List.mem_of_getElem? (i := 107) rfl) rfl) (tw5 (List.mem_of_getElem? (i := 108) rfl) rfl)
set_option maxRecDepth 100000 in
theorem pe6_90_30 (kn : List rM) {m : Nat} (h : (rE0.1 m).cls = "PackHouse$Packer") : rpo (rpar kn) rE0 m 90 (30, 0, 0, .null) := po30 h (tw5 (List.mem_of_getElem? (i := 115) rfl) rfl)
set_option maxRecDepth 100000 in
theorem pe6_96_29 (kn : List rM) {m : Nat} (h : (rE0.1 m).cls = "PackHouse$Packer") : rpo (rpar kn) rE0 m 96 (29, 0, 0, .null) := po29 h (tw5 (List.mem_of_getElem? (i := 116) rfl) rfl)
set_option maxRecDepth 100000 in
theorem pe6_99_0 (kn : List rM) {m : Nat} (h : (rE0.1 m).cls = "PackHouse$Packer") : rpo (rpar kn) rE0 m 99 (0, 7, 1, .ref 0) := po0 (C := "PackHouse$Row") (T := FT7) (N := 5) (ty := fy7 1) h rfl (by decide) rfl (tw1 (List.mem_of_getElem? (i := 51) rfl) rfl) (fp7 1 (by decide)) rfl (fun _ => rfl) (fun a _ => absurd a (by decide))
set_option maxRecDepth 100000 in
theorem pe6_103_28 (kn : List rM) {m : Nat} (h : (rE0.1 m).cls = "PackHouse$Packer") : rpo (rpar kn) rE0 m 103 (28, 0, 0, .null) := po28 h (tw5 (List.mem_of_getElem? (i := 93) rfl) rfl)
set_option maxRecDepth 100000 in
theorem pe6_109_0 (kn : List rM) {m : Nat} (h : (rE0.1 m).cls = "PackHouse$Packer") : rpo (rpar kn) rE0 m 109 (0, 4, 2, .ref 0) := po0 (C := "PackHouse$Dictionary") (T := FT4) (N := 5) (ty := fy4 2) h rfl (by decide) rfl (tw1 (List.mem_of_getElem? (i := 120) rfl) rfl) (fp4 2 (by decide)) rfl (fun _ => rfl) (fun a _ => absurd a (by decide))
set_option maxRecDepth 100000 in
theorem pe6_112_20 (kn : List rM) {m : Nat} (h : (rE0.1 m).cls = "PackHouse$Packer") : rpo (rpar kn) rE0 m 112 (20, 135, 3, .ref 6) := po20 h (pm135 kn) (tw5 (List.mem_of_getElem? (i := 94) rfl) rfl) (tw5 (List.mem_of_getElem? (i := 96) rfl) rfl) (pw2 (List.mem_of_getElem? (i := 9) rfl)) rfl rfl
set_option maxRecDepth 100000 in
theorem pe6_116_0 (kn : List rM) {m : Nat} (h : (rE0.1 m).cls = "PackHouse$Packer") : rpo (rpar kn) rE0 m 116 (0, 4, 1, .ref 19) := po0 (C := "PackHouse$Dictionary") (T := FT4) (N := 5) (ty := fy4 1) h rfl (by decide) rfl (tw1 (List.mem_of_getElem? (i := 117) rfl) rfl) (fp4 1 (by decide)) rfl (fun a => absurd a (by decide)) (fun _ b => absurd b (by decide))
set_option maxRecDepth 100000 in
theorem pe6_119_20 (kn : List rM) {m : Nat} (h : (rE0.1 m).cls = "PackHouse$Packer") : rpo (rpar kn) rE0 m 119 (20, 187, 1, .ref 9) := po20 h (pm187 kn) (tw5 (List.mem_of_getElem? (i := 101) rfl) rfl) (tw5 (List.mem_of_getElem? (i := 102) rfl) rfl) (tw5 (List.mem_of_getElem? (i := 103) rfl) rfl) rfl rfl
set_option maxRecDepth 100000 in
theorem pe6_123_0 (kn : List rM) {m : Nat} (h : (rE0.1 m).cls = "PackHouse$Packer") : rpo (rpar kn) rE0 m 123 (0, 4, 0, .ref 19) := po0 (C := "PackHouse$Dictionary") (T := FT4) (N := 5) (ty := fy4 0) h rfl (by decide) rfl (tw1 (List.mem_of_getElem? (i := 113) rfl) rfl) (fp4 0 (by decide)) rfl (fun a => absurd a (by decide)) (fun _ b => absurd b (by decide))
set_option maxRecDepth 100000 in
theorem pe6_126_0 (kn : List rM) {m : Nat} (h : (rE0.1 m).cls = "PackHouse$Packer") : rpo (rpar kn) rE0 m 126 (0, 5, 0, .ref 19) := po0 (C := "PackHouse$Finder") (T := FT5) (N := 19) (ty := fy5 0) h rfl (by decide) rfl (tw3 (List.mem_of_getElem? (i := 160) rfl) rfl) (fp5 0 (by decide)) rfl (fun a => absurd a (by decide)) (fun _ b => absurd b (by decide))
set_option maxRecDepth 100000 in
theorem pe6_131_20 (kn : List rM) {m : Nat} (h : (rE0.1 m).cls = "PackHouse$Packer") : rpo (rpar kn) rE0 m 131 (20, 158, 1, .ref 7) := po20 h (pm158 kn) (tw5 (List.mem_of_getElem? (i := 105) rfl) rfl) (tw2 (List.mem_of_getElem? (i := 119) rfl) rfl) (tw2 (List.mem_of_getElem? (i := 120) rfl) rfl) rfl rfl
set_option maxRecDepth 100000 in
theorem pe6_134_0 (kn : List rM) {m : Nat} (h : (rE0.1 m).cls = "PackHouse$Packer") : rpo (rpar kn) rE0 m 134 (0, 7, 0, .ref 3) := po0 (C := "PackHouse$Row") (T := FT7) (N := 5) (ty := fy7 0) h rfl (by decide) rfl (tw1 (List.mem_of_getElem? (i := 43) rfl) rfl) (fp7 0 (by decide)) rfl (fun _ => rfl) (fun a _ => absurd a (by decide))
set_option maxRecDepth 100000 in
theorem pe6_138_20 (kn : List rM) {m : Nat} (h : (rE0.1 m).cls = "PackHouse$Packer") : rpo (rpar kn) rE0 m 138 (20, 161, 3, .ref 7) := po20 h (pm161 kn) (tw5 (List.mem_of_getElem? (i := 106) rfl) rfl) (tw2 (List.mem_of_getElem? (i := 19) rfl) rfl) (tw2 (List.mem_of_getElem? (i := 20) rfl) rfl) rfl rfl
set_option maxRecDepth 100000 in
theorem pe6_142_20 (kn : List rM) {m : Nat} (h : (rE0.1 m).cls = "PackHouse$Packer") : rpo (rpar kn) rE0 m 142 (20, 121, 3, .ref 5) := po20 h (pm121 kn) (tw5 (List.mem_of_getElem? (i := 110) rfl) rfl) (tw4 (List.mem_of_getElem? (i := 49) rfl) rfl) (tw4 (List.mem_of_getElem? (i := 50) rfl) rfl) rfl rfl
set_option maxRecDepth 100000 in
theorem pe6_146_24 (kn : List rM) {m : Nat} (h : (rE0.1 m).cls = "PackHouse$Packer") : rpo (rpar kn) rE0 m 146 (24, 133, 2, .null) := po24 h (pm133 kn) (tw5 (List.mem_of_getElem? (i := 111) rfl) rfl) (tw5 (List.mem_of_getElem? (i := 112) rfl) rfl)
set_option maxRecDepth 100000 in
theorem pe6_149_0 (kn : List rM) {m : Nat} (h : (rE0.1 m).cls = "PackHouse$Packer") : rpo (rpar kn) rE0 m 149 (0, 7, 2, .ref 1) := po0 (C := "PackHouse$Row") (T := FT7) (N := 5) (ty := fy7 2) h rfl (by decide) rfl (tw1 (List.mem_of_getElem? (i := 56) rfl) rfl) (fp7 2 (by decide)) rfl (fun _ => rfl) (fun a _ => absurd a (by decide))
set_option maxRecDepth 100000 in
theorem pe6_153_20 (kn : List rM) {m : Nat} (h : (rE0.1 m).cls = "PackHouse$Packer") : rpo (rpar kn) rE0 m 153 (20, 136, 4, .ref 6) := po20 h (pm136 kn) (tw5 (List.mem_of_getElem? (i := 117) rfl) rfl) (tw5 (List.mem_of_getElem? (i := 119) rfl) rfl) (pw2 (List.mem_of_getElem? (i := 10) rfl)) rfl rfl
set_option maxRecDepth 100000 in
theorem pe6_157_25 (kn : List rM) {m : Nat} (h : (rE0.1 m).cls = "PackHouse$Packer") : rpo (rpar kn) rE0 m 157 (25, 51, 4, .null) := po25 h (pm51 kn) (tn6 (List.mem_of_getElem? (i := 89) rfl) rfl) (tw2 (List.mem_of_getElem? (i := 82) rfl) rfl)
set_option maxRecDepth 100000 in
theorem pe6_161_20 (kn : List rM) {m : Nat} (h : (rE0.1 m).cls = "PackHouse$Packer") : rpo (rpar kn) rE0 m 161 (20, 160, 2, .ref 7) := po20 h (pm160 kn) (tw5 (List.mem_of_getElem? (i := 99) rfl) rfl) (tw4 (List.mem_of_getElem? (i := 117) rfl) rfl) (tw4 (List.mem_of_getElem? (i := 118) rfl) rfl) rfl rfl
set_option maxRecDepth 100000 in
theorem pe6_165_11 (kn : List rM) {m : Nat} (h : (rE0.1 m).cls = "PackHouse$Packer") : rpo (rpar kn) rE0 m 165 (11, 0, 0, .long (-47205080)) := po11 h (tw5 (List.mem_of_getElem? (i := 98) rfl) rfl)
set_option maxRecDepth 100000 in
theorem pe6_167_20 (kn : List rM) {m : Nat} (h : (rE0.1 m).cls = "PackHouse$Packer") : rpo (rpar kn) rE0 m 167 (20, 159, 1, .ref 7) := po20 h (pm159 kn) (tw5 (List.mem_of_getElem? (i := 100) rfl) rfl) (tw1 (List.mem_of_getElem? (i := 231) rfl) rfl) (tw1 (List.mem_of_getElem? (i := 232) rfl) rfl) rfl rfl
set_option maxRecDepth 100000 in
theorem pe6_171_24 (kn : List rM) {m : Nat} (h : (rE0.1 m).cls = "PackHouse$Packer") : rpo (rpar kn) rE0 m 171 (24, 138, 3, .null) := po24 h (pm138 kn) (tw5 (List.mem_of_getElem? (i := 121) rfl) rfl) (tw5 (List.mem_of_getElem? (i := 122) rfl) rfl)
set_option maxRecDepth 100000 in
theorem pe6_175_11 (kn : List rM) {m : Nat} (h : (rE0.1 m).cls = "PackHouse$Packer") : rpo (rpar kn) rE0 m 175 (11, 0, 0, .long (8)) := po11 h (tw5 (List.mem_of_getElem? (i := 124) rfl) rfl)
set_option maxRecDepth 100000 in
theorem pe6_177_11 (kn : List rM) {m : Nat} (h : (rE0.1 m).cls = "PackHouse$Packer") : rpo (rpar kn) rE0 m 177 (11, 0, 0, .long (2)) := po11 h (tw5 (List.mem_of_getElem? (i := 125) rfl) rfl)
set_option maxRecDepth 100000 in
theorem pe6_179_20 (kn : List rM) {m : Nat} (h : (rE0.1 m).cls = "PackHouse$Packer") : rpo (rpar kn) rE0 m 179 (20, 156, 0, .ref 7) := po20 h (pm156 kn) (tw5 (List.mem_of_getElem? (i := 126) rfl) rfl) (tw2 (List.mem_of_getElem? (i := 123) rfl) rfl) (tw2 (List.mem_of_getElem? (i := 124) rfl) rfl) rfl rfl
set_option maxRecDepth 100000 in
theorem pe6_182_20 (kn : List rM) {m : Nat} (h : (rE0.1 m).cls = "PackHouse$Packer") : rpo (rpar kn) rE0 m 182 (20, 139, 2, .ref 6) := po20 h (pm139 kn) (tw5 (List.mem_of_getElem? (i := 127) rfl) rfl) (tw5 (List.mem_of_getElem? (i := 129) rfl) rfl) (pw2 (List.mem_of_getElem? (i := 11) rfl)) rfl rfl
set_option maxRecDepth 100000 in
theorem pe6_186_20 (kn : List rM) {m : Nat} (h : (rE0.1 m).cls = "PackHouse$Packer") : rpo (rpar kn) rE0 m 186 (20, 140, 0, .ref 6) := po20 h (pm140 kn) (tw5 (List.mem_of_getElem? (i := 133) rfl) rfl) (tw5 (List.mem_of_getElem? (i := 135) rfl) rfl) (pw2 (List.mem_of_getElem? (i := 12) rfl)) rfl rfl
set_option maxRecDepth 100000 in
theorem pe6_189_20 (kn : List rM) {m : Nat} (h : (rE0.1 m).cls = "PackHouse$Packer") : rpo (rpar kn) rE0 m 189 (20, 143, 0, .ref 6) := po20 h (pm143 kn) (tw5 (List.mem_of_getElem? (i := 237) rfl) rfl) (tw5 (List.mem_of_getElem? (i := 239) rfl) rfl) (pw3 (List.mem_of_getElem? (i := 8) rfl)) rfl rfl
set_option maxRecDepth 100000 in
theorem pe6_193_0 (kn : List rM) {m : Nat} (h : (rE0.1 m).cls = "PackHouse$Packer") : rpo (rpar kn) rE0 m 193 (0, 5, 4, .ref 0) := po0 (C := "PackHouse$Finder") (T := FT5) (N := 19) (ty := fy5 4) h rfl (by decide) rfl (tw3 (List.mem_of_getElem? (i := 176) rfl) rfl) (fp5 4 (by decide)) rfl (fun _ => rfl) (fun a _ => absurd a (by decide))
set_option maxRecDepth 100000 in
theorem pe6_196_20 (kn : List rM) {m : Nat} (h : (rE0.1 m).cls = "PackHouse$Packer") : rpo (rpar kn) rE0 m 196 (20, 147, 1, .ref 6) := po20 h (pm147 kn) (tw6 (List.mem_of_getElem? (i := 27) rfl) rfl) (tw6 (List.mem_of_getElem? (i := 29) rfl) rfl) (pw3 (List.mem_of_getElem? (i := 11) rfl)) rfl rfl
set_option maxRecDepth 100000 in
theorem pe6_199_20 (kn : List rM) {m : Nat} (h : (rE0.1 m).cls = "PackHouse$Packer") : rpo (rpar kn) rE0 m 199 (20, 150, 1, .ref 6) := po20 h (pm150 kn) (tw6 (List.mem_of_getElem? (i := 64) rfl) rfl) (tw6 (List.mem_of_getElem? (i := 66) rfl) rfl) (pw3 (List.mem_of_getElem? (i := 15) rfl)) rfl rfl
set_option maxRecDepth 100000 in
theorem pe6_202_20 (kn : List rM) {m : Nat} (h : (rE0.1 m).cls = "PackHouse$Packer") : rpo (rpar kn) rE0 m 202 (20, 137, 0, .ref 6) := po20 h (pm137 kn) (tw6 (List.mem_of_getElem? (i := 85) rfl) rfl) (tw6 (List.mem_of_getElem? (i := 87) rfl) rfl) (pw4 (List.mem_of_getElem? (i := 2) rfl)) rfl rfl
set_option maxRecDepth 100000 in
theorem pe6_205_0 (kn : List rM) {m : Nat} (h : (rE0.1 m).cls = "PackHouse$Packer") : rpo (rpar kn) rE0 m 205 (0, 6, 16, .ref 0) := po0 (C := "PackHouse$Packer") (T := FT6) (N := 19) (ty := fy6 16) h rfl (by decide) rfl (tw5 (List.mem_of_getElem? (i := 46) rfl) rfl) (fp6 16 (by decide)) rfl (fun _ => rfl) (fun a _ => absurd a (by decide))
set_option maxRecDepth 100000 in
theorem pe6_208_20 (kn : List rM) {m : Nat} (h : (rE0.1 m).cls = "PackHouse$Packer") : rpo (rpar kn) rE0 m 208 (20, 123, 1, .ref 5) := po20 h (pm123 kn) (tw5 (List.mem_of_getElem? (i := 131) rfl) rfl) (tw4 (List.mem_of_getElem? (i := 58) rfl) rfl) (tw4 (List.mem_of_getElem? (i := 59) rfl) rfl) rfl rfl
set_option maxRecDepth 100000 in
theorem pe6_211_20 (kn : List rM) {m : Nat} (h : (rE0.1 m).cls = "PackHouse$Packer") : rpo (rpar kn) rE0 m 211 (20, 125, 4, .ref 5) := po20 h (pm125 kn) (tw5 (List.mem_of_getElem? (i := 132) rfl) rfl) (tw4 (List.mem_of_getElem? (i := 77) rfl) rfl) (tw4 (List.mem_of_getElem? (i := 78) rfl) rfl) rfl rfl
set_option maxRecDepth 100000 in
theorem pe6_215_0 (kn : List rM) {m : Nat} (h : (rE0.1 m).cls = "PackHouse$Packer") : rpo (rpar kn) rE0 m 215 (0, 5, 1, .ref 3) := po0 (C := "PackHouse$Finder") (T := FT5) (N := 19) (ty := fy5 1) h rfl (by decide) rfl (tw3 (List.mem_of_getElem? (i := 164) rfl) rfl) (fp5 1 (by decide)) rfl (fun _ => rfl) (fun a _ => absurd a (by decide))
set_option maxRecDepth 100000 in
theorem pe6_217_0 (kn : List rM) {m : Nat} (h : (rE0.1 m).cls = "PackHouse$Packer") : rpo (rpar kn) rE0 m 217 (0, 5, 2, .ref 3) := po0 (C := "PackHouse$Finder") (T := FT5) (N := 19) (ty := fy5 2) h rfl (by decide) rfl (tw3 (List.mem_of_getElem? (i := 168) rfl) rfl) (fp5 2 (by decide)) rfl (fun _ => rfl) (fun a _ => absurd a (by decide))
set_option maxRecDepth 100000 in
theorem pe6_220_0 (kn : List rM) {m : Nat} (h : (rE0.1 m).cls = "PackHouse$Packer") : rpo (rpar kn) rE0 m 220 (0, 5, 5, .ref 0) := po0 (C := "PackHouse$Finder") (T := FT5) (N := 19) (ty := fy5 5) h rfl (by decide) rfl (tw3 (List.mem_of_getElem? (i := 180) rfl) rfl) (fp5 5 (by decide)) rfl (fun _ => rfl) (fun a _ => absurd a (by decide))
set_option maxRecDepth 100000 in
theorem pe6_223_0 (kn : List rM) {m : Nat} (h : (rE0.1 m).cls = "PackHouse$Packer") : rpo (rpar kn) rE0 m 223 (0, 9, 0, .ref 3) := po0 (C := "PackHouse$Stand") (T := FT9) (N := 3) (ty := fy9 0) h rfl (by decide) rfl (tw1 (List.mem_of_getElem? (i := 95) rfl) rfl) (fp9 0 (by decide)) rfl (fun _ => rfl) (fun a _ => absurd a (by decide))
set_option maxRecDepth 100000 in
theorem pe6_227_20 (kn : List rM) {m : Nat} (h : (rE0.1 m).cls = "PackHouse$Packer") : rpo (rpar kn) rE0 m 227 (20, 141, 2, .ref 6) := po20 h (pm141 kn) (tw5 (List.mem_of_getElem? (i := 137) rfl) rfl) (tw5 (List.mem_of_getElem? (i := 139) rfl) rfl) (pw2 (List.mem_of_getElem? (i := 13) rfl)) rfl rfl
set_option maxRecDepth 100000 in
theorem pe6_231_20 (kn : List rM) {m : Nat} (h : (rE0.1 m).cls = "PackHouse$Packer") : rpo (rpar kn) rE0 m 231 (20, 97, 1, .ref 3) := po20 h (pm97 kn) (tw5 (List.mem_of_getElem? (i := 145) rfl) rfl) (tw5 (List.mem_of_getElem? (i := 146) rfl) rfl) (tw5 (List.mem_of_getElem? (i := 147) rfl) rfl) rfl rfl
set_option maxRecDepth 100000 in
theorem pe6_235_20 (kn : List rM) {m : Nat} (h : (rE0.1 m).cls = "PackHouse$Packer") : rpo (rpar kn) rE0 m 235 (20, 104, 1, .ref 3) := po20 h (pm104 kn) (tw5 (List.mem_of_getElem? (i := 169) rfl) rfl) (tw5 (List.mem_of_getElem? (i := 170) rfl) rfl) (tw5 (List.mem_of_getElem? (i := 171) rfl) rfl) rfl rfl
set_option maxRecDepth 100000 in
theorem pe6_239_20 (kn : List rM) {m : Nat} (h : (rE0.1 m).cls = "PackHouse$Packer") : rpo (rpar kn) rE0 m 239 (20, 103, 0, .ref 3) := po20 h (pm103 kn) (tw5 (List.mem_of_getElem? (i := 228) rfl) rfl) (tw3 (List.mem_of_getElem? (i := 105) rfl) rfl) (tw3 (List.mem_of_getElem? (i := 106) rfl) rfl) rfl rfl
set_option maxRecDepth 100000 in
theorem pe6_241_20 (kn : List rM) {m : Nat} (h : (rE0.1 m).cls = "PackHouse$Packer") : rpo (rpar kn) rE0 m 241 (20, 142, 1, .ref 6) := po20 h (pm142 kn) (tw5 (List.mem_of_getElem? (i := 229) rfl) rfl) (tw5 (List.mem_of_getElem? (i := 231) rfl) rfl) (pw3 (List.mem_of_getElem? (i := 7) rfl)) rfl rfl
set_option maxRecDepth 100000 in
theorem pe6_244_20 (kn : List rM) {m : Nat} (h : (rE0.1 m).cls = "PackHouse$Packer") : rpo (rpar kn) rE0 m 244 (20, 112, 3, .ref 3) := po20 h (pm112 kn) (tw5 (List.mem_of_getElem? (i := 141) rfl) rfl) (tw5 (List.mem_of_getElem? (i := 142) rfl) rfl) (tw5 (List.mem_of_getElem? (i := 143) rfl) rfl) rfl rfl
set_option maxRecDepth 100000 in
theorem pe6_248_20 (kn : List rM) {m : Nat} (h : (rE0.1 m).cls = "PackHouse$Packer") : rpo (rpar kn) rE0 m 248 (20, 111, 4, .ref 3) := po20 h (pm111 kn) (tw5 (List.mem_of_getElem? (i := 233) rfl) rfl) (tw5 (List.mem_of_getElem? (i := 234) rfl) rfl) (tw5 (List.mem_of_getElem? (i := 235) rfl) rfl) rfl rfl
set_option maxRecDepth 100000 in
theorem pe6_252_20 (kn : List rM) {m : Nat} (h : (rE0.1 m).cls = "PackHouse$Packer") : rpo (rpar kn) rE0 m 252 (20, 144, 0, .ref 6) := po20 h (pm144 kn) (tw6 (List.mem_of_getElem? (i := 1) rfl) rfl) (tw6 (List.mem_of_getElem? (i := 3) rfl) rfl) (pw3 (List.mem_of_getElem? (i := 9) rfl)) rfl rfl
set_option maxRecDepth 100000 in
theorem pe6_255_0 (kn : List rM) {m : Nat} (h : (rE0.1 m).cls = "PackHouse$Packer") : rpo (rpar kn) rE0 m 255 (0, 5, 3, .ref 3) := po0 (C := "PackHouse$Finder") (T := FT5) (N := 19) (ty := fy5 3) h rfl (by decide) rfl (tw3 (List.mem_of_getElem? (i := 172) rfl) rfl) (fp5 3 (by decide)) rfl (fun _ => rfl) (fun a _ => absurd a (by decide))
set_option maxRecDepth 100000 in
theorem pe6_258_20 (kn : List rM) {m : Nat} (h : (rE0.1 m).cls = "PackHouse$Packer") : rpo (rpar kn) rE0 m 258 (20, 190, 2, .ref 9) := po20 h (pm190 kn) (tw6 (List.mem_of_getElem? (i := 5) rfl) rfl) (tw6 (List.mem_of_getElem? (i := 6) rfl) rfl) (tw6 (List.mem_of_getElem? (i := 7) rfl) rfl) rfl rfl
set_option maxRecDepth 100000 in
theorem pe6_261_20 (kn : List rM) {m : Nat} (h : (rE0.1 m).cls = "PackHouse$Packer") : rpo (rpar kn) rE0 m 261 (20, 189, 2, .ref 9) := po20 h (pm189 kn) (tw6 (List.mem_of_getElem? (i := 13) rfl) rfl) (tw6 (List.mem_of_getElem? (i := 14) rfl) rfl) (tw6 (List.mem_of_getElem? (i := 15) rfl) rfl) rfl rfl
set_option maxRecDepth 100000 in
theorem pe6_265_15 (kn : List rM) {m : Nat} (h : (rE0.1 m).cls = "PackHouse$Packer") : rpo (rpar kn) rE0 m 265 (15, 7, 0, .null) := po15 h (by decide) (tn6 (List.mem_of_getElem? (i := 19) rfl) rfl)
set_option maxRecDepth 100000 in
theorem pe6_268_24 (kn : List rM) {m : Nat} (h : (rE0.1 m).cls = "PackHouse$Packer") : rpo (rpar kn) rE0 m 268 (24, 145, 2, .null) := po24 h (pm145 kn) (tw6 (List.mem_of_getElem? (i := 21) rfl) rfl) (tw6 (List.mem_of_getElem? (i := 22) rfl) rfl)
set_option maxRecDepth 100000 in
theorem pe6_272_25 (kn : List rM) {m : Nat} (h : (rE0.1 m).cls = "PackHouse$Packer") : rpo (rpar kn) rE0 m 272 (25, 45, 1, .null) := po25 h (pm45 kn) (tn6 (List.mem_of_getElem? (i := 24) rfl) rfl) (tw3 (List.mem_of_getElem? (i := 75) rfl) rfl)
set_option maxRecDepth 100000 in
theorem pe6_276_15 (kn : List rM) {m : Nat} (h : (rE0.1 m).cls = "PackHouse$Packer") : rpo (rpar kn) rE0 m 276 (15, 9, 0, .null) := po15 h (by decide) (tn6 (List.mem_of_getElem? (i := 25) rfl) rfl)
set_option maxRecDepth 100000 in
theorem pe6_279_20 (kn : List rM) {m : Nat} (h : (rE0.1 m).cls = "PackHouse$Packer") : rpo (rpar kn) rE0 m 279 (20, 146, 1, .ref 6) := po20 h (pm146 kn) (tw6 (List.mem_of_getElem? (i := 31) rfl) rfl) (tw6 (List.mem_of_getElem? (i := 33) rfl) rfl) (pw3 (List.mem_of_getElem? (i := 12) rfl)) rfl rfl
set_option maxRecDepth 100000 in
theorem pe6_282_0 (kn : List rM) {m : Nat} (h : (rE0.1 m).cls = "PackHouse$Packer") : rpo (rpar kn) rE0 m 282 (0, 9, 1, .ref 19) := po0 (C := "PackHouse$Stand") (T := FT9) (N := 3) (ty := fy9 1) h rfl (by decide) rfl (tw1 (List.mem_of_getElem? (i := 99) rfl) rfl) (fp9 1 (by decide)) rfl (fun a => absurd a (by decide)) (fun _ b => absurd b (by decide))
set_option maxRecDepth 100000 in
theorem pe6_285_10 (kn : List rM) {m : Nat} (h : (rE0.1 m).cls = "PackHouse$Packer") : rpo (rpar kn) rE0 m 285 (10, 0, 0, .int (2147483647)) := po10 h (tw6 (List.mem_of_getElem? (i := 35) rfl) rfl)
set_option maxRecDepth 100000 in
theorem pe6_286_20 (kn : List rM) {m : Nat} (h : (rE0.1 m).cls = "PackHouse$Packer") : rpo (rpar kn) rE0 m 286 (20, 170, 1, .ref 8) := po20 h (pm170 kn) (tw6 (List.mem_of_getElem? (i := 36) rfl) rfl) (tw6 (List.mem_of_getElem? (i := 37) rfl) rfl) (tw6 (List.mem_of_getElem? (i := 38) rfl) rfl) rfl rfl
set_option maxRecDepth 100000 in
theorem pe6_292_20 (kn : List rM) {m : Nat} (h : (rE0.1 m).cls = "PackHouse$Packer") : rpo (rpar kn) rE0 m 292 (20, 177, 2, .ref 8) := po20 h (pm177 kn) (tw6 (List.mem_of_getElem? (i := 40) rfl) rfl) (tw6 (List.mem_of_getElem? (i := 41) rfl) rfl) (tw6 (List.mem_of_getElem? (i := 42) rfl) rfl) rfl rfl
set_option maxRecDepth 100000 in
theorem pe6_295_20 (kn : List rM) {m : Nat} (h : (rE0.1 m).cls = "PackHouse$Packer") : rpo (rpar kn) rE0 m 295 (20, 149, 4, .ref 6) := po20 h (pm149 kn) (tw6 (List.mem_of_getElem? (i := 47) rfl) rfl) (tw6 (List.mem_of_getElem? (i := 49) rfl) rfl) (pw3 (List.mem_of_getElem? (i := 13) rfl)) rfl rfl
set_option maxRecDepth 100000 in
theorem pe6_299_0 (kn : List rM) {m : Nat} (h : (rE0.1 m).cls = "PackHouse$Packer") : rpo (rpar kn) rE0 m 299 (0, 6, 15, .ref 0) := po0 (C := "PackHouse$Packer") (T := FT6) (N := 19) (ty := fy6 15) h rfl (by decide) rfl (tw5 (List.mem_of_getElem? (i := 45) rfl) rfl) (fp6 15 (by decide)) rfl (fun _ => rfl) (fun a _ => absurd a (by decide))
set_option maxRecDepth 100000 in
theorem pe6_302_20 (kn : List rM) {m : Nat} (h : (rE0.1 m).cls = "PackHouse$Packer") : rpo (rpar kn) rE0 m 302 (20, 168, 1, .ref 8) := po20 h (pm168 kn) (tw6 (List.mem_of_getElem? (i := 60) rfl) rfl) (tw6 (List.mem_of_getElem? (i := 61) rfl) rfl) (tw6 (List.mem_of_getElem? (i := 62) rfl) rfl) rfl rfl
set_option maxRecDepth 100000 in
theorem pe6_305_20 (kn : List rM) {m : Nat} (h : (rE0.1 m).cls = "PackHouse$Packer") : rpo (rpar kn) rE0 m 305 (20, 148, 3, .ref 6) := po20 h (pm148 kn) (tw6 (List.mem_of_getElem? (i := 52) rfl) rfl) (tw6 (List.mem_of_getElem? (i := 54) rfl) rfl) (pw3 (List.mem_of_getElem? (i := 14) rfl)) rfl rfl
set_option maxRecDepth 100000 in
theorem pe6_309_20 (kn : List rM) {m : Nat} (h : (rE0.1 m).cls = "PackHouse$Packer") : rpo (rpar kn) rE0 m 309 (20, 169, 0, .ref 8) := po20 h (pm169 kn) (tw6 (List.mem_of_getElem? (i := 59) rfl) rfl) (tw3 (List.mem_of_getElem? (i := 67) rfl) rfl) (tw3 (List.mem_of_getElem? (i := 68) rfl) rfl) rfl rfl
set_option maxRecDepth 100000 in
theorem pe6_310_20 (kn : List rM) {m : Nat} (h : (rE0.1 m).cls = "PackHouse$Packer") : rpo (rpar kn) rE0 m 310 (20, 178, 3, .ref 8) := po20 h (pm178 kn) (tw6 (List.mem_of_getElem? (i := 56) rfl) rfl) (tw5 (List.mem_of_getElem? (i := 180) rfl) rfl) (tw5 (List.mem_of_getElem? (i := 181) rfl) rfl) rfl rfl
set_option maxRecDepth 100000 in
theorem pe6_314_20 (kn : List rM) {m : Nat} (h : (rE0.1 m).cls = "PackHouse$Packer") : rpo (rpar kn) rE0 m 314 (20, 157, 1, .ref 7) := po20 h (pm157 kn) (tw6 (List.mem_of_getElem? (i := 57) rfl) rfl) (tw1 (List.mem_of_getElem? (i := 202) rfl) rfl) (tw1 (List.mem_of_getElem? (i := 203) rfl) rfl) rfl rfl
set_option maxRecDepth 100000 in
theorem pe6_318_20 (kn : List rM) {m : Nat} (h : (rE0.1 m).cls = "PackHouse$Packer") : rpo (rpar kn) rE0 m 318 (20, 181, 1, .ref 8) := po20 h (pm181 kn) (tw6 (List.mem_of_getElem? (i := 58) rfl) rfl) (tw5 (List.mem_of_getElem? (i := 193) rfl) rfl) (tw5 (List.mem_of_getElem? (i := 194) rfl) rfl) rfl rfl
set_option maxRecDepth 100000 in
theorem pe6_321_15 (kn : List rM) {m : Nat} (h : (rE0.1 m).cls = "PackHouse$Packer") : rpo (rpar kn) rE0 m 321 (15, 2, 0, .null) := po15 h (by decide) (tn6 (List.mem_of_getElem? (i := 51) rfl) rfl)
set_option maxRecDepth 100000 in
theorem pe6_324_20 (kn : List rM) {m : Nat} (h : (rE0.1 m).cls = "PackHouse$Packer") : rpo (rpar kn) rE0 m 324 (20, 174, 1, .ref 8) := po20 h (pm174 kn) (tw6 (List.mem_of_getElem? (i := 68) rfl) rfl) (tw5 (List.mem_of_getElem? (i := 209) rfl) rfl) (tw5 (List.mem_of_getElem? (i := 210) rfl) rfl) rfl rfl
set_option maxRecDepth 100000 in
theorem pe6_327_20 (kn : List rM) {m : Nat} (h : (rE0.1 m).cls = "PackHouse$Packer") : rpo (rpar kn) rE0 m 327 (20, 152, 1, .ref 6) := po20 h (pm152 kn) (tw6 (List.mem_of_getElem? (i := 69) rfl) rfl) (tw6 (List.mem_of_getElem? (i := 71) rfl) rfl) (pw4 (List.mem_of_getElem? (i := 0) rfl)) rfl rfl
set_option maxRecDepth 100000 in
theorem pe6_330_20 (kn : List rM) {m : Nat} (h : (rE0.1 m).cls = "PackHouse$Packer") : rpo (rpar kn) rE0 m 330 (20, 151, 3, .ref 6) := po20 h (pm151 kn) (tw6 (List.mem_of_getElem? (i := 78) rfl) rfl) (tw6 (List.mem_of_getElem? (i := 80) rfl) rfl) (pw4 (List.mem_of_getElem? (i := 1) rfl)) rfl rfl
set_option maxRecDepth 100000 in
theorem pe6_334_0 (kn : List rM) {m : Nat} (h : (rE0.1 m).cls = "PackHouse$Packer") : rpo (rpar kn) rE0 m 334 (0, 8, 0, .ref 0) := po0 (C := "PackHouse$Share") (T := FT8) (N := 13) (ty := fy8 0) h rfl (by decide) rfl (tw2 (List.mem_of_getElem? (i := 166) rfl) rfl) (fp8 0 (by decide)) rfl (fun _ => rfl) (fun a _ => absurd a (by decide))
set_option maxRecDepth 100000 in
theorem pe6_337_20 (kn : List rM) {m : Nat} (h : (rE0.1 m).cls = "PackHouse$Packer") : rpo (rpar kn) rE0 m 337 (20, 164, 2, .ref 7) := po20 h (pm164 kn) (tw6 (List.mem_of_getElem? (i := 75) rfl) rfl) (tw5 (List.mem_of_getElem? (i := 197) rfl) rfl) (tw5 (List.mem_of_getElem? (i := 198) rfl) rfl) rfl rfl
set_option maxRecDepth 100000 in
theorem pe6_340_20 (kn : List rM) {m : Nat} (h : (rE0.1 m).cls = "PackHouse$Packer") : rpo (rpar kn) rE0 m 340 (20, 165, 0, .ref 7) := po20 h (pm165 kn) (tw6 (List.mem_of_getElem? (i := 84) rfl) rfl) (tw5 (List.mem_of_getElem? (i := 205) rfl) rfl) (tw5 (List.mem_of_getElem? (i := 206) rfl) rfl) rfl rfl
set_option maxRecDepth 100000 in
theorem pe6_343_20 (kn : List rM) {m : Nat} (h : (rE0.1 m).cls = "PackHouse$Packer") : rpo (rpar kn) rE0 m 343 (20, 175, 2, .ref 8) := po20 h (pm175 kn) (tw6 (List.mem_of_getElem? (i := 82) rfl) rfl) (tw5 (List.mem_of_getElem? (i := 213) rfl) rfl) (tw5 (List.mem_of_getElem? (i := 214) rfl) rfl) rfl rfl
set_option maxRecDepth 100000 in
theorem pe6_346_20 (kn : List rM) {m : Nat} (h : (rE0.1 m).cls = "PackHouse$Packer") : rpo (rpar kn) rE0 m 346 (20, 176, 3, .ref 8) := po20 h (pm176 kn) (tw6 (List.mem_of_getElem? (i := 83) rfl) rfl) (tw5 (List.mem_of_getElem? (i := 218) rfl) rfl) (tw5 (List.mem_of_getElem? (i := 219) rfl) rfl) rfl rfl
set_option maxRecDepth 100000 in
theorem pe6_349_15 (kn : List rM) {m : Nat} (h : (rE0.1 m).cls = "PackHouse$Packer") : rpo (rpar kn) rE0 m 349 (15, 8, 0, .null) := po15 h (by decide) (tn6 (List.mem_of_getElem? (i := 73) rfl) rfl)
set_option maxRecDepth 100000 in
theorem pe6_352_15 (kn : List rM) {m : Nat} (h : (rE0.1 m).cls = "PackHouse$Packer") : rpo (rpar kn) rE0 m 352 (15, 10, 0, .null) := po15 h (by decide) (tn6 (List.mem_of_getElem? (i := 76) rfl) rfl)
set_option maxRecDepth 100000 in
theorem pe6_355_10 (kn : List rM) {m : Nat} (h : (rE0.1 m).cls = "PackHouse$Packer") : rpo (rpar kn) rE0 m 355 (10, 0, 0, .int (65536)) := po10 h (tw6 (List.mem_of_getElem? (i := 94) rfl) rfl)
set_option maxRecDepth 100000 in
theorem pe6_356_11 (kn : List rM) {m : Nat} (h : (rE0.1 m).cls = "PackHouse$Packer") : rpo (rpar kn) rE0 m 356 (11, 0, 0, .long (-332356553)) := po11 h (tw6 (List.mem_of_getElem? (i := 95) rfl) rfl)
set_option maxRecDepth 100000 in
theorem pe6_358_20 (kn : List rM) {m : Nat} (h : (rE0.1 m).cls = "PackHouse$Packer") : rpo (rpar kn) rE0 m 358 (20, 186, 0, .ref 9) := po20 h (pm186 kn) (tw6 (List.mem_of_getElem? (i := 96) rfl) rfl) (tw2 (List.mem_of_getElem? (i := 141) rfl) rfl) (tw2 (List.mem_of_getElem? (i := 142) rfl) rfl) rfl rfl
set_option maxRecDepth 100000 in
theorem pe6_359_20 (kn : List rM) {m : Nat} (h : (rE0.1 m).cls = "PackHouse$Packer") : rpo (rpar kn) rE0 m 359 (20, 154, 2, .ref 6) := po20 h (pm154 kn) (tw6 (List.mem_of_getElem? (i := 97) rfl) rfl) (tw6 (List.mem_of_getElem? (i := 99) rfl) rfl) (pw4 (List.mem_of_getElem? (i := 3) rfl)) rfl rfl
set_option maxRecDepth 100000 in
theorem pe6_363_11 (kn : List rM) {m : Nat} (h : (rE0.1 m).cls = "PackHouse$Packer") : rpo (rpar kn) rE0 m 363 (11, 0, 0, .long (4)) := po11 h (tw6 (List.mem_of_getElem? (i := 101) rfl) rfl)
set_option maxRecDepth 100000 in
theorem pl6 (kn : List rM) {m : Nat} (h : (rE0.1 m).cls = "PackHouse$Packer") : ∀ q ∈ pool_6, rpo (rpar kn) rE0 m q.1 q.2 := List.forall_mem_cons.mpr ⟨pe6_3_26 kn h, List.forall_mem_cons.mpr ⟨pe6_9_12 kn h, List.forall_mem_cons.mpr ⟨pe6_9_13 kn h, List.forall_mem_cons.mpr ⟨pe6_11_23 kn h, List.forall_mem_cons.mpr ⟨pe6_12_0 kn h, List.forall_mem_cons.mpr ⟨pe6_18_24 kn h, List.forall_mem_cons.mpr ⟨pe6_24_0 kn h, List.forall_mem_cons.mpr ⟨pe6_28_0 kn h, List.forall_mem_cons.mpr ⟨pe6_31_12 kn h, List.forall_mem_cons.mpr ⟨pe6_33_23 kn h, List.forall_mem_cons.mpr ⟨pe6_34_0 kn h, List.forall_mem_cons.mpr ⟨pe6_38_0 kn h, List.forall_mem_cons.mpr ⟨pe6_41_12 kn h, List.forall_mem_cons.mpr ⟨pe6_43_23 kn h, List.forall_mem_cons.mpr ⟨pe6_44_0 kn h, List.forall_mem_cons.mpr ⟨pe6_48_0 kn h, List.forall_mem_cons.mpr ⟨pe6_51_0 kn h, List.forall_mem_cons.mpr ⟨pe6_54_0 kn h, List.forall_mem_cons.mpr ⟨pe6_58_0 kn h, List.forall_mem_cons.mpr ⟨pe6_61_16 kn h, List.forall_mem_cons.mpr ⟨pe6_63_0 kn h, List.forall_mem_cons.mpr ⟨pe6_66_0 kn h, List.forall_mem_cons.mpr ⟨pe6_69_0 kn h, List.forall_mem_cons.mpr ⟨pe6_72_0 kn h, List.forall_mem_cons.mpr ⟨pe6_75_0 kn h, List.forall_mem_cons.mpr ⟨pe6_78_0 kn h, List.forall_mem_cons.mpr ⟨pe6_82_0 kn h, List.forall_mem_cons.mpr ⟨pe6_85_10 kn h, List.forall_mem_cons.mpr ⟨pe6_86_24 kn h, List.forall_mem_cons.mpr ⟨pe6_90_30 kn h, List.forall_mem_cons.mpr ⟨pe6_96_29 kn h, List.forall_mem_cons.mpr ⟨pe6_99_0 kn h, List.forall_mem_cons.mpr ⟨pe6_103_28 kn h, List.forall_mem_cons.mpr ⟨pe6_109_0 kn h, List.forall_mem_cons.mpr ⟨pe6_112_20 kn h, List.forall_mem_cons.mpr ⟨pe6_116_0 kn h, List.forall_mem_cons.mpr ⟨pe6_119_20 kn h, List.forall_mem_cons.mpr ⟨pe6_123_0 kn h, List.forall_mem_cons.mpr ⟨pe6_126_0 kn h, List.forall_mem_cons.mpr ⟨pe6_131_20 kn h, List.forall_mem_cons.mpr ⟨pe6_134_0 kn h, List.forall_mem_cons.mpr ⟨pe6_138_20 kn h, List.forall_mem_cons.mpr ⟨pe6_142_20 kn h, List.forall_mem_cons.mpr ⟨pe6_146_24 kn h, List.forall_mem_cons.mpr ⟨pe6_149_0 kn h, List.forall_mem_cons.mpr ⟨pe6_153_20 kn h, List.forall_mem_cons.mpr ⟨pe6_157_25 kn h, List.forall_mem_cons.mpr ⟨pe6_161_20 kn h, List.forall_mem_cons.mpr ⟨pe6_165_11 kn h, List.forall_mem_cons.mpr ⟨pe6_167_20 kn h, List.forall_mem_cons.mpr ⟨pe6_171_24 kn h, List.forall_mem_cons.mpr ⟨pe6_175_11 kn h, List.forall_mem_cons.mpr ⟨pe6_177_11 kn h, List.forall_mem_cons.mpr ⟨pe6_179_20 kn h, List.forall_mem_cons.mpr ⟨pe6_182_20 kn h, List.forall_mem_cons.mpr ⟨pe6_186_20 kn h, List.forall_mem_cons.mpr ⟨pe6_189_20 kn h, List.forall_mem_cons.mpr ⟨pe6_193_0 kn h, List.forall_mem_cons.mpr ⟨pe6_196_20 kn h, List.forall_mem_cons.mpr ⟨pe6_199_20 kn h, List.forall_mem_cons.mpr ⟨pe6_202_20 kn h, List.forall_mem_cons.mpr ⟨pe6_205_0 kn h, List.forall_mem_cons.mpr ⟨pe6_208_20 kn h, List.forall_mem_cons.mpr ⟨pe6_211_20 kn h, List.forall_mem_cons.mpr ⟨pe6_215_0 kn h, List.forall_mem_cons.mpr ⟨pe6_217_0 kn h, List.forall_mem_cons.mpr ⟨pe6_220_0 kn h, List.forall_mem_cons.mpr ⟨pe6_223_0 kn h, List.forall_mem_cons.mpr ⟨pe6_227_20 kn h, List.forall_mem_cons.mpr ⟨pe6_231_20 kn h, List.forall_mem_cons.mpr ⟨pe6_235_20 kn h, List.forall_mem_cons.mpr ⟨pe6_239_20 kn h, List.forall_mem_cons.mpr ⟨pe6_241_20 kn h, List.forall_mem_cons.mpr ⟨pe6_244_20 kn h, List.forall_mem_cons.mpr ⟨pe6_248_20 kn h, List.forall_mem_cons.mpr ⟨pe6_252_20 kn h, List.forall_mem_cons.mpr ⟨pe6_255_0 kn h, List.forall_mem_cons.mpr ⟨pe6_258_20 kn h, List.forall_mem_cons.mpr ⟨pe6_261_20 kn h, List.forall_mem_cons.mpr ⟨pe6_265_15 kn h, List.forall_mem_cons.mpr ⟨pe6_268_24 kn h, List.forall_mem_cons.mpr ⟨pe6_272_25 kn h, List.forall_mem_cons.mpr ⟨pe6_276_15 kn h, List.forall_mem_cons.mpr ⟨pe6_279_20 kn h, List.forall_mem_cons.mpr ⟨pe6_282_0 kn h, List.forall_mem_cons.mpr ⟨pe6_285_10 kn h, List.forall_mem_cons.mpr ⟨pe6_286_20 kn h, List.forall_mem_cons.mpr ⟨pe6_292_20 kn h, List.forall_mem_cons.mpr ⟨pe6_295_20 kn h, List.forall_mem_cons.mpr ⟨pe6_299_0 kn h, List.forall_mem_cons.mpr ⟨pe6_302_20 kn h, List.forall_mem_cons.mpr ⟨pe6_305_20 kn h, List.forall_mem_cons.mpr ⟨pe6_309_20 kn h, List.forall_mem_cons.mpr ⟨pe6_310_20 kn h, List.forall_mem_cons.mpr ⟨pe6_314_20 kn h, List.forall_mem_cons.mpr ⟨pe6_318_20 kn h, List.forall_mem_cons.mpr ⟨pe6_321_15 kn h, List.forall_mem_cons.mpr ⟨pe6_324_20 kn h, List.forall_mem_cons.mpr ⟨pe6_327_20 kn h, List.forall_mem_cons.mpr ⟨pe6_330_20 kn h, List.forall_mem_cons.mpr ⟨pe6_334_0 kn h, List.forall_mem_cons.mpr ⟨pe6_337_20 kn h, List.forall_mem_cons.mpr ⟨pe6_340_20 kn h, List.forall_mem_cons.mpr ⟨pe6_343_20 kn h, List.forall_mem_cons.mpr ⟨pe6_346_20 kn h, List.forall_mem_cons.mpr ⟨pe6_349_15 kn h, List.forall_mem_cons.mpr ⟨pe6_352_15 kn h, List.forall_mem_cons.mpr ⟨pe6_355_10 kn h, List.forall_mem_cons.mpr ⟨pe6_356_11 kn h, List.forall_mem_cons.mpr ⟨pe6_358_20 kn h, List.forall_mem_cons.mpr ⟨pe6_359_20 kn h, List.forall_mem_cons.mpr ⟨pe6_363_11 kn h, (fun _ h => absurd h List.not_mem_nil)⟩⟩⟩⟩⟩⟩⟩⟩⟩⟩⟩⟩⟩⟩⟩⟩⟩⟩⟩⟩⟩⟩⟩⟩⟩⟩⟩⟩⟩⟩⟩⟩⟩⟩⟩⟩⟩⟩⟩⟩⟩⟩⟩⟩⟩⟩⟩⟩⟩⟩⟩⟩⟩⟩⟩⟩⟩⟩⟩⟩⟩⟩⟩⟩⟩⟩⟩⟩⟩⟩⟩⟩⟩⟩⟩⟩⟩⟩⟩⟩⟩⟩⟩⟩⟩⟩⟩⟩⟩⟩⟩⟩⟩⟩⟩⟩⟩⟩⟩⟩⟩⟩⟩⟩⟩⟩⟩⟩⟩⟩⟩⟩
set_option maxRecDepth 100000 in
theorem pe7_3_26 (kn : List rM) {m : Nat} (h : (rE0.1 m).cls = "PackHouse$Row") : rpo (rpar kn) rE0 m 3 (26, 0, 0, .null) := po26 h (tw1 (List.mem_of_getElem? (i := 37) rfl) rfl)
set_option maxRecDepth 100000 in
theorem pe7_9_0 (kn : List rM) {m : Nat} (h : (rE0.1 m).cls = "PackHouse$Row") : rpo (rpar kn) rE0 m 9 (0, 7, 0, .ref 3) := po0 (C := "PackHouse$Row") (T := FT7) (N := 5) (ty := fy7 0) h rfl (by decide) rfl (tw1 (List.mem_of_getElem? (i := 38) rfl) rfl) (fp7 0 (by decide)) rfl (fun _ => rfl) (fun a _ => absurd a (by decide))
set_option maxRecDepth 100000 in
theorem pe7_15_0 (kn : List rM) {m : Nat} (h : (rE0.1 m).cls = "PackHouse$Row") : rpo (rpar kn) rE0 m 15 (0, 7, 1, .ref 0) := po0 (C := "PackHouse$Row") (T := FT7) (N := 5) (ty := fy7 1) h rfl (by decide) rfl (tw1 (List.mem_of_getElem? (i := 47) rfl) rfl) (fp7 1 (by decide)) rfl (fun _ => rfl) (fun a _ => absurd a (by decide))
set_option maxRecDepth 100000 in
theorem pe7_19_0 (kn : List rM) {m : Nat} (h : (rE0.1 m).cls = "PackHouse$Row") : rpo (rpar kn) rE0 m 19 (0, 7, 2, .ref 1) := po0 (C := "PackHouse$Row") (T := FT7) (N := 5) (ty := fy7 2) h rfl (by decide) rfl (tw1 (List.mem_of_getElem? (i := 55) rfl) rfl) (fp7 2 (by decide)) rfl (fun _ => rfl) (fun a _ => absurd a (by decide))
set_option maxRecDepth 100000 in
theorem pe7_23_0 (kn : List rM) {m : Nat} (h : (rE0.1 m).cls = "PackHouse$Row") : rpo (rpar kn) rE0 m 23 (0, 7, 3, .ref 0) := po0 (C := "PackHouse$Row") (T := FT7) (N := 5) (ty := fy7 3) h rfl (by decide) rfl (tw1 (List.mem_of_getElem? (i := 60) rfl) rfl) (fp7 3 (by decide)) rfl (fun _ => rfl) (fun a _ => absurd a (by decide))
set_option maxRecDepth 100000 in
theorem pe7_26_0 (kn : List rM) {m : Nat} (h : (rE0.1 m).cls = "PackHouse$Row") : rpo (rpar kn) rE0 m 26 (0, 7, 4, .ref 0) := po0 (C := "PackHouse$Row") (T := FT7) (N := 5) (ty := fy7 4) h rfl (by decide) rfl (tw1 (List.mem_of_getElem? (i := 61) rfl) rfl) (fp7 4 (by decide)) rfl (fun _ => rfl) (fun a _ => absurd a (by decide))
set_option maxRecDepth 100000 in
theorem pe7_29_10 (kn : List rM) {m : Nat} (h : (rE0.1 m).cls = "PackHouse$Row") : rpo (rpar kn) rE0 m 29 (10, 0, 0, .int (65536)) := po10 h (tw1 (List.mem_of_getElem? (i := 205) rfl) rfl)
set_option maxRecDepth 100000 in
theorem pe7_30_29 (kn : List rM) {m : Nat} (h : (rE0.1 m).cls = "PackHouse$Row") : rpo (rpar kn) rE0 m 30 (29, 0, 0, .null) := po29 h (tw1 (List.mem_of_getElem? (i := 206) rfl) rfl)
set_option maxRecDepth 100000 in
theorem pe7_36_30 (kn : List rM) {m : Nat} (h : (rE0.1 m).cls = "PackHouse$Row") : rpo (rpar kn) rE0 m 36 (30, 0, 0, .null) := po30 h (tw1 (List.mem_of_getElem? (i := 209) rfl) rfl)
set_option maxRecDepth 100000 in
theorem pe7_39_24 (kn : List rM) {m : Nat} (h : (rE0.1 m).cls = "PackHouse$Row") : rpo (rpar kn) rE0 m 39 (24, 456, 2, .null) := po24 h (pm456 kn) (tw1 (List.mem_of_getElem? (i := 212) rfl) rfl) (tw1 (List.mem_of_getElem? (i := 213) rfl) rfl)
set_option maxRecDepth 100000 in
theorem pe7_45_20 (kn : List rM) {m : Nat} (h : (rE0.1 m).cls = "PackHouse$Row") : rpo (rpar kn) rE0 m 45 (20, 156, 0, .ref 7) := po20 h (pm156 kn) (tw2 (List.mem_of_getElem? (i := 122) rfl) rfl) (tw2 (List.mem_of_getElem? (i := 123) rfl) rfl) (tw2 (List.mem_of_getElem? (i := 124) rfl) rfl) rfl rfl
set_option maxRecDepth 100000 in
theorem pe7_48_20 (kn : List rM) {m : Nat} (h : (rE0.1 m).cls = "PackHouse$Row") : rpo (rpar kn) rE0 m 48 (20, 161, 3, .ref 7) := po20 h (pm161 kn) (tw2 (List.mem_of_getElem? (i := 126) rfl) rfl) (tw2 (List.mem_of_getElem? (i := 19) rfl) rfl) (tw2 (List.mem_of_getElem? (i := 20) rfl) rfl) rfl rfl
set_option maxRecDepth 100000 in
theorem pe7_52_20 (kn : List rM) {m : Nat} (h : (rE0.1 m).cls = "PackHouse$Row") : rpo (rpar kn) rE0 m 52 (20, 157, 1, .ref 7) := po20 h (pm157 kn) (tw1 (List.mem_of_getElem? (i := 234) rfl) rfl) (tw1 (List.mem_of_getElem? (i := 202) rfl) rfl) (tw1 (List.mem_of_getElem? (i := 203) rfl) rfl) rfl rfl
set_option maxRecDepth 100000 in
theorem pe7_56_27 (kn : List rM) {m : Nat} (h : (rE0.1 m).cls = "PackHouse$Row") : rpo (rpar kn) rE0 m 56 (27, 0, 0, .null) := po27 h (tw2 (List.mem_of_getElem? (i := 22) rfl) rfl)
set_option maxRecDepth 100000 in
theorem pe7_62_24 (kn : List rM) {m : Nat} (h : (rE0.1 m).cls = "PackHouse$Row") : rpo (rpar kn) rE0 m 62 (24, 458, 4, .null) := po24 h (pm458 kn) (tw4 (List.mem_of_getElem? (i := 113) rfl) rfl) (tw4 (List.mem_of_getElem? (i := 114) rfl) rfl)
set_option maxRecDepth 100000 in
theorem pl7 (kn : List rM) {m : Nat} (h : (rE0.1 m).cls = "PackHouse$Row") : ∀ q ∈ pool_7, rpo (rpar kn) rE0 m q.1 q.2 := List.forall_mem_cons.mpr ⟨pe7_3_26 kn h, List.forall_mem_cons.mpr ⟨pe7_9_0 kn h, List.forall_mem_cons.mpr ⟨pe7_15_0 kn h, List.forall_mem_cons.mpr ⟨pe7_19_0 kn h, List.forall_mem_cons.mpr ⟨pe7_23_0 kn h, List.forall_mem_cons.mpr ⟨pe7_26_0 kn h, List.forall_mem_cons.mpr ⟨pe7_29_10 kn h, List.forall_mem_cons.mpr ⟨pe7_30_29 kn h, List.forall_mem_cons.mpr ⟨pe7_36_30 kn h, List.forall_mem_cons.mpr ⟨pe7_39_24 kn h, List.forall_mem_cons.mpr ⟨pe7_45_20 kn h, List.forall_mem_cons.mpr ⟨pe7_48_20 kn h, List.forall_mem_cons.mpr ⟨pe7_52_20 kn h, List.forall_mem_cons.mpr ⟨pe7_56_27 kn h, List.forall_mem_cons.mpr ⟨pe7_62_24 kn h, (fun _ h => absurd h List.not_mem_nil)⟩⟩⟩⟩⟩⟩⟩⟩⟩⟩⟩⟩⟩⟩⟩
set_option maxRecDepth 100000 in
theorem pe8_1_26 (kn : List rM) {m : Nat} (h : (rE0.1 m).cls = "PackHouse$Share") : rpo (rpar kn) rE0 m 1 (26, 0, 0, .null) := po26 h (tw2 (List.mem_of_getElem? (i := 162) rfl) rfl)
set_option maxRecDepth 100000 in
theorem pe8_7_0 (kn : List rM) {m : Nat} (h : (rE0.1 m).cls = "PackHouse$Share") : rpo (rpar kn) rE0 m 7 (0, 8, 1, .ref 8) := po0 (C := "PackHouse$Share") (T := FT8) (N := 13) (ty := fy8 1) h rfl (by decide) rfl (tw2 (List.mem_of_getElem? (i := 167) rfl) rfl) (fp8 1 (by decide)) rfl (fun a => absurd a (by decide)) (fun _ _ => ⟨rfl, rfl⟩)
set_option maxRecDepth 100000 in
theorem pe8_13_0 (kn : List rM) {m : Nat} (h : (rE0.1 m).cls = "PackHouse$Share") : rpo (rpar kn) rE0 m 13 (0, 8, 2, .ref 11) := po0 (C := "PackHouse$Share") (T := FT8) (N := 13) (ty := fy8 2) h rfl (by decide) rfl (tw2 (List.mem_of_getElem? (i := 168) rfl) rfl) (fp8 2 (by decide)) rfl (fun a => absurd a (by decide)) (fun _ _ => ⟨rfl, rfl⟩)
set_option maxRecDepth 100000 in
theorem pe8_17_0 (kn : List rM) {m : Nat} (h : (rE0.1 m).cls = "PackHouse$Share") : rpo (rpar kn) rE0 m 17 (0, 8, 3, .ref 11) := po0 (C := "PackHouse$Share") (T := FT8) (N := 13) (ty := fy8 3) h rfl (by decide) rfl (tw2 (List.mem_of_getElem? (i := 169) rfl) rfl) (fp8 3 (by decide)) rfl (fun a => absurd a (by decide)) (fun _ _ => ⟨rfl, rfl⟩)
set_option maxRecDepth 100000 in
theorem pe8_20_0 (kn : List rM) {m : Nat} (h : (rE0.1 m).cls = "PackHouse$Share") : rpo (rpar kn) rE0 m 20 (0, 8, 4, .ref 11) := po0 (C := "PackHouse$Share") (T := FT8) (N := 13) (ty := fy8 4) h rfl (by decide) rfl (tw2 (List.mem_of_getElem? (i := 170) rfl) rfl) (fp8 4 (by decide)) rfl (fun a => absurd a (by decide)) (fun _ _ => ⟨rfl, rfl⟩)
set_option maxRecDepth 100000 in
theorem pe8_23_0 (kn : List rM) {m : Nat} (h : (rE0.1 m).cls = "PackHouse$Share") : rpo (rpar kn) rE0 m 23 (0, 8, 5, .ref 11) := po0 (C := "PackHouse$Share") (T := FT8) (N := 13) (ty := fy8 5) h rfl (by decide) rfl (tw2 (List.mem_of_getElem? (i := 171) rfl) rfl) (fp8 5 (by decide)) rfl (fun a => absurd a (by decide)) (fun _ _ => ⟨rfl, rfl⟩)
set_option maxRecDepth 100000 in
theorem pe8_26_0 (kn : List rM) {m : Nat} (h : (rE0.1 m).cls = "PackHouse$Share") : rpo (rpar kn) rE0 m 26 (0, 8, 6, .ref 11) := po0 (C := "PackHouse$Share") (T := FT8) (N := 13) (ty := fy8 6) h rfl (by decide) rfl (tw2 (List.mem_of_getElem? (i := 172) rfl) rfl) (fp8 6 (by decide)) rfl (fun a => absurd a (by decide)) (fun _ _ => ⟨rfl, rfl⟩)
set_option maxRecDepth 100000 in
theorem pe8_29_0 (kn : List rM) {m : Nat} (h : (rE0.1 m).cls = "PackHouse$Share") : rpo (rpar kn) rE0 m 29 (0, 8, 7, .ref 11) := po0 (C := "PackHouse$Share") (T := FT8) (N := 13) (ty := fy8 7) h rfl (by decide) rfl (tw2 (List.mem_of_getElem? (i := 173) rfl) rfl) (fp8 7 (by decide)) rfl (fun a => absurd a (by decide)) (fun _ _ => ⟨rfl, rfl⟩)
set_option maxRecDepth 100000 in
theorem pe8_32_0 (kn : List rM) {m : Nat} (h : (rE0.1 m).cls = "PackHouse$Share") : rpo (rpar kn) rE0 m 32 (0, 8, 8, .ref 11) := po0 (C := "PackHouse$Share") (T := FT8) (N := 13) (ty := fy8 8) h rfl (by decide) rfl (tw2 (List.mem_of_getElem? (i := 174) rfl) rfl) (fp8 8 (by decide)) rfl (fun a => absurd a (by decide)) (fun _ _ => ⟨rfl, rfl⟩)
set_option maxRecDepth 100000 in
theorem pe8_35_0 (kn : List rM) {m : Nat} (h : (rE0.1 m).cls = "PackHouse$Share") : rpo (rpar kn) rE0 m 35 (0, 8, 9, .ref 11) := po0 (C := "PackHouse$Share") (T := FT8) (N := 13) (ty := fy8 9) h rfl (by decide) rfl (tw2 (List.mem_of_getElem? (i := 175) rfl) rfl) (fp8 9 (by decide)) rfl (fun a => absurd a (by decide)) (fun _ _ => ⟨rfl, rfl⟩)
set_option maxRecDepth 100000 in
theorem pe8_38_0 (kn : List rM) {m : Nat} (h : (rE0.1 m).cls = "PackHouse$Share") : rpo (rpar kn) rE0 m 38 (0, 8, 0, .ref 0) := po0 (C := "PackHouse$Share") (T := FT8) (N := 13) (ty := fy8 0) h rfl (by decide) rfl (tw2 (List.mem_of_getElem? (i := 163) rfl) rfl) (fp8 0 (by decide)) rfl (fun _ => rfl) (fun a _ => absurd a (by decide))
set_option maxRecDepth 100000 in
theorem pe8_41_27 (kn : List rM) {m : Nat} (h : (rE0.1 m).cls = "PackHouse$Share") : rpo (rpar kn) rE0 m 41 (27, 0, 0, .null) := po27 h (tw5 (List.mem_of_getElem? (i := 11) rfl) rfl)
set_option maxRecDepth 100000 in
theorem pe8_47_20 (kn : List rM) {m : Nat} (h : (rE0.1 m).cls = "PackHouse$Share") : rpo (rpar kn) rE0 m 47 (20, 169, 0, .ref 8) := po20 h (pm169 kn) (tw3 (List.mem_of_getElem? (i := 66) rfl) rfl) (tw3 (List.mem_of_getElem? (i := 67) rfl) rfl) (tw3 (List.mem_of_getElem? (i := 68) rfl) rfl) rfl rfl
set_option maxRecDepth 100000 in
theorem pe8_50_28 (kn : List rM) {m : Nat} (h : (rE0.1 m).cls = "PackHouse$Share") : rpo (rpar kn) rE0 m 50 (28, 0, 0, .null) := po28 h (tw3 (List.mem_of_getElem? (i := 63) rfl) rfl)
set_option maxRecDepth 100000 in
theorem pe8_56_20 (kn : List rM) {m : Nat} (h : (rE0.1 m).cls = "PackHouse$Share") : rpo (rpar kn) rE0 m 56 (20, 172, 1, .ref 8) := po20 h (pm172 kn) (tw3 (List.mem_of_getElem? (i := 97) rfl) rfl) (tw3 (List.mem_of_getElem? (i := 90) rfl) rfl) (tw3 (List.mem_of_getElem? (i := 91) rfl) rfl) rfl rfl
set_option maxRecDepth 100000 in
theorem pe8_60_20 (kn : List rM) {m : Nat} (h : (rE0.1 m).cls = "PackHouse$Share") : rpo (rpar kn) rE0 m 60 (20, 174, 1, .ref 8) := po20 h (pm174 kn) (tw6 (List.mem_of_getElem? (i := 44) rfl) rfl) (tw5 (List.mem_of_getElem? (i := 209) rfl) rfl) (tw5 (List.mem_of_getElem? (i := 210) rfl) rfl) rfl rfl
set_option maxRecDepth 100000 in
theorem pe8_63_20 (kn : List rM) {m : Nat} (h : (rE0.1 m).cls = "PackHouse$Share") : rpo (rpar kn) rE0 m 63 (20, 175, 2, .ref 8) := po20 h (pm175 kn) (tw6 (List.mem_of_getElem? (i := 45) rfl) rfl) (tw5 (List.mem_of_getElem? (i := 213) rfl) rfl) (tw5 (List.mem_of_getElem? (i := 214) rfl) rfl) rfl rfl
set_option maxRecDepth 100000 in
theorem pe8_67_20 (kn : List rM) {m : Nat} (h : (rE0.1 m).cls = "PackHouse$Share") : rpo (rpar kn) rE0 m 67 (20, 176, 3, .ref 8) := po20 h (pm176 kn) (tw6 (List.mem_of_getElem? (i := 46) rfl) rfl) (tw5 (List.mem_of_getElem? (i := 218) rfl) rfl) (tw5 (List.mem_of_getElem? (i := 219) rfl) rfl) rfl rfl
set_option maxRecDepth 100000 in
theorem pe8_71_20 (kn : List rM) {m : Nat} (h : (rE0.1 m).cls = "PackHouse$Share") : rpo (rpar kn) rE0 m 71 (20, 179, 3, .ref 8) := po20 h (pm179 kn) (tw5 (List.mem_of_getElem? (i := 183) rfl) rfl) (tw5 (List.mem_of_getElem? (i := 185) rfl) rfl) (pw3 (List.mem_of_getElem? (i := 3) rfl)) rfl rfl
set_option maxRecDepth 100000 in
theorem pe8_75_20 (kn : List rM) {m : Nat} (h : (rE0.1 m).cls = "PackHouse$Share") : rpo (rpar kn) rE0 m 75 (20, 180, 1, .ref 8) := po20 h (pm180 kn) (tw5 (List.mem_of_getElem? (i := 187) rfl) rfl) (tw5 (List.mem_of_getElem? (i := 189) rfl) rfl) (pw3 (List.mem_of_getElem? (i := 4) rfl)) rfl rfl
set_option maxRecDepth 100000 in
theorem pe8_79_20 (kn : List rM) {m : Nat} (h : (rE0.1 m).cls = "PackHouse$Share") : rpo (rpar kn) rE0 m 79 (20, 164, 2, .ref 7) := po20 h (pm164 kn) (tw5 (List.mem_of_getElem? (i := 196) rfl) rfl) (tw5 (List.mem_of_getElem? (i := 197) rfl) rfl) (tw5 (List.mem_of_getElem? (i := 198) rfl) rfl) rfl rfl
set_option maxRecDepth 100000 in
theorem pe8_85_20 (kn : List rM) {m : Nat} (h : (rE0.1 m).cls = "PackHouse$Share") : rpo (rpar kn) rE0 m 85 (20, 182, 1, .ref 8) := po20 h (pm182 kn) (tw5 (List.mem_of_getElem? (i := 200) rfl) rfl) (tw5 (List.mem_of_getElem? (i := 202) rfl) rfl) (pw3 (List.mem_of_getElem? (i := 5) rfl)) rfl rfl
set_option maxRecDepth 100000 in
theorem pe8_88_20 (kn : List rM) {m : Nat} (h : (rE0.1 m).cls = "PackHouse$Share") : rpo (rpar kn) rE0 m 88 (20, 165, 0, .ref 7) := po20 h (pm165 kn) (tw5 (List.mem_of_getElem? (i := 204) rfl) rfl) (tw5 (List.mem_of_getElem? (i := 205) rfl) rfl) (tw5 (List.mem_of_getElem? (i := 206) rfl) rfl) rfl rfl
set_option maxRecDepth 100000 in
theorem pe8_91_0 (kn : List rM) {m : Nat} (h : (rE0.1 m).cls = "PackHouse$Share") : rpo (rpar kn) rE0 m 91 (0, 8, 12, .ref 0) := po0 (C := "PackHouse$Share") (T := FT8) (N := 13) (ty := fy8 12) h rfl (by decide) rfl (tw2 (List.mem_of_getElem? (i := 178) rfl) rfl) (fp8 12 (by decide)) rfl (fun _ => rfl) (fun a _ => absurd a (by decide))
set_option maxRecDepth 100000 in
theorem pe8_94_0 (kn : List rM) {m : Nat} (h : (rE0.1 m).cls = "PackHouse$Share") : rpo (rpar kn) rE0 m 94 (0, 8, 11, .ref 0) := po0 (C := "PackHouse$Share") (T := FT8) (N := 13) (ty := fy8 11) h rfl (by decide) rfl (tw2 (List.mem_of_getElem? (i := 177) rfl) rfl) (fp8 11 (by decide)) rfl (fun _ => rfl) (fun a _ => absurd a (by decide))
set_option maxRecDepth 100000 in
theorem pe8_97_0 (kn : List rM) {m : Nat} (h : (rE0.1 m).cls = "PackHouse$Share") : rpo (rpar kn) rE0 m 97 (0, 8, 10, .ref 3) := po0 (C := "PackHouse$Share") (T := FT8) (N := 13) (ty := fy8 10) h rfl (by decide) rfl (tw2 (List.mem_of_getElem? (i := 176) rfl) rfl) (fp8 10 (by decide)) rfl (fun _ => rfl) (fun a _ => absurd a (by decide))
set_option maxRecDepth 100000 in
theorem pe8_101_20 (kn : List rM) {m : Nat} (h : (rE0.1 m).cls = "PackHouse$Share") : rpo (rpar kn) rE0 m 101 (20, 183, 1, .ref 8) := po20 h (pm183 kn) (tw3 (List.mem_of_getElem? (i := 59) rfl) rfl) (tw3 (List.mem_of_getElem? (i := 61) rfl) rfl) (pw1 (List.mem_of_getElem? (i := 2) rfl)) rfl rfl
set_option maxRecDepth 100000 in
theorem pl8 (kn : List rM) {m : Nat} (h : (rE0.1 m).cls = "PackHouse$Share") : ∀ q ∈ pool_8, rpo (rpar kn) rE0 m q.1 q.2 := List.forall_mem_cons.mpr ⟨pe8_1_26 kn h, List.forall_mem_cons.mpr ⟨pe8_7_0 kn h, List.forall_mem_cons.mpr ⟨pe8_13_0 kn h, List.forall_mem_cons.mpr ⟨pe8_17_0 kn h, List.forall_mem_cons.mpr ⟨pe8_20_0 kn h, List.forall_mem_cons.mpr ⟨pe8_23_0 kn h, List.forall_mem_cons.mpr ⟨pe8_26_0 kn h, List.forall_mem_cons.mpr ⟨pe8_29_0 kn h, List.forall_mem_cons.mpr ⟨pe8_32_0 kn h, List.forall_mem_cons.mpr ⟨pe8_35_0 kn h, List.forall_mem_cons.mpr ⟨pe8_38_0 kn h, List.forall_mem_cons.mpr ⟨pe8_41_27 kn h, List.forall_mem_cons.mpr ⟨pe8_47_20 kn h, List.forall_mem_cons.mpr ⟨pe8_50_28 kn h, List.forall_mem_cons.mpr ⟨pe8_56_20 kn h, List.forall_mem_cons.mpr ⟨pe8_60_20 kn h, List.forall_mem_cons.mpr ⟨pe8_63_20 kn h, List.forall_mem_cons.mpr ⟨pe8_67_20 kn h, List.forall_mem_cons.mpr ⟨pe8_71_20 kn h, List.forall_mem_cons.mpr ⟨pe8_75_20 kn h, List.forall_mem_cons.mpr ⟨pe8_79_20 kn h, List.forall_mem_cons.mpr ⟨pe8_85_20 kn h, List.forall_mem_cons.mpr ⟨pe8_88_20 kn h, List.forall_mem_cons.mpr ⟨pe8_91_0 kn h, List.forall_mem_cons.mpr ⟨pe8_94_0 kn h, List.forall_mem_cons.mpr ⟨pe8_97_0 kn h, List.forall_mem_cons.mpr ⟨pe8_101_20 kn h, (fun _ h => absurd h List.not_mem_nil)⟩⟩⟩⟩⟩⟩⟩⟩⟩⟩⟩⟩⟩⟩⟩⟩⟩⟩⟩⟩⟩⟩⟩⟩⟩⟩⟩
set_option maxRecDepth 100000 in
theorem pe9_1_26 (kn : List rM) {m : Nat} (h : (rE0.1 m).cls = "PackHouse$Stand") : rpo (rpar kn) rE0 m 1 (26, 0, 0, .null) := po26 h (tw1 (List.mem_of_getElem? (i := 88) rfl) rfl)
set_option maxRecDepth 100000 in
theorem pe9_7_13 (kn : List rM) {m : Nat} (h : (rE0.1 m).cls = "PackHouse$Stand") : rpo (rpar kn) rE0 m 7 (13, 5, 0, .null) := po13 h rfl (tw1 (List.mem_of_getElem? (i := 89) rfl) rfl) (ztn1 (List.mem_of_getElem? (i := 90) rfl) rfl)
set_option maxRecDepth 100000 in
theorem pe9_9_0 (kn : List rM) {m : Nat} (h : (rE0.1 m).cls = "PackHouse$Stand") : rpo (rpar kn) rE0 m 9 (0, 9, 1, .ref 11) := po0 (C := "PackHouse$Stand") (T := FT9) (N := 3) (ty := fy9 1) h rfl (by decide) rfl (tw1 (List.mem_of_getElem? (i := 97) rfl) rfl) (fp9 1 (by decide)) rfl (fun a => absurd a (by decide)) (fun _ _ => ⟨rfl, rfl⟩)
set_option maxRecDepth 100000 in
theorem pe9_15_11 (kn : List rM) {m : Nat} (h : (rE0.1 m).cls = "PackHouse$Stand") : rpo (rpar kn) rE0 m 15 (11, 0, 0, .long (4)) := po11 h (tw1 (List.mem_of_getElem? (i := 91) rfl) rfl)
set_option maxRecDepth 100000 in
theorem pe9_17_11 (kn : List rM) {m : Nat} (h : (rE0.1 m).cls = "PackHouse$Stand") : rpo (rpar kn) rE0 m 17 (11, 0, 0, .long (8)) := po11 h (tw1 (List.mem_of_getElem? (i := 92) rfl) rfl)
set_option maxRecDepth 100000 in
theorem pe9_19_0 (kn : List rM) {m : Nat} (h : (rE0.1 m).cls = "PackHouse$Stand") : rpo (rpar kn) rE0 m 19 (0, 9, 2, .ref 11) := po0 (C := "PackHouse$Stand") (T := FT9) (N := 3) (ty := fy9 2) h rfl (by decide) rfl (tw1 (List.mem_of_getElem? (i := 101) rfl) rfl) (fp9 2 (by decide)) rfl (fun a => absurd a (by decide)) (fun _ _ => ⟨rfl, rfl⟩)
set_option maxRecDepth 100000 in
theorem pe9_23_0 (kn : List rM) {m : Nat} (h : (rE0.1 m).cls = "PackHouse$Stand") : rpo (rpar kn) rE0 m 23 (0, 9, 0, .ref 3) := po0 (C := "PackHouse$Stand") (T := FT9) (N := 3) (ty := fy9 0) h rfl (by decide) rfl (tw1 (List.mem_of_getElem? (i := 93) rfl) rfl) (fp9 0 (by decide)) rfl (fun _ => rfl) (fun a _ => absurd a (by decide))
set_option maxRecDepth 100000 in
theorem pe9_27_11 (kn : List rM) {m : Nat} (h : (rE0.1 m).cls = "PackHouse$Stand") : rpo (rpar kn) rE0 m 27 (11, 0, 0, .long (3)) := po11 h (tw6 (List.mem_of_getElem? (i := 17) rfl) rfl)
set_option maxRecDepth 100000 in
theorem pe9_29_20 (kn : List rM) {m : Nat} (h : (rE0.1 m).cls = "PackHouse$Stand") : rpo (rpar kn) rE0 m 29 (20, 188, 2, .ref 9) := po20 h (pm188 kn) (tw6 (List.mem_of_getElem? (i := 9) rfl) rfl) (tw6 (List.mem_of_getElem? (i := 11) rfl) rfl) (pw3 (List.mem_of_getElem? (i := 10) rfl)) rfl rfl
set_option maxRecDepth 100000 in
theorem pe9_33_11 (kn : List rM) {m : Nat} (h : (rE0.1 m).cls = "PackHouse$Stand") : rpo (rpar kn) rE0 m 33 (11, 0, 0, .long (2)) := po11 h (tw6 (List.mem_of_getElem? (i := 18) rfl) rfl)
set_option maxRecDepth 100000 in
theorem pl9 (kn : List rM) {m : Nat} (h : (rE0.1 m).cls = "PackHouse$Stand") : ∀ q ∈ pool_9, rpo (rpar kn) rE0 m q.1 q.2 := List.forall_mem_cons.mpr ⟨pe9_1_26 kn h, List.forall_mem_cons.mpr ⟨pe9_7_13 kn h, List.forall_mem_cons.mpr ⟨pe9_9_0 kn h, List.forall_mem_cons.mpr ⟨pe9_15_11 kn h, List.forall_mem_cons.mpr ⟨pe9_17_11 kn h, List.forall_mem_cons.mpr ⟨pe9_19_0 kn h, List.forall_mem_cons.mpr ⟨pe9_23_0 kn h, List.forall_mem_cons.mpr ⟨pe9_27_11 kn h, List.forall_mem_cons.mpr ⟨pe9_29_20 kn h, List.forall_mem_cons.mpr ⟨pe9_33_11 kn h, (fun _ h => absurd h List.not_mem_nil)⟩⟩⟩⟩⟩⟩⟩⟩⟩⟩
set_option maxRecDepth 100000 in
theorem pe10_3_26 (kn : List rM) {m : Nat} (h : (rE0.1 m).cls = "PackHouse$Tags") : rpo (rpar kn) rE0 m 3 (26, 0, 0, .null) := po26 h (tw4 (List.mem_of_getElem? (i := 149) rfl) rfl)
set_option maxRecDepth 100000 in
theorem pe10_9_12 (kn : List rM) {m : Nat} (h : (rE0.1 m).cls = "PackHouse$Tags") : rpo (rpar kn) rE0 m 9 (12, 7, 5, .null) := po12 (T := FT7) h rfl (tw4 (List.mem_of_getElem? (i := 150) rfl) rfl) (tw1 (List.mem_of_getElem? (i := 33) rfl) rfl) (tw1 (List.mem_of_getElem? (i := 2) rfl) rfl)
set_option maxRecDepth 100000 in
theorem pe10_11_23 (kn : List rM) {m : Nat} (h : (rE0.1 m).cls = "PackHouse$Tags") : rpo (rpar kn) rE0 m 11 (23, 155, 0, .ref 7) := po23 h (pm155 kn) (tn4 (List.mem_of_getElem? (i := 151) rfl) rfl) (tw1 (List.mem_of_getElem? (i := 35) rfl) rfl) rfl rfl
set_option maxRecDepth 100000 in
theorem pe10_12_0 (kn : List rM) {m : Nat} (h : (rE0.1 m).cls = "PackHouse$Tags") : rpo (rpar kn) rE0 m 12 (0, 10, 2, .ref 11) := po0 (C := "PackHouse$Tags") (T := FT10) (N := 9) (ty := fy10 2) h rfl (by decide) rfl (tw4 (List.mem_of_getElem? (i := 154) rfl) rfl) (fp10 2 (by decide)) rfl (fun a => absurd a (by decide)) (fun _ _ => ⟨rfl, rfl⟩)
set_option maxRecDepth 100000 in
theorem pe10_18_0 (kn : List rM) {m : Nat} (h : (rE0.1 m).cls = "PackHouse$Tags") : rpo (rpar kn) rE0 m 18 (0, 10, 0, .ref 11) := po0 (C := "PackHouse$Tags") (T := FT10) (N := 9) (ty := fy10 0) h rfl (by decide) rfl (tw4 (List.mem_of_getElem? (i := 152) rfl) rfl) (fp10 0 (by decide)) rfl (fun a => absurd a (by decide)) (fun _ _ => ⟨rfl, rfl⟩)
set_option maxRecDepth 100000 in
theorem pe10_22_0 (kn : List rM) {m : Nat} (h : (rE0.1 m).cls = "PackHouse$Tags") : rpo (rpar kn) rE0 m 22 (0, 10, 1, .ref 11) := po0 (C := "PackHouse$Tags") (T := FT10) (N := 9) (ty := fy10 1) h rfl (by decide) rfl (tw4 (List.mem_of_getElem? (i := 153) rfl) rfl) (fp10 1 (by decide)) rfl (fun a => absurd a (by decide)) (fun _ _ => ⟨rfl, rfl⟩)
set_option maxRecDepth 100000 in
theorem pe10_26_15 (kn : List rM) {m : Nat} (h : (rE0.1 m).cls = "PackHouse$Tags") : rpo (rpar kn) rE0 m 26 (15, 0, 0, .null) := po15 h (by decide) (tn4 (List.mem_of_getElem? (i := 222) rfl) rfl)
set_option maxRecDepth 100000 in
theorem pe10_30_0 (kn : List rM) {m : Nat} (h : (rE0.1 m).cls = "PackHouse$Tags") : rpo (rpar kn) rE0 m 30 (0, 5, 0, .ref 19) := po0 (C := "PackHouse$Finder") (T := FT5) (N := 19) (ty := fy5 0) h rfl (by decide) rfl (tw3 (List.mem_of_getElem? (i := 159) rfl) rfl) (fp5 0 (by decide)) rfl (fun a => absurd a (by decide)) (fun _ b => absurd b (by decide))
set_option maxRecDepth 100000 in
theorem pe10_35_20 (kn : List rM) {m : Nat} (h : (rE0.1 m).cls = "PackHouse$Tags") : rpo (rpar kn) rE0 m 35 (20, 158, 1, .ref 7) := po20 h (pm158 kn) (tw4 (List.mem_of_getElem? (i := 185) rfl) rfl) (tw2 (List.mem_of_getElem? (i := 119) rfl) rfl) (tw2 (List.mem_of_getElem? (i := 120) rfl) rfl) rfl rfl
set_option maxRecDepth 100000 in
theorem pe10_39_10 (kn : List rM) {m : Nat} (h : (rE0.1 m).cls = "PackHouse$Tags") : rpo (rpar kn) rE0 m 39 (10, 0, 0, .int (65535)) := po10 h (tw4 (List.mem_of_getElem? (i := 186) rfl) rfl)
set_option maxRecDepth 100000 in
theorem pe10_40_20 (kn : List rM) {m : Nat} (h : (rE0.1 m).cls = "PackHouse$Tags") : rpo (rpar kn) rE0 m 40 (20, 121, 3, .ref 5) := po20 h (pm121 kn) (tw4 (List.mem_of_getElem? (i := 187) rfl) rfl) (tw4 (List.mem_of_getElem? (i := 49) rfl) rfl) (tw4 (List.mem_of_getElem? (i := 50) rfl) rfl) rfl rfl
set_option maxRecDepth 100000 in
theorem pe10_44_20 (kn : List rM) {m : Nat} (h : (rE0.1 m).cls = "PackHouse$Tags") : rpo (rpar kn) rE0 m 44 (20, 194, 1, .ref 10) := po20 h (pm194 kn) (tw4 (List.mem_of_getElem? (i := 188) rfl) rfl) (tw4 (List.mem_of_getElem? (i := 190) rfl) rfl) (pw2 (List.mem_of_getElem? (i := 4) rfl)) rfl rfl
set_option maxRecDepth 100000 in
theorem pe10_47_0 (kn : List rM) {m : Nat} (h : (rE0.1 m).cls = "PackHouse$Tags") : rpo (rpar kn) rE0 m 47 (0, 7, 1, .ref 0) := po0 (C := "PackHouse$Row") (T := FT7) (N := 5) (ty := fy7 1) h rfl (by decide) rfl (tw1 (List.mem_of_getElem? (i := 52) rfl) rfl) (fp7 1 (by decide)) rfl (fun _ => rfl) (fun a _ => absurd a (by decide))
set_option maxRecDepth 100000 in
theorem pe10_51_24 (kn : List rM) {m : Nat} (h : (rE0.1 m).cls = "PackHouse$Tags") : rpo (rpar kn) rE0 m 51 (24, 195, 2, .null) := po24 h (pm195 kn) (tw4 (List.mem_of_getElem? (i := 192) rfl) rfl) (tw4 (List.mem_of_getElem? (i := 193) rfl) rfl)
set_option maxRecDepth 100000 in
theorem pe10_55_20 (kn : List rM) {m : Nat} (h : (rE0.1 m).cls = "PackHouse$Tags") : rpo (rpar kn) rE0 m 55 (20, 123, 1, .ref 5) := po20 h (pm123 kn) (tw4 (List.mem_of_getElem? (i := 196) rfl) rfl) (tw4 (List.mem_of_getElem? (i := 58) rfl) rfl) (tw4 (List.mem_of_getElem? (i := 59) rfl) rfl) rfl rfl
set_option maxRecDepth 100000 in
theorem pe10_59_20 (kn : List rM) {m : Nat} (h : (rE0.1 m).cls = "PackHouse$Tags") : rpo (rpar kn) rE0 m 59 (20, 125, 4, .ref 5) := po20 h (pm125 kn) (tw4 (List.mem_of_getElem? (i := 197) rfl) rfl) (tw4 (List.mem_of_getElem? (i := 77) rfl) rfl) (tw4 (List.mem_of_getElem? (i := 78) rfl) rfl) rfl rfl
set_option maxRecDepth 100000 in
theorem pe10_63_0 (kn : List rM) {m : Nat} (h : (rE0.1 m).cls = "PackHouse$Tags") : rpo (rpar kn) rE0 m 63 (0, 5, 4, .ref 0) := po0 (C := "PackHouse$Finder") (T := FT5) (N := 19) (ty := fy5 4) h rfl (by decide) rfl (tw3 (List.mem_of_getElem? (i := 174) rfl) rfl) (fp5 4 (by decide)) rfl (fun _ => rfl) (fun a _ => absurd a (by decide))
set_option maxRecDepth 100000 in
theorem pe10_66_0 (kn : List rM) {m : Nat} (h : (rE0.1 m).cls = "PackHouse$Tags") : rpo (rpar kn) rE0 m 66 (0, 5, 1, .ref 3) := po0 (C := "PackHouse$Finder") (T := FT5) (N := 19) (ty := fy5 1) h rfl (by decide) rfl (tw3 (List.mem_of_getElem? (i := 163) rfl) rfl) (fp5 1 (by decide)) rfl (fun _ => rfl) (fun a _ => absurd a (by decide))
set_option maxRecDepth 100000 in
theorem pe10_69_20 (kn : List rM) {m : Nat} (h : (rE0.1 m).cls = "PackHouse$Tags") : rpo (rpar kn) rE0 m 69 (20, 196, 3, .ref 10) := po20 h (pm196 kn) (tw4 (List.mem_of_getElem? (i := 198) rfl) rfl) (tw4 (List.mem_of_getElem? (i := 200) rfl) rfl) (pw2 (List.mem_of_getElem? (i := 5) rfl)) rfl rfl
set_option maxRecDepth 100000 in
theorem pe10_73_0 (kn : List rM) {m : Nat} (h : (rE0.1 m).cls = "PackHouse$Tags") : rpo (rpar kn) rE0 m 73 (0, 5, 2, .ref 3) := po0 (C := "PackHouse$Finder") (T := FT5) (N := 19) (ty := fy5 2) h rfl (by decide) rfl (tw3 (List.mem_of_getElem? (i := 167) rfl) rfl) (fp5 2 (by decide)) rfl (fun _ => rfl) (fun a _ => absurd a (by decide))
set_option maxRecDepth 100000 in
theorem pe10_76_0 (kn : List rM) {m : Nat} (h : (rE0.1 m).cls = "PackHouse$Tags") : rpo (rpar kn) rE0 m 76 (0, 5, 3, .ref 3) := po0 (C := "PackHouse$Finder") (T := FT5) (N := 19) (ty := fy5 3) h rfl (by decide) rfl (tw3 (List.mem_of_getElem? (i := 170) rfl) rfl) (fp5 3 (by decide)) rfl (fun _ => rfl) (fun a _ => absurd a (by decide))
set_option maxRecDepth 100000 in
theorem pe10_79_24 (kn : List rM) {m : Nat} (h : (rE0.1 m).cls = "PackHouse$Tags") : rpo (rpar kn) rE0 m 79 (24, 197, 3, .null) := po24 h (pm197 kn) (tw4 (List.mem_of_getElem? (i := 204) rfl) rfl) (tw4 (List.mem_of_getElem? (i := 205) rfl) rfl)
set_option maxRecDepth 100000 in
theorem pe10_82_0 (kn : List rM) {m : Nat} (h : (rE0.1 m).cls = "PackHouse$Tags") : rpo (rpar kn) rE0 m 82 (0, 5, 5, .ref 0) := po0 (C := "PackHouse$Finder") (T := FT5) (N := 19) (ty := fy5 5) h rfl (by decide) rfl (tw3 (List.mem_of_getElem? (i := 177) rfl) rfl) (fp5 5 (by decide)) rfl (fun _ => rfl) (fun a _ => absurd a (by decide))
set_option maxRecDepth 100000 in
theorem pe10_85_20 (kn : List rM) {m : Nat} (h : (rE0.1 m).cls = "PackHouse$Tags") : rpo (rpar kn) rE0 m 85 (20, 159, 1, .ref 7) := po20 h (pm159 kn) (tw4 (List.mem_of_getElem? (i := 195) rfl) rfl) (tw1 (List.mem_of_getElem? (i := 231) rfl) rfl) (tw1 (List.mem_of_getElem? (i := 232) rfl) rfl) rfl rfl
set_option maxRecDepth 100000 in
theorem pe10_88_20 (kn : List rM) {m : Nat} (h : (rE0.1 m).cls = "PackHouse$Tags") : rpo (rpar kn) rE0 m 88 (20, 160, 2, .ref 7) := po20 h (pm160 kn) (tw4 (List.mem_of_getElem? (i := 202) rfl) rfl) (tw4 (List.mem_of_getElem? (i := 117) rfl) rfl) (tw4 (List.mem_of_getElem? (i := 118) rfl) rfl) rfl rfl
set_option maxRecDepth 100000 in
theorem pe10_92_0 (kn : List rM) {m : Nat} (h : (rE0.1 m).cls = "PackHouse$Tags") : rpo (rpar kn) rE0 m 92 (0, 7, 0, .ref 3) := po0 (C := "PackHouse$Row") (T := FT7) (N := 5) (ty := fy7 0) h rfl (by decide) rfl (tw1 (List.mem_of_getElem? (i := 44) rfl) rfl) (fp7 0 (by decide)) rfl (fun _ => rfl) (fun a _ => absurd a (by decide))
set_option maxRecDepth 100000 in
theorem pe10_95_20 (kn : List rM) {m : Nat} (h : (rE0.1 m).cls = "PackHouse$Tags") : rpo (rpar kn) rE0 m 95 (20, 161, 3, .ref 7) := po20 h (pm161 kn) (tw4 (List.mem_of_getElem? (i := 203) rfl) rfl) (tw2 (List.mem_of_getElem? (i := 19) rfl) rfl) (tw2 (List.mem_of_getElem? (i := 20) rfl) rfl) rfl rfl
set_option maxRecDepth 100000 in
theorem pe10_99_24 (kn : List rM) {m : Nat} (h : (rE0.1 m).cls = "PackHouse$Tags") : rpo (rpar kn) rE0 m 99 (24, 199, 2, .null) := po24 h (pm199 kn) (tw4 (List.mem_of_getElem? (i := 207) rfl) rfl) (tw4 (List.mem_of_getElem? (i := 208) rfl) rfl)
set_option maxRecDepth 100000 in
theorem pe10_103_24 (kn : List rM) {m : Nat} (h : (rE0.1 m).cls = "PackHouse$Tags") : rpo (rpar kn) rE0 m 103 (24, 198, 2, .null) := po24 h (pm198 kn) (tw4 (List.mem_of_getElem? (i := 215) rfl) rfl) (tw4 (List.mem_of_getElem? (i := 216) rfl) rfl)
set_option maxRecDepth 100000 in
theorem pe10_107_24 (kn : List rM) {m : Nat} (h : (rE0.1 m).cls = "PackHouse$Tags") : rpo (rpar kn) rE0 m 107 (24, 200, 2, .null) := po24 h (pm200 kn) (tw4 (List.mem_of_getElem? (i := 210) rfl) rfl) (tw4 (List.mem_of_getElem? (i := 211) rfl) rfl)
set_option maxRecDepth 100000 in
theorem pe10_110_30 (kn : List rM) {m : Nat} (h : (rE0.1 m).cls = "PackHouse$Tags") : rpo (rpar kn) rE0 m 110 (30, 0, 0, .null) := po30 h (tw4 (List.mem_of_getElem? (i := 214) rfl) rfl)
set_option maxRecDepth 100000 in
theorem pe10_116_29 (kn : List rM) {m : Nat} (h : (rE0.1 m).cls = "PackHouse$Tags") : rpo (rpar kn) rE0 m 116 (29, 0, 0, .null) := po29 h (tw4 (List.mem_of_getElem? (i := 213) rfl) rfl)
set_option maxRecDepth 100000 in
theorem pe10_119_20 (kn : List rM) {m : Nat} (h : (rE0.1 m).cls = "PackHouse$Tags") : rpo (rpar kn) rE0 m 119 (20, 156, 0, .ref 7) := po20 h (pm156 kn) (tw4 (List.mem_of_getElem? (i := 224) rfl) rfl) (tw2 (List.mem_of_getElem? (i := 123) rfl) rfl) (tw2 (List.mem_of_getElem? (i := 124) rfl) rfl) rfl rfl
set_option maxRecDepth 100000 in
theorem pe10_122_0 (kn : List rM) {m : Nat} (h : (rE0.1 m).cls = "PackHouse$Tags") : rpo (rpar kn) rE0 m 122 (0, 7, 2, .ref 1) := po0 (C := "PackHouse$Row") (T := FT7) (N := 5) (ty := fy7 2) h rfl (by decide) rfl (tw1 (List.mem_of_getElem? (i := 58) rfl) rfl) (fp7 2 (by decide)) rfl (fun _ => rfl) (fun a _ => absurd a (by decide))
set_option maxRecDepth 100000 in
theorem pe10_126_20 (kn : List rM) {m : Nat} (h : (rE0.1 m).cls = "PackHouse$Tags") : rpo (rpar kn) rE0 m 126 (20, 124, 1, .ref 5) := po20 h (pm124 kn) (tw4 (List.mem_of_getElem? (i := 225) rfl) rfl) (tw4 (List.mem_of_getElem? (i := 131) rfl) rfl) (tw4 (List.mem_of_getElem? (i := 132) rfl) rfl) rfl rfl
set_option maxRecDepth 100000 in
theorem pe10_129_20 (kn : List rM) {m : Nat} (h : (rE0.1 m).cls = "PackHouse$Tags") : rpo (rpar kn) rE0 m 129 (20, 202, 3, .ref 10) := po20 h (pm202 kn) (tw4 (List.mem_of_getElem? (i := 226) rfl) rfl) (tw4 (List.mem_of_getElem? (i := 228) rfl) rfl) (pw2 (List.mem_of_getElem? (i := 6) rfl)) rfl rfl
set_option maxRecDepth 100000 in
theorem pe10_133_20 (kn : List rM) {m : Nat} (h : (rE0.1 m).cls = "PackHouse$Tags") : rpo (rpar kn) rE0 m 133 (20, 162, 2, .ref 7) := po20 h (pm162 kn) (tw4 (List.mem_of_getElem? (i := 232) rfl) rfl) (tw4 (List.mem_of_getElem? (i := 110) rfl) rfl) (tw4 (List.mem_of_getElem? (i := 111) rfl) rfl) rfl rfl
set_option maxRecDepth 100000 in
theorem pe10_137_25 (kn : List rM) {m : Nat} (h : (rE0.1 m).cls = "PackHouse$Tags") : rpo (rpar kn) rE0 m 137 (25, 53, 3, .null) := po25 h (pm53 kn) (tn4 (List.mem_of_getElem? (i := 230) rfl) rfl) (tw2 (List.mem_of_getElem? (i := 106) rfl) rfl)
set_option maxRecDepth 100000 in
theorem pe10_141_25 (kn : List rM) {m : Nat} (h : (rE0.1 m).cls = "PackHouse$Tags") : rpo (rpar kn) rE0 m 141 (25, 54, 1, .null) := po25 h (pm54 kn) (tn4 (List.mem_of_getElem? (i := 231) rfl) rfl) (tw2 (List.mem_of_getElem? (i := 111) rfl) rfl)
set_option maxRecDepth 100000 in
theorem pe10_145_0 (kn : List rM) {m : Nat} (h : (rE0.1 m).cls = "PackHouse$Tags") : rpo (rpar kn) rE0 m 145 (0, 10, 8, .ref 0) := po0 (C := "PackHouse$Tags") (T := FT10) (N := 9) (ty := fy10 8) h rfl (by decide) rfl (tw4 (List.mem_of_getElem? (i := 160) rfl) rfl) (fp10 8 (by decide)) rfl (fun _ => rfl) (fun a _ => absurd a (by decide))
set_option maxRecDepth 100000 in
theorem pe10_148_0 (kn : List rM) {m : Nat} (h : (rE0.1 m).cls = "PackHouse$Tags") : rpo (rpar kn) rE0 m 148 (0, 10, 3, .ref 3) := po0 (C := "PackHouse$Tags") (T := FT10) (N := 9) (ty := fy10 3) h rfl (by decide) rfl (tw4 (List.mem_of_getElem? (i := 155) rfl) rfl) (fp10 3 (by decide)) rfl (fun _ => rfl) (fun a _ => absurd a (by decide))
set_option maxRecDepth 100000 in
theorem pe10_151_0 (kn : List rM) {m : Nat} (h : (rE0.1 m).cls = "PackHouse$Tags") : rpo (rpar kn) rE0 m 151 (0, 10, 4, .ref 0) := po0 (C := "PackHouse$Tags") (T := FT10) (N := 9) (ty := fy10 4) h rfl (by decide) rfl (tw4 (List.mem_of_getElem? (i := 156) rfl) rfl) (fp10 4 (by decide)) rfl (fun _ => rfl) (fun a _ => absurd a (by decide))
set_option maxRecDepth 100000 in
theorem pe10_154_0 (kn : List rM) {m : Nat} (h : (rE0.1 m).cls = "PackHouse$Tags") : rpo (rpar kn) rE0 m 154 (0, 10, 5, .ref 3) := po0 (C := "PackHouse$Tags") (T := FT10) (N := 9) (ty := fy10 5) h rfl (by decide) rfl (tw4 (List.mem_of_getElem? (i := 157) rfl) rfl) (fp10 5 (by decide)) rfl (fun _ => rfl) (fun a _ => absurd a (by decide))
set_option maxRecDepth 100000 in
theorem pe10_157_0 (kn : List rM) {m : Nat} (h : (rE0.1 m).cls = "PackHouse$Tags") : rpo (rpar kn) rE0 m 157 (0, 10, 6, .ref 0) := po0 (C := "PackHouse$Tags") (T := FT10) (N := 9) (ty := fy10 6) h rfl (by decide) rfl (tw4 (List.mem_of_getElem? (i := 158) rfl) rfl) (fp10 6 (by decide)) rfl (fun _ => rfl) (fun a _ => absurd a (by decide))
set_option maxRecDepth 100000 in
theorem pe10_160_20 (kn : List rM) {m : Nat} (h : (rE0.1 m).cls = "PackHouse$Tags") : rpo (rpar kn) rE0 m 160 (20, 204, 3, .ref 10) := po20 h (pm204 kn) (tw6 (List.mem_of_getElem? (i := 163) rfl) rfl) (tw6 (List.mem_of_getElem? (i := 165) rfl) rfl) (pw4 (List.mem_of_getElem? (i := 13) rfl)) rfl rfl
set_option maxRecDepth 100000 in
theorem pe10_162_20 (kn : List rM) {m : Nat} (h : (rE0.1 m).cls = "PackHouse$Tags") : rpo (rpar kn) rE0 m 162 (20, 206, 3, .ref 10) := po20 h (pm206 kn) (tw6 (List.mem_of_getElem? (i := 167) rfl) rfl) (tw6 (List.mem_of_getElem? (i := 169) rfl) rfl) (pw4 (List.mem_of_getElem? (i := 14) rfl)) rfl rfl
set_option maxRecDepth 100000 in
theorem pe10_166_20 (kn : List rM) {m : Nat} (h : (rE0.1 m).cls = "PackHouse$Tags") : rpo (rpar kn) rE0 m 166 (20, 207, 3, .ref 10) := po20 h (pm207 kn) (tw6 (List.mem_of_getElem? (i := 171) rfl) rfl) (tw6 (List.mem_of_getElem? (i := 173) rfl) rfl) (pw4 (List.mem_of_getElem? (i := 15) rfl)) rfl rfl
set_option maxRecDepth 100000 in
theorem pe10_169_24 (kn : List rM) {m : Nat} (h : (rE0.1 m).cls = "PackHouse$Tags") : rpo (rpar kn) rE0 m 169 (24, 208, 1, .null) := po24 h (pm208 kn) (tw6 (List.mem_of_getElem? (i := 180) rfl) rfl) (tw6 (List.mem_of_getElem? (i := 181) rfl) rfl)
set_option maxRecDepth 100000 in
theorem pe10_172_20 (kn : List rM) {m : Nat} (h : (rE0.1 m).cls = "PackHouse$Tags") : rpo (rpar kn) rE0 m 172 (20, 203, 2, .ref 10) := po20 h (pm203 kn) (tw6 (List.mem_of_getElem? (i := 175) rfl) rfl) (tw6 (List.mem_of_getElem? (i := 177) rfl) rfl) (pw5 (List.mem_of_getElem? (i := 0) rfl)) rfl rfl
set_option maxRecDepth 100000 in
theorem pe10_175_25 (kn : List rM) {m : Nat} (h : (rE0.1 m).cls = "PackHouse$Tags") : rpo (rpar kn) rE0 m 175 (25, 42, 3, .null) := po25 h (pm42 kn) (tn6 (List.mem_of_getElem? (i := 183) rfl) rfl) (tw2 (List.mem_of_getElem? (i := 88) rfl) rfl)
set_option maxRecDepth 100000 in
theorem pe10_179_24 (kn : List rM) {m : Nat} (h : (rE0.1 m).cls = "PackHouse$Tags") : rpo (rpar kn) rE0 m 179 (24, 209, 2, .null) := po24 h (pm209 kn) (tw6 (List.mem_of_getElem? (i := 184) rfl) rfl) (tw6 (List.mem_of_getElem? (i := 185) rfl) rfl)
set_option maxRecDepth 100000 in
theorem pe10_183_0 (kn : List rM) {m : Nat} (h : (rE0.1 m).cls = "PackHouse$Tags") : rpo (rpar kn) rE0 m 183 (0, 10, 7, .ref 2) := po0 (C := "PackHouse$Tags") (T := FT10) (N := 9) (ty := fy10 7) h rfl (by decide) rfl (tw4 (List.mem_of_getElem? (i := 159) rfl) rfl) (fp10 7 (by decide)) rfl (fun _ => rfl) (fun a _ => absurd a (by decide))
set_option maxRecDepth 100000 in
theorem pe10_187_20 (kn : List rM) {m : Nat} (h : (rE0.1 m).cls = "PackHouse$Tags") : rpo (rpar kn) rE0 m 187 (20, 163, 4, .ref 7) := po20 h (pm163 kn) (tw6 (List.mem_of_getElem? (i := 187) rfl) rfl) (tw2 (List.mem_of_getElem? (i := 4) rfl) rfl) (tw2 (List.mem_of_getElem? (i := 5) rfl) rfl) rfl rfl
set_option maxRecDepth 100000 in
theorem pe10_191_11 (kn : List rM) {m : Nat} (h : (rE0.1 m).cls = "PackHouse$Tags") : rpo (rpar kn) rE0 m 191 (11, 0, 0, .long (127)) := po11 h (tw6 (List.mem_of_getElem? (i := 179) rfl) rfl)
set_option maxRecDepth 100000 in
theorem pe10_193_24 (kn : List rM) {m : Nat} (h : (rE0.1 m).cls = "PackHouse$Tags") : rpo (rpar kn) rE0 m 193 (24, 192, 3, .null) := po24 h (pm192 kn) (tw6 (List.mem_of_getElem? (i := 192) rfl) rfl) (tw6 (List.mem_of_getElem? (i := 193) rfl) rfl)
set_option maxRecDepth 100000 in
theorem pe10_197_20 (kn : List rM) {m : Nat} (h : (rE0.1 m).cls = "PackHouse$Tags") : rpo (rpar kn) rE0 m 197 (20, 211, 3, .ref 10) := po20 h (pm211 kn) (tw6 (List.mem_of_getElem? (i := 195) rfl) rfl) (tw6 (List.mem_of_getElem? (i := 197) rfl) rfl) (pw5 (List.mem_of_getElem? (i := 1) rfl)) rfl rfl
set_option maxRecDepth 100000 in
theorem pe10_200_10 (kn : List rM) {m : Nat} (h : (rE0.1 m).cls = "PackHouse$Tags") : rpo (rpar kn) rE0 m 200 (10, 0, 0, .int (65540)) := po10 h (tw6 (List.mem_of_getElem? (i := 199) rfl) rfl)
set_option maxRecDepth 100000 in
theorem pe10_201_10 (kn : List rM) {m : Nat} (h : (rE0.1 m).cls = "PackHouse$Tags") : rpo (rpar kn) rE0 m 201 (10, 0, 0, .int (65536)) := po10 h (tw6 (List.mem_of_getElem? (i := 200) rfl) rfl)
set_option maxRecDepth 100000 in
theorem pe10_202_25 (kn : List rM) {m : Nat} (h : (rE0.1 m).cls = "PackHouse$Tags") : rpo (rpar kn) rE0 m 202 (25, 41, 2, .null) := po25 h (pm41 kn) (tn6 (List.mem_of_getElem? (i := 201) rfl) rfl) (tw2 (List.mem_of_getElem? (i := 67) rfl) rfl)
set_option maxRecDepth 100000 in
theorem pl10 (kn : List rM) {m : Nat} (h : (rE0.1 m).cls = "PackHouse$Tags") : ∀ q ∈ pool_10, rpo (rpar kn) rE0 m q.1 q.2 := List.forall_mem_cons.mpr ⟨pe10_3_26 kn h, List.forall_mem_cons.mpr ⟨pe10_9_12 kn h, List.forall_mem_cons.mpr ⟨pe10_11_23 kn h, List.forall_mem_cons.mpr ⟨pe10_12_0 kn h, List.forall_mem_cons.mpr ⟨pe10_18_0 kn h, List.forall_mem_cons.mpr ⟨pe10_22_0 kn h, List.forall_mem_cons.mpr ⟨pe10_26_15 kn h, List.forall_mem_cons.mpr ⟨pe10_30_0 kn h, List.forall_mem_cons.mpr ⟨pe10_35_20 kn h, List.forall_mem_cons.mpr ⟨pe10_39_10 kn h, List.forall_mem_cons.mpr ⟨pe10_40_20 kn h, List.forall_mem_cons.mpr ⟨pe10_44_20 kn h, List.forall_mem_cons.mpr ⟨pe10_47_0 kn h, List.forall_mem_cons.mpr ⟨pe10_51_24 kn h, List.forall_mem_cons.mpr ⟨pe10_55_20 kn h, List.forall_mem_cons.mpr ⟨pe10_59_20 kn h, List.forall_mem_cons.mpr ⟨pe10_63_0 kn h, List.forall_mem_cons.mpr ⟨pe10_66_0 kn h, List.forall_mem_cons.mpr ⟨pe10_69_20 kn h, List.forall_mem_cons.mpr ⟨pe10_73_0 kn h, List.forall_mem_cons.mpr ⟨pe10_76_0 kn h, List.forall_mem_cons.mpr ⟨pe10_79_24 kn h, List.forall_mem_cons.mpr ⟨pe10_82_0 kn h, List.forall_mem_cons.mpr ⟨pe10_85_20 kn h, List.forall_mem_cons.mpr ⟨pe10_88_20 kn h, List.forall_mem_cons.mpr ⟨pe10_92_0 kn h, List.forall_mem_cons.mpr ⟨pe10_95_20 kn h, List.forall_mem_cons.mpr ⟨pe10_99_24 kn h, List.forall_mem_cons.mpr ⟨pe10_103_24 kn h, List.forall_mem_cons.mpr ⟨pe10_107_24 kn h, List.forall_mem_cons.mpr ⟨pe10_110_30 kn h, List.forall_mem_cons.mpr ⟨pe10_116_29 kn h, List.forall_mem_cons.mpr ⟨pe10_119_20 kn h, List.forall_mem_cons.mpr ⟨pe10_122_0 kn h, List.forall_mem_cons.mpr ⟨pe10_126_20 kn h, List.forall_mem_cons.mpr ⟨pe10_129_20 kn h, List.forall_mem_cons.mpr ⟨pe10_133_20 kn h, List.forall_mem_cons.mpr ⟨pe10_137_25 kn h, List.forall_mem_cons.mpr ⟨pe10_141_25 kn h, List.forall_mem_cons.mpr ⟨pe10_145_0 kn h, List.forall_mem_cons.mpr ⟨pe10_148_0 kn h, List.forall_mem_cons.mpr ⟨pe10_151_0 kn h, List.forall_mem_cons.mpr ⟨pe10_154_0 kn h, List.forall_mem_cons.mpr ⟨pe10_157_0 kn h, List.forall_mem_cons.mpr ⟨pe10_160_20 kn h, List.forall_mem_cons.mpr ⟨pe10_162_20 kn h, List.forall_mem_cons.mpr ⟨pe10_166_20 kn h, List.forall_mem_cons.mpr ⟨pe10_169_24 kn h, List.forall_mem_cons.mpr ⟨pe10_172_20 kn h, List.forall_mem_cons.mpr ⟨pe10_175_25 kn h, List.forall_mem_cons.mpr ⟨pe10_179_24 kn h, List.forall_mem_cons.mpr ⟨pe10_183_0 kn h, List.forall_mem_cons.mpr ⟨pe10_187_20 kn h, List.forall_mem_cons.mpr ⟨pe10_191_11 kn h, List.forall_mem_cons.mpr ⟨pe10_193_24 kn h, List.forall_mem_cons.mpr ⟨pe10_197_20 kn h, List.forall_mem_cons.mpr ⟨pe10_200_10 kn h, List.forall_mem_cons.mpr ⟨pe10_201_10 kn h, List.forall_mem_cons.mpr ⟨pe10_202_25 kn h, (fun _ h => absurd h List.not_mem_nil)⟩⟩⟩⟩⟩⟩⟩⟩⟩⟩⟩⟩⟩⟩⟩⟩⟩⟩⟩⟩⟩⟩⟩⟩⟩⟩⟩⟩⟩⟩⟩⟩⟩⟩⟩⟩⟩⟩⟩⟩⟩⟩⟩⟩⟩⟩⟩⟩⟩⟩⟩⟩⟩⟩⟩⟩⟩⟩⟩
set_option maxRecDepth 100000 in
theorem pe11_3_26 (kn : List rM) {m : Nat} (h : (rE0.1 m).cls = "PackHouse$Tokens") : rpo (rpar kn) rE0 m 3 (26, 0, 0, .null) := po26 h (tw3 (List.mem_of_getElem? (i := 237) rfl) rfl)
set_option maxRecDepth 100000 in
theorem pe11_9_12 (kn : List rM) {m : Nat} (h : (rE0.1 m).cls = "PackHouse$Tokens") : rpo (rpar kn) rE0 m 9 (12, 7, 5, .null) := po12 (T := FT7) h rfl (tw3 (List.mem_of_getElem? (i := 238) rfl) rfl) (tw1 (List.mem_of_getElem? (i := 33) rfl) rfl) (tw1 (List.mem_of_getElem? (i := 2) rfl) rfl)
set_option maxRecDepth 100000 in
theorem pe11_11_23 (kn : List rM) {m : Nat} (h : (rE0.1 m).cls = "PackHouse$Tokens") : rpo (rpar kn) rE0 m 11 (23, 155, 0, .ref 7) := po23 h (pm155 kn) (tn3 (List.mem_of_getElem? (i := 239) rfl) rfl) (tw1 (List.mem_of_getElem? (i := 35) rfl) rfl) rfl rfl
set_option maxRecDepth 100000 in
theorem pe11_12_0 (kn : List rM) {m : Nat} (h : (rE0.1 m).cls = "PackHouse$Tokens") : rpo (rpar kn) rE0 m 12 (0, 11, 3, .ref 11) := po0 (C := "PackHouse$Tokens") (T := FT11) (N := 13) (ty := fy11 3) h rfl (by decide) rfl (tw4 (List.mem_of_getElem? (i := 3) rfl) rfl) (fp11 3 (by decide)) rfl (fun a => absurd a (by decide)) (fun _ _ => ⟨rfl, rfl⟩)
set_option maxRecDepth 100000 in
theorem pe11_18_0 (kn : List rM) {m : Nat} (h : (rE0.1 m).cls = "PackHouse$Tokens") : rpo (rpar kn) rE0 m 18 (0, 11, 0, .ref 11) := po0 (C := "PackHouse$Tokens") (T := FT11) (N := 13) (ty := fy11 0) h rfl (by decide) rfl (tw4 (List.mem_of_getElem? (i := 0) rfl) rfl) (fp11 0 (by decide)) rfl (fun a => absurd a (by decide)) (fun _ _ => ⟨rfl, rfl⟩)
set_option maxRecDepth 100000 in
theorem pe11_22_0 (kn : List rM) {m : Nat} (h : (rE0.1 m).cls = "PackHouse$Tokens") : rpo (rpar kn) rE0 m 22 (0, 11, 1, .ref 11) := po0 (C := "PackHouse$Tokens") (T := FT11) (N := 13) (ty := fy11 1) h rfl (by decide) rfl (tw4 (List.mem_of_getElem? (i := 1) rfl) rfl) (fp11 1 (by decide)) rfl (fun a => absurd a (by decide)) (fun _ _ => ⟨rfl, rfl⟩)
set_option maxRecDepth 100000 in
theorem pe11_25_0 (kn : List rM) {m : Nat} (h : (rE0.1 m).cls = "PackHouse$Tokens") : rpo (rpar kn) rE0 m 25 (0, 11, 2, .ref 11) := po0 (C := "PackHouse$Tokens") (T := FT11) (N := 13) (ty := fy11 2) h rfl (by decide) rfl (tw4 (List.mem_of_getElem? (i := 2) rfl) rfl) (fp11 2 (by decide)) rfl (fun a => absurd a (by decide)) (fun _ _ => ⟨rfl, rfl⟩)
set_option maxRecDepth 100000 in
theorem pe11_29_0 (kn : List rM) {m : Nat} (h : (rE0.1 m).cls = "PackHouse$Tokens") : rpo (rpar kn) rE0 m 29 (0, 5, 0, .ref 19) := po0 (C := "PackHouse$Finder") (T := FT5) (N := 19) (ty := fy5 0) h rfl (by decide) rfl (tw3 (List.mem_of_getElem? (i := 158) rfl) rfl) (fp5 0 (by decide)) rfl (fun a => absurd a (by decide)) (fun _ b => absurd b (by decide))
set_option maxRecDepth 100000 in
theorem pe11_34_20 (kn : List rM) {m : Nat} (h : (rE0.1 m).cls = "PackHouse$Tokens") : rpo (rpar kn) rE0 m 34 (20, 158, 1, .ref 7) := po20 h (pm158 kn) (tw4 (List.mem_of_getElem? (i := 45) rfl) rfl) (tw2 (List.mem_of_getElem? (i := 119) rfl) rfl) (tw2 (List.mem_of_getElem? (i := 120) rfl) rfl) rfl rfl
set_option maxRecDepth 100000 in
theorem pe11_38_0 (kn : List rM) {m : Nat} (h : (rE0.1 m).cls = "PackHouse$Tokens") : rpo (rpar kn) rE0 m 38 (0, 7, 0, .ref 3) := po0 (C := "PackHouse$Row") (T := FT7) (N := 5) (ty := fy7 0) h rfl (by decide) rfl (tw1 (List.mem_of_getElem? (i := 42) rfl) rfl) (fp7 0 (by decide)) rfl (fun _ => rfl) (fun a _ => absurd a (by decide))
set_option maxRecDepth 100000 in
theorem pe11_42_0 (kn : List rM) {m : Nat} (h : (rE0.1 m).cls = "PackHouse$Tokens") : rpo (rpar kn) rE0 m 42 (0, 7, 1, .ref 0) := po0 (C := "PackHouse$Row") (T := FT7) (N := 5) (ty := fy7 1) h rfl (by decide) rfl (tw1 (List.mem_of_getElem? (i := 50) rfl) rfl) (fp7 1 (by decide)) rfl (fun _ => rfl) (fun a _ => absurd a (by decide))
set_option maxRecDepth 100000 in
theorem pe11_46_20 (kn : List rM) {m : Nat} (h : (rE0.1 m).cls = "PackHouse$Tokens") : rpo (rpar kn) rE0 m 46 (20, 161, 3, .ref 7) := po20 h (pm161 kn) (tw4 (List.mem_of_getElem? (i := 46) rfl) rfl) (tw2 (List.mem_of_getElem? (i := 19) rfl) rfl) (tw2 (List.mem_of_getElem? (i := 20) rfl) rfl) rfl rfl
set_option maxRecDepth 100000 in
theorem pe11_50_10 (kn : List rM) {m : Nat} (h : (rE0.1 m).cls = "PackHouse$Tokens") : rpo (rpar kn) rE0 m 50 (10, 0, 0, .int (65535)) := po10 h (tw4 (List.mem_of_getElem? (i := 47) rfl) rfl)
set_option maxRecDepth 100000 in
theorem pe11_51_20 (kn : List rM) {m : Nat} (h : (rE0.1 m).cls = "PackHouse$Tokens") : rpo (rpar kn) rE0 m 51 (20, 121, 3, .ref 5) := po20 h (pm121 kn) (tw4 (List.mem_of_getElem? (i := 48) rfl) rfl) (tw4 (List.mem_of_getElem? (i := 49) rfl) rfl) (tw4 (List.mem_of_getElem? (i := 50) rfl) rfl) rfl rfl
set_option maxRecDepth 100000 in
theorem pe11_55_20 (kn : List rM) {m : Nat} (h : (rE0.1 m).cls = "PackHouse$Tokens") : rpo (rpar kn) rE0 m 55 (20, 215, 2, .ref 11) := po20 h (pm215 kn) (tw4 (List.mem_of_getElem? (i := 53) rfl) rfl) (tw4 (List.mem_of_getElem? (i := 55) rfl) rfl) (pw1 (List.mem_of_getElem? (i := 9) rfl)) rfl rfl
set_option maxRecDepth 100000 in
theorem pe11_59_20 (kn : List rM) {m : Nat} (h : (rE0.1 m).cls = "PackHouse$Tokens") : rpo (rpar kn) rE0 m 59 (20, 123, 1, .ref 5) := po20 h (pm123 kn) (tw4 (List.mem_of_getElem? (i := 57) rfl) rfl) (tw4 (List.mem_of_getElem? (i := 58) rfl) rfl) (tw4 (List.mem_of_getElem? (i := 59) rfl) rfl) rfl rfl
set_option maxRecDepth 100000 in
theorem pe11_63_20 (kn : List rM) {m : Nat} (h : (rE0.1 m).cls = "PackHouse$Tokens") : rpo (rpar kn) rE0 m 63 (20, 125, 4, .ref 5) := po20 h (pm125 kn) (tw4 (List.mem_of_getElem? (i := 76) rfl) rfl) (tw4 (List.mem_of_getElem? (i := 77) rfl) rfl) (tw4 (List.mem_of_getElem? (i := 78) rfl) rfl) rfl rfl
set_option maxRecDepth 100000 in
theorem pe11_67_0 (kn : List rM) {m : Nat} (h : (rE0.1 m).cls = "PackHouse$Tokens") : rpo (rpar kn) rE0 m 67 (0, 5, 4, .ref 0) := po0 (C := "PackHouse$Finder") (T := FT5) (N := 19) (ty := fy5 4) h rfl (by decide) rfl (tw3 (List.mem_of_getElem? (i := 173) rfl) rfl) (fp5 4 (by decide)) rfl (fun _ => rfl) (fun a _ => absurd a (by decide))
set_option maxRecDepth 100000 in
theorem pe11_70_0 (kn : List rM) {m : Nat} (h : (rE0.1 m).cls = "PackHouse$Tokens") : rpo (rpar kn) rE0 m 70 (0, 5, 1, .ref 3) := po0 (C := "PackHouse$Finder") (T := FT5) (N := 19) (ty := fy5 1) h rfl (by decide) rfl (tw3 (List.mem_of_getElem? (i := 162) rfl) rfl) (fp5 1 (by decide)) rfl (fun _ => rfl) (fun a _ => absurd a (by decide))
set_option maxRecDepth 100000 in
theorem pe11_73_0 (kn : List rM) {m : Nat} (h : (rE0.1 m).cls = "PackHouse$Tokens") : rpo (rpar kn) rE0 m 73 (0, 5, 2, .ref 3) := po0 (C := "PackHouse$Finder") (T := FT5) (N := 19) (ty := fy5 2) h rfl (by decide) rfl (tw3 (List.mem_of_getElem? (i := 166) rfl) rfl) (fp5 2 (by decide)) rfl (fun _ => rfl) (fun a _ => absurd a (by decide))
set_option maxRecDepth 100000 in
theorem pe11_76_20 (kn : List rM) {m : Nat} (h : (rE0.1 m).cls = "PackHouse$Tokens") : rpo (rpar kn) rE0 m 76 (20, 216, 4, .ref 11) := po20 h (pm216 kn) (tw4 (List.mem_of_getElem? (i := 100) rfl) rfl) (tw4 (List.mem_of_getElem? (i := 102) rfl) rfl) (pw2 (List.mem_of_getElem? (i := 0) rfl)) rfl rfl
set_option maxRecDepth 100000 in
theorem pe11_80_0 (kn : List rM) {m : Nat} (h : (rE0.1 m).cls = "PackHouse$Tokens") : rpo (rpar kn) rE0 m 80 (0, 5, 3, .ref 3) := po0 (C := "PackHouse$Finder") (T := FT5) (N := 19) (ty := fy5 3) h rfl (by decide) rfl (tw3 (List.mem_of_getElem? (i := 171) rfl) rfl) (fp5 3 (by decide)) rfl (fun _ => rfl) (fun a _ => absurd a (by decide))
set_option maxRecDepth 100000 in
theorem pe11_83_20 (kn : List rM) {m : Nat} (h : (rE0.1 m).cls = "PackHouse$Tokens") : rpo (rpar kn) rE0 m 83 (20, 160, 2, .ref 7) := po20 h (pm160 kn) (tw4 (List.mem_of_getElem? (i := 116) rfl) rfl) (tw4 (List.mem_of_getElem? (i := 117) rfl) rfl) (tw4 (List.mem_of_getElem? (i := 118) rfl) rfl) rfl rfl
set_option maxRecDepth 100000 in
theorem pe11_87_24 (kn : List rM) {m : Nat} (h : (rE0.1 m).cls = "PackHouse$Tokens") : rpo (rpar kn) rE0 m 87 (24, 217, 2, .null) := po24 h (pm217 kn) (tw4 (List.mem_of_getElem? (i := 106) rfl) rfl) (tw4 (List.mem_of_getElem? (i := 107) rfl) rfl)
set_option maxRecDepth 100000 in
theorem pe11_90_0 (kn : List rM) {m : Nat} (h : (rE0.1 m).cls = "PackHouse$Tokens") : rpo (rpar kn) rE0 m 90 (0, 5, 5, .ref 0) := po0 (C := "PackHouse$Finder") (T := FT5) (N := 19) (ty := fy5 5) h rfl (by decide) rfl (tw3 (List.mem_of_getElem? (i := 178) rfl) rfl) (fp5 5 (by decide)) rfl (fun _ => rfl) (fun a _ => absurd a (by decide))
set_option maxRecDepth 100000 in
theorem pe11_93_30 (kn : List rM) {m : Nat} (h : (rE0.1 m).cls = "PackHouse$Tokens") : rpo (rpar kn) rE0 m 93 (30, 0, 0, .null) := po30 h (tw4 (List.mem_of_getElem? (i := 104) rfl) rfl)
set_option maxRecDepth 100000 in
theorem pe11_99_20 (kn : List rM) {m : Nat} (h : (rE0.1 m).cls = "PackHouse$Tokens") : rpo (rpar kn) rE0 m 99 (20, 159, 1, .ref 7) := po20 h (pm159 kn) (tw4 (List.mem_of_getElem? (i := 105) rfl) rfl) (tw1 (List.mem_of_getElem? (i := 231) rfl) rfl) (tw1 (List.mem_of_getElem? (i := 232) rfl) rfl) rfl rfl
set_option maxRecDepth 100000 in
theorem pe11_102_20 (kn : List rM) {m : Nat} (h : (rE0.1 m).cls = "PackHouse$Tokens") : rpo (rpar kn) rE0 m 102 (20, 162, 2, .ref 7) := po20 h (pm162 kn) (tw4 (List.mem_of_getElem? (i := 109) rfl) rfl) (tw4 (List.mem_of_getElem? (i := 110) rfl) rfl) (tw4 (List.mem_of_getElem? (i := 111) rfl) rfl) rfl rfl
set_option maxRecDepth 100000 in
theorem pe11_106_0 (kn : List rM) {m : Nat} (h : (rE0.1 m).cls = "PackHouse$Tokens") : rpo (rpar kn) rE0 m 106 (0, 11, 8, .ref 0) := po0 (C := "PackHouse$Tokens") (T := FT11) (N := 13) (ty := fy11 8) h rfl (by decide) rfl (tw4 (List.mem_of_getElem? (i := 8) rfl) rfl) (fp11 8 (by decide)) rfl (fun _ => rfl) (fun a _ => absurd a (by decide))
set_option maxRecDepth 100000 in
theorem pe11_109_20 (kn : List rM) {m : Nat} (h : (rE0.1 m).cls = "PackHouse$Tokens") : rpo (rpar kn) rE0 m 109 (20, 219, 2, .ref 11) := po20 h (pm219 kn) (tw4 (List.mem_of_getElem? (i := 124) rfl) rfl) (tw4 (List.mem_of_getElem? (i := 126) rfl) rfl) (pw2 (List.mem_of_getElem? (i := 1) rfl)) rfl rfl
set_option maxRecDepth 100000 in
theorem pe11_112_0 (kn : List rM) {m : Nat} (h : (rE0.1 m).cls = "PackHouse$Tokens") : rpo (rpar kn) rE0 m 112 (0, 5, 6, .ref 0) := po0 (C := "PackHouse$Finder") (T := FT5) (N := 19) (ty := fy5 6) h rfl (by decide) rfl (tw3 (List.mem_of_getElem? (i := 182) rfl) rfl) (fp5 6 (by decide)) rfl (fun _ => rfl) (fun a _ => absurd a (by decide))
set_option maxRecDepth 100000 in
theorem pe11_115_0 (kn : List rM) {m : Nat} (h : (rE0.1 m).cls = "PackHouse$Tokens") : rpo (rpar kn) rE0 m 115 (0, 7, 2, .ref 1) := po0 (C := "PackHouse$Row") (T := FT7) (N := 5) (ty := fy7 2) h rfl (by decide) rfl (tw1 (List.mem_of_getElem? (i := 57) rfl) rfl) (fp7 2 (by decide)) rfl (fun _ => rfl) (fun a _ => absurd a (by decide))
set_option maxRecDepth 100000 in
theorem pe11_119_20 (kn : List rM) {m : Nat} (h : (rE0.1 m).cls = "PackHouse$Tokens") : rpo (rpar kn) rE0 m 119 (20, 124, 1, .ref 5) := po20 h (pm124 kn) (tw4 (List.mem_of_getElem? (i := 130) rfl) rfl) (tw4 (List.mem_of_getElem? (i := 131) rfl) rfl) (tw4 (List.mem_of_getElem? (i := 132) rfl) rfl) rfl rfl
set_option maxRecDepth 100000 in
theorem pe11_122_20 (kn : List rM) {m : Nat} (h : (rE0.1 m).cls = "PackHouse$Tokens") : rpo (rpar kn) rE0 m 122 (20, 156, 0, .ref 7) := po20 h (pm156 kn) (tw4 (List.mem_of_getElem? (i := 134) rfl) rfl) (tw2 (List.mem_of_getElem? (i := 123) rfl) rfl) (tw2 (List.mem_of_getElem? (i := 124) rfl) rfl) rfl rfl
set_option maxRecDepth 100000 in
theorem pe11_125_20 (kn : List rM) {m : Nat} (h : (rE0.1 m).cls = "PackHouse$Tokens") : rpo (rpar kn) rE0 m 125 (20, 220, 4, .ref 11) := po20 h (pm220 kn) (tw4 (List.mem_of_getElem? (i := 135) rfl) rfl) (tw4 (List.mem_of_getElem? (i := 137) rfl) rfl) (pw2 (List.mem_of_getElem? (i := 2) rfl)) rfl rfl
set_option maxRecDepth 100000 in
theorem pe11_129_25 (kn : List rM) {m : Nat} (h : (rE0.1 m).cls = "PackHouse$Tokens") : rpo (rpar kn) rE0 m 129 (25, 49, 4, .null) := po25 h (pm49 kn) (tn4 (List.mem_of_getElem? (i := 129) rfl) rfl) (tw2 (List.mem_of_getElem? (i := 61) rfl) rfl)
set_option maxRecDepth 100000 in
theorem pe11_133_11 (kn : List rM) {m : Nat} (h : (rE0.1 m).cls = "PackHouse$Tokens") : rpo (rpar kn) rE0 m 133 (11, 0, 0, .long (407708164)) := po11 h (tw4 (List.mem_of_getElem? (i := 128) rfl) rfl)
set_option maxRecDepth 100000 in
theorem pe11_135_10 (kn : List rM) {m : Nat} (h : (rE0.1 m).cls = "PackHouse$Tokens") : rpo (rpar kn) rE0 m 135 (10, 0, 0, .int (-2147483648)) := po10 h (tw4 (List.mem_of_getElem? (i := 139) rfl) rfl)
set_option maxRecDepth 100000 in
theorem pe11_136_0 (kn : List rM) {m : Nat} (h : (rE0.1 m).cls = "PackHouse$Tokens") : rpo (rpar kn) rE0 m 136 (0, 11, 12, .ref 0) := po0 (C := "PackHouse$Tokens") (T := FT11) (N := 13) (ty := fy11 12) h rfl (by decide) rfl (tw4 (List.mem_of_getElem? (i := 12) rfl) rfl) (fp11 12 (by decide)) rfl (fun _ => rfl) (fun a _ => absurd a (by decide))
set_option maxRecDepth 100000 in
theorem pe11_139_0 (kn : List rM) {m : Nat} (h : (rE0.1 m).cls = "PackHouse$Tokens") : rpo (rpar kn) rE0 m 139 (0, 11, 4, .ref 3) := po0 (C := "PackHouse$Tokens") (T := FT11) (N := 13) (ty := fy11 4) h rfl (by decide) rfl (tw4 (List.mem_of_getElem? (i := 4) rfl) rfl) (fp11 4 (by decide)) rfl (fun _ => rfl) (fun a _ => absurd a (by decide))
set_option maxRecDepth 100000 in
theorem pe11_142_0 (kn : List rM) {m : Nat} (h : (rE0.1 m).cls = "PackHouse$Tokens") : rpo (rpar kn) rE0 m 142 (0, 11, 5, .ref 0) := po0 (C := "PackHouse$Tokens") (T := FT11) (N := 13) (ty := fy11 5) h rfl (by decide) rfl (tw4 (List.mem_of_getElem? (i := 5) rfl) rfl) (fp11 5 (by decide)) rfl (fun _ => rfl) (fun a _ => absurd a (by decide))
set_option maxRecDepth 100000 in
theorem pe11_145_0 (kn : List rM) {m : Nat} (h : (rE0.1 m).cls = "PackHouse$Tokens") : rpo (rpar kn) rE0 m 145 (0, 11, 6, .ref 3) := po0 (C := "PackHouse$Tokens") (T := FT11) (N := 13) (ty := fy11 6) h rfl (by decide) rfl (tw4 (List.mem_of_getElem? (i := 6) rfl) rfl) (fp11 6 (by decide)) rfl (fun _ => rfl) (fun a _ => absurd a (by decide))
set_option maxRecDepth 100000 in
theorem pe11_148_0 (kn : List rM) {m : Nat} (h : (rE0.1 m).cls = "PackHouse$Tokens") : rpo (rpar kn) rE0 m 148 (0, 11, 7, .ref 0) := po0 (C := "PackHouse$Tokens") (T := FT11) (N := 13) (ty := fy11 7) h rfl (by decide) rfl (tw4 (List.mem_of_getElem? (i := 7) rfl) rfl) (fp11 7 (by decide)) rfl (fun _ => rfl) (fun a _ => absurd a (by decide))
set_option maxRecDepth 100000 in
theorem pe11_151_20 (kn : List rM) {m : Nat} (h : (rE0.1 m).cls = "PackHouse$Tokens") : rpo (rpar kn) rE0 m 151 (20, 222, 3, .ref 11) := po20 h (pm222 kn) (tw6 (List.mem_of_getElem? (i := 110) rfl) rfl) (tw6 (List.mem_of_getElem? (i := 112) rfl) rfl) (pw4 (List.mem_of_getElem? (i := 5) rfl)) rfl rfl
set_option maxRecDepth 100000 in
theorem pe11_154_20 (kn : List rM) {m : Nat} (h : (rE0.1 m).cls = "PackHouse$Tokens") : rpo (rpar kn) rE0 m 154 (20, 224, 4, .ref 11) := po20 h (pm224 kn) (tw6 (List.mem_of_getElem? (i := 114) rfl) rfl) (tw6 (List.mem_of_getElem? (i := 116) rfl) rfl) (pw4 (List.mem_of_getElem? (i := 6) rfl)) rfl rfl
set_option maxRecDepth 100000 in
theorem pe11_158_20 (kn : List rM) {m : Nat} (h : (rE0.1 m).cls = "PackHouse$Tokens") : rpo (rpar kn) rE0 m 158 (20, 221, 2, .ref 11) := po20 h (pm221 kn) (tw6 (List.mem_of_getElem? (i := 118) rfl) rfl) (tw6 (List.mem_of_getElem? (i := 120) rfl) rfl) (pw4 (List.mem_of_getElem? (i := 7) rfl)) rfl rfl
set_option maxRecDepth 100000 in
theorem pe11_161_20 (kn : List rM) {m : Nat} (h : (rE0.1 m).cls = "PackHouse$Tokens") : rpo (rpar kn) rE0 m 161 (20, 225, 3, .ref 11) := po20 h (pm225 kn) (tw6 (List.mem_of_getElem? (i := 122) rfl) rfl) (tw6 (List.mem_of_getElem? (i := 124) rfl) rfl) (pw4 (List.mem_of_getElem? (i := 8) rfl)) rfl rfl
set_option maxRecDepth 100000 in
theorem pe11_165_0 (kn : List rM) {m : Nat} (h : (rE0.1 m).cls = "PackHouse$Tokens") : rpo (rpar kn) rE0 m 165 (0, 11, 11, .ref 0) := po0 (C := "PackHouse$Tokens") (T := FT11) (N := 13) (ty := fy11 11) h rfl (by decide) rfl (tw4 (List.mem_of_getElem? (i := 11) rfl) rfl) (fp11 11 (by decide)) rfl (fun _ => rfl) (fun a _ => absurd a (by decide))
set_option maxRecDepth 100000 in
theorem pe11_168_25 (kn : List rM) {m : Nat} (h : (rE0.1 m).cls = "PackHouse$Tokens") : rpo (rpar kn) rE0 m 168 (25, 42, 3, .null) := po25 h (pm42 kn) (tn6 (List.mem_of_getElem? (i := 126) rfl) rfl) (tw2 (List.mem_of_getElem? (i := 88) rfl) rfl)
set_option maxRecDepth 100000 in
theorem pe11_172_20 (kn : List rM) {m : Nat} (h : (rE0.1 m).cls = "PackHouse$Tokens") : rpo (rpar kn) rE0 m 172 (20, 163, 4, .ref 7) := po20 h (pm163 kn) (tw6 (List.mem_of_getElem? (i := 127) rfl) rfl) (tw2 (List.mem_of_getElem? (i := 4) rfl) rfl) (tw2 (List.mem_of_getElem? (i := 5) rfl) rfl) rfl rfl
set_option maxRecDepth 100000 in
theorem pe11_176_25 (kn : List rM) {m : Nat} (h : (rE0.1 m).cls = "PackHouse$Tokens") : rpo (rpar kn) rE0 m 176 (25, 43, 3, .null) := po25 h (pm43 kn) (tn6 (List.mem_of_getElem? (i := 132) rfl) rfl) (tw6 (List.mem_of_getElem? (i := 133) rfl) rfl)
set_option maxRecDepth 100000 in
theorem pe11_180_25 (kn : List rM) {m : Nat} (h : (rE0.1 m).cls = "PackHouse$Tokens") : rpo (rpar kn) rE0 m 180 (25, 44, 3, .null) := po25 h (pm44 kn) (tn6 (List.mem_of_getElem? (i := 136) rfl) rfl) (tw6 (List.mem_of_getElem? (i := 137) rfl) rfl)
set_option maxRecDepth 100000 in
theorem pe11_184_20 (kn : List rM) {m : Nat} (h : (rE0.1 m).cls = "PackHouse$Tokens") : rpo (rpar kn) rE0 m 184 (20, 227, 1, .ref 11) := po20 h (pm227 kn) (tw6 (List.mem_of_getElem? (i := 139) rfl) rfl) (tw6 (List.mem_of_getElem? (i := 141) rfl) rfl) (pw4 (List.mem_of_getElem? (i := 9) rfl)) rfl rfl
set_option maxRecDepth 100000 in
theorem pe11_188_20 (kn : List rM) {m : Nat} (h : (rE0.1 m).cls = "PackHouse$Tokens") : rpo (rpar kn) rE0 m 188 (20, 228, 1, .ref 11) := po20 h (pm228 kn) (tw6 (List.mem_of_getElem? (i := 146) rfl) rfl) (tw6 (List.mem_of_getElem? (i := 148) rfl) rfl) (pw4 (List.mem_of_getElem? (i := 10) rfl)) rfl rfl
set_option maxRecDepth 100000 in
theorem pe11_191_20 (kn : List rM) {m : Nat} (h : (rE0.1 m).cls = "PackHouse$Tokens") : rpo (rpar kn) rE0 m 191 (20, 230, 2, .ref 11) := po20 h (pm230 kn) (tw6 (List.mem_of_getElem? (i := 155) rfl) rfl) (tw6 (List.mem_of_getElem? (i := 157) rfl) rfl) (pw4 (List.mem_of_getElem? (i := 12) rfl)) rfl rfl
set_option maxRecDepth 100000 in
theorem pe11_194_25 (kn : List rM) {m : Nat} (h : (rE0.1 m).cls = "PackHouse$Tokens") : rpo (rpar kn) rE0 m 194 (25, 41, 2, .null) := po25 h (pm41 kn) (tn6 (List.mem_of_getElem? (i := 143) rfl) rfl) (tw2 (List.mem_of_getElem? (i := 67) rfl) rfl)
set_option maxRecDepth 100000 in
theorem pe11_198_10 (kn : List rM) {m : Nat} (h : (rE0.1 m).cls = "PackHouse$Tokens") : rpo (rpar kn) rE0 m 198 (10, 0, 0, .int (407708164)) := po10 h (tw6 (List.mem_of_getElem? (i := 144) rfl) rfl)
set_option maxRecDepth 100000 in
theorem pe11_199_24 (kn : List rM) {m : Nat} (h : (rE0.1 m).cls = "PackHouse$Tokens") : rpo (rpar kn) rE0 m 199 (24, 213, 1, .null) := po24 h (pm213 kn) (tw6 (List.mem_of_getElem? (i := 145) rfl) rfl) (tw2 (List.mem_of_getElem? (i := 50) rfl) rfl)
set_option maxRecDepth 100000 in
theorem pe11_203_0 (kn : List rM) {m : Nat} (h : (rE0.1 m).cls = "PackHouse$Tokens") : rpo (rpar kn) rE0 m 203 (0, 11, 9, .ref 0) := po0 (C := "PackHouse$Tokens") (T := FT11) (N := 13) (ty := fy11 9) h rfl (by decide) rfl (tw4 (List.mem_of_getElem? (i := 9) rfl) rfl) (fp11 9 (by decide)) rfl (fun _ => rfl) (fun a _ => absurd a (by decide))
set_option maxRecDepth 100000 in
theorem pe11_206_0 (kn : List rM) {m : Nat} (h : (rE0.1 m).cls = "PackHouse$Tokens") : rpo (rpar kn) rE0 m 206 (0, 11, 10, .ref 0) := po0 (C := "PackHouse$Tokens") (T := FT11) (N := 13) (ty := fy11 10) h rfl (by decide) rfl (tw4 (List.mem_of_getElem? (i := 10) rfl) rfl) (fp11 10 (by decide)) rfl (fun _ => rfl) (fun a _ => absurd a (by decide))
set_option maxRecDepth 100000 in
theorem pe11_209_10 (kn : List rM) {m : Nat} (h : (rE0.1 m).cls = "PackHouse$Tokens") : rpo (rpar kn) rE0 m 209 (10, 0, 0, .int (2147483647)) := po10 h (tw6 (List.mem_of_getElem? (i := 150) rfl) rfl)
set_option maxRecDepth 100000 in
theorem pe11_210_20 (kn : List rM) {m : Nat} (h : (rE0.1 m).cls = "PackHouse$Tokens") : rpo (rpar kn) rE0 m 210 (20, 229, 3, .ref 11) := po20 h (pm229 kn) (tw6 (List.mem_of_getElem? (i := 151) rfl) rfl) (tw6 (List.mem_of_getElem? (i := 153) rfl) rfl) (pw4 (List.mem_of_getElem? (i := 11) rfl)) rfl rfl
set_option maxRecDepth 100000 in
theorem pl11 (kn : List rM) {m : Nat} (h : (rE0.1 m).cls = "PackHouse$Tokens") : ∀ q ∈ pool_11, rpo (rpar kn) rE0 m q.1 q.2 := List.forall_mem_cons.mpr ⟨pe11_3_26 kn h, List.forall_mem_cons.mpr ⟨pe11_9_12 kn h, List.forall_mem_cons.mpr ⟨pe11_11_23 kn h, List.forall_mem_cons.mpr ⟨pe11_12_0 kn h, List.forall_mem_cons.mpr ⟨pe11_18_0 kn h, List.forall_mem_cons.mpr ⟨pe11_22_0 kn h, List.forall_mem_cons.mpr ⟨pe11_25_0 kn h, List.forall_mem_cons.mpr ⟨pe11_29_0 kn h, List.forall_mem_cons.mpr ⟨pe11_34_20 kn h, List.forall_mem_cons.mpr ⟨pe11_38_0 kn h, List.forall_mem_cons.mpr ⟨pe11_42_0 kn h, List.forall_mem_cons.mpr ⟨pe11_46_20 kn h, List.forall_mem_cons.mpr ⟨pe11_50_10 kn h, List.forall_mem_cons.mpr ⟨pe11_51_20 kn h, List.forall_mem_cons.mpr ⟨pe11_55_20 kn h, List.forall_mem_cons.mpr ⟨pe11_59_20 kn h, List.forall_mem_cons.mpr ⟨pe11_63_20 kn h, List.forall_mem_cons.mpr ⟨pe11_67_0 kn h, List.forall_mem_cons.mpr ⟨pe11_70_0 kn h, List.forall_mem_cons.mpr ⟨pe11_73_0 kn h, List.forall_mem_cons.mpr ⟨pe11_76_20 kn h, List.forall_mem_cons.mpr ⟨pe11_80_0 kn h, List.forall_mem_cons.mpr ⟨pe11_83_20 kn h, List.forall_mem_cons.mpr ⟨pe11_87_24 kn h, List.forall_mem_cons.mpr ⟨pe11_90_0 kn h, List.forall_mem_cons.mpr ⟨pe11_93_30 kn h, List.forall_mem_cons.mpr ⟨pe11_99_20 kn h, List.forall_mem_cons.mpr ⟨pe11_102_20 kn h, List.forall_mem_cons.mpr ⟨pe11_106_0 kn h, List.forall_mem_cons.mpr ⟨pe11_109_20 kn h, List.forall_mem_cons.mpr ⟨pe11_112_0 kn h, List.forall_mem_cons.mpr ⟨pe11_115_0 kn h, List.forall_mem_cons.mpr ⟨pe11_119_20 kn h, List.forall_mem_cons.mpr ⟨pe11_122_20 kn h, List.forall_mem_cons.mpr ⟨pe11_125_20 kn h, List.forall_mem_cons.mpr ⟨pe11_129_25 kn h, List.forall_mem_cons.mpr ⟨pe11_133_11 kn h, List.forall_mem_cons.mpr ⟨pe11_135_10 kn h, List.forall_mem_cons.mpr ⟨pe11_136_0 kn h, List.forall_mem_cons.mpr ⟨pe11_139_0 kn h, List.forall_mem_cons.mpr ⟨pe11_142_0 kn h, List.forall_mem_cons.mpr ⟨pe11_145_0 kn h, List.forall_mem_cons.mpr ⟨pe11_148_0 kn h, List.forall_mem_cons.mpr ⟨pe11_151_20 kn h, List.forall_mem_cons.mpr ⟨pe11_154_20 kn h, List.forall_mem_cons.mpr ⟨pe11_158_20 kn h, List.forall_mem_cons.mpr ⟨pe11_161_20 kn h, List.forall_mem_cons.mpr ⟨pe11_165_0 kn h, List.forall_mem_cons.mpr ⟨pe11_168_25 kn h, List.forall_mem_cons.mpr ⟨pe11_172_20 kn h, List.forall_mem_cons.mpr ⟨pe11_176_25 kn h, List.forall_mem_cons.mpr ⟨pe11_180_25 kn h, List.forall_mem_cons.mpr ⟨pe11_184_20 kn h, List.forall_mem_cons.mpr ⟨pe11_188_20 kn h, List.forall_mem_cons.mpr ⟨pe11_191_20 kn h, List.forall_mem_cons.mpr ⟨pe11_194_25 kn h, List.forall_mem_cons.mpr ⟨pe11_198_10 kn h, List.forall_mem_cons.mpr ⟨pe11_199_24 kn h, List.forall_mem_cons.mpr ⟨pe11_203_0 kn h, List.forall_mem_cons.mpr ⟨pe11_206_0 kn h, List.forall_mem_cons.mpr ⟨pe11_209_10 kn h, List.forall_mem_cons.mpr ⟨pe11_210_20 kn h, (fun _ h => absurd h List.not_mem_nil)⟩⟩⟩⟩⟩⟩⟩⟩⟩⟩⟩⟩⟩⟩⟩⟩⟩⟩⟩⟩⟩⟩⟩⟩⟩⟩⟩⟩⟩⟩⟩⟩⟩⟩⟩⟩⟩⟩⟩⟩⟩⟩⟩⟩⟩⟩⟩⟩⟩⟩⟩⟩⟩⟩⟩⟩⟩⟩⟩⟩⟩⟩
set_option maxRecDepth 100000 in
theorem pe12_3_26 (kn : List rM) {m : Nat} (h : (rE0.1 m).cls = "PackHouse$Unpacker") : rpo (rpar kn) rE0 m 3 (26, 0, 0, .null) := po26 h (tw6 (List.mem_of_getElem? (i := 211) rfl) rfl)
set_option maxRecDepth 100000 in
theorem pe12_9_12 (kn : List rM) {m : Nat} (h : (rE0.1 m).cls = "PackHouse$Unpacker") : rpo (rpar kn) rE0 m 9 (12, 3, 17, .null) := po12 (T := FT3) h rfl (tw6 (List.mem_of_getElem? (i := 212) rfl) rfl) (tw2 (List.mem_of_getElem? (i := 152) rfl) rfl) (tw1 (List.mem_of_getElem? (i := 16) rfl) rfl)
set_option maxRecDepth 100000 in
theorem pe12_11_23 (kn : List rM) {m : Nat} (h : (rE0.1 m).cls = "PackHouse$Unpacker") : rpo (rpar kn) rE0 m 11 (23, 96, 0, .ref 3) := po23 h (pm96 kn) (tn6 (List.mem_of_getElem? (i := 213) rfl) rfl) (tw2 (List.mem_of_getElem? (i := 154) rfl) rfl) rfl rfl
set_option maxRecDepth 100000 in
theorem pe12_12_0 (kn : List rM) {m : Nat} (h : (rE0.1 m).cls = "PackHouse$Unpacker") : rpo (rpar kn) rE0 m 12 (0, 12, 1, .ref 11) := po0 (C := "PackHouse$Unpacker") (T := FT12) (N := 22) (ty := fy12 1) h rfl (by decide) rfl (tw6 (List.mem_of_getElem? (i := 222) rfl) rfl) (fp12 1 (by decide)) rfl (fun a => absurd a (by decide)) (fun _ _ => ⟨rfl, rfl⟩)
set_option maxRecDepth 100000 in
theorem pe12_18_24 (kn : List rM) {m : Nat} (h : (rE0.1 m).cls = "PackHouse$Unpacker") : rpo (rpar kn) rE0 m 18 (24, 117, 0, .null) := po24 h (pm117 kn) (tw6 (List.mem_of_getElem? (i := 214) rfl) rfl) (tw3 (List.mem_of_getElem? (i := 39) rfl) rfl)
set_option maxRecDepth 100000 in
theorem pe12_24_0 (kn : List rM) {m : Nat} (h : (rE0.1 m).cls = "PackHouse$Unpacker") : rpo (rpar kn) rE0 m 24 (0, 12, 2, .ref 11) := po0 (C := "PackHouse$Unpacker") (T := FT12) (N := 22) (ty := fy12 2) h rfl (by decide) rfl (tw6 (List.mem_of_getElem? (i := 223) rfl) rfl) (fp12 2 (by decide)) rfl (fun a => absurd a (by decide)) (fun _ _ => ⟨rfl, rfl⟩)
set_option maxRecDepth 100000 in
theorem pe12_28_12 (kn : List rM) {m : Nat} (h : (rE0.1 m).cls = "PackHouse$Unpacker") : rpo (rpar kn) rE0 m 28 (12, 9, 3, .null) := po12 (T := FT9) h rfl (tw6 (List.mem_of_getElem? (i := 215) rfl) rfl) (tw1 (List.mem_of_getElem? (i := 84) rfl) rfl) (tw1 (List.mem_of_getElem? (i := 4) rfl) rfl)
set_option maxRecDepth 100000 in
theorem pe12_30_23 (kn : List rM) {m : Nat} (h : (rE0.1 m).cls = "PackHouse$Unpacker") : rpo (rpar kn) rE0 m 30 (23, 185, 0, .ref 9) := po23 h (pm185 kn) (tn6 (List.mem_of_getElem? (i := 216) rfl) rfl) (tw1 (List.mem_of_getElem? (i := 86) rfl) rfl) rfl rfl
set_option maxRecDepth 100000 in
theorem pe12_31_0 (kn : List rM) {m : Nat} (h : (rE0.1 m).cls = "PackHouse$Unpacker") : rpo (rpar kn) rE0 m 31 (0, 12, 3, .ref 11) := po0 (C := "PackHouse$Unpacker") (T := FT12) (N := 22) (ty := fy12 3) h rfl (by decide) rfl (tw6 (List.mem_of_getElem? (i := 224) rfl) rfl) (fp12 3 (by decide)) rfl (fun a => absurd a (by decide)) (fun _ _ => ⟨rfl, rfl⟩)
set_option maxRecDepth 100000 in
theorem pe12_35_12 (kn : List rM) {m : Nat} (h : (rE0.1 m).cls = "PackHouse$Unpacker") : rpo (rpar kn) rE0 m 35 (12, 7, 5, .null) := po12 (T := FT7) h rfl (tw6 (List.mem_of_getElem? (i := 217) rfl) rfl) (tw1 (List.mem_of_getElem? (i := 33) rfl) rfl) (tw1 (List.mem_of_getElem? (i := 2) rfl) rfl)
set_option maxRecDepth 100000 in
theorem pe12_37_23 (kn : List rM) {m : Nat} (h : (rE0.1 m).cls = "PackHouse$Unpacker") : rpo (rpar kn) rE0 m 37 (23, 155, 0, .ref 7) := po23 h (pm155 kn) (tn6 (List.mem_of_getElem? (i := 218) rfl) rfl) (tw1 (List.mem_of_getElem? (i := 35) rfl) rfl) rfl rfl
set_option maxRecDepth 100000 in
theorem pe12_38_0 (kn : List rM) {m : Nat} (h : (rE0.1 m).cls = "PackHouse$Unpacker") : rpo (rpar kn) rE0 m 38 (0, 12, 4, .ref 11) := po0 (C := "PackHouse$Unpacker") (T := FT12) (N := 22) (ty := fy12 4) h rfl (by decide) rfl (tw6 (List.mem_of_getElem? (i := 225) rfl) rfl) (fp12 4 (by decide)) rfl (fun a => absurd a (by decide)) (fun _ _ => ⟨rfl, rfl⟩)
set_option maxRecDepth 100000 in
theorem pe12_42_12 (kn : List rM) {m : Nat} (h : (rE0.1 m).cls = "PackHouse$Unpacker") : rpo (rpar kn) rE0 m 42 (12, 2, 3, .null) := po12 (T := FT2) h rfl (tw6 (List.mem_of_getElem? (i := 219) rfl) rfl) (tw2 (List.mem_of_getElem? (i := 209) rfl) rfl) (tw1 (List.mem_of_getElem? (i := 18) rfl) rfl)
set_option maxRecDepth 100000 in
theorem pe12_44_23 (kn : List rM) {m : Nat} (h : (rE0.1 m).cls = "PackHouse$Unpacker") : rpo (rpar kn) rE0 m 44 (23, 92, 0, .ref 2) := po23 h (pm92 kn) (tn6 (List.mem_of_getElem? (i := 220) rfl) rfl) (tw2 (List.mem_of_getElem? (i := 211) rfl) rfl) rfl rfl
set_option maxRecDepth 100000 in
theorem pe12_45_0 (kn : List rM) {m : Nat} (h : (rE0.1 m).cls = "PackHouse$Unpacker") : rpo (rpar kn) rE0 m 45 (0, 12, 5, .ref 11) := po0 (C := "PackHouse$Unpacker") (T := FT12) (N := 22) (ty := fy12 5) h rfl (by decide) rfl (tw6 (List.mem_of_getElem? (i := 226) rfl) rfl) (fp12 5 (by decide)) rfl (fun a => absurd a (by decide)) (fun _ _ => ⟨rfl, rfl⟩)
set_option maxRecDepth 100000 in
theorem pe12_49_0 (kn : List rM) {m : Nat} (h : (rE0.1 m).cls = "PackHouse$Unpacker") : rpo (rpar kn) rE0 m 49 (0, 12, 6, .ref 11) := po0 (C := "PackHouse$Unpacker") (T := FT12) (N := 22) (ty := fy12 6) h rfl (by decide) rfl (tw6 (List.mem_of_getElem? (i := 227) rfl) rfl) (fp12 6 (by decide)) rfl (fun a => absurd a (by decide)) (fun _ _ => ⟨rfl, rfl⟩)
set_option maxRecDepth 100000 in
theorem pe12_53_0 (kn : List rM) {m : Nat} (h : (rE0.1 m).cls = "PackHouse$Unpacker") : rpo (rpar kn) rE0 m 53 (0, 12, 0, .ref 11) := po0 (C := "PackHouse$Unpacker") (T := FT12) (N := 22) (ty := fy12 0) h rfl (by decide) rfl (tw6 (List.mem_of_getElem? (i := 221) rfl) rfl) (fp12 0 (by decide)) rfl (fun a => absurd a (by decide)) (fun _ _ => ⟨rfl, rfl⟩)
set_option maxRecDepth 100000 in
theorem pe12_56_0 (kn : List rM) {m : Nat} (h : (rE0.1 m).cls = "PackHouse$Unpacker") : rpo (rpar kn) rE0 m 56 (0, 12, 21, .ref 0) := po0 (C := "PackHouse$Unpacker") (T := FT12) (N := 22) (ty := fy12 21) h rfl (by decide) rfl (tw7 (List.mem_of_getElem? (i := 2) rfl) rfl) (fp12 21 (by decide)) rfl (fun _ => rfl) (fun a _ => absurd a (by decide))
set_option maxRecDepth 100000 in
theorem pe12_60_0 (kn : List rM) {m : Nat} (h : (rE0.1 m).cls = "PackHouse$Unpacker") : rpo (rpar kn) rE0 m 60 (0, 7, 0, .ref 3) := po0 (C := "PackHouse$Row") (T := FT7) (N := 5) (ty := fy7 0) h rfl (by decide) rfl (tw1 (List.mem_of_getElem? (i := 40) rfl) rfl) (fp7 0 (by decide)) rfl (fun _ => rfl) (fun a _ => absurd a (by decide))
set_option maxRecDepth 100000 in
theorem pe12_64_0 (kn : List rM) {m : Nat} (h : (rE0.1 m).cls = "PackHouse$Unpacker") : rpo (rpar kn) rE0 m 64 (0, 12, 7, .ref 3) := po0 (C := "PackHouse$Unpacker") (T := FT12) (N := 22) (ty := fy12 7) h rfl (by decide) rfl (tw6 (List.mem_of_getElem? (i := 228) rfl) rfl) (fp12 7 (by decide)) rfl (fun _ => rfl) (fun a _ => absurd a (by decide))
set_option maxRecDepth 100000 in
theorem pe12_67_0 (kn : List rM) {m : Nat} (h : (rE0.1 m).cls = "PackHouse$Unpacker") : rpo (rpar kn) rE0 m 67 (0, 7, 1, .ref 0) := po0 (C := "PackHouse$Row") (T := FT7) (N := 5) (ty := fy7 1) h rfl (by decide) rfl (tw1 (List.mem_of_getElem? (i := 49) rfl) rfl) (fp7 1 (by decide)) rfl (fun _ => rfl) (fun a _ => absurd a (by decide))
set_option maxRecDepth 100000 in
theorem pe12_70_0 (kn : List rM) {m : Nat} (h : (rE0.1 m).cls = "PackHouse$Unpacker") : rpo (rpar kn) rE0 m 70 (0, 12, 8, .ref 0) := po0 (C := "PackHouse$Unpacker") (T := FT12) (N := 22) (ty := fy12 8) h rfl (by decide) rfl (tw6 (List.mem_of_getElem? (i := 229) rfl) rfl) (fp12 8 (by decide)) rfl (fun _ => rfl) (fun a _ => absurd a (by decide))
set_option maxRecDepth 100000 in
theorem pe12_73_0 (kn : List rM) {m : Nat} (h : (rE0.1 m).cls = "PackHouse$Unpacker") : rpo (rpar kn) rE0 m 73 (0, 12, 9, .ref 0) := po0 (C := "PackHouse$Unpacker") (T := FT12) (N := 22) (ty := fy12 9) h rfl (by decide) rfl (tw6 (List.mem_of_getElem? (i := 230) rfl) rfl) (fp12 9 (by decide)) rfl (fun _ => rfl) (fun a _ => absurd a (by decide))
set_option maxRecDepth 100000 in
theorem pe12_76_0 (kn : List rM) {m : Nat} (h : (rE0.1 m).cls = "PackHouse$Unpacker") : rpo (rpar kn) rE0 m 76 (0, 12, 10, .ref 3) := po0 (C := "PackHouse$Unpacker") (T := FT12) (N := 22) (ty := fy12 10) h rfl (by decide) rfl (tw6 (List.mem_of_getElem? (i := 231) rfl) rfl) (fp12 10 (by decide)) rfl (fun _ => rfl) (fun a _ => absurd a (by decide))
set_option maxRecDepth 100000 in
theorem pe12_79_0 (kn : List rM) {m : Nat} (h : (rE0.1 m).cls = "PackHouse$Unpacker") : rpo (rpar kn) rE0 m 79 (0, 12, 11, .ref 0) := po0 (C := "PackHouse$Unpacker") (T := FT12) (N := 22) (ty := fy12 11) h rfl (by decide) rfl (tw6 (List.mem_of_getElem? (i := 232) rfl) rfl) (fp12 11 (by decide)) rfl (fun _ => rfl) (fun a _ => absurd a (by decide))
set_option maxRecDepth 100000 in
theorem pe12_82_0 (kn : List rM) {m : Nat} (h : (rE0.1 m).cls = "PackHouse$Unpacker") : rpo (rpar kn) rE0 m 82 (0, 12, 12, .ref 3) := po0 (C := "PackHouse$Unpacker") (T := FT12) (N := 22) (ty := fy12 12) h rfl (by decide) rfl (tw6 (List.mem_of_getElem? (i := 233) rfl) rfl) (fp12 12 (by decide)) rfl (fun _ => rfl) (fun a _ => absurd a (by decide))
set_option maxRecDepth 100000 in
theorem pe12_86_0 (kn : List rM) {m : Nat} (h : (rE0.1 m).cls = "PackHouse$Unpacker") : rpo (rpar kn) rE0 m 86 (0, 12, 13, .ref 3) := po0 (C := "PackHouse$Unpacker") (T := FT12) (N := 22) (ty := fy12 13) h rfl (by decide) rfl (tw6 (List.mem_of_getElem? (i := 234) rfl) rfl) (fp12 13 (by decide)) rfl (fun _ => rfl) (fun a _ => absurd a (by decide))
set_option maxRecDepth 100000 in
theorem pe12_89_28 (kn : List rM) {m : Nat} (h : (rE0.1 m).cls = "PackHouse$Unpacker") : rpo (rpar kn) rE0 m 89 (28, 0, 0, .null) := po28 h (tw7 (List.mem_of_getElem? (i := 53) rfl) rfl)
set_option maxRecDepth 100000 in
theorem pe12_95_20 (kn : List rM) {m : Nat} (h : (rE0.1 m).cls = "PackHouse$Unpacker") : rpo (rpar kn) rE0 m 95 (20, 232, 2, .ref 12) := po20 h (pm232 kn) (tw7 (List.mem_of_getElem? (i := 54) rfl) rfl) (tw7 (List.mem_of_getElem? (i := 56) rfl) rfl) (pw5 (List.mem_of_getElem? (i := 3) rfl)) rfl rfl
set_option maxRecDepth 100000 in
theorem pe12_99_20 (kn : List rM) {m : Nat} (h : (rE0.1 m).cls = "PackHouse$Unpacker") : rpo (rpar kn) rE0 m 99 (20, 235, 0, .ref 12) := po20 h (pm235 kn) (tw7 (List.mem_of_getElem? (i := 58) rfl) rfl) (tw7 (List.mem_of_getElem? (i := 60) rfl) rfl) (pw5 (List.mem_of_getElem? (i := 4) rfl)) rfl rfl
set_option maxRecDepth 100000 in
theorem pe12_103_20 (kn : List rM) {m : Nat} (h : (rE0.1 m).cls = "PackHouse$Unpacker") : rpo (rpar kn) rE0 m 103 (20, 243, 0, .ref 12) := po20 h (pm243 kn) (tw7 (List.mem_of_getElem? (i := 96) rfl) rfl) (tw7 (List.mem_of_getElem? (i := 98) rfl) rfl) (pw5 (List.mem_of_getElem? (i := 11) rfl)) rfl rfl
set_option maxRecDepth 100000 in
theorem pe12_106_0 (kn : List rM) {m : Nat} (h : (rE0.1 m).cls = "PackHouse$Unpacker") : rpo (rpar kn) rE0 m 106 (0, 12, 18, .ref 0) := po0 (C := "PackHouse$Unpacker") (T := FT12) (N := 22) (ty := fy12 18) h rfl (by decide) rfl (tw6 (List.mem_of_getElem? (i := 239) rfl) rfl) (fp12 18 (by decide)) rfl (fun _ => rfl) (fun a _ => absurd a (by decide))
set_option maxRecDepth 100000 in
theorem pe12_109_20 (kn : List rM) {m : Nat} (h : (rE0.1 m).cls = "PackHouse$Unpacker") : rpo (rpar kn) rE0 m 109 (20, 156, 0, .ref 7) := po20 h (pm156 kn) (tw7 (List.mem_of_getElem? (i := 108) rfl) rfl) (tw2 (List.mem_of_getElem? (i := 123) rfl) rfl) (tw2 (List.mem_of_getElem? (i := 124) rfl) rfl) rfl rfl
set_option maxRecDepth 100000 in
theorem pe12_112_20 (kn : List rM) {m : Nat} (h : (rE0.1 m).cls = "PackHouse$Unpacker") : rpo (rpar kn) rE0 m 112 (20, 245, 0, .ref 12) := po20 h (pm245 kn) (tw7 (List.mem_of_getElem? (i := 109) rfl) rfl) (tw7 (List.mem_of_getElem? (i := 111) rfl) rfl) (pw5 (List.mem_of_getElem? (i := 13) rfl)) rfl rfl
set_option maxRecDepth 100000 in
theorem pe12_115_20 (kn : List rM) {m : Nat} (h : (rE0.1 m).cls = "PackHouse$Unpacker") : rpo (rpar kn) rE0 m 115 (20, 244, 0, .ref 12) := po20 h (pm244 kn) (tw7 (List.mem_of_getElem? (i := 126) rfl) rfl) (tw7 (List.mem_of_getElem? (i := 128) rfl) rfl) (pw5 (List.mem_of_getElem? (i := 15) rfl)) rfl rfl
set_option maxRecDepth 100000 in
theorem pe12_118_20 (kn : List rM) {m : Nat} (h : (rE0.1 m).cls = "PackHouse$Unpacker") : rpo (rpar kn) rE0 m 118 (20, 247, 1, .ref 12) := po20 h (pm247 kn) (tw7 (List.mem_of_getElem? (i := 130) rfl) rfl) (tw7 (List.mem_of_getElem? (i := 132) rfl) rfl) (pw6 (List.mem_of_getElem? (i := 0) rfl)) rfl rfl
set_option maxRecDepth 100000 in
theorem pe12_122_20 (kn : List rM) {m : Nat} (h : (rE0.1 m).cls = "PackHouse$Unpacker") : rpo (rpar kn) rE0 m 122 (20, 242, 0, .ref 12) := po20 h (pm242 kn) (tw7 (List.mem_of_getElem? (i := 177) rfl) rfl) (tw7 (List.mem_of_getElem? (i := 179) rfl) rfl) (pw6 (List.mem_of_getElem? (i := 8) rfl)) rfl rfl
set_option maxRecDepth 100000 in
theorem pe12_125_0 (kn : List rM) {m : Nat} (h : (rE0.1 m).cls = "PackHouse$Unpacker") : rpo (rpar kn) rE0 m 125 (0, 12, 15, .ref 2) := po0 (C := "PackHouse$Unpacker") (T := FT12) (N := 22) (ty := fy12 15) h rfl (by decide) rfl (tw6 (List.mem_of_getElem? (i := 236) rfl) rfl) (fp12 15 (by decide)) rfl (fun _ => rfl) (fun a _ => absurd a (by decide))
set_option maxRecDepth 100000 in
theorem pe12_129_11 (kn : List rM) {m : Nat} (h : (rE0.1 m).cls = "PackHouse$Unpacker") : rpo (rpar kn) rE0 m 129 (11, 0, 0, .long (131072)) := po11 h (tw7 (List.mem_of_getElem? (i := 104) rfl) rfl)
set_option maxRecDepth 100000 in
theorem pe12_131_10 (kn : List rM) {m : Nat} (h : (rE0.1 m).cls = "PackHouse$Unpacker") : rpo (rpar kn) rE0 m 131 (10, 0, 0, .int (131072)) := po10 h (tw7 (List.mem_of_getElem? (i := 105) rfl) rfl)
set_option maxRecDepth 100000 in
theorem pe12_132_25 (kn : List rM) {m : Nat} (h : (rE0.1 m).cls = "PackHouse$Unpacker") : rpo (rpar kn) rE0 m 132 (25, 43, 3, .null) := po25 h (pm43 kn) (tn7 (List.mem_of_getElem? (i := 62) rfl) rfl) (tw6 (List.mem_of_getElem? (i := 133) rfl) rfl)
set_option maxRecDepth 100000 in
theorem pe12_136_25 (kn : List rM) {m : Nat} (h : (rE0.1 m).cls = "PackHouse$Unpacker") : rpo (rpar kn) rE0 m 136 (25, 44, 3, .null) := po25 h (pm44 kn) (tn7 (List.mem_of_getElem? (i := 63) rfl) rfl) (tw6 (List.mem_of_getElem? (i := 137) rfl) rfl)
set_option maxRecDepth 100000 in
theorem pe12_140_25 (kn : List rM) {m : Nat} (h : (rE0.1 m).cls = "PackHouse$Unpacker") : rpo (rpar kn) rE0 m 140 (25, 41, 2, .null) := po25 h (pm41 kn) (tn7 (List.mem_of_getElem? (i := 64) rfl) rfl) (tw2 (List.mem_of_getElem? (i := 67) rfl) rfl)
set_option maxRecDepth 100000 in
theorem pe12_144_10 (kn : List rM) {m : Nat} (h : (rE0.1 m).cls = "PackHouse$Unpacker") : rpo (rpar kn) rE0 m 144 (10, 0, 0, .int (-47205080)) := po10 h (tw7 (List.mem_of_getElem? (i := 65) rfl) rfl)
set_option maxRecDepth 100000 in
theorem pe12_145_0 (kn : List rM) {m : Nat} (h : (rE0.1 m).cls = "PackHouse$Unpacker") : rpo (rpar kn) rE0 m 145 (0, 12, 14, .ref 0) := po0 (C := "PackHouse$Unpacker") (T := FT12) (N := 22) (ty := fy12 14) h rfl (by decide) rfl (tw6 (List.mem_of_getElem? (i := 235) rfl) rfl) (fp12 14 (by decide)) rfl (fun _ => rfl) (fun a _ => absurd a (by decide))
set_option maxRecDepth 100000 in
theorem pe12_148_0 (kn : List rM) {m : Nat} (h : (rE0.1 m).cls = "PackHouse$Unpacker") : rpo (rpar kn) rE0 m 148 (0, 12, 17, .ref 0) := po0 (C := "PackHouse$Unpacker") (T := FT12) (N := 22) (ty := fy12 17) h rfl (by decide) rfl (tw6 (List.mem_of_getElem? (i := 238) rfl) rfl) (fp12 17 (by decide)) rfl (fun _ => rfl) (fun a _ => absurd a (by decide))
set_option maxRecDepth 100000 in
theorem pe12_151_0 (kn : List rM) {m : Nat} (h : (rE0.1 m).cls = "PackHouse$Unpacker") : rpo (rpar kn) rE0 m 151 (0, 4, 1, .ref 19) := po0 (C := "PackHouse$Dictionary") (T := FT4) (N := 5) (ty := fy4 1) h rfl (by decide) rfl (tw1 (List.mem_of_getElem? (i := 118) rfl) rfl) (fp4 1 (by decide)) rfl (fun a => absurd a (by decide)) (fun _ b => absurd b (by decide))
set_option maxRecDepth 100000 in
theorem pe12_154_20 (kn : List rM) {m : Nat} (h : (rE0.1 m).cls = "PackHouse$Unpacker") : rpo (rpar kn) rE0 m 154 (20, 187, 1, .ref 9) := po20 h (pm187 kn) (tw7 (List.mem_of_getElem? (i := 66) rfl) rfl) (tw5 (List.mem_of_getElem? (i := 102) rfl) rfl) (tw5 (List.mem_of_getElem? (i := 103) rfl) rfl) rfl rfl
set_option maxRecDepth 100000 in
theorem pe12_158_20 (kn : List rM) {m : Nat} (h : (rE0.1 m).cls = "PackHouse$Unpacker") : rpo (rpar kn) rE0 m 158 (20, 237, 0, .ref 12) := po20 h (pm237 kn) (tw7 (List.mem_of_getElem? (i := 67) rfl) rfl) (tw7 (List.mem_of_getElem? (i := 69) rfl) rfl) (pw5 (List.mem_of_getElem? (i := 5) rfl)) rfl rfl
set_option maxRecDepth 100000 in
theorem pe12_161_20 (kn : List rM) {m : Nat} (h : (rE0.1 m).cls = "PackHouse$Unpacker") : rpo (rpar kn) rE0 m 161 (20, 238, 0, .ref 12) := po20 h (pm238 kn) (tw7 (List.mem_of_getElem? (i := 78) rfl) rfl) (tw7 (List.mem_of_getElem? (i := 80) rfl) rfl) (pw5 (List.mem_of_getElem? (i := 7) rfl)) rfl rfl
set_option maxRecDepth 100000 in
theorem pe12_164_20 (kn : List rM) {m : Nat} (h : (rE0.1 m).cls = "PackHouse$Unpacker") : rpo (rpar kn) rE0 m 164 (20, 241, 0, .ref 12) := po20 h (pm241 kn) (tw7 (List.mem_of_getElem? (i := 84) rfl) rfl) (tw7 (List.mem_of_getElem? (i := 86) rfl) rfl) (pw5 (List.mem_of_getElem? (i := 8) rfl)) rfl rfl
set_option maxRecDepth 100000 in
theorem pe12_167_11 (kn : List rM) {m : Nat} (h : (rE0.1 m).cls = "PackHouse$Unpacker") : rpo (rpar kn) rE0 m 167 (11, 0, 0, .long (4611686018427387904)) := po11 h (tw7 (List.mem_of_getElem? (i := 75) rfl) rfl)
set_option maxRecDepth 100000 in
theorem pe12_169_11 (kn : List rM) {m : Nat} (h : (rE0.1 m).cls = "PackHouse$Unpacker") : rpo (rpar kn) rE0 m 169 (11, 0, 0, .long (2147483647)) := po11 h (tw7 (List.mem_of_getElem? (i := 76) rfl) rfl)
set_option maxRecDepth 100000 in
theorem pe12_171_10 (kn : List rM) {m : Nat} (h : (rE0.1 m).cls = "PackHouse$Unpacker") : rpo (rpar kn) rE0 m 171 (10, 0, 0, .int (2147483647)) := po10 h (tw7 (List.mem_of_getElem? (i := 77) rfl) rfl)
set_option maxRecDepth 100000 in
theorem pe12_172_20 (kn : List rM) {m : Nat} (h : (rE0.1 m).cls = "PackHouse$Unpacker") : rpo (rpar kn) rE0 m 172 (20, 236, 1, .ref 12) := po20 h (pm236 kn) (tw7 (List.mem_of_getElem? (i := 71) rfl) rfl) (tw7 (List.mem_of_getElem? (i := 73) rfl) rfl) (pw5 (List.mem_of_getElem? (i := 6) rfl)) rfl rfl
set_option maxRecDepth 100000 in
theorem pe12_176_25 (kn : List rM) {m : Nat} (h : (rE0.1 m).cls = "PackHouse$Unpacker") : rpo (rpar kn) rE0 m 176 (25, 42, 3, .null) := po25 h (pm42 kn) (tn7 (List.mem_of_getElem? (i := 82) rfl) rfl) (tw2 (List.mem_of_getElem? (i := 88) rfl) rfl)
set_option maxRecDepth 100000 in
theorem pe12_180_0 (kn : List rM) {m : Nat} (h : (rE0.1 m).cls = "PackHouse$Unpacker") : rpo (rpar kn) rE0 m 180 (0, 4, 2, .ref 0) := po0 (C := "PackHouse$Dictionary") (T := FT4) (N := 5) (ty := fy4 2) h rfl (by decide) rfl (tw1 (List.mem_of_getElem? (i := 121) rfl) rfl) (fp4 2 (by decide)) rfl (fun _ => rfl) (fun a _ => absurd a (by decide))
set_option maxRecDepth 100000 in
theorem pe12_183_11 (kn : List rM) {m : Nat} (h : (rE0.1 m).cls = "PackHouse$Unpacker") : rpo (rpar kn) rE0 m 183 (11, 0, 0, .long (4294967295)) := po11 h (tw7 (List.mem_of_getElem? (i := 83) rfl) rfl)
set_option maxRecDepth 100000 in
theorem pe12_185_20 (kn : List rM) {m : Nat} (h : (rE0.1 m).cls = "PackHouse$Unpacker") : rpo (rpar kn) rE0 m 185 (20, 239, 0, .ref 12) := po20 h (pm239 kn) (tw7 (List.mem_of_getElem? (i := 88) rfl) rfl) (tw7 (List.mem_of_getElem? (i := 90) rfl) rfl) (pw5 (List.mem_of_getElem? (i := 9) rfl)) rfl rfl
set_option maxRecDepth 100000 in
theorem pe12_188_0 (kn : List rM) {m : Nat} (h : (rE0.1 m).cls = "PackHouse$Unpacker") : rpo (rpar kn) rE0 m 188 (0, 12, 16, .ref 0) := po0 (C := "PackHouse$Unpacker") (T := FT12) (N := 22) (ty := fy12 16) h rfl (by decide) rfl (tw6 (List.mem_of_getElem? (i := 237) rfl) rfl) (fp12 16 (by decide)) rfl (fun _ => rfl) (fun a _ => absurd a (by decide))
set_option maxRecDepth 100000 in
theorem pe12_191_20 (kn : List rM) {m : Nat} (h : (rE0.1 m).cls = "PackHouse$Unpacker") : rpo (rpar kn) rE0 m 191 (20, 240, 0, .ref 12) := po20 h (pm240 kn) (tw7 (List.mem_of_getElem? (i := 92) rfl) rfl) (tw7 (List.mem_of_getElem? (i := 94) rfl) rfl) (pw5 (List.mem_of_getElem? (i := 10) rfl)) rfl rfl
set_option maxRecDepth 100000 in
theorem pe12_195_25 (kn : List rM) {m : Nat} (h : (rE0.1 m).cls = "PackHouse$Unpacker") : rpo (rpar kn) rE0 m 195 (25, 51, 4, .null) := po25 h (pm51 kn) (tn7 (List.mem_of_getElem? (i := 181) rfl) rfl) (tw2 (List.mem_of_getElem? (i := 82) rfl) rfl)
set_option maxRecDepth 100000 in
theorem pe12_199_20 (kn : List rM) {m : Nat} (h : (rE0.1 m).cls = "PackHouse$Unpacker") : rpo (rpar kn) rE0 m 199 (20, 234, 0, .ref 12) := po20 h (pm234 kn) (tw7 (List.mem_of_getElem? (i := 100) rfl) rfl) (tw7 (List.mem_of_getElem? (i := 102) rfl) rfl) (pw5 (List.mem_of_getElem? (i := 12) rfl)) rfl rfl
set_option maxRecDepth 100000 in
theorem pe12_202_20 (kn : List rM) {m : Nat} (h : (rE0.1 m).cls = "PackHouse$Unpacker") : rpo (rpar kn) rE0 m 202 (20, 162, 2, .ref 7) := po20 h (pm162 kn) (tw7 (List.mem_of_getElem? (i := 106) rfl) rfl) (tw4 (List.mem_of_getElem? (i := 110) rfl) rfl) (tw4 (List.mem_of_getElem? (i := 111) rfl) rfl) rfl rfl
set_option maxRecDepth 100000 in
theorem pe12_206_20 (kn : List rM) {m : Nat} (h : (rE0.1 m).cls = "PackHouse$Unpacker") : rpo (rpar kn) rE0 m 206 (20, 161, 3, .ref 7) := po20 h (pm161 kn) (tw7 (List.mem_of_getElem? (i := 107) rfl) rfl) (tw2 (List.mem_of_getElem? (i := 19) rfl) rfl) (tw2 (List.mem_of_getElem? (i := 20) rfl) rfl) rfl rfl
set_option maxRecDepth 100000 in
theorem pe12_210_0 (kn : List rM) {m : Nat} (h : (rE0.1 m).cls = "PackHouse$Unpacker") : rpo (rpar kn) rE0 m 210 (0, 12, 19, .ref 0) := po0 (C := "PackHouse$Unpacker") (T := FT12) (N := 22) (ty := fy12 19) h rfl (by decide) rfl (tw7 (List.mem_of_getElem? (i := 0) rfl) rfl) (fp12 19 (by decide)) rfl (fun _ => rfl) (fun a _ => absurd a (by decide))
set_option maxRecDepth 100000 in
theorem pe12_213_10 (kn : List rM) {m : Nat} (h : (rE0.1 m).cls = "PackHouse$Unpacker") : rpo (rpar kn) rE0 m 213 (10, 0, 0, .int (65536)) := po10 h (tw7 (List.mem_of_getElem? (i := 114) rfl) rfl)
set_option maxRecDepth 100000 in
theorem pe12_214_30 (kn : List rM) {m : Nat} (h : (rE0.1 m).cls = "PackHouse$Unpacker") : rpo (rpar kn) rE0 m 214 (30, 0, 0, .null) := po30 h (tw7 (List.mem_of_getElem? (i := 115) rfl) rfl)
set_option maxRecDepth 100000 in
theorem pe12_219_0 (kn : List rM) {m : Nat} (h : (rE0.1 m).cls = "PackHouse$Unpacker") : rpo (rpar kn) rE0 m 219 (0, 9, 0, .ref 3) := po0 (C := "PackHouse$Stand") (T := FT9) (N := 3) (ty := fy9 0) h rfl (by decide) rfl (tw1 (List.mem_of_getElem? (i := 96) rfl) rfl) (fp9 0 (by decide)) rfl (fun _ => rfl) (fun a _ => absurd a (by decide))
set_option maxRecDepth 100000 in
theorem pe12_222_20 (kn : List rM) {m : Nat} (h : (rE0.1 m).cls = "PackHouse$Unpacker") : rpo (rpar kn) rE0 m 222 (20, 107, 3, .ref 3) := po20 h (pm107 kn) (tw7 (List.mem_of_getElem? (i := 113) rfl) rfl) (tw3 (List.mem_of_getElem? (i := 48) rfl) rfl) (tw3 (List.mem_of_getElem? (i := 49) rfl) rfl) rfl rfl
set_option maxRecDepth 100000 in
theorem pe12_225_20 (kn : List rM) {m : Nat} (h : (rE0.1 m).cls = "PackHouse$Unpacker") : rpo (rpar kn) rE0 m 225 (20, 157, 1, .ref 7) := po20 h (pm157 kn) (tw7 (List.mem_of_getElem? (i := 116) rfl) rfl) (tw1 (List.mem_of_getElem? (i := 202) rfl) rfl) (tw1 (List.mem_of_getElem? (i := 203) rfl) rfl) rfl rfl
set_option maxRecDepth 100000 in
theorem pe12_229_20 (kn : List rM) {m : Nat} (h : (rE0.1 m).cls = "PackHouse$Unpacker") : rpo (rpar kn) rE0 m 229 (20, 246, 3, .ref 12) := po20 h (pm246 kn) (tw7 (List.mem_of_getElem? (i := 117) rfl) rfl) (tw7 (List.mem_of_getElem? (i := 119) rfl) rfl) (pw5 (List.mem_of_getElem? (i := 14) rfl)) rfl rfl
set_option maxRecDepth 100000 in
theorem pe12_233_20 (kn : List rM) {m : Nat} (h : (rE0.1 m).cls = "PackHouse$Unpacker") : rpo (rpar kn) rE0 m 233 (20, 110, 5, .ref 3) := po20 h (pm110 kn) (tw7 (List.mem_of_getElem? (i := 121) rfl) rfl) (tw7 (List.mem_of_getElem? (i := 122) rfl) rfl) (tw7 (List.mem_of_getElem? (i := 123) rfl) rfl) rfl rfl
set_option maxRecDepth 100000 in
theorem pe12_237_0 (kn : List rM) {m : Nat} (h : (rE0.1 m).cls = "PackHouse$Unpacker") : rpo (rpar kn) rE0 m 237 (0, 12, 20, .ref 0) := po0 (C := "PackHouse$Unpacker") (T := FT12) (N := 22) (ty := fy12 20) h rfl (by decide) rfl (tw7 (List.mem_of_getElem? (i := 1) rfl) rfl) (fp12 20 (by decide)) rfl (fun _ => rfl) (fun a _ => absurd a (by decide))
set_option maxRecDepth 100000 in
theorem pe12_240_20 (kn : List rM) {m : Nat} (h : (rE0.1 m).cls = "PackHouse$Unpacker") : rpo (rpar kn) rE0 m 240 (20, 248, 0, .ref 12) := po20 h (pm248 kn) (tw7 (List.mem_of_getElem? (i := 134) rfl) rfl) (tw7 (List.mem_of_getElem? (i := 136) rfl) rfl) (pw6 (List.mem_of_getElem? (i := 1) rfl)) rfl rfl
set_option maxRecDepth 100000 in
theorem pe12_243_20 (kn : List rM) {m : Nat} (h : (rE0.1 m).cls = "PackHouse$Unpacker") : rpo (rpar kn) rE0 m 243 (20, 250, 2, .ref 12) := po20 h (pm250 kn) (tw7 (List.mem_of_getElem? (i := 146) rfl) rfl) (tw7 (List.mem_of_getElem? (i := 148) rfl) rfl) (pw6 (List.mem_of_getElem? (i := 3) rfl)) rfl rfl
set_option maxRecDepth 100000 in
theorem pe12_246_20 (kn : List rM) {m : Nat} (h : (rE0.1 m).cls = "PackHouse$Unpacker") : rpo (rpar kn) rE0 m 246 (20, 254, 2, .ref 12) := po20 h (pm254 kn) (tw7 (List.mem_of_getElem? (i := 172) rfl) rfl) (tw7 (List.mem_of_getElem? (i := 174) rfl) rfl) (pw6 (List.mem_of_getElem? (i := 7) rfl)) rfl rfl
set_option maxRecDepth 100000 in
theorem pe12_249_20 (kn : List rM) {m : Nat} (h : (rE0.1 m).cls = "PackHouse$Unpacker") : rpo (rpar kn) rE0 m 249 (20, 249, 3, .ref 12) := po20 h (pm249 kn) (tw7 (List.mem_of_getElem? (i := 138) rfl) rfl) (tw7 (List.mem_of_getElem? (i := 140) rfl) rfl) (pw6 (List.mem_of_getElem? (i := 2) rfl)) rfl rfl
set_option maxRecDepth 100000 in
theorem pe12_252_0 (kn : List rM) {m : Nat} (h : (rE0.1 m).cls = "PackHouse$Unpacker") : rpo (rpar kn) rE0 m 252 (0, 9, 1, .ref 19) := po0 (C := "PackHouse$Stand") (T := FT9) (N := 3) (ty := fy9 1) h rfl (by decide) rfl (tw1 (List.mem_of_getElem? (i := 100) rfl) rfl) (fp9 1 (by decide)) rfl (fun a => absurd a (by decide)) (fun _ b => absurd b (by decide))
set_option maxRecDepth 100000 in
theorem pe12_255_15 (kn : List rM) {m : Nat} (h : (rE0.1 m).cls = "PackHouse$Unpacker") : rpo (rpar kn) rE0 m 255 (15, 3, 0, .null) := po15 h (by decide) (tn7 (List.mem_of_getElem? (i := 142) rfl) rfl)
set_option maxRecDepth 100000 in
theorem pe12_258_20 (kn : List rM) {m : Nat} (h : (rE0.1 m).cls = "PackHouse$Unpacker") : rpo (rpar kn) rE0 m 258 (20, 168, 1, .ref 8) := po20 h (pm168 kn) (tw7 (List.mem_of_getElem? (i := 143) rfl) rfl) (tw6 (List.mem_of_getElem? (i := 61) rfl) rfl) (tw6 (List.mem_of_getElem? (i := 62) rfl) rfl) rfl rfl
set_option maxRecDepth 100000 in
theorem pe12_264_15 (kn : List rM) {m : Nat} (h : (rE0.1 m).cls = "PackHouse$Unpacker") : rpo (rpar kn) rE0 m 264 (15, 2, 0, .null) := po15 h (by decide) (tn7 (List.mem_of_getElem? (i := 144) rfl) rfl)
set_option maxRecDepth 100000 in
theorem pe12_267_20 (kn : List rM) {m : Nat} (h : (rE0.1 m).cls = "PackHouse$Unpacker") : rpo (rpar kn) rE0 m 267 (20, 184, 4, .ref 8) := po20 h (pm184 kn) (tw7 (List.mem_of_getElem? (i := 145) rfl) rfl) (tw3 (List.mem_of_getElem? (i := 56) rfl) rfl) (tw3 (List.mem_of_getElem? (i := 57) rfl) rfl) rfl rfl
set_option maxRecDepth 100000 in
theorem pe12_270_20 (kn : List rM) {m : Nat} (h : (rE0.1 m).cls = "PackHouse$Unpacker") : rpo (rpar kn) rE0 m 270 (20, 93, 3, .ref 2) := po20 h (pm93 kn) (tw7 (List.mem_of_getElem? (i := 150) rfl) rfl) (tw3 (List.mem_of_getElem? (i := 71) rfl) rfl) (tw3 (List.mem_of_getElem? (i := 72) rfl) rfl) rfl rfl
set_option maxRecDepth 100000 in
theorem pe12_273_0 (kn : List rM) {m : Nat} (h : (rE0.1 m).cls = "PackHouse$Unpacker") : rpo (rpar kn) rE0 m 273 (0, 2, 2, .ref 0) := po0 (C := "PackHouse$BitSource") (T := FT2) (N := 3) (ty := fy2 2) h rfl (by decide) rfl (tw2 (List.mem_of_getElem? (i := 218) rfl) rfl) (fp2 2 (by decide)) rfl (fun _ => rfl) (fun a _ => absurd a (by decide))
set_option maxRecDepth 100000 in
theorem pe12_276_0 (kn : List rM) {m : Nat} (h : (rE0.1 m).cls = "PackHouse$Unpacker") : rpo (rpar kn) rE0 m 276 (0, 8, 0, .ref 0) := po0 (C := "PackHouse$Share") (T := FT8) (N := 13) (ty := fy8 0) h rfl (by decide) rfl (tw2 (List.mem_of_getElem? (i := 165) rfl) rfl) (fp8 0 (by decide)) rfl (fun _ => rfl) (fun a _ => absurd a (by decide))
set_option maxRecDepth 100000 in
theorem pe12_279_20 (kn : List rM) {m : Nat} (h : (rE0.1 m).cls = "PackHouse$Unpacker") : rpo (rpar kn) rE0 m 279 (20, 95, 1, .ref 2) := po20 h (pm95 kn) (tw7 (List.mem_of_getElem? (i := 151) rfl) rfl) (tw3 (List.mem_of_getElem? (i := 78) rfl) rfl) (tw3 (List.mem_of_getElem? (i := 79) rfl) rfl) rfl rfl
set_option maxRecDepth 100000 in
theorem pe12_283_20 (kn : List rM) {m : Nat} (h : (rE0.1 m).cls = "PackHouse$Unpacker") : rpo (rpar kn) rE0 m 283 (20, 171, 1, .ref 8) := po20 h (pm171 kn) (tw7 (List.mem_of_getElem? (i := 152) rfl) rfl) (tw3 (List.mem_of_getElem? (i := 86) rfl) rfl) (tw3 (List.mem_of_getElem? (i := 87) rfl) rfl) rfl rfl
set_option maxRecDepth 100000 in
theorem pe12_286_15 (kn : List rM) {m : Nat} (h : (rE0.1 m).cls = "PackHouse$Unpacker") : rpo (rpar kn) rE0 m 286 (15, 10, 0, .null) := po15 h (by decide) (tn7 (List.mem_of_getElem? (i := 153) rfl) rfl)
set_option maxRecDepth 100000 in
theorem pe12_289_15 (kn : List rM) {m : Nat} (h : (rE0.1 m).cls = "PackHouse$Unpacker") : rpo (rpar kn) rE0 m 289 (15, 8, 0, .null) := po15 h (by decide) (tn7 (List.mem_of_getElem? (i := 154) rfl) rfl)
set_option maxRecDepth 100000 in
theorem pe12_292_20 (kn : List rM) {m : Nat} (h : (rE0.1 m).cls = "PackHouse$Unpacker") : rpo (rpar kn) rE0 m 292 (20, 251, 0, .ref 12) := po20 h (pm251 kn) (tw7 (List.mem_of_getElem? (i := 155) rfl) rfl) (tw7 (List.mem_of_getElem? (i := 157) rfl) rfl) (pw6 (List.mem_of_getElem? (i := 4) rfl)) rfl rfl
set_option maxRecDepth 100000 in
theorem pe12_295_15 (kn : List rM) {m : Nat} (h : (rE0.1 m).cls = "PackHouse$Unpacker") : rpo (rpar kn) rE0 m 295 (15, 9, 0, .null) := po15 h (by decide) (tn7 (List.mem_of_getElem? (i := 160) rfl) rfl)
set_option maxRecDepth 100000 in
theorem pe12_298_15 (kn : List rM) {m : Nat} (h : (rE0.1 m).cls = "PackHouse$Unpacker") : rpo (rpar kn) rE0 m 298 (15, 7, 0, .null) := po15 h (by decide) (tn7 (List.mem_of_getElem? (i := 161) rfl) rfl)
set_option maxRecDepth 100000 in
theorem pe12_301_20 (kn : List rM) {m : Nat} (h : (rE0.1 m).cls = "PackHouse$Unpacker") : rpo (rpar kn) rE0 m 301 (20, 252, 1, .ref 12) := po20 h (pm252 kn) (tw7 (List.mem_of_getElem? (i := 162) rfl) rfl) (tw7 (List.mem_of_getElem? (i := 164) rfl) rfl) (pw6 (List.mem_of_getElem? (i := 5) rfl)) rfl rfl
set_option maxRecDepth 100000 in
theorem pe12_304_20 (kn : List rM) {m : Nat} (h : (rE0.1 m).cls = "PackHouse$Unpacker") : rpo (rpar kn) rE0 m 304 (20, 189, 2, .ref 9) := po20 h (pm189 kn) (tw7 (List.mem_of_getElem? (i := 167) rfl) rfl) (tw6 (List.mem_of_getElem? (i := 14) rfl) rfl) (tw6 (List.mem_of_getElem? (i := 15) rfl) rfl) rfl rfl
set_option maxRecDepth 100000 in
theorem pe12_308_20 (kn : List rM) {m : Nat} (h : (rE0.1 m).cls = "PackHouse$Unpacker") : rpo (rpar kn) rE0 m 308 (20, 253, 4, .ref 12) := po20 h (pm253 kn) (tw7 (List.mem_of_getElem? (i := 168) rfl) rfl) (tw7 (List.mem_of_getElem? (i := 170) rfl) rfl) (pw6 (List.mem_of_getElem? (i := 6) rfl)) rfl rfl
set_option maxRecDepth 100000 in
theorem pe12_312_0 (kn : List rM) {m : Nat} (h : (rE0.1 m).cls = "PackHouse$Unpacker") : rpo (rpar kn) rE0 m 312 (0, 4, 0, .ref 19) := po0 (C := "PackHouse$Dictionary") (T := FT4) (N := 5) (ty := fy4 0) h rfl (by decide) rfl (tw1 (List.mem_of_getElem? (i := 114) rfl) rfl) (fp4 0 (by decide)) rfl (fun a => absurd a (by decide)) (fun _ b => absurd b (by decide))
set_option maxRecDepth 100000 in
theorem pe12_315_20 (kn : List rM) {m : Nat} (h : (rE0.1 m).cls = "PackHouse$Unpacker") : rpo (rpar kn) rE0 m 315 (20, 163, 4, .ref 7) := po20 h (pm163 kn) (tw7 (List.mem_of_getElem? (i := 176) rfl) rfl) (tw2 (List.mem_of_getElem? (i := 4) rfl) rfl) (tw2 (List.mem_of_getElem? (i := 5) rfl) rfl) rfl rfl
set_option maxRecDepth 100000 in
theorem pe12_319_20 (kn : List rM) {m : Nat} (h : (rE0.1 m).cls = "PackHouse$Unpacker") : rpo (rpar kn) rE0 m 319 (20, 172, 1, .ref 8) := po20 h (pm172 kn) (tw7 (List.mem_of_getElem? (i := 159) rfl) rfl) (tw3 (List.mem_of_getElem? (i := 90) rfl) rfl) (tw3 (List.mem_of_getElem? (i := 91) rfl) rfl) rfl rfl
set_option maxRecDepth 100000 in
theorem pe12_321_20 (kn : List rM) {m : Nat} (h : (rE0.1 m).cls = "PackHouse$Unpacker") : rpo (rpar kn) rE0 m 321 (20, 173, 1, .ref 8) := po20 h (pm173 kn) (tw7 (List.mem_of_getElem? (i := 166) rfl) rfl) (tw3 (List.mem_of_getElem? (i := 94) rfl) rfl) (tw3 (List.mem_of_getElem? (i := 95) rfl) rfl) rfl rfl
set_option maxRecDepth 100000 in
theorem pl12 (kn : List rM) {m : Nat} (h : (rE0.1 m).cls = "PackHouse$Unpacker") : ∀ q ∈ pool_12, rpo (rpar kn) rE0 m q.1 q.2 := List.forall_mem_cons.mpr ⟨pe12_3_26 kn h, List.forall_mem_cons.mpr ⟨pe12_9_12 kn h, List.forall_mem_cons.mpr ⟨pe12_11_23 kn h, List.forall_mem_cons.mpr ⟨pe12_12_0 kn h, List.forall_mem_cons.mpr ⟨pe12_18_24 kn h, List.forall_mem_cons.mpr ⟨pe12_24_0 kn h, List.forall_mem_cons.mpr ⟨pe12_28_12 kn h, List.forall_mem_cons.mpr ⟨pe12_30_23 kn h, List.forall_mem_cons.mpr ⟨pe12_31_0 kn h, List.forall_mem_cons.mpr ⟨pe12_35_12 kn h, List.forall_mem_cons.mpr ⟨pe12_37_23 kn h, List.forall_mem_cons.mpr ⟨pe12_38_0 kn h, List.forall_mem_cons.mpr ⟨pe12_42_12 kn h, List.forall_mem_cons.mpr ⟨pe12_44_23 kn h, List.forall_mem_cons.mpr ⟨pe12_45_0 kn h, List.forall_mem_cons.mpr ⟨pe12_49_0 kn h, List.forall_mem_cons.mpr ⟨pe12_53_0 kn h, List.forall_mem_cons.mpr ⟨pe12_56_0 kn h, List.forall_mem_cons.mpr ⟨pe12_60_0 kn h, List.forall_mem_cons.mpr ⟨pe12_64_0 kn h, List.forall_mem_cons.mpr ⟨pe12_67_0 kn h, List.forall_mem_cons.mpr ⟨pe12_70_0 kn h, List.forall_mem_cons.mpr ⟨pe12_73_0 kn h, List.forall_mem_cons.mpr ⟨pe12_76_0 kn h, List.forall_mem_cons.mpr ⟨pe12_79_0 kn h, List.forall_mem_cons.mpr ⟨pe12_82_0 kn h, List.forall_mem_cons.mpr ⟨pe12_86_0 kn h, List.forall_mem_cons.mpr ⟨pe12_89_28 kn h, List.forall_mem_cons.mpr ⟨pe12_95_20 kn h, List.forall_mem_cons.mpr ⟨pe12_99_20 kn h, List.forall_mem_cons.mpr ⟨pe12_103_20 kn h, List.forall_mem_cons.mpr ⟨pe12_106_0 kn h, List.forall_mem_cons.mpr ⟨pe12_109_20 kn h, List.forall_mem_cons.mpr ⟨pe12_112_20 kn h, List.forall_mem_cons.mpr ⟨pe12_115_20 kn h, List.forall_mem_cons.mpr ⟨pe12_118_20 kn h, List.forall_mem_cons.mpr ⟨pe12_122_20 kn h, List.forall_mem_cons.mpr ⟨pe12_125_0 kn h, List.forall_mem_cons.mpr ⟨pe12_129_11 kn h, List.forall_mem_cons.mpr ⟨pe12_131_10 kn h, List.forall_mem_cons.mpr ⟨pe12_132_25 kn h, List.forall_mem_cons.mpr ⟨pe12_136_25 kn h, List.forall_mem_cons.mpr ⟨pe12_140_25 kn h, List.forall_mem_cons.mpr ⟨pe12_144_10 kn h, List.forall_mem_cons.mpr ⟨pe12_145_0 kn h, List.forall_mem_cons.mpr ⟨pe12_148_0 kn h, List.forall_mem_cons.mpr ⟨pe12_151_0 kn h, List.forall_mem_cons.mpr ⟨pe12_154_20 kn h, List.forall_mem_cons.mpr ⟨pe12_158_20 kn h, List.forall_mem_cons.mpr ⟨pe12_161_20 kn h, List.forall_mem_cons.mpr ⟨pe12_164_20 kn h, List.forall_mem_cons.mpr ⟨pe12_167_11 kn h, List.forall_mem_cons.mpr ⟨pe12_169_11 kn h, List.forall_mem_cons.mpr ⟨pe12_171_10 kn h, List.forall_mem_cons.mpr ⟨pe12_172_20 kn h, List.forall_mem_cons.mpr ⟨pe12_176_25 kn h, List.forall_mem_cons.mpr ⟨pe12_180_0 kn h, List.forall_mem_cons.mpr ⟨pe12_183_11 kn h, List.forall_mem_cons.mpr ⟨pe12_185_20 kn h, List.forall_mem_cons.mpr ⟨pe12_188_0 kn h, List.forall_mem_cons.mpr ⟨pe12_191_20 kn h, List.forall_mem_cons.mpr ⟨pe12_195_25 kn h, List.forall_mem_cons.mpr ⟨pe12_199_20 kn h, List.forall_mem_cons.mpr ⟨pe12_202_20 kn h, List.forall_mem_cons.mpr ⟨pe12_206_20 kn h, List.forall_mem_cons.mpr ⟨pe12_210_0 kn h, List.forall_mem_cons.mpr ⟨pe12_213_10 kn h, List.forall_mem_cons.mpr ⟨pe12_214_30 kn h, List.forall_mem_cons.mpr ⟨pe12_219_0 kn h, List.forall_mem_cons.mpr ⟨pe12_222_20 kn h, List.forall_mem_cons.mpr ⟨pe12_225_20 kn h, List.forall_mem_cons.mpr ⟨pe12_229_20 kn h, List.forall_mem_cons.mpr ⟨pe12_233_20 kn h, List.forall_mem_cons.mpr ⟨pe12_237_0 kn h, List.forall_mem_cons.mpr ⟨pe12_240_20 kn h, List.forall_mem_cons.mpr ⟨pe12_243_20 kn h, List.forall_mem_cons.mpr ⟨pe12_246_20 kn h, List.forall_mem_cons.mpr ⟨pe12_249_20 kn h, List.forall_mem_cons.mpr ⟨pe12_252_0 kn h, List.forall_mem_cons.mpr ⟨pe12_255_15 kn h, List.forall_mem_cons.mpr ⟨pe12_258_20 kn h, List.forall_mem_cons.mpr ⟨pe12_264_15 kn h, List.forall_mem_cons.mpr ⟨pe12_267_20 kn h, List.forall_mem_cons.mpr ⟨pe12_270_20 kn h, List.forall_mem_cons.mpr ⟨pe12_273_0 kn h, List.forall_mem_cons.mpr ⟨pe12_276_0 kn h, List.forall_mem_cons.mpr ⟨pe12_279_20 kn h, List.forall_mem_cons.mpr ⟨pe12_283_20 kn h, List.forall_mem_cons.mpr ⟨pe12_286_15 kn h, List.forall_mem_cons.mpr ⟨pe12_289_15 kn h, List.forall_mem_cons.mpr ⟨pe12_292_20 kn h, List.forall_mem_cons.mpr ⟨pe12_295_15 kn h, List.forall_mem_cons.mpr ⟨pe12_298_15 kn h, List.forall_mem_cons.mpr ⟨pe12_301_20 kn h, List.forall_mem_cons.mpr ⟨pe12_304_20 kn h, List.forall_mem_cons.mpr ⟨pe12_308_20 kn h, List.forall_mem_cons.mpr ⟨pe12_312_0 kn h, List.forall_mem_cons.mpr ⟨pe12_315_20 kn h, List.forall_mem_cons.mpr ⟨pe12_319_20 kn h, List.forall_mem_cons.mpr ⟨pe12_321_20 kn h, (fun _ h => absurd h List.not_mem_nil)⟩⟩⟩⟩⟩⟩⟩⟩⟩⟩⟩⟩⟩⟩⟩⟩⟩⟩⟩⟩⟩⟩⟩⟩⟩⟩⟩⟩⟩⟩⟩⟩⟩⟩⟩⟩⟩⟩⟩⟩⟩⟩⟩⟩⟩⟩⟩⟩⟩⟩⟩⟩⟩⟩⟩⟩⟩⟩⟩⟩⟩⟩⟩⟩⟩⟩⟩⟩⟩⟩⟩⟩⟩⟩⟩⟩⟩⟩⟩⟩⟩⟩⟩⟩⟩⟩⟩⟩⟩⟩⟩⟩⟩⟩⟩⟩⟩⟩⟩⟩
set_option maxRecDepth 100000 in
theorem pe13_1_26 (kn : List rM) {m : Nat} (h : (rE0.1 m).cls = "PackHouseModel$Desk") : rpo (rpar kn) rE0 m 1 (26, 0, 0, .null) := po26 h (tw7 (List.mem_of_getElem? (i := 234) rfl) rfl)
set_option maxRecDepth 100000 in
theorem pe13_7_10 (kn : List rM) {m : Nat} (h : (rE0.1 m).cls = "PackHouseModel$Desk") : rpo (rpar kn) rE0 m 7 (10, 0, 0, .int (65536)) := po10 h (tw7 (List.mem_of_getElem? (i := 235) rfl) rfl)
set_option maxRecDepth 100000 in
theorem pe13_8_0 (kn : List rM) {m : Nat} (h : (rE0.1 m).cls = "PackHouseModel$Desk") : rpo (rpar kn) rE0 m 8 (0, 13, 0, .ref 11) := po0 (C := "PackHouseModel$Desk") (T := FT13) (N := 5) (ty := fy13 0) h rfl (by decide) rfl (tw7 (List.mem_of_getElem? (i := 236) rfl) rfl) (fp13 0 (by decide)) rfl (fun a => absurd a (by decide)) (fun _ _ => ⟨rfl, rfl⟩)
set_option maxRecDepth 100000 in
theorem pe13_14_0 (kn : List rM) {m : Nat} (h : (rE0.1 m).cls = "PackHouseModel$Desk") : rpo (rpar kn) rE0 m 14 (0, 13, 2, .ref 11) := po0 (C := "PackHouseModel$Desk") (T := FT13) (N := 5) (ty := fy13 2) h rfl (by decide) rfl (tw8 (List.mem_of_getElem? (i := 7) rfl) rfl) (fp13 2 (by decide)) rfl (fun a => absurd a (by decide)) (fun _ _ => ⟨rfl, rfl⟩)
set_option maxRecDepth 100000 in
theorem pl13 (kn : List rM) {m : Nat} (h : (rE0.1 m).cls = "PackHouseModel$Desk") : ∀ q ∈ pool_13, rpo (rpar kn) rE0 m q.1 q.2 := List.forall_mem_cons.mpr ⟨pe13_1_26 kn h, List.forall_mem_cons.mpr ⟨pe13_7_10 kn h, List.forall_mem_cons.mpr ⟨pe13_8_0 kn h, List.forall_mem_cons.mpr ⟨pe13_14_0 kn h, (fun _ h => absurd h List.not_mem_nil)⟩⟩⟩⟩
set_option maxRecDepth 100000 in
theorem pe14_1_26 (kn : List rM) {m : Nat} (h : (rE0.1 m).cls = "PackHouseModel$Reader") : rpo (rpar kn) rE0 m 1 (26, 0, 0, .null) := po26 h (tw8 (List.mem_of_getElem? (i := 156) rfl) rfl)
set_option maxRecDepth 100000 in
theorem pe14_7_10 (kn : List rM) {m : Nat} (h : (rE0.1 m).cls = "PackHouseModel$Reader") : rpo (rpar kn) rE0 m 7 (10, 0, 0, .int (65536)) := po10 h (tw8 (List.mem_of_getElem? (i := 157) rfl) rfl)
set_option maxRecDepth 100000 in
theorem pe14_8_0 (kn : List rM) {m : Nat} (h : (rE0.1 m).cls = "PackHouseModel$Reader") : rpo (rpar kn) rE0 m 8 (0, 14, 1, .ref 11) := po0 (C := "PackHouseModel$Reader") (T := FT14) (N := 47) (ty := fy14 1) h rfl (by decide) rfl (tw8 (List.mem_of_getElem? (i := 160) rfl) rfl) (fp14 1 (by decide)) rfl (fun a => absurd a (by decide)) (fun _ _ => ⟨rfl, rfl⟩)
set_option maxRecDepth 100000 in
theorem pe14_14_0 (kn : List rM) {m : Nat} (h : (rE0.1 m).cls = "PackHouseModel$Reader") : rpo (rpar kn) rE0 m 14 (0, 14, 5, .ref 11) := po0 (C := "PackHouseModel$Reader") (T := FT14) (N := 47) (ty := fy14 5) h rfl (by decide) rfl (tw8 (List.mem_of_getElem? (i := 170) rfl) rfl) (fp14 5 (by decide)) rfl (fun a => absurd a (by decide)) (fun _ _ => ⟨rfl, rfl⟩)
set_option maxRecDepth 100000 in
theorem pe14_17_0 (kn : List rM) {m : Nat} (h : (rE0.1 m).cls = "PackHouseModel$Reader") : rpo (rpar kn) rE0 m 17 (0, 14, 6, .ref 11) := po0 (C := "PackHouseModel$Reader") (T := FT14) (N := 47) (ty := fy14 6) h rfl (by decide) rfl (tw8 (List.mem_of_getElem? (i := 172) rfl) rfl) (fp14 6 (by decide)) rfl (fun a => absurd a (by decide)) (fun _ _ => ⟨rfl, rfl⟩)
set_option maxRecDepth 100000 in
theorem pe14_20_0 (kn : List rM) {m : Nat} (h : (rE0.1 m).cls = "PackHouseModel$Reader") : rpo (rpar kn) rE0 m 20 (0, 14, 7, .ref 11) := po0 (C := "PackHouseModel$Reader") (T := FT14) (N := 47) (ty := fy14 7) h rfl (by decide) rfl (tw8 (List.mem_of_getElem? (i := 174) rfl) rfl) (fp14 7 (by decide)) rfl (fun a => absurd a (by decide)) (fun _ _ => ⟨rfl, rfl⟩)
set_option maxRecDepth 100000 in
theorem pe14_23_0 (kn : List rM) {m : Nat} (h : (rE0.1 m).cls = "PackHouseModel$Reader") : rpo (rpar kn) rE0 m 23 (0, 14, 8, .ref 11) := po0 (C := "PackHouseModel$Reader") (T := FT14) (N := 47) (ty := fy14 8) h rfl (by decide) rfl (tw8 (List.mem_of_getElem? (i := 176) rfl) rfl) (fp14 8 (by decide)) rfl (fun a => absurd a (by decide)) (fun _ _ => ⟨rfl, rfl⟩)
set_option maxRecDepth 100000 in
theorem pe14_27_0 (kn : List rM) {m : Nat} (h : (rE0.1 m).cls = "PackHouseModel$Reader") : rpo (rpar kn) rE0 m 27 (0, 14, 9, .ref 11) := po0 (C := "PackHouseModel$Reader") (T := FT14) (N := 47) (ty := fy14 9) h rfl (by decide) rfl (tw8 (List.mem_of_getElem? (i := 178) rfl) rfl) (fp14 9 (by decide)) rfl (fun a => absurd a (by decide)) (fun _ _ => ⟨rfl, rfl⟩)
set_option maxRecDepth 100000 in
theorem pe14_30_0 (kn : List rM) {m : Nat} (h : (rE0.1 m).cls = "PackHouseModel$Reader") : rpo (rpar kn) rE0 m 30 (0, 14, 11, .ref 11) := po0 (C := "PackHouseModel$Reader") (T := FT14) (N := 47) (ty := fy14 11) h rfl (by decide) rfl (tw8 (List.mem_of_getElem? (i := 180) rfl) rfl) (fp14 11 (by decide)) rfl (fun a => absurd a (by decide)) (fun _ _ => ⟨rfl, rfl⟩)
set_option maxRecDepth 100000 in
theorem pe14_33_0 (kn : List rM) {m : Nat} (h : (rE0.1 m).cls = "PackHouseModel$Reader") : rpo (rpar kn) rE0 m 33 (0, 14, 12, .ref 11) := po0 (C := "PackHouseModel$Reader") (T := FT14) (N := 47) (ty := fy14 12) h rfl (by decide) rfl (tw8 (List.mem_of_getElem? (i := 181) rfl) rfl) (fp14 12 (by decide)) rfl (fun a => absurd a (by decide)) (fun _ _ => ⟨rfl, rfl⟩)
set_option maxRecDepth 100000 in
theorem pe14_36_0 (kn : List rM) {m : Nat} (h : (rE0.1 m).cls = "PackHouseModel$Reader") : rpo (rpar kn) rE0 m 36 (0, 14, 13, .ref 11) := po0 (C := "PackHouseModel$Reader") (T := FT14) (N := 47) (ty := fy14 13) h rfl (by decide) rfl (tw8 (List.mem_of_getElem? (i := 182) rfl) rfl) (fp14 13 (by decide)) rfl (fun a => absurd a (by decide)) (fun _ _ => ⟨rfl, rfl⟩)
set_option maxRecDepth 100000 in
theorem pe14_39_0 (kn : List rM) {m : Nat} (h : (rE0.1 m).cls = "PackHouseModel$Reader") : rpo (rpar kn) rE0 m 39 (0, 14, 14, .ref 11) := po0 (C := "PackHouseModel$Reader") (T := FT14) (N := 47) (ty := fy14 14) h rfl (by decide) rfl (tw8 (List.mem_of_getElem? (i := 183) rfl) rfl) (fp14 14 (by decide)) rfl (fun a => absurd a (by decide)) (fun _ _ => ⟨rfl, rfl⟩)
set_option maxRecDepth 100000 in
theorem pe14_42_0 (kn : List rM) {m : Nat} (h : (rE0.1 m).cls = "PackHouseModel$Reader") : rpo (rpar kn) rE0 m 42 (0, 14, 15, .ref 11) := po0 (C := "PackHouseModel$Reader") (T := FT14) (N := 47) (ty := fy14 15) h rfl (by decide) rfl (tw8 (List.mem_of_getElem? (i := 184) rfl) rfl) (fp14 15 (by decide)) rfl (fun a => absurd a (by decide)) (fun _ _ => ⟨rfl, rfl⟩)
set_option maxRecDepth 100000 in
theorem pe14_45_0 (kn : List rM) {m : Nat} (h : (rE0.1 m).cls = "PackHouseModel$Reader") : rpo (rpar kn) rE0 m 45 (0, 14, 16, .ref 11) := po0 (C := "PackHouseModel$Reader") (T := FT14) (N := 47) (ty := fy14 16) h rfl (by decide) rfl (tw8 (List.mem_of_getElem? (i := 185) rfl) rfl) (fp14 16 (by decide)) rfl (fun a => absurd a (by decide)) (fun _ _ => ⟨rfl, rfl⟩)
set_option maxRecDepth 100000 in
theorem pe14_48_0 (kn : List rM) {m : Nat} (h : (rE0.1 m).cls = "PackHouseModel$Reader") : rpo (rpar kn) rE0 m 48 (0, 14, 17, .ref 11) := po0 (C := "PackHouseModel$Reader") (T := FT14) (N := 47) (ty := fy14 17) h rfl (by decide) rfl (tw8 (List.mem_of_getElem? (i := 186) rfl) rfl) (fp14 17 (by decide)) rfl (fun a => absurd a (by decide)) (fun _ _ => ⟨rfl, rfl⟩)
set_option maxRecDepth 100000 in
theorem pe14_51_0 (kn : List rM) {m : Nat} (h : (rE0.1 m).cls = "PackHouseModel$Reader") : rpo (rpar kn) rE0 m 51 (0, 14, 18, .ref 11) := po0 (C := "PackHouseModel$Reader") (T := FT14) (N := 47) (ty := fy14 18) h rfl (by decide) rfl (tw8 (List.mem_of_getElem? (i := 187) rfl) rfl) (fp14 18 (by decide)) rfl (fun a => absurd a (by decide)) (fun _ _ => ⟨rfl, rfl⟩)
set_option maxRecDepth 100000 in
theorem pe14_54_0 (kn : List rM) {m : Nat} (h : (rE0.1 m).cls = "PackHouseModel$Reader") : rpo (rpar kn) rE0 m 54 (0, 14, 20, .ref 11) := po0 (C := "PackHouseModel$Reader") (T := FT14) (N := 47) (ty := fy14 20) h rfl (by decide) rfl (tw8 (List.mem_of_getElem? (i := 189) rfl) rfl) (fp14 20 (by decide)) rfl (fun a => absurd a (by decide)) (fun _ _ => ⟨rfl, rfl⟩)
set_option maxRecDepth 100000 in
theorem pe14_57_0 (kn : List rM) {m : Nat} (h : (rE0.1 m).cls = "PackHouseModel$Reader") : rpo (rpar kn) rE0 m 57 (0, 14, 21, .ref 11) := po0 (C := "PackHouseModel$Reader") (T := FT14) (N := 47) (ty := fy14 21) h rfl (by decide) rfl (tw8 (List.mem_of_getElem? (i := 190) rfl) rfl) (fp14 21 (by decide)) rfl (fun a => absurd a (by decide)) (fun _ _ => ⟨rfl, rfl⟩)
set_option maxRecDepth 100000 in
theorem pe14_60_0 (kn : List rM) {m : Nat} (h : (rE0.1 m).cls = "PackHouseModel$Reader") : rpo (rpar kn) rE0 m 60 (0, 14, 22, .ref 11) := po0 (C := "PackHouseModel$Reader") (T := FT14) (N := 47) (ty := fy14 22) h rfl (by decide) rfl (tw8 (List.mem_of_getElem? (i := 191) rfl) rfl) (fp14 22 (by decide)) rfl (fun a => absurd a (by decide)) (fun _ _ => ⟨rfl, rfl⟩)
set_option maxRecDepth 100000 in
theorem pe14_63_0 (kn : List rM) {m : Nat} (h : (rE0.1 m).cls = "PackHouseModel$Reader") : rpo (rpar kn) rE0 m 63 (0, 14, 23, .ref 11) := po0 (C := "PackHouseModel$Reader") (T := FT14) (N := 47) (ty := fy14 23) h rfl (by decide) rfl (tw8 (List.mem_of_getElem? (i := 192) rfl) rfl) (fp14 23 (by decide)) rfl (fun a => absurd a (by decide)) (fun _ _ => ⟨rfl, rfl⟩)
set_option maxRecDepth 100000 in
theorem pe14_66_0 (kn : List rM) {m : Nat} (h : (rE0.1 m).cls = "PackHouseModel$Reader") : rpo (rpar kn) rE0 m 66 (0, 14, 24, .ref 11) := po0 (C := "PackHouseModel$Reader") (T := FT14) (N := 47) (ty := fy14 24) h rfl (by decide) rfl (tw8 (List.mem_of_getElem? (i := 193) rfl) rfl) (fp14 24 (by decide)) rfl (fun a => absurd a (by decide)) (fun _ _ => ⟨rfl, rfl⟩)
set_option maxRecDepth 100000 in
theorem pe14_69_0 (kn : List rM) {m : Nat} (h : (rE0.1 m).cls = "PackHouseModel$Reader") : rpo (rpar kn) rE0 m 69 (0, 14, 37, .ref 11) := po0 (C := "PackHouseModel$Reader") (T := FT14) (N := 47) (ty := fy14 37) h rfl (by decide) rfl (tw8 (List.mem_of_getElem? (i := 212) rfl) rfl) (fp14 37 (by decide)) rfl (fun a => absurd a (by decide)) (fun _ _ => ⟨rfl, rfl⟩)
set_option maxRecDepth 100000 in
theorem pe14_72_10 (kn : List rM) {m : Nat} (h : (rE0.1 m).cls = "PackHouseModel$Reader") : rpo (rpar kn) rE0 m 72 (10, 0, 0, .int (131072)) := po10 h (tw8 (List.mem_of_getElem? (i := 158) rfl) rfl)
set_option maxRecDepth 100000 in
theorem pe14_73_0 (kn : List rM) {m : Nat} (h : (rE0.1 m).cls = "PackHouseModel$Reader") : rpo (rpar kn) rE0 m 73 (0, 14, 38, .ref 11) := po0 (C := "PackHouseModel$Reader") (T := FT14) (N := 47) (ty := fy14 38) h rfl (by decide) rfl (tw8 (List.mem_of_getElem? (i := 213) rfl) rfl) (fp14 38 (by decide)) rfl (fun a => absurd a (by decide)) (fun _ _ => ⟨rfl, rfl⟩)
set_option maxRecDepth 100000 in
theorem pe14_76_0 (kn : List rM) {m : Nat} (h : (rE0.1 m).cls = "PackHouseModel$Reader") : rpo (rpar kn) rE0 m 76 (0, 14, 46, .ref 11) := po0 (C := "PackHouseModel$Reader") (T := FT14) (N := 47) (ty := fy14 46) h rfl (by decide) rfl (tw8 (List.mem_of_getElem? (i := 221) rfl) rfl) (fp14 46 (by decide)) rfl (fun a => absurd a (by decide)) (fun _ _ => ⟨rfl, rfl⟩)
set_option maxRecDepth 100000 in
theorem pe14_79_0 (kn : List rM) {m : Nat} (h : (rE0.1 m).cls = "PackHouseModel$Reader") : rpo (rpar kn) rE0 m 79 (0, 14, 0, .ref 11) := po0 (C := "PackHouseModel$Reader") (T := FT14) (N := 47) (ty := fy14 0) h rfl (by decide) rfl (tw8 (List.mem_of_getElem? (i := 159) rfl) rfl) (fp14 0 (by decide)) rfl (fun a => absurd a (by decide)) (fun _ _ => ⟨rfl, rfl⟩)
set_option maxRecDepth 100000 in
theorem pe14_83_1 (kn : List rM) {m : Nat} (h : (rE0.1 m).cls = "PackHouseModel$Reader") : rpo (rpar kn) rE0 m 83 (1, 13, 0, .ref 19) := po1 (C := "PackHouseModel$Desk") (T := FT13) (N := 5) (ty := fy13 0) h rfl (by decide) rfl (tn7 (List.mem_of_getElem? (i := 237) rfl) rfl) (fp13 0 (by decide)) rfl (fun a => absurd a (by decide)) (fun _ b => absurd b (by decide)) (by decide)
set_option maxRecDepth 100000 in
theorem pe14_88_20 (kn : List rM) {m : Nat} (h : (rE0.1 m).cls = "PackHouseModel$Reader") : rpo (rpar kn) rE0 m 88 (20, 259, 1, .ref 14) := po20 h (pm259 kn) (tw10 (List.mem_of_getElem? (i := 236) rfl) rfl) (tw10 (List.mem_of_getElem? (i := 238) rfl) rfl) (pw7 (List.mem_of_getElem? (i := 10) rfl)) rfl rfl
set_option maxRecDepth 100000 in
theorem pe14_92_0 (kn : List rM) {m : Nat} (h : (rE0.1 m).cls = "PackHouseModel$Reader") : rpo (rpar kn) rE0 m 92 (0, 14, 19, .ref 0) := po0 (C := "PackHouseModel$Reader") (T := FT14) (N := 47) (ty := fy14 19) h rfl (by decide) rfl (tw8 (List.mem_of_getElem? (i := 188) rfl) rfl) (fp14 19 (by decide)) rfl (fun _ => rfl) (fun a _ => absurd a (by decide))
set_option maxRecDepth 100000 in
theorem pe14_96_24 (kn : List rM) {m : Nat} (h : (rE0.1 m).cls = "PackHouseModel$Reader") : rpo (rpar kn) rE0 m 96 (24, 260, 1, .null) := po24 h (pm260 kn) (tw11 (List.mem_of_getElem? (i := 0) rfl) rfl) (tw11 (List.mem_of_getElem? (i := 1) rfl) rfl)
set_option maxRecDepth 100000 in
theorem pe14_99_20 (kn : List rM) {m : Nat} (h : (rE0.1 m).cls = "PackHouseModel$Reader") : rpo (rpar kn) rE0 m 99 (20, 262, 8, .ref 14) := po20 h (pm262 kn) (tw11 (List.mem_of_getElem? (i := 7) rfl) rfl) (tw11 (List.mem_of_getElem? (i := 9) rfl) rfl) (pw7 (List.mem_of_getElem? (i := 12) rfl)) rfl rfl
set_option maxRecDepth 100000 in
theorem pe14_103_20 (kn : List rM) {m : Nat} (h : (rE0.1 m).cls = "PackHouseModel$Reader") : rpo (rpar kn) rE0 m 103 (20, 263, 1, .ref 14) := po20 h (pm263 kn) (tw11 (List.mem_of_getElem? (i := 31) rfl) rfl) (tw11 (List.mem_of_getElem? (i := 33) rfl) rfl) (pw8 (List.mem_of_getElem? (i := 1) rfl)) rfl rfl
set_option maxRecDepth 100000 in
theorem pe14_107_20 (kn : List rM) {m : Nat} (h : (rE0.1 m).cls = "PackHouseModel$Reader") : rpo (rpar kn) rE0 m 107 (20, 265, 4, .ref 14) := po20 h (pm265 kn) (tw13 (List.mem_of_getElem? (i := 214) rfl) rfl) (tw13 (List.mem_of_getElem? (i := 216) rfl) rfl) (pw15 (List.mem_of_getElem? (i := 15) rfl)) rfl rfl
set_option maxRecDepth 100000 in
theorem pe14_111_0 (kn : List rM) {m : Nat} (h : (rE0.1 m).cls = "PackHouseModel$Reader") : rpo (rpar kn) rE0 m 111 (0, 14, 44, .ref 0) := po0 (C := "PackHouseModel$Reader") (T := FT14) (N := 47) (ty := fy14 44) h rfl (by decide) rfl (tw8 (List.mem_of_getElem? (i := 219) rfl) rfl) (fp14 44 (by decide)) rfl (fun _ => rfl) (fun a _ => absurd a (by decide))
set_option maxRecDepth 100000 in
theorem pe14_114_0 (kn : List rM) {m : Nat} (h : (rE0.1 m).cls = "PackHouseModel$Reader") : rpo (rpar kn) rE0 m 114 (0, 14, 45, .ref 0) := po0 (C := "PackHouseModel$Reader") (T := FT14) (N := 47) (ty := fy14 45) h rfl (by decide) rfl (tw8 (List.mem_of_getElem? (i := 220) rfl) rfl) (fp14 45 (by decide)) rfl (fun _ => rfl) (fun a _ => absurd a (by decide))
set_option maxRecDepth 100000 in
theorem pe14_117_11 (kn : List rM) {m : Nat} (h : (rE0.1 m).cls = "PackHouseModel$Reader") : rpo (rpar kn) rE0 m 117 (11, 0, 0, .long (2)) := po11 h (tw11 (List.mem_of_getElem? (i := 15) rfl) rfl)
set_option maxRecDepth 100000 in
theorem pe14_119_0 (kn : List rM) {m : Nat} (h : (rE0.1 m).cls = "PackHouseModel$Reader") : rpo (rpar kn) rE0 m 119 (0, 14, 10, .ref 0) := po0 (C := "PackHouseModel$Reader") (T := FT14) (N := 47) (ty := fy14 10) h rfl (by decide) rfl (tw8 (List.mem_of_getElem? (i := 179) rfl) rfl) (fp14 10 (by decide)) rfl (fun _ => rfl) (fun a _ => absurd a (by decide))
set_option maxRecDepth 100000 in
theorem pe14_122_20 (kn : List rM) {m : Nat} (h : (rE0.1 m).cls = "PackHouseModel$Reader") : rpo (rpar kn) rE0 m 122 (20, 272, 2, .ref 14) := po20 h (pm272 kn) (tw10 (List.mem_of_getElem? (i := 228) rfl) rfl) (tw10 (List.mem_of_getElem? (i := 230) rfl) rfl) (pw7 (List.mem_of_getElem? (i := 8) rfl)) rfl rfl
set_option maxRecDepth 100000 in
theorem pe14_126_20 (kn : List rM) {m : Nat} (h : (rE0.1 m).cls = "PackHouseModel$Reader") : rpo (rpar kn) rE0 m 126 (20, 270, 1, .ref 14) := po20 h (pm270 kn) (tw11 (List.mem_of_getElem? (i := 16) rfl) rfl) (tw11 (List.mem_of_getElem? (i := 18) rfl) rfl) (pw7 (List.mem_of_getElem? (i := 14) rfl)) rfl rfl
set_option maxRecDepth 100000 in
theorem pe14_130_20 (kn : List rM) {m : Nat} (h : (rE0.1 m).cls = "PackHouseModel$Reader") : rpo (rpar kn) rE0 m 130 (20, 269, 0, .ref 14) := po20 h (pm269 kn) (tw11 (List.mem_of_getElem? (i := 20) rfl) rfl) (tw11 (List.mem_of_getElem? (i := 22) rfl) rfl) (pw7 (List.mem_of_getElem? (i := 15) rfl)) rfl rfl
set_option maxRecDepth 100000 in
theorem pe14_133_20 (kn : List rM) {m : Nat} (h : (rE0.1 m).cls = "PackHouseModel$Reader") : rpo (rpar kn) rE0 m 133 (20, 261, 4, .ref 14) := po20 h (pm261 kn) (tw10 (List.mem_of_getElem? (i := 232) rfl) rfl) (tw10 (List.mem_of_getElem? (i := 234) rfl) rfl) (pw7 (List.mem_of_getElem? (i := 9) rfl)) rfl rfl
set_option maxRecDepth 100000 in
theorem pe14_136_20 (kn : List rM) {m : Nat} (h : (rE0.1 m).cls = "PackHouseModel$Reader") : rpo (rpar kn) rE0 m 136 (20, 267, 2, .ref 14) := po20 h (pm267 kn) (tw11 (List.mem_of_getElem? (i := 3) rfl) rfl) (tw11 (List.mem_of_getElem? (i := 5) rfl) rfl) (pw7 (List.mem_of_getElem? (i := 11) rfl)) rfl rfl
set_option maxRecDepth 100000 in
theorem pe14_140_20 (kn : List rM) {m : Nat} (h : (rE0.1 m).cls = "PackHouseModel$Reader") : rpo (rpar kn) rE0 m 140 (20, 268, 1, .ref 14) := po20 h (pm268 kn) (tw11 (List.mem_of_getElem? (i := 11) rfl) rfl) (tw11 (List.mem_of_getElem? (i := 13) rfl) rfl) (pw7 (List.mem_of_getElem? (i := 13) rfl)) rfl rfl
set_option maxRecDepth 100000 in
theorem pe14_144_0 (kn : List rM) {m : Nat} (h : (rE0.1 m).cls = "PackHouseModel$Reader") : rpo (rpar kn) rE0 m 144 (0, 14, 39, .ref 0) := po0 (C := "PackHouseModel$Reader") (T := FT14) (N := 47) (ty := fy14 39) h rfl (by decide) rfl (tw8 (List.mem_of_getElem? (i := 214) rfl) rfl) (fp14 39 (by decide)) rfl (fun _ => rfl) (fun a _ => absurd a (by decide))
set_option maxRecDepth 100000 in
theorem pe14_147_0 (kn : List rM) {m : Nat} (h : (rE0.1 m).cls = "PackHouseModel$Reader") : rpo (rpar kn) rE0 m 147 (0, 14, 2, .ref 0) := po0 (C := "PackHouseModel$Reader") (T := FT14) (N := 47) (ty := fy14 2) h rfl (by decide) rfl (tw8 (List.mem_of_getElem? (i := 163) rfl) rfl) (fp14 2 (by decide)) rfl (fun _ => rfl) (fun a _ => absurd a (by decide))
set_option maxRecDepth 100000 in
theorem pe14_150_0 (kn : List rM) {m : Nat} (h : (rE0.1 m).cls = "PackHouseModel$Reader") : rpo (rpar kn) rE0 m 150 (0, 14, 3, .ref 0) := po0 (C := "PackHouseModel$Reader") (T := FT14) (N := 47) (ty := fy14 3) h rfl (by decide) rfl (tw8 (List.mem_of_getElem? (i := 166) rfl) rfl) (fp14 3 (by decide)) rfl (fun _ => rfl) (fun a _ => absurd a (by decide))
set_option maxRecDepth 100000 in
theorem pe14_153_0 (kn : List rM) {m : Nat} (h : (rE0.1 m).cls = "PackHouseModel$Reader") : rpo (rpar kn) rE0 m 153 (0, 14, 4, .ref 1) := po0 (C := "PackHouseModel$Reader") (T := FT14) (N := 47) (ty := fy14 4) h rfl (by decide) rfl (tw8 (List.mem_of_getElem? (i := 169) rfl) rfl) (fp14 4 (by decide)) rfl (fun _ => rfl) (fun a _ => absurd a (by decide))
set_option maxRecDepth 100000 in
theorem pe14_157_1 (kn : List rM) {m : Nat} (h : (rE0.1 m).cls = "PackHouseModel$Reader") : rpo (rpar kn) rE0 m 157 (1, 13, 1, .ref 0) := po1 (C := "PackHouseModel$Desk") (T := FT13) (N := 5) (ty := fy13 1) h rfl (by decide) rfl (tn8 (List.mem_of_getElem? (i := 4) rfl) rfl) (fp13 1 (by decide)) rfl (fun _ => rfl) (fun a _ => absurd a (by decide)) (by decide)
set_option maxRecDepth 100000 in
theorem pe14_160_20 (kn : List rM) {m : Nat} (h : (rE0.1 m).cls = "PackHouseModel$Reader") : rpo (rpar kn) rE0 m 160 (20, 258, 5, .ref 14) := po20 h (pm258 kn) (tw10 (List.mem_of_getElem? (i := 220) rfl) rfl) (tw10 (List.mem_of_getElem? (i := 222) rfl) rfl) (pw7 (List.mem_of_getElem? (i := 6) rfl)) rfl rfl
set_option maxRecDepth 100000 in
theorem pe14_164_20 (kn : List rM) {m : Nat} (h : (rE0.1 m).cls = "PackHouseModel$Reader") : rpo (rpar kn) rE0 m 164 (20, 271, 2, .ref 14) := po20 h (pm271 kn) (tw10 (List.mem_of_getElem? (i := 224) rfl) rfl) (tw10 (List.mem_of_getElem? (i := 226) rfl) rfl) (pw7 (List.mem_of_getElem? (i := 7) rfl)) rfl rfl
set_option maxRecDepth 100000 in
theorem pe14_167_24 (kn : List rM) {m : Nat} (h : (rE0.1 m).cls = "PackHouseModel$Reader") : rpo (rpar kn) rE0 m 167 (24, 276, 1, .null) := po24 h (pm276 kn) (tw11 (List.mem_of_getElem? (i := 24) rfl) rfl) (tw11 (List.mem_of_getElem? (i := 25) rfl) rfl)
set_option maxRecDepth 100000 in
theorem pe14_170_20 (kn : List rM) {m : Nat} (h : (rE0.1 m).cls = "PackHouseModel$Reader") : rpo (rpar kn) rE0 m 170 (20, 264, 1, .ref 14) := po20 h (pm264 kn) (tw11 (List.mem_of_getElem? (i := 27) rfl) rfl) (tw11 (List.mem_of_getElem? (i := 29) rfl) rfl) (pw8 (List.mem_of_getElem? (i := 0) rfl)) rfl rfl
set_option maxRecDepth 100000 in
theorem pe14_173_20 (kn : List rM) {m : Nat} (h : (rE0.1 m).cls = "PackHouseModel$Reader") : rpo (rpar kn) rE0 m 173 (20, 257, 2, .ref 14) := po20 h (pm257 kn) (tw11 (List.mem_of_getElem? (i := 35) rfl) rfl) (tw11 (List.mem_of_getElem? (i := 37) rfl) rfl) (pw8 (List.mem_of_getElem? (i := 2) rfl)) rfl rfl
set_option maxRecDepth 100000 in
theorem pe14_177_11 (kn : List rM) {m : Nat} (h : (rE0.1 m).cls = "PackHouseModel$Reader") : rpo (rpar kn) rE0 m 177 (11, 0, 0, .long (4)) := po11 h (tw13 (List.mem_of_getElem? (i := 181) rfl) rfl)
set_option maxRecDepth 100000 in
theorem pe14_179_20 (kn : List rM) {m : Nat} (h : (rE0.1 m).cls = "PackHouseModel$Reader") : rpo (rpar kn) rE0 m 179 (20, 279, 1, .ref 14) := po20 h (pm279 kn) (tw14 (List.mem_of_getElem? (i := 24) rfl) rfl) (tw14 (List.mem_of_getElem? (i := 26) rfl) rfl) (pw16 (List.mem_of_getElem? (i := 7) rfl)) rfl rfl
set_option maxRecDepth 100000 in
theorem pe14_182_11 (kn : List rM) {m : Nat} (h : (rE0.1 m).cls = "PackHouseModel$Reader") : rpo (rpar kn) rE0 m 182 (11, 0, 0, .long (-7046029288634856825)) := po11 h (tw14 (List.mem_of_getElem? (i := 15) rfl) rfl)
set_option maxRecDepth 100000 in
theorem pe14_184_11 (kn : List rM) {m : Nat} (h : (rE0.1 m).cls = "PackHouseModel$Reader") : rpo (rpar kn) rE0 m 184 (11, 0, 0, .long (-4417276706812531889)) := po11 h (tw14 (List.mem_of_getElem? (i := 16) rfl) rfl)
set_option maxRecDepth 100000 in
theorem pe14_186_11 (kn : List rM) {m : Nat} (h : (rE0.1 m).cls = "PackHouseModel$Reader") : rpo (rpar kn) rE0 m 186 (11, 0, 0, .long (1609587929392839161)) := po11 h (tw14 (List.mem_of_getElem? (i := 17) rfl) rfl)
set_option maxRecDepth 100000 in
theorem pe14_188_11 (kn : List rM) {m : Nat} (h : (rE0.1 m).cls = "PackHouseModel$Reader") : rpo (rpar kn) rE0 m 188 (11, 0, 0, .long (-8796714831421723037)) := po11 h (tw14 (List.mem_of_getElem? (i := 18) rfl) rfl)
set_option maxRecDepth 100000 in
theorem pe14_190_11 (kn : List rM) {m : Nat} (h : (rE0.1 m).cls = "PackHouseModel$Reader") : rpo (rpar kn) rE0 m 190 (11, 0, 0, .long (2870177450012600261)) := po11 h (tw14 (List.mem_of_getElem? (i := 19) rfl) rfl)
set_option maxRecDepth 100000 in
theorem pe14_192_20 (kn : List rM) {m : Nat} (h : (rE0.1 m).cls = "PackHouseModel$Reader") : rpo (rpar kn) rE0 m 192 (20, 280, 2, .ref 14) := po20 h (pm280 kn) (tw14 (List.mem_of_getElem? (i := 20) rfl) rfl) (tw14 (List.mem_of_getElem? (i := 22) rfl) rfl) (pw16 (List.mem_of_getElem? (i := 6) rfl)) rfl rfl
set_option maxRecDepth 100000 in
theorem pe14_195_24 (kn : List rM) {m : Nat} (h : (rE0.1 m).cls = "PackHouseModel$Reader") : rpo (rpar kn) rE0 m 195 (24, 278, 2, .null) := po24 h (pm278 kn) (tw14 (List.mem_of_getElem? (i := 28) rfl) rfl) (tw14 (List.mem_of_getElem? (i := 29) rfl) rfl)
set_option maxRecDepth 100000 in
theorem pe14_199_0 (kn : List rM) {m : Nat} (h : (rE0.1 m).cls = "PackHouseModel$Reader") : rpo (rpar kn) rE0 m 199 (0, 14, 30, .ref 0) := po0 (C := "PackHouseModel$Reader") (T := FT14) (N := 47) (ty := fy14 30) h rfl (by decide) rfl (tw8 (List.mem_of_getElem? (i := 200) rfl) rfl) (fp14 30 (by decide)) rfl (fun _ => rfl) (fun a _ => absurd a (by decide))
set_option maxRecDepth 100000 in
theorem pe14_202_0 (kn : List rM) {m : Nat} (h : (rE0.1 m).cls = "PackHouseModel$Reader") : rpo (rpar kn) rE0 m 202 (0, 14, 31, .ref 0) := po0 (C := "PackHouseModel$Reader") (T := FT14) (N := 47) (ty := fy14 31) h rfl (by decide) rfl (tw8 (List.mem_of_getElem? (i := 201) rfl) rfl) (fp14 31 (by decide)) rfl (fun _ => rfl) (fun a _ => absurd a (by decide))
set_option maxRecDepth 100000 in
theorem pe14_205_0 (kn : List rM) {m : Nat} (h : (rE0.1 m).cls = "PackHouseModel$Reader") : rpo (rpar kn) rE0 m 205 (0, 14, 25, .ref 0) := po0 (C := "PackHouseModel$Reader") (T := FT14) (N := 47) (ty := fy14 25) h rfl (by decide) rfl (tw8 (List.mem_of_getElem? (i := 194) rfl) rfl) (fp14 25 (by decide)) rfl (fun _ => rfl) (fun a _ => absurd a (by decide))
set_option maxRecDepth 100000 in
theorem pe14_208_20 (kn : List rM) {m : Nat} (h : (rE0.1 m).cls = "PackHouseModel$Reader") : rpo (rpar kn) rE0 m 208 (20, 282, 2, .ref 14) := po20 h (pm282 kn) (tw13 (List.mem_of_getElem? (i := 161) rfl) rfl) (tw13 (List.mem_of_getElem? (i := 163) rfl) rfl) (pw15 (List.mem_of_getElem? (i := 3) rfl)) rfl rfl
set_option maxRecDepth 100000 in
theorem pe14_211_0 (kn : List rM) {m : Nat} (h : (rE0.1 m).cls = "PackHouseModel$Reader") : rpo (rpar kn) rE0 m 211 (0, 14, 26, .ref 0) := po0 (C := "PackHouseModel$Reader") (T := FT14) (N := 47) (ty := fy14 26) h rfl (by decide) rfl (tw8 (List.mem_of_getElem? (i := 195) rfl) rfl) (fp14 26 (by decide)) rfl (fun _ => rfl) (fun a _ => absurd a (by decide))
set_option maxRecDepth 100000 in
theorem pe14_214_0 (kn : List rM) {m : Nat} (h : (rE0.1 m).cls = "PackHouseModel$Reader") : rpo (rpar kn) rE0 m 214 (0, 14, 27, .ref 0) := po0 (C := "PackHouseModel$Reader") (T := FT14) (N := 47) (ty := fy14 27) h rfl (by decide) rfl (tw8 (List.mem_of_getElem? (i := 197) rfl) rfl) (fp14 27 (by decide)) rfl (fun _ => rfl) (fun a _ => absurd a (by decide))
set_option maxRecDepth 100000 in
theorem pe14_217_0 (kn : List rM) {m : Nat} (h : (rE0.1 m).cls = "PackHouseModel$Reader") : rpo (rpar kn) rE0 m 217 (0, 14, 32, .ref 0) := po0 (C := "PackHouseModel$Reader") (T := FT14) (N := 47) (ty := fy14 32) h rfl (by decide) rfl (tw8 (List.mem_of_getElem? (i := 204) rfl) rfl) (fp14 32 (by decide)) rfl (fun _ => rfl) (fun a _ => absurd a (by decide))
set_option maxRecDepth 100000 in
theorem pe14_220_0 (kn : List rM) {m : Nat} (h : (rE0.1 m).cls = "PackHouseModel$Reader") : rpo (rpar kn) rE0 m 220 (0, 14, 33, .ref 0) := po0 (C := "PackHouseModel$Reader") (T := FT14) (N := 47) (ty := fy14 33) h rfl (by decide) rfl (tw8 (List.mem_of_getElem? (i := 206) rfl) rfl) (fp14 33 (by decide)) rfl (fun _ => rfl) (fun a _ => absurd a (by decide))
set_option maxRecDepth 100000 in
theorem pe14_223_0 (kn : List rM) {m : Nat} (h : (rE0.1 m).cls = "PackHouseModel$Reader") : rpo (rpar kn) rE0 m 223 (0, 14, 34, .ref 0) := po0 (C := "PackHouseModel$Reader") (T := FT14) (N := 47) (ty := fy14 34) h rfl (by decide) rfl (tw8 (List.mem_of_getElem? (i := 208) rfl) rfl) (fp14 34 (by decide)) rfl (fun _ => rfl) (fun a _ => absurd a (by decide))
set_option maxRecDepth 100000 in
theorem pe14_226_0 (kn : List rM) {m : Nat} (h : (rE0.1 m).cls = "PackHouseModel$Reader") : rpo (rpar kn) rE0 m 226 (0, 14, 36, .ref 0) := po0 (C := "PackHouseModel$Reader") (T := FT14) (N := 47) (ty := fy14 36) h rfl (by decide) rfl (tw8 (List.mem_of_getElem? (i := 211) rfl) rfl) (fp14 36 (by decide)) rfl (fun _ => rfl) (fun a _ => absurd a (by decide))
set_option maxRecDepth 100000 in
theorem pe14_229_20 (kn : List rM) {m : Nat} (h : (rE0.1 m).cls = "PackHouseModel$Reader") : rpo (rpar kn) rE0 m 229 (20, 285, 0, .ref 14) := po20 h (pm285 kn) (tw13 (List.mem_of_getElem? (i := 153) rfl) rfl) (tw13 (List.mem_of_getElem? (i := 155) rfl) rfl) (pw15 (List.mem_of_getElem? (i := 1) rfl)) rfl rfl
set_option maxRecDepth 100000 in
theorem pe14_233_1 (kn : List rM) {m : Nat} (h : (rE0.1 m).cls = "PackHouseModel$Reader") : rpo (rpar kn) rE0 m 233 (1, 13, 3, .ref 0) := po1 (C := "PackHouseModel$Desk") (T := FT13) (N := 5) (ty := fy13 3) h rfl (by decide) rfl (tn8 (List.mem_of_getElem? (i := 17) rfl) rfl) (fp13 3 (by decide)) rfl (fun _ => rfl) (fun a _ => absurd a (by decide)) (by decide)
set_option maxRecDepth 100000 in
theorem pe14_236_1 (kn : List rM) {m : Nat} (h : (rE0.1 m).cls = "PackHouseModel$Reader") : rpo (rpar kn) rE0 m 236 (1, 13, 2, .ref 19) := po1 (C := "PackHouseModel$Desk") (T := FT13) (N := 5) (ty := fy13 2) h rfl (by decide) rfl (tn8 (List.mem_of_getElem? (i := 12) rfl) rfl) (fp13 2 (by decide)) rfl (fun a => absurd a (by decide)) (fun _ b => absurd b (by decide)) (by decide)
set_option maxRecDepth 100000 in
theorem pe14_239_20 (kn : List rM) {m : Nat} (h : (rE0.1 m).cls = "PackHouseModel$Reader") : rpo (rpar kn) rE0 m 239 (20, 283, 1, .ref 14) := po20 h (pm283 kn) (tw13 (List.mem_of_getElem? (i := 157) rfl) rfl) (tw13 (List.mem_of_getElem? (i := 159) rfl) rfl) (pw15 (List.mem_of_getElem? (i := 2) rfl)) rfl rfl
set_option maxRecDepth 100000 in
theorem pe14_242_20 (kn : List rM) {m : Nat} (h : (rE0.1 m).cls = "PackHouseModel$Reader") : rpo (rpar kn) rE0 m 242 (20, 286, 0, .ref 14) := po20 h (pm286 kn) (tw13 (List.mem_of_getElem? (i := 165) rfl) rfl) (tw13 (List.mem_of_getElem? (i := 167) rfl) rfl) (pw15 (List.mem_of_getElem? (i := 4) rfl)) rfl rfl
set_option maxRecDepth 100000 in
theorem pe14_245_0 (kn : List rM) {m : Nat} (h : (rE0.1 m).cls = "PackHouseModel$Reader") : rpo (rpar kn) rE0 m 245 (0, 14, 35, .ref 2) := po0 (C := "PackHouseModel$Reader") (T := FT14) (N := 47) (ty := fy14 35) h rfl (by decide) rfl (tw8 (List.mem_of_getElem? (i := 209) rfl) rfl) (fp14 35 (by decide)) rfl (fun _ => rfl) (fun a _ => absurd a (by decide))
set_option maxRecDepth 100000 in
theorem pe14_249_20 (kn : List rM) {m : Nat} (h : (rE0.1 m).cls = "PackHouseModel$Reader") : rpo (rpar kn) rE0 m 249 (20, 287, 0, .ref 14) := po20 h (pm287 kn) (tw13 (List.mem_of_getElem? (i := 169) rfl) rfl) (tw13 (List.mem_of_getElem? (i := 171) rfl) rfl) (pw15 (List.mem_of_getElem? (i := 5) rfl)) rfl rfl
set_option maxRecDepth 100000 in
theorem pe14_252_11 (kn : List rM) {m : Nat} (h : (rE0.1 m).cls = "PackHouseModel$Reader") : rpo (rpar kn) rE0 m 252 (11, 0, 0, .long (256)) := po11 h (tw13 (List.mem_of_getElem? (i := 175) rfl) rfl)
set_option maxRecDepth 100000 in
theorem pe14_254_11 (kn : List rM) {m : Nat} (h : (rE0.1 m).cls = "PackHouseModel$Reader") : rpo (rpar kn) rE0 m 254 (11, 0, 0, .long (131072)) := po11 h (tw13 (List.mem_of_getElem? (i := 176) rfl) rfl)
set_option maxRecDepth 100000 in
theorem pe14_256_0 (kn : List rM) {m : Nat} (h : (rE0.1 m).cls = "PackHouseModel$Reader") : rpo (rpar kn) rE0 m 256 (0, 14, 29, .ref 0) := po0 (C := "PackHouseModel$Reader") (T := FT14) (N := 47) (ty := fy14 29) h rfl (by decide) rfl (tw8 (List.mem_of_getElem? (i := 199) rfl) rfl) (fp14 29 (by decide)) rfl (fun _ => rfl) (fun a _ => absurd a (by decide))
set_option maxRecDepth 100000 in
theorem pe14_259_20 (kn : List rM) {m : Nat} (h : (rE0.1 m).cls = "PackHouseModel$Reader") : rpo (rpar kn) rE0 m 259 (20, 277, 0, .ref 14) := po20 h (pm277 kn) (tw13 (List.mem_of_getElem? (i := 177) rfl) rfl) (tw13 (List.mem_of_getElem? (i := 179) rfl) rfl) (pw15 (List.mem_of_getElem? (i := 6) rfl)) rfl rfl
set_option maxRecDepth 100000 in
theorem pe14_262_0 (kn : List rM) {m : Nat} (h : (rE0.1 m).cls = "PackHouseModel$Reader") : rpo (rpar kn) rE0 m 262 (0, 14, 28, .ref 0) := po0 (C := "PackHouseModel$Reader") (T := FT14) (N := 47) (ty := fy14 28) h rfl (by decide) rfl (tw8 (List.mem_of_getElem? (i := 198) rfl) rfl) (fp14 28 (by decide)) rfl (fun _ => rfl) (fun a _ => absurd a (by decide))
set_option maxRecDepth 100000 in
theorem pe14_265_20 (kn : List rM) {m : Nat} (h : (rE0.1 m).cls = "PackHouseModel$Reader") : rpo (rpar kn) rE0 m 265 (20, 288, 0, .ref 14) := po20 h (pm288 kn) (tw13 (List.mem_of_getElem? (i := 182) rfl) rfl) (tw13 (List.mem_of_getElem? (i := 184) rfl) rfl) (pw15 (List.mem_of_getElem? (i := 7) rfl)) rfl rfl
set_option maxRecDepth 100000 in
theorem pe14_268_20 (kn : List rM) {m : Nat} (h : (rE0.1 m).cls = "PackHouseModel$Reader") : rpo (rpar kn) rE0 m 268 (20, 281, 2, .ref 14) := po20 h (pm281 kn) (tw14 (List.mem_of_getElem? (i := 11) rfl) rfl) (tw14 (List.mem_of_getElem? (i := 13) rfl) rfl) (pw16 (List.mem_of_getElem? (i := 5) rfl)) rfl rfl
set_option maxRecDepth 100000 in
theorem pe14_271_11 (kn : List rM) {m : Nat} (h : (rE0.1 m).cls = "PackHouseModel$Reader") : rpo (rpar kn) rE0 m 271 (11, 0, 0, .long (2147483647)) := po11 h (tw13 (List.mem_of_getElem? (i := 173) rfl) rfl)
set_option maxRecDepth 100000 in
theorem pe14_273_10 (kn : List rM) {m : Nat} (h : (rE0.1 m).cls = "PackHouseModel$Reader") : rpo (rpar kn) rE0 m 273 (10, 0, 0, .int (2147483647)) := po10 h (tw13 (List.mem_of_getElem? (i := 174) rfl) rfl)
set_option maxRecDepth 100000 in
theorem pe14_274_20 (kn : List rM) {m : Nat} (h : (rE0.1 m).cls = "PackHouseModel$Reader") : rpo (rpar kn) rE0 m 274 (20, 289, 1, .ref 14) := po20 h (pm289 kn) (tw13 (List.mem_of_getElem? (i := 186) rfl) rfl) (tw13 (List.mem_of_getElem? (i := 188) rfl) rfl) (pw15 (List.mem_of_getElem? (i := 8) rfl)) rfl rfl
set_option maxRecDepth 100000 in
theorem pe14_277_20 (kn : List rM) {m : Nat} (h : (rE0.1 m).cls = "PackHouseModel$Reader") : rpo (rpar kn) rE0 m 277 (20, 291, 1, .ref 14) := po20 h (pm291 kn) (tw13 (List.mem_of_getElem? (i := 190) rfl) rfl) (tw13 (List.mem_of_getElem? (i := 192) rfl) rfl) (pw15 (List.mem_of_getElem? (i := 9) rfl)) rfl rfl
set_option maxRecDepth 100000 in
theorem pe14_280_0 (kn : List rM) {m : Nat} (h : (rE0.1 m).cls = "PackHouseModel$Reader") : rpo (rpar kn) rE0 m 280 (0, 14, 40, .ref 0) := po0 (C := "PackHouseModel$Reader") (T := FT14) (N := 47) (ty := fy14 40) h rfl (by decide) rfl (tw8 (List.mem_of_getElem? (i := 215) rfl) rfl) (fp14 40 (by decide)) rfl (fun _ => rfl) (fun a _ => absurd a (by decide))
set_option maxRecDepth 100000 in
theorem pe14_283_20 (kn : List rM) {m : Nat} (h : (rE0.1 m).cls = "PackHouseModel$Reader") : rpo (rpar kn) rE0 m 283 (20, 298, 2, .ref 14) := po20 h (pm298 kn) (tw13 (List.mem_of_getElem? (i := 202) rfl) rfl) (tw13 (List.mem_of_getElem? (i := 204) rfl) rfl) (pw15 (List.mem_of_getElem? (i := 12) rfl)) rfl rfl
set_option maxRecDepth 100000 in
theorem pe14_286_20 (kn : List rM) {m : Nat} (h : (rE0.1 m).cls = "PackHouseModel$Reader") : rpo (rpar kn) rE0 m 286 (20, 290, 0, .ref 14) := po20 h (pm290 kn) (tw14 (List.mem_of_getElem? (i := 7) rfl) rfl) (tw14 (List.mem_of_getElem? (i := 9) rfl) rfl) (pw16 (List.mem_of_getElem? (i := 4) rfl)) rfl rfl
set_option maxRecDepth 100000 in
theorem pe14_289_20 (kn : List rM) {m : Nat} (h : (rE0.1 m).cls = "PackHouseModel$Reader") : rpo (rpar kn) rE0 m 289 (20, 273, 3, .ref 14) := po20 h (pm273 kn) (tw13 (List.mem_of_getElem? (i := 194) rfl) rfl) (tw13 (List.mem_of_getElem? (i := 196) rfl) rfl) (pw15 (List.mem_of_getElem? (i := 10) rfl)) rfl rfl
set_option maxRecDepth 100000 in
theorem pe14_293_20 (kn : List rM) {m : Nat} (h : (rE0.1 m).cls = "PackHouseModel$Reader") : rpo (rpar kn) rE0 m 293 (20, 292, 3, .ref 14) := po20 h (pm292 kn) (tw13 (List.mem_of_getElem? (i := 198) rfl) rfl) (tw13 (List.mem_of_getElem? (i := 200) rfl) rfl) (pw15 (List.mem_of_getElem? (i := 11) rfl)) rfl rfl
set_option maxRecDepth 100000 in
theorem pe14_296_20 (kn : List rM) {m : Nat} (h : (rE0.1 m).cls = "PackHouseModel$Reader") : rpo (rpar kn) rE0 m 296 (20, 266, 1, .ref 14) := po20 h (pm266 kn) (tw13 (List.mem_of_getElem? (i := 210) rfl) rfl) (tw13 (List.mem_of_getElem? (i := 212) rfl) rfl) (pw15 (List.mem_of_getElem? (i := 14) rfl)) rfl rfl
set_option maxRecDepth 100000 in
theorem pe14_299_20 (kn : List rM) {m : Nat} (h : (rE0.1 m).cls = "PackHouseModel$Reader") : rpo (rpar kn) rE0 m 299 (20, 293, 1, .ref 14) := po20 h (pm293 kn) (tw13 (List.mem_of_getElem? (i := 206) rfl) rfl) (tw13 (List.mem_of_getElem? (i := 208) rfl) rfl) (pw15 (List.mem_of_getElem? (i := 13) rfl)) rfl rfl
set_option maxRecDepth 100000 in
theorem pe14_302_0 (kn : List rM) {m : Nat} (h : (rE0.1 m).cls = "PackHouseModel$Reader") : rpo (rpar kn) rE0 m 302 (0, 14, 41, .ref 0) := po0 (C := "PackHouseModel$Reader") (T := FT14) (N := 47) (ty := fy14 41) h rfl (by decide) rfl (tw8 (List.mem_of_getElem? (i := 216) rfl) rfl) (fp14 41 (by decide)) rfl (fun _ => rfl) (fun a _ => absurd a (by decide))
set_option maxRecDepth 100000 in
theorem pe14_305_0 (kn : List rM) {m : Nat} (h : (rE0.1 m).cls = "PackHouseModel$Reader") : rpo (rpar kn) rE0 m 305 (0, 14, 42, .ref 0) := po0 (C := "PackHouseModel$Reader") (T := FT14) (N := 47) (ty := fy14 42) h rfl (by decide) rfl (tw8 (List.mem_of_getElem? (i := 217) rfl) rfl) (fp14 42 (by decide)) rfl (fun _ => rfl) (fun a _ => absurd a (by decide))
set_option maxRecDepth 100000 in
theorem pe14_308_0 (kn : List rM) {m : Nat} (h : (rE0.1 m).cls = "PackHouseModel$Reader") : rpo (rpar kn) rE0 m 308 (0, 14, 43, .ref 0) := po0 (C := "PackHouseModel$Reader") (T := FT14) (N := 47) (ty := fy14 43) h rfl (by decide) rfl (tw8 (List.mem_of_getElem? (i := 218) rfl) rfl) (fp14 43 (by decide)) rfl (fun _ => rfl) (fun a _ => absurd a (by decide))
set_option maxRecDepth 100000 in
theorem pe14_311_24 (kn : List rM) {m : Nat} (h : (rE0.1 m).cls = "PackHouseModel$Reader") : rpo (rpar kn) rE0 m 311 (24, 297, 1, .null) := po24 h (pm297 kn) (tw13 (List.mem_of_getElem? (i := 218) rfl) rfl) (tw13 (List.mem_of_getElem? (i := 219) rfl) rfl)
set_option maxRecDepth 100000 in
theorem pe14_314_24 (kn : List rM) {m : Nat} (h : (rE0.1 m).cls = "PackHouseModel$Reader") : rpo (rpar kn) rE0 m 314 (24, 295, 1, .null) := po24 h (pm295 kn) (tw13 (List.mem_of_getElem? (i := 221) rfl) rfl) (tw13 (List.mem_of_getElem? (i := 222) rfl) rfl)
set_option maxRecDepth 100000 in
theorem pe14_317_24 (kn : List rM) {m : Nat} (h : (rE0.1 m).cls = "PackHouseModel$Reader") : rpo (rpar kn) rE0 m 317 (24, 296, 1, .null) := po24 h (pm296 kn) (tw13 (List.mem_of_getElem? (i := 224) rfl) rfl) (tw13 (List.mem_of_getElem? (i := 225) rfl) rfl)
set_option maxRecDepth 100000 in
theorem pe14_320_24 (kn : List rM) {m : Nat} (h : (rE0.1 m).cls = "PackHouseModel$Reader") : rpo (rpar kn) rE0 m 320 (24, 294, 1, .null) := po24 h (pm294 kn) (tw13 (List.mem_of_getElem? (i := 227) rfl) rfl) (tw13 (List.mem_of_getElem? (i := 228) rfl) rfl)
set_option maxRecDepth 100000 in
theorem pe14_323_20 (kn : List rM) {m : Nat} (h : (rE0.1 m).cls = "PackHouseModel$Reader") : rpo (rpar kn) rE0 m 323 (20, 299, 2, .ref 14) := po20 h (pm299 kn) (tw13 (List.mem_of_getElem? (i := 230) rfl) rfl) (tw13 (List.mem_of_getElem? (i := 232) rfl) rfl) (pw16 (List.mem_of_getElem? (i := 0) rfl)) rfl rfl
set_option maxRecDepth 100000 in
theorem pe14_326_20 (kn : List rM) {m : Nat} (h : (rE0.1 m).cls = "PackHouseModel$Reader") : rpo (rpar kn) rE0 m 326 (20, 300, 2, .ref 14) := po20 h (pm300 kn) (tw13 (List.mem_of_getElem? (i := 235) rfl) rfl) (tw13 (List.mem_of_getElem? (i := 237) rfl) rfl) (pw16 (List.mem_of_getElem? (i := 1) rfl)) rfl rfl
set_option maxRecDepth 100000 in
theorem pe14_330_20 (kn : List rM) {m : Nat} (h : (rE0.1 m).cls = "PackHouseModel$Reader") : rpo (rpar kn) rE0 m 330 (20, 302, 3, .ref 14) := po20 h (pm302 kn) (tw14 (List.mem_of_getElem? (i := 3) rfl) rfl) (tw14 (List.mem_of_getElem? (i := 5) rfl) rfl) (pw16 (List.mem_of_getElem? (i := 3) rfl)) rfl rfl
set_option maxRecDepth 100000 in
theorem pe14_334_11 (kn : List rM) {m : Nat} (h : (rE0.1 m).cls = "PackHouseModel$Reader") : rpo (rpar kn) rE0 m 334 (11, 0, 0, .long (3)) := po11 h (tw13 (List.mem_of_getElem? (i := 234) rfl) rfl)
set_option maxRecDepth 100000 in
theorem pe14_336_20 (kn : List rM) {m : Nat} (h : (rE0.1 m).cls = "PackHouseModel$Reader") : rpo (rpar kn) rE0 m 336 (20, 301, 1, .ref 14) := po20 h (pm301 kn) (tw13 (List.mem_of_getElem? (i := 239) rfl) rfl) (tw14 (List.mem_of_getElem? (i := 1) rfl) rfl) (pw16 (List.mem_of_getElem? (i := 2) rfl)) rfl rfl
set_option maxRecDepth 100000 in
theorem pl14 (kn : List rM) {m : Nat} (h : (rE0.1 m).cls = "PackHouseModel$Reader") : ∀ q ∈ pool_14, rpo (rpar kn) rE0 m q.1 q.2 := List.forall_mem_cons.mpr ⟨pe14_1_26 kn h, List.forall_mem_cons.mpr ⟨pe14_7_10 kn h, List.forall_mem_cons.mpr ⟨pe14_8_0 kn h, List.forall_mem_cons.mpr ⟨pe14_14_0 kn h, List.forall_mem_cons.mpr ⟨pe14_17_0 kn h, List.forall_mem_cons.mpr ⟨pe14_20_0 kn h, List.forall_mem_cons.mpr ⟨pe14_23_0 kn h, List.forall_mem_cons.mpr ⟨pe14_27_0 kn h, List.forall_mem_cons.mpr ⟨pe14_30_0 kn h, List.forall_mem_cons.mpr ⟨pe14_33_0 kn h, List.forall_mem_cons.mpr ⟨pe14_36_0 kn h, List.forall_mem_cons.mpr ⟨pe14_39_0 kn h, List.forall_mem_cons.mpr ⟨pe14_42_0 kn h, List.forall_mem_cons.mpr ⟨pe14_45_0 kn h, List.forall_mem_cons.mpr ⟨pe14_48_0 kn h, List.forall_mem_cons.mpr ⟨pe14_51_0 kn h, List.forall_mem_cons.mpr ⟨pe14_54_0 kn h, List.forall_mem_cons.mpr ⟨pe14_57_0 kn h, List.forall_mem_cons.mpr ⟨pe14_60_0 kn h, List.forall_mem_cons.mpr ⟨pe14_63_0 kn h, List.forall_mem_cons.mpr ⟨pe14_66_0 kn h, List.forall_mem_cons.mpr ⟨pe14_69_0 kn h, List.forall_mem_cons.mpr ⟨pe14_72_10 kn h, List.forall_mem_cons.mpr ⟨pe14_73_0 kn h, List.forall_mem_cons.mpr ⟨pe14_76_0 kn h, List.forall_mem_cons.mpr ⟨pe14_79_0 kn h, List.forall_mem_cons.mpr ⟨pe14_83_1 kn h, List.forall_mem_cons.mpr ⟨pe14_88_20 kn h, List.forall_mem_cons.mpr ⟨pe14_92_0 kn h, List.forall_mem_cons.mpr ⟨pe14_96_24 kn h, List.forall_mem_cons.mpr ⟨pe14_99_20 kn h, List.forall_mem_cons.mpr ⟨pe14_103_20 kn h, List.forall_mem_cons.mpr ⟨pe14_107_20 kn h, List.forall_mem_cons.mpr ⟨pe14_111_0 kn h, List.forall_mem_cons.mpr ⟨pe14_114_0 kn h, List.forall_mem_cons.mpr ⟨pe14_117_11 kn h, List.forall_mem_cons.mpr ⟨pe14_119_0 kn h, List.forall_mem_cons.mpr ⟨pe14_122_20 kn h, List.forall_mem_cons.mpr ⟨pe14_126_20 kn h, List.forall_mem_cons.mpr ⟨pe14_130_20 kn h, List.forall_mem_cons.mpr ⟨pe14_133_20 kn h, List.forall_mem_cons.mpr ⟨pe14_136_20 kn h, List.forall_mem_cons.mpr ⟨pe14_140_20 kn h, List.forall_mem_cons.mpr ⟨pe14_144_0 kn h, List.forall_mem_cons.mpr ⟨pe14_147_0 kn h, List.forall_mem_cons.mpr ⟨pe14_150_0 kn h, List.forall_mem_cons.mpr ⟨pe14_153_0 kn h, List.forall_mem_cons.mpr ⟨pe14_157_1 kn h, List.forall_mem_cons.mpr ⟨pe14_160_20 kn h, List.forall_mem_cons.mpr ⟨pe14_164_20 kn h, List.forall_mem_cons.mpr ⟨pe14_167_24 kn h, List.forall_mem_cons.mpr ⟨pe14_170_20 kn h, List.forall_mem_cons.mpr ⟨pe14_173_20 kn h, List.forall_mem_cons.mpr ⟨pe14_177_11 kn h, List.forall_mem_cons.mpr ⟨pe14_179_20 kn h, List.forall_mem_cons.mpr ⟨pe14_182_11 kn h, List.forall_mem_cons.mpr ⟨pe14_184_11 kn h, List.forall_mem_cons.mpr ⟨pe14_186_11 kn h, List.forall_mem_cons.mpr ⟨pe14_188_11 kn h, List.forall_mem_cons.mpr ⟨pe14_190_11 kn h, List.forall_mem_cons.mpr ⟨pe14_192_20 kn h, List.forall_mem_cons.mpr ⟨pe14_195_24 kn h, List.forall_mem_cons.mpr ⟨pe14_199_0 kn h, List.forall_mem_cons.mpr ⟨pe14_202_0 kn h, List.forall_mem_cons.mpr ⟨pe14_205_0 kn h, List.forall_mem_cons.mpr ⟨pe14_208_20 kn h, List.forall_mem_cons.mpr ⟨pe14_211_0 kn h, List.forall_mem_cons.mpr ⟨pe14_214_0 kn h, List.forall_mem_cons.mpr ⟨pe14_217_0 kn h, List.forall_mem_cons.mpr ⟨pe14_220_0 kn h, List.forall_mem_cons.mpr ⟨pe14_223_0 kn h, List.forall_mem_cons.mpr ⟨pe14_226_0 kn h, List.forall_mem_cons.mpr ⟨pe14_229_20 kn h, List.forall_mem_cons.mpr ⟨pe14_233_1 kn h, List.forall_mem_cons.mpr ⟨pe14_236_1 kn h, List.forall_mem_cons.mpr ⟨pe14_239_20 kn h, List.forall_mem_cons.mpr ⟨pe14_242_20 kn h, List.forall_mem_cons.mpr ⟨pe14_245_0 kn h, List.forall_mem_cons.mpr ⟨pe14_249_20 kn h, List.forall_mem_cons.mpr ⟨pe14_252_11 kn h, List.forall_mem_cons.mpr ⟨pe14_254_11 kn h, List.forall_mem_cons.mpr ⟨pe14_256_0 kn h, List.forall_mem_cons.mpr ⟨pe14_259_20 kn h, List.forall_mem_cons.mpr ⟨pe14_262_0 kn h, List.forall_mem_cons.mpr ⟨pe14_265_20 kn h, List.forall_mem_cons.mpr ⟨pe14_268_20 kn h, List.forall_mem_cons.mpr ⟨pe14_271_11 kn h, List.forall_mem_cons.mpr ⟨pe14_273_10 kn h, List.forall_mem_cons.mpr ⟨pe14_274_20 kn h, List.forall_mem_cons.mpr ⟨pe14_277_20 kn h, List.forall_mem_cons.mpr ⟨pe14_280_0 kn h, List.forall_mem_cons.mpr ⟨pe14_283_20 kn h, List.forall_mem_cons.mpr ⟨pe14_286_20 kn h, List.forall_mem_cons.mpr ⟨pe14_289_20 kn h, List.forall_mem_cons.mpr ⟨pe14_293_20 kn h, List.forall_mem_cons.mpr ⟨pe14_296_20 kn h, List.forall_mem_cons.mpr ⟨pe14_299_20 kn h, List.forall_mem_cons.mpr ⟨pe14_302_0 kn h, List.forall_mem_cons.mpr ⟨pe14_305_0 kn h, List.forall_mem_cons.mpr ⟨pe14_308_0 kn h, List.forall_mem_cons.mpr ⟨pe14_311_24 kn h, List.forall_mem_cons.mpr ⟨pe14_314_24 kn h, List.forall_mem_cons.mpr ⟨pe14_317_24 kn h, List.forall_mem_cons.mpr ⟨pe14_320_24 kn h, List.forall_mem_cons.mpr ⟨pe14_323_20 kn h, List.forall_mem_cons.mpr ⟨pe14_326_20 kn h, List.forall_mem_cons.mpr ⟨pe14_330_20 kn h, List.forall_mem_cons.mpr ⟨pe14_334_11 kn h, List.forall_mem_cons.mpr ⟨pe14_336_20 kn h, (fun _ h => absurd h List.not_mem_nil)⟩⟩⟩⟩⟩⟩⟩⟩⟩⟩⟩⟩⟩⟩⟩⟩⟩⟩⟩⟩⟩⟩⟩⟩⟩⟩⟩⟩⟩⟩⟩⟩⟩⟩⟩⟩⟩⟩⟩⟩⟩⟩⟩⟩⟩⟩⟩⟩⟩⟩⟩⟩⟩⟩⟩⟩⟩⟩⟩⟩⟩⟩⟩⟩⟩⟩⟩⟩⟩⟩⟩⟩⟩⟩⟩⟩⟩⟩⟩⟩⟩⟩⟩⟩⟩⟩⟩⟩⟩⟩⟩⟩⟩⟩⟩⟩⟩⟩⟩⟩⟩⟩⟩⟩⟩⟩⟩⟩⟩
set_option maxRecDepth 100000 in
theorem pe15_1_26 (kn : List rM) {m : Nat} (h : (rE0.1 m).cls = "PackHouseModel$Sums") : rpo (rpar kn) rE0 m 1 (26, 0, 0, .null) := po26 h (tw8 (List.mem_of_getElem? (i := 37) rfl) rfl)
set_option maxRecDepth 100000 in
theorem pe15_7_0 (kn : List rM) {m : Nat} (h : (rE0.1 m).cls = "PackHouseModel$Sums") : rpo (rpar kn) rE0 m 7 (0, 15, 0, .ref 11) := po0 (C := "PackHouseModel$Sums") (T := FT15) (N := 2) (ty := fy15 0) h rfl (by decide) rfl (tw8 (List.mem_of_getElem? (i := 38) rfl) rfl) (fp15 0 (by decide)) rfl (fun a => absurd a (by decide)) (fun _ _ => ⟨rfl, rfl⟩)
set_option maxRecDepth 100000 in
theorem pe15_13_0 (kn : List rM) {m : Nat} (h : (rE0.1 m).cls = "PackHouseModel$Sums") : rpo (rpar kn) rE0 m 13 (0, 15, 1, .ref 0) := po0 (C := "PackHouseModel$Sums") (T := FT15) (N := 2) (ty := fy15 1) h rfl (by decide) rfl (tw8 (List.mem_of_getElem? (i := 39) rfl) rfl) (fp15 1 (by decide)) rfl (fun _ => rfl) (fun a _ => absurd a (by decide))
set_option maxRecDepth 100000 in
theorem pe15_17_20 (kn : List rM) {m : Nat} (h : (rE0.1 m).cls = "PackHouseModel$Sums") : rpo (rpar kn) rE0 m 17 (20, 305, 1, .ref 15) := po20 h (pm305 kn) (tw10 (List.mem_of_getElem? (i := 144) rfl) rfl) (tw10 (List.mem_of_getElem? (i := 146) rfl) rfl) (pw7 (List.mem_of_getElem? (i := 0) rfl)) rfl rfl
set_option maxRecDepth 100000 in
theorem pe15_21_20 (kn : List rM) {m : Nat} (h : (rE0.1 m).cls = "PackHouseModel$Sums") : rpo (rpar kn) rE0 m 21 (20, 306, 2, .ref 15) := po20 h (pm306 kn) (tw10 (List.mem_of_getElem? (i := 140) rfl) rfl) (tw10 (List.mem_of_getElem? (i := 142) rfl) rfl) (pw6 (List.mem_of_getElem? (i := 15) rfl)) rfl rfl
set_option maxRecDepth 100000 in
theorem pe15_25_10 (kn : List rM) {m : Nat} (h : (rE0.1 m).cls = "PackHouseModel$Sums") : rpo (rpar kn) rE0 m 25 (10, 0, 0, .int (-2048144777)) := po10 h (tw10 (List.mem_of_getElem? (i := 135) rfl) rfl)
set_option maxRecDepth 100000 in
theorem pe15_26_24 (kn : List rM) {m : Nat} (h : (rE0.1 m).cls = "PackHouseModel$Sums") : rpo (rpar kn) rE0 m 26 (24, 307, 2, .null) := po24 h (pm307 kn) (tw10 (List.mem_of_getElem? (i := 148) rfl) rfl) (tw10 (List.mem_of_getElem? (i := 149) rfl) rfl)
set_option maxRecDepth 100000 in
theorem pe15_30_10 (kn : List rM) {m : Nat} (h : (rE0.1 m).cls = "PackHouseModel$Sums") : rpo (rpar kn) rE0 m 30 (10, 0, 0, .int (-1640531535)) := po10 h (tw10 (List.mem_of_getElem? (i := 134) rfl) rfl)
set_option maxRecDepth 100000 in
theorem pe15_31_10 (kn : List rM) {m : Nat} (h : (rE0.1 m).cls = "PackHouseModel$Sums") : rpo (rpar kn) rE0 m 31 (10, 0, 0, .int (374761393)) := po10 h (tw10 (List.mem_of_getElem? (i := 133) rfl) rfl)
set_option maxRecDepth 100000 in
theorem pe15_32_20 (kn : List rM) {m : Nat} (h : (rE0.1 m).cls = "PackHouseModel$Sums") : rpo (rpar kn) rE0 m 32 (20, 308, 4, .ref 15) := po20 h (pm308 kn) (tw10 (List.mem_of_getElem? (i := 136) rfl) rfl) (tw10 (List.mem_of_getElem? (i := 138) rfl) rfl) (pw6 (List.mem_of_getElem? (i := 14) rfl)) rfl rfl
set_option maxRecDepth 100000 in
theorem pe15_36_10 (kn : List rM) {m : Nat} (h : (rE0.1 m).cls = "PackHouseModel$Sums") : rpo (rpar kn) rE0 m 36 (10, 0, 0, .int (-1028477379)) := po10 h (tw10 (List.mem_of_getElem? (i := 151) rfl) rfl)
set_option maxRecDepth 100000 in
theorem pe15_37_10 (kn : List rM) {m : Nat} (h : (rE0.1 m).cls = "PackHouseModel$Sums") : rpo (rpar kn) rE0 m 37 (10, 0, 0, .int (668265263)) := po10 h (tw10 (List.mem_of_getElem? (i := 152) rfl) rfl)
set_option maxRecDepth 100000 in
theorem pe15_38_11 (kn : List rM) {m : Nat} (h : (rE0.1 m).cls = "PackHouseModel$Sums") : rpo (rpar kn) rE0 m 38 (11, 0, 0, .long (-4417276706812531889)) := po11 h (tw10 (List.mem_of_getElem? (i := 166) rfl) rfl)
set_option maxRecDepth 100000 in
theorem pe15_40_24 (kn : List rM) {m : Nat} (h : (rE0.1 m).cls = "PackHouseModel$Sums") : rpo (rpar kn) rE0 m 40 (24, 310, 2, .null) := po24 h (pm310 kn) (tw10 (List.mem_of_getElem? (i := 171) rfl) rfl) (tw10 (List.mem_of_getElem? (i := 172) rfl) rfl)
set_option maxRecDepth 100000 in
theorem pe15_44_11 (kn : List rM) {m : Nat} (h : (rE0.1 m).cls = "PackHouseModel$Sums") : rpo (rpar kn) rE0 m 44 (11, 0, 0, .long (-7046029288634856825)) := po11 h (tw10 (List.mem_of_getElem? (i := 165) rfl) rfl)
set_option maxRecDepth 100000 in
theorem pe15_46_11 (kn : List rM) {m : Nat} (h : (rE0.1 m).cls = "PackHouseModel$Sums") : rpo (rpar kn) rE0 m 46 (11, 0, 0, .long (-8796714831421723037)) := po11 h (tw10 (List.mem_of_getElem? (i := 177) rfl) rfl)
set_option maxRecDepth 100000 in
theorem pe15_48_20 (kn : List rM) {m : Nat} (h : (rE0.1 m).cls = "PackHouseModel$Sums") : rpo (rpar kn) rE0 m 48 (20, 311, 4, .ref 15) := po20 h (pm311 kn) (tw10 (List.mem_of_getElem? (i := 167) rfl) rfl) (tw10 (List.mem_of_getElem? (i := 169) rfl) rfl) (pw7 (List.mem_of_getElem? (i := 3) rfl)) rfl rfl
set_option maxRecDepth 100000 in
theorem pe15_52_24 (kn : List rM) {m : Nat} (h : (rE0.1 m).cls = "PackHouseModel$Sums") : rpo (rpar kn) rE0 m 52 (24, 312, 2, .null) := po24 h (pm312 kn) (tw10 (List.mem_of_getElem? (i := 174) rfl) rfl) (tw10 (List.mem_of_getElem? (i := 175) rfl) rfl)
set_option maxRecDepth 100000 in
theorem pe15_56_20 (kn : List rM) {m : Nat} (h : (rE0.1 m).cls = "PackHouseModel$Sums") : rpo (rpar kn) rE0 m 56 (20, 313, 3, .ref 15) := po20 h (pm313 kn) (tw10 (List.mem_of_getElem? (i := 161) rfl) rfl) (tw10 (List.mem_of_getElem? (i := 163) rfl) rfl) (pw7 (List.mem_of_getElem? (i := 2) rfl)) rfl rfl
set_option maxRecDepth 100000 in
theorem pe15_60_11 (kn : List rM) {m : Nat} (h : (rE0.1 m).cls = "PackHouseModel$Sums") : rpo (rpar kn) rE0 m 60 (11, 0, 0, .long (2870177450012600261)) := po11 h (tw10 (List.mem_of_getElem? (i := 178) rfl) rfl)
set_option maxRecDepth 100000 in
theorem pe15_62_11 (kn : List rM) {m : Nat} (h : (rE0.1 m).cls = "PackHouseModel$Sums") : rpo (rpar kn) rE0 m 62 (11, 0, 0, .long (1609587929392839161)) := po11 h (tw10 (List.mem_of_getElem? (i := 179) rfl) rfl)
set_option maxRecDepth 100000 in
theorem pe15_64_10 (kn : List rM) {m : Nat} (h : (rE0.1 m).cls = "PackHouseModel$Sums") : rpo (rpar kn) rE0 m 64 (10, 0, 0, .int (-2097792136)) := po10 h (tw10 (List.mem_of_getElem? (i := 198) rfl) rfl)
set_option maxRecDepth 100000 in
theorem pe15_65_24 (kn : List rM) {m : Nat} (h : (rE0.1 m).cls = "PackHouseModel$Sums") : rpo (rpar kn) rE0 m 65 (24, 315, 1, .null) := po24 h (pm315 kn) (tw10 (List.mem_of_getElem? (i := 195) rfl) rfl) (tw10 (List.mem_of_getElem? (i := 196) rfl) rfl)
set_option maxRecDepth 100000 in
theorem pe15_68_24 (kn : List rM) {m : Nat} (h : (rE0.1 m).cls = "PackHouseModel$Sums") : rpo (rpar kn) rE0 m 68 (24, 316, 2, .null) := po24 h (pm316 kn) (tw10 (List.mem_of_getElem? (i := 192) rfl) rfl) (tw10 (List.mem_of_getElem? (i := 193) rfl) rfl)
set_option maxRecDepth 100000 in
theorem pe15_71_20 (kn : List rM) {m : Nat} (h : (rE0.1 m).cls = "PackHouseModel$Sums") : rpo (rpar kn) rE0 m 71 (20, 317, 2, .ref 15) := po20 h (pm317 kn) (tw10 (List.mem_of_getElem? (i := 188) rfl) rfl) (tw10 (List.mem_of_getElem? (i := 190) rfl) rfl) (pw7 (List.mem_of_getElem? (i := 4) rfl)) rfl rfl
set_option maxRecDepth 100000 in
theorem pl15 (kn : List rM) {m : Nat} (h : (rE0.1 m).cls = "PackHouseModel$Sums") : ∀ q ∈ pool_15, rpo (rpar kn) rE0 m q.1 q.2 := List.forall_mem_cons.mpr ⟨pe15_1_26 kn h, List.forall_mem_cons.mpr ⟨pe15_7_0 kn h, List.forall_mem_cons.mpr ⟨pe15_13_0 kn h, List.forall_mem_cons.mpr ⟨pe15_17_20 kn h, List.forall_mem_cons.mpr ⟨pe15_21_20 kn h, List.forall_mem_cons.mpr ⟨pe15_25_10 kn h, List.forall_mem_cons.mpr ⟨pe15_26_24 kn h, List.forall_mem_cons.mpr ⟨pe15_30_10 kn h, List.forall_mem_cons.mpr ⟨pe15_31_10 kn h, List.forall_mem_cons.mpr ⟨pe15_32_20 kn h, List.forall_mem_cons.mpr ⟨pe15_36_10 kn h, List.forall_mem_cons.mpr ⟨pe15_37_10 kn h, List.forall_mem_cons.mpr ⟨pe15_38_11 kn h, List.forall_mem_cons.mpr ⟨pe15_40_24 kn h, List.forall_mem_cons.mpr ⟨pe15_44_11 kn h, List.forall_mem_cons.mpr ⟨pe15_46_11 kn h, List.forall_mem_cons.mpr ⟨pe15_48_20 kn h, List.forall_mem_cons.mpr ⟨pe15_52_24 kn h, List.forall_mem_cons.mpr ⟨pe15_56_20 kn h, List.forall_mem_cons.mpr ⟨pe15_60_11 kn h, List.forall_mem_cons.mpr ⟨pe15_62_11 kn h, List.forall_mem_cons.mpr ⟨pe15_64_10 kn h, List.forall_mem_cons.mpr ⟨pe15_65_24 kn h, List.forall_mem_cons.mpr ⟨pe15_68_24 kn h, List.forall_mem_cons.mpr ⟨pe15_71_20 kn h, (fun _ h => absurd h List.not_mem_nil)⟩⟩⟩⟩⟩⟩⟩⟩⟩⟩⟩⟩⟩⟩⟩⟩⟩⟩⟩⟩⟩⟩⟩⟩⟩
set_option maxRecDepth 100000 in
theorem pe16_1_26 (kn : List rM) {m : Nat} (h : (rE0.1 m).cls = "PackHouseModel$Tags") : rpo (rpar kn) rE0 m 1 (26, 0, 0, .null) := po26 h (tw8 (List.mem_of_getElem? (i := 112) rfl) rfl)
set_option maxRecDepth 100000 in
theorem pe16_7_10 (kn : List rM) {m : Nat} (h : (rE0.1 m).cls = "PackHouseModel$Tags") : rpo (rpar kn) rE0 m 7 (10, 0, 0, .int (70000)) := po10 h (tw8 (List.mem_of_getElem? (i := 113) rfl) rfl)
set_option maxRecDepth 100000 in
theorem pe16_8_0 (kn : List rM) {m : Nat} (h : (rE0.1 m).cls = "PackHouseModel$Tags") : rpo (rpar kn) rE0 m 8 (0, 16, 1, .ref 11) := po0 (C := "PackHouseModel$Tags") (T := FT16) (N := 12) (ty := fy16 1) h rfl (by decide) rfl (tw8 (List.mem_of_getElem? (i := 115) rfl) rfl) (fp16 1 (by decide)) rfl (fun a => absurd a (by decide)) (fun _ _ => ⟨rfl, rfl⟩)
set_option maxRecDepth 100000 in
theorem pe16_14_0 (kn : List rM) {m : Nat} (h : (rE0.1 m).cls = "PackHouseModel$Tags") : rpo (rpar kn) rE0 m 14 (0, 16, 3, .ref 11) := po0 (C := "PackHouseModel$Tags") (T := FT16) (N := 12) (ty := fy16 3) h rfl (by decide) rfl (tw8 (List.mem_of_getElem? (i := 117) rfl) rfl) (fp16 3 (by decide)) rfl (fun a => absurd a (by decide)) (fun _ _ => ⟨rfl, rfl⟩)
set_option maxRecDepth 100000 in
theorem pe16_17_0 (kn : List rM) {m : Nat} (h : (rE0.1 m).cls = "PackHouseModel$Tags") : rpo (rpar kn) rE0 m 17 (0, 16, 4, .ref 11) := po0 (C := "PackHouseModel$Tags") (T := FT16) (N := 12) (ty := fy16 4) h rfl (by decide) rfl (tw8 (List.mem_of_getElem? (i := 118) rfl) rfl) (fp16 4 (by decide)) rfl (fun a => absurd a (by decide)) (fun _ _ => ⟨rfl, rfl⟩)
set_option maxRecDepth 100000 in
theorem pe16_20_0 (kn : List rM) {m : Nat} (h : (rE0.1 m).cls = "PackHouseModel$Tags") : rpo (rpar kn) rE0 m 20 (0, 16, 0, .ref 11) := po0 (C := "PackHouseModel$Tags") (T := FT16) (N := 12) (ty := fy16 0) h rfl (by decide) rfl (tw8 (List.mem_of_getElem? (i := 114) rfl) rfl) (fp16 0 (by decide)) rfl (fun a => absurd a (by decide)) (fun _ _ => ⟨rfl, rfl⟩)
set_option maxRecDepth 100000 in
theorem pe16_24_0 (kn : List rM) {m : Nat} (h : (rE0.1 m).cls = "PackHouseModel$Tags") : rpo (rpar kn) rE0 m 24 (0, 16, 2, .ref 0) := po0 (C := "PackHouseModel$Tags") (T := FT16) (N := 12) (ty := fy16 2) h rfl (by decide) rfl (tw8 (List.mem_of_getElem? (i := 116) rfl) rfl) (fp16 2 (by decide)) rfl (fun _ => rfl) (fun a _ => absurd a (by decide))
set_option maxRecDepth 100000 in
theorem pe16_28_20 (kn : List rM) {m : Nat} (h : (rE0.1 m).cls = "PackHouseModel$Tags") : rpo (rpar kn) rE0 m 28 (20, 320, 1, .ref 16) := po20 h (pm320 kn) (tw11 (List.mem_of_getElem? (i := 166) rfl) rfl) (tw11 (List.mem_of_getElem? (i := 168) rfl) rfl) (pw9 (List.mem_of_getElem? (i := 3) rfl)) rfl rfl
set_option maxRecDepth 100000 in
theorem pe16_32_1 (kn : List rM) {m : Nat} (h : (rE0.1 m).cls = "PackHouseModel$Tags") : rpo (rpar kn) rE0 m 32 (1, 13, 2, .ref 19) := po1 (C := "PackHouseModel$Desk") (T := FT13) (N := 5) (ty := fy13 2) h rfl (by decide) rfl (tn8 (List.mem_of_getElem? (i := 8) rfl) rfl) (fp13 2 (by decide)) rfl (fun a => absurd a (by decide)) (fun _ b => absurd b (by decide)) (by decide)
set_option maxRecDepth 100000 in
theorem pe16_37_1 (kn : List rM) {m : Nat} (h : (rE0.1 m).cls = "PackHouseModel$Tags") : rpo (rpar kn) rE0 m 37 (1, 13, 3, .ref 0) := po1 (C := "PackHouseModel$Desk") (T := FT13) (N := 5) (ty := fy13 3) h rfl (by decide) rfl (tn8 (List.mem_of_getElem? (i := 13) rfl) rfl) (fp13 3 (by decide)) rfl (fun _ => rfl) (fun a _ => absurd a (by decide)) (by decide)
set_option maxRecDepth 100000 in
theorem pe16_40_1 (kn : List rM) {m : Nat} (h : (rE0.1 m).cls = "PackHouseModel$Tags") : rpo (rpar kn) rE0 m 40 (1, 13, 0, .ref 19) := po1 (C := "PackHouseModel$Desk") (T := FT13) (N := 5) (ty := fy13 0) h rfl (by decide) rfl (tn7 (List.mem_of_getElem? (i := 239) rfl) rfl) (fp13 0 (by decide)) rfl (fun a => absurd a (by decide)) (fun _ b => absurd b (by decide)) (by decide)
set_option maxRecDepth 100000 in
theorem pe16_43_0 (kn : List rM) {m : Nat} (h : (rE0.1 m).cls = "PackHouseModel$Tags") : rpo (rpar kn) rE0 m 43 (0, 16, 7, .ref 0) := po0 (C := "PackHouseModel$Tags") (T := FT16) (N := 12) (ty := fy16 7) h rfl (by decide) rfl (tw8 (List.mem_of_getElem? (i := 121) rfl) rfl) (fp16 7 (by decide)) rfl (fun _ => rfl) (fun a _ => absurd a (by decide))
set_option maxRecDepth 100000 in
theorem pe16_46_20 (kn : List rM) {m : Nat} (h : (rE0.1 m).cls = "PackHouseModel$Tags") : rpo (rpar kn) rE0 m 46 (20, 323, 3, .ref 16) := po20 h (pm323 kn) (tw11 (List.mem_of_getElem? (i := 178) rfl) rfl) (tw11 (List.mem_of_getElem? (i := 180) rfl) rfl) (pw9 (List.mem_of_getElem? (i := 6) rfl)) rfl rfl
set_option maxRecDepth 100000 in
theorem pe16_50_0 (kn : List rM) {m : Nat} (h : (rE0.1 m).cls = "PackHouseModel$Tags") : rpo (rpar kn) rE0 m 50 (0, 16, 6, .ref 0) := po0 (C := "PackHouseModel$Tags") (T := FT16) (N := 12) (ty := fy16 6) h rfl (by decide) rfl (tw8 (List.mem_of_getElem? (i := 120) rfl) rfl) (fp16 6 (by decide)) rfl (fun _ => rfl) (fun a _ => absurd a (by decide))
set_option maxRecDepth 100000 in
theorem pe16_53_20 (kn : List rM) {m : Nat} (h : (rE0.1 m).cls = "PackHouseModel$Tags") : rpo (rpar kn) rE0 m 53 (20, 324, 4, .ref 16) := po20 h (pm324 kn) (tw11 (List.mem_of_getElem? (i := 174) rfl) rfl) (tw11 (List.mem_of_getElem? (i := 176) rfl) rfl) (pw9 (List.mem_of_getElem? (i := 5) rfl)) rfl rfl
set_option maxRecDepth 100000 in
theorem pe16_57_20 (kn : List rM) {m : Nat} (h : (rE0.1 m).cls = "PackHouseModel$Tags") : rpo (rpar kn) rE0 m 57 (20, 325, 3, .ref 16) := po20 h (pm325 kn) (tw11 (List.mem_of_getElem? (i := 182) rfl) rfl) (tw11 (List.mem_of_getElem? (i := 184) rfl) rfl) (pw9 (List.mem_of_getElem? (i := 7) rfl)) rfl rfl
set_option maxRecDepth 100000 in
theorem pe16_61_24 (kn : List rM) {m : Nat} (h : (rE0.1 m).cls = "PackHouseModel$Tags") : rpo (rpar kn) rE0 m 61 (24, 327, 2, .null) := po24 h (pm327 kn) (tw11 (List.mem_of_getElem? (i := 208) rfl) rfl) (tw11 (List.mem_of_getElem? (i := 209) rfl) rfl)
set_option maxRecDepth 100000 in
theorem pe16_65_20 (kn : List rM) {m : Nat} (h : (rE0.1 m).cls = "PackHouseModel$Tags") : rpo (rpar kn) rE0 m 65 (20, 328, 2, .ref 16) := po20 h (pm328 kn) (tw11 (List.mem_of_getElem? (i := 211) rfl) rfl) (tw11 (List.mem_of_getElem? (i := 213) rfl) rfl) (pw9 (List.mem_of_getElem? (i := 13) rfl)) rfl rfl
set_option maxRecDepth 100000 in
theorem pe16_68_0 (kn : List rM) {m : Nat} (h : (rE0.1 m).cls = "PackHouseModel$Tags") : rpo (rpar kn) rE0 m 68 (0, 16, 5, .ref 0) := po0 (C := "PackHouseModel$Tags") (T := FT16) (N := 12) (ty := fy16 5) h rfl (by decide) rfl (tw8 (List.mem_of_getElem? (i := 119) rfl) rfl) (fp16 5 (by decide)) rfl (fun _ => rfl) (fun a _ => absurd a (by decide))
set_option maxRecDepth 100000 in
theorem pe16_71_10 (kn : List rM) {m : Nat} (h : (rE0.1 m).cls = "PackHouseModel$Tags") : rpo (rpar kn) rE0 m 71 (10, 0, 0, .int (2147483647)) := po10 h (tw11 (List.mem_of_getElem? (i := 203) rfl) rfl)
set_option maxRecDepth 100000 in
theorem pe16_72_20 (kn : List rM) {m : Nat} (h : (rE0.1 m).cls = "PackHouseModel$Tags") : rpo (rpar kn) rE0 m 72 (20, 329, 3, .ref 16) := po20 h (pm329 kn) (tw11 (List.mem_of_getElem? (i := 204) rfl) rfl) (tw11 (List.mem_of_getElem? (i := 206) rfl) rfl) (pw9 (List.mem_of_getElem? (i := 12) rfl)) rfl rfl
set_option maxRecDepth 100000 in
theorem pe16_76_20 (kn : List rM) {m : Nat} (h : (rE0.1 m).cls = "PackHouseModel$Tags") : rpo (rpar kn) rE0 m 76 (20, 330, 1, .ref 16) := po20 h (pm330 kn) (tw11 (List.mem_of_getElem? (i := 199) rfl) rfl) (tw11 (List.mem_of_getElem? (i := 201) rfl) rfl) (pw9 (List.mem_of_getElem? (i := 11) rfl)) rfl rfl
set_option maxRecDepth 100000 in
theorem pe16_79_20 (kn : List rM) {m : Nat} (h : (rE0.1 m).cls = "PackHouseModel$Tags") : rpo (rpar kn) rE0 m 79 (20, 321, 2, .ref 16) := po20 h (pm321 kn) (tw11 (List.mem_of_getElem? (i := 191) rfl) rfl) (tw11 (List.mem_of_getElem? (i := 193) rfl) rfl) (pw9 (List.mem_of_getElem? (i := 9) rfl)) rfl rfl
set_option maxRecDepth 100000 in
theorem pe16_83_10 (kn : List rM) {m : Nat} (h : (rE0.1 m).cls = "PackHouseModel$Tags") : rpo (rpar kn) rE0 m 83 (10, 0, 0, .int (65536)) := po10 h (tw11 (List.mem_of_getElem? (i := 190) rfl) rfl)
set_option maxRecDepth 100000 in
theorem pe16_84_20 (kn : List rM) {m : Nat} (h : (rE0.1 m).cls = "PackHouseModel$Tags") : rpo (rpar kn) rE0 m 84 (20, 326, 4, .ref 16) := po20 h (pm326 kn) (tw11 (List.mem_of_getElem? (i := 170) rfl) rfl) (tw11 (List.mem_of_getElem? (i := 172) rfl) rfl) (pw9 (List.mem_of_getElem? (i := 4) rfl)) rfl rfl
set_option maxRecDepth 100000 in
theorem pe16_87_20 (kn : List rM) {m : Nat} (h : (rE0.1 m).cls = "PackHouseModel$Tags") : rpo (rpar kn) rE0 m 87 (20, 332, 2, .ref 16) := po20 h (pm332 kn) (tw11 (List.mem_of_getElem? (i := 186) rfl) rfl) (tw11 (List.mem_of_getElem? (i := 188) rfl) rfl) (pw9 (List.mem_of_getElem? (i := 8) rfl)) rfl rfl
set_option maxRecDepth 100000 in
theorem pe16_90_20 (kn : List rM) {m : Nat} (h : (rE0.1 m).cls = "PackHouseModel$Tags") : rpo (rpar kn) rE0 m 90 (20, 331, 2, .ref 16) := po20 h (pm331 kn) (tw11 (List.mem_of_getElem? (i := 195) rfl) rfl) (tw11 (List.mem_of_getElem? (i := 197) rfl) rfl) (pw9 (List.mem_of_getElem? (i := 10) rfl)) rfl rfl
set_option maxRecDepth 100000 in
theorem pe16_93_1 (kn : List rM) {m : Nat} (h : (rE0.1 m).cls = "PackHouseModel$Tags") : rpo (rpar kn) rE0 m 93 (1, 13, 1, .ref 0) := po1 (C := "PackHouseModel$Desk") (T := FT13) (N := 5) (ty := fy13 1) h rfl (by decide) rfl (tn8 (List.mem_of_getElem? (i := 3) rfl) rfl) (fp13 1 (by decide)) rfl (fun _ => rfl) (fun a _ => absurd a (by decide)) (by decide)
set_option maxRecDepth 100000 in
theorem pe16_96_20 (kn : List rM) {m : Nat} (h : (rE0.1 m).cls = "PackHouseModel$Tags") : rpo (rpar kn) rE0 m 96 (20, 333, 3, .ref 16) := po20 h (pm333 kn) (tw11 (List.mem_of_getElem? (i := 162) rfl) rfl) (tw11 (List.mem_of_getElem? (i := 164) rfl) rfl) (pw9 (List.mem_of_getElem? (i := 2) rfl)) rfl rfl
set_option maxRecDepth 100000 in
theorem pe16_99_20 (kn : List rM) {m : Nat} (h : (rE0.1 m).cls = "PackHouseModel$Tags") : rpo (rpar kn) rE0 m 99 (20, 322, 0, .ref 16) := po20 h (pm322 kn) (tw11 (List.mem_of_getElem? (i := 215) rfl) rfl) (tw11 (List.mem_of_getElem? (i := 217) rfl) rfl) (pw9 (List.mem_of_getElem? (i := 14) rfl)) rfl rfl
set_option maxRecDepth 100000 in
theorem pe16_103_0 (kn : List rM) {m : Nat} (h : (rE0.1 m).cls = "PackHouseModel$Tags") : rpo (rpar kn) rE0 m 103 (0, 16, 10, .ref 0) := po0 (C := "PackHouseModel$Tags") (T := FT16) (N := 12) (ty := fy16 10) h rfl (by decide) rfl (tw8 (List.mem_of_getElem? (i := 124) rfl) rfl) (fp16 10 (by decide)) rfl (fun _ => rfl) (fun a _ => absurd a (by decide))
set_option maxRecDepth 100000 in
theorem pe16_106_0 (kn : List rM) {m : Nat} (h : (rE0.1 m).cls = "PackHouseModel$Tags") : rpo (rpar kn) rE0 m 106 (0, 16, 11, .ref 0) := po0 (C := "PackHouseModel$Tags") (T := FT16) (N := 12) (ty := fy16 11) h rfl (by decide) rfl (tw8 (List.mem_of_getElem? (i := 125) rfl) rfl) (fp16 11 (by decide)) rfl (fun _ => rfl) (fun a _ => absurd a (by decide))
set_option maxRecDepth 100000 in
theorem pe16_109_11 (kn : List rM) {m : Nat} (h : (rE0.1 m).cls = "PackHouseModel$Tags") : rpo (rpar kn) rE0 m 109 (11, 0, 0, .long (-1)) := po11 h (tw13 (List.mem_of_getElem? (i := 106) rfl) rfl)
set_option maxRecDepth 100000 in
theorem pe16_111_0 (kn : List rM) {m : Nat} (h : (rE0.1 m).cls = "PackHouseModel$Tags") : rpo (rpar kn) rE0 m 111 (0, 16, 8, .ref 0) := po0 (C := "PackHouseModel$Tags") (T := FT16) (N := 12) (ty := fy16 8) h rfl (by decide) rfl (tw8 (List.mem_of_getElem? (i := 122) rfl) rfl) (fp16 8 (by decide)) rfl (fun _ => rfl) (fun a _ => absurd a (by decide))
set_option maxRecDepth 100000 in
theorem pe16_114_0 (kn : List rM) {m : Nat} (h : (rE0.1 m).cls = "PackHouseModel$Tags") : rpo (rpar kn) rE0 m 114 (0, 16, 9, .ref 0) := po0 (C := "PackHouseModel$Tags") (T := FT16) (N := 12) (ty := fy16 9) h rfl (by decide) rfl (tw8 (List.mem_of_getElem? (i := 123) rfl) rfl) (fp16 9 (by decide)) rfl (fun _ => rfl) (fun a _ => absurd a (by decide))
set_option maxRecDepth 100000 in
theorem pe16_117_20 (kn : List rM) {m : Nat} (h : (rE0.1 m).cls = "PackHouseModel$Tags") : rpo (rpar kn) rE0 m 117 (20, 335, 2, .ref 16) := po20 h (pm335 kn) (tw13 (List.mem_of_getElem? (i := 107) rfl) rfl) (tw13 (List.mem_of_getElem? (i := 109) rfl) rfl) (pw14 (List.mem_of_getElem? (i := 9) rfl)) rfl rfl
set_option maxRecDepth 100000 in
theorem pe16_121_11 (kn : List rM) {m : Nat} (h : (rE0.1 m).cls = "PackHouseModel$Tags") : rpo (rpar kn) rE0 m 121 (11, 0, 0, .long (255)) := po11 h (tw13 (List.mem_of_getElem? (i := 111) rfl) rfl)
set_option maxRecDepth 100000 in
theorem pe16_123_20 (kn : List rM) {m : Nat} (h : (rE0.1 m).cls = "PackHouseModel$Tags") : rpo (rpar kn) rE0 m 123 (20, 336, 1, .ref 16) := po20 h (pm336 kn) (tw13 (List.mem_of_getElem? (i := 102) rfl) rfl) (tw13 (List.mem_of_getElem? (i := 104) rfl) rfl) (pw14 (List.mem_of_getElem? (i := 8) rfl)) rfl rfl
set_option maxRecDepth 100000 in
theorem pe16_127_11 (kn : List rM) {m : Nat} (h : (rE0.1 m).cls = "PackHouseModel$Tags") : rpo (rpar kn) rE0 m 127 (11, 0, 0, .long (15)) := po11 h (tw13 (List.mem_of_getElem? (i := 112) rfl) rfl)
set_option maxRecDepth 100000 in
theorem pe16_129_11 (kn : List rM) {m : Nat} (h : (rE0.1 m).cls = "PackHouseModel$Tags") : rpo (rpar kn) rE0 m 129 (11, 0, 0, .long (127)) := po11 h (tw13 (List.mem_of_getElem? (i := 113) rfl) rfl)
set_option maxRecDepth 100000 in
theorem pe16_131_11 (kn : List rM) {m : Nat} (h : (rE0.1 m).cls = "PackHouseModel$Tags") : rpo (rpar kn) rE0 m 131 (11, 0, 0, .long (128)) := po11 h (tw13 (List.mem_of_getElem? (i := 114) rfl) rfl)
set_option maxRecDepth 100000 in
theorem pe16_133_11 (kn : List rM) {m : Nat} (h : (rE0.1 m).cls = "PackHouseModel$Tags") : rpo (rpar kn) rE0 m 133 (11, 0, 0, .long (256)) := po11 h (tw13 (List.mem_of_getElem? (i := 123) rfl) rfl)
set_option maxRecDepth 100000 in
theorem pe16_135_20 (kn : List rM) {m : Nat} (h : (rE0.1 m).cls = "PackHouseModel$Tags") : rpo (rpar kn) rE0 m 135 (20, 338, 5, .ref 16) := po20 h (pm338 kn) (tw13 (List.mem_of_getElem? (i := 124) rfl) rfl) (tw13 (List.mem_of_getElem? (i := 126) rfl) rfl) (pw14 (List.mem_of_getElem? (i := 12) rfl)) rfl rfl
set_option maxRecDepth 100000 in
theorem pe16_139_20 (kn : List rM) {m : Nat} (h : (rE0.1 m).cls = "PackHouseModel$Tags") : rpo (rpar kn) rE0 m 139 (20, 337, 1, .ref 16) := po20 h (pm337 kn) (tw13 (List.mem_of_getElem? (i := 98) rfl) rfl) (tw13 (List.mem_of_getElem? (i := 100) rfl) rfl) (pw14 (List.mem_of_getElem? (i := 7) rfl)) rfl rfl
set_option maxRecDepth 100000 in
theorem pe16_142_20 (kn : List rM) {m : Nat} (h : (rE0.1 m).cls = "PackHouseModel$Tags") : rpo (rpar kn) rE0 m 142 (20, 339, 4, .ref 16) := po20 h (pm339 kn) (tw13 (List.mem_of_getElem? (i := 115) rfl) rfl) (tw13 (List.mem_of_getElem? (i := 117) rfl) rfl) (pw14 (List.mem_of_getElem? (i := 10) rfl)) rfl rfl
set_option maxRecDepth 100000 in
theorem pe16_146_20 (kn : List rM) {m : Nat} (h : (rE0.1 m).cls = "PackHouseModel$Tags") : rpo (rpar kn) rE0 m 146 (20, 340, 5, .ref 16) := po20 h (pm340 kn) (tw13 (List.mem_of_getElem? (i := 119) rfl) rfl) (tw13 (List.mem_of_getElem? (i := 121) rfl) rfl) (pw14 (List.mem_of_getElem? (i := 11) rfl)) rfl rfl
set_option maxRecDepth 100000 in
theorem pe16_150_1 (kn : List rM) {m : Nat} (h : (rE0.1 m).cls = "PackHouseModel$Tags") : rpo (rpar kn) rE0 m 150 (1, 13, 4, .ref 0) := po1 (C := "PackHouseModel$Desk") (T := FT13) (N := 5) (ty := fy13 4) h rfl (by decide) rfl (tn8 (List.mem_of_getElem? (i := 19) rfl) rfl) (fp13 4 (by decide)) rfl (fun _ => rfl) (fun a _ => absurd a (by decide)) (by decide)
set_option maxRecDepth 100000 in
theorem pe16_153_20 (kn : List rM) {m : Nat} (h : (rE0.1 m).cls = "PackHouseModel$Tags") : rpo (rpar kn) rE0 m 153 (20, 342, 0, .ref 16) := po20 h (pm342 kn) (tw13 (List.mem_of_getElem? (i := 90) rfl) rfl) (tw13 (List.mem_of_getElem? (i := 92) rfl) rfl) (pw14 (List.mem_of_getElem? (i := 5) rfl)) rfl rfl
set_option maxRecDepth 100000 in
theorem pe16_156_20 (kn : List rM) {m : Nat} (h : (rE0.1 m).cls = "PackHouseModel$Tags") : rpo (rpar kn) rE0 m 156 (20, 341, 1, .ref 16) := po20 h (pm341 kn) (tw13 (List.mem_of_getElem? (i := 94) rfl) rfl) (tw13 (List.mem_of_getElem? (i := 96) rfl) rfl) (pw14 (List.mem_of_getElem? (i := 6) rfl)) rfl rfl
set_option maxRecDepth 100000 in
theorem pe16_159_20 (kn : List rM) {m : Nat} (h : (rE0.1 m).cls = "PackHouseModel$Tags") : rpo (rpar kn) rE0 m 159 (20, 343, 0, .ref 16) := po20 h (pm343 kn) (tw13 (List.mem_of_getElem? (i := 128) rfl) rfl) (tw13 (List.mem_of_getElem? (i := 130) rfl) rfl) (pw14 (List.mem_of_getElem? (i := 13) rfl)) rfl rfl
set_option maxRecDepth 100000 in
theorem pe16_162_10 (kn : List rM) {m : Nat} (h : (rE0.1 m).cls = "PackHouseModel$Tags") : rpo (rpar kn) rE0 m 162 (10, 0, 0, .int (-2097792136)) := po10 h (tw11 (List.mem_of_getElem? (i := 233) rfl) rfl)
set_option maxRecDepth 100000 in
theorem pe16_163_10 (kn : List rM) {m : Nat} (h : (rE0.1 m).cls = "PackHouseModel$Tags") : rpo (rpar kn) rE0 m 163 (10, 0, 0, .int (-1568478504)) := po10 h (tw11 (List.mem_of_getElem? (i := 234) rfl) rfl)
set_option maxRecDepth 100000 in
theorem pe16_164_24 (kn : List rM) {m : Nat} (h : (rE0.1 m).cls = "PackHouseModel$Tags") : rpo (rpar kn) rE0 m 164 (24, 345, 3, .null) := po24 h (pm345 kn) (tw11 (List.mem_of_getElem? (i := 230) rfl) rfl) (tw11 (List.mem_of_getElem? (i := 231) rfl) rfl)
set_option maxRecDepth 100000 in
theorem pe16_168_24 (kn : List rM) {m : Nat} (h : (rE0.1 m).cls = "PackHouseModel$Tags") : rpo (rpar kn) rE0 m 168 (24, 346, 1, .null) := po24 h (pm346 kn) (tw11 (List.mem_of_getElem? (i := 223) rfl) rfl) (tw11 (List.mem_of_getElem? (i := 224) rfl) rfl)
set_option maxRecDepth 100000 in
theorem pe16_172_20 (kn : List rM) {m : Nat} (h : (rE0.1 m).cls = "PackHouseModel$Tags") : rpo (rpar kn) rE0 m 172 (20, 347, 3, .ref 16) := po20 h (pm347 kn) (tw11 (List.mem_of_getElem? (i := 226) rfl) rfl) (tw11 (List.mem_of_getElem? (i := 228) rfl) rfl) (pw9 (List.mem_of_getElem? (i := 15) rfl)) rfl rfl
set_option maxRecDepth 100000 in
theorem pe16_175_20 (kn : List rM) {m : Nat} (h : (rE0.1 m).cls = "PackHouseModel$Tags") : rpo (rpar kn) rE0 m 175 (20, 349, 1, .ref 16) := po20 h (pm349 kn) (tw13 (List.mem_of_getElem? (i := 136) rfl) rfl) (tw13 (List.mem_of_getElem? (i := 138) rfl) rfl) (pw14 (List.mem_of_getElem? (i := 14) rfl)) rfl rfl
set_option maxRecDepth 100000 in
theorem pe16_178_10 (kn : List rM) {m : Nat} (h : (rE0.1 m).cls = "PackHouseModel$Tags") : rpo (rpar kn) rE0 m 178 (10, 0, 0, .int (65540)) := po10 h (tw13 (List.mem_of_getElem? (i := 144) rfl) rfl)
set_option maxRecDepth 100000 in
theorem pe16_179_20 (kn : List rM) {m : Nat} (h : (rE0.1 m).cls = "PackHouseModel$Tags") : rpo (rpar kn) rE0 m 179 (20, 350, 2, .ref 16) := po20 h (pm350 kn) (tw13 (List.mem_of_getElem? (i := 140) rfl) rfl) (tw13 (List.mem_of_getElem? (i := 142) rfl) rfl) (pw14 (List.mem_of_getElem? (i := 15) rfl)) rfl rfl
set_option maxRecDepth 100000 in
theorem pe16_182_20 (kn : List rM) {m : Nat} (h : (rE0.1 m).cls = "PackHouseModel$Tags") : rpo (rpar kn) rE0 m 182 (20, 351, 3, .ref 16) := po20 h (pm351 kn) (tw13 (List.mem_of_getElem? (i := 145) rfl) rfl) (tw13 (List.mem_of_getElem? (i := 147) rfl) rfl) (pw15 (List.mem_of_getElem? (i := 0) rfl)) rfl rfl
set_option maxRecDepth 100000 in
theorem pl16 (kn : List rM) {m : Nat} (h : (rE0.1 m).cls = "PackHouseModel$Tags") : ∀ q ∈ pool_16, rpo (rpar kn) rE0 m q.1 q.2 := List.forall_mem_cons.mpr ⟨pe16_1_26 kn h, List.forall_mem_cons.mpr ⟨pe16_7_10 kn h, List.forall_mem_cons.mpr ⟨pe16_8_0 kn h, List.forall_mem_cons.mpr ⟨pe16_14_0 kn h, List.forall_mem_cons.mpr ⟨pe16_17_0 kn h, List.forall_mem_cons.mpr ⟨pe16_20_0 kn h, List.forall_mem_cons.mpr ⟨pe16_24_0 kn h, List.forall_mem_cons.mpr ⟨pe16_28_20 kn h, List.forall_mem_cons.mpr ⟨pe16_32_1 kn h, List.forall_mem_cons.mpr ⟨pe16_37_1 kn h, List.forall_mem_cons.mpr ⟨pe16_40_1 kn h, List.forall_mem_cons.mpr ⟨pe16_43_0 kn h, List.forall_mem_cons.mpr ⟨pe16_46_20 kn h, List.forall_mem_cons.mpr ⟨pe16_50_0 kn h, List.forall_mem_cons.mpr ⟨pe16_53_20 kn h, List.forall_mem_cons.mpr ⟨pe16_57_20 kn h, List.forall_mem_cons.mpr ⟨pe16_61_24 kn h, List.forall_mem_cons.mpr ⟨pe16_65_20 kn h, List.forall_mem_cons.mpr ⟨pe16_68_0 kn h, List.forall_mem_cons.mpr ⟨pe16_71_10 kn h, List.forall_mem_cons.mpr ⟨pe16_72_20 kn h, List.forall_mem_cons.mpr ⟨pe16_76_20 kn h, List.forall_mem_cons.mpr ⟨pe16_79_20 kn h, List.forall_mem_cons.mpr ⟨pe16_83_10 kn h, List.forall_mem_cons.mpr ⟨pe16_84_20 kn h, List.forall_mem_cons.mpr ⟨pe16_87_20 kn h, List.forall_mem_cons.mpr ⟨pe16_90_20 kn h, List.forall_mem_cons.mpr ⟨pe16_93_1 kn h, List.forall_mem_cons.mpr ⟨pe16_96_20 kn h, List.forall_mem_cons.mpr ⟨pe16_99_20 kn h, List.forall_mem_cons.mpr ⟨pe16_103_0 kn h, List.forall_mem_cons.mpr ⟨pe16_106_0 kn h, List.forall_mem_cons.mpr ⟨pe16_109_11 kn h, List.forall_mem_cons.mpr ⟨pe16_111_0 kn h, List.forall_mem_cons.mpr ⟨pe16_114_0 kn h, List.forall_mem_cons.mpr ⟨pe16_117_20 kn h, List.forall_mem_cons.mpr ⟨pe16_121_11 kn h, List.forall_mem_cons.mpr ⟨pe16_123_20 kn h, List.forall_mem_cons.mpr ⟨pe16_127_11 kn h, List.forall_mem_cons.mpr ⟨pe16_129_11 kn h, List.forall_mem_cons.mpr ⟨pe16_131_11 kn h, List.forall_mem_cons.mpr ⟨pe16_133_11 kn h, List.forall_mem_cons.mpr ⟨pe16_135_20 kn h, List.forall_mem_cons.mpr ⟨pe16_139_20 kn h, List.forall_mem_cons.mpr ⟨pe16_142_20 kn h, List.forall_mem_cons.mpr ⟨pe16_146_20 kn h, List.forall_mem_cons.mpr ⟨pe16_150_1 kn h, List.forall_mem_cons.mpr ⟨pe16_153_20 kn h, List.forall_mem_cons.mpr ⟨pe16_156_20 kn h, List.forall_mem_cons.mpr ⟨pe16_159_20 kn h, List.forall_mem_cons.mpr ⟨pe16_162_10 kn h, List.forall_mem_cons.mpr ⟨pe16_163_10 kn h, List.forall_mem_cons.mpr ⟨pe16_164_24 kn h, List.forall_mem_cons.mpr ⟨pe16_168_24 kn h, List.forall_mem_cons.mpr ⟨pe16_172_20 kn h, List.forall_mem_cons.mpr ⟨pe16_175_20 kn h, List.forall_mem_cons.mpr ⟨pe16_178_10 kn h, List.forall_mem_cons.mpr ⟨pe16_179_20 kn h, List.forall_mem_cons.mpr ⟨pe16_182_20 kn h, (fun _ h => absurd h List.not_mem_nil)⟩⟩⟩⟩⟩⟩⟩⟩⟩⟩⟩⟩⟩⟩⟩⟩⟩⟩⟩⟩⟩⟩⟩⟩⟩⟩⟩⟩⟩⟩⟩⟩⟩⟩⟩⟩⟩⟩⟩⟩⟩⟩⟩⟩⟩⟩⟩⟩⟩⟩⟩⟩⟩⟩⟩⟩⟩⟩⟩
set_option maxRecDepth 100000 in
theorem pe17_1_26 (kn : List rM) {m : Nat} (h : (rE0.1 m).cls = "PackHouseModel$Tokens") : rpo (rpar kn) rE0 m 1 (26, 0, 0, .null) := po26 h (tw8 (List.mem_of_getElem? (i := 50) rfl) rfl)
set_option maxRecDepth 100000 in
theorem pe17_7_10 (kn : List rM) {m : Nat} (h : (rE0.1 m).cls = "PackHouseModel$Tokens") : rpo (rpar kn) rE0 m 7 (10, 0, 0, .int (65536)) := po10 h (tw8 (List.mem_of_getElem? (i := 51) rfl) rfl)
set_option maxRecDepth 100000 in
theorem pe17_8_0 (kn : List rM) {m : Nat} (h : (rE0.1 m).cls = "PackHouseModel$Tokens") : rpo (rpar kn) rE0 m 8 (0, 17, 1, .ref 11) := po0 (C := "PackHouseModel$Tokens") (T := FT17) (N := 17) (ty := fy17 1) h rfl (by decide) rfl (tw8 (List.mem_of_getElem? (i := 55) rfl) rfl) (fp17 1 (by decide)) rfl (fun a => absurd a (by decide)) (fun _ _ => ⟨rfl, rfl⟩)
set_option maxRecDepth 100000 in
theorem pe17_14_0 (kn : List rM) {m : Nat} (h : (rE0.1 m).cls = "PackHouseModel$Tokens") : rpo (rpar kn) rE0 m 14 (0, 17, 3, .ref 11) := po0 (C := "PackHouseModel$Tokens") (T := FT17) (N := 17) (ty := fy17 3) h rfl (by decide) rfl (tw8 (List.mem_of_getElem? (i := 58) rfl) rfl) (fp17 3 (by decide)) rfl (fun a => absurd a (by decide)) (fun _ _ => ⟨rfl, rfl⟩)
set_option maxRecDepth 100000 in
theorem pe17_18_0 (kn : List rM) {m : Nat} (h : (rE0.1 m).cls = "PackHouseModel$Tokens") : rpo (rpar kn) rE0 m 18 (0, 17, 4, .ref 11) := po0 (C := "PackHouseModel$Tokens") (T := FT17) (N := 17) (ty := fy17 4) h rfl (by decide) rfl (tw8 (List.mem_of_getElem? (i := 59) rfl) rfl) (fp17 4 (by decide)) rfl (fun a => absurd a (by decide)) (fun _ _ => ⟨rfl, rfl⟩)
set_option maxRecDepth 100000 in
theorem pe17_21_10 (kn : List rM) {m : Nat} (h : (rE0.1 m).cls = "PackHouseModel$Tokens") : rpo (rpar kn) rE0 m 21 (10, 0, 0, .int (70000)) := po10 h (tw8 (List.mem_of_getElem? (i := 52) rfl) rfl)
set_option maxRecDepth 100000 in
theorem pe17_22_0 (kn : List rM) {m : Nat} (h : (rE0.1 m).cls = "PackHouseModel$Tokens") : rpo (rpar kn) rE0 m 22 (0, 17, 7, .ref 11) := po0 (C := "PackHouseModel$Tokens") (T := FT17) (N := 17) (ty := fy17 7) h rfl (by decide) rfl (tw8 (List.mem_of_getElem? (i := 62) rfl) rfl) (fp17 7 (by decide)) rfl (fun a => absurd a (by decide)) (fun _ _ => ⟨rfl, rfl⟩)
set_option maxRecDepth 100000 in
theorem pe17_25_0 (kn : List rM) {m : Nat} (h : (rE0.1 m).cls = "PackHouseModel$Tokens") : rpo (rpar kn) rE0 m 25 (0, 17, 9, .ref 11) := po0 (C := "PackHouseModel$Tokens") (T := FT17) (N := 17) (ty := fy17 9) h rfl (by decide) rfl (tw8 (List.mem_of_getElem? (i := 64) rfl) rfl) (fp17 9 (by decide)) rfl (fun a => absurd a (by decide)) (fun _ _ => ⟨rfl, rfl⟩)
set_option maxRecDepth 100000 in
theorem pe17_28_10 (kn : List rM) {m : Nat} (h : (rE0.1 m).cls = "PackHouseModel$Tokens") : rpo (rpar kn) rE0 m 28 (10, 0, 0, .int (131072)) := po10 h (tw8 (List.mem_of_getElem? (i := 53) rfl) rfl)
set_option maxRecDepth 100000 in
theorem pe17_29_0 (kn : List rM) {m : Nat} (h : (rE0.1 m).cls = "PackHouseModel$Tokens") : rpo (rpar kn) rE0 m 29 (0, 17, 11, .ref 11) := po0 (C := "PackHouseModel$Tokens") (T := FT17) (N := 17) (ty := fy17 11) h rfl (by decide) rfl (tw8 (List.mem_of_getElem? (i := 66) rfl) rfl) (fp17 11 (by decide)) rfl (fun a => absurd a (by decide)) (fun _ _ => ⟨rfl, rfl⟩)
set_option maxRecDepth 100000 in
theorem pe17_32_0 (kn : List rM) {m : Nat} (h : (rE0.1 m).cls = "PackHouseModel$Tokens") : rpo (rpar kn) rE0 m 32 (0, 17, 13, .ref 11) := po0 (C := "PackHouseModel$Tokens") (T := FT17) (N := 17) (ty := fy17 13) h rfl (by decide) rfl (tw8 (List.mem_of_getElem? (i := 68) rfl) rfl) (fp17 13 (by decide)) rfl (fun a => absurd a (by decide)) (fun _ _ => ⟨rfl, rfl⟩)
set_option maxRecDepth 100000 in
theorem pe17_35_0 (kn : List rM) {m : Nat} (h : (rE0.1 m).cls = "PackHouseModel$Tokens") : rpo (rpar kn) rE0 m 35 (0, 17, 0, .ref 11) := po0 (C := "PackHouseModel$Tokens") (T := FT17) (N := 17) (ty := fy17 0) h rfl (by decide) rfl (tw8 (List.mem_of_getElem? (i := 54) rfl) rfl) (fp17 0 (by decide)) rfl (fun a => absurd a (by decide)) (fun _ _ => ⟨rfl, rfl⟩)
set_option maxRecDepth 100000 in
theorem pe17_39_1 (kn : List rM) {m : Nat} (h : (rE0.1 m).cls = "PackHouseModel$Tokens") : rpo (rpar kn) rE0 m 39 (1, 13, 1, .ref 0) := po1 (C := "PackHouseModel$Desk") (T := FT13) (N := 5) (ty := fy13 1) h rfl (by decide) rfl (tn8 (List.mem_of_getElem? (i := 2) rfl) rfl) (fp13 1 (by decide)) rfl (fun _ => rfl) (fun a _ => absurd a (by decide)) (by decide)
set_option maxRecDepth 100000 in
theorem pe17_45_1 (kn : List rM) {m : Nat} (h : (rE0.1 m).cls = "PackHouseModel$Tokens") : rpo (rpar kn) rE0 m 45 (1, 13, 0, .ref 19) := po1 (C := "PackHouseModel$Desk") (T := FT13) (N := 5) (ty := fy13 0) h rfl (by decide) rfl (tn7 (List.mem_of_getElem? (i := 238) rfl) rfl) (fp13 0 (by decide)) rfl (fun a => absurd a (by decide)) (fun _ b => absurd b (by decide)) (by decide)
set_option maxRecDepth 100000 in
theorem pe17_48_0 (kn : List rM) {m : Nat} (h : (rE0.1 m).cls = "PackHouseModel$Tokens") : rpo (rpar kn) rE0 m 48 (0, 17, 2, .ref 0) := po0 (C := "PackHouseModel$Tokens") (T := FT17) (N := 17) (ty := fy17 2) h rfl (by decide) rfl (tw8 (List.mem_of_getElem? (i := 56) rfl) rfl) (fp17 2 (by decide)) rfl (fun _ => rfl) (fun a _ => absurd a (by decide))
set_option maxRecDepth 100000 in
theorem pe17_51_11 (kn : List rM) {m : Nat} (h : (rE0.1 m).cls = "PackHouseModel$Tokens") : rpo (rpar kn) rE0 m 51 (11, 0, 0, .long (4294967295)) := po11 h (tw11 (List.mem_of_getElem? (i := 138) rfl) rfl)
set_option maxRecDepth 100000 in
theorem pe17_53_11 (kn : List rM) {m : Nat} (h : (rE0.1 m).cls = "PackHouseModel$Tokens") : rpo (rpar kn) rE0 m 53 (11, 0, 0, .long (2654435761)) := po11 h (tw11 (List.mem_of_getElem? (i := 143) rfl) rfl)
set_option maxRecDepth 100000 in
theorem pe17_55_11 (kn : List rM) {m : Nat} (h : (rE0.1 m).cls = "PackHouseModel$Tokens") : rpo (rpar kn) rE0 m 55 (11, 0, 0, .long (2246822519)) := po11 h (tw11 (List.mem_of_getElem? (i := 144) rfl) rfl)
set_option maxRecDepth 100000 in
theorem pe17_57_11 (kn : List rM) {m : Nat} (h : (rE0.1 m).cls = "PackHouseModel$Tokens") : rpo (rpar kn) rE0 m 57 (11, 0, 0, .long (3266489917)) := po11 h (tw11 (List.mem_of_getElem? (i := 145) rfl) rfl)
set_option maxRecDepth 100000 in
theorem pe17_59_11 (kn : List rM) {m : Nat} (h : (rE0.1 m).cls = "PackHouseModel$Tokens") : rpo (rpar kn) rE0 m 59 (11, 0, 0, .long (668265263)) := po11 h (tw11 (List.mem_of_getElem? (i := 146) rfl) rfl)
set_option maxRecDepth 100000 in
theorem pe17_61_11 (kn : List rM) {m : Nat} (h : (rE0.1 m).cls = "PackHouseModel$Tokens") : rpo (rpar kn) rE0 m 61 (11, 0, 0, .long (374761393)) := po11 h (tw11 (List.mem_of_getElem? (i := 147) rfl) rfl)
set_option maxRecDepth 100000 in
theorem pe17_63_24 (kn : List rM) {m : Nat} (h : (rE0.1 m).cls = "PackHouseModel$Tokens") : rpo (rpar kn) rE0 m 63 (24, 358, 2, .null) := po24 h (pm358 kn) (tw11 (List.mem_of_getElem? (i := 148) rfl) rfl) (tw11 (List.mem_of_getElem? (i := 149) rfl) rfl)
set_option maxRecDepth 100000 in
theorem pe17_67_24 (kn : List rM) {m : Nat} (h : (rE0.1 m).cls = "PackHouseModel$Tokens") : rpo (rpar kn) rE0 m 67 (24, 357, 2, .null) := po24 h (pm357 kn) (tw11 (List.mem_of_getElem? (i := 151) rfl) rfl) (tw11 (List.mem_of_getElem? (i := 152) rfl) rfl)
set_option maxRecDepth 100000 in
theorem pe17_71_24 (kn : List rM) {m : Nat} (h : (rE0.1 m).cls = "PackHouseModel$Tokens") : rpo (rpar kn) rE0 m 71 (24, 356, 2, .null) := po24 h (pm356 kn) (tw11 (List.mem_of_getElem? (i := 154) rfl) rfl) (tw11 (List.mem_of_getElem? (i := 155) rfl) rfl)
set_option maxRecDepth 100000 in
theorem pe17_75_0 (kn : List rM) {m : Nat} (h : (rE0.1 m).cls = "PackHouseModel$Tokens") : rpo (rpar kn) rE0 m 75 (0, 17, 5, .ref 0) := po0 (C := "PackHouseModel$Tokens") (T := FT17) (N := 17) (ty := fy17 5) h rfl (by decide) rfl (tw8 (List.mem_of_getElem? (i := 60) rfl) rfl) (fp17 5 (by decide)) rfl (fun _ => rfl) (fun a _ => absurd a (by decide))
set_option maxRecDepth 100000 in
theorem pe17_78_10 (kn : List rM) {m : Nat} (h : (rE0.1 m).cls = "PackHouseModel$Tokens") : rpo (rpar kn) rE0 m 78 (10, 0, 0, .int (65535)) := po10 h (tw11 (List.mem_of_getElem? (i := 100) rfl) rfl)
set_option maxRecDepth 100000 in
theorem pe17_79_20 (kn : List rM) {m : Nat} (h : (rE0.1 m).cls = "PackHouseModel$Tokens") : rpo (rpar kn) rE0 m 79 (20, 360, 3, .ref 17) := po20 h (pm360 kn) (tw11 (List.mem_of_getElem? (i := 101) rfl) rfl) (tw11 (List.mem_of_getElem? (i := 103) rfl) rfl) (pw8 (List.mem_of_getElem? (i := 10) rfl)) rfl rfl
set_option maxRecDepth 100000 in
theorem pe17_83_0 (kn : List rM) {m : Nat} (h : (rE0.1 m).cls = "PackHouseModel$Tokens") : rpo (rpar kn) rE0 m 83 (0, 17, 6, .ref 0) := po0 (C := "PackHouseModel$Tokens") (T := FT17) (N := 17) (ty := fy17 6) h rfl (by decide) rfl (tw8 (List.mem_of_getElem? (i := 61) rfl) rfl) (fp17 6 (by decide)) rfl (fun _ => rfl) (fun a _ => absurd a (by decide))
set_option maxRecDepth 100000 in
theorem pe17_86_20 (kn : List rM) {m : Nat} (h : (rE0.1 m).cls = "PackHouseModel$Tokens") : rpo (rpar kn) rE0 m 86 (20, 361, 2, .ref 17) := po20 h (pm361 kn) (tw11 (List.mem_of_getElem? (i := 96) rfl) rfl) (tw11 (List.mem_of_getElem? (i := 98) rfl) rfl) (pw8 (List.mem_of_getElem? (i := 9) rfl)) rfl rfl
set_option maxRecDepth 100000 in
theorem pe17_90_0 (kn : List rM) {m : Nat} (h : (rE0.1 m).cls = "PackHouseModel$Tokens") : rpo (rpar kn) rE0 m 90 (0, 17, 10, .ref 0) := po0 (C := "PackHouseModel$Tokens") (T := FT17) (N := 17) (ty := fy17 10) h rfl (by decide) rfl (tw8 (List.mem_of_getElem? (i := 65) rfl) rfl) (fp17 10 (by decide)) rfl (fun _ => rfl) (fun a _ => absurd a (by decide))
set_option maxRecDepth 100000 in
theorem pe17_93_20 (kn : List rM) {m : Nat} (h : (rE0.1 m).cls = "PackHouseModel$Tokens") : rpo (rpar kn) rE0 m 93 (20, 363, 1, .ref 17) := po20 h (pm363 kn) (tw11 (List.mem_of_getElem? (i := 109) rfl) rfl) (tw11 (List.mem_of_getElem? (i := 111) rfl) rfl) (pw8 (List.mem_of_getElem? (i := 12) rfl)) rfl rfl
set_option maxRecDepth 100000 in
theorem pe17_97_20 (kn : List rM) {m : Nat} (h : (rE0.1 m).cls = "PackHouseModel$Tokens") : rpo (rpar kn) rE0 m 97 (20, 364, 1, .ref 17) := po20 h (pm364 kn) (tw11 (List.mem_of_getElem? (i := 113) rfl) rfl) (tw11 (List.mem_of_getElem? (i := 115) rfl) rfl) (pw8 (List.mem_of_getElem? (i := 13) rfl)) rfl rfl
set_option maxRecDepth 100000 in
theorem pe17_100_20 (kn : List rM) {m : Nat} (h : (rE0.1 m).cls = "PackHouseModel$Tokens") : rpo (rpar kn) rE0 m 100 (20, 362, 2, .ref 17) := po20 h (pm362 kn) (tw11 (List.mem_of_getElem? (i := 92) rfl) rfl) (tw11 (List.mem_of_getElem? (i := 94) rfl) rfl) (pw8 (List.mem_of_getElem? (i := 8) rfl)) rfl rfl
set_option maxRecDepth 100000 in
theorem pe17_103_20 (kn : List rM) {m : Nat} (h : (rE0.1 m).cls = "PackHouseModel$Tokens") : rpo (rpar kn) rE0 m 103 (20, 365, 4, .ref 17) := po20 h (pm365 kn) (tw11 (List.mem_of_getElem? (i := 105) rfl) rfl) (tw11 (List.mem_of_getElem? (i := 107) rfl) rfl) (pw8 (List.mem_of_getElem? (i := 11) rfl)) rfl rfl
set_option maxRecDepth 100000 in
theorem pe17_107_1 (kn : List rM) {m : Nat} (h : (rE0.1 m).cls = "PackHouseModel$Tokens") : rpo (rpar kn) rE0 m 107 (1, 13, 2, .ref 19) := po1 (C := "PackHouseModel$Desk") (T := FT13) (N := 5) (ty := fy13 2) h rfl (by decide) rfl (tn8 (List.mem_of_getElem? (i := 10) rfl) rfl) (fp13 2 (by decide)) rfl (fun a => absurd a (by decide)) (fun _ b => absurd b (by decide)) (by decide)
set_option maxRecDepth 100000 in
theorem pe17_110_1 (kn : List rM) {m : Nat} (h : (rE0.1 m).cls = "PackHouseModel$Tokens") : rpo (rpar kn) rE0 m 110 (1, 13, 3, .ref 0) := po1 (C := "PackHouseModel$Desk") (T := FT13) (N := 5) (ty := fy13 3) h rfl (by decide) rfl (tn8 (List.mem_of_getElem? (i := 15) rfl) rfl) (fp13 3 (by decide)) rfl (fun _ => rfl) (fun a _ => absurd a (by decide)) (by decide)
set_option maxRecDepth 100000 in
theorem pe17_113_20 (kn : List rM) {m : Nat} (h : (rE0.1 m).cls = "PackHouseModel$Tokens") : rpo (rpar kn) rE0 m 113 (20, 367, 0, .ref 17) := po20 h (pm367 kn) (tw11 (List.mem_of_getElem? (i := 80) rfl) rfl) (tw11 (List.mem_of_getElem? (i := 82) rfl) rfl) (pw8 (List.mem_of_getElem? (i := 5) rfl)) rfl rfl
set_option maxRecDepth 100000 in
theorem pe17_116_20 (kn : List rM) {m : Nat} (h : (rE0.1 m).cls = "PackHouseModel$Tokens") : rpo (rpar kn) rE0 m 116 (20, 368, 2, .ref 17) := po20 h (pm368 kn) (tw11 (List.mem_of_getElem? (i := 84) rfl) rfl) (tw11 (List.mem_of_getElem? (i := 86) rfl) rfl) (pw8 (List.mem_of_getElem? (i := 6) rfl)) rfl rfl
set_option maxRecDepth 100000 in
theorem pe17_120_20 (kn : List rM) {m : Nat} (h : (rE0.1 m).cls = "PackHouseModel$Tokens") : rpo (rpar kn) rE0 m 120 (20, 366, 2, .ref 17) := po20 h (pm366 kn) (tw11 (List.mem_of_getElem? (i := 88) rfl) rfl) (tw11 (List.mem_of_getElem? (i := 90) rfl) rfl) (pw8 (List.mem_of_getElem? (i := 7) rfl)) rfl rfl
set_option maxRecDepth 100000 in
theorem pe17_123_20 (kn : List rM) {m : Nat} (h : (rE0.1 m).cls = "PackHouseModel$Tokens") : rpo (rpar kn) rE0 m 123 (20, 369, 2, .ref 17) := po20 h (pm369 kn) (tw11 (List.mem_of_getElem? (i := 117) rfl) rfl) (tw11 (List.mem_of_getElem? (i := 119) rfl) rfl) (pw8 (List.mem_of_getElem? (i := 14) rfl)) rfl rfl
set_option maxRecDepth 100000 in
theorem pe17_127_0 (kn : List rM) {m : Nat} (h : (rE0.1 m).cls = "PackHouseModel$Tokens") : rpo (rpar kn) rE0 m 127 (0, 17, 16, .ref 0) := po0 (C := "PackHouseModel$Tokens") (T := FT17) (N := 17) (ty := fy17 16) h rfl (by decide) rfl (tw8 (List.mem_of_getElem? (i := 71) rfl) rfl) (fp17 16 (by decide)) rfl (fun _ => rfl) (fun a _ => absurd a (by decide))
set_option maxRecDepth 100000 in
theorem pe17_130_0 (kn : List rM) {m : Nat} (h : (rE0.1 m).cls = "PackHouseModel$Tokens") : rpo (rpar kn) rE0 m 130 (0, 17, 15, .ref 0) := po0 (C := "PackHouseModel$Tokens") (T := FT17) (N := 17) (ty := fy17 15) h rfl (by decide) rfl (tw8 (List.mem_of_getElem? (i := 70) rfl) rfl) (fp17 15 (by decide)) rfl (fun _ => rfl) (fun a _ => absurd a (by decide))
set_option maxRecDepth 100000 in
theorem pe17_133_0 (kn : List rM) {m : Nat} (h : (rE0.1 m).cls = "PackHouseModel$Tokens") : rpo (rpar kn) rE0 m 133 (0, 17, 12, .ref 0) := po0 (C := "PackHouseModel$Tokens") (T := FT17) (N := 17) (ty := fy17 12) h rfl (by decide) rfl (tw8 (List.mem_of_getElem? (i := 67) rfl) rfl) (fp17 12 (by decide)) rfl (fun _ => rfl) (fun a _ => absurd a (by decide))
set_option maxRecDepth 100000 in
theorem pe17_136_1 (kn : List rM) {m : Nat} (h : (rE0.1 m).cls = "PackHouseModel$Tokens") : rpo (rpar kn) rE0 m 136 (1, 13, 4, .ref 0) := po1 (C := "PackHouseModel$Desk") (T := FT13) (N := 5) (ty := fy13 4) h rfl (by decide) rfl (tn8 (List.mem_of_getElem? (i := 18) rfl) rfl) (fp13 4 (by decide)) rfl (fun _ => rfl) (fun a _ => absurd a (by decide)) (by decide)
set_option maxRecDepth 100000 in
theorem pe17_139_20 (kn : List rM) {m : Nat} (h : (rE0.1 m).cls = "PackHouseModel$Tokens") : rpo (rpar kn) rE0 m 139 (20, 371, 2, .ref 17) := po20 h (pm371 kn) (tw13 (List.mem_of_getElem? (i := 52) rfl) rfl) (tw13 (List.mem_of_getElem? (i := 54) rfl) rfl) (pw13 (List.mem_of_getElem? (i := 14) rfl)) rfl rfl
set_option maxRecDepth 100000 in
theorem pe17_143_20 (kn : List rM) {m : Nat} (h : (rE0.1 m).cls = "PackHouseModel$Tokens") : rpo (rpar kn) rE0 m 143 (20, 373, 0, .ref 17) := po20 h (pm373 kn) (tw13 (List.mem_of_getElem? (i := 44) rfl) rfl) (tw13 (List.mem_of_getElem? (i := 46) rfl) rfl) (pw13 (List.mem_of_getElem? (i := 12) rfl)) rfl rfl
set_option maxRecDepth 100000 in
theorem pe17_146_20 (kn : List rM) {m : Nat} (h : (rE0.1 m).cls = "PackHouseModel$Tokens") : rpo (rpar kn) rE0 m 146 (20, 372, 3, .ref 17) := po20 h (pm372 kn) (tw13 (List.mem_of_getElem? (i := 48) rfl) rfl) (tw13 (List.mem_of_getElem? (i := 50) rfl) rfl) (pw13 (List.mem_of_getElem? (i := 13) rfl)) rfl rfl
set_option maxRecDepth 100000 in
theorem pe17_149_0 (kn : List rM) {m : Nat} (h : (rE0.1 m).cls = "PackHouseModel$Tokens") : rpo (rpar kn) rE0 m 149 (0, 17, 8, .ref 0) := po0 (C := "PackHouseModel$Tokens") (T := FT17) (N := 17) (ty := fy17 8) h rfl (by decide) rfl (tw8 (List.mem_of_getElem? (i := 63) rfl) rfl) (fp17 8 (by decide)) rfl (fun _ => rfl) (fun a _ => absurd a (by decide))
set_option maxRecDepth 100000 in
theorem pe17_152_11 (kn : List rM) {m : Nat} (h : (rE0.1 m).cls = "PackHouseModel$Tokens") : rpo (rpar kn) rE0 m 152 (11, 0, 0, .long (255)) := po11 h (tw11 (List.mem_of_getElem? (i := 133) rfl) rfl)
set_option maxRecDepth 100000 in
theorem pe17_154_20 (kn : List rM) {m : Nat} (h : (rE0.1 m).cls = "PackHouseModel$Tokens") : rpo (rpar kn) rE0 m 154 (20, 376, 1, .ref 17) := po20 h (pm376 kn) (tw11 (List.mem_of_getElem? (i := 134) rfl) rfl) (tw11 (List.mem_of_getElem? (i := 136) rfl) rfl) (pw9 (List.mem_of_getElem? (i := 0) rfl)) rfl rfl
set_option maxRecDepth 100000 in
theorem pe17_157_24 (kn : List rM) {m : Nat} (h : (rE0.1 m).cls = "PackHouseModel$Tokens") : rpo (rpar kn) rE0 m 157 (24, 375, 1, .null) := po24 h (pm375 kn) (tw11 (List.mem_of_getElem? (i := 125) rfl) rfl) (tw11 (List.mem_of_getElem? (i := 126) rfl) rfl)
set_option maxRecDepth 100000 in
theorem pe17_161_11 (kn : List rM) {m : Nat} (h : (rE0.1 m).cls = "PackHouseModel$Tokens") : rpo (rpar kn) rE0 m 161 (11, 0, 0, .long (407708164)) := po11 h (tw11 (List.mem_of_getElem? (i := 128) rfl) rfl)
set_option maxRecDepth 100000 in
theorem pe17_163_20 (kn : List rM) {m : Nat} (h : (rE0.1 m).cls = "PackHouseModel$Tokens") : rpo (rpar kn) rE0 m 163 (20, 377, 2, .ref 17) := po20 h (pm377 kn) (tw11 (List.mem_of_getElem? (i := 129) rfl) rfl) (tw11 (List.mem_of_getElem? (i := 131) rfl) rfl) (pw8 (List.mem_of_getElem? (i := 15) rfl)) rfl rfl
set_option maxRecDepth 100000 in
theorem pe17_167_20 (kn : List rM) {m : Nat} (h : (rE0.1 m).cls = "PackHouseModel$Tokens") : rpo (rpar kn) rE0 m 167 (20, 359, 3, .ref 17) := po20 h (pm359 kn) (tw11 (List.mem_of_getElem? (i := 139) rfl) rfl) (tw11 (List.mem_of_getElem? (i := 141) rfl) rfl) (pw9 (List.mem_of_getElem? (i := 1) rfl)) rfl rfl
set_option maxRecDepth 100000 in
theorem pe17_171_11 (kn : List rM) {m : Nat} (h : (rE0.1 m).cls = "PackHouseModel$Tokens") : rpo (rpar kn) rE0 m 171 (11, 0, 0, .long (2147483648)) := po11 h (tw11 (List.mem_of_getElem? (i := 157) rfl) rfl)
set_option maxRecDepth 100000 in
theorem pe17_173_20 (kn : List rM) {m : Nat} (h : (rE0.1 m).cls = "PackHouseModel$Tokens") : rpo (rpar kn) rE0 m 173 (20, 379, 1, .ref 17) := po20 h (pm379 kn) (tw13 (List.mem_of_getElem? (i := 64) rfl) rfl) (tw13 (List.mem_of_getElem? (i := 66) rfl) rfl) (pw14 (List.mem_of_getElem? (i := 0) rfl)) rfl rfl
set_option maxRecDepth 100000 in
theorem pe17_176_20 (kn : List rM) {m : Nat} (h : (rE0.1 m).cls = "PackHouseModel$Tokens") : rpo (rpar kn) rE0 m 176 (20, 381, 2, .ref 17) := po20 h (pm381 kn) (tw13 (List.mem_of_getElem? (i := 68) rfl) rfl) (tw13 (List.mem_of_getElem? (i := 70) rfl) rfl) (pw14 (List.mem_of_getElem? (i := 1) rfl)) rfl rfl
set_option maxRecDepth 100000 in
theorem pe17_179_20 (kn : List rM) {m : Nat} (h : (rE0.1 m).cls = "PackHouseModel$Tokens") : rpo (rpar kn) rE0 m 179 (20, 380, 2, .ref 17) := po20 h (pm380 kn) (tw13 (List.mem_of_getElem? (i := 72) rfl) rfl) (tw13 (List.mem_of_getElem? (i := 74) rfl) rfl) (pw14 (List.mem_of_getElem? (i := 2) rfl)) rfl rfl
set_option maxRecDepth 100000 in
theorem pe17_183_11 (kn : List rM) {m : Nat} (h : (rE0.1 m).cls = "PackHouseModel$Tokens") : rpo (rpar kn) rE0 m 183 (11, 0, 0, .long (407710288)) := po11 h (tw13 (List.mem_of_getElem? (i := 76) rfl) rfl)
set_option maxRecDepth 100000 in
theorem pe17_185_11 (kn : List rM) {m : Nat} (h : (rE0.1 m).cls = "PackHouseModel$Tokens") : rpo (rpar kn) rE0 m 185 (11, 0, 0, .long (407710303)) := po11 h (tw13 (List.mem_of_getElem? (i := 77) rfl) rfl)
set_option maxRecDepth 100000 in
theorem pe17_187_20 (kn : List rM) {m : Nat} (h : (rE0.1 m).cls = "PackHouseModel$Tokens") : rpo (rpar kn) rE0 m 187 (20, 383, 1, .ref 17) := po20 h (pm383 kn) (tw13 (List.mem_of_getElem? (i := 78) rfl) rfl) (tw13 (List.mem_of_getElem? (i := 80) rfl) rfl) (pw14 (List.mem_of_getElem? (i := 3) rfl)) rfl rfl
set_option maxRecDepth 100000 in
theorem pe17_191_0 (kn : List rM) {m : Nat} (h : (rE0.1 m).cls = "PackHouseModel$Tokens") : rpo (rpar kn) rE0 m 191 (0, 17, 14, .ref 0) := po0 (C := "PackHouseModel$Tokens") (T := FT17) (N := 17) (ty := fy17 14) h rfl (by decide) rfl (tw8 (List.mem_of_getElem? (i := 69) rfl) rfl) (fp17 14 (by decide)) rfl (fun _ => rfl) (fun a _ => absurd a (by decide))
set_option maxRecDepth 100000 in
theorem pe17_194_20 (kn : List rM) {m : Nat} (h : (rE0.1 m).cls = "PackHouseModel$Tokens") : rpo (rpar kn) rE0 m 194 (20, 384, 5, .ref 17) := po20 h (pm384 kn) (tw13 (List.mem_of_getElem? (i := 82) rfl) rfl) (tw13 (List.mem_of_getElem? (i := 84) rfl) rfl) (pw14 (List.mem_of_getElem? (i := 4) rfl)) rfl rfl
set_option maxRecDepth 100000 in
theorem pe17_198_20 (kn : List rM) {m : Nat} (h : (rE0.1 m).cls = "PackHouseModel$Tokens") : rpo (rpar kn) rE0 m 198 (20, 382, 1, .ref 17) := po20 h (pm382 kn) (tw13 (List.mem_of_getElem? (i := 60) rfl) rfl) (tw13 (List.mem_of_getElem? (i := 62) rfl) rfl) (pw13 (List.mem_of_getElem? (i := 15) rfl)) rfl rfl
set_option maxRecDepth 100000 in
theorem pl17 (kn : List rM) {m : Nat} (h : (rE0.1 m).cls = "PackHouseModel$Tokens") : ∀ q ∈ pool_17, rpo (rpar kn) rE0 m q.1 q.2 := List.forall_mem_cons.mpr ⟨pe17_1_26 kn h, List.forall_mem_cons.mpr ⟨pe17_7_10 kn h, List.forall_mem_cons.mpr ⟨pe17_8_0 kn h, List.forall_mem_cons.mpr ⟨pe17_14_0 kn h, List.forall_mem_cons.mpr ⟨pe17_18_0 kn h, List.forall_mem_cons.mpr ⟨pe17_21_10 kn h, List.forall_mem_cons.mpr ⟨pe17_22_0 kn h, List.forall_mem_cons.mpr ⟨pe17_25_0 kn h, List.forall_mem_cons.mpr ⟨pe17_28_10 kn h, List.forall_mem_cons.mpr ⟨pe17_29_0 kn h, List.forall_mem_cons.mpr ⟨pe17_32_0 kn h, List.forall_mem_cons.mpr ⟨pe17_35_0 kn h, List.forall_mem_cons.mpr ⟨pe17_39_1 kn h, List.forall_mem_cons.mpr ⟨pe17_45_1 kn h, List.forall_mem_cons.mpr ⟨pe17_48_0 kn h, List.forall_mem_cons.mpr ⟨pe17_51_11 kn h, List.forall_mem_cons.mpr ⟨pe17_53_11 kn h, List.forall_mem_cons.mpr ⟨pe17_55_11 kn h, List.forall_mem_cons.mpr ⟨pe17_57_11 kn h, List.forall_mem_cons.mpr ⟨pe17_59_11 kn h, List.forall_mem_cons.mpr ⟨pe17_61_11 kn h, List.forall_mem_cons.mpr ⟨pe17_63_24 kn h, List.forall_mem_cons.mpr ⟨pe17_67_24 kn h, List.forall_mem_cons.mpr ⟨pe17_71_24 kn h, List.forall_mem_cons.mpr ⟨pe17_75_0 kn h, List.forall_mem_cons.mpr ⟨pe17_78_10 kn h, List.forall_mem_cons.mpr ⟨pe17_79_20 kn h, List.forall_mem_cons.mpr ⟨pe17_83_0 kn h, List.forall_mem_cons.mpr ⟨pe17_86_20 kn h, List.forall_mem_cons.mpr ⟨pe17_90_0 kn h, List.forall_mem_cons.mpr ⟨pe17_93_20 kn h, List.forall_mem_cons.mpr ⟨pe17_97_20 kn h, List.forall_mem_cons.mpr ⟨pe17_100_20 kn h, List.forall_mem_cons.mpr ⟨pe17_103_20 kn h, List.forall_mem_cons.mpr ⟨pe17_107_1 kn h, List.forall_mem_cons.mpr ⟨pe17_110_1 kn h, List.forall_mem_cons.mpr ⟨pe17_113_20 kn h, List.forall_mem_cons.mpr ⟨pe17_116_20 kn h, List.forall_mem_cons.mpr ⟨pe17_120_20 kn h, List.forall_mem_cons.mpr ⟨pe17_123_20 kn h, List.forall_mem_cons.mpr ⟨pe17_127_0 kn h, List.forall_mem_cons.mpr ⟨pe17_130_0 kn h, List.forall_mem_cons.mpr ⟨pe17_133_0 kn h, List.forall_mem_cons.mpr ⟨pe17_136_1 kn h, List.forall_mem_cons.mpr ⟨pe17_139_20 kn h, List.forall_mem_cons.mpr ⟨pe17_143_20 kn h, List.forall_mem_cons.mpr ⟨pe17_146_20 kn h, List.forall_mem_cons.mpr ⟨pe17_149_0 kn h, List.forall_mem_cons.mpr ⟨pe17_152_11 kn h, List.forall_mem_cons.mpr ⟨pe17_154_20 kn h, List.forall_mem_cons.mpr ⟨pe17_157_24 kn h, List.forall_mem_cons.mpr ⟨pe17_161_11 kn h, List.forall_mem_cons.mpr ⟨pe17_163_20 kn h, List.forall_mem_cons.mpr ⟨pe17_167_20 kn h, List.forall_mem_cons.mpr ⟨pe17_171_11 kn h, List.forall_mem_cons.mpr ⟨pe17_173_20 kn h, List.forall_mem_cons.mpr ⟨pe17_176_20 kn h, List.forall_mem_cons.mpr ⟨pe17_179_20 kn h, List.forall_mem_cons.mpr ⟨pe17_183_11 kn h, List.forall_mem_cons.mpr ⟨pe17_185_11 kn h, List.forall_mem_cons.mpr ⟨pe17_187_20 kn h, List.forall_mem_cons.mpr ⟨pe17_191_0 kn h, List.forall_mem_cons.mpr ⟨pe17_194_20 kn h, List.forall_mem_cons.mpr ⟨pe17_198_20 kn h, (fun _ h => absurd h List.not_mem_nil)⟩⟩⟩⟩⟩⟩⟩⟩⟩⟩⟩⟩⟩⟩⟩⟩⟩⟩⟩⟩⟩⟩⟩⟩⟩⟩⟩⟩⟩⟩⟩⟩⟩⟩⟩⟩⟩⟩⟩⟩⟩⟩⟩⟩⟩⟩⟩⟩⟩⟩⟩⟩⟩⟩⟩⟩⟩⟩⟩⟩⟩⟩⟩⟩
set_option maxRecDepth 100000 in
theorem pe18_1_26 (kn : List rM) {m : Nat} (h : (rE0.1 m).cls = "PackHouseModel$Writer") : rpo (rpar kn) rE0 m 1 (26, 0, 0, .null) := po26 h (tw9 (List.mem_of_getElem? (i := 82) rfl) rfl)
set_option maxRecDepth 100000 in
theorem pe18_7_10 (kn : List rM) {m : Nat} (h : (rE0.1 m).cls = "PackHouseModel$Writer") : rpo (rpar kn) rE0 m 7 (10, 0, 0, .int (65536)) := po10 h (tw9 (List.mem_of_getElem? (i := 83) rfl) rfl)
set_option maxRecDepth 100000 in
theorem pe18_8_0 (kn : List rM) {m : Nat} (h : (rE0.1 m).cls = "PackHouseModel$Writer") : rpo (rpar kn) rE0 m 8 (0, 18, 3, .ref 11) := po0 (C := "PackHouseModel$Writer") (T := FT18) (N := 59) (ty := fy18 3) h rfl (by decide) rfl (tw9 (List.mem_of_getElem? (i := 87) rfl) rfl) (fp18 3 (by decide)) rfl (fun a => absurd a (by decide)) (fun _ _ => ⟨rfl, rfl⟩)
set_option maxRecDepth 100000 in
theorem pe18_14_0 (kn : List rM) {m : Nat} (h : (rE0.1 m).cls = "PackHouseModel$Writer") : rpo (rpar kn) rE0 m 14 (0, 18, 7, .ref 11) := po0 (C := "PackHouseModel$Writer") (T := FT18) (N := 59) (ty := fy18 7) h rfl (by decide) rfl (tw9 (List.mem_of_getElem? (i := 91) rfl) rfl) (fp18 7 (by decide)) rfl (fun a => absurd a (by decide)) (fun _ _ => ⟨rfl, rfl⟩)
set_option maxRecDepth 100000 in
theorem pe18_17_0 (kn : List rM) {m : Nat} (h : (rE0.1 m).cls = "PackHouseModel$Writer") : rpo (rpar kn) rE0 m 17 (0, 18, 8, .ref 11) := po0 (C := "PackHouseModel$Writer") (T := FT18) (N := 59) (ty := fy18 8) h rfl (by decide) rfl (tw9 (List.mem_of_getElem? (i := 92) rfl) rfl) (fp18 8 (by decide)) rfl (fun a => absurd a (by decide)) (fun _ _ => ⟨rfl, rfl⟩)
set_option maxRecDepth 100000 in
theorem pe18_20_0 (kn : List rM) {m : Nat} (h : (rE0.1 m).cls = "PackHouseModel$Writer") : rpo (rpar kn) rE0 m 20 (0, 18, 9, .ref 11) := po0 (C := "PackHouseModel$Writer") (T := FT18) (N := 59) (ty := fy18 9) h rfl (by decide) rfl (tw9 (List.mem_of_getElem? (i := 93) rfl) rfl) (fp18 9 (by decide)) rfl (fun a => absurd a (by decide)) (fun _ _ => ⟨rfl, rfl⟩)
set_option maxRecDepth 100000 in
theorem pe18_23_0 (kn : List rM) {m : Nat} (h : (rE0.1 m).cls = "PackHouseModel$Writer") : rpo (rpar kn) rE0 m 23 (0, 18, 10, .ref 11) := po0 (C := "PackHouseModel$Writer") (T := FT18) (N := 59) (ty := fy18 10) h rfl (by decide) rfl (tw9 (List.mem_of_getElem? (i := 94) rfl) rfl) (fp18 10 (by decide)) rfl (fun a => absurd a (by decide)) (fun _ _ => ⟨rfl, rfl⟩)
set_option maxRecDepth 100000 in
theorem pe18_26_0 (kn : List rM) {m : Nat} (h : (rE0.1 m).cls = "PackHouseModel$Writer") : rpo (rpar kn) rE0 m 26 (0, 18, 11, .ref 11) := po0 (C := "PackHouseModel$Writer") (T := FT18) (N := 59) (ty := fy18 11) h rfl (by decide) rfl (tw9 (List.mem_of_getElem? (i := 95) rfl) rfl) (fp18 11 (by decide)) rfl (fun a => absurd a (by decide)) (fun _ _ => ⟨rfl, rfl⟩)
set_option maxRecDepth 100000 in
theorem pe18_29_0 (kn : List rM) {m : Nat} (h : (rE0.1 m).cls = "PackHouseModel$Writer") : rpo (rpar kn) rE0 m 29 (0, 18, 13, .ref 11) := po0 (C := "PackHouseModel$Writer") (T := FT18) (N := 59) (ty := fy18 13) h rfl (by decide) rfl (tw9 (List.mem_of_getElem? (i := 97) rfl) rfl) (fp18 13 (by decide)) rfl (fun a => absurd a (by decide)) (fun _ _ => ⟨rfl, rfl⟩)
set_option maxRecDepth 100000 in
theorem pe18_32_0 (kn : List rM) {m : Nat} (h : (rE0.1 m).cls = "PackHouseModel$Writer") : rpo (rpar kn) rE0 m 32 (0, 18, 14, .ref 11) := po0 (C := "PackHouseModel$Writer") (T := FT18) (N := 59) (ty := fy18 14) h rfl (by decide) rfl (tw9 (List.mem_of_getElem? (i := 98) rfl) rfl) (fp18 14 (by decide)) rfl (fun a => absurd a (by decide)) (fun _ _ => ⟨rfl, rfl⟩)
set_option maxRecDepth 100000 in
theorem pe18_35_0 (kn : List rM) {m : Nat} (h : (rE0.1 m).cls = "PackHouseModel$Writer") : rpo (rpar kn) rE0 m 35 (0, 18, 15, .ref 11) := po0 (C := "PackHouseModel$Writer") (T := FT18) (N := 59) (ty := fy18 15) h rfl (by decide) rfl (tw9 (List.mem_of_getElem? (i := 99) rfl) rfl) (fp18 15 (by decide)) rfl (fun a => absurd a (by decide)) (fun _ _ => ⟨rfl, rfl⟩)
set_option maxRecDepth 100000 in
theorem pe18_38_0 (kn : List rM) {m : Nat} (h : (rE0.1 m).cls = "PackHouseModel$Writer") : rpo (rpar kn) rE0 m 38 (0, 18, 16, .ref 11) := po0 (C := "PackHouseModel$Writer") (T := FT18) (N := 59) (ty := fy18 16) h rfl (by decide) rfl (tw9 (List.mem_of_getElem? (i := 100) rfl) rfl) (fp18 16 (by decide)) rfl (fun a => absurd a (by decide)) (fun _ _ => ⟨rfl, rfl⟩)
set_option maxRecDepth 100000 in
theorem pe18_41_0 (kn : List rM) {m : Nat} (h : (rE0.1 m).cls = "PackHouseModel$Writer") : rpo (rpar kn) rE0 m 41 (0, 18, 18, .ref 11) := po0 (C := "PackHouseModel$Writer") (T := FT18) (N := 59) (ty := fy18 18) h rfl (by decide) rfl (tw9 (List.mem_of_getElem? (i := 102) rfl) rfl) (fp18 18 (by decide)) rfl (fun a => absurd a (by decide)) (fun _ _ => ⟨rfl, rfl⟩)
set_option maxRecDepth 100000 in
theorem pe18_44_0 (kn : List rM) {m : Nat} (h : (rE0.1 m).cls = "PackHouseModel$Writer") : rpo (rpar kn) rE0 m 44 (0, 18, 19, .ref 11) := po0 (C := "PackHouseModel$Writer") (T := FT18) (N := 59) (ty := fy18 19) h rfl (by decide) rfl (tw9 (List.mem_of_getElem? (i := 103) rfl) rfl) (fp18 19 (by decide)) rfl (fun a => absurd a (by decide)) (fun _ _ => ⟨rfl, rfl⟩)
set_option maxRecDepth 100000 in
theorem pe18_47_0 (kn : List rM) {m : Nat} (h : (rE0.1 m).cls = "PackHouseModel$Writer") : rpo (rpar kn) rE0 m 47 (0, 18, 20, .ref 11) := po0 (C := "PackHouseModel$Writer") (T := FT18) (N := 59) (ty := fy18 20) h rfl (by decide) rfl (tw9 (List.mem_of_getElem? (i := 104) rfl) rfl) (fp18 20 (by decide)) rfl (fun a => absurd a (by decide)) (fun _ _ => ⟨rfl, rfl⟩)
set_option maxRecDepth 100000 in
theorem pe18_50_0 (kn : List rM) {m : Nat} (h : (rE0.1 m).cls = "PackHouseModel$Writer") : rpo (rpar kn) rE0 m 50 (0, 18, 21, .ref 11) := po0 (C := "PackHouseModel$Writer") (T := FT18) (N := 59) (ty := fy18 21) h rfl (by decide) rfl (tw9 (List.mem_of_getElem? (i := 105) rfl) rfl) (fp18 21 (by decide)) rfl (fun a => absurd a (by decide)) (fun _ _ => ⟨rfl, rfl⟩)
set_option maxRecDepth 100000 in
theorem pe18_53_0 (kn : List rM) {m : Nat} (h : (rE0.1 m).cls = "PackHouseModel$Writer") : rpo (rpar kn) rE0 m 53 (0, 18, 25, .ref 11) := po0 (C := "PackHouseModel$Writer") (T := FT18) (N := 59) (ty := fy18 25) h rfl (by decide) rfl (tw9 (List.mem_of_getElem? (i := 109) rfl) rfl) (fp18 25 (by decide)) rfl (fun a => absurd a (by decide)) (fun _ _ => ⟨rfl, rfl⟩)
set_option maxRecDepth 100000 in
theorem pe18_56_0 (kn : List rM) {m : Nat} (h : (rE0.1 m).cls = "PackHouseModel$Writer") : rpo (rpar kn) rE0 m 56 (0, 18, 26, .ref 11) := po0 (C := "PackHouseModel$Writer") (T := FT18) (N := 59) (ty := fy18 26) h rfl (by decide) rfl (tw9 (List.mem_of_getElem? (i := 110) rfl) rfl) (fp18 26 (by decide)) rfl (fun a => absurd a (by decide)) (fun _ _ => ⟨rfl, rfl⟩)
set_option maxRecDepth 100000 in
theorem pe18_59_0 (kn : List rM) {m : Nat} (h : (rE0.1 m).cls = "PackHouseModel$Writer") : rpo (rpar kn) rE0 m 59 (0, 18, 27, .ref 11) := po0 (C := "PackHouseModel$Writer") (T := FT18) (N := 59) (ty := fy18 27) h rfl (by decide) rfl (tw9 (List.mem_of_getElem? (i := 111) rfl) rfl) (fp18 27 (by decide)) rfl (fun a => absurd a (by decide)) (fun _ _ => ⟨rfl, rfl⟩)
set_option maxRecDepth 100000 in
theorem pe18_62_0 (kn : List rM) {m : Nat} (h : (rE0.1 m).cls = "PackHouseModel$Writer") : rpo (rpar kn) rE0 m 62 (0, 18, 29, .ref 11) := po0 (C := "PackHouseModel$Writer") (T := FT18) (N := 59) (ty := fy18 29) h rfl (by decide) rfl (tw9 (List.mem_of_getElem? (i := 113) rfl) rfl) (fp18 29 (by decide)) rfl (fun a => absurd a (by decide)) (fun _ _ => ⟨rfl, rfl⟩)
set_option maxRecDepth 100000 in
theorem pe18_65_0 (kn : List rM) {m : Nat} (h : (rE0.1 m).cls = "PackHouseModel$Writer") : rpo (rpar kn) rE0 m 65 (0, 18, 31, .ref 11) := po0 (C := "PackHouseModel$Writer") (T := FT18) (N := 59) (ty := fy18 31) h rfl (by decide) rfl (tw9 (List.mem_of_getElem? (i := 115) rfl) rfl) (fp18 31 (by decide)) rfl (fun a => absurd a (by decide)) (fun _ _ => ⟨rfl, rfl⟩)
set_option maxRecDepth 100000 in
theorem pe18_68_0 (kn : List rM) {m : Nat} (h : (rE0.1 m).cls = "PackHouseModel$Writer") : rpo (rpar kn) rE0 m 68 (0, 18, 32, .ref 11) := po0 (C := "PackHouseModel$Writer") (T := FT18) (N := 59) (ty := fy18 32) h rfl (by decide) rfl (tw9 (List.mem_of_getElem? (i := 116) rfl) rfl) (fp18 32 (by decide)) rfl (fun a => absurd a (by decide)) (fun _ _ => ⟨rfl, rfl⟩)
set_option maxRecDepth 100000 in
theorem pe18_71_0 (kn : List rM) {m : Nat} (h : (rE0.1 m).cls = "PackHouseModel$Writer") : rpo (rpar kn) rE0 m 71 (0, 18, 33, .ref 11) := po0 (C := "PackHouseModel$Writer") (T := FT18) (N := 59) (ty := fy18 33) h rfl (by decide) rfl (tw9 (List.mem_of_getElem? (i := 117) rfl) rfl) (fp18 33 (by decide)) rfl (fun a => absurd a (by decide)) (fun _ _ => ⟨rfl, rfl⟩)
set_option maxRecDepth 100000 in
theorem pe18_74_0 (kn : List rM) {m : Nat} (h : (rE0.1 m).cls = "PackHouseModel$Writer") : rpo (rpar kn) rE0 m 74 (0, 18, 34, .ref 11) := po0 (C := "PackHouseModel$Writer") (T := FT18) (N := 59) (ty := fy18 34) h rfl (by decide) rfl (tw9 (List.mem_of_getElem? (i := 118) rfl) rfl) (fp18 34 (by decide)) rfl (fun a => absurd a (by decide)) (fun _ _ => ⟨rfl, rfl⟩)
set_option maxRecDepth 100000 in
theorem pe18_77_0 (kn : List rM) {m : Nat} (h : (rE0.1 m).cls = "PackHouseModel$Writer") : rpo (rpar kn) rE0 m 77 (0, 18, 36, .ref 11) := po0 (C := "PackHouseModel$Writer") (T := FT18) (N := 59) (ty := fy18 36) h rfl (by decide) rfl (tw9 (List.mem_of_getElem? (i := 120) rfl) rfl) (fp18 36 (by decide)) rfl (fun a => absurd a (by decide)) (fun _ _ => ⟨rfl, rfl⟩)
set_option maxRecDepth 100000 in
theorem pe18_80_0 (kn : List rM) {m : Nat} (h : (rE0.1 m).cls = "PackHouseModel$Writer") : rpo (rpar kn) rE0 m 80 (0, 18, 38, .ref 11) := po0 (C := "PackHouseModel$Writer") (T := FT18) (N := 59) (ty := fy18 38) h rfl (by decide) rfl (tw9 (List.mem_of_getElem? (i := 122) rfl) rfl) (fp18 38 (by decide)) rfl (fun a => absurd a (by decide)) (fun _ _ => ⟨rfl, rfl⟩)
set_option maxRecDepth 100000 in
theorem pe18_83_0 (kn : List rM) {m : Nat} (h : (rE0.1 m).cls = "PackHouseModel$Writer") : rpo (rpar kn) rE0 m 83 (0, 18, 39, .ref 11) := po0 (C := "PackHouseModel$Writer") (T := FT18) (N := 59) (ty := fy18 39) h rfl (by decide) rfl (tw9 (List.mem_of_getElem? (i := 123) rfl) rfl) (fp18 39 (by decide)) rfl (fun a => absurd a (by decide)) (fun _ _ => ⟨rfl, rfl⟩)
set_option maxRecDepth 100000 in
theorem pe18_86_0 (kn : List rM) {m : Nat} (h : (rE0.1 m).cls = "PackHouseModel$Writer") : rpo (rpar kn) rE0 m 86 (0, 18, 40, .ref 11) := po0 (C := "PackHouseModel$Writer") (T := FT18) (N := 59) (ty := fy18 40) h rfl (by decide) rfl (tw9 (List.mem_of_getElem? (i := 124) rfl) rfl) (fp18 40 (by decide)) rfl (fun a => absurd a (by decide)) (fun _ _ => ⟨rfl, rfl⟩)
set_option maxRecDepth 100000 in
theorem pe18_89_0 (kn : List rM) {m : Nat} (h : (rE0.1 m).cls = "PackHouseModel$Writer") : rpo (rpar kn) rE0 m 89 (0, 18, 41, .ref 11) := po0 (C := "PackHouseModel$Writer") (T := FT18) (N := 59) (ty := fy18 41) h rfl (by decide) rfl (tw9 (List.mem_of_getElem? (i := 125) rfl) rfl) (fp18 41 (by decide)) rfl (fun a => absurd a (by decide)) (fun _ _ => ⟨rfl, rfl⟩)
set_option maxRecDepth 100000 in
theorem pe18_92_0 (kn : List rM) {m : Nat} (h : (rE0.1 m).cls = "PackHouseModel$Writer") : rpo (rpar kn) rE0 m 92 (0, 18, 42, .ref 11) := po0 (C := "PackHouseModel$Writer") (T := FT18) (N := 59) (ty := fy18 42) h rfl (by decide) rfl (tw9 (List.mem_of_getElem? (i := 126) rfl) rfl) (fp18 42 (by decide)) rfl (fun a => absurd a (by decide)) (fun _ _ => ⟨rfl, rfl⟩)
set_option maxRecDepth 100000 in
theorem pe18_95_0 (kn : List rM) {m : Nat} (h : (rE0.1 m).cls = "PackHouseModel$Writer") : rpo (rpar kn) rE0 m 95 (0, 18, 43, .ref 11) := po0 (C := "PackHouseModel$Writer") (T := FT18) (N := 59) (ty := fy18 43) h rfl (by decide) rfl (tw9 (List.mem_of_getElem? (i := 127) rfl) rfl) (fp18 43 (by decide)) rfl (fun a => absurd a (by decide)) (fun _ _ => ⟨rfl, rfl⟩)
set_option maxRecDepth 100000 in
theorem pe18_98_0 (kn : List rM) {m : Nat} (h : (rE0.1 m).cls = "PackHouseModel$Writer") : rpo (rpar kn) rE0 m 98 (0, 18, 44, .ref 11) := po0 (C := "PackHouseModel$Writer") (T := FT18) (N := 59) (ty := fy18 44) h rfl (by decide) rfl (tw9 (List.mem_of_getElem? (i := 128) rfl) rfl) (fp18 44 (by decide)) rfl (fun a => absurd a (by decide)) (fun _ _ => ⟨rfl, rfl⟩)
set_option maxRecDepth 100000 in
theorem pe18_102_0 (kn : List rM) {m : Nat} (h : (rE0.1 m).cls = "PackHouseModel$Writer") : rpo (rpar kn) rE0 m 102 (0, 18, 45, .ref 11) := po0 (C := "PackHouseModel$Writer") (T := FT18) (N := 59) (ty := fy18 45) h rfl (by decide) rfl (tw9 (List.mem_of_getElem? (i := 129) rfl) rfl) (fp18 45 (by decide)) rfl (fun a => absurd a (by decide)) (fun _ _ => ⟨rfl, rfl⟩)
set_option maxRecDepth 100000 in
theorem pe18_105_0 (kn : List rM) {m : Nat} (h : (rE0.1 m).cls = "PackHouseModel$Writer") : rpo (rpar kn) rE0 m 105 (0, 18, 46, .ref 11) := po0 (C := "PackHouseModel$Writer") (T := FT18) (N := 59) (ty := fy18 46) h rfl (by decide) rfl (tw9 (List.mem_of_getElem? (i := 130) rfl) rfl) (fp18 46 (by decide)) rfl (fun a => absurd a (by decide)) (fun _ _ => ⟨rfl, rfl⟩)
set_option maxRecDepth 100000 in
theorem pe18_108_0 (kn : List rM) {m : Nat} (h : (rE0.1 m).cls = "PackHouseModel$Writer") : rpo (rpar kn) rE0 m 108 (0, 18, 47, .ref 11) := po0 (C := "PackHouseModel$Writer") (T := FT18) (N := 59) (ty := fy18 47) h rfl (by decide) rfl (tw9 (List.mem_of_getElem? (i := 131) rfl) rfl) (fp18 47 (by decide)) rfl (fun a => absurd a (by decide)) (fun _ _ => ⟨rfl, rfl⟩)
set_option maxRecDepth 100000 in
theorem pe18_111_0 (kn : List rM) {m : Nat} (h : (rE0.1 m).cls = "PackHouseModel$Writer") : rpo (rpar kn) rE0 m 111 (0, 18, 48, .ref 11) := po0 (C := "PackHouseModel$Writer") (T := FT18) (N := 59) (ty := fy18 48) h rfl (by decide) rfl (tw9 (List.mem_of_getElem? (i := 132) rfl) rfl) (fp18 48 (by decide)) rfl (fun a => absurd a (by decide)) (fun _ _ => ⟨rfl, rfl⟩)
set_option maxRecDepth 100000 in
theorem pe18_114_0 (kn : List rM) {m : Nat} (h : (rE0.1 m).cls = "PackHouseModel$Writer") : rpo (rpar kn) rE0 m 114 (0, 18, 50, .ref 11) := po0 (C := "PackHouseModel$Writer") (T := FT18) (N := 59) (ty := fy18 50) h rfl (by decide) rfl (tw9 (List.mem_of_getElem? (i := 134) rfl) rfl) (fp18 50 (by decide)) rfl (fun a => absurd a (by decide)) (fun _ _ => ⟨rfl, rfl⟩)
set_option maxRecDepth 100000 in
theorem pe18_117_0 (kn : List rM) {m : Nat} (h : (rE0.1 m).cls = "PackHouseModel$Writer") : rpo (rpar kn) rE0 m 117 (0, 18, 51, .ref 11) := po0 (C := "PackHouseModel$Writer") (T := FT18) (N := 59) (ty := fy18 51) h rfl (by decide) rfl (tw9 (List.mem_of_getElem? (i := 135) rfl) rfl) (fp18 51 (by decide)) rfl (fun a => absurd a (by decide)) (fun _ _ => ⟨rfl, rfl⟩)
set_option maxRecDepth 100000 in
theorem pe18_120_0 (kn : List rM) {m : Nat} (h : (rE0.1 m).cls = "PackHouseModel$Writer") : rpo (rpar kn) rE0 m 120 (0, 18, 52, .ref 11) := po0 (C := "PackHouseModel$Writer") (T := FT18) (N := 59) (ty := fy18 52) h rfl (by decide) rfl (tw9 (List.mem_of_getElem? (i := 136) rfl) rfl) (fp18 52 (by decide)) rfl (fun a => absurd a (by decide)) (fun _ _ => ⟨rfl, rfl⟩)
set_option maxRecDepth 100000 in
theorem pe18_123_0 (kn : List rM) {m : Nat} (h : (rE0.1 m).cls = "PackHouseModel$Writer") : rpo (rpar kn) rE0 m 123 (0, 18, 55, .ref 11) := po0 (C := "PackHouseModel$Writer") (T := FT18) (N := 59) (ty := fy18 55) h rfl (by decide) rfl (tw9 (List.mem_of_getElem? (i := 138) rfl) rfl) (fp18 55 (by decide)) rfl (fun a => absurd a (by decide)) (fun _ _ => ⟨rfl, rfl⟩)
set_option maxRecDepth 100000 in
theorem pe18_126_0 (kn : List rM) {m : Nat} (h : (rE0.1 m).cls = "PackHouseModel$Writer") : rpo (rpar kn) rE0 m 126 (0, 18, 56, .ref 11) := po0 (C := "PackHouseModel$Writer") (T := FT18) (N := 59) (ty := fy18 56) h rfl (by decide) rfl (tw9 (List.mem_of_getElem? (i := 139) rfl) rfl) (fp18 56 (by decide)) rfl (fun a => absurd a (by decide)) (fun _ _ => ⟨rfl, rfl⟩)
set_option maxRecDepth 100000 in
theorem pe18_130_0 (kn : List rM) {m : Nat} (h : (rE0.1 m).cls = "PackHouseModel$Writer") : rpo (rpar kn) rE0 m 130 (0, 18, 57, .ref 11) := po0 (C := "PackHouseModel$Writer") (T := FT18) (N := 59) (ty := fy18 57) h rfl (by decide) rfl (tw9 (List.mem_of_getElem? (i := 140) rfl) rfl) (fp18 57 (by decide)) rfl (fun a => absurd a (by decide)) (fun _ _ => ⟨rfl, rfl⟩)
set_option maxRecDepth 100000 in
theorem pe18_133_0 (kn : List rM) {m : Nat} (h : (rE0.1 m).cls = "PackHouseModel$Writer") : rpo (rpar kn) rE0 m 133 (0, 18, 58, .ref 11) := po0 (C := "PackHouseModel$Writer") (T := FT18) (N := 59) (ty := fy18 58) h rfl (by decide) rfl (tw9 (List.mem_of_getElem? (i := 141) rfl) rfl) (fp18 58 (by decide)) rfl (fun a => absurd a (by decide)) (fun _ _ => ⟨rfl, rfl⟩)
set_option maxRecDepth 100000 in
theorem pe18_136_0 (kn : List rM) {m : Nat} (h : (rE0.1 m).cls = "PackHouseModel$Writer") : rpo (rpar kn) rE0 m 136 (0, 18, 0, .ref 11) := po0 (C := "PackHouseModel$Writer") (T := FT18) (N := 59) (ty := fy18 0) h rfl (by decide) rfl (tw9 (List.mem_of_getElem? (i := 84) rfl) rfl) (fp18 0 (by decide)) rfl (fun a => absurd a (by decide)) (fun _ _ => ⟨rfl, rfl⟩)
set_option maxRecDepth 100000 in
theorem pe18_140_0 (kn : List rM) {m : Nat} (h : (rE0.1 m).cls = "PackHouseModel$Writer") : rpo (rpar kn) rE0 m 140 (0, 18, 1, .ref 0) := po0 (C := "PackHouseModel$Writer") (T := FT18) (N := 59) (ty := fy18 1) h rfl (by decide) rfl (tw9 (List.mem_of_getElem? (i := 85) rfl) rfl) (fp18 1 (by decide)) rfl (fun _ => rfl) (fun a _ => absurd a (by decide))
set_option maxRecDepth 100000 in
theorem pe18_144_0 (kn : List rM) {m : Nat} (h : (rE0.1 m).cls = "PackHouseModel$Writer") : rpo (rpar kn) rE0 m 144 (0, 18, 2, .ref 0) := po0 (C := "PackHouseModel$Writer") (T := FT18) (N := 59) (ty := fy18 2) h rfl (by decide) rfl (tw9 (List.mem_of_getElem? (i := 86) rfl) rfl) (fp18 2 (by decide)) rfl (fun _ => rfl) (fun a _ => absurd a (by decide))
set_option maxRecDepth 100000 in
theorem pe18_147_1 (kn : List rM) {m : Nat} (h : (rE0.1 m).cls = "PackHouseModel$Writer") : rpo (rpar kn) rE0 m 147 (1, 14, 2, .ref 0) := po1 (C := "PackHouseModel$Reader") (T := FT14) (N := 47) (ty := fy14 2) h rfl (by decide) rfl (tn8 (List.mem_of_getElem? (i := 162) rfl) rfl) (fp14 2 (by decide)) rfl (fun _ => rfl) (fun a _ => absurd a (by decide)) (by decide)
set_option maxRecDepth 100000 in
theorem pe18_152_0 (kn : List rM) {m : Nat} (h : (rE0.1 m).cls = "PackHouseModel$Writer") : rpo (rpar kn) rE0 m 152 (0, 18, 4, .ref 0) := po0 (C := "PackHouseModel$Writer") (T := FT18) (N := 59) (ty := fy18 4) h rfl (by decide) rfl (tw9 (List.mem_of_getElem? (i := 88) rfl) rfl) (fp18 4 (by decide)) rfl (fun _ => rfl) (fun a _ => absurd a (by decide))
set_option maxRecDepth 100000 in
theorem pe18_153_1 (kn : List rM) {m : Nat} (h : (rE0.1 m).cls = "PackHouseModel$Writer") : rpo (rpar kn) rE0 m 153 (1, 14, 3, .ref 0) := po1 (C := "PackHouseModel$Reader") (T := FT14) (N := 47) (ty := fy14 3) h rfl (by decide) rfl (tn8 (List.mem_of_getElem? (i := 165) rfl) rfl) (fp14 3 (by decide)) rfl (fun _ => rfl) (fun a _ => absurd a (by decide)) (by decide)
set_option maxRecDepth 100000 in
theorem pe18_156_0 (kn : List rM) {m : Nat} (h : (rE0.1 m).cls = "PackHouseModel$Writer") : rpo (rpar kn) rE0 m 156 (0, 18, 5, .ref 0) := po0 (C := "PackHouseModel$Writer") (T := FT18) (N := 59) (ty := fy18 5) h rfl (by decide) rfl (tw9 (List.mem_of_getElem? (i := 89) rfl) rfl) (fp18 5 (by decide)) rfl (fun _ => rfl) (fun a _ => absurd a (by decide))
set_option maxRecDepth 100000 in
theorem pe18_157_1 (kn : List rM) {m : Nat} (h : (rE0.1 m).cls = "PackHouseModel$Writer") : rpo (rpar kn) rE0 m 157 (1, 14, 4, .ref 1) := po1 (C := "PackHouseModel$Reader") (T := FT14) (N := 47) (ty := fy14 4) h rfl (by decide) rfl (tn8 (List.mem_of_getElem? (i := 168) rfl) rfl) (fp14 4 (by decide)) rfl (fun _ => rfl) (fun a _ => absurd a (by decide)) (by decide)
set_option maxRecDepth 100000 in
theorem pe18_161_0 (kn : List rM) {m : Nat} (h : (rE0.1 m).cls = "PackHouseModel$Writer") : rpo (rpar kn) rE0 m 161 (0, 18, 6, .ref 1) := po0 (C := "PackHouseModel$Writer") (T := FT18) (N := 59) (ty := fy18 6) h rfl (by decide) rfl (tw9 (List.mem_of_getElem? (i := 90) rfl) rfl) (fp18 6 (by decide)) rfl (fun _ => rfl) (fun a _ => absurd a (by decide))
set_option maxRecDepth 100000 in
theorem pe18_162_1 (kn : List rM) {m : Nat} (h : (rE0.1 m).cls = "PackHouseModel$Writer") : rpo (rpar kn) rE0 m 162 (1, 14, 1, .ref 19) := po1 (C := "PackHouseModel$Reader") (T := FT14) (N := 47) (ty := fy14 1) h rfl (by decide) rfl (tn8 (List.mem_of_getElem? (i := 161) rfl) rfl) (fp14 1 (by decide)) rfl (fun a => absurd a (by decide)) (fun _ b => absurd b (by decide)) (by decide)
set_option maxRecDepth 100000 in
theorem pe18_163_1 (kn : List rM) {m : Nat} (h : (rE0.1 m).cls = "PackHouseModel$Writer") : rpo (rpar kn) rE0 m 163 (1, 14, 5, .ref 19) := po1 (C := "PackHouseModel$Reader") (T := FT14) (N := 47) (ty := fy14 5) h rfl (by decide) rfl (tn8 (List.mem_of_getElem? (i := 171) rfl) rfl) (fp14 5 (by decide)) rfl (fun a => absurd a (by decide)) (fun _ b => absurd b (by decide)) (by decide)
set_option maxRecDepth 100000 in
theorem pe18_164_1 (kn : List rM) {m : Nat} (h : (rE0.1 m).cls = "PackHouseModel$Writer") : rpo (rpar kn) rE0 m 164 (1, 14, 6, .ref 19) := po1 (C := "PackHouseModel$Reader") (T := FT14) (N := 47) (ty := fy14 6) h rfl (by decide) rfl (tn8 (List.mem_of_getElem? (i := 173) rfl) rfl) (fp14 6 (by decide)) rfl (fun a => absurd a (by decide)) (fun _ b => absurd b (by decide)) (by decide)
set_option maxRecDepth 100000 in
theorem pe18_165_1 (kn : List rM) {m : Nat} (h : (rE0.1 m).cls = "PackHouseModel$Writer") : rpo (rpar kn) rE0 m 165 (1, 14, 7, .ref 19) := po1 (C := "PackHouseModel$Reader") (T := FT14) (N := 47) (ty := fy14 7) h rfl (by decide) rfl (tn8 (List.mem_of_getElem? (i := 175) rfl) rfl) (fp14 7 (by decide)) rfl (fun a => absurd a (by decide)) (fun _ b => absurd b (by decide)) (by decide)
set_option maxRecDepth 100000 in
theorem pe18_166_1 (kn : List rM) {m : Nat} (h : (rE0.1 m).cls = "PackHouseModel$Writer") : rpo (rpar kn) rE0 m 166 (1, 14, 8, .ref 19) := po1 (C := "PackHouseModel$Reader") (T := FT14) (N := 47) (ty := fy14 8) h rfl (by decide) rfl (tn8 (List.mem_of_getElem? (i := 177) rfl) rfl) (fp14 8 (by decide)) rfl (fun a => absurd a (by decide)) (fun _ b => absurd b (by decide)) (by decide)
set_option maxRecDepth 100000 in
theorem pe18_168_0 (kn : List rM) {m : Nat} (h : (rE0.1 m).cls = "PackHouseModel$Writer") : rpo (rpar kn) rE0 m 168 (0, 18, 35, .ref 0) := po0 (C := "PackHouseModel$Writer") (T := FT18) (N := 59) (ty := fy18 35) h rfl (by decide) rfl (tw9 (List.mem_of_getElem? (i := 119) rfl) rfl) (fp18 35 (by decide)) rfl (fun _ => rfl) (fun a _ => absurd a (by decide))
set_option maxRecDepth 100000 in
theorem pe18_171_10 (kn : List rM) {m : Nat} (h : (rE0.1 m).cls = "PackHouseModel$Writer") : rpo (rpar kn) rE0 m 171 (10, 0, 0, .int (192000)) := po10 h (tw12 (List.mem_of_getElem? (i := 112) rfl) rfl)
set_option maxRecDepth 100000 in
theorem pe18_172_0 (kn : List rM) {m : Nat} (h : (rE0.1 m).cls = "PackHouseModel$Writer") : rpo (rpar kn) rE0 m 172 (0, 18, 37, .ref 0) := po0 (C := "PackHouseModel$Writer") (T := FT18) (N := 59) (ty := fy18 37) h rfl (by decide) rfl (tw9 (List.mem_of_getElem? (i := 121) rfl) rfl) (fp18 37 (by decide)) rfl (fun _ => rfl) (fun a _ => absurd a (by decide))
set_option maxRecDepth 100000 in
theorem pe18_175_11 (kn : List rM) {m : Nat} (h : (rE0.1 m).cls = "PackHouseModel$Writer") : rpo (rpar kn) rE0 m 175 (11, 0, 0, .long (255)) := po11 h (tw12 (List.mem_of_getElem? (i := 7) rfl) rfl)
set_option maxRecDepth 100000 in
theorem pe18_177_20 (kn : List rM) {m : Nat} (h : (rE0.1 m).cls = "PackHouseModel$Writer") : rpo (rpar kn) rE0 m 177 (20, 392, 1, .ref 18) := po20 h (pm392 kn) (tw12 (List.mem_of_getElem? (i := 8) rfl) rfl) (tw12 (List.mem_of_getElem? (i := 10) rfl) rfl) (pw10 (List.mem_of_getElem? (i := 1) rfl)) rfl rfl
set_option maxRecDepth 100000 in
theorem pe18_181_1 (kn : List rM) {m : Nat} (h : (rE0.1 m).cls = "PackHouseModel$Writer") : rpo (rpar kn) rE0 m 181 (1, 13, 2, .ref 19) := po1 (C := "PackHouseModel$Desk") (T := FT13) (N := 5) (ty := fy13 2) h rfl (by decide) rfl (tn8 (List.mem_of_getElem? (i := 9) rfl) rfl) (fp13 2 (by decide)) rfl (fun a => absurd a (by decide)) (fun _ b => absurd b (by decide)) (by decide)
set_option maxRecDepth 100000 in
theorem pe18_186_1 (kn : List rM) {m : Nat} (h : (rE0.1 m).cls = "PackHouseModel$Writer") : rpo (rpar kn) rE0 m 186 (1, 13, 3, .ref 0) := po1 (C := "PackHouseModel$Desk") (T := FT13) (N := 5) (ty := fy13 3) h rfl (by decide) rfl (tn8 (List.mem_of_getElem? (i := 14) rfl) rfl) (fp13 3 (by decide)) rfl (fun _ => rfl) (fun a _ => absurd a (by decide)) (by decide)
set_option maxRecDepth 100000 in
theorem pe18_189_0 (kn : List rM) {m : Nat} (h : (rE0.1 m).cls = "PackHouseModel$Writer") : rpo (rpar kn) rE0 m 189 (0, 18, 22, .ref 0) := po0 (C := "PackHouseModel$Writer") (T := FT18) (N := 59) (ty := fy18 22) h rfl (by decide) rfl (tw9 (List.mem_of_getElem? (i := 106) rfl) rfl) (fp18 22 (by decide)) rfl (fun _ => rfl) (fun a _ => absurd a (by decide))
set_option maxRecDepth 100000 in
theorem pe18_192_10 (kn : List rM) {m : Nat} (h : (rE0.1 m).cls = "PackHouseModel$Writer") : rpo (rpar kn) rE0 m 192 (10, 0, 0, .int (131074)) := po10 h (tw12 (List.mem_of_getElem? (i := 41) rfl) rfl)
set_option maxRecDepth 100000 in
theorem pe18_193_0 (kn : List rM) {m : Nat} (h : (rE0.1 m).cls = "PackHouseModel$Writer") : rpo (rpar kn) rE0 m 193 (0, 18, 24, .ref 0) := po0 (C := "PackHouseModel$Writer") (T := FT18) (N := 59) (ty := fy18 24) h rfl (by decide) rfl (tw9 (List.mem_of_getElem? (i := 108) rfl) rfl) (fp18 24 (by decide)) rfl (fun _ => rfl) (fun a _ => absurd a (by decide))
set_option maxRecDepth 100000 in
theorem pe18_196_20 (kn : List rM) {m : Nat} (h : (rE0.1 m).cls = "PackHouseModel$Writer") : rpo (rpar kn) rE0 m 196 (20, 396, 3, .ref 18) := po20 h (pm396 kn) (tw12 (List.mem_of_getElem? (i := 42) rfl) rfl) (tw12 (List.mem_of_getElem? (i := 44) rfl) rfl) (pw10 (List.mem_of_getElem? (i := 9) rfl)) rfl rfl
set_option maxRecDepth 100000 in
theorem pe18_200_0 (kn : List rM) {m : Nat} (h : (rE0.1 m).cls = "PackHouseModel$Writer") : rpo (rpar kn) rE0 m 200 (0, 18, 23, .ref 0) := po0 (C := "PackHouseModel$Writer") (T := FT18) (N := 59) (ty := fy18 23) h rfl (by decide) rfl (tw9 (List.mem_of_getElem? (i := 107) rfl) rfl) (fp18 23 (by decide)) rfl (fun _ => rfl) (fun a _ => absurd a (by decide))
set_option maxRecDepth 100000 in
theorem pe18_203_20 (kn : List rM) {m : Nat} (h : (rE0.1 m).cls = "PackHouseModel$Writer") : rpo (rpar kn) rE0 m 203 (20, 397, 2, .ref 18) := po20 h (pm397 kn) (tw12 (List.mem_of_getElem? (i := 37) rfl) rfl) (tw12 (List.mem_of_getElem? (i := 39) rfl) rfl) (pw10 (List.mem_of_getElem? (i := 8) rfl)) rfl rfl
set_option maxRecDepth 100000 in
theorem pe18_207_0 (kn : List rM) {m : Nat} (h : (rE0.1 m).cls = "PackHouseModel$Writer") : rpo (rpar kn) rE0 m 207 (0, 18, 28, .ref 0) := po0 (C := "PackHouseModel$Writer") (T := FT18) (N := 59) (ty := fy18 28) h rfl (by decide) rfl (tw9 (List.mem_of_getElem? (i := 112) rfl) rfl) (fp18 28 (by decide)) rfl (fun _ => rfl) (fun a _ => absurd a (by decide))
set_option maxRecDepth 100000 in
theorem pe18_210_0 (kn : List rM) {m : Nat} (h : (rE0.1 m).cls = "PackHouseModel$Writer") : rpo (rpar kn) rE0 m 210 (0, 18, 30, .ref 0) := po0 (C := "PackHouseModel$Writer") (T := FT18) (N := 59) (ty := fy18 30) h rfl (by decide) rfl (tw9 (List.mem_of_getElem? (i := 114) rfl) rfl) (fp18 30 (by decide)) rfl (fun _ => rfl) (fun a _ => absurd a (by decide))
set_option maxRecDepth 100000 in
theorem pe18_213_20 (kn : List rM) {m : Nat} (h : (rE0.1 m).cls = "PackHouseModel$Writer") : rpo (rpar kn) rE0 m 213 (20, 398, 1, .ref 18) := po20 h (pm398 kn) (tw12 (List.mem_of_getElem? (i := 33) rfl) rfl) (tw12 (List.mem_of_getElem? (i := 35) rfl) rfl) (pw10 (List.mem_of_getElem? (i := 7) rfl)) rfl rfl
set_option maxRecDepth 100000 in
theorem pe18_217_24 (kn : List rM) {m : Nat} (h : (rE0.1 m).cls = "PackHouseModel$Writer") : rpo (rpar kn) rE0 m 217 (24, 401, 1, .null) := po24 h (pm401 kn) (tw12 (List.mem_of_getElem? (i := 167) rfl) rfl) (tw12 (List.mem_of_getElem? (i := 168) rfl) rfl)
set_option maxRecDepth 100000 in
theorem pe18_220_20 (kn : List rM) {m : Nat} (h : (rE0.1 m).cls = "PackHouseModel$Writer") : rpo (rpar kn) rE0 m 220 (20, 403, 5, .ref 18) := po20 h (pm403 kn) (tw12 (List.mem_of_getElem? (i := 170) rfl) rfl) (tw12 (List.mem_of_getElem? (i := 172) rfl) rfl) (pw12 (List.mem_of_getElem? (i := 5) rfl)) rfl rfl
set_option maxRecDepth 100000 in
theorem pe18_224_24 (kn : List rM) {m : Nat} (h : (rE0.1 m).cls = "PackHouseModel$Writer") : rpo (rpar kn) rE0 m 224 (24, 402, 1, .null) := po24 h (pm402 kn) (tw12 (List.mem_of_getElem? (i := 174) rfl) rfl) (tw12 (List.mem_of_getElem? (i := 175) rfl) rfl)
set_option maxRecDepth 100000 in
theorem pe18_227_20 (kn : List rM) {m : Nat} (h : (rE0.1 m).cls = "PackHouseModel$Writer") : rpo (rpar kn) rE0 m 227 (20, 405, 2, .ref 18) := po20 h (pm405 kn) (tw12 (List.mem_of_getElem? (i := 177) rfl) rfl) (tw12 (List.mem_of_getElem? (i := 179) rfl) rfl) (pw12 (List.mem_of_getElem? (i := 6) rfl)) rfl rfl
set_option maxRecDepth 100000 in
theorem pe18_229_24 (kn : List rM) {m : Nat} (h : (rE0.1 m).cls = "PackHouseModel$Writer") : rpo (rpar kn) rE0 m 229 (24, 400, 1, .null) := po24 h (pm400 kn) (tw12 (List.mem_of_getElem? (i := 124) rfl) rfl) (tw12 (List.mem_of_getElem? (i := 125) rfl) rfl)
set_option maxRecDepth 100000 in
theorem pe18_232_24 (kn : List rM) {m : Nat} (h : (rE0.1 m).cls = "PackHouseModel$Writer") : rpo (rpar kn) rE0 m 232 (24, 406, 1, .null) := po24 h (pm406 kn) (tw12 (List.mem_of_getElem? (i := 117) rfl) rfl) (tw12 (List.mem_of_getElem? (i := 118) rfl) rfl)
set_option maxRecDepth 100000 in
theorem pe18_235_20 (kn : List rM) {m : Nat} (h : (rE0.1 m).cls = "PackHouseModel$Writer") : rpo (rpar kn) rE0 m 235 (20, 407, 5, .ref 18) := po20 h (pm407 kn) (tw12 (List.mem_of_getElem? (i := 131) rfl) rfl) (tw12 (List.mem_of_getElem? (i := 133) rfl) rfl) (pw11 (List.mem_of_getElem? (i := 12) rfl)) rfl rfl
set_option maxRecDepth 100000 in
theorem pe18_239_20 (kn : List rM) {m : Nat} (h : (rE0.1 m).cls = "PackHouseModel$Writer") : rpo (rpar kn) rE0 m 239 (20, 408, 4, .ref 18) := po20 h (pm408 kn) (tw12 (List.mem_of_getElem? (i := 135) rfl) rfl) (tw12 (List.mem_of_getElem? (i := 137) rfl) rfl) (pw11 (List.mem_of_getElem? (i := 13) rfl)) rfl rfl
set_option maxRecDepth 100000 in
theorem pe18_243_20 (kn : List rM) {m : Nat} (h : (rE0.1 m).cls = "PackHouseModel$Writer") : rpo (rpar kn) rE0 m 243 (20, 409, 4, .ref 18) := po20 h (pm409 kn) (tw12 (List.mem_of_getElem? (i := 139) rfl) rfl) (tw12 (List.mem_of_getElem? (i := 141) rfl) rfl) (pw11 (List.mem_of_getElem? (i := 14) rfl)) rfl rfl
set_option maxRecDepth 100000 in
theorem pe18_247_20 (kn : List rM) {m : Nat} (h : (rE0.1 m).cls = "PackHouseModel$Writer") : rpo (rpar kn) rE0 m 247 (20, 389, 2, .ref 18) := po20 h (pm389 kn) (tw12 (List.mem_of_getElem? (i := 108) rfl) rfl) (tw12 (List.mem_of_getElem? (i := 110) rfl) rfl) (pw11 (List.mem_of_getElem? (i := 8) rfl)) rfl rfl
set_option maxRecDepth 100000 in
theorem pe18_251_20 (kn : List rM) {m : Nat} (h : (rE0.1 m).cls = "PackHouseModel$Writer") : rpo (rpar kn) rE0 m 251 (20, 390, 0, .ref 18) := po20 h (pm390 kn) (tw12 (List.mem_of_getElem? (i := 127) rfl) rfl) (tw12 (List.mem_of_getElem? (i := 129) rfl) rfl) (pw11 (List.mem_of_getElem? (i := 11) rfl)) rfl rfl
set_option maxRecDepth 100000 in
theorem pe18_254_20 (kn : List rM) {m : Nat} (h : (rE0.1 m).cls = "PackHouseModel$Writer") : rpo (rpar kn) rE0 m 254 (20, 414, 1, .ref 18) := po20 h (pm414 kn) (tw12 (List.mem_of_getElem? (i := 189) rfl) rfl) (tw12 (List.mem_of_getElem? (i := 191) rfl) rfl) (pw12 (List.mem_of_getElem? (i := 9) rfl)) rfl rfl
set_option maxRecDepth 100000 in
theorem pe18_257_20 (kn : List rM) {m : Nat} (h : (rE0.1 m).cls = "PackHouseModel$Writer") : rpo (rpar kn) rE0 m 257 (20, 415, 2, .ref 18) := po20 h (pm415 kn) (tw12 (List.mem_of_getElem? (i := 209) rfl) rfl) (tw12 (List.mem_of_getElem? (i := 211) rfl) rfl) (pw12 (List.mem_of_getElem? (i := 14) rfl)) rfl rfl
set_option maxRecDepth 100000 in
theorem pe18_260_20 (kn : List rM) {m : Nat} (h : (rE0.1 m).cls = "PackHouseModel$Writer") : rpo (rpar kn) rE0 m 260 (20, 411, 2, .ref 18) := po20 h (pm411 kn) (tw12 (List.mem_of_getElem? (i := 113) rfl) rfl) (tw12 (List.mem_of_getElem? (i := 115) rfl) rfl) (pw11 (List.mem_of_getElem? (i := 9) rfl)) rfl rfl
set_option maxRecDepth 100000 in
theorem pe18_263_20 (kn : List rM) {m : Nat} (h : (rE0.1 m).cls = "PackHouseModel$Writer") : rpo (rpar kn) rE0 m 263 (20, 391, 0, .ref 18) := po20 h (pm391 kn) (tw12 (List.mem_of_getElem? (i := 104) rfl) rfl) (tw12 (List.mem_of_getElem? (i := 106) rfl) rfl) (pw11 (List.mem_of_getElem? (i := 7) rfl)) rfl rfl
set_option maxRecDepth 100000 in
theorem pe18_266_20 (kn : List rM) {m : Nat} (h : (rE0.1 m).cls = "PackHouseModel$Writer") : rpo (rpar kn) rE0 m 266 (20, 412, 3, .ref 18) := po20 h (pm412 kn) (tw12 (List.mem_of_getElem? (i := 120) rfl) rfl) (tw12 (List.mem_of_getElem? (i := 122) rfl) rfl) (pw11 (List.mem_of_getElem? (i := 10) rfl)) rfl rfl
set_option maxRecDepth 100000 in
theorem pe18_270_20 (kn : List rM) {m : Nat} (h : (rE0.1 m).cls = "PackHouseModel$Writer") : rpo (rpar kn) rE0 m 270 (20, 410, 4, .ref 18) := po20 h (pm410 kn) (tw12 (List.mem_of_getElem? (i := 201) rfl) rfl) (tw12 (List.mem_of_getElem? (i := 203) rfl) rfl) (pw12 (List.mem_of_getElem? (i := 12) rfl)) rfl rfl
set_option maxRecDepth 100000 in
theorem pe18_274_20 (kn : List rM) {m : Nat} (h : (rE0.1 m).cls = "PackHouseModel$Writer") : rpo (rpar kn) rE0 m 274 (20, 416, 3, .ref 18) := po20 h (pm416 kn) (tw12 (List.mem_of_getElem? (i := 197) rfl) rfl) (tw12 (List.mem_of_getElem? (i := 199) rfl) rfl) (pw12 (List.mem_of_getElem? (i := 11) rfl)) rfl rfl
set_option maxRecDepth 100000 in
theorem pe18_277_0 (kn : List rM) {m : Nat} (h : (rE0.1 m).cls = "PackHouseModel$Writer") : rpo (rpar kn) rE0 m 277 (0, 18, 49, .ref 0) := po0 (C := "PackHouseModel$Writer") (T := FT18) (N := 59) (ty := fy18 49) h rfl (by decide) rfl (tw9 (List.mem_of_getElem? (i := 133) rfl) rfl) (fp18 49 (by decide)) rfl (fun _ => rfl) (fun a _ => absurd a (by decide))
set_option maxRecDepth 100000 in
theorem pe18_280_20 (kn : List rM) {m : Nat} (h : (rE0.1 m).cls = "PackHouseModel$Writer") : rpo (rpar kn) rE0 m 280 (20, 418, 1, .ref 18) := po20 h (pm418 kn) (tw12 (List.mem_of_getElem? (i := 88) rfl) rfl) (tw12 (List.mem_of_getElem? (i := 90) rfl) rfl) (pw11 (List.mem_of_getElem? (i := 3) rfl)) rfl rfl
set_option maxRecDepth 100000 in
theorem pe18_283_20 (kn : List rM) {m : Nat} (h : (rE0.1 m).cls = "PackHouseModel$Writer") : rpo (rpar kn) rE0 m 283 (20, 419, 0, .ref 18) := po20 h (pm419 kn) (tw12 (List.mem_of_getElem? (i := 84) rfl) rfl) (tw12 (List.mem_of_getElem? (i := 86) rfl) rfl) (pw11 (List.mem_of_getElem? (i := 2) rfl)) rfl rfl
set_option maxRecDepth 100000 in
theorem pe18_287_0 (kn : List rM) {m : Nat} (h : (rE0.1 m).cls = "PackHouseModel$Writer") : rpo (rpar kn) rE0 m 287 (0, 18, 53, .ref 0) := po0 (C := "PackHouseModel$Writer") (T := FT18) (N := 59) (ty := fy18 53) h rfl (by decide) rfl (tw9 (List.mem_of_getElem? (i := 137) rfl) rfl) (fp18 53 (by decide)) rfl (fun _ => rfl) (fun a _ => absurd a (by decide))
set_option maxRecDepth 100000 in
theorem pe18_290_20 (kn : List rM) {m : Nat} (h : (rE0.1 m).cls = "PackHouseModel$Writer") : rpo (rpar kn) rE0 m 290 (20, 421, 2, .ref 18) := po20 h (pm421 kn) (tw12 (List.mem_of_getElem? (i := 96) rfl) rfl) (tw12 (List.mem_of_getElem? (i := 98) rfl) rfl) (pw11 (List.mem_of_getElem? (i := 5) rfl)) rfl rfl
set_option maxRecDepth 100000 in
theorem pe18_293_20 (kn : List rM) {m : Nat} (h : (rE0.1 m).cls = "PackHouseModel$Writer") : rpo (rpar kn) rE0 m 293 (20, 423, 1, .ref 18) := po20 h (pm423 kn) (tw12 (List.mem_of_getElem? (i := 100) rfl) rfl) (tw12 (List.mem_of_getElem? (i := 102) rfl) rfl) (pw11 (List.mem_of_getElem? (i := 6) rfl)) rfl rfl
set_option maxRecDepth 100000 in
theorem pe18_296_20 (kn : List rM) {m : Nat} (h : (rE0.1 m).cls = "PackHouseModel$Writer") : rpo (rpar kn) rE0 m 296 (20, 424, 3, .ref 18) := po20 h (pm424 kn) (tw12 (List.mem_of_getElem? (i := 62) rfl) rfl) (tw12 (List.mem_of_getElem? (i := 64) rfl) rfl) (pw10 (List.mem_of_getElem? (i := 14) rfl)) rfl rfl
set_option maxRecDepth 100000 in
theorem pe18_300_20 (kn : List rM) {m : Nat} (h : (rE0.1 m).cls = "PackHouseModel$Writer") : rpo (rpar kn) rE0 m 300 (20, 425, 1, .ref 18) := po20 h (pm425 kn) (tw12 (List.mem_of_getElem? (i := 66) rfl) rfl) (tw12 (List.mem_of_getElem? (i := 68) rfl) rfl) (pw10 (List.mem_of_getElem? (i := 15) rfl)) rfl rfl
set_option maxRecDepth 100000 in
theorem pe18_304_24 (kn : List rM) {m : Nat} (h : (rE0.1 m).cls = "PackHouseModel$Writer") : rpo (rpar kn) rE0 m 304 (24, 427, 1, .null) := po24 h (pm427 kn) (tw12 (List.mem_of_getElem? (i := 74) rfl) rfl) (tw12 (List.mem_of_getElem? (i := 75) rfl) rfl)
set_option maxRecDepth 100000 in
theorem pe18_307_0 (kn : List rM) {m : Nat} (h : (rE0.1 m).cls = "PackHouseModel$Writer") : rpo (rpar kn) rE0 m 307 (0, 18, 12, .ref 0) := po0 (C := "PackHouseModel$Writer") (T := FT18) (N := 59) (ty := fy18 12) h rfl (by decide) rfl (tw9 (List.mem_of_getElem? (i := 96) rfl) rfl) (fp18 12 (by decide)) rfl (fun _ => rfl) (fun a _ => absurd a (by decide))
set_option maxRecDepth 100000 in
theorem pe18_310_20 (kn : List rM) {m : Nat} (h : (rE0.1 m).cls = "PackHouseModel$Writer") : rpo (rpar kn) rE0 m 310 (20, 432, 0, .ref 18) := po20 h (pm432 kn) (tw12 (List.mem_of_getElem? (i := 50) rfl) rfl) (tw12 (List.mem_of_getElem? (i := 52) rfl) rfl) (pw10 (List.mem_of_getElem? (i := 11) rfl)) rfl rfl
set_option maxRecDepth 100000 in
theorem pe18_314_20 (kn : List rM) {m : Nat} (h : (rE0.1 m).cls = "PackHouseModel$Writer") : rpo (rpar kn) rE0 m 314 (20, 433, 0, .ref 18) := po20 h (pm433 kn) (tw12 (List.mem_of_getElem? (i := 54) rfl) rfl) (tw12 (List.mem_of_getElem? (i := 56) rfl) rfl) (pw10 (List.mem_of_getElem? (i := 12) rfl)) rfl rfl
set_option maxRecDepth 100000 in
theorem pe18_317_20 (kn : List rM) {m : Nat} (h : (rE0.1 m).cls = "PackHouseModel$Writer") : rpo (rpar kn) rE0 m 317 (20, 426, 2, .ref 18) := po20 h (pm426 kn) (tw12 (List.mem_of_getElem? (i := 58) rfl) rfl) (tw12 (List.mem_of_getElem? (i := 60) rfl) rfl) (pw10 (List.mem_of_getElem? (i := 13) rfl)) rfl rfl
set_option maxRecDepth 100000 in
theorem pe18_321_20 (kn : List rM) {m : Nat} (h : (rE0.1 m).cls = "PackHouseModel$Writer") : rpo (rpar kn) rE0 m 321 (20, 429, 1, .ref 18) := po20 h (pm429 kn) (tw12 (List.mem_of_getElem? (i := 70) rfl) rfl) (tw12 (List.mem_of_getElem? (i := 72) rfl) rfl) (pw11 (List.mem_of_getElem? (i := 0) rfl)) rfl rfl
set_option maxRecDepth 100000 in
theorem pe18_324_24 (kn : List rM) {m : Nat} (h : (rE0.1 m).cls = "PackHouseModel$Writer") : rpo (rpar kn) rE0 m 324 (24, 428, 1, .null) := po24 h (pm428 kn) (tw12 (List.mem_of_getElem? (i := 77) rfl) rfl) (tw12 (List.mem_of_getElem? (i := 78) rfl) rfl)
set_option maxRecDepth 100000 in
theorem pe18_327_20 (kn : List rM) {m : Nat} (h : (rE0.1 m).cls = "PackHouseModel$Writer") : rpo (rpar kn) rE0 m 327 (20, 420, 0, .ref 18) := po20 h (pm420 kn) (tw12 (List.mem_of_getElem? (i := 80) rfl) rfl) (tw12 (List.mem_of_getElem? (i := 82) rfl) rfl) (pw11 (List.mem_of_getElem? (i := 1) rfl)) rfl rfl
set_option maxRecDepth 100000 in
theorem pe18_330_20 (kn : List rM) {m : Nat} (h : (rE0.1 m).cls = "PackHouseModel$Writer") : rpo (rpar kn) rE0 m 330 (20, 422, 1, .ref 18) := po20 h (pm422 kn) (tw12 (List.mem_of_getElem? (i := 92) rfl) rfl) (tw12 (List.mem_of_getElem? (i := 94) rfl) rfl) (pw11 (List.mem_of_getElem? (i := 4) rfl)) rfl rfl
set_option maxRecDepth 100000 in
theorem pe18_333_20 (kn : List rM) {m : Nat} (h : (rE0.1 m).cls = "PackHouseModel$Writer") : rpo (rpar kn) rE0 m 333 (20, 435, 3, .ref 18) := po20 h (pm435 kn) (tw12 (List.mem_of_getElem? (i := 143) rfl) rfl) (tw12 (List.mem_of_getElem? (i := 145) rfl) rfl) (pw11 (List.mem_of_getElem? (i := 15) rfl)) rfl rfl
set_option maxRecDepth 100000 in
theorem pe18_337_20 (kn : List rM) {m : Nat} (h : (rE0.1 m).cls = "PackHouseModel$Writer") : rpo (rpar kn) rE0 m 337 (20, 394, 0, .ref 18) := po20 h (pm394 kn) (tw12 (List.mem_of_getElem? (i := 147) rfl) rfl) (tw12 (List.mem_of_getElem? (i := 149) rfl) rfl) (pw12 (List.mem_of_getElem? (i := 0) rfl)) rfl rfl
set_option maxRecDepth 100000 in
theorem pe18_340_20 (kn : List rM) {m : Nat} (h : (rE0.1 m).cls = "PackHouseModel$Writer") : rpo (rpar kn) rE0 m 340 (20, 393, 2, .ref 18) := po20 h (pm393 kn) (tw12 (List.mem_of_getElem? (i := 3) rfl) rfl) (tw12 (List.mem_of_getElem? (i := 5) rfl) rfl) (pw10 (List.mem_of_getElem? (i := 0) rfl)) rfl rfl
set_option maxRecDepth 100000 in
theorem pe18_344_20 (kn : List rM) {m : Nat} (h : (rE0.1 m).cls = "PackHouseModel$Writer") : rpo (rpar kn) rE0 m 344 (20, 430, 2, .ref 18) := po20 h (pm430 kn) (tw12 (List.mem_of_getElem? (i := 151) rfl) rfl) (tw12 (List.mem_of_getElem? (i := 153) rfl) rfl) (pw12 (List.mem_of_getElem? (i := 1) rfl)) rfl rfl
set_option maxRecDepth 100000 in
theorem pe18_348_20 (kn : List rM) {m : Nat} (h : (rE0.1 m).cls = "PackHouseModel$Writer") : rpo (rpar kn) rE0 m 348 (20, 431, 2, .ref 18) := po20 h (pm431 kn) (tw12 (List.mem_of_getElem? (i := 155) rfl) rfl) (tw12 (List.mem_of_getElem? (i := 157) rfl) rfl) (pw12 (List.mem_of_getElem? (i := 2) rfl)) rfl rfl
set_option maxRecDepth 100000 in
theorem pe18_351_20 (kn : List rM) {m : Nat} (h : (rE0.1 m).cls = "PackHouseModel$Writer") : rpo (rpar kn) rE0 m 351 (20, 436, 0, .ref 18) := po20 h (pm436 kn) (tw12 (List.mem_of_getElem? (i := 159) rfl) rfl) (tw12 (List.mem_of_getElem? (i := 161) rfl) rfl) (pw12 (List.mem_of_getElem? (i := 3) rfl)) rfl rfl
set_option maxRecDepth 100000 in
theorem pe18_354_20 (kn : List rM) {m : Nat} (h : (rE0.1 m).cls = "PackHouseModel$Writer") : rpo (rpar kn) rE0 m 354 (20, 417, 1, .ref 18) := po20 h (pm417 kn) (tw12 (List.mem_of_getElem? (i := 193) rfl) rfl) (tw12 (List.mem_of_getElem? (i := 195) rfl) rfl) (pw12 (List.mem_of_getElem? (i := 10) rfl)) rfl rfl
set_option maxRecDepth 100000 in
theorem pe18_357_20 (kn : List rM) {m : Nat} (h : (rE0.1 m).cls = "PackHouseModel$Writer") : rpo (rpar kn) rE0 m 357 (20, 413, 1, .ref 18) := po20 h (pm413 kn) (tw12 (List.mem_of_getElem? (i := 205) rfl) rfl) (tw12 (List.mem_of_getElem? (i := 207) rfl) rfl) (pw12 (List.mem_of_getElem? (i := 13) rfl)) rfl rfl
set_option maxRecDepth 100000 in
theorem pe18_360_20 (kn : List rM) {m : Nat} (h : (rE0.1 m).cls = "PackHouseModel$Writer") : rpo (rpar kn) rE0 m 360 (20, 438, 3, .ref 18) := po20 h (pm438 kn) (tw12 (List.mem_of_getElem? (i := 213) rfl) rfl) (tw12 (List.mem_of_getElem? (i := 215) rfl) rfl) (pw12 (List.mem_of_getElem? (i := 15) rfl)) rfl rfl
set_option maxRecDepth 100000 in
theorem pe18_363_20 (kn : List rM) {m : Nat} (h : (rE0.1 m).cls = "PackHouseModel$Writer") : rpo (rpar kn) rE0 m 363 (20, 439, 2, .ref 18) := po20 h (pm439 kn) (tw12 (List.mem_of_getElem? (i := 229) rfl) rfl) (tw12 (List.mem_of_getElem? (i := 231) rfl) rfl) (pw13 (List.mem_of_getElem? (i := 3) rfl)) rfl rfl
set_option maxRecDepth 100000 in
theorem pe18_366_20 (kn : List rM) {m : Nat} (h : (rE0.1 m).cls = "PackHouseModel$Writer") : rpo (rpar kn) rE0 m 366 (20, 442, 1, .ref 18) := po20 h (pm442 kn) (tw12 (List.mem_of_getElem? (i := 221) rfl) rfl) (tw12 (List.mem_of_getElem? (i := 223) rfl) rfl) (pw13 (List.mem_of_getElem? (i := 1) rfl)) rfl rfl
set_option maxRecDepth 100000 in
theorem pe18_369_20 (kn : List rM) {m : Nat} (h : (rE0.1 m).cls = "PackHouseModel$Writer") : rpo (rpar kn) rE0 m 369 (20, 440, 1, .ref 18) := po20 h (pm440 kn) (tw12 (List.mem_of_getElem? (i := 225) rfl) rfl) (tw12 (List.mem_of_getElem? (i := 227) rfl) rfl) (pw13 (List.mem_of_getElem? (i := 2) rfl)) rfl rfl
set_option maxRecDepth 100000 in
theorem pe18_372_20 (kn : List rM) {m : Nat} (h : (rE0.1 m).cls = "PackHouseModel$Writer") : rpo (rpar kn) rE0 m 372 (20, 441, 3, .ref 18) := po20 h (pm441 kn) (tw12 (List.mem_of_getElem? (i := 233) rfl) rfl) (tw12 (List.mem_of_getElem? (i := 235) rfl) rfl) (pw13 (List.mem_of_getElem? (i := 4) rfl)) rfl rfl
set_option maxRecDepth 100000 in
theorem pe18_375_20 (kn : List rM) {m : Nat} (h : (rE0.1 m).cls = "PackHouseModel$Writer") : rpo (rpar kn) rE0 m 375 (20, 437, 1, .ref 18) := po20 h (pm437 kn) (tw12 (List.mem_of_getElem? (i := 185) rfl) rfl) (tw12 (List.mem_of_getElem? (i := 187) rfl) rfl) (pw12 (List.mem_of_getElem? (i := 8) rfl)) rfl rfl
set_option maxRecDepth 100000 in
theorem pe18_378_20 (kn : List rM) {m : Nat} (h : (rE0.1 m).cls = "PackHouseModel$Writer") : rpo (rpar kn) rE0 m 378 (20, 443, 0, .ref 18) := po20 h (pm443 kn) (tw12 (List.mem_of_getElem? (i := 217) rfl) rfl) (tw12 (List.mem_of_getElem? (i := 219) rfl) rfl) (pw13 (List.mem_of_getElem? (i := 0) rfl)) rfl rfl
set_option maxRecDepth 100000 in
theorem pe18_381_0 (kn : List rM) {m : Nat} (h : (rE0.1 m).cls = "PackHouseModel$Writer") : rpo (rpar kn) rE0 m 381 (0, 18, 17, .ref 0) := po0 (C := "PackHouseModel$Writer") (T := FT18) (N := 59) (ty := fy18 17) h rfl (by decide) rfl (tw9 (List.mem_of_getElem? (i := 101) rfl) rfl) (fp18 17 (by decide)) rfl (fun _ => rfl) (fun a _ => absurd a (by decide))
set_option maxRecDepth 100000 in
theorem pe18_384_1 (kn : List rM) {m : Nat} (h : (rE0.1 m).cls = "PackHouseModel$Writer") : rpo (rpar kn) rE0 m 384 (1, 13, 0, .ref 19) := po1 (C := "PackHouseModel$Desk") (T := FT13) (N := 5) (ty := fy13 0) h rfl (by decide) rfl (tn8 (List.mem_of_getElem? (i := 1) rfl) rfl) (fp13 0 (by decide)) rfl (fun a => absurd a (by decide)) (fun _ b => absurd b (by decide)) (by decide)
set_option maxRecDepth 100000 in
theorem pe18_387_20 (kn : List rM) {m : Nat} (h : (rE0.1 m).cls = "PackHouseModel$Writer") : rpo (rpar kn) rE0 m 387 (20, 448, 4, .ref 18) := po20 h (pm448 kn) (tw12 (List.mem_of_getElem? (i := 21) rfl) rfl) (tw12 (List.mem_of_getElem? (i := 23) rfl) rfl) (pw10 (List.mem_of_getElem? (i := 4) rfl)) rfl rfl
set_option maxRecDepth 100000 in
theorem pe18_391_20 (kn : List rM) {m : Nat} (h : (rE0.1 m).cls = "PackHouseModel$Writer") : rpo (rpar kn) rE0 m 391 (20, 445, 0, .ref 18) := po20 h (pm445 kn) (tw12 (List.mem_of_getElem? (i := 25) rfl) rfl) (tw12 (List.mem_of_getElem? (i := 27) rfl) rfl) (pw10 (List.mem_of_getElem? (i := 5) rfl)) rfl rfl
set_option maxRecDepth 100000 in
theorem pe18_394_20 (kn : List rM) {m : Nat} (h : (rE0.1 m).cls = "PackHouseModel$Writer") : rpo (rpar kn) rE0 m 394 (20, 399, 1, .ref 18) := po20 h (pm399 kn) (tw12 (List.mem_of_getElem? (i := 29) rfl) rfl) (tw12 (List.mem_of_getElem? (i := 31) rfl) rfl) (pw10 (List.mem_of_getElem? (i := 6) rfl)) rfl rfl
set_option maxRecDepth 100000 in
theorem pe18_397_20 (kn : List rM) {m : Nat} (h : (rE0.1 m).cls = "PackHouseModel$Writer") : rpo (rpar kn) rE0 m 397 (20, 434, 0, .ref 18) := po20 h (pm434 kn) (tw12 (List.mem_of_getElem? (i := 46) rfl) rfl) (tw12 (List.mem_of_getElem? (i := 48) rfl) rfl) (pw10 (List.mem_of_getElem? (i := 10) rfl)) rfl rfl
set_option maxRecDepth 100000 in
theorem pe18_400_20 (kn : List rM) {m : Nat} (h : (rE0.1 m).cls = "PackHouseModel$Writer") : rpo (rpar kn) rE0 m 400 (20, 404, 0, .ref 18) := po20 h (pm404 kn) (tw12 (List.mem_of_getElem? (i := 163) rfl) rfl) (tw12 (List.mem_of_getElem? (i := 165) rfl) rfl) (pw12 (List.mem_of_getElem? (i := 4) rfl)) rfl rfl
set_option maxRecDepth 100000 in
theorem pe18_403_20 (kn : List rM) {m : Nat} (h : (rE0.1 m).cls = "PackHouseModel$Writer") : rpo (rpar kn) rE0 m 403 (20, 444, 0, .ref 18) := po20 h (pm444 kn) (tw12 (List.mem_of_getElem? (i := 181) rfl) rfl) (tw12 (List.mem_of_getElem? (i := 183) rfl) rfl) (pw12 (List.mem_of_getElem? (i := 7) rfl)) rfl rfl
set_option maxRecDepth 100000 in
theorem pe18_406_20 (kn : List rM) {m : Nat} (h : (rE0.1 m).cls = "PackHouseModel$Writer") : rpo (rpar kn) rE0 m 406 (20, 446, 0, .ref 18) := po20 h (pm446 kn) (tw12 (List.mem_of_getElem? (i := 237) rfl) rfl) (tw12 (List.mem_of_getElem? (i := 239) rfl) rfl) (pw13 (List.mem_of_getElem? (i := 5) rfl)) rfl rfl
set_option maxRecDepth 100000 in
theorem pe18_409_1 (kn : List rM) {m : Nat} (h : (rE0.1 m).cls = "PackHouseModel$Writer") : rpo (rpar kn) rE0 m 409 (1, 13, 1, .ref 0) := po1 (C := "PackHouseModel$Desk") (T := FT13) (N := 5) (ty := fy13 1) h rfl (by decide) rfl (tn8 (List.mem_of_getElem? (i := 6) rfl) rfl) (fp13 1 (by decide)) rfl (fun _ => rfl) (fun a _ => absurd a (by decide)) (by decide)
set_option maxRecDepth 100000 in
theorem pe18_412_11 (kn : List rM) {m : Nat} (h : (rE0.1 m).cls = "PackHouseModel$Writer") : rpo (rpar kn) rE0 m 412 (11, 0, 0, .long (4294967295)) := po11 h (tw11 (List.mem_of_getElem? (i := 239) rfl) rfl)
set_option maxRecDepth 100000 in
theorem pe18_414_11 (kn : List rM) {m : Nat} (h : (rE0.1 m).cls = "PackHouseModel$Writer") : rpo (rpar kn) rE0 m 414 (11, 0, 0, .long (256)) := po11 h (tw12 (List.mem_of_getElem? (i := 0) rfl) rfl)
set_option maxRecDepth 100000 in
theorem pe18_416_11 (kn : List rM) {m : Nat} (h : (rE0.1 m).cls = "PackHouseModel$Writer") : rpo (rpar kn) rE0 m 416 (11, 0, 0, .long (65536)) := po11 h (tw12 (List.mem_of_getElem? (i := 1) rfl) rfl)
set_option maxRecDepth 100000 in
theorem pe18_418_11 (kn : List rM) {m : Nat} (h : (rE0.1 m).cls = "PackHouseModel$Writer") : rpo (rpar kn) rE0 m 418 (11, 0, 0, .long (4247762216)) := po11 h (tw12 (List.mem_of_getElem? (i := 2) rfl) rfl)
set_option maxRecDepth 100000 in
theorem pe18_420_10 (kn : List rM) {m : Nat} (h : (rE0.1 m).cls = "PackHouseModel$Writer") : rpo (rpar kn) rE0 m 420 (10, 0, 0, .int (131072)) := po10 h (tw12 (List.mem_of_getElem? (i := 12) rfl) rfl)
set_option maxRecDepth 100000 in
theorem pe18_421_20 (kn : List rM) {m : Nat} (h : (rE0.1 m).cls = "PackHouseModel$Writer") : rpo (rpar kn) rE0 m 421 (20, 447, 0, .ref 18) := po20 h (pm447 kn) (tw12 (List.mem_of_getElem? (i := 13) rfl) rfl) (tw12 (List.mem_of_getElem? (i := 15) rfl) rfl) (pw10 (List.mem_of_getElem? (i := 2) rfl)) rfl rfl
set_option maxRecDepth 100000 in
theorem pe18_424_20 (kn : List rM) {m : Nat} (h : (rE0.1 m).cls = "PackHouseModel$Writer") : rpo (rpar kn) rE0 m 424 (20, 449, 3, .ref 18) := po20 h (pm449 kn) (tw12 (List.mem_of_getElem? (i := 17) rfl) rfl) (tw12 (List.mem_of_getElem? (i := 19) rfl) rfl) (pw10 (List.mem_of_getElem? (i := 3) rfl)) rfl rfl
set_option maxRecDepth 100000 in
theorem pe18_428_20 (kn : List rM) {m : Nat} (h : (rE0.1 m).cls = "PackHouseModel$Writer") : rpo (rpar kn) rE0 m 428 (20, 453, 0, .ref 18) := po20 h (pm453 kn) (tw13 (List.mem_of_getElem? (i := 1) rfl) rfl) (tw13 (List.mem_of_getElem? (i := 3) rfl) rfl) (pw13 (List.mem_of_getElem? (i := 6) rfl)) rfl rfl
set_option maxRecDepth 100000 in
theorem pe18_432_20 (kn : List rM) {m : Nat} (h : (rE0.1 m).cls = "PackHouseModel$Writer") : rpo (rpar kn) rE0 m 432 (20, 395, 0, .ref 18) := po20 h (pm395 kn) (tw13 (List.mem_of_getElem? (i := 17) rfl) rfl) (tw13 (List.mem_of_getElem? (i := 19) rfl) rfl) (pw13 (List.mem_of_getElem? (i := 8) rfl)) rfl rfl
set_option maxRecDepth 100000 in
theorem pe18_435_11 (kn : List rM) {m : Nat} (h : (rE0.1 m).cls = "PackHouseModel$Writer") : rpo (rpar kn) rE0 m 435 (11, 0, 0, .long (-7046029288634856825)) := po11 h (tw13 (List.mem_of_getElem? (i := 5) rfl) rfl)
set_option maxRecDepth 100000 in
theorem pe18_437_11 (kn : List rM) {m : Nat} (h : (rE0.1 m).cls = "PackHouseModel$Writer") : rpo (rpar kn) rE0 m 437 (11, 0, 0, .long (-4417276706812531889)) := po11 h (tw13 (List.mem_of_getElem? (i := 6) rfl) rfl)
set_option maxRecDepth 100000 in
theorem pe18_439_11 (kn : List rM) {m : Nat} (h : (rE0.1 m).cls = "PackHouseModel$Writer") : rpo (rpar kn) rE0 m 439 (11, 0, 0, .long (1609587929392839161)) := po11 h (tw13 (List.mem_of_getElem? (i := 7) rfl) rfl)
set_option maxRecDepth 100000 in
theorem pe18_441_11 (kn : List rM) {m : Nat} (h : (rE0.1 m).cls = "PackHouseModel$Writer") : rpo (rpar kn) rE0 m 441 (11, 0, 0, .long (-8796714831421723037)) := po11 h (tw13 (List.mem_of_getElem? (i := 8) rfl) rfl)
set_option maxRecDepth 100000 in
theorem pe18_443_11 (kn : List rM) {m : Nat} (h : (rE0.1 m).cls = "PackHouseModel$Writer") : rpo (rpar kn) rE0 m 443 (11, 0, 0, .long (2870177450012600261)) := po11 h (tw13 (List.mem_of_getElem? (i := 9) rfl) rfl)
set_option maxRecDepth 100000 in
theorem pe18_445_20 (kn : List rM) {m : Nat} (h : (rE0.1 m).cls = "PackHouseModel$Writer") : rpo (rpar kn) rE0 m 445 (20, 452, 2, .ref 18) := po20 h (pm452 kn) (tw13 (List.mem_of_getElem? (i := 10) rfl) rfl) (tw13 (List.mem_of_getElem? (i := 12) rfl) rfl) (pw13 (List.mem_of_getElem? (i := 7) rfl)) rfl rfl
set_option maxRecDepth 100000 in
theorem pe18_449_24 (kn : List rM) {m : Nat} (h : (rE0.1 m).cls = "PackHouseModel$Writer") : rpo (rpar kn) rE0 m 449 (24, 451, 2, .null) := po24 h (pm451 kn) (tw13 (List.mem_of_getElem? (i := 14) rfl) rfl) (tw13 (List.mem_of_getElem? (i := 15) rfl) rfl)
set_option maxRecDepth 100000 in
theorem pe18_453_11 (kn : List rM) {m : Nat} (h : (rE0.1 m).cls = "PackHouseModel$Writer") : rpo (rpar kn) rE0 m 453 (11, 0, 0, .long (3962610743)) := po11 h (tw13 (List.mem_of_getElem? (i := 25) rfl) rfl)
set_option maxRecDepth 100000 in
theorem pe18_455_11 (kn : List rM) {m : Nat} (h : (rE0.1 m).cls = "PackHouseModel$Writer") : rpo (rpar kn) rE0 m 455 (11, 0, 0, .long (4)) := po11 h (tw13 (List.mem_of_getElem? (i := 26) rfl) rfl)
set_option maxRecDepth 100000 in
theorem pe18_457_11 (kn : List rM) {m : Nat} (h : (rE0.1 m).cls = "PackHouseModel$Writer") : rpo (rpar kn) rE0 m 457 (11, 0, 0, .long (8)) := po11 h (tw13 (List.mem_of_getElem? (i := 27) rfl) rfl)
set_option maxRecDepth 100000 in
theorem pl18 (kn : List rM) {m : Nat} (h : (rE0.1 m).cls = "PackHouseModel$Writer") : ∀ q ∈ pool_18, rpo (rpar kn) rE0 m q.1 q.2 := List.forall_mem_cons.mpr ⟨pe18_1_26 kn h, List.forall_mem_cons.mpr ⟨pe18_7_10 kn h, List.forall_mem_cons.mpr ⟨pe18_8_0 kn h, List.forall_mem_cons.mpr ⟨pe18_14_0 kn h, List.forall_mem_cons.mpr ⟨pe18_17_0 kn h, List.forall_mem_cons.mpr ⟨pe18_20_0 kn h, List.forall_mem_cons.mpr ⟨pe18_23_0 kn h, List.forall_mem_cons.mpr ⟨pe18_26_0 kn h, List.forall_mem_cons.mpr ⟨pe18_29_0 kn h, List.forall_mem_cons.mpr ⟨pe18_32_0 kn h, List.forall_mem_cons.mpr ⟨pe18_35_0 kn h, List.forall_mem_cons.mpr ⟨pe18_38_0 kn h, List.forall_mem_cons.mpr ⟨pe18_41_0 kn h, List.forall_mem_cons.mpr ⟨pe18_44_0 kn h, List.forall_mem_cons.mpr ⟨pe18_47_0 kn h, List.forall_mem_cons.mpr ⟨pe18_50_0 kn h, List.forall_mem_cons.mpr ⟨pe18_53_0 kn h, List.forall_mem_cons.mpr ⟨pe18_56_0 kn h, List.forall_mem_cons.mpr ⟨pe18_59_0 kn h, List.forall_mem_cons.mpr ⟨pe18_62_0 kn h, List.forall_mem_cons.mpr ⟨pe18_65_0 kn h, List.forall_mem_cons.mpr ⟨pe18_68_0 kn h, List.forall_mem_cons.mpr ⟨pe18_71_0 kn h, List.forall_mem_cons.mpr ⟨pe18_74_0 kn h, List.forall_mem_cons.mpr ⟨pe18_77_0 kn h, List.forall_mem_cons.mpr ⟨pe18_80_0 kn h, List.forall_mem_cons.mpr ⟨pe18_83_0 kn h, List.forall_mem_cons.mpr ⟨pe18_86_0 kn h, List.forall_mem_cons.mpr ⟨pe18_89_0 kn h, List.forall_mem_cons.mpr ⟨pe18_92_0 kn h, List.forall_mem_cons.mpr ⟨pe18_95_0 kn h, List.forall_mem_cons.mpr ⟨pe18_98_0 kn h, List.forall_mem_cons.mpr ⟨pe18_102_0 kn h, List.forall_mem_cons.mpr ⟨pe18_105_0 kn h, List.forall_mem_cons.mpr ⟨pe18_108_0 kn h, List.forall_mem_cons.mpr ⟨pe18_111_0 kn h, List.forall_mem_cons.mpr ⟨pe18_114_0 kn h, List.forall_mem_cons.mpr ⟨pe18_117_0 kn h, List.forall_mem_cons.mpr ⟨pe18_120_0 kn h, List.forall_mem_cons.mpr ⟨pe18_123_0 kn h, List.forall_mem_cons.mpr ⟨pe18_126_0 kn h, List.forall_mem_cons.mpr ⟨pe18_130_0 kn h, List.forall_mem_cons.mpr ⟨pe18_133_0 kn h, List.forall_mem_cons.mpr ⟨pe18_136_0 kn h, List.forall_mem_cons.mpr ⟨pe18_140_0 kn h, List.forall_mem_cons.mpr ⟨pe18_144_0 kn h, List.forall_mem_cons.mpr ⟨pe18_147_1 kn h, List.forall_mem_cons.mpr ⟨pe18_152_0 kn h, List.forall_mem_cons.mpr ⟨pe18_153_1 kn h, List.forall_mem_cons.mpr ⟨pe18_156_0 kn h, List.forall_mem_cons.mpr ⟨pe18_157_1 kn h, List.forall_mem_cons.mpr ⟨pe18_161_0 kn h, List.forall_mem_cons.mpr ⟨pe18_162_1 kn h, List.forall_mem_cons.mpr ⟨pe18_163_1 kn h, List.forall_mem_cons.mpr ⟨pe18_164_1 kn h, List.forall_mem_cons.mpr ⟨pe18_165_1 kn h, List.forall_mem_cons.mpr ⟨pe18_166_1 kn h, List.forall_mem_cons.mpr ⟨pe18_168_0 kn h, List.forall_mem_cons.mpr ⟨pe18_171_10 kn h, List.forall_mem_cons.mpr ⟨pe18_172_0 kn h, List.forall_mem_cons.mpr ⟨pe18_175_11 kn h, List.forall_mem_cons.mpr ⟨pe18_177_20 kn h, List.forall_mem_cons.mpr ⟨pe18_181_1 kn h, List.forall_mem_cons.mpr ⟨pe18_186_1 kn h, List.forall_mem_cons.mpr ⟨pe18_189_0 kn h, List.forall_mem_cons.mpr ⟨pe18_192_10 kn h, List.forall_mem_cons.mpr ⟨pe18_193_0 kn h, List.forall_mem_cons.mpr ⟨pe18_196_20 kn h, List.forall_mem_cons.mpr ⟨pe18_200_0 kn h, List.forall_mem_cons.mpr ⟨pe18_203_20 kn h, List.forall_mem_cons.mpr ⟨pe18_207_0 kn h, List.forall_mem_cons.mpr ⟨pe18_210_0 kn h, List.forall_mem_cons.mpr ⟨pe18_213_20 kn h, List.forall_mem_cons.mpr ⟨pe18_217_24 kn h, List.forall_mem_cons.mpr ⟨pe18_220_20 kn h, List.forall_mem_cons.mpr ⟨pe18_224_24 kn h, List.forall_mem_cons.mpr ⟨pe18_227_20 kn h, List.forall_mem_cons.mpr ⟨pe18_229_24 kn h, List.forall_mem_cons.mpr ⟨pe18_232_24 kn h, List.forall_mem_cons.mpr ⟨pe18_235_20 kn h, List.forall_mem_cons.mpr ⟨pe18_239_20 kn h, List.forall_mem_cons.mpr ⟨pe18_243_20 kn h, List.forall_mem_cons.mpr ⟨pe18_247_20 kn h, List.forall_mem_cons.mpr ⟨pe18_251_20 kn h, List.forall_mem_cons.mpr ⟨pe18_254_20 kn h, List.forall_mem_cons.mpr ⟨pe18_257_20 kn h, List.forall_mem_cons.mpr ⟨pe18_260_20 kn h, List.forall_mem_cons.mpr ⟨pe18_263_20 kn h, List.forall_mem_cons.mpr ⟨pe18_266_20 kn h, List.forall_mem_cons.mpr ⟨pe18_270_20 kn h, List.forall_mem_cons.mpr ⟨pe18_274_20 kn h, List.forall_mem_cons.mpr ⟨pe18_277_0 kn h, List.forall_mem_cons.mpr ⟨pe18_280_20 kn h, List.forall_mem_cons.mpr ⟨pe18_283_20 kn h, List.forall_mem_cons.mpr ⟨pe18_287_0 kn h, List.forall_mem_cons.mpr ⟨pe18_290_20 kn h, List.forall_mem_cons.mpr ⟨pe18_293_20 kn h, List.forall_mem_cons.mpr ⟨pe18_296_20 kn h, List.forall_mem_cons.mpr ⟨pe18_300_20 kn h, List.forall_mem_cons.mpr ⟨pe18_304_24 kn h, List.forall_mem_cons.mpr ⟨pe18_307_0 kn h, List.forall_mem_cons.mpr ⟨pe18_310_20 kn h, List.forall_mem_cons.mpr ⟨pe18_314_20 kn h, List.forall_mem_cons.mpr ⟨pe18_317_20 kn h, List.forall_mem_cons.mpr ⟨pe18_321_20 kn h, List.forall_mem_cons.mpr ⟨pe18_324_24 kn h, List.forall_mem_cons.mpr ⟨pe18_327_20 kn h, List.forall_mem_cons.mpr ⟨pe18_330_20 kn h, List.forall_mem_cons.mpr ⟨pe18_333_20 kn h, List.forall_mem_cons.mpr ⟨pe18_337_20 kn h, List.forall_mem_cons.mpr ⟨pe18_340_20 kn h, List.forall_mem_cons.mpr ⟨pe18_344_20 kn h, List.forall_mem_cons.mpr ⟨pe18_348_20 kn h, List.forall_mem_cons.mpr ⟨pe18_351_20 kn h, List.forall_mem_cons.mpr ⟨pe18_354_20 kn h, List.forall_mem_cons.mpr ⟨pe18_357_20 kn h, List.forall_mem_cons.mpr ⟨pe18_360_20 kn h, List.forall_mem_cons.mpr ⟨pe18_363_20 kn h, List.forall_mem_cons.mpr ⟨pe18_366_20 kn h, List.forall_mem_cons.mpr ⟨pe18_369_20 kn h, List.forall_mem_cons.mpr ⟨pe18_372_20 kn h, List.forall_mem_cons.mpr ⟨pe18_375_20 kn h, List.forall_mem_cons.mpr ⟨pe18_378_20 kn h, List.forall_mem_cons.mpr ⟨pe18_381_0 kn h, List.forall_mem_cons.mpr ⟨pe18_384_1 kn h, List.forall_mem_cons.mpr ⟨pe18_387_20 kn h, List.forall_mem_cons.mpr ⟨pe18_391_20 kn h, List.forall_mem_cons.mpr ⟨pe18_394_20 kn h, List.forall_mem_cons.mpr ⟨pe18_397_20 kn h, List.forall_mem_cons.mpr ⟨pe18_400_20 kn h, List.forall_mem_cons.mpr ⟨pe18_403_20 kn h, List.forall_mem_cons.mpr ⟨pe18_406_20 kn h, List.forall_mem_cons.mpr ⟨pe18_409_1 kn h, List.forall_mem_cons.mpr ⟨pe18_412_11 kn h, List.forall_mem_cons.mpr ⟨pe18_414_11 kn h, List.forall_mem_cons.mpr ⟨pe18_416_11 kn h, List.forall_mem_cons.mpr ⟨pe18_418_11 kn h, List.forall_mem_cons.mpr ⟨pe18_420_10 kn h, List.forall_mem_cons.mpr ⟨pe18_421_20 kn h, List.forall_mem_cons.mpr ⟨pe18_424_20 kn h, List.forall_mem_cons.mpr ⟨pe18_428_20 kn h, List.forall_mem_cons.mpr ⟨pe18_432_20 kn h, List.forall_mem_cons.mpr ⟨pe18_435_11 kn h, List.forall_mem_cons.mpr ⟨pe18_437_11 kn h, List.forall_mem_cons.mpr ⟨pe18_439_11 kn h, List.forall_mem_cons.mpr ⟨pe18_441_11 kn h, List.forall_mem_cons.mpr ⟨pe18_443_11 kn h, List.forall_mem_cons.mpr ⟨pe18_445_20 kn h, List.forall_mem_cons.mpr ⟨pe18_449_24 kn h, List.forall_mem_cons.mpr ⟨pe18_453_11 kn h, List.forall_mem_cons.mpr ⟨pe18_455_11 kn h, List.forall_mem_cons.mpr ⟨pe18_457_11 kn h, (fun _ h => absurd h List.not_mem_nil)⟩⟩⟩⟩⟩⟩⟩⟩⟩⟩⟩⟩⟩⟩⟩⟩⟩⟩⟩⟩⟩⟩⟩⟩⟩⟩⟩⟩⟩⟩⟩⟩⟩⟩⟩⟩⟩⟩⟩⟩⟩⟩⟩⟩⟩⟩⟩⟩⟩⟩⟩⟩⟩⟩⟩⟩⟩⟩⟩⟩⟩⟩⟩⟩⟩⟩⟩⟩⟩⟩⟩⟩⟩⟩⟩⟩⟩⟩⟩⟩⟩⟩⟩⟩⟩⟩⟩⟩⟩⟩⟩⟩⟩⟩⟩⟩⟩⟩⟩⟩⟩⟩⟩⟩⟩⟩⟩⟩⟩⟩⟩⟩⟩⟩⟩⟩⟩⟩⟩⟩⟩⟩⟩⟩⟩⟩⟩⟩⟩⟩⟩⟩⟩⟩⟩⟩⟩⟩⟩⟩⟩⟩⟩⟩⟩⟩⟩⟩⟩⟩⟩⟩
set_option maxRecDepth 100000 in
theorem pe19_7_12 (kn : List rM) {m : Nat} (h : (rE0.1 m).cls = "PackHouseLaw") : rpo (rpar kn) rE0 m 7 (12, 0, 19, .null) := po12 (T := FT0) h rfl (tw1 (List.mem_of_getElem? (i := 23) rfl) rfl) (tw1 (List.mem_of_getElem? (i := 24) rfl) rfl) (tw1 (List.mem_of_getElem? (i := 1) rfl) rfl)
set_option maxRecDepth 100000 in
theorem pe19_9_22 (kn : List rM) {m : Nat} (h : (rE0.1 m).cls = "PackHouseLaw") : rpo (rpar kn) rE0 m 9 (22, 0, 0, .ref 0) := po22 h (pm0 kn) (tw1 (List.mem_of_getElem? (i := 25) rfl) rfl) (tw1 (List.mem_of_getElem? (i := 26) rfl) rfl) rfl rfl
set_option maxRecDepth 100000 in
theorem pe19_10_12 (kn : List rM) {m : Nat} (h : (rE0.1 m).cls = "PackHouseLaw") : rpo (rpar kn) rE0 m 10 (12, 1, 13, .null) := po12 (T := FT1) h rfl (tw7 (List.mem_of_getElem? (i := 222) rfl) rfl) (tw7 (List.mem_of_getElem? (i := 223) rfl) rfl) (tw1 (List.mem_of_getElem? (i := 5) rfl) rfl)
set_option maxRecDepth 100000 in
theorem pe19_12_22 (kn : List rM) {m : Nat} (h : (rE0.1 m).cls = "PackHouseLaw") : rpo (rpar kn) rE0 m 12 (22, 55, 0, .ref 1) := po22 h (pm55 kn) (tw7 (List.mem_of_getElem? (i := 224) rfl) rfl) (tw7 (List.mem_of_getElem? (i := 225) rfl) rfl) rfl rfl
set_option maxRecDepth 100000 in
theorem pe19_13_20 (kn : List rM) {m : Nat} (h : (rE0.1 m).cls = "PackHouseLaw") : rpo (rpar kn) rE0 m 13 (20, 1, 5, .ref 0) := po20 h (pm1 kn) (tw1 (List.mem_of_getElem? (i := 194) rfl) rfl) (tw1 (List.mem_of_getElem? (i := 195) rfl) rfl) (tw1 (List.mem_of_getElem? (i := 196) rfl) rfl) rfl rfl
set_option maxRecDepth 100000 in
theorem pe19_17_20 (kn : List rM) {m : Nat} (h : (rE0.1 m).cls = "PackHouseLaw") : rpo (rpar kn) rE0 m 17 (20, 58, 5, .ref 1) := po20 h (pm58 kn) (tw10 (List.mem_of_getElem? (i := 64) rfl) rfl) (tw10 (List.mem_of_getElem? (i := 65) rfl) rfl) (tw10 (List.mem_of_getElem? (i := 66) rfl) rfl) rfl rfl
set_option maxRecDepth 100000 in
theorem pe19_18_11 (kn : List rM) {m : Nat} (h : (rE0.1 m).cls = "PackHouseLaw") : rpo (rpar kn) rE0 m 18 (11, 0, 0, .long (4294967295)) := po11 h (tw14 (List.mem_of_getElem? (i := 62) rfl) rfl)
set_option maxRecDepth 100000 in
theorem pe19_20_20 (kn : List rM) {m : Nat} (h : (rE0.1 m).cls = "PackHouseLaw") : rpo (rpar kn) rE0 m 20 (20, 2, 3, .ref 0) := po20 h (pm2 kn) (tw1 (List.mem_of_getElem? (i := 235) rfl) rfl) (tw1 (List.mem_of_getElem? (i := 236) rfl) rfl) (tw1 (List.mem_of_getElem? (i := 237) rfl) rfl) rfl rfl
set_option maxRecDepth 100000 in
theorem pe19_24_20 (kn : List rM) {m : Nat} (h : (rE0.1 m).cls = "PackHouseLaw") : rpo (rpar kn) rE0 m 24 (20, 59, 3, .ref 1) := po20 h (pm59 kn) (tw10 (List.mem_of_getElem? (i := 75) rfl) rfl) (tw10 (List.mem_of_getElem? (i := 76) rfl) rfl) (tw10 (List.mem_of_getElem? (i := 77) rfl) rfl) rfl rfl
set_option maxRecDepth 100000 in
theorem pe19_25_20 (kn : List rM) {m : Nat} (h : (rE0.1 m).cls = "PackHouseLaw") : rpo (rpar kn) rE0 m 25 (20, 3, 3, .ref 0) := po20 h (pm3 kn) (tw1 (List.mem_of_getElem? (i := 239) rfl) rfl) (tw2 (List.mem_of_getElem? (i := 0) rfl) rfl) (tw2 (List.mem_of_getElem? (i := 1) rfl) rfl) rfl rfl
set_option maxRecDepth 100000 in
theorem pe19_29_20 (kn : List rM) {m : Nat} (h : (rE0.1 m).cls = "PackHouseLaw") : rpo (rpar kn) rE0 m 29 (20, 60, 3, .ref 1) := po20 h (pm60 kn) (tw10 (List.mem_of_getElem? (i := 79) rfl) rfl) (tw10 (List.mem_of_getElem? (i := 80) rfl) rfl) (tw10 (List.mem_of_getElem? (i := 81) rfl) rfl) rfl rfl
set_option maxRecDepth 100000 in
theorem pe19_30_20 (kn : List rM) {m : Nat} (h : (rE0.1 m).cls = "PackHouseLaw") : rpo (rpar kn) rE0 m 30 (20, 4, 2, .ref 0) := po20 h (pm4 kn) (tw2 (List.mem_of_getElem? (i := 7) rfl) rfl) (tw2 (List.mem_of_getElem? (i := 8) rfl) rfl) (tw2 (List.mem_of_getElem? (i := 9) rfl) rfl) rfl rfl
set_option maxRecDepth 100000 in
theorem pe19_34_20 (kn : List rM) {m : Nat} (h : (rE0.1 m).cls = "PackHouseLaw") : rpo (rpar kn) rE0 m 34 (20, 61, 2, .ref 1) := po20 h (pm61 kn) (tw10 (List.mem_of_getElem? (i := 83) rfl) rfl) (tw10 (List.mem_of_getElem? (i := 84) rfl) rfl) (tw10 (List.mem_of_getElem? (i := 85) rfl) rfl) rfl rfl
set_option maxRecDepth 100000 in
theorem pe19_35_20 (kn : List rM) {m : Nat} (h : (rE0.1 m).cls = "PackHouseLaw") : rpo (rpar kn) rE0 m 35 (20, 5, 4, .ref 0) := po20 h (pm5 kn) (tw2 (List.mem_of_getElem? (i := 11) rfl) rfl) (tw2 (List.mem_of_getElem? (i := 12) rfl) rfl) (tw2 (List.mem_of_getElem? (i := 13) rfl) rfl) rfl rfl
set_option maxRecDepth 100000 in
theorem pe19_39_20 (kn : List rM) {m : Nat} (h : (rE0.1 m).cls = "PackHouseLaw") : rpo (rpar kn) rE0 m 39 (20, 63, 4, .ref 1) := po20 h (pm63 kn) (tw10 (List.mem_of_getElem? (i := 87) rfl) rfl) (tw10 (List.mem_of_getElem? (i := 88) rfl) rfl) (tw10 (List.mem_of_getElem? (i := 89) rfl) rfl) rfl rfl
set_option maxRecDepth 100000 in
theorem pe19_40_20 (kn : List rM) {m : Nat} (h : (rE0.1 m).cls = "PackHouseLaw") : rpo (rpar kn) rE0 m 40 (20, 6, 1, .ref 0) := po20 h (pm6 kn) (tw2 (List.mem_of_getElem? (i := 23) rfl) rfl) (tw2 (List.mem_of_getElem? (i := 24) rfl) rfl) (tw2 (List.mem_of_getElem? (i := 25) rfl) rfl) rfl rfl
set_option maxRecDepth 100000 in
theorem pe19_44_20 (kn : List rM) {m : Nat} (h : (rE0.1 m).cls = "PackHouseLaw") : rpo (rpar kn) rE0 m 44 (20, 64, 1, .ref 1) := po20 h (pm64 kn) (tw10 (List.mem_of_getElem? (i := 95) rfl) rfl) (tw10 (List.mem_of_getElem? (i := 96) rfl) rfl) (tw10 (List.mem_of_getElem? (i := 97) rfl) rfl) rfl rfl
set_option maxRecDepth 100000 in
theorem pe19_45_20 (kn : List rM) {m : Nat} (h : (rE0.1 m).cls = "PackHouseLaw") : rpo (rpar kn) rE0 m 45 (20, 7, 2, .ref 0) := po20 h (pm7 kn) (tw2 (List.mem_of_getElem? (i := 27) rfl) rfl) (tw2 (List.mem_of_getElem? (i := 28) rfl) rfl) (tw2 (List.mem_of_getElem? (i := 29) rfl) rfl) rfl rfl
set_option maxRecDepth 100000 in
theorem pe19_49_20 (kn : List rM) {m : Nat} (h : (rE0.1 m).cls = "PackHouseLaw") : rpo (rpar kn) rE0 m 49 (20, 65, 2, .ref 1) := po20 h (pm65 kn) (tw10 (List.mem_of_getElem? (i := 99) rfl) rfl) (tw10 (List.mem_of_getElem? (i := 100) rfl) rfl) (tw10 (List.mem_of_getElem? (i := 101) rfl) rfl) rfl rfl
set_option maxRecDepth 100000 in
theorem pe19_50_20 (kn : List rM) {m : Nat} (h : (rE0.1 m).cls = "PackHouseLaw") : rpo (rpar kn) rE0 m 50 (20, 8, 2, .ref 0) := po20 h (pm8 kn) (tw2 (List.mem_of_getElem? (i := 31) rfl) rfl) (tw2 (List.mem_of_getElem? (i := 32) rfl) rfl) (tw2 (List.mem_of_getElem? (i := 33) rfl) rfl) rfl rfl
set_option maxRecDepth 100000 in
theorem pe19_53_20 (kn : List rM) {m : Nat} (h : (rE0.1 m).cls = "PackHouseLaw") : rpo (rpar kn) rE0 m 53 (20, 66, 2, .ref 1) := po20 h (pm66 kn) (tw10 (List.mem_of_getElem? (i := 103) rfl) rfl) (tw10 (List.mem_of_getElem? (i := 104) rfl) rfl) (tw10 (List.mem_of_getElem? (i := 105) rfl) rfl) rfl rfl
set_option maxRecDepth 100000 in
theorem pe19_54_20 (kn : List rM) {m : Nat} (h : (rE0.1 m).cls = "PackHouseLaw") : rpo (rpar kn) rE0 m 54 (20, 9, 2, .ref 0) := po20 h (pm9 kn) (tw2 (List.mem_of_getElem? (i := 39) rfl) rfl) (tw2 (List.mem_of_getElem? (i := 40) rfl) rfl) (tw2 (List.mem_of_getElem? (i := 41) rfl) rfl) rfl rfl
set_option maxRecDepth 100000 in
theorem pe19_57_20 (kn : List rM) {m : Nat} (h : (rE0.1 m).cls = "PackHouseLaw") : rpo (rpar kn) rE0 m 57 (20, 69, 2, .ref 1) := po20 h (pm69 kn) (tw10 (List.mem_of_getElem? (i := 107) rfl) rfl) (tw10 (List.mem_of_getElem? (i := 108) rfl) rfl) (tw10 (List.mem_of_getElem? (i := 109) rfl) rfl) rfl rfl
set_option maxRecDepth 100000 in
theorem pe19_58_20 (kn : List rM) {m : Nat} (h : (rE0.1 m).cls = "PackHouseLaw") : rpo (rpar kn) rE0 m 58 (20, 10, 1, .ref 0) := po20 h (pm10 kn) (tw2 (List.mem_of_getElem? (i := 52) rfl) rfl) (tw2 (List.mem_of_getElem? (i := 53) rfl) rfl) (tw2 (List.mem_of_getElem? (i := 54) rfl) rfl) rfl rfl
set_option maxRecDepth 100000 in
theorem pe19_61_20 (kn : List rM) {m : Nat} (h : (rE0.1 m).cls = "PackHouseLaw") : rpo (rpar kn) rE0 m 61 (20, 70, 1, .ref 1) := po20 h (pm70 kn) (tw10 (List.mem_of_getElem? (i := 117) rfl) rfl) (tw10 (List.mem_of_getElem? (i := 118) rfl) rfl) (tw10 (List.mem_of_getElem? (i := 119) rfl) rfl) rfl rfl
set_option maxRecDepth 100000 in
theorem pe19_62_20 (kn : List rM) {m : Nat} (h : (rE0.1 m).cls = "PackHouseLaw") : rpo (rpar kn) rE0 m 62 (20, 11, 4, .ref 0) := po20 h (pm11 kn) (tw2 (List.mem_of_getElem? (i := 56) rfl) rfl) (tw2 (List.mem_of_getElem? (i := 57) rfl) rfl) (tw2 (List.mem_of_getElem? (i := 58) rfl) rfl) rfl rfl
set_option maxRecDepth 100000 in
theorem pe19_66_20 (kn : List rM) {m : Nat} (h : (rE0.1 m).cls = "PackHouseLaw") : rpo (rpar kn) rE0 m 66 (20, 71, 4, .ref 1) := po20 h (pm71 kn) (tw10 (List.mem_of_getElem? (i := 121) rfl) rfl) (tw10 (List.mem_of_getElem? (i := 122) rfl) rfl) (tw10 (List.mem_of_getElem? (i := 123) rfl) rfl) rfl rfl
set_option maxRecDepth 100000 in
theorem pe19_67_20 (kn : List rM) {m : Nat} (h : (rE0.1 m).cls = "PackHouseLaw") : rpo (rpar kn) rE0 m 67 (20, 12, 4, .ref 0) := po20 h (pm12 kn) (tw2 (List.mem_of_getElem? (i := 77) rfl) rfl) (tw2 (List.mem_of_getElem? (i := 78) rfl) rfl) (tw2 (List.mem_of_getElem? (i := 79) rfl) rfl) rfl rfl
set_option maxRecDepth 100000 in
theorem pe19_71_20 (kn : List rM) {m : Nat} (h : (rE0.1 m).cls = "PackHouseLaw") : rpo (rpar kn) rE0 m 71 (20, 72, 4, .ref 1) := po20 h (pm72 kn) (tw10 (List.mem_of_getElem? (i := 153) rfl) rfl) (tw10 (List.mem_of_getElem? (i := 154) rfl) rfl) (tw10 (List.mem_of_getElem? (i := 155) rfl) rfl) rfl rfl
set_option maxRecDepth 100000 in
theorem pe19_72_20 (kn : List rM) {m : Nat} (h : (rE0.1 m).cls = "PackHouseLaw") : rpo (rpar kn) rE0 m 72 (20, 13, 4, .ref 0) := po20 h (pm13 kn) (tw2 (List.mem_of_getElem? (i := 101) rfl) rfl) (tw2 (List.mem_of_getElem? (i := 102) rfl) rfl) (tw2 (List.mem_of_getElem? (i := 103) rfl) rfl) rfl rfl
set_option maxRecDepth 100000 in
theorem pe19_76_20 (kn : List rM) {m : Nat} (h : (rE0.1 m).cls = "PackHouseLaw") : rpo (rpar kn) rE0 m 76 (20, 73, 4, .ref 1) := po20 h (pm73 kn) (tw10 (List.mem_of_getElem? (i := 180) rfl) rfl) (tw10 (List.mem_of_getElem? (i := 181) rfl) rfl) (tw10 (List.mem_of_getElem? (i := 182) rfl) rfl) rfl rfl
set_option maxRecDepth 100000 in
theorem pe19_77_20 (kn : List rM) {m : Nat} (h : (rE0.1 m).cls = "PackHouseLaw") : rpo (rpar kn) rE0 m 77 (20, 14, 1, .ref 0) := po20 h (pm14 kn) (tw2 (List.mem_of_getElem? (i := 114) rfl) rfl) (tw2 (List.mem_of_getElem? (i := 115) rfl) rfl) (tw2 (List.mem_of_getElem? (i := 116) rfl) rfl) rfl rfl
set_option maxRecDepth 100000 in
theorem pe19_81_20 (kn : List rM) {m : Nat} (h : (rE0.1 m).cls = "PackHouseLaw") : rpo (rpar kn) rE0 m 81 (20, 76, 1, .ref 1) := po20 h (pm76 kn) (tw10 (List.mem_of_getElem? (i := 200) rfl) rfl) (tw10 (List.mem_of_getElem? (i := 201) rfl) rfl) (tw10 (List.mem_of_getElem? (i := 202) rfl) rfl) rfl rfl
set_option maxRecDepth 100000 in
theorem pe19_82_20 (kn : List rM) {m : Nat} (h : (rE0.1 m).cls = "PackHouseLaw") : rpo (rpar kn) rE0 m 82 (20, 15, 1, .ref 0) := po20 h (pm15 kn) (tw2 (List.mem_of_getElem? (i := 127) rfl) rfl) (tw2 (List.mem_of_getElem? (i := 128) rfl) rfl) (tw2 (List.mem_of_getElem? (i := 129) rfl) rfl) rfl rfl
set_option maxRecDepth 100000 in
theorem pe19_85_20 (kn : List rM) {m : Nat} (h : (rE0.1 m).cls = "PackHouseLaw") : rpo (rpar kn) rE0 m 85 (20, 77, 1, .ref 1) := po20 h (pm77 kn) (tw10 (List.mem_of_getElem? (i := 212) rfl) rfl) (tw10 (List.mem_of_getElem? (i := 213) rfl) rfl) (tw10 (List.mem_of_getElem? (i := 214) rfl) rfl) rfl rfl
set_option maxRecDepth 100000 in
theorem pe19_86_20 (kn : List rM) {m : Nat} (h : (rE0.1 m).cls = "PackHouseLaw") : rpo (rpar kn) rE0 m 86 (20, 16, 1, .ref 0) := po20 h (pm16 kn) (tw3 (List.mem_of_getElem? (i := 125) rfl) rfl) (tw3 (List.mem_of_getElem? (i := 126) rfl) rfl) (tw3 (List.mem_of_getElem? (i := 127) rfl) rfl) rfl rfl
set_option maxRecDepth 100000 in
theorem pe19_89_20 (kn : List rM) {m : Nat} (h : (rE0.1 m).cls = "PackHouseLaw") : rpo (rpar kn) rE0 m 89 (20, 78, 1, .ref 1) := po20 h (pm78 kn) (tw11 (List.mem_of_getElem? (i := 43) rfl) rfl) (tw11 (List.mem_of_getElem? (i := 44) rfl) rfl) (tw11 (List.mem_of_getElem? (i := 45) rfl) rfl) rfl rfl
set_option maxRecDepth 100000 in
theorem pe19_90_20 (kn : List rM) {m : Nat} (h : (rE0.1 m).cls = "PackHouseLaw") : rpo (rpar kn) rE0 m 90 (20, 17, 3, .ref 0) := po20 h (pm17 kn) (tw3 (List.mem_of_getElem? (i := 131) rfl) rfl) (tw3 (List.mem_of_getElem? (i := 132) rfl) rfl) (tw3 (List.mem_of_getElem? (i := 133) rfl) rfl) rfl rfl
set_option maxRecDepth 100000 in
theorem pe19_94_20 (kn : List rM) {m : Nat} (h : (rE0.1 m).cls = "PackHouseLaw") : rpo (rpar kn) rE0 m 94 (20, 81, 3, .ref 1) := po20 h (pm81 kn) (tw11 (List.mem_of_getElem? (i := 55) rfl) rfl) (tw11 (List.mem_of_getElem? (i := 56) rfl) rfl) (tw11 (List.mem_of_getElem? (i := 57) rfl) rfl) rfl rfl
set_option maxRecDepth 100000 in
theorem pe19_95_20 (kn : List rM) {m : Nat} (h : (rE0.1 m).cls = "PackHouseLaw") : rpo (rpar kn) rE0 m 95 (20, 18, 4, .ref 0) := po20 h (pm18 kn) (tw7 (List.mem_of_getElem? (i := 188) rfl) rfl) (tw7 (List.mem_of_getElem? (i := 189) rfl) rfl) (tw7 (List.mem_of_getElem? (i := 190) rfl) rfl) rfl rfl
set_option maxRecDepth 100000 in
theorem pe19_98_20 (kn : List rM) {m : Nat} (h : (rE0.1 m).cls = "PackHouseLaw") : rpo (rpar kn) rE0 m 98 (20, 85, 4, .ref 1) := po20 h (pm85 kn) (tw14 (List.mem_of_getElem? (i := 35) rfl) rfl) (tw14 (List.mem_of_getElem? (i := 36) rfl) rfl) (tw14 (List.mem_of_getElem? (i := 37) rfl) rfl) rfl rfl
set_option maxRecDepth 100000 in
theorem pe19_99_20 (kn : List rM) {m : Nat} (h : (rE0.1 m).cls = "PackHouseLaw") : rpo (rpar kn) rE0 m 99 (20, 19, 1, .ref 0) := po20 h (pm19 kn) (tw7 (List.mem_of_getElem? (i := 196) rfl) rfl) (tw7 (List.mem_of_getElem? (i := 197) rfl) rfl) (tw7 (List.mem_of_getElem? (i := 198) rfl) rfl) rfl rfl
set_option maxRecDepth 100000 in
theorem pe19_102_20 (kn : List rM) {m : Nat} (h : (rE0.1 m).cls = "PackHouseLaw") : rpo (rpar kn) rE0 m 102 (20, 87, 1, .ref 1) := po20 h (pm87 kn) (tw14 (List.mem_of_getElem? (i := 39) rfl) rfl) (tw14 (List.mem_of_getElem? (i := 40) rfl) rfl) (tw14 (List.mem_of_getElem? (i := 41) rfl) rfl) rfl rfl
set_option maxRecDepth 100000 in
theorem pe19_103_20 (kn : List rM) {m : Nat} (h : (rE0.1 m).cls = "PackHouseLaw") : rpo (rpar kn) rE0 m 103 (20, 20, 3, .ref 0) := po20 h (pm20 kn) (tw7 (List.mem_of_getElem? (i := 206) rfl) rfl) (tw7 (List.mem_of_getElem? (i := 207) rfl) rfl) (tw7 (List.mem_of_getElem? (i := 208) rfl) rfl) rfl rfl
set_option maxRecDepth 100000 in
theorem pe19_106_20 (kn : List rM) {m : Nat} (h : (rE0.1 m).cls = "PackHouseLaw") : rpo (rpar kn) rE0 m 106 (20, 88, 3, .ref 1) := po20 h (pm88 kn) (tw14 (List.mem_of_getElem? (i := 47) rfl) rfl) (tw14 (List.mem_of_getElem? (i := 48) rfl) rfl) (tw14 (List.mem_of_getElem? (i := 49) rfl) rfl) rfl rfl
set_option maxRecDepth 100000 in
theorem pe19_107_20 (kn : List rM) {m : Nat} (h : (rE0.1 m).cls = "PackHouseLaw") : rpo (rpar kn) rE0 m 107 (20, 21, 2, .ref 0) := po20 h (pm21 kn) (tw7 (List.mem_of_getElem? (i := 210) rfl) rfl) (tw7 (List.mem_of_getElem? (i := 211) rfl) rfl) (tw7 (List.mem_of_getElem? (i := 212) rfl) rfl) rfl rfl
set_option maxRecDepth 100000 in
theorem pe19_110_20 (kn : List rM) {m : Nat} (h : (rE0.1 m).cls = "PackHouseLaw") : rpo (rpar kn) rE0 m 110 (20, 89, 2, .ref 1) := po20 h (pm89 kn) (tw14 (List.mem_of_getElem? (i := 53) rfl) rfl) (tw11 (List.mem_of_getElem? (i := 64) rfl) rfl) (tw11 (List.mem_of_getElem? (i := 65) rfl) rfl) rfl rfl
set_option maxRecDepth 100000 in
theorem pe19_111_20 (kn : List rM) {m : Nat} (h : (rE0.1 m).cls = "PackHouseLaw") : rpo (rpar kn) rE0 m 111 (20, 22, 1, .ref 0) := po20 h (pm22 kn) (tw7 (List.mem_of_getElem? (i := 214) rfl) rfl) (tw7 (List.mem_of_getElem? (i := 215) rfl) rfl) (tw7 (List.mem_of_getElem? (i := 216) rfl) rfl) rfl rfl
set_option maxRecDepth 100000 in
theorem pe19_114_20 (kn : List rM) {m : Nat} (h : (rE0.1 m).cls = "PackHouseLaw") : rpo (rpar kn) rE0 m 114 (20, 90, 1, .ref 1) := po20 h (pm90 kn) (tw14 (List.mem_of_getElem? (i := 54) rfl) rfl) (tw14 (List.mem_of_getElem? (i := 55) rfl) rfl) (tw14 (List.mem_of_getElem? (i := 56) rfl) rfl) rfl rfl
set_option maxRecDepth 100000 in
theorem pe19_115_20 (kn : List rM) {m : Nat} (h : (rE0.1 m).cls = "PackHouseLaw") : rpo (rpar kn) rE0 m 115 (20, 23, 1, .ref 0) := po20 h (pm23 kn) (tw7 (List.mem_of_getElem? (i := 218) rfl) rfl) (tw7 (List.mem_of_getElem? (i := 219) rfl) rfl) (tw7 (List.mem_of_getElem? (i := 220) rfl) rfl) rfl rfl
set_option maxRecDepth 100000 in
theorem pe19_118_20 (kn : List rM) {m : Nat} (h : (rE0.1 m).cls = "PackHouseLaw") : rpo (rpar kn) rE0 m 118 (20, 91, 1, .ref 1) := po20 h (pm91 kn) (tw14 (List.mem_of_getElem? (i := 58) rfl) rfl) (tw14 (List.mem_of_getElem? (i := 59) rfl) rfl) (tw14 (List.mem_of_getElem? (i := 60) rfl) rfl) rfl rfl
set_option maxRecDepth 100000 in
theorem pl19 (kn : List rM) {m : Nat} (h : (rE0.1 m).cls = "PackHouseLaw") : ∀ q ∈ pool_19, rpo (rpar kn) rE0 m q.1 q.2 := List.forall_mem_cons.mpr ⟨pe19_7_12 kn h, List.forall_mem_cons.mpr ⟨pe19_9_22 kn h, List.forall_mem_cons.mpr ⟨pe19_10_12 kn h, List.forall_mem_cons.mpr ⟨pe19_12_22 kn h, List.forall_mem_cons.mpr ⟨pe19_13_20 kn h, List.forall_mem_cons.mpr ⟨pe19_17_20 kn h, List.forall_mem_cons.mpr ⟨pe19_18_11 kn h, List.forall_mem_cons.mpr ⟨pe19_20_20 kn h, List.forall_mem_cons.mpr ⟨pe19_24_20 kn h, List.forall_mem_cons.mpr ⟨pe19_25_20 kn h, List.forall_mem_cons.mpr ⟨pe19_29_20 kn h, List.forall_mem_cons.mpr ⟨pe19_30_20 kn h, List.forall_mem_cons.mpr ⟨pe19_34_20 kn h, List.forall_mem_cons.mpr ⟨pe19_35_20 kn h, List.forall_mem_cons.mpr ⟨pe19_39_20 kn h, List.forall_mem_cons.mpr ⟨pe19_40_20 kn h, List.forall_mem_cons.mpr ⟨pe19_44_20 kn h, List.forall_mem_cons.mpr ⟨pe19_45_20 kn h, List.forall_mem_cons.mpr ⟨pe19_49_20 kn h, List.forall_mem_cons.mpr ⟨pe19_50_20 kn h, List.forall_mem_cons.mpr ⟨pe19_53_20 kn h, List.forall_mem_cons.mpr ⟨pe19_54_20 kn h, List.forall_mem_cons.mpr ⟨pe19_57_20 kn h, List.forall_mem_cons.mpr ⟨pe19_58_20 kn h, List.forall_mem_cons.mpr ⟨pe19_61_20 kn h, List.forall_mem_cons.mpr ⟨pe19_62_20 kn h, List.forall_mem_cons.mpr ⟨pe19_66_20 kn h, List.forall_mem_cons.mpr ⟨pe19_67_20 kn h, List.forall_mem_cons.mpr ⟨pe19_71_20 kn h, List.forall_mem_cons.mpr ⟨pe19_72_20 kn h, List.forall_mem_cons.mpr ⟨pe19_76_20 kn h, List.forall_mem_cons.mpr ⟨pe19_77_20 kn h, List.forall_mem_cons.mpr ⟨pe19_81_20 kn h, List.forall_mem_cons.mpr ⟨pe19_82_20 kn h, List.forall_mem_cons.mpr ⟨pe19_85_20 kn h, List.forall_mem_cons.mpr ⟨pe19_86_20 kn h, List.forall_mem_cons.mpr ⟨pe19_89_20 kn h, List.forall_mem_cons.mpr ⟨pe19_90_20 kn h, List.forall_mem_cons.mpr ⟨pe19_94_20 kn h, List.forall_mem_cons.mpr ⟨pe19_95_20 kn h, List.forall_mem_cons.mpr ⟨pe19_98_20 kn h, List.forall_mem_cons.mpr ⟨pe19_99_20 kn h, List.forall_mem_cons.mpr ⟨pe19_102_20 kn h, List.forall_mem_cons.mpr ⟨pe19_103_20 kn h, List.forall_mem_cons.mpr ⟨pe19_106_20 kn h, List.forall_mem_cons.mpr ⟨pe19_107_20 kn h, List.forall_mem_cons.mpr ⟨pe19_110_20 kn h, List.forall_mem_cons.mpr ⟨pe19_111_20 kn h, List.forall_mem_cons.mpr ⟨pe19_114_20 kn h, List.forall_mem_cons.mpr ⟨pe19_115_20 kn h, List.forall_mem_cons.mpr ⟨pe19_118_20 kn h, (fun _ h => absurd h List.not_mem_nil)⟩⟩⟩⟩⟩⟩⟩⟩⟩⟩⟩⟩⟩⟩⟩⟩⟩⟩⟩⟩⟩⟩⟩⟩⟩⟩⟩⟩⟩⟩⟩⟩⟩⟩⟩⟩⟩⟩⟩⟩⟩⟩⟩⟩⟩⟩⟩⟩⟩⟩⟩
set_option maxRecDepth 100000 in
theorem pe20_13_24 (kn : List rM) {m : Nat} (h : (rE0.1 m).cls = "java/util/Arrays") : rpo (rpar kn) rE0 m 13 (24, 460, 3, .null) := po24 h (pm460 kn) (tw3 (List.mem_of_getElem? (i := 111) rfl) rfl) (tw3 (List.mem_of_getElem? (i := 112) rfl) rfl)
set_option maxRecDepth 100000 in
theorem pe20_150_27 (kn : List rM) {m : Nat} (h : (rE0.1 m).cls = "java/util/Arrays") : rpo (rpar kn) rE0 m 150 (27, 0, 0, .null) := po27 h (tw1 (List.mem_of_getElem? (i := 223) rfl) rfl)
set_option maxRecDepth 100000 in
theorem pe20_304_30 (kn : List rM) {m : Nat} (h : (rE0.1 m).cls = "java/util/Arrays") : rpo (rpar kn) rE0 m 304 (30, 0, 0, .null) := po30 h (tw1 (List.mem_of_getElem? (i := 222) rfl) rfl)
set_option maxRecDepth 100000 in
theorem pl20 (kn : List rM) {m : Nat} (h : (rE0.1 m).cls = "java/util/Arrays") : ∀ q ∈ pool_20, rpo (rpar kn) rE0 m q.1 q.2 := List.forall_mem_cons.mpr ⟨pe20_13_24 kn h, List.forall_mem_cons.mpr ⟨pe20_150_27 kn h, List.forall_mem_cons.mpr ⟨pe20_304_30 kn h, (fun _ h => absurd h List.not_mem_nil)⟩⟩⟩
theorem plist_ok (kn : List rM) {m : Nat} : ∀ c : Nat, (rE0.1 m).cls = cname c → ∀ q ∈ plist c, rpo (rpar kn) rE0 m q.1 q.2
  | 0, h => pl0 kn h
  | 1, h => pl1 kn h
  | 2, h => pl2 kn h
  | 3, h => pl3 kn h
  | 4, h => pl4 kn h
  | 5, h => pl5 kn h
  | 6, h => pl6 kn h
  | 7, h => pl7 kn h
  | 8, h => pl8 kn h
  | 9, h => pl9 kn h
  | 10, h => pl10 kn h
  | 11, h => pl11 kn h
  | 12, h => pl12 kn h
  | 13, h => pl13 kn h
  | 14, h => pl14 kn h
  | 15, h => pl15 kn h
  | 16, h => pl16 kn h
  | 17, h => pl17 kn h
  | 18, h => pl18 kn h
  | 19, h => pl19 kn h
  | 20, h => pl20 kn h
  | _ + 21, _ => fun _ h => absurd h List.not_mem_nil
theorem rpool_ok (kn : List rM) {m : Nat} {q : Nat × rA} (hq : q ∈ rpool m) : rpo (rpar kn) rE0 m q.1 q.2 := by
  unfold rpool at hq
  cases hb : Nat.blt m 461 with
  | false => rw [hb] at hq; exact absurd hq List.not_mem_nil
  | true =>
    rw [hb] at hq
    exact plist_ok kn (rcid m) (rcname m (Nat.le_of_ble_eq_true hb)) q hq
