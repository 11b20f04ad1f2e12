/-! the tables are as they must be -/
theorem rcls_ok (kn : List rM) : ∀ (ci : Nat) (C : String) (T : u_T) (N : Nat), rE0.2.2.2.2.1[ci]? = some (C, T, N) → (∀ w ∈ u_ws C T N, w ∈ rE0.2.2.2.2.2.1) ∧ (∃ ty : Nat → FieldType, (∀ k, k < N → parseFieldDescriptor (T k).2.2.1 = some (ty k)) ∧ ∀ j, j < N → defaultValue (ty j) = vp_V ((rpar kn).2.2.2.2.1 ci) j) ∧ (∀ a, a < N → ∀ b, b < N → a ≠ b → (T a).2.1 ≠ (T b).2.1) ∧ ((rpar kn).2.2.2.2.1 ci).all rplain = true
  | 0, C, T, N, h => by cases h; exact ⟨fi0, ⟨fy0, fp0, fv0⟩, fn0, (by decide +kernel : fd0.all rplain = true)⟩
  | 1, C, T, N, h => by cases h; exact ⟨fi1, ⟨fy1, fp1, fv1⟩, fn1, (by decide +kernel : fd1.all rplain = true)⟩
  | 2, C, T, N, h => by cases h; exact ⟨fi2, ⟨fy2, fp2, fv2⟩, fn2, (by decide +kernel : fd2.all rplain = true)⟩
  | 3, C, T, N, h => by cases h; exact ⟨fi3, ⟨fy3, fp3, fv3⟩, fn3, (by decide +kernel : fd3.all rplain = true)⟩
  | 4, C, T, N, h => by cases h; exact ⟨fi4, ⟨fy4, fp4, fv4⟩, fn4, (by decide +kernel : fd4.all rplain = true)⟩
  | 5, C, T, N, h => by cases h; exact ⟨fi5, ⟨fy5, fp5, fv5⟩, fn5, (by decide +kernel : fd5.all rplain = true)⟩
  | 6, C, T, N, h => by cases h; exact ⟨fi6, ⟨fy6, fp6, fv6⟩, fn6, (by decide +kernel : fd6.all rplain = true)⟩
  | 7, C, T, N, h => by cases h; exact ⟨fi7, ⟨fy7, fp7, fv7⟩, fn7, (by decide +kernel : fd7.all rplain = true)⟩
  | 8, C, T, N, h => by cases h; exact ⟨fi8, ⟨fy8, fp8, fv8⟩, fn8, (by decide +kernel : fd8.all rplain = true)⟩
  | 9, C, T, N, h => by cases h; exact ⟨fi9, ⟨fy9, fp9, fv9⟩, fn9, (by decide +kernel : fd9.all rplain = true)⟩
  | 10, C, T, N, h => by cases h; exact ⟨fi10, ⟨fy10, fp10, fv10⟩, fn10, (by decide +kernel : fd10.all rplain = true)⟩
  | 11, C, T, N, h => by cases h; exact ⟨fi11, ⟨fy11, fp11, fv11⟩, fn11, (by decide +kernel : fd11.all rplain = true)⟩
  | 12, C, T, N, h => by cases h; exact ⟨fi12, ⟨fy12, fp12, fv12⟩, fn12, (by decide +kernel : fd12.all rplain = true)⟩
  | 13, C, T, N, h => by cases h; exact ⟨fi13, ⟨fy13, fp13, fv13⟩, fn13, (by decide +kernel : fd13.all rplain = true)⟩
  | 14, C, T, N, h => by cases h; exact ⟨fi14, ⟨fy14, fp14, fv14⟩, fn14, (by decide +kernel : fd14.all rplain = true)⟩
  | 15, C, T, N, h => by cases h; exact ⟨fi15, ⟨fy15, fp15, fv15⟩, fn15, (by decide +kernel : fd15.all rplain = true)⟩
  | 16, C, T, N, h => by cases h; exact ⟨fi16, ⟨fy16, fp16, fv16⟩, fn16, (by decide +kernel : fd16.all rplain = true)⟩
  | 17, C, T, N, h => by cases h; exact ⟨fi17, ⟨fy17, fp17, fv17⟩, fn17, (by decide +kernel : fd17.all rplain = true)⟩
  | 18, C, T, N, h => by cases h; exact ⟨fi18, ⟨fy18, fp18, fv18⟩, fn18, (by decide +kernel : fd18.all rplain = true)⟩
  | n + 19, C, T, N, h => by simp [rE0, rcls] at h
theorem rty_ok (kn : List rM) : ∀ t, 4 ≤ t → t < 7 → ∃ q : vw_C, rE0.2.2.2.2.1[(rpar kn).2.2.2.2.2.1 t]? = some q ∧ rE0.2.2.2.2.2.2.1 t = .object q.1 := by
  intro t h1 h2
  rcases (show t = 4 ∨ t = 5 ∨ t = 6 by omega) with rfl | rfl | rfl <;> exact ⟨_, rfl, rfl⟩
set_option maxRecDepth 100000 in
theorem rtab_ok (kn : List rM) : rtab (rpar kn) rE0 := ⟨fun _ _ _ h => rfetch_ok h, fun _ _ h => rpool_ok kn h, rcls_ok kn, ⟨rfl, rfl, rfl, rfl, rfl, rty_ok kn⟩, ⟨tw1 (List.mem_of_getElem? (i := 73) rfl) rfl, tw1 (List.mem_of_getElem? (i := 110) rfl) rfl, tw1 (List.mem_of_getElem? (i := 111) rfl) rfl, tw10 (List.mem_of_getElem? (i := 22) rfl) rfl⟩, ⟨tw1 (List.mem_of_getElem? (i := 29) rfl) rfl, tw1 (List.mem_of_getElem? (i := 30) rfl) rfl⟩, ⟨tw1 (List.mem_of_getElem? (i := 225) rfl) rfl, tw1 (List.mem_of_getElem? (i := 224) rfl) rfl, tw1 (List.mem_of_getElem? (i := 14) rfl) rfl⟩, ⟨tw1 (List.mem_of_getElem? (i := 12) rfl) rfl, tw1 (List.mem_of_getElem? (i := 207) rfl) rfl, tw1 (List.mem_of_getElem? (i := 208) rfl) rfl, tw1 (List.mem_of_getElem? (i := 210) rfl) rfl, tw1 (List.mem_of_getElem? (i := 211) rfl) rfl⟩, twgood⟩
set_option maxRecDepth 100000 in
theorem rfillW_ok : rfillW rE0 := ⟨prog_24_method_103_code, tw3 (List.mem_of_getElem? (i := 65) rfl) rfl, tw3 (List.mem_of_getElem? (i := 64) rfl) rfl, tw1 (List.mem_of_getElem? (i := 13) rfl) rfl, by decide +kernel, by decide +kernel, by decide +kernel, by decide +kernel, by decide +kernel, by decide +kernel, by decide +kernel, by decide +kernel, by decide +kernel, by decide +kernel, by decide +kernel, by decide +kernel, by decide +kernel, by decide +kernel, by decide +kernel⟩
