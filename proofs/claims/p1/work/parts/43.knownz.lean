/-! the calls that are known, together -/
noncomputable def kn24 : List rM := me23 :: kn23
theorem rkn_add {kn : List rM} {l : Launch} (hk : ∀ (D : va_G) (dA : Nat → ClassId) (B : Nat) (HB : Heap × rS) (ρ : Nat → Nat), rho 12 B ρ → rknown (rpar kn) rE0 l D dA B HB ρ) {N j d : Nat} {vs : List Value} {σ σ' : rS} {v : Option Value} {mc ms : Nat} (h : rmok (rrunF (rpar kn) N j d 0 (rargs 0 vs) [] σ 6 [] 0 0) v σ' mc ms = true) : ∀ (D : va_G) (dA : Nat → ClassId) (B : Nat) (HB : Heap × rS) (ρ : Nat → Nat), rho 12 B ρ → rknown (rpar ((j, d, vs, σ, v, σ', mc, ms) :: kn)) rE0 l D dA B HB ρ := by
  intro D dA B HB ρ hρ q hq
  rw [rrunF_eq] at h
  obtain ⟨k, pa, hr⟩ := rmok_ok h
  rcases List.mem_cons.mp hq with rfl | hq
  · have z := rrun_ok (P := rpar kn) (E := rE0) (l := l) (D := D) (dA := dA) (B := B) (HB := HB) hρ rfillW_ok (hk D dA B HB ρ hρ) (rtab_ok kn) N _ _ _ _ _ _ _ _ _ _ _ hr
    exact ⟨z.1, z.2.1, fun ν hν => z.2.2 ν hν⟩
  · exact hk D dA B HB ρ hρ q hq
theorem kk0 (l : Launch) : ∀ (D : va_G) (dA : Nat → ClassId) (B : Nat) (HB : Heap × rS) (ρ : Nat → Nat), rho 12 B ρ → rknown (rpar kn0) rE0 l D dA B HB ρ := fun _ _ _ _ _ _ q hq => absurd hq List.not_mem_nil
theorem kk1 (l : Launch) : ∀ (D : va_G) (dA : Nat → ClassId) (B : Nat) (HB : Heap × rS) (ρ : Nat → Nat), rho 12 B ρ → rknown (rpar kn1) rE0 l D dA B HB ρ := rkn_add (kk0 l) mk0
theorem kk2 (l : Launch) : ∀ (D : va_G) (dA : Nat → ClassId) (B : Nat) (HB : Heap × rS) (ρ : Nat → Nat), rho 12 B ρ → rknown (rpar kn2) rE0 l D dA B HB ρ := rkn_add (kk1 l) mk1
theorem kk3 (l : Launch) : ∀ (D : va_G) (dA : Nat → ClassId) (B : Nat) (HB : Heap × rS) (ρ : Nat → Nat), rho 12 B ρ → rknown (rpar kn3) rE0 l D dA B HB ρ := rkn_add (kk2 l) mk2
theorem kk4 (l : Launch) : ∀ (D : va_G) (dA : Nat → ClassId) (B : Nat) (HB : Heap × rS) (ρ : Nat → Nat), rho 12 B ρ → rknown (rpar kn4) rE0 l D dA B HB ρ := rkn_add (kk3 l) mk3
theorem kk5 (l : Launch) : ∀ (D : va_G) (dA : Nat → ClassId) (B : Nat) (HB : Heap × rS) (ρ : Nat → Nat), rho 12 B ρ → rknown (rpar kn5) rE0 l D dA B HB ρ := rkn_add (kk4 l) mk4
theorem kk6 (l : Launch) : ∀ (D : va_G) (dA : Nat → ClassId) (B : Nat) (HB : Heap × rS) (ρ : Nat → Nat), rho 12 B ρ → rknown (rpar kn6) rE0 l D dA B HB ρ := rkn_add (kk5 l) mk5
theorem kk7 (l : Launch) : ∀ (D : va_G) (dA : Nat → ClassId) (B : Nat) (HB : Heap × rS) (ρ : Nat → Nat), rho 12 B ρ → rknown (rpar kn7) rE0 l D dA B HB ρ := rkn_add (kk6 l) mk6
theorem kk8 (l : Launch) : ∀ (D : va_G) (dA : Nat → ClassId) (B : Nat) (HB : Heap × rS) (ρ : Nat → Nat), rho 12 B ρ → rknown (rpar kn8) rE0 l D dA B HB ρ := rkn_add (kk7 l) mk7
theorem kk9 (l : Launch) : ∀ (D : va_G) (dA : Nat → ClassId) (B : Nat) (HB : Heap × rS) (ρ : Nat → Nat), rho 12 B ρ → rknown (rpar kn9) rE0 l D dA B HB ρ := rkn_add (kk8 l) mk8
theorem kk10 (l : Launch) : ∀ (D : va_G) (dA : Nat → ClassId) (B : Nat) (HB : Heap × rS) (ρ : Nat → Nat), rho 12 B ρ → rknown (rpar kn10) rE0 l D dA B HB ρ := rkn_add (kk9 l) mk9
theorem kk11 (l : Launch) : ∀ (D : va_G) (dA : Nat → ClassId) (B : Nat) (HB : Heap × rS) (ρ : Nat → Nat), rho 12 B ρ → rknown (rpar kn11) rE0 l D dA B HB ρ := rkn_add (kk10 l) mk10
theorem kk12 (l : Launch) : ∀ (D : va_G) (dA : Nat → ClassId) (B : Nat) (HB : Heap × rS) (ρ : Nat → Nat), rho 12 B ρ → rknown (rpar kn12) rE0 l D dA B HB ρ := rkn_add (kk11 l) mk11
theorem kk13 (l : Launch) : ∀ (D : va_G) (dA : Nat → ClassId) (B : Nat) (HB : Heap × rS) (ρ : Nat → Nat), rho 12 B ρ → rknown (rpar kn13) rE0 l D dA B HB ρ := rkn_add (kk12 l) mk12
theorem kk14 (l : Launch) : ∀ (D : va_G) (dA : Nat → ClassId) (B : Nat) (HB : Heap × rS) (ρ : Nat → Nat), rho 12 B ρ → rknown (rpar kn14) rE0 l D dA B HB ρ := rkn_add (kk13 l) mk13
theorem kk15 (l : Launch) : ∀ (D : va_G) (dA : Nat → ClassId) (B : Nat) (HB : Heap × rS) (ρ : Nat → Nat), rho 12 B ρ → rknown (rpar kn15) rE0 l D dA B HB ρ := rkn_add (kk14 l) mk14
theorem kk16 (l : Launch) : ∀ (D : va_G) (dA : Nat → ClassId) (B : Nat) (HB : Heap × rS) (ρ : Nat → Nat), rho 12 B ρ → rknown (rpar kn16) rE0 l D dA B HB ρ := rkn_add (kk15 l) mk15
theorem kk17 (l : Launch) : ∀ (D : va_G) (dA : Nat → ClassId) (B : Nat) (HB : Heap × rS) (ρ : Nat → Nat), rho 12 B ρ → rknown (rpar kn17) rE0 l D dA B HB ρ := rkn_add (kk16 l) mk16
theorem kk18 (l : Launch) : ∀ (D : va_G) (dA : Nat → ClassId) (B : Nat) (HB : Heap × rS) (ρ : Nat → Nat), rho 12 B ρ → rknown (rpar kn18) rE0 l D dA B HB ρ := rkn_add (kk17 l) mk17
theorem kk19 (l : Launch) : ∀ (D : va_G) (dA : Nat → ClassId) (B : Nat) (HB : Heap × rS) (ρ : Nat → Nat), rho 12 B ρ → rknown (rpar kn19) rE0 l D dA B HB ρ := rkn_add (kk18 l) mk18
theorem kk20 (l : Launch) : ∀ (D : va_G) (dA : Nat → ClassId) (B : Nat) (HB : Heap × rS) (ρ : Nat → Nat), rho 12 B ρ → rknown (rpar kn20) rE0 l D dA B HB ρ := rkn_add (kk19 l) mk19
theorem kk21 (l : Launch) : ∀ (D : va_G) (dA : Nat → ClassId) (B : Nat) (HB : Heap × rS) (ρ : Nat → Nat), rho 12 B ρ → rknown (rpar kn21) rE0 l D dA B HB ρ := rkn_add (kk20 l) mk20
theorem kk22 (l : Launch) : ∀ (D : va_G) (dA : Nat → ClassId) (B : Nat) (HB : Heap × rS) (ρ : Nat → Nat), rho 12 B ρ → rknown (rpar kn22) rE0 l D dA B HB ρ := rkn_add (kk21 l) mk21
theorem kk23 (l : Launch) : ∀ (D : va_G) (dA : Nat → ClassId) (B : Nat) (HB : Heap × rS) (ρ : Nat → Nat), rho 12 B ρ → rknown (rpar kn23) rE0 l D dA B HB ρ := rkn_add (kk22 l) mk22
theorem kk24 (l : Launch) : ∀ (D : va_G) (dA : Nat → ClassId) (B : Nat) (HB : Heap × rS) (ρ : Nat → Nat), rho 12 B ρ → rknown (rpar kn24) rE0 l D dA B HB ρ := rkn_add (kk23 l) mk23
/-- a run says of the script that the law ends with 1 -/
def rOk (L : Nat) (xs : Nat → Int32) : Prop := ∃ (n : Nat) (pa : List Nat) (r : rR), rrun (rpar kn24) n 247 9 0 [(0, .ref 11)] [] (rstat L) 6 pa 0 0 = some r ∧ r.2.1 = some (.int 1) ∧ r.2.2.2.2.2.1 ≤ 600000 ∧ r.2.2.2.2.2.2 ≤ 7302250 ∧ ∃ ν : rV, (∀ j, j < 6 → ν.1 j = xs j) ∧ rholds ν r.1
theorem rOk_of2 {L : Nat} {xs : Nat → Int32} {n : Nat} {pa : List Nat} {cs : List rK} (h : rfin (rrunF (rpar kn24) n 247 9 0 [(0, .ref 11)] [] (rstat L) 6 pa 0 0) cs = true) (ν : rV) (hx : ∀ j, j < 6 → ν.1 j = xs j) (hh : rholds ν cs) : rOk L xs := by
  rw [rrunF_eq] at h
  unfold rfin at h
  split at h
  · next z hz =>
    simp only [Bool.and_eq_true, decide_eq_true_eq] at h
    obtain ⟨h1, h2, h3, h4, h5⟩ := h
    exact ⟨n, pa, z, hz, h2, Nat.le_of_ble_eq_true h3, Nat.le_of_ble_eq_true h4, ν, hx, by rw [h1]; exact hh⟩
  · cases h
theorem rfin_ssa {r : Option rR} {cs : List rK} (h : rfin r cs = true) : rssa 6 cs = true := by
  unfold rfin at h
  split at h
  · simp only [Bool.and_eq_true, decide_eq_true_eq] at h
    exact h.2.2.2.2
  · cases h
theorem rOk_of {L : Nat} {xs : Nat → Int32} {n : Nat} {pa : List Nat} {cs : List rK} (h : rfin (rrunF (rpar kn24) n 247 9 0 [(0, .ref 11)] [] (rstat L) 6 pa 0 0) cs = true) (ha : rasm (xs, fun _ => 0) cs) : rOk L xs := by
  obtain ⟨ν, g1, g2⟩ := rsol cs 6 (xs, fun _ => 0) (rfin_ssa h) ha
  exact rOk_of2 h ν (fun j hj => (g1 j hj).1) g2
noncomputable def rq {α : Type} (l : List (Nat × α)) (d : α) (i : Nat) : α := @List.rec (Nat × α) (fun _ => α) d (fun q _ ih => @Bool.rec (fun _ => α) ih q.2 (Nat.beq q.1 i)) l
noncomputable def rqv (xs : Nat → Int32) (f : List (Nat × Int32)) (d : List (Nat × Int64)) : rV := (fun i => rq f (xs i) i, fun i => rq d 0 i)
theorem rq_lt {α : Type} {d : α} {j : Nat} (hj : j < 6) : ∀ {f : List (Nat × α)}, f.all (fun q => Nat.ble 6 q.1) = true → rq f d j = d
  | [], _ => rfl
  | q :: f, h => by
    simp only [List.all_cons, Bool.and_eq_true] at h
    have h1 := Nat.le_of_ble_eq_true h.1
    show @Bool.rec (fun _ => α) (rq f d j) q.2 (Nat.beq q.1 j) = d
    cases hb : Nat.beq q.1 j with
    | true =>
      have := Nat.eq_of_beq_eq_true hb
      omega
    | false => exact rq_lt hj h.2
theorem rh_c {ν : rV} {q : rK} {cs : List rK} (h : rhold ν q) (t : rholds ν cs) : rholds ν (q :: cs) := fun x hx => by
  rcases List.mem_cons.mp hx with rfl | hx
  · exact h
  · exact t x hx
