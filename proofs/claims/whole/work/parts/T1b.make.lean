/-! a call that makes things, over the state -/
section TMK
variable {g : Nat → Bool} {V W : vV} {σ σ' : rS} {D N D' N' : Nat → Nat} {F F' : hF} {A A' : hA} {ι κ mk : List Nat}
def gset (g : Nat → Bool) (mk : List Nat) : Nat → Bool := fun j => g j || mk.any (fun q => Nat.beq q j)
theorem gset_o {j : Nat} (h : g j = true) : gset g mk j = true := by
  unfold gset
  rw [h]
  rfl
theorem rat_mst {l : rS} {i : Nat} : rat (mstat ++ l) (11 + i) = rat l i := by
  rw [rat_eq, rat_eq, List.getElem?_append_right (by rw [mstat_len]; omega), mstat_len, show 11 + i - 11 = i by omega]
theorem mFd_at {ν : rV} {ρ : Nat → Nat} {m : rS} {x k ci : Nat} {fs : List Value} (h : rat m (κ.getD x 0) = some (.inl (ci, fs))) : mFd ν ρ κ m x k = vz ν ρ (fs.getD k (.int 0)) := by
  unfold mFd
  rw [h]
theorem mN_at {m : rS} {x t n : Nat} {dv : Value} {ov : rO} (h : rat m (κ.getD x 0) = some (.inr (t, n, dv, ov))) : mN κ m x = n := by
  unfold mN
  rw [h]
theorem mA_at {ν : rV} {ρ : Nat → Nat} {m : rS} {x t n : Nat} {i : Int} {dv : Value} {ov : rO} (h : rat m (κ.getD x 0) = some (.inr (t, n, dv, ov))) : mA ν ρ κ m x i = vz ν ρ (rlk ov dv i.toNat) := by
  unfold mA
  rw [h]
/-- what a group that is new holds lies in ι -/
def mkin (ι mk : List Nat) : Bool := (List.range VPH.length).all (fun x => !(mk.any (fun q => Nat.beq q (GPH.getD x 0))) || (fnd x ι).isSome)
theorem mkin_of (h : mkin ι mk = true) {x : Nat} (hx : x < VPH.length) (hs : SPH (gset g mk) x = true) : SPH g x = true ∨ (fnd x ι).isSome = true := by
  have w := List.all_eq_true.mp h x (List.mem_range.mpr hx)
  unfold SPH gset at hs
  rw [Bool.or_eq_true] at hs
  rcases hs with q | q
  · exact .inl q
  · rw [q] at w
    exact .inr w
theorem HWs_make (h : mkin ι mk = true) (H : HWs (fun y => SPH g y || (fnd y ι).isSome) VPH σ D N F A) : HWs (SPH (gset g mk)) VPH σ D N F A := HWs_congr H (fun x hx hs => by
  show (SPH g x || (fnd x ι).isSome) = true
  rcases mkin_of h hx hs with q | q
  · rw [q]; rfl
  · rw [q, Bool.or_true])
def mexc (ι : List Nat) (e : Nat × Nat × Nat × Nat) : Bool := (fnd e.2.1 ι).isSome || (fnd e.2.2.2 ι).isSome
theorem PFT_lt : ∀ e ∈ PFT, e.2.1 < VPH.length ∧ e.2.2.2 < VPH.length := by
  have h : PFT.all (fun e => Nat.blt e.2.1 VPH.length && Nat.blt e.2.2.2 VPH.length) = true := by decide +kernel
  intro e he
  have w := List.all_eq_true.mp h e he
  rw [Bool.and_eq_true] at w
  exact ⟨blt_of w.1, blt_of w.2⟩
theorem PFI_make {l : List (Nat × Nat × Nat × Nat)} (h : PFI g D F A) (hm : mkin ι mk = true) (hl : PFT.filter (mexc ι) = l) (hx : ∀ e ∈ l, SPH (gset g mk) e.2.1 = true → SPH (gset g mk) e.2.2.2 = true → rval (glu ι F F') (glu ι A A') e = ((glu ι D D' e.2.2.2 : Nat) : Int)) : PFI (gset g mk) (glu ι D D') (glu ι F F') (glu ι A A') := fun e he h1 h2 => by
  cases hb : mexc ι e with
  | true => exact hx e (hl ▸ List.mem_filter.mpr ⟨he, hb⟩) h1 h2
  | false =>
    unfold mexc at hb
    rw [Bool.or_eq_false_iff] at hb
    have b1 : fnd e.2.1 ι = none := by
      cases q : fnd e.2.1 ι with
      | none => rfl
      | some x => rw [q] at hb; cases hb.1
    have b2 : fnd e.2.2.2 ι = none := by
      cases q : fnd e.2.2.2 ι with
      | none => rfl
      | some x => rw [q] at hb; cases hb.2
    have l := PFT_lt e he
    have s1 : SPH g e.2.1 = true := by
      rcases mkin_of hm l.1 h1 with q | q
      · exact q
      · rw [b1] at q; cases q
    have s2 : SPH g e.2.2.2 = true := by
      rcases mkin_of hm l.2 h2 with q | q
      · exact q
      · rw [b2] at q; cases q
    have w := h e he s1 s2
    unfold rval at w ⊢
    rw [glu_n b1, glu_n b1, glu_n b2]
    exact w
theorem SPH_not {gs : List Nat} (hg : ∀ j ∈ gs, g j = false) (hl : ι.length = W.length) (hι : ι.tail.all (fun x => gs.any (fun j => Nat.beq j (GPH.getD x 0))) = true) : ∀ x, 0 < x → x < W.length → SPH g (ι.getD x 0) = false := fun x h0 hx => by
  have hm : ι.getD x 0 ∈ ι.tail := by
    match ι, x, hl, h0, hx with
    | [], x, hl, h0, hx => have : ([] : List Nat).length = W.length := hl; have : ([] : List Nat).length = 0 := rfl; omega
    | a :: l, x + 1, hl, h0, hx =>
      have : x < l.length := by have : l.length + 1 = W.length := hl; omega
      show l.getD x 0 ∈ l
      rw [List.getD_eq_getElem?_getD, List.getElem?_eq_getElem this]
      exact List.getElem_mem this
  have w := List.all_eq_true.mp hι _ hm
  obtain ⟨j, hj, e⟩ := List.any_eq_true.mp w
  unfold SPH
  rw [← Nat.eq_of_beq_eq_true e]
  exact hg j hj
theorem gset_n {j : Nat} (h : gset g mk j = true) (hj : mk.any (fun q => Nat.beq q j) = false) : g j = true := by
  unfold gset at h
  rw [hj, Bool.or_false] at h
  exact h
theorem gset_f {j : Nat} (h : gset g mk j = false) : g j = false := by
  unfold gset at h
  rw [Bool.or_eq_false_iff] at h
  exact h.1
theorem ABS_make (h : ABS g F) (hι : ABT.all (fun e => (fnd e.2.1 ι).isNone) = true) : ABS (gset g mk) (glu ι F F') := fun e he hb => by
  have w := h e he (gset_f hb)
  have x := List.all_eq_true.mp hι e he
  have x : fnd e.2.1 ι = none := by
    cases q : fnd e.2.1 ι with
    | none => rfl
    | some y => rw [q] at x; cases x
  rw [glu_n x]
  exact w
theorem kap_ok (hl : κ.length = W.length) (h : κ.tail.all (fun q => Nat.ble 12 q) = true) : ∀ x, 0 < x → x < W.length → 12 ≤ κ.getD x 0 := fun x h0 hx => by
  match κ, x, hl, h0, hx, h with
  | [], x, hl, h0, hx, _ => have : ([] : List Nat).length = W.length := hl; have : ([] : List Nat).length = 0 := rfl; omega
  | a :: l, x + 1, hl, h0, hx, h =>
    have hx : x < l.length := by have : l.length + 1 = W.length := hl; omega
    have hm : l.getD x 0 ∈ l := by
      rw [List.getD_eq_getElem?_getD, List.getElem?_eq_getElem hx]
      exact List.getElem_mem hx
    exact Nat.le_of_ble_eq_true (List.all_eq_true.mp h _ hm)
/-- what is there stays where it is, and as it is, but the thing that called -/
def KEP (g : Nat → Bool) (x0 : Nat) (D N : Nat → Nat) (F : hF) (A : hA) (D' N' : Nat → Nat) (F' : hF) (A' : hA) : Prop := ∀ x, x < VPH.length → SPH g x = true → D' x = D x ∧ (x ≠ x0 → N' x = N x ∧ A' x = A x ∧ F' x = F x)
theorem KEP_make {x0 : Nat} (hn : ∀ x, 0 < x → x < ι.length → SPH g (ι.getD x 0) = false) (h0 : ι.getD 0 0 = x0) (hd : D' 0 = D x0) : KEP g x0 D N F A (glu ι D D') (glu ι N N') (glu ι F F') (glu ι A A') := fun x hx hp => by
  cases hf : fnd x ι with
  | none =>
    rw [glu_n hf, glu_n hf, glu_n hf, glu_n hf]
    exact ⟨rfl, fun _ => ⟨rfl, rfl, rfl⟩⟩
  | some p =>
    have w := fnd_lt hf
    by_cases q : p = 0
    · subst q
      rw [glu_s hf]
      rw [h0] at w
      refine ⟨?_, fun n => absurd w.2.symm n⟩
      rw [hd, w.2]
    · exfalso
      have := hn p (by omega) w.1
      rw [w.2, hp] at this
      cases this
theorem STY_make {x0 : Nat} (hx0 : x0 < VPH.length) (hp0 : SPH g x0 = true) (hk : KEP g x0 D N F A D' N' F' A') (hs : ∀ a, 12 ≤ a → a < σ.length → D x0 ≠ a → rat σ' a = rat σ a) (hl : σ.length ≤ σ'.length) : STY g σ D σ' D' :=
  ⟨fun a a1 a2 hn => hs a a1 a2 (hn x0 hx0 hp0), hl, fun x hx hp => .inl (hk x hx hp).1⟩
end TMK
