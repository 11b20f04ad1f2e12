/-! a call that makes things, over the state -/
section TMK
variable {g : Nat → Bool} {V W : vV} {σ σₚ : rS} {D N Dₚ Nₚ : Nat → Nat} {F Fₚ : hF} {A Aₚ : hA} {ι κ mk : List Nat}
def gset (g : Nat → Bool) (mk : List Nat) : Nat → Bool := fun j => g j || mk.any (fun q => Nat.beq q j)
theorem gset_o {j : Nat} (h : g j = true) : gset g mk j = true := by
  unfold gset
  rw [h]
  rfl
def SPHm (mk : List Nat) (x : Nat) : Bool := Nat.beq (GPH.getD x 0) 0 || mk.any (fun q => Nat.beq q (GPH.getD x 0))
theorem rat_mst {l : rS} {i : Nat} : rat (mstat ++ l) (11 + i) = rat l i := by
  rw [rat_eq, rat_eq, List.getElem?_append_right (by rw [mstat_len]; omega), mstat_len, show 11 + i - 11 = i by omega]
theorem mFd_at {ν : mE} {ρ : Nat → Nat} {m : rS} {x k ci : Nat} {fs : List Value} (h : rat m (κ.getD x 0) = some (.inl (ci, fs))) : mFd ν ρ κ m x k = vz ν ρ (fs.getD k (.int 0)) := by
  unfold mFd
  rw [h]
theorem mN_at {m : rS} {x t n : Nat} {dv : Value} {ov : rO} (h : rat m (κ.getD x 0) = some (.inr (t, n, dv, ov))) : mN κ m x = n := by
  unfold mN
  rw [h]
theorem mA_at {ν : mE} {ρ : Nat → Nat} {m : rS} {x t n : Nat} {i : Int} {dv : Value} {ov : rO} (h : rat m (κ.getD x 0) = some (.inr (t, n, dv, ov))) : mA ν ρ κ m x i = vz ν ρ (rlk ov dv i.toNat) := by
  unfold mA
  rw [h]
/-- what a group that is new holds lies in ι -/
def mkin (ι mk : List Nat) : Bool := (List.range VPH.length).all (fun x => !(mk.any (fun q => Nat.beq q (GPH.getD x 0))) || (fnd x ι).isSome)
theorem mkin_of (h : mkin ι mk = true) {x : Nat} (hx : x < VPH.length) (hs : SPH (gset g mk) x = true) : SPH g x = true ∨ (fnd x ι).isSome = true := by
  have w := List.all_eq_true.mp h x (List.mem_range.mpr hx)
  unfold SPH gset at hs
  rw [Bool.or_eq_true] at hs
  rcases hs with q | q
  · exact .inl q
  · rw [q] at w
    exact .inr w
theorem HWs_make (h : mkin ι mk = true) (H : HWs (fun y => SPH g y || (fnd y ι).isSome) VPH σ D N F A) : HWs (SPH (gset g mk)) VPH σ D N F A := HWs_congr H (fun x hx hs => by
  show (SPH g x || (fnd x ι).isSome) = true
  rcases mkin_of h hx hs with q | q
  · rw [q]; rfl
  · rw [q, Bool.or_true])
def mexc (ι : List Nat) (e : Nat × Nat × Nat × Nat) : Bool := (fnd e.2.1 ι).isSome || (fnd e.2.2.2 ι).isSome
theorem PFT_lt : ∀ e ∈ PFT, e.2.1 < VPH.length ∧ e.2.2.2 < VPH.length := by
  have h : PFT.all (fun e => Nat.blt e.2.1 VPH.length && Nat.blt e.2.2.2 VPH.length) = true := by decide +kernel
  intro e he
  have w := List.all_eq_true.mp h e he
  rw [Bool.and_eq_true] at w
  exact ⟨blt_of w.1, blt_of w.2⟩
theorem PFI_make {l : List (Nat × Nat × Nat × Nat)} (h : PFI g D F A) (hm : mkin ι mk = true) (hl : PFT.filter (mexc ι) = l) (hx : ∀ e ∈ l, SPH (gset g mk) e.2.1 = true → SPH (gset g mk) e.2.2.2 = true → rval (glu ι F Fₚ) (glu ι A Aₚ) e = ((glu ι D Dₚ e.2.2.2 : Nat) : Int)) : PFI (gset g mk) (glu ι D Dₚ) (glu ι F Fₚ) (glu ι A Aₚ) := fun e he h1 h2 => by
  cases hb : mexc ι e with
  | true => exact hx e (hl ▸ List.mem_filter.mpr ⟨he, hb⟩) h1 h2
  | false =>
    unfold mexc at hb
    rw [Bool.or_eq_false_iff] at hb
    have b1 : fnd e.2.1 ι = none := by
      cases q : fnd e.2.1 ι with
      | none => rfl
      | some x => rw [q] at hb; cases hb.1
    have b2 : fnd e.2.2.2 ι = none := by
      cases q : fnd e.2.2.2 ι with
      | none => rfl
      | some x => rw [q] at hb; cases hb.2
    have l := PFT_lt e he
    have s1 : SPH g e.2.1 = true := by
      rcases mkin_of hm l.1 h1 with q | q
      · exact q
      · rw [b1] at q; cases q
    have s2 : SPH g e.2.2.2 = true := by
      rcases mkin_of hm l.2 h2 with q | q
      · exact q
      · rw [b2] at q; cases q
    have w := h e he s1 s2
    unfold rval at w ⊢
    rw [glu_n b1, glu_n b1, glu_n b2]
    exact w
theorem SPH_not {gs : List Nat} (hg : ∀ j ∈ gs, g j = false) (hl : ι.length = W.length) (hι : ι.tail.all (fun x => gs.any (fun j => Nat.beq j (GPH.getD x 0))) = true) : ∀ x, 0 < x → x < W.length → SPH g (ι.getD x 0) = false := fun x h0 hx => by
  have hm : ι.getD x 0 ∈ ι.tail := by
    match ι, x, hl, h0, hx with
    | [], x, hl, h0, hx => have : ([] : List Nat).length = W.length := hl; have : ([] : List Nat).length = 0 := rfl; omega
    | a :: l, x + 1, hl, h0, hx =>
      have : x < l.length := by have : l.length + 1 = W.length := hl; omega
      show l.getD x 0 ∈ l
      rw [List.getD_eq_getElem?_getD, List.getElem?_eq_getElem this]
      exact List.getElem_mem this
  have w := List.all_eq_true.mp hι _ hm
  obtain ⟨j, hj, e⟩ := List.any_eq_true.mp w
  unfold SPH
  rw [← Nat.eq_of_beq_eq_true e]
  exact hg j hj
theorem gset_n {j : Nat} (h : gset g mk j = true) (hj : mk.any (fun q => Nat.beq q j) = false) : g j = true := by
  unfold gset at h
  rw [hj, Bool.or_false] at h
  exact h
theorem gset_f {j : Nat} (h : gset g mk j = false) : g j = false := by
  unfold gset at h
  rw [Bool.or_eq_false_iff] at h
  exact h.1
theorem ABS_make (h : ABS g F) (hι : ABT.all (fun e => (fnd e.2.1 ι).isNone) = true) : ABS (gset g mk) (glu ι F Fₚ) := fun e he hb => by
  have w := h e he (gset_f hb)
  have x := List.all_eq_true.mp hι e he
  have x : fnd e.2.1 ι = none := by
    cases q : fnd e.2.1 ι with
    | none => rfl
    | some y => rw [q] at x; cases x
  rw [glu_n x]
  exact w
theorem kap_ok (hl : κ.length = W.length) (h : κ.tail.all (fun q => Nat.ble 12 q) = true) : ∀ x, 0 < x → x < W.length → 12 ≤ κ.getD x 0 := fun x h0 hx => by
  match κ, x, hl, h0, hx, h with
  | [], x, hl, h0, hx, _ => have : ([] : List Nat).length = W.length := hl; have : ([] : List Nat).length = 0 := rfl; omega
  | a :: l, x + 1, hl, h0, hx, h =>
    have hx : x < l.length := by have : l.length + 1 = W.length := hl; omega
    have hm : l.getD x 0 ∈ l := by
      rw [List.getD_eq_getElem?_getD, List.getElem?_eq_getElem hx]
      exact List.getElem_mem hx
    exact Nat.le_of_ble_eq_true (List.all_eq_true.mp h _ hm)
/-- what is there stays where it is, and as it is, but the thing that called -/
def KEP (g : Nat → Bool) (x0 : Nat) (D N : Nat → Nat) (F : hF) (A : hA) (Dₚ Nₚ : Nat → Nat) (Fₚ : hF) (Aₚ : hA) : Prop := ∀ x, x < VPH.length → SPH g x = true → Dₚ x = D x ∧ (x ≠ x0 → Nₚ x = N x ∧ Aₚ x = A x ∧ Fₚ x = F x)
theorem KEP_make {x0 : Nat} (hn : ∀ x, 0 < x → x < ι.length → SPH g (ι.getD x 0) = false) (h0 : ι.getD 0 0 = x0) (hd : Dₚ 0 = D x0) : KEP g x0 D N F A (glu ι D Dₚ) (glu ι N Nₚ) (glu ι F Fₚ) (glu ι A Aₚ) := fun x hx hp => by
  cases hf : fnd x ι with
  | none =>
    rw [glu_n hf, glu_n hf, glu_n hf, glu_n hf]
    exact ⟨rfl, fun _ => ⟨rfl, rfl, rfl⟩⟩
  | some p =>
    have w := fnd_lt hf
    by_cases q : p = 0
    · subst q
      rw [glu_s hf]
      rw [h0] at w
      refine ⟨?_, fun n => absurd w.2.symm n⟩
      rw [hd, w.2]
    · exfalso
      have := hn p (by omega) w.1
      rw [w.2, hp] at this
      cases this
theorem gset_m {j : Nat} (hj : mk.any (fun q => Nat.beq q j) = true) : gset g mk j = true := by
  unfold gset
  rw [hj, Bool.or_true]
/-- what was made lies beyond all that was there -/
theorem ST2_make {x0 : Nat} {f : Nat → Int} (hm : mkin ι mk = true) (hx0 : x0 < VPH.length) (hp0 : SPH g x0 = true) (hk : KEP g x0 D N F A Dₚ Nₚ Fₚ Aₚ) (hs : ∀ a, 11 ≤ a → a < σ.length → D x0 ≠ a → rat σₚ a = rat σ a) (hl : σ.length ≤ σₚ.length) (h0 : ι.getD 0 0 = x0) (hκ : κ.length = ι.length) (hb : κ.tail.all (fun q => Nat.ble 12 q && Nat.blt q 1000) = true) (hD : ∀ p, p < ι.length → fnd (ι.getD p 0) ι = some p → Dₚ (ι.getD p 0) = mrho (D x0) σ.length f (κ.getD p 0)) (hn : nodB ι = true) : ST2 g σ D (gset g mk) σₚ Dₚ := by
  refine ⟨fun a a1 a2 hq => hs a a1 a2 (hq x0 hx0 hp0), hl, fun x hx hp => ?_⟩
  rcases mkin_of hm hx hp with q | q
  · exact .inl ⟨x, hx, q, (hk x hx q).1⟩
  · cases hf : fnd x ι with
    | none => rw [hf] at q; cases q
    | some p =>
      have w := fnd_lt hf
      by_cases e : p = 0
      · subst e
        rw [h0] at w
        have e2 := w.2
        subst e2
        exact .inl ⟨_, hx0, hp0, (hk _ hx0 hp0).1⟩
      · right
        have d := hD p w.1 (fnd_of hn w.1)
        rw [w.2] at d
        rw [d]
        have hm' : κ.getD p 0 ∈ κ.tail := by
          match κ, p, hκ, e, w with
          | [], p, hκ, e, w => have : ([] : List Nat).length = ι.length := hκ; have : ([] : List Nat).length = 0 := rfl; omega
          | a :: l, p + 1, hκ, e, w =>
            have : p < l.length := by have : l.length + 1 = ι.length := hκ; omega
            show l.getD p 0 ∈ l
            rw [List.getD_eq_getElem?_getD, List.getElem?_eq_getElem this]
            exact List.getElem_mem this
        have b := List.all_eq_true.mp hb _ hm'
        rw [Bool.and_eq_true] at b
        have b1 := Nat.le_of_ble_eq_true b.1
        rw [mrho_new b1 (blt_of b.2)]
        omega
theorem NZ_make (hm : mkin ι mk = true) (h : NZ g N) (hι : ι.all (fun x => SPHm mk x) = true) (hv : (List.range ι.length).all (fun p => Nat.beq (FXT.getD (ι.getD p 0) 0) 0 || Nat.beq (Nₚ p + 1) (FXT.getD (ι.getD p 0) 0)) = true) (hg0 : g 0 = true) : NZ (gset g mk) (glu ι N Nₚ) := fun x hx => by
  cases hf : fnd x ι with
  | none =>
    rw [glu_n hf]
    refine ⟨fun q => (h x hx).1 (show SPH g x = false from gset_f (j := GPH.getD x 0) q), fun q hx0 => ?_⟩
    cases hs : SPH g x with
    | true => exact (h x hx).2 hs hx0
    | false =>
      rcases mkin_of hm hx q with w | w
      · rw [hs] at w; cases w
      · rw [hf] at w; cases w
  | some p =>
    have w := fnd_lt hf
    rw [glu_s hf]
    refine ⟨fun q => ?_, fun _ hx0 => ?_⟩
    · exfalso
      have hm : x ∈ ι := by
        rw [← w.2, List.getD_eq_getElem?_getD, List.getElem?_eq_getElem w.1]
        exact List.getElem_mem w.1
      have u := List.all_eq_true.mp hι x hm
      unfold SPHm at u
      unfold SPH gset at q
      rw [Bool.or_eq_false_iff] at q
      rw [Bool.or_eq_true] at u
      rcases u with u | u
      · rw [Nat.eq_of_beq_eq_true u, hg0] at q
        cases q.1
      · rw [u] at q
        cases q.2
    · have u := List.all_eq_true.mp hv p (List.mem_range.mpr w.1)
      rw [Bool.or_eq_true, w.2] at u
      rcases u with u | u
      · exact absurd (Nat.eq_of_beq_eq_true u) hx0
      · exact Nat.eq_of_beq_eq_true u
theorem vs_le {f h : Nat → Int} : ∀ {n : Nat}, (∀ y, y < n → f y ≤ h y) → vs f n ≤ vs h n
  | 0, _ => Int.le_refl _
  | n + 1, q => by
    show vs f n + f n ≤ vs h n + h n
    have := vs_le (f := f) (h := h) (n := n) (fun y hy => q y (by omega))
    have := q n (by omega)
    omega
theorem pC_nn (n : Nat) : 0 ≤ pC n := by
  unfold pC
  repeat' split
  all_goals omega
theorem pS_nn (n : Nat) : 0 ≤ pS n := by
  unfold pS
  repeat' split
  all_goals omega
theorem RM_make {x0 : Nat} (h : NZ g N) (hp0 : SPH g x0 = true) (hx0 : FXT.getD x0 0 = 1) (hk : KEP g x0 D N F A Dₚ Nₚ Fₚ Aₚ) : vs (fun x => pC (N x)) VPH.length ≤ vs (fun x => pC (Nₚ x)) VPH.length ∧ vs (fun x => pS (N x)) VPH.length ≤ vs (fun x => pS (Nₚ x)) VPH.length := by
  have e : ∀ x, x < VPH.length → N x = 0 ∨ Nₚ x = N x := fun x hx => by
    by_cases q : x = x0
    · subst q; exact .inl (by have := (h x hx).2 hp0 (by rw [hx0]; decide); omega)
    · cases hs : SPH g x with
      | false => exact .inl ((h x hx).1 hs)
      | true => exact .inr ((hk x hx hs).2 q).1
  constructor
  · refine vs_le (fun x hx => ?_)
    rcases e x hx with q | q
    · rw [q]; exact pC_nn _
    · rw [q]; exact Int.le_refl _
  · refine vs_le (fun x hx => ?_)
    rcases e x hx with q | q
    · rw [q]; exact pS_nn _
    · rw [q]; exact Int.le_refl _
/-- a reference that a making call did not look at -/
theorem vz_u {f : Nat → Int} {ρ : Nat → Nat} {k : Nat} (h : -1 ≤ f k) : vz (mnu f) ρ (.retAddr k) = f k := by
  show (match (if f k < 0 then none else some (f k).toNat : Option Nat) with | some a => (a : Int) | none => -1) = f k
  by_cases q : f k < 0
  · rw [if_pos q]
    show (-1 : Int) = f k
    omega
  · rw [if_neg q]
    show (((f k).toNat : Nat) : Int) = f k
    omega
theorem gset_e {j : Nat} (hj : mk.any (fun q => Nat.beq q j) = false) : gset g mk j = g j := by
  unfold gset
  rw [hj, Bool.or_false]
theorem kadd_t {n : Int} : kadd true n = n := rfl
theorem kadd_f {n : Int} : kadd false n = 0 := rfl
end TMK
/-! arrays of ints that are known -/
def viz : Value → Int
  | .int w => w.toInt
  | _ => 0
noncomputable def izl (ov : rO) : Int → Int := fun i => viz (rlk ov (.int 0) i.toNat)
theorem vz_viz {ν : mE} {ρ : Nat → Nat} {v : Value} (h : risI v = true ∧ (∀ k, v ≠ .float k)) : vz ν ρ v = viz v := by
  cases v with
  | int w => rfl
  | float k => exact absurd rfl (h.2 k)
  | _ => cases h.1
def isint : Value → Bool
  | .int _ => true
  | _ => false
theorem rlk_int : ∀ (ov : rO) (j : Nat), ov.all (fun q => isint q.2) = true → isint (rlk ov (.int 0) j) = true
  | [], _, _ => rfl
  | q :: l, j, h => by
    rw [List.all_cons, Bool.and_eq_true] at h
    show isint (@Bool.rec (fun _ => Value) (rlk l (.int 0) j) q.2 (Nat.beq q.1 j)) = true
    cases Nat.beq q.1 j with
    | true => exact h.1
    | false => exact rlk_int l j h.2
theorem mA_izl {ν : mE} {ρ : Nat → Nat} {κ : List Nat} {m : rS} {x t n : Nat} {ov : rO} (h : rat m (κ.getD x 0) = some (.inr (t, n, .int 0, ov))) (ho : ov.all (fun q => isint q.2) = true) : mA ν ρ κ m x = izl ov := funext (fun i => by
  rw [mA_at h]
  unfold izl
  have w := rlk_int ov i.toNat ho
  generalize rlk ov (.int 0) i.toNat = v at w
  cases v with
  | int w => rfl
  | _ => cases w)
theorem CEL_0 : CEL (izl []) := fun i => (show 0 ≤ ((0 : Int32)).toInt ∧ ((0 : Int32)).toInt ≤ 3071 by decide)
def alln (n : Int) (p : Int → Bool) : Bool := (List.range n.toNat).all (fun i => p (i : Int))
theorem alln_of {n : Int} {p : Int → Bool} (h : alln n p = true) {s : Int} (h0 : 0 ≤ s) (h1 : s < n) : p s = true := by
  have := List.all_eq_true.mp h s.toNat (List.mem_range.mpr (by omega))
  rw [show ((s.toNat : Nat) : Int) = s by omega] at this
  exact this
noncomputable def SLb (P : Int → Int) (n L : Int) (M B S sy X pl : Int → Int) : Bool :=
  decide ((L = 0 ∨ 5 ≤ L ∧ L ≤ 9) ∧ 1 ≤ n ∧ n ≤ 64 ∧ mp P n = p2 L) && (alln n (fun s => decide (-1 ≤ P s)) && (alln n (fun s => decide (P s < 0 → sy (p2 L - 1 - ngs P s) = s)) && (alln (p2 L) (fun j => decide (qs L j < p2 L - ngs P n → 0 ≤ sy (qs L j) ∧ sy (qs L j) < n ∧ cum P (sy (qs L j)) ≤ rk L (p2 L - ngs P n) j ∧ rk L (p2 L - ngs P n) j < cum P (sy (qs L j) + 1)))
  && (alln n (fun s => decide (M s = mass (P s) ∧ S s = mp P s ∧ 0 ≤ L - B s ∧ (1 ≤ mass (P s) → p2 (L - B s) ≤ mass (P s) ∧ mass (P s) < 2 * p2 (L - B s)))) && alln (p2 L) (fun k => decide (X k = XN P sy k ∧ pl (mp P (sy k) + su (eqs sy (sy k)) k.toNat) = k))))))
theorem SL_dec {P : Int → Int} {n L : Int} {M B S sy X pl : Int → Int} (h : SLb P n L M B S sy X pl = true) : SL P n L M B S sy X pl := by
  unfold SLb at h
  simp only [Bool.and_eq_true] at h
  obtain ⟨h1, h2, h3, h4, h5, h6⟩ := h
  have h1 := of_decide_eq_true h1
  refine ⟨⟨h1.1, h1.2.1, h1.2.2.1, fun s a b => of_decide_eq_true (alln_of h2 a b), h1.2.2.2⟩, ⟨fun s a b => of_decide_eq_true (alln_of h3 a b), fun j a b => of_decide_eq_true (alln_of h4 a b)⟩, fun s a b => (of_decide_eq_true (alln_of h5 a b)).1, fun s a b => (of_decide_eq_true (alln_of h5 a b)).2.1, fun s a b => (of_decide_eq_true (alln_of h5 a b)).2.2, fun s a b => (of_decide_eq_true (alln_of h6 a b)).1, fun s a b => (of_decide_eq_true (alln_of h6 a b)).2⟩
