/-! a view of which some things are not made yet -/
section HS1
variable {S : Nat → Bool} {V W : vV} {σ σₚ : rS} {D N Dₚ Nₚ : Nat → Nat} {F Fₚ : hF} {A Aₚ : hA} {ι : List Nat}
def HWs (S : Nat → Bool) (V : vV) (σ : rS) (D N : Nat → Nat) (F : hF) (A : hA) : Prop :=
  (∀ x, x < V.length → S x = true → varr V x = false → rat σ (D x) = some (vcell V D F x)) ∧
  (∀ x, x < V.length → S x = true → varr V x = true → ∃ dv ov, rat σ (D x) = some (.inr (vak V x, N x, dv, ov)) ∧ ∀ j : Nat, rlk ov dv j = va (vak V x) (A x j)) ∧
  (∀ x y, x < V.length → y < V.length → S x = true → S y = true → D x = D y → x = y) ∧
  (∀ x, x < V.length → S x = true → 12 ≤ D x) ∧
  (∀ x k, x < V.length → S x = true → krng (vfd V x k).1 (F x k)) ∧
  (∀ x i, x < V.length → S x = true → varr V x = true → arng (vak V x) (A x i)) ∧
  (∀ x, x < V.length → S x = true → N x ≤ 1000000)
theorem HWs.obj (H : HWs S V σ D N F A) : ∀ x, x < V.length → S x = true → varr V x = false → rat σ (D x) = some (vcell V D F x) := H.1
theorem HWs.arr (H : HWs S V σ D N F A) : ∀ x, x < V.length → S x = true → varr V x = true → ∃ dv ov, rat σ (D x) = some (.inr (vak V x, N x, dv, ov)) ∧ ∀ j : Nat, rlk ov dv j = va (vak V x) (A x j) := H.2.1
theorem HWs.inj (H : HWs S V σ D N F A) : ∀ x y, x < V.length → y < V.length → S x = true → S y = true → D x = D y → x = y := H.2.2.1
theorem HWs.lo (H : HWs S V σ D N F A) : ∀ x, x < V.length → S x = true → 12 ≤ D x := H.2.2.2.1
theorem HWs.krg (H : HWs S V σ D N F A) : ∀ x k, x < V.length → S x = true → krng (vfd V x k).1 (F x k) := H.2.2.2.2.1
theorem HWs.arg (H : HWs S V σ D N F A) : ∀ x i, x < V.length → S x = true → varr V x = true → arng (vak V x) (A x i) := H.2.2.2.2.2.1
theorem HWs.nle (H : HWs S V σ D N F A) : ∀ x, x < V.length → S x = true → N x ≤ 1000000 := H.2.2.2.2.2.2
theorem HWs.lt (H : HWs S V σ D N F A) {x : Nat} (hx : x < V.length) (hp : S x = true) : D x < σ.length := by
  cases ha : varr V x with
  | false => exact rat_lt (H.obj x hx hp ha)
  | true =>
    obtain ⟨dv, ov, q, -⟩ := H.arr x hx hp ha
    exact rat_lt q
theorem HWs_congr {S' : Nat → Bool} (H : HWs S V σ D N F A) (h : ∀ x, x < V.length → S' x = true → S x = true) : HWs S' V σ D N F A :=
  ⟨fun x hx hp => H.obj x hx (h x hx hp), fun x hx hp => H.arr x hx (h x hx hp), fun x y hx hy hp hq => H.inj x y hx hy (h x hx hp) (h y hy hq), fun x hx hp => H.lo x hx (h x hx hp), fun x k hx hp => H.krg x k hx (h x hx hp), fun x i hx hp => H.arg x i hx (h x hx hp), fun x hx hp => H.nle x hx (h x hx hp)⟩
theorem HWs_sub (H : HWs S V σ D N F A) (hs : VS V W ι) (hp : ∀ x, x < W.length → S (ι.getD x 0) = true) : HW W σ (pul ι D) (pul ι N) (pul ι F) (pul ι A) := by
  obtain ⟨s1, s2, s3, s4, s5, s6, s7⟩ := hs
  have ar : ∀ x, x < W.length → varr V (ι.getD x 0) = varr W x := fun x hx => by unfold varr; rw [s4 x hx]
  have ak : ∀ x, x < W.length → vak V (ι.getD x 0) = vak W x := fun x hx => by unfold vak; rw [s4 x hx]
  refine ⟨fun x hx ha => ?_, fun x hx ha => ?_, fun x y hx hy e => ?_, fun x hx => H.lo _ (s3 x hx) (hp x hx), fun x k hx => ?_, fun x i hx ha => ?_, fun x hx => H.nle _ (s3 x hx) (hp x hx)⟩
  · show rat σ (D (ι.getD x 0)) = _
    rw [H.obj _ (s3 x hx) (hp x hx) (by rw [ar x hx]; exact ha)]
    unfold vcell vcls
    rw [s4 x hx, s5 x hx]
    congr 3
    apply List.map_congr_left
    intro k hk
    have hk := List.mem_range.mp hk
    exact vf_eq (s6 x k hx hk) (fun h3 => by rw [(s7 x k hx hk h3).2]; rfl)
  · show ∃ dv ov, rat σ (D (ι.getD x 0)) = some (.inr (vak W x, N (ι.getD x 0), dv, ov)) ∧ _
    rw [← ak x hx]
    exact H.arr _ (s3 x hx) (hp x hx) (by rw [ar x hx]; exact ha)
  · have q := H.inj _ _ (s3 x hx) (s3 y hy) (hp x hx) (hp y hy) e
    have a := fnd_of s2 (show x < ι.length by omega)
    have b := fnd_of s2 (show y < ι.length by omega)
    rw [q, b] at a
    cases a
    rfl
  · show krng (vfd W x k).1 (F (ι.getD x 0) k)
    have w := H.krg (ι.getD x 0) k (s3 x hx) (hp x hx)
    by_cases hk : k < vnf W x
    · rw [← s6 x k hx hk]; exact w
    · rw [vfd_out hk]
      rw [vfd_out (by rw [s5 x hx]; exact hk)] at w
      exact w
  · show arng (vak W x) (A (ι.getD x 0) i)
    rw [← ak x hx]
    exact H.arg _ i (s3 x hx) (hp x hx) (by rw [ar x hx]; exact ha)
/-- no field of a thing names a thing of the view -/
def vn3 (V : vV) : Bool := V.all (fun e => e.2.2.all (fun f => !(Nat.beq f.1 3)))
theorem vn3_f {x k : Nat} (h : vn3 V = true) : (vfd V x k).1 ≠ 3 := fun q => by
  by_cases hk : k < vnf V x
  · have hx : x < V.length := by
      by_cases hx : x < V.length
      · exact hx
      · exfalso
        unfold vnf vent at hk
        rw [List.getD_eq_getElem?_getD, List.getElem?_eq_none (by omega)] at hk
        exact Nat.not_lt_zero _ hk
    have e : vent V x = V[x] := by
      unfold vent
      rw [List.getD_eq_getElem?_getD, List.getElem?_eq_getElem hx]
      rfl
    have w := List.all_eq_true.mp h V[x] (List.getElem_mem hx)
    unfold vfd at q
    unfold vnf at hk
    rw [e] at q hk
    rw [List.getD_eq_getElem?_getD, List.getElem?_eq_getElem hk] at q
    have w2 := List.all_eq_true.mp w _ (List.getElem_mem hk)
    have q : ((V[x]).2.2[k]).1 = 3 := q
    rw [q] at w2
    cases w2
  · rw [vfd_out hk] at q
    cases q
/-- a part of the view, of which some things may have been made, has changed -/
theorem HWs_glue (H : HWs S V σ D N F A) (h3 : vn3 V = true) (hs : VS V W ι) (Hₚ : HW W σₚ Dₚ Nₚ Fₚ Aₚ)
    (ho : ∀ a, 12 ≤ a → a < σ.length → (∀ x, x < W.length → S (ι.getD x 0) = true → D (ι.getD x 0) ≠ a) → rat σₚ a = rat σ a)
    (hd : ∀ x, x < W.length → (S (ι.getD x 0) = true ∧ Dₚ x = D (ι.getD x 0)) ∨ σ.length ≤ Dₚ x) :
    HWs (fun y => S y || (fnd y ι).isSome) V σₚ (glu ι D Dₚ) (glu ι N Nₚ) (glu ι F Fₚ) (glu ι A Aₚ) := by
  obtain ⟨s1, s2, s3, s4, s5, s6, s7⟩ := hs
  have inn : ∀ {y x : Nat}, fnd y ι = some x → x < W.length ∧ ι.getD x 0 = y := fun h => by have := fnd_lt h; exact ⟨by omega, this.2⟩
  have pre : ∀ {y : Nat}, (S y || (fnd y ι).isSome) = true → fnd y ι = none → S y = true := fun {y} h e => by
    rw [e] at h
    have h : (S y || false) = true := h
    rw [Bool.or_false] at h
    exact h
  have old : ∀ {y : Nat}, y < V.length → S y = true → fnd y ι = none → rat σₚ (D y) = rat σ (D y) := fun {y} hy hp h => ho _ (H.lo y hy hp) (H.lt hy hp) (fun x hx hq q => by
    have := H.inj _ _ (s3 x hx) hy hq hp q
    exact fnd_none h s2 (by omega) this)
  refine ⟨fun y hy hp ha => ?_, fun y hy hp ha => ?_, fun y z hy hz hp hq e => ?_, fun y hy hp => ?_, fun y k hy hp => ?_, fun y i hy hp ha => ?_, fun y hy hp => ?_⟩
  · cases h : fnd y ι with
    | none =>
      rw [glu_n h, old hy (pre hp h) h, H.obj y hy (pre hp h) ha]
      unfold vcell
      congr 3
      apply List.map_congr_left
      intro k hk
      rw [glu_n h]
      exact vf_eq rfl (fun q => absurd q (vn3_f h3))
    | some x =>
      obtain ⟨x1, x2⟩ := inn h
      subst x2
      rw [glu_s h, Hₚ.obj x x1 (by unfold varr; rw [← s4 x x1]; exact ha)]
      unfold vcell vcls
      rw [s4 x x1, s5 x x1]
      congr 3
      apply List.map_congr_left
      intro k hk
      have hk := List.mem_range.mp hk
      rw [glu_s h]
      refine (vf_eq (s6 x k x1 hk) (fun q => absurd ?_ (vn3_f h3 (x := ι.getD x 0) (k := k)))).symm
      rw [s6 x k x1 hk]
      exact q
  · cases h : fnd y ι with
    | none =>
      rw [glu_n h, glu_n h, glu_n h, old hy (pre hp h) h]
      exact H.arr y hy (pre hp h) ha
    | some x =>
      obtain ⟨x1, x2⟩ := inn h
      subst x2
      rw [glu_s h, glu_s h, glu_s h, show vak V (ι.getD x 0) = vak W x by unfold vak; rw [s4 x x1]]
      exact Hₚ.arr x x1 (by unfold varr; rw [← s4 x x1]; exact ha)
  · cases h : fnd y ι with
    | none =>
      cases h2 : fnd z ι with
      | none => rw [glu_n h, glu_n h2] at e; exact H.inj y z hy hz (pre hp h) (pre hq h2) e
      | some x =>
        exfalso
        rw [glu_n h, glu_s h2] at e
        obtain ⟨x1, x2⟩ := inn h2
        rcases hd x x1 with w | w
        · exact fnd_none h s2 (x := x) (by omega) (H.inj _ _ (s3 x x1) hy w.1 (pre hp h) (w.2.symm.trans e.symm))
        · have := H.lt hy (pre hp h); omega
    | some x =>
      obtain ⟨x1, x2⟩ := inn h
      cases h2 : fnd z ι with
      | none =>
        exfalso
        rw [glu_s h, glu_n h2] at e
        rcases hd x x1 with w | w
        · exact fnd_none h2 s2 (x := x) (by omega) (H.inj _ _ (s3 x x1) hz w.1 (pre hq h2) (w.2.symm.trans e))
        · have := H.lt hz (pre hq h2); omega
      | some x' =>
        obtain ⟨x1', x2'⟩ := inn h2
        rw [glu_s h, glu_s h2] at e
        rw [← x2, ← x2', Hₚ.inj x x' x1 x1' e]
  · cases h : fnd y ι with
    | none => rw [glu_n h]; exact H.lo y hy (pre hp h)
    | some x => rw [glu_s h]; exact Hₚ.lo x (inn h).1
  · cases h : fnd y ι with
    | none => rw [glu_n h]; exact H.krg y k hy (pre hp h)
    | some x =>
      obtain ⟨x1, x2⟩ := inn h
      subst x2
      rw [glu_s h]
      have w := Hₚ.krg x k x1
      by_cases hk : k < vnf W x
      · rw [s6 x k x1 hk]; exact w
      · rw [vfd_out (by rw [s5 x x1]; exact hk)]
        rw [vfd_out hk] at w
        exact w
  · cases h : fnd y ι with
    | none => rw [glu_n h]; exact H.arg y i hy (pre hp h) ha
    | some x =>
      obtain ⟨x1, x2⟩ := inn h
      subst x2
      rw [glu_s h, show vak V (ι.getD x 0) = vak W x by unfold vak; rw [s4 x x1]]
      exact Hₚ.arg x i x1 (by unfold varr; rw [← s4 x x1]; exact ha)
  · cases h : fnd y ι with
    | none => rw [glu_n h]; exact H.nle y hy (pre hp h)
    | some x => rw [glu_s h]; exact Hₚ.nle x (inn h).1
/-- a call over a part that is there -/
theorem HWs_call (H : HWs S V σ D N F A) (h3 : vn3 V = true) (hs : VS V W ι) (hp : ∀ x, x < W.length → S (ι.getD x 0) = true) (Hₚ : HW W σₚ Dₚ Nₚ Fₚ Aₚ) {c s cₚ sₚ : Nat} (O : OUT W.length (pul ι D) (pul ι N) σ c s Dₚ Nₚ σₚ cₚ sₚ) :
    HWs S V σₚ (glu ι D Dₚ) (glu ι N Nₚ) (glu ι F Fₚ) (glu ι A Aₚ) := by
  refine HWs_congr (HWs_glue H h3 hs Hₚ (fun a _ ha hn => O.1 a ha (fun x hx q => hn x hx (hp x hx) q)) (fun x hx => ?_)) (fun x _ hx => ?_)
  · rcases O.2.2.1 x hx with w | w
    · exact .inl ⟨hp x hx, w⟩
    · exact .inr w
  · show (S x || _) = true
    rw [hx]
    rfl
end HS1
section HS2
variable {S : Nat → Bool} {V W : vV} {σ σₚ m' : rS} {D N : Nat → Nat} {F : hF} {A : hA} {ι κ : List Nat} {x0 : Nat}
def mov : Nat → List Int → rO
  | _, [] => []
  | i, z :: l => (i, I z) :: mov (i + 1) l
theorem mov_lk : ∀ (l : List Int) (i j : Nat), rlk (mov i l) (.int 0) (i + j) = I (l.getD j 0)
  | [], i, j => by
    show Value.int 0 = I ((([] : List Int)).getD j 0)
    rw [List.getD_eq_getElem?_getD, List.getElem?_eq_none (Nat.zero_le _)]
    rfl
  | z :: l, i, 0 => by
    show @Bool.rec (fun _ => Value) _ (I z) (Nat.beq i (i + 0)) = _
    rw [Nat.add_zero, Nat.beq_refl]
    rfl
  | z :: l, i, j + 1 => by
    show @Bool.rec (fun _ => Value) (rlk (mov (i + 1) l) (.int 0) (i + (j + 1))) (I z) (Nat.beq i (i + (j + 1))) = _
    rw [beqf (show i ≠ i + (j + 1) by omega), show i + (j + 1) = i + 1 + j by omega]
    exact mov_lk l (i + 1) j
noncomputable def mstat : rS := (List.range 11).map (fun b => .inr ((bif Nat.beq b 0 then 0 else 1), (stl b).length, .int 0, mov 0 (stl b)))
theorem mstat_at {b : Nat} (h : b < 11) : rat mstat b = some (.inr ((bif Nat.beq b 0 then 0 else 1), (stl b).length, .int 0, mov 0 (stl b))) := by
  unfold mstat
  rw [rat_eq, List.getElem?_map, List.getElem?_range h]
  rfl
theorem mstat_len : mstat.length = 11 := by
  unfold mstat
  rw [List.length_map, List.length_range]
/-- where the numbers of a run that makes things lie: the thing that is there already at a, what it refers to by its k-th field at 1000 + k -/
def mrho (a L : Nat) (f : Nat → Int) : Nat → Nat := fun k => bif Nat.blt k 11 then k else bif Nat.beq k 11 then a else bif Nat.blt k 1000 then L + (k - 12) else (f (k - 1000)).toNat
def mnu (f : Nat → Int) : mE := ((fun j => Int32.ofInt (f j), fun _ => 0), fun j => if f j < 0 then none else some (f j).toNat)
theorem mrho_lo {a L : Nat} {f : Nat → Int} {k : Nat} (h : k < 11) : mrho a L f k = k := by
  unfold mrho
  rw [show Nat.blt k 11 = true from Nat.ble_eq.mpr h]
  rfl
theorem mrho_11 {a L : Nat} {f : Nat → Int} : mrho a L f 11 = a := rfl
theorem blt_f {a b : Nat} (h : ¬ a < b) : Nat.blt a b = false := by
  cases e : Nat.blt a b with
  | false => rfl
  | true => exact absurd (blt_of e) h
theorem mrho_new {a L : Nat} {f : Nat → Int} {k : Nat} (h : 12 ≤ k) (h2 : k < 1000) : mrho a L f k = L + (k - 12) := by
  unfold mrho
  rw [blt_f (show ¬ k < 11 by omega), beqf (show k ≠ 11 by omega), show Nat.blt k 1000 = true from Nat.ble_eq.mpr h2]
  rfl
theorem mrho_F {a L : Nat} {f : Nat → Int} (h1 : 12 ≤ a) (h2 : a < L) : mF (mrho a L f) 12 L := by
  refine ⟨fun j k hj hk e => ?_, fun k h h' => mrho_new h h', fun k h h' => ?_, fun k h => mrho_lo h⟩
  · by_cases a1 : j < 11
    · by_cases b1 : k < 11
      · rw [mrho_lo a1, mrho_lo b1] at e; exact e
      · by_cases b2 : k = 11
        · subst b2; rw [mrho_lo a1, mrho_11] at e; omega
        · rw [mrho_lo a1, mrho_new (by omega) hk] at e; omega
    · by_cases a2 : j = 11
      · subst a2
        by_cases b1 : k < 11
        · rw [mrho_lo b1, mrho_11] at e; omega
        · by_cases b2 : k = 11
          · exact b2.symm
          · rw [mrho_11, mrho_new (by omega) hk] at e; omega
      · by_cases b1 : k < 11
        · rw [mrho_lo b1, mrho_new (by omega) hj] at e; omega
        · by_cases b2 : k = 11
          · subst b2; rw [mrho_11, mrho_new (by omega) hj] at e; omega
          · rw [mrho_new (by omega) hj, mrho_new (by omega) hk] at e; omega
  · by_cases w : k = 11
    · subst w; rw [mrho_11]; exact h1
    · rw [mrho_new (by omega) h']; omega
/-- the fields of a thing that is there, as a run that makes things sees them: by place, null, or a named int -/
def mfld (kd k : Nat) (v : Value) : Bool :=
  match v with
  | .ref a => Nat.beq a (1000 + k) && Nat.beq kd 4
  | .null => Nat.beq kd 4
  | .float u => Nat.beq u.toNat k && Nat.beq kd 0
  | .retAddr p => Nat.beq p k && Nat.beq kd 4
  | _ => false
theorem mfld_ok {L a kd k e : Nat} {f : Nat → Int} {v : Value} {D : Nat → Nat} (h : mfld kd k v = true) (hn : v = .null → f k = -1) (hr : v = .ref (1000 + k) → 0 ≤ f k) : mg (mnu f) (mrho a L f) v = vf D (kd, e) (f k) := by
  cases v with
  | ref b =>
    have h : (Nat.beq b (1000 + k) && Nat.beq kd 4) = true := h
    rw [Bool.and_eq_true] at h
    have h1 := Nat.eq_of_beq_eq_true h.1
    have h2 := Nat.eq_of_beq_eq_true h.2
    subst h1 h2
    have w := hr rfl
    have e1 : mrho a L f (1000 + k) = (f k).toNat := by
      unfold mrho
      rw [blt_f (show ¬ 1000 + k < 11 by omega), beqf (show 1000 + k ≠ 11 by omega), blt_f (show ¬ 1000 + k < 1000 by omega), show 1000 + k - 1000 = k by omega]
      rfl
    show Value.ref (mrho a L f (1000 + k)) = if f k < 0 then .null else .ref (f k).toNat
    rw [e1, if_neg (by omega)]
  | null =>
    have h2 := Nat.eq_of_beq_eq_true (show Nat.beq kd 4 = true from h)
    subst h2
    show Value.null = if f k < 0 then .null else .ref (f k).toNat
    rw [if_pos (by rw [hn rfl]; decide)]
  | float u =>
    have h : (Nat.beq u.toNat k && Nat.beq kd 0) = true := h
    rw [Bool.and_eq_true] at h
    have h1 := Nat.eq_of_beq_eq_true h.1
    have h2 := Nat.eq_of_beq_eq_true h.2
    subst h1 h2
    rfl
  | int _ => cases h
  | long _ => cases h
  | double _ => cases h
  | retAddr p =>
    have h : (Nat.beq p k && Nat.beq kd 4) = true := h
    rw [Bool.and_eq_true] at h
    have h1 := Nat.eq_of_beq_eq_true h.1
    have h2 := Nat.eq_of_beq_eq_true h.2
    subst h1 h2
    show (match (if f p < 0 then none else some (f p).toNat : Option Nat) with | some a => Value.ref a | none => Value.null) = if f p < 0 then .null else .ref (f p).toNat
    by_cases q : f p < 0
    · rw [if_pos q, if_pos q]
    · rw [if_neg q, if_neg q]
def mflds (V : vV) (x0 : Nat) (fl : List Value) : Bool := Nat.beq fl.length (vnf V x0) && (List.range (vnf V x0)).all (fun k => mfld (vfd V x0 k).1 k (fl.getD k (.int 0)))
/-- a run that makes things begins -/
theorem mk_I (H : HWs S V σ D N F A) (HT : STC σ) (hx : x0 < V.length) (hp : S x0 = true) (ha : varr V x0 = false) {fl : List Value} (hf : mflds V x0 fl = true) (hn : ∀ k, k < vnf V x0 → (fl.getD k (.int 0) = .null → F x0 k = -1) ∧ (fl.getD k (.int 0) = .ref (1000 + k) → 0 ≤ F x0 k)) :
    mI (mnu (F x0)) (mrho (D x0) σ.length (F x0)) 12 σ.length σ (mstat ++ [.inl (vcls V x0, fl)]) σ := by
  have hl : (mstat ++ [(.inl (vcls V x0, fl) : rC)]).length = 12 := by rw [List.length_append, mstat_len]; rfl
  unfold mflds at hf
  rw [Bool.and_eq_true] at hf
  have h1 := Nat.eq_of_beq_eq_true hf.1
  refine ⟨fun k q hk => ?_, by omega, by omega, by omega, fun a _ _ => rfl⟩
  have := rat_lt hk
  by_cases w : k < 11
  · rw [rat_app (by rw [mstat_len]; exact w), mstat_at w] at hk
    cases hk
    obtain ⟨dv, ov, q1, q2⟩ := HT k w
    refine ⟨_, by rw [mrho_lo w]; exact q1, dv, ov, rfl, fun j => ?_⟩
    rw [q2]
    show _ = mg _ _ (rlk (mov 0 (stl k)) (.int 0) j)
    have e := mov_lk (stl k) 0 j
    rw [Nat.zero_add] at e
    rw [e]
    rfl
  · have w : k = 11 := by omega
    subst w
    have e : rat (mstat ++ [(.inl (vcls V x0, fl) : rC)]) 11 = some (.inl (vcls V x0, fl)) := by
      have := rat_new (σ := mstat) (q := .inl (vcls V x0, fl))
      rw [mstat_len] at this
      exact this
    rw [e] at hk
    cases hk
    refine ⟨_, H.obj x0 hx hp ha, ?_⟩
    show vcell V D F x0 = .inl (vcls V x0, mT _ _ fl)
    unfold vcell
    congr 2
    apply List.ext_getElem
    · unfold mT
      rw [List.length_map, List.length_map, List.length_range, h1]
    · intro k a b
      rw [List.length_map, List.length_range] at a
      unfold mT at b ⊢
      rw [List.getElem_map, List.getElem_map, List.getElem_range]
      have w := List.all_eq_true.mp hf.2 k (List.mem_range.mpr a)
      have e2 : fl.getD k (.int 0) = fl[k] := by rw [List.getD_eq_getElem?_getD, List.getElem?_eq_getElem (by omega)]; rfl
      have n := hn k a
      rw [e2] at w n
      exact (mfld_ok (kd := (vfd V x0 k).1) (e := (vfd V x0 k).2) w n.1 n.2).symm
theorem mk_F (H : HWs S V σ D N F A) (hx : x0 < V.length) (hp : S x0 = true) : mF (mrho (D x0) σ.length (F x0)) 12 σ.length := mrho_F (H.lo x0 hx hp) (H.lt hx hp)
theorem mk_ST {ν : mE} {ρ : Nat → Nat} {K L0 : Nat} {σ0 l : rS} (hF : mF ρ K L0) (hI : mI ν ρ K L0 σ0 (mstat ++ l) σₚ) : STC σₚ := fun b hb => by
  have e : rat (mstat ++ l) b = some (.inr ((bif Nat.beq b 0 then 0 else 1), (stl b).length, .int 0, mov 0 (stl b))) := by
    have := mstat_at hb
    rw [rat_eq] at this ⊢
    rw [List.getElem?_append_left (by rw [mstat_len]; exact hb)]
    exact this
  obtain ⟨qₚ, p1, dv, ov, p2, p3⟩ := hI.1 b _ e
  rw [hF.st b hb, p2] at p1
  refine ⟨dv, ov, p1, fun j => ?_⟩
  rw [p3]
  show mg _ _ (rlk (mov 0 (stl b)) (.int 0) j) = _
  have e := mov_lk (stl b) 0 j
  rw [Nat.zero_add] at e
  rw [e]
  rfl
/-- what a run that makes things leaves -/
theorem mk_end (H : HWs S V σ D N F A) (h3 : vn3 V = true) (hx : x0 < V.length) (hp : S x0 = true) {l : rS} (hI : mI (mnu (F x0)) (mrho (D x0) σ.length (F x0)) 12 σ.length σ (mstat ++ l) σₚ) (hs : VS V W ι) (h0 : ι.getD 0 0 = x0) (hk : κ.getD 0 0 = 11) (hκ : ∀ x, 0 < x → x < W.length → 12 ≤ κ.getD x 0) (hW : mV W κ (mstat ++ l) = true) (hn : ∀ x, 0 < x → x < W.length → S (ι.getD x 0) = false) :
    HWs (fun y => S y || (fnd y ι).isSome) V σₚ (glu ι D (fun x => mrho (D x0) σ.length (F x0) (κ.getD x 0))) (glu ι N (mN κ (mstat ++ l))) (glu ι F (mFd (mnu (F x0)) (mrho (D x0) σ.length (F x0)) κ (mstat ++ l))) (glu ι A (mA (mnu (F x0)) (mrho (D x0) σ.length (F x0)) κ (mstat ++ l))) ∧ STC σₚ := by
  have hF := mk_F H hx hp
  have Hₚ := mHW hF hI hW
  have h2 : ∀ x, x < W.length → κ.getD x 0 < 1000 := fun x hx' => by
    have := Hₚ.lt hx'
    by_cases w : κ.getD x 0 < 1000
    · exact w
    · exfalso
      unfold mV at hW
      simp only [Bool.and_eq_true] at hW
      have w1 := List.all_eq_true.mp hW.2.2 x (List.mem_range.mpr hx')
      unfold mVx at w1
      have hl := hI.2.2.1
      split at w1
      · rename_i e; have := rat_lt e; omega
      · rename_i e; have := rat_lt e; omega
      · cases w1
  refine ⟨HWs_glue H h3 hs Hₚ (fun a a1 a2 hn' => hI.2.2.2.2 a a2 (fun k hk' e => ?_)) (fun x hx' => ?_), mk_ST hF hI⟩
  · by_cases w : k < 11
    · rw [mrho_lo w] at e; omega
    · have w : k = 11 := by omega
      subst w
      by_cases hW0 : 0 < W.length
      · exact hn' 0 hW0 (by rw [h0]; exact hp) (by rw [h0]; rw [mrho_11] at e; exact e)
      · exfalso
        have s1 := hs.1
        rw [show ι = [] from List.length_eq_zero_iff.mp (by omega)] at h0
        unfold mV at hW
        simp only [Bool.and_eq_true] at hW
        have := Nat.eq_of_beq_eq_true hW.1
        rw [show κ = [] from List.length_eq_zero_iff.mp (by omega)] at hk
        cases hk
  · by_cases w : x = 0
    · subst w
      refine .inl ⟨by rw [h0]; exact hp, ?_⟩
      show mrho (D x0) σ.length (F x0) (κ.getD 0 0) = _
      rw [hk, h0]
      rfl
    · refine .inr ?_
      show σ.length ≤ mrho (D x0) σ.length (F x0) (κ.getD x 0)
      rw [mrho_new (hκ x (by omega) hx') (h2 x hx')]
      omega
end HS2
def meq (a : Option mR) (v : Option Value) (m : rS) (c s : Nat) : Bool :=
  match a with
  | some y => decide (y.1 = v) && (rseq y.2.1 m && (Nat.beq y.2.2.1 c && Nat.beq y.2.2.2 s))
  | none => false
theorem meq_of {a : Option mR} {v : Option Value} {m : rS} {c s : Nat} (h : meq a v m c s = true) : a = some (v, m, c, s) := by
  unfold meq at h
  split at h
  · rename_i y
    obtain ⟨y1, y2, y3, y4⟩ := y
    simp only [Bool.and_eq_true, decide_eq_true_eq] at h
    obtain ⟨a1, a2, a3, a4⟩ := h
    have a3 := Nat.eq_of_beq_eq_true a3
    have a4 := Nat.eq_of_beq_eq_true a4
    have a2 := rseq_eq a2
    have a3 : y3 = c := a3
    have a4 : y4 = s := a4
    have a2 : y2 = m := a2
    rw [a1, a2, a3, a4]
  · cases h
theorem mrun_d : ∀ (n d μ pc : Nat) (ls : rO) (st : List Value) (m : rS) (c s : Nat) (y : mR), mrun n d μ pc ls st m c s = some y → ∀ e, mrun n (d + e) μ pc ls st m c s = some y
  | 0, _, _, _, _, _, _, _, _, _, h => by unfold mrun at h; cases h
  | n + 1, d, μ, pc, ls, st, m, c, s, y, h => by
    intro e
    unfold mrun at h ⊢
    cases hq : PP.1 μ pc with
    | none => simp only [hq] at h; cases h
    | some q =>
      simp only [hq] at h ⊢
      cases hv : mret q.1 st with
      | some v => simp only [hv] at h ⊢; exact h
      | none =>
        simp only [hv] at h ⊢
        cases hz : mcal q.1 q.2.2 st m with
        | some z =>
          simp only [hz] at h ⊢
          cases d with
          | zero => cases h
          | succ d' =>
            rw [show d' + 1 + e = (d' + e) + 1 by omega]
            dsimp only at h ⊢
            cases hy : mrun n d' q.2.2.2.1 0 (rargs 0 z.1) [] m 0 0 with
            | none => simp only [hy] at h; cases h
            | some y1 =>
              have hy2 := mrun_d n d' _ _ _ _ _ _ _ _ hy e
              simp only [hy] at h
              simp only [hy2]
              cases hr : rretok (PP.2.2.1 q.2.2.2.1) y1.1 with
              | false => simp only [hr] at h; cases h
              | true =>
                simp only [hr] at h ⊢
                rw [rn_eq] at h ⊢
                have w := mrun_d n (d' + 1) _ _ _ _ _ _ _ _ h e
                rw [show d' + 1 + e = (d' + e) + 1 by omega] at w
                exact w
        | none =>
          simp only [hz] at h ⊢
          cases ht : mstep q.1 q.2.1 q.2.2 μ pc ls st m c s with
          | none => simp only [ht] at h; cases h
          | some t =>
            simp only [ht] at h ⊢
            rw [rn_eq] at h ⊢
            exact mrun_d n d _ _ _ _ _ _ _ _ h e
/-- a call that makes things -/
theorem mk_ev {S : Nat → Bool} {V W : vV} {σ : rS} {D N : Nat → Nat} {F : hF} {A : hA} {ι κ : List Nat} {x0 n d e μ ci cc ss C T : Nat} {fl : List Value} {v : Option Value} {l : rS} {Q : wQ}
    (he : mrun n d μ 0 (rargs 0 [.ref 11]) [] (mstat ++ [.inl (ci, fl)]) 0 0 = some (v, mstat ++ l, cc, ss))
    (H : HWs S V σ D N F A) (HT : STC σ) (hx : x0 < V.length) (hp : S x0 = true) (ha : varr V x0 = false) (hc : vcls V x0 = ci) (hf : mflds V x0 fl = true) (hn : ∀ k, k < vnf V x0 → (fl.getD k (.int 0) = .null → F x0 k = -1) ∧ (fl.getD k (.int 0) = .ref (1000 + k) → 0 ≤ F x0 k))
    (h3 : vn3 V = true) (hs : VS V W ι) (h0 : ι.getD 0 0 = x0) (hk : κ.getD 0 0 = 11) (hκ : ∀ x, 0 < x → x < W.length → 12 ≤ κ.getD x 0) (hW : mV W κ (mstat ++ l) = true) (hq : ∀ x, 0 < x → x < W.length → S (ι.getD x 0) = false)
    (k : ∀ σₚ, HWs (fun y => S y || (fnd y ι).isSome) V σₚ (glu ι D (fun x => mrho (D x0) σ.length (F x0) (κ.getD x 0))) (glu ι N (mN κ (mstat ++ l))) (glu ι F (mFd (mnu (F x0)) (mrho (D x0) σ.length (F x0)) κ (mstat ++ l))) (glu ι A (mA (mnu (F x0)) (mrho (D x0) σ.length (F x0)) κ (mstat ++ l))) → STC σₚ →
      (∀ a, 11 ≤ a → a < σ.length → D x0 ≠ a → rat σₚ a = rat σ a) → σ.length ≤ σₚ.length → Q (v.map (mg (mnu (F x0)) (mrho (D x0) σ.length (F x0)))) σₚ (C + cc) (T + ss)) :
    Ew μ (d + e) 0 (rargs 0 [.ref (D x0)]) [] σ C T Q := by
  subst hc
  have hF := mk_F H hx hp
  have hI := mk_I H HT hx hp ha hf hn
  have w : ∀ Q : wQ, (∀ σₚ, mI (mnu (F x0)) (mrho (D x0) σ.length (F x0)) 12 σ.length σ (mstat ++ l) σₚ → Q (v.map (mg (mnu (F x0)) (mrho (D x0) σ.length (F x0)))) σₚ (C + cc) (T + ss)) → Ew μ (d + e) 0 (mL (mnu (F x0)) (mrho (D x0) σ.length (F x0)) (rargs 0 [.ref 11])) (mT (mnu (F x0)) (mrho (D x0) σ.length (F x0)) []) σ (C + 0) (T + 0) Q :=
    fun Q hQ => mrun_ok hF n (d + e) μ 0 (rargs 0 [.ref 11]) [] (mstat ++ [.inl (vcls V x0, fl)]) 0 0 (v, mstat ++ l, cc, ss) (mrun_d n d μ 0 _ _ _ 0 0 _ he e) C T σ Q hI hQ
  refine w Q (fun σₚ hI' => ?_)
  obtain ⟨p1, p2⟩ := mk_end H h3 hx hp hI' hs h0 hk hκ hW hq
  refine k σₚ p1 p2 (fun a a1 a2 a3 => hI'.2.2.2.2 a a2 (fun j hj q => ?_)) ?_
  · by_cases w : j < 11
    · rw [mrho_lo w] at q; omega
    · have w : j = 11 := by omega
      subst w
      exact a3 q
  · have h1 := hI'.2.2.2.1
    have h2 := hI'.2.1
    have h1 : σₚ.length = σ.length + ((mstat ++ l).length - 12) := h1
    omega
