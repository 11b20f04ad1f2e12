section
/-! Q0.hws -/
section HS1
variable {S : Nat → Bool} {V W : vV} {σ σₚ : rS} {D N Dₚ Nₚ : Nat → Nat} {F Fₚ : hF} {A Aₚ : hA} {ι : List Nat}
def HWs (S : Nat → Bool) (V : vV) (σ : rS) (D N : Nat → Nat) (F : hF) (A : hA) : Prop :=
  (∀ x, x < V.length → S x = true → varr V x = false → rat σ (D x) = some (vcell V D F x)) ∧
  (∀ x, x < V.length → S x = true → varr V x = true → ∃ dv ov, rat σ (D x) = some (.inr (vak V x, N x, dv, ov)) ∧ ∀ j : Nat, rlk ov dv j = va (vak V x) (A x j)) ∧
  (∀ x y, x < V.length → y < V.length → S x = true → S y = true → D x = D y → x = y) ∧
  (∀ x, x < V.length → S x = true → 12 ≤ D x) ∧
  (∀ x k, x < V.length → S x = true → krng (vfd V x k).1 (F x k)) ∧
  (∀ x i, x < V.length → S x = true → varr V x = true → arng (vak V x) (A x i)) ∧
  (∀ x, x < V.length → S x = true → N x ≤ 1000000)
theorem HWs.obj (H : HWs S V σ D N F A) : ∀ x, x < V.length → S x = true → varr V x = false → rat σ (D x) = some (vcell V D F x) := H.1
theorem HWs.arr (H : HWs S V σ D N F A) : ∀ x, x < V.length → S x = true → varr V x = true → ∃ dv ov, rat σ (D x) = some (.inr (vak V x, N x, dv, ov)) ∧ ∀ j : Nat, rlk ov dv j = va (vak V x) (A x j) := H.2.1
theorem HWs.inj (H : HWs S V σ D N F A) : ∀ x y, x < V.length → y < V.length → S x = true → S y = true → D x = D y → x = y := H.2.2.1
theorem HWs.lo (H : HWs S V σ D N F A) : ∀ x, x < V.length → S x = true → 12 ≤ D x := H.2.2.2.1
theorem HWs.krg (H : HWs S V σ D N F A) : ∀ x k, x < V.length → S x = true → krng (vfd V x k).1 (F x k) := H.2.2.2.2.1
theorem HWs.arg (H : HWs S V σ D N F A) : ∀ x i, x < V.length → S x = true → varr V x = true → arng (vak V x) (A x i) := H.2.2.2.2.2.1
theorem HWs.nle (H : HWs S V σ D N F A) : ∀ x, x < V.length → S x = true → N x ≤ 1000000 := H.2.2.2.2.2.2
theorem HWs.lt (H : HWs S V σ D N F A) {x : Nat} (hx : x < V.length) (hp : S x = true) : D x < σ.length := by
  cases ha : varr V x with
  | false => exact rat_lt (H.obj x hx hp ha)
  | true =>
    obtain ⟨dv, ov, q, -⟩ := H.arr x hx hp ha
    exact rat_lt q
theorem HWs_congr {S' : Nat → Bool} (H : HWs S V σ D N F A) (h : ∀ x, x < V.length → S' x = true → S x = true) : HWs S' V σ D N F A :=
  ⟨fun x hx hp => H.obj x hx (h x hx hp), fun x hx hp => H.arr x hx (h x hx hp), fun x y hx hy hp hq => H.inj x y hx hy (h x hx hp) (h y hy hq), fun x hx hp => H.lo x hx (h x hx hp), fun x k hx hp => H.krg x k hx (h x hx hp), fun x i hx hp => H.arg x i hx (h x hx hp), fun x hx hp => H.nle x hx (h x hx hp)⟩
theorem HWs_sub (H : HWs S V σ D N F A) (hs : VS V W ι) (hp : ∀ x, x < W.length → S (ι.getD x 0) = true) : HW W σ (pul ι D) (pul ι N) (pul ι F) (pul ι A) := by
  obtain ⟨s1, s2, s3, s4, s5, s6, s7⟩ := hs
  have ar : ∀ x, x < W.length → varr V (ι.getD x 0) = varr W x := fun x hx => by unfold varr; rw [s4 x hx]
  have ak : ∀ x, x < W.length → vak V (ι.getD x 0) = vak W x := fun x hx => by unfold vak; rw [s4 x hx]
  refine ⟨fun x hx ha => ?_, fun x hx ha => ?_, fun x y hx hy e => ?_, fun x hx => H.lo _ (s3 x hx) (hp x hx), fun x k hx => ?_, fun x i hx ha => ?_, fun x hx => H.nle _ (s3 x hx) (hp x hx)⟩
  · show rat σ (D (ι.getD x 0)) = _
    rw [H.obj _ (s3 x hx) (hp x hx) (by rw [ar x hx]; exact ha)]
    unfold vcell vcls
    rw [s4 x hx, s5 x hx]
    congr 3
    apply List.map_congr_left
    intro k hk
    have hk := List.mem_range.mp hk
    exact vf_eq (s6 x k hx hk) (fun h3 => by rw [(s7 x k hx hk h3).2]; rfl)
  · show ∃ dv ov, rat σ (D (ι.getD x 0)) = some (.inr (vak W x, N (ι.getD x 0), dv, ov)) ∧ _
    rw [← ak x hx]
    exact H.arr _ (s3 x hx) (hp x hx) (by rw [ar x hx]; exact ha)
  · have q := H.inj _ _ (s3 x hx) (s3 y hy) (hp x hx) (hp y hy) e
    have a := fnd_of s2 (show x < ι.length by omega)
    have b := fnd_of s2 (show y < ι.length by omega)
    rw [q, b] at a
    cases a
    rfl
  · show krng (vfd W x k).1 (F (ι.getD x 0) k)
    have w := H.krg (ι.getD x 0) k (s3 x hx) (hp x hx)
    by_cases hk : k < vnf W x
    · rw [← s6 x k hx hk]; exact w
    · rw [vfd_out hk]
      rw [vfd_out (by rw [s5 x hx]; exact hk)] at w
      exact w
  · show arng (vak W x) (A (ι.getD x 0) i)
    rw [← ak x hx]
    exact H.arg _ i (s3 x hx) (hp x hx) (by rw [ar x hx]; exact ha)

def vn3 (V : vV) : Bool := V.all (fun e => e.2.2.all (fun f => !(Nat.beq f.1 3)))
theorem vn3_f {x k : Nat} (h : vn3 V = true) : (vfd V x k).1 ≠ 3 := fun q => by
  by_cases hk : k < vnf V x
  · have hx : x < V.length := by
      by_cases hx : x < V.length
      · exact hx
      · exfalso
        unfold vnf vent at hk
        rw [List.getD_eq_getElem?_getD, List.getElem?_eq_none (by omega)] at hk
        exact Nat.not_lt_zero _ hk
    have e : vent V x = V[x] := by
      unfold vent
      rw [List.getD_eq_getElem?_getD, List.getElem?_eq_getElem hx]
      rfl
    have w := List.all_eq_true.mp h V[x] (List.getElem_mem hx)
    unfold vfd at q
    unfold vnf at hk
    rw [e] at q hk
    rw [List.getD_eq_getElem?_getD, List.getElem?_eq_getElem hk] at q
    have w2 := List.all_eq_true.mp w _ (List.getElem_mem hk)
    have q : ((V[x]).2.2[k]).1 = 3 := q
    rw [q] at w2
    cases w2
  · rw [vfd_out hk] at q
    cases q

theorem HWs_glue (H : HWs S V σ D N F A) (h3 : vn3 V = true) (hs : VS V W ι) (Hₚ : HW W σₚ Dₚ Nₚ Fₚ Aₚ)
    (ho : ∀ a, 12 ≤ a → a < σ.length → (∀ x, x < W.length → S (ι.getD x 0) = true → D (ι.getD x 0) ≠ a) → rat σₚ a = rat σ a)
    (hd : ∀ x, x < W.length → (S (ι.getD x 0) = true ∧ Dₚ x = D (ι.getD x 0)) ∨ σ.length ≤ Dₚ x) :
    HWs (fun y => S y || (fnd y ι).isSome) V σₚ (glu ι D Dₚ) (glu ι N Nₚ) (glu ι F Fₚ) (glu ι A Aₚ) := by
  obtain ⟨s1, s2, s3, s4, s5, s6, s7⟩ := hs
  have inn : ∀ {y x : Nat}, fnd y ι = some x → x < W.length ∧ ι.getD x 0 = y := fun h => by have := fnd_lt h; exact ⟨by omega, this.2⟩
  have pre : ∀ {y : Nat}, (S y || (fnd y ι).isSome) = true → fnd y ι = none → S y = true := fun {y} h e => by
    rw [e] at h
    have h : (S y || false) = true := h
    rw [Bool.or_false] at h
    exact h
  have old : ∀ {y : Nat}, y < V.length → S y = true → fnd y ι = none → rat σₚ (D y) = rat σ (D y) := fun {y} hy hp h => ho _ (H.lo y hy hp) (H.lt hy hp) (fun x hx hq q => by
    have := H.inj _ _ (s3 x hx) hy hq hp q
    exact fnd_none h s2 (by omega) this)
  refine ⟨fun y hy hp ha => ?_, fun y hy hp ha => ?_, fun y z hy hz hp hq e => ?_, fun y hy hp => ?_, fun y k hy hp => ?_, fun y i hy hp ha => ?_, fun y hy hp => ?_⟩
  · cases h : fnd y ι with
    | none =>
      rw [glu_n h, old hy (pre hp h) h, H.obj y hy (pre hp h) ha]
      unfold vcell
      congr 3
      apply List.map_congr_left
      intro k hk
      rw [glu_n h]
      exact vf_eq rfl (fun q => absurd q (vn3_f h3))
    | some x =>
      obtain ⟨x1, x2⟩ := inn h
      subst x2
      rw [glu_s h, Hₚ.obj x x1 (by unfold varr; rw [← s4 x x1]; exact ha)]
      unfold vcell vcls
      rw [s4 x x1, s5 x x1]
      congr 3
      apply List.map_congr_left
      intro k hk
      have hk := List.mem_range.mp hk
      rw [glu_s h]
      refine (vf_eq (s6 x k x1 hk) (fun q => absurd ?_ (vn3_f h3 (x := ι.getD x 0) (k := k)))).symm
      rw [s6 x k x1 hk]
      exact q
  · cases h : fnd y ι with
    | none =>
      rw [glu_n h, glu_n h, glu_n h, old hy (pre hp h) h]
      exact H.arr y hy (pre hp h) ha
    | some x =>
      obtain ⟨x1, x2⟩ := inn h
      subst x2
      rw [glu_s h, glu_s h, glu_s h, show vak V (ι.getD x 0) = vak W x by unfold vak; rw [s4 x x1]]
      exact Hₚ.arr x x1 (by unfold varr; rw [← s4 x x1]; exact ha)
  · cases h : fnd y ι with
    | none =>
      cases h2 : fnd z ι with
      | none => rw [glu_n h, glu_n h2] at e; exact H.inj y z hy hz (pre hp h) (pre hq h2) e
      | some x =>
        exfalso
        rw [glu_n h, glu_s h2] at e
        obtain ⟨x1, x2⟩ := inn h2
        rcases hd x x1 with w | w
        · exact fnd_none h s2 (x := x) (by omega) (H.inj _ _ (s3 x x1) hy w.1 (pre hp h) (w.2.symm.trans e.symm))
        · have := H.lt hy (pre hp h); omega
    | some x =>
      obtain ⟨x1, x2⟩ := inn h
      cases h2 : fnd z ι with
      | none =>
        exfalso
        rw [glu_s h, glu_n h2] at e
        rcases hd x x1 with w | w
        · exact fnd_none h2 s2 (x := x) (by omega) (H.inj _ _ (s3 x x1) hz w.1 (pre hq h2) (w.2.symm.trans e))
        · have := H.lt hz (pre hq h2); omega
      | some x' =>
        obtain ⟨x1', x2'⟩ := inn h2
        rw [glu_s h, glu_s h2] at e
        rw [← x2, ← x2', Hₚ.inj x x' x1 x1' e]
  · cases h : fnd y ι with
    | none => rw [glu_n h]; exact H.lo y hy (pre hp h)
    | some x => rw [glu_s h]; exact Hₚ.lo x (inn h).1
  · cases h : fnd y ι with
    | none => rw [glu_n h]; exact H.krg y k hy (pre hp h)
    | some x =>
      obtain ⟨x1, x2⟩ := inn h
      subst x2
      rw [glu_s h]
      have w := Hₚ.krg x k x1
      by_cases hk : k < vnf W x
      · rw [s6 x k x1 hk]; exact w
      · rw [vfd_out (by rw [s5 x x1]; exact hk)]
        rw [vfd_out hk] at w
        exact w
  · cases h : fnd y ι with
    | none => rw [glu_n h]; exact H.arg y i hy (pre hp h) ha
    | some x =>
      obtain ⟨x1, x2⟩ := inn h
      subst x2
      rw [glu_s h, show vak V (ι.getD x 0) = vak W x by unfold vak; rw [s4 x x1]]
      exact Hₚ.arg x i x1 (by unfold varr; rw [← s4 x x1]; exact ha)
  · cases h : fnd y ι with
    | none => rw [glu_n h]; exact H.nle y hy (pre hp h)
    | some x => rw [glu_s h]; exact Hₚ.nle x (inn h).1

theorem HWs_call (H : HWs S V σ D N F A) (h3 : vn3 V = true) (hs : VS V W ι) (hp : ∀ x, x < W.length → S (ι.getD x 0) = true) (Hₚ : HW W σₚ Dₚ Nₚ Fₚ Aₚ) {c s cₚ sₚ : Nat} (O : OUT W.length (pul ι D) (pul ι N) σ c s Dₚ Nₚ σₚ cₚ sₚ) :
    HWs S V σₚ (glu ι D Dₚ) (glu ι N Nₚ) (glu ι F Fₚ) (glu ι A Aₚ) := by
  refine HWs_congr (HWs_glue H h3 hs Hₚ (fun a _ ha hn => O.1 a ha (fun x hx q => hn x hx (hp x hx) q)) (fun x hx => ?_)) (fun x _ hx => ?_)
  · rcases O.2.2.1 x hx with w | w
    · exact .inl ⟨hp x hx, w⟩
    · exact .inr w
  · show (S x || _) = true
    rw [hx]
    rfl
end HS1
section HS2
variable {S : Nat → Bool} {V W : vV} {σ σₚ m' : rS} {D N : Nat → Nat} {F : hF} {A : hA} {ι κ : List Nat} {x0 : Nat}
def mov : Nat → List Int → rO
  | _, [] => []
  | i, z :: l => (i, I z) :: mov (i + 1) l
theorem mov_lk : ∀ (l : List Int) (i j : Nat), rlk (mov i l) (.int 0) (i + j) = I (l.getD j 0)
  | [], i, j => by
    show Value.int 0 = I ((([] : List Int)).getD j 0)
    rw [List.getD_eq_getElem?_getD, List.getElem?_eq_none (Nat.zero_le _)]
    rfl
  | z :: l, i, 0 => by
    show @Bool.rec (fun _ => Value) _ (I z) (Nat.beq i (i + 0)) = _
    rw [Nat.add_zero, Nat.beq_refl]
    rfl
  | z :: l, i, j + 1 => by
    show @Bool.rec (fun _ => Value) (rlk (mov (i + 1) l) (.int 0) (i + (j + 1))) (I z) (Nat.beq i (i + (j + 1))) = _
    rw [beqf (show i ≠ i + (j + 1) by omega), show i + (j + 1) = i + 1 + j by omega]
    exact mov_lk l (i + 1) j
noncomputable def mstat : rS := (List.range 11).map (fun b => .inr ((bif Nat.beq b 0 then 0 else 1), (stl b).length, .int 0, mov 0 (stl b)))
theorem mstat_at {b : Nat} (h : b < 11) : rat mstat b = some (.inr ((bif Nat.beq b 0 then 0 else 1), (stl b).length, .int 0, mov 0 (stl b))) := by
  unfold mstat
  rw [rat_eq, List.getElem?_map, List.getElem?_range h]
  rfl
theorem mstat_len : mstat.length = 11 := by
  unfold mstat
  rw [List.length_map, List.length_range]

def mrho (a L : Nat) (f : Nat → Int) : Nat → Nat := fun k => bif Nat.blt k 11 then k else bif Nat.beq k 11 then a else bif Nat.blt k 1000 then L + (k - 12) else (f (k - 1000)).toNat
def mnu (f : Nat → Int) : mE := ((fun j => Int32.ofInt (f j), fun _ => 0), fun j => if f j < 0 then none else some (f j).toNat)
theorem mrho_lo {a L : Nat} {f : Nat → Int} {k : Nat} (h : k < 11) : mrho a L f k = k := by
  unfold mrho
  rw [show Nat.blt k 11 = true from Nat.ble_eq.mpr h]
  rfl
theorem mrho_11 {a L : Nat} {f : Nat → Int} : mrho a L f 11 = a := rfl
theorem blt_f {a b : Nat} (h : ¬ a < b) : Nat.blt a b = false := by
  cases e : Nat.blt a b with
  | false => rfl
  | true => exact absurd (blt_of e) h
theorem mrho_new {a L : Nat} {f : Nat → Int} {k : Nat} (h : 12 ≤ k) (h2 : k < 1000) : mrho a L f k = L + (k - 12) := by
  unfold mrho
  rw [blt_f (show ¬ k < 11 by omega), beqf (show k ≠ 11 by omega), show Nat.blt k 1000 = true from Nat.ble_eq.mpr h2]
  rfl
theorem mrho_F {a L : Nat} {f : Nat → Int} (h1 : 12 ≤ a) (h2 : a < L) : mF (mrho a L f) 12 L := by
  refine ⟨fun j k hj hk e => ?_, fun k h h' => mrho_new h h', fun k h h' => ?_, fun k h => mrho_lo h⟩
  · by_cases a1 : j < 11
    · by_cases b1 : k < 11
      · rw [mrho_lo a1, mrho_lo b1] at e; exact e
      · by_cases b2 : k = 11
        · subst b2; rw [mrho_lo a1, mrho_11] at e; omega
        · rw [mrho_lo a1, mrho_new (by omega) hk] at e; omega
    · by_cases a2 : j = 11
      · subst a2
        by_cases b1 : k < 11
        · rw [mrho_lo b1, mrho_11] at e; omega
        · by_cases b2 : k = 11
          · exact b2.symm
          · rw [mrho_11, mrho_new (by omega) hk] at e; omega
      · by_cases b1 : k < 11
        · rw [mrho_lo b1, mrho_new (by omega) hj] at e; omega
        · by_cases b2 : k = 11
          · subst b2; rw [mrho_11, mrho_new (by omega) hj] at e; omega
          · rw [mrho_new (by omega) hj, mrho_new (by omega) hk] at e; omega
  · by_cases w : k = 11
    · subst w; rw [mrho_11]; exact h1
    · rw [mrho_new (by omega) h']; omega

def mfld (kd k : Nat) (v : Value) : Bool :=
  match v with
  | .ref a => Nat.beq a (1000 + k) && Nat.beq kd 4
  | .null => Nat.beq kd 4
  | .float u => Nat.beq u.toNat k && Nat.beq kd 0
  | .retAddr p => Nat.beq p k && Nat.beq kd 4
  | _ => false
theorem mfld_ok {L a kd k e : Nat} {f : Nat → Int} {v : Value} {D : Nat → Nat} (h : mfld kd k v = true) (hn : v = .null → f k = -1) (hr : v = .ref (1000 + k) → 0 ≤ f k) : mg (mnu f) (mrho a L f) v = vf D (kd, e) (f k) := by
  cases v with
  | ref b =>
    have h : (Nat.beq b (1000 + k) && Nat.beq kd 4) = true := h
    rw [Bool.and_eq_true] at h
    have h1 := Nat.eq_of_beq_eq_true h.1
    have h2 := Nat.eq_of_beq_eq_true h.2
    subst h1 h2
    have w := hr rfl
    have e1 : mrho a L f (1000 + k) = (f k).toNat := by
      unfold mrho
      rw [blt_f (show ¬ 1000 + k < 11 by omega), beqf (show 1000 + k ≠ 11 by omega), blt_f (show ¬ 1000 + k < 1000 by omega), show 1000 + k - 1000 = k by omega]
      rfl
    show Value.ref (mrho a L f (1000 + k)) = if f k < 0 then .null else .ref (f k).toNat
    rw [e1, if_neg (by omega)]
  | null =>
    have h2 := Nat.eq_of_beq_eq_true (show Nat.beq kd 4 = true from h)
    subst h2
    show Value.null = if f k < 0 then .null else .ref (f k).toNat
    rw [if_pos (by rw [hn rfl]; decide)]
  | float u =>
    have h : (Nat.beq u.toNat k && Nat.beq kd 0) = true := h
    rw [Bool.and_eq_true] at h
    have h1 := Nat.eq_of_beq_eq_true h.1
    have h2 := Nat.eq_of_beq_eq_true h.2
    subst h1 h2
    rfl
  | int _ => cases h
  | long _ => cases h
  | double _ => cases h
  | retAddr p =>
    have h : (Nat.beq p k && Nat.beq kd 4) = true := h
    rw [Bool.and_eq_true] at h
    have h1 := Nat.eq_of_beq_eq_true h.1
    have h2 := Nat.eq_of_beq_eq_true h.2
    subst h1 h2
    show (match (if f p < 0 then none else some (f p).toNat : Option Nat) with | some a => Value.ref a | none => Value.null) = if f p < 0 then .null else .ref (f p).toNat
    by_cases q : f p < 0
    · rw [if_pos q, if_pos q]
    · rw [if_neg q, if_neg q]
def mflds (V : vV) (x0 : Nat) (fl : List Value) : Bool := Nat.beq fl.length (vnf V x0) && (List.range (vnf V x0)).all (fun k => mfld (vfd V x0 k).1 k (fl.getD k (.int 0)))

theorem mk_I (H : HWs S V σ D N F A) (HT : STC σ) (hx : x0 < V.length) (hp : S x0 = true) (ha : varr V x0 = false) {fl : List Value} (hf : mflds V x0 fl = true) (hn : ∀ k, k < vnf V x0 → (fl.getD k (.int 0) = .null → F x0 k = -1) ∧ (fl.getD k (.int 0) = .ref (1000 + k) → 0 ≤ F x0 k)) :
    mI (mnu (F x0)) (mrho (D x0) σ.length (F x0)) 12 σ.length σ (mstat ++ [.inl (vcls V x0, fl)]) σ := by
  have hl : (mstat ++ [(.inl (vcls V x0, fl) : rC)]).length = 12 := by rw [List.length_append, mstat_len]; rfl
  unfold mflds at hf
  rw [Bool.and_eq_true] at hf
  have h1 := Nat.eq_of_beq_eq_true hf.1
  refine ⟨fun k q hk => ?_, by omega, by omega, by omega, fun a _ _ => rfl⟩
  have := rat_lt hk
  by_cases w : k < 11
  · rw [rat_app (by rw [mstat_len]; exact w), mstat_at w] at hk
    cases hk
    obtain ⟨dv, ov, q1, q2⟩ := HT k w
    refine ⟨_, by rw [mrho_lo w]; exact q1, dv, ov, rfl, fun j => ?_⟩
    rw [q2]
    show _ = mg _ _ (rlk (mov 0 (stl k)) (.int 0) j)
    have e := mov_lk (stl k) 0 j
    rw [Nat.zero_add] at e
    rw [e]
    rfl
  · have w : k = 11 := by omega
    subst w
    have e : rat (mstat ++ [(.inl (vcls V x0, fl) : rC)]) 11 = some (.inl (vcls V x0, fl)) := by
      have := rat_new (σ := mstat) (q := .inl (vcls V x0, fl))
      rw [mstat_len] at this
      exact this
    rw [e] at hk
    cases hk
    refine ⟨_, H.obj x0 hx hp ha, ?_⟩
    show vcell V D F x0 = .inl (vcls V x0, mT _ _ fl)
    unfold vcell
    congr 2
    apply List.ext_getElem
    · unfold mT
      rw [List.length_map, List.length_map, List.length_range, h1]
    · intro k a b
      rw [List.length_map, List.length_range] at a
      unfold mT at b ⊢
      rw [List.getElem_map, List.getElem_map, List.getElem_range]
      have w := List.all_eq_true.mp hf.2 k (List.mem_range.mpr a)
      have e2 : fl.getD k (.int 0) = fl[k] := by rw [List.getD_eq_getElem?_getD, List.getElem?_eq_getElem (by omega)]; rfl
      have n := hn k a
      rw [e2] at w n
      exact (mfld_ok (kd := (vfd V x0 k).1) (e := (vfd V x0 k).2) w n.1 n.2).symm
theorem mk_F (H : HWs S V σ D N F A) (hx : x0 < V.length) (hp : S x0 = true) : mF (mrho (D x0) σ.length (F x0)) 12 σ.length := mrho_F (H.lo x0 hx hp) (H.lt hx hp)
theorem mk_ST {ν : mE} {ρ : Nat → Nat} {K L0 : Nat} {σ0 l : rS} (hF : mF ρ K L0) (hI : mI ν ρ K L0 σ0 (mstat ++ l) σₚ) : STC σₚ := fun b hb => by
  have e : rat (mstat ++ l) b = some (.inr ((bif Nat.beq b 0 then 0 else 1), (stl b).length, .int 0, mov 0 (stl b))) := by
    have := mstat_at hb
    rw [rat_eq] at this ⊢
    rw [List.getElem?_append_left (by rw [mstat_len]; exact hb)]
    exact this
  obtain ⟨qₚ, p1, dv, ov, p2, p3⟩ := hI.1 b _ e
  rw [hF.st b hb, p2] at p1
  refine ⟨dv, ov, p1, fun j => ?_⟩
  rw [p3]
  show mg _ _ (rlk (mov 0 (stl b)) (.int 0) j) = _
  have e := mov_lk (stl b) 0 j
  rw [Nat.zero_add] at e
  rw [e]
  rfl

theorem mk_end (H : HWs S V σ D N F A) (h3 : vn3 V = true) (hx : x0 < V.length) (hp : S x0 = true) {l : rS} (hI : mI (mnu (F x0)) (mrho (D x0) σ.length (F x0)) 12 σ.length σ (mstat ++ l) σₚ) (hs : VS V W ι) (h0 : ι.getD 0 0 = x0) (hk : κ.getD 0 0 = 11) (hκ : ∀ x, 0 < x → x < W.length → 12 ≤ κ.getD x 0) (hW : mV W κ (mstat ++ l) = true) (hn : ∀ x, 0 < x → x < W.length → S (ι.getD x 0) = false) :
    HWs (fun y => S y || (fnd y ι).isSome) V σₚ (glu ι D (fun x => mrho (D x0) σ.length (F x0) (κ.getD x 0))) (glu ι N (mN κ (mstat ++ l))) (glu ι F (mFd (mnu (F x0)) (mrho (D x0) σ.length (F x0)) κ (mstat ++ l))) (glu ι A (mA (mnu (F x0)) (mrho (D x0) σ.length (F x0)) κ (mstat ++ l))) ∧ STC σₚ := by
  have hF := mk_F H hx hp
  have Hₚ := mHW hF hI hW
  have h2 : ∀ x, x < W.length → κ.getD x 0 < 1000 := fun x hx' => by
    have := Hₚ.lt hx'
    by_cases w : κ.getD x 0 < 1000
    · exact w
    · exfalso
      unfold mV at hW
      simp only [Bool.and_eq_true] at hW
      have w1 := List.all_eq_true.mp hW.2.2 x (List.mem_range.mpr hx')
      unfold mVx at w1
      have hl := hI.2.2.1
      split at w1
      · rename_i e; have := rat_lt e; omega
      · rename_i e; have := rat_lt e; omega
      · cases w1
  refine ⟨HWs_glue H h3 hs Hₚ (fun a a1 a2 hn' => hI.2.2.2.2 a a2 (fun k hk' e => ?_)) (fun x hx' => ?_), mk_ST hF hI⟩
  · by_cases w : k < 11
    · rw [mrho_lo w] at e; omega
    · have w : k = 11 := by omega
      subst w
      by_cases hW0 : 0 < W.length
      · exact hn' 0 hW0 (by rw [h0]; exact hp) (by rw [h0]; rw [mrho_11] at e; exact e)
      · exfalso
        have s1 := hs.1
        rw [show ι = [] from List.length_eq_zero_iff.mp (by omega)] at h0
        unfold mV at hW
        simp only [Bool.and_eq_true] at hW
        have := Nat.eq_of_beq_eq_true hW.1
        rw [show κ = [] from List.length_eq_zero_iff.mp (by omega)] at hk
        cases hk
  · by_cases w : x = 0
    · subst w
      refine .inl ⟨by rw [h0]; exact hp, ?_⟩
      show mrho (D x0) σ.length (F x0) (κ.getD 0 0) = _
      rw [hk, h0]
      rfl
    · refine .inr ?_
      show σ.length ≤ mrho (D x0) σ.length (F x0) (κ.getD x 0)
      rw [mrho_new (hκ x (by omega) hx') (h2 x hx')]
      omega
end HS2
def meq (a : Option mR) (v : Option Value) (m : rS) (c s : Nat) : Bool :=
  match a with
  | some y => decide (y.1 = v) && (rseq y.2.1 m && (Nat.beq y.2.2.1 c && Nat.beq y.2.2.2 s))
  | none => false
theorem meq_of {a : Option mR} {v : Option Value} {m : rS} {c s : Nat} (h : meq a v m c s = true) : a = some (v, m, c, s) := by
  unfold meq at h
  split at h
  · rename_i y
    obtain ⟨y1, y2, y3, y4⟩ := y
    simp only [Bool.and_eq_true, decide_eq_true_eq] at h
    obtain ⟨a1, a2, a3, a4⟩ := h
    have a3 := Nat.eq_of_beq_eq_true a3
    have a4 := Nat.eq_of_beq_eq_true a4
    have a2 := rseq_eq a2
    have a3 : y3 = c := a3
    have a4 : y4 = s := a4
    have a2 : y2 = m := a2
    rw [a1, a2, a3, a4]
  · cases h
theorem mrun_d : ∀ (n d μ pc : Nat) (ls : rO) (st : List Value) (m : rS) (c s : Nat) (y : mR), mrun n d μ pc ls st m c s = some y → ∀ e, mrun n (d + e) μ pc ls st m c s = some y
  | 0, _, _, _, _, _, _, _, _, _, h => by unfold mrun at h; cases h
  | n + 1, d, μ, pc, ls, st, m, c, s, y, h => by
    intro e
    unfold mrun at h ⊢
    cases hq : PP.1 μ pc with
    | none => simp only [hq] at h; cases h
    | some q =>
      simp only [hq] at h ⊢
      cases hv : mret q.1 st with
      | some v => simp only [hv] at h ⊢; exact h
      | none =>
        simp only [hv] at h ⊢
        cases hz : mcal q.1 q.2.2 st m with
        | some z =>
          simp only [hz] at h ⊢
          cases d with
          | zero => cases h
          | succ d' =>
            rw [show d' + 1 + e = (d' + e) + 1 by omega]
            dsimp only at h ⊢
            cases hy : mrun n d' q.2.2.2.1 0 (rargs 0 z.1) [] m 0 0 with
            | none => simp only [hy] at h; cases h
            | some y1 =>
              have hy2 := mrun_d n d' _ _ _ _ _ _ _ _ hy e
              simp only [hy] at h
              simp only [hy2]
              cases hr : rretok (PP.2.2.1 q.2.2.2.1) y1.1 with
              | false => simp only [hr] at h; cases h
              | true =>
                simp only [hr] at h ⊢
                rw [rn_eq] at h ⊢
                have w := mrun_d n (d' + 1) _ _ _ _ _ _ _ _ h e
                rw [show d' + 1 + e = (d' + e) + 1 by omega] at w
                exact w
        | none =>
          simp only [hz] at h ⊢
          cases ht : mstep q.1 q.2.1 q.2.2 μ pc ls st m c s with
          | none => simp only [ht] at h; cases h
          | some t =>
            simp only [ht] at h ⊢
            rw [rn_eq] at h ⊢
            exact mrun_d n d _ _ _ _ _ _ _ _ h e

theorem mk_ev {S : Nat → Bool} {V W : vV} {σ : rS} {D N : Nat → Nat} {F : hF} {A : hA} {ι κ : List Nat} {x0 n d e μ ci cc ss C T : Nat} {fl : List Value} {v : Option Value} {l : rS} {Q : wQ}
    (he : mrun n d μ 0 (rargs 0 [.ref 11]) [] (mstat ++ [.inl (ci, fl)]) 0 0 = some (v, mstat ++ l, cc, ss))
    (H : HWs S V σ D N F A) (HT : STC σ) (hx : x0 < V.length) (hp : S x0 = true) (ha : varr V x0 = false) (hc : vcls V x0 = ci) (hf : mflds V x0 fl = true) (hn : ∀ k, k < vnf V x0 → (fl.getD k (.int 0) = .null → F x0 k = -1) ∧ (fl.getD k (.int 0) = .ref (1000 + k) → 0 ≤ F x0 k))
    (h3 : vn3 V = true) (hs : VS V W ι) (h0 : ι.getD 0 0 = x0) (hk : κ.getD 0 0 = 11) (hκ : ∀ x, 0 < x → x < W.length → 12 ≤ κ.getD x 0) (hW : mV W κ (mstat ++ l) = true) (hq : ∀ x, 0 < x → x < W.length → S (ι.getD x 0) = false)
    (k : ∀ σₚ, HWs (fun y => S y || (fnd y ι).isSome) V σₚ (glu ι D (fun x => mrho (D x0) σ.length (F x0) (κ.getD x 0))) (glu ι N (mN κ (mstat ++ l))) (glu ι F (mFd (mnu (F x0)) (mrho (D x0) σ.length (F x0)) κ (mstat ++ l))) (glu ι A (mA (mnu (F x0)) (mrho (D x0) σ.length (F x0)) κ (mstat ++ l))) → STC σₚ →
      (∀ a, 11 ≤ a → a < σ.length → D x0 ≠ a → rat σₚ a = rat σ a) → σ.length ≤ σₚ.length → Q (v.map (mg (mnu (F x0)) (mrho (D x0) σ.length (F x0)))) σₚ (C + cc) (T + ss)) :
    Ew μ (d + e) 0 (rargs 0 [.ref (D x0)]) [] σ C T Q := by
  subst hc
  have hF := mk_F H hx hp
  have hI := mk_I H HT hx hp ha hf hn
  have w : ∀ Q : wQ, (∀ σₚ, mI (mnu (F x0)) (mrho (D x0) σ.length (F x0)) 12 σ.length σ (mstat ++ l) σₚ → Q (v.map (mg (mnu (F x0)) (mrho (D x0) σ.length (F x0)))) σₚ (C + cc) (T + ss)) → Ew μ (d + e) 0 (mL (mnu (F x0)) (mrho (D x0) σ.length (F x0)) (rargs 0 [.ref 11])) (mT (mnu (F x0)) (mrho (D x0) σ.length (F x0)) []) σ (C + 0) (T + 0) Q :=
    fun Q hQ => mrun_ok hF n (d + e) μ 0 (rargs 0 [.ref 11]) [] (mstat ++ [.inl (vcls V x0, fl)]) 0 0 (v, mstat ++ l, cc, ss) (mrun_d n d μ 0 _ _ _ 0 0 _ he e) C T σ Q hI hQ
  refine w Q (fun σₚ hI' => ?_)
  obtain ⟨p1, p2⟩ := mk_end H h3 hx hp hI' hs h0 hk hκ hW hq
  refine k σₚ p1 p2 (fun a a1 a2 a3 => hI'.2.2.2.2 a a2 (fun j hj q => ?_)) ?_
  · by_cases w : j < 11
    · rw [mrho_lo w] at q; omega
    · have w : j = 11 := by omega
      subst w
      exact a3 q
  · have h1 := hI'.2.2.2.1
    have h2 := hI'.2.1
    have h1 : σₚ.length = σ.length + ((mstat ++ l).length - 12) := h1
    omega


end
section
/-! Q2.ev -/
def fl_tokF : List Value := [.ref 1000, .ref 1001, .ref 1002, .ref 1003, .ref 1004, .ref 1005, .ref 1006, .null, .null, .retAddr 9, .retAddr 10, .retAddr 11, .retAddr 12, .ref 1013, .ref 1014, .ref 1015, .ref 1016, .float 17, .float 18]
def ml_tokF : rS := [.inl (0, [.ref 1000, .ref 1001, .ref 1002, .ref 1003, .ref 1004, .ref 1005, .ref 1006, .ref 13, .ref 12, .retAddr 9, .retAddr 10, .retAddr 11, .retAddr 12, .ref 1013, .ref 1014, .ref 1015, .ref 1016, .float 17, .float 18]), .inl (11, [.ref 1001, .ref 1002, .ref 13, .ref 21, .null, .int 0, .null, .int 0, .int 0, .int 0, .int 0, .int 0, .int 0]), .inl (5, [.ref 14, .ref 16, .ref 17, .ref 18, .int 0, .int 0, .int 0, .ref 19, .ref 20, .int 0, .int 0, .int 0, .int 0, .int 0, .int 0, .int 0, .int 0, .int 0, .int 0]), .inl (7, [.ref 15, .int 0, .int 0, .int 0, .int 0]), .inr (0, 0, .int 0, []), .inr (1, 0, .int 0, []), .inr (1, 0, .int 0, []), .inr (1, 0, .int 0, []), .inr (1, 0, .int 0, []), .inr (1, 0, .int 0, []), .inl (7, [.ref 22, .int 0, .int 0, .int 0, .int 0]), .inr (0, 0, .int 0, [])]
theorem ev_tokF : mrun 97 4 36 0 (rargs 0 [.ref 11]) [] (mstat ++ [.inl (0, fl_tokF)]) 0 0 = some (some (.ref 12), mstat ++ ml_tokF, 11, 42) := meq_of (by decide +kernel)
def fl_tok : List Value := [.ref 1000, .ref 1001, .ref 1002, .ref 1003, .ref 1004, .ref 1005, .ref 1006, .ref 1007, .null, .retAddr 9, .retAddr 10, .retAddr 11, .retAddr 12, .ref 1013, .ref 1014, .ref 1015, .ref 1016, .float 17, .float 18]
def ml_tok : rS := [.inl (0, [.ref 1000, .ref 1001, .ref 1002, .ref 1003, .ref 1004, .ref 1005, .ref 1006, .ref 1007, .ref 12, .retAddr 9, .retAddr 10, .retAddr 11, .retAddr 12, .ref 1013, .ref 1014, .ref 1015, .ref 1016, .float 17, .float 18]), .inl (11, [.ref 1001, .ref 1002, .ref 1007, .ref 13, .null, .int 0, .null, .int 0, .int 0, .int 0, .int 0, .int 0, .int 0]), .inl (7, [.ref 14, .int 0, .int 0, .int 0, .int 0]), .inr (0, 0, .int 0, [])]
theorem ev_tok : mrun 57 3 36 0 (rargs 0 [.ref 11]) [] (mstat ++ [.inl (0, fl_tok)]) 0 0 = some (some (.ref 12), mstat ++ ml_tok, 3, 18) := meq_of (by decide +kernel)
def fl_tagF : List Value := [.ref 1000, .ref 1001, .ref 1002, .ref 1003, .ref 1004, .ref 1005, .ref 1006, .null, .retAddr 8, .null, .retAddr 10, .retAddr 11, .retAddr 12, .ref 1013, .ref 1014, .ref 1015, .ref 1016, .float 17, .float 18]
def ml_tagF : rS := [.inl (0, [.ref 1000, .ref 1001, .ref 1002, .ref 1003, .ref 1004, .ref 1005, .ref 1006, .ref 13, .retAddr 8, .ref 12, .retAddr 10, .retAddr 11, .retAddr 12, .ref 1013, .ref 1014, .ref 1015, .ref 1016, .float 17, .float 18]), .inl (10, [.ref 1001, .ref 13, .ref 21, .null, .int 0, .null, .int 0, .long 0, .int 0]), .inl (5, [.ref 14, .ref 16, .ref 17, .ref 18, .int 0, .int 0, .int 0, .ref 19, .ref 20, .int 0, .int 0, .int 0, .int 0, .int 0, .int 0, .int 0, .int 0, .int 0, .int 0]), .inl (7, [.ref 15, .int 0, .int 0, .int 0, .int 0]), .inr (0, 0, .int 0, []), .inr (1, 0, .int 0, []), .inr (1, 0, .int 0, []), .inr (1, 0, .int 0, []), .inr (1, 0, .int 0, []), .inr (1, 0, .int 0, []), .inl (7, [.ref 22, .int 0, .int 0, .int 0, .int 0]), .inr (0, 0, .int 0, [])]
theorem ev_tagF : mrun 92 4 37 0 (rargs 0 [.ref 11]) [] (mstat ++ [.inl (0, fl_tagF)]) 0 0 = some (some (.ref 12), mstat ++ ml_tagF, 11, 38) := meq_of (by decide +kernel)
def fl_tag : List Value := [.ref 1000, .ref 1001, .ref 1002, .ref 1003, .ref 1004, .ref 1005, .ref 1006, .ref 1007, .retAddr 8, .null, .retAddr 10, .retAddr 11, .retAddr 12, .ref 1013, .ref 1014, .ref 1015, .ref 1016, .float 17, .float 18]
def ml_tag : rS := [.inl (0, [.ref 1000, .ref 1001, .ref 1002, .ref 1003, .ref 1004, .ref 1005, .ref 1006, .ref 1007, .retAddr 8, .ref 12, .retAddr 10, .retAddr 11, .retAddr 12, .ref 1013, .ref 1014, .ref 1015, .ref 1016, .float 17, .float 18]), .inl (10, [.ref 1001, .ref 1007, .ref 13, .null, .int 0, .null, .int 0, .long 0, .int 0]), .inl (7, [.ref 14, .int 0, .int 0, .int 0, .int 0]), .inr (0, 0, .int 0, [])]
theorem ev_tag : mrun 52 3 37 0 (rargs 0 [.ref 11]) [] (mstat ++ [.inl (0, fl_tag)]) 0 0 = some (some (.ref 12), mstat ++ ml_tag, 3, 14) := meq_of (by decide +kernel)
def fl_pac : List Value := [.ref 1000, .ref 1001, .ref 1002, .ref 1003, .ref 1004, .ref 1005, .ref 1006, .ref 1007, .retAddr 8, .retAddr 9, .ref 1010, .null, .retAddr 12, .ref 1013, .ref 1014, .ref 1015, .ref 1016, .float 17, .float 18]
def ml_pac : rS := [.inl (0, [.ref 1000, .ref 1001, .ref 1002, .ref 1003, .ref 1004, .ref 1005, .ref 1006, .ref 1007, .retAddr 8, .retAddr 9, .ref 1010, .ref 12, .retAddr 12, .ref 1013, .ref 1014, .ref 1015, .ref 1016, .float 17, .float 18]), .inl (6, [.ref 1001, .ref 1007, .ref 1010, .ref 13, .ref 60, .ref 88, .ref 116, .ref 119, .ref 122, .ref 124, .ref 126, .ref 128, .ref 129, .ref 130, .ref 134, .int 0, .int 0, .ref 135, .ref 136]), .inr (6, 2, .null, [(0, .ref 14), (1, .ref 37)]), .inl (3, [.ref 15, .ref 16, .ref 17, .int 0, .ref 18, .ref 19, .ref 20, .ref 29, .ref 31, .ref 33, .ref 34, .ref 35, .ref 36, .int 0, .int 0, .int 0, .int 0]), .inr (1, 256, .int 0, []), .inr (1, 256, .int 0, []), .inr (1, 2048, .int 0, []), .inr (1, 256, .int 0, []), .inr (1, 12, .int 0, []), .inl (8, [.int 0, .int 12, .ref 21, .ref 22, .ref 23, .ref 24, .ref 25, .ref 26, .ref 27, .ref 28, .null, .int 0, .int 0]), .inr (1, 12, .int 0, []), .inr (1, 12, .int 0, []), .inr (1, 12, .int 0, []), .inr (1, 12, .int 0, []), .inr (1, 12, .int 0, []), .inr (1, 64, .int 0, []), .inr (1, 64, .int 0, []), .inr (1, 64, .int 0, []), .inl (7, [.ref 30, .int 0, .int 0, .int 0, .int 0]), .inr (0, 0, .int 0, []), .inl (7, [.ref 32, .int 0, .int 0, .int 0, .int 0]), .inr (0, 0, .int 0, []), .inl (2, [.null, .int 0, .int 0]), .inr (1, 256, .int 0, []), .inr (1, 512, .int 0, []), .inr (1, 512, .int 0, []), .inl (3, [.ref 38, .ref 39, .ref 40, .int 0, .ref 41, .ref 42, .ref 43, .ref 52, .ref 54, .ref 56, .ref 57, .ref 58, .ref 59, .int 0, .int 0, .int 0, .int 0]), .inr (1, 256, .int 0, []), .inr (1, 256, .int 0, []), .inr (1, 2048, .int 0, []), .inr (1, 256, .int 0, []), .inr (1, 12, .int 0, []), .inl (8, [.int 0, .int 12, .ref 44, .ref 45, .ref 46, .ref 47, .ref 48, .ref 49, .ref 50, .ref 51, .null, .int 0, .int 0]), .inr (1, 12, .int 0, []), .inr (1, 12, .int 0, []), .inr (1, 12, .int 0, []), .inr (1, 12, .int 0, []), .inr (1, 12, .int 0, []), .inr (1, 64, .int 0, []), .inr (1, 64, .int 0, []), .inr (1, 64, .int 0, []), .inl (7, [.ref 53, .int 0, .int 0, .int 0, .int 0]), .inr (0, 0, .int 0, []), .inl (7, [.ref 55, .int 0, .int 0, .int 0, .int 0]), .inr (0, 0, .int 0, []), .inl (2, [.null, .int 0, .int 0]), .inr (1, 256, .int 0, []), .inr (1, 512, .int 0, []), .inr (1, 512, .int 0, []), .inr (5, 3, .null, [(0, .ref 61), (1, .ref 70), (2, .ref 79)]), .inl (8, [.int 0, .int 36, .ref 62, .ref 63, .ref 64, .ref 65, .ref 66, .ref 67, .ref 68, .ref 69, .null, .int 0, .int 0]), .inr (1, 36, .int 0, []), .inr (1, 36, .int 0, []), .inr (1, 36, .int 0, []), .inr (1, 36, .int 0, []), .inr (1, 36, .int 0, []), .inr (1, 512, .int 0, []), .inr (1, 512, .int 0, []), .inr (1, 512, .int 0, []), .inl (8, [.int 0, .int 32, .ref 71, .ref 72, .ref 73, .ref 74, .ref 75, .ref 76, .ref 77, .ref 78, .null, .int 0, .int 0]), .inr (1, 32, .int 0, []), .inr (1, 32, .int 0, []), .inr (1, 32, .int 0, []), .inr (1, 32, .int 0, []), .inr (1, 32, .int 0, []), .inr (1, 256, .int 0, []), .inr (1, 256, .int 0, []), .inr (1, 256, .int 0, []), .inl (8, [.int 0, .int 53, .ref 80, .ref 81, .ref 82, .ref 83, .ref 84, .ref 85, .ref 86, .ref 87, .null, .int 0, .int 0]), .inr (1, 53, .int 0, []), .inr (1, 53, .int 0, []), .inr (1, 53, .int 0, []), .inr (1, 53, .int 0, []), .inr (1, 53, .int 0, []), .inr (1, 512, .int 0, []), .inr (1, 512, .int 0, []), .inr (1, 512, .int 0, []), .inr (5, 3, .null, [(0, .ref 89), (1, .ref 98), (2, .ref 107)]), .inl (8, [.int 0, .int 36, .ref 90, .ref 91, .ref 92, .ref 93, .ref 94, .ref 95, .ref 96, .ref 97, .null, .int 0, .int 0]), .inr (1, 36, .int 0, []), .inr (1, 36, .int 0, []), .inr (1, 36, .int 0, []), .inr (1, 36, .int 0, []), .inr (1, 36, .int 0, []), .inr (1, 512, .int 0, []), .inr (1, 512, .int 0, []), .inr (1, 512, .int 0, []), .inl (8, [.int 0, .int 32, .ref 99, .ref 100, .ref 101, .ref 102, .ref 103, .ref 104, .ref 105, .ref 106, .null, .int 0, .int 0]), .inr (1, 32, .int 0, []), .inr (1, 32, .int 0, []), .inr (1, 32, .int 0, []), .inr (1, 32, .int 0, []), .inr (1, 32, .int 0, []), .inr (1, 256, .int 0, []), .inr (1, 256, .int 0, []), .inr (1, 256, .int 0, []), .inl (8, [.int 0, .int 53, .ref 108, .ref 109, .ref 110, .ref 111, .ref 112, .ref 113, .ref 114, .ref 115, .null, .int 0, .int 0]), .inr (1, 53, .int 0, []), .inr (1, 53, .int 0, []), .inr (1, 53, .int 0, []), .inr (1, 53, .int 0, []), .inr (1, 53, .int 0, []), .inr (1, 512, .int 0, []), .inr (1, 512, .int 0, []), .inr (1, 512, .int 0, []), .inl (9, [.null, .ref 117, .ref 118]), .inr (5, 3, .null, []), .inr (2, 3, .long 0, [(0, .long 1), (1, .long 4), (2, .long 8)]), .inl (9, [.null, .ref 120, .ref 121]), .inr (5, 3, .null, []), .inr (2, 3, .long 0, [(0, .long 1), (1, .long 4), (2, .long 8)]), .inl (7, [.ref 123, .int 0, .int 0, .int 0, .int 0]), .inr (0, 0, .int 0, []), .inl (7, [.ref 125, .int 0, .int 0, .int 0, .int 0]), .inr (0, 0, .int 0, []), .inl (7, [.ref 127, .int 0, .int 0, .int 0, .int 0]), .inr (0, 0, .int 0, []), .inr (1, 256, .int 0, []), .inr (1, 53, .int 0, []), .inr (7, 3, .null, [(0, .ref 131), (1, .ref 132), (2, .ref 133)]), .inr (1, 0, .int 0, []), .inr (1, 0, .int 0, []), .inr (1, 0, .int 0, []), .inr (1, 0, .int 0, []), .inr (1, 3, .int 0, []), .inr (1, 13, .int 0, [])]
theorem ev_pac : mrun 824 4 39 0 (rargs 0 [.ref 11]) [] (mstat ++ [.inl (0, fl_pac)]) 0 0 = some (some (.ref 12), mstat ++ ml_pac, 125, 18162) := meq_of (by decide +kernel)
def fl_pacF : List Value := [.ref 1000, .ref 1001, .ref 1002, .ref 1003, .ref 1004, .ref 1005, .ref 1006, .null, .retAddr 8, .retAddr 9, .ref 1010, .null, .retAddr 12, .ref 1013, .ref 1014, .ref 1015, .ref 1016, .float 17, .float 18]
def ml_pacF : rS := [.inl (0, [.ref 1000, .ref 1001, .ref 1002, .ref 1003, .ref 1004, .ref 1005, .ref 1006, .ref 13, .retAddr 8, .retAddr 9, .ref 1010, .ref 12, .retAddr 12, .ref 1013, .ref 1014, .ref 1015, .ref 1016, .float 17, .float 18]), .inl (6, [.ref 1001, .ref 13, .ref 1010, .ref 21, .ref 68, .ref 96, .ref 124, .ref 127, .ref 130, .ref 132, .ref 134, .ref 136, .ref 137, .ref 138, .ref 142, .int 0, .int 0, .ref 143, .ref 144]), .inl (5, [.ref 14, .ref 16, .ref 17, .ref 18, .int 0, .int 0, .int 0, .ref 19, .ref 20, .int 0, .int 0, .int 0, .int 0, .int 0, .int 0, .int 0, .int 0, .int 0, .int 0]), .inl (7, [.ref 15, .int 0, .int 0, .int 0, .int 0]), .inr (0, 0, .int 0, []), .inr (1, 0, .int 0, []), .inr (1, 0, .int 0, []), .inr (1, 0, .int 0, []), .inr (1, 0, .int 0, []), .inr (1, 0, .int 0, []), .inr (6, 2, .null, [(0, .ref 22), (1, .ref 45)]), .inl (3, [.ref 23, .ref 24, .ref 25, .int 0, .ref 26, .ref 27, .ref 28, .ref 37, .ref 39, .ref 41, .ref 42, .ref 43, .ref 44, .int 0, .int 0, .int 0, .int 0]), .inr (1, 256, .int 0, []), .inr (1, 256, .int 0, []), .inr (1, 2048, .int 0, []), .inr (1, 256, .int 0, []), .inr (1, 12, .int 0, []), .inl (8, [.int 0, .int 12, .ref 29, .ref 30, .ref 31, .ref 32, .ref 33, .ref 34, .ref 35, .ref 36, .null, .int 0, .int 0]), .inr (1, 12, .int 0, []), .inr (1, 12, .int 0, []), .inr (1, 12, .int 0, []), .inr (1, 12, .int 0, []), .inr (1, 12, .int 0, []), .inr (1, 64, .int 0, []), .inr (1, 64, .int 0, []), .inr (1, 64, .int 0, []), .inl (7, [.ref 38, .int 0, .int 0, .int 0, .int 0]), .inr (0, 0, .int 0, []), .inl (7, [.ref 40, .int 0, .int 0, .int 0, .int 0]), .inr (0, 0, .int 0, []), .inl (2, [.null, .int 0, .int 0]), .inr (1, 256, .int 0, []), .inr (1, 512, .int 0, []), .inr (1, 512, .int 0, []), .inl (3, [.ref 46, .ref 47, .ref 48, .int 0, .ref 49, .ref 50, .ref 51, .ref 60, .ref 62, .ref 64, .ref 65, .ref 66, .ref 67, .int 0, .int 0, .int 0, .int 0]), .inr (1, 256, .int 0, []), .inr (1, 256, .int 0, []), .inr (1, 2048, .int 0, []), .inr (1, 256, .int 0, []), .inr (1, 12, .int 0, []), .inl (8, [.int 0, .int 12, .ref 52, .ref 53, .ref 54, .ref 55, .ref 56, .ref 57, .ref 58, .ref 59, .null, .int 0, .int 0]), .inr (1, 12, .int 0, []), .inr (1, 12, .int 0, []), .inr (1, 12, .int 0, []), .inr (1, 12, .int 0, []), .inr (1, 12, .int 0, []), .inr (1, 64, .int 0, []), .inr (1, 64, .int 0, []), .inr (1, 64, .int 0, []), .inl (7, [.ref 61, .int 0, .int 0, .int 0, .int 0]), .inr (0, 0, .int 0, []), .inl (7, [.ref 63, .int 0, .int 0, .int 0, .int 0]), .inr (0, 0, .int 0, []), .inl (2, [.null, .int 0, .int 0]), .inr (1, 256, .int 0, []), .inr (1, 512, .int 0, []), .inr (1, 512, .int 0, []), .inr (5, 3, .null, [(0, .ref 69), (1, .ref 78), (2, .ref 87)]), .inl (8, [.int 0, .int 36, .ref 70, .ref 71, .ref 72, .ref 73, .ref 74, .ref 75, .ref 76, .ref 77, .null, .int 0, .int 0]), .inr (1, 36, .int 0, []), .inr (1, 36, .int 0, []), .inr (1, 36, .int 0, []), .inr (1, 36, .int 0, []), .inr (1, 36, .int 0, []), .inr (1, 512, .int 0, []), .inr (1, 512, .int 0, []), .inr (1, 512, .int 0, []), .inl (8, [.int 0, .int 32, .ref 79, .ref 80, .ref 81, .ref 82, .ref 83, .ref 84, .ref 85, .ref 86, .null, .int 0, .int 0]), .inr (1, 32, .int 0, []), .inr (1, 32, .int 0, []), .inr (1, 32, .int 0, []), .inr (1, 32, .int 0, []), .inr (1, 32, .int 0, []), .inr (1, 256, .int 0, []), .inr (1, 256, .int 0, []), .inr (1, 256, .int 0, []), .inl (8, [.int 0, .int 53, .ref 88, .ref 89, .ref 90, .ref 91, .ref 92, .ref 93, .ref 94, .ref 95, .null, .int 0, .int 0]), .inr (1, 53, .int 0, []), .inr (1, 53, .int 0, []), .inr (1, 53, .int 0, []), .inr (1, 53, .int 0, []), .inr (1, 53, .int 0, []), .inr (1, 512, .int 0, []), .inr (1, 512, .int 0, []), .inr (1, 512, .int 0, []), .inr (5, 3, .null, [(0, .ref 97), (1, .ref 106), (2, .ref 115)]), .inl (8, [.int 0, .int 36, .ref 98, .ref 99, .ref 100, .ref 101, .ref 102, .ref 103, .ref 104, .ref 105, .null, .int 0, .int 0]), .inr (1, 36, .int 0, []), .inr (1, 36, .int 0, []), .inr (1, 36, .int 0, []), .inr (1, 36, .int 0, []), .inr (1, 36, .int 0, []), .inr (1, 512, .int 0, []), .inr (1, 512, .int 0, []), .inr (1, 512, .int 0, []), .inl (8, [.int 0, .int 32, .ref 107, .ref 108, .ref 109, .ref 110, .ref 111, .ref 112, .ref 113, .ref 114, .null, .int 0, .int 0]), .inr (1, 32, .int 0, []), .inr (1, 32, .int 0, []), .inr (1, 32, .int 0, []), .inr (1, 32, .int 0, []), .inr (1, 32, .int 0, []), .inr (1, 256, .int 0, []), .inr (1, 256, .int 0, []), .inr (1, 256, .int 0, []), .inl (8, [.int 0, .int 53, .ref 116, .ref 117, .ref 118, .ref 119, .ref 120, .ref 121, .ref 122, .ref 123, .null, .int 0, .int 0]), .inr (1, 53, .int 0, []), .inr (1, 53, .int 0, []), .inr (1, 53, .int 0, []), .inr (1, 53, .int 0, []), .inr (1, 53, .int 0, []), .inr (1, 512, .int 0, []), .inr (1, 512, .int 0, []), .inr (1, 512, .int 0, []), .inl (9, [.null, .ref 125, .ref 126]), .inr (5, 3, .null, []), .inr (2, 3, .long 0, [(0, .long 1), (1, .long 4), (2, .long 8)]), .inl (9, [.null, .ref 128, .ref 129]), .inr (5, 3, .null, []), .inr (2, 3, .long 0, [(0, .long 1), (1, .long 4), (2, .long 8)]), .inl (7, [.ref 131, .int 0, .int 0, .int 0, .int 0]), .inr (0, 0, .int 0, []), .inl (7, [.ref 133, .int 0, .int 0, .int 0, .int 0]), .inr (0, 0, .int 0, []), .inl (7, [.ref 135, .int 0, .int 0, .int 0, .int 0]), .inr (0, 0, .int 0, []), .inr (1, 256, .int 0, []), .inr (1, 53, .int 0, []), .inr (7, 3, .null, [(0, .ref 139), (1, .ref 140), (2, .ref 141)]), .inr (1, 0, .int 0, []), .inr (1, 0, .int 0, []), .inr (1, 0, .int 0, []), .inr (1, 0, .int 0, []), .inr (1, 3, .int 0, []), .inr (1, 13, .int 0, [])]
theorem ev_pacF : mrun 864 4 39 0 (rargs 0 [.ref 11]) [] (mstat ++ [.inl (0, fl_pacF)]) 0 0 = some (some (.ref 12), mstat ++ ml_pacF, 133, 18186) := meq_of (by decide +kernel)
def fl_pacK : List Value := [.ref 1000, .ref 1001, .ref 1002, .ref 1003, .ref 1004, .ref 1005, .ref 1006, .ref 1007, .retAddr 8, .retAddr 9, .null, .null, .retAddr 12, .ref 1013, .ref 1014, .ref 1015, .ref 1016, .float 17, .float 18]
def ml_pacK : rS := [.inl (0, [.ref 1000, .ref 1001, .ref 1002, .ref 1003, .ref 1004, .ref 1005, .ref 1006, .ref 1007, .retAddr 8, .retAddr 9, .ref 13, .ref 12, .retAddr 12, .ref 1013, .ref 1014, .ref 1015, .ref 1016, .float 17, .float 18]), .inl (6, [.ref 1001, .ref 1007, .ref 13, .ref 41, .ref 88, .ref 116, .ref 144, .ref 147, .ref 150, .ref 152, .ref 154, .ref 156, .ref 157, .ref 158, .ref 162, .int 0, .int 0, .ref 163, .ref 164]), .inr (5, 3, .null, [(0, .ref 14), (1, .ref 23), (2, .ref 32)]), .inl (8, [.int 6, .int 36, .ref 15, .ref 16, .ref 17, .ref 18, .ref 19, .ref 20, .ref 21, .ref 22, .null, .int 0, .int 0]), .inr (1, 36, .int 0, [(0, .int 4), (1, .int 3), (2, .int 2), (3, .int 2), (4, .int 2), (5, .int 2), (6, .int 2), (7, .int 2), (8, .int 2), (9, .int 2), (10, .int 2), (11, .int 2), (12, .int 2), (13, .int 1), (14, .int 1), (15, .int 1), (16, .int 2), (17, .int 2), (18, .int 2), (19, .int 2), (20, .int 2), (21, .int 2), (22, .int 2), (23, .int 2), (24, .int 2), (25, .int 3), (26, .int 2), (27, .int 1), (28, .int 1), (29, .int 1), (30, .int 1), (31, .int 1), (32, .int (-1)), (33, .int (-1)), (34, .int (-1)), (35, .int (-1))]), .inr (1, 36, .int 0, [(0, .int 4), (1, .int 3), (2, .int 2), (3, .int 2), (4, .int 2), (5, .int 2), (6, .int 2), (7, .int 2), (8, .int 2), (9, .int 2), (10, .int 2), (11, .int 2), (12, .int 2), (13, .int 1), (14, .int 1), (15, .int 1), (16, .int 2), (17, .int 2), (18, .int 2), (19, .int 2), (20, .int 2), (21, .int 2), (22, .int 2), (23, .int 2), (24, .int 2), (25, .int 3), (26, .int 2), (27, .int 1), (28, .int 1), (29, .int 1), (30, .int 1), (31, .int 1), (32, .int 1), (33, .int 1), (34, .int 1), (35, .int 1)]), .inr (1, 36, .int 0, [(0, .int 4), (1, .int 5), (2, .int 5), (3, .int 5), (4, .int 5), (5, .int 5), (6, .int 5), (7, .int 5), (8, .int 5), (9, .int 5), (10, .int 5), (11, .int 5), (12, .int 5), (13, .int 6), (14, .int 6), (15, .int 6), (16, .int 5), (17, .int 5), (18, .int 5), (19, .int 5), (20, .int 5), (21, .int 5), (22, .int 5), (23, .int 5), (24, .int 5), (25, .int 5), (26, .int 5), (27, .int 6), (28, .int 6), (29, .int 6), (30, .int 6), (31, .int 6), (32, .int 6), (33, .int 6), (34, .int 6), (35, .int 6)]), .inr (1, 36, .int 0, [(0, .int 0), (1, .int 4), (2, .int 7), (3, .int 9), (4, .int 11), (5, .int 13), (6, .int 15), (7, .int 17), (8, .int 19), (9, .int 21), (10, .int 23), (11, .int 25), (12, .int 27), (13, .int 29), (14, .int 30), (15, .int 31), (16, .int 32), (17, .int 34), (18, .int 36), (19, .int 38), (20, .int 40), (21, .int 42), (22, .int 44), (23, .int 46), (24, .int 48), (25, .int 50), (26, .int 53), (27, .int 55), (28, .int 56), (29, .int 57), (30, .int 58), (31, .int 59), (32, .int 60), (33, .int 61), (34, .int 62), (35, .int 63)]), .inr (1, 36, .int 0, [(0, .int 4), (1, .int 3), (2, .int 2), (3, .int 2), (4, .int 2), (5, .int 2), (6, .int 2), (7, .int 2), (8, .int 2), (9, .int 2), (10, .int 2), (11, .int 2), (12, .int 2), (13, .int 1), (14, .int 1), (15, .int 1), (16, .int 2), (17, .int 2), (18, .int 2), (19, .int 2), (20, .int 2), (21, .int 2), (22, .int 2), (23, .int 2), (24, .int 2), (25, .int 3), (26, .int 2), (27, .int 1), (28, .int 1), (29, .int 1), (30, .int 1), (31, .int 1), (32, .int 1), (33, .int 1), (34, .int 1), (35, .int 1)]), .inr (1, 64, .int 0, [(63, .int 32), (62, .int 33), (61, .int 34), (60, .int 35), (0, .int 0), (43, .int 0), (22, .int 0), (1, .int 0), (44, .int 1), (23, .int 1), (2, .int 1), (45, .int 2), (24, .int 2), (3, .int 3), (46, .int 3), (25, .int 4), (4, .int 4), (47, .int 5), (26, .int 5), (5, .int 6), (48, .int 6), (27, .int 7), (6, .int 7), (49, .int 8), (28, .int 8), (7, .int 9), (50, .int 9), (29, .int 10), (8, .int 10), (51, .int 11), (30, .int 11), (9, .int 12), (52, .int 12), (31, .int 13), (10, .int 14), (53, .int 15), (32, .int 16), (11, .int 16), (54, .int 17), (33, .int 17), (12, .int 18), (55, .int 18), (34, .int 19), (13, .int 19), (56, .int 20), (35, .int 20), (14, .int 21), (57, .int 21), (36, .int 22), (15, .int 22), (58, .int 23), (37, .int 23), (16, .int 24), (59, .int 24), (38, .int 25), (17, .int 25), (39, .int 25), (18, .int 26), (40, .int 26), (19, .int 27), (41, .int 28), (20, .int 29), (42, .int 30), (21, .int 31)]), .inr (1, 64, .int 0, [(0, .int 4), (1, .int 5), (2, .int 3), (3, .int 2), (4, .int 2), (5, .int 2), (6, .int 2), (7, .int 2), (8, .int 2), (9, .int 2), (10, .int 1), (11, .int 2), (12, .int 2), (13, .int 2), (14, .int 2), (15, .int 2), (16, .int 2), (17, .int 3), (18, .int 2), (19, .int 1), (20, .int 1), (21, .int 1), (22, .int 6), (23, .int 4), (24, .int 2), (25, .int 3), (26, .int 2), (27, .int 3), (28, .int 2), (29, .int 3), (30, .int 2), (31, .int 1), (32, .int 3), (33, .int 2), (34, .int 3), (35, .int 2), (36, .int 3), (37, .int 2), (38, .int 4), (39, .int 5), (40, .int 3), (41, .int 1), (42, .int 1), (43, .int 7), (44, .int 5), (45, .int 3), (46, .int 3), (47, .int 3), (48, .int 3), (49, .int 3), (50, .int 3), (51, .int 3), (52, .int 3), (53, .int 1), (54, .int 3), (55, .int 3), (56, .int 3), (57, .int 3), (58, .int 3), (59, .int 3), (60, .int 1), (61, .int 1), (62, .int 1), (63, .int 1)]), .inr (1, 64, .int 0, [(0, .int 0), (1, .int 1), (4, .int 2), (9, .int 3), (11, .int 4), (15, .int 5), (17, .int 6), (21, .int 7), (23, .int 8), (27, .int 9), (30, .int 10), (32, .int 11), (36, .int 12), (38, .int 13), (42, .int 14), (44, .int 15), (48, .int 16), (50, .int 17), (53, .int 18), (55, .int 19), (57, .int 20), (59, .int 21), (2, .int 22), (5, .int 23), (7, .int 24), (12, .int 25), (13, .int 26), (18, .int 27), (19, .int 28), (24, .int 29), (25, .int 30), (29, .int 31), (33, .int 32), (34, .int 33), (39, .int 34), (40, .int 35), (45, .int 36), (46, .int 37), (51, .int 38), (52, .int 39), (54, .int 40), (56, .int 41), (58, .int 42), (3, .int 43), (6, .int 44), (8, .int 45), (10, .int 46), (14, .int 47), (16, .int 48), (20, .int 49), (22, .int 50), (26, .int 51), (28, .int 52), (31, .int 53), (35, .int 54), (37, .int 55), (41, .int 56), (43, .int 57), (47, .int 58), (49, .int 59), (63, .int 60), (62, .int 61), (61, .int 62), (60, .int 63)]), .inl (8, [.int 5, .int 29, .ref 24, .ref 25, .ref 26, .ref 27, .ref 28, .ref 29, .ref 30, .ref 31, .null, .int 0, .int 0]), .inr (1, 29, .int 0, [(0, .int 1), (1, .int 1), (2, .int 1), (3, .int 1), (4, .int 1), (5, .int 1), (6, .int 2), (7, .int 2), (8, .int 2), (9, .int 1), (10, .int 1), (11, .int 1), (12, .int 1), (13, .int 1), (14, .int 1), (15, .int 1), (16, .int 1), (17, .int 1), (18, .int 1), (19, .int 1), (20, .int 1), (21, .int 1), (22, .int 1), (23, .int 1), (24, .int (-1)), (25, .int (-1)), (26, .int (-1)), (27, .int (-1)), (28, .int (-1))]), .inr (1, 29, .int 0, [(0, .int 1), (1, .int 1), (2, .int 1), (3, .int 1), (4, .int 1), (5, .int 1), (6, .int 2), (7, .int 2), (8, .int 2), (9, .int 1), (10, .int 1), (11, .int 1), (12, .int 1), (13, .int 1), (14, .int 1), (15, .int 1), (16, .int 1), (17, .int 1), (18, .int 1), (19, .int 1), (20, .int 1), (21, .int 1), (22, .int 1), (23, .int 1), (24, .int 1), (25, .int 1), (26, .int 1), (27, .int 1), (28, .int 1)]), .inr (1, 29, .int 0, [(0, .int 5), (1, .int 5), (2, .int 5), (3, .int 5), (4, .int 5), (5, .int 5), (6, .int 4), (7, .int 4), (8, .int 4), (9, .int 5), (10, .int 5), (11, .int 5), (12, .int 5), (13, .int 5), (14, .int 5), (15, .int 5), (16, .int 5), (17, .int 5), (18, .int 5), (19, .int 5), (20, .int 5), (21, .int 5), (22, .int 5), (23, .int 5), (24, .int 5), (25, .int 5), (26, .int 5), (27, .int 5), (28, .int 5)]), .inr (1, 29, .int 0, [(0, .int 0), (1, .int 1), (2, .int 2), (3, .int 3), (4, .int 4), (5, .int 5), (6, .int 6), (7, .int 8), (8, .int 10), (9, .int 12), (10, .int 13), (11, .int 14), (12, .int 15), (13, .int 16), (14, .int 17), (15, .int 18), (16, .int 19), (17, .int 20), (18, .int 21), (19, .int 22), (20, .int 23), (21, .int 24), (22, .int 25), (23, .int 26), (24, .int 27), (25, .int 28), (26, .int 29), (27, .int 30), (28, .int 31)]), .inr (1, 29, .int 0, [(0, .int 1), (1, .int 1), (2, .int 1), (3, .int 1), (4, .int 1), (5, .int 1), (6, .int 2), (7, .int 2), (8, .int 2), (9, .int 1), (10, .int 1), (11, .int 1), (12, .int 1), (13, .int 1), (14, .int 1), (15, .int 1), (16, .int 1), (17, .int 1), (18, .int 1), (19, .int 1), (20, .int 1), (21, .int 1), (22, .int 1), (23, .int 1), (24, .int 1), (25, .int 1), (26, .int 1), (27, .int 1), (28, .int 1)]), .inr (1, 32, .int 0, [(31, .int 24), (30, .int 25), (29, .int 26), (28, .int 27), (27, .int 28), (0, .int 0), (23, .int 1), (14, .int 2), (5, .int 3), (19, .int 4), (10, .int 5), (1, .int 6), (24, .int 6), (15, .int 7), (6, .int 7), (20, .int 8), (11, .int 8), (2, .int 9), (25, .int 10), (16, .int 11), (7, .int 12), (21, .int 13), (12, .int 14), (3, .int 15), (26, .int 16), (17, .int 17), (8, .int 18), (22, .int 19), (13, .int 20), (4, .int 21), (18, .int 22), (9, .int 23)]), .inr (1, 32, .int 0, [(0, .int 1), (1, .int 2), (2, .int 1), (3, .int 1), (4, .int 1), (5, .int 1), (6, .int 2), (7, .int 1), (8, .int 1), (9, .int 1), (10, .int 1), (11, .int 2), (12, .int 1), (13, .int 1), (14, .int 1), (15, .int 3), (16, .int 1), (17, .int 1), (18, .int 1), (19, .int 1), (20, .int 3), (21, .int 1), (22, .int 1), (23, .int 1), (24, .int 3), (25, .int 1), (26, .int 1), (27, .int 1), (28, .int 1), (29, .int 1), (30, .int 1), (31, .int 1)]), .inr (1, 32, .int 0, [(0, .int 0), (6, .int 1), (12, .int 2), (18, .int 3), (24, .int 4), (3, .int 5), (8, .int 6), (15, .int 7), (21, .int 8), (26, .int 9), (5, .int 10), (10, .int 11), (17, .int 12), (23, .int 13), (2, .int 14), (9, .int 15), (14, .int 16), (20, .int 17), (25, .int 18), (4, .int 19), (11, .int 20), (16, .int 21), (22, .int 22), (1, .int 23), (7, .int 24), (13, .int 25), (19, .int 26), (31, .int 27), (30, .int 28), (29, .int 29), (28, .int 30), (27, .int 31)]), .inl (8, [.int 6, .int 53, .ref 33, .ref 34, .ref 35, .ref 36, .ref 37, .ref 38, .ref 39, .ref 40, .null, .int 0, .int 0]), .inr (1, 53, .int 0, [(0, .int 1), (1, .int 4), (2, .int 3), (3, .int 2), (4, .int 2), (5, .int 2), (6, .int 2), (7, .int 2), (8, .int 2), (9, .int 1), (10, .int 1), (11, .int 1), (12, .int 1), (13, .int 1), (14, .int 1), (15, .int 1), (16, .int 1), (17, .int 1), (18, .int 1), (19, .int 1), (20, .int 1), (21, .int 1), (22, .int 1), (23, .int 1), (24, .int 1), (25, .int 1), (26, .int 1), (27, .int 1), (28, .int 1), (29, .int 1), (30, .int 1), (31, .int 1), (32, .int 1), (33, .int 1), (34, .int 1), (35, .int 1), (36, .int 1), (37, .int 1), (38, .int 1), (39, .int 1), (40, .int 1), (41, .int 1), (42, .int 1), (43, .int 1), (44, .int 1), (45, .int 1), (46, .int (-1)), (47, .int (-1)), (48, .int (-1)), (49, .int (-1)), (50, .int (-1)), (51, .int (-1)), (52, .int (-1))]), .inr (1, 53, .int 0, [(0, .int 1), (1, .int 4), (2, .int 3), (3, .int 2), (4, .int 2), (5, .int 2), (6, .int 2), (7, .int 2), (8, .int 2), (9, .int 1), (10, .int 1), (11, .int 1), (12, .int 1), (13, .int 1), (14, .int 1), (15, .int 1), (16, .int 1), (17, .int 1), (18, .int 1), (19, .int 1), (20, .int 1), (21, .int 1), (22, .int 1), (23, .int 1), (24, .int 1), (25, .int 1), (26, .int 1), (27, .int 1), (28, .int 1), (29, .int 1), (30, .int 1), (31, .int 1), (32, .int 1), (33, .int 1), (34, .int 1), (35, .int 1), (36, .int 1), (37, .int 1), (38, .int 1), (39, .int 1), (40, .int 1), (41, .int 1), (42, .int 1), (43, .int 1), (44, .int 1), (45, .int 1), (46, .int 1), (47, .int 1), (48, .int 1), (49, .int 1), (50, .int 1), (51, .int 1), (52, .int 1)]), .inr (1, 53, .int 0, [(0, .int 6), (1, .int 4), (2, .int 5), (3, .int 5), (4, .int 5), (5, .int 5), (6, .int 5), (7, .int 5), (8, .int 5), (9, .int 6), (10, .int 6), (11, .int 6), (12, .int 6), (13, .int 6), (14, .int 6), (15, .int 6), (16, .int 6), (17, .int 6), (18, .int 6), (19, .int 6), (20, .int 6), (21, .int 6), (22, .int 6), (23, .int 6), (24, .int 6), (25, .int 6), (26, .int 6), (27, .int 6), (28, .int 6), (29, .int 6), (30, .int 6), (31, .int 6), (32, .int 6), (33, .int 6), (34, .int 6), (35, .int 6), (36, .int 6), (37, .int 6), (38, .int 6), (39, .int 6), (40, .int 6), (41, .int 6), (42, .int 6), (43, .int 6), (44, .int 6), (45, .int 6), (46, .int 6), (47, .int 6), (48, .int 6), (49, .int 6), (50, .int 6), (51, .int 6), (52, .int 6)]), .inr (1, 53, .int 0, [(0, .int 0), (1, .int 1), (2, .int 5), (3, .int 8), (4, .int 10), (5, .int 12), (6, .int 14), (7, .int 16), (8, .int 18), (9, .int 20), (10, .int 21), (11, .int 22), (12, .int 23), (13, .int 24), (14, .int 25), (15, .int 26), (16, .int 27), (17, .int 28), (18, .int 29), (19, .int 30), (20, .int 31), (21, .int 32), (22, .int 33), (23, .int 34), (24, .int 35), (25, .int 36), (26, .int 37), (27, .int 38), (28, .int 39), (29, .int 40), (30, .int 41), (31, .int 42), (32, .int 43), (33, .int 44), (34, .int 45), (35, .int 46), (36, .int 47), (37, .int 48), (38, .int 49), (39, .int 50), (40, .int 51), (41, .int 52), (42, .int 53), (43, .int 54), (44, .int 55), (45, .int 56), (46, .int 57), (47, .int 58), (48, .int 59), (49, .int 60), (50, .int 61), (51, .int 62), (52, .int 63)]), .inr (1, 53, .int 0, [(0, .int 1), (1, .int 4), (2, .int 3), (3, .int 2), (4, .int 2), (5, .int 2), (6, .int 2), (7, .int 2), (8, .int 2), (9, .int 1), (10, .int 1), (11, .int 1), (12, .int 1), (13, .int 1), (14, .int 1), (15, .int 1), (16, .int 1), (17, .int 1), (18, .int 1), (19, .int 1), (20, .int 1), (21, .int 1), (22, .int 1), (23, .int 1), (24, .int 1), (25, .int 1), (26, .int 1), (27, .int 1), (28, .int 1), (29, .int 1), (30, .int 1), (31, .int 1), (32, .int 1), (33, .int 1), (34, .int 1), (35, .int 1), (36, .int 1), (37, .int 1), (38, .int 1), (39, .int 1), (40, .int 1), (41, .int 1), (42, .int 1), (43, .int 1), (44, .int 1), (45, .int 1), (46, .int 1), (47, .int 1), (48, .int 1), (49, .int 1), (50, .int 1), (51, .int 1), (52, .int 1)]), .inr (1, 64, .int 0, [(63, .int 46), (62, .int 47), (61, .int 48), (60, .int 49), (59, .int 50), (58, .int 51), (57, .int 52), (0, .int 0), (43, .int 1), (22, .int 1), (1, .int 1), (44, .int 1), (23, .int 2), (2, .int 2), (45, .int 2), (24, .int 3), (3, .int 3), (46, .int 4), (25, .int 4), (4, .int 5), (47, .int 5), (26, .int 6), (5, .int 6), (48, .int 7), (27, .int 7), (6, .int 8), (49, .int 8), (28, .int 9), (7, .int 10), (50, .int 11), (29, .int 12), (8, .int 13), (51, .int 14), (30, .int 15), (9, .int 16), (52, .int 17), (31, .int 18), (10, .int 19), (53, .int 20), (32, .int 21), (11, .int 22), (54, .int 23), (33, .int 24), (12, .int 25), (55, .int 26), (34, .int 27), (13, .int 28), (56, .int 29), (35, .int 30), (14, .int 31), (36, .int 32), (15, .int 33), (37, .int 34), (16, .int 35), (38, .int 36), (17, .int 37), (39, .int 38), (18, .int 39), (40, .int 40), (19, .int 41), (41, .int 42), (20, .int 43), (42, .int 44), (21, .int 45)]), .inr (1, 64, .int 0, [(0, .int 1), (1, .int 4), (2, .int 3), (3, .int 2), (4, .int 2), (5, .int 2), (6, .int 2), (7, .int 1), (8, .int 1), (9, .int 1), (10, .int 1), (11, .int 1), (12, .int 1), (13, .int 1), (14, .int 1), (15, .int 1), (16, .int 1), (17, .int 1), (18, .int 1), (19, .int 1), (20, .int 1), (21, .int 1), (22, .int 5), (23, .int 4), (24, .int 3), (25, .int 2), (26, .int 3), (27, .int 2), (28, .int 1), (29, .int 1), (30, .int 1), (31, .int 1), (32, .int 1), (33, .int 1), (34, .int 1), (35, .int 1), (36, .int 1), (37, .int 1), (38, .int 1), (39, .int 1), (40, .int 1), (41, .int 1), (42, .int 1), (43, .int 6), (44, .int 7), (45, .int 5), (46, .int 3), (47, .int 3), (48, .int 3), (49, .int 3), (50, .int 1), (51, .int 1), (52, .int 1), (53, .int 1), (54, .int 1), (55, .int 1), (56, .int 1), (57, .int 1), (58, .int 1), (59, .int 1), (60, .int 1), (61, .int 1), (62, .int 1), (63, .int 1)]), .inr (1, 64, .int 0, [(0, .int 0), (1, .int 1), (5, .int 2), (8, .int 3), (12, .int 4), (14, .int 5), (18, .int 6), (21, .int 7), (24, .int 8), (27, .int 9), (30, .int 10), (33, .int 11), (36, .int 12), (39, .int 13), (42, .int 14), (44, .int 15), (46, .int 16), (48, .int 17), (50, .int 18), (52, .int 19), (54, .int 20), (56, .int 21), (2, .int 22), (6, .int 23), (9, .int 24), (10, .int 25), (15, .int 26), (16, .int 27), (20, .int 28), (23, .int 29), (26, .int 30), (29, .int 31), (32, .int 32), (35, .int 33), (38, .int 34), (41, .int 35), (43, .int 36), (45, .int 37), (47, .int 38), (49, .int 39), (51, .int 40), (53, .int 41), (55, .int 42), (3, .int 43), (4, .int 44), (7, .int 45), (11, .int 46), (13, .int 47), (17, .int 48), (19, .int 49), (22, .int 50), (25, .int 51), (28, .int 52), (31, .int 53), (34, .int 54), (37, .int 55), (40, .int 56), (63, .int 57), (62, .int 58), (61, .int 59), (60, .int 60), (59, .int 61), (58, .int 62), (57, .int 63)]), .inr (6, 2, .null, [(0, .ref 42), (1, .ref 65)]), .inl (3, [.ref 43, .ref 44, .ref 45, .int 0, .ref 46, .ref 47, .ref 48, .ref 57, .ref 59, .ref 61, .ref 62, .ref 63, .ref 64, .int 0, .int 0, .int 0, .int 0]), .inr (1, 256, .int 0, []), .inr (1, 256, .int 0, []), .inr (1, 2048, .int 0, []), .inr (1, 256, .int 0, []), .inr (1, 12, .int 0, []), .inl (8, [.int 0, .int 12, .ref 49, .ref 50, .ref 51, .ref 52, .ref 53, .ref 54, .ref 55, .ref 56, .null, .int 0, .int 0]), .inr (1, 12, .int 0, []), .inr (1, 12, .int 0, []), .inr (1, 12, .int 0, []), .inr (1, 12, .int 0, []), .inr (1, 12, .int 0, []), .inr (1, 64, .int 0, []), .inr (1, 64, .int 0, []), .inr (1, 64, .int 0, []), .inl (7, [.ref 58, .int 0, .int 0, .int 0, .int 0]), .inr (0, 0, .int 0, []), .inl (7, [.ref 60, .int 0, .int 0, .int 0, .int 0]), .inr (0, 0, .int 0, []), .inl (2, [.null, .int 0, .int 0]), .inr (1, 256, .int 0, []), .inr (1, 512, .int 0, []), .inr (1, 512, .int 0, []), .inl (3, [.ref 66, .ref 67, .ref 68, .int 0, .ref 69, .ref 70, .ref 71, .ref 80, .ref 82, .ref 84, .ref 85, .ref 86, .ref 87, .int 0, .int 0, .int 0, .int 0]), .inr (1, 256, .int 0, []), .inr (1, 256, .int 0, []), .inr (1, 2048, .int 0, []), .inr (1, 256, .int 0, []), .inr (1, 12, .int 0, []), .inl (8, [.int 0, .int 12, .ref 72, .ref 73, .ref 74, .ref 75, .ref 76, .ref 77, .ref 78, .ref 79, .null, .int 0, .int 0]), .inr (1, 12, .int 0, []), .inr (1, 12, .int 0, []), .inr (1, 12, .int 0, []), .inr (1, 12, .int 0, []), .inr (1, 12, .int 0, []), .inr (1, 64, .int 0, []), .inr (1, 64, .int 0, []), .inr (1, 64, .int 0, []), .inl (7, [.ref 81, .int 0, .int 0, .int 0, .int 0]), .inr (0, 0, .int 0, []), .inl (7, [.ref 83, .int 0, .int 0, .int 0, .int 0]), .inr (0, 0, .int 0, []), .inl (2, [.null, .int 0, .int 0]), .inr (1, 256, .int 0, []), .inr (1, 512, .int 0, []), .inr (1, 512, .int 0, []), .inr (5, 3, .null, [(0, .ref 89), (1, .ref 98), (2, .ref 107)]), .inl (8, [.int 0, .int 36, .ref 90, .ref 91, .ref 92, .ref 93, .ref 94, .ref 95, .ref 96, .ref 97, .null, .int 0, .int 0]), .inr (1, 36, .int 0, []), .inr (1, 36, .int 0, []), .inr (1, 36, .int 0, []), .inr (1, 36, .int 0, []), .inr (1, 36, .int 0, []), .inr (1, 512, .int 0, []), .inr (1, 512, .int 0, []), .inr (1, 512, .int 0, []), .inl (8, [.int 0, .int 32, .ref 99, .ref 100, .ref 101, .ref 102, .ref 103, .ref 104, .ref 105, .ref 106, .null, .int 0, .int 0]), .inr (1, 32, .int 0, []), .inr (1, 32, .int 0, []), .inr (1, 32, .int 0, []), .inr (1, 32, .int 0, []), .inr (1, 32, .int 0, []), .inr (1, 256, .int 0, []), .inr (1, 256, .int 0, []), .inr (1, 256, .int 0, []), .inl (8, [.int 0, .int 53, .ref 108, .ref 109, .ref 110, .ref 111, .ref 112, .ref 113, .ref 114, .ref 115, .null, .int 0, .int 0]), .inr (1, 53, .int 0, []), .inr (1, 53, .int 0, []), .inr (1, 53, .int 0, []), .inr (1, 53, .int 0, []), .inr (1, 53, .int 0, []), .inr (1, 512, .int 0, []), .inr (1, 512, .int 0, []), .inr (1, 512, .int 0, []), .inr (5, 3, .null, [(0, .ref 117), (1, .ref 126), (2, .ref 135)]), .inl (8, [.int 0, .int 36, .ref 118, .ref 119, .ref 120, .ref 121, .ref 122, .ref 123, .ref 124, .ref 125, .null, .int 0, .int 0]), .inr (1, 36, .int 0, []), .inr (1, 36, .int 0, []), .inr (1, 36, .int 0, []), .inr (1, 36, .int 0, []), .inr (1, 36, .int 0, []), .inr (1, 512, .int 0, []), .inr (1, 512, .int 0, []), .inr (1, 512, .int 0, []), .inl (8, [.int 0, .int 32, .ref 127, .ref 128, .ref 129, .ref 130, .ref 131, .ref 132, .ref 133, .ref 134, .null, .int 0, .int 0]), .inr (1, 32, .int 0, []), .inr (1, 32, .int 0, []), .inr (1, 32, .int 0, []), .inr (1, 32, .int 0, []), .inr (1, 32, .int 0, []), .inr (1, 256, .int 0, []), .inr (1, 256, .int 0, []), .inr (1, 256, .int 0, []), .inl (8, [.int 0, .int 53, .ref 136, .ref 137, .ref 138, .ref 139, .ref 140, .ref 141, .ref 142, .ref 143, .null, .int 0, .int 0]), .inr (1, 53, .int 0, []), .inr (1, 53, .int 0, []), .inr (1, 53, .int 0, []), .inr (1, 53, .int 0, []), .inr (1, 53, .int 0, []), .inr (1, 512, .int 0, []), .inr (1, 512, .int 0, []), .inr (1, 512, .int 0, []), .inl (9, [.null, .ref 145, .ref 146]), .inr (5, 3, .null, []), .inr (2, 3, .long 0, [(0, .long 1), (1, .long 4), (2, .long 8)]), .inl (9, [.null, .ref 148, .ref 149]), .inr (5, 3, .null, []), .inr (2, 3, .long 0, [(0, .long 1), (1, .long 4), (2, .long 8)]), .inl (7, [.ref 151, .int 0, .int 0, .int 0, .int 0]), .inr (0, 0, .int 0, []), .inl (7, [.ref 153, .int 0, .int 0, .int 0, .int 0]), .inr (0, 0, .int 0, []), .inl (7, [.ref 155, .int 0, .int 0, .int 0, .int 0]), .inr (0, 0, .int 0, []), .inr (1, 256, .int 0, []), .inr (1, 53, .int 0, []), .inr (7, 3, .null, [(0, .ref 159), (1, .ref 160), (2, .ref 161)]), .inr (1, 0, .int 0, []), .inr (1, 0, .int 0, []), .inr (1, 0, .int 0, []), .inr (1, 0, .int 0, []), .inr (1, 3, .int 0, []), .inr (1, 13, .int 0, [])]
theorem ev_pacK : mrun 21521 4 39 0 (rargs 0 [.ref 11]) [] (mstat ++ [.inl (0, fl_pacK)]) 0 0 = some (some (.ref 12), mstat ++ ml_pacK, 153, 19274) := meq_of (by decide +kernel)
def fl_pacFK : List Value := [.ref 1000, .ref 1001, .ref 1002, .ref 1003, .ref 1004, .ref 1005, .ref 1006, .null, .retAddr 8, .retAddr 9, .null, .null, .retAddr 12, .ref 1013, .ref 1014, .ref 1015, .ref 1016, .float 17, .float 18]
def ml_pacFK : rS := [.inl (0, [.ref 1000, .ref 1001, .ref 1002, .ref 1003, .ref 1004, .ref 1005, .ref 1006, .ref 13, .retAddr 8, .retAddr 9, .ref 21, .ref 12, .retAddr 12, .ref 1013, .ref 1014, .ref 1015, .ref 1016, .float 17, .float 18]), .inl (6, [.ref 1001, .ref 13, .ref 21, .ref 49, .ref 96, .ref 124, .ref 152, .ref 155, .ref 158, .ref 160, .ref 162, .ref 164, .ref 165, .ref 166, .ref 170, .int 0, .int 0, .ref 171, .ref 172]), .inl (5, [.ref 14, .ref 16, .ref 17, .ref 18, .int 0, .int 0, .int 0, .ref 19, .ref 20, .int 0, .int 0, .int 0, .int 0, .int 0, .int 0, .int 0, .int 0, .int 0, .int 0]), .inl (7, [.ref 15, .int 0, .int 0, .int 0, .int 0]), .inr (0, 0, .int 0, []), .inr (1, 0, .int 0, []), .inr (1, 0, .int 0, []), .inr (1, 0, .int 0, []), .inr (1, 0, .int 0, []), .inr (1, 0, .int 0, []), .inr (5, 3, .null, [(0, .ref 22), (1, .ref 31), (2, .ref 40)]), .inl (8, [.int 6, .int 36, .ref 23, .ref 24, .ref 25, .ref 26, .ref 27, .ref 28, .ref 29, .ref 30, .null, .int 0, .int 0]), .inr (1, 36, .int 0, [(0, .int 4), (1, .int 3), (2, .int 2), (3, .int 2), (4, .int 2), (5, .int 2), (6, .int 2), (7, .int 2), (8, .int 2), (9, .int 2), (10, .int 2), (11, .int 2), (12, .int 2), (13, .int 1), (14, .int 1), (15, .int 1), (16, .int 2), (17, .int 2), (18, .int 2), (19, .int 2), (20, .int 2), (21, .int 2), (22, .int 2), (23, .int 2), (24, .int 2), (25, .int 3), (26, .int 2), (27, .int 1), (28, .int 1), (29, .int 1), (30, .int 1), (31, .int 1), (32, .int (-1)), (33, .int (-1)), (34, .int (-1)), (35, .int (-1))]), .inr (1, 36, .int 0, [(0, .int 4), (1, .int 3), (2, .int 2), (3, .int 2), (4, .int 2), (5, .int 2), (6, .int 2), (7, .int 2), (8, .int 2), (9, .int 2), (10, .int 2), (11, .int 2), (12, .int 2), (13, .int 1), (14, .int 1), (15, .int 1), (16, .int 2), (17, .int 2), (18, .int 2), (19, .int 2), (20, .int 2), (21, .int 2), (22, .int 2), (23, .int 2), (24, .int 2), (25, .int 3), (26, .int 2), (27, .int 1), (28, .int 1), (29, .int 1), (30, .int 1), (31, .int 1), (32, .int 1), (33, .int 1), (34, .int 1), (35, .int 1)]), .inr (1, 36, .int 0, [(0, .int 4), (1, .int 5), (2, .int 5), (3, .int 5), (4, .int 5), (5, .int 5), (6, .int 5), (7, .int 5), (8, .int 5), (9, .int 5), (10, .int 5), (11, .int 5), (12, .int 5), (13, .int 6), (14, .int 6), (15, .int 6), (16, .int 5), (17, .int 5), (18, .int 5), (19, .int 5), (20, .int 5), (21, .int 5), (22, .int 5), (23, .int 5), (24, .int 5), (25, .int 5), (26, .int 5), (27, .int 6), (28, .int 6), (29, .int 6), (30, .int 6), (31, .int 6), (32, .int 6), (33, .int 6), (34, .int 6), (35, .int 6)]), .inr (1, 36, .int 0, [(0, .int 0), (1, .int 4), (2, .int 7), (3, .int 9), (4, .int 11), (5, .int 13), (6, .int 15), (7, .int 17), (8, .int 19), (9, .int 21), (10, .int 23), (11, .int 25), (12, .int 27), (13, .int 29), (14, .int 30), (15, .int 31), (16, .int 32), (17, .int 34), (18, .int 36), (19, .int 38), (20, .int 40), (21, .int 42), (22, .int 44), (23, .int 46), (24, .int 48), (25, .int 50), (26, .int 53), (27, .int 55), (28, .int 56), (29, .int 57), (30, .int 58), (31, .int 59), (32, .int 60), (33, .int 61), (34, .int 62), (35, .int 63)]), .inr (1, 36, .int 0, [(0, .int 4), (1, .int 3), (2, .int 2), (3, .int 2), (4, .int 2), (5, .int 2), (6, .int 2), (7, .int 2), (8, .int 2), (9, .int 2), (10, .int 2), (11, .int 2), (12, .int 2), (13, .int 1), (14, .int 1), (15, .int 1), (16, .int 2), (17, .int 2), (18, .int 2), (19, .int 2), (20, .int 2), (21, .int 2), (22, .int 2), (23, .int 2), (24, .int 2), (25, .int 3), (26, .int 2), (27, .int 1), (28, .int 1), (29, .int 1), (30, .int 1), (31, .int 1), (32, .int 1), (33, .int 1), (34, .int 1), (35, .int 1)]), .inr (1, 64, .int 0, [(63, .int 32), (62, .int 33), (61, .int 34), (60, .int 35), (0, .int 0), (43, .int 0), (22, .int 0), (1, .int 0), (44, .int 1), (23, .int 1), (2, .int 1), (45, .int 2), (24, .int 2), (3, .int 3), (46, .int 3), (25, .int 4), (4, .int 4), (47, .int 5), (26, .int 5), (5, .int 6), (48, .int 6), (27, .int 7), (6, .int 7), (49, .int 8), (28, .int 8), (7, .int 9), (50, .int 9), (29, .int 10), (8, .int 10), (51, .int 11), (30, .int 11), (9, .int 12), (52, .int 12), (31, .int 13), (10, .int 14), (53, .int 15), (32, .int 16), (11, .int 16), (54, .int 17), (33, .int 17), (12, .int 18), (55, .int 18), (34, .int 19), (13, .int 19), (56, .int 20), (35, .int 20), (14, .int 21), (57, .int 21), (36, .int 22), (15, .int 22), (58, .int 23), (37, .int 23), (16, .int 24), (59, .int 24), (38, .int 25), (17, .int 25), (39, .int 25), (18, .int 26), (40, .int 26), (19, .int 27), (41, .int 28), (20, .int 29), (42, .int 30), (21, .int 31)]), .inr (1, 64, .int 0, [(0, .int 4), (1, .int 5), (2, .int 3), (3, .int 2), (4, .int 2), (5, .int 2), (6, .int 2), (7, .int 2), (8, .int 2), (9, .int 2), (10, .int 1), (11, .int 2), (12, .int 2), (13, .int 2), (14, .int 2), (15, .int 2), (16, .int 2), (17, .int 3), (18, .int 2), (19, .int 1), (20, .int 1), (21, .int 1), (22, .int 6), (23, .int 4), (24, .int 2), (25, .int 3), (26, .int 2), (27, .int 3), (28, .int 2), (29, .int 3), (30, .int 2), (31, .int 1), (32, .int 3), (33, .int 2), (34, .int 3), (35, .int 2), (36, .int 3), (37, .int 2), (38, .int 4), (39, .int 5), (40, .int 3), (41, .int 1), (42, .int 1), (43, .int 7), (44, .int 5), (45, .int 3), (46, .int 3), (47, .int 3), (48, .int 3), (49, .int 3), (50, .int 3), (51, .int 3), (52, .int 3), (53, .int 1), (54, .int 3), (55, .int 3), (56, .int 3), (57, .int 3), (58, .int 3), (59, .int 3), (60, .int 1), (61, .int 1), (62, .int 1), (63, .int 1)]), .inr (1, 64, .int 0, [(0, .int 0), (1, .int 1), (4, .int 2), (9, .int 3), (11, .int 4), (15, .int 5), (17, .int 6), (21, .int 7), (23, .int 8), (27, .int 9), (30, .int 10), (32, .int 11), (36, .int 12), (38, .int 13), (42, .int 14), (44, .int 15), (48, .int 16), (50, .int 17), (53, .int 18), (55, .int 19), (57, .int 20), (59, .int 21), (2, .int 22), (5, .int 23), (7, .int 24), (12, .int 25), (13, .int 26), (18, .int 27), (19, .int 28), (24, .int 29), (25, .int 30), (29, .int 31), (33, .int 32), (34, .int 33), (39, .int 34), (40, .int 35), (45, .int 36), (46, .int 37), (51, .int 38), (52, .int 39), (54, .int 40), (56, .int 41), (58, .int 42), (3, .int 43), (6, .int 44), (8, .int 45), (10, .int 46), (14, .int 47), (16, .int 48), (20, .int 49), (22, .int 50), (26, .int 51), (28, .int 52), (31, .int 53), (35, .int 54), (37, .int 55), (41, .int 56), (43, .int 57), (47, .int 58), (49, .int 59), (63, .int 60), (62, .int 61), (61, .int 62), (60, .int 63)]), .inl (8, [.int 5, .int 29, .ref 32, .ref 33, .ref 34, .ref 35, .ref 36, .ref 37, .ref 38, .ref 39, .null, .int 0, .int 0]), .inr (1, 29, .int 0, [(0, .int 1), (1, .int 1), (2, .int 1), (3, .int 1), (4, .int 1), (5, .int 1), (6, .int 2), (7, .int 2), (8, .int 2), (9, .int 1), (10, .int 1), (11, .int 1), (12, .int 1), (13, .int 1), (14, .int 1), (15, .int 1), (16, .int 1), (17, .int 1), (18, .int 1), (19, .int 1), (20, .int 1), (21, .int 1), (22, .int 1), (23, .int 1), (24, .int (-1)), (25, .int (-1)), (26, .int (-1)), (27, .int (-1)), (28, .int (-1))]), .inr (1, 29, .int 0, [(0, .int 1), (1, .int 1), (2, .int 1), (3, .int 1), (4, .int 1), (5, .int 1), (6, .int 2), (7, .int 2), (8, .int 2), (9, .int 1), (10, .int 1), (11, .int 1), (12, .int 1), (13, .int 1), (14, .int 1), (15, .int 1), (16, .int 1), (17, .int 1), (18, .int 1), (19, .int 1), (20, .int 1), (21, .int 1), (22, .int 1), (23, .int 1), (24, .int 1), (25, .int 1), (26, .int 1), (27, .int 1), (28, .int 1)]), .inr (1, 29, .int 0, [(0, .int 5), (1, .int 5), (2, .int 5), (3, .int 5), (4, .int 5), (5, .int 5), (6, .int 4), (7, .int 4), (8, .int 4), (9, .int 5), (10, .int 5), (11, .int 5), (12, .int 5), (13, .int 5), (14, .int 5), (15, .int 5), (16, .int 5), (17, .int 5), (18, .int 5), (19, .int 5), (20, .int 5), (21, .int 5), (22, .int 5), (23, .int 5), (24, .int 5), (25, .int 5), (26, .int 5), (27, .int 5), (28, .int 5)]), .inr (1, 29, .int 0, [(0, .int 0), (1, .int 1), (2, .int 2), (3, .int 3), (4, .int 4), (5, .int 5), (6, .int 6), (7, .int 8), (8, .int 10), (9, .int 12), (10, .int 13), (11, .int 14), (12, .int 15), (13, .int 16), (14, .int 17), (15, .int 18), (16, .int 19), (17, .int 20), (18, .int 21), (19, .int 22), (20, .int 23), (21, .int 24), (22, .int 25), (23, .int 26), (24, .int 27), (25, .int 28), (26, .int 29), (27, .int 30), (28, .int 31)]), .inr (1, 29, .int 0, [(0, .int 1), (1, .int 1), (2, .int 1), (3, .int 1), (4, .int 1), (5, .int 1), (6, .int 2), (7, .int 2), (8, .int 2), (9, .int 1), (10, .int 1), (11, .int 1), (12, .int 1), (13, .int 1), (14, .int 1), (15, .int 1), (16, .int 1), (17, .int 1), (18, .int 1), (19, .int 1), (20, .int 1), (21, .int 1), (22, .int 1), (23, .int 1), (24, .int 1), (25, .int 1), (26, .int 1), (27, .int 1), (28, .int 1)]), .inr (1, 32, .int 0, [(31, .int 24), (30, .int 25), (29, .int 26), (28, .int 27), (27, .int 28), (0, .int 0), (23, .int 1), (14, .int 2), (5, .int 3), (19, .int 4), (10, .int 5), (1, .int 6), (24, .int 6), (15, .int 7), (6, .int 7), (20, .int 8), (11, .int 8), (2, .int 9), (25, .int 10), (16, .int 11), (7, .int 12), (21, .int 13), (12, .int 14), (3, .int 15), (26, .int 16), (17, .int 17), (8, .int 18), (22, .int 19), (13, .int 20), (4, .int 21), (18, .int 22), (9, .int 23)]), .inr (1, 32, .int 0, [(0, .int 1), (1, .int 2), (2, .int 1), (3, .int 1), (4, .int 1), (5, .int 1), (6, .int 2), (7, .int 1), (8, .int 1), (9, .int 1), (10, .int 1), (11, .int 2), (12, .int 1), (13, .int 1), (14, .int 1), (15, .int 3), (16, .int 1), (17, .int 1), (18, .int 1), (19, .int 1), (20, .int 3), (21, .int 1), (22, .int 1), (23, .int 1), (24, .int 3), (25, .int 1), (26, .int 1), (27, .int 1), (28, .int 1), (29, .int 1), (30, .int 1), (31, .int 1)]), .inr (1, 32, .int 0, [(0, .int 0), (6, .int 1), (12, .int 2), (18, .int 3), (24, .int 4), (3, .int 5), (8, .int 6), (15, .int 7), (21, .int 8), (26, .int 9), (5, .int 10), (10, .int 11), (17, .int 12), (23, .int 13), (2, .int 14), (9, .int 15), (14, .int 16), (20, .int 17), (25, .int 18), (4, .int 19), (11, .int 20), (16, .int 21), (22, .int 22), (1, .int 23), (7, .int 24), (13, .int 25), (19, .int 26), (31, .int 27), (30, .int 28), (29, .int 29), (28, .int 30), (27, .int 31)]), .inl (8, [.int 6, .int 53, .ref 41, .ref 42, .ref 43, .ref 44, .ref 45, .ref 46, .ref 47, .ref 48, .null, .int 0, .int 0]), .inr (1, 53, .int 0, [(0, .int 1), (1, .int 4), (2, .int 3), (3, .int 2), (4, .int 2), (5, .int 2), (6, .int 2), (7, .int 2), (8, .int 2), (9, .int 1), (10, .int 1), (11, .int 1), (12, .int 1), (13, .int 1), (14, .int 1), (15, .int 1), (16, .int 1), (17, .int 1), (18, .int 1), (19, .int 1), (20, .int 1), (21, .int 1), (22, .int 1), (23, .int 1), (24, .int 1), (25, .int 1), (26, .int 1), (27, .int 1), (28, .int 1), (29, .int 1), (30, .int 1), (31, .int 1), (32, .int 1), (33, .int 1), (34, .int 1), (35, .int 1), (36, .int 1), (37, .int 1), (38, .int 1), (39, .int 1), (40, .int 1), (41, .int 1), (42, .int 1), (43, .int 1), (44, .int 1), (45, .int 1), (46, .int (-1)), (47, .int (-1)), (48, .int (-1)), (49, .int (-1)), (50, .int (-1)), (51, .int (-1)), (52, .int (-1))]), .inr (1, 53, .int 0, [(0, .int 1), (1, .int 4), (2, .int 3), (3, .int 2), (4, .int 2), (5, .int 2), (6, .int 2), (7, .int 2), (8, .int 2), (9, .int 1), (10, .int 1), (11, .int 1), (12, .int 1), (13, .int 1), (14, .int 1), (15, .int 1), (16, .int 1), (17, .int 1), (18, .int 1), (19, .int 1), (20, .int 1), (21, .int 1), (22, .int 1), (23, .int 1), (24, .int 1), (25, .int 1), (26, .int 1), (27, .int 1), (28, .int 1), (29, .int 1), (30, .int 1), (31, .int 1), (32, .int 1), (33, .int 1), (34, .int 1), (35, .int 1), (36, .int 1), (37, .int 1), (38, .int 1), (39, .int 1), (40, .int 1), (41, .int 1), (42, .int 1), (43, .int 1), (44, .int 1), (45, .int 1), (46, .int 1), (47, .int 1), (48, .int 1), (49, .int 1), (50, .int 1), (51, .int 1), (52, .int 1)]), .inr (1, 53, .int 0, [(0, .int 6), (1, .int 4), (2, .int 5), (3, .int 5), (4, .int 5), (5, .int 5), (6, .int 5), (7, .int 5), (8, .int 5), (9, .int 6), (10, .int 6), (11, .int 6), (12, .int 6), (13, .int 6), (14, .int 6), (15, .int 6), (16, .int 6), (17, .int 6), (18, .int 6), (19, .int 6), (20, .int 6), (21, .int 6), (22, .int 6), (23, .int 6), (24, .int 6), (25, .int 6), (26, .int 6), (27, .int 6), (28, .int 6), (29, .int 6), (30, .int 6), (31, .int 6), (32, .int 6), (33, .int 6), (34, .int 6), (35, .int 6), (36, .int 6), (37, .int 6), (38, .int 6), (39, .int 6), (40, .int 6), (41, .int 6), (42, .int 6), (43, .int 6), (44, .int 6), (45, .int 6), (46, .int 6), (47, .int 6), (48, .int 6), (49, .int 6), (50, .int 6), (51, .int 6), (52, .int 6)]), .inr (1, 53, .int 0, [(0, .int 0), (1, .int 1), (2, .int 5), (3, .int 8), (4, .int 10), (5, .int 12), (6, .int 14), (7, .int 16), (8, .int 18), (9, .int 20), (10, .int 21), (11, .int 22), (12, .int 23), (13, .int 24), (14, .int 25), (15, .int 26), (16, .int 27), (17, .int 28), (18, .int 29), (19, .int 30), (20, .int 31), (21, .int 32), (22, .int 33), (23, .int 34), (24, .int 35), (25, .int 36), (26, .int 37), (27, .int 38), (28, .int 39), (29, .int 40), (30, .int 41), (31, .int 42), (32, .int 43), (33, .int 44), (34, .int 45), (35, .int 46), (36, .int 47), (37, .int 48), (38, .int 49), (39, .int 50), (40, .int 51), (41, .int 52), (42, .int 53), (43, .int 54), (44, .int 55), (45, .int 56), (46, .int 57), (47, .int 58), (48, .int 59), (49, .int 60), (50, .int 61), (51, .int 62), (52, .int 63)]), .inr (1, 53, .int 0, [(0, .int 1), (1, .int 4), (2, .int 3), (3, .int 2), (4, .int 2), (5, .int 2), (6, .int 2), (7, .int 2), (8, .int 2), (9, .int 1), (10, .int 1), (11, .int 1), (12, .int 1), (13, .int 1), (14, .int 1), (15, .int 1), (16, .int 1), (17, .int 1), (18, .int 1), (19, .int 1), (20, .int 1), (21, .int 1), (22, .int 1), (23, .int 1), (24, .int 1), (25, .int 1), (26, .int 1), (27, .int 1), (28, .int 1), (29, .int 1), (30, .int 1), (31, .int 1), (32, .int 1), (33, .int 1), (34, .int 1), (35, .int 1), (36, .int 1), (37, .int 1), (38, .int 1), (39, .int 1), (40, .int 1), (41, .int 1), (42, .int 1), (43, .int 1), (44, .int 1), (45, .int 1), (46, .int 1), (47, .int 1), (48, .int 1), (49, .int 1), (50, .int 1), (51, .int 1), (52, .int 1)]), .inr (1, 64, .int 0, [(63, .int 46), (62, .int 47), (61, .int 48), (60, .int 49), (59, .int 50), (58, .int 51), (57, .int 52), (0, .int 0), (43, .int 1), (22, .int 1), (1, .int 1), (44, .int 1), (23, .int 2), (2, .int 2), (45, .int 2), (24, .int 3), (3, .int 3), (46, .int 4), (25, .int 4), (4, .int 5), (47, .int 5), (26, .int 6), (5, .int 6), (48, .int 7), (27, .int 7), (6, .int 8), (49, .int 8), (28, .int 9), (7, .int 10), (50, .int 11), (29, .int 12), (8, .int 13), (51, .int 14), (30, .int 15), (9, .int 16), (52, .int 17), (31, .int 18), (10, .int 19), (53, .int 20), (32, .int 21), (11, .int 22), (54, .int 23), (33, .int 24), (12, .int 25), (55, .int 26), (34, .int 27), (13, .int 28), (56, .int 29), (35, .int 30), (14, .int 31), (36, .int 32), (15, .int 33), (37, .int 34), (16, .int 35), (38, .int 36), (17, .int 37), (39, .int 38), (18, .int 39), (40, .int 40), (19, .int 41), (41, .int 42), (20, .int 43), (42, .int 44), (21, .int 45)]), .inr (1, 64, .int 0, [(0, .int 1), (1, .int 4), (2, .int 3), (3, .int 2), (4, .int 2), (5, .int 2), (6, .int 2), (7, .int 1), (8, .int 1), (9, .int 1), (10, .int 1), (11, .int 1), (12, .int 1), (13, .int 1), (14, .int 1), (15, .int 1), (16, .int 1), (17, .int 1), (18, .int 1), (19, .int 1), (20, .int 1), (21, .int 1), (22, .int 5), (23, .int 4), (24, .int 3), (25, .int 2), (26, .int 3), (27, .int 2), (28, .int 1), (29, .int 1), (30, .int 1), (31, .int 1), (32, .int 1), (33, .int 1), (34, .int 1), (35, .int 1), (36, .int 1), (37, .int 1), (38, .int 1), (39, .int 1), (40, .int 1), (41, .int 1), (42, .int 1), (43, .int 6), (44, .int 7), (45, .int 5), (46, .int 3), (47, .int 3), (48, .int 3), (49, .int 3), (50, .int 1), (51, .int 1), (52, .int 1), (53, .int 1), (54, .int 1), (55, .int 1), (56, .int 1), (57, .int 1), (58, .int 1), (59, .int 1), (60, .int 1), (61, .int 1), (62, .int 1), (63, .int 1)]), .inr (1, 64, .int 0, [(0, .int 0), (1, .int 1), (5, .int 2), (8, .int 3), (12, .int 4), (14, .int 5), (18, .int 6), (21, .int 7), (24, .int 8), (27, .int 9), (30, .int 10), (33, .int 11), (36, .int 12), (39, .int 13), (42, .int 14), (44, .int 15), (46, .int 16), (48, .int 17), (50, .int 18), (52, .int 19), (54, .int 20), (56, .int 21), (2, .int 22), (6, .int 23), (9, .int 24), (10, .int 25), (15, .int 26), (16, .int 27), (20, .int 28), (23, .int 29), (26, .int 30), (29, .int 31), (32, .int 32), (35, .int 33), (38, .int 34), (41, .int 35), (43, .int 36), (45, .int 37), (47, .int 38), (49, .int 39), (51, .int 40), (53, .int 41), (55, .int 42), (3, .int 43), (4, .int 44), (7, .int 45), (11, .int 46), (13, .int 47), (17, .int 48), (19, .int 49), (22, .int 50), (25, .int 51), (28, .int 52), (31, .int 53), (34, .int 54), (37, .int 55), (40, .int 56), (63, .int 57), (62, .int 58), (61, .int 59), (60, .int 60), (59, .int 61), (58, .int 62), (57, .int 63)]), .inr (6, 2, .null, [(0, .ref 50), (1, .ref 73)]), .inl (3, [.ref 51, .ref 52, .ref 53, .int 0, .ref 54, .ref 55, .ref 56, .ref 65, .ref 67, .ref 69, .ref 70, .ref 71, .ref 72, .int 0, .int 0, .int 0, .int 0]), .inr (1, 256, .int 0, []), .inr (1, 256, .int 0, []), .inr (1, 2048, .int 0, []), .inr (1, 256, .int 0, []), .inr (1, 12, .int 0, []), .inl (8, [.int 0, .int 12, .ref 57, .ref 58, .ref 59, .ref 60, .ref 61, .ref 62, .ref 63, .ref 64, .null, .int 0, .int 0]), .inr (1, 12, .int 0, []), .inr (1, 12, .int 0, []), .inr (1, 12, .int 0, []), .inr (1, 12, .int 0, []), .inr (1, 12, .int 0, []), .inr (1, 64, .int 0, []), .inr (1, 64, .int 0, []), .inr (1, 64, .int 0, []), .inl (7, [.ref 66, .int 0, .int 0, .int 0, .int 0]), .inr (0, 0, .int 0, []), .inl (7, [.ref 68, .int 0, .int 0, .int 0, .int 0]), .inr (0, 0, .int 0, []), .inl (2, [.null, .int 0, .int 0]), .inr (1, 256, .int 0, []), .inr (1, 512, .int 0, []), .inr (1, 512, .int 0, []), .inl (3, [.ref 74, .ref 75, .ref 76, .int 0, .ref 77, .ref 78, .ref 79, .ref 88, .ref 90, .ref 92, .ref 93, .ref 94, .ref 95, .int 0, .int 0, .int 0, .int 0]), .inr (1, 256, .int 0, []), .inr (1, 256, .int 0, []), .inr (1, 2048, .int 0, []), .inr (1, 256, .int 0, []), .inr (1, 12, .int 0, []), .inl (8, [.int 0, .int 12, .ref 80, .ref 81, .ref 82, .ref 83, .ref 84, .ref 85, .ref 86, .ref 87, .null, .int 0, .int 0]), .inr (1, 12, .int 0, []), .inr (1, 12, .int 0, []), .inr (1, 12, .int 0, []), .inr (1, 12, .int 0, []), .inr (1, 12, .int 0, []), .inr (1, 64, .int 0, []), .inr (1, 64, .int 0, []), .inr (1, 64, .int 0, []), .inl (7, [.ref 89, .int 0, .int 0, .int 0, .int 0]), .inr (0, 0, .int 0, []), .inl (7, [.ref 91, .int 0, .int 0, .int 0, .int 0]), .inr (0, 0, .int 0, []), .inl (2, [.null, .int 0, .int 0]), .inr (1, 256, .int 0, []), .inr (1, 512, .int 0, []), .inr (1, 512, .int 0, []), .inr (5, 3, .null, [(0, .ref 97), (1, .ref 106), (2, .ref 115)]), .inl (8, [.int 0, .int 36, .ref 98, .ref 99, .ref 100, .ref 101, .ref 102, .ref 103, .ref 104, .ref 105, .null, .int 0, .int 0]), .inr (1, 36, .int 0, []), .inr (1, 36, .int 0, []), .inr (1, 36, .int 0, []), .inr (1, 36, .int 0, []), .inr (1, 36, .int 0, []), .inr (1, 512, .int 0, []), .inr (1, 512, .int 0, []), .inr (1, 512, .int 0, []), .inl (8, [.int 0, .int 32, .ref 107, .ref 108, .ref 109, .ref 110, .ref 111, .ref 112, .ref 113, .ref 114, .null, .int 0, .int 0]), .inr (1, 32, .int 0, []), .inr (1, 32, .int 0, []), .inr (1, 32, .int 0, []), .inr (1, 32, .int 0, []), .inr (1, 32, .int 0, []), .inr (1, 256, .int 0, []), .inr (1, 256, .int 0, []), .inr (1, 256, .int 0, []), .inl (8, [.int 0, .int 53, .ref 116, .ref 117, .ref 118, .ref 119, .ref 120, .ref 121, .ref 122, .ref 123, .null, .int 0, .int 0]), .inr (1, 53, .int 0, []), .inr (1, 53, .int 0, []), .inr (1, 53, .int 0, []), .inr (1, 53, .int 0, []), .inr (1, 53, .int 0, []), .inr (1, 512, .int 0, []), .inr (1, 512, .int 0, []), .inr (1, 512, .int 0, []), .inr (5, 3, .null, [(0, .ref 125), (1, .ref 134), (2, .ref 143)]), .inl (8, [.int 0, .int 36, .ref 126, .ref 127, .ref 128, .ref 129, .ref 130, .ref 131, .ref 132, .ref 133, .null, .int 0, .int 0]), .inr (1, 36, .int 0, []), .inr (1, 36, .int 0, []), .inr (1, 36, .int 0, []), .inr (1, 36, .int 0, []), .inr (1, 36, .int 0, []), .inr (1, 512, .int 0, []), .inr (1, 512, .int 0, []), .inr (1, 512, .int 0, []), .inl (8, [.int 0, .int 32, .ref 135, .ref 136, .ref 137, .ref 138, .ref 139, .ref 140, .ref 141, .ref 142, .null, .int 0, .int 0]), .inr (1, 32, .int 0, []), .inr (1, 32, .int 0, []), .inr (1, 32, .int 0, []), .inr (1, 32, .int 0, []), .inr (1, 32, .int 0, []), .inr (1, 256, .int 0, []), .inr (1, 256, .int 0, []), .inr (1, 256, .int 0, []), .inl (8, [.int 0, .int 53, .ref 144, .ref 145, .ref 146, .ref 147, .ref 148, .ref 149, .ref 150, .ref 151, .null, .int 0, .int 0]), .inr (1, 53, .int 0, []), .inr (1, 53, .int 0, []), .inr (1, 53, .int 0, []), .inr (1, 53, .int 0, []), .inr (1, 53, .int 0, []), .inr (1, 512, .int 0, []), .inr (1, 512, .int 0, []), .inr (1, 512, .int 0, []), .inl (9, [.null, .ref 153, .ref 154]), .inr (5, 3, .null, []), .inr (2, 3, .long 0, [(0, .long 1), (1, .long 4), (2, .long 8)]), .inl (9, [.null, .ref 156, .ref 157]), .inr (5, 3, .null, []), .inr (2, 3, .long 0, [(0, .long 1), (1, .long 4), (2, .long 8)]), .inl (7, [.ref 159, .int 0, .int 0, .int 0, .int 0]), .inr (0, 0, .int 0, []), .inl (7, [.ref 161, .int 0, .int 0, .int 0, .int 0]), .inr (0, 0, .int 0, []), .inl (7, [.ref 163, .int 0, .int 0, .int 0, .int 0]), .inr (0, 0, .int 0, []), .inr (1, 256, .int 0, []), .inr (1, 53, .int 0, []), .inr (7, 3, .null, [(0, .ref 167), (1, .ref 168), (2, .ref 169)]), .inr (1, 0, .int 0, []), .inr (1, 0, .int 0, []), .inr (1, 0, .int 0, []), .inr (1, 0, .int 0, []), .inr (1, 3, .int 0, []), .inr (1, 13, .int 0, [])]
theorem ev_pacFK : mrun 21561 4 39 0 (rargs 0 [.ref 11]) [] (mstat ++ [.inl (0, fl_pacFK)]) 0 0 = some (some (.ref 12), mstat ++ ml_pacFK, 161, 19298) := meq_of (by decide +kernel)
def fl_unp : List Value := [.ref 1000, .ref 1001, .ref 1002, .ref 1003, .ref 1004, .ref 1005, .ref 1006, .retAddr 7, .retAddr 8, .retAddr 9, .ref 1010, .retAddr 11, .null, .ref 1013, .ref 1014, .ref 1015, .ref 1016, .float 17, .float 18]
def ml_unp : rS := [.inl (0, [.ref 1000, .ref 1001, .ref 1002, .ref 1003, .ref 1004, .ref 1005, .ref 1006, .retAddr 7, .retAddr 8, .retAddr 9, .ref 1010, .retAddr 11, .ref 12, .ref 1013, .ref 1014, .ref 1015, .ref 1016, .float 17, .float 18]), .inl (12, [.ref 1010, .ref 13, .ref 36, .ref 64, .ref 67, .ref 69, .ref 70, .null, .int 0, .int 0, .null, .int 0, .null, .null, .int 0, .long 0, .int 0, .int 0, .int 0, .int 0, .int 0, .int 0]), .inl (3, [.ref 14, .ref 15, .ref 16, .int 0, .ref 17, .ref 18, .ref 19, .ref 28, .ref 30, .ref 32, .ref 33, .ref 34, .ref 35, .int 0, .int 0, .int 0, .int 0]), .inr (1, 256, .int 0, []), .inr (1, 256, .int 0, []), .inr (1, 2048, .int 0, []), .inr (1, 256, .int 0, []), .inr (1, 12, .int 0, []), .inl (8, [.int 0, .int 12, .ref 20, .ref 21, .ref 22, .ref 23, .ref 24, .ref 25, .ref 26, .ref 27, .null, .int 0, .int 0]), .inr (1, 12, .int 0, []), .inr (1, 12, .int 0, []), .inr (1, 12, .int 0, []), .inr (1, 12, .int 0, []), .inr (1, 12, .int 0, []), .inr (1, 64, .int 0, []), .inr (1, 64, .int 0, []), .inr (1, 64, .int 0, []), .inl (7, [.ref 29, .int 0, .int 0, .int 0, .int 0]), .inr (0, 0, .int 0, []), .inl (7, [.ref 31, .int 0, .int 0, .int 0, .int 0]), .inr (0, 0, .int 0, []), .inl (2, [.null, .int 0, .int 0]), .inr (1, 256, .int 0, []), .inr (1, 512, .int 0, []), .inr (1, 512, .int 0, []), .inr (5, 3, .null, [(0, .ref 37), (1, .ref 46), (2, .ref 55)]), .inl (8, [.int 0, .int 36, .ref 38, .ref 39, .ref 40, .ref 41, .ref 42, .ref 43, .ref 44, .ref 45, .null, .int 0, .int 0]), .inr (1, 36, .int 0, []), .inr (1, 36, .int 0, []), .inr (1, 36, .int 0, []), .inr (1, 36, .int 0, []), .inr (1, 36, .int 0, []), .inr (1, 512, .int 0, []), .inr (1, 512, .int 0, []), .inr (1, 512, .int 0, []), .inl (8, [.int 0, .int 32, .ref 47, .ref 48, .ref 49, .ref 50, .ref 51, .ref 52, .ref 53, .ref 54, .null, .int 0, .int 0]), .inr (1, 32, .int 0, []), .inr (1, 32, .int 0, []), .inr (1, 32, .int 0, []), .inr (1, 32, .int 0, []), .inr (1, 32, .int 0, []), .inr (1, 256, .int 0, []), .inr (1, 256, .int 0, []), .inr (1, 256, .int 0, []), .inl (8, [.int 0, .int 53, .ref 56, .ref 57, .ref 58, .ref 59, .ref 60, .ref 61, .ref 62, .ref 63, .null, .int 0, .int 0]), .inr (1, 53, .int 0, []), .inr (1, 53, .int 0, []), .inr (1, 53, .int 0, []), .inr (1, 53, .int 0, []), .inr (1, 53, .int 0, []), .inr (1, 512, .int 0, []), .inr (1, 512, .int 0, []), .inr (1, 512, .int 0, []), .inl (9, [.null, .ref 65, .ref 66]), .inr (5, 3, .null, []), .inr (2, 3, .long 0, [(0, .long 1), (1, .long 4), (2, .long 8)]), .inl (7, [.ref 68, .int 0, .int 0, .int 0, .int 0]), .inr (0, 0, .int 0, []), .inl (2, [.null, .int 0, .int 0]), .inr (1, 3, .int 0, [])]
theorem ev_unp : mrun 412 4 40 0 (rargs 0 [.ref 11]) [] (mstat ++ [.inl (0, fl_unp)]) 0 0 = some (some (.ref 12), mstat ++ ml_unp, 59, 8932) := meq_of (by decide +kernel)
def fl_unpK : List Value := [.ref 1000, .ref 1001, .ref 1002, .ref 1003, .ref 1004, .ref 1005, .ref 1006, .retAddr 7, .retAddr 8, .retAddr 9, .null, .retAddr 11, .null, .ref 1013, .ref 1014, .ref 1015, .ref 1016, .float 17, .float 18]
def ml_unpK : rS := [.inl (0, [.ref 1000, .ref 1001, .ref 1002, .ref 1003, .ref 1004, .ref 1005, .ref 1006, .retAddr 7, .retAddr 8, .retAddr 9, .ref 13, .retAddr 11, .ref 12, .ref 1013, .ref 1014, .ref 1015, .ref 1016, .float 17, .float 18]), .inl (12, [.ref 13, .ref 41, .ref 64, .ref 92, .ref 95, .ref 97, .ref 98, .null, .int 0, .int 0, .null, .int 0, .null, .null, .int 0, .long 0, .int 0, .int 0, .int 0, .int 0, .int 0, .int 0]), .inr (5, 3, .null, [(0, .ref 14), (1, .ref 23), (2, .ref 32)]), .inl (8, [.int 6, .int 36, .ref 15, .ref 16, .ref 17, .ref 18, .ref 19, .ref 20, .ref 21, .ref 22, .null, .int 0, .int 0]), .inr (1, 36, .int 0, [(0, .int 4), (1, .int 3), (2, .int 2), (3, .int 2), (4, .int 2), (5, .int 2), (6, .int 2), (7, .int 2), (8, .int 2), (9, .int 2), (10, .int 2), (11, .int 2), (12, .int 2), (13, .int 1), (14, .int 1), (15, .int 1), (16, .int 2), (17, .int 2), (18, .int 2), (19, .int 2), (20, .int 2), (21, .int 2), (22, .int 2), (23, .int 2), (24, .int 2), (25, .int 3), (26, .int 2), (27, .int 1), (28, .int 1), (29, .int 1), (30, .int 1), (31, .int 1), (32, .int (-1)), (33, .int (-1)), (34, .int (-1)), (35, .int (-1))]), .inr (1, 36, .int 0, [(0, .int 4), (1, .int 3), (2, .int 2), (3, .int 2), (4, .int 2), (5, .int 2), (6, .int 2), (7, .int 2), (8, .int 2), (9, .int 2), (10, .int 2), (11, .int 2), (12, .int 2), (13, .int 1), (14, .int 1), (15, .int 1), (16, .int 2), (17, .int 2), (18, .int 2), (19, .int 2), (20, .int 2), (21, .int 2), (22, .int 2), (23, .int 2), (24, .int 2), (25, .int 3), (26, .int 2), (27, .int 1), (28, .int 1), (29, .int 1), (30, .int 1), (31, .int 1), (32, .int 1), (33, .int 1), (34, .int 1), (35, .int 1)]), .inr (1, 36, .int 0, [(0, .int 4), (1, .int 5), (2, .int 5), (3, .int 5), (4, .int 5), (5, .int 5), (6, .int 5), (7, .int 5), (8, .int 5), (9, .int 5), (10, .int 5), (11, .int 5), (12, .int 5), (13, .int 6), (14, .int 6), (15, .int 6), (16, .int 5), (17, .int 5), (18, .int 5), (19, .int 5), (20, .int 5), (21, .int 5), (22, .int 5), (23, .int 5), (24, .int 5), (25, .int 5), (26, .int 5), (27, .int 6), (28, .int 6), (29, .int 6), (30, .int 6), (31, .int 6), (32, .int 6), (33, .int 6), (34, .int 6), (35, .int 6)]), .inr (1, 36, .int 0, [(0, .int 0), (1, .int 4), (2, .int 7), (3, .int 9), (4, .int 11), (5, .int 13), (6, .int 15), (7, .int 17), (8, .int 19), (9, .int 21), (10, .int 23), (11, .int 25), (12, .int 27), (13, .int 29), (14, .int 30), (15, .int 31), (16, .int 32), (17, .int 34), (18, .int 36), (19, .int 38), (20, .int 40), (21, .int 42), (22, .int 44), (23, .int 46), (24, .int 48), (25, .int 50), (26, .int 53), (27, .int 55), (28, .int 56), (29, .int 57), (30, .int 58), (31, .int 59), (32, .int 60), (33, .int 61), (34, .int 62), (35, .int 63)]), .inr (1, 36, .int 0, [(0, .int 4), (1, .int 3), (2, .int 2), (3, .int 2), (4, .int 2), (5, .int 2), (6, .int 2), (7, .int 2), (8, .int 2), (9, .int 2), (10, .int 2), (11, .int 2), (12, .int 2), (13, .int 1), (14, .int 1), (15, .int 1), (16, .int 2), (17, .int 2), (18, .int 2), (19, .int 2), (20, .int 2), (21, .int 2), (22, .int 2), (23, .int 2), (24, .int 2), (25, .int 3), (26, .int 2), (27, .int 1), (28, .int 1), (29, .int 1), (30, .int 1), (31, .int 1), (32, .int 1), (33, .int 1), (34, .int 1), (35, .int 1)]), .inr (1, 64, .int 0, [(63, .int 32), (62, .int 33), (61, .int 34), (60, .int 35), (0, .int 0), (43, .int 0), (22, .int 0), (1, .int 0), (44, .int 1), (23, .int 1), (2, .int 1), (45, .int 2), (24, .int 2), (3, .int 3), (46, .int 3), (25, .int 4), (4, .int 4), (47, .int 5), (26, .int 5), (5, .int 6), (48, .int 6), (27, .int 7), (6, .int 7), (49, .int 8), (28, .int 8), (7, .int 9), (50, .int 9), (29, .int 10), (8, .int 10), (51, .int 11), (30, .int 11), (9, .int 12), (52, .int 12), (31, .int 13), (10, .int 14), (53, .int 15), (32, .int 16), (11, .int 16), (54, .int 17), (33, .int 17), (12, .int 18), (55, .int 18), (34, .int 19), (13, .int 19), (56, .int 20), (35, .int 20), (14, .int 21), (57, .int 21), (36, .int 22), (15, .int 22), (58, .int 23), (37, .int 23), (16, .int 24), (59, .int 24), (38, .int 25), (17, .int 25), (39, .int 25), (18, .int 26), (40, .int 26), (19, .int 27), (41, .int 28), (20, .int 29), (42, .int 30), (21, .int 31)]), .inr (1, 64, .int 0, [(0, .int 4), (1, .int 5), (2, .int 3), (3, .int 2), (4, .int 2), (5, .int 2), (6, .int 2), (7, .int 2), (8, .int 2), (9, .int 2), (10, .int 1), (11, .int 2), (12, .int 2), (13, .int 2), (14, .int 2), (15, .int 2), (16, .int 2), (17, .int 3), (18, .int 2), (19, .int 1), (20, .int 1), (21, .int 1), (22, .int 6), (23, .int 4), (24, .int 2), (25, .int 3), (26, .int 2), (27, .int 3), (28, .int 2), (29, .int 3), (30, .int 2), (31, .int 1), (32, .int 3), (33, .int 2), (34, .int 3), (35, .int 2), (36, .int 3), (37, .int 2), (38, .int 4), (39, .int 5), (40, .int 3), (41, .int 1), (42, .int 1), (43, .int 7), (44, .int 5), (45, .int 3), (46, .int 3), (47, .int 3), (48, .int 3), (49, .int 3), (50, .int 3), (51, .int 3), (52, .int 3), (53, .int 1), (54, .int 3), (55, .int 3), (56, .int 3), (57, .int 3), (58, .int 3), (59, .int 3), (60, .int 1), (61, .int 1), (62, .int 1), (63, .int 1)]), .inr (1, 64, .int 0, [(0, .int 0), (1, .int 1), (4, .int 2), (9, .int 3), (11, .int 4), (15, .int 5), (17, .int 6), (21, .int 7), (23, .int 8), (27, .int 9), (30, .int 10), (32, .int 11), (36, .int 12), (38, .int 13), (42, .int 14), (44, .int 15), (48, .int 16), (50, .int 17), (53, .int 18), (55, .int 19), (57, .int 20), (59, .int 21), (2, .int 22), (5, .int 23), (7, .int 24), (12, .int 25), (13, .int 26), (18, .int 27), (19, .int 28), (24, .int 29), (25, .int 30), (29, .int 31), (33, .int 32), (34, .int 33), (39, .int 34), (40, .int 35), (45, .int 36), (46, .int 37), (51, .int 38), (52, .int 39), (54, .int 40), (56, .int 41), (58, .int 42), (3, .int 43), (6, .int 44), (8, .int 45), (10, .int 46), (14, .int 47), (16, .int 48), (20, .int 49), (22, .int 50), (26, .int 51), (28, .int 52), (31, .int 53), (35, .int 54), (37, .int 55), (41, .int 56), (43, .int 57), (47, .int 58), (49, .int 59), (63, .int 60), (62, .int 61), (61, .int 62), (60, .int 63)]), .inl (8, [.int 5, .int 29, .ref 24, .ref 25, .ref 26, .ref 27, .ref 28, .ref 29, .ref 30, .ref 31, .null, .int 0, .int 0]), .inr (1, 29, .int 0, [(0, .int 1), (1, .int 1), (2, .int 1), (3, .int 1), (4, .int 1), (5, .int 1), (6, .int 2), (7, .int 2), (8, .int 2), (9, .int 1), (10, .int 1), (11, .int 1), (12, .int 1), (13, .int 1), (14, .int 1), (15, .int 1), (16, .int 1), (17, .int 1), (18, .int 1), (19, .int 1), (20, .int 1), (21, .int 1), (22, .int 1), (23, .int 1), (24, .int (-1)), (25, .int (-1)), (26, .int (-1)), (27, .int (-1)), (28, .int (-1))]), .inr (1, 29, .int 0, [(0, .int 1), (1, .int 1), (2, .int 1), (3, .int 1), (4, .int 1), (5, .int 1), (6, .int 2), (7, .int 2), (8, .int 2), (9, .int 1), (10, .int 1), (11, .int 1), (12, .int 1), (13, .int 1), (14, .int 1), (15, .int 1), (16, .int 1), (17, .int 1), (18, .int 1), (19, .int 1), (20, .int 1), (21, .int 1), (22, .int 1), (23, .int 1), (24, .int 1), (25, .int 1), (26, .int 1), (27, .int 1), (28, .int 1)]), .inr (1, 29, .int 0, [(0, .int 5), (1, .int 5), (2, .int 5), (3, .int 5), (4, .int 5), (5, .int 5), (6, .int 4), (7, .int 4), (8, .int 4), (9, .int 5), (10, .int 5), (11, .int 5), (12, .int 5), (13, .int 5), (14, .int 5), (15, .int 5), (16, .int 5), (17, .int 5), (18, .int 5), (19, .int 5), (20, .int 5), (21, .int 5), (22, .int 5), (23, .int 5), (24, .int 5), (25, .int 5), (26, .int 5), (27, .int 5), (28, .int 5)]), .inr (1, 29, .int 0, [(0, .int 0), (1, .int 1), (2, .int 2), (3, .int 3), (4, .int 4), (5, .int 5), (6, .int 6), (7, .int 8), (8, .int 10), (9, .int 12), (10, .int 13), (11, .int 14), (12, .int 15), (13, .int 16), (14, .int 17), (15, .int 18), (16, .int 19), (17, .int 20), (18, .int 21), (19, .int 22), (20, .int 23), (21, .int 24), (22, .int 25), (23, .int 26), (24, .int 27), (25, .int 28), (26, .int 29), (27, .int 30), (28, .int 31)]), .inr (1, 29, .int 0, [(0, .int 1), (1, .int 1), (2, .int 1), (3, .int 1), (4, .int 1), (5, .int 1), (6, .int 2), (7, .int 2), (8, .int 2), (9, .int 1), (10, .int 1), (11, .int 1), (12, .int 1), (13, .int 1), (14, .int 1), (15, .int 1), (16, .int 1), (17, .int 1), (18, .int 1), (19, .int 1), (20, .int 1), (21, .int 1), (22, .int 1), (23, .int 1), (24, .int 1), (25, .int 1), (26, .int 1), (27, .int 1), (28, .int 1)]), .inr (1, 32, .int 0, [(31, .int 24), (30, .int 25), (29, .int 26), (28, .int 27), (27, .int 28), (0, .int 0), (23, .int 1), (14, .int 2), (5, .int 3), (19, .int 4), (10, .int 5), (1, .int 6), (24, .int 6), (15, .int 7), (6, .int 7), (20, .int 8), (11, .int 8), (2, .int 9), (25, .int 10), (16, .int 11), (7, .int 12), (21, .int 13), (12, .int 14), (3, .int 15), (26, .int 16), (17, .int 17), (8, .int 18), (22, .int 19), (13, .int 20), (4, .int 21), (18, .int 22), (9, .int 23)]), .inr (1, 32, .int 0, [(0, .int 1), (1, .int 2), (2, .int 1), (3, .int 1), (4, .int 1), (5, .int 1), (6, .int 2), (7, .int 1), (8, .int 1), (9, .int 1), (10, .int 1), (11, .int 2), (12, .int 1), (13, .int 1), (14, .int 1), (15, .int 3), (16, .int 1), (17, .int 1), (18, .int 1), (19, .int 1), (20, .int 3), (21, .int 1), (22, .int 1), (23, .int 1), (24, .int 3), (25, .int 1), (26, .int 1), (27, .int 1), (28, .int 1), (29, .int 1), (30, .int 1), (31, .int 1)]), .inr (1, 32, .int 0, [(0, .int 0), (6, .int 1), (12, .int 2), (18, .int 3), (24, .int 4), (3, .int 5), (8, .int 6), (15, .int 7), (21, .int 8), (26, .int 9), (5, .int 10), (10, .int 11), (17, .int 12), (23, .int 13), (2, .int 14), (9, .int 15), (14, .int 16), (20, .int 17), (25, .int 18), (4, .int 19), (11, .int 20), (16, .int 21), (22, .int 22), (1, .int 23), (7, .int 24), (13, .int 25), (19, .int 26), (31, .int 27), (30, .int 28), (29, .int 29), (28, .int 30), (27, .int 31)]), .inl (8, [.int 6, .int 53, .ref 33, .ref 34, .ref 35, .ref 36, .ref 37, .ref 38, .ref 39, .ref 40, .null, .int 0, .int 0]), .inr (1, 53, .int 0, [(0, .int 1), (1, .int 4), (2, .int 3), (3, .int 2), (4, .int 2), (5, .int 2), (6, .int 2), (7, .int 2), (8, .int 2), (9, .int 1), (10, .int 1), (11, .int 1), (12, .int 1), (13, .int 1), (14, .int 1), (15, .int 1), (16, .int 1), (17, .int 1), (18, .int 1), (19, .int 1), (20, .int 1), (21, .int 1), (22, .int 1), (23, .int 1), (24, .int 1), (25, .int 1), (26, .int 1), (27, .int 1), (28, .int 1), (29, .int 1), (30, .int 1), (31, .int 1), (32, .int 1), (33, .int 1), (34, .int 1), (35, .int 1), (36, .int 1), (37, .int 1), (38, .int 1), (39, .int 1), (40, .int 1), (41, .int 1), (42, .int 1), (43, .int 1), (44, .int 1), (45, .int 1), (46, .int (-1)), (47, .int (-1)), (48, .int (-1)), (49, .int (-1)), (50, .int (-1)), (51, .int (-1)), (52, .int (-1))]), .inr (1, 53, .int 0, [(0, .int 1), (1, .int 4), (2, .int 3), (3, .int 2), (4, .int 2), (5, .int 2), (6, .int 2), (7, .int 2), (8, .int 2), (9, .int 1), (10, .int 1), (11, .int 1), (12, .int 1), (13, .int 1), (14, .int 1), (15, .int 1), (16, .int 1), (17, .int 1), (18, .int 1), (19, .int 1), (20, .int 1), (21, .int 1), (22, .int 1), (23, .int 1), (24, .int 1), (25, .int 1), (26, .int 1), (27, .int 1), (28, .int 1), (29, .int 1), (30, .int 1), (31, .int 1), (32, .int 1), (33, .int 1), (34, .int 1), (35, .int 1), (36, .int 1), (37, .int 1), (38, .int 1), (39, .int 1), (40, .int 1), (41, .int 1), (42, .int 1), (43, .int 1), (44, .int 1), (45, .int 1), (46, .int 1), (47, .int 1), (48, .int 1), (49, .int 1), (50, .int 1), (51, .int 1), (52, .int 1)]), .inr (1, 53, .int 0, [(0, .int 6), (1, .int 4), (2, .int 5), (3, .int 5), (4, .int 5), (5, .int 5), (6, .int 5), (7, .int 5), (8, .int 5), (9, .int 6), (10, .int 6), (11, .int 6), (12, .int 6), (13, .int 6), (14, .int 6), (15, .int 6), (16, .int 6), (17, .int 6), (18, .int 6), (19, .int 6), (20, .int 6), (21, .int 6), (22, .int 6), (23, .int 6), (24, .int 6), (25, .int 6), (26, .int 6), (27, .int 6), (28, .int 6), (29, .int 6), (30, .int 6), (31, .int 6), (32, .int 6), (33, .int 6), (34, .int 6), (35, .int 6), (36, .int 6), (37, .int 6), (38, .int 6), (39, .int 6), (40, .int 6), (41, .int 6), (42, .int 6), (43, .int 6), (44, .int 6), (45, .int 6), (46, .int 6), (47, .int 6), (48, .int 6), (49, .int 6), (50, .int 6), (51, .int 6), (52, .int 6)]), .inr (1, 53, .int 0, [(0, .int 0), (1, .int 1), (2, .int 5), (3, .int 8), (4, .int 10), (5, .int 12), (6, .int 14), (7, .int 16), (8, .int 18), (9, .int 20), (10, .int 21), (11, .int 22), (12, .int 23), (13, .int 24), (14, .int 25), (15, .int 26), (16, .int 27), (17, .int 28), (18, .int 29), (19, .int 30), (20, .int 31), (21, .int 32), (22, .int 33), (23, .int 34), (24, .int 35), (25, .int 36), (26, .int 37), (27, .int 38), (28, .int 39), (29, .int 40), (30, .int 41), (31, .int 42), (32, .int 43), (33, .int 44), (34, .int 45), (35, .int 46), (36, .int 47), (37, .int 48), (38, .int 49), (39, .int 50), (40, .int 51), (41, .int 52), (42, .int 53), (43, .int 54), (44, .int 55), (45, .int 56), (46, .int 57), (47, .int 58), (48, .int 59), (49, .int 60), (50, .int 61), (51, .int 62), (52, .int 63)]), .inr (1, 53, .int 0, [(0, .int 1), (1, .int 4), (2, .int 3), (3, .int 2), (4, .int 2), (5, .int 2), (6, .int 2), (7, .int 2), (8, .int 2), (9, .int 1), (10, .int 1), (11, .int 1), (12, .int 1), (13, .int 1), (14, .int 1), (15, .int 1), (16, .int 1), (17, .int 1), (18, .int 1), (19, .int 1), (20, .int 1), (21, .int 1), (22, .int 1), (23, .int 1), (24, .int 1), (25, .int 1), (26, .int 1), (27, .int 1), (28, .int 1), (29, .int 1), (30, .int 1), (31, .int 1), (32, .int 1), (33, .int 1), (34, .int 1), (35, .int 1), (36, .int 1), (37, .int 1), (38, .int 1), (39, .int 1), (40, .int 1), (41, .int 1), (42, .int 1), (43, .int 1), (44, .int 1), (45, .int 1), (46, .int 1), (47, .int 1), (48, .int 1), (49, .int 1), (50, .int 1), (51, .int 1), (52, .int 1)]), .inr (1, 64, .int 0, [(63, .int 46), (62, .int 47), (61, .int 48), (60, .int 49), (59, .int 50), (58, .int 51), (57, .int 52), (0, .int 0), (43, .int 1), (22, .int 1), (1, .int 1), (44, .int 1), (23, .int 2), (2, .int 2), (45, .int 2), (24, .int 3), (3, .int 3), (46, .int 4), (25, .int 4), (4, .int 5), (47, .int 5), (26, .int 6), (5, .int 6), (48, .int 7), (27, .int 7), (6, .int 8), (49, .int 8), (28, .int 9), (7, .int 10), (50, .int 11), (29, .int 12), (8, .int 13), (51, .int 14), (30, .int 15), (9, .int 16), (52, .int 17), (31, .int 18), (10, .int 19), (53, .int 20), (32, .int 21), (11, .int 22), (54, .int 23), (33, .int 24), (12, .int 25), (55, .int 26), (34, .int 27), (13, .int 28), (56, .int 29), (35, .int 30), (14, .int 31), (36, .int 32), (15, .int 33), (37, .int 34), (16, .int 35), (38, .int 36), (17, .int 37), (39, .int 38), (18, .int 39), (40, .int 40), (19, .int 41), (41, .int 42), (20, .int 43), (42, .int 44), (21, .int 45)]), .inr (1, 64, .int 0, [(0, .int 1), (1, .int 4), (2, .int 3), (3, .int 2), (4, .int 2), (5, .int 2), (6, .int 2), (7, .int 1), (8, .int 1), (9, .int 1), (10, .int 1), (11, .int 1), (12, .int 1), (13, .int 1), (14, .int 1), (15, .int 1), (16, .int 1), (17, .int 1), (18, .int 1), (19, .int 1), (20, .int 1), (21, .int 1), (22, .int 5), (23, .int 4), (24, .int 3), (25, .int 2), (26, .int 3), (27, .int 2), (28, .int 1), (29, .int 1), (30, .int 1), (31, .int 1), (32, .int 1), (33, .int 1), (34, .int 1), (35, .int 1), (36, .int 1), (37, .int 1), (38, .int 1), (39, .int 1), (40, .int 1), (41, .int 1), (42, .int 1), (43, .int 6), (44, .int 7), (45, .int 5), (46, .int 3), (47, .int 3), (48, .int 3), (49, .int 3), (50, .int 1), (51, .int 1), (52, .int 1), (53, .int 1), (54, .int 1), (55, .int 1), (56, .int 1), (57, .int 1), (58, .int 1), (59, .int 1), (60, .int 1), (61, .int 1), (62, .int 1), (63, .int 1)]), .inr (1, 64, .int 0, [(0, .int 0), (1, .int 1), (5, .int 2), (8, .int 3), (12, .int 4), (14, .int 5), (18, .int 6), (21, .int 7), (24, .int 8), (27, .int 9), (30, .int 10), (33, .int 11), (36, .int 12), (39, .int 13), (42, .int 14), (44, .int 15), (46, .int 16), (48, .int 17), (50, .int 18), (52, .int 19), (54, .int 20), (56, .int 21), (2, .int 22), (6, .int 23), (9, .int 24), (10, .int 25), (15, .int 26), (16, .int 27), (20, .int 28), (23, .int 29), (26, .int 30), (29, .int 31), (32, .int 32), (35, .int 33), (38, .int 34), (41, .int 35), (43, .int 36), (45, .int 37), (47, .int 38), (49, .int 39), (51, .int 40), (53, .int 41), (55, .int 42), (3, .int 43), (4, .int 44), (7, .int 45), (11, .int 46), (13, .int 47), (17, .int 48), (19, .int 49), (22, .int 50), (25, .int 51), (28, .int 52), (31, .int 53), (34, .int 54), (37, .int 55), (40, .int 56), (63, .int 57), (62, .int 58), (61, .int 59), (60, .int 60), (59, .int 61), (58, .int 62), (57, .int 63)]), .inl (3, [.ref 42, .ref 43, .ref 44, .int 0, .ref 45, .ref 46, .ref 47, .ref 56, .ref 58, .ref 60, .ref 61, .ref 62, .ref 63, .int 0, .int 0, .int 0, .int 0]), .inr (1, 256, .int 0, []), .inr (1, 256, .int 0, []), .inr (1, 2048, .int 0, []), .inr (1, 256, .int 0, []), .inr (1, 12, .int 0, []), .inl (8, [.int 0, .int 12, .ref 48, .ref 49, .ref 50, .ref 51, .ref 52, .ref 53, .ref 54, .ref 55, .null, .int 0, .int 0]), .inr (1, 12, .int 0, []), .inr (1, 12, .int 0, []), .inr (1, 12, .int 0, []), .inr (1, 12, .int 0, []), .inr (1, 12, .int 0, []), .inr (1, 64, .int 0, []), .inr (1, 64, .int 0, []), .inr (1, 64, .int 0, []), .inl (7, [.ref 57, .int 0, .int 0, .int 0, .int 0]), .inr (0, 0, .int 0, []), .inl (7, [.ref 59, .int 0, .int 0, .int 0, .int 0]), .inr (0, 0, .int 0, []), .inl (2, [.null, .int 0, .int 0]), .inr (1, 256, .int 0, []), .inr (1, 512, .int 0, []), .inr (1, 512, .int 0, []), .inr (5, 3, .null, [(0, .ref 65), (1, .ref 74), (2, .ref 83)]), .inl (8, [.int 0, .int 36, .ref 66, .ref 67, .ref 68, .ref 69, .ref 70, .ref 71, .ref 72, .ref 73, .null, .int 0, .int 0]), .inr (1, 36, .int 0, []), .inr (1, 36, .int 0, []), .inr (1, 36, .int 0, []), .inr (1, 36, .int 0, []), .inr (1, 36, .int 0, []), .inr (1, 512, .int 0, []), .inr (1, 512, .int 0, []), .inr (1, 512, .int 0, []), .inl (8, [.int 0, .int 32, .ref 75, .ref 76, .ref 77, .ref 78, .ref 79, .ref 80, .ref 81, .ref 82, .null, .int 0, .int 0]), .inr (1, 32, .int 0, []), .inr (1, 32, .int 0, []), .inr (1, 32, .int 0, []), .inr (1, 32, .int 0, []), .inr (1, 32, .int 0, []), .inr (1, 256, .int 0, []), .inr (1, 256, .int 0, []), .inr (1, 256, .int 0, []), .inl (8, [.int 0, .int 53, .ref 84, .ref 85, .ref 86, .ref 87, .ref 88, .ref 89, .ref 90, .ref 91, .null, .int 0, .int 0]), .inr (1, 53, .int 0, []), .inr (1, 53, .int 0, []), .inr (1, 53, .int 0, []), .inr (1, 53, .int 0, []), .inr (1, 53, .int 0, []), .inr (1, 512, .int 0, []), .inr (1, 512, .int 0, []), .inr (1, 512, .int 0, []), .inl (9, [.null, .ref 93, .ref 94]), .inr (5, 3, .null, []), .inr (2, 3, .long 0, [(0, .long 1), (1, .long 4), (2, .long 8)]), .inl (7, [.ref 96, .int 0, .int 0, .int 0, .int 0]), .inr (0, 0, .int 0, []), .inl (2, [.null, .int 0, .int 0]), .inr (1, 3, .int 0, [])]
theorem ev_unpK : mrun 21109 4 40 0 (rargs 0 [.ref 11]) [] (mstat ++ [.inl (0, fl_unpK)]) 0 0 = some (some (.ref 12), mstat ++ ml_unpK, 87, 10044) := meq_of (by decide +kernel)
def fl_par : List Value := [.ref 1000, .ref 1001, .float 2, .null, .null]
def ml_par : rS := [.inl (4, [.ref 1000, .ref 1001, .float 2, .ref 12, .ref 35]), .inl (3, [.ref 13, .ref 14, .ref 15, .int 0, .ref 16, .ref 17, .ref 18, .ref 27, .ref 29, .ref 31, .ref 32, .ref 33, .ref 34, .int 0, .int 0, .int 0, .int 0]), .inr (1, 256, .int 0, []), .inr (1, 256, .int 0, []), .inr (1, 2048, .int 0, []), .inr (1, 256, .int 0, []), .inr (1, 12, .int 0, []), .inl (8, [.int 0, .int 12, .ref 19, .ref 20, .ref 21, .ref 22, .ref 23, .ref 24, .ref 25, .ref 26, .null, .int 0, .int 0]), .inr (1, 12, .int 0, []), .inr (1, 12, .int 0, []), .inr (1, 12, .int 0, []), .inr (1, 12, .int 0, []), .inr (1, 12, .int 0, []), .inr (1, 64, .int 0, []), .inr (1, 64, .int 0, []), .inr (1, 64, .int 0, []), .inl (7, [.ref 28, .int 0, .int 0, .int 0, .int 0]), .inr (0, 0, .int 0, []), .inl (7, [.ref 30, .int 0, .int 0, .int 0, .int 0]), .inr (0, 0, .int 0, []), .inl (2, [.null, .int 0, .int 0]), .inr (1, 256, .int 0, []), .inr (1, 512, .int 0, []), .inr (1, 512, .int 0, []), .inr (5, 3, .null, [(0, .ref 36), (1, .ref 45), (2, .ref 54)]), .inl (8, [.int 0, .int 36, .ref 37, .ref 38, .ref 39, .ref 40, .ref 41, .ref 42, .ref 43, .ref 44, .null, .int 0, .int 0]), .inr (1, 36, .int 0, []), .inr (1, 36, .int 0, []), .inr (1, 36, .int 0, []), .inr (1, 36, .int 0, []), .inr (1, 36, .int 0, []), .inr (1, 512, .int 0, []), .inr (1, 512, .int 0, []), .inr (1, 512, .int 0, []), .inl (8, [.int 0, .int 32, .ref 46, .ref 47, .ref 48, .ref 49, .ref 50, .ref 51, .ref 52, .ref 53, .null, .int 0, .int 0]), .inr (1, 32, .int 0, []), .inr (1, 32, .int 0, []), .inr (1, 32, .int 0, []), .inr (1, 32, .int 0, []), .inr (1, 32, .int 0, []), .inr (1, 256, .int 0, []), .inr (1, 256, .int 0, []), .inr (1, 256, .int 0, []), .inl (8, [.int 0, .int 53, .ref 55, .ref 56, .ref 57, .ref 58, .ref 59, .ref 60, .ref 61, .ref 62, .null, .int 0, .int 0]), .inr (1, 53, .int 0, []), .inr (1, 53, .int 0, []), .inr (1, 53, .int 0, []), .inr (1, 53, .int 0, []), .inr (1, 53, .int 0, []), .inr (1, 512, .int 0, []), .inr (1, 512, .int 0, []), .inr (1, 512, .int 0, [])]
theorem ev_par : mrun 339 3 116 0 (rargs 0 [.ref 11]) [] (mstat ++ [.inl (4, fl_par)]) 0 0 = some (none, mstat ++ ml_par, 51, 8890) := meq_of (by decide +kernel)


end
section
/-! R1.cls -/
abbrev V24 : vV := []
theorem C24 {σE : rS} {D N : Nat → Nat} {F : hF} {A : hA} {d c s : Nat} {Q : wQ} (H : HW V24 σE D N F A) {a1 : Int} (h0 : inr (a1)) (k : ∀ (z : Int) (σ : rS) (Fₚ : hF) (Aₚ : hA), HW V24 σ D N Fₚ Aₚ → OUT (V24).length D N σE c s D N σ c s → SF [] F Fₚ → SA [] A Aₚ → ((z) = 0 ∨ (z) = 1) → ((z) = 1 ∧ 0 ≤ (a1) ∧ (a1) ≤ 3 ∨ (z) = 0) → Q (some (I z)) σ c s) : Ew 24 (d + 0) 0 (rargs 0 [I a1]) [] σE c s Q := by
  have O := OUT_refl (n := (V24).length) (D := D) (N := N) (σ := σE) (c := c) (s := s)
  have HE := H
  refine Ew_of (pcₚ := 1) (fun _ => x_iload_n rfl rfl) ?_
  refine w_iflt (t := 13) rfl rfl (show inr (a1) from h0) (fun b1 => ?_) (fun b1 => ?_)
  · refine Ew_of (pcₚ := 14) (fun _ => x_iconst rfl) ?_
    exact w_ireturn rfl (k (0) _ _ _ H O (SF_refl) (SA_refl) (show (0) = 0 ∨ (0) = 1 by first | exact q_45 | omega) (show (0) = 1 ∧ 0 ≤ a1 ∧ a1 ≤ 3 ∨ (0) = 0 by first | exact q_4710 | omega))
  · refine Ew_of (pcₚ := 5) (fun _ => x_iload_n rfl rfl) ?_
    refine Ew_of (pcₚ := 6) (fun _ => x_iconst rfl) ?_
    refine w_icmpgt (t := 13) rfl rfl (show inr (a1) from h0) (show inr (3) from q_246) (fun b2 => ?_) (fun b2 => ?_)
    · refine Ew_of (pcₚ := 14) (fun _ => x_iconst rfl) ?_
      exact w_ireturn rfl (k (0) _ _ _ H O (SF_refl) (SA_refl) (show (0) = 0 ∨ (0) = 1 by first | exact q_45 | omega) (show (0) = 1 ∧ 0 ≤ a1 ∧ a1 ≤ 3 ∨ (0) = 0 by first | exact q_4710 | omega))
    · refine Ew_of (pcₚ := 10) (fun _ => x_iconst rfl) ?_
      refine Ew_of (pcₚ := 14) (fun _ => x_goto rfl rfl) ?_
      exact w_ireturn rfl (k (1) _ _ _ H O (SF_refl) (SA_refl) (show (1) = 0 ∨ (1) = 1 by first | exact q_49 | omega) (show (1) = 1 ∧ 0 ≤ a1 ∧ a1 ≤ 3 ∨ (1) = 0 by first | exact q_4711 b1 b2 | omega))
abbrev V25 : vV := []
abbrev V26 : vV := []

end
