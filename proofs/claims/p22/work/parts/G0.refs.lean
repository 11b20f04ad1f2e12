/-! references that arrays hold, null -/
section REFX
variable {P : rP} {μ d pc c s : Nat} {ls : rO} {st : List Value} {σ : rS} {r : rT} {len : Nat} {act : rA}
theorem x_aaload {a N x t : Nat} {dv v : Value} {ov : rO} {j : Int32} (hf : P.1 μ pc = some (.aaload, len, act)) (hc : rat σ a = some (.inr (t, N, dv, ov))) (ht : (Nat.ble 4 t && Nat.blt t 8) = true) (hj : decide (j < 0) = false) (hx : j.toNatClampNeg = x) (hlt : x < N) (hv : rlk ov dv x = v) (hr : risR v = true) (h : Ev P μ d (pc + 1) ls (v :: st) σ c s r) : Ev P μ d pc ls (.int j :: .ref a :: st) σ c s r := by
  subst hv
  obtain ⟨n0, h⟩ := h
  refine Ev_of hf (n0 := n0) (fun n hn => ?_)
  show ralq σ (.ref a) (.int j) (fun v => rn (pc + 1) (fun pcₚ => rrun P n μ d pcₚ ls (v :: st) σ 0 [] c s)) = _
  unfold ralq
  rw [rplace_eq hc hj hx hlt]
  show (match Nat.ble 4 t && Nat.blt t 8 with | true => (match risR (rlk ov dv x) with | true => _ | false => _) | false => _) = _
  rw [ht]
  show (match risR (rlk ov dv x) with | true => _ | false => _) = _
  rw [hr]
  show rn (pc + 1) _ = _
  rw [rn_eq]
  exact h n hn
theorem x_aastore {a N x t : Nat} {dv v : Value} {ov : rO} {j : Int32} (hf : P.1 μ pc = some (.aastore, len, act)) (hc : rat σ a = some (.inr (t, N, dv, ov))) (ht : (Nat.ble 4 t && Nat.blt t 7) = true) (hj : decide (j < 0) = false) (hx : j.toNatClampNeg = x) (hlt : x < N) (hB : P.2.2.2.2.2.2.1 ≤ a) (hk : rkin P.2.2.2.2.2.1 σ t v = true) (h : Ev P μ d (pc + 1) ls st (rstl σ a (.inr (t, N, dv, rup ov x v))) c s r) : Ev P μ d pc ls (v :: .int j :: .ref a :: st) σ c s r := by
  obtain ⟨n0, h⟩ := h
  refine Ev_of hf (n0 := n0) (fun n hn => ?_)
  show rasq P.2.2.2.2.2.1 P.2.2.2.2.2.2.1 σ (.ref a) (.int j) v (fun σ => rn (pc + 1) (fun pcₚ => rrun P n μ d pcₚ ls st σ 0 [] c s)) = _
  unfold rasq
  rw [rplace_eq hc hj hx hlt]
  show (match Nat.ble 4 t && (Nat.blt t 7 && (Nat.ble P.2.2.2.2.2.2.1 a && rkin P.2.2.2.2.2.1 σ t v)) with | true => _ | false => _) = _
  rw [show Nat.ble P.2.2.2.2.2.2.1 a = true from Nat.ble_eq.mpr hB, hk, show (Nat.ble 4 t && (Nat.blt t 7 && (true && true))) = (Nat.ble 4 t && Nat.blt t 7) by cases Nat.ble 4 t <;> cases Nat.blt t 7 <;> rfl, ht]
  show rn (pc + 1) _ = _
  rw [rn_eq]
  exact h n hn
end REFX
theorem va4 {t : Nat} {z : Int} (h : Nat.ble 4 t = true) : va t z = if z < 0 then .null else .ref z.toNat := by
  have := Nat.le_of_ble_eq_true h
  obtain ⟨k, rfl⟩ : ∃ k, t = k + 4 := ⟨t - 4, by omega⟩
  rfl
theorem arng4 {t : Nat} {z : Int} (h : Nat.ble 4 t = true) : arng t z = (-1 ≤ z) := by
  have := Nat.le_of_ble_eq_true h
  obtain ⟨k, rfl⟩ : ∃ k, t = k + 4 := ⟨t - 4, by omega⟩
  rfl
section VREF
variable {V : vV} {σ : rS} {D N : Nat → Nat} {F : hF} {A : hA} {μ d pc c s : Nat} {ls : rO} {st : List Value} {Q : wQ} {len : Nat} {act : rA}
theorem v_null (hf : PP.1 μ pc = some (.aconst_null, len, act)) (h : Ew μ d (pc + 1) ls (.null :: st) σ c s Q) : Ew μ d pc ls st σ c s Q := Ew_of (fun _ e => x_null hf e) h
/-- a reference out of an array: z is its place, -1 is null -/
theorem v_lR (H : HW V σ D N F A) {o : Nat} {j n z : Int} {v : Value} (hf : PP.1 μ pc = some (.aaload, len, act)) (ho : Nat.blt o V.length = true) (ha : varr V o = true) (hk : Nat.ble 4 (vak V o) = true) (hk8 : Nat.blt (vak V o) 8 = true) (hn : (N o : Int) = n) (h0 : 0 ≤ j ∧ j < n) (hz : A o j = z) (hv : (if z < 0 then Value.null else .ref z.toNat) = v) (h : Ew μ d (pc + 1) ls (v :: st) σ c s Q) : Ew μ d pc ls (I j :: .ref (D o) :: st) σ c s Q := by
  obtain ⟨dv, ov, q1, q2⟩ := H.arr o (blt_of ho) ha
  have hl := H.nle o (blt_of ho)
  subst hz hv
  refine Ew_of (fun _ e => x_aaload hf q1 (by rw [hk, hk8]; rfl) (ofI_nn h0.1 (by omega)) (ofI_nat h0.1 (by omega)) (by omega) ?_ ?_ e) h
  · rw [q2, Int.toNat_of_nonneg h0.1, va4 hk]
  · by_cases w : A o j < 0
    · rw [if_pos w]; rfl
    · rw [if_neg w]; rfl
theorem v_sR (H : HW V σ D N F A) {o : Nat} {j n z : Int} {v : Value} (hf : PP.1 μ pc = some (.aastore, len, act)) (ho : Nat.blt o V.length = true) (ha : varr V o = true) (hk : Nat.ble 4 (vak V o) = true) (hk7 : Nat.blt (vak V o) 7 = true) (hn : (N o : Int) = n) (h0 : 0 ≤ j ∧ j < n) (hz : -1 ≤ z) (hv : (if z < 0 then Value.null else .ref z.toNat) = v) (hc : rkin PP.2.2.2.2.2.1 σ (vak V o) v = true)
    (h : ∀ σₚ, HW V σₚ D N F (updA A o j z) → OUT V.length D N σ c s D N σₚ c s → Ew μ d (pc + 1) ls st σₚ c s Q) : Ew μ d pc ls (v :: I j :: .ref (D o) :: st) σ c s Q := by
  obtain ⟨dv, ov, q1, q2⟩ := H.arr o (blt_of ho) ha
  have hl := H.nle o (blt_of ho)
  have e := HW_sto H (j := j.toNat) (z := z) (blt_of ho) ha (by rw [arng4 hk]; exact hz) q1 q2
  have e2 := OUT_set (D := D) (N := N) (σ := σ) (c := c) (s := s) (q := .inr (vak V o, N o, dv, rup ov j.toNat (va (vak V o) z))) (blt_of ho)
  rw [Int.toNat_of_nonneg h0.1] at e
  obtain ⟨v', σₚ, cₚ, sₚ, h, q⟩ := h _ e e2
  rw [va4 hk, hv] at h
  exact ⟨v', σₚ, cₚ, sₚ, x_aastore hf q1 (by rw [hk, hk7]; rfl) (ofI_nn h0.1 (by omega)) (ofI_nat h0.1 (by omega)) (by omega) (H.lo o (blt_of ho)) hc h, q⟩
/-- what is stored is null, or a thing of the right class -/
theorem rkinN {t : Nat} : rkin PP.2.2.2.2.2.1 σ t .null = true := rfl
theorem rkinR (H : HW V σ D N F A) {x t : Nat} (hx : Nat.blt x V.length = true) (ha : varr V x = false) (hc : Nat.beq (vcls V x) (PP.2.2.2.2.2.1 t) = true) : rkin PP.2.2.2.2.2.1 σ t (.ref (D x)) = true := by
  unfold rkin
  simp only [H.obj x (blt_of hx) ha]
  exact hc
end VREF
section VREF2
variable {V : vV} {σ σE : rS} {D N : Nat → Nat} {F FE : hF} {A AE : hA} {c s cₚ sₚ : Nat}
theorem dne (H : HW V σ D N F A) {x y : Nat} (hx : Nat.blt x V.length = true) (hy : Nat.blt y V.length = true) (h : x ≠ y) : Nat.beq (D x) (D y) = false := by
  cases e : Nat.beq (D x) (D y) with
  | false => rfl
  | true => exact absurd (H.inj x y (blt_of hx) (blt_of hy) (Nat.eq_of_beq_eq_true e)) h
theorem dsb (H : HW V σ D N F A) {x : Nat} (hx : Nat.blt x V.length = true) : Nat.ble PP.2.2.2.2.2.2.1 (D x) = true := Nat.ble_eq.mpr (show 12 ≤ D x from H.lo x (blt_of hx))
/-- an object keeps its class -/
theorem rkin_out (HE : HW V σE D N FE AE) (H : HW V σ D N F A) (O : OUT V.length D N σE c s D N σ cₚ sₚ) {t : Nat} {v : Value} (h : rkin PP.2.2.2.2.2.1 σE t v = true) : rkin PP.2.2.2.2.2.1 σ t v = true := by
  cases v with
  | ref b =>
    unfold rkin at h ⊢
    simp only at h ⊢
    by_cases w : ∃ x, x < V.length ∧ D x = b
    · obtain ⟨x, hx, e⟩ := w
      subst e
      cases ha : varr V x with
      | false =>
        rw [HE.obj x hx ha] at h
        rw [H.obj x hx ha]
        exact h
      | true =>
        obtain ⟨dv, ov, q, -⟩ := HE.arr x hx ha
        rw [q] at h
        cases h
    · cases e : rat σE b with
      | none => rw [e] at h; cases h
      | some q =>
        have hl : b < σE.length := by
          rw [rat_eq] at e
          obtain ⟨hl, -⟩ := List.getElem?_eq_some_iff.mp e
          exact hl
        rw [O.1 b hl (fun x hx q => w ⟨x, hx, q⟩)]
        exact h
  | _ => exact h
end VREF2
section KIN
variable {V : vV} {σ : rS} {D N : Nat → Nat} {F : hF} {A : hA} {t : Nat}
def PLV (z : Int) : Value := if z < 0 then .null else .ref z.toNat
theorem kinN {z : Int} (h : z = -1) : rkin PP.2.2.2.2.2.1 σ t (if z < 0 then Value.null else .ref z.toNat) = true := by
  rw [h]; rfl
theorem kinR (H : HW V σ D N F A) {x : Nat} {z : Int} (hx : Nat.blt x V.length = true) (ha : varr V x = false) (hc : Nat.beq (vcls V x) (PP.2.2.2.2.2.1 t) = true) (h : z = (D x : Int)) : rkin PP.2.2.2.2.2.1 σ t (if z < 0 then Value.null else .ref z.toNat) = true := by
  rw [vrf h]
  exact rkinR H hx ha hc
theorem kin3 {K : Int → Prop} {w : Int → Int} (h0 : K (w 0)) (h1 : K (w 1)) (h2 : K (w 2)) : ∀ i, 0 ≤ i → i < 3 → K (w i) := fun i a b => by
  rcases (show i = 0 ∨ i = 1 ∨ i = 2 by omega) with q | q | q
  · rw [q]; exact h0
  · rw [q]; exact h1
  · rw [q]; exact h2
theorem rfitP {z : Int} (h0 : rfit t .null = true) (h1 : ∀ a, rfit t (.ref a) = true) : rfit t (if z < 0 then Value.null else .ref z.toNat) = true := by
  by_cases w : z < 0
  · rw [if_pos w]; exact h0
  · rw [if_neg w]; exact h1 _
end KIN
def SM3 (a b : Int → Int) (k : Int) : Prop := ∀ i, 0 ≤ i → i < k → a i = b i
theorem SM3_s {a b : Int → Int} {k k2 v : Int} (h : SM3 a b k) (e : k2 = k + 1) (hv : v = b k) : SM3 (upd1 a k v) b k2 := fun i x y => by
  by_cases w : i = k
  · subst w; rw [upd1_s]; exact hv
  · rw [upd1_o w]; exact h i x (by omega)
theorem NU_s {t : Int → Int} {k k2 : Int} (h : ∀ i, 0 ≤ i → i < k → t i = -1) (e : k2 = k + 1) : ∀ i, 0 ≤ i → i < k2 → upd1 t k (-1) i = -1 := fun i a b => by
  by_cases w : i = k
  · subst w; exact upd1_s
  · rw [upd1_o w]; exact h i a (by omega)
/-- not for omega's eyes -/
def HID (p : Prop) : Prop := p
theorem HIDm {p : Prop} (h : p) : HID p := h
/-- the sizes of a share, of codes -/
def SHZD (po ma mo sa us sy nu pl sym S G : Int) : Prop := po = sym ∧ ma = sym ∧ mo = sym ∧ sa = sym ∧ us = sym ∧ nu = sy ∧ pl = sy ∧ 1 ≤ sym ∧ sym ≤ 64 ∧ sym = S ∧ sy = G
def CDZD (le co ce we wc od am pa : Int) : Prop := le = 256 ∧ co = 256 ∧ ce = 2048 ∧ we = 256 ∧ wc = 12 ∧ od = 256 ∧ am = 512 ∧ pa = 512
def SZD (po ma mo sa us sy nu pl sym L : Int) : Prop := po = sym ∧ ma = sym ∧ mo = sym ∧ sa = sym ∧ us = sym ∧ nu = sy ∧ pl = sy ∧ p2 L ≤ sy
