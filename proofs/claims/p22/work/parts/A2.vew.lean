/-! rows of instructions over a view -/
theorem ofN (n : Nat) : Int32.ofNat n = Int32.ofInt (n : Int) := by
  first
  | rfl
  | exact (Int32.ofInt_eq_ofNat ..).symm
  | simp
section XV
variable {P : rP} {μ d pc c s : Nat} {ls : rO} {st : List Value} {σ : rS} {r : rT} {len : Nat} {act : rA}
theorem x_alen {a t n : Nat} {dv : Value} {ov : rO} (hf : P.1 μ pc = some (.arraylength, len, act)) (hc : rat σ a = some (.inr (t, n, dv, ov))) (hn : n ≤ 1000000) (ht : t < 8) (h : Ev P μ d (pc + 1) ls (I n :: st) σ c s r) : Ev P μ d pc ls (.ref a :: st) σ c s r := by
  obtain ⟨n0, h⟩ := h
  refine Ev_of hf (n0 := n0) (fun m hm => ?_)
  show (match rat σ a with | some (.inr q) => (match Nat.ble q.2.1 1000000 && Nat.blt q.1 8 with | true => rn (pc + 1) (fun pcₚ => rrun P m μ d pcₚ ls (.int (Int32.ofNat q.2.1) :: st) σ 0 [] c s) | false => none) | _ => none) = _
  rw [hc]
  show (match Nat.ble n 1000000 && Nat.blt t 8 with | true => rn (pc + 1) (fun pcₚ => rrun P m μ d pcₚ ls (.int (Int32.ofNat n) :: st) σ 0 [] c s) | false => none) = _
  rw [show Nat.ble n 1000000 = true from Nat.ble_eq.mpr hn, show Nat.blt t 8 = true from Nat.ble_eq.mpr ht]
  show rn (pc + 1) (fun pcₚ => rrun P m μ d pcₚ ls (.int (Int32.ofNat n) :: st) σ 0 [] c s) = _
  rw [rn_eq, ofN]
  exact h m hm
theorem x_max_t {a b e : Nat} {z : Value} {x y : Int32} (hf : P.1 μ pc = some (.invokestatic a, len, (29, b, e, z))) (hw : Nat.ble (rwords st) 8 = true) (hc : rcmp 2 x y = true) (h : Ev P μ d (pc + 3) ls (.int y :: st) σ c s r) : Ev P μ d pc ls (.int y :: .int x :: st) σ c s r := by
  obtain ⟨n0, h⟩ := h
  refine Ev_of hf (n0 := n0) (fun m hm => ?_)
  show (match Nat.ble (rwords st) 8 with | true => rbr 2 (.int x) (.int y) [] (fun pa => rn (pc + 3) (fun pcₚ => rrun P m μ d pcₚ ls (.int y :: st) σ 0 pa c s)) (fun pa => rn (pc + 3) (fun pcₚ => rrun P m μ d pcₚ ls (.int x :: st) σ 0 pa c s)) | false => none) = _
  rw [hw]
  show (match rcmp 2 x y with | true => rn (pc + 3) (fun pcₚ => rrun P m μ d pcₚ ls (.int y :: st) σ 0 [] c s) | false => rn (pc + 3) (fun pcₚ => rrun P m μ d pcₚ ls (.int x :: st) σ 0 [] c s)) = _
  rw [hc]
  show rn (pc + 3) (fun pcₚ => rrun P m μ d pcₚ ls (.int y :: st) σ 0 [] c s) = _
  rw [rn_eq]
  exact h m hm
theorem x_max_f {a b e : Nat} {z : Value} {x y : Int32} (hf : P.1 μ pc = some (.invokestatic a, len, (29, b, e, z))) (hw : Nat.ble (rwords st) 8 = true) (hc : rcmp 2 x y = false) (h : Ev P μ d (pc + 3) ls (.int x :: st) σ c s r) : Ev P μ d pc ls (.int y :: .int x :: st) σ c s r := by
  obtain ⟨n0, h⟩ := h
  refine Ev_of hf (n0 := n0) (fun m hm => ?_)
  show (match Nat.ble (rwords st) 8 with | true => rbr 2 (.int x) (.int y) [] (fun pa => rn (pc + 3) (fun pcₚ => rrun P m μ d pcₚ ls (.int y :: st) σ 0 pa c s)) (fun pa => rn (pc + 3) (fun pcₚ => rrun P m μ d pcₚ ls (.int x :: st) σ 0 pa c s)) | false => none) = _
  rw [hw]
  show (match rcmp 2 x y with | true => rn (pc + 3) (fun pcₚ => rrun P m μ d pcₚ ls (.int y :: st) σ 0 [] c s) | false => rn (pc + 3) (fun pcₚ => rrun P m μ d pcₚ ls (.int x :: st) σ 0 [] c s)) = _
  rw [hc]
  show rn (pc + 3) (fun pcₚ => rrun P m μ d pcₚ ls (.int x :: st) σ 0 [] c s) = _
  rw [rn_eq]
  exact h m hm
theorem x_min_t {a b e : Nat} {z : Value} {x y : Int32} (hf : P.1 μ pc = some (.invokestatic a, len, (30, b, e, z))) (hw : Nat.ble (rwords st) 8 = true) (hc : rcmp 4 x y = true) (h : Ev P μ d (pc + 3) ls (.int y :: st) σ c s r) : Ev P μ d pc ls (.int y :: .int x :: st) σ c s r := by
  obtain ⟨n0, h⟩ := h
  refine Ev_of hf (n0 := n0) (fun m hm => ?_)
  show (match Nat.ble (rwords st) 8 with | true => rbr 4 (.int x) (.int y) [] (fun pa => rn (pc + 3) (fun pcₚ => rrun P m μ d pcₚ ls (.int y :: st) σ 0 pa c s)) (fun pa => rn (pc + 3) (fun pcₚ => rrun P m μ d pcₚ ls (.int x :: st) σ 0 pa c s)) | false => none) = _
  rw [hw]
  show (match rcmp 4 x y with | true => rn (pc + 3) (fun pcₚ => rrun P m μ d pcₚ ls (.int y :: st) σ 0 [] c s) | false => rn (pc + 3) (fun pcₚ => rrun P m μ d pcₚ ls (.int x :: st) σ 0 [] c s)) = _
  rw [hc]
  show rn (pc + 3) (fun pcₚ => rrun P m μ d pcₚ ls (.int y :: st) σ 0 [] c s) = _
  rw [rn_eq]
  exact h m hm
theorem x_min_f {a b e : Nat} {z : Value} {x y : Int32} (hf : P.1 μ pc = some (.invokestatic a, len, (30, b, e, z))) (hw : Nat.ble (rwords st) 8 = true) (hc : rcmp 4 x y = false) (h : Ev P μ d (pc + 3) ls (.int x :: st) σ c s r) : Ev P μ d pc ls (.int y :: .int x :: st) σ c s r := by
  obtain ⟨n0, h⟩ := h
  refine Ev_of hf (n0 := n0) (fun m hm => ?_)
  show (match Nat.ble (rwords st) 8 with | true => rbr 4 (.int x) (.int y) [] (fun pa => rn (pc + 3) (fun pcₚ => rrun P m μ d pcₚ ls (.int y :: st) σ 0 pa c s)) (fun pa => rn (pc + 3) (fun pcₚ => rrun P m μ d pcₚ ls (.int x :: st) σ 0 pa c s)) | false => none) = _
  rw [hw]
  show (match rcmp 4 x y with | true => rn (pc + 3) (fun pcₚ => rrun P m μ d pcₚ ls (.int y :: st) σ 0 [] c s) | false => rn (pc + 3) (fun pcₚ => rrun P m μ d pcₚ ls (.int x :: st) σ 0 [] c s)) = _
  rw [hc]
  show rn (pc + 3) (fun pcₚ => rrun P m μ d pcₚ ls (.int x :: st) σ 0 [] c s) = _
  rw [rn_eq]
  exact h m hm
end XV
section VEW
variable {V : vV} {σ : rS} {D N : Nat → Nat} {F : hF} {A : hA} {μ d pc c s : Nat} {ls : rO} {st : List Value} {Q : wQ} {len : Nat} {act : rA}
theorem v_max {a b e : Nat} {z : Value} {x y : Int} (hf : PP.1 μ pc = some (.invokestatic a, len, (29, b, e, z))) (hw : Nat.ble (rwords st) 8 = true) (hx : inr x) (hy : inr y) (h : ∀ v, (x < y ∧ v = y ∨ ¬ (x < y) ∧ v = x) → Ew μ d (pc + 3) ls (I v :: st) σ c s Q) : Ew μ d pc ls (I y :: I x :: st) σ c s Q := by
  by_cases hc : x < y
  · exact Ew_of (fun _ e => x_max_t hf hw (by have := rcmp_lt hx hy; exact this.trans (decide_eq_true hc)) e) (h y (.inl ⟨hc, rfl⟩))
  · exact Ew_of (fun _ e => x_max_f hf hw (by have := rcmp_lt hx hy; exact this.trans (decide_eq_false hc)) e) (h x (.inr ⟨hc, rfl⟩))
theorem v_min {a b e : Nat} {z : Value} {x y : Int} (hf : PP.1 μ pc = some (.invokestatic a, len, (30, b, e, z))) (hw : Nat.ble (rwords st) 8 = true) (hx : inr x) (hy : inr y) (h : ∀ v, (y < x ∧ v = y ∨ ¬ (y < x) ∧ v = x) → Ew μ d (pc + 3) ls (I v :: st) σ c s Q) : Ew μ d pc ls (I y :: I x :: st) σ c s Q := by
  by_cases hc : y < x
  · exact Ew_of (fun _ e => x_min_t hf hw (by have := rcmp_gt hx hy; exact this.trans (decide_eq_true hc)) e) (h y (.inl ⟨hc, rfl⟩))
  · exact Ew_of (fun _ e => x_min_f hf hw (by have := rcmp_gt hx hy; exact this.trans (decide_eq_false hc)) e) (h x (.inr ⟨hc, rfl⟩))
theorem blt_of {a b : Nat} (h : Nat.blt a b = true) : a < b := Nat.le_of_ble_eq_true h
theorem v_g (H : HW V σ D N F A) {x q ci k o : Nat} {z v : Value} (hf : PP.1 μ pc = some (.getfield x, len, (q, ci, k, z))) (ho : Nat.blt o V.length = true) (ha : varr V o = false) (hc : vcls V o = ci) (hk : Nat.blt k (vnf V o) = true) (hv : vf D (vfd V o k) (F o k) = v) (h : Ew μ d (pc + 3) ls (v :: st) σ c s Q) : Ew μ d pc ls (.ref (D o) :: st) σ c s Q := by
  subst hc
  exact Ew_of (fun _ e => x_getfield hf (H.obj o (blt_of ho) ha) (by rw [rnth_map (blt_of hk), hv]) e) h
theorem v_p (H : HW V σ D N F A) {x q ci k o tag : Nat} {v : Value} {z : Int} (hf : PP.1 μ pc = some (.putfield x, len, (q, ci, k, .ref tag))) (hp : (Nat.blt tag 8 || (Nat.blt tag 16 && PP.2.2.2.1 μ)) = true) (ho : Nat.blt o V.length = true) (ha : varr V o = false) (hc : vcls V o = ci) (hk : Nat.blt k (vnf V o) = true) (hv : vf D (vfd V o k) z = v) (hfit : rfit (tag % 8) v = true) (hr : krng (vfd V o k).1 z)
    (h : ∀ σₚ, HW V σₚ D N (updF F o k z) A → OUT V.length D N σ c s D N σₚ c s → Ew μ d (pc + 3) ls st σₚ c s Q) : Ew μ d pc ls (v :: .ref (D o) :: st) σ c s Q := by
  subst hc hv
  have e := HW_put H (z := z) (k := k) (blt_of ho) ha hr
  obtain ⟨v', σₚ, cₚ, sₚ, h, q⟩ := h _ e (OUT_set (blt_of ho))
  exact ⟨v', σₚ, cₚ, sₚ, x_putfield hf hp (H.obj o (blt_of ho) ha) (by have := blt_of hk; simp; omega) (H.lo o (blt_of ho)) hfit h, q⟩
theorem v_len (H : HW V σ D N F A) {o : Nat} (hf : PP.1 μ pc = some (.arraylength, len, act)) (ho : Nat.blt o V.length = true) (ha : varr V o = true) (hk : Nat.blt (vak V o) 8 = true) {n : Int} (hn : (N o : Int) = n) (h : Ew μ d (pc + 1) ls (I n :: st) σ c s Q) : Ew μ d pc ls (.ref (D o) :: st) σ c s Q := by
  obtain ⟨dv, ov, q1, q2⟩ := H.arr o (blt_of ho) ha
  subst hn
  exact Ew_of (fun _ e => x_alen hf q1 (H.nle o (blt_of ho)) (blt_of hk) e) h
theorem v_lI (H : HW V σ D N F A) {o : Nat} {j n : Int} (hf : PP.1 μ pc = some (.iaload, len, act)) (ho : Nat.blt o V.length = true) (ha : varr V o = true) (hk : vak V o = 1) (hn : (N o : Int) = n) (h0 : 0 ≤ j ∧ j < n) (h : ∀ v, A o j = v → inr v → Ew μ d (pc + 1) ls (I v :: st) σ c s Q) : Ew μ d pc ls (I j :: .ref (D o) :: st) σ c s Q := by
  obtain ⟨dv, ov, q1, q2⟩ := H.arr o (blt_of ho) ha
  have hl := H.nle o (blt_of ho)
  have hr := H.arg o j (blt_of ho) ha
  rw [hk] at q1 hr
  refine Ew_of (fun _ e => x_iaload hf q1 (ofI_nn h0.1 (by omega)) (ofI_nat h0.1 (by omega)) (by omega) (w := Int32.ofInt (A o j)) ?_ e) (h _ rfl hr)
  rw [q2, hk, Int.toNat_of_nonneg h0.1]
  rfl
theorem v_lB (H : HW V σ D N F A) {o : Nat} {j n : Int} (hf : PP.1 μ pc = some (.baload, len, act)) (ho : Nat.blt o V.length = true) (ha : varr V o = true) (hk : vak V o = 0) (hn : (N o : Int) = n) (h0 : 0 ≤ j ∧ j < n) (h : ∀ v, A o j = v → -128 ≤ v ∧ v ≤ 127 → Ew μ d (pc + 1) ls (I v :: st) σ c s Q) : Ew μ d pc ls (I j :: .ref (D o) :: st) σ c s Q := by
  obtain ⟨dv, ov, q1, q2⟩ := H.arr o (blt_of ho) ha
  have hl := H.nle o (blt_of ho)
  have hr := H.arg o j (blt_of ho) ha
  rw [hk] at q1 hr
  refine Ew_of (fun _ e => x_baload hf q1 (ofI_nn h0.1 (by omega)) (ofI_nat h0.1 (by omega)) (by omega) (w := Int32.ofInt (A o j)) ?_ e) (h _ rfl hr)
  rw [q2, hk, Int.toNat_of_nonneg h0.1]
  rfl
theorem v_lJ (H : HW V σ D N F A) {o : Nat} {j n : Int} (hf : PP.1 μ pc = some (.laload, len, act)) (ho : Nat.blt o V.length = true) (ha : varr V o = true) (hk : vak V o = 2) (hn : (N o : Int) = n) (h0 : 0 ≤ j ∧ j < n) (h : ∀ v, A o j = v → inrJ v → Ew μ d (pc + 1) ls (J v :: st) σ c s Q) : Ew μ d pc ls (I j :: .ref (D o) :: st) σ c s Q := by
  obtain ⟨dv, ov, q1, q2⟩ := H.arr o (blt_of ho) ha
  have hl := H.nle o (blt_of ho)
  have hr := H.arg o j (blt_of ho) ha
  rw [hk] at q1 hr
  refine Ew_of (fun _ e => x_laload hf q1 (ofI_nn h0.1 (by omega)) (ofI_nat h0.1 (by omega)) (by omega) (w := Int64.ofInt (A o j)) ?_ e) (h _ rfl hr)
  rw [q2, hk, Int.toNat_of_nonneg h0.1]
  rfl
theorem v_sI (H : HW V σ D N F A) {o : Nat} {j z n : Int} (hf : PP.1 μ pc = some (.iastore, len, act)) (ho : Nat.blt o V.length = true) (ha : varr V o = true) (hk : vak V o = 1) (hn : (N o : Int) = n) (h0 : 0 ≤ j ∧ j < n) (hr : inr z)
    (h : ∀ σₚ, HW V σₚ D N F (updA A o j z) → OUT V.length D N σ c s D N σₚ c s → Ew μ d (pc + 1) ls st σₚ c s Q) : Ew μ d pc ls (I z :: I j :: .ref (D o) :: st) σ c s Q := by
  obtain ⟨dv, ov, q1, q2⟩ := H.arr o (blt_of ho) ha
  have hl := H.nle o (blt_of ho)
  have e := HW_sto H (j := j.toNat) (z := z) (blt_of ho) ha (by rw [hk]; exact hr) q1 q2
  have e2 := OUT_set (D := D) (N := N) (σ := σ) (c := c) (s := s) (q := .inr (vak V o, N o, dv, rup ov j.toNat (va (vak V o) z))) (blt_of ho)
  rw [hk, Int.toNat_of_nonneg h0.1] at e
  rw [hk] at e2
  obtain ⟨v, σₚ, cₚ, sₚ, h, q⟩ := h _ e e2
  rw [hk] at q1
  exact ⟨v, σₚ, cₚ, sₚ, x_iastore hf q1 (ofI_nn h0.1 (by omega)) (ofI_nat h0.1 (by omega)) (by omega) (H.lo o (blt_of ho)) h, q⟩
theorem v_sJ (H : HW V σ D N F A) {o : Nat} {j z n : Int} (hf : PP.1 μ pc = some (.lastore, len, act)) (ho : Nat.blt o V.length = true) (ha : varr V o = true) (hk : vak V o = 2) (hn : (N o : Int) = n) (h0 : 0 ≤ j ∧ j < n) (hr : inrJ z)
    (h : ∀ σₚ, HW V σₚ D N F (updA A o j z) → OUT V.length D N σ c s D N σₚ c s → Ew μ d (pc + 1) ls st σₚ c s Q) : Ew μ d pc ls (J z :: I j :: .ref (D o) :: st) σ c s Q := by
  obtain ⟨dv, ov, q1, q2⟩ := H.arr o (blt_of ho) ha
  have hl := H.nle o (blt_of ho)
  have e := HW_sto H (j := j.toNat) (z := z) (blt_of ho) ha (by rw [hk]; exact hr) q1 q2
  have e2 := OUT_set (D := D) (N := N) (σ := σ) (c := c) (s := s) (q := .inr (vak V o, N o, dv, rup ov j.toNat (va (vak V o) z))) (blt_of ho)
  rw [hk, Int.toNat_of_nonneg h0.1] at e
  rw [hk] at e2
  obtain ⟨v, σₚ, cₚ, sₚ, h, q⟩ := h _ e e2
  rw [hk] at q1
  exact ⟨v, σₚ, cₚ, sₚ, x_lastore hf q1 (ofI_nn h0.1 (by omega)) (ofI_nat h0.1 (by omega)) (by omega) (H.lo o (blt_of ho)) h, q⟩
theorem by_rng (x : Int32) : -128 ≤ (ruop 1 x).toInt ∧ (ruop 1 x).toInt ≤ 127 := by
  show -128 ≤ (x.toInt8.toInt32).toInt ∧ (x.toInt8.toInt32).toInt ≤ 127
  rw [Int8.toInt_toInt32]
  exact ⟨Int8.le_toInt _, by have := Int8.toInt_lt x.toInt8; omega⟩
theorem v_sB (H : HW V σ D N F A) {o : Nat} {j w n : Int} (hf : PP.1 μ pc = some (.bastore, len, act)) (ho : Nat.blt o V.length = true) (ha : varr V o = true) (hk : vak V o = 0) (hn : (N o : Int) = n) (h0 : 0 ≤ j ∧ j < n)
    (h : ∀ z σₚ, -128 ≤ z ∧ z ≤ 127 → HW V σₚ D N F (updA A o j z) → OUT V.length D N σ c s D N σₚ c s → Ew μ d (pc + 1) ls st σₚ c s Q) : Ew μ d pc ls (I w :: I j :: .ref (D o) :: st) σ c s Q := by
  obtain ⟨dv, ov, q1, q2⟩ := H.arr o (blt_of ho) ha
  have hl := H.nle o (blt_of ho)
  have hb := by_rng (Int32.ofInt w)
  have e := HW_sto H (j := j.toNat) (z := (ruop 1 (Int32.ofInt w)).toInt) (blt_of ho) ha (by rw [hk]; exact hb) q1 q2
  have e2 := OUT_set (D := D) (N := N) (σ := σ) (c := c) (s := s) (q := .inr (vak V o, N o, dv, rup ov j.toNat (va (vak V o) (ruop 1 (Int32.ofInt w)).toInt))) (blt_of ho)
  rw [hk, Int.toNat_of_nonneg h0.1] at e
  rw [hk] at e2
  obtain ⟨v, σₚ, cₚ, sₚ, h, q⟩ := h _ _ hb e e2
  rw [hk] at q1
  exact ⟨v, σₚ, cₚ, sₚ, x_bastore hf q1 (ofI_nn h0.1 (by omega)) (ofI_nat h0.1 (by omega)) (by omega) (H.lo o (blt_of ho)) (toI_of _).symm h, q⟩
theorem v_i2b {w : Int} (hf : PP.1 μ pc = some (.i2b, len, act)) (h : ∀ z, -128 ≤ z ∧ z ≤ 127 → Ew μ d (pc + 1) ls (I z :: st) σ c s Q) : Ew μ d pc ls (I w :: st) σ c s Q :=
  Ew_of (fun _ e => x_i2b hf (toI_of _).symm e) (h _ (by_rng (Int32.ofInt w)))
theorem v_inv (H : HW V σ D N F A) {μ' n q x ci o : Nat} {vs rest : List Value} (hf : PP.1 μ pc = some (.invokevirtual x, len, (q, μ', n, .ref ci))) (hq : (Nat.beq q 20 || Nat.beq q 21) = true) (hp : rpopn n [] st = some (vs, .ref (D o) :: rest)) (ho : Nat.blt o V.length = true) (ha : varr V o = false) (hc : vcls V o = ci)
    (hw : (Nat.ble (rwords rest) 8 && Nat.ble (rwords (.ref (D o) :: vs)) (PP.2.1 μ')) = true) (h1 : Ew μ' d 0 (rargs 0 (.ref (D o) :: vs)) [] σ 0 0 (fun v σₚ cₚ sₚ => rretok (PP.2.2.1 μ') v = true ∧ Ew μ (d + 1) (pc + 3) ls (v.toList ++ rest) σₚ (c + cₚ) (s + sₚ) Q)) : Ew μ (d + 1) pc ls st σ c s Q := by
  subst hc
  exact w_callk hf (fun rec => rinvv hq hp (H.obj o (blt_of ho) ha) rec) hw h1
theorem glu_pul {α : Type} {ι : List Nat} {f : Nat → α} : glu ι f (pul ι f) = f := funext fun y => by
  cases h : fnd y ι with
  | none => rw [glu_n h]
  | some x => rw [glu_s h]; show f (ι.getD x 0) = f y; rw [(fnd_lt h).2]
/-- back from a call that moved nothing -/
theorem v_back {W : vV} {ι : List Nat} {σₚ : rS} {Fₚ : hF} {Aₚ : hA} {G : Prop} (H : HW V σ D N F A) (hs : vsub V W ι = true) (Hₚ : HW W σₚ (pul ι D) (pul ι N) Fₚ Aₚ) (O : OUT W.length (pul ι D) (pul ι N) σ 0 0 (pul ι D) (pul ι N) σₚ 0 0)
    (h : ∀ F1 A1, HW V σₚ D N F1 A1 → OUT V.length D N σ c s D N σₚ c s → (∀ y k, F1 y k = glu ι F Fₚ y k) → (∀ y, A1 y = glu ι A Aₚ y) → G) : G := by
  have e := HW_glue (c := c) (s := s) (dl := []) H (VS_of hs) Hₚ O (fun _ _ => rfl) (by
    unfold vmov
    refine List.all_eq_true.mpr (fun y _ => ?_)
    rw [Bool.or_eq_true]
    refine .inr (List.all_eq_true.mpr (fun k _ => ?_))
    show (!(Nat.beq (vfd V y k).1 3) || true) = true
    rw [Bool.or_true])
  rw [glu_pul, glu_pul] at e
  exact h _ _ e.1 e.2 (fun _ _ => rfl) (fun _ => rfl)
/-- back from a call that moved things -/
theorem v_backM {W : vV} {ι dl : List Nat} {σₚ : rS} {Dₚ Nₚ : Nat → Nat} {Fₚ : hF} {Aₚ : hA} {c1 s1 : Nat} {G : Prop} (H : HW V σ D N F A) (hs : vsub V W ι = true) (Hₚ : HW W σₚ Dₚ Nₚ Fₚ Aₚ) (O : OUT W.length (pul ι D) (pul ι N) σ 0 0 Dₚ Nₚ σₚ c1 s1) (hd : SD dl (pul ι D) Dₚ) (hm : vmov V ι dl = true)
    (h : ∀ D1 N1 F1 A1, HW V σₚ D1 N1 F1 A1 → OUT V.length D N σ c s D1 N1 σₚ (c + c1) (s + s1) → (∀ y, D1 y = glu ι D Dₚ y) → (∀ y, N1 y = glu ι N Nₚ y) → (∀ y k, F1 y k = glu ι F Fₚ y k) → (∀ y, A1 y = glu ι A Aₚ y) → G) : G := by
  have e := HW_glue (c := c) (s := s) H (VS_of hs) Hₚ O hd hm
  exact h _ _ _ _ e.1 e.2 (fun _ => rfl) (fun _ => rfl) (fun _ _ => rfl) (fun _ => rfl)
theorem Ew_stk {st' : List Value} (e : st = st') (h : Ew μ d pc ls st' σ c s Q) : Ew μ d pc ls st σ c s Q := e ▸ h
end VEW
