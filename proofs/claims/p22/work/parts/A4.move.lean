/-! an array moves: a field takes a new one -/
def updN (f : Nat → Nat) (t v : Nat) : Nat → Nat := fun x => bif Nat.beq x t then v else f x
theorem updN_s {f : Nat → Nat} {t v : Nat} : updN f t v t = v := by
  unfold updN
  rw [Nat.beq_refl]
  rfl
theorem updN_o {f : Nat → Nat} {t v x : Nat} (h : x ≠ t) : updN f t v x = f x := by
  unfold updN
  rw [beqf h]
  rfl
def updR (A : hA) (t : Nat) (f : Int → Int) : hA := fun x i => bif Nat.beq x t then f i else A x i
theorem updR_s {A : hA} {t : Nat} {f : Int → Int} {i : Int} : updR A t f t i = f i := by
  unfold updR
  rw [Nat.beq_refl]
  rfl
theorem updR_o {A : hA} {t x : Nat} {f : Int → Int} {i : Int} (h : x ≠ t) : updR A t f x i = A x i := by
  unfold updR
  rw [beqf h]
  rfl
/-- nothing but this field refers to the thing -/
def vone (V : vV) (p k t : Nat) : Bool := (List.range V.length).all (fun y => (List.range (vnf V y)).all (fun j => !(Nat.beq (vfd V y j).1 3) || (!(Nat.beq (vfd V y j).2 t) || (Nat.beq y p && Nat.beq j k))))
theorem vone_of {V : vV} {p k t : Nat} (h : vone V p k t = true) {y j : Nat} (hy : y < V.length) (hj : j < vnf V y) (h3 : (vfd V y j).1 = 3) (ht : (vfd V y j).2 = t) : y = p ∧ j = k := by
  unfold vone at h
  have w := List.all_eq_true.mp (List.all_eq_true.mp h y (List.mem_range.mpr hy)) j (List.mem_range.mpr hj)
  rw [h3, ht, Nat.beq_refl, Nat.beq_refl] at w
  have w : (Nat.beq y p && Nat.beq j k) = true := w
  rw [Bool.and_eq_true] at w
  exact ⟨Nat.eq_of_beq_eq_true w.1, Nat.eq_of_beq_eq_true w.2⟩

def v3 (V : vV) (t : Nat) : Bool := (List.range V.length).all (fun y => (List.range (vnf V y)).all (fun j => !(Nat.beq (vfd V y j).1 3) || !(Nat.beq (vfd V y j).2 t)))
theorem v3_of {V : vV} {t : Nat} (h : v3 V t = true) {y j : Nat} (hy : y < V.length) (hj : j < vnf V y) (h3 : (vfd V y j).1 = 3) : (vfd V y j).2 ≠ t := fun ht => by
  unfold v3 at h
  have w := List.all_eq_true.mp (List.all_eq_true.mp h y (List.mem_range.mpr hy)) j (List.mem_range.mpr hj)
  rw [h3, ht, Nat.beq_refl, Nat.beq_refl] at w
  cases w
/-- a thing of the view is from now on what lies at a new place -/
theorem HW_ret {V : vV} {σ : rS} {D N : Nat → Nat} {F : hF} {A : hA} (H : HW V σ D N F A) {t n : Nat} {dv : Value} {ov : rO} {f : Int → Int} (ht : t < V.length) (hta : varr V t = true) (h3 : v3 V t = true) (hn : n ≤ 1000000) (hf : ∀ j : Nat, rlk ov dv j = va (vak V t) (f j)) (hr : ∀ i, arng (vak V t) (f i)) :
    HW V (σ ++ [.inr (vak V t, n, dv, ov)]) (updN D t σ.length) (updN N t n) F (updR A t f) := by
  refine ⟨fun x hx hax => ?_, fun x hx hax => ?_, fun x y hx hy e => ?_, fun x hx => ?_, H.krg, fun x i hx hax => ?_, fun x hx => ?_⟩
  · have hxt : x ≠ t := fun e => by rw [e, hta] at hax; cases hax
    rw [updN_o hxt, rat_app (H.lt hx), H.obj x hx hax]
    unfold vcell
    congr 3
    apply List.map_congr_left
    intro j hj
    have hj := List.mem_range.mp hj
    exact vf_eq rfl (fun h => by rw [updN_o (v3_of h3 hx hj h)])
  · by_cases e : x = t
    · subst e
      rw [updN_s, updN_s]
      exact ⟨dv, ov, rat_new, fun j => by rw [hf]; unfold updR; rw [Nat.beq_refl]; rfl⟩
    · rw [updN_o e, updN_o e, rat_app (H.lt hx)]
      obtain ⟨dv', ov', q1, q2⟩ := H.arr x hx hax
      exact ⟨dv', ov', q1, fun j => by rw [q2, updR_o e]⟩
  · by_cases ex : x = t
    · by_cases ey : y = t
      · rw [ex, ey]
      · rw [ex, updN_s, updN_o ey] at e
        have := H.lt hy
        omega
    · by_cases ey : y = t
      · rw [ey, updN_s, updN_o ex] at e
        have := H.lt hx
        omega
      · rw [updN_o ex, updN_o ey] at e
        exact H.inj x y hx hy e
  · by_cases ex : x = t
    · rw [ex, updN_s]; have := H.lo t ht; have := H.lt ht; omega
    · rw [updN_o ex]; exact H.lo x hx
  · by_cases ex : x = t
    · subst ex; rw [updR_s]; exact hr i
    · rw [updR_o ex]; exact H.arg x i hx hax
  · by_cases ex : x = t
    · rw [ex, updN_s]; exact hn
    · rw [updN_o ex]; exact H.nle x hx
theorem OUT_ret {V : vV} {σ : rS} {D N : Nat → Nat} {t n c s : Nat} {q : rC} (ht : t < V.length) (hC : pC (N t) + 1 ≤ pC n) (hS : pS (N t) + n ≤ pS n) : OUT V.length D N σ c s (updN D t σ.length) (updN N t n) (σ ++ [q]) (c + 1) (s + n) := by
  refine ⟨fun a ha hn => rat_app ha, ?_, fun x hx => ?_, ?_, ?_⟩
  · rw [List.length_append]; omega
  · by_cases e : x = t
    · rw [e, updN_s]; exact .inr (Nat.le_refl _)
    · rw [updN_o e]; exact .inl rfl
  · have := vs_at (g := fun x => pC (updN N t n x)) (h := fun x => pC (N x)) ht (fun y _ e => by rw [updN_o e])
    rw [updN_s] at this
    omega
  · have := vs_at (g := fun x => pS (updN N t n x)) (h := fun x => pS (N x)) ht (fun y _ e => by rw [updN_o e])
    rw [updN_s] at this
    omega
theorem any1 {t x : Nat} (h : [t].any (fun q => Nat.beq q x) = false) : x ≠ t := fun e => by
  subst e
  exact absurd h (by show ¬ ((Nat.beq x x || false) = false); rw [Nat.beq_refl]; decide)
theorem vrf {z : Int} {a : Nat} (h : z = (a : Int)) : (if z < 0 then Value.null else .ref z.toNat) = .ref a := by
  rw [if_neg (by omega), h, Int.toNat_natCast]
theorem vrn {z : Int} (h : z < 0) : (if z < 0 then Value.null else .ref z.toNat) = .null := if_pos h
section VG
variable {V : vV} {σ : rS} {D N : Nat → Nat} {F : hF} {A : hA} {μ d pc c s : Nat} {ls : rO} {st : List Value} {Q : wQ} {len : Nat} {act : rA}
theorem v_growB (H : HW V σ D N F A) {x y q ci2 len2 p k t tag : Nat} {ci : Value} {n : Int} (hf : PP.1 μ pc = some (.invokestatic x, len, (24, 456, 2, ci))) (hw : (Nat.ble (rwords (.ref (D p) :: st)) 8 && Nat.ble (rwords [.ref (D t), I n]) (PP.2.1 456)) = true) (hf2 : PP.1 μ (pc + 3) = some (.putfield y, len2, (q, ci2, k, .ref tag))) (hp : (Nat.blt tag 8 || (Nat.blt tag 16 && PP.2.2.2.1 μ)) = true) (hfit : ∀ v, rfit (tag % 8) (.ref v) = true)
    (ho : Nat.blt p V.length = true) (ha : varr V p = false) (hc : vcls V p = ci2) (hk : Nat.blt k (vnf V p) = true) (hv : ∀ z : Nat, vf D (vfd V p k) z = .ref z) (hkr : (vfd V p k).1 = 4) (ht : Nat.blt t V.length = true) (hta : varr V t = true) (htk : vak V t = 0) (h3 : v3 V t = true) (hpt : Nat.beq p t = false) {m : Int} (hm : (N t : Int) = m) (hn : m < n ∧ n ≤ 1000000) (hC : pC m.toNat + 1 ≤ pC n.toNat) (hS : pS m.toNat + n ≤ pS n.toNat)
    (h : ∀ σₚ Dₚ Nₚ Fₚ Aₚ, HW V σₚ Dₚ Nₚ Fₚ Aₚ → OUT V.length D N σ c s Dₚ Nₚ σₚ (c + 1) (s + n.toNat) → SD [t] D Dₚ → SD [t] N Nₚ → (Nₚ t : Int) = n → SF [(p, k)] F Fₚ → Fₚ p k = (Dₚ t : Int) → SA [t] A Aₚ → (∀ i, 0 ≤ i → i < m → Aₚ t i = A t i) → Ew μ (d + 1) (pc + 6) ls st σₚ (c + 1) (s + n.toNat) Q) : Ew μ (d + 1) pc ls (I n :: .ref (D t) :: .ref (D p) :: st) σ c s Q := by
  subst hc hm
  have ht := blt_of ht
  have hp' := blt_of ho
  have hpt : p ≠ t := fun e => by rw [e, Nat.beq_refl] at hpt; cases hpt
  obtain ⟨dv, ov, q1, q2⟩ := H.arr t ht hta
  have hr := fun i => H.arg t i ht hta
  have q1' := q1
  rw [htk] at q1' q2 hr
  refine w_stat24 (vs := [.ref (D t), I n]) (rest := .ref (D p) :: st) hf rfl hw (K_copyB q1' hn (by have := H.lo p hp'; have := H.lt hp'; omega) (fun j _ => by rw [q2]; exact rcel_B (hr j)) (fun ov' hov => ⟨rfl, ?_⟩))
  have e := HW_ret H (n := n.toNat) (dv := .int 0) (ov := ov') (f := fun i => if 0 ≤ i ∧ i < (N t : Int) then A t i else 0) ht hta h3 (by omega) (fun j => by
    rw [hov, htk]
    by_cases w : j < N t
    · rw [if_pos w, if_pos ⟨by omega, by omega⟩, q2]
    · rw [if_neg w, if_neg (by omega)]; rfl) (fun i => by
    rw [htk]
    by_cases w : 0 ≤ i ∧ i < (N t : Int)
    · rw [if_pos w]; exact hr i
    · rw [if_neg w]; exact ⟨by decide, by decide⟩)
  have hC' : pC (N t) + 1 ≤ pC n.toNat := by rw [Int.toNat_natCast] at hC; exact hC
  have hS' : pS (N t) + (n.toNat : Int) ≤ pS n.toNat := by rw [Int.toNat_natCast] at hS; omega
  have oo := fun q => OUT_ret (V := V) (σ := σ) (D := D) (N := N) (t := t) (c := c) (s := s) (q := q) ht hC' hS'
  rw [htk] at e
  have eD : updN D t σ.length p = D p := updN_o hpt
  show Ew μ (d + 1) (pc + 3) ls (.ref σ.length :: .ref (D p) :: st) _ _ _ Q
  rw [← eD]
  refine v_p e hf2 hp ho ha rfl hk (z := (σ.length : Int)) ?_ (hfit _) (by rw [hkr]; show (-1 : Int) ≤ _; omega) (fun σₚ Hₚ Oₚ => ?_)
  · have := hv σ.length
    have w : vf (updN D t σ.length) (vfd V p k) (σ.length : Int) = vf D (vfd V p k) (σ.length : Int) := vf_eq rfl (fun h => by rw [hkr] at h; cases h)
    exact w.trans this
  · exact h σₚ _ _ _ _ Hₚ (OUT_trans (oo _) Oₚ) (fun x hx => updN_o (any1 hx)) (fun x hx => updN_o (any1 hx)) (by rw [updN_s]; omega) (SF_upd SF_refl (by show (Nat.beq p p && Nat.beq k k || false) = true; rw [Nat.beq_refl, Nat.beq_refl]; rfl)) (by rw [updN_s]; show (bif Nat.beq p p && Nat.beq k k then (σ.length : Int) else F p k) = _; rw [Nat.beq_refl, Nat.beq_refl]; rfl) (fun x hx i => updR_o (any1 hx)) (fun i a b => by rw [updR_s, if_pos ⟨a, b⟩])
theorem v_growI (H : HW V σ D N F A) {x y q ci2 len2 p k t tag : Nat} {ci : Value} {n : Int} (hf : PP.1 μ pc = some (.invokestatic x, len, (24, 457, 2, ci))) (hw : (Nat.ble (rwords (.ref (D p) :: st)) 8 && Nat.ble (rwords [.ref (D t), I n]) (PP.2.1 457)) = true) (hf2 : PP.1 μ (pc + 3) = some (.putfield y, len2, (q, ci2, k, .ref tag))) (hp : (Nat.blt tag 8 || (Nat.blt tag 16 && PP.2.2.2.1 μ)) = true) (hfit : ∀ v, rfit (tag % 8) (.ref v) = true)
    (ho : Nat.blt p V.length = true) (ha : varr V p = false) (hc : vcls V p = ci2) (hk : Nat.blt k (vnf V p) = true) (hv : ∀ z : Nat, vf D (vfd V p k) z = .ref z) (hkr : (vfd V p k).1 = 4) (ht : Nat.blt t V.length = true) (hta : varr V t = true) (htk : vak V t = 1) (h3 : v3 V t = true) (hpt : Nat.beq p t = false) {m : Int} (hm : (N t : Int) = m) (hn : m < n ∧ n ≤ 1000000) (hC : pC m.toNat + 1 ≤ pC n.toNat) (hS : pS m.toNat + n ≤ pS n.toNat)
    (h : ∀ σₚ Dₚ Nₚ Fₚ Aₚ, HW V σₚ Dₚ Nₚ Fₚ Aₚ → OUT V.length D N σ c s Dₚ Nₚ σₚ (c + 1) (s + n.toNat) → SD [t] D Dₚ → SD [t] N Nₚ → (Nₚ t : Int) = n → SF [(p, k)] F Fₚ → Fₚ p k = (Dₚ t : Int) → SA [t] A Aₚ → (∀ i, 0 ≤ i → i < m → Aₚ t i = A t i) → Ew μ (d + 1) (pc + 6) ls st σₚ (c + 1) (s + n.toNat) Q) : Ew μ (d + 1) pc ls (I n :: .ref (D t) :: .ref (D p) :: st) σ c s Q := by
  subst hc hm
  have ht := blt_of ht
  have hp' := blt_of ho
  have hpt : p ≠ t := fun e => by rw [e, Nat.beq_refl] at hpt; cases hpt
  obtain ⟨dv, ov, q1, q2⟩ := H.arr t ht hta
  have hr := fun i => H.arg t i ht hta
  have q1' := q1
  rw [htk] at q1' q2 hr
  refine w_stat24 (vs := [.ref (D t), I n]) (rest := .ref (D p) :: st) hf rfl hw (K_copyI q1' hn (by have := H.lo p hp'; have := H.lt hp'; omega) (fun j _ => by rw [q2]; exact rfl) (fun ov' hov => ⟨rfl, ?_⟩))
  have e := HW_ret H (n := n.toNat) (dv := .int 0) (ov := ov') (f := fun i => if 0 ≤ i ∧ i < (N t : Int) then A t i else 0) ht hta h3 (by omega) (fun j => by
    rw [hov, htk]
    by_cases w : j < N t
    · rw [if_pos w, if_pos ⟨by omega, by omega⟩, q2]
    · rw [if_neg w, if_neg (by omega)]; rfl) (fun i => by
    rw [htk]
    by_cases w : 0 ≤ i ∧ i < (N t : Int)
    · rw [if_pos w]; exact hr i
    · rw [if_neg w]; exact ⟨by decide, by decide⟩)
  have hC' : pC (N t) + 1 ≤ pC n.toNat := by rw [Int.toNat_natCast] at hC; exact hC
  have hS' : pS (N t) + (n.toNat : Int) ≤ pS n.toNat := by rw [Int.toNat_natCast] at hS; omega
  have oo := fun q => OUT_ret (V := V) (σ := σ) (D := D) (N := N) (t := t) (c := c) (s := s) (q := q) ht hC' hS'
  rw [htk] at e
  have eD : updN D t σ.length p = D p := updN_o hpt
  show Ew μ (d + 1) (pc + 3) ls (.ref σ.length :: .ref (D p) :: st) _ _ _ Q
  rw [← eD]
  refine v_p e hf2 hp ho ha rfl hk (z := (σ.length : Int)) ?_ (hfit _) (by rw [hkr]; show (-1 : Int) ≤ _; omega) (fun σₚ Hₚ Oₚ => ?_)
  · have := hv σ.length
    have w : vf (updN D t σ.length) (vfd V p k) (σ.length : Int) = vf D (vfd V p k) (σ.length : Int) := vf_eq rfl (fun h => by rw [hkr] at h; cases h)
    exact w.trans this
  · exact h σₚ _ _ _ _ Hₚ (OUT_trans (oo _) Oₚ) (fun x hx => updN_o (any1 hx)) (fun x hx => updN_o (any1 hx)) (by rw [updN_s]; omega) (SF_upd SF_refl (by show (Nat.beq p p && Nat.beq k k || false) = true; rw [Nat.beq_refl, Nat.beq_refl]; rfl)) (by rw [updN_s]; show (bif Nat.beq p p && Nat.beq k k then (σ.length : Int) else F p k) = _; rw [Nat.beq_refl, Nat.beq_refl]; rfl) (fun x hx i => updR_o (any1 hx)) (fun i a b => by rw [updR_s, if_pos ⟨a, b⟩])
end VG
