/-! how a share is laid: the places in their order, and what stands there -/
def qs (L : Int) (j : Int) : Int := (j * (p2 L / 2 + p2 L / 8 + 3)) % p2 L
theorem qs_rng {L j : Int} : 0 ≤ qs L j ∧ qs L j < p2 L := by
  have := p2_pos L
  exact ⟨Int.emod_nonneg _ (by omega), Int.emod_lt_of_pos _ (by omega)⟩
theorem qs_s {L j : Int} : qs L (j + 1) = (qs L j + (p2 L / 2 + p2 L / 8 + 3)) % p2 L := by
  unfold qs
  rw [Int.emod_add_emod]
  congr 1
  grind
theorem step_inj {N s t c i j : Int} (hN : 0 < N) (hi : s * t = 1 + N * c) (h0 : 0 ≤ i) (h1 : i < N) (h2 : 0 ≤ j) (h3 : j < N) (e : (i * s) % N = (j * s) % N) : i = j := by
  have d : N ∣ i * s - j * s := Int.dvd_of_emod_eq_zero (by rw [Int.sub_emod, e, Int.sub_self]; rfl)
  obtain ⟨x, hx⟩ := d
  have h : i - j = N * (x * t - (i - j) * c) := by grind
  have h5 : ∀ y : Int, i - j = N * y → y = 0 := by
    intro y hy
    by_cases q : y = 0
    · exact q
    · by_cases q2 : 1 ≤ y
      · have := Int.mul_le_mul_of_nonneg_left q2 (show 0 ≤ N by omega)
        omega
      · have := Int.mul_le_mul_of_nonneg_left (show y ≤ -1 by omega) (show 0 ≤ N by omega)
        omega
  have h6 := h5 _ h
  rw [h6] at h
  omega
theorem qs_inj {L i j : Int} (h : 5 ≤ L ∧ L ≤ 9) (h0 : 0 ≤ i) (h1 : i < p2 L) (h2 : 0 ≤ j) (h3 : j < p2 L) (e : qs L i = qs L j) : i = j := by
  unfold qs at e
  rcases p2_5 h with ⟨_, q⟩ | ⟨_, q⟩ | ⟨_, q⟩ | ⟨_, q⟩ | ⟨_, q⟩ <;> rw [q] at h1 h3 e
  · exact step_inj (s := 23) (t := 7) (c := 5) (by decide) (by decide) h0 h1 h2 h3 e
  · exact step_inj (s := 43) (t := 3) (c := 2) (by decide) (by decide) h0 h1 h2 h3 e
  · exact step_inj (s := 83) (t := 91) (c := 59) (by decide) (by decide) h0 h1 h2 h3 e
  · exact step_inj (s := 163) (t := 11) (c := 7) (by decide) (by decide) h0 h1 h2 h3 e
  · exact step_inj (s := 323) (t := 363) (c := 229) (by decide) (by decide) h0 h1 h2 h3 e
theorem qs_mod {L j : Int} : qs L (j % p2 L) = qs L j := by
  unfold qs
  rw [Int.mul_emod, Int.emod_emod_of_dvd _ (Int.dvd_refl _), ← Int.mul_emod]
theorem qs_sur {L k : Int} (h : 5 ≤ L ∧ L ≤ 9) (h0 : 0 ≤ k) (h1 : k < p2 L) : ∃ j, 0 ≤ j ∧ j < p2 L ∧ qs L j = k := by
  obtain ⟨j, hj⟩ := share_met (p := 0) h h0 h1
  have := p2_pos L
  refine ⟨(j : Int) % p2 L, Int.emod_nonneg _ (by omega), Int.emod_lt_of_pos _ (by omega), ?_⟩
  rw [qs_mod]
  unfold qs
  rw [Int.zero_add] at hj
  exact hj
/-- free places among the first ones -/
def fq (L high : Int) : Int → Int := fun j => if qs L j < high then 1 else 0
theorem fq_eq (L high j : Int) : qs L j < high ∧ fq L high j = 1 ∨ high ≤ qs L j ∧ fq L high j = 0 := by
  unfold fq
  by_cases h : qs L j < high
  · rw [if_pos h]; omega
  · rw [if_neg h]; omega
def rk (L high j : Int) : Int := su (fq L high) j.toNat
theorem rkS {L high j : Int} (h : 0 ≤ j) : rk L high (j + 1) = rk L high j + fq L high j := su_s h
theorem rk_skip {L high : Int} {a : Int} (h0 : 0 ≤ a) : ∀ (m : Nat), (∀ j, a ≤ j → j < a + m → high ≤ qs L j) → rk L high (a + m) = rk L high a
  | 0, _ => by rw [show a + ((0 : Nat) : Int) = a by omega]
  | m + 1, h => by
    rw [show a + ((m + 1 : Nat) : Int) = a + (m : Int) + 1 by omega, rkS (by omega), rk_skip h0 m (fun j x y => h j x (by omega))]
    have := fq_eq L high (a + m)
    have := h (a + m) (by omega) (by omega)
    omega
def cum (P : Int → Int) (s : Int) : Int := su (fun i => posi (P i)) s.toNat
def ngs (P : Int → Int) (s : Int) : Int := su (fun i => neg1 (P i)) s.toNat
theorem cum_s {P : Int → Int} {s : Int} (h : 0 ≤ s) : cum P (s + 1) = cum P s + posi (P s) := su_s h
theorem ngs_s {P : Int → Int} {s : Int} (h : 0 ≤ s) : ngs P (s + 1) = ngs P s + neg1 (P s) := su_s h
theorem cum_mono {P : Int → Int} {s t : Int} (h0 : 0 ≤ s) (h : s ≤ t) : cum P s ≤ cum P t := (su_le_all (f := fun i => posi (P i)) h0 h (fun i _ => by have := posi_eq (P i); omega)).2
theorem ngs_mono {P : Int → Int} {s t : Int} (h0 : 0 ≤ s) (h : s ≤ t) : 0 ≤ ngs P s ∧ ngs P s ≤ ngs P t := su_le_all (f := fun i => neg1 (P i)) h0 h (fun i _ => by have := neg1_eq (P i); omega)
/-- the symbol that points give to the c-th place -/
theorem cum_uniq {P : Int → Int} {s t c : Int} (s0 : 0 ≤ s) (t0 : 0 ≤ t) (a : cum P s ≤ c) (b : c < cum P (s + 1)) (d : cum P t ≤ c) (e : c < cum P (t + 1)) : s = t := by
  by_cases q : s < t
  · have := cum_mono (P := P) (s := s + 1) (t := t) (by omega) (by omega)
    omega
  · by_cases q2 : t < s
    · have := cum_mono (P := P) (s := t + 1) (t := s) (by omega) (by omega)
      omega
    · omega
theorem ngs_hit {P : Int → Int} : ∀ (n : Nat) (r : Int), 0 ≤ r → r < ngs P n → ∃ s : Int, 0 ≤ s ∧ s < n ∧ P s < 0 ∧ ngs P s = r
  | 0, r, a, b => by
    have : ngs P ((0 : Nat) : Int) = 0 := rfl
    omega
  | n + 1, r, a, b => by
    have e : ngs P ((n + 1 : Nat) : Int) = ngs P n + neg1 (P n) := by
      rw [show ((n + 1 : Nat) : Int) = (n : Int) + 1 by omega, ngs_s (by omega)]
    have g := neg1_eq (P n)
    by_cases q : r < ngs P n
    · obtain ⟨s, s0, s1, s2, s3⟩ := ngs_hit n r a q
      exact ⟨s, s0, by omega, s2, s3⟩
    · exact ⟨n, by omega, by omega, by omega, by omega⟩
/-- what stands at the places, by the points alone -/
def LAID (P : Int → Int) (n L : Int) (sy : Int → Int) : Prop :=
  (∀ s, 0 ≤ s → s < n → P s < 0 → sy (p2 L - 1 - ngs P s) = s) ∧
  (∀ j, 0 ≤ j → j < p2 L → qs L j < p2 L - ngs P n → 0 ≤ sy (qs L j) ∧ sy (qs L j) < n ∧ cum P (sy (qs L j)) ≤ rk L (p2 L - ngs P n) j ∧ rk L (p2 L - ngs P n) j < cum P (sy (qs L j) + 1))
theorem LAID_uniq {P sy sy' : Int → Int} {n L : Int} (hL : 5 ≤ L ∧ L ≤ 9) (hn : 0 ≤ n) (h : LAID P n L sy) (h' : LAID P n L sy') {k : Int} (k0 : 0 ≤ k) (k1 : k < p2 L) : sy k = sy' k := by
  by_cases q : k < p2 L - ngs P n
  · obtain ⟨j, j0, j1, e⟩ := qs_sur hL k0 k1
    have a := h.2 j j0 j1 (by omega)
    have b := h'.2 j j0 j1 (by omega)
    rw [e] at a b
    exact cum_uniq a.1 b.1 a.2.2.1 a.2.2.2 b.2.2.1 b.2.2.2
  · obtain ⟨s, s0, s1, s2, s3⟩ := ngs_hit (P := P) n.toNat (p2 L - 1 - k) (by omega) (by rw [show ((n.toNat : Nat) : Int) = n by omega]; omega)
    have a := h.1 s s0 (by omega) s2
    have b := h'.1 s s0 (by omega) s2
    rw [s3, show p2 L - 1 - (p2 L - 1 - k) = k by omega] at a b
    omega
/-- while it is laid: J places were gone over, c of them were free -/
def VIS (P : Int → Int) (n L : Int) (sy : Int → Int) (J c : Int) : Prop :=
  (∀ s, 0 ≤ s → s < n → P s < 0 → sy (p2 L - 1 - ngs P s) = s) ∧
  (∀ j, 0 ≤ j → j < J → qs L j < p2 L - ngs P n → 0 ≤ sy (qs L j) ∧ sy (qs L j) < n ∧ cum P (sy (qs L j)) ≤ rk L (p2 L - ngs P n) j ∧ rk L (p2 L - ngs P n) j < cum P (sy (qs L j) + 1)) ∧
  (∀ j, J ≤ j → j < p2 L → qs L j < p2 L - ngs P n → sy (qs L j) = -1) ∧
  (∀ k, p2 L - ngs P n ≤ k → k < p2 L → 0 ≤ sy k) ∧
  rk L (p2 L - ngs P n) J = c ∧ 0 ≤ J ∧ J ≤ p2 L
/-- where the going stands: place p is the t-th -/
def PT (P : Int → Int) (n L : Int) (sy : Int → Int) (p c : Int) : Prop := ∃ J t, VIS P n L sy J c ∧ J ≤ t + 1 ∧ 0 ≤ t ∧ t < p2 L ∧ p = qs L t ∧ (∀ j, J ≤ j → j < t → p2 L - ngs P n ≤ qs L j)
theorem PT_next {P sy : Int → Int} {n L p pₚ c : Int} (h : PT P n L sy p c) (h0 : 0 ≤ sy p) (hc : c < p2 L - ngs P n) (hr : rk L (p2 L - ngs P n) (p2 L) = p2 L - ngs P n) (e : pₚ = (p + (p2 L / 2 + p2 L / 8 + 3)) % p2 L) : PT P n L sy pₚ c := by
  obtain ⟨J, t, v, a, b, d, f, g⟩ := h
  have hp := p2_pos L
  have skip : t + 1 < p2 L := by
    by_cases q : t + 1 < p2 L
    · exact q
    · exfalso
      have et : t + 1 = p2 L := by omega
      have hg : ∀ j, J ≤ j → j < J + ((p2 L - J).toNat : Int) → p2 L - ngs P n ≤ qs L j := by
        intro j x y
        by_cases w : j < t
        · exact g j x w
        · have : j = t := by omega
          subst this
          by_cases z : qs L j < p2 L - ngs P n
          · have := v.2.2.1 j x d z
            rw [f, this] at h0
            omega
          · omega
      have := rk_skip (L := L) (high := p2 L - ngs P n) (a := J) v.2.2.2.2.2.1 (p2 L - J).toNat hg
      rw [show J + ((p2 L - J).toNat : Int) = p2 L by have := v.2.2.2.2.2.2; omega, hr, v.2.2.2.2.1] at this
      omega
  refine ⟨J, t + 1, v, by omega, by omega, skip, by rw [e, f, qs_s], fun j x y => ?_⟩
  by_cases w : j < t
  · exact g j x w
  · have : j = t := by omega
    subst this
    by_cases z : qs L j < p2 L - ngs P n
    · have := v.2.2.1 j x d z
      rw [f, this] at h0
      omega
    · omega
theorem PT_put {P sy : Int → Int} {n L p c s : Int} (hL : 5 ≤ L ∧ L ≤ 9) (h : PT P n L sy p c) (h0 : sy p < 0) (s0 : 0 ≤ s) (s1 : s < n) (a1 : cum P s ≤ c) (a2 : c < cum P (s + 1)) : PT P n L (upd1 sy p s) p (c + 1) := by
  obtain ⟨J, t, v, a, b, d, f, g⟩ := h
  have hq := qs_rng (L := L) (j := t)
  have free : qs L t < p2 L - ngs P n := by
    by_cases z : qs L t < p2 L - ngs P n
    · exact z
    · have := v.2.2.2.1 (qs L t) (by omega) hq.2
      rw [← f] at this
      omega
  have Jt : J ≤ t := by
    by_cases z : J ≤ t
    · exact z
    · have := (v.2.1 t b (by omega) free).1
      rw [← f] at this
      omega
  have rt : rk L (p2 L - ngs P n) t = c := by
    have := rk_skip (L := L) (high := p2 L - ngs P n) (a := J) v.2.2.2.2.2.1 (t - J).toNat (fun j x y => g j x (by omega))
    rw [show J + ((t - J).toNat : Int) = t by omega, v.2.2.2.2.1] at this
    exact this
  have ne : ∀ j, 0 ≤ j → j < p2 L → j ≠ t → qs L j ≠ p := fun j x y z w => z (qs_inj hL x y b d (by omega))
  have hng := fun x (hx : 0 ≤ x) (hxn : x < n) => ngs_mono (P := P) (s := x + 1) (t := n) (by omega) (by omega)
  refine ⟨t + 1, t, ⟨fun x x0 x1 x2 => ?_, fun j x y z => ?_, fun j x y z => ?_, fun k x y => ?_, ?_, by omega, by omega⟩, by omega, b, d, f, fun j x y => by omega⟩
  · have e1 := hng x x0 x1
    rw [ngs_s x0] at e1
    have e2 := neg1_eq (P x)
    rw [upd1_o (by omega)]
    exact v.1 x x0 x1 x2
  · by_cases w : j = t
    · subst w
      rw [← f, upd1_s, rt]
      exact ⟨s0, s1, a1, a2⟩
    · rw [upd1_o (ne j x (by omega) w)]
      by_cases u : j < J
      · exact v.2.1 j x u z
      · have := g j (by omega) (by omega)
        omega
  · rw [upd1_o (ne j (by omega) y (by omega))]
    exact v.2.2.1 j (by omega) y z
  · rw [upd1_o (by omega)]
    exact v.2.2.2.1 k x y
  · rw [rkS b, rt]
    have := fq_eq L (p2 L - ngs P n) t
    omega
theorem PT_start {P sy : Int → Int} {n L : Int} (hn : 0 ≤ n) (h1 : ∀ s, 0 ≤ s → s < n → P s < 0 → sy (p2 L - 1 - ngs P s) = s) (h2 : ∀ k, 0 ≤ k → k < p2 L - ngs P n → sy k = -1) : PT P n L sy 0 0 := by
  have hp := p2_pos L
  have q0 : qs L 0 = 0 := by unfold qs; rw [Int.zero_mul]; exact Int.zero_emod _
  refine ⟨0, 0, ⟨h1, fun j x y => by omega, fun j x y z => h2 _ qs_rng.1 z, fun k x y => ?_, rfl, by omega, by omega⟩, by omega, by omega, by omega, q0.symm, fun j x y => by omega⟩
  obtain ⟨s, s0, s1, s2, s3⟩ := ngs_hit (P := P) n.toNat (p2 L - 1 - k) (by omega) (by rw [show ((n.toNat : Nat) : Int) = n by omega]; omega)
  have a := h1 s s0 (by omega) s2
  rw [s3, show p2 L - 1 - (p2 L - 1 - k) = k by omega] at a
  omega
/-- all free places are met once -/
theorem rk_all {L high : Int} (hL : 5 ≤ L ∧ L ≤ 9) (h0 : 0 ≤ high) (h1 : high ≤ p2 L) : rk L high (p2 L) = high := by
  have key : ∀ (m : Nat), (m : Int) ≤ p2 L → rk L m (p2 L) = m := by
    intro m
    induction m with
    | zero =>
      intro _
      show su (fq L 0) (p2 L).toNat = 0
      rw [su_congr (h := fun _ => 0) (fun i a b => by have := fq_eq L 0 i; have := qs_rng (L := L) (j := i); omega)]
      exact su_zero _
    | succ m ih =>
      intro hm
      have e := ih (by omega)
      obtain ⟨j, j0, j1, j2⟩ := qs_sur (k := (m : Int)) hL (by omega) (by omega)
      have s := su_upd (f := fq L m) (h := fq L ((m + 1 : Nat) : Int)) (j := j) (n := (p2 L).toNat) j0 (by omega) (fun i a b c => by
        have x := fq_eq L m i
        have y := fq_eq L ((m + 1 : Nat) : Int) i
        have z : qs L i ≠ m := fun w => c (qs_inj hL a (by omega) j0 j1 (by omega))
        omega)
      have x := fq_eq L m j
      have y := fq_eq L ((m + 1 : Nat) : Int) j
      have e' : su (fq L m) (p2 L).toNat = m := e
      show su (fq L ((m + 1 : Nat) : Int)) (p2 L).toNat = _
      omega
  have := key high.toNat (by omega)
  rw [show ((high.toNat : Nat) : Int) = high by omega] at this
  exact this
theorem PT_end {P sy : Int → Int} {n L p : Int} (hL : 5 ≤ L ∧ L ≤ 9) (hn : 0 ≤ ngs P n ∧ ngs P n ≤ p2 L) (h : PT P n L sy p (p2 L - ngs P n)) : LAID P n L sy := by
  obtain ⟨J, t, v, a, b, d, f, g⟩ := h
  refine ⟨v.1, fun j x y z => ?_⟩
  by_cases q : j < J
  · exact v.2.1 j x q z
  · exfalso
    have ra := rk_all (L := L) (high := p2 L - ngs P n) hL (by omega) (by omega)
    have m := su_le_all (f := fq L (p2 L - ngs P n)) (i := j + 1) (n := p2 L) (by omega) (by omega) (fun i _ => by have := fq_eq L (p2 L - ngs P n) i; omega)
    have m2 := su_le_all (f := fq L (p2 L - ngs P n)) (i := J) (n := j) v.2.2.2.2.2.1 (by omega) (fun i _ => by have := fq_eq L (p2 L - ngs P n) i; omega)
    have e := fq_eq L (p2 L - ngs P n) j
    have c := v.2.2.2.2.1
    unfold rk at ra c
    rw [su_s x] at m
    omega
/-! how often, and as which number -/
def eqs (sy : Int → Int) (s : Int) : Int → Int := fun k => if sy k = s then 1 else 0
theorem eqs_eq (sy : Int → Int) (s k : Int) : sy k = s ∧ eqs sy s k = 1 ∨ sy k ≠ s ∧ eqs sy s k = 0 := by
  unfold eqs
  by_cases h : sy k = s
  · rw [if_pos h]; exact .inl ⟨h, rfl⟩
  · rw [if_neg h]; exact .inr ⟨h, rfl⟩
def XN (P sy : Int → Int) (k : Int) : Int := mass (P (sy k)) + su (eqs sy (sy k)) k.toNat
theorem su_hit {f : Int → Int} : ∀ {n : Nat} {m : Int}, (∀ i : Int, f i = 0 ∨ f i = 1) → 0 ≤ m → m < su f n → ∃ k : Int, 0 ≤ k ∧ k < n ∧ f k = 1 ∧ su f k.toNat = m
  | 0, m, h, a, b => by
    have : su f 0 = 0 := rfl
    omega
  | n + 1, m, h, a, b => by
    have e : su f (n + 1) = su f n + f n := rfl
    by_cases q : m < su f n
    · obtain ⟨k, k0, k1, k2, k3⟩ := su_hit (n := n) h a q
      exact ⟨k, k0, by omega, k2, k3⟩
    · have := h n
      exact ⟨n, by omega, by omega, by omega, by rw [show ((n : Int)).toNat = n by omega]; omega⟩
def NUM (P : Int → Int) (L : Int) (sy bi ba : Int → Int) (lim : Int) : Prop := ∀ k, 0 ≤ k → k < lim → ∃ r, 0 ≤ r ∧ r ≤ L ∧ p2 r ≤ XN P sy k ∧ XN P sy k < 2 * p2 r ∧ bi k = L - r ∧ ba k = XN P sy k * p2 (L - r) - p2 L
def LD (P : Int → Int) (n L : Int) (sy bi ba : Int → Int) : Prop := LAID P n L sy ∧ (∀ s, 0 ≤ s → s < n → su (eqs sy s) (p2 L).toNat = mass (P s)) ∧ NUM P L sy bi ba (p2 L)
theorem half_ex {w : Int} (hw : 1 ≤ w) : ∀ (m : Nat) (X : Int), w ≤ X → X ≤ m → ∃ b : Nat, w ≤ X / p2 b ∧ X / p2 b < 2 * w
  | 0, X, a, c => by omega
  | m + 1, X, a, c => by
    by_cases q : X < 2 * w
    · exact ⟨0, by rw [show p2 ((0 : Nat) : Int) = 1 from by decide, Int.ediv_one]; exact a, by rw [show p2 ((0 : Nat) : Int) = 1 from by decide, Int.ediv_one]; exact q⟩
    · obtain ⟨b, b1, b2⟩ := half_ex hw m (X / 2) (by omega) (by omega)
      have e : X / p2 ((b + 1 : Nat) : Int) = X / 2 / p2 b := by
        rw [show ((b + 1 : Nat) : Int) = (b : Int) + 1 by omega, p2_s (by omega), Int.ediv_ediv_of_nonneg (by omega)]
      exact ⟨b + 1, by rw [e]; exact b1, by rw [e]; exact b2⟩
/-- some place of a symbol leads to each state -/
theorem lead_ex {P sy bi ba : Int → Int} {n L s state : Int} (h : LD P n L sy bi ba) (hL : 0 ≤ L) (s0 : 0 ≤ s) (s1 : s < n) (hm : 1 ≤ mass (P s)) (hm2 : mass (P s) ≤ p2 L) (t0 : 0 ≤ state) (t1 : state < p2 L) : ∃ k, 0 ≤ k ∧ k < p2 L ∧ sy k = s ∧ ba k ≤ state ∧ state < ba k + p2 (bi k) := by
  obtain ⟨b, b1, b2⟩ := half_ex hm (p2 L + state).toNat (p2 L + state) (by omega) (by omega)
  have c := h.2.1 s s0 s1
  obtain ⟨k, k0, k1, k2, k3⟩ := su_hit (f := eqs sy s) (n := (p2 L).toNat) (m := (p2 L + state) / p2 b - mass (P s)) (fun i => by have := eqs_eq sy s i; omega) (by omega) (by omega)
  have ks : sy k = s := by have := eqs_eq sy s k; omega
  obtain ⟨r, r0, r1, r2, r3, r4, r5⟩ := h.2.2 k k0 (by omega)
  have ex : XN P sy k = (p2 L + state) / p2 b := by
    unfold XN
    rw [ks, k3]
    omega
  rw [ex] at r2 r3 r5
  have hb := p2_pos (b : Int)
  have dm := Int.emod_add_mul_ediv (p2 L + state) (p2 b)
  have d0 := Int.emod_nonneg (p2 L + state) (show p2 (b : Int) ≠ 0 by omega)
  have d1 := Int.emod_lt_of_pos (p2 L + state) (show 0 < p2 (b : Int) by omega)
  have m1 : p2 b * p2 r ≤ p2 b * ((p2 L + state) / p2 b) := Int.mul_le_mul_of_nonneg_left r2 (by omega)
  have m2 : p2 b * ((p2 L + state) / p2 b + 1) ≤ p2 b * (2 * p2 r) := Int.mul_le_mul_of_nonneg_left (by omega) (by omega)
  rw [Int.mul_add, Int.mul_one] at m2
  rw [← p2_add (by omega) r0] at m1
  rw [show p2 b * (2 * p2 r) = 2 * p2 (b + r) by rw [p2_add (by omega) r0]; grind] at m2
  have l1 : (b : Int) + r < L + 1 := p2_lt (by omega) (by rw [p2_s hL]; omega)
  have l2 : L < (b : Int) + r + 1 := p2_lt hL (by rw [p2_s (by omega)]; omega)
  have eb : L - r = b := by omega
  rw [eb] at r4 r5
  refine ⟨k, k0, by omega, ks, ?_, ?_⟩
  · rw [r5, Int.mul_comm]; omega
  · rw [r5, r4, Int.mul_comm]; omega
