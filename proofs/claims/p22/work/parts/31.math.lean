/-! sums over places; places that are free; the steps of a share -/
def su (f : Int → Int) : Nat → Int
  | 0 => 0
  | n + 1 => su f n + f n
theorem su_congr {f h : Int → Int} : ∀ {n : Nat}, (∀ i : Int, 0 ≤ i → i < n → f i = h i) → su f n = su h n
  | 0, _ => rfl
  | n + 1, e => by
    show su f n + f n = su h n + h n
    rw [su_congr (fun i a b => e i a (by omega)), e n (by omega) (by omega)]
theorem su_upd {f h : Int → Int} {j : Int} : ∀ {n : Nat}, 0 ≤ j → j < n → (∀ i : Int, 0 ≤ i → i < n → i ≠ j → h i = f i) → su h n = su f n + (h j - f j)
  | 0, h0, h1, _ => by omega
  | n + 1, h0, h1, e => by
    show su h n + h n = su f n + f n + (h j - f j)
    by_cases q : j = n
    · subst q
      rw [su_congr (f := h) (h := f) (fun i a b => e i a (by omega) (by omega))]
      omega
    · rw [su_upd (f := f) (h := h) h0 (by omega) (fun i a b c => e i a (by omega) c), e n (by omega) (by omega) (fun z => q z.symm)]
      omega
theorem su_nonneg {f : Int → Int} : ∀ {n : Nat}, (∀ i : Int, 0 ≤ i → i < n → 0 ≤ f i) → 0 ≤ su f n
  | 0, _ => by show (0 : Int) ≤ 0; omega
  | n + 1, e => by
    show 0 ≤ su f n + f n
    have := su_nonneg (f := f) (n := n) (fun i a b => e i a (by omega))
    have := e n (by omega) (by omega)
    omega
theorem su_le {f h : Int → Int} : ∀ {n : Nat}, (∀ i : Int, 0 ≤ i → i < n → f i ≤ h i) → su f n ≤ su h n
  | 0, _ => by show (0 : Int) ≤ 0; omega
  | n + 1, e => by
    show su f n + f n ≤ su h n + h n
    have := su_le (f := f) (h := h) (n := n) (fun i a b => e i a (by omega))
    have := e n (by omega) (by omega)
    omega
theorem su_split {f : Int → Int} {n : Nat} : ∀ {k : Nat}, (∀ i : Int, (n : Int) ≤ i → i < n + k → f i = 0) → su f (n + k) = su f n
  | 0, _ => rfl
  | k + 1, e => by
    show su f (n + k) + f ((n + k : Nat) : Int) = su f n
    rw [su_split (k := k) (fun i a b => e i a (by omega)), e _ (by omega) (by omega)]
    omega
theorem su_mono {f : Int → Int} {n : Nat} : ∀ {k : Nat}, (∀ i : Int, 0 ≤ i → 0 ≤ f i) → su f n ≤ su f (n + k)
  | 0, _ => by show su f n ≤ su f n; omega
  | k + 1, e => by
    show su f n ≤ su f (n + k) + f ((n + k : Nat) : Int)
    have := su_mono (f := f) (n := n) (k := k) e
    have := e ((n + k : Nat) : Int) (by omega)
    omega
theorem su_add {f h : Int → Int} : ∀ {n : Nat}, su (fun i => f i + h i) n = su f n + su h n
  | 0 => rfl
  | n + 1 => by
    show su (fun i => f i + h i) n + (f n + h n) = su f n + f n + (su h n + h n)
    rw [su_add]
    omega
theorem su_free {f : Int → Int} : ∀ {n : Nat}, (∀ i : Int, 0 ≤ i → i < n → f i = 0 ∨ f i = 1) → su f n < n → ∃ i : Int, 0 ≤ i ∧ i < n ∧ f i = 0
  | 0, _, h => by
    have : su f 0 = 0 := rfl
    omega
  | n + 1, e, h => by
    have e1 : su f (n + 1) = su f n + f n := rfl
    rcases e n (by omega) (by omega) with h0 | h0
    · exact ⟨n, by omega, by omega, h0⟩
    · obtain ⟨i, a, b, c⟩ := su_free (f := f) (n := n) (fun i a b => e i a (by omega)) (by omega)
      exact ⟨i, a, by omega, c⟩
theorem su_s {f : Int → Int} {i : Int} (h : 0 ≤ i) : su f (i + 1).toNat = su f i.toNat + f i := by
  rw [show (i + 1).toNat = i.toNat + 1 by omega]
  show su f i.toNat + f ((i.toNat : Nat) : Int) = _
  rw [show ((i.toNat : Nat) : Int) = i by omega]
def mass (p : Int) : Int := if p < 0 then 1 else p
theorem mass_eq (p : Int) : p < 0 ∧ mass p = 1 ∨ 0 ≤ p ∧ mass p = p := by
  unfold mass
  by_cases h : p < 0
  · rw [if_pos h]; omega
  · rw [if_neg h]; omega
def neg1 (p : Int) : Int := if p < 0 then 1 else 0
theorem neg1_eq (p : Int) : p < 0 ∧ neg1 p = 1 ∨ 0 ≤ p ∧ neg1 p = 0 := by
  unfold neg1
  by_cases h : p < 0
  · rw [if_pos h]; omega
  · rw [if_neg h]; omega
def posi (p : Int) : Int := if p < 0 then 0 else p
theorem posi_eq (p : Int) : p < 0 ∧ posi p = 0 ∨ 0 ≤ p ∧ posi p = p := by
  unfold posi
  by_cases h : p < 0
  · rw [if_pos h]; omega
  · rw [if_neg h]; omega
theorem mass_sum (p : Int) : mass p = neg1 p + posi p := by
  have := mass_eq p
  have := neg1_eq p
  have := posi_eq p
  omega
/-- a share of an order: points of n symbols from a place on -/
def SH (g : Int → Int) (at_ n order last : Int) : Prop := 5 ≤ order ∧ order ≤ 9 ∧ (∀ i, 0 ≤ i → i < n → -1 ≤ g (at_ + i)) ∧ (∀ i, last < i → i < n → 0 ≤ i → g (at_ + i) = 0) ∧ su (fun i => mass (g (at_ + i))) n.toNat = p2 order
/-- a table that was laid -/
def TI (sy bi ba : Int → Int) (row order last : Int) : Prop := ∀ k, 0 ≤ k → k < p2 order → 0 ≤ sy (row + k) ∧ sy (row + k) ≤ last ∧ 0 ≤ bi (row + k) ∧ bi (row + k) ≤ order ∧ 0 ≤ ba (row + k) ∧ ba (row + k) + p2 (bi (row + k)) ≤ p2 order
theorem p2_5 {o : Int} (h : 5 ≤ o ∧ o ≤ 9) : (o = 5 ∧ p2 o = 32) ∨ (o = 6 ∧ p2 o = 64) ∨ (o = 7 ∧ p2 o = 128) ∨ (o = 8 ∧ p2 o = 256) ∨ (o = 9 ∧ p2 o = 512) := by
  rcases (show o = 5 ∨ o = 6 ∨ o = 7 ∨ o = 8 ∨ o = 9 by omega) with h | h | h | h | h <;> subst h
  · exact .inl ⟨rfl, by decide⟩
  · exact .inr (.inl ⟨rfl, by decide⟩)
  · exact .inr (.inr (.inl ⟨rfl, by decide⟩))
  · exact .inr (.inr (.inr (.inl ⟨rfl, by decide⟩)))
  · exact .inr (.inr (.inr (.inr ⟨rfl, by decide⟩)))
/-- every place is met -/
theorem step_met {N s t c p q : Int} (hN : 0 < N) (hi : s * t = 1 + N * c) (hq : 0 ≤ q) (hq2 : q < N) : ∃ j : Nat, (p + j * s) % N = q := by
  refine ⟨(((q - p) * t) % N).toNat, ?_⟩
  have h0 : 0 ≤ ((q - p) * t) % N := Int.emod_nonneg _ (by omega)
  rw [Int.toNat_of_nonneg h0]
  have h1 : ((q - p) * t) % N = (q - p) * t - N * (((q - p) * t) / N) := by
    have := Int.emod_add_mul_ediv ((q - p) * t) N
    omega
  rw [h1]
  have h2 : ∀ e : Int, p + ((q - p) * t - N * e) * s = q + N * ((q - p) * c - e * s) := by
    intro e
    grind
  rw [h2, Int.add_mul_emod_self_left, Int.emod_eq_of_lt hq hq2]
theorem share_met {o p q : Int} (h : 5 ≤ o ∧ o ≤ 9) (hq : 0 ≤ q) (hq2 : q < p2 o) : ∃ j : Nat, (p + j * (p2 o / 2 + p2 o / 8 + 3)) % p2 o = q := by
  rcases p2_5 h with ⟨_, e⟩ | ⟨_, e⟩ | ⟨_, e⟩ | ⟨_, e⟩ | ⟨_, e⟩ <;> rw [e] at hq2 ⊢
  · exact step_met (s := 23) (t := 7) (c := 5) (by decide) (by decide) hq hq2
  · exact step_met (s := 43) (t := 3) (c := 2) (by decide) (by decide) hq hq2
  · exact step_met (s := 83) (t := 91) (c := 59) (by decide) (by decide) hq hq2
  · exact step_met (s := 163) (t := 11) (c := 7) (by decide) (by decide) hq hq2
  · exact step_met (s := 323) (t := 363) (c := 229) (by decide) (by decide) hq hq2
/-- a free place is met after at most m steps -/
def FM (sy : Int → Int) (row all step p : Int) (m : Nat) : Prop := ∃ j : Nat, j ≤ m ∧ sy (row + (p + j * step) % all) < 0
theorem FM_next {sy : Int → Int} {row all step p : Int} {m : Nat} (h : FM sy row all step p m) (hp : 0 ≤ p ∧ p < all) (h0 : 0 ≤ sy (row + p)) : 1 ≤ m ∧ FM sy row all step ((p + step) % all) (m - 1) := by
  obtain ⟨j, hj, hf⟩ := h
  cases j with
  | zero =>
    rw [show (p + ((0 : Nat) : Int) * step) = p by omega, Int.emod_eq_of_lt hp.1 hp.2] at hf
    omega
  | succ j =>
    refine ⟨by omega, j, by omega, ?_⟩
    rw [Int.emod_add_emod]
    have e : p + step + (j : Int) * step = p + ((j + 1 : Nat) : Int) * step := by
      have : ((j + 1 : Nat) : Int) = (j : Int) + 1 := by omega
      rw [this]
      grind
    rw [e]
    exact hf
/-- taken places -/
def tk (sy : Int → Int) (row : Int) : Int → Int := fun k => if 0 ≤ sy (row + k) then 1 else 0
theorem tk_eq (sy : Int → Int) (row k : Int) : 0 ≤ sy (row + k) ∧ tk sy row k = 1 ∨ sy (row + k) < 0 ∧ tk sy row k = 0 := by
  unfold tk
  by_cases h : 0 ≤ sy (row + k)
  · rw [if_pos h]; omega
  · rw [if_neg h]; omega
theorem tk_upd {sy : Int → Int} {row p v : Int} {n : Nat} (hp : 0 ≤ p ∧ p < n) (h0 : sy (row + p) < 0) (hv : 0 ≤ v) : su (tk (upd1 sy (row + p) v) row) n = su (tk sy row) n + 1 := by
  rw [su_upd (f := tk sy row) (j := p) hp.1 hp.2]
  · have a := tk_eq sy row p
    have b := tk_eq (upd1 sy (row + p) v) row p
    rw [upd1_s] at b
    omega
  · intro i _ _ hi
    unfold tk
    rw [upd1_o (by omega)]
theorem FM_ex {sy : Int → Int} {row o p : Int} (h : 5 ≤ o ∧ o ≤ 9) (hc : su (tk sy row) (p2 o).toNat < p2 o) : ∃ m : Nat, FM sy row (p2 o) (p2 o / 2 + p2 o / 8 + 3) p m := by
  have hp := p2_pos o
  obtain ⟨q, a, b, c⟩ := su_free (f := tk sy row) (n := (p2 o).toNat) (fun i _ _ => by have := tk_eq sy row i; omega) (by omega)
  obtain ⟨j, hj⟩ := share_met (p := p) h a (by omega)
  refine ⟨j, j, Nat.le_refl _, ?_⟩
  rw [hj]
  have := tk_eq sy row q
  omega
/-- while a share is laid: each place is free or has a symbol that has points -/
def LY (g : Int → Int) (at_ n : Int) (sy : Int → Int) (row all : Int) : Prop := ∀ k, 0 ≤ k → k < all → sy (row + k) = -1 ∨ 0 ≤ sy (row + k) ∧ sy (row + k) < n ∧ g (at_ + sy (row + k)) ≠ 0
theorem LY_upd {g sy : Int → Int} {at_ n row all p s : Int} (h : LY g at_ n sy row all) (hs : 0 ≤ s ∧ s < n) (hg : g (at_ + s) ≠ 0) : LY g at_ n (upd1 sy (row + p) s) row all := by
  intro k a b
  by_cases e : k = p
  · subst e
    rw [upd1_s]
    exact .inr ⟨hs.1, hs.2, hg⟩
  · rw [upd1_o (by omega)]
    exact h k a b
theorem SH_parts {g : Int → Int} {at_ n order last : Int} (h : SH g at_ n order last) : su (fun i => neg1 (g (at_ + i))) n.toNat + su (fun i => posi (g (at_ + i))) n.toNat = p2 order := by
  rw [← su_add, ← h.2.2.2.2]
  exact su_congr (fun i _ _ => (mass_sum _).symm)
/-! more of sums, of powers -/
theorem fill_upd {g : Int → Int} {r i v : Int} (h : ∀ k, 0 ≤ k → k < i → g (r + k) = v) : ∀ k, 0 ≤ k → k < i + 1 → upd1 g (r + i) v (r + k) = v := by
  intro k a b
  by_cases e : k = i
  · subst e; rw [upd1_s]
  · rw [upd1_o (by omega)]; exact h k a (by omega)
theorem pt_upd {g h : Int → Int} {i v : Int} (e : ∀ k, 0 ≤ k → k < i → g k = h k) (q : v = h i) : ∀ k, 0 ≤ k → k < i + 1 → upd1 g i v k = h k := by
  intro k a b
  by_cases e2 : k = i
  · subst e2; rw [upd1_s]; exact q
  · rw [upd1_o e2]; exact e k a (by omega)
theorem fill_tk {sy : Int → Int} {row n : Int} (h : ∀ k, 0 ≤ k → k < n → sy (row + k) = -1) : su (tk sy row) n.toNat = 0 := by
  rw [su_congr (h := fun _ => 0)]
  · have : ∀ m : Nat, su (fun _ => 0) m = 0 := by
      intro m
      induction m with
      | zero => rfl
      | succ m ih => show su (fun _ => 0) m + 0 = 0; rw [ih]; rfl
    exact this _
  · intro i a b
    have := tk_eq sy row i
    have := h i a (by omega)
    omega
theorem su_full {f : Int → Int} : ∀ {n : Nat}, (∀ i : Int, 0 ≤ i → i < n → f i = 0 ∨ f i = 1) → su f n = n → ∀ i : Int, 0 ≤ i → i < n → f i = 1
  | 0, _, _, i, a, b => by omega
  | n + 1, e, h, i, a, b => by
    have e1 : su f (n + 1) = su f n + f n := rfl
    have e2 : su f n ≤ n := by
      have : su f n ≤ su (fun _ => 1) n := su_le (fun i a b => by have := e i a (by omega); omega)
      have e3 : ∀ m : Nat, su (fun _ => 1) m = m := by
        intro m
        induction m with
        | zero => rfl
        | succ m ih => show su (fun _ => 1) m + 1 = _; rw [ih]; omega
      rw [e3] at this
      exact this
    have e3 := e n (by omega) (by omega)
    by_cases q : i = n
    · rw [q]; omega
    · exact su_full (f := f) (n := n) (fun i a b => e i a (by omega)) (by omega) i a (by omega)
theorem tk_full {sy : Int → Int} {row n : Int} (hn : 0 ≤ n) (h : su (tk sy row) n.toNat = n) : ∀ k, 0 ≤ k → k < n → 0 ≤ sy (row + k) := by
  intro k a b
  have := su_full (f := tk sy row) (n := n.toNat) (fun i _ _ => by have := tk_eq sy row i; omega) (by omega) k a (by omega)
  have := tk_eq sy row k
  omega
theorem su_le_all {f : Int → Int} {i n : Int} (h0 : 0 ≤ i) (h1 : i ≤ n) (h : ∀ i, 0 ≤ i → 0 ≤ f i) : 0 ≤ su f i.toNat ∧ su f i.toNat ≤ su f n.toNat := by
  refine ⟨su_nonneg (fun j a _ => h j a), ?_⟩
  have := su_mono (f := f) (n := i.toNat) (k := (n - i).toNat) h
  rw [show i.toNat + (n - i).toNat = n.toNat by omega] at this
  exact this
theorem SH_neg {g : Int → Int} {at_ n order last : Int} (s : Int) (h : SH g at_ n order last) (h0 : 0 ≤ s) (h1 : s ≤ n) : 0 ≤ su (fun i => neg1 (g (at_ + i))) s.toNat ∧ su (fun i => neg1 (g (at_ + i))) s.toNat ≤ su (fun i => neg1 (g (at_ + i))) n.toNat ∧ 0 ≤ su (fun i => posi (g (at_ + i))) s.toNat ∧ su (fun i => posi (g (at_ + i))) s.toNat ≤ su (fun i => posi (g (at_ + i))) n.toNat ∧ su (fun i => neg1 (g (at_ + i))) n.toNat + su (fun i => posi (g (at_ + i))) n.toNat = p2 order := by
  have a := su_le_all (f := fun i => neg1 (g (at_ + i))) h0 h1 (fun i _ => by have := neg1_eq (g (at_ + i)); omega)
  have b := su_le_all (f := fun i => posi (g (at_ + i))) h0 h1 (fun i _ => by have := posi_eq (g (at_ + i)); omega)
  exact ⟨a.1, a.2, b.1, b.2, SH_parts h⟩
theorem SH_le {g : Int → Int} {at_ n order last : Int} (s : Int) (h : SH g at_ n order last) (h0 : 0 ≤ s) (h1 : s < n) : -1 ≤ g (at_ + s) ∧ g (at_ + s) ≤ p2 order ∧ mass (g (at_ + s)) ≤ p2 order ∧ (g (at_ + s) ≠ 0 → s ≤ last) := by
  have a := su_le_all (f := fun i => mass (g (at_ + i))) (i := s + 1) (n := n) (by omega) (by omega) (fun i _ => by have := mass_eq (g (at_ + i)); omega)
  have b := su_le_all (f := fun i => mass (g (at_ + i))) (i := s) (n := n) (by omega) (by omega) (fun i _ => by have := mass_eq (g (at_ + i)); omega)
  rw [su_s h0, h.2.2.2.2] at a
  have c := mass_eq (g (at_ + s))
  have d := h.2.2.1 s h0 h1
  refine ⟨d, by omega, by omega, fun q => ?_⟩
  by_cases e : s ≤ last
  · exact e
  · exact absurd (h.2.2.2.1 s (by omega) h1 h0) q
theorem p2_lt {a b : Int} (h0 : 0 ≤ a) (h : p2 a < p2 b) : a < b := by
  by_cases e : a < b
  · exact e
  · have := p2_mono (show b ≤ a by omega)
    omega
theorem hi_base {x r o : Int} (h1 : p2 r ≤ x) (h2 : x < 2 * p2 r) (h0 : 0 ≤ r) (hx : x < 2 * p2 o) (ho : 0 ≤ o) : r ≤ o ∧ 0 ≤ x * p2 (o - r) - p2 o ∧ x * p2 (o - r) - p2 o + p2 (o - r) ≤ p2 o := by
  have h3 : r < o + 1 := p2_lt h0 (by rw [p2_s ho]; omega)
  have e : p2 o = p2 r * p2 (o - r) := by rw [← p2_add h0 (by omega)]; congr 1; omega
  have hp := p2_pos (o - r)
  have a : p2 r * p2 (o - r) ≤ x * p2 (o - r) := Int.mul_le_mul_of_nonneg_right h1 (by omega)
  have b : (x + 1) * p2 (o - r) ≤ (2 * p2 r) * p2 (o - r) := Int.mul_le_mul_of_nonneg_right (by omega) (by omega)
  rw [Int.add_mul, Int.mul_assoc, ← e] at b
  rw [← e] at a
  refine ⟨by omega, by omega, by omega⟩
def TJ (sy bi ba : Int → Int) (row order last lim : Int) : Prop := ∀ k, 0 ≤ k → k < lim → 0 ≤ sy (row + k) ∧ sy (row + k) ≤ last ∧ 0 ≤ bi (row + k) ∧ bi (row + k) ≤ order ∧ 0 ≤ ba (row + k) ∧ ba (row + k) + p2 (bi (row + k)) ≤ p2 order
theorem TJ_next {sy bi ba : Int → Int} {row order last k b z : Int} (h : TJ sy bi ba row order last k) (hs : 0 ≤ sy (row + k) ∧ sy (row + k) ≤ last) (hb : 0 ≤ b ∧ b ≤ order) (hz : 0 ≤ z ∧ z + p2 b ≤ p2 order) : TJ sy (upd1 bi (row + k) b) (upd1 ba (row + k) z) row order last (k + 1) := by
  intro j a c
  by_cases e : j = k
  · subst e
    rw [upd1_s, upd1_s]
    exact ⟨hs.1, hs.2, hb.1, hb.2, hz.1, hz.2⟩
  · rw [upd1_o (by omega), upd1_o (by omega)]
    exact h j a (by omega)
/-- what is seen of the symbols while states are numbered -/
def SN (g : Int → Int) (at_ n : Int) (seen : Int → Int) (lim : Int) : Prop := ∀ i, 0 ≤ i → i < n → g (at_ + i) ≠ 0 → 1 ≤ seen i ∧ seen i ≤ lim
theorem SN_next {g seen : Int → Int} {at_ n lim lim2 s y : Int} (h : SN g at_ n seen lim) (hy : 1 ≤ y ∧ y ≤ lim2) (hl : lim ≤ lim2) : SN g at_ n (upd1 seen s y) lim2 := by
  intro i a b c
  by_cases e : i = s
  · subst e; rw [upd1_s]; omega
  · rw [upd1_o e]; have := h i a b c; omega
theorem bitmul {z y : Int} (h : 0 ≤ z ∧ z ≤ 1) : z * y = 0 ∧ z = 0 ∨ z * y = y ∧ z = 1 := by
  rcases (show z = 0 ∨ z = 1 by omega) with e | e <;> subst e
  · left; omega
  · right; omega
section SH1
variable {σ0 σ : rS} {D N : Nat → Nat} {F : hF} {A : hA} {μ d pc c s : Nat} {ls : rO} {st : List Value} {Q : wQ} {len : Nat} {act : rA}
theorem w_ishlT {a b : Int} (hf : PP.1 μ pc = some (.ishl, len, act)) (hb : 0 ≤ b ∧ b ≤ 31) (h : Ew μ d (pc + 1) ls (I (a * p2 b) :: st) σ c s Q) : Ew μ d pc ls (I b :: I a :: st) σ c s Q :=
  Ew_of (fun _ => x_ishl hf (z := a * p2 b) (shl32 hb)) h
theorem w_ishl1 {b : Int} (hf : PP.1 μ pc = some (.ishl, len, act)) (hb : 0 ≤ b ∧ b ≤ 31) (h : Ew μ d (pc + 1) ls (I (p2 b) :: st) σ c s Q) : Ew μ d pc ls (I b :: I 1 :: st) σ c s Q := by
  refine w_ishlT hf hb ?_
  rw [Int.one_mul]
  exact h
theorem w_lshlT {a b : Int} (hf : PP.1 μ pc = some (.lshl, len, act)) (hb : 0 ≤ b ∧ b ≤ 63) (h : Ew μ d (pc + 1) ls (J (a * p2 b) :: st) σ c s Q) : Ew μ d pc ls (I b :: J a :: st) σ c s Q :=
  Ew_of (fun _ => x_lshl hf (z := a * p2 b) (shl64 hb)) h
theorem w_lshl1 {b : Int} (hf : PP.1 μ pc = some (.lshl, len, act)) (hb : 0 ≤ b ∧ b ≤ 63) (h : Ew μ d (pc + 1) ls (J (p2 b) :: st) σ c s Q) : Ew μ d pc ls (I b :: J 1 :: st) σ c s Q := by
  refine w_lshlT hf hb ?_
  rw [Int.one_mul]
  exact h
end SH1
