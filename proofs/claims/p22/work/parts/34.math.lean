theorem SH_copy {g gₚ : Int → Int} {b b' o l : Int} (h : SH g b 64 o l) (e : ∀ k, 0 ≤ k → k < 64 → gₚ (b' + k) = g (b + k)) : SH gₚ b' 64 o l := by
  refine ⟨h.1, h.2.1, fun i a c => by rw [e i a c]; exact h.2.2.1 i a c, fun i a c d => by rw [e i d c]; exact h.2.2.2.1 i a c d, ?_⟩
  rw [← h.2.2.2.2]
  exact su_congr (fun i a c => by rw [e i a (by omega)])
theorem SH_12 {g : Int → Int} {o : Int} (h : SH g 0 64 o 11) : SH g 0 12 o 11 := by
  refine ⟨h.1, h.2.1, fun i a c => h.2.2.1 i a (by omega), fun i a c d => h.2.2.2.1 i a (by omega) d, ?_⟩
  rw [← h.2.2.2.2]
  have e := su_split (f := fun i => mass (g (0 + i))) (n := 12) (k := 52) (fun i a c => by
    have : g (0 + i) = 0 := h.2.2.2.1 i (by omega) (by omega) (by omega)
    show mass (g (0 + i)) = 0
    rw [this]; decide)
  exact e.symm
theorem SH_lit {K g : Int → Int} {b o l : Int} (ho : 5 ≤ o ∧ o ≤ 9) (hb : (List.range 64).all (fun i => decide (-1 ≤ K i) && (decide ((i : Int) ≤ l) || decide (K i = 0))) = true) (hs : su (fun i => mass (K i)) 64 = p2 o) (e : ∀ i, (0 : Int) ≤ i → i < 64 → g (b + i) = K i) : SH g b 64 o l := by
  have q : ∀ i : Int, 0 ≤ i → i < 64 → -1 ≤ K i ∧ (i ≤ l ∨ K i = 0) := by
    intro i a c
    have := List.all_eq_true.mp hb i.toNat (List.mem_range.mpr (by omega))
    rw [Int.toNat_of_nonneg a] at this
    simpa using this
  refine ⟨ho.1, ho.2, fun i a c => by rw [e i a c]; exact (q i a c).1, fun i a c d => by rw [e i d c]; have := (q i d c).2; omega, ?_⟩
  rw [← hs]
  exact su_congr (fun i a c => by rw [e i a (by omega)])
theorem p2_inj {r h x : Int} (h0 : 0 ≤ r) (h1 : 0 ≤ h) (e : p2 h = x) (a : p2 r ≤ x) (b : x < 2 * p2 r) : p2 r = x := by
  have c : r < h + 1 := p2_lt h0 (by rw [p2_s h1]; omega)
  have d : h < r + 1 := p2_lt h1 (by rw [p2_s h0]; omega)
  rw [← e]
  congr 1
  omega
theorem desc_ok {w : Int → Int} {n sum z r : Int} (hn : 0 ≤ n) (hsum : sum = su (fun i => wk (w i)) n.toNat) (h1 : p2 z ≤ sum) (h2 : sum < 2 * p2 z) (hz : 0 ≤ z) (hr0 : 0 ≤ r) (hr : p2 r = 2 * p2 z - sum) : r ≤ z ∧ (∀ i, 0 ≤ i → i ≤ n → upd1 w n (r + 1) i ≤ z + 1) ∧ su (fun i => wk (upd1 w n (r + 1) i)) (n + 1).toNat = p2 (z + 1) := by
  have hp := p2_s hz
  have q : r < z + 1 := p2_lt hr0 (by have := p2_pos z; omega)
  refine ⟨by omega, fun i a b => ?_, ?_⟩
  · by_cases e : i = n
    · subst e; rw [upd1_s]; omega
    · rw [upd1_o e]
      have h3 := wk_le (w := w) (n := n) (i := i) a (by omega)
      have h4 := wk_eq (w i)
      by_cases h5 : 0 < w i
      · have : w i - 1 < z + 1 := p2_lt (by omega) (by omega)
        omega
      · omega
  · rw [su_s hn, upd1_s, su_congr (h := fun i => wk (w i)) (fun i a b => by rw [upd1_o (by omega)]), ← hsum, hp]
    have := wk_eq (r + 1)
    rw [show r + 1 - 1 = r by omega] at this
    omega
theorem on1_upd {w : Int → Int} {n v : Int} (hn : 0 ≤ n) : su (fun i => on1 (upd1 w n v i)) (n + 1).toNat = su (fun i => on1 (w i)) n.toNat + on1 v := by
  rw [su_s hn, upd1_s, su_congr (h := fun i => on1 (w i)) (fun i a b => by rw [upd1_o (by omega)])]
theorem CI_congr {g gₚ : Int → Int} {T : Int} (h : CI g T) (e : ∀ i, (0 : Int) ≤ i → i < 256 → gₚ i = g i) : CI gₚ T := by
  refine ⟨h.1, h.2.1, fun i a b => by rw [e i a b]; exact h.2.2.1 i a b, ?_, ?_⟩
  · rw [← h.2.2.2.1]
    exact su_congr (fun i a b => by rw [e i a (by omega)])
  · obtain ⟨i, a, b, c⟩ := h.2.2.2.2
    exact ⟨i, a, b, by rw [e i a b]; exact c⟩
/-! the known shares -/
def K0 : Int → Int := rns (rns (rns (rns (rns (rns (rns (rns (rns (fun _ => 0) 0 1 4) 1 1 3) 2 11 2) 13 3 1) 16 9 2) 25 1 3) 26 1 2) 27 5 1) 32 4 (-1)
def K1 : Int → Int := rns (rns (rns (rns (fun _ => 0) 0 6 1) 6 3 2) 9 15 1) 24 5 (-1)
def K2 : Int → Int := rns (rns (rns (rns (rns (rns (fun _ => 0) 0 1 1) 1 1 4) 2 1 3) 3 6 2) 9 37 1) 46 7 (-1)
theorem SH_K0 {g : Int → Int} {b : Int} (e : ∀ i, (0 : Int) ≤ i → i < 64 → g (b + i) = K0 i) : SH g b 64 6 35 := SH_lit (by omega) (by decide +kernel) (by decide +kernel) e
theorem SH_K1 {g : Int → Int} {b : Int} (e : ∀ i, (0 : Int) ≤ i → i < 64 → g (b + i) = K1 i) : SH g b 64 5 31 := SH_lit (by omega) (by decide +kernel) (by decide +kernel) e
theorem SH_K2 {g : Int → Int} {b : Int} (e : ∀ i, (0 : Int) ≤ i → i < 64 → g (b + i) = K2 i) : SH g b 64 6 52 := SH_lit (by omega) (by decide +kernel) (by decide +kernel) e
theorem kd_upd {g d : Int → Int} {b i v : Int} (h : ∀ k, 0 ≤ k → k < i → g (b + k) = d (0 + k)) (q : v = d i) : ∀ k, 0 ≤ k → k < i + 1 → upd1 g (b + i) v (b + k) = d (0 + k) := by
  intro k a c
  by_cases e : k = i
  · subst e; rw [upd1_s, Int.zero_add]; exact q
  · rw [upd1_o (by omega)]; exact h k a (by omega)
def IP (a : Int) : Prop := ∃ h : Int, 0 ≤ h ∧ p2 h = a
theorem IP_eq {r x : Int} (h : IP x) (h0 : 0 ≤ r) (a : p2 r ≤ x) (b : x < 2 * p2 r) : p2 r = x := by
  obtain ⟨y, h1, e⟩ := h
  exact p2_inj h0 h1 e a b
