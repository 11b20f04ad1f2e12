def DVI (co tr : Int → Int) (n : Int) : Prop := ∀ s, 0 ≤ s → s < n → co s = 0 ∧ tr s = 0 ∨ 1 ≤ co s ∧ (tr s = -1 ∨ 1 ≤ tr s)
def DVJ (co tr : Int → Int) (n all p : Int) : Prop := ∀ s, 0 ≤ s → s < n → tr s ≤ 0 → co s * p ≤ (all - 1) * pos1 (co s)
def EXP (tr : Int → Int) : Prop := ∃ s, 0 ≤ s ∧ s < 64 ∧ 0 < tr s
def FREE (tr hd : Int → Int) (n : Int) : Prop := ∃ s, 0 ≤ s ∧ s < n ∧ 0 < tr s ∧ hd s = 0
theorem DV1 {v n p : Int} (h0 : 0 ≤ v) (h1 : v ≤ n) (hn : 1 ≤ n) (hp : 1 ≤ p) : (v = 0 → v * p = 0) ∧ (v ≠ 0 → v * p ≠ 0) ∧ 0 ≤ v * p ∧ v * p ≤ n * p ∧ (n ≤ v * p → 1 ≤ v * p / n) ∧ 0 ≤ v * p / n ∧ v * p / n ≤ p := by
  have a : 0 ≤ v * p := Int.mul_nonneg h0 (by omega)
  have b : v * p ≤ n * p := Int.mul_le_mul_of_nonneg_right h1 (by omega)
  have c : v * 1 ≤ v * p := Int.mul_le_mul_of_nonneg_left hp h0
  refine ⟨fun e => by rw [e]; omega, fun e => by omega, a, b, fun e => ?_, Int.ediv_nonneg a (by omega), ?_⟩
  · exact Int.le_ediv_of_mul_le (by omega) (by omega)
  · have : v * p / n ≤ n * p / n := Int.ediv_le_ediv (by omega) b
    rw [Int.mul_ediv_cancel_left _ (by omega)] at this
    exact this
theorem su_mul {f : Int → Int} {p : Int} : ∀ {n : Nat}, su (fun i => f i * p) n = su f n * p
  | 0 => by show (0 : Int) = 0 * p; omega
  | n + 1 => by
    show su (fun i => f i * p) n + f n * p = (su f n + f n) * p
    rw [su_mul, Int.add_mul]
theorem su_mull {f : Int → Int} {p : Int} {n : Nat} : su (fun i => p * f i) n = p * su f n := by
  rw [su_congr (h := fun i => f i * p) (fun i _ _ => Int.mul_comm _ _), su_mul, Int.mul_comm]
/-- some symbol has points: they can't all be below the share of one -/
theorem EXP_of {co tr : Int → Int} {all p : Int} (hj : DVJ co tr 64 all p) (hs : su (fun i => co i) 64 = all) (hd : su (fun i => pos1 (co i)) 64 ≤ p) (ha : 1 ≤ all) (hp : 1 ≤ p) : EXP tr := by
  by_cases q : EXP tr
  · exact q
  · exfalso
    have h : ∀ s, (0 : Int) ≤ s → s < 64 → tr s ≤ 0 := fun s a b => by
      by_cases w : tr s ≤ 0
      · exact w
      · exact absurd ⟨s, a, b, by omega⟩ q
    have l : su (fun i => co i * p) 64 ≤ su (fun i => (all - 1) * pos1 (co i)) 64 := su_le (fun i a b => hj i a (by omega) (h i a (by omega)))
    rw [su_mul (f := fun i => co i), su_mull (f := fun i => pos1 (co i)), hs] at l
    have m : (all - 1) * su (fun i => pos1 (co i)) 64 ≤ (all - 1) * p := Int.mul_le_mul_of_nonneg_left hd (by omega)
    have e : (all - 1) * p = all * p - p := by rw [Int.sub_mul, Int.one_mul]
    omega
theorem DVI_inc {co tr : Int → Int} {n s v : Int} (h : DVI co tr n) (hs : 0 < tr s) (hv : v = tr s + 1) : DVI co (upd1 tr s v) n := by
  intro x a b
  by_cases e : x = s
  · subst e; rw [upd1_s]; have := h x a b; omega
  · rw [upd1_o e]; exact h x a b
theorem DVI_dec {co tr : Int → Int} {n s v : Int} (h : DVI co tr n) (hs : 2 ≤ tr s) (hv : v = tr s - 1) : DVI co (upd1 tr s v) n := by
  intro x a b
  by_cases e : x = s
  · subst e; rw [upd1_s]; have := h x a b; omega
  · rw [upd1_o e]; exact h x a b
theorem EXP_inc {tr : Int → Int} {s v : Int} (h : EXP tr) (hs : 0 < tr s) (hv : v = tr s + 1) : EXP (upd1 tr s v) := by
  obtain ⟨x, a, b, c⟩ := h
  refine ⟨x, a, b, ?_⟩
  by_cases e : x = s
  · subst e; rw [upd1_s]; omega
  · rw [upd1_o e]; exact c
theorem mass_upd {g : Int → Int} {j v : Int} {n : Nat} (h0 : 0 ≤ j) (h1 : j < n) : su (fun i => mass (upd1 g j v i)) n = su (fun i => mass (g i)) n + (mass v - mass (g j)) := su_upd1 mass h0 h1
/-- too much in all: some symbol has two points at least -/
theorem two_ex {co tr : Int → Int} {p : Int} (h : DVI co tr 64) (hd : su (fun i => pos1 (co i)) 64 ≤ p) (hs : p < su (fun i => mass (tr i)) 64) : ∃ s, 0 ≤ s ∧ s < 64 ∧ 2 ≤ tr s := by
  by_cases q : ∃ s, 0 ≤ s ∧ s < 64 ∧ 2 ≤ tr s
  · exact q
  · exfalso
    have l : su (fun i => mass (tr i)) 64 ≤ su (fun i => pos1 (co i)) 64 := su_le (fun i a b => by
      have w : tr i < 2 := by
        by_cases w : tr i < 2
        · exact w
        · exact absurd ⟨i, a, by omega, by omega⟩ q
      have := h i a (by omega)
      have := mass_eq (tr i)
      have := pos1_eq (co i)
      omega)
    omega
theorem SH_div {co tr : Int → Int} {o last : Int} (ho : 5 ≤ o ∧ o ≤ 9) (h : DVI co tr 64) (hs : su (fun i => mass (tr i)) 64 = p2 o) (hl : ∀ i, last < i → i < 64 → 0 ≤ i → co i = 0) : SH tr 0 64 o last := by
  refine ⟨ho.1, ho.2, fun i a b => ?_, fun i a b c => ?_, ?_⟩
  · rw [Int.zero_add]; have := h i a b; omega
  · rw [Int.zero_add]; have := h i c b; have := hl i a b c; omega
  · rw [← hs]
    exact su_congr (fun i _ _ => by rw [Int.zero_add])
def TRU (_ : Int → Int) : Prop := True
