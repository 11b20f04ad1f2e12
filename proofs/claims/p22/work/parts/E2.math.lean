/-! points by counts -/
def EXC2 (tr : Int → Int) (n : Int) : Prop := ∃ s, 0 ≤ s ∧ s < n ∧ 0 < tr s
def CNT (co : Int → Int) (n total L : Int) : Prop := (∀ s, 0 ≤ s → s < n → 0 ≤ co s ∧ co s ≤ total) ∧ su co n.toNat = total ∧ 1 ≤ total ∧ total ≤ 65536 ∧ su (fun i => pos1 (co i)) n.toNat ≤ p2 L ∧ 5 ≤ L ∧ L ≤ 9 ∧ 1 ≤ n ∧ n ≤ 64
theorem CNT_f {co : Int → Int} {n total L : Int} (h : CNT co n total L) : 1 ≤ total ∧ total ≤ 65536 ∧ 5 ≤ L ∧ L ≤ 9 ∧ 1 ≤ n ∧ n ≤ 64 ∧ 32 ≤ p2 L ∧ p2 L ≤ 512 := by
  obtain ⟨-, -, a, b, -, c, d, e, f⟩ := h
  have q := p2_5 ⟨c, d⟩
  omega
theorem EXC2_of {co tr : Int → Int} {n all p : Int} (hj : DVJ co tr n all p) (hs : su co n.toNat = all) (hd : su (fun i => pos1 (co i)) n.toNat ≤ p) (ha : 1 ≤ all) (hp : 1 ≤ p) : EXC2 tr n := by
  by_cases q : EXC2 tr n
  · exact q
  · exfalso
    have h : ∀ s, (0 : Int) ≤ s → s < n → tr s ≤ 0 := fun s a b => by
      by_cases w : tr s ≤ 0
      · exact w
      · exact absurd ⟨s, a, b, by omega⟩ q
    have l : su (fun i => co i * p) n.toNat ≤ su (fun i => (all - 1) * pos1 (co i)) n.toNat := su_le (fun i a b => hj i a (by omega) (h i a (by omega)))
    rw [su_mul (f := co), su_mull (f := fun i => pos1 (co i)), hs] at l
    have m : (all - 1) * su (fun i => pos1 (co i)) n.toNat ≤ (all - 1) * p := Int.mul_le_mul_of_nonneg_left hd (by omega)
    have e : (all - 1) * p = all * p - p := by rw [Int.sub_mul, Int.one_mul]
    omega
theorem two_exN {co tr : Int → Int} {n p : Int} (h : DVI co tr n) (hd : su (fun i => pos1 (co i)) n.toNat ≤ p) (hs : p < mp tr n) : ∃ s, 0 ≤ s ∧ s < n ∧ 2 ≤ tr s := by
  by_cases q : ∃ s, 0 ≤ s ∧ s < n ∧ 2 ≤ tr s
  · exact q
  · exfalso
    have l : su (fun i => mass (tr i)) n.toNat ≤ su (fun i => pos1 (co i)) n.toNat := su_le (fun i a b => by
      have w : tr i < 2 := by
        by_cases w : tr i < 2
        · exact w
        · exact absurd ⟨i, a, by omega, by omega⟩ q
      have := h i a (by omega)
      have := mass_eq (tr i)
      have := pos1_eq (co i)
      omega)
    unfold mp at hs
    omega
theorem cmul {v t p : Int} (v0 : 0 ≤ v) (v1 : v ≤ t) (t0 : 1 ≤ t) (t1 : t ≤ 65536) (p0 : 1 ≤ p) (p1 : p ≤ 512) : 0 ≤ v * p ∧ v * p ≤ 33554432 ∧ (v = 0 ∧ v * p = 0 ∨ 1 ≤ v ∧ 1 ≤ v * p) ∧ (v * p < t ∨ 1 ≤ v * p / t) ∧ 0 ≤ v * p / t ∧ v * p / t ≤ p ∧ 0 ≤ v * p % t ∧ v * p % t < t := by
  have d := DV1 v0 v1 t0 p0
  have m : t * p ≤ 65536 * 512 := Int.mul_le_mul t1 p1 (by omega) (by omega)
  refine ⟨d.2.2.1, by omega, ?_, ?_, d.2.2.2.2.2.1, d.2.2.2.2.2.2, Int.emod_nonneg _ (by omega), Int.emod_lt_of_pos _ (by omega)⟩
  · by_cases w : v = 0
    · exact .inl ⟨w, d.1 w⟩
    · have := d.2.1 w
      exact .inr ⟨by omega, by omega⟩
  · by_cases w : v * p < t
    · exact .inl w
    · exact .inr (d.2.2.2.2.1 (by omega))
theorem dj_of {v t p : Int} (v0 : 0 ≤ v) (t0 : 1 ≤ t) (h : v * p < t) : v * p ≤ (t - 1) * pos1 v := by
  rcases pos1_eq v with ⟨a, b⟩ | ⟨a, b⟩
  · rw [b, a]; omega
  · rw [b]; omega
theorem DVI_s {co tr : Int → Int} {k k2 v : Int} (h : DVI co tr k) (e : k2 = k + 1) (hv : co k = 0 ∧ v = 0 ∨ 1 ≤ co k ∧ (v = -1 ∨ 1 ≤ v)) : DVI co (upd1 tr k v) k2 := fun s a b => by
  by_cases w : s = k
  · subst w; rw [upd1_s]; exact hv
  · rw [upd1_o w]; exact h s a (by omega)
theorem DVJ_s {co tr : Int → Int} {k k2 v all p : Int} (h : DVJ co tr k all p) (e : k2 = k + 1) (hv : v ≤ 0 → co k * p ≤ (all - 1) * pos1 (co k)) : DVJ co (upd1 tr k v) k2 all p := fun s a b c => by
  by_cases w : s = k
  · subst w; rw [upd1_s] at c; exact hv c
  · rw [upd1_o w] at c; exact h s a (by omega) c
theorem mp_low {g : Int → Int} {k v : Int} : mp (upd1 g k v) k = mp g k := by
  unfold mp
  exact su_congr (fun i a b => by rw [upd1_o (by omega)])
theorem mp_updN {g : Int → Int} {n j v : Int} (h0 : 0 ≤ j) (h1 : j < n) : mp (upd1 g j v) n = mp g n + (mass v - mass (g j)) := su_upd1 mass h0 (by omega)
theorem EXC2_inc {tr : Int → Int} {n s v : Int} (h : EXC2 tr n) (hs : 0 < tr s) (hv : v = tr s + 1) : EXC2 (upd1 tr s v) n := by
  obtain ⟨x, a, b, c⟩ := h
  refine ⟨x, a, b, ?_⟩
  by_cases e : x = s
  · subst e; rw [upd1_s]; omega
  · rw [upd1_o e]; exact c
/-- a search that began anew has found one, or none has points -/
def GRN (tr : Int → Int) (r t x k : Int) : Prop := r = t → x = -1 → ∀ s, 0 ≤ s → s < k → tr s ≤ 0
theorem GRN_0 {tr : Int → Int} {r t x : Int} : GRN tr r t x 0 := fun _ _ s a b => by omega
theorem GRN_hit {tr : Int → Int} {r t x k : Int} (h : 0 ≤ x) : GRN tr r t x k := fun _ q => by omega
theorem GRN_s {tr : Int → Int} {r t x k k2 : Int} (h : GRN tr r t x k) (e : k2 = k + 1) (hk : r = t → x = -1 → tr k ≤ 0) : GRN tr r t x k2 := fun a b s c d => by
  by_cases w : s = k
  · subst w; exact hk a b
  · exact h a b s c (by omega)
theorem GRN_ex {tr : Int → Int} {r t x n : Int} (h : GRN tr r t x n) (e : EXC2 tr n) (a : r = t) (b : x = -1) : False := by
  obtain ⟨s, s0, s1, s2⟩ := e
  have := h a b s s0 s1
  omega
def MXI (tr : Int → Int) (x k : Int) : Prop := ∀ s, 0 ≤ s → s < k → tr s ≤ tr x
theorem MXI_1 {tr : Int → Int} : MXI tr 0 1 := fun s a b => by
  have : s = 0 := by omega
  subst this
  omega
theorem MXI_keep {tr : Int → Int} {x k k2 : Int} (h : MXI tr x k) (e : k2 = k + 1) (hk : tr k ≤ tr x) : MXI tr x k2 := fun s a b => by
  by_cases w : s = k
  · subst w; exact hk
  · exact h s a (by omega)
theorem MXI_new {tr : Int → Int} {x k k2 : Int} (h : MXI tr x k) (e : k2 = k + 1) (hk : tr x < tr k) : MXI tr k k2 := fun s a b => by
  by_cases w : s = k
  · subst w; omega
  · have := h s a (by omega); omega
theorem MXI_two {tr : Int → Int} {x n : Int} (h : MXI tr x n) (e : ∃ s, 0 ≤ s ∧ s < n ∧ 2 ≤ tr s) : 2 ≤ tr x := by
  obtain ⟨s, a, b, c⟩ := e
  have := h s a b
  omega
/-! what a laid share answers -/
theorem SL_sym {P M B S sy X pl : Int → Int} {n L k : Int} (h : SL P n L M B S sy X pl) (k0 : 0 ≤ k) (k1 : k < p2 L) : 0 ≤ sy k ∧ sy k < n ∧ P (sy k) ≠ 0 ∧ X k = XN P sy k ∧ 1 ≤ mass (P (sy k)) ∧ mass (P (sy k)) ≤ p2 L ∧ mass (P (sy k)) ≤ XN P sy k ∧ XN P sy k < 2 * mass (P (sy k)) ∧ BT (mass (P (sy k))) (L - B (sy k)) := by
  obtain ⟨hd, ha, hm, hs, hb, hx, hp⟩ := h
  have f := SHD_f hd
  have r := LAID_rngO hd.1 (by omega) ha k0 k1
  have t := SHD_at hd r.1 r.2.1
  have e := su_eqs_lt (fun s a b => LAID_cnt hd.1 (by omega) ha hd.2.2.2.2 a b) k0 k1 rfl r.1 r.2.1
  have m := mass_eq (P (sy k))
  have q : XN P sy k = mass (P (sy k)) + su (eqs sy (sy k)) k.toNat := rfl
  exact ⟨r.1, r.2.1, r.2.2, hx k k0 k1, by omega, by omega, by omega, by omega, hb _ r.1 r.2.1⟩
/-- how many bits are behind a place -/
def BB (P : Int → Int) (L : Int) (sy : Int → Int) (k b : Int) : Prop := 0 ≤ b ∧ b ≤ L ∧ p2 (L - b) ≤ XN P sy k ∧ XN P sy k < 2 * p2 (L - b)
theorem BB_uniq {P sy : Int → Int} {L k b c : Int} (h : BB P L sy k b) (g : BB P L sy k c) : b = c := by
  have := p2_same (r := L - b) (t := L - c) (by have := h.2.1; omega) (by have := g.2.1; omega) h.2.2.1 h.2.2.2 g.2.2.1 g.2.2.2
  omega
theorem BB_of {P M B S sy X pl : Int → Int} {n L k z b : Int} (h : SL P n L M B S sy X pl) (k0 : 0 ≤ k) (k1 : k < p2 L) (eb : b = B (sy k)) (ez : z = XN P sy k / p2 (L - b + 1)) : 0 ≤ L - b ∧ L - b ≤ 9 ∧ (0 < z → BB P L sy k (b - 1)) ∧ (z ≤ 0 → BB P L sy k b) := by
  have s := SL_sym h k0 k1
  have f := SHD_f h.1
  obtain ⟨s1, s2, s3, s4, s5, s6, s7, s8, ⟨r0, r1⟩⟩ := s
  have r2 := r1 s5
  rw [← eb] at r0 r2
  have l1 : L - b < L + 1 := p2_lt r0 (by rw [p2_s f.1]; omega)
  have p := p2_pos (L - b + 1)
  have e1 : p2 (L - b + 1) = 2 * p2 (L - b) := p2_s r0
  refine ⟨r0, by omega, fun hz => ?_, fun hz => ?_⟩
  · have w := Int.ediv_mul_le (XN P sy k) (show p2 (L - b + 1) ≠ 0 by omega)
    rw [← ez] at w
    have w2 : 1 * p2 (L - b + 1) ≤ z * p2 (L - b + 1) := Int.mul_le_mul_of_nonneg_right hz (by omega)
    have l2 : L - b + 1 < L + 1 := p2_lt (by omega) (by rw [p2_s f.1]; omega)
    refine ⟨by omega, by omega, ?_, ?_⟩
    · rw [show L - (b - 1) = L - b + 1 by omega]; omega
    · rw [show L - (b - 1) = L - b + 1 by omega]; omega
  · have w : XN P sy k < p2 (L - b + 1) := by
      by_cases w : XN P sy k < p2 (L - b + 1)
      · exact w
      · have := Int.le_ediv_of_mul_le (c := p2 (L - b + 1)) (a := 1) (b := XN P sy k) (by omega) (by omega)
        omega
    exact ⟨by omega, by omega, by omega, by omega⟩
theorem BB_mul {P sy : Int → Int} {L k b : Int} (hL : 0 ≤ L) (h : BB P L sy k b) : p2 L ≤ XN P sy k * p2 b ∧ XN P sy k * p2 b + p2 b ≤ 2 * p2 L := by
  obtain ⟨b0, b1, b2, b3⟩ := h
  have e := p2_plus (a := L - b) (b := b) (by omega) b0
  rw [show L - b + b = L by omega] at e
  have p := p2_pos b
  have m1 : p2 (L - b) * p2 b ≤ XN P sy k * p2 b := Int.mul_le_mul_of_nonneg_right b2 (by omega)
  have m2 : (XN P sy k + 1) * p2 b ≤ (2 * p2 (L - b)) * p2 b := Int.mul_le_mul_of_nonneg_right (by omega) (by omega)
  rw [Int.add_mul, Int.one_mul, Int.mul_assoc, e] at m2
  omega
/-- the base behind a place -/
def BAS (P : Int → Int) (L : Int) (sy : Int → Int) (k z : Int) : Prop := ∀ b, BB P L sy k b → 0 ≤ z ∧ z + p2 b ≤ p2 L ∧ z = XN P sy k * p2 b - p2 L
theorem BAS_of {P sy : Int → Int} {L k b z : Int} (hL : 0 ≤ L) (h : BB P L sy k b) (e : z = XN P sy k * p2 b - p2 L) : BAS P L sy k z := fun c hc => by
  have := BB_uniq h hc
  subst this
  have := BB_mul hL h
  exact ⟨by omega, by omega, e⟩
theorem PL_at {P M B S sy X pl : Int → Int} {n L s i : Int} (h : SL P n L M B S sy X pl) (s0 : 0 ≤ s) (s1 : s < n) (i0 : 0 ≤ i) (i1 : i < mass (P s)) : 0 ≤ S s + i ∧ S s + i < p2 L ∧ 0 ≤ pl (S s + i) ∧ pl (S s + i) < p2 L ∧ sy (pl (S s + i)) = s ∧ XN P sy (pl (S s + i)) = mass (P s) + i := by
  obtain ⟨hd, ha, hm, hs, hb, hx, hp⟩ := h
  have f := SHD_f hd
  have t := SHD_at hd s0 s1
  have c := LAID_cnt hd.1 (by omega) ha hd.2.2.2.2 s0 s1
  obtain ⟨k, k0, k1, k2, k3⟩ := su_hit (f := eqs sy s) (n := (p2 L).toNat) (m := i) (fun i => by have := eqs_eq sy s i; omega) i0 (by omega)
  have ks : sy k = s := by have := eqs_eq sy s k; omega
  have w := hp k k0 (by omega)
  rw [ks, k3, ← hs s s0 s1] at w
  have e := hs s s0 s1
  rw [w]
  refine ⟨by omega, by omega, k0, by omega, ks, ?_⟩
  unfold XN
  rw [ks, k3]
/-- bits ahead of a place of mass m, to a state -/
def BA (m L y b : Int) : Prop := 0 ≤ b ∧ b ≤ L ∧ m ≤ (y + p2 L) / p2 b ∧ (y + p2 L) / p2 b < 2 * m
theorem BA_of {m L y b z : Int} (hL : 0 ≤ L ∧ L ≤ 9) (m0 : 1 ≤ m) (m1 : m ≤ p2 L) (y0 : 0 ≤ y) (y1 : y < p2 L) (h : BT m (L - b)) (ez : z = (y + p2 L) / p2 b) : 0 ≤ b ∧ b ≤ L ∧ (z < m → BA m L y (b - 1)) ∧ (m ≤ z → BA m L y b) := by
  obtain ⟨r0, r1⟩ := h
  have r2 := r1 m0
  have l1 : L - b < L + 1 := p2_lt r0 (by rw [p2_s hL.1]; omega)
  have b0 : 0 ≤ b := by omega
  have e := p2_plus (a := L - b) (b := b) r0 b0
  rw [show L - b + b = L by omega] at e
  have p := p2_pos b
  have d1 : p2 (L - b) ≤ (y + p2 L) / p2 b := Int.le_ediv_of_mul_le (by omega) (by omega)
  have d2 : (y + p2 L) / p2 b < 2 * p2 (L - b) := Int.ediv_lt_of_lt_mul (by omega) (by rw [Int.mul_assoc, e]; omega)
  refine ⟨b0, by omega, fun hz => ?_, fun hz => ?_⟩
  · have b1 : 1 ≤ b := by
      by_cases w : 1 ≤ b
      · exact w
      · have : b = 0 := by omega
        subst this
        rw [show p2 0 = 1 from by decide, Int.ediv_one] at ez
        omega
    have e2 : p2 b = 2 * p2 (b - 1) := by
      have := p2_s (y := b - 1) (by omega)
      rw [show b - 1 + 1 = b by omega] at this
      exact this
    have q := p2_pos (b - 1)
    have e3 : (y + p2 L) / p2 b = (y + p2 L) / p2 (b - 1) / 2 := by
      rw [e2, Int.mul_comm, Int.ediv_ediv_of_nonneg (by omega)]
    exact ⟨by omega, by omega, by omega, by omega⟩
  · exact ⟨b0, by omega, by omega, by omega⟩
/-- the symbols of a row that a share holds -/
def RWO (row P : Int → Int) (m n : Int) : Prop := ∀ j, 0 ≤ j → j < n → 0 ≤ row j ∧ row j < m ∧ P (row j) ≠ 0
def HLD (co P : Int → Int) (m n r : Int) : Prop := r = 1 → ∀ s, 0 ≤ s → s < n → 0 < co s → s < m ∧ P s ≠ 0
def HLP (co P : Int → Int) (m k : Int) : Prop := ∀ s, 0 ≤ s → s < k → 0 < co s → s < m ∧ P s ≠ 0
theorem HLP_s {co P : Int → Int} {m k k2 : Int} (h : HLP co P m k) (e : k2 = k + 1) (hk : 0 < co k → k < m ∧ P k ≠ 0) : HLP co P m k2 := fun s a b c => by
  by_cases w : s = k
  · subst w; exact hk c
  · exact h s a (by omega) c
def ZRS (P : Int → Int) (a b : Int) : Prop := ∀ j, a ≤ j → j < b → P j = 0
theorem ZRS_s {P : Int → Int} {a b b2 : Int} (h : ZRS P a b) (e : b2 = b + 1) (hb : P b = 0) : ZRS P a b2 := fun j x y => by
  by_cases w : j = b
  · subst w; exact hb
  · exact h j x (by omega)
def GE1 (P : Int → Int) (n : Int) : Prop := ∀ s, 0 ≤ s → s < n → -1 ≤ P s
theorem GE1_upd {P : Int → Int} {n j v : Int} (h : GE1 P n) (hv : -1 ≤ v) : GE1 (upd1 P j v) n := fun s a b => by
  by_cases w : s = j
  · subst w; rw [upd1_s]; exact hv
  · rw [upd1_o w]; exact h s a b
theorem mp_allz {P : Int → Int} {n : Int} (h : ∀ i, P i = 0) : mp P n = 0 := by
  unfold mp
  rw [su_congr (h := fun _ => 0) (fun i a b => by rw [h i]; decide)]
  exact su_zero _
theorem GE1_z {P : Int → Int} {n : Int} (h : ∀ i, P i = 0) : GE1 P n := fun s a b => by rw [h s]; decide
theorem mp_one {P : Int → Int} {n s : Int} (s0 : 0 ≤ s) (s1 : s < n) : 0 ≤ mass (P s) ∧ mass (P s) ≤ mp P n ∧ P s ≤ mass (P s) := by
  have a := mass_eq (P s)
  have b := su_one (f := fun i => mass (P i)) (i := s) (n := n.toNat) (fun i => by have := mass_eq (P i); omega) s0 (by omega)
  have c : mass (P s) ≤ mp P n := b
  omega
