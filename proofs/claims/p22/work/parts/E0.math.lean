/-! the class's shares: how they are laid -/
def LO (L : Int) : Prop := L = 0 ∨ 5 ≤ L ∧ L ≤ 9
theorem LO_rng {L : Int} (h : LO L) : 0 ≤ L ∧ L ≤ 9 ∧ 1 ≤ p2 L ∧ p2 L ≤ 512 := by
  have a := p2_pos L
  have b : 0 ≤ L ∧ L ≤ 9 := by
    rcases h with h | h
    · omega
    · omega
  exact ⟨b.1, b.2, a, p2_le9 b.2⟩
theorem andI_mod {x L : Int} (hx : 0 ≤ x ∧ x < 2147483648) (hL : 0 ≤ L ∧ L ≤ 30) : andI x (p2 L - 1) = x % p2 L := by
  have hp := p2_pos L
  have hq : p2 L ≤ 1073741824 := by
    have := p2_mono (x := L) (y := 30) hL.2
    rw [show p2 30 = 1073741824 from by decide] at this
    exact this
  have ep : p2 L = ((2 ^ L.toNat : Nat) : Int) := by
    unfold p2
    simp
  have e : (Int32.ofInt x &&& Int32.ofInt (p2 L - 1)).toBitVec.toNat = x.toNat % 2 ^ L.toNat := by
    show ((Int32.ofInt x).toBitVec &&& (Int32.ofInt (p2 L - 1)).toBitVec).toNat = _
    rw [BitVec.toNat_and, nn32 hx, nn32 (by omega), show (p2 L - 1).toNat = 2 ^ L.toNat - 1 by omega, Nat.and_two_pow_sub_one_eq_mod]
  have lt : x.toNat % 2 ^ L.toNat ≤ x.toNat := Nat.mod_le _ _
  unfold andI
  show (Int32.ofInt x &&& Int32.ofInt (p2 L - 1)).toBitVec.toInt = _
  rw [BitVec.toInt_eq_toNat_of_lt (by rw [e]; omega), e, ep]
  have e3 : x = ((x.toNat : Nat) : Int) := by omega
  conv => rhs; rw [e3]
  exact Int.natCast_emod _ _
theorem qs_0 (j : Int) : qs 0 j = 0 := by
  unfold qs
  rw [show p2 0 = 1 from by decide]
  exact Int.emod_one _
theorem qs_injO {L i j : Int} (h : LO L) (h0 : 0 ≤ i) (h1 : i < p2 L) (h2 : 0 ≤ j) (h3 : j < p2 L) (e : qs L i = qs L j) : i = j := by
  rcases h with h | h
  · subst h
    rw [show p2 0 = 1 from by decide] at h1 h3
    omega
  · exact qs_inj h h0 h1 h2 h3 e
theorem qs_surO {L k : Int} (h : LO L) (h0 : 0 ≤ k) (h1 : k < p2 L) : ∃ j, 0 ≤ j ∧ j < p2 L ∧ qs L j = k := by
  rcases h with h | h
  · subst h
    rw [show p2 0 = 1 from by decide] at h1
    exact ⟨0, by omega, by decide, by rw [qs_0]; omega⟩
  · exact qs_sur h h0 h1
theorem rk_allO {L high : Int} (h : LO L) (h0 : 0 ≤ high) (h1 : high ≤ p2 L) : rk L high (p2 L) = high := by
  rcases h with h | h
  · subst h
    rw [show p2 0 = 1 from by decide] at h1 ⊢
    have a := rkS (L := 0) (high := high) (j := 0) (by omega)
    have b := fq_eq 0 high 0
    have c := qs_0 0
    have e : rk 0 high 0 = 0 := rfl
    have g : rk 0 high (0 + 1) = rk 0 high 1 := rfl
    omega
  · exact rk_all h h0 h1
theorem qs_perm {f : Int → Int} {L : Int} (hL : LO L) : su (fun j => f (qs L j)) (p2 L).toNat = su f (p2 L).toNat := by
  have hp := p2_pos L
  have key : ∀ (m : Nat), (m : Int) ≤ p2 L → su (fun j => if qs L j < (m : Int) then f (qs L j) else 0) (p2 L).toNat = su f m := by
    intro m
    induction m with
    | zero =>
      intro _
      rw [su_congr (h := fun _ => 0) (fun i a b => by have := qs_rng (L := L) (j := i); exact if_neg (by omega))]
      exact su_zero _
    | succ m ih =>
      intro hm
      have e := ih (by omega)
      obtain ⟨j, j0, j1, j2⟩ := qs_surO (k := (m : Int)) hL (by omega) (by omega)
      have s := su_upd (f := fun j => if qs L j < (m : Int) then f (qs L j) else 0) (h := fun j => if qs L j < ((m + 1 : Nat) : Int) then f (qs L j) else 0) (j := j) (n := (p2 L).toNat) j0 (by omega) (fun i a b c => by
        have z : qs L i ≠ m := fun w => c (qs_injO hL a (by omega) j0 j1 (by omega))
        by_cases w : qs L i < (m : Int)
        · rw [if_pos w, if_pos (by omega)]
        · rw [if_neg w, if_neg (by omega)])
      rw [s, e]
      rw [if_pos (by omega), if_neg (by omega), j2]
      show _ = su f m + f m
      omega
  have := key (p2 L).toNat (by omega)
  rw [← this]
  exact su_congr (fun i a b => (if_pos (by have := qs_rng (L := L) (j := i); omega)).symm)
def NGI (P sy : Int → Int) (L k : Int) : Prop := ∀ s, 0 ≤ s → s < k → P s < 0 → sy (p2 L - 1 - ngs P s) = s
theorem cnt_free {P sy : Int → Int} {n L s : Int} (h : LAID P n L sy) (s0 : 0 ≤ s) : ∀ (J : Nat), (J : Int) ≤ p2 L → rk L (p2 L - ngs P n) J ≤ cum P s ∧ su (fun j => if qs L j < p2 L - ngs P n then eqs sy s (qs L j) else 0) J = 0 ∨ cum P s ≤ rk L (p2 L - ngs P n) J ∧ rk L (p2 L - ngs P n) J ≤ cum P (s + 1) ∧ su (fun j => if qs L j < p2 L - ngs P n then eqs sy s (qs L j) else 0) J = rk L (p2 L - ngs P n) J - cum P s ∨ cum P (s + 1) ≤ rk L (p2 L - ngs P n) J ∧ su (fun j => if qs L j < p2 L - ngs P n then eqs sy s (qs L j) else 0) J = cum P (s + 1) - cum P s
  | 0, _ => by
    refine .inl ⟨?_, rfl⟩
    have a := cum_mono (P := P) (s := 0) (t := s) (by omega) s0
    have b : cum P 0 = 0 := rfl
    have e : rk L (p2 L - ngs P n) ((0 : Nat) : Int) = 0 := rfl
    omega
  | J + 1, hJ => by
    have ih := cnt_free h s0 J (by omega)
    have cm := cum_mono (P := P) (s := s) (t := s + 1) s0 (by omega)
    have r1 : rk L (p2 L - ngs P n) ((J + 1 : Nat) : Int) = rk L (p2 L - ngs P n) J + fq L (p2 L - ngs P n) J := by
      rw [show ((J + 1 : Nat) : Int) = (J : Int) + 1 by omega]
      exact rkS (by omega)
    have r2 : su (fun j => if qs L j < p2 L - ngs P n then eqs sy s (qs L j) else 0) (J + 1) = su (fun j => if qs L j < p2 L - ngs P n then eqs sy s (qs L j) else 0) J + (if qs L J < p2 L - ngs P n then eqs sy s (qs L J) else 0) := rfl
    have f1 := fq_eq L (p2 L - ngs P n) J
    by_cases w : qs L J < p2 L - ngs P n
    · rw [if_pos w] at r2
      obtain ⟨q0, q1, q2, q3⟩ := h.2 J (by omega) (by omega) w
      rcases eqs_eq sy s (qs L J) with ⟨e1, e2⟩ | ⟨e1, e2⟩
      · rw [e1] at q2 q3
        omega
      · have ne : ¬ (cum P s ≤ rk L (p2 L - ngs P n) J ∧ rk L (p2 L - ngs P n) J < cum P (s + 1)) := fun x => e1 (cum_uniq q0 s0 q2 q3 x.1 x.2)
        omega
    · rw [if_neg w] at r2
      omega
theorem high_sym {P sy : Int → Int} {n L k : Int} (h : NGI P sy L n) (hn : 0 ≤ n) (k0 : p2 L - ngs P n ≤ k) (k1 : k < p2 L) : ∃ s, 0 ≤ s ∧ s < n ∧ P s < 0 ∧ sy k = s ∧ k = p2 L - 1 - ngs P s := by
  obtain ⟨s, s0, s1, s2, s3⟩ := ngs_hit (P := P) n.toNat (p2 L - 1 - k) (by omega) (by rw [show ((n.toNat : Nat) : Int) = n by omega]; omega)
  have a := h s s0 (by omega) s2
  rw [s3, show p2 L - 1 - (p2 L - 1 - k) = k by omega] at a
  exact ⟨s, s0, by omega, s2, a, by omega⟩
theorem cnt_high {P sy : Int → Int} {n L s : Int} (h : NGI P sy L n) (hn : 0 ≤ n) (hg : ngs P n ≤ p2 L) (s0 : 0 ≤ s) (s1 : s < n) : su (fun k => if p2 L - ngs P n ≤ k then eqs sy s k else 0) (p2 L).toNat = neg1 (P s) := by
  have hp := p2_pos L
  rcases neg1_eq (P s) with ⟨a, b⟩ | ⟨a, b⟩
  · have m := ngs_mono (P := P) (s := s + 1) (t := n) (by omega) (by omega)
    have m0 := ngs_mono (P := P) (s := s) (t := n) (by omega) (by omega)
    rw [ngs_s s0] at m
    rw [su_only (r := p2 L - 1 - ngs P s) (by omega) (by omega) (fun i i0 i1 i2 => by
      by_cases w : p2 L - ngs P n ≤ i
      · rw [if_pos w]
        obtain ⟨sₚ, a0, a1, a2, a3, a4⟩ := high_sym h hn w (by omega)
        rcases eqs_eq sy s i with ⟨e1, e2⟩ | ⟨e1, e2⟩
        · rw [a3] at e1
          subst e1
          exact absurd a4 i2
        · exact e2
      · rw [if_neg w])]
    rw [if_pos (by omega)]
    have c := h s s0 s1 a
    rcases eqs_eq sy s (p2 L - 1 - ngs P s) with ⟨e1, e2⟩ | ⟨e1, e2⟩
    · omega
    · exact absurd c e1
  · rw [b, su_congr (h := fun _ => 0) (fun i i0 i1 => by
      by_cases w : p2 L - ngs P n ≤ i
      · rw [if_pos w]
        obtain ⟨sₚ, a0, a1, a2, a3, a4⟩ := high_sym h hn w (by omega)
        rcases eqs_eq sy s i with ⟨e1, e2⟩ | ⟨e1, e2⟩
        · rw [a3] at e1
          subst e1
          omega
        · exact e2
      · rw [if_neg w])]
    exact su_zero _
theorem cum_ngs {P : Int → Int} {s : Int} : cum P s + ngs P s = mp P s := by
  unfold cum ngs mp
  rw [← su_add]
  exact su_congr (fun i _ _ => by have := mass_sum (P i); omega)
/-- each symbol stands as often as its mass says -/
theorem LAID_cnt {P sy : Int → Int} {n L s : Int} (hL : LO L) (hn : 0 ≤ n) (h : LAID P n L sy) (ht : mp P n = p2 L) (s0 : 0 ≤ s) (s1 : s < n) : su (eqs sy s) (p2 L).toNat = mass (P s) := by
  have hp := p2_pos L
  have e := cum_ngs (P := P) (s := n)
  have m := ngs_mono (P := P) (s := n) (t := n) hn (by omega)
  have c0 := cum_mono (P := P) (s := 0) (t := n) (by omega) hn
  have c00 : cum P 0 = 0 := rfl
  have A := cnt_free h s0 (p2 L).toNat (by omega)
  rw [show (((p2 L).toNat : Nat) : Int) = p2 L by omega, rk_allO hL (by omega) (by omega)] at A
  have B := cnt_high (L := L) h.1 hn (by omega) s0 s1
  have C := qs_perm (f := fun k => if k < p2 L - ngs P n then eqs sy s k else 0) hL
  have D : su (eqs sy s) (p2 L).toNat = su (fun k => (if k < p2 L - ngs P n then eqs sy s k else 0) + (if p2 L - ngs P n ≤ k then eqs sy s k else 0)) (p2 L).toNat := su_congr (fun i a b => by
    by_cases w : i < p2 L - ngs P n
    · rw [if_pos w, if_neg (by omega)]; omega
    · rw [if_neg w, if_pos (by omega)]; omega)
  rw [D, su_add, ← C, B]
  have c1 := cum_mono (P := P) (s := s + 1) (t := n) (by omega) (by omega)
  have c2 := cum_mono (P := P) (s := s) (t := s + 1) (by omega) (by omega)
  have c3 := cum_s (P := P) s0
  have ms := mass_sum (P s)
  have po := posi_eq (P s)
  omega
def LV (P : Int → Int) (n L : Int) (sy : Int → Int) (J c : Int) : Prop :=
  NGI P sy L n ∧ (∀ j, 0 ≤ j → j < J → qs L j < p2 L - ngs P n → 0 ≤ sy (qs L j) ∧ sy (qs L j) < n ∧ cum P (sy (qs L j)) ≤ rk L (p2 L - ngs P n) j ∧ rk L (p2 L - ngs P n) j < cum P (sy (qs L j) + 1)) ∧ rk L (p2 L - ngs P n) J = c ∧ 0 ≤ J ∧ J ≤ p2 L
/-- while it is laid: c symbols stand, the next place is a -/
def LYC (P : Int → Int) (n L : Int) (sy : Int → Int) (a c k : Int) : Prop := ∃ t J, LV P n L sy J c ∧ a = qs L t ∧ 0 ≤ t ∧ k ≤ t ∧ (c < p2 L - ngs P n → t = J)
theorem LYC_0 {P sy : Int → Int} {n L : Int} (h : NGI P sy L n) : LYC P n L sy 0 0 0 := by
  have hp := p2_pos L
  have q0 : qs L 0 = 0 := by unfold qs; rw [Int.zero_mul]; exact Int.zero_emod _
  exact ⟨0, 0, ⟨h, fun j a b => by omega, rfl, by omega, by omega⟩, q0.symm, by omega, by omega, fun _ => rfl⟩
theorem LYC_rng {P sy : Int → Int} {n L a c k : Int} (h : LYC P n L sy a c k) : 0 ≤ a ∧ a < p2 L := by
  obtain ⟨t, J, v, e, r⟩ := h
  rw [e]
  exact qs_rng
theorem LYC_weak {P sy : Int → Int} {n L a c k : Int} (h : LYC P n L sy a c k) : LYC P n L sy a c 0 := by
  obtain ⟨t, J, v, e, r0, r1, r2⟩ := h
  exact ⟨t, J, v, e, r0, r0, r2⟩
theorem LV_lt {P sy : Int → Int} {n L J c : Int} (hL : LO L) (hn : 0 ≤ ngs P n ∧ ngs P n ≤ p2 L) (h : LV P n L sy J c) (hc : c < p2 L - ngs P n) : J < p2 L := by
  have ra := rk_allO (L := L) (high := p2 L - ngs P n) hL (by omega) (by omega)
  obtain ⟨v1, v2, v3, v4, v5⟩ := h
  by_cases q : J < p2 L
  · exact q
  · have e : J = p2 L := by omega
    rw [e, ra] at v3
    omega
theorem LYC_put {P sy : Int → Int} {n L a a' c cₚ k s : Int} (hL : LO L) (hn : 0 ≤ ngs P n ∧ ngs P n ≤ p2 L) (h : LYC P n L sy a c k) (ha : a < p2 L - ngs P n) (hc : c < p2 L - ngs P n) (s0 : 0 ≤ s) (s1 : s < n) (a1 : cum P s ≤ c) (a2 : c < cum P (s + 1)) (e : a' = (a + (p2 L / 2 + p2 L / 8 + 3)) % p2 L) (ec : cₚ = c + 1) : LYC P n L (upd1 sy a s) a' cₚ 0 := by
  obtain ⟨t, J, v, ea, t0, tk, tj⟩ := h
  have et := tj hc
  subst et
  have hJ := LV_lt hL hn v hc
  obtain ⟨v1, v2, v3, v4, v5⟩ := v
  refine ⟨t + 1, t + 1, ⟨fun x x0 x1 x2 => ?_, fun j j0 j1 j2 => ?_, ?_, by omega, by omega⟩, by rw [e, ea, qs_s], by omega, by omega, fun _ => rfl⟩
  · have m := ngs_mono (P := P) (s := x + 1) (t := n) (by omega) (by omega)
    rw [ngs_s x0] at m
    have g := neg1_eq (P x)
    rw [upd1_o (by omega)]
    exact v1 x x0 x1 x2
  · by_cases w : j = t
    · subst w
      rw [← ea, upd1_s, v3]
      exact ⟨s0, s1, a1, a2⟩
    · rw [upd1_o (fun q => w (qs_injO hL j0 (by omega) t0 hJ (by omega)))]
      exact v2 j j0 (by omega) j2
  · rw [rkS t0, v3]
    have := fq_eq L (p2 L - ngs P n) t
    omega
theorem LYC_skip {P sy : Int → Int} {n L a a' c k kₚ : Int} (hL : LO L) (hn : 0 ≤ ngs P n ∧ ngs P n ≤ p2 L) (h : LYC P n L sy a c k) (ha : p2 L - ngs P n ≤ a) (e : a' = (a + (p2 L / 2 + p2 L / 8 + 3)) % p2 L) (ek : kₚ = k + 1) : LYC P n L sy a' c kₚ := by
  obtain ⟨t, J, v, ea, t0, tk, tj⟩ := h
  by_cases hc : c < p2 L - ngs P n
  · have et := tj hc
    subst et
    have hJ := LV_lt hL hn v hc
    obtain ⟨v1, v2, v3, v4, v5⟩ := v
    refine ⟨t + 1, t + 1, ⟨v1, fun j j0 j1 j2 => ?_, ?_, by omega, by omega⟩, by rw [e, ea, qs_s], by omega, by omega, fun _ => rfl⟩
    · by_cases w : j = t
      · subst w
        omega
      · exact v2 j j0 (by omega) j2
    · rw [rkS t0, v3]
      have := fq_eq L (p2 L - ngs P n) t
      omega
  · exact ⟨t + 1, J, v, by rw [e, ea, qs_s], by omega, by omega, fun q => absurd q hc⟩
theorem LYC_turn {P sy : Int → Int} {n L a c k : Int} (hL : LO L) (hn : 0 ≤ ngs P n ∧ ngs P n ≤ p2 L) (h : LYC P n L sy a c k) (hk : p2 L ≤ k) : p2 L - ngs P n ≤ c := by
  by_cases hc : c < p2 L - ngs P n
  · obtain ⟨t, J, v, ea, t0, tk, tj⟩ := h
    have et := tj hc
    have hJ := LV_lt hL hn v hc
    omega
  · omega
theorem LYC_end {P sy : Int → Int} {n L a c k : Int} (hL : LO L) (hn : 0 ≤ ngs P n ∧ ngs P n ≤ p2 L) (h : LYC P n L sy a c k) (hc : c = p2 L - ngs P n) : LAID P n L sy := by
  obtain ⟨t, J, ⟨v1, v2, v3, v4, v5⟩, ea, t0, tk, tj⟩ := h
  refine ⟨v1, fun j x y z => ?_⟩
  by_cases q : j < J
  · exact v2 j x q z
  · exfalso
    have ra := rk_allO (L := L) (high := p2 L - ngs P n) hL (by omega) (by omega)
    have m := su_le_all (f := fq L (p2 L - ngs P n)) (i := j + 1) (n := p2 L) (by omega) (by omega) (fun i _ => by have := fq_eq L (p2 L - ngs P n) i; omega)
    have m2 := su_le_all (f := fq L (p2 L - ngs P n)) (i := J) (n := j) v4 (by omega) (fun i _ => by have := fq_eq L (p2 L - ngs P n) i; omega)
    have e := fq_eq L (p2 L - ngs P n) j
    unfold rk at ra v3
    rw [su_s x] at m
    omega
theorem LAID_rngO {P sy : Int → Int} {n L : Int} (hL : LO L) (hn : 0 ≤ n) (h : LAID P n L sy) {k : Int} (k0 : 0 ≤ k) (k1 : k < p2 L) : 0 ≤ sy k ∧ sy k < n ∧ P (sy k) ≠ 0 := by
  by_cases q : k < p2 L - ngs P n
  · obtain ⟨j, j0, j1, e⟩ := qs_surO hL k0 k1
    have a := h.2 j j0 j1 (by omega)
    rw [e] at a
    have c := cum_s (P := P) a.1
    have d := posi_eq (P (sy k))
    exact ⟨a.1, a.2.1, by omega⟩
  · obtain ⟨s, s0, s1, s2, s3, s4⟩ := high_sym h.1 hn (by omega) k1
    rw [s3]
    exact ⟨s0, s1, by omega⟩
/-! masses, starts, bits -/
def MSI (P M : Int → Int) (k : Int) : Prop := ∀ s, 0 ≤ s → s < k → M s = mass (P s)
def SSC (P S : Int → Int) (k : Int) : Prop := ∀ s, 0 ≤ s → s < k → S s = mp P s
def USI (U : Int → Int) (k : Int) : Prop := ∀ s, 0 ≤ s → s < k → U s = 0
def BT (m r : Int) : Prop := 0 ≤ r ∧ (1 ≤ m → p2 r ≤ m ∧ m < 2 * p2 r)
def BSI (P B : Int → Int) (L k : Int) : Prop := ∀ s, 0 ≤ s → s < k → BT (mass (P s)) (L - B s)
theorem MSI_0 {P M : Int → Int} : MSI P M 0 := fun s a b => by omega
theorem SSC_0 {P S : Int → Int} : SSC P S 0 := fun s a b => by omega
theorem USI_0 {U : Int → Int} : USI U 0 := fun s a b => by omega
theorem BSI_0 {P B : Int → Int} {L : Int} : BSI P B L 0 := fun s a b => by omega
theorem NGI_0 {P sy : Int → Int} {L : Int} : NGI P sy L 0 := fun s a b => by omega
theorem MSI_s {P M : Int → Int} {k k2 v : Int} (h : MSI P M k) (e : k2 = k + 1) (hv : v = mass (P k)) : MSI P (upd1 M k v) k2 := fun s a b => by
  by_cases w : s = k
  · subst w; rw [upd1_s]; exact hv
  · rw [upd1_o w]; exact h s a (by omega)
theorem SSC_s {P S : Int → Int} {k k2 v : Int} (h : SSC P S k) (e : k2 = k + 1) (hv : v = mp P k) : SSC P (upd1 S k v) k2 := fun s a b => by
  by_cases w : s = k
  · subst w; rw [upd1_s]; exact hv
  · rw [upd1_o w]; exact h s a (by omega)
theorem USI_s {U : Int → Int} {k k2 : Int} (h : USI U k) (e : k2 = k + 1) : USI (upd1 U k 0) k2 := fun s a b => by
  by_cases w : s = k
  · subst w; rw [upd1_s]
  · rw [upd1_o w]; exact h s a (by omega)
theorem BSI_upd {P B : Int → Int} {L k v : Int} (h : BSI P B L k) : BSI P (upd1 B k v) L k := fun s a b => by
  rw [upd1_o (by omega)]; exact h s a b
theorem BSI_s {P B : Int → Int} {L k k2 : Int} (h : BSI P B L k) (e : k2 = k + 1) (hv : BT (mass (P k)) (L - B k)) : BSI P B L k2 := fun s a b => by
  by_cases w : s = k
  · subst w; exact hv
  · exact h s a (by omega)
theorem NGI_skip {P sy : Int → Int} {L k k2 : Int} (h : NGI P sy L k) (e : k2 = k + 1) (hp : 0 ≤ P k) : NGI P sy L k2 := fun s a b c => by
  by_cases w : s = k
  · subst w; omega
  · exact h s a (by omega) c
theorem NGI_put {P sy : Int → Int} {L k k2 p : Int} (h : NGI P sy L k) (e : k2 = k + 1) (hp : p = p2 L - 1 - ngs P k) : NGI P (upd1 sy p k) L k2 := fun s a b c => by
  subst hp
  by_cases w : s = k
  · subst w; rw [upd1_s]
  · have m := ngs_mono (P := P) (s := s + 1) (t := k) (by omega) (by omega)
    rw [ngs_s a] at m
    have g := neg1_eq (P s)
    rw [upd1_o (by omega)]
    exact h s a (by omega) c
def HBI (m k h : Int) : Prop := 0 ≤ k ∧ 0 ≤ h ∧ h = m / p2 (k + 1) ∧ (k = 0 ∨ p2 k ≤ m)
theorem HBI_0 {m h : Int} (h0 : 0 ≤ m) (e : h = m / 2) : HBI m 0 h := ⟨by omega, by omega, by rw [show p2 (0 + 1) = 2 from by decide]; exact e, .inl rfl⟩
theorem HBI_s {m k k2 h h2 : Int} (q : HBI m k h) (hh : 0 < h) (ek : k2 = k + 1) (eh : h2 = h / 2) : HBI m k2 h2 := by
  obtain ⟨a, b, c, d⟩ := q
  subst ek
  have p := p2_pos (k + 1)
  refine ⟨by omega, by omega, ?_, .inr ?_⟩
  · rw [eh, c, p2_s (show 0 ≤ k + 1 by omega), Int.mul_comm, Int.ediv_ediv_of_nonneg (by omega)]
  · have := Int.ediv_mul_le m (show p2 (k + 1) ≠ 0 by omega)
    rw [← c] at this
    have w : 1 * p2 (k + 1) ≤ h * p2 (k + 1) := Int.mul_le_mul_of_nonneg_right hh (by omega)
    omega
theorem HBI_le {m k h : Int} (q : HBI m k h) (hm : m ≤ 512) : k ≤ 9 := by
  obtain ⟨a, b, c, d⟩ := q
  by_cases w : k ≤ 9
  · exact w
  · have := p2_mono (x := 10) (y := k) (by omega)
    rw [show p2 10 = 1024 from by decide] at this
    omega
theorem HBI_end {m k h : Int} (q : HBI m k h) (hh : h ≤ 0) : BT m k := by
  obtain ⟨a, b, c, d⟩ := q
  refine ⟨a, fun h1 => ?_⟩
  have p := p2_pos (k + 1)
  have e : m / p2 (k + 1) = 0 := by omega
  have l : m < p2 (k + 1) := by
    by_cases w : m < p2 (k + 1)
    · exact w
    · have := Int.le_ediv_of_mul_le (c := p2 (k + 1)) (a := 1) (b := m) (by omega) (by omega)
      omega
  rw [p2_s a] at l
  rcases d with d | d
  · subst d
    rw [show p2 0 = 1 from by decide] at l ⊢
    omega
  · exact ⟨d, l⟩
/-! the last loop: numbers, and places by number -/
def UCI (sy U : Int → Int) (n p : Int) : Prop := ∀ s, 0 ≤ s → s < n → U s = su (eqs sy s) p.toNat
def XNI (P sy X : Int → Int) (p : Int) : Prop := ∀ k, 0 ≤ k → k < p → X k = XN P sy k
def PLI (P sy pl : Int → Int) (p : Int) : Prop := ∀ k, 0 ≤ k → k < p → pl (mp P (sy k) + su (eqs sy (sy k)) k.toNat) = k
theorem UCI_0 {sy U : Int → Int} {n : Int} (h : USI U n) : UCI sy U n 0 := fun s a b => h s a b
theorem XNI_0 {P sy X : Int → Int} : XNI P sy X 0 := fun s a b => by omega
theorem PLI_0 {P sy pl : Int → Int} : PLI P sy pl 0 := fun s a b => by omega
theorem UCI_s {sy U : Int → Int} {n p pₚ s v : Int} (h : UCI sy U n p) (p0 : 0 ≤ p) (e : pₚ = p + 1) (es : sy p = s) (hv : v = U s + 1) : UCI sy (upd1 U s v) n pₚ := fun x a b => by
  subst e
  rw [su_s p0]
  have q := eqs_eq sy x p
  have c := h x a b
  by_cases w : x = s
  · subst w; rw [upd1_s]; omega
  · rw [upd1_o w]; omega
theorem XNI_s {P sy X : Int → Int} {p pₚ v : Int} (h : XNI P sy X p) (e : pₚ = p + 1) (hv : v = XN P sy p) : XNI P sy (upd1 X p v) pₚ := fun k a b => by
  by_cases w : k = p
  · subst w; rw [upd1_s]; exact hv
  · rw [upd1_o w]; exact h k a (by omega)
/-- places by number: where the number of a place stands -/
theorem su_eqs_lt {sy : Int → Int} {n L : Int} {P : Int → Int} (hc : ∀ s, 0 ≤ s → s < n → su (eqs sy s) (p2 L).toNat = mass (P s)) {p s : Int} (p0 : 0 ≤ p) (p1 : p < p2 L) (es : sy p = s) (s0 : 0 ≤ s) (s1 : s < n) : 0 ≤ su (eqs sy s) p.toNat ∧ su (eqs sy s) p.toNat < mass (P s) := by
  have b := hc s s0 s1
  have q := eqs_eq sy s p
  have m := su_le_all (f := eqs sy s) (i := p + 1) (n := p2 L) (by omega) (by omega) (fun i _ => by have := eqs_eq sy s i; omega)
  have m2 := su_nonneg (f := eqs sy s) (n := p.toNat) (fun i _ _ => by have := eqs_eq sy s i; omega)
  rw [su_s p0] at m
  omega
theorem pl_ix {sy : Int → Int} {n L : Int} {P : Int → Int} (hc : ∀ s, 0 ≤ s → s < n → su (eqs sy s) (p2 L).toNat = mass (P s)) (ht : mp P n = p2 L) {p s : Int} (p0 : 0 ≤ p) (p1 : p < p2 L) (es : sy p = s) (s0 : 0 ≤ s) (s1 : s < n) : 0 ≤ mp P s + su (eqs sy s) p.toNat ∧ mp P s + su (eqs sy s) p.toNat < p2 L := by
  have a := su_eqs_lt hc p0 p1 es s0 s1
  have b := mp_s (P := P) s0
  have c := mp_le (P := P) (s := s + 1) (t := n) (by omega) (by omega)
  have d := mp_le (P := P) (s := s) (t := n) (by omega) (by omega)
  omega
theorem PLI_s {sy pl : Int → Int} {n L : Int} {P : Int → Int} (hc : ∀ s, 0 ≤ s → s < n → su (eqs sy s) (p2 L).toNat = mass (P s)) (hr : ∀ k, 0 ≤ k → k < p2 L → 0 ≤ sy k ∧ sy k < n) {p pₚ s j : Int} (h : PLI P sy pl p) (p0 : 0 ≤ p) (p1 : p < p2 L) (e : pₚ = p + 1) (es : sy p = s) (ej : j = mp P s + su (eqs sy s) p.toNat) : PLI P sy (upd1 pl j p) pₚ := fun k a b => by
  subst ej
  by_cases w : k = p
  · subst w; rw [es, upd1_s]
  · have ne : mp P (sy k) + su (eqs sy (sy k)) k.toNat ≠ mp P s + su (eqs sy s) p.toNat := by
      have rk := hr k a (by omega)
      have rp := hr p p0 p1
      rw [es] at rp
      have lk := su_eqs_lt hc a (by omega) rfl rk.1 rk.2
      have lp := su_eqs_lt hc p0 p1 es rp.1 rp.2
      by_cases q : sy k = s
      · rw [q]
        have m := su_le_all (f := eqs sy s) (i := k + 1) (n := p) (by omega) (by omega) (fun i _ => by have := eqs_eq sy s i; omega)
        rw [su_s a] at m
        have := eqs_eq sy s k
        omega
      · have bk := mp_s (P := P) rk.1
        have bp := mp_s (P := P) rp.1
        by_cases q2 : sy k < s
        · have := mp_le (P := P) (s := sy k + 1) (t := s) (by omega) (by omega)
          omega
        · have := mp_le (P := P) (s := s + 1) (t := sy k) (by omega) (by omega)
          omega
    rw [upd1_o ne]
    exact h k a (by omega)
/-- points that make a share -/
def SHD (P : Int → Int) (n L : Int) : Prop := LO L ∧ 1 ≤ n ∧ n ≤ 64 ∧ (∀ s, 0 ≤ s → s < n → -1 ≤ P s) ∧ mp P n = p2 L
/-- a share that was laid -/
def SL (P : Int → Int) (n L : Int) (M B S sy X pl : Int → Int) : Prop := SHD P n L ∧ LAID P n L sy ∧ MSI P M n ∧ SSC P S n ∧ BSI P B L n ∧ XNI P sy X (p2 L) ∧ PLI P sy pl (p2 L)
theorem SHD_f {P : Int → Int} {n L : Int} (h : SHD P n L) : 0 ≤ L ∧ L ≤ 9 ∧ 1 ≤ p2 L ∧ p2 L ≤ 512 ∧ 1 ≤ n ∧ n ≤ 64 ∧ 0 ≤ ngs P n ∧ ngs P n ≤ p2 L ∧ cum P n = p2 L - ngs P n := by
  have a := LO_rng h.1
  have e := cum_ngs (P := P) (s := n)
  have m := ngs_mono (P := P) (s := n) (t := n) (by have := h.2.1; omega) (by omega)
  have c0 := cum_mono (P := P) (s := 0) (t := n) (by omega) (by have := h.2.1; omega)
  have c00 : cum P 0 = 0 := rfl
  have t := h.2.2.2.2
  exact ⟨a.1, a.2.1, a.2.2.1, a.2.2.2, h.2.1, h.2.2.1, m.1, by omega, by omega⟩
theorem SHD_at {P : Int → Int} {n L s : Int} (h : SHD P n L) (s0 : 0 ≤ s) (s1 : s < n) : -1 ≤ P s ∧ 0 ≤ mass (P s) ∧ 0 ≤ mp P s ∧ mp P (s + 1) = mp P s + mass (P s) ∧ mp P (s + 1) ≤ p2 L ∧ 0 ≤ ngs P s ∧ ngs P (s + 1) = ngs P s + neg1 (P s) ∧ ngs P (s + 1) ≤ p2 L ∧ 0 ≤ cum P s ∧ cum P (s + 1) = cum P s + posi (P s) ∧ cum P (s + 1) ≤ cum P n := by
  have f := SHD_f h
  have a := mp_s (P := P) s0
  have b := mp_le (P := P) (s := s) (t := n) s0 (by omega)
  have b2 := mp_le (P := P) (s := s + 1) (t := n) (by omega) (by omega)
  have c := ngs_s (P := P) s0
  have d := ngs_mono (P := P) (s := s) (t := n) s0 (by omega)
  have d2 := ngs_mono (P := P) (s := s + 1) (t := n) (by omega) (by omega)
  have g := cum_s (P := P) s0
  have e2 := cum_mono (P := P) (s := s + 1) (t := n) (by omega) (by omega)
  have e3 := cum_mono (P := P) (s := 0) (t := s) (by omega) s0
  have c00 : cum P 0 = 0 := rfl
  have m := mass_eq (P s)
  have t := h.2.2.2.2
  have q := h.2.2.2.1 s s0 s1
  exact ⟨q, by omega, b.1, a, by omega, d.1, c, by omega, by omega, g, e2⟩
