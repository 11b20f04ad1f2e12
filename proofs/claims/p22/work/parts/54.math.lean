/-! depths -/
def dpt (is_ : Int → Int) : Nat → Int → Int
  | 0, _ => 0
  | f + 1, k => if is_ k < 0 then 0 else dpt is_ f (is_ k) + 1
def dp (is_ : Int → Int) (k : Int) : Int := dpt is_ 600 k
theorem dpt_fuel {is_ : Int → Int} {n : Int} (hB : ∀ k, 0 ≤ k → k < n → 0 ≤ is_ k → k < is_ k ∧ is_ k < n) : ∀ (f : Nat) (k : Int), 0 ≤ k → k < n → n - k ≤ f → dpt is_ (f + 1) k = dpt is_ f k
  | 0, k, a, b, c => by omega
  | f + 1, k, a, b, c => by
    show (if is_ k < 0 then 0 else dpt is_ (f + 1) (is_ k) + 1) = (if is_ k < 0 then 0 else dpt is_ f (is_ k) + 1)
    by_cases q : is_ k < 0
    · rw [if_pos q, if_pos q]
    · have := hB k a b (by omega)
      rw [if_neg q, if_neg q, dpt_fuel hB f (is_ k) (by omega) (by omega) (by omega)]
theorem dp_s {is_ : Int → Int} {n : Int} (hn : n ≤ 512) (hB : ∀ k, 0 ≤ k → k < n → 0 ≤ is_ k → k < is_ k ∧ is_ k < n) {k : Int} (a : 0 ≤ k) (b : k < n) : is_ k < 0 ∧ dp is_ k = 0 ∨ 0 ≤ is_ k ∧ dp is_ k = dp is_ (is_ k) + 1 := by
  unfold dp
  have e : dpt is_ 600 k = if is_ k < 0 then 0 else dpt is_ 599 (is_ k) + 1 := rfl
  rw [e]
  by_cases q : is_ k < 0
  · rw [if_pos q]; exact .inl ⟨q, rfl⟩
  · have := hB k a b (by omega)
    rw [if_neg q, ← dpt_fuel hB 599 (is_ k) (by omega) (by omega) (by omega)]
    exact .inr ⟨by omega, rfl⟩
theorem dpt_nn {is_ : Int → Int} : ∀ (f : Nat) (k : Int), 0 ≤ dpt is_ f k ∧ dpt is_ f k ≤ f
  | 0, _ => by show (0 : Int) ≤ 0 ∧ (0 : Int) ≤ _; omega
  | f + 1, k => by
    have := dpt_nn (is_ := is_) f (is_ k)
    show 0 ≤ (if is_ k < 0 then 0 else dpt is_ f (is_ k) + 1) ∧ (if is_ k < 0 then 0 else dpt is_ f (is_ k) + 1) ≤ _
    by_cases q : is_ k < 0
    · rw [if_pos q]; omega
    · rw [if_neg q]; omega
theorem dp_nn {is_ : Int → Int} (k : Int) : 0 ≤ dp is_ k ∧ dp is_ k ≤ 600 := by
  have := dpt_nn (is_ := is_) 600 k
  unfold dp
  omega
theorem TQ_B {kn is_ : Int → Int} {n tot : Int} {H : Int → Nat} {M : Int} (h : TQ kn is_ n tot H M) : ∀ k, 0 ≤ k → k < n → 0 ≤ is_ k → k < is_ k ∧ is_ k < n := fun k a b c => by
  have := h.2.2.1 k a b c
  omega
theorem TQ_n {kn is_ : Int → Int} {n tot : Int} {H : Int → Nat} {M : Int} (h : TQ kn is_ n tot H M) : n ≤ 512 := by
  have := h.2.2.2.2.2.2.1
  have := su_nonneg (f := ac1 kn is_) (n := n.toNat) (fun i _ _ => ac1_nn kn is_ i)
  omega
theorem TR_B {kn is_ : Int → Int} {n tot : Int} (h : TR kn is_ n tot) : 256 ≤ n ∧ n ≤ 512 ∧ (∀ k, 0 ≤ k → k < n → 0 ≤ is_ k → k < is_ k ∧ is_ k < n) ∧ (∀ k, 0 ≤ k → k < n → 0 ≤ is_ k → 0 < kn k) := by
  obtain ⟨H, M, h⟩ := h
  exact ⟨h.1, TQ_n h, TQ_B h, fun k a b c => (h.2.2.1 k a b c).1⟩
theorem TQ_dep {kn is_ : Int → Int} {n tot : Int} {H : Int → Nat} {M : Int} (h : TQ kn is_ n tot H M) : ∀ (m : Nat) (k : Int), 0 ≤ k → k < n → n - k ≤ m → 0 < kn k → ∃ r, 0 ≤ r ∧ r < n ∧ 0 < kn r ∧ (H k : Int) + dp is_ k ≤ H r
  | 0, k, a, b, c, _ => by omega
  | m + 1, k, a, b, c, d => by
    rcases dp_s (TQ_n h) (TQ_B h) a b with ⟨q, e⟩ | ⟨q, e⟩
    · exact ⟨k, a, b, d, by omega⟩
    · obtain ⟨_, _, q3, q4, q5, q6⟩ := h.2.2.1 k a b q
      have hk : 0 < kn (is_ k) := (h.2.2.2.2.2.2.2.1 (is_ k) q4 q5).1
      obtain ⟨r, r0, r1, r2, r3⟩ := TQ_dep h m (is_ k) (by omega) q5 (by omega) hk
      exact ⟨r, r0, r1, r2, by omega⟩
theorem TR_dep {kn is_ : Int → Int} {n tot : Int} (h : TR kn is_ n tot) {k : Int} (a : 0 ≤ k) (b : k < n) (c : 0 < kn k) : GF (dp is_ k).toNat ≤ tot := by
  obtain ⟨H, M, h⟩ := h
  obtain ⟨r, r0, r1, r2, r3⟩ := TQ_dep h (n - k).toNat k a b (by omega) c
  have := (h.2.2.2.1 r r0 r1 r2)
  have hd := dp_nn (is_ := is_) k
  have := GF_le (show (dp is_ k).toNat ≤ H r by omega)
  omega
/-! the sum over a cut -/
def kf (kn is_ : Int → Int) (T c : Int) : Int → Int := fun x => if 0 < kn x ∧ (is_ x < 0 ∨ c ≤ is_ x) then p2 (T - dp is_ x) else 0
theorem kf_eq (kn is_ : Int → Int) (T c x : Int) : 0 < kn x ∧ (is_ x < 0 ∨ c ≤ is_ x) ∧ kf kn is_ T c x = p2 (T - dp is_ x) ∨ ¬(0 < kn x ∧ (is_ x < 0 ∨ c ≤ is_ x)) ∧ kf kn is_ T c x = 0 := by
  unfold kf
  by_cases h : 0 < kn x ∧ (is_ x < 0 ∨ c ≤ is_ x)
  · rw [if_pos h]; exact .inl ⟨h.1, h.2, rfl⟩
  · rw [if_neg h]; exact .inr ⟨h, rfl⟩
theorem kraft_step {kn is_ : Int → Int} {n tot T c : Int} (h : TR kn is_ n tot) (hT : ∀ k, 0 ≤ k → k < n → 0 < kn k → dp is_ k ≤ T) (c0 : 256 ≤ c) (c1 : c < n) : su (kf kn is_ T (c + 1)) (c + 1).toNat = su (kf kn is_ T c) c.toNat := by
  obtain ⟨H, M, h⟩ := h
  obtain ⟨kc, a, b, a0, a1, b0, b1, ab, ia, ib, un⟩ := h.2.2.2.2.2.2.2.1 c c0 c1
  have Ba := h.2.2.1 a a0 a1 (by omega)
  have Bb := h.2.2.1 b b0 b1 (by omega)
  have dc := dp_s (TQ_n h) (TQ_B h) (k := c) (by omega) c1
  have da := dp_s (TQ_n h) (TQ_B h) (k := a) a0 a1
  have db := dp_s (TQ_n h) (TQ_B h) (k := b) b0 b1
  rw [ia] at da
  rw [ib] at db
  have Ta := hT a a0 a1 Ba.1
  have Tb := hT b b0 b1 Bb.1
  have ps := p2_s (y := T - dp is_ a) (by omega)
  have pe : p2 (T - dp is_ a + 1) = p2 (T - dp is_ c) := by congr 1; omega
  have pb : p2 (T - dp is_ b) = p2 (T - dp is_ a) := by congr 1; omega
  rw [su_s (by omega)]
  have fc := kf_eq kn is_ T (c + 1) c
  have Bc : is_ c < 0 ∨ c + 1 ≤ is_ c := by
    by_cases q : is_ c < 0
    · exact .inl q
    · have := TQ_B h c (by omega) c1 (by omega)
      exact .inr (by omega)
  have s1 := su_upd (f := kf kn is_ T (c + 1)) (h := fun k => if k = a then kf kn is_ T c k else kf kn is_ T (c + 1) k) (j := a) (n := c.toNat) a0 (by omega) (fun i _ _ q => by show (if i = a then kf kn is_ T c i else kf kn is_ T (c + 1) i) = _; rw [if_neg q])
  have s2 := su_upd (f := fun k => if k = a then kf kn is_ T c k else kf kn is_ T (c + 1) k) (h := kf kn is_ T c) (j := b) (n := c.toNat) b0 (by omega) (fun i i0 i1 q => by
    show _ = if i = a then kf kn is_ T c i else kf kn is_ T (c + 1) i
    by_cases e : i = a
    · rw [if_pos e]
    · rw [if_neg e]
      have x := kf_eq kn is_ T c i
      have y := kf_eq kn is_ T (c + 1) i
      have z : is_ i ≠ c := fun w => by rcases un i i0 (by omega) w with v | v <;> omega
      omega)
  have s2' : su (kf kn is_ T c) c.toNat = su (fun k => if k = a then kf kn is_ T c k else kf kn is_ T (c + 1) k) c.toNat + (kf kn is_ T c b - kf kn is_ T (c + 1) b) := by
    rw [s2]
    show _ + (_ - (if b = a then kf kn is_ T c b else kf kn is_ T (c + 1) b)) = _
    rw [if_neg (fun q => ab q.symm)]
  have s1' : su (fun k => if k = a then kf kn is_ T c k else kf kn is_ T (c + 1) k) c.toNat = su (kf kn is_ T (c + 1)) c.toNat + (kf kn is_ T c a - kf kn is_ T (c + 1) a) := by
    rw [s1]
    show _ + ((if a = a then kf kn is_ T c a else kf kn is_ T (c + 1) a) - _) = _
    rw [if_pos rfl]
  have xa := kf_eq kn is_ T c a
  have ya := kf_eq kn is_ T (c + 1) a
  have xb := kf_eq kn is_ T c b
  have yb := kf_eq kn is_ T (c + 1) b
  omega
theorem kraft_all {kn is_ : Int → Int} {n tot T : Int} (h : TR kn is_ n tot) (hT : ∀ k, 0 ≤ k → k < n → 0 < kn k → dp is_ k ≤ T) : ∀ m : Nat, 256 + (m : Int) ≤ n → su (kf kn is_ T (256 + m)) (256 + (m : Int)).toNat = su (kf kn is_ T 256) 256
  | 0, _ => rfl
  | m + 1, q => by
    rw [← kraft_all h hT m (by omega), ← kraft_step h hT (c := 256 + m) (by omega) (by omega)]
    rw [show (256 : Int) + ((m + 1 : Nat) : Int) = 256 + (m : Int) + 1 by omega]
theorem su_only {f : Int → Int} {r : Int} : ∀ {n : Nat}, 0 ≤ r → r < n → (∀ i : Int, 0 ≤ i → i < n → i ≠ r → f i = 0) → su f n = f r
  | 0, _, _, _ => by omega
  | n + 1, a, b, h => by
    have e1 : su f (n + 1) = su f n + f n := rfl
    by_cases e : r = n
    · rw [e1, su_congr (h := fun _ => 0) (fun i a b => h i a (by omega) (by omega)), su_zero, e]; omega
    · rw [e1, su_only (n := n) a (by omega) (fun i x y z => h i x (by omega) z), h n (by omega) (by omega) (fun q => e q.symm)]; omega
/-- the lengths that the tree gives fill -/
theorem TR_CI {kn is_ dr : Int → Int} {n tot T : Int} (h : TR kn is_ n tot) (hn : 256 < n) (hu : ∀ k, 0 ≤ k → k < n → 0 < kn k → is_ k < 0 → k = n - 1) (hd : ∀ k, (0 : Int) ≤ k → k < 256 → dr k = dp is_ k) (hm : ∀ k, (0 : Int) ≤ k → k < 256 → dr k ≤ T) (hx : ∃ k, 0 ≤ k ∧ k < 256 ∧ dr k = T) (hT : T ≤ 11) : CI dr T ∧ ∀ k, (0 : Int) ≤ k → k < 256 → 0 < kn k → 1 ≤ dr k := by
  have B := TR_B h
  have root : is_ (n - 1) < 0 := by
    by_cases q : is_ (n - 1) < 0
    · exact q
    · have := B.2.2.1 (n - 1) (by omega) (by omega) (by omega)
      omega
  have kroot : 0 < kn (n - 1) := by
    obtain ⟨H, M, g⟩ := h
    exact (g.2.2.2.2.2.2.2.1 (n - 1) (by omega) (by omega)).1
  have leaf : ∀ k, (0 : Int) ≤ k → k < 256 → 0 < kn k → 0 ≤ is_ k := fun k a b c => by
    by_cases q : is_ k < 0
    · have := hu k a (by omega) c q
      omega
    · omega
  have one : ∀ k, (0 : Int) ≤ k → k < 256 → 0 < kn k → 1 ≤ dr k := fun k a b c => by
    have := dp_s B.2.1 B.2.2.1 (k := k) a (by omega)
    have := leaf k a b c
    have := dp_nn (is_ := is_) (is_ k)
    rw [hd k a b]
    omega
  have zer : ∀ k, (0 : Int) ≤ k → k < 256 → ¬ 0 < kn k → dr k = 0 := fun k a b c => by
    rw [hd k a b]
    rcases dp_s B.2.1 B.2.2.1 (k := k) a (by omega) with q | q
    · exact q.2
    · have := B.2.2.2 k a (by omega) q.1
      omega
  obtain ⟨x, x0, x1, x2⟩ := hx
  have T0 : 0 ≤ T := by
    have := dp_nn (is_ := is_) x
    have := hd x x0 x1
    omega
  have all : ∀ (m : Nat) (k : Int), 0 ≤ k → k < n → k ≤ m → 0 < kn k → dp is_ k ≤ T := by
    intro m
    induction m with
    | zero =>
      intro k a b c d
      have := hd k a (by omega)
      have := hm k a (by omega)
      omega
    | succ m ih =>
      intro k a b c d
      by_cases q : k < 256
      · have := hd k a q
        have := hm k a q
        omega
      · obtain ⟨H, M, g⟩ := h
        obtain ⟨_, a', b', a0, a1, b0, b1, ab, ia, ib, un⟩ := g.2.2.2.2.2.2.2.1 k (by omega) b
        have Ba := g.2.2.1 a' a0 a1 (by omega)
        have := ih a' a0 a1 (by omega) Ba.1
        have da := dp_s B.2.1 B.2.2.1 (k := a') a0 a1
        rw [ia] at da
        omega
  have hTT : ∀ k, 0 ≤ k → k < n → 0 < kn k → dp is_ k ≤ T := fun k a b c => all k.toNat k a b (by omega) c
  have K := kraft_all h hTT (n - 256).toNat (by omega)
  rw [show (256 : Int) + ((n - 256).toNat : Int) = n by omega] at K
  have top : su (kf kn is_ T n) n.toNat = p2 T := by
    rw [su_only (r := n - 1) (by omega) (by omega) (fun i a b c => by
      have := kf_eq kn is_ T n i
      have b' : i < n := by omega
      have := fun q => B.2.2.1 i a b' q
      have := fun q1 q2 => hu i a b' q1 q2
      omega)]
    have := kf_eq kn is_ T n (n - 1)
    have e : T - dp is_ (n - 1) = T := by
      have := dp_s B.2.1 B.2.2.1 (k := n - 1) (by omega) (by omega)
      omega
    rw [e] at this
    omega
  refine ⟨⟨T0, hT, fun i a b => ⟨by rw [hd i a b]; exact (dp_nn i).1, hm i a b⟩, ?_, x, x0, x1, x2⟩, one⟩
  rw [← top, K]
  refine su_congr (fun i a b => ?_)
  show kr T (dr i) = _
  have k1 := kr_eq T (dr i)
  have k2 := kf_eq kn is_ T 256 i
  have b' : i < 256 := by omega
  by_cases q : 0 < kn i
  · have o := one i a b' q
    have l := leaf i a b' q
    have B3 : 256 ≤ is_ i := by
      obtain ⟨H, M, g⟩ := h
      exact (g.2.2.1 i a (by omega) l).2.2.2.1
    rw [hd i a b'] at k1 o ⊢
    omega
  · have := zer i a b' q
    omega
/-! the least knot -/
def LM (kn is_ : Int → Int) (n but r : Int) : Prop := ∀ k, 0 ≤ k → k < n → k ≠ but → 0 < kn k → is_ k < 0 → 0 ≤ r ∧ kn r ≤ kn k
theorem LM_next {kn is_ : Int → Int} {n n2 but b b2 : Int} (h : LM kn is_ n but b) (e : n2 = n + 1) (c1 : n ≠ but → 0 < kn n → is_ n < 0 → 0 ≤ b2 ∧ kn b2 ≤ kn n) (c2 : 0 ≤ b → 0 ≤ b2 ∧ kn b2 ≤ kn b) : LM kn is_ n2 but b2 := by
  subst e
  intro k a b c d f
  by_cases q : k = n
  · subst q; exact c1 c d f
  · have := h k a (by omega) c d f
    have := c2 this.1
    omega
def TWO (h : Int → Int) : Prop := ∃ x y, 0 ≤ x ∧ x < 256 ∧ 0 ≤ y ∧ y < 256 ∧ x ≠ y ∧ 0 < h x ∧ 0 < h y
def EXD (d : Int → Int) (n m : Int) : Prop := ∃ i, 0 ≤ i ∧ i < n ∧ d i = m
theorem share_m {g : Int → Int} {l : Int} (h : ∀ i, (0 : Int) ≤ i → i < l → g (0 + i) = -1) : ∀ i, (0 : Int) ≤ i → i < l + 1 → upd1 g l (-1) (0 + i) = -1 := by
  intro i a b
  by_cases e : i = l
  · subst e; rw [Int.zero_add, upd1_s]
  · rw [upd1_o (by omega)]; exact h i a (by omega)
theorem TR_root {kn is_ : Int → Int} {n tot : Int} (h : TR kn is_ n tot) (hn : 256 < n) : 0 < kn (n - 1) ∧ is_ (n - 1) < 0 := by
  have B := TR_B h
  refine ⟨?_, ?_⟩
  · obtain ⟨H, M, g⟩ := h
    exact (g.2.2.2.2.2.2.2.1 (n - 1) (by omega) (by omega)).1
  · by_cases q : is_ (n - 1) < 0
    · exact q
    · have := B.2.2.1 (n - 1) (by omega) (by omega) (by omega)
      omega
theorem TR_unique {kn is_ : Int → Int} {n tot o t : Int} (h : TR kn is_ n tot) (hn : 256 < n) (l2 : LM kn is_ n o t) (ht : t < 0) : ∀ k, 0 ≤ k → k < n → 0 < kn k → is_ k < 0 → k = n - 1 := by
  have r := TR_root h hn
  intro k a b c d
  by_cases e : k = o
  · by_cases e2 : n - 1 = o
    · omega
    · have := l2 (n - 1) (by omega) (by omega) e2 r.1 r.2
      omega
  · have := l2 k a b e c d
    omega
