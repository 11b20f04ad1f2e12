/-! the tree of counts -/
def GF : Nat → Int
  | 0 => 1
  | 1 => 2
  | n + 2 => GF (n + 1) + GF n
theorem GF_pos : ∀ n, 1 ≤ GF n ∧ GF n ≤ GF (n + 1)
  | 0 => by decide
  | 1 => by decide
  | n + 2 => by
    have a := GF_pos n
    have b := GF_pos (n + 1)
    have e : GF (n + 2) = GF (n + 1) + GF n := rfl
    have e2 : GF (n + 2 + 1) = GF (n + 2) + GF (n + 1) := rfl
    omega
theorem GF_mono {a : Nat} : ∀ {b : Nat}, GF a ≤ GF (a + b)
  | 0 => Int.le_refl _
  | b + 1 => Int.le_trans (GF_mono (b := b)) (GF_pos (a + b)).2
theorem GF_le {a b : Nat} (h : a ≤ b) : GF a ≤ GF b := by
  have := GF_mono (a := a) (b := b - a)
  rw [show a + (b - a) = b by omega] at this
  exact this
theorem GF_12 {d : Nat} (h : GF d ≤ 376) : d ≤ 11 := by
  by_cases e : d ≤ 11
  · exact e
  · have := GF_le (show 12 ≤ d by omega)
    have q : GF 12 = 377 := by decide
    omega
def act (kn is_ : Int → Int) : Int → Int := fun k => if 0 < kn k ∧ is_ k < 0 then kn k else 0
def ac1 (kn is_ : Int → Int) : Int → Int := fun k => if 0 < kn k ∧ is_ k < 0 then 1 else 0
theorem act_eq (kn is_ : Int → Int) (k : Int) : 0 < kn k ∧ is_ k < 0 ∧ act kn is_ k = kn k ∧ ac1 kn is_ k = 1 ∨ ¬(0 < kn k ∧ is_ k < 0) ∧ act kn is_ k = 0 ∧ ac1 kn is_ k = 0 := by
  unfold act ac1
  by_cases h : 0 < kn k ∧ is_ k < 0
  · rw [if_pos h, if_pos h]; exact .inl ⟨h.1, h.2, rfl, rfl⟩
  · rw [if_neg h, if_neg h]; exact .inr ⟨h, rfl, rfl⟩
theorem su_one {f : Int → Int} {i : Int} : ∀ {n : Nat}, (∀ i : Int, 0 ≤ f i) → 0 ≤ i → i < n → f i ≤ su f n
  | 0, _, _, _ => by omega
  | n + 1, h, h0, h1 => by
    have e1 : su f (n + 1) = su f n + f n := rfl
    by_cases e : i = n
    · have := su_nonneg (f := f) (n := n) (fun i _ _ => h i)
      rw [e]; omega
    · have := su_one (n := n) h h0 (by omega)
      have := h n
      omega
theorem su_two {f : Int → Int} {i j : Int} : ∀ {n : Nat}, (∀ i : Int, 0 ≤ f i) → 0 ≤ i → i < n → 0 ≤ j → j < n → i ≠ j → f i + f j ≤ su f n
  | 0, _, _, _, _, _, _ => by omega
  | n + 1, h, a, b, c, d, e => by
    have e1 : su f (n + 1) = su f n + f n := rfl
    by_cases e2 : i = n
    · have := su_one (n := n) h c (by omega)
      rw [e2]; omega
    · by_cases e3 : j = n
      · have := su_one (n := n) h a (by omega)
        rw [e3]; omega
      · have := su_two (n := n) h a (by omega) c (by omega) e
        have := h n
        omega
def TQ (kn is_ : Int → Int) (n tot : Int) (H : Int → Nat) (M : Int) : Prop :=
  256 ≤ n ∧
  (∀ k, 0 ≤ k → k < n → 0 < kn k → is_ k < 0 → M ≤ kn k) ∧
  (∀ k, 0 ≤ k → k < n → 0 ≤ is_ k → 0 < kn k ∧ kn k ≤ M ∧ k < is_ k ∧ 256 ≤ is_ k ∧ is_ k < n ∧ H k < H (is_ k)) ∧
  (∀ k, 0 ≤ k → k < n → 0 < kn k → GF (H k) ≤ kn k ∧ kn k ≤ tot) ∧
  (∀ k, 0 ≤ k → k < n → 0 < kn k → 1 ≤ H k → ∃ a, 0 ≤ a ∧ a < n ∧ is_ a = k ∧ H a + 1 = H k) ∧
  su (act kn is_) n.toNat = tot ∧
  n + su (ac1 kn is_) n.toNat ≤ 512 ∧
  (∀ c, 256 ≤ c → c < n → 0 < kn c ∧ ∃ a b, 0 ≤ a ∧ a < n ∧ 0 ≤ b ∧ b < n ∧ a ≠ b ∧ is_ a = c ∧ is_ b = c ∧ ∀ x, 0 ≤ x → x < n → is_ x = c → x = a ∨ x = b) ∧
  (∀ k, 0 ≤ k → k < n → 0 ≤ kn k)
def TR (kn is_ : Int → Int) (n tot : Int) : Prop := ∃ (H : Int → Nat) (M : Int), TQ kn is_ n tot H M
theorem act_nn (kn is_ : Int → Int) (k : Int) : 0 ≤ act kn is_ k := by have := act_eq kn is_ k; omega
theorem ac1_nn (kn is_ : Int → Int) (k : Int) : 0 ≤ ac1 kn is_ k := by have := act_eq kn is_ k; omega
theorem su_ones : ∀ {f : Int → Int} {n : Nat}, (∀ i : Int, f i ≤ 1) → su f n ≤ n
  | f, 0, _ => by show (0 : Int) ≤ 0; omega
  | f, n + 1, h => by
    have := su_ones (f := f) (n := n) h
    have := h n
    show su f n + f n ≤ _
    omega
theorem TR_0 {kn is_ : Int → Int} (h0 : ∀ k, (0 : Int) ≤ k → k < 256 → 0 ≤ kn k) (h1 : ∀ k, (0 : Int) ≤ k → k < 256 → is_ k = -1) : TR kn is_ 256 (su kn 256) := by
  have hs : su (act kn is_) (256 : Int).toNat = su kn 256 := su_congr (fun i a b => by
    have := act_eq kn is_ i
    have := h0 i a (by omega)
    have := h1 i a (by omega)
    omega)
  refine ⟨fun _ => 0, 0, by omega, fun k a b c d => by omega, fun k a b c => by rw [h1 k a b] at c; omega, fun k a b c => ⟨?_, ?_⟩, fun k a b c d => absurd d (by show ¬ (1 ≤ 0); omega), hs, ?_, fun c a b => by omega, h0⟩
  · show (1 : Int) ≤ kn k; omega
  · rw [← hs]
    have e := act_eq kn is_ k
    have e2 := h1 k a b
    have := su_one (f := act kn is_) (n := (256 : Int).toNat) (act_nn kn is_) a (by omega)
    omega
  · have := su_ones (f := ac1 kn is_) (n := (256 : Int).toNat) (fun i => by have := act_eq kn is_ i; omega)
    omega
theorem TR_step {kn is_ : Int → Int} {n tot o t : Int} (h : TR kn is_ n tot) (o0 : 0 ≤ o) (o1 : o < n) (o2 : 0 < kn o) (o3 : is_ o < 0) (t0 : 0 ≤ t) (t1 : t < n) (t2 : 0 < kn t) (t3 : is_ t < 0) (hne : t ≠ o)
    (m1 : ∀ k, 0 ≤ k → k < n → 0 < kn k → is_ k < 0 → kn o ≤ kn k) (m2 : ∀ k, 0 ≤ k → k < n → k ≠ o → 0 < kn k → is_ k < 0 → kn t ≤ kn k) :
    n ≤ 510 ∧ kn o + kn t ≤ tot ∧ TR (upd1 kn n (kn o + kn t)) (upd1 (upd1 (upd1 is_ n (-1)) o n) t n) (n + 1) tot := by
  obtain ⟨H, M, hn, hA, hB, hC, hD, hE, hF, hG, hL⟩ := h
  have ea := act_eq kn is_ o
  have eb := act_eq kn is_ t
  have c2 := su_two (f := ac1 kn is_) (n := n.toNat) (ac1_nn kn is_) o0 (by omega) t0 (by omega) (fun q => hne q.symm)
  have w2 := su_two (f := act kn is_) (n := n.toNat) (act_nn kn is_) o0 (by omega) t0 (by omega) (fun q => hne q.symm)
  have k1 : ∀ k, k ≠ n → upd1 kn n (kn o + kn t) k = kn k := fun k q => upd1_o q
  have k2 : upd1 kn n (kn o + kn t) n = kn o + kn t := upd1_s
  have i0 : upd1 (upd1 (upd1 is_ n (-1)) o n) t n t = n := upd1_s
  have i1 : upd1 (upd1 (upd1 is_ n (-1)) o n) t n o = n := by rw [upd1_o (fun q => hne q.symm), upd1_s]
  have i2 : upd1 (upd1 (upd1 is_ n (-1)) o n) t n n = -1 := by rw [upd1_o (by omega), upd1_o (by omega), upd1_s]
  have i3 : ∀ k, k ≠ n → k ≠ o → k ≠ t → upd1 (upd1 (upd1 is_ n (-1)) o n) t n k = is_ k := fun k a b c => by rw [upd1_o c, upd1_o b, upd1_o a]
  generalize upd1 kn n (kn o + kn t) = kn' at k1 k2 ⊢
  generalize upd1 (upd1 (upd1 is_ n (-1)) o n) t n = is' at i0 i1 i2 i3 ⊢
  refine ⟨by omega, by omega, fun k => if k = n then max (H o) (H t) + 1 else H k, kn t, ?_⟩
  have H1 : ∀ k, k ≠ n → (if k = n then max (H o) (H t) + 1 else H k) = H k := fun k q => if_neg q
  have H2 : (if n = n then max (H o) (H t) + 1 else H n) = max (H o) (H t) + 1 := if_pos rfl
  have ho := hC o o0 o1 o2
  have ht := hC t t0 t1 t2
  have hMt := hA t t0 t1 t2 t3
  have hMo := hA o o0 o1 o2 o3
  have hot := m1 t t0 t1 t2 t3
  refine ⟨by omega, fun k a b c d => ?_, fun k a b c => ?_, fun k a b c => ?_, fun k a b c d => ?_, ?_, ?_, fun c a b => ?_, fun k a b => ?_⟩
  · by_cases e : k = n
    · subst e; omega
    · rw [k1 k e] at c ⊢
      by_cases e1 : k = o
      · subst e1; omega
      · by_cases e2 : k = t
        · subst e2; omega
        · rw [i3 k e e1 e2] at d
          exact m2 k a (by omega) e1 c d
  · by_cases e : k = n
    · subst e; omega
    · rw [k1 k e]
      show _ ∧ _ ∧ _ ∧ _ ∧ _ ∧ (if k = n then max (H o) (H t) + 1 else H k) < (if is' k = n then max (H o) (H t) + 1 else H (is' k))
      rw [H1 k e]
      by_cases e1 : k = o
      · subst e1; rw [i1, if_pos rfl]; exact ⟨o2, hot, o1, hn, by omega, by omega⟩
      · by_cases e2 : k = t
        · subst e2; rw [i0, if_pos rfl]; exact ⟨t2, by omega, t1, hn, by omega, by omega⟩
        · rw [i3 k e e1 e2] at c ⊢
          obtain ⟨q1, q2, q3, q4, q5, q6⟩ := hB k a (by omega) c
          rw [if_neg (by omega)]
          exact ⟨q1, by omega, q3, q4, by omega, q6⟩
  · show GF (if k = n then max (H o) (H t) + 1 else H k) ≤ _ ∧ _
    by_cases e : k = n
    · subst e
      rw [if_pos rfl, k2]
      refine ⟨?_, by omega⟩
      have tall : ∀ c d, 0 ≤ c → c < k → 0 < kn c → is_ c < 0 → 0 < kn d → M ≤ kn d → GF (H c) ≤ kn c → GF (H c + 1) ≤ kn c + kn d := by
        intro c d c0 c1 c2 c3 d2 d3 cg
        by_cases hz : H c = 0
        · rw [hz]; have : GF (0 + 1) = 2 := rfl; omega
        · obtain ⟨a', a0, a1, a2, a3⟩ := hD c c0 c1 c2 (by omega)
          obtain ⟨q1, q2, q3, q4, q5, q6⟩ := hB a' a0 a1 (by omega)
          have g := (hC a' a0 a1 q1).1
          have e3 : GF (H c + 1) = GF (H c) + GF (H a') := by rw [← a3]; rfl
          omega
      by_cases hm : H t ≤ H o
      · rw [Nat.max_eq_left hm]
        exact tall o t o0 o1 o2 o3 t2 hMt ho.1
      · rw [Nat.max_eq_right (by omega)]
        have := tall t o t0 t1 t2 t3 o2 hMo ht.1
        omega
    · rw [if_neg e, k1 k e]
      rw [k1 k e] at c
      exact hC k a (by omega) c
  · have d : 1 ≤ (if k = n then max (H o) (H t) + 1 else H k) := d
    show ∃ a, 0 ≤ a ∧ a < n + 1 ∧ is' a = k ∧ (if a = n then max (H o) (H t) + 1 else H a) + 1 = (if k = n then max (H o) (H t) + 1 else H k)
    by_cases e : k = n
    · subst e
      rw [if_pos rfl]
      by_cases hm : H t ≤ H o
      · exact ⟨o, o0, by omega, i1, by rw [if_neg (by omega), Nat.max_eq_left hm]⟩
      · exact ⟨t, t0, by omega, i0, by rw [if_neg (by omega), Nat.max_eq_right (by omega)]⟩
    · rw [if_neg e] at d ⊢
      rw [k1 k e] at c
      obtain ⟨a', a0, a1, a2, a3⟩ := hD k a (by omega) c d
      exact ⟨a', a0, by omega, by rw [i3 a' (by omega) (fun q => by subst q; omega) (fun q => by subst q; omega)]; exact a2, by rw [if_neg (by omega)]; exact a3⟩
  · rw [show (n + 1).toNat = n.toNat + 1 by omega]
    show su (act kn' is') n.toNat + act kn' is' ((n.toNat : Nat) : Int) = tot
    rw [show ((n.toNat : Nat) : Int) = n by omega]
    have q : su (act kn' is') n.toNat = su (act kn is_) n.toNat + (0 - kn o) + (0 - kn t) := by
      have s1 := su_upd (f := act kn is_) (h := fun k => if k = o then 0 else act kn is_ k) (j := o) (n := n.toNat) o0 (by omega) (fun i _ _ c => by show (if i = o then 0 else act kn is_ i) = _; rw [if_neg c])
      have s2 := su_upd (f := fun k => if k = o then 0 else act kn is_ k) (h := act kn' is') (j := t) (n := n.toNat) t0 (by omega) (fun i a b c => by
        show _ = if i = o then 0 else act kn is_ i
        have x := act_eq kn' is' i
        have y := act_eq kn is_ i
        rw [k1 i (by omega)] at x
        by_cases e : i = o
        · rw [if_pos e]; rw [e] at x ⊢; rw [i1] at x; omega
        · rw [if_neg e]; rw [i3 i (by omega) e c] at x; omega)
      have s3 : act kn' is' t = 0 := by have x := act_eq kn' is' t; rw [i0] at x; omega
      rw [s2, s1, s3]
      show su (act kn is_) n.toNat + ((if o = o then 0 else act kn is_ o) - act kn is_ o) + (0 - (if t = o then 0 else act kn is_ t)) = _
      rw [if_pos rfl, if_neg hne]
      omega
    have x := act_eq kn' is' n
    rw [k2, i2] at x
    omega
  · rw [show (n + 1).toNat = n.toNat + 1 by omega]
    show n + 1 + (su (ac1 kn' is') n.toNat + ac1 kn' is' ((n.toNat : Nat) : Int)) ≤ 512
    rw [show ((n.toNat : Nat) : Int) = n by omega]
    have q : su (ac1 kn' is') n.toNat = su (ac1 kn is_) n.toNat + (0 - 1) + (0 - 1) := by
      have s1 := su_upd (f := ac1 kn is_) (h := fun k => if k = o then 0 else ac1 kn is_ k) (j := o) (n := n.toNat) o0 (by omega) (fun i _ _ c => by show (if i = o then 0 else ac1 kn is_ i) = _; rw [if_neg c])
      have s2 := su_upd (f := fun k => if k = o then 0 else ac1 kn is_ k) (h := ac1 kn' is') (j := t) (n := n.toNat) t0 (by omega) (fun i a b c => by
        show _ = if i = o then 0 else ac1 kn is_ i
        have x := act_eq kn' is' i
        have y := act_eq kn is_ i
        rw [k1 i (by omega)] at x
        by_cases e : i = o
        · rw [if_pos e]; rw [e] at x ⊢; rw [i1] at x; omega
        · rw [if_neg e]; rw [i3 i (by omega) e c] at x; omega)
      have s3 : ac1 kn' is' t = 0 := by have x := act_eq kn' is' t; rw [i0] at x; omega
      rw [s2, s1, s3]
      show su (ac1 kn is_) n.toNat + ((if o = o then 0 else ac1 kn is_ o) - ac1 kn is_ o) + (0 - (if t = o then 0 else ac1 kn is_ t)) = _
      rw [if_pos rfl, if_neg hne]
      omega
    have x := act_eq kn' is' n
    rw [k2, i2] at x
    omega
  · by_cases e : c = n
    · subst e
      refine ⟨by omega, o, t, o0, by omega, t0, by omega, fun q => hne q.symm, i1, i0, fun x x0 x1 x2 => ?_⟩
      by_cases e1 : x = o
      · exact .inl e1
      · by_cases e2 : x = t
        · exact .inr e2
        · by_cases e3 : x = c
          · subst e3; omega
          · rw [i3 x e3 e1 e2] at x2
            have := hB x x0 (by omega) (by omega)
            omega
    · obtain ⟨q, a', b', a0, a1, b0, b1, ab, ia, ib, un⟩ := hG c a (by omega)
      rw [k1 c e]
      refine ⟨q, a', b', a0, by omega, b0, by omega, ab, ?_, ?_, fun x x0 x1 x2 => ?_⟩
      · rw [i3 a' (by omega) (fun q => by subst q; omega) (fun q => by subst q; omega)]; exact ia
      · rw [i3 b' (by omega) (fun q => by subst q; omega) (fun q => by subst q; omega)]; exact ib
      · by_cases e1 : x = o
        · subst e1; omega
        · by_cases e2 : x = t
          · subst e2; omega
          · by_cases e3 : x = n
            · subst e3; omega
            · rw [i3 x e3 e1 e2] at x2
              exact un x x0 (by omega) x2
  · by_cases e : k = n
    · subst e; omega
    · rw [k1 k e]; exact hL k a (by omega)
