/-! two queues: leaves and sums, both rising -/
def SRT (am : Int → Int) (a b : Int) : Prop := ∀ i j, a ≤ i → i ≤ j → j < b → am i ≤ am j
def SA2 (f : Int → Int) (a b : Int) : Int := su (fun i => f (a + i)) (b - a).toNat
theorem su_head {g : Int → Int} : ∀ {n : Nat}, su g (n + 1) = g 0 + su (fun i => g (i + 1)) n
  | 0 => by
    show su g 0 + g ((0 : Nat) : Int) = g 0 + 0
    have : su g 0 = 0 := rfl
    have e : g ((0 : Nat) : Int) = g 0 := rfl
    omega
  | n + 1 => by
    show su g (n + 1) + g ((n + 1 : Nat) : Int) = g 0 + (su (fun i => g (i + 1)) n + g ((n : Int) + 1))
    rw [su_head, show ((n + 1 : Nat) : Int) = (n : Int) + 1 by omega]
    omega
theorem SA2_head {f : Int → Int} {a b : Int} (h : a < b) : SA2 f a b = f a + SA2 f (a + 1) b := by
  unfold SA2
  rw [show (b - a).toNat = (b - (a + 1)).toNat + 1 by omega, su_head, Int.add_zero]
  congr 1
  exact su_congr (fun i _ _ => by congr 1; omega)
theorem SA2_last {f : Int → Int} {a b : Int} (h : a ≤ b) : SA2 f a (b + 1) = SA2 f a b + f b := by
  unfold SA2
  rw [show (b + 1 - a).toNat = (b - a).toNat + 1 by omega]
  show su _ (b - a).toNat + f (a + ((b - a).toNat : Int)) = _
  rw [show a + (((b - a).toNat : Nat) : Int) = b by omega]
theorem SA2_nil {f : Int → Int} {a : Int} : SA2 f a a = 0 := by
  unfold SA2
  rw [show (a - a).toNat = 0 by omega]
  rfl
theorem SA2_upd {f : Int → Int} {a b k v : Int} (h : b ≤ k) : SA2 (upd1 f k v) a b = SA2 f a b := by
  unfold SA2
  exact su_congr (fun i x y => by rw [upd1_o (by omega)])
theorem SA2_nn {f : Int → Int} {a b : Int} (h : ∀ i, a ≤ i → i < b → 0 ≤ f i) : 0 ≤ SA2 f a b := su_nonneg (fun i x y => h _ (by omega) (by omega))
def TAKE (am : Int → Int) (z la sa n o la' sa' : Int) : Prop := (la < z ∧ o = la ∧ la' = la + 1 ∧ sa' = sa ∧ (n ≤ sa ∨ am la ≤ am sa)) ∨ (sa < n ∧ o = sa ∧ la' = la ∧ sa' = sa + 1 ∧ (z ≤ la ∨ am sa ≤ am la))
theorem TAKE_f {am : Int → Int} {z la sa n o la' sa' : Int} (h : TAKE am z la sa n o la' sa') (r : 0 ≤ la ∧ la ≤ z ∧ z ≤ sa ∧ sa ≤ n) (s1 : SRT am la z) (s2 : SRT am sa n) : (0 ≤ la' ∧ la' ≤ z ∧ z ≤ sa' ∧ sa' ≤ n ∧ la' + sa' = la + sa + 1 ∧ la ≤ la' ∧ sa ≤ sa') ∧ (la ≤ o ∧ o < z ∨ sa ≤ o ∧ o < n) ∧ (∀ k, (la ≤ k ∧ k < z ∨ sa ≤ k ∧ k < n) → am o ≤ am k) ∧ SRT am la' z ∧ SRT am sa' n ∧ SA2 am la z + SA2 am sa n = am o + (SA2 am la' z + SA2 am sa' n) ∧ (∀ k, (0 ≤ k ∧ k < la' ∨ z ≤ k ∧ k < sa') ↔ ((0 ≤ k ∧ k < la ∨ z ≤ k ∧ k < sa) ∨ k = o)) := by
  rcases h with ⟨a, b, c, d, e⟩ | ⟨a, b, c, d, e⟩
  · subst b c d
    refine ⟨by omega, by omega, fun k hk => ?_, fun i j x y w => s1 i j (by omega) y w, s2, ?_, fun k => by omega⟩
    · rcases hk with hk | hk
      · exact s1 _ _ (by omega) hk.1 hk.2
      · have := s2 _ k (Int.le_refl _) hk.1 hk.2
        omega
    · rw [SA2_head a]; omega
  · subst b c d
    refine ⟨by omega, by omega, fun k hk => ?_, s1, fun i j x y w => s2 i j (by omega) y w, ?_, fun k => by omega⟩
    · rcases hk with hk | hk
      · have := s1 _ k (Int.le_refl _) hk.1 hk.2
        omega
      · exact s2 _ _ (by omega) hk.1 hk.2
    · rw [SA2_head a]; omega
def TWQ (am pa : Int → Int) (z la sa n tot : Int) (H : Int → Nat) (M : Int) : Prop :=
  (0 ≤ la ∧ la ≤ z ∧ z ≤ sa ∧ sa ≤ n ∧ (z - la) + (n - sa) + (n - z) = z) ∧
  SRT am la z ∧ SRT am sa n ∧
  (∀ k, (la ≤ k ∧ k < z ∨ sa ≤ k ∧ k < n) → M ≤ am k) ∧
  (∀ k, z ≤ k → k < n → am k ≤ 2 * M) ∧
  (∀ k, 0 ≤ k → k < n → GF (H k) ≤ am k) ∧
  (∀ k, (0 ≤ k ∧ k < la ∨ z ≤ k ∧ k < sa) → k < pa k ∧ z ≤ pa k ∧ pa k < n ∧ H k < H (pa k) ∧ am k ≤ M) ∧
  (∀ k, 0 ≤ k → k < n → 1 ≤ H k → ∃ a, (0 ≤ a ∧ a < la ∨ z ≤ a ∧ a < sa) ∧ H a + 1 = H k) ∧
  SA2 am la z + SA2 am sa n = tot
def TW (am pa : Int → Int) (z la sa n tot : Int) : Prop := ∃ (H : Int → Nat) (M : Int), TWQ am pa z la sa n tot H M
theorem TW_0 {am pa : Int → Int} {z : Int} (hz : 0 ≤ z) (s : SRT am 0 z) (h : ∀ k, 0 ≤ k → k < z → 1 ≤ am k) : TW am pa z 0 z z (SA2 am 0 z) := by
  refine ⟨fun _ => 0, 0, by omega, s, fun i j a b c => by omega, fun k hk => ?_, fun k a b => by omega, fun k a b => h k a b, fun k hk => by omega, fun k a b c => absurd c (by show ¬ (1 ≤ 0); omega), by rw [SA2_nil]; omega⟩
  have := h k (by omega) (by omega)
  omega
theorem TW_rng {am pa : Int → Int} {z la sa n tot : Int} (h : TW am pa z la sa n tot) : 0 ≤ la ∧ la ≤ z ∧ z ≤ sa ∧ sa ≤ n ∧ (z - la) + (n - sa) + (n - z) = z := by
  obtain ⟨H, M, h⟩ := h
  exact h.1
theorem TW_step {am pa : Int → Int} {z la sa n tot o la1 sa1 t la2 sa2 n2 v : Int} (h : TW am pa z la sa n tot) (h1 : TAKE am z la sa n o la1 sa1) (h2 : TAKE am z la1 sa1 n t la2 sa2) (en : n2 = n + 1) (ev : v = am o + am t) : 0 ≤ o ∧ o < n ∧ 0 ≤ t ∧ t < n ∧ 1 ≤ am o ∧ 1 ≤ am t ∧ v ≤ tot ∧ TW (upd1 am n v) (upd1 (upd1 pa o n) t n) z la2 sa2 n2 tot := by
  subst en ev
  obtain ⟨H, M, r, s1, s2, hA, hS, hG, hT, hX, hE⟩ := h
  obtain ⟨q1, q2, q3, q4, q5, q6, q7⟩ := TAKE_f h1 ⟨r.1, r.2.1, r.2.2.1, r.2.2.2.1⟩ s1 s2
  obtain ⟨p1, p2', p3, p4, p5, p6, p7⟩ := TAKE_f h2 ⟨q1.1, q1.2.1, q1.2.2.1, q1.2.2.2.1⟩ q4 q5
  have oa : 0 ≤ o ∧ o < n := by omega
  have ta : 0 ≤ t ∧ t < n := by omega
  have ne : t ≠ o := by
    intro e
    have := (q7 o).mpr (.inr rfl)
    omega
  have oM := hA o q2
  have tact : la ≤ t ∧ t < z ∨ sa ≤ t ∧ t < n := by omega
  have tM := hA t tact
  have ot := q3 t tact
  have go := hG o oa.1 oa.2
  have gt := hG t ta.1 ta.2
  have g1 := (GF_pos (H o)).1
  have g2 := (GF_pos (H t)).1
  have nn1 := SA2_nn (f := am) (a := la2) (b := z) (fun i x y => by have := hG i (by omega) (by omega); have := (GF_pos (H i)).1; omega)
  have nn2 := SA2_nn (f := am) (a := sa2) (b := n) (fun i x y => by have := hG i (by omega) (by omega); have := (GF_pos (H i)).1; omega)
  have k1 : ∀ k, k ≠ n → upd1 am n (am o + am t) k = am k := fun k q => upd1_o q
  have k2 : upd1 am n (am o + am t) n = am o + am t := upd1_s
  have e1 : SA2 (upd1 am n (am o + am t)) la2 z = SA2 am la2 z := SA2_upd (by omega)
  have e2 : SA2 (upd1 am n (am o + am t)) sa2 (n + 1) = SA2 am sa2 n + (am o + am t) := by
    rw [SA2_last (by omega), SA2_upd (Int.le_refl _), k2]
  have i0 : upd1 (upd1 pa o n) t n t = n := upd1_s
  have i1 : upd1 (upd1 pa o n) t n o = n := by rw [upd1_o (fun q => ne q.symm), upd1_s]
  have i3 : ∀ k, k ≠ o → k ≠ t → upd1 (upd1 pa o n) t n k = pa k := fun k b c => by rw [upd1_o c, upd1_o b]
  generalize upd1 am n (am o + am t) = am' at k1 k2 e1 e2 ⊢
  generalize upd1 (upd1 pa o n) t n = pa' at i0 i1 i3 ⊢
  refine ⟨oa.1, oa.2, ta.1, ta.2, by omega, by omega, by omega, fun k => if k = n then max (H o) (H t) + 1 else H k, am t, ?_⟩
  have H1 : ∀ k, k ≠ n → (if k = n then max (H o) (H t) + 1 else H k) = H k := fun k q => if_neg q
  have H2 : (if n = n then max (H o) (H t) + 1 else H n) = max (H o) (H t) + 1 := if_pos rfl
  refine ⟨by omega, fun i j a b c => ?_, fun i j a b c => ?_, fun k hk => ?_, fun k a b => ?_, fun k a b => ?_, fun k hk => ?_, fun k a b c => ?_, by omega⟩
  · rw [k1 i (by omega), k1 j (by omega)]
    exact p4 i j a b c
  · by_cases e : j = n
    · subst e
      rw [k2]
      by_cases e' : i = j
      · subst e'; rw [k2]; omega
      · rw [k1 i e']
        have := hS i (by omega) (by omega)
        omega
    · rw [k1 i (by omega), k1 j e]
      exact p5 i j a b (by omega)
  · by_cases e : k = n
    · subst e; rw [k2]; omega
    · rw [k1 k e]
      exact p3 k (by omega)
  · by_cases e : k = n
    · subst e; rw [k2]; omega
    · rw [k1 k e]
      have := hS k a (by omega)
      omega
  · show GF (if k = n then max (H o) (H t) + 1 else H k) ≤ am' k
    by_cases e : k = n
    · subst e
      rw [k2, H2]
      by_cases w : H o ≤ H t
      · rw [show max (H o) (H t) = H t by omega]
        by_cases w0 : 1 ≤ H t
        · obtain ⟨x, x1, x2⟩ := hX t ta.1 ta.2 w0
          have xm := (hT x x1).2.2.2.2
          have gx := hG x (by omega) (by omega)
          have : GF (H t + 1) = GF (H t) + GF (H x) := by rw [← x2]; rfl
          omega
        · rw [show H t = 0 by omega]
          show (2 : Int) ≤ _
          omega
      · rw [show max (H o) (H t) = H o by omega]
        obtain ⟨x, x1, x2⟩ := hX o oa.1 oa.2 (by omega)
        have xm := (hT x x1).2.2.2.2
        have gx := hG x (by omega) (by omega)
        have : GF (H o + 1) = GF (H o) + GF (H x) := by rw [← x2]; rfl
        omega
    · rw [k1 k e, H1 k e]
      exact hG k a (by omega)
  · show k < pa' k ∧ z ≤ pa' k ∧ pa' k < n + 1 ∧ (if k = n then max (H o) (H t) + 1 else H k) < (if pa' k = n then max (H o) (H t) + 1 else H (pa' k)) ∧ am' k ≤ am t
    have kn : k < n := by omega
    rw [H1 k (by omega), k1 k (by omega)]
    by_cases e1 : k = o
    · subst e1; rw [i1, if_pos rfl]; exact ⟨by omega, by omega, by omega, by omega, by omega⟩
    · by_cases e2 : k = t
      · subst e2; rw [i0, if_pos rfl]; exact ⟨by omega, by omega, by omega, by omega, by omega⟩
      · rw [i3 k e1 e2]
        have old : 0 ≤ k ∧ k < la ∨ z ≤ k ∧ k < sa := by
          rcases (p7 k).mp hk with w | w
          · rcases (q7 k).mp w with w' | w'
            · exact w'
            · exact absurd w' e1
          · exact absurd w e2
        obtain ⟨t1, t2, t3, t4, t5⟩ := hT k old
        rw [if_neg (by omega)]
        exact ⟨t1, t2, by omega, t4, by omega⟩
  · have lift : ∀ x, (0 ≤ x ∧ x < la ∨ z ≤ x ∧ x < sa) → (0 ≤ x ∧ x < la2 ∨ z ≤ x ∧ x < sa2) := fun x w => (p7 x).mpr (.inl ((q7 x).mpr (.inl w)))
    have to : 0 ≤ o ∧ o < la2 ∨ z ≤ o ∧ o < sa2 := (p7 o).mpr (.inl ((q7 o).mpr (.inr rfl)))
    have tt : 0 ≤ t ∧ t < la2 ∨ z ≤ t ∧ t < sa2 := (p7 t).mpr (.inr rfl)
    show ∃ x, _ ∧ (if x = n then max (H o) (H t) + 1 else H x) + 1 = (if k = n then max (H o) (H t) + 1 else H k)
    by_cases e : k = n
    · rw [if_pos e]
      by_cases w : H o ≤ H t
      · exact ⟨t, tt, by rw [H1 t (by omega)]; omega⟩
      · exact ⟨o, to, by rw [H1 o (by omega)]; omega⟩
    · rw [if_neg e]
      have cₚ : 1 ≤ H k := by
        have c2 : 1 ≤ (if k = n then max (H o) (H t) + 1 else H k) := c
        rw [if_neg e] at c2
        exact c2
      obtain ⟨x, x1, x2⟩ := hX k a (by omega) cₚ
      exact ⟨x, lift x x1, by rw [H1 x (by omega)]; exact x2⟩
theorem GF_ge : ∀ n : Nat, (n : Int) + 1 ≤ GF n
  | 0 => by decide
  | 1 => by decide
  | n + 2 => by
    have a := GF_ge (n + 1)
    have b := (GF_pos n).1
    have e : GF (n + 2) = GF (n + 1) + GF n := rfl
    omega
/-- depths from the root down -/
def FLQ (am pa : Int → Int) (i n tot : Int) : Prop := ∃ H : Int → Nat, GF (H (n - 1)) ≤ tot ∧ (∀ k, 0 ≤ k → k < n - 1 → k < pa k ∧ pa k < n ∧ H k < H (pa k)) ∧ (∀ k, i < k → k < n → 0 ≤ am k ∧ am k + H k ≤ H (n - 1) ∧ (k < n - 1 → 1 ≤ am k))
def LGT (g t : Int) : Prop := ∃ H : Nat, g ≤ H ∧ GF H ≤ t
theorem FLQ_0 {am pa : Int → Int} {z la sa n tot : Int} (h : TW am pa z la sa n tot) (hz : 2 ≤ z) (hn : n = 2 * z - 1) : FLQ (upd1 am (n - 1) 0) pa (n - 2) n tot := by
  obtain ⟨H, M, r, s1, s2, hA, hS, hG, hT, hX, hE⟩ := h
  have e : la = z ∧ sa = n - 1 := by
    by_cases w : la = z
    · omega
    · have q := hT (n - 1) (.inr ⟨by omega, by omega⟩)
      omega
  obtain ⟨e1, e2⟩ := e
  subst e1 e2
  have g := hG (n - 1) (by omega) (by omega)
  rw [SA2_nil, SA2_head (by omega), show n - 1 + 1 = n by omega, SA2_nil] at hE
  refine ⟨H, by omega, fun k a b => ?_, fun k a b => ?_⟩
  · have := hT k (by omega)
    exact ⟨this.1, this.2.2.1, this.2.2.2.1⟩
  · have : k = n - 1 := by omega
    subst this
    rw [upd1_s]
    exact ⟨by omega, by omega, fun w => by omega⟩
theorem FLQ_pa {am pa : Int → Int} {i n tot : Int} (h : FLQ am pa i n tot) (a : 0 ≤ i) (b : i < n - 1) : i < pa i ∧ pa i < n ∧ 0 ≤ am (pa i) ∧ am (pa i) ≤ tot := by
  obtain ⟨H, h0, h1, h2⟩ := h
  have p := h1 i a b
  have q := h2 (pa i) p.1 p.2.1
  have g := GF_ge (H (n - 1))
  exact ⟨p.1, p.2.1, q.1, by omega⟩
theorem FLQ_s {am pa : Int → Int} {i i2 n tot v : Int} (h : FLQ am pa i n tot) (a : 0 ≤ i) (b : i < n - 1) (e : i2 = i - 1) (ev : v = am (pa i) + 1) : FLQ (upd1 am i v) pa i2 n tot ∧ LGT v tot ∧ 1 ≤ v := by
  subst e ev
  obtain ⟨H, h0, h1, h2⟩ := h
  have p := h1 i a b
  have q := h2 (pa i) p.1 p.2.1
  refine ⟨⟨H, h0, h1, fun k x y => ?_⟩, ⟨H (n - 1), by omega, h0⟩, by omega⟩
  by_cases w : k = i
  · subst w
    rw [upd1_s]
    exact ⟨by omega, by omega, fun _ => by omega⟩
  · rw [upd1_o w]
    exact h2 k (by omega) y
theorem LGT_max {a b c t : Int} (h : LGT a t) (g : LGT b t) (e : c = a ∨ c = b) : LGT c t := by
  rcases e with e | e
  · rw [e]; exact h
  · rw [e]; exact g
theorem LGT_0 {t : Int} (h : 1 ≤ t) : LGT 0 t := ⟨0, by omega, h⟩
theorem LGT_11 {g t : Int} (h : LGT g t) (ht : t ≤ 376) : g ≤ 11 := by
  obtain ⟨H, a, b⟩ := h
  have := GF_12 (d := H) (by omega)
  omega
theorem LGT_le {g t : Int} (h : LGT g t) : g ≤ t := by
  obtain ⟨H, a, b⟩ := h
  have := GF_ge H
  omega
def LNG (l : Int → Int) (g : Int) : Prop := ∀ s, 0 ≤ s → s < 256 → 0 ≤ l s ∧ l s ≤ g
theorem LNG_upd {l : Int → Int} {g g2 s v : Int} (h : LNG l g) (hg : g ≤ g2) (hv : 0 ≤ v ∧ v ≤ g2) : LNG (upd1 l s v) g2 := fun x a b => by
  by_cases w : x = s
  · subst w; rw [upd1_s]; exact hv
  · rw [upd1_o w]; have := h x a b; omega
/-! leaves in rising order -/
def ORD (o : Int → Int) (e : Int) : Prop := ∀ i, 0 ≤ i → i < e → 0 ≤ o i ∧ o i < 256
def GEA (am : Int → Int) (e h : Int) : Prop := ∀ i, 0 ≤ i → i < e → 1 ≤ am i ∧ am i ≤ 65536 ∧ (h = 30 → am i = 1)
/-- a hole at p, the larger ones are behind it -/
def INS (am o : Int → Int) (p e x h : Int) : Prop := 0 ≤ p ∧ p ≤ e ∧ SRT am 0 p ∧ SRT am (p + 1) (e + 1) ∧ (∀ i j, 0 ≤ i → i < p → p < j → j ≤ e → am i ≤ am j) ∧ (∀ j, p < j → j ≤ e → x < am j) ∧ (∀ i, 0 ≤ i → i ≤ e → i ≠ p → 1 ≤ am i ∧ am i ≤ 65536 ∧ (h = 30 → am i = 1)) ∧ (∀ i, 0 ≤ i → i ≤ e → i ≠ p → 0 ≤ o i ∧ o i < 256)
theorem INS_0 {am o : Int → Int} {e x h : Int} (e0 : 0 ≤ e) (s : SRT am 0 e) (g : GEA am e h) (q : ORD o e) : INS am o e e x h :=
  ⟨e0, by omega, s, fun i j a b c => by have : i = j := by omega
                                        subst this; omega, fun i j a b c d => by omega, fun j a b => by omega, fun i a b c => g i a (by omega), fun i a b c => q i a (by omega)⟩
theorem INS_s {am o : Int → Int} {p p2 e x h v w : Int} (q : INS am o p e x h) (hp : 0 < p) (ep : p2 = p - 1) (ev : v = am (p - 1)) (ew : w = o (p - 1)) (hx : x < v) : INS (upd1 am p v) (upd1 o p w) p2 e x h := by
  subst ep ev ew
  obtain ⟨a0, a1, s1, s2, s3, s4, g, r⟩ := q
  refine ⟨by omega, by omega, fun i j a b c => ?_, fun i j a b c => ?_, fun i j a b c d => ?_, fun j a b => ?_, fun i a b c => ?_, fun i a b c => ?_⟩
  · rw [upd1_o (by omega), upd1_o (by omega)]; exact s1 i j a b (by omega)
  · by_cases e1 : i = p
    · subst e1
      rw [upd1_s]
      by_cases e2 : j = i
      · subst e2; rw [upd1_s]; omega
      · rw [upd1_o e2]; exact s3 _ _ (by omega) (by omega) (by omega) (by omega)
    · rw [upd1_o e1, upd1_o (by omega)]; exact s2 i j (by omega) b c
  · rw [upd1_o (show i ≠ p by omega)]
    by_cases e2 : j = p
    · subst e2; rw [upd1_s]; exact s1 i _ a (by omega) (by omega)
    · rw [upd1_o e2]; exact s3 i j a (by omega) (by omega) d
  · by_cases e2 : j = p
    · subst e2; rw [upd1_s]; exact hx
    · rw [upd1_o e2]; exact s4 j (by omega) b
  · by_cases e2 : i = p
    · subst e2; rw [upd1_s]; exact g _ (by omega) (by omega) (by omega)
    · rw [upd1_o e2]; exact g i a b e2
  · by_cases e2 : i = p
    · subst e2; rw [upd1_s]; exact r _ (by omega) (by omega) (by omega)
    · rw [upd1_o e2]; exact r i a b e2
theorem INS_end {am o : Int → Int} {p e e2 x h s : Int} (q : INS am o p e x h) (hx : p = 0 ∨ am (p - 1) ≤ x) (ee : e2 = e + 1) (gx : 1 ≤ x ∧ x ≤ 65536 ∧ (h = 30 → x = 1)) (hs : 0 ≤ s ∧ s < 256) : SRT (upd1 am p x) 0 e2 ∧ GEA (upd1 am p x) e2 h ∧ ORD (upd1 o p s) e2 := by
  subst ee
  obtain ⟨a0, a1, s1, s2, s3, s4, g, r⟩ := q
  refine ⟨fun i j a b c => ?_, fun i a b => ?_, fun i a b => ?_⟩
  · by_cases e1 : i = p
    · subst e1
      rw [upd1_s]
      by_cases e2 : j = i
      · subst e2; rw [upd1_s]; omega
      · rw [upd1_o e2]; have := s4 j (by omega) (by omega); omega
    · rw [upd1_o e1]
      by_cases e2 : j = p
      · subst e2
        rw [upd1_s]
        have := s1 i (j - 1) a (by omega) (by omega)
        omega
      · rw [upd1_o e2]
        by_cases e3 : j < p
        · exact s1 i j a b e3
        · by_cases e4 : i < p
          · exact s3 i j a e4 (by omega) (by omega)
          · exact s2 i j (by omega) b c
  · by_cases e1 : i = p
    · subst e1; rw [upd1_s]; exact gx
    · rw [upd1_o e1]; exact g i a (by omega) e1
  · by_cases e1 : i = p
    · subst e1; rw [upd1_s]; exact hs
    · rw [upd1_o e1]; exact r i a (by omega) e1
/-- all amounts are 1 when they were halved thirty times -/
theorem SA2_ones {am : Int → Int} {e : Int} (e0 : 0 ≤ e) (h : ∀ i, 0 ≤ i → i < e → am i = 1) : SA2 am 0 e = e := by
  have k : ∀ m : Nat, (m : Int) ≤ e → su (fun i => am (0 + i)) m = m := by
    intro m
    induction m with
    | zero => intro _; rfl
    | succ m ih =>
      intro hm
      show su _ m + am (0 + (m : Int)) = _
      rw [ih (by omega), h _ (by omega) (by omega)]
      omega
  unfold SA2
  rw [k _ (by omega)]
  omega
theorem SA2_bd {am : Int → Int} {e h : Int} (e0 : 0 ≤ e) (g : GEA am e h) : e ≤ SA2 am 0 e ∧ SA2 am 0 e ≤ 65536 * e := by
  have k : ∀ m : Nat, (m : Int) ≤ e → (m : Int) ≤ su (fun i => am (0 + i)) m ∧ su (fun i => am (0 + i)) m ≤ 65536 * m := by
    intro m
    induction m with
    | zero => intro _; exact ⟨Int.le_refl _, Int.le_refl _⟩
    | succ m ih =>
      intro hm
      have q := ih (by omega)
      have r := g (0 + (m : Int)) (by omega) (by omega)
      show _ ≤ su _ m + am (0 + (m : Int)) ∧ su _ m + am (0 + (m : Int)) ≤ _
      omega
  unfold SA2
  have := k (e - 0).toNat (by omega)
  omega
theorem FLQ_1 {am pa : Int → Int} {i n tot : Int} (h : FLQ am pa i n tot) : 1 ≤ tot := by
  obtain ⟨H, h0, -, -⟩ := h
  have := (GF_pos (H (n - 1))).1
  omega
def CTS (co : Int → Int) : Prop := ∀ s, 0 ≤ s → s < 256 → 0 ≤ co s ∧ co s ≤ 65536
def LNO (x : Int) (l : Int → Int) (g : Int) : Prop := x = 0 ∨ LNG l g
theorem halv {c t z : Int} (c0 : 1 ≤ c) (c1 : c ≤ 65536) (t0 : 0 ≤ t) (t1 : t ≤ 30) (e : z = (c + p2 t - 1) / p2 t) : 1 ≤ z ∧ z ≤ 65536 ∧ (t = 30 → z = 1) := by
  have p := p2_pos t
  have a : 1 ≤ z := by
    rw [e]
    exact Int.le_ediv_of_mul_le (by omega) (by omega)
  have b : z ≤ c := by
    rw [e]
    have m : c + p2 t - 1 < (c + 1) * p2 t := by
      have : c * 1 ≤ c * p2 t := Int.mul_le_mul_of_nonneg_left p (by omega)
      rw [Int.add_mul, Int.one_mul]
      omega
    have := Int.ediv_lt_of_lt_mul (by omega) m
    omega
  refine ⟨a, by omega, fun q => ?_⟩
  subst q
  rw [show p2 30 = 1073741824 from by decide] at e
  omega
