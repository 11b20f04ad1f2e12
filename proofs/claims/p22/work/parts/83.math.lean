def TLI (sy mb ll ml : Int → Int) (n : Int) : Prop := ∀ j, 0 ≤ j → j < n → sy (8001 * 0 + j) ≤ 35 ∧ sy (8001 * 1 + j) ≤ 14 ∧ sy (8001 * 2 + j) ≤ 52 ∧ 17 + mb (8001 * 0 + j) + mb (8001 * 2 + j) + mb (8001 * 1 + j) ≤ 11 * (ll j + ml j)
theorem upd3 (g : Int → Int) {n j u v w : Int} (h0 : 0 ≤ n) (h1 : n ≤ 8000) (j0 : 0 ≤ j) (j1 : j ≤ 8000) : (j = n → upd1 (upd1 (upd1 g (8001 * 0 + n) u) (8001 * 2 + n) v) (8001 * 1 + n) w (8001 * 0 + j) = u ∧ upd1 (upd1 (upd1 g (8001 * 0 + n) u) (8001 * 2 + n) v) (8001 * 1 + n) w (8001 * 2 + j) = v ∧ upd1 (upd1 (upd1 g (8001 * 0 + n) u) (8001 * 2 + n) v) (8001 * 1 + n) w (8001 * 1 + j) = w) ∧ (j ≠ n → ∀ t, 0 ≤ t → t ≤ 2 → upd1 (upd1 (upd1 g (8001 * 0 + n) u) (8001 * 2 + n) v) (8001 * 1 + n) w (8001 * t + j) = g (8001 * t + j)) := by
  refine ⟨fun e => ⟨?_, ?_, ?_⟩, fun e t t0 t1 => ?_⟩
  · subst e; rw [upd1_o (by omega), upd1_o (by omega), upd1_s]
  · subst e; rw [upd1_o (by omega), upd1_s]
  · subst e; rw [upd1_s]
  · rw [upd1_o (by omega), upd1_o (by omega), upd1_o (by omega)]
theorem TLI_next {sy mb sy1 mb1 sy2 mb2 sy3 mb3 ll ml : Int → Int} {n n2 a b c x y z : Int} (h : TLI sy mb ll ml n) (h0 : 0 ≤ n) (h1 : n ≤ 8000) (e : n2 = n + 1) (e1 : sy1 = upd1 sy (8001 * 0 + n) a) (f1 : mb1 = upd1 mb (8001 * 0 + n) x) (e2 : sy2 = upd1 sy1 (8001 * 2 + n) b) (f2 : mb2 = upd1 mb1 (8001 * 2 + n) y) (e3 : sy3 = upd1 sy2 (8001 * 1 + n) c) (f3 : mb3 = upd1 mb2 (8001 * 1 + n) z) (ha : a ≤ 35) (hb : b ≤ 52) (hc : c ≤ 14) (hs : 17 + x + y + z ≤ 11 * (ll n + ml n)) : TLI sy3 mb3 ll ml n2 := by
  subst e1 f1 e2 f2 e3 f3 e
  intro j j0 j1
  have S := upd3 sy (u := a) (v := b) (w := c) h0 h1 j0 (by omega)
  have M := upd3 mb (u := x) (v := y) (w := z) h0 h1 j0 (by omega)
  by_cases q : j = n
  · obtain ⟨s1, s2, s3⟩ := S.1 q
    obtain ⟨m1, m2, m3⟩ := M.1 q
    rw [s1, s2, s3, m1, m2, m3, q]
    exact ⟨ha, hc, hb, hs⟩
  · rw [S.2 q 0 (by omega) (by omega), S.2 q 1 (by omega) (by omega), S.2 q 2 (by omega) (by omega), M.2 q 0 (by omega) (by omega), M.2 q 1 (by omega) (by omega), M.2 q 2 (by omega) (by omega)]
    exact h j j0 (by omega)
theorem lB_le {s : Int} (h : 0 ≤ s) (h1 : s ≤ 35) : lB s ≤ lBs s := by
  have q : ∀ n : Nat, n < 36 → lB (n : Int) ≤ lBs n := by decide +kernel
  have := q s.toNat (by omega)
  rw [Int.toNat_of_nonneg h] at this
  exact this
theorem mB_le {s : Int} (h : 0 ≤ s) (h1 : s ≤ 52) : mB s ≤ mBs s - 3 := by
  have q : ∀ n : Nat, n < 53 → mB (n : Int) ≤ mBs n - 3 := by decide +kernel
  have := q s.toNat (by omega)
  rw [Int.toNat_of_nonneg h] at this
  exact this
/-- the sequences that go found: matches of three at least; their lengths' sum -/
def GOI (ll ml : Int → Int) (n tot : Int) : Prop := (∀ j, 0 ≤ j → j < n → 3 ≤ ml j) ∧ su (fun j => ll j + ml j) n.toNat = tot
def GOE (ll ml : Int → Int) (n M : Int) : Prop := (∀ j, 0 ≤ j → j < n → 3 ≤ ml j) ∧ su (fun j => ll j + ml j) n.toNat ≤ M
theorem GOI_0 {ll ml : Int → Int} : GOI ll ml 0 0 := ⟨fun j a b => absurd b (by omega), rfl⟩
theorem GOI_next {ll ml : Int → Int} {n n2 tot tot2 s l : Int} (h : GOI ll ml n tot) (h0 : 0 ≤ n) (e : n2 = n + 1) (hl : 3 ≤ l) (e2 : tot2 = tot + s + l) : GOI (upd1 ll n s) (upd1 ml n l) n2 tot2 := by
  subst e e2
  refine ⟨fun j a b => ?_, ?_⟩
  · by_cases q : j = n
    · rw [q, upd1_s]; exact hl
    · rw [upd1_o q]; exact h.1 j a (by omega)
  · rw [su_s h0, upd1_s, upd1_s, su_congr (h := fun j => ll j + ml j) (fun i a b => by rw [upd1_o (by omega), upd1_o (by omega)]), h.2]
    omega
theorem GOE_of {ll ml : Int → Int} {n tot M : Int} (h : GOI ll ml n tot) (hm : tot ≤ M) : GOE ll ml n M := ⟨h.1, by rw [h.2]; exact hm⟩
/-- two rows alike below 64 -/
def AG (f g : Int → Int) : Prop := ∀ s, 0 ≤ s → s < 64 → f s = g s
theorem AG_upd {f g : Int → Int} {b v w : Int} (h : AG f g) (e : v = w) : AG (upd1 f b v) (upd1 g b w) := fun s a c => by
  by_cases q : s = b
  · rw [q, upd1_s, upd1_s, e]
  · rw [upd1_o q, upd1_o q]; exact h s a c
def bst (tr hd cu : Int → Int) : Nat → Int
  | 0 => -1
  | n + 1 => if 0 < tr n ∧ hd n = 0 ∧ (bst tr hd cu n < 0 ∨ cu (bst tr hd cu n) < cu n) then n else bst tr hd cu n
theorem bst_s {tr hd cu : Int → Int} {i b : Int} (h0 : 0 ≤ i) (hb : bst tr hd cu i.toNat = b) : (0 < tr i ∧ hd i = 0 ∧ (b < 0 ∨ cu b < cu i)) ∧ bst tr hd cu (i + 1).toNat = i ∨ ¬ (0 < tr i ∧ hd i = 0 ∧ (b < 0 ∨ cu b < cu i)) ∧ bst tr hd cu (i + 1).toNat = b := by
  rw [show (i + 1).toNat = i.toNat + 1 by omega]
  have ei : ((i.toNat : Nat) : Int) = i := by omega
  by_cases q : 0 < tr i ∧ hd i = 0 ∧ (b < 0 ∨ cu b < cu i)
  · left
    refine ⟨q, ?_⟩
    show (if 0 < tr (i.toNat : Int) ∧ hd (i.toNat : Int) = 0 ∧ (bst tr hd cu i.toNat < 0 ∨ cu (bst tr hd cu i.toNat) < cu (i.toNat : Int)) then ((i.toNat : Nat) : Int) else bst tr hd cu i.toNat) = i
    rw [hb, ei, if_pos q]
  · right
    refine ⟨q, ?_⟩
    show (if 0 < tr (i.toNat : Int) ∧ hd (i.toNat : Int) = 0 ∧ (bst tr hd cu i.toNat < 0 ∨ cu (bst tr hd cu i.toNat) < cu (i.toNat : Int)) then ((i.toNat : Nat) : Int) else bst tr hd cu i.toNat) = b
    rw [hb, ei, if_neg q]
theorem bst_rng {tr hd cu : Int → Int} : ∀ n : Nat, -1 ≤ bst tr hd cu n ∧ bst tr hd cu n < n
  | 0 => by show (-1 : Int) ≤ -1 ∧ (-1 : Int) < (0 : Nat); omega
  | n + 1 => by
    have := bst_rng (tr := tr) (hd := hd) (cu := cu) n
    have q := bst_s (tr := tr) (hd := hd) (cu := cu) (i := n) (b := bst tr hd cu n) (by omega) rfl
    rw [show ((n : Int) + 1).toNat = n + 1 by omega] at q
    omega
theorem bst_congr {tr hd cu tr' hd' cu' : Int → Int} (ht : AG tr tr') (hh : AG hd hd') (hc : AG cu cu') : ∀ n : Nat, n ≤ 64 → bst tr hd cu n = bst tr' hd' cu' n
  | 0, _ => rfl
  | n + 1, h => by
    have e := bst_congr ht hh hc n (by omega)
    have r := bst_rng (tr := tr') (hd := hd') (cu := cu') n
    have q := bst_s (tr := tr) (hd := hd) (cu := cu) (i := n) (by omega) e
    have qₚ := bst_s (tr := tr') (hd := hd') (cu := cu') (i := n) (by omega) rfl
    rw [show ((n : Int) + 1).toNat = n + 1 by omega] at q qₚ
    rw [show ((n : Int).toNat) = n by omega] at qₚ
    rw [ht n (by omega) (by omega), hh n (by omega) (by omega), hc n (by omega) (by omega)] at q
    by_cases w : bst tr' hd' cu' n < 0
    · omega
    · rw [hc (bst tr' hd' cu' n) (by omega) (by omega)] at q
      omega
def mst (tr : Int → Int) : Nat → Int
  | 0 => 0
  | n + 1 => if tr (mst tr n) < tr n then n else mst tr n
theorem mst_s {tr : Int → Int} {i b : Int} (h0 : 0 ≤ i) (hb : mst tr i.toNat = b) : tr b < tr i ∧ mst tr (i + 1).toNat = i ∨ tr i ≤ tr b ∧ mst tr (i + 1).toNat = b := by
  rw [show (i + 1).toNat = i.toNat + 1 by omega]
  have ei : ((i.toNat : Nat) : Int) = i := by omega
  by_cases q : tr b < tr i
  · left
    refine ⟨q, ?_⟩
    show (if tr (mst tr i.toNat) < tr (i.toNat : Int) then ((i.toNat : Nat) : Int) else mst tr i.toNat) = i
    rw [hb, ei, if_pos q]
  · right
    refine ⟨by omega, ?_⟩
    show (if tr (mst tr i.toNat) < tr (i.toNat : Int) then ((i.toNat : Nat) : Int) else mst tr i.toNat) = b
    rw [hb, ei, if_neg q]
theorem mst_1 {tr : Int → Int} : mst tr (1 : Int).toNat = 0 := by
  have := mst_s (tr := tr) (i := 0) (b := 0) (by omega) rfl
  rw [show ((0 : Int) + 1) = 1 by omega] at this
  omega
theorem mst_rng {tr : Int → Int} : ∀ n : Nat, 0 ≤ mst tr n ∧ mst tr n ≤ n
  | 0 => by show (0 : Int) ≤ 0 ∧ (0 : Int) ≤ (0 : Nat); omega
  | n + 1 => by
    have := mst_rng (tr := tr) n
    have q := mst_s (tr := tr) (i := n) (b := mst tr n) (by omega) rfl
    rw [show ((n : Int) + 1).toNat = n + 1 by omega] at q
    omega
theorem mst_lt {tr : Int → Int} (n : Nat) : mst tr (n + 1) < n + 1 := by
  have := mst_rng (tr := tr) n
  have q := mst_s (tr := tr) (i := n) (b := mst tr n) (by omega) rfl
  rw [show ((n : Int) + 1).toNat = n + 1 by omega] at q
  omega
theorem mst_congr {tr tr' : Int → Int} (ht : AG tr tr') : ∀ n : Nat, n ≤ 64 → mst tr n = mst tr' n
  | 0, _ => rfl
  | n + 1, h => by
    have e := mst_congr ht n (by omega)
    have r := mst_rng (tr := tr') n
    have q := mst_s (tr := tr) (i := n) (by omega) e
    have qₚ := mst_s (tr := tr') (i := n) (by omega) rfl
    rw [show ((n : Int) + 1).toNat = n + 1 by omega] at q qₚ
    rw [show ((n : Int).toNat) = n by omega] at qₚ
    have l := ht n (by omega) (by omega)
    have l2 := ht (mst tr' n) (by omega) (by omega)
    omega
def dv1 (cu : Int → Int) (x : (Int → Int) × (Int → Int) × Int) : (Int → Int) × (Int → Int) × Int := if x.2.2 ≤ 0 then x else if bst x.1 x.2.1 cu 64 < 0 then (x.1, (fun _ => 0), x.2.2) else (upd1 x.1 (bst x.1 x.2.1 cu 64) (x.1 (bst x.1 x.2.1 cu 64) + 1), upd1 x.2.1 (bst x.1 x.2.1 cu 64) 1, x.2.2 - 1)
def dv2 (x : (Int → Int) × Int) : (Int → Int) × Int := if 0 ≤ x.2 then x else (upd1 x.1 (mst x.1 64) (x.1 (mst x.1 64) - 1), x.2 + 1)
theorem dv1_put {cu : Int → Int} {x : (Int → Int) × (Int → Int) × Int} {b : Int} (hl : ¬ x.2.2 ≤ 0) (hb : bst x.1 x.2.1 cu 64 = b) (b0 : 0 ≤ b) : dv1 cu x = (upd1 x.1 b (x.1 b + 1), upd1 x.2.1 b 1, x.2.2 - 1) := by
  unfold dv1
  rw [if_neg hl, hb, if_neg (by omega)]
theorem dv1_clear {cu : Int → Int} {x : (Int → Int) × (Int → Int) × Int} (hl : ¬ x.2.2 ≤ 0) (hb : bst x.1 x.2.1 cu 64 < 0) : dv1 cu x = (x.1, (fun _ => 0), x.2.2) := by
  unfold dv1
  rw [if_neg hl, if_pos hb]
theorem dv2_s {x : (Int → Int) × Int} {b : Int} (hl : ¬ 0 ≤ x.2) (hb : mst x.1 64 = b) : dv2 x = (upd1 x.1 b (x.1 b - 1), x.2 + 1) := by
  unfold dv2
  rw [if_neg hl, hb]
def itr {α : Type} (f : α → α) : Nat → α → α
  | 0, x => x
  | n + 1, x => f (itr f n x)
theorem itr_fix {α : Type} {f : α → α} {x : α} {m : Nat} (h : f (itr f m x) = itr f m x) : ∀ k, itr f (m + k) x = itr f m x
  | 0 => rfl
  | k + 1 => by
    show f (itr f (m + k) x) = _
    rw [itr_fix h k, h]
theorem itr_end {α : Type} {f : α → α} {x : α} {m m' : Nat} (h : f (itr f m x) = itr f m x) (h' : f (itr f m' x) = itr f m' x) : itr f m x = itr f m' x := by
  by_cases q : m ≤ m'
  · have := itr_fix h (m' - m)
    rw [show m + (m' - m) = m' by omega] at this
    exact this.symm
  · have := itr_fix h' (m - m')
    rw [show m' + (m - m') = m by omega] at this
    exact this
def dv0 (co : Int → Int) (n p : Int) : Int → Int := fun s => if co s * p = 0 then 0 else if co s * p < n then -1 else co s * p / n
def cu0 (co : Int → Int) (n p : Int) : Int → Int := fun s => co s * p % n
def dvs (co : Int → Int) (n p : Int) : (Int → Int) × (Int → Int) × Int := (dv0 co n p, (fun _ => 0), p - su (fun i => mass (dv0 co n p i)) 64)
def DVA (co tr : Int → Int) (n p i : Int) : Prop := ∀ s, 0 ≤ s → s < i → tr s = dv0 co n p s
def DVC (co cu : Int → Int) (n p i : Int) : Prop := ∀ s, 0 ≤ s → s < i → cu s = cu0 co n p s
def DVH (hd : Int → Int) (i : Int) : Prop := ∀ s, 0 ≤ s → s < i → hd s = 0
theorem dv0_eq (co : Int → Int) (n p s q : Int) (e : q = co s * p) : q = 0 ∧ dv0 co n p s = 0 ∨ q ≠ 0 ∧ q < n ∧ dv0 co n p s = -1 ∨ q ≠ 0 ∧ n ≤ q ∧ dv0 co n p s = q / n := by
  subst e
  unfold dv0
  by_cases h : co s * p = 0
  · left; exact ⟨h, if_pos h⟩
  · right
    simp only [if_neg h]
    by_cases w : co s * p < n
    · left; exact ⟨h, w, if_pos w⟩
    · right; exact ⟨h, by omega, if_neg w⟩
def DV1R (co : Int → Int) (n p : Int) (tr hd : Int → Int) (l : Int) : Prop := ∃ m, AG tr (itr (dv1 (cu0 co n p)) m (dvs co n p)).1 ∧ AG hd (itr (dv1 (cu0 co n p)) m (dvs co n p)).2.1 ∧ l = (itr (dv1 (cu0 co n p)) m (dvs co n p)).2.2
theorem DV1R_0 {co tr hd : Int → Int} {n p l : Int} (ht : DVA co tr n p 64) (hh : DVH hd 64) (hl : l = p - su (fun i => mass (tr i)) 64) : DV1R co n p tr hd l :=
  ⟨0, ht, hh, by rw [hl]; show _ = p - su (fun i => mass (dv0 co n p i)) 64; rw [su_congr (f := fun i => mass (tr i)) (h := fun i => mass (dv0 co n p i)) (fun i a b => by rw [ht i a (by omega)])]⟩
theorem DV1R_put {co tr hd cu : Int → Int} {n p l l2 b v : Int} (h : DV1R co n p tr hd l) (hl : 0 < l) (hc : DVC co cu n p 64) (hb : bst tr hd cu 64 = b) (b0 : 0 ≤ b) (hv : v = tr b + 1) (e : l2 = l - 1) : DV1R co n p (upd1 tr b v) (upd1 hd b 1) l2 := by
  obtain ⟨m, h1, h2, h3⟩ := h
  have r := bst_rng (tr := tr) (hd := hd) (cu := cu) 64
  rw [bst_congr h1 h2 hc 64 (by omega)] at hb r
  refine ⟨m + 1, ?_⟩
  show AG _ (dv1 _ (itr (dv1 (cu0 co n p)) m (dvs co n p))).1 ∧ AG _ (dv1 _ (itr (dv1 (cu0 co n p)) m (dvs co n p))).2.1 ∧ l2 = (dv1 _ (itr (dv1 (cu0 co n p)) m (dvs co n p))).2.2
  rw [dv1_put (by omega) hb b0]
  refine ⟨AG_upd h1 ?_, AG_upd h2 rfl, by show l2 = _ - 1; omega⟩
  rw [hv, h1 b b0 (by omega)]
theorem DV1R_clear {co tr hd hd' cu : Int → Int} {n p l : Int} (h : DV1R co n p tr hd l) (hl : 0 < l) (hc : DVC co cu n p 64) (hb : bst tr hd cu 64 < 0) (hz : DVH hd' 64) : DV1R co n p tr hd' l := by
  obtain ⟨m, h1, h2, h3⟩ := h
  rw [bst_congr h1 h2 hc 64 (by omega)] at hb
  refine ⟨m + 1, ?_⟩
  show AG _ (dv1 _ (itr (dv1 (cu0 co n p)) m (dvs co n p))).1 ∧ AG _ (dv1 _ (itr (dv1 (cu0 co n p)) m (dvs co n p))).2.1 ∧ l = (dv1 _ (itr (dv1 (cu0 co n p)) m (dvs co n p))).2.2
  rw [dv1_clear (by omega) hb]
  exact ⟨h1, hz, h3⟩
def dve (co : Int → Int) (n p : Int) (m : Nat) : (Int → Int) × Int := ((itr (dv1 (cu0 co n p)) m (dvs co n p)).1, (itr (dv1 (cu0 co n p)) m (dvs co n p)).2.2)
def DV2R (co : Int → Int) (n p : Int) (tr : Int → Int) (l : Int) : Prop := ∃ m1 m2, (dve co n p m1).2 ≤ 0 ∧ AG tr (itr dv2 m2 (dve co n p m1)).1 ∧ l = (itr dv2 m2 (dve co n p m1)).2
theorem DV2R_0 {co tr hd : Int → Int} {n p l : Int} (h : DV1R co n p tr hd l) (hl : l ≤ 0) : DV2R co n p tr l := by
  obtain ⟨m, h1, h2, h3⟩ := h
  exact ⟨m, 0, by show (itr (dv1 (cu0 co n p)) m (dvs co n p)).2.2 ≤ 0; omega, h1, h3⟩
theorem DV2R_s {co tr : Int → Int} {n p l l2 b v : Int} (h : DV2R co n p tr l) (hl : l < 0) (hb : mst tr 64 = b) (hv : v = tr b - 1) (e : l2 = l + 1) : DV2R co n p (upd1 tr b v) l2 := by
  obtain ⟨m1, m2, h1, h2, h3⟩ := h
  have r := mst_rng (tr := tr) 64
  have r2 := mst_lt (tr := tr) 63
  have e0 := mst_congr h2 64 (by omega)
  refine ⟨m1, m2 + 1, h1, ?_⟩
  show AG _ (dv2 (itr dv2 m2 (dve co n p m1))).1 ∧ l2 = (dv2 (itr dv2 m2 (dve co n p m1))).2
  rw [dv2_s (by omega) (e0.symm.trans hb)]
  refine ⟨AG_upd h2 ?_, by show l2 = _ + 1; omega⟩
  rw [hv, h2 b (by omega) (by show b < 64; have : mst tr (63 + 1) < 64 := r2; rw [hb] at this; exact this)]
/-- the points follow from the counts alone -/
def DVF (co : Int → Int) (n p : Int) (tr : Int → Int) : Prop := ∃ l, 0 ≤ l ∧ DV2R co n p tr l
theorem DVF_uniq {co tr tr' : Int → Int} {n p : Int} (h : DVF co n p tr) (h' : DVF co n p tr') : AG tr tr' := by
  obtain ⟨l, l0, m1, m2, a1, a2, a3⟩ := h
  obtain ⟨lₚ, l0', m1', m2', b1, b2, b3⟩ := h'
  have fx : ∀ m, (dve co n p m).2 ≤ 0 → dv1 (cu0 co n p) (itr (dv1 (cu0 co n p)) m (dvs co n p)) = itr (dv1 (cu0 co n p)) m (dvs co n p) := fun m q => by
    show (if _ then _ else _) = _
    exact if_pos q
  have e1 := itr_end (fx m1 a1) (fx m1' b1)
  have e2 : dve co n p m1 = dve co n p m1' := by unfold dve; rw [e1]
  rw [e2] at a2 a3
  have fy : ∀ m, 0 ≤ (itr dv2 m (dve co n p m1')).2 → dv2 (itr dv2 m (dve co n p m1')) = itr dv2 m (dve co n p m1') := fun m q => by
    show (if _ then _ else _) = _
    exact if_pos q
  have e3 := itr_end (fy m2 (by omega)) (fy m2' (by omega))
  rw [e3] at a2
  exact fun s x y => by rw [a2 s x y, b2 s x y]
theorem LD_agree {P P' sy bi ba : Int → Int} {L : Int} (hL : 5 ≤ L ∧ L ≤ 9) (h : LD P 64 L sy bi ba) (e : AG P P') : LD P' 64 L sy bi ba := by
  have hg : ∀ s, 0 ≤ s → s ≤ 64 → ngs P s = ngs P' s := fun s a b => su_congr (fun i c d => by rw [e i c (by omega)])
  have hc : ∀ s, 0 ≤ s → s ≤ 64 → cum P s = cum P' s := fun s a b => su_congr (fun i c d => by rw [e i c (by omega)])
  refine ⟨⟨fun s a b c => ?_, fun j a b c => ?_⟩, fun s a b => ?_, fun k a b => ?_⟩
  · rw [← hg s a (by omega)]; exact h.1.1 s a b (by rw [e s a b]; exact c)
  · rw [← hg 64 (by omega) (by omega)] at c ⊢
    have w := h.1.2 j a b c
    rw [← hc _ w.1 (by omega), ← hc (sy (qs L j) + 1) (by omega) (by omega)]
    exact w
  · rw [h.2.1 s a b, e s a b]
  · obtain ⟨r, q⟩ := h.2.2 k a b
    have w := LAID_rng hL (by omega) h.1 a b
    have x : XN P' sy k = XN P sy k := by unfold XN; rw [e _ w.1 w.2.1]
    exact ⟨r, by rw [x]; exact q⟩
theorem COST_agree {P P' : Int → Int} {L : Int} {row : Int → Int} {n c : Int} (hL : 5 ≤ L ∧ L ≤ 9) (h : COST P L row n c) (e : AG P P') : COST P' L row n c := by
  obtain ⟨sy, bi, ba, st, d1, d2⟩ := h
  exact ⟨sy, bi, ba, st, LD_agree hL d1 e, d2⟩
theorem CHN_rng {sy bi ba : Int → Int} {L : Int} {row : Int → Int} {n : Int} : ∀ {d : Nat} {st c : Int}, CHN sy bi ba L row n d st c → 0 ≤ st ∧ st < p2 L
  | 0, _, _, h => ⟨h.1.1, h.1.2.1⟩
  | _ + 1, _, _, h => by
    obtain ⟨x, y, q1, q2, q3⟩ := h
    exact ⟨q2.1, q2.2.1⟩
theorem CHN_nz {P sy bi ba : Int → Int} {L : Int} {row : Int → Int} {n : Int} (hL : 5 ≤ L ∧ L ≤ 9) (hld : LD P 64 L sy bi ba) : ∀ {d : Nat} {st c : Int}, CHN sy bi ba L row n d st c → ∀ j, n - 1 - d ≤ j → j < n → P (row j) ≠ 0
  | 0, st, c, h, j, a, b => by
    have e : j = n - 1 := by omega
    have w := LAID_rng hL (by omega) hld.1 h.1.1 h.1.2.1
    rw [e, ← h.1.2.2.1.1]
    exact w.2.2
  | d + 1, st, c, h, j, a, b => by
    obtain ⟨x, y, q1, q2, q3⟩ := h
    by_cases e : j = n - 2 - d
    · have w := LAID_rng hL (by omega) hld.1 q2.1 q2.2.1
      rw [e, ← q2.2.2.1.1]
      exact w.2.2
    · exact CHN_nz hL hld q1 j (by omega) b
theorem COST_nz {P : Int → Int} {L : Int} {row : Int → Int} {n c : Int} (hL : 5 ≤ L ∧ L ≤ 9) (h : COST P L row n c) (hn : 1 ≤ n) : ∀ j, 0 ≤ j → j < n → P (row j) ≠ 0 := fun j a b => by
  obtain ⟨sy, bi, ba, st, d1, d2⟩ := h
  exact CHN_nz hL d1 d2 j (by omega) b
theorem KK_nz {t i : Int} (t0 : 0 ≤ t) (t1 : t ≤ 2) (h0 : 0 ≤ i) (h : i ≤ (if t = 0 then 35 else if t = 1 then 14 else 52)) : KK t i ≠ 0 := by
  unfold KK
  by_cases a : t = 0
  · simp only [a] at h ⊢
    have q : ∀ n : Nat, n < 36 → K0 (n : Int) ≠ 0 := by decide +kernel
    have := q i.toNat (by simp at h; omega)
    rw [Int.toNat_of_nonneg h0] at this
    simpa using this
  · by_cases b : t = 1
    · simp only [b] at h ⊢
      have q : ∀ n : Nat, n < 15 → K1 (n : Int) ≠ 0 := by decide +kernel
      have := q i.toNat (by simp at h; omega)
      rw [Int.toNat_of_nonneg h0] at this
      simpa using this
    · simp only [if_neg a, if_neg b] at h ⊢
      have q : ∀ n : Nat, n < 53 → K2 (n : Int) ≠ 0 := by decide +kernel
      have := q i.toNat (by omega)
      rw [Int.toNat_of_nonneg h0] at this
      exact this
theorem GOI_c {ll ml : Int → Int} {n t t2 : Int} (h : GOI ll ml n t) (e : t2 = t) : GOI ll ml n t2 := e ▸ h
theorem DVA_next {co tr : Int → Int} {n p i i2 v : Int} (h : DVA co tr n p i) (hv : v = dv0 co n p i) (e : i2 = i + 1) : DVA co (upd1 tr i v) n p i2 := fun s a b => by
  by_cases q : s = i
  · rw [q, upd1_s]; exact hv
  · rw [upd1_o q]; exact h s a (by omega)
theorem DVC_next {co cu : Int → Int} {n p i i2 v : Int} (h : DVC co cu n p i) (hv : v = cu0 co n p i) (e : i2 = i + 1) : DVC co (upd1 cu i v) n p i2 := fun s a b => by
  by_cases q : s = i
  · rw [q, upd1_s]; exact hv
  · rw [upd1_o q]; exact h s a (by omega)
theorem DVH_next {hd : Int → Int} {i i2 v : Int} (h : DVH hd i) (hv : v = 0) (e : i2 = i + 1) : DVH (upd1 hd i v) i2 := fun s a b => by
  by_cases q : s = i
  · rw [q, upd1_s]; exact hv
  · rw [upd1_o q]; exact h s a (by omega)
