section
/-! 18i -/
abbrev Tb := Int × Int × (Int → Int)
noncomputable def tsF (X : Tb) (k : Int) : Int × Int × Int := CH (0, 0, 0) (fun R => TST X.2.2 X.2.1 X.1 k R.1 R.2.1 R.2.2)
theorem tsF_e {X : Tb} {k s b z : Int} (hL : LO X.1) (hn : 0 ≤ X.2.1) (k0 : 0 ≤ k) (k1 : k < p2 X.1) (h : TST X.2.2 X.2.1 X.1 k s b z) : tsF X k = (s, b, z) := CH_e h (fun q r => by
  obtain ⟨e1, e2, e3⟩ := TST_det hL hn k0 k1 r h
  exact Prod.ext e1 (Prod.ext e2 e3))

def TLK (sy bi ba : Int → Int) (row : Int) (X : Tb) : Prop := LO X.1 ∧ ∀ k, 0 ≤ k → k < p2 X.1 → tsF X k = (sy (row + k), bi (row + k), ba (row + k))
theorem TLK_at {sy bi ba : Int → Int} {row k idx : Int} {X : Tb} (h : TLK sy bi ba row X) (k0 : 0 ≤ k) (k1 : k < p2 X.1) (e : idx = row + k) : tsF X k = (sy idx, bi idx, ba idx) := by
  subst e
  exact h.2 k k0 k1

theorem TLK_LD {P Q sy bi ba : Int → Int} {L n row : Int} (h : LD P 64 L (sh sy row) (sh bi row) (sh ba row)) (hL : 5 ≤ L ∧ L ≤ 9) (hn : 0 ≤ n ∧ n ≤ 64) (e : ∀ i, 0 ≤ i → i < n → Q i = P i) (z : ∀ i, n ≤ i → i < 64 → P i = 0) : TLK sy bi ba row (L, n, Q) := by
  refine ⟨.inr hL, fun k k0 k1 => ?_⟩
  have k1 : k < p2 L := k1
  have t := TST_LD h k0 k1
  have r : 0 ≤ sh sy row k ∧ sh sy row k < n := by
    have q := LAID_rng hL (by decide) h.1 (k := k) k0 k1
    by_cases c : sh sy row k < n
    · exact ⟨q.1, c⟩
    · exact absurd (z _ (by omega) q.2.1) q.2.2
  exact tsF_e (X := (L, n, Q)) (.inr hL) hn.1 k0 k1 (TST_n hn.1 hn.2 (.inr hL) k0 k1 r e z t)

def on0 (s : Int) : Int → Int := fun k => if k = s then 1 else 0
theorem on0_s {s : Int} : on0 s s = 1 := if_pos rfl
theorem on0_o {s k : Int} (h : k ≠ s) : on0 s k = 0 := if_neg h
theorem on0_ngs (s : Int) : ∀ n : Nat, ngs (on0 s) n = 0
  | 0 => rfl
  | n + 1 => by
    have ih := on0_ngs s n
    have e : ngs (on0 s) ((n + 1 : Nat) : Int) = ngs (on0 s) (n : Int) + neg1 (on0 s n) := by
      unfold ngs
      rw [show ((n + 1 : Nat) : Int).toNat = ((n : Nat) : Int).toNat + 1 by omega]
      show su _ _ + neg1 (on0 s (((n : Nat) : Int).toNat : Int)) = _
      rw [show (((n : Nat) : Int).toNat : Int) = (n : Int) by omega]
    rw [e, ih]
    by_cases c : (n : Int) = s
    · rw [c, on0_s]; rfl
    · rw [on0_o c]; rfl
theorem on0_cum {s : Int} (h : 0 ≤ s) : cum (on0 s) s = 0 ∧ cum (on0 s) (s + 1) = 1 := by
  have a : cum (on0 s) s = 0 := by
    unfold cum
    rw [su_congr (h := fun _ => 0) (fun i x y => by
      show posi (on0 s i) = 0
      rw [on0_o (by omega)]
      rfl)]
    exact su_zero _
  refine ⟨a, ?_⟩
  rw [cum_s h, a, on0_s]
  rfl
theorem TST_one {n s : Int} (h0 : 0 ≤ s) (h1 : s < n) : TST (on0 s) n 0 0 s 0 0 := by
  have g : ngs (on0 s) n = 0 := by
    have := on0_ngs s n.toNat
    rw [show ((n.toNat : Nat) : Int) = n by omega] at this
    exact this
  have p0 : p2 0 = 1 := by decide
  have x : XN (on0 s) (fun _ => s) 0 = 1 := by
    unfold XN
    show mass (on0 s s) + su _ 0 = 1
    rw [on0_s]
    rfl
  refine ⟨fun _ => s, ⟨fun t a b c => ?_, fun j a b c => ?_⟩, rfl, ⟨by decide, by decide, ?_, ?_⟩, ?_⟩
  · exfalso
    by_cases d : t = s
    · rw [d, on0_s] at c; omega
    · rw [on0_o d] at c; omega
  · obtain ⟨c1, c2⟩ := on0_cum h0
    have q : qs 0 j = 0 := by
      unfold qs
      rw [p0]
      exact Int.emod_one _
    have rk0 : rk 0 (p2 0 - ngs (on0 s) n) j = 0 := by
      rw [p0] at b
      unfold rk
      rw [show j.toNat = 0 by omega]
      rfl
    refine ⟨h0, h1, ?_, ?_⟩
    · rw [rk0]; show cum (on0 s) s ≤ 0; omega
    · rw [rk0]; show 0 < cum (on0 s) (s + 1); omega
  · rw [x]; decide
  · rw [x]; decide
  · rw [x]; decide

def KNn (t : Int) : Int := if t = 0 then 36 else if t = 1 then 29 else 53
def KNX (t : Int) : Tb := (if t = 1 then 5 else 6, KNn t, KK t)
def bad4 (f p : Int) (X : Tb) : Int × Int × Int × Tb := (f, p, 0, X)
noncomputable def T1F (I : Int → Int) (e ma t mode at_ : Int) (X : Tb) : Int × Int × Int × Tb :=
  if mode = 0 then (0, 0, at_, KNX t)
  else if mode = 1 then (if e ≤ at_ then bad4 10 e X else if lastOf t < I at_ then bad4 16 ma X else (0, 0, at_ + 1, 0, lastOf t + 1, on0 (I at_)))
  else if mode = 2 then (if (SHF I at_ e (if t = 1 then 8 else 9) (lastOf t)).1 = 0 then bad4 16 ma X else (0, 0, (SHF I at_ e (if t = 1 then 8 else 9) (lastOf t)).2.2.1, (SHF I at_ e (if t = 1 then 8 else 9) (lastOf t)).2.1, lastOf t + 1, (SHF I at_ e (if t = 1 then 8 else 9) (lastOf t)).2.2.2))
  else if X.1 < 0 then bad4 16 ma X else (0, 0, at_, X)
section T1x
variable {I : Int → Int} {e ma t mode at_ s : Int} {X : Tb}
theorem T1_0 (h : mode = 0) : T1F I e ma t mode at_ X = (0, 0, at_, KNX t) := if_pos h
theorem T1_1 (h : mode = 1) : T1F I e ma t mode at_ X = (if e ≤ at_ then bad4 10 e X else if lastOf t < I at_ then bad4 16 ma X else (0, 0, at_ + 1, 0, lastOf t + 1, on0 (I at_))) := by
  subst h
  rfl
theorem T1_1e (h : mode = 1) (he : e ≤ at_) : T1F I e ma t mode at_ X = bad4 10 e X := by rw [T1_1 h, if_pos he]
theorem T1_1s (h : mode = 1) (he : at_ < e) (hs : I at_ = s) (hl : lastOf t < s) : T1F I e ma t mode at_ X = bad4 16 ma X := by rw [T1_1 h, if_neg (by omega), hs, if_pos hl]
theorem T1_1y (h : mode = 1) (he : at_ < e) (hs : I at_ = s) (hl : s ≤ lastOf t) : T1F I e ma t mode at_ X = (0, 0, at_ + 1, 0, lastOf t + 1, on0 s) := by rw [T1_1 h, if_neg (by omega), hs, if_neg (by omega)]
theorem T1_2 {g : Int} (h : mode = 2) (hg : g = if t = 1 then 8 else 9) : T1F I e ma t mode at_ X = (if (SHF I at_ e g (lastOf t)).1 = 0 then bad4 16 ma X else (0, 0, (SHF I at_ e g (lastOf t)).2.2.1, (SHF I at_ e g (lastOf t)).2.1, lastOf t + 1, (SHF I at_ e g (lastOf t)).2.2.2)) := by
  subst h hg
  rfl
theorem T1_2n {g : Int} (h : mode = 2) (hg : g = if t = 1 then 8 else 9) (h0 : (SHF I at_ e g (lastOf t)).1 = 0) : T1F I e ma t mode at_ X = bad4 16 ma X := by rw [T1_2 h hg, if_pos h0]
theorem T1_2y {g : Int} (h : mode = 2) (hg : g = if t = 1 then 8 else 9) (h0 : (SHF I at_ e g (lastOf t)).1 = 1) : T1F I e ma t mode at_ X = (0, 0, (SHF I at_ e g (lastOf t)).2.2.1, (SHF I at_ e g (lastOf t)).2.1, lastOf t + 1, (SHF I at_ e g (lastOf t)).2.2.2) := by rw [T1_2 h hg, if_neg (by omega)]
theorem T1_3 (h : mode = 3) : T1F I e ma t mode at_ X = (if X.1 < 0 then bad4 16 ma X else (0, 0, at_, X)) := by
  subst h
  rfl
theorem T1_3n (h : mode = 3) (h0 : X.1 < 0) : T1F I e ma t mode at_ X = bad4 16 ma X := by rw [T1_3 h, if_pos h0]
theorem T1_3y (h : mode = 3) (h0 : 0 ≤ X.1) : T1F I e ma t mode at_ X = (0, 0, at_, X) := by rw [T1_3 h, if_neg (by omega)]
end T1x

def mdF (m t : Int) : Int := m / p2 (6 - 2 * t) % 4
noncomputable def T3n (I : Int → Int) (e ma m : Int) : Nat → Int → Int → (Int → Tb) → Int × Int × Int × (Int → Tb)
  | 0, _, at_, X => (0, 0, at_, X)
  | k + 1, t, at_, X => if (T1F I e ma t (mdF m t) at_ (X t)).1 ≠ 0 then ((T1F I e ma t (mdF m t) at_ (X t)).1, (T1F I e ma t (mdF m t) at_ (X t)).2.1, 0, X)
    else T3n I e ma m k (t + 1) (T1F I e ma t (mdF m t) at_ (X t)).2.2.1 (fun j => if j = t then (T1F I e ma t (mdF m t) at_ (X t)).2.2.2 else X j)

noncomputable def T3F (I : Int → Int) (at_ e : Int) (X : Int → Tb) : Int × Int × Int × (Int → Tb) := if e ≤ at_ then (10, e, 0, X) else if I at_ % 4 ≠ 0 then (15, at_, 0, X) else T3n I e at_ (I at_) 3 0 (at_ + 1) X
theorem T3_e {I : Int → Int} {at_ e : Int} {X : Int → Tb} (h : e ≤ at_) : T3F I at_ e X = (10, e, 0, X) := if_pos h
theorem T3_m {I : Int → Int} {at_ e : Int} {X : Int → Tb} (h : at_ < e) (hm : I at_ % 4 ≠ 0) : T3F I at_ e X = (15, at_, 0, X) := by
  unfold T3F
  rw [if_neg (by omega), if_pos hm]
theorem T3_0 {I : Int → Int} {at_ e m q : Int} {X : Int → Tb} (h : at_ < e) (hv : I at_ = m) (hm : m % 4 = 0) (hq : q = at_ + 1) : T3F I at_ e X = T3n I e at_ m 3 0 q X := by
  subst hq
  unfold T3F
  rw [if_neg (by omega), hv, if_neg (by omega)]
theorem T3_f {I : Int → Int} {e ma m t at_ f p : Int} {k : Nat} {X : Int → Tb} {Y : Tb} (h : T1F I e ma t (mdF m t) at_ (X t) = bad4 f p Y) (hf : f ≠ 0) : T3n I e ma m (k + 1) t at_ X = (f, p, 0, X) := by
  unfold T3n
  rw [h]
  exact if_pos hf
theorem T3_s {I : Int → Int} {e ma m t at_ q t2 : Int} {k : Nat} {X X2 : Int → Tb} {Y : Tb} (h : T1F I e ma t (mdF m t) at_ (X t) = (0, 0, q, Y)) (ht : t2 = t + 1) (hX : X2 = fun j => if j = t then Y else X j) : T3n I e ma m (k + 1) t at_ X = T3n I e ma m k t2 q X2 := by
  subst ht hX
  show (if (T1F I e ma t (mdF m t) at_ (X t)).1 ≠ 0 then ((T1F I e ma t (mdF m t) at_ (X t)).1, (T1F I e ma t (mdF m t) at_ (X t)).2.1, (0 : Int), X) else T3n I e ma m k (t + 1) (T1F I e ma t (mdF m t) at_ (X t)).2.2.1 (fun j => if j = t then (T1F I e ma t (mdF m t) at_ (X t)).2.2.2 else X j)) = _
  rw [h]
  exact if_neg (by first | decide | exact fun h => h rfl | exact (show ¬ (1 : Int) = 0 by decide))
def updT (X : Int → Tb) (t : Int) (Y : Tb) : Int → Tb := fun j => if j = t then Y else X j
theorem updT_s {X : Int → Tb} {t : Int} {Y : Tb} : updT X t Y t = Y := if_pos rfl
theorem updT_o {X : Int → Tb} {t j : Int} {Y : Tb} (h : j ≠ t) : updT X t Y j = X j := if_neg h


def bvA (I : Int → Int) (st left n : Int) : Int := bv I (st + left - n) n.toNat

def dsF (v li r0 r1 r2 : Int) : Int × Int × Int × Int := if 3 < v then (v - 3, v - 3, r0, r1) else if (if li = 0 then v + 1 else v) = 1 then (r0, r0, r1, r2) else if (if li = 0 then v + 1 else v) = 2 then (r1, r1, r0, r2) else if (if li = 0 then v + 1 else v) = 3 then (r2, r2, r0, r1) else (r0 - 1, r0 - 1, r0, r1)
theorem dsF_4 {v li r0 r1 r2 : Int} (h : 3 < v) : dsF v li r0 r1 r2 = (v - 3, v - 3, r0, r1) := if_pos h
theorem dsF_w {v li r0 r1 r2 w : Int} (h : v ≤ 3) (hw : li = 0 ∧ w = v + 1 ∨ li ≠ 0 ∧ w = v) : dsF v li r0 r1 r2 = if w = 1 then (r0, r0, r1, r2) else if w = 2 then (r1, r1, r0, r2) else if w = 3 then (r2, r2, r0, r1) else (r0 - 1, r0 - 1, r0, r1) := by
  have e : (if li = 0 then v + 1 else v) = w := by
    rcases hw with ⟨a, b⟩ | ⟨a, b⟩
    · rw [if_pos a, b]
    · rw [if_neg a, b]
  unfold dsF
  rw [if_neg (by omega), e]
theorem dsF_1 {v li r0 r1 r2 w : Int} (h : v ≤ 3) (hw : li = 0 ∧ w = v + 1 ∨ li ≠ 0 ∧ w = v) (h1 : w = 1) : dsF v li r0 r1 r2 = (r0, r0, r1, r2) := by rw [dsF_w h hw, if_pos h1]
theorem dsF_2 {v li r0 r1 r2 w : Int} (h : v ≤ 3) (hw : li = 0 ∧ w = v + 1 ∨ li ≠ 0 ∧ w = v) (h1 : w = 2) : dsF v li r0 r1 r2 = (r1, r1, r0, r2) := by rw [dsF_w h hw, if_neg (by omega), if_pos h1]
theorem dsF_3 {v li r0 r1 r2 w : Int} (h : v ≤ 3) (hw : li = 0 ∧ w = v + 1 ∨ li ≠ 0 ∧ w = v) (h1 : w = 3) : dsF v li r0 r1 r2 = (r2, r2, r0, r1) := by rw [dsF_w h hw, if_neg (by omega), if_neg (by omega), if_pos h1]
theorem dsF_5 {v li r0 r1 r2 w : Int} (h : v ≤ 3) (hw : li = 0 ∧ w = v + 1 ∨ li ≠ 0 ∧ w = v) (h1 : 3 < w) : dsF v li r0 r1 r2 = (r0 - 1, r0 - 1, r0, r1) := by rw [dsF_w h hw, if_neg (by omega), if_neg (by omega), if_neg (by omega)]

abbrev tfF (d beh ds wd : Int) : Prop := d = 0 ∨ beh + ds < d ∨ d ≤ beh ∧ wd < d ∨ beh < d ∧ wd < beh

abbrev SqS := Int × Int × Int × Int × Int × List Int × Int × Int × Int
def nilS : SqS := (0, 0, 0, 0, 0, [], 0, 0, 0)

def SQc (L : List Int) (ds wd mo mx wb li mt d left t0 t1 t2 used : Int) (W : List Int) (q0 q1 q2 : Int) : Int × SqS :=
  if (L.length : Int) - used < li then (19, nilS)
  else if tfF d ((W.length : Int) - ds + li) ds wd then (18, nilS)
  else if mo < (W.length : Int) - wb + li + mt then (20, nilS)
  else if mx < (W.length : Int) - wb + li + mt then (7, nilS)
  else (0, left, t0, t1, t2, used + li, cpb (W ++ sl L used (used + li)) d mt.toNat, q0, q1, q2)
section SQcx
variable {L W W2 : List Int} {ds wd mo mx wb li mt d left t0 t1 t2 used u2 q0 q1 q2 : Int}
theorem SQc_19 (h : (L.length : Int) - used < li) : SQc L ds wd mo mx wb li mt d left t0 t1 t2 used W q0 q1 q2 = (19, nilS) := if_pos h
theorem SQc_18 (h : li ≤ (L.length : Int) - used) (hd : tfF d ((W.length : Int) - ds + li) ds wd) : SQc L ds wd mo mx wb li mt d left t0 t1 t2 used W q0 q1 q2 = (18, nilS) := by
  unfold SQc
  rw [if_neg (by omega), if_pos hd]
theorem SQc_20 (h : li ≤ (L.length : Int) - used) (hd : ¬ tfF d ((W.length : Int) - ds + li) ds wd) (hm : mo < (W.length : Int) - wb + li + mt) : SQc L ds wd mo mx wb li mt d left t0 t1 t2 used W q0 q1 q2 = (20, nilS) := by
  unfold SQc
  rw [if_neg (by omega), if_neg hd, if_pos hm]
theorem SQc_7 (h : li ≤ (L.length : Int) - used) (hd : ¬ tfF d ((W.length : Int) - ds + li) ds wd) (hm : (W.length : Int) - wb + li + mt ≤ mo) (hx : mx < (W.length : Int) - wb + li + mt) : SQc L ds wd mo mx wb li mt d left t0 t1 t2 used W q0 q1 q2 = (7, nilS) := by
  unfold SQc
  rw [if_neg (by omega), if_neg hd, if_neg (by omega), if_pos hx]
theorem SQc_y (h : li ≤ (L.length : Int) - used) (hd : ¬ tfF d ((W.length : Int) - ds + li) ds wd) (hm : (W.length : Int) - wb + li + mt ≤ mo) (hx : (W.length : Int) - wb + li + mt ≤ mx) (hu : u2 = used + li) (hW : W2 = cpb (W ++ sl L used (used + li)) d mt.toNat) : SQc L ds wd mo mx wb li mt d left t0 t1 t2 used W q0 q1 q2 = (0, left, t0, t1, t2, u2, W2, q0, q1, q2) := by
  subst hu hW
  unfold SQc
  rw [if_neg (by omega), if_neg hd, if_neg (by omega), if_neg (by omega)]
end SQcx

noncomputable def nxF (X : Int → Tb) (last s0 s1 s2 : Int) : Int := if last = 1 then 0 else (tsF (X 0) s0).2.1 + (tsF (X 1) s1).2.1 + (tsF (X 2) s2).2.1
noncomputable def SQ1 (I : Int → Int) (st : Int) (X : Int → Tb) (L : List Int) (ds wd mo mx wb last left s0 s1 s2 used : Int) (W : List Int) (r0 r1 r2 : Int) : Int × SqS :=
  if left < (tsF (X 1) s1).1 + mB (tsF (X 2) s2).1 + lB (tsF (X 0) s0).1 + nxF X last s0 s1 s2 then (17, nilS)
  else (fun (v mt li l3 : Int) => SQc L ds wd mo mx wb li mt (dsF v li r0 r1 r2).1 (l3 - nxF X last s0 s1 s2)
      (if last = 1 then s0 else (tsF (X 0) s0).2.2 + bvA I st l3 (tsF (X 0) s0).2.1)
      (if last = 1 then s1 else (tsF (X 1) s1).2.2 + bvA I st (l3 - (tsF (X 0) s0).2.1 - (tsF (X 2) s2).2.1) (tsF (X 1) s1).2.1)
      (if last = 1 then s2 else (tsF (X 2) s2).2.2 + bvA I st (l3 - (tsF (X 0) s0).2.1) (tsF (X 2) s2).2.1)
      used W (dsF v li r0 r1 r2).2.1 (dsF v li r0 r1 r2).2.2.1 (dsF v li r0 r1 r2).2.2.2)
    (p2 (tsF (X 1) s1).1 + bvA I st left (tsF (X 1) s1).1)
    (mBs (tsF (X 2) s2).1 + bvA I st (left - (tsF (X 1) s1).1) (mB (tsF (X 2) s2).1))
    (lBs (tsF (X 0) s0).1 + bvA I st (left - (tsF (X 1) s1).1 - mB (tsF (X 2) s2).1) (lB (tsF (X 0) s0).1))
    (left - (tsF (X 1) s1).1 - mB (tsF (X 2) s2).1 - lB (tsF (X 0) s0).1)
section SQ1x
variable {I : Int → Int} {st : Int} {X : Int → Tb} {L W : List Int} {ds wd mo mx wb last left s0 s1 s2 used r0 r1 r2 l d m b0 b1 b2 z0 z1 z2 v mt li l3 l6 t0 t1 t2 di q0 q1 q2 nx : Int}
theorem nx_1 (h : last = 1) : nxF X last s0 s1 s2 = 0 := if_pos h
theorem nx_0 (h : last ≠ 1) (h0 : tsF (X 0) s0 = (l, b0, z0)) (h1 : tsF (X 1) s1 = (d, b1, z1)) (h2 : tsF (X 2) s2 = (m, b2, z2)) : nxF X last s0 s1 s2 = b0 + b1 + b2 := by
  unfold nxF
  rw [if_neg h, h0, h1, h2]
theorem nx_e (h0 : tsF (X 0) s0 = (l, b0, z0)) (h1 : tsF (X 1) s1 = (d, b1, z1)) (h2 : tsF (X 2) s2 = (m, b2, z2)) (hn : last = 1 ∧ nx = 0 ∨ last ≠ 1 ∧ nx = b0 + b1 + b2) : nxF X last s0 s1 s2 = nx := by
  rcases hn with ⟨a, b⟩ | ⟨a, b⟩
  · rw [nx_1 a, b]
  · rw [nx_0 a h0 h1 h2, b]
theorem SQ1_17 (h0 : tsF (X 0) s0 = (l, b0, z0)) (h1 : tsF (X 1) s1 = (d, b1, z1)) (h2 : tsF (X 2) s2 = (m, b2, z2)) (hn : last = 1 ∧ nx = 0 ∨ last ≠ 1 ∧ nx = b0 + b1 + b2) (h : left < d + mB m + lB l + nx) : SQ1 I st X L ds wd mo mx wb last left s0 s1 s2 used W r0 r1 r2 = (17, nilS) := by
  unfold SQ1
  rw [nx_e h0 h1 h2 hn, h0, h1, h2]
  exact if_pos h
theorem SQ1_c (h0 : tsF (X 0) s0 = (l, b0, z0)) (h1 : tsF (X 1) s1 = (d, b1, z1)) (h2 : tsF (X 2) s2 = (m, b2, z2)) (hn : last = 1 ∧ nx = 0 ∨ last ≠ 1 ∧ nx = b0 + b1 + b2) (h : d + mB m + lB l + nx ≤ left)
    (hv : v = p2 d + bvA I st left d) (hm : mt = mBs m + bvA I st (left - d) (mB m)) (hl : li = lBs l + bvA I st (left - d - mB m) (lB l)) (e3 : l3 = left - d - mB m - lB l) (e6 : l6 = l3 - nx)
    (ht : last = 1 ∧ t0 = s0 ∧ t1 = s1 ∧ t2 = s2 ∨ last ≠ 1 ∧ t0 = z0 + bvA I st l3 b0 ∧ t1 = z1 + bvA I st (l3 - b0 - b2) b1 ∧ t2 = z2 + bvA I st (l3 - b0) b2)
    (hd : dsF v li r0 r1 r2 = (di, q0, q1, q2)) : SQ1 I st X L ds wd mo mx wb last left s0 s1 s2 used W r0 r1 r2 = SQc L ds wd mo mx wb li mt di l6 t0 t1 t2 used W q0 q1 q2 := by
  unfold SQ1
  rw [nx_e h0 h1 h2 hn, h0, h1, h2]
  rw [if_neg (by show ¬ left < d + mB m + lB l + nx; omega)]
  show SQc L ds wd mo mx wb (lBs l + bvA I st (left - d - mB m) (lB l)) (mBs m + bvA I st (left - d) (mB m)) (dsF (p2 d + bvA I st left d) (lBs l + bvA I st (left - d - mB m) (lB l)) r0 r1 r2).1 (left - d - mB m - lB l - nx) (if last = 1 then s0 else z0 + bvA I st (left - d - mB m - lB l) b0) (if last = 1 then s1 else z1 + bvA I st (left - d - mB m - lB l - b0 - b2) b1) (if last = 1 then s2 else z2 + bvA I st (left - d - mB m - lB l - b0) b2) used W (dsF (p2 d + bvA I st left d) (lBs l + bvA I st (left - d - mB m) (lB l)) r0 r1 r2).2.1 (dsF (p2 d + bvA I st left d) (lBs l + bvA I st (left - d - mB m) (lB l)) r0 r1 r2).2.2.1 (dsF (p2 d + bvA I st left d) (lBs l + bvA I st (left - d - mB m) (lB l)) r0 r1 r2).2.2.2 = _
  rw [← hv, ← hm, ← hl, ← e3, ← e6, hd]
  rcases ht with ⟨a, a0, a1, a2⟩ | ⟨a, a0, a1, a2⟩
  · rw [if_pos a, if_pos a, if_pos a, a0, a1, a2]
  · rw [if_neg a, if_neg a, if_neg a, a0, a1, a2]
end SQ1x

noncomputable def sqs (I : Int → Int) (st : Int) (X : Int → Tb) (L : List Int) (ds wd mo mx wb : Int) : Nat → Int → SqS → Int × Int × SqS
  | 0, dn, S => (0, dn, S)
  | k + 1, dn, S => if (SQ1 I st X L ds wd mo mx wb (if k = 0 then 1 else 0) S.1 S.2.1 S.2.2.1 S.2.2.2.1 S.2.2.2.2.1 S.2.2.2.2.2.1 S.2.2.2.2.2.2.1 S.2.2.2.2.2.2.2.1 S.2.2.2.2.2.2.2.2).1 ≠ 0
      then ((SQ1 I st X L ds wd mo mx wb (if k = 0 then 1 else 0) S.1 S.2.1 S.2.2.1 S.2.2.2.1 S.2.2.2.2.1 S.2.2.2.2.2.1 S.2.2.2.2.2.2.1 S.2.2.2.2.2.2.2.1 S.2.2.2.2.2.2.2.2).1, dn, S)
      else sqs I st X L ds wd mo mx wb k (dn + 1) (SQ1 I st X L ds wd mo mx wb (if k = 0 then 1 else 0) S.1 S.2.1 S.2.2.1 S.2.2.2.1 S.2.2.2.2.1 S.2.2.2.2.2.1 S.2.2.2.2.2.2.1 S.2.2.2.2.2.2.2.1 S.2.2.2.2.2.2.2.2).2
section sqsx
variable {I : Int → Int} {st : Int} {X : Int → Tb} {L W : List Int} {ds wd mo mx wb last left s0 s1 s2 used r0 r1 r2 f dn : Int} {k : Nat} {S2 : SqS}
theorem sqs_f (h : SQ1 I st X L ds wd mo mx wb last left s0 s1 s2 used W r0 r1 r2 = (f, nilS)) (hl : k = 0 ∧ last = 1 ∨ k ≠ 0 ∧ last = 0) (hf : f ≠ 0) : sqs I st X L ds wd mo mx wb (k + 1) dn (left, s0, s1, s2, used, W, r0, r1, r2) = (f, dn, left, s0, s1, s2, used, W, r0, r1, r2) := by
  have e : (if k = 0 then (1 : Int) else 0) = last := by
    rcases hl with ⟨a, b⟩ | ⟨a, b⟩
    · rw [if_pos a, b]
    · rw [if_neg a, b]
  unfold sqs
  rw [e]
  show (if (SQ1 I st X L ds wd mo mx wb last left s0 s1 s2 used W r0 r1 r2).1 ≠ 0 then ((SQ1 I st X L ds wd mo mx wb last left s0 s1 s2 used W r0 r1 r2).1, dn, (left, s0, s1, s2, used, W, r0, r1, r2)) else _) = _
  rw [h]
  exact if_pos hf
theorem sqs_s (h : SQ1 I st X L ds wd mo mx wb last left s0 s1 s2 used W r0 r1 r2 = (0, S2)) (hl : k = 0 ∧ last = 1 ∨ k ≠ 0 ∧ last = 0) : sqs I st X L ds wd mo mx wb (k + 1) dn (left, s0, s1, s2, used, W, r0, r1, r2) = sqs I st X L ds wd mo mx wb k (dn + 1) S2 := by
  have e : (if k = 0 then (1 : Int) else 0) = last := by
    rcases hl with ⟨a, b⟩ | ⟨a, b⟩
    · rw [if_pos a, b]
    · rw [if_neg a, b]
  show (if (SQ1 I st X L ds wd mo mx wb (if k = 0 then 1 else 0) left s0 s1 s2 used W r0 r1 r2).1 ≠ 0 then ((SQ1 I st X L ds wd mo mx wb (if k = 0 then 1 else 0) left s0 s1 s2 used W r0 r1 r2).1, dn, (left, s0, s1, s2, used, W, r0, r1, r2)) else sqs I st X L ds wd mo mx wb k (dn + 1) (SQ1 I st X L ds wd mo mx wb (if k = 0 then 1 else 0) left s0 s1 s2 used W r0 r1 r2).2) = _
  rw [e, h]
  exact if_neg (by first | decide | exact fun h => h rfl | exact (show ¬ (1 : Int) = 0 by decide))
end sqsx

def SQO (I : Int → Int) (st : Int) (X : Int → Tb) (L : List Int) (ds wd mo mx wb n i : Int) (Z : Int × Int × SqS) (S : SqS) : Prop := 0 ≤ i ∧ i ≤ n ∧ Z = sqs I st X L ds wd mo mx wb (n - i).toNat i S
theorem SQO_0 {I : Int → Int} {st : Int} {X : Int → Tb} {L : List Int} {ds wd mo mx wb n : Int} {S : SqS} (hn : 0 ≤ n) : SQO I st X L ds wd mo mx wb n 0 (sqs I st X L ds wd mo mx wb n.toNat 0 S) S := ⟨Int.le_refl 0, hn, by rw [Int.sub_zero]⟩
section SQOx
variable {I : Int → Int} {st : Int} {X : Int → Tb} {L W : List Int} {ds wd mo mx wb last left s0 s1 s2 used r0 r1 r2 f n i i2 : Int} {Z : Int × Int × SqS} {S2 : SqS}
theorem SQO_s (h : SQO I st X L ds wd mo mx wb n i Z (left, s0, s1, s2, used, W, r0, r1, r2)) (hi : i < n) (hl : i + 1 = n ∧ last = 1 ∨ i + 1 < n ∧ last = 0) (k : SQ1 I st X L ds wd mo mx wb last left s0 s1 s2 used W r0 r1 r2 = (0, S2)) (e : i2 = i + 1) : SQO I st X L ds wd mo mx wb n i2 Z S2 := by
  obtain ⟨a, b, c⟩ := h
  subst e
  refine ⟨by omega, by omega, ?_⟩
  rw [c, show (n - i).toNat = (n - (i + 1)).toNat + 1 by omega]
  exact sqs_s k (by omega)
theorem SQO_f (h : SQO I st X L ds wd mo mx wb n i Z (left, s0, s1, s2, used, W, r0, r1, r2)) (hi : i < n) (hl : i + 1 = n ∧ last = 1 ∨ i + 1 < n ∧ last = 0) (k : SQ1 I st X L ds wd mo mx wb last left s0 s1 s2 used W r0 r1 r2 = (f, nilS)) (hf : f ≠ 0) : Z = (f, i, left, s0, s1, s2, used, W, r0, r1, r2) := by
  obtain ⟨a, b, c⟩ := h
  rw [c, show (n - i).toNat = (n - (i + 1)).toNat + 1 by omega]
  exact sqs_f k (by omega) hf
theorem SQO_e {S : SqS} (h : SQO I st X L ds wd mo mx wb n i Z S) (hi : i = n) : Z = (0, n, S) := by
  obtain ⟨a, b, c⟩ := h
  rw [c, hi, show (n - n).toNat = 0 by omega]
  rfl
end SQOx


end
section
/-! 18j -/
def LPs {S R : Type} (f : S → S ⊕ R) : Nat → S → R → Prop
  | 0, s, r => f s = .inr r
  | n + 1, s, r => ∃ t, f s = .inl t ∧ LPs f n t r
noncomputable def LPF {S R : Type} (d : R) (f : S → S ⊕ R) (s : S) : R := CH d (fun r => ∃ n, LPs f n s r)
theorem LPF_s {S R : Type} {d : R} {f : S → S ⊕ R} {s t : S} (h : f s = .inl t) : LPF d f s = LPF d f t := by
  have e : (fun r => ∃ n, LPs f n s r) = (fun r => ∃ n, LPs f n t r) := by
    funext r
    apply propext
    constructor
    · intro ⟨n, k⟩
      match n, k with
      | 0, k =>
        have k : f s = .inr r := k
        rw [h] at k
        cases k
      | n + 1, ⟨u, k1, k2⟩ =>
        rw [h] at k1
        have e : t = u := Sum.inl.inj k1
        rw [e]
        exact ⟨n, k2⟩
    · intro ⟨n, k⟩
      exact ⟨n + 1, t, h, k⟩
  unfold LPF
  rw [e]
theorem LPF_e {S R : Type} {d : R} {f : S → S ⊕ R} {s : S} {r : R} (h : f s = .inr r) : LPF d f s = r := CH_e ⟨0, h⟩ (fun q k => by
  obtain ⟨n, k⟩ := k
  match n, k with
  | 0, k =>
    have k : f s = .inr q := k
    rw [h] at k
    exact (Sum.inr.inj k).symm
  | n + 1, ⟨u, k1, k2⟩ =>
    rw [h] at k1
    cases k1)


abbrev SqR := Int × Int × List Int × Int × Int × Int
def SQe (L : List Int) (mo mx wb : Int) (f dn left used : Int) (W : List Int) (r0 r1 r2 : Int) : SqR :=
  if f ≠ 0 then (f, dn, W, r0, r1, r2) else if 0 < left then (17, dn, W, r0, r1, r2)
  else if mo < (W.length : Int) - wb + ((L.length : Int) - used) then (20, dn, W, r0, r1, r2)
  else if mx < (W.length : Int) - wb + ((L.length : Int) - used) then (7, dn, W, r0, r1, r2)
  else (0, dn, W ++ L.drop used.toNat, r0, r1, r2)
section SQex
variable {L W W2 : List Int} {mo mx wb f dn left used r0 r1 r2 : Int}
theorem SQe_f (h : f ≠ 0) : SQe L mo mx wb f dn left used W r0 r1 r2 = (f, dn, W, r0, r1, r2) := if_pos h
theorem SQe_17 (hf : f = 0) (h : 0 < left) : SQe L mo mx wb f dn left used W r0 r1 r2 = (17, dn, W, r0, r1, r2) := by
  unfold SQe
  rw [if_neg (by omega), if_pos h]
theorem SQe_20 (hf : f = 0) (hl : left ≤ 0) (h : mo < (W.length : Int) - wb + ((L.length : Int) - used)) : SQe L mo mx wb f dn left used W r0 r1 r2 = (20, dn, W, r0, r1, r2) := by
  unfold SQe
  rw [if_neg (by omega), if_neg (by omega), if_pos h]
theorem SQe_7 (hf : f = 0) (hl : left ≤ 0) (hm : (W.length : Int) - wb + ((L.length : Int) - used) ≤ mo) (h : mx < (W.length : Int) - wb + ((L.length : Int) - used)) : SQe L mo mx wb f dn left used W r0 r1 r2 = (7, dn, W, r0, r1, r2) := by
  unfold SQe
  rw [if_neg (by omega), if_neg (by omega), if_neg (by omega), if_pos h]
theorem SQe_y (hf : f = 0) (hl : left ≤ 0) (hm : (W.length : Int) - wb + ((L.length : Int) - used) ≤ mo) (h : (W.length : Int) - wb + ((L.length : Int) - used) ≤ mx) (hW : W2 = W ++ L.drop used.toNat) : SQe L mo mx wb f dn left used W r0 r1 r2 = (0, dn, W2, r0, r1, r2) := by
  subst hW
  unfold SQe
  rw [if_neg (by omega), if_neg (by omega), if_neg (by omega), if_neg (by omega)]
end SQex
noncomputable def SQs (I : Int → Int) (here e : Int) (X : Int → Tb) (L : List Int) (ds wd mo mx n : Int) (W : List Int) (r0 r1 r2 : Int) : Int × Int × SqS :=
  sqs I (8 * here) X L ds wd mo mx (W.length : Int) n.toNat 0 (OPF I here e - (X 0).1 - (X 1).1 - (X 2).1, bvA I (8 * here) (OPF I here e) (X 0).1, bvA I (8 * here) (OPF I here e - (X 0).1) (X 1).1, bvA I (8 * here) (OPF I here e - (X 0).1 - (X 1).1) (X 2).1, 0, W, r0, r1, r2)
noncomputable def SQF (I : Int → Int) (here e : Int) (X : Int → Tb) (L : List Int) (ds wd mo mx n : Int) (W : List Int) (r0 r1 r2 : Int) : SqR :=
  if OPF I here e < (X 0).1 + (X 1).1 + (X 2).1 then (17, 0, W, r0, r1, r2)
  else (fun Z : Int × Int × SqS => SQe L mo mx (W.length : Int) Z.1 Z.2.1 Z.2.2.1 Z.2.2.2.2.2.2.1 Z.2.2.2.2.2.2.2.1 Z.2.2.2.2.2.2.2.2.1 Z.2.2.2.2.2.2.2.2.2.1 Z.2.2.2.2.2.2.2.2.2.2) (SQs I here e X L ds wd mo mx n W r0 r1 r2)
section SQFx
variable {I : Int → Int} {here e ds wd mo mx n r0 r1 r2 left f dn s0 s1 s2 used q0 q1 q2 r lf l6 : Int} {X : Int → Tb} {L W W1 : List Int} {R : SqR}
theorem SQF_n (h : OPS I here e r lf) (hr : r ≠ 1) (ho : 0 ≤ (X 0).1 ∧ 0 ≤ (X 1).1 ∧ 0 ≤ (X 2).1) : SQF I here e X L ds wd mo mx n W r0 r1 r2 = (17, 0, W, r0, r1, r2) := by
  unfold SQF
  rw [OPF_n h hr]
  exact if_pos (by omega)
theorem SQF_l (h : OPS I here e 1 left) (hl : left < (X 0).1 + (X 1).1 + (X 2).1) : SQF I here e X L ds wd mo mx n W r0 r1 r2 = (17, 0, W, r0, r1, r2) := by
  unfold SQF
  rw [OPF_y h]
  exact if_pos hl
theorem SQF_y (h : OPS I here e 1 left) (hl : (X 0).1 + (X 1).1 + (X 2).1 ≤ left) (hZ : SQs I here e X L ds wd mo mx n W r0 r1 r2 = (f, dn, lf, s0, s1, s2, used, W1, q0, q1, q2)) (hR : SQe L mo mx (W.length : Int) f dn lf used W1 q0 q1 q2 = R) : SQF I here e X L ds wd mo mx n W r0 r1 r2 = R := by
  unfold SQF
  rw [OPF_y h, if_neg (by omega), hZ]
  exact hR
theorem SQs_0 (h : OPS I here e 1 left) (hn : 0 ≤ n) (h0 : s0 = bvA I (8 * here) left (X 0).1) (h1 : s1 = bvA I (8 * here) (left - (X 0).1) (X 1).1) (h2 : s2 = bvA I (8 * here) (left - (X 0).1 - (X 1).1) (X 2).1) (e6 : l6 = left - (X 0).1 - (X 1).1 - (X 2).1) : SQO I (8 * here) X L ds wd mo mx (W.length : Int) n 0 (SQs I here e X L ds wd mo mx n W r0 r1 r2) (l6, s0, s1, s2, 0, W, r0, r1, r2) := by
  unfold SQs
  rw [OPF_y h, ← h0, ← h1, ← h2, ← e6]
  exact SQO_0 hn
end SQFx

abbrev BkR := Int × Int × Int × List Int × (Int × (Int → Int)) × (Int → Tb) × Int × Int × Int
noncomputable def SEQF (I : Int → Int) (at_ e : Int) (L : List Int) (ds wd mo mx n : Int) (W : List Int) (C : Int × (Int → Int)) (X : Int → Tb) (r0 r1 r2 : Int) : BkR :=
  if (T3F I at_ e X).1 ≠ 0 then ((T3F I at_ e X).1, (T3F I at_ e X).2.1, 0, W, C, X, r0, r1, r2)
  else (fun Z : SqR => (Z.1, (T3F I at_ e X).2.2.1, Z.2.1, Z.2.2.1, C, (T3F I at_ e X).2.2.2, Z.2.2.2.1, Z.2.2.2.2.1, Z.2.2.2.2.2)) (SQF I (T3F I at_ e X).2.2.1 e (T3F I at_ e X).2.2.2 L ds wd mo mx n W r0 r1 r2)
section SEQx
variable {I : Int → Int} {at_ e ds wd mo mx n r0 r1 r2 f p q dn q0 q1 q2 : Int} {X Y : Int → Tb} {L W W1 : List Int} {C : Int × (Int → Int)}
theorem SEQ_f (h : T3F I at_ e X = (f, p, q, Y)) (hf : f ≠ 0) : SEQF I at_ e L ds wd mo mx n W C X r0 r1 r2 = (f, p, 0, W, C, X, r0, r1, r2) := by
  unfold SEQF
  rw [h]
  exact if_pos hf
theorem SEQ_y (h : T3F I at_ e X = (0, p, q, Y)) (k : SQF I q e Y L ds wd mo mx n W r0 r1 r2 = (f, dn, W1, q0, q1, q2)) : SEQF I at_ e L ds wd mo mx n W C X r0 r1 r2 = (f, q, dn, W1, C, Y, q0, q1, q2) := by
  unfold SEQF
  rw [h]
  show (if (0 : Int) ≠ 0 then _ else _) = _
  rw [if_neg (by decide)]
  show ((SQF I q e Y L ds wd mo mx n W r0 r1 r2).1, q, (SQF I q e Y L ds wd mo mx n W r0 r1 r2).2.1, (SQF I q e Y L ds wd mo mx n W r0 r1 r2).2.2.1, C, Y, (SQF I q e Y L ds wd mo mx n W r0 r1 r2).2.2.2.1, (SQF I q e Y L ds wd mo mx n W r0 r1 r2).2.2.2.2.1, (SQF I q e Y L ds wd mo mx n W r0 r1 r2).2.2.2.2.2) = _
  rw [k]
end SEQx


noncomputable def STN (I G : Int → Int) (T n m c nb_ e : Int) : Nat → Int → Int → List Int → Int × Int × List Int
  | 0, _, _, A => (1, 0, A)
  | k + 1, i, at_, A => if (DCF I G at_ (if i = m - 1 then e else at_ + nvl I (nb_ + 2 * i) 2) T (if i = m - 1 then n - i * c else c) A).1 = 0 then (0, at_, [])
      else STN I G T n m c nb_ e k (i + 1) (if i = m - 1 then e else at_ + nvl I (nb_ + 2 * i) 2) (DCF I G at_ (if i = m - 1 then e else at_ + nvl I (nb_ + 2 * i) 2) T (if i = m - 1 then n - i * c else c) A).2
noncomputable def STF (I G : Int → Int) (T n l p e : Int) : Int × Int × List Int :=
  if l = 0 then STN I G T n 1 n p e 1 0 p []
  else if e - p < 6 + (nvl I p 2 + nvl I (p + 2) 2 + nvl I (p + 4) 2) then (0, p, []) else STN I G T n 4 ((n + 3) / 4) p e 4 0 (p + 6) []
section STx
variable {I G : Int → Int} {T n l p e m c nb_ i at_ en cnt : Int} {k : Nat} {A B : List Int}
theorem STN_f (hn : i = m - 1 ∧ en = e ∧ cnt = n - i * c ∨ i ≠ m - 1 ∧ en = at_ + nvl I (nb_ + 2 * i) 2 ∧ cnt = c) (h : (DCF I G at_ en T cnt A).1 = 0) : STN I G T n m c nb_ e (k + 1) i at_ A = (0, at_, []) := by
  unfold STN
  rcases hn with ⟨a, b, d⟩ | ⟨a, b, d⟩
  · rw [if_pos a, if_pos a, ← b, ← d]
    exact if_pos h
  · rw [if_neg a, if_neg a, ← b, ← d]
    exact if_pos h
theorem STN_s (hn : i = m - 1 ∧ en = e ∧ cnt = n - i * c ∨ i ≠ m - 1 ∧ en = at_ + nvl I (nb_ + 2 * i) 2 ∧ cnt = c) (h : DCF I G at_ en T cnt A = (1, B)) : STN I G T n m c nb_ e (k + 1) i at_ A = STN I G T n m c nb_ e k (i + 1) en B := by
  show (if (DCF I G at_ (if i = m - 1 then e else at_ + nvl I (nb_ + 2 * i) 2) T (if i = m - 1 then n - i * c else c) A).1 = 0 then ((0 : Int), at_, ([] : List Int)) else STN I G T n m c nb_ e k (i + 1) (if i = m - 1 then e else at_ + nvl I (nb_ + 2 * i) 2) (DCF I G at_ (if i = m - 1 then e else at_ + nvl I (nb_ + 2 * i) 2) T (if i = m - 1 then n - i * c else c) A).2) = _
  rcases hn with ⟨a, b, d⟩ | ⟨a, b, d⟩
  · rw [if_pos a, if_pos a, ← b, ← d, h]
    exact if_neg (by first | decide | exact fun h => h rfl | exact (show ¬ (1 : Int) = 0 by decide))
  · rw [if_neg a, if_neg a, ← b, ← d, h]
    exact if_neg (by first | decide | exact fun h => h rfl | exact (show ¬ (1 : Int) = 0 by decide))
theorem ST_1 (h : l = 0) : STF I G T n l p e = STN I G T n 1 n p e 1 0 p [] := if_pos h
theorem ST_b (h : l ≠ 0) (hx : e - p < 6 + (nvl I p 2 + nvl I (p + 2) 2 + nvl I (p + 4) 2)) : STF I G T n l p e = (0, p, []) := by
  unfold STF
  rw [if_neg h, if_pos hx]
theorem ST_4 (h : l ≠ 0) (hx : 6 + (nvl I p 2 + nvl I (p + 2) 2 + nvl I (p + 4) 2) ≤ e - p) : STF I G T n l p e = STN I G T n 4 ((n + 3) / 4) p e 4 0 (p + 6) [] := by
  unfold STF
  rw [if_neg h, if_neg (by omega)]

theorem ST_1f (h : l = 0) (k : (DCF I G p e T n []).1 = 0) : STF I G T n l p e = (0, p, []) := by
  rw [ST_1 h]
  exact STN_f (.inl ⟨by decide, rfl, by omega⟩) k
theorem ST_1y (h : l = 0) (k : DCF I G p e T n [] = (1, B)) : STF I G T n l p e = (1, 0, B) := by
  rw [ST_1 h, STN_s (.inl ⟨by decide, rfl, by omega⟩) k]
  rfl
end STx

abbrev LtR := Int × Int × Int × List Int × Int × (Int → Int)
def badL (f p : Int) : LtR := (f, p, 0, [], 0, fun _ => 0)

def lhB (l : Int) : Int := if l % 2 = 0 then 1 else if l = 1 then 2 else 3
def lcB (l : Int) : Int := if l < 2 then 3 else l + 2
def lcW (l : Int) : Int := if l < 2 then 10 else if l = 2 then 14 else 18
noncomputable def LT0 (I : Int → Int) (at_ e mo T : Int) (G : Int → Int) (kind l b n : Int) : LtR :=
  if e - at_ < b then badL 10 e else if mo < n then badL 11 at_
  else if e - (at_ + b) < (if kind = 0 then n else 1) then badL 10 e
  else (0, 0, at_ + b + (if kind = 0 then n else 1), (if kind = 0 then sc I (at_ + b) (at_ + b + n) else List.replicate n.toNat (I (at_ + b))), T, G)
noncomputable def LT3 (I : Int → Int) (p to l n : Int) (T : Int) (G : Int → Int) : LtR := if (STF I G T n l p to).1 = 0 then badL 14 (STF I G T n l p to).2.1 else (0, 0, to, (STF I G T n l p to).2.2, T, G)
noncomputable def LT2 (I : Int → Int) (at_ e mo T : Int) (G : Int → Int) (kind l b n fo : Int) : LtR :=
  if e - at_ < b then badL 10 e else if mo < n ∨ 0 < l ∧ n < 3 * ((n + 3) / 4) then badL 11 at_
  else if kind = 3 ∧ T = 0 then badL 13 at_
  else if e - (at_ + b) < fo then badL 10 e
  else if kind = 2 then (if (DSF I (at_ + b) (at_ + b + fo)).1 = 0 then badL 12 (at_ + b) else LT3 I (DSF I (at_ + b) (at_ + b + fo)).2.1 (at_ + b + fo) l n (DSF I (at_ + b) (at_ + b + fo)).2.2.1 (DSF I (at_ + b) (at_ + b + fo)).2.2.2)
  else LT3 I (at_ + b) (at_ + b + fo) l n T G
noncomputable def LTF (I : Int → Int) (at_ e mo T : Int) (G : Int → Int) : LtR :=
  if e ≤ at_ then badL 10 e
  else if I at_ % 4 < 2 then LT0 I at_ e mo T G (I at_ % 4) (I at_ / 4 % 4) (lhB (I at_ / 4 % 4)) (nvl I at_ (lhB (I at_ / 4 % 4)).toNat / (if lhB (I at_ / 4 % 4) = 1 then 8 else 16))
  else LT2 I at_ e mo T G (I at_ % 4) (I at_ / 4 % 4) (lcB (I at_ / 4 % 4)) (nvl I at_ (lcB (I at_ / 4 % 4)).toNat / 16 % p2 (lcW (I at_ / 4 % 4))) (nvl I at_ (lcB (I at_ / 4 % 4)).toNat / 16 / p2 (lcW (I at_ / 4 % 4)) % p2 (lcW (I at_ / 4 % 4)))
section LTx
variable {I G : Int → Int} {at_ e mo T kind l b n fo f p to x d : Int} {A : List Int}
theorem LTF_e (h : e ≤ at_) : LTF I at_ e mo T G = badL 10 e := if_pos h
theorem LTF_0 (h : at_ < e) (hx : I at_ = x) (hk : kind = x % 4) (h2 : kind < 2) (hl : l = x / 4 % 4) (hb : b = lhB l) (hn : n = nvl I at_ b.toNat / d) (hd : b = 1 ∧ d = 8 ∨ b ≠ 1 ∧ d = 16) : LTF I at_ e mo T G = LT0 I at_ e mo T G kind l b n := by
  have ed : (if b = 1 then (8 : Int) else 16) = d := by
    rcases hd with ⟨a, c⟩ | ⟨a, c⟩
    · rw [if_pos a, c]
    · rw [if_neg a, c]
  unfold LTF
  rw [if_neg (by omega), hx, ← hk, ← hl, ← hb, ed, ← hn, if_pos h2]
theorem LTF_2 (h : at_ < e) (hx : I at_ = x) (hk : kind = x % 4) (h2 : 2 ≤ kind) (hl : l = x / 4 % 4) (hb : b = lcB l) (hn : n = nvl I at_ b.toNat / 16 % p2 (lcW l)) (hf : fo = nvl I at_ b.toNat / 16 / p2 (lcW l) % p2 (lcW l)) : LTF I at_ e mo T G = LT2 I at_ e mo T G kind l b n fo := by
  unfold LTF
  rw [if_neg (by omega), hx, ← hk, ← hl, ← hb, ← hn, ← hf, if_neg (by omega)]

theorem LTF_h (h : at_ < e) (hx : I at_ = x) (hb : x % 4 < 2 ∧ b = lhB (x / 4 % 4) ∨ 2 ≤ x % 4 ∧ b = lcB (x / 4 % 4)) (hs : e - at_ < b) : LTF I at_ e mo T G = badL 10 e := by
  rcases hb with ⟨a, c⟩ | ⟨a, c⟩
  · by_cases q : b = 1
    · rw [LTF_0 (d := 8) h hx rfl a rfl c rfl (.inl ⟨q, rfl⟩)]
      exact if_pos hs
    · rw [LTF_0 (d := 16) h hx rfl a rfl c rfl (.inr ⟨q, rfl⟩)]
      exact if_pos hs
  · rw [LTF_2 h hx rfl a rfl c rfl rfl]
    exact if_pos hs
theorem LT0_11 (h : b ≤ e - at_) (hn : mo < n) : LT0 I at_ e mo T G kind l b n = badL 11 at_ := by
  unfold LT0
  rw [if_neg (by omega), if_pos hn]
theorem LT0_10 (h : b ≤ e - at_) (hn : n ≤ mo) (hf : kind = 0 ∧ fo = n ∨ kind ≠ 0 ∧ fo = 1) (hs : e - (at_ + b) < fo) : LT0 I at_ e mo T G kind l b n = badL 10 e := by
  unfold LT0
  rw [if_neg (by omega), if_neg (by omega)]
  rcases hf with ⟨a, c⟩ | ⟨a, c⟩
  · rw [if_pos a]; exact if_pos (by omega)
  · rw [if_neg a]; exact if_pos (by omega)
theorem LT0_y (h : b ≤ e - at_) (hn : n ≤ mo) (hf : kind = 0 ∧ fo = n ∧ A = sc I (at_ + b) (at_ + b + n) ∨ kind ≠ 0 ∧ fo = 1 ∧ A = List.replicate n.toNat (I (at_ + b))) (hs : fo ≤ e - (at_ + b)) (hp : p = at_ + b + fo) : LT0 I at_ e mo T G kind l b n = (0, 0, p, A, T, G) := by
  subst hp
  unfold LT0
  rw [if_neg (by omega), if_neg (by omega)]
  rcases hf with ⟨a, c, g⟩ | ⟨a, c, g⟩
  · rw [if_pos a, if_pos a, if_neg (by omega), ← g, c]
  · rw [if_neg a, if_neg a, if_neg (by omega), ← g, c]
theorem LT2_11 (h : b ≤ e - at_) (hn : mo < n ∨ 0 < l ∧ n < 3 * ((n + 3) / 4)) : LT2 I at_ e mo T G kind l b n fo = badL 11 at_ := by
  unfold LT2
  rw [if_neg (by omega), if_pos hn]
theorem LT2_13 (h : b ≤ e - at_) (hn : ¬ (mo < n ∨ 0 < l ∧ n < 3 * ((n + 3) / 4))) (hk : kind = 3 ∧ T = 0) : LT2 I at_ e mo T G kind l b n fo = badL 13 at_ := by
  unfold LT2
  rw [if_neg (by omega), if_neg hn, if_pos hk]
theorem LT2_10 (h : b ≤ e - at_) (hn : ¬ (mo < n ∨ 0 < l ∧ n < 3 * ((n + 3) / 4))) (hk : ¬ (kind = 3 ∧ T = 0)) (hs : e - (at_ + b) < fo) : LT2 I at_ e mo T G kind l b n fo = badL 10 e := by
  unfold LT2
  rw [if_neg (by omega), if_neg hn, if_neg hk, if_pos hs]
theorem LT2_k (h : b ≤ e - at_) (hn : ¬ (mo < n ∨ 0 < l ∧ n < 3 * ((n + 3) / 4))) (hk : ¬ (kind = 3 ∧ T = 0)) (hs : fo ≤ e - (at_ + b)) (h3 : kind ≠ 2) (hp : p = at_ + b) (ht : to = at_ + b + fo) : LT2 I at_ e mo T G kind l b n fo = LT3 I p to l n T G := by
  subst hp ht
  unfold LT2
  rw [if_neg (by omega), if_neg hn, if_neg hk, if_neg (by omega), if_neg h3]
theorem LT2_12 (h : b ≤ e - at_) (hn : ¬ (mo < n ∨ 0 < l ∧ n < 3 * ((n + 3) / 4))) (hs : fo ≤ e - (at_ + b)) (h3 : kind = 2) (hp : p = at_ + b) (ht : to = at_ + b + fo) (hd : (DSF I p to).1 = 0) : LT2 I at_ e mo T G kind l b n fo = badL 12 p := by
  subst hp ht
  unfold LT2
  rw [if_neg (by omega), if_neg hn, if_neg (by omega), if_neg (by omega), if_pos h3, if_pos hd]
theorem LT2_2 {q T2 : Int} {G2 : Int → Int} (h : b ≤ e - at_) (hn : ¬ (mo < n ∨ 0 < l ∧ n < 3 * ((n + 3) / 4))) (hs : fo ≤ e - (at_ + b)) (h3 : kind = 2) (hp : p = at_ + b) (ht : to = at_ + b + fo) (hd : DSF I p to = (1, q, T2, G2)) : LT2 I at_ e mo T G kind l b n fo = LT3 I q to l n T2 G2 := by
  subst hp ht
  unfold LT2
  rw [if_neg (by omega), if_neg hn, if_neg (by omega), if_neg (by omega), if_pos h3, hd]
  exact if_neg (by first | decide | exact fun h => h rfl | exact (show ¬ (1 : Int) = 0 by decide))
theorem LT3_f (h : STF I G T n l p to = (0, f, A)) : LT3 I p to l n T G = badL 14 f := by
  unfold LT3
  rw [h]
  exact if_pos rfl
theorem LT3_y (h : STF I G T n l p to = (1, f, A)) : LT3 I p to l n T G = (0, 0, to, A, T, G) := by
  unfold LT3
  rw [h]
  exact if_neg (by first | decide | exact fun h => h rfl | exact (show ¬ (1 : Int) = 0 by decide))
end LTx

def nsz0 (x : Int) : Int := if x < 128 then 1 else if x < 255 then 2 else 3
theorem nsz_x : ∃ g : Int → Int, g = nsz0 := ⟨_, rfl⟩
noncomputable def nsz : Int → Int := Classical.choose nsz_x
theorem nsz_e : nsz = nsz0 := Classical.choose_spec nsz_x
def nsv0 (I : Int → Int) (p : Int) : Int := if I p < 128 then I p else if I p < 255 then 256 * (I p - 128) + I (p + 1) else nvl I (p + 1) 2 + 32512
theorem nsv_x : ∃ g : (Int → Int) → Int → Int, g = nsv0 := ⟨_, rfl⟩
noncomputable def nsv : (Int → Int) → Int → Int := Classical.choose nsv_x
theorem nsv_e : nsv = nsv0 := Classical.choose_spec nsv_x
noncomputable def PBG (I : Int → Int) (at_ e ds wd mo mx : Int) (W : List Int) (X : Int → Tb) (r0 r1 r2 : Int) (p : Int) (L : List Int) (C : Int × (Int → Int)) : BkR :=
  if e - p < nsz (if p < e then I p else 0) then (10, e, 0, W, C, X, r0, r1, r2)
  else if nsv I p = 0 then (if p + nsz (I p) < e then (15, p + nsz (I p), 0, W, C, X, r0, r1, r2) else if mx < (L.length : Int) then (7, at_, 0, W, C, X, r0, r1, r2) else (0, 0, 0, W ++ L, C, X, r0, r1, r2))
  else SEQF I (p + nsz (I p)) e L ds wd mo mx (nsv I p) W C X r0 r1 r2
noncomputable def PBF (I : Int → Int) (at_ e ds wd mo mx : Int) (W : List Int) (C : Int × (Int → Int)) (X : Int → Tb) (r0 r1 r2 : Int) : BkR :=
  (fun Z : LtR => if Z.1 ≠ 0 then (Z.1, Z.2.1, 0, W, C, X, r0, r1, r2) else PBG I at_ e ds wd mo mx W X r0 r1 r2 Z.2.2.1 Z.2.2.2.1 (Z.2.2.2.2.1, Z.2.2.2.2.2)) (LTF I at_ e mo C.1 C.2)
section PKx
variable {I G G2 : Int → Int} {at_ e ds wd mo mx r0 r1 r2 p q n f T T2 x sz : Int} {W L : List Int} {C : Int × (Int → Int)} {X : Int → Tb}
theorem PBF_f (h : LTF I at_ e mo T G = badL f p) (hf : f ≠ 0) : PBF I at_ e ds wd mo mx W (T, G) X r0 r1 r2 = (f, p, 0, W, (T, G), X, r0, r1, r2) := by
  unfold PBF
  show (fun Z : LtR => if Z.1 ≠ 0 then (Z.1, Z.2.1, 0, W, (T, G), X, r0, r1, r2) else PBG I at_ e ds wd mo mx W X r0 r1 r2 Z.2.2.1 Z.2.2.2.1 (Z.2.2.2.2.1, Z.2.2.2.2.2)) (LTF I at_ e mo T G) = _
  rw [h]
  exact if_pos hf
theorem PBF_y (h : LTF I at_ e mo T G = (0, f, p, L, T2, G2)) : PBF I at_ e ds wd mo mx W (T, G) X r0 r1 r2 = PBG I at_ e ds wd mo mx W X r0 r1 r2 p L (T2, G2) := by
  unfold PBF
  show (fun Z : LtR => if Z.1 ≠ 0 then (Z.1, Z.2.1, 0, W, (T, G), X, r0, r1, r2) else PBG I at_ e ds wd mo mx W X r0 r1 r2 Z.2.2.1 Z.2.2.2.1 (Z.2.2.2.2.1, Z.2.2.2.2.2)) (LTF I at_ e mo T G) = _
  rw [h]
  exact if_neg (by first | decide | exact fun h => h rfl | exact (show ¬ (1 : Int) = 0 by decide))
theorem PBG_10 (h : e ≤ p ∨ p < e ∧ e - p < nsz (I p)) : PBG I at_ e ds wd mo mx W X r0 r1 r2 p L C = (10, e, 0, W, C, X, r0, r1, r2) := by
  unfold PBG
  rcases h with h | ⟨h, k⟩
  · rw [if_neg (show ¬ p < e by omega)]
    exact if_pos (by show e - p < nsz 0; have : nsz 0 = 1 := (by rw [nsz_e]; rfl); omega)
  · rw [if_pos h]
    exact if_pos k
theorem PBG_s (h : p < e) (hz : sz = nsz (I p)) (hs : sz ≤ e - p) (hn : n = nsv I p) (h0 : n ≠ 0) (hq : q = p + sz) : PBG I at_ e ds wd mo mx W X r0 r1 r2 p L C = SEQF I q e L ds wd mo mx n W C X r0 r1 r2 := by
  subst hq hz hn
  unfold PBG
  rw [if_pos h, if_neg (by omega), if_neg h0]
theorem PBG_15 (h : p < e) (hz : sz = nsz (I p)) (hs : sz ≤ e - p) (hn : nsv I p = 0) (hq : q = p + sz) (he : q < e) : PBG I at_ e ds wd mo mx W X r0 r1 r2 p L C = (15, q, 0, W, C, X, r0, r1, r2) := by
  subst hq hz
  unfold PBG
  rw [if_pos h, if_neg (by omega), if_pos hn, if_pos he]
theorem PBG_7 (h : p < e) (hz : sz = nsz (I p)) (hs : sz ≤ e - p) (hn : nsv I p = 0) (he : e ≤ p + sz) (hx : mx < (L.length : Int)) : PBG I at_ e ds wd mo mx W X r0 r1 r2 p L C = (7, at_, 0, W, C, X, r0, r1, r2) := by
  subst hz
  unfold PBG
  rw [if_pos h, if_neg (by omega), if_pos hn, if_neg (by omega), if_pos hx]
theorem PBG_0 (h : p < e) (hz : sz = nsz (I p)) (hs : sz ≤ e - p) (hn : nsv I p = 0) (he : e ≤ p + sz) (hx : (L.length : Int) ≤ mx) : PBG I at_ e ds wd mo mx W X r0 r1 r2 p L C = (0, 0, 0, W ++ L, C, X, r0, r1, r2) := by
  subst hz
  unfold PBG
  rw [if_pos h, if_neg (by omega), if_pos hn, if_neg (by omega), if_neg (by omega)]
theorem nsz_1 (h : x < 128) : nsz x = 1 := by rw [nsz_e]; exact if_pos h
theorem nsz_2 (h : 128 ≤ x) (h2 : x < 255) : nsz x = 2 := by rw [nsz_e]; unfold nsz0; rw [if_neg (by omega), if_pos h2]
theorem nsz_3 (h : 255 ≤ x) : nsz x = 3 := by rw [nsz_e]; unfold nsz0; rw [if_neg (by omega), if_neg (by omega)]
theorem nsv_1 (hx : I p = x) (h : x < 128) : nsv I p = x := by rw [nsv_e]; unfold nsv0; rw [hx, if_pos h]
theorem nsv_2 {y : Int} (hx : I p = x) (h : 128 ≤ x) (h2 : x < 255) (hy : I (p + 1) = y) : nsv I p = 256 * (x - 128) + y := by rw [nsv_e]; unfold nsv0; rw [hx, if_neg (by omega), if_pos h2, hy]
theorem nsv_3 {v : Int} (hx : I p = x) (h : 255 ≤ x) (hv : nvl I (p + 1) 2 = v) : nsv I p = v + 32512 := by rw [nsv_e]; unfold nsv0; rw [hx, if_neg (by omega), if_neg (by omega), hv]
end PKx

def bkK (I : Int → Int) (h : Int) : Int := nvl I h 3 / 2 % 4
def bkN (I : Int → Int) (h : Int) : Int := nvl I h 3 / 8
noncomputable def BLF (I : Int → Int) (h n ds wd mo mx : Int) (W : List Int) (C : Int × (Int → Int)) (X : Int → Tb) (r0 r1 r2 : Int) : BkR :=
  if bkK I h = 3 then (5, h, 0, W, C, X, r0, r1, r2) else if mo < bkN I h then (6, h, 0, W, C, X, r0, r1, r2)
  else if n - (h + 3) < (if bkK I h = 1 then 1 else bkN I h) then (1, n, 0, W, C, X, r0, r1, r2)
  else if bkK I h = 2 then PBF I (h + 3) (h + 3 + bkN I h) ds wd mo mx W C X r0 r1 r2
  else if mx < bkN I h then (7, h, 0, W, C, X, r0, r1, r2)
  else (0, 0, 0, W ++ (if bkK I h = 1 then List.replicate (bkN I h).toNat (I (h + 3)) else sc I (h + 3) (h + 3 + bkN I h)), C, X, r0, r1, r2)
section BLx
variable {I : Int → Int} {h n ds wd mo mx r0 r1 r2 k m b e : Int} {W A : List Int} {C : Int × (Int → Int)} {X : Int → Tb}
theorem BL_5 (hk : bkK I h = 3) : BLF I h n ds wd mo mx W C X r0 r1 r2 = (5, h, 0, W, C, X, r0, r1, r2) := if_pos hk
theorem BL_6 (hk : bkK I h ≠ 3) (hm : mo < bkN I h) : BLF I h n ds wd mo mx W C X r0 r1 r2 = (6, h, 0, W, C, X, r0, r1, r2) := by
  unfold BLF
  rw [if_neg hk, if_pos hm]
theorem BL_1 (hk : bkK I h ≠ 3) (hm : bkN I h ≤ mo) (hb : bkK I h = 1 ∧ b = 1 ∨ bkK I h ≠ 1 ∧ b = bkN I h) (hs : n - (h + 3) < b) : BLF I h n ds wd mo mx W C X r0 r1 r2 = (1, n, 0, W, C, X, r0, r1, r2) := by
  unfold BLF
  rw [if_neg hk, if_neg (by omega)]
  rcases hb with ⟨a, c⟩ | ⟨a, c⟩
  · rw [if_pos a]; exact if_pos (by omega)
  · rw [if_neg a]; exact if_pos (by omega)
theorem BL_2 (hm : bkN I h ≤ mo) (hk : bkK I h = 2) (hs : bkN I h ≤ n - (h + 3)) (he : e = h + 3 + bkN I h) : BLF I h n ds wd mo mx W C X r0 r1 r2 = PBF I (h + 3) e ds wd mo mx W C X r0 r1 r2 := by
  subst he
  unfold BLF
  rw [if_neg (by omega), if_neg (by omega), if_neg (show ¬ bkK I h = 1 by omega), if_neg (by omega), if_pos hk]
theorem BL_7 (hk : bkK I h ≠ 3 ∧ bkK I h ≠ 2) (hm : bkN I h ≤ mo) (hb : bkK I h = 1 ∧ b = 1 ∨ bkK I h ≠ 1 ∧ b = bkN I h) (hs : b ≤ n - (h + 3)) (hx : mx < bkN I h) : BLF I h n ds wd mo mx W C X r0 r1 r2 = (7, h, 0, W, C, X, r0, r1, r2) := by
  unfold BLF
  rw [if_neg hk.1, if_neg (by omega)]
  rcases hb with ⟨a, c⟩ | ⟨a, c⟩
  · rw [if_pos a, if_neg (by omega), if_neg hk.2]; exact if_pos hx
  · rw [if_neg a, if_neg (by omega), if_neg hk.2]; exact if_pos hx
theorem BL_0 (hk : bkK I h ≠ 3 ∧ bkK I h ≠ 2) (hm : bkN I h ≤ mo) (hb : bkK I h = 1 ∧ b = 1 ∧ A = List.replicate (bkN I h).toNat (I (h + 3)) ∨ bkK I h ≠ 1 ∧ b = bkN I h ∧ A = sc I (h + 3) (h + 3 + bkN I h)) (hs : b ≤ n - (h + 3)) (hx : bkN I h ≤ mx) : BLF I h n ds wd mo mx W C X r0 r1 r2 = (0, 0, 0, W ++ A, C, X, r0, r1, r2) := by
  unfold BLF
  rw [if_neg hk.1, if_neg (by omega)]
  rcases hb with ⟨a, c, d⟩ | ⟨a, c, d⟩
  · rw [if_pos a, if_neg (by omega), if_neg hk.2, if_neg (by omega), if_pos a, ← d]
  · rw [if_neg a, if_neg (by omega), if_neg hk.2, if_neg (by omega), if_neg a, ← d]
end BLx


end
section
/-! 18k -/
theorem nm_nvl {I : Int → Int} (hB : ∀ i, 0 ≤ I i ∧ I i ≤ 255) : ∀ (n : Nat) {a : Int}, nm I a n = nvl I a n
  | 0, _ => rfl
  | n + 1, a => by
    show I a + 256 * nm I (a + 1) n = u8 (I a) + 256 * nvl I (a + 1) n
    rw [nm_nvl hB n, u8_id (hB a)]
theorem nvl_lt {I : Int → Int} {a n : Int} (hn : 0 ≤ n ∧ n ≤ 7) : 0 ≤ nvl I a n.toNat ∧ (n ≤ 4 → nvl I a n.toNat ≤ 4294967295) ∧ (n ≤ 3 → nvl I a n.toNat ≤ 16777215) ∧ (n ≤ 2 → nvl I a n.toNat ≤ 65535) ∧ (n ≤ 1 → nvl I a n.toNat ≤ 255) ∧ (n = 0 → nvl I a n.toNat = 0) ∧ (n ≤ 5 → nvl I a n.toNat ≤ 1099511627775) := by
  have w := nvl_rng (f := I) (n := n.toNat) (a := a)
  rw [show ((n.toNat : Nat) : Int) = n by omega] at w
  have m : ∀ k, n ≤ k → p2 (8 * n) ≤ p2 (8 * k) := fun k h => p2_mono (by omega)
  refine ⟨w.1, fun h => ?_, fun h => ?_, fun h => ?_, fun h => ?_, fun h => ?_, fun h => ?_⟩
  · have := m 4 h; rw [show p2 (8 * 4) = 4294967296 by decide] at this; omega
  · have := m 3 h; rw [show p2 (8 * 3) = 16777216 by decide] at this; omega
  · have := m 2 h; rw [show p2 (8 * 2) = 65536 by decide] at this; omega
  · have := m 1 h; rw [show p2 (8 * 1) = 256 by decide] at this; omega
  · have := m 0 (by omega); rw [show p2 (8 * 0) = 1 by decide] at this; omega
  · have := m 5 h; rw [show p2 (8 * 5) = 1099511627776 by decide] at this; omega
theorem nmb_all {I : Int → Int} {a n r : Int} (hB : ∀ i, 0 ≤ I i ∧ I i ≤ 255) (h : r = nmb I a n n.toNat) (hn : 0 ≤ n ∧ n ≤ 8) (hr : inrJ r) : (n = 8 ∨ r = nm I a n.toNat) ∧ (0 ≤ r ∨ n = 8) ∧ (n ≤ 4 → r ≤ 4294967295) ∧ (n ≤ 3 → r ≤ 16777215) ∧ (n ≤ 2 → r ≤ 65535) ∧ (n ≤ 1 → r ≤ 255) ∧ (n = 0 → r = 0) ∧ (n ≤ 5 → r ≤ 1099511627775) := by
  by_cases c : n = 8
  · refine ⟨.inl c, .inr c, ?_, ?_, ?_, ?_, ?_, ?_⟩ <;> intro q <;> omega
  · have e := nmb_nn h (by omega) hr
    obtain ⟨w0, w1, w2, w3, w4, w5, w6⟩ := nvl_lt (I := I) (a := a) (n := n) (by omega)
    rw [← e] at w0 w1 w2 w3 w4 w5 w6
    exact ⟨.inr (by rw [e, nm_nvl hB]), .inl w0, w1, w2, w3, w4, w5, w6⟩

def RTL (sy bi ba or_ : Int → Int) (t : Int) (X : Tb) : Prop := or_ t = X.1 ∧ (X.1 < 0 ∨ TLK sy bi ba (512 * t) X)
def RTA (sy bi ba or_ : Int → Int) (X : Int → Tb) : Prop := ∀ t, 0 ≤ t → t < 3 → RTL sy bi ba or_ t (X t)
theorem LO_p {L : Int} (h : LO L) : p2 L ≤ 512 := by
  rcases h with h | ⟨_, h⟩
  · rw [h]; decide
  · have := p2_mono h
    rw [show p2 9 = 512 by decide] at this
    exact this
theorem RTL_frm {sy bi ba or_ sy' bi' ba' or' : Int → Int} {t j : Int} {X : Tb} (h : RTL sy bi ba or_ j X) (f1 : FRM sy sy' (512 * t) (512 * t + 512)) (f2 : FRM bi bi' (512 * t) (512 * t + 512)) (f3 : FRM ba ba' (512 * t) (512 * t + 512)) (f4 : FRM or_ or' t (t + 1)) (hj : j ≠ t) : RTL sy' bi' ba' or' j X := by
  obtain ⟨a, b⟩ := h
  refine ⟨by rw [f4 j (by omega)]; exact a, ?_⟩
  rcases b with b | ⟨b1, b2⟩
  · exact .inl b
  · refine .inr ⟨b1, fun k k0 k1 => ?_⟩
    have := LO_p b1
    rw [b2 k k0 k1, f1 (512 * j + k) (by omega), f2 (512 * j + k) (by omega), f3 (512 * j + k) (by omega)]

def T3A (R : Int × Int × Int × (Int → Tb)) (ret fault wh at_ : Int) (sy bi ba or_ : Int → Int) : Prop := (ret = 0 ∧ R.1 ≠ 0 ∧ fault = R.1 ∧ wh = R.2.1) ∨ (ret = 1 ∧ R.1 = 0 ∧ at_ = R.2.2.1 ∧ RTA sy bi ba or_ R.2.2.2)
theorem T3A_f {R : Int × Int × Int × (Int → Tb)} {ret fault wh at_ f p q : Int} {Y : Int → Tb} {sy bi ba or_ : Int → Int} (h : R = (f, p, q, Y)) (hf : f ≠ 0) (hr : ret = 0) (e1 : fault = f) (e2 : wh = p) : T3A R ret fault wh at_ sy bi ba or_ := by
  subst h
  exact .inl ⟨hr, hf, e1, e2⟩

def T3I (R : Int × Int × Int × (Int → Tb)) (I : Int → Int) (e ma m t at_ : Int) (sy bi ba or_ : Int → Int) : Prop := ∃ X, RTA sy bi ba or_ X ∧ R = T3n I e ma m (3 - t).toNat t at_ X
section T3Ix
variable {R : Int × Int × Int × (Int → Tb)} {I : Int → Int} {e ma m t at_ mode q t2 f p ret fault wh : Int} {sy bi ba or_ sy' bi' ba' or' : Int → Int} {Y : Tb}
theorem T3I_s (h : T3I R I e ma m t at_ sy bi ba or_) (ht : 0 ≤ t ∧ t < 3) (hm : mode = mdF m t) (hT : ∀ Z : Tb, T1F I e ma t mode at_ Z = (0, 0, q, Y)) (hR : RTL sy' bi' ba' or' t Y) (f1 : FRM sy sy' (512 * t) (512 * t + 512)) (f2 : FRM bi bi' (512 * t) (512 * t + 512)) (f3 : FRM ba ba' (512 * t) (512 * t + 512)) (f4 : FRM or_ or' t (t + 1)) (e2 : t2 = t + 1) : T3I R I e ma m t2 q sy' bi' ba' or' := by
  obtain ⟨X, a, b⟩ := h
  subst hm e2
  refine ⟨fun j => if j = t then Y else X j, fun j j0 j1 => ?_, ?_⟩
  · show RTL sy' bi' ba' or' j (if j = t then Y else X j)
    by_cases c : j = t
    · rw [if_pos c, c]; exact hR
    · rw [if_neg c]; exact RTL_frm (a j j0 j1) f1 f2 f3 f4 c
  · rw [b, show (3 - t).toNat = (3 - (t + 1)).toNat + 1 by omega]
    exact T3_s (hT (X t)) rfl rfl
theorem T3I_f (h : T3I R I e ma m t at_ sy bi ba or_) (ht : 0 ≤ t ∧ t < 3) (hm : mode = mdF m t) (hT : ∀ Z : Tb, T1F I e ma t mode at_ Z = bad4 f p Z) (hf : f ≠ 0) (hr : ret = 0) (e1 : fault = f) (e2 : wh = p) : T3A R ret fault wh q sy' bi' ba' or' := by
  obtain ⟨X, a, b⟩ := h
  subst hm
  refine T3A_f (q := 0) (Y := X) ?_ hf hr e1 e2
  rw [b, show (3 - t).toNat = (3 - (t + 1)).toNat + 1 by omega]
  exact T3_f (hT (X t)) hf
theorem T3I_3 (h : T3I R I e ma m t at_ sy bi ba or_) (ht : 0 ≤ t ∧ t < 3) (hm : mode = mdF m t) (h3 : mode = 3) (ho : 0 ≤ or_ t) (e2 : t2 = t + 1) : T3I R I e ma m t2 at_ sy bi ba or_ := by
  obtain ⟨X, a, b⟩ := h
  subst hm e2
  have k := T1_3y (I := I) (e := e) (ma := ma) (t := t) (at_ := at_) (X := X t) h3 (by rw [← (a t ht.1 ht.2).1]; exact ho)
  refine ⟨fun j => if j = t then X t else X j, fun j j0 j1 => ?_, ?_⟩
  · show RTL sy bi ba or_ j (if j = t then X t else X j)
    by_cases c : j = t
    · rw [if_pos c, c]; exact a t ht.1 ht.2
    · rw [if_neg c]; exact a j j0 j1
  · rw [b, show (3 - t).toNat = (3 - (t + 1)).toNat + 1 by omega]
    exact T3_s k rfl rfl
theorem T3I_3f (h : T3I R I e ma m t at_ sy bi ba or_) (ht : 0 ≤ t ∧ t < 3) (hm : mode = mdF m t) (h3 : mode = 3) (ho : or_ t < 0) (hr : ret = 0) (e1 : fault = 16) (e2 : wh = ma) : T3A R ret fault wh q sy' bi' ba' or' := by
  obtain ⟨X, a, b⟩ := h
  subst hm
  have k := T1_3n (I := I) (e := e) (ma := ma) (t := t) (at_ := at_) (X := X t) h3 (by rw [← (a t ht.1 ht.2).1]; exact ho)
  refine T3A_f (q := 0) (Y := X) ?_ (by decide) hr e1 e2
  rw [b, show (3 - t).toNat = (3 - (t + 1)).toNat + 1 by omega]
  exact T3_f k (by decide)
theorem T3I_e (h : T3I R I e ma m t at_ sy bi ba or_) (ht : t = 3) (hr : ret = 1) : T3A R ret fault wh at_ sy bi ba or_ := by
  obtain ⟨X, a, b⟩ := h
  subst ht
  have b : R = (0, 0, at_, X) := b
  subst b
  exact .inr ⟨hr, rfl, rfl, a⟩
end T3Ix
theorem T3I_0 {I : Int → Int} {e m q at_ : Int} {X : Int → Tb} {sy bi ba or_ : Int → Int} (h : RTA sy bi ba or_ X) (hs : at_ < e) (hv : I at_ = m) (hm : m % 4 = 0) (hq : q = at_ + 1) : T3I (T3F I at_ e X) I e at_ m 0 q sy bi ba or_ := ⟨X, h, T3_0 hs hv hm hq⟩

theorem RTL_LD {P sy bi ba or_ : Int → Int} {L n t : Int} {Q : Int → Int} (h : LD P 64 L (sh sy (512 * t)) (sh bi (512 * t)) (sh ba (512 * t))) (hL : 5 ≤ L ∧ L ≤ 9) (ho : or_ t = L) (hn : 0 ≤ n ∧ n ≤ 64) (e : ∀ i, 0 ≤ i → i < n → Q i = P i) (z : ∀ i, n ≤ i → i < 64 → P i = 0) : RTL sy bi ba or_ t (L, n, Q) := ⟨ho, .inr (TLK_LD h hL hn e z)⟩
theorem RTL_1 {sy bi ba or_ : Int → Int} {t n s : Int} (hs : 0 ≤ s ∧ s < n) (ho : or_ t = 0) (h1 : sy (512 * t) = s) (h2 : bi (512 * t) = 0) (h3 : ba (512 * t) = 0) : RTL sy bi ba or_ t (0, n, on0 s) := by
  refine ⟨ho, .inr ⟨.inl rfl, fun k k0 k1 => ?_⟩⟩
  have k1 : k < p2 0 := k1
  rw [show p2 0 = 1 by decide] at k1
  have ek : k = 0 := by omega
  subst ek
  rw [Int.add_zero, h1, h2, h3]
  exact tsF_e (X := (0, n, on0 s)) (.inl rfl) (by show 0 ≤ n; omega) (by decide) (by show (0 : Int) < p2 0; decide) (TST_one hs.1 hs.2)
theorem KK_z {t i : Int} (ht : 0 ≤ t ∧ t < 3) (h : KNn t ≤ i) (h2 : i < 64) : KK t i = 0 := by
  have q0 : (List.range 64).all (fun i => decide ((i : Int) < 36) || decide (K0 i = 0)) = true := by decide +kernel
  have q1 : (List.range 64).all (fun i => decide ((i : Int) < 29) || decide (K1 i = 0)) = true := by decide +kernel
  have q2 : (List.range 64).all (fun i => decide ((i : Int) < 53) || decide (K2 i = 0)) = true := by decide +kernel
  have b : ∀ t, 0 ≤ KNn t := fun t => by unfold KNn; split <;> (try split) <;> decide
  have b := b t
  rcases (show t = 0 ∨ t = 1 ∨ t = 2 by omega) with e | e | e <;> subst e
  · have h : (36 : Int) ≤ i := h
    have := List.all_eq_true.mp q0 i.toNat (List.mem_range.mpr (by omega))
    rw [Int.toNat_of_nonneg (by omega)] at this
    have this : i < 36 ∨ K0 i = 0 := by simpa using this
    show K0 i = 0
    omega
  · have h : (29 : Int) ≤ i := h
    have := List.all_eq_true.mp q1 i.toNat (List.mem_range.mpr (by omega))
    rw [Int.toNat_of_nonneg (by omega)] at this
    have this : i < 29 ∨ K1 i = 0 := by simpa using this
    show K1 i = 0
    omega
  · have h : (53 : Int) ≤ i := h
    have := List.all_eq_true.mp q2 i.toNat (List.mem_range.mpr (by omega))
    rw [Int.toNat_of_nonneg (by omega)] at this
    have this : i < 53 ∨ K2 i = 0 := by simpa using this
    show K2 i = 0
    omega
theorem KNn_r (t : Int) : 29 ≤ KNn t ∧ KNn t ≤ 53 := by
  unfold KNn
  split
  · decide
  · split <;> decide
theorem RTL_K {P sy bi ba or_ : Int → Int} {L t : Int} (h : LD P 64 L (sh sy (512 * t)) (sh bi (512 * t)) (sh ba (512 * t))) (ht : 0 ≤ t ∧ t < 3) (hL : L = if t = 1 then 5 else 6) (ho : or_ t = L) (e : ∀ i, 0 ≤ i → i < 64 → P i = KK t i) : RTL sy bi ba or_ t (KNX t) := by
  have r := KNn_r t
  have k := RTL_LD (n := KNn t) (Q := KK t) (or_ := or_) h (by rw [hL]; split <;> decide) ho (by omega) (fun i a b => (e i a (by omega)).symm) (fun i a b => by rw [e i (by omega) b]; exact KK_z ht a b)
  unfold KNX
  rw [← hL]
  exact k
theorem SH_z {g : Int → Int} {o l : Int} (h : SH g 0 64 o l) : ∀ i, l + 1 ≤ i → i < 64 → 0 ≤ i → g i = 0 := fun i a b c => by
  have := h.2.2.2.1 i (by omega) b c
  rw [Int.zero_add] at this
  exact this
theorem RTL_S {P sy bi ba or_ d : Int → Int} {L t : Int} {R : Int × Int × Int × (Int → Int)} (h : LD P 64 L (sh sy (512 * t)) (sh bi (512 * t)) (sh ba (512 * t))) (hs : SH d 0 64 L (lastOf t)) (hp : ∀ k, 0 ≤ k → k < 64 → P k = d k) (ho : or_ t = L) (e : ∀ i, 0 ≤ i → i < 256 → d i = R.2.2.2 i) (eo : L = R.2.1) : RTL sy bi ba or_ t (R.2.1, lastOf t + 1, R.2.2.2) := by
  have l := lastOf_eq t
  subst eo
  exact RTL_LD h ⟨hs.1, hs.2.1⟩ ho (by omega) (fun i a b => by rw [← e i a (by omega), hp i a (by omega)]) (fun i a b => by rw [hp i (by omega) b]; exact SH_z hs i (by omega) b (by omega))

theorem dsF_i {v li r0 r1 r2 w d g0 g1 g2 : Int} (hw : li = 0 ∧ w = v + 1 ∨ li ≠ 0 ∧ w = v) (h : (3 < v ∧ d = v - 3 ∧ g0 = d ∧ g1 = r0 ∧ g2 = r1) ∨ (v ≤ 3 ∧ w = 1 ∧ d = r0 ∧ g0 = r0 ∧ g1 = r1 ∧ g2 = r2) ∨ (v ≤ 3 ∧ w = 2 ∧ d = r1 ∧ g0 = d ∧ g1 = r0 ∧ g2 = r2) ∨ (v ≤ 3 ∧ w = 3 ∧ d = r2 ∧ g0 = d ∧ g1 = r0 ∧ g2 = r1) ∨ (v ≤ 3 ∧ 3 < w ∧ d = r0 - 1 ∧ g0 = d ∧ g1 = r0 ∧ g2 = r1)) : dsF v li r0 r1 r2 = (d, g0, g1, g2) := by
  rcases h with ⟨a, b, c, e, f⟩ | ⟨a, x, b, c, e, f⟩ | ⟨a, x, b, c, e, f⟩ | ⟨a, x, b, c, e, f⟩ | ⟨a, x, b, c, e, f⟩
  · rw [dsF_4 a, c, e, f, b]
  · rw [dsF_1 a hw x, b, c, e, f]
  · rw [dsF_2 a hw x, c, e, f, b]
  · rw [dsF_3 a hw x, c, e, f, b]
  · rw [dsF_5 a hw x, c, e, f, b]
theorem dsF_A {w : Int → Int} {v li d q a b : Int} (hq : li = 0 ∧ q = v + 1 ∨ li ≠ 0 ∧ q = v) (ha : w 1 = a) (hb : w 0 = b) (h : (3 < v ∧ d = v - 3) ∨ (v ≤ 3 ∧ q = 3 ∧ d = w 2) ∨ (v ≤ 3 ∧ 3 < q ∧ d = b - 1)) : dsF v li (w 0) (w 1) (w 2) = (d, (upd1 (upd1 (upd1 w 2 a) 1 b) 0 d) 0, (upd1 (upd1 (upd1 w 2 a) 1 b) 0 d) 1, (upd1 (upd1 (upd1 w 2 a) 1 b) 0 d) 2) := by
  rw [upd1_s, show (upd1 (upd1 (upd1 w 2 a) 1 b) 0 d) 1 = b from (upd1_o (by decide)).trans upd1_s, show (upd1 (upd1 (upd1 w 2 a) 1 b) 0 d) 2 = a from (upd1_o (by decide)).trans ((upd1_o (by decide)).trans upd1_s)]
  exact dsF_i (w := q) hq (by omega)
theorem dsF_B {w : Int → Int} {v li d q b : Int} (hq : li = 0 ∧ q = v + 1 ∨ li ≠ 0 ∧ q = v) (hb : w 0 = b) (h1 : v ≤ 3) (h2 : q = 2) (h : d = w 1) : dsF v li (w 0) (w 1) (w 2) = (d, (upd1 (upd1 w 1 b) 0 d) 0, (upd1 (upd1 w 1 b) 0 d) 1, (upd1 (upd1 w 1 b) 0 d) 2) := by
  rw [upd1_s, show (upd1 (upd1 w 1 b) 0 d) 1 = b from (upd1_o (by decide)).trans upd1_s, show (upd1 (upd1 w 1 b) 0 d) 2 = w 2 from (upd1_o (by decide)).trans (upd1_o (by decide))]
  exact dsF_i (w := q) hq (by omega)
theorem lt_A {w : Int → Int} {d a b : Int} (ha : w 1 = a) (hb : w 0 = b) (hl : 1 ≤ w 0 ∧ 1 ≤ w 1 ∧ 1 ≤ w 2) (hd : 0 ≤ d) : d = 0 ∨ 1 ≤ (upd1 (upd1 (upd1 w 2 a) 1 b) 0 d) 0 ∧ 1 ≤ (upd1 (upd1 (upd1 w 2 a) 1 b) 0 d) 1 ∧ 1 ≤ (upd1 (upd1 (upd1 w 2 a) 1 b) 0 d) 2 := by
  rw [upd1_s, show (upd1 (upd1 (upd1 w 2 a) 1 b) 0 d) 1 = b from (upd1_o (by decide)).trans upd1_s, show (upd1 (upd1 (upd1 w 2 a) 1 b) 0 d) 2 = a from (upd1_o (by decide)).trans ((upd1_o (by decide)).trans upd1_s)]
  omega
theorem lt_B {w : Int → Int} {d b : Int} (hb : w 0 = b) (hl : 1 ≤ w 0 ∧ 1 ≤ w 1 ∧ 1 ≤ w 2) (hd : 0 ≤ d) : d = 0 ∨ 1 ≤ (upd1 (upd1 w 1 b) 0 d) 0 ∧ 1 ≤ (upd1 (upd1 w 1 b) 0 d) 1 ∧ 1 ≤ (upd1 (upd1 w 1 b) 0 d) 2 := by
  rw [upd1_s, show (upd1 (upd1 w 1 b) 0 d) 1 = b from (upd1_o (by decide)).trans upd1_s, show (upd1 (upd1 w 1 b) 0 d) 2 = w 2 from (upd1_o (by decide)).trans (upd1_o (by decide))]
  omega
def wnF0 (v : Int) : Int := if v < 0 then 4611686018427387904 else v
theorem wnF_x : ∃ g : Int → Int, g = wnF0 := ⟨_, rfl⟩
noncomputable def wnF : Int → Int := Classical.choose wnF_x
theorem wnF_e : wnF = wnF0 := Classical.choose_spec wnF_x
theorem wnF_eq (v : Int) : v < 0 ∧ wnF v = 4611686018427387904 ∨ 0 ≤ v ∧ wnF v = v := by
  rw [wnF_e]
  unfold wnF0
  split <;> omega

theorem WD_s {D C lit : Int → Int} {ds b h u k v h2 u2 : Int} {Z : List Int} (e : sc D 0 ds ++ sc C b h = Z ++ sc lit u (u + k)) (hb : b ≤ h) (hk : 0 ≤ k) (hv : lit (u + k) = v) (e1 : h2 = h + 1) (e2 : u2 = u + (k + 1)) : sc D 0 ds ++ sc (upd1 C h v) b h2 = Z ++ sc lit u u2 := by
  rw [sc_snoc hb e1, upd1_s, sc_same (g := C) (fun i x y => upd1_o (by omega)), ← List.append_assoc, e, sc_snoc (a := u) (b := u + k) (c := u2) (by omega) (by omega), hv, List.append_assoc]


end
section
/-! 18l -/
theorem nvl2_r {I : Int → Int} {a : Int} : 0 ≤ nvl I a 2 ∧ nvl I a 2 ≤ 65535 := by
  obtain ⟨w0, _, _, w3, _⟩ := nvl_lt (I := I) (a := a) (n := 2) (by omega)
  exact ⟨w0, w3 (by omega)⟩
theorem DCA_0 {I G : Int → Int} {a e T n ret : Int} {A B : List Int} (h : DCA I G a e T n A ret B) (hr : ret = 0) : (DCF I G a e T n A).1 = 0 := by
  rcases h with ⟨_, y⟩ | ⟨x, _⟩
  · exact y
  · omega
theorem DCA_1 {I G : Int → Int} {a e T n ret : Int} {A B : List Int} (h : DCA I G a e T n A ret B) (hr : ret = 1) : DCF I G a e T n A = (1, B) := by
  rcases h with ⟨x, _⟩ | ⟨_, y⟩
  · omega
  · exact y

def SIR (R : Int × Int × List Int) (I G : Int → Int) (T n m c nb_ e i at_ : Int) (A : List Int) : Prop := 0 ≤ i ∧ i ≤ m ∧ R = STN I G T n m c nb_ e (m - i).toNat i at_ A
section STIx
variable {R : Int × Int × List Int} {I G : Int → Int} {T n m c nb_ e i at_ en cnt i2 : Int} {A B : List Int}
theorem SIR_s (h : SIR R I G T n m c nb_ e i at_ A) (hi : i < m) (hn : i = m - 1 ∧ en = e ∧ cnt = n - i * c ∨ i ≠ m - 1 ∧ en = at_ + nvl I (nb_ + 2 * i) 2 ∧ cnt = c) (k : DCF I G at_ en T cnt A = (1, B)) (e2 : i2 = i + 1) : SIR R I G T n m c nb_ e i2 en B := by
  obtain ⟨a, b, d⟩ := h
  subst e2
  refine ⟨by omega, by omega, ?_⟩
  rw [d, show (m - i).toNat = (m - (i + 1)).toNat + 1 by omega]
  exact STN_s hn k
theorem SIR_f (h : SIR R I G T n m c nb_ e i at_ A) (hi : i < m) (hn : i = m - 1 ∧ en = e ∧ cnt = n - i * c ∨ i ≠ m - 1 ∧ en = at_ + nvl I (nb_ + 2 * i) 2 ∧ cnt = c) (k : (DCF I G at_ en T cnt A).1 = 0) : R = (0, at_, []) := by
  obtain ⟨a, b, d⟩ := h
  rw [d, show (m - i).toNat = (m - (i + 1)).toNat + 1 by omega]
  exact STN_f hn k
theorem SIR_e (h : SIR R I G T n m c nb_ e i at_ A) (hi : i = m) : R = (1, 0, A) := by
  obtain ⟨a, b, d⟩ := h
  rw [d, hi, show (m - m).toNat = 0 by omega]
  rfl
end STIx

def STA (R : Int × Int × List Int) (ret fault wh : Int) (B : List Int) : Prop := (ret = 0 ∧ R.1 = 0 ∧ fault = 14 ∧ wh = R.2.1) ∨ (ret = 1 ∧ R = (1, 0, B))
theorem STA_f {R : Int × Int × List Int} {ret fault wh p : Int} {A B : List Int} (h : R = (0, p, A)) (hr : ret = 0) (e1 : fault = 14) (e2 : wh = p) : STA R ret fault wh B := by
  subst h
  exact .inl ⟨hr, rfl, e1, e2⟩
theorem STA_y {R : Int × Int × List Int} {ret fault wh : Int} {B : List Int} (h : R = (1, 0, B)) (hr : ret = 1) : STA R ret fault wh B := .inr ⟨hr, h⟩
theorem STF_l1 {I G : Int → Int} {T n l p e : Int} (h : l ≠ 0) : STF I G T n l p e = STF I G T n 1 p e := by
  unfold STF
  rw [if_neg h, if_neg (show ¬ (1 : Int) = 0 by decide)]

def RCO (T : Int) (G le ce : Int → Int) : Prop := T = 0 ∨ CI G T ∧ (∀ i, 0 ≤ i → i < 256 → le i = G i) ∧ fl ce (p2 T) = CELS G T
def LTA (R : LtR) (ret fault wh at_ : Int) (lit : List Int) (T : Int) (le ce : Int → Int) : Prop := (ret = 0 ∧ R.1 ≠ 0 ∧ fault = R.1 ∧ wh = R.2.1) ∨ (ret = 1 ∧ R.1 = 0 ∧ at_ = R.2.2.1 ∧ lit = R.2.2.2.1 ∧ T = R.2.2.2.2.1 ∧ RCO T R.2.2.2.2.2 le ce)
theorem LTA_f {R : LtR} {ret fault wh at_ T f p : Int} {lit : List Int} {le ce : Int → Int} (h : R = badL f p) (hf : f ≠ 0) (hr : ret = 0) (e1 : fault = f) (e2 : wh = p) : LTA R ret fault wh at_ lit T le ce := by
  subst h
  exact .inl ⟨hr, hf, e1, e2⟩
theorem LTA_y {R : LtR} {ret fault wh at_ T p f T2 : Int} {lit L : List Int} {G le ce : Int → Int} (h : R = (0, f, p, L, T2, G)) (hr : ret = 1) (e1 : at_ = p) (e2 : lit = L) (e3 : T = T2) (hc : RCO T G le ce) : LTA R ret fault wh at_ lit T le ce := by
  subst h
  exact .inr ⟨hr, rfl, e1, e2, e3, hc⟩
def LT5 (R : LtR) (I : Int → Int) (p to l n T : Int) (le ce : Int → Int) : Prop := ∃ G2, R = LT3 I p to l n T G2 ∧ CI G2 T ∧ (∀ i, 0 ≤ i → i < 256 → le i = G2 i) ∧ fl ce (p2 T) = CELS G2 T
theorem LT5_k {R : LtR} {I G le ce : Int → Int} {p to l n T : Int} (h : R = LT3 I p to l n T G) (hc : RCO T G le ce) (h0 : T ≠ 0) : LT5 R I p to l n T le ce := by
  rcases hc with hc | ⟨a, b, c⟩
  · exact absurd hc h0
  · exact ⟨G, h, a, b, c⟩
theorem DSA_1 {I g : Int → Int} {a e ret T : Int} (h : DSA I a e ret T g) (hr : ret ≠ -1) : DSF I a e = (1, ret, T, (DSF I a e).2.2.2) ∧ ∀ i, 0 ≤ i → i < 256 → g i = (DSF I a e).2.2.2 i := by
  rcases h with ⟨_, y⟩ | ⟨x, y, z, w⟩
  · exact absurd y hr
  · exact ⟨Prod.ext x (Prod.ext y.symm (Prod.ext z.symm rfl)), w⟩
theorem DSF_end {I : Int → Int} {a e : Int} (hB : ∀ i, 0 ≤ I i ∧ I i ≤ 255) (h : (DSF I a e).1 = 1) : a < (DSF I a e).2.1 ∧ (DSF I a e).2.1 ≤ e := by
  unfold DSF at h ⊢
  by_cases c : e ≤ a ∨ e < dEn I a ∨ (dWt I a).1 = -1 ∨ (CMF (dWt I a).1 (dWt I a).2).1 = 0
  · rw [if_pos c] at h
    exact absurd h (show ¬ (0 : Int) = 1 by decide)
  · rw [if_neg c]
    have r := hB a
    have d : a < dEn I a := by
      by_cases q : 127 < I a
      · rw [dEn_1 q]; omega
      · rw [dEn_0 (by omega)]; omega
    show a < dEn I a ∧ dEn I a ≤ e
    omega
theorem DSA_n1 {I g : Int → Int} {a e T : Int} (hB : ∀ i, 0 ≤ I i ∧ I i ≤ 255) (ha : 0 ≤ a) (h : DSA I a e (-1) T g) : (DSF I a e).1 = 0 := by
  rcases h with ⟨x, _⟩ | ⟨x, y, _⟩
  · exact x
  · have := DSF_end hB x
    omega
theorem LT5_d {R : LtR} {I G le ce : Int → Int} {at_ e mo T0 kind l b n fo p to q T : Int} (h : R = LT2 I at_ e mo T0 G kind l b n fo) (h1 : b ≤ e - at_) (hn : ¬ (mo < n ∨ 0 < l ∧ n < 3 * ((n + 3) / 4))) (hs : fo ≤ e - (at_ + b)) (h3 : kind = 2) (hp : p = at_ + b) (ht : to = at_ + b + fo) (hd : DSA I p to q T le) (hq : q ≠ -1) (hc : CI le T) (hf : fl ce (p2 T) = CELS le T) : LT5 R I q to l n T le ce := by
  obtain ⟨d1, d2⟩ := DSA_1 hd hq
  refine ⟨(DSF I p to).2.2.2, ?_, CI_congr hc (fun i a b => (d2 i a b).symm), d2, by rw [hf]; exact CELS_c d2⟩
  rw [h]
  exact LT2_2 h1 hn hs h3 hp ht d1
theorem LT3_g {I G : Int → Int} {T n l p to : Int} (h : (STF I G T n l p to).1 = 0) : LT3 I p to l n T G = badL 14 (STF I G T n l p to).2.1 := if_pos h
theorem LL_0 {lit I : Int → Int} {k a v k2 q : Int} (h : sc lit 0 k = sc I a (a + k)) (hk : 0 ≤ k) (hv : I q = v) (hq : q = a + k) (hr : 0 ≤ v ∧ v ≤ 255) (e : k2 = k + 1) : sc (upd1 lit k v) 0 k2 = sc I a (a + k2) := by
  subst hq
  rw [sc_w hr hk e, h, sc_snoc (a := a) (b := a + k) (c := a + k2) (by omega) (by omega), hv, u8_id hr]
theorem LL_1 {lit : Int → Int} {k v k2 w : Int} (h : sc lit 0 k = List.replicate k.toNat w) (hk : 0 ≤ k) (hv : v = w) (hr : 0 ≤ v ∧ v ≤ 255) (e : k2 = k + 1) : sc (upd1 lit k v) 0 k2 = List.replicate k2.toNat w := by
  subst hv e
  rw [sc_w hr hk rfl, h, show (k + 1).toNat = k.toNat + 1 by omega, List.replicate_succ']

theorem bvA_c {I : Int → Int} {z q n st l m : Int} (h : z = bv I q n.toNat) (hq : q = st + l - m) (hn : n = m) : z = bvA I st l m := by
  subst hq hn
  exact h
def SQA (R : BkR) (ret fault wh dn dn2 : Int) (W : List Int) (sy bi ba or_ la : Int → Int) : Prop := dn2 = dn + R.2.2.1 ∧ W = R.2.2.2.1 ∧ ((ret = 0 ∧ R.1 ≠ 0 ∧ fault = R.1 ∧ wh = R.2.1) ∨ (ret = 1 ∧ R.1 = 0 ∧ RTA sy bi ba or_ R.2.2.2.2.2.1 ∧ la 0 = R.2.2.2.2.2.2.1 ∧ la 1 = R.2.2.2.2.2.2.2.1 ∧ la 2 = R.2.2.2.2.2.2.2.2))
section SQAx
variable {I : Int → Int} {at_ e ds wd mo mx n r0 r1 r2 f p q dn lf s0 s1 s2 used q0 q1 q2 left ret fault wh d0 d2 fl_ r l6 : Int} {X Y : Int → Tb} {L W W1 W2 : List Int} {C : Int × (Int → Int)} {sy bi ba or_ la : Int → Int} {R : BkR} {Z : Int → Tb}
theorem SQA_f (h : R = (f, p, dn, W1, C, Z, q0, q1, q2)) (hf : f ≠ 0) (hr : ret = 0) (e1 : fault = f) (e2 : wh = p) (e3 : d2 = d0 + dn) (e4 : W2 = W1) : SQA R ret fault wh d0 d2 W2 sy bi ba or_ la := by
  subst h
  exact ⟨e3, e4, .inl ⟨hr, hf, e1, e2⟩⟩
theorem SQA_t (h : T3F I at_ e X = (f, p, q, Y)) (hf : f ≠ 0) (hr : ret = 0) (e1 : fault = f) (e2 : wh = p) (e3 : d2 = d0) (e4 : W2 = W) : SQA (SEQF I at_ e L ds wd mo mx n W C X r0 r1 r2) ret fault wh d0 d2 W2 sy bi ba or_ la := SQA_f (SEQ_f h hf) hf hr e1 e2 (by omega) e4
theorem SQA_n (h : T3F I at_ e X = (0, p, q, Y)) (k : SQF I q e Y L ds wd mo mx n W r0 r1 r2 = (17, 0, W, r0, r1, r2)) (hr : ret = 0) (e1 : fault = 17) (e2 : wh = q) (e3 : d2 = d0) (e4 : W2 = W) : SQA (SEQF I at_ e L ds wd mo mx n W C X r0 r1 r2) ret fault wh d0 d2 W2 sy bi ba or_ la := SQA_f (SEQ_y h k) (by decide) hr e1 e2 (by omega) e4
theorem SQA_z (h : T3F I at_ e X = (0, p, q, Y)) (ho : OPS I q e 1 left) (hl : (Y 0).1 + (Y 1).1 + (Y 2).1 ≤ left) (hZ : SQs I q e Y L ds wd mo mx n W r0 r1 r2 = (f, dn, lf, s0, s1, s2, used, W1, q0, q1, q2)) (hR : SQe L mo mx (W.length : Int) f dn lf used W1 q0 q1 q2 = (fl_, dn, W1, q0, q1, q2)) (hf : fl_ ≠ 0) (hr : ret = 0) (e1 : fault = fl_) (e2 : wh = q) (e3 : d2 = d0 + dn) (e4 : W2 = W1) : SQA (SEQF I at_ e L ds wd mo mx n W C X r0 r1 r2) ret fault wh d0 d2 W2 sy bi ba or_ la := SQA_f (SEQ_y h (SQF_y ho hl hZ hR)) hf hr e1 e2 e3 e4
theorem SQA_y (h : T3F I at_ e X = (0, p, q, Y)) (ho : OPS I q e 1 left) (hl : (Y 0).1 + (Y 1).1 + (Y 2).1 ≤ left) (hZ : SQs I q e Y L ds wd mo mx n W r0 r1 r2 = (f, dn, lf, s0, s1, s2, used, W1, q0, q1, q2)) (hR : SQe L mo mx (W.length : Int) f dn lf used W1 q0 q1 q2 = (0, dn, W2, q0, q1, q2)) (hr : ret = 1) (e3 : d2 = d0 + dn) (hT : RTA sy bi ba or_ Y) (l0 : la 0 = q0) (l1 : la 1 = q1) (l2 : la 2 = q2) : SQA (SEQF I at_ e L ds wd mo mx n W C X r0 r1 r2) ret fault wh d0 d2 W2 sy bi ba or_ la := by
  rw [SEQ_y h (SQF_y ho hl hZ hR)]
  exact ⟨e3, rfl, .inr ⟨hr, rfl, hT, l0, l1, l2⟩⟩
end SQAx
theorem T3A_n {R : Int × Int × Int × (Int → Tb)} {ret fault wh at_ : Int} {sy bi ba or_ : Int → Int} (h : T3A R ret fault wh at_ sy bi ba or_) (hr : ret = 0) : ∃ f p q Y, R = (f, p, q, Y) ∧ f ≠ 0 ∧ fault = f ∧ wh = p := by
  rcases h with ⟨_, a, b, c⟩ | ⟨a, _⟩
  · exact ⟨R.1, R.2.1, R.2.2.1, R.2.2.2, rfl, a, b, c⟩
  · omega
theorem T3A_y {R : Int × Int × Int × (Int → Tb)} {ret fault wh at_ : Int} {sy bi ba or_ : Int → Int} (h : T3A R ret fault wh at_ sy bi ba or_) (hr : ret = 1) : ∃ p Y, R = (0, p, at_, Y) ∧ RTA sy bi ba or_ Y := by
  rcases h with ⟨a, _⟩ | ⟨_, a, b, c⟩
  · omega
  · exact ⟨R.2.1, R.2.2.2, Prod.ext a (Prod.ext rfl (Prod.ext b.symm rfl)), c⟩
theorem RTA_at {sy bi ba or_ : Int → Int} {Y : Int → Tb} {t k idx : Int} (h : RTA sy bi ba or_ Y) (ht : 0 ≤ t ∧ t < 3) (ho : 0 ≤ or_ t) (k0 : 0 ≤ k) (k1 : k < p2 (or_ t)) (e : idx = 512 * t + k) : tsF (Y t) k = (sy idx, bi idx, ba idx) := by
  obtain ⟨a, b⟩ := h t ht.1 ht.2
  rcases b with b | b
  · omega
  · rw [a] at k1
    exact TLK_at b k0 k1 e
theorem tsF_v {X : Tb} {k a b c x y z : Int} (h : tsF X k = (a, b, c)) (ha : a = x) (hb : b = y) (hc : c = z) : tsF X k = (x, y, z) := by rw [h, ha, hb, hc]

def PKA (R : BkR) (ret fault wh dn dn2 : Int) (W : List Int) (sy bi ba or_ la : Int → Int) (T : Int) (le ce : Int → Int) : Prop := SQA R ret fault wh dn dn2 W sy bi ba or_ la ∧ (ret = 1 → T = R.2.2.2.2.1.1 ∧ RCO T R.2.2.2.2.1.2 le ce)
section PKAx
variable {R R2 : BkR} {ret fault wh dn dn2 d0 d2 f p q0 q1 q2 T : Int} {W W1 W2 : List Int} {C : Int × (Int → Int)} {Z : Int → Tb} {sy bi ba or_ la le ce : Int → Int}
theorem PKA_f (h : R = (f, p, dn, W1, C, Z, q0, q1, q2)) (hf : f ≠ 0) (hr : ret = 0) (e1 : fault = f) (e2 : wh = p) (e3 : d2 = d0 + dn) (e4 : W2 = W1) : PKA R ret fault wh d0 d2 W2 sy bi ba or_ la T le ce := ⟨SQA_f h hf hr e1 e2 e3 e4, fun z => by omega⟩
theorem PKA_q (h : R = R2) (k : SQA R2 ret fault wh d0 d2 W2 sy bi ba or_ la) (hc : ret = 1 → T = R2.2.2.2.2.1.1 ∧ RCO T R2.2.2.2.2.1.2 le ce) : PKA R ret fault wh d0 d2 W2 sy bi ba or_ la T le ce := by
  subst h
  exact ⟨k, hc⟩
theorem PKA_e (h : R = R2) (k : PKA R2 ret fault wh d0 d2 W2 sy bi ba or_ la T le ce) : PKA R ret fault wh d0 d2 W2 sy bi ba or_ la T le ce := by
  subst h
  exact k
theorem PKA_y (h : R = (0, p, dn, W1, C, Z, q0, q1, q2)) (hr : ret = 1) (e3 : d2 = d0 + dn) (e4 : W2 = W1) (hT : RTA sy bi ba or_ Z) (l0 : la 0 = q0) (l1 : la 1 = q1) (l2 : la 2 = q2) (e5 : T = C.1) (hc : RCO T C.2 le ce) : PKA R ret fault wh d0 d2 W2 sy bi ba or_ la T le ce := by
  subst h
  exact ⟨⟨e3, e4, .inr ⟨hr, rfl, hT, l0, l1, l2⟩⟩, fun _ => ⟨e5, hc⟩⟩
end PKAx
theorem SEQF_C {I : Int → Int} {at_ e ds wd mo mx n r0 r1 r2 : Int} {L W : List Int} {C : Int × (Int → Int)} {X : Int → Tb} : (SEQF I at_ e L ds wd mo mx n W C X r0 r1 r2).2.2.2.2.1 = C := by
  unfold SEQF
  by_cases c : (T3F I at_ e X).1 ≠ 0
  · rw [if_pos c]
  · rw [if_neg c]
theorem PBF_g {I G : Int → Int} {at_ e ds wd mo mx T r0 r1 r2 : Int} {W : List Int} {X : Int → Tb} (h : (LTF I at_ e mo T G).1 ≠ 0) : PBF I at_ e ds wd mo mx W (T, G) X r0 r1 r2 = ((LTF I at_ e mo T G).1, (LTF I at_ e mo T G).2.1, 0, W, (T, G), X, r0, r1, r2) := if_pos h
theorem LTA_n {R : LtR} {ret fault wh at_ T : Int} {lit : List Int} {le ce : Int → Int} (h : LTA R ret fault wh at_ lit T le ce) (hr : ret = 0) : R.1 ≠ 0 ∧ fault = R.1 ∧ wh = R.2.1 := by
  rcases h with ⟨_, a, b, c⟩ | ⟨a, _⟩
  · exact ⟨a, b, c⟩
  · omega
theorem LTA_1 {R : LtR} {ret fault wh at_ T : Int} {lit : List Int} {le ce : Int → Int} (h : LTA R ret fault wh at_ lit T le ce) (hr : ret = 1) : ∃ x G, R = (0, x, at_, lit, T, G) ∧ RCO T G le ce := by
  rcases h with ⟨a, _⟩ | ⟨_, a, b, c, d, k⟩
  · omega
  · exact ⟨R.2.1, R.2.2.2.2.2, Prod.ext a (Prod.ext rfl (Prod.ext b.symm (Prod.ext c.symm (Prod.ext d.symm rfl)))), k⟩
theorem WD_r {D C : Int → Int} {ds b h k v w h2 k2 : Int} {Z : List Int} (e : sc D 0 ds ++ sc C b h = Z ++ List.replicate k.toNat w) (hb : b ≤ h) (hk : 0 ≤ k) (hv : v = w) (hr : 0 ≤ v ∧ v ≤ 255) (e1 : h2 = h + 1) (e2 : k2 = k + 1) : sc D 0 ds ++ sc (upd1 C h v) b h2 = Z ++ List.replicate k2.toNat w := by
  subst hv e2
  rw [sc_snoc hb e1, upd1_s, u8_id hr, sc_same (g := C) (fun i x y => upd1_o (by omega)), ← List.append_assoc, e, show (k + 1).toNat = k.toNat + 1 by omega, List.replicate_succ', List.append_assoc]
section ROWW
variable {σ : rS} {μ d pc c s : Nat} {ls : rO} {st : List Value} {Q : wQ} {len : Nat} {act : rA}
theorem w_l2iW {a : Int} (hf : PP.1 μ pc = some (.l2i, len, act)) (h : Ew μ d (pc + 1) ls (I (w32 a) :: st) σ c s Q) : Ew μ d pc ls (J a :: st) σ c s Q := w_l2i hf (by
  have e : I (w32 a) = I a := by
    unfold w32
    exact congrArg Value.int (toI_of _)
  rw [e] at h
  exact h)
end ROWW


end
section
/-! 18m -/
theorem ldJ_congr {f g : Int → Int} {a b : Int} (h : ∀ i : Int, 0 ≤ i → i < 8 → u8 (f (a + i)) = u8 (g (b + i))) : ldJ f a = ldJ g b := by
  unfold ldJ
  rw [nvl_congr (f := f) (g := g) (a := a) (b := b) h]
theorem wLn_congr {f g : Int → Int} {a b n d l : Int} {k : Nat} (h : AGR f g a b n) (hk : 32 * (k : Int) ≤ n) (hd : 0 ≤ d ∧ d ≤ 24) : wLn f (a + d) k l = wLn g (b + d) k l := by
  unfold wLn
  refine itl_congr (fun j x y l => ?_)
  show wl l (ldJ f (a + d + 32 * j)) = wl l (ldJ g (b + d + 32 * j))
  rw [ldJ_congr (f := f) (g := g) (a := a + d + 32 * j) (b := b + d + 32 * j) (fun i u v => by
    have := h (d + 32 * j + i) (by omega) (by omega)
    rw [show a + d + 32 * j + i = a + (d + 32 * j + i) by omega, show b + d + 32 * j + i = b + (d + 32 * j + i) by omega]
    exact this)]
theorem w8n_congr {f g : Int → Int} {a b n d l : Int} {k : Nat} (h : AGR f g a b n) (hd : 0 ≤ d) (hk : d + 8 * (k : Int) ≤ n) : w8n f (a + d) k l = w8n g (b + d) k l := by
  unfold w8n
  refine itl_congr (fun j x y l => ?_)
  show w8 l (ldJ f (a + d + 8 * j)) = w8 l (ldJ g (b + d + 8 * j))
  rw [ldJ_congr (f := f) (g := g) (a := a + d + 8 * j) (b := b + d + 8 * j) (fun i u v => by
    have := h (d + 8 * j + i) (by omega) (by omega)
    rw [show a + d + 8 * j + i = a + (d + 8 * j + i) by omega, show b + d + 8 * j + i = b + (d + 8 * j + i) by omega]
    exact this)]
theorem w1n_congr {f g : Int → Int} {a b n d l : Int} {k : Nat} (h : AGR f g a b n) (hd : 0 ≤ d) (hk : d + (k : Int) ≤ n) : w1n f (a + d) k l = w1n g (b + d) k l := by
  unfold w1n
  refine itl_congr (fun j x y l => ?_)
  show w1 l (u8 (f (a + d + 1 * j))) = w1 l (u8 (g (b + d + 1 * j)))
  have := h (d + j) (by omega) (by omega)
  rw [show a + d + 1 * j = a + (d + j) by omega, show b + d + 1 * j = b + (d + j) by omega, this]
theorem wMid_congr {f g : Int → Int} {a b n d r l : Int} (h : AGR f g a b n) (hd : 0 ≤ d) (hk : r < 4 ∨ d + 4 ≤ n) : wMid f (a + d) r l = wMid g (b + d) r l := by
  unfold wMid
  by_cases c : 4 ≤ r
  · rw [if_pos c, if_pos c, nvl_congr (f := f) (g := g) (a := a + d) (b := b + d) (fun i u v => by
      have := h (d + i) (by omega) (by omega)
      rw [show a + d + i = a + (d + i) by omega, show b + d + i = b + (d + i) by omega]
      exact this)]
  · rw [if_neg c, if_neg c]
theorem WDS_congr {f g : Int → Int} {a b n s : Int} (hn : 0 ≤ n) (h : AGR f g a b n) : WDS f a n s = WDS g b n s := by
  have hT : WTI f a n s = WTI g b n s := by
    unfold WTI
    by_cases c : 32 ≤ n
    · rw [if_pos c, if_pos c]
      unfold wTop
      have e0 := fun l => wLn_congr (d := 0) (l := l) (k := (n / 32).toNat) h (by omega) (by omega)
      simp only [Int.add_zero] at e0
      rw [e0, wLn_congr (d := 8) h (by omega) (by omega), wLn_congr (d := 16) h (by omega) (by omega), wLn_congr (d := 24) h (by omega) (by omega)]
    · rw [if_neg c, if_neg c]
  rw [WDS_e]
  unfold WDS0
  rw [hT]
  unfold WRS
  rw [show a + n - (a + n - n % 32) = n % 32 by omega, show b + n - (b + n - n % 32) = n % 32 by omega]
  rw [show a + n - n % 32 % 4 = a + (n - n % 32 % 4) by omega, show b + n - n % 32 % 4 = b + (n - n % 32 % 4) by omega, show a + n - n % 32 % 8 = a + (n - n % 32 % 8) by omega, show b + n - n % 32 % 8 = b + (n - n % 32 % 8) by omega, show a + n - n % 32 = a + (n - n % 32) by omega, show b + n - n % 32 = b + (n - n % 32) by omega]
  rw [w8n_congr (d := n - n % 32) h (by omega) (by omega), wMid_congr (d := n - n % 32 % 8) h (by omega) (by omega), w1n_congr (d := n - n % 32 % 4) h (by omega) (by omega)]
noncomputable def WDL0 (L : List Int) : Int := WDS (ap L) 0 (L.length : Int) 0
theorem WDL_x : ∃ g : List Int → Int, g = WDL0 := ⟨_, rfl⟩
noncomputable def WDL : List Int → Int := Classical.choose WDL_x
theorem WDL_e : WDL = WDL0 := Classical.choose_spec WDL_x
theorem WDS_L {f : Int → Int} {a n b : Int} (hn : 0 ≤ n) (hb : b = a + n) : WDS f a n 0 = WDL (sc f a b) := by
  subst hb
  rw [WDL_e]
  unfold WDL0
  rw [sc_lenI (by omega), show a + n - a = n by omega]
  refine WDS_congr hn (fun i x y => ?_)
  unfold ap
  have := sc_get (f := f) (a := a) (b := a + n) (k := i) x (by omega)
  rw [Int.zero_add, List.getD_eq_getElem?_getD, this]
  exact (u8_id (u8_rng _)).symm


abbrev FbS := Int × List Int × Int × Int × (Int × (Int → Int)) × (Int → Tb) × Int × Int × Int

abbrev FbR := Int × Int × Int × List Int × Int × Int
def bkB (I : Int → Int) (h : Int) : Int := if bkK I h = 1 then 1 else bkN I h
noncomputable def FBs (I : Int → Int) (n ds wd mo mw : Int) (s : FbS) : FbS ⊕ FbR :=
  if n - s.1 < 3 then .inr (1, n, s.1, s.2.1, s.2.2.1, s.2.2.2.1)
  else (fun R : BkR => if R.1 ≠ 0 then .inr (R.1, R.2.1, s.1, R.2.2.2.1, s.2.2.1 + 1, s.2.2.2.1 + R.2.2.1)
      else if I s.1 % 2 = 1 then .inr (0, 0, s.1 + 3 + bkB I s.1, R.2.2.2.1, s.2.2.1 + 1, s.2.2.2.1 + R.2.2.1)
      else .inl (s.1 + 3 + bkB I s.1, R.2.2.2.1, s.2.2.1 + 1, s.2.2.2.1 + R.2.2.1, R.2.2.2.2.1, R.2.2.2.2.2.1, R.2.2.2.2.2.2.1, R.2.2.2.2.2.2.2.1, R.2.2.2.2.2.2.2.2))
    (BLF I s.1 n ds wd mo (mw - (s.2.1.length : Int)) s.2.1 s.2.2.2.2.1 s.2.2.2.2.2.1 s.2.2.2.2.2.2.1 s.2.2.2.2.2.2.2.1 s.2.2.2.2.2.2.2.2)
noncomputable def FBF (I : Int → Int) (n ds wd mo mw : Int) (s : FbS) : FbR := LPF (0, 0, 0, [], 0, 0) (FBs I n ds wd mo mw) s
section FBx
variable {I : Int → Int} {n ds wd mo mw at_ bl dn r0 r1 r2 f p d q0 q1 q2 mx : Int} {W W1 : List Int} {C C1 : Int × (Int → Int)} {X X1 : Int → Tb}
theorem FB_1 (h : n - at_ < 3) : FBF I n ds wd mo mw (at_, W, bl, dn, C, X, r0, r1, r2) = (1, n, at_, W, bl, dn) := LPF_e (if_pos h)
theorem FB_f (h : 3 ≤ n - at_) (hm : mx = mw - (W.length : Int)) (k : BLF I at_ n ds wd mo mx W C X r0 r1 r2 = (f, p, d, W1, C1, X1, q0, q1, q2)) (hf : f ≠ 0) : FBF I n ds wd mo mw (at_, W, bl, dn, C, X, r0, r1, r2) = (f, p, at_, W1, bl + 1, dn + d) := by
  subst hm
  refine LPF_e ?_
  unfold FBs
  rw [if_neg (show ¬ n - (at_, W, bl, dn, C, X, r0, r1, r2).1 < 3 by show ¬ n - at_ < 3; omega)]
  show (fun R : BkR => if R.1 ≠ 0 then Sum.inr (R.1, R.2.1, at_, R.2.2.2.1, bl + 1, dn + R.2.2.1) else _) (BLF I at_ n ds wd mo (mw - (W.length : Int)) W C X r0 r1 r2) = _
  rw [k]
  exact if_pos hf
theorem FB_e (h : 3 ≤ n - at_) (hm : mx = mw - (W.length : Int)) (k : BLF I at_ n ds wd mo mx W C X r0 r1 r2 = (0, p, d, W1, C1, X1, q0, q1, q2)) (hl : I at_ % 2 = 1) : FBF I n ds wd mo mw (at_, W, bl, dn, C, X, r0, r1, r2) = (0, 0, at_ + 3 + bkB I at_, W1, bl + 1, dn + d) := by
  subst hm
  refine LPF_e ?_
  unfold FBs
  rw [if_neg (show ¬ n - (at_, W, bl, dn, C, X, r0, r1, r2).1 < 3 by show ¬ n - at_ < 3; omega)]
  show (fun R : BkR => if R.1 ≠ 0 then _ else if I at_ % 2 = 1 then Sum.inr (0, 0, at_ + 3 + bkB I at_, R.2.2.2.1, bl + 1, dn + R.2.2.1) else _) (BLF I at_ n ds wd mo (mw - (W.length : Int)) W C X r0 r1 r2) = _
  rw [k]
  show (if (0 : Int) ≠ 0 then _ else if I at_ % 2 = 1 then _ else _) = _
  rw [if_neg (by decide), if_pos hl]
theorem FB_s (h : 3 ≤ n - at_) (hm : mx = mw - (W.length : Int)) (k : BLF I at_ n ds wd mo mx W C X r0 r1 r2 = (0, p, d, W1, C1, X1, q0, q1, q2)) (hl : I at_ % 2 ≠ 1) : FBF I n ds wd mo mw (at_, W, bl, dn, C, X, r0, r1, r2) = FBF I n ds wd mo mw (at_ + 3 + bkB I at_, W1, bl + 1, dn + d, C1, X1, q0, q1, q2) := by
  subst hm
  refine LPF_s ?_
  unfold FBs
  rw [if_neg (show ¬ n - (at_, W, bl, dn, C, X, r0, r1, r2).1 < 3 by show ¬ n - at_ < 3; omega)]
  show (fun R : BkR => if R.1 ≠ 0 then _ else if I at_ % 2 = 1 then _ else Sum.inl (at_ + 3 + bkB I at_, R.2.2.2.1, bl + 1, dn + R.2.2.1, R.2.2.2.2.1, R.2.2.2.2.2.1, R.2.2.2.2.2.2.1, R.2.2.2.2.2.2.2.1, R.2.2.2.2.2.2.2.2)) (BLF I at_ n ds wd mo (mw - (W.length : Int)) W C X r0 r1 r2) = _
  rw [k]
  show (if (0 : Int) ≠ 0 then _ else if I at_ % 2 = 1 then _ else _) = _
  rw [if_neg (by decide), if_neg hl]
end FBx

abbrev HdR := Int × Int × Int × Int × Int × Int × Int × Int × Int
def tdF0 (w : Int) : Int := if w < 2147483647 then w else 2147483647
theorem tdF_x : ∃ g : Int → Int, g = tdF0 := ⟨_, rfl⟩
noncomputable def tdF : Int → Int := Classical.choose tdF_x
theorem tdF_e : tdF = tdF0 := Classical.choose_spec tdF_x
def wn8 (v : Int) : Int := if 9223372036854775808 ≤ v then 4611686018427387904 else v
def wnW (I : Int → Int) (a : Int) : Int := p2 (10 + I a / 8) + p2 (7 + I a / 8) * (I a % 8)
def idB (h : Int) : Int := if h % 4 = 3 then 4 else h % 4
def szB (h : Int) : Int := if h / 64 = 0 then (if h / 32 % 2 = 1 then 1 else 0) else p2 (h / 64)
noncomputable def HD2 (I : Int → Int) (n did hs td w h a : Int) : HdR :=
  if n - a < idB h then (1, n, hs, td, 0, 0, 0, 0, 0)
  else if nvl I a (idB h).toNat ≠ 0 ∧ nvl I a (idB h).toNat ≠ did then (4, a, hs, td, 0, 0, 0, 0, 0)
  else if n - (a + idB h) < szB h then (1, n, hs, td, 0, 0, 0, 0, 0)
  else (fun due : Int => (0, 0, hs, (if h / 32 % 2 = 1 then tdF (wn8 due) else td), (if h / 32 % 2 = 1 then wn8 due else w), a + idB h, szB h, due, a + idB h + szB h)) (nvl I (a + idB h) (szB h).toNat + (if szB h = 2 then 256 else 0))
noncomputable def HDF (I : Int → Int) (n did hs td a : Int) : HdR :=
  if n ≤ a then (1, n, hs, td, 0, 0, 0, 0, 0)
  else if I a / 8 % 2 = 1 then (3, a, hs + 1, td, 0, 0, 0, 0, 0)
  else if I a / 32 % 2 = 1 then HD2 I n did (hs + 1) td 0 (I a) (a + 1)
  else if n ≤ a + 1 then (1, n, hs + 1, td, 0, 0, 0, 0, 0)
  else HD2 I n did (hs + 1) (tdF (wnW I (a + 1))) (wnW I (a + 1)) (I a) (a + 2)
section HDx
variable {I : Int → Int} {n did hs td a h w ib sb id due w2 td2 a2 a3 : Int}
theorem HD_1 (k : n ≤ a) : HDF I n did hs td a = (1, n, hs, td, 0, 0, 0, 0, 0) := if_pos k
theorem HD_3 (k : a < n) (hh : I a = h) (h8 : h / 8 % 2 = 1) : HDF I n did hs td a = (3, a, hs + 1, td, 0, 0, 0, 0, 0) := by
  unfold HDF
  rw [if_neg (by omega), hh, if_pos h8]
theorem HD_s (k : a < n) (hh : I a = h) (h8 : h / 8 % 2 ≠ 1) (h32 : h / 32 % 2 = 1) : HDF I n did hs td a = HD2 I n did (hs + 1) td 0 h (a + 1) := by
  unfold HDF
  rw [if_neg (by omega), hh, if_neg h8, if_pos h32]
theorem HD_w1 (k : a < n) (hh : I a = h) (h8 : h / 8 % 2 ≠ 1) (h32 : h / 32 % 2 ≠ 1) (k2 : n ≤ a + 1) : HDF I n did hs td a = (1, n, hs + 1, td, 0, 0, 0, 0, 0) := by
  unfold HDF
  rw [if_neg (by omega), hh, if_neg h8, if_neg h32, if_pos k2]
theorem HD_w (k : a < n) (hh : I a = h) (h8 : h / 8 % 2 ≠ 1) (h32 : h / 32 % 2 ≠ 1) (k2 : a + 1 < n) (hw : wnW I (a + 1) = w) (ht : td2 = tdF w) (ea : a2 = a + 2) : HDF I n did hs td a = HD2 I n did (hs + 1) td2 w h a2 := by
  subst ht ea
  unfold HDF
  rw [if_neg (by omega), hh, if_neg h8, if_neg h32, if_neg (by omega), hw]
theorem H2_1 (hi : ib = idB h) (k : n - a < ib) : HD2 I n did hs td w h a = (1, n, hs, td, 0, 0, 0, 0, 0) := by
  subst hi
  exact if_pos k
theorem H2_4 (hi : ib = idB h) (k : ib ≤ n - a) (hd : id = nvl I a ib.toNat) (h4 : id ≠ 0 ∧ id ≠ did) : HD2 I n did hs td w h a = (4, a, hs, td, 0, 0, 0, 0, 0) := by
  subst hi hd
  unfold HD2
  rw [if_neg (by omega), if_pos h4]
theorem H2_1s (hi : ib = idB h) (k : ib ≤ n - a) (hd : id = nvl I a ib.toNat) (h4 : ¬ (id ≠ 0 ∧ id ≠ did)) (hs_ : sb = szB h) (ea : a2 = a + ib) (k2 : n - a2 < sb) : HD2 I n did hs td w h a = (1, n, hs, td, 0, 0, 0, 0, 0) := by
  subst hi hd hs_ ea
  unfold HD2
  rw [if_neg (by omega), if_neg h4, if_pos k2]
theorem H2_y (hi : ib = idB h) (k : ib ≤ n - a) (hd : id = nvl I a ib.toNat) (h4 : ¬ (id ≠ 0 ∧ id ≠ did)) (hs_ : sb = szB h) (ea : a2 = a + ib) (k2 : sb ≤ n - a2) (hu : due = nvl I a2 sb.toNat + (if sb = 2 then 256 else 0)) (hw : h / 32 % 2 = 1 ∧ w2 = wn8 due ∧ td2 = tdF w2 ∨ h / 32 % 2 ≠ 1 ∧ w2 = w ∧ td2 = td) (e3 : a3 = a2 + sb) : HD2 I n did hs td w h a = (0, 0, hs, td2, w2, a2, sb, due, a3) := by
  subst hi hd hs_ ea hu e3
  unfold HD2
  rw [if_neg (by omega), if_neg h4, if_neg (by omega)]
  rcases hw with ⟨x, y, z⟩ | ⟨x, y, z⟩
  · show ((0 : Int), (0 : Int), hs, (if h / 32 % 2 = 1 then _ else td), (if h / 32 % 2 = 1 then _ else w), _, _, _, _) = _
    rw [if_pos x, if_pos x, z, y]
  · show ((0 : Int), (0 : Int), hs, (if h / 32 % 2 = 1 then _ else td), (if h / 32 % 2 = 1 then _ else w), _, _, _, _) = _
    rw [if_neg x, if_neg x, z, y]
end HDx


abbrev DcS := List Int × Int × (Int × (Int → Int)) × (Int → Tb) × Int × Int × Int

abbrev RdS := Int × List Int × Int × Int × Int × Int

abbrev RdR := Int × Int × List Int × Int × Int × Int × Int
def moF0 (w : Int) : Int := if w < 131072 then w else 131072
theorem moF_x : ∃ g : Int → Int, g = moF0 := ⟨_, rfl⟩
noncomputable def moF : Int → Int := Classical.choose moF_x
theorem moF_e : moF = moF0 := Classical.choose_spec moF_x

noncomputable def FEF (I : Int → Int) (n h sa sb due : Int) (B : List Int) (F : List Int) (at_ hs bl dn td : Int) : RdS ⊕ RdR :=
  if h / 4 % 2 = 1 ∧ n - at_ < 4 then .inr (1, n, B ++ F, hs, bl, dn, td)
  else if h / 4 % 2 = 1 ∧ nvl I at_ 4 ≠ WDL F % 4294967296 then .inr (8, at_, B ++ F, hs, bl, dn, td)
  else if sb ≠ 0 ∧ due ≠ (F.length : Int) then .inr (9, sa, B ++ F, hs, bl, dn, td)
  else .inl ((if h / 4 % 2 = 1 then at_ + 4 else at_), B ++ F, hs, bl, dn, td)

noncomputable def FCF (I : Int → Int) (n h sa sb due ds : Int) (B : List Int) (hs td : Int) (Z : FbR) : RdS ⊕ RdR :=
  if Z.1 ≠ 0 then .inr (Z.1, Z.2.1, B ++ Z.2.2.2.1.drop ds.toNat, hs, Z.2.2.2.2.1, Z.2.2.2.2.2, td)
  else FEF I n h sa sb due B (Z.2.2.2.1.drop ds.toNat) Z.2.2.1 hs Z.2.2.2.2.1 Z.2.2.2.2.2 td

noncomputable def FRF (I : Int → Int) (n most : Int) (Dc : DcS) (a : Int) (B : List Int) (hs bl dn td : Int) : RdS ⊕ RdR :=
  (fun H : HdR => if H.1 ≠ 0 then .inr (H.1, H.2.1, B, H.2.2.1, bl, dn, H.2.2.2.1)
    else FCF I n (I a) H.2.2.2.2.2.1 H.2.2.2.2.2.2.1 H.2.2.2.2.2.2.2.1 (Dc.1.length : Int) B H.2.2.1 H.2.2.2.1
      (FBF I n (Dc.1.length : Int) H.2.2.2.2.1 (moF H.2.2.2.2.1) (most - (B.length : Int) + (Dc.1.length : Int)) (H.2.2.2.2.2.2.2.2, Dc.1, bl, dn, Dc.2.2.1, Dc.2.2.2.1, Dc.2.2.2.2.1, Dc.2.2.2.2.2.1, Dc.2.2.2.2.2.2)))
  (HDF I n Dc.2.1 hs td a)
noncomputable def UNs (I : Int → Int) (n most : Int) (Dc : DcS) (s : RdS) : RdS ⊕ RdR :=
  if n ≤ s.1 then .inr (0, n, s.2.1, s.2.2.1, s.2.2.2.1, s.2.2.2.2.1, s.2.2.2.2.2)
  else if n - s.1 < 4 then .inr (1, n, s.2.1, s.2.2.1, s.2.2.2.1, s.2.2.2.2.1, s.2.2.2.2.2)
  else if nvl I s.1 4 = 4247762216 then FRF I n most Dc (s.1 + 4) s.2.1 s.2.2.1 s.2.2.2.1 s.2.2.2.2.1 s.2.2.2.2.2
  else if 407710288 ≤ nvl I s.1 4 ∧ nvl I s.1 4 ≤ 407710303 then (if n - s.1 < 8 ∨ n - (s.1 + 8) < nvl I (s.1 + 4) 4 then .inr (1, n, s.2.1, s.2.2.1, s.2.2.2.1, s.2.2.2.2.1, s.2.2.2.2.2) else .inl (s.1 + 8 + nvl I (s.1 + 4) 4, s.2))
  else .inr (2, s.1, s.2.1, s.2.2.1, s.2.2.2.1, s.2.2.2.2.1, s.2.2.2.2.2)
noncomputable def RDS (I : Int → Int) (n most : Int) (Dc : DcS) : RdR := LPF (0, 0, [], 0, 0, 0, 0) (UNs I n most Dc) (0, [], 0, 0, 0, 0)
section UNx
variable {I : Int → Int} {n most at_ hs bl dn td m x a : Int} {B : List Int} {Dc : DcS}
theorem UN_0 (h : n ≤ at_) : UNs I n most Dc (at_, B, hs, bl, dn, td) = .inr (0, n, B, hs, bl, dn, td) := if_pos h
theorem UN_1 (h : at_ < n) (k : n - at_ < 4) : UNs I n most Dc (at_, B, hs, bl, dn, td) = .inr (1, n, B, hs, bl, dn, td) := by
  unfold UNs
  rw [if_neg (show ¬ n ≤ at_ by omega)]
  exact if_pos k
theorem UN_f (k : 4 ≤ n - at_) (hm : nvl I at_ 4 = 4247762216) : UNs I n most Dc (at_, B, hs, bl, dn, td) = FRF I n most Dc (at_ + 4) B hs bl dn td := by
  unfold UNs
  rw [if_neg (show ¬ n ≤ at_ by omega), if_neg (show ¬ n - at_ < 4 by omega)]
  exact if_pos hm
theorem UN_s1 (k : 4 ≤ n - at_) (hm : 407710288 ≤ nvl I at_ 4 ∧ nvl I at_ 4 ≤ 407710303) (hx : n - at_ < 8 ∨ n - (at_ + 8) < nvl I (at_ + 4) 4) : UNs I n most Dc (at_, B, hs, bl, dn, td) = .inr (1, n, B, hs, bl, dn, td) := by
  unfold UNs
  rw [if_neg (show ¬ n ≤ at_ by omega), if_neg (show ¬ n - at_ < 4 by omega), if_neg (show ¬ nvl I at_ 4 = 4247762216 by omega)]
  show (if 407710288 ≤ nvl I at_ 4 ∧ nvl I at_ 4 ≤ 407710303 then _ else _) = _
  rw [if_pos hm]
  exact if_pos hx
theorem UN_s (hm : 407710288 ≤ nvl I at_ 4 ∧ nvl I at_ 4 ≤ 407710303) (hx : 8 ≤ n - at_ ∧ nvl I (at_ + 4) 4 ≤ n - (at_ + 8)) (ea : a = at_ + 8 + nvl I (at_ + 4) 4) : UNs I n most Dc (at_, B, hs, bl, dn, td) = .inl (a, B, hs, bl, dn, td) := by
  subst ea
  unfold UNs
  rw [if_neg (show ¬ n ≤ at_ by omega), if_neg (show ¬ n - at_ < 4 by omega), if_neg (show ¬ nvl I at_ 4 = 4247762216 by omega)]
  show (if 407710288 ≤ nvl I at_ 4 ∧ nvl I at_ 4 ≤ 407710303 then _ else _) = _
  rw [if_pos hm]
  exact if_neg (by show ¬ (n - at_ < 8 ∨ n - (at_ + 8) < nvl I (at_ + 4) 4); omega)
theorem UN_2 (k : 4 ≤ n - at_) (hm : nvl I at_ 4 ≠ 4247762216) (hs_ : ¬ (407710288 ≤ nvl I at_ 4 ∧ nvl I at_ 4 ≤ 407710303)) : UNs I n most Dc (at_, B, hs, bl, dn, td) = .inr (2, at_, B, hs, bl, dn, td) := by
  unfold UNs
  rw [if_neg (show ¬ n ≤ at_ by omega), if_neg (show ¬ n - at_ < 4 by omega), if_neg (show ¬ nvl I at_ 4 = 4247762216 from hm)]
  exact if_neg hs_
end UNx
section FRx
variable {I : Int → Int} {n most a hs bl dn td f p h2 t2 w sa sb due a4 did r0 r1 r2 h ds b2 d2 at_ x : Int} {B W F D : List Int} {C : Int × (Int → Int)} {X : Int → Tb} {Z : FbR}
theorem FC_f (hf : f ≠ 0) (hF : W.drop ds.toNat = F) : FCF I n h sa sb due ds B hs td (f, p, at_, W, b2, d2) = .inr (f, p, B ++ F, hs, b2, d2, td) := by
  subst hF
  exact if_pos hf
theorem FC_y (hF : W.drop ds.toNat = F) : FCF I n h sa sb due ds B hs td (0, p, at_, W, b2, d2) = FEF I n h sa sb due B F at_ hs b2 d2 td := by
  subst hF
  exact if_neg (by first | decide | exact fun h => h rfl | exact (show ¬ (1 : Int) = 0 by decide))
theorem FE_1 (h4 : h / 4 % 2 = 1) (k : n - at_ < 4) : FEF I n h sa sb due B F at_ hs b2 d2 td = .inr (1, n, B ++ F, hs, b2, d2, td) := if_pos ⟨h4, k⟩
theorem FE_8 (h4 : h / 4 % 2 = 1) (k : 4 ≤ n - at_) (hx : nvl I at_ 4 ≠ WDL F % 4294967296) : FEF I n h sa sb due B F at_ hs b2 d2 td = .inr (8, at_, B ++ F, hs, b2, d2, td) := by
  unfold FEF
  rw [if_neg (by omega), if_pos ⟨h4, hx⟩]
theorem FE_9 (h4 : h / 4 % 2 ≠ 1 ∨ 4 ≤ n - at_ ∧ nvl I at_ 4 = WDL F % 4294967296) (k : sb ≠ 0 ∧ due ≠ (F.length : Int)) : FEF I n h sa sb due B F at_ hs b2 d2 td = .inr (9, sa, B ++ F, hs, b2, d2, td) := by
  unfold FEF
  rw [if_neg (by rintro ⟨y, z⟩; rcases h4 with q | ⟨q, _⟩ <;> omega), if_neg (by rintro ⟨y, z⟩; rcases h4 with q | ⟨_, q⟩; (exact q y); (exact z q)), if_pos k]
theorem FE_y (h4 : h / 4 % 2 ≠ 1 ∧ x = at_ ∨ h / 4 % 2 = 1 ∧ 4 ≤ n - at_ ∧ nvl I at_ 4 = WDL F % 4294967296 ∧ x = at_ + 4) (k : ¬ (sb ≠ 0 ∧ due ≠ (F.length : Int))) : FEF I n h sa sb due B F at_ hs b2 d2 td = .inl (x, B ++ F, hs, b2, d2, td) := by
  unfold FEF
  rcases h4 with ⟨q, e⟩ | ⟨q, q1, q2, e⟩
  · rw [if_neg (fun y => q y.1), if_neg (fun y => q y.1), if_neg k, if_neg q, e]
  · rw [if_neg (by rintro ⟨_, z⟩; omega), if_neg (fun y => y.2 q2), if_neg k, if_pos q, e]
end FRx


end
section
/-! 18n -/
theorem FRM_tr {g gₚ g2 : Int → Int} {lo lo2 hi : Int} (h : FRM g gₚ lo hi) (h' : FRM gₚ g2 lo2 hi) (hl : lo ≤ lo2) : FRM g g2 lo hi := fun k q => (h' k (by omega)).trans (h k q)
theorem FRM_sc {g gₚ : Int → Int} {lo hi b : Int} (h : FRM g gₚ lo hi) (hb : b ≤ lo) : sc gₚ 0 b = sc g 0 b := sc_same (fun i _ y => h i (by omega))
def RDX (X : Int → Tb) (dp dor : Int → Int) : Prop := ∀ t, 0 ≤ t → t < 3 → 5 ≤ dor t ∧ dor t ≤ 9 ∧ (X t).1 = dor t ∧ (X t).2.1 = lastOf t + 1 ∧ (∀ i, 0 ≤ i → i < lastOf t + 1 → (X t).2.2 i = dp (64 * t + i)) ∧ (∀ i, lastOf t + 1 ≤ i → i < 64 → dp (64 * t + i) = 0)
def RDI (Dc : DcS) (formed did : Int) (dict : Int → Int) (ds : Int) (dl dp dor dla : Int → Int) : Prop := Dc.1 = sc dict 0 ds ∧ Dc.2.1 = did % 4294967296 ∧ ((formed = 0 ∧ Dc.2.2.1.1 = 0 ∧ (∀ t, 0 ≤ t → t < 3 → (Dc.2.2.2.1 t).1 = -1) ∧ Dc.2.2.2.2.1 = 1 ∧ Dc.2.2.2.2.2.1 = 4 ∧ Dc.2.2.2.2.2.2 = 8) ∨ (formed = 1 ∧ CI Dc.2.2.1.2 Dc.2.2.1.1 ∧ (∀ i, 0 ≤ i → i < 256 → dl i = Dc.2.2.1.2 i) ∧ RDX Dc.2.2.2.1 dp dor ∧ dla 0 = Dc.2.2.2.2.1 ∧ dla 1 = Dc.2.2.2.2.2.1 ∧ dla 2 = Dc.2.2.2.2.2.2))
theorem CI_top {G H : Int → Int} {T T2 : Int} (h : CI G T) (k : CI H T2) (e : ∀ i, 0 ≤ i → i < 256 → G i = H i) : T = T2 := by
  obtain ⟨i, a, b, c⟩ := h.2.2.2.2
  obtain ⟨j, a2, b2, c2⟩ := k.2.2.2.2
  have h1 := k.2.2.1 i a b
  have h2 := h.2.2.1 j a2 b2
  rw [e j a2 b2] at h2
  rw [← e i a b] at h1
  omega

theorem RDX_s {X : Int → Tb} {dp dor po sy bi ba or_ sy' bi' ba' or' : Int → Int} {l l2 : Int} (hX : RDX X dp dor) (h : ∀ t, 0 ≤ t → t < l → RTL sy bi ba or_ t (X t)) (hl : 0 ≤ l ∧ l < 3) (hp : ∀ i, 0 ≤ i → i < 192 → po i = dp i) (hd : LD (sh po (64 * l)) 64 (or' l) (sh sy' (512 * l)) (sh bi' (512 * l)) (sh ba' (512 * l))) (ho : or' l = dor l) (f1 : FRM sy sy' (512 * l) (512 * l + 512)) (f2 : FRM bi bi' (512 * l) (512 * l + 512)) (f3 : FRM ba ba' (512 * l) (512 * l + 512)) (f4 : FRM or_ or' l (l + 1)) (e : l2 = l + 1) : ∀ t, 0 ≤ t → t < l2 → RTL sy' bi' ba' or' t (X t) := fun t t0 t1 => by
  by_cases c : t = l
  · subst c
    obtain ⟨x1, x2, x3, x4, x5, x6⟩ := hX t t0 hl.2
    have lo := lastOf_eq t
    have k := RTL_LD (n := lastOf t + 1) (Q := (X t).2.2) (or_ := or') hd (by rw [ho]; exact ⟨x1, x2⟩) rfl (by omega) (fun i a b => by rw [x5 i a b]; exact (hp _ (by omega) (by omega)).symm) (fun i a b => by show po (64 * t + i) = 0; rw [hp _ (by omega) (by omega)]; exact x6 i a b)
    rw [ho] at k
    have e1 : X t = (dor t, lastOf t + 1, (X t).2.2) := Prod.ext x3 (Prod.ext x4 rfl)
    rw [e1]
    exact k
  · exact RTL_frm (h t t0 (by omega)) f1 f2 f3 f4 c

def RFA (S : RdS ⊕ RdR) (ret fault wh at_ : Int) (B : List Int) (hs bl dn td : Int) : Prop := (ret = 0 ∧ fault ≠ 0 ∧ S = .inr (fault, wh, B, hs, bl, dn, td)) ∨ (ret = 1 ∧ S = .inl (at_, B, hs, bl, dn, td))
theorem RFA_f {S : RdS ⊕ RdR} {ret fault wh at_ hs bl dn td f p h2 b2 d2 t2 : Int} {B B2 : List Int} (h : S = .inr (f, p, B2, h2, b2, d2, t2)) (hf : f ≠ 0) (hr : ret = 0) (e1 : fault = f) (e2 : wh = p) (e3 : B = B2) (e4 : hs = h2) (e5 : bl = b2) (e6 : dn = d2) (e7 : td = t2) : RFA S ret fault wh at_ B hs bl dn td := by
  subst e1 e2 e3 e4 e5 e6 e7
  exact .inl ⟨hr, hf, h⟩
theorem RFA_y {S : RdS ⊕ RdR} {ret fault wh at_ hs bl dn td p h2 b2 d2 t2 : Int} {B B2 : List Int} (h : S = .inl (p, B2, h2, b2, d2, t2)) (hr : ret = 1) (e2 : at_ = p) (e3 : B = B2) (e4 : hs = h2) (e5 : bl = b2) (e6 : dn = d2) (e7 : td = t2) : RFA S ret fault wh at_ B hs bl dn td := by
  subst e2 e3 e4 e5 e6 e7
  exact .inr ⟨hr, h⟩
theorem wnW_r {x : Int} (h : 0 ≤ x ∧ x ≤ 255) : 0 ≤ p2 (10 + x / 8) + p2 (7 + x / 8) * (x % 8) ∧ p2 (10 + x / 8) + p2 (7 + x / 8) * (x % 8) ≤ 8796093022208 ∧ 0 ≤ p2 (7 + x / 8) * (x % 8) ∧ p2 (7 + x / 8) * (x % 8) ≤ 2199023255552 ∧ p2 (10 + x / 8) ≤ 2199023255552 ∧ p2 (7 + x / 8) ≤ 274877906944 := by
  have a : p2 (10 + x / 8) ≤ p2 41 := p2_mono (by omega)
  have b : p2 (7 + x / 8) ≤ p2 38 := p2_mono (by omega)
  rw [show p2 41 = 2199023255552 by decide] at a
  rw [show p2 38 = 274877906944 by decide] at b
  have c := p2_pos (10 + x / 8)
  have d := p2_pos (7 + x / 8)
  have e : 0 ≤ p2 (7 + x / 8) * (x % 8) := Int.mul_nonneg (by omega) (by omega)
  have f : p2 (7 + x / 8) * (x % 8) ≤ p2 (7 + x / 8) * 8 := Int.mul_le_mul_of_nonneg_left (by omega) (by omega)
  omega
theorem w32_i {z d : Int} (hz : 0 ≤ z ∧ z < 4294967296) (hd : inr d) : (w32 z = 0 ↔ z = 0) ∧ (w32 z = d ↔ z = d % 4294967296) := by
  have a := w32_m z
  have r : inr (w32 z) := w32_r z
  have r : -2147483648 ≤ w32 z ∧ w32 z ≤ 2147483647 := r
  have hd : -2147483648 ≤ d ∧ d ≤ 2147483647 := hd
  constructor
  · constructor
    · intro q; rw [q] at a; omega
    · intro q; omega
  · constructor
    · intro q; rw [q] at a; omega
    · intro q; omega
theorem w32_e {y z : Int} (h : y % 4294967296 = z % 4294967296) : w32 y = w32 z := by
  unfold w32
  rw [of32 h]

theorem moF_eq (w : Int) : w < 131072 ∧ moF w = w ∨ 131072 ≤ w ∧ moF w = 131072 := by
  rw [moF_e]
  unfold moF0
  split <;> omega
theorem tdF_eq (w : Int) : w < 2147483647 ∧ tdF w = w ∨ 2147483647 ≤ w ∧ tdF w = 2147483647 := by
  rw [tdF_e]
  unfold tdF0
  split <;> omega
theorem wn8_eq (w : Int) : w < 9223372036854775808 ∧ wn8 w = w ∨ 9223372036854775808 ≤ w ∧ wn8 w = 4611686018427387904 := by
  unfold wn8
  split <;> omega
theorem idB_eq (h : Int) : h % 4 = 3 ∧ idB h = 4 ∨ h % 4 ≠ 3 ∧ idB h = h % 4 := by
  unfold idB
  split <;> omega
theorem szB_eq (h : Int) : h / 64 = 0 ∧ h / 32 % 2 = 1 ∧ szB h = 1 ∨ h / 64 = 0 ∧ h / 32 % 2 ≠ 1 ∧ szB h = 0 ∨ h / 64 ≠ 0 ∧ szB h = p2 (h / 64) := by
  unfold szB
  split
  · split <;> omega
  · omega
section FRy
variable {I : Int → Int} {n most a hs bl dn td f p h2 t2 w sa sb due a4 h ds : Int} {B : List Int} {Dc : DcS} {Z : FbR}
theorem FR_H (k : HDF I n Dc.2.1 hs td a = (f, p, h2, t2, w, sa, sb, due, a4)) (hf : f ≠ 0) : FRF I n most Dc a B hs bl dn td = .inr (f, p, B, h2, bl, dn, t2) := by
  unfold FRF
  rw [k]
  exact if_pos hf
theorem FR_B (k : HDF I n Dc.2.1 hs td a = (0, p, h2, t2, w, sa, sb, due, a4)) (hh : I a = h) (hd : (Dc.1.length : Int) = ds) (hb : FBF I n ds w (moF w) (most - (B.length : Int) + ds) (a4, Dc.1, bl, dn, Dc.2.2.1, Dc.2.2.2.1, Dc.2.2.2.2.1, Dc.2.2.2.2.2.1, Dc.2.2.2.2.2.2) = Z) : FRF I n most Dc a B hs bl dn td = FCF I n h sa sb due ds B h2 t2 Z := by
  subst hb hd hh
  unfold FRF
  rw [k]
  exact if_neg (by first | decide | exact fun h => h rfl | exact (show ¬ (1 : Int) = 0 by decide))
end FRy
theorem nmb_sg {I : Int → Int} {a n r : Int} (h : r = nmb I a n n.toNat) (hn : 0 ≤ n ∧ n ≤ 8) (hr : inrJ r) : 0 ≤ nvl I a n.toNat ∧ nvl I a n.toNat < 18446744073709551616 ∧ (nvl I a n.toNat < 9223372036854775808 ∧ r = nvl I a n.toNat ∨ 9223372036854775808 ≤ nvl I a n.toNat ∧ r = nvl I a n.toNat - 18446744073709551616) := by
  have w := nvl_rng (f := I) (n := n.toNat) (a := a)
  rw [show ((n.toNat : Nat) : Int) = n by omega] at w
  have m : p2 (8 * n) ≤ p2 64 := p2_mono (by omega)
  rw [show p2 64 = 18446744073709551616 by decide] at m
  have k := nmb_nvl (d := I) (a := a) (n := n) (k := n.toNat) (by omega)
  rw [← h, show a + n - (n.toNat : Int) = a by omega] at k
  have hr : -9223372036854775808 ≤ r ∧ r ≤ 9223372036854775807 := hr
  omega

theorem due_sg {I : Int → Int} {a n r x q l : Int} (h : r = nmb I a n n.toNat) (hn : 0 ≤ n ∧ n ≤ 8) (hr : inrJ r) (hx : n = 2 ∧ x = 256 ∨ n ≠ 2 ∧ x = 0) (hq : q = nvl I a n.toNat + (if n = 2 then 256 else 0)) (hl : l = r + x) : 0 ≤ q ∧ (q < 9223372036854775808 ∧ l = q ∨ 9223372036854775808 ≤ q ∧ l = q - 18446744073709551616) ∧ inrJ l := by
  have g := nmb_sg h hn hr
  have b := nvl_lt (I := I) (a := a) (n := 2) (by omega)
  have hr : -9223372036854775808 ≤ r ∧ r ≤ 9223372036854775807 := hr
  have key : 0 ≤ q ∧ (q < 9223372036854775808 ∧ l = q ∨ 9223372036854775808 ≤ q ∧ l = q - 18446744073709551616) ∧ (-9223372036854775808 ≤ l ∧ l ≤ 9223372036854775807) := by
    rcases hx with ⟨e, e2⟩ | ⟨e, e2⟩
    · subst e
      rw [if_pos rfl] at hq
      have b3 := b.2.2.2.1 (by omega)
      omega
    · rw [if_neg e] at hq
      omega
  exact ⟨key.1, key.2.1, key.2.2⟩
theorem w32_q {y z : Int} : w32 y = w32 z ↔ y % 4294967296 = z % 4294967296 := by
  constructor
  · intro h
    have a := w32_m y
    have b := w32_m z
    rw [h] at a
    omega
  · exact w32_e

def FBI (Z : FbR) (I : Int → Int) (n ds wd mo mw at_ : Int) (W : List Int) (bl dn T : Int) (la sy bi ba or_ le ce : Int → Int) : Prop := ∃ X G, Z = FBF I n ds wd mo mw (at_, W, bl, dn, (T, G), X, la 0, la 1, la 2) ∧ RTA sy bi ba or_ X ∧ RCO T G le ce
theorem FBI_0 {I : Int → Int} {n ds wd mo mw at_ bl dn T : Int} {W : List Int} {la sy bi ba or_ le ce : Int → Int} {Dc : DcS} (hT : RTA sy bi ba or_ Dc.2.2.2.1) (hC : RCO T Dc.2.2.1.2 le ce) (e1 : T = Dc.2.2.1.1) (e2 : la 0 = Dc.2.2.2.2.1 ∧ la 1 = Dc.2.2.2.2.2.1 ∧ la 2 = Dc.2.2.2.2.2.2) (hW : W = Dc.1) : FBI (FBF I n ds wd mo mw (at_, Dc.1, bl, dn, Dc.2.2.1, Dc.2.2.2.1, Dc.2.2.2.2.1, Dc.2.2.2.2.2.1, Dc.2.2.2.2.2.2)) I n ds wd mo mw at_ W bl dn T la sy bi ba or_ le ce := by
  refine ⟨Dc.2.2.2.1, Dc.2.2.1.2, ?_, hT, hC⟩
  rw [hW, e2.1, e2.2.1, e2.2.2, e1]
section FBP
variable {Z : FbR} {I : Int → Int} {n ds wd mo mw mx at_ bl dn T ret fault wh dn2 T2 at2 bl2 : Int} {W W2 : List Int} {G : Int → Int} {X : Int → Tb} {la la2 sy bi ba or_ le ce : Int → Int} {r0 r1 r2 : Int}
theorem FBP_f (hZ : Z = FBF I n ds wd mo mw (at_, W, bl, dn, (T, G), X, r0, r1, r2)) (h : PKA (BLF I at_ n ds wd mo mx W (T, G) X r0 r1 r2) ret fault wh dn dn2 W2 sy bi ba or_ la2 T2 le ce) (hr : ret = 0) (hn : 3 ≤ n - at_) (hm : mx = mw - (W.length : Int)) (eb : bl2 = bl + 1) : Z = (fault, wh, at_, W2, bl2, dn2) ∧ fault ≠ 0 := by
  obtain ⟨⟨e1, e2, h⟩, _⟩ := h
  rcases h with ⟨_, a, b, c⟩ | ⟨a, _⟩
  · subst e1 e2 eb
    refine ⟨?_, by rw [b]; exact a⟩
    rw [hZ, b, c]
    exact FB_f hn hm rfl a
  · omega
theorem FBP_e (hZ : Z = FBF I n ds wd mo mw (at_, W, bl, dn, (T, G), X, r0, r1, r2)) (h : PKA (BLF I at_ n ds wd mo mx W (T, G) X r0 r1 r2) ret fault wh dn dn2 W2 sy bi ba or_ la2 T2 le ce) (hr : ret = 1) (hn : 3 ≤ n - at_) (hm : mx = mw - (W.length : Int)) (hl : I at_ % 2 = 1) (eb : bl2 = bl + 1) (ea : at2 = at_ + 3 + (if bkK I at_ = 1 then 1 else bkN I at_)) : Z = (0, 0, at2, W2, bl2, dn2) := by
  obtain ⟨⟨e1, e2, h⟩, _⟩ := h
  rcases h with ⟨a, _⟩ | ⟨_, a, _⟩
  · omega
  · subst e1 e2 eb ea
    rw [hZ]
    exact FB_e (C1 := (BLF I at_ n ds wd mo mx W (T, G) X r0 r1 r2).2.2.2.2.1) (X1 := (BLF I at_ n ds wd mo mx W (T, G) X r0 r1 r2).2.2.2.2.2.1) hn hm (Prod.ext a rfl) hl
theorem FBP_s (hZ : Z = FBF I n ds wd mo mw (at_, W, bl, dn, (T, G), X, r0, r1, r2)) (h : PKA (BLF I at_ n ds wd mo mx W (T, G) X r0 r1 r2) ret fault wh dn dn2 W2 sy bi ba or_ la2 T2 le ce) (hr : ret = 1) (hn : 3 ≤ n - at_) (hm : mx = mw - (W.length : Int)) (hl : I at_ % 2 ≠ 1) (eb : bl2 = bl + 1) (ea : at2 = at_ + 3 + (if bkK I at_ = 1 then 1 else bkN I at_)) : FBI Z I n ds wd mo mw at2 W2 bl2 dn2 T2 la2 sy bi ba or_ le ce := by
  obtain ⟨⟨e1, e2, h⟩, hc⟩ := h
  rcases h with ⟨a, _⟩ | ⟨_, a, b, l0, l1, l2⟩
  · omega
  · obtain ⟨c1, c2⟩ := hc hr
    subst e1 e2 eb ea
    refine ⟨_, _, ?_, b, c2⟩
    rw [hZ, FB_s (p := (BLF I at_ n ds wd mo mx W (T, G) X r0 r1 r2).2.1) (C1 := (BLF I at_ n ds wd mo mx W (T, G) X r0 r1 r2).2.2.2.2.1) (X1 := (BLF I at_ n ds wd mo mx W (T, G) X r0 r1 r2).2.2.2.2.2.1) hn hm (Prod.ext a rfl) hl, l0, l1, l2, c1]
    rfl
end FBP
theorem dropW {D C : Int → Int} {ds b h : Int} (hd : 0 ≤ ds) : (sc D 0 ds ++ sc C b h).drop ds.toNat = sc C b h := by
  rw [List.drop_append_of_le_length (by rw [sc_len]; omega), List.drop_eq_nil_of_le (by rw [sc_len]; omega), List.nil_append]
theorem nvl_4v {I : Int → Int} (hB : ∀ i, 0 ≤ I i ∧ I i ≤ 255) {a : Int} : nvl I a 4 = I a + 256 * I (a + 1) + 65536 * I (a + 2) + 16777216 * I (a + 3) := by
  show u8 (I a) + 256 * (u8 (I (a + 1)) + 256 * (u8 (I (a + 1 + 1)) + 256 * (u8 (I (a + 1 + 1 + 1)) + 256 * 0))) = _
  rw [u8_id (hB a), u8_id (hB (a + 1)), u8_id (hB (a + 1 + 1)), u8_id (hB (a + 1 + 1 + 1)), show a + 1 + 1 = a + 2 by omega, show a + 2 + 1 = a + 3 by omega]
  omega
theorem RFA_e {S S2 : RdS ⊕ RdR} {ret fault wh at_ hs bl dn td : Int} {B : List Int} (h : S = S2) (k : RFA S2 ret fault wh at_ B hs bl dn td) : RFA S ret fault wh at_ B hs bl dn td := by rw [h]; exact k

def RDJ (R : RdR) (I : Int → Int) (n most : Int) (Dc : DcS) (l fault wh at_ : Int) (B : List Int) (hs bl dn td : Int) : Prop := (l = 1 ∧ R = LPF (0, 0, [], 0, 0, 0, 0) (UNs I n most Dc) (at_, B, hs, bl, dn, td)) ∨ (l = 0 ∧ fault ≠ 0 ∧ R = (fault, wh, B, hs, bl, dn, td))
theorem RDJ_s {R : RdR} {I : Int → Int} {n most l fault wh at_ hs bl dn td l2 f2 w2 a2 h2 b2 d2 t2 : Int} {Dc : DcS} {B B2 : List Int} (h : RDJ R I n most Dc l fault wh at_ B hs bl dn td) (hl : l = 1) (k : RFA (UNs I n most Dc (at_, B, hs, bl, dn, td)) l2 f2 w2 a2 B2 h2 b2 d2 t2) : RDJ R I n most Dc l2 f2 w2 a2 B2 h2 b2 d2 t2 := by
  rcases h with ⟨_, e⟩ | ⟨z, _⟩
  · rcases k with ⟨r, q, w⟩ | ⟨r, w⟩
    · exact .inr ⟨r, q, by rw [e]; exact LPF_e w⟩
    · exact .inl ⟨r, by rw [e]; exact LPF_s w⟩
  · omega

def RDA (R : RdR) (ret wh n o : Int) (out : Int → Int) (B : List Int) (h hs bl dn td : Int) : Prop := R.2.2.1 = B ∧ R.2.2.2.1 = hs ∧ R.2.2.2.2.1 = bl ∧ R.2.2.2.2.2.1 = dn ∧ R.2.2.2.2.2.2 = td ∧ ((R.1 = 0 ∧ ret = h ∧ wh = n ∧ o = h ∧ sc out 0 h = B) ∨ (R.1 ≠ 0 ∧ ret = -R.1 ∧ wh = R.2.1))
theorem RDA_f {R : RdR} {I : Int → Int} {n most l fault wh at_ hs bl dn td ret o h : Int} {Dc : DcS} {B : List Int} {out : Int → Int} (k : RDJ R I n most Dc l fault wh at_ B hs bl dn td) (hl : l = 0) (hr : ret = -fault) : RDA R ret wh n o out B h hs bl dn td := by
  rcases k with ⟨z, _⟩ | ⟨_, q, e⟩
  · omega
  · rw [e]
    exact ⟨rfl, rfl, rfl, rfl, rfl, .inr ⟨q, hr, rfl⟩⟩
theorem RDA_y {R : RdR} {I : Int → Int} {n most l fault wh at_ hs bl dn td ret o h w2 : Int} {Dc : DcS} {B : List Int} {out : Int → Int} (k : RDJ R I n most Dc l fault wh at_ B hs bl dn td) (hl : l = 1) (ha : n ≤ at_) (hr : ret = h) (hw : w2 = n) (ho : o = h) (hs_ : sc out 0 h = B) : RDA R ret w2 n o out B h hs bl dn td := by
  rcases k with ⟨_, e⟩ | ⟨z, _⟩
  · rw [e, LPF_e (UN_0 ha)]
    exact ⟨rfl, rfl, rfl, rfl, rfl, .inl ⟨rfl, hr, hw, ho, hs_⟩⟩
  · omega
theorem RDJ_z {R : RdR} {I : Int → Int} {n most l fault wh at_ hs bl dn td : Int} {Dc : DcS} {B : List Int} (h : RDJ R I n most Dc l fault wh at_ B hs bl dn td) (hl : l = 0) : fault ≠ 0 := by
  rcases h with ⟨a, _⟩ | ⟨_, b, _⟩
  · omega
  · exact b


end
section
/-! 18o -/
theorem DSF_en {I : Int → Int} {a e : Int} (h : (DSF I a e).1 = 1) : (DSF I a e).2.1 = dEn I a := by
  unfold DSF at h ⊢
  split at h
  · exact absurd (show (0 : Int) = 1 from h) (by decide)
  · rename_i c
    rw [if_neg c]
def lnT (j : Int) : Int := if j = 0 then 1 else if j = 1 then 2 else 0
theorem lnT_eq (j : Int) : j = 0 ∧ lnT j = 1 ∨ j = 1 ∧ lnT j = 2 ∨ j ≠ 0 ∧ j ≠ 1 ∧ lnT j = 0 := by
  unfold lnT
  by_cases h : j = 0
  · rw [if_pos h]; omega
  · rw [if_neg h]
    by_cases h1 : j = 1
    · rw [if_pos h1]; omega
    · rw [if_neg h1]; omega
def lnG (t : Int) : Int := if t = 1 then 8 else 9
theorem lnG_eq (t : Int) : t = 1 ∧ lnG t = 8 ∨ t ≠ 1 ∧ lnG t = 9 := by
  unfold lnG
  by_cases h : t = 1
  · rw [if_pos h]; omega
  · rw [if_neg h]; omega
def lnK (t : Int) : Nat := if t = 1 then 0 else if t = 2 then 1 else 2
noncomputable def lnP (I : Int → Int) (n : Int) : Nat → Int
  | 0 => (DSF I 8 n).2.1
  | k + 1 => (SHF I (lnP I n k) n (lnG (lnT (k : Int))) (lastOf (lnT (k : Int)))).2.2.1
noncomputable def lnS (I : Int → Int) (n : Int) (k : Nat) : Int × Int × Int × (Int → Int) := SHF I (lnP I n k) n (lnG (lnT (k : Int))) (lastOf (lnT (k : Int)))
theorem lnP_s (I : Int → Int) (n : Int) (k : Nat) : lnP I n (k + 1) = (lnS I n k).2.2.1 := rfl
noncomputable def lnX (I : Int → Int) (n : Int) : Int → Tb := fun t => ((lnS I n (lnK t)).2.1, lastOf t + 1, (lnS I n (lnK t)).2.2.2)
def DC0 : DcS := ([], 0, (0, fun _ => 0), fun _ => (0, 0, fun _ => 0), 0, 0, 0)
noncomputable def DCN (I : Int → Int) (n : Int) : DcS := (sc I 0 n, 0, (0, fun _ => 0), fun _ => (-1, 0, fun _ => 0), 1, 4, 8)
noncomputable def LN4 (I : Int → Int) (n p : Int) : Int × DcS :=
  if n < p + 12 then (-1, DC0)
  else if (nvl I p 4 = 0 ∨ n - (p + 12) < nvl I p 4) ∨ (nvl I (p + 4) 4 = 0 ∨ n - (p + 12) < nvl I (p + 4) 4) ∨ (nvl I (p + 8) 4 = 0 ∨ n - (p + 12) < nvl I (p + 8) 4) then (-4, DC0)
  else (n - (p + 12), (sc I (p + 12) n, nvl I 4 4, ((DSF I 8 n).2.2.1, (DSF I 8 n).2.2.2), lnX I n, nvl I p 4, nvl I (p + 4) 4, nvl I (p + 8) 4))

noncomputable def LNF (I : Int → Int) (n : Int) : Int × DcS :=
  if n < 4 ∨ nvl I 0 4 ≠ 3962610743 then (n, DCN I n)
  else if n < 8 then (-1, DC0)
  else if (DSF I 8 n).1 = 0 then (-2, DC0)
  else if (lnS I n 0).1 = 0 ∨ (lnS I n 1).1 = 0 ∨ (lnS I n 2).1 = 0 then (-3, DC0)
  else LN4 I n (lnP I n 3)
def LND (R : Int × DcS) (Dc : DcS) : DcS := if R.1 < 0 then Dc else R.2

def LNI (I : Int → Int) (n k p : Int) (po or_ : Int → Int) : Prop := (DSF I 8 n).1 = 1 ∧ 0 ≤ k ∧ p = lnP I n k.toNat ∧ ∀ j : Nat, (j : Int) < k → (lnS I n j).1 = 1 ∧ or_ (lnT (j : Int)) = (lnS I n j).2.1 ∧ ∀ i, 0 ≤ i → i < 64 → po (64 * lnT (j : Int) + i) = (lnS I n j).2.2.2 i
section LNx
variable {I po po2 or_ or2 dr le la : Int → Int} {n k p ret dor t gr l k2 v j T b : Int} {Dc : DcS}
theorem LNI_0 (h : DSA I 8 n p T le) (hp : 0 ≤ p) : LNI I n 0 p po or_ := by
  rcases h with ⟨_, e⟩ | ⟨a, e, _⟩
  · omega
  · exact ⟨a, Int.le_refl 0, e, fun j q => absurd q (by omega)⟩
theorem LNI_q (h : LNI I n k p po or_) (hk : k < 3) (ht : t = lnT k) (hg : gr = lnG t) (hl : l = lastOf t) : SHF I p n gr l = lnS I n k.toNat := by
  obtain ⟨_, k0, e, _⟩ := h
  subst ht hg hl e
  unfold lnS
  rw [show ((k.toNat : Nat) : Int) = k by omega]
theorem LNI_s (h : LNI I n k p po or_) (hk : k < 3) (ht : t = lnT k) (hg : gr = lnG t) (hl : l = lastOf t) (hs : SHA I p n gr l ret dor 256 dr) (hr : 0 ≤ ret) (hp : FRM po po2 (64 * t) (64 * t + 64)) (ho : FRM or_ or2 t (t + 1)) (e : ∀ i, 0 ≤ i → i < 64 → po2 (64 * t + i) = dr i) (e2 : or2 t = dor) (ek : k2 = k + 1) : LNI I n k2 ret po2 or2 := by
  have q := LNI_q h hk ht hg hl
  have s := SHA_F hs
  rw [q] at s
  obtain ⟨h0, k0, hp0, h1⟩ := h
  rcases s with ⟨s, _⟩ | ⟨_, s1, s2, s3, s4⟩
  · omega
  · subst ek
    have kn : (k + 1).toNat = k.toNat + 1 := by omega
    refine ⟨h0, by omega, ?_, fun j hj => ?_⟩
    · rw [kn, lnP_s]
      exact s2
    · by_cases c : (j : Int) = k
      · have cj : j = k.toNat := by omega
        have ct : lnT (j : Int) = t := by rw [c]; exact ht.symm
        rw [ct, cj]
        exact ⟨s1, by rw [e2]; exact s3, fun i a b => by rw [e i a b]; exact s4 i a (by omega)⟩
      · obtain ⟨a1, a2, a3⟩ := h1 j (by omega)
        have x1 := lnT_eq (j : Int)
        have x2 := lnT_eq k
        refine ⟨a1, ?_, fun i a b => ?_⟩
        · rw [ho _ (by omega)]
          exact a2
        · rw [hp _ (by omega)]
          exact a3 i a b
theorem LN_n (h : n < 4 ∨ nvl I 0 4 ≠ 3962610743) : LNF I n = (n, DCN I n) := if_pos h
theorem LN_1 (h4 : 4 ≤ n) (hm : nvl I 0 4 = 3962610743) (h8 : n < 8) : LNF I n = (-1, DC0) := by
  unfold LNF
  rw [if_neg (by omega), if_pos h8]
theorem LN_2 (hm : nvl I 0 4 = 3962610743) (h8 : 8 ≤ n) (h : DSA I 8 n p T le) (hp : p = -1) (hB : 0 ≤ I 8) : LNF I n = (-2, DC0) := by
  have z : (DSF I 8 n).1 = 0 := by
    rcases h with ⟨a, _⟩ | ⟨a, e, _⟩
    · exact a
    · have d := DSF_en a
      rcases (show 127 < I 8 ∨ I 8 ≤ 127 by omega) with z | z
      · rw [dEn_1 z] at d; omega
      · rw [dEn_0 z] at d; omega
  unfold LNF
  rw [if_neg (by omega), if_neg (by omega), if_pos z]
theorem LN_3 (hm : nvl I 0 4 = 3962610743) (h8 : 8 ≤ n) (h : LNI I n k p po or_) (hk : k < 3) (ht : t = lnT k) (hg : gr = lnG t) (hl : l = lastOf t) (hs : SHA I p n gr l ret dor 256 dr) (hr : ret < 0) : LNF I n = (-3, DC0) := by
  have q := LNI_q h hk ht hg hl
  have s := SHA_F hs
  rw [q] at s
  obtain ⟨h0, k0, _, _⟩ := h
  rcases s with ⟨_, s⟩ | ⟨s, _⟩
  · unfold LNF
    have c : (lnS I n 0).1 = 0 ∨ (lnS I n 1).1 = 0 ∨ (lnS I n 2).1 = 0 := by
      rcases (show k.toNat = 0 ∨ k.toNat = 1 ∨ k.toNat = 2 by omega) with z | z | z
      · rw [z] at s; exact .inl s
      · rw [z] at s; exact .inr (.inl s)
      · rw [z] at s; exact .inr (.inr s)
    rw [if_neg (by omega), if_neg (by omega), if_neg (by omega), if_pos c]
  · omega
theorem LN_4 (hm : nvl I 0 4 = 3962610743) (h8 : 8 ≤ n) (h : LNI I n k p po or_) (hk : k = 3) : LNF I n = LN4 I n p := by
  subst hk
  obtain ⟨h0, _, e, h1⟩ := h
  have a0 := (h1 0 (by decide)).1
  have a1 := (h1 1 (by decide)).1
  have a2 := (h1 2 (by decide)).1
  unfold LNF
  rw [if_neg (by omega), if_neg (by omega), if_neg (by omega), if_neg (by omega), e]
  rfl
theorem LN_41 (h : LNF I n = LN4 I n p) (hp : n < p + 12) : LNF I n = (-1, DC0) := h.trans (if_pos hp)
theorem LN_44 (h : LNF I n = LN4 I n p) (hp : p + 12 ≤ n) (hj : 0 ≤ j ∧ j < 3) (hv : v = nvl I (p + 4 * j) 4) (hx : v = 0 ∨ n - (p + 12) < v) : LNF I n = (-4, DC0) := by
  rw [h]
  unfold LN4
  subst hv
  rw [if_neg (by omega)]
  refine if_pos ?_
  rcases (show j = 0 ∨ j = 1 ∨ j = 2 by omega) with z | z | z
  · rw [z, show p + 4 * 0 = p by omega] at hx; exact .inl hx
  · rw [z, show p + 4 * 1 = p + 4 by omega] at hx; exact .inr (.inl hx)
  · rw [z, show p + 4 * 2 = p + 8 by omega] at hx; exact .inr (.inr hx)

def LNL (I : Int → Int) (n p k : Int) (la : Int → Int) : Prop := ∀ j, 0 ≤ j → j < k → la j = nvl I (p + 4 * j) 4 ∧ 1 ≤ la j ∧ la j ≤ n - (p + 12)
theorem LNL_0 : LNL I n p 0 la := fun j a b => absurd b (by omega)
theorem LNL_s (h : LNL I n p k la) (hv : v = nvl I (p + 4 * k) 4) (h1 : 1 ≤ v) (h2 : v ≤ n - (p + 12)) (e : k2 = k + 1) : LNL I n p k2 (upd1 la k v) := fun j a b => by
  by_cases c : j = k
  · rw [c, upd1_s]; exact ⟨hv, h1, h2⟩
  · rw [upd1_o c]; exact h j a (by omega)

def LNR (I : Int → Int) (n b : Int) (le po or_ la : Int → Int) : Prop := LNF I n = (n - b, (sc I b n, nvl I 4 4, ((DSF I 8 n).2.2.1, (DSF I 8 n).2.2.2), lnX I n, la 0, la 1, la 2)) ∧ CI (DSF I 8 n).2.2.2 (DSF I 8 n).2.2.1 ∧ (∀ i, 0 ≤ i → i < 256 → le i = (DSF I 8 n).2.2.2 i) ∧ RDX (lnX I n) po or_
theorem LNR_of (h : LNF I n = LN4 I n p) (hi : LNI I n k p po or_) (hk : k = 3) (hp : p + 12 ≤ n) (hl : LNL I n p l la) (h3 : l = 3) (hd : DSA I 8 n v T le) (hv : 0 ≤ v) (hc : CI le T) (s0 : PS po or_ 0) (s1 : PS po or_ 1) (s2 : PS po or_ 2) (hb : b = p + 12) : LNR I n b le po or_ la := by
  subst hk h3 hb
  have l0 := hl 0 (by decide) (by decide)
  have l1 := hl 1 (by decide) (by decide)
  have l2 := hl 2 (by decide) (by decide)
  rw [show p + 4 * 0 = p by omega] at l0
  rw [show p + 4 * 1 = p + 4 by omega] at l1
  rw [show p + 4 * 2 = p + 8 by omega] at l2
  obtain ⟨_, _, _, hi⟩ := hi
  rcases hd with ⟨_, e⟩ | ⟨_, _, eT, eg⟩
  · omega
  · refine ⟨?_, ?_, eg, ?_⟩
    · rw [h]
      unfold LN4
      rw [if_neg (by omega), if_neg (by rw [← l0.1, ← l1.1, ← l2.1]; omega), l0.1, l1.1, l2.1]
    · rw [← eT]
      exact CI_congr hc (fun i a b => (eg i a b).symm)
    · intro t t0 t3
      have key : ∀ j : Nat, (j : Int) < 3 → lnT (j : Int) = t → lnK t = j → PS po or_ t → 5 ≤ or_ t ∧ or_ t ≤ 9 ∧ (lnX I n t).1 = or_ t ∧ (lnX I n t).2.1 = lastOf t + 1 ∧ (∀ i, 0 ≤ i → i < lastOf t + 1 → (lnX I n t).2.2 i = po (64 * t + i)) ∧ (∀ i, lastOf t + 1 ≤ i → i < 64 → po (64 * t + i) = 0) := by
        intro j hj ht hK hs
        obtain ⟨_, a2, a3⟩ := hi j hj
        rw [ht] at a2 a3
        have lo := lastOf_eq t
        refine ⟨hs.1, hs.2.1, ?_, rfl, fun i x y => ?_, fun i x y => ?_⟩
        · show (lnS I n (lnK t)).2.1 = or_ t
          rw [hK]; exact a2.symm
        · show (lnS I n (lnK t)).2.2.2 i = po (64 * t + i)
          rw [hK]; exact (a3 i x (by omega)).symm
        · exact hs.2.2.2.1 i (by omega) y (by omega)
      rcases (show t = 0 ∨ t = 1 ∨ t = 2 by omega) with z | z | z
      · subst z; exact key 2 (by decide) rfl rfl s0
      · subst z; exact key 0 (by decide) rfl rfl s1
      · subst z; exact key 1 (by decide) rfl rfl s2
end LNx

def LNA (I : Int → Int) (n : Int) (Dc : DcS) (ret formed did : Int) (dict : Int → Int) (ds : Int) (dl dp dor dla : Int → Int) : Prop := ret = (LNF I n).1 ∧ RDI (LND (LNF I n) Dc) formed did dict ds dl dp dor dla
section LNy
variable {I dict dl dp dor dla le po or_ la : Int → Int} {n ret formed did ds x b : Int} {Dc : DcS}
theorem LNA_f (h : LNF I n = (x, DC0)) (hx : x < 0) (hr : ret = x) (k : RDI Dc formed did dict ds dl dp dor dla) : LNA I n Dc ret formed did dict ds dl dp dor dla := by
  unfold LNA LND
  rw [h]
  refine ⟨hr, ?_⟩
  show RDI (if x < 0 then Dc else DC0) formed did dict ds dl dp dor dla
  rw [if_pos hx]
  exact k
theorem LNA_n (h : LNF I n = (n, DCN I n)) (hn : 0 ≤ n) (hr : ret = n) (hf : formed = 0) (hd : did = 0) (he : ds = n) (hc : CPY I dict b 0 x) (hx : x = n) (hb : b = 0) : LNA I n Dc ret formed did dict ds dl dp dor dla := by
  subst hb
  rw [hx] at hc
  unfold LNA LND
  rw [h]
  refine ⟨hr, ?_⟩
  show RDI (if n < 0 then Dc else DCN I n) formed did dict ds dl dp dor dla
  rw [if_neg (by omega)]
  refine ⟨?_, ?_, .inl ⟨hf, rfl, fun _ _ _ => rfl, rfl, rfl, rfl⟩⟩
  · show sc I 0 n = sc dict 0 ds
    exact (CPY_sc hc (by omega) (by omega)).symm
  · show (0 : Int) = did % 4294967296
    rw [hd]; rfl
theorem LNA_y (h : LNR I n b le po or_ la) (hn : b ≤ n) (hr : ret = n - b) (hf : formed = 1) (hd : did % 4294967296 = nvl I 4 4) (he : ds = n - b) (hc : CPY I dict b 0 x) (hx : x = n - b) (e1 : ∀ i, 0 ≤ i → i < 256 → dl i = le i) (e2 : ∀ i, 0 ≤ i → i < 192 → dp i = po i) (e3 : ∀ i, 0 ≤ i → i < 3 → dor i = or_ i) (e4 : dla 0 = la 0 ∧ dla 1 = la 1 ∧ dla 2 = la 2) : LNA I n Dc ret formed did dict ds dl dp dor dla := by
  subst hx
  obtain ⟨h1, h2, h3, h4⟩ := h
  unfold LNA LND
  rw [h1]
  refine ⟨hr, ?_⟩
  show RDI (if n - b < 0 then Dc else (sc I b n, nvl I 4 4, ((DSF I 8 n).2.2.1, (DSF I 8 n).2.2.2), lnX I n, la 0, la 1, la 2)) formed did dict ds dl dp dor dla
  rw [if_neg (by omega)]
  refine ⟨?_, hd.symm, .inr ⟨hf, h2, fun i x y => by rw [e1 i x y]; exact h3 i x y, ?_, e4.1, e4.2.1, e4.2.2⟩⟩
  · show sc I b n = sc dict 0 ds
    exact (CPY_sc hc (by omega) (by omega)).symm
  · intro t t0 t3
    obtain ⟨a1, a2, a3, a4, a5, a6⟩ := h4 t t0 t3
    have lo := lastOf_eq t
    rw [e3 t t0 t3]
    exact ⟨a1, a2, a3, a4, fun i x y => by rw [e2 _ (by omega) (by omega)]; exact a5 i x y, fun i x y => by rw [e2 _ (by omega) (by omega)]; exact a6 i x y⟩
end LNy


end
section
/-! 18p -/
theorem sbJ_1 {x : Int} (h : 1 ≤ x) (hx : inrJ x) : sbJ x 1 = x - 1 := by
  unfold sbJ
  show (Int64.ofInt x - Int64.ofInt 1).toInt = x - 1
  rw [← Int64.ofInt_sub]
  have hx : -9223372036854775808 ≤ x ∧ x ≤ 9223372036854775807 := hx
  exact toJ_ofJ (show -9223372036854775808 ≤ x - 1 ∧ x - 1 ≤ 9223372036854775807 by omega)
def LBY (v li : Int) (la : Int → Int) (r : Int) : Prop := ∀ w, (li = 0 ∧ w = v + 1 ∨ li ≠ 0 ∧ w = v) → (w ≤ 3 ∧ r = la (w - 1)) ∨ (3 < w ∧ r = sbJ (la 0) 1)
theorem LBY_x {v li r w : Int} {la : Int → Int} (h : LBY v li la r) (hv : 1 ≤ v ∧ v ≤ 3) (hw : li = 0 ∧ w = v + 1 ∨ li ≠ 0 ∧ w = v) (h1 : 1 ≤ la 0) (hr : inrJ (la 0)) : (w = 1 ∧ r = la 0) ∨ (w = 2 ∧ r = la 1) ∨ (w = 3 ∧ r = la 2) ∨ (3 < w ∧ r = la 0 - 1) := by
  rcases h w hw with ⟨a, b⟩ | ⟨a, b⟩
  · rcases (show w = 1 ∨ w = 2 ∨ w = 3 by omega) with e | e | e
    · rw [e, show (1 : Int) - 1 = 0 by decide] at b; exact .inl ⟨e, b⟩
    · rw [e, show (2 : Int) - 1 = 1 by decide] at b; exact .inr (.inl ⟨e, b⟩)
    · rw [e, show (3 : Int) - 1 = 2 by decide] at b; exact .inr (.inr (.inl ⟨e, b⟩))
  · rw [sbJ_1 h1 hr] at b
    exact .inr (.inr (.inr ⟨a, b⟩))
theorem LBY_y {v li r w : Int} {la : Int → Int} (hw : li = 0 ∧ w = v + 1 ∨ li ≠ 0 ∧ w = v) (h : (w ≤ 3 ∧ r = la (w - 1)) ∨ (3 < w ∧ r = sbJ (la 0) 1)) : LBY v li la r := fun x hx => by
  rw [show x = w by omega]
  exact h

def SHX (X : Tb) (L n : Int) (P : Int → Int) : Prop := X.1 = L ∧ X.2.1 = n ∧ ∀ i, 0 ≤ i → i < n → X.2.2 i = P i
theorem SHX_on {L n s : Int} {P : Int → Int} (h0 : L = 0) (e : ∀ i, 0 ≤ i → i < n → P i = on0 s i) : SHX (0, n, on0 s) L n P := ⟨h0.symm, rfl, fun i a b => (e i a b).symm⟩
section SHXx
variable {X : Tb} {P M B S sy XX pl : Int → Int} {n L k b z s : Int}
theorem SHX_ts (x : SHX X L n P) (h : SL P n L M B S sy XX pl) (k0 : 0 ≤ k) (k1 : k < p2 L) (hb : BB P L sy k b) (hz : BAS P L sy k z) (hs : s = sy k) : tsF X k = (s, b, z) := by
  obtain ⟨e1, e2, e3⟩ := x
  have r := SL_sym h k0 k1
  have n1 := h.1.2.1
  subst hs
  refine tsF_e (by rw [e1]; exact h.1.1) (by omega) k0 (by rw [e1]; exact k1) ?_
  rw [e1, e2]
  exact TST_n (by omega) (Int.le_refl n) h.1.1 k0 k1 ⟨r.1, r.2.1⟩ e3 (fun i a b => absurd b (by omega)) (TST_BB h.2.1 hb hz)
theorem SHX_ex (x : SHX X L n P) (h : SL P n L M B S sy XX pl) (k0 : 0 ≤ k) (k1 : k < p2 L) : ∃ b z, tsF X k = (sy k, b, z) ∧ BB P L sy k b ∧ BAS P L sy k z ∧ 0 ≤ b ∧ b ≤ L := by
  obtain ⟨b, hb, b0, b1⟩ := BB_ex h k0 k1
  have hz := BAS_of (LO_rng h.1.1).1 hb rfl
  exact ⟨b, _, SHX_ts x h k0 k1 hb hz rfl, hb, hz, b0, b1⟩
end SHXx

def NLT (x : Int) (X : Tb) : Prop := (x = -1 ∧ X.1 < 0) ∨ (x ≠ -1 ∧ 0 ≤ X.1)
theorem NLT_k {x t : Int} (h : x ≠ -1) : NLT x (KNX t) := .inr ⟨h, by show (0 : Int) ≤ if t = 1 then 5 else 6; split <;> decide⟩
theorem NLT_x {x L n : Int} {X : Tb} {P : Int → Int} (h : x ≠ -1) (hx : SHX X L n P) (hL : 0 ≤ L) : NLT x X := .inr ⟨h, by rw [hx.1]; exact hL⟩
theorem NLT_n {x : Int} {X : Tb} (h : NLT x X) (hx : x = -1) : X.1 < 0 := by
  rcases h with ⟨_, h⟩ | ⟨h, _⟩
  · exact h
  · exact absurd hx h
theorem NLT_y {x : Int} {X : Tb} (h : NLT x X) (hx : x ≠ -1) : 0 ≤ X.1 := by
  rcases h with ⟨h, _⟩ | ⟨_, h⟩
  · exact absurd h hx
  · exact h


noncomputable def t3it (I : Int → Int) (e ma m at_ : Int) (X : Int → Tb) : Nat → Int × (Int → Tb)
  | 0 => (at_, X)
  | k + 1 => ((T1F I e ma (k : Int) (mdF m (k : Int)) (t3it I e ma m at_ X k).1 ((t3it I e ma m at_ X k).2 (k : Int))).2.2.1, updT (t3it I e ma m at_ X k).2 (k : Int) (T1F I e ma (k : Int) (mdF m (k : Int)) (t3it I e ma m at_ X k).1 ((t3it I e ma m at_ X k).2 (k : Int))).2.2.2)

def T3C (R : Int × Int × Int × (Int → Tb)) (I : Int → Int) (e ma m at_ : Int) (X : Int → Tb) (k : Int) : Prop := 0 ≤ k ∧ k ≤ 3 ∧ R = T3n I e ma m (3 - k).toNat k (t3it I e ma m at_ X k.toNat).1 (t3it I e ma m at_ X k.toNat).2
section T3Cx
variable {R : Int × Int × Int × (Int → Tb)} {I : Int → Int} {e ma m at_ k k2 mode a f p q : Int} {X : Int → Tb} {Y : Tb}
theorem T3C_0 (h : at_ < e) (hv : I at_ = m) (hm : m % 4 = 0) (hq : q = at_ + 1) : T3C (T3F I at_ e X) I e at_ m q X 0 := ⟨Int.le_refl 0, by decide, T3_0 h hv hm hq⟩
theorem t3it_s (h0 : 0 ≤ k) (hm : mode = mdF m k) (ha : a = (t3it I e ma m at_ X k.toNat).1) (e2 : k2 = k + 1) : (t3it I e ma m at_ X k2.toNat).1 = (T1F I e ma k mode a ((t3it I e ma m at_ X k.toNat).2 k)).2.2.1 ∧ (t3it I e ma m at_ X k2.toNat).2 = updT (t3it I e ma m at_ X k.toNat).2 k (T1F I e ma k mode a ((t3it I e ma m at_ X k.toNat).2 k)).2.2.2 := by
  subst hm ha e2
  have n1 : (k + 1).toNat = k.toNat + 1 := by omega
  have n2 : ((k.toNat : Nat) : Int) = k := by omega
  have s : t3it I e ma m at_ X (k.toNat + 1) = ((T1F I e ma ((k.toNat : Nat) : Int) (mdF m ((k.toNat : Nat) : Int)) (t3it I e ma m at_ X k.toNat).1 ((t3it I e ma m at_ X k.toNat).2 ((k.toNat : Nat) : Int))).2.2.1, updT (t3it I e ma m at_ X k.toNat).2 ((k.toNat : Nat) : Int) (T1F I e ma ((k.toNat : Nat) : Int) (mdF m ((k.toNat : Nat) : Int)) (t3it I e ma m at_ X k.toNat).1 ((t3it I e ma m at_ X k.toNat).2 ((k.toNat : Nat) : Int))).2.2.2) := rfl
  rw [n1, s, n2]
  exact ⟨rfl, rfl⟩
theorem t3it_c {c : Int} (hc : c = k) (h0 : 0 ≤ k) (hm : mode = mdF m k) (ha : a = (t3it I e ma m at_ X k.toNat).1) (e2 : k2 = k + 1) : (t3it I e ma m at_ X k2.toNat).1 = (T1F I e ma c mode a ((t3it I e ma m at_ X k.toNat).2 c)).2.2.1 ∧ ∀ j, (j = c → (t3it I e ma m at_ X k2.toNat).2 j = (T1F I e ma c mode a ((t3it I e ma m at_ X k.toNat).2 c)).2.2.2) ∧ (j ≠ c → (t3it I e ma m at_ X k2.toNat).2 j = (t3it I e ma m at_ X k.toNat).2 j) := by
  subst hc
  obtain ⟨s1, s2⟩ := t3it_s (I := I) (e := e) (ma := ma) (X := X) (at_ := at_) h0 hm ha e2
  refine ⟨s1, fun j => ⟨fun q => ?_, fun q => ?_⟩⟩
  · rw [s2, q, updT_s]
  · rw [s2, updT_o q]
theorem T3C_s (h : T3C R I e ma m at_ X k) (hk : k < 3) (hm : mode = mdF m k) (ha : a = (t3it I e ma m at_ X k.toNat).1) (hr : (T1F I e ma k mode a ((t3it I e ma m at_ X k.toNat).2 k)).1 = 0) (e2 : k2 = k + 1) : T3C R I e ma m at_ X k2 := by
  obtain ⟨h0, _, h⟩ := h
  obtain ⟨s1, s2⟩ := t3it_s (I := I) (e := e) (ma := ma) (X := X) (at_ := at_) h0 hm ha e2
  refine ⟨by omega, by omega, ?_⟩
  rw [s1, s2, h, show (3 - k).toNat = (3 - k2).toNat + 1 by omega]
  subst hm ha e2
  show (if (T1F I e ma k (mdF m k) (t3it I e ma m at_ X k.toNat).1 ((t3it I e ma m at_ X k.toNat).2 k)).1 ≠ 0 then _ else _) = _
  rw [if_neg (by omega)]
  rfl
theorem T3C_f (h : T3C R I e ma m at_ X k) (hk : k < 3) (hm : mode = mdF m k) (ha : a = (t3it I e ma m at_ X k.toNat).1) (hr : (T1F I e ma k mode a ((t3it I e ma m at_ X k.toNat).2 k)).1 = f) (hp : (T1F I e ma k mode a ((t3it I e ma m at_ X k.toNat).2 k)).2.1 = p) (hf : f ≠ 0) : R.1 = f ∧ R.2.1 = p := by
  obtain ⟨h0, _, h⟩ := h
  subst hm ha hr hp
  rw [show (3 - k).toNat = (2 - k).toNat + 1 by omega] at h
  have e1 : R = ((T1F I e ma k (mdF m k) (t3it I e ma m at_ X k.toNat).1 ((t3it I e ma m at_ X k.toNat).2 k)).1, (T1F I e ma k (mdF m k) (t3it I e ma m at_ X k.toNat).1 ((t3it I e ma m at_ X k.toNat).2 k)).2.1, 0, (t3it I e ma m at_ X k.toNat).2) := h.trans (if_pos hf)
  rw [e1]
  exact ⟨rfl, rfl⟩
theorem T3C_e (h : T3C R I e ma m at_ X k) (hk : k = 3) : R = (0, 0, (t3it I e ma m at_ X k.toNat).1, (t3it I e ma m at_ X k.toNat).2) := by
  subst hk
  exact h.2.2
end T3Cx

def T1A (R : Int × Int × Int × Tb) (ret place at_ : Int) : Prop := (ret = 0 → R.1 = 0 ∧ at_ = R.2.2.1) ∧ (ret ≠ 0 → R.1 = ret ∧ R.2.1 = place)
theorem T1A_f {R : Int × Int × Int × Tb} {ret place at_ f p : Int} {X : Tb} (h : R = bad4 f p X) (hf : f ≠ 0) (hr : ret = f) (hp : place = p) : T1A R ret place at_ := by
  subst h hr hp
  exact ⟨fun z => absurd z hf, fun _ => ⟨rfl, rfl⟩⟩
theorem T1A_y {R : Int × Int × Int × Tb} {ret place at_ p : Int} {X : Tb} (h : R = (0, 0, p, X)) (hr : ret = 0) (hp : at_ = p) : T1A R ret place at_ := by
  subst h hp
  exact ⟨fun _ => ⟨rfl, rfl⟩, fun z => absurd hr z⟩

def T3B (R : Int × Int × Int × (Int → Tb)) (ret place at_ : Int) : Prop := (ret = 0 → R.1 = 0 ∧ at_ = R.2.2.1) ∧ (ret ≠ 0 → R.1 = ret ∧ R.2.1 = place)
theorem T3B_f {R : Int × Int × Int × (Int → Tb)} {ret place at_ f p q : Int} {X : Int → Tb} (h : R = (f, p, q, X)) (hf : f ≠ 0) (hr : ret = f) (hp : place = p) : T3B R ret place at_ := by
  subst h hr hp
  exact ⟨fun z => absurd z hf, fun _ => ⟨rfl, rfl⟩⟩

theorem nvl_u {f : Int → Int} {a : Int} {n : Nat} : nvl f a n = nvl (ub8 f) a n := nvl_congr (fun i _ _ => (u8_id (u8_rng _)).symm)
theorem sc_u {f : Int → Int} {a b : Int} : sc f a b = sc (ub8 f) a b := sc_ub8.symm
theorem CI_t1 {G : Int → Int} {T : Int} (h : CI G T) : 1 ≤ T := by
  obtain ⟨a, _, b, c, _⟩ := h
  rcases (show T = 0 ∨ 1 ≤ T by omega) with z | z
  · exfalso
    subst z
    rw [su_congr (h := fun _ => 0) (fun i x y => by
      have q := b i x (by omega)
      unfold kr
      rw [if_pos (by omega)]), su_zero] at c
    exact absurd c (by decide)
  · exact z

def CDO (C : Int × (Int → Int)) (T : Int) (ce : Int → Int) : Prop := T = C.1 ∧ CI C.2 T ∧ fl ce (p2 T) = (CELS C.2 T).map (clF C.2)
def NLC (x : Int) (C : Int × (Int → Int)) : Prop := (x = -1 ∧ C.1 = 0) ∨ (x ≠ -1 ∧ 1 ≤ C.1)

def DCK (Dc : DcS) (con : List Int) (id : Int) (la : Int → Int) : Prop := Dc.1 = con ∧ Dc.2.1 = id % 4294967296 ∧ la 0 = Dc.2.2.2.2.1 ∧ la 1 = Dc.2.2.2.2.2.1 ∧ la 2 = Dc.2.2.2.2.2.2

def LNH (I : Int → Int) (n p ret : Int) (la : Int → Int) (con : List Int) : Prop := (n < p + 12 ∧ ret = -1) ∨ (p + 12 ≤ n ∧ ret = -4 ∧ ∃ j, 0 ≤ j ∧ j < 3 ∧ (nvl I (p + 4 * j) 4 = 0 ∨ n - (p + 12) < nvl I (p + 4 * j) 4)) ∨ (p + 12 ≤ n ∧ ret = n - (p + 12) ∧ LNL I n p 3 la ∧ con = sc I (p + 12) n)
section LNHx
variable {I la le P1 P2 P0 ce co : Int → Int} {n p ret j v T r1 r2 r0 o1 o2 o0 id : Int} {con : List Int}
theorem LNH_4 (h : p + 12 ≤ n) (hr : ret = -4) (hj : 0 ≤ j ∧ j < 3) (hv : v = nvl I (p + 4 * j) 4) (hx : v = 0 ∨ n - (p + 12) < v) : LNH I n p ret la con := .inr (.inl ⟨h, hr, j, hj.1, hj.2, by rw [← hv]; exact hx⟩)

def LNT (I : Int → Int) (n : Int) (k : Nat) (a ret o : Int) (P : Int → Int) : Prop := (a < 0 ∧ ret = -1) ∨ (0 ≤ a ∧ SHA I a n (lnG (lnT (k : Int))) (lastOf (lnT (k : Int))) ret o (lastOf (lnT (k : Int)) + 1) P)
theorem LNT_f {k : Nat} {a o : Int} {P : Int → Int} (h : LNT I n k a ret o P) (ha : 0 ≤ a) (e : a = lnP I n k) : (ret = -1 ∧ (lnS I n k).1 = 0) ∨ (0 ≤ ret ∧ (lnS I n k).1 = 1 ∧ ret = lnP I n (k + 1) ∧ o = (lnS I n k).2.1 ∧ ∀ i, 0 ≤ i → i < lastOf (lnT (k : Int)) + 1 → P i = (lnS I n k).2.2.2 i) := by
  subst e
  rcases h with ⟨h, _⟩ | ⟨_, h⟩
  · omega
  · exact SHA_F h

theorem LN_c (hm : nvl I 0 4 = 3962610743) (h8 : 8 ≤ n) (hd : DSA I 8 n p T le) (hp : 0 ≤ p) (h1 : LNT I n 0 p r1 o1 P1) (h2 : LNT I n 1 r1 r2 o2 P2) (h0 : LNT I n 2 r2 r0 o0 P0) : (r0 < 0 ∧ LNF I n = (-3, DC0)) ∨ (0 ≤ r0 ∧ LNF I n = LN4 I n r0 ∧ (DSF I 8 n).2.2.1 = T ∧ (∀ i, 0 ≤ i → i < 256 → le i = (DSF I 8 n).2.2.2 i) ∧ SHX (lnX I n 1) o1 32 P1 ∧ SHX (lnX I n 2) o2 53 P2 ∧ SHX (lnX I n 0) o0 36 P0) := by
  rcases hd with ⟨_, e⟩ | ⟨d1, d2, d3, d4⟩
  · omega
  · have base : ∀ c : (lnS I n 0).1 = 0 ∨ (lnS I n 1).1 = 0 ∨ (lnS I n 2).1 = 0, LNF I n = (-3, DC0) := fun c => by
      unfold LNF
      rw [if_neg (by omega), if_neg (by omega), if_neg (by omega), if_pos c]
    rcases LNT_f h1 hp d2 with ⟨a, b⟩ | ⟨a1, b1, c1, e1, f1⟩
    · refine .inl ⟨?_, base (.inl b)⟩
      rcases h2 with ⟨_, h2⟩ | ⟨h2, _⟩
      · rcases h0 with ⟨_, h0⟩ | ⟨h0, _⟩ <;> omega
      · omega
    · rcases LNT_f h2 a1 c1 with ⟨a, b⟩ | ⟨a2, b2, c2, e2, f2⟩
      · refine .inl ⟨?_, base (.inr (.inl b))⟩
        rcases h0 with ⟨_, h0⟩ | ⟨h0, _⟩ <;> omega
      · rcases LNT_f h0 a2 c2 with ⟨a, b⟩ | ⟨a3, b3, c3, e3, f3⟩
        · exact .inl ⟨by omega, base (.inr (.inr b))⟩
        · refine .inr ⟨a3, ?_, d3.symm, d4, ⟨e1.symm, rfl, fun i x y => (f1 i x y).symm⟩, ⟨e2.symm, rfl, fun i x y => (f2 i x y).symm⟩, ⟨e3.symm, rfl, fun i x y => (f3 i x y).symm⟩⟩
          unfold LNF
          rw [if_neg (by omega), if_neg (by omega), if_neg (by omega), if_neg (by omega), c3]

theorem LN_d (h : LNF I n = LN4 I n p) (k : LNH I n p ret la con) (hi : id % 4294967296 = nvl I 4 4) : ret = (LNF I n).1 ∧ (0 ≤ ret → DCK (LNF I n).2 con id la ∧ (LNF I n).2.2.2.1 = ((DSF I 8 n).2.2.1, (DSF I 8 n).2.2.2) ∧ (LNF I n).2.2.2.2.1 = lnX I n) := by
  rcases k with ⟨a, b⟩ | ⟨a, b, j, j0, j1, hx⟩ | ⟨a, b, c, d⟩
  · rw [LN_41 h a]
    exact ⟨b, fun z => by omega⟩
  · rw [LN_44 h a ⟨j0, j1⟩ rfl hx]
    exact ⟨b, fun z => by omega⟩
  · have l0 := c 0 (by decide) (by decide)
    have l1 := c 1 (by decide) (by decide)
    have l2 := c 2 (by decide) (by decide)
    rw [show p + 4 * 0 = p by omega] at l0
    rw [show p + 4 * 1 = p + 4 by omega] at l1
    rw [show p + 4 * 2 = p + 8 by omega] at l2
    have e : LNF I n = (n - (p + 12), (sc I (p + 12) n, nvl I 4 4, ((DSF I 8 n).2.2.1, (DSF I 8 n).2.2.2), lnX I n, nvl I p 4, nvl I (p + 4) 4, nvl I (p + 8) 4)) := by
      rw [h]
      unfold LN4
      rw [if_neg (by omega), if_neg (by rw [← l0.1, ← l1.1, ← l2.1]; omega)]
    rw [e]
    exact ⟨b, fun _ => ⟨⟨d.symm, hi.symm, l0.1, l1.1, l2.1⟩, rfl, rfl⟩⟩
end LNHx
def DCQ (C : Int × (Int → Int)) (s T : Int) (ce : Int → Int) : Prop := (s = -1 ∧ C.1 = 0) ∨ (s ≠ -1 ∧ CDO C T ce)
def DCT (X : Tb) (s L n : Int) (P : Int → Int) : Prop := (s = -1 ∧ X.1 < 0) ∨ (s ≠ -1 ∧ SHX X L n P)

def DCW (C : Int × (Int → Int)) (s T : Int) (G ce co : Int → Int) : Prop := s = -1 ∨ (CI G T ∧ CDX G T ce co ∧ ∀ i, 0 ≤ i → i < 256 → G i = C.2 i)
theorem CDO_of {le G ce co : Int → Int} {T T2 : Int} (hc : CI le T) (hx : CDX le T ce co) (e : ∀ i, 0 ≤ i → i < 256 → le i = G i) (eT : T2 = T) : CDO (T2, G) T ce := ⟨eT.symm, CI_congr hc (fun i a b => (e i a b).symm), by
  have h := (hx hc).1
  rw [h, CELS_c e]
  refine List.map_congr_left (fun x hx => ?_)
  unfold CELS at hx
  have r := CLa_rng hx
  unfold clF
  rw [e x r.1 r.2]⟩
section LNz
variable {I la le P ce : Int → Int} {n s L m T id t : Int} {con : List Int}
theorem LN_m {f : Int → Int} (h : wdI f 0 = -332356553) : nvl (ub8 f) 0 4 = 3962610743 := by
  rw [← nvl_u, wdI_m, h]
  decide
theorem LN_nm {f : Int → Int} {z : Int} (hz : z = wdI f 0) (hr : inr z) (h : z ≠ -332356553) : nvl (ub8 f) 0 4 ≠ 3962610743 := by
  rw [← nvl_u, wdI_m, ← hz]
  have hr : -2147483648 ≤ z ∧ z ≤ 2147483647 := hr
  omega
theorem LN_k (h : LNF I n = (n, DCN I n)) (hc : con = sc I 0 n) (hi : id = 0) (hl : la 0 = 1 ∧ la 1 = 4 ∧ la 2 = 8) : DCK (LNF I n).2 con id la := by
  rw [h]
  exact ⟨hc.symm, by rw [hi]; rfl, hl.1, hl.2.1, hl.2.2⟩
theorem LN_q (h : LNF I n = (n, DCN I n)) (hs : s = -1) : DCQ (LNF I n).2.2.2.1 s T ce := by
  rw [h]
  exact .inl ⟨hs, rfl⟩
theorem LN_t (h : LNF I n = (n, DCN I n)) (hs : s = -1) : DCT ((LNF I n).2.2.2.2.1 t) s L m P := by
  rw [h]
  exact .inl ⟨hs, by show (-1 : Int) < 0; decide⟩
theorem LN_x {I : Int → Int} {n x r : Int} (h : LNF I n = (x, DC0)) (hr : r = x) : r = (LNF I n).1 := by rw [h]; exact hr
theorem DCT_y {X : Tb} (hs : s ≠ -1) (h : SHX X L m P) {Y : Tb} (e : Y = X) {m2 : Int} (em : m2 = m) : DCT Y s L m2 P := by
  subst e em
  exact .inr ⟨hs, h⟩
end LNz


end
section
/-! 18q -/
def UWA (I : Int → Int) (n a td ret pl a2 w td2 : Int) : Prop := (n ≤ a ∧ ret = 1 ∧ pl = n ∧ td2 = td) ∨ (a < n ∧ ret = 0 ∧ a2 = a + 1 ∧ w = wnW I a ∧ td2 = tdF w)
def UIA (I : Int → Int) (n a did h ret pl a2 : Int) : Prop := (n - a < idB h ∧ ret = 1 ∧ pl = n) ∨ (idB h ≤ n - a ∧ (nvl I a (idB h).toNat ≠ 0 ∧ nvl I a (idB h).toNat ≠ did) ∧ ret = 4 ∧ pl = a) ∨ (idB h ≤ n - a ∧ ¬ (nvl I a (idB h).toNat ≠ 0 ∧ nvl I a (idB h).toNat ≠ did) ∧ ret = 0 ∧ a2 = a + idB h)
def dueF (I : Int → Int) (a b : Int) : Int := nvl I a b.toNat + (if b = 2 then 256 else 0)
def SGD (q l : Int) : Prop := 0 ≤ q ∧ (q < 9223372036854775808 ∧ l = q ∨ 9223372036854775808 ≤ q ∧ l = q - 18446744073709551616) ∧ q < 18446744073709551616
def USA (I : Int → Int) (n a h w td ret pl a2 sa w2 td2 : Int) : Prop := (n - a < szB h ∧ ret = 1 ∧ pl = n ∧ td2 = td) ∨ (szB h ≤ n - a ∧ ret = 0 ∧ sa = a ∧ a2 = a + szB h ∧ (h / 32 % 2 = 1 ∧ w2 = wn8 (dueF I a (szB h)) ∧ td2 = tdF w2 ∨ h / 32 % 2 ≠ 1 ∧ w2 = w ∧ td2 = td))
theorem SGD_of {f : Int → Int} {a n r x l : Int} (h : r = nmb f a n n.toNat) (hn : 0 ≤ n ∧ n ≤ 8) (hr : inrJ r) (hx : n = 2 ∧ x = 256 ∨ n ≠ 2 ∧ x = 0) (hl : l = r + x) : SGD (dueF (ub8 f) a n) l := by
  have e : dueF (ub8 f) a n = nvl f a n.toNat + (if n = 2 then 256 else 0) := by unfold dueF; rw [← nvl_u]
  have g := due_sg h hn hr hx e hl
  have w := nmb_sg h hn hr
  have lt : dueF (ub8 f) a n < 18446744073709551616 := by
    rw [e]
    by_cases z : n = 2
    · subst z
      rw [if_pos rfl]
      have b := (nvl_lt (I := f) (a := a) (n := 2) (by omega)).2.2.2.1 (by omega)
      omega
    · rw [if_neg z]
      omega
  exact ⟨g.1, g.2.1, lt⟩
theorem wnF_8 {q l : Int} (h : SGD q l) : wnF l = wn8 q := by
  obtain ⟨a, b, c⟩ := h
  have e1 := wnF_eq l
  have e2 := wn8_eq q
  rcases b with ⟨b1, b2⟩ | ⟨b1, b2⟩
  · have f1 : wnF l = l := by
      rcases e1 with ⟨x, _⟩ | ⟨_, x⟩
      · omega
      · exact x
    have f2 : wn8 q = q := by
      rcases e2 with ⟨_, x⟩ | ⟨x, _⟩
      · exact x
      · omega
    rw [f1, f2, b2]
  · have f1 : wnF l = 4611686018427387904 := by
      rcases e1 with ⟨_, x⟩ | ⟨x, _⟩
      · exact x
      · omega
    have f2 : wn8 q = 4611686018427387904 := by
      rcases e2 with ⟨x, _⟩ | ⟨_, x⟩
      · omega
      · exact x
    rw [f1, f2]
theorem andI_32 {h : Int} (h0 : 0 ≤ h ∧ h ≤ 255) : andI h 32 = 32 * (h / 32 % 2) := by
  have key : ∀ n : Fin 256, n.val &&& 32 = 32 * (n.val / 32 % 2) := by decide +kernel
  rw [andI_nn (by omega) (by decide)]
  have k := key ⟨h.toNat, by omega⟩
  have k : h.toNat &&& 32 = 32 * (h.toNat / 32 % 2) := k
  show ((h.toNat &&& 32 : Nat) : Int) = _
  rw [k]
  omega
theorem anJ_w {x : Int} (hx : inr x) : anJ x 4294967295 = x % 4294967296 := by
  have hx : -2147483648 ≤ x ∧ x ≤ 2147483647 := hx
  have e : (Int64.ofInt x &&& Int64.ofInt 4294967295).toBitVec.toNat = (x % 18446744073709551616).toNat &&& 4294967295 := by
    show ((Int64.ofInt x).toBitVec &&& (Int64.ofInt 4294967295).toBitVec).toNat = _
    rw [BitVec.toNat_and]
    have a : (Int64.ofInt x).toBitVec.toNat = (x % 18446744073709551616).toNat := BitVec.toNat_ofInt x
    rw [a]
    rfl
  have m : (x % 18446744073709551616).toNat &&& 4294967295 = (x % 18446744073709551616).toNat % 4294967296 := by
    rw [show (4294967295 : Nat) = 2 ^ 32 - 1 by decide, Nat.and_two_pow_sub_one_eq_mod]
  unfold anJ
  show (Int64.ofInt x &&& Int64.ofInt 4294967295).toBitVec.toInt = _
  rw [m] at e
  rw [BitVec.toInt_eq_toNat_of_lt (by rw [e]; omega), e]
  omega
theorem sbt_sz {h : Int} (h0 : 0 ≤ h ∧ h ≤ 255) : sbt h = szB h := by
  have e : andI h 32 = 0 ↔ h / 32 % 2 = 0 := by
    rw [andI_32 h0]
    omega
  unfold sbt szB
  by_cases c : 0 < h / 64
  · rw [if_pos c, if_neg (by omega)]
  · rw [if_neg c, if_pos (show h / 64 = 0 by omega)]
    by_cases d : h / 32 % 2 = 1
    · rw [if_neg (show ¬ andI h 32 = 0 by rw [e]; omega), if_pos d]
    · rw [if_pos (e.mpr (by omega)), if_neg d]
section UHx
variable {I : Int → Int} {n did hs td a h w ret pl a2 w2 td2 sa r2 a3 r3 : Int}

theorem UH_1 (k : UIA I n a did h ret pl a2) (hr : ret ≠ 0) : HD2 I n did hs td w h a = (ret, pl, hs, td, 0, 0, 0, 0, 0) := by
  rcases k with ⟨x, y, z⟩ | ⟨x, y, z, u⟩ | ⟨_, _, z, _⟩
  · rw [y, z]; exact H2_1 rfl x
  · rw [z, u]; exact H2_4 rfl x rfl y
  · exact absurd z hr
theorem UH_2 {p1 w1 : Int} (k : UIA I n a did h ret p1 a2) (hr : ret = 0) (k2 : USA I n a2 h w td r2 pl a3 sa w2 td2) (h2 : r2 ≠ 0) : HD2 I n did hs td w1 h a = (r2, pl, hs, td2, 0, 0, 0, 0, 0) := by
  rcases k with ⟨_, y, _⟩ | ⟨_, _, y, _⟩ | ⟨x, y, _, u⟩
  · omega
  · omega
  · rcases k2 with ⟨p, q, r, s⟩ | ⟨_, q, _⟩
    · rw [q, r, s]; exact H2_1s rfl x rfl y rfl u p
    · exact absurd q h2
theorem UH_y {p1 w1 : Int} (k : UIA I n a did h ret p1 a2) (hr : ret = 0) (k2 : USA I n a2 h w td r2 pl a3 sa w2 td2) (h2 : r2 = 0) (hw : h / 32 % 2 = 1 ∨ w1 = w) : HD2 I n did hs td w1 h a = (0, 0, hs, td2, w2, sa, szB h, dueF I sa (szB h), a3) := by
  rcases k with ⟨_, y, _⟩ | ⟨_, _, y, _⟩ | ⟨x, y, _, u⟩
  · omega
  · omega
  · rcases k2 with ⟨_, q, _⟩ | ⟨p, _, q, r, s⟩
    · omega
    · rw [q]
      refine H2_y rfl x rfl y rfl u p rfl ?_ r
      rcases s with ⟨s1, s2, s3⟩ | ⟨s1, s2, s3⟩
      · exact .inl ⟨s1, s2, s3⟩
      · exact .inr ⟨s1, by omega, s3⟩
end UHx

def UEA (I : Int → Int) (n h sa sb due : Int) (F : List Int) (at_ ret pl at2 : Int) : Prop :=
  (h / 4 % 2 = 1 ∧ n - at_ < 4 ∧ ret = 1 ∧ pl = n) ∨ (h / 4 % 2 = 1 ∧ 4 ≤ n - at_ ∧ nvl I at_ 4 ≠ WDL F % 4294967296 ∧ ret = 8 ∧ pl = at_) ∨
  ((h / 4 % 2 ≠ 1 ∧ at2 = at_ ∨ h / 4 % 2 = 1 ∧ 4 ≤ n - at_ ∧ nvl I at_ 4 = WDL F % 4294967296 ∧ at2 = at_ + 4) ∧ ((sb ≠ 0 ∧ due ≠ (F.length : Int)) ∧ ret = 9 ∧ pl = sa ∨ ¬ (sb ≠ 0 ∧ due ≠ (F.length : Int)) ∧ ret = 0))
theorem UEA_f {I : Int → Int} {n h sa sb due at_ ret pl at2 hs bl dn td : Int} {B F : List Int} (k : UEA I n h sa sb due F at_ ret pl at2) (hr : ret ≠ 0) : FEF I n h sa sb due B F at_ hs bl dn td = .inr (ret, pl, B ++ F, hs, bl, dn, td) := by
  rcases k with ⟨a, b, c, d⟩ | ⟨a, b, c, d, e⟩ | ⟨a, ⟨b, c, d⟩ | ⟨_, c⟩⟩
  · rw [c, d]; exact FE_1 a b
  · rw [d, e]; exact FE_8 a b c
  · rw [c, d]
    refine FE_9 ?_ b
    rcases a with ⟨a, _⟩ | ⟨_, a, b, _⟩
    · exact .inl a
    · exact .inr ⟨a, b⟩
  · exact absurd c hr
theorem UEA_y {I : Int → Int} {n h sa sb due at_ ret pl at2 hs bl dn td : Int} {B F : List Int} (k : UEA I n h sa sb due F at_ ret pl at2) (hr : ret = 0) : FEF I n h sa sb due B F at_ hs bl dn td = .inl (at2, B ++ F, hs, bl, dn, td) := by
  rcases k with ⟨_, _, c, _⟩ | ⟨_, _, _, d, _⟩ | ⟨a, ⟨_, c, _⟩ | ⟨b, _⟩⟩
  · omega
  · omega
  · omega
  · exact FE_y a b
theorem wd_q {f : Int → Int} {a z w : Int} (h : z = wdI f a) : (z = w32 w) ↔ nvl (ub8 f) a 4 = w % 4294967296 := by
  subst h
  have r := nvl_lt (I := f) (a := a) (n := 4) (by omega)
  have e : nvl f a 4 = nvl f a 4 % 4294967296 := by
    have := r.1
    have := wdI_m (f := f) (p := a)
    omega
  rw [← nvl_u]
  unfold wdI
  rw [w32_q]
  constructor
  · intro q; rw [← q]; exact e
  · intro q; rw [← e]; exact q
theorem sc0_app {f : Int → Int} {n : Int} {M : List Int} (h : n ≤ 0) : sc f 0 n ++ M = M := by rw [sc_nil h]; rfl
theorem SMx_of {g g1 : Int → Int} {n m : Int} {M : List Int} (h : sc g1 0 m = sc g 0 n ++ M) (h0 : 0 ≤ n ∧ n ≤ m) : sc g1 0 n = sc g 0 n := by
  rw [sc_cat (b := n) (by omega) (by omega)] at h
  exact (List.append_inj h (by rw [sc_len, sc_len])).1
theorem andI_4 {h : Int} (h0 : 0 ≤ h ∧ h ≤ 255) : andI h 4 = 4 * (h / 4 % 2) := by
  have key : ∀ n : Fin 256, n.val &&& 4 = 4 * (n.val / 4 % 2) := by decide +kernel
  rw [andI_nn (by omega) (by decide)]
  have k := key ⟨h.toNat, by omega⟩
  have k : h.toNat &&& 4 = 4 * (h.toNat / 4 % 2) := k
  show ((h.toNat &&& 4 : Nat) : Int) = _
  rw [k]
  omega


def UBA (I : Int → Int) (n mo mx at_ ret pl at2 be : Int) (A : List Int) : Prop :=
  (n - at_ < 3 ∧ ret = 1 ∧ pl = n ∧ A = []) ∨
  (3 ≤ n - at_ ∧ ((ret ≠ 0 ∧ A = [] ∧ ∀ ds wd W C X r0 r1 r2, BLF I at_ n ds wd mo mx W C X r0 r1 r2 = (ret, pl, 0, W, C, X, r0, r1, r2)) ∨
    (ret = 0 ∧ be = 0 ∧ at2 = at_ + 3 + bkB I at_ ∧ ∀ ds wd W C X r0 r1 r2, BLF I at_ n ds wd mo mx W C X r0 r1 r2 = (0, 0, 0, W ++ A, C, X, r0, r1, r2)) ∨
    (ret = 0 ∧ A = [] ∧ be = at_ + 3 + bkB I at_ ∧ at2 = at_ + 3 ∧ at2 ≤ be ∧ ∀ ds wd W C X r0 r1 r2, BLF I at_ n ds wd mo mx W C X r0 r1 r2 = PBF I at2 be ds wd mo mx W C X r0 r1 r2)))

theorem lhB_eq (l : Int) : l % 2 = 0 ∧ lhB l = 1 ∨ l % 2 ≠ 0 ∧ l = 1 ∧ lhB l = 2 ∨ l % 2 ≠ 0 ∧ l ≠ 1 ∧ lhB l = 3 := by
  unfold lhB
  by_cases h : l % 2 = 0
  · rw [if_pos h]; omega
  · rw [if_neg h]
    by_cases k : l = 1
    · rw [if_pos k]; omega
    · rw [if_neg k]; omega
theorem lcB_eq (l : Int) : l < 2 ∧ lcB l = 3 ∨ 2 ≤ l ∧ lcB l = l + 2 := by
  unfold lcB
  by_cases h : l < 2
  · rw [if_pos h]; omega
  · rw [if_neg h]; omega
theorem lcW_eq (l : Int) : l < 2 ∧ lcW l = 10 ∨ l = 2 ∧ lcW l = 14 ∨ 2 < l ∧ lcW l = 18 := by
  unfold lcW
  by_cases h : l < 2
  · rw [if_pos h]; omega
  · rw [if_neg h]
    by_cases k : l = 2
    · rw [if_pos k]; omega
    · rw [if_neg k]; omega
theorem LKP_all {g : Int → Int} {n cap : Int} {L : List Int} (h : sc g 0 n = L) (hn : 0 ≤ n) : LKP g n cap L := by
  have l : (L.length : Int) = n := by rw [← h, sc_lenI hn]; omega
  exact ⟨hn, by rw [h, List.take_of_length_le (by omega)], by omega, .inl l.symm⟩
theorem LKP_rep {g : Int → Int} {m n w : Int} (h : sc g 0 m = List.replicate m.toNat w) (hn : 0 ≤ n) (hm : m = n ∧ n ≤ 65536 ∨ m = 65536 ∧ 65536 ≤ n) : LKP g m 65536 (List.replicate n.toNat w) := by
  refine ⟨by omega, ?_, by rw [List.length_replicate]; omega, ?_⟩
  · rw [h, List.take_replicate, show min m.toNat n.toNat = m.toNat by omega]
  · rw [List.length_replicate]; omega

def PLA (I : Int → Int) (a e mo ret pl a2 lc n : Int) (g : Int → Int) : Prop := (ret ≠ 0 ∧ ∀ T G, LTF I a e mo T G = badL ret pl) ∨ (ret = 0 ∧ ∃ L : List Int, lc = (L.length : Int) ∧ LKP g n 65536 L ∧ ∀ T G, LTF I a e mo T G = (0, 0, a2, L, T, G))
theorem PLA_f {I g : Int → Int} {a e mo ret pl a2 lc n f p : Int} (h : ∀ T G, LTF I a e mo T G = badL f p) (hf : f ≠ 0) (hr : ret = f) (hp : pl = p) : PLA I a e mo ret pl a2 lc n g := by
  subst hr hp
  exact .inl ⟨hf, h⟩

theorem su_nm {f : Int → Int} {p : Int} (h : NNS (fun j => nmb f (p + 2 * j) 2 2) 3) : su (fun j => nmb f (p + 2 * j) 2 2) (3 : Int).toNat = nvl (ub8 f) p 2 + nvl (ub8 f) (p + 2) 2 + nvl (ub8 f) (p + 4) 2 := by
  have key : ∀ j : Int, 0 ≤ j → j < 3 → nmb f (p + 2 * j) 2 2 = nvl (ub8 f) (p + 2 * j) 2 := fun j a b => by
    have r := h j a b
    have r : 0 ≤ nmb f (p + 2 * j) 2 2 ∧ nmb f (p + 2 * j) 2 2 ≤ 65535 := r
    have k := nmb_nn (d := f) (a := p + 2 * j) (n := 2) (r := nmb f (p + 2 * j) 2 2) rfl (by decide) (show -9223372036854775808 ≤ nmb f (p + 2 * j) 2 2 ∧ nmb f (p + 2 * j) 2 2 ≤ 9223372036854775807 by omega)
    rw [← nvl_u]
    exact k
  have k0 := key 0 (by decide) (by decide)
  have k1 := key 1 (by decide) (by decide)
  have k2 := key 2 (by decide) (by decide)
  rw [show p + 2 * 0 = p by omega] at k0
  rw [show p + 2 * 1 = p + 2 by omega] at k1
  rw [show p + 2 * 2 = p + 4 by omega] at k2
  rw [← k0, ← k1, ← k2]
  show 0 + nmb f (p + 2 * ((0 : Nat) : Int)) 2 2 + nmb f (p + 2 * ((1 : Nat) : Int)) 2 2 + nmb f (p + 2 * ((2 : Nat) : Int)) 2 2 = _
  rw [show p + 2 * ((0 : Nat) : Int) = p by omega, show p + 2 * ((1 : Nat) : Int) = p + 2 by omega, show p + 2 * ((2 : Nat) : Int) = p + 4 by omega]
  omega
theorem LKP_z {g : Int → Int} {n cap : Int} (h : n = 0) : LKP g n cap [] := by
  subst h
  exact LKP_0
theorem SIR_1 {I G : Int → Int} {T n l p e m c nb_ at_ : Int} (hm : m = 1) (hl : l = 0) (hc : c = n) (hp : nb_ = p) (ha : at_ = p) : SIR (STF I G T n l p e) I G T n m c nb_ e 0 at_ [] := by
  subst hm hc hp ha
  exact ⟨by decide, by decide, ST_1 hl⟩
theorem SIR_4 {I G : Int → Int} {T n l p e m c nb_ at_ : Int} (hm : m = 4) (hl : l ≠ 0) (hc : c = (n + 3) / 4) (hp : nb_ = p) (ha : at_ = p + 6) (hx : 6 + (nvl I p 2 + nvl I (p + 2) 2 + nvl I (p + 4) 2) ≤ e - p) : SIR (STF I G T n l p e) I G T n m c nb_ e 0 at_ [] := by
  subst hm hc hp ha
  exact ⟨by decide, by decide, ST_4 hl hx⟩
def STU (R : Int × Int × List Int) (ret pl : Int) (g : Int → Int) (n cap : Int) : Prop := (ret = 14 ∧ R.1 = 0 ∧ pl = R.2.1) ∨ (ret = 0 ∧ ∃ B, R = (1, 0, B) ∧ LKP g n cap B)
theorem STU_f {R : Int × Int × List Int} {ret pl n cap p : Int} {g : Int → Int} {A : List Int} (h : R = (0, p, A)) (hr : ret = 14) (hp : pl = p) : STU R ret pl g n cap := by
  subst h hp
  exact .inl ⟨hr, rfl, rfl⟩

theorem LKP_65 {g : Int → Int} {n cap : Int} {B : List Int} (h : LKP g n cap B) (hc : (B.length : Int) ≤ cap ∨ cap = 65536) : LKP g n 65536 B := by
  obtain ⟨a, b, c, d⟩ := h
  exact ⟨a, b, c, by omega⟩

theorem dcd_01 {I G : Int → Int} {st T : Int} : ∀ {n : Nat} {left : Int} {A : List Int}, (dcd I G st T n left A).1 = 0 ∨ (dcd I G st T n left A).1 = 1
  | 0, left, A => by
    show (if left = 0 then ((1 : Int), A) else (0, [])).1 = 0 ∨ (if left = 0 then ((1 : Int), A) else (0, [])).1 = 1
    by_cases c : left = 0
    · rw [if_pos c]; exact .inr rfl
    · rw [if_neg c]; exact .inl rfl
  | n + 1, left, A => by
    show (if left - G (dcS I G st T left) < 0 then ((0 : Int), ([] : List Int)) else dcd I G st T n (left - G (dcS I G st T left)) (A ++ [dcS I G st T left])).1 = 0 ∨ (if left - G (dcS I G st T left) < 0 then ((0 : Int), ([] : List Int)) else dcd I G st T n (left - G (dcS I G st T left)) (A ++ [dcS I G st T left])).1 = 1
    by_cases c : left - G (dcS I G st T left) < 0
    · rw [if_pos c]; exact .inl rfl
    · rw [if_neg c]; exact dcd_01
theorem DCF_1 {I G : Int → Int} {a e T n : Int} {A : List Int} (h : (DCF I G a e T n A).1 ≠ 0) : ∃ B, DCF I G a e T n A = (1, B) := by
  unfold DCF at h ⊢
  by_cases c : OPF I a e < 0
  · rw [if_pos c] at h
    exact absurd rfl h
  · rw [if_neg c] at h ⊢
    rcases dcd_01 (I := I) (G := G) (st := 8 * a) (T := T) (n := n.toNat) (left := OPF I a e) (A := A) with z | z
    · exact absurd z h
    · exact ⟨_, Prod.ext z rfl⟩
theorem STN_len {I G : Int → Int} {T n m c nb_ e : Int} (hc : 0 ≤ c) (hl : 0 ≤ n - (m - 1) * c) : ∀ {k : Nat} {i at_ p : Int} {A B : List Int}, i + ((k + 1 : Nat) : Int) = m → STN I G T n m c nb_ e (k + 1) i at_ A = (1, p, B) → (B.length : Int) = (A.length : Int) + (k : Int) * c + (n - (m - 1) * c)
  | 0, i, at_, p, A, B, hi, h => by
    have im : i = m - 1 := by omega
    by_cases d : (DCF I G at_ e T (n - i * c) A).1 = 0
    · rw [STN_f (.inl ⟨im, rfl, rfl⟩) d] at h
      have e : (0 : Int) = 1 := congrArg Prod.fst h
      exact absurd e (by decide)
    · obtain ⟨B2, hB⟩ : ∃ B2, DCF I G at_ e T (n - i * c) A = (1, B2) := DCF_1 d
      rw [STN_s (.inl ⟨im, rfl, rfl⟩) hB] at h
      have e : B2 = B := congrArg (fun x => x.2.2) h
      have l := DCF_len hB (by rw [im]; exact hl)
      rw [← e, l, im]
      show _ = (A.length : Int) + 0 * c + _
      omega
  | k + 1, i, at_, p, A, B, hi, h => by
    have im : i ≠ m - 1 := by omega
    by_cases d : (DCF I G at_ (at_ + nvl I (nb_ + 2 * i) 2) T c A).1 = 0
    · rw [STN_f (.inr ⟨im, rfl, rfl⟩) d] at h
      have e : (0 : Int) = 1 := congrArg Prod.fst h
      exact absurd e (by decide)
    · obtain ⟨B2, hB⟩ : ∃ B2, DCF I G at_ (at_ + nvl I (nb_ + 2 * i) 2) T c A = (1, B2) := DCF_1 d
      rw [STN_s (.inr ⟨im, rfl, rfl⟩) hB] at h
      have l := DCF_len hB hc
      have r := STN_len hc hl (by omega) h
      rw [r, l]
      have : ((k + 1 : Nat) : Int) * c = (k : Int) * c + c := by
        rw [show ((k + 1 : Nat) : Int) = (k : Int) + 1 by omega, Int.add_mul, Int.one_mul]
      omega
theorem STF_len {I G : Int → Int} {T n l p e q : Int} {B : List Int} (h : STF I G T n l p e = (1, q, B)) (hn : 0 ≤ n) (hl : l = 0 ∨ 3 * ((n + 3) / 4) ≤ n) : (B.length : Int) = n := by
  by_cases c : l = 0
  · rw [ST_1 c] at h
    have r := STN_len (c := n) (m := 1) hn (by omega) (k := 0) (by decide) h
    have r : (B.length : Int) = 0 + 0 * n + (n - (1 - 1) * n) := r
    omega
  · by_cases d : 6 + (nvl I p 2 + nvl I (p + 2) 2 + nvl I (p + 4) 2) ≤ e - p
    · rw [ST_4 c d] at h
      have r := STN_len (c := (n + 3) / 4) (m := 4) (by omega) (by omega) (k := 3) (by decide) h
      have r : (B.length : Int) = 0 + 3 * ((n + 3) / 4) + (n - (4 - 1) * ((n + 3) / 4)) := r
      omega
    · rw [ST_b c (by omega)] at h
      have e : (0 : Int) = 1 := congrArg Prod.fst h
      exact absurd e (by decide)

theorem andI_w {x L : Int} (hL : 0 ≤ L ∧ L ≤ 30) : andI (w32 x) (p2 L - 1) = x % p2 L := by
  have hp := p2_pos L
  have hq : p2 L ≤ 1073741824 := by
    have := p2_mono (x := L) (y := 30) hL.2
    rw [show p2 30 = 1073741824 from by decide] at this
    exact this
  have ep := p2_nat L
  have dv : p2 L ∣ 4294967296 := by
    refine ⟨p2 (32 - L), ?_⟩
    rw [← p2_add hL.1 (by omega), show L + (32 - L) = 32 by omega]
    decide
  have e : (Int32.ofInt (w32 x) &&& Int32.ofInt (p2 L - 1)).toBitVec.toNat = (x % p2 L).toNat := by
    show ((Int32.ofInt (w32 x)).toBitVec &&& (Int32.ofInt (p2 L - 1)).toBitVec).toNat = _
    rw [BitVec.toNat_and, nU_of, nU_of]
    unfold nU
    rw [w32_m x, Int.emod_eq_of_lt (by omega) (by omega : p2 L - 1 < 4294967296), show (p2 L - 1).toNat = 2 ^ L.toNat - 1 by omega, Nat.and_two_pow_sub_one_eq_mod]
    have k := Int.emod_emod_of_dvd x dv
    have z : 0 ≤ x % 4294967296 := Int.emod_nonneg _ (by decide)
    have c : (((x % 4294967296).toNat % 2 ^ L.toNat : Nat) : Int) = x % p2 L := by
      rw [Int.natCast_emod, ← ep, show (((x % 4294967296).toNat : Nat) : Int) = x % 4294967296 by omega]
      exact k
    omega
  have r0 : 0 ≤ x % p2 L := Int.emod_nonneg _ (by omega)
  have r1 : x % p2 L < p2 L := Int.emod_lt_of_pos _ (by omega)
  unfold andI
  show (Int32.ofInt (w32 x) &&& Int32.ofInt (p2 L - 1)).toBitVec.toInt = _
  rw [BitVec.toInt_eq_toNat_of_lt (by rw [e]; omega), e]
  omega

def CLA (R : LtR) (ret pl a2 lc n : Int) (g : Int → Int) : Prop := (ret ≠ 0 ∧ R = badL ret pl) ∨ (ret = 0 ∧ R.1 = 0 ∧ R.2.2.1 = a2 ∧ lc = (R.2.2.2.1.length : Int) ∧ LKP g n 65536 R.2.2.2.1)
theorem CLA_f {R : LtR} {ret pl a2 lc n f p : Int} {g : Int → Int} (h : R = badL f p) (hf : f ≠ 0) (hr : ret = f) (hp : pl = p) : CLA R ret pl a2 lc n g := by
  subst hr hp
  exact .inl ⟨hf, h⟩
theorem CLA_p {I g : Int → Int} {a e mo ret pl a2 lc n T : Int} {G : Int → Int} (h : PLA I a e mo ret pl a2 lc n g) : CLA (LTF I a e mo T G) ret pl a2 lc n g ∧ (ret = 0 → (LTF I a e mo T G).2.2.2.2 = (T, G)) := by
  rcases h with ⟨x, y⟩ | ⟨x, L, y, z, w⟩
  · exact ⟨.inl ⟨x, y T G⟩, fun q => absurd q x⟩
  · rw [w T G]
    exact ⟨.inr ⟨x, rfl, rfl, y, z⟩, fun _ => rfl⟩
theorem LT3_u {R : LtR} {I G g : Int → Int} {p to l m n T k cap ret pl a2 lc : Int} (hR : R = LT3 I p to l n T G) (hm : l = 0 ∧ m = 0 ∨ l ≠ 0 ∧ m ≠ 0) (h : STU (STF I G T n m p to) ret pl g k cap) (hn : 0 ≤ n) (hl : l = 0 ∨ 3 * ((n + 3) / 4) ≤ n) (ha : ret ≠ 0 ∨ a2 = to) (hlc : lc = n) (hc : n ≤ cap ∨ cap = 65536) : CLA R ret pl a2 lc k g ∧ (ret = 0 → R.2.2.2.2 = (T, G)) := by
  have e : STF I G T n m p to = STF I G T n l p to := by
    rcases hm with ⟨x, y⟩ | ⟨x, y⟩
    · rw [x, y]
    · rw [STF_l1 x, STF_l1 y]
  rw [e] at h
  rcases h with ⟨x, y, z⟩ | ⟨x, B, y, z⟩
  · have f := LT3_g (l := l) (n := n) (p := p) (to := to) y
    rw [← z] at f
    exact ⟨CLA_f (hR.trans f) (by decide) x rfl, fun q => by omega⟩
  · have f := LT3_y y
    have bl := STF_len y hn hl
    rw [hR, f]
    exact ⟨.inr ⟨x, rfl, by show to = a2; omega, by show lc = (B.length : Int); omega, LKP_65 z (show (B.length : Int) ≤ cap ∨ cap = 65536 by omega)⟩, fun _ => rfl⟩
theorem NLC_n {x : Int} {C : Int × (Int → Int)} (h : NLC x C) (hx : x = -1) : C.1 = 0 := by
  rcases h with ⟨_, h⟩ | ⟨h, _⟩
  · exact h
  · exact absurd hx h
theorem NLC_y {x : Int} {C : Int × (Int → Int)} (h : NLC x C) (hx : x ≠ -1) : 1 ≤ C.1 := by
  rcases h with ⟨h, _⟩ | ⟨_, h⟩
  · exact absurd h hx
  · exact h


end
