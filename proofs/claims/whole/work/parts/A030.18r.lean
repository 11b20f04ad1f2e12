section
/-! 18r -/
theorem stl_fn (b : Nat) (F : Int → Int) (N : Nat) (h : (List.range N).all (fun j => decide ((stl b).getD j 0 = F (j : Int))) = true) {j : Nat} (hj : j < N) {v : Int} (e : (stl b).getD j 0 = v) : v = F (j : Int) := by
  rw [← e]
  exact of_decide_eq_true (List.all_eq_true.mp h j (List.mem_range.mpr hj))
theorem pk_A {I : Int → Int} {z b a l L n N : Int} (h : z = pk I (8 * b) l n) (hb : b = a) (hn : n ≤ l) (hL : l = L) (hN : n = N) : z = bvA I (8 * a) L N := by
  subst hb hL hN
  rw [pk_y hn] at h
  exact h
def FLq (cnt bb more mo most ret : Int) : Prop := (mo < cnt - bb + more ∧ ret = 20) ∨ (cnt - bb + more ≤ mo ∧ most - cnt < more ∧ ret = 7) ∨ (cnt - bb + more ≤ mo ∧ more ≤ most - cnt ∧ ret = 0)
def FOq (lc lat be le d cb ds wd cnt bb mo most ret : Int) : Prop := (lc - lat < be ∧ ret = 19) ∨ (be ≤ lc - lat ∧ tfF d (cnt - cb + be) ds wd ∧ ret = 18) ∨ (be ≤ lc - lat ∧ ¬ tfF d (cnt - cb + be) ds wd ∧ FLq cnt bb (be + le) mo most ret)
section FOx
variable {L W W2 : List Int} {ds wd mo mx wb be le d left t0 t1 t2 lat q0 q1 q2 lc cb cnt bb most ret u2 : Int}
theorem SQc_F (h : FOq lc lat be le d cb ds wd cnt bb mo most ret) (hr : ret ≠ 0) (hL : lc = (L.length : Int)) (hW : (W.length : Int) - ds = cnt - cb) (hb : (W.length : Int) - wb = cnt - bb) (hm : mx = most - bb) : SQc L ds wd mo mx wb be le d left t0 t1 t2 lat W q0 q1 q2 = (ret, nilS) := by
  rcases h with ⟨a, b⟩ | ⟨a, b, c⟩ | ⟨a, b, c⟩
  · rw [b]; exact SQc_19 (by omega)
  · rw [c]; exact SQc_18 (by omega) (by rw [show (W.length : Int) - ds + be = cnt - cb + be by omega]; exact b)
  · rcases c with ⟨c, e⟩ | ⟨c, e, f⟩ | ⟨_, _, f⟩
    · rw [e]; exact SQc_20 (by omega) (by rw [show (W.length : Int) - ds + be = cnt - cb + be by omega]; exact b) (by omega)
    · rw [f]; exact SQc_7 (by omega) (by rw [show (W.length : Int) - ds + be = cnt - cb + be by omega]; exact b) (by omega) (by omega)
    · exact absurd f hr
theorem SQc_Y (h : FOq lc lat be le d cb ds wd cnt bb mo most ret) (hr : ret = 0) (hL : lc = (L.length : Int)) (hW : (W.length : Int) - ds = cnt - cb) (hb : (W.length : Int) - wb = cnt - bb) (hm : mx = most - bb) (hu : u2 = lat + be) (hX : W2 = cpb (W ++ sl L lat (lat + be)) d le.toNat) : SQc L ds wd mo mx wb be le d left t0 t1 t2 lat W q0 q1 q2 = (0, left, t0, t1, t2, u2, W2, q0, q1, q2) := by
  rcases h with ⟨_, b⟩ | ⟨_, _, c⟩ | ⟨a, b, c⟩
  · omega
  · omega
  · rcases c with ⟨_, e⟩ | ⟨_, _, f⟩ | ⟨c, e, _⟩
    · omega
    · omega
    · exact SQc_y (by omega) (by rw [show (W.length : Int) - ds + be = cnt - cb + be by omega]; exact b) (by omega) (by omega) hu hX
end FOx
theorem dsF_nn {v li r0 r1 r2 d g0 g1 g2 : Int} (h : dsF v li r0 r1 r2 = (d, g0, g1, g2)) (hv : 1 ≤ v) (h0 : 1 ≤ r0) (h1 : 1 ≤ r1) (h2 : 1 ≤ r2) : 0 ≤ d ∧ (d = 0 ∨ 1 ≤ g0 ∧ 1 ≤ g1 ∧ 1 ≤ g2) := by
  obtain ⟨w, hw⟩ : ∃ w : Int, li = 0 ∧ w = v + 1 ∨ li ≠ 0 ∧ w = v := by
    by_cases z : li = 0
    · exact ⟨v + 1, .inl ⟨z, rfl⟩⟩
    · exact ⟨v, .inr ⟨z, rfl⟩⟩
  have key : ∀ a b c e : Int, (a, b, c, e) = (d, g0, g1, g2) → a = d ∧ b = g0 ∧ c = g1 ∧ e = g2 := fun a b c e q => ⟨congrArg (fun x => x.1) q, congrArg (fun x => x.2.1) q, congrArg (fun x => x.2.2.1) q, congrArg (fun x => x.2.2.2) q⟩
  by_cases c : 3 < v
  · rw [dsF_4 c] at h
    have := key _ _ _ _ h
    omega
  · rcases (show w = 1 ∨ w = 2 ∨ w = 3 ∨ 3 < w by omega) with z | z | z | z
    · rw [dsF_1 (by omega) hw z] at h; have := key _ _ _ _ h; omega
    · rw [dsF_2 (by omega) hw z] at h; have := key _ _ _ _ h; omega
    · rw [dsF_3 (by omega) hw z] at h; have := key _ _ _ _ h; omega
    · rw [dsF_5 (by omega) hw z] at h; have := key _ _ _ _ h; omega
theorem LKP_sl {g : Int → Int} {n u k : Int} {L : List Int} (h : LKP g n 65536 L) (h0 : 0 ≤ u) (hk : 0 ≤ k) (h1 : u + k ≤ (L.length : Int)) (h2 : u + k ≤ 65536) : sc g u (u + k) = sl L u (u + k) := by
  obtain ⟨a, b, c, d⟩ := h
  have e : u + k ≤ n := by omega
  rw [← sl_sc (n := n) h0 (by omega) e, b]
  unfold sl
  rw [List.drop_take, List.take_take]
  congr 1
  omega

def SRA (Z : SqR) (ret dn : Int) (W : List Int) (E : SqR) : Prop := (ret ≠ 0 ∧ Z.1 = ret ∧ Z.2.1 = dn ∧ Z.2.2.1 = W) ∨ (ret = 0 ∧ Z = E)
section SRx
variable {I : Int → Int} {here e ds wd mo mx n r0 r1 r2 left f dn s0 s1 s2 used q0 q1 q2 lf ret dn2 : Int} {X : Int → Tb} {L W W1 W2 : List Int} {E : SqR}
theorem SRA_n (h : SQF I here e X L ds wd mo mx n W r0 r1 r2 = (17, 0, W, r0, r1, r2)) (hr : ret = 17) (hd : dn2 = 0) (hW : W2 = W) : SRA (SQF I here e X L ds wd mo mx n W r0 r1 r2) ret dn2 W2 E := by
  subst hd hW
  rw [h]
  exact .inl ⟨by omega, hr.symm, rfl, rfl⟩
theorem SRA_f (ho : OPS I here e 1 left) (hl : (X 0).1 + (X 1).1 + (X 2).1 ≤ left) (hZ : SQs I here e X L ds wd mo mx n W r0 r1 r2 = (f, dn, lf, s0, s1, s2, used, W1, q0, q1, q2)) (hf : f ≠ 0) (hr : ret = f) (hd : dn2 = dn) (hW : W2 = W1) : SRA (SQF I here e X L ds wd mo mx n W r0 r1 r2) ret dn2 W2 E := by
  subst hr hd hW
  rw [SQF_y ho hl hZ (SQe_f hf)]
  exact .inl ⟨hf, rfl, rfl, rfl⟩
theorem SRA_17 (ho : OPS I here e 1 left) (hl : (X 0).1 + (X 1).1 + (X 2).1 ≤ left) (hZ : SQs I here e X L ds wd mo mx n W r0 r1 r2 = (0, dn, lf, s0, s1, s2, used, W1, q0, q1, q2)) (hf : 0 < lf) (hr : ret = 17) (hd : dn2 = dn) (hW : W2 = W1) : SRA (SQF I here e X L ds wd mo mx n W r0 r1 r2) ret dn2 W2 E := by
  subst hd hW
  rw [SQF_y ho hl hZ (SQe_17 rfl hf)]
  exact .inl ⟨by omega, hr.symm, rfl, rfl⟩
theorem SRA_y (ho : OPS I here e 1 left) (hl : (X 0).1 + (X 1).1 + (X 2).1 ≤ left) (hZ : SQs I here e X L ds wd mo mx n W r0 r1 r2 = (0, dn, lf, s0, s1, s2, used, W1, q0, q1, q2)) (hf : lf = 0) (hr : ret = 0) : SRA (SQF I here e X L ds wd mo mx n W r0 r1 r2) ret dn2 W2 (SQe L mo mx (W.length : Int) 0 dn 0 used W1 q0 q1 q2) := by
  subst hf
  exact .inr ⟨hr, SQF_y ho hl hZ rfl⟩
end SRx
theorem SMp_of {g g1 : Int → Int} {c n : Int} (h : ∀ i, 0 ≤ i → i < c → g1 i = g i) (hn : n ≤ c) : sc g1 0 n = sc g 0 n := sc_same (fun i a b => h i a (by omega))

theorem nsz_eq (x : Int) : x < 128 ∧ nsz x = 1 ∨ 128 ≤ x ∧ x < 255 ∧ nsz x = 2 ∨ 255 ≤ x ∧ nsz x = 3 := by
  by_cases h : x < 128
  · exact .inl ⟨h, nsz_1 h⟩
  · by_cases k : x < 255
    · exact .inr (.inl ⟨by omega, k, nsz_2 (by omega) k⟩)
    · exact .inr (.inr ⟨by omega, nsz_3 (by omega)⟩)
theorem T3B_y {R : Int × Int × Int × (Int → Tb)} {ret pl at_ : Int} (h : T3B R ret pl at_) (hr : ret = 0) : R = (0, R.2.1, at_, R.2.2.2) := by
  obtain ⟨a, b⟩ := h.1 hr
  rw [b]
  exact Prod.ext a rfl
theorem T3B_n {R : Int × Int × Int × (Int → Tb)} {ret pl at_ : Int} (h : T3B R ret pl at_) (hr : ret ≠ 0) : R = (ret, pl, R.2.2.1, R.2.2.2) := by
  obtain ⟨a, b⟩ := h.2 hr
  rw [← a, ← b]
theorem LKP_dr {g : Int → Int} {n u e : Int} {L : List Int} (h : LKP g n 65536 L) (h0 : 0 ≤ u) (h1 : u ≤ e) (he : e = (L.length : Int)) (h2 : e ≤ 65536) : sc g u e = L.drop u.toNat := by
  have k := LKP_sl (u := u) (k := e - u) h h0 (by omega) (by omega) (by omega)
  rw [show u + (e - u) = e by omega] at k
  rw [k]
  unfold sl
  exact List.take_of_length_le (by rw [List.length_drop]; omega)

def PQA (R : BkR) (ret pl dn : Int) (W : List Int) (la : Int → Int) : Prop := R.2.2.1 = dn ∧ R.2.2.2.1 = W ∧ ((ret ≠ 0 ∧ R.1 = ret ∧ R.2.1 = pl) ∨ (ret = 0 ∧ R.1 = 0 ∧ la 0 = R.2.2.2.2.2.2.1 ∧ la 1 = R.2.2.2.2.2.2.2.1 ∧ la 2 = R.2.2.2.2.2.2.2.2))
section PQx
variable {R : BkR} {ret pl dn f p d q0 q1 q2 : Int} {W W1 : List Int} {la : Int → Int} {C : Int × (Int → Int)} {X : Int → Tb}
theorem PQA_f (h : R = (f, p, d, W1, C, X, q0, q1, q2)) (hf : f ≠ 0) (hr : ret = f) (hp : pl = p) (hd : dn = d) (hW : W = W1) : PQA R ret pl dn W la := by
  subst h hr hp hd hW
  exact ⟨rfl, rfl, .inl ⟨hf, rfl, rfl⟩⟩
theorem PQA_y (h : R = (0, p, d, W1, C, X, q0, q1, q2)) (hr : ret = 0) (hd : dn = d) (hW : W = W1) (l0 : la 0 = q0) (l1 : la 1 = q1) (l2 : la 2 = q2) : PQA R ret pl dn W la ∧ R.2.2.2.2.2.1 = X ∧ R.2.2.2.2.1 = C := by
  subst h hd hW
  exact ⟨⟨rfl, rfl, .inr ⟨hr, rfl, l0, l1, l2⟩⟩, rfl, rfl⟩
end PQx
theorem SEQ_Z {I : Int → Int} {at_ e ds wd mo mx n r0 r1 r2 p q : Int} {X Y : Int → Tb} {L W : List Int} {C : Int × (Int → Int)} {Z : SqR} (h : T3F I at_ e X = (0, p, q, Y)) (k : SQF I q e Y L ds wd mo mx n W r0 r1 r2 = Z) : SEQF I at_ e L ds wd mo mx n W C X r0 r1 r2 = (Z.1, q, Z.2.1, Z.2.2.1, C, Y, Z.2.2.2.1, Z.2.2.2.2.1, Z.2.2.2.2.2) := by
  subst k
  exact SEQ_y h rfl


end
section
/-! 18s -/
theorem STd_m {f : Int → Int} {a z : Int} (h : z = wdI f a) (hr : inr z) : (z = -47205080 ↔ nvl (ub8 f) a 4 = 4247762216) := by
  have m := wdI_m (f := f) (p := a)
  rw [← nvl_u, m, ← h]
  have hr : -2147483648 ≤ z ∧ z ≤ 2147483647 := hr
  omega
theorem andI_8 {h : Int} (h0 : 0 ≤ h ∧ h ≤ 255) : andI h 8 = 8 * (h / 8 % 2) := by
  have key : ∀ n : Fin 256, n.val &&& 8 = 8 * (n.val / 8 % 2) := by decide +kernel
  rw [andI_nn (by omega) (by decide)]
  have k := key ⟨h.toNat, by omega⟩
  have k : h.toNat &&& 8 = 8 * (h.toNat / 8 % 2) := k
  show ((h.toNat &&& 8 : Nat) : Int) = _
  rw [k]
  omega

def BGA (I : Int → Int) (n did hs td a ret pl a2 hs2 td2 w sa h : Int) : Prop :=
  (ret ≠ 0 ∧ ∀ most (Dc : DcS) B bl dn, Dc.2.1 = did → UNs I n most Dc (a, B, hs, bl, dn, td) = .inr (ret, pl, B, hs2, bl, dn, td2)) ∨
  (ret = 0 ∧ hs2 = hs ∧ td2 = td ∧ a + 8 ≤ a2 ∧ ∀ most (Dc : DcS) B bl dn, UNs I n most Dc (a, B, hs, bl, dn, td) = .inl (a2, B, hs, bl, dn, td)) ∨
  (ret = 0 ∧ hs2 = hs + 1 ∧ a + 5 ≤ a2 ∧ h = I (a + 4) ∧ (∀ most (Dc : DcS) B bl dn, UNs I n most Dc (a, B, hs, bl, dn, td) = FRF I n most Dc (a + 4) B hs bl dn td) ∧ HDF I n did hs td (a + 4) = (0, 0, hs2, td2, w, sa, szB h, dueF I sa (szB h), a2))
section BGx
variable {I : Int → Int} {n did hs td a ret pl a2 hs2 td2 w sa h f p q0 q1 q2 q3 q4 : Int}
theorem BGA_u (hf : f ≠ 0) (k : ∀ most (Dc : DcS) B bl dn, UNs I n most Dc (a, B, hs, bl, dn, td) = .inr (f, p, B, hs, bl, dn, td)) (hr : ret = f) (hp : pl = p) (h1 : hs2 = hs) (h2 : td2 = td) : BGA I n did hs td a ret pl a2 hs2 td2 w sa h := by
  subst hr hp h1 h2
  exact .inl ⟨hf, fun most Dc B bl dn _ => k most Dc B bl dn⟩
theorem BGA_h (hu : ∀ most (Dc : DcS) B bl dn, UNs I n most Dc (a, B, hs, bl, dn, td) = FRF I n most Dc (a + 4) B hs bl dn td) (k : HDF I n did hs td (a + 4) = (f, p, hs2, td2, q0, q1, q2, q3, q4)) (hf : f ≠ 0) (hr : ret = f) (hp : pl = p) : BGA I n did hs td a ret pl a2 hs2 td2 w sa h := by
  subst hr hp
  exact .inl ⟨hf, fun most Dc B bl dn hd => (hu most Dc B bl dn).trans (FR_H (by rw [hd]; exact k) hf)⟩

def WQA (I : Int → Int) (n did hs td a h ret pl a2 w td2 : Int) : Prop := (ret ≠ 0 ∧ HDF I n did hs td a = (ret, pl, hs + 1, td2, 0, 0, 0, 0, 0)) ∨ (ret = 0 ∧ ∃ w0, HDF I n did hs td a = HD2 I n did (hs + 1) td2 w0 h a2 ∧ (h / 32 % 2 = 1 ∨ w0 = w))
def WQB (I : Int → Int) (n did hs td a h ret pl a2 w td2 : Int) : Prop := (ret ≠ 0 ∧ HDF I n did hs td a = (ret, pl, hs + 1, td2, 0, 0, 0, 0, 0)) ∨ (ret = 0 ∧ ∃ w0 a1 p1, HDF I n did hs td a = HD2 I n did (hs + 1) td2 w0 h a1 ∧ (h / 32 % 2 = 1 ∨ w0 = w) ∧ UIA I n a1 did h 0 p1 a2)
theorem WQA_w {r p td3 : Int} (ha : a < n) (hh : I a = h) (h8 : h / 8 % 2 ≠ 1) (h32 : h / 32 % 2 ≠ 1) (k : UWA I n (a + 1) td r p a2 w td3) : WQA I n did hs td a h r p a2 w td3 := by
  rcases k with ⟨x, y, z, u⟩ | ⟨x, y, z, u, v⟩
  · refine .inl ⟨by omega, ?_⟩
    rw [y, z, u]
    exact HD_w1 ha hh h8 h32 x
  · exact .inr ⟨y, w, HD_w ha hh h8 h32 x u.symm v (by omega), .inr rfl⟩
theorem WQA_s (ha : a < n) (hh : I a = h) (h8 : h / 8 % 2 ≠ 1) (h32 : h / 32 % 2 = 1) (hr : ret = 0) (e : a2 = a + 1) (ht : td2 = td) : WQA I n did hs td a h ret pl a2 w td2 := by
  subst e ht
  exact .inr ⟨hr, 0, HD_s ha hh h8 h32, .inl h32⟩
theorem WQB_f (k : WQA I n did hs td a h ret pl a2 w td2) (hr : ret ≠ 0) : WQB I n did hs td a h ret pl a2 w td2 := by
  rcases k with ⟨x, y⟩ | ⟨x, _⟩
  · exact .inl ⟨x, y⟩
  · exact absurd x hr
theorem WQB_i {r2 p2_ a3 : Int} (k : WQA I n did hs td a h ret pl a2 w td2) (hr : ret = 0) (k2 : UIA I n a2 did h r2 p2_ a3) : WQB I n did hs td a h r2 p2_ a3 w td2 := by
  rcases k with ⟨x, _⟩ | ⟨_, w0, y, z⟩
  · exact absurd hr x
  · by_cases c : r2 = 0
    · subst c
      exact .inr ⟨rfl, w0, a2, p2_, y, z, k2⟩
    · exact .inl ⟨c, y.trans (UH_1 k2 c)⟩
theorem BGA_w (hu : ∀ most (Dc : DcS) B bl dn, UNs I n most Dc (a, B, hs, bl, dn, td) = FRF I n most Dc (a + 4) B hs bl dn td) (k : WQB I n did hs td (a + 4) h ret pl q0 q1 td2) (hr : ret ≠ 0) (h1 : hs2 = hs + 1) : BGA I n did hs td a ret pl a2 hs2 td2 w sa h := by
  rcases k with ⟨x, y⟩ | ⟨x, _⟩
  · subst h1
    exact BGA_h hu y x rfl rfl
  · exact absurd x hr
theorem BGA_z {r2 w3 td3 pl3 : Int} (hu : ∀ most (Dc : DcS) B bl dn, UNs I n most Dc (a, B, hs, bl, dn, td) = FRF I n most Dc (a + 4) B hs bl dn td) (k : WQB I n did hs td (a + 4) h ret pl q0 q1 td2) (hr : ret = 0) (k2 : USA I n q0 h q1 td2 r2 pl3 a2 sa w3 td3) (h1 : hs2 = hs + 1) (hh : h = I (a + 4)) (h2 : a + 5 ≤ a2) : BGA I n did hs td a r2 pl3 a2 hs2 td3 w3 sa h := by
  rcases k with ⟨x, _⟩ | ⟨_, w0, a1, p1, y, z, u⟩
  · exact absurd hr x
  · subst h1
    by_cases c : r2 = 0
    · exact .inr (.inr ⟨c, rfl, h2, hh, hu, y.trans (UH_y u rfl k2 c z)⟩)
    · exact BGA_h hu (y.trans (UH_2 u rfl k2 c)) c rfl rfl
theorem BGA_sp {f0 : Int → Int} (hq : SPQ f0 a n 1) (k : ASQ f0 a n q0) (hx : (q0 = -1 ∧ ret = 1 ∧ pl = n) ∨ (q0 ≠ -1 ∧ ret = 0 ∧ a2 = q0)) (h1 : hs2 = hs) (h2 : td2 = td) (h0 : 0 ≤ a) : BGA (ub8 f0) n did hs td a ret pl a2 hs2 td2 w sa h := by
  rcases hq with ⟨_, b, c⟩ | ⟨x, _⟩
  · rw [nvl_u] at c
    have c : 407710288 ≤ nvl (ub8 f0) a 4 ∧ nvl (ub8 f0) a 4 ≤ 407710303 := c
    have nn : 0 ≤ nvl (ub8 f0) (a + 4) 4 := (nvl_lt (I := ub8 f0) (a := a + 4) (n := 4) (by omega)).1
    unfold ASQ at k
    rw [nvl_u] at k
    rcases hx with ⟨y, z, u⟩ | ⟨y, z, u⟩
    · refine BGA_u (f := 1) (p := n) (by decide) (fun most Dc B bl dn => UN_s1 (by omega) c ?_) z u h1 h2
      omega
    · refine .inr (.inl ⟨z, h1, h2, by omega, fun most Dc B bl dn => UN_s c (by omega) (by omega)⟩)
  · exact absurd x (by decide)
end BGx

noncomputable def FRQ (I : Int → Int) (n most : Int) (Dc : DcS) : RdS ⊕ RdR → RdR
  | .inl t => LPF (0, 0, [], 0, 0, 0, 0) (UNs I n most Dc) t
  | .inr r => r
theorem FRQ_u {I : Int → Int} {n most : Int} {Dc : DcS} {s : RdS} : LPF (0, 0, [], 0, 0, 0, 0) (UNs I n most Dc) s = FRQ I n most Dc (UNs I n most Dc s) := by
  cases h : UNs I n most Dc s with
  | inl t => exact LPF_s h
  | inr r => exact LPF_e h

def FRW (R : RdR) (I : Int → Int) (n most : Int) (Dc : DcS) (h sa due : Int) (B : List Int) (wd at_ : Int) (W : List Int) (hs bl dn td : Int) (C : Int × (Int → Int)) (X : Int → Tb) (r0 r1 r2 : Int) : Prop := R = FRQ I n most Dc (FCF I n h sa (szB h) due (Dc.1.length : Int) B hs td (FBF I n (Dc.1.length : Int) wd (moF wd) (most - (B.length : Int) + (Dc.1.length : Int)) (at_, W, bl, dn, C, X, r0, r1, r2)))
section FRWx
variable {R : RdR} {I : Int → Int} {n most h sa due wd at_ hs bl dn td r0 r1 r2 ret pl mx f p d q0 q1 q2 at2 sa2 : Int} {Dc : DcS} {B W W1 F : List Int} {C C1 : Int × (Int → Int)} {X X1 : Int → Tb}
theorem FRW_0 {a td0 hs0 : Int} (hR : R = LPF (0, 0, [], 0, 0, 0, 0) (UNs I n most Dc) (a, B, hs0, bl, dn, td0)) (hu : UNs I n most Dc (a, B, hs0, bl, dn, td0) = FRF I n most Dc (a + 4) B hs0 bl dn td0) (hH : HDF I n Dc.2.1 hs0 td0 (a + 4) = (0, 0, hs, td, wd, sa, szB h, due, at_)) (hh : h = I (a + 4)) : FRW R I n most Dc h sa due B wd at_ Dc.1 hs bl dn td Dc.2.2.1 Dc.2.2.2.1 Dc.2.2.2.2.1 Dc.2.2.2.2.2.1 Dc.2.2.2.2.2.2 := by
  unfold FRW
  rw [hR, FRQ_u, hu, FR_B hH hh.symm rfl rfl]
theorem FRW_1 (k : FRW R I n most Dc h sa due B wd at_ W hs bl dn td C X r0 r1 r2) (hn : n - at_ < 3) (hF : W.drop (Dc.1.length : Int).toNat = F) : R = (1, n, B ++ F, hs, bl, dn, td) := by
  unfold FRW at k
  rw [k, FB_1 hn, FC_f (by decide) hF]
  rfl
theorem FRW_f (k : FRW R I n most Dc h sa due B wd at_ W hs bl dn td C X r0 r1 r2) (hn : 3 ≤ n - at_) (hm : mx = most - (B.length : Int) + (Dc.1.length : Int) - (W.length : Int)) (hb : BLF I at_ n (Dc.1.length : Int) wd (moF wd) mx W C X r0 r1 r2 = (f, p, d, W1, C1, X1, q0, q1, q2)) (hf : f ≠ 0) (hF : W1.drop (Dc.1.length : Int).toNat = F) : R = (f, p, B ++ F, hs, bl + 1, dn + d, td) := by
  unfold FRW at k
  rw [k, FB_f hn hm hb hf, FC_f hf hF]
  rfl
theorem FRW_s (k : FRW R I n most Dc h sa due B wd at_ W hs bl dn td C X r0 r1 r2) (hn : 3 ≤ n - at_) (hm : mx = most - (B.length : Int) + (Dc.1.length : Int) - (W.length : Int)) (hb : BLF I at_ n (Dc.1.length : Int) wd (moF wd) mx W C X r0 r1 r2 = (0, p, d, W1, C1, X1, q0, q1, q2)) (hl : I at_ % 2 ≠ 1) (ha : at2 = at_ + 3 + bkB I at_) : FRW R I n most Dc h sa due B wd at2 W1 hs (bl + 1) (dn + d) td C1 X1 q0 q1 q2 := by
  subst ha
  unfold FRW at k ⊢
  rw [k, FB_s hn hm hb hl]
theorem FRW_e (k : FRW R I n most Dc h sa due B wd at_ W hs bl dn td C X r0 r1 r2) (hn : 3 ≤ n - at_) (hm : mx = most - (B.length : Int) + (Dc.1.length : Int) - (W.length : Int)) (hb : BLF I at_ n (Dc.1.length : Int) wd (moF wd) mx W C X r0 r1 r2 = (0, p, d, W1, C1, X1, q0, q1, q2)) (hl : I at_ % 2 = 1) (ha : at2 = at_ + 3 + bkB I at_) (hF : W1.drop (Dc.1.length : Int).toNat = F) : R = FRQ I n most Dc (FEF I n h sa (szB h) due B F at2 hs (bl + 1) (dn + d) td) := by
  subst ha
  unfold FRW at k
  rw [k, FB_e hn hm hb hl, FC_y hF]

theorem FRE_f (k : R = FRQ I n most Dc (FEF I n h sa (szB h) due B F at_ hs bl dn td)) (e : UEA I n h sa (szB h) due F at_ ret pl at2) (hr : ret ≠ 0) : R = (ret, pl, B ++ F, hs, bl, dn, td) := by
  rw [k, UEA_f e hr]
  rfl
theorem FRE_y (k : R = FRQ I n most Dc (FEF I n h sa (szB h) due B F at_ hs bl dn td)) (e : UEA I n h sa (szB h) due F at_ ret pl at2) (hr : ret = 0) : R = LPF (0, 0, [], 0, 0, 0, 0) (UNs I n most Dc) (at2, B ++ F, hs, bl, dn, td) := by
  rw [k, UEA_y e hr]
  rfl
end FRWx


end
section
/-! 18t -/
theorem andI_2 (a : Int) : andI a 2 = a % 4 - a % 2 := by
  have e : (Int32.ofInt a &&& Int32.ofInt 2).toBitVec.toNat = (Int32.ofInt a).toBitVec.toNat % 4 - (Int32.ofInt a).toBitVec.toNat % 2 := by
    show ((Int32.ofInt a).toBitVec &&& (Int32.ofInt 2).toBitVec).toNat = _
    rw [BitVec.toNat_and, show (Int32.ofInt 2).toBitVec.toNat = 2 from by decide]
    generalize (Int32.ofInt a).toBitVec.toNat = x
    have h3 : x &&& 3 = x % 4 := by rw [show (3 : Nat) = 2 ^ 2 - 1 from rfl, Nat.and_two_pow_sub_one_eq_mod]
    have h : x &&& 2 = (x % 4) &&& 2 := by rw [← h3, Nat.and_assoc, show (3 : Nat) &&& 2 = 2 from rfl]
    rw [h]
    have key : ∀ n : Fin 4, n.val &&& 2 = n.val - n.val % 2 := by decide
    have k := key ⟨x % 4, by omega⟩
    have k : (x % 4) &&& 2 = x % 4 - x % 4 % 2 := k
    omega
  have e2 := nU_m a
  rw [← nU_of] at e2
  unfold andI
  show (Int32.ofInt a &&& Int32.ofInt 2).toBitVec.toInt = _
  rw [BitVec.toInt_eq_toNat_of_lt (by rw [e]; omega), e]
  omega
theorem PBG_C {I : Int → Int} {at_ e ds wd mo mx r0 r1 r2 p : Int} {W L : List Int} {C : Int × (Int → Int)} {X : Int → Tb} : (PBG I at_ e ds wd mo mx W X r0 r1 r2 p L C).2.2.2.2.1 = C := by
  unfold PBG
  by_cases a : e - p < nsz (if p < e then I p else 0)
  · rw [if_pos a]
  · rw [if_neg a]
    by_cases b : nsv I p = 0
    · rw [if_pos b]
      by_cases c : p + nsz (I p) < e
      · rw [if_pos c]
      · rw [if_neg c]
        by_cases d : mx < (L.length : Int)
        · rw [if_pos d]
        · rw [if_neg d]
    · rw [if_neg b]
      unfold SEQF
      by_cases c : (T3F I (p + nsz (I p)) e X).1 ≠ 0
      · rw [if_pos c]
      · rw [if_neg c]
theorem PBF_Z {I : Int → Int} {at_ e ds wd mo mx r0 r1 r2 p : Int} {W : List Int} {C : Int × (Int → Int)} {X : Int → Tb} {Z : LtR} (hZ : Z = LTF I at_ e mo C.1 C.2) (h : Z.1 = 0) (hp : Z.2.2.1 = p) : PBF I at_ e ds wd mo mx W C X r0 r1 r2 = PBG I at_ e ds wd mo mx W X r0 r1 r2 p Z.2.2.2.1 Z.2.2.2.2 := by
  subst hp
  unfold PBF
  rw [← hZ]
  exact if_neg (fun w => w h)
theorem PBF_F {I : Int → Int} {at_ e ds wd mo mx r0 r1 r2 f p : Int} {W : List Int} {C : Int × (Int → Int)} {X : Int → Tb} {Z : LtR} (hZ : Z = LTF I at_ e mo C.1 C.2) (h : Z = badL f p) (hf : f ≠ 0) : PBF I at_ e ds wd mo mx W C X r0 r1 r2 = (f, p, 0, W, C, X, r0, r1, r2) := PBF_f (T := C.1) (G := C.2) (hZ.symm.trans h) hf

def BKO (n at_ bl dn : Int) (W : List Int) (K : BkR) (ret pl bl2 dn2 : Int) (W2 : List Int) (la : Int → Int) : Prop :=
  (n - at_ < 3 ∧ ret = 1 ∧ pl = n ∧ W2 = W ∧ bl2 = bl ∧ dn2 = dn) ∨ (3 ≤ n - at_ ∧ bl2 = bl + 1 ∧ PQA K ret pl (dn2 - dn) W2 la)
section BKOx
variable {R : RdR} {I la : Int → Int} {n most h sa due wd at_ hs bl dn td r0 r1 r2 ret pl mx bl2 dn2 at2 be ds mo hs2 td2 w did a a2 : Int} {Dc : DcS} {B W W2 F A : List Int} {C : Int × (Int → Int)} {X : Int → Tb} {K : BkR}
theorem BKO_f (k : FRW R I n most Dc h sa due B wd at_ W hs bl dn td C X r0 r1 r2) (hm : mx = most - (B.length : Int) + (Dc.1.length : Int) - (W.length : Int)) (hK : K = BLF I at_ n (Dc.1.length : Int) wd (moF wd) mx W C X r0 r1 r2) (b : BKO n at_ bl dn W K ret pl bl2 dn2 W2 la) (hr : ret ≠ 0) (hF : W2.drop (Dc.1.length : Int).toNat = F) : R = (ret, pl, B ++ F, hs, bl2, dn2, td) := by
  rcases b with ⟨x, e1, e2, e3, e4, e5⟩ | ⟨x, e1, e2, e3, e4⟩
  · subst e1 e2 e3 e4 e5
    exact FRW_1 k x hF
  · obtain ⟨f, p, d, W1, C1, X1, q0, q1, q2⟩ := K
    have e2 : d = dn2 - dn := e2
    have e3 : W1 = W2 := e3
    rcases e4 with ⟨_, y, z⟩ | ⟨y, _⟩
    · have y : f = ret := y
      have z : p = pl := z
      subst y z e3
      have g := FRW_f k x hm hK.symm hr hF
      rw [g, e1, e2, show dn + (dn2 - dn) = dn2 by omega]
    · exact absurd y hr
theorem BKO_s (k : FRW R I n most Dc h sa due B wd at_ W hs bl dn td C X r0 r1 r2) (hm : mx = most - (B.length : Int) + (Dc.1.length : Int) - (W.length : Int)) (hK : K = BLF I at_ n (Dc.1.length : Int) wd (moF wd) mx W C X r0 r1 r2) (b : BKO n at_ bl dn W K ret pl bl2 dn2 W2 la) (hr : ret = 0) (hl : I at_ % 2 ≠ 1) (ha : at2 = at_ + 3 + bkB I at_) : FRW R I n most Dc h sa due B wd at2 W2 hs bl2 dn2 td K.2.2.2.2.1 K.2.2.2.2.2.1 (la 0) (la 1) (la 2) := by
  rcases b with ⟨_, e1, _⟩ | ⟨x, e1, e2, e3, e4⟩
  · omega
  · obtain ⟨f, p, d, W1, C1, X1, q0, q1, q2⟩ := K
    have f2 : d = dn2 - dn := e2
    have f3 : W1 = W2 := e3
    rcases e4 with ⟨y, _⟩ | ⟨_, y, z0, z1, z2⟩
    · exact absurd hr y
    · have y : f = 0 := y
      have z0 : la 0 = q0 := z0
      have z1 : la 1 = q1 := z1
      have z2 : la 2 = q2 := z2
      subst y f3
      have g := FRW_s k x hm hK.symm hl ha
      rw [f2, show dn + (dn2 - dn) = dn2 by omega, ← e1] at g
      rw [z0, z1, z2]
      exact g
theorem BKO_e (k : FRW R I n most Dc h sa due B wd at_ W hs bl dn td C X r0 r1 r2) (hm : mx = most - (B.length : Int) + (Dc.1.length : Int) - (W.length : Int)) (hK : K = BLF I at_ n (Dc.1.length : Int) wd (moF wd) mx W C X r0 r1 r2) (b : BKO n at_ bl dn W K ret pl bl2 dn2 W2 la) (hr : ret = 0) (hl : I at_ % 2 = 1) (ha : at2 = at_ + 3 + bkB I at_) (hF : W2.drop (Dc.1.length : Int).toNat = F) : R = FRQ I n most Dc (FEF I n h sa (szB h) due B F at2 hs bl2 dn2 td) := by
  rcases b with ⟨_, e1, _⟩ | ⟨x, e1, e2, e3, e4⟩
  · omega
  · obtain ⟨f, p, d, W1, C1, X1, q0, q1, q2⟩ := K
    have f2 : d = dn2 - dn := e2
    have f3 : W1 = W2 := e3
    rcases e4 with ⟨y, _⟩ | ⟨_, y, _⟩
    · exact absurd hr y
    · have y : f = 0 := y
      subst y f3
      have g := FRW_e k x hm hK.symm hl ha hF
      rw [f2, show dn + (dn2 - dn) = dn2 by omega, ← e1] at g
      exact g

theorem BKO_1 (hK : K = BLF I at_ n ds wd mo mx W C X r0 r1 r2) (u : UBA I n mo mx at_ ret pl at2 be A) (hr : ret ≠ 0) (hbl : 3 ≤ n - at_ ∧ bl2 = bl + 1 ∨ n - at_ < 3 ∧ bl2 = bl) (hW : A = [] → W2 = W) (hd : dn2 = dn) : BKO n at_ bl dn W K ret pl bl2 dn2 W2 la := by
  rcases u with ⟨x, y, z, q⟩ | ⟨x, ⟨_, q, y⟩ | ⟨y, _⟩ | ⟨y, _⟩⟩
  · exact .inl ⟨x, y, z, hW q, by omega, hd⟩
  · refine .inr ⟨x, by omega, PQA_f (hK.trans (y ds wd W C X r0 r1 r2)) hr rfl rfl (by omega) (hW q)⟩
  · exact absurd y hr
  · exact absurd y hr
theorem BKO_2 (hK : K = BLF I at_ n ds wd mo mx W C X r0 r1 r2) (u : UBA I n mo mx at_ ret pl at2 be A) (hr : ret = 0) (h0 : 0 ≤ at_) (hbe : be ≤ 0) (hbl : 3 ≤ n - at_ ∧ bl2 = bl + 1 ∨ n - at_ < 3 ∧ bl2 = bl) (hW : W2 = W ++ A) (hd : dn2 = dn) (q0 : la 0 = r0) (q1 : la 1 = r1) (q2 : la 2 = r2) : BKO n at_ bl dn W K ret pl bl2 dn2 W2 la ∧ at2 = at_ + 3 + bkB I at_ ∧ K.2.2.2.2.1 = C ∧ K.2.2.2.2.2.1 = X := by
  rcases u with ⟨_, y, _⟩ | ⟨x, ⟨y, _⟩ | ⟨_, _, y, z⟩ | ⟨_, _, y, z, q, _⟩⟩
  · omega
  · exact absurd hr y
  · have g := PQA_y (ret := ret) (pl := pl) (dn := dn2 - dn) (hK.trans (z ds wd W C X r0 r1 r2)) hr (by omega) hW q0 q1 q2
    exact ⟨.inr ⟨x, by omega, g.1⟩, y, g.2.2, g.2.1⟩
  · omega
theorem BKO_3 (hK : K = BLF I at_ n ds wd mo mx W C X r0 r1 r2) (u : UBA I n mo mx at_ ret pl at2 be A) (hr : ret = 0) (hbe : 0 < be) : 3 ≤ n - at_ ∧ be = at_ + 3 + bkB I at_ ∧ at2 = at_ + 3 ∧ A = [] ∧ K = PBF I at2 be ds wd mo mx W C X r0 r1 r2 := by
  rcases u with ⟨_, y, _⟩ | ⟨x, ⟨y, _⟩ | ⟨_, y, _⟩ | ⟨_, q, y, z, _, p⟩⟩
  · omega
  · exact absurd hr y
  · omega
  · exact ⟨x, y, z, q, hK.trans (p ds wd W C X r0 r1 r2)⟩

theorem BG_f (hR : R = LPF (0, 0, [], 0, 0, 0, 0) (UNs I n most Dc) (a, B, hs, bl, dn, td)) (b : BGA I n did hs td a ret pl a2 hs2 td2 w sa h) (hd : Dc.2.1 = did) (hr : ret ≠ 0) : R = (ret, pl, B, hs2, bl, dn, td2) := by
  rcases b with ⟨_, x⟩ | ⟨x, _⟩ | ⟨x, _⟩
  · rw [hR, LPF_e (x most Dc B bl dn hd)]
  · exact absurd x hr
  · exact absurd x hr
theorem BG_s (hR : R = LPF (0, 0, [], 0, 0, 0, 0) (UNs I n most Dc) (a, B, hs, bl, dn, td)) (b : BGA I n did hs td a ret pl a2 hs2 td2 w sa h) (hr : ret = 0) (he : hs2 = hs) : R = LPF (0, 0, [], 0, 0, 0, 0) (UNs I n most Dc) (a2, B, hs2, bl, dn, td2) ∧ a + 8 ≤ a2 := by
  rcases b with ⟨x, _⟩ | ⟨_, x, y, z, q⟩ | ⟨_, x, _⟩
  · exact absurd hr x
  · subst x y
    exact ⟨by rw [hR, LPF_s (q most Dc B bl dn)], z⟩
  · omega
theorem BG_w (hR : R = LPF (0, 0, [], 0, 0, 0, 0) (UNs I n most Dc) (a, B, hs, bl, dn, td)) (b : BGA I n did hs td a ret pl a2 hs2 td2 w sa h) (hd : Dc.2.1 = did) (hr : ret = 0) (he : hs2 ≠ hs) : FRW R I n most Dc h sa (dueF I sa (szB h)) B w a2 Dc.1 hs2 bl dn td2 Dc.2.2.1 Dc.2.2.2.1 Dc.2.2.2.2.1 Dc.2.2.2.2.2.1 Dc.2.2.2.2.2.2 ∧ a + 5 ≤ a2 ∧ hs2 = hs + 1 := by
  rcases b with ⟨x, _⟩ | ⟨_, x, _⟩ | ⟨_, x, y, z, q, p⟩
  · exact absurd hr x
  · exact absurd x he
  · subst hd
    exact ⟨FRW_0 hR (q most Dc B bl dn) p z, y, x⟩
theorem BG_z (b : BGA I n did hs td a ret pl a2 hs2 td2 w sa h) (hr : ret = 0) : hs2 = hs ∧ a + 8 ≤ a2 ∨ hs2 = hs + 1 ∧ a + 5 ≤ a2 := by
  rcases b with ⟨x, _⟩ | ⟨_, x, _, z, _⟩ | ⟨_, x, y, _⟩
  · exact absurd hr x
  · exact .inl ⟨x, z⟩
  · exact .inr ⟨x, y⟩
theorem UN_E (hR : R = LPF (0, 0, [], 0, 0, 0, 0) (UNs I n most Dc) (a, B, hs, bl, dn, td)) (ha : n ≤ a) : R = (0, n, B, hs, bl, dn, td) := by
  rw [hR, LPF_e (UN_0 ha)]
end BKOx
theorem RES_of {r : Int → Int} {cb rc ds : Int} {D B : List Int} (hB : B = sc r 0 cb) (hd : ds = (D.length : Int)) (h0 : 0 ≤ cb ∧ cb ≤ rc) : B ++ (D ++ sc r cb rc).drop ds.toNat = sc r 0 rc := by
  subst hd hB
  rw [show ((D.length : Nat) : Int).toNat = D.length from rfl, List.drop_left, ← sc_cat (b := cb) (by omega) (by omega)]
theorem SM_mid {g g1 : Int → Int} {cb n : Int} (h : sc g1 0 n = sc g 0 n) (h0 : 0 ≤ cb ∧ cb ≤ n) : sc g1 0 cb = sc g 0 cb ∧ sc g1 cb n = sc g cb n := by
  rw [sc_cat (f := g1) (b := cb) (by omega) (by omega), sc_cat (f := g) (b := cb) (by omega) (by omega)] at h
  exact List.append_inj h (by rw [sc_len, sc_len])
theorem WX_2 {g g1 : Int → Int} {cb n n2 : Int} {D : List Int} (h : sc g1 0 n = sc g 0 n) (h0 : 0 ≤ cb ∧ cb ≤ n ∧ n ≤ n2) : D ++ sc g1 cb n2 = (D ++ sc g cb n) ++ sc g1 n n2 := by
  rw [sc_cat (f := g1) (a := cb) (b := n) (by omega) (by omega), (SM_mid h (by omega)).2, List.append_assoc]
theorem WX_1 {g g1 : Int → Int} {cb n n2 : Int} {D : List Int} (h : sc g1 0 n = sc g 0 n) (h0 : 0 ≤ cb ∧ cb ≤ n ∧ n ≤ n2) (hA : sc g1 n n2 = []) : D ++ sc g1 cb n2 = D ++ sc g cb n := by
  rw [WX_2 h h0, hA, List.append_nil]
theorem WX_d {D X : List Int} {ds : Int} (hd : ds = (D.length : Int)) : (D ++ X).drop ds.toNat = X := by
  subst hd
  exact List.drop_left
theorem bkB_nn {I : Int → Int} {h : Int} : 0 ≤ bkB I h := by
  have k := (nvl_lt (I := I) (a := h) (n := 3) (by omega)).1
  unfold bkB
  split
  · decide
  · unfold bkN
    have k : 0 ≤ nvl I h 3 := k
    omega


end
section
/-! 19a -/
def bl8 : List Int → Int
  | [] => 0
  | b :: t => b + 2 * bl8 t
def b01 (B : List Int) : Prop := ∀ x, x ∈ B → x = 0 ∨ x = 1
def btw (v n : Int) : List Int := (List.range n.toNat).map (fun k : Nat => v / p2 (k : Int) % 2)
theorem btw_s {v n m : Int} (h : 0 ≤ n) (e : m = n + 1) : btw v m = btw v n ++ [v / p2 n % 2] := by
  subst e
  unfold btw
  rw [show (n + 1).toNat = n.toNat + 1 by omega, List.range_succ, List.map_append]
  show _ ++ [v / p2 ((n.toNat : Nat) : Int) % 2] = _
  rw [Int.toNat_of_nonneg h]
theorem btw_len {v n : Int} : (btw v n).length = n.toNat := by
  unfold btw
  rw [List.length_map, List.length_range]
theorem btw_lenI {v n : Int} (h : 0 ≤ n) : ((btw v n).length : Int) = n := by rw [btw_len]; omega
theorem b01_btw {v n : Int} : b01 (btw v n) := fun x hx => by
  unfold btw at hx
  obtain ⟨k, _, e⟩ := List.mem_map.mp hx
  have e : v / p2 (k : Int) % 2 = x := e
  omega
theorem b01_nil : b01 [] := fun x hx => by cases hx
theorem b01_app {X Y : List Int} (h : b01 X) (k : b01 Y) : b01 (X ++ Y) := fun x hx => by
  rcases List.mem_append.mp hx with q | q
  · exact h x q
  · exact k x q
theorem b01_one {b : Int} (h : b = 0 ∨ b = 1) : b01 [b] := fun x hx => by
  rcases List.mem_cons.mp hx with q | q
  · rw [q]; exact h
  · cases q
theorem bl8_app : ∀ {X Y : List Int}, bl8 (X ++ Y) = bl8 X + p2 (X.length : Int) * bl8 Y
  | [], Y => by
    show bl8 Y = 0 + p2 0 * bl8 Y
    rw [show p2 0 = 1 by decide]
    omega
  | b :: t, Y => by
    show b + 2 * bl8 (t ++ Y) = b + 2 * bl8 t + p2 (((b :: t).length : Nat) : Int) * bl8 Y
    rw [bl8_app (X := t), show (((b :: t).length : Nat) : Int) = (t.length : Int) + 1 by rw [List.length_cons]; omega, p2_s (by omega), Int.mul_assoc]
    omega
theorem bl8_rng : ∀ {X : List Int}, b01 X → 0 ≤ bl8 X ∧ bl8 X < p2 (X.length : Int)
  | [], _ => ⟨by show (0 : Int) ≤ 0; omega, by show (0 : Int) < p2 0; decide⟩
  | b :: t, h => by
    have k := bl8_rng (X := t) (fun x hx => h x (List.mem_cons.mpr (.inr hx)))
    have hb := h b (List.mem_cons.mpr (.inl rfl))
    have p := p2_s (y := (t.length : Int)) (by omega)
    rw [show (((b :: t).length : Nat) : Int) = (t.length : Int) + 1 by rw [List.length_cons]; omega]
    show 0 ≤ b + 2 * bl8 t ∧ b + 2 * bl8 t < p2 ((t.length : Int) + 1)
    omega
theorem bl8_one {b : Int} : bl8 [b] = b := by
  show b + 2 * 0 = b
  omega
theorem bl8_btw {v : Int} : ∀ n : Nat, bl8 (btw v (n : Int)) = v % p2 (n : Int)
  | 0 => by
    show (0 : Int) = v % p2 0
    rw [show p2 0 = 1 by decide]
    omega
  | n + 1 => by
    rw [show ((n + 1 : Nat) : Int) = (n : Int) + 1 by omega, btw_s (n := (n : Int)) (by omega) rfl, bl8_app, bl8_one, bl8_btw n, btw_lenI (by omega), p2_s (by omega), em2 (by have := p2_pos (n : Int); omega)]
    rw [Int.mul_comm]
theorem bl8_bt {v n : Int} (h : 0 ≤ n) : bl8 (btw v n) = v % p2 n := by
  have k := bl8_btw (v := v) n.toNat
  rw [show ((n.toNat : Nat) : Int) = n by omega] at k
  exact k
theorem btw_congr {v w n : Int} (h : v % p2 n = w % p2 n) : btw v n = btw w n := by
  unfold btw
  refine List.map_congr_left (fun k hk => ?_)
  have hk := List.mem_range.mp hk
  have e : p2 n = p2 (k : Int) * (2 * p2 (n - (k : Int) - 1)) := by
    have e1 := p2_add (x := (k : Int)) (y := n - (k : Int)) (by omega) (by omega)
    rw [show (k : Int) + (n - (k : Int)) = n by omega] at e1
    have e2 := p2_s (y := n - (k : Int) - 1) (by omega)
    rw [show n - (k : Int) - 1 + 1 = n - (k : Int) by omega] at e2
    rw [e1, e2]
  have g : ∀ x : Int, x / p2 (k : Int) % 2 = x % p2 n / p2 (k : Int) % 2 := fun x => by
    have h1 := Int.emod_add_mul_ediv x (p2 n)
    have h2 : x / p2 (k : Int) = x % p2 n / p2 (k : Int) + 2 * (p2 (n - (k : Int) - 1) * (x / p2 n)) := by
      have q := Int.add_mul_ediv_left (x % p2 n) (2 * (p2 (n - (k : Int) - 1) * (x / p2 n))) (show p2 (k : Int) ≠ 0 by have := p2_pos (k : Int); omega)
      rw [← q]
      congr 1
      rw [← Int.mul_assoc 2, ← Int.mul_assoc (p2 (k : Int)), ← e]
      omega
    rw [h2, Int.add_mul_emod_self_left]
  rw [g v, g w, h]

theorem sh_lo {V w n i : Int} (hi : 0 ≤ i) (hn : 8 * i + 8 ≤ n) : u8 ((V + p2 n * w) / p2 (8 * i)) = u8 (V / p2 (8 * i)) := by
  obtain ⟨m, hm, e⟩ : ∃ m, 0 ≤ m ∧ n = 8 * i + (8 + m) := ⟨n - 8 * i - 8, by omega, by omega⟩
  subst e
  unfold u8
  rw [p2_add (x := 8 * i) (by omega) (by omega), p2_add (x := 8) (by omega) hm, show p2 8 = 256 by decide, Int.mul_assoc (p2 (8 * i)), Int.add_mul_ediv_left _ _ (show p2 (8 * i) ≠ 0 by have := p2_pos (8 * i); omega), Int.mul_assoc 256, Int.add_mul_emod_self_left]
theorem sh_hi {V w n i : Int} (hi : 0 ≤ i) (hn : 8 * i ≤ n) : (V + p2 n * w) / p2 (8 * i) = V / p2 (8 * i) + p2 (n - 8 * i) * w := by
  obtain ⟨m, hm, e⟩ : ∃ m, 0 ≤ m ∧ n = 8 * i + m := ⟨n - 8 * i, by omega, by omega⟩
  subst e
  rw [p2_add (x := 8 * i) (by omega) hm, Int.mul_assoc (p2 (8 * i)), Int.add_mul_ediv_left _ _ (show p2 (8 * i) ≠ 0 by have := p2_pos (8 * i); omega), show 8 * i + m - 8 * i = m by omega]
theorem dv8 {V j j2 : Int} (h : 0 ≤ j) (e : j2 = j + 1) : V / p2 (8 * j) / 256 = V / p2 (8 * j2) := by
  subst e
  rw [show 8 * (j + 1) = 8 * j + 8 by omega, p2_add (by omega) (by omega), show p2 8 = 256 by decide, Int.ediv_ediv_of_nonneg (by have := p2_pos (8 * j); omega)]
theorem dv_0 {V n j : Int} (h : 0 ≤ V ∧ V < p2 n) (hj : n ≤ j) : V / p2 j = 0 := by
  have := p2_mono hj
  exact Int.ediv_eq_zero_of_lt h.1 (by omega)
theorem dv_lt {V n j : Int} (h : 0 ≤ V ∧ V < p2 n) (h0 : 0 ≤ j) (hj : j ≤ n) : 0 ≤ V / p2 j ∧ V / p2 j < p2 (n - j) := by
  have q := p2_pos j
  refine ⟨Int.ediv_nonneg h.1 (by omega), Int.ediv_lt_of_lt_mul (by omega) ?_⟩
  have e := p2_add (x := n - j) (y := j) (by omega) h0
  rw [show n - j + j = n by omega] at e
  omega
theorem nb_lo {V w n j : Int} (h : 8 * j ≤ n) : nb (V + p2 n * w) j = nb V j := by
  unfold nb
  refine List.map_congr_left (fun k hk => ?_)
  have hk := List.mem_range.mp hk
  exact sh_lo (by omega) (by omega)

def MDB (g : Int → Int) (n : Int) (B : List Int) : Prop := n = (B.length : Int) ∧ b01 B ∧ ∀ k, 0 ≤ k → k < 24000 → g k = u8 (bl8 B / p2 (8 * k))
def MDA (g0 : Int → Int) (n0 : Int) (g1 : Int → Int) (n1 : Int) (M : List Int) : Prop := ∀ B, MDB g0 n0 B → MDB g1 n1 (B ++ M)
theorem MDA_0 {g : Int → Int} {n : Int} : MDA g n g n [] := fun B h => by rw [List.append_nil]; exact h
theorem MDA_t {g0 g1 g2 : Int → Int} {n0 n1 n2 : Int} {M N : List Int} (h : MDA g0 n0 g1 n1 M) (k : MDA g1 n1 g2 n2 N) : MDA g0 n0 g2 n2 (M ++ N) := fun B q => by
  rw [← List.append_assoc]
  exact k _ (h B q)
theorem MDB_new {g : Int → Int} (h : ∀ k, 0 ≤ k → k < 24000 → g k = 0) : MDB g 0 [] := ⟨rfl, b01_nil, fun k a b => by
  rw [h k a b]
  show (0 : Int) = u8 (0 / p2 (8 * k))
  rw [Int.zero_ediv]
  rfl⟩
theorem MDB_z {g : Int → Int} {n k : Int} {B : List Int} (h : MDB g n B) (h0 : 0 ≤ k) (h1 : k < 24000) (hk : n ≤ 8 * k) : g k = 0 := by
  have r := bl8_rng h.2.1
  rw [← h.1] at r
  rw [h.2.2 k h0 h1, dv_0 r hk]
  rfl
theorem MDB_1 {g : Int → Int} {n b z k m : Int} {B : List Int} (h : MDB g n B) (hb : b = 0 ∨ b = 1) (hk : k = n / 8) (hz : z = g k + b * p2 (n % 8)) (hn : n < 192000) (e : m = n + 1) : MDB (upd1 g k z) m (B ++ [b]) := by
  obtain ⟨h1, h2, h3⟩ := h
  have r := bl8_rng h2
  rw [← h1] at r
  have n0 : 0 ≤ n := by omega
  have ev : bl8 (B ++ [b]) = bl8 B + p2 n * b := by rw [bl8_app, bl8_one, ← h1]
  have r2 : 0 ≤ bl8 B + p2 n * b ∧ bl8 B + p2 n * b < p2 (n + 1) := by
    have p := p2_s (y := n) n0
    rcases hb with q | q <;> rw [q] <;> omega
  refine ⟨by rw [List.length_append, e, h1]; rfl, b01_app h2 (b01_one hb), fun i a c => ?_⟩
  rw [ev]
  rcases (show i < k ∨ i = k ∨ k < i by omega) with q | q | q
  · rw [upd1_o (by omega), h3 i a c, sh_lo a (by omega)]
  · subst q
    rw [upd1_s, hz, h3 i a c, sh_hi a (by omega), show n - 8 * i = n % 8 by omega]
    have d := dv_lt (j := 8 * i) r (by omega) (by omega)
    rw [show n - 8 * i = n % 8 by omega] at d
    have t : p2 (n % 8) ≤ p2 7 := p2_mono (by omega)
    rw [show p2 7 = 128 by decide] at t
    have p0 := p2_pos (n % 8)
    unfold u8
    rcases hb with w | w <;> rw [w] <;> omega
  · rw [upd1_o (by omega), h3 i a c, dv_0 r (by omega), dv_0 r2 (by omega)]
theorem MDB_f {g : Int → Int} {n m : Int} {B : List Int} (h : MDB g n B) (e : m = n + 1) : MDB g m (B ++ [0]) := by
  obtain ⟨h1, h2, h3⟩ := h
  refine ⟨by rw [List.length_append, e, h1]; rfl, b01_app h2 (b01_one (.inl rfl)), fun i a c => ?_⟩
  rw [h3 i a c, bl8_app, bl8_one, Int.mul_zero, Int.add_zero]

def pd8 (B : List Int) : List Int := B ++ List.replicate ((8 - B.length % 8) % 8) 0
def byw (B : List Int) : List Int := nb (bl8 B) (((B.length : Int) + 7) / 8)
theorem bl8_z : ∀ n : Nat, bl8 (List.replicate n 0) = 0
  | 0 => rfl
  | n + 1 => by
    show 0 + 2 * bl8 (List.replicate n 0) = 0
    rw [bl8_z n]
    rfl
theorem byw_pd {B : List Int} : byw (pd8 B) = byw B := by
  unfold byw pd8
  rw [bl8_app, bl8_z, Int.mul_zero, Int.add_zero, List.length_append, List.length_replicate]
  congr 1
  omega
theorem pd8_len {B : List Int} : (pd8 B).length % 8 = 0 ∧ (pd8 B).length = (B.length + 7) / 8 * 8 := by
  unfold pd8
  rw [List.length_append, List.length_replicate]
  omega

def MDF (g : Int → Int) (n : Int) (B : List Int) : Prop := ∃ k : Nat, MDB g n (B ++ List.replicate k 0) ∧ k < 8 ∧ (n - 1) / 8 = ((B.length : Int) - 1) / 8
theorem MDF_0 {g : Int → Int} {n : Int} {B : List Int} (h : MDB g n B) : MDF g n B := ⟨0, by rw [List.replicate_zero, List.append_nil]; exact h, by decide, by rw [h.1]⟩
theorem MDF_s {g : Int → Int} {n m : Int} {B : List Int} (h : MDF g n B) (hn : n % 8 ≠ 0) (e : m = n + 1) : MDF g m B := by
  obtain ⟨k, h1, h2, h3⟩ := h
  have l := h1.1
  rw [List.length_append, List.length_replicate] at l
  refine ⟨k + 1, ?_, by omega, by omega⟩
  rw [List.replicate_succ', ← List.append_assoc]
  exact MDB_f h1 e
theorem MDF_e {g : Int → Int} {n : Int} {B : List Int} (h : MDF g n B) (hn : n % 8 = 0) : MDB g n (pd8 B) := by
  obtain ⟨k, h1, h2, h3⟩ := h
  have l := h1.1
  rw [List.length_append, List.length_replicate] at l
  have e : k = (8 - B.length % 8) % 8 := by omega
  unfold pd8
  rw [← e]
  exact h1

theorem MDB_sc {g : Int → Int} {n : Int} {B : List Int} (h : MDB g n B) (hn : n ≤ 192000) : ∀ {k : Int}, 0 ≤ k → 8 * k ≤ n → sc g 0 k = nb (bl8 B) k := fun {k} k0 hk => by
  rw [sc_e]
  unfold sc0 nb
  rw [show (k - 0).toNat = k.toNat by omega]
  refine List.map_congr_left (fun i hi => ?_)
  have hi := List.mem_range.mp hi
  show u8 (g (0 + (i : Int))) = _
  rw [show (0 : Int) + (i : Int) = (i : Int) by omega, h.2.2 (i : Int) (by omega) (by omega)]
  unfold u8
  omega
theorem MDB_by {g : Int → Int} {n : Int} {B : List Int} (h : MDB g n B) (hn : n ≤ 192000) (h8 : n % 8 = 0) : sc g 0 (n / 8) = byw B := by
  rw [MDB_sc h hn (by have := h.1; omega) (by omega)]
  unfold byw
  rw [← h.1]
  congr 1
  omega

theorem MDB_h {g : Int → Int} {n v : Int} {B : List Int} (h : MDB g n (btw 0 8 ++ B)) (hv : 0 ≤ v ∧ v ≤ 255) : MDB (upd1 g 0 v) n (btw v 8 ++ B) := by
  obtain ⟨h1, h2, h3⟩ := h
  rw [List.length_append, btw_len] at h1
  have hB : b01 B := fun x hx => h2 x (List.mem_append.mpr (.inr hx))
  have ev : ∀ w : Int, 0 ≤ w ∧ w ≤ 255 → bl8 (btw w 8 ++ B) = w + 256 * bl8 B := fun w hw => by
    rw [bl8_app, bl8_bt (by decide), btw_lenI (by decide), show p2 8 = 256 by decide, Int.emod_eq_of_lt hw.1 (by omega)]
  have dv : ∀ w i : Int, 0 ≤ w ∧ w ≤ 255 → 1 ≤ i → (w + 256 * bl8 B) / p2 (8 * i) = bl8 B / p2 (8 * (i - 1)) := fun w i hw hi => by
    have e := p2_add (x := 8) (y := 8 * (i - 1)) (by decide) (by omega)
    rw [show 8 + 8 * (i - 1) = 8 * i by omega, show p2 8 = 256 by decide] at e
    rw [e, ← Int.ediv_ediv_of_nonneg (show (0 : Int) ≤ 256 by decide)]
    congr 1
    omega
  refine ⟨by rw [List.length_append, btw_len]; exact h1, b01_app b01_btw hB, fun i a c => ?_⟩
  rw [ev v hv]
  by_cases q : i = 0
  · subst q
    rw [upd1_s, show 8 * (0 : Int) = 0 by decide, show p2 0 = 1 by decide, Int.ediv_one]
    unfold u8
    omega
  · rw [upd1_o q, h3 i a c, ev 0 (by decide), dv 0 i (by decide) (by omega), dv v i hv (by omega)]

def RBB (bu : Int) (g : Int → Int) (n held hb : Int) (L B : List Int) : Prop := bu = 0 ∧ b01 B ∧ ∃ j, 0 ≤ j ∧ sc g 0 n = L ++ nb (bl8 B) j ∧ held = bl8 B / p2 (8 * j) ∧ hb = (B.length : Int) - 8 * j ∧ 0 ≤ hb
def RBA (b0 : Int) (g0 : Int → Int) (n0 h0 k0 b1 : Int) (g1 : Int → Int) (n1 h1 k1 : Int) (M : List Int) : Prop := ∀ L B, RBB b0 g0 n0 h0 k0 L B → RBB b1 g1 n1 h1 k1 L (B ++ M)
theorem RBA_t {b0 n0 h0 k0 b1 n1 h1 k1 b2 n2 h2 k2 : Int} {g0 g1 g2 : Int → Int} {M N : List Int} (x : RBA b0 g0 n0 h0 k0 b1 g1 n1 h1 k1 M) (y : RBA b1 g1 n1 h1 k1 b2 g2 n2 h2 k2 N) : RBA b0 g0 n0 h0 k0 b2 g2 n2 h2 k2 (M ++ N) := fun L B q => by
  rw [← List.append_assoc]
  exact y _ _ (x L B q)
theorem RBB_new {b n h k : Int} {g : Int → Int} {L : List Int} (hb : b = 0) (hL : sc g 0 n = L) (hh : h = 0) (hk : k = 0) : RBB b g n h k L [] := by
  subst hb hh hk
  refine ⟨rfl, b01_nil, 0, Int.le_refl 0, by rw [hL]; exact (List.append_nil L).symm, ?_, rfl, Int.le_refl 0⟩
  show (0 : Int) = 0 / p2 (8 * 0)
  rw [Int.zero_ediv]
theorem RBB_put {b n h k h2 k2 v m : Int} {g : Int → Int} {L B : List Int} (q : RBB b g n h k L B) (hm : 0 ≤ m) (eh : h2 = h + v % p2 m * p2 k) (ek : k2 = k + m) : RBB b g n h2 k2 L (B ++ btw v m) := by
  obtain ⟨q1, q2, j, j0, q3, q4, q5, q6⟩ := q
  have ev : bl8 (B ++ btw v m) = bl8 B + p2 (B.length : Int) * (v % p2 m) := by rw [bl8_app, bl8_bt hm]
  refine ⟨q1, b01_app q2 b01_btw, j, j0, ?_, ?_, ?_, by omega⟩
  · rw [ev, nb_lo (by omega)]
    exact q3
  · rw [ev, sh_hi j0 (by omega), eh, q4, q5, Int.mul_comm (v % p2 m)]
  · rw [List.length_append, ek, q5]
    have := btw_lenI (v := v) hm
    omega
theorem RBB_out {b n h k h2 k2 n2 w : Int} {g : Int → Int} {L B : List Int} (q : RBB b g n h k L B) (h8 : 8 ≤ k) (h0 : 0 ≤ n) (hw : u8 w = u8 h) (en : n2 = n + 1) (eh : h2 = h / 256) (ek : k2 = k - 8) : RBB b (upd1 g n w) n2 h2 k2 L B := by
  obtain ⟨q1, q2, j, j0, q3, q4, q5, q6⟩ := q
  refine ⟨q1, q2, j + 1, by omega, ?_, ?_, by omega, by omega⟩
  · rw [nb_s j0 rfl, ← List.append_assoc, ← q3, ← q4, ← hw, sc_snoc (b := n) h0 en, upd1_s]
    congr 1
    exact sc_same (fun i a c => upd1_o (by omega))
  · rw [eh, q4]
    exact dv8 j0 rfl

theorem RBB_end {b n h k n2 w : Int} {g : Int → Int} {L B : List Int} (q : RBB b g n h k L B) (h0 : 0 ≤ n) (hk : 0 < k ∧ k < 8) (hw : u8 w = u8 h) (en : n2 = n + 1) : sc (upd1 g n w) 0 n2 = L ++ byw B := by
  obtain ⟨q1, q2, j, j0, q3, q4, q5, q6⟩ := q
  unfold byw
  rw [show ((B.length : Int) + 7) / 8 = j + 1 by omega, nb_s j0 rfl, ← List.append_assoc, ← q3, ← q4, ← hw, sc_snoc (b := n) h0 en, upd1_s]
  congr 1
  exact sc_same (fun i a c => upd1_o (by omega))
theorem RBB_en0 {b n h k : Int} {g : Int → Int} {L B : List Int} (q : RBB b g n h k L B) (hk : k = 0) : sc g 0 n = L ++ byw B := by
  obtain ⟨q1, q2, j, j0, q3, q4, q5, q6⟩ := q
  unfold byw
  rw [show ((B.length : Int) + 7) / 8 = j by omega]
  exact q3

def RBE (b0 : Int) (g0 : Int → Int) (n0 h0 k0 b1 : Int) (g1 : Int → Int) (n1 h1 k1 : Int) : Prop := ∀ L B, RBB b0 g0 n0 h0 k0 L B → RBB b1 g1 n1 h1 k1 (L ++ byw B) []

theorem orI_shk {x b k : Int} (hk : 0 ≤ k ∧ k ≤ 30) (hx : 0 ≤ x ∧ x < p2 k) (hb : 0 ≤ b) (hp : x + b * p2 k < 2147483648) : orI x (b * p2 k) = x + b * p2 k := by
  have hq := p2_pos k
  have hm : 0 ≤ b * p2 k := Int.mul_nonneg hb (by omega)
  have hpk : p2 k ≤ p2 30 := p2_mono hk.2
  rw [show p2 30 = 1073741824 by decide] at hpk
  have e := nU_or x (b * p2 k)
  have e2 := nU_m (orI x (b * p2 k))
  have r : inr (orI x (b * p2 k)) := toI_inr _
  have r : -2147483648 ≤ orI x (b * p2 k) ∧ orI x (b * p2 k) ≤ 2147483647 := r
  have k0 : nU x = x.toNat := by unfold nU; omega
  have k1 : nU (b * p2 k) = b.toNat * 2 ^ k.toNat := by
    have w : nU (b * p2 k) = (b * p2 k).toNat := by unfold nU; omega
    rw [w]
    apply Int.ofNat_inj.mp
    rw [Int.toNat_of_nonneg hm, Int.natCast_mul, Int.toNat_of_nonneg hb]
    rfl
  have ep : ((2 ^ k.toNat : Nat) : Int) = p2 k := rfl
  rw [k0, k1, or_add (k := k.toNat) (by omega)] at e
  have f : ((x.toNat + b.toNat * 2 ^ k.toNat : Nat) : Int) = x + b * p2 k := by
    rw [Int.natCast_add, Int.natCast_mul, Int.toNat_of_nonneg hx.1, Int.toNat_of_nonneg hb, ep]
  rw [e] at e2
  have w := e2
  rw [f] at w
  omega
theorem srI_g {v k : Int} (hv : inr v) (hk : 0 ≤ k ∧ k ≤ 31) : srI v k = v / p2 k := shr32 hv hk
theorem MDA_1 {g : Int → Int} {n k z b m : Int} (hk : k = n / 8) (hz : z = orI (g k) (slI b (n % 8))) (hb : b = 0 ∨ b = 1) (hn : n < 192000) (e : m = n + 1) : MDA g n (upd1 g k z) m [b] := fun B h => by
  have r := bl8_rng h.2.1
  rw [← h.1] at r
  have n0 : 0 ≤ n := by have := h.1; omega
  have d := dv_lt (j := 8 * k) r (by omega) (by omega)
  rw [show n - 8 * k = n % 8 by omega] at d
  have t : p2 (n % 8) ≤ p2 7 := p2_mono (by omega)
  rw [show p2 7 = 128 by decide] at t
  have gk : g k = bl8 B / p2 (8 * k) := by
    rw [h.2.2 k (by omega) (by omega)]
    exact u8_id (by omega)
  refine MDB_1 h hb hk ?_ hn e
  rw [hz, orI_sh (by omega) (by rw [gk]; omega) (by omega)]
theorem MDA_p {g0 g1 g2 : Int → Int} {n0 n1 n2 v k k2 : Int} (h : MDA g0 n0 g1 n1 (btw v k)) (w : MDA g1 n1 g2 n2 [v / p2 k % 2]) (hk : 0 ≤ k) (e : k2 = k + 1) : MDA g0 n0 g2 n2 (btw v k2) := by
  rw [btw_s hk e]
  exact MDA_t h w
def MDQ (g : Int → Int) (n0 n : Int) : Prop := ∀ B, MDB g n0 B → MDF g n B
def MDP (g0 : Int → Int) (n0 : Int) (g1 : Int → Int) (n1 : Int) : Prop := ∀ B, MDB g0 n0 B → MDB g1 n1 (pd8 B)
def MDX (g : Int → Int) (n : Int) : Prop := ∃ B, MDB g n B
def ZBL (g0 g : Int → Int) (l : Int) : Prop := ∀ k, 0 ≤ k → k < 24000 → (k < l → g k = 0) ∧ (l ≤ k → g k = g0 k)
theorem ZBL_0 {g : Int → Int} : ZBL g g 0 := fun k a _ => ⟨fun h => absurd h (by omega), fun _ => rfl⟩
theorem ZBL_s {g0 g : Int → Int} {l l2 : Int} (h : ZBL g0 g l) (h0 : 0 ≤ l) (e : l2 = l + 1) : ZBL g0 (upd1 g l 0) l2 := fun k a b => by
  have w := h k a b
  by_cases q : k = l
  · rw [q, upd1_s]
    exact ⟨fun _ => rfl, fun z => by omega⟩
  · rw [upd1_o q]
    exact ⟨fun z => w.1 (by omega), fun z => w.2 (by omega)⟩
theorem ZBL_e {g0 g : Int → Int} {l n : Int} {B : List Int} (h : ZBL g0 g l) (hB : MDB g0 n B) (hl : 24000 ≤ l ∨ n ≤ 8 * l) : MDB g 0 [] := MDB_new (fun k a b => by
  have w := h k a b
  by_cases q : k < l
  · exact w.1 q
  · rw [w.2 (by omega)]
    exact MDB_z hB a b (by omega))
theorem QAP_iu {cap n m v w : Int} {g : Int → Int} (h0 : 0 ≤ n) (hv : w = u8 v) (hm : m = n + 1) : QAP cap g n (upd1 g n w) m [u8 v] := by
  subst hv
  exact QAP_in h0 (u8_rng v) hm
theorem us8 {r : Int} (h : 0 ≤ r ∧ r ≤ 2147483647) : usI r 8 = r / 256 := by
  have h1 := nU_us0 (x := r) (k := 8) (by omega)
  have h2 := nU_m (usI r 8)
  have h3 := nU_m r
  have h4 : inr (usI r 8) := toI_inr _
  have h4 : -2147483648 ≤ usI r 8 ∧ usI r 8 ≤ 2147483647 := h4
  rw [show (8 : Int).toNat = 8 from rfl] at h1
  omega
theorem sbI_1 {a : Int} (h : 1 ≤ a ∧ a ≤ 2147483647) : sbI a 1 = a - 1 := by
  have m := sbI_m a 1
  have r : inr (sbI a 1) := toI_inr _
  have r : -2147483648 ≤ sbI a 1 ∧ sbI a 1 ≤ 2147483647 := r
  omega
theorem andI_wi {v n : Int} (hn : 0 ≤ n ∧ n ≤ 16) (hv : inr v) : andI v (sbI (slI 1 n) 1) = v % p2 n := by
  have hq := p2_pos n
  have hp : p2 n ≤ p2 16 := p2_mono hn.2
  rw [show p2 16 = 65536 by decide] at hp
  have e1 : slI 1 n = p2 n := by
    unfold slI
    rw [shl32 (by omega), Int.one_mul]
    exact toI_ofI (by omega)
  rw [e1, sbI_1 (by omega)]
  have e := andI_w (x := v) (L := n) (by omega)
  rw [show w32 v = v from toI_ofI hv] at e
  exact e
theorem orI_abx {h v n k : Int} (hn : 0 ≤ n ∧ n ≤ 16) (hk : 0 ≤ k ∧ k ≤ 7) (hh : 0 ≤ h ∧ h < p2 k) (hv : inr v) : orI h (slI (andI v (sbI (slI 1 n) 1)) k) = h + v % p2 n * p2 k := by
  have hq := p2_pos n
  have hp : p2 n ≤ p2 16 := p2_mono hn.2
  rw [show p2 16 = 65536 by decide] at hp
  have hq2 := p2_pos k
  have hp2 : p2 k ≤ p2 7 := p2_mono hk.2
  rw [show p2 7 = 128 by decide] at hp2
  have r0 := Int.emod_nonneg v (show p2 n ≠ 0 by omega)
  have r1 := Int.emod_lt_of_pos v (show 0 < p2 n by omega)
  obtain ⟨x, hx⟩ : ∃ x, x = v % p2 n := ⟨_, rfl⟩
  rw [andI_wi hn hv, ← hx]
  rw [← hx] at r0 r1
  have m0 : 0 ≤ x * p2 k := Int.mul_nonneg r0 (by omega)
  have m1 : x * p2 k ≤ 65535 * 128 := Int.mul_le_mul (by omega) hp2 (by omega) (by omega)
  have e2 : slI x k = x * p2 k := by
    unfold slI
    rw [shl32 (by omega)]
    exact toI_ofI (by omega)
  rw [e2]
  exact orI_shk (by omega) hh r0 (by omega)
theorem hd8 {h k k2 : Int} (hh : 0 ≤ h ∧ h < p2 k) (h8 : 8 ≤ k) (e : k2 = k - 8) : 0 ≤ h / 256 ∧ h / 256 < p2 k2 := by
  subst e
  have w := p2_add (x := k - 8) (y := 8) (by omega) (by decide)
  rw [show k - 8 + 8 = k by omega, show p2 8 = 256 by decide] at w
  omega
theorem RBA_put {b n h k h2 k2 v m : Int} {g : Int → Int} (hm : 0 ≤ m) (eh : h2 = h + v % p2 m * p2 k) (ek : k2 = k + m) : RBA b g n h k b g n h2 k2 (btw v m) := fun _ _ q => RBB_put q hm eh ek
theorem RBA_out {b0 n0 h0 k0 b n h k h2 k2 n2 w : Int} {g0 g : Int → Int} {M : List Int} (q : RBA b0 g0 n0 h0 k0 b g n h k M) (h8 : 8 ≤ k) (hn : 0 ≤ n) (hw : u8 w = u8 h) (en : n2 = n + 1) (eh : h2 = h / 256) (ek : k2 = k - 8) : RBA b0 g0 n0 h0 k0 b (upd1 g n w) n2 h2 k2 M := fun L B x => RBB_out (q L B x) h8 hn hw en eh ek
theorem RBE_y {b n h k n2 w : Int} {g : Int → Int} (h0 : 0 ≤ n) (hk : 0 < k ∧ k < 8) (hw : u8 w = u8 h) (en : n2 = n + 1) : RBE b g n h k b (upd1 g n w) n2 0 0 := fun _ _ q => RBB_new q.1 (RBB_end q h0 hk hw en) rfl rfl
theorem RBE_0 {b n h k : Int} {g : Int → Int} (hk : k = 0) : RBE b g n h k b g n 0 0 := fun _ _ q => RBB_new q.1 (RBB_en0 q hk) rfl rfl
theorem hdq {h2 h v n k k2 : Int} (e : h2 = h + v % p2 n * p2 k) (h0 : 0 ≤ h) (h1 : h < p2 k) (hk : 0 ≤ k ∧ 0 ≤ n) (e2 : k2 = k + n) : 0 ≤ h2 ∧ h2 < p2 k2 := by
  subst e e2
  have q := p2_pos k
  have q2 := p2_pos n
  have r0 := Int.emod_nonneg v (show p2 n ≠ 0 by omega)
  have r1 := Int.emod_lt_of_pos v (show 0 < p2 n by omega)
  have m0 : 0 ≤ v % p2 n * p2 k := Int.mul_nonneg r0 (by omega)
  have m1 : (v % p2 n + 1) * p2 k ≤ p2 n * p2 k := Int.mul_le_mul_of_nonneg_right (by omega) (by omega)
  rw [Int.add_mul, Int.one_mul] at m1
  rw [Int.add_comm k n, p2_add hk.2 hk.1]
  omega


end
section
/-! 19c -/
def gsB (f : Int → Int) (v : Int) : Nat → Int
  | 0 => 0
  | n + 1 => if f (n : Int) ≤ v then (n : Int) else gsB f v n
theorem gsB_is {f : Int → Int} {v s : Int} : ∀ {n : Nat}, 0 ≤ s → s < (n : Int) → (s = 0 ∨ f s ≤ v) → (∀ i, s < i → i < (n : Int) → v < f i) → gsB f v n = s
  | 0, h0, h1, _, _ => by omega
  | n + 1, h0, h1, h2, h3 => by
    show (if f (n : Int) ≤ v then (n : Int) else gsB f v n) = s
    by_cases q : s = (n : Int)
    · rcases h2 with z | z
      · by_cases c : f (n : Int) ≤ v
        · rw [if_pos c, q]
        · rw [if_neg c]
          have n0 : n = 0 := by omega
          subst n0
          rw [z]
          rfl
      · rw [q] at z
        rw [if_pos z, q]
    · have w := h3 (n : Int) (by omega) (by omega)
      rw [if_neg (by omega)]
      exact gsB_is h0 (by omega) h2 (fun i a b => h3 i a (by omega))

theorem lBs_mo : ∀ i j : Int, 0 ≤ i → i < j → j < 36 → lBs i < lBs j := fun i j a b c => by
  have k : ∀ x y : Fin 36, x.val < y.val → lBs (x.val : Int) < lBs (y.val : Int) := by decide +kernel
  have := k ⟨i.toNat, by omega⟩ ⟨j.toNat, by omega⟩ (by show i.toNat < j.toNat; omega)
  rw [show ((i.toNat : Nat) : Int) = i by omega, show ((j.toNat : Nat) : Int) = j by omega] at this
  exact this
theorem mBs_mo : ∀ i j : Int, 0 ≤ i → i < j → j < 53 → mBs i < mBs j := fun i j a b c => by
  have k : ∀ x y : Fin 53, x.val < y.val → mBs (x.val : Int) < mBs (y.val : Int) := by decide +kernel
  have := k ⟨i.toNat, by omega⟩ ⟨j.toNat, by omega⟩ (by show i.toNat < j.toNat; omega)
  rw [show ((i.toNat : Nat) : Int) = i by omega, show ((j.toNat : Nat) : Int) = j by omega] at this
  exact this
theorem gsB_l {v s : Int} (h0 : 0 ≤ s ∧ s < 35) (h1 : s = 0 ∨ lBs s ≤ v) (h2 : v < lBs (s + 1)) : s = gsB lBs v 36 := (gsB_is (n := 36) h0.1 (by omega) h1 (fun i a b => by
  rcases (show i = s + 1 ∨ s + 1 < i by omega) with q | q
  · rw [q]; exact h2
  · have := lBs_mo (s + 1) i (by omega) q (by omega)
    omega)).symm
theorem gsB_m {v s : Int} (h0 : 0 ≤ s ∧ s < 52) (h1 : s = 0 ∨ mBs s ≤ v) (h2 : v < mBs (s + 1)) : s = gsB mBs v 53 := (gsB_is (n := 53) h0.1 (by omega) h1 (fun i a b => by
  rcases (show i = s + 1 ∨ s + 1 < i by omega) with q | q
  · rw [q]; exact h2
  · have := mBs_mo (s + 1) i (by omega) q (by omega)
    omega)).symm
theorem gsB_p {v s : Int} (h0 : 0 ≤ s ∧ s ≤ 30) (h1 : p2 s ≤ v) (h2 : v < 2 * p2 s) : s = gsB p2 v 31 := (gsB_is (n := 31) h0.1 (by omega) (.inr h1) (fun i a b => by
  have e := p2_s (y := s) h0.1
  have m := p2_mono (show s + 1 ≤ i by omega)
  omega)).symm

def nuC (r0 r1 r2 li k : Int) : Int := if (if li = 0 then k + 1 else k) = 1 then r0 else if (if li = 0 then k + 1 else k) = 2 then r1 else if (if li = 0 then k + 1 else k) = 3 then r2 else r0 - 1
def nuG (r0 r1 r2 d li k : Int) : Int := if k ≤ 1 ∧ nuC r0 r1 r2 li 1 = d then 1 else if k ≤ 2 ∧ nuC r0 r1 r2 li 2 = d then 2 else if k ≤ 3 ∧ nuC r0 r1 r2 li 3 = d then 3 else d + 3
section NUx
variable {r0 r1 r2 d li k k2 w x : Int}
theorem nuC_w (hw : li = 0 ∧ w = k + 1 ∨ li ≠ 0 ∧ w = k) (h : w = 1 ∧ x = r0 ∨ w = 2 ∧ x = r1 ∨ w = 3 ∧ x = r2 ∨ 4 ≤ w ∧ x = r0 - 1) : nuC r0 r1 r2 li k = x := by
  have e : (if li = 0 then k + 1 else k) = w := by
    rcases hw with ⟨a, b⟩ | ⟨a, b⟩
    · rw [if_pos a, b]
    · rw [if_neg a, b]
  unfold nuC
  rw [e]
  rcases h with ⟨a, b⟩ | ⟨a, b⟩ | ⟨a, b⟩ | ⟨a, b⟩
  · rw [if_pos a, b]
  · rw [if_neg (by omega), if_pos a, b]
  · rw [if_neg (by omega), if_neg (by omega), if_pos a, b]
  · rw [if_neg (by omega), if_neg (by omega), if_neg (by omega), b]
theorem nuG_4 (h : 3 < k) : nuG r0 r1 r2 d li k = d + 3 := by
  unfold nuG
  rw [if_neg (fun q => by have := q.1; omega), if_neg (fun q => by have := q.1; omega), if_neg (fun q => by have := q.1; omega)]
theorem nuG_y (hk : 1 ≤ k ∧ k ≤ 3) (h : nuC r0 r1 r2 li k = d) : nuG r0 r1 r2 d li k = k := by
  unfold nuG
  rcases (show k = 1 ∨ k = 2 ∨ k = 3 by omega) with q | q | q
  · subst q
    rw [if_pos ⟨Int.le_refl 1, h⟩]
  · subst q
    rw [if_neg (fun q => by have := q.1; omega), if_pos ⟨Int.le_refl 2, h⟩]
  · subst q
    rw [if_neg (fun q => by have := q.1; omega), if_neg (fun q => by have := q.1; omega), if_pos ⟨Int.le_refl 3, h⟩]
theorem nuG_n (hk : 1 ≤ k ∧ k ≤ 3) (h : nuC r0 r1 r2 li k ≠ d) (e : k2 = k + 1) : nuG r0 r1 r2 d li k = nuG r0 r1 r2 d li k2 := by
  rcases (show k = 1 ∨ k = 2 ∨ k = 3 by omega) with q | q | q
  · have e2 : k2 = 2 := by omega
    subst q e2
    unfold nuG
    rw [if_neg (show ¬ ((1 : Int) ≤ 1 ∧ nuC r0 r1 r2 li 1 = d) from fun q => h q.2), if_neg (show ¬ ((2 : Int) ≤ 1 ∧ nuC r0 r1 r2 li 1 = d) from fun q => absurd q.1 (by decide))]
    by_cases c : nuC r0 r1 r2 li 2 = d
    · rw [if_pos (show (1 : Int) ≤ 2 ∧ nuC r0 r1 r2 li 2 = d from ⟨by decide, c⟩), if_pos (show (2 : Int) ≤ 2 ∧ nuC r0 r1 r2 li 2 = d from ⟨by decide, c⟩)]
    · rw [if_neg (show ¬ ((1 : Int) ≤ 2 ∧ nuC r0 r1 r2 li 2 = d) from fun q => c q.2), if_neg (show ¬ ((2 : Int) ≤ 2 ∧ nuC r0 r1 r2 li 2 = d) from fun q => c q.2)]
      by_cases c3 : nuC r0 r1 r2 li 3 = d
      · rw [if_pos (show (1 : Int) ≤ 3 ∧ nuC r0 r1 r2 li 3 = d from ⟨by decide, c3⟩), if_pos (show (2 : Int) ≤ 3 ∧ nuC r0 r1 r2 li 3 = d from ⟨by decide, c3⟩)]
      · rw [if_neg (show ¬ ((1 : Int) ≤ 3 ∧ nuC r0 r1 r2 li 3 = d) from fun q => c3 q.2), if_neg (show ¬ ((2 : Int) ≤ 3 ∧ nuC r0 r1 r2 li 3 = d) from fun q => c3 q.2)]
  · have e2 : k2 = 3 := by omega
    subst q e2
    unfold nuG
    rw [if_neg (show ¬ ((2 : Int) ≤ 1 ∧ nuC r0 r1 r2 li 1 = d) from fun q => absurd q.1 (by decide)), if_neg (show ¬ ((3 : Int) ≤ 1 ∧ nuC r0 r1 r2 li 1 = d) from fun q => absurd q.1 (by decide)), if_neg (show ¬ ((2 : Int) ≤ 2 ∧ nuC r0 r1 r2 li 2 = d) from fun q => h q.2), if_neg (show ¬ ((3 : Int) ≤ 2 ∧ nuC r0 r1 r2 li 2 = d) from fun q => absurd q.1 (by decide))]
    by_cases c3 : nuC r0 r1 r2 li 3 = d
    · rw [if_pos (show (2 : Int) ≤ 3 ∧ nuC r0 r1 r2 li 3 = d from ⟨by decide, c3⟩), if_pos (show (3 : Int) ≤ 3 ∧ nuC r0 r1 r2 li 3 = d from ⟨by decide, c3⟩)]
    · rw [if_neg (show ¬ ((2 : Int) ≤ 3 ∧ nuC r0 r1 r2 li 3 = d) from fun q => c3 q.2), if_neg (show ¬ ((3 : Int) ≤ 3 ∧ nuC r0 r1 r2 li 3 = d) from fun q => c3 q.2)]
  · have e2 : k2 = 4 := by omega
    subst q e2
    rw [nuG_4 (show (3 : Int) < 4 by decide)]
    unfold nuG
    rw [if_neg (show ¬ ((3 : Int) ≤ 1 ∧ nuC r0 r1 r2 li 1 = d) from fun q => absurd q.1 (by decide)), if_neg (show ¬ ((3 : Int) ≤ 2 ∧ nuC r0 r1 r2 li 2 = d) from fun q => absurd q.1 (by decide)), if_neg (show ¬ ((3 : Int) ≤ 3 ∧ nuC r0 r1 r2 li 3 = d) from fun q => h q.2)]

theorem nuG_ds (hw : 3 < nuG r0 r1 r2 d li 1 ∧ w = 5 ∨ nuG r0 r1 r2 d li 1 ≤ 3 ∧ (li = 0 ∧ w = nuG r0 r1 r2 d li 1 + 1 ∨ li ≠ 0 ∧ w = nuG r0 r1 r2 d li 1)) (hd : 1 ≤ d) : dsF (nuG r0 r1 r2 d li 1) li r0 r1 r2 = (d, d, (if 1 < w then r0 else r1), (if 2 < w then r1 else r2)) := by
  have key : (nuG r0 r1 r2 d li 1 = d + 3) ∨ (1 ≤ nuG r0 r1 r2 d li 1 ∧ nuG r0 r1 r2 d li 1 ≤ 3 ∧ nuC r0 r1 r2 li (nuG r0 r1 r2 d li 1) = d) := by
    by_cases a : nuC r0 r1 r2 li 1 = d
    · rw [nuG_y (by decide) a]
      exact .inr ⟨by decide, by decide, a⟩
    · rw [nuG_n (by decide) a (show (2 : Int) = 1 + 1 by decide)]
      by_cases b : nuC r0 r1 r2 li 2 = d
      · rw [nuG_y (by decide) b]
        exact .inr ⟨by decide, by decide, b⟩
      · rw [nuG_n (by decide) b (show (3 : Int) = 2 + 1 by decide)]
        by_cases c : nuC r0 r1 r2 li 3 = d
        · rw [nuG_y (by decide) c]
          exact .inr ⟨by decide, by decide, c⟩
        · rw [nuG_n (by decide) c (show (4 : Int) = 3 + 1 by decide), nuG_4 (by decide)]
          exact .inl rfl
  obtain ⟨v, hv⟩ : ∃ v, v = nuG r0 r1 r2 d li 1 := ⟨_, rfl⟩
  rw [← hv] at key hw ⊢
  rcases key with z | ⟨z1, z2, z3⟩
  · rw [dsF_4 (by omega), show w = 5 by omega, if_pos (by decide), if_pos (by decide), show v - 3 = d by omega]
  · have hw2 : li = 0 ∧ w = v + 1 ∨ li ≠ 0 ∧ w = v := by omega
    rw [dsF_w z2 hw2]
    rcases (show w = 1 ∨ w = 2 ∨ w = 3 ∨ 4 ≤ w by omega) with q | q | q | q
    · have e := nuC_w (r0 := r0) (r1 := r1) (r2 := r2) (x := r0) hw2 (.inl ⟨q, rfl⟩)
      rw [if_pos q, if_neg (by omega), if_neg (by omega), ← e, z3]
    · have e := nuC_w (r0 := r0) (r1 := r1) (r2 := r2) (x := r1) hw2 (.inr (.inl ⟨q, rfl⟩))
      rw [if_neg (by omega), if_pos q, if_pos (by omega), if_neg (by omega), ← e, z3]
    · have e := nuC_w (r0 := r0) (r1 := r1) (r2 := r2) (x := r2) hw2 (.inr (.inr (.inl ⟨q, rfl⟩)))
      rw [if_neg (by omega), if_neg (by omega), if_pos q, if_pos (by omega), if_pos (by omega), ← e, z3]
    · have e := nuC_w (r0 := r0) (r1 := r1) (r2 := r2) (x := r0 - 1) hw2 (.inr (.inr (.inr ⟨q, rfl⟩)))
      rw [if_neg (by omega), if_neg (by omega), if_neg (by omega), if_pos (by omega), if_pos (by omega), ← e, z3]
end NUx

def laS (ll di : Int → Int) (r : Int × Int × Int) : Nat → Int × Int × Int
  | 0 => r
  | n + 1 => (dsF (nuG (laS ll di r n).1 (laS ll di r n).2.1 (laS ll di r n).2.2 (di (n : Int)) (ll (n : Int)) 1) (ll (n : Int)) (laS ll di r n).1 (laS ll di r n).2.1 (laS ll di r n).2.2).2
def nuS (ll di : Int → Int) (r : Int × Int × Int) (j : Int) : Int := nuG (laS ll di r j.toNat).1 (laS ll di r j.toNat).2.1 (laS ll di r j.toNat).2.2 (di j) (ll j) 1
theorem laS_s {ll di : Int → Int} {r : Int × Int × Int} {j j2 a b c v d0 d1 d2 d3 : Int} (h : laS ll di r j.toNat = (a, b, c)) (hj : 0 ≤ j) (e : j2 = j + 1) (hv : v = nuS ll di r j) (hd : dsF v (ll j) a b c = (d0, d1, d2, d3)) : laS ll di r j2.toNat = (d1, d2, d3) := by
  subst e hv
  unfold nuS at hd
  rw [show (j + 1).toNat = j.toNat + 1 by omega]
  show (dsF (nuG (laS ll di r j.toNat).1 (laS ll di r j.toNat).2.1 (laS ll di r j.toNat).2.2 (di (j.toNat : Int)) (ll (j.toNat : Int)) 1) (ll (j.toNat : Int)) (laS ll di r j.toNat).1 (laS ll di r j.toNat).2.1 (laS ll di r j.toNat).2.2).2 = _
  rw [h] at hd ⊢
  rw [show ((j.toNat : Nat) : Int) = j by omega]
  show (dsF (nuG a b c (di j) (ll j) 1) (ll j) a b c).2 = _
  have hd : dsF (nuG a b c (di j) (ll j) 1) (ll j) a b c = (d0, d1, d2, d3) := hd
  rw [hd]
theorem nuS_e {ll di : Int → Int} {r : Int × Int × Int} {j a b c v : Int} (h : laS ll di r j.toNat = (a, b, c)) (hv : v = nuG a b c (di j) (ll j) 1) : v = nuS ll di r j := by
  unfold nuS
  rw [h, hv]
theorem laS_congr {ll di ll2 di2 : Int → Int} {r : Int × Int × Int} : ∀ {n : Nat}, (∀ i, 0 ≤ i → i < (n : Int) → ll i = ll2 i ∧ di i = di2 i) → laS ll di r n = laS ll2 di2 r n
  | 0, _ => rfl
  | n + 1, h => by
    have k := laS_congr (r := r) (n := n) (fun i a b => h i a (by omega))
    have e := h (n : Int) (by omega) (by omega)
    show (dsF (nuG (laS ll di r n).1 (laS ll di r n).2.1 (laS ll di r n).2.2 (di (n : Int)) (ll (n : Int)) 1) (ll (n : Int)) (laS ll di r n).1 (laS ll di r n).2.1 (laS ll di r n).2.2).2 = (dsF (nuG (laS ll2 di2 r n).1 (laS ll2 di2 r n).2.1 (laS ll2 di2 r n).2.2 (di2 (n : Int)) (ll2 (n : Int)) 1) (ll2 (n : Int)) (laS ll2 di2 r n).1 (laS ll2 di2 r n).2.1 (laS ll2 di2 r n).2.2).2
    rw [k, e.1, e.2]

def TLW (sy mb mo ll ml di : Int → Int) (r : Int × Int × Int) (n : Int) : Prop := ∀ j, 0 ≤ j → j < n →
  (sy (8001 * 0 + j) = gsB lBs (ll j) 36 ∧ mb (8001 * 0 + j) = lB (gsB lBs (ll j) 36) ∧ mo (8001 * 0 + j) = ll j - lBs (gsB lBs (ll j) 36)) ∧
  (sy (8001 * 2 + j) = gsB mBs (ml j) 53 ∧ mb (8001 * 2 + j) = mB (gsB mBs (ml j) 53) ∧ mo (8001 * 2 + j) = ml j - mBs (gsB mBs (ml j) 53)) ∧
  (sy (8001 * 1 + j) = gsB p2 (nuS ll di r j) 31 ∧ mb (8001 * 1 + j) = gsB p2 (nuS ll di r j) 31 ∧ mo (8001 * 1 + j) = nuS ll di r j - p2 (gsB p2 (nuS ll di r j) 31))
theorem TLW_0 {sy mb mo ll ml di : Int → Int} {r : Int × Int × Int} : TLW sy mb mo ll ml di r 0 := fun j a b => absurd b (by omega)
theorem TLW_s {sy mb mo ll ml di sy3 mb3 mo3 : Int → Int} {r : Int × Int × Int} {n n2 s0 s1 s2 m0 m1 m2 x0 x1 x2 : Int} (h : TLW sy mb mo ll ml di r n) (h0 : 0 ≤ n) (h1 : n ≤ 8000) (e : n2 = n + 1)
    (e1 : sy3 = upd1 (upd1 (upd1 sy (8001 * 0 + n) s0) (8001 * 2 + n) s2) (8001 * 1 + n) s1) (e2 : mb3 = upd1 (upd1 (upd1 mb (8001 * 0 + n) m0) (8001 * 2 + n) m2) (8001 * 1 + n) m1) (e3 : mo3 = upd1 (upd1 (upd1 mo (8001 * 0 + n) x0) (8001 * 2 + n) x2) (8001 * 1 + n) x1)
    (a0 : s0 = gsB lBs (ll n) 36) (a1 : m0 = lB s0) (a2 : x0 = ll n - lBs s0) (b0 : s2 = gsB mBs (ml n) 53) (b1 : m2 = mB s2) (b2 : x2 = ml n - mBs s2) (c0 : s1 = gsB p2 (nuS ll di r n) 31) (c1 : m1 = s1) (c2 : x1 = nuS ll di r n - p2 s1) : TLW sy3 mb3 mo3 ll ml di r n2 := by
  subst e1 e2 e3 e a1 a2 b1 b2 c1 c2
  intro j j0 j1
  have S := upd3 sy (u := s0) (v := s2) (w := m1) h0 h1 j0 (by omega)
  have M := upd3 mb (u := lB s0) (v := mB s2) (w := m1) h0 h1 j0 (by omega)
  have X := upd3 mo (u := ll n - lBs s0) (v := ml n - mBs s2) (w := nuS ll di r n - p2 m1) h0 h1 j0 (by omega)
  by_cases q : j = n
  · obtain ⟨s1_, s2_, s3_⟩ := S.1 q
    obtain ⟨m1_, m2_, m3_⟩ := M.1 q
    obtain ⟨x1_, x2_, x3_⟩ := X.1 q
    rw [s1_, s2_, s3_, m1_, m2_, m3_, x1_, x2_, x3_, q, ← a0, ← b0, ← c0]
    exact ⟨⟨rfl, rfl, rfl⟩, ⟨rfl, rfl, rfl⟩, ⟨rfl, rfl, rfl⟩⟩
  · rw [S.2 q 0 (by omega) (by omega), S.2 q 1 (by omega) (by omega), S.2 q 2 (by omega) (by omega), M.2 q 0 (by omega) (by omega), M.2 q 1 (by omega) (by omega), M.2 q 2 (by omega) (by omega), X.2 q 0 (by omega) (by omega), X.2 q 1 (by omega) (by omega), X.2 q 2 (by omega) (by omega)]
    exact h j j0 (by omega)
theorem nuC_li {r0 r1 r2 li li2 k : Int} (h : li = 0 ↔ li2 = 0) : nuC r0 r1 r2 li k = nuC r0 r1 r2 li2 k := by
  unfold nuC
  by_cases z : li = 0
  · rw [if_pos z, if_pos (h.mp z)]
  · rw [if_neg z, if_neg (fun y => z (h.mpr y))]
theorem nuG_li {r0 r1 r2 d li li2 k : Int} (h : li = 0 ↔ li2 = 0) : nuG r0 r1 r2 d li k = nuG r0 r1 r2 d li2 k := by
  unfold nuG
  rw [nuC_li (k := 1) h, nuC_li (k := 2) h, nuC_li (k := 3) h]
theorem dsF_li {v li li2 r0 r1 r2 : Int} (h : li = 0 ↔ li2 = 0) : dsF v li r0 r1 r2 = dsF v li2 r0 r1 r2 := by
  unfold dsF
  by_cases z : li = 0
  · rw [if_pos z, if_pos (h.mp z)]
  · rw [if_neg z, if_neg (fun y => z (h.mpr y))]
def DGE (di : Int → Int) (n : Int) : Prop := ∀ j, 0 ≤ j → j < n → 1 ≤ di j

def TLA (sy mb mo ll ml di : Int → Int) (r : Int × Int × Int) (n : Int) (la : Int → Int) : Prop := TLW sy mb mo ll ml di r n ∧ laS ll di r n.toNat = (la 0, la 1, la 2) ∧ 1 ≤ la 0 ∧ 1 ≤ la 1 ∧ 1 ≤ la 2
theorem TLA_s {sy mb mo ll ml di sy1 mb1 mo1 sy2 mb2 mo2 sy3 mb3 mo3 la la2 : Int → Int} {r : Int × Int × Int} {n n2 y0 y1 y2 m0 m1 m2 x0 x1 x2 v d li : Int} (h : TLA sy mb mo ll ml di r n la) (h0 : 0 ≤ n) (h1 : n ≤ 8000) (e : n2 = n + 1)
    (e1 : sy1 = upd1 sy (8001 * 0 + n) y0) (e2 : mb1 = upd1 mb (8001 * 0 + n) m0) (e3 : mo1 = upd1 mo (8001 * 0 + n) x0) (f1 : sy2 = upd1 sy1 (8001 * 2 + n) y2) (f2 : mb2 = upd1 mb1 (8001 * 2 + n) m2) (f3 : mo2 = upd1 mo1 (8001 * 2 + n) x2) (g1 : sy3 = upd1 sy2 (8001 * 1 + n) y1) (g2 : mb3 = upd1 mb2 (8001 * 1 + n) m1) (g3 : mo3 = upd1 mo2 (8001 * 1 + n) x1)
    (a0 : y0 = gsB lBs (ll n) 36) (a1 : m0 = lB y0) (a2 : x0 = ll n - lBs y0) (b0 : y2 = gsB mBs (ml n) 53) (b1 : m2 = mB y2) (b2 : x2 = ml n - mBs y2)
    (hd : d = di n) (hli : ll n = 0 ↔ li = 0) (hv : v = nuG (la 0) (la 1) (la 2) d li 1) (hz : ∃ z, dsF v li (la 0) (la 1) (la 2) = (z, la2 0, la2 1, la2 2)) (hl : 1 ≤ la2 0 ∧ 1 ≤ la2 1 ∧ 1 ≤ la2 2)
    (c0 : y1 = gsB p2 v 31) (c1 : m1 = y1) (c2 : x1 = v - p2 y1) : TLA sy3 mb3 mo3 ll ml di r n2 la2 := by
  obtain ⟨t1, t2, _⟩ := h
  have k : v = nuS ll di r n := nuS_e t2 (by rw [hv, hd, nuG_li hli])
  obtain ⟨z, hz⟩ := hz
  refine ⟨TLW_s t1 h0 h1 e (by rw [g1, f1, e1]) (by rw [g2, f2, e2]) (by rw [g3, f3, e3]) a0 a1 a2 b0 b1 b2 (by rw [← k]; exact c0) c1 (by rw [← k]; exact c2), ?_, hl⟩
  exact laS_s t2 h0 e k (by rw [dsF_li hli]; exact hz)


end
section
/-! 19d -/
def cutP (n : Int) (P : Int → Int) : Int → Int := fun i => if 0 ≤ i ∧ i < n then P i else 0
theorem cutP_in {n i : Int} {P : Int → Int} (h : 0 ≤ i ∧ i < n) : cutP n P i = P i := if_pos h
theorem cutP_eq {n m : Int} {P Q : Int → Int} (h : ∀ i, 0 ≤ i → i < n → P i = Q i) (hm : n ≤ m) (hz : ∀ i, n ≤ i → 0 ≤ i → i < m → Q i = 0) : cutP n P = cutP m Q := by
  funext i
  unfold cutP
  by_cases a : 0 ≤ i ∧ i < n
  · rw [if_pos a, if_pos ⟨a.1, by omega⟩, h i a.1 a.2]
  · rw [if_neg a]
    by_cases b : 0 ≤ i ∧ i < m
    · rw [if_pos b, hz i (by omega) b.1 b.2]
    · rw [if_neg b]
def zrN (P : Int → Int) : Int → Nat → Int
  | _, 0 => 0
  | a, n + 1 => if P a = 0 then zrN P (a + 1) n + 1 else 0
theorem zrN_is {P : Int → Int} : ∀ {n : Nat} {a z : Int}, 0 ≤ z → z < (n : Int) → (∀ j, a ≤ j → j < a + z → P j = 0) → P (a + z) ≠ 0 → zrN P a n = z
  | 0, a, z, h0, h1, _, _ => by omega
  | n + 1, a, z, h0, h1, h2, h3 => by
    show (if P a = 0 then zrN P (a + 1) n + 1 else 0) = z
    by_cases q : z = 0
    · subst q
      rw [Int.add_zero] at h3
      rw [if_neg h3]
    · rw [if_pos (h2 a (by omega) (by omega)), zrN_is (n := n) (a := a + 1) (z := z - 1) (by omega) (by omega) (fun j x y => h2 j (by omega) (by omega)) (by rw [show a + 1 + (z - 1) = a + z by omega]; exact h3)]
      omega
def zbt (z : Int) : List Int := (List.replicate (z / 3).toNat (btw 3 2)).flatten ++ btw (z % 3) 2
theorem zbt_s {z z2 : Int} (h : 3 ≤ z) (e : z2 = z - 3) : zbt z = btw 3 2 ++ zbt z2 := by
  subst e
  unfold zbt
  rw [show (z / 3).toNat = ((z - 3) / 3).toNat + 1 by omega, List.replicate_succ, List.flatten_cons, List.append_assoc, show (z - 3) % 3 = z % 3 by omega]
theorem zbt_e {z : Int} (h : 0 ≤ z ∧ z < 3) : zbt z = btw z 2 := by
  unfold zbt
  rw [show (z / 3).toNat = 0 by omega, show z % 3 = z by omega]
  rfl
def stU (P : Int → Int) (s l : Int) : List Int := btw (if P s + 1 < p2 (gsB p2 (l + 1) 31) then P s + 1 else P s + 1 + (2 * p2 (gsB p2 (l + 1) 31) - 2 - l)) (if P s + 1 < 2 * p2 (gsB p2 (l + 1) 31) - 2 - l then gsB p2 (l + 1) 31 else gsB p2 (l + 1) 31 + 1)
theorem stU_is {P : Int → Int} {s l k m u v w : Int} (hk : 0 ≤ k ∧ k ≤ 30) (h1 : p2 k ≤ l + 1) (h2 : l + 1 < 2 * p2 k) (hm : m = 2 * p2 k - 2 - l) (hu : u = P s + 1) (hv : u < p2 k ∧ v = u ∨ p2 k ≤ u ∧ v = u + m) (hw : u < m ∧ w = k ∨ m ≤ u ∧ w = k + 1) : btw v w = stU P s l := by
  unfold stU
  rw [← gsB_p hk h1 h2, ← hu, ← hm]
  rcases hv with ⟨a, b⟩ | ⟨a, b⟩
  · rw [if_pos a]
    rcases hw with ⟨c, d⟩ | ⟨c, d⟩
    · rw [if_pos c, b, d]
    · rw [if_neg (by omega), b, d]
  · rw [if_neg (by omega)]
    rcases hw with ⟨c, d⟩ | ⟨c, d⟩
    · rw [if_pos c, b, d]
    · rw [if_neg (by omega), b, d]

def STs (P : Int → Int) (x : Int × Int × List Int) : (Int × Int × List Int) ⊕ List Int :=
  if x.2.1 ≤ 0 then .inr x.2.2
  else if P x.1 = 0 then .inl (x.1 + 1 + zrN P (x.1 + 1) 64, x.2.1, x.2.2 ++ stU P x.1 x.2.1 ++ zbt (zrN P (x.1 + 1) 64))
  else .inl (x.1 + 1, x.2.1 - mass (P x.1), x.2.2 ++ stU P x.1 x.2.1)
noncomputable def STB (P : Int → Int) (L : Int) : List Int := LPF [] (STs P) (0, p2 L, btw (L - 5) 4)
def SBO (P : Int → Int) (L s l : Int) (B : List Int) : Prop := STB P L = LPF [] (STs P) (s, l, B)
section SBOx
variable {P : Int → Int} {L s l z q2 l2 : Int} {B B2 : List Int}
theorem SBO_0 : SBO P L 0 (p2 L) (btw (L - 5) 4) := rfl
theorem SBO_z (h : SBO P L s l B) (hl : 0 < l) (hp : P s = 0) (hz : z = zrN P (s + 1) 64) (e : q2 = s + 1 + z) (e2 : l2 = l) (hb : B2 = B ++ stU P s l ++ zbt z) : SBO P L q2 l2 B2 := by
  rw [e, e2, hb, hz]
  unfold SBO at h ⊢
  rw [h]
  refine LPF_s ?_
  unfold STs
  show (if l ≤ 0 then _ else if P s = 0 then _ else _) = _
  rw [if_neg (show ¬ l ≤ 0 by omega), if_pos hp]
theorem SBO_s (h : SBO P L s l B) (hl : 0 < l) (hp : P s ≠ 0) (e : q2 = s + 1) (e2 : l2 = l - mass (P s)) (hb : B2 = B ++ stU P s l) : SBO P L q2 l2 B2 := by
  subst e e2 hb
  unfold SBO at h ⊢
  rw [h]
  refine LPF_s ?_
  unfold STs
  show (if l ≤ 0 then _ else if P s = 0 then _ else _) = _
  rw [if_neg (show ¬ l ≤ 0 by omega), if_neg hp]
theorem SBO_e (h : SBO P L s l B) (hl : l ≤ 0) : B = STB P L := by
  unfold SBO at h
  rw [h]
  refine (LPF_e ?_).symm
  exact if_pos hl
end SBOx

def MDW (g0 : Int → Int) (n0 : Int) (g1 : Int → Int) (n1 : Int) (M : List Int) : Prop := ∀ B, MDB g0 n0 B → MDB g1 n1 (pd8 (B ++ M))
theorem MDW_of {g0 g1 g2 : Int → Int} {n0 n1 n2 : Int} {M : List Int} (h : MDA g0 n0 g1 n1 M) (k : MDP g1 n1 g2 n2) : MDW g0 n0 g2 n2 M := fun B q => k _ (h B q)
def RBW (b0 : Int) (g0 : Int → Int) (n0 h0 k0 b1 : Int) (g1 : Int → Int) (n1 h1 k1 : Int) (M : List Int) : Prop := ∀ L B, RBB b0 g0 n0 h0 k0 L B → RBB b1 g1 n1 h1 k1 (L ++ byw (B ++ M)) []
theorem RBW_of {b0 n0 h0 k0 b1 n1 h1 k1 b2 n2 h2 k2 : Int} {g0 g1 g2 : Int → Int} {M : List Int} (x : RBA b0 g0 n0 h0 k0 b1 g1 n1 h1 k1 M) (y : RBE b1 g1 n1 h1 k1 b2 g2 n2 h2 k2) : RBW b0 g0 n0 h0 k0 b2 g2 n2 h2 k2 M := fun L B q => y _ _ (x L B q)


end
section
/-! 19e -/
def hdF (cu : Int → Int) (rest sym : Int) (tr : Int → Int) : Int → Int := fun s => if 0 < tr s ∧ (rest < cu s ∨ cu s = rest ∧ s ≤ sym) then 1 else 0
theorem hdF_0 {cu tr : Int → Int} {rest sym s : Int} (ht : 0 < tr s) : hdF cu rest sym tr s = 0 ↔ (cu s < rest ∨ cu s = rest ∧ sym < s) := by
  unfold hdF
  by_cases c : 0 < tr s ∧ (rest < cu s ∨ cu s = rest ∧ s ≤ sym)
  · rw [if_pos c]
    have := c.2
    constructor
    · intro h; exact absurd h (by decide)
    · intro h; omega
  · rw [if_neg c]
    constructor
    · intro _; omega
    · intro _; rfl

def BSQ (tr hd cu : Int → Int) (i b r : Int) : Prop := bst tr hd cu i.toNat = b ∧ (b = -1 ∧ r = -1 ∨ 0 ≤ b ∧ r = cu b)
section BSQx
variable {tr hd cu : Int → Int} {i b r i2 b2 r2 c t rest sym : Int}
theorem BSQ_0 : BSQ tr hd cu 0 (-1) (-1) := ⟨rfl, .inl ⟨rfl, rfl⟩⟩
theorem BSQ_y (h : BSQ tr (hdF cu rest sym tr) cu i b r) (h0 : 0 ≤ i) (hc : cu i = c) (h1 : 0 < tr i) (h2 : c < rest ∨ c = rest ∧ sym < i) (h3 : r < c) (e : i2 = i + 1) (e2 : b2 = i) (e3 : r2 = c) : BSQ tr (hdF cu rest sym tr) cu i2 b2 r2 := by
  obtain ⟨a, d⟩ := h
  have q := bst_s h0 a
  have z := (hdF_0 (cu := cu) (rest := rest) (sym := sym) h1).mpr (by omega)
  subst e
  rcases q with ⟨_, q⟩ | ⟨q, _⟩
  · exact ⟨q.trans e2.symm, .inr ⟨by omega, by rw [e2, e3]; exact hc.symm⟩⟩
  · refine absurd ⟨h1, z, ?_⟩ q
    rcases d with ⟨d, _⟩ | ⟨_, d⟩
    · exact .inl (by omega)
    · exact .inr (by omega)
theorem BSQ_n (h : BSQ tr (hdF cu rest sym tr) cu i b r) (h0 : 0 ≤ i) (hc : cu i = c) (hx : ¬ (0 < tr i ∧ (c < rest ∨ c = rest ∧ sym < i) ∧ r < c)) (hr : 0 ≤ cu i) (e : i2 = i + 1) (e2 : b2 = b) (e3 : r2 = r) : BSQ tr (hdF cu rest sym tr) cu i2 b2 r2 := by
  obtain ⟨a, d⟩ := h
  have q := bst_s h0 a
  subst e e2 e3
  rcases q with ⟨q, _⟩ | ⟨_, q⟩
  · obtain ⟨q1, q2, q3⟩ := q
    have z := (hdF_0 (cu := cu) (rest := rest) (sym := sym) q1).mp q2
    refine absurd ⟨q1, by omega, ?_⟩ hx
    rcases d with ⟨d1, d2⟩ | ⟨d1, d2⟩
    · omega
    · rcases q3 with q3 | q3
      · omega
      · omega
  · exact ⟨q, d⟩
theorem bst_ext {n : Int} (h0 : 0 ≤ n) (h : ∀ j, n ≤ j → j < 64 → tr j ≤ 0) : ∀ k : Nat, n + (k : Int) ≤ 64 → bst tr hd cu (n + (k : Int)).toNat = bst tr hd cu n.toNat
  | 0, _ => by rw [show n + ((0 : Nat) : Int) = n by omega]
  | k + 1, hk => by
    have ih := bst_ext h0 h k (by omega)
    have q := bst_s (tr := tr) (hd := hd) (cu := cu) (i := n + (k : Int)) (by omega) ih
    have z := h (n + (k : Int)) (by omega) (by omega)
    rw [show n + ((k + 1 : Nat) : Int) = n + (k : Int) + 1 by omega]
    rcases q with ⟨⟨q, _⟩, _⟩ | ⟨_, q⟩
    · omega
    · exact q
theorem bst_64 {n : Int} (h : BSQ tr hd cu n b r) (h0 : 0 ≤ n ∧ n ≤ 64) (hz : ∀ j, n ≤ j → j < 64 → tr j ≤ 0) : bst tr hd cu 64 = b := by
  have q := bst_ext (tr := tr) (hd := hd) (cu := cu) h0.1 hz (64 - n).toNat (by omega)
  rw [show n + ((64 - n).toNat : Int) = 64 by omega] at q
  exact q.trans h.1

theorem bst_best : ∀ n : Nat, ∀ s : Int, 0 ≤ s → s < (n : Int) → 0 < tr s → hd s = 0 → 0 ≤ bst tr hd cu n ∧ (cu s < cu (bst tr hd cu n) ∨ cu s = cu (bst tr hd cu n) ∧ bst tr hd cu n ≤ s)
  | 0, s, h0, h1, _, _ => by omega
  | n + 1, s, h0, h1, h2, h3 => by
    have q := bst_s (tr := tr) (hd := hd) (cu := cu) (i := (n : Int)) (b := bst tr hd cu n) (by omega) rfl
    rw [show ((n : Int) + 1).toNat = n + 1 by omega] at q
    have r := bst_rng (tr := tr) (hd := hd) (cu := cu) n
    by_cases e : s = (n : Int)
    · subst e
      rcases q with ⟨_, q⟩ | ⟨q, w⟩
      · rw [q]; exact ⟨by omega, .inr ⟨rfl, Int.le_refl _⟩⟩
      · rw [w]
        by_cases c : bst tr hd cu n < 0 ∨ cu (bst tr hd cu n) < cu (n : Int)
        · exact absurd ⟨h2, h3, c⟩ q
        · exact ⟨by omega, by omega⟩
    · have ih := bst_best n s h0 (by omega) h2 h3
      rcases q with ⟨⟨q1, q2, q3⟩, q⟩ | ⟨_, q⟩
      · rw [q]
        exact ⟨by omega, by omega⟩
      · rw [q]; exact ih
theorem bst_is : ∀ n : Nat, 0 ≤ bst tr hd cu n → 0 < tr (bst tr hd cu n) ∧ hd (bst tr hd cu n) = 0
  | 0, h => absurd (show (0 : Int) ≤ -1 from h) (by decide)
  | n + 1, h => by
    have q := bst_s (tr := tr) (hd := hd) (cu := cu) (i := (n : Int)) (b := bst tr hd cu n) (by omega) rfl
    rw [show ((n : Int) + 1).toNat = n + 1 by omega] at q
    rcases q with ⟨⟨q1, q2, _⟩, q⟩ | ⟨_, q⟩
    · rw [q]; exact ⟨q1, q2⟩
    · rw [q] at h ⊢
      exact bst_is n h
theorem hdF_new {v : Int} (hb : bst tr (hdF cu rest sym tr) cu 64 = b) (h0 : 0 ≤ b) (hv : 0 < v) : AG (hdF cu (cu b) b (upd1 tr b v)) (upd1 (hdF cu rest sym tr) b 1) := fun s s0 s1 => by
  have w := bst_is (tr := tr) (hd := hdF cu rest sym tr) (cu := cu) 64 (by omega)
  rw [hb] at w
  have wz := (hdF_0 (cu := cu) (rest := rest) (sym := sym) w.1).mp w.2
  by_cases q : s = b
  · subst q
    rw [upd1_s]
    unfold hdF
    rw [upd1_s, if_pos ⟨hv, .inr ⟨rfl, Int.le_refl _⟩⟩]
  · rw [upd1_o q]
    by_cases t : 0 < tr s
    · by_cases e : hdF cu rest sym tr s = 0
      · rw [e]
        have k := bst_best (tr := tr) (hd := hdF cu rest sym tr) (cu := cu) 64 s s0 (by omega) t e
        rw [hb] at k
        unfold hdF
        rw [upd1_o q]
        exact if_neg (fun y => by have := y.2; omega)
      · have f : ¬ (cu s < rest ∨ cu s = rest ∧ sym < s) := fun y => e ((hdF_0 t).mpr y)
        have e1 : hdF cu rest sym tr s = 1 := by
          unfold hdF
          exact if_pos ⟨t, by omega⟩
        rw [e1]
        unfold hdF
        rw [upd1_o q]
        exact if_pos ⟨t, by omega⟩
    · unfold hdF
      rw [upd1_o q, if_neg (fun y => t y.1), if_neg (fun y => t y.1)]
end BSQx

def DVR (co : Int → Int) (n p N : Int) (P : Int → Int) (rest sym l : Int) : Prop := DV1R (cutP N co) n p (cutP N P) (hdF (cu0 (cutP N co) n p) rest sym (cutP N P)) l
def DVX (co P : Int → Int) (n p N i : Int) : Prop := ∀ s, 0 ≤ s → s < i → P s = dv0 (cutP N co) n p s
theorem DVX_0 {co P : Int → Int} {n p N : Int} : DVX co P n p N 0 := fun s a b => absurd b (by omega)
theorem DVX_s {co P : Int → Int} {n p N i i2 v : Int} (h : DVX co P n p N i) (hv : v = dv0 (cutP N co) n p i) (e : i2 = i + 1) : DVX co (upd1 P i v) n p N i2 := fun s a b => by
  by_cases q : s = i
  · rw [q, upd1_s]; exact hv
  · rw [upd1_o q]; exact h s a (by omega)
section DVRx
variable {co P : Int → Int} {n p N rest sym l b v l2 r2 : Int}
theorem cutP_upd (hb : 0 ≤ b ∧ b < N) : cutP N (upd1 P b v) = upd1 (cutP N P) b v := by
  funext i
  by_cases q : i = b
  · rw [q, upd1_s, cutP_in hb, upd1_s]
  · rw [upd1_o q]
    unfold cutP
    rw [upd1_o q]
theorem cutP_z {j : Int} (h : N ≤ j) : cutP N P j = 0 := if_neg (fun q => by have := q.2; omega)
theorem cu0_r (hn : 0 < n) (s : Int) : 0 ≤ cu0 co n p s ∧ cu0 co n p s < n := ⟨Int.emod_nonneg _ (by omega), Int.emod_lt_of_pos _ hn⟩
theorem DVC_rf : DVC co (cu0 co n p) n p 64 := fun _ _ _ => rfl
theorem DV1R_ag {tr hd hd2 : Int → Int} (h : DV1R co n p tr hd l) (e : AG hd2 hd) : DV1R co n p tr hd2 l := by
  obtain ⟨m, h1, h2, h3⟩ := h
  exact ⟨m, h1, fun s a b => (e s a b).trans (h2 s a b), h3⟩
theorem hdF_z (hn : 0 < n) {tr : Int → Int} : DVH (hdF (cu0 co n p) n (-1) tr) 64 := fun s a b => by
  have r := cu0_r (co := co) (p := p) hn s
  unfold hdF
  exact if_neg (fun q => by have := q.2; omega)
theorem DVR_0 (h : DVX co P n p N N) (hn : 0 < n) (hN : 0 ≤ N ∧ N ≤ 64) (hl : l = p - su (fun i => mass (P i)) N.toNat) : DVR co n p N P n (-1) l := by
  have a : DVA (cutP N co) (cutP N P) n p 64 := fun s s0 s1 => by
    by_cases q : s < N
    · rw [cutP_in ⟨s0, q⟩]; exact h s s0 q
    · rw [cutP_z (by omega)]
      unfold dv0
      rw [cutP_z (by omega), Int.zero_mul, if_pos rfl]
  refine DV1R_0 a (hdF_z hn) ?_
  rw [hl]
  congr 1
  have e := su_split (f := fun i => mass (cutP N P i)) (n := N.toNat) (k := 64 - N.toNat) (fun i x y => by show mass (cutP N P i) = 0; rw [cutP_z (by omega)]; rfl)
  rw [show N.toNat + (64 - N.toNat) = 64 by omega] at e
  rw [e]
  exact su_congr (fun i x y => by show mass (P i) = mass (cutP N P i); rw [cutP_in ⟨x, by omega⟩])
theorem DVR_put (h : DVR co n p N P rest sym l) (hl : 0 < l) (hN : 0 ≤ N ∧ N ≤ 64) (hb : BSQ (cutP N P) (hdF (cu0 (cutP N co) n p) rest sym (cutP N P)) (cu0 (cutP N co) n p) N b r2) (b0 : 0 ≤ b ∧ b < N) (hp : 0 < P b) (hv : v = P b + 1) (e : l2 = l - 1) : DVR co n p N (upd1 P b v) r2 b l2 := by
  have hb4 := bst_64 hb hN (fun j x y => by rw [cutP_z x]; exact Int.le_refl 0)
  have er : r2 = cu0 (cutP N co) n p b := by
    rcases hb.2 with ⟨x, _⟩ | ⟨_, x⟩
    · omega
    · exact x
  unfold DVR
  rw [cutP_upd b0, er]
  exact DV1R_ag (DV1R_put h hl DVC_rf hb4 b0.1 (by rw [cutP_in b0]; exact hv) e) (hdF_new hb4 b0.1 (by omega))
theorem DVR_none (h : DVR co n p N P rest sym l) (hl : 0 < l) (hn : 0 < n) (hN : 0 ≤ N ∧ N ≤ 64) (hb : BSQ (cutP N P) (hdF (cu0 (cutP N co) n p) rest sym (cutP N P)) (cu0 (cutP N co) n p) N b r2) (b0 : b < 0) : DVR co n p N P n (-1) l :=
  DV1R_clear h hl DVC_rf (by rw [bst_64 hb hN (fun j x y => by rw [cutP_z x]; exact Int.le_refl 0)]; exact b0) (hdF_z hn)

def DVT (co : Int → Int) (n p N : Int) (P : Int → Int) (l : Int) : Prop := DV2R (cutP N co) n p (cutP N P) l
theorem DVT_0 (h : DVR co n p N P rest sym l) (hl : l ≤ 0) : DVT co n p N P l := DV2R_0 h hl
def MSQ (N : Int) (P : Int → Int) (b i : Int) : Prop := b = mst (cutP N P) i.toNat ∧ 0 ≤ b ∧ b < i ∧ (∀ j, 0 ≤ j → j < i → cutP N P j ≤ cutP N P b)
theorem MSQ_1 (hN : 1 ≤ N) : MSQ N P 0 1 := ⟨mst_1.symm, Int.le_refl 0, by decide, fun j a c => by rw [show j = 0 by omega]; exact Int.le_refl _⟩
theorem MSQ_s {i i2 b2 : Int} (h : MSQ N P b i) (hi : i < N) (hc : P b < P i ∧ b2 = i ∨ P i ≤ P b ∧ b2 = b) (e : i2 = i + 1) : MSQ N P b2 i2 := by
  obtain ⟨a, b0, b1, c⟩ := h
  subst e
  have q := mst_s (tr := cutP N P) (i := i) (by omega) a.symm
  rw [cutP_in (n := N) (P := P) (i := b) (by omega), cutP_in (n := N) (P := P) (i := i) (by omega)] at q
  rcases hc with ⟨x, y⟩ | ⟨x, y⟩
  · subst y
    refine ⟨by rcases q with ⟨_, q⟩ | ⟨q, _⟩; (exact q.symm); (omega), by omega, by omega, fun j j0 j1 => ?_⟩
    by_cases z : j = b2
    · rw [z]; exact Int.le_refl _
    · have w := c j j0 (by omega)
      rw [cutP_in (n := N) (P := P) (i := b) (by omega)] at w
      rw [cutP_in (n := N) (P := P) (i := b2) (by omega)]
      omega
  · subst y
    refine ⟨by rcases q with ⟨q, _⟩ | ⟨_, q⟩; (omega); (exact q.symm), b0, by omega, fun j j0 j1 => ?_⟩
    by_cases z : j = i
    · rw [z, cutP_in (n := N) (P := P) (i := i) (by omega), cutP_in (n := N) (P := P) (i := b2) (by omega)]; exact x
    · exact c j j0 (by omega)
theorem mst_ext {tr : Int → Int} {m : Int} (h0 : 0 ≤ m) (hb : mst tr m.toNat = b) (h : ∀ j, m ≤ j → j < 64 → tr j ≤ tr b) : ∀ k : Nat, m + (k : Int) ≤ 64 → mst tr (m + (k : Int)).toNat = b
  | 0, _ => by rw [show m + ((0 : Nat) : Int) = m by omega]; exact hb
  | k + 1, hk => by
    have ih := mst_ext h0 hb h k (by omega)
    have q := mst_s (tr := tr) (i := m + (k : Int)) (by omega) ih
    have z := h (m + (k : Int)) (by omega) (by omega)
    rw [show m + ((k + 1 : Nat) : Int) = m + (k : Int) + 1 by omega]
    omega
theorem DVT_s (h : DVT co n p N P l) (hl : l < 0) (hN : 1 ≤ N ∧ N ≤ 64) (hb : MSQ N P b N) (hp : 0 ≤ P b) (hv : v = P b - 1) (e : l2 = l + 1) : DVT co n p N (upd1 P b v) l2 := by
  obtain ⟨a, b0, b1, c⟩ := hb
  have hb4 : mst (cutP N P) 64 = b := by
    have q := mst_ext (tr := cutP N P) (m := N) (by omega) a.symm (fun j x y => by rw [cutP_z x, cutP_in ⟨b0, b1⟩]; exact hp) (64 - N).toNat (by omega)
    rw [show N + ((64 - N).toNat : Int) = 64 by omega] at q
    exact q
  unfold DVT
  rw [cutP_upd ⟨b0, b1⟩]
  exact DV2R_s h hl hb4 (by rw [cutP_in ⟨b0, b1⟩]; exact hv) e
theorem DVT_F (h : DVT co n p N P l) (hl : 0 ≤ l) : DVF (cutP N co) n p (cutP N P) := ⟨l, hl, h⟩
end DVRx


end
section
/-! 19f -/
theorem LAID_up {P Q sy : Int → Int} {n m L : Int} (hn : 0 ≤ n) (hm : n ≤ m) (e : ∀ i, 0 ≤ i → i < n → Q i = P i) (z : ∀ i, n ≤ i → i < m → Q i = 0) (h : LAID P n L sy) : LAID Q m L sy := by
  have g : ngs P n = ngs Q m := su_same hn hm (fun i a b => by rw [e i a b]) (fun i a b => by rw [z i a b]; decide)
  refine ⟨fun s a b d => ?_, fun j a b d => ?_⟩
  · have w : s < n := by
      by_cases w : s < n
      · exact w
      · have := z s (by omega) b
        omega
    have q := h.1 s a w (by rw [← e s a w]; exact d)
    rw [ngs_congr (P := Q) (Q := P) (fun i x y => e i x (by omega))]
    exact q
  · rw [← g] at d ⊢
    obtain ⟨q0, q1, q2, q3⟩ := h.2 j a b d
    refine ⟨q0, by omega, ?_, ?_⟩
    · rw [cum_congr (P := Q) (Q := P) (fun i x y => e i x (by omega))]; exact q2
    · rw [cum_congr (P := Q) (Q := P) (fun i x y => e i x (by omega))]; exact q3
section SLx
variable {P M B S sy X pl : Int → Int} {n L k s st r b : Int}
theorem BB_x (h : SL P n L M B S sy X pl) (k0 : 0 ≤ k) (k1 : k < p2 L) : ∃ b, BB P L sy k b := by
  have q := BB_of h k0 k1 rfl rfl
  by_cases w : 0 < XN P sy k / p2 (L - B (sy k) + 1)
  · exact ⟨_, q.2.2.1 w⟩
  · exact ⟨_, q.2.2.2 (by omega)⟩

def BIA (P : Int → Int) (L : Int) (sy bi ba : Int → Int) : Prop := ∀ k, 0 ≤ k → k < p2 L → BB P L sy k (bi k) ∧ ba k = XN P sy k * p2 (bi k) - p2 L
theorem SL_LD (h : SL P n L M B S sy X pl) : ∃ bi ba, LD (cutP n P) 64 L sy bi ba ∧ BIA P L sy bi ba := by
  have f := SHD_f h.1
  have ex : ∀ k : Int, ∃ b : Int, 0 ≤ k → k < p2 L → BB P L sy k b := fun k => by
    by_cases w : 0 ≤ k ∧ k < p2 L
    · obtain ⟨b, hb⟩ := BB_x h w.1 w.2
      exact ⟨b, fun _ _ => hb⟩
    · exact ⟨0, fun x y => absurd ⟨x, y⟩ w⟩
  obtain ⟨bi, hbi⟩ := Classical.axiomOfChoice ex
  have xe : ∀ k, 0 ≤ k → k < p2 L → XN (cutP n P) sy k = XN P sy k := fun k a c => by
    have r := SL_sym h a c
    unfold XN
    rw [cutP_in ⟨r.1, r.2.1⟩]
  refine ⟨bi, fun k => XN P sy k * p2 (bi k) - p2 L, ⟨LAID_up (by omega) (by omega) (fun i x y => cutP_in ⟨x, y⟩) (fun i x y => cutP_z x) h.2.1, fun s x y => ?_, fun k x y => ?_⟩, fun k x y => ⟨hbi k x y, rfl⟩⟩
  · by_cases w : s < n
    · rw [cutP_in ⟨x, w⟩]
      exact LAID_cnt h.1.1 (by omega) h.2.1 h.1.2.2.2.2 x w
    · rw [cutP_z (by omega), su_eqs0 (fun j a c => by have r := SL_sym h (k := j) a (by omega); omega)]
      rfl
  · have q := hbi k x y
    refine ⟨L - bi k, by have := q.2.1; omega, by have := q.1; omega, ?_, ?_, by omega, ?_⟩
    · rw [xe k x y]; exact q.2.2.1
    · rw [xe k x y]; exact q.2.2.2
    · show XN P sy k * p2 (bi k) - p2 L = _
      rw [xe k x y, show L - (L - bi k) = bi k by omega]

theorem eqs_lt {j : Int} (hj : 0 ≤ j) (h : j < k) (e : sy j = s) : su (eqs sy s) j.toNat + 1 ≤ su (eqs sy s) k.toNat ∧ 0 ≤ su (eqs sy s) j.toNat := by
  have a := su_s (f := eqs sy s) hj
  have c := eqs_eq sy s j
  have m := su_le_all (f := eqs sy s) (i := j + 1) (n := k) (by omega) (by omega) (fun i _ => by have := eqs_eq sy s i; omega)
  have m2 := su_le_all (f := eqs sy s) (i := j) (n := k) (by omega) (by omega) (fun i _ => by have := eqs_eq sy s i; omega)
  omega
theorem SL_LOW {bi : Int → Int} (h0 : 0 ≤ r ∧ r < p2 L) (hs : sy r = s) (hx : XN P sy r = mass (P s)) : LOW sy bi L s 0 r := by
  refine ⟨h0.1, h0.2, ⟨hs, fun q => absurd q (by decide)⟩, fun k a c q => ?_⟩
  have w := eqs_lt (sy := sy) (s := s) a c q.1
  unfold XN at hx
  rw [hs] at hx
  omega
theorem BA_u {m y c : Int} (hm : 1 ≤ m) (h : BA m L y b) (g : BA m L y c) (h0 : 0 ≤ y + p2 L) : b = c := by
  obtain ⟨a1, a2, a3, a4⟩ := h
  obtain ⟨c1, c2, c3, c4⟩ := g
  have key : ∀ x z : Int, 0 ≤ x → x < z → m ≤ (y + p2 L) / p2 z → (y + p2 L) / p2 x < 2 * m → False := fun x z x0 xz u v => by
    have e := p2_add (x := x) (y := z - x) x0 (by omega)
    rw [show x + (z - x) = z by omega] at e
    have q := p2_mono (show (1 : Int) ≤ z - x by omega)
    rw [show p2 1 = 2 by decide] at q
    rw [e, ← Int.ediv_ediv_of_nonneg (by have := p2_pos x; omega)] at u
    have d : (y + p2 L) / p2 x / p2 (z - x) < m := Int.ediv_lt_of_lt_mul (by omega) (by
      have : m * 2 ≤ m * p2 (z - x) := Int.mul_le_mul_of_nonneg_left q (by omega)
      omega)
    omega
  rcases (show b < c ∨ b = c ∨ c < b by omega) with w | w | w
  · exact absurd (key b c a1 w c3 a4) id
  · exact w
  · exact absurd (key c b c1 w a3 c4) id
theorem SL_LEAD {bi ba : Int → Int} (h : SL P n L M B S sy X pl) (hB : BIA P L sy bi ba) (h0 : 0 ≤ r ∧ r < p2 L) (hs : sy r = s) (hst : 0 ≤ st ∧ st < p2 L) (hb : BA (mass (P s)) L st b) (hx : XN P sy r = (st + p2 L) / p2 b) : LEAD sy bi ba L s st r ∧ bi r = b := by
  have f := SHD_f h.1
  have dq : ∀ c : Int, 0 ≤ c → c ≤ L → p2 (L - c) ≤ (st + p2 L) / p2 c ∧ (st + p2 L) / p2 c < 2 * p2 (L - c) ∧ (st + p2 L) / p2 c * p2 c ≤ st + p2 L ∧ st + p2 L < (st + p2 L) / p2 c * p2 c + p2 c := fun c c0 c1 => by
    have e := p2_add (x := L - c) (y := c) (by omega) c0
    rw [show L - c + c = L by omega] at e
    have pc := p2_pos c
    have dm := Int.emod_add_mul_ediv (st + p2 L) (p2 c)
    have r0 := Int.emod_nonneg (st + p2 L) (show p2 c ≠ 0 by omega)
    have r1 := Int.emod_lt_of_pos (st + p2 L) (show 0 < p2 c by omega)
    rw [Int.mul_comm] at dm
    refine ⟨Int.le_ediv_of_mul_le (by omega) (by omega), Int.ediv_lt_of_lt_mul (by omega) ?_, by omega, by omega⟩
    rw [Int.mul_assoc, ← e]
    omega
  have d := dq b hb.1 hb.2.1
  have bb : BB P L sy r b := ⟨hb.1, hb.2.1, by rw [hx]; exact d.1, by rw [hx]; exact d.2.1⟩
  have q := hB r h0.1 h0.2
  have eb : bi r = b := BB_uniq q.1 bb
  refine ⟨⟨h0.1, h0.2, ⟨hs, ?_, ?_⟩, fun k a c w => ?_⟩, eb⟩
  · rw [q.2, eb, hx]; omega
  · rw [q.2, eb, hx]; omega
  · obtain ⟨w1, w2, w3⟩ := w
    have k1 : k < p2 L := by omega
    have g := hB k a k1
    have sm := SL_sym h a k1
    rw [w1] at sm
    have bk := g.1
    rw [g.2] at w2 w3
    have pc := p2_pos (bi k)
    have xk : (st + p2 L) / p2 (bi k) = XN P sy k := by
      have l1 : XN P sy k ≤ (st + p2 L) / p2 (bi k) := Int.le_ediv_of_mul_le (by omega) (by omega)
      have l2 : (st + p2 L) / p2 (bi k) < XN P sy k + 1 := Int.ediv_lt_of_lt_mul (by omega) (by rw [Int.add_mul, Int.one_mul]; omega)
      omega
    have ba_ : BA (mass (P s)) L st (bi k) := ⟨bk.1, bk.2.1, by omega, by omega⟩
    have ee := BA_u (by omega) ba_ hb (by omega)
    have xe : XN P sy k = XN P sy r := by rw [← xk, hx, ee]
    have z := eqs_lt (sy := sy) (s := s) a c w1
    unfold XN at xe
    rw [w1, hs] at xe
    omega
end SLx

theorem CHN_0 {sy bi ba row : Int → Int} {L n st c s d : Int} (h : LOW sy bi L s 0 st) (hs : row (n - 1) = s) (hc : c = L) (hd : d = 0) : CHN sy bi ba L row n d.toNat st c := by
  subst hd hs
  exact ⟨h, hc⟩


end
section
/-! 19g -/
def lkF (kn is_ : Int → Int) (but : Int) : Nat → Int
  | 0 => -1
  | k + 1 => if (k : Int) ≠ but ∧ 0 < kn (k : Int) ∧ is_ (k : Int) < 0 ∧ (lkF kn is_ but k < 0 ∨ kn (k : Int) < kn (lkF kn is_ but k)) then (k : Int) else lkF kn is_ but k
def AGn (f g : Int → Int) (n : Int) : Prop := ∀ k, 0 ≤ k → k < n → f k = g k
section LKx
variable {kn is_ kn2 is2 : Int → Int} {but i b r n : Int}
theorem lkF_s (h0 : 0 ≤ i) (hb : lkF kn is_ but i.toNat = b) : (i ≠ but ∧ 0 < kn i ∧ is_ i < 0 ∧ (b < 0 ∨ kn i < kn b)) ∧ lkF kn is_ but (i + 1).toNat = i ∨ ¬ (i ≠ but ∧ 0 < kn i ∧ is_ i < 0 ∧ (b < 0 ∨ kn i < kn b)) ∧ lkF kn is_ but (i + 1).toNat = b := by
  rw [show (i + 1).toNat = i.toNat + 1 by omega]
  have ei : ((i.toNat : Nat) : Int) = i := by omega
  by_cases q : i ≠ but ∧ 0 < kn i ∧ is_ i < 0 ∧ (b < 0 ∨ kn i < kn b)
  · left
    refine ⟨q, ?_⟩
    show (if (i.toNat : Int) ≠ but ∧ 0 < kn (i.toNat : Int) ∧ is_ (i.toNat : Int) < 0 ∧ (lkF kn is_ but i.toNat < 0 ∨ kn (i.toNat : Int) < kn (lkF kn is_ but i.toNat)) then ((i.toNat : Nat) : Int) else lkF kn is_ but i.toNat) = i
    rw [hb, ei, if_pos q]
  · right
    refine ⟨q, ?_⟩
    show (if (i.toNat : Int) ≠ but ∧ 0 < kn (i.toNat : Int) ∧ is_ (i.toNat : Int) < 0 ∧ (lkF kn is_ but i.toNat < 0 ∨ kn (i.toNat : Int) < kn (lkF kn is_ but i.toNat)) then ((i.toNat : Nat) : Int) else lkF kn is_ but i.toNat) = b
    rw [hb, ei, if_neg q]
theorem lkF_n (m : Nat) : ((m : Int) ≠ but ∧ 0 < kn (m : Int) ∧ is_ (m : Int) < 0 ∧ (lkF kn is_ but m < 0 ∨ kn (m : Int) < kn (lkF kn is_ but m))) ∧ lkF kn is_ but (m + 1) = (m : Int) ∨ ¬ ((m : Int) ≠ but ∧ 0 < kn (m : Int) ∧ is_ (m : Int) < 0 ∧ (lkF kn is_ but m < 0 ∨ kn (m : Int) < kn (lkF kn is_ but m))) ∧ lkF kn is_ but (m + 1) = lkF kn is_ but m := by
  have q := lkF_s (kn := kn) (is_ := is_) (but := but) (i := (m : Int)) (b := lkF kn is_ but m) (by omega) rfl
  rw [show ((m : Int) + 1).toNat = m + 1 by omega] at q
  exact q
theorem lkF_rng : ∀ m : Nat, -1 ≤ lkF kn is_ but m ∧ lkF kn is_ but m < (m : Int)
  | 0 => by show (-1 : Int) ≤ -1 ∧ (-1 : Int) < ((0 : Nat) : Int); omega
  | m + 1 => by
    have w := lkF_rng m
    have q := lkF_n (kn := kn) (is_ := is_) (but := but) m
    rcases q with ⟨_, q⟩ | ⟨_, q⟩ <;> omega
theorem lkF_el : ∀ m : Nat, 0 ≤ lkF kn is_ but m → lkF kn is_ but m ≠ but ∧ 0 < kn (lkF kn is_ but m) ∧ is_ (lkF kn is_ but m) < 0
  | 0, h => absurd (show (0 : Int) ≤ -1 from h) (by decide)
  | m + 1, h => by
    have q := lkF_n (kn := kn) (is_ := is_) (but := but) m
    rcases q with ⟨⟨a, b, c, _⟩, q⟩ | ⟨_, q⟩
    · rw [q]; exact ⟨a, b, c⟩
    · rw [q] at h ⊢
      exact lkF_el m h

def LKX (kn is_ : Int → Int) (n but r : Int) : Prop := 0 ≤ r ∧ r < n ∧ r ≠ but ∧ 0 < kn r ∧ is_ r < 0 ∧ ∀ k, 0 ≤ k → k < n → k ≠ but → 0 < kn k → is_ k < 0 → kn r < kn k ∨ kn r = kn k ∧ r ≤ k
theorem lkF_e : ∀ {m : Nat} {r : Int}, LKX kn is_ (m : Int) but r → lkF kn is_ but m = r
  | 0, r, h => by
    have a := h.1
    have b := h.2.1
    omega
  | m + 1, r, h => by
    obtain ⟨h0, h1, h2, h3, h4, h5⟩ := h
    have q := lkF_n (kn := kn) (is_ := is_) (but := but) m
    by_cases e : r = (m : Int)
    · rcases q with ⟨_, q⟩ | ⟨q, _⟩
      · rw [q, e]
      · exfalso
        apply q
        rw [← e]
        refine ⟨h2, h3, h4, ?_⟩
        by_cases w : lkF kn is_ but m < 0
        · exact .inl w
        · right
          have el := lkF_el (kn := kn) (is_ := is_) (but := but) m (by omega)
          have rg := lkF_rng (kn := kn) (is_ := is_) (but := but) m
          have z := h5 (lkF kn is_ but m) (by omega) (by omega) el.1 el.2.1 el.2.2
          omega
    · have ih := lkF_e (m := m) (r := r) ⟨h0, by omega, h2, h3, h4, fun k a b c d f => h5 k a (by omega) c d f⟩
      rw [ih] at q
      rcases q with ⟨⟨a1, a2, a3, a4⟩, _⟩ | ⟨_, q⟩
      · have z := h5 (m : Int) (by omega) (by omega) a1 a2 a3
        omega
      · exact q
theorem lkF_I (h : LKX kn is_ n but r) : lkF kn is_ but n.toNat = r := lkF_e (by
  have a := h.1
  have b := h.2.1
  rw [show ((n.toNat : Nat) : Int) = n by omega]
  exact h)
theorem lkF_no {m : Nat} (h : ∀ k, 0 ≤ k → k < (m : Int) → k ≠ but → 0 < kn k → ¬ is_ k < 0) : lkF kn is_ but m = -1 := by
  have rg := lkF_rng (kn := kn) (is_ := is_) (but := but) m
  by_cases w : 0 ≤ lkF kn is_ but m
  · have el := lkF_el (kn := kn) (is_ := is_) (but := but) m w
    exact absurd el.2.2 (h _ w rg.2 el.1 el.2.1)
  · omega
theorem lkF_cg (hk : AGn kn kn2 n) (hi : AGn is_ is2 n) : ∀ m : Nat, (m : Int) ≤ n → lkF kn is_ but m = lkF kn2 is2 but m
  | 0, _ => rfl
  | m + 1, h => by
    have e := lkF_cg hk hi m (by omega)
    have r := lkF_rng (kn := kn2) (is_ := is2) (but := but) m
    have q := lkF_n (kn := kn) (is_ := is_) (but := but) m
    have q2 := lkF_n (kn := kn2) (is_ := is2) (but := but) m
    rw [e, hk (m : Int) (by omega) (by omega), hi (m : Int) (by omega) (by omega)] at q
    by_cases w : lkF kn2 is2 but m < 0
    · omega
    · rw [hk (lkF kn2 is2 but m) (by omega) (by omega)] at q
      omega
end LKx
abbrev HtS := (Int → Int) × (Int → Int) × Int
def HTs (x : HtS) : HtS ⊕ HtS :=
  if lkF x.1 x.2.1 (lkF x.1 x.2.1 (-1) x.2.2.toNat) x.2.2.toNat < 0 then .inr x
  else .inl (upd1 x.1 x.2.2 (x.1 (lkF x.1 x.2.1 (-1) x.2.2.toNat) + x.1 (lkF x.1 x.2.1 (lkF x.1 x.2.1 (-1) x.2.2.toNat) x.2.2.toNat)), upd1 (upd1 (upd1 x.2.1 x.2.2 (-1)) (lkF x.1 x.2.1 (-1) x.2.2.toNat) x.2.2) (lkF x.1 x.2.1 (lkF x.1 x.2.1 (-1) x.2.2.toNat) x.2.2.toNat) x.2.2, x.2.2 + 1)
def ht0 : HtS := ((fun _ => 0), (fun _ => -1), 0)
noncomputable def HTR (h : Int → Int) : HtS := LPF ht0 HTs (cutP 256 h, (fun _ => -1), 256)
def HTO (h kn is_ : Int → Int) (n : Int) : Prop := HTR h = LPF ht0 HTs (kn, is_, n)
section HTx
variable {h kn is_ kc ic : Int → Int} {n n2 o t v k : Int}
theorem HTO_0 : HTO h (cutP 256 h) (fun _ => -1) 256 := rfl
theorem HTO_s (w : HTO h kn is_ n) (ho : lkF kn is_ (-1) n.toNat = o) (ht : lkF kn is_ o n.toNat = t) (t0 : 0 ≤ t) (e : n2 = n + 1) (ev : v = kn o + kn t) : HTO h (upd1 kn n v) (upd1 (upd1 (upd1 is_ n (-1)) o n) t n) n2 := by
  subst ho ht e ev
  unfold HTO at w ⊢
  rw [w]
  refine LPF_s ?_
  unfold HTs
  exact if_neg (show ¬ lkF kn is_ (lkF kn is_ (-1) n.toNat) n.toNat < 0 by omega)
theorem HTO_e (w : HTO h kn is_ n) (ho : lkF kn is_ (-1) n.toNat = o) (ht : lkF kn is_ o n.toNat = t) (t0 : t < 0) : HTR h = (kn, is_, n) := by
  subst ho ht
  unfold HTO at w
  rw [w]
  refine LPF_e ?_
  unfold HTs
  exact if_pos t0

def HTA (h kn is_ : Int → Int) (n : Int) : Prop := ∃ kc ic, HTO h kc ic n ∧ AGn kc kn n ∧ AGn ic is_ n
theorem HTA_0 (hk : ∀ i, 0 ≤ i → i < 256 → kn i = h i) (hi : ∀ i, 0 ≤ i → i < 256 → is_ i = -1) : HTA h kn is_ 256 := ⟨_, _, HTO_0, fun k a b => by rw [cutP_in ⟨a, b⟩]; exact (hk k a b).symm, fun k a b => (hi k a b).symm⟩
theorem AGn_upd {f g : Int → Int} {b w : Int} (q : AGn f g n) (e : v = w) : AGn (upd1 f b v) (upd1 g b w) n := fun k a c => by
  by_cases z : k = b
  · rw [z, upd1_s, upd1_s, e]
  · rw [upd1_o z, upd1_o z]; exact q k a c
theorem AGn_new {f g : Int → Int} {w : Int} (q : AGn f g n) (e : v = w) (e2 : n2 = n + 1) : AGn (upd1 f n v) (upd1 g n w) n2 := fun k a c => by
  by_cases z : k = n
  · rw [z, upd1_s, upd1_s, e]
  · rw [upd1_o z, upd1_o z]; exact q k a (by omega)
theorem lk_o (ht : lkF kn is_ o n.toNat = t) (ho : lkF kn is_ (-1) n.toNat = o) (t0 : 0 ≤ t) (n0 : 0 ≤ n) : 0 ≤ o ∧ o < n ∧ t < n := by
  have r1 := lkF_rng (kn := kn) (is_ := is_) (but := -1) n.toNat
  have r2 := lkF_rng (kn := kn) (is_ := is_) (but := o) n.toNat
  rw [ho] at r1
  rw [ht] at r2
  by_cases q : o = -1
  · rw [q, ← q] at ht
    rw [q] at ht ho
    omega
  · omega
theorem HTA_s (w : HTA h kn is_ n) (n0 : 0 ≤ n) (ho : o = lkF kn is_ (-1) n.toNat) (ht : t = lkF kn is_ o n.toNat) (t0 : 0 ≤ t) (e : n2 = n + 1) (ev : v = kn o + kn t) : HTA h (upd1 kn n v) (upd1 (upd1 (upd1 is_ n (-1)) o n) t n) n2 := by
  obtain ⟨kc, ic, w1, w2, w3⟩ := w
  have r := lk_o ht.symm ho.symm t0 n0
  have c1 := lkF_cg (but := -1) w2 w3 n.toNat (by omega)
  have c2 := lkF_cg (but := o) w2 w3 n.toNat (by omega)
  refine ⟨_, _, HTO_s w1 (c1.trans ho.symm) (c2.trans ht.symm) t0 e rfl, AGn_new w2 (by rw [w2 o r.1 r.2.1, w2 t t0 r.2.2, ev]) e, AGn_upd (AGn_upd (AGn_new w3 rfl e) rfl) rfl⟩
theorem HTA_e (w : HTA h kn is_ n) (n0 : 0 ≤ n) (ho : o = lkF kn is_ (-1) n.toNat) (ht : t = lkF kn is_ o n.toNat) (t0 : t < 0) : ∃ kc ic, HTR h = (kc, ic, n) ∧ AGn ic is_ n := by
  obtain ⟨kc, ic, w1, w2, w3⟩ := w
  have c1 := lkF_cg (but := -1) w2 w3 n.toNat (by omega)
  have c2 := lkF_cg (but := o) w2 w3 n.toNat (by omega)
  exact ⟨kc, ic, HTO_e w1 (c1.trans ho.symm) (c2.trans ht.symm) t0, w3⟩
theorem dpt_cg {a b : Int → Int} (q : AGn a b n) (hB : ∀ k, 0 ≤ k → k < n → 0 ≤ b k → b k < n) : ∀ (f : Nat) (k : Int), 0 ≤ k → k < n → dpt a f k = dpt b f k
  | 0, _, _, _ => rfl
  | f + 1, k, x, y => by
    show (if a k < 0 then 0 else dpt a f (a k) + 1) = (if b k < 0 then 0 else dpt b f (b k) + 1)
    rw [q k x y]
    by_cases z : b k < 0
    · rw [if_pos z, if_pos z]
    · rw [if_neg z, if_neg z, dpt_cg q hB f (b k) (by omega) (hB k x y (by omega))]
theorem dp_cg {a b : Int → Int} (q : AGn a b n) (hB : ∀ k, 0 ≤ k → k < n → 0 ≤ b k → b k < n) (k0 : 0 ≤ k) (k1 : k < n) : dp a k = dp b k := dpt_cg q hB 600 k k0 k1
end HTx

noncomputable def dpH (h : Int → Int) (s : Int) : Int := dp (HTR h).2.1 s
def mxN (d : Int → Int) : Nat → Int
  | 0 => 0
  | n + 1 => if mxN d n < d (n : Int) then d (n : Int) else mxN d n
theorem mxN_s {d : Int → Int} {i i2 m m2 v : Int} (h : m = mxN d i.toNat) (h0 : 0 ≤ i) (e : i2 = i + 1) (hv : v = d i) (hm : m < v ∧ m2 = v ∨ v ≤ m ∧ m2 = m) : m2 = mxN d i2.toNat := by
  subst e hv
  rw [show (i + 1).toNat = i.toNat + 1 by omega]
  show m2 = if mxN d i.toNat < d (i.toNat : Int) then d (i.toNat : Int) else mxN d i.toNat
  rw [← h, show ((i.toNat : Nat) : Int) = i by omega]
  rcases hm with ⟨a, b⟩ | ⟨a, b⟩
  · rw [if_pos a, b]
  · rw [if_neg (by omega), b]
theorem mxN_cg {d d2 : Int → Int} : ∀ {n : Nat}, (∀ i, 0 ≤ i → i < (n : Int) → d i = d2 i) → mxN d n = mxN d2 n
  | 0, _ => rfl
  | n + 1, h => by
    show (if mxN d n < d (n : Int) then d (n : Int) else mxN d n) = (if mxN d2 n < d2 (n : Int) then d2 (n : Int) else mxN d2 n)
    rw [mxN_cg (n := n) (fun i a b => h i a (by omega)), h (n : Int) (by omega) (by omega)]

theorem mxN_is {d : Int → Int} {m : Int} : ∀ {n : Nat}, 0 ≤ m → (∀ i, 0 ≤ i → i < (n : Int) → d i ≤ m) → (m = 0 ∨ ∃ i, 0 ≤ i ∧ i < (n : Int) ∧ d i = m) → m = mxN d n
  | 0, h0, _, h2 => by
    rcases h2 with q | ⟨i, a, b, _⟩
    · exact q
    · omega
  | n + 1, h0, h1, h2 => by
    have key : ∀ {k : Nat}, (k : Int) ≤ (n : Int) + 1 → 0 ≤ mxN d k ∧ mxN d k ≤ m := fun {k} => by
      induction k with
      | zero => intro _; exact ⟨Int.le_refl 0, h0⟩
      | succ k ih =>
        intro hk
        have w := ih (by omega)
        have z := h1 (k : Int) (by omega) (by omega)
        show 0 ≤ (if mxN d k < d (k : Int) then d (k : Int) else mxN d k) ∧ (if mxN d k < d (k : Int) then d (k : Int) else mxN d k) ≤ m
        by_cases c : mxN d k < d (k : Int)
        · rw [if_pos c]; omega
        · rw [if_neg c]; omega
    have kn_ := key (k := n) (by omega)
    show m = if mxN d n < d (n : Int) then d (n : Int) else mxN d n
    have z := h1 (n : Int) (by omega) (by omega)
    rcases h2 with q | ⟨i, a, b, c⟩
    · by_cases w : mxN d n < d (n : Int)
      · rw [if_pos w]; omega
      · rw [if_neg w]; omega
    · by_cases e : i = (n : Int)
      · rw [e] at c
        by_cases w : mxN d n < d (n : Int)
        · rw [if_pos w]; omega
        · rw [if_neg w]; omega
      · have ih := mxN_is (d := d) (m := m) (n := n) h0 (fun i x y => h1 i x (by omega)) (.inr ⟨i, a, by omega, c⟩)
        rw [← ih, if_neg (by omega)]
noncomputable def mxF (h : Int → Int) : Int := mxN (dpH h) 256

def hvF (co : Int → Int) (t : Int) : Int → Int := fun s => (co s + p2 t - 1) / p2 t
theorem hvF_0 {co : Int → Int} : hvF co 0 = co := by
  funext s
  show (co s + p2 0 - 1) / p2 0 = co s
  rw [show p2 0 = 1 by decide]
  omega
theorem hvF_s {co : Int → Int} {t t2 s : Int} (h : 0 ≤ t) (e : t2 = t + 1) : (hvF co t s + 1) / 2 = hvF co t2 s := by
  subst e
  have p := p2_pos t
  unfold hvF
  rw [p2_s h, show co s + 2 * p2 t - 1 = (co s + p2 t - 1) + p2 t * 1 by omega, Int.mul_comm 2 (p2 t), ← Int.ediv_ediv_of_nonneg (by omega), Int.add_mul_ediv_left _ _ (show p2 t ≠ 0 by omega)]
noncomputable def LBs (co : Int → Int) (t : Int) : Int ⊕ Int := if mxF (hvF co t) ≤ 11 then .inr t else .inl (t + 1)
noncomputable def LBT (co : Int → Int) : Int := LPF 0 (LBs co) 0
def LBO (co : Int → Int) (t : Int) : Prop := LBT co = LPF 0 (LBs co) t
theorem LBO_0 {co : Int → Int} : LBO co 0 := rfl
theorem LBO_s {co : Int → Int} {t t2 : Int} (h : LBO co t) (hm : 11 < mxF (hvF co t)) (e : t2 = t + 1) : LBO co t2 := by
  subst e
  unfold LBO at h ⊢
  rw [h]
  exact LPF_s (if_neg (by omega))
theorem LBO_e {co : Int → Int} {t : Int} (h : LBO co t) (hm : mxF (hvF co t) ≤ 11) : LBT co = t := by
  unfold LBO at h
  rw [h]
  exact LPF_e (if_pos hm)

theorem cutP_cg {n : Int} {P Q : Int → Int} (h : ∀ i, 0 ≤ i → i < n → P i = Q i) : cutP n P = cutP n Q := cutP_eq h (Int.le_refl n) (fun i a b c => by omega)
theorem HTR_cg {h g : Int → Int} (e : ∀ i, 0 ≤ i → i < 256 → h i = g i) : HTR h = HTR g := by
  unfold HTR
  rw [cutP_cg e]
theorem mxF_cg {h g : Int → Int} (e : ∀ i, 0 ≤ i → i < 256 → h i = g i) : mxF h = mxF g := by
  unfold mxF dpH
  rw [HTR_cg e]

def LSP (h am od : Int → Int) (z l : Int) : Prop := (∀ c, 0 ≤ c → c < z → 0 ≤ od c ∧ od c < l ∧ am c = h (od c) ∧ 0 < am c) ∧ (∀ s, 0 ≤ s → s < l → 0 < h s → ∃ c, 0 ≤ c ∧ c < z ∧ od c = s) ∧ (∀ c d, 0 ≤ c → c < d → d < z → am c < am d ∨ am c = am d ∧ od c < od d)
theorem LSP_0 {h am od : Int → Int} : LSP h am od 0 0 := ⟨fun c a b => absurd b (by omega), fun s a b => absurd b (by omega), fun c d a b e => absurd e (by omega)⟩
theorem LSP_no {h am od : Int → Int} {z l l2 : Int} (w : LSP h am od z l) (hn : h l ≤ 0) (e : l2 = l + 1) : LSP h am od z l2 := by
  refine ⟨fun c a b => ?_, fun s a b q => ?_, w.2.2⟩
  · have k := w.1 c a b
    exact ⟨k.1, by omega, k.2.2.1, k.2.2.2⟩
  · by_cases z : s = l
    · rw [z] at q; omega
    · exact w.2.1 s a (by omega) q

def MVU (am0 am : Int → Int) (p e : Int) : Prop := (∀ i, 0 ≤ i → i < p → am i = am0 i) ∧ (∀ i, p < i → i ≤ e → am i = am0 (i - 1))
theorem MVU_0 {am : Int → Int} {e : Int} : MVU am am e e := ⟨fun _ _ _ => rfl, fun i a b => absurd a (by omega)⟩
theorem MVU_s {am0 am : Int → Int} {p e q v : Int} (w : MVU am0 am p e) (hp : 1 ≤ p) (hq : q = p - 1) (hv : am q = v) : MVU am0 (upd1 am p v) q e := by
  refine ⟨fun i a b => ?_, fun i a b => ?_⟩
  · rw [upd1_o (by omega)]; exact w.1 i a (by omega)
  · by_cases z : i = p
    · rw [z, upd1_s, ← hv, w.1 q (by omega) (by omega), hq]
    · rw [upd1_o z]; exact w.2 i (by omega) b
theorem LSP_in {h am od am0 od0 : Int → Int} {z l l2 z2 p x : Int} (w : LSP h am0 od0 z l) (m1 : MVU am0 am p z) (m2 : MVU od0 od p z) (hp : 0 ≤ p ∧ p ≤ z) (h0 : 0 ≤ l) (hx : x = h l) (hx0 : 0 < x) (hlo : p = 0 ∨ am0 (p - 1) ≤ x) (hhi : ∀ i, p ≤ i → i < z → x < am0 i) (e : l2 = l + 1) (e2 : z2 = z + 1) : LSP h (upd1 am p x) (upd1 od p l) z2 l2 := by
  have ga : ∀ c, 0 ≤ c → c < z2 → c < p ∧ upd1 am p x c = am0 c ∧ upd1 od p l c = od0 c ∨ c = p ∧ upd1 am p x c = x ∧ upd1 od p l c = l ∨ p < c ∧ upd1 am p x c = am0 (c - 1) ∧ upd1 od p l c = od0 (c - 1) := fun c a b => by
    rcases (show c < p ∨ c = p ∨ p < c by omega) with q | q | q
    · exact .inl ⟨q, by rw [upd1_o (by omega)]; exact m1.1 c a q, by rw [upd1_o (by omega)]; exact m2.1 c a q⟩
    · exact .inr (.inl ⟨q, by rw [q, upd1_s], by rw [q, upd1_s]⟩)
    · exact .inr (.inr ⟨q, by rw [upd1_o (by omega)]; exact m1.2 c q (by omega), by rw [upd1_o (by omega)]; exact m2.2 c q (by omega)⟩)
  have lo : ∀ c, 0 ≤ c → c < p → am0 c ≤ x := fun c a b => by
    rcases hlo with q | q
    · omega
    · by_cases r : c = p - 1
      · rw [r]; exact q
      · have := w.2.2 c (p - 1) a (by omega) (by omega)
        omega
  refine ⟨fun c a b => ?_, fun s a b q => ?_, fun c d a b f => ?_⟩
  · rcases ga c a b with ⟨q, q1, q2⟩ | ⟨q, q1, q2⟩ | ⟨q, q1, q2⟩
    · rw [q1, q2]
      have k := w.1 c a (by omega)
      exact ⟨k.1, by omega, k.2.2.1, k.2.2.2⟩
    · rw [q1, q2]; exact ⟨h0, by omega, hx, hx0⟩
    · rw [q1, q2]
      have k := w.1 (c - 1) (by omega) (by omega)
      exact ⟨k.1, by omega, k.2.2.1, k.2.2.2⟩
  · by_cases r : s = l
    · exact ⟨p, hp.1, by omega, by rw [upd1_s, r]⟩
    · obtain ⟨c, c0, c1, c2⟩ := w.2.1 s a (by omega) q
      by_cases t : c < p
      · exact ⟨c, c0, by omega, by rw [upd1_o (by omega), m2.1 c c0 t]; exact c2⟩
      · exact ⟨c + 1, by omega, by omega, by rw [upd1_o (by omega), m2.2 (c + 1) (by omega) (by omega), show c + 1 - 1 = c by omega]; exact c2⟩
  · rcases ga c a (by omega) with ⟨q, q1, q2⟩ | ⟨q, q1, q2⟩ | ⟨q, q1, q2⟩ <;> rcases ga d (by omega) f with ⟨r, r1, r2⟩ | ⟨r, r1, r2⟩ | ⟨r, r1, r2⟩
    · rw [q1, q2, r1, r2]; exact w.2.2 c d a b (by omega)
    · rw [q1, q2, r1, r2]
      have k1 := lo c a q
      have k2 := (w.1 c a (by omega)).2.1
      omega
    · rw [q1, q2, r1, r2]; exact w.2.2 c (d - 1) a (by omega) (by omega)
    · omega
    · omega
    · rw [q1, q2, r1, r2]
      exact .inl (hhi (d - 1) (by omega) (by omega))
    · omega
    · omega
    · rw [q1, q2, r1, r2]; exact w.2.2 (c - 1) (d - 1) (by omega) (by omega) (by omega)

def phi (od : Int → Int) (z c : Int) : Int := if c < z then od c else 256 + (c - z)
def CLS (h am pa od : Int → Int) (z la sa n : Int) : Prop := ∃ kn is_, HTO h kn is_ (256 + (n - z)) ∧ LSP h am od z 256 ∧ (0 ≤ la ∧ la ≤ z ∧ z ≤ sa ∧ sa ≤ n) ∧
  (∀ s, 0 ≤ s → s < 256 → kn s = h s) ∧ (∀ c, z ≤ c → c < n → kn (phi od z c) = am c ∧ 0 < am c) ∧
  (∀ c, 0 ≤ c → c < n → ((c < la ∨ z ≤ c ∧ c < sa) ∧ is_ (phi od z c) = 256 + (pa c - z) ∧ c < pa c ∧ z ≤ pa c ∧ pa c < n) ∨ ((la ≤ c ∧ c < z ∨ sa ≤ c) ∧ is_ (phi od z c) = -1)) ∧ (∀ s, 0 ≤ s → s < 256 → h s ≤ 0 → is_ s = -1)
section CLSx
variable {h am pa od kn is_ : Int → Int} {z la sa n o la1 sa1 t la2 sa2 n2 v c d : Int}
theorem phi_l (q : c < z) : phi od z c = od c := if_pos q
theorem phi_s (q : z ≤ c) : phi od z c = 256 + (c - z) := if_neg (by omega)
theorem phi_inj (w : LSP h am od z 256) (a : 0 ≤ c) (b : 0 ≤ d) (e : phi od z c = phi od z d) : c = d := by
  by_cases q : c < z
  · rw [phi_l q] at e
    have k1 := w.1 c a q
    by_cases r : d < z
    · rw [phi_l r] at e
      rcases (show c < d ∨ c = d ∨ d < c by omega) with x | x | x
      · have k2 := w.1 d b r
        have m := w.2.2 c d a x r
        rw [k1.2.2.1, k2.2.2.1, e] at m
        omega
      · exact x
      · have k2 := w.1 d b r
        have m := w.2.2 d c b x q
        rw [k1.2.2.1, k2.2.2.1, e] at m
        omega
    · rw [phi_s (by omega)] at e; omega
  · rw [phi_s (by omega)] at e
    by_cases r : d < z
    · rw [phi_l r] at e
      have k2 := w.1 d b r
      omega
    · rw [phi_s (by omega)] at e; omega
theorem CLS_0 (w : LSP h am od z 256) (hz : 0 ≤ z) (hh : ∀ s, 0 ≤ s → s < 256 → 0 ≤ h s) : CLS h am pa od z 0 z z := by
  refine ⟨cutP 256 h, (fun _ => -1), ?_, w, by omega, fun s a b => cutP_in ⟨a, b⟩, fun c a b => absurd b (by omega), fun c a b => .inr ⟨by omega, rfl⟩, fun _ _ _ _ => rfl⟩
  rw [show 256 + (z - z) = 256 by omega]
  exact HTO_0

theorem CLS_lk (w : LSP h am od z 256) (r : 0 ≤ la ∧ la ≤ z ∧ z ≤ sa ∧ sa ≤ n) (hk : ∀ s, 0 ≤ s → s < 256 → kn s = h s) (hs : ∀ c, z ≤ c → c < n → kn (phi od z c) = am c ∧ 0 < am c) (s2 : SRT am sa n) {but : Int}
    (hav : ∀ k, 0 ≤ k → k < 256 + (n - z) → k ≠ but → 0 < kn k → is_ k < 0 → ∃ c, (la ≤ c ∧ c < z ∨ sa ≤ c ∧ c < n) ∧ k = phi od z c)
    (hin : ∀ c, (la ≤ c ∧ c < z ∨ sa ≤ c ∧ c < n) → phi od z c ≠ but ∧ is_ (phi od z c) < 0)
    (tk : la < z ∧ o = la ∧ (n ≤ sa ∨ am la ≤ am sa) ∨ sa < n ∧ o = sa ∧ (z ≤ la ∨ am sa < am la)) : lkF kn is_ but (256 + (n - z)).toNat = phi od z o := by
  have va : ∀ c, 0 ≤ c → c < n → kn (phi od z c) = am c ∧ 0 < am c ∧ 0 ≤ phi od z c ∧ phi od z c < 256 + (n - z) := fun c a b => by
    by_cases q : c < z
    · have k := w.1 c a q
      rw [phi_l q]
      exact ⟨by rw [hk _ k.1 k.2.1]; exact k.2.2.1.symm, k.2.2.2, k.1, by omega⟩
    · have k := hs c (by omega) b
      rw [phi_s (by omega)] at k ⊢
      exact ⟨k.1, k.2, by omega, by omega⟩
  have oin : la ≤ o ∧ o < z ∨ sa ≤ o ∧ o < n := by omega
  have ov := va o (by omega) (by omega)
  have oi := hin o oin
  refine lkF_I ⟨ov.2.2.1, ov.2.2.2, oi.1, by rw [ov.1]; exact ov.2.1, oi.2, fun k a b e f g => ?_⟩
  obtain ⟨c, ci, ck⟩ := hav k a b e f g
  have cv := va c (by omega) (by omega)
  rw [ck, ov.1, cv.1]
  rcases tk with ⟨t1, t2, t3⟩ | ⟨t1, t2, t3⟩
  · subst t2
    rcases ci with ⟨x, y⟩ | ⟨x, y⟩
    · by_cases q : o = c
      · rw [q]; exact .inr ⟨rfl, Int.le_refl _⟩
      · have m := w.2.2 o c (by omega) (by omega) y
        rw [phi_l t1, phi_l y]
        omega
    · have m : am sa ≤ am c := s2 sa c (Int.le_refl _) x y
      have z1 := (w.1 o (by omega) t1)
      rw [phi_l t1, phi_s (c := c) (by omega)]
      omega
  · subst t2
    rcases ci with ⟨x, y⟩ | ⟨x, y⟩
    · have m : am la = am c ∨ am la < am c := by
        by_cases q : la = c
        · rw [q]; exact .inl rfl
        · have := w.2.2 la c (by omega) (by omega) y
          omega
      omega
    · have m : am o ≤ am c := s2 o c (Int.le_refl _) x y
      rw [phi_s (c := o) (by omega), phi_s (c := c) (by omega)]
      omega
theorem CLS_s (w : CLS h am pa od z la sa n) (s2 : SRT am sa n)
    (t1 : la < z ∧ o = la ∧ la1 = la + 1 ∧ sa1 = sa ∧ (n ≤ sa ∨ am la ≤ am sa) ∨ sa < n ∧ o = sa ∧ la1 = la ∧ sa1 = sa + 1 ∧ (z ≤ la ∨ am sa < am la))
    (t2 : la1 < z ∧ t = la1 ∧ la2 = la1 + 1 ∧ sa2 = sa1 ∧ (n ≤ sa1 ∨ am la1 ≤ am sa1) ∨ sa1 < n ∧ t = sa1 ∧ la2 = la1 ∧ sa2 = sa1 + 1 ∧ (z ≤ la1 ∨ am sa1 < am la1))
    (e : n2 = n + 1) (ev : v = am o + am t) : CLS h (upd1 am n v) (upd1 (upd1 pa o n) t n) od z la2 sa2 n2 := by
  obtain ⟨kn, is_, w1, w2, w3, w4, w5, w6, w7⟩ := w
  have bk : ∀ k, 0 ≤ k → k < 256 + (n - z) → 0 < kn k → is_ k < 0 → ∃ c, (la ≤ c ∧ c < z ∨ sa ≤ c ∧ c < n) ∧ k = phi od z c := fun k a b f g => by
    by_cases q : k < 256
    · rw [w4 k a q] at f
      obtain ⟨c, c0, c1, c2⟩ := w2.2.1 k a q f
      have y := w6 c c0 (by omega)
      rw [phi_l c1, c2] at y
      refine ⟨c, ?_, by rw [phi_l c1]; exact c2.symm⟩
      omega
    · have y := w6 (k - 256 + z) (by omega) (by omega)
      rw [phi_s (by omega), show 256 + (k - 256 + z - z) = k by omega] at y
      exact ⟨k - 256 + z, by omega, by rw [phi_s (by omega)]; omega⟩
  have fk : ∀ c, (la ≤ c ∧ c < z ∨ sa ≤ c ∧ c < n) → is_ (phi od z c) < 0 := fun c a => by
    have y := w6 c (by omega) (by omega)
    omega
  have lo := CLS_lk (o := o) (but := -1) w2 w3 w4 w5 s2 (fun k a b _ f g => bk k a b f g) (fun c a => ⟨by
    by_cases q : c < z
    · rw [phi_l q]; have := w2.1 c (by omega) q; omega
    · rw [phi_s (by omega)]; omega, fk c a⟩) (by omega)
  have s3 : SRT am sa1 n := fun i j a b f => s2 i j (by omega) b f
  have lt := CLS_lk (o := t) (la := la1) (sa := sa1) (but := phi od z o) w2 (by omega) w4 w5 s3 (fun k a b q f g => by
    obtain ⟨c, c1, c2⟩ := bk k a b f g
    have : c ≠ o := fun x => q (by rw [c2, x])
    exact ⟨c, by omega, c2⟩) (fun c a => ⟨fun x => by
      have := phi_inj w2 (by omega) (by omega) x
      omega, fk c (by omega)⟩) (by omega)
  have va : ∀ c, 0 ≤ c → c < n → kn (phi od z c) = am c ∧ 0 < am c ∧ 0 ≤ phi od z c ∧ phi od z c < 256 + (n - z) := fun c a b => by
    by_cases q : c < z
    · have k := w2.1 c a q
      rw [phi_l q]
      exact ⟨by rw [w4 _ k.1 k.2.1]; exact k.2.2.1.symm, k.2.2.2, k.1, by omega⟩
    · have k := w5 c (by omega) b
      rw [phi_s (by omega)] at k ⊢
      exact ⟨k.1, k.2, by omega, by omega⟩
  have vo := va o (by omega) (by omega)
  have vt := va t (by omega) (by omega)
  have st := HTO_s (n2 := 256 + (n2 - z)) w1 lo lt vt.2.2.1 (by omega) (v := v) (by rw [vo.1, vt.1]; exact ev)
  have l2 : LSP h (upd1 am n v) od z 256 := by
    refine ⟨fun c a b => ?_, w2.2.1, fun c d a b f => ?_⟩
    · rw [upd1_o (by omega)]; exact w2.1 c a b
    · rw [upd1_o (by omega), upd1_o (by omega)]; exact w2.2.2 c d a b f
  refine ⟨_, _, st, l2, by omega, fun s a b => ?_, fun c a b => ?_, fun c a b => ?_, fun s a b q => ?_⟩
  · rw [upd1_o (by omega)]; exact w4 s a b
  · by_cases q : c = n
    · subst q
      rw [phi_s (c := c) (by omega), upd1_s, upd1_s]
      exact ⟨rfl, by omega⟩
    · have k := w5 c a (by omega)
      have p := va c (by omega) (by omega)
      rw [upd1_o q, upd1_o (by omega)]
      exact k
  · by_cases q : c = n
    · subst q
      rw [phi_s (c := c) (by omega)]
      refine .inr ⟨by omega, ?_⟩
      rw [upd1_o (by omega), upd1_o (by omega), upd1_s]
    · have y := w6 c a (by omega)
      have p := va c a (by omega)
      by_cases xt : c = t
      · subst xt
        rw [upd1_s, upd1_s]
        exact .inl ⟨by omega, rfl, by omega, by omega, by omega⟩
      · have nt : phi od z c ≠ phi od z t := fun x => xt (phi_inj w2 a (by omega) x)
        by_cases xo : c = o
        · subst xo
          rw [upd1_o nt, upd1_s, upd1_o xt, upd1_s]
          exact .inl ⟨by omega, rfl, by omega, by omega, by omega⟩
        · have no : phi od z c ≠ phi od z o := fun x => xo (phi_inj w2 a (by omega) x)
          rw [upd1_o nt, upd1_o no, upd1_o (by omega), upd1_o xt, upd1_o xo]
          omega
  · have f0 : ∀ c, 0 ≤ c → c < n → s ≠ phi od z c := fun c x y u => by
      have p := va c x y
      rw [← u, w4 s a b] at p
      omega
    rw [upd1_o (f0 t (by omega) (by omega)), upd1_o (f0 o (by omega) (by omega)), upd1_o (by omega)]
    exact w7 s a b q

def FLX (h pa od : Int → Int) (z n : Int) (is_ : Int → Int) : Prop := (∀ c, 0 ≤ c → c < n - 1 → is_ (phi od z c) = 256 + (pa c - z) ∧ c < pa c ∧ z ≤ pa c ∧ pa c < n) ∧ is_ (phi od z (n - 1)) = -1 ∧ (∀ s, 0 ≤ s → s < 256 → h s ≤ 0 → is_ s = -1) ∧ (∀ s, 0 ≤ s → s < 256 → 0 < h s → ∃ c, 0 ≤ c ∧ c < z ∧ od c = s) ∧ (∀ c, 0 ≤ c → c < z → 0 ≤ od c ∧ od c < 256 ∧ 0 < h (od c)) ∧ (∀ c d, 0 ≤ c → c < z → 0 ≤ d → d < z → od c = od d → c = d)
def FLP (h pa od : Int → Int) (z n : Int) : Prop := ∃ kn is_, HTR h = (kn, is_, 256 + (n - z)) ∧ FLX h pa od z n is_
theorem CLS_e (w : CLS h am pa od z la sa n) (hz : 2 ≤ z) (hn : n = 2 * z - 1) (hl : (z - la) + (n - sa) = 1) : FLP h pa od z n := by
  obtain ⟨kn, is_, w1, w2, w3, w4, w5, w6, w7⟩ := w
  have last := w6 (n - 1) (by omega) (by omega)
  have e1 : sa = n - 1 ∧ la = z := by omega
  have il : is_ (phi od z (n - 1)) = -1 := by omega
  have bk : ∀ k, 0 ≤ k → k < 256 + (n - z) → 0 < kn k → is_ k < 0 → k = phi od z (n - 1) := fun k a b f g => by
    by_cases q : k < 256
    · rw [w4 k a q] at f
      obtain ⟨c, c0, c1, c2⟩ := w2.2.1 k a q f
      have y := w6 c c0 (by omega)
      rw [phi_l c1, c2] at y
      omega
    · have y := w6 (k - 256 + z) (by omega) (by omega)
      rw [phi_s (by omega), show 256 + (k - 256 + z - z) = k by omega] at y
      rw [phi_s (by omega)]
      omega
  have kl := w5 (n - 1) (by omega) (by omega)
  have lo : lkF kn is_ (-1) (256 + (n - z)).toNat = phi od z (n - 1) := by
    have ep := phi_s (od := od) (z := z) (c := n - 1) (by omega)
    refine lkF_I ⟨by omega, by omega, by omega, by omega, by omega, fun k a b e f g => ?_⟩
    rw [bk k a b f g]
    exact .inr ⟨rfl, Int.le_refl _⟩
  have lt : lkF kn is_ (phi od z (n - 1)) (256 + (n - z)).toNat = -1 := lkF_no (fun k a b e f g => e (bk k a (by omega) f g))
  refine ⟨kn, is_, HTO_e w1 lo lt (by decide), fun c a b => ?_, il, w7, w2.2.1, fun c a b => ?_, fun c d a b x y u => phi_inj w2 a x (by rw [phi_l b, phi_l y]; exact u)⟩
  · have y := w6 c a (by omega)
    omega
  · have k := w2.1 c a b
    exact ⟨k.1, k.2.1, by rw [← k.2.2.1]; exact k.2.2.2⟩
end CLSx

def DLX (is_ am od : Int → Int) (z n i : Int) : Prop := ∀ k, i < k → k < n → 0 ≤ k → am k = dp is_ (phi od z k)
def LGX (is_ le od : Int → Int) (z i : Int) : Prop := (∀ c, i < c → 0 ≤ c → c < z → le (od c) = dp is_ (od c)) ∧ (∀ s, 0 ≤ s → s < 256 → (∀ c, i < c → 0 ≤ c → c < z → od c ≠ s) → le s = 0)
def GTX (le : Int → Int) (g : Int) : Prop := 0 ≤ g ∧ (∀ s, 0 ≤ s → s < 256 → le s ≤ g) ∧ (g = 0 ∨ ∃ s, 0 ≤ s ∧ s < 256 ∧ le s = g)
section FLXx
variable {h pa od is_ am le : Int → Int} {z n i j v g : Int}
theorem FLX_B (w : FLX h pa od z n is_) (hz : 1 ≤ z ∧ z ≤ n - 1) : ∀ k, 0 ≤ k → k < 256 + (n - z) → 0 ≤ is_ k → k < is_ k ∧ is_ k < 256 + (n - z) := fun k a b q => by
  by_cases r : k < 256
  · by_cases t : 0 < h k
    · obtain ⟨c, c0, c1, c2⟩ := w.2.2.2.1 k a r t
      have y := w.1 c c0 (by omega)
      rw [phi_l c1, c2] at y
      omega
    · have := w.2.2.1 k a r (by omega)
      omega
  · have ep := phi_s (od := od) (z := z) (c := k - 256 + z) (by omega)
    rw [show 256 + (k - 256 + z - z) = k by omega] at ep
    by_cases t : k - 256 + z = n - 1
    · have y := w.2.1
      rw [← t, ep] at y
      omega
    · have y := w.1 (k - 256 + z) (by omega) (by omega)
      rw [ep] at y
      omega
theorem phi_r (w : FLX h pa od z n is_) (i0 : 0 ≤ i) (i1 : i < n) : 0 ≤ phi od z i ∧ phi od z i < 256 + (n - z) ∨ n < z := by
  by_cases q : i < z
  · rw [phi_l q]
    have := w.2.2.2.2.1 i i0 q
    omega
  · rw [phi_s (by omega)]
    omega
theorem FLX_b (w : FLX h pa od z n is_) (hz : 1 ≤ z ∧ z ≤ n - 1 ∧ n - z ≤ 256) (i0 : 0 ≤ i) (i1 : i < n - 1) : dp is_ (phi od z i) = dp is_ (phi od z (pa i)) + 1 := by
  have a := w.1 i i0 i1
  have pr := phi_r w i0 (by omega)
  have e : is_ (phi od z i) = phi od z (pa i) := by rw [a.1, phi_s (by omega)]
  have d := dp_s (is_ := is_) (n := 256 + (n - z)) (by omega) (FLX_B w (by omega)) (k := phi od z i) (by omega) (by omega)
  rw [e] at d
  rcases d with ⟨d, _⟩ | ⟨_, d⟩
  · rw [phi_s (by omega)] at d; omega
  · exact d
theorem DLX_0 (w : FLX h pa od z n is_) (hz : 1 ≤ z ∧ z ≤ n - 1 ∧ n - z ≤ 256) (e : i = n - 2) (ha : am (n - 1) = 0) : DLX is_ am od z n i := fun k a b c => by
  have ek : k = n - 1 := by omega
  subst ek
  have pr := phi_r w (i := n - 1) (by omega) (by omega)
  have d := dp_s (is_ := is_) (n := 256 + (n - z)) (by omega) (FLX_B w (by omega)) (k := phi od z (n - 1)) (by omega) (by omega)
  have y := w.2.1
  omega
theorem DLX_s (w : FLX h pa od z n is_) (hz : 1 ≤ z ∧ z ≤ n - 1 ∧ n - z ≤ 256) (d : DLX is_ am od z n i) (i0 : 0 ≤ i) (i1 : i < n - 1) (hv : v = am (pa i) + 1) (e : j = i - 1) : DLX is_ (upd1 am i v) od z n j ∧ v = dp is_ (phi od z i) := by
  have y := w.1 i i0 i1
  have b := FLX_b w hz i0 i1
  have ev : v = dp is_ (phi od z i) := by rw [hv, d (pa i) y.2.1 y.2.2.2 (by omega), b]
  refine ⟨fun k x u t => ?_, ev⟩
  by_cases q : k = i
  · rw [q, upd1_s]; exact ev
  · rw [upd1_o q]; exact d k (by omega) u t
theorem LGX_0 (hl : ∀ s, le s = 0) (e : z ≤ i + 1) : LGX is_ le od z i := ⟨fun c a _ b => absurd b (by omega), fun s _ _ _ => hl s⟩
theorem LGX_n (q : LGX is_ le od z i) (hi : z ≤ i) (e : j = i - 1) : LGX is_ le od z j := ⟨fun c a b d => absurd d (by omega), fun s a b _ => q.2 s a b (fun c x _ y => absurd y (by omega))⟩
theorem LGX_z (w : FLX h pa od z n is_) (q : LGX is_ le od z i) (i0 : 0 ≤ i) (i1 : i < z) : le (od i) = 0 := q.2 (od i) (w.2.2.2.2.1 i i0 i1).1 (w.2.2.2.2.1 i i0 i1).2.1 (fun c a b d u => by
  have := w.2.2.2.2.2 c i b d i0 i1 u
  omega)
theorem LGX_s (w : FLX h pa od z n is_) (q : LGX is_ le od z i) (i0 : 0 ≤ i) (i1 : i < z) (hv : v = dp is_ (phi od z i)) (e : j = i - 1) : LGX is_ (upd1 le (od i) v) od z j := by
  rw [phi_l i1] at hv
  refine ⟨fun c a b d => ?_, fun s a b f => ?_⟩
  · by_cases u : c = i
    · rw [u, upd1_s]; exact hv
    · rw [upd1_o (fun x => u (w.2.2.2.2.2 c i b d i0 i1 x))]
      exact q.1 c (by omega) b d
  · have ne : s ≠ od i := fun x => f i (by omega) i0 i1 x.symm
    rw [upd1_o ne]
    exact q.2 s a b (fun c x y t => f c (by omega) y t)
theorem GTX_s {k g2 : Int} (q : GTX le g) (hk : 0 ≤ k ∧ k < 256) (hz : le k = 0) (hv : 0 ≤ v) (hg : g < v ∧ g2 = v ∨ v ≤ g ∧ g2 = g) : GTX (upd1 le k v) g2 := by
  refine ⟨by have := q.1; omega, fun s a b => ?_, ?_⟩
  · by_cases u : s = k
    · rw [u, upd1_s]; omega
    · rw [upd1_o u]; have := q.2.1 s a b; omega
  · rcases hg with ⟨x, y⟩ | ⟨x, y⟩
    · exact .inr ⟨k, hk.1, hk.2, by rw [upd1_s]; exact y.symm⟩
    · rcases q.2.2 with r | ⟨s, a, b, r⟩
      · exact .inl (by omega)
      · by_cases u : s = k
        · rw [u, hz] at r
          exact .inl (by omega)
        · exact .inr ⟨s, a, b, by rw [upd1_o u, y]; exact r⟩
theorem GTX_0 (hl : ∀ s, le s = 0) : GTX le 0 := ⟨Int.le_refl 0, fun s _ _ => by rw [hl s]; exact Int.le_refl 0, .inl rfl⟩

theorem FLX_e {kn : Int → Int} (hR : HTR h = (kn, is_, 256 + (n - z))) (w : FLX h pa od z n is_) (hz : 1 ≤ z ∧ z ≤ n - 1 ∧ n - z ≤ 256) (q : LGX is_ le od z i) (hi : i < 0) (hg : GTX le g) : (∀ s, 0 ≤ s → s < 256 → le s = dpH h s) ∧ g = mxF h := by
  have key : ∀ s, 0 ≤ s → s < 256 → le s = dpH h s := fun s a b => by
    unfold dpH
    rw [hR]
    show le s = dp is_ s
    by_cases t : 0 < h s
    · obtain ⟨c, c0, c1, c2⟩ := w.2.2.2.1 s a b t
      have y := q.1 c (by omega) c0 c1
      rw [c2] at y
      exact y
    · rw [q.2 s a b (fun c x y u v => by have := w.2.2.2.2.1 c y u; rw [v] at this; omega)]
      have d := dp_s (is_ := is_) (n := 256 + (n - z)) (by omega) (FLX_B w (by omega)) (k := s) a (by omega)
      have y := w.2.2.1 s a b (by omega)
      omega
  refine ⟨key, ?_⟩
  unfold mxF
  rw [← mxN_cg (n := 256) (d := le) (fun i a b => key i a (by omega))]
  exact mxN_is (n := 256) hg.1 (fun i a b => hg.2.1 i a (by omega)) (by
    rcases hg.2.2 with r | ⟨s, a, b, r⟩
    · exact .inl r
    · exact .inr ⟨s, a, by omega, r⟩)
end FLXx
theorem TW_srt {am pa : Int → Int} {z la sa n tot : Int} (h : TW am pa z la sa n tot) : SRT am sa n := by
  obtain ⟨H, M, _, _, s2, _⟩ := h
  exact s2

def ctF (lt : Int → Int) (n : Int) : Int → Int := fun s => su (eqs lt s) n.toNat
theorem ctF_s {lt : Int → Int} {n i v : Int} (h0 : 0 ≤ n) (hv : lt n = v) : (i = v ∧ ctF lt (n + 1) i = ctF lt n i + 1) ∨ (i ≠ v ∧ ctF lt (n + 1) i = ctF lt n i) := by
  have a := su_s (f := eqs lt i) h0
  have b := eqs_eq lt i n
  rw [hv] at b
  show (i = v ∧ su (eqs lt i) (n + 1).toNat = su (eqs lt i) n.toNat + 1) ∨ (i ≠ v ∧ su (eqs lt i) (n + 1).toNat = su (eqs lt i) n.toNat)
  omega


end
section
/-! 19h -/
theorem first_nat (C : Int → Prop) : ∀ (n : Nat), C (n : Int) → ∃ j : Int, 0 ≤ j ∧ j ≤ (n : Int) ∧ C j ∧ ∀ i, 0 ≤ i → i < j → ¬ C i := fun n => by
  induction n using Nat.strongRecOn with
  | _ n ih =>
    intro h
    by_cases q : ∃ m : Nat, m < n ∧ C (m : Int)
    · obtain ⟨m, m1, m2⟩ := q
      obtain ⟨j, j0, j1, j2, j3⟩ := ih m m1 m2
      exact ⟨j, j0, by omega, j2, j3⟩
    · refine ⟨(n : Int), by omega, Int.le_refl _, h, fun i a b c => q ⟨i.toNat, by omega, ?_⟩⟩
      rw [show ((i.toNat : Nat) : Int) = i by omega]
      exact c
theorem first_ex (C : Int → Prop) {k : Int} (a : 0 ≤ k) (h : C k) : ∃ j, 0 ≤ j ∧ j ≤ k ∧ C j ∧ ∀ i, 0 ≤ i → i < j → ¬ C i := by
  obtain ⟨j, j0, j1, j2, j3⟩ := first_nat C k.toNat (by rw [show ((k.toNat : Nat) : Int) = k by omega]; exact h)
  exact ⟨j, j0, by omega, j2, j3⟩
def LQX (X : Tb) (s st k : Int) : Prop := (tsF X k).1 = s ∧ (tsF X k).2.2 ≤ st ∧ st < (tsF X k).2.2 + p2 (tsF X k).2.1
noncomputable def ldF (X : Tb) (s st : Int) : Int := CH 0 (fun r => 0 ≤ r ∧ r < p2 X.1 ∧ LQX X s st r ∧ ∀ k, 0 ≤ k → k < r → ¬ LQX X s st k)
noncomputable def loF (X : Tb) (s : Int) : Int := CH 0 (fun r => 0 ≤ r ∧ r < p2 X.1 ∧ (tsF X r).1 = s ∧ ∀ k, 0 ≤ k → k < r → (tsF X k).1 ≠ s)
def TBX (X : Tb) (L : Int) (sy bi ba : Int → Int) : Prop := X.1 = L ∧ ∀ k, 0 ≤ k → k < p2 L → tsF X k = (sy k, bi k, ba k)
section TBXx
variable {X : Tb} {sy bi ba w : Int → Int} {L s st r : Int}
theorem ldF_e (h : TBX X L sy bi ba) (q : LEAD sy bi ba L s st r) : ldF X s st = r := by
  obtain ⟨h1, h2⟩ := h
  have key : ∀ k, 0 ≤ k → k < p2 L → (LQX X s st k ↔ LQ sy bi ba s st k) := fun k a b => by
    unfold LQX LQ
    rw [h2 k a b]
  refine CH_e ⟨q.1, by rw [h1]; exact q.2.1, (key r q.1 q.2.1).mpr q.2.2.1, fun k a b c => q.2.2.2 k a b ((key k a (by have := q.2.1; omega)).mp c)⟩ (fun x y => ?_)
  obtain ⟨y0, y1, y2, y3⟩ := y
  rw [h1] at y1
  rcases (show x < r ∨ x = r ∨ r < x by omega) with z | z | z
  · exact absurd ((key x y0 y1).mp y2) (q.2.2.2 x y0 z)
  · exact z
  · exact absurd ((key r q.1 q.2.1).mpr q.2.2.1) (y3 r q.1 z)
theorem loF_e (h : TBX X L sy bi ba) (q : LOW sy bi L s 0 r) : loF X s = r := by
  obtain ⟨h1, h2⟩ := h
  have key : ∀ k, 0 ≤ k → k < p2 L → ((tsF X k).1 = s ↔ WQ sy bi s 0 k) := fun k a b => by
    unfold WQ
    rw [h2 k a b]
    exact ⟨fun x => ⟨x, fun y => absurd y (by decide)⟩, fun x => x.1⟩
  refine CH_e ⟨q.1, by rw [h1]; exact q.2.1, (key r q.1 q.2.1).mpr q.2.2.1, fun k a b c => q.2.2.2 k a b ((key k a (by have := q.2.1; omega)).mp c)⟩ (fun x y => ?_)
  obtain ⟨y0, y1, y2, y3⟩ := y
  rw [h1] at y1
  rcases (show x < r ∨ x = r ∨ r < x by omega) with z | z | z
  · exact absurd ((key x y0 y1).mp y2) (q.2.2.2 x y0 z)
  · exact z
  · exact absurd ((key r q.1 q.2.1).mpr q.2.2.1) (y3 r q.1 z)
theorem TBX_K {row : Int} (h : TLK sy bi ba row X) : TBX X X.1 (sh sy row) (sh bi row) (sh ba row) := ⟨rfl, fun k a b => h.2 k a b⟩
theorem TBX_LD {P Q : Int → Int} {n : Int} (h : LD P 64 L sy bi ba) (hL : 5 ≤ L ∧ L ≤ 9) (hn : 0 ≤ n ∧ n ≤ 64) (e : ∀ i, 0 ≤ i → i < n → Q i = P i) (z : ∀ i, n ≤ i → i < 64 → P i = 0) : TBX (L, n, Q) L sy bi ba := by
  have f : ∀ g : Int → Int, sh g 0 = g := fun g => by
    funext k
    show g (0 + k) = g k
    rw [Int.zero_add]
  have t := TBX_K (TLK_LD (sy := sy) (bi := bi) (ba := ba) (row := 0) (by rw [f, f, f]; exact h) hL hn e z)
  rw [f, f, f] at t
  exact t

theorem LOW_1 {P : Int → Int} {n : Int} (h : LD P n L sy bi ba) (q : LOW sy bi L s 1 r) (hL : 0 ≤ L) (hm : 1 ≤ mass (P s) ∧ mass (P s) < p2 L) : LOW sy bi L s 0 r := by
  refine ⟨q.1, q.2.1, ⟨q.2.2.1.1, fun x => absurd x (by decide)⟩, fun k a b c => ?_⟩
  have ck : sy k = s := c.1
  -- the first of them has its mass as its number
  obtain ⟨j, j0, j1, j2, j3⟩ : ∃ j, 0 ≤ j ∧ j ≤ k ∧ sy j = s ∧ ∀ i, 0 ≤ i → i < j → sy i ≠ s := first_ex (fun i => sy i = s) a ck
  have x : XN P sy j = mass (P s) := by
    unfold XN
    rw [j2, show su (eqs sy s) j.toNat = 0 from su_eqs0 (fun i x y => j3 i x (by omega))]
    omega
  obtain ⟨t, t0, t1, t2, t3, t4, _⟩ := h.2.2 j j0 (by have := q.2.1; omega)
  rw [x] at t2 t3
  have nz : bi j ≠ 0 := fun y => by
    have e : t = L := by omega
    rw [e] at t2
    omega
  exact q.2.2.2 j j0 (by omega) ⟨j2, fun _ => nz⟩
end TBXx

noncomputable def dvP (co : Int → Int) (n p : Int) : Int → Int := CH (fun _ => 0) (fun f => ∃ tr, DVF co n p tr ∧ f = cutP 64 tr)
theorem dvP_e {co tr : Int → Int} {n p : Int} (h : DVF co n p tr) : dvP co n p = cutP 64 tr := CH_e ⟨tr, h, rfl⟩ (fun f q => by
  obtain ⟨t2, q1, q2⟩ := q
  rw [q2]
  exact cutP_cg (fun i a b => (DVF_uniq q1 h) i a b))
theorem cutP_cut {n : Int} {P : Int → Int} (hn : n ≤ 64) : cutP 64 (cutP n P) = cutP n P := by
  funext i
  show (if 0 ≤ i ∧ i < 64 then cutP n P i else 0) = cutP n P i
  by_cases a : 0 ≤ i ∧ i < 64
  · rw [if_pos a]
  · rw [if_neg a]
    exact (if_neg (fun q => a ⟨q.1, by omega⟩)).symm
theorem dvP_c {co P : Int → Int} {n p N : Int} (h : DVF co n p (cutP N P)) (hN : N ≤ 64) : dvP co n p = cutP N P := by rw [dvP_e h, cutP_cut hN]
section DVGx
variable {co co2 : Int → Int} {n p : Int}
theorem dv0_cg (h : AG co co2) : AG (dv0 co n p) (dv0 co2 n p) := fun s a b => by
  unfold dv0
  rw [h s a b]
theorem cu0_cg (h : AG co co2) : AG (cu0 co n p) (cu0 co2 n p) := fun s a b => by
  unfold cu0
  rw [h s a b]
theorem dv1_cg {cu cu2 : Int → Int} {x y : (Int → Int) × (Int → Int) × Int} (hc : AG cu cu2) (h1 : AG x.1 y.1) (h2 : AG x.2.1 y.2.1) (h3 : x.2.2 = y.2.2) : AG (dv1 cu x).1 (dv1 cu2 y).1 ∧ AG (dv1 cu x).2.1 (dv1 cu2 y).2.1 ∧ (dv1 cu x).2.2 = (dv1 cu2 y).2.2 := by
  have e := bst_congr h1 h2 hc 64 (by omega)
  have r := bst_rng (tr := y.1) (hd := y.2.1) (cu := cu2) 64
  by_cases l : x.2.2 ≤ 0
  · have a : dv1 cu x = x := if_pos l
    have b : dv1 cu2 y = y := if_pos (by omega)
    rw [a, b]
    exact ⟨h1, h2, h3⟩
  · by_cases c : bst y.1 y.2.1 cu2 64 < 0
    · rw [dv1_clear l (by rw [e]; exact c), dv1_clear (by omega) c]
      exact ⟨h1, fun _ _ _ => rfl, h3⟩
    · rw [dv1_put l e (by omega), dv1_put (by omega) rfl (by omega)]
      refine ⟨AG_upd h1 ?_, AG_upd h2 rfl, by show x.2.2 - 1 = y.2.2 - 1; omega⟩
      rw [h1 _ (by omega) (by omega)]
theorem dv2_cg {x y : (Int → Int) × Int} (h1 : AG x.1 y.1) (h2 : x.2 = y.2) : AG (dv2 x).1 (dv2 y).1 ∧ (dv2 x).2 = (dv2 y).2 := by
  have e := mst_congr h1 64 (by omega)
  have r := mst_rng (tr := y.1) 64
  have r2 := mst_lt (tr := y.1) 63
  have r2 : mst y.1 64 < 64 := r2
  by_cases l : 0 ≤ x.2
  · have a : dv2 x = x := if_pos l
    have b : dv2 y = y := if_pos (by omega)
    rw [a, b]
    exact ⟨h1, h2⟩
  · rw [dv2_s l e, dv2_s (by omega) rfl]
    exact ⟨AG_upd h1 (by rw [h1 _ (by omega) r2]), by show x.2 + 1 = y.2 + 1; omega⟩
theorem dvs_cg (h : AG co co2) : ∀ m : Nat, AG (itr (dv1 (cu0 co n p)) m (dvs co n p)).1 (itr (dv1 (cu0 co2 n p)) m (dvs co2 n p)).1 ∧ AG (itr (dv1 (cu0 co n p)) m (dvs co n p)).2.1 (itr (dv1 (cu0 co2 n p)) m (dvs co2 n p)).2.1 ∧ (itr (dv1 (cu0 co n p)) m (dvs co n p)).2.2 = (itr (dv1 (cu0 co2 n p)) m (dvs co2 n p)).2.2
  | 0 => ⟨dv0_cg h, fun _ _ _ => rfl, by
    show p - su (fun i => mass (dv0 co n p i)) 64 = p - su (fun i => mass (dv0 co2 n p i)) 64
    rw [su_congr (f := fun i => mass (dv0 co n p i)) (h := fun i => mass (dv0 co2 n p i)) (fun i a b => by rw [dv0_cg h i a (by omega)])]⟩
  | m + 1 => by
    have k := dvs_cg h m
    exact dv1_cg (cu0_cg h) k.1 k.2.1 k.2.2
theorem dve_cg (h : AG co co2) (m1 : Nat) : ∀ m : Nat, AG (itr dv2 m (dve co n p m1)).1 (itr dv2 m (dve co2 n p m1)).1 ∧ (itr dv2 m (dve co n p m1)).2 = (itr dv2 m (dve co2 n p m1)).2
  | 0 => by
    have k := dvs_cg (n := n) (p := p) h m1
    exact ⟨k.1, k.2.2⟩
  | m + 1 => by
    have k := dve_cg h m1 m
    exact dv2_cg k.1 k.2
theorem DVF_cg {tr : Int → Int} (h : AG co co2) (q : DVF co n p tr) : DVF co2 n p tr := by
  obtain ⟨l, l0, m1, m2, a1, a2, a3⟩ := q
  have k := dve_cg (n := n) (p := p) h m1 m2
  have k1 := dvs_cg (n := n) (p := p) h m1
  refine ⟨l, l0, m1, m2, ?_, fun s a b => (a2 s a b).trans (k.1 s a b), a3.trans k.2⟩
  show (itr (dv1 (cu0 co2 n p)) m1 (dvs co2 n p)).2.2 ≤ 0
  rw [← k1.2.2]
  exact a1
end DVGx

noncomputable def wsF (X : Tb) (w : Int → Int) : Nat → Int → Int → List Int → Int × Int × List Int
  | 0, a, b, B => (a, b, B)
  | n + 1, a, b, B => wsF X w n b (ldF X (w (n : Int)) a) (B ++ btw a (tsF X (ldF X (w (n : Int)) a)).2.1)
noncomputable def WSB (X : Tb) (w : Int → Int) (k : Int) : List Int := (fun z : Int × Int × List Int => z.2.2 ++ (btw z.1 X.1 ++ (btw z.2.1 X.1 ++ btw 1 1))) (wsF X w (k - 2).toNat (loF X (w (k - 1))) (loF X (w (k - 2))) [])
def WSO (X : Tb) (w : Int → Int) (k i a b : Int) (B : List Int) : Prop := wsF X w (k - 2).toNat (loF X (w (k - 1))) (loF X (w (k - 2))) [] = wsF X w (i + 1).toNat a b B
section WSOx
variable {X : Tb} {w : Int → Int} {k i a b p bt_ j L v s1 s2 : Int} {B B2 : List Int}
theorem WSO_0 (ha : loF X s1 = a) (e1 : w (k - 1) = s1) (hb : loF X s2 = b) (e2 : w (k - 2) = s2) (e : i = k - 3) : WSO X w k i a b [] := by
  subst ha hb e1 e2
  unfold WSO
  rw [show (i + 1).toNat = (k - 2).toNat by omega]
theorem WSO_s (h : WSO X w k i a b B) (hi : 0 ≤ i) (ew : w i = v) (hp : ldF X v a = p) (hb : (tsF X p).2.1 = bt_) (hB : B2 = B ++ btw a bt_) (e : j = i - 1) : WSO X w k j b p B2 := by
  subst hp ew hb hB
  unfold WSO at h ⊢
  rw [h, show (i + 1).toNat = (j + 1).toNat + 1 by omega]
  show wsF X w (j + 1).toNat b (ldF X (w (((j + 1).toNat : Nat) : Int)) a) (B ++ btw a (tsF X (ldF X (w (((j + 1).toNat : Nat) : Int)) a)).2.1) = _
  rw [show (((j + 1).toNat : Nat) : Int) = i by omega]
theorem WSO_e (h : WSO X w k i a b B) (hi : i < 0) (hL : X.1 = L) : WSB X w k = B ++ (btw a L ++ (btw b L ++ btw 1 1)) := by
  unfold WSO at h
  rw [show (i + 1).toNat = 0 by omega] at h
  unfold WSB
  rw [h, hL]
  rfl
end WSOx


end
section
/-! 19i -/
theorem sh0 (g : Int → Int) : sh g 0 = g := by
  funext k
  show g (0 + k) = g k
  rw [Int.zero_add]
theorem pd8_a {A B : List Int} (h : A.length % 8 = 0) : pd8 (A ++ B) = A ++ pd8 B := by
  unfold pd8
  rw [List.append_assoc, List.length_append, show (A.length + B.length) % 8 = B.length % 8 by omega]
theorem nb_cat {V W a : Int} (ha : 0 ≤ a) (hV : 0 ≤ V ∧ V < p2 (8 * a)) : ∀ m : Nat, nb (V + p2 (8 * a) * W) (a + (m : Int)) = nb V a ++ nb W (m : Int)
  | 0 => by
    rw [show a + ((0 : Nat) : Int) = a by omega, show nb W ((0 : Nat) : Int) = [] from rfl, List.append_nil]
    exact nb_lo (by omega)
  | m + 1 => by
    rw [show a + ((m + 1 : Nat) : Int) = a + (m : Int) + 1 by omega, nb_s (by omega) rfl, nb_cat ha hV m, show ((m + 1 : Nat) : Int) = (m : Int) + 1 by omega, nb_s (n := (m : Int)) (by omega) rfl, List.append_assoc]
    congr 3
    have e := p2_add (x := 8 * a) (y := 8 * (m : Int)) (by omega) (by omega)
    rw [show 8 * a + 8 * (m : Int) = 8 * (a + (m : Int)) by omega] at e
    have p := p2_pos (8 * a)
    rw [e, ← Int.ediv_ediv_of_nonneg (by omega), Int.add_mul_ediv_left _ _ (show p2 (8 * a) ≠ 0 by omega), Int.ediv_eq_zero_of_lt hV.1 hV.2, Int.zero_add]
theorem byw_a {A B : List Int} (h : A.length % 8 = 0) (h1 : b01 A) : byw (A ++ B) = byw A ++ byw B := by
  unfold byw
  have r := bl8_rng h1
  have ea : (A.length : Int) = 8 * ((A.length : Int) / 8) := by omega
  rw [bl8_app, List.length_append]
  have k := nb_cat (V := bl8 A) (W := bl8 B) (a := (A.length : Int) / 8) (by omega) (by rw [← ea]; exact r) (((B.length : Int) + 7) / 8).toNat
  rw [← ea, show ((((B.length : Int) + 7) / 8).toNat : Int) = ((B.length : Int) + 7) / 8 by omega] at k
  rw [show (((A.length + B.length : Nat) : Int) + 7) / 8 = (A.length : Int) / 8 + ((B.length : Int) + 7) / 8 by omega, k, show ((A.length : Int) + 7) / 8 = (A.length : Int) / 8 by omega]
theorem byw_8 {v : Int} (hv : 0 ≤ v ∧ v ≤ 255) : byw (btw v 8) = [v] := by
  unfold byw
  rw [bl8_bt (by decide), btw_len, show p2 8 = 256 by decide, Int.emod_eq_of_lt hv.1 (by omega), show ((((8 : Int).toNat : Nat) : Int) + 7) / 8 = 0 + 1 by decide, nb_s (Int.le_refl 0) rfl, nb_0, List.nil_append, show 8 * (0 : Int) = 0 by decide, show p2 0 = 1 by decide, Int.ediv_one, u8_id hv]
theorem byw_len {B : List Int} : ((byw B).length : Int) = ((B.length : Int) + 7) / 8 := by
  unfold byw
  rw [nb_len]
  omega

theorem BYS_e {g : Int → Int} {n v : Int} {S W : List Int} (h : MDB g n (pd8 (pd8 (btw 0 8 ++ S) ++ W))) (hv : v = n / 8 - 1) (hr : 0 ≤ v ∧ v ≤ 255) : ∃ C, MDB (upd1 g 0 v) n C ∧ (C.length : Int) = n ∧ n % 8 = 0 ∧ byw C = [v] ++ (byw S ++ byw W) ∧ ((byw S ++ byw W).length : Int) = v := by
  have l8 : (btw 0 8).length = 8 := btw_len
  have e1 : pd8 (btw 0 8 ++ S) = btw 0 8 ++ pd8 S := pd8_a (by rw [l8])
  have ls := pd8_len (B := S)
  have lw := pd8_len (B := W)
  have e2 : pd8 (btw 0 8 ++ pd8 S ++ W) = btw 0 8 ++ (pd8 S ++ pd8 W) := by
    rw [pd8_a (by rw [List.length_append, l8]; omega), List.append_assoc]
  rw [e1, e2] at h
  have hb := h.2.1
  have bs : b01 (pd8 S) := fun x hx => hb x (List.mem_append.mpr (.inr (List.mem_append.mpr (.inl hx))))
  have bw : b01 (pd8 W) := fun x hx => hb x (List.mem_append.mpr (.inr (List.mem_append.mpr (.inr hx))))
  have hn := h.1
  rw [List.length_append, List.length_append, l8] at hn
  have lv : (btw v 8).length = 8 := btw_len
  refine ⟨btw v 8 ++ (pd8 S ++ pd8 W), MDB_h h hr, by rw [List.length_append, List.length_append, lv]; omega, by omega, ?_, ?_⟩
  · rw [byw_a (by rw [lv]) b01_btw, byw_8 hr, byw_a ls.1 bs, byw_pd, byw_pd]
  · have a := byw_len (B := S)
    have b := byw_len (B := W)
    rw [List.length_append]
    omega
theorem LD_dv {P sy bi ba : Int → Int} {n L k st : Int} (h : LD P n L sy bi ba) (k0 : 0 ≤ k) (k1 : k < p2 L) : (st - ba k) % p2 (bi k) = st % p2 (bi k) := by
  obtain ⟨r, r0, r1, r2, r3, r4, r5⟩ := h.2.2 k k0 k1
  have e := p2_add (x := r) (y := L - r) r0 (by omega)
  rw [show r + (L - r) = L by omega] at e
  have f : ba k = p2 (L - r) * (XN P sy k - p2 r) := by
    rw [r5, e, Int.mul_sub, Int.mul_comm (p2 (L - r)), Int.mul_comm (p2 (L - r))]
  rw [r4]
  have g : st = (st - ba k) + p2 (L - r) * (XN P sy k - p2 r) := by rw [← f]; omega
  have w := Int.add_mul_emod_self_left (st - ba k) (p2 (L - r)) (XN P sy k - p2 r)
  rw [← g] at w
  exact w.symm
theorem RBB_L {b n h k : Int} {g : Int → Int} {L : List Int} (q : RBB b g n h k L []) : sc g 0 n = L ∧ b = 0 := by
  have q0 := q
  obtain ⟨q1, q2, j, j0, q3, q4, q5, q6⟩ := q
  have e : k = 0 := by
    have l : (([] : List Int).length : Int) = 0 := rfl
    omega
  have w := RBB_en0 q0 e
  rw [show byw [] = [] from rfl, List.append_nil] at w
  exact ⟨w, q1⟩


end
section
/-! 19j -/
def lzN (le : Int → Int) : Nat → Int
  | 0 => 0
  | n + 1 => if le (n : Int) ≠ 0 then (n : Int) else lzN le n
theorem lzN_is {le : Int → Int} {k : Int} : ∀ {n : Nat}, 0 ≤ k → k < (n : Int) → (k = 0 ∨ le k ≠ 0) → (∀ i, k < i → i < (n : Int) → le i = 0) → k = lzN le n
  | 0, h0, h1, _, _ => by omega
  | n + 1, h0, h1, h2, h3 => by
    show k = if le (n : Int) ≠ 0 then (n : Int) else lzN le n
    by_cases q : k = (n : Int)
    · by_cases z : le (n : Int) ≠ 0
      · rw [if_pos z, q]
      · rw [if_neg z]
        rcases h2 with w | w
        · have n0 : n = 0 := by omega
          subst n0
          rw [w]
          rfl
        · rw [q] at w
          exact absurd w z
    · rw [if_neg (fun z => z (h3 (n : Int) (by omega) (by omega)))]
      exact lzN_is h0 (by omega) h2 (fun i a b => h3 i a (by omega))
def wtF (le : Int → Int) (T : Int) : Int → Int := fun s => if le s = 0 then 0 else T + 1 - le s
theorem wtF_eq (le : Int → Int) (T s : Int) : le s = 0 ∧ wtF le T s = 0 ∨ le s ≠ 0 ∧ wtF le T s = T + 1 - le s := by
  unfold wtF
  by_cases h : le s = 0
  · rw [if_pos h]; exact .inl ⟨h, rfl⟩
  · rw [if_neg h]; exact .inr ⟨h, rfl⟩
def ALW (w : Int → Int) (k : Int) : Prop := ∀ i, 0 ≤ i → i < k → w i = w 0
noncomputable def dsB (w : Int → Int) (k L : Int) : List Int := byw (STB (dvP (ctF w k) k (p2 L)) L) ++ byw (WSB ((L, 12, dvP (ctF w k) k (p2 L)) : Tb) w k)
def drB (w : Int → Int) (k : Int) : List Int := [127 + k] ++ (List.range ((k + 1) / 2).toNat).map (fun i : Nat => 16 * w (2 * (i : Int)) + (if 2 * (i : Int) + 1 < k then w (2 * (i : Int) + 1) else 0))
noncomputable def stB (w : Int → Int) (k : Int) : List Int := if (dsB w k 6).length < (dsB w k 5).length then dsB w k 6 else dsB w k 5
def BYS (w : Int → Int) (k : Int) : Prop := 2 ≤ k ∧ ¬ ALW w k ∧ (stB w k).length < 128
noncomputable def DSC (w : Int → Int) (k : Int) : Option (List Int) := haveI : ∀ p : Prop, Decidable p := Classical.propDecidable; if k ≤ 128 ∧ (¬ BYS w k ∨ (k + 1) / 2 ≤ ((stB w k).length : Int)) then some (drB w k) else if BYS w k then some ([((stB w k).length : Int)] ++ stB w k) else none
section DSCx
variable {w v : Int → Int} {k : Int}
theorem DSC_d (h : k ≤ 128) (q : ¬ BYS w k ∨ (k + 1) / 2 ≤ ((stB w k).length : Int)) : DSC w k = some (drB w k) := by
  unfold DSC
  exact if_pos ⟨h, q⟩
theorem DSC_s (h : BYS w k) (q : 128 < k ∨ ((stB w k).length : Int) < (k + 1) / 2) : DSC w k = some ([((stB w k).length : Int)] ++ stB w k) := by
  unfold DSC
  rw [if_neg (fun z => by rcases z.2 with y | y; (exact y h); (have := z.1; omega)), if_pos h]
theorem DSC_n (h : ¬ BYS w k) (q : 128 < k) : DSC w k = none := by
  unfold DSC
  rw [if_neg (fun z => by have := z.1; omega), if_neg h]
theorem stB_6 (h : (dsB w k 6).length < (dsB w k 5).length) : stB w k = dsB w k 6 := if_pos h
theorem stB_5 (h : ¬ (dsB w k 6).length < (dsB w k 5).length) : stB w k = dsB w k 5 := if_neg h

theorem ctF_cg (e : ∀ i, 0 ≤ i → i < k → w i = v i) : ctF w k = ctF v k := by
  funext s
  show su (eqs w s) k.toNat = su (eqs v s) k.toNat
  exact su_congr (fun i a b => by unfold eqs; rw [e i a (by omega)])
theorem wsF_cg {X : Tb} : ∀ {n : Nat} {a b : Int} {B : List Int}, (∀ i, 0 ≤ i → i < (n : Int) → w i = v i) → wsF X w n a b B = wsF X v n a b B
  | 0, _, _, _, _ => rfl
  | n + 1, a, b, B, e => by
    show wsF X w n b (ldF X (w (n : Int)) a) (B ++ btw a (tsF X (ldF X (w (n : Int)) a)).2.1) = wsF X v n b (ldF X (v (n : Int)) a) (B ++ btw a (tsF X (ldF X (v (n : Int)) a)).2.1)
    rw [e (n : Int) (by omega) (by omega)]
    exact wsF_cg (fun i x y => e i x (by omega))
theorem WSB_cg {X : Tb} (hk : 2 ≤ k) (e : ∀ i, 0 ≤ i → i < k → w i = v i) : WSB X w k = WSB X v k := by
  unfold WSB
  rw [e (k - 1) (by omega) (by omega), e (k - 2) (by omega) (by omega), wsF_cg (fun i a b => e i a (by omega))]
theorem dsB_cg {L : Int} (hk : 2 ≤ k) (e : ∀ i, 0 ≤ i → i < k → w i = v i) : dsB w k L = dsB v k L := by
  unfold dsB
  rw [ctF_cg e, WSB_cg hk e]
theorem ALW_cg (e : ∀ i, 0 ≤ i → i < k → w i = v i) (h : ALW w k) : ALW v k := fun i a b => by
  rw [← e i a b, ← e 0 (Int.le_refl 0) (by omega)]
  exact h i a b
theorem drB_cg (e : ∀ i, 0 ≤ i → i < k → w i = v i) : drB w k = drB v k := by
  unfold drB
  congr 1
  refine List.map_congr_left (fun i hi => ?_)
  have hi := List.mem_range.mp hi
  rw [e (2 * (i : Int)) (by omega) (by omega)]
  by_cases c : 2 * (i : Int) + 1 < k
  · rw [if_pos c, if_pos c, e (2 * (i : Int) + 1) (by omega) c]
  · rw [if_neg c, if_neg c]
theorem DSC_cg (e : ∀ i, 0 ≤ i → i < k → w i = v i) : DSC w k = DSC v k := by
  have a : ALW w k ↔ ALW v k := ⟨ALW_cg e, ALW_cg (fun i x y => (e i x y).symm)⟩
  by_cases h : 2 ≤ k
  · have s : stB w k = stB v k := by
      unfold stB
      rw [dsB_cg h e, dsB_cg h e]
    have b : BYS w k ↔ BYS v k := by
      unfold BYS
      rw [a, s]
    by_cases c : k ≤ 128 ∧ (¬ BYS v k ∨ (k + 1) / 2 ≤ ((stB v k).length : Int))
    · rw [DSC_d c.1 c.2, DSC_d c.1 (by rw [b, s]; exact c.2), drB_cg e]
    · by_cases d : BYS v k
      · have q : 128 < k ∨ ((stB v k).length : Int) < (k + 1) / 2 := by
          by_cases z : 128 < k
          · exact .inl z
          · refine .inr ?_
            by_cases y : ((stB v k).length : Int) < (k + 1) / 2
            · exact y
            · exact absurd ⟨by omega, .inr (by omega)⟩ c
        rw [DSC_s d q, DSC_s (b.mpr d) (by rw [s]; exact q), s]
      · have q : 128 < k := by
          by_cases z : 128 < k
          · exact z
          · exact absurd ⟨by omega, .inl d⟩ c
        rw [DSC_n d q, DSC_n (fun x => d (b.mp x)) q]
  · have n1 : ¬ BYS w k := fun x => h x.1
    have n2 : ¬ BYS v k := fun x => h x.1
    rw [DSC_d (by omega) (.inl n1), DSC_d (by omega) (.inl n2), drB_cg e]
end DSCx
theorem dvP_cg {co co2 : Int → Int} {n p : Int} (h : AG co co2) : dvP co n p = dvP co2 n p := by
  have e : ∀ f : Int → Int, (∃ t, DVF co n p t ∧ f = cutP 64 t) ↔ (∃ t, DVF co2 n p t ∧ f = cutP 64 t) := fun f => ⟨fun ⟨t, a, b⟩ => ⟨t, DVF_cg h a, b⟩, fun ⟨t, a, b⟩ => ⟨t, DVF_cg (fun s x y => (h s x y).symm) a, b⟩⟩
  have e2 : (fun f : Int → Int => ∃ t, DVF co n p t ∧ f = cutP 64 t) = (fun f : Int → Int => ∃ t, DVF co2 n p t ∧ f = cutP 64 t) := funext (fun f => propext (e f))
  unfold dvP
  rw [e2]

theorem btw_84 {a b : Int} (ha : 0 ≤ a ∧ a ≤ 15) (hb : 0 ≤ b ∧ b ≤ 15) : btw (16 * a + b) 8 = btw b 4 ++ btw a 4 := by
  have k : ∀ x y : Fin 16, btw (16 * (x.val : Int) + (y.val : Int)) 8 = btw (y.val : Int) 4 ++ btw (x.val : Int) 4 := by decide +kernel
  have w := k ⟨a.toNat, by omega⟩ ⟨b.toNat, by omega⟩
  rw [show (((⟨a.toNat, by omega⟩ : Fin 16).val : Nat) : Int) = a from by show ((a.toNat : Nat) : Int) = a; omega, show (((⟨b.toNat, by omega⟩ : Fin 16).val : Nat) : Int) = b from by show ((b.toNat : Nat) : Int) = b; omega] at w
  exact w

def drP (w : Int → Int) (k i : Int) : List Int := ((List.range ((i + 1) / 2).toNat).map (fun j : Nat => btw (16 * w (2 * (j : Int)) + (if 2 * (j : Int) + 1 < k then w (2 * (j : Int) + 1) else 0)) 8)).flatten
theorem drP_0 {w : Int → Int} {k : Int} : drP w k 0 = [] := rfl
theorem drP_s {w : Int → Int} {k i j a b : Int} (h0 : 0 ≤ i) (h2 : i % 2 = 0) (e : j = i + 2) (ha : w i = a) (hb : i + 1 < k ∧ w (i + 1) = b ∨ k ≤ i + 1 ∧ b = 0) : drP w k j = drP w k i ++ btw (16 * a + b) 8 := by
  subst e
  unfold drP
  rw [show ((i + 2 + 1) / 2).toNat = ((i + 1) / 2).toNat + 1 by omega, List.range_succ, List.map_append, List.flatten_append, List.map_cons, List.map_nil, List.flatten_cons, List.flatten_nil, List.append_nil, show 2 * ((((i + 1) / 2).toNat : Nat) : Int) = i by omega, ha]
  congr 2
  rcases hb with ⟨c, d⟩ | ⟨c, d⟩
  · rw [if_pos c, d]
  · rw [if_neg (by omega), d]
theorem drP_b {w : Int → Int} {k i : Int} (hw : ∀ s, 0 ≤ s → s < k → 0 ≤ w s ∧ w s ≤ 15) (hi : i ≤ k + 1) (h2 : i % 2 = 0) : byw (drP w k i) = (List.range ((i + 1) / 2).toNat).map (fun j : Nat => 16 * w (2 * (j : Int)) + (if 2 * (j : Int) + 1 < k then w (2 * (j : Int) + 1) else 0)) := by
  unfold drP
  have hR : ∀ x, x ∈ List.range ((i + 1) / 2).toNat → 2 * (x : Int) < k := fun x hx => by
    have := List.mem_range.mp hx
    omega
  revert hR
  generalize List.range ((i + 1) / 2).toNat = R
  intro hR
  induction R with
  | nil => exact (show byw [] = [] by decide)
  | cons x t ih =>
    have hx := hR x (List.mem_cons.mpr (.inl rfl))
    have a := hw (2 * (x : Int)) (by omega) hx
    rw [List.map_cons, List.flatten_cons, List.map_cons, byw_a (by rw [btw_len]; rfl) b01_btw, ih (fun y hy => hR y (List.mem_cons.mpr (.inr hy))), byw_8 (by
      by_cases c : 2 * (x : Int) + 1 < k
      · have b := hw (2 * (x : Int) + 1) (by omega) c
        rw [if_pos c]
        omega
      · rw [if_neg c]
        omega)]
    rfl


end
section
/-! 19k -/
theorem lt_p2 {h k : Int} (e : h ≤ 0) : h < p2 k := by
  have := p2_pos k
  omega
theorem orI_84 {a b : Int} (ha : 0 ≤ a ∧ a ≤ 15) (hb : 0 ≤ b ∧ b ≤ 15) : orI (slI a 4) b = 16 * a + b := by
  have k : ∀ x y : Fin 16, orI (slI (x.val : Int) 4) (y.val : Int) = 16 * (x.val : Int) + (y.val : Int) := by decide +kernel
  have w := k ⟨a.toNat, by omega⟩ ⟨b.toNat, by omega⟩
  rw [show (((⟨a.toNat, by omega⟩ : Fin 16).val : Nat) : Int) = a from by show ((a.toNat : Nat) : Int) = a; omega, show (((⟨b.toNat, by omega⟩ : Fin 16).val : Nat) : Int) = b from by show ((b.toNat : Nat) : Int) = b; omega] at w
  exact w
theorem drP_e {w : Int → Int} {k i : Int} (hk : 0 ≤ k ∧ k ≤ 128) (hi : k ≤ i ∧ i ≤ k + 1) (h2 : i % 2 = 0) (hw : ∀ s, 0 ≤ s → s < k → 0 ≤ w s ∧ w s ≤ 15) : byw (btw (127 + k) 8 ++ drP w k i) = drB w k := by
  rw [byw_a (by rw [btw_len]; rfl) b01_btw, byw_8 (by omega), drP_b hw hi.2 h2, show ((i + 1) / 2).toNat = ((k + 1) / 2).toNat by omega]
  rfl
theorem drB_of {b n h hb : Int} {g w : Int → Int} {k i : Int} (q : RBB b g n h hb [] (btw (127 + k) 8 ++ drP w k i)) (hz : hb = 0) (hk : 0 ≤ k ∧ k ≤ 128) (hi : k ≤ i ∧ i ≤ k + 1) (h2 : i % 2 = 0) (hw : ∀ s, 0 ≤ s → s < k → 0 ≤ w s ∧ w s ≤ 15) : sc g 0 n = drB w k := by
  rw [RBB_en0 q hz, List.nil_append, drP_e hk hi h2 hw]
theorem len_of {g : Int → Int} {n : Int} {X : List Int} (h : sc g 0 n = X) (h0 : 0 ≤ n) : n = (X.length : Int) := by
  rw [← h, sc_lenI h0]
  omega
theorem AG_ct {w co : Int → Int} {k N : Int} (hN : N = 12) (hg : ∀ i, 0 ≤ i → i < k → 0 ≤ w i ∧ w i ≤ 11) (hc : ∀ v, 0 ≤ v → v < 12 → co v = su (eqs w v) k.toNat) : AG (cutP N co) (ctF w k) := fun s a b => by
  subst hN
  show cutP 12 co s = su (eqs w s) k.toNat
  unfold cutP
  by_cases q : s < 12
  · rw [if_pos ⟨a, q⟩]
    exact hc s a q
  · rw [if_neg (fun z => q z.2), su_eqs0 (fun i x y => by have := hg i x (by omega); omega)]
theorem DSB_of {w co : Int → Int} {k L : Int} {S : List Int} (hc : AG co (ctF w k)) (h : S = byw (STB (dvP co k (p2 L)) L) ++ byw (WSB ((L, 12, dvP co k (p2 L)) : Tb) w k)) : S = dsB w k L := by
  unfold dsB
  rw [← dvP_cg hc]
  exact h

section ALWx
variable {w v : Int → Int} {n k : Int}
theorem ALW_y (h : ALW w n) (e : w n = w 0) (ek : k = n + 1) : ALW w k := fun i a b => by
  by_cases q : i = n
  · rw [q]; exact e
  · exact h i a (by omega)
theorem ALW_n1 (h : ¬ ALW w n) (ek : k = n + 1) : ¬ ALW w k := fun q => h (fun i a b => q i a (by omega))
theorem ALW_n2 (h0 : 0 ≤ n) (e : w n ≠ w 0) (ek : k = n + 1) : ¬ ALW w k := fun q => e (q n h0 (by omega))
theorem ALW_0 : ALW w 0 := fun i a b => by omega
theorem ALW_u {x : Int} : ALW (upd1 w n x) n ↔ ALW w n := ⟨ALW_cg (fun i a b => upd1_o (by omega)), ALW_cg (fun i a b => (upd1_o (by omega)).symm)⟩
end ALWx

def ADC (w : Int → Int) (n l : Int) : Prop := l = 1 ∧ ALW w n ∨ l = 0 ∧ ¬ ALW w n
theorem ALA_y {w : Int → Int} {n l : Int} (h : ADC w n l) (e : l ≠ 0) : ALW w n := by
  rcases h with ⟨_, b⟩ | ⟨a, _⟩
  · exact b
  · exact absurd a e
theorem ALA_n {w : Int → Int} {n l : Int} (h : ADC w n l) (e : l = 0) : ¬ ALW w n := by
  rcases h with ⟨a, _⟩ | ⟨_, b⟩
  · omega
  · exact b
theorem ADC_u {w : Int → Int} {n l x : Int} (h : ADC w n l) : ADC (upd1 w n x) n l := by
  rcases h with ⟨a, b⟩ | ⟨a, b⟩
  · exact .inl ⟨a, ALW_u.mpr b⟩
  · exact .inr ⟨a, fun q => b (ALW_u.mp q)⟩

def KND (w : Int → Int) (n kinds : Int) : Prop := n = 0 ∧ kinds = 0 ∨ 1 ≤ n ∧ ALW w n ∧ kinds = 1 ∨ 1 ≤ n ∧ ¬ ALW w n ∧ 2 ≤ kinds
def CTI (w co : Int → Int) (n : Int) : Prop := ∀ v, 0 ≤ v → v < 64 → co v = su (eqs w v) n.toNat
section KNDx
variable {w co : Int → Int} {n m kd kd2 x c : Int}
theorem CTI_0 (h : ∀ i, 0 ≤ i → i < 64 → co i = 0) : CTI w co 0 := fun v a b => h v a b
theorem CTI_s (h : CTI w co n) (h0 : 0 ≤ n) (hx : 0 ≤ x ∧ x < 64) (hc : c = co x + 1) (e : m = n + 1) : CTI (upd1 w n x) (upd1 co x c) m := fun v a b => by
  subst e
  rw [su_s h0, su_congr (h := eqs w v) (fun i y z => by unfold eqs; rw [upd1_o (by omega)]), ← h v a b]
  by_cases q : v = x
  · rw [q, upd1_s, hc]
    show co x + 1 = co x + (if upd1 w n x n = x then 1 else 0)
    rw [if_pos upd1_s]
  · rw [upd1_o q]
    show co v = co v + (if upd1 w n x n = v then 1 else 0)
    rw [if_neg (by rw [upd1_s]; exact fun z => q z.symm)]
    omega
theorem CTI_AG (h : CTI w co n) : AG co (ctF w n) := fun s a b => h s a b
theorem KND_0 : KND w 0 0 := .inl ⟨rfl, rfl⟩
theorem KND_s (h : KND w n kd) (hc : CTI w co n) (hx : 0 ≤ x ∧ x < 64) (h0 : 0 ≤ n) (e : co x = 0 ∧ kd2 = kd + 1 ∨ co x ≠ 0 ∧ kd2 = kd) (em : m = n + 1) : KND (upd1 w n x) m kd2 := by
  have cx := hc x hx.1 hx.2
  have un : upd1 w n x n = x := upd1_s
  by_cases z : n = 0
  · subst z
    have c0 : co x = 0 := cx
    refine .inr (.inl ⟨by omega, ALW_y (ALW_u.mpr ALW_0) rfl em, ?_⟩)
    rcases h with q | q | q <;> omega
  · have u0 : upd1 w n x 0 = w 0 := upd1_o (by omega)
    rcases h with ⟨q, _⟩ | ⟨q1, q2, q3⟩ | ⟨q1, q2, q3⟩
    · exact absurd q z
    · by_cases y : x = w 0
      · have p := su_one (f := eqs w x) (i := 0) (n := n.toNat) (fun i => by have := eqs_eq w x i; omega) (by omega) (by omega)
        have p0 := eqs_eq w x 0
        exact .inr (.inl ⟨by omega, ALW_y (ALW_u.mpr q2) (by rw [un, u0, y]) em, by omega⟩)
      · have p : su (eqs w x) n.toNat = 0 := su_eqs0 (fun i a b => by rw [q2 i a (by omega)]; exact fun r => y r.symm)
        exact .inr (.inr ⟨by omega, ALW_n2 h0 (by rw [un, u0]; exact y) em, by omega⟩)
    · exact .inr (.inr ⟨by omega, ALW_n1 (fun r => q2 (ALW_u.mp r)) em, by omega⟩)

def D5 (w : Int → Int) (k L v : Int) : Prop := (v = 9999 ∧ (ALW w k ∨ k < 2)) ∨ (v = 1 + ((dsB w k L).length : Int) ∧ ¬ ALW w k ∧ 2 ≤ k)
theorem D5_0 {k L : Int} (h : KND w k kd) (q : kd < 2 ∨ k < 2) : D5 w k L 9999 := .inl ⟨rfl, by
  rcases h with h | h | h
  · exact .inr (by omega)
  · exact .inl h.2.1
  · exact .inr (by omega)⟩
theorem D5_1 {k L v : Int} (h : KND w k kd) (q : 2 ≤ kd) (q2 : 2 ≤ k) (e : ((dsB w k L).length : Int) = v - 1) : D5 w k L v := .inr ⟨by omega, by
  rcases h with h | h | h
  · omega
  · omega
  · exact h.2.1, q2⟩
theorem SX_of {k a b mm st : Int} (h5 : D5 w k 5 a) (h6 : D5 w k 6 b) (hm : mm = a ∧ a < b ∨ mm = b ∧ b ≤ a) (hs : st = 9999 ∧ 128 < mm ∨ st = mm ∧ mm ≤ 128) : (st = 9999 ∧ ¬ BYS w k) ∨ (st = 1 + ((stB w k).length : Int) ∧ st ≤ 128 ∧ BYS w k) := by
  rcases h5 with ⟨a1, a2⟩ | ⟨a1, a2, a3⟩
  · have nb : ¬ BYS w k := fun q => by
      rcases a2 with z | z
      · exact q.2.1 z
      · have := q.1
        omega
    rcases h6 with ⟨b1, b2⟩ | ⟨b1, b2, b3⟩
    · exact .inl ⟨by omega, nb⟩
    · rcases a2 with z | z
      · exact absurd z b2
      · omega
  · rcases h6 with ⟨b1, b2⟩ | ⟨b1, b2, b3⟩
    · rcases b2 with z | z
      · exact absurd z a2
      · omega
    · have e : mm = 1 + ((stB w k).length : Int) := by
        by_cases c : (dsB w k 6).length < (dsB w k 5).length
        · rw [stB_6 c]; omega
        · rw [stB_5 c]; omega
      rcases hs with ⟨s1, s2⟩ | ⟨s1, s2⟩
      · exact .inl ⟨s1, fun q => by have := q.2.2; omega⟩
      · exact .inr ⟨by omega, by omega, a3, a2, by omega⟩

theorem SX_ord {k a b : Int} (h5 : D5 w k 5 a) (h6 : D5 w k 6 b) (hb : BYS w k) : (a ≤ b → stB w k = dsB w k 5) ∧ (b < a → stB w k = dsB w k 6) := by
  rcases h5 with ⟨a1, a2⟩ | ⟨a1, a2, a3⟩
  · rcases a2 with z | z
    · exact absurd z hb.2.1
    · have := hb.1
      omega
  · rcases h6 with ⟨b1, b2⟩ | ⟨b1, b2, b3⟩
    · rcases b2 with z | z
      · exact absurd z hb.2.1
      · omega
    · exact ⟨fun q => stB_5 (by omega), fun q => stB_6 (by omega)⟩
end KNDx

def DSR (r : Int) (o : Option (List Int)) (S : List Int) : Prop := r = 1 ∧ o = some S ∨ r = 0 ∧ o = none

def DRF (r : Int) (o : Option (List Int)) (g : Int → Int) (n : Int) : Prop := (r = -2 ∧ o = none ∧ MDX g n) ∨ (∃ C, o = some (byw C) ∧ MDB g n C ∧ n = 8 * r ∧ 1 ≤ r)
theorem DSS_of {b n b1 n1 b2 n2 c : Int} {g g1 g2 h : Int → Int} {S : List Int} (h1 : RAP b g n b1 g1 n1 [u8 c]) (h2 : RAP b1 g1 n1 b2 g2 n2 (sc h 0 (0 + c))) (hb : b = 0) (hn : n = 0) (hS : sc h 0 c = S) (hl : c = (S.length : Int)) (hc : (S.length : Int) < 128) : sc g2 0 n2 = [(S.length : Int)] ++ S ∧ b2 = 0 := by
  subst hb hn
  rw [Int.zero_add, hS] at h2
  rw [hl, u8_id (by omega)] at h1
  have w := RAP_trans h1 h2 [] (.inl ⟨rfl, sc_nil (Int.le_refl 0)⟩)
  rw [List.nil_append] at w
  rcases w with ⟨a, e⟩ | ⟨_, e⟩
  · exact ⟨e, a⟩
  · rw [List.length_append, List.length_cons, List.length_nil] at e
    omega
theorem BYQ {co w g : Int → Int} {k L r n : Int} (hc : AG co (ctF w k)) (h : ∃ C, MDB g n C ∧ (C.length : Int) = n ∧ byw C = [r - 1] ++ (byw (STB (dvP co k (p2 L)) L) ++ byw (WSB ((L, 12, dvP co k (p2 L)) : Tb) w k)) ∧ ((byw (STB (dvP co k (p2 L)) L) ++ byw (WSB ((L, 12, dvP co k (p2 L)) : Tb) w k)).length : Int) = r - 1) : ((dsB w k L).length : Int) = r - 1 ∧ ∃ C, MDB g n C ∧ byw C = [r - 1] ++ dsB w k L := by
  obtain ⟨C, c1, c2, c3, c4⟩ := h
  rw [dvP_cg hc] at c3 c4
  exact ⟨c4, C, c1, c3⟩


end
