section
/-! 17p -/
def w64 (x : Int) : Int := (Int64.ofInt x).toInt
theorem w64_r (x : Int) : w64 x % 18446744073709551616 = x % 18446744073709551616 := by
  unfold w64
  rw [Int64.toInt_ofInt]
  have h : x.bmod Int64.size % ((Int64.size : Nat) : Int) = x % ((Int64.size : Nat) : Int) := Int.bmod_emod
  have e : ((Int64.size : Nat) : Int) = 18446744073709551616 := rfl
  rw [e] at h
  exact h
theorem w64_inr (x : Int) : inrJ (w64 x) := toJ_inr _
theorem w64_of {x v : Int} (hx : inrJ x) (h : x % 18446744073709551616 = v % 18446744073709551616) : x = w64 v := by
  have h1 := w64_r v
  have h2 := w64_inr v
  omega
theorem adJ_0 {x : Int} (hx : inrJ x) : adJ 0 x = x := by
  unfold adJ
  show (Int64.ofInt 0 + Int64.ofInt x).toInt = x
  rw [← Int64.ofInt_add, Int.zero_add]
  exact toJ_ofJ hx
def wrd (w : Int) : Int := muJ (rtJ (muJ w (-4417276706812531889)) 31) (-7046029288634856825)
def wl (l w : Int) : Int := muJ (rtJ (adJ l (muJ w (-4417276706812531889))) 31) (-7046029288634856825)
theorem wl_0 (w : Int) : wl 0 w = wrd w := by
  unfold wl wrd
  rw [adJ_0 (show inrJ (muJ w (-4417276706812531889)) from toJ_inr _)]
def ldJ (f : Int → Int) (p : Int) : Int := w64 (nvl f p 8)
def wLn (f : Int → Int) (p : Int) (k : Nat) (l : Int) : Int := itl (fun l p => wl l (ldJ f p)) 32 p k l
def w8 (h w : Int) : Int := adJ (muJ (rtJ (xoJ h (wrd w)) 27) (-7046029288634856825)) (-8796714831421723037)
def w8n (f : Int → Int) (p : Int) (k : Nat) (l : Int) : Int := itl (fun l p => w8 l (ldJ f p)) 8 p k l
def w4 (h w : Int) : Int := adJ (muJ (rtJ (xoJ h (muJ w (-7046029288634856825))) 23) (-4417276706812531889)) 1609587929392839161
def w1 (h w : Int) : Int := muJ (rtJ (xoJ h (muJ w 2870177450012600261)) 11) (-7046029288634856825)
def w1n (f : Int → Int) (p : Int) (k : Nat) (l : Int) : Int := itl (fun l p => w1 l (u8 (f p))) 1 p k l
def wEnd (h : Int) : Int := (fun h2 => (fun h3 => xoJ h3 (usJ h3 32)) (muJ (xoJ h2 (usJ h2 29)) 1609587929392839161)) (muJ (xoJ h (usJ h 33)) (-4417276706812531889))
def wj (h l : Int) : Int := adJ (muJ (xoJ h (wrd l)) (-7046029288634856825)) (-8796714831421723037)
def wTopL (a b c d : Int) : Int := wj (wj (wj (wj (adJ (adJ (adJ (rtJ a 1) (rtJ b 7)) (rtJ c 12)) (rtJ d 18)) a) b) c) d
def wTop (f : Int → Int) (a n s : Int) : Int := wTopL (wLn f a (n / 32).toNat (adJ (adJ s (-7046029288634856825)) (-4417276706812531889))) (wLn f (a + 8) (n / 32).toNat (adJ s (-4417276706812531889))) (wLn f (a + 16) (n / 32).toNat s) (wLn f (a + 24) (n / 32).toNat (sbJ s (-7046029288634856825)))
def wMid (f : Int → Int) (p r h : Int) : Int := if 4 ≤ r then w4 h (nvl f p 4) else h

def WRS (f : Int → Int) (p e h : Int) : Int := wEnd (w1n f (e - (e - p) % 4) ((e - p) % 4).toNat (wMid f (e - (e - p) % 8) ((e - p) % 8) (w8n f p ((e - p) / 8).toNat h)))
def WTI (f : Int → Int) (a n s : Int) : Int := if 32 ≤ n then wTop f a n s else adJ s 2870177450012600261

def WDS0 (f : Int → Int) (a n s : Int) : Int := WRS f (a + n - n % 32) (a + n) (adJ (WTI f a n s) n)
theorem WDS_x : ∃ g : (Int → Int) → Int → Int → Int → Int, g = WDS0 := ⟨_, rfl⟩
noncomputable def WDS : (Int → Int) → Int → Int → Int → Int := Classical.choose WDS_x
theorem WDS_e : WDS = WDS0 := Classical.choose_spec WDS_x
theorem wLn_s {f : Int → Int} {p l l2 p2_ : Int} {k k2 : Nat} (hk : k = k2 + 1) (hl : l2 = wl l (ldJ f p)) (hp : p2_ = p + 32) : wLn f p k l = wLn f p2_ k2 l2 := itl_s (g := fun l p => wl l (ldJ f p)) hk hl hp
theorem w8n_s {f : Int → Int} {p l l2 p2_ : Int} {k k2 : Nat} (hk : k = k2 + 1) (hl : l2 = w8 l (ldJ f p)) (hp : p2_ = p + 8) : w8n f p k l = w8n f p2_ k2 l2 := itl_s (g := fun l p => w8 l (ldJ f p)) hk hl hp
theorem w1n_s {f : Int → Int} {p l l2 p2_ : Int} {k k2 : Nat} (hk : k = k2 + 1) (hl : l2 = w1 l (u8 (f p))) (hp : p2_ = p + 1) : w1n f p k l = w1n f p2_ k2 l2 := itl_s (g := fun l p => w1 l (u8 (f p))) hk hl hp
theorem wLn_0 {f : Int → Int} {p l : Int} {k : Nat} (hk : k = 0) : wLn f p k l = l := itl_0 hk
theorem w8n_0 {f : Int → Int} {p l : Int} {k : Nat} (hk : k = 0) : w8n f p k l = l := itl_0 hk
theorem w1n_0 {f : Int → Int} {p l : Int} {k : Nat} (hk : k = 0) : w1n f p k l = l := itl_0 hk
theorem wLn_p {f : Int → Int} {p q l z : Int} {k : Nat} (h : wLn f q k l = z) (e : p = q) : wLn f p k l = z := e ▸ h

theorem nmb_8 {d : Int → Int} {a r : Int} (h : r = nmb d a 8 (8 : Int).toNat) (hr : inrJ r) : r = ldJ d a := by
  have q := nmb_nvl (d := d) (a := a) (n := 8) (k := 8) (by omega)
  rw [show a + 8 - ((8 : Nat) : Int) = a by omega] at q
  rw [show (8 : Int).toNat = 8 from rfl] at h
  rw [← h] at q
  exact w64_of hr q
theorem nmb_4 {d : Int → Int} {a r : Int} (h : r = nmb d a 4 (4 : Int).toNat) (hr : inrJ r) : r = nvl d a 4 := by
  have q := nmb_nvl (d := d) (a := a) (n := 4) (k := 4) (by omega)
  have w := nvl_rng (f := d) (n := 4) (a := a)
  rw [show p2 (8 * ((4 : Nat) : Int)) = 4294967296 by decide] at w
  rw [show a + 4 - ((4 : Nat) : Int) = a by omega] at q
  rw [show (4 : Int).toNat = 4 from rfl] at h
  rw [← h] at q
  omega
theorem NVQ_8 {f : Int → Int} {a r : Int} (h : NVQ f a 8 r) (hr : inrJ r) : r = ldJ f a := by
  have w := nvl_rng (f := f) (n := 8) (a := a)
  rw [show p2 (8 * ((8 : Nat) : Int)) = 18446744073709551616 by decide] at w
  have h : r % 18446744073709551616 = nvl f a 8 := h
  exact w64_of hr (by omega)
theorem NVQ_4 {f : Int → Int} {a r : Int} (h : NVQ f a 4 r) (hr : inrJ r) : r = nvl f a 4 := by
  have w := nvl_rng (f := f) (n := 4) (a := a)
  rw [show p2 (8 * ((4 : Nat) : Int)) = 4294967296 by decide] at w
  have h : r % 18446744073709551616 = nvl f a 4 := h
  omega

theorem wl_c {f : Int → Int} {p l x r : Int} (hx : x = ldJ f p) (hr : r = rtJ (adJ l (muJ x (-4417276706812531889))) 31) : muJ r (-7046029288634856825) = wl l (ldJ f p) := by
  unfold wl
  rw [hr, hx]
theorem w8_c {f : Int → Int} {p h x z r : Int} (hx : x = ldJ f p) (hz : z = wl 0 x) (hr : r = rtJ (xoJ h z) 27) : adJ (muJ r (-7046029288634856825)) (-8796714831421723037) = w8 h (ldJ f p) := by
  unfold w8
  rw [hr, hz, hx, wl_0]
theorem w8_r {f : Int → Int} {p h x z r : Int} (hx : x = ldJ f p) (hz : z = rtJ (muJ x (-4417276706812531889)) 31) (hr : r = rtJ (xoJ h (muJ z (-7046029288634856825))) 27) : adJ (muJ r (-7046029288634856825)) (-8796714831421723037) = w8 h (ldJ f p) := by
  unfold w8 wrd
  rw [hr, hz, hx]
theorem w4_c {f : Int → Int} {p h x r : Int} (hx : x = nvl f p 4) (hr : r = rtJ (xoJ h (muJ x (-7046029288634856825))) 23) : adJ (muJ r (-4417276706812531889)) 1609587929392839161 = w4 h (nvl f p 4) := by
  unfold w4
  rw [hr, hx]
theorem w1_c {f : Int → Int} {p h v r : Int} (hv : f p = v) (hr : r = rtJ (xoJ h (muJ (v % 256) 2870177450012600261)) 11) : muJ r (-7046029288634856825) = w1 h (u8 (f p)) := by
  unfold w1 u8
  rw [hr, hv]
theorem w1_r {f : Int → Int} {p h v r : Int} (hv : f p = v) (h0 : 0 ≤ v ∧ v ≤ 255) (hr : r = rtJ (xoJ h (muJ v 2870177450012600261)) 11) : muJ r (-7046029288634856825) = w1 h (u8 (f p)) := by
  unfold w1
  rw [hr, hv, u8_id h0]
theorem wj_r {h l z : Int} (hz : z = rtJ (muJ l (-4417276706812531889)) 31) : adJ (muJ (xoJ h (muJ z (-7046029288634856825))) (-7046029288634856825)) (-8796714831421723037) = wj h l := by
  unfold wj wrd
  rw [hz]

def WRI8 (f : Int → Int) (p e h p1 h1 : Int) : Prop := w8n f p ((e - p) / 8).toNat h = w8n f p1 ((e - p1) / 8).toNat h1 ∧ (e - p1) % 8 = (e - p) % 8 ∧ p1 ≤ e
theorem WRI8_0 {f : Int → Int} {p e h : Int} (he : p ≤ e) : WRI8 f p e h p h := ⟨rfl, rfl, he⟩
theorem WRI8_i {f : Int → Int} {p e h p1 h1 : Int} (hp : p1 = p) (hh : h1 = h) (he : p ≤ e) : WRI8 f p e h p1 h1 := by
  subst hp hh
  exact WRI8_0 he
theorem WRI8_s {f : Int → Int} {p e h p1 h1 h2 q : Int} (k : WRI8 f p e h p1 h1) (hb : 8 ≤ e - p1) (hh : h2 = w8 h1 (ldJ f p1)) (hq : q = p1 + 8) : WRI8 f p e h q h2 := by
  obtain ⟨a, b, c⟩ := k
  exact ⟨a.trans (w8n_s (by omega) hh hq), by omega, by omega⟩
def WRI1 (f : Int → Int) (p e h p1 h1 : Int) : Prop := w1n f (e - (e - p) % 4) ((e - p) % 4).toNat (wMid f (e - (e - p) % 8) ((e - p) % 8) (w8n f p ((e - p) / 8).toNat h)) = w1n f p1 (e - p1).toNat h1 ∧ p1 ≤ e
theorem WRI1_n {f : Int → Int} {p e h p1 h1 : Int} (k : WRI8 f p e h p1 h1) (hb : e - p1 < 4) : WRI1 f p e h p1 h1 := by
  obtain ⟨a, b, c⟩ := k
  refine ⟨?_, c⟩
  rw [a, w8n_0 (k := ((e - p1) / 8).toNat) (by omega)]
  unfold wMid
  rw [if_neg (by omega), show e - (e - p) % 4 = p1 by omega, show (e - p) % 4 = e - p1 by omega]
theorem WRI1_y {f : Int → Int} {p e h p1 h1 h2 q : Int} (k : WRI8 f p e h p1 h1) (hb : 4 ≤ e - p1 ∧ e - p1 < 8) (hh : h2 = w4 h1 (nvl f p1 4)) (hq : q = p1 + 4) : WRI1 f p e h q h2 := by
  obtain ⟨a, b, c⟩ := k
  refine ⟨?_, by omega⟩
  rw [a, w8n_0 (k := ((e - p1) / 8).toNat) (by omega)]
  unfold wMid
  rw [if_pos (by omega), show e - (e - p) % 4 = q by omega, show (e - p) % 4 = e - q by omega, show e - (e - p) % 8 = p1 by omega, hh]
theorem WRI1_s {f : Int → Int} {p e h p1 h1 h2 q : Int} (k : WRI1 f p e h p1 h1) (hb : p1 < e) (hh : h2 = w1 h1 (u8 (f p1))) (hq : q = p1 + 1) : WRI1 f p e h q h2 := by
  obtain ⟨a, b⟩ := k
  exact ⟨a.trans (w1n_s (by omega) hh hq), by omega⟩
theorem WRI1_e {f : Int → Int} {p e h p1 h1 : Int} (k : WRI1 f p e h p1 h1) (hb : e ≤ p1) : wEnd h1 = WRS f p e h := by
  obtain ⟨a, b⟩ := k
  unfold WRS
  rw [a, w1n_0 (k := (e - p1).toNat) (by omega)]
def WS1 (f : Int → Int) (a n s p h : Int) : Prop := p = a + n - n % 32 ∧ h = WTI f a n s
theorem WTI_y {f : Int → Int} {a n s z : Int} (h : 32 ≤ n) (hz : z = wTop f a n s) : z = WTI f a n s := by
  unfold WTI
  rw [if_pos h]
  exact hz
theorem WTI_n {f : Int → Int} {a n s z : Int} (h : n < 32) (hz : z = adJ s 2870177450012600261) : z = WTI f a n s := by
  unfold WTI
  rw [if_neg (by omega)]
  exact hz
theorem WS1_n {f : Int → Int} {a n s p h : Int} (hn : 0 ≤ n) (h1 : n < 32) (hp : p = a) (hh : h = adJ s 2870177450012600261) : WS1 f a n s p h := ⟨by omega, WTI_n h1 hh⟩
theorem wTop_of {f : Int → Int} {a n s l1 l2 l3 l4 r1 r2 r3 r4 k1 k2 k3 k4 : Int} (e1 : wLn f a (n / 32).toNat (adJ (adJ s (-7046029288634856825)) (-4417276706812531889)) = l1) (e2 : wLn f (a + 8) (n / 32).toNat (adJ s (-4417276706812531889)) = l2) (e3 : wLn f (a + 16) (n / 32).toNat s = l3) (e4 : wLn f (a + 24) (n / 32).toNat (sbJ s (-7046029288634856825)) = l4) (q1 : r1 = rtJ l1 1) (q2 : r2 = rtJ l2 7) (q3 : r3 = rtJ l3 12) (q4 : r4 = rtJ l4 18)
    (j1 : k1 = wj (adJ (adJ (adJ r1 r2) r3) r4) l1) (j2 : k2 = wj k1 l2) (j3 : k3 = wj k2 l3) (j4 : k4 = wj k3 l4) : k4 = wTop f a n s := by
  unfold wTop wTopL
  rw [e1, e2, e3, e4, ← q1, ← q2, ← q3, ← q4, ← j1, ← j2, ← j3, ← j4]
theorem WS1_y {f : Int → Int} {a n s p l1 l2 l3 l4 r1 r2 r3 r4 k1 k2 k3 k4 : Int} (h1 : 32 ≤ n) (hp : p = a + n - n % 32) (e1 : wLn f a (n / 32).toNat (adJ (adJ s (-7046029288634856825)) (-4417276706812531889)) = l1) (e2 : wLn f (a + 8) (n / 32).toNat (adJ s (-4417276706812531889)) = l2) (e3 : wLn f (a + 16) (n / 32).toNat s = l3) (e4 : wLn f (a + 24) (n / 32).toNat (sbJ s (-7046029288634856825)) = l4) (q1 : r1 = rtJ l1 1) (q2 : r2 = rtJ l2 7) (q3 : r3 = rtJ l3 12) (q4 : r4 = rtJ l4 18)
    (j1 : k1 = wl 0 l1) (j2 : k2 = wl 0 l2) (j3 : k3 = wl 0 l3) (j4 : k4 = wl 0 l4) : WS1 f a n s p (adJ (muJ (xoJ (adJ (muJ (xoJ (adJ (muJ (xoJ (adJ (muJ (xoJ (adJ (adJ (adJ r1 r2) r3) r4) k1) (-7046029288634856825)) (-8796714831421723037)) k2) (-7046029288634856825)) (-8796714831421723037)) k3) (-7046029288634856825)) (-8796714831421723037)) k4) (-7046029288634856825)) (-8796714831421723037)) := by
  refine ⟨hp, WTI_y h1 ?_⟩
  refine wTop_of e1 e2 e3 e4 q1 q2 q3 q4 rfl rfl rfl ?_
  rw [j1, j2, j3, j4, wl_0, wl_0, wl_0, wl_0]
  unfold wj
  rfl
theorem WDS_of {f : Int → Int} {a n s p h r e : Int} (k : WS1 f a n s p h) (hr : r = WRS f p e (adJ h n)) (he : e = a + n) : r = WDS f a n s := by
  rw [WDS_e]; unfold WDS0
  rw [hr, k.1, k.2, he]
theorem WDS_w {f : Int → Int} {a n s p r e : Int} (hr : r = WRS f p e (adJ (WTI f a n s) n)) (hp : p = a + n - n % 32) (he : e = a + n) : r = WDS f a n s := by
  rw [WDS_e]; unfold WDS0
  rw [hr, hp, he]

def lw0 (i : Int) : Int := if i = 0 then adJ (adJ 0 (-7046029288634856825)) (-4417276706812531889) else if i = 1 then adJ 0 (-4417276706812531889) else if i = 2 then 0 else sbJ 0 (-7046029288634856825)
def LWA (f : Int → Int) (a n e k : Int) (g : Int → Int) : Prop := ∀ i, 0 ≤ i → i < 4 → wLn f (a + 8 * i) (n / 32).toNat (lw0 i) = wLn f ((if i < k then e + 32 else e) + 8 * i) ((a + n - (if i < k then e + 32 else e)) / 32).toNat (g i)
theorem LWA_i {f g g0 : Int → Int} {a n x0 x1 x2 x3 : Int} (h : g = upd1 (upd1 (upd1 (upd1 g0 0 x0) 1 x1) 2 x2) 3 x3) (h0 : x0 = lw0 0) (h1 : x1 = lw0 1) (h2 : x2 = lw0 2) (h3 : x3 = lw0 3) : LWA f a n a 0 g := fun i x y => by
  have hv : g i = lw0 i := by
    rw [h]
    rcases (show i = 0 ∨ i = 1 ∨ i = 2 ∨ i = 3 by omega) with q | q | q | q
    · rw [q, upd1_o (by omega), upd1_o (by omega), upd1_o (by omega), upd1_s, h0]
    · rw [q, upd1_o (by omega), upd1_o (by omega), upd1_s, h1]
    · rw [q, upd1_o (by omega), upd1_s, h2]
    · rw [q, upd1_s, h3]
  rw [if_neg (by omega), show a + n - a = n by omega, hv]
theorem LWA_s {f g : Int → Int} {a n e k v k2 q : Int} (h : LWA f a n e k g) (hk : 0 ≤ k ∧ k < 4) (he : e + 32 ≤ a + n) (ek : k2 = k + 1) (hq : q = e + 8 * k) (hv : v = wl (g k) (ldJ f q)) : LWA f a n e k2 (upd1 g k v) := fun i x y => by
  subst hq ek
  by_cases c : i = k
  · subst c
    have h2 := h i x y
    rw [if_neg (by omega)] at h2
    rw [upd1_s, if_pos (by omega), h2]
    exact wLn_s (by omega) hv (by omega)
  · rw [upd1_o c]
    have w := h i x y
    by_cases c2 : i < k
    · rw [if_pos c2] at w
      rw [if_pos (by omega)]
      exact w
    · rw [if_neg c2] at w
      rw [if_neg (by omega)]
      exact w
theorem LWA_e {f g : Int → Int} {a n e k e2 : Int} (h : LWA f a n e k g) (hk : 4 ≤ k) (e2_ : e2 = e + 32) : LWA f a n e2 0 g := fun i x y => by
  have w := h i x y
  rw [if_pos (by omega)] at w
  rw [if_neg (by omega), e2_]
  exact w
theorem LWA_v {f g : Int → Int} {a n e i : Int} (h : LWA f a n e 0 g) (he : a + n - e < 32) (hi : 0 ≤ i ∧ i < 4) : wLn f (a + 8 * i) (n / 32).toNat (lw0 i) = g i := by
  have h2 := h i hi.1 hi.2
  rw [if_neg (by omega), wLn_0 (k := ((a + n - e) / 32).toNat) (by omega)] at h2
  exact h2
theorem it4 {W : Int → Int → Int} {g : Int → Int} {h : Int} : itl (fun l p => W l (g p)) 1 0 4 h = W (W (W (W h (g 0)) (g 1)) (g 2)) (g 3) := rfl
theorem wj4 {g : Int → Int} {h : Int} : itl (fun l p => wj l (g p)) 1 0 4 h = wj (wj (wj (wj h (g 0)) (g 1)) (g 2)) (g 3) := it4 (W := wj)
theorem WS1_a {f g : Int → Int} {a n p v0 v1 v2 v3 r0 r1 r2 r3 h : Int} (h1 : 32 ≤ n) (hp : p = a + n - n % 32) (hL : LWA f a n p 0 g) (e0 : g 0 = v0) (e1 : g 1 = v1) (e2 : g 2 = v2) (e3 : g 3 = v3) (q0 : r0 = rtJ v0 1) (q1 : r1 = rtJ v1 7) (q2 : r2 = rtJ v2 12) (q3 : r3 = rtJ v3 18)
    (hh : itl (fun l p => wj l (g p)) 1 0 4 (adJ (adJ (adJ r0 r1) r2) r3) = h) : WS1 f a n 0 p h := by
  refine ⟨hp, WTI_y h1 ?_⟩
  have w0 := LWA_v hL (by omega) (i := 0) (by omega)
  have w1 := LWA_v hL (by omega) (i := 1) (by omega)
  have w2 := LWA_v hL (by omega) (i := 2) (by omega)
  have w3 := LWA_v hL (by omega) (i := 3) (by omega)
  rw [show lw0 0 = adJ (adJ 0 (-7046029288634856825)) (-4417276706812531889) from rfl, show a + 8 * 0 = a by omega, e0] at w0
  rw [show lw0 1 = adJ 0 (-4417276706812531889) from rfl, show a + 8 * 1 = a + 8 by omega, e1] at w1
  rw [show lw0 2 = 0 from rfl, show a + 8 * 2 = a + 16 by omega, e2] at w2
  rw [show lw0 3 = sbJ 0 (-7046029288634856825) from rfl, show a + 8 * 3 = a + 24 by omega, e3] at w3
  rw [wj4, e0, e1, e2, e3] at hh
  exact wTop_of w0 w1 w2 w3 q0 q1 q2 q3 rfl rfl rfl hh.symm
theorem LWA_m {f g : Int → Int} {a n e k e2 : Int} (h : LWA f a n e k g) (he : e2 = e) : LWA f a n e2 k g := by subst he; exact h


end
section
/-! 17q -/
def srI (a b : Int) : Int := (rop 7 (Int32.ofInt a) (Int32.ofInt b)).toInt
section ROWG
variable {σ : rS} {μ d pc c s : Nat} {ls : rO} {st : List Value} {Q : wQ} {len : Nat} {act : rA}
theorem w_iandG {a b : Int} (hf : PP.1 μ pc = some (.iand, len, act)) (h : Ew μ d (pc + 1) ls (I (andI a b) :: st) σ c s Q) : Ew μ d pc ls (I b :: I a :: st) σ c s Q :=
  Ew_of (fun _ => x_iand hf (z := andI a b) (toI_of _).symm) h
theorem w_ishrG {a b : Int} (hf : PP.1 μ pc = some (.ishr, len, act)) (h : Ew μ d (pc + 1) ls (I (srI a b) :: st) σ c s Q) : Ew μ d pc ls (I b :: I a :: st) σ c s Q :=
  Ew_of (fun _ => x_ishr hf (z := srI a b) (toI_of _).symm) h
end ROWG
def b32 (x : Int) : BitVec 32 := (Int32.ofInt x).toBitVec
theorem b32_n (x : Int) : (b32 x).toNat = nU x := nU_of x
theorem b32_x (a b : Int) : b32 (xoI a b) = b32 a ^^^ b32 b := by
  unfold b32 xoI
  rw [toI_of, Int32.toBitVec_xor]
theorem b32_us {a k : Int} {n : Nat} (hk : 1 ≤ k ∧ k ≤ 31) (hn : n = k.toNat) : b32 (usI a k) = b32 a >>> n := by
  apply BitVec.eq_of_toNat_eq
  rw [BitVec.toNat_ushiftRight, b32_n, b32_n, nU_us hk, Nat.shiftRight_eq_div_pow, hn]
theorem inr_b {x : Int} {y : BitVec 32} (hx : inr x) (h : b32 x = y) : x = y.toInt := by
  rw [← h]
  exact (toI_ofI hx).symm
theorem andI_15 (a : Int) : andI a 15 = a % 16 := by
  have e : (Int32.ofInt a &&& Int32.ofInt 15).toBitVec.toNat = (Int32.ofInt a).toBitVec.toNat % 16 := by
    show ((Int32.ofInt a).toBitVec &&& (Int32.ofInt 15).toBitVec).toNat = _
    rw [BitVec.toNat_and, show (Int32.ofInt 15).toBitVec.toNat = 2 ^ 4 - 1 from by decide, Nat.and_two_pow_sub_one_eq_mod]
  have e2 := nU_m a
  rw [← nU_of] at e2
  unfold andI
  show (Int32.ofInt a &&& Int32.ofInt 15).toBitVec.toInt = _
  rw [BitVec.toInt_eq_toNat_of_lt (by rw [e]; omega), e]
  omega
theorem andI_1 (a : Int) : andI a 1 = a % 2 := by
  have e : (Int32.ofInt a &&& Int32.ofInt 1).toBitVec.toNat = (Int32.ofInt a).toBitVec.toNat % 2 := by
    show ((Int32.ofInt a).toBitVec &&& (Int32.ofInt 1).toBitVec).toNat = _
    rw [BitVec.toNat_and, show (Int32.ofInt 1).toBitVec.toNat = 2 ^ 1 - 1 from by decide, Nat.and_two_pow_sub_one_eq_mod]
  have e2 := nU_m a
  rw [← nU_of] at e2
  unfold andI
  show (Int32.ofInt a &&& Int32.ofInt 1).toBitVec.toInt = _
  rw [BitVec.toInt_eq_toNat_of_lt (by rw [e]; omega), e]
  omega
theorem and15r (a : Int) : 0 ≤ andI a 15 ∧ andI a 15 < 16 := by rw [andI_15]; omega
theorem and1r (a : Int) : 0 ≤ andI a 1 ∧ andI a 1 ≤ 1 := by rw [andI_1]; omega
def s1v (x : BitVec 32) : BitVec 32 := bif x.getLsbD 0 then (x >>> 1) ^^^ 2197175160#32 else x >>> 1
theorem xo3 (a b p : BitVec 32) : (a ^^^ p) ^^^ (b ^^^ p) = a ^^^ b := by
  rw [BitVec.xor_assoc, ← BitVec.xor_assoc p b p, BitVec.xor_comm p b, BitVec.xor_assoc b p p, BitVec.xor_self, BitVec.xor_zero]
theorem xo2 (a b p : BitVec 32) : (a ^^^ p) ^^^ b = (a ^^^ b) ^^^ p := by
  rw [BitVec.xor_assoc, BitVec.xor_comm p b, ← BitVec.xor_assoc]
theorem s1v_x (x y : BitVec 32) : s1v (x ^^^ y) = s1v x ^^^ s1v y := by
  unfold s1v
  rw [BitVec.getLsbD_xor, BitVec.ushiftRight_xor_distrib]
  cases x.getLsbD 0 <;> cases y.getLsbD 0
  · rfl
  · show (x >>> 1 ^^^ y >>> 1) ^^^ 2197175160#32 = x >>> 1 ^^^ (y >>> 1 ^^^ 2197175160#32)
    rw [BitVec.xor_assoc]
  · show (x >>> 1 ^^^ y >>> 1) ^^^ 2197175160#32 = (x >>> 1 ^^^ 2197175160#32) ^^^ y >>> 1
    rw [xo2]
  · show x >>> 1 ^^^ y >>> 1 = (x >>> 1 ^^^ 2197175160#32) ^^^ (y >>> 1 ^^^ 2197175160#32)
    rw [xo3]
theorem s1v_z {x : BitVec 32} (h : x.getLsbD 0 = false) : s1v x = x >>> 1 := by
  unfold s1v
  rw [h]
  rfl
def sNv : Nat → BitVec 32 → BitVec 32
  | 0, x => x
  | n + 1, x => s1v (sNv n x)
theorem sNv_x (x y : BitVec 32) : ∀ n, sNv n (x ^^^ y) = sNv n x ^^^ sNv n y
  | 0 => rfl
  | n + 1 => by
    show s1v (sNv n (x ^^^ y)) = s1v (sNv n x) ^^^ s1v (sNv n y)
    rw [sNv_x x y n, s1v_x]
theorem ush (x : BitVec 32) (a b : Nat) : (x >>> a) >>> b = x >>> (a + b) := by
  apply BitVec.eq_of_toNat_eq
  rw [BitVec.toNat_ushiftRight, BitVec.toNat_ushiftRight, BitVec.toNat_ushiftRight, ← Nat.shiftRight_add]
theorem low_us (x : BitVec 32) (a : Nat) : (x >>> a).getLsbD 0 = x.getLsbD a := by
  rw [BitVec.getLsbD_ushiftRight, Nat.add_zero]
def plT : List Int := [0, 274646895, 549293790, 820201905, 1098587580, 1361435347, 1640403810, 1905808397, -2097792136, -1834419177, -1572096602, -1307217207, -1014159676, -741088853, -483350502, -210866315]
theorem nib_lo : ∀ n, n < 16 → sNv 4 (BitVec.ofNat 32 n) = BitVec.ofInt 32 (plT.getD n 0) := by decide +kernel
theorem nib_hi {x : BitVec 32} (h0 : x.getLsbD 0 = false) (h1 : x.getLsbD 1 = false) (h2 : x.getLsbD 2 = false) (h3 : x.getLsbD 3 = false) : sNv 4 x = x >>> 4 := by
  show s1v (s1v (s1v (s1v x))) = _
  rw [s1v_z h0, s1v_z (x := x >>> 1) (by rw [low_us]; exact h1), ush, s1v_z (x := x >>> (1 + 1)) (by rw [low_us]; exact h2), ush, s1v_z (x := x >>> (1 + 1 + 1)) (by rw [low_us]; exact h3), ush]
theorem nib_bit (y : BitVec 32) {i : Nat} (h : (15#32).getLsbD i = true) : (y ^^^ (y &&& 15#32)).getLsbD i = false := by
  rw [BitVec.getLsbD_xor, BitVec.getLsbD_and, h]
  cases y.getLsbD i <;> rfl
theorem nib_and (y : BitVec 32) : y &&& 15#32 = BitVec.ofNat 32 (y.toNat % 16) := by
  apply BitVec.eq_of_toNat_eq
  rw [BitVec.toNat_and, show (15#32 : BitVec 32).toNat = 2 ^ 4 - 1 from by decide, Nat.and_two_pow_sub_one_eq_mod, BitVec.toNat_ofNat]
  omega
theorem nib (y : BitVec 32) : sNv 4 y = (y >>> 4) ^^^ BitVec.ofInt 32 (plT.getD (y.toNat % 16) 0) := by
  have e : y = (y ^^^ (y &&& 15#32)) ^^^ (y &&& 15#32) := by rw [BitVec.xor_assoc, BitVec.xor_self, BitVec.xor_zero]
  have e1 : sNv 4 y = sNv 4 ((y ^^^ (y &&& 15#32)) ^^^ (y &&& 15#32)) := congrArg (sNv 4) e
  have e2 : (y &&& 15#32) >>> 4 = 0#32 := by
    rw [nib_and]
    apply BitVec.eq_of_toNat_eq
    rw [BitVec.toNat_ushiftRight, BitVec.toNat_ofNat, Nat.shiftRight_eq_div_pow, BitVec.toNat_ofNat]
    omega
  rw [e1, sNv_x, nib_hi (nib_bit y (by decide)) (nib_bit y (by decide)) (nib_bit y (by decide)) (nib_bit y (by decide)), BitVec.ushiftRight_xor_distrib, e2, BitVec.xor_zero]
  rw [show sNv 4 (y &&& 15#32) = BitVec.ofInt 32 (plT.getD (y.toNat % 16) 0) by rw [nib_and]; exact nib_lo _ (Nat.mod_lt _ (by decide))]

def pst (x v : Int) : Int := (sNv 8 (b32 x ^^^ b32 v)).toInt
def pRn (f : Int → Int) (p : Int) (k : Nat) (l : Int) : Int := itl (fun l p => pst l (u8 (f p))) 1 p k l

def POL0 (f : Int → Int) (a n : Int) : Int := xoI (pRn f a n.toNat (-1)) (-1)
theorem POL_x : ∃ g : (Int → Int) → Int → Int → Int, g = POL0 := ⟨_, rfl⟩
noncomputable def POL : (Int → Int) → Int → Int → Int := Classical.choose POL_x
theorem POL_e : POL = POL0 := Classical.choose_spec POL_x
theorem pRn_s {f : Int → Int} {p l l2 p2_ : Int} {k k2 : Nat} (hk : k = k2 + 1) (hl : l2 = pst l (u8 (f p))) (hp : p2_ = p + 1) : pRn f p k l = pRn f p2_ k2 l2 := itl_s (g := fun l p => pst l (u8 (f p))) hk hl hp
theorem pRn_0 {f : Int → Int} {p l : Int} {k : Nat} (hk : k = 0) : pRn f p k l = l := itl_0 hk
theorem nibI {r t : Int} (h : plT.getD (andI r 15).toNat 0 = t) : b32 (xoI (usI r 4) t) = sNv 4 (b32 r) := by
  have e : (andI r 15).toNat = (b32 r).toNat % 16 := by
    have := nU_m r
    rw [andI_15, b32_n]
    omega
  rw [nib, b32_x, b32_us (n := 4) (by omega) rfl, ← e, h]
  rfl
theorem pol_c {f : Int → Int} {p r v t1 t2 : Int} (hv : f p = v) (h1 : plT.getD (andI (xoI r (v % 256)) 15).toNat 0 = t1) (h2 : plT.getD (andI (xoI (usI (xoI r (v % 256)) 4) t1) 15).toNat 0 = t2) : xoI (usI (xoI (usI (xoI r (v % 256)) 4) t1) 4) t2 = pst r (u8 (f p)) := by
  unfold pst
  refine inr_b (toI_inr _) ?_
  rw [nibI h2, nibI h1, b32_x, hv]
  rfl

def PBI (r v k x : Int) : Prop := b32 x = sNv k.toNat (b32 r ^^^ b32 v) ^^^ (b32 v >>> k.toNat)
theorem PBI_0 {r v : Int} : PBI r v 0 r := by
  show b32 r = (b32 r ^^^ b32 v) ^^^ (b32 v >>> 0)
  rw [BitVec.ushiftRight_zero, BitVec.xor_assoc, BitVec.xor_self, BitVec.xor_zero]
theorem PBI_e {r v k x : Int} (h : PBI r v k x) (hk : k = 8) (hx : inr x) (hv : 0 ≤ v ∧ v ≤ 255) : x = pst r v := by
  subst hk
  refine inr_b hx ?_
  have e : b32 v >>> (8 : Int).toNat = 0#32 := by
    apply BitVec.eq_of_toNat_eq
    rw [BitVec.toNat_ushiftRight, b32_n, Nat.shiftRight_eq_div_pow, BitVec.toNat_ofNat]
    have : nU v = v.toNat := by unfold nU; omega
    rw [this]
    show v.toNat / 256 = _
    omega
  have h : b32 x = sNv (8 : Int).toNat (b32 r ^^^ b32 v) ^^^ (b32 v >>> (8 : Int).toNat) := h
  rw [e, BitVec.xor_zero] at h
  exact h
theorem srI_d {v k : Int} (hv : 0 ≤ v ∧ v ≤ 255) (hk : 0 ≤ k ∧ k ≤ 7) : srI v k = v / p2 k := shr32 ⟨by omega, by omega⟩ (by omega)
theorem b32_sr {v k : Int} (hv : 0 ≤ v ∧ v ≤ 255) (hk : 0 ≤ k ∧ k ≤ 7) : b32 (srI v k) = b32 v >>> k.toNat := by
  apply BitVec.eq_of_toNat_eq
  have hp := p2_pos k
  have hq : 0 ≤ v / p2 k ∧ v / p2 k ≤ v := ⟨Int.ediv_nonneg hv.1 (by omega), Int.ediv_le_self _ hv.1⟩
  rw [srI_d hv hk, BitVec.toNat_ushiftRight, b32_n, b32_n, Nat.shiftRight_eq_div_pow]
  have e1 : nU v = v.toNat := by unfold nU; omega
  have e2 : nU (v / p2 k) = (v / p2 k).toNat := by unfold nU; omega
  rw [e1, e2]
  apply Int.ofNat_inj.mp
  rw [Int.toNat_of_nonneg hq.1, Int.natCast_ediv, Int.toNat_of_nonneg hv.1]
  rfl
theorem b32_a1 (z : Int) : b32 (andI z 1) = b32 z &&& 1#32 := by
  unfold andI b32
  rw [toI_of]
  rfl
theorem low_b (y : Int) : (b32 y).getLsbD 0 = decide (y % 2 = 1) := by
  have e : (b32 y).getLsbD 0 = decide ((b32 y).toNat % 2 = 1) := by
    show (b32 y).toNat.testBit 0 = _
    rw [Nat.testBit_zero]
  rw [e, b32_n]
  have := nU_m y
  by_cases c : y % 2 = 1
  · rw [decide_eq_true c, decide_eq_true (by omega)]
  · rw [decide_eq_false c, decide_eq_false (by omega)]
theorem s1v_bit (V : BitVec 32) : s1v (V ^^^ (V &&& 1#32)) = V >>> 1 := by
  have e : (V &&& 1#32) >>> 1 = 0#32 := by
    apply BitVec.eq_of_toNat_eq
    rw [BitVec.toNat_ushiftRight, BitVec.toNat_and, show (1#32).toNat = 2 ^ 1 - 1 from rfl, Nat.and_two_pow_sub_one_eq_mod, Nat.shiftRight_eq_div_pow, BitVec.toNat_ofNat]
    omega
  rw [s1v_z, BitVec.ushiftRight_xor_distrib, e, BitVec.xor_zero]
  rw [BitVec.getLsbD_xor, BitVec.getLsbD_and, show (1#32).getLsbD 0 = true by decide]
  cases V.getLsbD 0 <;> rfl
theorem PBI_w {r v k x : Int} {y : BitVec 32} (h : PBI r v k x) (hk : 0 ≤ k) (hy : y = s1v (b32 x ^^^ ((b32 v >>> k.toNat) &&& 1#32))) : y = sNv (k + 1).toNat (b32 r ^^^ b32 v) ^^^ (b32 v >>> (k + 1).toNat) := by
  have h : b32 x = _ := h
  rw [hy, h, BitVec.xor_assoc, s1v_x, s1v_bit, ush, show (k + 1).toNat = k.toNat + 1 by omega]
  rfl
def s1I (x : Int) : Int := (s1v (b32 x)).toInt
theorem b32_s1 (x : Int) : b32 (s1I x) = s1v (b32 x) := by
  unfold s1I b32
  rw [Int32.toBitVec_ofInt]
  exact BitVec.ofInt_toInt
theorem s1I_0 {x : Int} (h : andI x 1 = 0) : usI x 1 = s1I x := by
  refine inr_b (toI_inr _) ?_
  rw [s1v_z (by rw [low_b]; rw [andI_1] at h; exact decide_eq_false (by omega))]
  exact b32_us (by omega) rfl
theorem s1I_1 {x : Int} (h : andI x 1 ≠ 0) : xoI (usI x 1) (-2097792136) = s1I x := by
  refine inr_b (toI_inr _) ?_
  have e : (b32 x).getLsbD 0 = true := by rw [low_b]; rw [andI_1] at h; exact decide_eq_true (by omega)
  unfold s1v
  rw [e, b32_x, b32_us (n := 1) (by omega) rfl]
  rfl
theorem PBI_s {r v k x y : Int} (h : PBI r v k x) (hk : 0 ≤ k ∧ k ≤ 7) (hv : 0 ≤ v ∧ v ≤ 255) {k2 : Int} (ek : k2 = k + 1) (hy : y = s1I (xoI x (andI (srI v k) 1))) : PBI r v k2 y := by
  subst ek
  refine PBI_w h hk.1 ?_
  rw [hy, b32_s1, b32_x, b32_a1, b32_sr hv hk]
theorem low_x (x z : Int) : (b32 x ^^^ (b32 z &&& 1#32)).getLsbD 0 = (b32 (xoI x z)).getLsbD 0 := by
  rw [b32_x, BitVec.getLsbD_xor, BitVec.getLsbD_xor, BitVec.getLsbD_and, show (1#32).getLsbD 0 = true by decide, Bool.and_true]
theorem shr_x (x z : Int) : (b32 x ^^^ (b32 z &&& 1#32)) >>> 1 = b32 x >>> 1 := by
  have e : (b32 z &&& 1#32) >>> 1 = 0#32 := by
    apply BitVec.eq_of_toNat_eq
    rw [BitVec.toNat_ushiftRight, BitVec.toNat_and, show (1#32).toNat = 2 ^ 1 - 1 from rfl, Nat.and_two_pow_sub_one_eq_mod, Nat.shiftRight_eq_div_pow, BitVec.toNat_ofNat]
    omega
  rw [BitVec.ushiftRight_xor_distrib, e, BitVec.xor_zero]
theorem PBI_t0 {r v k x k2 : Int} (h : PBI r v k x) (hk : 0 ≤ k ∧ k ≤ 7) (hv : 0 ≤ v ∧ v ≤ 255) (ho : andI (xoI x (srI v k)) 1 = 0) (ek : k2 = k + 1) : PBI r v k2 (usI x 1) := by
  subst ek
  refine PBI_w h hk.1 ?_
  rw [← b32_sr hv hk, s1v_z (by rw [low_x, low_b]; rw [andI_1] at ho; exact decide_eq_false (by omega)), shr_x]
  exact b32_us (by omega) rfl
theorem PBI_t1 {r v k x k2 : Int} (h : PBI r v k x) (hk : 0 ≤ k ∧ k ≤ 7) (hv : 0 ≤ v ∧ v ≤ 255) (ho : andI (xoI x (srI v k)) 1 ≠ 0) (ek : k2 = k + 1) : PBI r v k2 (xoI (usI x 1) (-2097792136)) := by
  subst ek
  refine PBI_w h hk.1 ?_
  have e : (b32 x ^^^ (b32 (srI v k) &&& 1#32)).getLsbD 0 = true := by rw [low_x, low_b]; rw [andI_1] at ho; exact decide_eq_true (by omega)
  rw [← b32_sr hv hk]
  unfold s1v
  rw [e, shr_x, b32_x, b32_us (n := 1) (by omega) rfl]
  rfl

def PRI (f : Int → Int) (a e p r : Int) : Prop := pRn f a (e - a).toNat (-1) = pRn f p (e - p).toNat r
theorem PRI_0 {f : Int → Int} {a e : Int} : PRI f a e a (-1) := rfl
theorem PRI_s {f : Int → Int} {a e p r p1 r1 : Int} (h : PRI f a e p r) (hp : p < e) (hr : r1 = pst r (u8 (f p))) (e1 : p1 = p + 1) : PRI f a e p1 r1 := Eq.trans h (pRn_s (by omega) hr e1)
theorem PRI_e {f : Int → Int} {a e p r : Int} (h : PRI f a e p r) (hp : e ≤ p) : xoI r (-1) = POL f a (e - a) := by
  rw [POL_e]; unfold POL0
  rw [show pRn f a (e - a).toNat (-1) = _ from h, pRn_0 (k := (e - p).toNat) (by omega)]
def PXI (f : Int → Int) (a e p k x : Int) : Prop := ∃ r, PRI f a e p r ∧ PBI r (f p) k x
theorem PXI_0 {f : Int → Int} {a e p r : Int} (h : PRI f a e p r) : PXI f a e p 0 r := ⟨r, h, PBI_0⟩
theorem PXI_t0 {f : Int → Int} {a e p k x k2 o : Int} (h : PXI f a e p k x) (hk : 0 ≤ k ∧ k ≤ 7) (hv : 0 ≤ f p ∧ f p ≤ 255) (e1 : o = andI (xoI x (srI (f p) k)) 1) (ho : o = 0) (ek : k2 = k + 1) : PXI f a e p k2 (usI x 1) := by
  obtain ⟨r, h1, h2⟩ := h
  exact ⟨r, h1, PBI_t0 h2 hk hv (by omega) ek⟩
theorem PXI_t1 {f : Int → Int} {a e p k x k2 o : Int} (h : PXI f a e p k x) (hk : 0 ≤ k ∧ k ≤ 7) (hv : 0 ≤ f p ∧ f p ≤ 255) (e1 : o = andI (xoI x (srI (f p) k)) 1) (ho : o ≠ 0) (ek : k2 = k + 1) : PXI f a e p k2 (xoI (usI x 1) (-2097792136)) := by
  obtain ⟨r, h1, h2⟩ := h
  exact ⟨r, h1, PBI_t1 h2 hk hv (by omega) ek⟩
theorem PXI_e {f : Int → Int} {a e p k x p1 : Int} (h : PXI f a e p k x) (hk : k = 8) (hx : inr x) (hv : 0 ≤ f p ∧ f p ≤ 255) (hp : p < e) (e1 : p1 = p + 1) : PRI f a e p1 x := by
  obtain ⟨r, h1, h2⟩ := h
  exact PRI_s h1 hp (by rw [u8_id hv]; exact PBI_e h2 hk hx hv) e1


end
section
/-! 17s -/
def TRh (fl : Int) (H C : List Int) (fst : Int) : List Int := H ++ (if andI fl 32 = 0 then C.drop fst.toNat else [])
def TRss (fl : Int) : Int := if andI fl 16 = 0 then 0 else 4

def TRk (I : Int → Int) (p m ss : Int) : Prop := ss = 0 ∨ nvl I (p + 4 + m) 4 = NSM I (p + 4) m 0 % 4294967296
def TRs (I : Int → Int) (N most fl bm fst : Int) (H : List Int) (s t : Int × List Int) : Prop := ∃ w m X, s.1 + 4 ≤ N ∧ w = nvl I s.1 4 ∧ w ≠ 0 ∧ m = w % 2147483648 ∧ m ≤ bm ∧ s.1 + 4 + m + TRss fl ≤ N ∧ TRk I s.1 m (TRss fl) ∧ t = (s.1 + 4 + m + TRss fl, s.2 ++ X) ∧
  (2147483648 ≤ w ∧ m ≤ most - (s.2.length : Int) ∧ X = sc I (s.1 + 4) (s.1 + 4 + m) ∨ w < 2147483648 ∧ ∃ pl, TBR I (s.1 + 4 + m) (s.1 + 4) (TRh fl H s.2 fst) (most - (s.2.length : Int)) (0, pl, TRh fl H s.2 fst ++ X))
def TRf (I : Int → Int) (N most fl bm fst : Int) (H : List Int) (p : Int) (C : List Int) (w m : Int) (R : Int × Int × Int × List Int) : Prop :=
  (bm < m ∧ R = (7, p, 0, [])) ∨ (m ≤ bm ∧ N < p + 4 + m + TRss fl ∧ R = (1, N, 0, [])) ∨ (m ≤ bm ∧ p + 4 + m + TRss fl ≤ N ∧ (
    (¬ TRk I p m (TRss fl) ∧ R = (8, p + 4 + m, 0, [])) ∨ (TRk I p m (TRss fl) ∧ (
      (2147483648 ≤ w ∧ most - (C.length : Int) < m ∧ R = (3, p + 4 + (most - (C.length : Int)), 0, [])) ∨
      (w < 2147483648 ∧ ∃ f pl V, f ≠ 0 ∧ TBR I (p + 4 + m) (p + 4) (TRh fl H C fst) (most - (C.length : Int)) (f, pl, V) ∧ R = ((if f = 1 then 9 else f), pl, 0, []))))))
def TRe (I : Int → Int) (N most fl bm fst : Int) (H : List Int) (s : Int × List Int) (R : Int × Int × Int × List Int) : Prop :=
  (N < s.1 + 4 ∧ R = (1, N, 0, [])) ∨ (s.1 + 4 ≤ N ∧ ∃ w m, w = nvl I s.1 4 ∧ m = w % 2147483648 ∧ ((w = 0 ∧ R = (0, 0, s.1 + 4, s.2)) ∨ (w ≠ 0 ∧ TRf I N most fl bm fst H s.1 s.2 w m R)))
theorem TRs_det {I : Int → Int} {N most fl bm fst : Int} {H : List Int} (s t u : Int × List Int) (h : TRs I N most fl bm fst H s t) (k : TRs I N most fl bm fst H s u) : t = u := by
  obtain ⟨w, m, X, a1, a2, a3, a4, a5, a6, a7, a8, a9⟩ := h
  obtain ⟨w', m', X', b1, b2, b3, b4, b5, b6, b7, b8, b9⟩ := k
  rw [← a2] at b2
  subst b2
  rw [← a4] at b4
  subst b4
  have e : X = X' := by
    rcases a9 with ⟨x, y, z⟩ | ⟨x, pl, y⟩ <;> rcases b9 with ⟨x', y', z'⟩ | ⟨x', pl', y'⟩
    · rw [z, z']
    · omega
    · omega
    · have := TBR_det y y'
      exact List.append_cancel_left (congrArg (fun q : Int × Int × List Int => q.2.2) this)
  subst e
  rw [a8, b8]
theorem TRf_det {I : Int → Int} {N most fl bm fst p w m : Int} {H C : List Int} {R R2 : Int × Int × Int × List Int} (h : TRf I N most fl bm fst H p C w m R) (k : TRf I N most fl bm fst H p C w m R2) : R = R2 := by
  rcases h with ⟨x1, x2⟩ | ⟨x1, x2, x3⟩ | ⟨x1, x2, h⟩ <;> rcases k with ⟨y1, y2⟩ | ⟨y1, y2, y3⟩ | ⟨y1, y2, k⟩ <;> first | (exfalso; omega) | (rw [x2, y2]) | (rw [x3, y3]) | skip
  rcases h with ⟨x3, x4⟩ | ⟨x3, h⟩ <;> rcases k with ⟨y3, y4⟩ | ⟨y3, k⟩
  · rw [x4, y4]
  · exact absurd y3 x3
  · exact absurd x3 y3
  · rcases h with ⟨x4, x5, x6⟩ | ⟨x4, f, pl, V, x5, x6, x7⟩ <;> rcases k with ⟨y4, y5, y6⟩ | ⟨y4, f', pl', V', y5, y6, y7⟩
    · rw [x6, y6]
    · omega
    · omega
    · have e := TBR_det x6 y6
      have ef : f = f' := congrArg (fun q : Int × Int × List Int => q.1) e
      have ep : pl = pl' := congrArg (fun q : Int × Int × List Int => q.2.1) e
      rw [x7, y7, ef, ep]
theorem TRe_det {I : Int → Int} {N most fl bm fst : Int} {H : List Int} (s : Int × List Int) (R R2 : Int × Int × Int × List Int) (h : TRe I N most fl bm fst H s R) (k : TRe I N most fl bm fst H s R2) : R = R2 := by
  rcases h with ⟨x1, x2⟩ | ⟨x1, w, m, x2, x3, h⟩ <;> rcases k with ⟨y1, y2⟩ | ⟨y1, w', m', y2, y3, k⟩
  · rw [x2, y2]
  · omega
  · omega
  · rw [← x2] at y2
    subst y2
    rw [← x3] at y3
    subst y3
    rcases h with ⟨x4, x5⟩ | ⟨x4, h⟩ <;> rcases k with ⟨y4, y5⟩ | ⟨y4, k⟩
    · rw [x5, y5]
    · exact absurd x4 y4
    · exact absurd y4 x4
    · exact TRf_det h k
theorem TRse {I : Int → Int} {N most fl bm fst : Int} {H : List Int} (s t : Int × List Int) (R : Int × Int × Int × List Int) (h : TRs I N most fl bm fst H s t) : ¬ TRe I N most fl bm fst H s R := fun k => by
  obtain ⟨w, m, X, a1, a2, a3, a4, a5, a6, a7, a8, a9⟩ := h
  rcases k with ⟨y1, y2⟩ | ⟨y1, w', m', y2, y3, k⟩
  · omega
  · rw [← a2] at y2
    subst y2
    rw [← a4] at y3
    subst y3
    rcases k with ⟨y4, _⟩ | ⟨_, k⟩
    · exact a3 y4
    · rcases k with ⟨y1, y2⟩ | ⟨y1, y2, y3⟩ | ⟨y1, y2, k⟩
      · omega
      · omega
      · rcases k with ⟨y3, _⟩ | ⟨_, k⟩
        · exact y3 a7
        · rcases k with ⟨y4, y5, _⟩ | ⟨y4, f, pl, V, y5, y6, _⟩
          · rcases a9 with ⟨x, y, z⟩ | ⟨x, pl, y⟩ <;> omega
          · rcases a9 with ⟨x, y, z⟩ | ⟨x, pl2, y⟩
            · omega
            · exact y5 (congrArg (fun q : Int × Int × List Int => q.1) (TBR_det y6 y))

def TRB (I : Int → Int) (N most fl bm fst : Int) (H : List Int) (p : Int) (C : List Int) (R : Int × Int × Int × List Int) : Prop := IT (TRs I N most fl bm fst H) (TRe I N most fl bm fst H) (p, C) R
theorem TRB_det {I : Int → Int} {N most fl bm fst p : Int} {H C : List Int} {R R2 : Int × Int × Int × List Int} (h : TRB I N most fl bm fst H p C R) (k : TRB I N most fl bm fst H p C R2) : R = R2 := IT_det TRs_det TRe_det TRse h k

def TFl (fl : Int) : Prop := (64 ≤ fl ∧ fl < 128) ∧ andI fl 2 = 0
def THe (p fl : Int) : Int := p + 6 + (if andI fl 8 = 0 then 0 else 8) + (if andI fl 1 = 0 then 0 else 4)
noncomputable def THs (I : Int → Int) (p he : Int) : Int := NSM I (p + 4) (he - (p + 4)) 0 % 4294967296 / 256 % 256
def THd (I : Int → Int) (N p f pl fl bm : Int) : Prop :=
  (N < p + 5 ∧ f = 1 ∧ pl = N) ∨ (p + 5 ≤ N ∧ ((¬ TFl (I (p + 4)) ∧ f = 5 ∧ pl = p + 4) ∨ (TFl (I (p + 4)) ∧ ((N < p + 6 ∧ f = 1 ∧ pl = N) ∨ (p + 6 ≤ N ∧ (
    ((I (p + 5) % 16 ≠ 0 ∨ I (p + 5) / 16 < 4 ∨ 7 < I (p + 5) / 16) ∧ f = 5 ∧ pl = p + 5) ∨ (I (p + 5) % 16 = 0 ∧ 4 ≤ I (p + 5) / 16 ∧ I (p + 5) / 16 ≤ 7 ∧ (
      (N ≤ THe p (I (p + 4)) ∧ f = 1 ∧ pl = N) ∨ (THe p (I (p + 4)) < N ∧ (
        (I (THe p (I (p + 4))) ≠ THs I p (THe p (I (p + 4))) ∧ f = 6 ∧ pl = THe p (I (p + 4))) ∨
        (I (THe p (I (p + 4))) = THs I p (THe p (I (p + 4))) ∧ f = 0 ∧ pl = THe p (I (p + 4)) + 1 ∧ fl = I (p + 4) ∧ bm = p2 (8 + 2 * (I (p + 5) / 16)))))))))))))
theorem THd_det {I : Int → Int} {N p f pl fl bm f2 pl2 fl2 bm2 : Int} (h : THd I N p f pl fl bm) (k : THd I N p f2 pl2 fl2 bm2) : f = f2 ∧ pl = pl2 ∧ (f = 0 → fl = fl2 ∧ bm = bm2) := by
  rcases h with ⟨a, b, c⟩ | ⟨a, h⟩ <;> rcases k with ⟨a', b', cₚ⟩ | ⟨a', k⟩ <;> try omega
  rcases h with ⟨a, b, c⟩ | ⟨a, h⟩ <;> rcases k with ⟨a', b', cₚ⟩ | ⟨a', k⟩ <;> first | omega | exact absurd a' a | exact absurd a a' | skip
  all_goals (rcases h with ⟨a, b, c⟩ | ⟨a, h⟩ <;> rcases k with ⟨a', b', cₚ⟩ | ⟨a', k⟩ <;> try omega)
  all_goals (rcases h with ⟨a, b, c⟩ | ⟨a, b, c, h⟩ <;> rcases k with ⟨a', b', cₚ⟩ | ⟨a', b', cₚ, k⟩ <;> try omega)
  all_goals (rcases h with ⟨a, b, c⟩ | ⟨a, h⟩ <;> rcases k with ⟨a', b', cₚ⟩ | ⟨a', k⟩ <;> try omega)
  all_goals (rcases h with ⟨a, b, c⟩ | ⟨a, b, c, d, e⟩ <;> rcases k with ⟨a', b', cₚ⟩ | ⟨a', b', cₚ, d', e'⟩)
  all_goals first | omega | exact absurd a' a | exact absurd a a' | exact ⟨by omega, by omega, fun _ => ⟨by omega, by rw [e, e']⟩⟩

def TEs (I : Int → Int) (p fst : Int) (C : List Int) : Prop := nvl I p 4 = NSL (C.drop fst.toNat) 0 % 4294967296
def TEn (I : Int → Int) (N p0 fst fl p : Int) (C : List Int) (f pl : Int) : Prop :=
  (andI fl 4 ≠ 0 ∧ N < p + 4 ∧ f = 1 ∧ pl = N) ∨ (andI fl 4 ≠ 0 ∧ p + 4 ≤ N ∧ ¬ TEs I p fst C ∧ f = 10 ∧ pl = p) ∨
  (∃ q, (andI fl 4 = 0 ∧ q = p ∨ andI fl 4 ≠ 0 ∧ p + 4 ≤ N ∧ TEs I p fst C ∧ q = p + 4) ∧ ((andI fl 8 ≠ 0 ∧ nvl I (p0 + 6) 8 ≠ (C.length : Int) - fst ∧ f = 11 ∧ pl = p0 + 6) ∨ ((andI fl 8 = 0 ∨ nvl I (p0 + 6) 8 = (C.length : Int) - fst) ∧ f = 0 ∧ pl = q)))
theorem TEn_det {I : Int → Int} {N p0 fst fl p f pl f2 pl2 : Int} {C : List Int} (h : TEn I N p0 fst fl p C f pl) (k : TEn I N p0 fst fl p C f2 pl2) : f = f2 ∧ pl = pl2 := by
  rcases h with ⟨a, b, c, d⟩ | ⟨a, b, c, d, e⟩ | ⟨q, a, b⟩
  · rcases k with ⟨a', b', cₚ, d'⟩ | ⟨a', b', cₚ, d', e'⟩ | ⟨qₚ, a', b'⟩
    · exact ⟨by omega, by omega⟩
    · omega
    · rcases a' with ⟨x, y⟩ | ⟨x, y, z, w⟩
      · exact absurd x a
      · omega
  · rcases k with ⟨a', b', cₚ, d'⟩ | ⟨a', b', cₚ, d', e'⟩ | ⟨qₚ, a', b'⟩
    · omega
    · exact ⟨by omega, by omega⟩
    · rcases a' with ⟨x, y⟩ | ⟨x, y, z, w⟩
      · exact absurd x a
      · exact absurd z c
  · rcases k with ⟨a', b', cₚ, d'⟩ | ⟨a', b', cₚ, d', e'⟩ | ⟨qₚ, a', b'⟩
    · rcases a with ⟨x, y⟩ | ⟨x, y, z, w⟩
      · exact absurd x a'
      · omega
    · rcases a with ⟨x, y⟩ | ⟨x, y, z, w⟩
      · exact absurd x a'
      · exact absurd z cₚ
    · have e : q = qₚ := by rcases a with ⟨x, y⟩ | ⟨x, y, z, w⟩ <;> rcases a' with ⟨x', y'⟩ | ⟨x', y', z', w'⟩ <;> omega
      rcases b with ⟨x, y, z, w⟩ | ⟨x, z, w⟩ <;> rcases b' with ⟨x', y', z', w'⟩ | ⟨x', z', w'⟩ <;> omega

def TFr (I : Int → Int) (N most : Int) (H : List Int) (p : Int) (C : List Int) (R : Int × Int × Int × List Int) : Prop := ∃ f pl fl bm, THd I N p f pl fl bm ∧ ((f ≠ 0 ∧ R = (f, pl, 0, [])) ∨ (f = 0 ∧ ∃ f1 pl1 p1 C1, TRB I N most fl bm (C.length : Int) H pl C (f1, pl1, p1, C1) ∧ ((f1 ≠ 0 ∧ R = (f1, pl1, 0, [])) ∨ (f1 = 0 ∧ ∃ f2 pl2, TEn I N p (C.length : Int) fl p1 C1 f2 pl2 ∧ ((f2 ≠ 0 ∧ R = (f2, pl2, 0, [])) ∨ (f2 = 0 ∧ R = (0, 0, pl2, C1)))))))
theorem TFr_det {I : Int → Int} {N most p : Int} {H C : List Int} {R R2 : Int × Int × Int × List Int} (h : TFr I N most H p C R) (k : TFr I N most H p C R2) : R = R2 := by
  obtain ⟨f, pl, fl, bm, a, h⟩ := h
  obtain ⟨f', pl', fl', bm', a', k⟩ := k
  obtain ⟨e1, e2, e3⟩ := THd_det a a'
  subst e1 e2
  rcases h with ⟨x, y⟩ | ⟨x, f1, pl1, p1, C1, y, h⟩ <;> rcases k with ⟨x', y'⟩ | ⟨x', f1', pl1', p1', C1', y', k⟩
  · rw [y, y']
  · exact absurd x' x
  · exact absurd x x'
  · obtain ⟨e4, e5⟩ := e3 x
    subst e4 e5
    have e := TRB_det y y'
    have q1 : f1 = f1' := congrArg (fun q : Int × Int × Int × List Int => q.1) e
    have q2 : pl1 = pl1' := congrArg (fun q : Int × Int × Int × List Int => q.2.1) e
    have q3 : p1 = p1' := congrArg (fun q : Int × Int × Int × List Int => q.2.2.1) e
    have q4 : C1 = C1' := congrArg (fun q : Int × Int × Int × List Int => q.2.2.2) e
    subst q1 q2 q3 q4
    rcases h with ⟨z, w⟩ | ⟨z, f2, pl2, w, h⟩ <;> rcases k with ⟨z', w'⟩ | ⟨z', f2', pl2', w', k⟩
    · rw [w, w']
    · exact absurd z' z
    · exact absurd z z'
    · obtain ⟨q1, q2⟩ := TEn_det w w'
      subst q1 q2
      rcases h with ⟨u, v⟩ | ⟨u, v⟩ <;> rcases k with ⟨u', v'⟩ | ⟨u', v'⟩
      · rw [v, v']
      · exact absurd u' u
      · exact absurd u u'
      · rw [v, v']

def SPm (w : Int) : Prop := 407710288 ≤ w ∧ w ≤ 407710303
def TAs (I : Int → Int) (N most : Int) (H : List Int) (s t : Int × List Int) : Prop := s.1 < N ∧ s.1 + 4 ≤ N ∧ ((SPm (nvl I s.1 4) ∧ s.1 + 8 ≤ N ∧ s.1 + 8 + nvl I (s.1 + 4) 4 ≤ N ∧ t = (s.1 + 8 + nvl I (s.1 + 4) 4, s.2)) ∨ (nvl I s.1 4 = 407708164 ∧ ∃ q C, TFr I N most H s.1 s.2 (0, 0, q, C) ∧ t = (q, C)))
def TAe (I : Int → Int) (N most : Int) (H : List Int) (s : Int × List Int) (R : Int × Int × List Int) : Prop := (N ≤ s.1 ∧ R = (0, N, s.2)) ∨ (s.1 < N ∧ ((N < s.1 + 4 ∧ R = (1, N, [])) ∨ (s.1 + 4 ≤ N ∧ ((SPm (nvl I s.1 4) ∧ (N < s.1 + 8 ∨ N < s.1 + 8 + nvl I (s.1 + 4) 4) ∧ R = (1, N, [])) ∨ (¬ SPm (nvl I s.1 4) ∧ nvl I s.1 4 ≠ 407708164 ∧ R = (4, s.1, [])) ∨ (nvl I s.1 4 = 407708164 ∧ ∃ f pl, f ≠ 0 ∧ TFr I N most H s.1 s.2 (f, pl, 0, []) ∧ R = (f, pl, []))))))
theorem TAs_det {I : Int → Int} {N most : Int} {H : List Int} (s t u : Int × List Int) (h : TAs I N most H s t) (k : TAs I N most H s u) : t = u := by
  obtain ⟨_, _, h⟩ := h
  obtain ⟨_, _, k⟩ := k
  rcases h with ⟨a, b, c, d⟩ | ⟨a, q, C, b, d⟩ <;> rcases k with ⟨a', b', cₚ, d'⟩ | ⟨a', qₚ, C', b', d'⟩
  · rw [d, d']
  · unfold SPm at a; omega
  · unfold SPm at a'; omega
  · have e := TFr_det b b'
    have q3 : q = qₚ := congrArg (fun q : Int × Int × Int × List Int => q.2.2.1) e
    have q4 : C = C' := congrArg (fun q : Int × Int × Int × List Int => q.2.2.2) e
    rw [d, d', q3, q4]
theorem TAe_det {I : Int → Int} {N most : Int} {H : List Int} (s : Int × List Int) (R R2 : Int × Int × List Int) (h : TAe I N most H s R) (k : TAe I N most H s R2) : R = R2 := by
  rcases h with ⟨a, b⟩ | ⟨a, h⟩ <;> rcases k with ⟨a', b'⟩ | ⟨a', k⟩ <;> first | (exfalso; omega) | (rw [b, b']) | skip
  rcases h with ⟨a, b⟩ | ⟨a, h⟩ <;> rcases k with ⟨a', b'⟩ | ⟨a', k⟩ <;> first | (exfalso; omega) | (rw [b, b']) | skip
  rcases h with ⟨a, b, c⟩ | ⟨a, b, c⟩ | ⟨a, f, pl, b, c, d⟩ <;> rcases k with ⟨a', b', cₚ⟩ | ⟨a', b', cₚ⟩ | ⟨a', f', pl', b', cₚ, d'⟩
  · rw [c, cₚ]
  · exact absurd a a'
  · unfold SPm at a; omega
  · exact absurd a' a
  · rw [c, cₚ]
  · omega
  · unfold SPm at a'; omega
  · omega
  · have e := TFr_det c cₚ
    have q1 : f = f' := congrArg (fun q : Int × Int × Int × List Int => q.1) e
    have q2 : pl = pl' := congrArg (fun q : Int × Int × Int × List Int => q.2.1) e
    rw [d, d', q1, q2]
theorem TAse {I : Int → Int} {N most : Int} {H : List Int} (s t : Int × List Int) (R : Int × Int × List Int) (h : TAs I N most H s t) : ¬ TAe I N most H s R := fun k => by
  obtain ⟨h1, h2, h⟩ := h
  rcases k with ⟨a', b'⟩ | ⟨a', k⟩
  · omega
  · rcases k with ⟨a', b'⟩ | ⟨a', k⟩
    · omega
    · rcases h with ⟨a, b, c, d⟩ | ⟨a, q, C, b, d⟩ <;> rcases k with ⟨a', b', cₚ⟩ | ⟨a', b', cₚ⟩ | ⟨a', f', pl', b', cₚ, d'⟩
      · omega
      · exact a' a
      · unfold SPm at a; omega
      · unfold SPm at a'; omega
      · omega
      · have e := TFr_det cₚ b
        exact b' (congrArg (fun q : Int × Int × Int × List Int => q.1) e)

def RDF (I : Int → Int) (N : Int) (H : List Int) (most ret pl n : Int) (g : Int → Int) : Prop := ∃ f V, IT (TAs I N most H) (TAe I N most H) (0, []) (f, pl, V) ∧ (f = 0 ∧ ret = n ∧ 0 ≤ n ∧ sc g 0 n = V ∨ 1 ≤ f ∧ ret = -f)
theorem RDF_det {I : Int → Int} {N most ret pl n ret2 pl2 n2 : Int} {H : List Int} {g g2 : Int → Int} (h : RDF I N H most ret pl n g) (k : RDF I N H most ret2 pl2 n2 g2) : ret = ret2 ∧ pl = pl2 ∧ (0 ≤ ret → n = n2 ∧ sc g 0 n = sc g2 0 n2) := by
  obtain ⟨f, V, a, b⟩ := h
  obtain ⟨f2, V2, a2, b2⟩ := k
  have e1 := IT_det TAs_det TAe_det TAse a a2
  have ef : f = f2 := congrArg (fun q : Int × Int × List Int => q.1) e1
  have ep : pl = pl2 := congrArg (fun q : Int × Int × List Int => q.2.1) e1
  have eV : V = V2 := congrArg (fun q : Int × Int × List Int => q.2.2) e1
  subst ef ep eV
  rcases b with ⟨x, y, z, u⟩ | ⟨x, y⟩ <;> rcases b2 with ⟨x2, y2, z2, u2⟩ | ⟨x2, y2⟩
  · have es : sc g 0 n = sc g2 0 n2 := u.trans u2.symm
    have l1 := sc_lenI (f := g) z
    have l2 := sc_lenI (f := g2) z2
    rw [es] at l1
    exact ⟨by omega, rfl, fun _ => ⟨by omega, es⟩⟩
  · omega
  · omega
  · exact ⟨by omega, rfl, fun q => by omega⟩

theorem nvl_n {f : Int → Int} {a : Int} : 0 ≤ nvl f a 4 ∧ nvl f a 4 < 4294967296 := by
  have := nvl_rng (f := f) (n := 4) (a := a)
  rw [show p2 (8 * ((4 : Nat) : Int)) = 4294967296 by decide] at this
  exact this
theorem nvl_n8 {f : Int → Int} {a : Int} : 0 ≤ nvl f a 8 ∧ nvl f a 8 < 18446744073709551616 := by
  have := nvl_rng (f := f) (n := 8) (a := a)
  rw [show p2 (8 * ((8 : Nat) : Int)) = 18446744073709551616 by decide] at this
  exact this
theorem ld_eq {f : Int → Int} {a r c : Int} (hr : r = ldJ f a) (hc : 0 ≤ c ∧ c < 9223372036854775808) : r = c ↔ nvl f a 8 = c := by
  have h1 := w64_r (nvl f a 8)
  have h2 := w64_inr (nvl f a 8)
  have h3 := nvl_n8 (f := f) (a := a)
  unfold ldJ at hr
  constructor <;> intro h <;> omega
theorem wd_n {f : Int → Int} {a : Int} : wdI f a % 4294967296 = nvl f a 4 := wdI_m.symm
theorem wd_inr {f : Int → Int} {a : Int} : inr (wdI f a) := toI_inr _
theorem TRss_0 {fl : Int} (h : andI fl 16 = 0) : TRss fl = 0 := if_pos h
theorem TRss_4 {fl : Int} (h : andI fl 16 ≠ 0) : TRss fl = 4 := if_neg h
theorem TRss_r (fl : Int) : 0 ≤ TRss fl := by unfold TRss; split <;> omega
theorem sc_dr {f : Int → Int} {n a : Int} (h0 : 0 ≤ a) (h1 : a ≤ n) : (sc f 0 n).drop a.toNat = sc f a n := by
  rw [sc_cat (b := a) h0 h1, List.drop_append_of_le_length (by rw [sc_len]; omega), List.drop_eq_nil_of_le (by rw [sc_len]; omega), List.nil_append]
theorem TRh_0 {fl fst : Int} {H C : List Int} (h : andI fl 32 = 0) : TRh fl H C fst = H ++ C.drop fst.toNat := by unfold TRh; rw [if_pos h]
theorem TRh_1 {fl fst : Int} {H C : List Int} (h : andI fl 32 ≠ 0) : TRh fl H C fst = H := by unfold TRh; rw [if_neg h, List.append_nil]

theorem TRh_w {fl a k n : Int} {H W : List Int} {f : Int → Int} (hW : W = H ++ sc f a k) (h0 : 0 ≤ a ∧ a ≤ n) (hx : k = n ∧ andI fl 32 = 0 ∨ k = a ∧ (andI fl 32 ≠ 0 ∨ a = n)) : W = TRh fl H (sc f 0 n) a := by
  rcases hx with ⟨x, y⟩ | ⟨x, y⟩
  · rw [TRh_0 y, sc_dr h0.1 h0.2, hW, x]
  · rw [hW, x, sc_nil (Int.le_refl a), List.append_nil]
    by_cases z : andI fl 32 = 0
    · have e : a = n := by
        rcases y with y | y
        · exact absurd z y
        · exact y
      rw [TRh_0 z, sc_dr h0.1 h0.2, e, sc_nil (Int.le_refl n), List.append_nil]
    · rw [TRh_1 z]
section TRr
variable {I : Int → Int} {N most fl bm fst p w m f pl : Int} {H C : List Int}
theorem TRf_7 (h : bm < m) (hf : f = 7) (hp : pl = p) : TRf I N most fl bm fst H p C w m (f, pl, 0, []) := by
  subst hf hp
  exact .inl ⟨h, rfl⟩
theorem TRf_1 (h : m ≤ bm) (hN : N < p + 4 + m + TRss fl) (hf : f = 1) (hp : pl = N) : TRf I N most fl bm fst H p C w m (f, pl, 0, []) := by
  subst hf hp
  exact .inr (.inl ⟨h, hN, rfl⟩)
theorem TRf_8 (h : m ≤ bm) (hN : p + 4 + m + TRss fl ≤ N) (hs : andI fl 16 ≠ 0) {q x y : Int} (hq : q = p + 4 + m) (hx : x = nvl I q 4) (hy : y = NSM I (p + 4) m 0 % 4294967296) (hn : x ≠ y) (hf : f = 8) (hp : pl = q) : TRf I N most fl bm fst H p C w m (f, pl, 0, []) := by
  subst hf hp hq
  refine .inr (.inr ⟨h, hN, .inl ⟨fun k => ?_, rfl⟩⟩)
  rcases k with k | k
  · rw [TRss_4 hs] at k; omega
  · exact hn (by rw [hx, hy]; exact k)
theorem TRk_y {q x y : Int} (hq : q = p + 4 + m) (hx : x = nvl I q 4) (hy : y = NSM I (p + 4) m 0 % 4294967296) (hn : x = y) {ss : Int} : TRk I p m ss := by
  subst hq
  exact .inr (by rw [← hx, ← hy]; exact hn)
theorem TRf_3 (h : m ≤ bm) (hN : p + 4 + m + TRss fl ≤ N) (hk : TRk I p m (TRss fl)) (hw : 2147483648 ≤ w) (hr : most - (C.length : Int) < m) (hf : f = 3) (hp : pl = p + 4 + (most - (C.length : Int))) : TRf I N most fl bm fst H p C w m (f, pl, 0, []) := by
  subst hf hp
  exact .inr (.inr ⟨h, hN, .inr ⟨hk, .inl ⟨hw, hr, rfl⟩⟩⟩)
theorem TRf_b (h : m ≤ bm) (hN : p + 4 + m + TRss fl ≤ N) (hk : TRk I p m (TRss fl)) (hw : w < 2147483648) {e b r : Int} {W V : List Int} (he : e = p + 4 + m) (hb : b = p + 4) (hW : W = TRh fl H C fst) (hr : r = most - (C.length : Int)) {g : Int} (hB : TBR I e b W r (g, pl, V)) (hg : g ≠ 0) (hf : g = 1 ∧ f = 9 ∨ g ≠ 1 ∧ f = g) : TRf I N most fl bm fst H p C w m (f, pl, 0, []) := by
  subst he hb hW hr
  refine .inr (.inr ⟨h, hN, .inr ⟨hk, .inr ⟨hw, g, pl, V, hg, hB, ?_⟩⟩⟩)
  rcases hf with ⟨x, y⟩ | ⟨x, y⟩
  · rw [if_pos x, y]
  · rw [if_neg x, y]
theorem TRs_p {q : Int} {C2 : List Int} (h1 : p + 4 ≤ N) (hw : w = nvl I p 4) (h0 : w ≠ 0) (hm : m = w % 2147483648) (h : m ≤ bm) (hq : q = p + 4 + m + TRss fl) (hN : q ≤ N) (hk : TRk I p m (TRss fl)) (h2 : 2147483648 ≤ w) (hr : m ≤ most - (C.length : Int)) {a b : Int} (ha : a = p + 4) (hb : b = p + 4 + m) (hC : C2 = C ++ sc I a b) : TRs I N most fl bm fst H (p, C) (q, C2) := by
  subst hC hq ha hb
  exact ⟨w, m, _, h1, hw, h0, hm, h, hN, hk, rfl, .inl ⟨h2, hr, rfl⟩⟩
theorem TRs_b {q : Int} {C2 X : List Int} (h1 : p + 4 ≤ N) (hw : w = nvl I p 4) (h0 : w ≠ 0) (hm : m = w % 2147483648) (h : m ≤ bm) (hq : q = p + 4 + m + TRss fl) (hN : q ≤ N) (hk : TRk I p m (TRss fl)) (h2 : w < 2147483648) {e b r : Int} {W V : List Int} (he : e = p + 4 + m) (hb : b = p + 4) (hW : W = TRh fl H C fst) (hr : r = most - (C.length : Int)) (hB : TBR I e b W r (0, pl, V)) (hV : V = W ++ X) (hC : C2 = C ++ X) : TRs I N most fl bm fst H (p, C) (q, C2) := by
  subst hC hq he hb hW hr hV
  exact ⟨w, m, X, h1, hw, h0, hm, h, hN, hk, rfl, .inr ⟨h2, pl, hB⟩⟩
theorem TRe_1 (h : N < p + 4) (hf : f = 1) (hp : pl = N) : TRe I N most fl bm fst H (p, C) (f, pl, 0, []) := by
  subst hf hp
  exact .inl ⟨h, rfl⟩
theorem TRe_0 {q : Int} (h : p + 4 ≤ N) (hw : w = nvl I p 4) (h0 : w = 0) (hq : q = p + 4) : TRe I N most fl bm fst H (p, C) (0, 0, q, C) := by
  subst hq
  exact .inr ⟨h, w, _, hw, rfl, .inl ⟨h0, rfl⟩⟩
theorem TRe_f {R : Int × Int × Int × List Int} (h : p + 4 ≤ N) (hw : w = nvl I p 4) (h0 : w ≠ 0) (hm : m = w % 2147483648) (k : TRf I N most fl bm fst H p C w m R) : TRe I N most fl bm fst H (p, C) R := .inr ⟨h, w, m, hw, hm, .inr ⟨h0, k⟩⟩

theorem THd_1 (h : N < p + 5) (hf : f = 1) (hp : pl = N) : THd I N p f pl fl bm := .inl ⟨h, hf, hp⟩
theorem THd_5 {q v : Int} (h : p + 5 ≤ N) (hq : q = p + 4) (hv : I q = v) (hn : ¬ TFl v) (hf : f = 5) (hp : pl = q) : THd I N p f pl fl bm := by
  subst hq hv
  exact .inr ⟨h, .inl ⟨hn, hf, hp⟩⟩
theorem THd_2 {q v : Int} (h : p + 5 ≤ N) (hq : q = p + 4) (hv : I q = v) (hn : TFl v) (h2 : N < p + 6) (hf : f = 1) (hp : pl = N) : THd I N p f pl fl bm := by
  subst hq hv
  exact .inr ⟨h, .inr ⟨hn, .inl ⟨h2, hf, hp⟩⟩⟩
theorem THd_6 {q v q2 u : Int} (hq : q = p + 4) (hv : I q = v) (hn : TFl v) (h2 : p + 6 ≤ N) (hq2 : q2 = p + 5) (hu : I q2 = u) (hb : u % 16 ≠ 0 ∨ u / 16 < 4 ∨ 7 < u / 16) (hf : f = 5) (hp : pl = q2) : THd I N p f pl fl bm := by
  subst hq hv hq2 hu
  exact .inr ⟨by omega, .inr ⟨hn, .inr ⟨h2, .inl ⟨hb, hf, hp⟩⟩⟩⟩

def THq (I : Int → Int) (N p v u : Int) : Prop := I (p + 4) = v ∧ TFl v ∧ p + 6 ≤ N ∧ I (p + 5) = u ∧ u % 16 = 0 ∧ 4 ≤ u / 16 ∧ u / 16 ≤ 7
theorem THq_i {q v q2 u : Int} (hq : q = p + 4) (hv : I q = v) (hn : TFl v) (h2 : p + 6 ≤ N) (hq2 : q2 = p + 5) (hu : I q2 = u) (hb : u % 16 = 0 ∧ 4 ≤ u / 16 ∧ u / 16 ≤ 7) : THq I N p v u := by
  subst hq hq2
  exact ⟨hv, hn, h2, hu, hb.1, hb.2.1, hb.2.2⟩
theorem THd_7 {v u he : Int} (h : THq I N p v u) (hh : he = THe p v) (hN : N ≤ he) (hf : f = 1) (hp : pl = N) : THd I N p f pl fl bm := by
  obtain ⟨a, b, c, d, e1, e2, e3⟩ := h
  subst a d hh
  exact .inr ⟨by omega, .inr ⟨b, .inr ⟨c, .inr ⟨e1, e2, e3, .inl ⟨hN, hf, hp⟩⟩⟩⟩⟩
theorem THd_8 {v u he x s : Int} (h : THq I N p v u) (hh : he = THe p v) (hN : he < N) (hx : I he = x) (hs : s = THs I p he) (hn : x ≠ s) (hf : f = 6) (hp : pl = he) : THd I N p f pl fl bm := by
  obtain ⟨a, b, c, d, e1, e2, e3⟩ := h
  subst a d hh hx hs
  exact .inr ⟨by omega, .inr ⟨b, .inr ⟨c, .inr ⟨e1, e2, e3, .inr ⟨hN, .inl ⟨hn, hf, hp⟩⟩⟩⟩⟩⟩
theorem THd_0 {v u he x s : Int} (h : THq I N p v u) (hh : he = THe p v) (hN : he < N) (hx : I he = x) (hs : s = THs I p he) (hn : x = s) (hf : f = 0) (hp : pl = he + 1) (hfl : fl = v) (hbm : bm = p2 (8 + 2 * (u / 16))) : THd I N p f pl fl bm := by
  obtain ⟨a, b, c, d, e1, e2, e3⟩ := h
  subst a d hh hx hs
  exact .inr ⟨by omega, .inr ⟨b, .inr ⟨c, .inr ⟨e1, e2, e3, .inr ⟨hN, .inr ⟨hn, hf, hp, hfl, hbm⟩⟩⟩⟩⟩⟩
variable {f1 pl1 p1 f2 pl2 : Int} {C1 : List Int}
theorem TFr_h (h : THd I N p f pl fl bm) (hf : f ≠ 0) : TFr I N most H p C (f, pl, 0, []) := ⟨f, pl, fl, bm, h, .inl ⟨hf, rfl⟩⟩
theorem TFr_b (h : THd I N p 0 pl fl bm) (hc : fst = (C.length : Int)) (k : TRB I N most fl bm fst H pl C (f1, pl1, p1, C1)) (hf : f1 ≠ 0) : TFr I N most H p C (f1, pl1, 0, []) := by
  subst hc
  exact ⟨0, pl, fl, bm, h, .inr ⟨rfl, f1, pl1, p1, C1, k, .inl ⟨hf, rfl⟩⟩⟩
theorem TFr_e (h : THd I N p 0 pl fl bm) (hc : fst = (C.length : Int)) (k : TRB I N most fl bm fst H pl C (0, pl1, p1, C1)) (q : TEn I N p fst fl p1 C1 f2 pl2) (hf : f2 ≠ 0) : TFr I N most H p C (f2, pl2, 0, []) := by
  subst hc
  exact ⟨0, pl, fl, bm, h, .inr ⟨rfl, 0, pl1, p1, C1, k, .inr ⟨rfl, f2, pl2, q, .inl ⟨hf, rfl⟩⟩⟩⟩
theorem TFr_y (h : THd I N p 0 pl fl bm) (hc : fst = (C.length : Int)) (k : TRB I N most fl bm fst H pl C (0, pl1, p1, C1)) (q : TEn I N p fst fl p1 C1 f2 pl2) (hf : f2 = 0) : TFr I N most H p C (0, 0, pl2, C1) := by
  subst hc hf
  exact ⟨0, pl, fl, bm, h, .inr ⟨rfl, 0, pl1, p1, C1, k, .inr ⟨rfl, 0, pl2, q, .inr ⟨rfl, rfl⟩⟩⟩⟩

def TEq (I : Int → Int) (N fst fl p : Int) (C : List Int) (q : Int) : Prop := andI fl 4 = 0 ∧ q = p ∨ andI fl 4 ≠ 0 ∧ p + 4 ≤ N ∧ TEs I p fst C ∧ q = p + 4
variable {p0 : Int}
theorem TEn_1 (h : andI fl 4 ≠ 0) (hN : N < p + 4) (hf : f = 1) (hp : pl = N) : TEn I N p0 fst fl p C f pl := .inl ⟨h, hN, hf, hp⟩
theorem TEn_10 (h : andI fl 4 ≠ 0) (hN : p + 4 ≤ N) {x y : Int} (hx : x = nvl I p 4) (hy : y = NSL (C.drop fst.toNat) 0 % 4294967296) (hn : x ≠ y) (hf : f = 10) (hp : pl = p) : TEn I N p0 fst fl p C f pl := .inr (.inl ⟨h, hN, fun z => hn (by rw [hx, hy]; exact z), hf, hp⟩)
theorem TEq_y {q : Int} (h : andI fl 4 ≠ 0) (hN : p + 4 ≤ N) {x y : Int} (hx : x = nvl I p 4) (hy : y = NSL (C.drop fst.toNat) 0 % 4294967296) (hn : x = y) (hq : q = p + 4) : TEq I N fst fl p C q := .inr ⟨h, hN, by unfold TEs; rw [← hx, ← hy]; exact hn, hq⟩
theorem TEn_11 {q s : Int} (k : TEq I N fst fl p C q) (h : andI fl 8 ≠ 0) (hs : s = p0 + 6) (hn : nvl I s 8 ≠ (C.length : Int) - fst) (hf : f = 11) (hp : pl = s) : TEn I N p0 fst fl p C f pl := by
  subst hs
  exact .inr (.inr ⟨q, k, .inl ⟨h, hn, hf, hp⟩⟩)
theorem TEn_0 {q s : Int} (k : TEq I N fst fl p C q) (h : andI fl 8 = 0 ∨ s = p0 + 6 ∧ nvl I s 8 = (C.length : Int) - fst) (hf : f = 0) (hp : pl = q) : TEn I N p0 fst fl p C f pl := by
  refine .inr (.inr ⟨q, k, .inr ⟨?_, hf, hp⟩⟩)
  rcases h with h | ⟨h, h2⟩
  · exact .inl h
  · subst h; exact .inr h2

theorem TAs_s {n q : Int} (h : p + 4 ≤ N) (hs : SPm (nvl I p 4)) (h8 : p + 8 ≤ N) (hn : n = nvl I (p + 4) 4) (hq : q = p + 8 + n) (hN : q ≤ N) : TAs I N most H (p, C) (q, C) := by
  subst hn hq
  exact ⟨by show p < N; omega, h, .inl ⟨hs, h8, hN, rfl⟩⟩
theorem TAs_f {q : Int} (h : p + 4 ≤ N) (hm : nvl I p 4 = 407708164) (k : TFr I N most H p C (0, 0, q, C1)) : TAs I N most H (p, C) (q, C1) := ⟨by show p < N; omega, h, .inr ⟨hm, q, C1, k, rfl⟩⟩
theorem TAe_0 (h : N ≤ p) (hf : f = 0) (hp : pl = N) : TAe I N most H (p, C) (f, pl, C) := by
  subst hf hp
  exact .inl ⟨h, rfl⟩
theorem TAe_1 (h0 : p < N) (h : N < p + 4) (hf : f = 1) (hp : pl = N) : TAe I N most H (p, C) (f, pl, []) := by
  subst hf hp
  exact .inr ⟨h0, .inl ⟨h, rfl⟩⟩
theorem TAe_s (h : p + 4 ≤ N) (hs : SPm (nvl I p 4)) (h8 : N < p + 8 ∨ N < p + 8 + nvl I (p + 4) 4) (hf : f = 1) (hp : pl = N) : TAe I N most H (p, C) (f, pl, []) := by
  subst hf hp
  exact .inr ⟨by show p < _; omega, .inr ⟨h, .inl ⟨hs, h8, rfl⟩⟩⟩
theorem TAe_4 (h : p + 4 ≤ N) (hs : ¬ SPm (nvl I p 4)) (hm : nvl I p 4 ≠ 407708164) (hf : f = 4) (hp : pl = p) : TAe I N most H (p, C) (f, pl, []) := by
  subst hf hp
  exact .inr ⟨by show pl < N; omega, .inr ⟨h, .inr (.inl ⟨hs, hm, rfl⟩)⟩⟩
theorem TAe_f (h : p + 4 ≤ N) (hm : nvl I p 4 = 407708164) (hf : f ≠ 0) (k : TFr I N most H p C (f, pl, 0, [])) : TAe I N most H (p, C) (f, pl, []) := .inr ⟨by show p < N; omega, .inr ⟨h, .inr (.inr ⟨hm, f, pl, hf, k, rfl⟩)⟩⟩
end TRr
theorem nmb_4b {d : Int → Int} {a n r : Int} (h : r = nmb d a n n.toNat) (hn : n = 4) (hr : inrJ r) : 0 ≤ r ∧ r ≤ 4294967295 := by
  subst hn
  have h1 := nmb_4 h hr
  have h2 := nvl_n (f := d) (a := a)
  omega


end
section
/-! 17t -/
theorem ub8_r (f : Int → Int) (i : Int) : 0 ≤ ub8 f i ∧ ub8 f i ≤ 255 := u8_rng _
theorem nvl_ub {f : Int → Int} {a : Int} {n : Nat} : nvl (ub8 f) a n = nvl f a n := nvl_congr (fun i _ _ => u8_id (u8_rng _))
theorem NSM_ub {f : Int → Int} {a n s : Int} (hn : 0 ≤ n) : NSM (ub8 f) a n s = NSM f a n s := NSM_congr hn (fun i _ _ => u8_id (u8_rng _))
theorem ldJ_ub {f : Int → Int} {a : Int} : ldJ (ub8 f) a = ldJ f a := by unfold ldJ; rw [nvl_ub]
theorem ub_eq {f : Int → Int} {p v w : Int} (h : f p = v) (hw : w = v % 256) : ub8 f p = w := by
  show u8 (f p) = w
  rw [h, hw]
  rfl
theorem andI_m31 (a : Int) : andI a 2147483647 = a % 2147483648 := by
  have e : (Int32.ofInt a &&& Int32.ofInt 2147483647).toBitVec.toNat = (Int32.ofInt a).toBitVec.toNat % 2147483648 := by
    show ((Int32.ofInt a).toBitVec &&& (Int32.ofInt 2147483647).toBitVec).toNat = _
    rw [BitVec.toNat_and, show (Int32.ofInt 2147483647).toBitVec.toNat = 2 ^ 31 - 1 from by decide, Nat.and_two_pow_sub_one_eq_mod]
  have e2 := nU_m a
  rw [← nU_of] at e2
  unfold andI
  show (Int32.ofInt a &&& Int32.ofInt 2147483647).toBitVec.toInt = _
  rw [BitVec.toInt_eq_toNat_of_lt (by rw [e]; omega), e]
  omega
theorem m16_bit : ∀ i, i < 32 → (4294967280#32).getLsbD i = decide (4 ≤ i) := by decide +kernel
theorem m16_v (y : BitVec 32) : y &&& 4294967280#32 = (y >>> 4) <<< 4 := by
  apply BitVec.eq_of_getLsbD_eq
  intro i hi
  rw [BitVec.getLsbD_and, m16_bit i hi, BitVec.getLsbD_shiftLeft]
  by_cases h : 4 ≤ i
  · rw [decide_eq_true h, Bool.and_true, BitVec.getLsbD_ushiftRight, show 4 + (i - 4) = i by omega, decide_eq_true hi, decide_eq_false (by omega)]
    rfl
  · rw [decide_eq_false h, Bool.and_false, decide_eq_true (show i < 4 by omega)]
    simp
theorem andI_m16 {x : Int} (hx : inr x) : andI x (-16) = x - x % 16 := by
  have e : (Int32.ofInt x &&& Int32.ofInt (-16)).toBitVec = ((b32 x) >>> 4) <<< 4 := by
    rw [← m16_v]
    rfl
  have e2 : b32 (x - x % 16) = ((b32 x) >>> 4) <<< 4 := by
    apply BitVec.eq_of_toNat_eq
    rw [b32_n, BitVec.toNat_shiftLeft, BitVec.toNat_ushiftRight, b32_n, Nat.shiftRight_eq_div_pow, Nat.shiftLeft_eq]
    have h1 := nU_m x
    have h2 := nU_m (x - x % 16)
    omega
  have e3 : Int32.ofInt x &&& Int32.ofInt (-16) = Int32.ofInt (x - x % 16) := Int32.toBitVec_inj.mp (e.trans e2.symm)
  unfold andI
  rw [e3]
  exact toI_ofI (by omega)

def SPQ (f : Int → Int) (a e r : Int) : Prop := r = 1 ∧ a + 4 ≤ e ∧ SPm (nvl f a 4) ∨ r = 0 ∧ (e < a + 4 ∨ ¬ SPm (nvl f a 4))
theorem SPQ_n {f : Int → Int} {a e : Int} (h : e < a + 4) : SPQ f a e 0 := .inr ⟨rfl, .inl h⟩
theorem SPQ_y {f : Int → Int} {a e w z : Int} (h : a + 4 ≤ e) (hw : w = wdI f a) (hz : andI w (-16) = z) (hy : z = 407710288) : SPQ f a e 1 := by
  have h1 := wd_n (f := f) (a := a)
  have h2 := wd_inr (f := f) (a := a)
  rw [← hw] at h1 h2
  rw [andI_m16 h2] at hz
  refine .inl ⟨rfl, h, ?_⟩
  unfold SPm
  omega
theorem SPQ_z {f : Int → Int} {a e w z : Int} (hw : w = wdI f a) (hz : andI w (-16) = z) (hy : z ≠ 407710288) : SPQ f a e 0 := by
  have h1 := wd_n (f := f) (a := a)
  have h2 := wd_inr (f := f) (a := a)
  rw [← hw] at h1 h2
  rw [andI_m16 h2] at hz
  refine .inr ⟨rfl, .inr ?_⟩
  unfold SPm
  omega
def ASQ (f : Int → Int) (a e r : Int) : Prop := r = -1 ∧ (e < a + 8 ∨ e < a + 8 + nvl f (a + 4) 4) ∨ r = a + 8 + nvl f (a + 4) 4 ∧ r ≤ e ∧ a + 8 ≤ e
theorem aflB {v : Int} (h : 0 ≤ v ∧ v ≤ 255) : andI v (-62) = 64 ↔ TFl v := by
  have k : ∀ n : Fin 256, (andI (n.val : Int) (-62) = 64 ↔ ((64 ≤ (n.val : Int) ∧ (n.val : Int) < 128) ∧ andI (n.val : Int) 2 = 0)) := by decide +kernel
  have := k ⟨v.toNat, by omega⟩
  rw [show ((v.toNat : Nat) : Int) = v by omega] at this
  exact this
theorem and15b {x v : Int} (h : -128 ≤ x ∧ x ≤ 127) (hv : v = x % 256) : andI x 15 = v % 16 := by rw [andI_15]; omega
theorem TRh_v {fl a b n : Int} {H W : List Int} {f : Int → Int} (hW : W = H ++ sc f b n) (h0 : 0 ≤ a ∧ a ≤ n) (hx : b = a ∧ andI fl 32 = 0 ∨ b = n ∧ andI fl 32 ≠ 0) : W = TRh fl H (sc f 0 n) a := by
  rcases hx with ⟨x, y⟩ | ⟨x, y⟩
  · rw [TRh_0 y, sc_dr h0.1 h0.2, hW, x]
  · rw [TRh_1 y, hW, x, sc_nil (Int.le_refl n), List.append_nil]
theorem wdm {f : Int → Int} {a x : Int} (h : x = wdI f a) : x % 4294967296 = nvl (ub8 f) a 4 := by rw [h, nvl_ub]; exact wd_n


end
section
/-! 17u -/
def bC (nr f : Int) : Int := if nr = 1 ∧ 4 ≤ f ∧ f ≤ 11 then 2 else 3
theorem bC_eq (nr f : Int) : (nr = 1 ∧ 4 ≤ f ∧ f ≤ 11) ∧ bC nr f = 2 ∨ ¬(nr = 1 ∧ 4 ≤ f ∧ f ≤ 11) ∧ bC nr f = 3 := by
  unfold bC
  split
  · exact .inl ⟨by assumption, rfl⟩
  · exact .inr ⟨by assumption, rfl⟩
def cfw (nr l : Int) : Int := if nr = 1 ∧ 4 ≤ l then (if 3 * ((l + 63) / 64) ≤ 2 + 3 * (((if l ≤ 11 then 0 else l - 11) + 63) / 64) then 3 * ((l + 63) / 64) else 2 + 3 * (((if l ≤ 11 then 0 else l - 11) + 63) / 64)) else 3 * ((l + 63) / 64)
theorem cfw_eq (nr l : Int) : (¬(nr = 1 ∧ 4 ≤ l) ∧ cfw nr l = 3 * ((l + 63) / 64)) ∨ ((nr = 1 ∧ 4 ≤ l) ∧ ∃ x, (l ≤ 11 ∧ x = 0 ∨ 11 < l ∧ x = l - 11) ∧ (3 * ((l + 63) / 64) ≤ 2 + 3 * ((x + 63) / 64) ∧ cfw nr l = 3 * ((l + 63) / 64) ∨ 2 + 3 * ((x + 63) / 64) < 3 * ((l + 63) / 64) ∧ cfw nr l = 2 + 3 * ((x + 63) / 64))) := by
  unfold cfw
  by_cases h : nr = 1 ∧ 4 ≤ l
  · rw [if_pos h]
    obtain ⟨x, hx⟩ : ∃ x, x = (if l ≤ 11 then 0 else l - 11) := ⟨_, rfl⟩
    rw [← hx]
    refine .inr ⟨h, x, ?_, ?_⟩
    · rw [hx]; split <;> omega
    · split
      · exact .inl ⟨by assumption, rfl⟩
      · exact .inr ⟨by omega, rfl⟩
  · rw [if_neg h]
    exact .inl ⟨h, rfl⟩
theorem cfw_0 (nr : Int) : cfw nr 0 = 0 := by
  rcases cfw_eq nr 0 with ⟨_, h⟩ | ⟨h, _⟩ <;> omega
theorem cfw_le {nr l f : Int} (h1 : 1 ≤ f) (h2 : f ≤ 64) (h3 : f ≤ l) : cfw nr l ≤ bC nr f + cfw nr (l - f) := by
  have a := bC_eq nr f
  rcases cfw_eq nr l with ⟨x1, x2⟩ | ⟨x1, x, x2, x3⟩ <;> rcases cfw_eq nr (l - f) with ⟨y1, y2⟩ | ⟨y1, y, y2, y3⟩ <;> omega
theorem cfw_ex {nr l : Int} (h : 1 ≤ l) : ∃ f, 1 ≤ f ∧ f ≤ 64 ∧ f ≤ l ∧ bC nr f + cfw nr (l - f) = cfw nr l := by
  have q : ∀ f, 1 ≤ f → f ≤ 64 → f ≤ l → bC nr f + cfw nr (l - f) ≤ cfw nr l → ∃ f, 1 ≤ f ∧ f ≤ 64 ∧ f ≤ l ∧ bC nr f + cfw nr (l - f) = cfw nr l := fun f a b c d => ⟨f, a, b, c, Int.le_antisymm d (cfw_le a b c)⟩
  have hM : ∃ m, m = (if l < 64 then l else 64) := ⟨_, rfl⟩
  obtain ⟨m, hm⟩ := hM
  have hm2 : l < 64 ∧ m = l ∨ 64 ≤ l ∧ m = 64 := by rw [hm]; split <;> omega
  have a := bC_eq nr m
  rcases cfw_eq nr l with ⟨x1, x2⟩ | ⟨x1, x, x2, x3⟩
  · refine q m (by omega) (by omega) (by omega) ?_
    rcases cfw_eq nr (l - m) with ⟨y1, y2⟩ | ⟨y1, y, y2, y3⟩ <;> omega
  · rcases x3 with ⟨x3, x4⟩ | ⟨x3, x4⟩
    · refine q m (by omega) (by omega) (by omega) ?_
      rcases cfw_eq nr (l - m) with ⟨y1, y2⟩ | ⟨y1, y, y2, y3⟩ <;> omega
    · obtain ⟨k, hk⟩ : ∃ k, l ≤ 11 ∧ k = l ∨ 11 < l ∧ k = 11 := by
        by_cases z : l ≤ 11
        · exact ⟨l, .inl ⟨z, rfl⟩⟩
        · exact ⟨11, .inr ⟨by omega, rfl⟩⟩
      have b := bC_eq nr k
      refine q k (by omega) (by omega) (by omega) ?_
      rcases cfw_eq nr (l - k) with ⟨y1, y2⟩ | ⟨y1, y, y2, y3⟩ <;> omega

def fcn (nr l : Int) : Nat → Int
  | 0 => 1
  | k + 1 => if bC nr ((k : Int) + 1) + cfw nr (l - ((k : Int) + 1)) = cfw nr l then (k : Int) + 1 else fcn nr l k
theorem fcn_y {nr l n : Int} (h : 1 ≤ n) (e : bC nr n + cfw nr (l - n) = cfw nr l) : fcn nr l n.toNat = n := by
  rw [show n.toNat = (n - 1).toNat + 1 by omega]
  show (if bC nr (((n - 1).toNat : Int) + 1) + cfw nr (l - (((n - 1).toNat : Int) + 1)) = cfw nr l then (((n - 1).toNat : Int) + 1) else fcn nr l (n - 1).toNat) = n
  rw [show (((n - 1).toNat : Int) + 1) = n by omega, if_pos e]
theorem fcn_n {nr l n m : Int} (h : 1 ≤ n) (e : bC nr n + cfw nr (l - n) ≠ cfw nr l) (hm : m = n - 1) : fcn nr l n.toNat = fcn nr l m.toNat := by
  subst hm
  rw [show n.toNat = (n - 1).toNat + 1 by omega]
  show (if bC nr (((n - 1).toNat : Int) + 1) + cfw nr (l - (((n - 1).toNat : Int) + 1)) = cfw nr l then (((n - 1).toNat : Int) + 1) else fcn nr l (n - 1).toNat) = _
  rw [show (((n - 1).toNat : Int) + 1) = n by omega, if_neg e]
theorem fcn_1 {nr l : Int} : fcn nr l 1 = 1 := by
  show (if bC nr (((0 : Nat) : Int) + 1) + cfw nr (l - (((0 : Nat) : Int) + 1)) = cfw nr l then (((0 : Nat) : Int) + 1) else 1) = 1
  split <;> rfl
theorem fcn_r {nr l : Int} : ∀ {k : Nat}, 1 ≤ fcn nr l k ∧ (fcn nr l k = 1 ∨ fcn nr l k ≤ k)
  | 0 => ⟨by show (1 : Int) ≤ 1; decide, .inl rfl⟩
  | k + 1 => by
    have ih := fcn_r (nr := nr) (l := l) (k := k)
    show 1 ≤ (if bC nr ((k : Int) + 1) + cfw nr (l - ((k : Int) + 1)) = cfw nr l then (k : Int) + 1 else fcn nr l k) ∧ _
    by_cases c : bC nr ((k : Int) + 1) + cfw nr (l - ((k : Int) + 1)) = cfw nr l
    · have e : fcn nr l (k + 1) = (k : Int) + 1 := if_pos c
      rw [if_pos c, e]
      omega
    · have e : fcn nr l (k + 1) = fcn nr l k := if_neg c
      rw [if_neg c, e]
      omega
def m64 (l : Int) : Int := if l < 64 then l else 64
def fcl (nr l : Int) : Int := fcn nr l (m64 l).toNat
theorem fcl_r {nr l : Int} (h : 1 ≤ l) : 1 ≤ fcl nr l ∧ fcl nr l ≤ l ∧ fcl nr l ≤ 64 := by
  have := fcn_r (nr := nr) (l := l) (k := (m64 l).toNat)
  unfold fcl
  have e : l < 64 ∧ m64 l = l ∨ 64 ≤ l ∧ m64 l = 64 := by unfold m64; split <;> omega
  omega

def tgp (nr d n : Int) : List Int := if nr = 1 ∧ 4 ≤ n ∧ n ≤ 11 then [1 + 4 * (n - 4 + 8 * (d / 256))] ++ [d % 256] else [2 + 4 * (n - 1)] ++ nb d 2
def tgcF (nr d : Int) : Nat → Int → List Int
  | 0, _ => []
  | k + 1, l => if l ≤ 0 then [] else tgp nr d (fcl nr l) ++ tgcF nr d k (l - fcl nr l)
theorem tgcF_z {nr d l : Int} {k : Nat} (h : l ≤ 0) : tgcF nr d k l = [] := by
  cases k with
  | zero => rfl
  | succ k => exact if_pos h
theorem tgcF_k {nr d : Int} : ∀ {k j : Nat} {l : Int}, l ≤ k → l ≤ j → tgcF nr d k l = tgcF nr d j l
  | 0, j, l, h1, h2 => by rw [tgcF_z (k := j) (show l ≤ 0 from h1)]; rfl
  | k + 1, 0, l, h1, h2 => by rw [tgcF_z (k := k + 1) (show l ≤ 0 from h2)]; rfl
  | k + 1, j + 1, l, h1, h2 => by
    show (if l ≤ 0 then [] else tgp nr d (fcl nr l) ++ tgcF nr d k (l - fcl nr l)) = (if l ≤ 0 then [] else tgp nr d (fcl nr l) ++ tgcF nr d j (l - fcl nr l))
    by_cases z : l ≤ 0
    · rw [if_pos z, if_pos z]
    · have := fcl_r (nr := nr) (l := l) (by omega)
      rw [if_neg z, if_neg z, tgcF_k (k := k) (j := j) (by omega) (by omega)]

def tgc (nr d l : Int) : List Int := tgcF nr d l.toNat l
theorem tgc_0 {nr d l : Int} (h : l ≤ 0) : tgc nr d l = [] := tgcF_z h
theorem tgc_s {nr d l n m : Int} (h : 0 < l) (hn : n = fcl nr l) (hm : m = l - n) : tgc nr d l = tgp nr d n ++ tgc nr d m := by
  have := fcl_r (nr := nr) (l := l) (by omega)
  subst hn hm
  unfold tgc
  rw [show l.toNat = (l - 1).toNat + 1 by omega]
  show (if l ≤ 0 then [] else tgp nr d (fcl nr l) ++ tgcF nr d (l - 1).toNat (l - fcl nr l)) = _
  rw [if_neg (by omega), tgcF_k (k := (l - 1).toNat) (j := (l - fcl nr l).toNat) (by omega) (by omega)]

def tgh (n : Int) : List Int := if n ≤ 60 then [4 * (n - 1)] else if n ≤ 256 then [240] ++ nb (n - 1) 1 else [244] ++ nb (n - 1) 2
def tgl (L : List Int) : List Int := if L = [] then [] else tgh (L.length : Int) ++ L
theorem tgl_0 : tgl [] = [] := if_pos rfl
theorem tgl_s {f : Int → Int} {a b n : Int} (h : 0 < n) (hn : n = b - a) : tgl (sc f a b) = tgh n ++ sc f a b := by
  have l := sc_lenI (f := f) (show a ≤ b by omega)
  unfold tgl
  rw [if_neg (fun e => by rw [e] at l; have : ((([] : List Int).length : Nat) : Int) = 0 := rfl; omega), l, ← hn]

def vlr (n : Int) : List Int := if n < 128 then [n] else if n < 16384 then [n % 128 + 128] ++ [n / 128] else [n % 128 + 128] ++ ([n / 128 % 128 + 128] ++ [n / 16384])
theorem vlr_0 {n : Int} (h : n < 128) : vlr n = [n] := if_pos h
theorem vlr_s {n m : Int} (h : 128 ≤ n ∧ n < 2097152) (hm : m = n / 128) : vlr n = [n % 128 + 128] ++ vlr m := by
  subst hm
  unfold vlr
  rw [if_neg (by omega)]
  by_cases c : n < 16384
  · rw [if_pos c, if_pos (by omega)]
  · rw [if_neg c, if_neg (by omega), if_pos (by omega), show n / 128 / 128 = n / 16384 by omega]
def ner (d : Int) : Int := if d < 2048 then 1 else 0
theorem ner_eq (d : Int) : d < 2048 ∧ ner d = 1 ∨ 2048 ≤ d ∧ ner d = 0 := by unfold ner; split <;> omega
noncomputable def tgE (d : Int → Int) : Int → List (Int × Int × Int) → Int → List Int
  | s, [], t => tgl (sc d s (s + t))
  | s, (a, b, c) :: S, t => (tgl (sc d s (s + a)) ++ tgc (ner c) c b) ++ tgE d (s + a + b) S t

def TGB (way : Int) (L out : List Int) : Prop := ∃ S t, GOS (MTL (ap L) (L.length : Int) 65535 4 way ((L.length : Int) - 4)) (L.length : Int) 0 0 S t ∧ out = vlr (L.length : Int) ++ tgE (ap L) 0 S t
theorem TGB_det {way : Int} {L o1 o2 : List Int} (a : TGB way L o1) (b : TGB way L o2) : o1 = o2 := by
  obtain ⟨S, t, h1, e1⟩ := a
  obtain ⟨S2, t2, h2, e2⟩ := b
  have := GOS_det (M := MTL (ap L) (L.length : Int) 65535 4 way ((L.length : Int) - 4)) (fun p n1 d1 n2 d2 x y => MTL_det (by omega) x y) h1 h2
  rw [e1, e2, this.1, this.2]
theorem tgE_c {M : Int → Int → Int → Prop} {f : Int → Int} {n : Int} : ∀ {S : List (Int × Int × Int)} {p s t : Int}, 0 ≤ s → s ≤ p → GOS M n p s S t → tgE (ap (sc f 0 n)) s S t = tgE f s S t
  | [], p, s, t, h0, hs, h => by
    show tgl (sc _ s (s + t)) = tgl (sc _ s (s + t))
    rw [sc_ap h0 (by have := h.2.1; omega)]
  | (a, b, d) :: S, p, s, t, h0, hs, h => by
    obtain ⟨h1, h3, h4, h5, h6, h7⟩ := h
    show (tgl (sc _ s (s + a)) ++ _) ++ _ = (tgl (sc _ s (s + a)) ++ _) ++ _
    rw [sc_ap h0 (by omega), tgE_c (by omega) (Int.le_refl _) h7]
theorem TGB_of {f : Int → Int} {way n t e w l ls m : Int} {S : List (Int × Int × Int)} (hf : BYI f) (hn : 0 ≤ n) (k : GOS (MTL f e w l way ls) m 0 0 S t) (hm : m = n) (he : e = n) (hw : w = 65535) (hl : l = 4) (hs : ls = n - 4) : TGB way (sc f 0 n) (vlr n ++ tgE f 0 S t) := by
  subst hw hl hs
  rw [hm, he] at k
  have e : ((sc f 0 n).length : Int) = n := by rw [sc_lenI hn]; omega
  refine ⟨S, t, ?_, ?_⟩
  · rw [e]
    exact GOS_c (fun p a b w => MTL_c (CEQ_ap hf (Int.le_refl n)) w) k
  · rw [e, tgE_c (Int.le_refl 0) (Int.le_refl 0) k]

theorem cpn_shf {g : Int → Int} {b : Int} : ∀ {m : Nat} {q p : Int}, cpn g (b + q) (b + p) m = cpn (shf g b) q p m
  | 0, q, p => rfl
  | m + 1, q, p => by
    show (if g (b + q) = g (b + p) then 1 + cpn g (b + q + 1) (b + p + 1) m else 0) = (if g (b + q) = g (b + p) then 1 + cpn (shf g b) (q + 1) (p + 1) m else 0)
    rw [show b + q + 1 = b + (q + 1) by omega, show b + p + 1 = b + (p + 1) by omega, cpn_shf]
theorem cpl_shf {g : Int → Int} {b q p e q2 p2_ e2 : Int} (hq : q2 = b + q) (hp : p2_ = b + p) (he : e2 = b + e) : cpl g q2 p2_ e2 = cpl (shf g b) q p e := by
  subst hq hp he
  unfold cpl
  rw [show b + e - (b + p) = e - p by omega, cpn_shf]
theorem sc_shf {g : Int → Int} {b a c : Int} : sc (shf g b) a c = sc g (b + a) (b + c) := by
  rw [sc_e]
  unfold sc0
  rw [show b + c - (b + a) = c - a by omega]
  refine List.map_congr_left (fun k _ => ?_)
  show u8 (g (b + (a + (k : Int)))) = u8 (g (b + a + (k : Int)))
  rw [Int.add_assoc]
theorem BYI_shf {g : Int → Int} {b : Int} (h : BYI g) : BYI (shf g b) := fun i j e => h _ _ e

theorem SCI_nr {f : Int → Int} {e w l p q n d : Int} (h : SCI f e w l 0 p q n d) (hx : n ≠ 0 ∨ q < 0 ∨ w < p - q) : NRQ f e w l p n d := by
  rcases h with ⟨_, h⟩ | ⟨a, _⟩ | ⟨a, _⟩
  · rcases h with ⟨a, h⟩ | ⟨_, h⟩
    · rw [a]; exact NRQ_n h (by omega)
    · exact h
  · omega
  · omega
theorem SCI_lg {f : Int → Int} {e w l p q n d : Int} (h : SCI f e w l 2 p q n d) (hl : 1 ≤ l) (hx : q < 0 ∨ w < p - q) : LGQ f e w l p n d := by
  rcases h with ⟨a, _⟩ | ⟨a, _⟩ | ⟨_, h⟩
  · omega
  · omega
  · exact LBQ_end h hl (by omega)
theorem NRQ_far {f : Int → Int} {e w k p n d : Int} (h : NRQ f e w k p n d) (hp : e < p + k) (hk : 1 ≤ k) : n = 0 := by
  rcases h with ⟨a, _⟩ | ⟨a, b, c, d1, x, _⟩
  · exact a
  · have := cpl_rng (f := f) (q := p - d) (p := p) (e := e)
    omega
theorem LGQ_far {f : Int → Int} {e w k p n d : Int} (h : LGQ f e w k p n d) (hp : e < p + k) (hk : 1 ≤ k) : n = 0 := by
  rcases h with ⟨a, _⟩ | ⟨a, b, c, d1, x, _⟩
  · exact a
  · have := cpl_rng (f := f) (q := p - d) (p := p) (e := e)
    omega

theorem MTG_0 {f : Int → Int} {e p n d : Int} (h : NRQ f e 65535 4 p n d) : MTL f e 65535 4 0 (e - 4) p n d := by
  by_cases c : p ≤ e - 4
  · exact .inl ⟨c, .inl ⟨by omega, h⟩⟩
  · exact .inr ⟨by omega, NRQ_far h (by omega) (by omega)⟩
theorem MTG_8 {f : Int → Int} {e p n d : Int} (h : NRQ f e 65535 8 p n d) (hn : n ≠ 0) : MTL f e 65535 4 1 (e - 4) p n d := by
  by_cases c : p ≤ e - 4
  · exact .inl ⟨c, .inr (.inl ⟨rfl, .inl ⟨hn, h⟩⟩)⟩
  · exact absurd (NRQ_far h (by omega) (by omega)) hn
theorem MTG_1 {f : Int → Int} {e p n d n8 d8 : Int} (h8 : NRQ f e 65535 8 p n8 d8) (h0 : n8 = 0) (h : NRQ f e 65535 4 p n d) : MTL f e 65535 4 1 (e - 4) p n d := by
  by_cases c : p ≤ e - 4
  · refine .inl ⟨c, .inr (.inl ⟨rfl, .inr ⟨?_, h⟩⟩)⟩
    rcases h8 with ⟨_, h8⟩ | ⟨a, _⟩
    · exact h8
    · omega
  · exact .inr ⟨by omega, NRQ_far h (by omega) (by omega)⟩
theorem MTG_2 {f : Int → Int} {e p n d : Int} (h : LGQ f e 65535 4 p n d) : MTL f e 65535 4 2 (e - 4) p n d := by
  by_cases c : p ≤ e - 4
  · exact .inl ⟨c, .inr (.inr (.inl ⟨rfl, h⟩))⟩
  · exact .inr ⟨by omega, LGQ_far h (by omega) (by omega)⟩
theorem MTG_3 {f : Int → Int} {e p p1 n d n1 d1 r : Int} (h : LGQ f e 65535 4 p n d) (h1 : LGQ f e 65535 4 p1 n1 d1) (hp : p1 = p + 1) (hn : 0 ≤ n) (hr : n < n1 ∧ r = 0 ∨ n1 ≤ n ∧ r = n) : MTL f e 65535 4 3 (e - 4) p r d := by
  subst hp
  refine MTL_3 (n1 := n1) (d1 := d1) (n0 := n) ?_ (MTG_2 h) hn hr
  by_cases c : p + 1 ≤ e - 4
  · exact .inl ⟨c, .inl ⟨c, .inr (.inr (.inl ⟨rfl, h1⟩))⟩⟩
  · exact .inr ⟨by omega, LGQ_far h1 (by omega) (by omega)⟩


end
section
/-! 27.math -/
def bN (f : Int) : Int := if 4 ≤ f ∧ f ≤ 11 then 2 else 3
def bF (_ : Int) : Int := 3
theorem bN_eq (f : Int) : 4 ≤ f ∧ f ≤ 11 ∧ bN f = 2 ∨ ¬(4 ≤ f ∧ f ≤ 11) ∧ bN f = 3 := by
  unfold bN
  by_cases h : 4 ≤ f ∧ f ≤ 11
  · rw [if_pos h]; omega
  · rw [if_neg h]; omega
theorem bF_eq (f : Int) : bF f = 3 := rfl
def KQ (b g : Int → Int) (k : Int) : Prop := g 0 = 0 ∧ ∀ l, 1 ≤ l → l ≤ k → 0 ≤ g l ∧ g l ≤ 3 * l ∧ (∀ f, 1 ≤ f → f ≤ 64 → f ≤ l → g l ≤ b f + g (l - f)) ∧ ∃ f, 1 ≤ f ∧ f ≤ 64 ∧ f ≤ l ∧ b f + g (l - f) = g l
def KX (b g : Int → Int) (l f : Int) : Prop := ∃ f', 1 ≤ f' ∧ f' ≤ f ∧ f' ≤ 64 ∧ f' ≤ l ∧ b f' + g (l - f') = g l
def KP (b g : Int → Int) (l f : Int) : Prop := KQ b g (l - 1) ∧ (f = 1 ∧ g l = 2147483647 ∨ 1 < f ∧ 0 ≤ g l ∧ g l ≤ 3 * l ∧ (∀ x, 1 ≤ x → x < f → x ≤ 64 → x ≤ l → g l ≤ b x + g (l - x)) ∧ KX b g l (f - 1))
theorem KQ_small {b g : Int → Int} {k j : Int} (h : KQ b g k) (h0 : 0 ≤ j) (h1 : j ≤ k) : 0 ≤ g j ∧ g j ≤ 3 * j := by
  by_cases e : j = 0
  · rw [e, h.1]; omega
  · have := h.2 j (by omega) h1
    omega
theorem KQ_upd {b g : Int → Int} {k l v : Int} (h : KQ b g k) (h0 : k < l) (h1 : 0 < l) : KQ b (upd1 g l v) k := by
  refine ⟨by rw [upd1_o (by omega)]; exact h.1, fun j a c => ?_⟩
  obtain ⟨p, q, r, f, f1, f2, f3, f4⟩ := h.2 j a c
  rw [upd1_o (by omega)]
  exact ⟨p, q, fun x x1 x2 x3 => by rw [upd1_o (by omega)]; exact r x x1 x2 x3, f, f1, f2, f3, by rw [upd1_o (by omega)]; exact f4⟩
theorem KP_start {b g : Int → Int} {l : Int} (h : KQ b g (l - 1)) (h1 : 1 ≤ l) : KP b (upd1 g l 2147483647) l 1 :=
  ⟨KQ_upd h (by omega) (by omega), .inl ⟨rfl, upd1_s⟩⟩
theorem KP_small {b g : Int → Int} {l f : Int} (h : KP b g l f) (h1 : 1 ≤ f) (h2 : f ≤ l) : 0 ≤ g (l - f) ∧ g (l - f) ≤ 3 * (l - f) := KQ_small h.1 (by omega) (by omega)
theorem KX_mono {b g : Int → Int} {l f f2 : Int} (h : KX b g l f) (hl : f ≤ f2) : KX b g l f2 := by
  obtain ⟨x, a, c, d, e, i⟩ := h
  exact ⟨x, a, by omega, d, e, i⟩
theorem KP_keep {b g : Int → Int} {l f : Int} (h : KP b g l f) (hb : b f ≤ 3) (h1 : 1 ≤ f) (h2 : f ≤ l) (hl : l ≤ 100000) (h4 : g l ≤ b f + g (l - f)) : KP b g l (f + 1) := by
  have s := KP_small h h1 h2
  refine ⟨h.1, .inr ?_⟩
  rcases h.2 with ⟨e, m⟩ | ⟨a, c, d, r, x⟩
  · omega
  · refine ⟨by omega, c, d, fun y y1 y2 y3 y4 => ?_, KX_mono x (by omega)⟩
    by_cases z : y = f
    · rw [z]; exact h4
    · exact r y y1 (by omega) y3 y4
theorem KP_set {b g : Int → Int} {l f t : Int} (h : KP b g l f) (hb : 0 ≤ b f ∧ b f ≤ 3) (h1 : 1 ≤ f) (h2 : f ≤ l) (h3 : f ≤ 64) (e : b f + g (l - f) = t) (hlt : t < g l) : KP b (upd1 g l t) l (f + 1) := by
  have s := KP_small h h1 h2
  refine ⟨KQ_upd h.1 (by omega) (by omega), .inr ⟨by omega, ?_, ?_, fun y y1 y2 y3 y4 => ?_, f, h1, by omega, h3, h2, ?_⟩⟩
  · rw [upd1_s]; omega
  · rw [upd1_s]; omega
  · rw [upd1_s, upd1_o (by omega)]
    by_cases z : y = f
    · rw [z, e]; exact Int.le_refl t
    · rcases h.2 with ⟨w, _⟩ | ⟨_, _, _, r, _⟩
      · omega
      · have := r y y1 (by omega) y3 y4
        omega
  · rw [upd1_s, upd1_o (by omega), e]
theorem KP_end {b g : Int → Int} {l f : Int} (h : KP b g l f) (h1 : 1 < f) (hf : f ≤ 65) (hl : f ≤ l + 1) (hx : f = 65 ∨ f = l + 1) : KQ b g l := by
  refine ⟨h.1.1, fun j a c => ?_⟩
  by_cases e : j = l
  · subst e
    rcases h.2 with ⟨e, _⟩ | ⟨_, p, q, r, x, a, c, d, e, i⟩
    · omega
    · exact ⟨p, q, fun y y1 y2 y3 => r y y1 (by omega) y2 y3, x, a, d, e, i⟩
  · exact h.1.2 j a (by omega)
theorem KX_all {b g : Int → Int} {k l : Int} (h : KQ b g k) (h1 : 1 ≤ l) (h2 : l ≤ k) (f : Int) (hf : f = 64 ∨ f = l) : KX b g l f := by
  obtain ⟨p, q, _, x, f1, f2, f3, f4⟩ := h.2 l h1 h2
  exact ⟨x, f1, by omega, f2, f3, f4⟩
theorem KX_less {b g : Int → Int} {l f f2 : Int} (h : KX b g l f) (h1 : b f + g (l - f) ≠ g l) (e2 : f2 = f - 1) : KX b g l f2 := by
  subst e2
  obtain ⟨x, a, c, d, e, i⟩ := h
  refine ⟨x, a, ?_, d, e, i⟩
  by_cases q : x = f
  · subst q; exact absurd i h1
  · omega
theorem KX_pos {b g : Int → Int} {l f : Int} (h : KX b g l f) : 1 ≤ f := by
  obtain ⟨x, a, c, d, e, i⟩ := h
  omega
theorem p2_8 {k : Int} : (k = 1 → p2 (8 * k) = 256) ∧ (k = 2 → p2 (8 * k) = 65536) ∧ (k = 3 → p2 (8 * k) = 16777216) ∧ (k = 4 → p2 (8 * k) = 4294967296) :=
  ⟨fun h => by rw [h]; decide, fun h => by rw [h]; decide, fun h => by rw [h]; decide, fun h => by rw [h]; decide⟩
theorem bN_C (f : Int) : bN f = bC 1 f := by
  unfold bN bC
  by_cases h : 4 ≤ f ∧ f ≤ 11
  · rw [if_pos h, if_pos ⟨rfl, h⟩]
  · rw [if_neg h, if_neg (fun z => h z.2)]
theorem bF_C (f : Int) : bF f = bC 0 f := by
  unfold bF bC
  rw [if_neg (fun z => absurd z.1 (by decide))]

theorem KQ_cf {b g : Int → Int} {k nr : Int} (h : KQ b g k) (hb : ∀ f, b f = bC nr f) : ∀ (m : Nat), (m : Int) ≤ k → g (m : Int) = cfw nr (m : Int) := by
  intro m
  induction m using Nat.strongRecOn with
  | _ m ih =>
    intro hm
    by_cases z : m = 0
    · subst z
      rw [show ((0 : Nat) : Int) = 0 from rfl, h.1, cfw_0]
    · obtain ⟨_, _, r, f, f1, f2, f3, f4⟩ := h.2 (m : Int) (by omega) hm
      have q : ∀ x : Int, 1 ≤ x → x ≤ (m : Int) → g ((m : Int) - x) = cfw nr ((m : Int) - x) := fun x x1 x2 => by
        have := ih (m - x.toNat) (by omega) (by omega)
        rw [show ((m - x.toNat : Nat) : Int) = (m : Int) - x by omega] at this
        exact this
      obtain ⟨x, x1, x2, x3, x4⟩ := cfw_ex (nr := nr) (l := (m : Int)) (by omega)
      have a1 := r x x1 x2 x3
      have a2 := cfw_le (nr := nr) (l := (m : Int)) (f := f) f1 f2 f3
      rw [hb, q x x1 x3] at a1
      rw [hb, q f f1 f3] at f4
      omega
theorem KQ_N {g : Int → Int} {k l : Int} (h : KQ bN g k) (h0 : 0 ≤ l) (h1 : l ≤ k) : g l = cfw 1 l := by
  have := KQ_cf h bN_C l.toNat (by omega)
  rw [Int.toNat_of_nonneg h0] at this
  exact this
theorem KQ_F {g : Int → Int} {k l : Int} (h : KQ bF g k) (h0 : 0 ≤ l) (h1 : l ≤ k) : g l = cfw 0 l := by
  have := KQ_cf h bF_C l.toNat (by omega)
  rw [Int.toNat_of_nonneg h0] at this
  exact this


end
section
/-! 17v -/
theorem SCI_e {f : Int → Int} {e w l way p q n d q2 n2 d2 : Int} (h : SCI f e w l way p q n d) (hq : q2 = q) (hn : n2 = n) (hd : d2 = d) : SCI f e w l way p q2 n2 d2 := by
  subst hq hn hd
  exact h
theorem andI_255 (a : Int) : andI a 255 = u8 a := and255 a
theorem nU_us0 {x k : Int} (hk : 0 ≤ k ∧ k ≤ 31) : nU (usI x k) = nU x / 2 ^ k.toNat := by
  unfold usI
  rw [nU_i, ← nU_of]
  have e : ((Int32.ofInt k).toUInt32 &&& Int32.toUInt32 31).toNat = k.toNat := by
    have q : ∀ n : Nat, n < 32 → ((Int32.ofInt (n : Int)).toUInt32 &&& Int32.toUInt32 31).toNat = n := by decide +kernel
    have := q k.toNat (by omega)
    rw [Int.toNat_of_nonneg (by omega)] at this
    exact this
  show ((Int32.ofInt x).toUInt32 >>> ((Int32.ofInt k).toUInt32 &&& Int32.toUInt32 31)).toNat = _
  rw [UInt32.toNat_shiftRight, e, Nat.shiftRight_eq_div_pow, Nat.mod_eq_of_lt (by omega)]
  rfl
theorem u8_usi {x i : Int} (hi : 0 ≤ i ∧ i ≤ 3) : u8 (usI x (8 * i)) = u8 (x / p2 (8 * i)) := by
  have h := nU_us0 (x := x) (k := 8 * i) (by omega)
  have h1 := nU_m (usI x (8 * i))
  have h2 := nU_m x
  unfold u8
  rcases (show i = 0 ∨ i = 1 ∨ i = 2 ∨ i = 3 by omega) with z | z | z | z <;> subst z
  · rw [show p2 (8 * 0) = 1 by decide]
    rw [show (8 * 0 : Int).toNat = 0 from rfl] at h
    omega
  · rw [show p2 (8 * 1) = 256 by decide]
    rw [show (8 * 1 : Int).toNat = 8 from rfl] at h
    omega
  · rw [show p2 (8 * 2) = 65536 by decide]
    rw [show (8 * 2 : Int).toNat = 16 from rfl] at h
    omega
  · rw [show p2 (8 * 3) = 16777216 by decide]
    rw [show (8 * 3 : Int).toNat = 24 from rfl] at h
    omega
theorem tgh_of {n k s : Int} (hn : 1 ≤ n ∧ n ≤ 65536) (hk : k = 0 ∧ n ≤ 60 ∨ k = 1 ∧ 60 < n ∧ n ≤ 256 ∨ k = 2 ∧ 256 < n) (hs : k = 0 ∧ s = 4 * (n - 1) ∨ 1 ≤ k ∧ s = 4 * (59 + k)) : [u8 s] ++ nb (n - 1) k = tgh n := by
  unfold tgh
  rcases hk with ⟨a, b⟩ | ⟨a, b, c⟩ | ⟨a, b⟩ <;> subst a
  · rw [if_pos b, nb_0, List.append_nil, show s = 4 * (n - 1) by omega, u8_id (by omega)]
  · rw [if_neg (by omega), if_pos c, show s = 240 by omega, u8_id (by omega)]
  · rw [if_neg (by omega), if_neg (by omega), show s = 244 by omega, u8_id (by omega)]
theorem tgp_s {nr d n a : Int} (h : nr = 1 ∧ 4 ≤ n ∧ n ≤ 11) (hd : 0 ≤ d ∧ d < 2048) (ha : a = 1 + 4 * (n - 4 + 8 * (d / 256))) : [u8 a] ++ [u8 d] = tgp nr d n := by
  unfold tgp
  rw [if_pos h, ha, u8_id (z := 1 + 4 * (n - 4 + 8 * (d / 256))) (by omega)]
  rfl
theorem tgp_l {nr d n a : Int} (h : ¬(nr = 1 ∧ 4 ≤ n ∧ n ≤ 11)) (hn : 1 ≤ n ∧ n ≤ 64) (ha : a = 2 + 4 * (n - 1)) : [u8 a] ++ nb d 2 = tgp nr d n := by
  unfold tgp
  rw [if_neg h, ha, u8_id (by omega)]

def TGI (cap : Int) (M : Int → Int → Int → Prop) (d : Int → Int) (dn p s : Int) (gE : Int → Int) (nE : Int) (g : Int → Int) (n : Int) : Prop := ∀ S t g1 n1, GOS M dn p s S t → QAP cap g n g1 n1 (tgE d s S t) → ∃ S2 t2, GOS M dn 0 0 S2 t2 ∧ QAP cap gE nE g1 n1 (vlr dn ++ tgE d 0 S2 t2)
theorem TGI_0 {cap dn nE n p s : Int} {M : Int → Int → Int → Prop} {d gE g : Int → Int} (h : QAP cap gE nE g n (vlr dn)) (hp : p = 0) (hs : s = 0) : TGI cap M d dn p s gE nE g n := fun S t _ _ a b => by
  subst hp hs
  exact ⟨S, t, a, QAP_trans h b⟩
theorem TGI_skip {cap dn p s nE n d0 q : Int} {M : Int → Int → Int → Prop} {d gE g : Int → Int} (k : TGI cap M d dn p s gE nE g n) (hp : p < dn) (h0 : M p 0 d0) (e : q = p + 1) : TGI cap M d dn q s gE nE g n := fun S t g1 n1 a b => k S t g1 n1 (GOS_skip hp h0 (e ▸ a)) b
theorem TGI_take {cap dn p s nE n b c q n2 n3 : Int} {M : Int → Int → Int → Prop} {d gE g g2 g3 : Int → Int} {L : List Int} (k : TGI cap M d dn p s gE nE g n) (hs : s ≤ p) (hp : p < dn) (hb : 1 ≤ b) (h0 : M p b c) (e : q = p + b) (hL : L = sc d s p) (w : QAP cap g n g2 n2 (tgl L)) (w2 : QAP cap g2 n2 g3 n3 (tgc (ner c) c b)) : TGI cap M d dn q q gE nE g3 n3 := fun S t g1 n1 x y => by
  subst e hL
  refine k ((p - s, b, c) :: S) t g1 n1 (GOS_take (by omega) hb hp h0 x) ?_
  show QAP cap g n g1 n1 ((tgl (sc d s (s + (p - s))) ++ tgc (ner c) c b) ++ tgE d (s + (p - s) + b) S t)
  rw [show s + (p - s) = p by omega]
  exact QAP_trans (QAP_trans w w2) y
def TGW (cap : Int) (M : Int → Int → Int → Prop) (d : Int → Int) (dn : Int) (g0 : Int → Int) (n0 : Int) (g : Int → Int) (n : Int) : Prop := ∃ S t, GOS M dn 0 0 S t ∧ QAP cap g0 n0 g n (vlr dn ++ tgE d 0 S t)
theorem TGI_end {cap dn p s nE n n2 : Int} {M : Int → Int → Int → Prop} {d gE g g2 : Int → Int} {L : List Int} (k : TGI cap M d dn p s gE nE g n) (hp : p = dn) (hL : L = sc d s dn) (w : QAP cap g n g2 n2 (tgl L)) : TGW cap M d dn gE nE g2 n2 := by
  subst hp hL
  refine k [] (p - s) g2 n2 (GOS_end (Int.le_refl p) (by omega) (fun i a b => absurd b (by omega))) ?_
  show QAP cap g n g2 n2 (tgl (sc d s (s + (p - s))))
  rw [show s + (p - s) = p by omega]
  exact w
theorem TGW_B {cap way n m m0 : Int} {f g g0 : Int → Int} (k : TGW cap (MTL f n 65535 4 way (n - 4)) f n g0 m0 g m) (hf : BYI f) (hn : 0 ≤ n) : ∃ B, TGB way (sc f 0 n) B ∧ QAP cap g0 m0 g m B := by
  obtain ⟨S, t, x, y⟩ := k
  exact ⟨_, TGB_of hf hn x rfl rfl rfl rfl rfl, y⟩

def MSK0 (v : Int) : Int := adI (rtI v 17) (-1568478504)
theorem MSK_x : ∃ g : Int → Int, g = MSK0 := ⟨_, rfl⟩
noncomputable def MSK : Int → Int := Classical.choose MSK_x
theorem MSK_e : MSK = MSK0 := Classical.choose_spec MSK_x
theorem pRn_congr {f g : Int → Int} {a b l : Int} {k : Nat} (h : ∀ i : Int, 0 ≤ i → i < k → u8 (f (a + i)) = u8 (g (b + i))) : pRn f a k l = pRn g b k l := by
  unfold pRn
  refine itl_congr (fun j x y l => ?_)
  show pst l (u8 (f (a + 1 * j))) = pst l (u8 (g (b + 1 * j)))
  have := h j x y
  rw [show a + 1 * j = a + j by omega, show b + 1 * j = b + j by omega, this]

noncomputable def PLS0 (L : List Int) : Int := POL (ap L) 0 (L.length : Int)
theorem PLS_x : ∃ g : List Int → Int, g = PLS0 := ⟨_, rfl⟩
noncomputable def PLS : List Int → Int := Classical.choose PLS_x
theorem PLS_e : PLS = PLS0 := Classical.choose_spec PLS_x
theorem POL_L {f : Int → Int} {a n b : Int} (hn : 0 ≤ n) (hb : b = a + n) : POL f a n = PLS (sc f a b) := by
  subst hb
  rw [PLS_e]; unfold PLS0; rw [POL_e]; unfold POL0
  rw [sc_lenI (by omega), show a + n - a = n by omega]
  congr 1
  refine pRn_congr (fun i x y => ?_)
  unfold ap
  have := sc_get (f := f) (a := a) (b := a + n) (k := i) x (by omega)
  rw [Int.zero_add, List.getD_eq_getElem?_getD, this]
  exact (u8_id (u8_rng _)).symm

noncomputable def TGk (kind : Int) (B D : List Int) : List Int := nb (((B.length : Int) + 4) * 256 + kind) 4 ++ (nb (MSK (PLS D)) 4 ++ B)
def TGm : List Int := [255, 6, 0, 0, 115, 78, 97, 80, 112, 89]
def TGp (sp : Int) : List Int := if sp ≤ 0 then [] else nb (sp * 256 + 254) 4 ++ List.replicate sp.toNat 0
def TGs (way step sp : Int) (L : List Int) (s t : Int × List Int) : Prop := s.1 < (L.length : Int) ∧ ∃ e B, (e = s.1 + step ∧ e ≤ (L.length : Int) ∨ e = (L.length : Int) ∧ (L.length : Int) < s.1 + step) ∧ TGB way (sl L s.1 e) B ∧
  t = (s.1 + step, s.2 ++ ((if ((sl L s.1 e).length : Int) ≤ (B.length : Int) then TGk 1 (sl L s.1 e) (sl L s.1 e) else TGk 0 B (sl L s.1 e)) ++ TGp sp))
theorem TGs_det {way step sp : Int} {L : List Int} (s t u : Int × List Int) (x : TGs way step sp L s t) (y : TGs way step sp L s u) : t = u := by
  obtain ⟨_, e, B, r, p, q⟩ := x
  obtain ⟨_, e2, B2, r2, p2_, q2⟩ := y
  have ee : e = e2 := by omega
  subst ee
  have := TGB_det p p2_
  subst this
  rw [q, q2]
theorem TGse {way step sp : Int} {L : List Int} (s t : Int × List Int) (r : List Int) (x : TGs way step sp L s t) : ¬ TFe L s r := fun y => by have := x.1; have := y.1; omega

def TGR (way step sp : Int) (L out : List Int) : Prop := ∃ M, IT (TGs way step sp L) (TFe L) (0, []) M ∧ out = TGm ++ M
theorem TGR_det {way step sp : Int} {L o1 o2 : List Int} (a : TGR way step sp L o1) (b : TGR way step sp L o2) : o1 = o2 := by
  obtain ⟨M, h1, e1⟩ := a
  obtain ⟨M2, h2, e2⟩ := b
  have e : M = M2 := IT_det TGs_det TFe_det TGse h1 h2
  rw [e1, e2, e]
theorem TG_mono {way step sp : Int} {L : List Int} : ∀ {n : Nat} {s : Int × List Int} {R : List Int}, itR (TGs way step sp L) (TFe L) n s R → s.2.length ≤ R.length
  | 0, s, R, h => by rw [h.2]; exact Nat.le_refl _
  | n + 1, s, R, ⟨t, ⟨_, e, B, _, _, x⟩, k⟩ => by
    have := TG_mono k
    rw [x] at this
    simp only [List.length_append] at this
    omega
theorem TGR_part {way step sp at_ : Int} {L M out : List Int} (h : ITP (TGs way step sp L) (0, []) (at_, M)) (q : TGR way step sp L out) : (TGm ++ M).length ≤ out.length := by
  obtain ⟨M2, h2, e2⟩ := q
  obtain ⟨n, h3⟩ := IT_cut TGs_det TGse h h2
  have := TG_mono h3
  rw [e2]
  simp only [List.length_append]
  have : M.length ≤ M2.length := this
  omega
theorem TGR_of {way step sp at_ : Int} {L M : List Int} (h : ITP (TGs way step sp L) (0, []) (at_, M)) (he : (L.length : Int) ≤ at_) : TGR way step sp L (TGm ++ M) := ⟨M, ITP_e h ⟨he, rfl⟩, rfl⟩
theorem TGs_i {way step sp at_ e at2 : Int} {L M M2 B R Lr : List Int} (h0 : at_ < (L.length : Int)) (he : e = at_ + step ∧ e ≤ (L.length : Int) ∨ e = (L.length : Int) ∧ (L.length : Int) < at_ + step) (hl : sl L at_ e = Lr) (hB : TGB way Lr B) (hR : ((Lr.length : Int) ≤ (B.length : Int) ∧ R = TGk 1 Lr Lr) ∨ ((B.length : Int) < (Lr.length : Int) ∧ R = TGk 0 B Lr)) (e2 : at2 = at_ + step) (eM : M2 = M ++ (R ++ TGp sp)) (hi : ITP (TGs way step sp L) (0, []) (at_, M)) : ITP (TGs way step sp L) (0, []) (at2, M2) := by
  subst e2 eM hl
  refine ITP_s hi ⟨h0, e, B, he, hB, ?_⟩
  rcases hR with ⟨a, b⟩ | ⟨a, b⟩
  · rw [if_pos a, b]
  · rw [if_neg (by show ¬ (((sl L at_ e).length : Int) ≤ (B.length : Int)); omega), b]

theorem tgp_len {nr d n : Int} : (tgp nr d n).length ≤ 3 := by
  unfold tgp
  split
  · simp only [List.length_append, List.length_cons, List.length_nil]; omega
  · simp only [List.length_append, List.length_cons, List.length_nil, nb_len]; omega
theorem tgcF_len {nr d : Int} : ∀ {k : Nat} {l : Int}, 0 ≤ l → ((tgcF nr d k l).length : Int) ≤ 3 * l
  | 0, l, h => by show (0 : Int) ≤ 3 * l; omega
  | k + 1, l, h => by
    show (((if l ≤ 0 then [] else tgp nr d (fcl nr l) ++ tgcF nr d k (l - fcl nr l)) : List Int).length : Int) ≤ 3 * l
    by_cases z : l ≤ 0
    · rw [if_pos z]; show (0 : Int) ≤ 3 * l; omega
    · have q := fcl_r (nr := nr) (l := l) (by omega)
      have ih := tgcF_len (nr := nr) (d := d) (k := k) (l := l - fcl nr l) (by omega)
      have := tgp_len (nr := nr) (d := d) (n := fcl nr l)
      rw [if_neg z, List.length_append]
      omega
theorem tgl_len2 {L : List Int} : ((tgl L).length : Int) ≤ 2 * (L.length : Int) := by
  unfold tgl
  by_cases z : L = []
  · rw [if_pos z, z]; decide
  · rw [if_neg z, List.length_append]
    have hl : 0 < L.length := List.length_pos_iff.mpr z
    have hh : ((tgh (L.length : Int)).length : Int) ≤ (L.length : Int) := by
      unfold tgh
      by_cases z1 : (L.length : Int) ≤ 60
      · rw [if_pos z1]; show (1 : Int) ≤ _; omega
      · rw [if_neg z1]
        by_cases z2 : (L.length : Int) ≤ 256
        · rw [if_pos z2, List.length_append, nb_len]; show ((1 + 1 : Nat) : Int) ≤ _; omega
        · rw [if_neg z2, List.length_append, nb_len]; show ((1 + 2 : Nat) : Int) ≤ _; omega
    omega
theorem tgE_len {f d : Int → Int} {e w way ls n : Int} : ∀ {S : List (Int × Int × Int)} {p s t : Int}, s ≤ p → GOS (MTL f e w 4 way ls) n p s S t → ((tgE d s S t).length : Int) ≤ 3 * (n - s)
  | [], p, s, t, hs, h => by
    have h1 := h.1
    have h2 := h.2.1
    have := tgl_len2 (L := sc d s (s + t))
    rw [sc_lenI (by omega)] at this
    show ((tgl (sc d s (s + t))).length : Int) ≤ _
    omega
  | (a, b, c) :: S, p, s, t, hs, h => by
    obtain ⟨h1, h3, h4, h5, h6, h7⟩ := h
    have k := tgE_len (d := d) (Int.le_refl _) h7
    have hb := MTL_ge (by omega) h6
    have h8 := tgl_len2 (L := sc d s (s + a))
    have h9 := tgcF_len (nr := ner c) (d := c) (k := b.toNat) (l := b) (by omega)
    rw [sc_lenI (by omega)] at h8
    show (((tgl (sc d s (s + a)) ++ tgc (ner c) c b) ++ tgE d (s + a + b) S t).length : Int) ≤ _
    rw [List.length_append, List.length_append]
    have h9 : ((tgc (ner c) c b).length : Int) ≤ 3 * b := h9
    omega
theorem vlr_len {n : Int} : (vlr n).length ≤ 3 := by
  unfold vlr
  split
  · simp only [List.length_cons, List.length_nil]; omega
  · split <;> (simp only [List.length_append, List.length_cons, List.length_nil]; omega)
theorem TGB_len {way : Int} {L B : List Int} (k : TGB way L B) : (B.length : Int) ≤ 3 * (L.length : Int) + 3 := by
  obtain ⟨S, t, x, e⟩ := k
  have := tgE_len (d := ap L) (Int.le_refl 0) x
  have := vlr_len (n := (L.length : Int))
  rw [e, List.length_append]
  omega

theorem RQ_self {cap n : Int} {g : Int → Int} (h0 : 0 ≤ n) : RQ cap g n (sc g 0 n) := by
  refine ⟨by rw [sc_lenI h0]; omega, fun k k0 k1 _ => ?_⟩
  rw [sc_cat (b := k) k0 k1, List.take_append_of_le_length (by rw [sc_len]; omega), List.take_of_length_le (by rw [sc_len]; omega)]
theorem QAP_len {cap n0 n : Int} {g0 g : Int → Int} {M : List Int} (h : QAP cap g0 n0 g n M) (h0 : 0 ≤ n0) : n = n0 + (M.length : Int) := by
  have := (h _ (RQ_self h0)).1
  rw [List.length_append] at this
  have l := sc_lenI (f := g0) h0
  omega
theorem QAP_cut {cap n0 n m : Int} {g0 g : Int → Int} {M T : List Int} (h : QAP cap g0 n0 g n (M ++ T)) (hm : m = n0 + (M.length : Int)) : QAP cap g0 n0 g m M := fun L q => by
  have k := h L q
  rw [← List.append_assoc] at k
  refine RQ_cut k ?_
  have := q.1
  rw [List.length_append]
  omega
theorem QAP_ow {cap n0 n m : Int} {g0 g g1 : Int → Int} {Z P T : List Int} (h : QAP cap g0 n0 g n (Z ++ T)) (k : QAP cap g n0 g1 m P) (hz : Z.length = P.length) (hs : ∀ i, m ≤ i → g1 i = g i) : QAP cap g0 n0 g1 n (P ++ T) := fun L q => by
  have a := h L q
  exact RQ_ow a (k L (RQ_cut a q.1)) hz hs
theorem QAP_c {cap n0 n : Int} {g0 g : Int → Int} {M N : List Int} (h : QAP cap g0 n0 g n M) (e : M = N) : QAP cap g0 n0 g n N := e ▸ h
theorem nb_k4 {s k : Int} (hk : 0 ≤ k ∧ k ≤ 255) : [u8 k] ++ nb s 3 = nb (s * 256 + k) 4 := by
  rw [nbF4, nb_s (m := 3) (n := 2) (by omega) rfl, nb_s (m := 2) (n := 1) (by omega) rfl, nb_s (m := 1) (n := 0) (by omega) rfl, nb_0, show p2 (8 * 0) = 1 by decide, show p2 (8 * 1) = 256 by decide, show p2 (8 * 2) = 65536 by decide, Int.ediv_one]
  have e0 : u8 k = u8 (s * 256 + k) := by unfold u8; omega
  have e1 : u8 s = u8 ((s * 256 + k) / 256) := by unfold u8; omega
  have e2 : u8 (s / 256) = u8 ((s * 256 + k) / 65536) := by unfold u8; omega
  have e3 : u8 (s / 65536) = u8 ((s * 256 + k) / 16777216) := by unfold u8; omega
  rw [e0, e1, e2, e3]
  rfl

def PRW (cap way : Int) (L : List Int) (g0 : Int → Int) (n0 : Int) (g : Int → Int) (n : Int) : Prop := ∃ B R, TGB way L B ∧ ((L.length : Int) ≤ (B.length : Int) ∧ R = TGk 1 L L ∨ (B.length : Int) < (L.length : Int) ∧ R = TGk 0 B L) ∧ QAP cap g0 n0 g n R
theorem TGk_of {cap n0 n m k s : Int} {g0 g g1 : Int → Int} {X D : List Int} (h : QAP cap g0 n0 g n (nb 0 4 ++ (nb (MSK (PLS D)) 4 ++ X))) (hk : QAP cap g n0 g1 m ([u8 k] ++ nb s 3)) (h0 : 0 ≤ k ∧ k ≤ 255) (hs : s = (X.length : Int) + 4) (ho : ∀ i, m ≤ i → g1 i = g i) : QAP cap g0 n0 g1 n (TGk k X D) := by
  rw [nb_k4 h0, hs] at hk
  exact QAP_ow h hk (by rw [nb_len, nb_len]) ho
theorem TGm_s {k : Int} (h : 0 ≤ k ∧ k ≤ 5) : TGm.take (4 + (k + 1)).toNat = TGm.take (4 + k).toNat ++ [TGm.getD (4 + k).toNat 0] := by
  have q : ∀ n : Fin 6, TGm.take (4 + (n.val + 1)) = TGm.take (4 + n.val) ++ [TGm.getD (4 + n.val) 0] := by decide
  have := q ⟨k.toNat, by omega⟩
  rw [show (4 + (k + 1)).toNat = 4 + (k.toNat + 1) by omega, show (4 + k).toNat = 4 + k.toNat by omega]
  exact this
theorem rep_s {k m : Int} (h : 0 ≤ k) (e : m = k + 1) : List.replicate m.toNat (0 : Int) = List.replicate k.toNat 0 ++ [0] := by
  subst e
  rw [show (k + 1).toNat = k.toNat + 1 by omega, List.replicate_succ']


end
section
/-! 17x -/
def TLs (I : Int → Int) (e p : Int) (s t : Int × Int) : Prop := s.1 < 4 ∧ p + s.1 < e ∧ 128 ≤ I (p + s.1) ∧ t = (s.1 + 1, s.2 + I (p + s.1) % 128 * p2 (7 * s.1))
def TLe (I : Int → Int) (e p most : Int) (s : Int × Int) (R : Int × Int × Int × Int) : Prop := (e ≤ p + s.1 ∧ R = (1, e, 0, 0)) ∨ (p + s.1 < e ∧ ((4 ≤ s.1 ∧ 15 < I (p + s.1) ∧ R = (2, p, 0, 0)) ∨ ((s.1 < 4 ∨ I (p + s.1) ≤ 15) ∧ I (p + s.1) < 128 ∧ (
  (most < s.2 + I (p + s.1) % 128 * p2 (7 * s.1) ∧ R = (3, p, 0, 0)) ∨ (s.2 + I (p + s.1) % 128 * p2 (7 * s.1) ≤ most ∧ R = (0, 0, s.2 + I (p + s.1) % 128 * p2 (7 * s.1), p + s.1 + 1))))))
theorem TLs_det {I : Int → Int} {e p : Int} (s t u : Int × Int) (h : TLs I e p s t) (k : TLs I e p s u) : t = u := by rw [h.2.2.2, k.2.2.2]
theorem TLe_det {I : Int → Int} {e p most : Int} (s : Int × Int) (R R2 : Int × Int × Int × Int) (h : TLe I e p most s R) (k : TLe I e p most s R2) : R = R2 := by
  rcases h with ⟨a, b⟩ | ⟨a, h⟩ <;> rcases k with ⟨a', b'⟩ | ⟨a', k⟩ <;> first | (exfalso; omega) | (rw [b, b']) | skip
  rcases h with ⟨a, b, c⟩ | ⟨a, b, h⟩ <;> rcases k with ⟨a', b', cₚ⟩ | ⟨a', b', k⟩ <;> first | (exfalso; omega) | (rw [c, cₚ]) | skip
  rcases h with ⟨a, b⟩ | ⟨a, b⟩ <;> rcases k with ⟨a', b'⟩ | ⟨a', b'⟩ <;> first | (exfalso; omega) | (rw [b, b'])
theorem TLse {I : Int → Int} {e p most : Int} (s t : Int × Int) (R : Int × Int × Int × Int) (h : TLs I e p s t) : ¬ TLe I e p most s R := fun k => by
  obtain ⟨h1, h2, h3, _⟩ := h
  rcases k with ⟨a, b⟩ | ⟨a, k⟩
  · omega
  · rcases k with ⟨a, b, c⟩ | ⟨a, b, k⟩ <;> omega

def TLQ (I : Int → Int) (e p most : Int) (R : Int × Int × Int × Int) : Prop := IT (TLs I e p) (TLe I e p most) (0, 0) R
theorem TLQ_det {I : Int → Int} {e p most : Int} {R R2 : Int × Int × Int × Int} (h : TLQ I e p most R) (k : TLQ I e p most R2) : R = R2 := IT_det TLs_det TLe_det TLse h k

def TEb (t : Int) : Int := if t % 4 = 0 then (if t / 4 < 60 then 0 else t / 4 - 59) else if t % 4 = 1 then 1 else if t % 4 = 2 then 2 else 4
def TEl (t x : Int) : Int := if t % 4 = 0 then (if t / 4 < 60 then t / 4 + 1 else x + 1) else if t % 4 = 1 then t / 4 % 8 + 4 else t / 4 + 1
def TEd (t x : Int) : Int := if t % 4 = 1 then x + 256 * (t / 32) else x
theorem TEb_eq (t : Int) (h : 0 ≤ t ∧ t ≤ 255) : (t % 4 = 0 ∧ t / 4 < 60 ∧ TEb t = 0) ∨ (t % 4 = 0 ∧ 60 ≤ t / 4 ∧ TEb t = t / 4 - 59) ∨ (t % 4 = 1 ∧ TEb t = 1) ∨ (t % 4 = 2 ∧ TEb t = 2) ∨ (t % 4 = 3 ∧ TEb t = 4) := by
  unfold TEb
  split
  · split <;> omega
  · split
    · omega
    · split <;> omega
theorem TEl_eq (t x : Int) (h : 0 ≤ t ∧ t ≤ 255) : (t % 4 = 0 ∧ t / 4 < 60 ∧ TEl t x = t / 4 + 1) ∨ (t % 4 = 0 ∧ 60 ≤ t / 4 ∧ TEl t x = x + 1) ∨ (t % 4 = 1 ∧ TEl t x = t / 4 % 8 + 4) ∨ ((t % 4 = 2 ∨ t % 4 = 3) ∧ TEl t x = t / 4 + 1) := by
  unfold TEl
  split
  · split <;> omega
  · split <;> omega
theorem TEd_eq (t x : Int) : (t % 4 = 1 ∧ TEd t x = x + 256 * (t / 32)) ∨ (t % 4 ≠ 1 ∧ TEd t x = x) := by
  unfold TEd
  split
  · exact .inl ⟨by assumption, rfl⟩
  · exact .inr ⟨by assumption, rfl⟩

def TEx (I : Int → Int) (p : Int) : Int := nvl I (p + 1) (TEb (I p)).toNat
def TYs (I : Int → Int) (e len : Int) (s t : Int × List Int) : Prop := s.1 < e ∧ s.1 + 1 + TEb (I s.1) ≤ e ∧ TEl (I s.1) (TEx I s.1) ≤ len - (s.2.length : Int) ∧
  (I s.1 % 4 ≠ 0 ∧ 1 ≤ TEd (I s.1) (TEx I s.1) ∧ TEd (I s.1) (TEx I s.1) ≤ (s.2.length : Int) ∧ t = (s.1 + 1 + TEb (I s.1), cpb s.2 (TEd (I s.1) (TEx I s.1)) (TEl (I s.1) (TEx I s.1)).toNat) ∨
   I s.1 % 4 = 0 ∧ TEl (I s.1) (TEx I s.1) ≤ e - (s.1 + 1 + TEb (I s.1)) ∧ t = (s.1 + 1 + TEb (I s.1) + TEl (I s.1) (TEx I s.1), s.2 ++ sc I (s.1 + 1 + TEb (I s.1)) (s.1 + 1 + TEb (I s.1) + TEl (I s.1) (TEx I s.1))))
def TYe (I : Int → Int) (e len : Int) (s : Int × List Int) (R : Int × Int × List Int) : Prop := (e ≤ s.1 ∧ ((s.2.length : Int) < len ∧ R = (6, e, []) ∨ len ≤ (s.2.length : Int) ∧ R = (0, e, s.2))) ∨
  (s.1 < e ∧ (e < s.1 + 1 + TEb (I s.1) ∧ R = (1, e, []) ∨ s.1 + 1 + TEb (I s.1) ≤ e ∧ (
    I s.1 % 4 ≠ 0 ∧ (TEd (I s.1) (TEx I s.1) < 1 ∨ (s.2.length : Int) < TEd (I s.1) (TEx I s.1)) ∧ R = (4, s.1, []) ∨
    (I s.1 % 4 = 0 ∨ 1 ≤ TEd (I s.1) (TEx I s.1) ∧ TEd (I s.1) (TEx I s.1) ≤ (s.2.length : Int)) ∧ (len - (s.2.length : Int) < TEl (I s.1) (TEx I s.1) ∧ R = (5, s.1, []) ∨ TEl (I s.1) (TEx I s.1) ≤ len - (s.2.length : Int) ∧ I s.1 % 4 = 0 ∧ e - (s.1 + 1 + TEb (I s.1)) < TEl (I s.1) (TEx I s.1) ∧ R = (1, e, [])))))
theorem TYs_det {I : Int → Int} {e len : Int} (s t u : Int × List Int) (h : TYs I e len s t) (k : TYs I e len s u) : t = u := by
  obtain ⟨_, _, _, h⟩ := h
  obtain ⟨_, _, _, k⟩ := k
  rcases h with ⟨a, b, c, d⟩ | ⟨a, b, d⟩ <;> rcases k with ⟨a', b', cₚ, d'⟩ | ⟨a', b', d'⟩
  · rw [d, d']
  · exact absurd a' a
  · exact absurd a a'
  · rw [d, d']
theorem TYe_det {I : Int → Int} {e len : Int} (s : Int × List Int) (R R2 : Int × Int × List Int) (h : TYe I e len s R) (k : TYe I e len s R2) : R = R2 := by
  rcases h with ⟨a, h⟩ | ⟨a, h⟩ <;> rcases k with ⟨a', k⟩ | ⟨a', k⟩ <;> try (exfalso; omega)
  · rcases h with ⟨a, b⟩ | ⟨a, b⟩ <;> rcases k with ⟨a', b'⟩ | ⟨a', b'⟩ <;> first | (exfalso; omega) | (rw [b, b'])
  · rcases h with ⟨a, b⟩ | ⟨a, h⟩ <;> rcases k with ⟨a', b'⟩ | ⟨a', k⟩ <;> first | (exfalso; omega) | (rw [b, b']) | skip
    rcases h with ⟨a, b, c⟩ | ⟨a, h⟩ <;> rcases k with ⟨a', b', cₚ⟩ | ⟨a', k⟩ <;> first | (exfalso; omega) | (rw [c, cₚ]) | skip
    rcases h with ⟨a, b⟩ | ⟨a, b, c, d⟩ <;> rcases k with ⟨a', b'⟩ | ⟨a', b', cₚ, d'⟩ <;> first | (exfalso; omega) | (rw [b, b']) | (rw [d, d'])
theorem TYse {I : Int → Int} {e len : Int} (s t : Int × List Int) (R : Int × Int × List Int) (h : TYs I e len s t) : ¬ TYe I e len s R := fun k => by
  obtain ⟨h1, h2, h3, h⟩ := h
  rcases k with ⟨a', k⟩ | ⟨a', k⟩
  · omega
  · rcases k with ⟨a', b'⟩ | ⟨a', k⟩
    · omega
    · rcases k with ⟨a', b', cₚ⟩ | ⟨a', k⟩
      · rcases h with ⟨a, b, c, d⟩ | ⟨a, b, d⟩ <;> omega
      · rcases k with ⟨a', b'⟩ | ⟨a', b', cₚ, d'⟩
        · omega
        · rcases h with ⟨a, b, c, d⟩ | ⟨a, b, d⟩ <;> omega

def TYB (I : Int → Int) (e p most : Int) (R : Int × Int × List Int) : Prop := ∃ f pl len q, TLQ I e p most (f, pl, len, q) ∧ (f ≠ 0 ∧ R = (f, pl, []) ∨ f = 0 ∧ IT (TYs I e len) (TYe I e len) (q, []) R)
theorem TYB_det {I : Int → Int} {e p most : Int} {R R2 : Int × Int × List Int} (h : TYB I e p most R) (k : TYB I e p most R2) : R = R2 := by
  obtain ⟨f, pl, len, q, a, h⟩ := h
  obtain ⟨f', pl', len', qₚ, a', k⟩ := k
  have e0 := TLQ_det a a'
  have e1 : f = f' := congrArg (fun x : Int × Int × Int × Int => x.1) e0
  have e2 : pl = pl' := congrArg (fun x : Int × Int × Int × Int => x.2.1) e0
  have e3 : len = len' := congrArg (fun x : Int × Int × Int × Int => x.2.2.1) e0
  have e4 : q = qₚ := congrArg (fun x : Int × Int × Int × Int => x.2.2.2) e0
  subst e1 e2 e3 e4
  rcases h with ⟨x, y⟩ | ⟨x, y⟩ <;> rcases k with ⟨x', y'⟩ | ⟨x', y'⟩
  · rw [y, y']
  · exact absurd x' x
  · exact absurd x x'
  · exact IT_det TYs_det TYe_det TYse y y'

def RDG (I : Int → Int) (e most ret pl n : Int) (g : Int → Int) : Prop := ∃ f V, TYB I e 0 most (f, pl, V) ∧ (f = 0 ∧ ret = n ∧ 0 ≤ n ∧ sc g 0 n = V ∨ 1 ≤ f ∧ ret = -f)
theorem RDG_det {I : Int → Int} {e most ret pl n ret2 pl2 n2 : Int} {g g2 : Int → Int} (h : RDG I e most ret pl n g) (k : RDG I e most ret2 pl2 n2 g2) : ret = ret2 ∧ pl = pl2 ∧ (0 ≤ ret → n = n2 ∧ sc g 0 n = sc g2 0 n2) := by
  obtain ⟨f, V, a, b⟩ := h
  obtain ⟨f2, V2, a2, b2⟩ := k
  have e1 := TYB_det a a2
  have ef : f = f2 := congrArg (fun q : Int × Int × List Int => q.1) e1
  have ep : pl = pl2 := congrArg (fun q : Int × Int × List Int => q.2.1) e1
  have eV : V = V2 := congrArg (fun q : Int × Int × List Int => q.2.2) e1
  subst ef ep eV
  rcases b with ⟨x, y, z, u⟩ | ⟨x, y⟩ <;> rcases b2 with ⟨x2, y2, z2, u2⟩ | ⟨x2, y2⟩
  · have es : sc g 0 n = sc g2 0 n2 := u.trans u2.symm
    have l1 := sc_lenI (f := g) z
    have l2 := sc_lenI (f := g2) z2
    rw [es] at l1
    exact ⟨by omega, rfl, fun _ => ⟨by omega, es⟩⟩
  · omega
  · omega
  · exact ⟨by omega, rfl, fun q => by omega⟩

theorem anJ_127 (v : Int) : anJ v 127 = v % 128 := by
  have e : (Int64.ofInt v &&& Int64.ofInt 127).toBitVec.toNat = (Int64.ofInt v).toBitVec.toNat % 128 := by
    show ((Int64.ofInt v).toBitVec &&& (Int64.ofInt 127).toBitVec).toNat = _
    rw [BitVec.toNat_and, show (Int64.ofInt 127).toBitVec.toNat = 2 ^ 7 - 1 from by decide, Nat.and_two_pow_sub_one_eq_mod]
  have e2 : (((Int64.ofInt v).toBitVec.toNat : Nat) : Int) % 128 = v % 128 := by
    show (((BitVec.ofInt 64 v).toNat : Nat) : Int) % 128 = _
    rw [BitVec.toNat_ofInt, Int.toNat_of_nonneg (Int.emod_nonneg _ (by decide))]
    have : ((2 ^ 64 : Nat) : Int) = 128 * 144115188075855872 := by decide
    rw [this]
    omega
  unfold anJ
  show (Int64.ofInt v &&& Int64.ofInt 127).toBitVec.toInt = _
  rw [BitVec.toInt_eq_toNat_of_lt (by rw [e]; omega), e, ← e2]
  omega
theorem or_sh {x b k : Int} (hk : 0 ≤ k ∧ k ≤ 35) (hx : 0 ≤ x ∧ x < p2 k) (hb : 0 ≤ b ∧ b ≤ 4294967295) (hp : b * p2 k < 9223372036854775808) : orJ x (shlJ b k) = x + b * p2 k := by
  have hq := p2_pos k
  have hm : 0 ≤ b * p2 k := Int.mul_nonneg hb.1 (by omega)
  have hpk : p2 k ≤ p2 35 := p2_mono hk.2
  rw [show p2 35 = 34359738368 by decide] at hpk
  have e1 : shlJ b k = b * p2 k := by
    unfold shlJ
    rw [shl64 (by omega), toJ_ofJ (by omega)]
  rw [e1, orJ_nn ⟨hx.1, by omega⟩ ⟨hm, by omega⟩]
  have k1 : (b * p2 k).toNat = b.toNat * 2 ^ k.toNat := by
    apply Int.ofNat_inj.mp
    rw [Int.toNat_of_nonneg hm, Int.natCast_mul, Int.toNat_of_nonneg hb.1]
    rfl
  have ep : ((2 ^ k.toNat : Nat) : Int) = p2 k := rfl
  rw [k1, or_add (k := k.toNat) (by omega)]
  rw [Int.natCast_add, Int.natCast_mul, Int.toNat_of_nonneg hx.1, Int.toNat_of_nonneg hb.1, ep]
theorem p7 {i : Int} (h : 0 ≤ i) : p2 (7 * (i + 1)) = 128 * p2 (7 * i) := by
  rw [show 7 * (i + 1) = 7 + 7 * i by omega, p2_add (by omega) (by omega), show p2 7 = 128 by decide]
theorem TL_s {x b z i : Int} (hx : x < p2 (7 * i)) (hq : z = orJ x (shlJ b (7 * i))) (hi : 0 ≤ i ∧ i ≤ 4) (h0 : 0 ≤ x) (hb : 0 ≤ b ∧ b ≤ 127) : z = x + b * p2 (7 * i) ∧ z < p2 (7 * (i + 1)) ∧ 0 ≤ z ∧ z ≤ 34359738367 := by
  have hp := p2_pos (7 * i)
  have hle : p2 (7 * i) ≤ p2 28 := p2_mono (by omega)
  rw [show p2 28 = 268435456 by decide] at hle
  have hm : b * p2 (7 * i) ≤ 127 * p2 (7 * i) := Int.mul_le_mul_of_nonneg_right hb.2 (by omega)
  have hm0 : 0 ≤ b * p2 (7 * i) := Int.mul_nonneg hb.1 (by omega)
  have e := hq.trans (or_sh (k := 7 * i) (by omega) ⟨h0, hx⟩ (by omega) (by omega))
  have e3 : 0 ≤ z ∧ z ≤ 34359738367 := by omega
  have e2 : z < p2 (7 * (i + 1)) := by rw [p7 hi.1]; omega
  exact ⟨e, e2, e3⟩

def TLz (I : Int → Int) (e p most x q : Int) : Prop := (most < x → TLQ I e p most (3, p, 0, 0)) ∧ (x ≤ most → TLQ I e p most (0, 0, x, q))
def TLO (I : Int → Int) (e p most i x : Int) : Prop := ITO (TLs I e p) (TLe I e p most) (0, 0) (i, x)
theorem TLO_0 {I : Int → Int} {e p most : Int} : TLO I e p most 0 0 := ITO_0
theorem TLO_s {I : Int → Int} {e p most i x q v i2 x2 : Int} (h : TLO I e p most i x) (hi : i < 4) (hq : q = p + i) (he : q < e) (hv : I q = v) (hb : 128 ≤ v) (hi2 : i2 = i + 1) (hx : x2 = x + v % 128 * p2 (7 * i)) : TLO I e p most i2 x2 := by
  subst hq hv hi2 hx
  exact ITO_s h ⟨hi, he, hb, rfl⟩
theorem TLO_1 {I : Int → Int} {e p most i x q f pl : Int} (h : TLO I e p most i x) (hq : q = p + i) (he : e ≤ q) (hf : f = 1) (hp : pl = e) : TLQ I e p most (f, pl, 0, 0) := by
  subst hq hf hp
  exact ITO_e h (.inl ⟨he, rfl⟩)
theorem TLO_2 {I : Int → Int} {e p most i x q v f pl : Int} (h : TLO I e p most i x) (hi : i = 4) (hq : q = p + i) (he : q < e) (hv : I q = v) (hb : 15 < v) (hf : f = 2) (hp : pl = p) : TLQ I e p most (f, pl, 0, 0) := by
  subst hq hv hf hp
  exact ITO_e h (.inr ⟨he, .inl ⟨by show (4 : Int) ≤ i; omega, hb, rfl⟩⟩)
theorem TLO_z {I : Int → Int} {e p most i x q v x2 q2 : Int} (h : TLO I e p most i x) (hi : i < 4 ∨ v ≤ 15) (hq : q = p + i) (he : q < e) (hv : I q = v) (hb : v < 128) (hx : x2 = x + v % 128 * p2 (7 * i)) (hq2 : q2 = q + 1) : TLz I e p most x2 q2 := by
  subst hq hv hx hq2
  exact ⟨fun z => ITO_e h (.inr ⟨he, .inr ⟨hi, hb, .inl ⟨z, rfl⟩⟩⟩), fun z => ITO_e h (.inr ⟨he, .inr ⟨hi, hb, .inr ⟨z, rfl⟩⟩⟩)⟩

section TYr
variable {I : Int → Int} {e len p f pl t b x n d : Int} {C : List Int}

def TYt (I : Int → Int) (p t b x n d : Int) : Prop := I p = t ∧ TEb t = b ∧ nvl I (p + 1) b.toNat = x ∧ TEl t x = n ∧ TEd t x = d
theorem TYt_1 (ht : I p = t) (hb : TEb t = b) (h0 : p < e) (he : e < p + 1 + b) (hf : f = 1) (hp : pl = e) : TYe I e len (p, C) (f, pl, []) := by
  subst hf hp ht hb
  exact .inr ⟨h0, .inl ⟨he, rfl⟩⟩
theorem TYt_4 (h : TYt I p t b x n d) (h0 : p < e) (he : p + 1 + b ≤ e) (hk : t % 4 ≠ 0) (hd : d < 1 ∨ (C.length : Int) < d) (hf : f = 4) (hp : pl = p) : TYe I e len (p, C) (f, pl, []) := by
  obtain ⟨a1, a2, a3, a4, a5⟩ := h
  subst hf hp a1 a2 a3 a4 a5
  exact .inr ⟨h0, .inr ⟨he, .inl ⟨hk, hd, rfl⟩⟩⟩
theorem TYt_5 (h : TYt I p t b x n d) (h0 : p < e) (he : p + 1 + b ≤ e) (hk : t % 4 = 0 ∨ 1 ≤ d ∧ d ≤ (C.length : Int)) (hn : len - (C.length : Int) < n) (hf : f = 5) (hp : pl = p) : TYe I e len (p, C) (f, pl, []) := by
  obtain ⟨a1, a2, a3, a4, a5⟩ := h
  subst hf hp a1 a2 a3 a4 a5
  exact .inr ⟨h0, .inr ⟨he, .inr ⟨hk, .inl ⟨hn, rfl⟩⟩⟩⟩
theorem TYt_l (h : TYt I p t b x n d) (h0 : p < e) (he : p + 1 + b ≤ e) (hk : t % 4 = 0) (hn : n ≤ len - (C.length : Int)) (hl : e - (p + 1 + b) < n) (hf : f = 1) (hp : pl = e) : TYe I e len (p, C) (f, pl, []) := by
  obtain ⟨a1, a2, a3, a4, a5⟩ := h
  subst hf hp a1 a2 a3 a4 a5
  exact .inr ⟨h0, .inr ⟨he, .inr ⟨.inl hk, .inr ⟨hn, hk, hl, rfl⟩⟩⟩⟩
theorem TYs_c {q : Int} {C2 : List Int} (h : TYt I p t b x n d) (h0 : p < e) (he : p + 1 + b ≤ e) (hk : t % 4 ≠ 0) (hd : 1 ≤ d ∧ d ≤ (C.length : Int)) (hn : n ≤ len - (C.length : Int)) (hq : q = p + 1 + b) (hC : C2 = cpb C d n.toNat) : TYs I e len (p, C) (q, C2) := by
  obtain ⟨a1, a2, a3, a4, a5⟩ := h
  subst hq hC a1 a2 a3 a4 a5
  exact ⟨h0, he, hn, .inl ⟨hk, hd.1, hd.2, rfl⟩⟩
theorem TYs_l {q q0 : Int} {C2 : List Int} (h : TYt I p t b x n d) (h0 : p < e) (he : p + 1 + b ≤ e) (hk : t % 4 = 0) (hn : n ≤ len - (C.length : Int)) (hl : n ≤ e - (p + 1 + b)) (hq0 : q0 = p + 1 + b) (hq : q = q0 + n) (hC : C2 = C ++ sc I q0 q) : TYs I e len (p, C) (q, C2) := by
  obtain ⟨a1, a2, a3, a4, a5⟩ := h
  subst hC hq hq0 a1 a2 a3 a4 a5
  exact ⟨h0, he, hn, .inr ⟨hk, hl, rfl⟩⟩
theorem TYe_6 (h : e ≤ p) (hl : (C.length : Int) < len) (hf : f = 6) (hp : pl = e) : TYe I e len (p, C) (f, pl, []) := by
  subst hf hp
  exact .inl ⟨h, .inl ⟨hl, rfl⟩⟩
theorem TYe_0 (h : e ≤ p) (hl : len ≤ (C.length : Int)) (hf : f = 0) (hp : pl = e) : TYe I e len (p, C) (f, pl, C) := by
  subst hf hp
  exact .inl ⟨h, .inr ⟨hl, rfl⟩⟩
end TYr
def TYO (I : Int → Int) (e len q : Int) (p : Int) (C : List Int) : Prop := ITO (TYs I e len) (TYe I e len) (q, []) (p, C)

def MKQ (I : Int → Int) (p N : Int) : Prop := p + 10 ≤ N ∧ ∀ k, 0 ≤ k → k < 6 → I (p + 4 + k) = TGm.getD (4 + k).toNat 0

def TUh (I : Int → Int) (N p f pl k z : Int) : Prop := k = I p ∧ ((p = 0 ∧ k ≠ 255 ∧ f = 8 ∧ pl = p) ∨ ((p ≠ 0 ∨ k = 255) ∧ ((2 ≤ k ∧ k ≤ 127 ∧ f = 9 ∧ pl = p) ∨ ((k < 2 ∨ 127 < k) ∧ ((N < p + 4 ∧ f = 7 ∧ pl = N) ∨ (p + 4 ≤ N ∧ z = nvl I (p + 1) 3 ∧ ((N < p + 4 + z ∧ f = 7 ∧ pl = N) ∨ (p + 4 + z ≤ N ∧ (
  (k = 255 ∧ ¬(z = 6 ∧ MKQ I p N) ∧ f = 8 ∧ pl = p) ∨ (k = 255 ∧ z = 6 ∧ MKQ I p N ∧ f = 0) ∨ (k < 2 ∧ (z < 4 ∨ k = 1 ∧ 65540 < z) ∧ f = 10 ∧ pl = p) ∨ (k < 2 ∧ ¬(z < 4 ∨ k = 1 ∧ 65540 < z) ∧ f = 0) ∨ (2 ≤ k ∧ k ≠ 255 ∧ f = 0))))))))))
theorem TUh_det {I : Int → Int} {N p f pl k z f2 pl2 k2 z2 : Int} (h : TUh I N p f pl k z) (q : TUh I N p f2 pl2 k2 z2) : k = k2 ∧ f = f2 ∧ (f ≠ 0 → pl = pl2) ∧ (f = 0 → z = z2) := by
  obtain ⟨a, h⟩ := h
  obtain ⟨a', q⟩ := q
  have ek : k = k2 := by omega
  subst ek
  rcases h with ⟨b1, b2, b3, b4⟩ | ⟨b0, h⟩ <;> rcases q with ⟨c1, c2, c3, c4⟩ | ⟨c0, q⟩ <;> try omega
  rcases h with ⟨b1, b2, b3, b4⟩ | ⟨b1, h⟩ <;> rcases q with ⟨c1, c2, c3, c4⟩ | ⟨c1, q⟩ <;> try omega
  rcases h with ⟨b1, b2, b3⟩ | ⟨b2, b3, h⟩ <;> rcases q with ⟨c1, c2, c3⟩ | ⟨c2, c3, q⟩ <;> try omega
  rw [← b3] at c3
  subst c3
  rcases h with ⟨b1, b2, b3⟩ | ⟨b4, h⟩ <;> rcases q with ⟨c1, c2, c3⟩ | ⟨c4, q⟩ <;> try omega
  rcases h with ⟨b5, b6, b7, b8⟩ | ⟨b5, b6, b7, b8⟩ | ⟨b5, b6, b7, b8⟩ | ⟨b5, b6, b7⟩ | ⟨b5, b6, b7⟩ <;> rcases q with ⟨c5, c6, c7, c8⟩ | ⟨c5, c6, c7, c8⟩ | ⟨c5, c6, c7, c8⟩ | ⟨c5, c6, c7⟩ | ⟨c5, c6, c7⟩ <;> first | omega | exact absurd ⟨c6, c7⟩ b6 | exact absurd ⟨b6, b7⟩ c6

def TUb (I : Int → Int) (most p k z : Int) (C : List Int) (f pl : Int) (X : List Int) : Prop :=
  (k = 0 ∧ ∃ f0 pl0 V, TYB I (p + 4 + z) (p + 8) (if 65536 ≤ most - (C.length : Int) then 65536 else most - (C.length : Int)) (f0, pl0, V) ∧ ((f0 ≠ 0 ∧ (f0 = 1 ∧ f = 12 ∨ f0 ≠ 1 ∧ f = f0) ∧ pl = pl0) ∨ (f0 = 0 ∧ f = 0 ∧ X = V))) ∨
  (k ≠ 0 ∧ ((most - (C.length : Int) < z - 4 ∧ f = 3 ∧ pl = p + 8 + (most - (C.length : Int))) ∨ (z - 4 ≤ most - (C.length : Int) ∧ f = 0 ∧ X = sc I (p + 8) (p + 4 + z))))
theorem TUb_det {I : Int → Int} {most p k z f pl f2 pl2 : Int} {C X X2 : List Int} (h : TUb I most p k z C f pl X) (q : TUb I most p k z C f2 pl2 X2) : f = f2 ∧ (f ≠ 0 → pl = pl2) ∧ (f = 0 → X = X2) := by
  rcases h with ⟨a, f0, pl0, V, b, h⟩ | ⟨a, h⟩ <;> rcases q with ⟨a', f0', pl0', V', b', q⟩ | ⟨a', q⟩
  · have e0 := TYB_det b b'
    have e1 : f0 = f0' := congrArg (fun x : Int × Int × List Int => x.1) e0
    have e2 : pl0 = pl0' := congrArg (fun x : Int × Int × List Int => x.2.1) e0
    have e3 : V = V' := congrArg (fun x : Int × Int × List Int => x.2.2) e0
    subst e1 e2 e3
    rcases h with ⟨c1, c2, c3⟩ | ⟨c1, c2, c3⟩ <;> rcases q with ⟨d1, d2, d3⟩ | ⟨d1, d2, d3⟩
    · exact ⟨by omega, fun _ => by omega, fun z => by omega⟩
    · omega
    · omega
    · exact ⟨by omega, fun z => by omega, fun _ => by rw [c3, d3]⟩
  · exact absurd a a'
  · exact absurd a' a
  · rcases h with ⟨c1, c2, c3⟩ | ⟨c1, c2, c3⟩ <;> rcases q with ⟨d1, d2, d3⟩ | ⟨d1, d2, d3⟩
    · exact ⟨by omega, fun _ => by omega, fun z => by omega⟩
    · omega
    · omega
    · exact ⟨by omega, fun z => by omega, fun _ => by rw [c3, d3]⟩
def TUc (I : Int → Int) (p : Int) (X : List Int) : Prop := nvl I (p + 4) 4 = MSK (PLS X) % 4294967296
def TUs (I : Int → Int) (N most : Int) (s t : Int × List Int) : Prop := s.1 < N ∧ ∃ pl k z, TUh I N s.1 0 pl k z ∧ ((2 ≤ k ∧ t = (s.1 + 4 + z, s.2)) ∨ (k < 2 ∧ ∃ pl0 X, TUb I most s.1 k z s.2 0 pl0 X ∧ TUc I s.1 X ∧ t = (s.1 + 4 + z, s.2 ++ X)))
def TUe (I : Int → Int) (N most : Int) (s : Int × List Int) (R : Int × Int × List Int) : Prop := (N ≤ s.1 ∧ R = (0, N, s.2)) ∨ (s.1 < N ∧ ∃ f pl k z, TUh I N s.1 f pl k z ∧ ((f ≠ 0 ∧ R = (f, pl, [])) ∨ (f = 0 ∧ k < 2 ∧ ∃ f0 pl0 X, TUb I most s.1 k z s.2 f0 pl0 X ∧ ((f0 ≠ 0 ∧ R = (f0, pl0, [])) ∨ (f0 = 0 ∧ ¬ TUc I s.1 X ∧ R = (11, s.1 + 4, []))))))
theorem TUs_det {I : Int → Int} {N most : Int} (s t u : Int × List Int) (h : TUs I N most s t) (q : TUs I N most s u) : t = u := by
  obtain ⟨_, pl, k, z, a, h⟩ := h
  obtain ⟨_, pl', kₚ, z', a', q⟩ := q
  obtain ⟨e1, _, _, e2⟩ := TUh_det a a'
  have e2 := e2 rfl
  subst e1 e2
  rcases h with ⟨b, c⟩ | ⟨b, pl0, X, c, d, e⟩ <;> rcases q with ⟨b', cₚ⟩ | ⟨b', pl0', X', cₚ, d', e'⟩ <;> try omega
  · rw [c, cₚ]
  · have := (TUb_det c cₚ).2.2 rfl
    rw [e, e', this]
theorem TUe_det {I : Int → Int} {N most : Int} (s : Int × List Int) (R R2 : Int × Int × List Int) (h : TUe I N most s R) (q : TUe I N most s R2) : R = R2 := by
  rcases h with ⟨a, b⟩ | ⟨a, f, pl, k, z, b, h⟩ <;> rcases q with ⟨a', b'⟩ | ⟨a', f', pl', kₚ, z', b', q⟩ <;> first | (exfalso; omega) | (rw [b, b']) | skip
  obtain ⟨e1, e2, e3, e4⟩ := TUh_det b b'
  subst e1 e2
  rcases h with ⟨c, d⟩ | ⟨c, c2, f0, pl0, X, d, h⟩ <;> rcases q with ⟨cₚ, d'⟩ | ⟨cₚ, c2', f0', pl0', X', d', q⟩
  · rw [d, d', e3 c]
  · exact absurd cₚ c
  · exact absurd c cₚ
  · have e4 := e4 c
    subst e4
    obtain ⟨g1, g2, g3⟩ := TUb_det d d'
    subst g1
    rcases h with ⟨x, y⟩ | ⟨x, y, w⟩ <;> rcases q with ⟨x', y'⟩ | ⟨x', y', w'⟩
    · rw [y, y', g2 x]
    · exact absurd x' x
    · exact absurd x x'
    · rw [w, w']
theorem TUse {I : Int → Int} {N most : Int} (s t : Int × List Int) (R : Int × Int × List Int) (h : TUs I N most s t) : ¬ TUe I N most s R := fun q => by
  obtain ⟨h1, pl, k, z, a, h⟩ := h
  rcases q with ⟨a', b'⟩ | ⟨a', f', pl', kₚ, z', b', q⟩
  · omega
  · obtain ⟨e1, e2, e3, e4⟩ := TUh_det a b'
    subst e1 e2
    rcases q with ⟨cₚ, d'⟩ | ⟨cₚ, c2', f0', pl0', X', d', q⟩
    · exact absurd rfl cₚ
    · have e4 := e4 rfl
      subst e4
      rcases h with ⟨b, c⟩ | ⟨b, pl0, X, c, d, e⟩
      · omega
      · obtain ⟨g1, g2, g3⟩ := TUb_det c d'
        subst g1
        rcases q with ⟨x', y'⟩ | ⟨x', y', w'⟩
        · exact absurd rfl x'
        · exact y' (by rw [← g3 rfl]; exact d)
def RDU (I : Int → Int) (N most ret pl n : Int) (g : Int → Int) : Prop := ∃ f V, IT (TUs I N most) (TUe I N most) (0, []) (f, pl, V) ∧ (f = 0 ∧ ret = n ∧ 0 ≤ n ∧ sc g 0 n = V ∨ 1 ≤ f ∧ ret = -f)
theorem RDU_det {I : Int → Int} {N most ret pl n ret2 pl2 n2 : Int} {g g2 : Int → Int} (h : RDU I N most ret pl n g) (k : RDU I N most ret2 pl2 n2 g2) : ret = ret2 ∧ pl = pl2 ∧ (0 ≤ ret → n = n2 ∧ sc g 0 n = sc g2 0 n2) := by
  obtain ⟨f, V, a, b⟩ := h
  obtain ⟨f2, V2, a2, b2⟩ := k
  have e1 := IT_det TUs_det TUe_det TUse a a2
  have ef : f = f2 := congrArg (fun q : Int × Int × List Int => q.1) e1
  have ep : pl = pl2 := congrArg (fun q : Int × Int × List Int => q.2.1) e1
  have eV : V = V2 := congrArg (fun q : Int × Int × List Int => q.2.2) e1
  subst ef ep eV
  rcases b with ⟨x, y, z, u⟩ | ⟨x, y⟩ <;> rcases b2 with ⟨x2, y2, z2, u2⟩ | ⟨x2, y2⟩
  · have es : sc g 0 n = sc g2 0 n2 := u.trans u2.symm
    have l1 := sc_lenI (f := g) z
    have l2 := sc_lenI (f := g2) z2
    rw [es] at l1
    exact ⟨by omega, rfl, fun _ => ⟨by omega, es⟩⟩
  · omega
  · omega
  · exact ⟨by omega, rfl, fun q => by omega⟩
theorem andI_3 (a : Int) : andI a 3 = a % 4 := by
  have e : (Int32.ofInt a &&& Int32.ofInt 3).toBitVec.toNat = (Int32.ofInt a).toBitVec.toNat % 4 := by
    show ((Int32.ofInt a).toBitVec &&& (Int32.ofInt 3).toBitVec).toNat = _
    rw [BitVec.toNat_and, show (Int32.ofInt 3).toBitVec.toNat = 2 ^ 2 - 1 from by decide, Nat.and_two_pow_sub_one_eq_mod]
  have e2 := nU_m a
  rw [← nU_of] at e2
  unfold andI
  show (Int32.ofInt a &&& Int32.ofInt 3).toBitVec.toInt = _
  rw [BitVec.toInt_eq_toNat_of_lt (by rw [e]; omega), e]
  omega
theorem nmb_nn {d : Int → Int} {a n r : Int} (h : r = nmb d a n n.toNat) (hn : 0 ≤ n ∧ n ≤ 7) (hr : inrJ r) : r = nvl d a n.toNat := by
  have q := nmb_nvl (d := d) (a := a) (n := n) (k := n.toNat) (by omega)
  have w := nvl_rng (f := d) (n := n.toNat) (a := a)
  rw [show ((n.toNat : Nat) : Int) = n by omega] at q w
  rw [show a + n - n = a by omega, ← h] at q
  have hp : p2 (8 * n) ≤ p2 56 := p2_mono (by omega)
  rw [show p2 56 = 72057594037927936 by decide] at hp
  omega
theorem NVQ_nn {f : Int → Int} {a n r : Int} (h : NVQ f a n r) (hn : 0 ≤ n ∧ n ≤ 7) (hr : inrJ r) : r = nvl f a n.toNat := by
  have w := nvl_rng (f := f) (n := n.toNat) (a := a)
  rw [show ((n.toNat : Nat) : Int) = n by omega] at w
  have h : r % 18446744073709551616 = nvl f a n.toNat := h
  have hp : p2 (8 * n) ≤ p2 56 := p2_mono (by omega)
  rw [show p2 56 = 72057594037927936 by decide] at hp
  omega

def ISM (f : Int → Int) (a e r : Int) : Prop := r = 1 ∧ a + 10 ≤ e ∧ (∀ k, 0 ≤ k → k < 10 → u8 (f (a + k)) = TGm.getD k.toNat 0) ∨ r = 0 ∧ ¬(a + 10 ≤ e ∧ ∀ k, 0 ≤ k → k < 10 → u8 (f (a + k)) = TGm.getD k.toNat 0)
def ISI (f : Int → Int) (a n : Int) : Prop := ∀ k, 0 ≤ k → k < n → u8 (f (a + k)) = TGm.getD k.toNat 0
theorem ISI_0 {f : Int → Int} {a : Int} : ISI f a 0 := fun k x y => absurd y (by omega)
theorem ISI_s {f : Int → Int} {a n m : Int} (h : ISI f a n) (e : u8 (f (a + n)) = TGm.getD n.toNat 0) (hm : m = n + 1) : ISI f a m := fun k x y => by
  by_cases z : k = n
  · rw [z]; exact e
  · exact h k x (by omega)
theorem mk_u8 {i v : Int} (hi : 0 ≤ i ∧ i < 10) (h : ([-1, 6, 0, 0, 115, 78, 97, 80, 112, 89] : List Int).getD i.toNat 0 = v) : u8 v = TGm.getD i.toNat 0 ∧ -128 ≤ v ∧ v ≤ 127 := by
  have k : ∀ n : Fin 10, u8 (([-1, 6, 0, 0, 115, 78, 97, 80, 112, 89] : List Int).getD n.val 0) = TGm.getD n.val 0 ∧ -128 ≤ (([-1, 6, 0, 0, 115, 78, 97, 80, 112, 89] : List Int).getD n.val 0) ∧ (([-1, 6, 0, 0, 115, 78, 97, 80, 112, 89] : List Int).getD n.val 0) ≤ 127 := by decide
  have := k ⟨i.toNat, by omega⟩
  have this : u8 (([-1, 6, 0, 0, 115, 78, 97, 80, 112, 89] : List Int).getD i.toNat 0) = TGm.getD i.toNat 0 ∧ -128 ≤ (([-1, 6, 0, 0, 115, 78, 97, 80, 112, 89] : List Int).getD i.toNat 0) ∧ (([-1, 6, 0, 0, 115, 78, 97, 80, 112, 89] : List Int).getD i.toNat 0) ≤ 127 := this
  rw [h] at this
  exact this
theorem ISM_n {f : Int → Int} {a e i v w : Int} (hi : 0 ≤ i ∧ i < 10) (hv : f (a + i) = v) (hw : u8 w = TGm.getD i.toNat 0) (hr : -128 ≤ w ∧ w ≤ 127) (hr2 : -128 ≤ v ∧ v ≤ 127) (hn : v ≠ w) : ISM f a e 0 := .inr ⟨rfl, fun k => by
  have h := k.2 i hi.1 hi.2
  rw [hv, ← hw, u8_inj hr2 hr] at h
  exact hn h⟩

theorem ISM_K {f : Int → Int} {p N r : Int} (h : ISM f p N r) (hk : u8 (f p) = 255) (hz : nvl f (p + 1) 3 = 6) : (r = 1 ∧ MKQ (ub8 f) p N) ∨ (r = 0 ∧ ¬ MKQ (ub8 f) p N) := by
  have r1 := u8_rng (f (p + 1))
  have r2 := u8_rng (f (p + 1 + 1))
  have r3 := u8_rng (f (p + 1 + 1 + 1))
  have hz : u8 (f (p + 1)) + 256 * (u8 (f (p + 1 + 1)) + 256 * (u8 (f (p + 1 + 1 + 1)) + 256 * 0)) = 6 := hz
  rcases h with ⟨a, b, c⟩ | ⟨a, c⟩
  · refine .inl ⟨a, b, fun k x y => ?_⟩
    have := c (4 + k) (by omega) (by omega)
    rw [show p + (4 + k) = p + 4 + k by omega] at this
    exact this
  · refine .inr ⟨a, fun q => c ⟨q.1, fun k x y => ?_⟩⟩
    by_cases z : k < 4
    · rcases (show k = 0 ∨ k = 1 ∨ k = 2 ∨ k = 3 by omega) with e | e | e | e <;> subst e
      · rw [show p + 0 = p by omega, hk]; rfl
      · rw [show u8 (f (p + 1)) = 6 by omega]; rfl
      · rw [show p + 2 = p + 1 + 1 by omega, show u8 (f (p + 1 + 1)) = 0 by omega]; rfl
      · rw [show p + 3 = p + 1 + 1 + 1 by omega, show u8 (f (p + 1 + 1 + 1)) = 0 by omega]; rfl
    · have := q.2 (k - 4) (by omega) (by omega)
      rw [show p + 4 + (k - 4) = p + k by omega, show (4 + (k - 4)).toNat = k.toNat by omega] at this
      exact this
section TUr
variable {I : Int → Int} {N most p f pl k z : Int} {C : List Int}
theorem TUh_8 (hk : I p = k) (h : p = 0) (hn : k ≠ 255) (hf : f = 8) (hp : pl = p) : TUh I N p f pl k z := ⟨hk.symm, .inl ⟨h, hn, hf, hp⟩⟩
theorem TUh_9 (hk : I p = k) (h : p ≠ 0 ∨ k = 255) (hn : 2 ≤ k ∧ k ≤ 127) (hf : f = 9) (hp : pl = p) : TUh I N p f pl k z := ⟨hk.symm, .inr ⟨h, .inl ⟨hn.1, hn.2, hf, hp⟩⟩⟩
theorem TUh_7 (hk : I p = k) (h : p ≠ 0 ∨ k = 255) (hn : k < 2 ∨ 127 < k) (h4 : N < p + 4) (hf : f = 7) (hp : pl = N) : TUh I N p f pl k z := ⟨hk.symm, .inr ⟨h, .inr ⟨hn, .inl ⟨h4, hf, hp⟩⟩⟩⟩
theorem TUh_z (hk : I p = k) (h : p ≠ 0 ∨ k = 255) (hn : k < 2 ∨ 127 < k) (h4 : p + 4 ≤ N) (hz : z = nvl I (p + 1) 3) (hl : N < p + 4 + z) (hf : f = 7) (hp : pl = N) : TUh I N p f pl k z := ⟨hk.symm, .inr ⟨h, .inr ⟨hn, .inr ⟨h4, hz, .inl ⟨hl, hf, hp⟩⟩⟩⟩⟩

def TUg (I : Int → Int) (N p k z : Int) : Prop := I p = k ∧ (p ≠ 0 ∨ k = 255) ∧ (k < 2 ∨ 127 < k) ∧ p + 4 ≤ N ∧ z = nvl I (p + 1) 3 ∧ p + 4 + z ≤ N
theorem TUh_m (g : TUg I N p k z) (hk : k = 255) (hn : ¬(z = 6 ∧ MKQ I p N)) (hf : f = 8) (hp : pl = p) : TUh I N p f pl k z := ⟨g.1.symm, .inr ⟨g.2.1, .inr ⟨g.2.2.1, .inr ⟨g.2.2.2.1, g.2.2.2.2.1, .inr ⟨g.2.2.2.2.2, .inl ⟨hk, hn, hf, hp⟩⟩⟩⟩⟩⟩
theorem TUh_10 (g : TUg I N p k z) (hk : k < 2) (hn : z < 4 ∨ k = 1 ∧ 65540 < z) (hf : f = 10) (hp : pl = p) : TUh I N p f pl k z := ⟨g.1.symm, .inr ⟨g.2.1, .inr ⟨g.2.2.1, .inr ⟨g.2.2.2.1, g.2.2.2.2.1, .inr ⟨g.2.2.2.2.2, .inr (.inr (.inl ⟨hk, hn, hf, hp⟩))⟩⟩⟩⟩⟩
theorem TUh_0 (g : TUg I N p k z) (h : (k = 255 ∧ z = 6 ∧ MKQ I p N) ∨ (k < 2 ∧ ¬(z < 4 ∨ k = 1 ∧ 65540 < z)) ∨ (2 ≤ k ∧ k ≠ 255)) (hf : f = 0) : TUh I N p f pl k z := by
  refine ⟨g.1.symm, .inr ⟨g.2.1, .inr ⟨g.2.2.1, .inr ⟨g.2.2.2.1, g.2.2.2.2.1, .inr ⟨g.2.2.2.2.2, ?_⟩⟩⟩⟩⟩
  rcases h with ⟨a, b, c⟩ | ⟨a, b⟩ | ⟨a, b⟩
  · exact .inr (.inl ⟨a, b, c, hf⟩)
  · exact .inr (.inr (.inr (.inl ⟨a, b, hf⟩)))
  · exact .inr (.inr (.inr (.inr ⟨a, b, hf⟩)))
theorem TUe_h (h0 : p < N) (h : TUh I N p f pl k z) (hf : f ≠ 0) : TUe I N most (p, C) (f, pl, []) := .inr ⟨h0, f, pl, k, z, h, .inl ⟨hf, rfl⟩⟩
theorem TUe_b {X : List Int} (h0 : p < N) (h : TUh I N p 0 0 k z) (hk : k < 2) (b : TUb I most p k z C f pl X) (hf : f ≠ 0) : TUe I N most (p, C) (f, pl, []) := .inr ⟨h0, 0, 0, k, z, h, .inr ⟨rfl, hk, f, pl, X, b, .inl ⟨hf, rfl⟩⟩⟩
theorem TUe_c {X : List Int} {pl0 : Int} (h0 : p < N) (h : TUh I N p 0 0 k z) (hk : k < 2) (b : TUb I most p k z C 0 pl0 X) (hc : ¬ TUc I p X) (hf : f = 11) (hp : pl = p + 4) : TUe I N most (p, C) (f, pl, []) := by
  subst hf hp
  exact .inr ⟨h0, 0, 0, k, z, h, .inr ⟨rfl, hk, 0, pl0, X, b, .inr ⟨rfl, hc, rfl⟩⟩⟩
theorem TUs_n {q : Int} (h0 : p < N) (h : TUh I N p 0 0 k z) (hk : 2 ≤ k) (hq : q = p + 4 + z) : TUs I N most (p, C) (q, C) := by
  subst hq
  exact ⟨h0, 0, k, z, h, .inl ⟨hk, rfl⟩⟩
theorem TUs_y {q pl0 : Int} {X C2 : List Int} (h0 : p < N) (h : TUh I N p 0 0 k z) (hk : k < 2) (b : TUb I most p k z C 0 pl0 X) (hc : TUc I p X) (hq : q = p + 4 + z) (hC : C2 = C ++ X) : TUs I N most (p, C) (q, C2) := by
  subst hq hC
  exact ⟨h0, 0, k, z, h, .inr ⟨hk, pl0, X, b, hc, rfl⟩⟩
theorem TUe_0 (h : N ≤ p) (hf : f = 0) (hp : pl = N) : TUe I N most (p, C) (f, pl, C) := by
  subst hf hp
  exact .inl ⟨h, rfl⟩
end TUr


end
section
/-! 17y -/
theorem RQ_sc {cap n : Int} {g : Int → Int} (h0 : 0 ≤ n) : RQ cap g n (sc g 0 n) := ⟨by rw [sc_lenI h0]; omega, fun k k0 k1 _ => by
  have l := sc_lenI (f := g) k0
  rw [sc_cat k0 k1, List.take_append_of_le_length (by omega), List.take_of_length_le (by omega)]⟩
theorem QAP_sc {cap n n1 a : Int} {g g1 : Int → Int} {M : List Int} (h : QAP cap g n g1 n1 M) (ha : 0 ≤ a ∧ a ≤ n) (hc : n1 ≤ cap) : sc g1 a n1 = sc g a n ++ M := by
  have r := h _ (RQ_sc (by omega))
  have l := r.1
  have q := RQ_v r hc
  rw [List.length_append] at l
  have l0 := sc_lenI (f := g) (a := 0) (b := n) (by omega)
  rw [sc_cat (f := g1) (b := a) ha.1 (by omega), sc_cat (f := g) (b := a) ha.1 ha.2, List.append_assoc] at q
  have e1 := sc_lenI (f := g) ha.1
  have e2 := sc_lenI (f := g1) ha.1
  exact (List.append_inj q (by omega)).2
def KLO (f g : Int → Int) (n : Int) : Prop := ∀ i, i < n → g i = f i
theorem KLO_0 {f : Int → Int} {n : Int} : KLO f f n := fun _ _ => rfl
theorem KLO_t {f g k : Int → Int} {n m : Int} (h : KLO f g n) (q : KLO g k m) (hm : n ≤ m) : KLO f k n := fun i x => (q i (by omega)).trans (h i x)
theorem KLO_p {f g : Int → Int} {n m : Int} (h : ∀ i, i < n ∨ m ≤ i → g i = f i) : KLO f g n := fun i x => h i (.inl x)
theorem KLO_sc {f g : Int → Int} {a n : Int} (h : KLO f g n) : sc g a n = sc f a n := sc_same (fun k _ y => h k y)
theorem nvl_b {f : Int → Int} {a r q : Int} (hB : ∀ i, 0 ≤ f i ∧ f i ≤ 255) (h : r = nvl f a 1) (hq : q = a) : f q = r := by
  subst hq
  have h : r = u8 (f q) + 256 * 0 := h
  rw [u8_id (hB q)] at h
  omega
theorem nvl_3 {f : Int → Int} {a a1 a2 a3 b c d z : Int} (hB : ∀ i, 0 ≤ f i ∧ f i ≤ 255) (h1 : b = f a1) (e1 : a1 = a) (h2 : c = f a2) (e2 : a2 = a + 1) (h3 : d = f a3) (e3 : a3 = a + 2) (hz : z = b + 256 * c + 65536 * d) : z = nvl f a 3 := by
  subst e1 e2 e3
  show z = u8 (f a1) + 256 * (u8 (f (a1 + 1)) + 256 * (u8 (f (a1 + 1 + 1)) + 256 * 0))
  rw [u8_id (hB _), u8_id (hB _), u8_id (hB _), show a1 + 1 + 1 = a1 + 2 by omega]
  omega
theorem TEb_m0 {m : Int} (h : 0 ≤ m ∧ m < 60) : TEb (4 * m) = 0 := by have := TEb_eq (4 * m) (by omega); omega
theorem TEb_m1 {m : Int} (h : 60 ≤ m ∧ m ≤ 63) : TEb (4 * m) = m - 59 := by have := TEb_eq (4 * m) (by omega); omega
theorem TYt_m0 {I : Int → Int} {p m n : Int} (hI : I p = 4 * m) (hm : 0 ≤ m ∧ m < 60) (hn : n = m + 1) : ∃ x, TYt I p (4 * m) (TEb (4 * m)) x n x := by
  refine ⟨0, hI, rfl, ?_, ?_, ?_⟩
  · rw [TEb_m0 hm]; rfl
  · have := TEl_eq (4 * m) 0 (by omega); omega
  · have := TEd_eq (4 * m) 0; omega
theorem TYt_m1 {I : Int → Int} {p m n r q k : Int} (hI : I p = 4 * m) (hm : 60 ≤ m ∧ m ≤ 63) (hr : r = nvl I q k.toNat) (hq : q = p + 1) (hk : k = m - 59) (hn : n = r + 1) : ∃ x, TYt I p (4 * m) (TEb (4 * m)) x n x := by
  refine ⟨r, hI, rfl, ?_, ?_, ?_⟩
  · rw [TEb_m1 hm, hr, hq, hk]
  · have := TEl_eq (4 * m) r (by omega); omega
  · have := TEd_eq (4 * m) r; omega
theorem TYt_c {I : Int → Int} {p t kd m b r q n d : Int} (hI : I p = t) (ht : t = 4 * m + kd) (hk : 1 ≤ kd ∧ kd ≤ 3) (hm : 0 ≤ m ∧ m ≤ 63) (hb : kd = 3 ∧ b = 4 ∨ kd ≠ 3 ∧ b = kd) (hr : r = nvl I q b.toNat) (hq : q = p + 1) (hn : kd = 1 ∧ n = m % 8 + 4 ∨ kd ≠ 1 ∧ n = m + 1) (hd : kd = 1 ∧ d = r + 256 * (m / 8) ∨ kd ≠ 1 ∧ d = r) : TYt I p t b r n d := by
  refine ⟨hI, ?_, ?_, ?_, ?_⟩
  · have := TEb_eq t (by omega); omega
  · rw [hr, hq]
  · have := TEl_eq t r (by omega); omega
  · have := TEd_eq t r; omega
theorem TEb_c {t kd m b : Int} (ht : t = 4 * m + kd) (hk : 1 ≤ kd ∧ kd ≤ 3) (hm : 0 ≤ m ∧ m ≤ 63) (hb : kd = 3 ∧ b = 4 ∨ kd ≠ 3 ∧ b = kd) : TEb t = b := by have := TEb_eq t (by omega); omega

theorem CPQ {cap : Int} {W : List Int} {g g1 : Int → Int} {a n n1 d k k2 w q : Int} (h : sc g a n = cpb W d k.toNat) (hk : 0 ≤ k) (ha : 0 ≤ a) (hd : 1 ≤ d ∧ d ≤ n - a) (hv : g q = w) (hq : q = n - d) (hp : QAP cap g n g1 n1 [u8 w]) (hc : n1 ≤ cap) (ek : k2 = k + 1) : sc g1 a n1 = cpb W d k2.toNat := by
  have e := getD_hi (X := []) (g := g) (b := a) (n := n) (d := d) hd.1 (by omega)
  rw [List.nil_append, h] at e
  rw [QAP_sc hp ⟨ha, by omega⟩ hc, h]
  exact (cpb_s hk ek (by rw [e, ← hq, hv])).symm

theorem PTQ {cap : Int} {W : List Int} {I g g1 : Int → Int} {a n n1 p p1 q b : Int} (h : sc g a n = W ++ sc I q p) (ha : 0 ≤ a ∧ a ≤ n) (hq : q ≤ p) (hv : I p = b) (hp : QAP cap g n g1 n1 [u8 b]) (hc : n1 ≤ cap) (ep : p1 = p + 1) : sc g1 a n1 = W ++ sc I q p1 := by
  rw [QAP_sc hp ha hc, h, List.append_assoc, sc_snoc hq ep, hv]
def MKI (I : Int → Int) (p n : Int) : Prop := ∀ k, 0 ≤ k → k < n → I (p + 4 + k) = TGm.getD (4 + k).toNat 0
theorem MKI_0 {I : Int → Int} {p : Int} : MKI I p 0 := fun k x y => absurd y (by omega)
theorem MKI_s {I : Int → Int} {p n m b w q : Int} (h : MKI I p n) (hb : b = I q) (hq : q = p + 4 + n) (hw : w = TGm.getD (4 + n).toNat 0) (e : b = w) (hm : m = n + 1) : MKI I p m := fun k x y => by
  by_cases z : k = n
  · rw [z, ← hq, ← hb, e, hw]
  · exact h k x (by omega)
theorem MKI_n {I : Int → Int} {p n b w q N : Int} (hn : 0 ≤ n ∧ n < 6) (hb : b = I q) (hq : q = p + 4 + n) (hw : w = TGm.getD (4 + n).toNat 0) (e : b ≠ w) : ¬ MKQ I p N := fun k => e (by rw [hb, hq, hw]; exact k.2 n hn.1 hn.2)
theorem MKI_y {I : Int → Int} {p n N : Int} (h : MKI I p n) (hn : n = 6) (hN : p + 10 ≤ N) : MKQ I p N := ⟨hN, fun k x y => h k x (by omega)⟩
theorem w32_r (x : Int) : inr (w32 x) := toI_inr _
theorem TUc_y {I : Int → Int} {p s w : Int} {X : List Int} (hs : s = MSK (PLS X)) (hw : w = wdI I (p + 4)) (h : s = w) : TUc I p X := by
  have r := nvl_rng (f := I) (n := 4) (a := p + 4)
  rw [show p2 (8 * ((4 : Nat) : Int)) = 4294967296 by decide] at r
  show nvl I (p + 4) 4 = MSK (PLS X) % 4294967296
  rw [← hs, h, hw]
  show _ = w32 (nvl I (p + 4) 4) % 4294967296
  rw [w32_m]
  omega
theorem TUc_n {I : Int → Int} {p s w : Int} {X : List Int} (hs : s = MSK (PLS X)) (hr : inr s) (hw : w = wdI I (p + 4)) (h : s ≠ w) : ¬ TUc I p X := fun c => by
  have r := nvl_rng (f := I) (n := 4) (a := p + 4)
  rw [show p2 (8 * ((4 : Nat) : Int)) = 4294967296 by decide] at r
  have c : nvl I (p + 4) 4 = MSK (PLS X) % 4294967296 := c
  rw [← hs] at c
  have m := w32_m (nvl I (p + 4) 4)
  have r2 := w32_r (nvl I (p + 4) 4)
  have hw : w = w32 (nvl I (p + 4) 4) := hw
  rw [← hw] at m r2
  have hr : -2147483648 ≤ s ∧ s ≤ 2147483647 := hr
  have r2 : -2147483648 ≤ w ∧ w ≤ 2147483647 := r2
  omega
theorem wd_or4 {f : Int → Int} {p p0 p1 p2_ p3 a b c e : Int} (hB : ∀ i, 0 ≤ f i ∧ f i ≤ 255) (h0 : a = f p0) (e0 : p0 = p) (h1 : b = f p1) (e1 : p1 = p + 1) (h2 : c = f p2_) (e2 : p2_ = p + 2) (h3 : e = f p3) (e3 : p3 = p + 3) : orI (orI (orI a (slI b 8)) (slI c 16)) (slI e 24) = wdI f p := by
  subst e0 e1 e2 e3
  have k := wd_or (f := f) (p := p0) h0.symm h1.symm h2.symm h3.symm
  have a1 := hB p0
  have a2 := hB (p0 + 1)
  have a3 := hB (p0 + 2)
  rw [← h0] at a1
  rw [← h1] at a2
  rw [← h2] at a3
  rw [show a % 256 = a by omega, show b % 256 = b by omega, show c % 256 = c by omega] at k
  exact k
theorem TYB_f {I : Int → Int} {e p most f pl len q : Int} (h : TLQ I e p most (f, pl, 0, 0)) (hf : f ≠ 0) : TYB I e p most (f, pl, []) := ⟨f, pl, 0, 0, h, .inl ⟨hf, rfl⟩⟩
theorem TYB_i {I : Int → Int} {e p most len q : Int} {R : Int × Int × List Int} (h : TLQ I e p most (0, 0, len, q)) (k : IT (TYs I e len) (TYe I e len) (q, []) R) : TYB I e p most R := ⟨0, 0, len, q, h, .inr ⟨rfl, k⟩⟩
theorem TUb_0f {I : Int → Int} {most p k z f pl f0 e q mm : Int} {C : List Int} (hk : k = 0) (h : TYB I e q mm (f0, pl, [])) (he : e = p + 4 + z) (hq : q = p + 8) (hm : mm = (if 65536 ≤ most - (C.length : Int) then 65536 else most - (C.length : Int))) (h0 : f0 ≠ 0) (hf : f0 = 1 ∧ f = 12 ∨ f0 ≠ 1 ∧ f = f0) : TUb I most p k z C f pl [] := by
  subst he hq hm
  exact .inl ⟨hk, f0, pl, [], h, .inl ⟨h0, hf, rfl⟩⟩
theorem TUb_0y {I : Int → Int} {most p k z e q mm pl0 : Int} {C V : List Int} (hk : k = 0) (h : TYB I e q mm (0, pl0, V)) (he : e = p + 4 + z) (hq : q = p + 8) (hm : mm = (if 65536 ≤ most - (C.length : Int) then 65536 else most - (C.length : Int))) : TUb I most p k z C 0 0 V := by
  subst he hq hm
  exact .inl ⟨hk, 0, pl0, V, h, .inr ⟨rfl, rfl, rfl⟩⟩
theorem TUb_1f {I : Int → Int} {most p k z f pl : Int} {C X : List Int} (hk : k ≠ 0) (h : most - (C.length : Int) < z - 4) (hf : f = 3) (hp : pl = p + 8 + (most - (C.length : Int))) : TUb I most p k z C f pl X := .inr ⟨hk, .inl ⟨h, hf, hp⟩⟩
theorem TUb_1y {I : Int → Int} {most p k z a b : Int} {C X : List Int} (hk : k ≠ 0) (h : z - 4 ≤ most - (C.length : Int)) (hX : X = sc I a b) (ha : a = p + 8) (hb : b = p + 4 + z) : TUb I most p k z C 0 0 X := by
  subst ha hb
  exact .inr ⟨hk, .inr ⟨h, rfl, hX⟩⟩
theorem TUe_f2 {I : Int → Int} {N most p f pl k z : Int} {C : List Int} (h0 : p < N) (h : TUh I N p 0 0 k z) (hk : k < 2) (b : ∃ X, TUb I most p k z C f pl X) (hf : f ≠ 0) : TUe I N most (p, C) (f, pl, []) := by
  obtain ⟨X, b⟩ := b
  exact TUe_b h0 h hk b hf


end
section
/-! 18a -/
def bt (I : Int → Int) (k : Int) : Int := I (k / 8) / p2 (k % 8) % 2
theorem bt_rng (I : Int → Int) (k : Int) : 0 ≤ bt I k ∧ bt I k ≤ 1 := by unfold bt; omega
def bv (I : Int → Int) (b : Int) : Nat → Int
  | 0 => 0
  | n + 1 => bv I b n + bt I (b + n) * p2 n
theorem bv_rng {I : Int → Int} {b : Int} : ∀ {n : Nat}, 0 ≤ bv I b n ∧ bv I b n < p2 n
  | 0 => ⟨by show (0 : Int) ≤ 0; omega, by show (0 : Int) < p2 0; decide⟩
  | n + 1 => by
    have h := bv_rng (I := I) (b := b) (n := n)
    have r := bt_rng I (b + n)
    have p := p2_s (y := (n : Int)) (by omega)
    rw [show ((n + 1 : Nat) : Int) = (n : Int) + 1 by omega]
    show 0 ≤ bv I b n + bt I (b + n) * p2 n ∧ bv I b n + bt I (b + n) * p2 n < p2 ((n : Int) + 1)
    rcases (show bt I (b + n) = 0 ∨ bt I (b + n) = 1 by omega) with z | z <;> rw [z] <;> omega
theorem bv_s {I : Int → Int} {b k k2 v w q : Int} (h : v = bv I b k.toNat) (hk : 0 ≤ k) (e : k2 = k + 1) (hw : w = v + bt I q * p2 k) (hq : q = b + k) : w = bv I b k2.toNat := by
  subst e hq hw
  rw [show (k + 1).toNat = k.toNat + 1 by omega]
  show _ = bv I b k.toNat + bt I (b + (k.toNat : Int)) * p2 (k.toNat : Int)
  rw [show ((k.toNat : Nat) : Int) = k by omega, ← h]
theorem bv_1 {I : Int → Int} {b : Int} : bv I b 1 = bt I b := by
  show 0 + bt I (b + ((0 : Nat) : Int)) * p2 ((0 : Nat) : Int) = _
  rw [show p2 ((0 : Nat) : Int) = 1 by decide, show b + ((0 : Nat) : Int) = b by omega]
  omega
theorem bv_2 {I : Int → Int} {b : Int} : bv I b 2 = bt I b + 2 * bt I (b + 1) := by
  show bv I b 1 + bt I (b + ((1 : Nat) : Int)) * p2 ((1 : Nat) : Int) = _
  rw [bv_1, show p2 ((1 : Nat) : Int) = 2 by decide, show b + ((1 : Nat) : Int) = b + 1 by omega]
  omega
theorem bv_4 {I : Int → Int} {b : Int} : bv I b 4 = bt I b + 2 * bt I (b + 1) + 4 * bt I (b + 2) + 8 * bt I (b + 3) := by
  show bv I b 2 + bt I (b + ((2 : Nat) : Int)) * p2 ((2 : Nat) : Int) + bt I (b + ((3 : Nat) : Int)) * p2 ((3 : Nat) : Int) = _
  rw [bv_2, show p2 ((2 : Nat) : Int) = 4 by decide, show p2 ((3 : Nat) : Int) = 8 by decide, show b + ((2 : Nat) : Int) = b + 2 by omega, show b + ((3 : Nat) : Int) = b + 3 by omega]
  omega
theorem bt_r {I : Int → Int} {k q v : Int} (hv : I q = v) (hq : q = k / 8) (hr : 0 ≤ v ∧ v ≤ 255) : andI (srI v (k % 8)) 1 = bt I k := by
  subst hq
  rw [andI_1, srI_d hr (by omega)]
  unfold bt
  rw [hv]
theorem andI_7 (a : Int) : andI a 7 = a % 8 := by
  have e : (Int32.ofInt a &&& Int32.ofInt 7).toBitVec.toNat = (Int32.ofInt a).toBitVec.toNat % 8 := by
    show ((Int32.ofInt a).toBitVec &&& (Int32.ofInt 7).toBitVec).toNat = _
    rw [BitVec.toNat_and, show (Int32.ofInt 7).toBitVec.toNat = 2 ^ 3 - 1 from by decide, Nat.and_two_pow_sub_one_eq_mod]
  have e2 := nU_m a
  rw [← nU_of] at e2
  unfold andI
  show (Int32.ofInt a &&& Int32.ofInt 7).toBitVec.toInt = _
  rw [BitVec.toInt_eq_toNat_of_lt (by rw [e]; omega), e]
  omega
theorem par8 {v j : Int} (h : 0 ≤ j ∧ j ≤ 7) : v / p2 j % 2 = u8 v / p2 j % 2 := by
  unfold u8
  rcases (show j = 0 ∨ j = 1 ∨ j = 2 ∨ j = 3 ∨ j = 4 ∨ j = 5 ∨ j = 6 ∨ j = 7 by omega) with e | e | e | e | e | e | e | e <;> subst e
  · rw [show p2 0 = 1 by decide]; omega
  · rw [show p2 1 = 2 by decide]; omega
  · rw [show p2 2 = 4 by decide]; omega
  · rw [show p2 3 = 8 by decide]; omega
  · rw [show p2 4 = 16 by decide]; omega
  · rw [show p2 5 = 32 by decide]; omega
  · rw [show p2 6 = 64 by decide]; omega
  · rw [show p2 7 = 128 by decide]; omega
theorem bt_c {f : Int → Int} {k q v : Int} (hv : f q = v) (hq : q = k / 8) (hr : -128 ≤ v ∧ v ≤ 127) : andI (srI v (andI k 7)) 1 = bt (ub8 f) k := by
  subst hq
  rw [andI_1, andI_7, show srI v (k % 8) = v / p2 (k % 8) from shr32 ⟨by omega, by omega⟩ (by omega), par8 (by omega)]
  unfold bt ub8
  rw [hv]
theorem orI_sh {x b k : Int} (hk : 0 ≤ k ∧ k ≤ 16) (hx : 0 ≤ x ∧ x < p2 k) (hb : 0 ≤ b ∧ b ≤ 1) : orI x (slI b k) = x + b * p2 k := by
  have r : inr (orI x (slI b k)) := toI_inr _
  have h1 := nU_or x (slI b k)
  rw [nU_sl (a := b) (k := k) (by omega) rfl] at h1
  have hq := p2_pos k
  have hp : p2 k ≤ p2 16 := p2_mono hk.2
  rw [show p2 16 = 65536 by decide] at hp
  have hm : 0 ≤ b * p2 k ∧ b * p2 k ≤ 65536 := by rcases (show b = 0 ∨ b = 1 by omega) with z | z <;> rw [z] <;> omega
  have e1 : nU x = x.toNat := by
    unfold nU
    rw [Int.emod_eq_of_lt (by omega) (by omega)]
  have e2 : nU (b * p2 k) = b.toNat * 2 ^ k.toNat := by
    unfold nU
    rw [Int.emod_eq_of_lt (by omega) (by omega)]
    apply Int.ofNat_inj.mp
    rw [Int.toNat_of_nonneg hm.1, Int.natCast_mul, Int.toNat_of_nonneg hb.1]
    rfl
  have ep : ((2 ^ k.toNat : Nat) : Int) = p2 k := rfl
  rw [e1, e2, or_add (k := k.toNat) (by omega)] at h1
  have h2 : ((nU (orI x (slI b k)) : Nat) : Int) = x + b * p2 k := by
    rw [h1, Int.natCast_add, Int.natCast_mul, Int.toNat_of_nonneg hx.1, Int.toNat_of_nonneg hb.1, ep]
  have r : -2147483648 ≤ orI x (slI b k) ∧ orI x (slI b k) ≤ 2147483647 := r
  unfold nU at h2
  omega

def SHn (lack n : Int) : Prop := 0 ≤ n ∧ p2 n ≤ lack + 1 ∧ lack + 1 < 2 * p2 n
theorem SHn_le {lack n m : Int} (h : SHn lack n) (k : SHn lack m) : n ≤ m := by
  obtain ⟨h0, h1, h2⟩ := h
  obtain ⟨k0, k1, k2⟩ := k
  by_cases z : n ≤ m
  · exact z
  · have p := p2_s (y := m) k0
    have q : p2 (m + 1) ≤ p2 n := p2_mono (by omega)
    omega
theorem SHn_det {lack n m : Int} (h : SHn lack n) (k : SHn lack m) : n = m := by
  have := SHn_le h k
  have := SHn_le k h
  omega
def SHv (I : Int → Int) (e b lack n u b2 : Int) : Prop := b + n ≤ e ∧ ((bv I b n.toNat < 2 * p2 n - 2 - lack ∧ u = bv I b n.toNat ∧ b2 = b + n) ∨ (2 * p2 n - 2 - lack ≤ bv I b n.toNat ∧ b + n + 1 ≤ e ∧ b2 = b + n + 1 ∧ ((bv I b n.toNat + bt I (b + n) * p2 n < p2 n ∧ u = bv I b n.toNat + bt I (b + n) * p2 n) ∨ (p2 n ≤ bv I b n.toNat + bt I (b + n) * p2 n ∧ u = bv I b n.toNat + bt I (b + n) * p2 n - (2 * p2 n - 2 - lack)))))
def SHu (I : Int → Int) (e b lack u b2 : Int) : Prop := ∃ n, SHn lack n ∧ SHv I e b lack n u b2
def SHx (I : Int → Int) (e b lack : Int) : Prop := ∃ n, SHn lack n ∧ (e < b + n ∨ b + n ≤ e ∧ 2 * p2 n - 2 - lack ≤ bv I b n.toNat ∧ e < b + n + 1)
theorem SHv_det {I : Int → Int} {e b lack n u b2 u' b2' : Int} (h : SHv I e b lack n u b2) (k : SHv I e b lack n u' b2') : u = u' ∧ b2 = b2' := by
  obtain ⟨_, h⟩ := h
  obtain ⟨_, k⟩ := k
  rcases h with ⟨h1, h2, h3⟩ | ⟨h1, h2, h3, h4⟩ <;> rcases k with ⟨k1, k2, k3⟩ | ⟨k1, k2, k3, k4⟩
  · exact ⟨h2.trans k2.symm, h3.trans k3.symm⟩
  · exfalso; omega
  · exfalso; omega
  · refine ⟨?_, h3.trans k3.symm⟩
    rcases h4 with ⟨x, y⟩ | ⟨x, y⟩ <;> rcases k4 with ⟨x', y'⟩ | ⟨x', y'⟩
    · exact y.trans y'.symm
    · exfalso; exact absurd x (Int.not_lt.mpr x')
    · exfalso; exact absurd x' (Int.not_lt.mpr x)
    · exact y.trans y'.symm
theorem SHu_det {I : Int → Int} {e b lack u b2 u' b2' : Int} (h : SHu I e b lack u b2) (k : SHu I e b lack u' b2') : u = u' ∧ b2 = b2' := by
  obtain ⟨n, h0, h⟩ := h
  obtain ⟨m, k0, k⟩ := k
  have e := SHn_det h0 k0
  subst e
  exact SHv_det h k
theorem SHu_x {I : Int → Int} {e b lack u b2 : Int} (h : SHu I e b lack u b2) : ¬ SHx I e b lack := fun k => by
  obtain ⟨n, h0, h1, h⟩ := h
  obtain ⟨m, k0, k⟩ := k
  have e := SHn_det h0 k0
  subst e
  rcases h with ⟨h2, h3, h4⟩ | ⟨h2, h3, h4, h5⟩ <;> rcases k with k | ⟨k1, k2, k3⟩ <;> omega

abbrev ShS := Int × Int × Int × Int × (Int → Int)
def SHs (I : Int → Int) (e last : Int) (s t : ShS) : Prop :=
  (s.2.2.2.1 = 0 ∧ 0 < s.2.1 ∧ s.2.2.1 ≤ last ∧ ∃ u b2, SHu I e s.1 s.2.1 u b2 ∧ t = (b2, s.2.1 - (if u = 0 then 1 else u - 1), s.2.2.1 + 1, (if u = 1 then 1 else 0), upd1 s.2.2.2.2 s.2.2.1 (u - 1))) ∨
  (s.2.2.2.1 ≠ 0 ∧ s.1 + 2 ≤ e ∧ s.2.2.1 + bv I s.1 2 ≤ last + 1 ∧ t = (s.1 + 2, s.2.1, s.2.2.1 + bv I s.1 2, (if bv I s.1 2 = 3 then 1 else 0), s.2.2.2.2))
def SHe (I : Int → Int) (e last : Int) (s : ShS) (R : Int × Int × (Int → Int)) : Prop :=
  (s.2.2.2.1 = 0 ∧ s.2.1 ≤ 0 ∧ R = (1, (s.1 + 7) / 8, s.2.2.2.2)) ∨
  (R = (0, 0, fun _ => 0) ∧ (s.2.2.2.1 = 0 ∧ 0 < s.2.1 ∧ (last < s.2.2.1 ∨ s.2.2.1 ≤ last ∧ SHx I e s.1 s.2.1) ∨ s.2.2.2.1 ≠ 0 ∧ (e < s.1 + 2 ∨ s.1 + 2 ≤ e ∧ last + 1 < s.2.2.1 + bv I s.1 2)))
theorem SHs_det {I : Int → Int} {e last : Int} (s t u : ShS) (h : SHs I e last s t) (k : SHs I e last s u) : t = u := by
  rcases h with ⟨a, b, c, x, y, d, f⟩ | ⟨a, b, c, d⟩ <;> rcases k with ⟨a', b', cₚ, x', y', d', f'⟩ | ⟨a', b', cₚ, d'⟩
  · obtain ⟨e1, e2⟩ := SHu_det d d'
    subst e1 e2
    rw [f, f']
  · exact absurd a a'
  · exact absurd a' a
  · rw [d, d']
theorem SHe_det {I : Int → Int} {e last : Int} (s : ShS) (R R2 : Int × Int × (Int → Int)) (h : SHe I e last s R) (k : SHe I e last s R2) : R = R2 := by
  rcases h with ⟨a, b, c⟩ | ⟨a, b⟩ <;> rcases k with ⟨a', b', cₚ⟩ | ⟨a', b'⟩
  · rw [c, cₚ]
  · exfalso
    rcases b' with ⟨x, y, _⟩ | ⟨x, _⟩
    · omega
    · exact x a
  · exfalso
    rcases b with ⟨x, y, _⟩ | ⟨x, _⟩
    · omega
    · exact x a'
  · rw [a, a']
theorem SHse {I : Int → Int} {e last : Int} (s t : ShS) (R : Int × Int × (Int → Int)) (h : SHs I e last s t) : ¬ SHe I e last s R := fun k => by
  rcases h with ⟨a, b, c, x, y, d, f⟩ | ⟨a, b, c, d⟩ <;> rcases k with ⟨a', b', cₚ⟩ | ⟨a', b'⟩
  · omega
  · rcases b' with ⟨p, q, r⟩ | ⟨p, _⟩
    · rcases r with r | ⟨r, r2⟩
      · omega
      · exact SHu_x d r2
    · exact p a
  · exact a a'
  · rcases b' with ⟨p, _⟩ | ⟨p, q⟩
    · exact a p
    · rcases q with q | ⟨q, q2⟩ <;> omega

def SHQ (I : Int → Int) (a e greatest last : Int) (R : Int × Int × Int × (Int → Int)) : Prop :=
  ((8 * e < 8 * a + 4 ∨ 8 * a + 4 ≤ 8 * e ∧ greatest < 5 + bv I (8 * a) 4) ∧ R = (0, 0, 0, fun _ => 0)) ∨
  (8 * a + 4 ≤ 8 * e ∧ 5 + bv I (8 * a) 4 ≤ greatest ∧ ∃ ok en P, IT (SHs I (8 * e) last) (SHe I (8 * e) last) (8 * a + 4, p2 (5 + bv I (8 * a) 4), 0, 0, fun _ => 0) (ok, en, P) ∧ (ok = 0 ∧ R = (0, 0, 0, fun _ => 0) ∨ ok ≠ 0 ∧ R = (1, 5 + bv I (8 * a) 4, en, P)))
theorem SHQ_det {I : Int → Int} {a e greatest last : Int} {R R2 : Int × Int × Int × (Int → Int)} (h : SHQ I a e greatest last R) (k : SHQ I a e greatest last R2) : R = R2 := by
  rcases h with ⟨x, y⟩ | ⟨x, y, ok, en, P, z, w⟩ <;> rcases k with ⟨x', y'⟩ | ⟨x', y', ok', en', P', z', w'⟩
  · rw [y, y']
  · exfalso; omega
  · exfalso; omega
  · have q := IT_det SHs_det SHe_det SHse z z'
    have e1 : ok = ok' := congrArg (fun x : Int × Int × (Int → Int) => x.1) q
    have e2 : en = en' := congrArg (fun x : Int × Int × (Int → Int) => x.2.1) q
    have e3 : P = P' := congrArg (fun x : Int × Int × (Int → Int) => x.2.2) q
    subst e1 e2 e3
    rcases w with ⟨w1, w2⟩ | ⟨w1, w2⟩ <;> rcases w' with ⟨w1', w2'⟩ | ⟨w1', w2'⟩
    · rw [w2, w2']
    · exact absurd w1 w1'
    · exact absurd w1' w1
    · rw [w2, w2']

def SHA (I : Int → Int) (a e greatest last ret o n : Int) (g : Int → Int) : Prop := ∃ ok o2 en P, SHQ I a e greatest last (ok, o2, en, P) ∧ (ok = 0 ∧ ret = -1 ∨ ok = 1 ∧ ret = en ∧ 0 ≤ en ∧ o = o2 ∧ ∀ i, 0 ≤ i → i < n → g i = P i)
theorem SHA_0 {I : Int → Int} {a e greatest last o n : Int} {g : Int → Int} (h : 8 * e < 8 * a + 4) : SHA I a e greatest last (-1) o n g := ⟨0, 0, 0, _, .inl ⟨.inl h, rfl⟩, .inl ⟨rfl, rfl⟩⟩
theorem SHA_g {I : Int → Int} {a e greatest last o n v : Int} {g : Int → Int} (h : 8 * a + 4 ≤ 8 * e) (hv : v = bv I (8 * a) 4) (hg : greatest < 5 + v) : SHA I a e greatest last (-1) o n g := ⟨0, 0, 0, _, .inl ⟨.inr ⟨h, by rw [← hv]; exact hg⟩, rfl⟩, .inl ⟨rfl, rfl⟩⟩

def SHO (I : Int → Int) (a e greatest last o n b lack s z : Int) (g : Int → Int) : Prop := 8 * a + 4 ≤ 8 * e ∧ o = 5 + bv I (8 * a) 4 ∧ o ≤ greatest ∧ ∃ P, ITO (SHs I (8 * e) last) (SHe I (8 * e) last) (8 * a + 4, p2 o, 0, 0, fun _ => 0) (b, lack, s, z, P) ∧ ∀ i, 0 ≤ i → i < n → g i = P i
theorem SHO_0 {I : Int → Int} {a e greatest last o n b lack s z v : Int} {g : Int → Int} (h : 8 * a + 4 ≤ 8 * e) (hv : v = bv I (8 * a) 4) (ho : o = 5 + v) (hg : o ≤ greatest) (hb : b = 8 * a + 4) (hl : lack = p2 o) (hs : s = 0) (hz : z = 0) (h0 : ∀ i, 0 ≤ i → i < n → g i = 0) : SHO I a e greatest last o n b lack s z g := by
  subst hb hl hs hz
  exact ⟨h, by rw [← hv]; exact ho, hg, fun _ => 0, ITO_0, h0⟩
theorem SHO_u {I : Int → Int} {a e greatest last o n b lack s z u b2 b3 l2 s2 z2 : Int} {g : Int → Int} (h : SHO I a e greatest last o n b lack s z g) (hz : z = 0) (hl : 0 < lack) (hs : s ≤ last) (hu : SHu I (8 * e) b lack u b2) (e1 : b3 = b2) (e2 : u = 0 ∧ l2 = lack - 1 ∨ u ≠ 0 ∧ l2 = lack - (u - 1)) (e3 : s2 = s + 1) (e4 : u = 1 ∧ z2 = 1 ∨ u ≠ 1 ∧ z2 = 0) {v : Int} (ev : v = u - 1) : SHO I a e greatest last o n b3 l2 s2 z2 (upd1 g s v) := by
  obtain ⟨h1, h2, h3, P, h4, h5⟩ := h
  subst e1 e3 ev
  have q2 : l2 = lack - (if u = 0 then 1 else u - 1) := by split <;> omega
  have q4 : z2 = (if u = 1 then 1 else 0) := by split <;> omega
  subst q2 q4
  refine ⟨h1, h2, h3, upd1 P s (u - 1), ITO_s h4 (.inl ⟨hz, hl, hs, u, b3, hu, rfl⟩), fun i x y => ?_⟩
  by_cases w : i = s
  · rw [w, upd1_s, upd1_s]
  · rw [upd1_o w, upd1_o w]; exact h5 i x y
theorem SHO_z {I : Int → Int} {a e greatest last o n b lack s z v b2 s2 z2 : Int} {g : Int → Int} (h : SHO I a e greatest last o n b lack s z g) (hz : z ≠ 0) (hb : b + 2 ≤ 8 * e) (hv : v = bv I b 2) (hs : s + v ≤ last + 1) (e1 : b2 = b + 2) (e3 : s2 = s + v) (e4 : v = 3 ∧ z2 = 1 ∨ v ≠ 3 ∧ z2 = 0) : SHO I a e greatest last o n b2 lack s2 z2 g := by
  obtain ⟨h1, h2, h3, P, h4, h5⟩ := h
  have q4 : z2 = (if v = 3 then 1 else 0) := by split <;> omega
  subst e1 e3 q4 hv
  exact ⟨h1, h2, h3, P, ITO_s h4 (.inr ⟨hz, hb, hs, rfl⟩), h5⟩
theorem SHO_y {I : Int → Int} {a e greatest last o n b lack s z r : Int} {g : Int → Int} (h : SHO I a e greatest last o n b lack s z g) (hz : z = 0) (hl : lack ≤ 0) (hr : r = (b + 7) / 8) (h0 : 0 ≤ r) : SHA I a e greatest last r o n g := by
  obtain ⟨h1, h2, h3, P, h4, h5⟩ := h
  subst hr
  exact ⟨1, o, (b + 7) / 8, P, .inr ⟨h1, by omega, 1, (b + 7) / 8, P, by rw [← h2]; exact ITO_e h4 (.inl ⟨hz, hl, rfl⟩), .inr ⟨by decide, by rw [← h2]⟩⟩, .inr ⟨rfl, rfl, h0, rfl, h5⟩⟩
theorem SHO_f {I : Int → Int} {a e greatest last o n b lack s z o2 n2 r : Int} {g g2 : Int → Int} (h : SHO I a e greatest last o n b lack s z g) (hr : r = -1) (k : (z = 0 ∧ 0 < lack ∧ (last < s ∨ s ≤ last ∧ SHx I (8 * e) b lack)) ∨ (z ≠ 0 ∧ (8 * e < b + 2 ∨ b + 2 ≤ 8 * e ∧ last + 1 < s + bv I b 2))) : SHA I a e greatest last r o2 n2 g2 := by
  obtain ⟨h1, h2, h3, P, h4, h5⟩ := h
  subst hr
  exact ⟨0, 0, 0, _, .inr ⟨h1, by omega, 0, 0, _, by rw [← h2]; exact ITO_e h4 (.inr ⟨rfl, k⟩), .inl ⟨rfl, rfl⟩⟩, .inl ⟨rfl, rfl⟩⟩
theorem SHu_a {I : Int → Int} {e b lack n v m b2 : Int} (hn : SHn lack n) (he : b + n ≤ e) (hv : v = bv I b n.toNat) (em : m = 2 * p2 n - 2 - lack) (hm : v < m) (hb : b2 = b + n) : SHu I e b lack v b2 := by
  subst hb em hv
  exact ⟨n, hn, he, .inl ⟨hm, rfl, rfl⟩⟩
theorem SHu_b {I : Int → Int} {e b lack n v m b2 w : Int} (hn : SHn lack n) (hv : v = bv I b n.toNat) (em : m = 2 * p2 n - 2 - lack) (hm : m ≤ v) (he : b + n + 1 ≤ e) (hw : w = v + bt I (b + n) * p2 n) (hl : w < p2 n) (hb : b2 = b + n + 1) : SHu I e b lack w b2 := by
  subst hb em hv hw
  exact ⟨n, hn, by omega, .inr ⟨hm, he, rfl, .inl ⟨hl, rfl⟩⟩⟩
theorem SHu_c {I : Int → Int} {e b lack n v m b2 w u : Int} (hn : SHn lack n) (hv : v = bv I b n.toNat) (em : m = 2 * p2 n - 2 - lack) (hm : m ≤ v) (he : b + n + 1 ≤ e) (hw : w = v + bt I (b + n) * p2 n) (hl : p2 n ≤ w) (hu : u = w - m) (hb : b2 = b + n + 1) : SHu I e b lack u b2 := by
  subst hb em hv hw hu
  exact ⟨n, hn, by omega, .inr ⟨hm, he, rfl, .inr ⟨hl, rfl⟩⟩⟩
theorem SHx_a {I : Int → Int} {e b lack n : Int} (hn : SHn lack n) (he : e < b + n) : SHx I e b lack := ⟨n, hn, .inl he⟩
theorem SHx_b {I : Int → Int} {e b lack n v m : Int} (hn : SHn lack n) (he : b + n ≤ e) (hv : v = bv I b n.toNat) (em : m = 2 * p2 n - 2 - lack) (hm : m ≤ v) (h1 : e < b + n + 1) : SHx I e b lack := by
  subst em hv
  exact ⟨n, hn, .inr ⟨he, hm, h1⟩⟩
def zf (x : Int) : Int := if x = 3 then 1 else 0
theorem zf_eq (x : Int) : x = 3 ∧ zf x = 1 ∨ x ≠ 3 ∧ zf x = 0 := by
  unfold zf
  split
  · exact .inl ⟨by assumption, rfl⟩
  · exact .inr ⟨by assumption, rfl⟩


end
